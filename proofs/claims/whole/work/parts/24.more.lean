/-! longs; counts; what the reference's loops say -/
abbrev lI (z : Int) : Int64 := Int64.ofInt z
theorem lz_toInt {z : Int} (h : -9223372036854775808 ≤ z ∧ z ≤ 9223372036854775807) : (lI z).toInt = z := Int64.toInt_ofInt_of_le (by omega) (by omega)
theorem lz_of {z : Int} (h : -2147483648 ≤ z ∧ z ≤ 2147483647) : (iI z).toInt64 = lI z := by
  rw [← Int64.toInt_inj, Int32.toInt_toInt64, iz_toInt h, lz_toInt (by omega)]
theorem lz_sub (a b : Int) : lI a - lI b = lI (a - b) := by
  rw [← Int64.toInt_inj]; simp
theorem lz_mul (a b : Int) : lI a * lI b = lI (a * b) := by
  rw [← Int64.toInt_inj]; simp
/-- the order of two numbers: 1, 0, -1 -/
def lc (a b : Int) : Int := if b < a then 1 else if a = b then 0 else -1
theorem lc_spec (a b : Int) : (b < a ∧ lc a b = 1) ∨ (a = b ∧ lc a b = 0) ∨ (a < b ∧ lc a b = -1) := by
  unfold lc
  split
  · omega
  · split <;> omega
theorem bi_iff (P : Prop) [Decidable P] : (P ∧ bi P = 1) ∨ (¬ P ∧ bi P = 0) := by
  by_cases h : P
  · exact Or.inl ⟨h, (bi_t h).symm⟩
  · exact Or.inr ⟨h, (bi_f h).symm⟩
section LK
variable {p : Program} {l : Launch} {e : Env} {R : Room} {s : State} {m : MethodId} {args : Array Value} {below : List Frame} {meth : Method} {c : Code} {H : Heap} {locs : List Loc} {cells slots : Nat} {Q : State → Prop} {pc : Nat} {ls : Array Slot} {rest : List Value} {cc : ByteArray}
theorem wk_i2l (hx : p.tables.exec = Jvm.exec) (hb : c.code = cc) {a : Int} (h : -2147483648 ≤ a ∧ a ≤ 2147483647) (hd : decode cc pc = .ok (.i2l, 1)) (k : W p l e R s m args below meth c H locs cells slots Q (F0 m (pc + 1) ls (.long (lI a) :: rest))) : W p l e R s m args below meth c H locs cells slots Q (F0 m pc ls (.int (iI a) :: rest)) :=
  lv_i2l hx hb hd (lz_of h) k
theorem wk_lsub (hx : p.tables.exec = Jvm.exec) (hb : c.code = cc) {a b : Int} (hd : decode cc pc = .ok (.lsub, 1)) (k : W p l e R s m args below meth c H locs cells slots Q (F0 m (pc + 1) ls (.long (lI (a - b)) :: rest))) : W p l e R s m args below meth c H locs cells slots Q (F0 m pc ls (.long (lI b) :: .long (lI a) :: rest)) := by
  refine lv_lsub hx hb hd ?_
  rw [lz_sub]; exact k
theorem wk_lmul (hx : p.tables.exec = Jvm.exec) (hb : c.code = cc) {a b : Int} (hd : decode cc pc = .ok (.lmul, 1)) (k : W p l e R s m args below meth c H locs cells slots Q (F0 m (pc + 1) ls (.long (lI (a * b)) :: rest))) : W p l e R s m args below meth c H locs cells slots Q (F0 m pc ls (.long (lI b) :: .long (lI a) :: rest)) := by
  refine lv_lmul hx hb hd ?_
  rw [lz_mul]; exact k
theorem wk_lcmp (hx : p.tables.exec = Jvm.exec) (hb : c.code = cc) {a b : Int} (h : -9223372036854775808 ≤ a ∧ a ≤ 9223372036854775807 ∧ -9223372036854775808 ≤ b ∧ b ≤ 9223372036854775807) (hd : decode cc pc = .ok (.lcmp, 1)) (k : W p l e R s m args below meth c H locs cells slots Q (F0 m (pc + 1) ls (.int (iI (lc a b)) :: rest))) : W p l e R s m args below meth c H locs cells slots Q (F0 m pc ls (.long (lI b) :: .long (lI a) :: rest)) := by
  refine W.lcmp hx hb hd ?_
  have e1 : lg_cmp (lI a) (lI b) = iI (lc a b) := by
    unfold lg_cmp lc
    simp only [Int64.lt_iff_toInt_lt, ← Int64.toInt_inj, lz_toInt (show -9223372036854775808 ≤ a ∧ a ≤ 9223372036854775807 by omega), lz_toInt (show -9223372036854775808 ≤ b ∧ b ≤ 9223372036854775807 by omega)]
    repeat' split
    all_goals first | rfl | omega
  rw [e1]; exact k
end LK
/-- how many of 1 .. n -/
def cn (P : Int → Bool) : Nat → Int
  | 0 => 0
  | n + 1 => cn P n + (if P ((n : Int) + 1) = true then 1 else 0)
theorem cn_step {P : Int → Bool} {i : Int} (h : 1 ≤ i) : cn P (i + 1 - 1).toNat = cn P (i - 1).toNat + (if P i = true then 1 else 0) := by
  have h1 : (i + 1 - 1).toNat = (i - 1).toNat + 1 := by omega
  rw [h1]
  show cn P (i - 1).toNat + (if P (((i - 1).toNat : Int) + 1) = true then 1 else 0) = _
  have h2 : (((i - 1).toNat : Int) + 1) = i := by omega
  rw [h2]
theorem cn_yes {P : Int → Bool} {i : Int} (h : 1 ≤ i) (hp : P i = true) : cn P (i + 1 - 1).toNat = cn P (i - 1).toNat + 1 := by rw [cn_step h, if_pos hp]
theorem cn_no {P : Int → Bool} {i : Int} (h : 1 ≤ i) (hp : ¬ P i = true) : cn P (i + 1 - 1).toNat = cn P (i - 1).toNat + 0 := by rw [cn_step h, if_neg hp]
theorem cn_rng (P : Int → Bool) (n : Nat) : 0 ≤ cn P n ∧ cn P n ≤ n := by
  induction n with
  | zero => exact ⟨by simp [cn], by simp [cn]⟩
  | succ n ih =>
    unfold cn
    split <;> omega
abbrev pSL (ks kz : Int → Int) (sl : Int) : Int → Bool := fun j => decide (ks j = sl ∧ ¬ kz j = 3)
abbrev pLN (kz kl : Int → Int) (ln : Int) : Int → Bool := fun j => decide (kz j = 1 ∧ kl j = ln)
abbrev pAH (kz kl mo : Int → Int) (ln b : Int) : Int → Bool := fun j => decide (kz j = 1 ∧ kl j = ln ∧ mo j < mo b)
abbrev pOR (kz kl mo : Int → Int) (kn ln ix : Int) : Int → Bool := fun j => decide (kz j = 1 ∧ kl j = ln ∧ cn (pAH kz kl mo ln j) (kn + 1 - 1).toNat = ix)
/-- how many of a slot are not ENDED -/
abbrev cS (ks kz : Int → Int) (kn : Int) : Int → Int := fun sl => cn (pSL ks kz sl) (kn + 1 - 1).toNat
/-- a box is withdrawn -/
def wdL (bx kn : Int) (kb : Int → Int) : Nat → Int → (Int → Int) → Int → (Int → Int) × Int
  | 0, _, kz, n => (kz, n)
  | f + 1, i, kz, n => if kb i = bx ∧ kz i = 1 then wdL bx kn kb f (i + 1) (iu kz i 3) (n + 1) else wdL bx kn kb f (i + 1) kz n
theorem wdL_end {bx kn i n : Int} {kb kz : Int → Int} (h : kn < i) : wdL bx kn kb (kn + 1 - i).toNat i kz n = (kz, n) := by
  have h1 : (kn + 1 - i).toNat = 0 := by omega
  rw [h1]; rfl
theorem wdL_step {bx kn i n : Int} {kb kz : Int → Int} (h : i ≤ kn) : wdL bx kn kb (kn + 1 - i).toNat i kz n = if kb i = bx ∧ kz i = 1 then wdL bx kn kb (kn + 1 - (i + 1)).toNat (i + 1) (iu kz i 3) (n + 1) else wdL bx kn kb (kn + 1 - (i + 1)).toNat (i + 1) kz n := by
  have h1 : (kn + 1 - i).toNat = (kn + 1 - (i + 1)).toNat + 1 := by omega
  rw [h1]; rfl
/-- the reference's first bar -/
def fbM (nw : Int) (mv bd : Int → Int) (kn : Int) (ks kt kb kz : Int → Int) (bk : Int) : Int := if ¬ kz bk = 0 then 1 else if nw < 600 * ks bk - 120 ∨ 600 * ks bk + 599 + 120 < nw then 2 else if mv (80 + 2 * kt bk + 4 - 4) = 0 then 3 else if mv (80 + 2 * kt bk + 5 - 4) = 0 then 4 else if mv (4 * kb bk + 0) = 0 then 5 else if mv (4 * kb bk + 1) = 0 then 6 else if mv (4 * kb bk + 2) = 0 then 7 else if ¬ bd (kb bk) = 0 ∧ mv (4 * kb bk + 3) = 0 then 8 else if ¬ sc (pIN kt kz (kt bk)) (-1) (kn + 1 - 1).toNat 1 = -1 then 9 else 0
theorem fbM_rng (nw : Int) (mv bd : Int → Int) (kn : Int) (ks kt kb kz : Int → Int) (bk : Int) : 0 ≤ fbM nw mv bd kn ks kt kb kz bk ∧ fbM nw mv bd kn ks kt kb kz bk ≤ 9 := by
  unfold fbM
  repeat' split
  all_goals omega
