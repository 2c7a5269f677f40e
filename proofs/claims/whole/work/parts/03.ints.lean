/-! ints of the machine as whole numbers: iI z is the int of z -/
abbrev iI (z : Int) : Int32 := Int32.ofInt z
def iz_ok (z : Int) : Prop := -2147483648 ≤ z ∧ z ≤ 2147483647
theorem iz_toInt {z : Int} (h : -2147483648 ≤ z ∧ z ≤ 2147483647) : (iI z).toInt = z := Int32.toInt_ofInt_of_le (by omega) (by omega)
theorem iz_of (x : Int32) : iI x.toInt = x := Int32.ofInt_toInt x
theorem iz_rng (x : Int32) : -2147483648 ≤ x.toInt ∧ x.toInt ≤ 2147483647 := by
  have h1 := x.le_toInt
  have h2 := x.toInt_lt
  omega
theorem iz_add (a b : Int) : iI a + iI b = iI (a + b) := by
  rw [← Int32.toInt_inj]; simp
theorem iz_sub (a b : Int) : iI a - iI b = iI (a - b) := by
  rw [← Int32.toInt_inj]; simp
theorem iz_mul (a b : Int) : iI a * iI b = iI (a * b) := by
  rw [← Int32.toInt_inj]; simp
theorem iz_neg (a : Int) : -iI a = iI (-a) := by
  rw [← Int32.toInt_inj]; simp
theorem iz_lt {a b : Int} (h : -2147483648 ≤ a ∧ a ≤ 2147483647 ∧ -2147483648 ≤ b ∧ b ≤ 2147483647) : iI a < iI b ↔ a < b := by
  rw [Int32.lt_iff_toInt_lt, iz_toInt (by omega), iz_toInt (by omega)]
theorem iz_le {a b : Int} (h : -2147483648 ≤ a ∧ a ≤ 2147483647 ∧ -2147483648 ≤ b ∧ b ≤ 2147483647) : iI a ≤ iI b ↔ a ≤ b := by
  rw [Int32.le_iff_toInt_le, iz_toInt (by omega), iz_toInt (by omega)]
theorem iz_eq {a b : Int} (h : -2147483648 ≤ a ∧ a ≤ 2147483647 ∧ -2147483648 ≤ b ∧ b ≤ 2147483647) : iI a = iI b ↔ a = b := by
  rw [← Int32.toInt_inj, iz_toInt (by omega), iz_toInt (by omega)]
theorem iz_clamp {z : Int} (h : 0 ≤ z ∧ z ≤ 2147483647) : (iI z).toNatClampNeg = z.toNat := Int32.toNatClampNeg_ofInt_of_le (by omega) (by omega)
theorem iz_in {z : Int} {n : Nat} (h : 0 ≤ z ∧ z < (n : Int)) (hn : n < 2147483648) : vp_in (iI z) n := by
  rw [vp_in_iff, iz_toInt (by omega)]
  exact h
theorem iz_rem {a b : Int} (h : 0 ≤ a ∧ a ≤ 2147483647 ∧ 0 < b ∧ b ≤ 2147483647) : iI a - iI a / iI b * iI b = iI (a % b) := by
  rw [← Int32.toInt_inj, rem_toInt, iz_toInt (by omega), iz_toInt (by omega)]
  have h1 := Int.emod_nonneg a (show b ≠ 0 by omega)
  have h2 := Int.emod_lt_of_pos a h.2.2.1
  rw [iz_toInt (by omega), Int.tmod_eq_emod_of_nonneg h.1]
/-- an array's contents: whole numbers at whole numbers -/
def iF (f : Int → Int) : Nat → Int32 := fun j => iI (f (j : Int))
def iu (f : Int → Int) (k v : Int) : Int → Int := fun j => if j = k then v else f j
theorem iu_at (f : Int → Int) (k v : Int) : iu f k v k = v := if_pos rfl
theorem iu_ne {f : Int → Int} {k v j : Int} (h : j ≠ k) : iu f k v j = f j := if_neg h
theorem iF_at {f : Int → Int} {z : Int} (h : 0 ≤ z ∧ z ≤ 2147483647) : iF f (iI z).toNatClampNeg = iI (f z) := by
  rw [iz_clamp h]
  unfold iF
  rw [Int.toNat_of_nonneg h.1]
theorem iF_up {f : Int → Int} {z v : Int} (h : 0 ≤ z ∧ z ≤ 2147483647) : upd (iF f) (iI z).toNatClampNeg (iI v) = iF (iu f z v) := by
  rw [iz_clamp h]
  funext j
  unfold upd iF iu
  by_cases e : j = z.toNat
  · rw [if_pos e, if_pos (by omega)]
  · rw [if_neg e, if_neg (by omega)]
/-- a truth value as a number -/
def bi (P : Prop) [Decidable P] : Int := if P then 1 else 0
theorem bi_t {P : Prop} [Decidable P] (h : P) : 1 = bi P := (if_pos h).symm
theorem bi_f {P : Prop} [Decidable P] (h : ¬ P) : 0 = bi P := (if_neg h).symm
theorem bi_rng (P : Prop) [Decidable P] : 0 ≤ bi P ∧ bi P ≤ 1 := by
  unfold bi; split <;> omega
theorem bi_eq0 {P : Prop} [Decidable P] : iI (bi P) = 0 ↔ ¬ P := by
  by_cases h : P
  · rw [← bi_t h]; exact ⟨fun z => absurd z (by decide), fun z => absurd h z⟩
  · rw [← bi_f h]; exact ⟨fun _ => h, fun _ => rfl⟩
theorem bi_cong {P Q : Prop} [Decidable P] [Decidable Q] (h : P ↔ Q) : bi P = bi Q := by
  by_cases q : Q
  · rw [← bi_t q, ← bi_t (h.mpr q)]
  · rw [← bi_f q, ← bi_f (fun x => q (h.mp x))]
theorem bi_nar (P : Prop) [Decidable P] : narrow .boolean (.int (iI (bi P))) = .int (iI (bi P)) := by
  by_cases h : P
  · rw [← bi_t h]; rfl
  · rw [← bi_f h]; rfl
