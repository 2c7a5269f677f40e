/-! counts -/
theorem cn_ext {P Q : Int → Bool} : ∀ (n : Nat), (∀ j, 1 ≤ j → j ≤ (n : Int) → P j = Q j) → cn P n = cn Q n
  | 0, _ => rfl
  | n + 1, h => by
    show cn P n + _ = cn Q n + _
    rw [cn_ext n (fun j h1 h2 => h j h1 (by omega)), h ((n : Int) + 1) (by omega) (by omega)]
theorem cn_zero {P : Int → Bool} : ∀ (n : Nat), (∀ j, 1 ≤ j → j ≤ (n : Int) → ¬ P j = true) → cn P n = 0
  | 0, _ => rfl
  | n + 1, h => by
    show cn P n + _ = 0
    rw [cn_zero n (fun j h1 h2 => h j h1 (by omega)), if_neg (h ((n : Int) + 1) (by omega) (by omega))]
    rfl
theorem cn_one {P Q : Int → Bool} {b : Int} : ∀ (n : Nat), 1 ≤ b → b ≤ (n : Int) → (∀ j, 1 ≤ j → j ≤ (n : Int) → j ≠ b → P j = Q j) → cn Q n = cn P n + (if Q b = true then 1 else 0) - (if P b = true then 1 else 0)
  | 0, h1, h2, _ => by omega
  | n + 1, h1, h2, h => by
    show cn Q n + _ = cn P n + _ + _ - _
    by_cases hb : b = (n : Int) + 1
    · rw [cn_ext n (P := Q) (Q := P) (fun j h3 h4 => (h j h3 (by omega) (by omega)).symm), ← hb]
      omega
    · rw [cn_one n h1 (by omega) (fun j h3 h4 h5 => h j h3 (by omega) h5), h ((n : Int) + 1) (by omega) (by omega) (fun z => hb z.symm)]
      omega
/-- the places of w are what P holds of -/
theorem cn_enum : ∀ (m N : Nat) (P : Int → Bool) (w : Int → Int), (∀ i, 0 ≤ i → i < (m : Int) → P (w i) = true ∧ 1 ≤ w i ∧ w i ≤ (N : Int)) → (∀ b, 1 ≤ b → b ≤ (N : Int) → P b = true → ∃ i, 0 ≤ i ∧ i < (m : Int) ∧ w i = b) → (∀ i j, 0 ≤ i → i < j → j < (m : Int) → w i ≠ w j) → cn P N = (m : Int)
  | 0, N, P, w, _, h2, _ => cn_zero N (fun j a1 a2 a3 => by obtain ⟨i, b1, b2, _⟩ := h2 j a1 a2 a3; omega)
  | m + 1, N, P, w, h1, h2, h3 => by
    obtain ⟨a1, a2, a3⟩ := h1 (m : Int) (by omega) (by omega)
    have e1 : cn (fun j => P j && !decide (j = w (m : Int))) N = (m : Int) := by
      refine cn_enum m N _ w (fun i b1 b2 => ?_) (fun b b1 b2 b3 => ?_) (fun i j b1 b2 b3 => h3 i j b1 b2 (by omega))
      · obtain ⟨c1, c2⟩ := h1 i b1 (by omega)
        have c3 := h3 i (m : Int) b1 b2 (by omega)
        exact ⟨by simp [c1, c3], c2⟩
      · simp only [Bool.and_eq_true, Bool.not_eq_true', decide_eq_false_iff_not] at b3
        obtain ⟨i, c1, c2, c3⟩ := h2 b b1 b2 b3.1
        refine ⟨i, c1, ?_, c3⟩
        have c4 : i ≠ (m : Int) := fun z => b3.2 (by rw [← c3, z])
        omega
    have e2 := cn_one (P := P) (Q := fun j => P j && !decide (j = w (m : Int))) (b := w (m : Int)) N a2 a3 (fun j b1 b2 b3 => by simp [b3])
    rw [e1, if_pos a1, if_neg (by simp)] at e2
    omega
theorem tn1 (k : Int) : (k + 1 - 1).toNat = k.toNat := by rw [Int.add_sub_cancel]
/-! slots -/
theorem cS_rng (ks kz : Int → Int) {kn : Int} (h : kn ≤ 60) (j : Int) : 0 ≤ cS ks kz kn j ∧ cS ks kz kn j ≤ 1000000 := by
  have h1 := cn_rng (pSL ks kz j) (kn + 1 - 1).toNat
  show 0 ≤ cn (pSL ks kz j) (kn + 1 - 1).toNat ∧ cn (pSL ks kz j) (kn + 1 - 1).toNat ≤ 1000000
  omega
theorem cS_same {ks kz kz' : Int → Int} {kn : Int} (h : ∀ j, 1 ≤ j → j ≤ kn → (kz' j = 3 ↔ kz j = 3)) : cS ks kz' kn = cS ks kz kn := by
  funext sl
  refine cn_ext _ (fun j h1 h2 => ?_)
  have h3 := h j h1 (by omega)
  simp only [pSL, h3]
theorem cS_end {ks kz : Int → Int} {kn b : Int} (h1 : 1 ≤ b) (h2 : b ≤ kn) (h3 : ¬ kz b = 3) : cS ks (iu kz b 3) kn = iu (cS ks kz kn) (ks b) (cS ks kz kn (ks b) - 1) := by
  funext sl
  have e := cn_one (P := pSL ks kz sl) (Q := pSL ks (iu kz b 3) sl) (b := b) (kn + 1 - 1).toNat h1 (by omega) (fun j a1 a2 a3 => by simp only [pSL, iu_ne a3])
  have q1 : ¬ pSL ks (iu kz b 3) sl b = true := by simp [pSL, iu_at]
  rw [if_neg q1] at e
  show cn _ _ = iu _ _ _ sl
  rw [e]
  by_cases hs : sl = ks b
  · subst hs
    rw [iu_at, if_pos (by simp [pSL, h3])]
    show cn _ _ + 0 - 1 = cn _ _ - 1
    omega
  · rw [iu_ne hs, if_neg (by simp only [pSL, decide_eq_true_eq]; exact fun z => hs z.1.symm)]
    show cn _ _ + 0 - 0 = cn _ _
    omega
theorem cS_add {ks kz : Int → Int} {kn sl : Int} (h1 : 0 ≤ kn) : cS (iu ks (kn + 1) sl) (iu kz (kn + 1) 0) (kn + 1) = iu (cS ks kz kn) sl (cS ks kz kn sl + 1) := by
  funext s
  show cn _ (kn + 1 + 1 - 1).toNat = iu _ _ _ s
  have e0 : (kn + 1 + 1 - 1).toNat = (kn + 1 - 1).toNat + 1 := by omega
  have e1 : (((kn + 1 - 1).toNat : Int) + 1) = kn + 1 := by omega
  rw [e0]
  show cn _ (kn + 1 - 1).toNat + (if pSL (iu ks (kn + 1) sl) (iu kz (kn + 1) 0) s (((kn + 1 - 1).toNat : Int) + 1) = true then 1 else 0) = _
  rw [e1, cn_ext (Q := pSL ks kz s) (kn + 1 - 1).toNat (fun j a1 a2 => by simp only [pSL, iu_ne (show j ≠ kn + 1 by omega)])]
  by_cases hs : s = sl
  · subst hs
    rw [iu_at, if_pos (by simp [pSL, iu_at])]
  · rw [iu_ne hs, if_neg (by simp only [pSL, decide_eq_true_eq, iu_at]; exact fun z => hs z.1.symm)]
    show cn _ _ + 0 = cn _ _
    omega
theorem cS_move {ks kz : Int → Int} {kn b sl : Int} (h1 : 1 ≤ b) (h2 : b ≤ kn) (h3 : kz b = 0) (h4 : ¬ ks b = sl) : cS (iu ks b sl) kz kn = iu (iu (cS ks kz kn) (ks b) (cS ks kz kn (ks b) - 1)) sl (cS ks kz kn sl + 1) := by
  funext s
  have e := cn_one (P := pSL ks kz s) (Q := pSL (iu ks b sl) kz s) (b := b) (kn + 1 - 1).toNat h1 (by omega) (fun j a1 a2 a3 => by simp only [pSL, iu_ne a3])
  show cn _ _ = iu _ _ _ s
  rw [e]
  by_cases hs : s = sl
  · subst hs
    rw [iu_at, if_pos (by simp [pSL, iu_at, h3]), if_neg (by simp only [pSL, decide_eq_true_eq]; exact fun z => h4 z.1)]
    show cn _ _ + 1 - 0 = cn _ _ + 1
    omega
  · rw [iu_ne hs, if_neg (by simp only [pSL, decide_eq_true_eq, iu_at]; exact fun z => hs z.1.symm)]
    by_cases hs2 : s = ks b
    · subst hs2
      rw [iu_at, if_pos (by simp [pSL, h3])]
      show cn _ _ + 0 - 1 = cn _ _ - 1
      omega
    · rw [iu_ne hs2, if_neg (by simp only [pSL, decide_eq_true_eq]; exact fun z => hs2 z.1.symm)]
      show cn _ _ + 0 - 0 = cn _ _
      omega
/-! who did not come -/
theorem ns_spec {nw kn : Int} {ks : Int → Int} : ∀ (f : Nat) (i : Int) (kz tk : Int → Int) (n : Int), 1 ≤ i → kn + 1 - i ≤ (f : Int) → tk = cS ks kz kn →
    (nsL nw kn ks (kn + 1 - i).toNat i kz tk n).2.1 = cS ks (nsL nw kn ks (kn + 1 - i).toNat i kz tk n).1 kn ∧ ∀ j, (nsL nw kn ks (kn + 1 - i).toNat i kz tk n).1 j = kz j ∨ (kz j = 0 ∧ (nsL nw kn ks (kn + 1 - i).toNat i kz tk n).1 j = 3) := by
  intro f
  induction f with
  | zero =>
    intro i kz tk n hi h ht
    rw [nsL_end (by omega)]
    exact ⟨ht, fun j => Or.inl rfl⟩
  | succ f ih =>
    intro i kz tk n hi h ht
    by_cases hk : i ≤ kn
    · rw [nsL_step hk]
      by_cases hc : kz i = 0 ∧ 600 * ks i + 600 - 1 + 120 < nw
      · rw [if_pos hc]
        obtain ⟨h1, h2⟩ := ih (i + 1) (iu kz i 3) (iu tk (ks i) (tk (ks i) - 1)) (n + 1) (by omega) (by omega) (by rw [cS_end hi hk (by omega), ht])
        refine ⟨h1, fun j => ?_⟩
        rcases h2 j with h3 | ⟨h3, h4⟩
        · by_cases hj : j = i
          · subst hj; rw [iu_at] at h3; exact Or.inr ⟨hc.1, h3⟩
          · rw [iu_ne hj] at h3; exact Or.inl h3
        · by_cases hj : j = i
          · subst hj; exact Or.inr ⟨hc.1, h4⟩
          · rw [iu_ne hj] at h3; exact Or.inr ⟨h3, h4⟩
      · rw [if_neg hc]
        exact ih (i + 1) kz tk n (by omega) (by omega) ht
    · rw [nsL_end (by omega)]
      exact ⟨ht, fun j => Or.inl rfl⟩
/-! a box is withdrawn -/
theorem wd_none {bx kn : Int} {kb kz : Int → Int} {n : Int} : ∀ (f : Nat) (i : Int), kn + 1 - i ≤ (f : Int) → (∀ j, i ≤ j → j ≤ kn → ¬ (kb j = bx ∧ kz j = 1)) → wdL bx kn kb (kn + 1 - i).toNat i kz n = (kz, n) := by
  intro f
  induction f with
  | zero => intro i h _; exact wdL_end (by omega)
  | succ f ih =>
    intro i h hno
    by_cases hk : i ≤ kn
    · rw [wdL_step hk, if_neg (hno i (by omega) hk)]
      exact ih (i + 1) (by omega) (fun j h1 h2 => hno j (by omega) h2)
    · exact wdL_end (by omega)
theorem wd_one {bx kn b : Int} {kb kz : Int → Int} {n : Int} (hb : kb b = bx ∧ kz b = 1) : ∀ (f : Nat) (i : Int), kn + 1 - i ≤ (f : Int) → i ≤ b → b ≤ kn → (∀ j, i ≤ j → j ≤ kn → j ≠ b → ¬ (kb j = bx ∧ kz j = 1)) → wdL bx kn kb (kn + 1 - i).toNat i kz n = (iu kz b 3, n + 1) := by
  intro f
  induction f with
  | zero => intro i h h1 h2 _; omega
  | succ f ih =>
    intro i h h1 h2 hno
    rw [wdL_step (by omega)]
    by_cases hi : i = b
    · subst hi
      rw [if_pos hb]
      exact wd_none f (i + 1) (by omega) (fun j h3 h4 => by rw [iu_ne (by omega)]; exact hno j (by omega) h4 (by omega))
    · rw [if_neg (hno i (by omega) (by omega) hi)]
      exact ih (i + 1) (by omega) (by omega) h2 (fun j h3 h4 h5 => hno j (by omega) h4 h5)
/-! a lane -/
def rLn (ln n : Int) (w : Int → Int) (kn : Int) (kz kl mo : Int → Int) : Prop := (0 ≤ n ∧ n ≤ 16) ∧ (∀ j, 0 ≤ w j ∧ w j ≤ 1000000) ∧ (∀ i, 0 ≤ i → i < n → 1 ≤ w i ∧ w i ≤ kn ∧ kz (w i) = 1 ∧ kl (w i) = ln) ∧ (∀ b, 1 ≤ b → b ≤ kn → kz b = 1 → kl b = ln → ∃ i, 0 ≤ i ∧ i < n ∧ w i = b) ∧ ∀ i j, 0 ≤ i → i < j → j < n → mo (w i) < mo (w j)
theorem rl_ne {ln n : Int} {w : Int → Int} {kn : Int} {kz kl mo : Int → Int} (h : rLn ln n w kn kz kl mo) {i j : Int} (hi : 0 ≤ i) (hij : i < j) (hj : j < n) : w i ≠ w j := fun z => by
  have := h.2.2.2.2 i j hi hij hj
  rw [z] at this
  omega
theorem rl_cn {ln n : Int} {w : Int → Int} {kn : Int} {kz kl mo : Int → Int} (h : rLn ln n w kn kz kl mo) (hkn : 0 ≤ kn) : cn (pLN kz kl ln) (kn + 1 - 1).toNat = n := by
  have e : ((n.toNat : Nat) : Int) = n := by have := h.1; omega
  have e2 : (((kn + 1 - 1).toNat : Nat) : Int) = kn := by omega
  rw [cn_enum n.toNat (kn + 1 - 1).toNat (pLN kz kl ln) w ?_ ?_ ?_, e]
  · intro i h1 h2
    obtain ⟨a1, a2, a3, a4⟩ := h.2.2.1 i h1 (by omega)
    exact ⟨by simp [pLN, a3, a4], a1, by omega⟩
  · intro b h1 h2 h3
    simp only [pLN, decide_eq_true_eq] at h3
    obtain ⟨i, c1, c2, c3⟩ := h.2.2.2.1 b h1 (by omega) h3.1 h3.2
    exact ⟨i, c1, by omega, c3⟩
  · intro i j h1 h2 h3
    exact rl_ne h h1 h2 (by omega)
theorem rl_ah {ln n : Int} {w : Int → Int} {kn : Int} {kz kl mo : Int → Int} (h : rLn ln n w kn kz kl mo) (hkn : 0 ≤ kn) {p : Int} (hp : 0 ≤ p ∧ p < n) : cn (pAH kz kl mo ln (w p)) (kn + 1 - 1).toNat = p := by
  have e : ((p.toNat : Nat) : Int) = p := by omega
  have e2 : (((kn + 1 - 1).toNat : Nat) : Int) = kn := by omega
  rw [cn_enum p.toNat (kn + 1 - 1).toNat (pAH kz kl mo ln (w p)) w ?_ ?_ ?_, e]
  · intro i h1 h2
    obtain ⟨a1, a2, a3, a4⟩ := h.2.2.1 i h1 (by omega)
    have a5 := h.2.2.2.2 i p h1 (by omega) hp.2
    exact ⟨by simp [pAH, a3, a4, a5], a1, by omega⟩
  · intro b h1 h2 h3
    simp only [pAH, decide_eq_true_eq] at h3
    obtain ⟨i, c1, c2, c3⟩ := h.2.2.2.1 b h1 (by omega) h3.1 h3.2.1
    refine ⟨i, c1, ?_, c3⟩
    have hlt : mo (w i) < mo (w p) := by rw [c3]; exact h3.2.2
    have c4 : ¬ p < i := fun z => by have := h.2.2.2.2 p i hp.1 z c2; omega
    have c5 : i ≠ p := fun z => by rw [z] at hlt; omega
    omega
  · intro i j h1 h2 h3
    exact rl_ne h h1 h2 (by omega)
theorem rl_or {ln n : Int} {w : Int → Int} {kn : Int} {kz kl mo : Int → Int} (h : rLn ln n w kn kz kl mo) (hkn : 0 ≤ kn) {p : Int} (hp : 0 ≤ p) : sc (pOR kz kl mo kn ln p) (-1) (kn + 1 - 1).toNat 1 = if 0 ≤ p ∧ p < n then w p else -1 := by
  have key : ∀ j, 1 ≤ j → j ≤ kn → pOR kz kl mo kn ln p j = true → p < n ∧ w p = j := by
    intro j h1 h2 h3
    simp only [pOR, decide_eq_true_eq] at h3
    obtain ⟨i, c1, c2, c3⟩ := h.2.2.2.1 j h1 h2 h3.1 h3.2.1
    have e := rl_ah h hkn (p := i) ⟨c1, c2⟩
    rw [c3, h3.2.2] at e
    subst e
    exact ⟨c2, c3⟩
  by_cases hn : p < n
  · rw [if_pos ⟨hp, hn⟩]
    obtain ⟨a1, a2, a3, a4⟩ := h.2.2.1 p hp hn
    have hw : pOR kz kl mo kn ln p (w p) = true := by
      simp only [pOR, decide_eq_true_eq]
      exact ⟨a3, a4, rl_ah h hkn ⟨hp, hn⟩⟩
    obtain ⟨j, h1, h2, h3, h4⟩ := sc_ex (P := pOR kz kl mo kn ln p) (n := kn) (i := 1) ⟨w p, a1, a2, hw⟩ (-1)
    rw [h4]
    exact (key j h1 h2 h3).2.symm
  · rw [if_neg (fun z => hn z.2)]
    exact sc_all (fun j h1 h2 h3 => hn (key j h1 h2 h3).1) (-1)
theorem rl_keep {ln n : Int} {w : Int → Int} {kn kn' : Int} {kz kl mo kz' kl' mo' : Int → Int} (h : rLn ln n w kn kz kl mo) (hk : kn ≤ kn') (hb : ∀ b, 1 ≤ b → b ≤ kn' → ((kz' b = 1 ∧ kl' b = ln) ↔ (b ≤ kn ∧ kz b = 1 ∧ kl b = ln))) (hm : ∀ b, 1 ≤ b → b ≤ kn → kz b = 1 → kl b = ln → mo' b = mo b) : rLn ln n w kn' kz' kl' mo' := by
  refine ⟨h.1, h.2.1, fun i h1 h2 => ?_, fun b h1 h2 h3 h4 => ?_, fun i j h1 h2 h3 => ?_⟩
  · obtain ⟨a1, a2, a3, a4⟩ := h.2.2.1 i h1 h2
    have := (hb (w i) a1 (by omega)).mpr ⟨a2, a3, a4⟩
    exact ⟨a1, by omega, this.1, this.2⟩
  · obtain ⟨a1, a2, a3⟩ := (hb b h1 h2).mp ⟨h3, h4⟩
    exact h.2.2.2.1 b h1 a1 a2 a3
  · obtain ⟨a1, a2, a3, a4⟩ := h.2.2.1 i h1 (by omega)
    obtain ⟨b1, b2, b3, b4⟩ := h.2.2.1 j (by omega) h3
    rw [hm _ a1 a2 a3 a4, hm _ b1 b2 b3 b4]
    exact h.2.2.2.2 i j h1 h2 h3
theorem rl_add {ln n : Int} {w : Int → Int} {kn bk : Int} {kz kl mo kz' kl' mo' : Int → Int} (h : rLn ln n w kn kz kl mo) (hn : n < 16) (hbk : 1 ≤ bk ∧ bk ≤ kn) (hk6 : kn ≤ 60) (hno : ¬ (kz bk = 1 ∧ kl bk = ln)) (hb : ∀ b, 1 ≤ b → b ≤ kn → ((kz' b = 1 ∧ kl' b = ln) ↔ (b = bk ∨ (kz b = 1 ∧ kl b = ln)))) (hm : ∀ b, b ≠ bk → mo' b = mo b) (hlt : ∀ b, mo b < mo' bk) : rLn ln (n + 1) (iu w n bk) kn kz' kl' mo' := by
  have ne : ∀ i, 0 ≤ i → i < n → w i ≠ bk := fun i h1 h2 z => by
    obtain ⟨a1, a2, a3, a4⟩ := h.2.2.1 i h1 h2
    rw [z] at a3 a4
    exact hno ⟨a3, a4⟩
  have h0 := h.1
  refine ⟨by omega, fun j => ?_, fun i h1 h2 => ?_, fun b h1 h2 h3 h4 => ?_, fun i j h1 h2 h3 => ?_⟩
  · unfold iu
    split
    · omega
    · exact h.2.1 j
  · by_cases hi : i = n
    · subst hi; rw [iu_at]
      have := (hb bk hbk.1 hbk.2).mpr (Or.inl rfl)
      exact ⟨hbk.1, hbk.2, this.1, this.2⟩
    · rw [iu_ne hi]
      obtain ⟨a1, a2, a3, a4⟩ := h.2.2.1 i h1 (by omega)
      have := (hb (w i) a1 a2).mpr (Or.inr ⟨a3, a4⟩)
      exact ⟨a1, a2, this.1, this.2⟩
  · rcases (hb b h1 h2).mp ⟨h3, h4⟩ with rfl | ⟨a1, a2⟩
    · exact ⟨n, h0.1, by omega, iu_at _ _ _⟩
    · obtain ⟨i, c1, c2, c3⟩ := h.2.2.2.1 b h1 h2 a1 a2
      exact ⟨i, c1, by omega, by rw [iu_ne (by omega)]; exact c3⟩
  · rw [iu_ne (show i ≠ n by omega), hm _ (ne i h1 (by omega))]
    by_cases hj : j = n
    · subst hj; rw [iu_at]; exact hlt _
    · rw [iu_ne hj, hm _ (ne j (by omega) (by omega))]
      exact h.2.2.2.2 i j h1 h2 (by omega)
theorem rm_B6 (bk n : Int) : ∀ (f : Nat) (i k : Int) (x : Int → Int), (∀ j, 0 ≤ x j ∧ x j ≤ 1000000) → ∀ j, 0 ≤ (rmL bk n f i k x).1 j ∧ (rmL bk n f i k x).1 j ≤ 1000000
  | 0, _, _, _, h => h
  | f + 1, i, k, x, h => by
    unfold rmL
    split
    · exact rm_B6 bk n f _ _ x h
    · refine rm_B6 bk n f _ _ _ (fun j => ?_)
      unfold iu
      split
      · exact h i
      · exact h j
theorem rm_after {bk n : Int} : ∀ (f : Nat) (i k : Int) (x : Int → Int), n - i ≤ (f : Int) → 0 ≤ k → k < i → i ≤ n → (∀ j, i ≤ j → j < n → x j ≠ bk) →
    (rmL bk n (n - i).toNat i k x).2 = k + (n - i) ∧ (∀ j, j < k → (rmL bk n (n - i).toNat i k x).1 j = x j) ∧ ∀ j, k ≤ j → j < k + (n - i) → (rmL bk n (n - i).toNat i k x).1 j = x (j - k + i) := by
  intro f
  induction f with
  | zero =>
    intro i k x h h1 h2 h3 h4
    rw [rmL_end (by omega)]
    exact ⟨by show k = _; omega, fun j _ => rfl, fun j a1 a2 => by omega⟩
  | succ f ih =>
    intro i k x h h1 h2 h3 h4
    by_cases hn : i < n
    · rw [rmL_step hn, if_neg (h4 i (by omega) hn)]
      obtain ⟨e1, e2, e3⟩ := ih (i + 1) (k + 1) (iu x k (x i)) (by omega) (by omega) (by omega) (by omega) (fun j a1 a2 => by rw [iu_ne (by omega)]; exact h4 j (by omega) a2)
      refine ⟨by rw [e1]; omega, fun j a1 => ?_, fun j a1 a2 => ?_⟩
      · rw [e2 j (by omega), iu_ne (by omega)]
      · by_cases hj : j = k
        · subst hj
          rw [e2 j (by omega), iu_at]
          congr 1; omega
        · rw [e3 j (by omega) (by omega), iu_ne (by omega)]
          congr 1; omega
    · rw [rmL_end (by omega)]
      exact ⟨by show k = _; omega, fun j _ => rfl, fun j a1 a2 => by omega⟩
theorem rm_before {bk n p : Int} {w : Int → Int} (hw : w p = bk) (hp : p < n) (hb : ∀ j, 0 ≤ j → j < p → w j ≠ bk) : ∀ (f : Nat) (i : Int), p - i ≤ (f : Int) → 0 ≤ i → i ≤ p → rmL bk n (n - i).toNat i i w = rmL bk n (n - (p + 1)).toNat (p + 1) p w := by
  intro f
  induction f with
  | zero =>
    intro i h h0 h1
    have e : i = p := by omega
    subst e
    rw [rmL_step hp, if_pos hw]
  | succ f ih =>
    intro i h h0 h1
    by_cases e : i = p
    · subst e; rw [rmL_step hp, if_pos hw]
    · rw [rmL_step (by omega), if_neg (hb i h0 (by omega))]
      have e2 : iu w i (w i) = w := by
        funext j; unfold iu; split
        · rename_i z; rw [z]
        · rfl
      rw [e2]
      exact ih (i + 1) (by omega) (by omega) (by omega)
theorem rl_rem {ln n : Int} {w : Int → Int} {kn bk : Int} {kz kl mo kz' kl' mo' : Int → Int} (h : rLn ln n w kn kz kl mo) (hbk : 1 ≤ bk ∧ bk ≤ kn) (hin : kz bk = 1 ∧ kl bk = ln) (hb : ∀ b, 1 ≤ b → b ≤ kn → ((kz' b = 1 ∧ kl' b = ln) ↔ (b ≠ bk ∧ kz b = 1 ∧ kl b = ln))) (hm : ∀ b, b ≠ bk → mo' b = mo b) : rLn ln (rmL bk n (n - 0).toNat 0 0 w).2 (rmL bk n (n - 0).toNat 0 0 w).1 kn kz' kl' mo' := by
  obtain ⟨p, hp0, hp1, hp2⟩ := h.2.2.2.1 bk hbk.1 hbk.2 hin.1 hin.2
  have h0 := h.1
  have e0 := rm_before (n := n) hp2 hp1 (fun j a1 a2 => by rw [← hp2]; exact rl_ne h a1 a2 hp1) p.toNat 0 (by omega) (by omega) hp0
  have hB := rm_B6 bk n (n - 0).toNat 0 0 w h.2.1
  obtain ⟨e1, e2, e3⟩ := rm_after (bk := bk) (n := n) n.toNat (p + 1) p w (by omega) hp0 (by omega) (by omega) (fun j a1 a2 => by rw [← hp2]; exact fun z => rl_ne h hp0 (show p < j by omega) a2 z.symm)
  rw [← e0] at e1 e2 e3
  have en : (rmL bk n (n - 0).toNat 0 0 w).2 = n - 1 := by rw [e1]; omega
  generalize hr : (rmL bk n (n - 0).toNat 0 0 w).1 = w' at *
  rw [en]
  have at1 : ∀ j, 0 ≤ j → j < n - 1 → w' j = w (if j < p then j else j + 1) := by
    intro j a1 a2
    by_cases hj : j < p
    · rw [if_pos hj]; exact e2 j hj
    · rw [if_neg hj, e3 j (by omega) (by omega)]; congr 1; omega
  have nb : ∀ i, 0 ≤ i → i < n → i ≠ p → w i ≠ bk := fun i a1 a2 a3 z => by
    rw [← hp2] at z
    rcases Int.lt_or_gt_of_ne a3 with q | q
    · exact rl_ne h a1 q hp1 z
    · exact rl_ne h hp0 q a2 z.symm
  have nb' : ∀ j, 0 ≤ j → j < n - 1 → w' j ≠ bk := fun j a1 a2 => by
    rw [at1 j a1 a2]
    split
    · exact nb j a1 (by omega) (by omega)
    · exact nb (j + 1) (by omega) (by omega) (by omega)
  refine ⟨by omega, hB, fun i h1 h2 => ?_, fun b h1 h2 h3 h4 => ?_, fun i j h1 h2 h3 => ?_⟩
  · have hne := nb' i h1 h2
    have hx : ∃ q, 0 ≤ q ∧ q < n ∧ w' i = w q := by
      rw [at1 i h1 h2]
      split
      · exact ⟨i, h1, by omega, rfl⟩
      · exact ⟨i + 1, by omega, by omega, rfl⟩
    obtain ⟨q, q1, q2, q3⟩ := hx
    obtain ⟨a1, a2, a3, a4⟩ := h.2.2.1 q q1 q2
    rw [← q3] at a1 a2 a3 a4
    have := (hb (w' i) a1 a2).mpr ⟨hne, a3, a4⟩
    exact ⟨a1, a2, this.1, this.2⟩
  · obtain ⟨a0, a1, a2⟩ := (hb b h1 h2).mp ⟨h3, h4⟩
    obtain ⟨q, q1, q2, q3⟩ := h.2.2.2.1 b h1 h2 a1 a2
    have qp : q ≠ p := fun z => a0 (by rw [← q3, z]; exact hp2)
    by_cases hq : q < p
    · exact ⟨q, q1, by omega, by rw [at1 q q1 (by omega), if_pos hq]; exact q3⟩
    · refine ⟨q - 1, by omega, by omega, ?_⟩
      rw [at1 (q - 1) (by omega) (by omega), if_neg (by omega), Int.sub_add_cancel]; exact q3
  · rw [hm _ (nb' i h1 (by omega)), hm _ (nb' j (by omega) h3), at1 i h1 (by omega), at1 j (by omega) h3]
    refine h.2.2.2.2 _ _ ?_ ?_ ?_
    · split <;> omega
    · split <;> split <;> omega
    · split <;> omega
/-! as many in a lane as trucks, at most -/
theorem pg : ∀ (N m : Nat) (f : Int → Int), (∀ i, 0 ≤ i → i < (m : Int) → 0 ≤ f i ∧ f i < (N : Int)) → (∀ i j, 0 ≤ i → i < j → j < (m : Int) → f i ≠ f j) → m ≤ N
  | 0, m, f, h1, _ => by
    by_cases hm : m = 0
    · omega
    · have := h1 0 (by omega) (by omega); omega
  | N + 1, m, f, h1, h2 => by
    by_cases hx : ∃ i, 0 ≤ i ∧ i < (m : Int) ∧ f i = (N : Int)
    · obtain ⟨i0, a1, a2, a3⟩ := hx
      have key := pg N (m - 1) (fun i => if i = i0 then f ((m : Int) - 1) else f i) (fun i b1 b2 => ?_) (fun i j b1 b2 b3 => ?_)
      · omega
      · show 0 ≤ (if i = i0 then f ((m : Int) - 1) else f i) ∧ (if i = i0 then f ((m : Int) - 1) else f i) < (N : Int)
        split
        · rename_i z
          have c1 := h1 ((m : Int) - 1) (by omega) (by omega)
          have c2 := h2 i0 ((m : Int) - 1) a1 (by omega) (by omega)
          omega
        · rename_i z
          have c1 := h1 i b1 (by omega)
          have c2 : f i ≠ f i0 := by
            rcases Int.lt_or_gt_of_ne z with q | q
            · exact h2 i i0 b1 q a2
            · exact fun y => h2 i0 i a1 q (by omega) y.symm
          omega
      · show (if i = i0 then f ((m : Int) - 1) else f i) ≠ (if j = i0 then f ((m : Int) - 1) else f j)
        split <;> split
        · omega
        · exact fun y => h2 j ((m : Int) - 1) (by omega) (by omega) (by omega) y.symm
        · exact h2 i ((m : Int) - 1) b1 (by omega) (by omega)
        · exact h2 i j b1 b2 (by omega)
    · have := pg N m f (fun i b1 b2 => by
        have c1 := h1 i b1 b2
        have c2 : f i ≠ (N : Int) := fun y => hx ⟨i, b1, b2, y⟩
        omega) h2
      omega
theorem rl_less {ln n : Int} {w : Int → Int} {kn : Int} {kz kl mo kt : Int → Int} (h : rLn ln n w kn kz kl mo) (ht : ∀ j, 0 ≤ kt j ∧ kt j < 16) (hu : ∀ b c, 1 ≤ b → b ≤ kn → 1 ≤ c → c ≤ kn → kz b = 1 → kz c = 1 → kt b = kt c → b = c) {tr : Int} (htr : 0 ≤ tr ∧ tr < 16) (hno : ∀ i, 0 ≤ i → i < n → kt (w i) ≠ tr) : n < 16 := by
  have h0 := h.1
  have key := pg 16 (n.toNat + 1) (fun i => if i = n then tr else kt (w i)) (fun i b1 b2 => ?_) (fun i j b1 b2 b3 => ?_)
  · omega
  · show 0 ≤ (if i = n then tr else kt (w i)) ∧ (if i = n then tr else kt (w i)) < ((16 : Nat) : Int)
    split
    · omega
    · have := ht (w i); omega
  · show (if i = n then tr else kt (w i)) ≠ (if j = n then tr else kt (w j))
    rw [if_neg (by omega)]
    split
    · exact hno i b1 (by omega)
    · intro z
      obtain ⟨a1, a2, a3, _⟩ := h.2.2.1 i b1 (by omega)
      obtain ⟨c1, c2, c3, _⟩ := h.2.2.1 j (by omega) (by omega)
      exact rl_ne h b1 b2 (by omega) (hu _ _ a1 a2 c1 c2 a3 c3 z)
