/-! lemmas of the reference's loops -/
theorem sc_low (P : Int → Bool) (d n i : Int) (hd : i ≤ d) (hn : i ≤ n + 1) : i ≤ sc P d (n + 1 - i).toNat i := by
  rcases sc_spec P d n (n + 1 - i).toNat i (by omega) with ⟨h, -⟩ | ⟨j, h1, -, -, -, h5⟩
  · rw [h]; exact hd
  · rw [h5]; exact h1
theorem sc_all {P : Int → Bool} {n i : Int} (h : ∀ j, i ≤ j → j ≤ n → ¬ P j = true) (d : Int) : sc P d (n + 1 - i).toNat i = d := by
  rcases sc_spec P d n (n + 1 - i).toNat i (by omega) with ⟨h1, -⟩ | ⟨j, h1, h2, h3, -, -⟩
  · exact h1
  · exact absurd h3 (h j h1 h2)
theorem sc_ex {P : Int → Bool} {n i : Int} (h : ∃ j, i ≤ j ∧ j ≤ n ∧ P j = true) (d : Int) : ∃ j, i ≤ j ∧ j ≤ n ∧ P j = true ∧ sc P d (n + 1 - i).toNat i = j := by
  rcases sc_spec P d n (n + 1 - i).toNat i (by omega) with ⟨h1, h2⟩ | ⟨j, h1, h2, h3, -, h5⟩
  · obtain ⟨j, a, b, c⟩ := h
    exact absurd c (h2 j a b)
  · exact ⟨j, h1, h2, h3, h5⟩
theorem kn_in {bs rs : Int → Int} {y y' i k : Int} (h : (y = 1 ∧ ∀ q, 0 ≤ q → q < k → ¬ pDF bs rs i q = true) ∨ (y = 0 ∧ ∃ q, 0 ≤ q ∧ q < k ∧ pDF bs rs i q = true)) (hk : 0 ≤ k) (hy : (y' = 1 ∧ y = 1 ∧ bs (10 * i + k) = rs k) ∨ (y' = 0 ∧ (y = 0 ∨ ¬ bs (10 * i + k) = rs k))) : (y' = 1 ∧ ∀ q, 0 ≤ q → q < k + 1 → ¬ pDF bs rs i q = true) ∨ (y' = 0 ∧ ∃ q, 0 ≤ q ∧ q < k + 1 ∧ pDF bs rs i q = true) := by
  have e1 : bs (i * 10 + k) = bs (10 * i + k) := by rw [Int.mul_comm i 10]
  rcases hy with ⟨h1, h2, h3⟩ | ⟨h1, h2⟩
  · left
    refine ⟨h1, fun q a b => ?_⟩
    rcases h with ⟨-, h4⟩ | ⟨h4, -⟩
    · by_cases e : q = k
      · subst e
        simp only [decide_eq_true_eq]
        rw [e1]; exact fun z => z h3
      · exact h4 q a (by omega)
    · omega
  · right
    refine ⟨h1, ?_⟩
    rcases h with ⟨h4, h5⟩ | ⟨h4, q, a, b, c⟩
    · refine ⟨k, hk, by omega, ?_⟩
      simp only [decide_eq_true_eq]
      rw [e1]
      rcases h2 with h2 | h2
      · omega
      · exact h2
    · exact ⟨q, a, by omega, c⟩
theorem kn_nb {bs rs : Int → Int} {y i k : Int} (h : (y = 1 ∧ ∀ q, 0 ≤ q → q < k → ¬ pDF bs rs i q = true) ∨ (y = 0 ∧ ∃ q, 0 ≤ q ∧ q < k ∧ pDF bs rs i q = true)) (hk : k = 10) : (y = 1 ∧ pNB bs rs i = true) ∨ (y = 0 ∧ ¬ pNB bs rs i = true) := by
  subst hk
  rcases h with ⟨h1, h2⟩ | ⟨h1, q, a, b, c⟩
  · left
    refine ⟨h1, ?_⟩
    simp only [pNB, decide_eq_true_eq]
    exact sc_all (fun j a b => h2 j a (by omega)) (-1)
  · right
    refine ⟨h1, ?_⟩
    simp only [pNB, decide_eq_true_eq]
    obtain ⟨j, a1, b1, -, e⟩ := sc_ex (n := 9) (i := 0) ⟨q, a, by omega, c⟩ (-1)
    rw [e]; omega
theorem kn_out {bs rs : Int → Int} {x x' y i k : Int} (hX : (x = 1 ∧ ∃ j, 0 ≤ j ∧ j < i ∧ pNB bs rs j = true) ∨ (x = 0 ∧ ∀ j, 0 ≤ j → j < i → ¬ pNB bs rs j = true)) (hY : (y = 1 ∧ ∀ q, 0 ≤ q → q < k → ¬ pDF bs rs i q = true) ∨ (y = 0 ∧ ∃ q, 0 ≤ q ∧ q < k ∧ pDF bs rs i q = true)) (hk : k = 10) (hi : 0 ≤ i) (hx : (x' = 1 ∧ (x = 1 ∨ y = 1)) ∨ (x' = 0 ∧ x = 0 ∧ y = 0)) : (x' = 1 ∧ ∃ j, 0 ≤ j ∧ j < i + 1 ∧ pNB bs rs j = true) ∨ (x' = 0 ∧ ∀ j, 0 ≤ j → j < i + 1 → ¬ pNB bs rs j = true) := by
  have h9 := kn_nb hY hk
  rcases hx with ⟨h1, h2⟩ | ⟨h1, h2, h3⟩
  · left
    refine ⟨h1, ?_⟩
    rcases hX with ⟨-, j, a, b, c⟩ | ⟨h4, -⟩
    · exact ⟨j, a, by omega, c⟩
    · rcases h9 with ⟨-, h9⟩ | ⟨h9, -⟩
      · exact ⟨i, hi, by omega, h9⟩
      · omega
  · right
    refine ⟨h1, fun j a b => ?_⟩
    rcases hX with ⟨h4, -⟩ | ⟨-, h4⟩
    · omega
    · by_cases e : j = i
      · subst e
        rcases h9 with ⟨h9, -⟩ | ⟨-, h9⟩
        · omega
        · exact h9
      · exact h4 j a (by omega)
theorem kn_end {bs rs : Int → Int} {x i bn : Int} (hX : (x = 1 ∧ ∃ j, 0 ≤ j ∧ j < i ∧ pNB bs rs j = true) ∨ (x = 0 ∧ ∀ j, 0 ≤ j → j < i → ¬ pNB bs rs j = true)) (hi : i = bn) : x = bi (¬ sc (pNB bs rs) (-1) (bn - 1 + 1 - 0).toNat 0 = -1) := by
  subst hi
  rcases hX with ⟨h1, j, a, b, c⟩ | ⟨h1, h2⟩
  · obtain ⟨j2, a1, b1, -, e⟩ := sc_ex (P := pNB bs rs) (n := i - 1) (i := 0) ⟨j, a, by omega, c⟩ (-1)
    rw [h1]
    exact bi_t (by rw [e]; omega)
  · rw [h1]
    exact bi_f (fun z => z (sc_all (fun j a b => h2 j a (by omega)) (-1)))
theorem ti_step {kt kz : Int → Int} {x x' i bk : Int} (hX : (x = 1 ∧ ∃ j, 1 ≤ j ∧ j < i ∧ pIN kt kz (kt bk) j = true) ∨ (x = 0 ∧ ∀ j, 1 ≤ j → j < i → ¬ pIN kt kz (kt bk) j = true)) (h1 : kz bk = 0) (hi : 1 ≤ i) (hx : (x' = 1 ∧ (x = 1 ∨ (¬ i = bk ∧ kt i = kt bk ∧ kz i = 1))) ∨ (x' = 0 ∧ x = 0 ∧ (i = bk ∨ ¬ kt i = kt bk ∨ ¬ kz i = 1))) : (x' = 1 ∧ ∃ j, 1 ≤ j ∧ j < i + 1 ∧ pIN kt kz (kt bk) j = true) ∨ (x' = 0 ∧ ∀ j, 1 ≤ j → j < i + 1 → ¬ pIN kt kz (kt bk) j = true) := by
  rcases hx with ⟨e1, e2⟩ | ⟨e1, e2, e3⟩
  · left
    refine ⟨e1, ?_⟩
    rcases hX with ⟨-, j, a, b, c⟩ | ⟨h4, -⟩
    · exact ⟨j, a, by omega, c⟩
    · refine ⟨i, hi, by omega, ?_⟩
      simp only [decide_eq_true_eq]
      omega
  · right
    refine ⟨e1, fun j a b => ?_⟩
    rcases hX with ⟨h4, -⟩ | ⟨-, h4⟩
    · omega
    · by_cases e : j = i
      · subst e
        simp only [decide_eq_true_eq]
        intro ⟨z1, z2⟩
        rcases e3 with e3 | e3 | e3
        · subst e3; omega
        · exact e3 z1
        · exact e3 z2
      · exact h4 j a (by omega)
theorem ti_end {kt kz : Int → Int} {x i kn bk : Int} (hX : (x = 1 ∧ ∃ j, 1 ≤ j ∧ j < i ∧ pIN kt kz (kt bk) j = true) ∨ (x = 0 ∧ ∀ j, 1 ≤ j → j < i → ¬ pIN kt kz (kt bk) j = true)) (hi : i = kn + 1) : x = bi (¬ sc (pIN kt kz (kt bk)) (-1) (kn + 1 - 1).toNat 1 = -1) := by
  subst hi
  rcases hX with ⟨h1, j, a, b, c⟩ | ⟨h1, h2⟩
  · obtain ⟨j2, a1, b1, -, e⟩ := sc_ex (P := pIN kt kz (kt bk)) (n := kn) (i := 1) ⟨j, a, by omega, c⟩ (-1)
    rw [h1]
    exact bi_t (by rw [e]; omega)
  · rw [h1]
    exact bi_f (fun z => z (sc_all (fun j a b => h2 j a (by omega)) (-1)))
theorem fu_step {ks kz : Int → Int} {kn sm sn sl i : Int} (hE : (i = sl) ∨ (sl < i ∧ sc (pRM (cS ks kz kn) sm) sn (sn - 1 + 1 - i).toNat i = sc (pRM (cS ks kz kn) sm) sn (sn - 1 + 1 - (sl + 1)).toNat (sl + 1))) (hi : i < sn) (hc : ¬ cn (pSL ks kz i) (kn + 1 - 1).toNat < sm) : (i + 1 = sl) ∨ (sl < i + 1 ∧ sc (pRM (cS ks kz kn) sm) sn (sn - 1 + 1 - (i + 1)).toNat (i + 1) = sc (pRM (cS ks kz kn) sm) sn (sn - 1 + 1 - (sl + 1)).toNat (sl + 1)) := by
  right
  rcases hE with rfl | ⟨h1, h2⟩
  · exact ⟨by omega, rfl⟩
  · refine ⟨by omega, ?_⟩
    have h3 := h2
    rw [sc_no (by omega) (by simp only [decide_eq_true_eq]; exact hc)] at h3
    exact h3
theorem fu_end {ks kz : Int → Int} {kn sm sn sl i : Int} (hE : (i = sl) ∨ (sl < i ∧ sc (pRM (cS ks kz kn) sm) sn (sn - 1 + 1 - i).toNat i = sc (pRM (cS ks kz kn) sm) sn (sn - 1 + 1 - (sl + 1)).toNat (sl + 1))) (hne : ¬ i = sl) (hc : sn ≤ i ∨ (i < sn ∧ cn (pSL ks kz i) (kn + 1 - 1).toNat < sm)) (hi : i ≤ sn) : -1 - i = -1 - sc (pRM (cS ks kz kn) sm) sn (sn - 1 + 1 - (sl + 1)).toNat (sl + 1) := by
  rcases hE with h | ⟨h1, h2⟩
  · exact absurd h hne
  · rw [← h2]
    rcases hc with hc | ⟨hc1, hc2⟩
    · rw [sc_end (by omega)]; omega
    · rw [sc_yes (by omega) (by simp only [decide_eq_true_eq]; exact hc2)]
theorem sc_high (P : Int → Bool) (d n i : Int) (hd : n + 1 ≤ d) : sc P d (n + 1 - i).toNat i ≤ d := by
  rcases sc_spec P d n (n + 1 - i).toNat i (by omega) with ⟨h, -⟩ | ⟨j, h1, h2, -, -, h5⟩
  · rw [h]; omega
  · rw [h5]; omega
theorem wr_l (c : Int) (h : 65 ≤ c ∧ c ≤ 90) : wrt c = c - 64 := by
  rw [wrt, if_pos h]; omega
theorem wr_d (c : Int) (h : ¬ (65 ≤ c ∧ c ≤ 90)) : wrt c = c - 48 := by
  rw [wrt, if_neg h]
theorem kn_x {P Q : Prop} {x : Int} (h : (x = 1 ∧ P) ∨ (x = 0 ∧ Q)) : x = 0 ∨ x = 1 := by
  rcases h with h | h
  · exact Or.inr h.1
  · exact Or.inl h.1
theorem kn_x2 {P Q : Prop} {x : Int} (h : (x = 1 ∧ P) ∨ (x = 0 ∧ Q)) : x = 0 ∨ x = 1 := kn_x h
