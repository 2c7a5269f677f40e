/-! pure words: scans, copies -/
/-- the first of n places from i on where P holds; d if there is none -/
def sc (P : Int → Bool) (d : Int) : Nat → Int → Int
  | 0, _ => d
  | n + 1, i => if P i = true then i else sc P d n (i + 1)
theorem sc_step {P : Int → Bool} {d n i : Int} (h : i ≤ n) : sc P d (n + 1 - i).toNat i = if P i = true then i else sc P d (n + 1 - (i + 1)).toNat (i + 1) := by
  have h1 : (n + 1 - i).toNat = (n + 1 - (i + 1)).toNat + 1 := by omega
  rw [h1]; rfl
theorem sc_end {P : Int → Bool} {d n i : Int} (h : n < i) : sc P d (n + 1 - i).toNat i = d := by
  have h1 : (n + 1 - i).toNat = 0 := by omega
  rw [h1]; rfl
theorem sc_yes {P : Int → Bool} {d n i : Int} (h : i ≤ n) (hp : P i = true) : sc P d (n + 1 - i).toNat i = i := by
  rw [sc_step h, if_pos hp]
theorem sc_no {P : Int → Bool} {d n i : Int} (h : i ≤ n) (hp : ¬ P i = true) : sc P d (n + 1 - i).toNat i = sc P d (n + 1 - (i + 1)).toNat (i + 1) := by
  rw [sc_step h, if_neg hp]
/-- what a scan from i to n says -/
theorem sc_spec (P : Int → Bool) (d n : Int) : ∀ (f : Nat) (i : Int), n + 1 - i ≤ (f : Int) → (sc P d (n + 1 - i).toNat i = d ∧ ∀ j, i ≤ j → j ≤ n → ¬ P j = true) ∨ (∃ j, i ≤ j ∧ j ≤ n ∧ P j = true ∧ (∀ q, i ≤ q → q < j → ¬ P q = true) ∧ sc P d (n + 1 - i).toNat i = j) := by
  intro f
  induction f with
  | zero =>
    intro i h
    exact Or.inl ⟨sc_end (by omega), fun j h1 h2 => by omega⟩
  | succ f ih =>
    intro i h
    by_cases hn : i ≤ n
    · by_cases hp : P i = true
      · exact Or.inr ⟨i, by omega, hn, hp, fun q h1 h2 => by omega, sc_yes hn hp⟩
      · rw [sc_no hn hp]
        rcases ih (i + 1) (by omega) with ⟨h1, h2⟩ | ⟨j, h1, h2, h3, h4, h5⟩
        · refine Or.inl ⟨h1, fun j h3 h4 => ?_⟩
          by_cases e : j = i
          · rw [e]; exact hp
          · exact h2 j (by omega) h4
        · refine Or.inr ⟨j, by omega, h2, h3, fun q h6 h7 => ?_, h5⟩
          by_cases e : q = i
          · rw [e]; exact hp
          · exact h4 q (by omega) h7
    · exact Or.inl ⟨sc_end (by omega), fun j h1 h2 => by omega⟩
abbrev pHB (kb kz : Int → Int) (bx : Int) : Int → Bool := fun j => decide (kb j = bx ∧ ¬ kz j = 3)
abbrev pIN (kt kz : Int → Int) (tr : Int) : Int → Bool := fun j => decide (kt j = tr ∧ kz j = 1)
abbrev pDF (bs nu : Int → Int) (bx : Int) : Int → Bool := fun j => decide (¬ bs (bx * 10 + j) = nu j)
abbrev pRM (tk : Int → Int) (sm : Int) : Int → Bool := fun j => decide (tk j < sm)
abbrev pNB (bs nu : Int → Int) : Int → Bool := fun j => decide (sc (pDF bs nu j) (-1) ((9 : Int) + 1 - 0).toNat 0 = -1)
/-- the worth of a sign, the sum of the first n -/
abbrev wrt (ch : Int) : Int := if 65 ≤ ch ∧ ch ≤ 90 then ch - 65 + 1 else ch - 48
def ckS (rs : Int → Int) : Nat → Int
  | 0 => 0
  | n + 1 => ckS rs n + wrt (rs (n : Int)) * ((n : Int) + 1)
theorem ckS_step (rs : Int → Int) {i : Int} (h : 0 ≤ i) : ckS rs (i + 1).toNat = ckS rs i.toNat + wrt (rs i) * (i + 1) := by
  have h1 : (i + 1).toNat = i.toNat + 1 := by omega
  rw [h1]
  show ckS rs i.toNat + wrt (rs (i.toNat : Int)) * ((i.toNat : Int) + 1) = _
  rw [Int.toNat_of_nonneg h]
/-- n places of nu are laid at b -/
def cpN (bs : Int → Int) (b : Int) (nu : Int → Int) : Nat → Int → Int
  | 0 => bs
  | n + 1 => iu (cpN bs b nu n) (b + (n : Int)) (nu (n : Int))
theorem cpN_step (bs : Int → Int) (b : Int) (nu : Int → Int) {i : Int} (h : 0 ≤ i) : cpN bs b nu (i + 1).toNat = iu (cpN bs b nu i.toNat) (b + i) (nu i) := by
  have h1 : (i + 1).toNat = i.toNat + 1 := by omega
  rw [h1]
  show iu (cpN bs b nu i.toNat) (b + (i.toNat : Int)) (nu (i.toNat : Int)) = _
  rw [Int.toNat_of_nonneg h]
/-- a booking leaves a lane -/
def rmL (bk n : Int) : Nat → Int → Int → (Int → Int) → (Int → Int) × Int
  | 0, _, k, w => (w, k)
  | f + 1, i, k, w => if w i = bk then rmL bk n f (i + 1) k w else rmL bk n f (i + 1) (k + 1) (iu w k (w i))
theorem rmL_end {bk n i k : Int} {w : Int → Int} (h : n ≤ i) : rmL bk n (n - i).toNat i k w = (w, k) := by
  have h1 : (n - i).toNat = 0 := by omega
  rw [h1]; rfl
theorem rmL_step {bk n i k : Int} {w : Int → Int} (h : i < n) : rmL bk n (n - i).toNat i k w = if w i = bk then rmL bk n (n - (i + 1)).toNat (i + 1) k w else rmL bk n (n - (i + 1)).toNat (i + 1) (k + 1) (iu w k (w i)) := by
  have h1 : (n - i).toNat = (n - (i + 1)).toNat + 1 := by omega
  rw [h1]; rfl
/-- who did not come -/
def nsL (nw kn : Int) (ks : Int → Int) : Nat → Int → (Int → Int) → (Int → Int) → Int → (Int → Int) × (Int → Int) × Int
  | 0, _, kz, tk, n => (kz, tk, n)
  | f + 1, i, kz, tk, n => if kz i = 0 ∧ 600 * ks i + 600 - 1 + 120 < nw then nsL nw kn ks f (i + 1) (iu kz i 3) (iu tk (ks i) (tk (ks i) - 1)) (n + 1) else nsL nw kn ks f (i + 1) kz tk n
theorem nsL_end {nw kn i n : Int} {ks kz tk : Int → Int} (h : kn < i) : nsL nw kn ks (kn + 1 - i).toNat i kz tk n = (kz, tk, n) := by
  have h1 : (kn + 1 - i).toNat = 0 := by omega
  rw [h1]; rfl
theorem nsL_step {nw kn i n : Int} {ks kz tk : Int → Int} (h : i ≤ kn) : nsL nw kn ks (kn + 1 - i).toNat i kz tk n = if kz i = 0 ∧ 600 * ks i + 600 - 1 + 120 < nw then nsL nw kn ks (kn + 1 - (i + 1)).toNat (i + 1) (iu kz i 3) (iu tk (ks i) (tk (ks i) - 1)) (n + 1) else nsL nw kn ks (kn + 1 - (i + 1)).toNat (i + 1) kz tk n := by
  have h1 : (kn + 1 - i).toNat = (kn + 1 - (i + 1)).toNat + 1 := by omega
  rw [h1]; rfl
/-- the first bar of a box, of a booking; 0 if there is none -/
def fbB (bv bd : Int → Int) (bx : Int) : Int := if bv (bx * 4 + 0) = 0 then 5 else if bv (bx * 4 + 1) = 0 then 6 else if bv (bx * 4 + 2) = 0 then 7 else if ¬ bd bx = 0 ∧ bv (bx * 4 + 3) = 0 then 8 else 0
theorem fbB_rng (bv bd : Int → Int) (bx : Int) : 0 ≤ fbB bv bd bx ∧ fbB bv bd bx ≤ 8 := by
  unfold fbB
  repeat' split
  all_goals omega
def fbR (nw : Int) (bv bd tv : Int → Int) (kn : Int) (ks kt kb kz : Int → Int) (bk : Int) : Int := if ¬ kz bk = 0 then 1 else if nw < 600 * ks bk - 120 ∨ 600 * ks bk + 600 - 1 + 120 < nw then 2 else if tv (kt bk * 2 + 4 - 4) = 0 then 3 else if tv (kt bk * 2 + 5 - 4) = 0 then 4 else if ¬ fbB bv bd (kb bk) = 0 then fbB bv bd (kb bk) else if ¬ sc (pIN kt kz (kt bk)) (-1) (kn + 1 - 1).toNat 1 = -1 then 9 else 0
theorem fbR_rng (nw : Int) (bv bd tv : Int → Int) (kn : Int) (ks kt kb kz : Int → Int) (bk : Int) : 0 ≤ fbR nw bv bd tv kn ks kt kb kz bk ∧ fbR nw bv bd tv kn ks kt kb kz bk ≤ 9 := by
  have h := fbB_rng bv bd (kb bk)
  unfold fbR
  repeat' split
  all_goals omega
