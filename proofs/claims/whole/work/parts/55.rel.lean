/-! what holds between the two, and of each -/
def rA (sn sm : Int) : Prop := (1 ≤ sn ∧ sn ≤ 24) ∧ 1 ≤ sm ∧ sm ≤ 8
def rS (rn : Int) (rs : Int → Int) : Prop := (0 ≤ rn ∧ rn ≤ 11) ∧ (∀ j, 0 ≤ rs j ∧ rs j ≤ 1000000) ∧ ∀ j, 0 ≤ j → j < rn → 0 ≤ wrt (rs j) ∧ wrt (rs j) ≤ 26
def rB (bn : Int) (bs bw bd : Int → Int) : Prop := (0 ≤ bn ∧ bn ≤ 20) ∧ (∀ j, 0 ≤ bs j ∧ bs j ≤ 1000000) ∧ (∀ j, 0 ≤ bw j ∧ bw j ≤ 100000) ∧ ∀ j, bd j = 0 ∨ bd j = 1
def rV (bn : Int) (bv tv mv : Int → Int) : Prop := (∀ j, 0 ≤ bv j ∧ bv j ≤ 1000000) ∧ (∀ j, 0 ≤ tv j ∧ tv j ≤ 1000000) ∧ (∀ j, 0 ≤ mv j ∧ mv j ≤ 1000000) ∧ (∀ x k, 0 ≤ x → x < 20 → 0 ≤ k → k < 4 → mv (4 * x + k) = if x < bn then bv (x * 4 + k) else if k = 0 then 0 else 1) ∧ ∀ t k, 0 ≤ t → t < 16 → 4 ≤ k → k < 6 → mv (80 + 2 * t + k - 4) = tv (t * 2 + k - 4)
def rN (nw al lg : Int) : Prop := (0 ≤ nw ∧ nw ≤ 100000) ∧ (0 ≤ al ∧ al ≤ 1000) ∧ 0 ≤ lg ∧ lg ≤ 100000
def rK (kn bn : Int) (ks kt kb kz kl kc : Int → Int) : Prop := (0 ≤ kn ∧ kn ≤ 60) ∧ (∀ j, 0 ≤ ks j ∧ ks j < 24) ∧ (∀ j, 0 ≤ kt j ∧ kt j < 16) ∧ (∀ j, 0 ≤ kb j ∧ kb j < 20) ∧ (∀ j, 1 ≤ j → j ≤ kn → kb j < bn) ∧ (∀ j, 0 ≤ kz j ∧ kz j ≤ 3) ∧ (∀ j, 0 ≤ kl j ∧ kl j ≤ 2) ∧ ∀ j, 0 ≤ kc j ∧ kc j ≤ 100000
def rU (kn : Int) (kt kb kz : Int → Int) : Prop := (∀ b c, 1 ≤ b → b ≤ kn → 1 ≤ c → c ≤ kn → kz b = 1 → kz c = 1 → kt b = kt c → b = c) ∧ ∀ b c, 1 ≤ b → b ≤ kn → 1 ≤ c → c ≤ kn → ¬ kz b = 3 → ¬ kz c = 3 → kb b = kb c → b = c
def rM (kn : Int) (kz ku mt : Int → Int) : Prop := ∀ b, 1 ≤ b → b ≤ kn → mt b = if kz b = 2 then ku b else -1
def rO (i cm : Int) (mo : Int → Int) : Prop := (0 ≤ cm ∧ cm ≤ i) ∧ ∀ b, 0 ≤ mo b ∧ mo b ≤ cm
theorem iu_all {P : Int → Prop} {f : Int → Int} {k v : Int} (h : ∀ j, P (f j)) (hv : P v) : ∀ j, P (iu f k v j) := fun j => by
  unfold iu
  split
  · exact hv
  · exact h j
theorem rS_add {rn ch : Int} {rs : Int → Int} (h : rS rn rs) (h1 : rn < 11) (h2 : (65 ≤ ch ∧ ch ≤ 90) ∨ (48 ≤ ch ∧ ch ≤ 57)) : rS (rn + 1) (iu rs rn ch) := by
  obtain ⟨a1, a2, a3⟩ := h
  refine ⟨by omega, iu_all (P := fun z => 0 ≤ z ∧ z ≤ 1000000) a2 (by omega), fun j b1 b2 => ?_⟩
  by_cases hj : j = rn
  · subst hj; rw [iu_at]; unfold wrt; split <;> omega
  · rw [iu_ne hj]; exact a3 j b1 (by omega)
theorem rS_clr {rn : Int} {rs : Int → Int} (h : rS rn rs) : rS 0 rs := ⟨by omega, h.2.1, fun j b1 b2 => by omega⟩
theorem cp_B6 {bs nu : Int → Int} {b : Int} (h1 : ∀ j, 0 ≤ bs j ∧ bs j ≤ 1000000) (h2 : ∀ j, 0 ≤ nu j ∧ nu j ≤ 1000000) : ∀ n j, 0 ≤ cpN bs b nu n j ∧ cpN bs b nu n j ≤ 1000000
  | 0, j => h1 j
  | n + 1, j => iu_all (P := fun z => 0 ≤ z ∧ z ≤ 1000000) (cp_B6 h1 h2 n) (h2 _) j
theorem rB_add {bn wt dg : Int} {bs bw bd rs : Int → Int} (h : rB bn bs bw bd) (h1 : bn < 20) (hr : ∀ j, 0 ≤ rs j ∧ rs j ≤ 1000000) (hw : 1 ≤ wt ∧ wt ≤ 100000) (hd : dg = 0 ∨ dg = 1) : rB (bn + 1) (cpN bs (bn * 10) rs 10) (iu bw bn wt) (iu bd bn dg) := by
  obtain ⟨a1, a2, a3, a4⟩ := h
  exact ⟨by omega, cp_B6 a2 hr 10, iu_all (P := fun z => 0 ≤ z ∧ z ≤ 100000) a3 (by omega), iu_all (P := fun z => z = 0 ∨ z = 1) a4 hd⟩
theorem rV_add {bn : Int} {bv tv mv : Int → Int} (h : rV bn bv tv mv) (h1 : 0 ≤ bn ∧ bn < 20) : rV (bn + 1) (iu (iu (iu (iu bv (bn * 4 + 0) 0) (bn * 4 + 1) 1) (bn * 4 + 2) 1) (bn * 4 + 3) 1) tv mv := by
  obtain ⟨a1, a2, a3, a4, a5⟩ := h
  have p6 : ∀ {f : Int → Int} {k v : Int}, (∀ j, 0 ≤ f j ∧ f j ≤ 1000000) → 0 ≤ v ∧ v ≤ 1 → ∀ j, 0 ≤ iu f k v j ∧ iu f k v j ≤ 1000000 := fun q1 q2 => iu_all (P := fun z => 0 ≤ z ∧ z ≤ 1000000) q1 (by omega)
  refine ⟨p6 (p6 (p6 (p6 a1 (by omega)) (by omega)) (by omega)) (by omega), a2, a3, fun x k b1 b2 b3 b4 => ?_, a5⟩
  have e := a4 x k b1 b2 b3 b4
  by_cases hx : x = bn
  · subst hx
    rw [e, if_neg (by omega), if_pos (show x < x + 1 by omega)]
    rcases (show k = 0 ∨ k = 1 ∨ k = 2 ∨ k = 3 by omega) with rfl | rfl | rfl | rfl
    · rw [iu_ne (by omega), iu_ne (by omega), iu_ne (by omega), iu_at]; rfl
    · rw [iu_ne (by omega), iu_ne (by omega), iu_at]; rfl
    · rw [iu_ne (by omega), iu_at]; rfl
    · rw [iu_at]; rfl
  · rw [e, iu_ne (by omega), iu_ne (by omega), iu_ne (by omega), iu_ne (by omega)]
    by_cases hl : x < bn
    · rw [if_pos hl, if_pos (by omega)]
    · rw [if_neg hl, if_neg (show ¬ x < bn + 1 by omega)]
theorem rV_b {bn of kd vd : Int} {bv tv mv : Int → Int} (h : rV bn bv tv mv) (h0 : bn ≤ 20) (h1 : 0 ≤ of ∧ of < bn) (h2 : 0 ≤ kd ∧ kd < 4) (h3 : 0 ≤ vd ∧ vd ≤ 2) : rV bn (iu bv (of * 4 + kd) vd) tv (iu mv (4 * of + kd) vd) := by
  obtain ⟨a1, a2, a3, a4, a5⟩ := h
  refine ⟨iu_all (P := fun z => 0 ≤ z ∧ z ≤ 1000000) a1 (by omega), a2, iu_all (P := fun z => 0 ≤ z ∧ z ≤ 1000000) a3 (by omega), fun x k b1 b2 b3 b4 => ?_, fun t k b1 b2 b3 b4 => ?_⟩
  · have e := a4 x k b1 b2 b3 b4
    by_cases hx : x = of ∧ k = kd
    · obtain ⟨rfl, rfl⟩ := hx
      rw [iu_at, if_pos h1.2, iu_at]
    · rw [iu_ne (by omega), e, iu_ne (by omega)]
  · rw [iu_ne (by omega)]; exact a5 t k b1 b2 b3 b4
theorem rV_r {bn of kd vd : Int} {bv tv mv : Int → Int} (h : rV bn bv tv mv) (h1 : 0 ≤ of ∧ of < 16) (h2 : 4 ≤ kd ∧ kd < 6) (h3 : 0 ≤ vd ∧ vd ≤ 2) : rV bn bv (iu tv (of * 2 + kd - 4) vd) (iu mv (80 + 2 * of + kd - 4) vd) := by
  obtain ⟨a1, a2, a3, a4, a5⟩ := h
  refine ⟨a1, iu_all (P := fun z => 0 ≤ z ∧ z ≤ 1000000) a2 (by omega), iu_all (P := fun z => 0 ≤ z ∧ z ≤ 1000000) a3 (by omega), fun x k b1 b2 b3 b4 => ?_, fun t k b1 b2 b3 b4 => ?_⟩
  · rw [iu_ne (by omega)]; exact a4 x k b1 b2 b3 b4
  · by_cases hx : t = of ∧ k = kd
    · obtain ⟨rfl, rfl⟩ := hx
      rw [iu_at, iu_at]
    · rw [iu_ne (by omega), iu_ne (by omega)]; exact a5 t k b1 b2 b3 b4
section RKs
variable {kn bn bk v sl tr bx : Int} {ks kt kb kz kl kc kz' ku mt mo : Int → Int}
theorem rK_bn (h : rK kn bn ks kt kb kz kl kc) : rK kn (bn + 1) ks kt kb kz kl kc := ⟨h.1, h.2.1, h.2.2.1, h.2.2.2.1, fun j a1 a2 => by have := h.2.2.2.2.1 j a1 a2; omega, h.2.2.2.2.2⟩
theorem rK_kz (h : rK kn bn ks kt kb kz kl kc) (hz : ∀ j, 0 ≤ kz' j ∧ kz' j ≤ 3) : rK kn bn ks kt kb kz' kl kc := ⟨h.1, h.2.1, h.2.2.1, h.2.2.2.1, h.2.2.2.2.1, hz, h.2.2.2.2.2.2⟩
theorem rK_z1 (h : rK kn bn ks kt kb kz kl kc) (hv : 0 ≤ v ∧ v ≤ 3) : rK kn bn ks kt kb (iu kz bk v) kl kc := rK_kz h (iu_all (P := fun z => 0 ≤ z ∧ z ≤ 3) h.2.2.2.2.2.1 hv)
theorem rK_ks (h : rK kn bn ks kt kb kz kl kc) (hv : 0 ≤ sl ∧ sl < 24) : rK kn bn (iu ks bk sl) kt kb kz kl kc := ⟨h.1, iu_all (P := fun z => 0 ≤ z ∧ z < 24) h.2.1 hv, h.2.2⟩
theorem rK_kl (h : rK kn bn ks kt kb kz kl kc) (hv : 0 ≤ v ∧ v ≤ 2) : rK kn bn ks kt kb kz (iu kl bk v) kc := ⟨h.1, h.2.1, h.2.2.1, h.2.2.2.1, h.2.2.2.2.1, h.2.2.2.2.2.1, iu_all (P := fun z => 0 ≤ z ∧ z ≤ 2) h.2.2.2.2.2.2.1 hv, h.2.2.2.2.2.2.2⟩
theorem rK_kc (h : rK kn bn ks kt kb kz kl kc) (hv : 0 ≤ v ∧ v ≤ 100000) : rK kn bn ks kt kb kz kl (iu kc bk v) := ⟨h.1, h.2.1, h.2.2.1, h.2.2.2.1, h.2.2.2.2.1, h.2.2.2.2.2.1, h.2.2.2.2.2.2.1, iu_all (P := fun z => 0 ≤ z ∧ z ≤ 100000) h.2.2.2.2.2.2.2 hv⟩
theorem rK_add (h : rK kn bn ks kt kb kz kl kc) (h1 : kn < 60) (h2 : 0 ≤ sl ∧ sl < 24) (h3 : 0 ≤ tr ∧ tr < 16) (h4 : 0 ≤ bx ∧ bx < bn) (h5 : bn ≤ 20) : rK (kn + 1) bn (iu ks (kn + 1) sl) (iu kt (kn + 1) tr) (iu kb (kn + 1) bx) (iu kz (kn + 1) 0) kl kc := by
  obtain ⟨a1, a2, a3, a4, a5, a6, a7⟩ := h
  refine ⟨by omega, iu_all (P := fun z => 0 ≤ z ∧ z < 24) a2 h2, iu_all (P := fun z => 0 ≤ z ∧ z < 16) a3 h3, iu_all (P := fun z => 0 ≤ z ∧ z < 20) a4 (by omega), fun j b1 b2 => ?_, iu_all (P := fun z => 0 ≤ z ∧ z ≤ 3) a6 (by omega), a7⟩
  by_cases hj : j = kn + 1
  · subst hj; rw [iu_at]; exact h4.2
  · rw [iu_ne hj]; exact a5 j b1 (by omega)
theorem rU_keep (h : rU kn kt kb kz) (hz : ∀ b, 1 ≤ b → b ≤ kn → (kz' b = 1 → kz b = 1) ∧ (¬ kz' b = 3 → ¬ kz b = 3)) : rU kn kt kb kz' :=
  ⟨fun b c a1 a2 a3 a4 a5 a6 => h.1 b c a1 a2 a3 a4 ((hz b a1 a2).1 a5) ((hz c a3 a4).1 a6), fun b c a1 a2 a3 a4 a5 a6 => h.2 b c a1 a2 a3 a4 ((hz b a1 a2).2 a5) ((hz c a3 a4).2 a6)⟩
theorem rU_z (h : rU kn kt kb kz) (hz : kz bk = 1) (hv : v = 2 ∨ v = 3) : rU kn kt kb (iu kz bk v) := by
  refine rU_keep h (fun b h1 h2 => ?_)
  unfold iu
  split
  · rename_i z; subst z; constructor <;> omega
  · exact ⟨id, id⟩
theorem rU_in (h : rU kn kt kb kz) (hz : kz bk = 0) (hno : ∀ j, 1 ≤ j → j ≤ kn → ¬ (kt j = kt bk ∧ kz j = 1)) : rU kn kt kb (iu kz bk 1) := by
  refine ⟨fun b c a1 a2 a3 a4 a5 a6 a7 => ?_, fun b c a1 a2 a3 a4 a5 a6 a7 => ?_⟩
  · by_cases hb : b = bk
    · by_cases hc : c = bk
      · rw [hb, hc]
      · rw [iu_ne hc] at a6; exact absurd ⟨by rw [← hb]; exact a7.symm, a6⟩ (hno c a3 a4)
    · rw [iu_ne hb] at a5
      by_cases hc : c = bk
      · exact absurd ⟨by rw [← hc]; exact a7, a5⟩ (hno b a1 a2)
      · rw [iu_ne hc] at a6; exact h.1 b c a1 a2 a3 a4 a5 a6 a7
  · have q : ∀ x, ¬ iu kz bk 1 x = 3 → ¬ kz x = 3 := fun x hx => by
      unfold iu at hx
      split at hx
      · rename_i z; rw [z]; omega
      · exact hx
    exact h.2 b c a1 a2 a3 a4 (q b a5) (q c a6) a7
theorem rU_add (h : rU kn kt kb kz) (hno : ∀ j, 1 ≤ j → j ≤ kn → ¬ (kb j = bx ∧ ¬ kz j = 3)) : rU (kn + 1) (iu kt (kn + 1) tr) (iu kb (kn + 1) bx) (iu kz (kn + 1) 0) := by
  refine ⟨fun b c a1 a2 a3 a4 a5 a6 a7 => ?_, fun b c a1 a2 a3 a4 a5 a6 a7 => ?_⟩
  · have hb : b ≠ kn + 1 := fun z => by subst z; rw [iu_at] at a5; omega
    have hc : c ≠ kn + 1 := fun z => by subst z; rw [iu_at] at a6; omega
    rw [iu_ne hb] at a5 a7; rw [iu_ne hc] at a6 a7
    exact h.1 b c a1 (by omega) a3 (by omega) a5 a6 a7
  · by_cases hb : b = kn + 1
    · by_cases hc : c = kn + 1
      · rw [hb, hc]
      · rw [iu_ne hc] at a6 a7; subst hb; rw [iu_at] at a7
        exact absurd ⟨a7.symm, a6⟩ (hno c a3 (by omega))
    · rw [iu_ne hb] at a5 a7
      by_cases hc : c = kn + 1
      · subst hc; rw [iu_at] at a7
        exact absurd ⟨a7, a5⟩ (hno b a1 (by omega))
      · rw [iu_ne hc] at a6 a7
        exact h.2 b c a1 (by omega) a3 (by omega) a5 a6 a7
theorem rM_keep (h : rM kn kz ku mt) (hz : ∀ b, 1 ≤ b → b ≤ kn → (kz' b = 2 ↔ kz b = 2)) : rM kn kz' ku mt := fun b h1 h2 => by
  rw [h b h1 h2]
  have := hz b h1 h2
  by_cases hk : kz b = 2
  · rw [if_pos hk, if_pos (this.mpr hk)]
  · rw [if_neg hk, if_neg (fun z => hk (this.mp z))]
theorem rM_z (h : rM kn kz ku mt) (hz : ¬ kz bk = 2) (hv : ¬ v = 2) : rM kn (iu kz bk v) ku mt := by
  refine rM_keep h (fun b h1 h2 => ?_)
  unfold iu
  split
  · rename_i z; subst z; constructor <;> (intro; omega)
  · exact Iff.rfl
theorem rM_done (h : rM kn kz ku mt) : rM kn (iu kz bk 2) (iu ku bk v) (iu mt bk v) := fun b h1 h2 => by
  by_cases hb : b = bk
  · subst hb; rw [iu_at, iu_at, iu_at, if_pos rfl]
  · rw [iu_ne hb, iu_ne hb, iu_ne hb]; exact h b h1 h2
theorem rM_add (h : rM kn kz ku mt) : rM (kn + 1) (iu kz (kn + 1) 0) ku (iu mt (kn + 1) (-1)) := fun b h1 h2 => by
  by_cases hb : b = kn + 1
  · subst hb; rw [iu_at, iu_at, if_neg (by omega)]
  · rw [iu_ne hb, iu_ne hb]; exact h b h1 (by omega)
end RKs
theorem rO_up {i cm : Int} {mo : Int → Int} (h : rO i cm mo) : rO (i + 4) cm mo := ⟨by have := h.1; omega, h.2⟩
theorem rO_add {i cm bk : Int} {mo : Int → Int} (h : rO i cm mo) : rO (i + 4) (cm + 1) (iu mo bk (cm + 1)) := by
  obtain ⟨a1, a2⟩ := h
  refine ⟨by omega, fun b => ?_⟩
  unfold iu
  split
  · omega
  · have := a2 b; omega
section RLs
variable {ln n kn bk k v cm : Int} {w kz kl mo kt : Int → Int}
/-- a booking comes in: into this lane, into another one -/
theorem rl_in (h : rLn ln n w kn kz kl mo) (hn : n < 16) (hbk : 1 ≤ bk ∧ bk ≤ kn) (hk6 : kn ≤ 60) (hz : kz bk = 0) (hc : ∀ b, 0 ≤ mo b ∧ mo b ≤ cm) : rLn ln (n + 1) (iu w n bk) kn (iu kz bk 1) (iu kl bk ln) (iu mo bk (cm + 1)) := by
  refine rl_add h hn hbk hk6 (fun z => by omega) (fun b _ _ => ?_) (fun b hb => iu_ne hb) (fun b => by rw [iu_at]; have := hc b; omega)
  by_cases hb : b = bk
  · subst hb; simp [iu_at]
  · simp [iu_ne hb, hb]
theorem rl_in' (h : rLn ln n w kn kz kl mo) (hz : kz bk = 0) (hk : ¬ k = ln) : rLn ln n w kn (iu kz bk 1) (iu kl bk k) (iu mo bk (cm + 1)) := by
  refine rl_keep h (Int.le_refl _) (fun b h1 h2 => ?_) (fun b h1 h2 h3 h4 => iu_ne (fun z => by subst z; omega))
  by_cases hb : b = bk
  · subst hb; simp [iu_at, hk, hz]
  · simp [iu_ne hb, h2]
/-- it goes: 2 done, 3 ended -/
theorem rl_out (h : rLn ln n w kn kz kl mo) (hbk : 1 ≤ bk ∧ bk ≤ kn) (hin : kz bk = 1 ∧ kl bk = ln) (hv : ¬ v = 1) : rLn ln (rmL bk n (n - 0).toNat 0 0 w).2 (rmL bk n (n - 0).toNat 0 0 w).1 kn (iu kz bk v) kl mo := by
  refine rl_rem h hbk hin (fun b h1 h2 => ?_) (fun b _ => rfl)
  by_cases hb : b = bk
  · subst hb; simp [iu_at, hv]
  · simp [iu_ne hb, hb]
theorem rl_out' (h : rLn ln n w kn kz kl mo) (hin : ¬ kl bk = ln) (hv : ¬ v = 1) : rLn ln n w kn (iu kz bk v) kl mo := by
  refine rl_keep h (Int.le_refl _) (fun b h1 h2 => ?_) (fun b _ _ _ _ => rfl)
  by_cases hb : b = bk
  · subst hb; simp [iu_at, hv, hin]
  · simp [iu_ne hb, h2]
/-- it is sent to another lane -/
theorem rl_from (h : rLn ln n w kn kz kl mo) (hbk : 1 ≤ bk ∧ bk ≤ kn) (hin : kz bk = 1 ∧ kl bk = ln) (hk : ¬ k = ln) : rLn ln (rmL bk n (n - 0).toNat 0 0 w).2 (rmL bk n (n - 0).toNat 0 0 w).1 kn kz (iu kl bk k) (iu mo bk (cm + 1)) := by
  refine rl_rem h hbk hin (fun b h1 h2 => ?_) (fun b hb => iu_ne hb)
  by_cases hb : b = bk
  · subst hb; simp [iu_at, hk]
  · simp [iu_ne hb, hb]
theorem rl_to (h : rLn ln n w kn kz kl mo) (hn : n < 16) (hbk : 1 ≤ bk ∧ bk ≤ kn) (hk6 : kn ≤ 60) (hz : kz bk = 1 ∧ ¬ kl bk = ln) (hc : ∀ b, 0 ≤ mo b ∧ mo b ≤ cm) : rLn ln (n + 1) (iu w n bk) kn kz (iu kl bk ln) (iu mo bk (cm + 1)) := by
  refine rl_add h hn hbk hk6 (fun z => hz.2 z.2) (fun b _ _ => ?_) (fun b hb => iu_ne hb) (fun b => by rw [iu_at]; have := hc b; omega)
  by_cases hb : b = bk
  · subst hb; simp [iu_at, hz.1]
  · simp [iu_ne hb, hb]
theorem rl_past (h : rLn ln n w kn kz kl mo) (hz : ¬ kl bk = ln) (hk : ¬ k = ln) : rLn ln n w kn kz (iu kl bk k) (iu mo bk (cm + 1)) := by
  refine rl_keep h (Int.le_refl _) (fun b h1 h2 => ?_) (fun b h1 h2 h3 h4 => iu_ne (fun z => by subst z; exact hz h4))
  by_cases hb : b = bk
  · subst hb; simp [iu_at, hk, hz]
  · simp [iu_ne hb, h2]
theorem rl_new (h : rLn ln n w kn kz kl mo) : rLn ln n w (kn + 1) (iu kz (kn + 1) 0) kl mo := by
  refine rl_keep h (by omega) (fun b h1 h2 => ?_) (fun b _ _ _ _ => rfl)
  by_cases hb : b = kn + 1
  · subst hb
    rw [iu_at]
    constructor
    · intro z; omega
    · intro z; omega
  · rw [iu_ne hb]
    exact ⟨fun z => ⟨by omega, z⟩, fun z => z.2⟩
theorem rl_ns {kz' : Int → Int} (h : rLn ln n w kn kz kl mo) (hz : ∀ j, kz' j = kz j ∨ (kz j = 0 ∧ kz' j = 3)) : rLn ln n w kn kz' kl mo := by
  refine rl_keep h (Int.le_refl _) (fun b h1 h2 => ?_) (fun b _ _ _ _ => rfl)
  rcases hz b with q | ⟨q1, q2⟩
  · rw [q]; exact ⟨fun z => ⟨h2, z⟩, fun z => z.2⟩
  · constructor
    · intro z; omega
    · intro z; omega
end RLs
theorem fb_eq {nw kn bn bk : Int} {bv bd tv mv ks kt kb kz : Int → Int} (h : rV bn bv tv mv) (ht : 0 ≤ kt bk ∧ kt bk < 16) (hb : 0 ≤ kb bk ∧ kb bk < bn) (h20 : bn ≤ 20) : fbM nw mv bd kn ks kt kb kz bk = fbR nw bv bd tv kn ks kt kb kz bk := by
  have e4 := h.2.2.2.2 (kt bk) 4 ht.1 ht.2 (by omega) (by omega)
  have e5 := h.2.2.2.2 (kt bk) 5 ht.1 ht.2 (by omega) (by omega)
  have q : ∀ k, 0 ≤ k → k < 4 → mv (4 * kb bk + k) = bv (kb bk * 4 + k) := fun k h1 h2 => by rw [h.2.2.2.1 (kb bk) k hb.1 (by omega) h1 h2, if_pos hb.2]
  unfold fbM fbR fbB
  rw [e4, e5, q 0 (by omega) (by omega), q 1 (by omega) (by omega), q 2 (by omega) (by omega), q 3 (by omega) (by omega)]
  repeat' split
  all_goals first | rfl | omega
theorem mv_box {bn x k : Int} {bv tv mv : Int → Int} (h : rV bn bv tv mv) (hx : 0 ≤ x ∧ x < bn) (h20 : bn ≤ 20) (hk : 0 ≤ k ∧ k < 4) : mv (4 * x + k) = bv (x * 4 + k) := by rw [h.2.2.2.1 x k hx.1 (by omega) hk.1 hk.2, if_pos hx.2]
theorem sc_no1 {P : Int → Bool} {n : Int} (h : sc P (-1) (n + 1 - 1).toNat 1 = -1) : ∀ j, 1 ≤ j → j ≤ n → ¬ P j = true := by
  rcases sc_spec P (-1) n (n + 1 - 1).toNat 1 (by omega) with ⟨-, h2⟩ | ⟨j, h1, h2, h3, h4, h5⟩
  · exact h2
  · omega
theorem sc_is {P : Int → Bool} {n : Int} (h : ¬ sc P (-1) (n + 1 - 1).toNat 1 = -1) : 1 ≤ sc P (-1) (n + 1 - 1).toNat 1 ∧ sc P (-1) (n + 1 - 1).toNat 1 ≤ n ∧ P (sc P (-1) (n + 1 - 1).toNat 1) = true := by
  rcases sc_spec P (-1) n (n + 1 - 1).toNat 1 (by omega) with ⟨h1, -⟩ | ⟨j, h1, h2, h3, h4, h5⟩
  · exact absurd h1 h
  · rw [h5]; exact ⟨h1, h2, h3⟩
