/-! the start -/
theorem mv0_at : ∀ (n : Nat) (j : Int), 0 ≤ j → j < (n : Int) → mv0 n j = if j < 80 ∧ j % 4 = 0 then 0 else 1
  | 0, j, h1, h2 => by omega
  | n + 1, j, h1, h2 => by
    show iu (mv0 n) (n : Int) (if (n : Int) < 80 ∧ (n : Int) % 4 = 0 then 0 else 1) j = _
    by_cases hj : j = (n : Int)
    · subst hj; rw [iu_at]
    · rw [iu_ne hj]; exact mv0_at n j h1 (by omega)
theorem mv0_rng : ∀ (n : Nat) (j : Int), 0 ≤ mv0 n j ∧ mv0 n j ≤ 1000000
  | 0, _ => by show (0 : Int) ≤ 0 ∧ (0 : Int) ≤ 1000000; omega
  | n + 1, j => iu_all (P := fun z => 0 ≤ z ∧ z ≤ 1000000) (mv0_rng n) (by split <;> omega) j
theorem tv0_at : ∀ (n : Nat) (j : Int), 0 ≤ j → j < (n : Int) → tv0 n j = 1
  | 0, j, h1, h2 => by omega
  | n + 1, j, h1, h2 => by
    show iu (tv0 n) (n : Int) 1 j = _
    by_cases hj : j = (n : Int)
    · subst hj; rw [iu_at]
    · rw [iu_ne hj]; exact tv0_at n j h1 (by omega)
theorem tv0_rng : ∀ (n : Nat) (j : Int), 0 ≤ tv0 n j ∧ tv0 n j ≤ 1000000
  | 0, _ => by show (0 : Int) ≤ 0 ∧ (0 : Int) ≤ 1000000; omega
  | n + 1, j => iu_all (P := fun z => 0 ≤ z ∧ z ≤ 1000000) (tv0_rng n) (by omega) j
theorem rV_0 : rV 0 (fun _ => 0) (tv0 32) (mv0 112) := by
  refine ⟨fun _ => (by show (0 : Int) ≤ 0 ∧ (0 : Int) ≤ 1000000; omega), tv0_rng 32, mv0_rng 112, fun x k h1 h2 h3 h4 => ?_, fun t k h1 h2 h3 h4 => ?_⟩
  · rw [mv0_at 112 _ (by omega) (by omega), if_neg (show ¬ x < 0 by omega)]
    by_cases hk : k = 0
    · rw [if_pos hk, if_pos (by omega)]
    · rw [if_neg hk, if_neg (by omega)]
  · rw [mv0_at 112 _ (by omega) (by omega), tv0_at 32 _ (by omega) (by omega), if_neg (by omega)]
theorem rL_0 (ln : Int) : rLn ln 0 (fun _ => 0) 0 (fun _ => 0) (fun _ => 0) (fun _ => 0) := ⟨by omega, fun _ => by show (0 : Int) ≤ 0 ∧ (0 : Int) ≤ 1000000; omega, fun i h1 h2 => by omega, fun b h1 h2 => by omega, fun i j h1 h2 h3 => by omega⟩
theorem xs_of {s : State} {A : Array Value} {own tx : String} {k : Nat} {d : ClassId} (hown : s.vm.findClass own = some d) (h : (Cond.stringRef own k tx).before A s = true) : ∃ q, vk_R own k tx q s := by
  obtain ⟨k1, cf, i, a', _, _, _, _, _, hev⟩ := Cond.stringRef_spec hown h
  exact ⟨a', vk_R.of h hev⟩
theorem ar_of {s : State} {A : Array Value} {ty : FieldType} (hty : ty = .int ∨ ty = .boolean ∨ ty = .long) (h : (Cond.arrayClass ty).before A s = true) : ∃ cA : ClassId, ArrOfT s cA ty ∧ va_RA s cA ty := by
  obtain ⟨cA, k, comp, h1, h2, h3⟩ := Cond.arrayClass_spec h
  refine ⟨cA, fun n z => ⟨fun k h => (by cases h), k, h2, comp, h3⟩, ?_⟩
  rcases hty with rfl | rfl | rfl <;> exact h1
theorem ao_of {s : State} {C : String} (h : va_AO C s) : ∃ cA : ClassId, ArrOfT s cA (.object C) ∧ va_RA s cA (.object C) := by
  obtain ⟨comp, cA, k, h1, _, h3, h4, h5⟩ := Cond.arrayOver_spec (va_AO.use (A := #[]) h)
  exact ⟨cA, fun N z => ⟨fun k h => (by cases h), k, h3, comp, h4⟩, k, comp, h3, h4, h1, h5⟩
theorem cell_pre {s : State} {H : Heap} {locs : List Loc} {b L : Nat} {xs : Nat → Int32} {A : Nat → Prop} {As : List Value} (hX : va_X b L xs s s.heap) (hbl : b < s.heap.size) (hbA : ¬ A b) (hS : va_S A s.heap H locs) : PreS s H (fun v U => v = As.toArray ∧ va_X b L xs U U.heap ∧ b < U.heap.size) As := by
  refine ⟨fun a U g mk h => ?_, fun U hU hW => ⟨rfl, ?_, ?_⟩⟩
  · obtain ⟨h1, h2, h3⟩ := h
    exact ⟨h1, h2, h3⟩
  · rw [hU]
    exact X_moved hW (hX.kept (hS.2.1 b hbl hbA))
  · rw [hU]
    have := hS.1
    omega
set_option maxHeartbeats 4000000 in
set_option maxRecDepth 100000 in
theorem law_loop {p : Program} {l : Launch} {e : Env} {s : State} {m : MethodId} {below : List Frame} {meth : Method} {c : Code} {b L : Nat} {xs : Nat → Int32} {D : va_G} {kI kZ kL kJ : ClassId} (C : lcA p l e s m meth c b L xs D kI kZ kL kJ) (hfl : l.flags = pinnedFlags ++ [noTraceFlag]) {ao g aR aRs aB aBs aBw aBd aBv aT aTv aS aSt aK aKs aKt aKb aKz aKl aKc aKu aL a0 a0w a1 a1w a2 a2w h hRo hNu hWe hDa hVe hSl hTr hBx hSt hLa hOr hSi hTu : Nat} : ∀ (fu : Nat) (i : Int) (cells slots : Nat) (th : Int) (rs bs bw bd bv tv tk ks kt kb kz kl kc ku w0 w1 w2 mv mo mt : Int → Int) (rn bn kn n0 n1 n2 nw al lg tt dn sn sm cm : Int) (f : Nat → Int64) (H : Heap) (locs : List Loc) (ls : Array Slot), (2 ≤ i ∧ i ≤ (L : Int) + 4) → (L : Int) + 8 - i < (fu : Int) → (cells : Int) ≤ 100 + i → (slots : Int) ≤ 10000 + 6 * i → RR i rs bs bw bd bv tv tk ks kt kb kz kl kc ku w0 w1 w2 mv mo mt rn bn kn n0 n1 n2 nw al lg tt dn sn sm cm → va_P D vwCl ((oL kJ ao f :: wX kI kZ kL g aR aRs aB aBs aBw aBd aBv aT aTv aS aSt aK aKs aKt aKb aKz aKl aKc aKu aL a0 a0w a1 a1w a2 a2w rs bs bw bd bv tv tk ks kt kb kz kl kc ku w0 w1 w2 rn bn kn n0 n1 n2 nw al lg tt dn sn sm) ++ wM kI kZ h hRo hNu hWe hDa hVe hSl hTr hBx hSt hLa hOr hSi hTu rs bs bw bd mv ks kt kb kz kl mo kc mt th sn sm nw rn bn kn cm al lg tt dn) H → va_D (lA s) ((oL kJ ao f :: wX kI kZ kL g aR aRs aB aBs aBw aBd aBv aT aTv aS aSt aK aKs aKt aKb aKz aKl aKc aKu aL a0 a0w a1 a1w a2 a2w rs bs bw bd bv tv tk ks kt kb kz kl kc ku w0 w1 w2 rn bn kn n0 n1 n2 nw al lg tt dn sn sm) ++ wM kI kZ h hRo hNu hWe hDa hVe hSl hTr hBx hSt hLa hOr hSi hTu rs bs bw bd mv ks kt kb kz kl mo kc mt th sn sm nw rn bn kn cm al lg tt dn) → va_S (lA s) s.heap H locs → lv_has ls 7 [(0, .ref b), (1, .ref g), (2, .ref h), (3, .ref ao), (4, .int (iI i))] → W p l e room_1 s m #[Value.ref b] below meth c H locs cells slots (lw_Z below #[Value.ref b] s) (F0 m 43 ls []) := by
  intro fu
  induction fu with
  | zero => intro i cells slots th rs bs bw bd bv tv tk ks kt kb kz kl kc ku w0 w1 w2 mv mo mt rn bn kn n0 n1 n2 nw al lg tt dn sn sm cm f H locs ls hi hfu; exfalso; omega
  | succ fu ih =>
    intro i cells slots th rs bs bw bd bv tv tk ks kt kb kz kl kc ku w0 w1 w2 mv mo mt rn bn kn n0 n1 n2 nw al lg tt dn sn sm cm f H locs ls hi hfu hcc hss hR hP hD hS hl
    obtain ⟨hx, hb, hr, hml, hown, hts, hX0, hbl, hlocks, hadm, hxT, hzT, hK, hL⟩ := id C
    have hbA : ¬ lA s b := fun h => by have h2 : s.heap.size ≤ b := h; omega
    refine lv_iload hx hb dL_law_43 (lv_at hl 4 rfl) ?_
    refine lv_aload_n hx hb dL_law_45 rfl (lv_at hl 0 rfl) ?_
    refine va_slen hx hb hX0 hbl hbA hS dL_law_46 ?_
    rw [iz_nat]
    refine lv_iconst (v := iI 4) hx hb dL_law_47 rfl ?_
    refine wk_isub hx hb dL_law_48 ?_
    refine wk_icmp_gt (tgt := 959) hx hb dL_law_49 (by decide) (by omega) (fun c1 => ?_) (fun c1 => ?_)
    · refine lv_iconst (v := 1) hx hb dL_law_959 rfl ?_
      refine va_forget (fun q hq => hS.2.2 q hq) ?_
      refine W.widen (k := 601024) (n := 7293000) (by omega) (by omega) ?_
      exact lw_ret hx hb hr hlocks dL_law_960
    · have hi2 : 0 ≤ i ∧ i + 3 < (L : Int) := by omega
      have hroom : cells + 1 ≤ 601024 ∧ slots + 6 ≤ 7293000 := by omega
      have kk : ∀ (th : Int) (rs bs bw bd bv tv tk ks kt kb kz kl kc ku w0 w1 w2 mv mo mt : Int → Int) (rn bn kn n0 n1 n2 nw al lg tt dn sn sm cm : Int) (f : Nat → Int64) (H : Heap) (locs : List Loc) (ls : Array Slot), RR (i + 4) rs bs bw bd bv tv tk ks kt kb kz kl kc ku w0 w1 w2 mv mo mt rn bn kn n0 n1 n2 nw al lg tt dn sn sm cm → va_P D vwCl ((oL kJ ao f :: wX kI kZ kL g aR aRs aB aBs aBw aBd aBv aT aTv aS aSt aK aKs aKt aKb aKz aKl aKc aKu aL a0 a0w a1 a1w a2 a2w rs bs bw bd bv tv tk ks kt kb kz kl kc ku w0 w1 w2 rn bn kn n0 n1 n2 nw al lg tt dn sn sm) ++ wM kI kZ h hRo hNu hWe hDa hVe hSl hTr hBx hSt hLa hOr hSi hTu rs bs bw bd mv ks kt kb kz kl mo kc mt th sn sm nw rn bn kn cm al lg tt dn) H → va_D (lA s) ((oL kJ ao f :: wX kI kZ kL g aR aRs aB aBs aBw aBd aBv aT aTv aS aSt aK aKs aKt aKb aKz aKl aKc aKu aL a0 a0w a1 a1w a2 a2w rs bs bw bd bv tv tk ks kt kb kz kl kc ku w0 w1 w2 rn bn kn n0 n1 n2 nw al lg tt dn sn sm) ++ wM kI kZ h hRo hNu hWe hDa hVe hSl hTr hBx hSt hLa hOr hSi hTu rs bs bw bd mv ks kt kb kz kl mo kc mt th sn sm nw rn bn kn cm al lg tt dn) → va_S (lA s) s.heap H locs → lv_has ls 7 [(0, .ref b), (1, .ref g), (2, .ref h), (3, .ref ao), (4, .int (iI i))] → W p l e room_1 s m #[Value.ref b] below meth c H locs (cells + 1) (slots + 6) (lw_Z below #[Value.ref b] s) (F0 m 953 ls []) := by
        intro th rs bs bw bd bv tv tk ks kt kb kz kl kc ku w0 w1 w2 mv mo mt rn bn kn n0 n1 n2 nw al lg tt dn sn sm cm f H locs ls hR hP hD hS hl
        refine wk_iinc (k := 4) (lv' := [(4, .int (iI (i + 4))), (0, .ref b), (1, .ref g), (2, .ref h), (3, .ref ao)]) hx hb dL_law_953 hl rfl (by decide) rfl (fun ls hl => ?_)
        refine lv_goto (tgt := 43) hx hb dL_law_956 (by decide) ?_
        exact ih (i + 4) (cells + 1) (slots + 6) th rs bs bw bd bv tv tk ks kt kb kz kl kc ku w0 w1 w2 mv mo mt rn bn kn n0 n1 n2 nw al lg tt dn sn sm cm f H locs ls (by omega) (by omega) (by omega) (by omega) hR hP hD hS (lv_sub hl [1, 2, 3, 4, 0] rfl)
      refine lv_aload_n hx hb dL_law_52 rfl (lv_at hl 0 rfl) ?_
      refine lv_iload hx hb dL_law_53 (lv_at hl 4 rfl) ?_
      refine wk_sld hx hb hX0 hbl hbA hS (by omega) (by omega) rfl dL_law_55 ?_
      refine lv_bipush (v := iI 15) hx hb dL_law_56 (by decide) ?_
      refine lv_iand hx hb dL_law_58 ?_
      generalize (iI (xz xs i) &&& iI 15) = t
      by_cases h0 : t.toInt = 0
      · refine lv_tableIn (tgt := 132) hx hb dL_law_59 (by omega) (by omega) (by rw [h0]; rfl) (by decide) ?_
        exact st_sign C hfl hi2 hR hroom hP hD hS hl kk
      by_cases h1 : t.toInt = 1
      · refine lv_tableIn (tgt := 188) hx hb dL_law_59 (by omega) (by omega) (by rw [h1]; rfl) (by decide) ?_
        exact st_clear C hfl hi2 hR hroom hP hD hS hl kk
      by_cases h2 : t.toInt = 2
      · refine lv_tableIn (tgt := 201) hx hb dL_law_59 (by omega) (by omega) (by rw [h2]; rfl) (by decide) ?_
        exact st_letter C hfl hi2 hR hroom hP hD hS hl kk
      by_cases h3 : t.toInt = 3
      · refine lv_tableIn (tgt := 214) hx hb dL_law_59 (by omega) (by omega) (by rw [h3]; rfl) (by decide) ?_
        exact st_box C hfl hi2 hR hroom hP hD hS hl kk
      by_cases h4 : t.toInt = 4
      · refine lv_tableIn (tgt := 298) hx hb dL_law_59 (by omega) (by omega) (by rw [h4]; rfl) (by decide) ?_
        exact st_check C hfl hi2 hR hroom hP hD hS hl kk
      by_cases h5 : t.toInt = 5
      · refine lv_tableIn (tgt := 378) hx hb dL_law_59 (by omega) (by omega) (by rw [h5]; rfl) (by decide) ?_
        exact st_book C hfl hi2 hR hroom hP hD hS hl kk
      by_cases h6 : t.toInt = 6
      · refine lv_tableIn (tgt := 458) hx hb dL_law_59 (by omega) (by omega) (by rw [h6]; rfl) (by decide) ?_
        exact st_through C hfl hi2 hR hroom hP hD hS hl kk
      by_cases h7 : t.toInt = 7
      · refine lv_tableIn (tgt := 526) hx hb dL_law_59 (by omega) (by omega) (by rw [h7]; rfl) (by decide) ?_
        exact st_weigh C hfl hi2 hR hroom hP hD hS hl kk
      by_cases h8 : t.toInt = 8
      · refine lv_tableIn (tgt := 606) hx hb dL_law_59 (by omega) (by omega) (by rw [h8]; rfl) (by decide) ?_
        exact st_tolerance C hfl hi2 hR hroom hP hD hS hl kk
      by_cases h9 : t.toInt = 9
      · refine lv_tableIn (tgt := 631) hx hb dL_law_59 (by omega) (by omega) (by rw [h9]; rfl) (by decide) ?_
        exact st_noShow C hfl hi2 hR hroom hP hD hS hl kk
      by_cases h10 : t.toInt = 10
      · refine lv_tableIn (tgt := 687) hx hb dL_law_59 (by omega) (by omega) (by rw [h10]; rfl) (by decide) ?_
        exact st_change C hfl hi2 hR hroom hP hD hS hl kk
      by_cases h11 : t.toInt = 11
      · refine lv_tableIn (tgt := 755) hx hb dL_law_59 (by omega) (by omega) (by rw [h11]; rfl) (by decide) ?_
        exact st_queue C hfl hi2 hR hroom hP hD hS hl kk
      by_cases h12 : t.toInt = 12
      · refine lv_tableIn (tgt := 792) hx hb dL_law_59 (by omega) (by omega) (by rw [h12]; rfl) (by decide) ?_
        exact st_look C hfl hi2 hR hroom hP hD hS hl kk
      by_cases h13 : t.toInt = 13
      · refine lv_tableIn (tgt := 860) hx hb dL_law_59 (by omega) (by omega) (by rw [h13]; rfl) (by decide) ?_
        exact st_at C hfl hi2 hR hroom hP hD hS hl kk
      by_cases h14 : t.toInt = 14
      · refine lv_tableIn (tgt := 928) hx hb dL_law_59 (by omega) (by omega) (by rw [h14]; rfl) (by decide) ?_
        exact st_count C hfl hi2 hR hroom hP hD hS hl kk
      refine lv_tableOut (tgt := 953) hx hb dL_law_59 (by omega) (by decide) ?_
      refine W.widen (k := cells + 1) (n := slots + 6) (Nat.le_succ _) (Nat.le_add_right slots 6) ?_
      obtain ⟨jA, jS, jB, jV, jN, jK, jT, jU, jM, jO, j0, j1, j2⟩ := hR
      exact kk th rs bs bw bd bv tv tk ks kt kb kz kl kc ku w0 w1 w2 mv mo mt rn bn kn n0 n1 n2 nw al lg tt dn sn sm cm f H locs ls ⟨jA, jS, jB, jV, jN, jK, jT, jU, jM, rO_up jO, j0, j1, j2⟩ hP hD hS hl
