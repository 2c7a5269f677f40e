set_option maxRecDepth 100000 in
theorem wL_sign_r {l : Launch} {D : va_G} {kI kZ kL kJ : ClassId} {rm : Room} {WC u0 : va_W} {g ao q0 : Nat} {fs : List Value} {p0 r0 : Int32} {f : Nat → Int64} (sz : Nat) (hg : WC[q0]? = some (g, .inr (6, fs))) (hc : rm.cells = 0) (hs : rm.slots = 0) (hM : ∀ sz, CtI l yX6_sign wsX6_sign rm D vwCl (tyL kI kZ kL kJ) WC [.ref g, .int p0] r0 u0 sz) : CtW l yL_sign wsL_sign { frames := rm.frames + 1, cells := 0, slots := 0, locals := 8 + (2 + 11) + rm.locals } D vwCl (tyL kI kZ kL kJ) ((ao, .inl (kJ, 1, .inr (.inl f))) :: WC) [.ref g, .int p0, .ref ao] (iI 0) ((ao, .inl (kJ, 1, .inr (.inl (vp_updL f 0 r0.toInt64)))) :: u0) sz 0 0 := by
  refine cw_start (cc := cL_sign) (maxL := 4) (ret := some .int) (LV := [(0, .ref g), (1, .int p0), (2, .ref ao)]) (by decide) rfl rfl (Nat.le_of_ble_eq_true rfl) ?_
  intro p e s m below meth cd hadm hx hb hr hml hts hown hlocks hhd hxT hzT A hA hK hP hD hS ls hl
  refine lv_aload_n hx hb dL_sign_0 rfl (lv_at hl 2 rfl) ?_
  refine lv_iconst (v := iI 0) hx hb dL_sign_1 rfl ?_
  refine lv_aload_n hx hb dL_sign_2 rfl (lv_at hl 0 rfl) ?_
  refine lv_iload_n hx hb dL_sign_3 rfl (lv_at hl 1 rfl) ?_
  refine ck_backI (va_runV (As := [.int p0]) (rest := [.int (iI 0), .ref ao]) ⟨hx, hb, hml, hown, hts⟩ (hM s.heap.size) (cwV 1 hts (gd_V tb_cons wd_272 wd_273 wd_274 wd_33 wd_275) rfl hc hs (by decide +kernel) ⟨Nat.le_refl _, Nat.le_refl _⟩) (ck_preV hxT hK hP hD (List.range' 1 WC.length) (tl_C _ _) (tl_nd _ _) (q0 := q0) rfl rfl hg) rfl rfl hl.1 rfl (lv_room (Nat.le_of_ble_eq_true rfl)) dL_sign_4 ⟨Nat.zero_le _, Nat.zero_le _⟩) hP hD hS hA (List.range' 1 WC.length) [0] (WR := [(ao, .inl (kJ, 1, .inr (.inl f)))]) (tl_C _ _) rfl rfl (tl_dis _) (ws' := (ao, .inl (kJ, 1, .inr (.inl f))) :: u0) rfl (fun H locs hP hD hS => ?_)
  refine lv_i2l (v := r0.toInt64) hx hb dL_sign_7 rfl ?_
  refine wk_last hx hb hK hP hD hS 0 3 rfl rfl (by decide) dL_sign_8 (ws' := (ao, .inl (kJ, 1, .inr (.inl (vp_updL f 0 r0.toInt64)))) :: u0) rfl (fun H locs hP hD hS => ?_)
  refine lv_goto (tgt := 18) hx hb dL_sign_9 (by decide) ?_
  refine lv_iconst (v := iI 0) hx hb dL_sign_18 rfl ?_
  exact rk_int hx hb hr hlocks hK hP hD hS rfl rfl dL_sign_19
set_option maxRecDepth 100000 in
theorem wL_sign_p {l : Launch} {D : va_G} {kI kZ kL kJ : ClassId} {rm : Room} {WC u0 : va_W} {g ao q0 : Nat} {fs : List Value} {p0 r0 : Int32} {f : Nat → Int64} (sz : Nat) (hg : WC[q0]? = some (g, .inr (6, fs))) (hc : rm.cells = 0) (hs : rm.slots = 0) (hM : ∀ sz, CtP l yX6_sign wsX6_sign rm D vwCl (tyL kI kZ kL kJ) WC [.ref g, .int p0] r0 sz) : CtW l yL_sign wsL_sign { frames := rm.frames + 1, cells := 0, slots := 0, locals := 8 + (2 + 11) + rm.locals } D vwCl (tyL kI kZ kL kJ) ((ao, .inl (kJ, 1, .inr (.inl f))) :: WC) [.ref g, .int p0, .ref ao] (iI 0) ((ao, .inl (kJ, 1, .inr (.inl (vp_updL f 0 r0.toInt64)))) :: WC) sz 0 0 := by
  refine cw_start (cc := cL_sign) (maxL := 4) (ret := some .int) (LV := [(0, .ref g), (1, .int p0), (2, .ref ao)]) (by decide) rfl rfl (Nat.le_of_ble_eq_true rfl) ?_
  intro p e s m below meth cd hadm hx hb hr hml hts hown hlocks hhd hxT hzT A hA hK hP hD hS ls hl
  refine lv_aload_n hx hb dL_sign_0 rfl (lv_at hl 2 rfl) ?_
  refine lv_iconst (v := iI 0) hx hb dL_sign_1 rfl ?_
  refine lv_aload_n hx hb dL_sign_2 rfl (lv_at hl 0 rfl) ?_
  refine lv_iload_n hx hb dL_sign_3 rfl (lv_at hl 1 rfl) ?_
  refine pk_callI (va_runV (As := [.int p0]) (rest := [.int (iI 0), .ref ao]) ⟨hx, hb, hml, hown, hts⟩ (hM s.heap.size) (cwV 1 hts (gd_V tb_cons wd_272 wd_273 wd_274 wd_33 wd_275) rfl hc hs (by decide +kernel) ⟨Nat.le_refl _, Nat.le_refl _⟩) (ck_preV hxT hK hP hD (List.range' 1 WC.length) (tl_C _ _) (tl_nd _ _) (q0 := q0) rfl rfl hg) rfl rfl hl.1 rfl (lv_room (Nat.le_of_ble_eq_true rfl)) dL_sign_4 ⟨Nat.zero_le _, Nat.zero_le _⟩) ?_
  refine lv_i2l (v := r0.toInt64) hx hb dL_sign_7 rfl ?_
  refine wk_last hx hb hK hP hD hS 0 3 rfl rfl (by decide) dL_sign_8 (ws' := (ao, .inl (kJ, 1, .inr (.inl (vp_updL f 0 r0.toInt64)))) :: WC) rfl (fun H locs hP hD hS => ?_)
  refine lv_goto (tgt := 18) hx hb dL_sign_9 (by decide) ?_
  refine lv_iconst (v := iI 0) hx hb dL_sign_18 rfl ?_
  exact rk_int hx hb hr hlocks hK hP hD hS rfl rfl dL_sign_19
set_option maxRecDepth 100000 in
theorem wL_sign_t1 {l : Launch} {D : va_G} {kI kZ kL kJ : ClassId} {rm : Room} {WC u0 : va_W} {g ao q0 : Nat} {fs : List Value} {p0 r0 : Int32} {f : Nat → Int64} (sz : Nat) (hg : WC[q0]? = some (g, .inr (6, fs))) (hc : rm.cells = 1) (hs : rm.slots = 6) (hM : ∀ sz, CtT l yX6_sign wsX6_sign rm D vwCl (tyL kI kZ kL kJ) WC [.ref g, .int p0] "java/lang/IllegalArgumentException" sz) : CtW l yL_sign wsL_sign { frames := rm.frames + 1, cells := 1, slots := 6, locals := 8 + (2 + 11) + rm.locals } D vwCl (tyL kI kZ kL kJ) ((ao, .inl (kJ, 1, .inr (.inl f))) :: WC) [.ref g, .int p0, .ref ao] (iI 1) ((ao, .inl (kJ, 1, .inr (.inl f))) :: WC) sz 1 6 := by
  refine cw_start (cc := cL_sign) (maxL := 4) (ret := some .int) (LV := [(0, .ref g), (1, .int p0), (2, .ref ao)]) (by decide) rfl rfl (Nat.le_of_ble_eq_true rfl) ?_
  intro p e s m below meth cd hadm hx hb hr hml hts hown hlocks hhd hxT hzT A hA hK hP hD hS ls hl
  refine lv_aload_n hx hb dL_sign_0 rfl (lv_at hl 2 rfl) ?_
  refine lv_iconst (v := iI 0) hx hb dL_sign_1 rfl ?_
  refine lv_aload_n hx hb dL_sign_2 rfl (lv_at hl 0 rfl) ?_
  refine lv_iload_n hx hb dL_sign_3 rfl (lv_at hl 1 rfl) ?_
  refine wt_catch (hpc := 12) (rest := [.int (iI 0), .ref ao]) (wt_runV (As := [.int p0]) (rest := [.int (iI 0), .ref ao]) ⟨hx, hb, hml, hown, hts⟩ (hM s.heap.size) (cwV 1 hts (gd_V tb_cons wd_272 wd_273 wd_274 wd_33 wd_275) rfl hc hs (by decide +kernel) ⟨Nat.le_refl _, Nat.le_refl _⟩) (ck_preT hzT hxT hK hP hD (List.range' 1 WC.length) (tl_C _ _) (tl_nd _ _) (q0 := q0) rfl rfl hg) rfl rfl hl.1 rfl (lv_room (Nat.le_of_ble_eq_true rfl)) dL_sign_4 ⟨Nat.le_refl _, Nat.le_refl _⟩) hP hS (fun T' x ce hW hm hc2 hx2 hst hE => hs_1 (own := "GateStepsLaw") (E := "java/lang/IllegalArgumentException") hadm hown hhd (by decide) ⟨by decide, by decide⟩ (hts _ (List.mem_cons_of_mem _ wd_270)) (xt_c_a hxT) T' x ce hW hm hc2 hx2 hst hE) (fun x H hP hS => ?_)
  refine lv_astore_n (lv' := [(3, .ref x), (0, .ref g), (1, .int p0), (2, .ref ao)]) hx hb dL_sign_12 rfl hl (by decide) rfl (fun ls hl => ?_)
  refine lv_iconst (v := iI 1) hx hb dL_sign_13 rfl ?_
  exact rk_int hx hb hr hlocks hK hP hD hS rfl rfl dL_sign_14
set_option maxRecDepth 100000 in
theorem wL_sign_t2 {l : Launch} {D : va_G} {kI kZ kL kJ : ClassId} {rm : Room} {WC u0 : va_W} {g ao q0 : Nat} {fs : List Value} {p0 r0 : Int32} {f : Nat → Int64} (sz : Nat) (hg : WC[q0]? = some (g, .inr (6, fs))) (hc : rm.cells = 1) (hs : rm.slots = 6) (hM : ∀ sz, CtT l yX6_sign wsX6_sign rm D vwCl (tyL kI kZ kL kJ) WC [.ref g, .int p0] "java/lang/IllegalStateException" sz) : CtW l yL_sign wsL_sign { frames := rm.frames + 1, cells := 1, slots := 6, locals := 8 + (2 + 11) + rm.locals } D vwCl (tyL kI kZ kL kJ) ((ao, .inl (kJ, 1, .inr (.inl f))) :: WC) [.ref g, .int p0, .ref ao] (iI 2) ((ao, .inl (kJ, 1, .inr (.inl f))) :: WC) sz 1 6 := by
  refine cw_start (cc := cL_sign) (maxL := 4) (ret := some .int) (LV := [(0, .ref g), (1, .int p0), (2, .ref ao)]) (by decide) rfl rfl (Nat.le_of_ble_eq_true rfl) ?_
  intro p e s m below meth cd hadm hx hb hr hml hts hown hlocks hhd hxT hzT A hA hK hP hD hS ls hl
  refine lv_aload_n hx hb dL_sign_0 rfl (lv_at hl 2 rfl) ?_
  refine lv_iconst (v := iI 0) hx hb dL_sign_1 rfl ?_
  refine lv_aload_n hx hb dL_sign_2 rfl (lv_at hl 0 rfl) ?_
  refine lv_iload_n hx hb dL_sign_3 rfl (lv_at hl 1 rfl) ?_
  refine wt_catch (hpc := 15) (rest := [.int (iI 0), .ref ao]) (wt_runV (As := [.int p0]) (rest := [.int (iI 0), .ref ao]) ⟨hx, hb, hml, hown, hts⟩ (hM s.heap.size) (cwV 1 hts (gd_V tb_cons wd_272 wd_273 wd_274 wd_33 wd_275) rfl hc hs (by decide +kernel) ⟨Nat.le_refl _, Nat.le_refl _⟩) (ck_preT hzT hxT hK hP hD (List.range' 1 WC.length) (tl_C _ _) (tl_nd _ _) (q0 := q0) rfl rfl hg) rfl rfl hl.1 rfl (lv_room (Nat.le_of_ble_eq_true rfl)) dL_sign_4 ⟨Nat.le_refl _, Nat.le_refl _⟩) hP hS (fun T' x ce hW hm hc2 hx2 hst hE => hs_2 (own := "GateStepsLaw") (E := "java/lang/IllegalStateException") (E1 := "java/lang/IllegalArgumentException") hadm hown hhd ⟨by decide, by decide⟩ ⟨by decide, by decide, by decide, by decide⟩ (hts _ (List.mem_cons_of_mem _ wd_270)) (hts _ (List.mem_cons_of_mem _ wd_271)) (xt_c_s hxT) (xt_nc_sa hxT) T' x ce hW hm hc2 hx2 hst hE) (fun x H hP hS => ?_)
  refine lv_astore_n (lv' := [(3, .ref x), (0, .ref g), (1, .int p0), (2, .ref ao)]) hx hb dL_sign_15 rfl hl (by decide) rfl (fun ls hl => ?_)
  refine lv_iconst (v := iI 2) hx hb dL_sign_16 rfl ?_
  exact rk_int hx hb hr hlocks hK hP hD hS rfl rfl dL_sign_17
set_option maxRecDepth 100000 in
theorem wL_box_r {l : Launch} {D : va_G} {kI kZ kL kJ : ClassId} {rm : Room} {WC u0 : va_W} {g ao q0 : Nat} {fs : List Value} {p0 p1 r0 : Int32} {f : Nat → Int64} (sz : Nat) (hg : WC[q0]? = some (g, .inr (6, fs))) (hc : rm.cells = 0) (hs : rm.slots = 0) (hM : ∀ sz, CtI l yX6_box wsX6_box rm D vwCl (tyL kI kZ kL kJ) WC [.ref g, .int p0, .int p1] r0 u0 sz) : CtW l yL_box wsL_box { frames := rm.frames + 1, cells := 0, slots := 0, locals := 8 + (4 + 11) + rm.locals } D vwCl (tyL kI kZ kL kJ) ((ao, .inl (kJ, 1, .inr (.inl f))) :: WC) [.ref g, .int p0, .int p1, .ref ao] (iI 0) ((ao, .inl (kJ, 1, .inr (.inl (vp_updL f 0 r0.toInt64)))) :: u0) sz 0 0 := by
  refine cw_start (cc := cL_box) (maxL := 5) (ret := some .int) (LV := [(0, .ref g), (1, .int p0), (2, .int p1), (3, .ref ao)]) (by decide) rfl rfl (Nat.le_of_ble_eq_true rfl) ?_
  intro p e s m below meth cd hadm hx hb hr hml hts hown hlocks hhd hxT hzT A hA hK hP hD hS ls hl
  refine lv_aload_n hx hb dL_box_0 rfl (lv_at hl 3 rfl) ?_
  refine lv_iconst (v := iI 0) hx hb dL_box_1 rfl ?_
  refine lv_aload_n hx hb dL_box_2 rfl (lv_at hl 0 rfl) ?_
  refine lv_iload_n hx hb dL_box_3 rfl (lv_at hl 1 rfl) ?_
  refine lv_iload_n hx hb dL_box_4 rfl (lv_at hl 2 rfl) ?_
  refine ck_backI (va_runV (As := [.int p0, .int p1]) (rest := [.int (iI 0), .ref ao]) ⟨hx, hb, hml, hown, hts⟩ (hM s.heap.size) (cwV 2 hts (gd_V tb_cons wd_377 wd_378 wd_379 wd_33 wd_380) rfl hc hs (by decide +kernel) ⟨Nat.le_refl _, Nat.le_refl _⟩) (ck_preV hxT hK hP hD (List.range' 1 WC.length) (tl_C _ _) (tl_nd _ _) (q0 := q0) rfl rfl hg) rfl rfl hl.1 rfl (lv_room (Nat.le_of_ble_eq_true rfl)) dL_box_5 ⟨Nat.zero_le _, Nat.zero_le _⟩) hP hD hS hA (List.range' 1 WC.length) [0] (WR := [(ao, .inl (kJ, 1, .inr (.inl f)))]) (tl_C _ _) rfl rfl (tl_dis _) (ws' := (ao, .inl (kJ, 1, .inr (.inl f))) :: u0) rfl (fun H locs hP hD hS => ?_)
  refine lv_i2l (v := r0.toInt64) hx hb dL_box_8 rfl ?_
  refine wk_last hx hb hK hP hD hS 0 3 rfl rfl (by decide) dL_box_9 (ws' := (ao, .inl (kJ, 1, .inr (.inl (vp_updL f 0 r0.toInt64)))) :: u0) rfl (fun H locs hP hD hS => ?_)
  refine lv_goto (tgt := 21) hx hb dL_box_10 (by decide) ?_
  refine lv_iconst (v := iI 0) hx hb dL_box_21 rfl ?_
  exact rk_int hx hb hr hlocks hK hP hD hS rfl rfl dL_box_22
set_option maxRecDepth 100000 in
theorem wL_box_p {l : Launch} {D : va_G} {kI kZ kL kJ : ClassId} {rm : Room} {WC u0 : va_W} {g ao q0 : Nat} {fs : List Value} {p0 p1 r0 : Int32} {f : Nat → Int64} (sz : Nat) (hg : WC[q0]? = some (g, .inr (6, fs))) (hc : rm.cells = 0) (hs : rm.slots = 0) (hM : ∀ sz, CtP l yX6_box wsX6_box rm D vwCl (tyL kI kZ kL kJ) WC [.ref g, .int p0, .int p1] r0 sz) : CtW l yL_box wsL_box { frames := rm.frames + 1, cells := 0, slots := 0, locals := 8 + (4 + 11) + rm.locals } D vwCl (tyL kI kZ kL kJ) ((ao, .inl (kJ, 1, .inr (.inl f))) :: WC) [.ref g, .int p0, .int p1, .ref ao] (iI 0) ((ao, .inl (kJ, 1, .inr (.inl (vp_updL f 0 r0.toInt64)))) :: WC) sz 0 0 := by
  refine cw_start (cc := cL_box) (maxL := 5) (ret := some .int) (LV := [(0, .ref g), (1, .int p0), (2, .int p1), (3, .ref ao)]) (by decide) rfl rfl (Nat.le_of_ble_eq_true rfl) ?_
  intro p e s m below meth cd hadm hx hb hr hml hts hown hlocks hhd hxT hzT A hA hK hP hD hS ls hl
  refine lv_aload_n hx hb dL_box_0 rfl (lv_at hl 3 rfl) ?_
  refine lv_iconst (v := iI 0) hx hb dL_box_1 rfl ?_
  refine lv_aload_n hx hb dL_box_2 rfl (lv_at hl 0 rfl) ?_
  refine lv_iload_n hx hb dL_box_3 rfl (lv_at hl 1 rfl) ?_
  refine lv_iload_n hx hb dL_box_4 rfl (lv_at hl 2 rfl) ?_
  refine pk_callI (va_runV (As := [.int p0, .int p1]) (rest := [.int (iI 0), .ref ao]) ⟨hx, hb, hml, hown, hts⟩ (hM s.heap.size) (cwV 2 hts (gd_V tb_cons wd_377 wd_378 wd_379 wd_33 wd_380) rfl hc hs (by decide +kernel) ⟨Nat.le_refl _, Nat.le_refl _⟩) (ck_preV hxT hK hP hD (List.range' 1 WC.length) (tl_C _ _) (tl_nd _ _) (q0 := q0) rfl rfl hg) rfl rfl hl.1 rfl (lv_room (Nat.le_of_ble_eq_true rfl)) dL_box_5 ⟨Nat.zero_le _, Nat.zero_le _⟩) ?_
  refine lv_i2l (v := r0.toInt64) hx hb dL_box_8 rfl ?_
  refine wk_last hx hb hK hP hD hS 0 3 rfl rfl (by decide) dL_box_9 (ws' := (ao, .inl (kJ, 1, .inr (.inl (vp_updL f 0 r0.toInt64)))) :: WC) rfl (fun H locs hP hD hS => ?_)
  refine lv_goto (tgt := 21) hx hb dL_box_10 (by decide) ?_
  refine lv_iconst (v := iI 0) hx hb dL_box_21 rfl ?_
  exact rk_int hx hb hr hlocks hK hP hD hS rfl rfl dL_box_22
set_option maxRecDepth 100000 in
theorem wL_box_t1 {l : Launch} {D : va_G} {kI kZ kL kJ : ClassId} {rm : Room} {WC u0 : va_W} {g ao q0 : Nat} {fs : List Value} {p0 p1 r0 : Int32} {f : Nat → Int64} (sz : Nat) (hg : WC[q0]? = some (g, .inr (6, fs))) (hc : rm.cells = 1) (hs : rm.slots = 6) (hM : ∀ sz, CtT l yX6_box wsX6_box rm D vwCl (tyL kI kZ kL kJ) WC [.ref g, .int p0, .int p1] "java/lang/IllegalArgumentException" sz) : CtW l yL_box wsL_box { frames := rm.frames + 1, cells := 1, slots := 6, locals := 8 + (4 + 11) + rm.locals } D vwCl (tyL kI kZ kL kJ) ((ao, .inl (kJ, 1, .inr (.inl f))) :: WC) [.ref g, .int p0, .int p1, .ref ao] (iI 1) ((ao, .inl (kJ, 1, .inr (.inl f))) :: WC) sz 1 6 := by
  refine cw_start (cc := cL_box) (maxL := 5) (ret := some .int) (LV := [(0, .ref g), (1, .int p0), (2, .int p1), (3, .ref ao)]) (by decide) rfl rfl (Nat.le_of_ble_eq_true rfl) ?_
  intro p e s m below meth cd hadm hx hb hr hml hts hown hlocks hhd hxT hzT A hA hK hP hD hS ls hl
  refine lv_aload_n hx hb dL_box_0 rfl (lv_at hl 3 rfl) ?_
  refine lv_iconst (v := iI 0) hx hb dL_box_1 rfl ?_
  refine lv_aload_n hx hb dL_box_2 rfl (lv_at hl 0 rfl) ?_
  refine lv_iload_n hx hb dL_box_3 rfl (lv_at hl 1 rfl) ?_
  refine lv_iload_n hx hb dL_box_4 rfl (lv_at hl 2 rfl) ?_
  refine wt_catch (hpc := 13) (rest := [.int (iI 0), .ref ao]) (wt_runV (As := [.int p0, .int p1]) (rest := [.int (iI 0), .ref ao]) ⟨hx, hb, hml, hown, hts⟩ (hM s.heap.size) (cwV 2 hts (gd_V tb_cons wd_377 wd_378 wd_379 wd_33 wd_380) rfl hc hs (by decide +kernel) ⟨Nat.le_refl _, Nat.le_refl _⟩) (ck_preT hzT hxT hK hP hD (List.range' 1 WC.length) (tl_C _ _) (tl_nd _ _) (q0 := q0) rfl rfl hg) rfl rfl hl.1 rfl (lv_room (Nat.le_of_ble_eq_true rfl)) dL_box_5 ⟨Nat.le_refl _, Nat.le_refl _⟩) hP hS (fun T' x ce hW hm hc2 hx2 hst hE => hs_1 (own := "GateStepsLaw") (E := "java/lang/IllegalArgumentException") hadm hown hhd (by decide) ⟨by decide, by decide⟩ (hts _ (List.mem_cons_of_mem _ wd_270)) (xt_c_a hxT) T' x ce hW hm hc2 hx2 hst hE) (fun x H hP hS => ?_)
  refine lv_astore (lv' := [(4, .ref x), (0, .ref g), (1, .int p0), (2, .int p1), (3, .ref ao)]) hx hb dL_box_13 hl (by decide) rfl (fun ls hl => ?_)
  refine lv_iconst (v := iI 1) hx hb dL_box_15 rfl ?_
  exact rk_int hx hb hr hlocks hK hP hD hS rfl rfl dL_box_16
set_option maxRecDepth 100000 in
theorem wL_box_t2 {l : Launch} {D : va_G} {kI kZ kL kJ : ClassId} {rm : Room} {WC u0 : va_W} {g ao q0 : Nat} {fs : List Value} {p0 p1 r0 : Int32} {f : Nat → Int64} (sz : Nat) (hg : WC[q0]? = some (g, .inr (6, fs))) (hc : rm.cells = 1) (hs : rm.slots = 6) (hM : ∀ sz, CtT l yX6_box wsX6_box rm D vwCl (tyL kI kZ kL kJ) WC [.ref g, .int p0, .int p1] "java/lang/IllegalStateException" sz) : CtW l yL_box wsL_box { frames := rm.frames + 1, cells := 1, slots := 6, locals := 8 + (4 + 11) + rm.locals } D vwCl (tyL kI kZ kL kJ) ((ao, .inl (kJ, 1, .inr (.inl f))) :: WC) [.ref g, .int p0, .int p1, .ref ao] (iI 2) ((ao, .inl (kJ, 1, .inr (.inl f))) :: WC) sz 1 6 := by
  refine cw_start (cc := cL_box) (maxL := 5) (ret := some .int) (LV := [(0, .ref g), (1, .int p0), (2, .int p1), (3, .ref ao)]) (by decide) rfl rfl (Nat.le_of_ble_eq_true rfl) ?_
  intro p e s m below meth cd hadm hx hb hr hml hts hown hlocks hhd hxT hzT A hA hK hP hD hS ls hl
  refine lv_aload_n hx hb dL_box_0 rfl (lv_at hl 3 rfl) ?_
  refine lv_iconst (v := iI 0) hx hb dL_box_1 rfl ?_
  refine lv_aload_n hx hb dL_box_2 rfl (lv_at hl 0 rfl) ?_
  refine lv_iload_n hx hb dL_box_3 rfl (lv_at hl 1 rfl) ?_
  refine lv_iload_n hx hb dL_box_4 rfl (lv_at hl 2 rfl) ?_
  refine wt_catch (hpc := 17) (rest := [.int (iI 0), .ref ao]) (wt_runV (As := [.int p0, .int p1]) (rest := [.int (iI 0), .ref ao]) ⟨hx, hb, hml, hown, hts⟩ (hM s.heap.size) (cwV 2 hts (gd_V tb_cons wd_377 wd_378 wd_379 wd_33 wd_380) rfl hc hs (by decide +kernel) ⟨Nat.le_refl _, Nat.le_refl _⟩) (ck_preT hzT hxT hK hP hD (List.range' 1 WC.length) (tl_C _ _) (tl_nd _ _) (q0 := q0) rfl rfl hg) rfl rfl hl.1 rfl (lv_room (Nat.le_of_ble_eq_true rfl)) dL_box_5 ⟨Nat.le_refl _, Nat.le_refl _⟩) hP hS (fun T' x ce hW hm hc2 hx2 hst hE => hs_2 (own := "GateStepsLaw") (E := "java/lang/IllegalStateException") (E1 := "java/lang/IllegalArgumentException") hadm hown hhd ⟨by decide, by decide⟩ ⟨by decide, by decide, by decide, by decide⟩ (hts _ (List.mem_cons_of_mem _ wd_270)) (hts _ (List.mem_cons_of_mem _ wd_271)) (xt_c_s hxT) (xt_nc_sa hxT) T' x ce hW hm hc2 hx2 hst hE) (fun x H hP hS => ?_)
  refine lv_astore (lv' := [(4, .ref x), (0, .ref g), (1, .int p0), (2, .int p1), (3, .ref ao)]) hx hb dL_box_17 hl (by decide) rfl (fun ls hl => ?_)
  refine lv_iconst (v := iI 2) hx hb dL_box_19 rfl ?_
  exact rk_int hx hb hr hlocks hK hP hD hS rfl rfl dL_box_20
set_option maxRecDepth 100000 in
theorem wL_check_r {l : Launch} {D : va_G} {kI kZ kL kJ : ClassId} {rm : Room} {WC u0 : va_W} {g ao q0 : Nat} {fs : List Value} {p0 p1 p2 r0 : Int32} {f : Nat → Int64} (sz : Nat) (hg : WC[q0]? = some (g, .inr (6, fs))) (hc : rm.cells = 0) (hs : rm.slots = 0) (hM : ∀ sz, CtI l yX6_check wsX6_check rm D vwCl (tyL kI kZ kL kJ) WC [.ref g, .int p0, .int p1, .int p2] r0 u0 sz) : CtW l yL_check wsL_check { frames := rm.frames + 1, cells := 0, slots := 0, locals := 8 + (4 + 11) + rm.locals } D vwCl (tyL kI kZ kL kJ) ((ao, .inl (kJ, 1, .inr (.inl f))) :: WC) [.ref g, .int p0, .int p1, .int p2, .ref ao] (iI 0) ((ao, .inl (kJ, 1, .inr (.inl (vp_updL f 0 r0.toInt64)))) :: u0) sz 0 0 := by
  refine cw_start (cc := cL_check) (maxL := 6) (ret := some .int) (LV := [(0, .ref g), (1, .int p0), (2, .int p1), (3, .int p2), (4, .ref ao)]) (by decide) rfl rfl (Nat.le_of_ble_eq_true rfl) ?_
  intro p e s m below meth cd hadm hx hb hr hml hts hown hlocks hhd hxT hzT A hA hK hP hD hS ls hl
  refine lv_aload hx hb dL_check_0 (lv_at hl 4 rfl) ?_
  refine lv_iconst (v := iI 0) hx hb dL_check_2 rfl ?_
  refine lv_aload_n hx hb dL_check_3 rfl (lv_at hl 0 rfl) ?_
  refine lv_iload_n hx hb dL_check_4 rfl (lv_at hl 1 rfl) ?_
  refine lv_iload_n hx hb dL_check_5 rfl (lv_at hl 2 rfl) ?_
  refine lv_iload_n hx hb dL_check_6 rfl (lv_at hl 3 rfl) ?_
  refine ck_backI (va_runV (As := [.int p0, .int p1, .int p2]) (rest := [.int (iI 0), .ref ao]) ⟨hx, hb, hml, hown, hts⟩ (hM s.heap.size) (cwV 3 hts (gd_V tb_cons wd_410 wd_411 wd_412 wd_33 wd_413) rfl hc hs (by decide +kernel) ⟨Nat.le_refl _, Nat.le_refl _⟩) (ck_preV hxT hK hP hD (List.range' 1 WC.length) (tl_C _ _) (tl_nd _ _) (q0 := q0) rfl rfl hg) rfl rfl hl.1 rfl (lv_room (Nat.le_of_ble_eq_true rfl)) dL_check_7 ⟨Nat.zero_le _, Nat.zero_le _⟩) hP hD hS hA (List.range' 1 WC.length) [0] (WR := [(ao, .inl (kJ, 1, .inr (.inl f)))]) (tl_C _ _) rfl rfl (tl_dis _) (ws' := (ao, .inl (kJ, 1, .inr (.inl f))) :: u0) rfl (fun H locs hP hD hS => ?_)
  refine lv_i2l (v := r0.toInt64) hx hb dL_check_10 rfl ?_
  refine wk_last hx hb hK hP hD hS 0 3 rfl rfl (by decide) dL_check_11 (ws' := (ao, .inl (kJ, 1, .inr (.inl (vp_updL f 0 r0.toInt64)))) :: u0) rfl (fun H locs hP hD hS => ?_)
  refine lv_goto (tgt := 23) hx hb dL_check_12 (by decide) ?_
  refine lv_iconst (v := iI 0) hx hb dL_check_23 rfl ?_
  exact rk_int hx hb hr hlocks hK hP hD hS rfl rfl dL_check_24
set_option maxRecDepth 100000 in
theorem wL_check_p {l : Launch} {D : va_G} {kI kZ kL kJ : ClassId} {rm : Room} {WC u0 : va_W} {g ao q0 : Nat} {fs : List Value} {p0 p1 p2 r0 : Int32} {f : Nat → Int64} (sz : Nat) (hg : WC[q0]? = some (g, .inr (6, fs))) (hc : rm.cells = 0) (hs : rm.slots = 0) (hM : ∀ sz, CtP l yX6_check wsX6_check rm D vwCl (tyL kI kZ kL kJ) WC [.ref g, .int p0, .int p1, .int p2] r0 sz) : CtW l yL_check wsL_check { frames := rm.frames + 1, cells := 0, slots := 0, locals := 8 + (4 + 11) + rm.locals } D vwCl (tyL kI kZ kL kJ) ((ao, .inl (kJ, 1, .inr (.inl f))) :: WC) [.ref g, .int p0, .int p1, .int p2, .ref ao] (iI 0) ((ao, .inl (kJ, 1, .inr (.inl (vp_updL f 0 r0.toInt64)))) :: WC) sz 0 0 := by
  refine cw_start (cc := cL_check) (maxL := 6) (ret := some .int) (LV := [(0, .ref g), (1, .int p0), (2, .int p1), (3, .int p2), (4, .ref ao)]) (by decide) rfl rfl (Nat.le_of_ble_eq_true rfl) ?_
  intro p e s m below meth cd hadm hx hb hr hml hts hown hlocks hhd hxT hzT A hA hK hP hD hS ls hl
  refine lv_aload hx hb dL_check_0 (lv_at hl 4 rfl) ?_
  refine lv_iconst (v := iI 0) hx hb dL_check_2 rfl ?_
  refine lv_aload_n hx hb dL_check_3 rfl (lv_at hl 0 rfl) ?_
  refine lv_iload_n hx hb dL_check_4 rfl (lv_at hl 1 rfl) ?_
  refine lv_iload_n hx hb dL_check_5 rfl (lv_at hl 2 rfl) ?_
  refine lv_iload_n hx hb dL_check_6 rfl (lv_at hl 3 rfl) ?_
  refine pk_callI (va_runV (As := [.int p0, .int p1, .int p2]) (rest := [.int (iI 0), .ref ao]) ⟨hx, hb, hml, hown, hts⟩ (hM s.heap.size) (cwV 3 hts (gd_V tb_cons wd_410 wd_411 wd_412 wd_33 wd_413) rfl hc hs (by decide +kernel) ⟨Nat.le_refl _, Nat.le_refl _⟩) (ck_preV hxT hK hP hD (List.range' 1 WC.length) (tl_C _ _) (tl_nd _ _) (q0 := q0) rfl rfl hg) rfl rfl hl.1 rfl (lv_room (Nat.le_of_ble_eq_true rfl)) dL_check_7 ⟨Nat.zero_le _, Nat.zero_le _⟩) ?_
  refine lv_i2l (v := r0.toInt64) hx hb dL_check_10 rfl ?_
  refine wk_last hx hb hK hP hD hS 0 3 rfl rfl (by decide) dL_check_11 (ws' := (ao, .inl (kJ, 1, .inr (.inl (vp_updL f 0 r0.toInt64)))) :: WC) rfl (fun H locs hP hD hS => ?_)
  refine lv_goto (tgt := 23) hx hb dL_check_12 (by decide) ?_
  refine lv_iconst (v := iI 0) hx hb dL_check_23 rfl ?_
  exact rk_int hx hb hr hlocks hK hP hD hS rfl rfl dL_check_24
set_option maxRecDepth 100000 in
theorem wL_check_t1 {l : Launch} {D : va_G} {kI kZ kL kJ : ClassId} {rm : Room} {WC u0 : va_W} {g ao q0 : Nat} {fs : List Value} {p0 p1 p2 r0 : Int32} {f : Nat → Int64} (sz : Nat) (hg : WC[q0]? = some (g, .inr (6, fs))) (hc : rm.cells = 1) (hs : rm.slots = 6) (hM : ∀ sz, CtT l yX6_check wsX6_check rm D vwCl (tyL kI kZ kL kJ) WC [.ref g, .int p0, .int p1, .int p2] "java/lang/IndexOutOfBoundsException" sz) : CtW l yL_check wsL_check { frames := rm.frames + 1, cells := 1, slots := 6, locals := 8 + (4 + 11) + rm.locals } D vwCl (tyL kI kZ kL kJ) ((ao, .inl (kJ, 1, .inr (.inl f))) :: WC) [.ref g, .int p0, .int p1, .int p2, .ref ao] (iI 1) ((ao, .inl (kJ, 1, .inr (.inl f))) :: WC) sz 1 6 := by
  refine cw_start (cc := cL_check) (maxL := 6) (ret := some .int) (LV := [(0, .ref g), (1, .int p0), (2, .int p1), (3, .int p2), (4, .ref ao)]) (by decide) rfl rfl (Nat.le_of_ble_eq_true rfl) ?_
  intro p e s m below meth cd hadm hx hb hr hml hts hown hlocks hhd hxT hzT A hA hK hP hD hS ls hl
  refine lv_aload hx hb dL_check_0 (lv_at hl 4 rfl) ?_
  refine lv_iconst (v := iI 0) hx hb dL_check_2 rfl ?_
  refine lv_aload_n hx hb dL_check_3 rfl (lv_at hl 0 rfl) ?_
  refine lv_iload_n hx hb dL_check_4 rfl (lv_at hl 1 rfl) ?_
  refine lv_iload_n hx hb dL_check_5 rfl (lv_at hl 2 rfl) ?_
  refine lv_iload_n hx hb dL_check_6 rfl (lv_at hl 3 rfl) ?_
  refine wt_catch (hpc := 15) (rest := [.int (iI 0), .ref ao]) (wt_runV (As := [.int p0, .int p1, .int p2]) (rest := [.int (iI 0), .ref ao]) ⟨hx, hb, hml, hown, hts⟩ (hM s.heap.size) (cwV 3 hts (gd_V tb_cons wd_410 wd_411 wd_412 wd_33 wd_413) rfl hc hs (by decide +kernel) ⟨Nat.le_refl _, Nat.le_refl _⟩) (ck_preT hzT hxT hK hP hD (List.range' 1 WC.length) (tl_C _ _) (tl_nd _ _) (q0 := q0) rfl rfl hg) rfl rfl hl.1 rfl (lv_room (Nat.le_of_ble_eq_true rfl)) dL_check_7 ⟨Nat.le_refl _, Nat.le_refl _⟩) hP hS (fun T' x ce hW hm hc2 hx2 hst hE => hs_1 (own := "GateStepsLaw") (E := "java/lang/IndexOutOfBoundsException") hadm hown hhd (by decide) ⟨by decide, by decide⟩ (hts _ (List.mem_cons_of_mem _ wd_409)) (xt_c_i hxT) T' x ce hW hm hc2 hx2 hst hE) (fun x H hP hS => ?_)
  refine lv_astore (lv' := [(5, .ref x), (0, .ref g), (1, .int p0), (2, .int p1), (3, .int p2), (4, .ref ao)]) hx hb dL_check_15 hl (by decide) rfl (fun ls hl => ?_)
  refine lv_iconst (v := iI 1) hx hb dL_check_17 rfl ?_
  exact rk_int hx hb hr hlocks hK hP hD hS rfl rfl dL_check_18
set_option maxRecDepth 100000 in
theorem wL_check_t2 {l : Launch} {D : va_G} {kI kZ kL kJ : ClassId} {rm : Room} {WC u0 : va_W} {g ao q0 : Nat} {fs : List Value} {p0 p1 p2 r0 : Int32} {f : Nat → Int64} (sz : Nat) (hg : WC[q0]? = some (g, .inr (6, fs))) (hc : rm.cells = 1) (hs : rm.slots = 6) (hM : ∀ sz, CtT l yX6_check wsX6_check rm D vwCl (tyL kI kZ kL kJ) WC [.ref g, .int p0, .int p1, .int p2] "java/lang/IllegalArgumentException" sz) : CtW l yL_check wsL_check { frames := rm.frames + 1, cells := 1, slots := 6, locals := 8 + (4 + 11) + rm.locals } D vwCl (tyL kI kZ kL kJ) ((ao, .inl (kJ, 1, .inr (.inl f))) :: WC) [.ref g, .int p0, .int p1, .int p2, .ref ao] (iI 2) ((ao, .inl (kJ, 1, .inr (.inl f))) :: WC) sz 1 6 := by
  refine cw_start (cc := cL_check) (maxL := 6) (ret := some .int) (LV := [(0, .ref g), (1, .int p0), (2, .int p1), (3, .int p2), (4, .ref ao)]) (by decide) rfl rfl (Nat.le_of_ble_eq_true rfl) ?_
  intro p e s m below meth cd hadm hx hb hr hml hts hown hlocks hhd hxT hzT A hA hK hP hD hS ls hl
  refine lv_aload hx hb dL_check_0 (lv_at hl 4 rfl) ?_
  refine lv_iconst (v := iI 0) hx hb dL_check_2 rfl ?_
  refine lv_aload_n hx hb dL_check_3 rfl (lv_at hl 0 rfl) ?_
  refine lv_iload_n hx hb dL_check_4 rfl (lv_at hl 1 rfl) ?_
  refine lv_iload_n hx hb dL_check_5 rfl (lv_at hl 2 rfl) ?_
  refine lv_iload_n hx hb dL_check_6 rfl (lv_at hl 3 rfl) ?_
  refine wt_catch (hpc := 19) (rest := [.int (iI 0), .ref ao]) (wt_runV (As := [.int p0, .int p1, .int p2]) (rest := [.int (iI 0), .ref ao]) ⟨hx, hb, hml, hown, hts⟩ (hM s.heap.size) (cwV 3 hts (gd_V tb_cons wd_410 wd_411 wd_412 wd_33 wd_413) rfl hc hs (by decide +kernel) ⟨Nat.le_refl _, Nat.le_refl _⟩) (ck_preT hzT hxT hK hP hD (List.range' 1 WC.length) (tl_C _ _) (tl_nd _ _) (q0 := q0) rfl rfl hg) rfl rfl hl.1 rfl (lv_room (Nat.le_of_ble_eq_true rfl)) dL_check_7 ⟨Nat.le_refl _, Nat.le_refl _⟩) hP hS (fun T' x ce hW hm hc2 hx2 hst hE => hs_2 (own := "GateStepsLaw") (E := "java/lang/IllegalArgumentException") (E1 := "java/lang/IndexOutOfBoundsException") hadm hown hhd ⟨by decide, by decide⟩ ⟨by decide, by decide, by decide, by decide⟩ (hts _ (List.mem_cons_of_mem _ wd_409)) (hts _ (List.mem_cons_of_mem _ wd_270)) (xt_c_a hxT) (xt_nc_ai hxT) T' x ce hW hm hc2 hx2 hst hE) (fun x H hP hS => ?_)
  refine lv_astore (lv' := [(5, .ref x), (0, .ref g), (1, .int p0), (2, .int p1), (3, .int p2), (4, .ref ao)]) hx hb dL_check_19 hl (by decide) rfl (fun ls hl => ?_)
  refine lv_iconst (v := iI 2) hx hb dL_check_21 rfl ?_
  exact rk_int hx hb hr hlocks hK hP hD hS rfl rfl dL_check_22
set_option maxRecDepth 100000 in
theorem wL_book_r {l : Launch} {D : va_G} {kI kZ kL kJ : ClassId} {rm : Room} {WC u0 : va_W} {g ao q0 : Nat} {fs : List Value} {p0 p1 p2 r0 : Int32} {f : Nat → Int64} (sz : Nat) (hg : WC[q0]? = some (g, .inr (6, fs))) (hc : rm.cells = 0) (hs : rm.slots = 0) (hM : ∀ sz, CtI l yX6_book wsX6_book rm D vwCl (tyL kI kZ kL kJ) WC [.ref g, .int p0, .int p1, .int p2] r0 u0 sz) : CtW l yL_book wsL_book { frames := rm.frames + 1, cells := 0, slots := 0, locals := 8 + (4 + 11) + rm.locals } D vwCl (tyL kI kZ kL kJ) ((ao, .inl (kJ, 1, .inr (.inl f))) :: WC) [.ref g, .int p0, .int p1, .int p2, .ref ao] (iI 0) ((ao, .inl (kJ, 1, .inr (.inl (vp_updL f 0 r0.toInt64)))) :: u0) sz 0 0 := by
  refine cw_start (cc := cL_book) (maxL := 6) (ret := some .int) (LV := [(0, .ref g), (1, .int p0), (2, .int p1), (3, .int p2), (4, .ref ao)]) (by decide) rfl rfl (Nat.le_of_ble_eq_true rfl) ?_
  intro p e s m below meth cd hadm hx hb hr hml hts hown hlocks hhd hxT hzT A hA hK hP hD hS ls hl
  refine lv_aload hx hb dL_book_0 (lv_at hl 4 rfl) ?_
  refine lv_iconst (v := iI 0) hx hb dL_book_2 rfl ?_
  refine lv_aload_n hx hb dL_book_3 rfl (lv_at hl 0 rfl) ?_
  refine lv_iload_n hx hb dL_book_4 rfl (lv_at hl 1 rfl) ?_
  refine lv_iload_n hx hb dL_book_5 rfl (lv_at hl 2 rfl) ?_
  refine lv_iload_n hx hb dL_book_6 rfl (lv_at hl 3 rfl) ?_
  refine ck_backI (va_runV (As := [.int p0, .int p1, .int p2]) (rest := [.int (iI 0), .ref ao]) ⟨hx, hb, hml, hown, hts⟩ (hM s.heap.size) (cwV 3 hts (gd_V tb_cons wd_468 wd_469 wd_470 wd_33 wd_471) rfl hc hs (by decide +kernel) ⟨Nat.le_refl _, Nat.le_refl _⟩) (ck_preV hxT hK hP hD (List.range' 1 WC.length) (tl_C _ _) (tl_nd _ _) (q0 := q0) rfl rfl hg) rfl rfl hl.1 rfl (lv_room (Nat.le_of_ble_eq_true rfl)) dL_book_7 ⟨Nat.zero_le _, Nat.zero_le _⟩) hP hD hS hA (List.range' 1 WC.length) [0] (WR := [(ao, .inl (kJ, 1, .inr (.inl f)))]) (tl_C _ _) rfl rfl (tl_dis _) (ws' := (ao, .inl (kJ, 1, .inr (.inl f))) :: u0) rfl (fun H locs hP hD hS => ?_)
  refine lv_i2l (v := r0.toInt64) hx hb dL_book_10 rfl ?_
  refine wk_last hx hb hK hP hD hS 0 3 rfl rfl (by decide) dL_book_11 (ws' := (ao, .inl (kJ, 1, .inr (.inl (vp_updL f 0 r0.toInt64)))) :: u0) rfl (fun H locs hP hD hS => ?_)
  refine lv_goto (tgt := 23) hx hb dL_book_12 (by decide) ?_
  refine lv_iconst (v := iI 0) hx hb dL_book_23 rfl ?_
  exact rk_int hx hb hr hlocks hK hP hD hS rfl rfl dL_book_24
set_option maxRecDepth 100000 in
theorem wL_book_p {l : Launch} {D : va_G} {kI kZ kL kJ : ClassId} {rm : Room} {WC u0 : va_W} {g ao q0 : Nat} {fs : List Value} {p0 p1 p2 r0 : Int32} {f : Nat → Int64} (sz : Nat) (hg : WC[q0]? = some (g, .inr (6, fs))) (hc : rm.cells = 0) (hs : rm.slots = 0) (hM : ∀ sz, CtP l yX6_book wsX6_book rm D vwCl (tyL kI kZ kL kJ) WC [.ref g, .int p0, .int p1, .int p2] r0 sz) : CtW l yL_book wsL_book { frames := rm.frames + 1, cells := 0, slots := 0, locals := 8 + (4 + 11) + rm.locals } D vwCl (tyL kI kZ kL kJ) ((ao, .inl (kJ, 1, .inr (.inl f))) :: WC) [.ref g, .int p0, .int p1, .int p2, .ref ao] (iI 0) ((ao, .inl (kJ, 1, .inr (.inl (vp_updL f 0 r0.toInt64)))) :: WC) sz 0 0 := by
  refine cw_start (cc := cL_book) (maxL := 6) (ret := some .int) (LV := [(0, .ref g), (1, .int p0), (2, .int p1), (3, .int p2), (4, .ref ao)]) (by decide) rfl rfl (Nat.le_of_ble_eq_true rfl) ?_
  intro p e s m below meth cd hadm hx hb hr hml hts hown hlocks hhd hxT hzT A hA hK hP hD hS ls hl
  refine lv_aload hx hb dL_book_0 (lv_at hl 4 rfl) ?_
  refine lv_iconst (v := iI 0) hx hb dL_book_2 rfl ?_
  refine lv_aload_n hx hb dL_book_3 rfl (lv_at hl 0 rfl) ?_
  refine lv_iload_n hx hb dL_book_4 rfl (lv_at hl 1 rfl) ?_
  refine lv_iload_n hx hb dL_book_5 rfl (lv_at hl 2 rfl) ?_
  refine lv_iload_n hx hb dL_book_6 rfl (lv_at hl 3 rfl) ?_
  refine pk_callI (va_runV (As := [.int p0, .int p1, .int p2]) (rest := [.int (iI 0), .ref ao]) ⟨hx, hb, hml, hown, hts⟩ (hM s.heap.size) (cwV 3 hts (gd_V tb_cons wd_468 wd_469 wd_470 wd_33 wd_471) rfl hc hs (by decide +kernel) ⟨Nat.le_refl _, Nat.le_refl _⟩) (ck_preV hxT hK hP hD (List.range' 1 WC.length) (tl_C _ _) (tl_nd _ _) (q0 := q0) rfl rfl hg) rfl rfl hl.1 rfl (lv_room (Nat.le_of_ble_eq_true rfl)) dL_book_7 ⟨Nat.zero_le _, Nat.zero_le _⟩) ?_
  refine lv_i2l (v := r0.toInt64) hx hb dL_book_10 rfl ?_
  refine wk_last hx hb hK hP hD hS 0 3 rfl rfl (by decide) dL_book_11 (ws' := (ao, .inl (kJ, 1, .inr (.inl (vp_updL f 0 r0.toInt64)))) :: WC) rfl (fun H locs hP hD hS => ?_)
  refine lv_goto (tgt := 23) hx hb dL_book_12 (by decide) ?_
  refine lv_iconst (v := iI 0) hx hb dL_book_23 rfl ?_
  exact rk_int hx hb hr hlocks hK hP hD hS rfl rfl dL_book_24
set_option maxRecDepth 100000 in
theorem wL_book_t1 {l : Launch} {D : va_G} {kI kZ kL kJ : ClassId} {rm : Room} {WC u0 : va_W} {g ao q0 : Nat} {fs : List Value} {p0 p1 p2 r0 : Int32} {f : Nat → Int64} (sz : Nat) (hg : WC[q0]? = some (g, .inr (6, fs))) (hc : rm.cells = 1) (hs : rm.slots = 6) (hM : ∀ sz, CtT l yX6_book wsX6_book rm D vwCl (tyL kI kZ kL kJ) WC [.ref g, .int p0, .int p1, .int p2] "java/lang/IndexOutOfBoundsException" sz) : CtW l yL_book wsL_book { frames := rm.frames + 1, cells := 1, slots := 6, locals := 8 + (4 + 11) + rm.locals } D vwCl (tyL kI kZ kL kJ) ((ao, .inl (kJ, 1, .inr (.inl f))) :: WC) [.ref g, .int p0, .int p1, .int p2, .ref ao] (iI 1) ((ao, .inl (kJ, 1, .inr (.inl f))) :: WC) sz 1 6 := by
  refine cw_start (cc := cL_book) (maxL := 6) (ret := some .int) (LV := [(0, .ref g), (1, .int p0), (2, .int p1), (3, .int p2), (4, .ref ao)]) (by decide) rfl rfl (Nat.le_of_ble_eq_true rfl) ?_
  intro p e s m below meth cd hadm hx hb hr hml hts hown hlocks hhd hxT hzT A hA hK hP hD hS ls hl
  refine lv_aload hx hb dL_book_0 (lv_at hl 4 rfl) ?_
  refine lv_iconst (v := iI 0) hx hb dL_book_2 rfl ?_
  refine lv_aload_n hx hb dL_book_3 rfl (lv_at hl 0 rfl) ?_
  refine lv_iload_n hx hb dL_book_4 rfl (lv_at hl 1 rfl) ?_
  refine lv_iload_n hx hb dL_book_5 rfl (lv_at hl 2 rfl) ?_
  refine lv_iload_n hx hb dL_book_6 rfl (lv_at hl 3 rfl) ?_
  refine wt_catch (hpc := 15) (rest := [.int (iI 0), .ref ao]) (wt_runV (As := [.int p0, .int p1, .int p2]) (rest := [.int (iI 0), .ref ao]) ⟨hx, hb, hml, hown, hts⟩ (hM s.heap.size) (cwV 3 hts (gd_V tb_cons wd_468 wd_469 wd_470 wd_33 wd_471) rfl hc hs (by decide +kernel) ⟨Nat.le_refl _, Nat.le_refl _⟩) (ck_preT hzT hxT hK hP hD (List.range' 1 WC.length) (tl_C _ _) (tl_nd _ _) (q0 := q0) rfl rfl hg) rfl rfl hl.1 rfl (lv_room (Nat.le_of_ble_eq_true rfl)) dL_book_7 ⟨Nat.le_refl _, Nat.le_refl _⟩) hP hS (fun T' x ce hW hm hc2 hx2 hst hE => hs_1 (own := "GateStepsLaw") (E := "java/lang/IndexOutOfBoundsException") hadm hown hhd (by decide) ⟨by decide, by decide⟩ (hts _ (List.mem_cons_of_mem _ wd_409)) (xt_c_i hxT) T' x ce hW hm hc2 hx2 hst hE) (fun x H hP hS => ?_)
  refine lv_astore (lv' := [(5, .ref x), (0, .ref g), (1, .int p0), (2, .int p1), (3, .int p2), (4, .ref ao)]) hx hb dL_book_15 hl (by decide) rfl (fun ls hl => ?_)
  refine lv_iconst (v := iI 1) hx hb dL_book_17 rfl ?_
  exact rk_int hx hb hr hlocks hK hP hD hS rfl rfl dL_book_18
set_option maxRecDepth 100000 in
theorem wL_book_t2 {l : Launch} {D : va_G} {kI kZ kL kJ : ClassId} {rm : Room} {WC u0 : va_W} {g ao q0 : Nat} {fs : List Value} {p0 p1 p2 r0 : Int32} {f : Nat → Int64} (sz : Nat) (hg : WC[q0]? = some (g, .inr (6, fs))) (hc : rm.cells = 1) (hs : rm.slots = 6) (hM : ∀ sz, CtT l yX6_book wsX6_book rm D vwCl (tyL kI kZ kL kJ) WC [.ref g, .int p0, .int p1, .int p2] "java/lang/IllegalStateException" sz) : CtW l yL_book wsL_book { frames := rm.frames + 1, cells := 1, slots := 6, locals := 8 + (4 + 11) + rm.locals } D vwCl (tyL kI kZ kL kJ) ((ao, .inl (kJ, 1, .inr (.inl f))) :: WC) [.ref g, .int p0, .int p1, .int p2, .ref ao] (iI 2) ((ao, .inl (kJ, 1, .inr (.inl f))) :: WC) sz 1 6 := by
  refine cw_start (cc := cL_book) (maxL := 6) (ret := some .int) (LV := [(0, .ref g), (1, .int p0), (2, .int p1), (3, .int p2), (4, .ref ao)]) (by decide) rfl rfl (Nat.le_of_ble_eq_true rfl) ?_
  intro p e s m below meth cd hadm hx hb hr hml hts hown hlocks hhd hxT hzT A hA hK hP hD hS ls hl
  refine lv_aload hx hb dL_book_0 (lv_at hl 4 rfl) ?_
  refine lv_iconst (v := iI 0) hx hb dL_book_2 rfl ?_
  refine lv_aload_n hx hb dL_book_3 rfl (lv_at hl 0 rfl) ?_
  refine lv_iload_n hx hb dL_book_4 rfl (lv_at hl 1 rfl) ?_
  refine lv_iload_n hx hb dL_book_5 rfl (lv_at hl 2 rfl) ?_
  refine lv_iload_n hx hb dL_book_6 rfl (lv_at hl 3 rfl) ?_
  refine wt_catch (hpc := 19) (rest := [.int (iI 0), .ref ao]) (wt_runV (As := [.int p0, .int p1, .int p2]) (rest := [.int (iI 0), .ref ao]) ⟨hx, hb, hml, hown, hts⟩ (hM s.heap.size) (cwV 3 hts (gd_V tb_cons wd_468 wd_469 wd_470 wd_33 wd_471) rfl hc hs (by decide +kernel) ⟨Nat.le_refl _, Nat.le_refl _⟩) (ck_preT hzT hxT hK hP hD (List.range' 1 WC.length) (tl_C _ _) (tl_nd _ _) (q0 := q0) rfl rfl hg) rfl rfl hl.1 rfl (lv_room (Nat.le_of_ble_eq_true rfl)) dL_book_7 ⟨Nat.le_refl _, Nat.le_refl _⟩) hP hS (fun T' x ce hW hm hc2 hx2 hst hE => hs_2 (own := "GateStepsLaw") (E := "java/lang/IllegalStateException") (E1 := "java/lang/IndexOutOfBoundsException") hadm hown hhd ⟨by decide, by decide⟩ ⟨by decide, by decide, by decide, by decide⟩ (hts _ (List.mem_cons_of_mem _ wd_409)) (hts _ (List.mem_cons_of_mem _ wd_271)) (xt_c_s hxT) (xt_nc_si hxT) T' x ce hW hm hc2 hx2 hst hE) (fun x H hP hS => ?_)
  refine lv_astore (lv' := [(5, .ref x), (0, .ref g), (1, .int p0), (2, .int p1), (3, .int p2), (4, .ref ao)]) hx hb dL_book_19 hl (by decide) rfl (fun ls hl => ?_)
  refine lv_iconst (v := iI 2) hx hb dL_book_21 rfl ?_
  exact rk_int hx hb hr hlocks hK hP hD hS rfl rfl dL_book_22
set_option maxRecDepth 100000 in
theorem wL_through_r {l : Launch} {D : va_G} {kI kZ kL kJ : ClassId} {rm : Room} {WC u0 : va_W} {g ao q0 : Nat} {fs : List Value} {p0 p1 r0 : Int32} {f : Nat → Int64} (sz : Nat) (hg : WC[q0]? = some (g, .inr (6, fs))) (hc : rm.cells = 0) (hs : rm.slots = 0) (hM : ∀ sz, CtI l yX6_through wsX6_through rm D vwCl (tyL kI kZ kL kJ) WC [.ref g, .int p0, .int p1] r0 u0 sz) : CtW l yL_through wsL_through { frames := rm.frames + 1, cells := 0, slots := 0, locals := 8 + (4 + 11) + rm.locals } D vwCl (tyL kI kZ kL kJ) ((ao, .inl (kJ, 1, .inr (.inl f))) :: WC) [.ref g, .int p0, .int p1, .ref ao] (iI 0) ((ao, .inl (kJ, 1, .inr (.inl (vp_updL f 0 r0.toInt64)))) :: u0) sz 0 0 := by
  refine cw_start (cc := cL_through) (maxL := 5) (ret := some .int) (LV := [(0, .ref g), (1, .int p0), (2, .int p1), (3, .ref ao)]) (by decide) rfl rfl (Nat.le_of_ble_eq_true rfl) ?_
  intro p e s m below meth cd hadm hx hb hr hml hts hown hlocks hhd hxT hzT A hA hK hP hD hS ls hl
  refine lv_aload_n hx hb dL_through_0 rfl (lv_at hl 3 rfl) ?_
  refine lv_iconst (v := iI 0) hx hb dL_through_1 rfl ?_
  refine lv_aload_n hx hb dL_through_2 rfl (lv_at hl 0 rfl) ?_
  refine lv_iload_n hx hb dL_through_3 rfl (lv_at hl 1 rfl) ?_
  refine lv_iload_n hx hb dL_through_4 rfl (lv_at hl 2 rfl) ?_
  refine ck_backI (va_runV (As := [.int p0, .int p1]) (rest := [.int (iI 0), .ref ao]) ⟨hx, hb, hml, hown, hts⟩ (hM s.heap.size) (cwV 2 hts (gd_V tb_cons wd_502 wd_503 wd_504 wd_33 wd_505) rfl hc hs (by decide +kernel) ⟨Nat.le_refl _, Nat.le_refl _⟩) (ck_preV hxT hK hP hD (List.range' 1 WC.length) (tl_C _ _) (tl_nd _ _) (q0 := q0) rfl rfl hg) rfl rfl hl.1 rfl (lv_room (Nat.le_of_ble_eq_true rfl)) dL_through_5 ⟨Nat.zero_le _, Nat.zero_le _⟩) hP hD hS hA (List.range' 1 WC.length) [0] (WR := [(ao, .inl (kJ, 1, .inr (.inl f)))]) (tl_C _ _) rfl rfl (tl_dis _) (ws' := (ao, .inl (kJ, 1, .inr (.inl f))) :: u0) rfl (fun H locs hP hD hS => ?_)
  refine lv_i2l (v := r0.toInt64) hx hb dL_through_8 rfl ?_
  refine wk_last hx hb hK hP hD hS 0 3 rfl rfl (by decide) dL_through_9 (ws' := (ao, .inl (kJ, 1, .inr (.inl (vp_updL f 0 r0.toInt64)))) :: u0) rfl (fun H locs hP hD hS => ?_)
  refine lv_goto (tgt := 21) hx hb dL_through_10 (by decide) ?_
  refine lv_iconst (v := iI 0) hx hb dL_through_21 rfl ?_
  exact rk_int hx hb hr hlocks hK hP hD hS rfl rfl dL_through_22
set_option maxRecDepth 100000 in
theorem wL_through_p {l : Launch} {D : va_G} {kI kZ kL kJ : ClassId} {rm : Room} {WC u0 : va_W} {g ao q0 : Nat} {fs : List Value} {p0 p1 r0 : Int32} {f : Nat → Int64} (sz : Nat) (hg : WC[q0]? = some (g, .inr (6, fs))) (hc : rm.cells = 0) (hs : rm.slots = 0) (hM : ∀ sz, CtP l yX6_through wsX6_through rm D vwCl (tyL kI kZ kL kJ) WC [.ref g, .int p0, .int p1] r0 sz) : CtW l yL_through wsL_through { frames := rm.frames + 1, cells := 0, slots := 0, locals := 8 + (4 + 11) + rm.locals } D vwCl (tyL kI kZ kL kJ) ((ao, .inl (kJ, 1, .inr (.inl f))) :: WC) [.ref g, .int p0, .int p1, .ref ao] (iI 0) ((ao, .inl (kJ, 1, .inr (.inl (vp_updL f 0 r0.toInt64)))) :: WC) sz 0 0 := by
  refine cw_start (cc := cL_through) (maxL := 5) (ret := some .int) (LV := [(0, .ref g), (1, .int p0), (2, .int p1), (3, .ref ao)]) (by decide) rfl rfl (Nat.le_of_ble_eq_true rfl) ?_
  intro p e s m below meth cd hadm hx hb hr hml hts hown hlocks hhd hxT hzT A hA hK hP hD hS ls hl
  refine lv_aload_n hx hb dL_through_0 rfl (lv_at hl 3 rfl) ?_
  refine lv_iconst (v := iI 0) hx hb dL_through_1 rfl ?_
  refine lv_aload_n hx hb dL_through_2 rfl (lv_at hl 0 rfl) ?_
  refine lv_iload_n hx hb dL_through_3 rfl (lv_at hl 1 rfl) ?_
  refine lv_iload_n hx hb dL_through_4 rfl (lv_at hl 2 rfl) ?_
  refine pk_callI (va_runV (As := [.int p0, .int p1]) (rest := [.int (iI 0), .ref ao]) ⟨hx, hb, hml, hown, hts⟩ (hM s.heap.size) (cwV 2 hts (gd_V tb_cons wd_502 wd_503 wd_504 wd_33 wd_505) rfl hc hs (by decide +kernel) ⟨Nat.le_refl _, Nat.le_refl _⟩) (ck_preV hxT hK hP hD (List.range' 1 WC.length) (tl_C _ _) (tl_nd _ _) (q0 := q0) rfl rfl hg) rfl rfl hl.1 rfl (lv_room (Nat.le_of_ble_eq_true rfl)) dL_through_5 ⟨Nat.zero_le _, Nat.zero_le _⟩) ?_
  refine lv_i2l (v := r0.toInt64) hx hb dL_through_8 rfl ?_
  refine wk_last hx hb hK hP hD hS 0 3 rfl rfl (by decide) dL_through_9 (ws' := (ao, .inl (kJ, 1, .inr (.inl (vp_updL f 0 r0.toInt64)))) :: WC) rfl (fun H locs hP hD hS => ?_)
  refine lv_goto (tgt := 21) hx hb dL_through_10 (by decide) ?_
  refine lv_iconst (v := iI 0) hx hb dL_through_21 rfl ?_
  exact rk_int hx hb hr hlocks hK hP hD hS rfl rfl dL_through_22
set_option maxRecDepth 100000 in
theorem wL_through_t1 {l : Launch} {D : va_G} {kI kZ kL kJ : ClassId} {rm : Room} {WC u0 : va_W} {g ao q0 : Nat} {fs : List Value} {p0 p1 r0 : Int32} {f : Nat → Int64} (sz : Nat) (hg : WC[q0]? = some (g, .inr (6, fs))) (hc : rm.cells = 1) (hs : rm.slots = 6) (hM : ∀ sz, CtT l yX6_through wsX6_through rm D vwCl (tyL kI kZ kL kJ) WC [.ref g, .int p0, .int p1] "java/lang/IndexOutOfBoundsException" sz) : CtW l yL_through wsL_through { frames := rm.frames + 1, cells := 1, slots := 6, locals := 8 + (4 + 11) + rm.locals } D vwCl (tyL kI kZ kL kJ) ((ao, .inl (kJ, 1, .inr (.inl f))) :: WC) [.ref g, .int p0, .int p1, .ref ao] (iI 1) ((ao, .inl (kJ, 1, .inr (.inl f))) :: WC) sz 1 6 := by
  refine cw_start (cc := cL_through) (maxL := 5) (ret := some .int) (LV := [(0, .ref g), (1, .int p0), (2, .int p1), (3, .ref ao)]) (by decide) rfl rfl (Nat.le_of_ble_eq_true rfl) ?_
  intro p e s m below meth cd hadm hx hb hr hml hts hown hlocks hhd hxT hzT A hA hK hP hD hS ls hl
  refine lv_aload_n hx hb dL_through_0 rfl (lv_at hl 3 rfl) ?_
  refine lv_iconst (v := iI 0) hx hb dL_through_1 rfl ?_
  refine lv_aload_n hx hb dL_through_2 rfl (lv_at hl 0 rfl) ?_
  refine lv_iload_n hx hb dL_through_3 rfl (lv_at hl 1 rfl) ?_
  refine lv_iload_n hx hb dL_through_4 rfl (lv_at hl 2 rfl) ?_
  refine wt_catch (hpc := 13) (rest := [.int (iI 0), .ref ao]) (wt_runV (As := [.int p0, .int p1]) (rest := [.int (iI 0), .ref ao]) ⟨hx, hb, hml, hown, hts⟩ (hM s.heap.size) (cwV 2 hts (gd_V tb_cons wd_502 wd_503 wd_504 wd_33 wd_505) rfl hc hs (by decide +kernel) ⟨Nat.le_refl _, Nat.le_refl _⟩) (ck_preT hzT hxT hK hP hD (List.range' 1 WC.length) (tl_C _ _) (tl_nd _ _) (q0 := q0) rfl rfl hg) rfl rfl hl.1 rfl (lv_room (Nat.le_of_ble_eq_true rfl)) dL_through_5 ⟨Nat.le_refl _, Nat.le_refl _⟩) hP hS (fun T' x ce hW hm hc2 hx2 hst hE => hs_1 (own := "GateStepsLaw") (E := "java/lang/IndexOutOfBoundsException") hadm hown hhd (by decide) ⟨by decide, by decide⟩ (hts _ (List.mem_cons_of_mem _ wd_409)) (xt_c_i hxT) T' x ce hW hm hc2 hx2 hst hE) (fun x H hP hS => ?_)
  refine lv_astore (lv' := [(4, .ref x), (0, .ref g), (1, .int p0), (2, .int p1), (3, .ref ao)]) hx hb dL_through_13 hl (by decide) rfl (fun ls hl => ?_)
  refine lv_iconst (v := iI 1) hx hb dL_through_15 rfl ?_
  exact rk_int hx hb hr hlocks hK hP hD hS rfl rfl dL_through_16
set_option maxRecDepth 100000 in
theorem wL_through_t2 {l : Launch} {D : va_G} {kI kZ kL kJ : ClassId} {rm : Room} {WC u0 : va_W} {g ao q0 : Nat} {fs : List Value} {p0 p1 r0 : Int32} {f : Nat → Int64} (sz : Nat) (hg : WC[q0]? = some (g, .inr (6, fs))) (hc : rm.cells = 1) (hs : rm.slots = 6) (hM : ∀ sz, CtT l yX6_through wsX6_through rm D vwCl (tyL kI kZ kL kJ) WC [.ref g, .int p0, .int p1] "java/lang/IllegalArgumentException" sz) : CtW l yL_through wsL_through { frames := rm.frames + 1, cells := 1, slots := 6, locals := 8 + (4 + 11) + rm.locals } D vwCl (tyL kI kZ kL kJ) ((ao, .inl (kJ, 1, .inr (.inl f))) :: WC) [.ref g, .int p0, .int p1, .ref ao] (iI 2) ((ao, .inl (kJ, 1, .inr (.inl f))) :: WC) sz 1 6 := by
  refine cw_start (cc := cL_through) (maxL := 5) (ret := some .int) (LV := [(0, .ref g), (1, .int p0), (2, .int p1), (3, .ref ao)]) (by decide) rfl rfl (Nat.le_of_ble_eq_true rfl) ?_
  intro p e s m below meth cd hadm hx hb hr hml hts hown hlocks hhd hxT hzT A hA hK hP hD hS ls hl
  refine lv_aload_n hx hb dL_through_0 rfl (lv_at hl 3 rfl) ?_
  refine lv_iconst (v := iI 0) hx hb dL_through_1 rfl ?_
  refine lv_aload_n hx hb dL_through_2 rfl (lv_at hl 0 rfl) ?_
  refine lv_iload_n hx hb dL_through_3 rfl (lv_at hl 1 rfl) ?_
  refine lv_iload_n hx hb dL_through_4 rfl (lv_at hl 2 rfl) ?_
  refine wt_catch (hpc := 17) (rest := [.int (iI 0), .ref ao]) (wt_runV (As := [.int p0, .int p1]) (rest := [.int (iI 0), .ref ao]) ⟨hx, hb, hml, hown, hts⟩ (hM s.heap.size) (cwV 2 hts (gd_V tb_cons wd_502 wd_503 wd_504 wd_33 wd_505) rfl hc hs (by decide +kernel) ⟨Nat.le_refl _, Nat.le_refl _⟩) (ck_preT hzT hxT hK hP hD (List.range' 1 WC.length) (tl_C _ _) (tl_nd _ _) (q0 := q0) rfl rfl hg) rfl rfl hl.1 rfl (lv_room (Nat.le_of_ble_eq_true rfl)) dL_through_5 ⟨Nat.le_refl _, Nat.le_refl _⟩) hP hS (fun T' x ce hW hm hc2 hx2 hst hE => hs_2 (own := "GateStepsLaw") (E := "java/lang/IllegalArgumentException") (E1 := "java/lang/IndexOutOfBoundsException") hadm hown hhd ⟨by decide, by decide⟩ ⟨by decide, by decide, by decide, by decide⟩ (hts _ (List.mem_cons_of_mem _ wd_409)) (hts _ (List.mem_cons_of_mem _ wd_270)) (xt_c_a hxT) (xt_nc_ai hxT) T' x ce hW hm hc2 hx2 hst hE) (fun x H hP hS => ?_)
  refine lv_astore (lv' := [(4, .ref x), (0, .ref g), (1, .int p0), (2, .int p1), (3, .ref ao)]) hx hb dL_through_17 hl (by decide) rfl (fun ls hl => ?_)
  refine lv_iconst (v := iI 2) hx hb dL_through_19 rfl ?_
  exact rk_int hx hb hr hlocks hK hP hD hS rfl rfl dL_through_20
set_option maxRecDepth 100000 in
theorem wL_weigh_r {l : Launch} {D : va_G} {kI kZ kL kJ : ClassId} {rm : Room} {WC u0 : va_W} {g ao q0 : Nat} {fs : List Value} {p0 p1 p2 r0 : Int32} {f : Nat → Int64} (sz : Nat) (hg : WC[q0]? = some (g, .inr (6, fs))) (hc : rm.cells = 0) (hs : rm.slots = 0) (hM : ∀ sz, CtI l yX6_weigh wsX6_weigh rm D vwCl (tyL kI kZ kL kJ) WC [.ref g, .int p0, .int p1, .int p2] r0 u0 sz) : CtW l yL_weigh wsL_weigh { frames := rm.frames + 1, cells := 0, slots := 0, locals := 8 + (5 + 11) + rm.locals } D vwCl (tyL kI kZ kL kJ) ((ao, .inl (kJ, 1, .inr (.inl f))) :: WC) [.ref g, .int p0, .int p1, .int p2, .ref ao] (iI 0) ((ao, .inl (kJ, 1, .inr (.inl (vp_updL f 0 r0.toInt64)))) :: u0) sz 0 0 := by
  refine cw_start (cc := cL_weigh) (maxL := 6) (ret := some .int) (LV := [(0, .ref g), (1, .int p0), (2, .int p1), (3, .int p2), (4, .ref ao)]) (by decide) rfl rfl (Nat.le_of_ble_eq_true rfl) ?_
  intro p e s m below meth cd hadm hx hb hr hml hts hown hlocks hhd hxT hzT A hA hK hP hD hS ls hl
  refine lv_aload hx hb dL_weigh_0 (lv_at hl 4 rfl) ?_
  refine lv_iconst (v := iI 0) hx hb dL_weigh_2 rfl ?_
  refine lv_aload_n hx hb dL_weigh_3 rfl (lv_at hl 0 rfl) ?_
  refine lv_iload_n hx hb dL_weigh_4 rfl (lv_at hl 1 rfl) ?_
  refine lv_iload_n hx hb dL_weigh_5 rfl (lv_at hl 2 rfl) ?_
  refine lv_iload_n hx hb dL_weigh_6 rfl (lv_at hl 3 rfl) ?_
  refine ck_backI (va_runV (As := [.int p0, .int p1, .int p2]) (rest := [.int (iI 0), .ref ao]) ⟨hx, hb, hml, hown, hts⟩ (hM s.heap.size) (cwV 3 hts (gd_V tb_cons wd_559 wd_560 wd_561 wd_33 wd_562) rfl hc hs (by decide +kernel) ⟨Nat.le_refl _, Nat.le_refl _⟩) (ck_preV hxT hK hP hD (List.range' 1 WC.length) (tl_C _ _) (tl_nd _ _) (q0 := q0) rfl rfl hg) rfl rfl hl.1 rfl (lv_room (Nat.le_of_ble_eq_true rfl)) dL_weigh_7 ⟨Nat.zero_le _, Nat.zero_le _⟩) hP hD hS hA (List.range' 1 WC.length) [0] (WR := [(ao, .inl (kJ, 1, .inr (.inl f)))]) (tl_C _ _) rfl rfl (tl_dis _) (ws' := (ao, .inl (kJ, 1, .inr (.inl f))) :: u0) rfl (fun H locs hP hD hS => ?_)
  refine lv_i2l (v := r0.toInt64) hx hb dL_weigh_10 rfl ?_
  refine wk_last hx hb hK hP hD hS 0 3 rfl rfl (by decide) dL_weigh_11 (ws' := (ao, .inl (kJ, 1, .inr (.inl (vp_updL f 0 r0.toInt64)))) :: u0) rfl (fun H locs hP hD hS => ?_)
  refine lv_goto (tgt := 23) hx hb dL_weigh_12 (by decide) ?_
  refine lv_iconst (v := iI 0) hx hb dL_weigh_23 rfl ?_
  exact rk_int hx hb hr hlocks hK hP hD hS rfl rfl dL_weigh_24
set_option maxRecDepth 100000 in
theorem wL_weigh_p {l : Launch} {D : va_G} {kI kZ kL kJ : ClassId} {rm : Room} {WC u0 : va_W} {g ao q0 : Nat} {fs : List Value} {p0 p1 p2 r0 : Int32} {f : Nat → Int64} (sz : Nat) (hg : WC[q0]? = some (g, .inr (6, fs))) (hc : rm.cells = 0) (hs : rm.slots = 0) (hM : ∀ sz, CtP l yX6_weigh wsX6_weigh rm D vwCl (tyL kI kZ kL kJ) WC [.ref g, .int p0, .int p1, .int p2] r0 sz) : CtW l yL_weigh wsL_weigh { frames := rm.frames + 1, cells := 0, slots := 0, locals := 8 + (5 + 11) + rm.locals } D vwCl (tyL kI kZ kL kJ) ((ao, .inl (kJ, 1, .inr (.inl f))) :: WC) [.ref g, .int p0, .int p1, .int p2, .ref ao] (iI 0) ((ao, .inl (kJ, 1, .inr (.inl (vp_updL f 0 r0.toInt64)))) :: WC) sz 0 0 := by
  refine cw_start (cc := cL_weigh) (maxL := 6) (ret := some .int) (LV := [(0, .ref g), (1, .int p0), (2, .int p1), (3, .int p2), (4, .ref ao)]) (by decide) rfl rfl (Nat.le_of_ble_eq_true rfl) ?_
  intro p e s m below meth cd hadm hx hb hr hml hts hown hlocks hhd hxT hzT A hA hK hP hD hS ls hl
  refine lv_aload hx hb dL_weigh_0 (lv_at hl 4 rfl) ?_
  refine lv_iconst (v := iI 0) hx hb dL_weigh_2 rfl ?_
  refine lv_aload_n hx hb dL_weigh_3 rfl (lv_at hl 0 rfl) ?_
  refine lv_iload_n hx hb dL_weigh_4 rfl (lv_at hl 1 rfl) ?_
  refine lv_iload_n hx hb dL_weigh_5 rfl (lv_at hl 2 rfl) ?_
  refine lv_iload_n hx hb dL_weigh_6 rfl (lv_at hl 3 rfl) ?_
  refine pk_callI (va_runV (As := [.int p0, .int p1, .int p2]) (rest := [.int (iI 0), .ref ao]) ⟨hx, hb, hml, hown, hts⟩ (hM s.heap.size) (cwV 3 hts (gd_V tb_cons wd_559 wd_560 wd_561 wd_33 wd_562) rfl hc hs (by decide +kernel) ⟨Nat.le_refl _, Nat.le_refl _⟩) (ck_preV hxT hK hP hD (List.range' 1 WC.length) (tl_C _ _) (tl_nd _ _) (q0 := q0) rfl rfl hg) rfl rfl hl.1 rfl (lv_room (Nat.le_of_ble_eq_true rfl)) dL_weigh_7 ⟨Nat.zero_le _, Nat.zero_le _⟩) ?_
  refine lv_i2l (v := r0.toInt64) hx hb dL_weigh_10 rfl ?_
  refine wk_last hx hb hK hP hD hS 0 3 rfl rfl (by decide) dL_weigh_11 (ws' := (ao, .inl (kJ, 1, .inr (.inl (vp_updL f 0 r0.toInt64)))) :: WC) rfl (fun H locs hP hD hS => ?_)
  refine lv_goto (tgt := 23) hx hb dL_weigh_12 (by decide) ?_
  refine lv_iconst (v := iI 0) hx hb dL_weigh_23 rfl ?_
  exact rk_int hx hb hr hlocks hK hP hD hS rfl rfl dL_weigh_24
set_option maxRecDepth 100000 in
theorem wL_weigh_t1 {l : Launch} {D : va_G} {kI kZ kL kJ : ClassId} {rm : Room} {WC u0 : va_W} {g ao q0 : Nat} {fs : List Value} {p0 p1 p2 r0 : Int32} {f : Nat → Int64} (sz : Nat) (hg : WC[q0]? = some (g, .inr (6, fs))) (hc : rm.cells = 1) (hs : rm.slots = 6) (hM : ∀ sz, CtT l yX6_weigh wsX6_weigh rm D vwCl (tyL kI kZ kL kJ) WC [.ref g, .int p0, .int p1, .int p2] "java/lang/IndexOutOfBoundsException" sz) : CtW l yL_weigh wsL_weigh { frames := rm.frames + 1, cells := 1, slots := 6, locals := 8 + (5 + 11) + rm.locals } D vwCl (tyL kI kZ kL kJ) ((ao, .inl (kJ, 1, .inr (.inl f))) :: WC) [.ref g, .int p0, .int p1, .int p2, .ref ao] (iI 1) ((ao, .inl (kJ, 1, .inr (.inl f))) :: WC) sz 1 6 := by
  refine cw_start (cc := cL_weigh) (maxL := 6) (ret := some .int) (LV := [(0, .ref g), (1, .int p0), (2, .int p1), (3, .int p2), (4, .ref ao)]) (by decide) rfl rfl (Nat.le_of_ble_eq_true rfl) ?_
  intro p e s m below meth cd hadm hx hb hr hml hts hown hlocks hhd hxT hzT A hA hK hP hD hS ls hl
  refine lv_aload hx hb dL_weigh_0 (lv_at hl 4 rfl) ?_
  refine lv_iconst (v := iI 0) hx hb dL_weigh_2 rfl ?_
  refine lv_aload_n hx hb dL_weigh_3 rfl (lv_at hl 0 rfl) ?_
  refine lv_iload_n hx hb dL_weigh_4 rfl (lv_at hl 1 rfl) ?_
  refine lv_iload_n hx hb dL_weigh_5 rfl (lv_at hl 2 rfl) ?_
  refine lv_iload_n hx hb dL_weigh_6 rfl (lv_at hl 3 rfl) ?_
  refine wt_catch (hpc := 15) (rest := [.int (iI 0), .ref ao]) (wt_runV (As := [.int p0, .int p1, .int p2]) (rest := [.int (iI 0), .ref ao]) ⟨hx, hb, hml, hown, hts⟩ (hM s.heap.size) (cwV 3 hts (gd_V tb_cons wd_559 wd_560 wd_561 wd_33 wd_562) rfl hc hs (by decide +kernel) ⟨Nat.le_refl _, Nat.le_refl _⟩) (ck_preT hzT hxT hK hP hD (List.range' 1 WC.length) (tl_C _ _) (tl_nd _ _) (q0 := q0) rfl rfl hg) rfl rfl hl.1 rfl (lv_room (Nat.le_of_ble_eq_true rfl)) dL_weigh_7 ⟨Nat.le_refl _, Nat.le_refl _⟩) hP hS (fun T' x ce hW hm hc2 hx2 hst hE => hs_1 (own := "GateStepsLaw") (E := "java/lang/IndexOutOfBoundsException") hadm hown hhd (by decide) ⟨by decide, by decide⟩ (hts _ (List.mem_cons_of_mem _ wd_409)) (xt_c_i hxT) T' x ce hW hm hc2 hx2 hst hE) (fun x H hP hS => ?_)
  refine lv_astore (lv' := [(5, .ref x), (0, .ref g), (1, .int p0), (2, .int p1), (3, .int p2), (4, .ref ao)]) hx hb dL_weigh_15 hl (by decide) rfl (fun ls hl => ?_)
  refine lv_iconst (v := iI 1) hx hb dL_weigh_17 rfl ?_
  exact rk_int hx hb hr hlocks hK hP hD hS rfl rfl dL_weigh_18
set_option maxRecDepth 100000 in
theorem wL_weigh_t2 {l : Launch} {D : va_G} {kI kZ kL kJ : ClassId} {rm : Room} {WC u0 : va_W} {g ao q0 : Nat} {fs : List Value} {p0 p1 p2 r0 : Int32} {f : Nat → Int64} (sz : Nat) (hg : WC[q0]? = some (g, .inr (6, fs))) (hc : rm.cells = 1) (hs : rm.slots = 6) (hM : ∀ sz, CtT l yX6_weigh wsX6_weigh rm D vwCl (tyL kI kZ kL kJ) WC [.ref g, .int p0, .int p1, .int p2] "java/lang/IllegalArgumentException" sz) : CtW l yL_weigh wsL_weigh { frames := rm.frames + 1, cells := 1, slots := 6, locals := 8 + (5 + 11) + rm.locals } D vwCl (tyL kI kZ kL kJ) ((ao, .inl (kJ, 1, .inr (.inl f))) :: WC) [.ref g, .int p0, .int p1, .int p2, .ref ao] (iI 2) ((ao, .inl (kJ, 1, .inr (.inl f))) :: WC) sz 1 6 := by
  refine cw_start (cc := cL_weigh) (maxL := 6) (ret := some .int) (LV := [(0, .ref g), (1, .int p0), (2, .int p1), (3, .int p2), (4, .ref ao)]) (by decide) rfl rfl (Nat.le_of_ble_eq_true rfl) ?_
  intro p e s m below meth cd hadm hx hb hr hml hts hown hlocks hhd hxT hzT A hA hK hP hD hS ls hl
  refine lv_aload hx hb dL_weigh_0 (lv_at hl 4 rfl) ?_
  refine lv_iconst (v := iI 0) hx hb dL_weigh_2 rfl ?_
  refine lv_aload_n hx hb dL_weigh_3 rfl (lv_at hl 0 rfl) ?_
  refine lv_iload_n hx hb dL_weigh_4 rfl (lv_at hl 1 rfl) ?_
  refine lv_iload_n hx hb dL_weigh_5 rfl (lv_at hl 2 rfl) ?_
  refine lv_iload_n hx hb dL_weigh_6 rfl (lv_at hl 3 rfl) ?_
  refine wt_catch (hpc := 19) (rest := [.int (iI 0), .ref ao]) (wt_runV (As := [.int p0, .int p1, .int p2]) (rest := [.int (iI 0), .ref ao]) ⟨hx, hb, hml, hown, hts⟩ (hM s.heap.size) (cwV 3 hts (gd_V tb_cons wd_559 wd_560 wd_561 wd_33 wd_562) rfl hc hs (by decide +kernel) ⟨Nat.le_refl _, Nat.le_refl _⟩) (ck_preT hzT hxT hK hP hD (List.range' 1 WC.length) (tl_C _ _) (tl_nd _ _) (q0 := q0) rfl rfl hg) rfl rfl hl.1 rfl (lv_room (Nat.le_of_ble_eq_true rfl)) dL_weigh_7 ⟨Nat.le_refl _, Nat.le_refl _⟩) hP hS (fun T' x ce hW hm hc2 hx2 hst hE => hs_2 (own := "GateStepsLaw") (E := "java/lang/IllegalArgumentException") (E1 := "java/lang/IndexOutOfBoundsException") hadm hown hhd ⟨by decide, by decide⟩ ⟨by decide, by decide, by decide, by decide⟩ (hts _ (List.mem_cons_of_mem _ wd_409)) (hts _ (List.mem_cons_of_mem _ wd_270)) (xt_c_a hxT) (xt_nc_ai hxT) T' x ce hW hm hc2 hx2 hst hE) (fun x H hP hS => ?_)
  refine lv_astore (lv' := [(5, .ref x), (0, .ref g), (1, .int p0), (2, .int p1), (3, .int p2), (4, .ref ao)]) hx hb dL_weigh_19 hl (by decide) rfl (fun ls hl => ?_)
  refine lv_iconst (v := iI 2) hx hb dL_weigh_21 rfl ?_
  exact rk_int hx hb hr hlocks hK hP hD hS rfl rfl dL_weigh_22
set_option maxRecDepth 100000 in
theorem wL_noShow_r {l : Launch} {D : va_G} {kI kZ kL kJ : ClassId} {rm : Room} {WC u0 : va_W} {g ao q0 : Nat} {fs : List Value} {p0 r0 : Int32} {f : Nat → Int64} (sz : Nat) (hg : WC[q0]? = some (g, .inr (6, fs))) (hc : rm.cells = 0) (hs : rm.slots = 0) (hM : ∀ sz, CtI l yX6_noShow wsX6_noShow rm D vwCl (tyL kI kZ kL kJ) WC [.ref g, .int p0] r0 u0 sz) : CtW l yL_noShow wsL_noShow { frames := rm.frames + 1, cells := 0, slots := 0, locals := 8 + (4 + 11) + rm.locals } D vwCl (tyL kI kZ kL kJ) ((ao, .inl (kJ, 1, .inr (.inl f))) :: WC) [.ref g, .int p0, .ref ao] (iI 0) ((ao, .inl (kJ, 1, .inr (.inl (vp_updL f 0 r0.toInt64)))) :: u0) sz 0 0 := by
  refine cw_start (cc := cL_noShow) (maxL := 4) (ret := some .int) (LV := [(0, .ref g), (1, .int p0), (2, .ref ao)]) (by decide) rfl rfl (Nat.le_of_ble_eq_true rfl) ?_
  intro p e s m below meth cd hadm hx hb hr hml hts hown hlocks hhd hxT hzT A hA hK hP hD hS ls hl
  refine lv_aload_n hx hb dL_noShow_0 rfl (lv_at hl 2 rfl) ?_
  refine lv_iconst (v := iI 0) hx hb dL_noShow_1 rfl ?_
  refine lv_aload_n hx hb dL_noShow_2 rfl (lv_at hl 0 rfl) ?_
  refine lv_iload_n hx hb dL_noShow_3 rfl (lv_at hl 1 rfl) ?_
  refine ck_backI (va_runV (As := [.int p0]) (rest := [.int (iI 0), .ref ao]) ⟨hx, hb, hml, hown, hts⟩ (hM s.heap.size) (cwV 1 hts (gd_V tb_cons wd_579 wd_580 wd_581 wd_33 wd_582) rfl hc hs (by decide +kernel) ⟨Nat.le_refl _, Nat.le_refl _⟩) (ck_preV hxT hK hP hD (List.range' 1 WC.length) (tl_C _ _) (tl_nd _ _) (q0 := q0) rfl rfl hg) rfl rfl hl.1 rfl (lv_room (Nat.le_of_ble_eq_true rfl)) dL_noShow_4 ⟨Nat.zero_le _, Nat.zero_le _⟩) hP hD hS hA (List.range' 1 WC.length) [0] (WR := [(ao, .inl (kJ, 1, .inr (.inl f)))]) (tl_C _ _) rfl rfl (tl_dis _) (ws' := (ao, .inl (kJ, 1, .inr (.inl f))) :: u0) rfl (fun H locs hP hD hS => ?_)
  refine lv_i2l (v := r0.toInt64) hx hb dL_noShow_7 rfl ?_
  refine wk_last hx hb hK hP hD hS 0 3 rfl rfl (by decide) dL_noShow_8 (ws' := (ao, .inl (kJ, 1, .inr (.inl (vp_updL f 0 r0.toInt64)))) :: u0) rfl (fun H locs hP hD hS => ?_)
  refine lv_goto (tgt := 15) hx hb dL_noShow_9 (by decide) ?_
  refine lv_iconst (v := iI 0) hx hb dL_noShow_15 rfl ?_
  exact rk_int hx hb hr hlocks hK hP hD hS rfl rfl dL_noShow_16
set_option maxRecDepth 100000 in
theorem wL_noShow_p {l : Launch} {D : va_G} {kI kZ kL kJ : ClassId} {rm : Room} {WC u0 : va_W} {g ao q0 : Nat} {fs : List Value} {p0 r0 : Int32} {f : Nat → Int64} (sz : Nat) (hg : WC[q0]? = some (g, .inr (6, fs))) (hc : rm.cells = 0) (hs : rm.slots = 0) (hM : ∀ sz, CtP l yX6_noShow wsX6_noShow rm D vwCl (tyL kI kZ kL kJ) WC [.ref g, .int p0] r0 sz) : CtW l yL_noShow wsL_noShow { frames := rm.frames + 1, cells := 0, slots := 0, locals := 8 + (4 + 11) + rm.locals } D vwCl (tyL kI kZ kL kJ) ((ao, .inl (kJ, 1, .inr (.inl f))) :: WC) [.ref g, .int p0, .ref ao] (iI 0) ((ao, .inl (kJ, 1, .inr (.inl (vp_updL f 0 r0.toInt64)))) :: WC) sz 0 0 := by
  refine cw_start (cc := cL_noShow) (maxL := 4) (ret := some .int) (LV := [(0, .ref g), (1, .int p0), (2, .ref ao)]) (by decide) rfl rfl (Nat.le_of_ble_eq_true rfl) ?_
  intro p e s m below meth cd hadm hx hb hr hml hts hown hlocks hhd hxT hzT A hA hK hP hD hS ls hl
  refine lv_aload_n hx hb dL_noShow_0 rfl (lv_at hl 2 rfl) ?_
  refine lv_iconst (v := iI 0) hx hb dL_noShow_1 rfl ?_
  refine lv_aload_n hx hb dL_noShow_2 rfl (lv_at hl 0 rfl) ?_
  refine lv_iload_n hx hb dL_noShow_3 rfl (lv_at hl 1 rfl) ?_
  refine pk_callI (va_runV (As := [.int p0]) (rest := [.int (iI 0), .ref ao]) ⟨hx, hb, hml, hown, hts⟩ (hM s.heap.size) (cwV 1 hts (gd_V tb_cons wd_579 wd_580 wd_581 wd_33 wd_582) rfl hc hs (by decide +kernel) ⟨Nat.le_refl _, Nat.le_refl _⟩) (ck_preV hxT hK hP hD (List.range' 1 WC.length) (tl_C _ _) (tl_nd _ _) (q0 := q0) rfl rfl hg) rfl rfl hl.1 rfl (lv_room (Nat.le_of_ble_eq_true rfl)) dL_noShow_4 ⟨Nat.zero_le _, Nat.zero_le _⟩) ?_
  refine lv_i2l (v := r0.toInt64) hx hb dL_noShow_7 rfl ?_
  refine wk_last hx hb hK hP hD hS 0 3 rfl rfl (by decide) dL_noShow_8 (ws' := (ao, .inl (kJ, 1, .inr (.inl (vp_updL f 0 r0.toInt64)))) :: WC) rfl (fun H locs hP hD hS => ?_)
  refine lv_goto (tgt := 15) hx hb dL_noShow_9 (by decide) ?_
  refine lv_iconst (v := iI 0) hx hb dL_noShow_15 rfl ?_
  exact rk_int hx hb hr hlocks hK hP hD hS rfl rfl dL_noShow_16
set_option maxRecDepth 100000 in
theorem wL_noShow_t1 {l : Launch} {D : va_G} {kI kZ kL kJ : ClassId} {rm : Room} {WC u0 : va_W} {g ao q0 : Nat} {fs : List Value} {p0 r0 : Int32} {f : Nat → Int64} (sz : Nat) (hg : WC[q0]? = some (g, .inr (6, fs))) (hc : rm.cells = 1) (hs : rm.slots = 6) (hM : ∀ sz, CtT l yX6_noShow wsX6_noShow rm D vwCl (tyL kI kZ kL kJ) WC [.ref g, .int p0] "java/lang/IllegalArgumentException" sz) : CtW l yL_noShow wsL_noShow { frames := rm.frames + 1, cells := 1, slots := 6, locals := 8 + (4 + 11) + rm.locals } D vwCl (tyL kI kZ kL kJ) ((ao, .inl (kJ, 1, .inr (.inl f))) :: WC) [.ref g, .int p0, .ref ao] (iI 1) ((ao, .inl (kJ, 1, .inr (.inl f))) :: WC) sz 1 6 := by
  refine cw_start (cc := cL_noShow) (maxL := 4) (ret := some .int) (LV := [(0, .ref g), (1, .int p0), (2, .ref ao)]) (by decide) rfl rfl (Nat.le_of_ble_eq_true rfl) ?_
  intro p e s m below meth cd hadm hx hb hr hml hts hown hlocks hhd hxT hzT A hA hK hP hD hS ls hl
  refine lv_aload_n hx hb dL_noShow_0 rfl (lv_at hl 2 rfl) ?_
  refine lv_iconst (v := iI 0) hx hb dL_noShow_1 rfl ?_
  refine lv_aload_n hx hb dL_noShow_2 rfl (lv_at hl 0 rfl) ?_
  refine lv_iload_n hx hb dL_noShow_3 rfl (lv_at hl 1 rfl) ?_
  refine wt_catch (hpc := 12) (rest := [.int (iI 0), .ref ao]) (wt_runV (As := [.int p0]) (rest := [.int (iI 0), .ref ao]) ⟨hx, hb, hml, hown, hts⟩ (hM s.heap.size) (cwV 1 hts (gd_V tb_cons wd_579 wd_580 wd_581 wd_33 wd_582) rfl hc hs (by decide +kernel) ⟨Nat.le_refl _, Nat.le_refl _⟩) (ck_preT hzT hxT hK hP hD (List.range' 1 WC.length) (tl_C _ _) (tl_nd _ _) (q0 := q0) rfl rfl hg) rfl rfl hl.1 rfl (lv_room (Nat.le_of_ble_eq_true rfl)) dL_noShow_4 ⟨Nat.le_refl _, Nat.le_refl _⟩) hP hS (fun T' x ce hW hm hc2 hx2 hst hE => hs_1 (own := "GateStepsLaw") (E := "java/lang/IllegalArgumentException") hadm hown hhd (by decide) ⟨by decide, by decide⟩ (hts _ (List.mem_cons_of_mem _ wd_270)) (xt_c_a hxT) T' x ce hW hm hc2 hx2 hst hE) (fun x H hP hS => ?_)
  refine lv_astore_n (lv' := [(3, .ref x), (0, .ref g), (1, .int p0), (2, .ref ao)]) hx hb dL_noShow_12 rfl hl (by decide) rfl (fun ls hl => ?_)
  refine lv_iconst (v := iI 1) hx hb dL_noShow_13 rfl ?_
  exact rk_int hx hb hr hlocks hK hP hD hS rfl rfl dL_noShow_14
set_option maxRecDepth 100000 in
theorem wL_change_r {l : Launch} {D : va_G} {kI kZ kL kJ : ClassId} {rm : Room} {WC u0 : va_W} {g ao q0 : Nat} {fs : List Value} {p0 p1 r0 : Int32} {f : Nat → Int64} (sz : Nat) (hg : WC[q0]? = some (g, .inr (6, fs))) (hc : rm.cells = 0) (hs : rm.slots = 0) (hM : ∀ sz, CtI l yX6_change wsX6_change rm D vwCl (tyL kI kZ kL kJ) WC [.ref g, .int p0, .int p1] r0 u0 sz) : CtW l yL_change wsL_change { frames := rm.frames + 1, cells := 0, slots := 0, locals := 8 + (4 + 11) + rm.locals } D vwCl (tyL kI kZ kL kJ) ((ao, .inl (kJ, 1, .inr (.inl f))) :: WC) [.ref g, .int p0, .int p1, .ref ao] (iI 0) ((ao, .inl (kJ, 1, .inr (.inl (vp_updL f 0 r0.toInt64)))) :: u0) sz 0 0 := by
  refine cw_start (cc := cL_change) (maxL := 5) (ret := some .int) (LV := [(0, .ref g), (1, .int p0), (2, .int p1), (3, .ref ao)]) (by decide) rfl rfl (Nat.le_of_ble_eq_true rfl) ?_
  intro p e s m below meth cd hadm hx hb hr hml hts hown hlocks hhd hxT hzT A hA hK hP hD hS ls hl
  refine lv_aload_n hx hb dL_change_0 rfl (lv_at hl 3 rfl) ?_
  refine lv_iconst (v := iI 0) hx hb dL_change_1 rfl ?_
  refine lv_aload_n hx hb dL_change_2 rfl (lv_at hl 0 rfl) ?_
  refine lv_iload_n hx hb dL_change_3 rfl (lv_at hl 1 rfl) ?_
  refine lv_iload_n hx hb dL_change_4 rfl (lv_at hl 2 rfl) ?_
  refine ck_backI (va_runV (As := [.int p0, .int p1]) (rest := [.int (iI 0), .ref ao]) ⟨hx, hb, hml, hown, hts⟩ (hM s.heap.size) (cwV 2 hts (gd_V tb_cons wd_586 wd_587 wd_588 wd_33 wd_589) rfl hc hs (by decide +kernel) ⟨Nat.le_refl _, Nat.le_refl _⟩) (ck_preV hxT hK hP hD (List.range' 1 WC.length) (tl_C _ _) (tl_nd _ _) (q0 := q0) rfl rfl hg) rfl rfl hl.1 rfl (lv_room (Nat.le_of_ble_eq_true rfl)) dL_change_5 ⟨Nat.zero_le _, Nat.zero_le _⟩) hP hD hS hA (List.range' 1 WC.length) [0] (WR := [(ao, .inl (kJ, 1, .inr (.inl f)))]) (tl_C _ _) rfl rfl (tl_dis _) (ws' := (ao, .inl (kJ, 1, .inr (.inl f))) :: u0) rfl (fun H locs hP hD hS => ?_)
  refine lv_i2l (v := r0.toInt64) hx hb dL_change_8 rfl ?_
  refine wk_last hx hb hK hP hD hS 0 3 rfl rfl (by decide) dL_change_9 (ws' := (ao, .inl (kJ, 1, .inr (.inl (vp_updL f 0 r0.toInt64)))) :: u0) rfl (fun H locs hP hD hS => ?_)
  refine lv_goto (tgt := 17) hx hb dL_change_10 (by decide) ?_
  refine lv_iconst (v := iI 0) hx hb dL_change_17 rfl ?_
  exact rk_int hx hb hr hlocks hK hP hD hS rfl rfl dL_change_18
set_option maxRecDepth 100000 in
theorem wL_change_p {l : Launch} {D : va_G} {kI kZ kL kJ : ClassId} {rm : Room} {WC u0 : va_W} {g ao q0 : Nat} {fs : List Value} {p0 p1 r0 : Int32} {f : Nat → Int64} (sz : Nat) (hg : WC[q0]? = some (g, .inr (6, fs))) (hc : rm.cells = 0) (hs : rm.slots = 0) (hM : ∀ sz, CtP l yX6_change wsX6_change rm D vwCl (tyL kI kZ kL kJ) WC [.ref g, .int p0, .int p1] r0 sz) : CtW l yL_change wsL_change { frames := rm.frames + 1, cells := 0, slots := 0, locals := 8 + (4 + 11) + rm.locals } D vwCl (tyL kI kZ kL kJ) ((ao, .inl (kJ, 1, .inr (.inl f))) :: WC) [.ref g, .int p0, .int p1, .ref ao] (iI 0) ((ao, .inl (kJ, 1, .inr (.inl (vp_updL f 0 r0.toInt64)))) :: WC) sz 0 0 := by
  refine cw_start (cc := cL_change) (maxL := 5) (ret := some .int) (LV := [(0, .ref g), (1, .int p0), (2, .int p1), (3, .ref ao)]) (by decide) rfl rfl (Nat.le_of_ble_eq_true rfl) ?_
  intro p e s m below meth cd hadm hx hb hr hml hts hown hlocks hhd hxT hzT A hA hK hP hD hS ls hl
  refine lv_aload_n hx hb dL_change_0 rfl (lv_at hl 3 rfl) ?_
  refine lv_iconst (v := iI 0) hx hb dL_change_1 rfl ?_
  refine lv_aload_n hx hb dL_change_2 rfl (lv_at hl 0 rfl) ?_
  refine lv_iload_n hx hb dL_change_3 rfl (lv_at hl 1 rfl) ?_
  refine lv_iload_n hx hb dL_change_4 rfl (lv_at hl 2 rfl) ?_
  refine pk_callI (va_runV (As := [.int p0, .int p1]) (rest := [.int (iI 0), .ref ao]) ⟨hx, hb, hml, hown, hts⟩ (hM s.heap.size) (cwV 2 hts (gd_V tb_cons wd_586 wd_587 wd_588 wd_33 wd_589) rfl hc hs (by decide +kernel) ⟨Nat.le_refl _, Nat.le_refl _⟩) (ck_preV hxT hK hP hD (List.range' 1 WC.length) (tl_C _ _) (tl_nd _ _) (q0 := q0) rfl rfl hg) rfl rfl hl.1 rfl (lv_room (Nat.le_of_ble_eq_true rfl)) dL_change_5 ⟨Nat.zero_le _, Nat.zero_le _⟩) ?_
  refine lv_i2l (v := r0.toInt64) hx hb dL_change_8 rfl ?_
  refine wk_last hx hb hK hP hD hS 0 3 rfl rfl (by decide) dL_change_9 (ws' := (ao, .inl (kJ, 1, .inr (.inl (vp_updL f 0 r0.toInt64)))) :: WC) rfl (fun H locs hP hD hS => ?_)
  refine lv_goto (tgt := 17) hx hb dL_change_10 (by decide) ?_
  refine lv_iconst (v := iI 0) hx hb dL_change_17 rfl ?_
  exact rk_int hx hb hr hlocks hK hP hD hS rfl rfl dL_change_18
set_option maxRecDepth 100000 in
theorem wL_change_t1 {l : Launch} {D : va_G} {kI kZ kL kJ : ClassId} {rm : Room} {WC u0 : va_W} {g ao q0 : Nat} {fs : List Value} {p0 p1 r0 : Int32} {f : Nat → Int64} (sz : Nat) (hg : WC[q0]? = some (g, .inr (6, fs))) (hc : rm.cells = 1) (hs : rm.slots = 6) (hM : ∀ sz, CtT l yX6_change wsX6_change rm D vwCl (tyL kI kZ kL kJ) WC [.ref g, .int p0, .int p1] "java/lang/IndexOutOfBoundsException" sz) : CtW l yL_change wsL_change { frames := rm.frames + 1, cells := 1, slots := 6, locals := 8 + (4 + 11) + rm.locals } D vwCl (tyL kI kZ kL kJ) ((ao, .inl (kJ, 1, .inr (.inl f))) :: WC) [.ref g, .int p0, .int p1, .ref ao] (iI 1) ((ao, .inl (kJ, 1, .inr (.inl f))) :: WC) sz 1 6 := by
  refine cw_start (cc := cL_change) (maxL := 5) (ret := some .int) (LV := [(0, .ref g), (1, .int p0), (2, .int p1), (3, .ref ao)]) (by decide) rfl rfl (Nat.le_of_ble_eq_true rfl) ?_
  intro p e s m below meth cd hadm hx hb hr hml hts hown hlocks hhd hxT hzT A hA hK hP hD hS ls hl
  refine lv_aload_n hx hb dL_change_0 rfl (lv_at hl 3 rfl) ?_
  refine lv_iconst (v := iI 0) hx hb dL_change_1 rfl ?_
  refine lv_aload_n hx hb dL_change_2 rfl (lv_at hl 0 rfl) ?_
  refine lv_iload_n hx hb dL_change_3 rfl (lv_at hl 1 rfl) ?_
  refine lv_iload_n hx hb dL_change_4 rfl (lv_at hl 2 rfl) ?_
  refine wt_catch (hpc := 13) (rest := [.int (iI 0), .ref ao]) (wt_runV (As := [.int p0, .int p1]) (rest := [.int (iI 0), .ref ao]) ⟨hx, hb, hml, hown, hts⟩ (hM s.heap.size) (cwV 2 hts (gd_V tb_cons wd_586 wd_587 wd_588 wd_33 wd_589) rfl hc hs (by decide +kernel) ⟨Nat.le_refl _, Nat.le_refl _⟩) (ck_preT hzT hxT hK hP hD (List.range' 1 WC.length) (tl_C _ _) (tl_nd _ _) (q0 := q0) rfl rfl hg) rfl rfl hl.1 rfl (lv_room (Nat.le_of_ble_eq_true rfl)) dL_change_5 ⟨Nat.le_refl _, Nat.le_refl _⟩) hP hS (fun T' x ce hW hm hc2 hx2 hst hE => hs_1 (own := "GateStepsLaw") (E := "java/lang/IndexOutOfBoundsException") hadm hown hhd (by decide) ⟨by decide, by decide⟩ (hts _ (List.mem_cons_of_mem _ wd_409)) (xt_c_i hxT) T' x ce hW hm hc2 hx2 hst hE) (fun x H hP hS => ?_)
  refine lv_astore (lv' := [(4, .ref x), (0, .ref g), (1, .int p0), (2, .int p1), (3, .ref ao)]) hx hb dL_change_13 hl (by decide) rfl (fun ls hl => ?_)
  refine lv_iconst (v := iI 1) hx hb dL_change_15 rfl ?_
  exact rk_int hx hb hr hlocks hK hP hD hS rfl rfl dL_change_16
set_option maxRecDepth 100000 in
theorem wL_look_r {l : Launch} {D : va_G} {kI kZ kL kJ : ClassId} {rm : Room} {WC u0 : va_W} {g ao q0 : Nat} {fs : List Value} {p0 p1 r0 : Int32} {f : Nat → Int64} (sz : Nat) (hg : WC[q0]? = some (g, .inr (6, fs))) (hc : rm.cells = 0) (hs : rm.slots = 0) (hM : ∀ sz, CtI l yX6_look wsX6_look rm D vwCl (tyL kI kZ kL kJ) WC [.ref g, .int p0, .int p1] r0 u0 sz) : CtW l yL_look wsL_look { frames := rm.frames + 1, cells := 0, slots := 0, locals := 8 + (3 + 11) + rm.locals } D vwCl (tyL kI kZ kL kJ) ((ao, .inl (kJ, 1, .inr (.inl f))) :: WC) [.ref g, .int p0, .int p1, .ref ao] (iI 0) ((ao, .inl (kJ, 1, .inr (.inl (vp_updL f 0 r0.toInt64)))) :: u0) sz 0 0 := by
  refine cw_start (cc := cL_look) (maxL := 5) (ret := some .int) (LV := [(0, .ref g), (1, .int p0), (2, .int p1), (3, .ref ao)]) (by decide) rfl rfl (Nat.le_of_ble_eq_true rfl) ?_
  intro p e s m below meth cd hadm hx hb hr hml hts hown hlocks hhd hxT hzT A hA hK hP hD hS ls hl
  refine lv_aload_n hx hb dL_look_0 rfl (lv_at hl 3 rfl) ?_
  refine lv_iconst (v := iI 0) hx hb dL_look_1 rfl ?_
  refine lv_aload_n hx hb dL_look_2 rfl (lv_at hl 0 rfl) ?_
  refine lv_iload_n hx hb dL_look_3 rfl (lv_at hl 1 rfl) ?_
  refine lv_iload_n hx hb dL_look_4 rfl (lv_at hl 2 rfl) ?_
  refine ck_backI (va_runV (As := [.int p0, .int p1]) (rest := [.int (iI 0), .ref ao]) ⟨hx, hb, hml, hown, hts⟩ (hM s.heap.size) (cwV 2 hts (gd_V tb_cons wd_593 wd_594 wd_595 wd_33 wd_596) rfl hc hs (by decide +kernel) ⟨Nat.le_refl _, Nat.le_refl _⟩) (ck_preV hxT hK hP hD (List.range' 1 WC.length) (tl_C _ _) (tl_nd _ _) (q0 := q0) rfl rfl hg) rfl rfl hl.1 rfl (lv_room (Nat.le_of_ble_eq_true rfl)) dL_look_5 ⟨Nat.zero_le _, Nat.zero_le _⟩) hP hD hS hA (List.range' 1 WC.length) [0] (WR := [(ao, .inl (kJ, 1, .inr (.inl f)))]) (tl_C _ _) rfl rfl (tl_dis _) (ws' := (ao, .inl (kJ, 1, .inr (.inl f))) :: u0) rfl (fun H locs hP hD hS => ?_)
  refine lv_i2l (v := r0.toInt64) hx hb dL_look_8 rfl ?_
  refine wk_last hx hb hK hP hD hS 0 3 rfl rfl (by decide) dL_look_9 (ws' := (ao, .inl (kJ, 1, .inr (.inl (vp_updL f 0 r0.toInt64)))) :: u0) rfl (fun H locs hP hD hS => ?_)
  refine lv_goto (tgt := 17) hx hb dL_look_10 (by decide) ?_
  refine lv_iconst (v := iI 0) hx hb dL_look_17 rfl ?_
  exact rk_int hx hb hr hlocks hK hP hD hS rfl rfl dL_look_18
set_option maxRecDepth 100000 in
theorem wL_look_p {l : Launch} {D : va_G} {kI kZ kL kJ : ClassId} {rm : Room} {WC u0 : va_W} {g ao q0 : Nat} {fs : List Value} {p0 p1 r0 : Int32} {f : Nat → Int64} (sz : Nat) (hg : WC[q0]? = some (g, .inr (6, fs))) (hc : rm.cells = 0) (hs : rm.slots = 0) (hM : ∀ sz, CtP l yX6_look wsX6_look rm D vwCl (tyL kI kZ kL kJ) WC [.ref g, .int p0, .int p1] r0 sz) : CtW l yL_look wsL_look { frames := rm.frames + 1, cells := 0, slots := 0, locals := 8 + (3 + 11) + rm.locals } D vwCl (tyL kI kZ kL kJ) ((ao, .inl (kJ, 1, .inr (.inl f))) :: WC) [.ref g, .int p0, .int p1, .ref ao] (iI 0) ((ao, .inl (kJ, 1, .inr (.inl (vp_updL f 0 r0.toInt64)))) :: WC) sz 0 0 := by
  refine cw_start (cc := cL_look) (maxL := 5) (ret := some .int) (LV := [(0, .ref g), (1, .int p0), (2, .int p1), (3, .ref ao)]) (by decide) rfl rfl (Nat.le_of_ble_eq_true rfl) ?_
  intro p e s m below meth cd hadm hx hb hr hml hts hown hlocks hhd hxT hzT A hA hK hP hD hS ls hl
  refine lv_aload_n hx hb dL_look_0 rfl (lv_at hl 3 rfl) ?_
  refine lv_iconst (v := iI 0) hx hb dL_look_1 rfl ?_
  refine lv_aload_n hx hb dL_look_2 rfl (lv_at hl 0 rfl) ?_
  refine lv_iload_n hx hb dL_look_3 rfl (lv_at hl 1 rfl) ?_
  refine lv_iload_n hx hb dL_look_4 rfl (lv_at hl 2 rfl) ?_
  refine pk_callI (va_runV (As := [.int p0, .int p1]) (rest := [.int (iI 0), .ref ao]) ⟨hx, hb, hml, hown, hts⟩ (hM s.heap.size) (cwV 2 hts (gd_V tb_cons wd_593 wd_594 wd_595 wd_33 wd_596) rfl hc hs (by decide +kernel) ⟨Nat.le_refl _, Nat.le_refl _⟩) (ck_preV hxT hK hP hD (List.range' 1 WC.length) (tl_C _ _) (tl_nd _ _) (q0 := q0) rfl rfl hg) rfl rfl hl.1 rfl (lv_room (Nat.le_of_ble_eq_true rfl)) dL_look_5 ⟨Nat.zero_le _, Nat.zero_le _⟩) ?_
  refine lv_i2l (v := r0.toInt64) hx hb dL_look_8 rfl ?_
  refine wk_last hx hb hK hP hD hS 0 3 rfl rfl (by decide) dL_look_9 (ws' := (ao, .inl (kJ, 1, .inr (.inl (vp_updL f 0 r0.toInt64)))) :: WC) rfl (fun H locs hP hD hS => ?_)
  refine lv_goto (tgt := 17) hx hb dL_look_10 (by decide) ?_
  refine lv_iconst (v := iI 0) hx hb dL_look_17 rfl ?_
  exact rk_int hx hb hr hlocks hK hP hD hS rfl rfl dL_look_18
set_option maxRecDepth 100000 in
theorem wL_look_t1 {l : Launch} {D : va_G} {kI kZ kL kJ : ClassId} {rm : Room} {WC u0 : va_W} {g ao q0 : Nat} {fs : List Value} {p0 p1 r0 : Int32} {f : Nat → Int64} (sz : Nat) (hg : WC[q0]? = some (g, .inr (6, fs))) (hc : rm.cells = 1) (hs : rm.slots = 6) (hM : ∀ sz, CtT l yX6_look wsX6_look rm D vwCl (tyL kI kZ kL kJ) WC [.ref g, .int p0, .int p1] "java/lang/IndexOutOfBoundsException" sz) : CtW l yL_look wsL_look { frames := rm.frames + 1, cells := 1, slots := 6, locals := 8 + (3 + 11) + rm.locals } D vwCl (tyL kI kZ kL kJ) ((ao, .inl (kJ, 1, .inr (.inl f))) :: WC) [.ref g, .int p0, .int p1, .ref ao] (iI 1) ((ao, .inl (kJ, 1, .inr (.inl f))) :: WC) sz 1 6 := by
  refine cw_start (cc := cL_look) (maxL := 5) (ret := some .int) (LV := [(0, .ref g), (1, .int p0), (2, .int p1), (3, .ref ao)]) (by decide) rfl rfl (Nat.le_of_ble_eq_true rfl) ?_
  intro p e s m below meth cd hadm hx hb hr hml hts hown hlocks hhd hxT hzT A hA hK hP hD hS ls hl
  refine lv_aload_n hx hb dL_look_0 rfl (lv_at hl 3 rfl) ?_
  refine lv_iconst (v := iI 0) hx hb dL_look_1 rfl ?_
  refine lv_aload_n hx hb dL_look_2 rfl (lv_at hl 0 rfl) ?_
  refine lv_iload_n hx hb dL_look_3 rfl (lv_at hl 1 rfl) ?_
  refine lv_iload_n hx hb dL_look_4 rfl (lv_at hl 2 rfl) ?_
  refine wt_catch (hpc := 13) (rest := [.int (iI 0), .ref ao]) (wt_runV (As := [.int p0, .int p1]) (rest := [.int (iI 0), .ref ao]) ⟨hx, hb, hml, hown, hts⟩ (hM s.heap.size) (cwV 2 hts (gd_V tb_cons wd_593 wd_594 wd_595 wd_33 wd_596) rfl hc hs (by decide +kernel) ⟨Nat.le_refl _, Nat.le_refl _⟩) (ck_preT hzT hxT hK hP hD (List.range' 1 WC.length) (tl_C _ _) (tl_nd _ _) (q0 := q0) rfl rfl hg) rfl rfl hl.1 rfl (lv_room (Nat.le_of_ble_eq_true rfl)) dL_look_5 ⟨Nat.le_refl _, Nat.le_refl _⟩) hP hS (fun T' x ce hW hm hc2 hx2 hst hE => hs_1 (own := "GateStepsLaw") (E := "java/lang/IndexOutOfBoundsException") hadm hown hhd (by decide) ⟨by decide, by decide⟩ (hts _ (List.mem_cons_of_mem _ wd_409)) (xt_c_i hxT) T' x ce hW hm hc2 hx2 hst hE) (fun x H hP hS => ?_)
  refine lv_astore (lv' := [(4, .ref x), (0, .ref g), (1, .int p0), (2, .int p1), (3, .ref ao)]) hx hb dL_look_13 hl (by decide) rfl (fun ls hl => ?_)
  refine lv_iconst (v := iI 1) hx hb dL_look_15 rfl ?_
  exact rk_int hx hb hr hlocks hK hP hD hS rfl rfl dL_look_16
set_option maxRecDepth 100000 in
theorem wL_at_r {l : Launch} {D : va_G} {kI kZ kL kJ : ClassId} {rm : Room} {WC u0 : va_W} {g ao q0 : Nat} {fs : List Value} {p0 p1 r0 : Int32} {f : Nat → Int64} (sz : Nat) (hg : WC[q0]? = some (g, .inr (6, fs))) (hc : rm.cells = 0) (hs : rm.slots = 0) (hM : ∀ sz, CtI l yX6_at wsX6_at rm D vwCl (tyL kI kZ kL kJ) WC [.ref g, .int p0, .int p1] r0 u0 sz) : CtW l yL_at wsL_at { frames := rm.frames + 1, cells := 0, slots := 0, locals := 8 + (3 + 11) + rm.locals } D vwCl (tyL kI kZ kL kJ) ((ao, .inl (kJ, 1, .inr (.inl f))) :: WC) [.ref g, .int p0, .int p1, .ref ao] (iI 0) ((ao, .inl (kJ, 1, .inr (.inl (vp_updL f 0 r0.toInt64)))) :: u0) sz 0 0 := by
  refine cw_start (cc := cL_at) (maxL := 5) (ret := some .int) (LV := [(0, .ref g), (1, .int p0), (2, .int p1), (3, .ref ao)]) (by decide) rfl rfl (Nat.le_of_ble_eq_true rfl) ?_
  intro p e s m below meth cd hadm hx hb hr hml hts hown hlocks hhd hxT hzT A hA hK hP hD hS ls hl
  refine lv_aload_n hx hb dL_at_0 rfl (lv_at hl 3 rfl) ?_
  refine lv_iconst (v := iI 0) hx hb dL_at_1 rfl ?_
  refine lv_aload_n hx hb dL_at_2 rfl (lv_at hl 0 rfl) ?_
  refine lv_iload_n hx hb dL_at_3 rfl (lv_at hl 1 rfl) ?_
  refine lv_iload_n hx hb dL_at_4 rfl (lv_at hl 2 rfl) ?_
  refine ck_backI (va_runV (As := [.int p0, .int p1]) (rest := [.int (iI 0), .ref ao]) ⟨hx, hb, hml, hown, hts⟩ (hM s.heap.size) (cwV 2 hts (gd_V tb_cons wd_601 wd_602 wd_603 wd_33 wd_604) rfl hc hs (by decide +kernel) ⟨Nat.le_refl _, Nat.le_refl _⟩) (ck_preV hxT hK hP hD (List.range' 1 WC.length) (tl_C _ _) (tl_nd _ _) (q0 := q0) rfl rfl hg) rfl rfl hl.1 rfl (lv_room (Nat.le_of_ble_eq_true rfl)) dL_at_5 ⟨Nat.zero_le _, Nat.zero_le _⟩) hP hD hS hA (List.range' 1 WC.length) [0] (WR := [(ao, .inl (kJ, 1, .inr (.inl f)))]) (tl_C _ _) rfl rfl (tl_dis _) (ws' := (ao, .inl (kJ, 1, .inr (.inl f))) :: u0) rfl (fun H locs hP hD hS => ?_)
  refine lv_i2l (v := r0.toInt64) hx hb dL_at_8 rfl ?_
  refine wk_last hx hb hK hP hD hS 0 3 rfl rfl (by decide) dL_at_9 (ws' := (ao, .inl (kJ, 1, .inr (.inl (vp_updL f 0 r0.toInt64)))) :: u0) rfl (fun H locs hP hD hS => ?_)
  refine lv_goto (tgt := 17) hx hb dL_at_10 (by decide) ?_
  refine lv_iconst (v := iI 0) hx hb dL_at_17 rfl ?_
  exact rk_int hx hb hr hlocks hK hP hD hS rfl rfl dL_at_18
set_option maxRecDepth 100000 in
theorem wL_at_p {l : Launch} {D : va_G} {kI kZ kL kJ : ClassId} {rm : Room} {WC u0 : va_W} {g ao q0 : Nat} {fs : List Value} {p0 p1 r0 : Int32} {f : Nat → Int64} (sz : Nat) (hg : WC[q0]? = some (g, .inr (6, fs))) (hc : rm.cells = 0) (hs : rm.slots = 0) (hM : ∀ sz, CtP l yX6_at wsX6_at rm D vwCl (tyL kI kZ kL kJ) WC [.ref g, .int p0, .int p1] r0 sz) : CtW l yL_at wsL_at { frames := rm.frames + 1, cells := 0, slots := 0, locals := 8 + (3 + 11) + rm.locals } D vwCl (tyL kI kZ kL kJ) ((ao, .inl (kJ, 1, .inr (.inl f))) :: WC) [.ref g, .int p0, .int p1, .ref ao] (iI 0) ((ao, .inl (kJ, 1, .inr (.inl (vp_updL f 0 r0.toInt64)))) :: WC) sz 0 0 := by
  refine cw_start (cc := cL_at) (maxL := 5) (ret := some .int) (LV := [(0, .ref g), (1, .int p0), (2, .int p1), (3, .ref ao)]) (by decide) rfl rfl (Nat.le_of_ble_eq_true rfl) ?_
  intro p e s m below meth cd hadm hx hb hr hml hts hown hlocks hhd hxT hzT A hA hK hP hD hS ls hl
  refine lv_aload_n hx hb dL_at_0 rfl (lv_at hl 3 rfl) ?_
  refine lv_iconst (v := iI 0) hx hb dL_at_1 rfl ?_
  refine lv_aload_n hx hb dL_at_2 rfl (lv_at hl 0 rfl) ?_
  refine lv_iload_n hx hb dL_at_3 rfl (lv_at hl 1 rfl) ?_
  refine lv_iload_n hx hb dL_at_4 rfl (lv_at hl 2 rfl) ?_
  refine pk_callI (va_runV (As := [.int p0, .int p1]) (rest := [.int (iI 0), .ref ao]) ⟨hx, hb, hml, hown, hts⟩ (hM s.heap.size) (cwV 2 hts (gd_V tb_cons wd_601 wd_602 wd_603 wd_33 wd_604) rfl hc hs (by decide +kernel) ⟨Nat.le_refl _, Nat.le_refl _⟩) (ck_preV hxT hK hP hD (List.range' 1 WC.length) (tl_C _ _) (tl_nd _ _) (q0 := q0) rfl rfl hg) rfl rfl hl.1 rfl (lv_room (Nat.le_of_ble_eq_true rfl)) dL_at_5 ⟨Nat.zero_le _, Nat.zero_le _⟩) ?_
  refine lv_i2l (v := r0.toInt64) hx hb dL_at_8 rfl ?_
  refine wk_last hx hb hK hP hD hS 0 3 rfl rfl (by decide) dL_at_9 (ws' := (ao, .inl (kJ, 1, .inr (.inl (vp_updL f 0 r0.toInt64)))) :: WC) rfl (fun H locs hP hD hS => ?_)
  refine lv_goto (tgt := 17) hx hb dL_at_10 (by decide) ?_
  refine lv_iconst (v := iI 0) hx hb dL_at_17 rfl ?_
  exact rk_int hx hb hr hlocks hK hP hD hS rfl rfl dL_at_18
set_option maxRecDepth 100000 in
theorem wL_at_t1 {l : Launch} {D : va_G} {kI kZ kL kJ : ClassId} {rm : Room} {WC u0 : va_W} {g ao q0 : Nat} {fs : List Value} {p0 p1 r0 : Int32} {f : Nat → Int64} (sz : Nat) (hg : WC[q0]? = some (g, .inr (6, fs))) (hc : rm.cells = 1) (hs : rm.slots = 6) (hM : ∀ sz, CtT l yX6_at wsX6_at rm D vwCl (tyL kI kZ kL kJ) WC [.ref g, .int p0, .int p1] "java/lang/IndexOutOfBoundsException" sz) : CtW l yL_at wsL_at { frames := rm.frames + 1, cells := 1, slots := 6, locals := 8 + (3 + 11) + rm.locals } D vwCl (tyL kI kZ kL kJ) ((ao, .inl (kJ, 1, .inr (.inl f))) :: WC) [.ref g, .int p0, .int p1, .ref ao] (iI 1) ((ao, .inl (kJ, 1, .inr (.inl f))) :: WC) sz 1 6 := by
  refine cw_start (cc := cL_at) (maxL := 5) (ret := some .int) (LV := [(0, .ref g), (1, .int p0), (2, .int p1), (3, .ref ao)]) (by decide) rfl rfl (Nat.le_of_ble_eq_true rfl) ?_
  intro p e s m below meth cd hadm hx hb hr hml hts hown hlocks hhd hxT hzT A hA hK hP hD hS ls hl
  refine lv_aload_n hx hb dL_at_0 rfl (lv_at hl 3 rfl) ?_
  refine lv_iconst (v := iI 0) hx hb dL_at_1 rfl ?_
  refine lv_aload_n hx hb dL_at_2 rfl (lv_at hl 0 rfl) ?_
  refine lv_iload_n hx hb dL_at_3 rfl (lv_at hl 1 rfl) ?_
  refine lv_iload_n hx hb dL_at_4 rfl (lv_at hl 2 rfl) ?_
  refine wt_catch (hpc := 13) (rest := [.int (iI 0), .ref ao]) (wt_runV (As := [.int p0, .int p1]) (rest := [.int (iI 0), .ref ao]) ⟨hx, hb, hml, hown, hts⟩ (hM s.heap.size) (cwV 2 hts (gd_V tb_cons wd_601 wd_602 wd_603 wd_33 wd_604) rfl hc hs (by decide +kernel) ⟨Nat.le_refl _, Nat.le_refl _⟩) (ck_preT hzT hxT hK hP hD (List.range' 1 WC.length) (tl_C _ _) (tl_nd _ _) (q0 := q0) rfl rfl hg) rfl rfl hl.1 rfl (lv_room (Nat.le_of_ble_eq_true rfl)) dL_at_5 ⟨Nat.le_refl _, Nat.le_refl _⟩) hP hS (fun T' x ce hW hm hc2 hx2 hst hE => hs_1 (own := "GateStepsLaw") (E := "java/lang/IndexOutOfBoundsException") hadm hown hhd (by decide) ⟨by decide, by decide⟩ (hts _ (List.mem_cons_of_mem _ wd_409)) (xt_c_i hxT) T' x ce hW hm hc2 hx2 hst hE) (fun x H hP hS => ?_)
  refine lv_astore (lv' := [(4, .ref x), (0, .ref g), (1, .int p0), (2, .int p1), (3, .ref ao)]) hx hb dL_at_13 hl (by decide) rfl (fun ls hl => ?_)
  refine lv_iconst (v := iI 1) hx hb dL_at_15 rfl ?_
  exact rk_int hx hb hr hlocks hK hP hD hS rfl rfl dL_at_16
