set_option maxRecDepth 100000 in
theorem lw_sign_r {p : Program} {l : Launch} {e : Env} {s : State} {m : MethodId} {below : List Frame} {meth : Method} {c : Code} {b L : Nat} {xs : Nat → Int32} {D : va_G} {kI kZ kL kJ : ClassId} {Q : State → Prop} (C : lcA p l e s m meth c b L xs D kI kZ kL kJ) {H : Heap} {locs : List Loc} {ls : Array Slot} {cells slots : Nat} {g h ao : Nat} {i : Int} (hi : 0 ≤ i ∧ i + 3 < (L : Int)) {rX rM : Room} {WX WX' WM WM' : va_W} {q0 q1 q2 : Nat} {fsx fsm fsm' : List Value} {f : Nat → Int64} {r0 : Int32} (hg : WX[q0]? = some (g, .inr (6, fsx))) (hh : WM[q1]? = some (h, .inr (7, fsm))) (hh' : WM'[q2]? = some (h, .inr (7, fsm'))) (hcX : rX.cells = 0 ∧ rX.slots = 0 ∧ rX.frames + 1 + 1 ≤ 11 ∧ 8 + (4 + 11) + (8 + (2 + 11) + rX.locals) ≤ 390) (hcM : rM.cells = 0 ∧ rM.slots = 0 ∧ rM.frames + 1 ≤ 11 ∧ 8 + (3 + 11) + rM.locals ≤ 390)
    (hX : ∀ sz, CtI l yX6_sign wsX6_sign rX D vwCl (tyL kI kZ kL kJ) WX [.ref g, .int (iI (xz xs (i + 1)))] r0 WX' sz)
    (hM : ∀ sz, CtI l yX7_sign wsX7_sign rM D vwCl (tyL kI kZ kL kJ) WM [.ref h, .int (iI (xz xs (i + 1)))] r0 WM' sz)
    (hT : ∀ sz, CtP l yX7_thrown wsX7_thrown { frames := 0, cells := 0, slots := 0, locals := 0 } D vwCl (tyL kI kZ kL kJ) WM' [.ref h] (iI 0) sz)
    (hroom : cells + 1 ≤ 601024 ∧ slots + 6 ≤ 7293000) (hP : va_P D vwCl ((oL kJ ao f :: WX) ++ WM) H) (hD : va_D (lA s) ((oL kJ ao f :: WX) ++ WM)) (hS : va_S (lA s) s.heap H locs) (hl : lv_has ls 7 [(0, .ref b), (1, .ref g), (2, .ref h), (3, .ref ao), (4, .int (iI i))])
    (kk : ∀ (H : Heap) (locs : List Loc) (ls : Array Slot) (f : Nat → Int64), va_P D vwCl ((oL kJ ao f :: WX') ++ WM') H → va_D (lA s) ((oL kJ ao f :: WX') ++ WM') → va_S (lA s) s.heap H locs → lv_has ls 7 [(0, .ref b), (1, .ref g), (2, .ref h), (3, .ref ao), (4, .int (iI i))] → W p l e room_1 s m #[Value.ref b] below meth c H locs (cells + 1) (slots + 6) Q (F0 m 953 ls [])) : W p l e room_1 s m #[Value.ref b] below meth c H locs cells slots Q (F0 m 132 ls []) := by
  obtain ⟨hx, hb, hr, hml, hown, hts, hX0, hbl, hlocks, hadm, hxT, hzT, hK, hL⟩ := C
  have hA : ∀ q, s.heap.size ≤ q → lA s q := fun q h => h
  have hbA : ¬ lA s b := fun h => by have h2 : s.heap.size ≤ b := h; omega
  have hr0 : cells ≤ 601024 ∧ slots ≤ 7293000 := by omega
  refine lv_aload_n hx hb dL_law_132 rfl (lv_at hl 1 rfl) ?_
  refine lv_aload_n hx hb dL_law_133 rfl (lv_at hl 0 rfl) ?_
  refine lv_iload hx hb dL_law_134 (lv_at hl 4 rfl) ?_
  refine lv_iconst (v := iI 1) hx hb dL_law_136 rfl ?_
  refine wk_iadd hx hb dL_law_137 ?_
  refine wk_sld hx hb hX0 hbl hbA hS (by omega) (by omega) rfl dL_law_138 ?_
  refine lv_aload_n hx hb dL_law_139 rfl (lv_at hl 3 rfl) ?_
  refine ck_backW (wh_runS (As := [.ref g, .int (iI (xz xs (i + 1))), .ref ao]) (rest := []) ⟨hx, hb, hml, hown, hts⟩ (wL_sign_r (ao := ao) (f := f) H.size hg hcX.1 hcX.2.1 hX) (cwx 3 hts (fun w h => tb_tbl h) wd_269 wd_267 wd_268 wd_32 rfl rfl (by decide +kernel) ⟨hcX.2.2.1, hcX.2.2.2⟩) (ck_preW (lz_pre hzT hS) hxT hK hP hD (List.range' 0 (oL kJ ao f :: WX).length) (ap_C _ _) (tl_nd _ _)) rfl rfl hl.1 rfl (lv_room (Nat.le_of_ble_eq_true rfl)) dL_law_140 ⟨hr0.1, hr0.2⟩) hP hD hS hA (List.range' 0 (oL kJ ao f :: WX).length) (List.range' (oL kJ ao f :: WX).length WM.length) (ap_C _ _) (ap_R _ _) (tl_nd _ _) (ap_dis _ _) (ws' := WM ++ ((oL kJ ao (vp_updL f 0 r0.toInt64)) :: WX')) rfl (fun H locs hP hD hS => ?_)
  refine lv_istore (lv' := [(5, .int (iI 0)), (0, .ref b), (1, .ref g), (2, .ref h), (3, .ref ao), (4, .int (iI i))]) hx hb dL_law_143 hl (by decide) rfl (fun ls hl => ?_)
  refine lv_aload_n hx hb dL_law_145 rfl (lv_at hl 3 rfl) ?_
  refine lv_aload_n hx hb dL_law_146 rfl (lv_at hl 1 rfl) ?_
  refine lv_iload hx hb dL_law_147 (lv_at hl 5 rfl) ?_
  refine lv_iconst (v := iI 1) hx hb dL_law_149 rfl ?_
  refine wk_iadd hx hb dL_law_150 ?_
  refine wk_sld hx hb hX0 hbl hbA hS (by omega) (by omega) rfl dL_law_151 ?_
  refine ck_backI (va_runV (As := [.int (iI (xz xs (i + 1)))]) (rest := []) ⟨hx, hb, hml, hown, hts⟩ (hM H.size) (cwV 1 hts (gd_V (fun w h => tb_tbl h) wd_692 wd_693 wd_694 wd_41 wd_695) rfl hcM.1 hcM.2.1 (by decide +kernel) ⟨hcM.2.2.1, hcM.2.2.2⟩) (ck_preV hxT hK hP hD (List.range' 0 WM.length) (ap_C _ _) (tl_nd _ _) (q0 := q1) rfl rfl hh) rfl rfl hl.1 rfl (lv_room (Nat.le_of_ble_eq_true rfl)) dL_law_152 ⟨hr0.1, hr0.2⟩) hP hD hS hA (List.range' 0 WM.length) (List.range' WM.length ((oL kJ ao (vp_updL f 0 r0.toInt64)) :: WX').length) (ap_C _ _) (ap_R _ _) (tl_nd _ _) (ap_dis _ _) (ws' := ((oL kJ ao (vp_updL f 0 r0.toInt64)) :: WX') ++ WM') rfl (fun H locs hP hD hS => ?_)
  refine lv_istore (lv' := [(6, .int r0), (5, .int (iI 0)), (0, .ref b), (1, .ref g), (2, .ref h), (3, .ref ao), (4, .int (iI i))]) hx hb dL_law_155 hl (by decide) rfl (fun ls hl => ?_)
  refine lv_aload_n hx hb dL_law_157 rfl (lv_at hl 4 rfl) ?_
  refine pk_callI (va_runV (As := []) (rest := []) ⟨hx, hb, hml, hown, hts⟩ (hT H.size) (cwV 0 hts (gd_V (fun w h => tb_tbl h) wd_688 wd_689 wd_690 wd_41 wd_691) rfl rfl rfl (by decide +kernel) ⟨Nat.le_of_ble_eq_true rfl, Nat.le_of_ble_eq_true rfl⟩) (ck_preV hxT hK hP hD (List.range' ((oL kJ ao (vp_updL f 0 r0.toInt64)) :: WX').length WM'.length) (ap_R _ _) (tl_nd _ _) (q0 := q2) rfl rfl hh') rfl rfl hl.1 rfl (lv_room (Nat.le_of_ble_eq_true rfl)) dL_law_158 ⟨hr0.1, hr0.2⟩) ?_
  refine lv_iload hx hb dL_law_161 (lv_at hl 1 rfl) ?_
  refine wk_icmp_eq (tgt := 168) hx hb dL_law_163 (by decide) (by omega) (fun _ => ?_) (fun c1 => absurd rfl c1)
  refine lv_iload hx hb dL_law_168 (lv_at hl 1 rfl) ?_
  refine wk_if_ne (tgt := 185) hx hb dL_law_170 (by decide) (by omega) (fun c1 => absurd rfl c1) (fun _ => ?_)
  refine lv_aload_n hx hb dL_law_173 rfl (lv_at hl 5 rfl) ?_
  refine lv_iconst (v := iI 0) hx hb dL_law_174 rfl ?_
  refine wk_lald (v := r0.toInt64) hx hb hK hP 0 3 rfl rfl (by decide) (by simp [vp_updL]) dL_law_175 ?_
  refine lv_iload hx hb dL_law_176 (lv_at hl 0 rfl) ?_
  refine lv_i2l (v := r0.toInt64) hx hb dL_law_178 rfl ?_
  refine wk_lcmpE hx hb rfl dL_law_179 ?_
  refine wk_if_eq (tgt := 185) hx hb dL_law_180 (by decide) (by omega) (fun _ => ?_) (fun c1 => absurd rfl c1)
  refine lv_goto (tgt := 953) hx hb dL_law_185 (by decide) ?_
  refine W.widen (k := cells + 1) (n := slots + 6) (Nat.le_succ _) (Nat.le_add_right slots 6) ?_
  exact kk H locs ls _ hP hD hS (lv_sub hl [2, 3, 4, 5, 6] rfl)
set_option maxRecDepth 100000 in
theorem lw_sign_t1 {p : Program} {l : Launch} {e : Env} {s : State} {m : MethodId} {below : List Frame} {meth : Method} {c : Code} {b L : Nat} {xs : Nat → Int32} {D : va_G} {kI kZ kL kJ : ClassId} {Q : State → Prop} (C : lcA p l e s m meth c b L xs D kI kZ kL kJ) {H : Heap} {locs : List Loc} {ls : Array Slot} {cells slots : Nat} {g h ao : Nat} {i : Int} (hi : 0 ≤ i ∧ i + 3 < (L : Int)) {rX rM : Room} {WX WX' WM WM' : va_W} {q0 q1 q2 : Nat} {fsx fsm fsm' : List Value} {f : Nat → Int64} {r0 : Int32} (hg : WX[q0]? = some (g, .inr (6, fsx))) (hh : WM[q1]? = some (h, .inr (7, fsm))) (hh' : WM'[q2]? = some (h, .inr (7, fsm'))) (hcX : rX.cells = 1 ∧ rX.slots = 6 ∧ rX.frames + 1 + 1 ≤ 11 ∧ 8 + (4 + 11) + (8 + (2 + 11) + rX.locals) ≤ 390) (hcM : rM.cells = 0 ∧ rM.slots = 0 ∧ rM.frames + 1 ≤ 11 ∧ 8 + (3 + 11) + rM.locals ≤ 390)
    (hX : ∀ sz, CtT l yX6_sign wsX6_sign rX D vwCl (tyL kI kZ kL kJ) WX [.ref g, .int (iI (xz xs (i + 1)))] "java/lang/IllegalArgumentException" sz)
    (hM : ∀ sz, CtI l yX7_sign wsX7_sign rM D vwCl (tyL kI kZ kL kJ) WM [.ref h, .int (iI (xz xs (i + 1)))] r0 WM' sz)
    (hT : ∀ sz, CtP l yX7_thrown wsX7_thrown { frames := 0, cells := 0, slots := 0, locals := 0 } D vwCl (tyL kI kZ kL kJ) WM' [.ref h] (iI 1) sz)
    (hroom : cells + 1 ≤ 601024 ∧ slots + 6 ≤ 7293000) (hP : va_P D vwCl ((oL kJ ao f :: WX) ++ WM) H) (hD : va_D (lA s) ((oL kJ ao f :: WX) ++ WM)) (hS : va_S (lA s) s.heap H locs) (hl : lv_has ls 7 [(0, .ref b), (1, .ref g), (2, .ref h), (3, .ref ao), (4, .int (iI i))])
    (kk : ∀ (H : Heap) (locs : List Loc) (ls : Array Slot) (f : Nat → Int64), va_P D vwCl ((oL kJ ao f :: WX) ++ WM') H → va_D (lA s) ((oL kJ ao f :: WX) ++ WM') → va_S (lA s) s.heap H locs → lv_has ls 7 [(0, .ref b), (1, .ref g), (2, .ref h), (3, .ref ao), (4, .int (iI i))] → W p l e room_1 s m #[Value.ref b] below meth c H locs (cells + 1) (slots + 6) Q (F0 m 953 ls [])) : W p l e room_1 s m #[Value.ref b] below meth c H locs cells slots Q (F0 m 132 ls []) := by
  obtain ⟨hx, hb, hr, hml, hown, hts, hX0, hbl, hlocks, hadm, hxT, hzT, hK, hL⟩ := C
  have hA : ∀ q, s.heap.size ≤ q → lA s q := fun q h => h
  have hbA : ¬ lA s b := fun h => by have h2 : s.heap.size ≤ b := h; omega
  have hr0 : cells ≤ 601024 ∧ slots ≤ 7293000 := by omega
  refine lv_aload_n hx hb dL_law_132 rfl (lv_at hl 1 rfl) ?_
  refine lv_aload_n hx hb dL_law_133 rfl (lv_at hl 0 rfl) ?_
  refine lv_iload hx hb dL_law_134 (lv_at hl 4 rfl) ?_
  refine lv_iconst (v := iI 1) hx hb dL_law_136 rfl ?_
  refine wk_iadd hx hb dL_law_137 ?_
  refine wk_sld hx hb hX0 hbl hbA hS (by omega) (by omega) rfl dL_law_138 ?_
  refine lv_aload_n hx hb dL_law_139 rfl (lv_at hl 3 rfl) ?_
  refine ck_backW (wh_runS (As := [.ref g, .int (iI (xz xs (i + 1))), .ref ao]) (rest := []) ⟨hx, hb, hml, hown, hts⟩ (wL_sign_t1 (r0 := 0) (u0 := []) (ao := ao) (f := f) H.size hg hcX.1 hcX.2.1 hX) (cwx 3 hts (fun w h => tb_tbl h) wd_269 wd_267 wd_268 wd_32 rfl rfl (by decide +kernel) ⟨hcX.2.2.1, hcX.2.2.2⟩) (ck_preW (lz_pre hzT hS) hxT hK hP hD (List.range' 0 (oL kJ ao f :: WX).length) (ap_C _ _) (tl_nd _ _)) rfl rfl hl.1 rfl (lv_room (Nat.le_of_ble_eq_true rfl)) dL_law_140 hroom) hP hD hS hA (List.range' 0 (oL kJ ao f :: WX).length) (List.range' (oL kJ ao f :: WX).length WM.length) (ap_C _ _) (ap_R _ _) (tl_nd _ _) (ap_dis _ _) (ws' := WM ++ ((oL kJ ao f) :: WX)) rfl (fun H locs hP hD hS => ?_)
  refine lv_istore (lv' := [(5, .int (iI 1)), (0, .ref b), (1, .ref g), (2, .ref h), (3, .ref ao), (4, .int (iI i))]) hx hb dL_law_143 hl (by decide) rfl (fun ls hl => ?_)
  have hr0 : cells + 1 ≤ 601024 ∧ slots + 6 ≤ 7293000 := hroom
  refine lv_aload_n hx hb dL_law_145 rfl (lv_at hl 3 rfl) ?_
  refine lv_aload_n hx hb dL_law_146 rfl (lv_at hl 1 rfl) ?_
  refine lv_iload hx hb dL_law_147 (lv_at hl 5 rfl) ?_
  refine lv_iconst (v := iI 1) hx hb dL_law_149 rfl ?_
  refine wk_iadd hx hb dL_law_150 ?_
  refine wk_sld hx hb hX0 hbl hbA hS (by omega) (by omega) rfl dL_law_151 ?_
  refine ck_backI (va_runV (As := [.int (iI (xz xs (i + 1)))]) (rest := []) ⟨hx, hb, hml, hown, hts⟩ (hM H.size) (cwV 1 hts (gd_V (fun w h => tb_tbl h) wd_692 wd_693 wd_694 wd_41 wd_695) rfl hcM.1 hcM.2.1 (by decide +kernel) ⟨hcM.2.2.1, hcM.2.2.2⟩) (ck_preV hxT hK hP hD (List.range' 0 WM.length) (ap_C _ _) (tl_nd _ _) (q0 := q1) rfl rfl hh) rfl rfl hl.1 rfl (lv_room (Nat.le_of_ble_eq_true rfl)) dL_law_152 ⟨hr0.1, hr0.2⟩) hP hD hS hA (List.range' 0 WM.length) (List.range' WM.length ((oL kJ ao f) :: WX).length) (ap_C _ _) (ap_R _ _) (tl_nd _ _) (ap_dis _ _) (ws' := ((oL kJ ao f) :: WX) ++ WM') rfl (fun H locs hP hD hS => ?_)
  refine lv_istore (lv' := [(6, .int r0), (5, .int (iI 1)), (0, .ref b), (1, .ref g), (2, .ref h), (3, .ref ao), (4, .int (iI i))]) hx hb dL_law_155 hl (by decide) rfl (fun ls hl => ?_)
  refine lv_aload_n hx hb dL_law_157 rfl (lv_at hl 4 rfl) ?_
  refine pk_callI (va_runV (As := []) (rest := []) ⟨hx, hb, hml, hown, hts⟩ (hT H.size) (cwV 0 hts (gd_V (fun w h => tb_tbl h) wd_688 wd_689 wd_690 wd_41 wd_691) rfl rfl rfl (by decide +kernel) ⟨Nat.le_of_ble_eq_true rfl, Nat.le_of_ble_eq_true rfl⟩) (ck_preV hxT hK hP hD (List.range' ((oL kJ ao f) :: WX).length WM'.length) (ap_R _ _) (tl_nd _ _) (q0 := q2) rfl rfl hh') rfl rfl hl.1 rfl (lv_room (Nat.le_of_ble_eq_true rfl)) dL_law_158 ⟨hr0.1, hr0.2⟩) ?_
  refine lv_iload hx hb dL_law_161 (lv_at hl 1 rfl) ?_
  refine wk_icmp_eq (tgt := 168) hx hb dL_law_163 (by decide) (by omega) (fun _ => ?_) (fun c1 => absurd rfl c1)
  refine lv_iload hx hb dL_law_168 (lv_at hl 1 rfl) ?_
  refine wk_if_ne (tgt := 185) hx hb dL_law_170 (by decide) (by omega) (fun _ => ?_) (fun c1 => absurd c1 (by decide))
  refine lv_goto (tgt := 953) hx hb dL_law_185 (by decide) ?_
  exact kk H locs ls _ hP hD hS (lv_sub hl [2, 3, 4, 5, 6] rfl)
set_option maxRecDepth 100000 in
theorem lw_sign_t2 {p : Program} {l : Launch} {e : Env} {s : State} {m : MethodId} {below : List Frame} {meth : Method} {c : Code} {b L : Nat} {xs : Nat → Int32} {D : va_G} {kI kZ kL kJ : ClassId} {Q : State → Prop} (C : lcA p l e s m meth c b L xs D kI kZ kL kJ) {H : Heap} {locs : List Loc} {ls : Array Slot} {cells slots : Nat} {g h ao : Nat} {i : Int} (hi : 0 ≤ i ∧ i + 3 < (L : Int)) {rX rM : Room} {WX WX' WM WM' : va_W} {q0 q1 q2 : Nat} {fsx fsm fsm' : List Value} {f : Nat → Int64} {r0 : Int32} (hg : WX[q0]? = some (g, .inr (6, fsx))) (hh : WM[q1]? = some (h, .inr (7, fsm))) (hh' : WM'[q2]? = some (h, .inr (7, fsm'))) (hcX : rX.cells = 1 ∧ rX.slots = 6 ∧ rX.frames + 1 + 1 ≤ 11 ∧ 8 + (4 + 11) + (8 + (2 + 11) + rX.locals) ≤ 390) (hcM : rM.cells = 0 ∧ rM.slots = 0 ∧ rM.frames + 1 ≤ 11 ∧ 8 + (3 + 11) + rM.locals ≤ 390)
    (hX : ∀ sz, CtT l yX6_sign wsX6_sign rX D vwCl (tyL kI kZ kL kJ) WX [.ref g, .int (iI (xz xs (i + 1)))] "java/lang/IllegalStateException" sz)
    (hM : ∀ sz, CtI l yX7_sign wsX7_sign rM D vwCl (tyL kI kZ kL kJ) WM [.ref h, .int (iI (xz xs (i + 1)))] r0 WM' sz)
    (hT : ∀ sz, CtP l yX7_thrown wsX7_thrown { frames := 0, cells := 0, slots := 0, locals := 0 } D vwCl (tyL kI kZ kL kJ) WM' [.ref h] (iI 2) sz)
    (hroom : cells + 1 ≤ 601024 ∧ slots + 6 ≤ 7293000) (hP : va_P D vwCl ((oL kJ ao f :: WX) ++ WM) H) (hD : va_D (lA s) ((oL kJ ao f :: WX) ++ WM)) (hS : va_S (lA s) s.heap H locs) (hl : lv_has ls 7 [(0, .ref b), (1, .ref g), (2, .ref h), (3, .ref ao), (4, .int (iI i))])
    (kk : ∀ (H : Heap) (locs : List Loc) (ls : Array Slot) (f : Nat → Int64), va_P D vwCl ((oL kJ ao f :: WX) ++ WM') H → va_D (lA s) ((oL kJ ao f :: WX) ++ WM') → va_S (lA s) s.heap H locs → lv_has ls 7 [(0, .ref b), (1, .ref g), (2, .ref h), (3, .ref ao), (4, .int (iI i))] → W p l e room_1 s m #[Value.ref b] below meth c H locs (cells + 1) (slots + 6) Q (F0 m 953 ls [])) : W p l e room_1 s m #[Value.ref b] below meth c H locs cells slots Q (F0 m 132 ls []) := by
  obtain ⟨hx, hb, hr, hml, hown, hts, hX0, hbl, hlocks, hadm, hxT, hzT, hK, hL⟩ := C
  have hA : ∀ q, s.heap.size ≤ q → lA s q := fun q h => h
  have hbA : ¬ lA s b := fun h => by have h2 : s.heap.size ≤ b := h; omega
  have hr0 : cells ≤ 601024 ∧ slots ≤ 7293000 := by omega
  refine lv_aload_n hx hb dL_law_132 rfl (lv_at hl 1 rfl) ?_
  refine lv_aload_n hx hb dL_law_133 rfl (lv_at hl 0 rfl) ?_
  refine lv_iload hx hb dL_law_134 (lv_at hl 4 rfl) ?_
  refine lv_iconst (v := iI 1) hx hb dL_law_136 rfl ?_
  refine wk_iadd hx hb dL_law_137 ?_
  refine wk_sld hx hb hX0 hbl hbA hS (by omega) (by omega) rfl dL_law_138 ?_
  refine lv_aload_n hx hb dL_law_139 rfl (lv_at hl 3 rfl) ?_
  refine ck_backW (wh_runS (As := [.ref g, .int (iI (xz xs (i + 1))), .ref ao]) (rest := []) ⟨hx, hb, hml, hown, hts⟩ (wL_sign_t2 (r0 := 0) (u0 := []) (ao := ao) (f := f) H.size hg hcX.1 hcX.2.1 hX) (cwx 3 hts (fun w h => tb_tbl h) wd_269 wd_267 wd_268 wd_32 rfl rfl (by decide +kernel) ⟨hcX.2.2.1, hcX.2.2.2⟩) (ck_preW (lz_pre hzT hS) hxT hK hP hD (List.range' 0 (oL kJ ao f :: WX).length) (ap_C _ _) (tl_nd _ _)) rfl rfl hl.1 rfl (lv_room (Nat.le_of_ble_eq_true rfl)) dL_law_140 hroom) hP hD hS hA (List.range' 0 (oL kJ ao f :: WX).length) (List.range' (oL kJ ao f :: WX).length WM.length) (ap_C _ _) (ap_R _ _) (tl_nd _ _) (ap_dis _ _) (ws' := WM ++ ((oL kJ ao f) :: WX)) rfl (fun H locs hP hD hS => ?_)
  refine lv_istore (lv' := [(5, .int (iI 2)), (0, .ref b), (1, .ref g), (2, .ref h), (3, .ref ao), (4, .int (iI i))]) hx hb dL_law_143 hl (by decide) rfl (fun ls hl => ?_)
  have hr0 : cells + 1 ≤ 601024 ∧ slots + 6 ≤ 7293000 := hroom
  refine lv_aload_n hx hb dL_law_145 rfl (lv_at hl 3 rfl) ?_
  refine lv_aload_n hx hb dL_law_146 rfl (lv_at hl 1 rfl) ?_
  refine lv_iload hx hb dL_law_147 (lv_at hl 5 rfl) ?_
  refine lv_iconst (v := iI 1) hx hb dL_law_149 rfl ?_
  refine wk_iadd hx hb dL_law_150 ?_
  refine wk_sld hx hb hX0 hbl hbA hS (by omega) (by omega) rfl dL_law_151 ?_
  refine ck_backI (va_runV (As := [.int (iI (xz xs (i + 1)))]) (rest := []) ⟨hx, hb, hml, hown, hts⟩ (hM H.size) (cwV 1 hts (gd_V (fun w h => tb_tbl h) wd_692 wd_693 wd_694 wd_41 wd_695) rfl hcM.1 hcM.2.1 (by decide +kernel) ⟨hcM.2.2.1, hcM.2.2.2⟩) (ck_preV hxT hK hP hD (List.range' 0 WM.length) (ap_C _ _) (tl_nd _ _) (q0 := q1) rfl rfl hh) rfl rfl hl.1 rfl (lv_room (Nat.le_of_ble_eq_true rfl)) dL_law_152 ⟨hr0.1, hr0.2⟩) hP hD hS hA (List.range' 0 WM.length) (List.range' WM.length ((oL kJ ao f) :: WX).length) (ap_C _ _) (ap_R _ _) (tl_nd _ _) (ap_dis _ _) (ws' := ((oL kJ ao f) :: WX) ++ WM') rfl (fun H locs hP hD hS => ?_)
  refine lv_istore (lv' := [(6, .int r0), (5, .int (iI 2)), (0, .ref b), (1, .ref g), (2, .ref h), (3, .ref ao), (4, .int (iI i))]) hx hb dL_law_155 hl (by decide) rfl (fun ls hl => ?_)
  refine lv_aload_n hx hb dL_law_157 rfl (lv_at hl 4 rfl) ?_
  refine pk_callI (va_runV (As := []) (rest := []) ⟨hx, hb, hml, hown, hts⟩ (hT H.size) (cwV 0 hts (gd_V (fun w h => tb_tbl h) wd_688 wd_689 wd_690 wd_41 wd_691) rfl rfl rfl (by decide +kernel) ⟨Nat.le_of_ble_eq_true rfl, Nat.le_of_ble_eq_true rfl⟩) (ck_preV hxT hK hP hD (List.range' ((oL kJ ao f) :: WX).length WM'.length) (ap_R _ _) (tl_nd _ _) (q0 := q2) rfl rfl hh') rfl rfl hl.1 rfl (lv_room (Nat.le_of_ble_eq_true rfl)) dL_law_158 ⟨hr0.1, hr0.2⟩) ?_
  refine lv_iload hx hb dL_law_161 (lv_at hl 1 rfl) ?_
  refine wk_icmp_eq (tgt := 168) hx hb dL_law_163 (by decide) (by omega) (fun _ => ?_) (fun c1 => absurd rfl c1)
  refine lv_iload hx hb dL_law_168 (lv_at hl 1 rfl) ?_
  refine wk_if_ne (tgt := 185) hx hb dL_law_170 (by decide) (by omega) (fun _ => ?_) (fun c1 => absurd c1 (by decide))
  refine lv_goto (tgt := 953) hx hb dL_law_185 (by decide) ?_
  exact kk H locs ls _ hP hD hS (lv_sub hl [2, 3, 4, 5, 6] rfl)
set_option maxRecDepth 100000 in
theorem lw_box_r {p : Program} {l : Launch} {e : Env} {s : State} {m : MethodId} {below : List Frame} {meth : Method} {c : Code} {b L : Nat} {xs : Nat → Int32} {D : va_G} {kI kZ kL kJ : ClassId} {Q : State → Prop} (C : lcA p l e s m meth c b L xs D kI kZ kL kJ) {H : Heap} {locs : List Loc} {ls : Array Slot} {cells slots : Nat} {g h ao : Nat} {i : Int} (hi : 0 ≤ i ∧ i + 3 < (L : Int)) {rX rM : Room} {WX WX' WM WM' : va_W} {q0 q1 q2 : Nat} {fsx fsm fsm' : List Value} {f : Nat → Int64} {r0 : Int32} (hg : WX[q0]? = some (g, .inr (6, fsx))) (hh : WM[q1]? = some (h, .inr (7, fsm))) (hh' : WM'[q2]? = some (h, .inr (7, fsm'))) (hcX : rX.cells = 0 ∧ rX.slots = 0 ∧ rX.frames + 1 + 1 ≤ 11 ∧ 8 + (5 + 11) + (8 + (4 + 11) + rX.locals) ≤ 390) (hcM : rM.cells = 0 ∧ rM.slots = 0 ∧ rM.frames + 1 ≤ 11 ∧ 8 + (4 + 11) + rM.locals ≤ 390)
    (hX : ∀ sz, CtI l yX6_box wsX6_box rX D vwCl (tyL kI kZ kL kJ) WX [.ref g, .int (iI (xz xs (i + 1))), .int (iI (if xz xs (i + 2) = 0 then 0 else 1))] r0 WX' sz)
    (hM : ∀ sz, CtI l yX7_box wsX7_box rM D vwCl (tyL kI kZ kL kJ) WM [.ref h, .int (iI (xz xs (i + 1))), .int (iI (if xz xs (i + 2) = 0 then 0 else 1))] r0 WM' sz)
    (hT : ∀ sz, CtP l yX7_thrown wsX7_thrown { frames := 0, cells := 0, slots := 0, locals := 0 } D vwCl (tyL kI kZ kL kJ) WM' [.ref h] (iI 0) sz)
    (hroom : cells + 1 ≤ 601024 ∧ slots + 6 ≤ 7293000) (hP : va_P D vwCl ((oL kJ ao f :: WX) ++ WM) H) (hD : va_D (lA s) ((oL kJ ao f :: WX) ++ WM)) (hS : va_S (lA s) s.heap H locs) (hl : lv_has ls 7 [(0, .ref b), (1, .ref g), (2, .ref h), (3, .ref ao), (4, .int (iI i))])
    (kk : ∀ (H : Heap) (locs : List Loc) (ls : Array Slot) (f : Nat → Int64), va_P D vwCl ((oL kJ ao f :: WX') ++ WM') H → va_D (lA s) ((oL kJ ao f :: WX') ++ WM') → va_S (lA s) s.heap H locs → lv_has ls 7 [(0, .ref b), (1, .ref g), (2, .ref h), (3, .ref ao), (4, .int (iI i))] → W p l e room_1 s m #[Value.ref b] below meth c H locs (cells + 1) (slots + 6) Q (F0 m 953 ls [])) : W p l e room_1 s m #[Value.ref b] below meth c H locs cells slots Q (F0 m 214 ls []) := by
  obtain ⟨hx, hb, hr, hml, hown, hts, hX0, hbl, hlocks, hadm, hxT, hzT, hK, hL⟩ := C
  have hA : ∀ q, s.heap.size ≤ q → lA s q := fun q h => h
  have hbA : ¬ lA s b := fun h => by have h2 : s.heap.size ≤ b := h; omega
  have hr0 : cells ≤ 601024 ∧ slots ≤ 7293000 := by omega
  by_cases hz : xz xs (i + 2) = 0
  · rw [if_pos hz] at hX hM
    refine lv_aload_n hx hb dL_law_214 rfl (lv_at hl 1 rfl) ?_
    refine lv_aload_n hx hb dL_law_215 rfl (lv_at hl 0 rfl) ?_
    refine lv_iload hx hb dL_law_216 (lv_at hl 4 rfl) ?_
    refine lv_iconst (v := iI 1) hx hb dL_law_218 rfl ?_
    refine wk_iadd hx hb dL_law_219 ?_
    refine wk_sld hx hb hX0 hbl hbA hS (by omega) (by omega) rfl dL_law_220 ?_
    refine lv_aload_n hx hb dL_law_221 rfl (lv_at hl 0 rfl) ?_
    refine lv_iload hx hb dL_law_222 (lv_at hl 4 rfl) ?_
    refine lv_iconst (v := iI 2) hx hb dL_law_224 rfl ?_
    refine wk_iadd hx hb dL_law_225 ?_
    refine wk_sld hx hb hX0 hbl hbA hS (by omega) (by omega) rfl dL_law_226 ?_
    refine wk_if_eq (tgt := 234) hx hb dL_law_227 (by decide) (xz_rng _ _) (fun _ => ?_) (fun c1 => absurd hz c1)
    refine lv_iconst (v := iI 0) hx hb dL_law_234 rfl ?_
    refine lv_aload_n hx hb dL_law_235 rfl (lv_at hl 3 rfl) ?_
    refine ck_backW (wh_runS (As := [.ref g, .int (iI (xz xs (i + 1))), .int (iI 0), .ref ao]) (rest := []) ⟨hx, hb, hml, hown, hts⟩ (wL_box_r (ao := ao) (f := f) H.size hg hcX.1 hcX.2.1 hX) (cwx 4 hts (fun w h => tb_tbl h) wd_376 wd_374 wd_375 wd_32 rfl rfl (by decide +kernel) ⟨hcX.2.2.1, hcX.2.2.2⟩) (ck_preW (lz_pre hzT hS) hxT hK hP hD (List.range' 0 (oL kJ ao f :: WX).length) (ap_C _ _) (tl_nd _ _)) rfl rfl hl.1 rfl (lv_room (Nat.le_of_ble_eq_true rfl)) dL_law_236 ⟨hr0.1, hr0.2⟩) hP hD hS hA (List.range' 0 (oL kJ ao f :: WX).length) (List.range' (oL kJ ao f :: WX).length WM.length) (ap_C _ _) (ap_R _ _) (tl_nd _ _) (ap_dis _ _) (ws' := WM ++ ((oL kJ ao (vp_updL f 0 r0.toInt64)) :: WX')) rfl (fun H locs hP hD hS => ?_)
    refine lv_istore (lv' := [(5, .int (iI 0)), (0, .ref b), (1, .ref g), (2, .ref h), (3, .ref ao), (4, .int (iI i))]) hx hb dL_law_239 hl (by decide) rfl (fun ls hl => ?_)
    refine lv_aload_n hx hb dL_law_241 rfl (lv_at hl 3 rfl) ?_
    refine lv_aload_n hx hb dL_law_242 rfl (lv_at hl 1 rfl) ?_
    refine lv_iload hx hb dL_law_243 (lv_at hl 5 rfl) ?_
    refine lv_iconst (v := iI 1) hx hb dL_law_245 rfl ?_
    refine wk_iadd hx hb dL_law_246 ?_
    refine wk_sld hx hb hX0 hbl hbA hS (by omega) (by omega) rfl dL_law_247 ?_
    refine lv_aload_n hx hb dL_law_248 rfl (lv_at hl 1 rfl) ?_
    refine lv_iload hx hb dL_law_249 (lv_at hl 5 rfl) ?_
    refine lv_iconst (v := iI 2) hx hb dL_law_251 rfl ?_
    refine wk_iadd hx hb dL_law_252 ?_
    refine wk_sld hx hb hX0 hbl hbA hS (by omega) (by omega) rfl dL_law_253 ?_
    refine wk_if_eq (tgt := 261) hx hb dL_law_254 (by decide) (xz_rng _ _) (fun _ => ?_) (fun c1 => absurd hz c1)
    refine lv_iconst (v := iI 0) hx hb dL_law_261 rfl ?_
    refine ck_backI (va_runV (As := [.int (iI (xz xs (i + 1))), .int (iI 0)]) (rest := []) ⟨hx, hb, hml, hown, hts⟩ (hM H.size) (cwV 2 hts (gd_V (fun w h => tb_tbl h) wd_718 wd_719 wd_720 wd_41 wd_721) rfl hcM.1 hcM.2.1 (by decide +kernel) ⟨hcM.2.2.1, hcM.2.2.2⟩) (ck_preV hxT hK hP hD (List.range' 0 WM.length) (ap_C _ _) (tl_nd _ _) (q0 := q1) rfl rfl hh) rfl rfl hl.1 rfl (lv_room (Nat.le_of_ble_eq_true rfl)) dL_law_262 ⟨hr0.1, hr0.2⟩) hP hD hS hA (List.range' 0 WM.length) (List.range' WM.length ((oL kJ ao (vp_updL f 0 r0.toInt64)) :: WX').length) (ap_C _ _) (ap_R _ _) (tl_nd _ _) (ap_dis _ _) (ws' := ((oL kJ ao (vp_updL f 0 r0.toInt64)) :: WX') ++ WM') rfl (fun H locs hP hD hS => ?_)
    refine lv_istore (lv' := [(6, .int r0), (5, .int (iI 0)), (0, .ref b), (1, .ref g), (2, .ref h), (3, .ref ao), (4, .int (iI i))]) hx hb dL_law_265 hl (by decide) rfl (fun ls hl => ?_)
    refine lv_aload_n hx hb dL_law_267 rfl (lv_at hl 4 rfl) ?_
    refine pk_callI (va_runV (As := []) (rest := []) ⟨hx, hb, hml, hown, hts⟩ (hT H.size) (cwV 0 hts (gd_V (fun w h => tb_tbl h) wd_688 wd_689 wd_690 wd_41 wd_691) rfl rfl rfl (by decide +kernel) ⟨Nat.le_of_ble_eq_true rfl, Nat.le_of_ble_eq_true rfl⟩) (ck_preV hxT hK hP hD (List.range' ((oL kJ ao (vp_updL f 0 r0.toInt64)) :: WX').length WM'.length) (ap_R _ _) (tl_nd _ _) (q0 := q2) rfl rfl hh') rfl rfl hl.1 rfl (lv_room (Nat.le_of_ble_eq_true rfl)) dL_law_268 ⟨hr0.1, hr0.2⟩) ?_
    refine lv_iload hx hb dL_law_271 (lv_at hl 1 rfl) ?_
    refine wk_icmp_eq (tgt := 278) hx hb dL_law_273 (by decide) (by omega) (fun _ => ?_) (fun c1 => absurd rfl c1)
    refine lv_iload hx hb dL_law_278 (lv_at hl 1 rfl) ?_
    refine wk_if_ne (tgt := 295) hx hb dL_law_280 (by decide) (by omega) (fun c1 => absurd rfl c1) (fun _ => ?_)
    refine lv_aload_n hx hb dL_law_283 rfl (lv_at hl 5 rfl) ?_
    refine lv_iconst (v := iI 0) hx hb dL_law_284 rfl ?_
    refine wk_lald (v := r0.toInt64) hx hb hK hP 0 3 rfl rfl (by decide) (by simp [vp_updL]) dL_law_285 ?_
    refine lv_iload hx hb dL_law_286 (lv_at hl 0 rfl) ?_
    refine lv_i2l (v := r0.toInt64) hx hb dL_law_288 rfl ?_
    refine wk_lcmpE hx hb rfl dL_law_289 ?_
    refine wk_if_eq (tgt := 295) hx hb dL_law_290 (by decide) (by omega) (fun _ => ?_) (fun c1 => absurd rfl c1)
    refine lv_goto (tgt := 953) hx hb dL_law_295 (by decide) ?_
    refine W.widen (k := cells + 1) (n := slots + 6) (Nat.le_succ _) (Nat.le_add_right slots 6) ?_
    exact kk H locs ls _ hP hD hS (lv_sub hl [2, 3, 4, 5, 6] rfl)
  · rw [if_neg hz] at hX hM
    refine lv_aload_n hx hb dL_law_214 rfl (lv_at hl 1 rfl) ?_
    refine lv_aload_n hx hb dL_law_215 rfl (lv_at hl 0 rfl) ?_
    refine lv_iload hx hb dL_law_216 (lv_at hl 4 rfl) ?_
    refine lv_iconst (v := iI 1) hx hb dL_law_218 rfl ?_
    refine wk_iadd hx hb dL_law_219 ?_
    refine wk_sld hx hb hX0 hbl hbA hS (by omega) (by omega) rfl dL_law_220 ?_
    refine lv_aload_n hx hb dL_law_221 rfl (lv_at hl 0 rfl) ?_
    refine lv_iload hx hb dL_law_222 (lv_at hl 4 rfl) ?_
    refine lv_iconst (v := iI 2) hx hb dL_law_224 rfl ?_
    refine wk_iadd hx hb dL_law_225 ?_
    refine wk_sld hx hb hX0 hbl hbA hS (by omega) (by omega) rfl dL_law_226 ?_
    refine wk_if_eq (tgt := 234) hx hb dL_law_227 (by decide) (xz_rng _ _) (fun c1 => absurd c1 hz) (fun _ => ?_)
    refine lv_iconst (v := iI 1) hx hb dL_law_230 rfl ?_
    refine lv_goto (tgt := 235) hx hb dL_law_231 (by decide) ?_
    refine lv_aload_n hx hb dL_law_235 rfl (lv_at hl 3 rfl) ?_
    refine ck_backW (wh_runS (As := [.ref g, .int (iI (xz xs (i + 1))), .int (iI 1), .ref ao]) (rest := []) ⟨hx, hb, hml, hown, hts⟩ (wL_box_r (ao := ao) (f := f) H.size hg hcX.1 hcX.2.1 hX) (cwx 4 hts (fun w h => tb_tbl h) wd_376 wd_374 wd_375 wd_32 rfl rfl (by decide +kernel) ⟨hcX.2.2.1, hcX.2.2.2⟩) (ck_preW (lz_pre hzT hS) hxT hK hP hD (List.range' 0 (oL kJ ao f :: WX).length) (ap_C _ _) (tl_nd _ _)) rfl rfl hl.1 rfl (lv_room (Nat.le_of_ble_eq_true rfl)) dL_law_236 ⟨hr0.1, hr0.2⟩) hP hD hS hA (List.range' 0 (oL kJ ao f :: WX).length) (List.range' (oL kJ ao f :: WX).length WM.length) (ap_C _ _) (ap_R _ _) (tl_nd _ _) (ap_dis _ _) (ws' := WM ++ ((oL kJ ao (vp_updL f 0 r0.toInt64)) :: WX')) rfl (fun H locs hP hD hS => ?_)
    refine lv_istore (lv' := [(5, .int (iI 0)), (0, .ref b), (1, .ref g), (2, .ref h), (3, .ref ao), (4, .int (iI i))]) hx hb dL_law_239 hl (by decide) rfl (fun ls hl => ?_)
    refine lv_aload_n hx hb dL_law_241 rfl (lv_at hl 3 rfl) ?_
    refine lv_aload_n hx hb dL_law_242 rfl (lv_at hl 1 rfl) ?_
    refine lv_iload hx hb dL_law_243 (lv_at hl 5 rfl) ?_
    refine lv_iconst (v := iI 1) hx hb dL_law_245 rfl ?_
    refine wk_iadd hx hb dL_law_246 ?_
    refine wk_sld hx hb hX0 hbl hbA hS (by omega) (by omega) rfl dL_law_247 ?_
    refine lv_aload_n hx hb dL_law_248 rfl (lv_at hl 1 rfl) ?_
    refine lv_iload hx hb dL_law_249 (lv_at hl 5 rfl) ?_
    refine lv_iconst (v := iI 2) hx hb dL_law_251 rfl ?_
    refine wk_iadd hx hb dL_law_252 ?_
    refine wk_sld hx hb hX0 hbl hbA hS (by omega) (by omega) rfl dL_law_253 ?_
    refine wk_if_eq (tgt := 261) hx hb dL_law_254 (by decide) (xz_rng _ _) (fun c1 => absurd c1 hz) (fun _ => ?_)
    refine lv_iconst (v := iI 1) hx hb dL_law_257 rfl ?_
    refine lv_goto (tgt := 262) hx hb dL_law_258 (by decide) ?_
    refine ck_backI (va_runV (As := [.int (iI (xz xs (i + 1))), .int (iI 1)]) (rest := []) ⟨hx, hb, hml, hown, hts⟩ (hM H.size) (cwV 2 hts (gd_V (fun w h => tb_tbl h) wd_718 wd_719 wd_720 wd_41 wd_721) rfl hcM.1 hcM.2.1 (by decide +kernel) ⟨hcM.2.2.1, hcM.2.2.2⟩) (ck_preV hxT hK hP hD (List.range' 0 WM.length) (ap_C _ _) (tl_nd _ _) (q0 := q1) rfl rfl hh) rfl rfl hl.1 rfl (lv_room (Nat.le_of_ble_eq_true rfl)) dL_law_262 ⟨hr0.1, hr0.2⟩) hP hD hS hA (List.range' 0 WM.length) (List.range' WM.length ((oL kJ ao (vp_updL f 0 r0.toInt64)) :: WX').length) (ap_C _ _) (ap_R _ _) (tl_nd _ _) (ap_dis _ _) (ws' := ((oL kJ ao (vp_updL f 0 r0.toInt64)) :: WX') ++ WM') rfl (fun H locs hP hD hS => ?_)
    refine lv_istore (lv' := [(6, .int r0), (5, .int (iI 0)), (0, .ref b), (1, .ref g), (2, .ref h), (3, .ref ao), (4, .int (iI i))]) hx hb dL_law_265 hl (by decide) rfl (fun ls hl => ?_)
    refine lv_aload_n hx hb dL_law_267 rfl (lv_at hl 4 rfl) ?_
    refine pk_callI (va_runV (As := []) (rest := []) ⟨hx, hb, hml, hown, hts⟩ (hT H.size) (cwV 0 hts (gd_V (fun w h => tb_tbl h) wd_688 wd_689 wd_690 wd_41 wd_691) rfl rfl rfl (by decide +kernel) ⟨Nat.le_of_ble_eq_true rfl, Nat.le_of_ble_eq_true rfl⟩) (ck_preV hxT hK hP hD (List.range' ((oL kJ ao (vp_updL f 0 r0.toInt64)) :: WX').length WM'.length) (ap_R _ _) (tl_nd _ _) (q0 := q2) rfl rfl hh') rfl rfl hl.1 rfl (lv_room (Nat.le_of_ble_eq_true rfl)) dL_law_268 ⟨hr0.1, hr0.2⟩) ?_
    refine lv_iload hx hb dL_law_271 (lv_at hl 1 rfl) ?_
    refine wk_icmp_eq (tgt := 278) hx hb dL_law_273 (by decide) (by omega) (fun _ => ?_) (fun c1 => absurd rfl c1)
    refine lv_iload hx hb dL_law_278 (lv_at hl 1 rfl) ?_
    refine wk_if_ne (tgt := 295) hx hb dL_law_280 (by decide) (by omega) (fun c1 => absurd rfl c1) (fun _ => ?_)
    refine lv_aload_n hx hb dL_law_283 rfl (lv_at hl 5 rfl) ?_
    refine lv_iconst (v := iI 0) hx hb dL_law_284 rfl ?_
    refine wk_lald (v := r0.toInt64) hx hb hK hP 0 3 rfl rfl (by decide) (by simp [vp_updL]) dL_law_285 ?_
    refine lv_iload hx hb dL_law_286 (lv_at hl 0 rfl) ?_
    refine lv_i2l (v := r0.toInt64) hx hb dL_law_288 rfl ?_
    refine wk_lcmpE hx hb rfl dL_law_289 ?_
    refine wk_if_eq (tgt := 295) hx hb dL_law_290 (by decide) (by omega) (fun _ => ?_) (fun c1 => absurd rfl c1)
    refine lv_goto (tgt := 953) hx hb dL_law_295 (by decide) ?_
    refine W.widen (k := cells + 1) (n := slots + 6) (Nat.le_succ _) (Nat.le_add_right slots 6) ?_
    exact kk H locs ls _ hP hD hS (lv_sub hl [2, 3, 4, 5, 6] rfl)
set_option maxRecDepth 100000 in
theorem lw_box_t1 {p : Program} {l : Launch} {e : Env} {s : State} {m : MethodId} {below : List Frame} {meth : Method} {c : Code} {b L : Nat} {xs : Nat → Int32} {D : va_G} {kI kZ kL kJ : ClassId} {Q : State → Prop} (C : lcA p l e s m meth c b L xs D kI kZ kL kJ) {H : Heap} {locs : List Loc} {ls : Array Slot} {cells slots : Nat} {g h ao : Nat} {i : Int} (hi : 0 ≤ i ∧ i + 3 < (L : Int)) {rX rM : Room} {WX WX' WM WM' : va_W} {q0 q1 q2 : Nat} {fsx fsm fsm' : List Value} {f : Nat → Int64} {r0 : Int32} (hg : WX[q0]? = some (g, .inr (6, fsx))) (hh : WM[q1]? = some (h, .inr (7, fsm))) (hh' : WM'[q2]? = some (h, .inr (7, fsm'))) (hcX : rX.cells = 1 ∧ rX.slots = 6 ∧ rX.frames + 1 + 1 ≤ 11 ∧ 8 + (5 + 11) + (8 + (4 + 11) + rX.locals) ≤ 390) (hcM : rM.cells = 0 ∧ rM.slots = 0 ∧ rM.frames + 1 ≤ 11 ∧ 8 + (4 + 11) + rM.locals ≤ 390)
    (hX : ∀ sz, CtT l yX6_box wsX6_box rX D vwCl (tyL kI kZ kL kJ) WX [.ref g, .int (iI (xz xs (i + 1))), .int (iI (if xz xs (i + 2) = 0 then 0 else 1))] "java/lang/IllegalArgumentException" sz)
    (hM : ∀ sz, CtI l yX7_box wsX7_box rM D vwCl (tyL kI kZ kL kJ) WM [.ref h, .int (iI (xz xs (i + 1))), .int (iI (if xz xs (i + 2) = 0 then 0 else 1))] r0 WM' sz)
    (hT : ∀ sz, CtP l yX7_thrown wsX7_thrown { frames := 0, cells := 0, slots := 0, locals := 0 } D vwCl (tyL kI kZ kL kJ) WM' [.ref h] (iI 1) sz)
    (hroom : cells + 1 ≤ 601024 ∧ slots + 6 ≤ 7293000) (hP : va_P D vwCl ((oL kJ ao f :: WX) ++ WM) H) (hD : va_D (lA s) ((oL kJ ao f :: WX) ++ WM)) (hS : va_S (lA s) s.heap H locs) (hl : lv_has ls 7 [(0, .ref b), (1, .ref g), (2, .ref h), (3, .ref ao), (4, .int (iI i))])
    (kk : ∀ (H : Heap) (locs : List Loc) (ls : Array Slot) (f : Nat → Int64), va_P D vwCl ((oL kJ ao f :: WX) ++ WM') H → va_D (lA s) ((oL kJ ao f :: WX) ++ WM') → va_S (lA s) s.heap H locs → lv_has ls 7 [(0, .ref b), (1, .ref g), (2, .ref h), (3, .ref ao), (4, .int (iI i))] → W p l e room_1 s m #[Value.ref b] below meth c H locs (cells + 1) (slots + 6) Q (F0 m 953 ls [])) : W p l e room_1 s m #[Value.ref b] below meth c H locs cells slots Q (F0 m 214 ls []) := by
  obtain ⟨hx, hb, hr, hml, hown, hts, hX0, hbl, hlocks, hadm, hxT, hzT, hK, hL⟩ := C
  have hA : ∀ q, s.heap.size ≤ q → lA s q := fun q h => h
  have hbA : ¬ lA s b := fun h => by have h2 : s.heap.size ≤ b := h; omega
  have hr0 : cells ≤ 601024 ∧ slots ≤ 7293000 := by omega
  by_cases hz : xz xs (i + 2) = 0
  · rw [if_pos hz] at hX hM
    refine lv_aload_n hx hb dL_law_214 rfl (lv_at hl 1 rfl) ?_
    refine lv_aload_n hx hb dL_law_215 rfl (lv_at hl 0 rfl) ?_
    refine lv_iload hx hb dL_law_216 (lv_at hl 4 rfl) ?_
    refine lv_iconst (v := iI 1) hx hb dL_law_218 rfl ?_
    refine wk_iadd hx hb dL_law_219 ?_
    refine wk_sld hx hb hX0 hbl hbA hS (by omega) (by omega) rfl dL_law_220 ?_
    refine lv_aload_n hx hb dL_law_221 rfl (lv_at hl 0 rfl) ?_
    refine lv_iload hx hb dL_law_222 (lv_at hl 4 rfl) ?_
    refine lv_iconst (v := iI 2) hx hb dL_law_224 rfl ?_
    refine wk_iadd hx hb dL_law_225 ?_
    refine wk_sld hx hb hX0 hbl hbA hS (by omega) (by omega) rfl dL_law_226 ?_
    refine wk_if_eq (tgt := 234) hx hb dL_law_227 (by decide) (xz_rng _ _) (fun _ => ?_) (fun c1 => absurd hz c1)
    refine lv_iconst (v := iI 0) hx hb dL_law_234 rfl ?_
    refine lv_aload_n hx hb dL_law_235 rfl (lv_at hl 3 rfl) ?_
    refine ck_backW (wh_runS (As := [.ref g, .int (iI (xz xs (i + 1))), .int (iI 0), .ref ao]) (rest := []) ⟨hx, hb, hml, hown, hts⟩ (wL_box_t1 (r0 := 0) (u0 := []) (ao := ao) (f := f) H.size hg hcX.1 hcX.2.1 hX) (cwx 4 hts (fun w h => tb_tbl h) wd_376 wd_374 wd_375 wd_32 rfl rfl (by decide +kernel) ⟨hcX.2.2.1, hcX.2.2.2⟩) (ck_preW (lz_pre hzT hS) hxT hK hP hD (List.range' 0 (oL kJ ao f :: WX).length) (ap_C _ _) (tl_nd _ _)) rfl rfl hl.1 rfl (lv_room (Nat.le_of_ble_eq_true rfl)) dL_law_236 hroom) hP hD hS hA (List.range' 0 (oL kJ ao f :: WX).length) (List.range' (oL kJ ao f :: WX).length WM.length) (ap_C _ _) (ap_R _ _) (tl_nd _ _) (ap_dis _ _) (ws' := WM ++ ((oL kJ ao f) :: WX)) rfl (fun H locs hP hD hS => ?_)
    refine lv_istore (lv' := [(5, .int (iI 1)), (0, .ref b), (1, .ref g), (2, .ref h), (3, .ref ao), (4, .int (iI i))]) hx hb dL_law_239 hl (by decide) rfl (fun ls hl => ?_)
    have hr0 : cells + 1 ≤ 601024 ∧ slots + 6 ≤ 7293000 := hroom
    refine lv_aload_n hx hb dL_law_241 rfl (lv_at hl 3 rfl) ?_
    refine lv_aload_n hx hb dL_law_242 rfl (lv_at hl 1 rfl) ?_
    refine lv_iload hx hb dL_law_243 (lv_at hl 5 rfl) ?_
    refine lv_iconst (v := iI 1) hx hb dL_law_245 rfl ?_
    refine wk_iadd hx hb dL_law_246 ?_
    refine wk_sld hx hb hX0 hbl hbA hS (by omega) (by omega) rfl dL_law_247 ?_
    refine lv_aload_n hx hb dL_law_248 rfl (lv_at hl 1 rfl) ?_
    refine lv_iload hx hb dL_law_249 (lv_at hl 5 rfl) ?_
    refine lv_iconst (v := iI 2) hx hb dL_law_251 rfl ?_
    refine wk_iadd hx hb dL_law_252 ?_
    refine wk_sld hx hb hX0 hbl hbA hS (by omega) (by omega) rfl dL_law_253 ?_
    refine wk_if_eq (tgt := 261) hx hb dL_law_254 (by decide) (xz_rng _ _) (fun _ => ?_) (fun c1 => absurd hz c1)
    refine lv_iconst (v := iI 0) hx hb dL_law_261 rfl ?_
    refine ck_backI (va_runV (As := [.int (iI (xz xs (i + 1))), .int (iI 0)]) (rest := []) ⟨hx, hb, hml, hown, hts⟩ (hM H.size) (cwV 2 hts (gd_V (fun w h => tb_tbl h) wd_718 wd_719 wd_720 wd_41 wd_721) rfl hcM.1 hcM.2.1 (by decide +kernel) ⟨hcM.2.2.1, hcM.2.2.2⟩) (ck_preV hxT hK hP hD (List.range' 0 WM.length) (ap_C _ _) (tl_nd _ _) (q0 := q1) rfl rfl hh) rfl rfl hl.1 rfl (lv_room (Nat.le_of_ble_eq_true rfl)) dL_law_262 ⟨hr0.1, hr0.2⟩) hP hD hS hA (List.range' 0 WM.length) (List.range' WM.length ((oL kJ ao f) :: WX).length) (ap_C _ _) (ap_R _ _) (tl_nd _ _) (ap_dis _ _) (ws' := ((oL kJ ao f) :: WX) ++ WM') rfl (fun H locs hP hD hS => ?_)
    refine lv_istore (lv' := [(6, .int r0), (5, .int (iI 1)), (0, .ref b), (1, .ref g), (2, .ref h), (3, .ref ao), (4, .int (iI i))]) hx hb dL_law_265 hl (by decide) rfl (fun ls hl => ?_)
    refine lv_aload_n hx hb dL_law_267 rfl (lv_at hl 4 rfl) ?_
    refine pk_callI (va_runV (As := []) (rest := []) ⟨hx, hb, hml, hown, hts⟩ (hT H.size) (cwV 0 hts (gd_V (fun w h => tb_tbl h) wd_688 wd_689 wd_690 wd_41 wd_691) rfl rfl rfl (by decide +kernel) ⟨Nat.le_of_ble_eq_true rfl, Nat.le_of_ble_eq_true rfl⟩) (ck_preV hxT hK hP hD (List.range' ((oL kJ ao f) :: WX).length WM'.length) (ap_R _ _) (tl_nd _ _) (q0 := q2) rfl rfl hh') rfl rfl hl.1 rfl (lv_room (Nat.le_of_ble_eq_true rfl)) dL_law_268 ⟨hr0.1, hr0.2⟩) ?_
    refine lv_iload hx hb dL_law_271 (lv_at hl 1 rfl) ?_
    refine wk_icmp_eq (tgt := 278) hx hb dL_law_273 (by decide) (by omega) (fun _ => ?_) (fun c1 => absurd rfl c1)
    refine lv_iload hx hb dL_law_278 (lv_at hl 1 rfl) ?_
    refine wk_if_ne (tgt := 295) hx hb dL_law_280 (by decide) (by omega) (fun _ => ?_) (fun c1 => absurd c1 (by decide))
    refine lv_goto (tgt := 953) hx hb dL_law_295 (by decide) ?_
    exact kk H locs ls _ hP hD hS (lv_sub hl [2, 3, 4, 5, 6] rfl)
  · rw [if_neg hz] at hX hM
    refine lv_aload_n hx hb dL_law_214 rfl (lv_at hl 1 rfl) ?_
    refine lv_aload_n hx hb dL_law_215 rfl (lv_at hl 0 rfl) ?_
    refine lv_iload hx hb dL_law_216 (lv_at hl 4 rfl) ?_
    refine lv_iconst (v := iI 1) hx hb dL_law_218 rfl ?_
    refine wk_iadd hx hb dL_law_219 ?_
    refine wk_sld hx hb hX0 hbl hbA hS (by omega) (by omega) rfl dL_law_220 ?_
    refine lv_aload_n hx hb dL_law_221 rfl (lv_at hl 0 rfl) ?_
    refine lv_iload hx hb dL_law_222 (lv_at hl 4 rfl) ?_
    refine lv_iconst (v := iI 2) hx hb dL_law_224 rfl ?_
    refine wk_iadd hx hb dL_law_225 ?_
    refine wk_sld hx hb hX0 hbl hbA hS (by omega) (by omega) rfl dL_law_226 ?_
    refine wk_if_eq (tgt := 234) hx hb dL_law_227 (by decide) (xz_rng _ _) (fun c1 => absurd c1 hz) (fun _ => ?_)
    refine lv_iconst (v := iI 1) hx hb dL_law_230 rfl ?_
    refine lv_goto (tgt := 235) hx hb dL_law_231 (by decide) ?_
    refine lv_aload_n hx hb dL_law_235 rfl (lv_at hl 3 rfl) ?_
    refine ck_backW (wh_runS (As := [.ref g, .int (iI (xz xs (i + 1))), .int (iI 1), .ref ao]) (rest := []) ⟨hx, hb, hml, hown, hts⟩ (wL_box_t1 (r0 := 0) (u0 := []) (ao := ao) (f := f) H.size hg hcX.1 hcX.2.1 hX) (cwx 4 hts (fun w h => tb_tbl h) wd_376 wd_374 wd_375 wd_32 rfl rfl (by decide +kernel) ⟨hcX.2.2.1, hcX.2.2.2⟩) (ck_preW (lz_pre hzT hS) hxT hK hP hD (List.range' 0 (oL kJ ao f :: WX).length) (ap_C _ _) (tl_nd _ _)) rfl rfl hl.1 rfl (lv_room (Nat.le_of_ble_eq_true rfl)) dL_law_236 hroom) hP hD hS hA (List.range' 0 (oL kJ ao f :: WX).length) (List.range' (oL kJ ao f :: WX).length WM.length) (ap_C _ _) (ap_R _ _) (tl_nd _ _) (ap_dis _ _) (ws' := WM ++ ((oL kJ ao f) :: WX)) rfl (fun H locs hP hD hS => ?_)
    refine lv_istore (lv' := [(5, .int (iI 1)), (0, .ref b), (1, .ref g), (2, .ref h), (3, .ref ao), (4, .int (iI i))]) hx hb dL_law_239 hl (by decide) rfl (fun ls hl => ?_)
    have hr0 : cells + 1 ≤ 601024 ∧ slots + 6 ≤ 7293000 := hroom
    refine lv_aload_n hx hb dL_law_241 rfl (lv_at hl 3 rfl) ?_
    refine lv_aload_n hx hb dL_law_242 rfl (lv_at hl 1 rfl) ?_
    refine lv_iload hx hb dL_law_243 (lv_at hl 5 rfl) ?_
    refine lv_iconst (v := iI 1) hx hb dL_law_245 rfl ?_
    refine wk_iadd hx hb dL_law_246 ?_
    refine wk_sld hx hb hX0 hbl hbA hS (by omega) (by omega) rfl dL_law_247 ?_
    refine lv_aload_n hx hb dL_law_248 rfl (lv_at hl 1 rfl) ?_
    refine lv_iload hx hb dL_law_249 (lv_at hl 5 rfl) ?_
    refine lv_iconst (v := iI 2) hx hb dL_law_251 rfl ?_
    refine wk_iadd hx hb dL_law_252 ?_
    refine wk_sld hx hb hX0 hbl hbA hS (by omega) (by omega) rfl dL_law_253 ?_
    refine wk_if_eq (tgt := 261) hx hb dL_law_254 (by decide) (xz_rng _ _) (fun c1 => absurd c1 hz) (fun _ => ?_)
    refine lv_iconst (v := iI 1) hx hb dL_law_257 rfl ?_
    refine lv_goto (tgt := 262) hx hb dL_law_258 (by decide) ?_
    refine ck_backI (va_runV (As := [.int (iI (xz xs (i + 1))), .int (iI 1)]) (rest := []) ⟨hx, hb, hml, hown, hts⟩ (hM H.size) (cwV 2 hts (gd_V (fun w h => tb_tbl h) wd_718 wd_719 wd_720 wd_41 wd_721) rfl hcM.1 hcM.2.1 (by decide +kernel) ⟨hcM.2.2.1, hcM.2.2.2⟩) (ck_preV hxT hK hP hD (List.range' 0 WM.length) (ap_C _ _) (tl_nd _ _) (q0 := q1) rfl rfl hh) rfl rfl hl.1 rfl (lv_room (Nat.le_of_ble_eq_true rfl)) dL_law_262 ⟨hr0.1, hr0.2⟩) hP hD hS hA (List.range' 0 WM.length) (List.range' WM.length ((oL kJ ao f) :: WX).length) (ap_C _ _) (ap_R _ _) (tl_nd _ _) (ap_dis _ _) (ws' := ((oL kJ ao f) :: WX) ++ WM') rfl (fun H locs hP hD hS => ?_)
    refine lv_istore (lv' := [(6, .int r0), (5, .int (iI 1)), (0, .ref b), (1, .ref g), (2, .ref h), (3, .ref ao), (4, .int (iI i))]) hx hb dL_law_265 hl (by decide) rfl (fun ls hl => ?_)
    refine lv_aload_n hx hb dL_law_267 rfl (lv_at hl 4 rfl) ?_
    refine pk_callI (va_runV (As := []) (rest := []) ⟨hx, hb, hml, hown, hts⟩ (hT H.size) (cwV 0 hts (gd_V (fun w h => tb_tbl h) wd_688 wd_689 wd_690 wd_41 wd_691) rfl rfl rfl (by decide +kernel) ⟨Nat.le_of_ble_eq_true rfl, Nat.le_of_ble_eq_true rfl⟩) (ck_preV hxT hK hP hD (List.range' ((oL kJ ao f) :: WX).length WM'.length) (ap_R _ _) (tl_nd _ _) (q0 := q2) rfl rfl hh') rfl rfl hl.1 rfl (lv_room (Nat.le_of_ble_eq_true rfl)) dL_law_268 ⟨hr0.1, hr0.2⟩) ?_
    refine lv_iload hx hb dL_law_271 (lv_at hl 1 rfl) ?_
    refine wk_icmp_eq (tgt := 278) hx hb dL_law_273 (by decide) (by omega) (fun _ => ?_) (fun c1 => absurd rfl c1)
    refine lv_iload hx hb dL_law_278 (lv_at hl 1 rfl) ?_
    refine wk_if_ne (tgt := 295) hx hb dL_law_280 (by decide) (by omega) (fun _ => ?_) (fun c1 => absurd c1 (by decide))
    refine lv_goto (tgt := 953) hx hb dL_law_295 (by decide) ?_
    exact kk H locs ls _ hP hD hS (lv_sub hl [2, 3, 4, 5, 6] rfl)
set_option maxRecDepth 100000 in
theorem lw_box_t2 {p : Program} {l : Launch} {e : Env} {s : State} {m : MethodId} {below : List Frame} {meth : Method} {c : Code} {b L : Nat} {xs : Nat → Int32} {D : va_G} {kI kZ kL kJ : ClassId} {Q : State → Prop} (C : lcA p l e s m meth c b L xs D kI kZ kL kJ) {H : Heap} {locs : List Loc} {ls : Array Slot} {cells slots : Nat} {g h ao : Nat} {i : Int} (hi : 0 ≤ i ∧ i + 3 < (L : Int)) {rX rM : Room} {WX WX' WM WM' : va_W} {q0 q1 q2 : Nat} {fsx fsm fsm' : List Value} {f : Nat → Int64} {r0 : Int32} (hg : WX[q0]? = some (g, .inr (6, fsx))) (hh : WM[q1]? = some (h, .inr (7, fsm))) (hh' : WM'[q2]? = some (h, .inr (7, fsm'))) (hcX : rX.cells = 1 ∧ rX.slots = 6 ∧ rX.frames + 1 + 1 ≤ 11 ∧ 8 + (5 + 11) + (8 + (4 + 11) + rX.locals) ≤ 390) (hcM : rM.cells = 0 ∧ rM.slots = 0 ∧ rM.frames + 1 ≤ 11 ∧ 8 + (4 + 11) + rM.locals ≤ 390)
    (hX : ∀ sz, CtT l yX6_box wsX6_box rX D vwCl (tyL kI kZ kL kJ) WX [.ref g, .int (iI (xz xs (i + 1))), .int (iI (if xz xs (i + 2) = 0 then 0 else 1))] "java/lang/IllegalStateException" sz)
    (hM : ∀ sz, CtI l yX7_box wsX7_box rM D vwCl (tyL kI kZ kL kJ) WM [.ref h, .int (iI (xz xs (i + 1))), .int (iI (if xz xs (i + 2) = 0 then 0 else 1))] r0 WM' sz)
    (hT : ∀ sz, CtP l yX7_thrown wsX7_thrown { frames := 0, cells := 0, slots := 0, locals := 0 } D vwCl (tyL kI kZ kL kJ) WM' [.ref h] (iI 2) sz)
    (hroom : cells + 1 ≤ 601024 ∧ slots + 6 ≤ 7293000) (hP : va_P D vwCl ((oL kJ ao f :: WX) ++ WM) H) (hD : va_D (lA s) ((oL kJ ao f :: WX) ++ WM)) (hS : va_S (lA s) s.heap H locs) (hl : lv_has ls 7 [(0, .ref b), (1, .ref g), (2, .ref h), (3, .ref ao), (4, .int (iI i))])
    (kk : ∀ (H : Heap) (locs : List Loc) (ls : Array Slot) (f : Nat → Int64), va_P D vwCl ((oL kJ ao f :: WX) ++ WM') H → va_D (lA s) ((oL kJ ao f :: WX) ++ WM') → va_S (lA s) s.heap H locs → lv_has ls 7 [(0, .ref b), (1, .ref g), (2, .ref h), (3, .ref ao), (4, .int (iI i))] → W p l e room_1 s m #[Value.ref b] below meth c H locs (cells + 1) (slots + 6) Q (F0 m 953 ls [])) : W p l e room_1 s m #[Value.ref b] below meth c H locs cells slots Q (F0 m 214 ls []) := by
  obtain ⟨hx, hb, hr, hml, hown, hts, hX0, hbl, hlocks, hadm, hxT, hzT, hK, hL⟩ := C
  have hA : ∀ q, s.heap.size ≤ q → lA s q := fun q h => h
  have hbA : ¬ lA s b := fun h => by have h2 : s.heap.size ≤ b := h; omega
  have hr0 : cells ≤ 601024 ∧ slots ≤ 7293000 := by omega
  by_cases hz : xz xs (i + 2) = 0
  · rw [if_pos hz] at hX hM
    refine lv_aload_n hx hb dL_law_214 rfl (lv_at hl 1 rfl) ?_
    refine lv_aload_n hx hb dL_law_215 rfl (lv_at hl 0 rfl) ?_
    refine lv_iload hx hb dL_law_216 (lv_at hl 4 rfl) ?_
    refine lv_iconst (v := iI 1) hx hb dL_law_218 rfl ?_
    refine wk_iadd hx hb dL_law_219 ?_
    refine wk_sld hx hb hX0 hbl hbA hS (by omega) (by omega) rfl dL_law_220 ?_
    refine lv_aload_n hx hb dL_law_221 rfl (lv_at hl 0 rfl) ?_
    refine lv_iload hx hb dL_law_222 (lv_at hl 4 rfl) ?_
    refine lv_iconst (v := iI 2) hx hb dL_law_224 rfl ?_
    refine wk_iadd hx hb dL_law_225 ?_
    refine wk_sld hx hb hX0 hbl hbA hS (by omega) (by omega) rfl dL_law_226 ?_
    refine wk_if_eq (tgt := 234) hx hb dL_law_227 (by decide) (xz_rng _ _) (fun _ => ?_) (fun c1 => absurd hz c1)
    refine lv_iconst (v := iI 0) hx hb dL_law_234 rfl ?_
    refine lv_aload_n hx hb dL_law_235 rfl (lv_at hl 3 rfl) ?_
    refine ck_backW (wh_runS (As := [.ref g, .int (iI (xz xs (i + 1))), .int (iI 0), .ref ao]) (rest := []) ⟨hx, hb, hml, hown, hts⟩ (wL_box_t2 (r0 := 0) (u0 := []) (ao := ao) (f := f) H.size hg hcX.1 hcX.2.1 hX) (cwx 4 hts (fun w h => tb_tbl h) wd_376 wd_374 wd_375 wd_32 rfl rfl (by decide +kernel) ⟨hcX.2.2.1, hcX.2.2.2⟩) (ck_preW (lz_pre hzT hS) hxT hK hP hD (List.range' 0 (oL kJ ao f :: WX).length) (ap_C _ _) (tl_nd _ _)) rfl rfl hl.1 rfl (lv_room (Nat.le_of_ble_eq_true rfl)) dL_law_236 hroom) hP hD hS hA (List.range' 0 (oL kJ ao f :: WX).length) (List.range' (oL kJ ao f :: WX).length WM.length) (ap_C _ _) (ap_R _ _) (tl_nd _ _) (ap_dis _ _) (ws' := WM ++ ((oL kJ ao f) :: WX)) rfl (fun H locs hP hD hS => ?_)
    refine lv_istore (lv' := [(5, .int (iI 2)), (0, .ref b), (1, .ref g), (2, .ref h), (3, .ref ao), (4, .int (iI i))]) hx hb dL_law_239 hl (by decide) rfl (fun ls hl => ?_)
    have hr0 : cells + 1 ≤ 601024 ∧ slots + 6 ≤ 7293000 := hroom
    refine lv_aload_n hx hb dL_law_241 rfl (lv_at hl 3 rfl) ?_
    refine lv_aload_n hx hb dL_law_242 rfl (lv_at hl 1 rfl) ?_
    refine lv_iload hx hb dL_law_243 (lv_at hl 5 rfl) ?_
    refine lv_iconst (v := iI 1) hx hb dL_law_245 rfl ?_
    refine wk_iadd hx hb dL_law_246 ?_
    refine wk_sld hx hb hX0 hbl hbA hS (by omega) (by omega) rfl dL_law_247 ?_
    refine lv_aload_n hx hb dL_law_248 rfl (lv_at hl 1 rfl) ?_
    refine lv_iload hx hb dL_law_249 (lv_at hl 5 rfl) ?_
    refine lv_iconst (v := iI 2) hx hb dL_law_251 rfl ?_
    refine wk_iadd hx hb dL_law_252 ?_
    refine wk_sld hx hb hX0 hbl hbA hS (by omega) (by omega) rfl dL_law_253 ?_
    refine wk_if_eq (tgt := 261) hx hb dL_law_254 (by decide) (xz_rng _ _) (fun _ => ?_) (fun c1 => absurd hz c1)
    refine lv_iconst (v := iI 0) hx hb dL_law_261 rfl ?_
    refine ck_backI (va_runV (As := [.int (iI (xz xs (i + 1))), .int (iI 0)]) (rest := []) ⟨hx, hb, hml, hown, hts⟩ (hM H.size) (cwV 2 hts (gd_V (fun w h => tb_tbl h) wd_718 wd_719 wd_720 wd_41 wd_721) rfl hcM.1 hcM.2.1 (by decide +kernel) ⟨hcM.2.2.1, hcM.2.2.2⟩) (ck_preV hxT hK hP hD (List.range' 0 WM.length) (ap_C _ _) (tl_nd _ _) (q0 := q1) rfl rfl hh) rfl rfl hl.1 rfl (lv_room (Nat.le_of_ble_eq_true rfl)) dL_law_262 ⟨hr0.1, hr0.2⟩) hP hD hS hA (List.range' 0 WM.length) (List.range' WM.length ((oL kJ ao f) :: WX).length) (ap_C _ _) (ap_R _ _) (tl_nd _ _) (ap_dis _ _) (ws' := ((oL kJ ao f) :: WX) ++ WM') rfl (fun H locs hP hD hS => ?_)
    refine lv_istore (lv' := [(6, .int r0), (5, .int (iI 2)), (0, .ref b), (1, .ref g), (2, .ref h), (3, .ref ao), (4, .int (iI i))]) hx hb dL_law_265 hl (by decide) rfl (fun ls hl => ?_)
    refine lv_aload_n hx hb dL_law_267 rfl (lv_at hl 4 rfl) ?_
    refine pk_callI (va_runV (As := []) (rest := []) ⟨hx, hb, hml, hown, hts⟩ (hT H.size) (cwV 0 hts (gd_V (fun w h => tb_tbl h) wd_688 wd_689 wd_690 wd_41 wd_691) rfl rfl rfl (by decide +kernel) ⟨Nat.le_of_ble_eq_true rfl, Nat.le_of_ble_eq_true rfl⟩) (ck_preV hxT hK hP hD (List.range' ((oL kJ ao f) :: WX).length WM'.length) (ap_R _ _) (tl_nd _ _) (q0 := q2) rfl rfl hh') rfl rfl hl.1 rfl (lv_room (Nat.le_of_ble_eq_true rfl)) dL_law_268 ⟨hr0.1, hr0.2⟩) ?_
    refine lv_iload hx hb dL_law_271 (lv_at hl 1 rfl) ?_
    refine wk_icmp_eq (tgt := 278) hx hb dL_law_273 (by decide) (by omega) (fun _ => ?_) (fun c1 => absurd rfl c1)
    refine lv_iload hx hb dL_law_278 (lv_at hl 1 rfl) ?_
    refine wk_if_ne (tgt := 295) hx hb dL_law_280 (by decide) (by omega) (fun _ => ?_) (fun c1 => absurd c1 (by decide))
    refine lv_goto (tgt := 953) hx hb dL_law_295 (by decide) ?_
    exact kk H locs ls _ hP hD hS (lv_sub hl [2, 3, 4, 5, 6] rfl)
  · rw [if_neg hz] at hX hM
    refine lv_aload_n hx hb dL_law_214 rfl (lv_at hl 1 rfl) ?_
    refine lv_aload_n hx hb dL_law_215 rfl (lv_at hl 0 rfl) ?_
    refine lv_iload hx hb dL_law_216 (lv_at hl 4 rfl) ?_
    refine lv_iconst (v := iI 1) hx hb dL_law_218 rfl ?_
    refine wk_iadd hx hb dL_law_219 ?_
    refine wk_sld hx hb hX0 hbl hbA hS (by omega) (by omega) rfl dL_law_220 ?_
    refine lv_aload_n hx hb dL_law_221 rfl (lv_at hl 0 rfl) ?_
    refine lv_iload hx hb dL_law_222 (lv_at hl 4 rfl) ?_
    refine lv_iconst (v := iI 2) hx hb dL_law_224 rfl ?_
    refine wk_iadd hx hb dL_law_225 ?_
    refine wk_sld hx hb hX0 hbl hbA hS (by omega) (by omega) rfl dL_law_226 ?_
    refine wk_if_eq (tgt := 234) hx hb dL_law_227 (by decide) (xz_rng _ _) (fun c1 => absurd c1 hz) (fun _ => ?_)
    refine lv_iconst (v := iI 1) hx hb dL_law_230 rfl ?_
    refine lv_goto (tgt := 235) hx hb dL_law_231 (by decide) ?_
    refine lv_aload_n hx hb dL_law_235 rfl (lv_at hl 3 rfl) ?_
    refine ck_backW (wh_runS (As := [.ref g, .int (iI (xz xs (i + 1))), .int (iI 1), .ref ao]) (rest := []) ⟨hx, hb, hml, hown, hts⟩ (wL_box_t2 (r0 := 0) (u0 := []) (ao := ao) (f := f) H.size hg hcX.1 hcX.2.1 hX) (cwx 4 hts (fun w h => tb_tbl h) wd_376 wd_374 wd_375 wd_32 rfl rfl (by decide +kernel) ⟨hcX.2.2.1, hcX.2.2.2⟩) (ck_preW (lz_pre hzT hS) hxT hK hP hD (List.range' 0 (oL kJ ao f :: WX).length) (ap_C _ _) (tl_nd _ _)) rfl rfl hl.1 rfl (lv_room (Nat.le_of_ble_eq_true rfl)) dL_law_236 hroom) hP hD hS hA (List.range' 0 (oL kJ ao f :: WX).length) (List.range' (oL kJ ao f :: WX).length WM.length) (ap_C _ _) (ap_R _ _) (tl_nd _ _) (ap_dis _ _) (ws' := WM ++ ((oL kJ ao f) :: WX)) rfl (fun H locs hP hD hS => ?_)
    refine lv_istore (lv' := [(5, .int (iI 2)), (0, .ref b), (1, .ref g), (2, .ref h), (3, .ref ao), (4, .int (iI i))]) hx hb dL_law_239 hl (by decide) rfl (fun ls hl => ?_)
    have hr0 : cells + 1 ≤ 601024 ∧ slots + 6 ≤ 7293000 := hroom
    refine lv_aload_n hx hb dL_law_241 rfl (lv_at hl 3 rfl) ?_
    refine lv_aload_n hx hb dL_law_242 rfl (lv_at hl 1 rfl) ?_
    refine lv_iload hx hb dL_law_243 (lv_at hl 5 rfl) ?_
    refine lv_iconst (v := iI 1) hx hb dL_law_245 rfl ?_
    refine wk_iadd hx hb dL_law_246 ?_
    refine wk_sld hx hb hX0 hbl hbA hS (by omega) (by omega) rfl dL_law_247 ?_
    refine lv_aload_n hx hb dL_law_248 rfl (lv_at hl 1 rfl) ?_
    refine lv_iload hx hb dL_law_249 (lv_at hl 5 rfl) ?_
    refine lv_iconst (v := iI 2) hx hb dL_law_251 rfl ?_
    refine wk_iadd hx hb dL_law_252 ?_
    refine wk_sld hx hb hX0 hbl hbA hS (by omega) (by omega) rfl dL_law_253 ?_
    refine wk_if_eq (tgt := 261) hx hb dL_law_254 (by decide) (xz_rng _ _) (fun c1 => absurd c1 hz) (fun _ => ?_)
    refine lv_iconst (v := iI 1) hx hb dL_law_257 rfl ?_
    refine lv_goto (tgt := 262) hx hb dL_law_258 (by decide) ?_
    refine ck_backI (va_runV (As := [.int (iI (xz xs (i + 1))), .int (iI 1)]) (rest := []) ⟨hx, hb, hml, hown, hts⟩ (hM H.size) (cwV 2 hts (gd_V (fun w h => tb_tbl h) wd_718 wd_719 wd_720 wd_41 wd_721) rfl hcM.1 hcM.2.1 (by decide +kernel) ⟨hcM.2.2.1, hcM.2.2.2⟩) (ck_preV hxT hK hP hD (List.range' 0 WM.length) (ap_C _ _) (tl_nd _ _) (q0 := q1) rfl rfl hh) rfl rfl hl.1 rfl (lv_room (Nat.le_of_ble_eq_true rfl)) dL_law_262 ⟨hr0.1, hr0.2⟩) hP hD hS hA (List.range' 0 WM.length) (List.range' WM.length ((oL kJ ao f) :: WX).length) (ap_C _ _) (ap_R _ _) (tl_nd _ _) (ap_dis _ _) (ws' := ((oL kJ ao f) :: WX) ++ WM') rfl (fun H locs hP hD hS => ?_)
    refine lv_istore (lv' := [(6, .int r0), (5, .int (iI 2)), (0, .ref b), (1, .ref g), (2, .ref h), (3, .ref ao), (4, .int (iI i))]) hx hb dL_law_265 hl (by decide) rfl (fun ls hl => ?_)
    refine lv_aload_n hx hb dL_law_267 rfl (lv_at hl 4 rfl) ?_
    refine pk_callI (va_runV (As := []) (rest := []) ⟨hx, hb, hml, hown, hts⟩ (hT H.size) (cwV 0 hts (gd_V (fun w h => tb_tbl h) wd_688 wd_689 wd_690 wd_41 wd_691) rfl rfl rfl (by decide +kernel) ⟨Nat.le_of_ble_eq_true rfl, Nat.le_of_ble_eq_true rfl⟩) (ck_preV hxT hK hP hD (List.range' ((oL kJ ao f) :: WX).length WM'.length) (ap_R _ _) (tl_nd _ _) (q0 := q2) rfl rfl hh') rfl rfl hl.1 rfl (lv_room (Nat.le_of_ble_eq_true rfl)) dL_law_268 ⟨hr0.1, hr0.2⟩) ?_
    refine lv_iload hx hb dL_law_271 (lv_at hl 1 rfl) ?_
    refine wk_icmp_eq (tgt := 278) hx hb dL_law_273 (by decide) (by omega) (fun _ => ?_) (fun c1 => absurd rfl c1)
    refine lv_iload hx hb dL_law_278 (lv_at hl 1 rfl) ?_
    refine wk_if_ne (tgt := 295) hx hb dL_law_280 (by decide) (by omega) (fun _ => ?_) (fun c1 => absurd c1 (by decide))
    refine lv_goto (tgt := 953) hx hb dL_law_295 (by decide) ?_
    exact kk H locs ls _ hP hD hS (lv_sub hl [2, 3, 4, 5, 6] rfl)
set_option maxRecDepth 100000 in
theorem lw_check_r {p : Program} {l : Launch} {e : Env} {s : State} {m : MethodId} {below : List Frame} {meth : Method} {c : Code} {b L : Nat} {xs : Nat → Int32} {D : va_G} {kI kZ kL kJ : ClassId} {Q : State → Prop} (C : lcA p l e s m meth c b L xs D kI kZ kL kJ) {H : Heap} {locs : List Loc} {ls : Array Slot} {cells slots : Nat} {g h ao : Nat} {i : Int} (hi : 0 ≤ i ∧ i + 3 < (L : Int)) {rX rM : Room} {WX WX' WM WM' : va_W} {q0 q1 q2 : Nat} {fsx fsm fsm' : List Value} {f : Nat → Int64} {r0 : Int32} (hg : WX[q0]? = some (g, .inr (6, fsx))) (hh : WM[q1]? = some (h, .inr (7, fsm))) (hh' : WM'[q2]? = some (h, .inr (7, fsm'))) (hcX : rX.cells = 0 ∧ rX.slots = 0 ∧ rX.frames + 1 + 1 ≤ 11 ∧ 8 + (6 + 11) + (8 + (4 + 11) + rX.locals) ≤ 390) (hcM : rM.cells = 0 ∧ rM.slots = 0 ∧ rM.frames + 1 ≤ 11 ∧ 8 + (6 + 11) + rM.locals ≤ 390)
    (hX : ∀ sz, CtI l yX6_check wsX6_check rX D vwCl (tyL kI kZ kL kJ) WX [.ref g, .int (iI (xz xs (i + 1))), .int (iI (xz xs (i + 2))), .int (iI (xz xs (i + 3)))] r0 WX' sz)
    (hM : ∀ sz, CtI l yX7_check wsX7_check rM D vwCl (tyL kI kZ kL kJ) WM [.ref h, .int (iI (xz xs (i + 1))), .int (iI (xz xs (i + 2))), .int (iI (xz xs (i + 3)))] r0 WM' sz)
    (hT : ∀ sz, CtP l yX7_thrown wsX7_thrown { frames := 0, cells := 0, slots := 0, locals := 0 } D vwCl (tyL kI kZ kL kJ) WM' [.ref h] (iI 0) sz)
    (hroom : cells + 1 ≤ 601024 ∧ slots + 6 ≤ 7293000) (hP : va_P D vwCl ((oL kJ ao f :: WX) ++ WM) H) (hD : va_D (lA s) ((oL kJ ao f :: WX) ++ WM)) (hS : va_S (lA s) s.heap H locs) (hl : lv_has ls 7 [(0, .ref b), (1, .ref g), (2, .ref h), (3, .ref ao), (4, .int (iI i))])
    (kk : ∀ (H : Heap) (locs : List Loc) (ls : Array Slot) (f : Nat → Int64), va_P D vwCl ((oL kJ ao f :: WX') ++ WM') H → va_D (lA s) ((oL kJ ao f :: WX') ++ WM') → va_S (lA s) s.heap H locs → lv_has ls 7 [(0, .ref b), (1, .ref g), (2, .ref h), (3, .ref ao), (4, .int (iI i))] → W p l e room_1 s m #[Value.ref b] below meth c H locs (cells + 1) (slots + 6) Q (F0 m 953 ls [])) : W p l e room_1 s m #[Value.ref b] below meth c H locs cells slots Q (F0 m 298 ls []) := by
  obtain ⟨hx, hb, hr, hml, hown, hts, hX0, hbl, hlocks, hadm, hxT, hzT, hK, hL⟩ := C
  have hA : ∀ q, s.heap.size ≤ q → lA s q := fun q h => h
  have hbA : ¬ lA s b := fun h => by have h2 : s.heap.size ≤ b := h; omega
  have hr0 : cells ≤ 601024 ∧ slots ≤ 7293000 := by omega
  refine lv_aload_n hx hb dL_law_298 rfl (lv_at hl 1 rfl) ?_
  refine lv_aload_n hx hb dL_law_299 rfl (lv_at hl 0 rfl) ?_
  refine lv_iload hx hb dL_law_300 (lv_at hl 4 rfl) ?_
  refine lv_iconst (v := iI 1) hx hb dL_law_302 rfl ?_
  refine wk_iadd hx hb dL_law_303 ?_
  refine wk_sld hx hb hX0 hbl hbA hS (by omega) (by omega) rfl dL_law_304 ?_
  refine lv_aload_n hx hb dL_law_305 rfl (lv_at hl 0 rfl) ?_
  refine lv_iload hx hb dL_law_306 (lv_at hl 4 rfl) ?_
  refine lv_iconst (v := iI 2) hx hb dL_law_308 rfl ?_
  refine wk_iadd hx hb dL_law_309 ?_
  refine wk_sld hx hb hX0 hbl hbA hS (by omega) (by omega) rfl dL_law_310 ?_
  refine lv_aload_n hx hb dL_law_311 rfl (lv_at hl 0 rfl) ?_
  refine lv_iload hx hb dL_law_312 (lv_at hl 4 rfl) ?_
  refine lv_iconst (v := iI 3) hx hb dL_law_314 rfl ?_
  refine wk_iadd hx hb dL_law_315 ?_
  refine wk_sld hx hb hX0 hbl hbA hS (by omega) (by omega) rfl dL_law_316 ?_
  refine lv_aload_n hx hb dL_law_317 rfl (lv_at hl 3 rfl) ?_
  refine ck_backW (wh_runS (As := [.ref g, .int (iI (xz xs (i + 1))), .int (iI (xz xs (i + 2))), .int (iI (xz xs (i + 3))), .ref ao]) (rest := []) ⟨hx, hb, hml, hown, hts⟩ (wL_check_r (ao := ao) (f := f) H.size hg hcX.1 hcX.2.1 hX) (cwx 5 hts (fun w h => tb_tbl h) wd_408 wd_406 wd_407 wd_32 rfl rfl (by decide +kernel) ⟨hcX.2.2.1, hcX.2.2.2⟩) (ck_preW (lz_pre hzT hS) hxT hK hP hD (List.range' 0 (oL kJ ao f :: WX).length) (ap_C _ _) (tl_nd _ _)) rfl rfl hl.1 rfl (lv_room (Nat.le_of_ble_eq_true rfl)) dL_law_318 ⟨hr0.1, hr0.2⟩) hP hD hS hA (List.range' 0 (oL kJ ao f :: WX).length) (List.range' (oL kJ ao f :: WX).length WM.length) (ap_C _ _) (ap_R _ _) (tl_nd _ _) (ap_dis _ _) (ws' := WM ++ ((oL kJ ao (vp_updL f 0 r0.toInt64)) :: WX')) rfl (fun H locs hP hD hS => ?_)
  refine lv_istore (lv' := [(5, .int (iI 0)), (0, .ref b), (1, .ref g), (2, .ref h), (3, .ref ao), (4, .int (iI i))]) hx hb dL_law_321 hl (by decide) rfl (fun ls hl => ?_)
  refine lv_aload_n hx hb dL_law_323 rfl (lv_at hl 3 rfl) ?_
  refine lv_aload_n hx hb dL_law_324 rfl (lv_at hl 1 rfl) ?_
  refine lv_iload hx hb dL_law_325 (lv_at hl 5 rfl) ?_
  refine lv_iconst (v := iI 1) hx hb dL_law_327 rfl ?_
  refine wk_iadd hx hb dL_law_328 ?_
  refine wk_sld hx hb hX0 hbl hbA hS (by omega) (by omega) rfl dL_law_329 ?_
  refine lv_aload_n hx hb dL_law_330 rfl (lv_at hl 1 rfl) ?_
  refine lv_iload hx hb dL_law_331 (lv_at hl 5 rfl) ?_
  refine lv_iconst (v := iI 2) hx hb dL_law_333 rfl ?_
  refine wk_iadd hx hb dL_law_334 ?_
  refine wk_sld hx hb hX0 hbl hbA hS (by omega) (by omega) rfl dL_law_335 ?_
  refine lv_aload_n hx hb dL_law_336 rfl (lv_at hl 1 rfl) ?_
  refine lv_iload hx hb dL_law_337 (lv_at hl 5 rfl) ?_
  refine lv_iconst (v := iI 3) hx hb dL_law_339 rfl ?_
  refine wk_iadd hx hb dL_law_340 ?_
  refine wk_sld hx hb hX0 hbl hbA hS (by omega) (by omega) rfl dL_law_341 ?_
  refine ck_backI (va_runV (As := [.int (iI (xz xs (i + 1))), .int (iI (xz xs (i + 2))), .int (iI (xz xs (i + 3)))]) (rest := []) ⟨hx, hb, hml, hown, hts⟩ (hM H.size) (cwV 3 hts (gd_V (fun w h => tb_tbl h) wd_727 wd_728 wd_729 wd_41 wd_730) rfl hcM.1 hcM.2.1 (by decide +kernel) ⟨hcM.2.2.1, hcM.2.2.2⟩) (ck_preV hxT hK hP hD (List.range' 0 WM.length) (ap_C _ _) (tl_nd _ _) (q0 := q1) rfl rfl hh) rfl rfl hl.1 rfl (lv_room (Nat.le_of_ble_eq_true rfl)) dL_law_342 ⟨hr0.1, hr0.2⟩) hP hD hS hA (List.range' 0 WM.length) (List.range' WM.length ((oL kJ ao (vp_updL f 0 r0.toInt64)) :: WX').length) (ap_C _ _) (ap_R _ _) (tl_nd _ _) (ap_dis _ _) (ws' := ((oL kJ ao (vp_updL f 0 r0.toInt64)) :: WX') ++ WM') rfl (fun H locs hP hD hS => ?_)
  refine lv_istore (lv' := [(6, .int r0), (5, .int (iI 0)), (0, .ref b), (1, .ref g), (2, .ref h), (3, .ref ao), (4, .int (iI i))]) hx hb dL_law_345 hl (by decide) rfl (fun ls hl => ?_)
  refine lv_aload_n hx hb dL_law_347 rfl (lv_at hl 4 rfl) ?_
  refine pk_callI (va_runV (As := []) (rest := []) ⟨hx, hb, hml, hown, hts⟩ (hT H.size) (cwV 0 hts (gd_V (fun w h => tb_tbl h) wd_688 wd_689 wd_690 wd_41 wd_691) rfl rfl rfl (by decide +kernel) ⟨Nat.le_of_ble_eq_true rfl, Nat.le_of_ble_eq_true rfl⟩) (ck_preV hxT hK hP hD (List.range' ((oL kJ ao (vp_updL f 0 r0.toInt64)) :: WX').length WM'.length) (ap_R _ _) (tl_nd _ _) (q0 := q2) rfl rfl hh') rfl rfl hl.1 rfl (lv_room (Nat.le_of_ble_eq_true rfl)) dL_law_348 ⟨hr0.1, hr0.2⟩) ?_
  refine lv_iload hx hb dL_law_351 (lv_at hl 1 rfl) ?_
  refine wk_icmp_eq (tgt := 358) hx hb dL_law_353 (by decide) (by omega) (fun _ => ?_) (fun c1 => absurd rfl c1)
  refine lv_iload hx hb dL_law_358 (lv_at hl 1 rfl) ?_
  refine wk_if_ne (tgt := 375) hx hb dL_law_360 (by decide) (by omega) (fun c1 => absurd rfl c1) (fun _ => ?_)
  refine lv_aload_n hx hb dL_law_363 rfl (lv_at hl 5 rfl) ?_
  refine lv_iconst (v := iI 0) hx hb dL_law_364 rfl ?_
  refine wk_lald (v := r0.toInt64) hx hb hK hP 0 3 rfl rfl (by decide) (by simp [vp_updL]) dL_law_365 ?_
  refine lv_iload hx hb dL_law_366 (lv_at hl 0 rfl) ?_
  refine lv_i2l (v := r0.toInt64) hx hb dL_law_368 rfl ?_
  refine wk_lcmpE hx hb rfl dL_law_369 ?_
  refine wk_if_eq (tgt := 375) hx hb dL_law_370 (by decide) (by omega) (fun _ => ?_) (fun c1 => absurd rfl c1)
  refine lv_goto (tgt := 953) hx hb dL_law_375 (by decide) ?_
  refine W.widen (k := cells + 1) (n := slots + 6) (Nat.le_succ _) (Nat.le_add_right slots 6) ?_
  exact kk H locs ls _ hP hD hS (lv_sub hl [2, 3, 4, 5, 6] rfl)
set_option maxRecDepth 100000 in
theorem lw_check_t1 {p : Program} {l : Launch} {e : Env} {s : State} {m : MethodId} {below : List Frame} {meth : Method} {c : Code} {b L : Nat} {xs : Nat → Int32} {D : va_G} {kI kZ kL kJ : ClassId} {Q : State → Prop} (C : lcA p l e s m meth c b L xs D kI kZ kL kJ) {H : Heap} {locs : List Loc} {ls : Array Slot} {cells slots : Nat} {g h ao : Nat} {i : Int} (hi : 0 ≤ i ∧ i + 3 < (L : Int)) {rX rM : Room} {WX WX' WM WM' : va_W} {q0 q1 q2 : Nat} {fsx fsm fsm' : List Value} {f : Nat → Int64} {r0 : Int32} (hg : WX[q0]? = some (g, .inr (6, fsx))) (hh : WM[q1]? = some (h, .inr (7, fsm))) (hh' : WM'[q2]? = some (h, .inr (7, fsm'))) (hcX : rX.cells = 1 ∧ rX.slots = 6 ∧ rX.frames + 1 + 1 ≤ 11 ∧ 8 + (6 + 11) + (8 + (4 + 11) + rX.locals) ≤ 390) (hcM : rM.cells = 0 ∧ rM.slots = 0 ∧ rM.frames + 1 ≤ 11 ∧ 8 + (6 + 11) + rM.locals ≤ 390)
    (hX : ∀ sz, CtT l yX6_check wsX6_check rX D vwCl (tyL kI kZ kL kJ) WX [.ref g, .int (iI (xz xs (i + 1))), .int (iI (xz xs (i + 2))), .int (iI (xz xs (i + 3)))] "java/lang/IndexOutOfBoundsException" sz)
    (hM : ∀ sz, CtI l yX7_check wsX7_check rM D vwCl (tyL kI kZ kL kJ) WM [.ref h, .int (iI (xz xs (i + 1))), .int (iI (xz xs (i + 2))), .int (iI (xz xs (i + 3)))] r0 WM' sz)
    (hT : ∀ sz, CtP l yX7_thrown wsX7_thrown { frames := 0, cells := 0, slots := 0, locals := 0 } D vwCl (tyL kI kZ kL kJ) WM' [.ref h] (iI 1) sz)
    (hroom : cells + 1 ≤ 601024 ∧ slots + 6 ≤ 7293000) (hP : va_P D vwCl ((oL kJ ao f :: WX) ++ WM) H) (hD : va_D (lA s) ((oL kJ ao f :: WX) ++ WM)) (hS : va_S (lA s) s.heap H locs) (hl : lv_has ls 7 [(0, .ref b), (1, .ref g), (2, .ref h), (3, .ref ao), (4, .int (iI i))])
    (kk : ∀ (H : Heap) (locs : List Loc) (ls : Array Slot) (f : Nat → Int64), va_P D vwCl ((oL kJ ao f :: WX) ++ WM') H → va_D (lA s) ((oL kJ ao f :: WX) ++ WM') → va_S (lA s) s.heap H locs → lv_has ls 7 [(0, .ref b), (1, .ref g), (2, .ref h), (3, .ref ao), (4, .int (iI i))] → W p l e room_1 s m #[Value.ref b] below meth c H locs (cells + 1) (slots + 6) Q (F0 m 953 ls [])) : W p l e room_1 s m #[Value.ref b] below meth c H locs cells slots Q (F0 m 298 ls []) := by
  obtain ⟨hx, hb, hr, hml, hown, hts, hX0, hbl, hlocks, hadm, hxT, hzT, hK, hL⟩ := C
  have hA : ∀ q, s.heap.size ≤ q → lA s q := fun q h => h
  have hbA : ¬ lA s b := fun h => by have h2 : s.heap.size ≤ b := h; omega
  have hr0 : cells ≤ 601024 ∧ slots ≤ 7293000 := by omega
  refine lv_aload_n hx hb dL_law_298 rfl (lv_at hl 1 rfl) ?_
  refine lv_aload_n hx hb dL_law_299 rfl (lv_at hl 0 rfl) ?_
  refine lv_iload hx hb dL_law_300 (lv_at hl 4 rfl) ?_
  refine lv_iconst (v := iI 1) hx hb dL_law_302 rfl ?_
  refine wk_iadd hx hb dL_law_303 ?_
  refine wk_sld hx hb hX0 hbl hbA hS (by omega) (by omega) rfl dL_law_304 ?_
  refine lv_aload_n hx hb dL_law_305 rfl (lv_at hl 0 rfl) ?_
  refine lv_iload hx hb dL_law_306 (lv_at hl 4 rfl) ?_
  refine lv_iconst (v := iI 2) hx hb dL_law_308 rfl ?_
  refine wk_iadd hx hb dL_law_309 ?_
  refine wk_sld hx hb hX0 hbl hbA hS (by omega) (by omega) rfl dL_law_310 ?_
  refine lv_aload_n hx hb dL_law_311 rfl (lv_at hl 0 rfl) ?_
  refine lv_iload hx hb dL_law_312 (lv_at hl 4 rfl) ?_
  refine lv_iconst (v := iI 3) hx hb dL_law_314 rfl ?_
  refine wk_iadd hx hb dL_law_315 ?_
  refine wk_sld hx hb hX0 hbl hbA hS (by omega) (by omega) rfl dL_law_316 ?_
  refine lv_aload_n hx hb dL_law_317 rfl (lv_at hl 3 rfl) ?_
  refine ck_backW (wh_runS (As := [.ref g, .int (iI (xz xs (i + 1))), .int (iI (xz xs (i + 2))), .int (iI (xz xs (i + 3))), .ref ao]) (rest := []) ⟨hx, hb, hml, hown, hts⟩ (wL_check_t1 (r0 := 0) (u0 := []) (ao := ao) (f := f) H.size hg hcX.1 hcX.2.1 hX) (cwx 5 hts (fun w h => tb_tbl h) wd_408 wd_406 wd_407 wd_32 rfl rfl (by decide +kernel) ⟨hcX.2.2.1, hcX.2.2.2⟩) (ck_preW (lz_pre hzT hS) hxT hK hP hD (List.range' 0 (oL kJ ao f :: WX).length) (ap_C _ _) (tl_nd _ _)) rfl rfl hl.1 rfl (lv_room (Nat.le_of_ble_eq_true rfl)) dL_law_318 hroom) hP hD hS hA (List.range' 0 (oL kJ ao f :: WX).length) (List.range' (oL kJ ao f :: WX).length WM.length) (ap_C _ _) (ap_R _ _) (tl_nd _ _) (ap_dis _ _) (ws' := WM ++ ((oL kJ ao f) :: WX)) rfl (fun H locs hP hD hS => ?_)
  refine lv_istore (lv' := [(5, .int (iI 1)), (0, .ref b), (1, .ref g), (2, .ref h), (3, .ref ao), (4, .int (iI i))]) hx hb dL_law_321 hl (by decide) rfl (fun ls hl => ?_)
  have hr0 : cells + 1 ≤ 601024 ∧ slots + 6 ≤ 7293000 := hroom
  refine lv_aload_n hx hb dL_law_323 rfl (lv_at hl 3 rfl) ?_
  refine lv_aload_n hx hb dL_law_324 rfl (lv_at hl 1 rfl) ?_
  refine lv_iload hx hb dL_law_325 (lv_at hl 5 rfl) ?_
  refine lv_iconst (v := iI 1) hx hb dL_law_327 rfl ?_
  refine wk_iadd hx hb dL_law_328 ?_
  refine wk_sld hx hb hX0 hbl hbA hS (by omega) (by omega) rfl dL_law_329 ?_
  refine lv_aload_n hx hb dL_law_330 rfl (lv_at hl 1 rfl) ?_
  refine lv_iload hx hb dL_law_331 (lv_at hl 5 rfl) ?_
  refine lv_iconst (v := iI 2) hx hb dL_law_333 rfl ?_
  refine wk_iadd hx hb dL_law_334 ?_
  refine wk_sld hx hb hX0 hbl hbA hS (by omega) (by omega) rfl dL_law_335 ?_
  refine lv_aload_n hx hb dL_law_336 rfl (lv_at hl 1 rfl) ?_
  refine lv_iload hx hb dL_law_337 (lv_at hl 5 rfl) ?_
  refine lv_iconst (v := iI 3) hx hb dL_law_339 rfl ?_
  refine wk_iadd hx hb dL_law_340 ?_
  refine wk_sld hx hb hX0 hbl hbA hS (by omega) (by omega) rfl dL_law_341 ?_
  refine ck_backI (va_runV (As := [.int (iI (xz xs (i + 1))), .int (iI (xz xs (i + 2))), .int (iI (xz xs (i + 3)))]) (rest := []) ⟨hx, hb, hml, hown, hts⟩ (hM H.size) (cwV 3 hts (gd_V (fun w h => tb_tbl h) wd_727 wd_728 wd_729 wd_41 wd_730) rfl hcM.1 hcM.2.1 (by decide +kernel) ⟨hcM.2.2.1, hcM.2.2.2⟩) (ck_preV hxT hK hP hD (List.range' 0 WM.length) (ap_C _ _) (tl_nd _ _) (q0 := q1) rfl rfl hh) rfl rfl hl.1 rfl (lv_room (Nat.le_of_ble_eq_true rfl)) dL_law_342 ⟨hr0.1, hr0.2⟩) hP hD hS hA (List.range' 0 WM.length) (List.range' WM.length ((oL kJ ao f) :: WX).length) (ap_C _ _) (ap_R _ _) (tl_nd _ _) (ap_dis _ _) (ws' := ((oL kJ ao f) :: WX) ++ WM') rfl (fun H locs hP hD hS => ?_)
  refine lv_istore (lv' := [(6, .int r0), (5, .int (iI 1)), (0, .ref b), (1, .ref g), (2, .ref h), (3, .ref ao), (4, .int (iI i))]) hx hb dL_law_345 hl (by decide) rfl (fun ls hl => ?_)
  refine lv_aload_n hx hb dL_law_347 rfl (lv_at hl 4 rfl) ?_
  refine pk_callI (va_runV (As := []) (rest := []) ⟨hx, hb, hml, hown, hts⟩ (hT H.size) (cwV 0 hts (gd_V (fun w h => tb_tbl h) wd_688 wd_689 wd_690 wd_41 wd_691) rfl rfl rfl (by decide +kernel) ⟨Nat.le_of_ble_eq_true rfl, Nat.le_of_ble_eq_true rfl⟩) (ck_preV hxT hK hP hD (List.range' ((oL kJ ao f) :: WX).length WM'.length) (ap_R _ _) (tl_nd _ _) (q0 := q2) rfl rfl hh') rfl rfl hl.1 rfl (lv_room (Nat.le_of_ble_eq_true rfl)) dL_law_348 ⟨hr0.1, hr0.2⟩) ?_
  refine lv_iload hx hb dL_law_351 (lv_at hl 1 rfl) ?_
  refine wk_icmp_eq (tgt := 358) hx hb dL_law_353 (by decide) (by omega) (fun _ => ?_) (fun c1 => absurd rfl c1)
  refine lv_iload hx hb dL_law_358 (lv_at hl 1 rfl) ?_
  refine wk_if_ne (tgt := 375) hx hb dL_law_360 (by decide) (by omega) (fun _ => ?_) (fun c1 => absurd c1 (by decide))
  refine lv_goto (tgt := 953) hx hb dL_law_375 (by decide) ?_
  exact kk H locs ls _ hP hD hS (lv_sub hl [2, 3, 4, 5, 6] rfl)
set_option maxRecDepth 100000 in
theorem lw_check_t2 {p : Program} {l : Launch} {e : Env} {s : State} {m : MethodId} {below : List Frame} {meth : Method} {c : Code} {b L : Nat} {xs : Nat → Int32} {D : va_G} {kI kZ kL kJ : ClassId} {Q : State → Prop} (C : lcA p l e s m meth c b L xs D kI kZ kL kJ) {H : Heap} {locs : List Loc} {ls : Array Slot} {cells slots : Nat} {g h ao : Nat} {i : Int} (hi : 0 ≤ i ∧ i + 3 < (L : Int)) {rX rM : Room} {WX WX' WM WM' : va_W} {q0 q1 q2 : Nat} {fsx fsm fsm' : List Value} {f : Nat → Int64} {r0 : Int32} (hg : WX[q0]? = some (g, .inr (6, fsx))) (hh : WM[q1]? = some (h, .inr (7, fsm))) (hh' : WM'[q2]? = some (h, .inr (7, fsm'))) (hcX : rX.cells = 1 ∧ rX.slots = 6 ∧ rX.frames + 1 + 1 ≤ 11 ∧ 8 + (6 + 11) + (8 + (4 + 11) + rX.locals) ≤ 390) (hcM : rM.cells = 0 ∧ rM.slots = 0 ∧ rM.frames + 1 ≤ 11 ∧ 8 + (6 + 11) + rM.locals ≤ 390)
    (hX : ∀ sz, CtT l yX6_check wsX6_check rX D vwCl (tyL kI kZ kL kJ) WX [.ref g, .int (iI (xz xs (i + 1))), .int (iI (xz xs (i + 2))), .int (iI (xz xs (i + 3)))] "java/lang/IllegalArgumentException" sz)
    (hM : ∀ sz, CtI l yX7_check wsX7_check rM D vwCl (tyL kI kZ kL kJ) WM [.ref h, .int (iI (xz xs (i + 1))), .int (iI (xz xs (i + 2))), .int (iI (xz xs (i + 3)))] r0 WM' sz)
    (hT : ∀ sz, CtP l yX7_thrown wsX7_thrown { frames := 0, cells := 0, slots := 0, locals := 0 } D vwCl (tyL kI kZ kL kJ) WM' [.ref h] (iI 2) sz)
    (hroom : cells + 1 ≤ 601024 ∧ slots + 6 ≤ 7293000) (hP : va_P D vwCl ((oL kJ ao f :: WX) ++ WM) H) (hD : va_D (lA s) ((oL kJ ao f :: WX) ++ WM)) (hS : va_S (lA s) s.heap H locs) (hl : lv_has ls 7 [(0, .ref b), (1, .ref g), (2, .ref h), (3, .ref ao), (4, .int (iI i))])
    (kk : ∀ (H : Heap) (locs : List Loc) (ls : Array Slot) (f : Nat → Int64), va_P D vwCl ((oL kJ ao f :: WX) ++ WM') H → va_D (lA s) ((oL kJ ao f :: WX) ++ WM') → va_S (lA s) s.heap H locs → lv_has ls 7 [(0, .ref b), (1, .ref g), (2, .ref h), (3, .ref ao), (4, .int (iI i))] → W p l e room_1 s m #[Value.ref b] below meth c H locs (cells + 1) (slots + 6) Q (F0 m 953 ls [])) : W p l e room_1 s m #[Value.ref b] below meth c H locs cells slots Q (F0 m 298 ls []) := by
  obtain ⟨hx, hb, hr, hml, hown, hts, hX0, hbl, hlocks, hadm, hxT, hzT, hK, hL⟩ := C
  have hA : ∀ q, s.heap.size ≤ q → lA s q := fun q h => h
  have hbA : ¬ lA s b := fun h => by have h2 : s.heap.size ≤ b := h; omega
  have hr0 : cells ≤ 601024 ∧ slots ≤ 7293000 := by omega
  refine lv_aload_n hx hb dL_law_298 rfl (lv_at hl 1 rfl) ?_
  refine lv_aload_n hx hb dL_law_299 rfl (lv_at hl 0 rfl) ?_
  refine lv_iload hx hb dL_law_300 (lv_at hl 4 rfl) ?_
  refine lv_iconst (v := iI 1) hx hb dL_law_302 rfl ?_
  refine wk_iadd hx hb dL_law_303 ?_
  refine wk_sld hx hb hX0 hbl hbA hS (by omega) (by omega) rfl dL_law_304 ?_
  refine lv_aload_n hx hb dL_law_305 rfl (lv_at hl 0 rfl) ?_
  refine lv_iload hx hb dL_law_306 (lv_at hl 4 rfl) ?_
  refine lv_iconst (v := iI 2) hx hb dL_law_308 rfl ?_
  refine wk_iadd hx hb dL_law_309 ?_
  refine wk_sld hx hb hX0 hbl hbA hS (by omega) (by omega) rfl dL_law_310 ?_
  refine lv_aload_n hx hb dL_law_311 rfl (lv_at hl 0 rfl) ?_
  refine lv_iload hx hb dL_law_312 (lv_at hl 4 rfl) ?_
  refine lv_iconst (v := iI 3) hx hb dL_law_314 rfl ?_
  refine wk_iadd hx hb dL_law_315 ?_
  refine wk_sld hx hb hX0 hbl hbA hS (by omega) (by omega) rfl dL_law_316 ?_
  refine lv_aload_n hx hb dL_law_317 rfl (lv_at hl 3 rfl) ?_
  refine ck_backW (wh_runS (As := [.ref g, .int (iI (xz xs (i + 1))), .int (iI (xz xs (i + 2))), .int (iI (xz xs (i + 3))), .ref ao]) (rest := []) ⟨hx, hb, hml, hown, hts⟩ (wL_check_t2 (r0 := 0) (u0 := []) (ao := ao) (f := f) H.size hg hcX.1 hcX.2.1 hX) (cwx 5 hts (fun w h => tb_tbl h) wd_408 wd_406 wd_407 wd_32 rfl rfl (by decide +kernel) ⟨hcX.2.2.1, hcX.2.2.2⟩) (ck_preW (lz_pre hzT hS) hxT hK hP hD (List.range' 0 (oL kJ ao f :: WX).length) (ap_C _ _) (tl_nd _ _)) rfl rfl hl.1 rfl (lv_room (Nat.le_of_ble_eq_true rfl)) dL_law_318 hroom) hP hD hS hA (List.range' 0 (oL kJ ao f :: WX).length) (List.range' (oL kJ ao f :: WX).length WM.length) (ap_C _ _) (ap_R _ _) (tl_nd _ _) (ap_dis _ _) (ws' := WM ++ ((oL kJ ao f) :: WX)) rfl (fun H locs hP hD hS => ?_)
  refine lv_istore (lv' := [(5, .int (iI 2)), (0, .ref b), (1, .ref g), (2, .ref h), (3, .ref ao), (4, .int (iI i))]) hx hb dL_law_321 hl (by decide) rfl (fun ls hl => ?_)
  have hr0 : cells + 1 ≤ 601024 ∧ slots + 6 ≤ 7293000 := hroom
  refine lv_aload_n hx hb dL_law_323 rfl (lv_at hl 3 rfl) ?_
  refine lv_aload_n hx hb dL_law_324 rfl (lv_at hl 1 rfl) ?_
  refine lv_iload hx hb dL_law_325 (lv_at hl 5 rfl) ?_
  refine lv_iconst (v := iI 1) hx hb dL_law_327 rfl ?_
  refine wk_iadd hx hb dL_law_328 ?_
  refine wk_sld hx hb hX0 hbl hbA hS (by omega) (by omega) rfl dL_law_329 ?_
  refine lv_aload_n hx hb dL_law_330 rfl (lv_at hl 1 rfl) ?_
  refine lv_iload hx hb dL_law_331 (lv_at hl 5 rfl) ?_
  refine lv_iconst (v := iI 2) hx hb dL_law_333 rfl ?_
  refine wk_iadd hx hb dL_law_334 ?_
  refine wk_sld hx hb hX0 hbl hbA hS (by omega) (by omega) rfl dL_law_335 ?_
  refine lv_aload_n hx hb dL_law_336 rfl (lv_at hl 1 rfl) ?_
  refine lv_iload hx hb dL_law_337 (lv_at hl 5 rfl) ?_
  refine lv_iconst (v := iI 3) hx hb dL_law_339 rfl ?_
  refine wk_iadd hx hb dL_law_340 ?_
  refine wk_sld hx hb hX0 hbl hbA hS (by omega) (by omega) rfl dL_law_341 ?_
  refine ck_backI (va_runV (As := [.int (iI (xz xs (i + 1))), .int (iI (xz xs (i + 2))), .int (iI (xz xs (i + 3)))]) (rest := []) ⟨hx, hb, hml, hown, hts⟩ (hM H.size) (cwV 3 hts (gd_V (fun w h => tb_tbl h) wd_727 wd_728 wd_729 wd_41 wd_730) rfl hcM.1 hcM.2.1 (by decide +kernel) ⟨hcM.2.2.1, hcM.2.2.2⟩) (ck_preV hxT hK hP hD (List.range' 0 WM.length) (ap_C _ _) (tl_nd _ _) (q0 := q1) rfl rfl hh) rfl rfl hl.1 rfl (lv_room (Nat.le_of_ble_eq_true rfl)) dL_law_342 ⟨hr0.1, hr0.2⟩) hP hD hS hA (List.range' 0 WM.length) (List.range' WM.length ((oL kJ ao f) :: WX).length) (ap_C _ _) (ap_R _ _) (tl_nd _ _) (ap_dis _ _) (ws' := ((oL kJ ao f) :: WX) ++ WM') rfl (fun H locs hP hD hS => ?_)
  refine lv_istore (lv' := [(6, .int r0), (5, .int (iI 2)), (0, .ref b), (1, .ref g), (2, .ref h), (3, .ref ao), (4, .int (iI i))]) hx hb dL_law_345 hl (by decide) rfl (fun ls hl => ?_)
  refine lv_aload_n hx hb dL_law_347 rfl (lv_at hl 4 rfl) ?_
  refine pk_callI (va_runV (As := []) (rest := []) ⟨hx, hb, hml, hown, hts⟩ (hT H.size) (cwV 0 hts (gd_V (fun w h => tb_tbl h) wd_688 wd_689 wd_690 wd_41 wd_691) rfl rfl rfl (by decide +kernel) ⟨Nat.le_of_ble_eq_true rfl, Nat.le_of_ble_eq_true rfl⟩) (ck_preV hxT hK hP hD (List.range' ((oL kJ ao f) :: WX).length WM'.length) (ap_R _ _) (tl_nd _ _) (q0 := q2) rfl rfl hh') rfl rfl hl.1 rfl (lv_room (Nat.le_of_ble_eq_true rfl)) dL_law_348 ⟨hr0.1, hr0.2⟩) ?_
  refine lv_iload hx hb dL_law_351 (lv_at hl 1 rfl) ?_
  refine wk_icmp_eq (tgt := 358) hx hb dL_law_353 (by decide) (by omega) (fun _ => ?_) (fun c1 => absurd rfl c1)
  refine lv_iload hx hb dL_law_358 (lv_at hl 1 rfl) ?_
  refine wk_if_ne (tgt := 375) hx hb dL_law_360 (by decide) (by omega) (fun _ => ?_) (fun c1 => absurd c1 (by decide))
  refine lv_goto (tgt := 953) hx hb dL_law_375 (by decide) ?_
  exact kk H locs ls _ hP hD hS (lv_sub hl [2, 3, 4, 5, 6] rfl)
set_option maxRecDepth 100000 in
theorem lw_book_r {p : Program} {l : Launch} {e : Env} {s : State} {m : MethodId} {below : List Frame} {meth : Method} {c : Code} {b L : Nat} {xs : Nat → Int32} {D : va_G} {kI kZ kL kJ : ClassId} {Q : State → Prop} (C : lcA p l e s m meth c b L xs D kI kZ kL kJ) {H : Heap} {locs : List Loc} {ls : Array Slot} {cells slots : Nat} {g h ao : Nat} {i : Int} (hi : 0 ≤ i ∧ i + 3 < (L : Int)) {rX rM : Room} {WX WX' WM WM' : va_W} {q0 q1 q2 : Nat} {fsx fsm fsm' : List Value} {f : Nat → Int64} {r0 : Int32} (hg : WX[q0]? = some (g, .inr (6, fsx))) (hh : WM[q1]? = some (h, .inr (7, fsm))) (hh' : WM'[q2]? = some (h, .inr (7, fsm'))) (hcX : rX.cells = 0 ∧ rX.slots = 0 ∧ rX.frames + 1 + 1 ≤ 11 ∧ 8 + (6 + 11) + (8 + (4 + 11) + rX.locals) ≤ 390) (hcM : rM.cells = 0 ∧ rM.slots = 0 ∧ rM.frames + 1 ≤ 11 ∧ 8 + (5 + 11) + rM.locals ≤ 390)
    (hX : ∀ sz, CtI l yX6_book wsX6_book rX D vwCl (tyL kI kZ kL kJ) WX [.ref g, .int (iI (xz xs (i + 1))), .int (iI (xz xs (i + 2))), .int (iI (xz xs (i + 3)))] r0 WX' sz)
    (hM : ∀ sz, CtI l yX7_book wsX7_book rM D vwCl (tyL kI kZ kL kJ) WM [.ref h, .int (iI (xz xs (i + 1))), .int (iI (xz xs (i + 2))), .int (iI (xz xs (i + 3)))] r0 WM' sz)
    (hT : ∀ sz, CtP l yX7_thrown wsX7_thrown { frames := 0, cells := 0, slots := 0, locals := 0 } D vwCl (tyL kI kZ kL kJ) WM' [.ref h] (iI 0) sz)
    (hroom : cells + 1 ≤ 601024 ∧ slots + 6 ≤ 7293000) (hP : va_P D vwCl ((oL kJ ao f :: WX) ++ WM) H) (hD : va_D (lA s) ((oL kJ ao f :: WX) ++ WM)) (hS : va_S (lA s) s.heap H locs) (hl : lv_has ls 7 [(0, .ref b), (1, .ref g), (2, .ref h), (3, .ref ao), (4, .int (iI i))])
    (kk : ∀ (H : Heap) (locs : List Loc) (ls : Array Slot) (f : Nat → Int64), va_P D vwCl ((oL kJ ao f :: WX') ++ WM') H → va_D (lA s) ((oL kJ ao f :: WX') ++ WM') → va_S (lA s) s.heap H locs → lv_has ls 7 [(0, .ref b), (1, .ref g), (2, .ref h), (3, .ref ao), (4, .int (iI i))] → W p l e room_1 s m #[Value.ref b] below meth c H locs (cells + 1) (slots + 6) Q (F0 m 953 ls [])) : W p l e room_1 s m #[Value.ref b] below meth c H locs cells slots Q (F0 m 378 ls []) := by
  obtain ⟨hx, hb, hr, hml, hown, hts, hX0, hbl, hlocks, hadm, hxT, hzT, hK, hL⟩ := C
  have hA : ∀ q, s.heap.size ≤ q → lA s q := fun q h => h
  have hbA : ¬ lA s b := fun h => by have h2 : s.heap.size ≤ b := h; omega
  have hr0 : cells ≤ 601024 ∧ slots ≤ 7293000 := by omega
  refine lv_aload_n hx hb dL_law_378 rfl (lv_at hl 1 rfl) ?_
  refine lv_aload_n hx hb dL_law_379 rfl (lv_at hl 0 rfl) ?_
  refine lv_iload hx hb dL_law_380 (lv_at hl 4 rfl) ?_
  refine lv_iconst (v := iI 1) hx hb dL_law_382 rfl ?_
  refine wk_iadd hx hb dL_law_383 ?_
  refine wk_sld hx hb hX0 hbl hbA hS (by omega) (by omega) rfl dL_law_384 ?_
  refine lv_aload_n hx hb dL_law_385 rfl (lv_at hl 0 rfl) ?_
  refine lv_iload hx hb dL_law_386 (lv_at hl 4 rfl) ?_
  refine lv_iconst (v := iI 2) hx hb dL_law_388 rfl ?_
  refine wk_iadd hx hb dL_law_389 ?_
  refine wk_sld hx hb hX0 hbl hbA hS (by omega) (by omega) rfl dL_law_390 ?_
  refine lv_aload_n hx hb dL_law_391 rfl (lv_at hl 0 rfl) ?_
  refine lv_iload hx hb dL_law_392 (lv_at hl 4 rfl) ?_
  refine lv_iconst (v := iI 3) hx hb dL_law_394 rfl ?_
  refine wk_iadd hx hb dL_law_395 ?_
  refine wk_sld hx hb hX0 hbl hbA hS (by omega) (by omega) rfl dL_law_396 ?_
  refine lv_aload_n hx hb dL_law_397 rfl (lv_at hl 3 rfl) ?_
  refine ck_backW (wh_runS (As := [.ref g, .int (iI (xz xs (i + 1))), .int (iI (xz xs (i + 2))), .int (iI (xz xs (i + 3))), .ref ao]) (rest := []) ⟨hx, hb, hml, hown, hts⟩ (wL_book_r (ao := ao) (f := f) H.size hg hcX.1 hcX.2.1 hX) (cwx 5 hts (fun w h => tb_tbl h) wd_467 wd_465 wd_466 wd_32 rfl rfl (by decide +kernel) ⟨hcX.2.2.1, hcX.2.2.2⟩) (ck_preW (lz_pre hzT hS) hxT hK hP hD (List.range' 0 (oL kJ ao f :: WX).length) (ap_C _ _) (tl_nd _ _)) rfl rfl hl.1 rfl (lv_room (Nat.le_of_ble_eq_true rfl)) dL_law_398 ⟨hr0.1, hr0.2⟩) hP hD hS hA (List.range' 0 (oL kJ ao f :: WX).length) (List.range' (oL kJ ao f :: WX).length WM.length) (ap_C _ _) (ap_R _ _) (tl_nd _ _) (ap_dis _ _) (ws' := WM ++ ((oL kJ ao (vp_updL f 0 r0.toInt64)) :: WX')) rfl (fun H locs hP hD hS => ?_)
  refine lv_istore (lv' := [(5, .int (iI 0)), (0, .ref b), (1, .ref g), (2, .ref h), (3, .ref ao), (4, .int (iI i))]) hx hb dL_law_401 hl (by decide) rfl (fun ls hl => ?_)
  refine lv_aload_n hx hb dL_law_403 rfl (lv_at hl 3 rfl) ?_
  refine lv_aload_n hx hb dL_law_404 rfl (lv_at hl 1 rfl) ?_
  refine lv_iload hx hb dL_law_405 (lv_at hl 5 rfl) ?_
  refine lv_iconst (v := iI 1) hx hb dL_law_407 rfl ?_
  refine wk_iadd hx hb dL_law_408 ?_
  refine wk_sld hx hb hX0 hbl hbA hS (by omega) (by omega) rfl dL_law_409 ?_
  refine lv_aload_n hx hb dL_law_410 rfl (lv_at hl 1 rfl) ?_
  refine lv_iload hx hb dL_law_411 (lv_at hl 5 rfl) ?_
  refine lv_iconst (v := iI 2) hx hb dL_law_413 rfl ?_
  refine wk_iadd hx hb dL_law_414 ?_
  refine wk_sld hx hb hX0 hbl hbA hS (by omega) (by omega) rfl dL_law_415 ?_
  refine lv_aload_n hx hb dL_law_416 rfl (lv_at hl 1 rfl) ?_
  refine lv_iload hx hb dL_law_417 (lv_at hl 5 rfl) ?_
  refine lv_iconst (v := iI 3) hx hb dL_law_419 rfl ?_
  refine wk_iadd hx hb dL_law_420 ?_
  refine wk_sld hx hb hX0 hbl hbA hS (by omega) (by omega) rfl dL_law_421 ?_
  refine ck_backI (va_runV (As := [.int (iI (xz xs (i + 1))), .int (iI (xz xs (i + 2))), .int (iI (xz xs (i + 3)))]) (rest := []) ⟨hx, hb, hml, hown, hts⟩ (hM H.size) (cwV 3 hts (gd_V (fun w h => tb_tbl h) wd_731 wd_732 wd_733 wd_41 wd_734) rfl hcM.1 hcM.2.1 (by decide +kernel) ⟨hcM.2.2.1, hcM.2.2.2⟩) (ck_preV hxT hK hP hD (List.range' 0 WM.length) (ap_C _ _) (tl_nd _ _) (q0 := q1) rfl rfl hh) rfl rfl hl.1 rfl (lv_room (Nat.le_of_ble_eq_true rfl)) dL_law_422 ⟨hr0.1, hr0.2⟩) hP hD hS hA (List.range' 0 WM.length) (List.range' WM.length ((oL kJ ao (vp_updL f 0 r0.toInt64)) :: WX').length) (ap_C _ _) (ap_R _ _) (tl_nd _ _) (ap_dis _ _) (ws' := ((oL kJ ao (vp_updL f 0 r0.toInt64)) :: WX') ++ WM') rfl (fun H locs hP hD hS => ?_)
  refine lv_istore (lv' := [(6, .int r0), (5, .int (iI 0)), (0, .ref b), (1, .ref g), (2, .ref h), (3, .ref ao), (4, .int (iI i))]) hx hb dL_law_425 hl (by decide) rfl (fun ls hl => ?_)
  refine lv_aload_n hx hb dL_law_427 rfl (lv_at hl 4 rfl) ?_
  refine pk_callI (va_runV (As := []) (rest := []) ⟨hx, hb, hml, hown, hts⟩ (hT H.size) (cwV 0 hts (gd_V (fun w h => tb_tbl h) wd_688 wd_689 wd_690 wd_41 wd_691) rfl rfl rfl (by decide +kernel) ⟨Nat.le_of_ble_eq_true rfl, Nat.le_of_ble_eq_true rfl⟩) (ck_preV hxT hK hP hD (List.range' ((oL kJ ao (vp_updL f 0 r0.toInt64)) :: WX').length WM'.length) (ap_R _ _) (tl_nd _ _) (q0 := q2) rfl rfl hh') rfl rfl hl.1 rfl (lv_room (Nat.le_of_ble_eq_true rfl)) dL_law_428 ⟨hr0.1, hr0.2⟩) ?_
  refine lv_iload hx hb dL_law_431 (lv_at hl 1 rfl) ?_
  refine wk_icmp_eq (tgt := 438) hx hb dL_law_433 (by decide) (by omega) (fun _ => ?_) (fun c1 => absurd rfl c1)
  refine lv_iload hx hb dL_law_438 (lv_at hl 1 rfl) ?_
  refine wk_if_ne (tgt := 455) hx hb dL_law_440 (by decide) (by omega) (fun c1 => absurd rfl c1) (fun _ => ?_)
  refine lv_aload_n hx hb dL_law_443 rfl (lv_at hl 5 rfl) ?_
  refine lv_iconst (v := iI 0) hx hb dL_law_444 rfl ?_
  refine wk_lald (v := r0.toInt64) hx hb hK hP 0 3 rfl rfl (by decide) (by simp [vp_updL]) dL_law_445 ?_
  refine lv_iload hx hb dL_law_446 (lv_at hl 0 rfl) ?_
  refine lv_i2l (v := r0.toInt64) hx hb dL_law_448 rfl ?_
  refine wk_lcmpE hx hb rfl dL_law_449 ?_
  refine wk_if_eq (tgt := 455) hx hb dL_law_450 (by decide) (by omega) (fun _ => ?_) (fun c1 => absurd rfl c1)
  refine lv_goto (tgt := 953) hx hb dL_law_455 (by decide) ?_
  refine W.widen (k := cells + 1) (n := slots + 6) (Nat.le_succ _) (Nat.le_add_right slots 6) ?_
  exact kk H locs ls _ hP hD hS (lv_sub hl [2, 3, 4, 5, 6] rfl)
set_option maxRecDepth 100000 in
theorem lw_book_t1 {p : Program} {l : Launch} {e : Env} {s : State} {m : MethodId} {below : List Frame} {meth : Method} {c : Code} {b L : Nat} {xs : Nat → Int32} {D : va_G} {kI kZ kL kJ : ClassId} {Q : State → Prop} (C : lcA p l e s m meth c b L xs D kI kZ kL kJ) {H : Heap} {locs : List Loc} {ls : Array Slot} {cells slots : Nat} {g h ao : Nat} {i : Int} (hi : 0 ≤ i ∧ i + 3 < (L : Int)) {rX rM : Room} {WX WX' WM WM' : va_W} {q0 q1 q2 : Nat} {fsx fsm fsm' : List Value} {f : Nat → Int64} {r0 : Int32} (hg : WX[q0]? = some (g, .inr (6, fsx))) (hh : WM[q1]? = some (h, .inr (7, fsm))) (hh' : WM'[q2]? = some (h, .inr (7, fsm'))) (hcX : rX.cells = 1 ∧ rX.slots = 6 ∧ rX.frames + 1 + 1 ≤ 11 ∧ 8 + (6 + 11) + (8 + (4 + 11) + rX.locals) ≤ 390) (hcM : rM.cells = 0 ∧ rM.slots = 0 ∧ rM.frames + 1 ≤ 11 ∧ 8 + (5 + 11) + rM.locals ≤ 390)
    (hX : ∀ sz, CtT l yX6_book wsX6_book rX D vwCl (tyL kI kZ kL kJ) WX [.ref g, .int (iI (xz xs (i + 1))), .int (iI (xz xs (i + 2))), .int (iI (xz xs (i + 3)))] "java/lang/IndexOutOfBoundsException" sz)
    (hM : ∀ sz, CtI l yX7_book wsX7_book rM D vwCl (tyL kI kZ kL kJ) WM [.ref h, .int (iI (xz xs (i + 1))), .int (iI (xz xs (i + 2))), .int (iI (xz xs (i + 3)))] r0 WM' sz)
    (hT : ∀ sz, CtP l yX7_thrown wsX7_thrown { frames := 0, cells := 0, slots := 0, locals := 0 } D vwCl (tyL kI kZ kL kJ) WM' [.ref h] (iI 1) sz)
    (hroom : cells + 1 ≤ 601024 ∧ slots + 6 ≤ 7293000) (hP : va_P D vwCl ((oL kJ ao f :: WX) ++ WM) H) (hD : va_D (lA s) ((oL kJ ao f :: WX) ++ WM)) (hS : va_S (lA s) s.heap H locs) (hl : lv_has ls 7 [(0, .ref b), (1, .ref g), (2, .ref h), (3, .ref ao), (4, .int (iI i))])
    (kk : ∀ (H : Heap) (locs : List Loc) (ls : Array Slot) (f : Nat → Int64), va_P D vwCl ((oL kJ ao f :: WX) ++ WM') H → va_D (lA s) ((oL kJ ao f :: WX) ++ WM') → va_S (lA s) s.heap H locs → lv_has ls 7 [(0, .ref b), (1, .ref g), (2, .ref h), (3, .ref ao), (4, .int (iI i))] → W p l e room_1 s m #[Value.ref b] below meth c H locs (cells + 1) (slots + 6) Q (F0 m 953 ls [])) : W p l e room_1 s m #[Value.ref b] below meth c H locs cells slots Q (F0 m 378 ls []) := by
  obtain ⟨hx, hb, hr, hml, hown, hts, hX0, hbl, hlocks, hadm, hxT, hzT, hK, hL⟩ := C
  have hA : ∀ q, s.heap.size ≤ q → lA s q := fun q h => h
  have hbA : ¬ lA s b := fun h => by have h2 : s.heap.size ≤ b := h; omega
  have hr0 : cells ≤ 601024 ∧ slots ≤ 7293000 := by omega
  refine lv_aload_n hx hb dL_law_378 rfl (lv_at hl 1 rfl) ?_
  refine lv_aload_n hx hb dL_law_379 rfl (lv_at hl 0 rfl) ?_
  refine lv_iload hx hb dL_law_380 (lv_at hl 4 rfl) ?_
  refine lv_iconst (v := iI 1) hx hb dL_law_382 rfl ?_
  refine wk_iadd hx hb dL_law_383 ?_
  refine wk_sld hx hb hX0 hbl hbA hS (by omega) (by omega) rfl dL_law_384 ?_
  refine lv_aload_n hx hb dL_law_385 rfl (lv_at hl 0 rfl) ?_
  refine lv_iload hx hb dL_law_386 (lv_at hl 4 rfl) ?_
  refine lv_iconst (v := iI 2) hx hb dL_law_388 rfl ?_
  refine wk_iadd hx hb dL_law_389 ?_
  refine wk_sld hx hb hX0 hbl hbA hS (by omega) (by omega) rfl dL_law_390 ?_
  refine lv_aload_n hx hb dL_law_391 rfl (lv_at hl 0 rfl) ?_
  refine lv_iload hx hb dL_law_392 (lv_at hl 4 rfl) ?_
  refine lv_iconst (v := iI 3) hx hb dL_law_394 rfl ?_
  refine wk_iadd hx hb dL_law_395 ?_
  refine wk_sld hx hb hX0 hbl hbA hS (by omega) (by omega) rfl dL_law_396 ?_
  refine lv_aload_n hx hb dL_law_397 rfl (lv_at hl 3 rfl) ?_
  refine ck_backW (wh_runS (As := [.ref g, .int (iI (xz xs (i + 1))), .int (iI (xz xs (i + 2))), .int (iI (xz xs (i + 3))), .ref ao]) (rest := []) ⟨hx, hb, hml, hown, hts⟩ (wL_book_t1 (r0 := 0) (u0 := []) (ao := ao) (f := f) H.size hg hcX.1 hcX.2.1 hX) (cwx 5 hts (fun w h => tb_tbl h) wd_467 wd_465 wd_466 wd_32 rfl rfl (by decide +kernel) ⟨hcX.2.2.1, hcX.2.2.2⟩) (ck_preW (lz_pre hzT hS) hxT hK hP hD (List.range' 0 (oL kJ ao f :: WX).length) (ap_C _ _) (tl_nd _ _)) rfl rfl hl.1 rfl (lv_room (Nat.le_of_ble_eq_true rfl)) dL_law_398 hroom) hP hD hS hA (List.range' 0 (oL kJ ao f :: WX).length) (List.range' (oL kJ ao f :: WX).length WM.length) (ap_C _ _) (ap_R _ _) (tl_nd _ _) (ap_dis _ _) (ws' := WM ++ ((oL kJ ao f) :: WX)) rfl (fun H locs hP hD hS => ?_)
  refine lv_istore (lv' := [(5, .int (iI 1)), (0, .ref b), (1, .ref g), (2, .ref h), (3, .ref ao), (4, .int (iI i))]) hx hb dL_law_401 hl (by decide) rfl (fun ls hl => ?_)
  have hr0 : cells + 1 ≤ 601024 ∧ slots + 6 ≤ 7293000 := hroom
  refine lv_aload_n hx hb dL_law_403 rfl (lv_at hl 3 rfl) ?_
  refine lv_aload_n hx hb dL_law_404 rfl (lv_at hl 1 rfl) ?_
  refine lv_iload hx hb dL_law_405 (lv_at hl 5 rfl) ?_
  refine lv_iconst (v := iI 1) hx hb dL_law_407 rfl ?_
  refine wk_iadd hx hb dL_law_408 ?_
  refine wk_sld hx hb hX0 hbl hbA hS (by omega) (by omega) rfl dL_law_409 ?_
  refine lv_aload_n hx hb dL_law_410 rfl (lv_at hl 1 rfl) ?_
  refine lv_iload hx hb dL_law_411 (lv_at hl 5 rfl) ?_
  refine lv_iconst (v := iI 2) hx hb dL_law_413 rfl ?_
  refine wk_iadd hx hb dL_law_414 ?_
  refine wk_sld hx hb hX0 hbl hbA hS (by omega) (by omega) rfl dL_law_415 ?_
  refine lv_aload_n hx hb dL_law_416 rfl (lv_at hl 1 rfl) ?_
  refine lv_iload hx hb dL_law_417 (lv_at hl 5 rfl) ?_
  refine lv_iconst (v := iI 3) hx hb dL_law_419 rfl ?_
  refine wk_iadd hx hb dL_law_420 ?_
  refine wk_sld hx hb hX0 hbl hbA hS (by omega) (by omega) rfl dL_law_421 ?_
  refine ck_backI (va_runV (As := [.int (iI (xz xs (i + 1))), .int (iI (xz xs (i + 2))), .int (iI (xz xs (i + 3)))]) (rest := []) ⟨hx, hb, hml, hown, hts⟩ (hM H.size) (cwV 3 hts (gd_V (fun w h => tb_tbl h) wd_731 wd_732 wd_733 wd_41 wd_734) rfl hcM.1 hcM.2.1 (by decide +kernel) ⟨hcM.2.2.1, hcM.2.2.2⟩) (ck_preV hxT hK hP hD (List.range' 0 WM.length) (ap_C _ _) (tl_nd _ _) (q0 := q1) rfl rfl hh) rfl rfl hl.1 rfl (lv_room (Nat.le_of_ble_eq_true rfl)) dL_law_422 ⟨hr0.1, hr0.2⟩) hP hD hS hA (List.range' 0 WM.length) (List.range' WM.length ((oL kJ ao f) :: WX).length) (ap_C _ _) (ap_R _ _) (tl_nd _ _) (ap_dis _ _) (ws' := ((oL kJ ao f) :: WX) ++ WM') rfl (fun H locs hP hD hS => ?_)
  refine lv_istore (lv' := [(6, .int r0), (5, .int (iI 1)), (0, .ref b), (1, .ref g), (2, .ref h), (3, .ref ao), (4, .int (iI i))]) hx hb dL_law_425 hl (by decide) rfl (fun ls hl => ?_)
  refine lv_aload_n hx hb dL_law_427 rfl (lv_at hl 4 rfl) ?_
  refine pk_callI (va_runV (As := []) (rest := []) ⟨hx, hb, hml, hown, hts⟩ (hT H.size) (cwV 0 hts (gd_V (fun w h => tb_tbl h) wd_688 wd_689 wd_690 wd_41 wd_691) rfl rfl rfl (by decide +kernel) ⟨Nat.le_of_ble_eq_true rfl, Nat.le_of_ble_eq_true rfl⟩) (ck_preV hxT hK hP hD (List.range' ((oL kJ ao f) :: WX).length WM'.length) (ap_R _ _) (tl_nd _ _) (q0 := q2) rfl rfl hh') rfl rfl hl.1 rfl (lv_room (Nat.le_of_ble_eq_true rfl)) dL_law_428 ⟨hr0.1, hr0.2⟩) ?_
  refine lv_iload hx hb dL_law_431 (lv_at hl 1 rfl) ?_
  refine wk_icmp_eq (tgt := 438) hx hb dL_law_433 (by decide) (by omega) (fun _ => ?_) (fun c1 => absurd rfl c1)
  refine lv_iload hx hb dL_law_438 (lv_at hl 1 rfl) ?_
  refine wk_if_ne (tgt := 455) hx hb dL_law_440 (by decide) (by omega) (fun _ => ?_) (fun c1 => absurd c1 (by decide))
  refine lv_goto (tgt := 953) hx hb dL_law_455 (by decide) ?_
  exact kk H locs ls _ hP hD hS (lv_sub hl [2, 3, 4, 5, 6] rfl)
set_option maxRecDepth 100000 in
theorem lw_book_t2 {p : Program} {l : Launch} {e : Env} {s : State} {m : MethodId} {below : List Frame} {meth : Method} {c : Code} {b L : Nat} {xs : Nat → Int32} {D : va_G} {kI kZ kL kJ : ClassId} {Q : State → Prop} (C : lcA p l e s m meth c b L xs D kI kZ kL kJ) {H : Heap} {locs : List Loc} {ls : Array Slot} {cells slots : Nat} {g h ao : Nat} {i : Int} (hi : 0 ≤ i ∧ i + 3 < (L : Int)) {rX rM : Room} {WX WX' WM WM' : va_W} {q0 q1 q2 : Nat} {fsx fsm fsm' : List Value} {f : Nat → Int64} {r0 : Int32} (hg : WX[q0]? = some (g, .inr (6, fsx))) (hh : WM[q1]? = some (h, .inr (7, fsm))) (hh' : WM'[q2]? = some (h, .inr (7, fsm'))) (hcX : rX.cells = 1 ∧ rX.slots = 6 ∧ rX.frames + 1 + 1 ≤ 11 ∧ 8 + (6 + 11) + (8 + (4 + 11) + rX.locals) ≤ 390) (hcM : rM.cells = 0 ∧ rM.slots = 0 ∧ rM.frames + 1 ≤ 11 ∧ 8 + (5 + 11) + rM.locals ≤ 390)
    (hX : ∀ sz, CtT l yX6_book wsX6_book rX D vwCl (tyL kI kZ kL kJ) WX [.ref g, .int (iI (xz xs (i + 1))), .int (iI (xz xs (i + 2))), .int (iI (xz xs (i + 3)))] "java/lang/IllegalStateException" sz)
    (hM : ∀ sz, CtI l yX7_book wsX7_book rM D vwCl (tyL kI kZ kL kJ) WM [.ref h, .int (iI (xz xs (i + 1))), .int (iI (xz xs (i + 2))), .int (iI (xz xs (i + 3)))] r0 WM' sz)
    (hT : ∀ sz, CtP l yX7_thrown wsX7_thrown { frames := 0, cells := 0, slots := 0, locals := 0 } D vwCl (tyL kI kZ kL kJ) WM' [.ref h] (iI 2) sz)
    (hroom : cells + 1 ≤ 601024 ∧ slots + 6 ≤ 7293000) (hP : va_P D vwCl ((oL kJ ao f :: WX) ++ WM) H) (hD : va_D (lA s) ((oL kJ ao f :: WX) ++ WM)) (hS : va_S (lA s) s.heap H locs) (hl : lv_has ls 7 [(0, .ref b), (1, .ref g), (2, .ref h), (3, .ref ao), (4, .int (iI i))])
    (kk : ∀ (H : Heap) (locs : List Loc) (ls : Array Slot) (f : Nat → Int64), va_P D vwCl ((oL kJ ao f :: WX) ++ WM') H → va_D (lA s) ((oL kJ ao f :: WX) ++ WM') → va_S (lA s) s.heap H locs → lv_has ls 7 [(0, .ref b), (1, .ref g), (2, .ref h), (3, .ref ao), (4, .int (iI i))] → W p l e room_1 s m #[Value.ref b] below meth c H locs (cells + 1) (slots + 6) Q (F0 m 953 ls [])) : W p l e room_1 s m #[Value.ref b] below meth c H locs cells slots Q (F0 m 378 ls []) := by
  obtain ⟨hx, hb, hr, hml, hown, hts, hX0, hbl, hlocks, hadm, hxT, hzT, hK, hL⟩ := C
  have hA : ∀ q, s.heap.size ≤ q → lA s q := fun q h => h
  have hbA : ¬ lA s b := fun h => by have h2 : s.heap.size ≤ b := h; omega
  have hr0 : cells ≤ 601024 ∧ slots ≤ 7293000 := by omega
  refine lv_aload_n hx hb dL_law_378 rfl (lv_at hl 1 rfl) ?_
  refine lv_aload_n hx hb dL_law_379 rfl (lv_at hl 0 rfl) ?_
  refine lv_iload hx hb dL_law_380 (lv_at hl 4 rfl) ?_
  refine lv_iconst (v := iI 1) hx hb dL_law_382 rfl ?_
  refine wk_iadd hx hb dL_law_383 ?_
  refine wk_sld hx hb hX0 hbl hbA hS (by omega) (by omega) rfl dL_law_384 ?_
  refine lv_aload_n hx hb dL_law_385 rfl (lv_at hl 0 rfl) ?_
  refine lv_iload hx hb dL_law_386 (lv_at hl 4 rfl) ?_
  refine lv_iconst (v := iI 2) hx hb dL_law_388 rfl ?_
  refine wk_iadd hx hb dL_law_389 ?_
  refine wk_sld hx hb hX0 hbl hbA hS (by omega) (by omega) rfl dL_law_390 ?_
  refine lv_aload_n hx hb dL_law_391 rfl (lv_at hl 0 rfl) ?_
  refine lv_iload hx hb dL_law_392 (lv_at hl 4 rfl) ?_
  refine lv_iconst (v := iI 3) hx hb dL_law_394 rfl ?_
  refine wk_iadd hx hb dL_law_395 ?_
  refine wk_sld hx hb hX0 hbl hbA hS (by omega) (by omega) rfl dL_law_396 ?_
  refine lv_aload_n hx hb dL_law_397 rfl (lv_at hl 3 rfl) ?_
  refine ck_backW (wh_runS (As := [.ref g, .int (iI (xz xs (i + 1))), .int (iI (xz xs (i + 2))), .int (iI (xz xs (i + 3))), .ref ao]) (rest := []) ⟨hx, hb, hml, hown, hts⟩ (wL_book_t2 (r0 := 0) (u0 := []) (ao := ao) (f := f) H.size hg hcX.1 hcX.2.1 hX) (cwx 5 hts (fun w h => tb_tbl h) wd_467 wd_465 wd_466 wd_32 rfl rfl (by decide +kernel) ⟨hcX.2.2.1, hcX.2.2.2⟩) (ck_preW (lz_pre hzT hS) hxT hK hP hD (List.range' 0 (oL kJ ao f :: WX).length) (ap_C _ _) (tl_nd _ _)) rfl rfl hl.1 rfl (lv_room (Nat.le_of_ble_eq_true rfl)) dL_law_398 hroom) hP hD hS hA (List.range' 0 (oL kJ ao f :: WX).length) (List.range' (oL kJ ao f :: WX).length WM.length) (ap_C _ _) (ap_R _ _) (tl_nd _ _) (ap_dis _ _) (ws' := WM ++ ((oL kJ ao f) :: WX)) rfl (fun H locs hP hD hS => ?_)
  refine lv_istore (lv' := [(5, .int (iI 2)), (0, .ref b), (1, .ref g), (2, .ref h), (3, .ref ao), (4, .int (iI i))]) hx hb dL_law_401 hl (by decide) rfl (fun ls hl => ?_)
  have hr0 : cells + 1 ≤ 601024 ∧ slots + 6 ≤ 7293000 := hroom
  refine lv_aload_n hx hb dL_law_403 rfl (lv_at hl 3 rfl) ?_
  refine lv_aload_n hx hb dL_law_404 rfl (lv_at hl 1 rfl) ?_
  refine lv_iload hx hb dL_law_405 (lv_at hl 5 rfl) ?_
  refine lv_iconst (v := iI 1) hx hb dL_law_407 rfl ?_
  refine wk_iadd hx hb dL_law_408 ?_
  refine wk_sld hx hb hX0 hbl hbA hS (by omega) (by omega) rfl dL_law_409 ?_
  refine lv_aload_n hx hb dL_law_410 rfl (lv_at hl 1 rfl) ?_
  refine lv_iload hx hb dL_law_411 (lv_at hl 5 rfl) ?_
  refine lv_iconst (v := iI 2) hx hb dL_law_413 rfl ?_
  refine wk_iadd hx hb dL_law_414 ?_
  refine wk_sld hx hb hX0 hbl hbA hS (by omega) (by omega) rfl dL_law_415 ?_
  refine lv_aload_n hx hb dL_law_416 rfl (lv_at hl 1 rfl) ?_
  refine lv_iload hx hb dL_law_417 (lv_at hl 5 rfl) ?_
  refine lv_iconst (v := iI 3) hx hb dL_law_419 rfl ?_
  refine wk_iadd hx hb dL_law_420 ?_
  refine wk_sld hx hb hX0 hbl hbA hS (by omega) (by omega) rfl dL_law_421 ?_
  refine ck_backI (va_runV (As := [.int (iI (xz xs (i + 1))), .int (iI (xz xs (i + 2))), .int (iI (xz xs (i + 3)))]) (rest := []) ⟨hx, hb, hml, hown, hts⟩ (hM H.size) (cwV 3 hts (gd_V (fun w h => tb_tbl h) wd_731 wd_732 wd_733 wd_41 wd_734) rfl hcM.1 hcM.2.1 (by decide +kernel) ⟨hcM.2.2.1, hcM.2.2.2⟩) (ck_preV hxT hK hP hD (List.range' 0 WM.length) (ap_C _ _) (tl_nd _ _) (q0 := q1) rfl rfl hh) rfl rfl hl.1 rfl (lv_room (Nat.le_of_ble_eq_true rfl)) dL_law_422 ⟨hr0.1, hr0.2⟩) hP hD hS hA (List.range' 0 WM.length) (List.range' WM.length ((oL kJ ao f) :: WX).length) (ap_C _ _) (ap_R _ _) (tl_nd _ _) (ap_dis _ _) (ws' := ((oL kJ ao f) :: WX) ++ WM') rfl (fun H locs hP hD hS => ?_)
  refine lv_istore (lv' := [(6, .int r0), (5, .int (iI 2)), (0, .ref b), (1, .ref g), (2, .ref h), (3, .ref ao), (4, .int (iI i))]) hx hb dL_law_425 hl (by decide) rfl (fun ls hl => ?_)
  refine lv_aload_n hx hb dL_law_427 rfl (lv_at hl 4 rfl) ?_
  refine pk_callI (va_runV (As := []) (rest := []) ⟨hx, hb, hml, hown, hts⟩ (hT H.size) (cwV 0 hts (gd_V (fun w h => tb_tbl h) wd_688 wd_689 wd_690 wd_41 wd_691) rfl rfl rfl (by decide +kernel) ⟨Nat.le_of_ble_eq_true rfl, Nat.le_of_ble_eq_true rfl⟩) (ck_preV hxT hK hP hD (List.range' ((oL kJ ao f) :: WX).length WM'.length) (ap_R _ _) (tl_nd _ _) (q0 := q2) rfl rfl hh') rfl rfl hl.1 rfl (lv_room (Nat.le_of_ble_eq_true rfl)) dL_law_428 ⟨hr0.1, hr0.2⟩) ?_
  refine lv_iload hx hb dL_law_431 (lv_at hl 1 rfl) ?_
  refine wk_icmp_eq (tgt := 438) hx hb dL_law_433 (by decide) (by omega) (fun _ => ?_) (fun c1 => absurd rfl c1)
  refine lv_iload hx hb dL_law_438 (lv_at hl 1 rfl) ?_
  refine wk_if_ne (tgt := 455) hx hb dL_law_440 (by decide) (by omega) (fun _ => ?_) (fun c1 => absurd c1 (by decide))
  refine lv_goto (tgt := 953) hx hb dL_law_455 (by decide) ?_
  exact kk H locs ls _ hP hD hS (lv_sub hl [2, 3, 4, 5, 6] rfl)
set_option maxRecDepth 100000 in
theorem lw_through_r {p : Program} {l : Launch} {e : Env} {s : State} {m : MethodId} {below : List Frame} {meth : Method} {c : Code} {b L : Nat} {xs : Nat → Int32} {D : va_G} {kI kZ kL kJ : ClassId} {Q : State → Prop} (C : lcA p l e s m meth c b L xs D kI kZ kL kJ) {H : Heap} {locs : List Loc} {ls : Array Slot} {cells slots : Nat} {g h ao : Nat} {i : Int} (hi : 0 ≤ i ∧ i + 3 < (L : Int)) {rX rM : Room} {WX WX' WM WM' : va_W} {q0 q1 q2 : Nat} {fsx fsm fsm' : List Value} {f : Nat → Int64} {r0 : Int32} (hg : WX[q0]? = some (g, .inr (6, fsx))) (hh : WM[q1]? = some (h, .inr (7, fsm))) (hh' : WM'[q2]? = some (h, .inr (7, fsm'))) (hcX : rX.cells = 0 ∧ rX.slots = 0 ∧ rX.frames + 1 + 1 ≤ 11 ∧ 8 + (5 + 11) + (8 + (4 + 11) + rX.locals) ≤ 390) (hcM : rM.cells = 0 ∧ rM.slots = 0 ∧ rM.frames + 1 ≤ 11 ∧ 8 + (6 + 11) + rM.locals ≤ 390)
    (hX : ∀ sz, CtI l yX6_through wsX6_through rX D vwCl (tyL kI kZ kL kJ) WX [.ref g, .int (iI (xz xs (i + 1))), .int (iI (xz xs (i + 2)))] r0 WX' sz)
    (hM : ∀ sz, CtI l yX7_through wsX7_through rM D vwCl (tyL kI kZ kL kJ) WM [.ref h, .int (iI (xz xs (i + 1))), .int (iI (xz xs (i + 2)))] r0 WM' sz)
    (hT : ∀ sz, CtP l yX7_thrown wsX7_thrown { frames := 0, cells := 0, slots := 0, locals := 0 } D vwCl (tyL kI kZ kL kJ) WM' [.ref h] (iI 0) sz)
    (hroom : cells + 1 ≤ 601024 ∧ slots + 6 ≤ 7293000) (hP : va_P D vwCl ((oL kJ ao f :: WX) ++ WM) H) (hD : va_D (lA s) ((oL kJ ao f :: WX) ++ WM)) (hS : va_S (lA s) s.heap H locs) (hl : lv_has ls 7 [(0, .ref b), (1, .ref g), (2, .ref h), (3, .ref ao), (4, .int (iI i))])
    (kk : ∀ (H : Heap) (locs : List Loc) (ls : Array Slot) (f : Nat → Int64), va_P D vwCl ((oL kJ ao f :: WX') ++ WM') H → va_D (lA s) ((oL kJ ao f :: WX') ++ WM') → va_S (lA s) s.heap H locs → lv_has ls 7 [(0, .ref b), (1, .ref g), (2, .ref h), (3, .ref ao), (4, .int (iI i))] → W p l e room_1 s m #[Value.ref b] below meth c H locs (cells + 1) (slots + 6) Q (F0 m 953 ls [])) : W p l e room_1 s m #[Value.ref b] below meth c H locs cells slots Q (F0 m 458 ls []) := by
  obtain ⟨hx, hb, hr, hml, hown, hts, hX0, hbl, hlocks, hadm, hxT, hzT, hK, hL⟩ := C
  have hA : ∀ q, s.heap.size ≤ q → lA s q := fun q h => h
  have hbA : ¬ lA s b := fun h => by have h2 : s.heap.size ≤ b := h; omega
  have hr0 : cells ≤ 601024 ∧ slots ≤ 7293000 := by omega
  refine lv_aload_n hx hb dL_law_458 rfl (lv_at hl 1 rfl) ?_
  refine lv_aload_n hx hb dL_law_459 rfl (lv_at hl 0 rfl) ?_
  refine lv_iload hx hb dL_law_460 (lv_at hl 4 rfl) ?_
  refine lv_iconst (v := iI 1) hx hb dL_law_462 rfl ?_
  refine wk_iadd hx hb dL_law_463 ?_
  refine wk_sld hx hb hX0 hbl hbA hS (by omega) (by omega) rfl dL_law_464 ?_
  refine lv_aload_n hx hb dL_law_465 rfl (lv_at hl 0 rfl) ?_
  refine lv_iload hx hb dL_law_466 (lv_at hl 4 rfl) ?_
  refine lv_iconst (v := iI 2) hx hb dL_law_468 rfl ?_
  refine wk_iadd hx hb dL_law_469 ?_
  refine wk_sld hx hb hX0 hbl hbA hS (by omega) (by omega) rfl dL_law_470 ?_
  refine lv_aload_n hx hb dL_law_471 rfl (lv_at hl 3 rfl) ?_
  refine ck_backW (wh_runS (As := [.ref g, .int (iI (xz xs (i + 1))), .int (iI (xz xs (i + 2))), .ref ao]) (rest := []) ⟨hx, hb, hml, hown, hts⟩ (wL_through_r (ao := ao) (f := f) H.size hg hcX.1 hcX.2.1 hX) (cwx 4 hts (fun w h => tb_tbl h) wd_501 wd_499 wd_500 wd_32 rfl rfl (by decide +kernel) ⟨hcX.2.2.1, hcX.2.2.2⟩) (ck_preW (lz_pre hzT hS) hxT hK hP hD (List.range' 0 (oL kJ ao f :: WX).length) (ap_C _ _) (tl_nd _ _)) rfl rfl hl.1 rfl (lv_room (Nat.le_of_ble_eq_true rfl)) dL_law_472 ⟨hr0.1, hr0.2⟩) hP hD hS hA (List.range' 0 (oL kJ ao f :: WX).length) (List.range' (oL kJ ao f :: WX).length WM.length) (ap_C _ _) (ap_R _ _) (tl_nd _ _) (ap_dis _ _) (ws' := WM ++ ((oL kJ ao (vp_updL f 0 r0.toInt64)) :: WX')) rfl (fun H locs hP hD hS => ?_)
  refine lv_istore (lv' := [(5, .int (iI 0)), (0, .ref b), (1, .ref g), (2, .ref h), (3, .ref ao), (4, .int (iI i))]) hx hb dL_law_475 hl (by decide) rfl (fun ls hl => ?_)
  refine lv_aload_n hx hb dL_law_477 rfl (lv_at hl 3 rfl) ?_
  refine lv_aload_n hx hb dL_law_478 rfl (lv_at hl 1 rfl) ?_
  refine lv_iload hx hb dL_law_479 (lv_at hl 5 rfl) ?_
  refine lv_iconst (v := iI 1) hx hb dL_law_481 rfl ?_
  refine wk_iadd hx hb dL_law_482 ?_
  refine wk_sld hx hb hX0 hbl hbA hS (by omega) (by omega) rfl dL_law_483 ?_
  refine lv_aload_n hx hb dL_law_484 rfl (lv_at hl 1 rfl) ?_
  refine lv_iload hx hb dL_law_485 (lv_at hl 5 rfl) ?_
  refine lv_iconst (v := iI 2) hx hb dL_law_487 rfl ?_
  refine wk_iadd hx hb dL_law_488 ?_
  refine wk_sld hx hb hX0 hbl hbA hS (by omega) (by omega) rfl dL_law_489 ?_
  refine ck_backI (va_runV (As := [.int (iI (xz xs (i + 1))), .int (iI (xz xs (i + 2)))]) (rest := []) ⟨hx, hb, hml, hown, hts⟩ (hM H.size) (cwV 2 hts (gd_V (fun w h => tb_tbl h) wd_747 wd_748 wd_749 wd_41 wd_750) rfl hcM.1 hcM.2.1 (by decide +kernel) ⟨hcM.2.2.1, hcM.2.2.2⟩) (ck_preV hxT hK hP hD (List.range' 0 WM.length) (ap_C _ _) (tl_nd _ _) (q0 := q1) rfl rfl hh) rfl rfl hl.1 rfl (lv_room (Nat.le_of_ble_eq_true rfl)) dL_law_490 ⟨hr0.1, hr0.2⟩) hP hD hS hA (List.range' 0 WM.length) (List.range' WM.length ((oL kJ ao (vp_updL f 0 r0.toInt64)) :: WX').length) (ap_C _ _) (ap_R _ _) (tl_nd _ _) (ap_dis _ _) (ws' := ((oL kJ ao (vp_updL f 0 r0.toInt64)) :: WX') ++ WM') rfl (fun H locs hP hD hS => ?_)
  refine lv_istore (lv' := [(6, .int r0), (5, .int (iI 0)), (0, .ref b), (1, .ref g), (2, .ref h), (3, .ref ao), (4, .int (iI i))]) hx hb dL_law_493 hl (by decide) rfl (fun ls hl => ?_)
  refine lv_aload_n hx hb dL_law_495 rfl (lv_at hl 4 rfl) ?_
  refine pk_callI (va_runV (As := []) (rest := []) ⟨hx, hb, hml, hown, hts⟩ (hT H.size) (cwV 0 hts (gd_V (fun w h => tb_tbl h) wd_688 wd_689 wd_690 wd_41 wd_691) rfl rfl rfl (by decide +kernel) ⟨Nat.le_of_ble_eq_true rfl, Nat.le_of_ble_eq_true rfl⟩) (ck_preV hxT hK hP hD (List.range' ((oL kJ ao (vp_updL f 0 r0.toInt64)) :: WX').length WM'.length) (ap_R _ _) (tl_nd _ _) (q0 := q2) rfl rfl hh') rfl rfl hl.1 rfl (lv_room (Nat.le_of_ble_eq_true rfl)) dL_law_496 ⟨hr0.1, hr0.2⟩) ?_
  refine lv_iload hx hb dL_law_499 (lv_at hl 1 rfl) ?_
  refine wk_icmp_eq (tgt := 506) hx hb dL_law_501 (by decide) (by omega) (fun _ => ?_) (fun c1 => absurd rfl c1)
  refine lv_iload hx hb dL_law_506 (lv_at hl 1 rfl) ?_
  refine wk_if_ne (tgt := 523) hx hb dL_law_508 (by decide) (by omega) (fun c1 => absurd rfl c1) (fun _ => ?_)
  refine lv_aload_n hx hb dL_law_511 rfl (lv_at hl 5 rfl) ?_
  refine lv_iconst (v := iI 0) hx hb dL_law_512 rfl ?_
  refine wk_lald (v := r0.toInt64) hx hb hK hP 0 3 rfl rfl (by decide) (by simp [vp_updL]) dL_law_513 ?_
  refine lv_iload hx hb dL_law_514 (lv_at hl 0 rfl) ?_
  refine lv_i2l (v := r0.toInt64) hx hb dL_law_516 rfl ?_
  refine wk_lcmpE hx hb rfl dL_law_517 ?_
  refine wk_if_eq (tgt := 523) hx hb dL_law_518 (by decide) (by omega) (fun _ => ?_) (fun c1 => absurd rfl c1)
  refine lv_goto (tgt := 953) hx hb dL_law_523 (by decide) ?_
  refine W.widen (k := cells + 1) (n := slots + 6) (Nat.le_succ _) (Nat.le_add_right slots 6) ?_
  exact kk H locs ls _ hP hD hS (lv_sub hl [2, 3, 4, 5, 6] rfl)
set_option maxRecDepth 100000 in
theorem lw_through_t1 {p : Program} {l : Launch} {e : Env} {s : State} {m : MethodId} {below : List Frame} {meth : Method} {c : Code} {b L : Nat} {xs : Nat → Int32} {D : va_G} {kI kZ kL kJ : ClassId} {Q : State → Prop} (C : lcA p l e s m meth c b L xs D kI kZ kL kJ) {H : Heap} {locs : List Loc} {ls : Array Slot} {cells slots : Nat} {g h ao : Nat} {i : Int} (hi : 0 ≤ i ∧ i + 3 < (L : Int)) {rX rM : Room} {WX WX' WM WM' : va_W} {q0 q1 q2 : Nat} {fsx fsm fsm' : List Value} {f : Nat → Int64} {r0 : Int32} (hg : WX[q0]? = some (g, .inr (6, fsx))) (hh : WM[q1]? = some (h, .inr (7, fsm))) (hh' : WM'[q2]? = some (h, .inr (7, fsm'))) (hcX : rX.cells = 1 ∧ rX.slots = 6 ∧ rX.frames + 1 + 1 ≤ 11 ∧ 8 + (5 + 11) + (8 + (4 + 11) + rX.locals) ≤ 390) (hcM : rM.cells = 0 ∧ rM.slots = 0 ∧ rM.frames + 1 ≤ 11 ∧ 8 + (6 + 11) + rM.locals ≤ 390)
    (hX : ∀ sz, CtT l yX6_through wsX6_through rX D vwCl (tyL kI kZ kL kJ) WX [.ref g, .int (iI (xz xs (i + 1))), .int (iI (xz xs (i + 2)))] "java/lang/IndexOutOfBoundsException" sz)
    (hM : ∀ sz, CtI l yX7_through wsX7_through rM D vwCl (tyL kI kZ kL kJ) WM [.ref h, .int (iI (xz xs (i + 1))), .int (iI (xz xs (i + 2)))] r0 WM' sz)
    (hT : ∀ sz, CtP l yX7_thrown wsX7_thrown { frames := 0, cells := 0, slots := 0, locals := 0 } D vwCl (tyL kI kZ kL kJ) WM' [.ref h] (iI 1) sz)
    (hroom : cells + 1 ≤ 601024 ∧ slots + 6 ≤ 7293000) (hP : va_P D vwCl ((oL kJ ao f :: WX) ++ WM) H) (hD : va_D (lA s) ((oL kJ ao f :: WX) ++ WM)) (hS : va_S (lA s) s.heap H locs) (hl : lv_has ls 7 [(0, .ref b), (1, .ref g), (2, .ref h), (3, .ref ao), (4, .int (iI i))])
    (kk : ∀ (H : Heap) (locs : List Loc) (ls : Array Slot) (f : Nat → Int64), va_P D vwCl ((oL kJ ao f :: WX) ++ WM') H → va_D (lA s) ((oL kJ ao f :: WX) ++ WM') → va_S (lA s) s.heap H locs → lv_has ls 7 [(0, .ref b), (1, .ref g), (2, .ref h), (3, .ref ao), (4, .int (iI i))] → W p l e room_1 s m #[Value.ref b] below meth c H locs (cells + 1) (slots + 6) Q (F0 m 953 ls [])) : W p l e room_1 s m #[Value.ref b] below meth c H locs cells slots Q (F0 m 458 ls []) := by
  obtain ⟨hx, hb, hr, hml, hown, hts, hX0, hbl, hlocks, hadm, hxT, hzT, hK, hL⟩ := C
  have hA : ∀ q, s.heap.size ≤ q → lA s q := fun q h => h
  have hbA : ¬ lA s b := fun h => by have h2 : s.heap.size ≤ b := h; omega
  have hr0 : cells ≤ 601024 ∧ slots ≤ 7293000 := by omega
  refine lv_aload_n hx hb dL_law_458 rfl (lv_at hl 1 rfl) ?_
  refine lv_aload_n hx hb dL_law_459 rfl (lv_at hl 0 rfl) ?_
  refine lv_iload hx hb dL_law_460 (lv_at hl 4 rfl) ?_
  refine lv_iconst (v := iI 1) hx hb dL_law_462 rfl ?_
  refine wk_iadd hx hb dL_law_463 ?_
  refine wk_sld hx hb hX0 hbl hbA hS (by omega) (by omega) rfl dL_law_464 ?_
  refine lv_aload_n hx hb dL_law_465 rfl (lv_at hl 0 rfl) ?_
  refine lv_iload hx hb dL_law_466 (lv_at hl 4 rfl) ?_
  refine lv_iconst (v := iI 2) hx hb dL_law_468 rfl ?_
  refine wk_iadd hx hb dL_law_469 ?_
  refine wk_sld hx hb hX0 hbl hbA hS (by omega) (by omega) rfl dL_law_470 ?_
  refine lv_aload_n hx hb dL_law_471 rfl (lv_at hl 3 rfl) ?_
  refine ck_backW (wh_runS (As := [.ref g, .int (iI (xz xs (i + 1))), .int (iI (xz xs (i + 2))), .ref ao]) (rest := []) ⟨hx, hb, hml, hown, hts⟩ (wL_through_t1 (r0 := 0) (u0 := []) (ao := ao) (f := f) H.size hg hcX.1 hcX.2.1 hX) (cwx 4 hts (fun w h => tb_tbl h) wd_501 wd_499 wd_500 wd_32 rfl rfl (by decide +kernel) ⟨hcX.2.2.1, hcX.2.2.2⟩) (ck_preW (lz_pre hzT hS) hxT hK hP hD (List.range' 0 (oL kJ ao f :: WX).length) (ap_C _ _) (tl_nd _ _)) rfl rfl hl.1 rfl (lv_room (Nat.le_of_ble_eq_true rfl)) dL_law_472 hroom) hP hD hS hA (List.range' 0 (oL kJ ao f :: WX).length) (List.range' (oL kJ ao f :: WX).length WM.length) (ap_C _ _) (ap_R _ _) (tl_nd _ _) (ap_dis _ _) (ws' := WM ++ ((oL kJ ao f) :: WX)) rfl (fun H locs hP hD hS => ?_)
  refine lv_istore (lv' := [(5, .int (iI 1)), (0, .ref b), (1, .ref g), (2, .ref h), (3, .ref ao), (4, .int (iI i))]) hx hb dL_law_475 hl (by decide) rfl (fun ls hl => ?_)
  have hr0 : cells + 1 ≤ 601024 ∧ slots + 6 ≤ 7293000 := hroom
  refine lv_aload_n hx hb dL_law_477 rfl (lv_at hl 3 rfl) ?_
  refine lv_aload_n hx hb dL_law_478 rfl (lv_at hl 1 rfl) ?_
  refine lv_iload hx hb dL_law_479 (lv_at hl 5 rfl) ?_
  refine lv_iconst (v := iI 1) hx hb dL_law_481 rfl ?_
  refine wk_iadd hx hb dL_law_482 ?_
  refine wk_sld hx hb hX0 hbl hbA hS (by omega) (by omega) rfl dL_law_483 ?_
  refine lv_aload_n hx hb dL_law_484 rfl (lv_at hl 1 rfl) ?_
  refine lv_iload hx hb dL_law_485 (lv_at hl 5 rfl) ?_
  refine lv_iconst (v := iI 2) hx hb dL_law_487 rfl ?_
  refine wk_iadd hx hb dL_law_488 ?_
  refine wk_sld hx hb hX0 hbl hbA hS (by omega) (by omega) rfl dL_law_489 ?_
  refine ck_backI (va_runV (As := [.int (iI (xz xs (i + 1))), .int (iI (xz xs (i + 2)))]) (rest := []) ⟨hx, hb, hml, hown, hts⟩ (hM H.size) (cwV 2 hts (gd_V (fun w h => tb_tbl h) wd_747 wd_748 wd_749 wd_41 wd_750) rfl hcM.1 hcM.2.1 (by decide +kernel) ⟨hcM.2.2.1, hcM.2.2.2⟩) (ck_preV hxT hK hP hD (List.range' 0 WM.length) (ap_C _ _) (tl_nd _ _) (q0 := q1) rfl rfl hh) rfl rfl hl.1 rfl (lv_room (Nat.le_of_ble_eq_true rfl)) dL_law_490 ⟨hr0.1, hr0.2⟩) hP hD hS hA (List.range' 0 WM.length) (List.range' WM.length ((oL kJ ao f) :: WX).length) (ap_C _ _) (ap_R _ _) (tl_nd _ _) (ap_dis _ _) (ws' := ((oL kJ ao f) :: WX) ++ WM') rfl (fun H locs hP hD hS => ?_)
  refine lv_istore (lv' := [(6, .int r0), (5, .int (iI 1)), (0, .ref b), (1, .ref g), (2, .ref h), (3, .ref ao), (4, .int (iI i))]) hx hb dL_law_493 hl (by decide) rfl (fun ls hl => ?_)
  refine lv_aload_n hx hb dL_law_495 rfl (lv_at hl 4 rfl) ?_
  refine pk_callI (va_runV (As := []) (rest := []) ⟨hx, hb, hml, hown, hts⟩ (hT H.size) (cwV 0 hts (gd_V (fun w h => tb_tbl h) wd_688 wd_689 wd_690 wd_41 wd_691) rfl rfl rfl (by decide +kernel) ⟨Nat.le_of_ble_eq_true rfl, Nat.le_of_ble_eq_true rfl⟩) (ck_preV hxT hK hP hD (List.range' ((oL kJ ao f) :: WX).length WM'.length) (ap_R _ _) (tl_nd _ _) (q0 := q2) rfl rfl hh') rfl rfl hl.1 rfl (lv_room (Nat.le_of_ble_eq_true rfl)) dL_law_496 ⟨hr0.1, hr0.2⟩) ?_
  refine lv_iload hx hb dL_law_499 (lv_at hl 1 rfl) ?_
  refine wk_icmp_eq (tgt := 506) hx hb dL_law_501 (by decide) (by omega) (fun _ => ?_) (fun c1 => absurd rfl c1)
  refine lv_iload hx hb dL_law_506 (lv_at hl 1 rfl) ?_
  refine wk_if_ne (tgt := 523) hx hb dL_law_508 (by decide) (by omega) (fun _ => ?_) (fun c1 => absurd c1 (by decide))
  refine lv_goto (tgt := 953) hx hb dL_law_523 (by decide) ?_
  exact kk H locs ls _ hP hD hS (lv_sub hl [2, 3, 4, 5, 6] rfl)
set_option maxRecDepth 100000 in
theorem lw_through_t2 {p : Program} {l : Launch} {e : Env} {s : State} {m : MethodId} {below : List Frame} {meth : Method} {c : Code} {b L : Nat} {xs : Nat → Int32} {D : va_G} {kI kZ kL kJ : ClassId} {Q : State → Prop} (C : lcA p l e s m meth c b L xs D kI kZ kL kJ) {H : Heap} {locs : List Loc} {ls : Array Slot} {cells slots : Nat} {g h ao : Nat} {i : Int} (hi : 0 ≤ i ∧ i + 3 < (L : Int)) {rX rM : Room} {WX WX' WM WM' : va_W} {q0 q1 q2 : Nat} {fsx fsm fsm' : List Value} {f : Nat → Int64} {r0 : Int32} (hg : WX[q0]? = some (g, .inr (6, fsx))) (hh : WM[q1]? = some (h, .inr (7, fsm))) (hh' : WM'[q2]? = some (h, .inr (7, fsm'))) (hcX : rX.cells = 1 ∧ rX.slots = 6 ∧ rX.frames + 1 + 1 ≤ 11 ∧ 8 + (5 + 11) + (8 + (4 + 11) + rX.locals) ≤ 390) (hcM : rM.cells = 0 ∧ rM.slots = 0 ∧ rM.frames + 1 ≤ 11 ∧ 8 + (6 + 11) + rM.locals ≤ 390)
    (hX : ∀ sz, CtT l yX6_through wsX6_through rX D vwCl (tyL kI kZ kL kJ) WX [.ref g, .int (iI (xz xs (i + 1))), .int (iI (xz xs (i + 2)))] "java/lang/IllegalArgumentException" sz)
    (hM : ∀ sz, CtI l yX7_through wsX7_through rM D vwCl (tyL kI kZ kL kJ) WM [.ref h, .int (iI (xz xs (i + 1))), .int (iI (xz xs (i + 2)))] r0 WM' sz)
    (hT : ∀ sz, CtP l yX7_thrown wsX7_thrown { frames := 0, cells := 0, slots := 0, locals := 0 } D vwCl (tyL kI kZ kL kJ) WM' [.ref h] (iI 2) sz)
    (hroom : cells + 1 ≤ 601024 ∧ slots + 6 ≤ 7293000) (hP : va_P D vwCl ((oL kJ ao f :: WX) ++ WM) H) (hD : va_D (lA s) ((oL kJ ao f :: WX) ++ WM)) (hS : va_S (lA s) s.heap H locs) (hl : lv_has ls 7 [(0, .ref b), (1, .ref g), (2, .ref h), (3, .ref ao), (4, .int (iI i))])
    (kk : ∀ (H : Heap) (locs : List Loc) (ls : Array Slot) (f : Nat → Int64), va_P D vwCl ((oL kJ ao f :: WX) ++ WM') H → va_D (lA s) ((oL kJ ao f :: WX) ++ WM') → va_S (lA s) s.heap H locs → lv_has ls 7 [(0, .ref b), (1, .ref g), (2, .ref h), (3, .ref ao), (4, .int (iI i))] → W p l e room_1 s m #[Value.ref b] below meth c H locs (cells + 1) (slots + 6) Q (F0 m 953 ls [])) : W p l e room_1 s m #[Value.ref b] below meth c H locs cells slots Q (F0 m 458 ls []) := by
  obtain ⟨hx, hb, hr, hml, hown, hts, hX0, hbl, hlocks, hadm, hxT, hzT, hK, hL⟩ := C
  have hA : ∀ q, s.heap.size ≤ q → lA s q := fun q h => h
  have hbA : ¬ lA s b := fun h => by have h2 : s.heap.size ≤ b := h; omega
  have hr0 : cells ≤ 601024 ∧ slots ≤ 7293000 := by omega
  refine lv_aload_n hx hb dL_law_458 rfl (lv_at hl 1 rfl) ?_
  refine lv_aload_n hx hb dL_law_459 rfl (lv_at hl 0 rfl) ?_
  refine lv_iload hx hb dL_law_460 (lv_at hl 4 rfl) ?_
  refine lv_iconst (v := iI 1) hx hb dL_law_462 rfl ?_
  refine wk_iadd hx hb dL_law_463 ?_
  refine wk_sld hx hb hX0 hbl hbA hS (by omega) (by omega) rfl dL_law_464 ?_
  refine lv_aload_n hx hb dL_law_465 rfl (lv_at hl 0 rfl) ?_
  refine lv_iload hx hb dL_law_466 (lv_at hl 4 rfl) ?_
  refine lv_iconst (v := iI 2) hx hb dL_law_468 rfl ?_
  refine wk_iadd hx hb dL_law_469 ?_
  refine wk_sld hx hb hX0 hbl hbA hS (by omega) (by omega) rfl dL_law_470 ?_
  refine lv_aload_n hx hb dL_law_471 rfl (lv_at hl 3 rfl) ?_
  refine ck_backW (wh_runS (As := [.ref g, .int (iI (xz xs (i + 1))), .int (iI (xz xs (i + 2))), .ref ao]) (rest := []) ⟨hx, hb, hml, hown, hts⟩ (wL_through_t2 (r0 := 0) (u0 := []) (ao := ao) (f := f) H.size hg hcX.1 hcX.2.1 hX) (cwx 4 hts (fun w h => tb_tbl h) wd_501 wd_499 wd_500 wd_32 rfl rfl (by decide +kernel) ⟨hcX.2.2.1, hcX.2.2.2⟩) (ck_preW (lz_pre hzT hS) hxT hK hP hD (List.range' 0 (oL kJ ao f :: WX).length) (ap_C _ _) (tl_nd _ _)) rfl rfl hl.1 rfl (lv_room (Nat.le_of_ble_eq_true rfl)) dL_law_472 hroom) hP hD hS hA (List.range' 0 (oL kJ ao f :: WX).length) (List.range' (oL kJ ao f :: WX).length WM.length) (ap_C _ _) (ap_R _ _) (tl_nd _ _) (ap_dis _ _) (ws' := WM ++ ((oL kJ ao f) :: WX)) rfl (fun H locs hP hD hS => ?_)
  refine lv_istore (lv' := [(5, .int (iI 2)), (0, .ref b), (1, .ref g), (2, .ref h), (3, .ref ao), (4, .int (iI i))]) hx hb dL_law_475 hl (by decide) rfl (fun ls hl => ?_)
  have hr0 : cells + 1 ≤ 601024 ∧ slots + 6 ≤ 7293000 := hroom
  refine lv_aload_n hx hb dL_law_477 rfl (lv_at hl 3 rfl) ?_
  refine lv_aload_n hx hb dL_law_478 rfl (lv_at hl 1 rfl) ?_
  refine lv_iload hx hb dL_law_479 (lv_at hl 5 rfl) ?_
  refine lv_iconst (v := iI 1) hx hb dL_law_481 rfl ?_
  refine wk_iadd hx hb dL_law_482 ?_
  refine wk_sld hx hb hX0 hbl hbA hS (by omega) (by omega) rfl dL_law_483 ?_
  refine lv_aload_n hx hb dL_law_484 rfl (lv_at hl 1 rfl) ?_
  refine lv_iload hx hb dL_law_485 (lv_at hl 5 rfl) ?_
  refine lv_iconst (v := iI 2) hx hb dL_law_487 rfl ?_
  refine wk_iadd hx hb dL_law_488 ?_
  refine wk_sld hx hb hX0 hbl hbA hS (by omega) (by omega) rfl dL_law_489 ?_
  refine ck_backI (va_runV (As := [.int (iI (xz xs (i + 1))), .int (iI (xz xs (i + 2)))]) (rest := []) ⟨hx, hb, hml, hown, hts⟩ (hM H.size) (cwV 2 hts (gd_V (fun w h => tb_tbl h) wd_747 wd_748 wd_749 wd_41 wd_750) rfl hcM.1 hcM.2.1 (by decide +kernel) ⟨hcM.2.2.1, hcM.2.2.2⟩) (ck_preV hxT hK hP hD (List.range' 0 WM.length) (ap_C _ _) (tl_nd _ _) (q0 := q1) rfl rfl hh) rfl rfl hl.1 rfl (lv_room (Nat.le_of_ble_eq_true rfl)) dL_law_490 ⟨hr0.1, hr0.2⟩) hP hD hS hA (List.range' 0 WM.length) (List.range' WM.length ((oL kJ ao f) :: WX).length) (ap_C _ _) (ap_R _ _) (tl_nd _ _) (ap_dis _ _) (ws' := ((oL kJ ao f) :: WX) ++ WM') rfl (fun H locs hP hD hS => ?_)
  refine lv_istore (lv' := [(6, .int r0), (5, .int (iI 2)), (0, .ref b), (1, .ref g), (2, .ref h), (3, .ref ao), (4, .int (iI i))]) hx hb dL_law_493 hl (by decide) rfl (fun ls hl => ?_)
  refine lv_aload_n hx hb dL_law_495 rfl (lv_at hl 4 rfl) ?_
  refine pk_callI (va_runV (As := []) (rest := []) ⟨hx, hb, hml, hown, hts⟩ (hT H.size) (cwV 0 hts (gd_V (fun w h => tb_tbl h) wd_688 wd_689 wd_690 wd_41 wd_691) rfl rfl rfl (by decide +kernel) ⟨Nat.le_of_ble_eq_true rfl, Nat.le_of_ble_eq_true rfl⟩) (ck_preV hxT hK hP hD (List.range' ((oL kJ ao f) :: WX).length WM'.length) (ap_R _ _) (tl_nd _ _) (q0 := q2) rfl rfl hh') rfl rfl hl.1 rfl (lv_room (Nat.le_of_ble_eq_true rfl)) dL_law_496 ⟨hr0.1, hr0.2⟩) ?_
  refine lv_iload hx hb dL_law_499 (lv_at hl 1 rfl) ?_
  refine wk_icmp_eq (tgt := 506) hx hb dL_law_501 (by decide) (by omega) (fun _ => ?_) (fun c1 => absurd rfl c1)
  refine lv_iload hx hb dL_law_506 (lv_at hl 1 rfl) ?_
  refine wk_if_ne (tgt := 523) hx hb dL_law_508 (by decide) (by omega) (fun _ => ?_) (fun c1 => absurd c1 (by decide))
  refine lv_goto (tgt := 953) hx hb dL_law_523 (by decide) ?_
  exact kk H locs ls _ hP hD hS (lv_sub hl [2, 3, 4, 5, 6] rfl)
set_option maxRecDepth 100000 in
theorem lw_weigh_r {p : Program} {l : Launch} {e : Env} {s : State} {m : MethodId} {below : List Frame} {meth : Method} {c : Code} {b L : Nat} {xs : Nat → Int32} {D : va_G} {kI kZ kL kJ : ClassId} {Q : State → Prop} (C : lcA p l e s m meth c b L xs D kI kZ kL kJ) {H : Heap} {locs : List Loc} {ls : Array Slot} {cells slots : Nat} {g h ao : Nat} {i : Int} (hi : 0 ≤ i ∧ i + 3 < (L : Int)) {rX rM : Room} {WX WX' WM WM' : va_W} {q0 q1 q2 : Nat} {fsx fsm fsm' : List Value} {f : Nat → Int64} {r0 : Int32} (hg : WX[q0]? = some (g, .inr (6, fsx))) (hh : WM[q1]? = some (h, .inr (7, fsm))) (hh' : WM'[q2]? = some (h, .inr (7, fsm'))) (hcX : rX.cells = 0 ∧ rX.slots = 0 ∧ rX.frames + 1 + 1 ≤ 11 ∧ 8 + (6 + 11) + (8 + (5 + 11) + rX.locals) ≤ 390) (hcM : rM.cells = 0 ∧ rM.slots = 0 ∧ rM.frames + 1 ≤ 11 ∧ 8 + (9 + 11) + rM.locals ≤ 390)
    (hX : ∀ sz, CtI l yX6_weigh wsX6_weigh rX D vwCl (tyL kI kZ kL kJ) WX [.ref g, .int (iI (xz xs (i + 1))), .int (iI (xz xs (i + 2))), .int (iI (xz xs (i + 3)))] r0 WX' sz)
    (hM : ∀ sz, CtI l yX7_weigh wsX7_weigh rM D vwCl (tyL kI kZ kL kJ) WM [.ref h, .int (iI (xz xs (i + 1))), .int (iI (xz xs (i + 2))), .int (iI (xz xs (i + 3)))] r0 WM' sz)
    (hT : ∀ sz, CtP l yX7_thrown wsX7_thrown { frames := 0, cells := 0, slots := 0, locals := 0 } D vwCl (tyL kI kZ kL kJ) WM' [.ref h] (iI 0) sz)
    (hroom : cells + 1 ≤ 601024 ∧ slots + 6 ≤ 7293000) (hP : va_P D vwCl ((oL kJ ao f :: WX) ++ WM) H) (hD : va_D (lA s) ((oL kJ ao f :: WX) ++ WM)) (hS : va_S (lA s) s.heap H locs) (hl : lv_has ls 7 [(0, .ref b), (1, .ref g), (2, .ref h), (3, .ref ao), (4, .int (iI i))])
    (kk : ∀ (H : Heap) (locs : List Loc) (ls : Array Slot) (f : Nat → Int64), va_P D vwCl ((oL kJ ao f :: WX') ++ WM') H → va_D (lA s) ((oL kJ ao f :: WX') ++ WM') → va_S (lA s) s.heap H locs → lv_has ls 7 [(0, .ref b), (1, .ref g), (2, .ref h), (3, .ref ao), (4, .int (iI i))] → W p l e room_1 s m #[Value.ref b] below meth c H locs (cells + 1) (slots + 6) Q (F0 m 953 ls [])) : W p l e room_1 s m #[Value.ref b] below meth c H locs cells slots Q (F0 m 526 ls []) := by
  obtain ⟨hx, hb, hr, hml, hown, hts, hX0, hbl, hlocks, hadm, hxT, hzT, hK, hL⟩ := C
  have hA : ∀ q, s.heap.size ≤ q → lA s q := fun q h => h
  have hbA : ¬ lA s b := fun h => by have h2 : s.heap.size ≤ b := h; omega
  have hr0 : cells ≤ 601024 ∧ slots ≤ 7293000 := by omega
  refine lv_aload_n hx hb dL_law_526 rfl (lv_at hl 1 rfl) ?_
  refine lv_aload_n hx hb dL_law_527 rfl (lv_at hl 0 rfl) ?_
  refine lv_iload hx hb dL_law_528 (lv_at hl 4 rfl) ?_
  refine lv_iconst (v := iI 1) hx hb dL_law_530 rfl ?_
  refine wk_iadd hx hb dL_law_531 ?_
  refine wk_sld hx hb hX0 hbl hbA hS (by omega) (by omega) rfl dL_law_532 ?_
  refine lv_aload_n hx hb dL_law_533 rfl (lv_at hl 0 rfl) ?_
  refine lv_iload hx hb dL_law_534 (lv_at hl 4 rfl) ?_
  refine lv_iconst (v := iI 2) hx hb dL_law_536 rfl ?_
  refine wk_iadd hx hb dL_law_537 ?_
  refine wk_sld hx hb hX0 hbl hbA hS (by omega) (by omega) rfl dL_law_538 ?_
  refine lv_aload_n hx hb dL_law_539 rfl (lv_at hl 0 rfl) ?_
  refine lv_iload hx hb dL_law_540 (lv_at hl 4 rfl) ?_
  refine lv_iconst (v := iI 3) hx hb dL_law_542 rfl ?_
  refine wk_iadd hx hb dL_law_543 ?_
  refine wk_sld hx hb hX0 hbl hbA hS (by omega) (by omega) rfl dL_law_544 ?_
  refine lv_aload_n hx hb dL_law_545 rfl (lv_at hl 3 rfl) ?_
  refine ck_backW (wh_runS (As := [.ref g, .int (iI (xz xs (i + 1))), .int (iI (xz xs (i + 2))), .int (iI (xz xs (i + 3))), .ref ao]) (rest := []) ⟨hx, hb, hml, hown, hts⟩ (wL_weigh_r (ao := ao) (f := f) H.size hg hcX.1 hcX.2.1 hX) (cwx 5 hts (fun w h => tb_tbl h) wd_558 wd_556 wd_557 wd_32 rfl rfl (by decide +kernel) ⟨hcX.2.2.1, hcX.2.2.2⟩) (ck_preW (lz_pre hzT hS) hxT hK hP hD (List.range' 0 (oL kJ ao f :: WX).length) (ap_C _ _) (tl_nd _ _)) rfl rfl hl.1 rfl (lv_room (Nat.le_of_ble_eq_true rfl)) dL_law_546 ⟨hr0.1, hr0.2⟩) hP hD hS hA (List.range' 0 (oL kJ ao f :: WX).length) (List.range' (oL kJ ao f :: WX).length WM.length) (ap_C _ _) (ap_R _ _) (tl_nd _ _) (ap_dis _ _) (ws' := WM ++ ((oL kJ ao (vp_updL f 0 r0.toInt64)) :: WX')) rfl (fun H locs hP hD hS => ?_)
  refine lv_istore (lv' := [(5, .int (iI 0)), (0, .ref b), (1, .ref g), (2, .ref h), (3, .ref ao), (4, .int (iI i))]) hx hb dL_law_549 hl (by decide) rfl (fun ls hl => ?_)
  refine lv_aload_n hx hb dL_law_551 rfl (lv_at hl 3 rfl) ?_
  refine lv_aload_n hx hb dL_law_552 rfl (lv_at hl 1 rfl) ?_
  refine lv_iload hx hb dL_law_553 (lv_at hl 5 rfl) ?_
  refine lv_iconst (v := iI 1) hx hb dL_law_555 rfl ?_
  refine wk_iadd hx hb dL_law_556 ?_
  refine wk_sld hx hb hX0 hbl hbA hS (by omega) (by omega) rfl dL_law_557 ?_
  refine lv_aload_n hx hb dL_law_558 rfl (lv_at hl 1 rfl) ?_
  refine lv_iload hx hb dL_law_559 (lv_at hl 5 rfl) ?_
  refine lv_iconst (v := iI 2) hx hb dL_law_561 rfl ?_
  refine wk_iadd hx hb dL_law_562 ?_
  refine wk_sld hx hb hX0 hbl hbA hS (by omega) (by omega) rfl dL_law_563 ?_
  refine lv_aload_n hx hb dL_law_564 rfl (lv_at hl 1 rfl) ?_
  refine lv_iload hx hb dL_law_565 (lv_at hl 5 rfl) ?_
  refine lv_iconst (v := iI 3) hx hb dL_law_567 rfl ?_
  refine wk_iadd hx hb dL_law_568 ?_
  refine wk_sld hx hb hX0 hbl hbA hS (by omega) (by omega) rfl dL_law_569 ?_
  refine ck_backI (va_runV (As := [.int (iI (xz xs (i + 1))), .int (iI (xz xs (i + 2))), .int (iI (xz xs (i + 3)))]) (rest := []) ⟨hx, hb, hml, hown, hts⟩ (hM H.size) (cwV 3 hts (gd_V (fun w h => tb_tbl h) wd_779 wd_780 wd_781 wd_41 wd_782) rfl hcM.1 hcM.2.1 (by decide +kernel) ⟨hcM.2.2.1, hcM.2.2.2⟩) (ck_preV hxT hK hP hD (List.range' 0 WM.length) (ap_C _ _) (tl_nd _ _) (q0 := q1) rfl rfl hh) rfl rfl hl.1 rfl (lv_room (Nat.le_of_ble_eq_true rfl)) dL_law_570 ⟨hr0.1, hr0.2⟩) hP hD hS hA (List.range' 0 WM.length) (List.range' WM.length ((oL kJ ao (vp_updL f 0 r0.toInt64)) :: WX').length) (ap_C _ _) (ap_R _ _) (tl_nd _ _) (ap_dis _ _) (ws' := ((oL kJ ao (vp_updL f 0 r0.toInt64)) :: WX') ++ WM') rfl (fun H locs hP hD hS => ?_)
  refine lv_istore (lv' := [(6, .int r0), (5, .int (iI 0)), (0, .ref b), (1, .ref g), (2, .ref h), (3, .ref ao), (4, .int (iI i))]) hx hb dL_law_573 hl (by decide) rfl (fun ls hl => ?_)
  refine lv_aload_n hx hb dL_law_575 rfl (lv_at hl 4 rfl) ?_
  refine pk_callI (va_runV (As := []) (rest := []) ⟨hx, hb, hml, hown, hts⟩ (hT H.size) (cwV 0 hts (gd_V (fun w h => tb_tbl h) wd_688 wd_689 wd_690 wd_41 wd_691) rfl rfl rfl (by decide +kernel) ⟨Nat.le_of_ble_eq_true rfl, Nat.le_of_ble_eq_true rfl⟩) (ck_preV hxT hK hP hD (List.range' ((oL kJ ao (vp_updL f 0 r0.toInt64)) :: WX').length WM'.length) (ap_R _ _) (tl_nd _ _) (q0 := q2) rfl rfl hh') rfl rfl hl.1 rfl (lv_room (Nat.le_of_ble_eq_true rfl)) dL_law_576 ⟨hr0.1, hr0.2⟩) ?_
  refine lv_iload hx hb dL_law_579 (lv_at hl 1 rfl) ?_
  refine wk_icmp_eq (tgt := 586) hx hb dL_law_581 (by decide) (by omega) (fun _ => ?_) (fun c1 => absurd rfl c1)
  refine lv_iload hx hb dL_law_586 (lv_at hl 1 rfl) ?_
  refine wk_if_ne (tgt := 603) hx hb dL_law_588 (by decide) (by omega) (fun c1 => absurd rfl c1) (fun _ => ?_)
  refine lv_aload_n hx hb dL_law_591 rfl (lv_at hl 5 rfl) ?_
  refine lv_iconst (v := iI 0) hx hb dL_law_592 rfl ?_
  refine wk_lald (v := r0.toInt64) hx hb hK hP 0 3 rfl rfl (by decide) (by simp [vp_updL]) dL_law_593 ?_
  refine lv_iload hx hb dL_law_594 (lv_at hl 0 rfl) ?_
  refine lv_i2l (v := r0.toInt64) hx hb dL_law_596 rfl ?_
  refine wk_lcmpE hx hb rfl dL_law_597 ?_
  refine wk_if_eq (tgt := 603) hx hb dL_law_598 (by decide) (by omega) (fun _ => ?_) (fun c1 => absurd rfl c1)
  refine lv_goto (tgt := 953) hx hb dL_law_603 (by decide) ?_
  refine W.widen (k := cells + 1) (n := slots + 6) (Nat.le_succ _) (Nat.le_add_right slots 6) ?_
  exact kk H locs ls _ hP hD hS (lv_sub hl [2, 3, 4, 5, 6] rfl)
set_option maxRecDepth 100000 in
theorem lw_weigh_t1 {p : Program} {l : Launch} {e : Env} {s : State} {m : MethodId} {below : List Frame} {meth : Method} {c : Code} {b L : Nat} {xs : Nat → Int32} {D : va_G} {kI kZ kL kJ : ClassId} {Q : State → Prop} (C : lcA p l e s m meth c b L xs D kI kZ kL kJ) {H : Heap} {locs : List Loc} {ls : Array Slot} {cells slots : Nat} {g h ao : Nat} {i : Int} (hi : 0 ≤ i ∧ i + 3 < (L : Int)) {rX rM : Room} {WX WX' WM WM' : va_W} {q0 q1 q2 : Nat} {fsx fsm fsm' : List Value} {f : Nat → Int64} {r0 : Int32} (hg : WX[q0]? = some (g, .inr (6, fsx))) (hh : WM[q1]? = some (h, .inr (7, fsm))) (hh' : WM'[q2]? = some (h, .inr (7, fsm'))) (hcX : rX.cells = 1 ∧ rX.slots = 6 ∧ rX.frames + 1 + 1 ≤ 11 ∧ 8 + (6 + 11) + (8 + (5 + 11) + rX.locals) ≤ 390) (hcM : rM.cells = 0 ∧ rM.slots = 0 ∧ rM.frames + 1 ≤ 11 ∧ 8 + (9 + 11) + rM.locals ≤ 390)
    (hX : ∀ sz, CtT l yX6_weigh wsX6_weigh rX D vwCl (tyL kI kZ kL kJ) WX [.ref g, .int (iI (xz xs (i + 1))), .int (iI (xz xs (i + 2))), .int (iI (xz xs (i + 3)))] "java/lang/IndexOutOfBoundsException" sz)
    (hM : ∀ sz, CtI l yX7_weigh wsX7_weigh rM D vwCl (tyL kI kZ kL kJ) WM [.ref h, .int (iI (xz xs (i + 1))), .int (iI (xz xs (i + 2))), .int (iI (xz xs (i + 3)))] r0 WM' sz)
    (hT : ∀ sz, CtP l yX7_thrown wsX7_thrown { frames := 0, cells := 0, slots := 0, locals := 0 } D vwCl (tyL kI kZ kL kJ) WM' [.ref h] (iI 1) sz)
    (hroom : cells + 1 ≤ 601024 ∧ slots + 6 ≤ 7293000) (hP : va_P D vwCl ((oL kJ ao f :: WX) ++ WM) H) (hD : va_D (lA s) ((oL kJ ao f :: WX) ++ WM)) (hS : va_S (lA s) s.heap H locs) (hl : lv_has ls 7 [(0, .ref b), (1, .ref g), (2, .ref h), (3, .ref ao), (4, .int (iI i))])
    (kk : ∀ (H : Heap) (locs : List Loc) (ls : Array Slot) (f : Nat → Int64), va_P D vwCl ((oL kJ ao f :: WX) ++ WM') H → va_D (lA s) ((oL kJ ao f :: WX) ++ WM') → va_S (lA s) s.heap H locs → lv_has ls 7 [(0, .ref b), (1, .ref g), (2, .ref h), (3, .ref ao), (4, .int (iI i))] → W p l e room_1 s m #[Value.ref b] below meth c H locs (cells + 1) (slots + 6) Q (F0 m 953 ls [])) : W p l e room_1 s m #[Value.ref b] below meth c H locs cells slots Q (F0 m 526 ls []) := by
  obtain ⟨hx, hb, hr, hml, hown, hts, hX0, hbl, hlocks, hadm, hxT, hzT, hK, hL⟩ := C
  have hA : ∀ q, s.heap.size ≤ q → lA s q := fun q h => h
  have hbA : ¬ lA s b := fun h => by have h2 : s.heap.size ≤ b := h; omega
  have hr0 : cells ≤ 601024 ∧ slots ≤ 7293000 := by omega
  refine lv_aload_n hx hb dL_law_526 rfl (lv_at hl 1 rfl) ?_
  refine lv_aload_n hx hb dL_law_527 rfl (lv_at hl 0 rfl) ?_
  refine lv_iload hx hb dL_law_528 (lv_at hl 4 rfl) ?_
  refine lv_iconst (v := iI 1) hx hb dL_law_530 rfl ?_
  refine wk_iadd hx hb dL_law_531 ?_
  refine wk_sld hx hb hX0 hbl hbA hS (by omega) (by omega) rfl dL_law_532 ?_
  refine lv_aload_n hx hb dL_law_533 rfl (lv_at hl 0 rfl) ?_
  refine lv_iload hx hb dL_law_534 (lv_at hl 4 rfl) ?_
  refine lv_iconst (v := iI 2) hx hb dL_law_536 rfl ?_
  refine wk_iadd hx hb dL_law_537 ?_
  refine wk_sld hx hb hX0 hbl hbA hS (by omega) (by omega) rfl dL_law_538 ?_
  refine lv_aload_n hx hb dL_law_539 rfl (lv_at hl 0 rfl) ?_
  refine lv_iload hx hb dL_law_540 (lv_at hl 4 rfl) ?_
  refine lv_iconst (v := iI 3) hx hb dL_law_542 rfl ?_
  refine wk_iadd hx hb dL_law_543 ?_
  refine wk_sld hx hb hX0 hbl hbA hS (by omega) (by omega) rfl dL_law_544 ?_
  refine lv_aload_n hx hb dL_law_545 rfl (lv_at hl 3 rfl) ?_
  refine ck_backW (wh_runS (As := [.ref g, .int (iI (xz xs (i + 1))), .int (iI (xz xs (i + 2))), .int (iI (xz xs (i + 3))), .ref ao]) (rest := []) ⟨hx, hb, hml, hown, hts⟩ (wL_weigh_t1 (r0 := 0) (u0 := []) (ao := ao) (f := f) H.size hg hcX.1 hcX.2.1 hX) (cwx 5 hts (fun w h => tb_tbl h) wd_558 wd_556 wd_557 wd_32 rfl rfl (by decide +kernel) ⟨hcX.2.2.1, hcX.2.2.2⟩) (ck_preW (lz_pre hzT hS) hxT hK hP hD (List.range' 0 (oL kJ ao f :: WX).length) (ap_C _ _) (tl_nd _ _)) rfl rfl hl.1 rfl (lv_room (Nat.le_of_ble_eq_true rfl)) dL_law_546 hroom) hP hD hS hA (List.range' 0 (oL kJ ao f :: WX).length) (List.range' (oL kJ ao f :: WX).length WM.length) (ap_C _ _) (ap_R _ _) (tl_nd _ _) (ap_dis _ _) (ws' := WM ++ ((oL kJ ao f) :: WX)) rfl (fun H locs hP hD hS => ?_)
  refine lv_istore (lv' := [(5, .int (iI 1)), (0, .ref b), (1, .ref g), (2, .ref h), (3, .ref ao), (4, .int (iI i))]) hx hb dL_law_549 hl (by decide) rfl (fun ls hl => ?_)
  have hr0 : cells + 1 ≤ 601024 ∧ slots + 6 ≤ 7293000 := hroom
  refine lv_aload_n hx hb dL_law_551 rfl (lv_at hl 3 rfl) ?_
  refine lv_aload_n hx hb dL_law_552 rfl (lv_at hl 1 rfl) ?_
  refine lv_iload hx hb dL_law_553 (lv_at hl 5 rfl) ?_
  refine lv_iconst (v := iI 1) hx hb dL_law_555 rfl ?_
  refine wk_iadd hx hb dL_law_556 ?_
  refine wk_sld hx hb hX0 hbl hbA hS (by omega) (by omega) rfl dL_law_557 ?_
  refine lv_aload_n hx hb dL_law_558 rfl (lv_at hl 1 rfl) ?_
  refine lv_iload hx hb dL_law_559 (lv_at hl 5 rfl) ?_
  refine lv_iconst (v := iI 2) hx hb dL_law_561 rfl ?_
  refine wk_iadd hx hb dL_law_562 ?_
  refine wk_sld hx hb hX0 hbl hbA hS (by omega) (by omega) rfl dL_law_563 ?_
  refine lv_aload_n hx hb dL_law_564 rfl (lv_at hl 1 rfl) ?_
  refine lv_iload hx hb dL_law_565 (lv_at hl 5 rfl) ?_
  refine lv_iconst (v := iI 3) hx hb dL_law_567 rfl ?_
  refine wk_iadd hx hb dL_law_568 ?_
  refine wk_sld hx hb hX0 hbl hbA hS (by omega) (by omega) rfl dL_law_569 ?_
  refine ck_backI (va_runV (As := [.int (iI (xz xs (i + 1))), .int (iI (xz xs (i + 2))), .int (iI (xz xs (i + 3)))]) (rest := []) ⟨hx, hb, hml, hown, hts⟩ (hM H.size) (cwV 3 hts (gd_V (fun w h => tb_tbl h) wd_779 wd_780 wd_781 wd_41 wd_782) rfl hcM.1 hcM.2.1 (by decide +kernel) ⟨hcM.2.2.1, hcM.2.2.2⟩) (ck_preV hxT hK hP hD (List.range' 0 WM.length) (ap_C _ _) (tl_nd _ _) (q0 := q1) rfl rfl hh) rfl rfl hl.1 rfl (lv_room (Nat.le_of_ble_eq_true rfl)) dL_law_570 ⟨hr0.1, hr0.2⟩) hP hD hS hA (List.range' 0 WM.length) (List.range' WM.length ((oL kJ ao f) :: WX).length) (ap_C _ _) (ap_R _ _) (tl_nd _ _) (ap_dis _ _) (ws' := ((oL kJ ao f) :: WX) ++ WM') rfl (fun H locs hP hD hS => ?_)
  refine lv_istore (lv' := [(6, .int r0), (5, .int (iI 1)), (0, .ref b), (1, .ref g), (2, .ref h), (3, .ref ao), (4, .int (iI i))]) hx hb dL_law_573 hl (by decide) rfl (fun ls hl => ?_)
  refine lv_aload_n hx hb dL_law_575 rfl (lv_at hl 4 rfl) ?_
  refine pk_callI (va_runV (As := []) (rest := []) ⟨hx, hb, hml, hown, hts⟩ (hT H.size) (cwV 0 hts (gd_V (fun w h => tb_tbl h) wd_688 wd_689 wd_690 wd_41 wd_691) rfl rfl rfl (by decide +kernel) ⟨Nat.le_of_ble_eq_true rfl, Nat.le_of_ble_eq_true rfl⟩) (ck_preV hxT hK hP hD (List.range' ((oL kJ ao f) :: WX).length WM'.length) (ap_R _ _) (tl_nd _ _) (q0 := q2) rfl rfl hh') rfl rfl hl.1 rfl (lv_room (Nat.le_of_ble_eq_true rfl)) dL_law_576 ⟨hr0.1, hr0.2⟩) ?_
  refine lv_iload hx hb dL_law_579 (lv_at hl 1 rfl) ?_
  refine wk_icmp_eq (tgt := 586) hx hb dL_law_581 (by decide) (by omega) (fun _ => ?_) (fun c1 => absurd rfl c1)
  refine lv_iload hx hb dL_law_586 (lv_at hl 1 rfl) ?_
  refine wk_if_ne (tgt := 603) hx hb dL_law_588 (by decide) (by omega) (fun _ => ?_) (fun c1 => absurd c1 (by decide))
  refine lv_goto (tgt := 953) hx hb dL_law_603 (by decide) ?_
  exact kk H locs ls _ hP hD hS (lv_sub hl [2, 3, 4, 5, 6] rfl)
set_option maxRecDepth 100000 in
theorem lw_weigh_t2 {p : Program} {l : Launch} {e : Env} {s : State} {m : MethodId} {below : List Frame} {meth : Method} {c : Code} {b L : Nat} {xs : Nat → Int32} {D : va_G} {kI kZ kL kJ : ClassId} {Q : State → Prop} (C : lcA p l e s m meth c b L xs D kI kZ kL kJ) {H : Heap} {locs : List Loc} {ls : Array Slot} {cells slots : Nat} {g h ao : Nat} {i : Int} (hi : 0 ≤ i ∧ i + 3 < (L : Int)) {rX rM : Room} {WX WX' WM WM' : va_W} {q0 q1 q2 : Nat} {fsx fsm fsm' : List Value} {f : Nat → Int64} {r0 : Int32} (hg : WX[q0]? = some (g, .inr (6, fsx))) (hh : WM[q1]? = some (h, .inr (7, fsm))) (hh' : WM'[q2]? = some (h, .inr (7, fsm'))) (hcX : rX.cells = 1 ∧ rX.slots = 6 ∧ rX.frames + 1 + 1 ≤ 11 ∧ 8 + (6 + 11) + (8 + (5 + 11) + rX.locals) ≤ 390) (hcM : rM.cells = 0 ∧ rM.slots = 0 ∧ rM.frames + 1 ≤ 11 ∧ 8 + (9 + 11) + rM.locals ≤ 390)
    (hX : ∀ sz, CtT l yX6_weigh wsX6_weigh rX D vwCl (tyL kI kZ kL kJ) WX [.ref g, .int (iI (xz xs (i + 1))), .int (iI (xz xs (i + 2))), .int (iI (xz xs (i + 3)))] "java/lang/IllegalArgumentException" sz)
    (hM : ∀ sz, CtI l yX7_weigh wsX7_weigh rM D vwCl (tyL kI kZ kL kJ) WM [.ref h, .int (iI (xz xs (i + 1))), .int (iI (xz xs (i + 2))), .int (iI (xz xs (i + 3)))] r0 WM' sz)
    (hT : ∀ sz, CtP l yX7_thrown wsX7_thrown { frames := 0, cells := 0, slots := 0, locals := 0 } D vwCl (tyL kI kZ kL kJ) WM' [.ref h] (iI 2) sz)
    (hroom : cells + 1 ≤ 601024 ∧ slots + 6 ≤ 7293000) (hP : va_P D vwCl ((oL kJ ao f :: WX) ++ WM) H) (hD : va_D (lA s) ((oL kJ ao f :: WX) ++ WM)) (hS : va_S (lA s) s.heap H locs) (hl : lv_has ls 7 [(0, .ref b), (1, .ref g), (2, .ref h), (3, .ref ao), (4, .int (iI i))])
    (kk : ∀ (H : Heap) (locs : List Loc) (ls : Array Slot) (f : Nat → Int64), va_P D vwCl ((oL kJ ao f :: WX) ++ WM') H → va_D (lA s) ((oL kJ ao f :: WX) ++ WM') → va_S (lA s) s.heap H locs → lv_has ls 7 [(0, .ref b), (1, .ref g), (2, .ref h), (3, .ref ao), (4, .int (iI i))] → W p l e room_1 s m #[Value.ref b] below meth c H locs (cells + 1) (slots + 6) Q (F0 m 953 ls [])) : W p l e room_1 s m #[Value.ref b] below meth c H locs cells slots Q (F0 m 526 ls []) := by
  obtain ⟨hx, hb, hr, hml, hown, hts, hX0, hbl, hlocks, hadm, hxT, hzT, hK, hL⟩ := C
  have hA : ∀ q, s.heap.size ≤ q → lA s q := fun q h => h
  have hbA : ¬ lA s b := fun h => by have h2 : s.heap.size ≤ b := h; omega
  have hr0 : cells ≤ 601024 ∧ slots ≤ 7293000 := by omega
  refine lv_aload_n hx hb dL_law_526 rfl (lv_at hl 1 rfl) ?_
  refine lv_aload_n hx hb dL_law_527 rfl (lv_at hl 0 rfl) ?_
  refine lv_iload hx hb dL_law_528 (lv_at hl 4 rfl) ?_
  refine lv_iconst (v := iI 1) hx hb dL_law_530 rfl ?_
  refine wk_iadd hx hb dL_law_531 ?_
  refine wk_sld hx hb hX0 hbl hbA hS (by omega) (by omega) rfl dL_law_532 ?_
  refine lv_aload_n hx hb dL_law_533 rfl (lv_at hl 0 rfl) ?_
  refine lv_iload hx hb dL_law_534 (lv_at hl 4 rfl) ?_
  refine lv_iconst (v := iI 2) hx hb dL_law_536 rfl ?_
  refine wk_iadd hx hb dL_law_537 ?_
  refine wk_sld hx hb hX0 hbl hbA hS (by omega) (by omega) rfl dL_law_538 ?_
  refine lv_aload_n hx hb dL_law_539 rfl (lv_at hl 0 rfl) ?_
  refine lv_iload hx hb dL_law_540 (lv_at hl 4 rfl) ?_
  refine lv_iconst (v := iI 3) hx hb dL_law_542 rfl ?_
  refine wk_iadd hx hb dL_law_543 ?_
  refine wk_sld hx hb hX0 hbl hbA hS (by omega) (by omega) rfl dL_law_544 ?_
  refine lv_aload_n hx hb dL_law_545 rfl (lv_at hl 3 rfl) ?_
  refine ck_backW (wh_runS (As := [.ref g, .int (iI (xz xs (i + 1))), .int (iI (xz xs (i + 2))), .int (iI (xz xs (i + 3))), .ref ao]) (rest := []) ⟨hx, hb, hml, hown, hts⟩ (wL_weigh_t2 (r0 := 0) (u0 := []) (ao := ao) (f := f) H.size hg hcX.1 hcX.2.1 hX) (cwx 5 hts (fun w h => tb_tbl h) wd_558 wd_556 wd_557 wd_32 rfl rfl (by decide +kernel) ⟨hcX.2.2.1, hcX.2.2.2⟩) (ck_preW (lz_pre hzT hS) hxT hK hP hD (List.range' 0 (oL kJ ao f :: WX).length) (ap_C _ _) (tl_nd _ _)) rfl rfl hl.1 rfl (lv_room (Nat.le_of_ble_eq_true rfl)) dL_law_546 hroom) hP hD hS hA (List.range' 0 (oL kJ ao f :: WX).length) (List.range' (oL kJ ao f :: WX).length WM.length) (ap_C _ _) (ap_R _ _) (tl_nd _ _) (ap_dis _ _) (ws' := WM ++ ((oL kJ ao f) :: WX)) rfl (fun H locs hP hD hS => ?_)
  refine lv_istore (lv' := [(5, .int (iI 2)), (0, .ref b), (1, .ref g), (2, .ref h), (3, .ref ao), (4, .int (iI i))]) hx hb dL_law_549 hl (by decide) rfl (fun ls hl => ?_)
  have hr0 : cells + 1 ≤ 601024 ∧ slots + 6 ≤ 7293000 := hroom
  refine lv_aload_n hx hb dL_law_551 rfl (lv_at hl 3 rfl) ?_
  refine lv_aload_n hx hb dL_law_552 rfl (lv_at hl 1 rfl) ?_
  refine lv_iload hx hb dL_law_553 (lv_at hl 5 rfl) ?_
  refine lv_iconst (v := iI 1) hx hb dL_law_555 rfl ?_
  refine wk_iadd hx hb dL_law_556 ?_
  refine wk_sld hx hb hX0 hbl hbA hS (by omega) (by omega) rfl dL_law_557 ?_
  refine lv_aload_n hx hb dL_law_558 rfl (lv_at hl 1 rfl) ?_
  refine lv_iload hx hb dL_law_559 (lv_at hl 5 rfl) ?_
  refine lv_iconst (v := iI 2) hx hb dL_law_561 rfl ?_
  refine wk_iadd hx hb dL_law_562 ?_
  refine wk_sld hx hb hX0 hbl hbA hS (by omega) (by omega) rfl dL_law_563 ?_
  refine lv_aload_n hx hb dL_law_564 rfl (lv_at hl 1 rfl) ?_
  refine lv_iload hx hb dL_law_565 (lv_at hl 5 rfl) ?_
  refine lv_iconst (v := iI 3) hx hb dL_law_567 rfl ?_
  refine wk_iadd hx hb dL_law_568 ?_
  refine wk_sld hx hb hX0 hbl hbA hS (by omega) (by omega) rfl dL_law_569 ?_
  refine ck_backI (va_runV (As := [.int (iI (xz xs (i + 1))), .int (iI (xz xs (i + 2))), .int (iI (xz xs (i + 3)))]) (rest := []) ⟨hx, hb, hml, hown, hts⟩ (hM H.size) (cwV 3 hts (gd_V (fun w h => tb_tbl h) wd_779 wd_780 wd_781 wd_41 wd_782) rfl hcM.1 hcM.2.1 (by decide +kernel) ⟨hcM.2.2.1, hcM.2.2.2⟩) (ck_preV hxT hK hP hD (List.range' 0 WM.length) (ap_C _ _) (tl_nd _ _) (q0 := q1) rfl rfl hh) rfl rfl hl.1 rfl (lv_room (Nat.le_of_ble_eq_true rfl)) dL_law_570 ⟨hr0.1, hr0.2⟩) hP hD hS hA (List.range' 0 WM.length) (List.range' WM.length ((oL kJ ao f) :: WX).length) (ap_C _ _) (ap_R _ _) (tl_nd _ _) (ap_dis _ _) (ws' := ((oL kJ ao f) :: WX) ++ WM') rfl (fun H locs hP hD hS => ?_)
  refine lv_istore (lv' := [(6, .int r0), (5, .int (iI 2)), (0, .ref b), (1, .ref g), (2, .ref h), (3, .ref ao), (4, .int (iI i))]) hx hb dL_law_573 hl (by decide) rfl (fun ls hl => ?_)
  refine lv_aload_n hx hb dL_law_575 rfl (lv_at hl 4 rfl) ?_
  refine pk_callI (va_runV (As := []) (rest := []) ⟨hx, hb, hml, hown, hts⟩ (hT H.size) (cwV 0 hts (gd_V (fun w h => tb_tbl h) wd_688 wd_689 wd_690 wd_41 wd_691) rfl rfl rfl (by decide +kernel) ⟨Nat.le_of_ble_eq_true rfl, Nat.le_of_ble_eq_true rfl⟩) (ck_preV hxT hK hP hD (List.range' ((oL kJ ao f) :: WX).length WM'.length) (ap_R _ _) (tl_nd _ _) (q0 := q2) rfl rfl hh') rfl rfl hl.1 rfl (lv_room (Nat.le_of_ble_eq_true rfl)) dL_law_576 ⟨hr0.1, hr0.2⟩) ?_
  refine lv_iload hx hb dL_law_579 (lv_at hl 1 rfl) ?_
  refine wk_icmp_eq (tgt := 586) hx hb dL_law_581 (by decide) (by omega) (fun _ => ?_) (fun c1 => absurd rfl c1)
  refine lv_iload hx hb dL_law_586 (lv_at hl 1 rfl) ?_
  refine wk_if_ne (tgt := 603) hx hb dL_law_588 (by decide) (by omega) (fun _ => ?_) (fun c1 => absurd c1 (by decide))
  refine lv_goto (tgt := 953) hx hb dL_law_603 (by decide) ?_
  exact kk H locs ls _ hP hD hS (lv_sub hl [2, 3, 4, 5, 6] rfl)
set_option maxRecDepth 100000 in
theorem lw_noShow_r {p : Program} {l : Launch} {e : Env} {s : State} {m : MethodId} {below : List Frame} {meth : Method} {c : Code} {b L : Nat} {xs : Nat → Int32} {D : va_G} {kI kZ kL kJ : ClassId} {Q : State → Prop} (C : lcA p l e s m meth c b L xs D kI kZ kL kJ) {H : Heap} {locs : List Loc} {ls : Array Slot} {cells slots : Nat} {g h ao : Nat} {i : Int} (hi : 0 ≤ i ∧ i + 3 < (L : Int)) {rX rM : Room} {WX WX' WM WM' : va_W} {q0 q1 q2 : Nat} {fsx fsm fsm' : List Value} {f : Nat → Int64} {r0 : Int32} (hg : WX[q0]? = some (g, .inr (6, fsx))) (hh : WM[q1]? = some (h, .inr (7, fsm))) (hh' : WM'[q2]? = some (h, .inr (7, fsm'))) (hcX : rX.cells = 0 ∧ rX.slots = 0 ∧ rX.frames + 1 + 1 ≤ 11 ∧ 8 + (4 + 11) + (8 + (4 + 11) + rX.locals) ≤ 390) (hcM : rM.cells = 0 ∧ rM.slots = 0 ∧ rM.frames + 1 ≤ 11 ∧ 8 + (4 + 11) + rM.locals ≤ 390)
    (hX : ∀ sz, CtI l yX6_noShow wsX6_noShow rX D vwCl (tyL kI kZ kL kJ) WX [.ref g, .int (iI (xz xs (i + 1)))] r0 WX' sz)
    (hM : ∀ sz, CtI l yX7_noShow wsX7_noShow rM D vwCl (tyL kI kZ kL kJ) WM [.ref h, .int (iI (xz xs (i + 1)))] r0 WM' sz)
    (hT : ∀ sz, CtP l yX7_thrown wsX7_thrown { frames := 0, cells := 0, slots := 0, locals := 0 } D vwCl (tyL kI kZ kL kJ) WM' [.ref h] (iI 0) sz)
    (hroom : cells + 1 ≤ 601024 ∧ slots + 6 ≤ 7293000) (hP : va_P D vwCl ((oL kJ ao f :: WX) ++ WM) H) (hD : va_D (lA s) ((oL kJ ao f :: WX) ++ WM)) (hS : va_S (lA s) s.heap H locs) (hl : lv_has ls 7 [(0, .ref b), (1, .ref g), (2, .ref h), (3, .ref ao), (4, .int (iI i))])
    (kk : ∀ (H : Heap) (locs : List Loc) (ls : Array Slot) (f : Nat → Int64), va_P D vwCl ((oL kJ ao f :: WX') ++ WM') H → va_D (lA s) ((oL kJ ao f :: WX') ++ WM') → va_S (lA s) s.heap H locs → lv_has ls 7 [(0, .ref b), (1, .ref g), (2, .ref h), (3, .ref ao), (4, .int (iI i))] → W p l e room_1 s m #[Value.ref b] below meth c H locs (cells + 1) (slots + 6) Q (F0 m 953 ls [])) : W p l e room_1 s m #[Value.ref b] below meth c H locs cells slots Q (F0 m 631 ls []) := by
  obtain ⟨hx, hb, hr, hml, hown, hts, hX0, hbl, hlocks, hadm, hxT, hzT, hK, hL⟩ := C
  have hA : ∀ q, s.heap.size ≤ q → lA s q := fun q h => h
  have hbA : ¬ lA s b := fun h => by have h2 : s.heap.size ≤ b := h; omega
  have hr0 : cells ≤ 601024 ∧ slots ≤ 7293000 := by omega
  refine lv_aload_n hx hb dL_law_631 rfl (lv_at hl 1 rfl) ?_
  refine lv_aload_n hx hb dL_law_632 rfl (lv_at hl 0 rfl) ?_
  refine lv_iload hx hb dL_law_633 (lv_at hl 4 rfl) ?_
  refine lv_iconst (v := iI 1) hx hb dL_law_635 rfl ?_
  refine wk_iadd hx hb dL_law_636 ?_
  refine wk_sld hx hb hX0 hbl hbA hS (by omega) (by omega) rfl dL_law_637 ?_
  refine lv_aload_n hx hb dL_law_638 rfl (lv_at hl 3 rfl) ?_
  refine ck_backW (wh_runS (As := [.ref g, .int (iI (xz xs (i + 1))), .ref ao]) (rest := []) ⟨hx, hb, hml, hown, hts⟩ (wL_noShow_r (ao := ao) (f := f) H.size hg hcX.1 hcX.2.1 hX) (cwx 3 hts (fun w h => tb_tbl h) wd_578 wd_576 wd_577 wd_32 rfl rfl (by decide +kernel) ⟨hcX.2.2.1, hcX.2.2.2⟩) (ck_preW (lz_pre hzT hS) hxT hK hP hD (List.range' 0 (oL kJ ao f :: WX).length) (ap_C _ _) (tl_nd _ _)) rfl rfl hl.1 rfl (lv_room (Nat.le_of_ble_eq_true rfl)) dL_law_639 ⟨hr0.1, hr0.2⟩) hP hD hS hA (List.range' 0 (oL kJ ao f :: WX).length) (List.range' (oL kJ ao f :: WX).length WM.length) (ap_C _ _) (ap_R _ _) (tl_nd _ _) (ap_dis _ _) (ws' := WM ++ ((oL kJ ao (vp_updL f 0 r0.toInt64)) :: WX')) rfl (fun H locs hP hD hS => ?_)
  refine lv_istore (lv' := [(5, .int (iI 0)), (0, .ref b), (1, .ref g), (2, .ref h), (3, .ref ao), (4, .int (iI i))]) hx hb dL_law_642 hl (by decide) rfl (fun ls hl => ?_)
  refine lv_aload_n hx hb dL_law_644 rfl (lv_at hl 3 rfl) ?_
  refine lv_aload_n hx hb dL_law_645 rfl (lv_at hl 1 rfl) ?_
  refine lv_iload hx hb dL_law_646 (lv_at hl 5 rfl) ?_
  refine lv_iconst (v := iI 1) hx hb dL_law_648 rfl ?_
  refine wk_iadd hx hb dL_law_649 ?_
  refine wk_sld hx hb hX0 hbl hbA hS (by omega) (by omega) rfl dL_law_650 ?_
  refine ck_backI (va_runV (As := [.int (iI (xz xs (i + 1)))]) (rest := []) ⟨hx, hb, hml, hown, hts⟩ (hM H.size) (cwV 1 hts (gd_V (fun w h => tb_tbl h) wd_793 wd_794 wd_795 wd_41 wd_796) rfl hcM.1 hcM.2.1 (by decide +kernel) ⟨hcM.2.2.1, hcM.2.2.2⟩) (ck_preV hxT hK hP hD (List.range' 0 WM.length) (ap_C _ _) (tl_nd _ _) (q0 := q1) rfl rfl hh) rfl rfl hl.1 rfl (lv_room (Nat.le_of_ble_eq_true rfl)) dL_law_651 ⟨hr0.1, hr0.2⟩) hP hD hS hA (List.range' 0 WM.length) (List.range' WM.length ((oL kJ ao (vp_updL f 0 r0.toInt64)) :: WX').length) (ap_C _ _) (ap_R _ _) (tl_nd _ _) (ap_dis _ _) (ws' := ((oL kJ ao (vp_updL f 0 r0.toInt64)) :: WX') ++ WM') rfl (fun H locs hP hD hS => ?_)
  refine lv_istore (lv' := [(6, .int r0), (5, .int (iI 0)), (0, .ref b), (1, .ref g), (2, .ref h), (3, .ref ao), (4, .int (iI i))]) hx hb dL_law_654 hl (by decide) rfl (fun ls hl => ?_)
  refine lv_aload_n hx hb dL_law_656 rfl (lv_at hl 4 rfl) ?_
  refine pk_callI (va_runV (As := []) (rest := []) ⟨hx, hb, hml, hown, hts⟩ (hT H.size) (cwV 0 hts (gd_V (fun w h => tb_tbl h) wd_688 wd_689 wd_690 wd_41 wd_691) rfl rfl rfl (by decide +kernel) ⟨Nat.le_of_ble_eq_true rfl, Nat.le_of_ble_eq_true rfl⟩) (ck_preV hxT hK hP hD (List.range' ((oL kJ ao (vp_updL f 0 r0.toInt64)) :: WX').length WM'.length) (ap_R _ _) (tl_nd _ _) (q0 := q2) rfl rfl hh') rfl rfl hl.1 rfl (lv_room (Nat.le_of_ble_eq_true rfl)) dL_law_657 ⟨hr0.1, hr0.2⟩) ?_
  refine lv_iload hx hb dL_law_660 (lv_at hl 1 rfl) ?_
  refine wk_icmp_eq (tgt := 667) hx hb dL_law_662 (by decide) (by omega) (fun _ => ?_) (fun c1 => absurd rfl c1)
  refine lv_iload hx hb dL_law_667 (lv_at hl 1 rfl) ?_
  refine wk_if_ne (tgt := 684) hx hb dL_law_669 (by decide) (by omega) (fun c1 => absurd rfl c1) (fun _ => ?_)
  refine lv_aload_n hx hb dL_law_672 rfl (lv_at hl 5 rfl) ?_
  refine lv_iconst (v := iI 0) hx hb dL_law_673 rfl ?_
  refine wk_lald (v := r0.toInt64) hx hb hK hP 0 3 rfl rfl (by decide) (by simp [vp_updL]) dL_law_674 ?_
  refine lv_iload hx hb dL_law_675 (lv_at hl 0 rfl) ?_
  refine lv_i2l (v := r0.toInt64) hx hb dL_law_677 rfl ?_
  refine wk_lcmpE hx hb rfl dL_law_678 ?_
  refine wk_if_eq (tgt := 684) hx hb dL_law_679 (by decide) (by omega) (fun _ => ?_) (fun c1 => absurd rfl c1)
  refine lv_goto (tgt := 953) hx hb dL_law_684 (by decide) ?_
  refine W.widen (k := cells + 1) (n := slots + 6) (Nat.le_succ _) (Nat.le_add_right slots 6) ?_
  exact kk H locs ls _ hP hD hS (lv_sub hl [2, 3, 4, 5, 6] rfl)
set_option maxRecDepth 100000 in
theorem lw_noShow_t1 {p : Program} {l : Launch} {e : Env} {s : State} {m : MethodId} {below : List Frame} {meth : Method} {c : Code} {b L : Nat} {xs : Nat → Int32} {D : va_G} {kI kZ kL kJ : ClassId} {Q : State → Prop} (C : lcA p l e s m meth c b L xs D kI kZ kL kJ) {H : Heap} {locs : List Loc} {ls : Array Slot} {cells slots : Nat} {g h ao : Nat} {i : Int} (hi : 0 ≤ i ∧ i + 3 < (L : Int)) {rX rM : Room} {WX WX' WM WM' : va_W} {q0 q1 q2 : Nat} {fsx fsm fsm' : List Value} {f : Nat → Int64} {r0 : Int32} (hg : WX[q0]? = some (g, .inr (6, fsx))) (hh : WM[q1]? = some (h, .inr (7, fsm))) (hh' : WM'[q2]? = some (h, .inr (7, fsm'))) (hcX : rX.cells = 1 ∧ rX.slots = 6 ∧ rX.frames + 1 + 1 ≤ 11 ∧ 8 + (4 + 11) + (8 + (4 + 11) + rX.locals) ≤ 390) (hcM : rM.cells = 0 ∧ rM.slots = 0 ∧ rM.frames + 1 ≤ 11 ∧ 8 + (4 + 11) + rM.locals ≤ 390)
    (hX : ∀ sz, CtT l yX6_noShow wsX6_noShow rX D vwCl (tyL kI kZ kL kJ) WX [.ref g, .int (iI (xz xs (i + 1)))] "java/lang/IllegalArgumentException" sz)
    (hM : ∀ sz, CtI l yX7_noShow wsX7_noShow rM D vwCl (tyL kI kZ kL kJ) WM [.ref h, .int (iI (xz xs (i + 1)))] r0 WM' sz)
    (hT : ∀ sz, CtP l yX7_thrown wsX7_thrown { frames := 0, cells := 0, slots := 0, locals := 0 } D vwCl (tyL kI kZ kL kJ) WM' [.ref h] (iI 1) sz)
    (hroom : cells + 1 ≤ 601024 ∧ slots + 6 ≤ 7293000) (hP : va_P D vwCl ((oL kJ ao f :: WX) ++ WM) H) (hD : va_D (lA s) ((oL kJ ao f :: WX) ++ WM)) (hS : va_S (lA s) s.heap H locs) (hl : lv_has ls 7 [(0, .ref b), (1, .ref g), (2, .ref h), (3, .ref ao), (4, .int (iI i))])
    (kk : ∀ (H : Heap) (locs : List Loc) (ls : Array Slot) (f : Nat → Int64), va_P D vwCl ((oL kJ ao f :: WX) ++ WM') H → va_D (lA s) ((oL kJ ao f :: WX) ++ WM') → va_S (lA s) s.heap H locs → lv_has ls 7 [(0, .ref b), (1, .ref g), (2, .ref h), (3, .ref ao), (4, .int (iI i))] → W p l e room_1 s m #[Value.ref b] below meth c H locs (cells + 1) (slots + 6) Q (F0 m 953 ls [])) : W p l e room_1 s m #[Value.ref b] below meth c H locs cells slots Q (F0 m 631 ls []) := by
  obtain ⟨hx, hb, hr, hml, hown, hts, hX0, hbl, hlocks, hadm, hxT, hzT, hK, hL⟩ := C
  have hA : ∀ q, s.heap.size ≤ q → lA s q := fun q h => h
  have hbA : ¬ lA s b := fun h => by have h2 : s.heap.size ≤ b := h; omega
  have hr0 : cells ≤ 601024 ∧ slots ≤ 7293000 := by omega
  refine lv_aload_n hx hb dL_law_631 rfl (lv_at hl 1 rfl) ?_
  refine lv_aload_n hx hb dL_law_632 rfl (lv_at hl 0 rfl) ?_
  refine lv_iload hx hb dL_law_633 (lv_at hl 4 rfl) ?_
  refine lv_iconst (v := iI 1) hx hb dL_law_635 rfl ?_
  refine wk_iadd hx hb dL_law_636 ?_
  refine wk_sld hx hb hX0 hbl hbA hS (by omega) (by omega) rfl dL_law_637 ?_
  refine lv_aload_n hx hb dL_law_638 rfl (lv_at hl 3 rfl) ?_
  refine ck_backW (wh_runS (As := [.ref g, .int (iI (xz xs (i + 1))), .ref ao]) (rest := []) ⟨hx, hb, hml, hown, hts⟩ (wL_noShow_t1 (r0 := 0) (u0 := []) (ao := ao) (f := f) H.size hg hcX.1 hcX.2.1 hX) (cwx 3 hts (fun w h => tb_tbl h) wd_578 wd_576 wd_577 wd_32 rfl rfl (by decide +kernel) ⟨hcX.2.2.1, hcX.2.2.2⟩) (ck_preW (lz_pre hzT hS) hxT hK hP hD (List.range' 0 (oL kJ ao f :: WX).length) (ap_C _ _) (tl_nd _ _)) rfl rfl hl.1 rfl (lv_room (Nat.le_of_ble_eq_true rfl)) dL_law_639 hroom) hP hD hS hA (List.range' 0 (oL kJ ao f :: WX).length) (List.range' (oL kJ ao f :: WX).length WM.length) (ap_C _ _) (ap_R _ _) (tl_nd _ _) (ap_dis _ _) (ws' := WM ++ ((oL kJ ao f) :: WX)) rfl (fun H locs hP hD hS => ?_)
  refine lv_istore (lv' := [(5, .int (iI 1)), (0, .ref b), (1, .ref g), (2, .ref h), (3, .ref ao), (4, .int (iI i))]) hx hb dL_law_642 hl (by decide) rfl (fun ls hl => ?_)
  have hr0 : cells + 1 ≤ 601024 ∧ slots + 6 ≤ 7293000 := hroom
  refine lv_aload_n hx hb dL_law_644 rfl (lv_at hl 3 rfl) ?_
  refine lv_aload_n hx hb dL_law_645 rfl (lv_at hl 1 rfl) ?_
  refine lv_iload hx hb dL_law_646 (lv_at hl 5 rfl) ?_
  refine lv_iconst (v := iI 1) hx hb dL_law_648 rfl ?_
  refine wk_iadd hx hb dL_law_649 ?_
  refine wk_sld hx hb hX0 hbl hbA hS (by omega) (by omega) rfl dL_law_650 ?_
  refine ck_backI (va_runV (As := [.int (iI (xz xs (i + 1)))]) (rest := []) ⟨hx, hb, hml, hown, hts⟩ (hM H.size) (cwV 1 hts (gd_V (fun w h => tb_tbl h) wd_793 wd_794 wd_795 wd_41 wd_796) rfl hcM.1 hcM.2.1 (by decide +kernel) ⟨hcM.2.2.1, hcM.2.2.2⟩) (ck_preV hxT hK hP hD (List.range' 0 WM.length) (ap_C _ _) (tl_nd _ _) (q0 := q1) rfl rfl hh) rfl rfl hl.1 rfl (lv_room (Nat.le_of_ble_eq_true rfl)) dL_law_651 ⟨hr0.1, hr0.2⟩) hP hD hS hA (List.range' 0 WM.length) (List.range' WM.length ((oL kJ ao f) :: WX).length) (ap_C _ _) (ap_R _ _) (tl_nd _ _) (ap_dis _ _) (ws' := ((oL kJ ao f) :: WX) ++ WM') rfl (fun H locs hP hD hS => ?_)
  refine lv_istore (lv' := [(6, .int r0), (5, .int (iI 1)), (0, .ref b), (1, .ref g), (2, .ref h), (3, .ref ao), (4, .int (iI i))]) hx hb dL_law_654 hl (by decide) rfl (fun ls hl => ?_)
  refine lv_aload_n hx hb dL_law_656 rfl (lv_at hl 4 rfl) ?_
  refine pk_callI (va_runV (As := []) (rest := []) ⟨hx, hb, hml, hown, hts⟩ (hT H.size) (cwV 0 hts (gd_V (fun w h => tb_tbl h) wd_688 wd_689 wd_690 wd_41 wd_691) rfl rfl rfl (by decide +kernel) ⟨Nat.le_of_ble_eq_true rfl, Nat.le_of_ble_eq_true rfl⟩) (ck_preV hxT hK hP hD (List.range' ((oL kJ ao f) :: WX).length WM'.length) (ap_R _ _) (tl_nd _ _) (q0 := q2) rfl rfl hh') rfl rfl hl.1 rfl (lv_room (Nat.le_of_ble_eq_true rfl)) dL_law_657 ⟨hr0.1, hr0.2⟩) ?_
  refine lv_iload hx hb dL_law_660 (lv_at hl 1 rfl) ?_
  refine wk_icmp_eq (tgt := 667) hx hb dL_law_662 (by decide) (by omega) (fun _ => ?_) (fun c1 => absurd rfl c1)
  refine lv_iload hx hb dL_law_667 (lv_at hl 1 rfl) ?_
  refine wk_if_ne (tgt := 684) hx hb dL_law_669 (by decide) (by omega) (fun _ => ?_) (fun c1 => absurd c1 (by decide))
  refine lv_goto (tgt := 953) hx hb dL_law_684 (by decide) ?_
  exact kk H locs ls _ hP hD hS (lv_sub hl [2, 3, 4, 5, 6] rfl)
set_option maxRecDepth 100000 in
theorem lw_change_r {p : Program} {l : Launch} {e : Env} {s : State} {m : MethodId} {below : List Frame} {meth : Method} {c : Code} {b L : Nat} {xs : Nat → Int32} {D : va_G} {kI kZ kL kJ : ClassId} {Q : State → Prop} (C : lcA p l e s m meth c b L xs D kI kZ kL kJ) {H : Heap} {locs : List Loc} {ls : Array Slot} {cells slots : Nat} {g h ao : Nat} {i : Int} (hi : 0 ≤ i ∧ i + 3 < (L : Int)) {rX rM : Room} {WX WX' WM WM' : va_W} {q0 q1 q2 : Nat} {fsx fsm fsm' : List Value} {f : Nat → Int64} {r0 : Int32} (hg : WX[q0]? = some (g, .inr (6, fsx))) (hh : WM[q1]? = some (h, .inr (7, fsm))) (hh' : WM'[q2]? = some (h, .inr (7, fsm'))) (hcX : rX.cells = 0 ∧ rX.slots = 0 ∧ rX.frames + 1 + 1 ≤ 11 ∧ 8 + (5 + 11) + (8 + (4 + 11) + rX.locals) ≤ 390) (hcM : rM.cells = 0 ∧ rM.slots = 0 ∧ rM.frames + 1 ≤ 11 ∧ 8 + (3 + 11) + rM.locals ≤ 390)
    (hX : ∀ sz, CtI l yX6_change wsX6_change rX D vwCl (tyL kI kZ kL kJ) WX [.ref g, .int (iI (xz xs (i + 1))), .int (iI (xz xs (i + 2)))] r0 WX' sz)
    (hM : ∀ sz, CtI l yX7_change wsX7_change rM D vwCl (tyL kI kZ kL kJ) WM [.ref h, .int (iI (xz xs (i + 1))), .int (iI (xz xs (i + 2)))] r0 WM' sz)
    (hT : ∀ sz, CtP l yX7_thrown wsX7_thrown { frames := 0, cells := 0, slots := 0, locals := 0 } D vwCl (tyL kI kZ kL kJ) WM' [.ref h] (iI 0) sz)
    (hroom : cells + 1 ≤ 601024 ∧ slots + 6 ≤ 7293000) (hP : va_P D vwCl ((oL kJ ao f :: WX) ++ WM) H) (hD : va_D (lA s) ((oL kJ ao f :: WX) ++ WM)) (hS : va_S (lA s) s.heap H locs) (hl : lv_has ls 7 [(0, .ref b), (1, .ref g), (2, .ref h), (3, .ref ao), (4, .int (iI i))])
    (kk : ∀ (H : Heap) (locs : List Loc) (ls : Array Slot) (f : Nat → Int64), va_P D vwCl ((oL kJ ao f :: WX') ++ WM') H → va_D (lA s) ((oL kJ ao f :: WX') ++ WM') → va_S (lA s) s.heap H locs → lv_has ls 7 [(0, .ref b), (1, .ref g), (2, .ref h), (3, .ref ao), (4, .int (iI i))] → W p l e room_1 s m #[Value.ref b] below meth c H locs (cells + 1) (slots + 6) Q (F0 m 953 ls [])) : W p l e room_1 s m #[Value.ref b] below meth c H locs cells slots Q (F0 m 687 ls []) := by
  obtain ⟨hx, hb, hr, hml, hown, hts, hX0, hbl, hlocks, hadm, hxT, hzT, hK, hL⟩ := C
  have hA : ∀ q, s.heap.size ≤ q → lA s q := fun q h => h
  have hbA : ¬ lA s b := fun h => by have h2 : s.heap.size ≤ b := h; omega
  have hr0 : cells ≤ 601024 ∧ slots ≤ 7293000 := by omega
  refine lv_aload_n hx hb dL_law_687 rfl (lv_at hl 1 rfl) ?_
  refine lv_aload_n hx hb dL_law_688 rfl (lv_at hl 0 rfl) ?_
  refine lv_iload hx hb dL_law_689 (lv_at hl 4 rfl) ?_
  refine lv_iconst (v := iI 1) hx hb dL_law_691 rfl ?_
  refine wk_iadd hx hb dL_law_692 ?_
  refine wk_sld hx hb hX0 hbl hbA hS (by omega) (by omega) rfl dL_law_693 ?_
  refine lv_aload_n hx hb dL_law_694 rfl (lv_at hl 0 rfl) ?_
  refine lv_iload hx hb dL_law_695 (lv_at hl 4 rfl) ?_
  refine lv_iconst (v := iI 2) hx hb dL_law_697 rfl ?_
  refine wk_iadd hx hb dL_law_698 ?_
  refine wk_sld hx hb hX0 hbl hbA hS (by omega) (by omega) rfl dL_law_699 ?_
  refine lv_aload_n hx hb dL_law_700 rfl (lv_at hl 3 rfl) ?_
  refine ck_backW (wh_runS (As := [.ref g, .int (iI (xz xs (i + 1))), .int (iI (xz xs (i + 2))), .ref ao]) (rest := []) ⟨hx, hb, hml, hown, hts⟩ (wL_change_r (ao := ao) (f := f) H.size hg hcX.1 hcX.2.1 hX) (cwx 4 hts (fun w h => tb_tbl h) wd_585 wd_583 wd_584 wd_32 rfl rfl (by decide +kernel) ⟨hcX.2.2.1, hcX.2.2.2⟩) (ck_preW (lz_pre hzT hS) hxT hK hP hD (List.range' 0 (oL kJ ao f :: WX).length) (ap_C _ _) (tl_nd _ _)) rfl rfl hl.1 rfl (lv_room (Nat.le_of_ble_eq_true rfl)) dL_law_701 ⟨hr0.1, hr0.2⟩) hP hD hS hA (List.range' 0 (oL kJ ao f :: WX).length) (List.range' (oL kJ ao f :: WX).length WM.length) (ap_C _ _) (ap_R _ _) (tl_nd _ _) (ap_dis _ _) (ws' := WM ++ ((oL kJ ao (vp_updL f 0 r0.toInt64)) :: WX')) rfl (fun H locs hP hD hS => ?_)
  refine lv_istore (lv' := [(5, .int (iI 0)), (0, .ref b), (1, .ref g), (2, .ref h), (3, .ref ao), (4, .int (iI i))]) hx hb dL_law_704 hl (by decide) rfl (fun ls hl => ?_)
  refine lv_aload_n hx hb dL_law_706 rfl (lv_at hl 3 rfl) ?_
  refine lv_aload_n hx hb dL_law_707 rfl (lv_at hl 1 rfl) ?_
  refine lv_iload hx hb dL_law_708 (lv_at hl 5 rfl) ?_
  refine lv_iconst (v := iI 1) hx hb dL_law_710 rfl ?_
  refine wk_iadd hx hb dL_law_711 ?_
  refine wk_sld hx hb hX0 hbl hbA hS (by omega) (by omega) rfl dL_law_712 ?_
  refine lv_aload_n hx hb dL_law_713 rfl (lv_at hl 1 rfl) ?_
  refine lv_iload hx hb dL_law_714 (lv_at hl 5 rfl) ?_
  refine lv_iconst (v := iI 2) hx hb dL_law_716 rfl ?_
  refine wk_iadd hx hb dL_law_717 ?_
  refine wk_sld hx hb hX0 hbl hbA hS (by omega) (by omega) rfl dL_law_718 ?_
  refine ck_backI (va_runV (As := [.int (iI (xz xs (i + 1))), .int (iI (xz xs (i + 2)))]) (rest := []) ⟨hx, hb, hml, hown, hts⟩ (hM H.size) (cwV 2 hts (gd_V (fun w h => tb_tbl h) wd_797 wd_798 wd_799 wd_41 wd_800) rfl hcM.1 hcM.2.1 (by decide +kernel) ⟨hcM.2.2.1, hcM.2.2.2⟩) (ck_preV hxT hK hP hD (List.range' 0 WM.length) (ap_C _ _) (tl_nd _ _) (q0 := q1) rfl rfl hh) rfl rfl hl.1 rfl (lv_room (Nat.le_of_ble_eq_true rfl)) dL_law_719 ⟨hr0.1, hr0.2⟩) hP hD hS hA (List.range' 0 WM.length) (List.range' WM.length ((oL kJ ao (vp_updL f 0 r0.toInt64)) :: WX').length) (ap_C _ _) (ap_R _ _) (tl_nd _ _) (ap_dis _ _) (ws' := ((oL kJ ao (vp_updL f 0 r0.toInt64)) :: WX') ++ WM') rfl (fun H locs hP hD hS => ?_)
  refine lv_istore (lv' := [(6, .int r0), (5, .int (iI 0)), (0, .ref b), (1, .ref g), (2, .ref h), (3, .ref ao), (4, .int (iI i))]) hx hb dL_law_722 hl (by decide) rfl (fun ls hl => ?_)
  refine lv_aload_n hx hb dL_law_724 rfl (lv_at hl 4 rfl) ?_
  refine pk_callI (va_runV (As := []) (rest := []) ⟨hx, hb, hml, hown, hts⟩ (hT H.size) (cwV 0 hts (gd_V (fun w h => tb_tbl h) wd_688 wd_689 wd_690 wd_41 wd_691) rfl rfl rfl (by decide +kernel) ⟨Nat.le_of_ble_eq_true rfl, Nat.le_of_ble_eq_true rfl⟩) (ck_preV hxT hK hP hD (List.range' ((oL kJ ao (vp_updL f 0 r0.toInt64)) :: WX').length WM'.length) (ap_R _ _) (tl_nd _ _) (q0 := q2) rfl rfl hh') rfl rfl hl.1 rfl (lv_room (Nat.le_of_ble_eq_true rfl)) dL_law_725 ⟨hr0.1, hr0.2⟩) ?_
  refine lv_iload hx hb dL_law_728 (lv_at hl 1 rfl) ?_
  refine wk_icmp_eq (tgt := 735) hx hb dL_law_730 (by decide) (by omega) (fun _ => ?_) (fun c1 => absurd rfl c1)
  refine lv_iload hx hb dL_law_735 (lv_at hl 1 rfl) ?_
  refine wk_if_ne (tgt := 752) hx hb dL_law_737 (by decide) (by omega) (fun c1 => absurd rfl c1) (fun _ => ?_)
  refine lv_aload_n hx hb dL_law_740 rfl (lv_at hl 5 rfl) ?_
  refine lv_iconst (v := iI 0) hx hb dL_law_741 rfl ?_
  refine wk_lald (v := r0.toInt64) hx hb hK hP 0 3 rfl rfl (by decide) (by simp [vp_updL]) dL_law_742 ?_
  refine lv_iload hx hb dL_law_743 (lv_at hl 0 rfl) ?_
  refine lv_i2l (v := r0.toInt64) hx hb dL_law_745 rfl ?_
  refine wk_lcmpE hx hb rfl dL_law_746 ?_
  refine wk_if_eq (tgt := 752) hx hb dL_law_747 (by decide) (by omega) (fun _ => ?_) (fun c1 => absurd rfl c1)
  refine lv_goto (tgt := 953) hx hb dL_law_752 (by decide) ?_
  refine W.widen (k := cells + 1) (n := slots + 6) (Nat.le_succ _) (Nat.le_add_right slots 6) ?_
  exact kk H locs ls _ hP hD hS (lv_sub hl [2, 3, 4, 5, 6] rfl)
set_option maxRecDepth 100000 in
theorem lw_change_t1 {p : Program} {l : Launch} {e : Env} {s : State} {m : MethodId} {below : List Frame} {meth : Method} {c : Code} {b L : Nat} {xs : Nat → Int32} {D : va_G} {kI kZ kL kJ : ClassId} {Q : State → Prop} (C : lcA p l e s m meth c b L xs D kI kZ kL kJ) {H : Heap} {locs : List Loc} {ls : Array Slot} {cells slots : Nat} {g h ao : Nat} {i : Int} (hi : 0 ≤ i ∧ i + 3 < (L : Int)) {rX rM : Room} {WX WX' WM WM' : va_W} {q0 q1 q2 : Nat} {fsx fsm fsm' : List Value} {f : Nat → Int64} {r0 : Int32} (hg : WX[q0]? = some (g, .inr (6, fsx))) (hh : WM[q1]? = some (h, .inr (7, fsm))) (hh' : WM'[q2]? = some (h, .inr (7, fsm'))) (hcX : rX.cells = 1 ∧ rX.slots = 6 ∧ rX.frames + 1 + 1 ≤ 11 ∧ 8 + (5 + 11) + (8 + (4 + 11) + rX.locals) ≤ 390) (hcM : rM.cells = 0 ∧ rM.slots = 0 ∧ rM.frames + 1 ≤ 11 ∧ 8 + (3 + 11) + rM.locals ≤ 390)
    (hX : ∀ sz, CtT l yX6_change wsX6_change rX D vwCl (tyL kI kZ kL kJ) WX [.ref g, .int (iI (xz xs (i + 1))), .int (iI (xz xs (i + 2)))] "java/lang/IndexOutOfBoundsException" sz)
    (hM : ∀ sz, CtI l yX7_change wsX7_change rM D vwCl (tyL kI kZ kL kJ) WM [.ref h, .int (iI (xz xs (i + 1))), .int (iI (xz xs (i + 2)))] r0 WM' sz)
    (hT : ∀ sz, CtP l yX7_thrown wsX7_thrown { frames := 0, cells := 0, slots := 0, locals := 0 } D vwCl (tyL kI kZ kL kJ) WM' [.ref h] (iI 1) sz)
    (hroom : cells + 1 ≤ 601024 ∧ slots + 6 ≤ 7293000) (hP : va_P D vwCl ((oL kJ ao f :: WX) ++ WM) H) (hD : va_D (lA s) ((oL kJ ao f :: WX) ++ WM)) (hS : va_S (lA s) s.heap H locs) (hl : lv_has ls 7 [(0, .ref b), (1, .ref g), (2, .ref h), (3, .ref ao), (4, .int (iI i))])
    (kk : ∀ (H : Heap) (locs : List Loc) (ls : Array Slot) (f : Nat → Int64), va_P D vwCl ((oL kJ ao f :: WX) ++ WM') H → va_D (lA s) ((oL kJ ao f :: WX) ++ WM') → va_S (lA s) s.heap H locs → lv_has ls 7 [(0, .ref b), (1, .ref g), (2, .ref h), (3, .ref ao), (4, .int (iI i))] → W p l e room_1 s m #[Value.ref b] below meth c H locs (cells + 1) (slots + 6) Q (F0 m 953 ls [])) : W p l e room_1 s m #[Value.ref b] below meth c H locs cells slots Q (F0 m 687 ls []) := by
  obtain ⟨hx, hb, hr, hml, hown, hts, hX0, hbl, hlocks, hadm, hxT, hzT, hK, hL⟩ := C
  have hA : ∀ q, s.heap.size ≤ q → lA s q := fun q h => h
  have hbA : ¬ lA s b := fun h => by have h2 : s.heap.size ≤ b := h; omega
  have hr0 : cells ≤ 601024 ∧ slots ≤ 7293000 := by omega
  refine lv_aload_n hx hb dL_law_687 rfl (lv_at hl 1 rfl) ?_
  refine lv_aload_n hx hb dL_law_688 rfl (lv_at hl 0 rfl) ?_
  refine lv_iload hx hb dL_law_689 (lv_at hl 4 rfl) ?_
  refine lv_iconst (v := iI 1) hx hb dL_law_691 rfl ?_
  refine wk_iadd hx hb dL_law_692 ?_
  refine wk_sld hx hb hX0 hbl hbA hS (by omega) (by omega) rfl dL_law_693 ?_
  refine lv_aload_n hx hb dL_law_694 rfl (lv_at hl 0 rfl) ?_
  refine lv_iload hx hb dL_law_695 (lv_at hl 4 rfl) ?_
  refine lv_iconst (v := iI 2) hx hb dL_law_697 rfl ?_
  refine wk_iadd hx hb dL_law_698 ?_
  refine wk_sld hx hb hX0 hbl hbA hS (by omega) (by omega) rfl dL_law_699 ?_
  refine lv_aload_n hx hb dL_law_700 rfl (lv_at hl 3 rfl) ?_
  refine ck_backW (wh_runS (As := [.ref g, .int (iI (xz xs (i + 1))), .int (iI (xz xs (i + 2))), .ref ao]) (rest := []) ⟨hx, hb, hml, hown, hts⟩ (wL_change_t1 (r0 := 0) (u0 := []) (ao := ao) (f := f) H.size hg hcX.1 hcX.2.1 hX) (cwx 4 hts (fun w h => tb_tbl h) wd_585 wd_583 wd_584 wd_32 rfl rfl (by decide +kernel) ⟨hcX.2.2.1, hcX.2.2.2⟩) (ck_preW (lz_pre hzT hS) hxT hK hP hD (List.range' 0 (oL kJ ao f :: WX).length) (ap_C _ _) (tl_nd _ _)) rfl rfl hl.1 rfl (lv_room (Nat.le_of_ble_eq_true rfl)) dL_law_701 hroom) hP hD hS hA (List.range' 0 (oL kJ ao f :: WX).length) (List.range' (oL kJ ao f :: WX).length WM.length) (ap_C _ _) (ap_R _ _) (tl_nd _ _) (ap_dis _ _) (ws' := WM ++ ((oL kJ ao f) :: WX)) rfl (fun H locs hP hD hS => ?_)
  refine lv_istore (lv' := [(5, .int (iI 1)), (0, .ref b), (1, .ref g), (2, .ref h), (3, .ref ao), (4, .int (iI i))]) hx hb dL_law_704 hl (by decide) rfl (fun ls hl => ?_)
  have hr0 : cells + 1 ≤ 601024 ∧ slots + 6 ≤ 7293000 := hroom
  refine lv_aload_n hx hb dL_law_706 rfl (lv_at hl 3 rfl) ?_
  refine lv_aload_n hx hb dL_law_707 rfl (lv_at hl 1 rfl) ?_
  refine lv_iload hx hb dL_law_708 (lv_at hl 5 rfl) ?_
  refine lv_iconst (v := iI 1) hx hb dL_law_710 rfl ?_
  refine wk_iadd hx hb dL_law_711 ?_
  refine wk_sld hx hb hX0 hbl hbA hS (by omega) (by omega) rfl dL_law_712 ?_
  refine lv_aload_n hx hb dL_law_713 rfl (lv_at hl 1 rfl) ?_
  refine lv_iload hx hb dL_law_714 (lv_at hl 5 rfl) ?_
  refine lv_iconst (v := iI 2) hx hb dL_law_716 rfl ?_
  refine wk_iadd hx hb dL_law_717 ?_
  refine wk_sld hx hb hX0 hbl hbA hS (by omega) (by omega) rfl dL_law_718 ?_
  refine ck_backI (va_runV (As := [.int (iI (xz xs (i + 1))), .int (iI (xz xs (i + 2)))]) (rest := []) ⟨hx, hb, hml, hown, hts⟩ (hM H.size) (cwV 2 hts (gd_V (fun w h => tb_tbl h) wd_797 wd_798 wd_799 wd_41 wd_800) rfl hcM.1 hcM.2.1 (by decide +kernel) ⟨hcM.2.2.1, hcM.2.2.2⟩) (ck_preV hxT hK hP hD (List.range' 0 WM.length) (ap_C _ _) (tl_nd _ _) (q0 := q1) rfl rfl hh) rfl rfl hl.1 rfl (lv_room (Nat.le_of_ble_eq_true rfl)) dL_law_719 ⟨hr0.1, hr0.2⟩) hP hD hS hA (List.range' 0 WM.length) (List.range' WM.length ((oL kJ ao f) :: WX).length) (ap_C _ _) (ap_R _ _) (tl_nd _ _) (ap_dis _ _) (ws' := ((oL kJ ao f) :: WX) ++ WM') rfl (fun H locs hP hD hS => ?_)
  refine lv_istore (lv' := [(6, .int r0), (5, .int (iI 1)), (0, .ref b), (1, .ref g), (2, .ref h), (3, .ref ao), (4, .int (iI i))]) hx hb dL_law_722 hl (by decide) rfl (fun ls hl => ?_)
  refine lv_aload_n hx hb dL_law_724 rfl (lv_at hl 4 rfl) ?_
  refine pk_callI (va_runV (As := []) (rest := []) ⟨hx, hb, hml, hown, hts⟩ (hT H.size) (cwV 0 hts (gd_V (fun w h => tb_tbl h) wd_688 wd_689 wd_690 wd_41 wd_691) rfl rfl rfl (by decide +kernel) ⟨Nat.le_of_ble_eq_true rfl, Nat.le_of_ble_eq_true rfl⟩) (ck_preV hxT hK hP hD (List.range' ((oL kJ ao f) :: WX).length WM'.length) (ap_R _ _) (tl_nd _ _) (q0 := q2) rfl rfl hh') rfl rfl hl.1 rfl (lv_room (Nat.le_of_ble_eq_true rfl)) dL_law_725 ⟨hr0.1, hr0.2⟩) ?_
  refine lv_iload hx hb dL_law_728 (lv_at hl 1 rfl) ?_
  refine wk_icmp_eq (tgt := 735) hx hb dL_law_730 (by decide) (by omega) (fun _ => ?_) (fun c1 => absurd rfl c1)
  refine lv_iload hx hb dL_law_735 (lv_at hl 1 rfl) ?_
  refine wk_if_ne (tgt := 752) hx hb dL_law_737 (by decide) (by omega) (fun _ => ?_) (fun c1 => absurd c1 (by decide))
  refine lv_goto (tgt := 953) hx hb dL_law_752 (by decide) ?_
  exact kk H locs ls _ hP hD hS (lv_sub hl [2, 3, 4, 5, 6] rfl)
set_option maxRecDepth 100000 in
theorem lw_look_r {p : Program} {l : Launch} {e : Env} {s : State} {m : MethodId} {below : List Frame} {meth : Method} {c : Code} {b L : Nat} {xs : Nat → Int32} {D : va_G} {kI kZ kL kJ : ClassId} {Q : State → Prop} (C : lcA p l e s m meth c b L xs D kI kZ kL kJ) {H : Heap} {locs : List Loc} {ls : Array Slot} {cells slots : Nat} {g h ao : Nat} {i : Int} (hi : 0 ≤ i ∧ i + 3 < (L : Int)) {rX rM : Room} {WX WX' WM WM' : va_W} {q0 q1 q2 : Nat} {fsx fsm fsm' : List Value} {f : Nat → Int64} {r0 : Int32} (hg : WX[q0]? = some (g, .inr (6, fsx))) (hh : WM[q1]? = some (h, .inr (7, fsm))) (hh' : WM'[q2]? = some (h, .inr (7, fsm'))) (hcX : rX.cells = 0 ∧ rX.slots = 0 ∧ rX.frames + 1 + 1 ≤ 11 ∧ 8 + (5 + 11) + (8 + (3 + 11) + rX.locals) ≤ 390) (hcM : rM.cells = 0 ∧ rM.slots = 0 ∧ rM.frames + 1 ≤ 11 ∧ 8 + (3 + 11) + rM.locals ≤ 390)
    (hX : ∀ sz, CtI l yX6_look wsX6_look rX D vwCl (tyL kI kZ kL kJ) WX [.ref g, .int (iI (xz xs (i + 1))), .int (iI (xz xs (i + 2)))] r0 WX' sz)
    (hM : ∀ sz, CtI l yX7_look wsX7_look rM D vwCl (tyL kI kZ kL kJ) WM [.ref h, .int (iI (xz xs (i + 1))), .int (iI (xz xs (i + 2)))] r0 WM' sz)
    (hT : ∀ sz, CtP l yX7_thrown wsX7_thrown { frames := 0, cells := 0, slots := 0, locals := 0 } D vwCl (tyL kI kZ kL kJ) WM' [.ref h] (iI 0) sz)
    (hroom : cells + 1 ≤ 601024 ∧ slots + 6 ≤ 7293000) (hP : va_P D vwCl ((oL kJ ao f :: WX) ++ WM) H) (hD : va_D (lA s) ((oL kJ ao f :: WX) ++ WM)) (hS : va_S (lA s) s.heap H locs) (hl : lv_has ls 7 [(0, .ref b), (1, .ref g), (2, .ref h), (3, .ref ao), (4, .int (iI i))])
    (kk : ∀ (H : Heap) (locs : List Loc) (ls : Array Slot) (f : Nat → Int64), va_P D vwCl ((oL kJ ao f :: WX') ++ WM') H → va_D (lA s) ((oL kJ ao f :: WX') ++ WM') → va_S (lA s) s.heap H locs → lv_has ls 7 [(0, .ref b), (1, .ref g), (2, .ref h), (3, .ref ao), (4, .int (iI i))] → W p l e room_1 s m #[Value.ref b] below meth c H locs (cells + 1) (slots + 6) Q (F0 m 953 ls [])) : W p l e room_1 s m #[Value.ref b] below meth c H locs cells slots Q (F0 m 792 ls []) := by
  obtain ⟨hx, hb, hr, hml, hown, hts, hX0, hbl, hlocks, hadm, hxT, hzT, hK, hL⟩ := C
  have hA : ∀ q, s.heap.size ≤ q → lA s q := fun q h => h
  have hbA : ¬ lA s b := fun h => by have h2 : s.heap.size ≤ b := h; omega
  have hr0 : cells ≤ 601024 ∧ slots ≤ 7293000 := by omega
  refine lv_aload_n hx hb dL_law_792 rfl (lv_at hl 1 rfl) ?_
  refine lv_aload_n hx hb dL_law_793 rfl (lv_at hl 0 rfl) ?_
  refine lv_iload hx hb dL_law_794 (lv_at hl 4 rfl) ?_
  refine lv_iconst (v := iI 1) hx hb dL_law_796 rfl ?_
  refine wk_iadd hx hb dL_law_797 ?_
  refine wk_sld hx hb hX0 hbl hbA hS (by omega) (by omega) rfl dL_law_798 ?_
  refine lv_aload_n hx hb dL_law_799 rfl (lv_at hl 0 rfl) ?_
  refine lv_iload hx hb dL_law_800 (lv_at hl 4 rfl) ?_
  refine lv_iconst (v := iI 2) hx hb dL_law_802 rfl ?_
  refine wk_iadd hx hb dL_law_803 ?_
  refine wk_sld hx hb hX0 hbl hbA hS (by omega) (by omega) rfl dL_law_804 ?_
  refine lv_aload_n hx hb dL_law_805 rfl (lv_at hl 3 rfl) ?_
  refine ck_backW (wh_runS (As := [.ref g, .int (iI (xz xs (i + 1))), .int (iI (xz xs (i + 2))), .ref ao]) (rest := []) ⟨hx, hb, hml, hown, hts⟩ (wL_look_r (ao := ao) (f := f) H.size hg hcX.1 hcX.2.1 hX) (cwx 4 hts (fun w h => tb_tbl h) wd_592 wd_590 wd_591 wd_32 rfl rfl (by decide +kernel) ⟨hcX.2.2.1, hcX.2.2.2⟩) (ck_preW (lz_pre hzT hS) hxT hK hP hD (List.range' 0 (oL kJ ao f :: WX).length) (ap_C _ _) (tl_nd _ _)) rfl rfl hl.1 rfl (lv_room (Nat.le_of_ble_eq_true rfl)) dL_law_806 ⟨hr0.1, hr0.2⟩) hP hD hS hA (List.range' 0 (oL kJ ao f :: WX).length) (List.range' (oL kJ ao f :: WX).length WM.length) (ap_C _ _) (ap_R _ _) (tl_nd _ _) (ap_dis _ _) (ws' := WM ++ ((oL kJ ao (vp_updL f 0 r0.toInt64)) :: WX')) rfl (fun H locs hP hD hS => ?_)
  refine lv_istore (lv' := [(5, .int (iI 0)), (0, .ref b), (1, .ref g), (2, .ref h), (3, .ref ao), (4, .int (iI i))]) hx hb dL_law_809 hl (by decide) rfl (fun ls hl => ?_)
  refine lv_aload_n hx hb dL_law_811 rfl (lv_at hl 3 rfl) ?_
  refine lv_aload_n hx hb dL_law_812 rfl (lv_at hl 1 rfl) ?_
  refine lv_iload hx hb dL_law_813 (lv_at hl 5 rfl) ?_
  refine lv_iconst (v := iI 1) hx hb dL_law_815 rfl ?_
  refine wk_iadd hx hb dL_law_816 ?_
  refine wk_sld hx hb hX0 hbl hbA hS (by omega) (by omega) rfl dL_law_817 ?_
  refine lv_aload_n hx hb dL_law_818 rfl (lv_at hl 1 rfl) ?_
  refine lv_iload hx hb dL_law_819 (lv_at hl 5 rfl) ?_
  refine lv_iconst (v := iI 2) hx hb dL_law_821 rfl ?_
  refine wk_iadd hx hb dL_law_822 ?_
  refine wk_sld hx hb hX0 hbl hbA hS (by omega) (by omega) rfl dL_law_823 ?_
  refine ck_backI (va_runV (As := [.int (iI (xz xs (i + 1))), .int (iI (xz xs (i + 2)))]) (rest := []) ⟨hx, hb, hml, hown, hts⟩ (hM H.size) (cwV 2 hts (gd_V (fun w h => tb_tbl h) wd_805 wd_806 wd_807 wd_41 wd_808) rfl hcM.1 hcM.2.1 (by decide +kernel) ⟨hcM.2.2.1, hcM.2.2.2⟩) (ck_preV hxT hK hP hD (List.range' 0 WM.length) (ap_C _ _) (tl_nd _ _) (q0 := q1) rfl rfl hh) rfl rfl hl.1 rfl (lv_room (Nat.le_of_ble_eq_true rfl)) dL_law_824 ⟨hr0.1, hr0.2⟩) hP hD hS hA (List.range' 0 WM.length) (List.range' WM.length ((oL kJ ao (vp_updL f 0 r0.toInt64)) :: WX').length) (ap_C _ _) (ap_R _ _) (tl_nd _ _) (ap_dis _ _) (ws' := ((oL kJ ao (vp_updL f 0 r0.toInt64)) :: WX') ++ WM') rfl (fun H locs hP hD hS => ?_)
  refine lv_istore (lv' := [(6, .int r0), (5, .int (iI 0)), (0, .ref b), (1, .ref g), (2, .ref h), (3, .ref ao), (4, .int (iI i))]) hx hb dL_law_827 hl (by decide) rfl (fun ls hl => ?_)
  refine lv_aload_n hx hb dL_law_829 rfl (lv_at hl 4 rfl) ?_
  refine pk_callI (va_runV (As := []) (rest := []) ⟨hx, hb, hml, hown, hts⟩ (hT H.size) (cwV 0 hts (gd_V (fun w h => tb_tbl h) wd_688 wd_689 wd_690 wd_41 wd_691) rfl rfl rfl (by decide +kernel) ⟨Nat.le_of_ble_eq_true rfl, Nat.le_of_ble_eq_true rfl⟩) (ck_preV hxT hK hP hD (List.range' ((oL kJ ao (vp_updL f 0 r0.toInt64)) :: WX').length WM'.length) (ap_R _ _) (tl_nd _ _) (q0 := q2) rfl rfl hh') rfl rfl hl.1 rfl (lv_room (Nat.le_of_ble_eq_true rfl)) dL_law_830 ⟨hr0.1, hr0.2⟩) ?_
  refine lv_iload hx hb dL_law_833 (lv_at hl 1 rfl) ?_
  refine wk_icmp_eq (tgt := 840) hx hb dL_law_835 (by decide) (by omega) (fun _ => ?_) (fun c1 => absurd rfl c1)
  refine lv_iload hx hb dL_law_840 (lv_at hl 1 rfl) ?_
  refine wk_if_ne (tgt := 857) hx hb dL_law_842 (by decide) (by omega) (fun c1 => absurd rfl c1) (fun _ => ?_)
  refine lv_aload_n hx hb dL_law_845 rfl (lv_at hl 5 rfl) ?_
  refine lv_iconst (v := iI 0) hx hb dL_law_846 rfl ?_
  refine wk_lald (v := r0.toInt64) hx hb hK hP 0 3 rfl rfl (by decide) (by simp [vp_updL]) dL_law_847 ?_
  refine lv_iload hx hb dL_law_848 (lv_at hl 0 rfl) ?_
  refine lv_i2l (v := r0.toInt64) hx hb dL_law_850 rfl ?_
  refine wk_lcmpE hx hb rfl dL_law_851 ?_
  refine wk_if_eq (tgt := 857) hx hb dL_law_852 (by decide) (by omega) (fun _ => ?_) (fun c1 => absurd rfl c1)
  refine lv_goto (tgt := 953) hx hb dL_law_857 (by decide) ?_
  refine W.widen (k := cells + 1) (n := slots + 6) (Nat.le_succ _) (Nat.le_add_right slots 6) ?_
  exact kk H locs ls _ hP hD hS (lv_sub hl [2, 3, 4, 5, 6] rfl)
set_option maxRecDepth 100000 in
theorem lw_look_t1 {p : Program} {l : Launch} {e : Env} {s : State} {m : MethodId} {below : List Frame} {meth : Method} {c : Code} {b L : Nat} {xs : Nat → Int32} {D : va_G} {kI kZ kL kJ : ClassId} {Q : State → Prop} (C : lcA p l e s m meth c b L xs D kI kZ kL kJ) {H : Heap} {locs : List Loc} {ls : Array Slot} {cells slots : Nat} {g h ao : Nat} {i : Int} (hi : 0 ≤ i ∧ i + 3 < (L : Int)) {rX rM : Room} {WX WX' WM WM' : va_W} {q0 q1 q2 : Nat} {fsx fsm fsm' : List Value} {f : Nat → Int64} {r0 : Int32} (hg : WX[q0]? = some (g, .inr (6, fsx))) (hh : WM[q1]? = some (h, .inr (7, fsm))) (hh' : WM'[q2]? = some (h, .inr (7, fsm'))) (hcX : rX.cells = 1 ∧ rX.slots = 6 ∧ rX.frames + 1 + 1 ≤ 11 ∧ 8 + (5 + 11) + (8 + (3 + 11) + rX.locals) ≤ 390) (hcM : rM.cells = 0 ∧ rM.slots = 0 ∧ rM.frames + 1 ≤ 11 ∧ 8 + (3 + 11) + rM.locals ≤ 390)
    (hX : ∀ sz, CtT l yX6_look wsX6_look rX D vwCl (tyL kI kZ kL kJ) WX [.ref g, .int (iI (xz xs (i + 1))), .int (iI (xz xs (i + 2)))] "java/lang/IndexOutOfBoundsException" sz)
    (hM : ∀ sz, CtI l yX7_look wsX7_look rM D vwCl (tyL kI kZ kL kJ) WM [.ref h, .int (iI (xz xs (i + 1))), .int (iI (xz xs (i + 2)))] r0 WM' sz)
    (hT : ∀ sz, CtP l yX7_thrown wsX7_thrown { frames := 0, cells := 0, slots := 0, locals := 0 } D vwCl (tyL kI kZ kL kJ) WM' [.ref h] (iI 1) sz)
    (hroom : cells + 1 ≤ 601024 ∧ slots + 6 ≤ 7293000) (hP : va_P D vwCl ((oL kJ ao f :: WX) ++ WM) H) (hD : va_D (lA s) ((oL kJ ao f :: WX) ++ WM)) (hS : va_S (lA s) s.heap H locs) (hl : lv_has ls 7 [(0, .ref b), (1, .ref g), (2, .ref h), (3, .ref ao), (4, .int (iI i))])
    (kk : ∀ (H : Heap) (locs : List Loc) (ls : Array Slot) (f : Nat → Int64), va_P D vwCl ((oL kJ ao f :: WX) ++ WM') H → va_D (lA s) ((oL kJ ao f :: WX) ++ WM') → va_S (lA s) s.heap H locs → lv_has ls 7 [(0, .ref b), (1, .ref g), (2, .ref h), (3, .ref ao), (4, .int (iI i))] → W p l e room_1 s m #[Value.ref b] below meth c H locs (cells + 1) (slots + 6) Q (F0 m 953 ls [])) : W p l e room_1 s m #[Value.ref b] below meth c H locs cells slots Q (F0 m 792 ls []) := by
  obtain ⟨hx, hb, hr, hml, hown, hts, hX0, hbl, hlocks, hadm, hxT, hzT, hK, hL⟩ := C
  have hA : ∀ q, s.heap.size ≤ q → lA s q := fun q h => h
  have hbA : ¬ lA s b := fun h => by have h2 : s.heap.size ≤ b := h; omega
  have hr0 : cells ≤ 601024 ∧ slots ≤ 7293000 := by omega
  refine lv_aload_n hx hb dL_law_792 rfl (lv_at hl 1 rfl) ?_
  refine lv_aload_n hx hb dL_law_793 rfl (lv_at hl 0 rfl) ?_
  refine lv_iload hx hb dL_law_794 (lv_at hl 4 rfl) ?_
  refine lv_iconst (v := iI 1) hx hb dL_law_796 rfl ?_
  refine wk_iadd hx hb dL_law_797 ?_
  refine wk_sld hx hb hX0 hbl hbA hS (by omega) (by omega) rfl dL_law_798 ?_
  refine lv_aload_n hx hb dL_law_799 rfl (lv_at hl 0 rfl) ?_
  refine lv_iload hx hb dL_law_800 (lv_at hl 4 rfl) ?_
  refine lv_iconst (v := iI 2) hx hb dL_law_802 rfl ?_
  refine wk_iadd hx hb dL_law_803 ?_
  refine wk_sld hx hb hX0 hbl hbA hS (by omega) (by omega) rfl dL_law_804 ?_
  refine lv_aload_n hx hb dL_law_805 rfl (lv_at hl 3 rfl) ?_
  refine ck_backW (wh_runS (As := [.ref g, .int (iI (xz xs (i + 1))), .int (iI (xz xs (i + 2))), .ref ao]) (rest := []) ⟨hx, hb, hml, hown, hts⟩ (wL_look_t1 (r0 := 0) (u0 := []) (ao := ao) (f := f) H.size hg hcX.1 hcX.2.1 hX) (cwx 4 hts (fun w h => tb_tbl h) wd_592 wd_590 wd_591 wd_32 rfl rfl (by decide +kernel) ⟨hcX.2.2.1, hcX.2.2.2⟩) (ck_preW (lz_pre hzT hS) hxT hK hP hD (List.range' 0 (oL kJ ao f :: WX).length) (ap_C _ _) (tl_nd _ _)) rfl rfl hl.1 rfl (lv_room (Nat.le_of_ble_eq_true rfl)) dL_law_806 hroom) hP hD hS hA (List.range' 0 (oL kJ ao f :: WX).length) (List.range' (oL kJ ao f :: WX).length WM.length) (ap_C _ _) (ap_R _ _) (tl_nd _ _) (ap_dis _ _) (ws' := WM ++ ((oL kJ ao f) :: WX)) rfl (fun H locs hP hD hS => ?_)
  refine lv_istore (lv' := [(5, .int (iI 1)), (0, .ref b), (1, .ref g), (2, .ref h), (3, .ref ao), (4, .int (iI i))]) hx hb dL_law_809 hl (by decide) rfl (fun ls hl => ?_)
  have hr0 : cells + 1 ≤ 601024 ∧ slots + 6 ≤ 7293000 := hroom
  refine lv_aload_n hx hb dL_law_811 rfl (lv_at hl 3 rfl) ?_
  refine lv_aload_n hx hb dL_law_812 rfl (lv_at hl 1 rfl) ?_
  refine lv_iload hx hb dL_law_813 (lv_at hl 5 rfl) ?_
  refine lv_iconst (v := iI 1) hx hb dL_law_815 rfl ?_
  refine wk_iadd hx hb dL_law_816 ?_
  refine wk_sld hx hb hX0 hbl hbA hS (by omega) (by omega) rfl dL_law_817 ?_
  refine lv_aload_n hx hb dL_law_818 rfl (lv_at hl 1 rfl) ?_
  refine lv_iload hx hb dL_law_819 (lv_at hl 5 rfl) ?_
  refine lv_iconst (v := iI 2) hx hb dL_law_821 rfl ?_
  refine wk_iadd hx hb dL_law_822 ?_
  refine wk_sld hx hb hX0 hbl hbA hS (by omega) (by omega) rfl dL_law_823 ?_
  refine ck_backI (va_runV (As := [.int (iI (xz xs (i + 1))), .int (iI (xz xs (i + 2)))]) (rest := []) ⟨hx, hb, hml, hown, hts⟩ (hM H.size) (cwV 2 hts (gd_V (fun w h => tb_tbl h) wd_805 wd_806 wd_807 wd_41 wd_808) rfl hcM.1 hcM.2.1 (by decide +kernel) ⟨hcM.2.2.1, hcM.2.2.2⟩) (ck_preV hxT hK hP hD (List.range' 0 WM.length) (ap_C _ _) (tl_nd _ _) (q0 := q1) rfl rfl hh) rfl rfl hl.1 rfl (lv_room (Nat.le_of_ble_eq_true rfl)) dL_law_824 ⟨hr0.1, hr0.2⟩) hP hD hS hA (List.range' 0 WM.length) (List.range' WM.length ((oL kJ ao f) :: WX).length) (ap_C _ _) (ap_R _ _) (tl_nd _ _) (ap_dis _ _) (ws' := ((oL kJ ao f) :: WX) ++ WM') rfl (fun H locs hP hD hS => ?_)
  refine lv_istore (lv' := [(6, .int r0), (5, .int (iI 1)), (0, .ref b), (1, .ref g), (2, .ref h), (3, .ref ao), (4, .int (iI i))]) hx hb dL_law_827 hl (by decide) rfl (fun ls hl => ?_)
  refine lv_aload_n hx hb dL_law_829 rfl (lv_at hl 4 rfl) ?_
  refine pk_callI (va_runV (As := []) (rest := []) ⟨hx, hb, hml, hown, hts⟩ (hT H.size) (cwV 0 hts (gd_V (fun w h => tb_tbl h) wd_688 wd_689 wd_690 wd_41 wd_691) rfl rfl rfl (by decide +kernel) ⟨Nat.le_of_ble_eq_true rfl, Nat.le_of_ble_eq_true rfl⟩) (ck_preV hxT hK hP hD (List.range' ((oL kJ ao f) :: WX).length WM'.length) (ap_R _ _) (tl_nd _ _) (q0 := q2) rfl rfl hh') rfl rfl hl.1 rfl (lv_room (Nat.le_of_ble_eq_true rfl)) dL_law_830 ⟨hr0.1, hr0.2⟩) ?_
  refine lv_iload hx hb dL_law_833 (lv_at hl 1 rfl) ?_
  refine wk_icmp_eq (tgt := 840) hx hb dL_law_835 (by decide) (by omega) (fun _ => ?_) (fun c1 => absurd rfl c1)
  refine lv_iload hx hb dL_law_840 (lv_at hl 1 rfl) ?_
  refine wk_if_ne (tgt := 857) hx hb dL_law_842 (by decide) (by omega) (fun _ => ?_) (fun c1 => absurd c1 (by decide))
  refine lv_goto (tgt := 953) hx hb dL_law_857 (by decide) ?_
  exact kk H locs ls _ hP hD hS (lv_sub hl [2, 3, 4, 5, 6] rfl)
set_option maxRecDepth 100000 in
theorem lw_at_r {p : Program} {l : Launch} {e : Env} {s : State} {m : MethodId} {below : List Frame} {meth : Method} {c : Code} {b L : Nat} {xs : Nat → Int32} {D : va_G} {kI kZ kL kJ : ClassId} {Q : State → Prop} (C : lcA p l e s m meth c b L xs D kI kZ kL kJ) {H : Heap} {locs : List Loc} {ls : Array Slot} {cells slots : Nat} {g h ao : Nat} {i : Int} (hi : 0 ≤ i ∧ i + 3 < (L : Int)) {rX rM : Room} {WX WX' WM WM' : va_W} {q0 q1 q2 : Nat} {fsx fsm fsm' : List Value} {f : Nat → Int64} {r0 : Int32} (hg : WX[q0]? = some (g, .inr (6, fsx))) (hh : WM[q1]? = some (h, .inr (7, fsm))) (hh' : WM'[q2]? = some (h, .inr (7, fsm'))) (hcX : rX.cells = 0 ∧ rX.slots = 0 ∧ rX.frames + 1 + 1 ≤ 11 ∧ 8 + (5 + 11) + (8 + (3 + 11) + rX.locals) ≤ 390) (hcM : rM.cells = 0 ∧ rM.slots = 0 ∧ rM.frames + 1 ≤ 11 ∧ 8 + (3 + 11) + rM.locals ≤ 390)
    (hX : ∀ sz, CtI l yX6_at wsX6_at rX D vwCl (tyL kI kZ kL kJ) WX [.ref g, .int (iI (xz xs (i + 1))), .int (iI (xz xs (i + 2)))] r0 WX' sz)
    (hM : ∀ sz, CtI l yX7_at wsX7_at rM D vwCl (tyL kI kZ kL kJ) WM [.ref h, .int (iI (xz xs (i + 1))), .int (iI (xz xs (i + 2)))] r0 WM' sz)
    (hT : ∀ sz, CtP l yX7_thrown wsX7_thrown { frames := 0, cells := 0, slots := 0, locals := 0 } D vwCl (tyL kI kZ kL kJ) WM' [.ref h] (iI 0) sz)
    (hroom : cells + 1 ≤ 601024 ∧ slots + 6 ≤ 7293000) (hP : va_P D vwCl ((oL kJ ao f :: WX) ++ WM) H) (hD : va_D (lA s) ((oL kJ ao f :: WX) ++ WM)) (hS : va_S (lA s) s.heap H locs) (hl : lv_has ls 7 [(0, .ref b), (1, .ref g), (2, .ref h), (3, .ref ao), (4, .int (iI i))])
    (kk : ∀ (H : Heap) (locs : List Loc) (ls : Array Slot) (f : Nat → Int64), va_P D vwCl ((oL kJ ao f :: WX') ++ WM') H → va_D (lA s) ((oL kJ ao f :: WX') ++ WM') → va_S (lA s) s.heap H locs → lv_has ls 7 [(0, .ref b), (1, .ref g), (2, .ref h), (3, .ref ao), (4, .int (iI i))] → W p l e room_1 s m #[Value.ref b] below meth c H locs (cells + 1) (slots + 6) Q (F0 m 953 ls [])) : W p l e room_1 s m #[Value.ref b] below meth c H locs cells slots Q (F0 m 860 ls []) := by
  obtain ⟨hx, hb, hr, hml, hown, hts, hX0, hbl, hlocks, hadm, hxT, hzT, hK, hL⟩ := C
  have hA : ∀ q, s.heap.size ≤ q → lA s q := fun q h => h
  have hbA : ¬ lA s b := fun h => by have h2 : s.heap.size ≤ b := h; omega
  have hr0 : cells ≤ 601024 ∧ slots ≤ 7293000 := by omega
  refine lv_aload_n hx hb dL_law_860 rfl (lv_at hl 1 rfl) ?_
  refine lv_aload_n hx hb dL_law_861 rfl (lv_at hl 0 rfl) ?_
  refine lv_iload hx hb dL_law_862 (lv_at hl 4 rfl) ?_
  refine lv_iconst (v := iI 1) hx hb dL_law_864 rfl ?_
  refine wk_iadd hx hb dL_law_865 ?_
  refine wk_sld hx hb hX0 hbl hbA hS (by omega) (by omega) rfl dL_law_866 ?_
  refine lv_aload_n hx hb dL_law_867 rfl (lv_at hl 0 rfl) ?_
  refine lv_iload hx hb dL_law_868 (lv_at hl 4 rfl) ?_
  refine lv_iconst (v := iI 2) hx hb dL_law_870 rfl ?_
  refine wk_iadd hx hb dL_law_871 ?_
  refine wk_sld hx hb hX0 hbl hbA hS (by omega) (by omega) rfl dL_law_872 ?_
  refine lv_aload_n hx hb dL_law_873 rfl (lv_at hl 3 rfl) ?_
  refine ck_backW (wh_runS (As := [.ref g, .int (iI (xz xs (i + 1))), .int (iI (xz xs (i + 2))), .ref ao]) (rest := []) ⟨hx, hb, hml, hown, hts⟩ (wL_at_r (ao := ao) (f := f) H.size hg hcX.1 hcX.2.1 hX) (cwx 4 hts (fun w h => tb_tbl h) wd_600 wd_598 wd_599 wd_32 rfl rfl (by decide +kernel) ⟨hcX.2.2.1, hcX.2.2.2⟩) (ck_preW (lz_pre hzT hS) hxT hK hP hD (List.range' 0 (oL kJ ao f :: WX).length) (ap_C _ _) (tl_nd _ _)) rfl rfl hl.1 rfl (lv_room (Nat.le_of_ble_eq_true rfl)) dL_law_874 ⟨hr0.1, hr0.2⟩) hP hD hS hA (List.range' 0 (oL kJ ao f :: WX).length) (List.range' (oL kJ ao f :: WX).length WM.length) (ap_C _ _) (ap_R _ _) (tl_nd _ _) (ap_dis _ _) (ws' := WM ++ ((oL kJ ao (vp_updL f 0 r0.toInt64)) :: WX')) rfl (fun H locs hP hD hS => ?_)
  refine lv_istore (lv' := [(5, .int (iI 0)), (0, .ref b), (1, .ref g), (2, .ref h), (3, .ref ao), (4, .int (iI i))]) hx hb dL_law_877 hl (by decide) rfl (fun ls hl => ?_)
  refine lv_aload_n hx hb dL_law_879 rfl (lv_at hl 3 rfl) ?_
  refine lv_aload_n hx hb dL_law_880 rfl (lv_at hl 1 rfl) ?_
  refine lv_iload hx hb dL_law_881 (lv_at hl 5 rfl) ?_
  refine lv_iconst (v := iI 1) hx hb dL_law_883 rfl ?_
  refine wk_iadd hx hb dL_law_884 ?_
  refine wk_sld hx hb hX0 hbl hbA hS (by omega) (by omega) rfl dL_law_885 ?_
  refine lv_aload_n hx hb dL_law_886 rfl (lv_at hl 1 rfl) ?_
  refine lv_iload hx hb dL_law_887 (lv_at hl 5 rfl) ?_
  refine lv_iconst (v := iI 2) hx hb dL_law_889 rfl ?_
  refine wk_iadd hx hb dL_law_890 ?_
  refine wk_sld hx hb hX0 hbl hbA hS (by omega) (by omega) rfl dL_law_891 ?_
  refine ck_backI (va_runV (As := [.int (iI (xz xs (i + 1))), .int (iI (xz xs (i + 2)))]) (rest := []) ⟨hx, hb, hml, hown, hts⟩ (hM H.size) (cwV 2 hts (gd_V (fun w h => tb_tbl h) wd_809 wd_810 wd_811 wd_41 wd_812) rfl hcM.1 hcM.2.1 (by decide +kernel) ⟨hcM.2.2.1, hcM.2.2.2⟩) (ck_preV hxT hK hP hD (List.range' 0 WM.length) (ap_C _ _) (tl_nd _ _) (q0 := q1) rfl rfl hh) rfl rfl hl.1 rfl (lv_room (Nat.le_of_ble_eq_true rfl)) dL_law_892 ⟨hr0.1, hr0.2⟩) hP hD hS hA (List.range' 0 WM.length) (List.range' WM.length ((oL kJ ao (vp_updL f 0 r0.toInt64)) :: WX').length) (ap_C _ _) (ap_R _ _) (tl_nd _ _) (ap_dis _ _) (ws' := ((oL kJ ao (vp_updL f 0 r0.toInt64)) :: WX') ++ WM') rfl (fun H locs hP hD hS => ?_)
  refine lv_istore (lv' := [(6, .int r0), (5, .int (iI 0)), (0, .ref b), (1, .ref g), (2, .ref h), (3, .ref ao), (4, .int (iI i))]) hx hb dL_law_895 hl (by decide) rfl (fun ls hl => ?_)
  refine lv_aload_n hx hb dL_law_897 rfl (lv_at hl 4 rfl) ?_
  refine pk_callI (va_runV (As := []) (rest := []) ⟨hx, hb, hml, hown, hts⟩ (hT H.size) (cwV 0 hts (gd_V (fun w h => tb_tbl h) wd_688 wd_689 wd_690 wd_41 wd_691) rfl rfl rfl (by decide +kernel) ⟨Nat.le_of_ble_eq_true rfl, Nat.le_of_ble_eq_true rfl⟩) (ck_preV hxT hK hP hD (List.range' ((oL kJ ao (vp_updL f 0 r0.toInt64)) :: WX').length WM'.length) (ap_R _ _) (tl_nd _ _) (q0 := q2) rfl rfl hh') rfl rfl hl.1 rfl (lv_room (Nat.le_of_ble_eq_true rfl)) dL_law_898 ⟨hr0.1, hr0.2⟩) ?_
  refine lv_iload hx hb dL_law_901 (lv_at hl 1 rfl) ?_
  refine wk_icmp_eq (tgt := 908) hx hb dL_law_903 (by decide) (by omega) (fun _ => ?_) (fun c1 => absurd rfl c1)
  refine lv_iload hx hb dL_law_908 (lv_at hl 1 rfl) ?_
  refine wk_if_ne (tgt := 925) hx hb dL_law_910 (by decide) (by omega) (fun c1 => absurd rfl c1) (fun _ => ?_)
  refine lv_aload_n hx hb dL_law_913 rfl (lv_at hl 5 rfl) ?_
  refine lv_iconst (v := iI 0) hx hb dL_law_914 rfl ?_
  refine wk_lald (v := r0.toInt64) hx hb hK hP 0 3 rfl rfl (by decide) (by simp [vp_updL]) dL_law_915 ?_
  refine lv_iload hx hb dL_law_916 (lv_at hl 0 rfl) ?_
  refine lv_i2l (v := r0.toInt64) hx hb dL_law_918 rfl ?_
  refine wk_lcmpE hx hb rfl dL_law_919 ?_
  refine wk_if_eq (tgt := 925) hx hb dL_law_920 (by decide) (by omega) (fun _ => ?_) (fun c1 => absurd rfl c1)
  refine lv_goto (tgt := 953) hx hb dL_law_925 (by decide) ?_
  refine W.widen (k := cells + 1) (n := slots + 6) (Nat.le_succ _) (Nat.le_add_right slots 6) ?_
  exact kk H locs ls _ hP hD hS (lv_sub hl [2, 3, 4, 5, 6] rfl)
set_option maxRecDepth 100000 in
theorem lw_at_t1 {p : Program} {l : Launch} {e : Env} {s : State} {m : MethodId} {below : List Frame} {meth : Method} {c : Code} {b L : Nat} {xs : Nat → Int32} {D : va_G} {kI kZ kL kJ : ClassId} {Q : State → Prop} (C : lcA p l e s m meth c b L xs D kI kZ kL kJ) {H : Heap} {locs : List Loc} {ls : Array Slot} {cells slots : Nat} {g h ao : Nat} {i : Int} (hi : 0 ≤ i ∧ i + 3 < (L : Int)) {rX rM : Room} {WX WX' WM WM' : va_W} {q0 q1 q2 : Nat} {fsx fsm fsm' : List Value} {f : Nat → Int64} {r0 : Int32} (hg : WX[q0]? = some (g, .inr (6, fsx))) (hh : WM[q1]? = some (h, .inr (7, fsm))) (hh' : WM'[q2]? = some (h, .inr (7, fsm'))) (hcX : rX.cells = 1 ∧ rX.slots = 6 ∧ rX.frames + 1 + 1 ≤ 11 ∧ 8 + (5 + 11) + (8 + (3 + 11) + rX.locals) ≤ 390) (hcM : rM.cells = 0 ∧ rM.slots = 0 ∧ rM.frames + 1 ≤ 11 ∧ 8 + (3 + 11) + rM.locals ≤ 390)
    (hX : ∀ sz, CtT l yX6_at wsX6_at rX D vwCl (tyL kI kZ kL kJ) WX [.ref g, .int (iI (xz xs (i + 1))), .int (iI (xz xs (i + 2)))] "java/lang/IndexOutOfBoundsException" sz)
    (hM : ∀ sz, CtI l yX7_at wsX7_at rM D vwCl (tyL kI kZ kL kJ) WM [.ref h, .int (iI (xz xs (i + 1))), .int (iI (xz xs (i + 2)))] r0 WM' sz)
    (hT : ∀ sz, CtP l yX7_thrown wsX7_thrown { frames := 0, cells := 0, slots := 0, locals := 0 } D vwCl (tyL kI kZ kL kJ) WM' [.ref h] (iI 1) sz)
    (hroom : cells + 1 ≤ 601024 ∧ slots + 6 ≤ 7293000) (hP : va_P D vwCl ((oL kJ ao f :: WX) ++ WM) H) (hD : va_D (lA s) ((oL kJ ao f :: WX) ++ WM)) (hS : va_S (lA s) s.heap H locs) (hl : lv_has ls 7 [(0, .ref b), (1, .ref g), (2, .ref h), (3, .ref ao), (4, .int (iI i))])
    (kk : ∀ (H : Heap) (locs : List Loc) (ls : Array Slot) (f : Nat → Int64), va_P D vwCl ((oL kJ ao f :: WX) ++ WM') H → va_D (lA s) ((oL kJ ao f :: WX) ++ WM') → va_S (lA s) s.heap H locs → lv_has ls 7 [(0, .ref b), (1, .ref g), (2, .ref h), (3, .ref ao), (4, .int (iI i))] → W p l e room_1 s m #[Value.ref b] below meth c H locs (cells + 1) (slots + 6) Q (F0 m 953 ls [])) : W p l e room_1 s m #[Value.ref b] below meth c H locs cells slots Q (F0 m 860 ls []) := by
  obtain ⟨hx, hb, hr, hml, hown, hts, hX0, hbl, hlocks, hadm, hxT, hzT, hK, hL⟩ := C
  have hA : ∀ q, s.heap.size ≤ q → lA s q := fun q h => h
  have hbA : ¬ lA s b := fun h => by have h2 : s.heap.size ≤ b := h; omega
  have hr0 : cells ≤ 601024 ∧ slots ≤ 7293000 := by omega
  refine lv_aload_n hx hb dL_law_860 rfl (lv_at hl 1 rfl) ?_
  refine lv_aload_n hx hb dL_law_861 rfl (lv_at hl 0 rfl) ?_
  refine lv_iload hx hb dL_law_862 (lv_at hl 4 rfl) ?_
  refine lv_iconst (v := iI 1) hx hb dL_law_864 rfl ?_
  refine wk_iadd hx hb dL_law_865 ?_
  refine wk_sld hx hb hX0 hbl hbA hS (by omega) (by omega) rfl dL_law_866 ?_
  refine lv_aload_n hx hb dL_law_867 rfl (lv_at hl 0 rfl) ?_
  refine lv_iload hx hb dL_law_868 (lv_at hl 4 rfl) ?_
  refine lv_iconst (v := iI 2) hx hb dL_law_870 rfl ?_
  refine wk_iadd hx hb dL_law_871 ?_
  refine wk_sld hx hb hX0 hbl hbA hS (by omega) (by omega) rfl dL_law_872 ?_
  refine lv_aload_n hx hb dL_law_873 rfl (lv_at hl 3 rfl) ?_
  refine ck_backW (wh_runS (As := [.ref g, .int (iI (xz xs (i + 1))), .int (iI (xz xs (i + 2))), .ref ao]) (rest := []) ⟨hx, hb, hml, hown, hts⟩ (wL_at_t1 (r0 := 0) (u0 := []) (ao := ao) (f := f) H.size hg hcX.1 hcX.2.1 hX) (cwx 4 hts (fun w h => tb_tbl h) wd_600 wd_598 wd_599 wd_32 rfl rfl (by decide +kernel) ⟨hcX.2.2.1, hcX.2.2.2⟩) (ck_preW (lz_pre hzT hS) hxT hK hP hD (List.range' 0 (oL kJ ao f :: WX).length) (ap_C _ _) (tl_nd _ _)) rfl rfl hl.1 rfl (lv_room (Nat.le_of_ble_eq_true rfl)) dL_law_874 hroom) hP hD hS hA (List.range' 0 (oL kJ ao f :: WX).length) (List.range' (oL kJ ao f :: WX).length WM.length) (ap_C _ _) (ap_R _ _) (tl_nd _ _) (ap_dis _ _) (ws' := WM ++ ((oL kJ ao f) :: WX)) rfl (fun H locs hP hD hS => ?_)
  refine lv_istore (lv' := [(5, .int (iI 1)), (0, .ref b), (1, .ref g), (2, .ref h), (3, .ref ao), (4, .int (iI i))]) hx hb dL_law_877 hl (by decide) rfl (fun ls hl => ?_)
  have hr0 : cells + 1 ≤ 601024 ∧ slots + 6 ≤ 7293000 := hroom
  refine lv_aload_n hx hb dL_law_879 rfl (lv_at hl 3 rfl) ?_
  refine lv_aload_n hx hb dL_law_880 rfl (lv_at hl 1 rfl) ?_
  refine lv_iload hx hb dL_law_881 (lv_at hl 5 rfl) ?_
  refine lv_iconst (v := iI 1) hx hb dL_law_883 rfl ?_
  refine wk_iadd hx hb dL_law_884 ?_
  refine wk_sld hx hb hX0 hbl hbA hS (by omega) (by omega) rfl dL_law_885 ?_
  refine lv_aload_n hx hb dL_law_886 rfl (lv_at hl 1 rfl) ?_
  refine lv_iload hx hb dL_law_887 (lv_at hl 5 rfl) ?_
  refine lv_iconst (v := iI 2) hx hb dL_law_889 rfl ?_
  refine wk_iadd hx hb dL_law_890 ?_
  refine wk_sld hx hb hX0 hbl hbA hS (by omega) (by omega) rfl dL_law_891 ?_
  refine ck_backI (va_runV (As := [.int (iI (xz xs (i + 1))), .int (iI (xz xs (i + 2)))]) (rest := []) ⟨hx, hb, hml, hown, hts⟩ (hM H.size) (cwV 2 hts (gd_V (fun w h => tb_tbl h) wd_809 wd_810 wd_811 wd_41 wd_812) rfl hcM.1 hcM.2.1 (by decide +kernel) ⟨hcM.2.2.1, hcM.2.2.2⟩) (ck_preV hxT hK hP hD (List.range' 0 WM.length) (ap_C _ _) (tl_nd _ _) (q0 := q1) rfl rfl hh) rfl rfl hl.1 rfl (lv_room (Nat.le_of_ble_eq_true rfl)) dL_law_892 ⟨hr0.1, hr0.2⟩) hP hD hS hA (List.range' 0 WM.length) (List.range' WM.length ((oL kJ ao f) :: WX).length) (ap_C _ _) (ap_R _ _) (tl_nd _ _) (ap_dis _ _) (ws' := ((oL kJ ao f) :: WX) ++ WM') rfl (fun H locs hP hD hS => ?_)
  refine lv_istore (lv' := [(6, .int r0), (5, .int (iI 1)), (0, .ref b), (1, .ref g), (2, .ref h), (3, .ref ao), (4, .int (iI i))]) hx hb dL_law_895 hl (by decide) rfl (fun ls hl => ?_)
  refine lv_aload_n hx hb dL_law_897 rfl (lv_at hl 4 rfl) ?_
  refine pk_callI (va_runV (As := []) (rest := []) ⟨hx, hb, hml, hown, hts⟩ (hT H.size) (cwV 0 hts (gd_V (fun w h => tb_tbl h) wd_688 wd_689 wd_690 wd_41 wd_691) rfl rfl rfl (by decide +kernel) ⟨Nat.le_of_ble_eq_true rfl, Nat.le_of_ble_eq_true rfl⟩) (ck_preV hxT hK hP hD (List.range' ((oL kJ ao f) :: WX).length WM'.length) (ap_R _ _) (tl_nd _ _) (q0 := q2) rfl rfl hh') rfl rfl hl.1 rfl (lv_room (Nat.le_of_ble_eq_true rfl)) dL_law_898 ⟨hr0.1, hr0.2⟩) ?_
  refine lv_iload hx hb dL_law_901 (lv_at hl 1 rfl) ?_
  refine wk_icmp_eq (tgt := 908) hx hb dL_law_903 (by decide) (by omega) (fun _ => ?_) (fun c1 => absurd rfl c1)
  refine lv_iload hx hb dL_law_908 (lv_at hl 1 rfl) ?_
  refine wk_if_ne (tgt := 925) hx hb dL_law_910 (by decide) (by omega) (fun _ => ?_) (fun c1 => absurd c1 (by decide))
  refine lv_goto (tgt := 953) hx hb dL_law_925 (by decide) ?_
  exact kk H locs ls _ hP hD hS (lv_sub hl [2, 3, 4, 5, 6] rfl)
set_option maxRecDepth 100000 in
theorem lw_clear {p : Program} {l : Launch} {e : Env} {s : State} {m : MethodId} {below : List Frame} {meth : Method} {c : Code} {b L : Nat} {xs : Nat → Int32} {D : va_G} {kI kZ kL kJ : ClassId} {Q : State → Prop} (C : lcA p l e s m meth c b L xs D kI kZ kL kJ) {H : Heap} {locs : List Loc} {ls : Array Slot} {cells slots : Nat} {g h ao : Nat} {i : Int} (hi : 0 ≤ i ∧ i + 3 < (L : Int)) {rX rM : Room} {WX WX' WM WM' : va_W} {q0 q1 q2 : Nat} {fsx fsm fsm' : List Value} {f : Nat → Int64} {r0 : Int32} (hg : WX[q0]? = some (g, .inr (6, fsx))) (hh : WM[q1]? = some (h, .inr (7, fsm))) (hcX : rX.cells = 0 ∧ rX.slots = 0 ∧ rX.frames + 1 ≤ 11 ∧ 8 + (2 + 11) + rX.locals ≤ 390) (hcM : rM.cells = 0 ∧ rM.slots = 0 ∧ rM.frames + 1 ≤ 11 ∧ 8 + (2 + 11) + rM.locals ≤ 390)
    (hX : ∀ sz, CtI l yX6_clear wsX6_clear rX D vwCl (tyL kI kZ kL kJ) WX [.ref g] r0 WX' sz)
    (hM : ∀ sz, CtI l yX7_clear wsX7_clear rM D vwCl (tyL kI kZ kL kJ) WM [.ref h] r0 WM' sz)
    (hroom : cells + 1 ≤ 601024 ∧ slots + 6 ≤ 7293000) (hP : va_P D vwCl ((oL kJ ao f :: WX) ++ WM) H) (hD : va_D (lA s) ((oL kJ ao f :: WX) ++ WM)) (hS : va_S (lA s) s.heap H locs) (hl : lv_has ls 7 [(0, .ref b), (1, .ref g), (2, .ref h), (3, .ref ao), (4, .int (iI i))])
    (kk : ∀ (H : Heap) (locs : List Loc) (ls : Array Slot) (f : Nat → Int64), va_P D vwCl ((oL kJ ao f :: WX') ++ WM') H → va_D (lA s) ((oL kJ ao f :: WX') ++ WM') → va_S (lA s) s.heap H locs → lv_has ls 7 [(0, .ref b), (1, .ref g), (2, .ref h), (3, .ref ao), (4, .int (iI i))] → W p l e room_1 s m #[Value.ref b] below meth c H locs (cells + 1) (slots + 6) Q (F0 m 953 ls [])) : W p l e room_1 s m #[Value.ref b] below meth c H locs cells slots Q (F0 m 188 ls []) := by
  obtain ⟨hx, hb, hr, hml, hown, hts, hX0, hbl, hlocks, hadm, hxT, hzT, hK, hL⟩ := C
  have hA : ∀ q, s.heap.size ≤ q → lA s q := fun q h => h
  have hbA : ¬ lA s b := fun h => by have h2 : s.heap.size ≤ b := h; omega
  have hr0 : cells ≤ 601024 ∧ slots ≤ 7293000 := by omega
  refine lv_aload_n hx hb dL_law_188 rfl (lv_at hl 1 rfl) ?_
  refine ck_backI (va_runV (As := []) (rest := []) ⟨hx, hb, hml, hown, hts⟩ (fr_o (oL kJ ao f) hX H.size) (cwV 0 hts (gd_V (fun w h => tb_tbl h) wd_223 wd_224 wd_225 wd_33 wd_226) rfl hcX.1 hcX.2.1 (by decide +kernel) ⟨hcX.2.2.1, hcX.2.2.2⟩) (ck_preV hxT hK hP hD (List.range' 0 (oL kJ ao f :: WX).length) (ap_C _ _) (tl_nd _ _) (q0 := q0 + 1) rfl rfl hg) rfl rfl hl.1 rfl (lv_room (Nat.le_of_ble_eq_true rfl)) dL_law_189 ⟨hr0.1, hr0.2⟩) hP hD hS hA (List.range' 0 (oL kJ ao f :: WX).length) (List.range' (oL kJ ao f :: WX).length WM.length) (ap_C _ _) (ap_R _ _) (tl_nd _ _) (ap_dis _ _) (ws' := WM ++ (oL kJ ao f :: WX')) rfl (fun H locs hP hD hS => ?_)
  refine lv_aload_n hx hb dL_law_192 rfl (lv_at hl 2 rfl) ?_
  refine ck_backI (va_runV (As := []) (rest := [.int r0]) ⟨hx, hb, hml, hown, hts⟩ (hM H.size) (cwV 0 hts (gd_V (fun w h => tb_tbl h) wd_706 wd_707 wd_708 wd_41 wd_709) rfl hcM.1 hcM.2.1 (by decide +kernel) ⟨hcM.2.2.1, hcM.2.2.2⟩) (ck_preV hxT hK hP hD (List.range' 0 WM.length) (ap_C _ _) (tl_nd _ _) (q0 := q1) rfl rfl hh) rfl rfl hl.1 rfl (lv_room (Nat.le_of_ble_eq_true rfl)) dL_law_193 ⟨hr0.1, hr0.2⟩) hP hD hS hA (List.range' 0 WM.length) (List.range' WM.length (oL kJ ao f :: WX').length) (ap_C _ _) (ap_R _ _) (tl_nd _ _) (ap_dis _ _) (ws' := (oL kJ ao f :: WX') ++ WM') rfl (fun H locs hP hD hS => ?_)
  refine lv_icmp_eq (tgt := 953) hx hb dL_law_196 (by decide) (fun _ => ?_) (fun c1 => absurd rfl c1)
  refine W.widen (k := cells + 1) (n := slots + 6) (Nat.le_succ _) (Nat.le_add_right slots 6) ?_
  exact kk H locs ls _ hP hD hS hl
set_option maxRecDepth 100000 in
theorem lw_letter {p : Program} {l : Launch} {e : Env} {s : State} {m : MethodId} {below : List Frame} {meth : Method} {c : Code} {b L : Nat} {xs : Nat → Int32} {D : va_G} {kI kZ kL kJ : ClassId} {Q : State → Prop} (C : lcA p l e s m meth c b L xs D kI kZ kL kJ) {H : Heap} {locs : List Loc} {ls : Array Slot} {cells slots : Nat} {g h ao : Nat} {i : Int} (hi : 0 ≤ i ∧ i + 3 < (L : Int)) {rX rM : Room} {WX WX' WM WM' : va_W} {q0 q1 q2 : Nat} {fsx fsm fsm' : List Value} {f : Nat → Int64} {r0 : Int32} (hg : WX[q0]? = some (g, .inr (6, fsx))) (hh : WM[q1]? = some (h, .inr (7, fsm))) (hcX : rX.cells = 0 ∧ rX.slots = 0 ∧ rX.frames + 1 ≤ 11 ∧ 8 + (1 + 11) + rX.locals ≤ 390) (hcM : rM.cells = 0 ∧ rM.slots = 0 ∧ rM.frames + 1 ≤ 11 ∧ 8 + (1 + 11) + rM.locals ≤ 390)
    (hX : ∀ sz, CtI l yX6_letter wsX6_letter rX D vwCl (tyL kI kZ kL kJ) WX [.ref g] r0 WX' sz)
    (hM : ∀ sz, CtI l yX7_letter wsX7_letter rM D vwCl (tyL kI kZ kL kJ) WM [.ref h] r0 WM' sz)
    (hroom : cells + 1 ≤ 601024 ∧ slots + 6 ≤ 7293000) (hP : va_P D vwCl ((oL kJ ao f :: WX) ++ WM) H) (hD : va_D (lA s) ((oL kJ ao f :: WX) ++ WM)) (hS : va_S (lA s) s.heap H locs) (hl : lv_has ls 7 [(0, .ref b), (1, .ref g), (2, .ref h), (3, .ref ao), (4, .int (iI i))])
    (kk : ∀ (H : Heap) (locs : List Loc) (ls : Array Slot) (f : Nat → Int64), va_P D vwCl ((oL kJ ao f :: WX') ++ WM') H → va_D (lA s) ((oL kJ ao f :: WX') ++ WM') → va_S (lA s) s.heap H locs → lv_has ls 7 [(0, .ref b), (1, .ref g), (2, .ref h), (3, .ref ao), (4, .int (iI i))] → W p l e room_1 s m #[Value.ref b] below meth c H locs (cells + 1) (slots + 6) Q (F0 m 953 ls [])) : W p l e room_1 s m #[Value.ref b] below meth c H locs cells slots Q (F0 m 201 ls []) := by
  obtain ⟨hx, hb, hr, hml, hown, hts, hX0, hbl, hlocks, hadm, hxT, hzT, hK, hL⟩ := C
  have hA : ∀ q, s.heap.size ≤ q → lA s q := fun q h => h
  have hbA : ¬ lA s b := fun h => by have h2 : s.heap.size ≤ b := h; omega
  have hr0 : cells ≤ 601024 ∧ slots ≤ 7293000 := by omega
  refine lv_aload_n hx hb dL_law_201 rfl (lv_at hl 1 rfl) ?_
  refine ck_backI (va_runV (As := []) (rest := []) ⟨hx, hb, hml, hown, hts⟩ (fr_o (oL kJ ao f) hX H.size) (cwV 0 hts (gd_V (fun w h => tb_tbl h) wd_227 wd_228 wd_229 wd_33 wd_230) rfl hcX.1 hcX.2.1 (by decide +kernel) ⟨hcX.2.2.1, hcX.2.2.2⟩) (ck_preV hxT hK hP hD (List.range' 0 (oL kJ ao f :: WX).length) (ap_C _ _) (tl_nd _ _) (q0 := q0 + 1) rfl rfl hg) rfl rfl hl.1 rfl (lv_room (Nat.le_of_ble_eq_true rfl)) dL_law_202 ⟨hr0.1, hr0.2⟩) hP hD hS hA (List.range' 0 (oL kJ ao f :: WX).length) (List.range' (oL kJ ao f :: WX).length WM.length) (ap_C _ _) (ap_R _ _) (tl_nd _ _) (ap_dis _ _) (ws' := WM ++ (oL kJ ao f :: WX')) rfl (fun H locs hP hD hS => ?_)
  refine lv_aload_n hx hb dL_law_205 rfl (lv_at hl 2 rfl) ?_
  refine ck_backI (va_runV (As := []) (rest := [.int r0]) ⟨hx, hb, hml, hown, hts⟩ (hM H.size) (cwV 0 hts (gd_V (fun w h => tb_tbl h) wd_710 wd_711 wd_712 wd_41 wd_713) rfl hcM.1 hcM.2.1 (by decide +kernel) ⟨hcM.2.2.1, hcM.2.2.2⟩) (ck_preV hxT hK hP hD (List.range' 0 WM.length) (ap_C _ _) (tl_nd _ _) (q0 := q1) rfl rfl hh) rfl rfl hl.1 rfl (lv_room (Nat.le_of_ble_eq_true rfl)) dL_law_206 ⟨hr0.1, hr0.2⟩) hP hD hS hA (List.range' 0 WM.length) (List.range' WM.length (oL kJ ao f :: WX').length) (ap_C _ _) (ap_R _ _) (tl_nd _ _) (ap_dis _ _) (ws' := (oL kJ ao f :: WX') ++ WM') rfl (fun H locs hP hD hS => ?_)
  refine lv_icmp_eq (tgt := 953) hx hb dL_law_209 (by decide) (fun _ => ?_) (fun c1 => absurd rfl c1)
  refine W.widen (k := cells + 1) (n := slots + 6) (Nat.le_succ _) (Nat.le_add_right slots 6) ?_
  exact kk H locs ls _ hP hD hS hl
set_option maxRecDepth 100000 in
theorem lw_tolerance {p : Program} {l : Launch} {e : Env} {s : State} {m : MethodId} {below : List Frame} {meth : Method} {c : Code} {b L : Nat} {xs : Nat → Int32} {D : va_G} {kI kZ kL kJ : ClassId} {Q : State → Prop} (C : lcA p l e s m meth c b L xs D kI kZ kL kJ) {H : Heap} {locs : List Loc} {ls : Array Slot} {cells slots : Nat} {g h ao : Nat} {i : Int} (hi : 0 ≤ i ∧ i + 3 < (L : Int)) {rX rM : Room} {WX WX' WM WM' : va_W} {q0 q1 q2 : Nat} {fsx fsm fsm' : List Value} {f : Nat → Int64} {r0 : Int32} (hg : WX[q0]? = some (g, .inr (6, fsx))) (hh : WM[q1]? = some (h, .inr (7, fsm))) (hcX : rX.cells = 0 ∧ rX.slots = 0 ∧ rX.frames + 1 ≤ 11 ∧ 8 + (2 + 11) + rX.locals ≤ 390) (hcM : rM.cells = 0 ∧ rM.slots = 0 ∧ rM.frames + 1 ≤ 11 ∧ 8 + (2 + 11) + rM.locals ≤ 390)
    (hX : ∀ sz, CtI l yX6_tolerance wsX6_tolerance rX D vwCl (tyL kI kZ kL kJ) WX [.ref g, .int (iI (xz xs (i + 1)))] r0 WX' sz)
    (hM : ∀ sz, CtI l yX7_tolerance wsX7_tolerance rM D vwCl (tyL kI kZ kL kJ) WM [.ref h, .int (iI (xz xs (i + 1)))] r0 WM' sz)
    (hroom : cells + 1 ≤ 601024 ∧ slots + 6 ≤ 7293000) (hP : va_P D vwCl ((oL kJ ao f :: WX) ++ WM) H) (hD : va_D (lA s) ((oL kJ ao f :: WX) ++ WM)) (hS : va_S (lA s) s.heap H locs) (hl : lv_has ls 7 [(0, .ref b), (1, .ref g), (2, .ref h), (3, .ref ao), (4, .int (iI i))])
    (kk : ∀ (H : Heap) (locs : List Loc) (ls : Array Slot) (f : Nat → Int64), va_P D vwCl ((oL kJ ao f :: WX') ++ WM') H → va_D (lA s) ((oL kJ ao f :: WX') ++ WM') → va_S (lA s) s.heap H locs → lv_has ls 7 [(0, .ref b), (1, .ref g), (2, .ref h), (3, .ref ao), (4, .int (iI i))] → W p l e room_1 s m #[Value.ref b] below meth c H locs (cells + 1) (slots + 6) Q (F0 m 953 ls [])) : W p l e room_1 s m #[Value.ref b] below meth c H locs cells slots Q (F0 m 606 ls []) := by
  obtain ⟨hx, hb, hr, hml, hown, hts, hX0, hbl, hlocks, hadm, hxT, hzT, hK, hL⟩ := C
  have hA : ∀ q, s.heap.size ≤ q → lA s q := fun q h => h
  have hbA : ¬ lA s b := fun h => by have h2 : s.heap.size ≤ b := h; omega
  have hr0 : cells ≤ 601024 ∧ slots ≤ 7293000 := by omega
  refine lv_aload_n hx hb dL_law_606 rfl (lv_at hl 1 rfl) ?_
  refine lv_aload_n hx hb dL_law_607 rfl (lv_at hl 0 rfl) ?_
  refine lv_iload hx hb dL_law_608 (lv_at hl 4 rfl) ?_
  refine lv_iconst (v := iI 1) hx hb dL_law_610 rfl ?_
  refine wk_iadd hx hb dL_law_611 ?_
  refine wk_sld hx hb hX0 hbl hbA hS (by omega) (by omega) rfl dL_law_612 ?_
  refine ck_backI (va_runV (As := [.int (iI (xz xs (i + 1)))]) (rest := []) ⟨hx, hb, hml, hown, hts⟩ (fr_o (oL kJ ao f) hX H.size) (cwV 1 hts (gd_V (fun w h => tb_tbl h) wd_241 wd_242 wd_243 wd_33 wd_244) rfl hcX.1 hcX.2.1 (by decide +kernel) ⟨hcX.2.2.1, hcX.2.2.2⟩) (ck_preV hxT hK hP hD (List.range' 0 (oL kJ ao f :: WX).length) (ap_C _ _) (tl_nd _ _) (q0 := q0 + 1) rfl rfl hg) rfl rfl hl.1 rfl (lv_room (Nat.le_of_ble_eq_true rfl)) dL_law_613 ⟨hr0.1, hr0.2⟩) hP hD hS hA (List.range' 0 (oL kJ ao f :: WX).length) (List.range' (oL kJ ao f :: WX).length WM.length) (ap_C _ _) (ap_R _ _) (tl_nd _ _) (ap_dis _ _) (ws' := WM ++ (oL kJ ao f :: WX')) rfl (fun H locs hP hD hS => ?_)
  refine lv_aload_n hx hb dL_law_616 rfl (lv_at hl 2 rfl) ?_
  refine lv_aload_n hx hb dL_law_617 rfl (lv_at hl 0 rfl) ?_
  refine lv_iload hx hb dL_law_618 (lv_at hl 4 rfl) ?_
  refine lv_iconst (v := iI 1) hx hb dL_law_620 rfl ?_
  refine wk_iadd hx hb dL_law_621 ?_
  refine wk_sld hx hb hX0 hbl hbA hS (by omega) (by omega) rfl dL_law_622 ?_
  refine ck_backI (va_runV (As := [.int (iI (xz xs (i + 1)))]) (rest := [.int r0]) ⟨hx, hb, hml, hown, hts⟩ (hM H.size) (cwV 1 hts (gd_V (fun w h => tb_tbl h) wd_789 wd_790 wd_791 wd_41 wd_792) rfl hcM.1 hcM.2.1 (by decide +kernel) ⟨hcM.2.2.1, hcM.2.2.2⟩) (ck_preV hxT hK hP hD (List.range' 0 WM.length) (ap_C _ _) (tl_nd _ _) (q0 := q1) rfl rfl hh) rfl rfl hl.1 rfl (lv_room (Nat.le_of_ble_eq_true rfl)) dL_law_623 ⟨hr0.1, hr0.2⟩) hP hD hS hA (List.range' 0 WM.length) (List.range' WM.length (oL kJ ao f :: WX').length) (ap_C _ _) (ap_R _ _) (tl_nd _ _) (ap_dis _ _) (ws' := (oL kJ ao f :: WX') ++ WM') rfl (fun H locs hP hD hS => ?_)
  refine lv_icmp_eq (tgt := 953) hx hb dL_law_626 (by decide) (fun _ => ?_) (fun c1 => absurd rfl c1)
  refine W.widen (k := cells + 1) (n := slots + 6) (Nat.le_succ _) (Nat.le_add_right slots 6) ?_
  exact kk H locs ls _ hP hD hS hl
set_option maxRecDepth 100000 in
theorem lw_queue {p : Program} {l : Launch} {e : Env} {s : State} {m : MethodId} {below : List Frame} {meth : Method} {c : Code} {b L : Nat} {xs : Nat → Int32} {D : va_G} {kI kZ kL kJ : ClassId} {Q : State → Prop} (C : lcA p l e s m meth c b L xs D kI kZ kL kJ) {H : Heap} {locs : List Loc} {ls : Array Slot} {cells slots : Nat} {g h ao : Nat} {i : Int} (hi : 0 ≤ i ∧ i + 3 < (L : Int)) {rX rM : Room} {WX WX' WM WM' : va_W} {q0 q1 q2 : Nat} {fsx fsm fsm' : List Value} {f : Nat → Int64} {r0 : Int32} (hg : WX[q0]? = some (g, .inr (6, fsx))) (hh : WM[q1]? = some (h, .inr (7, fsm))) (hcX : rX.cells = 0 ∧ rX.slots = 0 ∧ rX.frames + 1 ≤ 11 ∧ 8 + (3 + 11) + rX.locals ≤ 390) (hcM : rM.cells = 0 ∧ rM.slots = 0 ∧ rM.frames + 1 ≤ 11 ∧ 8 + (3 + 11) + rM.locals ≤ 390)
    (hX : ∀ sz, CtI l yX6_queue wsX6_queue rX D vwCl (tyL kI kZ kL kJ) WX [.ref g, .int (iI (xz xs (i + 1))), .int (iI (xz xs (i + 2)))] r0 WX' sz)
    (hM : ∀ sz, CtI l yX7_queue wsX7_queue rM D vwCl (tyL kI kZ kL kJ) WM [.ref h, .int (iI (xz xs (i + 1))), .int (iI (xz xs (i + 2)))] r0 WM' sz)
    (hroom : cells + 1 ≤ 601024 ∧ slots + 6 ≤ 7293000) (hP : va_P D vwCl ((oL kJ ao f :: WX) ++ WM) H) (hD : va_D (lA s) ((oL kJ ao f :: WX) ++ WM)) (hS : va_S (lA s) s.heap H locs) (hl : lv_has ls 7 [(0, .ref b), (1, .ref g), (2, .ref h), (3, .ref ao), (4, .int (iI i))])
    (kk : ∀ (H : Heap) (locs : List Loc) (ls : Array Slot) (f : Nat → Int64), va_P D vwCl ((oL kJ ao f :: WX') ++ WM') H → va_D (lA s) ((oL kJ ao f :: WX') ++ WM') → va_S (lA s) s.heap H locs → lv_has ls 7 [(0, .ref b), (1, .ref g), (2, .ref h), (3, .ref ao), (4, .int (iI i))] → W p l e room_1 s m #[Value.ref b] below meth c H locs (cells + 1) (slots + 6) Q (F0 m 953 ls [])) : W p l e room_1 s m #[Value.ref b] below meth c H locs cells slots Q (F0 m 755 ls []) := by
  obtain ⟨hx, hb, hr, hml, hown, hts, hX0, hbl, hlocks, hadm, hxT, hzT, hK, hL⟩ := C
  have hA : ∀ q, s.heap.size ≤ q → lA s q := fun q h => h
  have hbA : ¬ lA s b := fun h => by have h2 : s.heap.size ≤ b := h; omega
  have hr0 : cells ≤ 601024 ∧ slots ≤ 7293000 := by omega
  refine lv_aload_n hx hb dL_law_755 rfl (lv_at hl 1 rfl) ?_
  refine lv_aload_n hx hb dL_law_756 rfl (lv_at hl 0 rfl) ?_
  refine lv_iload hx hb dL_law_757 (lv_at hl 4 rfl) ?_
  refine lv_iconst (v := iI 1) hx hb dL_law_759 rfl ?_
  refine wk_iadd hx hb dL_law_760 ?_
  refine wk_sld hx hb hX0 hbl hbA hS (by omega) (by omega) rfl dL_law_761 ?_
  refine lv_aload_n hx hb dL_law_762 rfl (lv_at hl 0 rfl) ?_
  refine lv_iload hx hb dL_law_763 (lv_at hl 4 rfl) ?_
  refine lv_iconst (v := iI 2) hx hb dL_law_765 rfl ?_
  refine wk_iadd hx hb dL_law_766 ?_
  refine wk_sld hx hb hX0 hbl hbA hS (by omega) (by omega) rfl dL_law_767 ?_
  refine ck_backI (va_runV (As := [.int (iI (xz xs (i + 1))), .int (iI (xz xs (i + 2)))]) (rest := []) ⟨hx, hb, hml, hown, hts⟩ (fr_o (oL kJ ao f) hX H.size) (cwV 2 hts (gd_V (fun w h => tb_tbl h) wd_245 wd_246 wd_247 wd_33 wd_248) rfl hcX.1 hcX.2.1 (by decide +kernel) ⟨hcX.2.2.1, hcX.2.2.2⟩) (ck_preV hxT hK hP hD (List.range' 0 (oL kJ ao f :: WX).length) (ap_C _ _) (tl_nd _ _) (q0 := q0 + 1) rfl rfl hg) rfl rfl hl.1 rfl (lv_room (Nat.le_of_ble_eq_true rfl)) dL_law_768 ⟨hr0.1, hr0.2⟩) hP hD hS hA (List.range' 0 (oL kJ ao f :: WX).length) (List.range' (oL kJ ao f :: WX).length WM.length) (ap_C _ _) (ap_R _ _) (tl_nd _ _) (ap_dis _ _) (ws' := WM ++ (oL kJ ao f :: WX')) rfl (fun H locs hP hD hS => ?_)
  refine lv_aload_n hx hb dL_law_771 rfl (lv_at hl 2 rfl) ?_
  refine lv_aload_n hx hb dL_law_772 rfl (lv_at hl 0 rfl) ?_
  refine lv_iload hx hb dL_law_773 (lv_at hl 4 rfl) ?_
  refine lv_iconst (v := iI 1) hx hb dL_law_775 rfl ?_
  refine wk_iadd hx hb dL_law_776 ?_
  refine wk_sld hx hb hX0 hbl hbA hS (by omega) (by omega) rfl dL_law_777 ?_
  refine lv_aload_n hx hb dL_law_778 rfl (lv_at hl 0 rfl) ?_
  refine lv_iload hx hb dL_law_779 (lv_at hl 4 rfl) ?_
  refine lv_iconst (v := iI 2) hx hb dL_law_781 rfl ?_
  refine wk_iadd hx hb dL_law_782 ?_
  refine wk_sld hx hb hX0 hbl hbA hS (by omega) (by omega) rfl dL_law_783 ?_
  refine ck_backI (va_runV (As := [.int (iI (xz xs (i + 1))), .int (iI (xz xs (i + 2)))]) (rest := [.int r0]) ⟨hx, hb, hml, hown, hts⟩ (hM H.size) (cwV 2 hts (gd_V (fun w h => tb_tbl h) wd_801 wd_802 wd_803 wd_41 wd_804) rfl hcM.1 hcM.2.1 (by decide +kernel) ⟨hcM.2.2.1, hcM.2.2.2⟩) (ck_preV hxT hK hP hD (List.range' 0 WM.length) (ap_C _ _) (tl_nd _ _) (q0 := q1) rfl rfl hh) rfl rfl hl.1 rfl (lv_room (Nat.le_of_ble_eq_true rfl)) dL_law_784 ⟨hr0.1, hr0.2⟩) hP hD hS hA (List.range' 0 WM.length) (List.range' WM.length (oL kJ ao f :: WX').length) (ap_C _ _) (ap_R _ _) (tl_nd _ _) (ap_dis _ _) (ws' := (oL kJ ao f :: WX') ++ WM') rfl (fun H locs hP hD hS => ?_)
  refine lv_icmp_eq (tgt := 953) hx hb dL_law_787 (by decide) (fun _ => ?_) (fun c1 => absurd rfl c1)
  refine W.widen (k := cells + 1) (n := slots + 6) (Nat.le_succ _) (Nat.le_add_right slots 6) ?_
  exact kk H locs ls _ hP hD hS hl
set_option maxRecDepth 100000 in
theorem lw_count {p : Program} {l : Launch} {e : Env} {s : State} {m : MethodId} {below : List Frame} {meth : Method} {c : Code} {b L : Nat} {xs : Nat → Int32} {D : va_G} {kI kZ kL kJ : ClassId} {Q : State → Prop} (C : lcA p l e s m meth c b L xs D kI kZ kL kJ) {H : Heap} {locs : List Loc} {ls : Array Slot} {cells slots : Nat} {g h ao : Nat} {i : Int} (hi : 0 ≤ i ∧ i + 3 < (L : Int)) {rX rM : Room} {WX WX' WM WM' : va_W} {q0 q1 q2 : Nat} {fsx fsm fsm' : List Value} {f : Nat → Int64} {r0 : Int32} (hg : WX[q0]? = some (g, .inr (6, fsx))) (hh : WM[q1]? = some (h, .inr (7, fsm))) (hcX : rX.cells = 0 ∧ rX.slots = 0 ∧ rX.frames + 1 ≤ 11 ∧ 8 + (3 + 11) + rX.locals ≤ 390) (hcM : rM.cells = 0 ∧ rM.slots = 0 ∧ rM.frames + 1 ≤ 11 ∧ 8 + (2 + 11) + rM.locals ≤ 390)
    (hX : ∀ sz, CtI l yX6_count wsX6_count rX D vwCl (tyL kI kZ kL kJ) WX [.ref g, .int (iI (xz xs (i + 1)))] r0 WX' sz)
    (hM : ∀ sz, CtI l yX7_count wsX7_count rM D vwCl (tyL kI kZ kL kJ) WM [.ref h, .int (iI (xz xs (i + 1)))] r0 WM' sz)
    (hroom : cells + 1 ≤ 601024 ∧ slots + 6 ≤ 7293000) (hP : va_P D vwCl ((oL kJ ao f :: WX) ++ WM) H) (hD : va_D (lA s) ((oL kJ ao f :: WX) ++ WM)) (hS : va_S (lA s) s.heap H locs) (hl : lv_has ls 7 [(0, .ref b), (1, .ref g), (2, .ref h), (3, .ref ao), (4, .int (iI i))])
    (kk : ∀ (H : Heap) (locs : List Loc) (ls : Array Slot) (f : Nat → Int64), va_P D vwCl ((oL kJ ao f :: WX') ++ WM') H → va_D (lA s) ((oL kJ ao f :: WX') ++ WM') → va_S (lA s) s.heap H locs → lv_has ls 7 [(0, .ref b), (1, .ref g), (2, .ref h), (3, .ref ao), (4, .int (iI i))] → W p l e room_1 s m #[Value.ref b] below meth c H locs (cells + 1) (slots + 6) Q (F0 m 953 ls [])) : W p l e room_1 s m #[Value.ref b] below meth c H locs cells slots Q (F0 m 928 ls []) := by
  obtain ⟨hx, hb, hr, hml, hown, hts, hX0, hbl, hlocks, hadm, hxT, hzT, hK, hL⟩ := C
  have hA : ∀ q, s.heap.size ≤ q → lA s q := fun q h => h
  have hbA : ¬ lA s b := fun h => by have h2 : s.heap.size ≤ b := h; omega
  have hr0 : cells ≤ 601024 ∧ slots ≤ 7293000 := by omega
  refine lv_aload_n hx hb dL_law_928 rfl (lv_at hl 1 rfl) ?_
  refine lv_aload_n hx hb dL_law_929 rfl (lv_at hl 0 rfl) ?_
  refine lv_iload hx hb dL_law_930 (lv_at hl 4 rfl) ?_
  refine lv_iconst (v := iI 1) hx hb dL_law_932 rfl ?_
  refine wk_iadd hx hb dL_law_933 ?_
  refine wk_sld hx hb hX0 hbl hbA hS (by omega) (by omega) rfl dL_law_934 ?_
  refine ck_backI (va_runV (As := [.int (iI (xz xs (i + 1)))]) (rest := []) ⟨hx, hb, hml, hown, hts⟩ (fr_o (oL kJ ao f) hX H.size) (cwV 1 hts (gd_V (fun w h => tb_tbl h) wd_256 wd_257 wd_258 wd_33 wd_259) rfl hcX.1 hcX.2.1 (by decide +kernel) ⟨hcX.2.2.1, hcX.2.2.2⟩) (ck_preV hxT hK hP hD (List.range' 0 (oL kJ ao f :: WX).length) (ap_C _ _) (tl_nd _ _) (q0 := q0 + 1) rfl rfl hg) rfl rfl hl.1 rfl (lv_room (Nat.le_of_ble_eq_true rfl)) dL_law_935 ⟨hr0.1, hr0.2⟩) hP hD hS hA (List.range' 0 (oL kJ ao f :: WX).length) (List.range' (oL kJ ao f :: WX).length WM.length) (ap_C _ _) (ap_R _ _) (tl_nd _ _) (ap_dis _ _) (ws' := WM ++ (oL kJ ao f :: WX')) rfl (fun H locs hP hD hS => ?_)
  refine lv_aload_n hx hb dL_law_938 rfl (lv_at hl 2 rfl) ?_
  refine lv_aload_n hx hb dL_law_939 rfl (lv_at hl 0 rfl) ?_
  refine lv_iload hx hb dL_law_940 (lv_at hl 4 rfl) ?_
  refine lv_iconst (v := iI 1) hx hb dL_law_942 rfl ?_
  refine wk_iadd hx hb dL_law_943 ?_
  refine wk_sld hx hb hX0 hbl hbA hS (by omega) (by omega) rfl dL_law_944 ?_
  refine ck_backI (va_runV (As := [.int (iI (xz xs (i + 1)))]) (rest := [.int r0]) ⟨hx, hb, hml, hown, hts⟩ (hM H.size) (cwV 1 hts (gd_V (fun w h => tb_tbl h) wd_813 wd_814 wd_815 wd_41 wd_816) rfl hcM.1 hcM.2.1 (by decide +kernel) ⟨hcM.2.2.1, hcM.2.2.2⟩) (ck_preV hxT hK hP hD (List.range' 0 WM.length) (ap_C _ _) (tl_nd _ _) (q0 := q1) rfl rfl hh) rfl rfl hl.1 rfl (lv_room (Nat.le_of_ble_eq_true rfl)) dL_law_945 ⟨hr0.1, hr0.2⟩) hP hD hS hA (List.range' 0 WM.length) (List.range' WM.length (oL kJ ao f :: WX').length) (ap_C _ _) (ap_R _ _) (tl_nd _ _) (ap_dis _ _) (ws' := (oL kJ ao f :: WX') ++ WM') rfl (fun H locs hP hD hS => ?_)
  refine lv_icmp_eq (tgt := 953) hx hb dL_law_948 (by decide) (fun _ => ?_) (fun c1 => absurd rfl c1)
  refine W.widen (k := cells + 1) (n := slots + 6) (Nat.le_succ _) (Nat.le_add_right slots 6) ?_
  exact kk H locs ls _ hP hD hS hl
