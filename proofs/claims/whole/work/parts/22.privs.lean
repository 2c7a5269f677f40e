set_option maxHeartbeats 4000000 in
set_option maxRecDepth 100000 in
theorem tX6_needSlot (l : Launch) (D : va_G) (kI : ClassId) (kZ : ClassId) (kL : ClassId) (kJ : ClassId) (g : Nat) (aR : Nat) (aB : Nat) (aT : Nat) (aS : Nat) (aK : Nat) (aL : Nat) (aSt : Nat) (nw : Int) (al : Int) (lg : Int) (tt : Int) (dn : Int) (sn : Int) (sm : Int) (sl : Int) (sz : Nat) (hsl : 0 ≤ sl ∧ sl < sn) (hsn : 1 ≤ sn ∧ sn ≤ 24) : CtPv l yX6_needSlot wsX6_needSlot ({ frames := 1, cells := 0, slots := 0, locals := 21 }) D vwCl (tyL kI kZ kL kJ) [(g, .inr (6, [.ref aR, .ref aB, .ref aT, .ref aS, .ref aK, .ref aL, .int (iI nw), .int (iI al), .int (iI lg), .int (iI tt), .int (iI dn)])), (aS, .inr (4, [.ref aSt, .int (iI sn), .int (iI sm)]))] [.ref g, .int (iI sl)] sz := by
  refine pk_start (cc := cX6_needSlot) (maxL := 2) (ret := none) (LV := [(0, .ref g), (1, .int (iI sl))]) (by decide) rfl rfl (Nat.le_of_ble_eq_true rfl) ?_
  intro p e s m below meth cd hadm hx hb hr hml hts hown hlocks hname hnoh hxT A hA hK hP hD hS ls hl
  refine lv_aload_n hx hb dX6_needSlot_0 rfl (lv_at hl 0 rfl) ?_
  refine va_get (D := D) (ci := 6) (v := .ref aS) (C := RX6) (T := TX6) (N := 11) hx hb hts (fun w h => (List.mem_cons_of_mem _ (hinX6 w h))) hown hK hP 0 rfl rfl 3 (by decide) (hts _ (List.mem_cons_of_mem _ wd_192)) (fun _ h9 => h9) rfl dX6_needSlot_1 ?_
  refine lv_iload_n hx hb dX6_needSlot_4 rfl (lv_at hl 1 rfl) ?_
  refine pk_callI (va_runV (As := [.int (iI sl)]) (rest := []) ⟨hx, hb, hml, hown, hts⟩ (tX4_has l D kI kZ kL kJ aS aSt sn sm sl s.heap.size (by first | assumption | omega) (by first | assumption | omega)) (cwV 1 hts (gd_V tb_cons wd_260 wd_261 wd_262 wd_37 wd_263) rfl rfl rfl (by decide +kernel) ⟨Nat.le_of_ble_eq_true rfl, Nat.le_of_ble_eq_true rfl⟩) (ck_preV hxT hK hP hD [1] rfl (by decide) (q0 := 0) rfl rfl rfl) rfl rfl hl.1 rfl (lv_room (Nat.le_of_ble_eq_true rfl)) dX6_needSlot_5 ⟨Nat.zero_le _, Nat.zero_le _⟩) ?_
  refine wk_bif_ne (tgt := 21) hx hb dX6_needSlot_8 (by decide) (fun c_1 => ?_) (fun c_1 => ?_)
  · skip
    exact pk_void hx hb hr hlocks dX6_needSlot_21
  · skip
    exfalso; omega

set_option maxHeartbeats 4000000 in
set_option maxRecDepth 100000 in
theorem tX6_needSlot_t (l : Launch) (D : va_G) (kI : ClassId) (kZ : ClassId) (kL : ClassId) (kJ : ClassId) (g : Nat) (aR : Nat) (aB : Nat) (aT : Nat) (aS : Nat) (aK : Nat) (aL : Nat) (aSt : Nat) (nw : Int) (al : Int) (lg : Int) (tt : Int) (dn : Int) (sn : Int) (sm : Int) (sl : Int) (sz : Nat) (hfl : l.flags = pinnedFlags ++ [noTraceFlag]) (hsl : -2147483648 ≤ sl ∧ sl ≤ 2147483647) (hnsl : ¬ (0 ≤ sl ∧ sl < sn)) (hsn : 1 ≤ sn ∧ sn ≤ 24) : CtT l yX6_needSlot wsX6_needSlot ({ frames := 6, cells := 1, slots := 6, locals := 82 }) D vwCl (tyL kI kZ kL kJ) [(g, .inr (6, [.ref aR, .ref aB, .ref aT, .ref aS, .ref aK, .ref aL, .int (iI nw), .int (iI al), .int (iI lg), .int (iI tt), .int (iI dn)])), (aS, .inr (4, [.ref aSt, .int (iI sn), .int (iI sm)]))] [.ref g, .int (iI sl)] "java/lang/IndexOutOfBoundsException" sz := by
  refine ct_start (cc := cX6_needSlot) (maxL := 2) (ret := none) (LV := [(0, .ref g), (1, .int (iI sl))]) (by decide) rfl rfl (Nat.le_of_ble_eq_true rfl) ?_
  intro p e s m below meth cd hadm hx hb hr hml hts hown hlocks hname hnoh hxT hzT A hA hK hP hD hS ls hl
  refine lv_aload_n hx hb dX6_needSlot_0 rfl (lv_at hl 0 rfl) ?_
  refine va_get (D := D) (ci := 6) (v := .ref aS) (C := RX6) (T := TX6) (N := 11) hx hb hts (fun w h => (List.mem_cons_of_mem _ (hinX6 w h))) hown hK hP 0 rfl rfl 3 (by decide) (hts _ (List.mem_cons_of_mem _ wd_192)) (fun _ h9 => h9) rfl dX6_needSlot_1 ?_
  refine lv_iload_n hx hb dX6_needSlot_4 rfl (lv_at hl 1 rfl) ?_
  refine pk_callI (va_runV (As := [.int (iI sl)]) (rest := []) ⟨hx, hb, hml, hown, hts⟩ (tX4_has l D kI kZ kL kJ aS aSt sn sm sl s.heap.size (by first | assumption | omega) (by first | assumption | omega)) (cwV 1 hts (gd_V tb_cons wd_260 wd_261 wd_262 wd_37 wd_263) rfl rfl rfl (by decide +kernel) ⟨Nat.le_of_ble_eq_true rfl, Nat.le_of_ble_eq_true rfl⟩) (ck_preV hxT hK hP hD [1] rfl (by decide) (q0 := 0) rfl rfl rfl) rfl rfl hl.1 rfl (lv_room (Nat.le_of_ble_eq_true rfl)) dX6_needSlot_5 ⟨Nat.zero_le _, Nat.zero_le _⟩) ?_
  refine wk_bif_ne (tgt := 21) hx hb dX6_needSlot_8 (by decide) (fun c_1 => ?_) (fun c_1 => ?_)
  · skip
    exfalso; omega
  · skip
    obtain ⟨q9, hZ9⟩ := xt_s255 hxT
    exact wt_new (names := exN) hx hb hown (Launch.traces_off hfl hadm) hlocks hnoh (hl.1.trans hml.symm) (by decide) (by decide) (ex_i (fun w h => hts w (List.mem_cons_of_mem _ h)) hzT hxT) (hts _ (List.mem_cons_of_mem _ wd_419)) (hts _ (List.mem_cons_of_mem _ wd_47)) hZ9 dX6_needSlot_11 dX6_needSlot_14 dX6_needSlot_15 dX6_needSlot_17 dX6_needSlot_20 (Nat.le_of_ble_eq_true rfl) (Nat.le_of_ble_eq_true rfl) (Nat.le_of_ble_eq_true rfl) (Nat.le_of_ble_eq_true rfl)

set_option maxHeartbeats 4000000 in
set_option maxRecDepth 100000 in
theorem tX6_needTruck (l : Launch) (D : va_G) (kI : ClassId) (kZ : ClassId) (kL : ClassId) (kJ : ClassId) (g : Nat) (aR : Nat) (aB : Nat) (aT : Nat) (aS : Nat) (aK : Nat) (aL : Nat) (nw : Int) (al : Int) (lg : Int) (tt : Int) (dn : Int) (tr : Int) (sz : Nat) (htr : 0 ≤ tr ∧ tr < 16) : CtPv l yX6_needTruck wsX6_needTruck ({ frames := 0, cells := 0, slots := 0, locals := 0 }) D vwCl (tyL kI kZ kL kJ) [(g, .inr (6, [.ref aR, .ref aB, .ref aT, .ref aS, .ref aK, .ref aL, .int (iI nw), .int (iI al), .int (iI lg), .int (iI tt), .int (iI dn)]))] [.ref g, .int (iI tr)] sz := by
  refine pk_start (cc := cX6_needTruck) (maxL := 2) (ret := none) (LV := [(0, .ref g), (1, .int (iI tr))]) (by decide) rfl rfl (Nat.le_of_ble_eq_true rfl) ?_
  intro p e s m below meth cd hadm hx hb hr hml hts hown hlocks hname hnoh hxT A hA hK hP hD hS ls hl
  refine lv_iload_n hx hb dX6_needTruck_0 rfl (lv_at hl 1 rfl) ?_
  refine wk_if_lt (tgt := 10) hx hb dX6_needTruck_1 (by decide) (by omega) (fun c_1 => ?_) (fun c_1 => ?_)
  · skip
    exfalso; omega
  · skip
    refine lv_iload_n hx hb dX6_needTruck_4 rfl (lv_at hl 1 rfl) ?_
    refine lv_bipush (v := iI 16) hx hb dX6_needTruck_5 (by decide) ?_
    refine wk_icmp_lt (tgt := 21) hx hb dX6_needTruck_7 (by decide) (by omega) (fun c_2 => ?_) (fun c_2 => ?_)
    · skip
      exact pk_void hx hb hr hlocks dX6_needTruck_21
    · skip
      exfalso; omega

set_option maxHeartbeats 4000000 in
set_option maxRecDepth 100000 in
theorem tX6_needTruck_t (l : Launch) (D : va_G) (kI : ClassId) (kZ : ClassId) (kL : ClassId) (kJ : ClassId) (g : Nat) (aR : Nat) (aB : Nat) (aT : Nat) (aS : Nat) (aK : Nat) (aL : Nat) (nw : Int) (al : Int) (lg : Int) (tt : Int) (dn : Int) (tr : Int) (sz : Nat) (hfl : l.flags = pinnedFlags ++ [noTraceFlag]) (htr : -2147483648 ≤ tr ∧ tr ≤ 2147483647) (hntr : ¬ (0 ≤ tr ∧ tr < 16)) : CtT l yX6_needTruck wsX6_needTruck ({ frames := 6, cells := 1, slots := 6, locals := 82 }) D vwCl (tyL kI kZ kL kJ) [(g, .inr (6, [.ref aR, .ref aB, .ref aT, .ref aS, .ref aK, .ref aL, .int (iI nw), .int (iI al), .int (iI lg), .int (iI tt), .int (iI dn)]))] [.ref g, .int (iI tr)] "java/lang/IndexOutOfBoundsException" sz := by
  refine ct_start (cc := cX6_needTruck) (maxL := 2) (ret := none) (LV := [(0, .ref g), (1, .int (iI tr))]) (by decide) rfl rfl (Nat.le_of_ble_eq_true rfl) ?_
  intro p e s m below meth cd hadm hx hb hr hml hts hown hlocks hname hnoh hxT hzT A hA hK hP hD hS ls hl
  refine lv_iload_n hx hb dX6_needTruck_0 rfl (lv_at hl 1 rfl) ?_
  refine wk_if_lt (tgt := 10) hx hb dX6_needTruck_1 (by decide) (by omega) (fun c_1 => ?_) (fun c_1 => ?_)
  · skip
    obtain ⟨q9, hZ9⟩ := xt_s257 hxT
    exact wt_newW (names := exN) hx hb hown (Launch.traces_off hfl hadm) hlocks hnoh (hl.1.trans hml.symm) (by decide) (by decide) (ex_i (fun w h => hts w (List.mem_cons_of_mem _ h)) hzT hxT) (hts _ (List.mem_cons_of_mem _ wd_419)) (hts _ (List.mem_cons_of_mem _ wd_47)) hZ9 dX6_needTruck_10 dX6_needTruck_13 dX6_needTruck_14 dX6_needTruck_17 dX6_needTruck_20 (Nat.le_of_ble_eq_true rfl) (Nat.le_of_ble_eq_true rfl) (Nat.le_of_ble_eq_true rfl) (Nat.le_of_ble_eq_true rfl)
  · skip
    refine lv_iload_n hx hb dX6_needTruck_4 rfl (lv_at hl 1 rfl) ?_
    refine lv_bipush (v := iI 16) hx hb dX6_needTruck_5 (by decide) ?_
    refine wk_icmp_lt (tgt := 21) hx hb dX6_needTruck_7 (by decide) (by omega) (fun c_2 => ?_) (fun c_2 => ?_)
    · skip
      exfalso; omega
    · skip
      obtain ⟨q9, hZ9⟩ := xt_s257 hxT
      exact wt_newW (names := exN) hx hb hown (Launch.traces_off hfl hadm) hlocks hnoh (hl.1.trans hml.symm) (by decide) (by decide) (ex_i (fun w h => hts w (List.mem_cons_of_mem _ h)) hzT hxT) (hts _ (List.mem_cons_of_mem _ wd_419)) (hts _ (List.mem_cons_of_mem _ wd_47)) hZ9 dX6_needTruck_10 dX6_needTruck_13 dX6_needTruck_14 dX6_needTruck_17 dX6_needTruck_20 (Nat.le_of_ble_eq_true rfl) (Nat.le_of_ble_eq_true rfl) (Nat.le_of_ble_eq_true rfl) (Nat.le_of_ble_eq_true rfl)

set_option maxHeartbeats 4000000 in
set_option maxRecDepth 100000 in
theorem tX6_needBox (l : Launch) (D : va_G) (kI : ClassId) (kZ : ClassId) (kL : ClassId) (kJ : ClassId) (g : Nat) (aR : Nat) (aB : Nat) (aT : Nat) (aS : Nat) (aK : Nat) (aL : Nat) (aBs : Nat) (aBw : Nat) (aBd : Nat) (aBv : Nat) (nw : Int) (al : Int) (lg : Int) (tt : Int) (dn : Int) (bn : Int) (bx : Int) (sz : Nat) (hbx : 0 ≤ bx ∧ bx < bn) (hbn : 0 ≤ bn ∧ bn ≤ 20) : CtPv l yX6_needBox wsX6_needBox ({ frames := 0, cells := 0, slots := 0, locals := 0 }) D vwCl (tyL kI kZ kL kJ) [(g, .inr (6, [.ref aR, .ref aB, .ref aT, .ref aS, .ref aK, .ref aL, .int (iI nw), .int (iI al), .int (iI lg), .int (iI tt), .int (iI dn)])), (aB, .inr (1, [.ref aBs, .ref aBw, .ref aBd, .ref aBv, .int (iI bn)]))] [.ref g, .int (iI bx)] sz := by
  refine pk_start (cc := cX6_needBox) (maxL := 2) (ret := none) (LV := [(0, .ref g), (1, .int (iI bx))]) (by decide) rfl rfl (Nat.le_of_ble_eq_true rfl) ?_
  intro p e s m below meth cd hadm hx hb hr hml hts hown hlocks hname hnoh hxT A hA hK hP hD hS ls hl
  refine lv_iload_n hx hb dX6_needBox_0 rfl (lv_at hl 1 rfl) ?_
  refine wk_if_lt (tgt := 15) hx hb dX6_needBox_1 (by decide) (by omega) (fun c_1 => ?_) (fun c_1 => ?_)
  · skip
    exfalso; omega
  · skip
    refine lv_iload_n hx hb dX6_needBox_4 rfl (lv_at hl 1 rfl) ?_
    refine lv_aload_n hx hb dX6_needBox_5 rfl (lv_at hl 0 rfl) ?_
    refine va_get (D := D) (ci := 6) (v := .ref aB) (C := RX6) (T := TX6) (N := 11) hx hb hts (fun w h => (List.mem_cons_of_mem _ (hinX6 w h))) hown hK hP 0 rfl rfl 1 (by decide) (hts _ (List.mem_cons_of_mem _ wd_190)) (fun _ h9 => h9) rfl dX6_needBox_6 ?_
    refine va_get (D := D) (ci := 1) (v := .int (iI bn)) (C := RX1) (T := TX1) (N := 5) hx hb hts (fun w h => (List.mem_cons_of_mem _ (hinX1 w h))) hown hK hP 1 rfl rfl 4 (by decide) (hts _ (List.mem_cons_of_mem _ wd_86)) (fun _ h9 => h9) rfl dX6_needBox_9 ?_
    refine wk_icmp_lt (tgt := 26) hx hb dX6_needBox_12 (by decide) (by omega) (fun c_2 => ?_) (fun c_2 => ?_)
    · skip
      exact pk_void hx hb hr hlocks dX6_needBox_26
    · skip
      exfalso; omega

set_option maxHeartbeats 4000000 in
set_option maxRecDepth 100000 in
theorem tX6_needBox_t (l : Launch) (D : va_G) (kI : ClassId) (kZ : ClassId) (kL : ClassId) (kJ : ClassId) (g : Nat) (aR : Nat) (aB : Nat) (aT : Nat) (aS : Nat) (aK : Nat) (aL : Nat) (aBs : Nat) (aBw : Nat) (aBd : Nat) (aBv : Nat) (nw : Int) (al : Int) (lg : Int) (tt : Int) (dn : Int) (bn : Int) (bx : Int) (sz : Nat) (hfl : l.flags = pinnedFlags ++ [noTraceFlag]) (hbx : -2147483648 ≤ bx ∧ bx ≤ 2147483647) (hnbx : ¬ (0 ≤ bx ∧ bx < bn)) (hbn : 0 ≤ bn ∧ bn ≤ 20) : CtT l yX6_needBox wsX6_needBox ({ frames := 6, cells := 1, slots := 6, locals := 82 }) D vwCl (tyL kI kZ kL kJ) [(g, .inr (6, [.ref aR, .ref aB, .ref aT, .ref aS, .ref aK, .ref aL, .int (iI nw), .int (iI al), .int (iI lg), .int (iI tt), .int (iI dn)])), (aB, .inr (1, [.ref aBs, .ref aBw, .ref aBd, .ref aBv, .int (iI bn)]))] [.ref g, .int (iI bx)] "java/lang/IndexOutOfBoundsException" sz := by
  refine ct_start (cc := cX6_needBox) (maxL := 2) (ret := none) (LV := [(0, .ref g), (1, .int (iI bx))]) (by decide) rfl rfl (Nat.le_of_ble_eq_true rfl) ?_
  intro p e s m below meth cd hadm hx hb hr hml hts hown hlocks hname hnoh hxT hzT A hA hK hP hD hS ls hl
  refine lv_iload_n hx hb dX6_needBox_0 rfl (lv_at hl 1 rfl) ?_
  refine wk_if_lt (tgt := 15) hx hb dX6_needBox_1 (by decide) (by omega) (fun c_1 => ?_) (fun c_1 => ?_)
  · skip
    obtain ⟨q9, hZ9⟩ := xt_s259 hxT
    exact wt_newW (names := exN) hx hb hown (Launch.traces_off hfl hadm) hlocks hnoh (hl.1.trans hml.symm) (by decide) (by decide) (ex_i (fun w h => hts w (List.mem_cons_of_mem _ h)) hzT hxT) (hts _ (List.mem_cons_of_mem _ wd_419)) (hts _ (List.mem_cons_of_mem _ wd_47)) hZ9 dX6_needBox_15 dX6_needBox_18 dX6_needBox_19 dX6_needBox_22 dX6_needBox_25 (Nat.le_of_ble_eq_true rfl) (Nat.le_of_ble_eq_true rfl) (Nat.le_of_ble_eq_true rfl) (Nat.le_of_ble_eq_true rfl)
  · skip
    refine lv_iload_n hx hb dX6_needBox_4 rfl (lv_at hl 1 rfl) ?_
    refine lv_aload_n hx hb dX6_needBox_5 rfl (lv_at hl 0 rfl) ?_
    refine va_get (D := D) (ci := 6) (v := .ref aB) (C := RX6) (T := TX6) (N := 11) hx hb hts (fun w h => (List.mem_cons_of_mem _ (hinX6 w h))) hown hK hP 0 rfl rfl 1 (by decide) (hts _ (List.mem_cons_of_mem _ wd_190)) (fun _ h9 => h9) rfl dX6_needBox_6 ?_
    refine va_get (D := D) (ci := 1) (v := .int (iI bn)) (C := RX1) (T := TX1) (N := 5) hx hb hts (fun w h => (List.mem_cons_of_mem _ (hinX1 w h))) hown hK hP 1 rfl rfl 4 (by decide) (hts _ (List.mem_cons_of_mem _ wd_86)) (fun _ h9 => h9) rfl dX6_needBox_9 ?_
    refine wk_icmp_lt (tgt := 26) hx hb dX6_needBox_12 (by decide) (by omega) (fun c_2 => ?_) (fun c_2 => ?_)
    · skip
      exfalso; omega
    · skip
      obtain ⟨q9, hZ9⟩ := xt_s259 hxT
      exact wt_newW (names := exN) hx hb hown (Launch.traces_off hfl hadm) hlocks hnoh (hl.1.trans hml.symm) (by decide) (by decide) (ex_i (fun w h => hts w (List.mem_cons_of_mem _ h)) hzT hxT) (hts _ (List.mem_cons_of_mem _ wd_419)) (hts _ (List.mem_cons_of_mem _ wd_47)) hZ9 dX6_needBox_15 dX6_needBox_18 dX6_needBox_19 dX6_needBox_22 dX6_needBox_25 (Nat.le_of_ble_eq_true rfl) (Nat.le_of_ble_eq_true rfl) (Nat.le_of_ble_eq_true rfl) (Nat.le_of_ble_eq_true rfl)

set_option maxHeartbeats 4000000 in
set_option maxRecDepth 100000 in
theorem tX6_needBooking (l : Launch) (D : va_G) (kI : ClassId) (kZ : ClassId) (kL : ClassId) (kJ : ClassId) (g : Nat) (aR : Nat) (aB : Nat) (aT : Nat) (aS : Nat) (aK : Nat) (aL : Nat) (aKs : Nat) (aKt : Nat) (aKb : Nat) (aKz : Nat) (aKl : Nat) (aKc : Nat) (aKu : Nat) (nw : Int) (al : Int) (lg : Int) (tt : Int) (dn : Int) (kn : Int) (bk : Int) (sz : Nat) (hbk : 1 ≤ bk ∧ bk ≤ kn) (hkn : 0 ≤ kn ∧ kn ≤ 60) : CtPv l yX6_needBooking wsX6_needBooking ({ frames := 0, cells := 0, slots := 0, locals := 0 }) D vwCl (tyL kI kZ kL kJ) [(g, .inr (6, [.ref aR, .ref aB, .ref aT, .ref aS, .ref aK, .ref aL, .int (iI nw), .int (iI al), .int (iI lg), .int (iI tt), .int (iI dn)])), (aK, .inr (0, [.ref aKs, .ref aKt, .ref aKb, .ref aKz, .ref aKl, .ref aKc, .ref aKu, .int (iI kn)]))] [.ref g, .int (iI bk)] sz := by
  refine pk_start (cc := cX6_needBooking) (maxL := 2) (ret := none) (LV := [(0, .ref g), (1, .int (iI bk))]) (by decide) rfl rfl (Nat.le_of_ble_eq_true rfl) ?_
  intro p e s m below meth cd hadm hx hb hr hml hts hown hlocks hname hnoh hxT A hA hK hP hD hS ls hl
  refine lv_iload_n hx hb dX6_needBooking_0 rfl (lv_at hl 1 rfl) ?_
  refine lv_iconst (v := iI 1) hx hb dX6_needBooking_1 rfl ?_
  refine wk_icmp_lt (tgt := 16) hx hb dX6_needBooking_2 (by decide) (by omega) (fun c_1 => ?_) (fun c_1 => ?_)
  · skip
    exfalso; omega
  · skip
    refine lv_iload_n hx hb dX6_needBooking_5 rfl (lv_at hl 1 rfl) ?_
    refine lv_aload_n hx hb dX6_needBooking_6 rfl (lv_at hl 0 rfl) ?_
    refine va_get (D := D) (ci := 6) (v := .ref aK) (C := RX6) (T := TX6) (N := 11) hx hb hts (fun w h => (List.mem_cons_of_mem _ (hinX6 w h))) hown hK hP 0 rfl rfl 4 (by decide) (hts _ (List.mem_cons_of_mem _ wd_193)) (fun _ h9 => h9) rfl dX6_needBooking_7 ?_
    refine va_get (D := D) (ci := 0) (v := .int (iI kn)) (C := RX0) (T := TX0) (N := 8) hx hb hts (fun w h => (List.mem_cons_of_mem _ (hinX0 w h))) hown hK hP 1 rfl rfl 7 (by decide) (hts _ (List.mem_cons_of_mem _ wd_156)) (fun _ h9 => h9) rfl dX6_needBooking_10 ?_
    refine wk_icmp_le (tgt := 27) hx hb dX6_needBooking_13 (by decide) (by omega) (fun c_2 => ?_) (fun c_2 => ?_)
    · skip
      exact pk_void hx hb hr hlocks dX6_needBooking_27
    · skip
      exfalso; omega

set_option maxHeartbeats 4000000 in
set_option maxRecDepth 100000 in
theorem tX6_needBooking_t (l : Launch) (D : va_G) (kI : ClassId) (kZ : ClassId) (kL : ClassId) (kJ : ClassId) (g : Nat) (aR : Nat) (aB : Nat) (aT : Nat) (aS : Nat) (aK : Nat) (aL : Nat) (aKs : Nat) (aKt : Nat) (aKb : Nat) (aKz : Nat) (aKl : Nat) (aKc : Nat) (aKu : Nat) (nw : Int) (al : Int) (lg : Int) (tt : Int) (dn : Int) (kn : Int) (bk : Int) (sz : Nat) (hfl : l.flags = pinnedFlags ++ [noTraceFlag]) (hbk : -2147483648 ≤ bk ∧ bk ≤ 2147483647) (hnbk : ¬ (1 ≤ bk ∧ bk ≤ kn)) (hkn : 0 ≤ kn ∧ kn ≤ 60) : CtT l yX6_needBooking wsX6_needBooking ({ frames := 6, cells := 1, slots := 6, locals := 82 }) D vwCl (tyL kI kZ kL kJ) [(g, .inr (6, [.ref aR, .ref aB, .ref aT, .ref aS, .ref aK, .ref aL, .int (iI nw), .int (iI al), .int (iI lg), .int (iI tt), .int (iI dn)])), (aK, .inr (0, [.ref aKs, .ref aKt, .ref aKb, .ref aKz, .ref aKl, .ref aKc, .ref aKu, .int (iI kn)]))] [.ref g, .int (iI bk)] "java/lang/IndexOutOfBoundsException" sz := by
  refine ct_start (cc := cX6_needBooking) (maxL := 2) (ret := none) (LV := [(0, .ref g), (1, .int (iI bk))]) (by decide) rfl rfl (Nat.le_of_ble_eq_true rfl) ?_
  intro p e s m below meth cd hadm hx hb hr hml hts hown hlocks hname hnoh hxT hzT A hA hK hP hD hS ls hl
  refine lv_iload_n hx hb dX6_needBooking_0 rfl (lv_at hl 1 rfl) ?_
  refine lv_iconst (v := iI 1) hx hb dX6_needBooking_1 rfl ?_
  refine wk_icmp_lt (tgt := 16) hx hb dX6_needBooking_2 (by decide) (by omega) (fun c_1 => ?_) (fun c_1 => ?_)
  · skip
    obtain ⟨q9, hZ9⟩ := xt_s261 hxT
    exact wt_newW (names := exN) hx hb hown (Launch.traces_off hfl hadm) hlocks hnoh (hl.1.trans hml.symm) (by decide) (by decide) (ex_i (fun w h => hts w (List.mem_cons_of_mem _ h)) hzT hxT) (hts _ (List.mem_cons_of_mem _ wd_419)) (hts _ (List.mem_cons_of_mem _ wd_47)) hZ9 dX6_needBooking_16 dX6_needBooking_19 dX6_needBooking_20 dX6_needBooking_23 dX6_needBooking_26 (Nat.le_of_ble_eq_true rfl) (Nat.le_of_ble_eq_true rfl) (Nat.le_of_ble_eq_true rfl) (Nat.le_of_ble_eq_true rfl)
  · skip
    refine lv_iload_n hx hb dX6_needBooking_5 rfl (lv_at hl 1 rfl) ?_
    refine lv_aload_n hx hb dX6_needBooking_6 rfl (lv_at hl 0 rfl) ?_
    refine va_get (D := D) (ci := 6) (v := .ref aK) (C := RX6) (T := TX6) (N := 11) hx hb hts (fun w h => (List.mem_cons_of_mem _ (hinX6 w h))) hown hK hP 0 rfl rfl 4 (by decide) (hts _ (List.mem_cons_of_mem _ wd_193)) (fun _ h9 => h9) rfl dX6_needBooking_7 ?_
    refine va_get (D := D) (ci := 0) (v := .int (iI kn)) (C := RX0) (T := TX0) (N := 8) hx hb hts (fun w h => (List.mem_cons_of_mem _ (hinX0 w h))) hown hK hP 1 rfl rfl 7 (by decide) (hts _ (List.mem_cons_of_mem _ wd_156)) (fun _ h9 => h9) rfl dX6_needBooking_10 ?_
    refine wk_icmp_le (tgt := 27) hx hb dX6_needBooking_13 (by decide) (by omega) (fun c_2 => ?_) (fun c_2 => ?_)
    · skip
      exfalso; omega
    · skip
      obtain ⟨q9, hZ9⟩ := xt_s261 hxT
      exact wt_newW (names := exN) hx hb hown (Launch.traces_off hfl hadm) hlocks hnoh (hl.1.trans hml.symm) (by decide) (by decide) (ex_i (fun w h => hts w (List.mem_cons_of_mem _ h)) hzT hxT) (hts _ (List.mem_cons_of_mem _ wd_419)) (hts _ (List.mem_cons_of_mem _ wd_47)) hZ9 dX6_needBooking_16 dX6_needBooking_19 dX6_needBooking_20 dX6_needBooking_23 dX6_needBooking_26 (Nat.le_of_ble_eq_true rfl) (Nat.le_of_ble_eq_true rfl) (Nat.le_of_ble_eq_true rfl) (Nat.le_of_ble_eq_true rfl)

set_option maxHeartbeats 4000000 in
set_option maxRecDepth 100000 in
theorem tX6_needTime (l : Launch) (D : va_G) (kI : ClassId) (kZ : ClassId) (kL : ClassId) (kJ : ClassId) (g : Nat) (aR : Nat) (aB : Nat) (aT : Nat) (aS : Nat) (aK : Nat) (aL : Nat) (nw : Int) (al : Int) (lg : Int) (tt : Int) (dn : Int) (tm : Int) (sz : Nat) (htm : nw ≤ tm ∧ tm ≤ 100000) (hnw : 0 ≤ nw ∧ nw ≤ 100000) : CtPv l yX6_needTime wsX6_needTime ({ frames := 0, cells := 0, slots := 0, locals := 0 }) D vwCl (tyL kI kZ kL kJ) [(g, .inr (6, [.ref aR, .ref aB, .ref aT, .ref aS, .ref aK, .ref aL, .int (iI nw), .int (iI al), .int (iI lg), .int (iI tt), .int (iI dn)]))] [.ref g, .int (iI tm)] sz := by
  refine pk_start (cc := cX6_needTime) (maxL := 2) (ret := none) (LV := [(0, .ref g), (1, .int (iI tm))]) (by decide) rfl rfl (Nat.le_of_ble_eq_true rfl) ?_
  intro p e s m below meth cd hadm hx hb hr hml hts hown hlocks hname hnoh hxT A hA hK hP hD hS ls hl
  refine lv_iload_n hx hb dX6_needTime_0 rfl (lv_at hl 1 rfl) ?_
  refine lv_aload_n hx hb dX6_needTime_1 rfl (lv_at hl 0 rfl) ?_
  refine va_get (D := D) (ci := 6) (v := .int (iI nw)) (C := RX6) (T := TX6) (N := 11) hx hb hts (fun w h => (List.mem_cons_of_mem _ (hinX6 w h))) hown hK hP 0 rfl rfl 6 (by decide) (hts _ (List.mem_cons_of_mem _ wd_195)) (fun _ h9 => h9) rfl dX6_needTime_2 ?_
  refine wk_icmp_lt (tgt := 14) hx hb dX6_needTime_5 (by decide) (by omega) (fun c_1 => ?_) (fun c_1 => ?_)
  · skip
    exfalso; omega
  · skip
    refine lv_iload_n hx hb dX6_needTime_8 rfl (lv_at hl 1 rfl) ?_
    refine lv_ldc (v := 100000) hx hb hown (hts _ (List.mem_cons_of_mem _ wd_382)) dX6_needTime_9 ?_
    refine wk_eqi (show (100000 : Int32) = iI 100000 by decide) ?_
    refine wk_icmp_le (tgt := 25) hx hb dX6_needTime_11 (by decide) (by omega) (fun c_2 => ?_) (fun c_2 => ?_)
    · skip
      exact pk_void hx hb hr hlocks dX6_needTime_25
    · skip
      exfalso; omega

set_option maxHeartbeats 4000000 in
set_option maxRecDepth 100000 in
theorem tX6_needTime_t (l : Launch) (D : va_G) (kI : ClassId) (kZ : ClassId) (kL : ClassId) (kJ : ClassId) (g : Nat) (aR : Nat) (aB : Nat) (aT : Nat) (aS : Nat) (aK : Nat) (aL : Nat) (nw : Int) (al : Int) (lg : Int) (tt : Int) (dn : Int) (tm : Int) (sz : Nat) (hfl : l.flags = pinnedFlags ++ [noTraceFlag]) (htm : -2147483648 ≤ tm ∧ tm ≤ 2147483647) (hntm : ¬ (nw ≤ tm ∧ tm ≤ 100000)) (hnw : 0 ≤ nw ∧ nw ≤ 100000) : CtT l yX6_needTime wsX6_needTime ({ frames := 6, cells := 1, slots := 6, locals := 82 }) D vwCl (tyL kI kZ kL kJ) [(g, .inr (6, [.ref aR, .ref aB, .ref aT, .ref aS, .ref aK, .ref aL, .int (iI nw), .int (iI al), .int (iI lg), .int (iI tt), .int (iI dn)]))] [.ref g, .int (iI tm)] "java/lang/IllegalArgumentException" sz := by
  refine ct_start (cc := cX6_needTime) (maxL := 2) (ret := none) (LV := [(0, .ref g), (1, .int (iI tm))]) (by decide) rfl rfl (Nat.le_of_ble_eq_true rfl) ?_
  intro p e s m below meth cd hadm hx hb hr hml hts hown hlocks hname hnoh hxT hzT A hA hK hP hD hS ls hl
  refine lv_iload_n hx hb dX6_needTime_0 rfl (lv_at hl 1 rfl) ?_
  refine lv_aload_n hx hb dX6_needTime_1 rfl (lv_at hl 0 rfl) ?_
  refine va_get (D := D) (ci := 6) (v := .int (iI nw)) (C := RX6) (T := TX6) (N := 11) hx hb hts (fun w h => (List.mem_cons_of_mem _ (hinX6 w h))) hown hK hP 0 rfl rfl 6 (by decide) (hts _ (List.mem_cons_of_mem _ wd_195)) (fun _ h9 => h9) rfl dX6_needTime_2 ?_
  refine wk_icmp_lt (tgt := 14) hx hb dX6_needTime_5 (by decide) (by omega) (fun c_1 => ?_) (fun c_1 => ?_)
  · skip
    obtain ⟨q9, hZ9⟩ := xt_s263 hxT
    exact wt_newW (names := exN) hx hb hown (Launch.traces_off hfl hadm) hlocks hnoh (hl.1.trans hml.symm) (by decide) (by decide) (ex_a (fun w h => hts w (List.mem_cons_of_mem _ h)) hzT hxT) (hts _ (List.mem_cons_of_mem _ wd_280)) (hts _ (List.mem_cons_of_mem _ wd_45)) hZ9 dX6_needTime_14 dX6_needTime_17 dX6_needTime_18 dX6_needTime_21 dX6_needTime_24 (Nat.le_of_ble_eq_true rfl) (Nat.le_of_ble_eq_true rfl) (Nat.le_of_ble_eq_true rfl) (Nat.le_of_ble_eq_true rfl)
  · skip
    refine lv_iload_n hx hb dX6_needTime_8 rfl (lv_at hl 1 rfl) ?_
    refine lv_ldc (v := 100000) hx hb hown (hts _ (List.mem_cons_of_mem _ wd_382)) dX6_needTime_9 ?_
    refine wk_eqi (show (100000 : Int32) = iI 100000 by decide) ?_
    refine wk_icmp_le (tgt := 25) hx hb dX6_needTime_11 (by decide) (by omega) (fun c_2 => ?_) (fun c_2 => ?_)
    · skip
      exfalso; omega
    · skip
      obtain ⟨q9, hZ9⟩ := xt_s263 hxT
      exact wt_newW (names := exN) hx hb hown (Launch.traces_off hfl hadm) hlocks hnoh (hl.1.trans hml.symm) (by decide) (by decide) (ex_a (fun w h => hts w (List.mem_cons_of_mem _ h)) hzT hxT) (hts _ (List.mem_cons_of_mem _ wd_280)) (hts _ (List.mem_cons_of_mem _ wd_45)) hZ9 dX6_needTime_14 dX6_needTime_17 dX6_needTime_18 dX6_needTime_21 dX6_needTime_24 (Nat.le_of_ble_eq_true rfl) (Nat.le_of_ble_eq_true rfl) (Nat.le_of_ble_eq_true rfl) (Nat.le_of_ble_eq_true rfl)

set_option maxHeartbeats 4000000 in
set_option maxRecDepth 100000 in
theorem tX6_otherSlot (l : Launch) (D : va_G) (kI : ClassId) (kZ : ClassId) (kL : ClassId) (kJ : ClassId) (g : Nat) (aR : Nat) (aB : Nat) (aT : Nat) (aS : Nat) (aK : Nat) (aL : Nat) (aSt : Nat) (tk : Int → Int) (nw : Int) (al : Int) (lg : Int) (tt : Int) (dn : Int) (sn : Int) (sm : Int) (sl : Int) (sz : Nat) (hsl : 0 ≤ sl ∧ sl < sn) (hsn : 1 ≤ sn ∧ sn ≤ 24) (hsm : 1 ≤ sm ∧ sm ≤ 8) (htk : ∀ j, 0 ≤ tk j ∧ tk j ≤ 1000000) : CtP l yX6_otherSlot wsX6_otherSlot ({ frames := 2, cells := 0, slots := 0, locals := 43 }) D vwCl (tyL kI kZ kL kJ) [(g, .inr (6, [.ref aR, .ref aB, .ref aT, .ref aS, .ref aK, .ref aL, .int (iI nw), .int (iI al), .int (iI lg), .int (iI tt), .int (iI dn)])), (aS, .inr (4, [.ref aSt, .int (iI sn), .int (iI sm)])), (aSt, .inl (kI, 24, .inl (iF tk)))] [.ref g, .int (iI sl)] (iI (-1 - sc (pRM tk sm) sn (sn - 1 + 1 - (sl + 1)).toNat (sl + 1))) sz := by
  refine pk_start (cc := cX6_otherSlot) (maxL := 2) (ret := (some .int)) (LV := [(0, .ref g), (1, .int (iI sl))]) (by decide) rfl rfl (Nat.le_of_ble_eq_true rfl) ?_
  intro p e s m below meth cd hadm hx hb hr hml hts hown hlocks hname hnoh hxT A hA hK hP hD hS ls hl
  refine lv_iconst (v := iI (-1)) hx hb dX6_otherSlot_0 rfl ?_
  refine lv_aload_n hx hb dX6_otherSlot_1 rfl (lv_at hl 0 rfl) ?_
  refine va_get (D := D) (ci := 6) (v := .ref aS) (C := RX6) (T := TX6) (N := 11) hx hb hts (fun w h => (List.mem_cons_of_mem _ (hinX6 w h))) hown hK hP 0 rfl rfl 3 (by decide) (hts _ (List.mem_cons_of_mem _ wd_192)) (fun _ h9 => h9) rfl dX6_otherSlot_2 ?_
  refine lv_iload_n hx hb dX6_otherSlot_5 rfl (lv_at hl 1 rfl) ?_
  refine pk_callI (va_runV (As := [.int (iI sl)]) (rest := [.int (iI (-1))]) ⟨hx, hb, hml, hown, hts⟩ (tX4_nextWithRoom l D kI kZ kL kJ aS aSt tk sn sm sl s.heap.size (by first | assumption | omega) (by first | assumption | omega) (by first | assumption | omega) (by first | assumption | omega)) (cwV 1 hts (gd_V tb_cons wd_490 wd_491 wd_492 wd_37 wd_493) rfl rfl rfl (by decide +kernel) ⟨Nat.le_of_ble_eq_true rfl, Nat.le_of_ble_eq_true rfl⟩) (ck_preV hxT hK hP hD [1, 2] rfl (by decide) (q0 := 0) rfl rfl rfl) rfl rfl hl.1 rfl (lv_room (Nat.le_of_ble_eq_true rfl)) dX6_otherSlot_6 ⟨Nat.zero_le _, Nat.zero_le _⟩) ?_
  refine wk_isub hx hb dX6_otherSlot_9 ?_
  exact pk_int hx hb hr hlocks (by first | rfl | omega) dX6_otherSlot_10

set_option maxHeartbeats 4000000 in
set_option maxRecDepth 100000 in
theorem tX6_isAhead (l : Launch) (D : va_G) (kI : ClassId) (kZ : ClassId) (kL : ClassId) (kJ : ClassId) (g : Nat) (aR : Nat) (aB : Nat) (aT : Nat) (aS : Nat) (aK : Nat) (aL : Nat) (nw : Int) (al : Int) (lg : Int) (tt : Int) (dn : Int) (sl : Int) (sz : Nat) (hsl : 0 ≤ sl ∧ sl < 24) (hnw : 0 ≤ nw ∧ nw ≤ 100000) : CtP l yX6_isAhead wsX6_isAhead ({ frames := 0, cells := 0, slots := 0, locals := 0 }) D vwCl (tyL kI kZ kL kJ) [(g, .inr (6, [.ref aR, .ref aB, .ref aT, .ref aS, .ref aK, .ref aL, .int (iI nw), .int (iI al), .int (iI lg), .int (iI tt), .int (iI dn)]))] [.ref g, .int (iI sl)] (iI (bi (nw < 600 * sl - 120))) sz := by
  refine pk_start (cc := cX6_isAhead) (maxL := 2) (ret := (some .boolean)) (LV := [(0, .ref g), (1, .int (iI sl))]) (by decide) rfl rfl (Nat.le_of_ble_eq_true rfl) ?_
  intro p e s m below meth cd hadm hx hb hr hml hts hown hlocks hname hnoh hxT A hA hK hP hD hS ls hl
  refine lv_aload_n hx hb dX6_isAhead_0 rfl (lv_at hl 0 rfl) ?_
  refine va_get (D := D) (ci := 6) (v := .int (iI nw)) (C := RX6) (T := TX6) (N := 11) hx hb hts (fun w h => (List.mem_cons_of_mem _ (hinX6 w h))) hown hK hP 0 rfl rfl 6 (by decide) (hts _ (List.mem_cons_of_mem _ wd_195)) (fun _ h9 => h9) rfl dX6_isAhead_1 ?_
  refine lv_sipush (v := iI 600) hx hb dX6_isAhead_4 (by decide) ?_
  refine lv_iload_n hx hb dX6_isAhead_7 rfl (lv_at hl 1 rfl) ?_
  refine wk_imul hx hb dX6_isAhead_8 ?_
  refine lv_bipush (v := iI 120) hx hb dX6_isAhead_9 (by decide) ?_
  refine wk_isub hx hb dX6_isAhead_11 ?_
  refine wk_icmp_ge (tgt := 19) hx hb dX6_isAhead_12 (by decide) (by omega) (fun c_1 => ?_) (fun c_1 => ?_)
  · skip
    refine lv_iconst (v := iI 0) hx hb dX6_isAhead_19 rfl ?_
    exact pk_bool hx hb hr hlocks (bi_f (by first | assumption | omega | (simp_all; done))) dX6_isAhead_20
  · skip
    refine lv_iconst (v := iI 1) hx hb dX6_isAhead_15 rfl ?_
    refine lv_goto (tgt := 20) hx hb dX6_isAhead_16 (by decide) ?_
    exact pk_bool hx hb hr hlocks (bi_t (by first | assumption | omega | (simp_all; done))) dX6_isAhead_20

set_option maxHeartbeats 4000000 in
set_option maxRecDepth 100000 in
theorem tX6_isOver (l : Launch) (D : va_G) (kI : ClassId) (kZ : ClassId) (kL : ClassId) (kJ : ClassId) (g : Nat) (aR : Nat) (aB : Nat) (aT : Nat) (aS : Nat) (aK : Nat) (aL : Nat) (nw : Int) (al : Int) (lg : Int) (tt : Int) (dn : Int) (sl : Int) (sz : Nat) (hsl : 0 ≤ sl ∧ sl < 24) (hnw : 0 ≤ nw ∧ nw ≤ 100000) : CtP l yX6_isOver wsX6_isOver ({ frames := 0, cells := 0, slots := 0, locals := 0 }) D vwCl (tyL kI kZ kL kJ) [(g, .inr (6, [.ref aR, .ref aB, .ref aT, .ref aS, .ref aK, .ref aL, .int (iI nw), .int (iI al), .int (iI lg), .int (iI tt), .int (iI dn)]))] [.ref g, .int (iI sl)] (iI (bi (600 * sl + 600 - 1 + 120 < nw))) sz := by
  refine pk_start (cc := cX6_isOver) (maxL := 2) (ret := (some .boolean)) (LV := [(0, .ref g), (1, .int (iI sl))]) (by decide) rfl rfl (Nat.le_of_ble_eq_true rfl) ?_
  intro p e s m below meth cd hadm hx hb hr hml hts hown hlocks hname hnoh hxT A hA hK hP hD hS ls hl
  refine lv_aload_n hx hb dX6_isOver_0 rfl (lv_at hl 0 rfl) ?_
  refine va_get (D := D) (ci := 6) (v := .int (iI nw)) (C := RX6) (T := TX6) (N := 11) hx hb hts (fun w h => (List.mem_cons_of_mem _ (hinX6 w h))) hown hK hP 0 rfl rfl 6 (by decide) (hts _ (List.mem_cons_of_mem _ wd_195)) (fun _ h9 => h9) rfl dX6_isOver_1 ?_
  refine lv_sipush (v := iI 600) hx hb dX6_isOver_4 (by decide) ?_
  refine lv_iload_n hx hb dX6_isOver_7 rfl (lv_at hl 1 rfl) ?_
  refine wk_imul hx hb dX6_isOver_8 ?_
  refine lv_sipush (v := iI 600) hx hb dX6_isOver_9 (by decide) ?_
  refine wk_iadd hx hb dX6_isOver_12 ?_
  refine lv_iconst (v := iI 1) hx hb dX6_isOver_13 rfl ?_
  refine wk_isub hx hb dX6_isOver_14 ?_
  refine lv_bipush (v := iI 120) hx hb dX6_isOver_15 (by decide) ?_
  refine wk_iadd hx hb dX6_isOver_17 ?_
  refine wk_icmp_le (tgt := 25) hx hb dX6_isOver_18 (by decide) (by omega) (fun c_1 => ?_) (fun c_1 => ?_)
  · skip
    refine lv_iconst (v := iI 0) hx hb dX6_isOver_25 rfl ?_
    exact pk_bool hx hb hr hlocks (bi_f (by first | assumption | omega | (simp_all; done))) dX6_isOver_26
  · skip
    refine lv_iconst (v := iI 1) hx hb dX6_isOver_21 rfl ?_
    refine lv_goto (tgt := 26) hx hb dX6_isOver_22 (by decide) ?_
    exact pk_bool hx hb hr hlocks (bi_t (by first | assumption | omega | (simp_all; done))) dX6_isOver_26

set_option maxHeartbeats 4000000 in
set_option maxRecDepth 100000 in
theorem tX6_firstBarOfBox (l : Launch) (D : va_G) (kI : ClassId) (kZ : ClassId) (kL : ClassId) (kJ : ClassId) (g : Nat) (aR : Nat) (aB : Nat) (aT : Nat) (aS : Nat) (aK : Nat) (aL : Nat) (aBs : Nat) (aBw : Nat) (aBd : Nat) (aBv : Nat) (bd : Int → Int) (bv : Int → Int) (nw : Int) (al : Int) (lg : Int) (tt : Int) (dn : Int) (bn : Int) (bx : Int) (sz : Nat) (hbx : 0 ≤ bx ∧ bx < 20) (hbv : ∀ j, 0 ≤ bv j ∧ bv j ≤ 1000000) (hbd : ∀ j, bd j = 0 ∨ bd j = 1) : CtP l yX6_firstBarOfBox wsX6_firstBarOfBox ({ frames := 1, cells := 0, slots := 0, locals := 22 }) D vwCl (tyL kI kZ kL kJ) [(g, .inr (6, [.ref aR, .ref aB, .ref aT, .ref aS, .ref aK, .ref aL, .int (iI nw), .int (iI al), .int (iI lg), .int (iI tt), .int (iI dn)])), (aB, .inr (1, [.ref aBs, .ref aBw, .ref aBd, .ref aBv, .int (iI bn)])), (aBd, .inl (kZ, 20, .inl (iF bd))), (aBv, .inl (kI, 80, .inl (iF bv)))] [.ref g, .int (iI bx)] (iI (fbB bv bd bx)) sz := by
  refine pk_start (cc := cX6_firstBarOfBox) (maxL := 2) (ret := (some .int)) (LV := [(0, .ref g), (1, .int (iI bx))]) (by decide) rfl rfl (Nat.le_of_ble_eq_true rfl) ?_
  intro p e s m below meth cd hadm hx hb hr hml hts hown hlocks hname hnoh hxT A hA hK hP hD hS ls hl
  refine lv_aload_n hx hb dX6_firstBarOfBox_0 rfl (lv_at hl 0 rfl) ?_
  refine va_get (D := D) (ci := 6) (v := .ref aB) (C := RX6) (T := TX6) (N := 11) hx hb hts (fun w h => (List.mem_cons_of_mem _ (hinX6 w h))) hown hK hP 0 rfl rfl 1 (by decide) (hts _ (List.mem_cons_of_mem _ wd_190)) (fun _ h9 => h9) rfl dX6_firstBarOfBox_1 ?_
  refine lv_iload_n hx hb dX6_firstBarOfBox_4 rfl (lv_at hl 1 rfl) ?_
  refine lv_iconst (v := iI 0) hx hb dX6_firstBarOfBox_5 rfl ?_
  refine pk_callI (va_runV (As := [.int (iI bx), .int (iI 0)]) (rest := []) ⟨hx, hb, hml, hown, hts⟩ (tX1_verdictOf l D kI kZ kL kJ aB aBs aBw aBd aBv bv bn bx 0 s.heap.size (by first | assumption | omega) (by first | assumption | omega)) (cwV 2 hts (gd_V tb_cons wd_536 wd_537 wd_538 wd_35 wd_539) rfl rfl rfl (by decide +kernel) ⟨Nat.le_of_ble_eq_true rfl, Nat.le_of_ble_eq_true rfl⟩) (ck_preV hxT hK hP hD [1, 3] rfl (by decide) (q0 := 0) rfl rfl rfl) rfl rfl hl.1 rfl (lv_room (Nat.le_of_ble_eq_true rfl)) dX6_firstBarOfBox_6 ⟨Nat.zero_le _, Nat.zero_le _⟩) ?_
  have b0 := hbv (bx * 4 + 0)
  refine wk_if_ne (tgt := 14) hx hb dX6_firstBarOfBox_9 (by decide) (by omega) (fun c_1 => ?_) (fun c_1 => ?_)
  · skip
    refine lv_aload_n hx hb dX6_firstBarOfBox_14 rfl (lv_at hl 0 rfl) ?_
    refine va_get (D := D) (ci := 6) (v := .ref aB) (C := RX6) (T := TX6) (N := 11) hx hb hts (fun w h => (List.mem_cons_of_mem _ (hinX6 w h))) hown hK hP 0 rfl rfl 1 (by decide) (hts _ (List.mem_cons_of_mem _ wd_190)) (fun _ h9 => h9) rfl dX6_firstBarOfBox_15 ?_
    refine lv_iload_n hx hb dX6_firstBarOfBox_18 rfl (lv_at hl 1 rfl) ?_
    refine lv_iconst (v := iI 1) hx hb dX6_firstBarOfBox_19 rfl ?_
    refine pk_callI (va_runV (As := [.int (iI bx), .int (iI 1)]) (rest := []) ⟨hx, hb, hml, hown, hts⟩ (tX1_verdictOf l D kI kZ kL kJ aB aBs aBw aBd aBv bv bn bx 1 s.heap.size (by first | assumption | omega) (by first | assumption | omega)) (cwV 2 hts (gd_V tb_cons wd_536 wd_537 wd_538 wd_35 wd_539) rfl rfl rfl (by decide +kernel) ⟨Nat.le_of_ble_eq_true rfl, Nat.le_of_ble_eq_true rfl⟩) (ck_preV hxT hK hP hD [1, 3] rfl (by decide) (q0 := 0) rfl rfl rfl) rfl rfl hl.1 rfl (lv_room (Nat.le_of_ble_eq_true rfl)) dX6_firstBarOfBox_20 ⟨Nat.zero_le _, Nat.zero_le _⟩) ?_
    have b1 := hbv (bx * 4 + 1)
    refine wk_if_ne (tgt := 29) hx hb dX6_firstBarOfBox_23 (by decide) (by omega) (fun c_2 => ?_) (fun c_2 => ?_)
    · skip
      refine lv_aload_n hx hb dX6_firstBarOfBox_29 rfl (lv_at hl 0 rfl) ?_
      refine va_get (D := D) (ci := 6) (v := .ref aB) (C := RX6) (T := TX6) (N := 11) hx hb hts (fun w h => (List.mem_cons_of_mem _ (hinX6 w h))) hown hK hP 0 rfl rfl 1 (by decide) (hts _ (List.mem_cons_of_mem _ wd_190)) (fun _ h9 => h9) rfl dX6_firstBarOfBox_30 ?_
      refine lv_iload_n hx hb dX6_firstBarOfBox_33 rfl (lv_at hl 1 rfl) ?_
      refine lv_iconst (v := iI 2) hx hb dX6_firstBarOfBox_34 rfl ?_
      refine pk_callI (va_runV (As := [.int (iI bx), .int (iI 2)]) (rest := []) ⟨hx, hb, hml, hown, hts⟩ (tX1_verdictOf l D kI kZ kL kJ aB aBs aBw aBd aBv bv bn bx 2 s.heap.size (by first | assumption | omega) (by first | assumption | omega)) (cwV 2 hts (gd_V tb_cons wd_536 wd_537 wd_538 wd_35 wd_539) rfl rfl rfl (by decide +kernel) ⟨Nat.le_of_ble_eq_true rfl, Nat.le_of_ble_eq_true rfl⟩) (ck_preV hxT hK hP hD [1, 3] rfl (by decide) (q0 := 0) rfl rfl rfl) rfl rfl hl.1 rfl (lv_room (Nat.le_of_ble_eq_true rfl)) dX6_firstBarOfBox_35 ⟨Nat.zero_le _, Nat.zero_le _⟩) ?_
      have b2 := hbv (bx * 4 + 2)
      refine wk_if_ne (tgt := 44) hx hb dX6_firstBarOfBox_38 (by decide) (by omega) (fun c_3 => ?_) (fun c_3 => ?_)
      · skip
        refine lv_aload_n hx hb dX6_firstBarOfBox_44 rfl (lv_at hl 0 rfl) ?_
        refine va_get (D := D) (ci := 6) (v := .ref aB) (C := RX6) (T := TX6) (N := 11) hx hb hts (fun w h => (List.mem_cons_of_mem _ (hinX6 w h))) hown hK hP 0 rfl rfl 1 (by decide) (hts _ (List.mem_cons_of_mem _ wd_190)) (fun _ h9 => h9) rfl dX6_firstBarOfBox_45 ?_
        refine va_get (D := D) (ci := 1) (v := .ref aBd) (C := RX1) (T := TX1) (N := 5) hx hb hts (fun w h => (List.mem_cons_of_mem _ (hinX1 w h))) hown hK hP 1 rfl rfl 2 (by decide) (hts _ (List.mem_cons_of_mem _ wd_83)) (fun _ h9 => h9) rfl dX6_firstBarOfBox_48 ?_
        refine lv_iload_n hx hb dX6_firstBarOfBox_51 rfl (lv_at hl 1 rfl) ?_
        refine wk_zald hx hb hK hP 2 1 rfl rfl (by decide) (by omega) dX6_firstBarOfBox_52 ?_
        have b_4 := hbd bx
        refine wk_if_eq (tgt := 71) hx hb dX6_firstBarOfBox_53 (by decide) (by omega) (fun c_5 => ?_) (fun c_5 => ?_)
        · skip
          refine lv_iconst (v := iI 0) hx hb dX6_firstBarOfBox_71 rfl ?_
          exact pk_int hx hb hr hlocks (by (unfold fbB; repeat' split) <;> first | rfl | omega) dX6_firstBarOfBox_72
        · skip
          refine lv_aload_n hx hb dX6_firstBarOfBox_56 rfl (lv_at hl 0 rfl) ?_
          refine va_get (D := D) (ci := 6) (v := .ref aB) (C := RX6) (T := TX6) (N := 11) hx hb hts (fun w h => (List.mem_cons_of_mem _ (hinX6 w h))) hown hK hP 0 rfl rfl 1 (by decide) (hts _ (List.mem_cons_of_mem _ wd_190)) (fun _ h9 => h9) rfl dX6_firstBarOfBox_57 ?_
          refine lv_iload_n hx hb dX6_firstBarOfBox_60 rfl (lv_at hl 1 rfl) ?_
          refine lv_iconst (v := iI 3) hx hb dX6_firstBarOfBox_61 rfl ?_
          refine pk_callI (va_runV (As := [.int (iI bx), .int (iI 3)]) (rest := []) ⟨hx, hb, hml, hown, hts⟩ (tX1_verdictOf l D kI kZ kL kJ aB aBs aBw aBd aBv bv bn bx 3 s.heap.size (by first | assumption | omega) (by first | assumption | omega)) (cwV 2 hts (gd_V tb_cons wd_536 wd_537 wd_538 wd_35 wd_539) rfl rfl rfl (by decide +kernel) ⟨Nat.le_of_ble_eq_true rfl, Nat.le_of_ble_eq_true rfl⟩) (ck_preV hxT hK hP hD [1, 3] rfl (by decide) (q0 := 0) rfl rfl rfl) rfl rfl hl.1 rfl (lv_room (Nat.le_of_ble_eq_true rfl)) dX6_firstBarOfBox_62 ⟨Nat.zero_le _, Nat.zero_le _⟩) ?_
          have b3 := hbv (bx * 4 + 3)
          refine wk_if_ne (tgt := 71) hx hb dX6_firstBarOfBox_65 (by decide) (by omega) (fun c_6 => ?_) (fun c_6 => ?_)
          · skip
            refine lv_iconst (v := iI 0) hx hb dX6_firstBarOfBox_71 rfl ?_
            exact pk_int hx hb hr hlocks (by (unfold fbB; repeat' split) <;> first | rfl | omega) dX6_firstBarOfBox_72
          · skip
            refine lv_bipush (v := iI 8) hx hb dX6_firstBarOfBox_68 (by decide) ?_
            exact pk_int hx hb hr hlocks (by (unfold fbB; repeat' split) <;> first | rfl | omega) dX6_firstBarOfBox_70
      · skip
        refine lv_bipush (v := iI 7) hx hb dX6_firstBarOfBox_41 (by decide) ?_
        exact pk_int hx hb hr hlocks (by (unfold fbB; repeat' split) <;> first | rfl | omega) dX6_firstBarOfBox_43
    · skip
      refine lv_bipush (v := iI 6) hx hb dX6_firstBarOfBox_26 (by decide) ?_
      exact pk_int hx hb hr hlocks (by (unfold fbB; repeat' split) <;> first | rfl | omega) dX6_firstBarOfBox_28
  · skip
    refine lv_iconst (v := iI 5) hx hb dX6_firstBarOfBox_12 rfl ?_
    exact pk_int hx hb hr hlocks (by (unfold fbB; repeat' split) <;> first | rfl | omega) dX6_firstBarOfBox_13

set_option maxHeartbeats 4000000 in
set_option maxRecDepth 100000 in
theorem tX6_firstBar (l : Launch) (D : va_G) (kI : ClassId) (kZ : ClassId) (kL : ClassId) (kJ : ClassId) (g : Nat) (aR : Nat) (aB : Nat) (aT : Nat) (aS : Nat) (aK : Nat) (aL : Nat) (aBs : Nat) (aBw : Nat) (aBd : Nat) (aBv : Nat) (aTv : Nat) (aKs : Nat) (aKt : Nat) (aKb : Nat) (aKz : Nat) (aKl : Nat) (aKc : Nat) (aKu : Nat) (bd : Int → Int) (bv : Int → Int) (tv : Int → Int) (ks : Int → Int) (kt : Int → Int) (kb : Int → Int) (kz : Int → Int) (nw : Int) (al : Int) (lg : Int) (tt : Int) (dn : Int) (bn : Int) (kn : Int) (bk : Int) (sz : Nat) (hbk : 1 ≤ bk ∧ bk ≤ kn) (hkn : 0 ≤ kn ∧ kn ≤ 60) (hnw : 0 ≤ nw ∧ nw ≤ 100000) (hbv : ∀ j, 0 ≤ bv j ∧ bv j ≤ 1000000) (hbd : ∀ j, bd j = 0 ∨ bd j = 1) (htv : ∀ j, 0 ≤ tv j ∧ tv j ≤ 1000000) (hkz : ∀ j, 0 ≤ kz j ∧ kz j ≤ 1000000) (hkt : ∀ j, 0 ≤ kt j ∧ kt j ≤ 1000000) (hks : ∀ j, 0 ≤ ks j ∧ ks j < 24) (hkt2 : ∀ j, 0 ≤ kt j ∧ kt j < 16) (hkb : ∀ j, 0 ≤ kb j ∧ kb j < 20) : CtP l yX6_firstBar wsX6_firstBar ({ frames := 2, cells := 0, slots := 0, locals := 43 }) D vwCl (tyL kI kZ kL kJ) [(g, .inr (6, [.ref aR, .ref aB, .ref aT, .ref aS, .ref aK, .ref aL, .int (iI nw), .int (iI al), .int (iI lg), .int (iI tt), .int (iI dn)])), (aB, .inr (1, [.ref aBs, .ref aBw, .ref aBd, .ref aBv, .int (iI bn)])), (aBd, .inl (kZ, 20, .inl (iF bd))), (aBv, .inl (kI, 80, .inl (iF bv))), (aT, .inr (5, [.ref aTv])), (aTv, .inl (kI, 32, .inl (iF tv))), (aK, .inr (0, [.ref aKs, .ref aKt, .ref aKb, .ref aKz, .ref aKl, .ref aKc, .ref aKu, .int (iI kn)])), (aKs, .inl (kI, 61, .inl (iF ks))), (aKt, .inl (kI, 61, .inl (iF kt))), (aKb, .inl (kI, 61, .inl (iF kb))), (aKz, .inl (kI, 61, .inl (iF kz)))] [.ref g, .int (iI bk)] (iI (fbR nw bv bd tv kn ks kt kb kz bk)) sz := by
  refine pk_start (cc := cX6_firstBar) (maxL := 5) (ret := (some .int)) (LV := [(0, .ref g), (1, .int (iI bk))]) (by decide) rfl rfl (Nat.le_of_ble_eq_true rfl) ?_
  intro p e s m below meth cd hadm hx hb hr hml hts hown hlocks hname hnoh hxT A hA hK hP hD hS ls hl
  refine lv_aload_n hx hb dX6_firstBar_0 rfl (lv_at hl 0 rfl) ?_
  refine va_get (D := D) (ci := 6) (v := .ref aK) (C := RX6) (T := TX6) (N := 11) hx hb hts (fun w h => (List.mem_cons_of_mem _ (hinX6 w h))) hown hK hP 0 rfl rfl 4 (by decide) (hts _ (List.mem_cons_of_mem _ wd_193)) (fun _ h9 => h9) rfl dX6_firstBar_1 ?_
  refine va_get (D := D) (ci := 0) (v := .ref aKz) (C := RX0) (T := TX0) (N := 8) hx hb hts (fun w h => (List.mem_cons_of_mem _ (hinX0 w h))) hown hK hP 6 rfl rfl 3 (by decide) (hts _ (List.mem_cons_of_mem _ wd_148)) (fun _ h9 => h9) rfl dX6_firstBar_4 ?_
  refine lv_iload_n hx hb dX6_firstBar_7 rfl (lv_at hl 1 rfl) ?_
  refine wk_iald hx hb hK hP 10 0 rfl rfl (by decide) (by omega) dX6_firstBar_8 ?_
  have b_1 := hkz bk
  refine wk_if_eq (tgt := 14) hx hb dX6_firstBar_9 (by decide) (by omega) (fun c_2 => ?_) (fun c_2 => ?_)
  · skip
    refine lv_aload_n hx hb dX6_firstBar_14 rfl (lv_at hl 0 rfl) ?_
    refine va_get (D := D) (ci := 6) (v := .ref aK) (C := RX6) (T := TX6) (N := 11) hx hb hts (fun w h => (List.mem_cons_of_mem _ (hinX6 w h))) hown hK hP 0 rfl rfl 4 (by decide) (hts _ (List.mem_cons_of_mem _ wd_193)) (fun _ h9 => h9) rfl dX6_firstBar_15 ?_
    refine va_get (D := D) (ci := 0) (v := .ref aKs) (C := RX0) (T := TX0) (N := 8) hx hb hts (fun w h => (List.mem_cons_of_mem _ (hinX0 w h))) hown hK hP 6 rfl rfl 0 (by decide) (hts _ (List.mem_cons_of_mem _ wd_142)) (fun _ h9 => h9) rfl dX6_firstBar_18 ?_
    refine lv_iload_n hx hb dX6_firstBar_21 rfl (lv_at hl 1 rfl) ?_
    refine wk_iald hx hb hK hP 7 0 rfl rfl (by decide) (by omega) dX6_firstBar_22 ?_
    have b_3 := hks bk
    refine lv_istore_n (lv' := [(2, .int (iI (ks bk))), (0, .ref g), (1, .int (iI bk))]) hx hb dX6_firstBar_23 rfl hl (by decide) rfl (fun ls hl => ?_)
    refine lv_aload_n hx hb dX6_firstBar_24 rfl (lv_at hl 1 rfl) ?_
    refine lv_iload_n hx hb dX6_firstBar_25 rfl (lv_at hl 0 rfl) ?_
    refine pk_callI (va_runV (As := [.int (iI (ks bk))]) (rest := []) ⟨hx, hb, hml, hown, hts⟩ (tX6_isAhead l D kI kZ kL kJ g aR aB aT aS aK aL nw al lg tt dn (ks bk) s.heap.size (by first | assumption | omega) (by first | assumption | omega)) (cwV 1 hts (gd_V tb_cons wd_520 wd_522 wd_11 wd_33 wd_523) rfl rfl rfl (by decide +kernel) ⟨Nat.le_of_ble_eq_true rfl, Nat.le_of_ble_eq_true rfl⟩) (ck_preV hxT hK hP hD [0] rfl (by decide) (q0 := 0) rfl rfl rfl) rfl rfl hl.1 rfl (lv_room (Nat.le_of_ble_eq_true rfl)) dX6_firstBar_26 ⟨Nat.zero_le _, Nat.zero_le _⟩) ?_
    refine wk_bif_ne (tgt := 40) hx hb dX6_firstBar_29 (by decide) (fun c_4 => ?_) (fun c_4 => ?_)
    · skip
      refine lv_iconst (v := iI 2) hx hb dX6_firstBar_40 rfl ?_
      exact pk_int hx hb hr hlocks (by (unfold fbR; repeat' split) <;> first | rfl | omega) dX6_firstBar_41
    · skip
      refine lv_aload_n hx hb dX6_firstBar_32 rfl (lv_at hl 1 rfl) ?_
      refine lv_iload_n hx hb dX6_firstBar_33 rfl (lv_at hl 0 rfl) ?_
      refine pk_callI (va_runV (As := [.int (iI (ks bk))]) (rest := []) ⟨hx, hb, hml, hown, hts⟩ (tX6_isOver l D kI kZ kL kJ g aR aB aT aS aK aL nw al lg tt dn (ks bk) s.heap.size (by first | assumption | omega) (by first | assumption | omega)) (cwV 1 hts (gd_V tb_cons wd_524 wd_526 wd_12 wd_33 wd_527) rfl rfl rfl (by decide +kernel) ⟨Nat.le_of_ble_eq_true rfl, Nat.le_of_ble_eq_true rfl⟩) (ck_preV hxT hK hP hD [0] rfl (by decide) (q0 := 0) rfl rfl rfl) rfl rfl hl.1 rfl (lv_room (Nat.le_of_ble_eq_true rfl)) dX6_firstBar_34 ⟨Nat.zero_le _, Nat.zero_le _⟩) ?_
      refine wk_bif_eq (tgt := 42) hx hb dX6_firstBar_37 (by decide) (fun c_5 => ?_) (fun c_5 => ?_)
      · skip
        refine lv_aload_n hx hb dX6_firstBar_42 rfl (lv_at hl 1 rfl) ?_
        refine va_get (D := D) (ci := 6) (v := .ref aK) (C := RX6) (T := TX6) (N := 11) hx hb hts (fun w h => (List.mem_cons_of_mem _ (hinX6 w h))) hown hK hP 0 rfl rfl 4 (by decide) (hts _ (List.mem_cons_of_mem _ wd_193)) (fun _ h9 => h9) rfl dX6_firstBar_43 ?_
        refine va_get (D := D) (ci := 0) (v := .ref aKt) (C := RX0) (T := TX0) (N := 8) hx hb hts (fun w h => (List.mem_cons_of_mem _ (hinX0 w h))) hown hK hP 6 rfl rfl 1 (by decide) (hts _ (List.mem_cons_of_mem _ wd_144)) (fun _ h9 => h9) rfl dX6_firstBar_46 ?_
        refine lv_iload_n hx hb dX6_firstBar_49 rfl (lv_at hl 2 rfl) ?_
        refine wk_iald hx hb hK hP 8 0 rfl rfl (by decide) (by omega) dX6_firstBar_50 ?_
        have b_6 := hkt2 bk
        refine lv_istore_n (lv' := [(3, .int (iI (kt bk))), (2, .int (iI (ks bk))), (0, .ref g), (1, .int (iI bk))]) hx hb dX6_firstBar_51 rfl hl (by decide) rfl (fun ls hl => ?_)
        refine lv_aload_n hx hb dX6_firstBar_52 rfl (lv_at hl 2 rfl) ?_
        refine va_get (D := D) (ci := 6) (v := .ref aT) (C := RX6) (T := TX6) (N := 11) hx hb hts (fun w h => (List.mem_cons_of_mem _ (hinX6 w h))) hown hK hP 0 rfl rfl 2 (by decide) (hts _ (List.mem_cons_of_mem _ wd_191)) (fun _ h9 => h9) rfl dX6_firstBar_53 ?_
        refine lv_iload_n hx hb dX6_firstBar_56 rfl (lv_at hl 0 rfl) ?_
        refine lv_iconst (v := iI 4) hx hb dX6_firstBar_57 rfl ?_
        refine pk_callI (va_runV (As := [.int (iI (kt bk)), .int (iI 4)]) (rest := []) ⟨hx, hb, hml, hown, hts⟩ (tX5_verdictOf l D kI kZ kL kJ aT aTv tv (kt bk) 4 s.heap.size (by first | assumption | omega) (by first | assumption | omega)) (cwV 2 hts (gd_V tb_cons wd_528 wd_529 wd_530 wd_36 wd_531) rfl rfl rfl (by decide +kernel) ⟨Nat.le_of_ble_eq_true rfl, Nat.le_of_ble_eq_true rfl⟩) (ck_preV hxT hK hP hD [4, 5] rfl (by decide) (q0 := 0) rfl rfl rfl) rfl rfl hl.1 rfl (lv_room (Nat.le_of_ble_eq_true rfl)) dX6_firstBar_58 ⟨Nat.zero_le _, Nat.zero_le _⟩) ?_
        have b4 := htv (kt bk * 2 + 4 - 4)
        refine wk_if_ne (tgt := 66) hx hb dX6_firstBar_61 (by decide) (by omega) (fun c_7 => ?_) (fun c_7 => ?_)
        · skip
          refine lv_aload_n hx hb dX6_firstBar_66 rfl (lv_at hl 2 rfl) ?_
          refine va_get (D := D) (ci := 6) (v := .ref aT) (C := RX6) (T := TX6) (N := 11) hx hb hts (fun w h => (List.mem_cons_of_mem _ (hinX6 w h))) hown hK hP 0 rfl rfl 2 (by decide) (hts _ (List.mem_cons_of_mem _ wd_191)) (fun _ h9 => h9) rfl dX6_firstBar_67 ?_
          refine lv_iload_n hx hb dX6_firstBar_70 rfl (lv_at hl 0 rfl) ?_
          refine lv_iconst (v := iI 5) hx hb dX6_firstBar_71 rfl ?_
          refine pk_callI (va_runV (As := [.int (iI (kt bk)), .int (iI 5)]) (rest := []) ⟨hx, hb, hml, hown, hts⟩ (tX5_verdictOf l D kI kZ kL kJ aT aTv tv (kt bk) 5 s.heap.size (by first | assumption | omega) (by first | assumption | omega)) (cwV 2 hts (gd_V tb_cons wd_528 wd_529 wd_530 wd_36 wd_531) rfl rfl rfl (by decide +kernel) ⟨Nat.le_of_ble_eq_true rfl, Nat.le_of_ble_eq_true rfl⟩) (ck_preV hxT hK hP hD [4, 5] rfl (by decide) (q0 := 0) rfl rfl rfl) rfl rfl hl.1 rfl (lv_room (Nat.le_of_ble_eq_true rfl)) dX6_firstBar_72 ⟨Nat.zero_le _, Nat.zero_le _⟩) ?_
          have b5 := htv (kt bk * 2 + 5 - 4)
          refine wk_if_ne (tgt := 80) hx hb dX6_firstBar_75 (by decide) (by omega) (fun c_8 => ?_) (fun c_8 => ?_)
          · skip
            refine lv_aload_n hx hb dX6_firstBar_80 rfl (lv_at hl 2 rfl) ?_
            refine lv_aload_n hx hb dX6_firstBar_81 rfl (lv_at hl 2 rfl) ?_
            refine va_get (D := D) (ci := 6) (v := .ref aK) (C := RX6) (T := TX6) (N := 11) hx hb hts (fun w h => (List.mem_cons_of_mem _ (hinX6 w h))) hown hK hP 0 rfl rfl 4 (by decide) (hts _ (List.mem_cons_of_mem _ wd_193)) (fun _ h9 => h9) rfl dX6_firstBar_82 ?_
            refine va_get (D := D) (ci := 0) (v := .ref aKb) (C := RX0) (T := TX0) (N := 8) hx hb hts (fun w h => (List.mem_cons_of_mem _ (hinX0 w h))) hown hK hP 6 rfl rfl 2 (by decide) (hts _ (List.mem_cons_of_mem _ wd_146)) (fun _ h9 => h9) rfl dX6_firstBar_85 ?_
            refine lv_iload_n hx hb dX6_firstBar_88 rfl (lv_at hl 3 rfl) ?_
            refine wk_iald hx hb hK hP 9 0 rfl rfl (by decide) (by omega) dX6_firstBar_89 ?_
            have b_9 := hkb bk
            refine pk_callI (va_runV (As := [.int (iI (kb bk))]) (rest := []) ⟨hx, hb, hml, hown, hts⟩ (tX6_firstBarOfBox l D kI kZ kL kJ g aR aB aT aS aK aL aBs aBw aBd aBv bd bv nw al lg tt dn bn (kb bk) s.heap.size (by first | assumption | omega) (by first | assumption | omega) (by first | assumption | omega)) (cwV 1 hts (gd_V tb_cons wd_532 wd_534 wd_13 wd_33 wd_535) rfl rfl rfl (by decide +kernel) ⟨Nat.le_of_ble_eq_true rfl, Nat.le_of_ble_eq_true rfl⟩) (ck_preV hxT hK hP hD [0, 1, 2, 3] rfl (by decide) (q0 := 0) rfl rfl rfl) rfl rfl hl.1 rfl (lv_room (Nat.le_of_ble_eq_true rfl)) dX6_firstBar_90 ⟨Nat.zero_le _, Nat.zero_le _⟩) ?_
            have b6 := fbB_rng bv bd (kb bk)
            refine lv_istore (lv' := [(4, .int (iI (fbB bv bd (kb bk)))), (3, .int (iI (kt bk))), (2, .int (iI (ks bk))), (0, .ref g), (1, .int (iI bk))]) hx hb dX6_firstBar_93 hl (by decide) rfl (fun ls hl => ?_)
            refine lv_iload hx hb dX6_firstBar_95 (lv_at hl 0 rfl) ?_
            refine wk_if_eq (tgt := 103) hx hb dX6_firstBar_97 (by decide) (by omega) (fun c_10 => ?_) (fun c_10 => ?_)
            · skip
              refine lv_aload_n hx hb dX6_firstBar_103 rfl (lv_at hl 3 rfl) ?_
              refine va_get (D := D) (ci := 6) (v := .ref aK) (C := RX6) (T := TX6) (N := 11) hx hb hts (fun w h => (List.mem_cons_of_mem _ (hinX6 w h))) hown hK hP 0 rfl rfl 4 (by decide) (hts _ (List.mem_cons_of_mem _ wd_193)) (fun _ h9 => h9) rfl dX6_firstBar_104 ?_
              refine lv_iload_n hx hb dX6_firstBar_107 rfl (lv_at hl 1 rfl) ?_
              refine pk_callI (va_runV (As := [.int (iI (kt bk))]) (rest := []) ⟨hx, hb, hml, hown, hts⟩ (tX0_holdsTruckIn l D kI kZ kL kJ aK aKs aKt aKb aKz aKl aKc aKu kt kz kn (kt bk) s.heap.size (by first | assumption | omega) (by first | assumption | omega) (by first | assumption | omega) (by first | assumption | omega)) (cwV 1 hts (gd_V tb_cons wd_540 wd_541 wd_542 wd_39 wd_543) rfl rfl rfl (by decide +kernel) ⟨Nat.le_of_ble_eq_true rfl, Nat.le_of_ble_eq_true rfl⟩) (ck_preV hxT hK hP hD [6, 8, 10] rfl (by decide) (q0 := 0) rfl rfl rfl) rfl rfl hl.1 rfl (lv_room (Nat.le_of_ble_eq_true rfl)) dX6_firstBar_108 ⟨Nat.zero_le _, Nat.zero_le _⟩) ?_
              refine wk_bif_eq (tgt := 119) hx hb dX6_firstBar_111 (by decide) (fun c_11 => ?_) (fun c_11 => ?_)
              · skip
                refine lv_iconst (v := iI 0) hx hb dX6_firstBar_119 rfl ?_
                exact pk_int hx hb hr hlocks (by (unfold fbR; repeat' split) <;> first | rfl | omega) dX6_firstBar_120
              · skip
                refine lv_bipush (v := iI 9) hx hb dX6_firstBar_114 (by decide) ?_
                refine lv_goto (tgt := 120) hx hb dX6_firstBar_116 (by decide) ?_
                exact pk_int hx hb hr hlocks (by (unfold fbR; repeat' split) <;> first | rfl | omega) dX6_firstBar_120
            · skip
              refine lv_iload hx hb dX6_firstBar_100 (lv_at hl 0 rfl) ?_
              exact pk_int hx hb hr hlocks (by (unfold fbR; repeat' split) <;> first | rfl | omega) dX6_firstBar_102
          · skip
            refine lv_iconst (v := iI 4) hx hb dX6_firstBar_78 rfl ?_
            exact pk_int hx hb hr hlocks (by (unfold fbR; repeat' split) <;> first | rfl | omega) dX6_firstBar_79
        · skip
          refine lv_iconst (v := iI 3) hx hb dX6_firstBar_64 rfl ?_
          exact pk_int hx hb hr hlocks (by (unfold fbR; repeat' split) <;> first | rfl | omega) dX6_firstBar_65
      · skip
        refine lv_iconst (v := iI 2) hx hb dX6_firstBar_40 rfl ?_
        exact pk_int hx hb hr hlocks (by (unfold fbR; repeat' split) <;> first | rfl | omega) dX6_firstBar_41
  · skip
    refine lv_iconst (v := iI 1) hx hb dX6_firstBar_12 rfl ?_
    exact pk_int hx hb hr hlocks (by (unfold fbR; repeat' split) <;> first | rfl | omega) dX6_firstBar_13

set_option maxHeartbeats 4000000 in
set_option maxRecDepth 100000 in
theorem tX6_laneFor (l : Launch) (D : va_G) (kI : ClassId) (kZ : ClassId) (kL : ClassId) (kJ : ClassId) (g : Nat) (aR : Nat) (aB : Nat) (aT : Nat) (aS : Nat) (aK : Nat) (aL : Nat) (aBs : Nat) (aBw : Nat) (aBd : Nat) (aBv : Nat) (a0 : Nat) (a1 : Nat) (a2 : Nat) (a0w : Nat) (a1w : Nat) (bv : Int → Int) (nw : Int) (al : Int) (lg : Int) (tt : Int) (dn : Int) (bn : Int) (n0 : Int) (n1 : Int) (bx : Int) (sz : Nat) (hbx : 0 ≤ bx ∧ bx < 20) (hbv : ∀ j, 0 ≤ bv j ∧ bv j ≤ 1000000) (hn0 : 0 ≤ n0 ∧ n0 ≤ 16) (hn1 : 0 ≤ n1 ∧ n1 ≤ 16) : CtP l yX6_laneFor wsX6_laneFor ({ frames := 1, cells := 0, slots := 0, locals := 22 }) D vwCl (tyL kI kZ kL kJ) [(g, .inr (6, [.ref aR, .ref aB, .ref aT, .ref aS, .ref aK, .ref aL, .int (iI nw), .int (iI al), .int (iI lg), .int (iI tt), .int (iI dn)])), (aB, .inr (1, [.ref aBs, .ref aBw, .ref aBd, .ref aBv, .int (iI bn)])), (aBv, .inl (kI, 80, .inl (iF bv))), (aL, .inl (kL, 3, .inr (.inr (.inr (.inr (g3 a0 a1 a2)))))), (a0, .inr (2, [.ref a0w, .int (iI n0)])), (a1, .inr (2, [.ref a1w, .int (iI n1)]))] [.ref g, .int (iI bx)] (iI (if bv (bx * 4 + 1) = 2 ∨ bv (bx * 4 + 2) = 2 then 2 else if n1 < n0 then 1 else 0)) sz := by
  refine pk_start (cc := cX6_laneFor) (maxL := 2) (ret := (some .int)) (LV := [(0, .ref g), (1, .int (iI bx))]) (by decide) rfl rfl (Nat.le_of_ble_eq_true rfl) ?_
  intro p e s m below meth cd hadm hx hb hr hml hts hown hlocks hname hnoh hxT A hA hK hP hD hS ls hl
  refine lv_aload_n hx hb dX6_laneFor_0 rfl (lv_at hl 0 rfl) ?_
  refine va_get (D := D) (ci := 6) (v := .ref aB) (C := RX6) (T := TX6) (N := 11) hx hb hts (fun w h => (List.mem_cons_of_mem _ (hinX6 w h))) hown hK hP 0 rfl rfl 1 (by decide) (hts _ (List.mem_cons_of_mem _ wd_190)) (fun _ h9 => h9) rfl dX6_laneFor_1 ?_
  refine lv_iload_n hx hb dX6_laneFor_4 rfl (lv_at hl 1 rfl) ?_
  refine lv_iconst (v := iI 1) hx hb dX6_laneFor_5 rfl ?_
  refine pk_callI (va_runV (As := [.int (iI bx), .int (iI 1)]) (rest := []) ⟨hx, hb, hml, hown, hts⟩ (tX1_verdictOf l D kI kZ kL kJ aB aBs aBw aBd aBv bv bn bx 1 s.heap.size (by first | assumption | omega) (by first | assumption | omega)) (cwV 2 hts (gd_V tb_cons wd_536 wd_537 wd_538 wd_35 wd_539) rfl rfl rfl (by decide +kernel) ⟨Nat.le_of_ble_eq_true rfl, Nat.le_of_ble_eq_true rfl⟩) (ck_preV hxT hK hP hD [1, 2] rfl (by decide) (q0 := 0) rfl rfl rfl) rfl rfl hl.1 rfl (lv_room (Nat.le_of_ble_eq_true rfl)) dX6_laneFor_6 ⟨Nat.zero_le _, Nat.zero_le _⟩) ?_
  have b1 := hbv (bx * 4 + 1)
  refine lv_iconst (v := iI 2) hx hb dX6_laneFor_9 rfl ?_
  refine wk_icmp_eq (tgt := 26) hx hb dX6_laneFor_10 (by decide) (by omega) (fun c_1 => ?_) (fun c_1 => ?_)
  · skip
    refine lv_iconst (v := iI 2) hx hb dX6_laneFor_26 rfl ?_
    exact pk_int hx hb hr hlocks (by (repeat' split) <;> first | rfl | omega) dX6_laneFor_27
  · skip
    refine lv_aload_n hx hb dX6_laneFor_13 rfl (lv_at hl 0 rfl) ?_
    refine va_get (D := D) (ci := 6) (v := .ref aB) (C := RX6) (T := TX6) (N := 11) hx hb hts (fun w h => (List.mem_cons_of_mem _ (hinX6 w h))) hown hK hP 0 rfl rfl 1 (by decide) (hts _ (List.mem_cons_of_mem _ wd_190)) (fun _ h9 => h9) rfl dX6_laneFor_14 ?_
    refine lv_iload_n hx hb dX6_laneFor_17 rfl (lv_at hl 1 rfl) ?_
    refine lv_iconst (v := iI 2) hx hb dX6_laneFor_18 rfl ?_
    refine pk_callI (va_runV (As := [.int (iI bx), .int (iI 2)]) (rest := []) ⟨hx, hb, hml, hown, hts⟩ (tX1_verdictOf l D kI kZ kL kJ aB aBs aBw aBd aBv bv bn bx 2 s.heap.size (by first | assumption | omega) (by first | assumption | omega)) (cwV 2 hts (gd_V tb_cons wd_536 wd_537 wd_538 wd_35 wd_539) rfl rfl rfl (by decide +kernel) ⟨Nat.le_of_ble_eq_true rfl, Nat.le_of_ble_eq_true rfl⟩) (ck_preV hxT hK hP hD [1, 2] rfl (by decide) (q0 := 0) rfl rfl rfl) rfl rfl hl.1 rfl (lv_room (Nat.le_of_ble_eq_true rfl)) dX6_laneFor_19 ⟨Nat.zero_le _, Nat.zero_le _⟩) ?_
    have b2 := hbv (bx * 4 + 2)
    refine lv_iconst (v := iI 2) hx hb dX6_laneFor_22 rfl ?_
    refine wk_icmp_ne (tgt := 28) hx hb dX6_laneFor_23 (by decide) (by omega) (fun c_2 => ?_) (fun c_2 => ?_)
    · skip
      refine lv_aload_n hx hb dX6_laneFor_28 rfl (lv_at hl 0 rfl) ?_
      refine va_get (D := D) (ci := 6) (v := .ref aL) (C := RX6) (T := TX6) (N := 11) hx hb hts (fun w h => (List.mem_cons_of_mem _ (hinX6 w h))) hown hK hP 0 rfl rfl 5 (by decide) (hts _ (List.mem_cons_of_mem _ wd_194)) (fun _ h9 => h9) rfl dX6_laneFor_29 ?_
      refine lv_iconst (v := iI 1) hx hb dX6_laneFor_32 rfl ?_
      refine wk_aald (y := a1) hx hb hK hP 3 2 rfl rfl (by decide) (by decide) rfl dX6_laneFor_33 ?_
      refine va_get (D := D) (ci := 2) (v := .int (iI n1)) (C := RX2) (T := TX2) (N := 2) hx hb hts (fun w h => (List.mem_cons_of_mem _ (hinX2 w h))) hown hK hP 5 rfl rfl 1 (by decide) (hts _ (List.mem_cons_of_mem _ wd_183)) (fun _ h9 => h9) rfl dX6_laneFor_34 ?_
      refine lv_aload_n hx hb dX6_laneFor_37 rfl (lv_at hl 0 rfl) ?_
      refine va_get (D := D) (ci := 6) (v := .ref aL) (C := RX6) (T := TX6) (N := 11) hx hb hts (fun w h => (List.mem_cons_of_mem _ (hinX6 w h))) hown hK hP 0 rfl rfl 5 (by decide) (hts _ (List.mem_cons_of_mem _ wd_194)) (fun _ h9 => h9) rfl dX6_laneFor_38 ?_
      refine lv_iconst (v := iI 0) hx hb dX6_laneFor_41 rfl ?_
      refine wk_aald (y := a0) hx hb hK hP 3 2 rfl rfl (by decide) (by decide) rfl dX6_laneFor_42 ?_
      refine va_get (D := D) (ci := 2) (v := .int (iI n0)) (C := RX2) (T := TX2) (N := 2) hx hb hts (fun w h => (List.mem_cons_of_mem _ (hinX2 w h))) hown hK hP 4 rfl rfl 1 (by decide) (hts _ (List.mem_cons_of_mem _ wd_183)) (fun _ h9 => h9) rfl dX6_laneFor_43 ?_
      refine wk_icmp_ge (tgt := 53) hx hb dX6_laneFor_46 (by decide) (by omega) (fun c_3 => ?_) (fun c_3 => ?_)
      · skip
        refine lv_iconst (v := iI 0) hx hb dX6_laneFor_53 rfl ?_
        exact pk_int hx hb hr hlocks (by (repeat' split) <;> first | rfl | omega) dX6_laneFor_54
      · skip
        refine lv_iconst (v := iI 1) hx hb dX6_laneFor_49 rfl ?_
        refine lv_goto (tgt := 54) hx hb dX6_laneFor_50 (by decide) ?_
        exact pk_int hx hb hr hlocks (by (repeat' split) <;> first | rfl | omega) dX6_laneFor_54
    · skip
      refine lv_iconst (v := iI 2) hx hb dX6_laneFor_26 rfl ?_
      exact pk_int hx hb hr hlocks (by (repeat' split) <;> first | rfl | omega) dX6_laneFor_27

set_option maxHeartbeats 4000000 in
set_option maxRecDepth 100000 in
theorem tX6_joinLane_0 (l : Launch) (D : va_G) (kI : ClassId) (kZ : ClassId) (kL : ClassId) (kJ : ClassId) (g : Nat) (aR : Nat) (aB : Nat) (aT : Nat) (aS : Nat) (aK : Nat) (aL : Nat) (aKs : Nat) (aKt : Nat) (aKb : Nat) (aKz : Nat) (aKl : Nat) (aKc : Nat) (aKu : Nat) (a0 : Nat) (a1 : Nat) (a2 : Nat) (a0w : Nat) (kl : Int → Int) (w0 : Int → Int) (nw : Int) (al : Int) (lg : Int) (tt : Int) (dn : Int) (kn : Int) (n0 : Int) (bk : Int) (sz : Nat) (hbk : 1 ≤ bk ∧ bk ≤ 60) (hn0 : 0 ≤ n0 ∧ n0 < 16) : CtV l yX6_joinLane wsX6_joinLane ({ frames := 1, cells := 0, slots := 0, locals := 21 }) D vwCl (tyL kI kZ kL kJ) [(g, .inr (6, [.ref aR, .ref aB, .ref aT, .ref aS, .ref aK, .ref aL, .int (iI nw), .int (iI al), .int (iI lg), .int (iI tt), .int (iI dn)])), (aK, .inr (0, [.ref aKs, .ref aKt, .ref aKb, .ref aKz, .ref aKl, .ref aKc, .ref aKu, .int (iI kn)])), (aKl, .inl (kI, 61, .inl (iF kl))), (aL, .inl (kL, 3, .inr (.inr (.inr (.inr (g3 a0 a1 a2)))))), (a0, .inr (2, [.ref a0w, .int (iI n0)])), (a0w, .inl (kI, 16, .inl (iF w0)))] [.ref g, .int (iI bk), .int (iI 0)] [(g, .inr (6, [.ref aR, .ref aB, .ref aT, .ref aS, .ref aK, .ref aL, .int (iI nw), .int (iI al), .int (iI lg), .int (iI tt), .int (iI dn)])), (aK, .inr (0, [.ref aKs, .ref aKt, .ref aKb, .ref aKz, .ref aKl, .ref aKc, .ref aKu, .int (iI kn)])), (aKl, .inl (kI, 61, .inl (iF (iu kl bk 0)))), (aL, .inl (kL, 3, .inr (.inr (.inr (.inr (g3 a0 a1 a2)))))), (a0, .inr (2, [.ref a0w, .int (iI (n0 + 1))])), (a0w, .inl (kI, 16, .inl (iF (iu w0 n0 bk))))] sz := by
  refine ck_start (Qc := fun A => cQv D vwCl (tyL kI kZ kL kJ) A [(g, .inr (6, [.ref aR, .ref aB, .ref aT, .ref aS, .ref aK, .ref aL, .int (iI nw), .int (iI al), .int (iI lg), .int (iI tt), .int (iI dn)])), (aK, .inr (0, [.ref aKs, .ref aKt, .ref aKb, .ref aKz, .ref aKl, .ref aKc, .ref aKu, .int (iI kn)])), (aKl, .inl (kI, 61, .inl (iF (iu kl bk 0)))), (aL, .inl (kL, 3, .inr (.inr (.inr (.inr (g3 a0 a1 a2)))))), (a0, .inr (2, [.ref a0w, .int (iI (n0 + 1))])), (a0w, .inl (kI, 16, .inl (iF (iu w0 n0 bk))))]) (cc := cX6_joinLane) (maxL := 3) (ret := none) (LV := [(0, .ref g), (1, .int (iI bk)), (2, .int (iI 0))]) (by decide) rfl rfl (Nat.le_of_ble_eq_true rfl) ?_
  intro p e s m below meth cd hadm hx hb hr hml hts hown hlocks hname hnoh hxT A hA hK hP hD hS ls hl
  refine lv_aload_n hx hb dX6_joinLane_0 rfl (lv_at hl 0 rfl) ?_
  refine va_get (D := D) (ci := 6) (v := .ref aL) (C := RX6) (T := TX6) (N := 11) hx hb hts (fun w h => (List.mem_cons_of_mem _ (hinX6 w h))) hown hK hP 0 rfl rfl 5 (by decide) (hts _ (List.mem_cons_of_mem _ wd_194)) (fun _ h9 => h9) rfl dX6_joinLane_1 ?_
  refine lv_iload_n hx hb dX6_joinLane_4 rfl (lv_at hl 2 rfl) ?_
  refine wk_aald (y := a0) hx hb hK hP 3 2 rfl rfl (by decide) (by decide) rfl dX6_joinLane_5 ?_
  refine lv_iload_n hx hb dX6_joinLane_6 rfl (lv_at hl 1 rfl) ?_
  refine ck_backV (va_runV (As := [.int (iI bk)]) (rest := []) ⟨hx, hb, hml, hown, hts⟩ (tX2_add l D kI kZ kL kJ a0 a0w w0 n0 bk s.heap.size (by first | assumption | omega)) (cwV 1 hts (gd_V tb_cons wd_552 wd_553 wd_554 wd_40 wd_555) rfl rfl rfl (by decide +kernel) ⟨Nat.le_of_ble_eq_true rfl, Nat.le_of_ble_eq_true rfl⟩) (ck_preV hxT hK hP hD [4, 5] rfl (by decide) (q0 := 0) rfl rfl rfl) rfl rfl hl.1 rfl (lv_room (Nat.le_of_ble_eq_true rfl)) dX6_joinLane_7 ⟨Nat.zero_le _, Nat.zero_le _⟩) hP hD hS hA [4, 5] [0, 1, 2, 3] (WR := [(g, .inr (6, [.ref aR, .ref aB, .ref aT, .ref aS, .ref aK, .ref aL, .int (iI nw), .int (iI al), .int (iI lg), .int (iI tt), .int (iI dn)])), (aK, .inr (0, [.ref aKs, .ref aKt, .ref aKb, .ref aKz, .ref aKl, .ref aKc, .ref aKu, .int (iI kn)])), (aKl, .inl (kI, 61, .inl (iF kl))), (aL, .inl (kL, 3, .inr (.inr (.inr (.inr (g3 a0 a1 a2))))))]) rfl rfl (by decide) (by decide) (ws' := [(g, .inr (6, [.ref aR, .ref aB, .ref aT, .ref aS, .ref aK, .ref aL, .int (iI nw), .int (iI al), .int (iI lg), .int (iI tt), .int (iI dn)])), (aK, .inr (0, [.ref aKs, .ref aKt, .ref aKb, .ref aKz, .ref aKl, .ref aKc, .ref aKu, .int (iI kn)])), (aKl, .inl (kI, 61, .inl (iF kl))), (aL, .inl (kL, 3, .inr (.inr (.inr (.inr (g3 a0 a1 a2)))))), (a0, .inr (2, [.ref a0w, .int (iI (n0 + 1))])), (a0w, .inl (kI, 16, .inl (iF (iu w0 n0 bk))))]) rfl (fun H locs hP hD hS => ?_)
  refine lv_aload_n hx hb dX6_joinLane_10 rfl (lv_at hl 0 rfl) ?_
  refine va_get (D := D) (ci := 6) (v := .ref aK) (C := RX6) (T := TX6) (N := 11) hx hb hts (fun w h => (List.mem_cons_of_mem _ (hinX6 w h))) hown hK hP 0 rfl rfl 4 (by decide) (hts _ (List.mem_cons_of_mem _ wd_193)) (fun _ h9 => h9) rfl dX6_joinLane_11 ?_
  refine va_get (D := D) (ci := 0) (v := .ref aKl) (C := RX0) (T := TX0) (N := 8) hx hb hts (fun w h => (List.mem_cons_of_mem _ (hinX0 w h))) hown hK hP 1 rfl rfl 4 (by decide) (hts _ (List.mem_cons_of_mem _ wd_150)) (fun _ h9 => h9) rfl dX6_joinLane_14 ?_
  refine lv_iload_n hx hb dX6_joinLane_17 rfl (lv_at hl 1 rfl) ?_
  refine lv_iload_n hx hb dX6_joinLane_18 rfl (lv_at hl 2 rfl) ?_
  refine wk_iast hx hb hK hP hD hS 2 0 rfl rfl (by decide) (by omega) dX6_joinLane_19 (ws' := [(g, .inr (6, [.ref aR, .ref aB, .ref aT, .ref aS, .ref aK, .ref aL, .int (iI nw), .int (iI al), .int (iI lg), .int (iI tt), .int (iI dn)])), (aK, .inr (0, [.ref aKs, .ref aKt, .ref aKb, .ref aKz, .ref aKl, .ref aKc, .ref aKu, .int (iI kn)])), (aKl, .inl (kI, 61, .inl (iF (iu kl bk 0)))), (aL, .inl (kL, 3, .inr (.inr (.inr (.inr (g3 a0 a1 a2)))))), (a0, .inr (2, [.ref a0w, .int (iI (n0 + 1))])), (a0w, .inl (kI, 16, .inl (iF (iu w0 n0 bk))))]) rfl (fun H locs hP hD hS => ?_)
  exact rk_void hx hb hr hlocks hK hP hD hS rfl dX6_joinLane_20

set_option maxHeartbeats 4000000 in
set_option maxRecDepth 100000 in
theorem tX6_joinLane_1 (l : Launch) (D : va_G) (kI : ClassId) (kZ : ClassId) (kL : ClassId) (kJ : ClassId) (g : Nat) (aR : Nat) (aB : Nat) (aT : Nat) (aS : Nat) (aK : Nat) (aL : Nat) (aKs : Nat) (aKt : Nat) (aKb : Nat) (aKz : Nat) (aKl : Nat) (aKc : Nat) (aKu : Nat) (a0 : Nat) (a1 : Nat) (a2 : Nat) (a1w : Nat) (kl : Int → Int) (w1 : Int → Int) (nw : Int) (al : Int) (lg : Int) (tt : Int) (dn : Int) (kn : Int) (n1 : Int) (bk : Int) (sz : Nat) (hbk : 1 ≤ bk ∧ bk ≤ 60) (hn1 : 0 ≤ n1 ∧ n1 < 16) : CtV l yX6_joinLane wsX6_joinLane ({ frames := 1, cells := 0, slots := 0, locals := 21 }) D vwCl (tyL kI kZ kL kJ) [(g, .inr (6, [.ref aR, .ref aB, .ref aT, .ref aS, .ref aK, .ref aL, .int (iI nw), .int (iI al), .int (iI lg), .int (iI tt), .int (iI dn)])), (aK, .inr (0, [.ref aKs, .ref aKt, .ref aKb, .ref aKz, .ref aKl, .ref aKc, .ref aKu, .int (iI kn)])), (aKl, .inl (kI, 61, .inl (iF kl))), (aL, .inl (kL, 3, .inr (.inr (.inr (.inr (g3 a0 a1 a2)))))), (a1, .inr (2, [.ref a1w, .int (iI n1)])), (a1w, .inl (kI, 16, .inl (iF w1)))] [.ref g, .int (iI bk), .int (iI 1)] [(g, .inr (6, [.ref aR, .ref aB, .ref aT, .ref aS, .ref aK, .ref aL, .int (iI nw), .int (iI al), .int (iI lg), .int (iI tt), .int (iI dn)])), (aK, .inr (0, [.ref aKs, .ref aKt, .ref aKb, .ref aKz, .ref aKl, .ref aKc, .ref aKu, .int (iI kn)])), (aKl, .inl (kI, 61, .inl (iF (iu kl bk 1)))), (aL, .inl (kL, 3, .inr (.inr (.inr (.inr (g3 a0 a1 a2)))))), (a1, .inr (2, [.ref a1w, .int (iI (n1 + 1))])), (a1w, .inl (kI, 16, .inl (iF (iu w1 n1 bk))))] sz := by
  refine ck_start (Qc := fun A => cQv D vwCl (tyL kI kZ kL kJ) A [(g, .inr (6, [.ref aR, .ref aB, .ref aT, .ref aS, .ref aK, .ref aL, .int (iI nw), .int (iI al), .int (iI lg), .int (iI tt), .int (iI dn)])), (aK, .inr (0, [.ref aKs, .ref aKt, .ref aKb, .ref aKz, .ref aKl, .ref aKc, .ref aKu, .int (iI kn)])), (aKl, .inl (kI, 61, .inl (iF (iu kl bk 1)))), (aL, .inl (kL, 3, .inr (.inr (.inr (.inr (g3 a0 a1 a2)))))), (a1, .inr (2, [.ref a1w, .int (iI (n1 + 1))])), (a1w, .inl (kI, 16, .inl (iF (iu w1 n1 bk))))]) (cc := cX6_joinLane) (maxL := 3) (ret := none) (LV := [(0, .ref g), (1, .int (iI bk)), (2, .int (iI 1))]) (by decide) rfl rfl (Nat.le_of_ble_eq_true rfl) ?_
  intro p e s m below meth cd hadm hx hb hr hml hts hown hlocks hname hnoh hxT A hA hK hP hD hS ls hl
  refine lv_aload_n hx hb dX6_joinLane_0 rfl (lv_at hl 0 rfl) ?_
  refine va_get (D := D) (ci := 6) (v := .ref aL) (C := RX6) (T := TX6) (N := 11) hx hb hts (fun w h => (List.mem_cons_of_mem _ (hinX6 w h))) hown hK hP 0 rfl rfl 5 (by decide) (hts _ (List.mem_cons_of_mem _ wd_194)) (fun _ h9 => h9) rfl dX6_joinLane_1 ?_
  refine lv_iload_n hx hb dX6_joinLane_4 rfl (lv_at hl 2 rfl) ?_
  refine wk_aald (y := a1) hx hb hK hP 3 2 rfl rfl (by decide) (by decide) rfl dX6_joinLane_5 ?_
  refine lv_iload_n hx hb dX6_joinLane_6 rfl (lv_at hl 1 rfl) ?_
  refine ck_backV (va_runV (As := [.int (iI bk)]) (rest := []) ⟨hx, hb, hml, hown, hts⟩ (tX2_add l D kI kZ kL kJ a1 a1w w1 n1 bk s.heap.size (by first | assumption | omega)) (cwV 1 hts (gd_V tb_cons wd_552 wd_553 wd_554 wd_40 wd_555) rfl rfl rfl (by decide +kernel) ⟨Nat.le_of_ble_eq_true rfl, Nat.le_of_ble_eq_true rfl⟩) (ck_preV hxT hK hP hD [4, 5] rfl (by decide) (q0 := 0) rfl rfl rfl) rfl rfl hl.1 rfl (lv_room (Nat.le_of_ble_eq_true rfl)) dX6_joinLane_7 ⟨Nat.zero_le _, Nat.zero_le _⟩) hP hD hS hA [4, 5] [0, 1, 2, 3] (WR := [(g, .inr (6, [.ref aR, .ref aB, .ref aT, .ref aS, .ref aK, .ref aL, .int (iI nw), .int (iI al), .int (iI lg), .int (iI tt), .int (iI dn)])), (aK, .inr (0, [.ref aKs, .ref aKt, .ref aKb, .ref aKz, .ref aKl, .ref aKc, .ref aKu, .int (iI kn)])), (aKl, .inl (kI, 61, .inl (iF kl))), (aL, .inl (kL, 3, .inr (.inr (.inr (.inr (g3 a0 a1 a2))))))]) rfl rfl (by decide) (by decide) (ws' := [(g, .inr (6, [.ref aR, .ref aB, .ref aT, .ref aS, .ref aK, .ref aL, .int (iI nw), .int (iI al), .int (iI lg), .int (iI tt), .int (iI dn)])), (aK, .inr (0, [.ref aKs, .ref aKt, .ref aKb, .ref aKz, .ref aKl, .ref aKc, .ref aKu, .int (iI kn)])), (aKl, .inl (kI, 61, .inl (iF kl))), (aL, .inl (kL, 3, .inr (.inr (.inr (.inr (g3 a0 a1 a2)))))), (a1, .inr (2, [.ref a1w, .int (iI (n1 + 1))])), (a1w, .inl (kI, 16, .inl (iF (iu w1 n1 bk))))]) rfl (fun H locs hP hD hS => ?_)
  refine lv_aload_n hx hb dX6_joinLane_10 rfl (lv_at hl 0 rfl) ?_
  refine va_get (D := D) (ci := 6) (v := .ref aK) (C := RX6) (T := TX6) (N := 11) hx hb hts (fun w h => (List.mem_cons_of_mem _ (hinX6 w h))) hown hK hP 0 rfl rfl 4 (by decide) (hts _ (List.mem_cons_of_mem _ wd_193)) (fun _ h9 => h9) rfl dX6_joinLane_11 ?_
  refine va_get (D := D) (ci := 0) (v := .ref aKl) (C := RX0) (T := TX0) (N := 8) hx hb hts (fun w h => (List.mem_cons_of_mem _ (hinX0 w h))) hown hK hP 1 rfl rfl 4 (by decide) (hts _ (List.mem_cons_of_mem _ wd_150)) (fun _ h9 => h9) rfl dX6_joinLane_14 ?_
  refine lv_iload_n hx hb dX6_joinLane_17 rfl (lv_at hl 1 rfl) ?_
  refine lv_iload_n hx hb dX6_joinLane_18 rfl (lv_at hl 2 rfl) ?_
  refine wk_iast hx hb hK hP hD hS 2 0 rfl rfl (by decide) (by omega) dX6_joinLane_19 (ws' := [(g, .inr (6, [.ref aR, .ref aB, .ref aT, .ref aS, .ref aK, .ref aL, .int (iI nw), .int (iI al), .int (iI lg), .int (iI tt), .int (iI dn)])), (aK, .inr (0, [.ref aKs, .ref aKt, .ref aKb, .ref aKz, .ref aKl, .ref aKc, .ref aKu, .int (iI kn)])), (aKl, .inl (kI, 61, .inl (iF (iu kl bk 1)))), (aL, .inl (kL, 3, .inr (.inr (.inr (.inr (g3 a0 a1 a2)))))), (a1, .inr (2, [.ref a1w, .int (iI (n1 + 1))])), (a1w, .inl (kI, 16, .inl (iF (iu w1 n1 bk))))]) rfl (fun H locs hP hD hS => ?_)
  exact rk_void hx hb hr hlocks hK hP hD hS rfl dX6_joinLane_20

set_option maxHeartbeats 4000000 in
set_option maxRecDepth 100000 in
theorem tX6_joinLane_2 (l : Launch) (D : va_G) (kI : ClassId) (kZ : ClassId) (kL : ClassId) (kJ : ClassId) (g : Nat) (aR : Nat) (aB : Nat) (aT : Nat) (aS : Nat) (aK : Nat) (aL : Nat) (aKs : Nat) (aKt : Nat) (aKb : Nat) (aKz : Nat) (aKl : Nat) (aKc : Nat) (aKu : Nat) (a0 : Nat) (a1 : Nat) (a2 : Nat) (a2w : Nat) (kl : Int → Int) (w2 : Int → Int) (nw : Int) (al : Int) (lg : Int) (tt : Int) (dn : Int) (kn : Int) (n2 : Int) (bk : Int) (sz : Nat) (hbk : 1 ≤ bk ∧ bk ≤ 60) (hn2 : 0 ≤ n2 ∧ n2 < 16) : CtV l yX6_joinLane wsX6_joinLane ({ frames := 1, cells := 0, slots := 0, locals := 21 }) D vwCl (tyL kI kZ kL kJ) [(g, .inr (6, [.ref aR, .ref aB, .ref aT, .ref aS, .ref aK, .ref aL, .int (iI nw), .int (iI al), .int (iI lg), .int (iI tt), .int (iI dn)])), (aK, .inr (0, [.ref aKs, .ref aKt, .ref aKb, .ref aKz, .ref aKl, .ref aKc, .ref aKu, .int (iI kn)])), (aKl, .inl (kI, 61, .inl (iF kl))), (aL, .inl (kL, 3, .inr (.inr (.inr (.inr (g3 a0 a1 a2)))))), (a2, .inr (2, [.ref a2w, .int (iI n2)])), (a2w, .inl (kI, 16, .inl (iF w2)))] [.ref g, .int (iI bk), .int (iI 2)] [(g, .inr (6, [.ref aR, .ref aB, .ref aT, .ref aS, .ref aK, .ref aL, .int (iI nw), .int (iI al), .int (iI lg), .int (iI tt), .int (iI dn)])), (aK, .inr (0, [.ref aKs, .ref aKt, .ref aKb, .ref aKz, .ref aKl, .ref aKc, .ref aKu, .int (iI kn)])), (aKl, .inl (kI, 61, .inl (iF (iu kl bk 2)))), (aL, .inl (kL, 3, .inr (.inr (.inr (.inr (g3 a0 a1 a2)))))), (a2, .inr (2, [.ref a2w, .int (iI (n2 + 1))])), (a2w, .inl (kI, 16, .inl (iF (iu w2 n2 bk))))] sz := by
  refine ck_start (Qc := fun A => cQv D vwCl (tyL kI kZ kL kJ) A [(g, .inr (6, [.ref aR, .ref aB, .ref aT, .ref aS, .ref aK, .ref aL, .int (iI nw), .int (iI al), .int (iI lg), .int (iI tt), .int (iI dn)])), (aK, .inr (0, [.ref aKs, .ref aKt, .ref aKb, .ref aKz, .ref aKl, .ref aKc, .ref aKu, .int (iI kn)])), (aKl, .inl (kI, 61, .inl (iF (iu kl bk 2)))), (aL, .inl (kL, 3, .inr (.inr (.inr (.inr (g3 a0 a1 a2)))))), (a2, .inr (2, [.ref a2w, .int (iI (n2 + 1))])), (a2w, .inl (kI, 16, .inl (iF (iu w2 n2 bk))))]) (cc := cX6_joinLane) (maxL := 3) (ret := none) (LV := [(0, .ref g), (1, .int (iI bk)), (2, .int (iI 2))]) (by decide) rfl rfl (Nat.le_of_ble_eq_true rfl) ?_
  intro p e s m below meth cd hadm hx hb hr hml hts hown hlocks hname hnoh hxT A hA hK hP hD hS ls hl
  refine lv_aload_n hx hb dX6_joinLane_0 rfl (lv_at hl 0 rfl) ?_
  refine va_get (D := D) (ci := 6) (v := .ref aL) (C := RX6) (T := TX6) (N := 11) hx hb hts (fun w h => (List.mem_cons_of_mem _ (hinX6 w h))) hown hK hP 0 rfl rfl 5 (by decide) (hts _ (List.mem_cons_of_mem _ wd_194)) (fun _ h9 => h9) rfl dX6_joinLane_1 ?_
  refine lv_iload_n hx hb dX6_joinLane_4 rfl (lv_at hl 2 rfl) ?_
  refine wk_aald (y := a2) hx hb hK hP 3 2 rfl rfl (by decide) (by decide) rfl dX6_joinLane_5 ?_
  refine lv_iload_n hx hb dX6_joinLane_6 rfl (lv_at hl 1 rfl) ?_
  refine ck_backV (va_runV (As := [.int (iI bk)]) (rest := []) ⟨hx, hb, hml, hown, hts⟩ (tX2_add l D kI kZ kL kJ a2 a2w w2 n2 bk s.heap.size (by first | assumption | omega)) (cwV 1 hts (gd_V tb_cons wd_552 wd_553 wd_554 wd_40 wd_555) rfl rfl rfl (by decide +kernel) ⟨Nat.le_of_ble_eq_true rfl, Nat.le_of_ble_eq_true rfl⟩) (ck_preV hxT hK hP hD [4, 5] rfl (by decide) (q0 := 0) rfl rfl rfl) rfl rfl hl.1 rfl (lv_room (Nat.le_of_ble_eq_true rfl)) dX6_joinLane_7 ⟨Nat.zero_le _, Nat.zero_le _⟩) hP hD hS hA [4, 5] [0, 1, 2, 3] (WR := [(g, .inr (6, [.ref aR, .ref aB, .ref aT, .ref aS, .ref aK, .ref aL, .int (iI nw), .int (iI al), .int (iI lg), .int (iI tt), .int (iI dn)])), (aK, .inr (0, [.ref aKs, .ref aKt, .ref aKb, .ref aKz, .ref aKl, .ref aKc, .ref aKu, .int (iI kn)])), (aKl, .inl (kI, 61, .inl (iF kl))), (aL, .inl (kL, 3, .inr (.inr (.inr (.inr (g3 a0 a1 a2))))))]) rfl rfl (by decide) (by decide) (ws' := [(g, .inr (6, [.ref aR, .ref aB, .ref aT, .ref aS, .ref aK, .ref aL, .int (iI nw), .int (iI al), .int (iI lg), .int (iI tt), .int (iI dn)])), (aK, .inr (0, [.ref aKs, .ref aKt, .ref aKb, .ref aKz, .ref aKl, .ref aKc, .ref aKu, .int (iI kn)])), (aKl, .inl (kI, 61, .inl (iF kl))), (aL, .inl (kL, 3, .inr (.inr (.inr (.inr (g3 a0 a1 a2)))))), (a2, .inr (2, [.ref a2w, .int (iI (n2 + 1))])), (a2w, .inl (kI, 16, .inl (iF (iu w2 n2 bk))))]) rfl (fun H locs hP hD hS => ?_)
  refine lv_aload_n hx hb dX6_joinLane_10 rfl (lv_at hl 0 rfl) ?_
  refine va_get (D := D) (ci := 6) (v := .ref aK) (C := RX6) (T := TX6) (N := 11) hx hb hts (fun w h => (List.mem_cons_of_mem _ (hinX6 w h))) hown hK hP 0 rfl rfl 4 (by decide) (hts _ (List.mem_cons_of_mem _ wd_193)) (fun _ h9 => h9) rfl dX6_joinLane_11 ?_
  refine va_get (D := D) (ci := 0) (v := .ref aKl) (C := RX0) (T := TX0) (N := 8) hx hb hts (fun w h => (List.mem_cons_of_mem _ (hinX0 w h))) hown hK hP 1 rfl rfl 4 (by decide) (hts _ (List.mem_cons_of_mem _ wd_150)) (fun _ h9 => h9) rfl dX6_joinLane_14 ?_
  refine lv_iload_n hx hb dX6_joinLane_17 rfl (lv_at hl 1 rfl) ?_
  refine lv_iload_n hx hb dX6_joinLane_18 rfl (lv_at hl 2 rfl) ?_
  refine wk_iast hx hb hK hP hD hS 2 0 rfl rfl (by decide) (by omega) dX6_joinLane_19 (ws' := [(g, .inr (6, [.ref aR, .ref aB, .ref aT, .ref aS, .ref aK, .ref aL, .int (iI nw), .int (iI al), .int (iI lg), .int (iI tt), .int (iI dn)])), (aK, .inr (0, [.ref aKs, .ref aKt, .ref aKb, .ref aKz, .ref aKl, .ref aKc, .ref aKu, .int (iI kn)])), (aKl, .inl (kI, 61, .inl (iF (iu kl bk 2)))), (aL, .inl (kL, 3, .inr (.inr (.inr (.inr (g3 a0 a1 a2)))))), (a2, .inr (2, [.ref a2w, .int (iI (n2 + 1))])), (a2w, .inl (kI, 16, .inl (iF (iu w2 n2 bk))))]) rfl (fun H locs hP hD hS => ?_)
  exact rk_void hx hb hr hlocks hK hP hD hS rfl dX6_joinLane_20

set_option maxHeartbeats 4000000 in
set_option maxRecDepth 100000 in
theorem tX6_isWithinTolerance (l : Launch) (D : va_G) (kI : ClassId) (kZ : ClassId) (kL : ClassId) (kJ : ClassId) (g : Nat) (aR : Nat) (aB : Nat) (aT : Nat) (aS : Nat) (aK : Nat) (aL : Nat) (aBs : Nat) (aBw : Nat) (aBd : Nat) (aBv : Nat) (bw : Int → Int) (nw : Int) (al : Int) (lg : Int) (tt : Int) (dn : Int) (bn : Int) (bx : Int) (kg : Int) (sz : Nat) (hbx : 0 ≤ bx ∧ bx < 20) (hkg : 0 ≤ kg ∧ kg ≤ 200000) (hal : 0 ≤ al ∧ al ≤ 1000) (hbw : ∀ j, 0 ≤ bw j ∧ bw j ≤ 100000) : CtP l yX6_isWithinTolerance wsX6_isWithinTolerance ({ frames := 1, cells := 0, slots := 0, locals := 13 }) D vwCl (tyL kI kZ kL kJ) [(g, .inr (6, [.ref aR, .ref aB, .ref aT, .ref aS, .ref aK, .ref aL, .int (iI nw), .int (iI al), .int (iI lg), .int (iI tt), .int (iI dn)])), (aB, .inr (1, [.ref aBs, .ref aBw, .ref aBd, .ref aBv, .int (iI bn)])), (aBw, .inl (kI, 20, .inl (iF bw)))] [.ref g, .int (iI bx), .int (iI kg)] (iI (bi ((if 0 ≤ kg - bw bx then kg - bw bx else 0 - (kg - bw bx)) * 1000 ≤ bw bx * al))) sz := by
  refine pk_start (cc := cX6_isWithinTolerance) (maxL := 4) (ret := (some .boolean)) (LV := [(0, .ref g), (1, .int (iI bx)), (2, .int (iI kg))]) (by decide) rfl rfl (Nat.le_of_ble_eq_true rfl) ?_
  intro p e s m below meth cd hadm hx hb hr hml hts hown hlocks hname hnoh hxT A hA hK hP hD hS ls hl
  refine lv_aload_n hx hb dX6_isWithinTolerance_0 rfl (lv_at hl 0 rfl) ?_
  refine va_get (D := D) (ci := 6) (v := .ref aB) (C := RX6) (T := TX6) (N := 11) hx hb hts (fun w h => (List.mem_cons_of_mem _ (hinX6 w h))) hown hK hP 0 rfl rfl 1 (by decide) (hts _ (List.mem_cons_of_mem _ wd_190)) (fun _ h9 => h9) rfl dX6_isWithinTolerance_1 ?_
  refine va_get (D := D) (ci := 1) (v := .ref aBw) (C := RX1) (T := TX1) (N := 5) hx hb hts (fun w h => (List.mem_cons_of_mem _ (hinX1 w h))) hown hK hP 1 rfl rfl 1 (by decide) (hts _ (List.mem_cons_of_mem _ wd_81)) (fun _ h9 => h9) rfl dX6_isWithinTolerance_4 ?_
  refine lv_iload_n hx hb dX6_isWithinTolerance_7 rfl (lv_at hl 1 rfl) ?_
  refine wk_iald hx hb hK hP 2 0 rfl rfl (by decide) (by omega) dX6_isWithinTolerance_8 ?_
  have b_1 := hbw bx
  refine lv_istore_n (lv' := [(3, .int (iI (bw bx))), (0, .ref g), (1, .int (iI bx)), (2, .int (iI kg))]) hx hb dX6_isWithinTolerance_9 rfl hl (by decide) rfl (fun ls hl => ?_)
  refine lv_iload_n hx hb dX6_isWithinTolerance_10 rfl (lv_at hl 3 rfl) ?_
  refine lv_iload_n hx hb dX6_isWithinTolerance_11 rfl (lv_at hl 0 rfl) ?_
  refine wk_isub hx hb dX6_isWithinTolerance_12 ?_
  refine wk_mabs hx hb (hml.trans hl.1.symm) hown (hts _ (List.mem_cons_of_mem _ wd_569)) (hts _ (List.mem_cons_of_mem _ wd_570)) (hts _ (List.mem_cons_of_mem _ wd_38)) (hts _ (List.mem_cons_of_mem _ wm_abs)) (Nat.le_of_ble_eq_true rfl) (Nat.le_of_ble_eq_true rfl) (Nat.zero_le _) (Nat.zero_le _) (by omega) dX6_isWithinTolerance_13 ?_
  refine lv_sipush (v := iI 1000) hx hb dX6_isWithinTolerance_16 (by decide) ?_
  refine wk_imul hx hb dX6_isWithinTolerance_19 ?_
  refine lv_iload_n hx hb dX6_isWithinTolerance_20 rfl (lv_at hl 0 rfl) ?_
  refine lv_aload_n hx hb dX6_isWithinTolerance_21 rfl (lv_at hl 1 rfl) ?_
  refine va_get (D := D) (ci := 6) (v := .int (iI al)) (C := RX6) (T := TX6) (N := 11) hx hb hts (fun w h => (List.mem_cons_of_mem _ (hinX6 w h))) hown hK hP 0 rfl rfl 7 (by decide) (hts _ (List.mem_cons_of_mem _ wd_196)) (fun _ h9 => h9) rfl dX6_isWithinTolerance_22 ?_
  refine wk_imul hx hb dX6_isWithinTolerance_25 ?_
  refine wk_icmp_gt (tgt := 33) hx hb dX6_isWithinTolerance_26 (by decide) (by have e1 := Int.mul_nonneg (hbw bx).1 hal.1; have e2 := Int.mul_le_mul (hbw bx).2 hal.2 hal.1 (by omega); have e3 := hbw bx; split <;> omega) (fun c_2 => ?_) (fun c_2 => ?_)
  · skip
    refine lv_iconst (v := iI 0) hx hb dX6_isWithinTolerance_33 rfl ?_
    exact pk_bool hx hb hr hlocks (bi_f (by first | assumption | omega | (simp_all; done))) dX6_isWithinTolerance_34
  · skip
    refine lv_iconst (v := iI 1) hx hb dX6_isWithinTolerance_29 rfl ?_
    refine lv_goto (tgt := 34) hx hb dX6_isWithinTolerance_30 (by decide) ?_
    exact pk_bool hx hb hr hlocks (bi_t (by first | assumption | omega | (simp_all; done))) dX6_isWithinTolerance_34

set_option maxHeartbeats 4000000 in
set_option maxRecDepth 100000 in
theorem tX6_finish (l : Launch) (D : va_G) (kI : ClassId) (kZ : ClassId) (kL : ClassId) (kJ : ClassId) (g : Nat) (aR : Nat) (aB : Nat) (aT : Nat) (aS : Nat) (aK : Nat) (aL : Nat) (aKs : Nat) (aKt : Nat) (aKb : Nat) (aKz : Nat) (aKl : Nat) (aKc : Nat) (aKu : Nat) (kc : Int → Int) (kz : Int → Int) (ku : Int → Int) (nw : Int) (al : Int) (lg : Int) (tt : Int) (dn : Int) (kn : Int) (bk : Int) (sz : Nat) (hbk : 1 ≤ bk ∧ bk ≤ 60) (hnw : 0 ≤ nw ∧ nw ≤ 100000) (hlg : 0 ≤ lg ∧ lg ≤ 100000) (hkc : ∀ j, 0 ≤ kc j ∧ kc j ≤ 1000000) : CtV l yX6_finish wsX6_finish ({ frames := 1, cells := 0, slots := 0, locals := 14 }) D vwCl (tyL kI kZ kL kJ) [(g, .inr (6, [.ref aR, .ref aB, .ref aT, .ref aS, .ref aK, .ref aL, .int (iI nw), .int (iI al), .int (iI lg), .int (iI tt), .int (iI dn)])), (aK, .inr (0, [.ref aKs, .ref aKt, .ref aKb, .ref aKz, .ref aKl, .ref aKc, .ref aKu, .int (iI kn)])), (aKc, .inl (kI, 61, .inl (iF kc))), (aKz, .inl (kI, 61, .inl (iF kz))), (aKu, .inl (kI, 61, .inl (iF ku)))] [.ref g, .int (iI bk)] [(g, .inr (6, [.ref aR, .ref aB, .ref aT, .ref aS, .ref aK, .ref aL, .int (iI nw), .int (iI al), .int (iI (max lg (nw - kc bk))), .int (iI (tt + (nw - kc bk))), .int (iI (dn + 1))])), (aK, .inr (0, [.ref aKs, .ref aKt, .ref aKb, .ref aKz, .ref aKl, .ref aKc, .ref aKu, .int (iI kn)])), (aKc, .inl (kI, 61, .inl (iF kc))), (aKz, .inl (kI, 61, .inl (iF (iu kz bk 2)))), (aKu, .inl (kI, 61, .inl (iF (iu ku bk (nw - kc bk)))))] sz := by
  refine ck_start (Qc := fun A => cQv D vwCl (tyL kI kZ kL kJ) A [(g, .inr (6, [.ref aR, .ref aB, .ref aT, .ref aS, .ref aK, .ref aL, .int (iI nw), .int (iI al), .int (iI (max lg (nw - kc bk))), .int (iI (tt + (nw - kc bk))), .int (iI (dn + 1))])), (aK, .inr (0, [.ref aKs, .ref aKt, .ref aKb, .ref aKz, .ref aKl, .ref aKc, .ref aKu, .int (iI kn)])), (aKc, .inl (kI, 61, .inl (iF kc))), (aKz, .inl (kI, 61, .inl (iF (iu kz bk 2)))), (aKu, .inl (kI, 61, .inl (iF (iu ku bk (nw - kc bk)))))]) (cc := cX6_finish) (maxL := 3) (ret := none) (LV := [(0, .ref g), (1, .int (iI bk))]) (by decide) rfl rfl (Nat.le_of_ble_eq_true rfl) ?_
  intro p e s m below meth cd hadm hx hb hr hml hts hown hlocks hname hnoh hxT A hA hK hP hD hS ls hl
  refine lv_aload_n hx hb dX6_finish_0 rfl (lv_at hl 0 rfl) ?_
  refine va_get (D := D) (ci := 6) (v := .int (iI nw)) (C := RX6) (T := TX6) (N := 11) hx hb hts (fun w h => (List.mem_cons_of_mem _ (hinX6 w h))) hown hK hP 0 rfl rfl 6 (by decide) (hts _ (List.mem_cons_of_mem _ wd_195)) (fun _ h9 => h9) rfl dX6_finish_1 ?_
  refine lv_aload_n hx hb dX6_finish_4 rfl (lv_at hl 0 rfl) ?_
  refine va_get (D := D) (ci := 6) (v := .ref aK) (C := RX6) (T := TX6) (N := 11) hx hb hts (fun w h => (List.mem_cons_of_mem _ (hinX6 w h))) hown hK hP 0 rfl rfl 4 (by decide) (hts _ (List.mem_cons_of_mem _ wd_193)) (fun _ h9 => h9) rfl dX6_finish_5 ?_
  refine va_get (D := D) (ci := 0) (v := .ref aKc) (C := RX0) (T := TX0) (N := 8) hx hb hts (fun w h => (List.mem_cons_of_mem _ (hinX0 w h))) hown hK hP 1 rfl rfl 5 (by decide) (hts _ (List.mem_cons_of_mem _ wd_152)) (fun _ h9 => h9) rfl dX6_finish_8 ?_
  refine lv_iload_n hx hb dX6_finish_11 rfl (lv_at hl 1 rfl) ?_
  refine wk_iald hx hb hK hP 2 0 rfl rfl (by decide) (by omega) dX6_finish_12 ?_
  have b_1 := hkc bk
  refine wk_isub hx hb dX6_finish_13 ?_
  refine lv_istore_n (lv' := [(2, .int (iI (nw - (kc bk)))), (0, .ref g), (1, .int (iI bk))]) hx hb dX6_finish_14 rfl hl (by decide) rfl (fun ls hl => ?_)
  refine lv_aload_n hx hb dX6_finish_15 rfl (lv_at hl 1 rfl) ?_
  refine va_get (D := D) (ci := 6) (v := .ref aK) (C := RX6) (T := TX6) (N := 11) hx hb hts (fun w h => (List.mem_cons_of_mem _ (hinX6 w h))) hown hK hP 0 rfl rfl 4 (by decide) (hts _ (List.mem_cons_of_mem _ wd_193)) (fun _ h9 => h9) rfl dX6_finish_16 ?_
  refine va_get (D := D) (ci := 0) (v := .ref aKz) (C := RX0) (T := TX0) (N := 8) hx hb hts (fun w h => (List.mem_cons_of_mem _ (hinX0 w h))) hown hK hP 1 rfl rfl 3 (by decide) (hts _ (List.mem_cons_of_mem _ wd_148)) (fun _ h9 => h9) rfl dX6_finish_19 ?_
  refine lv_iload_n hx hb dX6_finish_22 rfl (lv_at hl 2 rfl) ?_
  refine lv_iconst (v := iI 2) hx hb dX6_finish_23 rfl ?_
  refine wk_iast hx hb hK hP hD hS 3 0 rfl rfl (by decide) (by omega) dX6_finish_24 (ws' := [(g, .inr (6, [.ref aR, .ref aB, .ref aT, .ref aS, .ref aK, .ref aL, .int (iI nw), .int (iI al), .int (iI lg), .int (iI tt), .int (iI dn)])), (aK, .inr (0, [.ref aKs, .ref aKt, .ref aKb, .ref aKz, .ref aKl, .ref aKc, .ref aKu, .int (iI kn)])), (aKc, .inl (kI, 61, .inl (iF kc))), (aKz, .inl (kI, 61, .inl (iF (iu kz bk 2)))), (aKu, .inl (kI, 61, .inl (iF ku)))]) rfl (fun H locs hP hD hS => ?_)
  refine lv_aload_n hx hb dX6_finish_25 rfl (lv_at hl 1 rfl) ?_
  refine va_get (D := D) (ci := 6) (v := .ref aK) (C := RX6) (T := TX6) (N := 11) hx hb hts (fun w h => (List.mem_cons_of_mem _ (hinX6 w h))) hown hK hP 0 rfl rfl 4 (by decide) (hts _ (List.mem_cons_of_mem _ wd_193)) (fun _ h9 => h9) rfl dX6_finish_26 ?_
  refine va_get (D := D) (ci := 0) (v := .ref aKu) (C := RX0) (T := TX0) (N := 8) hx hb hts (fun w h => (List.mem_cons_of_mem _ (hinX0 w h))) hown hK hP 1 rfl rfl 6 (by decide) (hts _ (List.mem_cons_of_mem _ wd_154)) (fun _ h9 => h9) rfl dX6_finish_29 ?_
  refine lv_iload_n hx hb dX6_finish_32 rfl (lv_at hl 2 rfl) ?_
  refine lv_iload_n hx hb dX6_finish_33 rfl (lv_at hl 0 rfl) ?_
  refine wk_iast hx hb hK hP hD hS 4 0 rfl rfl (by decide) (by omega) dX6_finish_34 (ws' := [(g, .inr (6, [.ref aR, .ref aB, .ref aT, .ref aS, .ref aK, .ref aL, .int (iI nw), .int (iI al), .int (iI lg), .int (iI tt), .int (iI dn)])), (aK, .inr (0, [.ref aKs, .ref aKt, .ref aKb, .ref aKz, .ref aKl, .ref aKc, .ref aKu, .int (iI kn)])), (aKc, .inl (kI, 61, .inl (iF kc))), (aKz, .inl (kI, 61, .inl (iF (iu kz bk 2)))), (aKu, .inl (kI, 61, .inl (iF (iu ku bk (nw - (kc bk))))))]) rfl (fun H locs hP hD hS => ?_)
  refine lv_aload_n hx hb dX6_finish_35 rfl (lv_at hl 1 rfl) ?_
  refine lv_aload_n hx hb dX6_finish_36 rfl (lv_at hl 1 rfl) ?_
  refine va_get (D := D) (ci := 6) (v := .int (iI lg)) (C := RX6) (T := TX6) (N := 11) hx hb hts (fun w h => (List.mem_cons_of_mem _ (hinX6 w h))) hown hK hP 0 rfl rfl 8 (by decide) (hts _ (List.mem_cons_of_mem _ wd_197)) (fun _ h9 => h9) rfl dX6_finish_37 ?_
  refine lv_iload_n hx hb dX6_finish_40 rfl (lv_at hl 0 rfl) ?_
  refine wk_mmax hx hb (hml.trans hl.1.symm) hown (hts _ (List.mem_cons_of_mem _ wd_117)) (hts _ (List.mem_cons_of_mem _ wd_118)) (hts _ (List.mem_cons_of_mem _ wd_38)) (hts _ (List.mem_cons_of_mem _ wm_max)) (Nat.le_of_ble_eq_true rfl) (Nat.le_of_ble_eq_true rfl) (Nat.zero_le _) (Nat.zero_le _) (by omega) dX6_finish_41 ?_
  refine wk_put (ci := 6) (C := RX6) (T := TX6) (N := 11) hx hb hts (fun w h => (List.mem_cons_of_mem _ (hinX6 w h))) tyX6 tyX6_ok nmX6 hown hK hP hD hS 0 rfl rfl 8 (by decide) (hts _ (List.mem_cons_of_mem _ wd_197)) (fun _ h9 => h9) rfl rfl (Nat.le_of_ble_eq_true rfl) dX6_finish_44 (ws' := [(g, .inr (6, [.ref aR, .ref aB, .ref aT, .ref aS, .ref aK, .ref aL, .int (iI nw), .int (iI al), .int (iI (max lg (nw - (kc bk)))), .int (iI tt), .int (iI dn)])), (aK, .inr (0, [.ref aKs, .ref aKt, .ref aKb, .ref aKz, .ref aKl, .ref aKc, .ref aKu, .int (iI kn)])), (aKc, .inl (kI, 61, .inl (iF kc))), (aKz, .inl (kI, 61, .inl (iF (iu kz bk 2)))), (aKu, .inl (kI, 61, .inl (iF (iu ku bk (nw - (kc bk))))))]) rfl (fun H locs hP hD hS => ?_)
  refine lv_aload_n hx hb dX6_finish_47 rfl (lv_at hl 1 rfl) ?_
  refine lv_dup hx hb dX6_finish_48 rfl ?_
  refine va_get (D := D) (ci := 6) (v := .int (iI tt)) (C := RX6) (T := TX6) (N := 11) hx hb hts (fun w h => (List.mem_cons_of_mem _ (hinX6 w h))) hown hK hP 0 rfl rfl 9 (by decide) (hts _ (List.mem_cons_of_mem _ wd_198)) (fun _ h9 => h9) rfl dX6_finish_49 ?_
  refine lv_iload_n hx hb dX6_finish_52 rfl (lv_at hl 0 rfl) ?_
  refine wk_iadd hx hb dX6_finish_53 ?_
  refine wk_put (ci := 6) (C := RX6) (T := TX6) (N := 11) hx hb hts (fun w h => (List.mem_cons_of_mem _ (hinX6 w h))) tyX6 tyX6_ok nmX6 hown hK hP hD hS 0 rfl rfl 9 (by decide) (hts _ (List.mem_cons_of_mem _ wd_198)) (fun _ h9 => h9) rfl rfl (Nat.le_of_ble_eq_true rfl) dX6_finish_54 (ws' := [(g, .inr (6, [.ref aR, .ref aB, .ref aT, .ref aS, .ref aK, .ref aL, .int (iI nw), .int (iI al), .int (iI (max lg (nw - (kc bk)))), .int (iI (tt + (nw - (kc bk)))), .int (iI dn)])), (aK, .inr (0, [.ref aKs, .ref aKt, .ref aKb, .ref aKz, .ref aKl, .ref aKc, .ref aKu, .int (iI kn)])), (aKc, .inl (kI, 61, .inl (iF kc))), (aKz, .inl (kI, 61, .inl (iF (iu kz bk 2)))), (aKu, .inl (kI, 61, .inl (iF (iu ku bk (nw - (kc bk))))))]) rfl (fun H locs hP hD hS => ?_)
  refine lv_aload_n hx hb dX6_finish_57 rfl (lv_at hl 1 rfl) ?_
  refine lv_dup hx hb dX6_finish_58 rfl ?_
  refine va_get (D := D) (ci := 6) (v := .int (iI dn)) (C := RX6) (T := TX6) (N := 11) hx hb hts (fun w h => (List.mem_cons_of_mem _ (hinX6 w h))) hown hK hP 0 rfl rfl 10 (by decide) (hts _ (List.mem_cons_of_mem _ wd_199)) (fun _ h9 => h9) rfl dX6_finish_59 ?_
  refine lv_iconst (v := iI 1) hx hb dX6_finish_62 rfl ?_
  refine wk_iadd hx hb dX6_finish_63 ?_
  refine wk_put (ci := 6) (C := RX6) (T := TX6) (N := 11) hx hb hts (fun w h => (List.mem_cons_of_mem _ (hinX6 w h))) tyX6 tyX6_ok nmX6 hown hK hP hD hS 0 rfl rfl 10 (by decide) (hts _ (List.mem_cons_of_mem _ wd_199)) (fun _ h9 => h9) rfl rfl (Nat.le_of_ble_eq_true rfl) dX6_finish_64 (ws' := [(g, .inr (6, [.ref aR, .ref aB, .ref aT, .ref aS, .ref aK, .ref aL, .int (iI nw), .int (iI al), .int (iI (max lg (nw - (kc bk)))), .int (iI (tt + (nw - (kc bk)))), .int (iI (dn + 1))])), (aK, .inr (0, [.ref aKs, .ref aKt, .ref aKb, .ref aKz, .ref aKl, .ref aKc, .ref aKu, .int (iI kn)])), (aKc, .inl (kI, 61, .inl (iF kc))), (aKz, .inl (kI, 61, .inl (iF (iu kz bk 2)))), (aKu, .inl (kI, 61, .inl (iF (iu ku bk (nw - (kc bk))))))]) rfl (fun H locs hP hD hS => ?_)
  exact rk_void hx hb hr hlocks hK hP hD hS rfl dX6_finish_67

set_option maxHeartbeats 4000000 in
set_option maxRecDepth 100000 in
theorem tX6_end (l : Launch) (D : va_G) (kI : ClassId) (kZ : ClassId) (kL : ClassId) (kJ : ClassId) (g : Nat) (aR : Nat) (aB : Nat) (aT : Nat) (aS : Nat) (aK : Nat) (aL : Nat) (aSt : Nat) (aKs : Nat) (aKt : Nat) (aKb : Nat) (aKz : Nat) (aKl : Nat) (aKc : Nat) (aKu : Nat) (tk : Int → Int) (ks : Int → Int) (kz : Int → Int) (nw : Int) (al : Int) (lg : Int) (tt : Int) (dn : Int) (sn : Int) (sm : Int) (kn : Int) (bk : Int) (sz : Nat) (hbk : 1 ≤ bk ∧ bk ≤ 60) (hks : ∀ j, 0 ≤ ks j ∧ ks j < 24) : CtV l yX6_end wsX6_end ({ frames := 0, cells := 0, slots := 0, locals := 0 }) D vwCl (tyL kI kZ kL kJ) [(g, .inr (6, [.ref aR, .ref aB, .ref aT, .ref aS, .ref aK, .ref aL, .int (iI nw), .int (iI al), .int (iI lg), .int (iI tt), .int (iI dn)])), (aS, .inr (4, [.ref aSt, .int (iI sn), .int (iI sm)])), (aSt, .inl (kI, 24, .inl (iF tk))), (aK, .inr (0, [.ref aKs, .ref aKt, .ref aKb, .ref aKz, .ref aKl, .ref aKc, .ref aKu, .int (iI kn)])), (aKs, .inl (kI, 61, .inl (iF ks))), (aKz, .inl (kI, 61, .inl (iF kz)))] [.ref g, .int (iI bk)] [(g, .inr (6, [.ref aR, .ref aB, .ref aT, .ref aS, .ref aK, .ref aL, .int (iI nw), .int (iI al), .int (iI lg), .int (iI tt), .int (iI dn)])), (aS, .inr (4, [.ref aSt, .int (iI sn), .int (iI sm)])), (aSt, .inl (kI, 24, .inl (iF (iu tk (ks bk) (tk (ks bk) - 1))))), (aK, .inr (0, [.ref aKs, .ref aKt, .ref aKb, .ref aKz, .ref aKl, .ref aKc, .ref aKu, .int (iI kn)])), (aKs, .inl (kI, 61, .inl (iF ks))), (aKz, .inl (kI, 61, .inl (iF (iu kz bk 3))))] sz := by
  refine ck_start (Qc := fun A => cQv D vwCl (tyL kI kZ kL kJ) A [(g, .inr (6, [.ref aR, .ref aB, .ref aT, .ref aS, .ref aK, .ref aL, .int (iI nw), .int (iI al), .int (iI lg), .int (iI tt), .int (iI dn)])), (aS, .inr (4, [.ref aSt, .int (iI sn), .int (iI sm)])), (aSt, .inl (kI, 24, .inl (iF (iu tk (ks bk) (tk (ks bk) - 1))))), (aK, .inr (0, [.ref aKs, .ref aKt, .ref aKb, .ref aKz, .ref aKl, .ref aKc, .ref aKu, .int (iI kn)])), (aKs, .inl (kI, 61, .inl (iF ks))), (aKz, .inl (kI, 61, .inl (iF (iu kz bk 3))))]) (cc := cX6_end) (maxL := 2) (ret := none) (LV := [(0, .ref g), (1, .int (iI bk))]) (by decide) rfl rfl (Nat.le_of_ble_eq_true rfl) ?_
  intro p e s m below meth cd hadm hx hb hr hml hts hown hlocks hname hnoh hxT A hA hK hP hD hS ls hl
  refine lv_aload_n hx hb dX6_end_0 rfl (lv_at hl 0 rfl) ?_
  refine va_get (D := D) (ci := 6) (v := .ref aK) (C := RX6) (T := TX6) (N := 11) hx hb hts (fun w h => (List.mem_cons_of_mem _ (hinX6 w h))) hown hK hP 0 rfl rfl 4 (by decide) (hts _ (List.mem_cons_of_mem _ wd_193)) (fun _ h9 => h9) rfl dX6_end_1 ?_
  refine va_get (D := D) (ci := 0) (v := .ref aKz) (C := RX0) (T := TX0) (N := 8) hx hb hts (fun w h => (List.mem_cons_of_mem _ (hinX0 w h))) hown hK hP 3 rfl rfl 3 (by decide) (hts _ (List.mem_cons_of_mem _ wd_148)) (fun _ h9 => h9) rfl dX6_end_4 ?_
  refine lv_iload_n hx hb dX6_end_7 rfl (lv_at hl 1 rfl) ?_
  refine lv_iconst (v := iI 3) hx hb dX6_end_8 rfl ?_
  refine wk_iast hx hb hK hP hD hS 5 0 rfl rfl (by decide) (by omega) dX6_end_9 (ws' := [(g, .inr (6, [.ref aR, .ref aB, .ref aT, .ref aS, .ref aK, .ref aL, .int (iI nw), .int (iI al), .int (iI lg), .int (iI tt), .int (iI dn)])), (aS, .inr (4, [.ref aSt, .int (iI sn), .int (iI sm)])), (aSt, .inl (kI, 24, .inl (iF tk))), (aK, .inr (0, [.ref aKs, .ref aKt, .ref aKb, .ref aKz, .ref aKl, .ref aKc, .ref aKu, .int (iI kn)])), (aKs, .inl (kI, 61, .inl (iF ks))), (aKz, .inl (kI, 61, .inl (iF (iu kz bk 3))))]) rfl (fun H locs hP hD hS => ?_)
  refine lv_aload_n hx hb dX6_end_10 rfl (lv_at hl 0 rfl) ?_
  refine va_get (D := D) (ci := 6) (v := .ref aS) (C := RX6) (T := TX6) (N := 11) hx hb hts (fun w h => (List.mem_cons_of_mem _ (hinX6 w h))) hown hK hP 0 rfl rfl 3 (by decide) (hts _ (List.mem_cons_of_mem _ wd_192)) (fun _ h9 => h9) rfl dX6_end_11 ?_
  refine va_get (D := D) (ci := 4) (v := .ref aSt) (C := RX4) (T := TX4) (N := 3) hx hb hts (fun w h => (List.mem_cons_of_mem _ (hinX4 w h))) hown hK hP 1 rfl rfl 0 (by decide) (hts _ (List.mem_cons_of_mem _ wd_125)) (fun _ h9 => h9) rfl dX6_end_14 ?_
  refine lv_aload_n hx hb dX6_end_17 rfl (lv_at hl 0 rfl) ?_
  refine va_get (D := D) (ci := 6) (v := .ref aK) (C := RX6) (T := TX6) (N := 11) hx hb hts (fun w h => (List.mem_cons_of_mem _ (hinX6 w h))) hown hK hP 0 rfl rfl 4 (by decide) (hts _ (List.mem_cons_of_mem _ wd_193)) (fun _ h9 => h9) rfl dX6_end_18 ?_
  refine va_get (D := D) (ci := 0) (v := .ref aKs) (C := RX0) (T := TX0) (N := 8) hx hb hts (fun w h => (List.mem_cons_of_mem _ (hinX0 w h))) hown hK hP 3 rfl rfl 0 (by decide) (hts _ (List.mem_cons_of_mem _ wd_142)) (fun _ h9 => h9) rfl dX6_end_21 ?_
  refine lv_iload_n hx hb dX6_end_24 rfl (lv_at hl 1 rfl) ?_
  refine wk_iald hx hb hK hP 4 0 rfl rfl (by decide) (by omega) dX6_end_25 ?_
  have b_1 := hks bk
  refine lv_dup2_11 hx hb dX6_end_26 rfl rfl ?_
  refine wk_iald hx hb hK hP 2 0 rfl rfl (by decide) (by omega) dX6_end_27 ?_
  refine lv_iconst (v := iI 1) hx hb dX6_end_28 rfl ?_
  refine wk_isub hx hb dX6_end_29 ?_
  refine wk_iast hx hb hK hP hD hS 2 0 rfl rfl (by decide) (by omega) dX6_end_30 (ws' := [(g, .inr (6, [.ref aR, .ref aB, .ref aT, .ref aS, .ref aK, .ref aL, .int (iI nw), .int (iI al), .int (iI lg), .int (iI tt), .int (iI dn)])), (aS, .inr (4, [.ref aSt, .int (iI sn), .int (iI sm)])), (aSt, .inl (kI, 24, .inl (iF (iu tk (ks bk) ((tk (ks bk)) - 1))))), (aK, .inr (0, [.ref aKs, .ref aKt, .ref aKb, .ref aKz, .ref aKl, .ref aKc, .ref aKu, .int (iI kn)])), (aKs, .inl (kI, 61, .inl (iF ks))), (aKz, .inl (kI, 61, .inl (iF (iu kz bk 3))))]) rfl (fun H locs hP hD hS => ?_)
  exact rk_void hx hb hr hlocks hK hP hD hS rfl dX6_end_31
