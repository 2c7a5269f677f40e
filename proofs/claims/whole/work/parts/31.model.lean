set_option maxHeartbeats 4000000 in
set_option maxRecDepth 100000 in
theorem tX7_through_1 (l : Launch) (D : va_G) (kI : ClassId) (kZ : ClassId) (kL : ClassId) (kJ : ClassId) (h : Nat) (hRo : Nat) (hNu : Nat) (hWe : Nat) (hDa : Nat) (hVe : Nat) (hSl : Nat) (hTr : Nat) (hBx : Nat) (hSt : Nat) (hLa : Nat) (hOr : Nat) (hSi : Nat) (hTu : Nat) (th : Int) (sn : Int) (sm : Int) (nw : Int) (rn : Int) (bn : Int) (kn : Int) (cm : Int) (al : Int) (lg : Int) (tt : Int) (dn : Int) (bk : Int) (tm : Int) (sz : Nat) (hkn : 0 ≤ kn ∧ kn ≤ 60) (hbk : -2147483648 ≤ bk ∧ bk ≤ 2147483647) (h1 : ¬ (1 ≤ bk ∧ bk ≤ kn)) : CtI l yX7_through wsX7_through ({ frames := 1, cells := 0, slots := 0, locals := 21 }) D vwCl (tyL kI kZ kL kJ) [(h, .inr (7, [.int (iI th), .int (iI sn), .int (iI sm), .int (iI nw), .ref hRo, .int (iI rn), .int (iI bn), .ref hNu, .ref hWe, .ref hDa, .ref hVe, .int (iI kn), .ref hSl, .ref hTr, .ref hBx, .ref hSt, .ref hLa, .ref hOr, .ref hSi, .ref hTu, .int (iI cm), .int (iI al), .int (iI lg), .int (iI tt), .int (iI dn)]))] [.ref h, .int (iI bk), .int (iI tm)] (iI 0) [(h, .inr (7, [.int (iI 1), .int (iI sn), .int (iI sm), .int (iI nw), .ref hRo, .int (iI rn), .int (iI bn), .ref hNu, .ref hWe, .ref hDa, .ref hVe, .int (iI kn), .ref hSl, .ref hTr, .ref hBx, .ref hSt, .ref hLa, .ref hOr, .ref hSi, .ref hTu, .int (iI cm), .int (iI al), .int (iI lg), .int (iI tt), .int (iI dn)]))] sz := by
  refine ck_start (Qc := fun A => cQi D vwCl (tyL kI kZ kL kJ) A (iI 0) [(h, .inr (7, [.int (iI 1), .int (iI sn), .int (iI sm), .int (iI nw), .ref hRo, .int (iI rn), .int (iI bn), .ref hNu, .ref hWe, .ref hDa, .ref hVe, .int (iI kn), .ref hSl, .ref hTr, .ref hBx, .ref hSt, .ref hLa, .ref hOr, .ref hSi, .ref hTu, .int (iI cm), .int (iI al), .int (iI lg), .int (iI tt), .int (iI dn)]))]) (cc := cX7_through) (maxL := 6) (ret := (some .int)) (LV := [(0, .ref h), (1, .int (iI bk)), (2, .int (iI tm))]) (by decide) rfl rfl (Nat.le_of_ble_eq_true rfl) ?_
  intro p e s m below meth cd hadm hx hb hr hml hts hown hlocks hname hnoh hxT A hA hK hP hD hS ls hl
  refine lv_aload_n hx hb dX7_through_0 rfl (lv_at hl 0 rfl) ?_
  refine lv_iload_n hx hb dX7_through_1 rfl (lv_at hl 1 rfl) ?_
  refine pk_callI (va_runV (As := [.int (iI bk)]) (rest := []) ⟨hx, hb, hml, hown, hts⟩ (tX7_isBooking l D kI kZ kL kJ h hRo hNu hWe hDa hVe hSl hTr hBx hSt hLa hOr hSi hTu th sn sm nw rn bn kn cm al lg tt dn bk s.heap.size (by first | assumption | omega) (by first | assumption | omega)) (cwV 1 hts (gd_V tb_cons wd_751 wd_753 wd_24 wd_41 wd_754) rfl rfl rfl (by decide +kernel) ⟨Nat.le_of_ble_eq_true rfl, Nat.le_of_ble_eq_true rfl⟩) (ck_preV hxT hK hP hD [0] rfl (by decide) (q0 := 0) rfl rfl rfl) rfl rfl hl.1 rfl (lv_room (Nat.le_of_ble_eq_true rfl)) dX7_through_2 ⟨Nat.zero_le _, Nat.zero_le _⟩) ?_
  refine wk_bif_ne (tgt := 14) hx hb dX7_through_5 (by decide) (fun c_1 => ?_) (fun c_1 => ?_)
  · skip
    exfalso; omega
  · skip
    refine lv_aload_n hx hb dX7_through_8 rfl (lv_at hl 0 rfl) ?_
    refine lv_iconst (v := iI 1) hx hb dX7_through_9 rfl ?_
    refine ck_backI (va_runV (As := [.int (iI 1)]) (rest := []) ⟨hx, hb, hml, hown, hts⟩ (tX7_fails l D kI kZ kL kJ h hRo hNu hWe hDa hVe hSl hTr hBx hSt hLa hOr hSi hTu th sn sm nw rn bn kn cm al lg tt dn 1 s.heap.size ) (cwV 1 hts (gd_V tb_cons wd_702 wd_704 wd_18 wd_41 wd_705) rfl rfl rfl (by decide +kernel) ⟨Nat.le_of_ble_eq_true rfl, Nat.le_of_ble_eq_true rfl⟩) (ck_preV hxT hK hP hD [0] rfl (by decide) (q0 := 0) rfl rfl rfl) rfl rfl hl.1 rfl (lv_room (Nat.le_of_ble_eq_true rfl)) dX7_through_10 ⟨Nat.zero_le _, Nat.zero_le _⟩) hP hD hS hA [0] [] (WR := []) rfl rfl (by decide) (by decide) (ws' := [(h, .inr (7, [.int (iI 1), .int (iI sn), .int (iI sm), .int (iI nw), .ref hRo, .int (iI rn), .int (iI bn), .ref hNu, .ref hWe, .ref hDa, .ref hVe, .int (iI kn), .ref hSl, .ref hTr, .ref hBx, .ref hSt, .ref hLa, .ref hOr, .ref hSi, .ref hTu, .int (iI cm), .int (iI al), .int (iI lg), .int (iI tt), .int (iI dn)]))]) rfl (fun H locs hP hD hS => ?_)
    exact rk_int hx hb hr hlocks hK hP hD hS (by first | rfl | omega) rfl dX7_through_13

set_option maxHeartbeats 4000000 in
set_option maxRecDepth 100000 in
theorem tX7_through_2 (l : Launch) (D : va_G) (kI : ClassId) (kZ : ClassId) (kL : ClassId) (kJ : ClassId) (h : Nat) (hRo : Nat) (hNu : Nat) (hWe : Nat) (hDa : Nat) (hVe : Nat) (hSl : Nat) (hTr : Nat) (hBx : Nat) (hSt : Nat) (hLa : Nat) (hOr : Nat) (hSi : Nat) (hTu : Nat) (th : Int) (sn : Int) (sm : Int) (nw : Int) (rn : Int) (bn : Int) (kn : Int) (cm : Int) (al : Int) (lg : Int) (tt : Int) (dn : Int) (bk : Int) (tm : Int) (sz : Nat) (hkn : 0 ≤ kn ∧ kn ≤ 60) (hbk : 1 ≤ bk ∧ bk ≤ kn) (hnw : 0 ≤ nw ∧ nw ≤ 100000) (htm : -2147483648 ≤ tm ∧ tm ≤ 2147483647) (h1 : ¬ (nw ≤ tm ∧ tm ≤ 100000)) : CtI l yX7_through wsX7_through ({ frames := 1, cells := 0, slots := 0, locals := 21 }) D vwCl (tyL kI kZ kL kJ) [(h, .inr (7, [.int (iI th), .int (iI sn), .int (iI sm), .int (iI nw), .ref hRo, .int (iI rn), .int (iI bn), .ref hNu, .ref hWe, .ref hDa, .ref hVe, .int (iI kn), .ref hSl, .ref hTr, .ref hBx, .ref hSt, .ref hLa, .ref hOr, .ref hSi, .ref hTu, .int (iI cm), .int (iI al), .int (iI lg), .int (iI tt), .int (iI dn)]))] [.ref h, .int (iI bk), .int (iI tm)] (iI 0) [(h, .inr (7, [.int (iI 2), .int (iI sn), .int (iI sm), .int (iI nw), .ref hRo, .int (iI rn), .int (iI bn), .ref hNu, .ref hWe, .ref hDa, .ref hVe, .int (iI kn), .ref hSl, .ref hTr, .ref hBx, .ref hSt, .ref hLa, .ref hOr, .ref hSi, .ref hTu, .int (iI cm), .int (iI al), .int (iI lg), .int (iI tt), .int (iI dn)]))] sz := by
  refine ck_start (Qc := fun A => cQi D vwCl (tyL kI kZ kL kJ) A (iI 0) [(h, .inr (7, [.int (iI 2), .int (iI sn), .int (iI sm), .int (iI nw), .ref hRo, .int (iI rn), .int (iI bn), .ref hNu, .ref hWe, .ref hDa, .ref hVe, .int (iI kn), .ref hSl, .ref hTr, .ref hBx, .ref hSt, .ref hLa, .ref hOr, .ref hSi, .ref hTu, .int (iI cm), .int (iI al), .int (iI lg), .int (iI tt), .int (iI dn)]))]) (cc := cX7_through) (maxL := 6) (ret := (some .int)) (LV := [(0, .ref h), (1, .int (iI bk)), (2, .int (iI tm))]) (by decide) rfl rfl (Nat.le_of_ble_eq_true rfl) ?_
  intro p e s m below meth cd hadm hx hb hr hml hts hown hlocks hname hnoh hxT A hA hK hP hD hS ls hl
  refine lv_aload_n hx hb dX7_through_0 rfl (lv_at hl 0 rfl) ?_
  refine lv_iload_n hx hb dX7_through_1 rfl (lv_at hl 1 rfl) ?_
  refine pk_callI (va_runV (As := [.int (iI bk)]) (rest := []) ⟨hx, hb, hml, hown, hts⟩ (tX7_isBooking l D kI kZ kL kJ h hRo hNu hWe hDa hVe hSl hTr hBx hSt hLa hOr hSi hTu th sn sm nw rn bn kn cm al lg tt dn bk s.heap.size (by first | assumption | omega) (by first | assumption | omega)) (cwV 1 hts (gd_V tb_cons wd_751 wd_753 wd_24 wd_41 wd_754) rfl rfl rfl (by decide +kernel) ⟨Nat.le_of_ble_eq_true rfl, Nat.le_of_ble_eq_true rfl⟩) (ck_preV hxT hK hP hD [0] rfl (by decide) (q0 := 0) rfl rfl rfl) rfl rfl hl.1 rfl (lv_room (Nat.le_of_ble_eq_true rfl)) dX7_through_2 ⟨Nat.zero_le _, Nat.zero_le _⟩) ?_
  refine wk_bif_ne (tgt := 14) hx hb dX7_through_5 (by decide) (fun c_1 => ?_) (fun c_1 => ?_)
  · skip
    refine lv_aload_n hx hb dX7_through_14 rfl (lv_at hl 0 rfl) ?_
    refine lv_iload_n hx hb dX7_through_15 rfl (lv_at hl 2 rfl) ?_
    refine pk_callI (va_runV (As := [.int (iI tm)]) (rest := []) ⟨hx, hb, hml, hown, hts⟩ (tX7_isTime l D kI kZ kL kJ h hRo hNu hWe hDa hVe hSl hTr hBx hSt hLa hOr hSi hTu th sn sm nw rn bn kn cm al lg tt dn tm s.heap.size (by first | assumption | omega) (by first | assumption | omega)) (cwV 1 hts (gd_V tb_cons wd_755 wd_757 wd_25 wd_41 wd_758) rfl rfl rfl (by decide +kernel) ⟨Nat.le_of_ble_eq_true rfl, Nat.le_of_ble_eq_true rfl⟩) (ck_preV hxT hK hP hD [0] rfl (by decide) (q0 := 0) rfl rfl rfl) rfl rfl hl.1 rfl (lv_room (Nat.le_of_ble_eq_true rfl)) dX7_through_16 ⟨Nat.zero_le _, Nat.zero_le _⟩) ?_
    refine wk_bif_ne (tgt := 28) hx hb dX7_through_19 (by decide) (fun c_2 => ?_) (fun c_2 => ?_)
    · skip
      exfalso; omega
    · skip
      refine lv_aload_n hx hb dX7_through_22 rfl (lv_at hl 0 rfl) ?_
      refine lv_iconst (v := iI 2) hx hb dX7_through_23 rfl ?_
      refine ck_backI (va_runV (As := [.int (iI 2)]) (rest := []) ⟨hx, hb, hml, hown, hts⟩ (tX7_fails l D kI kZ kL kJ h hRo hNu hWe hDa hVe hSl hTr hBx hSt hLa hOr hSi hTu th sn sm nw rn bn kn cm al lg tt dn 2 s.heap.size ) (cwV 1 hts (gd_V tb_cons wd_702 wd_704 wd_18 wd_41 wd_705) rfl rfl rfl (by decide +kernel) ⟨Nat.le_of_ble_eq_true rfl, Nat.le_of_ble_eq_true rfl⟩) (ck_preV hxT hK hP hD [0] rfl (by decide) (q0 := 0) rfl rfl rfl) rfl rfl hl.1 rfl (lv_room (Nat.le_of_ble_eq_true rfl)) dX7_through_24 ⟨Nat.zero_le _, Nat.zero_le _⟩) hP hD hS hA [0] [] (WR := []) rfl rfl (by decide) (by decide) (ws' := [(h, .inr (7, [.int (iI 2), .int (iI sn), .int (iI sm), .int (iI nw), .ref hRo, .int (iI rn), .int (iI bn), .ref hNu, .ref hWe, .ref hDa, .ref hVe, .int (iI kn), .ref hSl, .ref hTr, .ref hBx, .ref hSt, .ref hLa, .ref hOr, .ref hSi, .ref hTu, .int (iI cm), .int (iI al), .int (iI lg), .int (iI tt), .int (iI dn)]))]) rfl (fun H locs hP hD hS => ?_)
      exact rk_int hx hb hr hlocks hK hP hD hS (by first | rfl | omega) rfl dX7_through_27
  · skip
    exfalso; omega

set_option maxHeartbeats 4000000 in
set_option maxRecDepth 100000 in
theorem tX7_through_b (l : Launch) (D : va_G) (kI : ClassId) (kZ : ClassId) (kL : ClassId) (kJ : ClassId) (h : Nat) (hRo : Nat) (hNu : Nat) (hWe : Nat) (hDa : Nat) (hVe : Nat) (hSl : Nat) (hTr : Nat) (hBx : Nat) (hSt : Nat) (hLa : Nat) (hOr : Nat) (hSi : Nat) (hTu : Nat) (bd : Int → Int) (mv : Int → Int) (ks : Int → Int) (kt : Int → Int) (kb : Int → Int) (kz : Int → Int) (th : Int) (sn : Int) (sm : Int) (nw : Int) (rn : Int) (bn : Int) (kn : Int) (cm : Int) (al : Int) (lg : Int) (tt : Int) (dn : Int) (bk : Int) (tm : Int) (sz : Nat) (hkn : 0 ≤ kn ∧ kn ≤ 60) (hbk : 1 ≤ bk ∧ bk ≤ kn) (hnw : 0 ≤ nw ∧ nw ≤ 100000) (htm : nw ≤ tm ∧ tm ≤ 100000) (hmv : ∀ j, 0 ≤ mv j ∧ mv j ≤ 1000000) (hbd : ∀ j, bd j = 0 ∨ bd j = 1) (hkz : ∀ j, 0 ≤ kz j ∧ kz j ≤ 1000000) (hkt : ∀ j, 0 ≤ kt j ∧ kt j ≤ 1000000) (hks : ∀ j, 0 ≤ ks j ∧ ks j < 24) (hkt2 : ∀ j, 0 ≤ kt j ∧ kt j < 16) (hkb : ∀ j, 0 ≤ kb j ∧ kb j < 20) (h2 : ¬ fbM tm mv bd kn ks kt kb kz bk = 0) : CtI l yX7_through wsX7_through ({ frames := 2, cells := 0, slots := 0, locals := 47 }) D vwCl (tyL kI kZ kL kJ) [(h, .inr (7, [.int (iI th), .int (iI sn), .int (iI sm), .int (iI nw), .ref hRo, .int (iI rn), .int (iI bn), .ref hNu, .ref hWe, .ref hDa, .ref hVe, .int (iI kn), .ref hSl, .ref hTr, .ref hBx, .ref hSt, .ref hLa, .ref hOr, .ref hSi, .ref hTu, .int (iI cm), .int (iI al), .int (iI lg), .int (iI tt), .int (iI dn)])), (hDa, .inl (kZ, 20, .inl (iF bd))), (hVe, .inl (kI, 112, .inl (iF mv))), (hSl, .inl (kI, 61, .inl (iF ks))), (hTr, .inl (kI, 61, .inl (iF kt))), (hBx, .inl (kI, 61, .inl (iF kb))), (hSt, .inl (kI, 61, .inl (iF kz)))] [.ref h, .int (iI bk), .int (iI tm)] (iI (-(fbM tm mv bd kn ks kt kb kz bk))) [(h, .inr (7, [.int (iI 0), .int (iI sn), .int (iI sm), .int (iI tm), .ref hRo, .int (iI rn), .int (iI bn), .ref hNu, .ref hWe, .ref hDa, .ref hVe, .int (iI kn), .ref hSl, .ref hTr, .ref hBx, .ref hSt, .ref hLa, .ref hOr, .ref hSi, .ref hTu, .int (iI cm), .int (iI al), .int (iI lg), .int (iI tt), .int (iI dn)])), (hDa, .inl (kZ, 20, .inl (iF bd))), (hVe, .inl (kI, 112, .inl (iF mv))), (hSl, .inl (kI, 61, .inl (iF ks))), (hTr, .inl (kI, 61, .inl (iF kt))), (hBx, .inl (kI, 61, .inl (iF kb))), (hSt, .inl (kI, 61, .inl (iF kz)))] sz := by
  refine ck_start (Qc := fun A => cQi D vwCl (tyL kI kZ kL kJ) A (iI (-(fbM tm mv bd kn ks kt kb kz bk))) [(h, .inr (7, [.int (iI 0), .int (iI sn), .int (iI sm), .int (iI tm), .ref hRo, .int (iI rn), .int (iI bn), .ref hNu, .ref hWe, .ref hDa, .ref hVe, .int (iI kn), .ref hSl, .ref hTr, .ref hBx, .ref hSt, .ref hLa, .ref hOr, .ref hSi, .ref hTu, .int (iI cm), .int (iI al), .int (iI lg), .int (iI tt), .int (iI dn)])), (hDa, .inl (kZ, 20, .inl (iF bd))), (hVe, .inl (kI, 112, .inl (iF mv))), (hSl, .inl (kI, 61, .inl (iF ks))), (hTr, .inl (kI, 61, .inl (iF kt))), (hBx, .inl (kI, 61, .inl (iF kb))), (hSt, .inl (kI, 61, .inl (iF kz)))]) (cc := cX7_through) (maxL := 6) (ret := (some .int)) (LV := [(0, .ref h), (1, .int (iI bk)), (2, .int (iI tm))]) (by decide) rfl rfl (Nat.le_of_ble_eq_true rfl) ?_
  intro p e s m below meth cd hadm hx hb hr hml hts hown hlocks hname hnoh hxT A hA hK hP hD hS ls hl
  refine lv_aload_n hx hb dX7_through_0 rfl (lv_at hl 0 rfl) ?_
  refine lv_iload_n hx hb dX7_through_1 rfl (lv_at hl 1 rfl) ?_
  refine pk_callI (va_runV (As := [.int (iI bk)]) (rest := []) ⟨hx, hb, hml, hown, hts⟩ (tX7_isBooking l D kI kZ kL kJ h hRo hNu hWe hDa hVe hSl hTr hBx hSt hLa hOr hSi hTu th sn sm nw rn bn kn cm al lg tt dn bk s.heap.size (by first | assumption | omega) (by first | assumption | omega)) (cwV 1 hts (gd_V tb_cons wd_751 wd_753 wd_24 wd_41 wd_754) rfl rfl rfl (by decide +kernel) ⟨Nat.le_of_ble_eq_true rfl, Nat.le_of_ble_eq_true rfl⟩) (ck_preV hxT hK hP hD [0] rfl (by decide) (q0 := 0) rfl rfl rfl) rfl rfl hl.1 rfl (lv_room (Nat.le_of_ble_eq_true rfl)) dX7_through_2 ⟨Nat.zero_le _, Nat.zero_le _⟩) ?_
  refine wk_bif_ne (tgt := 14) hx hb dX7_through_5 (by decide) (fun c_1 => ?_) (fun c_1 => ?_)
  · skip
    refine lv_aload_n hx hb dX7_through_14 rfl (lv_at hl 0 rfl) ?_
    refine lv_iload_n hx hb dX7_through_15 rfl (lv_at hl 2 rfl) ?_
    refine pk_callI (va_runV (As := [.int (iI tm)]) (rest := []) ⟨hx, hb, hml, hown, hts⟩ (tX7_isTime l D kI kZ kL kJ h hRo hNu hWe hDa hVe hSl hTr hBx hSt hLa hOr hSi hTu th sn sm nw rn bn kn cm al lg tt dn tm s.heap.size (by first | assumption | omega) (by first | assumption | omega)) (cwV 1 hts (gd_V tb_cons wd_755 wd_757 wd_25 wd_41 wd_758) rfl rfl rfl (by decide +kernel) ⟨Nat.le_of_ble_eq_true rfl, Nat.le_of_ble_eq_true rfl⟩) (ck_preV hxT hK hP hD [0] rfl (by decide) (q0 := 0) rfl rfl rfl) rfl rfl hl.1 rfl (lv_room (Nat.le_of_ble_eq_true rfl)) dX7_through_16 ⟨Nat.zero_le _, Nat.zero_le _⟩) ?_
    refine wk_bif_ne (tgt := 28) hx hb dX7_through_19 (by decide) (fun c_2 => ?_) (fun c_2 => ?_)
    · skip
      refine lv_aload_n hx hb dX7_through_28 rfl (lv_at hl 0 rfl) ?_
      refine lv_iconst (v := iI 0) hx hb dX7_through_29 rfl ?_
      refine wk_put (ci := 7) (C := RX7) (T := TX7) (N := 25) hx hb hts (fun w h => (List.mem_cons_of_mem _ (hinX7 w h))) tyX7 tyX7_ok nmX7 hown hK hP hD hS 0 rfl rfl 0 (by decide) (hts _ (List.mem_cons_of_mem _ wd_612)) (fun _ h9 => h9) rfl rfl (Nat.le_of_ble_eq_true rfl) dX7_through_30 (ws' := [(h, .inr (7, [.int (iI 0), .int (iI sn), .int (iI sm), .int (iI nw), .ref hRo, .int (iI rn), .int (iI bn), .ref hNu, .ref hWe, .ref hDa, .ref hVe, .int (iI kn), .ref hSl, .ref hTr, .ref hBx, .ref hSt, .ref hLa, .ref hOr, .ref hSi, .ref hTu, .int (iI cm), .int (iI al), .int (iI lg), .int (iI tt), .int (iI dn)])), (hDa, .inl (kZ, 20, .inl (iF bd))), (hVe, .inl (kI, 112, .inl (iF mv))), (hSl, .inl (kI, 61, .inl (iF ks))), (hTr, .inl (kI, 61, .inl (iF kt))), (hBx, .inl (kI, 61, .inl (iF kb))), (hSt, .inl (kI, 61, .inl (iF kz)))]) rfl (fun H locs hP hD hS => ?_)
      refine lv_aload_n hx hb dX7_through_33 rfl (lv_at hl 0 rfl) ?_
      refine lv_iload_n hx hb dX7_through_34 rfl (lv_at hl 2 rfl) ?_
      refine wk_put (ci := 7) (C := RX7) (T := TX7) (N := 25) hx hb hts (fun w h => (List.mem_cons_of_mem _ (hinX7 w h))) tyX7 tyX7_ok nmX7 hown hK hP hD hS 0 rfl rfl 3 (by decide) (hts _ (List.mem_cons_of_mem _ wd_615)) (fun _ h9 => h9) rfl rfl (Nat.le_of_ble_eq_true rfl) dX7_through_35 (ws' := [(h, .inr (7, [.int (iI 0), .int (iI sn), .int (iI sm), .int (iI tm), .ref hRo, .int (iI rn), .int (iI bn), .ref hNu, .ref hWe, .ref hDa, .ref hVe, .int (iI kn), .ref hSl, .ref hTr, .ref hBx, .ref hSt, .ref hLa, .ref hOr, .ref hSi, .ref hTu, .int (iI cm), .int (iI al), .int (iI lg), .int (iI tt), .int (iI dn)])), (hDa, .inl (kZ, 20, .inl (iF bd))), (hVe, .inl (kI, 112, .inl (iF mv))), (hSl, .inl (kI, 61, .inl (iF ks))), (hTr, .inl (kI, 61, .inl (iF kt))), (hBx, .inl (kI, 61, .inl (iF kb))), (hSt, .inl (kI, 61, .inl (iF kz)))]) rfl (fun H locs hP hD hS => ?_)
      refine lv_aload_n hx hb dX7_through_38 rfl (lv_at hl 0 rfl) ?_
      refine lv_iload_n hx hb dX7_through_39 rfl (lv_at hl 1 rfl) ?_
      refine pk_callI (va_runV (As := [.int (iI bk)]) (rest := []) ⟨hx, hb, hml, hown, hts⟩ (tX7_bar l D kI kZ kL kJ h hRo hNu hWe hDa hVe hSl hTr hBx hSt hLa hOr hSi hTu bd mv ks kt kb kz 0 sn sm tm rn bn kn cm al lg tt dn bk H.size (by first | assumption | omega) (by first | assumption | omega) (by first | assumption | omega) (by first | assumption | omega) (by first | assumption | omega) (by first | assumption | omega) (by first | assumption | omega) (by first | assumption | omega) (by first | assumption | omega) (by first | assumption | omega)) (cwV 1 hts (gd_V tb_cons wd_759 wd_761 wd_26 wd_41 wd_762) rfl rfl rfl (by decide +kernel) ⟨Nat.le_of_ble_eq_true rfl, Nat.le_of_ble_eq_true rfl⟩) (ck_preV hxT hK hP hD [0, 1, 2, 3, 4, 5, 6] rfl (by decide) (q0 := 0) rfl rfl rfl) rfl rfl hl.1 rfl (lv_room (Nat.le_of_ble_eq_true rfl)) dX7_through_40 ⟨Nat.zero_le _, Nat.zero_le _⟩) ?_
      have b9 := fbM_rng tm mv bd kn ks kt kb kz bk
      refine lv_istore_n (lv' := [(3, .int (iI (fbM tm mv bd kn ks kt kb kz bk))), (0, .ref h), (1, .int (iI bk)), (2, .int (iI tm))]) hx hb dX7_through_43 rfl hl (by decide) rfl (fun ls hl => ?_)
      refine lv_iload_n hx hb dX7_through_44 rfl (lv_at hl 0 rfl) ?_
      refine wk_if_le (tgt := 51) hx hb dX7_through_45 (by decide) (by omega) (fun c_3 => ?_) (fun c_3 => ?_)
      · skip
        exfalso; omega
      · skip
        refine lv_iload_n hx hb dX7_through_48 rfl (lv_at hl 0 rfl) ?_
        refine wk_ineg hx hb dX7_through_49 ?_
        exact rk_int hx hb hr hlocks hK hP hD hS (by first | rfl | omega) rfl dX7_through_50
    · skip
      exfalso; omega
  · skip
    exfalso; omega

set_option maxHeartbeats 4000000 in
set_option maxRecDepth 100000 in
theorem tX7_through_p0 (l : Launch) (D : va_G) (kI : ClassId) (kZ : ClassId) (kL : ClassId) (kJ : ClassId) (h : Nat) (hRo : Nat) (hNu : Nat) (hWe : Nat) (hDa : Nat) (hVe : Nat) (hSl : Nat) (hTr : Nat) (hBx : Nat) (hSt : Nat) (hLa : Nat) (hOr : Nat) (hSi : Nat) (hTu : Nat) (bd : Int → Int) (mv : Int → Int) (ks : Int → Int) (kt : Int → Int) (kb : Int → Int) (kz : Int → Int) (kl : Int → Int) (mo : Int → Int) (kc : Int → Int) (th : Int) (sn : Int) (sm : Int) (nw : Int) (rn : Int) (bn : Int) (kn : Int) (cm : Int) (al : Int) (lg : Int) (tt : Int) (dn : Int) (bk : Int) (tm : Int) (sz : Nat) (hkn : 0 ≤ kn ∧ kn ≤ 60) (hbk : 1 ≤ bk ∧ bk ≤ kn) (hnw : 0 ≤ nw ∧ nw ≤ 100000) (htm : nw ≤ tm ∧ tm ≤ 100000) (hmv : ∀ j, 0 ≤ mv j ∧ mv j ≤ 1000000) (hbd : ∀ j, bd j = 0 ∨ bd j = 1) (hkz : ∀ j, 0 ≤ kz j ∧ kz j ≤ 1000000) (hkt : ∀ j, 0 ≤ kt j ∧ kt j ≤ 1000000) (hks : ∀ j, 0 ≤ ks j ∧ ks j < 24) (hkt2 : ∀ j, 0 ≤ kt j ∧ kt j < 16) (hkb : ∀ j, 0 ≤ kb j ∧ kb j < 20) (hkl : ∀ j, 0 ≤ kl j ∧ kl j ≤ 1000000) (h2 : fbM tm mv bd kn ks kt kb kz bk = 0) (h3 : ¬ (mv (4 * kb bk + 1) = 2 ∨ mv (4 * kb bk + 2) = 2) ∧ ¬ cn (pLN kz kl 1) (kn + 1 - 1).toNat < cn (pLN kz kl 0) (kn + 1 - 1).toNat) : CtI l yX7_through wsX7_through ({ frames := 2, cells := 0, slots := 0, locals := 47 }) D vwCl (tyL kI kZ kL kJ) [(h, .inr (7, [.int (iI th), .int (iI sn), .int (iI sm), .int (iI nw), .ref hRo, .int (iI rn), .int (iI bn), .ref hNu, .ref hWe, .ref hDa, .ref hVe, .int (iI kn), .ref hSl, .ref hTr, .ref hBx, .ref hSt, .ref hLa, .ref hOr, .ref hSi, .ref hTu, .int (iI cm), .int (iI al), .int (iI lg), .int (iI tt), .int (iI dn)])), (hDa, .inl (kZ, 20, .inl (iF bd))), (hVe, .inl (kI, 112, .inl (iF mv))), (hSl, .inl (kI, 61, .inl (iF ks))), (hTr, .inl (kI, 61, .inl (iF kt))), (hBx, .inl (kI, 61, .inl (iF kb))), (hSt, .inl (kI, 61, .inl (iF kz))), (hLa, .inl (kI, 61, .inl (iF kl))), (hOr, .inl (kI, 61, .inl (iF mo))), (hSi, .inl (kI, 61, .inl (iF kc)))] [.ref h, .int (iI bk), .int (iI tm)] (iI 1) [(h, .inr (7, [.int (iI 0), .int (iI sn), .int (iI sm), .int (iI tm), .ref hRo, .int (iI rn), .int (iI bn), .ref hNu, .ref hWe, .ref hDa, .ref hVe, .int (iI kn), .ref hSl, .ref hTr, .ref hBx, .ref hSt, .ref hLa, .ref hOr, .ref hSi, .ref hTu, .int (iI (cm + 1)), .int (iI al), .int (iI lg), .int (iI tt), .int (iI dn)])), (hDa, .inl (kZ, 20, .inl (iF bd))), (hVe, .inl (kI, 112, .inl (iF mv))), (hSl, .inl (kI, 61, .inl (iF ks))), (hTr, .inl (kI, 61, .inl (iF kt))), (hBx, .inl (kI, 61, .inl (iF kb))), (hSt, .inl (kI, 61, .inl (iF (iu kz bk 1)))), (hLa, .inl (kI, 61, .inl (iF (iu kl bk 0)))), (hOr, .inl (kI, 61, .inl (iF (iu mo bk (cm + 1))))), (hSi, .inl (kI, 61, .inl (iF (iu kc bk tm))))] sz := by
  refine ck_start (Qc := fun A => cQi D vwCl (tyL kI kZ kL kJ) A (iI 1) [(h, .inr (7, [.int (iI 0), .int (iI sn), .int (iI sm), .int (iI tm), .ref hRo, .int (iI rn), .int (iI bn), .ref hNu, .ref hWe, .ref hDa, .ref hVe, .int (iI kn), .ref hSl, .ref hTr, .ref hBx, .ref hSt, .ref hLa, .ref hOr, .ref hSi, .ref hTu, .int (iI (cm + 1)), .int (iI al), .int (iI lg), .int (iI tt), .int (iI dn)])), (hDa, .inl (kZ, 20, .inl (iF bd))), (hVe, .inl (kI, 112, .inl (iF mv))), (hSl, .inl (kI, 61, .inl (iF ks))), (hTr, .inl (kI, 61, .inl (iF kt))), (hBx, .inl (kI, 61, .inl (iF kb))), (hSt, .inl (kI, 61, .inl (iF (iu kz bk 1)))), (hLa, .inl (kI, 61, .inl (iF (iu kl bk 0)))), (hOr, .inl (kI, 61, .inl (iF (iu mo bk (cm + 1))))), (hSi, .inl (kI, 61, .inl (iF (iu kc bk tm))))]) (cc := cX7_through) (maxL := 6) (ret := (some .int)) (LV := [(0, .ref h), (1, .int (iI bk)), (2, .int (iI tm))]) (by decide) rfl rfl (Nat.le_of_ble_eq_true rfl) ?_
  intro p e s m below meth cd hadm hx hb hr hml hts hown hlocks hname hnoh hxT A hA hK hP hD hS ls hl
  refine lv_aload_n hx hb dX7_through_0 rfl (lv_at hl 0 rfl) ?_
  refine lv_iload_n hx hb dX7_through_1 rfl (lv_at hl 1 rfl) ?_
  refine pk_callI (va_runV (As := [.int (iI bk)]) (rest := []) ⟨hx, hb, hml, hown, hts⟩ (tX7_isBooking l D kI kZ kL kJ h hRo hNu hWe hDa hVe hSl hTr hBx hSt hLa hOr hSi hTu th sn sm nw rn bn kn cm al lg tt dn bk s.heap.size (by first | assumption | omega) (by first | assumption | omega)) (cwV 1 hts (gd_V tb_cons wd_751 wd_753 wd_24 wd_41 wd_754) rfl rfl rfl (by decide +kernel) ⟨Nat.le_of_ble_eq_true rfl, Nat.le_of_ble_eq_true rfl⟩) (ck_preV hxT hK hP hD [0] rfl (by decide) (q0 := 0) rfl rfl rfl) rfl rfl hl.1 rfl (lv_room (Nat.le_of_ble_eq_true rfl)) dX7_through_2 ⟨Nat.zero_le _, Nat.zero_le _⟩) ?_
  refine wk_bif_ne (tgt := 14) hx hb dX7_through_5 (by decide) (fun c_1 => ?_) (fun c_1 => ?_)
  · skip
    refine lv_aload_n hx hb dX7_through_14 rfl (lv_at hl 0 rfl) ?_
    refine lv_iload_n hx hb dX7_through_15 rfl (lv_at hl 2 rfl) ?_
    refine pk_callI (va_runV (As := [.int (iI tm)]) (rest := []) ⟨hx, hb, hml, hown, hts⟩ (tX7_isTime l D kI kZ kL kJ h hRo hNu hWe hDa hVe hSl hTr hBx hSt hLa hOr hSi hTu th sn sm nw rn bn kn cm al lg tt dn tm s.heap.size (by first | assumption | omega) (by first | assumption | omega)) (cwV 1 hts (gd_V tb_cons wd_755 wd_757 wd_25 wd_41 wd_758) rfl rfl rfl (by decide +kernel) ⟨Nat.le_of_ble_eq_true rfl, Nat.le_of_ble_eq_true rfl⟩) (ck_preV hxT hK hP hD [0] rfl (by decide) (q0 := 0) rfl rfl rfl) rfl rfl hl.1 rfl (lv_room (Nat.le_of_ble_eq_true rfl)) dX7_through_16 ⟨Nat.zero_le _, Nat.zero_le _⟩) ?_
    refine wk_bif_ne (tgt := 28) hx hb dX7_through_19 (by decide) (fun c_2 => ?_) (fun c_2 => ?_)
    · skip
      refine lv_aload_n hx hb dX7_through_28 rfl (lv_at hl 0 rfl) ?_
      refine lv_iconst (v := iI 0) hx hb dX7_through_29 rfl ?_
      refine wk_put (ci := 7) (C := RX7) (T := TX7) (N := 25) hx hb hts (fun w h => (List.mem_cons_of_mem _ (hinX7 w h))) tyX7 tyX7_ok nmX7 hown hK hP hD hS 0 rfl rfl 0 (by decide) (hts _ (List.mem_cons_of_mem _ wd_612)) (fun _ h9 => h9) rfl rfl (Nat.le_of_ble_eq_true rfl) dX7_through_30 (ws' := [(h, .inr (7, [.int (iI 0), .int (iI sn), .int (iI sm), .int (iI nw), .ref hRo, .int (iI rn), .int (iI bn), .ref hNu, .ref hWe, .ref hDa, .ref hVe, .int (iI kn), .ref hSl, .ref hTr, .ref hBx, .ref hSt, .ref hLa, .ref hOr, .ref hSi, .ref hTu, .int (iI cm), .int (iI al), .int (iI lg), .int (iI tt), .int (iI dn)])), (hDa, .inl (kZ, 20, .inl (iF bd))), (hVe, .inl (kI, 112, .inl (iF mv))), (hSl, .inl (kI, 61, .inl (iF ks))), (hTr, .inl (kI, 61, .inl (iF kt))), (hBx, .inl (kI, 61, .inl (iF kb))), (hSt, .inl (kI, 61, .inl (iF kz))), (hLa, .inl (kI, 61, .inl (iF kl))), (hOr, .inl (kI, 61, .inl (iF mo))), (hSi, .inl (kI, 61, .inl (iF kc)))]) rfl (fun H locs hP hD hS => ?_)
      refine lv_aload_n hx hb dX7_through_33 rfl (lv_at hl 0 rfl) ?_
      refine lv_iload_n hx hb dX7_through_34 rfl (lv_at hl 2 rfl) ?_
      refine wk_put (ci := 7) (C := RX7) (T := TX7) (N := 25) hx hb hts (fun w h => (List.mem_cons_of_mem _ (hinX7 w h))) tyX7 tyX7_ok nmX7 hown hK hP hD hS 0 rfl rfl 3 (by decide) (hts _ (List.mem_cons_of_mem _ wd_615)) (fun _ h9 => h9) rfl rfl (Nat.le_of_ble_eq_true rfl) dX7_through_35 (ws' := [(h, .inr (7, [.int (iI 0), .int (iI sn), .int (iI sm), .int (iI tm), .ref hRo, .int (iI rn), .int (iI bn), .ref hNu, .ref hWe, .ref hDa, .ref hVe, .int (iI kn), .ref hSl, .ref hTr, .ref hBx, .ref hSt, .ref hLa, .ref hOr, .ref hSi, .ref hTu, .int (iI cm), .int (iI al), .int (iI lg), .int (iI tt), .int (iI dn)])), (hDa, .inl (kZ, 20, .inl (iF bd))), (hVe, .inl (kI, 112, .inl (iF mv))), (hSl, .inl (kI, 61, .inl (iF ks))), (hTr, .inl (kI, 61, .inl (iF kt))), (hBx, .inl (kI, 61, .inl (iF kb))), (hSt, .inl (kI, 61, .inl (iF kz))), (hLa, .inl (kI, 61, .inl (iF kl))), (hOr, .inl (kI, 61, .inl (iF mo))), (hSi, .inl (kI, 61, .inl (iF kc)))]) rfl (fun H locs hP hD hS => ?_)
      refine lv_aload_n hx hb dX7_through_38 rfl (lv_at hl 0 rfl) ?_
      refine lv_iload_n hx hb dX7_through_39 rfl (lv_at hl 1 rfl) ?_
      refine pk_callI (va_runV (As := [.int (iI bk)]) (rest := []) ⟨hx, hb, hml, hown, hts⟩ (tX7_bar l D kI kZ kL kJ h hRo hNu hWe hDa hVe hSl hTr hBx hSt hLa hOr hSi hTu bd mv ks kt kb kz 0 sn sm tm rn bn kn cm al lg tt dn bk H.size (by first | assumption | omega) (by first | assumption | omega) (by first | assumption | omega) (by first | assumption | omega) (by first | assumption | omega) (by first | assumption | omega) (by first | assumption | omega) (by first | assumption | omega) (by first | assumption | omega) (by first | assumption | omega)) (cwV 1 hts (gd_V tb_cons wd_759 wd_761 wd_26 wd_41 wd_762) rfl rfl rfl (by decide +kernel) ⟨Nat.le_of_ble_eq_true rfl, Nat.le_of_ble_eq_true rfl⟩) (ck_preV hxT hK hP hD [0, 1, 2, 3, 4, 5, 6] rfl (by decide) (q0 := 0) rfl rfl rfl) rfl rfl hl.1 rfl (lv_room (Nat.le_of_ble_eq_true rfl)) dX7_through_40 ⟨Nat.zero_le _, Nat.zero_le _⟩) ?_
      have b9 := fbM_rng tm mv bd kn ks kt kb kz bk
      refine lv_istore_n (lv' := [(3, .int (iI (fbM tm mv bd kn ks kt kb kz bk))), (0, .ref h), (1, .int (iI bk)), (2, .int (iI tm))]) hx hb dX7_through_43 rfl hl (by decide) rfl (fun ls hl => ?_)
      refine lv_iload_n hx hb dX7_through_44 rfl (lv_at hl 0 rfl) ?_
      refine wk_if_le (tgt := 51) hx hb dX7_through_45 (by decide) (by omega) (fun c_3 => ?_) (fun c_3 => ?_)
      · skip
        refine lv_aload_n hx hb dX7_through_51 rfl (lv_at hl 1 rfl) ?_
        refine lv_iconst (v := iI 1) hx hb dX7_through_52 rfl ?_
        refine lv_aload_n hx hb dX7_through_53 rfl (lv_at hl 1 rfl) ?_
        refine va_get (D := D) (ci := 7) (v := .ref hBx) (C := RX7) (T := TX7) (N := 25) hx hb hts (fun w h => (List.mem_cons_of_mem _ (hinX7 w h))) hown hK hP 0 rfl rfl 14 (by decide) (hts _ (List.mem_cons_of_mem _ wd_626)) (fun _ h9 => h9) rfl dX7_through_54 ?_
        refine lv_iload_n hx hb dX7_through_57 rfl (lv_at hl 2 rfl) ?_
        refine wk_iald hx hb hK hP 5 0 rfl rfl (by decide) (by omega) dX7_through_58 ?_
        have b_4 := hkb bk
        refine pk_callI (va_runV (As := [.int (iI 1), .int (iI (kb bk))]) (rest := []) ⟨hx, hb, hml, hown, hts⟩ (tX7_verdictOf l D kI kZ kL kJ h hRo hNu hWe hDa hVe hSl hTr hBx hSt hLa hOr hSi hTu mv 0 sn sm tm rn bn kn cm al lg tt dn 1 (kb bk) H.size (by first | assumption | omega) (by first | assumption | omega)) (cwV 2 hts (gd_V tb_cons wd_763 wd_765 wd_27 wd_41 wd_766) rfl rfl rfl (by decide +kernel) ⟨Nat.le_of_ble_eq_true rfl, Nat.le_of_ble_eq_true rfl⟩) (ck_preV hxT hK hP hD [0, 2] rfl (by decide) (q0 := 0) rfl rfl rfl) rfl rfl hl.1 rfl (lv_room (Nat.le_of_ble_eq_true rfl)) dX7_through_59 ⟨Nat.zero_le _, Nat.zero_le _⟩) ?_
        have b1 := hmv (4 * kb bk + 1)
        refine lv_iconst (v := iI 2) hx hb dX7_through_62 rfl ?_
        refine wk_icmp_eq (tgt := 81) hx hb dX7_through_63 (by decide) (by omega) (fun c_5 => ?_) (fun c_5 => ?_)
        · skip
          exfalso; omega
        · skip
          refine lv_aload_n hx hb dX7_through_66 rfl (lv_at hl 1 rfl) ?_
          refine lv_iconst (v := iI 2) hx hb dX7_through_67 rfl ?_
          refine lv_aload_n hx hb dX7_through_68 rfl (lv_at hl 1 rfl) ?_
          refine va_get (D := D) (ci := 7) (v := .ref hBx) (C := RX7) (T := TX7) (N := 25) hx hb hts (fun w h => (List.mem_cons_of_mem _ (hinX7 w h))) hown hK hP 0 rfl rfl 14 (by decide) (hts _ (List.mem_cons_of_mem _ wd_626)) (fun _ h9 => h9) rfl dX7_through_69 ?_
          refine lv_iload_n hx hb dX7_through_72 rfl (lv_at hl 2 rfl) ?_
          refine wk_iald hx hb hK hP 5 0 rfl rfl (by decide) (by omega) dX7_through_73 ?_
          have b_6 := hkb bk
          refine pk_callI (va_runV (As := [.int (iI 2), .int (iI (kb bk))]) (rest := []) ⟨hx, hb, hml, hown, hts⟩ (tX7_verdictOf l D kI kZ kL kJ h hRo hNu hWe hDa hVe hSl hTr hBx hSt hLa hOr hSi hTu mv 0 sn sm tm rn bn kn cm al lg tt dn 2 (kb bk) H.size (by first | assumption | omega) (by first | assumption | omega)) (cwV 2 hts (gd_V tb_cons wd_763 wd_765 wd_27 wd_41 wd_766) rfl rfl rfl (by decide +kernel) ⟨Nat.le_of_ble_eq_true rfl, Nat.le_of_ble_eq_true rfl⟩) (ck_preV hxT hK hP hD [0, 2] rfl (by decide) (q0 := 0) rfl rfl rfl) rfl rfl hl.1 rfl (lv_room (Nat.le_of_ble_eq_true rfl)) dX7_through_74 ⟨Nat.zero_le _, Nat.zero_le _⟩) ?_
          have b2 := hmv (4 * kb bk + 2)
          refine lv_iconst (v := iI 2) hx hb dX7_through_77 rfl ?_
          refine wk_icmp_ne (tgt := 85) hx hb dX7_through_78 (by decide) (by omega) (fun c_7 => ?_) (fun c_7 => ?_)
          · skip
            refine lv_iconst (v := iI 0) hx hb dX7_through_85 rfl ?_
            refine lv_istore (lv' := [(4, .int (iI 0)), (3, .int (iI (fbM tm mv bd kn ks kt kb kz bk))), (0, .ref h), (1, .int (iI bk)), (2, .int (iI tm))]) hx hb dX7_through_86 hl (by decide) rfl (fun ls hl => ?_)
            refine lv_iload hx hb dX7_through_88 (lv_at hl 0 rfl) ?_
            refine wk_if_eq (tgt := 97) hx hb dX7_through_90 (by decide) (by omega) (fun c_8 => ?_) (fun c_8 => ?_)
            · skip
              refine lv_aload_n hx hb dX7_through_97 rfl (lv_at hl 2 rfl) ?_
              refine lv_iconst (v := iI 1) hx hb dX7_through_98 rfl ?_
              refine pk_callI (va_runV (As := [.int (iI 1)]) (rest := []) ⟨hx, hb, hml, hown, hts⟩ (tX7_inLane l D kI kZ kL kJ h hRo hNu hWe hDa hVe hSl hTr hBx hSt hLa hOr hSi hTu kz kl 0 sn sm tm rn bn kn cm al lg tt dn 1 H.size (by first | assumption | omega) (by first | assumption | omega) (by first | assumption | omega) (by first | assumption | omega)) (cwV 1 hts (gd_V tb_cons wd_771 wd_773 wd_29 wd_41 wd_774) rfl rfl rfl (by decide +kernel) ⟨Nat.le_of_ble_eq_true rfl, Nat.le_of_ble_eq_true rfl⟩) (ck_preV hxT hK hP hD [0, 6, 7] rfl (by decide) (q0 := 0) rfl rfl rfl) rfl rfl hl.1 rfl (lv_room (Nat.le_of_ble_eq_true rfl)) dX7_through_99 ⟨Nat.zero_le _, Nat.zero_le _⟩) ?_
              have b3 := cn_rng (pLN kz kl 1) (kn + 1 - 1).toNat
              refine lv_aload_n hx hb dX7_through_102 rfl (lv_at hl 2 rfl) ?_
              refine lv_iconst (v := iI 0) hx hb dX7_through_103 rfl ?_
              refine pk_callI (va_runV (As := [.int (iI 0)]) (rest := [.int (iI (cn (pLN kz kl 1) (kn + 1 - 1).toNat))]) ⟨hx, hb, hml, hown, hts⟩ (tX7_inLane l D kI kZ kL kJ h hRo hNu hWe hDa hVe hSl hTr hBx hSt hLa hOr hSi hTu kz kl 0 sn sm tm rn bn kn cm al lg tt dn 0 H.size (by first | assumption | omega) (by first | assumption | omega) (by first | assumption | omega) (by first | assumption | omega)) (cwV 1 hts (gd_V tb_cons wd_771 wd_773 wd_29 wd_41 wd_774) rfl rfl rfl (by decide +kernel) ⟨Nat.le_of_ble_eq_true rfl, Nat.le_of_ble_eq_true rfl⟩) (ck_preV hxT hK hP hD [0, 6, 7] rfl (by decide) (q0 := 0) rfl rfl rfl) rfl rfl hl.1 rfl (lv_room (Nat.le_of_ble_eq_true rfl)) dX7_through_104 ⟨Nat.zero_le _, Nat.zero_le _⟩) ?_
              have b4 := cn_rng (pLN kz kl 0) (kn + 1 - 1).toNat
              refine wk_icmp_ge (tgt := 114) hx hb dX7_through_107 (by decide) (by omega) (fun c_9 => ?_) (fun c_9 => ?_)
              · skip
                refine lv_iconst (v := iI 0) hx hb dX7_through_114 rfl ?_
                refine lv_istore (lv' := [(5, .int (iI 0)), (4, .int (iI 0)), (3, .int (iI (fbM tm mv bd kn ks kt kb kz bk))), (0, .ref h), (1, .int (iI bk)), (2, .int (iI tm))]) hx hb dX7_through_115 hl (by decide) rfl (fun ls hl => ?_)
                refine lv_aload_n hx hb dX7_through_117 rfl (lv_at hl 3 rfl) ?_
                refine va_get (D := D) (ci := 7) (v := .ref hSt) (C := RX7) (T := TX7) (N := 25) hx hb hts (fun w h => (List.mem_cons_of_mem _ (hinX7 w h))) hown hK hP 0 rfl rfl 15 (by decide) (hts _ (List.mem_cons_of_mem _ wd_627)) (fun _ h9 => h9) rfl dX7_through_118 ?_
                refine lv_iload_n hx hb dX7_through_121 rfl (lv_at hl 4 rfl) ?_
                refine lv_iconst (v := iI 1) hx hb dX7_through_122 rfl ?_
                refine wk_iast hx hb hK hP hD hS 6 0 rfl rfl (by decide) (by omega) dX7_through_123 (ws' := [(h, .inr (7, [.int (iI 0), .int (iI sn), .int (iI sm), .int (iI tm), .ref hRo, .int (iI rn), .int (iI bn), .ref hNu, .ref hWe, .ref hDa, .ref hVe, .int (iI kn), .ref hSl, .ref hTr, .ref hBx, .ref hSt, .ref hLa, .ref hOr, .ref hSi, .ref hTu, .int (iI cm), .int (iI al), .int (iI lg), .int (iI tt), .int (iI dn)])), (hDa, .inl (kZ, 20, .inl (iF bd))), (hVe, .inl (kI, 112, .inl (iF mv))), (hSl, .inl (kI, 61, .inl (iF ks))), (hTr, .inl (kI, 61, .inl (iF kt))), (hBx, .inl (kI, 61, .inl (iF kb))), (hSt, .inl (kI, 61, .inl (iF (iu kz bk 1)))), (hLa, .inl (kI, 61, .inl (iF kl))), (hOr, .inl (kI, 61, .inl (iF mo))), (hSi, .inl (kI, 61, .inl (iF kc)))]) rfl (fun H locs hP hD hS => ?_)
                refine lv_aload_n hx hb dX7_through_124 rfl (lv_at hl 3 rfl) ?_
                refine va_get (D := D) (ci := 7) (v := .ref hSi) (C := RX7) (T := TX7) (N := 25) hx hb hts (fun w h => (List.mem_cons_of_mem _ (hinX7 w h))) hown hK hP 0 rfl rfl 18 (by decide) (hts _ (List.mem_cons_of_mem _ wd_630)) (fun _ h9 => h9) rfl dX7_through_125 ?_
                refine lv_iload_n hx hb dX7_through_128 rfl (lv_at hl 4 rfl) ?_
                refine lv_aload_n hx hb dX7_through_129 rfl (lv_at hl 3 rfl) ?_
                refine va_get (D := D) (ci := 7) (v := .int (iI tm)) (C := RX7) (T := TX7) (N := 25) hx hb hts (fun w h => (List.mem_cons_of_mem _ (hinX7 w h))) hown hK hP 0 rfl rfl 3 (by decide) (hts _ (List.mem_cons_of_mem _ wd_615)) (fun _ h9 => h9) rfl dX7_through_130 ?_
                refine wk_iast hx hb hK hP hD hS 9 0 rfl rfl (by decide) (by omega) dX7_through_133 (ws' := [(h, .inr (7, [.int (iI 0), .int (iI sn), .int (iI sm), .int (iI tm), .ref hRo, .int (iI rn), .int (iI bn), .ref hNu, .ref hWe, .ref hDa, .ref hVe, .int (iI kn), .ref hSl, .ref hTr, .ref hBx, .ref hSt, .ref hLa, .ref hOr, .ref hSi, .ref hTu, .int (iI cm), .int (iI al), .int (iI lg), .int (iI tt), .int (iI dn)])), (hDa, .inl (kZ, 20, .inl (iF bd))), (hVe, .inl (kI, 112, .inl (iF mv))), (hSl, .inl (kI, 61, .inl (iF ks))), (hTr, .inl (kI, 61, .inl (iF kt))), (hBx, .inl (kI, 61, .inl (iF kb))), (hSt, .inl (kI, 61, .inl (iF (iu kz bk 1)))), (hLa, .inl (kI, 61, .inl (iF kl))), (hOr, .inl (kI, 61, .inl (iF mo))), (hSi, .inl (kI, 61, .inl (iF (iu kc bk tm))))]) rfl (fun H locs hP hD hS => ?_)
                refine lv_aload_n hx hb dX7_through_134 rfl (lv_at hl 3 rfl) ?_
                refine lv_iload_n hx hb dX7_through_135 rfl (lv_at hl 4 rfl) ?_
                refine lv_iload hx hb dX7_through_136 (lv_at hl 0 rfl) ?_
                refine ck_backV (va_runV (As := [.int (iI bk), .int (iI 0)]) (rest := []) ⟨hx, hb, hml, hown, hts⟩ (tX7_comes l D kI kZ kL kJ h hRo hNu hWe hDa hVe hSl hTr hBx hSt hLa hOr hSi hTu kl mo 0 sn sm tm rn bn kn cm al lg tt dn bk 0 H.size (by first | assumption | omega)) (cwV 2 hts (gd_V tb_cons wd_775 wd_777 wd_30 wd_41 wd_778) rfl rfl rfl (by decide +kernel) ⟨Nat.le_of_ble_eq_true rfl, Nat.le_of_ble_eq_true rfl⟩) (ck_preV hxT hK hP hD [0, 7, 8] rfl (by decide) (q0 := 0) rfl rfl rfl) rfl rfl hl.1 rfl (lv_room (Nat.le_of_ble_eq_true rfl)) dX7_through_138 ⟨Nat.zero_le _, Nat.zero_le _⟩) hP hD hS hA [0, 7, 8] [1, 2, 3, 4, 5, 6, 9] (WR := [(hDa, .inl (kZ, 20, .inl (iF bd))), (hVe, .inl (kI, 112, .inl (iF mv))), (hSl, .inl (kI, 61, .inl (iF ks))), (hTr, .inl (kI, 61, .inl (iF kt))), (hBx, .inl (kI, 61, .inl (iF kb))), (hSt, .inl (kI, 61, .inl (iF (iu kz bk 1)))), (hSi, .inl (kI, 61, .inl (iF (iu kc bk tm))))]) rfl rfl (by decide) (by decide) (ws' := [(hDa, .inl (kZ, 20, .inl (iF bd))), (hVe, .inl (kI, 112, .inl (iF mv))), (hSl, .inl (kI, 61, .inl (iF ks))), (hTr, .inl (kI, 61, .inl (iF kt))), (hBx, .inl (kI, 61, .inl (iF kb))), (hSt, .inl (kI, 61, .inl (iF (iu kz bk 1)))), (hSi, .inl (kI, 61, .inl (iF (iu kc bk tm)))), (h, .inr (7, [.int (iI 0), .int (iI sn), .int (iI sm), .int (iI tm), .ref hRo, .int (iI rn), .int (iI bn), .ref hNu, .ref hWe, .ref hDa, .ref hVe, .int (iI kn), .ref hSl, .ref hTr, .ref hBx, .ref hSt, .ref hLa, .ref hOr, .ref hSi, .ref hTu, .int (iI (cm + 1)), .int (iI al), .int (iI lg), .int (iI tt), .int (iI dn)])), (hLa, .inl (kI, 61, .inl (iF (iu kl bk 0)))), (hOr, .inl (kI, 61, .inl (iF (iu mo bk (cm + 1)))))]) rfl (fun H locs hP hD hS => ?_)
                refine lv_iconst (v := iI 1) hx hb dX7_through_141 rfl ?_
                have hP := hP.sub (ws' := [(h, .inr (7, [.int (iI 0), .int (iI sn), .int (iI sm), .int (iI tm), .ref hRo, .int (iI rn), .int (iI bn), .ref hNu, .ref hWe, .ref hDa, .ref hVe, .int (iI kn), .ref hSl, .ref hTr, .ref hBx, .ref hSt, .ref hLa, .ref hOr, .ref hSi, .ref hTu, .int (iI (cm + 1)), .int (iI al), .int (iI lg), .int (iI tt), .int (iI dn)])), (hDa, .inl (kZ, 20, .inl (iF bd))), (hVe, .inl (kI, 112, .inl (iF mv))), (hSl, .inl (kI, 61, .inl (iF ks))), (hTr, .inl (kI, 61, .inl (iF kt))), (hBx, .inl (kI, 61, .inl (iF kb))), (hSt, .inl (kI, 61, .inl (iF (iu kz bk 1)))), (hLa, .inl (kI, 61, .inl (iF (iu kl bk 0)))), (hOr, .inl (kI, 61, .inl (iF (iu mo bk (cm + 1))))), (hSi, .inl (kI, 61, .inl (iF (iu kc bk tm))))]) [7, 0, 1, 2, 3, 4, 5, 8, 9, 6] rfl
                have hD := hD.sub (ws' := [(h, .inr (7, [.int (iI 0), .int (iI sn), .int (iI sm), .int (iI tm), .ref hRo, .int (iI rn), .int (iI bn), .ref hNu, .ref hWe, .ref hDa, .ref hVe, .int (iI kn), .ref hSl, .ref hTr, .ref hBx, .ref hSt, .ref hLa, .ref hOr, .ref hSi, .ref hTu, .int (iI (cm + 1)), .int (iI al), .int (iI lg), .int (iI tt), .int (iI dn)])), (hDa, .inl (kZ, 20, .inl (iF bd))), (hVe, .inl (kI, 112, .inl (iF mv))), (hSl, .inl (kI, 61, .inl (iF ks))), (hTr, .inl (kI, 61, .inl (iF kt))), (hBx, .inl (kI, 61, .inl (iF kb))), (hSt, .inl (kI, 61, .inl (iF (iu kz bk 1)))), (hLa, .inl (kI, 61, .inl (iF (iu kl bk 0)))), (hOr, .inl (kI, 61, .inl (iF (iu mo bk (cm + 1))))), (hSi, .inl (kI, 61, .inl (iF (iu kc bk tm))))]) [7, 0, 1, 2, 3, 4, 5, 8, 9, 6] (by decide) rfl
                exact rk_int hx hb hr hlocks hK hP hD hS (by first | rfl | omega) rfl dX7_through_142
              · skip
                exfalso; omega
            · skip
              exfalso; omega
          · skip
            exfalso; omega
      · skip
        exfalso; omega
    · skip
      exfalso; omega
  · skip
    exfalso; omega

set_option maxHeartbeats 4000000 in
set_option maxRecDepth 100000 in
theorem tX7_through_p1 (l : Launch) (D : va_G) (kI : ClassId) (kZ : ClassId) (kL : ClassId) (kJ : ClassId) (h : Nat) (hRo : Nat) (hNu : Nat) (hWe : Nat) (hDa : Nat) (hVe : Nat) (hSl : Nat) (hTr : Nat) (hBx : Nat) (hSt : Nat) (hLa : Nat) (hOr : Nat) (hSi : Nat) (hTu : Nat) (bd : Int → Int) (mv : Int → Int) (ks : Int → Int) (kt : Int → Int) (kb : Int → Int) (kz : Int → Int) (kl : Int → Int) (mo : Int → Int) (kc : Int → Int) (th : Int) (sn : Int) (sm : Int) (nw : Int) (rn : Int) (bn : Int) (kn : Int) (cm : Int) (al : Int) (lg : Int) (tt : Int) (dn : Int) (bk : Int) (tm : Int) (sz : Nat) (hkn : 0 ≤ kn ∧ kn ≤ 60) (hbk : 1 ≤ bk ∧ bk ≤ kn) (hnw : 0 ≤ nw ∧ nw ≤ 100000) (htm : nw ≤ tm ∧ tm ≤ 100000) (hmv : ∀ j, 0 ≤ mv j ∧ mv j ≤ 1000000) (hbd : ∀ j, bd j = 0 ∨ bd j = 1) (hkz : ∀ j, 0 ≤ kz j ∧ kz j ≤ 1000000) (hkt : ∀ j, 0 ≤ kt j ∧ kt j ≤ 1000000) (hks : ∀ j, 0 ≤ ks j ∧ ks j < 24) (hkt2 : ∀ j, 0 ≤ kt j ∧ kt j < 16) (hkb : ∀ j, 0 ≤ kb j ∧ kb j < 20) (hkl : ∀ j, 0 ≤ kl j ∧ kl j ≤ 1000000) (h2 : fbM tm mv bd kn ks kt kb kz bk = 0) (h3 : ¬ (mv (4 * kb bk + 1) = 2 ∨ mv (4 * kb bk + 2) = 2) ∧ cn (pLN kz kl 1) (kn + 1 - 1).toNat < cn (pLN kz kl 0) (kn + 1 - 1).toNat) : CtI l yX7_through wsX7_through ({ frames := 2, cells := 0, slots := 0, locals := 47 }) D vwCl (tyL kI kZ kL kJ) [(h, .inr (7, [.int (iI th), .int (iI sn), .int (iI sm), .int (iI nw), .ref hRo, .int (iI rn), .int (iI bn), .ref hNu, .ref hWe, .ref hDa, .ref hVe, .int (iI kn), .ref hSl, .ref hTr, .ref hBx, .ref hSt, .ref hLa, .ref hOr, .ref hSi, .ref hTu, .int (iI cm), .int (iI al), .int (iI lg), .int (iI tt), .int (iI dn)])), (hDa, .inl (kZ, 20, .inl (iF bd))), (hVe, .inl (kI, 112, .inl (iF mv))), (hSl, .inl (kI, 61, .inl (iF ks))), (hTr, .inl (kI, 61, .inl (iF kt))), (hBx, .inl (kI, 61, .inl (iF kb))), (hSt, .inl (kI, 61, .inl (iF kz))), (hLa, .inl (kI, 61, .inl (iF kl))), (hOr, .inl (kI, 61, .inl (iF mo))), (hSi, .inl (kI, 61, .inl (iF kc)))] [.ref h, .int (iI bk), .int (iI tm)] (iI 1) [(h, .inr (7, [.int (iI 0), .int (iI sn), .int (iI sm), .int (iI tm), .ref hRo, .int (iI rn), .int (iI bn), .ref hNu, .ref hWe, .ref hDa, .ref hVe, .int (iI kn), .ref hSl, .ref hTr, .ref hBx, .ref hSt, .ref hLa, .ref hOr, .ref hSi, .ref hTu, .int (iI (cm + 1)), .int (iI al), .int (iI lg), .int (iI tt), .int (iI dn)])), (hDa, .inl (kZ, 20, .inl (iF bd))), (hVe, .inl (kI, 112, .inl (iF mv))), (hSl, .inl (kI, 61, .inl (iF ks))), (hTr, .inl (kI, 61, .inl (iF kt))), (hBx, .inl (kI, 61, .inl (iF kb))), (hSt, .inl (kI, 61, .inl (iF (iu kz bk 1)))), (hLa, .inl (kI, 61, .inl (iF (iu kl bk 1)))), (hOr, .inl (kI, 61, .inl (iF (iu mo bk (cm + 1))))), (hSi, .inl (kI, 61, .inl (iF (iu kc bk tm))))] sz := by
  refine ck_start (Qc := fun A => cQi D vwCl (tyL kI kZ kL kJ) A (iI 1) [(h, .inr (7, [.int (iI 0), .int (iI sn), .int (iI sm), .int (iI tm), .ref hRo, .int (iI rn), .int (iI bn), .ref hNu, .ref hWe, .ref hDa, .ref hVe, .int (iI kn), .ref hSl, .ref hTr, .ref hBx, .ref hSt, .ref hLa, .ref hOr, .ref hSi, .ref hTu, .int (iI (cm + 1)), .int (iI al), .int (iI lg), .int (iI tt), .int (iI dn)])), (hDa, .inl (kZ, 20, .inl (iF bd))), (hVe, .inl (kI, 112, .inl (iF mv))), (hSl, .inl (kI, 61, .inl (iF ks))), (hTr, .inl (kI, 61, .inl (iF kt))), (hBx, .inl (kI, 61, .inl (iF kb))), (hSt, .inl (kI, 61, .inl (iF (iu kz bk 1)))), (hLa, .inl (kI, 61, .inl (iF (iu kl bk 1)))), (hOr, .inl (kI, 61, .inl (iF (iu mo bk (cm + 1))))), (hSi, .inl (kI, 61, .inl (iF (iu kc bk tm))))]) (cc := cX7_through) (maxL := 6) (ret := (some .int)) (LV := [(0, .ref h), (1, .int (iI bk)), (2, .int (iI tm))]) (by decide) rfl rfl (Nat.le_of_ble_eq_true rfl) ?_
  intro p e s m below meth cd hadm hx hb hr hml hts hown hlocks hname hnoh hxT A hA hK hP hD hS ls hl
  refine lv_aload_n hx hb dX7_through_0 rfl (lv_at hl 0 rfl) ?_
  refine lv_iload_n hx hb dX7_through_1 rfl (lv_at hl 1 rfl) ?_
  refine pk_callI (va_runV (As := [.int (iI bk)]) (rest := []) ⟨hx, hb, hml, hown, hts⟩ (tX7_isBooking l D kI kZ kL kJ h hRo hNu hWe hDa hVe hSl hTr hBx hSt hLa hOr hSi hTu th sn sm nw rn bn kn cm al lg tt dn bk s.heap.size (by first | assumption | omega) (by first | assumption | omega)) (cwV 1 hts (gd_V tb_cons wd_751 wd_753 wd_24 wd_41 wd_754) rfl rfl rfl (by decide +kernel) ⟨Nat.le_of_ble_eq_true rfl, Nat.le_of_ble_eq_true rfl⟩) (ck_preV hxT hK hP hD [0] rfl (by decide) (q0 := 0) rfl rfl rfl) rfl rfl hl.1 rfl (lv_room (Nat.le_of_ble_eq_true rfl)) dX7_through_2 ⟨Nat.zero_le _, Nat.zero_le _⟩) ?_
  refine wk_bif_ne (tgt := 14) hx hb dX7_through_5 (by decide) (fun c_1 => ?_) (fun c_1 => ?_)
  · skip
    refine lv_aload_n hx hb dX7_through_14 rfl (lv_at hl 0 rfl) ?_
    refine lv_iload_n hx hb dX7_through_15 rfl (lv_at hl 2 rfl) ?_
    refine pk_callI (va_runV (As := [.int (iI tm)]) (rest := []) ⟨hx, hb, hml, hown, hts⟩ (tX7_isTime l D kI kZ kL kJ h hRo hNu hWe hDa hVe hSl hTr hBx hSt hLa hOr hSi hTu th sn sm nw rn bn kn cm al lg tt dn tm s.heap.size (by first | assumption | omega) (by first | assumption | omega)) (cwV 1 hts (gd_V tb_cons wd_755 wd_757 wd_25 wd_41 wd_758) rfl rfl rfl (by decide +kernel) ⟨Nat.le_of_ble_eq_true rfl, Nat.le_of_ble_eq_true rfl⟩) (ck_preV hxT hK hP hD [0] rfl (by decide) (q0 := 0) rfl rfl rfl) rfl rfl hl.1 rfl (lv_room (Nat.le_of_ble_eq_true rfl)) dX7_through_16 ⟨Nat.zero_le _, Nat.zero_le _⟩) ?_
    refine wk_bif_ne (tgt := 28) hx hb dX7_through_19 (by decide) (fun c_2 => ?_) (fun c_2 => ?_)
    · skip
      refine lv_aload_n hx hb dX7_through_28 rfl (lv_at hl 0 rfl) ?_
      refine lv_iconst (v := iI 0) hx hb dX7_through_29 rfl ?_
      refine wk_put (ci := 7) (C := RX7) (T := TX7) (N := 25) hx hb hts (fun w h => (List.mem_cons_of_mem _ (hinX7 w h))) tyX7 tyX7_ok nmX7 hown hK hP hD hS 0 rfl rfl 0 (by decide) (hts _ (List.mem_cons_of_mem _ wd_612)) (fun _ h9 => h9) rfl rfl (Nat.le_of_ble_eq_true rfl) dX7_through_30 (ws' := [(h, .inr (7, [.int (iI 0), .int (iI sn), .int (iI sm), .int (iI nw), .ref hRo, .int (iI rn), .int (iI bn), .ref hNu, .ref hWe, .ref hDa, .ref hVe, .int (iI kn), .ref hSl, .ref hTr, .ref hBx, .ref hSt, .ref hLa, .ref hOr, .ref hSi, .ref hTu, .int (iI cm), .int (iI al), .int (iI lg), .int (iI tt), .int (iI dn)])), (hDa, .inl (kZ, 20, .inl (iF bd))), (hVe, .inl (kI, 112, .inl (iF mv))), (hSl, .inl (kI, 61, .inl (iF ks))), (hTr, .inl (kI, 61, .inl (iF kt))), (hBx, .inl (kI, 61, .inl (iF kb))), (hSt, .inl (kI, 61, .inl (iF kz))), (hLa, .inl (kI, 61, .inl (iF kl))), (hOr, .inl (kI, 61, .inl (iF mo))), (hSi, .inl (kI, 61, .inl (iF kc)))]) rfl (fun H locs hP hD hS => ?_)
      refine lv_aload_n hx hb dX7_through_33 rfl (lv_at hl 0 rfl) ?_
      refine lv_iload_n hx hb dX7_through_34 rfl (lv_at hl 2 rfl) ?_
      refine wk_put (ci := 7) (C := RX7) (T := TX7) (N := 25) hx hb hts (fun w h => (List.mem_cons_of_mem _ (hinX7 w h))) tyX7 tyX7_ok nmX7 hown hK hP hD hS 0 rfl rfl 3 (by decide) (hts _ (List.mem_cons_of_mem _ wd_615)) (fun _ h9 => h9) rfl rfl (Nat.le_of_ble_eq_true rfl) dX7_through_35 (ws' := [(h, .inr (7, [.int (iI 0), .int (iI sn), .int (iI sm), .int (iI tm), .ref hRo, .int (iI rn), .int (iI bn), .ref hNu, .ref hWe, .ref hDa, .ref hVe, .int (iI kn), .ref hSl, .ref hTr, .ref hBx, .ref hSt, .ref hLa, .ref hOr, .ref hSi, .ref hTu, .int (iI cm), .int (iI al), .int (iI lg), .int (iI tt), .int (iI dn)])), (hDa, .inl (kZ, 20, .inl (iF bd))), (hVe, .inl (kI, 112, .inl (iF mv))), (hSl, .inl (kI, 61, .inl (iF ks))), (hTr, .inl (kI, 61, .inl (iF kt))), (hBx, .inl (kI, 61, .inl (iF kb))), (hSt, .inl (kI, 61, .inl (iF kz))), (hLa, .inl (kI, 61, .inl (iF kl))), (hOr, .inl (kI, 61, .inl (iF mo))), (hSi, .inl (kI, 61, .inl (iF kc)))]) rfl (fun H locs hP hD hS => ?_)
      refine lv_aload_n hx hb dX7_through_38 rfl (lv_at hl 0 rfl) ?_
      refine lv_iload_n hx hb dX7_through_39 rfl (lv_at hl 1 rfl) ?_
      refine pk_callI (va_runV (As := [.int (iI bk)]) (rest := []) ⟨hx, hb, hml, hown, hts⟩ (tX7_bar l D kI kZ kL kJ h hRo hNu hWe hDa hVe hSl hTr hBx hSt hLa hOr hSi hTu bd mv ks kt kb kz 0 sn sm tm rn bn kn cm al lg tt dn bk H.size (by first | assumption | omega) (by first | assumption | omega) (by first | assumption | omega) (by first | assumption | omega) (by first | assumption | omega) (by first | assumption | omega) (by first | assumption | omega) (by first | assumption | omega) (by first | assumption | omega) (by first | assumption | omega)) (cwV 1 hts (gd_V tb_cons wd_759 wd_761 wd_26 wd_41 wd_762) rfl rfl rfl (by decide +kernel) ⟨Nat.le_of_ble_eq_true rfl, Nat.le_of_ble_eq_true rfl⟩) (ck_preV hxT hK hP hD [0, 1, 2, 3, 4, 5, 6] rfl (by decide) (q0 := 0) rfl rfl rfl) rfl rfl hl.1 rfl (lv_room (Nat.le_of_ble_eq_true rfl)) dX7_through_40 ⟨Nat.zero_le _, Nat.zero_le _⟩) ?_
      have b9 := fbM_rng tm mv bd kn ks kt kb kz bk
      refine lv_istore_n (lv' := [(3, .int (iI (fbM tm mv bd kn ks kt kb kz bk))), (0, .ref h), (1, .int (iI bk)), (2, .int (iI tm))]) hx hb dX7_through_43 rfl hl (by decide) rfl (fun ls hl => ?_)
      refine lv_iload_n hx hb dX7_through_44 rfl (lv_at hl 0 rfl) ?_
      refine wk_if_le (tgt := 51) hx hb dX7_through_45 (by decide) (by omega) (fun c_3 => ?_) (fun c_3 => ?_)
      · skip
        refine lv_aload_n hx hb dX7_through_51 rfl (lv_at hl 1 rfl) ?_
        refine lv_iconst (v := iI 1) hx hb dX7_through_52 rfl ?_
        refine lv_aload_n hx hb dX7_through_53 rfl (lv_at hl 1 rfl) ?_
        refine va_get (D := D) (ci := 7) (v := .ref hBx) (C := RX7) (T := TX7) (N := 25) hx hb hts (fun w h => (List.mem_cons_of_mem _ (hinX7 w h))) hown hK hP 0 rfl rfl 14 (by decide) (hts _ (List.mem_cons_of_mem _ wd_626)) (fun _ h9 => h9) rfl dX7_through_54 ?_
        refine lv_iload_n hx hb dX7_through_57 rfl (lv_at hl 2 rfl) ?_
        refine wk_iald hx hb hK hP 5 0 rfl rfl (by decide) (by omega) dX7_through_58 ?_
        have b_4 := hkb bk
        refine pk_callI (va_runV (As := [.int (iI 1), .int (iI (kb bk))]) (rest := []) ⟨hx, hb, hml, hown, hts⟩ (tX7_verdictOf l D kI kZ kL kJ h hRo hNu hWe hDa hVe hSl hTr hBx hSt hLa hOr hSi hTu mv 0 sn sm tm rn bn kn cm al lg tt dn 1 (kb bk) H.size (by first | assumption | omega) (by first | assumption | omega)) (cwV 2 hts (gd_V tb_cons wd_763 wd_765 wd_27 wd_41 wd_766) rfl rfl rfl (by decide +kernel) ⟨Nat.le_of_ble_eq_true rfl, Nat.le_of_ble_eq_true rfl⟩) (ck_preV hxT hK hP hD [0, 2] rfl (by decide) (q0 := 0) rfl rfl rfl) rfl rfl hl.1 rfl (lv_room (Nat.le_of_ble_eq_true rfl)) dX7_through_59 ⟨Nat.zero_le _, Nat.zero_le _⟩) ?_
        have b1 := hmv (4 * kb bk + 1)
        refine lv_iconst (v := iI 2) hx hb dX7_through_62 rfl ?_
        refine wk_icmp_eq (tgt := 81) hx hb dX7_through_63 (by decide) (by omega) (fun c_5 => ?_) (fun c_5 => ?_)
        · skip
          exfalso; omega
        · skip
          refine lv_aload_n hx hb dX7_through_66 rfl (lv_at hl 1 rfl) ?_
          refine lv_iconst (v := iI 2) hx hb dX7_through_67 rfl ?_
          refine lv_aload_n hx hb dX7_through_68 rfl (lv_at hl 1 rfl) ?_
          refine va_get (D := D) (ci := 7) (v := .ref hBx) (C := RX7) (T := TX7) (N := 25) hx hb hts (fun w h => (List.mem_cons_of_mem _ (hinX7 w h))) hown hK hP 0 rfl rfl 14 (by decide) (hts _ (List.mem_cons_of_mem _ wd_626)) (fun _ h9 => h9) rfl dX7_through_69 ?_
          refine lv_iload_n hx hb dX7_through_72 rfl (lv_at hl 2 rfl) ?_
          refine wk_iald hx hb hK hP 5 0 rfl rfl (by decide) (by omega) dX7_through_73 ?_
          have b_6 := hkb bk
          refine pk_callI (va_runV (As := [.int (iI 2), .int (iI (kb bk))]) (rest := []) ⟨hx, hb, hml, hown, hts⟩ (tX7_verdictOf l D kI kZ kL kJ h hRo hNu hWe hDa hVe hSl hTr hBx hSt hLa hOr hSi hTu mv 0 sn sm tm rn bn kn cm al lg tt dn 2 (kb bk) H.size (by first | assumption | omega) (by first | assumption | omega)) (cwV 2 hts (gd_V tb_cons wd_763 wd_765 wd_27 wd_41 wd_766) rfl rfl rfl (by decide +kernel) ⟨Nat.le_of_ble_eq_true rfl, Nat.le_of_ble_eq_true rfl⟩) (ck_preV hxT hK hP hD [0, 2] rfl (by decide) (q0 := 0) rfl rfl rfl) rfl rfl hl.1 rfl (lv_room (Nat.le_of_ble_eq_true rfl)) dX7_through_74 ⟨Nat.zero_le _, Nat.zero_le _⟩) ?_
          have b2 := hmv (4 * kb bk + 2)
          refine lv_iconst (v := iI 2) hx hb dX7_through_77 rfl ?_
          refine wk_icmp_ne (tgt := 85) hx hb dX7_through_78 (by decide) (by omega) (fun c_7 => ?_) (fun c_7 => ?_)
          · skip
            refine lv_iconst (v := iI 0) hx hb dX7_through_85 rfl ?_
            refine lv_istore (lv' := [(4, .int (iI 0)), (3, .int (iI (fbM tm mv bd kn ks kt kb kz bk))), (0, .ref h), (1, .int (iI bk)), (2, .int (iI tm))]) hx hb dX7_through_86 hl (by decide) rfl (fun ls hl => ?_)
            refine lv_iload hx hb dX7_through_88 (lv_at hl 0 rfl) ?_
            refine wk_if_eq (tgt := 97) hx hb dX7_through_90 (by decide) (by omega) (fun c_8 => ?_) (fun c_8 => ?_)
            · skip
              refine lv_aload_n hx hb dX7_through_97 rfl (lv_at hl 2 rfl) ?_
              refine lv_iconst (v := iI 1) hx hb dX7_through_98 rfl ?_
              refine pk_callI (va_runV (As := [.int (iI 1)]) (rest := []) ⟨hx, hb, hml, hown, hts⟩ (tX7_inLane l D kI kZ kL kJ h hRo hNu hWe hDa hVe hSl hTr hBx hSt hLa hOr hSi hTu kz kl 0 sn sm tm rn bn kn cm al lg tt dn 1 H.size (by first | assumption | omega) (by first | assumption | omega) (by first | assumption | omega) (by first | assumption | omega)) (cwV 1 hts (gd_V tb_cons wd_771 wd_773 wd_29 wd_41 wd_774) rfl rfl rfl (by decide +kernel) ⟨Nat.le_of_ble_eq_true rfl, Nat.le_of_ble_eq_true rfl⟩) (ck_preV hxT hK hP hD [0, 6, 7] rfl (by decide) (q0 := 0) rfl rfl rfl) rfl rfl hl.1 rfl (lv_room (Nat.le_of_ble_eq_true rfl)) dX7_through_99 ⟨Nat.zero_le _, Nat.zero_le _⟩) ?_
              have b3 := cn_rng (pLN kz kl 1) (kn + 1 - 1).toNat
              refine lv_aload_n hx hb dX7_through_102 rfl (lv_at hl 2 rfl) ?_
              refine lv_iconst (v := iI 0) hx hb dX7_through_103 rfl ?_
              refine pk_callI (va_runV (As := [.int (iI 0)]) (rest := [.int (iI (cn (pLN kz kl 1) (kn + 1 - 1).toNat))]) ⟨hx, hb, hml, hown, hts⟩ (tX7_inLane l D kI kZ kL kJ h hRo hNu hWe hDa hVe hSl hTr hBx hSt hLa hOr hSi hTu kz kl 0 sn sm tm rn bn kn cm al lg tt dn 0 H.size (by first | assumption | omega) (by first | assumption | omega) (by first | assumption | omega) (by first | assumption | omega)) (cwV 1 hts (gd_V tb_cons wd_771 wd_773 wd_29 wd_41 wd_774) rfl rfl rfl (by decide +kernel) ⟨Nat.le_of_ble_eq_true rfl, Nat.le_of_ble_eq_true rfl⟩) (ck_preV hxT hK hP hD [0, 6, 7] rfl (by decide) (q0 := 0) rfl rfl rfl) rfl rfl hl.1 rfl (lv_room (Nat.le_of_ble_eq_true rfl)) dX7_through_104 ⟨Nat.zero_le _, Nat.zero_le _⟩) ?_
              have b4 := cn_rng (pLN kz kl 0) (kn + 1 - 1).toNat
              refine wk_icmp_ge (tgt := 114) hx hb dX7_through_107 (by decide) (by omega) (fun c_9 => ?_) (fun c_9 => ?_)
              · skip
                exfalso; omega
              · skip
                refine lv_iconst (v := iI 1) hx hb dX7_through_110 rfl ?_
                refine lv_goto (tgt := 115) hx hb dX7_through_111 (by decide) ?_
                refine lv_istore (lv' := [(5, .int (iI 1)), (4, .int (iI 0)), (3, .int (iI (fbM tm mv bd kn ks kt kb kz bk))), (0, .ref h), (1, .int (iI bk)), (2, .int (iI tm))]) hx hb dX7_through_115 hl (by decide) rfl (fun ls hl => ?_)
                refine lv_aload_n hx hb dX7_through_117 rfl (lv_at hl 3 rfl) ?_
                refine va_get (D := D) (ci := 7) (v := .ref hSt) (C := RX7) (T := TX7) (N := 25) hx hb hts (fun w h => (List.mem_cons_of_mem _ (hinX7 w h))) hown hK hP 0 rfl rfl 15 (by decide) (hts _ (List.mem_cons_of_mem _ wd_627)) (fun _ h9 => h9) rfl dX7_through_118 ?_
                refine lv_iload_n hx hb dX7_through_121 rfl (lv_at hl 4 rfl) ?_
                refine lv_iconst (v := iI 1) hx hb dX7_through_122 rfl ?_
                refine wk_iast hx hb hK hP hD hS 6 0 rfl rfl (by decide) (by omega) dX7_through_123 (ws' := [(h, .inr (7, [.int (iI 0), .int (iI sn), .int (iI sm), .int (iI tm), .ref hRo, .int (iI rn), .int (iI bn), .ref hNu, .ref hWe, .ref hDa, .ref hVe, .int (iI kn), .ref hSl, .ref hTr, .ref hBx, .ref hSt, .ref hLa, .ref hOr, .ref hSi, .ref hTu, .int (iI cm), .int (iI al), .int (iI lg), .int (iI tt), .int (iI dn)])), (hDa, .inl (kZ, 20, .inl (iF bd))), (hVe, .inl (kI, 112, .inl (iF mv))), (hSl, .inl (kI, 61, .inl (iF ks))), (hTr, .inl (kI, 61, .inl (iF kt))), (hBx, .inl (kI, 61, .inl (iF kb))), (hSt, .inl (kI, 61, .inl (iF (iu kz bk 1)))), (hLa, .inl (kI, 61, .inl (iF kl))), (hOr, .inl (kI, 61, .inl (iF mo))), (hSi, .inl (kI, 61, .inl (iF kc)))]) rfl (fun H locs hP hD hS => ?_)
                refine lv_aload_n hx hb dX7_through_124 rfl (lv_at hl 3 rfl) ?_
                refine va_get (D := D) (ci := 7) (v := .ref hSi) (C := RX7) (T := TX7) (N := 25) hx hb hts (fun w h => (List.mem_cons_of_mem _ (hinX7 w h))) hown hK hP 0 rfl rfl 18 (by decide) (hts _ (List.mem_cons_of_mem _ wd_630)) (fun _ h9 => h9) rfl dX7_through_125 ?_
                refine lv_iload_n hx hb dX7_through_128 rfl (lv_at hl 4 rfl) ?_
                refine lv_aload_n hx hb dX7_through_129 rfl (lv_at hl 3 rfl) ?_
                refine va_get (D := D) (ci := 7) (v := .int (iI tm)) (C := RX7) (T := TX7) (N := 25) hx hb hts (fun w h => (List.mem_cons_of_mem _ (hinX7 w h))) hown hK hP 0 rfl rfl 3 (by decide) (hts _ (List.mem_cons_of_mem _ wd_615)) (fun _ h9 => h9) rfl dX7_through_130 ?_
                refine wk_iast hx hb hK hP hD hS 9 0 rfl rfl (by decide) (by omega) dX7_through_133 (ws' := [(h, .inr (7, [.int (iI 0), .int (iI sn), .int (iI sm), .int (iI tm), .ref hRo, .int (iI rn), .int (iI bn), .ref hNu, .ref hWe, .ref hDa, .ref hVe, .int (iI kn), .ref hSl, .ref hTr, .ref hBx, .ref hSt, .ref hLa, .ref hOr, .ref hSi, .ref hTu, .int (iI cm), .int (iI al), .int (iI lg), .int (iI tt), .int (iI dn)])), (hDa, .inl (kZ, 20, .inl (iF bd))), (hVe, .inl (kI, 112, .inl (iF mv))), (hSl, .inl (kI, 61, .inl (iF ks))), (hTr, .inl (kI, 61, .inl (iF kt))), (hBx, .inl (kI, 61, .inl (iF kb))), (hSt, .inl (kI, 61, .inl (iF (iu kz bk 1)))), (hLa, .inl (kI, 61, .inl (iF kl))), (hOr, .inl (kI, 61, .inl (iF mo))), (hSi, .inl (kI, 61, .inl (iF (iu kc bk tm))))]) rfl (fun H locs hP hD hS => ?_)
                refine lv_aload_n hx hb dX7_through_134 rfl (lv_at hl 3 rfl) ?_
                refine lv_iload_n hx hb dX7_through_135 rfl (lv_at hl 4 rfl) ?_
                refine lv_iload hx hb dX7_through_136 (lv_at hl 0 rfl) ?_
                refine ck_backV (va_runV (As := [.int (iI bk), .int (iI 1)]) (rest := []) ⟨hx, hb, hml, hown, hts⟩ (tX7_comes l D kI kZ kL kJ h hRo hNu hWe hDa hVe hSl hTr hBx hSt hLa hOr hSi hTu kl mo 0 sn sm tm rn bn kn cm al lg tt dn bk 1 H.size (by first | assumption | omega)) (cwV 2 hts (gd_V tb_cons wd_775 wd_777 wd_30 wd_41 wd_778) rfl rfl rfl (by decide +kernel) ⟨Nat.le_of_ble_eq_true rfl, Nat.le_of_ble_eq_true rfl⟩) (ck_preV hxT hK hP hD [0, 7, 8] rfl (by decide) (q0 := 0) rfl rfl rfl) rfl rfl hl.1 rfl (lv_room (Nat.le_of_ble_eq_true rfl)) dX7_through_138 ⟨Nat.zero_le _, Nat.zero_le _⟩) hP hD hS hA [0, 7, 8] [1, 2, 3, 4, 5, 6, 9] (WR := [(hDa, .inl (kZ, 20, .inl (iF bd))), (hVe, .inl (kI, 112, .inl (iF mv))), (hSl, .inl (kI, 61, .inl (iF ks))), (hTr, .inl (kI, 61, .inl (iF kt))), (hBx, .inl (kI, 61, .inl (iF kb))), (hSt, .inl (kI, 61, .inl (iF (iu kz bk 1)))), (hSi, .inl (kI, 61, .inl (iF (iu kc bk tm))))]) rfl rfl (by decide) (by decide) (ws' := [(hDa, .inl (kZ, 20, .inl (iF bd))), (hVe, .inl (kI, 112, .inl (iF mv))), (hSl, .inl (kI, 61, .inl (iF ks))), (hTr, .inl (kI, 61, .inl (iF kt))), (hBx, .inl (kI, 61, .inl (iF kb))), (hSt, .inl (kI, 61, .inl (iF (iu kz bk 1)))), (hSi, .inl (kI, 61, .inl (iF (iu kc bk tm)))), (h, .inr (7, [.int (iI 0), .int (iI sn), .int (iI sm), .int (iI tm), .ref hRo, .int (iI rn), .int (iI bn), .ref hNu, .ref hWe, .ref hDa, .ref hVe, .int (iI kn), .ref hSl, .ref hTr, .ref hBx, .ref hSt, .ref hLa, .ref hOr, .ref hSi, .ref hTu, .int (iI (cm + 1)), .int (iI al), .int (iI lg), .int (iI tt), .int (iI dn)])), (hLa, .inl (kI, 61, .inl (iF (iu kl bk 1)))), (hOr, .inl (kI, 61, .inl (iF (iu mo bk (cm + 1)))))]) rfl (fun H locs hP hD hS => ?_)
                refine lv_iconst (v := iI 1) hx hb dX7_through_141 rfl ?_
                have hP := hP.sub (ws' := [(h, .inr (7, [.int (iI 0), .int (iI sn), .int (iI sm), .int (iI tm), .ref hRo, .int (iI rn), .int (iI bn), .ref hNu, .ref hWe, .ref hDa, .ref hVe, .int (iI kn), .ref hSl, .ref hTr, .ref hBx, .ref hSt, .ref hLa, .ref hOr, .ref hSi, .ref hTu, .int (iI (cm + 1)), .int (iI al), .int (iI lg), .int (iI tt), .int (iI dn)])), (hDa, .inl (kZ, 20, .inl (iF bd))), (hVe, .inl (kI, 112, .inl (iF mv))), (hSl, .inl (kI, 61, .inl (iF ks))), (hTr, .inl (kI, 61, .inl (iF kt))), (hBx, .inl (kI, 61, .inl (iF kb))), (hSt, .inl (kI, 61, .inl (iF (iu kz bk 1)))), (hLa, .inl (kI, 61, .inl (iF (iu kl bk 1)))), (hOr, .inl (kI, 61, .inl (iF (iu mo bk (cm + 1))))), (hSi, .inl (kI, 61, .inl (iF (iu kc bk tm))))]) [7, 0, 1, 2, 3, 4, 5, 8, 9, 6] rfl
                have hD := hD.sub (ws' := [(h, .inr (7, [.int (iI 0), .int (iI sn), .int (iI sm), .int (iI tm), .ref hRo, .int (iI rn), .int (iI bn), .ref hNu, .ref hWe, .ref hDa, .ref hVe, .int (iI kn), .ref hSl, .ref hTr, .ref hBx, .ref hSt, .ref hLa, .ref hOr, .ref hSi, .ref hTu, .int (iI (cm + 1)), .int (iI al), .int (iI lg), .int (iI tt), .int (iI dn)])), (hDa, .inl (kZ, 20, .inl (iF bd))), (hVe, .inl (kI, 112, .inl (iF mv))), (hSl, .inl (kI, 61, .inl (iF ks))), (hTr, .inl (kI, 61, .inl (iF kt))), (hBx, .inl (kI, 61, .inl (iF kb))), (hSt, .inl (kI, 61, .inl (iF (iu kz bk 1)))), (hLa, .inl (kI, 61, .inl (iF (iu kl bk 1)))), (hOr, .inl (kI, 61, .inl (iF (iu mo bk (cm + 1))))), (hSi, .inl (kI, 61, .inl (iF (iu kc bk tm))))]) [7, 0, 1, 2, 3, 4, 5, 8, 9, 6] (by decide) rfl
                exact rk_int hx hb hr hlocks hK hP hD hS (by first | rfl | omega) rfl dX7_through_142
            · skip
              exfalso; omega
          · skip
            exfalso; omega
      · skip
        exfalso; omega
    · skip
      exfalso; omega
  · skip
    exfalso; omega

set_option maxHeartbeats 4000000 in
set_option maxRecDepth 100000 in
theorem tX7_through_p2 (l : Launch) (D : va_G) (kI : ClassId) (kZ : ClassId) (kL : ClassId) (kJ : ClassId) (h : Nat) (hRo : Nat) (hNu : Nat) (hWe : Nat) (hDa : Nat) (hVe : Nat) (hSl : Nat) (hTr : Nat) (hBx : Nat) (hSt : Nat) (hLa : Nat) (hOr : Nat) (hSi : Nat) (hTu : Nat) (bd : Int → Int) (mv : Int → Int) (ks : Int → Int) (kt : Int → Int) (kb : Int → Int) (kz : Int → Int) (kl : Int → Int) (mo : Int → Int) (kc : Int → Int) (th : Int) (sn : Int) (sm : Int) (nw : Int) (rn : Int) (bn : Int) (kn : Int) (cm : Int) (al : Int) (lg : Int) (tt : Int) (dn : Int) (bk : Int) (tm : Int) (sz : Nat) (hkn : 0 ≤ kn ∧ kn ≤ 60) (hbk : 1 ≤ bk ∧ bk ≤ kn) (hnw : 0 ≤ nw ∧ nw ≤ 100000) (htm : nw ≤ tm ∧ tm ≤ 100000) (hmv : ∀ j, 0 ≤ mv j ∧ mv j ≤ 1000000) (hbd : ∀ j, bd j = 0 ∨ bd j = 1) (hkz : ∀ j, 0 ≤ kz j ∧ kz j ≤ 1000000) (hkt : ∀ j, 0 ≤ kt j ∧ kt j ≤ 1000000) (hks : ∀ j, 0 ≤ ks j ∧ ks j < 24) (hkt2 : ∀ j, 0 ≤ kt j ∧ kt j < 16) (hkb : ∀ j, 0 ≤ kb j ∧ kb j < 20) (hkl : ∀ j, 0 ≤ kl j ∧ kl j ≤ 1000000) (h2 : fbM tm mv bd kn ks kt kb kz bk = 0) (h3 : mv (4 * kb bk + 1) = 2 ∨ mv (4 * kb bk + 2) = 2) : CtI l yX7_through wsX7_through ({ frames := 2, cells := 0, slots := 0, locals := 47 }) D vwCl (tyL kI kZ kL kJ) [(h, .inr (7, [.int (iI th), .int (iI sn), .int (iI sm), .int (iI nw), .ref hRo, .int (iI rn), .int (iI bn), .ref hNu, .ref hWe, .ref hDa, .ref hVe, .int (iI kn), .ref hSl, .ref hTr, .ref hBx, .ref hSt, .ref hLa, .ref hOr, .ref hSi, .ref hTu, .int (iI cm), .int (iI al), .int (iI lg), .int (iI tt), .int (iI dn)])), (hDa, .inl (kZ, 20, .inl (iF bd))), (hVe, .inl (kI, 112, .inl (iF mv))), (hSl, .inl (kI, 61, .inl (iF ks))), (hTr, .inl (kI, 61, .inl (iF kt))), (hBx, .inl (kI, 61, .inl (iF kb))), (hSt, .inl (kI, 61, .inl (iF kz))), (hLa, .inl (kI, 61, .inl (iF kl))), (hOr, .inl (kI, 61, .inl (iF mo))), (hSi, .inl (kI, 61, .inl (iF kc)))] [.ref h, .int (iI bk), .int (iI tm)] (iI 1) [(h, .inr (7, [.int (iI 0), .int (iI sn), .int (iI sm), .int (iI tm), .ref hRo, .int (iI rn), .int (iI bn), .ref hNu, .ref hWe, .ref hDa, .ref hVe, .int (iI kn), .ref hSl, .ref hTr, .ref hBx, .ref hSt, .ref hLa, .ref hOr, .ref hSi, .ref hTu, .int (iI (cm + 1)), .int (iI al), .int (iI lg), .int (iI tt), .int (iI dn)])), (hDa, .inl (kZ, 20, .inl (iF bd))), (hVe, .inl (kI, 112, .inl (iF mv))), (hSl, .inl (kI, 61, .inl (iF ks))), (hTr, .inl (kI, 61, .inl (iF kt))), (hBx, .inl (kI, 61, .inl (iF kb))), (hSt, .inl (kI, 61, .inl (iF (iu kz bk 1)))), (hLa, .inl (kI, 61, .inl (iF (iu kl bk 2)))), (hOr, .inl (kI, 61, .inl (iF (iu mo bk (cm + 1))))), (hSi, .inl (kI, 61, .inl (iF (iu kc bk tm))))] sz := by
  refine ck_start (Qc := fun A => cQi D vwCl (tyL kI kZ kL kJ) A (iI 1) [(h, .inr (7, [.int (iI 0), .int (iI sn), .int (iI sm), .int (iI tm), .ref hRo, .int (iI rn), .int (iI bn), .ref hNu, .ref hWe, .ref hDa, .ref hVe, .int (iI kn), .ref hSl, .ref hTr, .ref hBx, .ref hSt, .ref hLa, .ref hOr, .ref hSi, .ref hTu, .int (iI (cm + 1)), .int (iI al), .int (iI lg), .int (iI tt), .int (iI dn)])), (hDa, .inl (kZ, 20, .inl (iF bd))), (hVe, .inl (kI, 112, .inl (iF mv))), (hSl, .inl (kI, 61, .inl (iF ks))), (hTr, .inl (kI, 61, .inl (iF kt))), (hBx, .inl (kI, 61, .inl (iF kb))), (hSt, .inl (kI, 61, .inl (iF (iu kz bk 1)))), (hLa, .inl (kI, 61, .inl (iF (iu kl bk 2)))), (hOr, .inl (kI, 61, .inl (iF (iu mo bk (cm + 1))))), (hSi, .inl (kI, 61, .inl (iF (iu kc bk tm))))]) (cc := cX7_through) (maxL := 6) (ret := (some .int)) (LV := [(0, .ref h), (1, .int (iI bk)), (2, .int (iI tm))]) (by decide) rfl rfl (Nat.le_of_ble_eq_true rfl) ?_
  intro p e s m below meth cd hadm hx hb hr hml hts hown hlocks hname hnoh hxT A hA hK hP hD hS ls hl
  refine lv_aload_n hx hb dX7_through_0 rfl (lv_at hl 0 rfl) ?_
  refine lv_iload_n hx hb dX7_through_1 rfl (lv_at hl 1 rfl) ?_
  refine pk_callI (va_runV (As := [.int (iI bk)]) (rest := []) ⟨hx, hb, hml, hown, hts⟩ (tX7_isBooking l D kI kZ kL kJ h hRo hNu hWe hDa hVe hSl hTr hBx hSt hLa hOr hSi hTu th sn sm nw rn bn kn cm al lg tt dn bk s.heap.size (by first | assumption | omega) (by first | assumption | omega)) (cwV 1 hts (gd_V tb_cons wd_751 wd_753 wd_24 wd_41 wd_754) rfl rfl rfl (by decide +kernel) ⟨Nat.le_of_ble_eq_true rfl, Nat.le_of_ble_eq_true rfl⟩) (ck_preV hxT hK hP hD [0] rfl (by decide) (q0 := 0) rfl rfl rfl) rfl rfl hl.1 rfl (lv_room (Nat.le_of_ble_eq_true rfl)) dX7_through_2 ⟨Nat.zero_le _, Nat.zero_le _⟩) ?_
  refine wk_bif_ne (tgt := 14) hx hb dX7_through_5 (by decide) (fun c_1 => ?_) (fun c_1 => ?_)
  · skip
    refine lv_aload_n hx hb dX7_through_14 rfl (lv_at hl 0 rfl) ?_
    refine lv_iload_n hx hb dX7_through_15 rfl (lv_at hl 2 rfl) ?_
    refine pk_callI (va_runV (As := [.int (iI tm)]) (rest := []) ⟨hx, hb, hml, hown, hts⟩ (tX7_isTime l D kI kZ kL kJ h hRo hNu hWe hDa hVe hSl hTr hBx hSt hLa hOr hSi hTu th sn sm nw rn bn kn cm al lg tt dn tm s.heap.size (by first | assumption | omega) (by first | assumption | omega)) (cwV 1 hts (gd_V tb_cons wd_755 wd_757 wd_25 wd_41 wd_758) rfl rfl rfl (by decide +kernel) ⟨Nat.le_of_ble_eq_true rfl, Nat.le_of_ble_eq_true rfl⟩) (ck_preV hxT hK hP hD [0] rfl (by decide) (q0 := 0) rfl rfl rfl) rfl rfl hl.1 rfl (lv_room (Nat.le_of_ble_eq_true rfl)) dX7_through_16 ⟨Nat.zero_le _, Nat.zero_le _⟩) ?_
    refine wk_bif_ne (tgt := 28) hx hb dX7_through_19 (by decide) (fun c_2 => ?_) (fun c_2 => ?_)
    · skip
      refine lv_aload_n hx hb dX7_through_28 rfl (lv_at hl 0 rfl) ?_
      refine lv_iconst (v := iI 0) hx hb dX7_through_29 rfl ?_
      refine wk_put (ci := 7) (C := RX7) (T := TX7) (N := 25) hx hb hts (fun w h => (List.mem_cons_of_mem _ (hinX7 w h))) tyX7 tyX7_ok nmX7 hown hK hP hD hS 0 rfl rfl 0 (by decide) (hts _ (List.mem_cons_of_mem _ wd_612)) (fun _ h9 => h9) rfl rfl (Nat.le_of_ble_eq_true rfl) dX7_through_30 (ws' := [(h, .inr (7, [.int (iI 0), .int (iI sn), .int (iI sm), .int (iI nw), .ref hRo, .int (iI rn), .int (iI bn), .ref hNu, .ref hWe, .ref hDa, .ref hVe, .int (iI kn), .ref hSl, .ref hTr, .ref hBx, .ref hSt, .ref hLa, .ref hOr, .ref hSi, .ref hTu, .int (iI cm), .int (iI al), .int (iI lg), .int (iI tt), .int (iI dn)])), (hDa, .inl (kZ, 20, .inl (iF bd))), (hVe, .inl (kI, 112, .inl (iF mv))), (hSl, .inl (kI, 61, .inl (iF ks))), (hTr, .inl (kI, 61, .inl (iF kt))), (hBx, .inl (kI, 61, .inl (iF kb))), (hSt, .inl (kI, 61, .inl (iF kz))), (hLa, .inl (kI, 61, .inl (iF kl))), (hOr, .inl (kI, 61, .inl (iF mo))), (hSi, .inl (kI, 61, .inl (iF kc)))]) rfl (fun H locs hP hD hS => ?_)
      refine lv_aload_n hx hb dX7_through_33 rfl (lv_at hl 0 rfl) ?_
      refine lv_iload_n hx hb dX7_through_34 rfl (lv_at hl 2 rfl) ?_
      refine wk_put (ci := 7) (C := RX7) (T := TX7) (N := 25) hx hb hts (fun w h => (List.mem_cons_of_mem _ (hinX7 w h))) tyX7 tyX7_ok nmX7 hown hK hP hD hS 0 rfl rfl 3 (by decide) (hts _ (List.mem_cons_of_mem _ wd_615)) (fun _ h9 => h9) rfl rfl (Nat.le_of_ble_eq_true rfl) dX7_through_35 (ws' := [(h, .inr (7, [.int (iI 0), .int (iI sn), .int (iI sm), .int (iI tm), .ref hRo, .int (iI rn), .int (iI bn), .ref hNu, .ref hWe, .ref hDa, .ref hVe, .int (iI kn), .ref hSl, .ref hTr, .ref hBx, .ref hSt, .ref hLa, .ref hOr, .ref hSi, .ref hTu, .int (iI cm), .int (iI al), .int (iI lg), .int (iI tt), .int (iI dn)])), (hDa, .inl (kZ, 20, .inl (iF bd))), (hVe, .inl (kI, 112, .inl (iF mv))), (hSl, .inl (kI, 61, .inl (iF ks))), (hTr, .inl (kI, 61, .inl (iF kt))), (hBx, .inl (kI, 61, .inl (iF kb))), (hSt, .inl (kI, 61, .inl (iF kz))), (hLa, .inl (kI, 61, .inl (iF kl))), (hOr, .inl (kI, 61, .inl (iF mo))), (hSi, .inl (kI, 61, .inl (iF kc)))]) rfl (fun H locs hP hD hS => ?_)
      refine lv_aload_n hx hb dX7_through_38 rfl (lv_at hl 0 rfl) ?_
      refine lv_iload_n hx hb dX7_through_39 rfl (lv_at hl 1 rfl) ?_
      refine pk_callI (va_runV (As := [.int (iI bk)]) (rest := []) ⟨hx, hb, hml, hown, hts⟩ (tX7_bar l D kI kZ kL kJ h hRo hNu hWe hDa hVe hSl hTr hBx hSt hLa hOr hSi hTu bd mv ks kt kb kz 0 sn sm tm rn bn kn cm al lg tt dn bk H.size (by first | assumption | omega) (by first | assumption | omega) (by first | assumption | omega) (by first | assumption | omega) (by first | assumption | omega) (by first | assumption | omega) (by first | assumption | omega) (by first | assumption | omega) (by first | assumption | omega) (by first | assumption | omega)) (cwV 1 hts (gd_V tb_cons wd_759 wd_761 wd_26 wd_41 wd_762) rfl rfl rfl (by decide +kernel) ⟨Nat.le_of_ble_eq_true rfl, Nat.le_of_ble_eq_true rfl⟩) (ck_preV hxT hK hP hD [0, 1, 2, 3, 4, 5, 6] rfl (by decide) (q0 := 0) rfl rfl rfl) rfl rfl hl.1 rfl (lv_room (Nat.le_of_ble_eq_true rfl)) dX7_through_40 ⟨Nat.zero_le _, Nat.zero_le _⟩) ?_
      have b9 := fbM_rng tm mv bd kn ks kt kb kz bk
      refine lv_istore_n (lv' := [(3, .int (iI (fbM tm mv bd kn ks kt kb kz bk))), (0, .ref h), (1, .int (iI bk)), (2, .int (iI tm))]) hx hb dX7_through_43 rfl hl (by decide) rfl (fun ls hl => ?_)
      refine lv_iload_n hx hb dX7_through_44 rfl (lv_at hl 0 rfl) ?_
      refine wk_if_le (tgt := 51) hx hb dX7_through_45 (by decide) (by omega) (fun c_3 => ?_) (fun c_3 => ?_)
      · skip
        refine lv_aload_n hx hb dX7_through_51 rfl (lv_at hl 1 rfl) ?_
        refine lv_iconst (v := iI 1) hx hb dX7_through_52 rfl ?_
        refine lv_aload_n hx hb dX7_through_53 rfl (lv_at hl 1 rfl) ?_
        refine va_get (D := D) (ci := 7) (v := .ref hBx) (C := RX7) (T := TX7) (N := 25) hx hb hts (fun w h => (List.mem_cons_of_mem _ (hinX7 w h))) hown hK hP 0 rfl rfl 14 (by decide) (hts _ (List.mem_cons_of_mem _ wd_626)) (fun _ h9 => h9) rfl dX7_through_54 ?_
        refine lv_iload_n hx hb dX7_through_57 rfl (lv_at hl 2 rfl) ?_
        refine wk_iald hx hb hK hP 5 0 rfl rfl (by decide) (by omega) dX7_through_58 ?_
        have b_4 := hkb bk
        refine pk_callI (va_runV (As := [.int (iI 1), .int (iI (kb bk))]) (rest := []) ⟨hx, hb, hml, hown, hts⟩ (tX7_verdictOf l D kI kZ kL kJ h hRo hNu hWe hDa hVe hSl hTr hBx hSt hLa hOr hSi hTu mv 0 sn sm tm rn bn kn cm al lg tt dn 1 (kb bk) H.size (by first | assumption | omega) (by first | assumption | omega)) (cwV 2 hts (gd_V tb_cons wd_763 wd_765 wd_27 wd_41 wd_766) rfl rfl rfl (by decide +kernel) ⟨Nat.le_of_ble_eq_true rfl, Nat.le_of_ble_eq_true rfl⟩) (ck_preV hxT hK hP hD [0, 2] rfl (by decide) (q0 := 0) rfl rfl rfl) rfl rfl hl.1 rfl (lv_room (Nat.le_of_ble_eq_true rfl)) dX7_through_59 ⟨Nat.zero_le _, Nat.zero_le _⟩) ?_
        have b1 := hmv (4 * kb bk + 1)
        refine lv_iconst (v := iI 2) hx hb dX7_through_62 rfl ?_
        refine wk_icmp_eq (tgt := 81) hx hb dX7_through_63 (by decide) (by omega) (fun c_5 => ?_) (fun c_5 => ?_)
        · skip
          refine lv_iconst (v := iI 1) hx hb dX7_through_81 rfl ?_
          refine lv_goto (tgt := 86) hx hb dX7_through_82 (by decide) ?_
          refine lv_istore (lv' := [(4, .int (iI 1)), (3, .int (iI (fbM tm mv bd kn ks kt kb kz bk))), (0, .ref h), (1, .int (iI bk)), (2, .int (iI tm))]) hx hb dX7_through_86 hl (by decide) rfl (fun ls hl => ?_)
          refine lv_iload hx hb dX7_through_88 (lv_at hl 0 rfl) ?_
          refine wk_if_eq (tgt := 97) hx hb dX7_through_90 (by decide) (by omega) (fun c_6 => ?_) (fun c_6 => ?_)
          · skip
            exfalso; omega
          · skip
            refine lv_iconst (v := iI 2) hx hb dX7_through_93 rfl ?_
            refine lv_goto (tgt := 115) hx hb dX7_through_94 (by decide) ?_
            refine lv_istore (lv' := [(5, .int (iI 2)), (4, .int (iI 1)), (3, .int (iI (fbM tm mv bd kn ks kt kb kz bk))), (0, .ref h), (1, .int (iI bk)), (2, .int (iI tm))]) hx hb dX7_through_115 hl (by decide) rfl (fun ls hl => ?_)
            refine lv_aload_n hx hb dX7_through_117 rfl (lv_at hl 3 rfl) ?_
            refine va_get (D := D) (ci := 7) (v := .ref hSt) (C := RX7) (T := TX7) (N := 25) hx hb hts (fun w h => (List.mem_cons_of_mem _ (hinX7 w h))) hown hK hP 0 rfl rfl 15 (by decide) (hts _ (List.mem_cons_of_mem _ wd_627)) (fun _ h9 => h9) rfl dX7_through_118 ?_
            refine lv_iload_n hx hb dX7_through_121 rfl (lv_at hl 4 rfl) ?_
            refine lv_iconst (v := iI 1) hx hb dX7_through_122 rfl ?_
            refine wk_iast hx hb hK hP hD hS 6 0 rfl rfl (by decide) (by omega) dX7_through_123 (ws' := [(h, .inr (7, [.int (iI 0), .int (iI sn), .int (iI sm), .int (iI tm), .ref hRo, .int (iI rn), .int (iI bn), .ref hNu, .ref hWe, .ref hDa, .ref hVe, .int (iI kn), .ref hSl, .ref hTr, .ref hBx, .ref hSt, .ref hLa, .ref hOr, .ref hSi, .ref hTu, .int (iI cm), .int (iI al), .int (iI lg), .int (iI tt), .int (iI dn)])), (hDa, .inl (kZ, 20, .inl (iF bd))), (hVe, .inl (kI, 112, .inl (iF mv))), (hSl, .inl (kI, 61, .inl (iF ks))), (hTr, .inl (kI, 61, .inl (iF kt))), (hBx, .inl (kI, 61, .inl (iF kb))), (hSt, .inl (kI, 61, .inl (iF (iu kz bk 1)))), (hLa, .inl (kI, 61, .inl (iF kl))), (hOr, .inl (kI, 61, .inl (iF mo))), (hSi, .inl (kI, 61, .inl (iF kc)))]) rfl (fun H locs hP hD hS => ?_)
            refine lv_aload_n hx hb dX7_through_124 rfl (lv_at hl 3 rfl) ?_
            refine va_get (D := D) (ci := 7) (v := .ref hSi) (C := RX7) (T := TX7) (N := 25) hx hb hts (fun w h => (List.mem_cons_of_mem _ (hinX7 w h))) hown hK hP 0 rfl rfl 18 (by decide) (hts _ (List.mem_cons_of_mem _ wd_630)) (fun _ h9 => h9) rfl dX7_through_125 ?_
            refine lv_iload_n hx hb dX7_through_128 rfl (lv_at hl 4 rfl) ?_
            refine lv_aload_n hx hb dX7_through_129 rfl (lv_at hl 3 rfl) ?_
            refine va_get (D := D) (ci := 7) (v := .int (iI tm)) (C := RX7) (T := TX7) (N := 25) hx hb hts (fun w h => (List.mem_cons_of_mem _ (hinX7 w h))) hown hK hP 0 rfl rfl 3 (by decide) (hts _ (List.mem_cons_of_mem _ wd_615)) (fun _ h9 => h9) rfl dX7_through_130 ?_
            refine wk_iast hx hb hK hP hD hS 9 0 rfl rfl (by decide) (by omega) dX7_through_133 (ws' := [(h, .inr (7, [.int (iI 0), .int (iI sn), .int (iI sm), .int (iI tm), .ref hRo, .int (iI rn), .int (iI bn), .ref hNu, .ref hWe, .ref hDa, .ref hVe, .int (iI kn), .ref hSl, .ref hTr, .ref hBx, .ref hSt, .ref hLa, .ref hOr, .ref hSi, .ref hTu, .int (iI cm), .int (iI al), .int (iI lg), .int (iI tt), .int (iI dn)])), (hDa, .inl (kZ, 20, .inl (iF bd))), (hVe, .inl (kI, 112, .inl (iF mv))), (hSl, .inl (kI, 61, .inl (iF ks))), (hTr, .inl (kI, 61, .inl (iF kt))), (hBx, .inl (kI, 61, .inl (iF kb))), (hSt, .inl (kI, 61, .inl (iF (iu kz bk 1)))), (hLa, .inl (kI, 61, .inl (iF kl))), (hOr, .inl (kI, 61, .inl (iF mo))), (hSi, .inl (kI, 61, .inl (iF (iu kc bk tm))))]) rfl (fun H locs hP hD hS => ?_)
            refine lv_aload_n hx hb dX7_through_134 rfl (lv_at hl 3 rfl) ?_
            refine lv_iload_n hx hb dX7_through_135 rfl (lv_at hl 4 rfl) ?_
            refine lv_iload hx hb dX7_through_136 (lv_at hl 0 rfl) ?_
            refine ck_backV (va_runV (As := [.int (iI bk), .int (iI 2)]) (rest := []) ⟨hx, hb, hml, hown, hts⟩ (tX7_comes l D kI kZ kL kJ h hRo hNu hWe hDa hVe hSl hTr hBx hSt hLa hOr hSi hTu kl mo 0 sn sm tm rn bn kn cm al lg tt dn bk 2 H.size (by first | assumption | omega)) (cwV 2 hts (gd_V tb_cons wd_775 wd_777 wd_30 wd_41 wd_778) rfl rfl rfl (by decide +kernel) ⟨Nat.le_of_ble_eq_true rfl, Nat.le_of_ble_eq_true rfl⟩) (ck_preV hxT hK hP hD [0, 7, 8] rfl (by decide) (q0 := 0) rfl rfl rfl) rfl rfl hl.1 rfl (lv_room (Nat.le_of_ble_eq_true rfl)) dX7_through_138 ⟨Nat.zero_le _, Nat.zero_le _⟩) hP hD hS hA [0, 7, 8] [1, 2, 3, 4, 5, 6, 9] (WR := [(hDa, .inl (kZ, 20, .inl (iF bd))), (hVe, .inl (kI, 112, .inl (iF mv))), (hSl, .inl (kI, 61, .inl (iF ks))), (hTr, .inl (kI, 61, .inl (iF kt))), (hBx, .inl (kI, 61, .inl (iF kb))), (hSt, .inl (kI, 61, .inl (iF (iu kz bk 1)))), (hSi, .inl (kI, 61, .inl (iF (iu kc bk tm))))]) rfl rfl (by decide) (by decide) (ws' := [(hDa, .inl (kZ, 20, .inl (iF bd))), (hVe, .inl (kI, 112, .inl (iF mv))), (hSl, .inl (kI, 61, .inl (iF ks))), (hTr, .inl (kI, 61, .inl (iF kt))), (hBx, .inl (kI, 61, .inl (iF kb))), (hSt, .inl (kI, 61, .inl (iF (iu kz bk 1)))), (hSi, .inl (kI, 61, .inl (iF (iu kc bk tm)))), (h, .inr (7, [.int (iI 0), .int (iI sn), .int (iI sm), .int (iI tm), .ref hRo, .int (iI rn), .int (iI bn), .ref hNu, .ref hWe, .ref hDa, .ref hVe, .int (iI kn), .ref hSl, .ref hTr, .ref hBx, .ref hSt, .ref hLa, .ref hOr, .ref hSi, .ref hTu, .int (iI (cm + 1)), .int (iI al), .int (iI lg), .int (iI tt), .int (iI dn)])), (hLa, .inl (kI, 61, .inl (iF (iu kl bk 2)))), (hOr, .inl (kI, 61, .inl (iF (iu mo bk (cm + 1)))))]) rfl (fun H locs hP hD hS => ?_)
            refine lv_iconst (v := iI 1) hx hb dX7_through_141 rfl ?_
            have hP := hP.sub (ws' := [(h, .inr (7, [.int (iI 0), .int (iI sn), .int (iI sm), .int (iI tm), .ref hRo, .int (iI rn), .int (iI bn), .ref hNu, .ref hWe, .ref hDa, .ref hVe, .int (iI kn), .ref hSl, .ref hTr, .ref hBx, .ref hSt, .ref hLa, .ref hOr, .ref hSi, .ref hTu, .int (iI (cm + 1)), .int (iI al), .int (iI lg), .int (iI tt), .int (iI dn)])), (hDa, .inl (kZ, 20, .inl (iF bd))), (hVe, .inl (kI, 112, .inl (iF mv))), (hSl, .inl (kI, 61, .inl (iF ks))), (hTr, .inl (kI, 61, .inl (iF kt))), (hBx, .inl (kI, 61, .inl (iF kb))), (hSt, .inl (kI, 61, .inl (iF (iu kz bk 1)))), (hLa, .inl (kI, 61, .inl (iF (iu kl bk 2)))), (hOr, .inl (kI, 61, .inl (iF (iu mo bk (cm + 1))))), (hSi, .inl (kI, 61, .inl (iF (iu kc bk tm))))]) [7, 0, 1, 2, 3, 4, 5, 8, 9, 6] rfl
            have hD := hD.sub (ws' := [(h, .inr (7, [.int (iI 0), .int (iI sn), .int (iI sm), .int (iI tm), .ref hRo, .int (iI rn), .int (iI bn), .ref hNu, .ref hWe, .ref hDa, .ref hVe, .int (iI kn), .ref hSl, .ref hTr, .ref hBx, .ref hSt, .ref hLa, .ref hOr, .ref hSi, .ref hTu, .int (iI (cm + 1)), .int (iI al), .int (iI lg), .int (iI tt), .int (iI dn)])), (hDa, .inl (kZ, 20, .inl (iF bd))), (hVe, .inl (kI, 112, .inl (iF mv))), (hSl, .inl (kI, 61, .inl (iF ks))), (hTr, .inl (kI, 61, .inl (iF kt))), (hBx, .inl (kI, 61, .inl (iF kb))), (hSt, .inl (kI, 61, .inl (iF (iu kz bk 1)))), (hLa, .inl (kI, 61, .inl (iF (iu kl bk 2)))), (hOr, .inl (kI, 61, .inl (iF (iu mo bk (cm + 1))))), (hSi, .inl (kI, 61, .inl (iF (iu kc bk tm))))]) [7, 0, 1, 2, 3, 4, 5, 8, 9, 6] (by decide) rfl
            exact rk_int hx hb hr hlocks hK hP hD hS (by first | rfl | omega) rfl dX7_through_142
        · skip
          refine lv_aload_n hx hb dX7_through_66 rfl (lv_at hl 1 rfl) ?_
          refine lv_iconst (v := iI 2) hx hb dX7_through_67 rfl ?_
          refine lv_aload_n hx hb dX7_through_68 rfl (lv_at hl 1 rfl) ?_
          refine va_get (D := D) (ci := 7) (v := .ref hBx) (C := RX7) (T := TX7) (N := 25) hx hb hts (fun w h => (List.mem_cons_of_mem _ (hinX7 w h))) hown hK hP 0 rfl rfl 14 (by decide) (hts _ (List.mem_cons_of_mem _ wd_626)) (fun _ h9 => h9) rfl dX7_through_69 ?_
          refine lv_iload_n hx hb dX7_through_72 rfl (lv_at hl 2 rfl) ?_
          refine wk_iald hx hb hK hP 5 0 rfl rfl (by decide) (by omega) dX7_through_73 ?_
          have b_7 := hkb bk
          refine pk_callI (va_runV (As := [.int (iI 2), .int (iI (kb bk))]) (rest := []) ⟨hx, hb, hml, hown, hts⟩ (tX7_verdictOf l D kI kZ kL kJ h hRo hNu hWe hDa hVe hSl hTr hBx hSt hLa hOr hSi hTu mv 0 sn sm tm rn bn kn cm al lg tt dn 2 (kb bk) H.size (by first | assumption | omega) (by first | assumption | omega)) (cwV 2 hts (gd_V tb_cons wd_763 wd_765 wd_27 wd_41 wd_766) rfl rfl rfl (by decide +kernel) ⟨Nat.le_of_ble_eq_true rfl, Nat.le_of_ble_eq_true rfl⟩) (ck_preV hxT hK hP hD [0, 2] rfl (by decide) (q0 := 0) rfl rfl rfl) rfl rfl hl.1 rfl (lv_room (Nat.le_of_ble_eq_true rfl)) dX7_through_74 ⟨Nat.zero_le _, Nat.zero_le _⟩) ?_
          have b2 := hmv (4 * kb bk + 2)
          refine lv_iconst (v := iI 2) hx hb dX7_through_77 rfl ?_
          refine wk_icmp_ne (tgt := 85) hx hb dX7_through_78 (by decide) (by omega) (fun c_8 => ?_) (fun c_8 => ?_)
          · skip
            exfalso; omega
          · skip
            refine lv_iconst (v := iI 1) hx hb dX7_through_81 rfl ?_
            refine lv_goto (tgt := 86) hx hb dX7_through_82 (by decide) ?_
            refine lv_istore (lv' := [(4, .int (iI 1)), (3, .int (iI (fbM tm mv bd kn ks kt kb kz bk))), (0, .ref h), (1, .int (iI bk)), (2, .int (iI tm))]) hx hb dX7_through_86 hl (by decide) rfl (fun ls hl => ?_)
            refine lv_iload hx hb dX7_through_88 (lv_at hl 0 rfl) ?_
            refine wk_if_eq (tgt := 97) hx hb dX7_through_90 (by decide) (by omega) (fun c_9 => ?_) (fun c_9 => ?_)
            · skip
              exfalso; omega
            · skip
              refine lv_iconst (v := iI 2) hx hb dX7_through_93 rfl ?_
              refine lv_goto (tgt := 115) hx hb dX7_through_94 (by decide) ?_
              refine lv_istore (lv' := [(5, .int (iI 2)), (4, .int (iI 1)), (3, .int (iI (fbM tm mv bd kn ks kt kb kz bk))), (0, .ref h), (1, .int (iI bk)), (2, .int (iI tm))]) hx hb dX7_through_115 hl (by decide) rfl (fun ls hl => ?_)
              refine lv_aload_n hx hb dX7_through_117 rfl (lv_at hl 3 rfl) ?_
              refine va_get (D := D) (ci := 7) (v := .ref hSt) (C := RX7) (T := TX7) (N := 25) hx hb hts (fun w h => (List.mem_cons_of_mem _ (hinX7 w h))) hown hK hP 0 rfl rfl 15 (by decide) (hts _ (List.mem_cons_of_mem _ wd_627)) (fun _ h9 => h9) rfl dX7_through_118 ?_
              refine lv_iload_n hx hb dX7_through_121 rfl (lv_at hl 4 rfl) ?_
              refine lv_iconst (v := iI 1) hx hb dX7_through_122 rfl ?_
              refine wk_iast hx hb hK hP hD hS 6 0 rfl rfl (by decide) (by omega) dX7_through_123 (ws' := [(h, .inr (7, [.int (iI 0), .int (iI sn), .int (iI sm), .int (iI tm), .ref hRo, .int (iI rn), .int (iI bn), .ref hNu, .ref hWe, .ref hDa, .ref hVe, .int (iI kn), .ref hSl, .ref hTr, .ref hBx, .ref hSt, .ref hLa, .ref hOr, .ref hSi, .ref hTu, .int (iI cm), .int (iI al), .int (iI lg), .int (iI tt), .int (iI dn)])), (hDa, .inl (kZ, 20, .inl (iF bd))), (hVe, .inl (kI, 112, .inl (iF mv))), (hSl, .inl (kI, 61, .inl (iF ks))), (hTr, .inl (kI, 61, .inl (iF kt))), (hBx, .inl (kI, 61, .inl (iF kb))), (hSt, .inl (kI, 61, .inl (iF (iu kz bk 1)))), (hLa, .inl (kI, 61, .inl (iF kl))), (hOr, .inl (kI, 61, .inl (iF mo))), (hSi, .inl (kI, 61, .inl (iF kc)))]) rfl (fun H locs hP hD hS => ?_)
              refine lv_aload_n hx hb dX7_through_124 rfl (lv_at hl 3 rfl) ?_
              refine va_get (D := D) (ci := 7) (v := .ref hSi) (C := RX7) (T := TX7) (N := 25) hx hb hts (fun w h => (List.mem_cons_of_mem _ (hinX7 w h))) hown hK hP 0 rfl rfl 18 (by decide) (hts _ (List.mem_cons_of_mem _ wd_630)) (fun _ h9 => h9) rfl dX7_through_125 ?_
              refine lv_iload_n hx hb dX7_through_128 rfl (lv_at hl 4 rfl) ?_
              refine lv_aload_n hx hb dX7_through_129 rfl (lv_at hl 3 rfl) ?_
              refine va_get (D := D) (ci := 7) (v := .int (iI tm)) (C := RX7) (T := TX7) (N := 25) hx hb hts (fun w h => (List.mem_cons_of_mem _ (hinX7 w h))) hown hK hP 0 rfl rfl 3 (by decide) (hts _ (List.mem_cons_of_mem _ wd_615)) (fun _ h9 => h9) rfl dX7_through_130 ?_
              refine wk_iast hx hb hK hP hD hS 9 0 rfl rfl (by decide) (by omega) dX7_through_133 (ws' := [(h, .inr (7, [.int (iI 0), .int (iI sn), .int (iI sm), .int (iI tm), .ref hRo, .int (iI rn), .int (iI bn), .ref hNu, .ref hWe, .ref hDa, .ref hVe, .int (iI kn), .ref hSl, .ref hTr, .ref hBx, .ref hSt, .ref hLa, .ref hOr, .ref hSi, .ref hTu, .int (iI cm), .int (iI al), .int (iI lg), .int (iI tt), .int (iI dn)])), (hDa, .inl (kZ, 20, .inl (iF bd))), (hVe, .inl (kI, 112, .inl (iF mv))), (hSl, .inl (kI, 61, .inl (iF ks))), (hTr, .inl (kI, 61, .inl (iF kt))), (hBx, .inl (kI, 61, .inl (iF kb))), (hSt, .inl (kI, 61, .inl (iF (iu kz bk 1)))), (hLa, .inl (kI, 61, .inl (iF kl))), (hOr, .inl (kI, 61, .inl (iF mo))), (hSi, .inl (kI, 61, .inl (iF (iu kc bk tm))))]) rfl (fun H locs hP hD hS => ?_)
              refine lv_aload_n hx hb dX7_through_134 rfl (lv_at hl 3 rfl) ?_
              refine lv_iload_n hx hb dX7_through_135 rfl (lv_at hl 4 rfl) ?_
              refine lv_iload hx hb dX7_through_136 (lv_at hl 0 rfl) ?_
              refine ck_backV (va_runV (As := [.int (iI bk), .int (iI 2)]) (rest := []) ⟨hx, hb, hml, hown, hts⟩ (tX7_comes l D kI kZ kL kJ h hRo hNu hWe hDa hVe hSl hTr hBx hSt hLa hOr hSi hTu kl mo 0 sn sm tm rn bn kn cm al lg tt dn bk 2 H.size (by first | assumption | omega)) (cwV 2 hts (gd_V tb_cons wd_775 wd_777 wd_30 wd_41 wd_778) rfl rfl rfl (by decide +kernel) ⟨Nat.le_of_ble_eq_true rfl, Nat.le_of_ble_eq_true rfl⟩) (ck_preV hxT hK hP hD [0, 7, 8] rfl (by decide) (q0 := 0) rfl rfl rfl) rfl rfl hl.1 rfl (lv_room (Nat.le_of_ble_eq_true rfl)) dX7_through_138 ⟨Nat.zero_le _, Nat.zero_le _⟩) hP hD hS hA [0, 7, 8] [1, 2, 3, 4, 5, 6, 9] (WR := [(hDa, .inl (kZ, 20, .inl (iF bd))), (hVe, .inl (kI, 112, .inl (iF mv))), (hSl, .inl (kI, 61, .inl (iF ks))), (hTr, .inl (kI, 61, .inl (iF kt))), (hBx, .inl (kI, 61, .inl (iF kb))), (hSt, .inl (kI, 61, .inl (iF (iu kz bk 1)))), (hSi, .inl (kI, 61, .inl (iF (iu kc bk tm))))]) rfl rfl (by decide) (by decide) (ws' := [(hDa, .inl (kZ, 20, .inl (iF bd))), (hVe, .inl (kI, 112, .inl (iF mv))), (hSl, .inl (kI, 61, .inl (iF ks))), (hTr, .inl (kI, 61, .inl (iF kt))), (hBx, .inl (kI, 61, .inl (iF kb))), (hSt, .inl (kI, 61, .inl (iF (iu kz bk 1)))), (hSi, .inl (kI, 61, .inl (iF (iu kc bk tm)))), (h, .inr (7, [.int (iI 0), .int (iI sn), .int (iI sm), .int (iI tm), .ref hRo, .int (iI rn), .int (iI bn), .ref hNu, .ref hWe, .ref hDa, .ref hVe, .int (iI kn), .ref hSl, .ref hTr, .ref hBx, .ref hSt, .ref hLa, .ref hOr, .ref hSi, .ref hTu, .int (iI (cm + 1)), .int (iI al), .int (iI lg), .int (iI tt), .int (iI dn)])), (hLa, .inl (kI, 61, .inl (iF (iu kl bk 2)))), (hOr, .inl (kI, 61, .inl (iF (iu mo bk (cm + 1)))))]) rfl (fun H locs hP hD hS => ?_)
              refine lv_iconst (v := iI 1) hx hb dX7_through_141 rfl ?_
              have hP := hP.sub (ws' := [(h, .inr (7, [.int (iI 0), .int (iI sn), .int (iI sm), .int (iI tm), .ref hRo, .int (iI rn), .int (iI bn), .ref hNu, .ref hWe, .ref hDa, .ref hVe, .int (iI kn), .ref hSl, .ref hTr, .ref hBx, .ref hSt, .ref hLa, .ref hOr, .ref hSi, .ref hTu, .int (iI (cm + 1)), .int (iI al), .int (iI lg), .int (iI tt), .int (iI dn)])), (hDa, .inl (kZ, 20, .inl (iF bd))), (hVe, .inl (kI, 112, .inl (iF mv))), (hSl, .inl (kI, 61, .inl (iF ks))), (hTr, .inl (kI, 61, .inl (iF kt))), (hBx, .inl (kI, 61, .inl (iF kb))), (hSt, .inl (kI, 61, .inl (iF (iu kz bk 1)))), (hLa, .inl (kI, 61, .inl (iF (iu kl bk 2)))), (hOr, .inl (kI, 61, .inl (iF (iu mo bk (cm + 1))))), (hSi, .inl (kI, 61, .inl (iF (iu kc bk tm))))]) [7, 0, 1, 2, 3, 4, 5, 8, 9, 6] rfl
              have hD := hD.sub (ws' := [(h, .inr (7, [.int (iI 0), .int (iI sn), .int (iI sm), .int (iI tm), .ref hRo, .int (iI rn), .int (iI bn), .ref hNu, .ref hWe, .ref hDa, .ref hVe, .int (iI kn), .ref hSl, .ref hTr, .ref hBx, .ref hSt, .ref hLa, .ref hOr, .ref hSi, .ref hTu, .int (iI (cm + 1)), .int (iI al), .int (iI lg), .int (iI tt), .int (iI dn)])), (hDa, .inl (kZ, 20, .inl (iF bd))), (hVe, .inl (kI, 112, .inl (iF mv))), (hSl, .inl (kI, 61, .inl (iF ks))), (hTr, .inl (kI, 61, .inl (iF kt))), (hBx, .inl (kI, 61, .inl (iF kb))), (hSt, .inl (kI, 61, .inl (iF (iu kz bk 1)))), (hLa, .inl (kI, 61, .inl (iF (iu kl bk 2)))), (hOr, .inl (kI, 61, .inl (iF (iu mo bk (cm + 1))))), (hSi, .inl (kI, 61, .inl (iF (iu kc bk tm))))]) [7, 0, 1, 2, 3, 4, 5, 8, 9, 6] (by decide) rfl
              exact rk_int hx hb hr hlocks hK hP hD hS (by first | rfl | omega) rfl dX7_through_142
      · skip
        exfalso; omega
    · skip
      exfalso; omega
  · skip
    exfalso; omega

set_option maxHeartbeats 4000000 in
set_option maxRecDepth 100000 in
theorem tX7_weigh_1 (l : Launch) (D : va_G) (kI : ClassId) (kZ : ClassId) (kL : ClassId) (kJ : ClassId) (h : Nat) (hRo : Nat) (hNu : Nat) (hWe : Nat) (hDa : Nat) (hVe : Nat) (hSl : Nat) (hTr : Nat) (hBx : Nat) (hSt : Nat) (hLa : Nat) (hOr : Nat) (hSi : Nat) (hTu : Nat) (th : Int) (sn : Int) (sm : Int) (nw : Int) (rn : Int) (bn : Int) (kn : Int) (cm : Int) (al : Int) (lg : Int) (tt : Int) (dn : Int) (ln : Int) (kg : Int) (tm : Int) (sz : Nat) (hln : -2147483648 ≤ ln ∧ ln ≤ 2147483647) (h1 : ¬ (0 ≤ ln ∧ ln < 3)) : CtI l yX7_weigh wsX7_weigh ({ frames := 1, cells := 0, slots := 0, locals := 21 }) D vwCl (tyL kI kZ kL kJ) [(h, .inr (7, [.int (iI th), .int (iI sn), .int (iI sm), .int (iI nw), .ref hRo, .int (iI rn), .int (iI bn), .ref hNu, .ref hWe, .ref hDa, .ref hVe, .int (iI kn), .ref hSl, .ref hTr, .ref hBx, .ref hSt, .ref hLa, .ref hOr, .ref hSi, .ref hTu, .int (iI cm), .int (iI al), .int (iI lg), .int (iI tt), .int (iI dn)]))] [.ref h, .int (iI ln), .int (iI kg), .int (iI tm)] (iI 0) [(h, .inr (7, [.int (iI 1), .int (iI sn), .int (iI sm), .int (iI nw), .ref hRo, .int (iI rn), .int (iI bn), .ref hNu, .ref hWe, .ref hDa, .ref hVe, .int (iI kn), .ref hSl, .ref hTr, .ref hBx, .ref hSt, .ref hLa, .ref hOr, .ref hSi, .ref hTu, .int (iI cm), .int (iI al), .int (iI lg), .int (iI tt), .int (iI dn)]))] sz := by
  refine ck_start (Qc := fun A => cQi D vwCl (tyL kI kZ kL kJ) A (iI 0) [(h, .inr (7, [.int (iI 1), .int (iI sn), .int (iI sm), .int (iI nw), .ref hRo, .int (iI rn), .int (iI bn), .ref hNu, .ref hWe, .ref hDa, .ref hVe, .int (iI kn), .ref hSl, .ref hTr, .ref hBx, .ref hSt, .ref hLa, .ref hOr, .ref hSi, .ref hTu, .int (iI cm), .int (iI al), .int (iI lg), .int (iI tt), .int (iI dn)]))]) (cc := cX7_weigh) (maxL := 9) (ret := (some .int)) (LV := [(0, .ref h), (1, .int (iI ln)), (2, .int (iI kg)), (3, .int (iI tm))]) (by decide) rfl rfl (Nat.le_of_ble_eq_true rfl) ?_
  intro p e s m below meth cd hadm hx hb hr hml hts hown hlocks hname hnoh hxT A hA hK hP hD hS ls hl
  refine lv_iload_n hx hb dX7_weigh_0 rfl (lv_at hl 1 rfl) ?_
  refine wk_if_lt (tgt := 9) hx hb dX7_weigh_1 (by decide) (by omega) (fun c_1 => ?_) (fun c_1 => ?_)
  · skip
    refine lv_aload_n hx hb dX7_weigh_9 rfl (lv_at hl 0 rfl) ?_
    refine lv_iconst (v := iI 1) hx hb dX7_weigh_10 rfl ?_
    refine ck_backI (va_runV (As := [.int (iI 1)]) (rest := []) ⟨hx, hb, hml, hown, hts⟩ (tX7_fails l D kI kZ kL kJ h hRo hNu hWe hDa hVe hSl hTr hBx hSt hLa hOr hSi hTu th sn sm nw rn bn kn cm al lg tt dn 1 s.heap.size ) (cwV 1 hts (gd_V tb_cons wd_702 wd_704 wd_18 wd_41 wd_705) rfl rfl rfl (by decide +kernel) ⟨Nat.le_of_ble_eq_true rfl, Nat.le_of_ble_eq_true rfl⟩) (ck_preV hxT hK hP hD [0] rfl (by decide) (q0 := 0) rfl rfl rfl) rfl rfl hl.1 rfl (lv_room (Nat.le_of_ble_eq_true rfl)) dX7_weigh_11 ⟨Nat.zero_le _, Nat.zero_le _⟩) hP hD hS hA [0] [] (WR := []) rfl rfl (by decide) (by decide) (ws' := [(h, .inr (7, [.int (iI 1), .int (iI sn), .int (iI sm), .int (iI nw), .ref hRo, .int (iI rn), .int (iI bn), .ref hNu, .ref hWe, .ref hDa, .ref hVe, .int (iI kn), .ref hSl, .ref hTr, .ref hBx, .ref hSt, .ref hLa, .ref hOr, .ref hSi, .ref hTu, .int (iI cm), .int (iI al), .int (iI lg), .int (iI tt), .int (iI dn)]))]) rfl (fun H locs hP hD hS => ?_)
    exact rk_int hx hb hr hlocks hK hP hD hS (by first | rfl | omega) rfl dX7_weigh_14
  · skip
    refine lv_iload_n hx hb dX7_weigh_4 rfl (lv_at hl 1 rfl) ?_
    refine lv_iconst (v := iI 2) hx hb dX7_weigh_5 rfl ?_
    refine wk_icmp_le (tgt := 15) hx hb dX7_weigh_6 (by decide) (by omega) (fun c_2 => ?_) (fun c_2 => ?_)
    · skip
      exfalso; omega
    · skip
      refine lv_aload_n hx hb dX7_weigh_9 rfl (lv_at hl 0 rfl) ?_
      refine lv_iconst (v := iI 1) hx hb dX7_weigh_10 rfl ?_
      refine ck_backI (va_runV (As := [.int (iI 1)]) (rest := []) ⟨hx, hb, hml, hown, hts⟩ (tX7_fails l D kI kZ kL kJ h hRo hNu hWe hDa hVe hSl hTr hBx hSt hLa hOr hSi hTu th sn sm nw rn bn kn cm al lg tt dn 1 s.heap.size ) (cwV 1 hts (gd_V tb_cons wd_702 wd_704 wd_18 wd_41 wd_705) rfl rfl rfl (by decide +kernel) ⟨Nat.le_of_ble_eq_true rfl, Nat.le_of_ble_eq_true rfl⟩) (ck_preV hxT hK hP hD [0] rfl (by decide) (q0 := 0) rfl rfl rfl) rfl rfl hl.1 rfl (lv_room (Nat.le_of_ble_eq_true rfl)) dX7_weigh_11 ⟨Nat.zero_le _, Nat.zero_le _⟩) hP hD hS hA [0] [] (WR := []) rfl rfl (by decide) (by decide) (ws' := [(h, .inr (7, [.int (iI 1), .int (iI sn), .int (iI sm), .int (iI nw), .ref hRo, .int (iI rn), .int (iI bn), .ref hNu, .ref hWe, .ref hDa, .ref hVe, .int (iI kn), .ref hSl, .ref hTr, .ref hBx, .ref hSt, .ref hLa, .ref hOr, .ref hSi, .ref hTu, .int (iI cm), .int (iI al), .int (iI lg), .int (iI tt), .int (iI dn)]))]) rfl (fun H locs hP hD hS => ?_)
      exact rk_int hx hb hr hlocks hK hP hD hS (by first | rfl | omega) rfl dX7_weigh_14

set_option maxHeartbeats 4000000 in
set_option maxRecDepth 100000 in
theorem tX7_weigh_2 (l : Launch) (D : va_G) (kI : ClassId) (kZ : ClassId) (kL : ClassId) (kJ : ClassId) (h : Nat) (hRo : Nat) (hNu : Nat) (hWe : Nat) (hDa : Nat) (hVe : Nat) (hSl : Nat) (hTr : Nat) (hBx : Nat) (hSt : Nat) (hLa : Nat) (hOr : Nat) (hSi : Nat) (hTu : Nat) (th : Int) (sn : Int) (sm : Int) (nw : Int) (rn : Int) (bn : Int) (kn : Int) (cm : Int) (al : Int) (lg : Int) (tt : Int) (dn : Int) (ln : Int) (kg : Int) (tm : Int) (sz : Nat) (hln : 0 ≤ ln ∧ ln < 3) (hnw : 0 ≤ nw ∧ nw ≤ 100000) (htm : -2147483648 ≤ tm ∧ tm ≤ 2147483647) (hkg : -2147483648 ≤ kg ∧ kg ≤ 2147483647) (h1 : ¬ ((nw ≤ tm ∧ tm ≤ 100000) ∧ 0 ≤ kg ∧ kg ≤ 200000)) : CtI l yX7_weigh wsX7_weigh ({ frames := 1, cells := 0, slots := 0, locals := 21 }) D vwCl (tyL kI kZ kL kJ) [(h, .inr (7, [.int (iI th), .int (iI sn), .int (iI sm), .int (iI nw), .ref hRo, .int (iI rn), .int (iI bn), .ref hNu, .ref hWe, .ref hDa, .ref hVe, .int (iI kn), .ref hSl, .ref hTr, .ref hBx, .ref hSt, .ref hLa, .ref hOr, .ref hSi, .ref hTu, .int (iI cm), .int (iI al), .int (iI lg), .int (iI tt), .int (iI dn)]))] [.ref h, .int (iI ln), .int (iI kg), .int (iI tm)] (iI 0) [(h, .inr (7, [.int (iI 2), .int (iI sn), .int (iI sm), .int (iI nw), .ref hRo, .int (iI rn), .int (iI bn), .ref hNu, .ref hWe, .ref hDa, .ref hVe, .int (iI kn), .ref hSl, .ref hTr, .ref hBx, .ref hSt, .ref hLa, .ref hOr, .ref hSi, .ref hTu, .int (iI cm), .int (iI al), .int (iI lg), .int (iI tt), .int (iI dn)]))] sz := by
  refine ck_start (Qc := fun A => cQi D vwCl (tyL kI kZ kL kJ) A (iI 0) [(h, .inr (7, [.int (iI 2), .int (iI sn), .int (iI sm), .int (iI nw), .ref hRo, .int (iI rn), .int (iI bn), .ref hNu, .ref hWe, .ref hDa, .ref hVe, .int (iI kn), .ref hSl, .ref hTr, .ref hBx, .ref hSt, .ref hLa, .ref hOr, .ref hSi, .ref hTu, .int (iI cm), .int (iI al), .int (iI lg), .int (iI tt), .int (iI dn)]))]) (cc := cX7_weigh) (maxL := 9) (ret := (some .int)) (LV := [(0, .ref h), (1, .int (iI ln)), (2, .int (iI kg)), (3, .int (iI tm))]) (by decide) rfl rfl (Nat.le_of_ble_eq_true rfl) ?_
  intro p e s m below meth cd hadm hx hb hr hml hts hown hlocks hname hnoh hxT A hA hK hP hD hS ls hl
  refine lv_iload_n hx hb dX7_weigh_0 rfl (lv_at hl 1 rfl) ?_
  refine wk_if_lt (tgt := 9) hx hb dX7_weigh_1 (by decide) (by omega) (fun c_1 => ?_) (fun c_1 => ?_)
  · skip
    exfalso; omega
  · skip
    refine lv_iload_n hx hb dX7_weigh_4 rfl (lv_at hl 1 rfl) ?_
    refine lv_iconst (v := iI 2) hx hb dX7_weigh_5 rfl ?_
    refine wk_icmp_le (tgt := 15) hx hb dX7_weigh_6 (by decide) (by omega) (fun c_2 => ?_) (fun c_2 => ?_)
    · skip
      refine lv_aload_n hx hb dX7_weigh_15 rfl (lv_at hl 0 rfl) ?_
      refine lv_iload_n hx hb dX7_weigh_16 rfl (lv_at hl 3 rfl) ?_
      refine pk_callI (va_runV (As := [.int (iI tm)]) (rest := []) ⟨hx, hb, hml, hown, hts⟩ (tX7_isTime l D kI kZ kL kJ h hRo hNu hWe hDa hVe hSl hTr hBx hSt hLa hOr hSi hTu th sn sm nw rn bn kn cm al lg tt dn tm s.heap.size (by first | assumption | omega) (by first | assumption | omega)) (cwV 1 hts (gd_V tb_cons wd_755 wd_757 wd_25 wd_41 wd_758) rfl rfl rfl (by decide +kernel) ⟨Nat.le_of_ble_eq_true rfl, Nat.le_of_ble_eq_true rfl⟩) (ck_preV hxT hK hP hD [0] rfl (by decide) (q0 := 0) rfl rfl rfl) rfl rfl hl.1 rfl (lv_room (Nat.le_of_ble_eq_true rfl)) dX7_weigh_17 ⟨Nat.zero_le _, Nat.zero_le _⟩) ?_
      refine wk_bif_eq (tgt := 33) hx hb dX7_weigh_20 (by decide) (fun c_3 => ?_) (fun c_3 => ?_)
      · skip
        refine lv_aload_n hx hb dX7_weigh_33 rfl (lv_at hl 0 rfl) ?_
        refine lv_iconst (v := iI 2) hx hb dX7_weigh_34 rfl ?_
        refine ck_backI (va_runV (As := [.int (iI 2)]) (rest := []) ⟨hx, hb, hml, hown, hts⟩ (tX7_fails l D kI kZ kL kJ h hRo hNu hWe hDa hVe hSl hTr hBx hSt hLa hOr hSi hTu th sn sm nw rn bn kn cm al lg tt dn 2 s.heap.size ) (cwV 1 hts (gd_V tb_cons wd_702 wd_704 wd_18 wd_41 wd_705) rfl rfl rfl (by decide +kernel) ⟨Nat.le_of_ble_eq_true rfl, Nat.le_of_ble_eq_true rfl⟩) (ck_preV hxT hK hP hD [0] rfl (by decide) (q0 := 0) rfl rfl rfl) rfl rfl hl.1 rfl (lv_room (Nat.le_of_ble_eq_true rfl)) dX7_weigh_35 ⟨Nat.zero_le _, Nat.zero_le _⟩) hP hD hS hA [0] [] (WR := []) rfl rfl (by decide) (by decide) (ws' := [(h, .inr (7, [.int (iI 2), .int (iI sn), .int (iI sm), .int (iI nw), .ref hRo, .int (iI rn), .int (iI bn), .ref hNu, .ref hWe, .ref hDa, .ref hVe, .int (iI kn), .ref hSl, .ref hTr, .ref hBx, .ref hSt, .ref hLa, .ref hOr, .ref hSi, .ref hTu, .int (iI cm), .int (iI al), .int (iI lg), .int (iI tt), .int (iI dn)]))]) rfl (fun H locs hP hD hS => ?_)
        exact rk_int hx hb hr hlocks hK hP hD hS (by first | rfl | omega) rfl dX7_weigh_38
      · skip
        refine lv_iload_n hx hb dX7_weigh_23 rfl (lv_at hl 2 rfl) ?_
        refine wk_if_lt (tgt := 33) hx hb dX7_weigh_24 (by decide) (by omega) (fun c_4 => ?_) (fun c_4 => ?_)
        · skip
          refine lv_aload_n hx hb dX7_weigh_33 rfl (lv_at hl 0 rfl) ?_
          refine lv_iconst (v := iI 2) hx hb dX7_weigh_34 rfl ?_
          refine ck_backI (va_runV (As := [.int (iI 2)]) (rest := []) ⟨hx, hb, hml, hown, hts⟩ (tX7_fails l D kI kZ kL kJ h hRo hNu hWe hDa hVe hSl hTr hBx hSt hLa hOr hSi hTu th sn sm nw rn bn kn cm al lg tt dn 2 s.heap.size ) (cwV 1 hts (gd_V tb_cons wd_702 wd_704 wd_18 wd_41 wd_705) rfl rfl rfl (by decide +kernel) ⟨Nat.le_of_ble_eq_true rfl, Nat.le_of_ble_eq_true rfl⟩) (ck_preV hxT hK hP hD [0] rfl (by decide) (q0 := 0) rfl rfl rfl) rfl rfl hl.1 rfl (lv_room (Nat.le_of_ble_eq_true rfl)) dX7_weigh_35 ⟨Nat.zero_le _, Nat.zero_le _⟩) hP hD hS hA [0] [] (WR := []) rfl rfl (by decide) (by decide) (ws' := [(h, .inr (7, [.int (iI 2), .int (iI sn), .int (iI sm), .int (iI nw), .ref hRo, .int (iI rn), .int (iI bn), .ref hNu, .ref hWe, .ref hDa, .ref hVe, .int (iI kn), .ref hSl, .ref hTr, .ref hBx, .ref hSt, .ref hLa, .ref hOr, .ref hSi, .ref hTu, .int (iI cm), .int (iI al), .int (iI lg), .int (iI tt), .int (iI dn)]))]) rfl (fun H locs hP hD hS => ?_)
          exact rk_int hx hb hr hlocks hK hP hD hS (by first | rfl | omega) rfl dX7_weigh_38
        · skip
          refine lv_iload_n hx hb dX7_weigh_27 rfl (lv_at hl 2 rfl) ?_
          refine lv_ldc (v := 200000) hx hb hown (hts _ (List.mem_cons_of_mem _ wd_783)) dX7_weigh_28 ?_
          refine wk_eqi (show (200000 : Int32) = iI 200000 by decide) ?_
          refine wk_icmp_le (tgt := 39) hx hb dX7_weigh_30 (by decide) (by omega) (fun c_5 => ?_) (fun c_5 => ?_)
          · skip
            exfalso; omega
          · skip
            refine lv_aload_n hx hb dX7_weigh_33 rfl (lv_at hl 0 rfl) ?_
            refine lv_iconst (v := iI 2) hx hb dX7_weigh_34 rfl ?_
            refine ck_backI (va_runV (As := [.int (iI 2)]) (rest := []) ⟨hx, hb, hml, hown, hts⟩ (tX7_fails l D kI kZ kL kJ h hRo hNu hWe hDa hVe hSl hTr hBx hSt hLa hOr hSi hTu th sn sm nw rn bn kn cm al lg tt dn 2 s.heap.size ) (cwV 1 hts (gd_V tb_cons wd_702 wd_704 wd_18 wd_41 wd_705) rfl rfl rfl (by decide +kernel) ⟨Nat.le_of_ble_eq_true rfl, Nat.le_of_ble_eq_true rfl⟩) (ck_preV hxT hK hP hD [0] rfl (by decide) (q0 := 0) rfl rfl rfl) rfl rfl hl.1 rfl (lv_room (Nat.le_of_ble_eq_true rfl)) dX7_weigh_35 ⟨Nat.zero_le _, Nat.zero_le _⟩) hP hD hS hA [0] [] (WR := []) rfl rfl (by decide) (by decide) (ws' := [(h, .inr (7, [.int (iI 2), .int (iI sn), .int (iI sm), .int (iI nw), .ref hRo, .int (iI rn), .int (iI bn), .ref hNu, .ref hWe, .ref hDa, .ref hVe, .int (iI kn), .ref hSl, .ref hTr, .ref hBx, .ref hSt, .ref hLa, .ref hOr, .ref hSi, .ref hTu, .int (iI cm), .int (iI al), .int (iI lg), .int (iI tt), .int (iI dn)]))]) rfl (fun H locs hP hD hS => ?_)
            exact rk_int hx hb hr hlocks hK hP hD hS (by first | rfl | omega) rfl dX7_weigh_38
    · skip
      exfalso; omega

set_option maxHeartbeats 4000000 in
set_option maxRecDepth 100000 in
theorem tX7_weigh_e (l : Launch) (D : va_G) (kI : ClassId) (kZ : ClassId) (kL : ClassId) (kJ : ClassId) (h : Nat) (hRo : Nat) (hNu : Nat) (hWe : Nat) (hDa : Nat) (hVe : Nat) (hSl : Nat) (hTr : Nat) (hBx : Nat) (hSt : Nat) (hLa : Nat) (hOr : Nat) (hSi : Nat) (hTu : Nat) (kz : Int → Int) (kl : Int → Int) (mo : Int → Int) (th : Int) (sn : Int) (sm : Int) (nw : Int) (rn : Int) (bn : Int) (kn : Int) (cm : Int) (al : Int) (lg : Int) (tt : Int) (dn : Int) (ln : Int) (kg : Int) (tm : Int) (sz : Nat) (hln : 0 ≤ ln ∧ ln < 3) (hnw : 0 ≤ nw ∧ nw ≤ 100000) (htm : nw ≤ tm ∧ tm ≤ 100000) (hkg : 0 ≤ kg ∧ kg ≤ 200000) (hkn : 0 ≤ kn ∧ kn ≤ 60) (hkz : ∀ j, 0 ≤ kz j ∧ kz j ≤ 1000000) (hkl : ∀ j, 0 ≤ kl j ∧ kl j ≤ 1000000) (hmo : ∀ j, 0 ≤ mo j ∧ mo j ≤ 1000000) (hX : sc (pOR kz kl mo kn ln 0) (-1) (kn + 1 - 1).toNat 1 = -1) : CtI l yX7_weigh wsX7_weigh ({ frames := 1, cells := 0, slots := 0, locals := 25 }) D vwCl (tyL kI kZ kL kJ) [(h, .inr (7, [.int (iI th), .int (iI sn), .int (iI sm), .int (iI nw), .ref hRo, .int (iI rn), .int (iI bn), .ref hNu, .ref hWe, .ref hDa, .ref hVe, .int (iI kn), .ref hSl, .ref hTr, .ref hBx, .ref hSt, .ref hLa, .ref hOr, .ref hSi, .ref hTu, .int (iI cm), .int (iI al), .int (iI lg), .int (iI tt), .int (iI dn)])), (hSt, .inl (kI, 61, .inl (iF kz))), (hLa, .inl (kI, 61, .inl (iF kl))), (hOr, .inl (kI, 61, .inl (iF mo)))] [.ref h, .int (iI ln), .int (iI kg), .int (iI tm)] (iI 0) [(h, .inr (7, [.int (iI 0), .int (iI sn), .int (iI sm), .int (iI tm), .ref hRo, .int (iI rn), .int (iI bn), .ref hNu, .ref hWe, .ref hDa, .ref hVe, .int (iI kn), .ref hSl, .ref hTr, .ref hBx, .ref hSt, .ref hLa, .ref hOr, .ref hSi, .ref hTu, .int (iI cm), .int (iI al), .int (iI lg), .int (iI tt), .int (iI dn)])), (hSt, .inl (kI, 61, .inl (iF kz))), (hLa, .inl (kI, 61, .inl (iF kl))), (hOr, .inl (kI, 61, .inl (iF mo)))] sz := by
  refine ck_start (Qc := fun A => cQi D vwCl (tyL kI kZ kL kJ) A (iI 0) [(h, .inr (7, [.int (iI 0), .int (iI sn), .int (iI sm), .int (iI tm), .ref hRo, .int (iI rn), .int (iI bn), .ref hNu, .ref hWe, .ref hDa, .ref hVe, .int (iI kn), .ref hSl, .ref hTr, .ref hBx, .ref hSt, .ref hLa, .ref hOr, .ref hSi, .ref hTu, .int (iI cm), .int (iI al), .int (iI lg), .int (iI tt), .int (iI dn)])), (hSt, .inl (kI, 61, .inl (iF kz))), (hLa, .inl (kI, 61, .inl (iF kl))), (hOr, .inl (kI, 61, .inl (iF mo)))]) (cc := cX7_weigh) (maxL := 9) (ret := (some .int)) (LV := [(0, .ref h), (1, .int (iI ln)), (2, .int (iI kg)), (3, .int (iI tm))]) (by decide) rfl rfl (Nat.le_of_ble_eq_true rfl) ?_
  intro p e s m below meth cd hadm hx hb hr hml hts hown hlocks hname hnoh hxT A hA hK hP hD hS ls hl
  refine lv_iload_n hx hb dX7_weigh_0 rfl (lv_at hl 1 rfl) ?_
  refine wk_if_lt (tgt := 9) hx hb dX7_weigh_1 (by decide) (by omega) (fun c_1 => ?_) (fun c_1 => ?_)
  · skip
    exfalso; omega
  · skip
    refine lv_iload_n hx hb dX7_weigh_4 rfl (lv_at hl 1 rfl) ?_
    refine lv_iconst (v := iI 2) hx hb dX7_weigh_5 rfl ?_
    refine wk_icmp_le (tgt := 15) hx hb dX7_weigh_6 (by decide) (by omega) (fun c_2 => ?_) (fun c_2 => ?_)
    · skip
      refine lv_aload_n hx hb dX7_weigh_15 rfl (lv_at hl 0 rfl) ?_
      refine lv_iload_n hx hb dX7_weigh_16 rfl (lv_at hl 3 rfl) ?_
      refine pk_callI (va_runV (As := [.int (iI tm)]) (rest := []) ⟨hx, hb, hml, hown, hts⟩ (tX7_isTime l D kI kZ kL kJ h hRo hNu hWe hDa hVe hSl hTr hBx hSt hLa hOr hSi hTu th sn sm nw rn bn kn cm al lg tt dn tm s.heap.size (by first | assumption | omega) (by first | assumption | omega)) (cwV 1 hts (gd_V tb_cons wd_755 wd_757 wd_25 wd_41 wd_758) rfl rfl rfl (by decide +kernel) ⟨Nat.le_of_ble_eq_true rfl, Nat.le_of_ble_eq_true rfl⟩) (ck_preV hxT hK hP hD [0] rfl (by decide) (q0 := 0) rfl rfl rfl) rfl rfl hl.1 rfl (lv_room (Nat.le_of_ble_eq_true rfl)) dX7_weigh_17 ⟨Nat.zero_le _, Nat.zero_le _⟩) ?_
      refine wk_bif_eq (tgt := 33) hx hb dX7_weigh_20 (by decide) (fun c_3 => ?_) (fun c_3 => ?_)
      · skip
        exfalso; omega
      · skip
        refine lv_iload_n hx hb dX7_weigh_23 rfl (lv_at hl 2 rfl) ?_
        refine wk_if_lt (tgt := 33) hx hb dX7_weigh_24 (by decide) (by omega) (fun c_4 => ?_) (fun c_4 => ?_)
        · skip
          exfalso; omega
        · skip
          refine lv_iload_n hx hb dX7_weigh_27 rfl (lv_at hl 2 rfl) ?_
          refine lv_ldc (v := 200000) hx hb hown (hts _ (List.mem_cons_of_mem _ wd_783)) dX7_weigh_28 ?_
          refine wk_eqi (show (200000 : Int32) = iI 200000 by decide) ?_
          refine wk_icmp_le (tgt := 39) hx hb dX7_weigh_30 (by decide) (by omega) (fun c_5 => ?_) (fun c_5 => ?_)
          · skip
            refine lv_aload_n hx hb dX7_weigh_39 rfl (lv_at hl 0 rfl) ?_
            refine lv_iconst (v := iI 0) hx hb dX7_weigh_40 rfl ?_
            refine wk_put (ci := 7) (C := RX7) (T := TX7) (N := 25) hx hb hts (fun w h => (List.mem_cons_of_mem _ (hinX7 w h))) tyX7 tyX7_ok nmX7 hown hK hP hD hS 0 rfl rfl 0 (by decide) (hts _ (List.mem_cons_of_mem _ wd_612)) (fun _ h9 => h9) rfl rfl (Nat.le_of_ble_eq_true rfl) dX7_weigh_41 (ws' := [(h, .inr (7, [.int (iI 0), .int (iI sn), .int (iI sm), .int (iI nw), .ref hRo, .int (iI rn), .int (iI bn), .ref hNu, .ref hWe, .ref hDa, .ref hVe, .int (iI kn), .ref hSl, .ref hTr, .ref hBx, .ref hSt, .ref hLa, .ref hOr, .ref hSi, .ref hTu, .int (iI cm), .int (iI al), .int (iI lg), .int (iI tt), .int (iI dn)])), (hSt, .inl (kI, 61, .inl (iF kz))), (hLa, .inl (kI, 61, .inl (iF kl))), (hOr, .inl (kI, 61, .inl (iF mo)))]) rfl (fun H locs hP hD hS => ?_)
            refine lv_aload_n hx hb dX7_weigh_44 rfl (lv_at hl 0 rfl) ?_
            refine lv_iload_n hx hb dX7_weigh_45 rfl (lv_at hl 3 rfl) ?_
            refine wk_put (ci := 7) (C := RX7) (T := TX7) (N := 25) hx hb hts (fun w h => (List.mem_cons_of_mem _ (hinX7 w h))) tyX7 tyX7_ok nmX7 hown hK hP hD hS 0 rfl rfl 3 (by decide) (hts _ (List.mem_cons_of_mem _ wd_615)) (fun _ h9 => h9) rfl rfl (Nat.le_of_ble_eq_true rfl) dX7_weigh_46 (ws' := [(h, .inr (7, [.int (iI 0), .int (iI sn), .int (iI sm), .int (iI tm), .ref hRo, .int (iI rn), .int (iI bn), .ref hNu, .ref hWe, .ref hDa, .ref hVe, .int (iI kn), .ref hSl, .ref hTr, .ref hBx, .ref hSt, .ref hLa, .ref hOr, .ref hSi, .ref hTu, .int (iI cm), .int (iI al), .int (iI lg), .int (iI tt), .int (iI dn)])), (hSt, .inl (kI, 61, .inl (iF kz))), (hLa, .inl (kI, 61, .inl (iF kl))), (hOr, .inl (kI, 61, .inl (iF mo)))]) rfl (fun H locs hP hD hS => ?_)
            refine lv_aload_n hx hb dX7_weigh_49 rfl (lv_at hl 0 rfl) ?_
            refine lv_iload_n hx hb dX7_weigh_50 rfl (lv_at hl 1 rfl) ?_
            refine lv_iconst (v := iI 0) hx hb dX7_weigh_51 rfl ?_
            refine pk_callI (va_runV (As := [.int (iI ln), .int (iI 0)]) (rest := []) ⟨hx, hb, hml, hown, hts⟩ (tX7_inOrder l D kI kZ kL kJ h hRo hNu hWe hDa hVe hSl hTr hBx hSt hLa hOr hSi hTu kz kl mo 0 sn sm tm rn bn kn cm al lg tt dn ln 0 H.size (by first | assumption | omega) (by first | assumption | omega) (by first | assumption | omega) (by first | assumption | omega) (by first | assumption | omega) (by first | assumption | omega)) (cwV 2 hts (gd_V tb_cons wd_784 wd_786 wd_31 wd_41 wd_787) rfl rfl rfl (by decide +kernel) ⟨Nat.le_of_ble_eq_true rfl, Nat.le_of_ble_eq_true rfl⟩) (ck_preV hxT hK hP hD [0, 1, 2, 3] rfl (by decide) (q0 := 0) rfl rfl rfl) rfl rfl hl.1 rfl (lv_room (Nat.le_of_ble_eq_true rfl)) dX7_weigh_52 ⟨Nat.zero_le _, Nat.zero_le _⟩) ?_
            refine lv_istore (lv' := [(4, .int (iI (sc (pOR kz kl mo kn ln 0) (-1) (kn + 1 - 1).toNat 1))), (0, .ref h), (1, .int (iI ln)), (2, .int (iI kg)), (3, .int (iI tm))]) hx hb dX7_weigh_55 hl (by decide) rfl (fun ls hl => ?_)
            refine lv_iload hx hb dX7_weigh_57 (lv_at hl 0 rfl) ?_
            refine wk_if_ge (tgt := 64) hx hb dX7_weigh_59 (by decide) (by omega) (fun c_6 => ?_) (fun c_6 => ?_)
            · skip
              exfalso; omega
            · skip
              refine lv_iconst (v := iI 0) hx hb dX7_weigh_62 rfl ?_
              exact rk_int hx hb hr hlocks hK hP hD hS (by first | rfl | omega) rfl dX7_weigh_63
          · skip
            exfalso; omega
    · skip
      exfalso; omega

set_option maxHeartbeats 4000000 in
set_option maxRecDepth 100000 in
theorem tX7_weigh_d2 (l : Launch) (D : va_G) (kI : ClassId) (kZ : ClassId) (kL : ClassId) (kJ : ClassId) (h : Nat) (hRo : Nat) (hNu : Nat) (hWe : Nat) (hDa : Nat) (hVe : Nat) (hSl : Nat) (hTr : Nat) (hBx : Nat) (hSt : Nat) (hLa : Nat) (hOr : Nat) (hSi : Nat) (hTu : Nat) (bw : Int → Int) (kb : Int → Int) (kz : Int → Int) (kl : Int → Int) (mo : Int → Int) (kc : Int → Int) (mt : Int → Int) (th : Int) (sn : Int) (sm : Int) (nw : Int) (rn : Int) (bn : Int) (kn : Int) (cm : Int) (al : Int) (lg : Int) (tt : Int) (dn : Int) (bk : Int) (kg : Int) (tm : Int) (sz : Nat) (hnw : 0 ≤ nw ∧ nw ≤ 100000) (htm : nw ≤ tm ∧ tm ≤ 100000) (hkg : 0 ≤ kg ∧ kg ≤ 200000) (hkn : 0 ≤ kn ∧ kn ≤ 60) (hkz : ∀ j, 0 ≤ kz j ∧ kz j ≤ 1000000) (hkl : ∀ j, 0 ≤ kl j ∧ kl j ≤ 1000000) (hmo : ∀ j, 0 ≤ mo j ∧ mo j ≤ 1000000) (hF : 1 ≤ bk ∧ bk ≤ kn) (hX : sc (pOR kz kl mo kn 2 0) (-1) (kn + 1 - 1).toNat 1 = bk) (hal : 0 ≤ al ∧ al ≤ 1000) (hbw : ∀ j, 0 ≤ bw j ∧ bw j ≤ 100000) (hkb : ∀ j, 0 ≤ kb j ∧ kb j < 20) (hkc : ∀ j, 0 ≤ kc j ∧ kc j ≤ 1000000) (hlg : 0 ≤ lg ∧ lg ≤ 100000) : CtI l yX7_weigh wsX7_weigh ({ frames := 1, cells := 0, slots := 0, locals := 25 }) D vwCl (tyL kI kZ kL kJ) [(h, .inr (7, [.int (iI th), .int (iI sn), .int (iI sm), .int (iI nw), .ref hRo, .int (iI rn), .int (iI bn), .ref hNu, .ref hWe, .ref hDa, .ref hVe, .int (iI kn), .ref hSl, .ref hTr, .ref hBx, .ref hSt, .ref hLa, .ref hOr, .ref hSi, .ref hTu, .int (iI cm), .int (iI al), .int (iI lg), .int (iI tt), .int (iI dn)])), (hWe, .inl (kI, 20, .inl (iF bw))), (hBx, .inl (kI, 61, .inl (iF kb))), (hSt, .inl (kI, 61, .inl (iF kz))), (hLa, .inl (kI, 61, .inl (iF kl))), (hOr, .inl (kI, 61, .inl (iF mo))), (hSi, .inl (kI, 61, .inl (iF kc))), (hTu, .inl (kI, 61, .inl (iF mt)))] [.ref h, .int (iI 2), .int (iI kg), .int (iI tm)] (iI bk) [(h, .inr (7, [.int (iI 0), .int (iI sn), .int (iI sm), .int (iI tm), .ref hRo, .int (iI rn), .int (iI bn), .ref hNu, .ref hWe, .ref hDa, .ref hVe, .int (iI kn), .ref hSl, .ref hTr, .ref hBx, .ref hSt, .ref hLa, .ref hOr, .ref hSi, .ref hTu, .int (iI cm), .int (iI al), .int (iI (max lg (tm - kc bk))), .int (iI (tt + (tm - kc bk))), .int (iI (dn + 1))])), (hWe, .inl (kI, 20, .inl (iF bw))), (hBx, .inl (kI, 61, .inl (iF kb))), (hSt, .inl (kI, 61, .inl (iF (iu kz bk 2)))), (hLa, .inl (kI, 61, .inl (iF kl))), (hOr, .inl (kI, 61, .inl (iF mo))), (hSi, .inl (kI, 61, .inl (iF kc))), (hTu, .inl (kI, 61, .inl (iF (iu mt bk (tm - kc bk)))))] sz := by
  refine ck_start (Qc := fun A => cQi D vwCl (tyL kI kZ kL kJ) A (iI bk) [(h, .inr (7, [.int (iI 0), .int (iI sn), .int (iI sm), .int (iI tm), .ref hRo, .int (iI rn), .int (iI bn), .ref hNu, .ref hWe, .ref hDa, .ref hVe, .int (iI kn), .ref hSl, .ref hTr, .ref hBx, .ref hSt, .ref hLa, .ref hOr, .ref hSi, .ref hTu, .int (iI cm), .int (iI al), .int (iI (max lg (tm - kc bk))), .int (iI (tt + (tm - kc bk))), .int (iI (dn + 1))])), (hWe, .inl (kI, 20, .inl (iF bw))), (hBx, .inl (kI, 61, .inl (iF kb))), (hSt, .inl (kI, 61, .inl (iF (iu kz bk 2)))), (hLa, .inl (kI, 61, .inl (iF kl))), (hOr, .inl (kI, 61, .inl (iF mo))), (hSi, .inl (kI, 61, .inl (iF kc))), (hTu, .inl (kI, 61, .inl (iF (iu mt bk (tm - kc bk)))))]) (cc := cX7_weigh) (maxL := 9) (ret := (some .int)) (LV := [(0, .ref h), (1, .int (iI 2)), (2, .int (iI kg)), (3, .int (iI tm))]) (by decide) rfl rfl (Nat.le_of_ble_eq_true rfl) ?_
  intro p e s m below meth cd hadm hx hb hr hml hts hown hlocks hname hnoh hxT A hA hK hP hD hS ls hl
  refine lv_iload_n hx hb dX7_weigh_0 rfl (lv_at hl 1 rfl) ?_
  refine wk_if_lt (tgt := 9) hx hb dX7_weigh_1 (by decide) (by omega) (fun c_1 => ?_) (fun c_1 => ?_)
  · skip
    exfalso; omega
  · skip
    refine lv_iload_n hx hb dX7_weigh_4 rfl (lv_at hl 1 rfl) ?_
    refine lv_iconst (v := iI 2) hx hb dX7_weigh_5 rfl ?_
    refine wk_icmp_le (tgt := 15) hx hb dX7_weigh_6 (by decide) (by omega) (fun c_2 => ?_) (fun c_2 => ?_)
    · skip
      refine lv_aload_n hx hb dX7_weigh_15 rfl (lv_at hl 0 rfl) ?_
      refine lv_iload_n hx hb dX7_weigh_16 rfl (lv_at hl 3 rfl) ?_
      refine pk_callI (va_runV (As := [.int (iI tm)]) (rest := []) ⟨hx, hb, hml, hown, hts⟩ (tX7_isTime l D kI kZ kL kJ h hRo hNu hWe hDa hVe hSl hTr hBx hSt hLa hOr hSi hTu th sn sm nw rn bn kn cm al lg tt dn tm s.heap.size (by first | assumption | omega) (by first | assumption | omega)) (cwV 1 hts (gd_V tb_cons wd_755 wd_757 wd_25 wd_41 wd_758) rfl rfl rfl (by decide +kernel) ⟨Nat.le_of_ble_eq_true rfl, Nat.le_of_ble_eq_true rfl⟩) (ck_preV hxT hK hP hD [0] rfl (by decide) (q0 := 0) rfl rfl rfl) rfl rfl hl.1 rfl (lv_room (Nat.le_of_ble_eq_true rfl)) dX7_weigh_17 ⟨Nat.zero_le _, Nat.zero_le _⟩) ?_
      refine wk_bif_eq (tgt := 33) hx hb dX7_weigh_20 (by decide) (fun c_3 => ?_) (fun c_3 => ?_)
      · skip
        exfalso; omega
      · skip
        refine lv_iload_n hx hb dX7_weigh_23 rfl (lv_at hl 2 rfl) ?_
        refine wk_if_lt (tgt := 33) hx hb dX7_weigh_24 (by decide) (by omega) (fun c_4 => ?_) (fun c_4 => ?_)
        · skip
          exfalso; omega
        · skip
          refine lv_iload_n hx hb dX7_weigh_27 rfl (lv_at hl 2 rfl) ?_
          refine lv_ldc (v := 200000) hx hb hown (hts _ (List.mem_cons_of_mem _ wd_783)) dX7_weigh_28 ?_
          refine wk_eqi (show (200000 : Int32) = iI 200000 by decide) ?_
          refine wk_icmp_le (tgt := 39) hx hb dX7_weigh_30 (by decide) (by omega) (fun c_5 => ?_) (fun c_5 => ?_)
          · skip
            refine lv_aload_n hx hb dX7_weigh_39 rfl (lv_at hl 0 rfl) ?_
            refine lv_iconst (v := iI 0) hx hb dX7_weigh_40 rfl ?_
            refine wk_put (ci := 7) (C := RX7) (T := TX7) (N := 25) hx hb hts (fun w h => (List.mem_cons_of_mem _ (hinX7 w h))) tyX7 tyX7_ok nmX7 hown hK hP hD hS 0 rfl rfl 0 (by decide) (hts _ (List.mem_cons_of_mem _ wd_612)) (fun _ h9 => h9) rfl rfl (Nat.le_of_ble_eq_true rfl) dX7_weigh_41 (ws' := [(h, .inr (7, [.int (iI 0), .int (iI sn), .int (iI sm), .int (iI nw), .ref hRo, .int (iI rn), .int (iI bn), .ref hNu, .ref hWe, .ref hDa, .ref hVe, .int (iI kn), .ref hSl, .ref hTr, .ref hBx, .ref hSt, .ref hLa, .ref hOr, .ref hSi, .ref hTu, .int (iI cm), .int (iI al), .int (iI lg), .int (iI tt), .int (iI dn)])), (hWe, .inl (kI, 20, .inl (iF bw))), (hBx, .inl (kI, 61, .inl (iF kb))), (hSt, .inl (kI, 61, .inl (iF kz))), (hLa, .inl (kI, 61, .inl (iF kl))), (hOr, .inl (kI, 61, .inl (iF mo))), (hSi, .inl (kI, 61, .inl (iF kc))), (hTu, .inl (kI, 61, .inl (iF mt)))]) rfl (fun H locs hP hD hS => ?_)
            refine lv_aload_n hx hb dX7_weigh_44 rfl (lv_at hl 0 rfl) ?_
            refine lv_iload_n hx hb dX7_weigh_45 rfl (lv_at hl 3 rfl) ?_
            refine wk_put (ci := 7) (C := RX7) (T := TX7) (N := 25) hx hb hts (fun w h => (List.mem_cons_of_mem _ (hinX7 w h))) tyX7 tyX7_ok nmX7 hown hK hP hD hS 0 rfl rfl 3 (by decide) (hts _ (List.mem_cons_of_mem _ wd_615)) (fun _ h9 => h9) rfl rfl (Nat.le_of_ble_eq_true rfl) dX7_weigh_46 (ws' := [(h, .inr (7, [.int (iI 0), .int (iI sn), .int (iI sm), .int (iI tm), .ref hRo, .int (iI rn), .int (iI bn), .ref hNu, .ref hWe, .ref hDa, .ref hVe, .int (iI kn), .ref hSl, .ref hTr, .ref hBx, .ref hSt, .ref hLa, .ref hOr, .ref hSi, .ref hTu, .int (iI cm), .int (iI al), .int (iI lg), .int (iI tt), .int (iI dn)])), (hWe, .inl (kI, 20, .inl (iF bw))), (hBx, .inl (kI, 61, .inl (iF kb))), (hSt, .inl (kI, 61, .inl (iF kz))), (hLa, .inl (kI, 61, .inl (iF kl))), (hOr, .inl (kI, 61, .inl (iF mo))), (hSi, .inl (kI, 61, .inl (iF kc))), (hTu, .inl (kI, 61, .inl (iF mt)))]) rfl (fun H locs hP hD hS => ?_)
            refine lv_aload_n hx hb dX7_weigh_49 rfl (lv_at hl 0 rfl) ?_
            refine lv_iload_n hx hb dX7_weigh_50 rfl (lv_at hl 1 rfl) ?_
            refine lv_iconst (v := iI 0) hx hb dX7_weigh_51 rfl ?_
            refine pk_callI (va_runV (As := [.int (iI 2), .int (iI 0)]) (rest := []) ⟨hx, hb, hml, hown, hts⟩ (tX7_inOrder l D kI kZ kL kJ h hRo hNu hWe hDa hVe hSl hTr hBx hSt hLa hOr hSi hTu kz kl mo 0 sn sm tm rn bn kn cm al lg tt dn 2 0 H.size (by first | assumption | omega) (by first | assumption | omega) (by first | assumption | omega) (by first | assumption | omega) (by first | assumption | omega) (by first | assumption | omega)) (cwV 2 hts (gd_V tb_cons wd_784 wd_786 wd_31 wd_41 wd_787) rfl rfl rfl (by decide +kernel) ⟨Nat.le_of_ble_eq_true rfl, Nat.le_of_ble_eq_true rfl⟩) (ck_preV hxT hK hP hD [0, 3, 4, 5] rfl (by decide) (q0 := 0) rfl rfl rfl) rfl rfl hl.1 rfl (lv_room (Nat.le_of_ble_eq_true rfl)) dX7_weigh_52 ⟨Nat.zero_le _, Nat.zero_le _⟩) ?_
            refine wk_eqi (show iI (sc (pOR kz kl mo kn 2 0) (-1) (kn + 1 - 1).toNat 1) = iI bk by rw [hX]) ?_
            refine lv_istore (lv' := [(4, .int (iI bk)), (0, .ref h), (1, .int (iI 2)), (2, .int (iI kg)), (3, .int (iI tm))]) hx hb dX7_weigh_55 hl (by decide) rfl (fun ls hl => ?_)
            refine lv_iload hx hb dX7_weigh_57 (lv_at hl 0 rfl) ?_
            refine wk_if_ge (tgt := 64) hx hb dX7_weigh_59 (by decide) (by omega) (fun c_6 => ?_) (fun c_6 => ?_)
            · skip
              refine lv_aload_n hx hb dX7_weigh_64 rfl (lv_at hl 1 rfl) ?_
              refine va_get (D := D) (ci := 7) (v := .ref hWe) (C := RX7) (T := TX7) (N := 25) hx hb hts (fun w h => (List.mem_cons_of_mem _ (hinX7 w h))) hown hK hP 0 rfl rfl 8 (by decide) (hts _ (List.mem_cons_of_mem _ wd_620)) (fun _ h9 => h9) rfl dX7_weigh_65 ?_
              refine lv_aload_n hx hb dX7_weigh_68 rfl (lv_at hl 1 rfl) ?_
              refine va_get (D := D) (ci := 7) (v := .ref hBx) (C := RX7) (T := TX7) (N := 25) hx hb hts (fun w h => (List.mem_cons_of_mem _ (hinX7 w h))) hown hK hP 0 rfl rfl 14 (by decide) (hts _ (List.mem_cons_of_mem _ wd_626)) (fun _ h9 => h9) rfl dX7_weigh_69 ?_
              refine lv_iload hx hb dX7_weigh_72 (lv_at hl 0 rfl) ?_
              refine wk_iald hx hb hK hP 2 0 rfl rfl (by decide) (by omega) dX7_weigh_74 ?_
              have b_7 := hkb bk
              have b7 := hkb bk
              refine wk_iald hx hb hK hP 1 0 rfl rfl (by decide) (by omega) dX7_weigh_75 ?_
              have b_8 := hbw (kb bk)
              have b8 := hbw (kb bk)
              refine wk_i2l hx hb (by omega) dX7_weigh_76 ?_
              refine lv_lstore (lv' := [(5, .long (lI (bw (kb bk)))), (4, .int (iI bk)), (0, .ref h), (1, .int (iI 2)), (2, .int (iI kg)), (3, .int (iI tm))]) hx hb dX7_weigh_77 hl (by decide) rfl (fun ls hl => ?_)
              refine lv_iload_n hx hb dX7_weigh_79 rfl (lv_at hl 4 rfl) ?_
              refine wk_i2l hx hb (by omega) dX7_weigh_80 ?_
              refine lv_lload hx hb dX7_weigh_81 (lv_at hl 0 rfl) ?_
              refine wk_lcmp hx hb (by omega) dX7_weigh_83 ?_
              have b_9 := lc_spec kg (bw (kb bk))
              refine wk_if_le (tgt := 95) hx hb dX7_weigh_84 (by decide) (by omega) (fun c_10 => ?_) (fun c_10 => ?_)
              · skip
                refine lv_lload hx hb dX7_weigh_95 (lv_at hl 0 rfl) ?_
                refine lv_iload_n hx hb dX7_weigh_97 rfl (lv_at hl 4 rfl) ?_
                refine wk_i2l hx hb (by omega) dX7_weigh_98 ?_
                refine wk_lsub hx hb dX7_weigh_99 ?_
                refine lv_lstore (lv' := [(7, .long (lI ((bw (kb bk)) - kg))), (5, .long (lI (bw (kb bk)))), (4, .int (iI bk)), (0, .ref h), (1, .int (iI 2)), (2, .int (iI kg)), (3, .int (iI tm))]) hx hb dX7_weigh_100 hl (by decide) rfl (fun ls hl => ?_)
                refine lv_iload_n hx hb dX7_weigh_102 rfl (lv_at hl 4 rfl) ?_
                refine lv_iconst (v := iI 2) hx hb dX7_weigh_103 rfl ?_
                refine wk_icmp_ge (tgt := 136) hx hb dX7_weigh_104 (by decide) (by omega) (fun c_11 => ?_) (fun c_11 => ?_)
                · skip
                  refine lv_aload_n hx hb dX7_weigh_136 rfl (lv_at hl 3 rfl) ?_
                  refine va_get (D := D) (ci := 7) (v := .ref hSt) (C := RX7) (T := TX7) (N := 25) hx hb hts (fun w h => (List.mem_cons_of_mem _ (hinX7 w h))) hown hK hP 0 rfl rfl 15 (by decide) (hts _ (List.mem_cons_of_mem _ wd_627)) (fun _ h9 => h9) rfl dX7_weigh_137 ?_
                  refine lv_iload hx hb dX7_weigh_140 (lv_at hl 2 rfl) ?_
                  refine lv_iconst (v := iI 2) hx hb dX7_weigh_142 rfl ?_
                  refine wk_iast hx hb hK hP hD hS 3 0 rfl rfl (by decide) (by omega) dX7_weigh_143 (ws' := [(h, .inr (7, [.int (iI 0), .int (iI sn), .int (iI sm), .int (iI tm), .ref hRo, .int (iI rn), .int (iI bn), .ref hNu, .ref hWe, .ref hDa, .ref hVe, .int (iI kn), .ref hSl, .ref hTr, .ref hBx, .ref hSt, .ref hLa, .ref hOr, .ref hSi, .ref hTu, .int (iI cm), .int (iI al), .int (iI lg), .int (iI tt), .int (iI dn)])), (hWe, .inl (kI, 20, .inl (iF bw))), (hBx, .inl (kI, 61, .inl (iF kb))), (hSt, .inl (kI, 61, .inl (iF (iu kz bk 2)))), (hLa, .inl (kI, 61, .inl (iF kl))), (hOr, .inl (kI, 61, .inl (iF mo))), (hSi, .inl (kI, 61, .inl (iF kc))), (hTu, .inl (kI, 61, .inl (iF mt)))]) rfl (fun H locs hP hD hS => ?_)
                  refine lv_aload_n hx hb dX7_weigh_144 rfl (lv_at hl 3 rfl) ?_
                  refine va_get (D := D) (ci := 7) (v := .ref hTu) (C := RX7) (T := TX7) (N := 25) hx hb hts (fun w h => (List.mem_cons_of_mem _ (hinX7 w h))) hown hK hP 0 rfl rfl 19 (by decide) (hts _ (List.mem_cons_of_mem _ wd_631)) (fun _ h9 => h9) rfl dX7_weigh_145 ?_
                  refine lv_iload hx hb dX7_weigh_148 (lv_at hl 2 rfl) ?_
                  refine lv_aload_n hx hb dX7_weigh_150 rfl (lv_at hl 3 rfl) ?_
                  refine va_get (D := D) (ci := 7) (v := .int (iI tm)) (C := RX7) (T := TX7) (N := 25) hx hb hts (fun w h => (List.mem_cons_of_mem _ (hinX7 w h))) hown hK hP 0 rfl rfl 3 (by decide) (hts _ (List.mem_cons_of_mem _ wd_615)) (fun _ h9 => h9) rfl dX7_weigh_151 ?_
                  refine lv_aload_n hx hb dX7_weigh_154 rfl (lv_at hl 3 rfl) ?_
                  refine va_get (D := D) (ci := 7) (v := .ref hSi) (C := RX7) (T := TX7) (N := 25) hx hb hts (fun w h => (List.mem_cons_of_mem _ (hinX7 w h))) hown hK hP 0 rfl rfl 18 (by decide) (hts _ (List.mem_cons_of_mem _ wd_630)) (fun _ h9 => h9) rfl dX7_weigh_155 ?_
                  refine lv_iload hx hb dX7_weigh_158 (lv_at hl 2 rfl) ?_
                  refine wk_iald hx hb hK hP 6 0 rfl rfl (by decide) (by omega) dX7_weigh_160 ?_
                  have b_12 := hkc bk
                  refine wk_isub hx hb dX7_weigh_161 ?_
                  refine wk_iast hx hb hK hP hD hS 7 0 rfl rfl (by decide) (by omega) dX7_weigh_162 (ws' := [(h, .inr (7, [.int (iI 0), .int (iI sn), .int (iI sm), .int (iI tm), .ref hRo, .int (iI rn), .int (iI bn), .ref hNu, .ref hWe, .ref hDa, .ref hVe, .int (iI kn), .ref hSl, .ref hTr, .ref hBx, .ref hSt, .ref hLa, .ref hOr, .ref hSi, .ref hTu, .int (iI cm), .int (iI al), .int (iI lg), .int (iI tt), .int (iI dn)])), (hWe, .inl (kI, 20, .inl (iF bw))), (hBx, .inl (kI, 61, .inl (iF kb))), (hSt, .inl (kI, 61, .inl (iF (iu kz bk 2)))), (hLa, .inl (kI, 61, .inl (iF kl))), (hOr, .inl (kI, 61, .inl (iF mo))), (hSi, .inl (kI, 61, .inl (iF kc))), (hTu, .inl (kI, 61, .inl (iF (iu mt bk (tm - (kc bk))))))]) rfl (fun H locs hP hD hS => ?_)
                  refine lv_aload_n hx hb dX7_weigh_163 rfl (lv_at hl 3 rfl) ?_
                  refine lv_aload_n hx hb dX7_weigh_164 rfl (lv_at hl 3 rfl) ?_
                  refine va_get (D := D) (ci := 7) (v := .ref hTu) (C := RX7) (T := TX7) (N := 25) hx hb hts (fun w h => (List.mem_cons_of_mem _ (hinX7 w h))) hown hK hP 0 rfl rfl 19 (by decide) (hts _ (List.mem_cons_of_mem _ wd_631)) (fun _ h9 => h9) rfl dX7_weigh_165 ?_
                  refine lv_iload hx hb dX7_weigh_168 (lv_at hl 2 rfl) ?_
                  refine wk_iald hx hb hK hP 7 0 rfl rfl (by decide) (by omega) dX7_weigh_170 ?_
                  refine wk_eqi (show iI ((iu mt bk (tm - (kc bk))) bk) = iI (tm - kc bk) by rw [iu_at]) ?_
                  refine lv_aload_n hx hb dX7_weigh_171 rfl (lv_at hl 3 rfl) ?_
                  refine va_get (D := D) (ci := 7) (v := .int (iI lg)) (C := RX7) (T := TX7) (N := 25) hx hb hts (fun w h => (List.mem_cons_of_mem _ (hinX7 w h))) hown hK hP 0 rfl rfl 22 (by decide) (hts _ (List.mem_cons_of_mem _ wd_634)) (fun _ h9 => h9) rfl dX7_weigh_172 ?_
                  refine wk_icmp_le (tgt := 188) hx hb dX7_weigh_175 (by decide) (by omega) (fun c_13 => ?_) (fun c_13 => ?_)
                  · skip
                    refine lv_aload_n hx hb dX7_weigh_188 rfl (lv_at hl 3 rfl) ?_
                    refine va_get (D := D) (ci := 7) (v := .int (iI lg)) (C := RX7) (T := TX7) (N := 25) hx hb hts (fun w h => (List.mem_cons_of_mem _ (hinX7 w h))) hown hK hP 0 rfl rfl 22 (by decide) (hts _ (List.mem_cons_of_mem _ wd_634)) (fun _ h9 => h9) rfl dX7_weigh_189 ?_
                    refine wk_put (ci := 7) (C := RX7) (T := TX7) (N := 25) hx hb hts (fun w h => (List.mem_cons_of_mem _ (hinX7 w h))) tyX7 tyX7_ok nmX7 hown hK hP hD hS 0 rfl rfl 22 (by decide) (hts _ (List.mem_cons_of_mem _ wd_634)) (fun _ h9 => h9) rfl rfl (Nat.le_of_ble_eq_true rfl) dX7_weigh_192 (ws' := [(h, .inr (7, [.int (iI 0), .int (iI sn), .int (iI sm), .int (iI tm), .ref hRo, .int (iI rn), .int (iI bn), .ref hNu, .ref hWe, .ref hDa, .ref hVe, .int (iI kn), .ref hSl, .ref hTr, .ref hBx, .ref hSt, .ref hLa, .ref hOr, .ref hSi, .ref hTu, .int (iI cm), .int (iI al), .int (iI lg), .int (iI tt), .int (iI dn)])), (hWe, .inl (kI, 20, .inl (iF bw))), (hBx, .inl (kI, 61, .inl (iF kb))), (hSt, .inl (kI, 61, .inl (iF (iu kz bk 2)))), (hLa, .inl (kI, 61, .inl (iF kl))), (hOr, .inl (kI, 61, .inl (iF mo))), (hSi, .inl (kI, 61, .inl (iF kc))), (hTu, .inl (kI, 61, .inl (iF (iu mt bk (tm - (kc bk))))))]) rfl (fun H locs hP hD hS => ?_)
                    refine lv_aload_n hx hb dX7_weigh_195 rfl (lv_at hl 3 rfl) ?_
                    refine lv_dup hx hb dX7_weigh_196 rfl ?_
                    refine va_get (D := D) (ci := 7) (v := .int (iI tt)) (C := RX7) (T := TX7) (N := 25) hx hb hts (fun w h => (List.mem_cons_of_mem _ (hinX7 w h))) hown hK hP 0 rfl rfl 23 (by decide) (hts _ (List.mem_cons_of_mem _ wd_635)) (fun _ h9 => h9) rfl dX7_weigh_197 ?_
                    refine lv_aload_n hx hb dX7_weigh_200 rfl (lv_at hl 3 rfl) ?_
                    refine va_get (D := D) (ci := 7) (v := .ref hTu) (C := RX7) (T := TX7) (N := 25) hx hb hts (fun w h => (List.mem_cons_of_mem _ (hinX7 w h))) hown hK hP 0 rfl rfl 19 (by decide) (hts _ (List.mem_cons_of_mem _ wd_631)) (fun _ h9 => h9) rfl dX7_weigh_201 ?_
                    refine lv_iload hx hb dX7_weigh_204 (lv_at hl 2 rfl) ?_
                    refine wk_iald hx hb hK hP 7 0 rfl rfl (by decide) (by omega) dX7_weigh_206 ?_
                    refine wk_eqi (show iI ((iu mt bk (tm - (kc bk))) bk) = iI (tm - kc bk) by rw [iu_at]) ?_
                    refine wk_iadd hx hb dX7_weigh_207 ?_
                    refine wk_put (ci := 7) (C := RX7) (T := TX7) (N := 25) hx hb hts (fun w h => (List.mem_cons_of_mem _ (hinX7 w h))) tyX7 tyX7_ok nmX7 hown hK hP hD hS 0 rfl rfl 23 (by decide) (hts _ (List.mem_cons_of_mem _ wd_635)) (fun _ h9 => h9) rfl rfl (Nat.le_of_ble_eq_true rfl) dX7_weigh_208 (ws' := [(h, .inr (7, [.int (iI 0), .int (iI sn), .int (iI sm), .int (iI tm), .ref hRo, .int (iI rn), .int (iI bn), .ref hNu, .ref hWe, .ref hDa, .ref hVe, .int (iI kn), .ref hSl, .ref hTr, .ref hBx, .ref hSt, .ref hLa, .ref hOr, .ref hSi, .ref hTu, .int (iI cm), .int (iI al), .int (iI lg), .int (iI (tt + (tm - kc bk))), .int (iI dn)])), (hWe, .inl (kI, 20, .inl (iF bw))), (hBx, .inl (kI, 61, .inl (iF kb))), (hSt, .inl (kI, 61, .inl (iF (iu kz bk 2)))), (hLa, .inl (kI, 61, .inl (iF kl))), (hOr, .inl (kI, 61, .inl (iF mo))), (hSi, .inl (kI, 61, .inl (iF kc))), (hTu, .inl (kI, 61, .inl (iF (iu mt bk (tm - (kc bk))))))]) rfl (fun H locs hP hD hS => ?_)
                    refine lv_aload_n hx hb dX7_weigh_211 rfl (lv_at hl 3 rfl) ?_
                    refine lv_dup hx hb dX7_weigh_212 rfl ?_
                    refine va_get (D := D) (ci := 7) (v := .int (iI dn)) (C := RX7) (T := TX7) (N := 25) hx hb hts (fun w h => (List.mem_cons_of_mem _ (hinX7 w h))) hown hK hP 0 rfl rfl 24 (by decide) (hts _ (List.mem_cons_of_mem _ wd_636)) (fun _ h9 => h9) rfl dX7_weigh_213 ?_
                    refine lv_iconst (v := iI 1) hx hb dX7_weigh_216 rfl ?_
                    refine wk_iadd hx hb dX7_weigh_217 ?_
                    refine wk_put (ci := 7) (C := RX7) (T := TX7) (N := 25) hx hb hts (fun w h => (List.mem_cons_of_mem _ (hinX7 w h))) tyX7 tyX7_ok nmX7 hown hK hP hD hS 0 rfl rfl 24 (by decide) (hts _ (List.mem_cons_of_mem _ wd_636)) (fun _ h9 => h9) rfl rfl (Nat.le_of_ble_eq_true rfl) dX7_weigh_218 (ws' := [(h, .inr (7, [.int (iI 0), .int (iI sn), .int (iI sm), .int (iI tm), .ref hRo, .int (iI rn), .int (iI bn), .ref hNu, .ref hWe, .ref hDa, .ref hVe, .int (iI kn), .ref hSl, .ref hTr, .ref hBx, .ref hSt, .ref hLa, .ref hOr, .ref hSi, .ref hTu, .int (iI cm), .int (iI al), .int (iI lg), .int (iI (tt + (tm - kc bk))), .int (iI (dn + 1))])), (hWe, .inl (kI, 20, .inl (iF bw))), (hBx, .inl (kI, 61, .inl (iF kb))), (hSt, .inl (kI, 61, .inl (iF (iu kz bk 2)))), (hLa, .inl (kI, 61, .inl (iF kl))), (hOr, .inl (kI, 61, .inl (iF mo))), (hSi, .inl (kI, 61, .inl (iF kc))), (hTu, .inl (kI, 61, .inl (iF (iu mt bk (tm - (kc bk))))))]) rfl (fun H locs hP hD hS => ?_)
                    refine lv_iload hx hb dX7_weigh_221 (lv_at hl 2 rfl) ?_
                    exact rk_int hx hb hr hlocks hK hP hD hS (by first | rfl | omega) (by first | rw [Int.max_eq_right (by omega)] | rw [Int.max_eq_left (by omega)]) dX7_weigh_223
                  · skip
                    refine lv_aload_n hx hb dX7_weigh_178 rfl (lv_at hl 3 rfl) ?_
                    refine va_get (D := D) (ci := 7) (v := .ref hTu) (C := RX7) (T := TX7) (N := 25) hx hb hts (fun w h => (List.mem_cons_of_mem _ (hinX7 w h))) hown hK hP 0 rfl rfl 19 (by decide) (hts _ (List.mem_cons_of_mem _ wd_631)) (fun _ h9 => h9) rfl dX7_weigh_179 ?_
                    refine lv_iload hx hb dX7_weigh_182 (lv_at hl 2 rfl) ?_
                    refine wk_iald hx hb hK hP 7 0 rfl rfl (by decide) (by omega) dX7_weigh_184 ?_
                    refine wk_eqi (show iI ((iu mt bk (tm - (kc bk))) bk) = iI (tm - kc bk) by rw [iu_at]) ?_
                    refine lv_goto (tgt := 192) hx hb dX7_weigh_185 (by decide) ?_
                    refine wk_put (ci := 7) (C := RX7) (T := TX7) (N := 25) hx hb hts (fun w h => (List.mem_cons_of_mem _ (hinX7 w h))) tyX7 tyX7_ok nmX7 hown hK hP hD hS 0 rfl rfl 22 (by decide) (hts _ (List.mem_cons_of_mem _ wd_634)) (fun _ h9 => h9) rfl rfl (Nat.le_of_ble_eq_true rfl) dX7_weigh_192 (ws' := [(h, .inr (7, [.int (iI 0), .int (iI sn), .int (iI sm), .int (iI tm), .ref hRo, .int (iI rn), .int (iI bn), .ref hNu, .ref hWe, .ref hDa, .ref hVe, .int (iI kn), .ref hSl, .ref hTr, .ref hBx, .ref hSt, .ref hLa, .ref hOr, .ref hSi, .ref hTu, .int (iI cm), .int (iI al), .int (iI (tm - kc bk)), .int (iI tt), .int (iI dn)])), (hWe, .inl (kI, 20, .inl (iF bw))), (hBx, .inl (kI, 61, .inl (iF kb))), (hSt, .inl (kI, 61, .inl (iF (iu kz bk 2)))), (hLa, .inl (kI, 61, .inl (iF kl))), (hOr, .inl (kI, 61, .inl (iF mo))), (hSi, .inl (kI, 61, .inl (iF kc))), (hTu, .inl (kI, 61, .inl (iF (iu mt bk (tm - (kc bk))))))]) rfl (fun H locs hP hD hS => ?_)
                    refine lv_aload_n hx hb dX7_weigh_195 rfl (lv_at hl 3 rfl) ?_
                    refine lv_dup hx hb dX7_weigh_196 rfl ?_
                    refine va_get (D := D) (ci := 7) (v := .int (iI tt)) (C := RX7) (T := TX7) (N := 25) hx hb hts (fun w h => (List.mem_cons_of_mem _ (hinX7 w h))) hown hK hP 0 rfl rfl 23 (by decide) (hts _ (List.mem_cons_of_mem _ wd_635)) (fun _ h9 => h9) rfl dX7_weigh_197 ?_
                    refine lv_aload_n hx hb dX7_weigh_200 rfl (lv_at hl 3 rfl) ?_
                    refine va_get (D := D) (ci := 7) (v := .ref hTu) (C := RX7) (T := TX7) (N := 25) hx hb hts (fun w h => (List.mem_cons_of_mem _ (hinX7 w h))) hown hK hP 0 rfl rfl 19 (by decide) (hts _ (List.mem_cons_of_mem _ wd_631)) (fun _ h9 => h9) rfl dX7_weigh_201 ?_
                    refine lv_iload hx hb dX7_weigh_204 (lv_at hl 2 rfl) ?_
                    refine wk_iald hx hb hK hP 7 0 rfl rfl (by decide) (by omega) dX7_weigh_206 ?_
                    refine wk_eqi (show iI ((iu mt bk (tm - (kc bk))) bk) = iI (tm - kc bk) by rw [iu_at]) ?_
                    refine wk_iadd hx hb dX7_weigh_207 ?_
                    refine wk_put (ci := 7) (C := RX7) (T := TX7) (N := 25) hx hb hts (fun w h => (List.mem_cons_of_mem _ (hinX7 w h))) tyX7 tyX7_ok nmX7 hown hK hP hD hS 0 rfl rfl 23 (by decide) (hts _ (List.mem_cons_of_mem _ wd_635)) (fun _ h9 => h9) rfl rfl (Nat.le_of_ble_eq_true rfl) dX7_weigh_208 (ws' := [(h, .inr (7, [.int (iI 0), .int (iI sn), .int (iI sm), .int (iI tm), .ref hRo, .int (iI rn), .int (iI bn), .ref hNu, .ref hWe, .ref hDa, .ref hVe, .int (iI kn), .ref hSl, .ref hTr, .ref hBx, .ref hSt, .ref hLa, .ref hOr, .ref hSi, .ref hTu, .int (iI cm), .int (iI al), .int (iI (tm - kc bk)), .int (iI (tt + (tm - kc bk))), .int (iI dn)])), (hWe, .inl (kI, 20, .inl (iF bw))), (hBx, .inl (kI, 61, .inl (iF kb))), (hSt, .inl (kI, 61, .inl (iF (iu kz bk 2)))), (hLa, .inl (kI, 61, .inl (iF kl))), (hOr, .inl (kI, 61, .inl (iF mo))), (hSi, .inl (kI, 61, .inl (iF kc))), (hTu, .inl (kI, 61, .inl (iF (iu mt bk (tm - (kc bk))))))]) rfl (fun H locs hP hD hS => ?_)
                    refine lv_aload_n hx hb dX7_weigh_211 rfl (lv_at hl 3 rfl) ?_
                    refine lv_dup hx hb dX7_weigh_212 rfl ?_
                    refine va_get (D := D) (ci := 7) (v := .int (iI dn)) (C := RX7) (T := TX7) (N := 25) hx hb hts (fun w h => (List.mem_cons_of_mem _ (hinX7 w h))) hown hK hP 0 rfl rfl 24 (by decide) (hts _ (List.mem_cons_of_mem _ wd_636)) (fun _ h9 => h9) rfl dX7_weigh_213 ?_
                    refine lv_iconst (v := iI 1) hx hb dX7_weigh_216 rfl ?_
                    refine wk_iadd hx hb dX7_weigh_217 ?_
                    refine wk_put (ci := 7) (C := RX7) (T := TX7) (N := 25) hx hb hts (fun w h => (List.mem_cons_of_mem _ (hinX7 w h))) tyX7 tyX7_ok nmX7 hown hK hP hD hS 0 rfl rfl 24 (by decide) (hts _ (List.mem_cons_of_mem _ wd_636)) (fun _ h9 => h9) rfl rfl (Nat.le_of_ble_eq_true rfl) dX7_weigh_218 (ws' := [(h, .inr (7, [.int (iI 0), .int (iI sn), .int (iI sm), .int (iI tm), .ref hRo, .int (iI rn), .int (iI bn), .ref hNu, .ref hWe, .ref hDa, .ref hVe, .int (iI kn), .ref hSl, .ref hTr, .ref hBx, .ref hSt, .ref hLa, .ref hOr, .ref hSi, .ref hTu, .int (iI cm), .int (iI al), .int (iI (tm - kc bk)), .int (iI (tt + (tm - kc bk))), .int (iI (dn + 1))])), (hWe, .inl (kI, 20, .inl (iF bw))), (hBx, .inl (kI, 61, .inl (iF kb))), (hSt, .inl (kI, 61, .inl (iF (iu kz bk 2)))), (hLa, .inl (kI, 61, .inl (iF kl))), (hOr, .inl (kI, 61, .inl (iF mo))), (hSi, .inl (kI, 61, .inl (iF kc))), (hTu, .inl (kI, 61, .inl (iF (iu mt bk (tm - (kc bk))))))]) rfl (fun H locs hP hD hS => ?_)
                    refine lv_iload hx hb dX7_weigh_221 (lv_at hl 2 rfl) ?_
                    exact rk_int hx hb hr hlocks hK hP hD hS (by first | rfl | omega) (by first | rw [Int.max_eq_right (by omega)] | rw [Int.max_eq_left (by omega)]) dX7_weigh_223
                · skip
                  exfalso; omega
              · skip
                refine lv_iload_n hx hb dX7_weigh_87 rfl (lv_at hl 4 rfl) ?_
                refine wk_i2l hx hb (by omega) dX7_weigh_88 ?_
                refine lv_lload hx hb dX7_weigh_89 (lv_at hl 0 rfl) ?_
                refine wk_lsub hx hb dX7_weigh_91 ?_
                refine lv_goto (tgt := 100) hx hb dX7_weigh_92 (by decide) ?_
                refine lv_lstore (lv' := [(7, .long (lI (kg - (bw (kb bk))))), (5, .long (lI (bw (kb bk)))), (4, .int (iI bk)), (0, .ref h), (1, .int (iI 2)), (2, .int (iI kg)), (3, .int (iI tm))]) hx hb dX7_weigh_100 hl (by decide) rfl (fun ls hl => ?_)
                refine lv_iload_n hx hb dX7_weigh_102 rfl (lv_at hl 4 rfl) ?_
                refine lv_iconst (v := iI 2) hx hb dX7_weigh_103 rfl ?_
                refine wk_icmp_ge (tgt := 136) hx hb dX7_weigh_104 (by decide) (by omega) (fun c_14 => ?_) (fun c_14 => ?_)
                · skip
                  refine lv_aload_n hx hb dX7_weigh_136 rfl (lv_at hl 3 rfl) ?_
                  refine va_get (D := D) (ci := 7) (v := .ref hSt) (C := RX7) (T := TX7) (N := 25) hx hb hts (fun w h => (List.mem_cons_of_mem _ (hinX7 w h))) hown hK hP 0 rfl rfl 15 (by decide) (hts _ (List.mem_cons_of_mem _ wd_627)) (fun _ h9 => h9) rfl dX7_weigh_137 ?_
                  refine lv_iload hx hb dX7_weigh_140 (lv_at hl 2 rfl) ?_
                  refine lv_iconst (v := iI 2) hx hb dX7_weigh_142 rfl ?_
                  refine wk_iast hx hb hK hP hD hS 3 0 rfl rfl (by decide) (by omega) dX7_weigh_143 (ws' := [(h, .inr (7, [.int (iI 0), .int (iI sn), .int (iI sm), .int (iI tm), .ref hRo, .int (iI rn), .int (iI bn), .ref hNu, .ref hWe, .ref hDa, .ref hVe, .int (iI kn), .ref hSl, .ref hTr, .ref hBx, .ref hSt, .ref hLa, .ref hOr, .ref hSi, .ref hTu, .int (iI cm), .int (iI al), .int (iI lg), .int (iI tt), .int (iI dn)])), (hWe, .inl (kI, 20, .inl (iF bw))), (hBx, .inl (kI, 61, .inl (iF kb))), (hSt, .inl (kI, 61, .inl (iF (iu kz bk 2)))), (hLa, .inl (kI, 61, .inl (iF kl))), (hOr, .inl (kI, 61, .inl (iF mo))), (hSi, .inl (kI, 61, .inl (iF kc))), (hTu, .inl (kI, 61, .inl (iF mt)))]) rfl (fun H locs hP hD hS => ?_)
                  refine lv_aload_n hx hb dX7_weigh_144 rfl (lv_at hl 3 rfl) ?_
                  refine va_get (D := D) (ci := 7) (v := .ref hTu) (C := RX7) (T := TX7) (N := 25) hx hb hts (fun w h => (List.mem_cons_of_mem _ (hinX7 w h))) hown hK hP 0 rfl rfl 19 (by decide) (hts _ (List.mem_cons_of_mem _ wd_631)) (fun _ h9 => h9) rfl dX7_weigh_145 ?_
                  refine lv_iload hx hb dX7_weigh_148 (lv_at hl 2 rfl) ?_
                  refine lv_aload_n hx hb dX7_weigh_150 rfl (lv_at hl 3 rfl) ?_
                  refine va_get (D := D) (ci := 7) (v := .int (iI tm)) (C := RX7) (T := TX7) (N := 25) hx hb hts (fun w h => (List.mem_cons_of_mem _ (hinX7 w h))) hown hK hP 0 rfl rfl 3 (by decide) (hts _ (List.mem_cons_of_mem _ wd_615)) (fun _ h9 => h9) rfl dX7_weigh_151 ?_
                  refine lv_aload_n hx hb dX7_weigh_154 rfl (lv_at hl 3 rfl) ?_
                  refine va_get (D := D) (ci := 7) (v := .ref hSi) (C := RX7) (T := TX7) (N := 25) hx hb hts (fun w h => (List.mem_cons_of_mem _ (hinX7 w h))) hown hK hP 0 rfl rfl 18 (by decide) (hts _ (List.mem_cons_of_mem _ wd_630)) (fun _ h9 => h9) rfl dX7_weigh_155 ?_
                  refine lv_iload hx hb dX7_weigh_158 (lv_at hl 2 rfl) ?_
                  refine wk_iald hx hb hK hP 6 0 rfl rfl (by decide) (by omega) dX7_weigh_160 ?_
                  have b_15 := hkc bk
                  refine wk_isub hx hb dX7_weigh_161 ?_
                  refine wk_iast hx hb hK hP hD hS 7 0 rfl rfl (by decide) (by omega) dX7_weigh_162 (ws' := [(h, .inr (7, [.int (iI 0), .int (iI sn), .int (iI sm), .int (iI tm), .ref hRo, .int (iI rn), .int (iI bn), .ref hNu, .ref hWe, .ref hDa, .ref hVe, .int (iI kn), .ref hSl, .ref hTr, .ref hBx, .ref hSt, .ref hLa, .ref hOr, .ref hSi, .ref hTu, .int (iI cm), .int (iI al), .int (iI lg), .int (iI tt), .int (iI dn)])), (hWe, .inl (kI, 20, .inl (iF bw))), (hBx, .inl (kI, 61, .inl (iF kb))), (hSt, .inl (kI, 61, .inl (iF (iu kz bk 2)))), (hLa, .inl (kI, 61, .inl (iF kl))), (hOr, .inl (kI, 61, .inl (iF mo))), (hSi, .inl (kI, 61, .inl (iF kc))), (hTu, .inl (kI, 61, .inl (iF (iu mt bk (tm - (kc bk))))))]) rfl (fun H locs hP hD hS => ?_)
                  refine lv_aload_n hx hb dX7_weigh_163 rfl (lv_at hl 3 rfl) ?_
                  refine lv_aload_n hx hb dX7_weigh_164 rfl (lv_at hl 3 rfl) ?_
                  refine va_get (D := D) (ci := 7) (v := .ref hTu) (C := RX7) (T := TX7) (N := 25) hx hb hts (fun w h => (List.mem_cons_of_mem _ (hinX7 w h))) hown hK hP 0 rfl rfl 19 (by decide) (hts _ (List.mem_cons_of_mem _ wd_631)) (fun _ h9 => h9) rfl dX7_weigh_165 ?_
                  refine lv_iload hx hb dX7_weigh_168 (lv_at hl 2 rfl) ?_
                  refine wk_iald hx hb hK hP 7 0 rfl rfl (by decide) (by omega) dX7_weigh_170 ?_
                  refine wk_eqi (show iI ((iu mt bk (tm - (kc bk))) bk) = iI (tm - kc bk) by rw [iu_at]) ?_
                  refine lv_aload_n hx hb dX7_weigh_171 rfl (lv_at hl 3 rfl) ?_
                  refine va_get (D := D) (ci := 7) (v := .int (iI lg)) (C := RX7) (T := TX7) (N := 25) hx hb hts (fun w h => (List.mem_cons_of_mem _ (hinX7 w h))) hown hK hP 0 rfl rfl 22 (by decide) (hts _ (List.mem_cons_of_mem _ wd_634)) (fun _ h9 => h9) rfl dX7_weigh_172 ?_
                  refine wk_icmp_le (tgt := 188) hx hb dX7_weigh_175 (by decide) (by omega) (fun c_16 => ?_) (fun c_16 => ?_)
                  · skip
                    refine lv_aload_n hx hb dX7_weigh_188 rfl (lv_at hl 3 rfl) ?_
                    refine va_get (D := D) (ci := 7) (v := .int (iI lg)) (C := RX7) (T := TX7) (N := 25) hx hb hts (fun w h => (List.mem_cons_of_mem _ (hinX7 w h))) hown hK hP 0 rfl rfl 22 (by decide) (hts _ (List.mem_cons_of_mem _ wd_634)) (fun _ h9 => h9) rfl dX7_weigh_189 ?_
                    refine wk_put (ci := 7) (C := RX7) (T := TX7) (N := 25) hx hb hts (fun w h => (List.mem_cons_of_mem _ (hinX7 w h))) tyX7 tyX7_ok nmX7 hown hK hP hD hS 0 rfl rfl 22 (by decide) (hts _ (List.mem_cons_of_mem _ wd_634)) (fun _ h9 => h9) rfl rfl (Nat.le_of_ble_eq_true rfl) dX7_weigh_192 (ws' := [(h, .inr (7, [.int (iI 0), .int (iI sn), .int (iI sm), .int (iI tm), .ref hRo, .int (iI rn), .int (iI bn), .ref hNu, .ref hWe, .ref hDa, .ref hVe, .int (iI kn), .ref hSl, .ref hTr, .ref hBx, .ref hSt, .ref hLa, .ref hOr, .ref hSi, .ref hTu, .int (iI cm), .int (iI al), .int (iI lg), .int (iI tt), .int (iI dn)])), (hWe, .inl (kI, 20, .inl (iF bw))), (hBx, .inl (kI, 61, .inl (iF kb))), (hSt, .inl (kI, 61, .inl (iF (iu kz bk 2)))), (hLa, .inl (kI, 61, .inl (iF kl))), (hOr, .inl (kI, 61, .inl (iF mo))), (hSi, .inl (kI, 61, .inl (iF kc))), (hTu, .inl (kI, 61, .inl (iF (iu mt bk (tm - (kc bk))))))]) rfl (fun H locs hP hD hS => ?_)
                    refine lv_aload_n hx hb dX7_weigh_195 rfl (lv_at hl 3 rfl) ?_
                    refine lv_dup hx hb dX7_weigh_196 rfl ?_
                    refine va_get (D := D) (ci := 7) (v := .int (iI tt)) (C := RX7) (T := TX7) (N := 25) hx hb hts (fun w h => (List.mem_cons_of_mem _ (hinX7 w h))) hown hK hP 0 rfl rfl 23 (by decide) (hts _ (List.mem_cons_of_mem _ wd_635)) (fun _ h9 => h9) rfl dX7_weigh_197 ?_
                    refine lv_aload_n hx hb dX7_weigh_200 rfl (lv_at hl 3 rfl) ?_
                    refine va_get (D := D) (ci := 7) (v := .ref hTu) (C := RX7) (T := TX7) (N := 25) hx hb hts (fun w h => (List.mem_cons_of_mem _ (hinX7 w h))) hown hK hP 0 rfl rfl 19 (by decide) (hts _ (List.mem_cons_of_mem _ wd_631)) (fun _ h9 => h9) rfl dX7_weigh_201 ?_
                    refine lv_iload hx hb dX7_weigh_204 (lv_at hl 2 rfl) ?_
                    refine wk_iald hx hb hK hP 7 0 rfl rfl (by decide) (by omega) dX7_weigh_206 ?_
                    refine wk_eqi (show iI ((iu mt bk (tm - (kc bk))) bk) = iI (tm - kc bk) by rw [iu_at]) ?_
                    refine wk_iadd hx hb dX7_weigh_207 ?_
                    refine wk_put (ci := 7) (C := RX7) (T := TX7) (N := 25) hx hb hts (fun w h => (List.mem_cons_of_mem _ (hinX7 w h))) tyX7 tyX7_ok nmX7 hown hK hP hD hS 0 rfl rfl 23 (by decide) (hts _ (List.mem_cons_of_mem _ wd_635)) (fun _ h9 => h9) rfl rfl (Nat.le_of_ble_eq_true rfl) dX7_weigh_208 (ws' := [(h, .inr (7, [.int (iI 0), .int (iI sn), .int (iI sm), .int (iI tm), .ref hRo, .int (iI rn), .int (iI bn), .ref hNu, .ref hWe, .ref hDa, .ref hVe, .int (iI kn), .ref hSl, .ref hTr, .ref hBx, .ref hSt, .ref hLa, .ref hOr, .ref hSi, .ref hTu, .int (iI cm), .int (iI al), .int (iI lg), .int (iI (tt + (tm - kc bk))), .int (iI dn)])), (hWe, .inl (kI, 20, .inl (iF bw))), (hBx, .inl (kI, 61, .inl (iF kb))), (hSt, .inl (kI, 61, .inl (iF (iu kz bk 2)))), (hLa, .inl (kI, 61, .inl (iF kl))), (hOr, .inl (kI, 61, .inl (iF mo))), (hSi, .inl (kI, 61, .inl (iF kc))), (hTu, .inl (kI, 61, .inl (iF (iu mt bk (tm - (kc bk))))))]) rfl (fun H locs hP hD hS => ?_)
                    refine lv_aload_n hx hb dX7_weigh_211 rfl (lv_at hl 3 rfl) ?_
                    refine lv_dup hx hb dX7_weigh_212 rfl ?_
                    refine va_get (D := D) (ci := 7) (v := .int (iI dn)) (C := RX7) (T := TX7) (N := 25) hx hb hts (fun w h => (List.mem_cons_of_mem _ (hinX7 w h))) hown hK hP 0 rfl rfl 24 (by decide) (hts _ (List.mem_cons_of_mem _ wd_636)) (fun _ h9 => h9) rfl dX7_weigh_213 ?_
                    refine lv_iconst (v := iI 1) hx hb dX7_weigh_216 rfl ?_
                    refine wk_iadd hx hb dX7_weigh_217 ?_
                    refine wk_put (ci := 7) (C := RX7) (T := TX7) (N := 25) hx hb hts (fun w h => (List.mem_cons_of_mem _ (hinX7 w h))) tyX7 tyX7_ok nmX7 hown hK hP hD hS 0 rfl rfl 24 (by decide) (hts _ (List.mem_cons_of_mem _ wd_636)) (fun _ h9 => h9) rfl rfl (Nat.le_of_ble_eq_true rfl) dX7_weigh_218 (ws' := [(h, .inr (7, [.int (iI 0), .int (iI sn), .int (iI sm), .int (iI tm), .ref hRo, .int (iI rn), .int (iI bn), .ref hNu, .ref hWe, .ref hDa, .ref hVe, .int (iI kn), .ref hSl, .ref hTr, .ref hBx, .ref hSt, .ref hLa, .ref hOr, .ref hSi, .ref hTu, .int (iI cm), .int (iI al), .int (iI lg), .int (iI (tt + (tm - kc bk))), .int (iI (dn + 1))])), (hWe, .inl (kI, 20, .inl (iF bw))), (hBx, .inl (kI, 61, .inl (iF kb))), (hSt, .inl (kI, 61, .inl (iF (iu kz bk 2)))), (hLa, .inl (kI, 61, .inl (iF kl))), (hOr, .inl (kI, 61, .inl (iF mo))), (hSi, .inl (kI, 61, .inl (iF kc))), (hTu, .inl (kI, 61, .inl (iF (iu mt bk (tm - (kc bk))))))]) rfl (fun H locs hP hD hS => ?_)
                    refine lv_iload hx hb dX7_weigh_221 (lv_at hl 2 rfl) ?_
                    exact rk_int hx hb hr hlocks hK hP hD hS (by first | rfl | omega) (by first | rw [Int.max_eq_right (by omega)] | rw [Int.max_eq_left (by omega)]) dX7_weigh_223
                  · skip
                    refine lv_aload_n hx hb dX7_weigh_178 rfl (lv_at hl 3 rfl) ?_
                    refine va_get (D := D) (ci := 7) (v := .ref hTu) (C := RX7) (T := TX7) (N := 25) hx hb hts (fun w h => (List.mem_cons_of_mem _ (hinX7 w h))) hown hK hP 0 rfl rfl 19 (by decide) (hts _ (List.mem_cons_of_mem _ wd_631)) (fun _ h9 => h9) rfl dX7_weigh_179 ?_
                    refine lv_iload hx hb dX7_weigh_182 (lv_at hl 2 rfl) ?_
                    refine wk_iald hx hb hK hP 7 0 rfl rfl (by decide) (by omega) dX7_weigh_184 ?_
                    refine wk_eqi (show iI ((iu mt bk (tm - (kc bk))) bk) = iI (tm - kc bk) by rw [iu_at]) ?_
                    refine lv_goto (tgt := 192) hx hb dX7_weigh_185 (by decide) ?_
                    refine wk_put (ci := 7) (C := RX7) (T := TX7) (N := 25) hx hb hts (fun w h => (List.mem_cons_of_mem _ (hinX7 w h))) tyX7 tyX7_ok nmX7 hown hK hP hD hS 0 rfl rfl 22 (by decide) (hts _ (List.mem_cons_of_mem _ wd_634)) (fun _ h9 => h9) rfl rfl (Nat.le_of_ble_eq_true rfl) dX7_weigh_192 (ws' := [(h, .inr (7, [.int (iI 0), .int (iI sn), .int (iI sm), .int (iI tm), .ref hRo, .int (iI rn), .int (iI bn), .ref hNu, .ref hWe, .ref hDa, .ref hVe, .int (iI kn), .ref hSl, .ref hTr, .ref hBx, .ref hSt, .ref hLa, .ref hOr, .ref hSi, .ref hTu, .int (iI cm), .int (iI al), .int (iI (tm - kc bk)), .int (iI tt), .int (iI dn)])), (hWe, .inl (kI, 20, .inl (iF bw))), (hBx, .inl (kI, 61, .inl (iF kb))), (hSt, .inl (kI, 61, .inl (iF (iu kz bk 2)))), (hLa, .inl (kI, 61, .inl (iF kl))), (hOr, .inl (kI, 61, .inl (iF mo))), (hSi, .inl (kI, 61, .inl (iF kc))), (hTu, .inl (kI, 61, .inl (iF (iu mt bk (tm - (kc bk))))))]) rfl (fun H locs hP hD hS => ?_)
                    refine lv_aload_n hx hb dX7_weigh_195 rfl (lv_at hl 3 rfl) ?_
                    refine lv_dup hx hb dX7_weigh_196 rfl ?_
                    refine va_get (D := D) (ci := 7) (v := .int (iI tt)) (C := RX7) (T := TX7) (N := 25) hx hb hts (fun w h => (List.mem_cons_of_mem _ (hinX7 w h))) hown hK hP 0 rfl rfl 23 (by decide) (hts _ (List.mem_cons_of_mem _ wd_635)) (fun _ h9 => h9) rfl dX7_weigh_197 ?_
                    refine lv_aload_n hx hb dX7_weigh_200 rfl (lv_at hl 3 rfl) ?_
                    refine va_get (D := D) (ci := 7) (v := .ref hTu) (C := RX7) (T := TX7) (N := 25) hx hb hts (fun w h => (List.mem_cons_of_mem _ (hinX7 w h))) hown hK hP 0 rfl rfl 19 (by decide) (hts _ (List.mem_cons_of_mem _ wd_631)) (fun _ h9 => h9) rfl dX7_weigh_201 ?_
                    refine lv_iload hx hb dX7_weigh_204 (lv_at hl 2 rfl) ?_
                    refine wk_iald hx hb hK hP 7 0 rfl rfl (by decide) (by omega) dX7_weigh_206 ?_
                    refine wk_eqi (show iI ((iu mt bk (tm - (kc bk))) bk) = iI (tm - kc bk) by rw [iu_at]) ?_
                    refine wk_iadd hx hb dX7_weigh_207 ?_
                    refine wk_put (ci := 7) (C := RX7) (T := TX7) (N := 25) hx hb hts (fun w h => (List.mem_cons_of_mem _ (hinX7 w h))) tyX7 tyX7_ok nmX7 hown hK hP hD hS 0 rfl rfl 23 (by decide) (hts _ (List.mem_cons_of_mem _ wd_635)) (fun _ h9 => h9) rfl rfl (Nat.le_of_ble_eq_true rfl) dX7_weigh_208 (ws' := [(h, .inr (7, [.int (iI 0), .int (iI sn), .int (iI sm), .int (iI tm), .ref hRo, .int (iI rn), .int (iI bn), .ref hNu, .ref hWe, .ref hDa, .ref hVe, .int (iI kn), .ref hSl, .ref hTr, .ref hBx, .ref hSt, .ref hLa, .ref hOr, .ref hSi, .ref hTu, .int (iI cm), .int (iI al), .int (iI (tm - kc bk)), .int (iI (tt + (tm - kc bk))), .int (iI dn)])), (hWe, .inl (kI, 20, .inl (iF bw))), (hBx, .inl (kI, 61, .inl (iF kb))), (hSt, .inl (kI, 61, .inl (iF (iu kz bk 2)))), (hLa, .inl (kI, 61, .inl (iF kl))), (hOr, .inl (kI, 61, .inl (iF mo))), (hSi, .inl (kI, 61, .inl (iF kc))), (hTu, .inl (kI, 61, .inl (iF (iu mt bk (tm - (kc bk))))))]) rfl (fun H locs hP hD hS => ?_)
                    refine lv_aload_n hx hb dX7_weigh_211 rfl (lv_at hl 3 rfl) ?_
                    refine lv_dup hx hb dX7_weigh_212 rfl ?_
                    refine va_get (D := D) (ci := 7) (v := .int (iI dn)) (C := RX7) (T := TX7) (N := 25) hx hb hts (fun w h => (List.mem_cons_of_mem _ (hinX7 w h))) hown hK hP 0 rfl rfl 24 (by decide) (hts _ (List.mem_cons_of_mem _ wd_636)) (fun _ h9 => h9) rfl dX7_weigh_213 ?_
                    refine lv_iconst (v := iI 1) hx hb dX7_weigh_216 rfl ?_
                    refine wk_iadd hx hb dX7_weigh_217 ?_
                    refine wk_put (ci := 7) (C := RX7) (T := TX7) (N := 25) hx hb hts (fun w h => (List.mem_cons_of_mem _ (hinX7 w h))) tyX7 tyX7_ok nmX7 hown hK hP hD hS 0 rfl rfl 24 (by decide) (hts _ (List.mem_cons_of_mem _ wd_636)) (fun _ h9 => h9) rfl rfl (Nat.le_of_ble_eq_true rfl) dX7_weigh_218 (ws' := [(h, .inr (7, [.int (iI 0), .int (iI sn), .int (iI sm), .int (iI tm), .ref hRo, .int (iI rn), .int (iI bn), .ref hNu, .ref hWe, .ref hDa, .ref hVe, .int (iI kn), .ref hSl, .ref hTr, .ref hBx, .ref hSt, .ref hLa, .ref hOr, .ref hSi, .ref hTu, .int (iI cm), .int (iI al), .int (iI (tm - kc bk)), .int (iI (tt + (tm - kc bk))), .int (iI (dn + 1))])), (hWe, .inl (kI, 20, .inl (iF bw))), (hBx, .inl (kI, 61, .inl (iF kb))), (hSt, .inl (kI, 61, .inl (iF (iu kz bk 2)))), (hLa, .inl (kI, 61, .inl (iF kl))), (hOr, .inl (kI, 61, .inl (iF mo))), (hSi, .inl (kI, 61, .inl (iF kc))), (hTu, .inl (kI, 61, .inl (iF (iu mt bk (tm - (kc bk))))))]) rfl (fun H locs hP hD hS => ?_)
                    refine lv_iload hx hb dX7_weigh_221 (lv_at hl 2 rfl) ?_
                    exact rk_int hx hb hr hlocks hK hP hD hS (by first | rfl | omega) (by first | rw [Int.max_eq_right (by omega)] | rw [Int.max_eq_left (by omega)]) dX7_weigh_223
                · skip
                  exfalso; omega
            · skip
              exfalso; omega
          · skip
            exfalso; omega
    · skip
      exfalso; omega

set_option maxHeartbeats 4000000 in
set_option maxRecDepth 100000 in
theorem tX7_weigh_d (l : Launch) (D : va_G) (kI : ClassId) (kZ : ClassId) (kL : ClassId) (kJ : ClassId) (h : Nat) (hRo : Nat) (hNu : Nat) (hWe : Nat) (hDa : Nat) (hVe : Nat) (hSl : Nat) (hTr : Nat) (hBx : Nat) (hSt : Nat) (hLa : Nat) (hOr : Nat) (hSi : Nat) (hTu : Nat) (bw : Int → Int) (kb : Int → Int) (kz : Int → Int) (kl : Int → Int) (mo : Int → Int) (kc : Int → Int) (mt : Int → Int) (th : Int) (sn : Int) (sm : Int) (nw : Int) (rn : Int) (bn : Int) (kn : Int) (cm : Int) (al : Int) (lg : Int) (tt : Int) (dn : Int) (bk : Int) (ln : Int) (kg : Int) (tm : Int) (sz : Nat) (hln : 0 ≤ ln ∧ ln < 3) (hnw : 0 ≤ nw ∧ nw ≤ 100000) (htm : nw ≤ tm ∧ tm ≤ 100000) (hkg : 0 ≤ kg ∧ kg ≤ 200000) (hkn : 0 ≤ kn ∧ kn ≤ 60) (hkz : ∀ j, 0 ≤ kz j ∧ kz j ≤ 1000000) (hkl : ∀ j, 0 ≤ kl j ∧ kl j ≤ 1000000) (hmo : ∀ j, 0 ≤ mo j ∧ mo j ≤ 1000000) (hF : 1 ≤ bk ∧ bk ≤ kn) (hX : sc (pOR kz kl mo kn ln 0) (-1) (kn + 1 - 1).toNat 1 = bk) (hal : 0 ≤ al ∧ al ≤ 1000) (hbw : ∀ j, 0 ≤ bw j ∧ bw j ≤ 100000) (hkb : ∀ j, 0 ≤ kb j ∧ kb j < 20) (hkc : ∀ j, 0 ≤ kc j ∧ kc j ≤ 1000000) (hlg : 0 ≤ lg ∧ lg ≤ 100000) (h2 : ln < 2) (hW : (if 0 ≤ kg - bw (kb bk) then kg - bw (kb bk) else 0 - (kg - bw (kb bk))) * 1000 ≤ bw (kb bk) * al) : CtI l yX7_weigh wsX7_weigh ({ frames := 1, cells := 0, slots := 0, locals := 25 }) D vwCl (tyL kI kZ kL kJ) [(h, .inr (7, [.int (iI th), .int (iI sn), .int (iI sm), .int (iI nw), .ref hRo, .int (iI rn), .int (iI bn), .ref hNu, .ref hWe, .ref hDa, .ref hVe, .int (iI kn), .ref hSl, .ref hTr, .ref hBx, .ref hSt, .ref hLa, .ref hOr, .ref hSi, .ref hTu, .int (iI cm), .int (iI al), .int (iI lg), .int (iI tt), .int (iI dn)])), (hWe, .inl (kI, 20, .inl (iF bw))), (hBx, .inl (kI, 61, .inl (iF kb))), (hSt, .inl (kI, 61, .inl (iF kz))), (hLa, .inl (kI, 61, .inl (iF kl))), (hOr, .inl (kI, 61, .inl (iF mo))), (hSi, .inl (kI, 61, .inl (iF kc))), (hTu, .inl (kI, 61, .inl (iF mt)))] [.ref h, .int (iI ln), .int (iI kg), .int (iI tm)] (iI bk) [(h, .inr (7, [.int (iI 0), .int (iI sn), .int (iI sm), .int (iI tm), .ref hRo, .int (iI rn), .int (iI bn), .ref hNu, .ref hWe, .ref hDa, .ref hVe, .int (iI kn), .ref hSl, .ref hTr, .ref hBx, .ref hSt, .ref hLa, .ref hOr, .ref hSi, .ref hTu, .int (iI cm), .int (iI al), .int (iI (max lg (tm - kc bk))), .int (iI (tt + (tm - kc bk))), .int (iI (dn + 1))])), (hWe, .inl (kI, 20, .inl (iF bw))), (hBx, .inl (kI, 61, .inl (iF kb))), (hSt, .inl (kI, 61, .inl (iF (iu kz bk 2)))), (hLa, .inl (kI, 61, .inl (iF kl))), (hOr, .inl (kI, 61, .inl (iF mo))), (hSi, .inl (kI, 61, .inl (iF kc))), (hTu, .inl (kI, 61, .inl (iF (iu mt bk (tm - kc bk)))))] sz := by
  refine ck_start (Qc := fun A => cQi D vwCl (tyL kI kZ kL kJ) A (iI bk) [(h, .inr (7, [.int (iI 0), .int (iI sn), .int (iI sm), .int (iI tm), .ref hRo, .int (iI rn), .int (iI bn), .ref hNu, .ref hWe, .ref hDa, .ref hVe, .int (iI kn), .ref hSl, .ref hTr, .ref hBx, .ref hSt, .ref hLa, .ref hOr, .ref hSi, .ref hTu, .int (iI cm), .int (iI al), .int (iI (max lg (tm - kc bk))), .int (iI (tt + (tm - kc bk))), .int (iI (dn + 1))])), (hWe, .inl (kI, 20, .inl (iF bw))), (hBx, .inl (kI, 61, .inl (iF kb))), (hSt, .inl (kI, 61, .inl (iF (iu kz bk 2)))), (hLa, .inl (kI, 61, .inl (iF kl))), (hOr, .inl (kI, 61, .inl (iF mo))), (hSi, .inl (kI, 61, .inl (iF kc))), (hTu, .inl (kI, 61, .inl (iF (iu mt bk (tm - kc bk)))))]) (cc := cX7_weigh) (maxL := 9) (ret := (some .int)) (LV := [(0, .ref h), (1, .int (iI ln)), (2, .int (iI kg)), (3, .int (iI tm))]) (by decide) rfl rfl (Nat.le_of_ble_eq_true rfl) ?_
  intro p e s m below meth cd hadm hx hb hr hml hts hown hlocks hname hnoh hxT A hA hK hP hD hS ls hl
  refine lv_iload_n hx hb dX7_weigh_0 rfl (lv_at hl 1 rfl) ?_
  refine wk_if_lt (tgt := 9) hx hb dX7_weigh_1 (by decide) (by omega) (fun c_1 => ?_) (fun c_1 => ?_)
  · skip
    exfalso; omega
  · skip
    refine lv_iload_n hx hb dX7_weigh_4 rfl (lv_at hl 1 rfl) ?_
    refine lv_iconst (v := iI 2) hx hb dX7_weigh_5 rfl ?_
    refine wk_icmp_le (tgt := 15) hx hb dX7_weigh_6 (by decide) (by omega) (fun c_2 => ?_) (fun c_2 => ?_)
    · skip
      refine lv_aload_n hx hb dX7_weigh_15 rfl (lv_at hl 0 rfl) ?_
      refine lv_iload_n hx hb dX7_weigh_16 rfl (lv_at hl 3 rfl) ?_
      refine pk_callI (va_runV (As := [.int (iI tm)]) (rest := []) ⟨hx, hb, hml, hown, hts⟩ (tX7_isTime l D kI kZ kL kJ h hRo hNu hWe hDa hVe hSl hTr hBx hSt hLa hOr hSi hTu th sn sm nw rn bn kn cm al lg tt dn tm s.heap.size (by first | assumption | omega) (by first | assumption | omega)) (cwV 1 hts (gd_V tb_cons wd_755 wd_757 wd_25 wd_41 wd_758) rfl rfl rfl (by decide +kernel) ⟨Nat.le_of_ble_eq_true rfl, Nat.le_of_ble_eq_true rfl⟩) (ck_preV hxT hK hP hD [0] rfl (by decide) (q0 := 0) rfl rfl rfl) rfl rfl hl.1 rfl (lv_room (Nat.le_of_ble_eq_true rfl)) dX7_weigh_17 ⟨Nat.zero_le _, Nat.zero_le _⟩) ?_
      refine wk_bif_eq (tgt := 33) hx hb dX7_weigh_20 (by decide) (fun c_3 => ?_) (fun c_3 => ?_)
      · skip
        exfalso; omega
      · skip
        refine lv_iload_n hx hb dX7_weigh_23 rfl (lv_at hl 2 rfl) ?_
        refine wk_if_lt (tgt := 33) hx hb dX7_weigh_24 (by decide) (by omega) (fun c_4 => ?_) (fun c_4 => ?_)
        · skip
          exfalso; omega
        · skip
          refine lv_iload_n hx hb dX7_weigh_27 rfl (lv_at hl 2 rfl) ?_
          refine lv_ldc (v := 200000) hx hb hown (hts _ (List.mem_cons_of_mem _ wd_783)) dX7_weigh_28 ?_
          refine wk_eqi (show (200000 : Int32) = iI 200000 by decide) ?_
          refine wk_icmp_le (tgt := 39) hx hb dX7_weigh_30 (by decide) (by omega) (fun c_5 => ?_) (fun c_5 => ?_)
          · skip
            refine lv_aload_n hx hb dX7_weigh_39 rfl (lv_at hl 0 rfl) ?_
            refine lv_iconst (v := iI 0) hx hb dX7_weigh_40 rfl ?_
            refine wk_put (ci := 7) (C := RX7) (T := TX7) (N := 25) hx hb hts (fun w h => (List.mem_cons_of_mem _ (hinX7 w h))) tyX7 tyX7_ok nmX7 hown hK hP hD hS 0 rfl rfl 0 (by decide) (hts _ (List.mem_cons_of_mem _ wd_612)) (fun _ h9 => h9) rfl rfl (Nat.le_of_ble_eq_true rfl) dX7_weigh_41 (ws' := [(h, .inr (7, [.int (iI 0), .int (iI sn), .int (iI sm), .int (iI nw), .ref hRo, .int (iI rn), .int (iI bn), .ref hNu, .ref hWe, .ref hDa, .ref hVe, .int (iI kn), .ref hSl, .ref hTr, .ref hBx, .ref hSt, .ref hLa, .ref hOr, .ref hSi, .ref hTu, .int (iI cm), .int (iI al), .int (iI lg), .int (iI tt), .int (iI dn)])), (hWe, .inl (kI, 20, .inl (iF bw))), (hBx, .inl (kI, 61, .inl (iF kb))), (hSt, .inl (kI, 61, .inl (iF kz))), (hLa, .inl (kI, 61, .inl (iF kl))), (hOr, .inl (kI, 61, .inl (iF mo))), (hSi, .inl (kI, 61, .inl (iF kc))), (hTu, .inl (kI, 61, .inl (iF mt)))]) rfl (fun H locs hP hD hS => ?_)
            refine lv_aload_n hx hb dX7_weigh_44 rfl (lv_at hl 0 rfl) ?_
            refine lv_iload_n hx hb dX7_weigh_45 rfl (lv_at hl 3 rfl) ?_
            refine wk_put (ci := 7) (C := RX7) (T := TX7) (N := 25) hx hb hts (fun w h => (List.mem_cons_of_mem _ (hinX7 w h))) tyX7 tyX7_ok nmX7 hown hK hP hD hS 0 rfl rfl 3 (by decide) (hts _ (List.mem_cons_of_mem _ wd_615)) (fun _ h9 => h9) rfl rfl (Nat.le_of_ble_eq_true rfl) dX7_weigh_46 (ws' := [(h, .inr (7, [.int (iI 0), .int (iI sn), .int (iI sm), .int (iI tm), .ref hRo, .int (iI rn), .int (iI bn), .ref hNu, .ref hWe, .ref hDa, .ref hVe, .int (iI kn), .ref hSl, .ref hTr, .ref hBx, .ref hSt, .ref hLa, .ref hOr, .ref hSi, .ref hTu, .int (iI cm), .int (iI al), .int (iI lg), .int (iI tt), .int (iI dn)])), (hWe, .inl (kI, 20, .inl (iF bw))), (hBx, .inl (kI, 61, .inl (iF kb))), (hSt, .inl (kI, 61, .inl (iF kz))), (hLa, .inl (kI, 61, .inl (iF kl))), (hOr, .inl (kI, 61, .inl (iF mo))), (hSi, .inl (kI, 61, .inl (iF kc))), (hTu, .inl (kI, 61, .inl (iF mt)))]) rfl (fun H locs hP hD hS => ?_)
            refine lv_aload_n hx hb dX7_weigh_49 rfl (lv_at hl 0 rfl) ?_
            refine lv_iload_n hx hb dX7_weigh_50 rfl (lv_at hl 1 rfl) ?_
            refine lv_iconst (v := iI 0) hx hb dX7_weigh_51 rfl ?_
            refine pk_callI (va_runV (As := [.int (iI ln), .int (iI 0)]) (rest := []) ⟨hx, hb, hml, hown, hts⟩ (tX7_inOrder l D kI kZ kL kJ h hRo hNu hWe hDa hVe hSl hTr hBx hSt hLa hOr hSi hTu kz kl mo 0 sn sm tm rn bn kn cm al lg tt dn ln 0 H.size (by first | assumption | omega) (by first | assumption | omega) (by first | assumption | omega) (by first | assumption | omega) (by first | assumption | omega) (by first | assumption | omega)) (cwV 2 hts (gd_V tb_cons wd_784 wd_786 wd_31 wd_41 wd_787) rfl rfl rfl (by decide +kernel) ⟨Nat.le_of_ble_eq_true rfl, Nat.le_of_ble_eq_true rfl⟩) (ck_preV hxT hK hP hD [0, 3, 4, 5] rfl (by decide) (q0 := 0) rfl rfl rfl) rfl rfl hl.1 rfl (lv_room (Nat.le_of_ble_eq_true rfl)) dX7_weigh_52 ⟨Nat.zero_le _, Nat.zero_le _⟩) ?_
            refine wk_eqi (show iI (sc (pOR kz kl mo kn ln 0) (-1) (kn + 1 - 1).toNat 1) = iI bk by rw [hX]) ?_
            refine lv_istore (lv' := [(4, .int (iI bk)), (0, .ref h), (1, .int (iI ln)), (2, .int (iI kg)), (3, .int (iI tm))]) hx hb dX7_weigh_55 hl (by decide) rfl (fun ls hl => ?_)
            refine lv_iload hx hb dX7_weigh_57 (lv_at hl 0 rfl) ?_
            refine wk_if_ge (tgt := 64) hx hb dX7_weigh_59 (by decide) (by omega) (fun c_6 => ?_) (fun c_6 => ?_)
            · skip
              refine lv_aload_n hx hb dX7_weigh_64 rfl (lv_at hl 1 rfl) ?_
              refine va_get (D := D) (ci := 7) (v := .ref hWe) (C := RX7) (T := TX7) (N := 25) hx hb hts (fun w h => (List.mem_cons_of_mem _ (hinX7 w h))) hown hK hP 0 rfl rfl 8 (by decide) (hts _ (List.mem_cons_of_mem _ wd_620)) (fun _ h9 => h9) rfl dX7_weigh_65 ?_
              refine lv_aload_n hx hb dX7_weigh_68 rfl (lv_at hl 1 rfl) ?_
              refine va_get (D := D) (ci := 7) (v := .ref hBx) (C := RX7) (T := TX7) (N := 25) hx hb hts (fun w h => (List.mem_cons_of_mem _ (hinX7 w h))) hown hK hP 0 rfl rfl 14 (by decide) (hts _ (List.mem_cons_of_mem _ wd_626)) (fun _ h9 => h9) rfl dX7_weigh_69 ?_
              refine lv_iload hx hb dX7_weigh_72 (lv_at hl 0 rfl) ?_
              refine wk_iald hx hb hK hP 2 0 rfl rfl (by decide) (by omega) dX7_weigh_74 ?_
              have b_7 := hkb bk
              have b7 := hkb bk
              refine wk_iald hx hb hK hP 1 0 rfl rfl (by decide) (by omega) dX7_weigh_75 ?_
              have b_8 := hbw (kb bk)
              have b8 := hbw (kb bk)
              refine wk_i2l hx hb (by omega) dX7_weigh_76 ?_
              refine lv_lstore (lv' := [(5, .long (lI (bw (kb bk)))), (4, .int (iI bk)), (0, .ref h), (1, .int (iI ln)), (2, .int (iI kg)), (3, .int (iI tm))]) hx hb dX7_weigh_77 hl (by decide) rfl (fun ls hl => ?_)
              refine lv_iload_n hx hb dX7_weigh_79 rfl (lv_at hl 4 rfl) ?_
              refine wk_i2l hx hb (by omega) dX7_weigh_80 ?_
              refine lv_lload hx hb dX7_weigh_81 (lv_at hl 0 rfl) ?_
              refine wk_lcmp hx hb (by omega) dX7_weigh_83 ?_
              have b_9 := lc_spec kg (bw (kb bk))
              refine wk_if_le (tgt := 95) hx hb dX7_weigh_84 (by decide) (by omega) (fun c_10 => ?_) (fun c_10 => ?_)
              · skip
                refine lv_lload hx hb dX7_weigh_95 (lv_at hl 0 rfl) ?_
                refine lv_iload_n hx hb dX7_weigh_97 rfl (lv_at hl 4 rfl) ?_
                refine wk_i2l hx hb (by omega) dX7_weigh_98 ?_
                refine wk_lsub hx hb dX7_weigh_99 ?_
                refine lv_lstore (lv' := [(7, .long (lI ((bw (kb bk)) - kg))), (5, .long (lI (bw (kb bk)))), (4, .int (iI bk)), (0, .ref h), (1, .int (iI ln)), (2, .int (iI kg)), (3, .int (iI tm))]) hx hb dX7_weigh_100 hl (by decide) rfl (fun ls hl => ?_)
                refine lv_iload_n hx hb dX7_weigh_102 rfl (lv_at hl 4 rfl) ?_
                refine lv_iconst (v := iI 2) hx hb dX7_weigh_103 rfl ?_
                refine wk_icmp_ge (tgt := 136) hx hb dX7_weigh_104 (by decide) (by omega) (fun c_11 => ?_) (fun c_11 => ?_)
                · skip
                  exfalso; omega
                · skip
                  refine lv_lload hx hb dX7_weigh_107 (lv_at hl 0 rfl) ?_
                  refine lv_ldc2 (v := lI 1000) hx hb hown (show (Cond.constantLong _ _ (lI 1000)).before _ s = true from (hts _ (List.mem_cons_of_mem _ wd_788))) dX7_weigh_109 ?_
                  refine wk_lmul hx hb dX7_weigh_112 ?_
                  refine lv_lload hx hb dX7_weigh_113 (lv_at hl 1 rfl) ?_
                  refine lv_aload_n hx hb dX7_weigh_115 rfl (lv_at hl 3 rfl) ?_
                  refine va_get (D := D) (ci := 7) (v := .int (iI al)) (C := RX7) (T := TX7) (N := 25) hx hb hts (fun w h => (List.mem_cons_of_mem _ (hinX7 w h))) hown hK hP 0 rfl rfl 21 (by decide) (hts _ (List.mem_cons_of_mem _ wd_633)) (fun _ h9 => h9) rfl dX7_weigh_116 ?_
                  refine wk_i2l hx hb (by omega) dX7_weigh_119 ?_
                  refine wk_lmul hx hb dX7_weigh_120 ?_
                  refine wk_lcmp hx hb (by have e1 := Int.mul_nonneg b8.1 hal.1; have e2 := Int.mul_le_mul b8.2 hal.2 hal.1 (by omega); omega) dX7_weigh_121 ?_
                  have b_12 := lc_spec (((bw (kb bk)) - kg) * 1000) ((bw (kb bk)) * al)
                  refine wk_if_le (tgt := 136) hx hb dX7_weigh_122 (by decide) (by omega) (fun c_13 => ?_) (fun c_13 => ?_)
                  · skip
                    refine lv_aload_n hx hb dX7_weigh_136 rfl (lv_at hl 3 rfl) ?_
                    refine va_get (D := D) (ci := 7) (v := .ref hSt) (C := RX7) (T := TX7) (N := 25) hx hb hts (fun w h => (List.mem_cons_of_mem _ (hinX7 w h))) hown hK hP 0 rfl rfl 15 (by decide) (hts _ (List.mem_cons_of_mem _ wd_627)) (fun _ h9 => h9) rfl dX7_weigh_137 ?_
                    refine lv_iload hx hb dX7_weigh_140 (lv_at hl 2 rfl) ?_
                    refine lv_iconst (v := iI 2) hx hb dX7_weigh_142 rfl ?_
                    refine wk_iast hx hb hK hP hD hS 3 0 rfl rfl (by decide) (by omega) dX7_weigh_143 (ws' := [(h, .inr (7, [.int (iI 0), .int (iI sn), .int (iI sm), .int (iI tm), .ref hRo, .int (iI rn), .int (iI bn), .ref hNu, .ref hWe, .ref hDa, .ref hVe, .int (iI kn), .ref hSl, .ref hTr, .ref hBx, .ref hSt, .ref hLa, .ref hOr, .ref hSi, .ref hTu, .int (iI cm), .int (iI al), .int (iI lg), .int (iI tt), .int (iI dn)])), (hWe, .inl (kI, 20, .inl (iF bw))), (hBx, .inl (kI, 61, .inl (iF kb))), (hSt, .inl (kI, 61, .inl (iF (iu kz bk 2)))), (hLa, .inl (kI, 61, .inl (iF kl))), (hOr, .inl (kI, 61, .inl (iF mo))), (hSi, .inl (kI, 61, .inl (iF kc))), (hTu, .inl (kI, 61, .inl (iF mt)))]) rfl (fun H locs hP hD hS => ?_)
                    refine lv_aload_n hx hb dX7_weigh_144 rfl (lv_at hl 3 rfl) ?_
                    refine va_get (D := D) (ci := 7) (v := .ref hTu) (C := RX7) (T := TX7) (N := 25) hx hb hts (fun w h => (List.mem_cons_of_mem _ (hinX7 w h))) hown hK hP 0 rfl rfl 19 (by decide) (hts _ (List.mem_cons_of_mem _ wd_631)) (fun _ h9 => h9) rfl dX7_weigh_145 ?_
                    refine lv_iload hx hb dX7_weigh_148 (lv_at hl 2 rfl) ?_
                    refine lv_aload_n hx hb dX7_weigh_150 rfl (lv_at hl 3 rfl) ?_
                    refine va_get (D := D) (ci := 7) (v := .int (iI tm)) (C := RX7) (T := TX7) (N := 25) hx hb hts (fun w h => (List.mem_cons_of_mem _ (hinX7 w h))) hown hK hP 0 rfl rfl 3 (by decide) (hts _ (List.mem_cons_of_mem _ wd_615)) (fun _ h9 => h9) rfl dX7_weigh_151 ?_
                    refine lv_aload_n hx hb dX7_weigh_154 rfl (lv_at hl 3 rfl) ?_
                    refine va_get (D := D) (ci := 7) (v := .ref hSi) (C := RX7) (T := TX7) (N := 25) hx hb hts (fun w h => (List.mem_cons_of_mem _ (hinX7 w h))) hown hK hP 0 rfl rfl 18 (by decide) (hts _ (List.mem_cons_of_mem _ wd_630)) (fun _ h9 => h9) rfl dX7_weigh_155 ?_
                    refine lv_iload hx hb dX7_weigh_158 (lv_at hl 2 rfl) ?_
                    refine wk_iald hx hb hK hP 6 0 rfl rfl (by decide) (by omega) dX7_weigh_160 ?_
                    have b_14 := hkc bk
                    refine wk_isub hx hb dX7_weigh_161 ?_
                    refine wk_iast hx hb hK hP hD hS 7 0 rfl rfl (by decide) (by omega) dX7_weigh_162 (ws' := [(h, .inr (7, [.int (iI 0), .int (iI sn), .int (iI sm), .int (iI tm), .ref hRo, .int (iI rn), .int (iI bn), .ref hNu, .ref hWe, .ref hDa, .ref hVe, .int (iI kn), .ref hSl, .ref hTr, .ref hBx, .ref hSt, .ref hLa, .ref hOr, .ref hSi, .ref hTu, .int (iI cm), .int (iI al), .int (iI lg), .int (iI tt), .int (iI dn)])), (hWe, .inl (kI, 20, .inl (iF bw))), (hBx, .inl (kI, 61, .inl (iF kb))), (hSt, .inl (kI, 61, .inl (iF (iu kz bk 2)))), (hLa, .inl (kI, 61, .inl (iF kl))), (hOr, .inl (kI, 61, .inl (iF mo))), (hSi, .inl (kI, 61, .inl (iF kc))), (hTu, .inl (kI, 61, .inl (iF (iu mt bk (tm - (kc bk))))))]) rfl (fun H locs hP hD hS => ?_)
                    refine lv_aload_n hx hb dX7_weigh_163 rfl (lv_at hl 3 rfl) ?_
                    refine lv_aload_n hx hb dX7_weigh_164 rfl (lv_at hl 3 rfl) ?_
                    refine va_get (D := D) (ci := 7) (v := .ref hTu) (C := RX7) (T := TX7) (N := 25) hx hb hts (fun w h => (List.mem_cons_of_mem _ (hinX7 w h))) hown hK hP 0 rfl rfl 19 (by decide) (hts _ (List.mem_cons_of_mem _ wd_631)) (fun _ h9 => h9) rfl dX7_weigh_165 ?_
                    refine lv_iload hx hb dX7_weigh_168 (lv_at hl 2 rfl) ?_
                    refine wk_iald hx hb hK hP 7 0 rfl rfl (by decide) (by omega) dX7_weigh_170 ?_
                    refine wk_eqi (show iI ((iu mt bk (tm - (kc bk))) bk) = iI (tm - kc bk) by rw [iu_at]) ?_
                    refine lv_aload_n hx hb dX7_weigh_171 rfl (lv_at hl 3 rfl) ?_
                    refine va_get (D := D) (ci := 7) (v := .int (iI lg)) (C := RX7) (T := TX7) (N := 25) hx hb hts (fun w h => (List.mem_cons_of_mem _ (hinX7 w h))) hown hK hP 0 rfl rfl 22 (by decide) (hts _ (List.mem_cons_of_mem _ wd_634)) (fun _ h9 => h9) rfl dX7_weigh_172 ?_
                    refine wk_icmp_le (tgt := 188) hx hb dX7_weigh_175 (by decide) (by omega) (fun c_15 => ?_) (fun c_15 => ?_)
                    · skip
                      refine lv_aload_n hx hb dX7_weigh_188 rfl (lv_at hl 3 rfl) ?_
                      refine va_get (D := D) (ci := 7) (v := .int (iI lg)) (C := RX7) (T := TX7) (N := 25) hx hb hts (fun w h => (List.mem_cons_of_mem _ (hinX7 w h))) hown hK hP 0 rfl rfl 22 (by decide) (hts _ (List.mem_cons_of_mem _ wd_634)) (fun _ h9 => h9) rfl dX7_weigh_189 ?_
                      refine wk_put (ci := 7) (C := RX7) (T := TX7) (N := 25) hx hb hts (fun w h => (List.mem_cons_of_mem _ (hinX7 w h))) tyX7 tyX7_ok nmX7 hown hK hP hD hS 0 rfl rfl 22 (by decide) (hts _ (List.mem_cons_of_mem _ wd_634)) (fun _ h9 => h9) rfl rfl (Nat.le_of_ble_eq_true rfl) dX7_weigh_192 (ws' := [(h, .inr (7, [.int (iI 0), .int (iI sn), .int (iI sm), .int (iI tm), .ref hRo, .int (iI rn), .int (iI bn), .ref hNu, .ref hWe, .ref hDa, .ref hVe, .int (iI kn), .ref hSl, .ref hTr, .ref hBx, .ref hSt, .ref hLa, .ref hOr, .ref hSi, .ref hTu, .int (iI cm), .int (iI al), .int (iI lg), .int (iI tt), .int (iI dn)])), (hWe, .inl (kI, 20, .inl (iF bw))), (hBx, .inl (kI, 61, .inl (iF kb))), (hSt, .inl (kI, 61, .inl (iF (iu kz bk 2)))), (hLa, .inl (kI, 61, .inl (iF kl))), (hOr, .inl (kI, 61, .inl (iF mo))), (hSi, .inl (kI, 61, .inl (iF kc))), (hTu, .inl (kI, 61, .inl (iF (iu mt bk (tm - (kc bk))))))]) rfl (fun H locs hP hD hS => ?_)
                      refine lv_aload_n hx hb dX7_weigh_195 rfl (lv_at hl 3 rfl) ?_
                      refine lv_dup hx hb dX7_weigh_196 rfl ?_
                      refine va_get (D := D) (ci := 7) (v := .int (iI tt)) (C := RX7) (T := TX7) (N := 25) hx hb hts (fun w h => (List.mem_cons_of_mem _ (hinX7 w h))) hown hK hP 0 rfl rfl 23 (by decide) (hts _ (List.mem_cons_of_mem _ wd_635)) (fun _ h9 => h9) rfl dX7_weigh_197 ?_
                      refine lv_aload_n hx hb dX7_weigh_200 rfl (lv_at hl 3 rfl) ?_
                      refine va_get (D := D) (ci := 7) (v := .ref hTu) (C := RX7) (T := TX7) (N := 25) hx hb hts (fun w h => (List.mem_cons_of_mem _ (hinX7 w h))) hown hK hP 0 rfl rfl 19 (by decide) (hts _ (List.mem_cons_of_mem _ wd_631)) (fun _ h9 => h9) rfl dX7_weigh_201 ?_
                      refine lv_iload hx hb dX7_weigh_204 (lv_at hl 2 rfl) ?_
                      refine wk_iald hx hb hK hP 7 0 rfl rfl (by decide) (by omega) dX7_weigh_206 ?_
                      refine wk_eqi (show iI ((iu mt bk (tm - (kc bk))) bk) = iI (tm - kc bk) by rw [iu_at]) ?_
                      refine wk_iadd hx hb dX7_weigh_207 ?_
                      refine wk_put (ci := 7) (C := RX7) (T := TX7) (N := 25) hx hb hts (fun w h => (List.mem_cons_of_mem _ (hinX7 w h))) tyX7 tyX7_ok nmX7 hown hK hP hD hS 0 rfl rfl 23 (by decide) (hts _ (List.mem_cons_of_mem _ wd_635)) (fun _ h9 => h9) rfl rfl (Nat.le_of_ble_eq_true rfl) dX7_weigh_208 (ws' := [(h, .inr (7, [.int (iI 0), .int (iI sn), .int (iI sm), .int (iI tm), .ref hRo, .int (iI rn), .int (iI bn), .ref hNu, .ref hWe, .ref hDa, .ref hVe, .int (iI kn), .ref hSl, .ref hTr, .ref hBx, .ref hSt, .ref hLa, .ref hOr, .ref hSi, .ref hTu, .int (iI cm), .int (iI al), .int (iI lg), .int (iI (tt + (tm - kc bk))), .int (iI dn)])), (hWe, .inl (kI, 20, .inl (iF bw))), (hBx, .inl (kI, 61, .inl (iF kb))), (hSt, .inl (kI, 61, .inl (iF (iu kz bk 2)))), (hLa, .inl (kI, 61, .inl (iF kl))), (hOr, .inl (kI, 61, .inl (iF mo))), (hSi, .inl (kI, 61, .inl (iF kc))), (hTu, .inl (kI, 61, .inl (iF (iu mt bk (tm - (kc bk))))))]) rfl (fun H locs hP hD hS => ?_)
                      refine lv_aload_n hx hb dX7_weigh_211 rfl (lv_at hl 3 rfl) ?_
                      refine lv_dup hx hb dX7_weigh_212 rfl ?_
                      refine va_get (D := D) (ci := 7) (v := .int (iI dn)) (C := RX7) (T := TX7) (N := 25) hx hb hts (fun w h => (List.mem_cons_of_mem _ (hinX7 w h))) hown hK hP 0 rfl rfl 24 (by decide) (hts _ (List.mem_cons_of_mem _ wd_636)) (fun _ h9 => h9) rfl dX7_weigh_213 ?_
                      refine lv_iconst (v := iI 1) hx hb dX7_weigh_216 rfl ?_
                      refine wk_iadd hx hb dX7_weigh_217 ?_
                      refine wk_put (ci := 7) (C := RX7) (T := TX7) (N := 25) hx hb hts (fun w h => (List.mem_cons_of_mem _ (hinX7 w h))) tyX7 tyX7_ok nmX7 hown hK hP hD hS 0 rfl rfl 24 (by decide) (hts _ (List.mem_cons_of_mem _ wd_636)) (fun _ h9 => h9) rfl rfl (Nat.le_of_ble_eq_true rfl) dX7_weigh_218 (ws' := [(h, .inr (7, [.int (iI 0), .int (iI sn), .int (iI sm), .int (iI tm), .ref hRo, .int (iI rn), .int (iI bn), .ref hNu, .ref hWe, .ref hDa, .ref hVe, .int (iI kn), .ref hSl, .ref hTr, .ref hBx, .ref hSt, .ref hLa, .ref hOr, .ref hSi, .ref hTu, .int (iI cm), .int (iI al), .int (iI lg), .int (iI (tt + (tm - kc bk))), .int (iI (dn + 1))])), (hWe, .inl (kI, 20, .inl (iF bw))), (hBx, .inl (kI, 61, .inl (iF kb))), (hSt, .inl (kI, 61, .inl (iF (iu kz bk 2)))), (hLa, .inl (kI, 61, .inl (iF kl))), (hOr, .inl (kI, 61, .inl (iF mo))), (hSi, .inl (kI, 61, .inl (iF kc))), (hTu, .inl (kI, 61, .inl (iF (iu mt bk (tm - (kc bk))))))]) rfl (fun H locs hP hD hS => ?_)
                      refine lv_iload hx hb dX7_weigh_221 (lv_at hl 2 rfl) ?_
                      exact rk_int hx hb hr hlocks hK hP hD hS (by first | rfl | omega) (by first | rw [Int.max_eq_right (by omega)] | rw [Int.max_eq_left (by omega)]) dX7_weigh_223
                    · skip
                      refine lv_aload_n hx hb dX7_weigh_178 rfl (lv_at hl 3 rfl) ?_
                      refine va_get (D := D) (ci := 7) (v := .ref hTu) (C := RX7) (T := TX7) (N := 25) hx hb hts (fun w h => (List.mem_cons_of_mem _ (hinX7 w h))) hown hK hP 0 rfl rfl 19 (by decide) (hts _ (List.mem_cons_of_mem _ wd_631)) (fun _ h9 => h9) rfl dX7_weigh_179 ?_
                      refine lv_iload hx hb dX7_weigh_182 (lv_at hl 2 rfl) ?_
                      refine wk_iald hx hb hK hP 7 0 rfl rfl (by decide) (by omega) dX7_weigh_184 ?_
                      refine wk_eqi (show iI ((iu mt bk (tm - (kc bk))) bk) = iI (tm - kc bk) by rw [iu_at]) ?_
                      refine lv_goto (tgt := 192) hx hb dX7_weigh_185 (by decide) ?_
                      refine wk_put (ci := 7) (C := RX7) (T := TX7) (N := 25) hx hb hts (fun w h => (List.mem_cons_of_mem _ (hinX7 w h))) tyX7 tyX7_ok nmX7 hown hK hP hD hS 0 rfl rfl 22 (by decide) (hts _ (List.mem_cons_of_mem _ wd_634)) (fun _ h9 => h9) rfl rfl (Nat.le_of_ble_eq_true rfl) dX7_weigh_192 (ws' := [(h, .inr (7, [.int (iI 0), .int (iI sn), .int (iI sm), .int (iI tm), .ref hRo, .int (iI rn), .int (iI bn), .ref hNu, .ref hWe, .ref hDa, .ref hVe, .int (iI kn), .ref hSl, .ref hTr, .ref hBx, .ref hSt, .ref hLa, .ref hOr, .ref hSi, .ref hTu, .int (iI cm), .int (iI al), .int (iI (tm - kc bk)), .int (iI tt), .int (iI dn)])), (hWe, .inl (kI, 20, .inl (iF bw))), (hBx, .inl (kI, 61, .inl (iF kb))), (hSt, .inl (kI, 61, .inl (iF (iu kz bk 2)))), (hLa, .inl (kI, 61, .inl (iF kl))), (hOr, .inl (kI, 61, .inl (iF mo))), (hSi, .inl (kI, 61, .inl (iF kc))), (hTu, .inl (kI, 61, .inl (iF (iu mt bk (tm - (kc bk))))))]) rfl (fun H locs hP hD hS => ?_)
                      refine lv_aload_n hx hb dX7_weigh_195 rfl (lv_at hl 3 rfl) ?_
                      refine lv_dup hx hb dX7_weigh_196 rfl ?_
                      refine va_get (D := D) (ci := 7) (v := .int (iI tt)) (C := RX7) (T := TX7) (N := 25) hx hb hts (fun w h => (List.mem_cons_of_mem _ (hinX7 w h))) hown hK hP 0 rfl rfl 23 (by decide) (hts _ (List.mem_cons_of_mem _ wd_635)) (fun _ h9 => h9) rfl dX7_weigh_197 ?_
                      refine lv_aload_n hx hb dX7_weigh_200 rfl (lv_at hl 3 rfl) ?_
                      refine va_get (D := D) (ci := 7) (v := .ref hTu) (C := RX7) (T := TX7) (N := 25) hx hb hts (fun w h => (List.mem_cons_of_mem _ (hinX7 w h))) hown hK hP 0 rfl rfl 19 (by decide) (hts _ (List.mem_cons_of_mem _ wd_631)) (fun _ h9 => h9) rfl dX7_weigh_201 ?_
                      refine lv_iload hx hb dX7_weigh_204 (lv_at hl 2 rfl) ?_
                      refine wk_iald hx hb hK hP 7 0 rfl rfl (by decide) (by omega) dX7_weigh_206 ?_
                      refine wk_eqi (show iI ((iu mt bk (tm - (kc bk))) bk) = iI (tm - kc bk) by rw [iu_at]) ?_
                      refine wk_iadd hx hb dX7_weigh_207 ?_
                      refine wk_put (ci := 7) (C := RX7) (T := TX7) (N := 25) hx hb hts (fun w h => (List.mem_cons_of_mem _ (hinX7 w h))) tyX7 tyX7_ok nmX7 hown hK hP hD hS 0 rfl rfl 23 (by decide) (hts _ (List.mem_cons_of_mem _ wd_635)) (fun _ h9 => h9) rfl rfl (Nat.le_of_ble_eq_true rfl) dX7_weigh_208 (ws' := [(h, .inr (7, [.int (iI 0), .int (iI sn), .int (iI sm), .int (iI tm), .ref hRo, .int (iI rn), .int (iI bn), .ref hNu, .ref hWe, .ref hDa, .ref hVe, .int (iI kn), .ref hSl, .ref hTr, .ref hBx, .ref hSt, .ref hLa, .ref hOr, .ref hSi, .ref hTu, .int (iI cm), .int (iI al), .int (iI (tm - kc bk)), .int (iI (tt + (tm - kc bk))), .int (iI dn)])), (hWe, .inl (kI, 20, .inl (iF bw))), (hBx, .inl (kI, 61, .inl (iF kb))), (hSt, .inl (kI, 61, .inl (iF (iu kz bk 2)))), (hLa, .inl (kI, 61, .inl (iF kl))), (hOr, .inl (kI, 61, .inl (iF mo))), (hSi, .inl (kI, 61, .inl (iF kc))), (hTu, .inl (kI, 61, .inl (iF (iu mt bk (tm - (kc bk))))))]) rfl (fun H locs hP hD hS => ?_)
                      refine lv_aload_n hx hb dX7_weigh_211 rfl (lv_at hl 3 rfl) ?_
                      refine lv_dup hx hb dX7_weigh_212 rfl ?_
                      refine va_get (D := D) (ci := 7) (v := .int (iI dn)) (C := RX7) (T := TX7) (N := 25) hx hb hts (fun w h => (List.mem_cons_of_mem _ (hinX7 w h))) hown hK hP 0 rfl rfl 24 (by decide) (hts _ (List.mem_cons_of_mem _ wd_636)) (fun _ h9 => h9) rfl dX7_weigh_213 ?_
                      refine lv_iconst (v := iI 1) hx hb dX7_weigh_216 rfl ?_
                      refine wk_iadd hx hb dX7_weigh_217 ?_
                      refine wk_put (ci := 7) (C := RX7) (T := TX7) (N := 25) hx hb hts (fun w h => (List.mem_cons_of_mem _ (hinX7 w h))) tyX7 tyX7_ok nmX7 hown hK hP hD hS 0 rfl rfl 24 (by decide) (hts _ (List.mem_cons_of_mem _ wd_636)) (fun _ h9 => h9) rfl rfl (Nat.le_of_ble_eq_true rfl) dX7_weigh_218 (ws' := [(h, .inr (7, [.int (iI 0), .int (iI sn), .int (iI sm), .int (iI tm), .ref hRo, .int (iI rn), .int (iI bn), .ref hNu, .ref hWe, .ref hDa, .ref hVe, .int (iI kn), .ref hSl, .ref hTr, .ref hBx, .ref hSt, .ref hLa, .ref hOr, .ref hSi, .ref hTu, .int (iI cm), .int (iI al), .int (iI (tm - kc bk)), .int (iI (tt + (tm - kc bk))), .int (iI (dn + 1))])), (hWe, .inl (kI, 20, .inl (iF bw))), (hBx, .inl (kI, 61, .inl (iF kb))), (hSt, .inl (kI, 61, .inl (iF (iu kz bk 2)))), (hLa, .inl (kI, 61, .inl (iF kl))), (hOr, .inl (kI, 61, .inl (iF mo))), (hSi, .inl (kI, 61, .inl (iF kc))), (hTu, .inl (kI, 61, .inl (iF (iu mt bk (tm - (kc bk))))))]) rfl (fun H locs hP hD hS => ?_)
                      refine lv_iload hx hb dX7_weigh_221 (lv_at hl 2 rfl) ?_
                      exact rk_int hx hb hr hlocks hK hP hD hS (by first | rfl | omega) (by first | rw [Int.max_eq_right (by omega)] | rw [Int.max_eq_left (by omega)]) dX7_weigh_223
                  · skip
                    exfalso; (split at hW) <;> omega
              · skip
                refine lv_iload_n hx hb dX7_weigh_87 rfl (lv_at hl 4 rfl) ?_
                refine wk_i2l hx hb (by omega) dX7_weigh_88 ?_
                refine lv_lload hx hb dX7_weigh_89 (lv_at hl 0 rfl) ?_
                refine wk_lsub hx hb dX7_weigh_91 ?_
                refine lv_goto (tgt := 100) hx hb dX7_weigh_92 (by decide) ?_
                refine lv_lstore (lv' := [(7, .long (lI (kg - (bw (kb bk))))), (5, .long (lI (bw (kb bk)))), (4, .int (iI bk)), (0, .ref h), (1, .int (iI ln)), (2, .int (iI kg)), (3, .int (iI tm))]) hx hb dX7_weigh_100 hl (by decide) rfl (fun ls hl => ?_)
                refine lv_iload_n hx hb dX7_weigh_102 rfl (lv_at hl 4 rfl) ?_
                refine lv_iconst (v := iI 2) hx hb dX7_weigh_103 rfl ?_
                refine wk_icmp_ge (tgt := 136) hx hb dX7_weigh_104 (by decide) (by omega) (fun c_16 => ?_) (fun c_16 => ?_)
                · skip
                  exfalso; omega
                · skip
                  refine lv_lload hx hb dX7_weigh_107 (lv_at hl 0 rfl) ?_
                  refine lv_ldc2 (v := lI 1000) hx hb hown (show (Cond.constantLong _ _ (lI 1000)).before _ s = true from (hts _ (List.mem_cons_of_mem _ wd_788))) dX7_weigh_109 ?_
                  refine wk_lmul hx hb dX7_weigh_112 ?_
                  refine lv_lload hx hb dX7_weigh_113 (lv_at hl 1 rfl) ?_
                  refine lv_aload_n hx hb dX7_weigh_115 rfl (lv_at hl 3 rfl) ?_
                  refine va_get (D := D) (ci := 7) (v := .int (iI al)) (C := RX7) (T := TX7) (N := 25) hx hb hts (fun w h => (List.mem_cons_of_mem _ (hinX7 w h))) hown hK hP 0 rfl rfl 21 (by decide) (hts _ (List.mem_cons_of_mem _ wd_633)) (fun _ h9 => h9) rfl dX7_weigh_116 ?_
                  refine wk_i2l hx hb (by omega) dX7_weigh_119 ?_
                  refine wk_lmul hx hb dX7_weigh_120 ?_
                  refine wk_lcmp hx hb (by have e1 := Int.mul_nonneg b8.1 hal.1; have e2 := Int.mul_le_mul b8.2 hal.2 hal.1 (by omega); omega) dX7_weigh_121 ?_
                  have b_17 := lc_spec ((kg - (bw (kb bk))) * 1000) ((bw (kb bk)) * al)
                  refine wk_if_le (tgt := 136) hx hb dX7_weigh_122 (by decide) (by omega) (fun c_18 => ?_) (fun c_18 => ?_)
                  · skip
                    refine lv_aload_n hx hb dX7_weigh_136 rfl (lv_at hl 3 rfl) ?_
                    refine va_get (D := D) (ci := 7) (v := .ref hSt) (C := RX7) (T := TX7) (N := 25) hx hb hts (fun w h => (List.mem_cons_of_mem _ (hinX7 w h))) hown hK hP 0 rfl rfl 15 (by decide) (hts _ (List.mem_cons_of_mem _ wd_627)) (fun _ h9 => h9) rfl dX7_weigh_137 ?_
                    refine lv_iload hx hb dX7_weigh_140 (lv_at hl 2 rfl) ?_
                    refine lv_iconst (v := iI 2) hx hb dX7_weigh_142 rfl ?_
                    refine wk_iast hx hb hK hP hD hS 3 0 rfl rfl (by decide) (by omega) dX7_weigh_143 (ws' := [(h, .inr (7, [.int (iI 0), .int (iI sn), .int (iI sm), .int (iI tm), .ref hRo, .int (iI rn), .int (iI bn), .ref hNu, .ref hWe, .ref hDa, .ref hVe, .int (iI kn), .ref hSl, .ref hTr, .ref hBx, .ref hSt, .ref hLa, .ref hOr, .ref hSi, .ref hTu, .int (iI cm), .int (iI al), .int (iI lg), .int (iI tt), .int (iI dn)])), (hWe, .inl (kI, 20, .inl (iF bw))), (hBx, .inl (kI, 61, .inl (iF kb))), (hSt, .inl (kI, 61, .inl (iF (iu kz bk 2)))), (hLa, .inl (kI, 61, .inl (iF kl))), (hOr, .inl (kI, 61, .inl (iF mo))), (hSi, .inl (kI, 61, .inl (iF kc))), (hTu, .inl (kI, 61, .inl (iF mt)))]) rfl (fun H locs hP hD hS => ?_)
                    refine lv_aload_n hx hb dX7_weigh_144 rfl (lv_at hl 3 rfl) ?_
                    refine va_get (D := D) (ci := 7) (v := .ref hTu) (C := RX7) (T := TX7) (N := 25) hx hb hts (fun w h => (List.mem_cons_of_mem _ (hinX7 w h))) hown hK hP 0 rfl rfl 19 (by decide) (hts _ (List.mem_cons_of_mem _ wd_631)) (fun _ h9 => h9) rfl dX7_weigh_145 ?_
                    refine lv_iload hx hb dX7_weigh_148 (lv_at hl 2 rfl) ?_
                    refine lv_aload_n hx hb dX7_weigh_150 rfl (lv_at hl 3 rfl) ?_
                    refine va_get (D := D) (ci := 7) (v := .int (iI tm)) (C := RX7) (T := TX7) (N := 25) hx hb hts (fun w h => (List.mem_cons_of_mem _ (hinX7 w h))) hown hK hP 0 rfl rfl 3 (by decide) (hts _ (List.mem_cons_of_mem _ wd_615)) (fun _ h9 => h9) rfl dX7_weigh_151 ?_
                    refine lv_aload_n hx hb dX7_weigh_154 rfl (lv_at hl 3 rfl) ?_
                    refine va_get (D := D) (ci := 7) (v := .ref hSi) (C := RX7) (T := TX7) (N := 25) hx hb hts (fun w h => (List.mem_cons_of_mem _ (hinX7 w h))) hown hK hP 0 rfl rfl 18 (by decide) (hts _ (List.mem_cons_of_mem _ wd_630)) (fun _ h9 => h9) rfl dX7_weigh_155 ?_
                    refine lv_iload hx hb dX7_weigh_158 (lv_at hl 2 rfl) ?_
                    refine wk_iald hx hb hK hP 6 0 rfl rfl (by decide) (by omega) dX7_weigh_160 ?_
                    have b_19 := hkc bk
                    refine wk_isub hx hb dX7_weigh_161 ?_
                    refine wk_iast hx hb hK hP hD hS 7 0 rfl rfl (by decide) (by omega) dX7_weigh_162 (ws' := [(h, .inr (7, [.int (iI 0), .int (iI sn), .int (iI sm), .int (iI tm), .ref hRo, .int (iI rn), .int (iI bn), .ref hNu, .ref hWe, .ref hDa, .ref hVe, .int (iI kn), .ref hSl, .ref hTr, .ref hBx, .ref hSt, .ref hLa, .ref hOr, .ref hSi, .ref hTu, .int (iI cm), .int (iI al), .int (iI lg), .int (iI tt), .int (iI dn)])), (hWe, .inl (kI, 20, .inl (iF bw))), (hBx, .inl (kI, 61, .inl (iF kb))), (hSt, .inl (kI, 61, .inl (iF (iu kz bk 2)))), (hLa, .inl (kI, 61, .inl (iF kl))), (hOr, .inl (kI, 61, .inl (iF mo))), (hSi, .inl (kI, 61, .inl (iF kc))), (hTu, .inl (kI, 61, .inl (iF (iu mt bk (tm - (kc bk))))))]) rfl (fun H locs hP hD hS => ?_)
                    refine lv_aload_n hx hb dX7_weigh_163 rfl (lv_at hl 3 rfl) ?_
                    refine lv_aload_n hx hb dX7_weigh_164 rfl (lv_at hl 3 rfl) ?_
                    refine va_get (D := D) (ci := 7) (v := .ref hTu) (C := RX7) (T := TX7) (N := 25) hx hb hts (fun w h => (List.mem_cons_of_mem _ (hinX7 w h))) hown hK hP 0 rfl rfl 19 (by decide) (hts _ (List.mem_cons_of_mem _ wd_631)) (fun _ h9 => h9) rfl dX7_weigh_165 ?_
                    refine lv_iload hx hb dX7_weigh_168 (lv_at hl 2 rfl) ?_
                    refine wk_iald hx hb hK hP 7 0 rfl rfl (by decide) (by omega) dX7_weigh_170 ?_
                    refine wk_eqi (show iI ((iu mt bk (tm - (kc bk))) bk) = iI (tm - kc bk) by rw [iu_at]) ?_
                    refine lv_aload_n hx hb dX7_weigh_171 rfl (lv_at hl 3 rfl) ?_
                    refine va_get (D := D) (ci := 7) (v := .int (iI lg)) (C := RX7) (T := TX7) (N := 25) hx hb hts (fun w h => (List.mem_cons_of_mem _ (hinX7 w h))) hown hK hP 0 rfl rfl 22 (by decide) (hts _ (List.mem_cons_of_mem _ wd_634)) (fun _ h9 => h9) rfl dX7_weigh_172 ?_
                    refine wk_icmp_le (tgt := 188) hx hb dX7_weigh_175 (by decide) (by omega) (fun c_20 => ?_) (fun c_20 => ?_)
                    · skip
                      refine lv_aload_n hx hb dX7_weigh_188 rfl (lv_at hl 3 rfl) ?_
                      refine va_get (D := D) (ci := 7) (v := .int (iI lg)) (C := RX7) (T := TX7) (N := 25) hx hb hts (fun w h => (List.mem_cons_of_mem _ (hinX7 w h))) hown hK hP 0 rfl rfl 22 (by decide) (hts _ (List.mem_cons_of_mem _ wd_634)) (fun _ h9 => h9) rfl dX7_weigh_189 ?_
                      refine wk_put (ci := 7) (C := RX7) (T := TX7) (N := 25) hx hb hts (fun w h => (List.mem_cons_of_mem _ (hinX7 w h))) tyX7 tyX7_ok nmX7 hown hK hP hD hS 0 rfl rfl 22 (by decide) (hts _ (List.mem_cons_of_mem _ wd_634)) (fun _ h9 => h9) rfl rfl (Nat.le_of_ble_eq_true rfl) dX7_weigh_192 (ws' := [(h, .inr (7, [.int (iI 0), .int (iI sn), .int (iI sm), .int (iI tm), .ref hRo, .int (iI rn), .int (iI bn), .ref hNu, .ref hWe, .ref hDa, .ref hVe, .int (iI kn), .ref hSl, .ref hTr, .ref hBx, .ref hSt, .ref hLa, .ref hOr, .ref hSi, .ref hTu, .int (iI cm), .int (iI al), .int (iI lg), .int (iI tt), .int (iI dn)])), (hWe, .inl (kI, 20, .inl (iF bw))), (hBx, .inl (kI, 61, .inl (iF kb))), (hSt, .inl (kI, 61, .inl (iF (iu kz bk 2)))), (hLa, .inl (kI, 61, .inl (iF kl))), (hOr, .inl (kI, 61, .inl (iF mo))), (hSi, .inl (kI, 61, .inl (iF kc))), (hTu, .inl (kI, 61, .inl (iF (iu mt bk (tm - (kc bk))))))]) rfl (fun H locs hP hD hS => ?_)
                      refine lv_aload_n hx hb dX7_weigh_195 rfl (lv_at hl 3 rfl) ?_
                      refine lv_dup hx hb dX7_weigh_196 rfl ?_
                      refine va_get (D := D) (ci := 7) (v := .int (iI tt)) (C := RX7) (T := TX7) (N := 25) hx hb hts (fun w h => (List.mem_cons_of_mem _ (hinX7 w h))) hown hK hP 0 rfl rfl 23 (by decide) (hts _ (List.mem_cons_of_mem _ wd_635)) (fun _ h9 => h9) rfl dX7_weigh_197 ?_
                      refine lv_aload_n hx hb dX7_weigh_200 rfl (lv_at hl 3 rfl) ?_
                      refine va_get (D := D) (ci := 7) (v := .ref hTu) (C := RX7) (T := TX7) (N := 25) hx hb hts (fun w h => (List.mem_cons_of_mem _ (hinX7 w h))) hown hK hP 0 rfl rfl 19 (by decide) (hts _ (List.mem_cons_of_mem _ wd_631)) (fun _ h9 => h9) rfl dX7_weigh_201 ?_
                      refine lv_iload hx hb dX7_weigh_204 (lv_at hl 2 rfl) ?_
                      refine wk_iald hx hb hK hP 7 0 rfl rfl (by decide) (by omega) dX7_weigh_206 ?_
                      refine wk_eqi (show iI ((iu mt bk (tm - (kc bk))) bk) = iI (tm - kc bk) by rw [iu_at]) ?_
                      refine wk_iadd hx hb dX7_weigh_207 ?_
                      refine wk_put (ci := 7) (C := RX7) (T := TX7) (N := 25) hx hb hts (fun w h => (List.mem_cons_of_mem _ (hinX7 w h))) tyX7 tyX7_ok nmX7 hown hK hP hD hS 0 rfl rfl 23 (by decide) (hts _ (List.mem_cons_of_mem _ wd_635)) (fun _ h9 => h9) rfl rfl (Nat.le_of_ble_eq_true rfl) dX7_weigh_208 (ws' := [(h, .inr (7, [.int (iI 0), .int (iI sn), .int (iI sm), .int (iI tm), .ref hRo, .int (iI rn), .int (iI bn), .ref hNu, .ref hWe, .ref hDa, .ref hVe, .int (iI kn), .ref hSl, .ref hTr, .ref hBx, .ref hSt, .ref hLa, .ref hOr, .ref hSi, .ref hTu, .int (iI cm), .int (iI al), .int (iI lg), .int (iI (tt + (tm - kc bk))), .int (iI dn)])), (hWe, .inl (kI, 20, .inl (iF bw))), (hBx, .inl (kI, 61, .inl (iF kb))), (hSt, .inl (kI, 61, .inl (iF (iu kz bk 2)))), (hLa, .inl (kI, 61, .inl (iF kl))), (hOr, .inl (kI, 61, .inl (iF mo))), (hSi, .inl (kI, 61, .inl (iF kc))), (hTu, .inl (kI, 61, .inl (iF (iu mt bk (tm - (kc bk))))))]) rfl (fun H locs hP hD hS => ?_)
                      refine lv_aload_n hx hb dX7_weigh_211 rfl (lv_at hl 3 rfl) ?_
                      refine lv_dup hx hb dX7_weigh_212 rfl ?_
                      refine va_get (D := D) (ci := 7) (v := .int (iI dn)) (C := RX7) (T := TX7) (N := 25) hx hb hts (fun w h => (List.mem_cons_of_mem _ (hinX7 w h))) hown hK hP 0 rfl rfl 24 (by decide) (hts _ (List.mem_cons_of_mem _ wd_636)) (fun _ h9 => h9) rfl dX7_weigh_213 ?_
                      refine lv_iconst (v := iI 1) hx hb dX7_weigh_216 rfl ?_
                      refine wk_iadd hx hb dX7_weigh_217 ?_
                      refine wk_put (ci := 7) (C := RX7) (T := TX7) (N := 25) hx hb hts (fun w h => (List.mem_cons_of_mem _ (hinX7 w h))) tyX7 tyX7_ok nmX7 hown hK hP hD hS 0 rfl rfl 24 (by decide) (hts _ (List.mem_cons_of_mem _ wd_636)) (fun _ h9 => h9) rfl rfl (Nat.le_of_ble_eq_true rfl) dX7_weigh_218 (ws' := [(h, .inr (7, [.int (iI 0), .int (iI sn), .int (iI sm), .int (iI tm), .ref hRo, .int (iI rn), .int (iI bn), .ref hNu, .ref hWe, .ref hDa, .ref hVe, .int (iI kn), .ref hSl, .ref hTr, .ref hBx, .ref hSt, .ref hLa, .ref hOr, .ref hSi, .ref hTu, .int (iI cm), .int (iI al), .int (iI lg), .int (iI (tt + (tm - kc bk))), .int (iI (dn + 1))])), (hWe, .inl (kI, 20, .inl (iF bw))), (hBx, .inl (kI, 61, .inl (iF kb))), (hSt, .inl (kI, 61, .inl (iF (iu kz bk 2)))), (hLa, .inl (kI, 61, .inl (iF kl))), (hOr, .inl (kI, 61, .inl (iF mo))), (hSi, .inl (kI, 61, .inl (iF kc))), (hTu, .inl (kI, 61, .inl (iF (iu mt bk (tm - (kc bk))))))]) rfl (fun H locs hP hD hS => ?_)
                      refine lv_iload hx hb dX7_weigh_221 (lv_at hl 2 rfl) ?_
                      exact rk_int hx hb hr hlocks hK hP hD hS (by first | rfl | omega) (by first | rw [Int.max_eq_right (by omega)] | rw [Int.max_eq_left (by omega)]) dX7_weigh_223
                    · skip
                      refine lv_aload_n hx hb dX7_weigh_178 rfl (lv_at hl 3 rfl) ?_
                      refine va_get (D := D) (ci := 7) (v := .ref hTu) (C := RX7) (T := TX7) (N := 25) hx hb hts (fun w h => (List.mem_cons_of_mem _ (hinX7 w h))) hown hK hP 0 rfl rfl 19 (by decide) (hts _ (List.mem_cons_of_mem _ wd_631)) (fun _ h9 => h9) rfl dX7_weigh_179 ?_
                      refine lv_iload hx hb dX7_weigh_182 (lv_at hl 2 rfl) ?_
                      refine wk_iald hx hb hK hP 7 0 rfl rfl (by decide) (by omega) dX7_weigh_184 ?_
                      refine wk_eqi (show iI ((iu mt bk (tm - (kc bk))) bk) = iI (tm - kc bk) by rw [iu_at]) ?_
                      refine lv_goto (tgt := 192) hx hb dX7_weigh_185 (by decide) ?_
                      refine wk_put (ci := 7) (C := RX7) (T := TX7) (N := 25) hx hb hts (fun w h => (List.mem_cons_of_mem _ (hinX7 w h))) tyX7 tyX7_ok nmX7 hown hK hP hD hS 0 rfl rfl 22 (by decide) (hts _ (List.mem_cons_of_mem _ wd_634)) (fun _ h9 => h9) rfl rfl (Nat.le_of_ble_eq_true rfl) dX7_weigh_192 (ws' := [(h, .inr (7, [.int (iI 0), .int (iI sn), .int (iI sm), .int (iI tm), .ref hRo, .int (iI rn), .int (iI bn), .ref hNu, .ref hWe, .ref hDa, .ref hVe, .int (iI kn), .ref hSl, .ref hTr, .ref hBx, .ref hSt, .ref hLa, .ref hOr, .ref hSi, .ref hTu, .int (iI cm), .int (iI al), .int (iI (tm - kc bk)), .int (iI tt), .int (iI dn)])), (hWe, .inl (kI, 20, .inl (iF bw))), (hBx, .inl (kI, 61, .inl (iF kb))), (hSt, .inl (kI, 61, .inl (iF (iu kz bk 2)))), (hLa, .inl (kI, 61, .inl (iF kl))), (hOr, .inl (kI, 61, .inl (iF mo))), (hSi, .inl (kI, 61, .inl (iF kc))), (hTu, .inl (kI, 61, .inl (iF (iu mt bk (tm - (kc bk))))))]) rfl (fun H locs hP hD hS => ?_)
                      refine lv_aload_n hx hb dX7_weigh_195 rfl (lv_at hl 3 rfl) ?_
                      refine lv_dup hx hb dX7_weigh_196 rfl ?_
                      refine va_get (D := D) (ci := 7) (v := .int (iI tt)) (C := RX7) (T := TX7) (N := 25) hx hb hts (fun w h => (List.mem_cons_of_mem _ (hinX7 w h))) hown hK hP 0 rfl rfl 23 (by decide) (hts _ (List.mem_cons_of_mem _ wd_635)) (fun _ h9 => h9) rfl dX7_weigh_197 ?_
                      refine lv_aload_n hx hb dX7_weigh_200 rfl (lv_at hl 3 rfl) ?_
                      refine va_get (D := D) (ci := 7) (v := .ref hTu) (C := RX7) (T := TX7) (N := 25) hx hb hts (fun w h => (List.mem_cons_of_mem _ (hinX7 w h))) hown hK hP 0 rfl rfl 19 (by decide) (hts _ (List.mem_cons_of_mem _ wd_631)) (fun _ h9 => h9) rfl dX7_weigh_201 ?_
                      refine lv_iload hx hb dX7_weigh_204 (lv_at hl 2 rfl) ?_
                      refine wk_iald hx hb hK hP 7 0 rfl rfl (by decide) (by omega) dX7_weigh_206 ?_
                      refine wk_eqi (show iI ((iu mt bk (tm - (kc bk))) bk) = iI (tm - kc bk) by rw [iu_at]) ?_
                      refine wk_iadd hx hb dX7_weigh_207 ?_
                      refine wk_put (ci := 7) (C := RX7) (T := TX7) (N := 25) hx hb hts (fun w h => (List.mem_cons_of_mem _ (hinX7 w h))) tyX7 tyX7_ok nmX7 hown hK hP hD hS 0 rfl rfl 23 (by decide) (hts _ (List.mem_cons_of_mem _ wd_635)) (fun _ h9 => h9) rfl rfl (Nat.le_of_ble_eq_true rfl) dX7_weigh_208 (ws' := [(h, .inr (7, [.int (iI 0), .int (iI sn), .int (iI sm), .int (iI tm), .ref hRo, .int (iI rn), .int (iI bn), .ref hNu, .ref hWe, .ref hDa, .ref hVe, .int (iI kn), .ref hSl, .ref hTr, .ref hBx, .ref hSt, .ref hLa, .ref hOr, .ref hSi, .ref hTu, .int (iI cm), .int (iI al), .int (iI (tm - kc bk)), .int (iI (tt + (tm - kc bk))), .int (iI dn)])), (hWe, .inl (kI, 20, .inl (iF bw))), (hBx, .inl (kI, 61, .inl (iF kb))), (hSt, .inl (kI, 61, .inl (iF (iu kz bk 2)))), (hLa, .inl (kI, 61, .inl (iF kl))), (hOr, .inl (kI, 61, .inl (iF mo))), (hSi, .inl (kI, 61, .inl (iF kc))), (hTu, .inl (kI, 61, .inl (iF (iu mt bk (tm - (kc bk))))))]) rfl (fun H locs hP hD hS => ?_)
                      refine lv_aload_n hx hb dX7_weigh_211 rfl (lv_at hl 3 rfl) ?_
                      refine lv_dup hx hb dX7_weigh_212 rfl ?_
                      refine va_get (D := D) (ci := 7) (v := .int (iI dn)) (C := RX7) (T := TX7) (N := 25) hx hb hts (fun w h => (List.mem_cons_of_mem _ (hinX7 w h))) hown hK hP 0 rfl rfl 24 (by decide) (hts _ (List.mem_cons_of_mem _ wd_636)) (fun _ h9 => h9) rfl dX7_weigh_213 ?_
                      refine lv_iconst (v := iI 1) hx hb dX7_weigh_216 rfl ?_
                      refine wk_iadd hx hb dX7_weigh_217 ?_
                      refine wk_put (ci := 7) (C := RX7) (T := TX7) (N := 25) hx hb hts (fun w h => (List.mem_cons_of_mem _ (hinX7 w h))) tyX7 tyX7_ok nmX7 hown hK hP hD hS 0 rfl rfl 24 (by decide) (hts _ (List.mem_cons_of_mem _ wd_636)) (fun _ h9 => h9) rfl rfl (Nat.le_of_ble_eq_true rfl) dX7_weigh_218 (ws' := [(h, .inr (7, [.int (iI 0), .int (iI sn), .int (iI sm), .int (iI tm), .ref hRo, .int (iI rn), .int (iI bn), .ref hNu, .ref hWe, .ref hDa, .ref hVe, .int (iI kn), .ref hSl, .ref hTr, .ref hBx, .ref hSt, .ref hLa, .ref hOr, .ref hSi, .ref hTu, .int (iI cm), .int (iI al), .int (iI (tm - kc bk)), .int (iI (tt + (tm - kc bk))), .int (iI (dn + 1))])), (hWe, .inl (kI, 20, .inl (iF bw))), (hBx, .inl (kI, 61, .inl (iF kb))), (hSt, .inl (kI, 61, .inl (iF (iu kz bk 2)))), (hLa, .inl (kI, 61, .inl (iF kl))), (hOr, .inl (kI, 61, .inl (iF mo))), (hSi, .inl (kI, 61, .inl (iF kc))), (hTu, .inl (kI, 61, .inl (iF (iu mt bk (tm - (kc bk))))))]) rfl (fun H locs hP hD hS => ?_)
                      refine lv_iload hx hb dX7_weigh_221 (lv_at hl 2 rfl) ?_
                      exact rk_int hx hb hr hlocks hK hP hD hS (by first | rfl | omega) (by first | rw [Int.max_eq_right (by omega)] | rw [Int.max_eq_left (by omega)]) dX7_weigh_223
                  · skip
                    exfalso; (split at hW) <;> omega
            · skip
              exfalso; omega
          · skip
            exfalso; omega
    · skip
      exfalso; omega

set_option maxHeartbeats 4000000 in
set_option maxRecDepth 100000 in
theorem tX7_weigh_s (l : Launch) (D : va_G) (kI : ClassId) (kZ : ClassId) (kL : ClassId) (kJ : ClassId) (h : Nat) (hRo : Nat) (hNu : Nat) (hWe : Nat) (hDa : Nat) (hVe : Nat) (hSl : Nat) (hTr : Nat) (hBx : Nat) (hSt : Nat) (hLa : Nat) (hOr : Nat) (hSi : Nat) (hTu : Nat) (bw : Int → Int) (kb : Int → Int) (kz : Int → Int) (kl : Int → Int) (mo : Int → Int) (th : Int) (sn : Int) (sm : Int) (nw : Int) (rn : Int) (bn : Int) (kn : Int) (cm : Int) (al : Int) (lg : Int) (tt : Int) (dn : Int) (bk : Int) (ln : Int) (kg : Int) (tm : Int) (sz : Nat) (hln : 0 ≤ ln ∧ ln < 3) (hnw : 0 ≤ nw ∧ nw ≤ 100000) (htm : nw ≤ tm ∧ tm ≤ 100000) (hkg : 0 ≤ kg ∧ kg ≤ 200000) (hkn : 0 ≤ kn ∧ kn ≤ 60) (hkz : ∀ j, 0 ≤ kz j ∧ kz j ≤ 1000000) (hkl : ∀ j, 0 ≤ kl j ∧ kl j ≤ 1000000) (hmo : ∀ j, 0 ≤ mo j ∧ mo j ≤ 1000000) (hF : 1 ≤ bk ∧ bk ≤ kn) (hX : sc (pOR kz kl mo kn ln 0) (-1) (kn + 1 - 1).toNat 1 = bk) (hal : 0 ≤ al ∧ al ≤ 1000) (hbw : ∀ j, 0 ≤ bw j ∧ bw j ≤ 100000) (hkb : ∀ j, 0 ≤ kb j ∧ kb j < 20) (h2 : ln < 2) (hW : ¬ (if 0 ≤ kg - bw (kb bk) then kg - bw (kb bk) else 0 - (kg - bw (kb bk))) * 1000 ≤ bw (kb bk) * al) : CtI l yX7_weigh wsX7_weigh ({ frames := 1, cells := 0, slots := 0, locals := 25 }) D vwCl (tyL kI kZ kL kJ) [(h, .inr (7, [.int (iI th), .int (iI sn), .int (iI sm), .int (iI nw), .ref hRo, .int (iI rn), .int (iI bn), .ref hNu, .ref hWe, .ref hDa, .ref hVe, .int (iI kn), .ref hSl, .ref hTr, .ref hBx, .ref hSt, .ref hLa, .ref hOr, .ref hSi, .ref hTu, .int (iI cm), .int (iI al), .int (iI lg), .int (iI tt), .int (iI dn)])), (hWe, .inl (kI, 20, .inl (iF bw))), (hBx, .inl (kI, 61, .inl (iF kb))), (hSt, .inl (kI, 61, .inl (iF kz))), (hLa, .inl (kI, 61, .inl (iF kl))), (hOr, .inl (kI, 61, .inl (iF mo)))] [.ref h, .int (iI ln), .int (iI kg), .int (iI tm)] (iI (-bk)) [(h, .inr (7, [.int (iI 0), .int (iI sn), .int (iI sm), .int (iI tm), .ref hRo, .int (iI rn), .int (iI bn), .ref hNu, .ref hWe, .ref hDa, .ref hVe, .int (iI kn), .ref hSl, .ref hTr, .ref hBx, .ref hSt, .ref hLa, .ref hOr, .ref hSi, .ref hTu, .int (iI (cm + 1)), .int (iI al), .int (iI lg), .int (iI tt), .int (iI dn)])), (hWe, .inl (kI, 20, .inl (iF bw))), (hBx, .inl (kI, 61, .inl (iF kb))), (hSt, .inl (kI, 61, .inl (iF kz))), (hLa, .inl (kI, 61, .inl (iF (iu kl bk 2)))), (hOr, .inl (kI, 61, .inl (iF (iu mo bk (cm + 1)))))] sz := by
  refine ck_start (Qc := fun A => cQi D vwCl (tyL kI kZ kL kJ) A (iI (-bk)) [(h, .inr (7, [.int (iI 0), .int (iI sn), .int (iI sm), .int (iI tm), .ref hRo, .int (iI rn), .int (iI bn), .ref hNu, .ref hWe, .ref hDa, .ref hVe, .int (iI kn), .ref hSl, .ref hTr, .ref hBx, .ref hSt, .ref hLa, .ref hOr, .ref hSi, .ref hTu, .int (iI (cm + 1)), .int (iI al), .int (iI lg), .int (iI tt), .int (iI dn)])), (hWe, .inl (kI, 20, .inl (iF bw))), (hBx, .inl (kI, 61, .inl (iF kb))), (hSt, .inl (kI, 61, .inl (iF kz))), (hLa, .inl (kI, 61, .inl (iF (iu kl bk 2)))), (hOr, .inl (kI, 61, .inl (iF (iu mo bk (cm + 1)))))]) (cc := cX7_weigh) (maxL := 9) (ret := (some .int)) (LV := [(0, .ref h), (1, .int (iI ln)), (2, .int (iI kg)), (3, .int (iI tm))]) (by decide) rfl rfl (Nat.le_of_ble_eq_true rfl) ?_
  intro p e s m below meth cd hadm hx hb hr hml hts hown hlocks hname hnoh hxT A hA hK hP hD hS ls hl
  refine lv_iload_n hx hb dX7_weigh_0 rfl (lv_at hl 1 rfl) ?_
  refine wk_if_lt (tgt := 9) hx hb dX7_weigh_1 (by decide) (by omega) (fun c_1 => ?_) (fun c_1 => ?_)
  · skip
    exfalso; omega
  · skip
    refine lv_iload_n hx hb dX7_weigh_4 rfl (lv_at hl 1 rfl) ?_
    refine lv_iconst (v := iI 2) hx hb dX7_weigh_5 rfl ?_
    refine wk_icmp_le (tgt := 15) hx hb dX7_weigh_6 (by decide) (by omega) (fun c_2 => ?_) (fun c_2 => ?_)
    · skip
      refine lv_aload_n hx hb dX7_weigh_15 rfl (lv_at hl 0 rfl) ?_
      refine lv_iload_n hx hb dX7_weigh_16 rfl (lv_at hl 3 rfl) ?_
      refine pk_callI (va_runV (As := [.int (iI tm)]) (rest := []) ⟨hx, hb, hml, hown, hts⟩ (tX7_isTime l D kI kZ kL kJ h hRo hNu hWe hDa hVe hSl hTr hBx hSt hLa hOr hSi hTu th sn sm nw rn bn kn cm al lg tt dn tm s.heap.size (by first | assumption | omega) (by first | assumption | omega)) (cwV 1 hts (gd_V tb_cons wd_755 wd_757 wd_25 wd_41 wd_758) rfl rfl rfl (by decide +kernel) ⟨Nat.le_of_ble_eq_true rfl, Nat.le_of_ble_eq_true rfl⟩) (ck_preV hxT hK hP hD [0] rfl (by decide) (q0 := 0) rfl rfl rfl) rfl rfl hl.1 rfl (lv_room (Nat.le_of_ble_eq_true rfl)) dX7_weigh_17 ⟨Nat.zero_le _, Nat.zero_le _⟩) ?_
      refine wk_bif_eq (tgt := 33) hx hb dX7_weigh_20 (by decide) (fun c_3 => ?_) (fun c_3 => ?_)
      · skip
        exfalso; omega
      · skip
        refine lv_iload_n hx hb dX7_weigh_23 rfl (lv_at hl 2 rfl) ?_
        refine wk_if_lt (tgt := 33) hx hb dX7_weigh_24 (by decide) (by omega) (fun c_4 => ?_) (fun c_4 => ?_)
        · skip
          exfalso; omega
        · skip
          refine lv_iload_n hx hb dX7_weigh_27 rfl (lv_at hl 2 rfl) ?_
          refine lv_ldc (v := 200000) hx hb hown (hts _ (List.mem_cons_of_mem _ wd_783)) dX7_weigh_28 ?_
          refine wk_eqi (show (200000 : Int32) = iI 200000 by decide) ?_
          refine wk_icmp_le (tgt := 39) hx hb dX7_weigh_30 (by decide) (by omega) (fun c_5 => ?_) (fun c_5 => ?_)
          · skip
            refine lv_aload_n hx hb dX7_weigh_39 rfl (lv_at hl 0 rfl) ?_
            refine lv_iconst (v := iI 0) hx hb dX7_weigh_40 rfl ?_
            refine wk_put (ci := 7) (C := RX7) (T := TX7) (N := 25) hx hb hts (fun w h => (List.mem_cons_of_mem _ (hinX7 w h))) tyX7 tyX7_ok nmX7 hown hK hP hD hS 0 rfl rfl 0 (by decide) (hts _ (List.mem_cons_of_mem _ wd_612)) (fun _ h9 => h9) rfl rfl (Nat.le_of_ble_eq_true rfl) dX7_weigh_41 (ws' := [(h, .inr (7, [.int (iI 0), .int (iI sn), .int (iI sm), .int (iI nw), .ref hRo, .int (iI rn), .int (iI bn), .ref hNu, .ref hWe, .ref hDa, .ref hVe, .int (iI kn), .ref hSl, .ref hTr, .ref hBx, .ref hSt, .ref hLa, .ref hOr, .ref hSi, .ref hTu, .int (iI cm), .int (iI al), .int (iI lg), .int (iI tt), .int (iI dn)])), (hWe, .inl (kI, 20, .inl (iF bw))), (hBx, .inl (kI, 61, .inl (iF kb))), (hSt, .inl (kI, 61, .inl (iF kz))), (hLa, .inl (kI, 61, .inl (iF kl))), (hOr, .inl (kI, 61, .inl (iF mo)))]) rfl (fun H locs hP hD hS => ?_)
            refine lv_aload_n hx hb dX7_weigh_44 rfl (lv_at hl 0 rfl) ?_
            refine lv_iload_n hx hb dX7_weigh_45 rfl (lv_at hl 3 rfl) ?_
            refine wk_put (ci := 7) (C := RX7) (T := TX7) (N := 25) hx hb hts (fun w h => (List.mem_cons_of_mem _ (hinX7 w h))) tyX7 tyX7_ok nmX7 hown hK hP hD hS 0 rfl rfl 3 (by decide) (hts _ (List.mem_cons_of_mem _ wd_615)) (fun _ h9 => h9) rfl rfl (Nat.le_of_ble_eq_true rfl) dX7_weigh_46 (ws' := [(h, .inr (7, [.int (iI 0), .int (iI sn), .int (iI sm), .int (iI tm), .ref hRo, .int (iI rn), .int (iI bn), .ref hNu, .ref hWe, .ref hDa, .ref hVe, .int (iI kn), .ref hSl, .ref hTr, .ref hBx, .ref hSt, .ref hLa, .ref hOr, .ref hSi, .ref hTu, .int (iI cm), .int (iI al), .int (iI lg), .int (iI tt), .int (iI dn)])), (hWe, .inl (kI, 20, .inl (iF bw))), (hBx, .inl (kI, 61, .inl (iF kb))), (hSt, .inl (kI, 61, .inl (iF kz))), (hLa, .inl (kI, 61, .inl (iF kl))), (hOr, .inl (kI, 61, .inl (iF mo)))]) rfl (fun H locs hP hD hS => ?_)
            refine lv_aload_n hx hb dX7_weigh_49 rfl (lv_at hl 0 rfl) ?_
            refine lv_iload_n hx hb dX7_weigh_50 rfl (lv_at hl 1 rfl) ?_
            refine lv_iconst (v := iI 0) hx hb dX7_weigh_51 rfl ?_
            refine pk_callI (va_runV (As := [.int (iI ln), .int (iI 0)]) (rest := []) ⟨hx, hb, hml, hown, hts⟩ (tX7_inOrder l D kI kZ kL kJ h hRo hNu hWe hDa hVe hSl hTr hBx hSt hLa hOr hSi hTu kz kl mo 0 sn sm tm rn bn kn cm al lg tt dn ln 0 H.size (by first | assumption | omega) (by first | assumption | omega) (by first | assumption | omega) (by first | assumption | omega) (by first | assumption | omega) (by first | assumption | omega)) (cwV 2 hts (gd_V tb_cons wd_784 wd_786 wd_31 wd_41 wd_787) rfl rfl rfl (by decide +kernel) ⟨Nat.le_of_ble_eq_true rfl, Nat.le_of_ble_eq_true rfl⟩) (ck_preV hxT hK hP hD [0, 3, 4, 5] rfl (by decide) (q0 := 0) rfl rfl rfl) rfl rfl hl.1 rfl (lv_room (Nat.le_of_ble_eq_true rfl)) dX7_weigh_52 ⟨Nat.zero_le _, Nat.zero_le _⟩) ?_
            refine wk_eqi (show iI (sc (pOR kz kl mo kn ln 0) (-1) (kn + 1 - 1).toNat 1) = iI bk by rw [hX]) ?_
            refine lv_istore (lv' := [(4, .int (iI bk)), (0, .ref h), (1, .int (iI ln)), (2, .int (iI kg)), (3, .int (iI tm))]) hx hb dX7_weigh_55 hl (by decide) rfl (fun ls hl => ?_)
            refine lv_iload hx hb dX7_weigh_57 (lv_at hl 0 rfl) ?_
            refine wk_if_ge (tgt := 64) hx hb dX7_weigh_59 (by decide) (by omega) (fun c_6 => ?_) (fun c_6 => ?_)
            · skip
              refine lv_aload_n hx hb dX7_weigh_64 rfl (lv_at hl 1 rfl) ?_
              refine va_get (D := D) (ci := 7) (v := .ref hWe) (C := RX7) (T := TX7) (N := 25) hx hb hts (fun w h => (List.mem_cons_of_mem _ (hinX7 w h))) hown hK hP 0 rfl rfl 8 (by decide) (hts _ (List.mem_cons_of_mem _ wd_620)) (fun _ h9 => h9) rfl dX7_weigh_65 ?_
              refine lv_aload_n hx hb dX7_weigh_68 rfl (lv_at hl 1 rfl) ?_
              refine va_get (D := D) (ci := 7) (v := .ref hBx) (C := RX7) (T := TX7) (N := 25) hx hb hts (fun w h => (List.mem_cons_of_mem _ (hinX7 w h))) hown hK hP 0 rfl rfl 14 (by decide) (hts _ (List.mem_cons_of_mem _ wd_626)) (fun _ h9 => h9) rfl dX7_weigh_69 ?_
              refine lv_iload hx hb dX7_weigh_72 (lv_at hl 0 rfl) ?_
              refine wk_iald hx hb hK hP 2 0 rfl rfl (by decide) (by omega) dX7_weigh_74 ?_
              have b_7 := hkb bk
              have b7 := hkb bk
              refine wk_iald hx hb hK hP 1 0 rfl rfl (by decide) (by omega) dX7_weigh_75 ?_
              have b_8 := hbw (kb bk)
              have b8 := hbw (kb bk)
              refine wk_i2l hx hb (by omega) dX7_weigh_76 ?_
              refine lv_lstore (lv' := [(5, .long (lI (bw (kb bk)))), (4, .int (iI bk)), (0, .ref h), (1, .int (iI ln)), (2, .int (iI kg)), (3, .int (iI tm))]) hx hb dX7_weigh_77 hl (by decide) rfl (fun ls hl => ?_)
              refine lv_iload_n hx hb dX7_weigh_79 rfl (lv_at hl 4 rfl) ?_
              refine wk_i2l hx hb (by omega) dX7_weigh_80 ?_
              refine lv_lload hx hb dX7_weigh_81 (lv_at hl 0 rfl) ?_
              refine wk_lcmp hx hb (by omega) dX7_weigh_83 ?_
              have b_9 := lc_spec kg (bw (kb bk))
              refine wk_if_le (tgt := 95) hx hb dX7_weigh_84 (by decide) (by omega) (fun c_10 => ?_) (fun c_10 => ?_)
              · skip
                refine lv_lload hx hb dX7_weigh_95 (lv_at hl 0 rfl) ?_
                refine lv_iload_n hx hb dX7_weigh_97 rfl (lv_at hl 4 rfl) ?_
                refine wk_i2l hx hb (by omega) dX7_weigh_98 ?_
                refine wk_lsub hx hb dX7_weigh_99 ?_
                refine lv_lstore (lv' := [(7, .long (lI ((bw (kb bk)) - kg))), (5, .long (lI (bw (kb bk)))), (4, .int (iI bk)), (0, .ref h), (1, .int (iI ln)), (2, .int (iI kg)), (3, .int (iI tm))]) hx hb dX7_weigh_100 hl (by decide) rfl (fun ls hl => ?_)
                refine lv_iload_n hx hb dX7_weigh_102 rfl (lv_at hl 4 rfl) ?_
                refine lv_iconst (v := iI 2) hx hb dX7_weigh_103 rfl ?_
                refine wk_icmp_ge (tgt := 136) hx hb dX7_weigh_104 (by decide) (by omega) (fun c_11 => ?_) (fun c_11 => ?_)
                · skip
                  exfalso; omega
                · skip
                  refine lv_lload hx hb dX7_weigh_107 (lv_at hl 0 rfl) ?_
                  refine lv_ldc2 (v := lI 1000) hx hb hown (show (Cond.constantLong _ _ (lI 1000)).before _ s = true from (hts _ (List.mem_cons_of_mem _ wd_788))) dX7_weigh_109 ?_
                  refine wk_lmul hx hb dX7_weigh_112 ?_
                  refine lv_lload hx hb dX7_weigh_113 (lv_at hl 1 rfl) ?_
                  refine lv_aload_n hx hb dX7_weigh_115 rfl (lv_at hl 3 rfl) ?_
                  refine va_get (D := D) (ci := 7) (v := .int (iI al)) (C := RX7) (T := TX7) (N := 25) hx hb hts (fun w h => (List.mem_cons_of_mem _ (hinX7 w h))) hown hK hP 0 rfl rfl 21 (by decide) (hts _ (List.mem_cons_of_mem _ wd_633)) (fun _ h9 => h9) rfl dX7_weigh_116 ?_
                  refine wk_i2l hx hb (by omega) dX7_weigh_119 ?_
                  refine wk_lmul hx hb dX7_weigh_120 ?_
                  refine wk_lcmp hx hb (by have e1 := Int.mul_nonneg b8.1 hal.1; have e2 := Int.mul_le_mul b8.2 hal.2 hal.1 (by omega); omega) dX7_weigh_121 ?_
                  have b_12 := lc_spec (((bw (kb bk)) - kg) * 1000) ((bw (kb bk)) * al)
                  refine wk_if_le (tgt := 136) hx hb dX7_weigh_122 (by decide) (by omega) (fun c_13 => ?_) (fun c_13 => ?_)
                  · skip
                    exfalso; (split at hW) <;> omega
                  · skip
                    refine lv_aload_n hx hb dX7_weigh_125 rfl (lv_at hl 3 rfl) ?_
                    refine lv_iload hx hb dX7_weigh_126 (lv_at hl 2 rfl) ?_
                    refine lv_iconst (v := iI 2) hx hb dX7_weigh_128 rfl ?_
                    refine ck_backV (va_runV (As := [.int (iI bk), .int (iI 2)]) (rest := []) ⟨hx, hb, hml, hown, hts⟩ (tX7_comes l D kI kZ kL kJ h hRo hNu hWe hDa hVe hSl hTr hBx hSt hLa hOr hSi hTu kl mo 0 sn sm tm rn bn kn cm al lg tt dn bk 2 H.size (by first | assumption | omega)) (cwV 2 hts (gd_V tb_cons wd_775 wd_777 wd_30 wd_41 wd_778) rfl rfl rfl (by decide +kernel) ⟨Nat.le_of_ble_eq_true rfl, Nat.le_of_ble_eq_true rfl⟩) (ck_preV hxT hK hP hD [0, 4, 5] rfl (by decide) (q0 := 0) rfl rfl rfl) rfl rfl hl.1 rfl (lv_room (Nat.le_of_ble_eq_true rfl)) dX7_weigh_129 ⟨Nat.zero_le _, Nat.zero_le _⟩) hP hD hS hA [0, 4, 5] [1, 2, 3] (WR := [(hWe, .inl (kI, 20, .inl (iF bw))), (hBx, .inl (kI, 61, .inl (iF kb))), (hSt, .inl (kI, 61, .inl (iF kz)))]) rfl rfl (by decide) (by decide) (ws' := [(hWe, .inl (kI, 20, .inl (iF bw))), (hBx, .inl (kI, 61, .inl (iF kb))), (hSt, .inl (kI, 61, .inl (iF kz))), (h, .inr (7, [.int (iI 0), .int (iI sn), .int (iI sm), .int (iI tm), .ref hRo, .int (iI rn), .int (iI bn), .ref hNu, .ref hWe, .ref hDa, .ref hVe, .int (iI kn), .ref hSl, .ref hTr, .ref hBx, .ref hSt, .ref hLa, .ref hOr, .ref hSi, .ref hTu, .int (iI (cm + 1)), .int (iI al), .int (iI lg), .int (iI tt), .int (iI dn)])), (hLa, .inl (kI, 61, .inl (iF (iu kl bk 2)))), (hOr, .inl (kI, 61, .inl (iF (iu mo bk (cm + 1)))))]) rfl (fun H locs hP hD hS => ?_)
                    refine lv_iload hx hb dX7_weigh_132 (lv_at hl 2 rfl) ?_
                    refine wk_ineg hx hb dX7_weigh_134 ?_
                    have hP := hP.sub (ws' := [(h, .inr (7, [.int (iI 0), .int (iI sn), .int (iI sm), .int (iI tm), .ref hRo, .int (iI rn), .int (iI bn), .ref hNu, .ref hWe, .ref hDa, .ref hVe, .int (iI kn), .ref hSl, .ref hTr, .ref hBx, .ref hSt, .ref hLa, .ref hOr, .ref hSi, .ref hTu, .int (iI (cm + 1)), .int (iI al), .int (iI lg), .int (iI tt), .int (iI dn)])), (hWe, .inl (kI, 20, .inl (iF bw))), (hBx, .inl (kI, 61, .inl (iF kb))), (hSt, .inl (kI, 61, .inl (iF kz))), (hLa, .inl (kI, 61, .inl (iF (iu kl bk 2)))), (hOr, .inl (kI, 61, .inl (iF (iu mo bk (cm + 1)))))]) [3, 0, 1, 2, 4, 5] rfl
                    have hD := hD.sub (ws' := [(h, .inr (7, [.int (iI 0), .int (iI sn), .int (iI sm), .int (iI tm), .ref hRo, .int (iI rn), .int (iI bn), .ref hNu, .ref hWe, .ref hDa, .ref hVe, .int (iI kn), .ref hSl, .ref hTr, .ref hBx, .ref hSt, .ref hLa, .ref hOr, .ref hSi, .ref hTu, .int (iI (cm + 1)), .int (iI al), .int (iI lg), .int (iI tt), .int (iI dn)])), (hWe, .inl (kI, 20, .inl (iF bw))), (hBx, .inl (kI, 61, .inl (iF kb))), (hSt, .inl (kI, 61, .inl (iF kz))), (hLa, .inl (kI, 61, .inl (iF (iu kl bk 2)))), (hOr, .inl (kI, 61, .inl (iF (iu mo bk (cm + 1)))))]) [3, 0, 1, 2, 4, 5] (by decide) rfl
                    exact rk_int hx hb hr hlocks hK hP hD hS (by first | rfl | omega) rfl dX7_weigh_135
              · skip
                refine lv_iload_n hx hb dX7_weigh_87 rfl (lv_at hl 4 rfl) ?_
                refine wk_i2l hx hb (by omega) dX7_weigh_88 ?_
                refine lv_lload hx hb dX7_weigh_89 (lv_at hl 0 rfl) ?_
                refine wk_lsub hx hb dX7_weigh_91 ?_
                refine lv_goto (tgt := 100) hx hb dX7_weigh_92 (by decide) ?_
                refine lv_lstore (lv' := [(7, .long (lI (kg - (bw (kb bk))))), (5, .long (lI (bw (kb bk)))), (4, .int (iI bk)), (0, .ref h), (1, .int (iI ln)), (2, .int (iI kg)), (3, .int (iI tm))]) hx hb dX7_weigh_100 hl (by decide) rfl (fun ls hl => ?_)
                refine lv_iload_n hx hb dX7_weigh_102 rfl (lv_at hl 4 rfl) ?_
                refine lv_iconst (v := iI 2) hx hb dX7_weigh_103 rfl ?_
                refine wk_icmp_ge (tgt := 136) hx hb dX7_weigh_104 (by decide) (by omega) (fun c_14 => ?_) (fun c_14 => ?_)
                · skip
                  exfalso; omega
                · skip
                  refine lv_lload hx hb dX7_weigh_107 (lv_at hl 0 rfl) ?_
                  refine lv_ldc2 (v := lI 1000) hx hb hown (show (Cond.constantLong _ _ (lI 1000)).before _ s = true from (hts _ (List.mem_cons_of_mem _ wd_788))) dX7_weigh_109 ?_
                  refine wk_lmul hx hb dX7_weigh_112 ?_
                  refine lv_lload hx hb dX7_weigh_113 (lv_at hl 1 rfl) ?_
                  refine lv_aload_n hx hb dX7_weigh_115 rfl (lv_at hl 3 rfl) ?_
                  refine va_get (D := D) (ci := 7) (v := .int (iI al)) (C := RX7) (T := TX7) (N := 25) hx hb hts (fun w h => (List.mem_cons_of_mem _ (hinX7 w h))) hown hK hP 0 rfl rfl 21 (by decide) (hts _ (List.mem_cons_of_mem _ wd_633)) (fun _ h9 => h9) rfl dX7_weigh_116 ?_
                  refine wk_i2l hx hb (by omega) dX7_weigh_119 ?_
                  refine wk_lmul hx hb dX7_weigh_120 ?_
                  refine wk_lcmp hx hb (by have e1 := Int.mul_nonneg b8.1 hal.1; have e2 := Int.mul_le_mul b8.2 hal.2 hal.1 (by omega); omega) dX7_weigh_121 ?_
                  have b_15 := lc_spec ((kg - (bw (kb bk))) * 1000) ((bw (kb bk)) * al)
                  refine wk_if_le (tgt := 136) hx hb dX7_weigh_122 (by decide) (by omega) (fun c_16 => ?_) (fun c_16 => ?_)
                  · skip
                    exfalso; (split at hW) <;> omega
                  · skip
                    refine lv_aload_n hx hb dX7_weigh_125 rfl (lv_at hl 3 rfl) ?_
                    refine lv_iload hx hb dX7_weigh_126 (lv_at hl 2 rfl) ?_
                    refine lv_iconst (v := iI 2) hx hb dX7_weigh_128 rfl ?_
                    refine ck_backV (va_runV (As := [.int (iI bk), .int (iI 2)]) (rest := []) ⟨hx, hb, hml, hown, hts⟩ (tX7_comes l D kI kZ kL kJ h hRo hNu hWe hDa hVe hSl hTr hBx hSt hLa hOr hSi hTu kl mo 0 sn sm tm rn bn kn cm al lg tt dn bk 2 H.size (by first | assumption | omega)) (cwV 2 hts (gd_V tb_cons wd_775 wd_777 wd_30 wd_41 wd_778) rfl rfl rfl (by decide +kernel) ⟨Nat.le_of_ble_eq_true rfl, Nat.le_of_ble_eq_true rfl⟩) (ck_preV hxT hK hP hD [0, 4, 5] rfl (by decide) (q0 := 0) rfl rfl rfl) rfl rfl hl.1 rfl (lv_room (Nat.le_of_ble_eq_true rfl)) dX7_weigh_129 ⟨Nat.zero_le _, Nat.zero_le _⟩) hP hD hS hA [0, 4, 5] [1, 2, 3] (WR := [(hWe, .inl (kI, 20, .inl (iF bw))), (hBx, .inl (kI, 61, .inl (iF kb))), (hSt, .inl (kI, 61, .inl (iF kz)))]) rfl rfl (by decide) (by decide) (ws' := [(hWe, .inl (kI, 20, .inl (iF bw))), (hBx, .inl (kI, 61, .inl (iF kb))), (hSt, .inl (kI, 61, .inl (iF kz))), (h, .inr (7, [.int (iI 0), .int (iI sn), .int (iI sm), .int (iI tm), .ref hRo, .int (iI rn), .int (iI bn), .ref hNu, .ref hWe, .ref hDa, .ref hVe, .int (iI kn), .ref hSl, .ref hTr, .ref hBx, .ref hSt, .ref hLa, .ref hOr, .ref hSi, .ref hTu, .int (iI (cm + 1)), .int (iI al), .int (iI lg), .int (iI tt), .int (iI dn)])), (hLa, .inl (kI, 61, .inl (iF (iu kl bk 2)))), (hOr, .inl (kI, 61, .inl (iF (iu mo bk (cm + 1)))))]) rfl (fun H locs hP hD hS => ?_)
                    refine lv_iload hx hb dX7_weigh_132 (lv_at hl 2 rfl) ?_
                    refine wk_ineg hx hb dX7_weigh_134 ?_
                    have hP := hP.sub (ws' := [(h, .inr (7, [.int (iI 0), .int (iI sn), .int (iI sm), .int (iI tm), .ref hRo, .int (iI rn), .int (iI bn), .ref hNu, .ref hWe, .ref hDa, .ref hVe, .int (iI kn), .ref hSl, .ref hTr, .ref hBx, .ref hSt, .ref hLa, .ref hOr, .ref hSi, .ref hTu, .int (iI (cm + 1)), .int (iI al), .int (iI lg), .int (iI tt), .int (iI dn)])), (hWe, .inl (kI, 20, .inl (iF bw))), (hBx, .inl (kI, 61, .inl (iF kb))), (hSt, .inl (kI, 61, .inl (iF kz))), (hLa, .inl (kI, 61, .inl (iF (iu kl bk 2)))), (hOr, .inl (kI, 61, .inl (iF (iu mo bk (cm + 1)))))]) [3, 0, 1, 2, 4, 5] rfl
                    have hD := hD.sub (ws' := [(h, .inr (7, [.int (iI 0), .int (iI sn), .int (iI sm), .int (iI tm), .ref hRo, .int (iI rn), .int (iI bn), .ref hNu, .ref hWe, .ref hDa, .ref hVe, .int (iI kn), .ref hSl, .ref hTr, .ref hBx, .ref hSt, .ref hLa, .ref hOr, .ref hSi, .ref hTu, .int (iI (cm + 1)), .int (iI al), .int (iI lg), .int (iI tt), .int (iI dn)])), (hWe, .inl (kI, 20, .inl (iF bw))), (hBx, .inl (kI, 61, .inl (iF kb))), (hSt, .inl (kI, 61, .inl (iF kz))), (hLa, .inl (kI, 61, .inl (iF (iu kl bk 2)))), (hOr, .inl (kI, 61, .inl (iF (iu mo bk (cm + 1)))))]) [3, 0, 1, 2, 4, 5] (by decide) rfl
                    exact rk_int hx hb hr hlocks hK hP hD hS (by first | rfl | omega) rfl dX7_weigh_135
            · skip
              exfalso; omega
          · skip
            exfalso; omega
    · skip
      exfalso; omega

set_option maxHeartbeats 4000000 in
set_option maxRecDepth 100000 in
theorem tX7_tolerance (l : Launch) (D : va_G) (kI : ClassId) (kZ : ClassId) (kL : ClassId) (kJ : ClassId) (h : Nat) (hRo : Nat) (hNu : Nat) (hWe : Nat) (hDa : Nat) (hVe : Nat) (hSl : Nat) (hTr : Nat) (hBx : Nat) (hSt : Nat) (hLa : Nat) (hOr : Nat) (hSi : Nat) (hTu : Nat) (th : Int) (sn : Int) (sm : Int) (nw : Int) (rn : Int) (bn : Int) (kn : Int) (cm : Int) (al : Int) (lg : Int) (tt : Int) (dn : Int) (tu : Int) (sz : Nat) (hth : 0 ≤ tu ∧ tu ≤ 1000) : CtI l yX7_tolerance wsX7_tolerance ({ frames := 0, cells := 0, slots := 0, locals := 0 }) D vwCl (tyL kI kZ kL kJ) [(h, .inr (7, [.int (iI th), .int (iI sn), .int (iI sm), .int (iI nw), .ref hRo, .int (iI rn), .int (iI bn), .ref hNu, .ref hWe, .ref hDa, .ref hVe, .int (iI kn), .ref hSl, .ref hTr, .ref hBx, .ref hSt, .ref hLa, .ref hOr, .ref hSi, .ref hTu, .int (iI cm), .int (iI al), .int (iI lg), .int (iI tt), .int (iI dn)]))] [.ref h, .int (iI tu)] (iI (bi True)) [(h, .inr (7, [.int (iI 0), .int (iI sn), .int (iI sm), .int (iI nw), .ref hRo, .int (iI rn), .int (iI bn), .ref hNu, .ref hWe, .ref hDa, .ref hVe, .int (iI kn), .ref hSl, .ref hTr, .ref hBx, .ref hSt, .ref hLa, .ref hOr, .ref hSi, .ref hTu, .int (iI cm), .int (iI tu), .int (iI lg), .int (iI tt), .int (iI dn)]))] sz := by
  refine ck_start (Qc := fun A => cQi D vwCl (tyL kI kZ kL kJ) A (iI (bi True)) [(h, .inr (7, [.int (iI 0), .int (iI sn), .int (iI sm), .int (iI nw), .ref hRo, .int (iI rn), .int (iI bn), .ref hNu, .ref hWe, .ref hDa, .ref hVe, .int (iI kn), .ref hSl, .ref hTr, .ref hBx, .ref hSt, .ref hLa, .ref hOr, .ref hSi, .ref hTu, .int (iI cm), .int (iI tu), .int (iI lg), .int (iI tt), .int (iI dn)]))]) (cc := cX7_tolerance) (maxL := 2) (ret := (some .boolean)) (LV := [(0, .ref h), (1, .int (iI tu))]) (by decide) rfl rfl (Nat.le_of_ble_eq_true rfl) ?_
  intro p e s m below meth cd hadm hx hb hr hml hts hown hlocks hname hnoh hxT A hA hK hP hD hS ls hl
  refine lv_aload_n hx hb dX7_tolerance_0 rfl (lv_at hl 0 rfl) ?_
  refine lv_iconst (v := iI 0) hx hb dX7_tolerance_1 rfl ?_
  refine wk_put (ci := 7) (C := RX7) (T := TX7) (N := 25) hx hb hts (fun w h => (List.mem_cons_of_mem _ (hinX7 w h))) tyX7 tyX7_ok nmX7 hown hK hP hD hS 0 rfl rfl 0 (by decide) (hts _ (List.mem_cons_of_mem _ wd_612)) (fun _ h9 => h9) rfl rfl (Nat.le_of_ble_eq_true rfl) dX7_tolerance_2 (ws' := [(h, .inr (7, [.int (iI 0), .int (iI sn), .int (iI sm), .int (iI nw), .ref hRo, .int (iI rn), .int (iI bn), .ref hNu, .ref hWe, .ref hDa, .ref hVe, .int (iI kn), .ref hSl, .ref hTr, .ref hBx, .ref hSt, .ref hLa, .ref hOr, .ref hSi, .ref hTu, .int (iI cm), .int (iI al), .int (iI lg), .int (iI tt), .int (iI dn)]))]) rfl (fun H locs hP hD hS => ?_)
  refine lv_iload_n hx hb dX7_tolerance_5 rfl (lv_at hl 1 rfl) ?_
  refine wk_if_lt (tgt := 16) hx hb dX7_tolerance_6 (by decide) (by omega) (fun c_1 => ?_) (fun c_1 => ?_)
  · skip
    exfalso; omega
  · skip
    refine lv_iload_n hx hb dX7_tolerance_9 rfl (lv_at hl 1 rfl) ?_
    refine lv_sipush (v := iI 1000) hx hb dX7_tolerance_10 (by decide) ?_
    refine wk_icmp_le (tgt := 18) hx hb dX7_tolerance_13 (by decide) (by omega) (fun c_2 => ?_) (fun c_2 => ?_)
    · skip
      refine lv_aload_n hx hb dX7_tolerance_18 rfl (lv_at hl 0 rfl) ?_
      refine lv_iload_n hx hb dX7_tolerance_19 rfl (lv_at hl 1 rfl) ?_
      refine wk_put (ci := 7) (C := RX7) (T := TX7) (N := 25) hx hb hts (fun w h => (List.mem_cons_of_mem _ (hinX7 w h))) tyX7 tyX7_ok nmX7 hown hK hP hD hS 0 rfl rfl 21 (by decide) (hts _ (List.mem_cons_of_mem _ wd_633)) (fun _ h9 => h9) rfl rfl (Nat.le_of_ble_eq_true rfl) dX7_tolerance_20 (ws' := [(h, .inr (7, [.int (iI 0), .int (iI sn), .int (iI sm), .int (iI nw), .ref hRo, .int (iI rn), .int (iI bn), .ref hNu, .ref hWe, .ref hDa, .ref hVe, .int (iI kn), .ref hSl, .ref hTr, .ref hBx, .ref hSt, .ref hLa, .ref hOr, .ref hSi, .ref hTu, .int (iI cm), .int (iI tu), .int (iI lg), .int (iI tt), .int (iI dn)]))]) rfl (fun H locs hP hD hS => ?_)
      refine lv_iconst (v := iI 1) hx hb dX7_tolerance_23 rfl ?_
      exact rk_bool hx hb hr hlocks hK hP hD hS (by exact bi_t trivial) rfl dX7_tolerance_24
    · skip
      exfalso; omega

set_option maxHeartbeats 4000000 in
set_option maxRecDepth 100000 in
theorem tX7_tolerance_n (l : Launch) (D : va_G) (kI : ClassId) (kZ : ClassId) (kL : ClassId) (kJ : ClassId) (h : Nat) (hRo : Nat) (hNu : Nat) (hWe : Nat) (hDa : Nat) (hVe : Nat) (hSl : Nat) (hTr : Nat) (hBx : Nat) (hSt : Nat) (hLa : Nat) (hOr : Nat) (hSi : Nat) (hTu : Nat) (th : Int) (sn : Int) (sm : Int) (nw : Int) (rn : Int) (bn : Int) (kn : Int) (cm : Int) (al : Int) (lg : Int) (tt : Int) (dn : Int) (tu : Int) (sz : Nat) (htu : -2147483648 ≤ tu ∧ tu ≤ 2147483647) (hth : ¬ (0 ≤ tu ∧ tu ≤ 1000)) : CtI l yX7_tolerance wsX7_tolerance ({ frames := 0, cells := 0, slots := 0, locals := 0 }) D vwCl (tyL kI kZ kL kJ) [(h, .inr (7, [.int (iI th), .int (iI sn), .int (iI sm), .int (iI nw), .ref hRo, .int (iI rn), .int (iI bn), .ref hNu, .ref hWe, .ref hDa, .ref hVe, .int (iI kn), .ref hSl, .ref hTr, .ref hBx, .ref hSt, .ref hLa, .ref hOr, .ref hSi, .ref hTu, .int (iI cm), .int (iI al), .int (iI lg), .int (iI tt), .int (iI dn)]))] [.ref h, .int (iI tu)] (iI (bi False)) [(h, .inr (7, [.int (iI 0), .int (iI sn), .int (iI sm), .int (iI nw), .ref hRo, .int (iI rn), .int (iI bn), .ref hNu, .ref hWe, .ref hDa, .ref hVe, .int (iI kn), .ref hSl, .ref hTr, .ref hBx, .ref hSt, .ref hLa, .ref hOr, .ref hSi, .ref hTu, .int (iI cm), .int (iI al), .int (iI lg), .int (iI tt), .int (iI dn)]))] sz := by
  refine ck_start (Qc := fun A => cQi D vwCl (tyL kI kZ kL kJ) A (iI (bi False)) [(h, .inr (7, [.int (iI 0), .int (iI sn), .int (iI sm), .int (iI nw), .ref hRo, .int (iI rn), .int (iI bn), .ref hNu, .ref hWe, .ref hDa, .ref hVe, .int (iI kn), .ref hSl, .ref hTr, .ref hBx, .ref hSt, .ref hLa, .ref hOr, .ref hSi, .ref hTu, .int (iI cm), .int (iI al), .int (iI lg), .int (iI tt), .int (iI dn)]))]) (cc := cX7_tolerance) (maxL := 2) (ret := (some .boolean)) (LV := [(0, .ref h), (1, .int (iI tu))]) (by decide) rfl rfl (Nat.le_of_ble_eq_true rfl) ?_
  intro p e s m below meth cd hadm hx hb hr hml hts hown hlocks hname hnoh hxT A hA hK hP hD hS ls hl
  refine lv_aload_n hx hb dX7_tolerance_0 rfl (lv_at hl 0 rfl) ?_
  refine lv_iconst (v := iI 0) hx hb dX7_tolerance_1 rfl ?_
  refine wk_put (ci := 7) (C := RX7) (T := TX7) (N := 25) hx hb hts (fun w h => (List.mem_cons_of_mem _ (hinX7 w h))) tyX7 tyX7_ok nmX7 hown hK hP hD hS 0 rfl rfl 0 (by decide) (hts _ (List.mem_cons_of_mem _ wd_612)) (fun _ h9 => h9) rfl rfl (Nat.le_of_ble_eq_true rfl) dX7_tolerance_2 (ws' := [(h, .inr (7, [.int (iI 0), .int (iI sn), .int (iI sm), .int (iI nw), .ref hRo, .int (iI rn), .int (iI bn), .ref hNu, .ref hWe, .ref hDa, .ref hVe, .int (iI kn), .ref hSl, .ref hTr, .ref hBx, .ref hSt, .ref hLa, .ref hOr, .ref hSi, .ref hTu, .int (iI cm), .int (iI al), .int (iI lg), .int (iI tt), .int (iI dn)]))]) rfl (fun H locs hP hD hS => ?_)
  refine lv_iload_n hx hb dX7_tolerance_5 rfl (lv_at hl 1 rfl) ?_
  refine wk_if_lt (tgt := 16) hx hb dX7_tolerance_6 (by decide) (by omega) (fun c_1 => ?_) (fun c_1 => ?_)
  · skip
    refine lv_iconst (v := iI 0) hx hb dX7_tolerance_16 rfl ?_
    exact rk_bool hx hb hr hlocks hK hP hD hS (by exact bi_f id) rfl dX7_tolerance_17
  · skip
    refine lv_iload_n hx hb dX7_tolerance_9 rfl (lv_at hl 1 rfl) ?_
    refine lv_sipush (v := iI 1000) hx hb dX7_tolerance_10 (by decide) ?_
    refine wk_icmp_le (tgt := 18) hx hb dX7_tolerance_13 (by decide) (by omega) (fun c_2 => ?_) (fun c_2 => ?_)
    · skip
      exfalso; omega
    · skip
      refine lv_iconst (v := iI 0) hx hb dX7_tolerance_16 rfl ?_
      exact rk_bool hx hb hr hlocks hK hP hD hS (by exact bi_f id) rfl dX7_tolerance_17

set_option maxHeartbeats 4000000 in
set_option maxRecDepth 100000 in
theorem tX7_noShow_1 (l : Launch) (D : va_G) (kI : ClassId) (kZ : ClassId) (kL : ClassId) (kJ : ClassId) (h : Nat) (hRo : Nat) (hNu : Nat) (hWe : Nat) (hDa : Nat) (hVe : Nat) (hSl : Nat) (hTr : Nat) (hBx : Nat) (hSt : Nat) (hLa : Nat) (hOr : Nat) (hSi : Nat) (hTu : Nat) (th : Int) (sn : Int) (sm : Int) (nw : Int) (rn : Int) (bn : Int) (kn : Int) (cm : Int) (al : Int) (lg : Int) (tt : Int) (dn : Int) (tm : Int) (sz : Nat) (hnw : 0 ≤ nw ∧ nw ≤ 100000) (htm : -2147483648 ≤ tm ∧ tm ≤ 2147483647) (h1 : ¬ (nw ≤ tm ∧ tm ≤ 100000)) : CtI l yX7_noShow wsX7_noShow ({ frames := 1, cells := 0, slots := 0, locals := 21 }) D vwCl (tyL kI kZ kL kJ) [(h, .inr (7, [.int (iI th), .int (iI sn), .int (iI sm), .int (iI nw), .ref hRo, .int (iI rn), .int (iI bn), .ref hNu, .ref hWe, .ref hDa, .ref hVe, .int (iI kn), .ref hSl, .ref hTr, .ref hBx, .ref hSt, .ref hLa, .ref hOr, .ref hSi, .ref hTu, .int (iI cm), .int (iI al), .int (iI lg), .int (iI tt), .int (iI dn)]))] [.ref h, .int (iI tm)] (iI 0) [(h, .inr (7, [.int (iI 1), .int (iI sn), .int (iI sm), .int (iI nw), .ref hRo, .int (iI rn), .int (iI bn), .ref hNu, .ref hWe, .ref hDa, .ref hVe, .int (iI kn), .ref hSl, .ref hTr, .ref hBx, .ref hSt, .ref hLa, .ref hOr, .ref hSi, .ref hTu, .int (iI cm), .int (iI al), .int (iI lg), .int (iI tt), .int (iI dn)]))] sz := by
  refine ck_start (Qc := fun A => cQi D vwCl (tyL kI kZ kL kJ) A (iI 0) [(h, .inr (7, [.int (iI 1), .int (iI sn), .int (iI sm), .int (iI nw), .ref hRo, .int (iI rn), .int (iI bn), .ref hNu, .ref hWe, .ref hDa, .ref hVe, .int (iI kn), .ref hSl, .ref hTr, .ref hBx, .ref hSt, .ref hLa, .ref hOr, .ref hSi, .ref hTu, .int (iI cm), .int (iI al), .int (iI lg), .int (iI tt), .int (iI dn)]))]) (cc := cX7_noShow) (maxL := 4) (ret := (some .int)) (LV := [(0, .ref h), (1, .int (iI tm))]) (by decide) rfl rfl (Nat.le_of_ble_eq_true rfl) ?_
  intro p e s m below meth cd hadm hx hb hr hml hts hown hlocks hname hnoh hxT A hA hK hP hD hS ls hl
  refine lv_aload_n hx hb dX7_noShow_0 rfl (lv_at hl 0 rfl) ?_
  refine lv_iload_n hx hb dX7_noShow_1 rfl (lv_at hl 1 rfl) ?_
  refine pk_callI (va_runV (As := [.int (iI tm)]) (rest := []) ⟨hx, hb, hml, hown, hts⟩ (tX7_isTime l D kI kZ kL kJ h hRo hNu hWe hDa hVe hSl hTr hBx hSt hLa hOr hSi hTu th sn sm nw rn bn kn cm al lg tt dn tm s.heap.size (by first | assumption | omega) (by first | assumption | omega)) (cwV 1 hts (gd_V tb_cons wd_755 wd_757 wd_25 wd_41 wd_758) rfl rfl rfl (by decide +kernel) ⟨Nat.le_of_ble_eq_true rfl, Nat.le_of_ble_eq_true rfl⟩) (ck_preV hxT hK hP hD [0] rfl (by decide) (q0 := 0) rfl rfl rfl) rfl rfl hl.1 rfl (lv_room (Nat.le_of_ble_eq_true rfl)) dX7_noShow_2 ⟨Nat.zero_le _, Nat.zero_le _⟩) ?_
  refine wk_bif_ne (tgt := 14) hx hb dX7_noShow_5 (by decide) (fun c_1 => ?_) (fun c_1 => ?_)
  · skip
    exfalso; omega
  · skip
    refine lv_aload_n hx hb dX7_noShow_8 rfl (lv_at hl 0 rfl) ?_
    refine lv_iconst (v := iI 1) hx hb dX7_noShow_9 rfl ?_
    refine ck_backI (va_runV (As := [.int (iI 1)]) (rest := []) ⟨hx, hb, hml, hown, hts⟩ (tX7_fails l D kI kZ kL kJ h hRo hNu hWe hDa hVe hSl hTr hBx hSt hLa hOr hSi hTu th sn sm nw rn bn kn cm al lg tt dn 1 s.heap.size ) (cwV 1 hts (gd_V tb_cons wd_702 wd_704 wd_18 wd_41 wd_705) rfl rfl rfl (by decide +kernel) ⟨Nat.le_of_ble_eq_true rfl, Nat.le_of_ble_eq_true rfl⟩) (ck_preV hxT hK hP hD [0] rfl (by decide) (q0 := 0) rfl rfl rfl) rfl rfl hl.1 rfl (lv_room (Nat.le_of_ble_eq_true rfl)) dX7_noShow_10 ⟨Nat.zero_le _, Nat.zero_le _⟩) hP hD hS hA [0] [] (WR := []) rfl rfl (by decide) (by decide) (ws' := [(h, .inr (7, [.int (iI 1), .int (iI sn), .int (iI sm), .int (iI nw), .ref hRo, .int (iI rn), .int (iI bn), .ref hNu, .ref hWe, .ref hDa, .ref hVe, .int (iI kn), .ref hSl, .ref hTr, .ref hBx, .ref hSt, .ref hLa, .ref hOr, .ref hSi, .ref hTu, .int (iI cm), .int (iI al), .int (iI lg), .int (iI tt), .int (iI dn)]))]) rfl (fun H locs hP hD hS => ?_)
    exact rk_int hx hb hr hlocks hK hP hD hS (by first | rfl | omega) rfl dX7_noShow_13

set_option maxHeartbeats 4000000 in
set_option maxRecDepth 100000 in
theorem tX7_noShow (l : Launch) (D : va_G) (kI : ClassId) (kZ : ClassId) (kL : ClassId) (kJ : ClassId) (h : Nat) (hRo : Nat) (hNu : Nat) (hWe : Nat) (hDa : Nat) (hVe : Nat) (hSl : Nat) (hTr : Nat) (hBx : Nat) (hSt : Nat) (hLa : Nat) (hOr : Nat) (hSi : Nat) (hTu : Nat) (ks : Int → Int) (kz : Int → Int) (th : Int) (sn : Int) (sm : Int) (nw : Int) (rn : Int) (bn : Int) (kn : Int) (cm : Int) (al : Int) (lg : Int) (tt : Int) (dn : Int) (tk : Int → Int) (tm : Int) (sz : Nat) (hnw : 0 ≤ nw ∧ nw ≤ 100000) (htm : nw ≤ tm ∧ tm ≤ 100000) (hkn : 0 ≤ kn ∧ kn ≤ 60) (hks : ∀ j, 0 ≤ ks j ∧ ks j < 24) (hkz : ∀ j, 0 ≤ kz j ∧ kz j ≤ 1000000) : CtI l yX7_noShow wsX7_noShow ({ frames := 1, cells := 0, slots := 0, locals := 21 }) D vwCl (tyL kI kZ kL kJ) [(h, .inr (7, [.int (iI th), .int (iI sn), .int (iI sm), .int (iI nw), .ref hRo, .int (iI rn), .int (iI bn), .ref hNu, .ref hWe, .ref hDa, .ref hVe, .int (iI kn), .ref hSl, .ref hTr, .ref hBx, .ref hSt, .ref hLa, .ref hOr, .ref hSi, .ref hTu, .int (iI cm), .int (iI al), .int (iI lg), .int (iI tt), .int (iI dn)])), (hSl, .inl (kI, 61, .inl (iF ks))), (hSt, .inl (kI, 61, .inl (iF kz)))] [.ref h, .int (iI tm)] (iI ((nsL tm kn ks (kn + 1 - 1).toNat 1 kz tk 0).2.2)) [(h, .inr (7, [.int (iI 0), .int (iI sn), .int (iI sm), .int (iI tm), .ref hRo, .int (iI rn), .int (iI bn), .ref hNu, .ref hWe, .ref hDa, .ref hVe, .int (iI kn), .ref hSl, .ref hTr, .ref hBx, .ref hSt, .ref hLa, .ref hOr, .ref hSi, .ref hTu, .int (iI cm), .int (iI al), .int (iI lg), .int (iI tt), .int (iI dn)])), (hSl, .inl (kI, 61, .inl (iF ks))), (hSt, .inl (kI, 61, .inl (iF ((nsL tm kn ks (kn + 1 - 1).toNat 1 kz tk 0).1))))] sz := by
  refine ck_start (Qc := fun A => cQi D vwCl (tyL kI kZ kL kJ) A (iI ((nsL tm kn ks (kn + 1 - 1).toNat 1 kz tk 0).2.2)) [(h, .inr (7, [.int (iI 0), .int (iI sn), .int (iI sm), .int (iI tm), .ref hRo, .int (iI rn), .int (iI bn), .ref hNu, .ref hWe, .ref hDa, .ref hVe, .int (iI kn), .ref hSl, .ref hTr, .ref hBx, .ref hSt, .ref hLa, .ref hOr, .ref hSi, .ref hTu, .int (iI cm), .int (iI al), .int (iI lg), .int (iI tt), .int (iI dn)])), (hSl, .inl (kI, 61, .inl (iF ks))), (hSt, .inl (kI, 61, .inl (iF ((nsL tm kn ks (kn + 1 - 1).toNat 1 kz tk 0).1))))]) (cc := cX7_noShow) (maxL := 4) (ret := (some .int)) (LV := [(0, .ref h), (1, .int (iI tm))]) (by decide) rfl rfl (Nat.le_of_ble_eq_true rfl) ?_
  intro p e s m below meth cd hadm hx hb hr hml hts hown hlocks hname hnoh hxT A hA hK hP hD hS ls hl
  refine lv_aload_n hx hb dX7_noShow_0 rfl (lv_at hl 0 rfl) ?_
  refine lv_iload_n hx hb dX7_noShow_1 rfl (lv_at hl 1 rfl) ?_
  refine pk_callI (va_runV (As := [.int (iI tm)]) (rest := []) ⟨hx, hb, hml, hown, hts⟩ (tX7_isTime l D kI kZ kL kJ h hRo hNu hWe hDa hVe hSl hTr hBx hSt hLa hOr hSi hTu th sn sm nw rn bn kn cm al lg tt dn tm s.heap.size (by first | assumption | omega) (by first | assumption | omega)) (cwV 1 hts (gd_V tb_cons wd_755 wd_757 wd_25 wd_41 wd_758) rfl rfl rfl (by decide +kernel) ⟨Nat.le_of_ble_eq_true rfl, Nat.le_of_ble_eq_true rfl⟩) (ck_preV hxT hK hP hD [0] rfl (by decide) (q0 := 0) rfl rfl rfl) rfl rfl hl.1 rfl (lv_room (Nat.le_of_ble_eq_true rfl)) dX7_noShow_2 ⟨Nat.zero_le _, Nat.zero_le _⟩) ?_
  refine wk_bif_ne (tgt := 14) hx hb dX7_noShow_5 (by decide) (fun c_1 => ?_) (fun c_1 => ?_)
  · skip
    refine lv_aload_n hx hb dX7_noShow_14 rfl (lv_at hl 0 rfl) ?_
    refine lv_iconst (v := iI 0) hx hb dX7_noShow_15 rfl ?_
    refine wk_put (ci := 7) (C := RX7) (T := TX7) (N := 25) hx hb hts (fun w h => (List.mem_cons_of_mem _ (hinX7 w h))) tyX7 tyX7_ok nmX7 hown hK hP hD hS 0 rfl rfl 0 (by decide) (hts _ (List.mem_cons_of_mem _ wd_612)) (fun _ h9 => h9) rfl rfl (Nat.le_of_ble_eq_true rfl) dX7_noShow_16 (ws' := [(h, .inr (7, [.int (iI 0), .int (iI sn), .int (iI sm), .int (iI nw), .ref hRo, .int (iI rn), .int (iI bn), .ref hNu, .ref hWe, .ref hDa, .ref hVe, .int (iI kn), .ref hSl, .ref hTr, .ref hBx, .ref hSt, .ref hLa, .ref hOr, .ref hSi, .ref hTu, .int (iI cm), .int (iI al), .int (iI lg), .int (iI tt), .int (iI dn)])), (hSl, .inl (kI, 61, .inl (iF ks))), (hSt, .inl (kI, 61, .inl (iF kz)))]) rfl (fun H locs hP hD hS => ?_)
    refine lv_aload_n hx hb dX7_noShow_19 rfl (lv_at hl 0 rfl) ?_
    refine lv_iload_n hx hb dX7_noShow_20 rfl (lv_at hl 1 rfl) ?_
    refine wk_put (ci := 7) (C := RX7) (T := TX7) (N := 25) hx hb hts (fun w h => (List.mem_cons_of_mem _ (hinX7 w h))) tyX7 tyX7_ok nmX7 hown hK hP hD hS 0 rfl rfl 3 (by decide) (hts _ (List.mem_cons_of_mem _ wd_615)) (fun _ h9 => h9) rfl rfl (Nat.le_of_ble_eq_true rfl) dX7_noShow_21 (ws' := [(h, .inr (7, [.int (iI 0), .int (iI sn), .int (iI sm), .int (iI tm), .ref hRo, .int (iI rn), .int (iI bn), .ref hNu, .ref hWe, .ref hDa, .ref hVe, .int (iI kn), .ref hSl, .ref hTr, .ref hBx, .ref hSt, .ref hLa, .ref hOr, .ref hSi, .ref hTu, .int (iI cm), .int (iI al), .int (iI lg), .int (iI tt), .int (iI dn)])), (hSl, .inl (kI, 61, .inl (iF ks))), (hSt, .inl (kI, 61, .inl (iF kz)))]) rfl (fun H locs hP hD hS => ?_)
    refine lv_iconst (v := iI 0) hx hb dX7_noShow_24 rfl ?_
    refine lv_istore_n (lv' := [(2, .int (iI 0)), (0, .ref h), (1, .int (iI tm))]) hx hb dX7_noShow_25 rfl hl (by decide) rfl (fun ls hl => ?_)
    refine lv_iconst (v := iI 1) hx hb dX7_noShow_26 rfl ?_
    refine lv_istore_n (lv' := [(3, .int (iI 1)), (2, .int (iI 0)), (0, .ref h), (1, .int (iI tm))]) hx hb dX7_noShow_27 rfl hl (by decide) rfl (fun ls hl => ?_)
    have loop_28 : ∀ (fu : Nat) (c0 : Int) (i : Int) (x : Int → Int) (y : Int → Int), (1 ≤ i ∧ i ≤ kn + 1) → (∀ j, 0 ≤ x j ∧ x j ≤ 1000000) → (nsL tm kn ks (kn + 1 - i).toNat i x y c0 = nsL tm kn ks (kn + 1 - 1).toNat 1 kz tk 0) → (kn + 1 - i) < (fu : Int) → ∀ (H : Heap) (locs : List Loc) (ls : Array Slot), va_P D vwCl [(h, .inr (7, [.int (iI 0), .int (iI sn), .int (iI sm), .int (iI tm), .ref hRo, .int (iI rn), .int (iI bn), .ref hNu, .ref hWe, .ref hDa, .ref hVe, .int (iI kn), .ref hSl, .ref hTr, .ref hBx, .ref hSt, .ref hLa, .ref hOr, .ref hSi, .ref hTu, .int (iI cm), .int (iI al), .int (iI lg), .int (iI tt), .int (iI dn)])), (hSl, .inl (kI, 61, .inl (iF ks))), (hSt, .inl (kI, 61, .inl (iF x)))] H → va_D A [(h, .inr (7, [.int (iI 0), .int (iI sn), .int (iI sm), .int (iI tm), .ref hRo, .int (iI rn), .int (iI bn), .ref hNu, .ref hWe, .ref hDa, .ref hVe, .int (iI kn), .ref hSl, .ref hTr, .ref hBx, .ref hSt, .ref hLa, .ref hOr, .ref hSi, .ref hTu, .int (iI cm), .int (iI al), .int (iI lg), .int (iI tt), .int (iI dn)])), (hSl, .inl (kI, 61, .inl (iF ks))), (hSt, .inl (kI, 61, .inl (iF x)))] → va_S A s.heap H locs → lv_has ls 4 [(3, .int (iI i)), (2, .int (iI c0)), (0, .ref h), (1, .int (iI tm))] → W p l e ({ frames := 1, cells := 0, slots := 0, locals := 21 }) s m ([.ref h, .int (iI tm)] : List Value).toArray below meth cd H locs 0 0 (MQ below (cQi D vwCl (tyL kI kZ kL kJ) A (iI ((nsL tm kn ks (kn + 1 - 1).toNat 1 kz tk 0).2.2)) [(h, .inr (7, [.int (iI 0), .int (iI sn), .int (iI sm), .int (iI tm), .ref hRo, .int (iI rn), .int (iI bn), .ref hNu, .ref hWe, .ref hDa, .ref hVe, .int (iI kn), .ref hSl, .ref hTr, .ref hBx, .ref hSt, .ref hLa, .ref hOr, .ref hSi, .ref hTu, .int (iI cm), .int (iI al), .int (iI lg), .int (iI tt), .int (iI dn)])), (hSl, .inl (kI, 61, .inl (iF ks))), (hSt, .inl (kI, 61, .inl (iF ((nsL tm kn ks (kn + 1 - 1).toNat 1 kz tk 0).1))))]) ([.ref h, .int (iI tm)] : List Value).toArray s 0 0 A) (F0 m 28 ls []) := by
      intro fu
      induction fu with
      | zero => intro c0 i x y hi hx0 hE hfu; exfalso; omega
      | succ fu ih_28 =>
        intro c0 i x y hi hx0 hE hfu H locs ls hP hD hS hl
        refine lv_iload_n hx hb dX7_noShow_28 rfl (lv_at hl 0 rfl) ?_
        refine lv_aload_n hx hb dX7_noShow_29 rfl (lv_at hl 2 rfl) ?_
        refine va_get (D := D) (ci := 7) (v := .int (iI kn)) (C := RX7) (T := TX7) (N := 25) hx hb hts (fun w h => (List.mem_cons_of_mem _ (hinX7 w h))) hown hK hP 0 rfl rfl 11 (by decide) (hts _ (List.mem_cons_of_mem _ wd_623)) (fun _ h9 => h9) rfl dX7_noShow_30 ?_
        refine wk_icmp_gt (tgt := 85) hx hb dX7_noShow_33 (by decide) (by omega) (fun c_2 => ?_) (fun c_2 => ?_)
        · skip
          have e9 := hE
          rw [nsL_end (by omega)] at e9
          refine lv_iload_n hx hb dX7_noShow_85 rfl (lv_at hl 1 rfl) ?_
          exact rk_int hx hb hr hlocks hK hP hD hS (by rw [← e9]) (by rw [← e9]) dX7_noShow_86
        · skip
          refine lv_aload_n hx hb dX7_noShow_36 rfl (lv_at hl 2 rfl) ?_
          refine va_get (D := D) (ci := 7) (v := .ref hSt) (C := RX7) (T := TX7) (N := 25) hx hb hts (fun w h => (List.mem_cons_of_mem _ (hinX7 w h))) hown hK hP 0 rfl rfl 15 (by decide) (hts _ (List.mem_cons_of_mem _ wd_627)) (fun _ h9 => h9) rfl dX7_noShow_37 ?_
          refine lv_iload_n hx hb dX7_noShow_40 rfl (lv_at hl 0 rfl) ?_
          refine wk_iald hx hb hK hP 2 0 rfl rfl (by decide) (by omega) dX7_noShow_41 ?_
          have b_3 := hx0 i
          refine wk_if_ne (tgt := 79) hx hb dX7_noShow_42 (by decide) (by omega) (fun c_4 => ?_) (fun c_4 => ?_)
          · skip
            refine wk_iinc (k := 0) (lv' := [(3, .int (iI (i + 1))), (2, .int (iI c0)), (0, .ref h), (1, .int (iI tm))]) hx hb dX7_noShow_79 hl rfl (by decide) rfl (fun ls hl => ?_)
            refine lv_goto (tgt := 28) hx hb dX7_noShow_82 (by decide) ?_
            exact ih_28 c0 (i + 1) x y (by first | assumption | omega) (by first | assumption | (intro j; unfold iu; split; omega; exact hx0 j)) (by have e9 := hE; rw [nsL_step (by omega)] at e9; first | (rw [if_pos (by omega)] at e9; exact e9) | (rw [if_neg (by omega)] at e9; exact e9)) (by omega) H locs ls hP hD hS (lv_sub hl [0, 1, 2, 3] rfl)
          · skip
            refine lv_aload_n hx hb dX7_noShow_45 rfl (lv_at hl 2 rfl) ?_
            refine va_get (D := D) (ci := 7) (v := .int (iI tm)) (C := RX7) (T := TX7) (N := 25) hx hb hts (fun w h => (List.mem_cons_of_mem _ (hinX7 w h))) hown hK hP 0 rfl rfl 3 (by decide) (hts _ (List.mem_cons_of_mem _ wd_615)) (fun _ h9 => h9) rfl dX7_noShow_46 ?_
            refine lv_sipush (v := iI 600) hx hb dX7_noShow_49 (by decide) ?_
            refine lv_aload_n hx hb dX7_noShow_52 rfl (lv_at hl 2 rfl) ?_
            refine va_get (D := D) (ci := 7) (v := .ref hSl) (C := RX7) (T := TX7) (N := 25) hx hb hts (fun w h => (List.mem_cons_of_mem _ (hinX7 w h))) hown hK hP 0 rfl rfl 12 (by decide) (hts _ (List.mem_cons_of_mem _ wd_624)) (fun _ h9 => h9) rfl dX7_noShow_53 ?_
            refine lv_iload_n hx hb dX7_noShow_56 rfl (lv_at hl 0 rfl) ?_
            refine wk_iald hx hb hK hP 1 0 rfl rfl (by decide) (by omega) dX7_noShow_57 ?_
            have b_5 := hks i
            refine wk_imul hx hb dX7_noShow_58 ?_
            refine lv_sipush (v := iI 599) hx hb dX7_noShow_59 (by decide) ?_
            refine wk_iadd hx hb dX7_noShow_62 ?_
            refine lv_bipush (v := iI 120) hx hb dX7_noShow_63 (by decide) ?_
            refine wk_iadd hx hb dX7_noShow_65 ?_
            refine wk_icmp_le (tgt := 79) hx hb dX7_noShow_66 (by decide) (by omega) (fun c_6 => ?_) (fun c_6 => ?_)
            · skip
              refine wk_iinc (k := 0) (lv' := [(3, .int (iI (i + 1))), (2, .int (iI c0)), (0, .ref h), (1, .int (iI tm))]) hx hb dX7_noShow_79 hl rfl (by decide) rfl (fun ls hl => ?_)
              refine lv_goto (tgt := 28) hx hb dX7_noShow_82 (by decide) ?_
              exact ih_28 c0 (i + 1) x y (by first | assumption | omega) (by first | assumption | (intro j; unfold iu; split; omega; exact hx0 j)) (by have e9 := hE; rw [nsL_step (by omega)] at e9; first | (rw [if_pos (by omega)] at e9; exact e9) | (rw [if_neg (by omega)] at e9; exact e9)) (by omega) H locs ls hP hD hS (lv_sub hl [0, 1, 2, 3] rfl)
            · skip
              refine lv_aload_n hx hb dX7_noShow_69 rfl (lv_at hl 2 rfl) ?_
              refine va_get (D := D) (ci := 7) (v := .ref hSt) (C := RX7) (T := TX7) (N := 25) hx hb hts (fun w h => (List.mem_cons_of_mem _ (hinX7 w h))) hown hK hP 0 rfl rfl 15 (by decide) (hts _ (List.mem_cons_of_mem _ wd_627)) (fun _ h9 => h9) rfl dX7_noShow_70 ?_
              refine lv_iload_n hx hb dX7_noShow_73 rfl (lv_at hl 0 rfl) ?_
              refine lv_iconst (v := iI 3) hx hb dX7_noShow_74 rfl ?_
              refine wk_iast hx hb hK hP hD hS 2 0 rfl rfl (by decide) (by omega) dX7_noShow_75 (ws' := [(h, .inr (7, [.int (iI 0), .int (iI sn), .int (iI sm), .int (iI tm), .ref hRo, .int (iI rn), .int (iI bn), .ref hNu, .ref hWe, .ref hDa, .ref hVe, .int (iI kn), .ref hSl, .ref hTr, .ref hBx, .ref hSt, .ref hLa, .ref hOr, .ref hSi, .ref hTu, .int (iI cm), .int (iI al), .int (iI lg), .int (iI tt), .int (iI dn)])), (hSl, .inl (kI, 61, .inl (iF ks))), (hSt, .inl (kI, 61, .inl (iF (iu x i 3))))]) rfl (fun H locs hP hD hS => ?_)
              refine wk_iinc (k := 1) (lv' := [(2, .int (iI (c0 + 1))), (3, .int (iI i)), (0, .ref h), (1, .int (iI tm))]) hx hb dX7_noShow_76 hl rfl (by decide) rfl (fun ls hl => ?_)
              refine wk_iinc (k := 1) (lv' := [(3, .int (iI (i + 1))), (2, .int (iI (c0 + 1))), (0, .ref h), (1, .int (iI tm))]) hx hb dX7_noShow_79 hl rfl (by decide) rfl (fun ls hl => ?_)
              refine lv_goto (tgt := 28) hx hb dX7_noShow_82 (by decide) ?_
              exact ih_28 (c0 + 1) (i + 1) (iu x i 3) (iu y (ks i) (y (ks i) - 1)) (by first | assumption | omega) (by first | assumption | (intro j; unfold iu; split; omega; exact hx0 j)) (by have e9 := hE; rw [nsL_step (by omega)] at e9; first | (rw [if_pos (by omega)] at e9; exact e9) | (rw [if_neg (by omega)] at e9; exact e9)) (by omega) H locs ls hP hD hS (lv_sub hl [0, 1, 2, 3] rfl)
    exact loop_28 (kn + 1 - 1).toNat.succ 0 1 kz tk (by first | assumption | rfl | omega) (by assumption) (by rfl) (by omega) H locs ls hP hD hS (lv_sub hl [0, 1, 2, 3] rfl)
  · skip
    exfalso; omega

set_option maxHeartbeats 4000000 in
set_option maxRecDepth 100000 in
theorem tX7_change_1 (l : Launch) (D : va_G) (kI : ClassId) (kZ : ClassId) (kL : ClassId) (kJ : ClassId) (h : Nat) (hRo : Nat) (hNu : Nat) (hWe : Nat) (hDa : Nat) (hVe : Nat) (hSl : Nat) (hTr : Nat) (hBx : Nat) (hSt : Nat) (hLa : Nat) (hOr : Nat) (hSi : Nat) (hTu : Nat) (th : Int) (sn : Int) (sm : Int) (nw : Int) (rn : Int) (bn : Int) (kn : Int) (cm : Int) (al : Int) (lg : Int) (tt : Int) (dn : Int) (bk : Int) (sl : Int) (sz : Nat) (hkn : 0 ≤ kn ∧ kn ≤ 60) (hsn : 1 ≤ sn ∧ sn ≤ 24) (hbk : -2147483648 ≤ bk ∧ bk ≤ 2147483647) (hsl : -2147483648 ≤ sl ∧ sl ≤ 2147483647) (h1 : ¬ ((1 ≤ bk ∧ bk ≤ kn) ∧ (0 ≤ sl ∧ sl < sn))) : CtI l yX7_change wsX7_change ({ frames := 1, cells := 0, slots := 0, locals := 21 }) D vwCl (tyL kI kZ kL kJ) [(h, .inr (7, [.int (iI th), .int (iI sn), .int (iI sm), .int (iI nw), .ref hRo, .int (iI rn), .int (iI bn), .ref hNu, .ref hWe, .ref hDa, .ref hVe, .int (iI kn), .ref hSl, .ref hTr, .ref hBx, .ref hSt, .ref hLa, .ref hOr, .ref hSi, .ref hTu, .int (iI cm), .int (iI al), .int (iI lg), .int (iI tt), .int (iI dn)]))] [.ref h, .int (iI bk), .int (iI sl)] (iI 0) [(h, .inr (7, [.int (iI 1), .int (iI sn), .int (iI sm), .int (iI nw), .ref hRo, .int (iI rn), .int (iI bn), .ref hNu, .ref hWe, .ref hDa, .ref hVe, .int (iI kn), .ref hSl, .ref hTr, .ref hBx, .ref hSt, .ref hLa, .ref hOr, .ref hSi, .ref hTu, .int (iI cm), .int (iI al), .int (iI lg), .int (iI tt), .int (iI dn)]))] sz := by
  refine ck_start (Qc := fun A => cQi D vwCl (tyL kI kZ kL kJ) A (iI 0) [(h, .inr (7, [.int (iI 1), .int (iI sn), .int (iI sm), .int (iI nw), .ref hRo, .int (iI rn), .int (iI bn), .ref hNu, .ref hWe, .ref hDa, .ref hVe, .int (iI kn), .ref hSl, .ref hTr, .ref hBx, .ref hSt, .ref hLa, .ref hOr, .ref hSi, .ref hTu, .int (iI cm), .int (iI al), .int (iI lg), .int (iI tt), .int (iI dn)]))]) (cc := cX7_change) (maxL := 3) (ret := (some .int)) (LV := [(0, .ref h), (1, .int (iI bk)), (2, .int (iI sl))]) (by decide) rfl rfl (Nat.le_of_ble_eq_true rfl) ?_
  intro p e s m below meth cd hadm hx hb hr hml hts hown hlocks hname hnoh hxT A hA hK hP hD hS ls hl
  refine lv_aload_n hx hb dX7_change_0 rfl (lv_at hl 0 rfl) ?_
  refine lv_iload_n hx hb dX7_change_1 rfl (lv_at hl 1 rfl) ?_
  refine pk_callI (va_runV (As := [.int (iI bk)]) (rest := []) ⟨hx, hb, hml, hown, hts⟩ (tX7_isBooking l D kI kZ kL kJ h hRo hNu hWe hDa hVe hSl hTr hBx hSt hLa hOr hSi hTu th sn sm nw rn bn kn cm al lg tt dn bk s.heap.size (by first | assumption | omega) (by first | assumption | omega)) (cwV 1 hts (gd_V tb_cons wd_751 wd_753 wd_24 wd_41 wd_754) rfl rfl rfl (by decide +kernel) ⟨Nat.le_of_ble_eq_true rfl, Nat.le_of_ble_eq_true rfl⟩) (ck_preV hxT hK hP hD [0] rfl (by decide) (q0 := 0) rfl rfl rfl) rfl rfl hl.1 rfl (lv_room (Nat.le_of_ble_eq_true rfl)) dX7_change_2 ⟨Nat.zero_le _, Nat.zero_le _⟩) ?_
  refine wk_bif_eq (tgt := 16) hx hb dX7_change_5 (by decide) (fun c_1 => ?_) (fun c_1 => ?_)
  · skip
    refine lv_aload_n hx hb dX7_change_16 rfl (lv_at hl 0 rfl) ?_
    refine lv_iconst (v := iI 1) hx hb dX7_change_17 rfl ?_
    refine ck_backI (va_runV (As := [.int (iI 1)]) (rest := []) ⟨hx, hb, hml, hown, hts⟩ (tX7_fails l D kI kZ kL kJ h hRo hNu hWe hDa hVe hSl hTr hBx hSt hLa hOr hSi hTu th sn sm nw rn bn kn cm al lg tt dn 1 s.heap.size ) (cwV 1 hts (gd_V tb_cons wd_702 wd_704 wd_18 wd_41 wd_705) rfl rfl rfl (by decide +kernel) ⟨Nat.le_of_ble_eq_true rfl, Nat.le_of_ble_eq_true rfl⟩) (ck_preV hxT hK hP hD [0] rfl (by decide) (q0 := 0) rfl rfl rfl) rfl rfl hl.1 rfl (lv_room (Nat.le_of_ble_eq_true rfl)) dX7_change_18 ⟨Nat.zero_le _, Nat.zero_le _⟩) hP hD hS hA [0] [] (WR := []) rfl rfl (by decide) (by decide) (ws' := [(h, .inr (7, [.int (iI 1), .int (iI sn), .int (iI sm), .int (iI nw), .ref hRo, .int (iI rn), .int (iI bn), .ref hNu, .ref hWe, .ref hDa, .ref hVe, .int (iI kn), .ref hSl, .ref hTr, .ref hBx, .ref hSt, .ref hLa, .ref hOr, .ref hSi, .ref hTu, .int (iI cm), .int (iI al), .int (iI lg), .int (iI tt), .int (iI dn)]))]) rfl (fun H locs hP hD hS => ?_)
    exact rk_int hx hb hr hlocks hK hP hD hS (by first | rfl | omega) rfl dX7_change_21
  · skip
    refine lv_aload_n hx hb dX7_change_8 rfl (lv_at hl 0 rfl) ?_
    refine lv_iload_n hx hb dX7_change_9 rfl (lv_at hl 2 rfl) ?_
    refine pk_callI (va_runV (As := [.int (iI sl)]) (rest := []) ⟨hx, hb, hml, hown, hts⟩ (tX7_isSlot l D kI kZ kL kJ h hRo hNu hWe hDa hVe hSl hTr hBx hSt hLa hOr hSi hTu th sn sm nw rn bn kn cm al lg tt dn sl s.heap.size (by first | assumption | omega) (by first | assumption | omega)) (cwV 1 hts (gd_V tb_cons wd_735 wd_737 wd_21 wd_41 wd_738) rfl rfl rfl (by decide +kernel) ⟨Nat.le_of_ble_eq_true rfl, Nat.le_of_ble_eq_true rfl⟩) (ck_preV hxT hK hP hD [0] rfl (by decide) (q0 := 0) rfl rfl rfl) rfl rfl hl.1 rfl (lv_room (Nat.le_of_ble_eq_true rfl)) dX7_change_10 ⟨Nat.zero_le _, Nat.zero_le _⟩) ?_
    refine wk_bif_ne (tgt := 22) hx hb dX7_change_13 (by decide) (fun c_2 => ?_) (fun c_2 => ?_)
    · skip
      exfalso; omega
    · skip
      refine lv_aload_n hx hb dX7_change_16 rfl (lv_at hl 0 rfl) ?_
      refine lv_iconst (v := iI 1) hx hb dX7_change_17 rfl ?_
      refine ck_backI (va_runV (As := [.int (iI 1)]) (rest := []) ⟨hx, hb, hml, hown, hts⟩ (tX7_fails l D kI kZ kL kJ h hRo hNu hWe hDa hVe hSl hTr hBx hSt hLa hOr hSi hTu th sn sm nw rn bn kn cm al lg tt dn 1 s.heap.size ) (cwV 1 hts (gd_V tb_cons wd_702 wd_704 wd_18 wd_41 wd_705) rfl rfl rfl (by decide +kernel) ⟨Nat.le_of_ble_eq_true rfl, Nat.le_of_ble_eq_true rfl⟩) (ck_preV hxT hK hP hD [0] rfl (by decide) (q0 := 0) rfl rfl rfl) rfl rfl hl.1 rfl (lv_room (Nat.le_of_ble_eq_true rfl)) dX7_change_18 ⟨Nat.zero_le _, Nat.zero_le _⟩) hP hD hS hA [0] [] (WR := []) rfl rfl (by decide) (by decide) (ws' := [(h, .inr (7, [.int (iI 1), .int (iI sn), .int (iI sm), .int (iI nw), .ref hRo, .int (iI rn), .int (iI bn), .ref hNu, .ref hWe, .ref hDa, .ref hVe, .int (iI kn), .ref hSl, .ref hTr, .ref hBx, .ref hSt, .ref hLa, .ref hOr, .ref hSi, .ref hTu, .int (iI cm), .int (iI al), .int (iI lg), .int (iI tt), .int (iI dn)]))]) rfl (fun H locs hP hD hS => ?_)
      exact rk_int hx hb hr hlocks hK hP hD hS (by first | rfl | omega) rfl dX7_change_21

set_option maxHeartbeats 4000000 in
set_option maxRecDepth 100000 in
theorem tX7_change_0 (l : Launch) (D : va_G) (kI : ClassId) (kZ : ClassId) (kL : ClassId) (kJ : ClassId) (h : Nat) (hRo : Nat) (hNu : Nat) (hWe : Nat) (hDa : Nat) (hVe : Nat) (hSl : Nat) (hTr : Nat) (hBx : Nat) (hSt : Nat) (hLa : Nat) (hOr : Nat) (hSi : Nat) (hTu : Nat) (ks : Int → Int) (kz : Int → Int) (th : Int) (sn : Int) (sm : Int) (nw : Int) (rn : Int) (bn : Int) (kn : Int) (cm : Int) (al : Int) (lg : Int) (tt : Int) (dn : Int) (bk : Int) (sl : Int) (sz : Nat) (hkn : 0 ≤ kn ∧ kn ≤ 60) (hbk : 1 ≤ bk ∧ bk ≤ kn) (hsn : 1 ≤ sn ∧ sn ≤ 24) (hsl : 0 ≤ sl ∧ sl < sn) (hks : ∀ j, 0 ≤ ks j ∧ ks j ≤ 1000000) (hkz : ∀ j, 0 ≤ kz j ∧ kz j ≤ 1000000) (h2 : ¬ kz bk = 0 ∨ ks bk = sl) : CtI l yX7_change wsX7_change ({ frames := 1, cells := 0, slots := 0, locals := 21 }) D vwCl (tyL kI kZ kL kJ) [(h, .inr (7, [.int (iI th), .int (iI sn), .int (iI sm), .int (iI nw), .ref hRo, .int (iI rn), .int (iI bn), .ref hNu, .ref hWe, .ref hDa, .ref hVe, .int (iI kn), .ref hSl, .ref hTr, .ref hBx, .ref hSt, .ref hLa, .ref hOr, .ref hSi, .ref hTu, .int (iI cm), .int (iI al), .int (iI lg), .int (iI tt), .int (iI dn)])), (hSl, .inl (kI, 61, .inl (iF ks))), (hSt, .inl (kI, 61, .inl (iF kz)))] [.ref h, .int (iI bk), .int (iI sl)] (iI 0) [(h, .inr (7, [.int (iI 0), .int (iI sn), .int (iI sm), .int (iI nw), .ref hRo, .int (iI rn), .int (iI bn), .ref hNu, .ref hWe, .ref hDa, .ref hVe, .int (iI kn), .ref hSl, .ref hTr, .ref hBx, .ref hSt, .ref hLa, .ref hOr, .ref hSi, .ref hTu, .int (iI cm), .int (iI al), .int (iI lg), .int (iI tt), .int (iI dn)])), (hSl, .inl (kI, 61, .inl (iF ks))), (hSt, .inl (kI, 61, .inl (iF kz)))] sz := by
  refine ck_start (Qc := fun A => cQi D vwCl (tyL kI kZ kL kJ) A (iI 0) [(h, .inr (7, [.int (iI 0), .int (iI sn), .int (iI sm), .int (iI nw), .ref hRo, .int (iI rn), .int (iI bn), .ref hNu, .ref hWe, .ref hDa, .ref hVe, .int (iI kn), .ref hSl, .ref hTr, .ref hBx, .ref hSt, .ref hLa, .ref hOr, .ref hSi, .ref hTu, .int (iI cm), .int (iI al), .int (iI lg), .int (iI tt), .int (iI dn)])), (hSl, .inl (kI, 61, .inl (iF ks))), (hSt, .inl (kI, 61, .inl (iF kz)))]) (cc := cX7_change) (maxL := 3) (ret := (some .int)) (LV := [(0, .ref h), (1, .int (iI bk)), (2, .int (iI sl))]) (by decide) rfl rfl (Nat.le_of_ble_eq_true rfl) ?_
  intro p e s m below meth cd hadm hx hb hr hml hts hown hlocks hname hnoh hxT A hA hK hP hD hS ls hl
  refine lv_aload_n hx hb dX7_change_0 rfl (lv_at hl 0 rfl) ?_
  refine lv_iload_n hx hb dX7_change_1 rfl (lv_at hl 1 rfl) ?_
  refine pk_callI (va_runV (As := [.int (iI bk)]) (rest := []) ⟨hx, hb, hml, hown, hts⟩ (tX7_isBooking l D kI kZ kL kJ h hRo hNu hWe hDa hVe hSl hTr hBx hSt hLa hOr hSi hTu th sn sm nw rn bn kn cm al lg tt dn bk s.heap.size (by first | assumption | omega) (by first | assumption | omega)) (cwV 1 hts (gd_V tb_cons wd_751 wd_753 wd_24 wd_41 wd_754) rfl rfl rfl (by decide +kernel) ⟨Nat.le_of_ble_eq_true rfl, Nat.le_of_ble_eq_true rfl⟩) (ck_preV hxT hK hP hD [0] rfl (by decide) (q0 := 0) rfl rfl rfl) rfl rfl hl.1 rfl (lv_room (Nat.le_of_ble_eq_true rfl)) dX7_change_2 ⟨Nat.zero_le _, Nat.zero_le _⟩) ?_
  refine wk_bif_eq (tgt := 16) hx hb dX7_change_5 (by decide) (fun c_1 => ?_) (fun c_1 => ?_)
  · skip
    exfalso; omega
  · skip
    refine lv_aload_n hx hb dX7_change_8 rfl (lv_at hl 0 rfl) ?_
    refine lv_iload_n hx hb dX7_change_9 rfl (lv_at hl 2 rfl) ?_
    refine pk_callI (va_runV (As := [.int (iI sl)]) (rest := []) ⟨hx, hb, hml, hown, hts⟩ (tX7_isSlot l D kI kZ kL kJ h hRo hNu hWe hDa hVe hSl hTr hBx hSt hLa hOr hSi hTu th sn sm nw rn bn kn cm al lg tt dn sl s.heap.size (by first | assumption | omega) (by first | assumption | omega)) (cwV 1 hts (gd_V tb_cons wd_735 wd_737 wd_21 wd_41 wd_738) rfl rfl rfl (by decide +kernel) ⟨Nat.le_of_ble_eq_true rfl, Nat.le_of_ble_eq_true rfl⟩) (ck_preV hxT hK hP hD [0] rfl (by decide) (q0 := 0) rfl rfl rfl) rfl rfl hl.1 rfl (lv_room (Nat.le_of_ble_eq_true rfl)) dX7_change_10 ⟨Nat.zero_le _, Nat.zero_le _⟩) ?_
    refine wk_bif_ne (tgt := 22) hx hb dX7_change_13 (by decide) (fun c_2 => ?_) (fun c_2 => ?_)
    · skip
      refine lv_aload_n hx hb dX7_change_22 rfl (lv_at hl 0 rfl) ?_
      refine lv_iconst (v := iI 0) hx hb dX7_change_23 rfl ?_
      refine wk_put (ci := 7) (C := RX7) (T := TX7) (N := 25) hx hb hts (fun w h => (List.mem_cons_of_mem _ (hinX7 w h))) tyX7 tyX7_ok nmX7 hown hK hP hD hS 0 rfl rfl 0 (by decide) (hts _ (List.mem_cons_of_mem _ wd_612)) (fun _ h9 => h9) rfl rfl (Nat.le_of_ble_eq_true rfl) dX7_change_24 (ws' := [(h, .inr (7, [.int (iI 0), .int (iI sn), .int (iI sm), .int (iI nw), .ref hRo, .int (iI rn), .int (iI bn), .ref hNu, .ref hWe, .ref hDa, .ref hVe, .int (iI kn), .ref hSl, .ref hTr, .ref hBx, .ref hSt, .ref hLa, .ref hOr, .ref hSi, .ref hTu, .int (iI cm), .int (iI al), .int (iI lg), .int (iI tt), .int (iI dn)])), (hSl, .inl (kI, 61, .inl (iF ks))), (hSt, .inl (kI, 61, .inl (iF kz)))]) rfl (fun H locs hP hD hS => ?_)
      refine lv_aload_n hx hb dX7_change_27 rfl (lv_at hl 0 rfl) ?_
      refine va_get (D := D) (ci := 7) (v := .ref hSt) (C := RX7) (T := TX7) (N := 25) hx hb hts (fun w h => (List.mem_cons_of_mem _ (hinX7 w h))) hown hK hP 0 rfl rfl 15 (by decide) (hts _ (List.mem_cons_of_mem _ wd_627)) (fun _ h9 => h9) rfl dX7_change_28 ?_
      refine lv_iload_n hx hb dX7_change_31 rfl (lv_at hl 1 rfl) ?_
      refine wk_iald hx hb hK hP 2 0 rfl rfl (by decide) (by omega) dX7_change_32 ?_
      have b_3 := hkz bk
      refine wk_if_ne (tgt := 46) hx hb dX7_change_33 (by decide) (by omega) (fun c_4 => ?_) (fun c_4 => ?_)
      · skip
        refine lv_iconst (v := iI 0) hx hb dX7_change_46 rfl ?_
        exact rk_int hx hb hr hlocks hK hP hD hS (by first | rfl | omega) rfl dX7_change_47
      · skip
        refine lv_aload_n hx hb dX7_change_36 rfl (lv_at hl 0 rfl) ?_
        refine va_get (D := D) (ci := 7) (v := .ref hSl) (C := RX7) (T := TX7) (N := 25) hx hb hts (fun w h => (List.mem_cons_of_mem _ (hinX7 w h))) hown hK hP 0 rfl rfl 12 (by decide) (hts _ (List.mem_cons_of_mem _ wd_624)) (fun _ h9 => h9) rfl dX7_change_37 ?_
        refine lv_iload_n hx hb dX7_change_40 rfl (lv_at hl 1 rfl) ?_
        refine wk_iald hx hb hK hP 1 0 rfl rfl (by decide) (by omega) dX7_change_41 ?_
        have b_5 := hks bk
        refine lv_iload_n hx hb dX7_change_42 rfl (lv_at hl 2 rfl) ?_
        refine wk_icmp_ne (tgt := 48) hx hb dX7_change_43 (by decide) (by omega) (fun c_6 => ?_) (fun c_6 => ?_)
        · skip
          exfalso; omega
        · skip
          refine lv_iconst (v := iI 0) hx hb dX7_change_46 rfl ?_
          exact rk_int hx hb hr hlocks hK hP hD hS (by first | rfl | omega) rfl dX7_change_47
    · skip
      exfalso; omega

set_option maxHeartbeats 4000000 in
set_option maxRecDepth 100000 in
theorem tX7_change_f (l : Launch) (D : va_G) (kI : ClassId) (kZ : ClassId) (kL : ClassId) (kJ : ClassId) (h : Nat) (hRo : Nat) (hNu : Nat) (hWe : Nat) (hDa : Nat) (hVe : Nat) (hSl : Nat) (hTr : Nat) (hBx : Nat) (hSt : Nat) (hLa : Nat) (hOr : Nat) (hSi : Nat) (hTu : Nat) (ks : Int → Int) (kz : Int → Int) (th : Int) (sn : Int) (sm : Int) (nw : Int) (rn : Int) (bn : Int) (kn : Int) (cm : Int) (al : Int) (lg : Int) (tt : Int) (dn : Int) (bk : Int) (sl : Int) (sz : Nat) (hkn : 0 ≤ kn ∧ kn ≤ 60) (hbk : 1 ≤ bk ∧ bk ≤ kn) (hsn : 1 ≤ sn ∧ sn ≤ 24) (hsl : 0 ≤ sl ∧ sl < sn) (hks : ∀ j, 0 ≤ ks j ∧ ks j ≤ 1000000) (hkz : ∀ j, 0 ≤ kz j ∧ kz j ≤ 1000000) (h2 : kz bk = 0 ∧ ¬ ks bk = sl) (hsm : 1 ≤ sm ∧ sm ≤ 8) (h3 : ¬ cn (pSL ks kz sl) (kn + 1 - 1).toNat < sm) : CtI l yX7_change wsX7_change ({ frames := 2, cells := 0, slots := 0, locals := 45 }) D vwCl (tyL kI kZ kL kJ) [(h, .inr (7, [.int (iI th), .int (iI sn), .int (iI sm), .int (iI nw), .ref hRo, .int (iI rn), .int (iI bn), .ref hNu, .ref hWe, .ref hDa, .ref hVe, .int (iI kn), .ref hSl, .ref hTr, .ref hBx, .ref hSt, .ref hLa, .ref hOr, .ref hSi, .ref hTu, .int (iI cm), .int (iI al), .int (iI lg), .int (iI tt), .int (iI dn)])), (hSl, .inl (kI, 61, .inl (iF ks))), (hSt, .inl (kI, 61, .inl (iF kz)))] [.ref h, .int (iI bk), .int (iI sl)] (iI (-1 - sc (pRM (cS ks kz kn) sm) sn (sn - 1 + 1 - (sl + 1)).toNat (sl + 1))) [(h, .inr (7, [.int (iI 0), .int (iI sn), .int (iI sm), .int (iI nw), .ref hRo, .int (iI rn), .int (iI bn), .ref hNu, .ref hWe, .ref hDa, .ref hVe, .int (iI kn), .ref hSl, .ref hTr, .ref hBx, .ref hSt, .ref hLa, .ref hOr, .ref hSi, .ref hTu, .int (iI cm), .int (iI al), .int (iI lg), .int (iI tt), .int (iI dn)])), (hSl, .inl (kI, 61, .inl (iF ks))), (hSt, .inl (kI, 61, .inl (iF kz)))] sz := by
  refine ck_start (Qc := fun A => cQi D vwCl (tyL kI kZ kL kJ) A (iI (-1 - sc (pRM (cS ks kz kn) sm) sn (sn - 1 + 1 - (sl + 1)).toNat (sl + 1))) [(h, .inr (7, [.int (iI 0), .int (iI sn), .int (iI sm), .int (iI nw), .ref hRo, .int (iI rn), .int (iI bn), .ref hNu, .ref hWe, .ref hDa, .ref hVe, .int (iI kn), .ref hSl, .ref hTr, .ref hBx, .ref hSt, .ref hLa, .ref hOr, .ref hSi, .ref hTu, .int (iI cm), .int (iI al), .int (iI lg), .int (iI tt), .int (iI dn)])), (hSl, .inl (kI, 61, .inl (iF ks))), (hSt, .inl (kI, 61, .inl (iF kz)))]) (cc := cX7_change) (maxL := 3) (ret := (some .int)) (LV := [(0, .ref h), (1, .int (iI bk)), (2, .int (iI sl))]) (by decide) rfl rfl (Nat.le_of_ble_eq_true rfl) ?_
  intro p e s m below meth cd hadm hx hb hr hml hts hown hlocks hname hnoh hxT A hA hK hP hD hS ls hl
  refine lv_aload_n hx hb dX7_change_0 rfl (lv_at hl 0 rfl) ?_
  refine lv_iload_n hx hb dX7_change_1 rfl (lv_at hl 1 rfl) ?_
  refine pk_callI (va_runV (As := [.int (iI bk)]) (rest := []) ⟨hx, hb, hml, hown, hts⟩ (tX7_isBooking l D kI kZ kL kJ h hRo hNu hWe hDa hVe hSl hTr hBx hSt hLa hOr hSi hTu th sn sm nw rn bn kn cm al lg tt dn bk s.heap.size (by first | assumption | omega) (by first | assumption | omega)) (cwV 1 hts (gd_V tb_cons wd_751 wd_753 wd_24 wd_41 wd_754) rfl rfl rfl (by decide +kernel) ⟨Nat.le_of_ble_eq_true rfl, Nat.le_of_ble_eq_true rfl⟩) (ck_preV hxT hK hP hD [0] rfl (by decide) (q0 := 0) rfl rfl rfl) rfl rfl hl.1 rfl (lv_room (Nat.le_of_ble_eq_true rfl)) dX7_change_2 ⟨Nat.zero_le _, Nat.zero_le _⟩) ?_
  refine wk_bif_eq (tgt := 16) hx hb dX7_change_5 (by decide) (fun c_1 => ?_) (fun c_1 => ?_)
  · skip
    exfalso; omega
  · skip
    refine lv_aload_n hx hb dX7_change_8 rfl (lv_at hl 0 rfl) ?_
    refine lv_iload_n hx hb dX7_change_9 rfl (lv_at hl 2 rfl) ?_
    refine pk_callI (va_runV (As := [.int (iI sl)]) (rest := []) ⟨hx, hb, hml, hown, hts⟩ (tX7_isSlot l D kI kZ kL kJ h hRo hNu hWe hDa hVe hSl hTr hBx hSt hLa hOr hSi hTu th sn sm nw rn bn kn cm al lg tt dn sl s.heap.size (by first | assumption | omega) (by first | assumption | omega)) (cwV 1 hts (gd_V tb_cons wd_735 wd_737 wd_21 wd_41 wd_738) rfl rfl rfl (by decide +kernel) ⟨Nat.le_of_ble_eq_true rfl, Nat.le_of_ble_eq_true rfl⟩) (ck_preV hxT hK hP hD [0] rfl (by decide) (q0 := 0) rfl rfl rfl) rfl rfl hl.1 rfl (lv_room (Nat.le_of_ble_eq_true rfl)) dX7_change_10 ⟨Nat.zero_le _, Nat.zero_le _⟩) ?_
    refine wk_bif_ne (tgt := 22) hx hb dX7_change_13 (by decide) (fun c_2 => ?_) (fun c_2 => ?_)
    · skip
      refine lv_aload_n hx hb dX7_change_22 rfl (lv_at hl 0 rfl) ?_
      refine lv_iconst (v := iI 0) hx hb dX7_change_23 rfl ?_
      refine wk_put (ci := 7) (C := RX7) (T := TX7) (N := 25) hx hb hts (fun w h => (List.mem_cons_of_mem _ (hinX7 w h))) tyX7 tyX7_ok nmX7 hown hK hP hD hS 0 rfl rfl 0 (by decide) (hts _ (List.mem_cons_of_mem _ wd_612)) (fun _ h9 => h9) rfl rfl (Nat.le_of_ble_eq_true rfl) dX7_change_24 (ws' := [(h, .inr (7, [.int (iI 0), .int (iI sn), .int (iI sm), .int (iI nw), .ref hRo, .int (iI rn), .int (iI bn), .ref hNu, .ref hWe, .ref hDa, .ref hVe, .int (iI kn), .ref hSl, .ref hTr, .ref hBx, .ref hSt, .ref hLa, .ref hOr, .ref hSi, .ref hTu, .int (iI cm), .int (iI al), .int (iI lg), .int (iI tt), .int (iI dn)])), (hSl, .inl (kI, 61, .inl (iF ks))), (hSt, .inl (kI, 61, .inl (iF kz)))]) rfl (fun H locs hP hD hS => ?_)
      refine lv_aload_n hx hb dX7_change_27 rfl (lv_at hl 0 rfl) ?_
      refine va_get (D := D) (ci := 7) (v := .ref hSt) (C := RX7) (T := TX7) (N := 25) hx hb hts (fun w h => (List.mem_cons_of_mem _ (hinX7 w h))) hown hK hP 0 rfl rfl 15 (by decide) (hts _ (List.mem_cons_of_mem _ wd_627)) (fun _ h9 => h9) rfl dX7_change_28 ?_
      refine lv_iload_n hx hb dX7_change_31 rfl (lv_at hl 1 rfl) ?_
      refine wk_iald hx hb hK hP 2 0 rfl rfl (by decide) (by omega) dX7_change_32 ?_
      have b_3 := hkz bk
      refine wk_if_ne (tgt := 46) hx hb dX7_change_33 (by decide) (by omega) (fun c_4 => ?_) (fun c_4 => ?_)
      · skip
        exfalso; omega
      · skip
        refine lv_aload_n hx hb dX7_change_36 rfl (lv_at hl 0 rfl) ?_
        refine va_get (D := D) (ci := 7) (v := .ref hSl) (C := RX7) (T := TX7) (N := 25) hx hb hts (fun w h => (List.mem_cons_of_mem _ (hinX7 w h))) hown hK hP 0 rfl rfl 12 (by decide) (hts _ (List.mem_cons_of_mem _ wd_624)) (fun _ h9 => h9) rfl dX7_change_37 ?_
        refine lv_iload_n hx hb dX7_change_40 rfl (lv_at hl 1 rfl) ?_
        refine wk_iald hx hb hK hP 1 0 rfl rfl (by decide) (by omega) dX7_change_41 ?_
        have b_5 := hks bk
        refine lv_iload_n hx hb dX7_change_42 rfl (lv_at hl 2 rfl) ?_
        refine wk_icmp_ne (tgt := 48) hx hb dX7_change_43 (by decide) (by omega) (fun c_6 => ?_) (fun c_6 => ?_)
        · skip
          refine lv_aload_n hx hb dX7_change_48 rfl (lv_at hl 0 rfl) ?_
          refine lv_iload_n hx hb dX7_change_49 rfl (lv_at hl 2 rfl) ?_
          refine pk_callI (va_runV (As := [.int (iI sl)]) (rest := []) ⟨hx, hb, hml, hown, hts⟩ (tX7_full_f l D kI kZ kL kJ h hRo hNu hWe hDa hVe hSl hTr hBx hSt hLa hOr hSi hTu ks kz 0 sn sm nw rn bn kn cm al lg tt dn sl H.size (by first | assumption | omega) (by first | assumption | omega) (by first | assumption | omega) (by first | assumption | omega) (by first | assumption | omega) (by first | assumption | omega) (by first | assumption | omega)) (cwV 1 hts (gd_V tb_cons wd_739 wd_741 wd_22 wd_41 wd_742) rfl rfl rfl (by decide +kernel) ⟨Nat.le_of_ble_eq_true rfl, Nat.le_of_ble_eq_true rfl⟩) (ck_preV hxT hK hP hD [0, 1, 2] rfl (by decide) (q0 := 0) rfl rfl rfl) rfl rfl hl.1 rfl (lv_room (Nat.le_of_ble_eq_true rfl)) dX7_change_50 ⟨Nat.zero_le _, Nat.zero_le _⟩) ?_
          have b6 := sc_low (pRM (cS ks kz kn) sm) sn (sn - 1) (sl + 1) (by omega) (by omega)
          have b5 := sc_high (pRM (cS ks kz kn) sm) sn (sn - 1) (sl + 1) (by omega)
          refine wk_if_ge (tgt := 62) hx hb dX7_change_53 (by decide) (by omega) (fun c_7 => ?_) (fun c_7 => ?_)
          · skip
            exfalso; omega
          · skip
            refine lv_aload_n hx hb dX7_change_56 rfl (lv_at hl 0 rfl) ?_
            refine lv_iload_n hx hb dX7_change_57 rfl (lv_at hl 2 rfl) ?_
            refine pk_callI (va_runV (As := [.int (iI sl)]) (rest := []) ⟨hx, hb, hml, hown, hts⟩ (tX7_full_f l D kI kZ kL kJ h hRo hNu hWe hDa hVe hSl hTr hBx hSt hLa hOr hSi hTu ks kz 0 sn sm nw rn bn kn cm al lg tt dn sl H.size (by first | assumption | omega) (by first | assumption | omega) (by first | assumption | omega) (by first | assumption | omega) (by first | assumption | omega) (by first | assumption | omega) (by first | assumption | omega)) (cwV 1 hts (gd_V tb_cons wd_739 wd_741 wd_22 wd_41 wd_742) rfl rfl rfl (by decide +kernel) ⟨Nat.le_of_ble_eq_true rfl, Nat.le_of_ble_eq_true rfl⟩) (ck_preV hxT hK hP hD [0, 1, 2] rfl (by decide) (q0 := 0) rfl rfl rfl) rfl rfl hl.1 rfl (lv_room (Nat.le_of_ble_eq_true rfl)) dX7_change_58 ⟨Nat.zero_le _, Nat.zero_le _⟩) ?_
            exact rk_int hx hb hr hlocks hK hP hD hS (by first | rfl | omega) rfl dX7_change_61
        · skip
          exfalso; omega
    · skip
      exfalso; omega

set_option maxHeartbeats 4000000 in
set_option maxRecDepth 100000 in
theorem tX7_change_a (l : Launch) (D : va_G) (kI : ClassId) (kZ : ClassId) (kL : ClassId) (kJ : ClassId) (h : Nat) (hRo : Nat) (hNu : Nat) (hWe : Nat) (hDa : Nat) (hVe : Nat) (hSl : Nat) (hTr : Nat) (hBx : Nat) (hSt : Nat) (hLa : Nat) (hOr : Nat) (hSi : Nat) (hTu : Nat) (ks : Int → Int) (kz : Int → Int) (th : Int) (sn : Int) (sm : Int) (nw : Int) (rn : Int) (bn : Int) (kn : Int) (cm : Int) (al : Int) (lg : Int) (tt : Int) (dn : Int) (bk : Int) (sl : Int) (sz : Nat) (hkn : 0 ≤ kn ∧ kn ≤ 60) (hbk : 1 ≤ bk ∧ bk ≤ kn) (hsn : 1 ≤ sn ∧ sn ≤ 24) (hsl : 0 ≤ sl ∧ sl < sn) (hks : ∀ j, 0 ≤ ks j ∧ ks j ≤ 1000000) (hkz : ∀ j, 0 ≤ kz j ∧ kz j ≤ 1000000) (h2 : kz bk = 0 ∧ ¬ ks bk = sl) (hsm : 1 ≤ sm ∧ sm ≤ 8) (h3 : cn (pSL ks kz sl) (kn + 1 - 1).toNat < sm) : CtI l yX7_change wsX7_change ({ frames := 2, cells := 0, slots := 0, locals := 45 }) D vwCl (tyL kI kZ kL kJ) [(h, .inr (7, [.int (iI th), .int (iI sn), .int (iI sm), .int (iI nw), .ref hRo, .int (iI rn), .int (iI bn), .ref hNu, .ref hWe, .ref hDa, .ref hVe, .int (iI kn), .ref hSl, .ref hTr, .ref hBx, .ref hSt, .ref hLa, .ref hOr, .ref hSi, .ref hTu, .int (iI cm), .int (iI al), .int (iI lg), .int (iI tt), .int (iI dn)])), (hSl, .inl (kI, 61, .inl (iF ks))), (hSt, .inl (kI, 61, .inl (iF kz)))] [.ref h, .int (iI bk), .int (iI sl)] (iI 1) [(h, .inr (7, [.int (iI 0), .int (iI sn), .int (iI sm), .int (iI nw), .ref hRo, .int (iI rn), .int (iI bn), .ref hNu, .ref hWe, .ref hDa, .ref hVe, .int (iI kn), .ref hSl, .ref hTr, .ref hBx, .ref hSt, .ref hLa, .ref hOr, .ref hSi, .ref hTu, .int (iI cm), .int (iI al), .int (iI lg), .int (iI tt), .int (iI dn)])), (hSl, .inl (kI, 61, .inl (iF (iu ks bk sl)))), (hSt, .inl (kI, 61, .inl (iF kz)))] sz := by
  refine ck_start (Qc := fun A => cQi D vwCl (tyL kI kZ kL kJ) A (iI 1) [(h, .inr (7, [.int (iI 0), .int (iI sn), .int (iI sm), .int (iI nw), .ref hRo, .int (iI rn), .int (iI bn), .ref hNu, .ref hWe, .ref hDa, .ref hVe, .int (iI kn), .ref hSl, .ref hTr, .ref hBx, .ref hSt, .ref hLa, .ref hOr, .ref hSi, .ref hTu, .int (iI cm), .int (iI al), .int (iI lg), .int (iI tt), .int (iI dn)])), (hSl, .inl (kI, 61, .inl (iF (iu ks bk sl)))), (hSt, .inl (kI, 61, .inl (iF kz)))]) (cc := cX7_change) (maxL := 3) (ret := (some .int)) (LV := [(0, .ref h), (1, .int (iI bk)), (2, .int (iI sl))]) (by decide) rfl rfl (Nat.le_of_ble_eq_true rfl) ?_
  intro p e s m below meth cd hadm hx hb hr hml hts hown hlocks hname hnoh hxT A hA hK hP hD hS ls hl
  refine lv_aload_n hx hb dX7_change_0 rfl (lv_at hl 0 rfl) ?_
  refine lv_iload_n hx hb dX7_change_1 rfl (lv_at hl 1 rfl) ?_
  refine pk_callI (va_runV (As := [.int (iI bk)]) (rest := []) ⟨hx, hb, hml, hown, hts⟩ (tX7_isBooking l D kI kZ kL kJ h hRo hNu hWe hDa hVe hSl hTr hBx hSt hLa hOr hSi hTu th sn sm nw rn bn kn cm al lg tt dn bk s.heap.size (by first | assumption | omega) (by first | assumption | omega)) (cwV 1 hts (gd_V tb_cons wd_751 wd_753 wd_24 wd_41 wd_754) rfl rfl rfl (by decide +kernel) ⟨Nat.le_of_ble_eq_true rfl, Nat.le_of_ble_eq_true rfl⟩) (ck_preV hxT hK hP hD [0] rfl (by decide) (q0 := 0) rfl rfl rfl) rfl rfl hl.1 rfl (lv_room (Nat.le_of_ble_eq_true rfl)) dX7_change_2 ⟨Nat.zero_le _, Nat.zero_le _⟩) ?_
  refine wk_bif_eq (tgt := 16) hx hb dX7_change_5 (by decide) (fun c_1 => ?_) (fun c_1 => ?_)
  · skip
    exfalso; omega
  · skip
    refine lv_aload_n hx hb dX7_change_8 rfl (lv_at hl 0 rfl) ?_
    refine lv_iload_n hx hb dX7_change_9 rfl (lv_at hl 2 rfl) ?_
    refine pk_callI (va_runV (As := [.int (iI sl)]) (rest := []) ⟨hx, hb, hml, hown, hts⟩ (tX7_isSlot l D kI kZ kL kJ h hRo hNu hWe hDa hVe hSl hTr hBx hSt hLa hOr hSi hTu th sn sm nw rn bn kn cm al lg tt dn sl s.heap.size (by first | assumption | omega) (by first | assumption | omega)) (cwV 1 hts (gd_V tb_cons wd_735 wd_737 wd_21 wd_41 wd_738) rfl rfl rfl (by decide +kernel) ⟨Nat.le_of_ble_eq_true rfl, Nat.le_of_ble_eq_true rfl⟩) (ck_preV hxT hK hP hD [0] rfl (by decide) (q0 := 0) rfl rfl rfl) rfl rfl hl.1 rfl (lv_room (Nat.le_of_ble_eq_true rfl)) dX7_change_10 ⟨Nat.zero_le _, Nat.zero_le _⟩) ?_
    refine wk_bif_ne (tgt := 22) hx hb dX7_change_13 (by decide) (fun c_2 => ?_) (fun c_2 => ?_)
    · skip
      refine lv_aload_n hx hb dX7_change_22 rfl (lv_at hl 0 rfl) ?_
      refine lv_iconst (v := iI 0) hx hb dX7_change_23 rfl ?_
      refine wk_put (ci := 7) (C := RX7) (T := TX7) (N := 25) hx hb hts (fun w h => (List.mem_cons_of_mem _ (hinX7 w h))) tyX7 tyX7_ok nmX7 hown hK hP hD hS 0 rfl rfl 0 (by decide) (hts _ (List.mem_cons_of_mem _ wd_612)) (fun _ h9 => h9) rfl rfl (Nat.le_of_ble_eq_true rfl) dX7_change_24 (ws' := [(h, .inr (7, [.int (iI 0), .int (iI sn), .int (iI sm), .int (iI nw), .ref hRo, .int (iI rn), .int (iI bn), .ref hNu, .ref hWe, .ref hDa, .ref hVe, .int (iI kn), .ref hSl, .ref hTr, .ref hBx, .ref hSt, .ref hLa, .ref hOr, .ref hSi, .ref hTu, .int (iI cm), .int (iI al), .int (iI lg), .int (iI tt), .int (iI dn)])), (hSl, .inl (kI, 61, .inl (iF ks))), (hSt, .inl (kI, 61, .inl (iF kz)))]) rfl (fun H locs hP hD hS => ?_)
      refine lv_aload_n hx hb dX7_change_27 rfl (lv_at hl 0 rfl) ?_
      refine va_get (D := D) (ci := 7) (v := .ref hSt) (C := RX7) (T := TX7) (N := 25) hx hb hts (fun w h => (List.mem_cons_of_mem _ (hinX7 w h))) hown hK hP 0 rfl rfl 15 (by decide) (hts _ (List.mem_cons_of_mem _ wd_627)) (fun _ h9 => h9) rfl dX7_change_28 ?_
      refine lv_iload_n hx hb dX7_change_31 rfl (lv_at hl 1 rfl) ?_
      refine wk_iald hx hb hK hP 2 0 rfl rfl (by decide) (by omega) dX7_change_32 ?_
      have b_3 := hkz bk
      refine wk_if_ne (tgt := 46) hx hb dX7_change_33 (by decide) (by omega) (fun c_4 => ?_) (fun c_4 => ?_)
      · skip
        exfalso; omega
      · skip
        refine lv_aload_n hx hb dX7_change_36 rfl (lv_at hl 0 rfl) ?_
        refine va_get (D := D) (ci := 7) (v := .ref hSl) (C := RX7) (T := TX7) (N := 25) hx hb hts (fun w h => (List.mem_cons_of_mem _ (hinX7 w h))) hown hK hP 0 rfl rfl 12 (by decide) (hts _ (List.mem_cons_of_mem _ wd_624)) (fun _ h9 => h9) rfl dX7_change_37 ?_
        refine lv_iload_n hx hb dX7_change_40 rfl (lv_at hl 1 rfl) ?_
        refine wk_iald hx hb hK hP 1 0 rfl rfl (by decide) (by omega) dX7_change_41 ?_
        have b_5 := hks bk
        refine lv_iload_n hx hb dX7_change_42 rfl (lv_at hl 2 rfl) ?_
        refine wk_icmp_ne (tgt := 48) hx hb dX7_change_43 (by decide) (by omega) (fun c_6 => ?_) (fun c_6 => ?_)
        · skip
          refine lv_aload_n hx hb dX7_change_48 rfl (lv_at hl 0 rfl) ?_
          refine lv_iload_n hx hb dX7_change_49 rfl (lv_at hl 2 rfl) ?_
          refine pk_callI (va_runV (As := [.int (iI sl)]) (rest := []) ⟨hx, hb, hml, hown, hts⟩ (tX7_full l D kI kZ kL kJ h hRo hNu hWe hDa hVe hSl hTr hBx hSt hLa hOr hSi hTu ks kz 0 sn sm nw rn bn kn cm al lg tt dn sl H.size (by first | assumption | omega) (by first | assumption | omega) (by first | assumption | omega) (by first | assumption | omega) (by first | assumption | omega) (by first | assumption | omega) (by first | assumption | omega)) (cwV 1 hts (gd_V tb_cons wd_739 wd_741 wd_22 wd_41 wd_742) rfl rfl rfl (by decide +kernel) ⟨Nat.le_of_ble_eq_true rfl, Nat.le_of_ble_eq_true rfl⟩) (ck_preV hxT hK hP hD [0, 1, 2] rfl (by decide) (q0 := 0) rfl rfl rfl) rfl rfl hl.1 rfl (lv_room (Nat.le_of_ble_eq_true rfl)) dX7_change_50 ⟨Nat.zero_le _, Nat.zero_le _⟩) ?_
          refine wk_if_ge (tgt := 62) hx hb dX7_change_53 (by decide) (by omega) (fun c_7 => ?_) (fun c_7 => ?_)
          · skip
            refine lv_aload_n hx hb dX7_change_62 rfl (lv_at hl 0 rfl) ?_
            refine va_get (D := D) (ci := 7) (v := .ref hSl) (C := RX7) (T := TX7) (N := 25) hx hb hts (fun w h => (List.mem_cons_of_mem _ (hinX7 w h))) hown hK hP 0 rfl rfl 12 (by decide) (hts _ (List.mem_cons_of_mem _ wd_624)) (fun _ h9 => h9) rfl dX7_change_63 ?_
            refine lv_iload_n hx hb dX7_change_66 rfl (lv_at hl 1 rfl) ?_
            refine lv_iload_n hx hb dX7_change_67 rfl (lv_at hl 2 rfl) ?_
            refine wk_iast hx hb hK hP hD hS 1 0 rfl rfl (by decide) (by omega) dX7_change_68 (ws' := [(h, .inr (7, [.int (iI 0), .int (iI sn), .int (iI sm), .int (iI nw), .ref hRo, .int (iI rn), .int (iI bn), .ref hNu, .ref hWe, .ref hDa, .ref hVe, .int (iI kn), .ref hSl, .ref hTr, .ref hBx, .ref hSt, .ref hLa, .ref hOr, .ref hSi, .ref hTu, .int (iI cm), .int (iI al), .int (iI lg), .int (iI tt), .int (iI dn)])), (hSl, .inl (kI, 61, .inl (iF (iu ks bk sl)))), (hSt, .inl (kI, 61, .inl (iF kz)))]) rfl (fun H locs hP hD hS => ?_)
            refine lv_iconst (v := iI 1) hx hb dX7_change_69 rfl ?_
            exact rk_int hx hb hr hlocks hK hP hD hS (by first | rfl | omega) rfl dX7_change_70
          · skip
            exfalso; omega
        · skip
          exfalso; omega
    · skip
      exfalso; omega

set_option maxHeartbeats 4000000 in
set_option maxRecDepth 100000 in
theorem tX7_queue_n (l : Launch) (D : va_G) (kI : ClassId) (kZ : ClassId) (kL : ClassId) (kJ : ClassId) (h : Nat) (hRo : Nat) (hNu : Nat) (hWe : Nat) (hDa : Nat) (hVe : Nat) (hSl : Nat) (hTr : Nat) (hBx : Nat) (hSt : Nat) (hLa : Nat) (hOr : Nat) (hSi : Nat) (hTu : Nat) (th : Int) (sn : Int) (sm : Int) (nw : Int) (rn : Int) (bn : Int) (kn : Int) (cm : Int) (al : Int) (lg : Int) (tt : Int) (dn : Int) (ln : Int) (ix : Int) (sz : Nat) (hln : -2147483648 ≤ ln ∧ ln ≤ 2147483647) (hix : -2147483648 ≤ ix ∧ ix ≤ 2147483647) (h1 : ¬ ((0 ≤ ln ∧ ln < 3) ∧ 0 ≤ ix)) : CtI l yX7_queue wsX7_queue ({ frames := 0, cells := 0, slots := 0, locals := 0 }) D vwCl (tyL kI kZ kL kJ) [(h, .inr (7, [.int (iI th), .int (iI sn), .int (iI sm), .int (iI nw), .ref hRo, .int (iI rn), .int (iI bn), .ref hNu, .ref hWe, .ref hDa, .ref hVe, .int (iI kn), .ref hSl, .ref hTr, .ref hBx, .ref hSt, .ref hLa, .ref hOr, .ref hSi, .ref hTu, .int (iI cm), .int (iI al), .int (iI lg), .int (iI tt), .int (iI dn)]))] [.ref h, .int (iI ln), .int (iI ix)] (iI (-1)) [(h, .inr (7, [.int (iI 0), .int (iI sn), .int (iI sm), .int (iI nw), .ref hRo, .int (iI rn), .int (iI bn), .ref hNu, .ref hWe, .ref hDa, .ref hVe, .int (iI kn), .ref hSl, .ref hTr, .ref hBx, .ref hSt, .ref hLa, .ref hOr, .ref hSi, .ref hTu, .int (iI cm), .int (iI al), .int (iI lg), .int (iI tt), .int (iI dn)]))] sz := by
  refine ck_start (Qc := fun A => cQi D vwCl (tyL kI kZ kL kJ) A (iI (-1)) [(h, .inr (7, [.int (iI 0), .int (iI sn), .int (iI sm), .int (iI nw), .ref hRo, .int (iI rn), .int (iI bn), .ref hNu, .ref hWe, .ref hDa, .ref hVe, .int (iI kn), .ref hSl, .ref hTr, .ref hBx, .ref hSt, .ref hLa, .ref hOr, .ref hSi, .ref hTu, .int (iI cm), .int (iI al), .int (iI lg), .int (iI tt), .int (iI dn)]))]) (cc := cX7_queue) (maxL := 3) (ret := (some .int)) (LV := [(0, .ref h), (1, .int (iI ln)), (2, .int (iI ix))]) (by decide) rfl rfl (Nat.le_of_ble_eq_true rfl) ?_
  intro p e s m below meth cd hadm hx hb hr hml hts hown hlocks hname hnoh hxT A hA hK hP hD hS ls hl
  refine lv_aload_n hx hb dX7_queue_0 rfl (lv_at hl 0 rfl) ?_
  refine lv_iconst (v := iI 0) hx hb dX7_queue_1 rfl ?_
  refine wk_put (ci := 7) (C := RX7) (T := TX7) (N := 25) hx hb hts (fun w h => (List.mem_cons_of_mem _ (hinX7 w h))) tyX7 tyX7_ok nmX7 hown hK hP hD hS 0 rfl rfl 0 (by decide) (hts _ (List.mem_cons_of_mem _ wd_612)) (fun _ h9 => h9) rfl rfl (Nat.le_of_ble_eq_true rfl) dX7_queue_2 (ws' := [(h, .inr (7, [.int (iI 0), .int (iI sn), .int (iI sm), .int (iI nw), .ref hRo, .int (iI rn), .int (iI bn), .ref hNu, .ref hWe, .ref hDa, .ref hVe, .int (iI kn), .ref hSl, .ref hTr, .ref hBx, .ref hSt, .ref hLa, .ref hOr, .ref hSi, .ref hTu, .int (iI cm), .int (iI al), .int (iI lg), .int (iI tt), .int (iI dn)]))]) rfl (fun H locs hP hD hS => ?_)
  refine lv_iload_n hx hb dX7_queue_5 rfl (lv_at hl 1 rfl) ?_
  refine wk_if_lt (tgt := 18) hx hb dX7_queue_6 (by decide) (by omega) (fun c_1 => ?_) (fun c_1 => ?_)
  · skip
    refine lv_iconst (v := iI (-1)) hx hb dX7_queue_18 rfl ?_
    refine lv_goto (tgt := 28) hx hb dX7_queue_19 (by decide) ?_
    exact rk_int hx hb hr hlocks hK hP hD hS (by first | rfl | omega) rfl dX7_queue_28
  · skip
    refine lv_iload_n hx hb dX7_queue_9 rfl (lv_at hl 1 rfl) ?_
    refine lv_iconst (v := iI 2) hx hb dX7_queue_10 rfl ?_
    refine wk_icmp_gt (tgt := 18) hx hb dX7_queue_11 (by decide) (by omega) (fun c_2 => ?_) (fun c_2 => ?_)
    · skip
      refine lv_iconst (v := iI (-1)) hx hb dX7_queue_18 rfl ?_
      refine lv_goto (tgt := 28) hx hb dX7_queue_19 (by decide) ?_
      exact rk_int hx hb hr hlocks hK hP hD hS (by first | rfl | omega) rfl dX7_queue_28
    · skip
      refine lv_iload_n hx hb dX7_queue_14 rfl (lv_at hl 2 rfl) ?_
      refine wk_if_ge (tgt := 22) hx hb dX7_queue_15 (by decide) (by omega) (fun c_3 => ?_) (fun c_3 => ?_)
      · skip
        exfalso; omega
      · skip
        refine lv_iconst (v := iI (-1)) hx hb dX7_queue_18 rfl ?_
        refine lv_goto (tgt := 28) hx hb dX7_queue_19 (by decide) ?_
        exact rk_int hx hb hr hlocks hK hP hD hS (by first | rfl | omega) rfl dX7_queue_28

set_option maxHeartbeats 4000000 in
set_option maxRecDepth 100000 in
theorem tX7_queue (l : Launch) (D : va_G) (kI : ClassId) (kZ : ClassId) (kL : ClassId) (kJ : ClassId) (h : Nat) (hRo : Nat) (hNu : Nat) (hWe : Nat) (hDa : Nat) (hVe : Nat) (hSl : Nat) (hTr : Nat) (hBx : Nat) (hSt : Nat) (hLa : Nat) (hOr : Nat) (hSi : Nat) (hTu : Nat) (kz : Int → Int) (kl : Int → Int) (mo : Int → Int) (th : Int) (sn : Int) (sm : Int) (nw : Int) (rn : Int) (bn : Int) (kn : Int) (cm : Int) (al : Int) (lg : Int) (tt : Int) (dn : Int) (ln : Int) (ix : Int) (sz : Nat) (hix : -2147483648 ≤ ix ∧ ix ≤ 2147483647) (h1 : (0 ≤ ln ∧ ln < 3) ∧ 0 ≤ ix) (hkn : 0 ≤ kn ∧ kn ≤ 60) (hkz : ∀ j, 0 ≤ kz j ∧ kz j ≤ 1000000) (hkl : ∀ j, 0 ≤ kl j ∧ kl j ≤ 1000000) (hmo : ∀ j, 0 ≤ mo j ∧ mo j ≤ 1000000) : CtI l yX7_queue wsX7_queue ({ frames := 1, cells := 0, slots := 0, locals := 25 }) D vwCl (tyL kI kZ kL kJ) [(h, .inr (7, [.int (iI th), .int (iI sn), .int (iI sm), .int (iI nw), .ref hRo, .int (iI rn), .int (iI bn), .ref hNu, .ref hWe, .ref hDa, .ref hVe, .int (iI kn), .ref hSl, .ref hTr, .ref hBx, .ref hSt, .ref hLa, .ref hOr, .ref hSi, .ref hTu, .int (iI cm), .int (iI al), .int (iI lg), .int (iI tt), .int (iI dn)])), (hSt, .inl (kI, 61, .inl (iF kz))), (hLa, .inl (kI, 61, .inl (iF kl))), (hOr, .inl (kI, 61, .inl (iF mo)))] [.ref h, .int (iI ln), .int (iI ix)] (iI (sc (pOR kz kl mo kn ln ix) (-1) (kn + 1 - 1).toNat 1)) [(h, .inr (7, [.int (iI 0), .int (iI sn), .int (iI sm), .int (iI nw), .ref hRo, .int (iI rn), .int (iI bn), .ref hNu, .ref hWe, .ref hDa, .ref hVe, .int (iI kn), .ref hSl, .ref hTr, .ref hBx, .ref hSt, .ref hLa, .ref hOr, .ref hSi, .ref hTu, .int (iI cm), .int (iI al), .int (iI lg), .int (iI tt), .int (iI dn)])), (hSt, .inl (kI, 61, .inl (iF kz))), (hLa, .inl (kI, 61, .inl (iF kl))), (hOr, .inl (kI, 61, .inl (iF mo)))] sz := by
  refine ck_start (Qc := fun A => cQi D vwCl (tyL kI kZ kL kJ) A (iI (sc (pOR kz kl mo kn ln ix) (-1) (kn + 1 - 1).toNat 1)) [(h, .inr (7, [.int (iI 0), .int (iI sn), .int (iI sm), .int (iI nw), .ref hRo, .int (iI rn), .int (iI bn), .ref hNu, .ref hWe, .ref hDa, .ref hVe, .int (iI kn), .ref hSl, .ref hTr, .ref hBx, .ref hSt, .ref hLa, .ref hOr, .ref hSi, .ref hTu, .int (iI cm), .int (iI al), .int (iI lg), .int (iI tt), .int (iI dn)])), (hSt, .inl (kI, 61, .inl (iF kz))), (hLa, .inl (kI, 61, .inl (iF kl))), (hOr, .inl (kI, 61, .inl (iF mo)))]) (cc := cX7_queue) (maxL := 3) (ret := (some .int)) (LV := [(0, .ref h), (1, .int (iI ln)), (2, .int (iI ix))]) (by decide) rfl rfl (Nat.le_of_ble_eq_true rfl) ?_
  intro p e s m below meth cd hadm hx hb hr hml hts hown hlocks hname hnoh hxT A hA hK hP hD hS ls hl
  refine lv_aload_n hx hb dX7_queue_0 rfl (lv_at hl 0 rfl) ?_
  refine lv_iconst (v := iI 0) hx hb dX7_queue_1 rfl ?_
  refine wk_put (ci := 7) (C := RX7) (T := TX7) (N := 25) hx hb hts (fun w h => (List.mem_cons_of_mem _ (hinX7 w h))) tyX7 tyX7_ok nmX7 hown hK hP hD hS 0 rfl rfl 0 (by decide) (hts _ (List.mem_cons_of_mem _ wd_612)) (fun _ h9 => h9) rfl rfl (Nat.le_of_ble_eq_true rfl) dX7_queue_2 (ws' := [(h, .inr (7, [.int (iI 0), .int (iI sn), .int (iI sm), .int (iI nw), .ref hRo, .int (iI rn), .int (iI bn), .ref hNu, .ref hWe, .ref hDa, .ref hVe, .int (iI kn), .ref hSl, .ref hTr, .ref hBx, .ref hSt, .ref hLa, .ref hOr, .ref hSi, .ref hTu, .int (iI cm), .int (iI al), .int (iI lg), .int (iI tt), .int (iI dn)])), (hSt, .inl (kI, 61, .inl (iF kz))), (hLa, .inl (kI, 61, .inl (iF kl))), (hOr, .inl (kI, 61, .inl (iF mo)))]) rfl (fun H locs hP hD hS => ?_)
  refine lv_iload_n hx hb dX7_queue_5 rfl (lv_at hl 1 rfl) ?_
  refine wk_if_lt (tgt := 18) hx hb dX7_queue_6 (by decide) (by omega) (fun c_1 => ?_) (fun c_1 => ?_)
  · skip
    exfalso; omega
  · skip
    refine lv_iload_n hx hb dX7_queue_9 rfl (lv_at hl 1 rfl) ?_
    refine lv_iconst (v := iI 2) hx hb dX7_queue_10 rfl ?_
    refine wk_icmp_gt (tgt := 18) hx hb dX7_queue_11 (by decide) (by omega) (fun c_2 => ?_) (fun c_2 => ?_)
    · skip
      exfalso; omega
    · skip
      refine lv_iload_n hx hb dX7_queue_14 rfl (lv_at hl 2 rfl) ?_
      refine wk_if_ge (tgt := 22) hx hb dX7_queue_15 (by decide) (by omega) (fun c_3 => ?_) (fun c_3 => ?_)
      · skip
        refine lv_aload_n hx hb dX7_queue_22 rfl (lv_at hl 0 rfl) ?_
        refine lv_iload_n hx hb dX7_queue_23 rfl (lv_at hl 1 rfl) ?_
        refine lv_iload_n hx hb dX7_queue_24 rfl (lv_at hl 2 rfl) ?_
        refine pk_callI (va_runV (As := [.int (iI ln), .int (iI ix)]) (rest := []) ⟨hx, hb, hml, hown, hts⟩ (tX7_inOrder l D kI kZ kL kJ h hRo hNu hWe hDa hVe hSl hTr hBx hSt hLa hOr hSi hTu kz kl mo 0 sn sm nw rn bn kn cm al lg tt dn ln ix H.size (by first | assumption | omega) (by first | assumption | omega) (by first | assumption | omega) (by first | assumption | omega) (by first | assumption | omega) (by first | assumption | omega)) (cwV 2 hts (gd_V tb_cons wd_784 wd_786 wd_31 wd_41 wd_787) rfl rfl rfl (by decide +kernel) ⟨Nat.le_of_ble_eq_true rfl, Nat.le_of_ble_eq_true rfl⟩) (ck_preV hxT hK hP hD [0, 1, 2, 3] rfl (by decide) (q0 := 0) rfl rfl rfl) rfl rfl hl.1 rfl (lv_room (Nat.le_of_ble_eq_true rfl)) dX7_queue_25 ⟨Nat.zero_le _, Nat.zero_le _⟩) ?_
        exact rk_int hx hb hr hlocks hK hP hD hS (by first | rfl | omega) rfl dX7_queue_28
      · skip
        exfalso; omega

set_option maxHeartbeats 4000000 in
set_option maxRecDepth 100000 in
theorem tX7_look_1 (l : Launch) (D : va_G) (kI : ClassId) (kZ : ClassId) (kL : ClassId) (kJ : ClassId) (h : Nat) (hRo : Nat) (hNu : Nat) (hWe : Nat) (hDa : Nat) (hVe : Nat) (hSl : Nat) (hTr : Nat) (hBx : Nat) (hSt : Nat) (hLa : Nat) (hOr : Nat) (hSi : Nat) (hTu : Nat) (th : Int) (sn : Int) (sm : Int) (nw : Int) (rn : Int) (bn : Int) (kn : Int) (cm : Int) (al : Int) (lg : Int) (tt : Int) (dn : Int) (bk : Int) (wh : Int) (sz : Nat) (hkn : 0 ≤ kn ∧ kn ≤ 60) (hbk : -2147483648 ≤ bk ∧ bk ≤ 2147483647) (hwh : -2147483648 ≤ wh ∧ wh ≤ 2147483647) (h1 : ¬ ((1 ≤ bk ∧ bk ≤ kn) ∧ 0 ≤ wh ∧ wh ≤ 5)) : CtI l yX7_look wsX7_look ({ frames := 1, cells := 0, slots := 0, locals := 21 }) D vwCl (tyL kI kZ kL kJ) [(h, .inr (7, [.int (iI th), .int (iI sn), .int (iI sm), .int (iI nw), .ref hRo, .int (iI rn), .int (iI bn), .ref hNu, .ref hWe, .ref hDa, .ref hVe, .int (iI kn), .ref hSl, .ref hTr, .ref hBx, .ref hSt, .ref hLa, .ref hOr, .ref hSi, .ref hTu, .int (iI cm), .int (iI al), .int (iI lg), .int (iI tt), .int (iI dn)]))] [.ref h, .int (iI bk), .int (iI wh)] (iI 0) [(h, .inr (7, [.int (iI 1), .int (iI sn), .int (iI sm), .int (iI nw), .ref hRo, .int (iI rn), .int (iI bn), .ref hNu, .ref hWe, .ref hDa, .ref hVe, .int (iI kn), .ref hSl, .ref hTr, .ref hBx, .ref hSt, .ref hLa, .ref hOr, .ref hSi, .ref hTu, .int (iI cm), .int (iI al), .int (iI lg), .int (iI tt), .int (iI dn)]))] sz := by
  refine ck_start (Qc := fun A => cQi D vwCl (tyL kI kZ kL kJ) A (iI 0) [(h, .inr (7, [.int (iI 1), .int (iI sn), .int (iI sm), .int (iI nw), .ref hRo, .int (iI rn), .int (iI bn), .ref hNu, .ref hWe, .ref hDa, .ref hVe, .int (iI kn), .ref hSl, .ref hTr, .ref hBx, .ref hSt, .ref hLa, .ref hOr, .ref hSi, .ref hTu, .int (iI cm), .int (iI al), .int (iI lg), .int (iI tt), .int (iI dn)]))]) (cc := cX7_look) (maxL := 3) (ret := (some .int)) (LV := [(0, .ref h), (1, .int (iI bk)), (2, .int (iI wh))]) (by decide) rfl rfl (Nat.le_of_ble_eq_true rfl) ?_
  intro p e s m below meth cd hadm hx hb hr hml hts hown hlocks hname hnoh hxT A hA hK hP hD hS ls hl
  refine lv_aload_n hx hb dX7_look_0 rfl (lv_at hl 0 rfl) ?_
  refine lv_iload_n hx hb dX7_look_1 rfl (lv_at hl 1 rfl) ?_
  refine pk_callI (va_runV (As := [.int (iI bk)]) (rest := []) ⟨hx, hb, hml, hown, hts⟩ (tX7_isBooking l D kI kZ kL kJ h hRo hNu hWe hDa hVe hSl hTr hBx hSt hLa hOr hSi hTu th sn sm nw rn bn kn cm al lg tt dn bk s.heap.size (by first | assumption | omega) (by first | assumption | omega)) (cwV 1 hts (gd_V tb_cons wd_751 wd_753 wd_24 wd_41 wd_754) rfl rfl rfl (by decide +kernel) ⟨Nat.le_of_ble_eq_true rfl, Nat.le_of_ble_eq_true rfl⟩) (ck_preV hxT hK hP hD [0] rfl (by decide) (q0 := 0) rfl rfl rfl) rfl rfl hl.1 rfl (lv_room (Nat.le_of_ble_eq_true rfl)) dX7_look_2 ⟨Nat.zero_le _, Nat.zero_le _⟩) ?_
  refine wk_bif_eq (tgt := 17) hx hb dX7_look_5 (by decide) (fun c_1 => ?_) (fun c_1 => ?_)
  · skip
    refine lv_aload_n hx hb dX7_look_17 rfl (lv_at hl 0 rfl) ?_
    refine lv_iconst (v := iI 1) hx hb dX7_look_18 rfl ?_
    refine ck_backI (va_runV (As := [.int (iI 1)]) (rest := []) ⟨hx, hb, hml, hown, hts⟩ (tX7_fails l D kI kZ kL kJ h hRo hNu hWe hDa hVe hSl hTr hBx hSt hLa hOr hSi hTu th sn sm nw rn bn kn cm al lg tt dn 1 s.heap.size ) (cwV 1 hts (gd_V tb_cons wd_702 wd_704 wd_18 wd_41 wd_705) rfl rfl rfl (by decide +kernel) ⟨Nat.le_of_ble_eq_true rfl, Nat.le_of_ble_eq_true rfl⟩) (ck_preV hxT hK hP hD [0] rfl (by decide) (q0 := 0) rfl rfl rfl) rfl rfl hl.1 rfl (lv_room (Nat.le_of_ble_eq_true rfl)) dX7_look_19 ⟨Nat.zero_le _, Nat.zero_le _⟩) hP hD hS hA [0] [] (WR := []) rfl rfl (by decide) (by decide) (ws' := [(h, .inr (7, [.int (iI 1), .int (iI sn), .int (iI sm), .int (iI nw), .ref hRo, .int (iI rn), .int (iI bn), .ref hNu, .ref hWe, .ref hDa, .ref hVe, .int (iI kn), .ref hSl, .ref hTr, .ref hBx, .ref hSt, .ref hLa, .ref hOr, .ref hSi, .ref hTu, .int (iI cm), .int (iI al), .int (iI lg), .int (iI tt), .int (iI dn)]))]) rfl (fun H locs hP hD hS => ?_)
    exact rk_int hx hb hr hlocks hK hP hD hS (by first | rfl | omega) rfl dX7_look_22
  · skip
    refine lv_iload_n hx hb dX7_look_8 rfl (lv_at hl 2 rfl) ?_
    refine wk_if_lt (tgt := 17) hx hb dX7_look_9 (by decide) (by omega) (fun c_2 => ?_) (fun c_2 => ?_)
    · skip
      refine lv_aload_n hx hb dX7_look_17 rfl (lv_at hl 0 rfl) ?_
      refine lv_iconst (v := iI 1) hx hb dX7_look_18 rfl ?_
      refine ck_backI (va_runV (As := [.int (iI 1)]) (rest := []) ⟨hx, hb, hml, hown, hts⟩ (tX7_fails l D kI kZ kL kJ h hRo hNu hWe hDa hVe hSl hTr hBx hSt hLa hOr hSi hTu th sn sm nw rn bn kn cm al lg tt dn 1 s.heap.size ) (cwV 1 hts (gd_V tb_cons wd_702 wd_704 wd_18 wd_41 wd_705) rfl rfl rfl (by decide +kernel) ⟨Nat.le_of_ble_eq_true rfl, Nat.le_of_ble_eq_true rfl⟩) (ck_preV hxT hK hP hD [0] rfl (by decide) (q0 := 0) rfl rfl rfl) rfl rfl hl.1 rfl (lv_room (Nat.le_of_ble_eq_true rfl)) dX7_look_19 ⟨Nat.zero_le _, Nat.zero_le _⟩) hP hD hS hA [0] [] (WR := []) rfl rfl (by decide) (by decide) (ws' := [(h, .inr (7, [.int (iI 1), .int (iI sn), .int (iI sm), .int (iI nw), .ref hRo, .int (iI rn), .int (iI bn), .ref hNu, .ref hWe, .ref hDa, .ref hVe, .int (iI kn), .ref hSl, .ref hTr, .ref hBx, .ref hSt, .ref hLa, .ref hOr, .ref hSi, .ref hTu, .int (iI cm), .int (iI al), .int (iI lg), .int (iI tt), .int (iI dn)]))]) rfl (fun H locs hP hD hS => ?_)
      exact rk_int hx hb hr hlocks hK hP hD hS (by first | rfl | omega) rfl dX7_look_22
    · skip
      refine lv_iload_n hx hb dX7_look_12 rfl (lv_at hl 2 rfl) ?_
      refine lv_iconst (v := iI 5) hx hb dX7_look_13 rfl ?_
      refine wk_icmp_le (tgt := 23) hx hb dX7_look_14 (by decide) (by omega) (fun c_3 => ?_) (fun c_3 => ?_)
      · skip
        exfalso; omega
      · skip
        refine lv_aload_n hx hb dX7_look_17 rfl (lv_at hl 0 rfl) ?_
        refine lv_iconst (v := iI 1) hx hb dX7_look_18 rfl ?_
        refine ck_backI (va_runV (As := [.int (iI 1)]) (rest := []) ⟨hx, hb, hml, hown, hts⟩ (tX7_fails l D kI kZ kL kJ h hRo hNu hWe hDa hVe hSl hTr hBx hSt hLa hOr hSi hTu th sn sm nw rn bn kn cm al lg tt dn 1 s.heap.size ) (cwV 1 hts (gd_V tb_cons wd_702 wd_704 wd_18 wd_41 wd_705) rfl rfl rfl (by decide +kernel) ⟨Nat.le_of_ble_eq_true rfl, Nat.le_of_ble_eq_true rfl⟩) (ck_preV hxT hK hP hD [0] rfl (by decide) (q0 := 0) rfl rfl rfl) rfl rfl hl.1 rfl (lv_room (Nat.le_of_ble_eq_true rfl)) dX7_look_19 ⟨Nat.zero_le _, Nat.zero_le _⟩) hP hD hS hA [0] [] (WR := []) rfl rfl (by decide) (by decide) (ws' := [(h, .inr (7, [.int (iI 1), .int (iI sn), .int (iI sm), .int (iI nw), .ref hRo, .int (iI rn), .int (iI bn), .ref hNu, .ref hWe, .ref hDa, .ref hVe, .int (iI kn), .ref hSl, .ref hTr, .ref hBx, .ref hSt, .ref hLa, .ref hOr, .ref hSi, .ref hTu, .int (iI cm), .int (iI al), .int (iI lg), .int (iI tt), .int (iI dn)]))]) rfl (fun H locs hP hD hS => ?_)
        exact rk_int hx hb hr hlocks hK hP hD hS (by first | rfl | omega) rfl dX7_look_22

set_option maxHeartbeats 4000000 in
set_option maxRecDepth 100000 in
theorem tX7_look_10 (l : Launch) (D : va_G) (kI : ClassId) (kZ : ClassId) (kL : ClassId) (kJ : ClassId) (h : Nat) (hRo : Nat) (hNu : Nat) (hWe : Nat) (hDa : Nat) (hVe : Nat) (hSl : Nat) (hTr : Nat) (hBx : Nat) (hSt : Nat) (hLa : Nat) (hOr : Nat) (hSi : Nat) (hTu : Nat) (ks : Int → Int) (th : Int) (sn : Int) (sm : Int) (nw : Int) (rn : Int) (bn : Int) (kn : Int) (cm : Int) (al : Int) (lg : Int) (tt : Int) (dn : Int) (bk : Int) (sz : Nat) (hkn : 0 ≤ kn ∧ kn ≤ 60) (hbk : 1 ≤ bk ∧ bk ≤ kn) : CtI l yX7_look wsX7_look ({ frames := 1, cells := 0, slots := 0, locals := 21 }) D vwCl (tyL kI kZ kL kJ) [(h, .inr (7, [.int (iI th), .int (iI sn), .int (iI sm), .int (iI nw), .ref hRo, .int (iI rn), .int (iI bn), .ref hNu, .ref hWe, .ref hDa, .ref hVe, .int (iI kn), .ref hSl, .ref hTr, .ref hBx, .ref hSt, .ref hLa, .ref hOr, .ref hSi, .ref hTu, .int (iI cm), .int (iI al), .int (iI lg), .int (iI tt), .int (iI dn)])), (hSl, .inl (kI, 61, .inl (iF ks)))] [.ref h, .int (iI bk), .int (iI 0)] (iI (ks bk)) [(h, .inr (7, [.int (iI 0), .int (iI sn), .int (iI sm), .int (iI nw), .ref hRo, .int (iI rn), .int (iI bn), .ref hNu, .ref hWe, .ref hDa, .ref hVe, .int (iI kn), .ref hSl, .ref hTr, .ref hBx, .ref hSt, .ref hLa, .ref hOr, .ref hSi, .ref hTu, .int (iI cm), .int (iI al), .int (iI lg), .int (iI tt), .int (iI dn)])), (hSl, .inl (kI, 61, .inl (iF ks)))] sz := by
  refine ck_start (Qc := fun A => cQi D vwCl (tyL kI kZ kL kJ) A (iI (ks bk)) [(h, .inr (7, [.int (iI 0), .int (iI sn), .int (iI sm), .int (iI nw), .ref hRo, .int (iI rn), .int (iI bn), .ref hNu, .ref hWe, .ref hDa, .ref hVe, .int (iI kn), .ref hSl, .ref hTr, .ref hBx, .ref hSt, .ref hLa, .ref hOr, .ref hSi, .ref hTu, .int (iI cm), .int (iI al), .int (iI lg), .int (iI tt), .int (iI dn)])), (hSl, .inl (kI, 61, .inl (iF ks)))]) (cc := cX7_look) (maxL := 3) (ret := (some .int)) (LV := [(0, .ref h), (1, .int (iI bk)), (2, .int (iI 0))]) (by decide) rfl rfl (Nat.le_of_ble_eq_true rfl) ?_
  intro p e s m below meth cd hadm hx hb hr hml hts hown hlocks hname hnoh hxT A hA hK hP hD hS ls hl
  refine lv_aload_n hx hb dX7_look_0 rfl (lv_at hl 0 rfl) ?_
  refine lv_iload_n hx hb dX7_look_1 rfl (lv_at hl 1 rfl) ?_
  refine pk_callI (va_runV (As := [.int (iI bk)]) (rest := []) ⟨hx, hb, hml, hown, hts⟩ (tX7_isBooking l D kI kZ kL kJ h hRo hNu hWe hDa hVe hSl hTr hBx hSt hLa hOr hSi hTu th sn sm nw rn bn kn cm al lg tt dn bk s.heap.size (by first | assumption | omega) (by first | assumption | omega)) (cwV 1 hts (gd_V tb_cons wd_751 wd_753 wd_24 wd_41 wd_754) rfl rfl rfl (by decide +kernel) ⟨Nat.le_of_ble_eq_true rfl, Nat.le_of_ble_eq_true rfl⟩) (ck_preV hxT hK hP hD [0] rfl (by decide) (q0 := 0) rfl rfl rfl) rfl rfl hl.1 rfl (lv_room (Nat.le_of_ble_eq_true rfl)) dX7_look_2 ⟨Nat.zero_le _, Nat.zero_le _⟩) ?_
  refine wk_bif_eq (tgt := 17) hx hb dX7_look_5 (by decide) (fun c_1 => ?_) (fun c_1 => ?_)
  · skip
    exfalso; omega
  · skip
    refine lv_iload_n hx hb dX7_look_8 rfl (lv_at hl 2 rfl) ?_
    refine wk_if_lt (tgt := 17) hx hb dX7_look_9 (by decide) (by omega) (fun c_2 => ?_) (fun c_2 => ?_)
    · skip
      exfalso; omega
    · skip
      refine lv_iload_n hx hb dX7_look_12 rfl (lv_at hl 2 rfl) ?_
      refine lv_iconst (v := iI 5) hx hb dX7_look_13 rfl ?_
      refine wk_icmp_le (tgt := 23) hx hb dX7_look_14 (by decide) (by omega) (fun c_3 => ?_) (fun c_3 => ?_)
      · skip
        refine lv_aload_n hx hb dX7_look_23 rfl (lv_at hl 0 rfl) ?_
        refine lv_iconst (v := iI 0) hx hb dX7_look_24 rfl ?_
        refine wk_put (ci := 7) (C := RX7) (T := TX7) (N := 25) hx hb hts (fun w h => (List.mem_cons_of_mem _ (hinX7 w h))) tyX7 tyX7_ok nmX7 hown hK hP hD hS 0 rfl rfl 0 (by decide) (hts _ (List.mem_cons_of_mem _ wd_612)) (fun _ h9 => h9) rfl rfl (Nat.le_of_ble_eq_true rfl) dX7_look_25 (ws' := [(h, .inr (7, [.int (iI 0), .int (iI sn), .int (iI sm), .int (iI nw), .ref hRo, .int (iI rn), .int (iI bn), .ref hNu, .ref hWe, .ref hDa, .ref hVe, .int (iI kn), .ref hSl, .ref hTr, .ref hBx, .ref hSt, .ref hLa, .ref hOr, .ref hSi, .ref hTu, .int (iI cm), .int (iI al), .int (iI lg), .int (iI tt), .int (iI dn)])), (hSl, .inl (kI, 61, .inl (iF ks)))]) rfl (fun H locs hP hD hS => ?_)
        refine lv_iload_n hx hb dX7_look_28 rfl (lv_at hl 2 rfl) ?_
        refine lv_tableIn (tgt := 64) hx hb dX7_look_29 (by decide) (by decide) rfl (by decide) ?_
        refine lv_aload_n hx hb dX7_look_64 rfl (lv_at hl 0 rfl) ?_
        refine va_get (D := D) (ci := 7) (v := .ref hSl) (C := RX7) (T := TX7) (N := 25) hx hb hts (fun w h => (List.mem_cons_of_mem _ (hinX7 w h))) hown hK hP 0 rfl rfl 12 (by decide) (hts _ (List.mem_cons_of_mem _ wd_624)) (fun _ h9 => h9) rfl dX7_look_65 ?_
        refine lv_iload_n hx hb dX7_look_68 rfl (lv_at hl 1 rfl) ?_
        refine wk_iald hx hb hK hP 1 0 rfl rfl (by decide) (by omega) dX7_look_69 ?_
        exact rk_int hx hb hr hlocks hK hP hD hS (by first | rfl | omega) rfl dX7_look_70
      · skip
        exfalso; omega

set_option maxHeartbeats 4000000 in
set_option maxRecDepth 100000 in
theorem tX7_look_11 (l : Launch) (D : va_G) (kI : ClassId) (kZ : ClassId) (kL : ClassId) (kJ : ClassId) (h : Nat) (hRo : Nat) (hNu : Nat) (hWe : Nat) (hDa : Nat) (hVe : Nat) (hSl : Nat) (hTr : Nat) (hBx : Nat) (hSt : Nat) (hLa : Nat) (hOr : Nat) (hSi : Nat) (hTu : Nat) (kt : Int → Int) (th : Int) (sn : Int) (sm : Int) (nw : Int) (rn : Int) (bn : Int) (kn : Int) (cm : Int) (al : Int) (lg : Int) (tt : Int) (dn : Int) (bk : Int) (sz : Nat) (hkn : 0 ≤ kn ∧ kn ≤ 60) (hbk : 1 ≤ bk ∧ bk ≤ kn) : CtI l yX7_look wsX7_look ({ frames := 1, cells := 0, slots := 0, locals := 21 }) D vwCl (tyL kI kZ kL kJ) [(h, .inr (7, [.int (iI th), .int (iI sn), .int (iI sm), .int (iI nw), .ref hRo, .int (iI rn), .int (iI bn), .ref hNu, .ref hWe, .ref hDa, .ref hVe, .int (iI kn), .ref hSl, .ref hTr, .ref hBx, .ref hSt, .ref hLa, .ref hOr, .ref hSi, .ref hTu, .int (iI cm), .int (iI al), .int (iI lg), .int (iI tt), .int (iI dn)])), (hTr, .inl (kI, 61, .inl (iF kt)))] [.ref h, .int (iI bk), .int (iI 1)] (iI (kt bk)) [(h, .inr (7, [.int (iI 0), .int (iI sn), .int (iI sm), .int (iI nw), .ref hRo, .int (iI rn), .int (iI bn), .ref hNu, .ref hWe, .ref hDa, .ref hVe, .int (iI kn), .ref hSl, .ref hTr, .ref hBx, .ref hSt, .ref hLa, .ref hOr, .ref hSi, .ref hTu, .int (iI cm), .int (iI al), .int (iI lg), .int (iI tt), .int (iI dn)])), (hTr, .inl (kI, 61, .inl (iF kt)))] sz := by
  refine ck_start (Qc := fun A => cQi D vwCl (tyL kI kZ kL kJ) A (iI (kt bk)) [(h, .inr (7, [.int (iI 0), .int (iI sn), .int (iI sm), .int (iI nw), .ref hRo, .int (iI rn), .int (iI bn), .ref hNu, .ref hWe, .ref hDa, .ref hVe, .int (iI kn), .ref hSl, .ref hTr, .ref hBx, .ref hSt, .ref hLa, .ref hOr, .ref hSi, .ref hTu, .int (iI cm), .int (iI al), .int (iI lg), .int (iI tt), .int (iI dn)])), (hTr, .inl (kI, 61, .inl (iF kt)))]) (cc := cX7_look) (maxL := 3) (ret := (some .int)) (LV := [(0, .ref h), (1, .int (iI bk)), (2, .int (iI 1))]) (by decide) rfl rfl (Nat.le_of_ble_eq_true rfl) ?_
  intro p e s m below meth cd hadm hx hb hr hml hts hown hlocks hname hnoh hxT A hA hK hP hD hS ls hl
  refine lv_aload_n hx hb dX7_look_0 rfl (lv_at hl 0 rfl) ?_
  refine lv_iload_n hx hb dX7_look_1 rfl (lv_at hl 1 rfl) ?_
  refine pk_callI (va_runV (As := [.int (iI bk)]) (rest := []) ⟨hx, hb, hml, hown, hts⟩ (tX7_isBooking l D kI kZ kL kJ h hRo hNu hWe hDa hVe hSl hTr hBx hSt hLa hOr hSi hTu th sn sm nw rn bn kn cm al lg tt dn bk s.heap.size (by first | assumption | omega) (by first | assumption | omega)) (cwV 1 hts (gd_V tb_cons wd_751 wd_753 wd_24 wd_41 wd_754) rfl rfl rfl (by decide +kernel) ⟨Nat.le_of_ble_eq_true rfl, Nat.le_of_ble_eq_true rfl⟩) (ck_preV hxT hK hP hD [0] rfl (by decide) (q0 := 0) rfl rfl rfl) rfl rfl hl.1 rfl (lv_room (Nat.le_of_ble_eq_true rfl)) dX7_look_2 ⟨Nat.zero_le _, Nat.zero_le _⟩) ?_
  refine wk_bif_eq (tgt := 17) hx hb dX7_look_5 (by decide) (fun c_1 => ?_) (fun c_1 => ?_)
  · skip
    exfalso; omega
  · skip
    refine lv_iload_n hx hb dX7_look_8 rfl (lv_at hl 2 rfl) ?_
    refine wk_if_lt (tgt := 17) hx hb dX7_look_9 (by decide) (by omega) (fun c_2 => ?_) (fun c_2 => ?_)
    · skip
      exfalso; omega
    · skip
      refine lv_iload_n hx hb dX7_look_12 rfl (lv_at hl 2 rfl) ?_
      refine lv_iconst (v := iI 5) hx hb dX7_look_13 rfl ?_
      refine wk_icmp_le (tgt := 23) hx hb dX7_look_14 (by decide) (by omega) (fun c_3 => ?_) (fun c_3 => ?_)
      · skip
        refine lv_aload_n hx hb dX7_look_23 rfl (lv_at hl 0 rfl) ?_
        refine lv_iconst (v := iI 0) hx hb dX7_look_24 rfl ?_
        refine wk_put (ci := 7) (C := RX7) (T := TX7) (N := 25) hx hb hts (fun w h => (List.mem_cons_of_mem _ (hinX7 w h))) tyX7 tyX7_ok nmX7 hown hK hP hD hS 0 rfl rfl 0 (by decide) (hts _ (List.mem_cons_of_mem _ wd_612)) (fun _ h9 => h9) rfl rfl (Nat.le_of_ble_eq_true rfl) dX7_look_25 (ws' := [(h, .inr (7, [.int (iI 0), .int (iI sn), .int (iI sm), .int (iI nw), .ref hRo, .int (iI rn), .int (iI bn), .ref hNu, .ref hWe, .ref hDa, .ref hVe, .int (iI kn), .ref hSl, .ref hTr, .ref hBx, .ref hSt, .ref hLa, .ref hOr, .ref hSi, .ref hTu, .int (iI cm), .int (iI al), .int (iI lg), .int (iI tt), .int (iI dn)])), (hTr, .inl (kI, 61, .inl (iF kt)))]) rfl (fun H locs hP hD hS => ?_)
        refine lv_iload_n hx hb dX7_look_28 rfl (lv_at hl 2 rfl) ?_
        refine lv_tableIn (tgt := 71) hx hb dX7_look_29 (by decide) (by decide) rfl (by decide) ?_
        refine lv_aload_n hx hb dX7_look_71 rfl (lv_at hl 0 rfl) ?_
        refine va_get (D := D) (ci := 7) (v := .ref hTr) (C := RX7) (T := TX7) (N := 25) hx hb hts (fun w h => (List.mem_cons_of_mem _ (hinX7 w h))) hown hK hP 0 rfl rfl 13 (by decide) (hts _ (List.mem_cons_of_mem _ wd_625)) (fun _ h9 => h9) rfl dX7_look_72 ?_
        refine lv_iload_n hx hb dX7_look_75 rfl (lv_at hl 1 rfl) ?_
        refine wk_iald hx hb hK hP 1 0 rfl rfl (by decide) (by omega) dX7_look_76 ?_
        exact rk_int hx hb hr hlocks hK hP hD hS (by first | rfl | omega) rfl dX7_look_77
      · skip
        exfalso; omega

set_option maxHeartbeats 4000000 in
set_option maxRecDepth 100000 in
theorem tX7_look_12 (l : Launch) (D : va_G) (kI : ClassId) (kZ : ClassId) (kL : ClassId) (kJ : ClassId) (h : Nat) (hRo : Nat) (hNu : Nat) (hWe : Nat) (hDa : Nat) (hVe : Nat) (hSl : Nat) (hTr : Nat) (hBx : Nat) (hSt : Nat) (hLa : Nat) (hOr : Nat) (hSi : Nat) (hTu : Nat) (kb : Int → Int) (th : Int) (sn : Int) (sm : Int) (nw : Int) (rn : Int) (bn : Int) (kn : Int) (cm : Int) (al : Int) (lg : Int) (tt : Int) (dn : Int) (bk : Int) (sz : Nat) (hkn : 0 ≤ kn ∧ kn ≤ 60) (hbk : 1 ≤ bk ∧ bk ≤ kn) : CtI l yX7_look wsX7_look ({ frames := 1, cells := 0, slots := 0, locals := 21 }) D vwCl (tyL kI kZ kL kJ) [(h, .inr (7, [.int (iI th), .int (iI sn), .int (iI sm), .int (iI nw), .ref hRo, .int (iI rn), .int (iI bn), .ref hNu, .ref hWe, .ref hDa, .ref hVe, .int (iI kn), .ref hSl, .ref hTr, .ref hBx, .ref hSt, .ref hLa, .ref hOr, .ref hSi, .ref hTu, .int (iI cm), .int (iI al), .int (iI lg), .int (iI tt), .int (iI dn)])), (hBx, .inl (kI, 61, .inl (iF kb)))] [.ref h, .int (iI bk), .int (iI 2)] (iI (kb bk)) [(h, .inr (7, [.int (iI 0), .int (iI sn), .int (iI sm), .int (iI nw), .ref hRo, .int (iI rn), .int (iI bn), .ref hNu, .ref hWe, .ref hDa, .ref hVe, .int (iI kn), .ref hSl, .ref hTr, .ref hBx, .ref hSt, .ref hLa, .ref hOr, .ref hSi, .ref hTu, .int (iI cm), .int (iI al), .int (iI lg), .int (iI tt), .int (iI dn)])), (hBx, .inl (kI, 61, .inl (iF kb)))] sz := by
  refine ck_start (Qc := fun A => cQi D vwCl (tyL kI kZ kL kJ) A (iI (kb bk)) [(h, .inr (7, [.int (iI 0), .int (iI sn), .int (iI sm), .int (iI nw), .ref hRo, .int (iI rn), .int (iI bn), .ref hNu, .ref hWe, .ref hDa, .ref hVe, .int (iI kn), .ref hSl, .ref hTr, .ref hBx, .ref hSt, .ref hLa, .ref hOr, .ref hSi, .ref hTu, .int (iI cm), .int (iI al), .int (iI lg), .int (iI tt), .int (iI dn)])), (hBx, .inl (kI, 61, .inl (iF kb)))]) (cc := cX7_look) (maxL := 3) (ret := (some .int)) (LV := [(0, .ref h), (1, .int (iI bk)), (2, .int (iI 2))]) (by decide) rfl rfl (Nat.le_of_ble_eq_true rfl) ?_
  intro p e s m below meth cd hadm hx hb hr hml hts hown hlocks hname hnoh hxT A hA hK hP hD hS ls hl
  refine lv_aload_n hx hb dX7_look_0 rfl (lv_at hl 0 rfl) ?_
  refine lv_iload_n hx hb dX7_look_1 rfl (lv_at hl 1 rfl) ?_
  refine pk_callI (va_runV (As := [.int (iI bk)]) (rest := []) ⟨hx, hb, hml, hown, hts⟩ (tX7_isBooking l D kI kZ kL kJ h hRo hNu hWe hDa hVe hSl hTr hBx hSt hLa hOr hSi hTu th sn sm nw rn bn kn cm al lg tt dn bk s.heap.size (by first | assumption | omega) (by first | assumption | omega)) (cwV 1 hts (gd_V tb_cons wd_751 wd_753 wd_24 wd_41 wd_754) rfl rfl rfl (by decide +kernel) ⟨Nat.le_of_ble_eq_true rfl, Nat.le_of_ble_eq_true rfl⟩) (ck_preV hxT hK hP hD [0] rfl (by decide) (q0 := 0) rfl rfl rfl) rfl rfl hl.1 rfl (lv_room (Nat.le_of_ble_eq_true rfl)) dX7_look_2 ⟨Nat.zero_le _, Nat.zero_le _⟩) ?_
  refine wk_bif_eq (tgt := 17) hx hb dX7_look_5 (by decide) (fun c_1 => ?_) (fun c_1 => ?_)
  · skip
    exfalso; omega
  · skip
    refine lv_iload_n hx hb dX7_look_8 rfl (lv_at hl 2 rfl) ?_
    refine wk_if_lt (tgt := 17) hx hb dX7_look_9 (by decide) (by omega) (fun c_2 => ?_) (fun c_2 => ?_)
    · skip
      exfalso; omega
    · skip
      refine lv_iload_n hx hb dX7_look_12 rfl (lv_at hl 2 rfl) ?_
      refine lv_iconst (v := iI 5) hx hb dX7_look_13 rfl ?_
      refine wk_icmp_le (tgt := 23) hx hb dX7_look_14 (by decide) (by omega) (fun c_3 => ?_) (fun c_3 => ?_)
      · skip
        refine lv_aload_n hx hb dX7_look_23 rfl (lv_at hl 0 rfl) ?_
        refine lv_iconst (v := iI 0) hx hb dX7_look_24 rfl ?_
        refine wk_put (ci := 7) (C := RX7) (T := TX7) (N := 25) hx hb hts (fun w h => (List.mem_cons_of_mem _ (hinX7 w h))) tyX7 tyX7_ok nmX7 hown hK hP hD hS 0 rfl rfl 0 (by decide) (hts _ (List.mem_cons_of_mem _ wd_612)) (fun _ h9 => h9) rfl rfl (Nat.le_of_ble_eq_true rfl) dX7_look_25 (ws' := [(h, .inr (7, [.int (iI 0), .int (iI sn), .int (iI sm), .int (iI nw), .ref hRo, .int (iI rn), .int (iI bn), .ref hNu, .ref hWe, .ref hDa, .ref hVe, .int (iI kn), .ref hSl, .ref hTr, .ref hBx, .ref hSt, .ref hLa, .ref hOr, .ref hSi, .ref hTu, .int (iI cm), .int (iI al), .int (iI lg), .int (iI tt), .int (iI dn)])), (hBx, .inl (kI, 61, .inl (iF kb)))]) rfl (fun H locs hP hD hS => ?_)
        refine lv_iload_n hx hb dX7_look_28 rfl (lv_at hl 2 rfl) ?_
        refine lv_tableIn (tgt := 78) hx hb dX7_look_29 (by decide) (by decide) rfl (by decide) ?_
        refine lv_aload_n hx hb dX7_look_78 rfl (lv_at hl 0 rfl) ?_
        refine va_get (D := D) (ci := 7) (v := .ref hBx) (C := RX7) (T := TX7) (N := 25) hx hb hts (fun w h => (List.mem_cons_of_mem _ (hinX7 w h))) hown hK hP 0 rfl rfl 14 (by decide) (hts _ (List.mem_cons_of_mem _ wd_626)) (fun _ h9 => h9) rfl dX7_look_79 ?_
        refine lv_iload_n hx hb dX7_look_82 rfl (lv_at hl 1 rfl) ?_
        refine wk_iald hx hb hK hP 1 0 rfl rfl (by decide) (by omega) dX7_look_83 ?_
        exact rk_int hx hb hr hlocks hK hP hD hS (by first | rfl | omega) rfl dX7_look_84
      · skip
        exfalso; omega

set_option maxHeartbeats 4000000 in
set_option maxRecDepth 100000 in
theorem tX7_look_13 (l : Launch) (D : va_G) (kI : ClassId) (kZ : ClassId) (kL : ClassId) (kJ : ClassId) (h : Nat) (hRo : Nat) (hNu : Nat) (hWe : Nat) (hDa : Nat) (hVe : Nat) (hSl : Nat) (hTr : Nat) (hBx : Nat) (hSt : Nat) (hLa : Nat) (hOr : Nat) (hSi : Nat) (hTu : Nat) (kz : Int → Int) (th : Int) (sn : Int) (sm : Int) (nw : Int) (rn : Int) (bn : Int) (kn : Int) (cm : Int) (al : Int) (lg : Int) (tt : Int) (dn : Int) (bk : Int) (sz : Nat) (hkn : 0 ≤ kn ∧ kn ≤ 60) (hbk : 1 ≤ bk ∧ bk ≤ kn) : CtI l yX7_look wsX7_look ({ frames := 1, cells := 0, slots := 0, locals := 21 }) D vwCl (tyL kI kZ kL kJ) [(h, .inr (7, [.int (iI th), .int (iI sn), .int (iI sm), .int (iI nw), .ref hRo, .int (iI rn), .int (iI bn), .ref hNu, .ref hWe, .ref hDa, .ref hVe, .int (iI kn), .ref hSl, .ref hTr, .ref hBx, .ref hSt, .ref hLa, .ref hOr, .ref hSi, .ref hTu, .int (iI cm), .int (iI al), .int (iI lg), .int (iI tt), .int (iI dn)])), (hSt, .inl (kI, 61, .inl (iF kz)))] [.ref h, .int (iI bk), .int (iI 3)] (iI (kz bk)) [(h, .inr (7, [.int (iI 0), .int (iI sn), .int (iI sm), .int (iI nw), .ref hRo, .int (iI rn), .int (iI bn), .ref hNu, .ref hWe, .ref hDa, .ref hVe, .int (iI kn), .ref hSl, .ref hTr, .ref hBx, .ref hSt, .ref hLa, .ref hOr, .ref hSi, .ref hTu, .int (iI cm), .int (iI al), .int (iI lg), .int (iI tt), .int (iI dn)])), (hSt, .inl (kI, 61, .inl (iF kz)))] sz := by
  refine ck_start (Qc := fun A => cQi D vwCl (tyL kI kZ kL kJ) A (iI (kz bk)) [(h, .inr (7, [.int (iI 0), .int (iI sn), .int (iI sm), .int (iI nw), .ref hRo, .int (iI rn), .int (iI bn), .ref hNu, .ref hWe, .ref hDa, .ref hVe, .int (iI kn), .ref hSl, .ref hTr, .ref hBx, .ref hSt, .ref hLa, .ref hOr, .ref hSi, .ref hTu, .int (iI cm), .int (iI al), .int (iI lg), .int (iI tt), .int (iI dn)])), (hSt, .inl (kI, 61, .inl (iF kz)))]) (cc := cX7_look) (maxL := 3) (ret := (some .int)) (LV := [(0, .ref h), (1, .int (iI bk)), (2, .int (iI 3))]) (by decide) rfl rfl (Nat.le_of_ble_eq_true rfl) ?_
  intro p e s m below meth cd hadm hx hb hr hml hts hown hlocks hname hnoh hxT A hA hK hP hD hS ls hl
  refine lv_aload_n hx hb dX7_look_0 rfl (lv_at hl 0 rfl) ?_
  refine lv_iload_n hx hb dX7_look_1 rfl (lv_at hl 1 rfl) ?_
  refine pk_callI (va_runV (As := [.int (iI bk)]) (rest := []) ⟨hx, hb, hml, hown, hts⟩ (tX7_isBooking l D kI kZ kL kJ h hRo hNu hWe hDa hVe hSl hTr hBx hSt hLa hOr hSi hTu th sn sm nw rn bn kn cm al lg tt dn bk s.heap.size (by first | assumption | omega) (by first | assumption | omega)) (cwV 1 hts (gd_V tb_cons wd_751 wd_753 wd_24 wd_41 wd_754) rfl rfl rfl (by decide +kernel) ⟨Nat.le_of_ble_eq_true rfl, Nat.le_of_ble_eq_true rfl⟩) (ck_preV hxT hK hP hD [0] rfl (by decide) (q0 := 0) rfl rfl rfl) rfl rfl hl.1 rfl (lv_room (Nat.le_of_ble_eq_true rfl)) dX7_look_2 ⟨Nat.zero_le _, Nat.zero_le _⟩) ?_
  refine wk_bif_eq (tgt := 17) hx hb dX7_look_5 (by decide) (fun c_1 => ?_) (fun c_1 => ?_)
  · skip
    exfalso; omega
  · skip
    refine lv_iload_n hx hb dX7_look_8 rfl (lv_at hl 2 rfl) ?_
    refine wk_if_lt (tgt := 17) hx hb dX7_look_9 (by decide) (by omega) (fun c_2 => ?_) (fun c_2 => ?_)
    · skip
      exfalso; omega
    · skip
      refine lv_iload_n hx hb dX7_look_12 rfl (lv_at hl 2 rfl) ?_
      refine lv_iconst (v := iI 5) hx hb dX7_look_13 rfl ?_
      refine wk_icmp_le (tgt := 23) hx hb dX7_look_14 (by decide) (by omega) (fun c_3 => ?_) (fun c_3 => ?_)
      · skip
        refine lv_aload_n hx hb dX7_look_23 rfl (lv_at hl 0 rfl) ?_
        refine lv_iconst (v := iI 0) hx hb dX7_look_24 rfl ?_
        refine wk_put (ci := 7) (C := RX7) (T := TX7) (N := 25) hx hb hts (fun w h => (List.mem_cons_of_mem _ (hinX7 w h))) tyX7 tyX7_ok nmX7 hown hK hP hD hS 0 rfl rfl 0 (by decide) (hts _ (List.mem_cons_of_mem _ wd_612)) (fun _ h9 => h9) rfl rfl (Nat.le_of_ble_eq_true rfl) dX7_look_25 (ws' := [(h, .inr (7, [.int (iI 0), .int (iI sn), .int (iI sm), .int (iI nw), .ref hRo, .int (iI rn), .int (iI bn), .ref hNu, .ref hWe, .ref hDa, .ref hVe, .int (iI kn), .ref hSl, .ref hTr, .ref hBx, .ref hSt, .ref hLa, .ref hOr, .ref hSi, .ref hTu, .int (iI cm), .int (iI al), .int (iI lg), .int (iI tt), .int (iI dn)])), (hSt, .inl (kI, 61, .inl (iF kz)))]) rfl (fun H locs hP hD hS => ?_)
        refine lv_iload_n hx hb dX7_look_28 rfl (lv_at hl 2 rfl) ?_
        refine lv_tableIn (tgt := 85) hx hb dX7_look_29 (by decide) (by decide) rfl (by decide) ?_
        refine lv_aload_n hx hb dX7_look_85 rfl (lv_at hl 0 rfl) ?_
        refine va_get (D := D) (ci := 7) (v := .ref hSt) (C := RX7) (T := TX7) (N := 25) hx hb hts (fun w h => (List.mem_cons_of_mem _ (hinX7 w h))) hown hK hP 0 rfl rfl 15 (by decide) (hts _ (List.mem_cons_of_mem _ wd_627)) (fun _ h9 => h9) rfl dX7_look_86 ?_
        refine lv_iload_n hx hb dX7_look_89 rfl (lv_at hl 1 rfl) ?_
        refine wk_iald hx hb hK hP 1 0 rfl rfl (by decide) (by omega) dX7_look_90 ?_
        exact rk_int hx hb hr hlocks hK hP hD hS (by first | rfl | omega) rfl dX7_look_91
      · skip
        exfalso; omega

set_option maxHeartbeats 4000000 in
set_option maxRecDepth 100000 in
theorem tX7_look_15 (l : Launch) (D : va_G) (kI : ClassId) (kZ : ClassId) (kL : ClassId) (kJ : ClassId) (h : Nat) (hRo : Nat) (hNu : Nat) (hWe : Nat) (hDa : Nat) (hVe : Nat) (hSl : Nat) (hTr : Nat) (hBx : Nat) (hSt : Nat) (hLa : Nat) (hOr : Nat) (hSi : Nat) (hTu : Nat) (mt : Int → Int) (th : Int) (sn : Int) (sm : Int) (nw : Int) (rn : Int) (bn : Int) (kn : Int) (cm : Int) (al : Int) (lg : Int) (tt : Int) (dn : Int) (bk : Int) (sz : Nat) (hkn : 0 ≤ kn ∧ kn ≤ 60) (hbk : 1 ≤ bk ∧ bk ≤ kn) : CtI l yX7_look wsX7_look ({ frames := 1, cells := 0, slots := 0, locals := 21 }) D vwCl (tyL kI kZ kL kJ) [(h, .inr (7, [.int (iI th), .int (iI sn), .int (iI sm), .int (iI nw), .ref hRo, .int (iI rn), .int (iI bn), .ref hNu, .ref hWe, .ref hDa, .ref hVe, .int (iI kn), .ref hSl, .ref hTr, .ref hBx, .ref hSt, .ref hLa, .ref hOr, .ref hSi, .ref hTu, .int (iI cm), .int (iI al), .int (iI lg), .int (iI tt), .int (iI dn)])), (hTu, .inl (kI, 61, .inl (iF mt)))] [.ref h, .int (iI bk), .int (iI 5)] (iI (mt bk)) [(h, .inr (7, [.int (iI 0), .int (iI sn), .int (iI sm), .int (iI nw), .ref hRo, .int (iI rn), .int (iI bn), .ref hNu, .ref hWe, .ref hDa, .ref hVe, .int (iI kn), .ref hSl, .ref hTr, .ref hBx, .ref hSt, .ref hLa, .ref hOr, .ref hSi, .ref hTu, .int (iI cm), .int (iI al), .int (iI lg), .int (iI tt), .int (iI dn)])), (hTu, .inl (kI, 61, .inl (iF mt)))] sz := by
  refine ck_start (Qc := fun A => cQi D vwCl (tyL kI kZ kL kJ) A (iI (mt bk)) [(h, .inr (7, [.int (iI 0), .int (iI sn), .int (iI sm), .int (iI nw), .ref hRo, .int (iI rn), .int (iI bn), .ref hNu, .ref hWe, .ref hDa, .ref hVe, .int (iI kn), .ref hSl, .ref hTr, .ref hBx, .ref hSt, .ref hLa, .ref hOr, .ref hSi, .ref hTu, .int (iI cm), .int (iI al), .int (iI lg), .int (iI tt), .int (iI dn)])), (hTu, .inl (kI, 61, .inl (iF mt)))]) (cc := cX7_look) (maxL := 3) (ret := (some .int)) (LV := [(0, .ref h), (1, .int (iI bk)), (2, .int (iI 5))]) (by decide) rfl rfl (Nat.le_of_ble_eq_true rfl) ?_
  intro p e s m below meth cd hadm hx hb hr hml hts hown hlocks hname hnoh hxT A hA hK hP hD hS ls hl
  refine lv_aload_n hx hb dX7_look_0 rfl (lv_at hl 0 rfl) ?_
  refine lv_iload_n hx hb dX7_look_1 rfl (lv_at hl 1 rfl) ?_
  refine pk_callI (va_runV (As := [.int (iI bk)]) (rest := []) ⟨hx, hb, hml, hown, hts⟩ (tX7_isBooking l D kI kZ kL kJ h hRo hNu hWe hDa hVe hSl hTr hBx hSt hLa hOr hSi hTu th sn sm nw rn bn kn cm al lg tt dn bk s.heap.size (by first | assumption | omega) (by first | assumption | omega)) (cwV 1 hts (gd_V tb_cons wd_751 wd_753 wd_24 wd_41 wd_754) rfl rfl rfl (by decide +kernel) ⟨Nat.le_of_ble_eq_true rfl, Nat.le_of_ble_eq_true rfl⟩) (ck_preV hxT hK hP hD [0] rfl (by decide) (q0 := 0) rfl rfl rfl) rfl rfl hl.1 rfl (lv_room (Nat.le_of_ble_eq_true rfl)) dX7_look_2 ⟨Nat.zero_le _, Nat.zero_le _⟩) ?_
  refine wk_bif_eq (tgt := 17) hx hb dX7_look_5 (by decide) (fun c_1 => ?_) (fun c_1 => ?_)
  · skip
    exfalso; omega
  · skip
    refine lv_iload_n hx hb dX7_look_8 rfl (lv_at hl 2 rfl) ?_
    refine wk_if_lt (tgt := 17) hx hb dX7_look_9 (by decide) (by omega) (fun c_2 => ?_) (fun c_2 => ?_)
    · skip
      exfalso; omega
    · skip
      refine lv_iload_n hx hb dX7_look_12 rfl (lv_at hl 2 rfl) ?_
      refine lv_iconst (v := iI 5) hx hb dX7_look_13 rfl ?_
      refine wk_icmp_le (tgt := 23) hx hb dX7_look_14 (by decide) (by omega) (fun c_3 => ?_) (fun c_3 => ?_)
      · skip
        refine lv_aload_n hx hb dX7_look_23 rfl (lv_at hl 0 rfl) ?_
        refine lv_iconst (v := iI 0) hx hb dX7_look_24 rfl ?_
        refine wk_put (ci := 7) (C := RX7) (T := TX7) (N := 25) hx hb hts (fun w h => (List.mem_cons_of_mem _ (hinX7 w h))) tyX7 tyX7_ok nmX7 hown hK hP hD hS 0 rfl rfl 0 (by decide) (hts _ (List.mem_cons_of_mem _ wd_612)) (fun _ h9 => h9) rfl rfl (Nat.le_of_ble_eq_true rfl) dX7_look_25 (ws' := [(h, .inr (7, [.int (iI 0), .int (iI sn), .int (iI sm), .int (iI nw), .ref hRo, .int (iI rn), .int (iI bn), .ref hNu, .ref hWe, .ref hDa, .ref hVe, .int (iI kn), .ref hSl, .ref hTr, .ref hBx, .ref hSt, .ref hLa, .ref hOr, .ref hSi, .ref hTu, .int (iI cm), .int (iI al), .int (iI lg), .int (iI tt), .int (iI dn)])), (hTu, .inl (kI, 61, .inl (iF mt)))]) rfl (fun H locs hP hD hS => ?_)
        refine lv_iload_n hx hb dX7_look_28 rfl (lv_at hl 2 rfl) ?_
        refine lv_tableOut (tgt := 113) hx hb dX7_look_29 (by decide) (by decide) ?_
        refine lv_aload_n hx hb dX7_look_113 rfl (lv_at hl 0 rfl) ?_
        refine va_get (D := D) (ci := 7) (v := .ref hTu) (C := RX7) (T := TX7) (N := 25) hx hb hts (fun w h => (List.mem_cons_of_mem _ (hinX7 w h))) hown hK hP 0 rfl rfl 19 (by decide) (hts _ (List.mem_cons_of_mem _ wd_631)) (fun _ h9 => h9) rfl dX7_look_114 ?_
        refine lv_iload_n hx hb dX7_look_117 rfl (lv_at hl 1 rfl) ?_
        refine wk_iald hx hb hK hP 1 0 rfl rfl (by decide) (by omega) dX7_look_118 ?_
        exact rk_int hx hb hr hlocks hK hP hD hS (by first | rfl | omega) rfl dX7_look_119
      · skip
        exfalso; omega

set_option maxHeartbeats 4000000 in
set_option maxRecDepth 100000 in
theorem tX7_look_14 (l : Launch) (D : va_G) (kI : ClassId) (kZ : ClassId) (kL : ClassId) (kJ : ClassId) (h : Nat) (hRo : Nat) (hNu : Nat) (hWe : Nat) (hDa : Nat) (hVe : Nat) (hSl : Nat) (hTr : Nat) (hBx : Nat) (hSt : Nat) (hLa : Nat) (hOr : Nat) (hSi : Nat) (hTu : Nat) (kz : Int → Int) (kl : Int → Int) (th : Int) (sn : Int) (sm : Int) (nw : Int) (rn : Int) (bn : Int) (kn : Int) (cm : Int) (al : Int) (lg : Int) (tt : Int) (dn : Int) (bk : Int) (sz : Nat) (hkn : 0 ≤ kn ∧ kn ≤ 60) (hbk : 1 ≤ bk ∧ bk ≤ kn) (hkz : ∀ j, 0 ≤ kz j ∧ kz j ≤ 1000000) : CtI l yX7_look wsX7_look ({ frames := 1, cells := 0, slots := 0, locals := 21 }) D vwCl (tyL kI kZ kL kJ) [(h, .inr (7, [.int (iI th), .int (iI sn), .int (iI sm), .int (iI nw), .ref hRo, .int (iI rn), .int (iI bn), .ref hNu, .ref hWe, .ref hDa, .ref hVe, .int (iI kn), .ref hSl, .ref hTr, .ref hBx, .ref hSt, .ref hLa, .ref hOr, .ref hSi, .ref hTu, .int (iI cm), .int (iI al), .int (iI lg), .int (iI tt), .int (iI dn)])), (hSt, .inl (kI, 61, .inl (iF kz))), (hLa, .inl (kI, 61, .inl (iF kl)))] [.ref h, .int (iI bk), .int (iI 4)] (iI (if kz bk = 1 then kl bk else -1)) [(h, .inr (7, [.int (iI 0), .int (iI sn), .int (iI sm), .int (iI nw), .ref hRo, .int (iI rn), .int (iI bn), .ref hNu, .ref hWe, .ref hDa, .ref hVe, .int (iI kn), .ref hSl, .ref hTr, .ref hBx, .ref hSt, .ref hLa, .ref hOr, .ref hSi, .ref hTu, .int (iI cm), .int (iI al), .int (iI lg), .int (iI tt), .int (iI dn)])), (hSt, .inl (kI, 61, .inl (iF kz))), (hLa, .inl (kI, 61, .inl (iF kl)))] sz := by
  refine ck_start (Qc := fun A => cQi D vwCl (tyL kI kZ kL kJ) A (iI (if kz bk = 1 then kl bk else -1)) [(h, .inr (7, [.int (iI 0), .int (iI sn), .int (iI sm), .int (iI nw), .ref hRo, .int (iI rn), .int (iI bn), .ref hNu, .ref hWe, .ref hDa, .ref hVe, .int (iI kn), .ref hSl, .ref hTr, .ref hBx, .ref hSt, .ref hLa, .ref hOr, .ref hSi, .ref hTu, .int (iI cm), .int (iI al), .int (iI lg), .int (iI tt), .int (iI dn)])), (hSt, .inl (kI, 61, .inl (iF kz))), (hLa, .inl (kI, 61, .inl (iF kl)))]) (cc := cX7_look) (maxL := 3) (ret := (some .int)) (LV := [(0, .ref h), (1, .int (iI bk)), (2, .int (iI 4))]) (by decide) rfl rfl (Nat.le_of_ble_eq_true rfl) ?_
  intro p e s m below meth cd hadm hx hb hr hml hts hown hlocks hname hnoh hxT A hA hK hP hD hS ls hl
  refine lv_aload_n hx hb dX7_look_0 rfl (lv_at hl 0 rfl) ?_
  refine lv_iload_n hx hb dX7_look_1 rfl (lv_at hl 1 rfl) ?_
  refine pk_callI (va_runV (As := [.int (iI bk)]) (rest := []) ⟨hx, hb, hml, hown, hts⟩ (tX7_isBooking l D kI kZ kL kJ h hRo hNu hWe hDa hVe hSl hTr hBx hSt hLa hOr hSi hTu th sn sm nw rn bn kn cm al lg tt dn bk s.heap.size (by first | assumption | omega) (by first | assumption | omega)) (cwV 1 hts (gd_V tb_cons wd_751 wd_753 wd_24 wd_41 wd_754) rfl rfl rfl (by decide +kernel) ⟨Nat.le_of_ble_eq_true rfl, Nat.le_of_ble_eq_true rfl⟩) (ck_preV hxT hK hP hD [0] rfl (by decide) (q0 := 0) rfl rfl rfl) rfl rfl hl.1 rfl (lv_room (Nat.le_of_ble_eq_true rfl)) dX7_look_2 ⟨Nat.zero_le _, Nat.zero_le _⟩) ?_
  refine wk_bif_eq (tgt := 17) hx hb dX7_look_5 (by decide) (fun c_1 => ?_) (fun c_1 => ?_)
  · skip
    exfalso; omega
  · skip
    refine lv_iload_n hx hb dX7_look_8 rfl (lv_at hl 2 rfl) ?_
    refine wk_if_lt (tgt := 17) hx hb dX7_look_9 (by decide) (by omega) (fun c_2 => ?_) (fun c_2 => ?_)
    · skip
      exfalso; omega
    · skip
      refine lv_iload_n hx hb dX7_look_12 rfl (lv_at hl 2 rfl) ?_
      refine lv_iconst (v := iI 5) hx hb dX7_look_13 rfl ?_
      refine wk_icmp_le (tgt := 23) hx hb dX7_look_14 (by decide) (by omega) (fun c_3 => ?_) (fun c_3 => ?_)
      · skip
        refine lv_aload_n hx hb dX7_look_23 rfl (lv_at hl 0 rfl) ?_
        refine lv_iconst (v := iI 0) hx hb dX7_look_24 rfl ?_
        refine wk_put (ci := 7) (C := RX7) (T := TX7) (N := 25) hx hb hts (fun w h => (List.mem_cons_of_mem _ (hinX7 w h))) tyX7 tyX7_ok nmX7 hown hK hP hD hS 0 rfl rfl 0 (by decide) (hts _ (List.mem_cons_of_mem _ wd_612)) (fun _ h9 => h9) rfl rfl (Nat.le_of_ble_eq_true rfl) dX7_look_25 (ws' := [(h, .inr (7, [.int (iI 0), .int (iI sn), .int (iI sm), .int (iI nw), .ref hRo, .int (iI rn), .int (iI bn), .ref hNu, .ref hWe, .ref hDa, .ref hVe, .int (iI kn), .ref hSl, .ref hTr, .ref hBx, .ref hSt, .ref hLa, .ref hOr, .ref hSi, .ref hTu, .int (iI cm), .int (iI al), .int (iI lg), .int (iI tt), .int (iI dn)])), (hSt, .inl (kI, 61, .inl (iF kz))), (hLa, .inl (kI, 61, .inl (iF kl)))]) rfl (fun H locs hP hD hS => ?_)
        refine lv_iload_n hx hb dX7_look_28 rfl (lv_at hl 2 rfl) ?_
        refine lv_tableIn (tgt := 92) hx hb dX7_look_29 (by decide) (by decide) rfl (by decide) ?_
        refine lv_aload_n hx hb dX7_look_92 rfl (lv_at hl 0 rfl) ?_
        refine va_get (D := D) (ci := 7) (v := .ref hSt) (C := RX7) (T := TX7) (N := 25) hx hb hts (fun w h => (List.mem_cons_of_mem _ (hinX7 w h))) hown hK hP 0 rfl rfl 15 (by decide) (hts _ (List.mem_cons_of_mem _ wd_627)) (fun _ h9 => h9) rfl dX7_look_93 ?_
        refine lv_iload_n hx hb dX7_look_96 rfl (lv_at hl 1 rfl) ?_
        refine wk_iald hx hb hK hP 1 0 rfl rfl (by decide) (by omega) dX7_look_97 ?_
        have b_4 := hkz bk
        refine lv_iconst (v := iI 1) hx hb dX7_look_98 rfl ?_
        refine wk_icmp_ne (tgt := 111) hx hb dX7_look_99 (by decide) (by omega) (fun c_5 => ?_) (fun c_5 => ?_)
        · skip
          refine lv_iconst (v := iI (-1)) hx hb dX7_look_111 rfl ?_
          exact rk_int hx hb hr hlocks hK hP hD hS (by split <;> first | rfl | omega) rfl dX7_look_112
        · skip
          refine lv_aload_n hx hb dX7_look_102 rfl (lv_at hl 0 rfl) ?_
          refine va_get (D := D) (ci := 7) (v := .ref hLa) (C := RX7) (T := TX7) (N := 25) hx hb hts (fun w h => (List.mem_cons_of_mem _ (hinX7 w h))) hown hK hP 0 rfl rfl 16 (by decide) (hts _ (List.mem_cons_of_mem _ wd_628)) (fun _ h9 => h9) rfl dX7_look_103 ?_
          refine lv_iload_n hx hb dX7_look_106 rfl (lv_at hl 1 rfl) ?_
          refine wk_iald hx hb hK hP 2 0 rfl rfl (by decide) (by omega) dX7_look_107 ?_
          refine lv_goto (tgt := 112) hx hb dX7_look_108 (by decide) ?_
          exact rk_int hx hb hr hlocks hK hP hD hS (by split <;> first | rfl | omega) rfl dX7_look_112
      · skip
        exfalso; omega

set_option maxHeartbeats 4000000 in
set_option maxRecDepth 100000 in
theorem tX7_at_1 (l : Launch) (D : va_G) (kI : ClassId) (kZ : ClassId) (kL : ClassId) (kJ : ClassId) (h : Nat) (hRo : Nat) (hNu : Nat) (hWe : Nat) (hDa : Nat) (hVe : Nat) (hSl : Nat) (hTr : Nat) (hBx : Nat) (hSt : Nat) (hLa : Nat) (hOr : Nat) (hSi : Nat) (hTu : Nat) (th : Int) (sn : Int) (sm : Int) (nw : Int) (rn : Int) (bn : Int) (kn : Int) (cm : Int) (al : Int) (lg : Int) (tt : Int) (dn : Int) (bx : Int) (pl : Int) (sz : Nat) (hbn : 0 ≤ bn ∧ bn ≤ 20) (hbx : -2147483648 ≤ bx ∧ bx ≤ 2147483647) (hpl : -2147483648 ≤ pl ∧ pl ≤ 2147483647) (h1 : ¬ ((0 ≤ bx ∧ bx < bn) ∧ 0 ≤ pl ∧ pl < 10)) : CtI l yX7_at wsX7_at ({ frames := 1, cells := 0, slots := 0, locals := 21 }) D vwCl (tyL kI kZ kL kJ) [(h, .inr (7, [.int (iI th), .int (iI sn), .int (iI sm), .int (iI nw), .ref hRo, .int (iI rn), .int (iI bn), .ref hNu, .ref hWe, .ref hDa, .ref hVe, .int (iI kn), .ref hSl, .ref hTr, .ref hBx, .ref hSt, .ref hLa, .ref hOr, .ref hSi, .ref hTu, .int (iI cm), .int (iI al), .int (iI lg), .int (iI tt), .int (iI dn)]))] [.ref h, .int (iI bx), .int (iI pl)] (iI 0) [(h, .inr (7, [.int (iI 1), .int (iI sn), .int (iI sm), .int (iI nw), .ref hRo, .int (iI rn), .int (iI bn), .ref hNu, .ref hWe, .ref hDa, .ref hVe, .int (iI kn), .ref hSl, .ref hTr, .ref hBx, .ref hSt, .ref hLa, .ref hOr, .ref hSi, .ref hTu, .int (iI cm), .int (iI al), .int (iI lg), .int (iI tt), .int (iI dn)]))] sz := by
  refine ck_start (Qc := fun A => cQi D vwCl (tyL kI kZ kL kJ) A (iI 0) [(h, .inr (7, [.int (iI 1), .int (iI sn), .int (iI sm), .int (iI nw), .ref hRo, .int (iI rn), .int (iI bn), .ref hNu, .ref hWe, .ref hDa, .ref hVe, .int (iI kn), .ref hSl, .ref hTr, .ref hBx, .ref hSt, .ref hLa, .ref hOr, .ref hSi, .ref hTu, .int (iI cm), .int (iI al), .int (iI lg), .int (iI tt), .int (iI dn)]))]) (cc := cX7_at) (maxL := 3) (ret := (some .int)) (LV := [(0, .ref h), (1, .int (iI bx)), (2, .int (iI pl))]) (by decide) rfl rfl (Nat.le_of_ble_eq_true rfl) ?_
  intro p e s m below meth cd hadm hx hb hr hml hts hown hlocks hname hnoh hxT A hA hK hP hD hS ls hl
  refine lv_iload_n hx hb dX7_at_0 rfl (lv_at hl 1 rfl) ?_
  refine wk_if_lt (tgt := 22) hx hb dX7_at_1 (by decide) (by omega) (fun c_1 => ?_) (fun c_1 => ?_)
  · skip
    refine lv_aload_n hx hb dX7_at_22 rfl (lv_at hl 0 rfl) ?_
    refine lv_iconst (v := iI 1) hx hb dX7_at_23 rfl ?_
    refine ck_backI (va_runV (As := [.int (iI 1)]) (rest := []) ⟨hx, hb, hml, hown, hts⟩ (tX7_fails l D kI kZ kL kJ h hRo hNu hWe hDa hVe hSl hTr hBx hSt hLa hOr hSi hTu th sn sm nw rn bn kn cm al lg tt dn 1 s.heap.size ) (cwV 1 hts (gd_V tb_cons wd_702 wd_704 wd_18 wd_41 wd_705) rfl rfl rfl (by decide +kernel) ⟨Nat.le_of_ble_eq_true rfl, Nat.le_of_ble_eq_true rfl⟩) (ck_preV hxT hK hP hD [0] rfl (by decide) (q0 := 0) rfl rfl rfl) rfl rfl hl.1 rfl (lv_room (Nat.le_of_ble_eq_true rfl)) dX7_at_24 ⟨Nat.zero_le _, Nat.zero_le _⟩) hP hD hS hA [0] [] (WR := []) rfl rfl (by decide) (by decide) (ws' := [(h, .inr (7, [.int (iI 1), .int (iI sn), .int (iI sm), .int (iI nw), .ref hRo, .int (iI rn), .int (iI bn), .ref hNu, .ref hWe, .ref hDa, .ref hVe, .int (iI kn), .ref hSl, .ref hTr, .ref hBx, .ref hSt, .ref hLa, .ref hOr, .ref hSi, .ref hTu, .int (iI cm), .int (iI al), .int (iI lg), .int (iI tt), .int (iI dn)]))]) rfl (fun H locs hP hD hS => ?_)
    exact rk_int hx hb hr hlocks hK hP hD hS (by first | rfl | omega) rfl dX7_at_27
  · skip
    refine lv_iload_n hx hb dX7_at_4 rfl (lv_at hl 1 rfl) ?_
    refine lv_aload_n hx hb dX7_at_5 rfl (lv_at hl 0 rfl) ?_
    refine va_get (D := D) (ci := 7) (v := .int (iI bn)) (C := RX7) (T := TX7) (N := 25) hx hb hts (fun w h => (List.mem_cons_of_mem _ (hinX7 w h))) hown hK hP 0 rfl rfl 6 (by decide) (hts _ (List.mem_cons_of_mem _ wd_618)) (fun _ h9 => h9) rfl dX7_at_6 ?_
    refine wk_icmp_ge (tgt := 22) hx hb dX7_at_9 (by decide) (by omega) (fun c_2 => ?_) (fun c_2 => ?_)
    · skip
      refine lv_aload_n hx hb dX7_at_22 rfl (lv_at hl 0 rfl) ?_
      refine lv_iconst (v := iI 1) hx hb dX7_at_23 rfl ?_
      refine ck_backI (va_runV (As := [.int (iI 1)]) (rest := []) ⟨hx, hb, hml, hown, hts⟩ (tX7_fails l D kI kZ kL kJ h hRo hNu hWe hDa hVe hSl hTr hBx hSt hLa hOr hSi hTu th sn sm nw rn bn kn cm al lg tt dn 1 s.heap.size ) (cwV 1 hts (gd_V tb_cons wd_702 wd_704 wd_18 wd_41 wd_705) rfl rfl rfl (by decide +kernel) ⟨Nat.le_of_ble_eq_true rfl, Nat.le_of_ble_eq_true rfl⟩) (ck_preV hxT hK hP hD [0] rfl (by decide) (q0 := 0) rfl rfl rfl) rfl rfl hl.1 rfl (lv_room (Nat.le_of_ble_eq_true rfl)) dX7_at_24 ⟨Nat.zero_le _, Nat.zero_le _⟩) hP hD hS hA [0] [] (WR := []) rfl rfl (by decide) (by decide) (ws' := [(h, .inr (7, [.int (iI 1), .int (iI sn), .int (iI sm), .int (iI nw), .ref hRo, .int (iI rn), .int (iI bn), .ref hNu, .ref hWe, .ref hDa, .ref hVe, .int (iI kn), .ref hSl, .ref hTr, .ref hBx, .ref hSt, .ref hLa, .ref hOr, .ref hSi, .ref hTu, .int (iI cm), .int (iI al), .int (iI lg), .int (iI tt), .int (iI dn)]))]) rfl (fun H locs hP hD hS => ?_)
      exact rk_int hx hb hr hlocks hK hP hD hS (by first | rfl | omega) rfl dX7_at_27
    · skip
      refine lv_iload_n hx hb dX7_at_12 rfl (lv_at hl 2 rfl) ?_
      refine wk_if_lt (tgt := 22) hx hb dX7_at_13 (by decide) (by omega) (fun c_3 => ?_) (fun c_3 => ?_)
      · skip
        refine lv_aload_n hx hb dX7_at_22 rfl (lv_at hl 0 rfl) ?_
        refine lv_iconst (v := iI 1) hx hb dX7_at_23 rfl ?_
        refine ck_backI (va_runV (As := [.int (iI 1)]) (rest := []) ⟨hx, hb, hml, hown, hts⟩ (tX7_fails l D kI kZ kL kJ h hRo hNu hWe hDa hVe hSl hTr hBx hSt hLa hOr hSi hTu th sn sm nw rn bn kn cm al lg tt dn 1 s.heap.size ) (cwV 1 hts (gd_V tb_cons wd_702 wd_704 wd_18 wd_41 wd_705) rfl rfl rfl (by decide +kernel) ⟨Nat.le_of_ble_eq_true rfl, Nat.le_of_ble_eq_true rfl⟩) (ck_preV hxT hK hP hD [0] rfl (by decide) (q0 := 0) rfl rfl rfl) rfl rfl hl.1 rfl (lv_room (Nat.le_of_ble_eq_true rfl)) dX7_at_24 ⟨Nat.zero_le _, Nat.zero_le _⟩) hP hD hS hA [0] [] (WR := []) rfl rfl (by decide) (by decide) (ws' := [(h, .inr (7, [.int (iI 1), .int (iI sn), .int (iI sm), .int (iI nw), .ref hRo, .int (iI rn), .int (iI bn), .ref hNu, .ref hWe, .ref hDa, .ref hVe, .int (iI kn), .ref hSl, .ref hTr, .ref hBx, .ref hSt, .ref hLa, .ref hOr, .ref hSi, .ref hTu, .int (iI cm), .int (iI al), .int (iI lg), .int (iI tt), .int (iI dn)]))]) rfl (fun H locs hP hD hS => ?_)
        exact rk_int hx hb hr hlocks hK hP hD hS (by first | rfl | omega) rfl dX7_at_27
      · skip
        refine lv_iload_n hx hb dX7_at_16 rfl (lv_at hl 2 rfl) ?_
        refine lv_bipush (v := iI 9) hx hb dX7_at_17 (by decide) ?_
        refine wk_icmp_le (tgt := 28) hx hb dX7_at_19 (by decide) (by omega) (fun c_4 => ?_) (fun c_4 => ?_)
        · skip
          exfalso; omega
        · skip
          refine lv_aload_n hx hb dX7_at_22 rfl (lv_at hl 0 rfl) ?_
          refine lv_iconst (v := iI 1) hx hb dX7_at_23 rfl ?_
          refine ck_backI (va_runV (As := [.int (iI 1)]) (rest := []) ⟨hx, hb, hml, hown, hts⟩ (tX7_fails l D kI kZ kL kJ h hRo hNu hWe hDa hVe hSl hTr hBx hSt hLa hOr hSi hTu th sn sm nw rn bn kn cm al lg tt dn 1 s.heap.size ) (cwV 1 hts (gd_V tb_cons wd_702 wd_704 wd_18 wd_41 wd_705) rfl rfl rfl (by decide +kernel) ⟨Nat.le_of_ble_eq_true rfl, Nat.le_of_ble_eq_true rfl⟩) (ck_preV hxT hK hP hD [0] rfl (by decide) (q0 := 0) rfl rfl rfl) rfl rfl hl.1 rfl (lv_room (Nat.le_of_ble_eq_true rfl)) dX7_at_24 ⟨Nat.zero_le _, Nat.zero_le _⟩) hP hD hS hA [0] [] (WR := []) rfl rfl (by decide) (by decide) (ws' := [(h, .inr (7, [.int (iI 1), .int (iI sn), .int (iI sm), .int (iI nw), .ref hRo, .int (iI rn), .int (iI bn), .ref hNu, .ref hWe, .ref hDa, .ref hVe, .int (iI kn), .ref hSl, .ref hTr, .ref hBx, .ref hSt, .ref hLa, .ref hOr, .ref hSi, .ref hTu, .int (iI cm), .int (iI al), .int (iI lg), .int (iI tt), .int (iI dn)]))]) rfl (fun H locs hP hD hS => ?_)
          exact rk_int hx hb hr hlocks hK hP hD hS (by first | rfl | omega) rfl dX7_at_27

set_option maxHeartbeats 4000000 in
set_option maxRecDepth 100000 in
theorem tX7_at (l : Launch) (D : va_G) (kI : ClassId) (kZ : ClassId) (kL : ClassId) (kJ : ClassId) (h : Nat) (hRo : Nat) (hNu : Nat) (hWe : Nat) (hDa : Nat) (hVe : Nat) (hSl : Nat) (hTr : Nat) (hBx : Nat) (hSt : Nat) (hLa : Nat) (hOr : Nat) (hSi : Nat) (hTu : Nat) (bs : Int → Int) (th : Int) (sn : Int) (sm : Int) (nw : Int) (rn : Int) (bn : Int) (kn : Int) (cm : Int) (al : Int) (lg : Int) (tt : Int) (dn : Int) (bx : Int) (pl : Int) (sz : Nat) (hbn : 0 ≤ bn ∧ bn ≤ 20) (h1 : (0 ≤ bx ∧ bx < bn) ∧ 0 ≤ pl ∧ pl < 10) : CtI l yX7_at wsX7_at ({ frames := 0, cells := 0, slots := 0, locals := 0 }) D vwCl (tyL kI kZ kL kJ) [(h, .inr (7, [.int (iI th), .int (iI sn), .int (iI sm), .int (iI nw), .ref hRo, .int (iI rn), .int (iI bn), .ref hNu, .ref hWe, .ref hDa, .ref hVe, .int (iI kn), .ref hSl, .ref hTr, .ref hBx, .ref hSt, .ref hLa, .ref hOr, .ref hSi, .ref hTu, .int (iI cm), .int (iI al), .int (iI lg), .int (iI tt), .int (iI dn)])), (hNu, .inl (kI, 200, .inl (iF bs)))] [.ref h, .int (iI bx), .int (iI pl)] (iI (bs (10 * bx + pl))) [(h, .inr (7, [.int (iI 0), .int (iI sn), .int (iI sm), .int (iI nw), .ref hRo, .int (iI rn), .int (iI bn), .ref hNu, .ref hWe, .ref hDa, .ref hVe, .int (iI kn), .ref hSl, .ref hTr, .ref hBx, .ref hSt, .ref hLa, .ref hOr, .ref hSi, .ref hTu, .int (iI cm), .int (iI al), .int (iI lg), .int (iI tt), .int (iI dn)])), (hNu, .inl (kI, 200, .inl (iF bs)))] sz := by
  refine ck_start (Qc := fun A => cQi D vwCl (tyL kI kZ kL kJ) A (iI (bs (10 * bx + pl))) [(h, .inr (7, [.int (iI 0), .int (iI sn), .int (iI sm), .int (iI nw), .ref hRo, .int (iI rn), .int (iI bn), .ref hNu, .ref hWe, .ref hDa, .ref hVe, .int (iI kn), .ref hSl, .ref hTr, .ref hBx, .ref hSt, .ref hLa, .ref hOr, .ref hSi, .ref hTu, .int (iI cm), .int (iI al), .int (iI lg), .int (iI tt), .int (iI dn)])), (hNu, .inl (kI, 200, .inl (iF bs)))]) (cc := cX7_at) (maxL := 3) (ret := (some .int)) (LV := [(0, .ref h), (1, .int (iI bx)), (2, .int (iI pl))]) (by decide) rfl rfl (Nat.le_of_ble_eq_true rfl) ?_
  intro p e s m below meth cd hadm hx hb hr hml hts hown hlocks hname hnoh hxT A hA hK hP hD hS ls hl
  refine lv_iload_n hx hb dX7_at_0 rfl (lv_at hl 1 rfl) ?_
  refine wk_if_lt (tgt := 22) hx hb dX7_at_1 (by decide) (by omega) (fun c_1 => ?_) (fun c_1 => ?_)
  · skip
    exfalso; omega
  · skip
    refine lv_iload_n hx hb dX7_at_4 rfl (lv_at hl 1 rfl) ?_
    refine lv_aload_n hx hb dX7_at_5 rfl (lv_at hl 0 rfl) ?_
    refine va_get (D := D) (ci := 7) (v := .int (iI bn)) (C := RX7) (T := TX7) (N := 25) hx hb hts (fun w h => (List.mem_cons_of_mem _ (hinX7 w h))) hown hK hP 0 rfl rfl 6 (by decide) (hts _ (List.mem_cons_of_mem _ wd_618)) (fun _ h9 => h9) rfl dX7_at_6 ?_
    refine wk_icmp_ge (tgt := 22) hx hb dX7_at_9 (by decide) (by omega) (fun c_2 => ?_) (fun c_2 => ?_)
    · skip
      exfalso; omega
    · skip
      refine lv_iload_n hx hb dX7_at_12 rfl (lv_at hl 2 rfl) ?_
      refine wk_if_lt (tgt := 22) hx hb dX7_at_13 (by decide) (by omega) (fun c_3 => ?_) (fun c_3 => ?_)
      · skip
        exfalso; omega
      · skip
        refine lv_iload_n hx hb dX7_at_16 rfl (lv_at hl 2 rfl) ?_
        refine lv_bipush (v := iI 9) hx hb dX7_at_17 (by decide) ?_
        refine wk_icmp_le (tgt := 28) hx hb dX7_at_19 (by decide) (by omega) (fun c_4 => ?_) (fun c_4 => ?_)
        · skip
          refine lv_aload_n hx hb dX7_at_28 rfl (lv_at hl 0 rfl) ?_
          refine lv_iconst (v := iI 0) hx hb dX7_at_29 rfl ?_
          refine wk_put (ci := 7) (C := RX7) (T := TX7) (N := 25) hx hb hts (fun w h => (List.mem_cons_of_mem _ (hinX7 w h))) tyX7 tyX7_ok nmX7 hown hK hP hD hS 0 rfl rfl 0 (by decide) (hts _ (List.mem_cons_of_mem _ wd_612)) (fun _ h9 => h9) rfl rfl (Nat.le_of_ble_eq_true rfl) dX7_at_30 (ws' := [(h, .inr (7, [.int (iI 0), .int (iI sn), .int (iI sm), .int (iI nw), .ref hRo, .int (iI rn), .int (iI bn), .ref hNu, .ref hWe, .ref hDa, .ref hVe, .int (iI kn), .ref hSl, .ref hTr, .ref hBx, .ref hSt, .ref hLa, .ref hOr, .ref hSi, .ref hTu, .int (iI cm), .int (iI al), .int (iI lg), .int (iI tt), .int (iI dn)])), (hNu, .inl (kI, 200, .inl (iF bs)))]) rfl (fun H locs hP hD hS => ?_)
          refine lv_aload_n hx hb dX7_at_33 rfl (lv_at hl 0 rfl) ?_
          refine va_get (D := D) (ci := 7) (v := .ref hNu) (C := RX7) (T := TX7) (N := 25) hx hb hts (fun w h => (List.mem_cons_of_mem _ (hinX7 w h))) hown hK hP 0 rfl rfl 7 (by decide) (hts _ (List.mem_cons_of_mem _ wd_619)) (fun _ h9 => h9) rfl dX7_at_34 ?_
          refine lv_bipush (v := iI 10) hx hb dX7_at_37 (by decide) ?_
          refine lv_iload_n hx hb dX7_at_39 rfl (lv_at hl 1 rfl) ?_
          refine wk_imul hx hb dX7_at_40 ?_
          refine lv_iload_n hx hb dX7_at_41 rfl (lv_at hl 2 rfl) ?_
          refine wk_iadd hx hb dX7_at_42 ?_
          refine wk_iald hx hb hK hP 1 0 rfl rfl (by decide) (by omega) dX7_at_43 ?_
          exact rk_int hx hb hr hlocks hK hP hD hS (by first | rfl | omega) rfl dX7_at_44
        · skip
          exfalso; omega

set_option maxHeartbeats 4000000 in
set_option maxRecDepth 100000 in
theorem tX7_count_s (l : Launch) (D : va_G) (kI : ClassId) (kZ : ClassId) (kL : ClassId) (kJ : ClassId) (h : Nat) (hRo : Nat) (hNu : Nat) (hWe : Nat) (hDa : Nat) (hVe : Nat) (hSl : Nat) (hTr : Nat) (hBx : Nat) (hSt : Nat) (hLa : Nat) (hOr : Nat) (hSi : Nat) (hTu : Nat) (ks : Int → Int) (kz : Int → Int) (th : Int) (sn : Int) (sm : Int) (nw : Int) (rn : Int) (bn : Int) (kn : Int) (cm : Int) (al : Int) (lg : Int) (tt : Int) (dn : Int) (wh : Int) (sz : Nat) (hwh : -2147483648 ≤ wh ∧ wh ≤ 2147483647) (hsn : 1 ≤ sn ∧ sn ≤ 24) (hkn : 0 ≤ kn ∧ kn ≤ 60) (h1 : 100 ≤ wh ∧ wh - 100 < sn) (hks : ∀ j, 0 ≤ ks j ∧ ks j ≤ 1000000) (hkz : ∀ j, 0 ≤ kz j ∧ kz j ≤ 1000000) : CtI l yX7_count wsX7_count ({ frames := 1, cells := 0, slots := 0, locals := 23 }) D vwCl (tyL kI kZ kL kJ) [(h, .inr (7, [.int (iI th), .int (iI sn), .int (iI sm), .int (iI nw), .ref hRo, .int (iI rn), .int (iI bn), .ref hNu, .ref hWe, .ref hDa, .ref hVe, .int (iI kn), .ref hSl, .ref hTr, .ref hBx, .ref hSt, .ref hLa, .ref hOr, .ref hSi, .ref hTu, .int (iI cm), .int (iI al), .int (iI lg), .int (iI tt), .int (iI dn)])), (hSl, .inl (kI, 61, .inl (iF ks))), (hSt, .inl (kI, 61, .inl (iF kz)))] [.ref h, .int (iI wh)] (iI (cn (pSL ks kz (wh - 100)) (kn + 1 - 1).toNat)) [(h, .inr (7, [.int (iI 0), .int (iI sn), .int (iI sm), .int (iI nw), .ref hRo, .int (iI rn), .int (iI bn), .ref hNu, .ref hWe, .ref hDa, .ref hVe, .int (iI kn), .ref hSl, .ref hTr, .ref hBx, .ref hSt, .ref hLa, .ref hOr, .ref hSi, .ref hTu, .int (iI cm), .int (iI al), .int (iI lg), .int (iI tt), .int (iI dn)])), (hSl, .inl (kI, 61, .inl (iF ks))), (hSt, .inl (kI, 61, .inl (iF kz)))] sz := by
  refine ck_start (Qc := fun A => cQi D vwCl (tyL kI kZ kL kJ) A (iI (cn (pSL ks kz (wh - 100)) (kn + 1 - 1).toNat)) [(h, .inr (7, [.int (iI 0), .int (iI sn), .int (iI sm), .int (iI nw), .ref hRo, .int (iI rn), .int (iI bn), .ref hNu, .ref hWe, .ref hDa, .ref hVe, .int (iI kn), .ref hSl, .ref hTr, .ref hBx, .ref hSt, .ref hLa, .ref hOr, .ref hSi, .ref hTu, .int (iI cm), .int (iI al), .int (iI lg), .int (iI tt), .int (iI dn)])), (hSl, .inl (kI, 61, .inl (iF ks))), (hSt, .inl (kI, 61, .inl (iF kz)))]) (cc := cX7_count) (maxL := 2) (ret := (some .int)) (LV := [(0, .ref h), (1, .int (iI wh))]) (by decide) rfl rfl (Nat.le_of_ble_eq_true rfl) ?_
  intro p e s m below meth cd hadm hx hb hr hml hts hown hlocks hname hnoh hxT A hA hK hP hD hS ls hl
  refine lv_aload_n hx hb dX7_count_0 rfl (lv_at hl 0 rfl) ?_
  refine lv_iconst (v := iI 0) hx hb dX7_count_1 rfl ?_
  refine wk_put (ci := 7) (C := RX7) (T := TX7) (N := 25) hx hb hts (fun w h => (List.mem_cons_of_mem _ (hinX7 w h))) tyX7 tyX7_ok nmX7 hown hK hP hD hS 0 rfl rfl 0 (by decide) (hts _ (List.mem_cons_of_mem _ wd_612)) (fun _ h9 => h9) rfl rfl (Nat.le_of_ble_eq_true rfl) dX7_count_2 (ws' := [(h, .inr (7, [.int (iI 0), .int (iI sn), .int (iI sm), .int (iI nw), .ref hRo, .int (iI rn), .int (iI bn), .ref hNu, .ref hWe, .ref hDa, .ref hVe, .int (iI kn), .ref hSl, .ref hTr, .ref hBx, .ref hSt, .ref hLa, .ref hOr, .ref hSi, .ref hTu, .int (iI cm), .int (iI al), .int (iI lg), .int (iI tt), .int (iI dn)])), (hSl, .inl (kI, 61, .inl (iF ks))), (hSt, .inl (kI, 61, .inl (iF kz)))]) rfl (fun H locs hP hD hS => ?_)
  refine lv_iload_n hx hb dX7_count_5 rfl (lv_at hl 1 rfl) ?_
  refine lv_bipush (v := iI 100) hx hb dX7_count_6 (by decide) ?_
  refine wk_icmp_lt (tgt := 35) hx hb dX7_count_8 (by decide) (by omega) (fun c_1 => ?_) (fun c_1 => ?_)
  · skip
    exfalso; omega
  · skip
    refine lv_aload_n hx hb dX7_count_11 rfl (lv_at hl 0 rfl) ?_
    refine lv_iload_n hx hb dX7_count_12 rfl (lv_at hl 1 rfl) ?_
    refine lv_bipush (v := iI 100) hx hb dX7_count_13 (by decide) ?_
    refine wk_isub hx hb dX7_count_15 ?_
    refine pk_callI (va_runV (As := [.int (iI (wh - 100))]) (rest := []) ⟨hx, hb, hml, hown, hts⟩ (tX7_isSlot l D kI kZ kL kJ h hRo hNu hWe hDa hVe hSl hTr hBx hSt hLa hOr hSi hTu 0 sn sm nw rn bn kn cm al lg tt dn (wh - 100) H.size (by first | assumption | omega) (by first | assumption | omega)) (cwV 1 hts (gd_V tb_cons wd_735 wd_737 wd_21 wd_41 wd_738) rfl rfl rfl (by decide +kernel) ⟨Nat.le_of_ble_eq_true rfl, Nat.le_of_ble_eq_true rfl⟩) (ck_preV hxT hK hP hD [0] rfl (by decide) (q0 := 0) rfl rfl rfl) rfl rfl hl.1 rfl (lv_room (Nat.le_of_ble_eq_true rfl)) dX7_count_16 ⟨Nat.zero_le _, Nat.zero_le _⟩) ?_
    refine wk_bif_eq (tgt := 33) hx hb dX7_count_19 (by decide) (fun c_2 => ?_) (fun c_2 => ?_)
    · skip
      exfalso; omega
    · skip
      refine lv_aload_n hx hb dX7_count_22 rfl (lv_at hl 0 rfl) ?_
      refine lv_iload_n hx hb dX7_count_23 rfl (lv_at hl 1 rfl) ?_
      refine lv_bipush (v := iI 100) hx hb dX7_count_24 (by decide) ?_
      refine wk_isub hx hb dX7_count_26 ?_
      refine pk_callI (va_runV (As := [.int (iI (wh - 100))]) (rest := []) ⟨hx, hb, hml, hown, hts⟩ (tX7_inSlot l D kI kZ kL kJ h hRo hNu hWe hDa hVe hSl hTr hBx hSt hLa hOr hSi hTu ks kz 0 sn sm nw rn bn kn cm al lg tt dn (wh - 100) H.size (by first | assumption | omega) (by first | assumption | omega) (by first | assumption | omega) (by first | assumption | omega)) (cwV 1 hts (gd_V tb_cons wd_743 wd_745 wd_23 wd_41 wd_746) rfl rfl rfl (by decide +kernel) ⟨Nat.le_of_ble_eq_true rfl, Nat.le_of_ble_eq_true rfl⟩) (ck_preV hxT hK hP hD [0, 1, 2] rfl (by decide) (q0 := 0) rfl rfl rfl) rfl rfl hl.1 rfl (lv_room (Nat.le_of_ble_eq_true rfl)) dX7_count_27 ⟨Nat.zero_le _, Nat.zero_le _⟩) ?_
      refine lv_goto (tgt := 34) hx hb dX7_count_30 (by decide) ?_
      exact rk_int hx hb hr hlocks hK hP hD hS (by first | rfl | omega) rfl dX7_count_34

set_option maxHeartbeats 4000000 in
set_option maxRecDepth 100000 in
theorem tX7_count_sn (l : Launch) (D : va_G) (kI : ClassId) (kZ : ClassId) (kL : ClassId) (kJ : ClassId) (h : Nat) (hRo : Nat) (hNu : Nat) (hWe : Nat) (hDa : Nat) (hVe : Nat) (hSl : Nat) (hTr : Nat) (hBx : Nat) (hSt : Nat) (hLa : Nat) (hOr : Nat) (hSi : Nat) (hTu : Nat) (th : Int) (sn : Int) (sm : Int) (nw : Int) (rn : Int) (bn : Int) (kn : Int) (cm : Int) (al : Int) (lg : Int) (tt : Int) (dn : Int) (wh : Int) (sz : Nat) (hwh : -2147483648 ≤ wh ∧ wh ≤ 2147483647) (hsn : 1 ≤ sn ∧ sn ≤ 24) (h1 : 100 ≤ wh ∧ ¬ wh - 100 < sn) : CtI l yX7_count wsX7_count ({ frames := 1, cells := 0, slots := 0, locals := 21 }) D vwCl (tyL kI kZ kL kJ) [(h, .inr (7, [.int (iI th), .int (iI sn), .int (iI sm), .int (iI nw), .ref hRo, .int (iI rn), .int (iI bn), .ref hNu, .ref hWe, .ref hDa, .ref hVe, .int (iI kn), .ref hSl, .ref hTr, .ref hBx, .ref hSt, .ref hLa, .ref hOr, .ref hSi, .ref hTu, .int (iI cm), .int (iI al), .int (iI lg), .int (iI tt), .int (iI dn)]))] [.ref h, .int (iI wh)] (iI (-1)) [(h, .inr (7, [.int (iI 0), .int (iI sn), .int (iI sm), .int (iI nw), .ref hRo, .int (iI rn), .int (iI bn), .ref hNu, .ref hWe, .ref hDa, .ref hVe, .int (iI kn), .ref hSl, .ref hTr, .ref hBx, .ref hSt, .ref hLa, .ref hOr, .ref hSi, .ref hTu, .int (iI cm), .int (iI al), .int (iI lg), .int (iI tt), .int (iI dn)]))] sz := by
  refine ck_start (Qc := fun A => cQi D vwCl (tyL kI kZ kL kJ) A (iI (-1)) [(h, .inr (7, [.int (iI 0), .int (iI sn), .int (iI sm), .int (iI nw), .ref hRo, .int (iI rn), .int (iI bn), .ref hNu, .ref hWe, .ref hDa, .ref hVe, .int (iI kn), .ref hSl, .ref hTr, .ref hBx, .ref hSt, .ref hLa, .ref hOr, .ref hSi, .ref hTu, .int (iI cm), .int (iI al), .int (iI lg), .int (iI tt), .int (iI dn)]))]) (cc := cX7_count) (maxL := 2) (ret := (some .int)) (LV := [(0, .ref h), (1, .int (iI wh))]) (by decide) rfl rfl (Nat.le_of_ble_eq_true rfl) ?_
  intro p e s m below meth cd hadm hx hb hr hml hts hown hlocks hname hnoh hxT A hA hK hP hD hS ls hl
  refine lv_aload_n hx hb dX7_count_0 rfl (lv_at hl 0 rfl) ?_
  refine lv_iconst (v := iI 0) hx hb dX7_count_1 rfl ?_
  refine wk_put (ci := 7) (C := RX7) (T := TX7) (N := 25) hx hb hts (fun w h => (List.mem_cons_of_mem _ (hinX7 w h))) tyX7 tyX7_ok nmX7 hown hK hP hD hS 0 rfl rfl 0 (by decide) (hts _ (List.mem_cons_of_mem _ wd_612)) (fun _ h9 => h9) rfl rfl (Nat.le_of_ble_eq_true rfl) dX7_count_2 (ws' := [(h, .inr (7, [.int (iI 0), .int (iI sn), .int (iI sm), .int (iI nw), .ref hRo, .int (iI rn), .int (iI bn), .ref hNu, .ref hWe, .ref hDa, .ref hVe, .int (iI kn), .ref hSl, .ref hTr, .ref hBx, .ref hSt, .ref hLa, .ref hOr, .ref hSi, .ref hTu, .int (iI cm), .int (iI al), .int (iI lg), .int (iI tt), .int (iI dn)]))]) rfl (fun H locs hP hD hS => ?_)
  refine lv_iload_n hx hb dX7_count_5 rfl (lv_at hl 1 rfl) ?_
  refine lv_bipush (v := iI 100) hx hb dX7_count_6 (by decide) ?_
  refine wk_icmp_lt (tgt := 35) hx hb dX7_count_8 (by decide) (by omega) (fun c_1 => ?_) (fun c_1 => ?_)
  · skip
    exfalso; omega
  · skip
    refine lv_aload_n hx hb dX7_count_11 rfl (lv_at hl 0 rfl) ?_
    refine lv_iload_n hx hb dX7_count_12 rfl (lv_at hl 1 rfl) ?_
    refine lv_bipush (v := iI 100) hx hb dX7_count_13 (by decide) ?_
    refine wk_isub hx hb dX7_count_15 ?_
    refine pk_callI (va_runV (As := [.int (iI (wh - 100))]) (rest := []) ⟨hx, hb, hml, hown, hts⟩ (tX7_isSlot l D kI kZ kL kJ h hRo hNu hWe hDa hVe hSl hTr hBx hSt hLa hOr hSi hTu 0 sn sm nw rn bn kn cm al lg tt dn (wh - 100) H.size (by first | assumption | omega) (by first | assumption | omega)) (cwV 1 hts (gd_V tb_cons wd_735 wd_737 wd_21 wd_41 wd_738) rfl rfl rfl (by decide +kernel) ⟨Nat.le_of_ble_eq_true rfl, Nat.le_of_ble_eq_true rfl⟩) (ck_preV hxT hK hP hD [0] rfl (by decide) (q0 := 0) rfl rfl rfl) rfl rfl hl.1 rfl (lv_room (Nat.le_of_ble_eq_true rfl)) dX7_count_16 ⟨Nat.zero_le _, Nat.zero_le _⟩) ?_
    refine wk_bif_eq (tgt := 33) hx hb dX7_count_19 (by decide) (fun c_2 => ?_) (fun c_2 => ?_)
    · skip
      refine lv_iconst (v := iI (-1)) hx hb dX7_count_33 rfl ?_
      exact rk_int hx hb hr hlocks hK hP hD hS (by first | rfl | omega) rfl dX7_count_34
    · skip
      exfalso; omega

set_option maxHeartbeats 4000000 in
set_option maxRecDepth 100000 in
theorem tX7_count_n (l : Launch) (D : va_G) (kI : ClassId) (kZ : ClassId) (kL : ClassId) (kJ : ClassId) (h : Nat) (hRo : Nat) (hNu : Nat) (hWe : Nat) (hDa : Nat) (hVe : Nat) (hSl : Nat) (hTr : Nat) (hBx : Nat) (hSt : Nat) (hLa : Nat) (hOr : Nat) (hSi : Nat) (hTu : Nat) (th : Int) (sn : Int) (sm : Int) (nw : Int) (rn : Int) (bn : Int) (kn : Int) (cm : Int) (al : Int) (lg : Int) (tt : Int) (dn : Int) (wh : Int) (sz : Nat) (hwh : -2147483648 ≤ wh ∧ wh ≤ 2147483647) (h1 : wh < 0 ∨ (9 < wh ∧ wh < 100)) : CtI l yX7_count wsX7_count ({ frames := 0, cells := 0, slots := 0, locals := 0 }) D vwCl (tyL kI kZ kL kJ) [(h, .inr (7, [.int (iI th), .int (iI sn), .int (iI sm), .int (iI nw), .ref hRo, .int (iI rn), .int (iI bn), .ref hNu, .ref hWe, .ref hDa, .ref hVe, .int (iI kn), .ref hSl, .ref hTr, .ref hBx, .ref hSt, .ref hLa, .ref hOr, .ref hSi, .ref hTu, .int (iI cm), .int (iI al), .int (iI lg), .int (iI tt), .int (iI dn)]))] [.ref h, .int (iI wh)] (iI (-1)) [(h, .inr (7, [.int (iI 0), .int (iI sn), .int (iI sm), .int (iI nw), .ref hRo, .int (iI rn), .int (iI bn), .ref hNu, .ref hWe, .ref hDa, .ref hVe, .int (iI kn), .ref hSl, .ref hTr, .ref hBx, .ref hSt, .ref hLa, .ref hOr, .ref hSi, .ref hTu, .int (iI cm), .int (iI al), .int (iI lg), .int (iI tt), .int (iI dn)]))] sz := by
  refine ck_start (Qc := fun A => cQi D vwCl (tyL kI kZ kL kJ) A (iI (-1)) [(h, .inr (7, [.int (iI 0), .int (iI sn), .int (iI sm), .int (iI nw), .ref hRo, .int (iI rn), .int (iI bn), .ref hNu, .ref hWe, .ref hDa, .ref hVe, .int (iI kn), .ref hSl, .ref hTr, .ref hBx, .ref hSt, .ref hLa, .ref hOr, .ref hSi, .ref hTu, .int (iI cm), .int (iI al), .int (iI lg), .int (iI tt), .int (iI dn)]))]) (cc := cX7_count) (maxL := 2) (ret := (some .int)) (LV := [(0, .ref h), (1, .int (iI wh))]) (by decide) rfl rfl (Nat.le_of_ble_eq_true rfl) ?_
  intro p e s m below meth cd hadm hx hb hr hml hts hown hlocks hname hnoh hxT A hA hK hP hD hS ls hl
  refine lv_aload_n hx hb dX7_count_0 rfl (lv_at hl 0 rfl) ?_
  refine lv_iconst (v := iI 0) hx hb dX7_count_1 rfl ?_
  refine wk_put (ci := 7) (C := RX7) (T := TX7) (N := 25) hx hb hts (fun w h => (List.mem_cons_of_mem _ (hinX7 w h))) tyX7 tyX7_ok nmX7 hown hK hP hD hS 0 rfl rfl 0 (by decide) (hts _ (List.mem_cons_of_mem _ wd_612)) (fun _ h9 => h9) rfl rfl (Nat.le_of_ble_eq_true rfl) dX7_count_2 (ws' := [(h, .inr (7, [.int (iI 0), .int (iI sn), .int (iI sm), .int (iI nw), .ref hRo, .int (iI rn), .int (iI bn), .ref hNu, .ref hWe, .ref hDa, .ref hVe, .int (iI kn), .ref hSl, .ref hTr, .ref hBx, .ref hSt, .ref hLa, .ref hOr, .ref hSi, .ref hTu, .int (iI cm), .int (iI al), .int (iI lg), .int (iI tt), .int (iI dn)]))]) rfl (fun H locs hP hD hS => ?_)
  refine lv_iload_n hx hb dX7_count_5 rfl (lv_at hl 1 rfl) ?_
  refine lv_bipush (v := iI 100) hx hb dX7_count_6 (by decide) ?_
  refine wk_icmp_lt (tgt := 35) hx hb dX7_count_8 (by decide) (by omega) (fun c_1 => ?_) (fun c_1 => ?_)
  · skip
    refine lv_iload_n hx hb dX7_count_35 rfl (lv_at hl 1 rfl) ?_
    refine lv_tableOut (tgt := 135) hx hb dX7_count_36 (by rw [iz_toInt (by omega)]; omega) (by decide) ?_
    refine lv_iconst (v := iI (-1)) hx hb dX7_count_135 rfl ?_
    exact rk_int hx hb hr hlocks hK hP hD hS (by first | rfl | omega) rfl dX7_count_136
  · skip
    exfalso; omega

set_option maxHeartbeats 4000000 in
set_option maxRecDepth 100000 in
theorem tX7_count_10 (l : Launch) (D : va_G) (kI : ClassId) (kZ : ClassId) (kL : ClassId) (kJ : ClassId) (h : Nat) (hRo : Nat) (hNu : Nat) (hWe : Nat) (hDa : Nat) (hVe : Nat) (hSl : Nat) (hTr : Nat) (hBx : Nat) (hSt : Nat) (hLa : Nat) (hOr : Nat) (hSi : Nat) (hTu : Nat) (th : Int) (sn : Int) (sm : Int) (nw : Int) (rn : Int) (bn : Int) (kn : Int) (cm : Int) (al : Int) (lg : Int) (tt : Int) (dn : Int) (sz : Nat)  : CtI l yX7_count wsX7_count ({ frames := 0, cells := 0, slots := 0, locals := 0 }) D vwCl (tyL kI kZ kL kJ) [(h, .inr (7, [.int (iI th), .int (iI sn), .int (iI sm), .int (iI nw), .ref hRo, .int (iI rn), .int (iI bn), .ref hNu, .ref hWe, .ref hDa, .ref hVe, .int (iI kn), .ref hSl, .ref hTr, .ref hBx, .ref hSt, .ref hLa, .ref hOr, .ref hSi, .ref hTu, .int (iI cm), .int (iI al), .int (iI lg), .int (iI tt), .int (iI dn)]))] [.ref h, .int (iI 0)] (iI nw) [(h, .inr (7, [.int (iI 0), .int (iI sn), .int (iI sm), .int (iI nw), .ref hRo, .int (iI rn), .int (iI bn), .ref hNu, .ref hWe, .ref hDa, .ref hVe, .int (iI kn), .ref hSl, .ref hTr, .ref hBx, .ref hSt, .ref hLa, .ref hOr, .ref hSi, .ref hTu, .int (iI cm), .int (iI al), .int (iI lg), .int (iI tt), .int (iI dn)]))] sz := by
  refine ck_start (Qc := fun A => cQi D vwCl (tyL kI kZ kL kJ) A (iI nw) [(h, .inr (7, [.int (iI 0), .int (iI sn), .int (iI sm), .int (iI nw), .ref hRo, .int (iI rn), .int (iI bn), .ref hNu, .ref hWe, .ref hDa, .ref hVe, .int (iI kn), .ref hSl, .ref hTr, .ref hBx, .ref hSt, .ref hLa, .ref hOr, .ref hSi, .ref hTu, .int (iI cm), .int (iI al), .int (iI lg), .int (iI tt), .int (iI dn)]))]) (cc := cX7_count) (maxL := 2) (ret := (some .int)) (LV := [(0, .ref h), (1, .int (iI 0))]) (by decide) rfl rfl (Nat.le_of_ble_eq_true rfl) ?_
  intro p e s m below meth cd hadm hx hb hr hml hts hown hlocks hname hnoh hxT A hA hK hP hD hS ls hl
  refine lv_aload_n hx hb dX7_count_0 rfl (lv_at hl 0 rfl) ?_
  refine lv_iconst (v := iI 0) hx hb dX7_count_1 rfl ?_
  refine wk_put (ci := 7) (C := RX7) (T := TX7) (N := 25) hx hb hts (fun w h => (List.mem_cons_of_mem _ (hinX7 w h))) tyX7 tyX7_ok nmX7 hown hK hP hD hS 0 rfl rfl 0 (by decide) (hts _ (List.mem_cons_of_mem _ wd_612)) (fun _ h9 => h9) rfl rfl (Nat.le_of_ble_eq_true rfl) dX7_count_2 (ws' := [(h, .inr (7, [.int (iI 0), .int (iI sn), .int (iI sm), .int (iI nw), .ref hRo, .int (iI rn), .int (iI bn), .ref hNu, .ref hWe, .ref hDa, .ref hVe, .int (iI kn), .ref hSl, .ref hTr, .ref hBx, .ref hSt, .ref hLa, .ref hOr, .ref hSi, .ref hTu, .int (iI cm), .int (iI al), .int (iI lg), .int (iI tt), .int (iI dn)]))]) rfl (fun H locs hP hD hS => ?_)
  refine lv_iload_n hx hb dX7_count_5 rfl (lv_at hl 1 rfl) ?_
  refine lv_bipush (v := iI 100) hx hb dX7_count_6 (by decide) ?_
  refine wk_icmp_lt (tgt := 35) hx hb dX7_count_8 (by decide) (by omega) (fun c_1 => ?_) (fun c_1 => ?_)
  · skip
    refine lv_iload_n hx hb dX7_count_35 rfl (lv_at hl 1 rfl) ?_
    refine lv_tableIn (tgt := 92) hx hb dX7_count_36 (by decide) (by decide) rfl (by decide) ?_
    refine lv_aload_n hx hb dX7_count_92 rfl (lv_at hl 0 rfl) ?_
    refine va_get (D := D) (ci := 7) (v := .int (iI nw)) (C := RX7) (T := TX7) (N := 25) hx hb hts (fun w h => (List.mem_cons_of_mem _ (hinX7 w h))) hown hK hP 0 rfl rfl 3 (by decide) (hts _ (List.mem_cons_of_mem _ wd_615)) (fun _ h9 => h9) rfl dX7_count_93 ?_
    exact rk_int hx hb hr hlocks hK hP hD hS (by first | rfl | omega) rfl dX7_count_96
  · skip
    exfalso; omega

set_option maxHeartbeats 4000000 in
set_option maxRecDepth 100000 in
theorem tX7_count_11 (l : Launch) (D : va_G) (kI : ClassId) (kZ : ClassId) (kL : ClassId) (kJ : ClassId) (h : Nat) (hRo : Nat) (hNu : Nat) (hWe : Nat) (hDa : Nat) (hVe : Nat) (hSl : Nat) (hTr : Nat) (hBx : Nat) (hSt : Nat) (hLa : Nat) (hOr : Nat) (hSi : Nat) (hTu : Nat) (th : Int) (sn : Int) (sm : Int) (nw : Int) (rn : Int) (bn : Int) (kn : Int) (cm : Int) (al : Int) (lg : Int) (tt : Int) (dn : Int) (sz : Nat)  : CtI l yX7_count wsX7_count ({ frames := 0, cells := 0, slots := 0, locals := 0 }) D vwCl (tyL kI kZ kL kJ) [(h, .inr (7, [.int (iI th), .int (iI sn), .int (iI sm), .int (iI nw), .ref hRo, .int (iI rn), .int (iI bn), .ref hNu, .ref hWe, .ref hDa, .ref hVe, .int (iI kn), .ref hSl, .ref hTr, .ref hBx, .ref hSt, .ref hLa, .ref hOr, .ref hSi, .ref hTu, .int (iI cm), .int (iI al), .int (iI lg), .int (iI tt), .int (iI dn)]))] [.ref h, .int (iI 1)] (iI kn) [(h, .inr (7, [.int (iI 0), .int (iI sn), .int (iI sm), .int (iI nw), .ref hRo, .int (iI rn), .int (iI bn), .ref hNu, .ref hWe, .ref hDa, .ref hVe, .int (iI kn), .ref hSl, .ref hTr, .ref hBx, .ref hSt, .ref hLa, .ref hOr, .ref hSi, .ref hTu, .int (iI cm), .int (iI al), .int (iI lg), .int (iI tt), .int (iI dn)]))] sz := by
  refine ck_start (Qc := fun A => cQi D vwCl (tyL kI kZ kL kJ) A (iI kn) [(h, .inr (7, [.int (iI 0), .int (iI sn), .int (iI sm), .int (iI nw), .ref hRo, .int (iI rn), .int (iI bn), .ref hNu, .ref hWe, .ref hDa, .ref hVe, .int (iI kn), .ref hSl, .ref hTr, .ref hBx, .ref hSt, .ref hLa, .ref hOr, .ref hSi, .ref hTu, .int (iI cm), .int (iI al), .int (iI lg), .int (iI tt), .int (iI dn)]))]) (cc := cX7_count) (maxL := 2) (ret := (some .int)) (LV := [(0, .ref h), (1, .int (iI 1))]) (by decide) rfl rfl (Nat.le_of_ble_eq_true rfl) ?_
  intro p e s m below meth cd hadm hx hb hr hml hts hown hlocks hname hnoh hxT A hA hK hP hD hS ls hl
  refine lv_aload_n hx hb dX7_count_0 rfl (lv_at hl 0 rfl) ?_
  refine lv_iconst (v := iI 0) hx hb dX7_count_1 rfl ?_
  refine wk_put (ci := 7) (C := RX7) (T := TX7) (N := 25) hx hb hts (fun w h => (List.mem_cons_of_mem _ (hinX7 w h))) tyX7 tyX7_ok nmX7 hown hK hP hD hS 0 rfl rfl 0 (by decide) (hts _ (List.mem_cons_of_mem _ wd_612)) (fun _ h9 => h9) rfl rfl (Nat.le_of_ble_eq_true rfl) dX7_count_2 (ws' := [(h, .inr (7, [.int (iI 0), .int (iI sn), .int (iI sm), .int (iI nw), .ref hRo, .int (iI rn), .int (iI bn), .ref hNu, .ref hWe, .ref hDa, .ref hVe, .int (iI kn), .ref hSl, .ref hTr, .ref hBx, .ref hSt, .ref hLa, .ref hOr, .ref hSi, .ref hTu, .int (iI cm), .int (iI al), .int (iI lg), .int (iI tt), .int (iI dn)]))]) rfl (fun H locs hP hD hS => ?_)
  refine lv_iload_n hx hb dX7_count_5 rfl (lv_at hl 1 rfl) ?_
  refine lv_bipush (v := iI 100) hx hb dX7_count_6 (by decide) ?_
  refine wk_icmp_lt (tgt := 35) hx hb dX7_count_8 (by decide) (by omega) (fun c_1 => ?_) (fun c_1 => ?_)
  · skip
    refine lv_iload_n hx hb dX7_count_35 rfl (lv_at hl 1 rfl) ?_
    refine lv_tableIn (tgt := 97) hx hb dX7_count_36 (by decide) (by decide) rfl (by decide) ?_
    refine lv_aload_n hx hb dX7_count_97 rfl (lv_at hl 0 rfl) ?_
    refine va_get (D := D) (ci := 7) (v := .int (iI kn)) (C := RX7) (T := TX7) (N := 25) hx hb hts (fun w h => (List.mem_cons_of_mem _ (hinX7 w h))) hown hK hP 0 rfl rfl 11 (by decide) (hts _ (List.mem_cons_of_mem _ wd_623)) (fun _ h9 => h9) rfl dX7_count_98 ?_
    exact rk_int hx hb hr hlocks hK hP hD hS (by first | rfl | omega) rfl dX7_count_101
  · skip
    exfalso; omega

set_option maxHeartbeats 4000000 in
set_option maxRecDepth 100000 in
theorem tX7_count_12 (l : Launch) (D : va_G) (kI : ClassId) (kZ : ClassId) (kL : ClassId) (kJ : ClassId) (h : Nat) (hRo : Nat) (hNu : Nat) (hWe : Nat) (hDa : Nat) (hVe : Nat) (hSl : Nat) (hTr : Nat) (hBx : Nat) (hSt : Nat) (hLa : Nat) (hOr : Nat) (hSi : Nat) (hTu : Nat) (th : Int) (sn : Int) (sm : Int) (nw : Int) (rn : Int) (bn : Int) (kn : Int) (cm : Int) (al : Int) (lg : Int) (tt : Int) (dn : Int) (sz : Nat)  : CtI l yX7_count wsX7_count ({ frames := 0, cells := 0, slots := 0, locals := 0 }) D vwCl (tyL kI kZ kL kJ) [(h, .inr (7, [.int (iI th), .int (iI sn), .int (iI sm), .int (iI nw), .ref hRo, .int (iI rn), .int (iI bn), .ref hNu, .ref hWe, .ref hDa, .ref hVe, .int (iI kn), .ref hSl, .ref hTr, .ref hBx, .ref hSt, .ref hLa, .ref hOr, .ref hSi, .ref hTu, .int (iI cm), .int (iI al), .int (iI lg), .int (iI tt), .int (iI dn)]))] [.ref h, .int (iI 2)] (iI bn) [(h, .inr (7, [.int (iI 0), .int (iI sn), .int (iI sm), .int (iI nw), .ref hRo, .int (iI rn), .int (iI bn), .ref hNu, .ref hWe, .ref hDa, .ref hVe, .int (iI kn), .ref hSl, .ref hTr, .ref hBx, .ref hSt, .ref hLa, .ref hOr, .ref hSi, .ref hTu, .int (iI cm), .int (iI al), .int (iI lg), .int (iI tt), .int (iI dn)]))] sz := by
  refine ck_start (Qc := fun A => cQi D vwCl (tyL kI kZ kL kJ) A (iI bn) [(h, .inr (7, [.int (iI 0), .int (iI sn), .int (iI sm), .int (iI nw), .ref hRo, .int (iI rn), .int (iI bn), .ref hNu, .ref hWe, .ref hDa, .ref hVe, .int (iI kn), .ref hSl, .ref hTr, .ref hBx, .ref hSt, .ref hLa, .ref hOr, .ref hSi, .ref hTu, .int (iI cm), .int (iI al), .int (iI lg), .int (iI tt), .int (iI dn)]))]) (cc := cX7_count) (maxL := 2) (ret := (some .int)) (LV := [(0, .ref h), (1, .int (iI 2))]) (by decide) rfl rfl (Nat.le_of_ble_eq_true rfl) ?_
  intro p e s m below meth cd hadm hx hb hr hml hts hown hlocks hname hnoh hxT A hA hK hP hD hS ls hl
  refine lv_aload_n hx hb dX7_count_0 rfl (lv_at hl 0 rfl) ?_
  refine lv_iconst (v := iI 0) hx hb dX7_count_1 rfl ?_
  refine wk_put (ci := 7) (C := RX7) (T := TX7) (N := 25) hx hb hts (fun w h => (List.mem_cons_of_mem _ (hinX7 w h))) tyX7 tyX7_ok nmX7 hown hK hP hD hS 0 rfl rfl 0 (by decide) (hts _ (List.mem_cons_of_mem _ wd_612)) (fun _ h9 => h9) rfl rfl (Nat.le_of_ble_eq_true rfl) dX7_count_2 (ws' := [(h, .inr (7, [.int (iI 0), .int (iI sn), .int (iI sm), .int (iI nw), .ref hRo, .int (iI rn), .int (iI bn), .ref hNu, .ref hWe, .ref hDa, .ref hVe, .int (iI kn), .ref hSl, .ref hTr, .ref hBx, .ref hSt, .ref hLa, .ref hOr, .ref hSi, .ref hTu, .int (iI cm), .int (iI al), .int (iI lg), .int (iI tt), .int (iI dn)]))]) rfl (fun H locs hP hD hS => ?_)
  refine lv_iload_n hx hb dX7_count_5 rfl (lv_at hl 1 rfl) ?_
  refine lv_bipush (v := iI 100) hx hb dX7_count_6 (by decide) ?_
  refine wk_icmp_lt (tgt := 35) hx hb dX7_count_8 (by decide) (by omega) (fun c_1 => ?_) (fun c_1 => ?_)
  · skip
    refine lv_iload_n hx hb dX7_count_35 rfl (lv_at hl 1 rfl) ?_
    refine lv_tableIn (tgt := 102) hx hb dX7_count_36 (by decide) (by decide) rfl (by decide) ?_
    refine lv_aload_n hx hb dX7_count_102 rfl (lv_at hl 0 rfl) ?_
    refine va_get (D := D) (ci := 7) (v := .int (iI bn)) (C := RX7) (T := TX7) (N := 25) hx hb hts (fun w h => (List.mem_cons_of_mem _ (hinX7 w h))) hown hK hP 0 rfl rfl 6 (by decide) (hts _ (List.mem_cons_of_mem _ wd_618)) (fun _ h9 => h9) rfl dX7_count_103 ?_
    exact rk_int hx hb hr hlocks hK hP hD hS (by first | rfl | omega) rfl dX7_count_106
  · skip
    exfalso; omega

set_option maxHeartbeats 4000000 in
set_option maxRecDepth 100000 in
theorem tX7_count_13 (l : Launch) (D : va_G) (kI : ClassId) (kZ : ClassId) (kL : ClassId) (kJ : ClassId) (h : Nat) (hRo : Nat) (hNu : Nat) (hWe : Nat) (hDa : Nat) (hVe : Nat) (hSl : Nat) (hTr : Nat) (hBx : Nat) (hSt : Nat) (hLa : Nat) (hOr : Nat) (hSi : Nat) (hTu : Nat) (th : Int) (sn : Int) (sm : Int) (nw : Int) (rn : Int) (bn : Int) (kn : Int) (cm : Int) (al : Int) (lg : Int) (tt : Int) (dn : Int) (sz : Nat)  : CtI l yX7_count wsX7_count ({ frames := 0, cells := 0, slots := 0, locals := 0 }) D vwCl (tyL kI kZ kL kJ) [(h, .inr (7, [.int (iI th), .int (iI sn), .int (iI sm), .int (iI nw), .ref hRo, .int (iI rn), .int (iI bn), .ref hNu, .ref hWe, .ref hDa, .ref hVe, .int (iI kn), .ref hSl, .ref hTr, .ref hBx, .ref hSt, .ref hLa, .ref hOr, .ref hSi, .ref hTu, .int (iI cm), .int (iI al), .int (iI lg), .int (iI tt), .int (iI dn)]))] [.ref h, .int (iI 3)] (iI rn) [(h, .inr (7, [.int (iI 0), .int (iI sn), .int (iI sm), .int (iI nw), .ref hRo, .int (iI rn), .int (iI bn), .ref hNu, .ref hWe, .ref hDa, .ref hVe, .int (iI kn), .ref hSl, .ref hTr, .ref hBx, .ref hSt, .ref hLa, .ref hOr, .ref hSi, .ref hTu, .int (iI cm), .int (iI al), .int (iI lg), .int (iI tt), .int (iI dn)]))] sz := by
  refine ck_start (Qc := fun A => cQi D vwCl (tyL kI kZ kL kJ) A (iI rn) [(h, .inr (7, [.int (iI 0), .int (iI sn), .int (iI sm), .int (iI nw), .ref hRo, .int (iI rn), .int (iI bn), .ref hNu, .ref hWe, .ref hDa, .ref hVe, .int (iI kn), .ref hSl, .ref hTr, .ref hBx, .ref hSt, .ref hLa, .ref hOr, .ref hSi, .ref hTu, .int (iI cm), .int (iI al), .int (iI lg), .int (iI tt), .int (iI dn)]))]) (cc := cX7_count) (maxL := 2) (ret := (some .int)) (LV := [(0, .ref h), (1, .int (iI 3))]) (by decide) rfl rfl (Nat.le_of_ble_eq_true rfl) ?_
  intro p e s m below meth cd hadm hx hb hr hml hts hown hlocks hname hnoh hxT A hA hK hP hD hS ls hl
  refine lv_aload_n hx hb dX7_count_0 rfl (lv_at hl 0 rfl) ?_
  refine lv_iconst (v := iI 0) hx hb dX7_count_1 rfl ?_
  refine wk_put (ci := 7) (C := RX7) (T := TX7) (N := 25) hx hb hts (fun w h => (List.mem_cons_of_mem _ (hinX7 w h))) tyX7 tyX7_ok nmX7 hown hK hP hD hS 0 rfl rfl 0 (by decide) (hts _ (List.mem_cons_of_mem _ wd_612)) (fun _ h9 => h9) rfl rfl (Nat.le_of_ble_eq_true rfl) dX7_count_2 (ws' := [(h, .inr (7, [.int (iI 0), .int (iI sn), .int (iI sm), .int (iI nw), .ref hRo, .int (iI rn), .int (iI bn), .ref hNu, .ref hWe, .ref hDa, .ref hVe, .int (iI kn), .ref hSl, .ref hTr, .ref hBx, .ref hSt, .ref hLa, .ref hOr, .ref hSi, .ref hTu, .int (iI cm), .int (iI al), .int (iI lg), .int (iI tt), .int (iI dn)]))]) rfl (fun H locs hP hD hS => ?_)
  refine lv_iload_n hx hb dX7_count_5 rfl (lv_at hl 1 rfl) ?_
  refine lv_bipush (v := iI 100) hx hb dX7_count_6 (by decide) ?_
  refine wk_icmp_lt (tgt := 35) hx hb dX7_count_8 (by decide) (by omega) (fun c_1 => ?_) (fun c_1 => ?_)
  · skip
    refine lv_iload_n hx hb dX7_count_35 rfl (lv_at hl 1 rfl) ?_
    refine lv_tableIn (tgt := 107) hx hb dX7_count_36 (by decide) (by decide) rfl (by decide) ?_
    refine lv_aload_n hx hb dX7_count_107 rfl (lv_at hl 0 rfl) ?_
    refine va_get (D := D) (ci := 7) (v := .int (iI rn)) (C := RX7) (T := TX7) (N := 25) hx hb hts (fun w h => (List.mem_cons_of_mem _ (hinX7 w h))) hown hK hP 0 rfl rfl 5 (by decide) (hts _ (List.mem_cons_of_mem _ wd_617)) (fun _ h9 => h9) rfl dX7_count_108 ?_
    exact rk_int hx hb hr hlocks hK hP hD hS (by first | rfl | omega) rfl dX7_count_111
  · skip
    exfalso; omega

set_option maxHeartbeats 4000000 in
set_option maxRecDepth 100000 in
theorem tX7_count_17 (l : Launch) (D : va_G) (kI : ClassId) (kZ : ClassId) (kL : ClassId) (kJ : ClassId) (h : Nat) (hRo : Nat) (hNu : Nat) (hWe : Nat) (hDa : Nat) (hVe : Nat) (hSl : Nat) (hTr : Nat) (hBx : Nat) (hSt : Nat) (hLa : Nat) (hOr : Nat) (hSi : Nat) (hTu : Nat) (th : Int) (sn : Int) (sm : Int) (nw : Int) (rn : Int) (bn : Int) (kn : Int) (cm : Int) (al : Int) (lg : Int) (tt : Int) (dn : Int) (sz : Nat)  : CtI l yX7_count wsX7_count ({ frames := 0, cells := 0, slots := 0, locals := 0 }) D vwCl (tyL kI kZ kL kJ) [(h, .inr (7, [.int (iI th), .int (iI sn), .int (iI sm), .int (iI nw), .ref hRo, .int (iI rn), .int (iI bn), .ref hNu, .ref hWe, .ref hDa, .ref hVe, .int (iI kn), .ref hSl, .ref hTr, .ref hBx, .ref hSt, .ref hLa, .ref hOr, .ref hSi, .ref hTu, .int (iI cm), .int (iI al), .int (iI lg), .int (iI tt), .int (iI dn)]))] [.ref h, .int (iI 7)] (iI lg) [(h, .inr (7, [.int (iI 0), .int (iI sn), .int (iI sm), .int (iI nw), .ref hRo, .int (iI rn), .int (iI bn), .ref hNu, .ref hWe, .ref hDa, .ref hVe, .int (iI kn), .ref hSl, .ref hTr, .ref hBx, .ref hSt, .ref hLa, .ref hOr, .ref hSi, .ref hTu, .int (iI cm), .int (iI al), .int (iI lg), .int (iI tt), .int (iI dn)]))] sz := by
  refine ck_start (Qc := fun A => cQi D vwCl (tyL kI kZ kL kJ) A (iI lg) [(h, .inr (7, [.int (iI 0), .int (iI sn), .int (iI sm), .int (iI nw), .ref hRo, .int (iI rn), .int (iI bn), .ref hNu, .ref hWe, .ref hDa, .ref hVe, .int (iI kn), .ref hSl, .ref hTr, .ref hBx, .ref hSt, .ref hLa, .ref hOr, .ref hSi, .ref hTu, .int (iI cm), .int (iI al), .int (iI lg), .int (iI tt), .int (iI dn)]))]) (cc := cX7_count) (maxL := 2) (ret := (some .int)) (LV := [(0, .ref h), (1, .int (iI 7))]) (by decide) rfl rfl (Nat.le_of_ble_eq_true rfl) ?_
  intro p e s m below meth cd hadm hx hb hr hml hts hown hlocks hname hnoh hxT A hA hK hP hD hS ls hl
  refine lv_aload_n hx hb dX7_count_0 rfl (lv_at hl 0 rfl) ?_
  refine lv_iconst (v := iI 0) hx hb dX7_count_1 rfl ?_
  refine wk_put (ci := 7) (C := RX7) (T := TX7) (N := 25) hx hb hts (fun w h => (List.mem_cons_of_mem _ (hinX7 w h))) tyX7 tyX7_ok nmX7 hown hK hP hD hS 0 rfl rfl 0 (by decide) (hts _ (List.mem_cons_of_mem _ wd_612)) (fun _ h9 => h9) rfl rfl (Nat.le_of_ble_eq_true rfl) dX7_count_2 (ws' := [(h, .inr (7, [.int (iI 0), .int (iI sn), .int (iI sm), .int (iI nw), .ref hRo, .int (iI rn), .int (iI bn), .ref hNu, .ref hWe, .ref hDa, .ref hVe, .int (iI kn), .ref hSl, .ref hTr, .ref hBx, .ref hSt, .ref hLa, .ref hOr, .ref hSi, .ref hTu, .int (iI cm), .int (iI al), .int (iI lg), .int (iI tt), .int (iI dn)]))]) rfl (fun H locs hP hD hS => ?_)
  refine lv_iload_n hx hb dX7_count_5 rfl (lv_at hl 1 rfl) ?_
  refine lv_bipush (v := iI 100) hx hb dX7_count_6 (by decide) ?_
  refine wk_icmp_lt (tgt := 35) hx hb dX7_count_8 (by decide) (by omega) (fun c_1 => ?_) (fun c_1 => ?_)
  · skip
    refine lv_iload_n hx hb dX7_count_35 rfl (lv_at hl 1 rfl) ?_
    refine lv_tableIn (tgt := 120) hx hb dX7_count_36 (by decide) (by decide) rfl (by decide) ?_
    refine lv_aload_n hx hb dX7_count_120 rfl (lv_at hl 0 rfl) ?_
    refine va_get (D := D) (ci := 7) (v := .int (iI lg)) (C := RX7) (T := TX7) (N := 25) hx hb hts (fun w h => (List.mem_cons_of_mem _ (hinX7 w h))) hown hK hP 0 rfl rfl 22 (by decide) (hts _ (List.mem_cons_of_mem _ wd_634)) (fun _ h9 => h9) rfl dX7_count_121 ?_
    exact rk_int hx hb hr hlocks hK hP hD hS (by first | rfl | omega) rfl dX7_count_124
  · skip
    exfalso; omega

set_option maxHeartbeats 4000000 in
set_option maxRecDepth 100000 in
theorem tX7_count_18 (l : Launch) (D : va_G) (kI : ClassId) (kZ : ClassId) (kL : ClassId) (kJ : ClassId) (h : Nat) (hRo : Nat) (hNu : Nat) (hWe : Nat) (hDa : Nat) (hVe : Nat) (hSl : Nat) (hTr : Nat) (hBx : Nat) (hSt : Nat) (hLa : Nat) (hOr : Nat) (hSi : Nat) (hTu : Nat) (th : Int) (sn : Int) (sm : Int) (nw : Int) (rn : Int) (bn : Int) (kn : Int) (cm : Int) (al : Int) (lg : Int) (tt : Int) (dn : Int) (sz : Nat)  : CtI l yX7_count wsX7_count ({ frames := 0, cells := 0, slots := 0, locals := 0 }) D vwCl (tyL kI kZ kL kJ) [(h, .inr (7, [.int (iI th), .int (iI sn), .int (iI sm), .int (iI nw), .ref hRo, .int (iI rn), .int (iI bn), .ref hNu, .ref hWe, .ref hDa, .ref hVe, .int (iI kn), .ref hSl, .ref hTr, .ref hBx, .ref hSt, .ref hLa, .ref hOr, .ref hSi, .ref hTu, .int (iI cm), .int (iI al), .int (iI lg), .int (iI tt), .int (iI dn)]))] [.ref h, .int (iI 8)] (iI tt) [(h, .inr (7, [.int (iI 0), .int (iI sn), .int (iI sm), .int (iI nw), .ref hRo, .int (iI rn), .int (iI bn), .ref hNu, .ref hWe, .ref hDa, .ref hVe, .int (iI kn), .ref hSl, .ref hTr, .ref hBx, .ref hSt, .ref hLa, .ref hOr, .ref hSi, .ref hTu, .int (iI cm), .int (iI al), .int (iI lg), .int (iI tt), .int (iI dn)]))] sz := by
  refine ck_start (Qc := fun A => cQi D vwCl (tyL kI kZ kL kJ) A (iI tt) [(h, .inr (7, [.int (iI 0), .int (iI sn), .int (iI sm), .int (iI nw), .ref hRo, .int (iI rn), .int (iI bn), .ref hNu, .ref hWe, .ref hDa, .ref hVe, .int (iI kn), .ref hSl, .ref hTr, .ref hBx, .ref hSt, .ref hLa, .ref hOr, .ref hSi, .ref hTu, .int (iI cm), .int (iI al), .int (iI lg), .int (iI tt), .int (iI dn)]))]) (cc := cX7_count) (maxL := 2) (ret := (some .int)) (LV := [(0, .ref h), (1, .int (iI 8))]) (by decide) rfl rfl (Nat.le_of_ble_eq_true rfl) ?_
  intro p e s m below meth cd hadm hx hb hr hml hts hown hlocks hname hnoh hxT A hA hK hP hD hS ls hl
  refine lv_aload_n hx hb dX7_count_0 rfl (lv_at hl 0 rfl) ?_
  refine lv_iconst (v := iI 0) hx hb dX7_count_1 rfl ?_
  refine wk_put (ci := 7) (C := RX7) (T := TX7) (N := 25) hx hb hts (fun w h => (List.mem_cons_of_mem _ (hinX7 w h))) tyX7 tyX7_ok nmX7 hown hK hP hD hS 0 rfl rfl 0 (by decide) (hts _ (List.mem_cons_of_mem _ wd_612)) (fun _ h9 => h9) rfl rfl (Nat.le_of_ble_eq_true rfl) dX7_count_2 (ws' := [(h, .inr (7, [.int (iI 0), .int (iI sn), .int (iI sm), .int (iI nw), .ref hRo, .int (iI rn), .int (iI bn), .ref hNu, .ref hWe, .ref hDa, .ref hVe, .int (iI kn), .ref hSl, .ref hTr, .ref hBx, .ref hSt, .ref hLa, .ref hOr, .ref hSi, .ref hTu, .int (iI cm), .int (iI al), .int (iI lg), .int (iI tt), .int (iI dn)]))]) rfl (fun H locs hP hD hS => ?_)
  refine lv_iload_n hx hb dX7_count_5 rfl (lv_at hl 1 rfl) ?_
  refine lv_bipush (v := iI 100) hx hb dX7_count_6 (by decide) ?_
  refine wk_icmp_lt (tgt := 35) hx hb dX7_count_8 (by decide) (by omega) (fun c_1 => ?_) (fun c_1 => ?_)
  · skip
    refine lv_iload_n hx hb dX7_count_35 rfl (lv_at hl 1 rfl) ?_
    refine lv_tableIn (tgt := 125) hx hb dX7_count_36 (by decide) (by decide) rfl (by decide) ?_
    refine lv_aload_n hx hb dX7_count_125 rfl (lv_at hl 0 rfl) ?_
    refine va_get (D := D) (ci := 7) (v := .int (iI tt)) (C := RX7) (T := TX7) (N := 25) hx hb hts (fun w h => (List.mem_cons_of_mem _ (hinX7 w h))) hown hK hP 0 rfl rfl 23 (by decide) (hts _ (List.mem_cons_of_mem _ wd_635)) (fun _ h9 => h9) rfl dX7_count_126 ?_
    exact rk_int hx hb hr hlocks hK hP hD hS (by first | rfl | omega) rfl dX7_count_129
  · skip
    exfalso; omega

set_option maxHeartbeats 4000000 in
set_option maxRecDepth 100000 in
theorem tX7_count_19 (l : Launch) (D : va_G) (kI : ClassId) (kZ : ClassId) (kL : ClassId) (kJ : ClassId) (h : Nat) (hRo : Nat) (hNu : Nat) (hWe : Nat) (hDa : Nat) (hVe : Nat) (hSl : Nat) (hTr : Nat) (hBx : Nat) (hSt : Nat) (hLa : Nat) (hOr : Nat) (hSi : Nat) (hTu : Nat) (th : Int) (sn : Int) (sm : Int) (nw : Int) (rn : Int) (bn : Int) (kn : Int) (cm : Int) (al : Int) (lg : Int) (tt : Int) (dn : Int) (sz : Nat)  : CtI l yX7_count wsX7_count ({ frames := 0, cells := 0, slots := 0, locals := 0 }) D vwCl (tyL kI kZ kL kJ) [(h, .inr (7, [.int (iI th), .int (iI sn), .int (iI sm), .int (iI nw), .ref hRo, .int (iI rn), .int (iI bn), .ref hNu, .ref hWe, .ref hDa, .ref hVe, .int (iI kn), .ref hSl, .ref hTr, .ref hBx, .ref hSt, .ref hLa, .ref hOr, .ref hSi, .ref hTu, .int (iI cm), .int (iI al), .int (iI lg), .int (iI tt), .int (iI dn)]))] [.ref h, .int (iI 9)] (iI dn) [(h, .inr (7, [.int (iI 0), .int (iI sn), .int (iI sm), .int (iI nw), .ref hRo, .int (iI rn), .int (iI bn), .ref hNu, .ref hWe, .ref hDa, .ref hVe, .int (iI kn), .ref hSl, .ref hTr, .ref hBx, .ref hSt, .ref hLa, .ref hOr, .ref hSi, .ref hTu, .int (iI cm), .int (iI al), .int (iI lg), .int (iI tt), .int (iI dn)]))] sz := by
  refine ck_start (Qc := fun A => cQi D vwCl (tyL kI kZ kL kJ) A (iI dn) [(h, .inr (7, [.int (iI 0), .int (iI sn), .int (iI sm), .int (iI nw), .ref hRo, .int (iI rn), .int (iI bn), .ref hNu, .ref hWe, .ref hDa, .ref hVe, .int (iI kn), .ref hSl, .ref hTr, .ref hBx, .ref hSt, .ref hLa, .ref hOr, .ref hSi, .ref hTu, .int (iI cm), .int (iI al), .int (iI lg), .int (iI tt), .int (iI dn)]))]) (cc := cX7_count) (maxL := 2) (ret := (some .int)) (LV := [(0, .ref h), (1, .int (iI 9))]) (by decide) rfl rfl (Nat.le_of_ble_eq_true rfl) ?_
  intro p e s m below meth cd hadm hx hb hr hml hts hown hlocks hname hnoh hxT A hA hK hP hD hS ls hl
  refine lv_aload_n hx hb dX7_count_0 rfl (lv_at hl 0 rfl) ?_
  refine lv_iconst (v := iI 0) hx hb dX7_count_1 rfl ?_
  refine wk_put (ci := 7) (C := RX7) (T := TX7) (N := 25) hx hb hts (fun w h => (List.mem_cons_of_mem _ (hinX7 w h))) tyX7 tyX7_ok nmX7 hown hK hP hD hS 0 rfl rfl 0 (by decide) (hts _ (List.mem_cons_of_mem _ wd_612)) (fun _ h9 => h9) rfl rfl (Nat.le_of_ble_eq_true rfl) dX7_count_2 (ws' := [(h, .inr (7, [.int (iI 0), .int (iI sn), .int (iI sm), .int (iI nw), .ref hRo, .int (iI rn), .int (iI bn), .ref hNu, .ref hWe, .ref hDa, .ref hVe, .int (iI kn), .ref hSl, .ref hTr, .ref hBx, .ref hSt, .ref hLa, .ref hOr, .ref hSi, .ref hTu, .int (iI cm), .int (iI al), .int (iI lg), .int (iI tt), .int (iI dn)]))]) rfl (fun H locs hP hD hS => ?_)
  refine lv_iload_n hx hb dX7_count_5 rfl (lv_at hl 1 rfl) ?_
  refine lv_bipush (v := iI 100) hx hb dX7_count_6 (by decide) ?_
  refine wk_icmp_lt (tgt := 35) hx hb dX7_count_8 (by decide) (by omega) (fun c_1 => ?_) (fun c_1 => ?_)
  · skip
    refine lv_iload_n hx hb dX7_count_35 rfl (lv_at hl 1 rfl) ?_
    refine lv_tableIn (tgt := 130) hx hb dX7_count_36 (by decide) (by decide) rfl (by decide) ?_
    refine lv_aload_n hx hb dX7_count_130 rfl (lv_at hl 0 rfl) ?_
    refine va_get (D := D) (ci := 7) (v := .int (iI dn)) (C := RX7) (T := TX7) (N := 25) hx hb hts (fun w h => (List.mem_cons_of_mem _ (hinX7 w h))) hown hK hP 0 rfl rfl 24 (by decide) (hts _ (List.mem_cons_of_mem _ wd_636)) (fun _ h9 => h9) rfl dX7_count_131 ?_
    exact rk_int hx hb hr hlocks hK hP hD hS (by first | rfl | omega) rfl dX7_count_134
  · skip
    exfalso; omega

set_option maxHeartbeats 4000000 in
set_option maxRecDepth 100000 in
theorem tX7_count_14 (l : Launch) (D : va_G) (kI : ClassId) (kZ : ClassId) (kL : ClassId) (kJ : ClassId) (h : Nat) (hRo : Nat) (hNu : Nat) (hWe : Nat) (hDa : Nat) (hVe : Nat) (hSl : Nat) (hTr : Nat) (hBx : Nat) (hSt : Nat) (hLa : Nat) (hOr : Nat) (hSi : Nat) (hTu : Nat) (kz : Int → Int) (kl : Int → Int) (th : Int) (sn : Int) (sm : Int) (nw : Int) (rn : Int) (bn : Int) (kn : Int) (cm : Int) (al : Int) (lg : Int) (tt : Int) (dn : Int) (sz : Nat) (hkn : 0 ≤ kn ∧ kn ≤ 60) (hkz : ∀ j, 0 ≤ kz j ∧ kz j ≤ 1000000) (hkl : ∀ j, 0 ≤ kl j ∧ kl j ≤ 1000000) : CtI l yX7_count wsX7_count ({ frames := 1, cells := 0, slots := 0, locals := 23 }) D vwCl (tyL kI kZ kL kJ) [(h, .inr (7, [.int (iI th), .int (iI sn), .int (iI sm), .int (iI nw), .ref hRo, .int (iI rn), .int (iI bn), .ref hNu, .ref hWe, .ref hDa, .ref hVe, .int (iI kn), .ref hSl, .ref hTr, .ref hBx, .ref hSt, .ref hLa, .ref hOr, .ref hSi, .ref hTu, .int (iI cm), .int (iI al), .int (iI lg), .int (iI tt), .int (iI dn)])), (hSt, .inl (kI, 61, .inl (iF kz))), (hLa, .inl (kI, 61, .inl (iF kl)))] [.ref h, .int (iI 4)] (iI (cn (pLN kz kl 0) (kn + 1 - 1).toNat)) [(h, .inr (7, [.int (iI 0), .int (iI sn), .int (iI sm), .int (iI nw), .ref hRo, .int (iI rn), .int (iI bn), .ref hNu, .ref hWe, .ref hDa, .ref hVe, .int (iI kn), .ref hSl, .ref hTr, .ref hBx, .ref hSt, .ref hLa, .ref hOr, .ref hSi, .ref hTu, .int (iI cm), .int (iI al), .int (iI lg), .int (iI tt), .int (iI dn)])), (hSt, .inl (kI, 61, .inl (iF kz))), (hLa, .inl (kI, 61, .inl (iF kl)))] sz := by
  refine ck_start (Qc := fun A => cQi D vwCl (tyL kI kZ kL kJ) A (iI (cn (pLN kz kl 0) (kn + 1 - 1).toNat)) [(h, .inr (7, [.int (iI 0), .int (iI sn), .int (iI sm), .int (iI nw), .ref hRo, .int (iI rn), .int (iI bn), .ref hNu, .ref hWe, .ref hDa, .ref hVe, .int (iI kn), .ref hSl, .ref hTr, .ref hBx, .ref hSt, .ref hLa, .ref hOr, .ref hSi, .ref hTu, .int (iI cm), .int (iI al), .int (iI lg), .int (iI tt), .int (iI dn)])), (hSt, .inl (kI, 61, .inl (iF kz))), (hLa, .inl (kI, 61, .inl (iF kl)))]) (cc := cX7_count) (maxL := 2) (ret := (some .int)) (LV := [(0, .ref h), (1, .int (iI 4))]) (by decide) rfl rfl (Nat.le_of_ble_eq_true rfl) ?_
  intro p e s m below meth cd hadm hx hb hr hml hts hown hlocks hname hnoh hxT A hA hK hP hD hS ls hl
  refine lv_aload_n hx hb dX7_count_0 rfl (lv_at hl 0 rfl) ?_
  refine lv_iconst (v := iI 0) hx hb dX7_count_1 rfl ?_
  refine wk_put (ci := 7) (C := RX7) (T := TX7) (N := 25) hx hb hts (fun w h => (List.mem_cons_of_mem _ (hinX7 w h))) tyX7 tyX7_ok nmX7 hown hK hP hD hS 0 rfl rfl 0 (by decide) (hts _ (List.mem_cons_of_mem _ wd_612)) (fun _ h9 => h9) rfl rfl (Nat.le_of_ble_eq_true rfl) dX7_count_2 (ws' := [(h, .inr (7, [.int (iI 0), .int (iI sn), .int (iI sm), .int (iI nw), .ref hRo, .int (iI rn), .int (iI bn), .ref hNu, .ref hWe, .ref hDa, .ref hVe, .int (iI kn), .ref hSl, .ref hTr, .ref hBx, .ref hSt, .ref hLa, .ref hOr, .ref hSi, .ref hTu, .int (iI cm), .int (iI al), .int (iI lg), .int (iI tt), .int (iI dn)])), (hSt, .inl (kI, 61, .inl (iF kz))), (hLa, .inl (kI, 61, .inl (iF kl)))]) rfl (fun H locs hP hD hS => ?_)
  refine lv_iload_n hx hb dX7_count_5 rfl (lv_at hl 1 rfl) ?_
  refine lv_bipush (v := iI 100) hx hb dX7_count_6 (by decide) ?_
  refine wk_icmp_lt (tgt := 35) hx hb dX7_count_8 (by decide) (by omega) (fun c_1 => ?_) (fun c_1 => ?_)
  · skip
    refine lv_iload_n hx hb dX7_count_35 rfl (lv_at hl 1 rfl) ?_
    refine lv_tableIn (tgt := 112) hx hb dX7_count_36 (by decide) (by decide) rfl (by decide) ?_
    refine lv_aload_n hx hb dX7_count_112 rfl (lv_at hl 0 rfl) ?_
    refine lv_iload_n hx hb dX7_count_113 rfl (lv_at hl 1 rfl) ?_
    refine lv_iconst (v := iI 4) hx hb dX7_count_114 rfl ?_
    refine wk_isub hx hb dX7_count_115 ?_
    refine wk_eqi (show iI (4 - 4) = iI 0 by rfl) ?_
    refine pk_callI (va_runV (As := [.int (iI 0)]) (rest := []) ⟨hx, hb, hml, hown, hts⟩ (tX7_inLane l D kI kZ kL kJ h hRo hNu hWe hDa hVe hSl hTr hBx hSt hLa hOr hSi hTu kz kl 0 sn sm nw rn bn kn cm al lg tt dn 0 H.size (by first | assumption | omega) (by first | assumption | omega) (by first | assumption | omega) (by first | assumption | omega)) (cwV 1 hts (gd_V tb_cons wd_771 wd_773 wd_29 wd_41 wd_774) rfl rfl rfl (by decide +kernel) ⟨Nat.le_of_ble_eq_true rfl, Nat.le_of_ble_eq_true rfl⟩) (ck_preV hxT hK hP hD [0, 1, 2] rfl (by decide) (q0 := 0) rfl rfl rfl) rfl rfl hl.1 rfl (lv_room (Nat.le_of_ble_eq_true rfl)) dX7_count_116 ⟨Nat.zero_le _, Nat.zero_le _⟩) ?_
    exact rk_int hx hb hr hlocks hK hP hD hS (by first | rfl | omega) rfl dX7_count_119
  · skip
    exfalso; omega

set_option maxHeartbeats 4000000 in
set_option maxRecDepth 100000 in
theorem tX7_count_15 (l : Launch) (D : va_G) (kI : ClassId) (kZ : ClassId) (kL : ClassId) (kJ : ClassId) (h : Nat) (hRo : Nat) (hNu : Nat) (hWe : Nat) (hDa : Nat) (hVe : Nat) (hSl : Nat) (hTr : Nat) (hBx : Nat) (hSt : Nat) (hLa : Nat) (hOr : Nat) (hSi : Nat) (hTu : Nat) (kz : Int → Int) (kl : Int → Int) (th : Int) (sn : Int) (sm : Int) (nw : Int) (rn : Int) (bn : Int) (kn : Int) (cm : Int) (al : Int) (lg : Int) (tt : Int) (dn : Int) (sz : Nat) (hkn : 0 ≤ kn ∧ kn ≤ 60) (hkz : ∀ j, 0 ≤ kz j ∧ kz j ≤ 1000000) (hkl : ∀ j, 0 ≤ kl j ∧ kl j ≤ 1000000) : CtI l yX7_count wsX7_count ({ frames := 1, cells := 0, slots := 0, locals := 23 }) D vwCl (tyL kI kZ kL kJ) [(h, .inr (7, [.int (iI th), .int (iI sn), .int (iI sm), .int (iI nw), .ref hRo, .int (iI rn), .int (iI bn), .ref hNu, .ref hWe, .ref hDa, .ref hVe, .int (iI kn), .ref hSl, .ref hTr, .ref hBx, .ref hSt, .ref hLa, .ref hOr, .ref hSi, .ref hTu, .int (iI cm), .int (iI al), .int (iI lg), .int (iI tt), .int (iI dn)])), (hSt, .inl (kI, 61, .inl (iF kz))), (hLa, .inl (kI, 61, .inl (iF kl)))] [.ref h, .int (iI 5)] (iI (cn (pLN kz kl 1) (kn + 1 - 1).toNat)) [(h, .inr (7, [.int (iI 0), .int (iI sn), .int (iI sm), .int (iI nw), .ref hRo, .int (iI rn), .int (iI bn), .ref hNu, .ref hWe, .ref hDa, .ref hVe, .int (iI kn), .ref hSl, .ref hTr, .ref hBx, .ref hSt, .ref hLa, .ref hOr, .ref hSi, .ref hTu, .int (iI cm), .int (iI al), .int (iI lg), .int (iI tt), .int (iI dn)])), (hSt, .inl (kI, 61, .inl (iF kz))), (hLa, .inl (kI, 61, .inl (iF kl)))] sz := by
  refine ck_start (Qc := fun A => cQi D vwCl (tyL kI kZ kL kJ) A (iI (cn (pLN kz kl 1) (kn + 1 - 1).toNat)) [(h, .inr (7, [.int (iI 0), .int (iI sn), .int (iI sm), .int (iI nw), .ref hRo, .int (iI rn), .int (iI bn), .ref hNu, .ref hWe, .ref hDa, .ref hVe, .int (iI kn), .ref hSl, .ref hTr, .ref hBx, .ref hSt, .ref hLa, .ref hOr, .ref hSi, .ref hTu, .int (iI cm), .int (iI al), .int (iI lg), .int (iI tt), .int (iI dn)])), (hSt, .inl (kI, 61, .inl (iF kz))), (hLa, .inl (kI, 61, .inl (iF kl)))]) (cc := cX7_count) (maxL := 2) (ret := (some .int)) (LV := [(0, .ref h), (1, .int (iI 5))]) (by decide) rfl rfl (Nat.le_of_ble_eq_true rfl) ?_
  intro p e s m below meth cd hadm hx hb hr hml hts hown hlocks hname hnoh hxT A hA hK hP hD hS ls hl
  refine lv_aload_n hx hb dX7_count_0 rfl (lv_at hl 0 rfl) ?_
  refine lv_iconst (v := iI 0) hx hb dX7_count_1 rfl ?_
  refine wk_put (ci := 7) (C := RX7) (T := TX7) (N := 25) hx hb hts (fun w h => (List.mem_cons_of_mem _ (hinX7 w h))) tyX7 tyX7_ok nmX7 hown hK hP hD hS 0 rfl rfl 0 (by decide) (hts _ (List.mem_cons_of_mem _ wd_612)) (fun _ h9 => h9) rfl rfl (Nat.le_of_ble_eq_true rfl) dX7_count_2 (ws' := [(h, .inr (7, [.int (iI 0), .int (iI sn), .int (iI sm), .int (iI nw), .ref hRo, .int (iI rn), .int (iI bn), .ref hNu, .ref hWe, .ref hDa, .ref hVe, .int (iI kn), .ref hSl, .ref hTr, .ref hBx, .ref hSt, .ref hLa, .ref hOr, .ref hSi, .ref hTu, .int (iI cm), .int (iI al), .int (iI lg), .int (iI tt), .int (iI dn)])), (hSt, .inl (kI, 61, .inl (iF kz))), (hLa, .inl (kI, 61, .inl (iF kl)))]) rfl (fun H locs hP hD hS => ?_)
  refine lv_iload_n hx hb dX7_count_5 rfl (lv_at hl 1 rfl) ?_
  refine lv_bipush (v := iI 100) hx hb dX7_count_6 (by decide) ?_
  refine wk_icmp_lt (tgt := 35) hx hb dX7_count_8 (by decide) (by omega) (fun c_1 => ?_) (fun c_1 => ?_)
  · skip
    refine lv_iload_n hx hb dX7_count_35 rfl (lv_at hl 1 rfl) ?_
    refine lv_tableIn (tgt := 112) hx hb dX7_count_36 (by decide) (by decide) rfl (by decide) ?_
    refine lv_aload_n hx hb dX7_count_112 rfl (lv_at hl 0 rfl) ?_
    refine lv_iload_n hx hb dX7_count_113 rfl (lv_at hl 1 rfl) ?_
    refine lv_iconst (v := iI 4) hx hb dX7_count_114 rfl ?_
    refine wk_isub hx hb dX7_count_115 ?_
    refine wk_eqi (show iI (5 - 4) = iI 1 by rfl) ?_
    refine pk_callI (va_runV (As := [.int (iI 1)]) (rest := []) ⟨hx, hb, hml, hown, hts⟩ (tX7_inLane l D kI kZ kL kJ h hRo hNu hWe hDa hVe hSl hTr hBx hSt hLa hOr hSi hTu kz kl 0 sn sm nw rn bn kn cm al lg tt dn 1 H.size (by first | assumption | omega) (by first | assumption | omega) (by first | assumption | omega) (by first | assumption | omega)) (cwV 1 hts (gd_V tb_cons wd_771 wd_773 wd_29 wd_41 wd_774) rfl rfl rfl (by decide +kernel) ⟨Nat.le_of_ble_eq_true rfl, Nat.le_of_ble_eq_true rfl⟩) (ck_preV hxT hK hP hD [0, 1, 2] rfl (by decide) (q0 := 0) rfl rfl rfl) rfl rfl hl.1 rfl (lv_room (Nat.le_of_ble_eq_true rfl)) dX7_count_116 ⟨Nat.zero_le _, Nat.zero_le _⟩) ?_
    exact rk_int hx hb hr hlocks hK hP hD hS (by first | rfl | omega) rfl dX7_count_119
  · skip
    exfalso; omega

set_option maxHeartbeats 4000000 in
set_option maxRecDepth 100000 in
theorem tX7_count_16 (l : Launch) (D : va_G) (kI : ClassId) (kZ : ClassId) (kL : ClassId) (kJ : ClassId) (h : Nat) (hRo : Nat) (hNu : Nat) (hWe : Nat) (hDa : Nat) (hVe : Nat) (hSl : Nat) (hTr : Nat) (hBx : Nat) (hSt : Nat) (hLa : Nat) (hOr : Nat) (hSi : Nat) (hTu : Nat) (kz : Int → Int) (kl : Int → Int) (th : Int) (sn : Int) (sm : Int) (nw : Int) (rn : Int) (bn : Int) (kn : Int) (cm : Int) (al : Int) (lg : Int) (tt : Int) (dn : Int) (sz : Nat) (hkn : 0 ≤ kn ∧ kn ≤ 60) (hkz : ∀ j, 0 ≤ kz j ∧ kz j ≤ 1000000) (hkl : ∀ j, 0 ≤ kl j ∧ kl j ≤ 1000000) : CtI l yX7_count wsX7_count ({ frames := 1, cells := 0, slots := 0, locals := 23 }) D vwCl (tyL kI kZ kL kJ) [(h, .inr (7, [.int (iI th), .int (iI sn), .int (iI sm), .int (iI nw), .ref hRo, .int (iI rn), .int (iI bn), .ref hNu, .ref hWe, .ref hDa, .ref hVe, .int (iI kn), .ref hSl, .ref hTr, .ref hBx, .ref hSt, .ref hLa, .ref hOr, .ref hSi, .ref hTu, .int (iI cm), .int (iI al), .int (iI lg), .int (iI tt), .int (iI dn)])), (hSt, .inl (kI, 61, .inl (iF kz))), (hLa, .inl (kI, 61, .inl (iF kl)))] [.ref h, .int (iI 6)] (iI (cn (pLN kz kl 2) (kn + 1 - 1).toNat)) [(h, .inr (7, [.int (iI 0), .int (iI sn), .int (iI sm), .int (iI nw), .ref hRo, .int (iI rn), .int (iI bn), .ref hNu, .ref hWe, .ref hDa, .ref hVe, .int (iI kn), .ref hSl, .ref hTr, .ref hBx, .ref hSt, .ref hLa, .ref hOr, .ref hSi, .ref hTu, .int (iI cm), .int (iI al), .int (iI lg), .int (iI tt), .int (iI dn)])), (hSt, .inl (kI, 61, .inl (iF kz))), (hLa, .inl (kI, 61, .inl (iF kl)))] sz := by
  refine ck_start (Qc := fun A => cQi D vwCl (tyL kI kZ kL kJ) A (iI (cn (pLN kz kl 2) (kn + 1 - 1).toNat)) [(h, .inr (7, [.int (iI 0), .int (iI sn), .int (iI sm), .int (iI nw), .ref hRo, .int (iI rn), .int (iI bn), .ref hNu, .ref hWe, .ref hDa, .ref hVe, .int (iI kn), .ref hSl, .ref hTr, .ref hBx, .ref hSt, .ref hLa, .ref hOr, .ref hSi, .ref hTu, .int (iI cm), .int (iI al), .int (iI lg), .int (iI tt), .int (iI dn)])), (hSt, .inl (kI, 61, .inl (iF kz))), (hLa, .inl (kI, 61, .inl (iF kl)))]) (cc := cX7_count) (maxL := 2) (ret := (some .int)) (LV := [(0, .ref h), (1, .int (iI 6))]) (by decide) rfl rfl (Nat.le_of_ble_eq_true rfl) ?_
  intro p e s m below meth cd hadm hx hb hr hml hts hown hlocks hname hnoh hxT A hA hK hP hD hS ls hl
  refine lv_aload_n hx hb dX7_count_0 rfl (lv_at hl 0 rfl) ?_
  refine lv_iconst (v := iI 0) hx hb dX7_count_1 rfl ?_
  refine wk_put (ci := 7) (C := RX7) (T := TX7) (N := 25) hx hb hts (fun w h => (List.mem_cons_of_mem _ (hinX7 w h))) tyX7 tyX7_ok nmX7 hown hK hP hD hS 0 rfl rfl 0 (by decide) (hts _ (List.mem_cons_of_mem _ wd_612)) (fun _ h9 => h9) rfl rfl (Nat.le_of_ble_eq_true rfl) dX7_count_2 (ws' := [(h, .inr (7, [.int (iI 0), .int (iI sn), .int (iI sm), .int (iI nw), .ref hRo, .int (iI rn), .int (iI bn), .ref hNu, .ref hWe, .ref hDa, .ref hVe, .int (iI kn), .ref hSl, .ref hTr, .ref hBx, .ref hSt, .ref hLa, .ref hOr, .ref hSi, .ref hTu, .int (iI cm), .int (iI al), .int (iI lg), .int (iI tt), .int (iI dn)])), (hSt, .inl (kI, 61, .inl (iF kz))), (hLa, .inl (kI, 61, .inl (iF kl)))]) rfl (fun H locs hP hD hS => ?_)
  refine lv_iload_n hx hb dX7_count_5 rfl (lv_at hl 1 rfl) ?_
  refine lv_bipush (v := iI 100) hx hb dX7_count_6 (by decide) ?_
  refine wk_icmp_lt (tgt := 35) hx hb dX7_count_8 (by decide) (by omega) (fun c_1 => ?_) (fun c_1 => ?_)
  · skip
    refine lv_iload_n hx hb dX7_count_35 rfl (lv_at hl 1 rfl) ?_
    refine lv_tableIn (tgt := 112) hx hb dX7_count_36 (by decide) (by decide) rfl (by decide) ?_
    refine lv_aload_n hx hb dX7_count_112 rfl (lv_at hl 0 rfl) ?_
    refine lv_iload_n hx hb dX7_count_113 rfl (lv_at hl 1 rfl) ?_
    refine lv_iconst (v := iI 4) hx hb dX7_count_114 rfl ?_
    refine wk_isub hx hb dX7_count_115 ?_
    refine wk_eqi (show iI (6 - 4) = iI 2 by rfl) ?_
    refine pk_callI (va_runV (As := [.int (iI 2)]) (rest := []) ⟨hx, hb, hml, hown, hts⟩ (tX7_inLane l D kI kZ kL kJ h hRo hNu hWe hDa hVe hSl hTr hBx hSt hLa hOr hSi hTu kz kl 0 sn sm nw rn bn kn cm al lg tt dn 2 H.size (by first | assumption | omega) (by first | assumption | omega) (by first | assumption | omega) (by first | assumption | omega)) (cwV 1 hts (gd_V tb_cons wd_771 wd_773 wd_29 wd_41 wd_774) rfl rfl rfl (by decide +kernel) ⟨Nat.le_of_ble_eq_true rfl, Nat.le_of_ble_eq_true rfl⟩) (ck_preV hxT hK hP hD [0, 1, 2] rfl (by decide) (q0 := 0) rfl rfl rfl) rfl rfl hl.1 rfl (lv_room (Nat.le_of_ble_eq_true rfl)) dX7_count_116 ⟨Nat.zero_le _, Nat.zero_le _⟩) ?_
    exact rk_int hx hb hr hlocks hK hP hD hS (by first | rfl | omega) rfl dX7_count_119
  · skip
    exfalso; omega
