set_option maxHeartbeats 4000000 in
set_option maxRecDepth 100000 in
theorem tX6_withdraw_n (l : Launch) (D : va_G) (kI : ClassId) (kZ : ClassId) (kL : ClassId) (kJ : ClassId) (g : Nat) (aR : Nat) (aB : Nat) (aT : Nat) (aS : Nat) (aK : Nat) (aL : Nat) (aKs : Nat) (aKt : Nat) (aKb : Nat) (aKz : Nat) (aKl : Nat) (aKc : Nat) (aKu : Nat) (kb : Int → Int) (kz : Int → Int) (nw : Int) (al : Int) (lg : Int) (tt : Int) (dn : Int) (kn : Int) (bx : Int) (sz : Nat) (hbx : 0 ≤ bx ∧ bx ≤ 1000000) (hkn : 0 ≤ kn ∧ kn ≤ 60) (hkb : ∀ j, 0 ≤ kb j ∧ kb j ≤ 1000000) (hkz : ∀ j, 0 ≤ kz j ∧ kz j ≤ 1000000) (hX : sc (pIN kb kz bx) (-1) (kn + 1 - 1).toNat 1 = -1) : CtP l yX6_withdraw wsX6_withdraw ({ frames := 1, cells := 0, slots := 0, locals := 22 }) D vwCl (tyL kI kZ kL kJ) [(g, .inr (6, [.ref aR, .ref aB, .ref aT, .ref aS, .ref aK, .ref aL, .int (iI nw), .int (iI al), .int (iI lg), .int (iI tt), .int (iI dn)])), (aK, .inr (0, [.ref aKs, .ref aKt, .ref aKb, .ref aKz, .ref aKl, .ref aKc, .ref aKu, .int (iI kn)])), (aKb, .inl (kI, 61, .inl (iF kb))), (aKz, .inl (kI, 61, .inl (iF kz)))] [.ref g, .int (iI bx)] (iI 0) sz := by
  refine pk_start (cc := cX6_withdraw) (maxL := 3) (ret := (some .int)) (LV := [(0, .ref g), (1, .int (iI bx))]) (by decide) rfl rfl (Nat.le_of_ble_eq_true rfl) ?_
  intro p e s m below meth cd hadm hx hb hr hml hts hown hlocks hname hnoh hxT A hA hK hP hD hS ls hl
  refine lv_aload_n hx hb dX6_withdraw_0 rfl (lv_at hl 0 rfl) ?_
  refine va_get (D := D) (ci := 6) (v := .ref aK) (C := RX6) (T := TX6) (N := 11) hx hb hts (fun w h => (List.mem_cons_of_mem _ (hinX6 w h))) hown hK hP 0 rfl rfl 4 (by decide) (hts _ (List.mem_cons_of_mem _ wd_193)) (fun _ h9 => h9) rfl dX6_withdraw_1 ?_
  refine lv_iload_n hx hb dX6_withdraw_4 rfl (lv_at hl 1 rfl) ?_
  refine pk_callI (va_runV (As := [.int (iI bx)]) (rest := []) ⟨hx, hb, hml, hown, hts⟩ (tX0_inWithBox l D kI kZ kL kJ aK aKs aKt aKb aKz aKl aKc aKu kb kz kn bx s.heap.size (by first | assumption | omega) (by first | assumption | omega) (by first | assumption | omega) (by first | assumption | omega)) (cwV 1 hts (gd_V tb_cons wd_453 wd_454 wd_455 wd_39 wd_456) rfl rfl rfl (by decide +kernel) ⟨Nat.le_of_ble_eq_true rfl, Nat.le_of_ble_eq_true rfl⟩) (ck_preV hxT hK hP hD [1, 2, 3] rfl (by decide) (q0 := 0) rfl rfl rfl) rfl rfl hl.1 rfl (lv_room (Nat.le_of_ble_eq_true rfl)) dX6_withdraw_5 ⟨Nat.zero_le _, Nat.zero_le _⟩) ?_
  refine lv_istore_n (lv' := [(2, .int (iI (sc (pIN kb kz bx) (-1) (kn + 1 - 1).toNat 1))), (0, .ref g), (1, .int (iI bx))]) hx hb dX6_withdraw_8 rfl hl (by decide) rfl (fun ls hl => ?_)
  refine lv_iload_n hx hb dX6_withdraw_9 rfl (lv_at hl 0 rfl) ?_
  refine lv_iconst (v := iI (-1)) hx hb dX6_withdraw_10 rfl ?_
  refine wk_icmp_ne (tgt := 16) hx hb dX6_withdraw_11 (by decide) (by omega) (fun c_1 => ?_) (fun c_1 => ?_)
  · skip
    exfalso; omega
  · skip
    refine lv_iconst (v := iI 0) hx hb dX6_withdraw_14 rfl ?_
    exact pk_int hx hb hr hlocks (by first | rfl | omega) dX6_withdraw_15

set_option maxHeartbeats 4000000 in
set_option maxRecDepth 100000 in
theorem tX6_withdraw_0 (l : Launch) (D : va_G) (kI : ClassId) (kZ : ClassId) (kL : ClassId) (kJ : ClassId) (g : Nat) (aR : Nat) (aB : Nat) (aT : Nat) (aS : Nat) (aK : Nat) (aL : Nat) (aSt : Nat) (aKs : Nat) (aKt : Nat) (aKb : Nat) (aKz : Nat) (aKl : Nat) (aKc : Nat) (aKu : Nat) (a0 : Nat) (a1 : Nat) (a2 : Nat) (a0w : Nat) (tk : Int → Int) (ks : Int → Int) (kb : Int → Int) (kz : Int → Int) (kl : Int → Int) (w0 : Int → Int) (nw : Int) (al : Int) (lg : Int) (tt : Int) (dn : Int) (sn : Int) (sm : Int) (kn : Int) (n0 : Int) (bx : Int) (sz : Nat) (hbx : 0 ≤ bx ∧ bx ≤ 1000000) (hkn : 0 ≤ kn ∧ kn ≤ 60) (hkb : ∀ j, 0 ≤ kb j ∧ kb j ≤ 1000000) (hkz : ∀ j, 0 ≤ kz j ∧ kz j ≤ 1000000) (hks : ∀ j, 0 ≤ ks j ∧ ks j < 24) (hX : 1 ≤ sc (pIN kb kz bx) (-1) (kn + 1 - 1).toNat 1 ∧ sc (pIN kb kz bx) (-1) (kn + 1 - 1).toNat 1 ≤ kn) (hl9 : kl (sc (pIN kb kz bx) (-1) (kn + 1 - 1).toNat 1) = 0) (hn0 : 0 ≤ n0 ∧ n0 ≤ 16) (hw0 : ∀ j, 0 ≤ w0 j ∧ w0 j ≤ 1000000) : CtI l yX6_withdraw wsX6_withdraw ({ frames := 1, cells := 0, slots := 0, locals := 23 }) D vwCl (tyL kI kZ kL kJ) [(g, .inr (6, [.ref aR, .ref aB, .ref aT, .ref aS, .ref aK, .ref aL, .int (iI nw), .int (iI al), .int (iI lg), .int (iI tt), .int (iI dn)])), (aS, .inr (4, [.ref aSt, .int (iI sn), .int (iI sm)])), (aSt, .inl (kI, 24, .inl (iF tk))), (aK, .inr (0, [.ref aKs, .ref aKt, .ref aKb, .ref aKz, .ref aKl, .ref aKc, .ref aKu, .int (iI kn)])), (aKs, .inl (kI, 61, .inl (iF ks))), (aKb, .inl (kI, 61, .inl (iF kb))), (aKz, .inl (kI, 61, .inl (iF kz))), (aKl, .inl (kI, 61, .inl (iF kl))), (aL, .inl (kL, 3, .inr (.inr (.inr (.inr (g3 a0 a1 a2)))))), (a0, .inr (2, [.ref a0w, .int (iI n0)])), (a0w, .inl (kI, 16, .inl (iF w0)))] [.ref g, .int (iI bx)] (iI 1) [(g, .inr (6, [.ref aR, .ref aB, .ref aT, .ref aS, .ref aK, .ref aL, .int (iI nw), .int (iI al), .int (iI lg), .int (iI tt), .int (iI dn)])), (aS, .inr (4, [.ref aSt, .int (iI sn), .int (iI sm)])), (aSt, .inl (kI, 24, .inl (iF (iu tk (ks (sc (pIN kb kz bx) (-1) (kn + 1 - 1).toNat 1)) (tk (ks (sc (pIN kb kz bx) (-1) (kn + 1 - 1).toNat 1)) - 1))))), (aK, .inr (0, [.ref aKs, .ref aKt, .ref aKb, .ref aKz, .ref aKl, .ref aKc, .ref aKu, .int (iI kn)])), (aKs, .inl (kI, 61, .inl (iF ks))), (aKb, .inl (kI, 61, .inl (iF kb))), (aKz, .inl (kI, 61, .inl (iF (iu kz (sc (pIN kb kz bx) (-1) (kn + 1 - 1).toNat 1) 3)))), (aKl, .inl (kI, 61, .inl (iF kl))), (aL, .inl (kL, 3, .inr (.inr (.inr (.inr (g3 a0 a1 a2)))))), (a0, .inr (2, [.ref a0w, .int (iI ((rmL (sc (pIN kb kz bx) (-1) (kn + 1 - 1).toNat 1) n0 (n0 - 0).toNat 0 0 w0).2))])), (a0w, .inl (kI, 16, .inl (iF ((rmL (sc (pIN kb kz bx) (-1) (kn + 1 - 1).toNat 1) n0 (n0 - 0).toNat 0 0 w0).1))))] sz := by
  refine ck_start (Qc := fun A => cQi D vwCl (tyL kI kZ kL kJ) A (iI 1) [(g, .inr (6, [.ref aR, .ref aB, .ref aT, .ref aS, .ref aK, .ref aL, .int (iI nw), .int (iI al), .int (iI lg), .int (iI tt), .int (iI dn)])), (aS, .inr (4, [.ref aSt, .int (iI sn), .int (iI sm)])), (aSt, .inl (kI, 24, .inl (iF (iu tk (ks (sc (pIN kb kz bx) (-1) (kn + 1 - 1).toNat 1)) (tk (ks (sc (pIN kb kz bx) (-1) (kn + 1 - 1).toNat 1)) - 1))))), (aK, .inr (0, [.ref aKs, .ref aKt, .ref aKb, .ref aKz, .ref aKl, .ref aKc, .ref aKu, .int (iI kn)])), (aKs, .inl (kI, 61, .inl (iF ks))), (aKb, .inl (kI, 61, .inl (iF kb))), (aKz, .inl (kI, 61, .inl (iF (iu kz (sc (pIN kb kz bx) (-1) (kn + 1 - 1).toNat 1) 3)))), (aKl, .inl (kI, 61, .inl (iF kl))), (aL, .inl (kL, 3, .inr (.inr (.inr (.inr (g3 a0 a1 a2)))))), (a0, .inr (2, [.ref a0w, .int (iI ((rmL (sc (pIN kb kz bx) (-1) (kn + 1 - 1).toNat 1) n0 (n0 - 0).toNat 0 0 w0).2))])), (a0w, .inl (kI, 16, .inl (iF ((rmL (sc (pIN kb kz bx) (-1) (kn + 1 - 1).toNat 1) n0 (n0 - 0).toNat 0 0 w0).1))))]) (cc := cX6_withdraw) (maxL := 3) (ret := (some .int)) (LV := [(0, .ref g), (1, .int (iI bx))]) (by decide) rfl rfl (Nat.le_of_ble_eq_true rfl) ?_
  intro p e s m below meth cd hadm hx hb hr hml hts hown hlocks hname hnoh hxT A hA hK hP hD hS ls hl
  refine lv_aload_n hx hb dX6_withdraw_0 rfl (lv_at hl 0 rfl) ?_
  refine va_get (D := D) (ci := 6) (v := .ref aK) (C := RX6) (T := TX6) (N := 11) hx hb hts (fun w h => (List.mem_cons_of_mem _ (hinX6 w h))) hown hK hP 0 rfl rfl 4 (by decide) (hts _ (List.mem_cons_of_mem _ wd_193)) (fun _ h9 => h9) rfl dX6_withdraw_1 ?_
  refine lv_iload_n hx hb dX6_withdraw_4 rfl (lv_at hl 1 rfl) ?_
  refine pk_callI (va_runV (As := [.int (iI bx)]) (rest := []) ⟨hx, hb, hml, hown, hts⟩ (tX0_inWithBox l D kI kZ kL kJ aK aKs aKt aKb aKz aKl aKc aKu kb kz kn bx s.heap.size (by first | assumption | omega) (by first | assumption | omega) (by first | assumption | omega) (by first | assumption | omega)) (cwV 1 hts (gd_V tb_cons wd_453 wd_454 wd_455 wd_39 wd_456) rfl rfl rfl (by decide +kernel) ⟨Nat.le_of_ble_eq_true rfl, Nat.le_of_ble_eq_true rfl⟩) (ck_preV hxT hK hP hD [3, 5, 6] rfl (by decide) (q0 := 0) rfl rfl rfl) rfl rfl hl.1 rfl (lv_room (Nat.le_of_ble_eq_true rfl)) dX6_withdraw_5 ⟨Nat.zero_le _, Nat.zero_le _⟩) ?_
  refine lv_istore_n (lv' := [(2, .int (iI (sc (pIN kb kz bx) (-1) (kn + 1 - 1).toNat 1))), (0, .ref g), (1, .int (iI bx))]) hx hb dX6_withdraw_8 rfl hl (by decide) rfl (fun ls hl => ?_)
  refine lv_iload_n hx hb dX6_withdraw_9 rfl (lv_at hl 0 rfl) ?_
  refine lv_iconst (v := iI (-1)) hx hb dX6_withdraw_10 rfl ?_
  refine wk_icmp_ne (tgt := 16) hx hb dX6_withdraw_11 (by decide) (by omega) (fun c_1 => ?_) (fun c_1 => ?_)
  · skip
    refine lv_aload_n hx hb dX6_withdraw_16 rfl (lv_at hl 1 rfl) ?_
    refine va_get (D := D) (ci := 6) (v := .ref aL) (C := RX6) (T := TX6) (N := 11) hx hb hts (fun w h => (List.mem_cons_of_mem _ (hinX6 w h))) hown hK hP 0 rfl rfl 5 (by decide) (hts _ (List.mem_cons_of_mem _ wd_194)) (fun _ h9 => h9) rfl dX6_withdraw_17 ?_
    refine lv_aload_n hx hb dX6_withdraw_20 rfl (lv_at hl 1 rfl) ?_
    refine va_get (D := D) (ci := 6) (v := .ref aK) (C := RX6) (T := TX6) (N := 11) hx hb hts (fun w h => (List.mem_cons_of_mem _ (hinX6 w h))) hown hK hP 0 rfl rfl 4 (by decide) (hts _ (List.mem_cons_of_mem _ wd_193)) (fun _ h9 => h9) rfl dX6_withdraw_21 ?_
    refine va_get (D := D) (ci := 0) (v := .ref aKl) (C := RX0) (T := TX0) (N := 8) hx hb hts (fun w h => (List.mem_cons_of_mem _ (hinX0 w h))) hown hK hP 3 rfl rfl 4 (by decide) (hts _ (List.mem_cons_of_mem _ wd_150)) (fun _ h9 => h9) rfl dX6_withdraw_24 ?_
    refine lv_iload_n hx hb dX6_withdraw_27 rfl (lv_at hl 0 rfl) ?_
    refine wk_iald hx hb hK hP 7 0 rfl rfl (by decide) (by omega) dX6_withdraw_28 ?_
    refine wk_eqi (show iI (kl (sc (pIN kb kz bx) (-1) (kn + 1 - 1).toNat 1)) = iI 0 by rw [hl9]) ?_
    refine wk_aald (y := a0) hx hb hK hP 8 2 rfl rfl (by decide) (by decide) rfl dX6_withdraw_29 ?_
    refine lv_iload_n hx hb dX6_withdraw_30 rfl (lv_at hl 0 rfl) ?_
    refine ck_backV (va_runV (As := [.int (iI (sc (pIN kb kz bx) (-1) (kn + 1 - 1).toNat 1))]) (rest := []) ⟨hx, hb, hml, hown, hts⟩ (tX2_remove l D kI kZ kL kJ a0 a0w w0 n0 (sc (pIN kb kz bx) (-1) (kn + 1 - 1).toNat 1) s.heap.size (by first | assumption | omega) (by first | assumption | omega) (by first | assumption | omega)) (cwV 1 hts (gd_V tb_cons wd_457 wd_458 wd_459 wd_40 wd_460) rfl rfl rfl (by decide +kernel) ⟨Nat.le_of_ble_eq_true rfl, Nat.le_of_ble_eq_true rfl⟩) (ck_preV hxT hK hP hD [9, 10] rfl (by decide) (q0 := 0) rfl rfl rfl) rfl rfl hl.1 rfl (lv_room (Nat.le_of_ble_eq_true rfl)) dX6_withdraw_31 ⟨Nat.zero_le _, Nat.zero_le _⟩) hP hD hS hA [9, 10] [0, 1, 2, 3, 4, 5, 6, 7, 8] (WR := [(g, .inr (6, [.ref aR, .ref aB, .ref aT, .ref aS, .ref aK, .ref aL, .int (iI nw), .int (iI al), .int (iI lg), .int (iI tt), .int (iI dn)])), (aS, .inr (4, [.ref aSt, .int (iI sn), .int (iI sm)])), (aSt, .inl (kI, 24, .inl (iF tk))), (aK, .inr (0, [.ref aKs, .ref aKt, .ref aKb, .ref aKz, .ref aKl, .ref aKc, .ref aKu, .int (iI kn)])), (aKs, .inl (kI, 61, .inl (iF ks))), (aKb, .inl (kI, 61, .inl (iF kb))), (aKz, .inl (kI, 61, .inl (iF kz))), (aKl, .inl (kI, 61, .inl (iF kl))), (aL, .inl (kL, 3, .inr (.inr (.inr (.inr (g3 a0 a1 a2))))))]) rfl rfl (by decide) (by decide) (ws' := [(g, .inr (6, [.ref aR, .ref aB, .ref aT, .ref aS, .ref aK, .ref aL, .int (iI nw), .int (iI al), .int (iI lg), .int (iI tt), .int (iI dn)])), (aS, .inr (4, [.ref aSt, .int (iI sn), .int (iI sm)])), (aSt, .inl (kI, 24, .inl (iF tk))), (aK, .inr (0, [.ref aKs, .ref aKt, .ref aKb, .ref aKz, .ref aKl, .ref aKc, .ref aKu, .int (iI kn)])), (aKs, .inl (kI, 61, .inl (iF ks))), (aKb, .inl (kI, 61, .inl (iF kb))), (aKz, .inl (kI, 61, .inl (iF kz))), (aKl, .inl (kI, 61, .inl (iF kl))), (aL, .inl (kL, 3, .inr (.inr (.inr (.inr (g3 a0 a1 a2)))))), (a0, .inr (2, [.ref a0w, .int (iI ((rmL (sc (pIN kb kz bx) (-1) (kn + 1 - 1).toNat 1) n0 (n0 - 0).toNat 0 0 w0).2))])), (a0w, .inl (kI, 16, .inl (iF ((rmL (sc (pIN kb kz bx) (-1) (kn + 1 - 1).toNat 1) n0 (n0 - 0).toNat 0 0 w0).1))))]) rfl (fun H locs hP hD hS => ?_)
    refine lv_aload_n hx hb dX6_withdraw_34 rfl (lv_at hl 1 rfl) ?_
    refine lv_iload_n hx hb dX6_withdraw_35 rfl (lv_at hl 0 rfl) ?_
    refine ck_backV (va_runV (As := [.int (iI (sc (pIN kb kz bx) (-1) (kn + 1 - 1).toNat 1))]) (rest := []) ⟨hx, hb, hml, hown, hts⟩ (tX6_end l D kI kZ kL kJ g aR aB aT aS aK aL aSt aKs aKt aKb aKz aKl aKc aKu tk ks kz nw al lg tt dn sn sm kn (sc (pIN kb kz bx) (-1) (kn + 1 - 1).toNat 1) H.size (by first | assumption | omega) (by first | assumption | omega)) (cwV 1 hts (gd_V tb_cons wd_461 wd_463 wd_5 wd_33 wd_464) rfl rfl rfl (by decide +kernel) ⟨Nat.le_of_ble_eq_true rfl, Nat.le_of_ble_eq_true rfl⟩) (ck_preV hxT hK hP hD [0, 1, 2, 3, 4, 6] rfl (by decide) (q0 := 0) rfl rfl rfl) rfl rfl hl.1 rfl (lv_room (Nat.le_of_ble_eq_true rfl)) dX6_withdraw_36 ⟨Nat.zero_le _, Nat.zero_le _⟩) hP hD hS hA [0, 1, 2, 3, 4, 6] [5, 7, 8, 9, 10] (WR := [(aKb, .inl (kI, 61, .inl (iF kb))), (aKl, .inl (kI, 61, .inl (iF kl))), (aL, .inl (kL, 3, .inr (.inr (.inr (.inr (g3 a0 a1 a2)))))), (a0, .inr (2, [.ref a0w, .int (iI ((rmL (sc (pIN kb kz bx) (-1) (kn + 1 - 1).toNat 1) n0 (n0 - 0).toNat 0 0 w0).2))])), (a0w, .inl (kI, 16, .inl (iF ((rmL (sc (pIN kb kz bx) (-1) (kn + 1 - 1).toNat 1) n0 (n0 - 0).toNat 0 0 w0).1))))]) rfl rfl (by decide) (by decide) (ws' := [(aKb, .inl (kI, 61, .inl (iF kb))), (aKl, .inl (kI, 61, .inl (iF kl))), (aL, .inl (kL, 3, .inr (.inr (.inr (.inr (g3 a0 a1 a2)))))), (a0, .inr (2, [.ref a0w, .int (iI ((rmL (sc (pIN kb kz bx) (-1) (kn + 1 - 1).toNat 1) n0 (n0 - 0).toNat 0 0 w0).2))])), (a0w, .inl (kI, 16, .inl (iF ((rmL (sc (pIN kb kz bx) (-1) (kn + 1 - 1).toNat 1) n0 (n0 - 0).toNat 0 0 w0).1)))), (g, .inr (6, [.ref aR, .ref aB, .ref aT, .ref aS, .ref aK, .ref aL, .int (iI nw), .int (iI al), .int (iI lg), .int (iI tt), .int (iI dn)])), (aS, .inr (4, [.ref aSt, .int (iI sn), .int (iI sm)])), (aSt, .inl (kI, 24, .inl (iF (iu tk (ks (sc (pIN kb kz bx) (-1) (kn + 1 - 1).toNat 1)) (tk (ks (sc (pIN kb kz bx) (-1) (kn + 1 - 1).toNat 1)) - 1))))), (aK, .inr (0, [.ref aKs, .ref aKt, .ref aKb, .ref aKz, .ref aKl, .ref aKc, .ref aKu, .int (iI kn)])), (aKs, .inl (kI, 61, .inl (iF ks))), (aKz, .inl (kI, 61, .inl (iF (iu kz (sc (pIN kb kz bx) (-1) (kn + 1 - 1).toNat 1) 3))))]) rfl (fun H locs hP hD hS => ?_)
    refine lv_iconst (v := iI 1) hx hb dX6_withdraw_39 rfl ?_
    have hP := hP.sub (ws' := [(g, .inr (6, [.ref aR, .ref aB, .ref aT, .ref aS, .ref aK, .ref aL, .int (iI nw), .int (iI al), .int (iI lg), .int (iI tt), .int (iI dn)])), (aS, .inr (4, [.ref aSt, .int (iI sn), .int (iI sm)])), (aSt, .inl (kI, 24, .inl (iF (iu tk (ks (sc (pIN kb kz bx) (-1) (kn + 1 - 1).toNat 1)) (tk (ks (sc (pIN kb kz bx) (-1) (kn + 1 - 1).toNat 1)) - 1))))), (aK, .inr (0, [.ref aKs, .ref aKt, .ref aKb, .ref aKz, .ref aKl, .ref aKc, .ref aKu, .int (iI kn)])), (aKs, .inl (kI, 61, .inl (iF ks))), (aKb, .inl (kI, 61, .inl (iF kb))), (aKz, .inl (kI, 61, .inl (iF (iu kz (sc (pIN kb kz bx) (-1) (kn + 1 - 1).toNat 1) 3)))), (aKl, .inl (kI, 61, .inl (iF kl))), (aL, .inl (kL, 3, .inr (.inr (.inr (.inr (g3 a0 a1 a2)))))), (a0, .inr (2, [.ref a0w, .int (iI ((rmL (sc (pIN kb kz bx) (-1) (kn + 1 - 1).toNat 1) n0 (n0 - 0).toNat 0 0 w0).2))])), (a0w, .inl (kI, 16, .inl (iF ((rmL (sc (pIN kb kz bx) (-1) (kn + 1 - 1).toNat 1) n0 (n0 - 0).toNat 0 0 w0).1))))]) [5, 6, 7, 8, 9, 0, 10, 1, 2, 3, 4] rfl
    have hD := hD.sub (ws' := [(g, .inr (6, [.ref aR, .ref aB, .ref aT, .ref aS, .ref aK, .ref aL, .int (iI nw), .int (iI al), .int (iI lg), .int (iI tt), .int (iI dn)])), (aS, .inr (4, [.ref aSt, .int (iI sn), .int (iI sm)])), (aSt, .inl (kI, 24, .inl (iF (iu tk (ks (sc (pIN kb kz bx) (-1) (kn + 1 - 1).toNat 1)) (tk (ks (sc (pIN kb kz bx) (-1) (kn + 1 - 1).toNat 1)) - 1))))), (aK, .inr (0, [.ref aKs, .ref aKt, .ref aKb, .ref aKz, .ref aKl, .ref aKc, .ref aKu, .int (iI kn)])), (aKs, .inl (kI, 61, .inl (iF ks))), (aKb, .inl (kI, 61, .inl (iF kb))), (aKz, .inl (kI, 61, .inl (iF (iu kz (sc (pIN kb kz bx) (-1) (kn + 1 - 1).toNat 1) 3)))), (aKl, .inl (kI, 61, .inl (iF kl))), (aL, .inl (kL, 3, .inr (.inr (.inr (.inr (g3 a0 a1 a2)))))), (a0, .inr (2, [.ref a0w, .int (iI ((rmL (sc (pIN kb kz bx) (-1) (kn + 1 - 1).toNat 1) n0 (n0 - 0).toNat 0 0 w0).2))])), (a0w, .inl (kI, 16, .inl (iF ((rmL (sc (pIN kb kz bx) (-1) (kn + 1 - 1).toNat 1) n0 (n0 - 0).toNat 0 0 w0).1))))]) [5, 6, 7, 8, 9, 0, 10, 1, 2, 3, 4] (by decide) rfl
    exact rk_int hx hb hr hlocks hK hP hD hS (by first | rfl | omega) rfl dX6_withdraw_40
  · skip
    exfalso; omega

set_option maxHeartbeats 4000000 in
set_option maxRecDepth 100000 in
theorem tX6_withdraw_1 (l : Launch) (D : va_G) (kI : ClassId) (kZ : ClassId) (kL : ClassId) (kJ : ClassId) (g : Nat) (aR : Nat) (aB : Nat) (aT : Nat) (aS : Nat) (aK : Nat) (aL : Nat) (aSt : Nat) (aKs : Nat) (aKt : Nat) (aKb : Nat) (aKz : Nat) (aKl : Nat) (aKc : Nat) (aKu : Nat) (a0 : Nat) (a1 : Nat) (a2 : Nat) (a1w : Nat) (tk : Int → Int) (ks : Int → Int) (kb : Int → Int) (kz : Int → Int) (kl : Int → Int) (w1 : Int → Int) (nw : Int) (al : Int) (lg : Int) (tt : Int) (dn : Int) (sn : Int) (sm : Int) (kn : Int) (n1 : Int) (bx : Int) (sz : Nat) (hbx : 0 ≤ bx ∧ bx ≤ 1000000) (hkn : 0 ≤ kn ∧ kn ≤ 60) (hkb : ∀ j, 0 ≤ kb j ∧ kb j ≤ 1000000) (hkz : ∀ j, 0 ≤ kz j ∧ kz j ≤ 1000000) (hks : ∀ j, 0 ≤ ks j ∧ ks j < 24) (hX : 1 ≤ sc (pIN kb kz bx) (-1) (kn + 1 - 1).toNat 1 ∧ sc (pIN kb kz bx) (-1) (kn + 1 - 1).toNat 1 ≤ kn) (hl9 : kl (sc (pIN kb kz bx) (-1) (kn + 1 - 1).toNat 1) = 1) (hn1 : 0 ≤ n1 ∧ n1 ≤ 16) (hw1 : ∀ j, 0 ≤ w1 j ∧ w1 j ≤ 1000000) : CtI l yX6_withdraw wsX6_withdraw ({ frames := 1, cells := 0, slots := 0, locals := 23 }) D vwCl (tyL kI kZ kL kJ) [(g, .inr (6, [.ref aR, .ref aB, .ref aT, .ref aS, .ref aK, .ref aL, .int (iI nw), .int (iI al), .int (iI lg), .int (iI tt), .int (iI dn)])), (aS, .inr (4, [.ref aSt, .int (iI sn), .int (iI sm)])), (aSt, .inl (kI, 24, .inl (iF tk))), (aK, .inr (0, [.ref aKs, .ref aKt, .ref aKb, .ref aKz, .ref aKl, .ref aKc, .ref aKu, .int (iI kn)])), (aKs, .inl (kI, 61, .inl (iF ks))), (aKb, .inl (kI, 61, .inl (iF kb))), (aKz, .inl (kI, 61, .inl (iF kz))), (aKl, .inl (kI, 61, .inl (iF kl))), (aL, .inl (kL, 3, .inr (.inr (.inr (.inr (g3 a0 a1 a2)))))), (a1, .inr (2, [.ref a1w, .int (iI n1)])), (a1w, .inl (kI, 16, .inl (iF w1)))] [.ref g, .int (iI bx)] (iI 1) [(g, .inr (6, [.ref aR, .ref aB, .ref aT, .ref aS, .ref aK, .ref aL, .int (iI nw), .int (iI al), .int (iI lg), .int (iI tt), .int (iI dn)])), (aS, .inr (4, [.ref aSt, .int (iI sn), .int (iI sm)])), (aSt, .inl (kI, 24, .inl (iF (iu tk (ks (sc (pIN kb kz bx) (-1) (kn + 1 - 1).toNat 1)) (tk (ks (sc (pIN kb kz bx) (-1) (kn + 1 - 1).toNat 1)) - 1))))), (aK, .inr (0, [.ref aKs, .ref aKt, .ref aKb, .ref aKz, .ref aKl, .ref aKc, .ref aKu, .int (iI kn)])), (aKs, .inl (kI, 61, .inl (iF ks))), (aKb, .inl (kI, 61, .inl (iF kb))), (aKz, .inl (kI, 61, .inl (iF (iu kz (sc (pIN kb kz bx) (-1) (kn + 1 - 1).toNat 1) 3)))), (aKl, .inl (kI, 61, .inl (iF kl))), (aL, .inl (kL, 3, .inr (.inr (.inr (.inr (g3 a0 a1 a2)))))), (a1, .inr (2, [.ref a1w, .int (iI ((rmL (sc (pIN kb kz bx) (-1) (kn + 1 - 1).toNat 1) n1 (n1 - 0).toNat 0 0 w1).2))])), (a1w, .inl (kI, 16, .inl (iF ((rmL (sc (pIN kb kz bx) (-1) (kn + 1 - 1).toNat 1) n1 (n1 - 0).toNat 0 0 w1).1))))] sz := by
  refine ck_start (Qc := fun A => cQi D vwCl (tyL kI kZ kL kJ) A (iI 1) [(g, .inr (6, [.ref aR, .ref aB, .ref aT, .ref aS, .ref aK, .ref aL, .int (iI nw), .int (iI al), .int (iI lg), .int (iI tt), .int (iI dn)])), (aS, .inr (4, [.ref aSt, .int (iI sn), .int (iI sm)])), (aSt, .inl (kI, 24, .inl (iF (iu tk (ks (sc (pIN kb kz bx) (-1) (kn + 1 - 1).toNat 1)) (tk (ks (sc (pIN kb kz bx) (-1) (kn + 1 - 1).toNat 1)) - 1))))), (aK, .inr (0, [.ref aKs, .ref aKt, .ref aKb, .ref aKz, .ref aKl, .ref aKc, .ref aKu, .int (iI kn)])), (aKs, .inl (kI, 61, .inl (iF ks))), (aKb, .inl (kI, 61, .inl (iF kb))), (aKz, .inl (kI, 61, .inl (iF (iu kz (sc (pIN kb kz bx) (-1) (kn + 1 - 1).toNat 1) 3)))), (aKl, .inl (kI, 61, .inl (iF kl))), (aL, .inl (kL, 3, .inr (.inr (.inr (.inr (g3 a0 a1 a2)))))), (a1, .inr (2, [.ref a1w, .int (iI ((rmL (sc (pIN kb kz bx) (-1) (kn + 1 - 1).toNat 1) n1 (n1 - 0).toNat 0 0 w1).2))])), (a1w, .inl (kI, 16, .inl (iF ((rmL (sc (pIN kb kz bx) (-1) (kn + 1 - 1).toNat 1) n1 (n1 - 0).toNat 0 0 w1).1))))]) (cc := cX6_withdraw) (maxL := 3) (ret := (some .int)) (LV := [(0, .ref g), (1, .int (iI bx))]) (by decide) rfl rfl (Nat.le_of_ble_eq_true rfl) ?_
  intro p e s m below meth cd hadm hx hb hr hml hts hown hlocks hname hnoh hxT A hA hK hP hD hS ls hl
  refine lv_aload_n hx hb dX6_withdraw_0 rfl (lv_at hl 0 rfl) ?_
  refine va_get (D := D) (ci := 6) (v := .ref aK) (C := RX6) (T := TX6) (N := 11) hx hb hts (fun w h => (List.mem_cons_of_mem _ (hinX6 w h))) hown hK hP 0 rfl rfl 4 (by decide) (hts _ (List.mem_cons_of_mem _ wd_193)) (fun _ h9 => h9) rfl dX6_withdraw_1 ?_
  refine lv_iload_n hx hb dX6_withdraw_4 rfl (lv_at hl 1 rfl) ?_
  refine pk_callI (va_runV (As := [.int (iI bx)]) (rest := []) ⟨hx, hb, hml, hown, hts⟩ (tX0_inWithBox l D kI kZ kL kJ aK aKs aKt aKb aKz aKl aKc aKu kb kz kn bx s.heap.size (by first | assumption | omega) (by first | assumption | omega) (by first | assumption | omega) (by first | assumption | omega)) (cwV 1 hts (gd_V tb_cons wd_453 wd_454 wd_455 wd_39 wd_456) rfl rfl rfl (by decide +kernel) ⟨Nat.le_of_ble_eq_true rfl, Nat.le_of_ble_eq_true rfl⟩) (ck_preV hxT hK hP hD [3, 5, 6] rfl (by decide) (q0 := 0) rfl rfl rfl) rfl rfl hl.1 rfl (lv_room (Nat.le_of_ble_eq_true rfl)) dX6_withdraw_5 ⟨Nat.zero_le _, Nat.zero_le _⟩) ?_
  refine lv_istore_n (lv' := [(2, .int (iI (sc (pIN kb kz bx) (-1) (kn + 1 - 1).toNat 1))), (0, .ref g), (1, .int (iI bx))]) hx hb dX6_withdraw_8 rfl hl (by decide) rfl (fun ls hl => ?_)
  refine lv_iload_n hx hb dX6_withdraw_9 rfl (lv_at hl 0 rfl) ?_
  refine lv_iconst (v := iI (-1)) hx hb dX6_withdraw_10 rfl ?_
  refine wk_icmp_ne (tgt := 16) hx hb dX6_withdraw_11 (by decide) (by omega) (fun c_1 => ?_) (fun c_1 => ?_)
  · skip
    refine lv_aload_n hx hb dX6_withdraw_16 rfl (lv_at hl 1 rfl) ?_
    refine va_get (D := D) (ci := 6) (v := .ref aL) (C := RX6) (T := TX6) (N := 11) hx hb hts (fun w h => (List.mem_cons_of_mem _ (hinX6 w h))) hown hK hP 0 rfl rfl 5 (by decide) (hts _ (List.mem_cons_of_mem _ wd_194)) (fun _ h9 => h9) rfl dX6_withdraw_17 ?_
    refine lv_aload_n hx hb dX6_withdraw_20 rfl (lv_at hl 1 rfl) ?_
    refine va_get (D := D) (ci := 6) (v := .ref aK) (C := RX6) (T := TX6) (N := 11) hx hb hts (fun w h => (List.mem_cons_of_mem _ (hinX6 w h))) hown hK hP 0 rfl rfl 4 (by decide) (hts _ (List.mem_cons_of_mem _ wd_193)) (fun _ h9 => h9) rfl dX6_withdraw_21 ?_
    refine va_get (D := D) (ci := 0) (v := .ref aKl) (C := RX0) (T := TX0) (N := 8) hx hb hts (fun w h => (List.mem_cons_of_mem _ (hinX0 w h))) hown hK hP 3 rfl rfl 4 (by decide) (hts _ (List.mem_cons_of_mem _ wd_150)) (fun _ h9 => h9) rfl dX6_withdraw_24 ?_
    refine lv_iload_n hx hb dX6_withdraw_27 rfl (lv_at hl 0 rfl) ?_
    refine wk_iald hx hb hK hP 7 0 rfl rfl (by decide) (by omega) dX6_withdraw_28 ?_
    refine wk_eqi (show iI (kl (sc (pIN kb kz bx) (-1) (kn + 1 - 1).toNat 1)) = iI 1 by rw [hl9]) ?_
    refine wk_aald (y := a1) hx hb hK hP 8 2 rfl rfl (by decide) (by decide) rfl dX6_withdraw_29 ?_
    refine lv_iload_n hx hb dX6_withdraw_30 rfl (lv_at hl 0 rfl) ?_
    refine ck_backV (va_runV (As := [.int (iI (sc (pIN kb kz bx) (-1) (kn + 1 - 1).toNat 1))]) (rest := []) ⟨hx, hb, hml, hown, hts⟩ (tX2_remove l D kI kZ kL kJ a1 a1w w1 n1 (sc (pIN kb kz bx) (-1) (kn + 1 - 1).toNat 1) s.heap.size (by first | assumption | omega) (by first | assumption | omega) (by first | assumption | omega)) (cwV 1 hts (gd_V tb_cons wd_457 wd_458 wd_459 wd_40 wd_460) rfl rfl rfl (by decide +kernel) ⟨Nat.le_of_ble_eq_true rfl, Nat.le_of_ble_eq_true rfl⟩) (ck_preV hxT hK hP hD [9, 10] rfl (by decide) (q0 := 0) rfl rfl rfl) rfl rfl hl.1 rfl (lv_room (Nat.le_of_ble_eq_true rfl)) dX6_withdraw_31 ⟨Nat.zero_le _, Nat.zero_le _⟩) hP hD hS hA [9, 10] [0, 1, 2, 3, 4, 5, 6, 7, 8] (WR := [(g, .inr (6, [.ref aR, .ref aB, .ref aT, .ref aS, .ref aK, .ref aL, .int (iI nw), .int (iI al), .int (iI lg), .int (iI tt), .int (iI dn)])), (aS, .inr (4, [.ref aSt, .int (iI sn), .int (iI sm)])), (aSt, .inl (kI, 24, .inl (iF tk))), (aK, .inr (0, [.ref aKs, .ref aKt, .ref aKb, .ref aKz, .ref aKl, .ref aKc, .ref aKu, .int (iI kn)])), (aKs, .inl (kI, 61, .inl (iF ks))), (aKb, .inl (kI, 61, .inl (iF kb))), (aKz, .inl (kI, 61, .inl (iF kz))), (aKl, .inl (kI, 61, .inl (iF kl))), (aL, .inl (kL, 3, .inr (.inr (.inr (.inr (g3 a0 a1 a2))))))]) rfl rfl (by decide) (by decide) (ws' := [(g, .inr (6, [.ref aR, .ref aB, .ref aT, .ref aS, .ref aK, .ref aL, .int (iI nw), .int (iI al), .int (iI lg), .int (iI tt), .int (iI dn)])), (aS, .inr (4, [.ref aSt, .int (iI sn), .int (iI sm)])), (aSt, .inl (kI, 24, .inl (iF tk))), (aK, .inr (0, [.ref aKs, .ref aKt, .ref aKb, .ref aKz, .ref aKl, .ref aKc, .ref aKu, .int (iI kn)])), (aKs, .inl (kI, 61, .inl (iF ks))), (aKb, .inl (kI, 61, .inl (iF kb))), (aKz, .inl (kI, 61, .inl (iF kz))), (aKl, .inl (kI, 61, .inl (iF kl))), (aL, .inl (kL, 3, .inr (.inr (.inr (.inr (g3 a0 a1 a2)))))), (a1, .inr (2, [.ref a1w, .int (iI ((rmL (sc (pIN kb kz bx) (-1) (kn + 1 - 1).toNat 1) n1 (n1 - 0).toNat 0 0 w1).2))])), (a1w, .inl (kI, 16, .inl (iF ((rmL (sc (pIN kb kz bx) (-1) (kn + 1 - 1).toNat 1) n1 (n1 - 0).toNat 0 0 w1).1))))]) rfl (fun H locs hP hD hS => ?_)
    refine lv_aload_n hx hb dX6_withdraw_34 rfl (lv_at hl 1 rfl) ?_
    refine lv_iload_n hx hb dX6_withdraw_35 rfl (lv_at hl 0 rfl) ?_
    refine ck_backV (va_runV (As := [.int (iI (sc (pIN kb kz bx) (-1) (kn + 1 - 1).toNat 1))]) (rest := []) ⟨hx, hb, hml, hown, hts⟩ (tX6_end l D kI kZ kL kJ g aR aB aT aS aK aL aSt aKs aKt aKb aKz aKl aKc aKu tk ks kz nw al lg tt dn sn sm kn (sc (pIN kb kz bx) (-1) (kn + 1 - 1).toNat 1) H.size (by first | assumption | omega) (by first | assumption | omega)) (cwV 1 hts (gd_V tb_cons wd_461 wd_463 wd_5 wd_33 wd_464) rfl rfl rfl (by decide +kernel) ⟨Nat.le_of_ble_eq_true rfl, Nat.le_of_ble_eq_true rfl⟩) (ck_preV hxT hK hP hD [0, 1, 2, 3, 4, 6] rfl (by decide) (q0 := 0) rfl rfl rfl) rfl rfl hl.1 rfl (lv_room (Nat.le_of_ble_eq_true rfl)) dX6_withdraw_36 ⟨Nat.zero_le _, Nat.zero_le _⟩) hP hD hS hA [0, 1, 2, 3, 4, 6] [5, 7, 8, 9, 10] (WR := [(aKb, .inl (kI, 61, .inl (iF kb))), (aKl, .inl (kI, 61, .inl (iF kl))), (aL, .inl (kL, 3, .inr (.inr (.inr (.inr (g3 a0 a1 a2)))))), (a1, .inr (2, [.ref a1w, .int (iI ((rmL (sc (pIN kb kz bx) (-1) (kn + 1 - 1).toNat 1) n1 (n1 - 0).toNat 0 0 w1).2))])), (a1w, .inl (kI, 16, .inl (iF ((rmL (sc (pIN kb kz bx) (-1) (kn + 1 - 1).toNat 1) n1 (n1 - 0).toNat 0 0 w1).1))))]) rfl rfl (by decide) (by decide) (ws' := [(aKb, .inl (kI, 61, .inl (iF kb))), (aKl, .inl (kI, 61, .inl (iF kl))), (aL, .inl (kL, 3, .inr (.inr (.inr (.inr (g3 a0 a1 a2)))))), (a1, .inr (2, [.ref a1w, .int (iI ((rmL (sc (pIN kb kz bx) (-1) (kn + 1 - 1).toNat 1) n1 (n1 - 0).toNat 0 0 w1).2))])), (a1w, .inl (kI, 16, .inl (iF ((rmL (sc (pIN kb kz bx) (-1) (kn + 1 - 1).toNat 1) n1 (n1 - 0).toNat 0 0 w1).1)))), (g, .inr (6, [.ref aR, .ref aB, .ref aT, .ref aS, .ref aK, .ref aL, .int (iI nw), .int (iI al), .int (iI lg), .int (iI tt), .int (iI dn)])), (aS, .inr (4, [.ref aSt, .int (iI sn), .int (iI sm)])), (aSt, .inl (kI, 24, .inl (iF (iu tk (ks (sc (pIN kb kz bx) (-1) (kn + 1 - 1).toNat 1)) (tk (ks (sc (pIN kb kz bx) (-1) (kn + 1 - 1).toNat 1)) - 1))))), (aK, .inr (0, [.ref aKs, .ref aKt, .ref aKb, .ref aKz, .ref aKl, .ref aKc, .ref aKu, .int (iI kn)])), (aKs, .inl (kI, 61, .inl (iF ks))), (aKz, .inl (kI, 61, .inl (iF (iu kz (sc (pIN kb kz bx) (-1) (kn + 1 - 1).toNat 1) 3))))]) rfl (fun H locs hP hD hS => ?_)
    refine lv_iconst (v := iI 1) hx hb dX6_withdraw_39 rfl ?_
    have hP := hP.sub (ws' := [(g, .inr (6, [.ref aR, .ref aB, .ref aT, .ref aS, .ref aK, .ref aL, .int (iI nw), .int (iI al), .int (iI lg), .int (iI tt), .int (iI dn)])), (aS, .inr (4, [.ref aSt, .int (iI sn), .int (iI sm)])), (aSt, .inl (kI, 24, .inl (iF (iu tk (ks (sc (pIN kb kz bx) (-1) (kn + 1 - 1).toNat 1)) (tk (ks (sc (pIN kb kz bx) (-1) (kn + 1 - 1).toNat 1)) - 1))))), (aK, .inr (0, [.ref aKs, .ref aKt, .ref aKb, .ref aKz, .ref aKl, .ref aKc, .ref aKu, .int (iI kn)])), (aKs, .inl (kI, 61, .inl (iF ks))), (aKb, .inl (kI, 61, .inl (iF kb))), (aKz, .inl (kI, 61, .inl (iF (iu kz (sc (pIN kb kz bx) (-1) (kn + 1 - 1).toNat 1) 3)))), (aKl, .inl (kI, 61, .inl (iF kl))), (aL, .inl (kL, 3, .inr (.inr (.inr (.inr (g3 a0 a1 a2)))))), (a1, .inr (2, [.ref a1w, .int (iI ((rmL (sc (pIN kb kz bx) (-1) (kn + 1 - 1).toNat 1) n1 (n1 - 0).toNat 0 0 w1).2))])), (a1w, .inl (kI, 16, .inl (iF ((rmL (sc (pIN kb kz bx) (-1) (kn + 1 - 1).toNat 1) n1 (n1 - 0).toNat 0 0 w1).1))))]) [5, 6, 7, 8, 9, 0, 10, 1, 2, 3, 4] rfl
    have hD := hD.sub (ws' := [(g, .inr (6, [.ref aR, .ref aB, .ref aT, .ref aS, .ref aK, .ref aL, .int (iI nw), .int (iI al), .int (iI lg), .int (iI tt), .int (iI dn)])), (aS, .inr (4, [.ref aSt, .int (iI sn), .int (iI sm)])), (aSt, .inl (kI, 24, .inl (iF (iu tk (ks (sc (pIN kb kz bx) (-1) (kn + 1 - 1).toNat 1)) (tk (ks (sc (pIN kb kz bx) (-1) (kn + 1 - 1).toNat 1)) - 1))))), (aK, .inr (0, [.ref aKs, .ref aKt, .ref aKb, .ref aKz, .ref aKl, .ref aKc, .ref aKu, .int (iI kn)])), (aKs, .inl (kI, 61, .inl (iF ks))), (aKb, .inl (kI, 61, .inl (iF kb))), (aKz, .inl (kI, 61, .inl (iF (iu kz (sc (pIN kb kz bx) (-1) (kn + 1 - 1).toNat 1) 3)))), (aKl, .inl (kI, 61, .inl (iF kl))), (aL, .inl (kL, 3, .inr (.inr (.inr (.inr (g3 a0 a1 a2)))))), (a1, .inr (2, [.ref a1w, .int (iI ((rmL (sc (pIN kb kz bx) (-1) (kn + 1 - 1).toNat 1) n1 (n1 - 0).toNat 0 0 w1).2))])), (a1w, .inl (kI, 16, .inl (iF ((rmL (sc (pIN kb kz bx) (-1) (kn + 1 - 1).toNat 1) n1 (n1 - 0).toNat 0 0 w1).1))))]) [5, 6, 7, 8, 9, 0, 10, 1, 2, 3, 4] (by decide) rfl
    exact rk_int hx hb hr hlocks hK hP hD hS (by first | rfl | omega) rfl dX6_withdraw_40
  · skip
    exfalso; omega

set_option maxHeartbeats 4000000 in
set_option maxRecDepth 100000 in
theorem tX6_withdraw_2 (l : Launch) (D : va_G) (kI : ClassId) (kZ : ClassId) (kL : ClassId) (kJ : ClassId) (g : Nat) (aR : Nat) (aB : Nat) (aT : Nat) (aS : Nat) (aK : Nat) (aL : Nat) (aSt : Nat) (aKs : Nat) (aKt : Nat) (aKb : Nat) (aKz : Nat) (aKl : Nat) (aKc : Nat) (aKu : Nat) (a0 : Nat) (a1 : Nat) (a2 : Nat) (a2w : Nat) (tk : Int → Int) (ks : Int → Int) (kb : Int → Int) (kz : Int → Int) (kl : Int → Int) (w2 : Int → Int) (nw : Int) (al : Int) (lg : Int) (tt : Int) (dn : Int) (sn : Int) (sm : Int) (kn : Int) (n2 : Int) (bx : Int) (sz : Nat) (hbx : 0 ≤ bx ∧ bx ≤ 1000000) (hkn : 0 ≤ kn ∧ kn ≤ 60) (hkb : ∀ j, 0 ≤ kb j ∧ kb j ≤ 1000000) (hkz : ∀ j, 0 ≤ kz j ∧ kz j ≤ 1000000) (hks : ∀ j, 0 ≤ ks j ∧ ks j < 24) (hX : 1 ≤ sc (pIN kb kz bx) (-1) (kn + 1 - 1).toNat 1 ∧ sc (pIN kb kz bx) (-1) (kn + 1 - 1).toNat 1 ≤ kn) (hl9 : kl (sc (pIN kb kz bx) (-1) (kn + 1 - 1).toNat 1) = 2) (hn2 : 0 ≤ n2 ∧ n2 ≤ 16) (hw2 : ∀ j, 0 ≤ w2 j ∧ w2 j ≤ 1000000) : CtI l yX6_withdraw wsX6_withdraw ({ frames := 1, cells := 0, slots := 0, locals := 23 }) D vwCl (tyL kI kZ kL kJ) [(g, .inr (6, [.ref aR, .ref aB, .ref aT, .ref aS, .ref aK, .ref aL, .int (iI nw), .int (iI al), .int (iI lg), .int (iI tt), .int (iI dn)])), (aS, .inr (4, [.ref aSt, .int (iI sn), .int (iI sm)])), (aSt, .inl (kI, 24, .inl (iF tk))), (aK, .inr (0, [.ref aKs, .ref aKt, .ref aKb, .ref aKz, .ref aKl, .ref aKc, .ref aKu, .int (iI kn)])), (aKs, .inl (kI, 61, .inl (iF ks))), (aKb, .inl (kI, 61, .inl (iF kb))), (aKz, .inl (kI, 61, .inl (iF kz))), (aKl, .inl (kI, 61, .inl (iF kl))), (aL, .inl (kL, 3, .inr (.inr (.inr (.inr (g3 a0 a1 a2)))))), (a2, .inr (2, [.ref a2w, .int (iI n2)])), (a2w, .inl (kI, 16, .inl (iF w2)))] [.ref g, .int (iI bx)] (iI 1) [(g, .inr (6, [.ref aR, .ref aB, .ref aT, .ref aS, .ref aK, .ref aL, .int (iI nw), .int (iI al), .int (iI lg), .int (iI tt), .int (iI dn)])), (aS, .inr (4, [.ref aSt, .int (iI sn), .int (iI sm)])), (aSt, .inl (kI, 24, .inl (iF (iu tk (ks (sc (pIN kb kz bx) (-1) (kn + 1 - 1).toNat 1)) (tk (ks (sc (pIN kb kz bx) (-1) (kn + 1 - 1).toNat 1)) - 1))))), (aK, .inr (0, [.ref aKs, .ref aKt, .ref aKb, .ref aKz, .ref aKl, .ref aKc, .ref aKu, .int (iI kn)])), (aKs, .inl (kI, 61, .inl (iF ks))), (aKb, .inl (kI, 61, .inl (iF kb))), (aKz, .inl (kI, 61, .inl (iF (iu kz (sc (pIN kb kz bx) (-1) (kn + 1 - 1).toNat 1) 3)))), (aKl, .inl (kI, 61, .inl (iF kl))), (aL, .inl (kL, 3, .inr (.inr (.inr (.inr (g3 a0 a1 a2)))))), (a2, .inr (2, [.ref a2w, .int (iI ((rmL (sc (pIN kb kz bx) (-1) (kn + 1 - 1).toNat 1) n2 (n2 - 0).toNat 0 0 w2).2))])), (a2w, .inl (kI, 16, .inl (iF ((rmL (sc (pIN kb kz bx) (-1) (kn + 1 - 1).toNat 1) n2 (n2 - 0).toNat 0 0 w2).1))))] sz := by
  refine ck_start (Qc := fun A => cQi D vwCl (tyL kI kZ kL kJ) A (iI 1) [(g, .inr (6, [.ref aR, .ref aB, .ref aT, .ref aS, .ref aK, .ref aL, .int (iI nw), .int (iI al), .int (iI lg), .int (iI tt), .int (iI dn)])), (aS, .inr (4, [.ref aSt, .int (iI sn), .int (iI sm)])), (aSt, .inl (kI, 24, .inl (iF (iu tk (ks (sc (pIN kb kz bx) (-1) (kn + 1 - 1).toNat 1)) (tk (ks (sc (pIN kb kz bx) (-1) (kn + 1 - 1).toNat 1)) - 1))))), (aK, .inr (0, [.ref aKs, .ref aKt, .ref aKb, .ref aKz, .ref aKl, .ref aKc, .ref aKu, .int (iI kn)])), (aKs, .inl (kI, 61, .inl (iF ks))), (aKb, .inl (kI, 61, .inl (iF kb))), (aKz, .inl (kI, 61, .inl (iF (iu kz (sc (pIN kb kz bx) (-1) (kn + 1 - 1).toNat 1) 3)))), (aKl, .inl (kI, 61, .inl (iF kl))), (aL, .inl (kL, 3, .inr (.inr (.inr (.inr (g3 a0 a1 a2)))))), (a2, .inr (2, [.ref a2w, .int (iI ((rmL (sc (pIN kb kz bx) (-1) (kn + 1 - 1).toNat 1) n2 (n2 - 0).toNat 0 0 w2).2))])), (a2w, .inl (kI, 16, .inl (iF ((rmL (sc (pIN kb kz bx) (-1) (kn + 1 - 1).toNat 1) n2 (n2 - 0).toNat 0 0 w2).1))))]) (cc := cX6_withdraw) (maxL := 3) (ret := (some .int)) (LV := [(0, .ref g), (1, .int (iI bx))]) (by decide) rfl rfl (Nat.le_of_ble_eq_true rfl) ?_
  intro p e s m below meth cd hadm hx hb hr hml hts hown hlocks hname hnoh hxT A hA hK hP hD hS ls hl
  refine lv_aload_n hx hb dX6_withdraw_0 rfl (lv_at hl 0 rfl) ?_
  refine va_get (D := D) (ci := 6) (v := .ref aK) (C := RX6) (T := TX6) (N := 11) hx hb hts (fun w h => (List.mem_cons_of_mem _ (hinX6 w h))) hown hK hP 0 rfl rfl 4 (by decide) (hts _ (List.mem_cons_of_mem _ wd_193)) (fun _ h9 => h9) rfl dX6_withdraw_1 ?_
  refine lv_iload_n hx hb dX6_withdraw_4 rfl (lv_at hl 1 rfl) ?_
  refine pk_callI (va_runV (As := [.int (iI bx)]) (rest := []) ⟨hx, hb, hml, hown, hts⟩ (tX0_inWithBox l D kI kZ kL kJ aK aKs aKt aKb aKz aKl aKc aKu kb kz kn bx s.heap.size (by first | assumption | omega) (by first | assumption | omega) (by first | assumption | omega) (by first | assumption | omega)) (cwV 1 hts (gd_V tb_cons wd_453 wd_454 wd_455 wd_39 wd_456) rfl rfl rfl (by decide +kernel) ⟨Nat.le_of_ble_eq_true rfl, Nat.le_of_ble_eq_true rfl⟩) (ck_preV hxT hK hP hD [3, 5, 6] rfl (by decide) (q0 := 0) rfl rfl rfl) rfl rfl hl.1 rfl (lv_room (Nat.le_of_ble_eq_true rfl)) dX6_withdraw_5 ⟨Nat.zero_le _, Nat.zero_le _⟩) ?_
  refine lv_istore_n (lv' := [(2, .int (iI (sc (pIN kb kz bx) (-1) (kn + 1 - 1).toNat 1))), (0, .ref g), (1, .int (iI bx))]) hx hb dX6_withdraw_8 rfl hl (by decide) rfl (fun ls hl => ?_)
  refine lv_iload_n hx hb dX6_withdraw_9 rfl (lv_at hl 0 rfl) ?_
  refine lv_iconst (v := iI (-1)) hx hb dX6_withdraw_10 rfl ?_
  refine wk_icmp_ne (tgt := 16) hx hb dX6_withdraw_11 (by decide) (by omega) (fun c_1 => ?_) (fun c_1 => ?_)
  · skip
    refine lv_aload_n hx hb dX6_withdraw_16 rfl (lv_at hl 1 rfl) ?_
    refine va_get (D := D) (ci := 6) (v := .ref aL) (C := RX6) (T := TX6) (N := 11) hx hb hts (fun w h => (List.mem_cons_of_mem _ (hinX6 w h))) hown hK hP 0 rfl rfl 5 (by decide) (hts _ (List.mem_cons_of_mem _ wd_194)) (fun _ h9 => h9) rfl dX6_withdraw_17 ?_
    refine lv_aload_n hx hb dX6_withdraw_20 rfl (lv_at hl 1 rfl) ?_
    refine va_get (D := D) (ci := 6) (v := .ref aK) (C := RX6) (T := TX6) (N := 11) hx hb hts (fun w h => (List.mem_cons_of_mem _ (hinX6 w h))) hown hK hP 0 rfl rfl 4 (by decide) (hts _ (List.mem_cons_of_mem _ wd_193)) (fun _ h9 => h9) rfl dX6_withdraw_21 ?_
    refine va_get (D := D) (ci := 0) (v := .ref aKl) (C := RX0) (T := TX0) (N := 8) hx hb hts (fun w h => (List.mem_cons_of_mem _ (hinX0 w h))) hown hK hP 3 rfl rfl 4 (by decide) (hts _ (List.mem_cons_of_mem _ wd_150)) (fun _ h9 => h9) rfl dX6_withdraw_24 ?_
    refine lv_iload_n hx hb dX6_withdraw_27 rfl (lv_at hl 0 rfl) ?_
    refine wk_iald hx hb hK hP 7 0 rfl rfl (by decide) (by omega) dX6_withdraw_28 ?_
    refine wk_eqi (show iI (kl (sc (pIN kb kz bx) (-1) (kn + 1 - 1).toNat 1)) = iI 2 by rw [hl9]) ?_
    refine wk_aald (y := a2) hx hb hK hP 8 2 rfl rfl (by decide) (by decide) rfl dX6_withdraw_29 ?_
    refine lv_iload_n hx hb dX6_withdraw_30 rfl (lv_at hl 0 rfl) ?_
    refine ck_backV (va_runV (As := [.int (iI (sc (pIN kb kz bx) (-1) (kn + 1 - 1).toNat 1))]) (rest := []) ⟨hx, hb, hml, hown, hts⟩ (tX2_remove l D kI kZ kL kJ a2 a2w w2 n2 (sc (pIN kb kz bx) (-1) (kn + 1 - 1).toNat 1) s.heap.size (by first | assumption | omega) (by first | assumption | omega) (by first | assumption | omega)) (cwV 1 hts (gd_V tb_cons wd_457 wd_458 wd_459 wd_40 wd_460) rfl rfl rfl (by decide +kernel) ⟨Nat.le_of_ble_eq_true rfl, Nat.le_of_ble_eq_true rfl⟩) (ck_preV hxT hK hP hD [9, 10] rfl (by decide) (q0 := 0) rfl rfl rfl) rfl rfl hl.1 rfl (lv_room (Nat.le_of_ble_eq_true rfl)) dX6_withdraw_31 ⟨Nat.zero_le _, Nat.zero_le _⟩) hP hD hS hA [9, 10] [0, 1, 2, 3, 4, 5, 6, 7, 8] (WR := [(g, .inr (6, [.ref aR, .ref aB, .ref aT, .ref aS, .ref aK, .ref aL, .int (iI nw), .int (iI al), .int (iI lg), .int (iI tt), .int (iI dn)])), (aS, .inr (4, [.ref aSt, .int (iI sn), .int (iI sm)])), (aSt, .inl (kI, 24, .inl (iF tk))), (aK, .inr (0, [.ref aKs, .ref aKt, .ref aKb, .ref aKz, .ref aKl, .ref aKc, .ref aKu, .int (iI kn)])), (aKs, .inl (kI, 61, .inl (iF ks))), (aKb, .inl (kI, 61, .inl (iF kb))), (aKz, .inl (kI, 61, .inl (iF kz))), (aKl, .inl (kI, 61, .inl (iF kl))), (aL, .inl (kL, 3, .inr (.inr (.inr (.inr (g3 a0 a1 a2))))))]) rfl rfl (by decide) (by decide) (ws' := [(g, .inr (6, [.ref aR, .ref aB, .ref aT, .ref aS, .ref aK, .ref aL, .int (iI nw), .int (iI al), .int (iI lg), .int (iI tt), .int (iI dn)])), (aS, .inr (4, [.ref aSt, .int (iI sn), .int (iI sm)])), (aSt, .inl (kI, 24, .inl (iF tk))), (aK, .inr (0, [.ref aKs, .ref aKt, .ref aKb, .ref aKz, .ref aKl, .ref aKc, .ref aKu, .int (iI kn)])), (aKs, .inl (kI, 61, .inl (iF ks))), (aKb, .inl (kI, 61, .inl (iF kb))), (aKz, .inl (kI, 61, .inl (iF kz))), (aKl, .inl (kI, 61, .inl (iF kl))), (aL, .inl (kL, 3, .inr (.inr (.inr (.inr (g3 a0 a1 a2)))))), (a2, .inr (2, [.ref a2w, .int (iI ((rmL (sc (pIN kb kz bx) (-1) (kn + 1 - 1).toNat 1) n2 (n2 - 0).toNat 0 0 w2).2))])), (a2w, .inl (kI, 16, .inl (iF ((rmL (sc (pIN kb kz bx) (-1) (kn + 1 - 1).toNat 1) n2 (n2 - 0).toNat 0 0 w2).1))))]) rfl (fun H locs hP hD hS => ?_)
    refine lv_aload_n hx hb dX6_withdraw_34 rfl (lv_at hl 1 rfl) ?_
    refine lv_iload_n hx hb dX6_withdraw_35 rfl (lv_at hl 0 rfl) ?_
    refine ck_backV (va_runV (As := [.int (iI (sc (pIN kb kz bx) (-1) (kn + 1 - 1).toNat 1))]) (rest := []) ⟨hx, hb, hml, hown, hts⟩ (tX6_end l D kI kZ kL kJ g aR aB aT aS aK aL aSt aKs aKt aKb aKz aKl aKc aKu tk ks kz nw al lg tt dn sn sm kn (sc (pIN kb kz bx) (-1) (kn + 1 - 1).toNat 1) H.size (by first | assumption | omega) (by first | assumption | omega)) (cwV 1 hts (gd_V tb_cons wd_461 wd_463 wd_5 wd_33 wd_464) rfl rfl rfl (by decide +kernel) ⟨Nat.le_of_ble_eq_true rfl, Nat.le_of_ble_eq_true rfl⟩) (ck_preV hxT hK hP hD [0, 1, 2, 3, 4, 6] rfl (by decide) (q0 := 0) rfl rfl rfl) rfl rfl hl.1 rfl (lv_room (Nat.le_of_ble_eq_true rfl)) dX6_withdraw_36 ⟨Nat.zero_le _, Nat.zero_le _⟩) hP hD hS hA [0, 1, 2, 3, 4, 6] [5, 7, 8, 9, 10] (WR := [(aKb, .inl (kI, 61, .inl (iF kb))), (aKl, .inl (kI, 61, .inl (iF kl))), (aL, .inl (kL, 3, .inr (.inr (.inr (.inr (g3 a0 a1 a2)))))), (a2, .inr (2, [.ref a2w, .int (iI ((rmL (sc (pIN kb kz bx) (-1) (kn + 1 - 1).toNat 1) n2 (n2 - 0).toNat 0 0 w2).2))])), (a2w, .inl (kI, 16, .inl (iF ((rmL (sc (pIN kb kz bx) (-1) (kn + 1 - 1).toNat 1) n2 (n2 - 0).toNat 0 0 w2).1))))]) rfl rfl (by decide) (by decide) (ws' := [(aKb, .inl (kI, 61, .inl (iF kb))), (aKl, .inl (kI, 61, .inl (iF kl))), (aL, .inl (kL, 3, .inr (.inr (.inr (.inr (g3 a0 a1 a2)))))), (a2, .inr (2, [.ref a2w, .int (iI ((rmL (sc (pIN kb kz bx) (-1) (kn + 1 - 1).toNat 1) n2 (n2 - 0).toNat 0 0 w2).2))])), (a2w, .inl (kI, 16, .inl (iF ((rmL (sc (pIN kb kz bx) (-1) (kn + 1 - 1).toNat 1) n2 (n2 - 0).toNat 0 0 w2).1)))), (g, .inr (6, [.ref aR, .ref aB, .ref aT, .ref aS, .ref aK, .ref aL, .int (iI nw), .int (iI al), .int (iI lg), .int (iI tt), .int (iI dn)])), (aS, .inr (4, [.ref aSt, .int (iI sn), .int (iI sm)])), (aSt, .inl (kI, 24, .inl (iF (iu tk (ks (sc (pIN kb kz bx) (-1) (kn + 1 - 1).toNat 1)) (tk (ks (sc (pIN kb kz bx) (-1) (kn + 1 - 1).toNat 1)) - 1))))), (aK, .inr (0, [.ref aKs, .ref aKt, .ref aKb, .ref aKz, .ref aKl, .ref aKc, .ref aKu, .int (iI kn)])), (aKs, .inl (kI, 61, .inl (iF ks))), (aKz, .inl (kI, 61, .inl (iF (iu kz (sc (pIN kb kz bx) (-1) (kn + 1 - 1).toNat 1) 3))))]) rfl (fun H locs hP hD hS => ?_)
    refine lv_iconst (v := iI 1) hx hb dX6_withdraw_39 rfl ?_
    have hP := hP.sub (ws' := [(g, .inr (6, [.ref aR, .ref aB, .ref aT, .ref aS, .ref aK, .ref aL, .int (iI nw), .int (iI al), .int (iI lg), .int (iI tt), .int (iI dn)])), (aS, .inr (4, [.ref aSt, .int (iI sn), .int (iI sm)])), (aSt, .inl (kI, 24, .inl (iF (iu tk (ks (sc (pIN kb kz bx) (-1) (kn + 1 - 1).toNat 1)) (tk (ks (sc (pIN kb kz bx) (-1) (kn + 1 - 1).toNat 1)) - 1))))), (aK, .inr (0, [.ref aKs, .ref aKt, .ref aKb, .ref aKz, .ref aKl, .ref aKc, .ref aKu, .int (iI kn)])), (aKs, .inl (kI, 61, .inl (iF ks))), (aKb, .inl (kI, 61, .inl (iF kb))), (aKz, .inl (kI, 61, .inl (iF (iu kz (sc (pIN kb kz bx) (-1) (kn + 1 - 1).toNat 1) 3)))), (aKl, .inl (kI, 61, .inl (iF kl))), (aL, .inl (kL, 3, .inr (.inr (.inr (.inr (g3 a0 a1 a2)))))), (a2, .inr (2, [.ref a2w, .int (iI ((rmL (sc (pIN kb kz bx) (-1) (kn + 1 - 1).toNat 1) n2 (n2 - 0).toNat 0 0 w2).2))])), (a2w, .inl (kI, 16, .inl (iF ((rmL (sc (pIN kb kz bx) (-1) (kn + 1 - 1).toNat 1) n2 (n2 - 0).toNat 0 0 w2).1))))]) [5, 6, 7, 8, 9, 0, 10, 1, 2, 3, 4] rfl
    have hD := hD.sub (ws' := [(g, .inr (6, [.ref aR, .ref aB, .ref aT, .ref aS, .ref aK, .ref aL, .int (iI nw), .int (iI al), .int (iI lg), .int (iI tt), .int (iI dn)])), (aS, .inr (4, [.ref aSt, .int (iI sn), .int (iI sm)])), (aSt, .inl (kI, 24, .inl (iF (iu tk (ks (sc (pIN kb kz bx) (-1) (kn + 1 - 1).toNat 1)) (tk (ks (sc (pIN kb kz bx) (-1) (kn + 1 - 1).toNat 1)) - 1))))), (aK, .inr (0, [.ref aKs, .ref aKt, .ref aKb, .ref aKz, .ref aKl, .ref aKc, .ref aKu, .int (iI kn)])), (aKs, .inl (kI, 61, .inl (iF ks))), (aKb, .inl (kI, 61, .inl (iF kb))), (aKz, .inl (kI, 61, .inl (iF (iu kz (sc (pIN kb kz bx) (-1) (kn + 1 - 1).toNat 1) 3)))), (aKl, .inl (kI, 61, .inl (iF kl))), (aL, .inl (kL, 3, .inr (.inr (.inr (.inr (g3 a0 a1 a2)))))), (a2, .inr (2, [.ref a2w, .int (iI ((rmL (sc (pIN kb kz bx) (-1) (kn + 1 - 1).toNat 1) n2 (n2 - 0).toNat 0 0 w2).2))])), (a2w, .inl (kI, 16, .inl (iF ((rmL (sc (pIN kb kz bx) (-1) (kn + 1 - 1).toNat 1) n2 (n2 - 0).toNat 0 0 w2).1))))]) [5, 6, 7, 8, 9, 0, 10, 1, 2, 3, 4] (by decide) rfl
    exact rk_int hx hb hr hlocks hK hP hD hS (by first | rfl | omega) rfl dX6_withdraw_40
  · skip
    exfalso; omega

set_option maxHeartbeats 4000000 in
set_option maxRecDepth 100000 in
theorem tX6_sign (l : Launch) (D : va_G) (kI : ClassId) (kZ : ClassId) (kL : ClassId) (kJ : ClassId) (g : Nat) (aR : Nat) (aB : Nat) (aT : Nat) (aS : Nat) (aK : Nat) (aL : Nat) (aRs : Nat) (rs : Int → Int) (nw : Int) (al : Int) (lg : Int) (tt : Int) (dn : Int) (rn : Int) (ch : Int) (sz : Nat) (hch : -2147483648 ≤ ch ∧ ch ≤ 2147483647) (hrn : 0 ≤ rn ∧ rn ≤ 11) (h1 : rn < 11) (h2 : ((4 ≤ rn ∧ rn < 10 ∧ 48 ≤ ch ∧ ch ≤ 57) ∨ (¬ (4 ≤ rn ∧ rn < 10) ∧ 65 ≤ ch ∧ ch ≤ 90))) : CtI l yX6_sign wsX6_sign ({ frames := 2, cells := 0, slots := 0, locals := 42 }) D vwCl (tyL kI kZ kL kJ) [(g, .inr (6, [.ref aR, .ref aB, .ref aT, .ref aS, .ref aK, .ref aL, .int (iI nw), .int (iI al), .int (iI lg), .int (iI tt), .int (iI dn)])), (aR, .inr (3, [.ref aRs, .int (iI rn)])), (aRs, .inl (kI, 11, .inl (iF rs)))] [.ref g, .int (iI ch)] (iI (rn + 1)) [(g, .inr (6, [.ref aR, .ref aB, .ref aT, .ref aS, .ref aK, .ref aL, .int (iI nw), .int (iI al), .int (iI lg), .int (iI tt), .int (iI dn)])), (aR, .inr (3, [.ref aRs, .int (iI (rn + 1))])), (aRs, .inl (kI, 11, .inl (iF (iu rs rn ch))))] sz := by
  refine ck_start (Qc := fun A => cQi D vwCl (tyL kI kZ kL kJ) A (iI (rn + 1)) [(g, .inr (6, [.ref aR, .ref aB, .ref aT, .ref aS, .ref aK, .ref aL, .int (iI nw), .int (iI al), .int (iI lg), .int (iI tt), .int (iI dn)])), (aR, .inr (3, [.ref aRs, .int (iI (rn + 1))])), (aRs, .inl (kI, 11, .inl (iF (iu rs rn ch))))]) (cc := cX6_sign) (maxL := 2) (ret := (some .int)) (LV := [(0, .ref g), (1, .int (iI ch))]) (by decide) rfl rfl (Nat.le_of_ble_eq_true rfl) ?_
  intro p e s m below meth cd hadm hx hb hr hml hts hown hlocks hname hnoh hxT A hA hK hP hD hS ls hl
  refine lv_iload_n hx hb dX6_sign_0 rfl (lv_at hl 1 rfl) ?_
  refine pk_callI (va_runS (As := [.int (iI ch)]) (rest := []) ⟨hx, hb, hml, hown, hts⟩ (tX6_isLetter l D kI kZ kL kJ ch s.heap.size (by first | assumption | omega)) (cwS 1 hts (gd_S tb_cons wd_276 wd_239 wd_33 wd_240) rfl rfl rfl (by decide +kernel) ⟨Nat.le_of_ble_eq_true rfl, Nat.le_of_ble_eq_true rfl⟩) (ck_preS hxT hK hP hD [] rfl (by decide)) rfl rfl hl.1 rfl (lv_room (Nat.le_of_ble_eq_true rfl)) dX6_sign_1 ⟨Nat.zero_le _, Nat.zero_le _⟩) ?_
  refine wk_bif_ne (tgt := 24) hx hb dX6_sign_4 (by decide) (fun c_1 => ?_) (fun c_1 => ?_)
  · skip
    refine lv_aload_n hx hb dX6_sign_24 rfl (lv_at hl 0 rfl) ?_
    refine va_get (D := D) (ci := 6) (v := .ref aR) (C := RX6) (T := TX6) (N := 11) hx hb hts (fun w h => (List.mem_cons_of_mem _ (hinX6 w h))) hown hK hP 0 rfl rfl 0 (by decide) (hts _ (List.mem_cons_of_mem _ wd_189)) (fun _ h9 => h9) rfl dX6_sign_25 ?_
    refine va_get (D := D) (ci := 3) (v := .int (iI rn)) (C := RX3) (T := TX3) (N := 2) hx hb hts (fun w h => (List.mem_cons_of_mem _ (hinX3 w h))) hown hK hP 1 rfl rfl 1 (by decide) (hts _ (List.mem_cons_of_mem _ wd_65)) (fun _ h9 => h9) rfl dX6_sign_28 ?_
    refine lv_bipush (v := iI 11) hx hb dX6_sign_31 (by decide) ?_
    refine wk_icmp_lt (tgt := 46) hx hb dX6_sign_33 (by decide) (by omega) (fun c_2 => ?_) (fun c_2 => ?_)
    · skip
      refine lv_aload_n hx hb dX6_sign_46 rfl (lv_at hl 0 rfl) ?_
      refine va_get (D := D) (ci := 6) (v := .ref aR) (C := RX6) (T := TX6) (N := 11) hx hb hts (fun w h => (List.mem_cons_of_mem _ (hinX6 w h))) hown hK hP 0 rfl rfl 0 (by decide) (hts _ (List.mem_cons_of_mem _ wd_189)) (fun _ h9 => h9) rfl dX6_sign_47 ?_
      refine lv_iload_n hx hb dX6_sign_50 rfl (lv_at hl 1 rfl) ?_
      refine pk_callI (va_runV (As := [.int (iI ch)]) (rest := []) ⟨hx, hb, hml, hown, hts⟩ (tX3_fits l D kI kZ kL kJ aR aRs rn ch s.heap.size (by first | assumption | omega) (by first | assumption | omega)) (cwV 1 hts (gd_V tb_cons wd_364 wd_365 wd_366 wd_34 wd_367) rfl rfl rfl (by decide +kernel) ⟨Nat.le_of_ble_eq_true rfl, Nat.le_of_ble_eq_true rfl⟩) (ck_preV hxT hK hP hD [1] rfl (by decide) (q0 := 0) rfl rfl rfl) rfl rfl hl.1 rfl (lv_room (Nat.le_of_ble_eq_true rfl)) dX6_sign_51 ⟨Nat.zero_le _, Nat.zero_le _⟩) ?_
      refine wk_bif_ne (tgt := 67) hx hb dX6_sign_54 (by decide) (fun c_3 => ?_) (fun c_3 => ?_)
      · skip
        refine lv_aload_n hx hb dX6_sign_67 rfl (lv_at hl 0 rfl) ?_
        refine va_get (D := D) (ci := 6) (v := .ref aR) (C := RX6) (T := TX6) (N := 11) hx hb hts (fun w h => (List.mem_cons_of_mem _ (hinX6 w h))) hown hK hP 0 rfl rfl 0 (by decide) (hts _ (List.mem_cons_of_mem _ wd_189)) (fun _ h9 => h9) rfl dX6_sign_68 ?_
        refine lv_iload_n hx hb dX6_sign_71 rfl (lv_at hl 1 rfl) ?_
        refine ck_backV (va_runV (As := [.int (iI ch)]) (rest := []) ⟨hx, hb, hml, hown, hts⟩ (tX3_add l D kI kZ kL kJ aR aRs rs rn ch s.heap.size (by first | assumption | omega)) (cwV 1 hts (gd_V tb_cons wd_370 wd_371 wd_372 wd_34 wd_373) rfl rfl rfl (by decide +kernel) ⟨Nat.le_of_ble_eq_true rfl, Nat.le_of_ble_eq_true rfl⟩) (ck_preV hxT hK hP hD [1, 2] rfl (by decide) (q0 := 0) rfl rfl rfl) rfl rfl hl.1 rfl (lv_room (Nat.le_of_ble_eq_true rfl)) dX6_sign_72 ⟨Nat.zero_le _, Nat.zero_le _⟩) hP hD hS hA [1, 2] [0] (WR := [(g, .inr (6, [.ref aR, .ref aB, .ref aT, .ref aS, .ref aK, .ref aL, .int (iI nw), .int (iI al), .int (iI lg), .int (iI tt), .int (iI dn)]))]) rfl rfl (by decide) (by decide) (ws' := [(g, .inr (6, [.ref aR, .ref aB, .ref aT, .ref aS, .ref aK, .ref aL, .int (iI nw), .int (iI al), .int (iI lg), .int (iI tt), .int (iI dn)])), (aR, .inr (3, [.ref aRs, .int (iI (rn + 1))])), (aRs, .inl (kI, 11, .inl (iF (iu rs rn ch))))]) rfl (fun H locs hP hD hS => ?_)
        refine lv_aload_n hx hb dX6_sign_75 rfl (lv_at hl 0 rfl) ?_
        refine va_get (D := D) (ci := 6) (v := .ref aR) (C := RX6) (T := TX6) (N := 11) hx hb hts (fun w h => (List.mem_cons_of_mem _ (hinX6 w h))) hown hK hP 0 rfl rfl 0 (by decide) (hts _ (List.mem_cons_of_mem _ wd_189)) (fun _ h9 => h9) rfl dX6_sign_76 ?_
        refine va_get (D := D) (ci := 3) (v := .int (iI (rn + 1))) (C := RX3) (T := TX3) (N := 2) hx hb hts (fun w h => (List.mem_cons_of_mem _ (hinX3 w h))) hown hK hP 1 rfl rfl 1 (by decide) (hts _ (List.mem_cons_of_mem _ wd_65)) (fun _ h9 => h9) rfl dX6_sign_79 ?_
        exact rk_int hx hb hr hlocks hK hP hD hS (by first | rfl | omega) rfl dX6_sign_82
      · skip
        exfalso; omega
    · skip
      exfalso; omega
  · skip
    refine lv_iload_n hx hb dX6_sign_7 rfl (lv_at hl 1 rfl) ?_
    refine pk_callI (va_runS (As := [.int (iI ch)]) (rest := []) ⟨hx, hb, hml, hown, hts⟩ (tX6_isDigit l D kI kZ kL kJ ch s.heap.size (by first | assumption | omega)) (cwS 1 hts (gd_S tb_cons wd_277 wd_278 wd_33 wd_279) rfl rfl rfl (by decide +kernel) ⟨Nat.le_of_ble_eq_true rfl, Nat.le_of_ble_eq_true rfl⟩) (ck_preS hxT hK hP hD [] rfl (by decide)) rfl rfl hl.1 rfl (lv_room (Nat.le_of_ble_eq_true rfl)) dX6_sign_8 ⟨Nat.zero_le _, Nat.zero_le _⟩) ?_
    refine wk_bif_ne (tgt := 24) hx hb dX6_sign_11 (by decide) (fun c_4 => ?_) (fun c_4 => ?_)
    · skip
      refine lv_aload_n hx hb dX6_sign_24 rfl (lv_at hl 0 rfl) ?_
      refine va_get (D := D) (ci := 6) (v := .ref aR) (C := RX6) (T := TX6) (N := 11) hx hb hts (fun w h => (List.mem_cons_of_mem _ (hinX6 w h))) hown hK hP 0 rfl rfl 0 (by decide) (hts _ (List.mem_cons_of_mem _ wd_189)) (fun _ h9 => h9) rfl dX6_sign_25 ?_
      refine va_get (D := D) (ci := 3) (v := .int (iI rn)) (C := RX3) (T := TX3) (N := 2) hx hb hts (fun w h => (List.mem_cons_of_mem _ (hinX3 w h))) hown hK hP 1 rfl rfl 1 (by decide) (hts _ (List.mem_cons_of_mem _ wd_65)) (fun _ h9 => h9) rfl dX6_sign_28 ?_
      refine lv_bipush (v := iI 11) hx hb dX6_sign_31 (by decide) ?_
      refine wk_icmp_lt (tgt := 46) hx hb dX6_sign_33 (by decide) (by omega) (fun c_5 => ?_) (fun c_5 => ?_)
      · skip
        refine lv_aload_n hx hb dX6_sign_46 rfl (lv_at hl 0 rfl) ?_
        refine va_get (D := D) (ci := 6) (v := .ref aR) (C := RX6) (T := TX6) (N := 11) hx hb hts (fun w h => (List.mem_cons_of_mem _ (hinX6 w h))) hown hK hP 0 rfl rfl 0 (by decide) (hts _ (List.mem_cons_of_mem _ wd_189)) (fun _ h9 => h9) rfl dX6_sign_47 ?_
        refine lv_iload_n hx hb dX6_sign_50 rfl (lv_at hl 1 rfl) ?_
        refine pk_callI (va_runV (As := [.int (iI ch)]) (rest := []) ⟨hx, hb, hml, hown, hts⟩ (tX3_fits l D kI kZ kL kJ aR aRs rn ch s.heap.size (by first | assumption | omega) (by first | assumption | omega)) (cwV 1 hts (gd_V tb_cons wd_364 wd_365 wd_366 wd_34 wd_367) rfl rfl rfl (by decide +kernel) ⟨Nat.le_of_ble_eq_true rfl, Nat.le_of_ble_eq_true rfl⟩) (ck_preV hxT hK hP hD [1] rfl (by decide) (q0 := 0) rfl rfl rfl) rfl rfl hl.1 rfl (lv_room (Nat.le_of_ble_eq_true rfl)) dX6_sign_51 ⟨Nat.zero_le _, Nat.zero_le _⟩) ?_
        refine wk_bif_ne (tgt := 67) hx hb dX6_sign_54 (by decide) (fun c_6 => ?_) (fun c_6 => ?_)
        · skip
          refine lv_aload_n hx hb dX6_sign_67 rfl (lv_at hl 0 rfl) ?_
          refine va_get (D := D) (ci := 6) (v := .ref aR) (C := RX6) (T := TX6) (N := 11) hx hb hts (fun w h => (List.mem_cons_of_mem _ (hinX6 w h))) hown hK hP 0 rfl rfl 0 (by decide) (hts _ (List.mem_cons_of_mem _ wd_189)) (fun _ h9 => h9) rfl dX6_sign_68 ?_
          refine lv_iload_n hx hb dX6_sign_71 rfl (lv_at hl 1 rfl) ?_
          refine ck_backV (va_runV (As := [.int (iI ch)]) (rest := []) ⟨hx, hb, hml, hown, hts⟩ (tX3_add l D kI kZ kL kJ aR aRs rs rn ch s.heap.size (by first | assumption | omega)) (cwV 1 hts (gd_V tb_cons wd_370 wd_371 wd_372 wd_34 wd_373) rfl rfl rfl (by decide +kernel) ⟨Nat.le_of_ble_eq_true rfl, Nat.le_of_ble_eq_true rfl⟩) (ck_preV hxT hK hP hD [1, 2] rfl (by decide) (q0 := 0) rfl rfl rfl) rfl rfl hl.1 rfl (lv_room (Nat.le_of_ble_eq_true rfl)) dX6_sign_72 ⟨Nat.zero_le _, Nat.zero_le _⟩) hP hD hS hA [1, 2] [0] (WR := [(g, .inr (6, [.ref aR, .ref aB, .ref aT, .ref aS, .ref aK, .ref aL, .int (iI nw), .int (iI al), .int (iI lg), .int (iI tt), .int (iI dn)]))]) rfl rfl (by decide) (by decide) (ws' := [(g, .inr (6, [.ref aR, .ref aB, .ref aT, .ref aS, .ref aK, .ref aL, .int (iI nw), .int (iI al), .int (iI lg), .int (iI tt), .int (iI dn)])), (aR, .inr (3, [.ref aRs, .int (iI (rn + 1))])), (aRs, .inl (kI, 11, .inl (iF (iu rs rn ch))))]) rfl (fun H locs hP hD hS => ?_)
          refine lv_aload_n hx hb dX6_sign_75 rfl (lv_at hl 0 rfl) ?_
          refine va_get (D := D) (ci := 6) (v := .ref aR) (C := RX6) (T := TX6) (N := 11) hx hb hts (fun w h => (List.mem_cons_of_mem _ (hinX6 w h))) hown hK hP 0 rfl rfl 0 (by decide) (hts _ (List.mem_cons_of_mem _ wd_189)) (fun _ h9 => h9) rfl dX6_sign_76 ?_
          refine va_get (D := D) (ci := 3) (v := .int (iI (rn + 1))) (C := RX3) (T := TX3) (N := 2) hx hb hts (fun w h => (List.mem_cons_of_mem _ (hinX3 w h))) hown hK hP 1 rfl rfl 1 (by decide) (hts _ (List.mem_cons_of_mem _ wd_65)) (fun _ h9 => h9) rfl dX6_sign_79 ?_
          exact rk_int hx hb hr hlocks hK hP hD hS (by first | rfl | omega) rfl dX6_sign_82
        · skip
          exfalso; omega
      · skip
        exfalso; omega
    · skip
      exfalso; omega

set_option maxHeartbeats 4000000 in
set_option maxRecDepth 100000 in
theorem tX6_sign_t1 (l : Launch) (D : va_G) (kI : ClassId) (kZ : ClassId) (kL : ClassId) (kJ : ClassId) (g : Nat) (aR : Nat) (aB : Nat) (aT : Nat) (aS : Nat) (aK : Nat) (aL : Nat) (nw : Int) (al : Int) (lg : Int) (tt : Int) (dn : Int) (ch : Int) (sz : Nat) (hfl : l.flags = pinnedFlags ++ [noTraceFlag]) (hch : -2147483648 ≤ ch ∧ ch ≤ 2147483647) (h1 : ¬ ((65 ≤ ch ∧ ch ≤ 90) ∨ (48 ≤ ch ∧ ch ≤ 57))) : CtT l yX6_sign wsX6_sign ({ frames := 6, cells := 1, slots := 6, locals := 82 }) D vwCl (tyL kI kZ kL kJ) [(g, .inr (6, [.ref aR, .ref aB, .ref aT, .ref aS, .ref aK, .ref aL, .int (iI nw), .int (iI al), .int (iI lg), .int (iI tt), .int (iI dn)]))] [.ref g, .int (iI ch)] "java/lang/IllegalArgumentException" sz := by
  refine ct_start (cc := cX6_sign) (maxL := 2) (ret := (some .int)) (LV := [(0, .ref g), (1, .int (iI ch))]) (by decide) rfl rfl (Nat.le_of_ble_eq_true rfl) ?_
  intro p e s m below meth cd hadm hx hb hr hml hts hown hlocks hname hnoh hxT hzT A hA hK hP hD hS ls hl
  refine lv_iload_n hx hb dX6_sign_0 rfl (lv_at hl 1 rfl) ?_
  refine pk_callI (va_runS (As := [.int (iI ch)]) (rest := []) ⟨hx, hb, hml, hown, hts⟩ (tX6_isLetter l D kI kZ kL kJ ch s.heap.size (by first | assumption | omega)) (cwS 1 hts (gd_S tb_cons wd_276 wd_239 wd_33 wd_240) rfl rfl rfl (by decide +kernel) ⟨Nat.le_of_ble_eq_true rfl, Nat.le_of_ble_eq_true rfl⟩) (ck_preS hxT hK hP hD [] rfl (by decide)) rfl rfl hl.1 rfl (lv_room (Nat.le_of_ble_eq_true rfl)) dX6_sign_1 ⟨Nat.zero_le _, Nat.zero_le _⟩) ?_
  refine wk_bif_ne (tgt := 24) hx hb dX6_sign_4 (by decide) (fun c_1 => ?_) (fun c_1 => ?_)
  · skip
    exfalso; omega
  · skip
    refine lv_iload_n hx hb dX6_sign_7 rfl (lv_at hl 1 rfl) ?_
    refine pk_callI (va_runS (As := [.int (iI ch)]) (rest := []) ⟨hx, hb, hml, hown, hts⟩ (tX6_isDigit l D kI kZ kL kJ ch s.heap.size (by first | assumption | omega)) (cwS 1 hts (gd_S tb_cons wd_277 wd_278 wd_33 wd_279) rfl rfl rfl (by decide +kernel) ⟨Nat.le_of_ble_eq_true rfl, Nat.le_of_ble_eq_true rfl⟩) (ck_preS hxT hK hP hD [] rfl (by decide)) rfl rfl hl.1 rfl (lv_room (Nat.le_of_ble_eq_true rfl)) dX6_sign_8 ⟨Nat.zero_le _, Nat.zero_le _⟩) ?_
    refine wk_bif_ne (tgt := 24) hx hb dX6_sign_11 (by decide) (fun c_2 => ?_) (fun c_2 => ?_)
    · skip
      exfalso; omega
    · skip
      obtain ⟨q9, hZ9⟩ := xt_s70 hxT
      exact wt_new (names := exN) hx hb hown (Launch.traces_off hfl hadm) hlocks hnoh (hl.1.trans hml.symm) (by decide) (by decide) (ex_a (fun w h => hts w (List.mem_cons_of_mem _ h)) hzT hxT) (hts _ (List.mem_cons_of_mem _ wd_280)) (hts _ (List.mem_cons_of_mem _ wd_45)) hZ9 dX6_sign_14 dX6_sign_17 dX6_sign_18 dX6_sign_20 dX6_sign_23 (Nat.le_of_ble_eq_true rfl) (Nat.le_of_ble_eq_true rfl) (Nat.le_of_ble_eq_true rfl) (Nat.le_of_ble_eq_true rfl)

set_option maxHeartbeats 4000000 in
set_option maxRecDepth 100000 in
theorem tX6_sign_t2 (l : Launch) (D : va_G) (kI : ClassId) (kZ : ClassId) (kL : ClassId) (kJ : ClassId) (g : Nat) (aR : Nat) (aB : Nat) (aT : Nat) (aS : Nat) (aK : Nat) (aL : Nat) (aRs : Nat) (nw : Int) (al : Int) (lg : Int) (tt : Int) (dn : Int) (rn : Int) (ch : Int) (sz : Nat) (hfl : l.flags = pinnedFlags ++ [noTraceFlag]) (hch : -2147483648 ≤ ch ∧ ch ≤ 2147483647) (hrn : 0 ≤ rn ∧ rn ≤ 11) (h1 : ((65 ≤ ch ∧ ch ≤ 90) ∨ (48 ≤ ch ∧ ch ≤ 57))) (h2 : rn = 11) : CtT l yX6_sign wsX6_sign ({ frames := 6, cells := 1, slots := 6, locals := 82 }) D vwCl (tyL kI kZ kL kJ) [(g, .inr (6, [.ref aR, .ref aB, .ref aT, .ref aS, .ref aK, .ref aL, .int (iI nw), .int (iI al), .int (iI lg), .int (iI tt), .int (iI dn)])), (aR, .inr (3, [.ref aRs, .int (iI rn)]))] [.ref g, .int (iI ch)] "java/lang/IllegalStateException" sz := by
  refine ct_start (cc := cX6_sign) (maxL := 2) (ret := (some .int)) (LV := [(0, .ref g), (1, .int (iI ch))]) (by decide) rfl rfl (Nat.le_of_ble_eq_true rfl) ?_
  intro p e s m below meth cd hadm hx hb hr hml hts hown hlocks hname hnoh hxT hzT A hA hK hP hD hS ls hl
  refine lv_iload_n hx hb dX6_sign_0 rfl (lv_at hl 1 rfl) ?_
  refine pk_callI (va_runS (As := [.int (iI ch)]) (rest := []) ⟨hx, hb, hml, hown, hts⟩ (tX6_isLetter l D kI kZ kL kJ ch s.heap.size (by first | assumption | omega)) (cwS 1 hts (gd_S tb_cons wd_276 wd_239 wd_33 wd_240) rfl rfl rfl (by decide +kernel) ⟨Nat.le_of_ble_eq_true rfl, Nat.le_of_ble_eq_true rfl⟩) (ck_preS hxT hK hP hD [] rfl (by decide)) rfl rfl hl.1 rfl (lv_room (Nat.le_of_ble_eq_true rfl)) dX6_sign_1 ⟨Nat.zero_le _, Nat.zero_le _⟩) ?_
  refine wk_bif_ne (tgt := 24) hx hb dX6_sign_4 (by decide) (fun c_1 => ?_) (fun c_1 => ?_)
  · skip
    refine lv_aload_n hx hb dX6_sign_24 rfl (lv_at hl 0 rfl) ?_
    refine va_get (D := D) (ci := 6) (v := .ref aR) (C := RX6) (T := TX6) (N := 11) hx hb hts (fun w h => (List.mem_cons_of_mem _ (hinX6 w h))) hown hK hP 0 rfl rfl 0 (by decide) (hts _ (List.mem_cons_of_mem _ wd_189)) (fun _ h9 => h9) rfl dX6_sign_25 ?_
    refine va_get (D := D) (ci := 3) (v := .int (iI rn)) (C := RX3) (T := TX3) (N := 2) hx hb hts (fun w h => (List.mem_cons_of_mem _ (hinX3 w h))) hown hK hP 1 rfl rfl 1 (by decide) (hts _ (List.mem_cons_of_mem _ wd_65)) (fun _ h9 => h9) rfl dX6_sign_28 ?_
    refine lv_bipush (v := iI 11) hx hb dX6_sign_31 (by decide) ?_
    refine wk_icmp_lt (tgt := 46) hx hb dX6_sign_33 (by decide) (by omega) (fun c_2 => ?_) (fun c_2 => ?_)
    · skip
      exfalso; omega
    · skip
      obtain ⟨q9, hZ9⟩ := xt_s80 hxT
      exact wt_new (names := exN) hx hb hown (Launch.traces_off hfl hadm) hlocks hnoh (hl.1.trans hml.symm) (by decide) (by decide) (ex_s (fun w h => hts w (List.mem_cons_of_mem _ h)) hzT hxT) (hts _ (List.mem_cons_of_mem _ wd_348)) (hts _ (List.mem_cons_of_mem _ wd_46)) hZ9 dX6_sign_36 dX6_sign_39 dX6_sign_40 dX6_sign_42 dX6_sign_45 (Nat.le_of_ble_eq_true rfl) (Nat.le_of_ble_eq_true rfl) (Nat.le_of_ble_eq_true rfl) (Nat.le_of_ble_eq_true rfl)
  · skip
    refine lv_iload_n hx hb dX6_sign_7 rfl (lv_at hl 1 rfl) ?_
    refine pk_callI (va_runS (As := [.int (iI ch)]) (rest := []) ⟨hx, hb, hml, hown, hts⟩ (tX6_isDigit l D kI kZ kL kJ ch s.heap.size (by first | assumption | omega)) (cwS 1 hts (gd_S tb_cons wd_277 wd_278 wd_33 wd_279) rfl rfl rfl (by decide +kernel) ⟨Nat.le_of_ble_eq_true rfl, Nat.le_of_ble_eq_true rfl⟩) (ck_preS hxT hK hP hD [] rfl (by decide)) rfl rfl hl.1 rfl (lv_room (Nat.le_of_ble_eq_true rfl)) dX6_sign_8 ⟨Nat.zero_le _, Nat.zero_le _⟩) ?_
    refine wk_bif_ne (tgt := 24) hx hb dX6_sign_11 (by decide) (fun c_3 => ?_) (fun c_3 => ?_)
    · skip
      refine lv_aload_n hx hb dX6_sign_24 rfl (lv_at hl 0 rfl) ?_
      refine va_get (D := D) (ci := 6) (v := .ref aR) (C := RX6) (T := TX6) (N := 11) hx hb hts (fun w h => (List.mem_cons_of_mem _ (hinX6 w h))) hown hK hP 0 rfl rfl 0 (by decide) (hts _ (List.mem_cons_of_mem _ wd_189)) (fun _ h9 => h9) rfl dX6_sign_25 ?_
      refine va_get (D := D) (ci := 3) (v := .int (iI rn)) (C := RX3) (T := TX3) (N := 2) hx hb hts (fun w h => (List.mem_cons_of_mem _ (hinX3 w h))) hown hK hP 1 rfl rfl 1 (by decide) (hts _ (List.mem_cons_of_mem _ wd_65)) (fun _ h9 => h9) rfl dX6_sign_28 ?_
      refine lv_bipush (v := iI 11) hx hb dX6_sign_31 (by decide) ?_
      refine wk_icmp_lt (tgt := 46) hx hb dX6_sign_33 (by decide) (by omega) (fun c_4 => ?_) (fun c_4 => ?_)
      · skip
        exfalso; omega
      · skip
        obtain ⟨q9, hZ9⟩ := xt_s80 hxT
        exact wt_new (names := exN) hx hb hown (Launch.traces_off hfl hadm) hlocks hnoh (hl.1.trans hml.symm) (by decide) (by decide) (ex_s (fun w h => hts w (List.mem_cons_of_mem _ h)) hzT hxT) (hts _ (List.mem_cons_of_mem _ wd_348)) (hts _ (List.mem_cons_of_mem _ wd_46)) hZ9 dX6_sign_36 dX6_sign_39 dX6_sign_40 dX6_sign_42 dX6_sign_45 (Nat.le_of_ble_eq_true rfl) (Nat.le_of_ble_eq_true rfl) (Nat.le_of_ble_eq_true rfl) (Nat.le_of_ble_eq_true rfl)
    · skip
      exfalso; omega

set_option maxHeartbeats 4000000 in
set_option maxRecDepth 100000 in
theorem tX6_sign_t3 (l : Launch) (D : va_G) (kI : ClassId) (kZ : ClassId) (kL : ClassId) (kJ : ClassId) (g : Nat) (aR : Nat) (aB : Nat) (aT : Nat) (aS : Nat) (aK : Nat) (aL : Nat) (aRs : Nat) (nw : Int) (al : Int) (lg : Int) (tt : Int) (dn : Int) (rn : Int) (ch : Int) (sz : Nat) (hfl : l.flags = pinnedFlags ++ [noTraceFlag]) (hch : -2147483648 ≤ ch ∧ ch ≤ 2147483647) (hrn : 0 ≤ rn ∧ rn ≤ 11) (h1 : ((65 ≤ ch ∧ ch ≤ 90) ∨ (48 ≤ ch ∧ ch ≤ 57))) (h2 : rn < 11) (h3 : ¬ ((4 ≤ rn ∧ rn < 10 ∧ 48 ≤ ch ∧ ch ≤ 57) ∨ (¬ (4 ≤ rn ∧ rn < 10) ∧ 65 ≤ ch ∧ ch ≤ 90))) : CtT l yX6_sign wsX6_sign ({ frames := 6, cells := 1, slots := 6, locals := 82 }) D vwCl (tyL kI kZ kL kJ) [(g, .inr (6, [.ref aR, .ref aB, .ref aT, .ref aS, .ref aK, .ref aL, .int (iI nw), .int (iI al), .int (iI lg), .int (iI tt), .int (iI dn)])), (aR, .inr (3, [.ref aRs, .int (iI rn)]))] [.ref g, .int (iI ch)] "java/lang/IllegalArgumentException" sz := by
  refine ct_start (cc := cX6_sign) (maxL := 2) (ret := (some .int)) (LV := [(0, .ref g), (1, .int (iI ch))]) (by decide) rfl rfl (Nat.le_of_ble_eq_true rfl) ?_
  intro p e s m below meth cd hadm hx hb hr hml hts hown hlocks hname hnoh hxT hzT A hA hK hP hD hS ls hl
  refine lv_iload_n hx hb dX6_sign_0 rfl (lv_at hl 1 rfl) ?_
  refine pk_callI (va_runS (As := [.int (iI ch)]) (rest := []) ⟨hx, hb, hml, hown, hts⟩ (tX6_isLetter l D kI kZ kL kJ ch s.heap.size (by first | assumption | omega)) (cwS 1 hts (gd_S tb_cons wd_276 wd_239 wd_33 wd_240) rfl rfl rfl (by decide +kernel) ⟨Nat.le_of_ble_eq_true rfl, Nat.le_of_ble_eq_true rfl⟩) (ck_preS hxT hK hP hD [] rfl (by decide)) rfl rfl hl.1 rfl (lv_room (Nat.le_of_ble_eq_true rfl)) dX6_sign_1 ⟨Nat.zero_le _, Nat.zero_le _⟩) ?_
  refine wk_bif_ne (tgt := 24) hx hb dX6_sign_4 (by decide) (fun c_1 => ?_) (fun c_1 => ?_)
  · skip
    refine lv_aload_n hx hb dX6_sign_24 rfl (lv_at hl 0 rfl) ?_
    refine va_get (D := D) (ci := 6) (v := .ref aR) (C := RX6) (T := TX6) (N := 11) hx hb hts (fun w h => (List.mem_cons_of_mem _ (hinX6 w h))) hown hK hP 0 rfl rfl 0 (by decide) (hts _ (List.mem_cons_of_mem _ wd_189)) (fun _ h9 => h9) rfl dX6_sign_25 ?_
    refine va_get (D := D) (ci := 3) (v := .int (iI rn)) (C := RX3) (T := TX3) (N := 2) hx hb hts (fun w h => (List.mem_cons_of_mem _ (hinX3 w h))) hown hK hP 1 rfl rfl 1 (by decide) (hts _ (List.mem_cons_of_mem _ wd_65)) (fun _ h9 => h9) rfl dX6_sign_28 ?_
    refine lv_bipush (v := iI 11) hx hb dX6_sign_31 (by decide) ?_
    refine wk_icmp_lt (tgt := 46) hx hb dX6_sign_33 (by decide) (by omega) (fun c_2 => ?_) (fun c_2 => ?_)
    · skip
      refine lv_aload_n hx hb dX6_sign_46 rfl (lv_at hl 0 rfl) ?_
      refine va_get (D := D) (ci := 6) (v := .ref aR) (C := RX6) (T := TX6) (N := 11) hx hb hts (fun w h => (List.mem_cons_of_mem _ (hinX6 w h))) hown hK hP 0 rfl rfl 0 (by decide) (hts _ (List.mem_cons_of_mem _ wd_189)) (fun _ h9 => h9) rfl dX6_sign_47 ?_
      refine lv_iload_n hx hb dX6_sign_50 rfl (lv_at hl 1 rfl) ?_
      refine pk_callI (va_runV (As := [.int (iI ch)]) (rest := []) ⟨hx, hb, hml, hown, hts⟩ (tX3_fits l D kI kZ kL kJ aR aRs rn ch s.heap.size (by first | assumption | omega) (by first | assumption | omega)) (cwV 1 hts (gd_V tb_cons wd_364 wd_365 wd_366 wd_34 wd_367) rfl rfl rfl (by decide +kernel) ⟨Nat.le_of_ble_eq_true rfl, Nat.le_of_ble_eq_true rfl⟩) (ck_preV hxT hK hP hD [1] rfl (by decide) (q0 := 0) rfl rfl rfl) rfl rfl hl.1 rfl (lv_room (Nat.le_of_ble_eq_true rfl)) dX6_sign_51 ⟨Nat.zero_le _, Nat.zero_le _⟩) ?_
      refine wk_bif_ne (tgt := 67) hx hb dX6_sign_54 (by decide) (fun c_3 => ?_) (fun c_3 => ?_)
      · skip
        exfalso; omega
      · skip
        obtain ⟨q9, hZ9⟩ := xt_s86 hxT
        exact wt_new (names := exN) hx hb hown (Launch.traces_off hfl hadm) hlocks hnoh (hl.1.trans hml.symm) (by decide) (by decide) (ex_a (fun w h => hts w (List.mem_cons_of_mem _ h)) hzT hxT) (hts _ (List.mem_cons_of_mem _ wd_280)) (hts _ (List.mem_cons_of_mem _ wd_45)) hZ9 dX6_sign_57 dX6_sign_60 dX6_sign_61 dX6_sign_63 dX6_sign_66 (Nat.le_of_ble_eq_true rfl) (Nat.le_of_ble_eq_true rfl) (Nat.le_of_ble_eq_true rfl) (Nat.le_of_ble_eq_true rfl)
    · skip
      exfalso; omega
  · skip
    refine lv_iload_n hx hb dX6_sign_7 rfl (lv_at hl 1 rfl) ?_
    refine pk_callI (va_runS (As := [.int (iI ch)]) (rest := []) ⟨hx, hb, hml, hown, hts⟩ (tX6_isDigit l D kI kZ kL kJ ch s.heap.size (by first | assumption | omega)) (cwS 1 hts (gd_S tb_cons wd_277 wd_278 wd_33 wd_279) rfl rfl rfl (by decide +kernel) ⟨Nat.le_of_ble_eq_true rfl, Nat.le_of_ble_eq_true rfl⟩) (ck_preS hxT hK hP hD [] rfl (by decide)) rfl rfl hl.1 rfl (lv_room (Nat.le_of_ble_eq_true rfl)) dX6_sign_8 ⟨Nat.zero_le _, Nat.zero_le _⟩) ?_
    refine wk_bif_ne (tgt := 24) hx hb dX6_sign_11 (by decide) (fun c_4 => ?_) (fun c_4 => ?_)
    · skip
      refine lv_aload_n hx hb dX6_sign_24 rfl (lv_at hl 0 rfl) ?_
      refine va_get (D := D) (ci := 6) (v := .ref aR) (C := RX6) (T := TX6) (N := 11) hx hb hts (fun w h => (List.mem_cons_of_mem _ (hinX6 w h))) hown hK hP 0 rfl rfl 0 (by decide) (hts _ (List.mem_cons_of_mem _ wd_189)) (fun _ h9 => h9) rfl dX6_sign_25 ?_
      refine va_get (D := D) (ci := 3) (v := .int (iI rn)) (C := RX3) (T := TX3) (N := 2) hx hb hts (fun w h => (List.mem_cons_of_mem _ (hinX3 w h))) hown hK hP 1 rfl rfl 1 (by decide) (hts _ (List.mem_cons_of_mem _ wd_65)) (fun _ h9 => h9) rfl dX6_sign_28 ?_
      refine lv_bipush (v := iI 11) hx hb dX6_sign_31 (by decide) ?_
      refine wk_icmp_lt (tgt := 46) hx hb dX6_sign_33 (by decide) (by omega) (fun c_5 => ?_) (fun c_5 => ?_)
      · skip
        refine lv_aload_n hx hb dX6_sign_46 rfl (lv_at hl 0 rfl) ?_
        refine va_get (D := D) (ci := 6) (v := .ref aR) (C := RX6) (T := TX6) (N := 11) hx hb hts (fun w h => (List.mem_cons_of_mem _ (hinX6 w h))) hown hK hP 0 rfl rfl 0 (by decide) (hts _ (List.mem_cons_of_mem _ wd_189)) (fun _ h9 => h9) rfl dX6_sign_47 ?_
        refine lv_iload_n hx hb dX6_sign_50 rfl (lv_at hl 1 rfl) ?_
        refine pk_callI (va_runV (As := [.int (iI ch)]) (rest := []) ⟨hx, hb, hml, hown, hts⟩ (tX3_fits l D kI kZ kL kJ aR aRs rn ch s.heap.size (by first | assumption | omega) (by first | assumption | omega)) (cwV 1 hts (gd_V tb_cons wd_364 wd_365 wd_366 wd_34 wd_367) rfl rfl rfl (by decide +kernel) ⟨Nat.le_of_ble_eq_true rfl, Nat.le_of_ble_eq_true rfl⟩) (ck_preV hxT hK hP hD [1] rfl (by decide) (q0 := 0) rfl rfl rfl) rfl rfl hl.1 rfl (lv_room (Nat.le_of_ble_eq_true rfl)) dX6_sign_51 ⟨Nat.zero_le _, Nat.zero_le _⟩) ?_
        refine wk_bif_ne (tgt := 67) hx hb dX6_sign_54 (by decide) (fun c_6 => ?_) (fun c_6 => ?_)
        · skip
          exfalso; omega
        · skip
          obtain ⟨q9, hZ9⟩ := xt_s86 hxT
          exact wt_new (names := exN) hx hb hown (Launch.traces_off hfl hadm) hlocks hnoh (hl.1.trans hml.symm) (by decide) (by decide) (ex_a (fun w h => hts w (List.mem_cons_of_mem _ h)) hzT hxT) (hts _ (List.mem_cons_of_mem _ wd_280)) (hts _ (List.mem_cons_of_mem _ wd_45)) hZ9 dX6_sign_57 dX6_sign_60 dX6_sign_61 dX6_sign_63 dX6_sign_66 (Nat.le_of_ble_eq_true rfl) (Nat.le_of_ble_eq_true rfl) (Nat.le_of_ble_eq_true rfl) (Nat.le_of_ble_eq_true rfl)
      · skip
        exfalso; omega
    · skip
      exfalso; omega

set_option maxHeartbeats 4000000 in
set_option maxRecDepth 100000 in
theorem tX6_clear (l : Launch) (D : va_G) (kI : ClassId) (kZ : ClassId) (kL : ClassId) (kJ : ClassId) (g : Nat) (aR : Nat) (aB : Nat) (aT : Nat) (aS : Nat) (aK : Nat) (aL : Nat) (aRs : Nat) (nw : Int) (al : Int) (lg : Int) (tt : Int) (dn : Int) (rn : Int) (sz : Nat)  : CtI l yX6_clear wsX6_clear ({ frames := 0, cells := 0, slots := 0, locals := 0 }) D vwCl (tyL kI kZ kL kJ) [(g, .inr (6, [.ref aR, .ref aB, .ref aT, .ref aS, .ref aK, .ref aL, .int (iI nw), .int (iI al), .int (iI lg), .int (iI tt), .int (iI dn)])), (aR, .inr (3, [.ref aRs, .int (iI rn)]))] [.ref g] (iI rn) [(g, .inr (6, [.ref aR, .ref aB, .ref aT, .ref aS, .ref aK, .ref aL, .int (iI nw), .int (iI al), .int (iI lg), .int (iI tt), .int (iI dn)])), (aR, .inr (3, [.ref aRs, .int (iI 0)]))] sz := by
  refine ck_start (Qc := fun A => cQi D vwCl (tyL kI kZ kL kJ) A (iI rn) [(g, .inr (6, [.ref aR, .ref aB, .ref aT, .ref aS, .ref aK, .ref aL, .int (iI nw), .int (iI al), .int (iI lg), .int (iI tt), .int (iI dn)])), (aR, .inr (3, [.ref aRs, .int (iI 0)]))]) (cc := cX6_clear) (maxL := 2) (ret := (some .int)) (LV := [(0, .ref g)]) (by decide) rfl rfl (Nat.le_of_ble_eq_true rfl) ?_
  intro p e s m below meth cd hadm hx hb hr hml hts hown hlocks hname hnoh hxT A hA hK hP hD hS ls hl
  refine lv_aload_n hx hb dX6_clear_0 rfl (lv_at hl 0 rfl) ?_
  refine va_get (D := D) (ci := 6) (v := .ref aR) (C := RX6) (T := TX6) (N := 11) hx hb hts (fun w h => (List.mem_cons_of_mem _ (hinX6 w h))) hown hK hP 0 rfl rfl 0 (by decide) (hts _ (List.mem_cons_of_mem _ wd_189)) (fun _ h9 => h9) rfl dX6_clear_1 ?_
  refine va_get (D := D) (ci := 3) (v := .int (iI rn)) (C := RX3) (T := TX3) (N := 2) hx hb hts (fun w h => (List.mem_cons_of_mem _ (hinX3 w h))) hown hK hP 1 rfl rfl 1 (by decide) (hts _ (List.mem_cons_of_mem _ wd_65)) (fun _ h9 => h9) rfl dX6_clear_4 ?_
  refine lv_istore_n (lv' := [(1, .int (iI rn)), (0, .ref g)]) hx hb dX6_clear_7 rfl hl (by decide) rfl (fun ls hl => ?_)
  refine lv_aload_n hx hb dX6_clear_8 rfl (lv_at hl 1 rfl) ?_
  refine va_get (D := D) (ci := 6) (v := .ref aR) (C := RX6) (T := TX6) (N := 11) hx hb hts (fun w h => (List.mem_cons_of_mem _ (hinX6 w h))) hown hK hP 0 rfl rfl 0 (by decide) (hts _ (List.mem_cons_of_mem _ wd_189)) (fun _ h9 => h9) rfl dX6_clear_9 ?_
  refine lv_iconst (v := iI 0) hx hb dX6_clear_12 rfl ?_
  refine wk_put (ci := 3) (C := RX3) (T := TX3) (N := 2) hx hb hts (fun w h => (List.mem_cons_of_mem _ (hinX3 w h))) tyX3 tyX3_ok nmX3 hown hK hP hD hS 1 rfl rfl 1 (by decide) (hts _ (List.mem_cons_of_mem _ wd_65)) (fun _ h9 => h9) rfl rfl (Nat.le_of_ble_eq_true rfl) dX6_clear_13 (ws' := [(g, .inr (6, [.ref aR, .ref aB, .ref aT, .ref aS, .ref aK, .ref aL, .int (iI nw), .int (iI al), .int (iI lg), .int (iI tt), .int (iI dn)])), (aR, .inr (3, [.ref aRs, .int (iI 0)]))]) rfl (fun H locs hP hD hS => ?_)
  refine lv_iload_n hx hb dX6_clear_16 rfl (lv_at hl 0 rfl) ?_
  exact rk_int hx hb hr hlocks hK hP hD hS (by first | rfl | omega) rfl dX6_clear_17

set_option maxHeartbeats 4000000 in
set_option maxRecDepth 100000 in
theorem tX6_letter (l : Launch) (D : va_G) (kI : ClassId) (kZ : ClassId) (kL : ClassId) (kJ : ClassId) (g : Nat) (aR : Nat) (aB : Nat) (aT : Nat) (aS : Nat) (aK : Nat) (aL : Nat) (aRs : Nat) (rs : Int → Int) (nw : Int) (al : Int) (lg : Int) (tt : Int) (dn : Int) (rn : Int) (sz : Nat) (hrn : 10 ≤ rn ∧ rn ≤ 11) (hrs : ∀ j, 0 ≤ rs j ∧ rs j ≤ 1000000) (hws : ∀ j, 0 ≤ j → j < 10 → 0 ≤ wrt (rs j) ∧ wrt (rs j) ≤ 26) : CtP l yX6_letter wsX6_letter ({ frames := 3, cells := 0, slots := 0, locals := 62 }) D vwCl (tyL kI kZ kL kJ) [(g, .inr (6, [.ref aR, .ref aB, .ref aT, .ref aS, .ref aK, .ref aL, .int (iI nw), .int (iI al), .int (iI lg), .int (iI tt), .int (iI dn)])), (aR, .inr (3, [.ref aRs, .int (iI rn)])), (aRs, .inl (kI, 11, .inl (iF rs)))] [.ref g] (iI (65 + ckS rs 10 % 26)) sz := by
  refine pk_start (cc := cX6_letter) (maxL := 1) (ret := (some .int)) (LV := [(0, .ref g)]) (by decide) rfl rfl (Nat.le_of_ble_eq_true rfl) ?_
  intro p e s m below meth cd hadm hx hb hr hml hts hown hlocks hname hnoh hxT A hA hK hP hD hS ls hl
  refine lv_aload_n hx hb dX6_letter_0 rfl (lv_at hl 0 rfl) ?_
  refine va_get (D := D) (ci := 6) (v := .ref aR) (C := RX6) (T := TX6) (N := 11) hx hb hts (fun w h => (List.mem_cons_of_mem _ (hinX6 w h))) hown hK hP 0 rfl rfl 0 (by decide) (hts _ (List.mem_cons_of_mem _ wd_189)) (fun _ h9 => h9) rfl dX6_letter_1 ?_
  refine pk_callI (va_runV (As := []) (rest := []) ⟨hx, hb, hml, hown, hts⟩ (tX3_checkLetter l D kI kZ kL kJ aR aRs rs rn s.heap.size (by first | assumption | omega) (by first | assumption | omega) (by first | assumption | omega)) (cwV 0 hts (gd_V tb_cons wd_231 wd_232 wd_233 wd_34 wd_234) rfl rfl rfl (by decide +kernel) ⟨Nat.le_of_ble_eq_true rfl, Nat.le_of_ble_eq_true rfl⟩) (ck_preV hxT hK hP hD [1, 2] rfl (by decide) (q0 := 0) rfl rfl rfl) rfl rfl hl.1 rfl (lv_room (Nat.le_of_ble_eq_true rfl)) dX6_letter_4 ⟨Nat.zero_le _, Nat.zero_le _⟩) ?_
  exact pk_int hx hb hr hlocks (by first | rfl | omega) dX6_letter_7

set_option maxHeartbeats 4000000 in
set_option maxRecDepth 100000 in
theorem tX6_letter_n (l : Launch) (D : va_G) (kI : ClassId) (kZ : ClassId) (kL : ClassId) (kJ : ClassId) (g : Nat) (aR : Nat) (aB : Nat) (aT : Nat) (aS : Nat) (aK : Nat) (aL : Nat) (aRs : Nat) (nw : Int) (al : Int) (lg : Int) (tt : Int) (dn : Int) (rn : Int) (sz : Nat) (hrn : 0 ≤ rn ∧ rn < 10) : CtP l yX6_letter wsX6_letter ({ frames := 1, cells := 0, slots := 0, locals := 22 }) D vwCl (tyL kI kZ kL kJ) [(g, .inr (6, [.ref aR, .ref aB, .ref aT, .ref aS, .ref aK, .ref aL, .int (iI nw), .int (iI al), .int (iI lg), .int (iI tt), .int (iI dn)])), (aR, .inr (3, [.ref aRs, .int (iI rn)]))] [.ref g] (iI (-1)) sz := by
  refine pk_start (cc := cX6_letter) (maxL := 1) (ret := (some .int)) (LV := [(0, .ref g)]) (by decide) rfl rfl (Nat.le_of_ble_eq_true rfl) ?_
  intro p e s m below meth cd hadm hx hb hr hml hts hown hlocks hname hnoh hxT A hA hK hP hD hS ls hl
  refine lv_aload_n hx hb dX6_letter_0 rfl (lv_at hl 0 rfl) ?_
  refine va_get (D := D) (ci := 6) (v := .ref aR) (C := RX6) (T := TX6) (N := 11) hx hb hts (fun w h => (List.mem_cons_of_mem _ (hinX6 w h))) hown hK hP 0 rfl rfl 0 (by decide) (hts _ (List.mem_cons_of_mem _ wd_189)) (fun _ h9 => h9) rfl dX6_letter_1 ?_
  refine pk_callI (va_runV (As := []) (rest := []) ⟨hx, hb, hml, hown, hts⟩ (tX3_checkLetter_n l D kI kZ kL kJ aR aRs rn s.heap.size (by first | assumption | omega)) (cwV 0 hts (gd_V tb_cons wd_231 wd_232 wd_233 wd_34 wd_234) rfl rfl rfl (by decide +kernel) ⟨Nat.le_of_ble_eq_true rfl, Nat.le_of_ble_eq_true rfl⟩) (ck_preV hxT hK hP hD [1] rfl (by decide) (q0 := 0) rfl rfl rfl) rfl rfl hl.1 rfl (lv_room (Nat.le_of_ble_eq_true rfl)) dX6_letter_4 ⟨Nat.zero_le _, Nat.zero_le _⟩) ?_
  exact pk_int hx hb hr hlocks (by first | rfl | omega) dX6_letter_7

set_option maxHeartbeats 4000000 in
set_option maxRecDepth 100000 in
theorem tX6_box_t1 (l : Launch) (D : va_G) (kI : ClassId) (kZ : ClassId) (kL : ClassId) (kJ : ClassId) (g : Nat) (aR : Nat) (aB : Nat) (aT : Nat) (aS : Nat) (aK : Nat) (aL : Nat) (aRs : Nat) (nw : Int) (al : Int) (lg : Int) (tt : Int) (dn : Int) (rn : Int) (wt : Int) (dg : Int) (sz : Nat) (hfl : l.flags = pinnedFlags ++ [noTraceFlag]) (hrn : 0 ≤ rn ∧ rn ≤ 11) (h1 : ¬ rn = 11) : CtT l yX6_box wsX6_box ({ frames := 6, cells := 1, slots := 6, locals := 82 }) D vwCl (tyL kI kZ kL kJ) [(g, .inr (6, [.ref aR, .ref aB, .ref aT, .ref aS, .ref aK, .ref aL, .int (iI nw), .int (iI al), .int (iI lg), .int (iI tt), .int (iI dn)])), (aR, .inr (3, [.ref aRs, .int (iI rn)]))] [.ref g, .int (iI wt), .int (iI dg)] "java/lang/IllegalArgumentException" sz := by
  refine ct_start (cc := cX6_box) (maxL := 4) (ret := (some .int)) (LV := [(0, .ref g), (1, .int (iI wt)), (2, .int (iI dg))]) (by decide) rfl rfl (Nat.le_of_ble_eq_true rfl) ?_
  intro p e s m below meth cd hadm hx hb hr hml hts hown hlocks hname hnoh hxT hzT A hA hK hP hD hS ls hl
  refine lv_aload_n hx hb dX6_box_0 rfl (lv_at hl 0 rfl) ?_
  refine va_get (D := D) (ci := 6) (v := .ref aR) (C := RX6) (T := TX6) (N := 11) hx hb hts (fun w h => (List.mem_cons_of_mem _ (hinX6 w h))) hown hK hP 0 rfl rfl 0 (by decide) (hts _ (List.mem_cons_of_mem _ wd_189)) (fun _ h9 => h9) rfl dX6_box_1 ?_
  refine va_get (D := D) (ci := 3) (v := .int (iI rn)) (C := RX3) (T := TX3) (N := 2) hx hb hts (fun w h => (List.mem_cons_of_mem _ (hinX3 w h))) hown hK hP 1 rfl rfl 1 (by decide) (hts _ (List.mem_cons_of_mem _ wd_65)) (fun _ h9 => h9) rfl dX6_box_4 ?_
  refine lv_bipush (v := iI 11) hx hb dX6_box_7 (by decide) ?_
  refine wk_icmp_eq (tgt := 22) hx hb dX6_box_9 (by decide) (by omega) (fun c_1 => ?_) (fun c_1 => ?_)
  · skip
    exfalso; omega
  · skip
    obtain ⟨q9, hZ9⟩ := xt_s96 hxT
    exact wt_new (names := exN) hx hb hown (Launch.traces_off hfl hadm) hlocks hnoh (hl.1.trans hml.symm) (by decide) (by decide) (ex_a (fun w h => hts w (List.mem_cons_of_mem _ h)) hzT hxT) (hts _ (List.mem_cons_of_mem _ wd_280)) (hts _ (List.mem_cons_of_mem _ wd_45)) hZ9 dX6_box_12 dX6_box_15 dX6_box_16 dX6_box_18 dX6_box_21 (Nat.le_of_ble_eq_true rfl) (Nat.le_of_ble_eq_true rfl) (Nat.le_of_ble_eq_true rfl) (Nat.le_of_ble_eq_true rfl)

set_option maxHeartbeats 4000000 in
set_option maxRecDepth 100000 in
theorem tX6_box_t2 (l : Launch) (D : va_G) (kI : ClassId) (kZ : ClassId) (kL : ClassId) (kJ : ClassId) (g : Nat) (aR : Nat) (aB : Nat) (aT : Nat) (aS : Nat) (aK : Nat) (aL : Nat) (aRs : Nat) (nw : Int) (al : Int) (lg : Int) (tt : Int) (dn : Int) (rn : Int) (wt : Int) (dg : Int) (sz : Nat) (hfl : l.flags = pinnedFlags ++ [noTraceFlag]) (h1 : rn = 11) (hwt : -2147483648 ≤ wt ∧ wt ≤ 2147483647) (h2 : ¬ (1 ≤ wt ∧ wt ≤ 100000)) : CtT l yX6_box wsX6_box ({ frames := 6, cells := 1, slots := 6, locals := 82 }) D vwCl (tyL kI kZ kL kJ) [(g, .inr (6, [.ref aR, .ref aB, .ref aT, .ref aS, .ref aK, .ref aL, .int (iI nw), .int (iI al), .int (iI lg), .int (iI tt), .int (iI dn)])), (aR, .inr (3, [.ref aRs, .int (iI rn)]))] [.ref g, .int (iI wt), .int (iI dg)] "java/lang/IllegalArgumentException" sz := by
  refine ct_start (cc := cX6_box) (maxL := 4) (ret := (some .int)) (LV := [(0, .ref g), (1, .int (iI wt)), (2, .int (iI dg))]) (by decide) rfl rfl (Nat.le_of_ble_eq_true rfl) ?_
  intro p e s m below meth cd hadm hx hb hr hml hts hown hlocks hname hnoh hxT hzT A hA hK hP hD hS ls hl
  refine lv_aload_n hx hb dX6_box_0 rfl (lv_at hl 0 rfl) ?_
  refine va_get (D := D) (ci := 6) (v := .ref aR) (C := RX6) (T := TX6) (N := 11) hx hb hts (fun w h => (List.mem_cons_of_mem _ (hinX6 w h))) hown hK hP 0 rfl rfl 0 (by decide) (hts _ (List.mem_cons_of_mem _ wd_189)) (fun _ h9 => h9) rfl dX6_box_1 ?_
  refine va_get (D := D) (ci := 3) (v := .int (iI rn)) (C := RX3) (T := TX3) (N := 2) hx hb hts (fun w h => (List.mem_cons_of_mem _ (hinX3 w h))) hown hK hP 1 rfl rfl 1 (by decide) (hts _ (List.mem_cons_of_mem _ wd_65)) (fun _ h9 => h9) rfl dX6_box_4 ?_
  refine lv_bipush (v := iI 11) hx hb dX6_box_7 (by decide) ?_
  refine wk_icmp_eq (tgt := 22) hx hb dX6_box_9 (by decide) (by omega) (fun c_1 => ?_) (fun c_1 => ?_)
  · skip
    refine lv_iload_n hx hb dX6_box_22 rfl (lv_at hl 1 rfl) ?_
    refine lv_iconst (v := iI 1) hx hb dX6_box_23 rfl ?_
    refine wk_icmp_lt (tgt := 33) hx hb dX6_box_24 (by decide) (by omega) (fun c_2 => ?_) (fun c_2 => ?_)
    · skip
      obtain ⟨q9, hZ9⟩ := xt_s99 hxT
      exact wt_new (names := exN) hx hb hown (Launch.traces_off hfl hadm) hlocks hnoh (hl.1.trans hml.symm) (by decide) (by decide) (ex_a (fun w h => hts w (List.mem_cons_of_mem _ h)) hzT hxT) (hts _ (List.mem_cons_of_mem _ wd_280)) (hts _ (List.mem_cons_of_mem _ wd_45)) hZ9 dX6_box_33 dX6_box_36 dX6_box_37 dX6_box_39 dX6_box_42 (Nat.le_of_ble_eq_true rfl) (Nat.le_of_ble_eq_true rfl) (Nat.le_of_ble_eq_true rfl) (Nat.le_of_ble_eq_true rfl)
    · skip
      refine lv_iload_n hx hb dX6_box_27 rfl (lv_at hl 1 rfl) ?_
      refine lv_ldc (v := 100000) hx hb hown (hts _ (List.mem_cons_of_mem _ wd_382)) dX6_box_28 ?_
      refine wk_eqi (show (100000 : Int32) = iI 100000 by decide) ?_
      refine wk_icmp_le (tgt := 43) hx hb dX6_box_30 (by decide) (by omega) (fun c_3 => ?_) (fun c_3 => ?_)
      · skip
        exfalso; omega
      · skip
        obtain ⟨q9, hZ9⟩ := xt_s99 hxT
        exact wt_new (names := exN) hx hb hown (Launch.traces_off hfl hadm) hlocks hnoh (hl.1.trans hml.symm) (by decide) (by decide) (ex_a (fun w h => hts w (List.mem_cons_of_mem _ h)) hzT hxT) (hts _ (List.mem_cons_of_mem _ wd_280)) (hts _ (List.mem_cons_of_mem _ wd_45)) hZ9 dX6_box_33 dX6_box_36 dX6_box_37 dX6_box_39 dX6_box_42 (Nat.le_of_ble_eq_true rfl) (Nat.le_of_ble_eq_true rfl) (Nat.le_of_ble_eq_true rfl) (Nat.le_of_ble_eq_true rfl)
  · skip
    exfalso; omega

set_option maxHeartbeats 4000000 in
set_option maxRecDepth 100000 in
theorem tX6_box_t3 (l : Launch) (D : va_G) (kI : ClassId) (kZ : ClassId) (kL : ClassId) (kJ : ClassId) (g : Nat) (aR : Nat) (aB : Nat) (aT : Nat) (aS : Nat) (aK : Nat) (aL : Nat) (aRs : Nat) (aBs : Nat) (aBw : Nat) (aBd : Nat) (aBv : Nat) (nw : Int) (al : Int) (lg : Int) (tt : Int) (dn : Int) (rn : Int) (bn : Int) (wt : Int) (dg : Int) (sz : Nat) (hfl : l.flags = pinnedFlags ++ [noTraceFlag]) (h1 : rn = 11) (hwt : 1 ≤ wt ∧ wt ≤ 100000) (h3 : bn = 20) : CtT l yX6_box wsX6_box ({ frames := 6, cells := 1, slots := 6, locals := 82 }) D vwCl (tyL kI kZ kL kJ) [(g, .inr (6, [.ref aR, .ref aB, .ref aT, .ref aS, .ref aK, .ref aL, .int (iI nw), .int (iI al), .int (iI lg), .int (iI tt), .int (iI dn)])), (aR, .inr (3, [.ref aRs, .int (iI rn)])), (aB, .inr (1, [.ref aBs, .ref aBw, .ref aBd, .ref aBv, .int (iI bn)]))] [.ref g, .int (iI wt), .int (iI dg)] "java/lang/IllegalStateException" sz := by
  refine ct_start (cc := cX6_box) (maxL := 4) (ret := (some .int)) (LV := [(0, .ref g), (1, .int (iI wt)), (2, .int (iI dg))]) (by decide) rfl rfl (Nat.le_of_ble_eq_true rfl) ?_
  intro p e s m below meth cd hadm hx hb hr hml hts hown hlocks hname hnoh hxT hzT A hA hK hP hD hS ls hl
  refine lv_aload_n hx hb dX6_box_0 rfl (lv_at hl 0 rfl) ?_
  refine va_get (D := D) (ci := 6) (v := .ref aR) (C := RX6) (T := TX6) (N := 11) hx hb hts (fun w h => (List.mem_cons_of_mem _ (hinX6 w h))) hown hK hP 0 rfl rfl 0 (by decide) (hts _ (List.mem_cons_of_mem _ wd_189)) (fun _ h9 => h9) rfl dX6_box_1 ?_
  refine va_get (D := D) (ci := 3) (v := .int (iI rn)) (C := RX3) (T := TX3) (N := 2) hx hb hts (fun w h => (List.mem_cons_of_mem _ (hinX3 w h))) hown hK hP 1 rfl rfl 1 (by decide) (hts _ (List.mem_cons_of_mem _ wd_65)) (fun _ h9 => h9) rfl dX6_box_4 ?_
  refine lv_bipush (v := iI 11) hx hb dX6_box_7 (by decide) ?_
  refine wk_icmp_eq (tgt := 22) hx hb dX6_box_9 (by decide) (by omega) (fun c_1 => ?_) (fun c_1 => ?_)
  · skip
    refine lv_iload_n hx hb dX6_box_22 rfl (lv_at hl 1 rfl) ?_
    refine lv_iconst (v := iI 1) hx hb dX6_box_23 rfl ?_
    refine wk_icmp_lt (tgt := 33) hx hb dX6_box_24 (by decide) (by omega) (fun c_2 => ?_) (fun c_2 => ?_)
    · skip
      exfalso; omega
    · skip
      refine lv_iload_n hx hb dX6_box_27 rfl (lv_at hl 1 rfl) ?_
      refine lv_ldc (v := 100000) hx hb hown (hts _ (List.mem_cons_of_mem _ wd_382)) dX6_box_28 ?_
      refine wk_eqi (show (100000 : Int32) = iI 100000 by decide) ?_
      refine wk_icmp_le (tgt := 43) hx hb dX6_box_30 (by decide) (by omega) (fun c_3 => ?_) (fun c_3 => ?_)
      · skip
        refine lv_aload_n hx hb dX6_box_43 rfl (lv_at hl 0 rfl) ?_
        refine va_get (D := D) (ci := 6) (v := .ref aB) (C := RX6) (T := TX6) (N := 11) hx hb hts (fun w h => (List.mem_cons_of_mem _ (hinX6 w h))) hown hK hP 0 rfl rfl 1 (by decide) (hts _ (List.mem_cons_of_mem _ wd_190)) (fun _ h9 => h9) rfl dX6_box_44 ?_
        refine va_get (D := D) (ci := 1) (v := .int (iI bn)) (C := RX1) (T := TX1) (N := 5) hx hb hts (fun w h => (List.mem_cons_of_mem _ (hinX1 w h))) hown hK hP 2 rfl rfl 4 (by decide) (hts _ (List.mem_cons_of_mem _ wd_86)) (fun _ h9 => h9) rfl dX6_box_47 ?_
        refine lv_bipush (v := iI 20) hx hb dX6_box_50 (by decide) ?_
        refine wk_icmp_lt (tgt := 65) hx hb dX6_box_52 (by decide) (by omega) (fun c_4 => ?_) (fun c_4 => ?_)
        · skip
          exfalso; omega
        · skip
          obtain ⟨q9, hZ9⟩ := xt_s102 hxT
          exact wt_new (names := exN) hx hb hown (Launch.traces_off hfl hadm) hlocks hnoh (hl.1.trans hml.symm) (by decide) (by decide) (ex_s (fun w h => hts w (List.mem_cons_of_mem _ h)) hzT hxT) (hts _ (List.mem_cons_of_mem _ wd_348)) (hts _ (List.mem_cons_of_mem _ wd_46)) hZ9 dX6_box_55 dX6_box_58 dX6_box_59 dX6_box_61 dX6_box_64 (Nat.le_of_ble_eq_true rfl) (Nat.le_of_ble_eq_true rfl) (Nat.le_of_ble_eq_true rfl) (Nat.le_of_ble_eq_true rfl)
      · skip
        exfalso; omega
  · skip
    exfalso; omega

set_option maxHeartbeats 4000000 in
set_option maxRecDepth 100000 in
theorem tX6_box_n (l : Launch) (D : va_G) (kI : ClassId) (kZ : ClassId) (kL : ClassId) (kJ : ClassId) (g : Nat) (aR : Nat) (aB : Nat) (aT : Nat) (aS : Nat) (aK : Nat) (aL : Nat) (aRs : Nat) (aBs : Nat) (aBw : Nat) (aBd : Nat) (aBv : Nat) (rs : Int → Int) (bs : Int → Int) (nw : Int) (al : Int) (lg : Int) (tt : Int) (dn : Int) (rn : Int) (bn : Int) (wt : Int) (dg : Int) (sz : Nat) (hrn : rn = 11) (hwt : 1 ≤ wt ∧ wt ≤ 100000) (hbn : 0 ≤ bn ∧ bn ≤ 20) (hb2 : bn < 20) (hrs : ∀ j, 0 ≤ rs j ∧ rs j ≤ 1000000) (hws : ∀ j, 0 ≤ j → j < 10 → 0 ≤ wrt (rs j) ∧ wrt (rs j) ≤ 26) (hbs : ∀ j, 0 ≤ bs j ∧ bs j ≤ 1000000) (h4 : ¬ (rs 10 = 65 + ckS rs 10 % 26 ∧ ¬ ¬ sc (pNB bs rs) (-1) (bn - 1 + 1 - 0).toNat 0 = -1)) : CtI l yX6_box wsX6_box ({ frames := 4, cells := 0, slots := 0, locals := 82 }) D vwCl (tyL kI kZ kL kJ) [(g, .inr (6, [.ref aR, .ref aB, .ref aT, .ref aS, .ref aK, .ref aL, .int (iI nw), .int (iI al), .int (iI lg), .int (iI tt), .int (iI dn)])), (aR, .inr (3, [.ref aRs, .int (iI rn)])), (aRs, .inl (kI, 11, .inl (iF rs))), (aB, .inr (1, [.ref aBs, .ref aBw, .ref aBd, .ref aBv, .int (iI bn)])), (aBs, .inl (kI, 200, .inl (iF bs)))] [.ref g, .int (iI wt), .int (iI dg)] (iI (-1)) [(g, .inr (6, [.ref aR, .ref aB, .ref aT, .ref aS, .ref aK, .ref aL, .int (iI nw), .int (iI al), .int (iI lg), .int (iI tt), .int (iI dn)])), (aR, .inr (3, [.ref aRs, .int (iI 0)])), (aRs, .inl (kI, 11, .inl (iF rs))), (aB, .inr (1, [.ref aBs, .ref aBw, .ref aBd, .ref aBv, .int (iI bn)])), (aBs, .inl (kI, 200, .inl (iF bs)))] sz := by
  refine ck_start (Qc := fun A => cQi D vwCl (tyL kI kZ kL kJ) A (iI (-1)) [(g, .inr (6, [.ref aR, .ref aB, .ref aT, .ref aS, .ref aK, .ref aL, .int (iI nw), .int (iI al), .int (iI lg), .int (iI tt), .int (iI dn)])), (aR, .inr (3, [.ref aRs, .int (iI 0)])), (aRs, .inl (kI, 11, .inl (iF rs))), (aB, .inr (1, [.ref aBs, .ref aBw, .ref aBd, .ref aBv, .int (iI bn)])), (aBs, .inl (kI, 200, .inl (iF bs)))]) (cc := cX6_box) (maxL := 4) (ret := (some .int)) (LV := [(0, .ref g), (1, .int (iI wt)), (2, .int (iI dg))]) (by decide) rfl rfl (Nat.le_of_ble_eq_true rfl) ?_
  intro p e s m below meth cd hadm hx hb hr hml hts hown hlocks hname hnoh hxT A hA hK hP hD hS ls hl
  refine lv_aload_n hx hb dX6_box_0 rfl (lv_at hl 0 rfl) ?_
  refine va_get (D := D) (ci := 6) (v := .ref aR) (C := RX6) (T := TX6) (N := 11) hx hb hts (fun w h => (List.mem_cons_of_mem _ (hinX6 w h))) hown hK hP 0 rfl rfl 0 (by decide) (hts _ (List.mem_cons_of_mem _ wd_189)) (fun _ h9 => h9) rfl dX6_box_1 ?_
  refine va_get (D := D) (ci := 3) (v := .int (iI rn)) (C := RX3) (T := TX3) (N := 2) hx hb hts (fun w h => (List.mem_cons_of_mem _ (hinX3 w h))) hown hK hP 1 rfl rfl 1 (by decide) (hts _ (List.mem_cons_of_mem _ wd_65)) (fun _ h9 => h9) rfl dX6_box_4 ?_
  refine lv_bipush (v := iI 11) hx hb dX6_box_7 (by decide) ?_
  refine wk_icmp_eq (tgt := 22) hx hb dX6_box_9 (by decide) (by omega) (fun c_1 => ?_) (fun c_1 => ?_)
  · skip
    refine lv_iload_n hx hb dX6_box_22 rfl (lv_at hl 1 rfl) ?_
    refine lv_iconst (v := iI 1) hx hb dX6_box_23 rfl ?_
    refine wk_icmp_lt (tgt := 33) hx hb dX6_box_24 (by decide) (by omega) (fun c_2 => ?_) (fun c_2 => ?_)
    · skip
      exfalso; omega
    · skip
      refine lv_iload_n hx hb dX6_box_27 rfl (lv_at hl 1 rfl) ?_
      refine lv_ldc (v := 100000) hx hb hown (hts _ (List.mem_cons_of_mem _ wd_382)) dX6_box_28 ?_
      refine wk_eqi (show (100000 : Int32) = iI 100000 by decide) ?_
      refine wk_icmp_le (tgt := 43) hx hb dX6_box_30 (by decide) (by omega) (fun c_3 => ?_) (fun c_3 => ?_)
      · skip
        refine lv_aload_n hx hb dX6_box_43 rfl (lv_at hl 0 rfl) ?_
        refine va_get (D := D) (ci := 6) (v := .ref aB) (C := RX6) (T := TX6) (N := 11) hx hb hts (fun w h => (List.mem_cons_of_mem _ (hinX6 w h))) hown hK hP 0 rfl rfl 1 (by decide) (hts _ (List.mem_cons_of_mem _ wd_190)) (fun _ h9 => h9) rfl dX6_box_44 ?_
        refine va_get (D := D) (ci := 1) (v := .int (iI bn)) (C := RX1) (T := TX1) (N := 5) hx hb hts (fun w h => (List.mem_cons_of_mem _ (hinX1 w h))) hown hK hP 3 rfl rfl 4 (by decide) (hts _ (List.mem_cons_of_mem _ wd_86)) (fun _ h9 => h9) rfl dX6_box_47 ?_
        refine lv_bipush (v := iI 20) hx hb dX6_box_50 (by decide) ?_
        refine wk_icmp_lt (tgt := 65) hx hb dX6_box_52 (by decide) (by omega) (fun c_4 => ?_) (fun c_4 => ?_)
        · skip
          refine lv_iconst (v := iI (-1)) hx hb dX6_box_65 rfl ?_
          refine lv_istore_n (lv' := [(3, .int (iI (-1))), (0, .ref g), (1, .int (iI wt)), (2, .int (iI dg))]) hx hb dX6_box_66 rfl hl (by decide) rfl (fun ls hl => ?_)
          refine lv_aload_n hx hb dX6_box_67 rfl (lv_at hl 1 rfl) ?_
          refine va_get (D := D) (ci := 6) (v := .ref aR) (C := RX6) (T := TX6) (N := 11) hx hb hts (fun w h => (List.mem_cons_of_mem _ (hinX6 w h))) hown hK hP 0 rfl rfl 0 (by decide) (hts _ (List.mem_cons_of_mem _ wd_189)) (fun _ h9 => h9) rfl dX6_box_68 ?_
          refine pk_callI (va_runV (As := []) (rest := []) ⟨hx, hb, hml, hown, hts⟩ (tX3_endsWithCheckLetter l D kI kZ kL kJ aR aRs rs rn s.heap.size (by first | assumption | omega) (by first | assumption | omega) (by first | assumption | omega)) (cwV 0 hts (gd_V tb_cons wd_385 wd_386 wd_387 wd_34 wd_388) rfl rfl rfl (by decide +kernel) ⟨Nat.le_of_ble_eq_true rfl, Nat.le_of_ble_eq_true rfl⟩) (ck_preV hxT hK hP hD [1, 2] rfl (by decide) (q0 := 0) rfl rfl rfl) rfl rfl hl.1 rfl (lv_room (Nat.le_of_ble_eq_true rfl)) dX6_box_71 ⟨Nat.zero_le _, Nat.zero_le _⟩) ?_
          refine wk_bif_eq (tgt := 111) hx hb dX6_box_74 (by decide) (fun c_5 => ?_) (fun c_5 => ?_)
          · skip
            refine lv_aload_n hx hb dX6_box_111 rfl (lv_at hl 1 rfl) ?_
            refine va_get (D := D) (ci := 6) (v := .ref aR) (C := RX6) (T := TX6) (N := 11) hx hb hts (fun w h => (List.mem_cons_of_mem _ (hinX6 w h))) hown hK hP 0 rfl rfl 0 (by decide) (hts _ (List.mem_cons_of_mem _ wd_189)) (fun _ h9 => h9) rfl dX6_box_112 ?_
            refine lv_iconst (v := iI 0) hx hb dX6_box_115 rfl ?_
            refine wk_put (ci := 3) (C := RX3) (T := TX3) (N := 2) hx hb hts (fun w h => (List.mem_cons_of_mem _ (hinX3 w h))) tyX3 tyX3_ok nmX3 hown hK hP hD hS 1 rfl rfl 1 (by decide) (hts _ (List.mem_cons_of_mem _ wd_65)) (fun _ h9 => h9) rfl rfl (Nat.le_of_ble_eq_true rfl) dX6_box_116 (ws' := [(g, .inr (6, [.ref aR, .ref aB, .ref aT, .ref aS, .ref aK, .ref aL, .int (iI nw), .int (iI al), .int (iI lg), .int (iI tt), .int (iI dn)])), (aR, .inr (3, [.ref aRs, .int (iI 0)])), (aRs, .inl (kI, 11, .inl (iF rs))), (aB, .inr (1, [.ref aBs, .ref aBw, .ref aBd, .ref aBv, .int (iI bn)])), (aBs, .inl (kI, 200, .inl (iF bs)))]) rfl (fun H locs hP hD hS => ?_)
            refine lv_iload_n hx hb dX6_box_119 rfl (lv_at hl 0 rfl) ?_
            exact rk_int hx hb hr hlocks hK hP hD hS (by first | rfl | omega) rfl dX6_box_120
          · skip
            refine lv_aload_n hx hb dX6_box_77 rfl (lv_at hl 1 rfl) ?_
            refine va_get (D := D) (ci := 6) (v := .ref aB) (C := RX6) (T := TX6) (N := 11) hx hb hts (fun w h => (List.mem_cons_of_mem _ (hinX6 w h))) hown hK hP 0 rfl rfl 1 (by decide) (hts _ (List.mem_cons_of_mem _ wd_190)) (fun _ h9 => h9) rfl dX6_box_78 ?_
            refine lv_aload_n hx hb dX6_box_81 rfl (lv_at hl 1 rfl) ?_
            refine va_get (D := D) (ci := 6) (v := .ref aR) (C := RX6) (T := TX6) (N := 11) hx hb hts (fun w h => (List.mem_cons_of_mem _ (hinX6 w h))) hown hK hP 0 rfl rfl 0 (by decide) (hts _ (List.mem_cons_of_mem _ wd_189)) (fun _ h9 => h9) rfl dX6_box_82 ?_
            refine va_get (D := D) (ci := 3) (v := .ref aRs) (C := RX3) (T := TX3) (N := 2) hx hb hts (fun w h => (List.mem_cons_of_mem _ (hinX3 w h))) hown hK hP 1 rfl rfl 0 (by decide) (hts _ (List.mem_cons_of_mem _ wd_63)) (fun _ h9 => h9) rfl dX6_box_85 ?_
            refine pk_callI (va_runV (As := [.ref aRs]) (rest := []) ⟨hx, hb, hml, hown, hts⟩ (tX1_hasNumber l D kI kZ kL kJ aB aBs aBw aBd aBv aRs bs rs bn s.heap.size (by first | assumption | omega) (by first | assumption | omega) (by first | assumption | omega)) (cwV 1 hts (gd_V tb_cons wd_390 wd_391 wd_392 wd_35 wd_393) rfl rfl rfl (by decide +kernel) ⟨Nat.le_of_ble_eq_true rfl, Nat.le_of_ble_eq_true rfl⟩) (ck_preV hxT hK hP hD [3, 4, 2] rfl (by decide) (q0 := 0) rfl rfl rfl) rfl rfl hl.1 rfl (lv_room (Nat.le_of_ble_eq_true rfl)) dX6_box_88 ⟨Nat.zero_le _, Nat.zero_le _⟩) ?_
            refine wk_bif_ne (tgt := 111) hx hb dX6_box_91 (by decide) (fun c_6 => ?_) (fun c_6 => ?_)
            · skip
              refine lv_aload_n hx hb dX6_box_111 rfl (lv_at hl 1 rfl) ?_
              refine va_get (D := D) (ci := 6) (v := .ref aR) (C := RX6) (T := TX6) (N := 11) hx hb hts (fun w h => (List.mem_cons_of_mem _ (hinX6 w h))) hown hK hP 0 rfl rfl 0 (by decide) (hts _ (List.mem_cons_of_mem _ wd_189)) (fun _ h9 => h9) rfl dX6_box_112 ?_
              refine lv_iconst (v := iI 0) hx hb dX6_box_115 rfl ?_
              refine wk_put (ci := 3) (C := RX3) (T := TX3) (N := 2) hx hb hts (fun w h => (List.mem_cons_of_mem _ (hinX3 w h))) tyX3 tyX3_ok nmX3 hown hK hP hD hS 1 rfl rfl 1 (by decide) (hts _ (List.mem_cons_of_mem _ wd_65)) (fun _ h9 => h9) rfl rfl (Nat.le_of_ble_eq_true rfl) dX6_box_116 (ws' := [(g, .inr (6, [.ref aR, .ref aB, .ref aT, .ref aS, .ref aK, .ref aL, .int (iI nw), .int (iI al), .int (iI lg), .int (iI tt), .int (iI dn)])), (aR, .inr (3, [.ref aRs, .int (iI 0)])), (aRs, .inl (kI, 11, .inl (iF rs))), (aB, .inr (1, [.ref aBs, .ref aBw, .ref aBd, .ref aBv, .int (iI bn)])), (aBs, .inl (kI, 200, .inl (iF bs)))]) rfl (fun H locs hP hD hS => ?_)
              refine lv_iload_n hx hb dX6_box_119 rfl (lv_at hl 0 rfl) ?_
              exact rk_int hx hb hr hlocks hK hP hD hS (by first | rfl | omega) rfl dX6_box_120
            · skip
              exfalso; omega
        · skip
          exfalso; omega
      · skip
        exfalso; omega
  · skip
    exfalso; omega

set_option maxHeartbeats 4000000 in
set_option maxRecDepth 100000 in
theorem tX6_box_a (l : Launch) (D : va_G) (kI : ClassId) (kZ : ClassId) (kL : ClassId) (kJ : ClassId) (g : Nat) (aR : Nat) (aB : Nat) (aT : Nat) (aS : Nat) (aK : Nat) (aL : Nat) (aRs : Nat) (aBs : Nat) (aBw : Nat) (aBd : Nat) (aBv : Nat) (rs : Int → Int) (bs : Int → Int) (bw : Int → Int) (bd : Int → Int) (bv : Int → Int) (nw : Int) (al : Int) (lg : Int) (tt : Int) (dn : Int) (rn : Int) (bn : Int) (wt : Int) (dg : Int) (sz : Nat) (hrn : rn = 11) (hwt : 1 ≤ wt ∧ wt ≤ 100000) (hbn : 0 ≤ bn ∧ bn ≤ 20) (hb2 : bn < 20) (hrs : ∀ j, 0 ≤ rs j ∧ rs j ≤ 1000000) (hws : ∀ j, 0 ≤ j → j < 10 → 0 ≤ wrt (rs j) ∧ wrt (rs j) ≤ 26) (hbs : ∀ j, 0 ≤ bs j ∧ bs j ≤ 1000000) (hdg : dg = 0 ∨ dg = 1) (h4 : rs 10 = 65 + ckS rs 10 % 26) (h5 : sc (pNB bs rs) (-1) (bn - 1 + 1 - 0).toNat 0 = -1) : CtI l yX6_box wsX6_box ({ frames := 4, cells := 0, slots := 0, locals := 82 }) D vwCl (tyL kI kZ kL kJ) [(g, .inr (6, [.ref aR, .ref aB, .ref aT, .ref aS, .ref aK, .ref aL, .int (iI nw), .int (iI al), .int (iI lg), .int (iI tt), .int (iI dn)])), (aR, .inr (3, [.ref aRs, .int (iI rn)])), (aRs, .inl (kI, 11, .inl (iF rs))), (aB, .inr (1, [.ref aBs, .ref aBw, .ref aBd, .ref aBv, .int (iI bn)])), (aBs, .inl (kI, 200, .inl (iF bs))), (aBw, .inl (kI, 20, .inl (iF bw))), (aBd, .inl (kZ, 20, .inl (iF bd))), (aBv, .inl (kI, 80, .inl (iF bv)))] [.ref g, .int (iI wt), .int (iI dg)] (iI bn) [(g, .inr (6, [.ref aR, .ref aB, .ref aT, .ref aS, .ref aK, .ref aL, .int (iI nw), .int (iI al), .int (iI lg), .int (iI tt), .int (iI dn)])), (aR, .inr (3, [.ref aRs, .int (iI 0)])), (aRs, .inl (kI, 11, .inl (iF rs))), (aB, .inr (1, [.ref aBs, .ref aBw, .ref aBd, .ref aBv, .int (iI (bn + 1))])), (aBs, .inl (kI, 200, .inl (iF (cpN bs (bn * 10) rs 10)))), (aBw, .inl (kI, 20, .inl (iF (iu bw bn wt)))), (aBd, .inl (kZ, 20, .inl (iF (iu bd bn dg)))), (aBv, .inl (kI, 80, .inl (iF (iu (iu (iu (iu bv (bn * 4 + 0) 0) (bn * 4 + 1) 1) (bn * 4 + 2) 1) (bn * 4 + 3) 1))))] sz := by
  refine ck_start (Qc := fun A => cQi D vwCl (tyL kI kZ kL kJ) A (iI bn) [(g, .inr (6, [.ref aR, .ref aB, .ref aT, .ref aS, .ref aK, .ref aL, .int (iI nw), .int (iI al), .int (iI lg), .int (iI tt), .int (iI dn)])), (aR, .inr (3, [.ref aRs, .int (iI 0)])), (aRs, .inl (kI, 11, .inl (iF rs))), (aB, .inr (1, [.ref aBs, .ref aBw, .ref aBd, .ref aBv, .int (iI (bn + 1))])), (aBs, .inl (kI, 200, .inl (iF (cpN bs (bn * 10) rs 10)))), (aBw, .inl (kI, 20, .inl (iF (iu bw bn wt)))), (aBd, .inl (kZ, 20, .inl (iF (iu bd bn dg)))), (aBv, .inl (kI, 80, .inl (iF (iu (iu (iu (iu bv (bn * 4 + 0) 0) (bn * 4 + 1) 1) (bn * 4 + 2) 1) (bn * 4 + 3) 1))))]) (cc := cX6_box) (maxL := 4) (ret := (some .int)) (LV := [(0, .ref g), (1, .int (iI wt)), (2, .int (iI dg))]) (by decide) rfl rfl (Nat.le_of_ble_eq_true rfl) ?_
  intro p e s m below meth cd hadm hx hb hr hml hts hown hlocks hname hnoh hxT A hA hK hP hD hS ls hl
  refine lv_aload_n hx hb dX6_box_0 rfl (lv_at hl 0 rfl) ?_
  refine va_get (D := D) (ci := 6) (v := .ref aR) (C := RX6) (T := TX6) (N := 11) hx hb hts (fun w h => (List.mem_cons_of_mem _ (hinX6 w h))) hown hK hP 0 rfl rfl 0 (by decide) (hts _ (List.mem_cons_of_mem _ wd_189)) (fun _ h9 => h9) rfl dX6_box_1 ?_
  refine va_get (D := D) (ci := 3) (v := .int (iI rn)) (C := RX3) (T := TX3) (N := 2) hx hb hts (fun w h => (List.mem_cons_of_mem _ (hinX3 w h))) hown hK hP 1 rfl rfl 1 (by decide) (hts _ (List.mem_cons_of_mem _ wd_65)) (fun _ h9 => h9) rfl dX6_box_4 ?_
  refine lv_bipush (v := iI 11) hx hb dX6_box_7 (by decide) ?_
  refine wk_icmp_eq (tgt := 22) hx hb dX6_box_9 (by decide) (by omega) (fun c_1 => ?_) (fun c_1 => ?_)
  · skip
    refine lv_iload_n hx hb dX6_box_22 rfl (lv_at hl 1 rfl) ?_
    refine lv_iconst (v := iI 1) hx hb dX6_box_23 rfl ?_
    refine wk_icmp_lt (tgt := 33) hx hb dX6_box_24 (by decide) (by omega) (fun c_2 => ?_) (fun c_2 => ?_)
    · skip
      exfalso; omega
    · skip
      refine lv_iload_n hx hb dX6_box_27 rfl (lv_at hl 1 rfl) ?_
      refine lv_ldc (v := 100000) hx hb hown (hts _ (List.mem_cons_of_mem _ wd_382)) dX6_box_28 ?_
      refine wk_eqi (show (100000 : Int32) = iI 100000 by decide) ?_
      refine wk_icmp_le (tgt := 43) hx hb dX6_box_30 (by decide) (by omega) (fun c_3 => ?_) (fun c_3 => ?_)
      · skip
        refine lv_aload_n hx hb dX6_box_43 rfl (lv_at hl 0 rfl) ?_
        refine va_get (D := D) (ci := 6) (v := .ref aB) (C := RX6) (T := TX6) (N := 11) hx hb hts (fun w h => (List.mem_cons_of_mem _ (hinX6 w h))) hown hK hP 0 rfl rfl 1 (by decide) (hts _ (List.mem_cons_of_mem _ wd_190)) (fun _ h9 => h9) rfl dX6_box_44 ?_
        refine va_get (D := D) (ci := 1) (v := .int (iI bn)) (C := RX1) (T := TX1) (N := 5) hx hb hts (fun w h => (List.mem_cons_of_mem _ (hinX1 w h))) hown hK hP 3 rfl rfl 4 (by decide) (hts _ (List.mem_cons_of_mem _ wd_86)) (fun _ h9 => h9) rfl dX6_box_47 ?_
        refine lv_bipush (v := iI 20) hx hb dX6_box_50 (by decide) ?_
        refine wk_icmp_lt (tgt := 65) hx hb dX6_box_52 (by decide) (by omega) (fun c_4 => ?_) (fun c_4 => ?_)
        · skip
          refine lv_iconst (v := iI (-1)) hx hb dX6_box_65 rfl ?_
          refine lv_istore_n (lv' := [(3, .int (iI (-1))), (0, .ref g), (1, .int (iI wt)), (2, .int (iI dg))]) hx hb dX6_box_66 rfl hl (by decide) rfl (fun ls hl => ?_)
          refine lv_aload_n hx hb dX6_box_67 rfl (lv_at hl 1 rfl) ?_
          refine va_get (D := D) (ci := 6) (v := .ref aR) (C := RX6) (T := TX6) (N := 11) hx hb hts (fun w h => (List.mem_cons_of_mem _ (hinX6 w h))) hown hK hP 0 rfl rfl 0 (by decide) (hts _ (List.mem_cons_of_mem _ wd_189)) (fun _ h9 => h9) rfl dX6_box_68 ?_
          refine pk_callI (va_runV (As := []) (rest := []) ⟨hx, hb, hml, hown, hts⟩ (tX3_endsWithCheckLetter l D kI kZ kL kJ aR aRs rs rn s.heap.size (by first | assumption | omega) (by first | assumption | omega) (by first | assumption | omega)) (cwV 0 hts (gd_V tb_cons wd_385 wd_386 wd_387 wd_34 wd_388) rfl rfl rfl (by decide +kernel) ⟨Nat.le_of_ble_eq_true rfl, Nat.le_of_ble_eq_true rfl⟩) (ck_preV hxT hK hP hD [1, 2] rfl (by decide) (q0 := 0) rfl rfl rfl) rfl rfl hl.1 rfl (lv_room (Nat.le_of_ble_eq_true rfl)) dX6_box_71 ⟨Nat.zero_le _, Nat.zero_le _⟩) ?_
          refine wk_bif_eq (tgt := 111) hx hb dX6_box_74 (by decide) (fun c_5 => ?_) (fun c_5 => ?_)
          · skip
            exfalso; omega
          · skip
            refine lv_aload_n hx hb dX6_box_77 rfl (lv_at hl 1 rfl) ?_
            refine va_get (D := D) (ci := 6) (v := .ref aB) (C := RX6) (T := TX6) (N := 11) hx hb hts (fun w h => (List.mem_cons_of_mem _ (hinX6 w h))) hown hK hP 0 rfl rfl 1 (by decide) (hts _ (List.mem_cons_of_mem _ wd_190)) (fun _ h9 => h9) rfl dX6_box_78 ?_
            refine lv_aload_n hx hb dX6_box_81 rfl (lv_at hl 1 rfl) ?_
            refine va_get (D := D) (ci := 6) (v := .ref aR) (C := RX6) (T := TX6) (N := 11) hx hb hts (fun w h => (List.mem_cons_of_mem _ (hinX6 w h))) hown hK hP 0 rfl rfl 0 (by decide) (hts _ (List.mem_cons_of_mem _ wd_189)) (fun _ h9 => h9) rfl dX6_box_82 ?_
            refine va_get (D := D) (ci := 3) (v := .ref aRs) (C := RX3) (T := TX3) (N := 2) hx hb hts (fun w h => (List.mem_cons_of_mem _ (hinX3 w h))) hown hK hP 1 rfl rfl 0 (by decide) (hts _ (List.mem_cons_of_mem _ wd_63)) (fun _ h9 => h9) rfl dX6_box_85 ?_
            refine pk_callI (va_runV (As := [.ref aRs]) (rest := []) ⟨hx, hb, hml, hown, hts⟩ (tX1_hasNumber l D kI kZ kL kJ aB aBs aBw aBd aBv aRs bs rs bn s.heap.size (by first | assumption | omega) (by first | assumption | omega) (by first | assumption | omega)) (cwV 1 hts (gd_V tb_cons wd_390 wd_391 wd_392 wd_35 wd_393) rfl rfl rfl (by decide +kernel) ⟨Nat.le_of_ble_eq_true rfl, Nat.le_of_ble_eq_true rfl⟩) (ck_preV hxT hK hP hD [3, 4, 2] rfl (by decide) (q0 := 0) rfl rfl rfl) rfl rfl hl.1 rfl (lv_room (Nat.le_of_ble_eq_true rfl)) dX6_box_88 ⟨Nat.zero_le _, Nat.zero_le _⟩) ?_
            refine wk_bif_ne (tgt := 111) hx hb dX6_box_91 (by decide) (fun c_6 => ?_) (fun c_6 => ?_)
            · skip
              exfalso; omega
            · skip
              refine lv_aload_n hx hb dX6_box_94 rfl (lv_at hl 1 rfl) ?_
              refine va_get (D := D) (ci := 6) (v := .ref aB) (C := RX6) (T := TX6) (N := 11) hx hb hts (fun w h => (List.mem_cons_of_mem _ (hinX6 w h))) hown hK hP 0 rfl rfl 1 (by decide) (hts _ (List.mem_cons_of_mem _ wd_190)) (fun _ h9 => h9) rfl dX6_box_95 ?_
              refine lv_aload_n hx hb dX6_box_98 rfl (lv_at hl 1 rfl) ?_
              refine va_get (D := D) (ci := 6) (v := .ref aR) (C := RX6) (T := TX6) (N := 11) hx hb hts (fun w h => (List.mem_cons_of_mem _ (hinX6 w h))) hown hK hP 0 rfl rfl 0 (by decide) (hts _ (List.mem_cons_of_mem _ wd_189)) (fun _ h9 => h9) rfl dX6_box_99 ?_
              refine va_get (D := D) (ci := 3) (v := .ref aRs) (C := RX3) (T := TX3) (N := 2) hx hb hts (fun w h => (List.mem_cons_of_mem _ (hinX3 w h))) hown hK hP 1 rfl rfl 0 (by decide) (hts _ (List.mem_cons_of_mem _ wd_63)) (fun _ h9 => h9) rfl dX6_box_102 ?_
              refine lv_iload_n hx hb dX6_box_105 rfl (lv_at hl 2 rfl) ?_
              refine lv_iload_n hx hb dX6_box_106 rfl (lv_at hl 3 rfl) ?_
              refine ck_backI (va_runV (As := [.ref aRs, .int (iI wt), .int (iI dg)]) (rest := []) ⟨hx, hb, hml, hown, hts⟩ (tX1_add l D kI kZ kL kJ aB aBs aBw aBd aBv aRs bs bw bd bv rs bn wt dg s.heap.size (by first | assumption | omega) (by first | assumption | omega) (by first | assumption | omega)) (cwV 3 hts (gd_V tb_cons wd_398 wd_399 wd_400 wd_35 wd_401) rfl rfl rfl (by decide +kernel) ⟨Nat.le_of_ble_eq_true rfl, Nat.le_of_ble_eq_true rfl⟩) (ck_preV hxT hK hP hD [3, 4, 5, 6, 7, 2] rfl (by decide) (q0 := 0) rfl rfl rfl) rfl rfl hl.1 rfl (lv_room (Nat.le_of_ble_eq_true rfl)) dX6_box_107 ⟨Nat.zero_le _, Nat.zero_le _⟩) hP hD hS hA [3, 4, 5, 6, 7, 2] [0, 1] (WR := [(g, .inr (6, [.ref aR, .ref aB, .ref aT, .ref aS, .ref aK, .ref aL, .int (iI nw), .int (iI al), .int (iI lg), .int (iI tt), .int (iI dn)])), (aR, .inr (3, [.ref aRs, .int (iI rn)]))]) rfl rfl (by decide) (by decide) (ws' := [(g, .inr (6, [.ref aR, .ref aB, .ref aT, .ref aS, .ref aK, .ref aL, .int (iI nw), .int (iI al), .int (iI lg), .int (iI tt), .int (iI dn)])), (aR, .inr (3, [.ref aRs, .int (iI rn)])), (aB, .inr (1, [.ref aBs, .ref aBw, .ref aBd, .ref aBv, .int (iI (bn + 1))])), (aBs, .inl (kI, 200, .inl (iF (cpN bs (bn * 10) rs 10)))), (aBw, .inl (kI, 20, .inl (iF (iu bw bn wt)))), (aBd, .inl (kZ, 20, .inl (iF (iu bd bn dg)))), (aBv, .inl (kI, 80, .inl (iF (iu (iu (iu (iu bv (bn * 4 + 0) 0) (bn * 4 + 1) 1) (bn * 4 + 2) 1) (bn * 4 + 3) 1)))), (aRs, .inl (kI, 11, .inl (iF rs)))]) rfl (fun H locs hP hD hS => ?_)
              refine lv_istore_n (lv' := [(3, .int (iI bn)), (0, .ref g), (1, .int (iI wt)), (2, .int (iI dg))]) hx hb dX6_box_110 rfl hl (by decide) rfl (fun ls hl => ?_)
              refine lv_aload_n hx hb dX6_box_111 rfl (lv_at hl 1 rfl) ?_
              refine va_get (D := D) (ci := 6) (v := .ref aR) (C := RX6) (T := TX6) (N := 11) hx hb hts (fun w h => (List.mem_cons_of_mem _ (hinX6 w h))) hown hK hP 0 rfl rfl 0 (by decide) (hts _ (List.mem_cons_of_mem _ wd_189)) (fun _ h9 => h9) rfl dX6_box_112 ?_
              refine lv_iconst (v := iI 0) hx hb dX6_box_115 rfl ?_
              refine wk_put (ci := 3) (C := RX3) (T := TX3) (N := 2) hx hb hts (fun w h => (List.mem_cons_of_mem _ (hinX3 w h))) tyX3 tyX3_ok nmX3 hown hK hP hD hS 1 rfl rfl 1 (by decide) (hts _ (List.mem_cons_of_mem _ wd_65)) (fun _ h9 => h9) rfl rfl (Nat.le_of_ble_eq_true rfl) dX6_box_116 (ws' := [(g, .inr (6, [.ref aR, .ref aB, .ref aT, .ref aS, .ref aK, .ref aL, .int (iI nw), .int (iI al), .int (iI lg), .int (iI tt), .int (iI dn)])), (aR, .inr (3, [.ref aRs, .int (iI 0)])), (aB, .inr (1, [.ref aBs, .ref aBw, .ref aBd, .ref aBv, .int (iI (bn + 1))])), (aBs, .inl (kI, 200, .inl (iF (cpN bs (bn * 10) rs 10)))), (aBw, .inl (kI, 20, .inl (iF (iu bw bn wt)))), (aBd, .inl (kZ, 20, .inl (iF (iu bd bn dg)))), (aBv, .inl (kI, 80, .inl (iF (iu (iu (iu (iu bv (bn * 4 + 0) 0) (bn * 4 + 1) 1) (bn * 4 + 2) 1) (bn * 4 + 3) 1)))), (aRs, .inl (kI, 11, .inl (iF rs)))]) rfl (fun H locs hP hD hS => ?_)
              refine lv_iload_n hx hb dX6_box_119 rfl (lv_at hl 0 rfl) ?_
              have hP := hP.sub (ws' := [(g, .inr (6, [.ref aR, .ref aB, .ref aT, .ref aS, .ref aK, .ref aL, .int (iI nw), .int (iI al), .int (iI lg), .int (iI tt), .int (iI dn)])), (aR, .inr (3, [.ref aRs, .int (iI 0)])), (aRs, .inl (kI, 11, .inl (iF rs))), (aB, .inr (1, [.ref aBs, .ref aBw, .ref aBd, .ref aBv, .int (iI (bn + 1))])), (aBs, .inl (kI, 200, .inl (iF (cpN bs (bn * 10) rs 10)))), (aBw, .inl (kI, 20, .inl (iF (iu bw bn wt)))), (aBd, .inl (kZ, 20, .inl (iF (iu bd bn dg)))), (aBv, .inl (kI, 80, .inl (iF (iu (iu (iu (iu bv (bn * 4 + 0) 0) (bn * 4 + 1) 1) (bn * 4 + 2) 1) (bn * 4 + 3) 1))))]) [0, 1, 7, 2, 3, 4, 5, 6] rfl
              have hD := hD.sub (ws' := [(g, .inr (6, [.ref aR, .ref aB, .ref aT, .ref aS, .ref aK, .ref aL, .int (iI nw), .int (iI al), .int (iI lg), .int (iI tt), .int (iI dn)])), (aR, .inr (3, [.ref aRs, .int (iI 0)])), (aRs, .inl (kI, 11, .inl (iF rs))), (aB, .inr (1, [.ref aBs, .ref aBw, .ref aBd, .ref aBv, .int (iI (bn + 1))])), (aBs, .inl (kI, 200, .inl (iF (cpN bs (bn * 10) rs 10)))), (aBw, .inl (kI, 20, .inl (iF (iu bw bn wt)))), (aBd, .inl (kZ, 20, .inl (iF (iu bd bn dg)))), (aBv, .inl (kI, 80, .inl (iF (iu (iu (iu (iu bv (bn * 4 + 0) 0) (bn * 4 + 1) 1) (bn * 4 + 2) 1) (bn * 4 + 3) 1))))]) [0, 1, 7, 2, 3, 4, 5, 6] (by decide) rfl
              exact rk_int hx hb hr hlocks hK hP hD hS (by first | rfl | omega) rfl dX6_box_120
        · skip
          exfalso; omega
      · skip
        exfalso; omega
  · skip
    exfalso; omega

set_option maxHeartbeats 4000000 in
set_option maxRecDepth 100000 in
theorem tX6_check_t1 (l : Launch) (D : va_G) (kI : ClassId) (kZ : ClassId) (kL : ClassId) (kJ : ClassId) (g : Nat) (aR : Nat) (aB : Nat) (aT : Nat) (aS : Nat) (aK : Nat) (aL : Nat) (nw : Int) (al : Int) (lg : Int) (tt : Int) (dn : Int) (kd : Int) (of : Int) (vd : Int) (sz : Nat) (hfl : l.flags = pinnedFlags ++ [noTraceFlag]) (hkd : -2147483648 ≤ kd ∧ kd ≤ 2147483647) (h1 : ¬ (0 ≤ kd ∧ kd ≤ 5)) : CtT l yX6_check wsX6_check ({ frames := 6, cells := 1, slots := 6, locals := 82 }) D vwCl (tyL kI kZ kL kJ) [(g, .inr (6, [.ref aR, .ref aB, .ref aT, .ref aS, .ref aK, .ref aL, .int (iI nw), .int (iI al), .int (iI lg), .int (iI tt), .int (iI dn)]))] [.ref g, .int (iI kd), .int (iI of), .int (iI vd)] "java/lang/IllegalArgumentException" sz := by
  refine ct_start (cc := cX6_check) (maxL := 4) (ret := (some .int)) (LV := [(0, .ref g), (1, .int (iI kd)), (2, .int (iI of)), (3, .int (iI vd))]) (by decide) rfl rfl (Nat.le_of_ble_eq_true rfl) ?_
  intro p e s m below meth cd hadm hx hb hr hml hts hown hlocks hname hnoh hxT hzT A hA hK hP hD hS ls hl
  refine lv_iload_n hx hb dX6_check_0 rfl (lv_at hl 1 rfl) ?_
  refine wk_if_lt (tgt := 9) hx hb dX6_check_1 (by decide) (by omega) (fun c_1 => ?_) (fun c_1 => ?_)
  · skip
    obtain ⟨q9, hZ9⟩ := xt_s119 hxT
    exact wt_new (names := exN) hx hb hown (Launch.traces_off hfl hadm) hlocks hnoh (hl.1.trans hml.symm) (by decide) (by decide) (ex_a (fun w h => hts w (List.mem_cons_of_mem _ h)) hzT hxT) (hts _ (List.mem_cons_of_mem _ wd_280)) (hts _ (List.mem_cons_of_mem _ wd_45)) hZ9 dX6_check_9 dX6_check_12 dX6_check_13 dX6_check_15 dX6_check_18 (Nat.le_of_ble_eq_true rfl) (Nat.le_of_ble_eq_true rfl) (Nat.le_of_ble_eq_true rfl) (Nat.le_of_ble_eq_true rfl)
  · skip
    refine lv_iload_n hx hb dX6_check_4 rfl (lv_at hl 1 rfl) ?_
    refine lv_iconst (v := iI 5) hx hb dX6_check_5 rfl ?_
    refine wk_icmp_le (tgt := 19) hx hb dX6_check_6 (by decide) (by omega) (fun c_2 => ?_) (fun c_2 => ?_)
    · skip
      exfalso; omega
    · skip
      obtain ⟨q9, hZ9⟩ := xt_s119 hxT
      exact wt_new (names := exN) hx hb hown (Launch.traces_off hfl hadm) hlocks hnoh (hl.1.trans hml.symm) (by decide) (by decide) (ex_a (fun w h => hts w (List.mem_cons_of_mem _ h)) hzT hxT) (hts _ (List.mem_cons_of_mem _ wd_280)) (hts _ (List.mem_cons_of_mem _ wd_45)) hZ9 dX6_check_9 dX6_check_12 dX6_check_13 dX6_check_15 dX6_check_18 (Nat.le_of_ble_eq_true rfl) (Nat.le_of_ble_eq_true rfl) (Nat.le_of_ble_eq_true rfl) (Nat.le_of_ble_eq_true rfl)

set_option maxHeartbeats 4000000 in
set_option maxRecDepth 100000 in
theorem tX6_check_t2 (l : Launch) (D : va_G) (kI : ClassId) (kZ : ClassId) (kL : ClassId) (kJ : ClassId) (g : Nat) (aR : Nat) (aB : Nat) (aT : Nat) (aS : Nat) (aK : Nat) (aL : Nat) (aBs : Nat) (aBw : Nat) (aBd : Nat) (aBv : Nat) (nw : Int) (al : Int) (lg : Int) (tt : Int) (dn : Int) (bn : Int) (kd : Int) (of : Int) (vd : Int) (sz : Nat) (hfl : l.flags = pinnedFlags ++ [noTraceFlag]) (hkd : 0 ≤ kd ∧ kd < 4) (hbn : 0 ≤ bn ∧ bn ≤ 20) (hof : -2147483648 ≤ of ∧ of ≤ 2147483647) (h2 : ¬ (0 ≤ of ∧ of < bn)) : CtT l yX6_check wsX6_check ({ frames := 7, cells := 1, slots := 6, locals := 103 }) D vwCl (tyL kI kZ kL kJ) [(g, .inr (6, [.ref aR, .ref aB, .ref aT, .ref aS, .ref aK, .ref aL, .int (iI nw), .int (iI al), .int (iI lg), .int (iI tt), .int (iI dn)])), (aB, .inr (1, [.ref aBs, .ref aBw, .ref aBd, .ref aBv, .int (iI bn)]))] [.ref g, .int (iI kd), .int (iI of), .int (iI vd)] "java/lang/IndexOutOfBoundsException" sz := by
  refine ct_start (cc := cX6_check) (maxL := 4) (ret := (some .int)) (LV := [(0, .ref g), (1, .int (iI kd)), (2, .int (iI of)), (3, .int (iI vd))]) (by decide) rfl rfl (Nat.le_of_ble_eq_true rfl) ?_
  intro p e s m below meth cd hadm hx hb hr hml hts hown hlocks hname hnoh hxT hzT A hA hK hP hD hS ls hl
  refine lv_iload_n hx hb dX6_check_0 rfl (lv_at hl 1 rfl) ?_
  refine wk_if_lt (tgt := 9) hx hb dX6_check_1 (by decide) (by omega) (fun c_1 => ?_) (fun c_1 => ?_)
  · skip
    exfalso; omega
  · skip
    refine lv_iload_n hx hb dX6_check_4 rfl (lv_at hl 1 rfl) ?_
    refine lv_iconst (v := iI 5) hx hb dX6_check_5 rfl ?_
    refine wk_icmp_le (tgt := 19) hx hb dX6_check_6 (by decide) (by omega) (fun c_2 => ?_) (fun c_2 => ?_)
    · skip
      refine lv_iload_n hx hb dX6_check_19 rfl (lv_at hl 1 rfl) ?_
      refine lv_iconst (v := iI 4) hx hb dX6_check_20 rfl ?_
      refine wk_icmp_ge (tgt := 32) hx hb dX6_check_21 (by decide) (by omega) (fun c_3 => ?_) (fun c_3 => ?_)
      · skip
        exfalso; omega
      · skip
        refine lv_aload_n hx hb dX6_check_24 rfl (lv_at hl 0 rfl) ?_
        refine lv_iload_n hx hb dX6_check_25 rfl (lv_at hl 2 rfl) ?_
        exact wt_leave (rest := []) (wt_runV (As := [.int (iI of)]) (rest := []) ⟨hx, hb, hml, hown, hts⟩ (tX6_needBox_t l D kI kZ kL kJ g aR aB aT aS aK aL aBs aBw aBd aBv nw al lg tt dn bn of s.heap.size hfl (by first | assumption | omega) (by first | assumption | omega) (by first | assumption | omega)) (cwV 1 hts (gd_V tb_cons wd_415 wd_417 wd_2 wd_33 wd_418) rfl rfl rfl (by decide +kernel) ⟨Nat.le_of_ble_eq_true rfl, Nat.le_of_ble_eq_true rfl⟩) (ck_preT hzT hxT hK hP hD [0, 1] rfl (by decide) (q0 := 0) rfl rfl rfl) rfl rfl hl.1 rfl (lv_room (Nat.le_of_ble_eq_true rfl)) dX6_check_26 ⟨Nat.le_of_ble_eq_true rfl, Nat.le_of_ble_eq_true rfl⟩) hnoh hlocks
    · skip
      exfalso; omega

set_option maxHeartbeats 4000000 in
set_option maxRecDepth 100000 in
theorem tX6_check_t3 (l : Launch) (D : va_G) (kI : ClassId) (kZ : ClassId) (kL : ClassId) (kJ : ClassId) (g : Nat) (aR : Nat) (aB : Nat) (aT : Nat) (aS : Nat) (aK : Nat) (aL : Nat) (nw : Int) (al : Int) (lg : Int) (tt : Int) (dn : Int) (kd : Int) (of : Int) (vd : Int) (sz : Nat) (hfl : l.flags = pinnedFlags ++ [noTraceFlag]) (hkd : 4 ≤ kd ∧ kd < 6) (hof : -2147483648 ≤ of ∧ of ≤ 2147483647) (h2 : ¬ (0 ≤ of ∧ of < 16)) : CtT l yX6_check wsX6_check ({ frames := 7, cells := 1, slots := 6, locals := 103 }) D vwCl (tyL kI kZ kL kJ) [(g, .inr (6, [.ref aR, .ref aB, .ref aT, .ref aS, .ref aK, .ref aL, .int (iI nw), .int (iI al), .int (iI lg), .int (iI tt), .int (iI dn)]))] [.ref g, .int (iI kd), .int (iI of), .int (iI vd)] "java/lang/IndexOutOfBoundsException" sz := by
  refine ct_start (cc := cX6_check) (maxL := 4) (ret := (some .int)) (LV := [(0, .ref g), (1, .int (iI kd)), (2, .int (iI of)), (3, .int (iI vd))]) (by decide) rfl rfl (Nat.le_of_ble_eq_true rfl) ?_
  intro p e s m below meth cd hadm hx hb hr hml hts hown hlocks hname hnoh hxT hzT A hA hK hP hD hS ls hl
  refine lv_iload_n hx hb dX6_check_0 rfl (lv_at hl 1 rfl) ?_
  refine wk_if_lt (tgt := 9) hx hb dX6_check_1 (by decide) (by omega) (fun c_1 => ?_) (fun c_1 => ?_)
  · skip
    exfalso; omega
  · skip
    refine lv_iload_n hx hb dX6_check_4 rfl (lv_at hl 1 rfl) ?_
    refine lv_iconst (v := iI 5) hx hb dX6_check_5 rfl ?_
    refine wk_icmp_le (tgt := 19) hx hb dX6_check_6 (by decide) (by omega) (fun c_2 => ?_) (fun c_2 => ?_)
    · skip
      refine lv_iload_n hx hb dX6_check_19 rfl (lv_at hl 1 rfl) ?_
      refine lv_iconst (v := iI 4) hx hb dX6_check_20 rfl ?_
      refine wk_icmp_ge (tgt := 32) hx hb dX6_check_21 (by decide) (by omega) (fun c_3 => ?_) (fun c_3 => ?_)
      · skip
        refine lv_aload_n hx hb dX6_check_32 rfl (lv_at hl 0 rfl) ?_
        refine lv_iload_n hx hb dX6_check_33 rfl (lv_at hl 2 rfl) ?_
        exact wt_leave (rest := []) (wt_runV (As := [.int (iI of)]) (rest := []) ⟨hx, hb, hml, hown, hts⟩ (tX6_needTruck_t l D kI kZ kL kJ g aR aB aT aS aK aL nw al lg tt dn of s.heap.size hfl (by first | assumption | omega) (by first | assumption | omega)) (cwV 1 hts (gd_V tb_cons wd_435 wd_437 wd_3 wd_33 wd_438) rfl rfl rfl (by decide +kernel) ⟨Nat.le_of_ble_eq_true rfl, Nat.le_of_ble_eq_true rfl⟩) (ck_preT hzT hxT hK hP hD [0] rfl (by decide) (q0 := 0) rfl rfl rfl) rfl rfl hl.1 rfl (lv_room (Nat.le_of_ble_eq_true rfl)) dX6_check_34 ⟨Nat.le_of_ble_eq_true rfl, Nat.le_of_ble_eq_true rfl⟩) hnoh hlocks
      · skip
        exfalso; omega
    · skip
      exfalso; omega

set_option maxHeartbeats 4000000 in
set_option maxRecDepth 100000 in
theorem tX6_check_t4 (l : Launch) (D : va_G) (kI : ClassId) (kZ : ClassId) (kL : ClassId) (kJ : ClassId) (g : Nat) (aR : Nat) (aB : Nat) (aT : Nat) (aS : Nat) (aK : Nat) (aL : Nat) (aBs : Nat) (aBw : Nat) (aBd : Nat) (aBv : Nat) (nw : Int) (al : Int) (lg : Int) (tt : Int) (dn : Int) (bn : Int) (kd : Int) (of : Int) (vd : Int) (sz : Nat) (hfl : l.flags = pinnedFlags ++ [noTraceFlag]) (hkd : 0 ≤ kd ∧ kd < 4) (hbn : 0 ≤ bn ∧ bn ≤ 20) (hof : 0 ≤ of ∧ of < bn) (hvd : -2147483648 ≤ vd ∧ vd ≤ 2147483647) (h3 : ¬ ((vd = 2 ∧ (kd = 1 ∨ kd = 2)) ∨ vd = 0 ∨ vd = 1)) : CtT l yX6_check wsX6_check ({ frames := 6, cells := 1, slots := 6, locals := 82 }) D vwCl (tyL kI kZ kL kJ) [(g, .inr (6, [.ref aR, .ref aB, .ref aT, .ref aS, .ref aK, .ref aL, .int (iI nw), .int (iI al), .int (iI lg), .int (iI tt), .int (iI dn)])), (aB, .inr (1, [.ref aBs, .ref aBw, .ref aBd, .ref aBv, .int (iI bn)]))] [.ref g, .int (iI kd), .int (iI of), .int (iI vd)] "java/lang/IllegalArgumentException" sz := by
  refine ct_start (cc := cX6_check) (maxL := 4) (ret := (some .int)) (LV := [(0, .ref g), (1, .int (iI kd)), (2, .int (iI of)), (3, .int (iI vd))]) (by decide) rfl rfl (Nat.le_of_ble_eq_true rfl) ?_
  intro p e s m below meth cd hadm hx hb hr hml hts hown hlocks hname hnoh hxT hzT A hA hK hP hD hS ls hl
  refine lv_iload_n hx hb dX6_check_0 rfl (lv_at hl 1 rfl) ?_
  refine wk_if_lt (tgt := 9) hx hb dX6_check_1 (by decide) (by omega) (fun c_1 => ?_) (fun c_1 => ?_)
  · skip
    exfalso; omega
  · skip
    refine lv_iload_n hx hb dX6_check_4 rfl (lv_at hl 1 rfl) ?_
    refine lv_iconst (v := iI 5) hx hb dX6_check_5 rfl ?_
    refine wk_icmp_le (tgt := 19) hx hb dX6_check_6 (by decide) (by omega) (fun c_2 => ?_) (fun c_2 => ?_)
    · skip
      refine lv_iload_n hx hb dX6_check_19 rfl (lv_at hl 1 rfl) ?_
      refine lv_iconst (v := iI 4) hx hb dX6_check_20 rfl ?_
      refine wk_icmp_ge (tgt := 32) hx hb dX6_check_21 (by decide) (by omega) (fun c_3 => ?_) (fun c_3 => ?_)
      · skip
        exfalso; omega
      · skip
        refine lv_aload_n hx hb dX6_check_24 rfl (lv_at hl 0 rfl) ?_
        refine lv_iload_n hx hb dX6_check_25 rfl (lv_at hl 2 rfl) ?_
        refine pk_callV (va_runV (As := [.int (iI of)]) (rest := []) ⟨hx, hb, hml, hown, hts⟩ (tX6_needBox l D kI kZ kL kJ g aR aB aT aS aK aL aBs aBw aBd aBv nw al lg tt dn bn of s.heap.size (by first | assumption | omega) (by first | assumption | omega)) (cwV 1 hts (gd_V tb_cons wd_415 wd_417 wd_2 wd_33 wd_418) rfl rfl rfl (by decide +kernel) ⟨Nat.le_of_ble_eq_true rfl, Nat.le_of_ble_eq_true rfl⟩) (ck_preV hxT hK hP hD [0, 1] rfl (by decide) (q0 := 0) rfl rfl rfl) rfl rfl hl.1 rfl (lv_room (Nat.le_of_ble_eq_true rfl)) dX6_check_26 ⟨Nat.zero_le _, Nat.zero_le _⟩) ?_
        refine lv_goto (tgt := 37) hx hb dX6_check_29 (by decide) ?_
        refine lv_iload_n hx hb dX6_check_37 rfl (lv_at hl 1 rfl) ?_
        refine lv_iload_n hx hb dX6_check_38 rfl (lv_at hl 3 rfl) ?_
        refine pk_callI (va_runS (As := [.int (iI kd), .int (iI vd)]) (rest := []) ⟨hx, hb, hml, hown, hts⟩ (tX6_canBe l D kI kZ kL kJ kd vd s.heap.size (by first | assumption | omega) (by first | assumption | omega)) (cwS 2 hts (gd_S tb_cons wd_440 wd_441 wd_33 wd_442) rfl rfl rfl (by decide +kernel) ⟨Nat.le_of_ble_eq_true rfl, Nat.le_of_ble_eq_true rfl⟩) (ck_preS hxT hK hP hD [] rfl (by decide)) rfl rfl hl.1 rfl (lv_room (Nat.le_of_ble_eq_true rfl)) dX6_check_39 ⟨Nat.zero_le _, Nat.zero_le _⟩) ?_
        refine wk_bif_ne (tgt := 55) hx hb dX6_check_42 (by decide) (fun c_4 => ?_) (fun c_4 => ?_)
        · skip
          exfalso; omega
        · skip
          obtain ⟨q9, hZ9⟩ := xt_s131 hxT
          exact wt_new (names := exN) hx hb hown (Launch.traces_off hfl hadm) hlocks hnoh (hl.1.trans hml.symm) (by decide) (by decide) (ex_a (fun w h => hts w (List.mem_cons_of_mem _ h)) hzT hxT) (hts _ (List.mem_cons_of_mem _ wd_280)) (hts _ (List.mem_cons_of_mem _ wd_45)) hZ9 dX6_check_45 dX6_check_48 dX6_check_49 dX6_check_51 dX6_check_54 (Nat.le_of_ble_eq_true rfl) (Nat.le_of_ble_eq_true rfl) (Nat.le_of_ble_eq_true rfl) (Nat.le_of_ble_eq_true rfl)
    · skip
      exfalso; omega

set_option maxHeartbeats 4000000 in
set_option maxRecDepth 100000 in
theorem tX6_check_t5 (l : Launch) (D : va_G) (kI : ClassId) (kZ : ClassId) (kL : ClassId) (kJ : ClassId) (g : Nat) (aR : Nat) (aB : Nat) (aT : Nat) (aS : Nat) (aK : Nat) (aL : Nat) (nw : Int) (al : Int) (lg : Int) (tt : Int) (dn : Int) (kd : Int) (of : Int) (vd : Int) (sz : Nat) (hfl : l.flags = pinnedFlags ++ [noTraceFlag]) (hkd : 4 ≤ kd ∧ kd < 6) (hof : 0 ≤ of ∧ of < 16) (hvd : -2147483648 ≤ vd ∧ vd ≤ 2147483647) (h3 : ¬ ((vd = 2 ∧ (kd = 1 ∨ kd = 2)) ∨ vd = 0 ∨ vd = 1)) : CtT l yX6_check wsX6_check ({ frames := 6, cells := 1, slots := 6, locals := 82 }) D vwCl (tyL kI kZ kL kJ) [(g, .inr (6, [.ref aR, .ref aB, .ref aT, .ref aS, .ref aK, .ref aL, .int (iI nw), .int (iI al), .int (iI lg), .int (iI tt), .int (iI dn)]))] [.ref g, .int (iI kd), .int (iI of), .int (iI vd)] "java/lang/IllegalArgumentException" sz := by
  refine ct_start (cc := cX6_check) (maxL := 4) (ret := (some .int)) (LV := [(0, .ref g), (1, .int (iI kd)), (2, .int (iI of)), (3, .int (iI vd))]) (by decide) rfl rfl (Nat.le_of_ble_eq_true rfl) ?_
  intro p e s m below meth cd hadm hx hb hr hml hts hown hlocks hname hnoh hxT hzT A hA hK hP hD hS ls hl
  refine lv_iload_n hx hb dX6_check_0 rfl (lv_at hl 1 rfl) ?_
  refine wk_if_lt (tgt := 9) hx hb dX6_check_1 (by decide) (by omega) (fun c_1 => ?_) (fun c_1 => ?_)
  · skip
    exfalso; omega
  · skip
    refine lv_iload_n hx hb dX6_check_4 rfl (lv_at hl 1 rfl) ?_
    refine lv_iconst (v := iI 5) hx hb dX6_check_5 rfl ?_
    refine wk_icmp_le (tgt := 19) hx hb dX6_check_6 (by decide) (by omega) (fun c_2 => ?_) (fun c_2 => ?_)
    · skip
      refine lv_iload_n hx hb dX6_check_19 rfl (lv_at hl 1 rfl) ?_
      refine lv_iconst (v := iI 4) hx hb dX6_check_20 rfl ?_
      refine wk_icmp_ge (tgt := 32) hx hb dX6_check_21 (by decide) (by omega) (fun c_3 => ?_) (fun c_3 => ?_)
      · skip
        refine lv_aload_n hx hb dX6_check_32 rfl (lv_at hl 0 rfl) ?_
        refine lv_iload_n hx hb dX6_check_33 rfl (lv_at hl 2 rfl) ?_
        refine pk_callV (va_runV (As := [.int (iI of)]) (rest := []) ⟨hx, hb, hml, hown, hts⟩ (tX6_needTruck l D kI kZ kL kJ g aR aB aT aS aK aL nw al lg tt dn of s.heap.size (by first | assumption | omega)) (cwV 1 hts (gd_V tb_cons wd_435 wd_437 wd_3 wd_33 wd_438) rfl rfl rfl (by decide +kernel) ⟨Nat.le_of_ble_eq_true rfl, Nat.le_of_ble_eq_true rfl⟩) (ck_preV hxT hK hP hD [0] rfl (by decide) (q0 := 0) rfl rfl rfl) rfl rfl hl.1 rfl (lv_room (Nat.le_of_ble_eq_true rfl)) dX6_check_34 ⟨Nat.zero_le _, Nat.zero_le _⟩) ?_
        refine lv_iload_n hx hb dX6_check_37 rfl (lv_at hl 1 rfl) ?_
        refine lv_iload_n hx hb dX6_check_38 rfl (lv_at hl 3 rfl) ?_
        refine pk_callI (va_runS (As := [.int (iI kd), .int (iI vd)]) (rest := []) ⟨hx, hb, hml, hown, hts⟩ (tX6_canBe l D kI kZ kL kJ kd vd s.heap.size (by first | assumption | omega) (by first | assumption | omega)) (cwS 2 hts (gd_S tb_cons wd_440 wd_441 wd_33 wd_442) rfl rfl rfl (by decide +kernel) ⟨Nat.le_of_ble_eq_true rfl, Nat.le_of_ble_eq_true rfl⟩) (ck_preS hxT hK hP hD [] rfl (by decide)) rfl rfl hl.1 rfl (lv_room (Nat.le_of_ble_eq_true rfl)) dX6_check_39 ⟨Nat.zero_le _, Nat.zero_le _⟩) ?_
        refine wk_bif_ne (tgt := 55) hx hb dX6_check_42 (by decide) (fun c_4 => ?_) (fun c_4 => ?_)
        · skip
          exfalso; omega
        · skip
          obtain ⟨q9, hZ9⟩ := xt_s131 hxT
          exact wt_new (names := exN) hx hb hown (Launch.traces_off hfl hadm) hlocks hnoh (hl.1.trans hml.symm) (by decide) (by decide) (ex_a (fun w h => hts w (List.mem_cons_of_mem _ h)) hzT hxT) (hts _ (List.mem_cons_of_mem _ wd_280)) (hts _ (List.mem_cons_of_mem _ wd_45)) hZ9 dX6_check_45 dX6_check_48 dX6_check_49 dX6_check_51 dX6_check_54 (Nat.le_of_ble_eq_true rfl) (Nat.le_of_ble_eq_true rfl) (Nat.le_of_ble_eq_true rfl) (Nat.le_of_ble_eq_true rfl)
      · skip
        exfalso; omega
    · skip
      exfalso; omega

set_option maxHeartbeats 4000000 in
set_option maxRecDepth 100000 in
theorem tX6_check_r (l : Launch) (D : va_G) (kI : ClassId) (kZ : ClassId) (kL : ClassId) (kJ : ClassId) (g : Nat) (aR : Nat) (aB : Nat) (aT : Nat) (aS : Nat) (aK : Nat) (aL : Nat) (aTv : Nat) (tv : Int → Int) (nw : Int) (al : Int) (lg : Int) (tt : Int) (dn : Int) (kd : Int) (of : Int) (vd : Int) (sz : Nat) (hkd : 4 ≤ kd ∧ kd < 6) (hof : 0 ≤ of ∧ of < 16) (h3 : ((vd = 2 ∧ (kd = 1 ∨ kd = 2)) ∨ vd = 0 ∨ vd = 1)) : CtI l yX6_check wsX6_check ({ frames := 1, cells := 0, slots := 0, locals := 23 }) D vwCl (tyL kI kZ kL kJ) [(g, .inr (6, [.ref aR, .ref aB, .ref aT, .ref aS, .ref aK, .ref aL, .int (iI nw), .int (iI al), .int (iI lg), .int (iI tt), .int (iI dn)])), (aT, .inr (5, [.ref aTv])), (aTv, .inl (kI, 32, .inl (iF tv)))] [.ref g, .int (iI kd), .int (iI of), .int (iI vd)] (iI 0) [(g, .inr (6, [.ref aR, .ref aB, .ref aT, .ref aS, .ref aK, .ref aL, .int (iI nw), .int (iI al), .int (iI lg), .int (iI tt), .int (iI dn)])), (aT, .inr (5, [.ref aTv])), (aTv, .inl (kI, 32, .inl (iF (iu tv (of * 2 + kd - 4) vd))))] sz := by
  refine ck_start (Qc := fun A => cQi D vwCl (tyL kI kZ kL kJ) A (iI 0) [(g, .inr (6, [.ref aR, .ref aB, .ref aT, .ref aS, .ref aK, .ref aL, .int (iI nw), .int (iI al), .int (iI lg), .int (iI tt), .int (iI dn)])), (aT, .inr (5, [.ref aTv])), (aTv, .inl (kI, 32, .inl (iF (iu tv (of * 2 + kd - 4) vd))))]) (cc := cX6_check) (maxL := 4) (ret := (some .int)) (LV := [(0, .ref g), (1, .int (iI kd)), (2, .int (iI of)), (3, .int (iI vd))]) (by decide) rfl rfl (Nat.le_of_ble_eq_true rfl) ?_
  intro p e s m below meth cd hadm hx hb hr hml hts hown hlocks hname hnoh hxT A hA hK hP hD hS ls hl
  refine lv_iload_n hx hb dX6_check_0 rfl (lv_at hl 1 rfl) ?_
  refine wk_if_lt (tgt := 9) hx hb dX6_check_1 (by decide) (by omega) (fun c_1 => ?_) (fun c_1 => ?_)
  · skip
    exfalso; omega
  · skip
    refine lv_iload_n hx hb dX6_check_4 rfl (lv_at hl 1 rfl) ?_
    refine lv_iconst (v := iI 5) hx hb dX6_check_5 rfl ?_
    refine wk_icmp_le (tgt := 19) hx hb dX6_check_6 (by decide) (by omega) (fun c_2 => ?_) (fun c_2 => ?_)
    · skip
      refine lv_iload_n hx hb dX6_check_19 rfl (lv_at hl 1 rfl) ?_
      refine lv_iconst (v := iI 4) hx hb dX6_check_20 rfl ?_
      refine wk_icmp_ge (tgt := 32) hx hb dX6_check_21 (by decide) (by omega) (fun c_3 => ?_) (fun c_3 => ?_)
      · skip
        refine lv_aload_n hx hb dX6_check_32 rfl (lv_at hl 0 rfl) ?_
        refine lv_iload_n hx hb dX6_check_33 rfl (lv_at hl 2 rfl) ?_
        refine pk_callV (va_runV (As := [.int (iI of)]) (rest := []) ⟨hx, hb, hml, hown, hts⟩ (tX6_needTruck l D kI kZ kL kJ g aR aB aT aS aK aL nw al lg tt dn of s.heap.size (by first | assumption | omega)) (cwV 1 hts (gd_V tb_cons wd_435 wd_437 wd_3 wd_33 wd_438) rfl rfl rfl (by decide +kernel) ⟨Nat.le_of_ble_eq_true rfl, Nat.le_of_ble_eq_true rfl⟩) (ck_preV hxT hK hP hD [0] rfl (by decide) (q0 := 0) rfl rfl rfl) rfl rfl hl.1 rfl (lv_room (Nat.le_of_ble_eq_true rfl)) dX6_check_34 ⟨Nat.zero_le _, Nat.zero_le _⟩) ?_
        refine lv_iload_n hx hb dX6_check_37 rfl (lv_at hl 1 rfl) ?_
        refine lv_iload_n hx hb dX6_check_38 rfl (lv_at hl 3 rfl) ?_
        refine pk_callI (va_runS (As := [.int (iI kd), .int (iI vd)]) (rest := []) ⟨hx, hb, hml, hown, hts⟩ (tX6_canBe l D kI kZ kL kJ kd vd s.heap.size (by first | assumption | omega) (by first | assumption | omega)) (cwS 2 hts (gd_S tb_cons wd_440 wd_441 wd_33 wd_442) rfl rfl rfl (by decide +kernel) ⟨Nat.le_of_ble_eq_true rfl, Nat.le_of_ble_eq_true rfl⟩) (ck_preS hxT hK hP hD [] rfl (by decide)) rfl rfl hl.1 rfl (lv_room (Nat.le_of_ble_eq_true rfl)) dX6_check_39 ⟨Nat.zero_le _, Nat.zero_le _⟩) ?_
        refine wk_bif_ne (tgt := 55) hx hb dX6_check_42 (by decide) (fun c_4 => ?_) (fun c_4 => ?_)
        · skip
          refine lv_iload_n hx hb dX6_check_55 rfl (lv_at hl 1 rfl) ?_
          refine lv_iconst (v := iI 4) hx hb dX6_check_56 rfl ?_
          refine wk_icmp_lt (tgt := 72) hx hb dX6_check_57 (by decide) (by omega) (fun c_5 => ?_) (fun c_5 => ?_)
          · skip
            exfalso; omega
          · skip
            refine lv_aload_n hx hb dX6_check_60 rfl (lv_at hl 0 rfl) ?_
            refine va_get (D := D) (ci := 6) (v := .ref aT) (C := RX6) (T := TX6) (N := 11) hx hb hts (fun w h => (List.mem_cons_of_mem _ (hinX6 w h))) hown hK hP 0 rfl rfl 2 (by decide) (hts _ (List.mem_cons_of_mem _ wd_191)) (fun _ h9 => h9) rfl dX6_check_61 ?_
            refine lv_iload_n hx hb dX6_check_64 rfl (lv_at hl 2 rfl) ?_
            refine lv_iload_n hx hb dX6_check_65 rfl (lv_at hl 1 rfl) ?_
            refine lv_iload_n hx hb dX6_check_66 rfl (lv_at hl 3 rfl) ?_
            refine ck_backV (va_runV (As := [.int (iI of), .int (iI kd), .int (iI vd)]) (rest := []) ⟨hx, hb, hml, hown, hts⟩ (tX5_judge l D kI kZ kL kJ aT aTv tv of kd vd s.heap.size (by first | assumption | omega) (by first | assumption | omega)) (cwV 3 hts (gd_V tb_cons wd_444 wd_445 wd_446 wd_36 wd_447) rfl rfl rfl (by decide +kernel) ⟨Nat.le_of_ble_eq_true rfl, Nat.le_of_ble_eq_true rfl⟩) (ck_preV hxT hK hP hD [1, 2] rfl (by decide) (q0 := 0) rfl rfl rfl) rfl rfl hl.1 rfl (lv_room (Nat.le_of_ble_eq_true rfl)) dX6_check_67 ⟨Nat.zero_le _, Nat.zero_le _⟩) hP hD hS hA [1, 2] [0] (WR := [(g, .inr (6, [.ref aR, .ref aB, .ref aT, .ref aS, .ref aK, .ref aL, .int (iI nw), .int (iI al), .int (iI lg), .int (iI tt), .int (iI dn)]))]) rfl rfl (by decide) (by decide) (ws' := [(g, .inr (6, [.ref aR, .ref aB, .ref aT, .ref aS, .ref aK, .ref aL, .int (iI nw), .int (iI al), .int (iI lg), .int (iI tt), .int (iI dn)])), (aT, .inr (5, [.ref aTv])), (aTv, .inl (kI, 32, .inl (iF (iu tv (of * 2 + kd - 4) vd))))]) rfl (fun H locs hP hD hS => ?_)
            refine lv_iconst (v := iI 0) hx hb dX6_check_70 rfl ?_
            exact rk_int hx hb hr hlocks hK hP hD hS (by first | rfl | omega) rfl dX6_check_71
        · skip
          exfalso; omega
      · skip
        exfalso; omega
    · skip
      exfalso; omega

set_option maxHeartbeats 4000000 in
set_option maxRecDepth 100000 in
theorem tX6_check_b (l : Launch) (D : va_G) (kI : ClassId) (kZ : ClassId) (kL : ClassId) (kJ : ClassId) (g : Nat) (aR : Nat) (aB : Nat) (aT : Nat) (aS : Nat) (aK : Nat) (aL : Nat) (aBs : Nat) (aBw : Nat) (aBd : Nat) (aBv : Nat) (bv : Int → Int) (nw : Int) (al : Int) (lg : Int) (tt : Int) (dn : Int) (bn : Int) (kd : Int) (of : Int) (vd : Int) (sz : Nat) (hkd : 0 ≤ kd ∧ kd < 4) (hbn : 0 ≤ bn ∧ bn ≤ 20) (hof : 0 ≤ of ∧ of < bn) (h3 : ((vd = 2 ∧ (kd = 1 ∨ kd = 2)) ∨ vd = 0 ∨ vd = 1)) (h4 : ¬ (kd = 0 ∧ vd = 0)) : CtI l yX6_check wsX6_check ({ frames := 1, cells := 0, slots := 0, locals := 23 }) D vwCl (tyL kI kZ kL kJ) [(g, .inr (6, [.ref aR, .ref aB, .ref aT, .ref aS, .ref aK, .ref aL, .int (iI nw), .int (iI al), .int (iI lg), .int (iI tt), .int (iI dn)])), (aB, .inr (1, [.ref aBs, .ref aBw, .ref aBd, .ref aBv, .int (iI bn)])), (aBv, .inl (kI, 80, .inl (iF bv)))] [.ref g, .int (iI kd), .int (iI of), .int (iI vd)] (iI 0) [(g, .inr (6, [.ref aR, .ref aB, .ref aT, .ref aS, .ref aK, .ref aL, .int (iI nw), .int (iI al), .int (iI lg), .int (iI tt), .int (iI dn)])), (aB, .inr (1, [.ref aBs, .ref aBw, .ref aBd, .ref aBv, .int (iI bn)])), (aBv, .inl (kI, 80, .inl (iF (iu bv (of * 4 + kd) vd))))] sz := by
  refine ck_start (Qc := fun A => cQi D vwCl (tyL kI kZ kL kJ) A (iI 0) [(g, .inr (6, [.ref aR, .ref aB, .ref aT, .ref aS, .ref aK, .ref aL, .int (iI nw), .int (iI al), .int (iI lg), .int (iI tt), .int (iI dn)])), (aB, .inr (1, [.ref aBs, .ref aBw, .ref aBd, .ref aBv, .int (iI bn)])), (aBv, .inl (kI, 80, .inl (iF (iu bv (of * 4 + kd) vd))))]) (cc := cX6_check) (maxL := 4) (ret := (some .int)) (LV := [(0, .ref g), (1, .int (iI kd)), (2, .int (iI of)), (3, .int (iI vd))]) (by decide) rfl rfl (Nat.le_of_ble_eq_true rfl) ?_
  intro p e s m below meth cd hadm hx hb hr hml hts hown hlocks hname hnoh hxT A hA hK hP hD hS ls hl
  refine lv_iload_n hx hb dX6_check_0 rfl (lv_at hl 1 rfl) ?_
  refine wk_if_lt (tgt := 9) hx hb dX6_check_1 (by decide) (by omega) (fun c_1 => ?_) (fun c_1 => ?_)
  · skip
    exfalso; omega
  · skip
    refine lv_iload_n hx hb dX6_check_4 rfl (lv_at hl 1 rfl) ?_
    refine lv_iconst (v := iI 5) hx hb dX6_check_5 rfl ?_
    refine wk_icmp_le (tgt := 19) hx hb dX6_check_6 (by decide) (by omega) (fun c_2 => ?_) (fun c_2 => ?_)
    · skip
      refine lv_iload_n hx hb dX6_check_19 rfl (lv_at hl 1 rfl) ?_
      refine lv_iconst (v := iI 4) hx hb dX6_check_20 rfl ?_
      refine wk_icmp_ge (tgt := 32) hx hb dX6_check_21 (by decide) (by omega) (fun c_3 => ?_) (fun c_3 => ?_)
      · skip
        exfalso; omega
      · skip
        refine lv_aload_n hx hb dX6_check_24 rfl (lv_at hl 0 rfl) ?_
        refine lv_iload_n hx hb dX6_check_25 rfl (lv_at hl 2 rfl) ?_
        refine pk_callV (va_runV (As := [.int (iI of)]) (rest := []) ⟨hx, hb, hml, hown, hts⟩ (tX6_needBox l D kI kZ kL kJ g aR aB aT aS aK aL aBs aBw aBd aBv nw al lg tt dn bn of s.heap.size (by first | assumption | omega) (by first | assumption | omega)) (cwV 1 hts (gd_V tb_cons wd_415 wd_417 wd_2 wd_33 wd_418) rfl rfl rfl (by decide +kernel) ⟨Nat.le_of_ble_eq_true rfl, Nat.le_of_ble_eq_true rfl⟩) (ck_preV hxT hK hP hD [0, 1] rfl (by decide) (q0 := 0) rfl rfl rfl) rfl rfl hl.1 rfl (lv_room (Nat.le_of_ble_eq_true rfl)) dX6_check_26 ⟨Nat.zero_le _, Nat.zero_le _⟩) ?_
        refine lv_goto (tgt := 37) hx hb dX6_check_29 (by decide) ?_
        refine lv_iload_n hx hb dX6_check_37 rfl (lv_at hl 1 rfl) ?_
        refine lv_iload_n hx hb dX6_check_38 rfl (lv_at hl 3 rfl) ?_
        refine pk_callI (va_runS (As := [.int (iI kd), .int (iI vd)]) (rest := []) ⟨hx, hb, hml, hown, hts⟩ (tX6_canBe l D kI kZ kL kJ kd vd s.heap.size (by first | assumption | omega) (by first | assumption | omega)) (cwS 2 hts (gd_S tb_cons wd_440 wd_441 wd_33 wd_442) rfl rfl rfl (by decide +kernel) ⟨Nat.le_of_ble_eq_true rfl, Nat.le_of_ble_eq_true rfl⟩) (ck_preS hxT hK hP hD [] rfl (by decide)) rfl rfl hl.1 rfl (lv_room (Nat.le_of_ble_eq_true rfl)) dX6_check_39 ⟨Nat.zero_le _, Nat.zero_le _⟩) ?_
        refine wk_bif_ne (tgt := 55) hx hb dX6_check_42 (by decide) (fun c_4 => ?_) (fun c_4 => ?_)
        · skip
          refine lv_iload_n hx hb dX6_check_55 rfl (lv_at hl 1 rfl) ?_
          refine lv_iconst (v := iI 4) hx hb dX6_check_56 rfl ?_
          refine wk_icmp_lt (tgt := 72) hx hb dX6_check_57 (by decide) (by omega) (fun c_5 => ?_) (fun c_5 => ?_)
          · skip
            refine lv_aload_n hx hb dX6_check_72 rfl (lv_at hl 0 rfl) ?_
            refine va_get (D := D) (ci := 6) (v := .ref aB) (C := RX6) (T := TX6) (N := 11) hx hb hts (fun w h => (List.mem_cons_of_mem _ (hinX6 w h))) hown hK hP 0 rfl rfl 1 (by decide) (hts _ (List.mem_cons_of_mem _ wd_190)) (fun _ h9 => h9) rfl dX6_check_73 ?_
            refine lv_iload_n hx hb dX6_check_76 rfl (lv_at hl 2 rfl) ?_
            refine lv_iload_n hx hb dX6_check_77 rfl (lv_at hl 1 rfl) ?_
            refine lv_iload_n hx hb dX6_check_78 rfl (lv_at hl 3 rfl) ?_
            refine ck_backV (va_runV (As := [.int (iI of), .int (iI kd), .int (iI vd)]) (rest := []) ⟨hx, hb, hml, hown, hts⟩ (tX1_judge l D kI kZ kL kJ aB aBs aBw aBd aBv bv bn of kd vd s.heap.size (by first | assumption | omega) (by first | assumption | omega)) (cwV 3 hts (gd_V tb_cons wd_448 wd_403 wd_404 wd_35 wd_405) rfl rfl rfl (by decide +kernel) ⟨Nat.le_of_ble_eq_true rfl, Nat.le_of_ble_eq_true rfl⟩) (ck_preV hxT hK hP hD [1, 2] rfl (by decide) (q0 := 0) rfl rfl rfl) rfl rfl hl.1 rfl (lv_room (Nat.le_of_ble_eq_true rfl)) dX6_check_79 ⟨Nat.zero_le _, Nat.zero_le _⟩) hP hD hS hA [1, 2] [0] (WR := [(g, .inr (6, [.ref aR, .ref aB, .ref aT, .ref aS, .ref aK, .ref aL, .int (iI nw), .int (iI al), .int (iI lg), .int (iI tt), .int (iI dn)]))]) rfl rfl (by decide) (by decide) (ws' := [(g, .inr (6, [.ref aR, .ref aB, .ref aT, .ref aS, .ref aK, .ref aL, .int (iI nw), .int (iI al), .int (iI lg), .int (iI tt), .int (iI dn)])), (aB, .inr (1, [.ref aBs, .ref aBw, .ref aBd, .ref aBv, .int (iI bn)])), (aBv, .inl (kI, 80, .inl (iF (iu bv (of * 4 + kd) vd))))]) rfl (fun H locs hP hD hS => ?_)
            refine lv_iload_n hx hb dX6_check_82 rfl (lv_at hl 1 rfl) ?_
            refine wk_if_ne (tgt := 98) hx hb dX6_check_83 (by decide) (by omega) (fun c_6 => ?_) (fun c_6 => ?_)
            · skip
              refine lv_iconst (v := iI 0) hx hb dX6_check_98 rfl ?_
              exact rk_int hx hb hr hlocks hK hP hD hS (by first | rfl | omega) rfl dX6_check_99
            · skip
              refine lv_iload_n hx hb dX6_check_86 rfl (lv_at hl 3 rfl) ?_
              refine wk_if_ne (tgt := 98) hx hb dX6_check_87 (by decide) (by omega) (fun c_7 => ?_) (fun c_7 => ?_)
              · skip
                refine lv_iconst (v := iI 0) hx hb dX6_check_98 rfl ?_
                exact rk_int hx hb hr hlocks hK hP hD hS (by first | rfl | omega) rfl dX6_check_99
              · skip
                exfalso; omega
          · skip
            exfalso; omega
        · skip
          exfalso; omega
    · skip
      exfalso; omega

set_option maxHeartbeats 4000000 in
set_option maxRecDepth 100000 in
theorem tX6_check_wn (l : Launch) (D : va_G) (kI : ClassId) (kZ : ClassId) (kL : ClassId) (kJ : ClassId) (g : Nat) (aR : Nat) (aB : Nat) (aT : Nat) (aS : Nat) (aK : Nat) (aL : Nat) (aBs : Nat) (aBw : Nat) (aBd : Nat) (aBv : Nat) (aKs : Nat) (aKt : Nat) (aKb : Nat) (aKz : Nat) (aKl : Nat) (aKc : Nat) (aKu : Nat) (bv : Int → Int) (kb : Int → Int) (kz : Int → Int) (nw : Int) (al : Int) (lg : Int) (tt : Int) (dn : Int) (bn : Int) (kn : Int) (bx : Int) (sz : Nat) (hbn : 0 ≤ bn ∧ bn ≤ 20) (hof : 0 ≤ bx ∧ bx < bn) (hkn : 0 ≤ kn ∧ kn ≤ 60) (hkb : ∀ j, 0 ≤ kb j ∧ kb j ≤ 1000000) (hkz : ∀ j, 0 ≤ kz j ∧ kz j ≤ 1000000) (hX : sc (pIN kb kz bx) (-1) (kn + 1 - 1).toNat 1 = -1) : CtI l yX6_check wsX6_check ({ frames := 2, cells := 0, slots := 0, locals := 44 }) D vwCl (tyL kI kZ kL kJ) [(g, .inr (6, [.ref aR, .ref aB, .ref aT, .ref aS, .ref aK, .ref aL, .int (iI nw), .int (iI al), .int (iI lg), .int (iI tt), .int (iI dn)])), (aB, .inr (1, [.ref aBs, .ref aBw, .ref aBd, .ref aBv, .int (iI bn)])), (aBv, .inl (kI, 80, .inl (iF bv))), (aK, .inr (0, [.ref aKs, .ref aKt, .ref aKb, .ref aKz, .ref aKl, .ref aKc, .ref aKu, .int (iI kn)])), (aKb, .inl (kI, 61, .inl (iF kb))), (aKz, .inl (kI, 61, .inl (iF kz)))] [.ref g, .int (iI 0), .int (iI bx), .int (iI 0)] (iI 0) [(g, .inr (6, [.ref aR, .ref aB, .ref aT, .ref aS, .ref aK, .ref aL, .int (iI nw), .int (iI al), .int (iI lg), .int (iI tt), .int (iI dn)])), (aB, .inr (1, [.ref aBs, .ref aBw, .ref aBd, .ref aBv, .int (iI bn)])), (aBv, .inl (kI, 80, .inl (iF (iu bv (bx * 4 + 0) 0)))), (aK, .inr (0, [.ref aKs, .ref aKt, .ref aKb, .ref aKz, .ref aKl, .ref aKc, .ref aKu, .int (iI kn)])), (aKb, .inl (kI, 61, .inl (iF kb))), (aKz, .inl (kI, 61, .inl (iF kz)))] sz := by
  refine ck_start (Qc := fun A => cQi D vwCl (tyL kI kZ kL kJ) A (iI 0) [(g, .inr (6, [.ref aR, .ref aB, .ref aT, .ref aS, .ref aK, .ref aL, .int (iI nw), .int (iI al), .int (iI lg), .int (iI tt), .int (iI dn)])), (aB, .inr (1, [.ref aBs, .ref aBw, .ref aBd, .ref aBv, .int (iI bn)])), (aBv, .inl (kI, 80, .inl (iF (iu bv (bx * 4 + 0) 0)))), (aK, .inr (0, [.ref aKs, .ref aKt, .ref aKb, .ref aKz, .ref aKl, .ref aKc, .ref aKu, .int (iI kn)])), (aKb, .inl (kI, 61, .inl (iF kb))), (aKz, .inl (kI, 61, .inl (iF kz)))]) (cc := cX6_check) (maxL := 4) (ret := (some .int)) (LV := [(0, .ref g), (1, .int (iI 0)), (2, .int (iI bx)), (3, .int (iI 0))]) (by decide) rfl rfl (Nat.le_of_ble_eq_true rfl) ?_
  intro p e s m below meth cd hadm hx hb hr hml hts hown hlocks hname hnoh hxT A hA hK hP hD hS ls hl
  refine lv_iload_n hx hb dX6_check_0 rfl (lv_at hl 1 rfl) ?_
  refine wk_if_lt (tgt := 9) hx hb dX6_check_1 (by decide) (by omega) (fun c_1 => ?_) (fun c_1 => ?_)
  · skip
    exfalso; omega
  · skip
    refine lv_iload_n hx hb dX6_check_4 rfl (lv_at hl 1 rfl) ?_
    refine lv_iconst (v := iI 5) hx hb dX6_check_5 rfl ?_
    refine wk_icmp_le (tgt := 19) hx hb dX6_check_6 (by decide) (by omega) (fun c_2 => ?_) (fun c_2 => ?_)
    · skip
      refine lv_iload_n hx hb dX6_check_19 rfl (lv_at hl 1 rfl) ?_
      refine lv_iconst (v := iI 4) hx hb dX6_check_20 rfl ?_
      refine wk_icmp_ge (tgt := 32) hx hb dX6_check_21 (by decide) (by omega) (fun c_3 => ?_) (fun c_3 => ?_)
      · skip
        exfalso; omega
      · skip
        refine lv_aload_n hx hb dX6_check_24 rfl (lv_at hl 0 rfl) ?_
        refine lv_iload_n hx hb dX6_check_25 rfl (lv_at hl 2 rfl) ?_
        refine pk_callV (va_runV (As := [.int (iI bx)]) (rest := []) ⟨hx, hb, hml, hown, hts⟩ (tX6_needBox l D kI kZ kL kJ g aR aB aT aS aK aL aBs aBw aBd aBv nw al lg tt dn bn bx s.heap.size (by first | assumption | omega) (by first | assumption | omega)) (cwV 1 hts (gd_V tb_cons wd_415 wd_417 wd_2 wd_33 wd_418) rfl rfl rfl (by decide +kernel) ⟨Nat.le_of_ble_eq_true rfl, Nat.le_of_ble_eq_true rfl⟩) (ck_preV hxT hK hP hD [0, 1] rfl (by decide) (q0 := 0) rfl rfl rfl) rfl rfl hl.1 rfl (lv_room (Nat.le_of_ble_eq_true rfl)) dX6_check_26 ⟨Nat.zero_le _, Nat.zero_le _⟩) ?_
        refine lv_goto (tgt := 37) hx hb dX6_check_29 (by decide) ?_
        refine lv_iload_n hx hb dX6_check_37 rfl (lv_at hl 1 rfl) ?_
        refine lv_iload_n hx hb dX6_check_38 rfl (lv_at hl 3 rfl) ?_
        refine pk_callI (va_runS (As := [.int (iI 0), .int (iI 0)]) (rest := []) ⟨hx, hb, hml, hown, hts⟩ (tX6_canBe l D kI kZ kL kJ 0 0 s.heap.size (by first | assumption | omega) (by first | assumption | omega)) (cwS 2 hts (gd_S tb_cons wd_440 wd_441 wd_33 wd_442) rfl rfl rfl (by decide +kernel) ⟨Nat.le_of_ble_eq_true rfl, Nat.le_of_ble_eq_true rfl⟩) (ck_preS hxT hK hP hD [] rfl (by decide)) rfl rfl hl.1 rfl (lv_room (Nat.le_of_ble_eq_true rfl)) dX6_check_39 ⟨Nat.zero_le _, Nat.zero_le _⟩) ?_
        refine wk_bif_ne (tgt := 55) hx hb dX6_check_42 (by decide) (fun c_4 => ?_) (fun c_4 => ?_)
        · skip
          refine lv_iload_n hx hb dX6_check_55 rfl (lv_at hl 1 rfl) ?_
          refine lv_iconst (v := iI 4) hx hb dX6_check_56 rfl ?_
          refine wk_icmp_lt (tgt := 72) hx hb dX6_check_57 (by decide) (by omega) (fun c_5 => ?_) (fun c_5 => ?_)
          · skip
            refine lv_aload_n hx hb dX6_check_72 rfl (lv_at hl 0 rfl) ?_
            refine va_get (D := D) (ci := 6) (v := .ref aB) (C := RX6) (T := TX6) (N := 11) hx hb hts (fun w h => (List.mem_cons_of_mem _ (hinX6 w h))) hown hK hP 0 rfl rfl 1 (by decide) (hts _ (List.mem_cons_of_mem _ wd_190)) (fun _ h9 => h9) rfl dX6_check_73 ?_
            refine lv_iload_n hx hb dX6_check_76 rfl (lv_at hl 2 rfl) ?_
            refine lv_iload_n hx hb dX6_check_77 rfl (lv_at hl 1 rfl) ?_
            refine lv_iload_n hx hb dX6_check_78 rfl (lv_at hl 3 rfl) ?_
            refine ck_backV (va_runV (As := [.int (iI bx), .int (iI 0), .int (iI 0)]) (rest := []) ⟨hx, hb, hml, hown, hts⟩ (tX1_judge l D kI kZ kL kJ aB aBs aBw aBd aBv bv bn bx 0 0 s.heap.size (by first | assumption | omega) (by first | assumption | omega)) (cwV 3 hts (gd_V tb_cons wd_448 wd_403 wd_404 wd_35 wd_405) rfl rfl rfl (by decide +kernel) ⟨Nat.le_of_ble_eq_true rfl, Nat.le_of_ble_eq_true rfl⟩) (ck_preV hxT hK hP hD [1, 2] rfl (by decide) (q0 := 0) rfl rfl rfl) rfl rfl hl.1 rfl (lv_room (Nat.le_of_ble_eq_true rfl)) dX6_check_79 ⟨Nat.zero_le _, Nat.zero_le _⟩) hP hD hS hA [1, 2] [0, 3, 4, 5] (WR := [(g, .inr (6, [.ref aR, .ref aB, .ref aT, .ref aS, .ref aK, .ref aL, .int (iI nw), .int (iI al), .int (iI lg), .int (iI tt), .int (iI dn)])), (aK, .inr (0, [.ref aKs, .ref aKt, .ref aKb, .ref aKz, .ref aKl, .ref aKc, .ref aKu, .int (iI kn)])), (aKb, .inl (kI, 61, .inl (iF kb))), (aKz, .inl (kI, 61, .inl (iF kz)))]) rfl rfl (by decide) (by decide) (ws' := [(g, .inr (6, [.ref aR, .ref aB, .ref aT, .ref aS, .ref aK, .ref aL, .int (iI nw), .int (iI al), .int (iI lg), .int (iI tt), .int (iI dn)])), (aK, .inr (0, [.ref aKs, .ref aKt, .ref aKb, .ref aKz, .ref aKl, .ref aKc, .ref aKu, .int (iI kn)])), (aKb, .inl (kI, 61, .inl (iF kb))), (aKz, .inl (kI, 61, .inl (iF kz))), (aB, .inr (1, [.ref aBs, .ref aBw, .ref aBd, .ref aBv, .int (iI bn)])), (aBv, .inl (kI, 80, .inl (iF (iu bv (bx * 4 + 0) 0))))]) rfl (fun H locs hP hD hS => ?_)
            refine lv_iload_n hx hb dX6_check_82 rfl (lv_at hl 1 rfl) ?_
            refine wk_if_ne (tgt := 98) hx hb dX6_check_83 (by decide) (by omega) (fun c_6 => ?_) (fun c_6 => ?_)
            · skip
              exfalso; omega
            · skip
              refine lv_iload_n hx hb dX6_check_86 rfl (lv_at hl 3 rfl) ?_
              refine wk_if_ne (tgt := 98) hx hb dX6_check_87 (by decide) (by omega) (fun c_7 => ?_) (fun c_7 => ?_)
              · skip
                exfalso; omega
              · skip
                refine lv_aload_n hx hb dX6_check_90 rfl (lv_at hl 0 rfl) ?_
                refine lv_iload_n hx hb dX6_check_91 rfl (lv_at hl 2 rfl) ?_
                refine pk_callI (va_runV (As := [.int (iI bx)]) (rest := []) ⟨hx, hb, hml, hown, hts⟩ (tX6_withdraw_n l D kI kZ kL kJ g aR aB aT aS aK aL aKs aKt aKb aKz aKl aKc aKu kb kz nw al lg tt dn kn bx H.size (by first | assumption | omega) (by first | assumption | omega) (by first | assumption | omega) (by first | assumption | omega) (by first | assumption | omega)) (cwV 1 hts (gd_V tb_cons wd_449 wd_451 wd_4 wd_33 wd_452) rfl rfl rfl (by decide +kernel) ⟨Nat.le_of_ble_eq_true rfl, Nat.le_of_ble_eq_true rfl⟩) (ck_preV hxT hK hP hD [0, 1, 2, 3] rfl (by decide) (q0 := 0) rfl rfl rfl) rfl rfl hl.1 rfl (lv_room (Nat.le_of_ble_eq_true rfl)) dX6_check_92 ⟨Nat.zero_le _, Nat.zero_le _⟩) ?_
                refine lv_goto (tgt := 99) hx hb dX6_check_95 (by decide) ?_
                have hP := hP.sub (ws' := [(g, .inr (6, [.ref aR, .ref aB, .ref aT, .ref aS, .ref aK, .ref aL, .int (iI nw), .int (iI al), .int (iI lg), .int (iI tt), .int (iI dn)])), (aB, .inr (1, [.ref aBs, .ref aBw, .ref aBd, .ref aBv, .int (iI bn)])), (aBv, .inl (kI, 80, .inl (iF (iu bv (bx * 4 + 0) 0)))), (aK, .inr (0, [.ref aKs, .ref aKt, .ref aKb, .ref aKz, .ref aKl, .ref aKc, .ref aKu, .int (iI kn)])), (aKb, .inl (kI, 61, .inl (iF kb))), (aKz, .inl (kI, 61, .inl (iF kz)))]) [0, 4, 5, 1, 2, 3] rfl
                have hD := hD.sub (ws' := [(g, .inr (6, [.ref aR, .ref aB, .ref aT, .ref aS, .ref aK, .ref aL, .int (iI nw), .int (iI al), .int (iI lg), .int (iI tt), .int (iI dn)])), (aB, .inr (1, [.ref aBs, .ref aBw, .ref aBd, .ref aBv, .int (iI bn)])), (aBv, .inl (kI, 80, .inl (iF (iu bv (bx * 4 + 0) 0)))), (aK, .inr (0, [.ref aKs, .ref aKt, .ref aKb, .ref aKz, .ref aKl, .ref aKc, .ref aKu, .int (iI kn)])), (aKb, .inl (kI, 61, .inl (iF kb))), (aKz, .inl (kI, 61, .inl (iF kz)))]) [0, 4, 5, 1, 2, 3] (by decide) rfl
                exact rk_int hx hb hr hlocks hK hP hD hS (by first | rfl | omega) rfl dX6_check_99
          · skip
            exfalso; omega
        · skip
          exfalso; omega
    · skip
      exfalso; omega

set_option maxHeartbeats 4000000 in
set_option maxRecDepth 100000 in
theorem tX6_check_w0 (l : Launch) (D : va_G) (kI : ClassId) (kZ : ClassId) (kL : ClassId) (kJ : ClassId) (g : Nat) (aR : Nat) (aB : Nat) (aT : Nat) (aS : Nat) (aK : Nat) (aL : Nat) (aBs : Nat) (aBw : Nat) (aBd : Nat) (aBv : Nat) (aSt : Nat) (aKs : Nat) (aKt : Nat) (aKb : Nat) (aKz : Nat) (aKl : Nat) (aKc : Nat) (aKu : Nat) (a0 : Nat) (a1 : Nat) (a2 : Nat) (a0w : Nat) (bv : Int → Int) (tk : Int → Int) (ks : Int → Int) (kb : Int → Int) (kz : Int → Int) (kl : Int → Int) (w0 : Int → Int) (nw : Int) (al : Int) (lg : Int) (tt : Int) (dn : Int) (bn : Int) (sn : Int) (sm : Int) (kn : Int) (n0 : Int) (bx : Int) (sz : Nat) (hbn : 0 ≤ bn ∧ bn ≤ 20) (hof : 0 ≤ bx ∧ bx < bn) (hkn : 0 ≤ kn ∧ kn ≤ 60) (hkb : ∀ j, 0 ≤ kb j ∧ kb j ≤ 1000000) (hkz : ∀ j, 0 ≤ kz j ∧ kz j ≤ 1000000) (hks : ∀ j, 0 ≤ ks j ∧ ks j < 24) (hX : 1 ≤ sc (pIN kb kz bx) (-1) (kn + 1 - 1).toNat 1 ∧ sc (pIN kb kz bx) (-1) (kn + 1 - 1).toNat 1 ≤ kn) (hl9 : kl (sc (pIN kb kz bx) (-1) (kn + 1 - 1).toNat 1) = 0) (hn0 : 0 ≤ n0 ∧ n0 ≤ 16) (hw0 : ∀ j, 0 ≤ w0 j ∧ w0 j ≤ 1000000) : CtI l yX6_check wsX6_check ({ frames := 2, cells := 0, slots := 0, locals := 45 }) D vwCl (tyL kI kZ kL kJ) [(g, .inr (6, [.ref aR, .ref aB, .ref aT, .ref aS, .ref aK, .ref aL, .int (iI nw), .int (iI al), .int (iI lg), .int (iI tt), .int (iI dn)])), (aB, .inr (1, [.ref aBs, .ref aBw, .ref aBd, .ref aBv, .int (iI bn)])), (aBv, .inl (kI, 80, .inl (iF bv))), (aS, .inr (4, [.ref aSt, .int (iI sn), .int (iI sm)])), (aSt, .inl (kI, 24, .inl (iF tk))), (aK, .inr (0, [.ref aKs, .ref aKt, .ref aKb, .ref aKz, .ref aKl, .ref aKc, .ref aKu, .int (iI kn)])), (aKs, .inl (kI, 61, .inl (iF ks))), (aKb, .inl (kI, 61, .inl (iF kb))), (aKz, .inl (kI, 61, .inl (iF kz))), (aKl, .inl (kI, 61, .inl (iF kl))), (aL, .inl (kL, 3, .inr (.inr (.inr (.inr (g3 a0 a1 a2)))))), (a0, .inr (2, [.ref a0w, .int (iI n0)])), (a0w, .inl (kI, 16, .inl (iF w0)))] [.ref g, .int (iI 0), .int (iI bx), .int (iI 0)] (iI 1) [(g, .inr (6, [.ref aR, .ref aB, .ref aT, .ref aS, .ref aK, .ref aL, .int (iI nw), .int (iI al), .int (iI lg), .int (iI tt), .int (iI dn)])), (aB, .inr (1, [.ref aBs, .ref aBw, .ref aBd, .ref aBv, .int (iI bn)])), (aBv, .inl (kI, 80, .inl (iF (iu bv (bx * 4 + 0) 0)))), (aS, .inr (4, [.ref aSt, .int (iI sn), .int (iI sm)])), (aSt, .inl (kI, 24, .inl (iF (iu tk (ks (sc (pIN kb kz bx) (-1) (kn + 1 - 1).toNat 1)) (tk (ks (sc (pIN kb kz bx) (-1) (kn + 1 - 1).toNat 1)) - 1))))), (aK, .inr (0, [.ref aKs, .ref aKt, .ref aKb, .ref aKz, .ref aKl, .ref aKc, .ref aKu, .int (iI kn)])), (aKs, .inl (kI, 61, .inl (iF ks))), (aKb, .inl (kI, 61, .inl (iF kb))), (aKz, .inl (kI, 61, .inl (iF (iu kz (sc (pIN kb kz bx) (-1) (kn + 1 - 1).toNat 1) 3)))), (aKl, .inl (kI, 61, .inl (iF kl))), (aL, .inl (kL, 3, .inr (.inr (.inr (.inr (g3 a0 a1 a2)))))), (a0, .inr (2, [.ref a0w, .int (iI ((rmL (sc (pIN kb kz bx) (-1) (kn + 1 - 1).toNat 1) n0 (n0 - 0).toNat 0 0 w0).2))])), (a0w, .inl (kI, 16, .inl (iF ((rmL (sc (pIN kb kz bx) (-1) (kn + 1 - 1).toNat 1) n0 (n0 - 0).toNat 0 0 w0).1))))] sz := by
  refine ck_start (Qc := fun A => cQi D vwCl (tyL kI kZ kL kJ) A (iI 1) [(g, .inr (6, [.ref aR, .ref aB, .ref aT, .ref aS, .ref aK, .ref aL, .int (iI nw), .int (iI al), .int (iI lg), .int (iI tt), .int (iI dn)])), (aB, .inr (1, [.ref aBs, .ref aBw, .ref aBd, .ref aBv, .int (iI bn)])), (aBv, .inl (kI, 80, .inl (iF (iu bv (bx * 4 + 0) 0)))), (aS, .inr (4, [.ref aSt, .int (iI sn), .int (iI sm)])), (aSt, .inl (kI, 24, .inl (iF (iu tk (ks (sc (pIN kb kz bx) (-1) (kn + 1 - 1).toNat 1)) (tk (ks (sc (pIN kb kz bx) (-1) (kn + 1 - 1).toNat 1)) - 1))))), (aK, .inr (0, [.ref aKs, .ref aKt, .ref aKb, .ref aKz, .ref aKl, .ref aKc, .ref aKu, .int (iI kn)])), (aKs, .inl (kI, 61, .inl (iF ks))), (aKb, .inl (kI, 61, .inl (iF kb))), (aKz, .inl (kI, 61, .inl (iF (iu kz (sc (pIN kb kz bx) (-1) (kn + 1 - 1).toNat 1) 3)))), (aKl, .inl (kI, 61, .inl (iF kl))), (aL, .inl (kL, 3, .inr (.inr (.inr (.inr (g3 a0 a1 a2)))))), (a0, .inr (2, [.ref a0w, .int (iI ((rmL (sc (pIN kb kz bx) (-1) (kn + 1 - 1).toNat 1) n0 (n0 - 0).toNat 0 0 w0).2))])), (a0w, .inl (kI, 16, .inl (iF ((rmL (sc (pIN kb kz bx) (-1) (kn + 1 - 1).toNat 1) n0 (n0 - 0).toNat 0 0 w0).1))))]) (cc := cX6_check) (maxL := 4) (ret := (some .int)) (LV := [(0, .ref g), (1, .int (iI 0)), (2, .int (iI bx)), (3, .int (iI 0))]) (by decide) rfl rfl (Nat.le_of_ble_eq_true rfl) ?_
  intro p e s m below meth cd hadm hx hb hr hml hts hown hlocks hname hnoh hxT A hA hK hP hD hS ls hl
  refine lv_iload_n hx hb dX6_check_0 rfl (lv_at hl 1 rfl) ?_
  refine wk_if_lt (tgt := 9) hx hb dX6_check_1 (by decide) (by omega) (fun c_1 => ?_) (fun c_1 => ?_)
  · skip
    exfalso; omega
  · skip
    refine lv_iload_n hx hb dX6_check_4 rfl (lv_at hl 1 rfl) ?_
    refine lv_iconst (v := iI 5) hx hb dX6_check_5 rfl ?_
    refine wk_icmp_le (tgt := 19) hx hb dX6_check_6 (by decide) (by omega) (fun c_2 => ?_) (fun c_2 => ?_)
    · skip
      refine lv_iload_n hx hb dX6_check_19 rfl (lv_at hl 1 rfl) ?_
      refine lv_iconst (v := iI 4) hx hb dX6_check_20 rfl ?_
      refine wk_icmp_ge (tgt := 32) hx hb dX6_check_21 (by decide) (by omega) (fun c_3 => ?_) (fun c_3 => ?_)
      · skip
        exfalso; omega
      · skip
        refine lv_aload_n hx hb dX6_check_24 rfl (lv_at hl 0 rfl) ?_
        refine lv_iload_n hx hb dX6_check_25 rfl (lv_at hl 2 rfl) ?_
        refine pk_callV (va_runV (As := [.int (iI bx)]) (rest := []) ⟨hx, hb, hml, hown, hts⟩ (tX6_needBox l D kI kZ kL kJ g aR aB aT aS aK aL aBs aBw aBd aBv nw al lg tt dn bn bx s.heap.size (by first | assumption | omega) (by first | assumption | omega)) (cwV 1 hts (gd_V tb_cons wd_415 wd_417 wd_2 wd_33 wd_418) rfl rfl rfl (by decide +kernel) ⟨Nat.le_of_ble_eq_true rfl, Nat.le_of_ble_eq_true rfl⟩) (ck_preV hxT hK hP hD [0, 1] rfl (by decide) (q0 := 0) rfl rfl rfl) rfl rfl hl.1 rfl (lv_room (Nat.le_of_ble_eq_true rfl)) dX6_check_26 ⟨Nat.zero_le _, Nat.zero_le _⟩) ?_
        refine lv_goto (tgt := 37) hx hb dX6_check_29 (by decide) ?_
        refine lv_iload_n hx hb dX6_check_37 rfl (lv_at hl 1 rfl) ?_
        refine lv_iload_n hx hb dX6_check_38 rfl (lv_at hl 3 rfl) ?_
        refine pk_callI (va_runS (As := [.int (iI 0), .int (iI 0)]) (rest := []) ⟨hx, hb, hml, hown, hts⟩ (tX6_canBe l D kI kZ kL kJ 0 0 s.heap.size (by first | assumption | omega) (by first | assumption | omega)) (cwS 2 hts (gd_S tb_cons wd_440 wd_441 wd_33 wd_442) rfl rfl rfl (by decide +kernel) ⟨Nat.le_of_ble_eq_true rfl, Nat.le_of_ble_eq_true rfl⟩) (ck_preS hxT hK hP hD [] rfl (by decide)) rfl rfl hl.1 rfl (lv_room (Nat.le_of_ble_eq_true rfl)) dX6_check_39 ⟨Nat.zero_le _, Nat.zero_le _⟩) ?_
        refine wk_bif_ne (tgt := 55) hx hb dX6_check_42 (by decide) (fun c_4 => ?_) (fun c_4 => ?_)
        · skip
          refine lv_iload_n hx hb dX6_check_55 rfl (lv_at hl 1 rfl) ?_
          refine lv_iconst (v := iI 4) hx hb dX6_check_56 rfl ?_
          refine wk_icmp_lt (tgt := 72) hx hb dX6_check_57 (by decide) (by omega) (fun c_5 => ?_) (fun c_5 => ?_)
          · skip
            refine lv_aload_n hx hb dX6_check_72 rfl (lv_at hl 0 rfl) ?_
            refine va_get (D := D) (ci := 6) (v := .ref aB) (C := RX6) (T := TX6) (N := 11) hx hb hts (fun w h => (List.mem_cons_of_mem _ (hinX6 w h))) hown hK hP 0 rfl rfl 1 (by decide) (hts _ (List.mem_cons_of_mem _ wd_190)) (fun _ h9 => h9) rfl dX6_check_73 ?_
            refine lv_iload_n hx hb dX6_check_76 rfl (lv_at hl 2 rfl) ?_
            refine lv_iload_n hx hb dX6_check_77 rfl (lv_at hl 1 rfl) ?_
            refine lv_iload_n hx hb dX6_check_78 rfl (lv_at hl 3 rfl) ?_
            refine ck_backV (va_runV (As := [.int (iI bx), .int (iI 0), .int (iI 0)]) (rest := []) ⟨hx, hb, hml, hown, hts⟩ (tX1_judge l D kI kZ kL kJ aB aBs aBw aBd aBv bv bn bx 0 0 s.heap.size (by first | assumption | omega) (by first | assumption | omega)) (cwV 3 hts (gd_V tb_cons wd_448 wd_403 wd_404 wd_35 wd_405) rfl rfl rfl (by decide +kernel) ⟨Nat.le_of_ble_eq_true rfl, Nat.le_of_ble_eq_true rfl⟩) (ck_preV hxT hK hP hD [1, 2] rfl (by decide) (q0 := 0) rfl rfl rfl) rfl rfl hl.1 rfl (lv_room (Nat.le_of_ble_eq_true rfl)) dX6_check_79 ⟨Nat.zero_le _, Nat.zero_le _⟩) hP hD hS hA [1, 2] [0, 3, 4, 5, 6, 7, 8, 9, 10, 11, 12] (WR := [(g, .inr (6, [.ref aR, .ref aB, .ref aT, .ref aS, .ref aK, .ref aL, .int (iI nw), .int (iI al), .int (iI lg), .int (iI tt), .int (iI dn)])), (aS, .inr (4, [.ref aSt, .int (iI sn), .int (iI sm)])), (aSt, .inl (kI, 24, .inl (iF tk))), (aK, .inr (0, [.ref aKs, .ref aKt, .ref aKb, .ref aKz, .ref aKl, .ref aKc, .ref aKu, .int (iI kn)])), (aKs, .inl (kI, 61, .inl (iF ks))), (aKb, .inl (kI, 61, .inl (iF kb))), (aKz, .inl (kI, 61, .inl (iF kz))), (aKl, .inl (kI, 61, .inl (iF kl))), (aL, .inl (kL, 3, .inr (.inr (.inr (.inr (g3 a0 a1 a2)))))), (a0, .inr (2, [.ref a0w, .int (iI n0)])), (a0w, .inl (kI, 16, .inl (iF w0)))]) rfl rfl (by decide) (by decide) (ws' := [(g, .inr (6, [.ref aR, .ref aB, .ref aT, .ref aS, .ref aK, .ref aL, .int (iI nw), .int (iI al), .int (iI lg), .int (iI tt), .int (iI dn)])), (aS, .inr (4, [.ref aSt, .int (iI sn), .int (iI sm)])), (aSt, .inl (kI, 24, .inl (iF tk))), (aK, .inr (0, [.ref aKs, .ref aKt, .ref aKb, .ref aKz, .ref aKl, .ref aKc, .ref aKu, .int (iI kn)])), (aKs, .inl (kI, 61, .inl (iF ks))), (aKb, .inl (kI, 61, .inl (iF kb))), (aKz, .inl (kI, 61, .inl (iF kz))), (aKl, .inl (kI, 61, .inl (iF kl))), (aL, .inl (kL, 3, .inr (.inr (.inr (.inr (g3 a0 a1 a2)))))), (a0, .inr (2, [.ref a0w, .int (iI n0)])), (a0w, .inl (kI, 16, .inl (iF w0))), (aB, .inr (1, [.ref aBs, .ref aBw, .ref aBd, .ref aBv, .int (iI bn)])), (aBv, .inl (kI, 80, .inl (iF (iu bv (bx * 4 + 0) 0))))]) rfl (fun H locs hP hD hS => ?_)
            refine lv_iload_n hx hb dX6_check_82 rfl (lv_at hl 1 rfl) ?_
            refine wk_if_ne (tgt := 98) hx hb dX6_check_83 (by decide) (by omega) (fun c_6 => ?_) (fun c_6 => ?_)
            · skip
              exfalso; omega
            · skip
              refine lv_iload_n hx hb dX6_check_86 rfl (lv_at hl 3 rfl) ?_
              refine wk_if_ne (tgt := 98) hx hb dX6_check_87 (by decide) (by omega) (fun c_7 => ?_) (fun c_7 => ?_)
              · skip
                exfalso; omega
              · skip
                refine lv_aload_n hx hb dX6_check_90 rfl (lv_at hl 0 rfl) ?_
                refine lv_iload_n hx hb dX6_check_91 rfl (lv_at hl 2 rfl) ?_
                refine ck_backI (va_runV (As := [.int (iI bx)]) (rest := []) ⟨hx, hb, hml, hown, hts⟩ (tX6_withdraw_0 l D kI kZ kL kJ g aR aB aT aS aK aL aSt aKs aKt aKb aKz aKl aKc aKu a0 a1 a2 a0w tk ks kb kz kl w0 nw al lg tt dn sn sm kn n0 bx H.size (by first | assumption | omega) (by first | assumption | omega) (by first | assumption | omega) (by first | assumption | omega) (by first | assumption | omega) (by first | assumption | omega) (by first | assumption | omega) (by first | assumption | omega) (by first | assumption | omega)) (cwV 1 hts (gd_V tb_cons wd_449 wd_451 wd_4 wd_33 wd_452) rfl rfl rfl (by decide +kernel) ⟨Nat.le_of_ble_eq_true rfl, Nat.le_of_ble_eq_true rfl⟩) (ck_preV hxT hK hP hD [0, 1, 2, 3, 4, 5, 6, 7, 8, 9, 10] rfl (by decide) (q0 := 0) rfl rfl rfl) rfl rfl hl.1 rfl (lv_room (Nat.le_of_ble_eq_true rfl)) dX6_check_92 ⟨Nat.zero_le _, Nat.zero_le _⟩) hP hD hS hA [0, 1, 2, 3, 4, 5, 6, 7, 8, 9, 10] [11, 12] (WR := [(aB, .inr (1, [.ref aBs, .ref aBw, .ref aBd, .ref aBv, .int (iI bn)])), (aBv, .inl (kI, 80, .inl (iF (iu bv (bx * 4 + 0) 0))))]) rfl rfl (by decide) (by decide) (ws' := [(aB, .inr (1, [.ref aBs, .ref aBw, .ref aBd, .ref aBv, .int (iI bn)])), (aBv, .inl (kI, 80, .inl (iF (iu bv (bx * 4 + 0) 0)))), (g, .inr (6, [.ref aR, .ref aB, .ref aT, .ref aS, .ref aK, .ref aL, .int (iI nw), .int (iI al), .int (iI lg), .int (iI tt), .int (iI dn)])), (aS, .inr (4, [.ref aSt, .int (iI sn), .int (iI sm)])), (aSt, .inl (kI, 24, .inl (iF (iu tk (ks (sc (pIN kb kz bx) (-1) (kn + 1 - 1).toNat 1)) (tk (ks (sc (pIN kb kz bx) (-1) (kn + 1 - 1).toNat 1)) - 1))))), (aK, .inr (0, [.ref aKs, .ref aKt, .ref aKb, .ref aKz, .ref aKl, .ref aKc, .ref aKu, .int (iI kn)])), (aKs, .inl (kI, 61, .inl (iF ks))), (aKb, .inl (kI, 61, .inl (iF kb))), (aKz, .inl (kI, 61, .inl (iF (iu kz (sc (pIN kb kz bx) (-1) (kn + 1 - 1).toNat 1) 3)))), (aKl, .inl (kI, 61, .inl (iF kl))), (aL, .inl (kL, 3, .inr (.inr (.inr (.inr (g3 a0 a1 a2)))))), (a0, .inr (2, [.ref a0w, .int (iI ((rmL (sc (pIN kb kz bx) (-1) (kn + 1 - 1).toNat 1) n0 (n0 - 0).toNat 0 0 w0).2))])), (a0w, .inl (kI, 16, .inl (iF ((rmL (sc (pIN kb kz bx) (-1) (kn + 1 - 1).toNat 1) n0 (n0 - 0).toNat 0 0 w0).1))))]) rfl (fun H locs hP hD hS => ?_)
                refine lv_goto (tgt := 99) hx hb dX6_check_95 (by decide) ?_
                have hP := hP.sub (ws' := [(g, .inr (6, [.ref aR, .ref aB, .ref aT, .ref aS, .ref aK, .ref aL, .int (iI nw), .int (iI al), .int (iI lg), .int (iI tt), .int (iI dn)])), (aB, .inr (1, [.ref aBs, .ref aBw, .ref aBd, .ref aBv, .int (iI bn)])), (aBv, .inl (kI, 80, .inl (iF (iu bv (bx * 4 + 0) 0)))), (aS, .inr (4, [.ref aSt, .int (iI sn), .int (iI sm)])), (aSt, .inl (kI, 24, .inl (iF (iu tk (ks (sc (pIN kb kz bx) (-1) (kn + 1 - 1).toNat 1)) (tk (ks (sc (pIN kb kz bx) (-1) (kn + 1 - 1).toNat 1)) - 1))))), (aK, .inr (0, [.ref aKs, .ref aKt, .ref aKb, .ref aKz, .ref aKl, .ref aKc, .ref aKu, .int (iI kn)])), (aKs, .inl (kI, 61, .inl (iF ks))), (aKb, .inl (kI, 61, .inl (iF kb))), (aKz, .inl (kI, 61, .inl (iF (iu kz (sc (pIN kb kz bx) (-1) (kn + 1 - 1).toNat 1) 3)))), (aKl, .inl (kI, 61, .inl (iF kl))), (aL, .inl (kL, 3, .inr (.inr (.inr (.inr (g3 a0 a1 a2)))))), (a0, .inr (2, [.ref a0w, .int (iI ((rmL (sc (pIN kb kz bx) (-1) (kn + 1 - 1).toNat 1) n0 (n0 - 0).toNat 0 0 w0).2))])), (a0w, .inl (kI, 16, .inl (iF ((rmL (sc (pIN kb kz bx) (-1) (kn + 1 - 1).toNat 1) n0 (n0 - 0).toNat 0 0 w0).1))))]) [2, 0, 1, 3, 4, 5, 6, 7, 8, 9, 10, 11, 12] rfl
                have hD := hD.sub (ws' := [(g, .inr (6, [.ref aR, .ref aB, .ref aT, .ref aS, .ref aK, .ref aL, .int (iI nw), .int (iI al), .int (iI lg), .int (iI tt), .int (iI dn)])), (aB, .inr (1, [.ref aBs, .ref aBw, .ref aBd, .ref aBv, .int (iI bn)])), (aBv, .inl (kI, 80, .inl (iF (iu bv (bx * 4 + 0) 0)))), (aS, .inr (4, [.ref aSt, .int (iI sn), .int (iI sm)])), (aSt, .inl (kI, 24, .inl (iF (iu tk (ks (sc (pIN kb kz bx) (-1) (kn + 1 - 1).toNat 1)) (tk (ks (sc (pIN kb kz bx) (-1) (kn + 1 - 1).toNat 1)) - 1))))), (aK, .inr (0, [.ref aKs, .ref aKt, .ref aKb, .ref aKz, .ref aKl, .ref aKc, .ref aKu, .int (iI kn)])), (aKs, .inl (kI, 61, .inl (iF ks))), (aKb, .inl (kI, 61, .inl (iF kb))), (aKz, .inl (kI, 61, .inl (iF (iu kz (sc (pIN kb kz bx) (-1) (kn + 1 - 1).toNat 1) 3)))), (aKl, .inl (kI, 61, .inl (iF kl))), (aL, .inl (kL, 3, .inr (.inr (.inr (.inr (g3 a0 a1 a2)))))), (a0, .inr (2, [.ref a0w, .int (iI ((rmL (sc (pIN kb kz bx) (-1) (kn + 1 - 1).toNat 1) n0 (n0 - 0).toNat 0 0 w0).2))])), (a0w, .inl (kI, 16, .inl (iF ((rmL (sc (pIN kb kz bx) (-1) (kn + 1 - 1).toNat 1) n0 (n0 - 0).toNat 0 0 w0).1))))]) [2, 0, 1, 3, 4, 5, 6, 7, 8, 9, 10, 11, 12] (by decide) rfl
                exact rk_int hx hb hr hlocks hK hP hD hS (by first | rfl | omega) rfl dX6_check_99
          · skip
            exfalso; omega
        · skip
          exfalso; omega
    · skip
      exfalso; omega

set_option maxHeartbeats 4000000 in
set_option maxRecDepth 100000 in
theorem tX6_check_w1 (l : Launch) (D : va_G) (kI : ClassId) (kZ : ClassId) (kL : ClassId) (kJ : ClassId) (g : Nat) (aR : Nat) (aB : Nat) (aT : Nat) (aS : Nat) (aK : Nat) (aL : Nat) (aBs : Nat) (aBw : Nat) (aBd : Nat) (aBv : Nat) (aSt : Nat) (aKs : Nat) (aKt : Nat) (aKb : Nat) (aKz : Nat) (aKl : Nat) (aKc : Nat) (aKu : Nat) (a0 : Nat) (a1 : Nat) (a2 : Nat) (a1w : Nat) (bv : Int → Int) (tk : Int → Int) (ks : Int → Int) (kb : Int → Int) (kz : Int → Int) (kl : Int → Int) (w1 : Int → Int) (nw : Int) (al : Int) (lg : Int) (tt : Int) (dn : Int) (bn : Int) (sn : Int) (sm : Int) (kn : Int) (n1 : Int) (bx : Int) (sz : Nat) (hbn : 0 ≤ bn ∧ bn ≤ 20) (hof : 0 ≤ bx ∧ bx < bn) (hkn : 0 ≤ kn ∧ kn ≤ 60) (hkb : ∀ j, 0 ≤ kb j ∧ kb j ≤ 1000000) (hkz : ∀ j, 0 ≤ kz j ∧ kz j ≤ 1000000) (hks : ∀ j, 0 ≤ ks j ∧ ks j < 24) (hX : 1 ≤ sc (pIN kb kz bx) (-1) (kn + 1 - 1).toNat 1 ∧ sc (pIN kb kz bx) (-1) (kn + 1 - 1).toNat 1 ≤ kn) (hl9 : kl (sc (pIN kb kz bx) (-1) (kn + 1 - 1).toNat 1) = 1) (hn1 : 0 ≤ n1 ∧ n1 ≤ 16) (hw1 : ∀ j, 0 ≤ w1 j ∧ w1 j ≤ 1000000) : CtI l yX6_check wsX6_check ({ frames := 2, cells := 0, slots := 0, locals := 45 }) D vwCl (tyL kI kZ kL kJ) [(g, .inr (6, [.ref aR, .ref aB, .ref aT, .ref aS, .ref aK, .ref aL, .int (iI nw), .int (iI al), .int (iI lg), .int (iI tt), .int (iI dn)])), (aB, .inr (1, [.ref aBs, .ref aBw, .ref aBd, .ref aBv, .int (iI bn)])), (aBv, .inl (kI, 80, .inl (iF bv))), (aS, .inr (4, [.ref aSt, .int (iI sn), .int (iI sm)])), (aSt, .inl (kI, 24, .inl (iF tk))), (aK, .inr (0, [.ref aKs, .ref aKt, .ref aKb, .ref aKz, .ref aKl, .ref aKc, .ref aKu, .int (iI kn)])), (aKs, .inl (kI, 61, .inl (iF ks))), (aKb, .inl (kI, 61, .inl (iF kb))), (aKz, .inl (kI, 61, .inl (iF kz))), (aKl, .inl (kI, 61, .inl (iF kl))), (aL, .inl (kL, 3, .inr (.inr (.inr (.inr (g3 a0 a1 a2)))))), (a1, .inr (2, [.ref a1w, .int (iI n1)])), (a1w, .inl (kI, 16, .inl (iF w1)))] [.ref g, .int (iI 0), .int (iI bx), .int (iI 0)] (iI 1) [(g, .inr (6, [.ref aR, .ref aB, .ref aT, .ref aS, .ref aK, .ref aL, .int (iI nw), .int (iI al), .int (iI lg), .int (iI tt), .int (iI dn)])), (aB, .inr (1, [.ref aBs, .ref aBw, .ref aBd, .ref aBv, .int (iI bn)])), (aBv, .inl (kI, 80, .inl (iF (iu bv (bx * 4 + 0) 0)))), (aS, .inr (4, [.ref aSt, .int (iI sn), .int (iI sm)])), (aSt, .inl (kI, 24, .inl (iF (iu tk (ks (sc (pIN kb kz bx) (-1) (kn + 1 - 1).toNat 1)) (tk (ks (sc (pIN kb kz bx) (-1) (kn + 1 - 1).toNat 1)) - 1))))), (aK, .inr (0, [.ref aKs, .ref aKt, .ref aKb, .ref aKz, .ref aKl, .ref aKc, .ref aKu, .int (iI kn)])), (aKs, .inl (kI, 61, .inl (iF ks))), (aKb, .inl (kI, 61, .inl (iF kb))), (aKz, .inl (kI, 61, .inl (iF (iu kz (sc (pIN kb kz bx) (-1) (kn + 1 - 1).toNat 1) 3)))), (aKl, .inl (kI, 61, .inl (iF kl))), (aL, .inl (kL, 3, .inr (.inr (.inr (.inr (g3 a0 a1 a2)))))), (a1, .inr (2, [.ref a1w, .int (iI ((rmL (sc (pIN kb kz bx) (-1) (kn + 1 - 1).toNat 1) n1 (n1 - 0).toNat 0 0 w1).2))])), (a1w, .inl (kI, 16, .inl (iF ((rmL (sc (pIN kb kz bx) (-1) (kn + 1 - 1).toNat 1) n1 (n1 - 0).toNat 0 0 w1).1))))] sz := by
  refine ck_start (Qc := fun A => cQi D vwCl (tyL kI kZ kL kJ) A (iI 1) [(g, .inr (6, [.ref aR, .ref aB, .ref aT, .ref aS, .ref aK, .ref aL, .int (iI nw), .int (iI al), .int (iI lg), .int (iI tt), .int (iI dn)])), (aB, .inr (1, [.ref aBs, .ref aBw, .ref aBd, .ref aBv, .int (iI bn)])), (aBv, .inl (kI, 80, .inl (iF (iu bv (bx * 4 + 0) 0)))), (aS, .inr (4, [.ref aSt, .int (iI sn), .int (iI sm)])), (aSt, .inl (kI, 24, .inl (iF (iu tk (ks (sc (pIN kb kz bx) (-1) (kn + 1 - 1).toNat 1)) (tk (ks (sc (pIN kb kz bx) (-1) (kn + 1 - 1).toNat 1)) - 1))))), (aK, .inr (0, [.ref aKs, .ref aKt, .ref aKb, .ref aKz, .ref aKl, .ref aKc, .ref aKu, .int (iI kn)])), (aKs, .inl (kI, 61, .inl (iF ks))), (aKb, .inl (kI, 61, .inl (iF kb))), (aKz, .inl (kI, 61, .inl (iF (iu kz (sc (pIN kb kz bx) (-1) (kn + 1 - 1).toNat 1) 3)))), (aKl, .inl (kI, 61, .inl (iF kl))), (aL, .inl (kL, 3, .inr (.inr (.inr (.inr (g3 a0 a1 a2)))))), (a1, .inr (2, [.ref a1w, .int (iI ((rmL (sc (pIN kb kz bx) (-1) (kn + 1 - 1).toNat 1) n1 (n1 - 0).toNat 0 0 w1).2))])), (a1w, .inl (kI, 16, .inl (iF ((rmL (sc (pIN kb kz bx) (-1) (kn + 1 - 1).toNat 1) n1 (n1 - 0).toNat 0 0 w1).1))))]) (cc := cX6_check) (maxL := 4) (ret := (some .int)) (LV := [(0, .ref g), (1, .int (iI 0)), (2, .int (iI bx)), (3, .int (iI 0))]) (by decide) rfl rfl (Nat.le_of_ble_eq_true rfl) ?_
  intro p e s m below meth cd hadm hx hb hr hml hts hown hlocks hname hnoh hxT A hA hK hP hD hS ls hl
  refine lv_iload_n hx hb dX6_check_0 rfl (lv_at hl 1 rfl) ?_
  refine wk_if_lt (tgt := 9) hx hb dX6_check_1 (by decide) (by omega) (fun c_1 => ?_) (fun c_1 => ?_)
  · skip
    exfalso; omega
  · skip
    refine lv_iload_n hx hb dX6_check_4 rfl (lv_at hl 1 rfl) ?_
    refine lv_iconst (v := iI 5) hx hb dX6_check_5 rfl ?_
    refine wk_icmp_le (tgt := 19) hx hb dX6_check_6 (by decide) (by omega) (fun c_2 => ?_) (fun c_2 => ?_)
    · skip
      refine lv_iload_n hx hb dX6_check_19 rfl (lv_at hl 1 rfl) ?_
      refine lv_iconst (v := iI 4) hx hb dX6_check_20 rfl ?_
      refine wk_icmp_ge (tgt := 32) hx hb dX6_check_21 (by decide) (by omega) (fun c_3 => ?_) (fun c_3 => ?_)
      · skip
        exfalso; omega
      · skip
        refine lv_aload_n hx hb dX6_check_24 rfl (lv_at hl 0 rfl) ?_
        refine lv_iload_n hx hb dX6_check_25 rfl (lv_at hl 2 rfl) ?_
        refine pk_callV (va_runV (As := [.int (iI bx)]) (rest := []) ⟨hx, hb, hml, hown, hts⟩ (tX6_needBox l D kI kZ kL kJ g aR aB aT aS aK aL aBs aBw aBd aBv nw al lg tt dn bn bx s.heap.size (by first | assumption | omega) (by first | assumption | omega)) (cwV 1 hts (gd_V tb_cons wd_415 wd_417 wd_2 wd_33 wd_418) rfl rfl rfl (by decide +kernel) ⟨Nat.le_of_ble_eq_true rfl, Nat.le_of_ble_eq_true rfl⟩) (ck_preV hxT hK hP hD [0, 1] rfl (by decide) (q0 := 0) rfl rfl rfl) rfl rfl hl.1 rfl (lv_room (Nat.le_of_ble_eq_true rfl)) dX6_check_26 ⟨Nat.zero_le _, Nat.zero_le _⟩) ?_
        refine lv_goto (tgt := 37) hx hb dX6_check_29 (by decide) ?_
        refine lv_iload_n hx hb dX6_check_37 rfl (lv_at hl 1 rfl) ?_
        refine lv_iload_n hx hb dX6_check_38 rfl (lv_at hl 3 rfl) ?_
        refine pk_callI (va_runS (As := [.int (iI 0), .int (iI 0)]) (rest := []) ⟨hx, hb, hml, hown, hts⟩ (tX6_canBe l D kI kZ kL kJ 0 0 s.heap.size (by first | assumption | omega) (by first | assumption | omega)) (cwS 2 hts (gd_S tb_cons wd_440 wd_441 wd_33 wd_442) rfl rfl rfl (by decide +kernel) ⟨Nat.le_of_ble_eq_true rfl, Nat.le_of_ble_eq_true rfl⟩) (ck_preS hxT hK hP hD [] rfl (by decide)) rfl rfl hl.1 rfl (lv_room (Nat.le_of_ble_eq_true rfl)) dX6_check_39 ⟨Nat.zero_le _, Nat.zero_le _⟩) ?_
        refine wk_bif_ne (tgt := 55) hx hb dX6_check_42 (by decide) (fun c_4 => ?_) (fun c_4 => ?_)
        · skip
          refine lv_iload_n hx hb dX6_check_55 rfl (lv_at hl 1 rfl) ?_
          refine lv_iconst (v := iI 4) hx hb dX6_check_56 rfl ?_
          refine wk_icmp_lt (tgt := 72) hx hb dX6_check_57 (by decide) (by omega) (fun c_5 => ?_) (fun c_5 => ?_)
          · skip
            refine lv_aload_n hx hb dX6_check_72 rfl (lv_at hl 0 rfl) ?_
            refine va_get (D := D) (ci := 6) (v := .ref aB) (C := RX6) (T := TX6) (N := 11) hx hb hts (fun w h => (List.mem_cons_of_mem _ (hinX6 w h))) hown hK hP 0 rfl rfl 1 (by decide) (hts _ (List.mem_cons_of_mem _ wd_190)) (fun _ h9 => h9) rfl dX6_check_73 ?_
            refine lv_iload_n hx hb dX6_check_76 rfl (lv_at hl 2 rfl) ?_
            refine lv_iload_n hx hb dX6_check_77 rfl (lv_at hl 1 rfl) ?_
            refine lv_iload_n hx hb dX6_check_78 rfl (lv_at hl 3 rfl) ?_
            refine ck_backV (va_runV (As := [.int (iI bx), .int (iI 0), .int (iI 0)]) (rest := []) ⟨hx, hb, hml, hown, hts⟩ (tX1_judge l D kI kZ kL kJ aB aBs aBw aBd aBv bv bn bx 0 0 s.heap.size (by first | assumption | omega) (by first | assumption | omega)) (cwV 3 hts (gd_V tb_cons wd_448 wd_403 wd_404 wd_35 wd_405) rfl rfl rfl (by decide +kernel) ⟨Nat.le_of_ble_eq_true rfl, Nat.le_of_ble_eq_true rfl⟩) (ck_preV hxT hK hP hD [1, 2] rfl (by decide) (q0 := 0) rfl rfl rfl) rfl rfl hl.1 rfl (lv_room (Nat.le_of_ble_eq_true rfl)) dX6_check_79 ⟨Nat.zero_le _, Nat.zero_le _⟩) hP hD hS hA [1, 2] [0, 3, 4, 5, 6, 7, 8, 9, 10, 11, 12] (WR := [(g, .inr (6, [.ref aR, .ref aB, .ref aT, .ref aS, .ref aK, .ref aL, .int (iI nw), .int (iI al), .int (iI lg), .int (iI tt), .int (iI dn)])), (aS, .inr (4, [.ref aSt, .int (iI sn), .int (iI sm)])), (aSt, .inl (kI, 24, .inl (iF tk))), (aK, .inr (0, [.ref aKs, .ref aKt, .ref aKb, .ref aKz, .ref aKl, .ref aKc, .ref aKu, .int (iI kn)])), (aKs, .inl (kI, 61, .inl (iF ks))), (aKb, .inl (kI, 61, .inl (iF kb))), (aKz, .inl (kI, 61, .inl (iF kz))), (aKl, .inl (kI, 61, .inl (iF kl))), (aL, .inl (kL, 3, .inr (.inr (.inr (.inr (g3 a0 a1 a2)))))), (a1, .inr (2, [.ref a1w, .int (iI n1)])), (a1w, .inl (kI, 16, .inl (iF w1)))]) rfl rfl (by decide) (by decide) (ws' := [(g, .inr (6, [.ref aR, .ref aB, .ref aT, .ref aS, .ref aK, .ref aL, .int (iI nw), .int (iI al), .int (iI lg), .int (iI tt), .int (iI dn)])), (aS, .inr (4, [.ref aSt, .int (iI sn), .int (iI sm)])), (aSt, .inl (kI, 24, .inl (iF tk))), (aK, .inr (0, [.ref aKs, .ref aKt, .ref aKb, .ref aKz, .ref aKl, .ref aKc, .ref aKu, .int (iI kn)])), (aKs, .inl (kI, 61, .inl (iF ks))), (aKb, .inl (kI, 61, .inl (iF kb))), (aKz, .inl (kI, 61, .inl (iF kz))), (aKl, .inl (kI, 61, .inl (iF kl))), (aL, .inl (kL, 3, .inr (.inr (.inr (.inr (g3 a0 a1 a2)))))), (a1, .inr (2, [.ref a1w, .int (iI n1)])), (a1w, .inl (kI, 16, .inl (iF w1))), (aB, .inr (1, [.ref aBs, .ref aBw, .ref aBd, .ref aBv, .int (iI bn)])), (aBv, .inl (kI, 80, .inl (iF (iu bv (bx * 4 + 0) 0))))]) rfl (fun H locs hP hD hS => ?_)
            refine lv_iload_n hx hb dX6_check_82 rfl (lv_at hl 1 rfl) ?_
            refine wk_if_ne (tgt := 98) hx hb dX6_check_83 (by decide) (by omega) (fun c_6 => ?_) (fun c_6 => ?_)
            · skip
              exfalso; omega
            · skip
              refine lv_iload_n hx hb dX6_check_86 rfl (lv_at hl 3 rfl) ?_
              refine wk_if_ne (tgt := 98) hx hb dX6_check_87 (by decide) (by omega) (fun c_7 => ?_) (fun c_7 => ?_)
              · skip
                exfalso; omega
              · skip
                refine lv_aload_n hx hb dX6_check_90 rfl (lv_at hl 0 rfl) ?_
                refine lv_iload_n hx hb dX6_check_91 rfl (lv_at hl 2 rfl) ?_
                refine ck_backI (va_runV (As := [.int (iI bx)]) (rest := []) ⟨hx, hb, hml, hown, hts⟩ (tX6_withdraw_1 l D kI kZ kL kJ g aR aB aT aS aK aL aSt aKs aKt aKb aKz aKl aKc aKu a0 a1 a2 a1w tk ks kb kz kl w1 nw al lg tt dn sn sm kn n1 bx H.size (by first | assumption | omega) (by first | assumption | omega) (by first | assumption | omega) (by first | assumption | omega) (by first | assumption | omega) (by first | assumption | omega) (by first | assumption | omega) (by first | assumption | omega) (by first | assumption | omega)) (cwV 1 hts (gd_V tb_cons wd_449 wd_451 wd_4 wd_33 wd_452) rfl rfl rfl (by decide +kernel) ⟨Nat.le_of_ble_eq_true rfl, Nat.le_of_ble_eq_true rfl⟩) (ck_preV hxT hK hP hD [0, 1, 2, 3, 4, 5, 6, 7, 8, 9, 10] rfl (by decide) (q0 := 0) rfl rfl rfl) rfl rfl hl.1 rfl (lv_room (Nat.le_of_ble_eq_true rfl)) dX6_check_92 ⟨Nat.zero_le _, Nat.zero_le _⟩) hP hD hS hA [0, 1, 2, 3, 4, 5, 6, 7, 8, 9, 10] [11, 12] (WR := [(aB, .inr (1, [.ref aBs, .ref aBw, .ref aBd, .ref aBv, .int (iI bn)])), (aBv, .inl (kI, 80, .inl (iF (iu bv (bx * 4 + 0) 0))))]) rfl rfl (by decide) (by decide) (ws' := [(aB, .inr (1, [.ref aBs, .ref aBw, .ref aBd, .ref aBv, .int (iI bn)])), (aBv, .inl (kI, 80, .inl (iF (iu bv (bx * 4 + 0) 0)))), (g, .inr (6, [.ref aR, .ref aB, .ref aT, .ref aS, .ref aK, .ref aL, .int (iI nw), .int (iI al), .int (iI lg), .int (iI tt), .int (iI dn)])), (aS, .inr (4, [.ref aSt, .int (iI sn), .int (iI sm)])), (aSt, .inl (kI, 24, .inl (iF (iu tk (ks (sc (pIN kb kz bx) (-1) (kn + 1 - 1).toNat 1)) (tk (ks (sc (pIN kb kz bx) (-1) (kn + 1 - 1).toNat 1)) - 1))))), (aK, .inr (0, [.ref aKs, .ref aKt, .ref aKb, .ref aKz, .ref aKl, .ref aKc, .ref aKu, .int (iI kn)])), (aKs, .inl (kI, 61, .inl (iF ks))), (aKb, .inl (kI, 61, .inl (iF kb))), (aKz, .inl (kI, 61, .inl (iF (iu kz (sc (pIN kb kz bx) (-1) (kn + 1 - 1).toNat 1) 3)))), (aKl, .inl (kI, 61, .inl (iF kl))), (aL, .inl (kL, 3, .inr (.inr (.inr (.inr (g3 a0 a1 a2)))))), (a1, .inr (2, [.ref a1w, .int (iI ((rmL (sc (pIN kb kz bx) (-1) (kn + 1 - 1).toNat 1) n1 (n1 - 0).toNat 0 0 w1).2))])), (a1w, .inl (kI, 16, .inl (iF ((rmL (sc (pIN kb kz bx) (-1) (kn + 1 - 1).toNat 1) n1 (n1 - 0).toNat 0 0 w1).1))))]) rfl (fun H locs hP hD hS => ?_)
                refine lv_goto (tgt := 99) hx hb dX6_check_95 (by decide) ?_
                have hP := hP.sub (ws' := [(g, .inr (6, [.ref aR, .ref aB, .ref aT, .ref aS, .ref aK, .ref aL, .int (iI nw), .int (iI al), .int (iI lg), .int (iI tt), .int (iI dn)])), (aB, .inr (1, [.ref aBs, .ref aBw, .ref aBd, .ref aBv, .int (iI bn)])), (aBv, .inl (kI, 80, .inl (iF (iu bv (bx * 4 + 0) 0)))), (aS, .inr (4, [.ref aSt, .int (iI sn), .int (iI sm)])), (aSt, .inl (kI, 24, .inl (iF (iu tk (ks (sc (pIN kb kz bx) (-1) (kn + 1 - 1).toNat 1)) (tk (ks (sc (pIN kb kz bx) (-1) (kn + 1 - 1).toNat 1)) - 1))))), (aK, .inr (0, [.ref aKs, .ref aKt, .ref aKb, .ref aKz, .ref aKl, .ref aKc, .ref aKu, .int (iI kn)])), (aKs, .inl (kI, 61, .inl (iF ks))), (aKb, .inl (kI, 61, .inl (iF kb))), (aKz, .inl (kI, 61, .inl (iF (iu kz (sc (pIN kb kz bx) (-1) (kn + 1 - 1).toNat 1) 3)))), (aKl, .inl (kI, 61, .inl (iF kl))), (aL, .inl (kL, 3, .inr (.inr (.inr (.inr (g3 a0 a1 a2)))))), (a1, .inr (2, [.ref a1w, .int (iI ((rmL (sc (pIN kb kz bx) (-1) (kn + 1 - 1).toNat 1) n1 (n1 - 0).toNat 0 0 w1).2))])), (a1w, .inl (kI, 16, .inl (iF ((rmL (sc (pIN kb kz bx) (-1) (kn + 1 - 1).toNat 1) n1 (n1 - 0).toNat 0 0 w1).1))))]) [2, 0, 1, 3, 4, 5, 6, 7, 8, 9, 10, 11, 12] rfl
                have hD := hD.sub (ws' := [(g, .inr (6, [.ref aR, .ref aB, .ref aT, .ref aS, .ref aK, .ref aL, .int (iI nw), .int (iI al), .int (iI lg), .int (iI tt), .int (iI dn)])), (aB, .inr (1, [.ref aBs, .ref aBw, .ref aBd, .ref aBv, .int (iI bn)])), (aBv, .inl (kI, 80, .inl (iF (iu bv (bx * 4 + 0) 0)))), (aS, .inr (4, [.ref aSt, .int (iI sn), .int (iI sm)])), (aSt, .inl (kI, 24, .inl (iF (iu tk (ks (sc (pIN kb kz bx) (-1) (kn + 1 - 1).toNat 1)) (tk (ks (sc (pIN kb kz bx) (-1) (kn + 1 - 1).toNat 1)) - 1))))), (aK, .inr (0, [.ref aKs, .ref aKt, .ref aKb, .ref aKz, .ref aKl, .ref aKc, .ref aKu, .int (iI kn)])), (aKs, .inl (kI, 61, .inl (iF ks))), (aKb, .inl (kI, 61, .inl (iF kb))), (aKz, .inl (kI, 61, .inl (iF (iu kz (sc (pIN kb kz bx) (-1) (kn + 1 - 1).toNat 1) 3)))), (aKl, .inl (kI, 61, .inl (iF kl))), (aL, .inl (kL, 3, .inr (.inr (.inr (.inr (g3 a0 a1 a2)))))), (a1, .inr (2, [.ref a1w, .int (iI ((rmL (sc (pIN kb kz bx) (-1) (kn + 1 - 1).toNat 1) n1 (n1 - 0).toNat 0 0 w1).2))])), (a1w, .inl (kI, 16, .inl (iF ((rmL (sc (pIN kb kz bx) (-1) (kn + 1 - 1).toNat 1) n1 (n1 - 0).toNat 0 0 w1).1))))]) [2, 0, 1, 3, 4, 5, 6, 7, 8, 9, 10, 11, 12] (by decide) rfl
                exact rk_int hx hb hr hlocks hK hP hD hS (by first | rfl | omega) rfl dX6_check_99
          · skip
            exfalso; omega
        · skip
          exfalso; omega
    · skip
      exfalso; omega

set_option maxHeartbeats 4000000 in
set_option maxRecDepth 100000 in
theorem tX6_check_w2 (l : Launch) (D : va_G) (kI : ClassId) (kZ : ClassId) (kL : ClassId) (kJ : ClassId) (g : Nat) (aR : Nat) (aB : Nat) (aT : Nat) (aS : Nat) (aK : Nat) (aL : Nat) (aBs : Nat) (aBw : Nat) (aBd : Nat) (aBv : Nat) (aSt : Nat) (aKs : Nat) (aKt : Nat) (aKb : Nat) (aKz : Nat) (aKl : Nat) (aKc : Nat) (aKu : Nat) (a0 : Nat) (a1 : Nat) (a2 : Nat) (a2w : Nat) (bv : Int → Int) (tk : Int → Int) (ks : Int → Int) (kb : Int → Int) (kz : Int → Int) (kl : Int → Int) (w2 : Int → Int) (nw : Int) (al : Int) (lg : Int) (tt : Int) (dn : Int) (bn : Int) (sn : Int) (sm : Int) (kn : Int) (n2 : Int) (bx : Int) (sz : Nat) (hbn : 0 ≤ bn ∧ bn ≤ 20) (hof : 0 ≤ bx ∧ bx < bn) (hkn : 0 ≤ kn ∧ kn ≤ 60) (hkb : ∀ j, 0 ≤ kb j ∧ kb j ≤ 1000000) (hkz : ∀ j, 0 ≤ kz j ∧ kz j ≤ 1000000) (hks : ∀ j, 0 ≤ ks j ∧ ks j < 24) (hX : 1 ≤ sc (pIN kb kz bx) (-1) (kn + 1 - 1).toNat 1 ∧ sc (pIN kb kz bx) (-1) (kn + 1 - 1).toNat 1 ≤ kn) (hl9 : kl (sc (pIN kb kz bx) (-1) (kn + 1 - 1).toNat 1) = 2) (hn2 : 0 ≤ n2 ∧ n2 ≤ 16) (hw2 : ∀ j, 0 ≤ w2 j ∧ w2 j ≤ 1000000) : CtI l yX6_check wsX6_check ({ frames := 2, cells := 0, slots := 0, locals := 45 }) D vwCl (tyL kI kZ kL kJ) [(g, .inr (6, [.ref aR, .ref aB, .ref aT, .ref aS, .ref aK, .ref aL, .int (iI nw), .int (iI al), .int (iI lg), .int (iI tt), .int (iI dn)])), (aB, .inr (1, [.ref aBs, .ref aBw, .ref aBd, .ref aBv, .int (iI bn)])), (aBv, .inl (kI, 80, .inl (iF bv))), (aS, .inr (4, [.ref aSt, .int (iI sn), .int (iI sm)])), (aSt, .inl (kI, 24, .inl (iF tk))), (aK, .inr (0, [.ref aKs, .ref aKt, .ref aKb, .ref aKz, .ref aKl, .ref aKc, .ref aKu, .int (iI kn)])), (aKs, .inl (kI, 61, .inl (iF ks))), (aKb, .inl (kI, 61, .inl (iF kb))), (aKz, .inl (kI, 61, .inl (iF kz))), (aKl, .inl (kI, 61, .inl (iF kl))), (aL, .inl (kL, 3, .inr (.inr (.inr (.inr (g3 a0 a1 a2)))))), (a2, .inr (2, [.ref a2w, .int (iI n2)])), (a2w, .inl (kI, 16, .inl (iF w2)))] [.ref g, .int (iI 0), .int (iI bx), .int (iI 0)] (iI 1) [(g, .inr (6, [.ref aR, .ref aB, .ref aT, .ref aS, .ref aK, .ref aL, .int (iI nw), .int (iI al), .int (iI lg), .int (iI tt), .int (iI dn)])), (aB, .inr (1, [.ref aBs, .ref aBw, .ref aBd, .ref aBv, .int (iI bn)])), (aBv, .inl (kI, 80, .inl (iF (iu bv (bx * 4 + 0) 0)))), (aS, .inr (4, [.ref aSt, .int (iI sn), .int (iI sm)])), (aSt, .inl (kI, 24, .inl (iF (iu tk (ks (sc (pIN kb kz bx) (-1) (kn + 1 - 1).toNat 1)) (tk (ks (sc (pIN kb kz bx) (-1) (kn + 1 - 1).toNat 1)) - 1))))), (aK, .inr (0, [.ref aKs, .ref aKt, .ref aKb, .ref aKz, .ref aKl, .ref aKc, .ref aKu, .int (iI kn)])), (aKs, .inl (kI, 61, .inl (iF ks))), (aKb, .inl (kI, 61, .inl (iF kb))), (aKz, .inl (kI, 61, .inl (iF (iu kz (sc (pIN kb kz bx) (-1) (kn + 1 - 1).toNat 1) 3)))), (aKl, .inl (kI, 61, .inl (iF kl))), (aL, .inl (kL, 3, .inr (.inr (.inr (.inr (g3 a0 a1 a2)))))), (a2, .inr (2, [.ref a2w, .int (iI ((rmL (sc (pIN kb kz bx) (-1) (kn + 1 - 1).toNat 1) n2 (n2 - 0).toNat 0 0 w2).2))])), (a2w, .inl (kI, 16, .inl (iF ((rmL (sc (pIN kb kz bx) (-1) (kn + 1 - 1).toNat 1) n2 (n2 - 0).toNat 0 0 w2).1))))] sz := by
  refine ck_start (Qc := fun A => cQi D vwCl (tyL kI kZ kL kJ) A (iI 1) [(g, .inr (6, [.ref aR, .ref aB, .ref aT, .ref aS, .ref aK, .ref aL, .int (iI nw), .int (iI al), .int (iI lg), .int (iI tt), .int (iI dn)])), (aB, .inr (1, [.ref aBs, .ref aBw, .ref aBd, .ref aBv, .int (iI bn)])), (aBv, .inl (kI, 80, .inl (iF (iu bv (bx * 4 + 0) 0)))), (aS, .inr (4, [.ref aSt, .int (iI sn), .int (iI sm)])), (aSt, .inl (kI, 24, .inl (iF (iu tk (ks (sc (pIN kb kz bx) (-1) (kn + 1 - 1).toNat 1)) (tk (ks (sc (pIN kb kz bx) (-1) (kn + 1 - 1).toNat 1)) - 1))))), (aK, .inr (0, [.ref aKs, .ref aKt, .ref aKb, .ref aKz, .ref aKl, .ref aKc, .ref aKu, .int (iI kn)])), (aKs, .inl (kI, 61, .inl (iF ks))), (aKb, .inl (kI, 61, .inl (iF kb))), (aKz, .inl (kI, 61, .inl (iF (iu kz (sc (pIN kb kz bx) (-1) (kn + 1 - 1).toNat 1) 3)))), (aKl, .inl (kI, 61, .inl (iF kl))), (aL, .inl (kL, 3, .inr (.inr (.inr (.inr (g3 a0 a1 a2)))))), (a2, .inr (2, [.ref a2w, .int (iI ((rmL (sc (pIN kb kz bx) (-1) (kn + 1 - 1).toNat 1) n2 (n2 - 0).toNat 0 0 w2).2))])), (a2w, .inl (kI, 16, .inl (iF ((rmL (sc (pIN kb kz bx) (-1) (kn + 1 - 1).toNat 1) n2 (n2 - 0).toNat 0 0 w2).1))))]) (cc := cX6_check) (maxL := 4) (ret := (some .int)) (LV := [(0, .ref g), (1, .int (iI 0)), (2, .int (iI bx)), (3, .int (iI 0))]) (by decide) rfl rfl (Nat.le_of_ble_eq_true rfl) ?_
  intro p e s m below meth cd hadm hx hb hr hml hts hown hlocks hname hnoh hxT A hA hK hP hD hS ls hl
  refine lv_iload_n hx hb dX6_check_0 rfl (lv_at hl 1 rfl) ?_
  refine wk_if_lt (tgt := 9) hx hb dX6_check_1 (by decide) (by omega) (fun c_1 => ?_) (fun c_1 => ?_)
  · skip
    exfalso; omega
  · skip
    refine lv_iload_n hx hb dX6_check_4 rfl (lv_at hl 1 rfl) ?_
    refine lv_iconst (v := iI 5) hx hb dX6_check_5 rfl ?_
    refine wk_icmp_le (tgt := 19) hx hb dX6_check_6 (by decide) (by omega) (fun c_2 => ?_) (fun c_2 => ?_)
    · skip
      refine lv_iload_n hx hb dX6_check_19 rfl (lv_at hl 1 rfl) ?_
      refine lv_iconst (v := iI 4) hx hb dX6_check_20 rfl ?_
      refine wk_icmp_ge (tgt := 32) hx hb dX6_check_21 (by decide) (by omega) (fun c_3 => ?_) (fun c_3 => ?_)
      · skip
        exfalso; omega
      · skip
        refine lv_aload_n hx hb dX6_check_24 rfl (lv_at hl 0 rfl) ?_
        refine lv_iload_n hx hb dX6_check_25 rfl (lv_at hl 2 rfl) ?_
        refine pk_callV (va_runV (As := [.int (iI bx)]) (rest := []) ⟨hx, hb, hml, hown, hts⟩ (tX6_needBox l D kI kZ kL kJ g aR aB aT aS aK aL aBs aBw aBd aBv nw al lg tt dn bn bx s.heap.size (by first | assumption | omega) (by first | assumption | omega)) (cwV 1 hts (gd_V tb_cons wd_415 wd_417 wd_2 wd_33 wd_418) rfl rfl rfl (by decide +kernel) ⟨Nat.le_of_ble_eq_true rfl, Nat.le_of_ble_eq_true rfl⟩) (ck_preV hxT hK hP hD [0, 1] rfl (by decide) (q0 := 0) rfl rfl rfl) rfl rfl hl.1 rfl (lv_room (Nat.le_of_ble_eq_true rfl)) dX6_check_26 ⟨Nat.zero_le _, Nat.zero_le _⟩) ?_
        refine lv_goto (tgt := 37) hx hb dX6_check_29 (by decide) ?_
        refine lv_iload_n hx hb dX6_check_37 rfl (lv_at hl 1 rfl) ?_
        refine lv_iload_n hx hb dX6_check_38 rfl (lv_at hl 3 rfl) ?_
        refine pk_callI (va_runS (As := [.int (iI 0), .int (iI 0)]) (rest := []) ⟨hx, hb, hml, hown, hts⟩ (tX6_canBe l D kI kZ kL kJ 0 0 s.heap.size (by first | assumption | omega) (by first | assumption | omega)) (cwS 2 hts (gd_S tb_cons wd_440 wd_441 wd_33 wd_442) rfl rfl rfl (by decide +kernel) ⟨Nat.le_of_ble_eq_true rfl, Nat.le_of_ble_eq_true rfl⟩) (ck_preS hxT hK hP hD [] rfl (by decide)) rfl rfl hl.1 rfl (lv_room (Nat.le_of_ble_eq_true rfl)) dX6_check_39 ⟨Nat.zero_le _, Nat.zero_le _⟩) ?_
        refine wk_bif_ne (tgt := 55) hx hb dX6_check_42 (by decide) (fun c_4 => ?_) (fun c_4 => ?_)
        · skip
          refine lv_iload_n hx hb dX6_check_55 rfl (lv_at hl 1 rfl) ?_
          refine lv_iconst (v := iI 4) hx hb dX6_check_56 rfl ?_
          refine wk_icmp_lt (tgt := 72) hx hb dX6_check_57 (by decide) (by omega) (fun c_5 => ?_) (fun c_5 => ?_)
          · skip
            refine lv_aload_n hx hb dX6_check_72 rfl (lv_at hl 0 rfl) ?_
            refine va_get (D := D) (ci := 6) (v := .ref aB) (C := RX6) (T := TX6) (N := 11) hx hb hts (fun w h => (List.mem_cons_of_mem _ (hinX6 w h))) hown hK hP 0 rfl rfl 1 (by decide) (hts _ (List.mem_cons_of_mem _ wd_190)) (fun _ h9 => h9) rfl dX6_check_73 ?_
            refine lv_iload_n hx hb dX6_check_76 rfl (lv_at hl 2 rfl) ?_
            refine lv_iload_n hx hb dX6_check_77 rfl (lv_at hl 1 rfl) ?_
            refine lv_iload_n hx hb dX6_check_78 rfl (lv_at hl 3 rfl) ?_
            refine ck_backV (va_runV (As := [.int (iI bx), .int (iI 0), .int (iI 0)]) (rest := []) ⟨hx, hb, hml, hown, hts⟩ (tX1_judge l D kI kZ kL kJ aB aBs aBw aBd aBv bv bn bx 0 0 s.heap.size (by first | assumption | omega) (by first | assumption | omega)) (cwV 3 hts (gd_V tb_cons wd_448 wd_403 wd_404 wd_35 wd_405) rfl rfl rfl (by decide +kernel) ⟨Nat.le_of_ble_eq_true rfl, Nat.le_of_ble_eq_true rfl⟩) (ck_preV hxT hK hP hD [1, 2] rfl (by decide) (q0 := 0) rfl rfl rfl) rfl rfl hl.1 rfl (lv_room (Nat.le_of_ble_eq_true rfl)) dX6_check_79 ⟨Nat.zero_le _, Nat.zero_le _⟩) hP hD hS hA [1, 2] [0, 3, 4, 5, 6, 7, 8, 9, 10, 11, 12] (WR := [(g, .inr (6, [.ref aR, .ref aB, .ref aT, .ref aS, .ref aK, .ref aL, .int (iI nw), .int (iI al), .int (iI lg), .int (iI tt), .int (iI dn)])), (aS, .inr (4, [.ref aSt, .int (iI sn), .int (iI sm)])), (aSt, .inl (kI, 24, .inl (iF tk))), (aK, .inr (0, [.ref aKs, .ref aKt, .ref aKb, .ref aKz, .ref aKl, .ref aKc, .ref aKu, .int (iI kn)])), (aKs, .inl (kI, 61, .inl (iF ks))), (aKb, .inl (kI, 61, .inl (iF kb))), (aKz, .inl (kI, 61, .inl (iF kz))), (aKl, .inl (kI, 61, .inl (iF kl))), (aL, .inl (kL, 3, .inr (.inr (.inr (.inr (g3 a0 a1 a2)))))), (a2, .inr (2, [.ref a2w, .int (iI n2)])), (a2w, .inl (kI, 16, .inl (iF w2)))]) rfl rfl (by decide) (by decide) (ws' := [(g, .inr (6, [.ref aR, .ref aB, .ref aT, .ref aS, .ref aK, .ref aL, .int (iI nw), .int (iI al), .int (iI lg), .int (iI tt), .int (iI dn)])), (aS, .inr (4, [.ref aSt, .int (iI sn), .int (iI sm)])), (aSt, .inl (kI, 24, .inl (iF tk))), (aK, .inr (0, [.ref aKs, .ref aKt, .ref aKb, .ref aKz, .ref aKl, .ref aKc, .ref aKu, .int (iI kn)])), (aKs, .inl (kI, 61, .inl (iF ks))), (aKb, .inl (kI, 61, .inl (iF kb))), (aKz, .inl (kI, 61, .inl (iF kz))), (aKl, .inl (kI, 61, .inl (iF kl))), (aL, .inl (kL, 3, .inr (.inr (.inr (.inr (g3 a0 a1 a2)))))), (a2, .inr (2, [.ref a2w, .int (iI n2)])), (a2w, .inl (kI, 16, .inl (iF w2))), (aB, .inr (1, [.ref aBs, .ref aBw, .ref aBd, .ref aBv, .int (iI bn)])), (aBv, .inl (kI, 80, .inl (iF (iu bv (bx * 4 + 0) 0))))]) rfl (fun H locs hP hD hS => ?_)
            refine lv_iload_n hx hb dX6_check_82 rfl (lv_at hl 1 rfl) ?_
            refine wk_if_ne (tgt := 98) hx hb dX6_check_83 (by decide) (by omega) (fun c_6 => ?_) (fun c_6 => ?_)
            · skip
              exfalso; omega
            · skip
              refine lv_iload_n hx hb dX6_check_86 rfl (lv_at hl 3 rfl) ?_
              refine wk_if_ne (tgt := 98) hx hb dX6_check_87 (by decide) (by omega) (fun c_7 => ?_) (fun c_7 => ?_)
              · skip
                exfalso; omega
              · skip
                refine lv_aload_n hx hb dX6_check_90 rfl (lv_at hl 0 rfl) ?_
                refine lv_iload_n hx hb dX6_check_91 rfl (lv_at hl 2 rfl) ?_
                refine ck_backI (va_runV (As := [.int (iI bx)]) (rest := []) ⟨hx, hb, hml, hown, hts⟩ (tX6_withdraw_2 l D kI kZ kL kJ g aR aB aT aS aK aL aSt aKs aKt aKb aKz aKl aKc aKu a0 a1 a2 a2w tk ks kb kz kl w2 nw al lg tt dn sn sm kn n2 bx H.size (by first | assumption | omega) (by first | assumption | omega) (by first | assumption | omega) (by first | assumption | omega) (by first | assumption | omega) (by first | assumption | omega) (by first | assumption | omega) (by first | assumption | omega) (by first | assumption | omega)) (cwV 1 hts (gd_V tb_cons wd_449 wd_451 wd_4 wd_33 wd_452) rfl rfl rfl (by decide +kernel) ⟨Nat.le_of_ble_eq_true rfl, Nat.le_of_ble_eq_true rfl⟩) (ck_preV hxT hK hP hD [0, 1, 2, 3, 4, 5, 6, 7, 8, 9, 10] rfl (by decide) (q0 := 0) rfl rfl rfl) rfl rfl hl.1 rfl (lv_room (Nat.le_of_ble_eq_true rfl)) dX6_check_92 ⟨Nat.zero_le _, Nat.zero_le _⟩) hP hD hS hA [0, 1, 2, 3, 4, 5, 6, 7, 8, 9, 10] [11, 12] (WR := [(aB, .inr (1, [.ref aBs, .ref aBw, .ref aBd, .ref aBv, .int (iI bn)])), (aBv, .inl (kI, 80, .inl (iF (iu bv (bx * 4 + 0) 0))))]) rfl rfl (by decide) (by decide) (ws' := [(aB, .inr (1, [.ref aBs, .ref aBw, .ref aBd, .ref aBv, .int (iI bn)])), (aBv, .inl (kI, 80, .inl (iF (iu bv (bx * 4 + 0) 0)))), (g, .inr (6, [.ref aR, .ref aB, .ref aT, .ref aS, .ref aK, .ref aL, .int (iI nw), .int (iI al), .int (iI lg), .int (iI tt), .int (iI dn)])), (aS, .inr (4, [.ref aSt, .int (iI sn), .int (iI sm)])), (aSt, .inl (kI, 24, .inl (iF (iu tk (ks (sc (pIN kb kz bx) (-1) (kn + 1 - 1).toNat 1)) (tk (ks (sc (pIN kb kz bx) (-1) (kn + 1 - 1).toNat 1)) - 1))))), (aK, .inr (0, [.ref aKs, .ref aKt, .ref aKb, .ref aKz, .ref aKl, .ref aKc, .ref aKu, .int (iI kn)])), (aKs, .inl (kI, 61, .inl (iF ks))), (aKb, .inl (kI, 61, .inl (iF kb))), (aKz, .inl (kI, 61, .inl (iF (iu kz (sc (pIN kb kz bx) (-1) (kn + 1 - 1).toNat 1) 3)))), (aKl, .inl (kI, 61, .inl (iF kl))), (aL, .inl (kL, 3, .inr (.inr (.inr (.inr (g3 a0 a1 a2)))))), (a2, .inr (2, [.ref a2w, .int (iI ((rmL (sc (pIN kb kz bx) (-1) (kn + 1 - 1).toNat 1) n2 (n2 - 0).toNat 0 0 w2).2))])), (a2w, .inl (kI, 16, .inl (iF ((rmL (sc (pIN kb kz bx) (-1) (kn + 1 - 1).toNat 1) n2 (n2 - 0).toNat 0 0 w2).1))))]) rfl (fun H locs hP hD hS => ?_)
                refine lv_goto (tgt := 99) hx hb dX6_check_95 (by decide) ?_
                have hP := hP.sub (ws' := [(g, .inr (6, [.ref aR, .ref aB, .ref aT, .ref aS, .ref aK, .ref aL, .int (iI nw), .int (iI al), .int (iI lg), .int (iI tt), .int (iI dn)])), (aB, .inr (1, [.ref aBs, .ref aBw, .ref aBd, .ref aBv, .int (iI bn)])), (aBv, .inl (kI, 80, .inl (iF (iu bv (bx * 4 + 0) 0)))), (aS, .inr (4, [.ref aSt, .int (iI sn), .int (iI sm)])), (aSt, .inl (kI, 24, .inl (iF (iu tk (ks (sc (pIN kb kz bx) (-1) (kn + 1 - 1).toNat 1)) (tk (ks (sc (pIN kb kz bx) (-1) (kn + 1 - 1).toNat 1)) - 1))))), (aK, .inr (0, [.ref aKs, .ref aKt, .ref aKb, .ref aKz, .ref aKl, .ref aKc, .ref aKu, .int (iI kn)])), (aKs, .inl (kI, 61, .inl (iF ks))), (aKb, .inl (kI, 61, .inl (iF kb))), (aKz, .inl (kI, 61, .inl (iF (iu kz (sc (pIN kb kz bx) (-1) (kn + 1 - 1).toNat 1) 3)))), (aKl, .inl (kI, 61, .inl (iF kl))), (aL, .inl (kL, 3, .inr (.inr (.inr (.inr (g3 a0 a1 a2)))))), (a2, .inr (2, [.ref a2w, .int (iI ((rmL (sc (pIN kb kz bx) (-1) (kn + 1 - 1).toNat 1) n2 (n2 - 0).toNat 0 0 w2).2))])), (a2w, .inl (kI, 16, .inl (iF ((rmL (sc (pIN kb kz bx) (-1) (kn + 1 - 1).toNat 1) n2 (n2 - 0).toNat 0 0 w2).1))))]) [2, 0, 1, 3, 4, 5, 6, 7, 8, 9, 10, 11, 12] rfl
                have hD := hD.sub (ws' := [(g, .inr (6, [.ref aR, .ref aB, .ref aT, .ref aS, .ref aK, .ref aL, .int (iI nw), .int (iI al), .int (iI lg), .int (iI tt), .int (iI dn)])), (aB, .inr (1, [.ref aBs, .ref aBw, .ref aBd, .ref aBv, .int (iI bn)])), (aBv, .inl (kI, 80, .inl (iF (iu bv (bx * 4 + 0) 0)))), (aS, .inr (4, [.ref aSt, .int (iI sn), .int (iI sm)])), (aSt, .inl (kI, 24, .inl (iF (iu tk (ks (sc (pIN kb kz bx) (-1) (kn + 1 - 1).toNat 1)) (tk (ks (sc (pIN kb kz bx) (-1) (kn + 1 - 1).toNat 1)) - 1))))), (aK, .inr (0, [.ref aKs, .ref aKt, .ref aKb, .ref aKz, .ref aKl, .ref aKc, .ref aKu, .int (iI kn)])), (aKs, .inl (kI, 61, .inl (iF ks))), (aKb, .inl (kI, 61, .inl (iF kb))), (aKz, .inl (kI, 61, .inl (iF (iu kz (sc (pIN kb kz bx) (-1) (kn + 1 - 1).toNat 1) 3)))), (aKl, .inl (kI, 61, .inl (iF kl))), (aL, .inl (kL, 3, .inr (.inr (.inr (.inr (g3 a0 a1 a2)))))), (a2, .inr (2, [.ref a2w, .int (iI ((rmL (sc (pIN kb kz bx) (-1) (kn + 1 - 1).toNat 1) n2 (n2 - 0).toNat 0 0 w2).2))])), (a2w, .inl (kI, 16, .inl (iF ((rmL (sc (pIN kb kz bx) (-1) (kn + 1 - 1).toNat 1) n2 (n2 - 0).toNat 0 0 w2).1))))]) [2, 0, 1, 3, 4, 5, 6, 7, 8, 9, 10, 11, 12] (by decide) rfl
                exact rk_int hx hb hr hlocks hK hP hD hS (by first | rfl | omega) rfl dX6_check_99
          · skip
            exfalso; omega
        · skip
          exfalso; omega
    · skip
      exfalso; omega

set_option maxHeartbeats 4000000 in
set_option maxRecDepth 100000 in
theorem tX6_book_t1 (l : Launch) (D : va_G) (kI : ClassId) (kZ : ClassId) (kL : ClassId) (kJ : ClassId) (g : Nat) (aR : Nat) (aB : Nat) (aT : Nat) (aS : Nat) (aK : Nat) (aL : Nat) (aSt : Nat) (nw : Int) (al : Int) (lg : Int) (tt : Int) (dn : Int) (sn : Int) (sm : Int) (sl : Int) (tr : Int) (bx : Int) (sz : Nat) (hfl : l.flags = pinnedFlags ++ [noTraceFlag]) (hsn : 1 ≤ sn ∧ sn ≤ 24) (hsl : -2147483648 ≤ sl ∧ sl ≤ 2147483647) (h1 : ¬ (0 ≤ sl ∧ sl < sn)) : CtT l yX6_book wsX6_book ({ frames := 7, cells := 1, slots := 6, locals := 103 }) D vwCl (tyL kI kZ kL kJ) [(g, .inr (6, [.ref aR, .ref aB, .ref aT, .ref aS, .ref aK, .ref aL, .int (iI nw), .int (iI al), .int (iI lg), .int (iI tt), .int (iI dn)])), (aS, .inr (4, [.ref aSt, .int (iI sn), .int (iI sm)]))] [.ref g, .int (iI sl), .int (iI tr), .int (iI bx)] "java/lang/IndexOutOfBoundsException" sz := by
  refine ct_start (cc := cX6_book) (maxL := 4) (ret := (some .int)) (LV := [(0, .ref g), (1, .int (iI sl)), (2, .int (iI tr)), (3, .int (iI bx))]) (by decide) rfl rfl (Nat.le_of_ble_eq_true rfl) ?_
  intro p e s m below meth cd hadm hx hb hr hml hts hown hlocks hname hnoh hxT hzT A hA hK hP hD hS ls hl
  refine lv_aload_n hx hb dX6_book_0 rfl (lv_at hl 0 rfl) ?_
  refine lv_iload_n hx hb dX6_book_1 rfl (lv_at hl 1 rfl) ?_
  exact wt_leave (rest := []) (wt_runV (As := [.int (iI sl)]) (rest := []) ⟨hx, hb, hml, hown, hts⟩ (tX6_needSlot_t l D kI kZ kL kJ g aR aB aT aS aK aL aSt nw al lg tt dn sn sm sl s.heap.size hfl (by first | assumption | omega) (by first | assumption | omega) (by first | assumption | omega)) (cwV 1 hts (gd_V tb_cons wd_472 wd_474 wd_6 wd_33 wd_475) rfl rfl rfl (by decide +kernel) ⟨Nat.le_of_ble_eq_true rfl, Nat.le_of_ble_eq_true rfl⟩) (ck_preT hzT hxT hK hP hD [0, 1] rfl (by decide) (q0 := 0) rfl rfl rfl) rfl rfl hl.1 rfl (lv_room (Nat.le_of_ble_eq_true rfl)) dX6_book_2 ⟨Nat.le_of_ble_eq_true rfl, Nat.le_of_ble_eq_true rfl⟩) hnoh hlocks

set_option maxHeartbeats 4000000 in
set_option maxRecDepth 100000 in
theorem tX6_book_t2 (l : Launch) (D : va_G) (kI : ClassId) (kZ : ClassId) (kL : ClassId) (kJ : ClassId) (g : Nat) (aR : Nat) (aB : Nat) (aT : Nat) (aS : Nat) (aK : Nat) (aL : Nat) (aSt : Nat) (nw : Int) (al : Int) (lg : Int) (tt : Int) (dn : Int) (sn : Int) (sm : Int) (sl : Int) (tr : Int) (bx : Int) (sz : Nat) (hfl : l.flags = pinnedFlags ++ [noTraceFlag]) (hsn : 1 ≤ sn ∧ sn ≤ 24) (hsl : 0 ≤ sl ∧ sl < sn) (htr : -2147483648 ≤ tr ∧ tr ≤ 2147483647) (h1 : ¬ (0 ≤ tr ∧ tr < 16)) : CtT l yX6_book wsX6_book ({ frames := 7, cells := 1, slots := 6, locals := 103 }) D vwCl (tyL kI kZ kL kJ) [(g, .inr (6, [.ref aR, .ref aB, .ref aT, .ref aS, .ref aK, .ref aL, .int (iI nw), .int (iI al), .int (iI lg), .int (iI tt), .int (iI dn)])), (aS, .inr (4, [.ref aSt, .int (iI sn), .int (iI sm)]))] [.ref g, .int (iI sl), .int (iI tr), .int (iI bx)] "java/lang/IndexOutOfBoundsException" sz := by
  refine ct_start (cc := cX6_book) (maxL := 4) (ret := (some .int)) (LV := [(0, .ref g), (1, .int (iI sl)), (2, .int (iI tr)), (3, .int (iI bx))]) (by decide) rfl rfl (Nat.le_of_ble_eq_true rfl) ?_
  intro p e s m below meth cd hadm hx hb hr hml hts hown hlocks hname hnoh hxT hzT A hA hK hP hD hS ls hl
  refine lv_aload_n hx hb dX6_book_0 rfl (lv_at hl 0 rfl) ?_
  refine lv_iload_n hx hb dX6_book_1 rfl (lv_at hl 1 rfl) ?_
  refine pk_callV (va_runV (As := [.int (iI sl)]) (rest := []) ⟨hx, hb, hml, hown, hts⟩ (tX6_needSlot l D kI kZ kL kJ g aR aB aT aS aK aL aSt nw al lg tt dn sn sm sl s.heap.size (by first | assumption | omega) (by first | assumption | omega)) (cwV 1 hts (gd_V tb_cons wd_472 wd_474 wd_6 wd_33 wd_475) rfl rfl rfl (by decide +kernel) ⟨Nat.le_of_ble_eq_true rfl, Nat.le_of_ble_eq_true rfl⟩) (ck_preV hxT hK hP hD [0, 1] rfl (by decide) (q0 := 0) rfl rfl rfl) rfl rfl hl.1 rfl (lv_room (Nat.le_of_ble_eq_true rfl)) dX6_book_2 ⟨Nat.zero_le _, Nat.zero_le _⟩) ?_
  refine lv_aload_n hx hb dX6_book_5 rfl (lv_at hl 0 rfl) ?_
  refine lv_iload_n hx hb dX6_book_6 rfl (lv_at hl 2 rfl) ?_
  exact wt_leave (rest := []) (wt_runV (As := [.int (iI tr)]) (rest := []) ⟨hx, hb, hml, hown, hts⟩ (tX6_needTruck_t l D kI kZ kL kJ g aR aB aT aS aK aL nw al lg tt dn tr s.heap.size hfl (by first | assumption | omega) (by first | assumption | omega)) (cwV 1 hts (gd_V tb_cons wd_435 wd_437 wd_3 wd_33 wd_438) rfl rfl rfl (by decide +kernel) ⟨Nat.le_of_ble_eq_true rfl, Nat.le_of_ble_eq_true rfl⟩) (ck_preT hzT hxT hK hP hD [0] rfl (by decide) (q0 := 0) rfl rfl rfl) rfl rfl hl.1 rfl (lv_room (Nat.le_of_ble_eq_true rfl)) dX6_book_7 ⟨Nat.le_of_ble_eq_true rfl, Nat.le_of_ble_eq_true rfl⟩) hnoh hlocks

set_option maxHeartbeats 4000000 in
set_option maxRecDepth 100000 in
theorem tX6_book_t3 (l : Launch) (D : va_G) (kI : ClassId) (kZ : ClassId) (kL : ClassId) (kJ : ClassId) (g : Nat) (aR : Nat) (aB : Nat) (aT : Nat) (aS : Nat) (aK : Nat) (aL : Nat) (aSt : Nat) (aBs : Nat) (aBw : Nat) (aBd : Nat) (aBv : Nat) (nw : Int) (al : Int) (lg : Int) (tt : Int) (dn : Int) (sn : Int) (sm : Int) (bn : Int) (sl : Int) (tr : Int) (bx : Int) (sz : Nat) (hfl : l.flags = pinnedFlags ++ [noTraceFlag]) (hsn : 1 ≤ sn ∧ sn ≤ 24) (hsl : 0 ≤ sl ∧ sl < sn) (htr : 0 ≤ tr ∧ tr < 16) (hbn : 0 ≤ bn ∧ bn ≤ 20) (hbx : -2147483648 ≤ bx ∧ bx ≤ 2147483647) (h1 : ¬ (0 ≤ bx ∧ bx < bn)) : CtT l yX6_book wsX6_book ({ frames := 7, cells := 1, slots := 6, locals := 103 }) D vwCl (tyL kI kZ kL kJ) [(g, .inr (6, [.ref aR, .ref aB, .ref aT, .ref aS, .ref aK, .ref aL, .int (iI nw), .int (iI al), .int (iI lg), .int (iI tt), .int (iI dn)])), (aS, .inr (4, [.ref aSt, .int (iI sn), .int (iI sm)])), (aB, .inr (1, [.ref aBs, .ref aBw, .ref aBd, .ref aBv, .int (iI bn)]))] [.ref g, .int (iI sl), .int (iI tr), .int (iI bx)] "java/lang/IndexOutOfBoundsException" sz := by
  refine ct_start (cc := cX6_book) (maxL := 4) (ret := (some .int)) (LV := [(0, .ref g), (1, .int (iI sl)), (2, .int (iI tr)), (3, .int (iI bx))]) (by decide) rfl rfl (Nat.le_of_ble_eq_true rfl) ?_
  intro p e s m below meth cd hadm hx hb hr hml hts hown hlocks hname hnoh hxT hzT A hA hK hP hD hS ls hl
  refine lv_aload_n hx hb dX6_book_0 rfl (lv_at hl 0 rfl) ?_
  refine lv_iload_n hx hb dX6_book_1 rfl (lv_at hl 1 rfl) ?_
  refine pk_callV (va_runV (As := [.int (iI sl)]) (rest := []) ⟨hx, hb, hml, hown, hts⟩ (tX6_needSlot l D kI kZ kL kJ g aR aB aT aS aK aL aSt nw al lg tt dn sn sm sl s.heap.size (by first | assumption | omega) (by first | assumption | omega)) (cwV 1 hts (gd_V tb_cons wd_472 wd_474 wd_6 wd_33 wd_475) rfl rfl rfl (by decide +kernel) ⟨Nat.le_of_ble_eq_true rfl, Nat.le_of_ble_eq_true rfl⟩) (ck_preV hxT hK hP hD [0, 1] rfl (by decide) (q0 := 0) rfl rfl rfl) rfl rfl hl.1 rfl (lv_room (Nat.le_of_ble_eq_true rfl)) dX6_book_2 ⟨Nat.zero_le _, Nat.zero_le _⟩) ?_
  refine lv_aload_n hx hb dX6_book_5 rfl (lv_at hl 0 rfl) ?_
  refine lv_iload_n hx hb dX6_book_6 rfl (lv_at hl 2 rfl) ?_
  refine pk_callV (va_runV (As := [.int (iI tr)]) (rest := []) ⟨hx, hb, hml, hown, hts⟩ (tX6_needTruck l D kI kZ kL kJ g aR aB aT aS aK aL nw al lg tt dn tr s.heap.size (by first | assumption | omega)) (cwV 1 hts (gd_V tb_cons wd_435 wd_437 wd_3 wd_33 wd_438) rfl rfl rfl (by decide +kernel) ⟨Nat.le_of_ble_eq_true rfl, Nat.le_of_ble_eq_true rfl⟩) (ck_preV hxT hK hP hD [0] rfl (by decide) (q0 := 0) rfl rfl rfl) rfl rfl hl.1 rfl (lv_room (Nat.le_of_ble_eq_true rfl)) dX6_book_7 ⟨Nat.zero_le _, Nat.zero_le _⟩) ?_
  refine lv_aload_n hx hb dX6_book_10 rfl (lv_at hl 0 rfl) ?_
  refine lv_iload_n hx hb dX6_book_11 rfl (lv_at hl 3 rfl) ?_
  exact wt_leave (rest := []) (wt_runV (As := [.int (iI bx)]) (rest := []) ⟨hx, hb, hml, hown, hts⟩ (tX6_needBox_t l D kI kZ kL kJ g aR aB aT aS aK aL aBs aBw aBd aBv nw al lg tt dn bn bx s.heap.size hfl (by first | assumption | omega) (by first | assumption | omega) (by first | assumption | omega)) (cwV 1 hts (gd_V tb_cons wd_415 wd_417 wd_2 wd_33 wd_418) rfl rfl rfl (by decide +kernel) ⟨Nat.le_of_ble_eq_true rfl, Nat.le_of_ble_eq_true rfl⟩) (ck_preT hzT hxT hK hP hD [0, 2] rfl (by decide) (q0 := 0) rfl rfl rfl) rfl rfl hl.1 rfl (lv_room (Nat.le_of_ble_eq_true rfl)) dX6_book_12 ⟨Nat.le_of_ble_eq_true rfl, Nat.le_of_ble_eq_true rfl⟩) hnoh hlocks

set_option maxHeartbeats 4000000 in
set_option maxRecDepth 100000 in
theorem tX6_book_t4 (l : Launch) (D : va_G) (kI : ClassId) (kZ : ClassId) (kL : ClassId) (kJ : ClassId) (g : Nat) (aR : Nat) (aB : Nat) (aT : Nat) (aS : Nat) (aK : Nat) (aL : Nat) (aSt : Nat) (aBs : Nat) (aBw : Nat) (aBd : Nat) (aBv : Nat) (aKs : Nat) (aKt : Nat) (aKb : Nat) (aKz : Nat) (aKl : Nat) (aKc : Nat) (aKu : Nat) (nw : Int) (al : Int) (lg : Int) (tt : Int) (dn : Int) (sn : Int) (sm : Int) (bn : Int) (kn : Int) (sl : Int) (tr : Int) (bx : Int) (sz : Nat) (hfl : l.flags = pinnedFlags ++ [noTraceFlag]) (hsn : 1 ≤ sn ∧ sn ≤ 24) (hsl : 0 ≤ sl ∧ sl < sn) (htr : 0 ≤ tr ∧ tr < 16) (hbn : 0 ≤ bn ∧ bn ≤ 20) (hbx : 0 ≤ bx ∧ bx < bn) (h1 : kn = 60) : CtT l yX6_book wsX6_book ({ frames := 6, cells := 1, slots := 6, locals := 82 }) D vwCl (tyL kI kZ kL kJ) [(g, .inr (6, [.ref aR, .ref aB, .ref aT, .ref aS, .ref aK, .ref aL, .int (iI nw), .int (iI al), .int (iI lg), .int (iI tt), .int (iI dn)])), (aS, .inr (4, [.ref aSt, .int (iI sn), .int (iI sm)])), (aB, .inr (1, [.ref aBs, .ref aBw, .ref aBd, .ref aBv, .int (iI bn)])), (aK, .inr (0, [.ref aKs, .ref aKt, .ref aKb, .ref aKz, .ref aKl, .ref aKc, .ref aKu, .int (iI kn)]))] [.ref g, .int (iI sl), .int (iI tr), .int (iI bx)] "java/lang/IllegalStateException" sz := by
  refine ct_start (cc := cX6_book) (maxL := 4) (ret := (some .int)) (LV := [(0, .ref g), (1, .int (iI sl)), (2, .int (iI tr)), (3, .int (iI bx))]) (by decide) rfl rfl (Nat.le_of_ble_eq_true rfl) ?_
  intro p e s m below meth cd hadm hx hb hr hml hts hown hlocks hname hnoh hxT hzT A hA hK hP hD hS ls hl
  refine lv_aload_n hx hb dX6_book_0 rfl (lv_at hl 0 rfl) ?_
  refine lv_iload_n hx hb dX6_book_1 rfl (lv_at hl 1 rfl) ?_
  refine pk_callV (va_runV (As := [.int (iI sl)]) (rest := []) ⟨hx, hb, hml, hown, hts⟩ (tX6_needSlot l D kI kZ kL kJ g aR aB aT aS aK aL aSt nw al lg tt dn sn sm sl s.heap.size (by first | assumption | omega) (by first | assumption | omega)) (cwV 1 hts (gd_V tb_cons wd_472 wd_474 wd_6 wd_33 wd_475) rfl rfl rfl (by decide +kernel) ⟨Nat.le_of_ble_eq_true rfl, Nat.le_of_ble_eq_true rfl⟩) (ck_preV hxT hK hP hD [0, 1] rfl (by decide) (q0 := 0) rfl rfl rfl) rfl rfl hl.1 rfl (lv_room (Nat.le_of_ble_eq_true rfl)) dX6_book_2 ⟨Nat.zero_le _, Nat.zero_le _⟩) ?_
  refine lv_aload_n hx hb dX6_book_5 rfl (lv_at hl 0 rfl) ?_
  refine lv_iload_n hx hb dX6_book_6 rfl (lv_at hl 2 rfl) ?_
  refine pk_callV (va_runV (As := [.int (iI tr)]) (rest := []) ⟨hx, hb, hml, hown, hts⟩ (tX6_needTruck l D kI kZ kL kJ g aR aB aT aS aK aL nw al lg tt dn tr s.heap.size (by first | assumption | omega)) (cwV 1 hts (gd_V tb_cons wd_435 wd_437 wd_3 wd_33 wd_438) rfl rfl rfl (by decide +kernel) ⟨Nat.le_of_ble_eq_true rfl, Nat.le_of_ble_eq_true rfl⟩) (ck_preV hxT hK hP hD [0] rfl (by decide) (q0 := 0) rfl rfl rfl) rfl rfl hl.1 rfl (lv_room (Nat.le_of_ble_eq_true rfl)) dX6_book_7 ⟨Nat.zero_le _, Nat.zero_le _⟩) ?_
  refine lv_aload_n hx hb dX6_book_10 rfl (lv_at hl 0 rfl) ?_
  refine lv_iload_n hx hb dX6_book_11 rfl (lv_at hl 3 rfl) ?_
  refine pk_callV (va_runV (As := [.int (iI bx)]) (rest := []) ⟨hx, hb, hml, hown, hts⟩ (tX6_needBox l D kI kZ kL kJ g aR aB aT aS aK aL aBs aBw aBd aBv nw al lg tt dn bn bx s.heap.size (by first | assumption | omega) (by first | assumption | omega)) (cwV 1 hts (gd_V tb_cons wd_415 wd_417 wd_2 wd_33 wd_418) rfl rfl rfl (by decide +kernel) ⟨Nat.le_of_ble_eq_true rfl, Nat.le_of_ble_eq_true rfl⟩) (ck_preV hxT hK hP hD [0, 2] rfl (by decide) (q0 := 0) rfl rfl rfl) rfl rfl hl.1 rfl (lv_room (Nat.le_of_ble_eq_true rfl)) dX6_book_12 ⟨Nat.zero_le _, Nat.zero_le _⟩) ?_
  refine lv_aload_n hx hb dX6_book_15 rfl (lv_at hl 0 rfl) ?_
  refine va_get (D := D) (ci := 6) (v := .ref aK) (C := RX6) (T := TX6) (N := 11) hx hb hts (fun w h => (List.mem_cons_of_mem _ (hinX6 w h))) hown hK hP 0 rfl rfl 4 (by decide) (hts _ (List.mem_cons_of_mem _ wd_193)) (fun _ h9 => h9) rfl dX6_book_16 ?_
  refine va_get (D := D) (ci := 0) (v := .int (iI kn)) (C := RX0) (T := TX0) (N := 8) hx hb hts (fun w h => (List.mem_cons_of_mem _ (hinX0 w h))) hown hK hP 3 rfl rfl 7 (by decide) (hts _ (List.mem_cons_of_mem _ wd_156)) (fun _ h9 => h9) rfl dX6_book_19 ?_
  refine lv_bipush (v := iI 60) hx hb dX6_book_22 (by decide) ?_
  refine wk_icmp_lt (tgt := 37) hx hb dX6_book_24 (by decide) (by omega) (fun c_1 => ?_) (fun c_1 => ?_)
  · skip
    exfalso; omega
  · skip
    obtain ⟨q9, hZ9⟩ := xt_s146 hxT
    exact wt_new (names := exN) hx hb hown (Launch.traces_off hfl hadm) hlocks hnoh (hl.1.trans hml.symm) (by decide) (by decide) (ex_s (fun w h => hts w (List.mem_cons_of_mem _ h)) hzT hxT) (hts _ (List.mem_cons_of_mem _ wd_348)) (hts _ (List.mem_cons_of_mem _ wd_46)) hZ9 dX6_book_27 dX6_book_30 dX6_book_31 dX6_book_33 dX6_book_36 (Nat.le_of_ble_eq_true rfl) (Nat.le_of_ble_eq_true rfl) (Nat.le_of_ble_eq_true rfl) (Nat.le_of_ble_eq_true rfl)

set_option maxHeartbeats 4000000 in
set_option maxRecDepth 100000 in
theorem tX6_book_0 (l : Launch) (D : va_G) (kI : ClassId) (kZ : ClassId) (kL : ClassId) (kJ : ClassId) (g : Nat) (aR : Nat) (aB : Nat) (aT : Nat) (aS : Nat) (aK : Nat) (aL : Nat) (aSt : Nat) (aBs : Nat) (aBw : Nat) (aBd : Nat) (aBv : Nat) (aKs : Nat) (aKt : Nat) (aKb : Nat) (aKz : Nat) (aKl : Nat) (aKc : Nat) (aKu : Nat) (kb : Int → Int) (kz : Int → Int) (nw : Int) (al : Int) (lg : Int) (tt : Int) (dn : Int) (sn : Int) (sm : Int) (bn : Int) (kn : Int) (sl : Int) (tr : Int) (bx : Int) (sz : Nat) (hsn : 1 ≤ sn ∧ sn ≤ 24) (hsl : 0 ≤ sl ∧ sl < sn) (htr : 0 ≤ tr ∧ tr < 16) (hbn : 0 ≤ bn ∧ bn ≤ 20) (hbx : 0 ≤ bx ∧ bx < bn) (hkn : 0 ≤ kn ∧ kn ≤ 60) (h1 : kn < 60) (hkb : ∀ j, 0 ≤ kb j ∧ kb j ≤ 1000000) (hkz : ∀ j, 0 ≤ kz j ∧ kz j ≤ 1000000) (h2 : ¬ sc (pHB kb kz bx) (-1) (kn + 1 - 1).toNat 1 = -1) : CtP l yX6_book wsX6_book ({ frames := 2, cells := 0, slots := 0, locals := 42 }) D vwCl (tyL kI kZ kL kJ) [(g, .inr (6, [.ref aR, .ref aB, .ref aT, .ref aS, .ref aK, .ref aL, .int (iI nw), .int (iI al), .int (iI lg), .int (iI tt), .int (iI dn)])), (aS, .inr (4, [.ref aSt, .int (iI sn), .int (iI sm)])), (aB, .inr (1, [.ref aBs, .ref aBw, .ref aBd, .ref aBv, .int (iI bn)])), (aK, .inr (0, [.ref aKs, .ref aKt, .ref aKb, .ref aKz, .ref aKl, .ref aKc, .ref aKu, .int (iI kn)])), (aKb, .inl (kI, 61, .inl (iF kb))), (aKz, .inl (kI, 61, .inl (iF kz)))] [.ref g, .int (iI sl), .int (iI tr), .int (iI bx)] (iI 0) sz := by
  refine pk_start (cc := cX6_book) (maxL := 4) (ret := (some .int)) (LV := [(0, .ref g), (1, .int (iI sl)), (2, .int (iI tr)), (3, .int (iI bx))]) (by decide) rfl rfl (Nat.le_of_ble_eq_true rfl) ?_
  intro p e s m below meth cd hadm hx hb hr hml hts hown hlocks hname hnoh hxT A hA hK hP hD hS ls hl
  refine lv_aload_n hx hb dX6_book_0 rfl (lv_at hl 0 rfl) ?_
  refine lv_iload_n hx hb dX6_book_1 rfl (lv_at hl 1 rfl) ?_
  refine pk_callV (va_runV (As := [.int (iI sl)]) (rest := []) ⟨hx, hb, hml, hown, hts⟩ (tX6_needSlot l D kI kZ kL kJ g aR aB aT aS aK aL aSt nw al lg tt dn sn sm sl s.heap.size (by first | assumption | omega) (by first | assumption | omega)) (cwV 1 hts (gd_V tb_cons wd_472 wd_474 wd_6 wd_33 wd_475) rfl rfl rfl (by decide +kernel) ⟨Nat.le_of_ble_eq_true rfl, Nat.le_of_ble_eq_true rfl⟩) (ck_preV hxT hK hP hD [0, 1] rfl (by decide) (q0 := 0) rfl rfl rfl) rfl rfl hl.1 rfl (lv_room (Nat.le_of_ble_eq_true rfl)) dX6_book_2 ⟨Nat.zero_le _, Nat.zero_le _⟩) ?_
  refine lv_aload_n hx hb dX6_book_5 rfl (lv_at hl 0 rfl) ?_
  refine lv_iload_n hx hb dX6_book_6 rfl (lv_at hl 2 rfl) ?_
  refine pk_callV (va_runV (As := [.int (iI tr)]) (rest := []) ⟨hx, hb, hml, hown, hts⟩ (tX6_needTruck l D kI kZ kL kJ g aR aB aT aS aK aL nw al lg tt dn tr s.heap.size (by first | assumption | omega)) (cwV 1 hts (gd_V tb_cons wd_435 wd_437 wd_3 wd_33 wd_438) rfl rfl rfl (by decide +kernel) ⟨Nat.le_of_ble_eq_true rfl, Nat.le_of_ble_eq_true rfl⟩) (ck_preV hxT hK hP hD [0] rfl (by decide) (q0 := 0) rfl rfl rfl) rfl rfl hl.1 rfl (lv_room (Nat.le_of_ble_eq_true rfl)) dX6_book_7 ⟨Nat.zero_le _, Nat.zero_le _⟩) ?_
  refine lv_aload_n hx hb dX6_book_10 rfl (lv_at hl 0 rfl) ?_
  refine lv_iload_n hx hb dX6_book_11 rfl (lv_at hl 3 rfl) ?_
  refine pk_callV (va_runV (As := [.int (iI bx)]) (rest := []) ⟨hx, hb, hml, hown, hts⟩ (tX6_needBox l D kI kZ kL kJ g aR aB aT aS aK aL aBs aBw aBd aBv nw al lg tt dn bn bx s.heap.size (by first | assumption | omega) (by first | assumption | omega)) (cwV 1 hts (gd_V tb_cons wd_415 wd_417 wd_2 wd_33 wd_418) rfl rfl rfl (by decide +kernel) ⟨Nat.le_of_ble_eq_true rfl, Nat.le_of_ble_eq_true rfl⟩) (ck_preV hxT hK hP hD [0, 2] rfl (by decide) (q0 := 0) rfl rfl rfl) rfl rfl hl.1 rfl (lv_room (Nat.le_of_ble_eq_true rfl)) dX6_book_12 ⟨Nat.zero_le _, Nat.zero_le _⟩) ?_
  refine lv_aload_n hx hb dX6_book_15 rfl (lv_at hl 0 rfl) ?_
  refine va_get (D := D) (ci := 6) (v := .ref aK) (C := RX6) (T := TX6) (N := 11) hx hb hts (fun w h => (List.mem_cons_of_mem _ (hinX6 w h))) hown hK hP 0 rfl rfl 4 (by decide) (hts _ (List.mem_cons_of_mem _ wd_193)) (fun _ h9 => h9) rfl dX6_book_16 ?_
  refine va_get (D := D) (ci := 0) (v := .int (iI kn)) (C := RX0) (T := TX0) (N := 8) hx hb hts (fun w h => (List.mem_cons_of_mem _ (hinX0 w h))) hown hK hP 3 rfl rfl 7 (by decide) (hts _ (List.mem_cons_of_mem _ wd_156)) (fun _ h9 => h9) rfl dX6_book_19 ?_
  refine lv_bipush (v := iI 60) hx hb dX6_book_22 (by decide) ?_
  refine wk_icmp_lt (tgt := 37) hx hb dX6_book_24 (by decide) (by omega) (fun c_1 => ?_) (fun c_1 => ?_)
  · skip
    refine lv_aload_n hx hb dX6_book_37 rfl (lv_at hl 0 rfl) ?_
    refine va_get (D := D) (ci := 6) (v := .ref aK) (C := RX6) (T := TX6) (N := 11) hx hb hts (fun w h => (List.mem_cons_of_mem _ (hinX6 w h))) hown hK hP 0 rfl rfl 4 (by decide) (hts _ (List.mem_cons_of_mem _ wd_193)) (fun _ h9 => h9) rfl dX6_book_38 ?_
    refine lv_iload_n hx hb dX6_book_41 rfl (lv_at hl 3 rfl) ?_
    refine pk_callI (va_runV (As := [.int (iI bx)]) (rest := []) ⟨hx, hb, hml, hown, hts⟩ (tX0_holdsBox l D kI kZ kL kJ aK aKs aKt aKb aKz aKl aKc aKu kb kz kn bx s.heap.size (by first | assumption | omega) (by first | assumption | omega) (by first | assumption | omega) (by first | assumption | omega)) (cwV 1 hts (gd_V tb_cons wd_478 wd_479 wd_480 wd_39 wd_481) rfl rfl rfl (by decide +kernel) ⟨Nat.le_of_ble_eq_true rfl, Nat.le_of_ble_eq_true rfl⟩) (ck_preV hxT hK hP hD [3, 4, 5] rfl (by decide) (q0 := 0) rfl rfl rfl) rfl rfl hl.1 rfl (lv_room (Nat.le_of_ble_eq_true rfl)) dX6_book_42 ⟨Nat.zero_le _, Nat.zero_le _⟩) ?_
    refine wk_bif_eq (tgt := 50) hx hb dX6_book_45 (by decide) (fun c_2 => ?_) (fun c_2 => ?_)
    · skip
      exfalso; omega
    · skip
      refine lv_iconst (v := iI 0) hx hb dX6_book_48 rfl ?_
      exact pk_int hx hb hr hlocks (by first | rfl | omega) dX6_book_49
  · skip
    exfalso; omega

set_option maxHeartbeats 4000000 in
set_option maxRecDepth 100000 in
theorem tX6_book_f (l : Launch) (D : va_G) (kI : ClassId) (kZ : ClassId) (kL : ClassId) (kJ : ClassId) (g : Nat) (aR : Nat) (aB : Nat) (aT : Nat) (aS : Nat) (aK : Nat) (aL : Nat) (aSt : Nat) (aBs : Nat) (aBw : Nat) (aBd : Nat) (aBv : Nat) (aKs : Nat) (aKt : Nat) (aKb : Nat) (aKz : Nat) (aKl : Nat) (aKc : Nat) (aKu : Nat) (tk : Int → Int) (kb : Int → Int) (kz : Int → Int) (nw : Int) (al : Int) (lg : Int) (tt : Int) (dn : Int) (sn : Int) (sm : Int) (bn : Int) (kn : Int) (sl : Int) (tr : Int) (bx : Int) (sz : Nat) (hsn : 1 ≤ sn ∧ sn ≤ 24) (hsl : 0 ≤ sl ∧ sl < sn) (htr : 0 ≤ tr ∧ tr < 16) (hbn : 0 ≤ bn ∧ bn ≤ 20) (hbx : 0 ≤ bx ∧ bx < bn) (hkn : 0 ≤ kn ∧ kn ≤ 60) (h1 : kn < 60) (hkb : ∀ j, 0 ≤ kb j ∧ kb j ≤ 1000000) (hkz : ∀ j, 0 ≤ kz j ∧ kz j ≤ 1000000) (h2 : sc (pHB kb kz bx) (-1) (kn + 1 - 1).toNat 1 = -1) (hsm : 1 ≤ sm ∧ sm ≤ 8) (htk : ∀ j, 0 ≤ tk j ∧ tk j ≤ 1000000) (h3 : ¬ tk sl < sm) : CtP l yX6_book wsX6_book ({ frames := 3, cells := 0, slots := 0, locals := 64 }) D vwCl (tyL kI kZ kL kJ) [(g, .inr (6, [.ref aR, .ref aB, .ref aT, .ref aS, .ref aK, .ref aL, .int (iI nw), .int (iI al), .int (iI lg), .int (iI tt), .int (iI dn)])), (aS, .inr (4, [.ref aSt, .int (iI sn), .int (iI sm)])), (aSt, .inl (kI, 24, .inl (iF tk))), (aB, .inr (1, [.ref aBs, .ref aBw, .ref aBd, .ref aBv, .int (iI bn)])), (aK, .inr (0, [.ref aKs, .ref aKt, .ref aKb, .ref aKz, .ref aKl, .ref aKc, .ref aKu, .int (iI kn)])), (aKb, .inl (kI, 61, .inl (iF kb))), (aKz, .inl (kI, 61, .inl (iF kz)))] [.ref g, .int (iI sl), .int (iI tr), .int (iI bx)] (iI (-1 - sc (pRM tk sm) sn (sn - 1 + 1 - (sl + 1)).toNat (sl + 1))) sz := by
  refine pk_start (cc := cX6_book) (maxL := 4) (ret := (some .int)) (LV := [(0, .ref g), (1, .int (iI sl)), (2, .int (iI tr)), (3, .int (iI bx))]) (by decide) rfl rfl (Nat.le_of_ble_eq_true rfl) ?_
  intro p e s m below meth cd hadm hx hb hr hml hts hown hlocks hname hnoh hxT A hA hK hP hD hS ls hl
  refine lv_aload_n hx hb dX6_book_0 rfl (lv_at hl 0 rfl) ?_
  refine lv_iload_n hx hb dX6_book_1 rfl (lv_at hl 1 rfl) ?_
  refine pk_callV (va_runV (As := [.int (iI sl)]) (rest := []) ⟨hx, hb, hml, hown, hts⟩ (tX6_needSlot l D kI kZ kL kJ g aR aB aT aS aK aL aSt nw al lg tt dn sn sm sl s.heap.size (by first | assumption | omega) (by first | assumption | omega)) (cwV 1 hts (gd_V tb_cons wd_472 wd_474 wd_6 wd_33 wd_475) rfl rfl rfl (by decide +kernel) ⟨Nat.le_of_ble_eq_true rfl, Nat.le_of_ble_eq_true rfl⟩) (ck_preV hxT hK hP hD [0, 1] rfl (by decide) (q0 := 0) rfl rfl rfl) rfl rfl hl.1 rfl (lv_room (Nat.le_of_ble_eq_true rfl)) dX6_book_2 ⟨Nat.zero_le _, Nat.zero_le _⟩) ?_
  refine lv_aload_n hx hb dX6_book_5 rfl (lv_at hl 0 rfl) ?_
  refine lv_iload_n hx hb dX6_book_6 rfl (lv_at hl 2 rfl) ?_
  refine pk_callV (va_runV (As := [.int (iI tr)]) (rest := []) ⟨hx, hb, hml, hown, hts⟩ (tX6_needTruck l D kI kZ kL kJ g aR aB aT aS aK aL nw al lg tt dn tr s.heap.size (by first | assumption | omega)) (cwV 1 hts (gd_V tb_cons wd_435 wd_437 wd_3 wd_33 wd_438) rfl rfl rfl (by decide +kernel) ⟨Nat.le_of_ble_eq_true rfl, Nat.le_of_ble_eq_true rfl⟩) (ck_preV hxT hK hP hD [0] rfl (by decide) (q0 := 0) rfl rfl rfl) rfl rfl hl.1 rfl (lv_room (Nat.le_of_ble_eq_true rfl)) dX6_book_7 ⟨Nat.zero_le _, Nat.zero_le _⟩) ?_
  refine lv_aload_n hx hb dX6_book_10 rfl (lv_at hl 0 rfl) ?_
  refine lv_iload_n hx hb dX6_book_11 rfl (lv_at hl 3 rfl) ?_
  refine pk_callV (va_runV (As := [.int (iI bx)]) (rest := []) ⟨hx, hb, hml, hown, hts⟩ (tX6_needBox l D kI kZ kL kJ g aR aB aT aS aK aL aBs aBw aBd aBv nw al lg tt dn bn bx s.heap.size (by first | assumption | omega) (by first | assumption | omega)) (cwV 1 hts (gd_V tb_cons wd_415 wd_417 wd_2 wd_33 wd_418) rfl rfl rfl (by decide +kernel) ⟨Nat.le_of_ble_eq_true rfl, Nat.le_of_ble_eq_true rfl⟩) (ck_preV hxT hK hP hD [0, 3] rfl (by decide) (q0 := 0) rfl rfl rfl) rfl rfl hl.1 rfl (lv_room (Nat.le_of_ble_eq_true rfl)) dX6_book_12 ⟨Nat.zero_le _, Nat.zero_le _⟩) ?_
  refine lv_aload_n hx hb dX6_book_15 rfl (lv_at hl 0 rfl) ?_
  refine va_get (D := D) (ci := 6) (v := .ref aK) (C := RX6) (T := TX6) (N := 11) hx hb hts (fun w h => (List.mem_cons_of_mem _ (hinX6 w h))) hown hK hP 0 rfl rfl 4 (by decide) (hts _ (List.mem_cons_of_mem _ wd_193)) (fun _ h9 => h9) rfl dX6_book_16 ?_
  refine va_get (D := D) (ci := 0) (v := .int (iI kn)) (C := RX0) (T := TX0) (N := 8) hx hb hts (fun w h => (List.mem_cons_of_mem _ (hinX0 w h))) hown hK hP 4 rfl rfl 7 (by decide) (hts _ (List.mem_cons_of_mem _ wd_156)) (fun _ h9 => h9) rfl dX6_book_19 ?_
  refine lv_bipush (v := iI 60) hx hb dX6_book_22 (by decide) ?_
  refine wk_icmp_lt (tgt := 37) hx hb dX6_book_24 (by decide) (by omega) (fun c_1 => ?_) (fun c_1 => ?_)
  · skip
    refine lv_aload_n hx hb dX6_book_37 rfl (lv_at hl 0 rfl) ?_
    refine va_get (D := D) (ci := 6) (v := .ref aK) (C := RX6) (T := TX6) (N := 11) hx hb hts (fun w h => (List.mem_cons_of_mem _ (hinX6 w h))) hown hK hP 0 rfl rfl 4 (by decide) (hts _ (List.mem_cons_of_mem _ wd_193)) (fun _ h9 => h9) rfl dX6_book_38 ?_
    refine lv_iload_n hx hb dX6_book_41 rfl (lv_at hl 3 rfl) ?_
    refine pk_callI (va_runV (As := [.int (iI bx)]) (rest := []) ⟨hx, hb, hml, hown, hts⟩ (tX0_holdsBox l D kI kZ kL kJ aK aKs aKt aKb aKz aKl aKc aKu kb kz kn bx s.heap.size (by first | assumption | omega) (by first | assumption | omega) (by first | assumption | omega) (by first | assumption | omega)) (cwV 1 hts (gd_V tb_cons wd_478 wd_479 wd_480 wd_39 wd_481) rfl rfl rfl (by decide +kernel) ⟨Nat.le_of_ble_eq_true rfl, Nat.le_of_ble_eq_true rfl⟩) (ck_preV hxT hK hP hD [4, 5, 6] rfl (by decide) (q0 := 0) rfl rfl rfl) rfl rfl hl.1 rfl (lv_room (Nat.le_of_ble_eq_true rfl)) dX6_book_42 ⟨Nat.zero_le _, Nat.zero_le _⟩) ?_
    refine wk_bif_eq (tgt := 50) hx hb dX6_book_45 (by decide) (fun c_2 => ?_) (fun c_2 => ?_)
    · skip
      refine lv_aload_n hx hb dX6_book_50 rfl (lv_at hl 0 rfl) ?_
      refine va_get (D := D) (ci := 6) (v := .ref aS) (C := RX6) (T := TX6) (N := 11) hx hb hts (fun w h => (List.mem_cons_of_mem _ (hinX6 w h))) hown hK hP 0 rfl rfl 3 (by decide) (hts _ (List.mem_cons_of_mem _ wd_192)) (fun _ h9 => h9) rfl dX6_book_51 ?_
      refine lv_iload_n hx hb dX6_book_54 rfl (lv_at hl 1 rfl) ?_
      refine pk_callI (va_runV (As := [.int (iI sl)]) (rest := []) ⟨hx, hb, hml, hown, hts⟩ (tX4_hasRoom l D kI kZ kL kJ aS aSt tk sn sm sl s.heap.size (by first | assumption | omega) (by first | assumption | omega) (by first | assumption | omega)) (cwV 1 hts (gd_V tb_cons wd_482 wd_483 wd_484 wd_37 wd_485) rfl rfl rfl (by decide +kernel) ⟨Nat.le_of_ble_eq_true rfl, Nat.le_of_ble_eq_true rfl⟩) (ck_preV hxT hK hP hD [1, 2] rfl (by decide) (q0 := 0) rfl rfl rfl) rfl rfl hl.1 rfl (lv_room (Nat.le_of_ble_eq_true rfl)) dX6_book_55 ⟨Nat.zero_le _, Nat.zero_le _⟩) ?_
      refine wk_bif_ne (tgt := 67) hx hb dX6_book_58 (by decide) (fun c_3 => ?_) (fun c_3 => ?_)
      · skip
        exfalso; omega
      · skip
        refine lv_aload_n hx hb dX6_book_61 rfl (lv_at hl 0 rfl) ?_
        refine lv_iload_n hx hb dX6_book_62 rfl (lv_at hl 1 rfl) ?_
        refine pk_callI (va_runV (As := [.int (iI sl)]) (rest := []) ⟨hx, hb, hml, hown, hts⟩ (tX6_otherSlot l D kI kZ kL kJ g aR aB aT aS aK aL aSt tk nw al lg tt dn sn sm sl s.heap.size (by first | assumption | omega) (by first | assumption | omega) (by first | assumption | omega) (by first | assumption | omega)) (cwV 1 hts (gd_V tb_cons wd_486 wd_488 wd_7 wd_33 wd_489) rfl rfl rfl (by decide +kernel) ⟨Nat.le_of_ble_eq_true rfl, Nat.le_of_ble_eq_true rfl⟩) (ck_preV hxT hK hP hD [0, 1, 2] rfl (by decide) (q0 := 0) rfl rfl rfl) rfl rfl hl.1 rfl (lv_room (Nat.le_of_ble_eq_true rfl)) dX6_book_63 ⟨Nat.zero_le _, Nat.zero_le _⟩) ?_
        exact pk_int hx hb hr hlocks (by first | rfl | omega) dX6_book_66
    · skip
      exfalso; omega
  · skip
    exfalso; omega

set_option maxHeartbeats 4000000 in
set_option maxRecDepth 100000 in
theorem tX6_book_a (l : Launch) (D : va_G) (kI : ClassId) (kZ : ClassId) (kL : ClassId) (kJ : ClassId) (g : Nat) (aR : Nat) (aB : Nat) (aT : Nat) (aS : Nat) (aK : Nat) (aL : Nat) (aSt : Nat) (aBs : Nat) (aBw : Nat) (aBd : Nat) (aBv : Nat) (aKs : Nat) (aKt : Nat) (aKb : Nat) (aKz : Nat) (aKl : Nat) (aKc : Nat) (aKu : Nat) (tk : Int → Int) (kb : Int → Int) (kz : Int → Int) (ks : Int → Int) (kt : Int → Int) (nw : Int) (al : Int) (lg : Int) (tt : Int) (dn : Int) (sn : Int) (sm : Int) (bn : Int) (kn : Int) (sl : Int) (tr : Int) (bx : Int) (sz : Nat) (hsn : 1 ≤ sn ∧ sn ≤ 24) (hsl : 0 ≤ sl ∧ sl < sn) (htr : 0 ≤ tr ∧ tr < 16) (hbn : 0 ≤ bn ∧ bn ≤ 20) (hbx : 0 ≤ bx ∧ bx < bn) (hkn : 0 ≤ kn ∧ kn ≤ 60) (h1 : kn < 60) (hkb : ∀ j, 0 ≤ kb j ∧ kb j ≤ 1000000) (hkz : ∀ j, 0 ≤ kz j ∧ kz j ≤ 1000000) (h2 : sc (pHB kb kz bx) (-1) (kn + 1 - 1).toNat 1 = -1) (hsm : 1 ≤ sm ∧ sm ≤ 8) (htk : ∀ j, 0 ≤ tk j ∧ tk j ≤ 1000000) (h3 : tk sl < sm) : CtI l yX6_book wsX6_book ({ frames := 2, cells := 0, slots := 0, locals := 42 }) D vwCl (tyL kI kZ kL kJ) [(g, .inr (6, [.ref aR, .ref aB, .ref aT, .ref aS, .ref aK, .ref aL, .int (iI nw), .int (iI al), .int (iI lg), .int (iI tt), .int (iI dn)])), (aS, .inr (4, [.ref aSt, .int (iI sn), .int (iI sm)])), (aSt, .inl (kI, 24, .inl (iF tk))), (aB, .inr (1, [.ref aBs, .ref aBw, .ref aBd, .ref aBv, .int (iI bn)])), (aK, .inr (0, [.ref aKs, .ref aKt, .ref aKb, .ref aKz, .ref aKl, .ref aKc, .ref aKu, .int (iI kn)])), (aKb, .inl (kI, 61, .inl (iF kb))), (aKz, .inl (kI, 61, .inl (iF kz))), (aKs, .inl (kI, 61, .inl (iF ks))), (aKt, .inl (kI, 61, .inl (iF kt)))] [.ref g, .int (iI sl), .int (iI tr), .int (iI bx)] (iI (kn + 1)) [(g, .inr (6, [.ref aR, .ref aB, .ref aT, .ref aS, .ref aK, .ref aL, .int (iI nw), .int (iI al), .int (iI lg), .int (iI tt), .int (iI dn)])), (aS, .inr (4, [.ref aSt, .int (iI sn), .int (iI sm)])), (aSt, .inl (kI, 24, .inl (iF (iu tk sl (tk sl + 1))))), (aB, .inr (1, [.ref aBs, .ref aBw, .ref aBd, .ref aBv, .int (iI bn)])), (aK, .inr (0, [.ref aKs, .ref aKt, .ref aKb, .ref aKz, .ref aKl, .ref aKc, .ref aKu, .int (iI (kn + 1))])), (aKb, .inl (kI, 61, .inl (iF (iu kb (kn + 1) bx)))), (aKz, .inl (kI, 61, .inl (iF (iu kz (kn + 1) 0)))), (aKs, .inl (kI, 61, .inl (iF (iu ks (kn + 1) sl)))), (aKt, .inl (kI, 61, .inl (iF (iu kt (kn + 1) tr))))] sz := by
  refine ck_start (Qc := fun A => cQi D vwCl (tyL kI kZ kL kJ) A (iI (kn + 1)) [(g, .inr (6, [.ref aR, .ref aB, .ref aT, .ref aS, .ref aK, .ref aL, .int (iI nw), .int (iI al), .int (iI lg), .int (iI tt), .int (iI dn)])), (aS, .inr (4, [.ref aSt, .int (iI sn), .int (iI sm)])), (aSt, .inl (kI, 24, .inl (iF (iu tk sl (tk sl + 1))))), (aB, .inr (1, [.ref aBs, .ref aBw, .ref aBd, .ref aBv, .int (iI bn)])), (aK, .inr (0, [.ref aKs, .ref aKt, .ref aKb, .ref aKz, .ref aKl, .ref aKc, .ref aKu, .int (iI (kn + 1))])), (aKb, .inl (kI, 61, .inl (iF (iu kb (kn + 1) bx)))), (aKz, .inl (kI, 61, .inl (iF (iu kz (kn + 1) 0)))), (aKs, .inl (kI, 61, .inl (iF (iu ks (kn + 1) sl)))), (aKt, .inl (kI, 61, .inl (iF (iu kt (kn + 1) tr))))]) (cc := cX6_book) (maxL := 4) (ret := (some .int)) (LV := [(0, .ref g), (1, .int (iI sl)), (2, .int (iI tr)), (3, .int (iI bx))]) (by decide) rfl rfl (Nat.le_of_ble_eq_true rfl) ?_
  intro p e s m below meth cd hadm hx hb hr hml hts hown hlocks hname hnoh hxT A hA hK hP hD hS ls hl
  refine lv_aload_n hx hb dX6_book_0 rfl (lv_at hl 0 rfl) ?_
  refine lv_iload_n hx hb dX6_book_1 rfl (lv_at hl 1 rfl) ?_
  refine pk_callV (va_runV (As := [.int (iI sl)]) (rest := []) ⟨hx, hb, hml, hown, hts⟩ (tX6_needSlot l D kI kZ kL kJ g aR aB aT aS aK aL aSt nw al lg tt dn sn sm sl s.heap.size (by first | assumption | omega) (by first | assumption | omega)) (cwV 1 hts (gd_V tb_cons wd_472 wd_474 wd_6 wd_33 wd_475) rfl rfl rfl (by decide +kernel) ⟨Nat.le_of_ble_eq_true rfl, Nat.le_of_ble_eq_true rfl⟩) (ck_preV hxT hK hP hD [0, 1] rfl (by decide) (q0 := 0) rfl rfl rfl) rfl rfl hl.1 rfl (lv_room (Nat.le_of_ble_eq_true rfl)) dX6_book_2 ⟨Nat.zero_le _, Nat.zero_le _⟩) ?_
  refine lv_aload_n hx hb dX6_book_5 rfl (lv_at hl 0 rfl) ?_
  refine lv_iload_n hx hb dX6_book_6 rfl (lv_at hl 2 rfl) ?_
  refine pk_callV (va_runV (As := [.int (iI tr)]) (rest := []) ⟨hx, hb, hml, hown, hts⟩ (tX6_needTruck l D kI kZ kL kJ g aR aB aT aS aK aL nw al lg tt dn tr s.heap.size (by first | assumption | omega)) (cwV 1 hts (gd_V tb_cons wd_435 wd_437 wd_3 wd_33 wd_438) rfl rfl rfl (by decide +kernel) ⟨Nat.le_of_ble_eq_true rfl, Nat.le_of_ble_eq_true rfl⟩) (ck_preV hxT hK hP hD [0] rfl (by decide) (q0 := 0) rfl rfl rfl) rfl rfl hl.1 rfl (lv_room (Nat.le_of_ble_eq_true rfl)) dX6_book_7 ⟨Nat.zero_le _, Nat.zero_le _⟩) ?_
  refine lv_aload_n hx hb dX6_book_10 rfl (lv_at hl 0 rfl) ?_
  refine lv_iload_n hx hb dX6_book_11 rfl (lv_at hl 3 rfl) ?_
  refine pk_callV (va_runV (As := [.int (iI bx)]) (rest := []) ⟨hx, hb, hml, hown, hts⟩ (tX6_needBox l D kI kZ kL kJ g aR aB aT aS aK aL aBs aBw aBd aBv nw al lg tt dn bn bx s.heap.size (by first | assumption | omega) (by first | assumption | omega)) (cwV 1 hts (gd_V tb_cons wd_415 wd_417 wd_2 wd_33 wd_418) rfl rfl rfl (by decide +kernel) ⟨Nat.le_of_ble_eq_true rfl, Nat.le_of_ble_eq_true rfl⟩) (ck_preV hxT hK hP hD [0, 3] rfl (by decide) (q0 := 0) rfl rfl rfl) rfl rfl hl.1 rfl (lv_room (Nat.le_of_ble_eq_true rfl)) dX6_book_12 ⟨Nat.zero_le _, Nat.zero_le _⟩) ?_
  refine lv_aload_n hx hb dX6_book_15 rfl (lv_at hl 0 rfl) ?_
  refine va_get (D := D) (ci := 6) (v := .ref aK) (C := RX6) (T := TX6) (N := 11) hx hb hts (fun w h => (List.mem_cons_of_mem _ (hinX6 w h))) hown hK hP 0 rfl rfl 4 (by decide) (hts _ (List.mem_cons_of_mem _ wd_193)) (fun _ h9 => h9) rfl dX6_book_16 ?_
  refine va_get (D := D) (ci := 0) (v := .int (iI kn)) (C := RX0) (T := TX0) (N := 8) hx hb hts (fun w h => (List.mem_cons_of_mem _ (hinX0 w h))) hown hK hP 4 rfl rfl 7 (by decide) (hts _ (List.mem_cons_of_mem _ wd_156)) (fun _ h9 => h9) rfl dX6_book_19 ?_
  refine lv_bipush (v := iI 60) hx hb dX6_book_22 (by decide) ?_
  refine wk_icmp_lt (tgt := 37) hx hb dX6_book_24 (by decide) (by omega) (fun c_1 => ?_) (fun c_1 => ?_)
  · skip
    refine lv_aload_n hx hb dX6_book_37 rfl (lv_at hl 0 rfl) ?_
    refine va_get (D := D) (ci := 6) (v := .ref aK) (C := RX6) (T := TX6) (N := 11) hx hb hts (fun w h => (List.mem_cons_of_mem _ (hinX6 w h))) hown hK hP 0 rfl rfl 4 (by decide) (hts _ (List.mem_cons_of_mem _ wd_193)) (fun _ h9 => h9) rfl dX6_book_38 ?_
    refine lv_iload_n hx hb dX6_book_41 rfl (lv_at hl 3 rfl) ?_
    refine pk_callI (va_runV (As := [.int (iI bx)]) (rest := []) ⟨hx, hb, hml, hown, hts⟩ (tX0_holdsBox l D kI kZ kL kJ aK aKs aKt aKb aKz aKl aKc aKu kb kz kn bx s.heap.size (by first | assumption | omega) (by first | assumption | omega) (by first | assumption | omega) (by first | assumption | omega)) (cwV 1 hts (gd_V tb_cons wd_478 wd_479 wd_480 wd_39 wd_481) rfl rfl rfl (by decide +kernel) ⟨Nat.le_of_ble_eq_true rfl, Nat.le_of_ble_eq_true rfl⟩) (ck_preV hxT hK hP hD [4, 5, 6] rfl (by decide) (q0 := 0) rfl rfl rfl) rfl rfl hl.1 rfl (lv_room (Nat.le_of_ble_eq_true rfl)) dX6_book_42 ⟨Nat.zero_le _, Nat.zero_le _⟩) ?_
    refine wk_bif_eq (tgt := 50) hx hb dX6_book_45 (by decide) (fun c_2 => ?_) (fun c_2 => ?_)
    · skip
      refine lv_aload_n hx hb dX6_book_50 rfl (lv_at hl 0 rfl) ?_
      refine va_get (D := D) (ci := 6) (v := .ref aS) (C := RX6) (T := TX6) (N := 11) hx hb hts (fun w h => (List.mem_cons_of_mem _ (hinX6 w h))) hown hK hP 0 rfl rfl 3 (by decide) (hts _ (List.mem_cons_of_mem _ wd_192)) (fun _ h9 => h9) rfl dX6_book_51 ?_
      refine lv_iload_n hx hb dX6_book_54 rfl (lv_at hl 1 rfl) ?_
      refine pk_callI (va_runV (As := [.int (iI sl)]) (rest := []) ⟨hx, hb, hml, hown, hts⟩ (tX4_hasRoom l D kI kZ kL kJ aS aSt tk sn sm sl s.heap.size (by first | assumption | omega) (by first | assumption | omega) (by first | assumption | omega)) (cwV 1 hts (gd_V tb_cons wd_482 wd_483 wd_484 wd_37 wd_485) rfl rfl rfl (by decide +kernel) ⟨Nat.le_of_ble_eq_true rfl, Nat.le_of_ble_eq_true rfl⟩) (ck_preV hxT hK hP hD [1, 2] rfl (by decide) (q0 := 0) rfl rfl rfl) rfl rfl hl.1 rfl (lv_room (Nat.le_of_ble_eq_true rfl)) dX6_book_55 ⟨Nat.zero_le _, Nat.zero_le _⟩) ?_
      refine wk_bif_ne (tgt := 67) hx hb dX6_book_58 (by decide) (fun c_3 => ?_) (fun c_3 => ?_)
      · skip
        refine lv_aload_n hx hb dX6_book_67 rfl (lv_at hl 0 rfl) ?_
        refine va_get (D := D) (ci := 6) (v := .ref aS) (C := RX6) (T := TX6) (N := 11) hx hb hts (fun w h => (List.mem_cons_of_mem _ (hinX6 w h))) hown hK hP 0 rfl rfl 3 (by decide) (hts _ (List.mem_cons_of_mem _ wd_192)) (fun _ h9 => h9) rfl dX6_book_68 ?_
        refine va_get (D := D) (ci := 4) (v := .ref aSt) (C := RX4) (T := TX4) (N := 3) hx hb hts (fun w h => (List.mem_cons_of_mem _ (hinX4 w h))) hown hK hP 1 rfl rfl 0 (by decide) (hts _ (List.mem_cons_of_mem _ wd_125)) (fun _ h9 => h9) rfl dX6_book_71 ?_
        refine lv_iload_n hx hb dX6_book_74 rfl (lv_at hl 1 rfl) ?_
        refine lv_dup2_11 hx hb dX6_book_75 rfl rfl ?_
        refine wk_iald hx hb hK hP 2 0 rfl rfl (by decide) (by omega) dX6_book_76 ?_
        refine lv_iconst (v := iI 1) hx hb dX6_book_77 rfl ?_
        refine wk_iadd hx hb dX6_book_78 ?_
        refine wk_iast hx hb hK hP hD hS 2 0 rfl rfl (by decide) (by omega) dX6_book_79 (ws' := [(g, .inr (6, [.ref aR, .ref aB, .ref aT, .ref aS, .ref aK, .ref aL, .int (iI nw), .int (iI al), .int (iI lg), .int (iI tt), .int (iI dn)])), (aS, .inr (4, [.ref aSt, .int (iI sn), .int (iI sm)])), (aSt, .inl (kI, 24, .inl (iF (iu tk sl ((tk sl) + 1))))), (aB, .inr (1, [.ref aBs, .ref aBw, .ref aBd, .ref aBv, .int (iI bn)])), (aK, .inr (0, [.ref aKs, .ref aKt, .ref aKb, .ref aKz, .ref aKl, .ref aKc, .ref aKu, .int (iI kn)])), (aKb, .inl (kI, 61, .inl (iF kb))), (aKz, .inl (kI, 61, .inl (iF kz))), (aKs, .inl (kI, 61, .inl (iF ks))), (aKt, .inl (kI, 61, .inl (iF kt)))]) rfl (fun H locs hP hD hS => ?_)
        refine lv_aload_n hx hb dX6_book_80 rfl (lv_at hl 0 rfl) ?_
        refine va_get (D := D) (ci := 6) (v := .ref aK) (C := RX6) (T := TX6) (N := 11) hx hb hts (fun w h => (List.mem_cons_of_mem _ (hinX6 w h))) hown hK hP 0 rfl rfl 4 (by decide) (hts _ (List.mem_cons_of_mem _ wd_193)) (fun _ h9 => h9) rfl dX6_book_81 ?_
        refine lv_iload_n hx hb dX6_book_84 rfl (lv_at hl 1 rfl) ?_
        refine lv_iload_n hx hb dX6_book_85 rfl (lv_at hl 2 rfl) ?_
        refine lv_iload_n hx hb dX6_book_86 rfl (lv_at hl 3 rfl) ?_
        refine ck_backI (va_runV (As := [.int (iI sl), .int (iI tr), .int (iI bx)]) (rest := []) ⟨hx, hb, hml, hown, hts⟩ (tX0_add l D kI kZ kL kJ aK aKs aKt aKb aKz aKl aKc aKu ks kt kb kz kn sl tr bx H.size (by first | assumption | omega)) (cwV 3 hts (gd_V tb_cons wd_495 wd_496 wd_497 wd_39 wd_498) rfl rfl rfl (by decide +kernel) ⟨Nat.le_of_ble_eq_true rfl, Nat.le_of_ble_eq_true rfl⟩) (ck_preV hxT hK hP hD [4, 7, 8, 5, 6] rfl (by decide) (q0 := 0) rfl rfl rfl) rfl rfl hl.1 rfl (lv_room (Nat.le_of_ble_eq_true rfl)) dX6_book_87 ⟨Nat.zero_le _, Nat.zero_le _⟩) hP hD hS hA [4, 7, 8, 5, 6] [0, 1, 2, 3] (WR := [(g, .inr (6, [.ref aR, .ref aB, .ref aT, .ref aS, .ref aK, .ref aL, .int (iI nw), .int (iI al), .int (iI lg), .int (iI tt), .int (iI dn)])), (aS, .inr (4, [.ref aSt, .int (iI sn), .int (iI sm)])), (aSt, .inl (kI, 24, .inl (iF (iu tk sl ((tk sl) + 1))))), (aB, .inr (1, [.ref aBs, .ref aBw, .ref aBd, .ref aBv, .int (iI bn)]))]) rfl rfl (by decide) (by decide) (ws' := [(g, .inr (6, [.ref aR, .ref aB, .ref aT, .ref aS, .ref aK, .ref aL, .int (iI nw), .int (iI al), .int (iI lg), .int (iI tt), .int (iI dn)])), (aS, .inr (4, [.ref aSt, .int (iI sn), .int (iI sm)])), (aSt, .inl (kI, 24, .inl (iF (iu tk sl ((tk sl) + 1))))), (aB, .inr (1, [.ref aBs, .ref aBw, .ref aBd, .ref aBv, .int (iI bn)])), (aK, .inr (0, [.ref aKs, .ref aKt, .ref aKb, .ref aKz, .ref aKl, .ref aKc, .ref aKu, .int (iI (kn + 1))])), (aKs, .inl (kI, 61, .inl (iF (iu ks (kn + 1) sl)))), (aKt, .inl (kI, 61, .inl (iF (iu kt (kn + 1) tr)))), (aKb, .inl (kI, 61, .inl (iF (iu kb (kn + 1) bx)))), (aKz, .inl (kI, 61, .inl (iF (iu kz (kn + 1) 0))))]) rfl (fun H locs hP hD hS => ?_)
        have hP := hP.sub (ws' := [(g, .inr (6, [.ref aR, .ref aB, .ref aT, .ref aS, .ref aK, .ref aL, .int (iI nw), .int (iI al), .int (iI lg), .int (iI tt), .int (iI dn)])), (aS, .inr (4, [.ref aSt, .int (iI sn), .int (iI sm)])), (aSt, .inl (kI, 24, .inl (iF (iu tk sl ((tk sl) + 1))))), (aB, .inr (1, [.ref aBs, .ref aBw, .ref aBd, .ref aBv, .int (iI bn)])), (aK, .inr (0, [.ref aKs, .ref aKt, .ref aKb, .ref aKz, .ref aKl, .ref aKc, .ref aKu, .int (iI (kn + 1))])), (aKb, .inl (kI, 61, .inl (iF (iu kb (kn + 1) bx)))), (aKz, .inl (kI, 61, .inl (iF (iu kz (kn + 1) 0)))), (aKs, .inl (kI, 61, .inl (iF (iu ks (kn + 1) sl)))), (aKt, .inl (kI, 61, .inl (iF (iu kt (kn + 1) tr))))]) [0, 1, 2, 3, 4, 7, 8, 5, 6] rfl
        have hD := hD.sub (ws' := [(g, .inr (6, [.ref aR, .ref aB, .ref aT, .ref aS, .ref aK, .ref aL, .int (iI nw), .int (iI al), .int (iI lg), .int (iI tt), .int (iI dn)])), (aS, .inr (4, [.ref aSt, .int (iI sn), .int (iI sm)])), (aSt, .inl (kI, 24, .inl (iF (iu tk sl ((tk sl) + 1))))), (aB, .inr (1, [.ref aBs, .ref aBw, .ref aBd, .ref aBv, .int (iI bn)])), (aK, .inr (0, [.ref aKs, .ref aKt, .ref aKb, .ref aKz, .ref aKl, .ref aKc, .ref aKu, .int (iI (kn + 1))])), (aKb, .inl (kI, 61, .inl (iF (iu kb (kn + 1) bx)))), (aKz, .inl (kI, 61, .inl (iF (iu kz (kn + 1) 0)))), (aKs, .inl (kI, 61, .inl (iF (iu ks (kn + 1) sl)))), (aKt, .inl (kI, 61, .inl (iF (iu kt (kn + 1) tr))))]) [0, 1, 2, 3, 4, 7, 8, 5, 6] (by decide) rfl
        exact rk_int hx hb hr hlocks hK hP hD hS (by first | rfl | omega) rfl dX6_book_90
      · skip
        exfalso; omega
    · skip
      exfalso; omega
  · skip
    exfalso; omega

set_option maxHeartbeats 4000000 in
set_option maxRecDepth 100000 in
theorem tX6_through_t1 (l : Launch) (D : va_G) (kI : ClassId) (kZ : ClassId) (kL : ClassId) (kJ : ClassId) (g : Nat) (aR : Nat) (aB : Nat) (aT : Nat) (aS : Nat) (aK : Nat) (aL : Nat) (aKs : Nat) (aKt : Nat) (aKb : Nat) (aKz : Nat) (aKl : Nat) (aKc : Nat) (aKu : Nat) (nw : Int) (al : Int) (lg : Int) (tt : Int) (dn : Int) (kn : Int) (bk : Int) (tm : Int) (sz : Nat) (hfl : l.flags = pinnedFlags ++ [noTraceFlag]) (hkn : 0 ≤ kn ∧ kn ≤ 60) (hbk : -2147483648 ≤ bk ∧ bk ≤ 2147483647) (h1 : ¬ (1 ≤ bk ∧ bk ≤ kn)) : CtT l yX6_through wsX6_through ({ frames := 7, cells := 1, slots := 6, locals := 103 }) D vwCl (tyL kI kZ kL kJ) [(g, .inr (6, [.ref aR, .ref aB, .ref aT, .ref aS, .ref aK, .ref aL, .int (iI nw), .int (iI al), .int (iI lg), .int (iI tt), .int (iI dn)])), (aK, .inr (0, [.ref aKs, .ref aKt, .ref aKb, .ref aKz, .ref aKl, .ref aKc, .ref aKu, .int (iI kn)]))] [.ref g, .int (iI bk), .int (iI tm)] "java/lang/IndexOutOfBoundsException" sz := by
  refine ct_start (cc := cX6_through) (maxL := 4) (ret := (some .int)) (LV := [(0, .ref g), (1, .int (iI bk)), (2, .int (iI tm))]) (by decide) rfl rfl (Nat.le_of_ble_eq_true rfl) ?_
  intro p e s m below meth cd hadm hx hb hr hml hts hown hlocks hname hnoh hxT hzT A hA hK hP hD hS ls hl
  refine lv_aload_n hx hb dX6_through_0 rfl (lv_at hl 0 rfl) ?_
  refine lv_iload_n hx hb dX6_through_1 rfl (lv_at hl 1 rfl) ?_
  exact wt_leave (rest := []) (wt_runV (As := [.int (iI bk)]) (rest := []) ⟨hx, hb, hml, hown, hts⟩ (tX6_needBooking_t l D kI kZ kL kJ g aR aB aT aS aK aL aKs aKt aKb aKz aKl aKc aKu nw al lg tt dn kn bk s.heap.size hfl (by first | assumption | omega) (by first | assumption | omega) (by first | assumption | omega)) (cwV 1 hts (gd_V tb_cons wd_506 wd_508 wd_8 wd_33 wd_509) rfl rfl rfl (by decide +kernel) ⟨Nat.le_of_ble_eq_true rfl, Nat.le_of_ble_eq_true rfl⟩) (ck_preT hzT hxT hK hP hD [0, 1] rfl (by decide) (q0 := 0) rfl rfl rfl) rfl rfl hl.1 rfl (lv_room (Nat.le_of_ble_eq_true rfl)) dX6_through_2 ⟨Nat.le_of_ble_eq_true rfl, Nat.le_of_ble_eq_true rfl⟩) hnoh hlocks

set_option maxHeartbeats 4000000 in
set_option maxRecDepth 100000 in
theorem tX6_through_t2 (l : Launch) (D : va_G) (kI : ClassId) (kZ : ClassId) (kL : ClassId) (kJ : ClassId) (g : Nat) (aR : Nat) (aB : Nat) (aT : Nat) (aS : Nat) (aK : Nat) (aL : Nat) (aKs : Nat) (aKt : Nat) (aKb : Nat) (aKz : Nat) (aKl : Nat) (aKc : Nat) (aKu : Nat) (nw : Int) (al : Int) (lg : Int) (tt : Int) (dn : Int) (kn : Int) (bk : Int) (tm : Int) (sz : Nat) (hfl : l.flags = pinnedFlags ++ [noTraceFlag]) (hkn : 0 ≤ kn ∧ kn ≤ 60) (hbk : 1 ≤ bk ∧ bk ≤ kn) (hnw : 0 ≤ nw ∧ nw ≤ 100000) (htm : -2147483648 ≤ tm ∧ tm ≤ 2147483647) (h1 : ¬ (nw ≤ tm ∧ tm ≤ 100000)) : CtT l yX6_through wsX6_through ({ frames := 7, cells := 1, slots := 6, locals := 103 }) D vwCl (tyL kI kZ kL kJ) [(g, .inr (6, [.ref aR, .ref aB, .ref aT, .ref aS, .ref aK, .ref aL, .int (iI nw), .int (iI al), .int (iI lg), .int (iI tt), .int (iI dn)])), (aK, .inr (0, [.ref aKs, .ref aKt, .ref aKb, .ref aKz, .ref aKl, .ref aKc, .ref aKu, .int (iI kn)]))] [.ref g, .int (iI bk), .int (iI tm)] "java/lang/IllegalArgumentException" sz := by
  refine ct_start (cc := cX6_through) (maxL := 4) (ret := (some .int)) (LV := [(0, .ref g), (1, .int (iI bk)), (2, .int (iI tm))]) (by decide) rfl rfl (Nat.le_of_ble_eq_true rfl) ?_
  intro p e s m below meth cd hadm hx hb hr hml hts hown hlocks hname hnoh hxT hzT A hA hK hP hD hS ls hl
  refine lv_aload_n hx hb dX6_through_0 rfl (lv_at hl 0 rfl) ?_
  refine lv_iload_n hx hb dX6_through_1 rfl (lv_at hl 1 rfl) ?_
  refine pk_callV (va_runV (As := [.int (iI bk)]) (rest := []) ⟨hx, hb, hml, hown, hts⟩ (tX6_needBooking l D kI kZ kL kJ g aR aB aT aS aK aL aKs aKt aKb aKz aKl aKc aKu nw al lg tt dn kn bk s.heap.size (by first | assumption | omega) (by first | assumption | omega)) (cwV 1 hts (gd_V tb_cons wd_506 wd_508 wd_8 wd_33 wd_509) rfl rfl rfl (by decide +kernel) ⟨Nat.le_of_ble_eq_true rfl, Nat.le_of_ble_eq_true rfl⟩) (ck_preV hxT hK hP hD [0, 1] rfl (by decide) (q0 := 0) rfl rfl rfl) rfl rfl hl.1 rfl (lv_room (Nat.le_of_ble_eq_true rfl)) dX6_through_2 ⟨Nat.zero_le _, Nat.zero_le _⟩) ?_
  refine lv_aload_n hx hb dX6_through_5 rfl (lv_at hl 0 rfl) ?_
  refine lv_iload_n hx hb dX6_through_6 rfl (lv_at hl 2 rfl) ?_
  exact wt_leave (rest := []) (wt_runV (As := [.int (iI tm)]) (rest := []) ⟨hx, hb, hml, hown, hts⟩ (tX6_needTime_t l D kI kZ kL kJ g aR aB aT aS aK aL nw al lg tt dn tm s.heap.size hfl (by first | assumption | omega) (by first | assumption | omega) (by first | assumption | omega)) (cwV 1 hts (gd_V tb_cons wd_511 wd_513 wd_9 wd_33 wd_514) rfl rfl rfl (by decide +kernel) ⟨Nat.le_of_ble_eq_true rfl, Nat.le_of_ble_eq_true rfl⟩) (ck_preT hzT hxT hK hP hD [0] rfl (by decide) (q0 := 0) rfl rfl rfl) rfl rfl hl.1 rfl (lv_room (Nat.le_of_ble_eq_true rfl)) dX6_through_7 ⟨Nat.le_of_ble_eq_true rfl, Nat.le_of_ble_eq_true rfl⟩) hnoh hlocks

set_option maxHeartbeats 4000000 in
set_option maxRecDepth 100000 in
theorem tX6_through_b (l : Launch) (D : va_G) (kI : ClassId) (kZ : ClassId) (kL : ClassId) (kJ : ClassId) (g : Nat) (aR : Nat) (aB : Nat) (aT : Nat) (aS : Nat) (aK : Nat) (aL : Nat) (aBs : Nat) (aBw : Nat) (aBd : Nat) (aBv : Nat) (aTv : Nat) (aKs : Nat) (aKt : Nat) (aKb : Nat) (aKz : Nat) (aKl : Nat) (aKc : Nat) (aKu : Nat) (bd : Int → Int) (bv : Int → Int) (tv : Int → Int) (ks : Int → Int) (kt : Int → Int) (kb : Int → Int) (kz : Int → Int) (nw : Int) (al : Int) (lg : Int) (tt : Int) (dn : Int) (bn : Int) (kn : Int) (bk : Int) (tm : Int) (sz : Nat) (hkn : 0 ≤ kn ∧ kn ≤ 60) (hbk : 1 ≤ bk ∧ bk ≤ kn) (hnw : 0 ≤ nw ∧ nw ≤ 100000) (htm : nw ≤ tm ∧ tm ≤ 100000) (hbv : ∀ j, 0 ≤ bv j ∧ bv j ≤ 1000000) (hbd : ∀ j, bd j = 0 ∨ bd j = 1) (htv : ∀ j, 0 ≤ tv j ∧ tv j ≤ 1000000) (hkz : ∀ j, 0 ≤ kz j ∧ kz j ≤ 1000000) (hkt : ∀ j, 0 ≤ kt j ∧ kt j ≤ 1000000) (hks : ∀ j, 0 ≤ ks j ∧ ks j < 24) (hkt2 : ∀ j, 0 ≤ kt j ∧ kt j < 16) (hkb : ∀ j, 0 ≤ kb j ∧ kb j < 20) (h2 : ¬ fbR tm bv bd tv kn ks kt kb kz bk = 0) : CtI l yX6_through wsX6_through ({ frames := 3, cells := 0, slots := 0, locals := 67 }) D vwCl (tyL kI kZ kL kJ) [(g, .inr (6, [.ref aR, .ref aB, .ref aT, .ref aS, .ref aK, .ref aL, .int (iI nw), .int (iI al), .int (iI lg), .int (iI tt), .int (iI dn)])), (aB, .inr (1, [.ref aBs, .ref aBw, .ref aBd, .ref aBv, .int (iI bn)])), (aBd, .inl (kZ, 20, .inl (iF bd))), (aBv, .inl (kI, 80, .inl (iF bv))), (aT, .inr (5, [.ref aTv])), (aTv, .inl (kI, 32, .inl (iF tv))), (aK, .inr (0, [.ref aKs, .ref aKt, .ref aKb, .ref aKz, .ref aKl, .ref aKc, .ref aKu, .int (iI kn)])), (aKs, .inl (kI, 61, .inl (iF ks))), (aKt, .inl (kI, 61, .inl (iF kt))), (aKb, .inl (kI, 61, .inl (iF kb))), (aKz, .inl (kI, 61, .inl (iF kz)))] [.ref g, .int (iI bk), .int (iI tm)] (iI (-(fbR tm bv bd tv kn ks kt kb kz bk))) [(g, .inr (6, [.ref aR, .ref aB, .ref aT, .ref aS, .ref aK, .ref aL, .int (iI tm), .int (iI al), .int (iI lg), .int (iI tt), .int (iI dn)])), (aB, .inr (1, [.ref aBs, .ref aBw, .ref aBd, .ref aBv, .int (iI bn)])), (aBd, .inl (kZ, 20, .inl (iF bd))), (aBv, .inl (kI, 80, .inl (iF bv))), (aT, .inr (5, [.ref aTv])), (aTv, .inl (kI, 32, .inl (iF tv))), (aK, .inr (0, [.ref aKs, .ref aKt, .ref aKb, .ref aKz, .ref aKl, .ref aKc, .ref aKu, .int (iI kn)])), (aKs, .inl (kI, 61, .inl (iF ks))), (aKt, .inl (kI, 61, .inl (iF kt))), (aKb, .inl (kI, 61, .inl (iF kb))), (aKz, .inl (kI, 61, .inl (iF kz)))] sz := by
  refine ck_start (Qc := fun A => cQi D vwCl (tyL kI kZ kL kJ) A (iI (-(fbR tm bv bd tv kn ks kt kb kz bk))) [(g, .inr (6, [.ref aR, .ref aB, .ref aT, .ref aS, .ref aK, .ref aL, .int (iI tm), .int (iI al), .int (iI lg), .int (iI tt), .int (iI dn)])), (aB, .inr (1, [.ref aBs, .ref aBw, .ref aBd, .ref aBv, .int (iI bn)])), (aBd, .inl (kZ, 20, .inl (iF bd))), (aBv, .inl (kI, 80, .inl (iF bv))), (aT, .inr (5, [.ref aTv])), (aTv, .inl (kI, 32, .inl (iF tv))), (aK, .inr (0, [.ref aKs, .ref aKt, .ref aKb, .ref aKz, .ref aKl, .ref aKc, .ref aKu, .int (iI kn)])), (aKs, .inl (kI, 61, .inl (iF ks))), (aKt, .inl (kI, 61, .inl (iF kt))), (aKb, .inl (kI, 61, .inl (iF kb))), (aKz, .inl (kI, 61, .inl (iF kz)))]) (cc := cX6_through) (maxL := 4) (ret := (some .int)) (LV := [(0, .ref g), (1, .int (iI bk)), (2, .int (iI tm))]) (by decide) rfl rfl (Nat.le_of_ble_eq_true rfl) ?_
  intro p e s m below meth cd hadm hx hb hr hml hts hown hlocks hname hnoh hxT A hA hK hP hD hS ls hl
  refine lv_aload_n hx hb dX6_through_0 rfl (lv_at hl 0 rfl) ?_
  refine lv_iload_n hx hb dX6_through_1 rfl (lv_at hl 1 rfl) ?_
  refine pk_callV (va_runV (As := [.int (iI bk)]) (rest := []) ⟨hx, hb, hml, hown, hts⟩ (tX6_needBooking l D kI kZ kL kJ g aR aB aT aS aK aL aKs aKt aKb aKz aKl aKc aKu nw al lg tt dn kn bk s.heap.size (by first | assumption | omega) (by first | assumption | omega)) (cwV 1 hts (gd_V tb_cons wd_506 wd_508 wd_8 wd_33 wd_509) rfl rfl rfl (by decide +kernel) ⟨Nat.le_of_ble_eq_true rfl, Nat.le_of_ble_eq_true rfl⟩) (ck_preV hxT hK hP hD [0, 6] rfl (by decide) (q0 := 0) rfl rfl rfl) rfl rfl hl.1 rfl (lv_room (Nat.le_of_ble_eq_true rfl)) dX6_through_2 ⟨Nat.zero_le _, Nat.zero_le _⟩) ?_
  refine lv_aload_n hx hb dX6_through_5 rfl (lv_at hl 0 rfl) ?_
  refine lv_iload_n hx hb dX6_through_6 rfl (lv_at hl 2 rfl) ?_
  refine pk_callV (va_runV (As := [.int (iI tm)]) (rest := []) ⟨hx, hb, hml, hown, hts⟩ (tX6_needTime l D kI kZ kL kJ g aR aB aT aS aK aL nw al lg tt dn tm s.heap.size (by first | assumption | omega) (by first | assumption | omega)) (cwV 1 hts (gd_V tb_cons wd_511 wd_513 wd_9 wd_33 wd_514) rfl rfl rfl (by decide +kernel) ⟨Nat.le_of_ble_eq_true rfl, Nat.le_of_ble_eq_true rfl⟩) (ck_preV hxT hK hP hD [0] rfl (by decide) (q0 := 0) rfl rfl rfl) rfl rfl hl.1 rfl (lv_room (Nat.le_of_ble_eq_true rfl)) dX6_through_7 ⟨Nat.zero_le _, Nat.zero_le _⟩) ?_
  refine lv_aload_n hx hb dX6_through_10 rfl (lv_at hl 0 rfl) ?_
  refine lv_iload_n hx hb dX6_through_11 rfl (lv_at hl 2 rfl) ?_
  refine wk_put (ci := 6) (C := RX6) (T := TX6) (N := 11) hx hb hts (fun w h => (List.mem_cons_of_mem _ (hinX6 w h))) tyX6 tyX6_ok nmX6 hown hK hP hD hS 0 rfl rfl 6 (by decide) (hts _ (List.mem_cons_of_mem _ wd_195)) (fun _ h9 => h9) rfl rfl (Nat.le_of_ble_eq_true rfl) dX6_through_12 (ws' := [(g, .inr (6, [.ref aR, .ref aB, .ref aT, .ref aS, .ref aK, .ref aL, .int (iI tm), .int (iI al), .int (iI lg), .int (iI tt), .int (iI dn)])), (aB, .inr (1, [.ref aBs, .ref aBw, .ref aBd, .ref aBv, .int (iI bn)])), (aBd, .inl (kZ, 20, .inl (iF bd))), (aBv, .inl (kI, 80, .inl (iF bv))), (aT, .inr (5, [.ref aTv])), (aTv, .inl (kI, 32, .inl (iF tv))), (aK, .inr (0, [.ref aKs, .ref aKt, .ref aKb, .ref aKz, .ref aKl, .ref aKc, .ref aKu, .int (iI kn)])), (aKs, .inl (kI, 61, .inl (iF ks))), (aKt, .inl (kI, 61, .inl (iF kt))), (aKb, .inl (kI, 61, .inl (iF kb))), (aKz, .inl (kI, 61, .inl (iF kz)))]) rfl (fun H locs hP hD hS => ?_)
  refine lv_aload_n hx hb dX6_through_15 rfl (lv_at hl 0 rfl) ?_
  refine lv_iload_n hx hb dX6_through_16 rfl (lv_at hl 1 rfl) ?_
  refine pk_callI (va_runV (As := [.int (iI bk)]) (rest := []) ⟨hx, hb, hml, hown, hts⟩ (tX6_firstBar l D kI kZ kL kJ g aR aB aT aS aK aL aBs aBw aBd aBv aTv aKs aKt aKb aKz aKl aKc aKu bd bv tv ks kt kb kz tm al lg tt dn bn kn bk H.size (by first | assumption | omega) (by first | assumption | omega) (by first | assumption | omega) (by first | assumption | omega) (by first | assumption | omega) (by first | assumption | omega) (by first | assumption | omega) (by first | assumption | omega) (by first | assumption | omega) (by first | assumption | omega) (by first | assumption | omega)) (cwV 1 hts (gd_V tb_cons wd_516 wd_518 wd_10 wd_33 wd_519) rfl rfl rfl (by decide +kernel) ⟨Nat.le_of_ble_eq_true rfl, Nat.le_of_ble_eq_true rfl⟩) (ck_preV hxT hK hP hD [0, 1, 2, 3, 4, 5, 6, 7, 8, 9, 10] rfl (by decide) (q0 := 0) rfl rfl rfl) rfl rfl hl.1 rfl (lv_room (Nat.le_of_ble_eq_true rfl)) dX6_through_17 ⟨Nat.zero_le _, Nat.zero_le _⟩) ?_
  have b9 := fbR_rng tm bv bd tv kn ks kt kb kz bk
  refine lv_istore_n (lv' := [(3, .int (iI (fbR tm bv bd tv kn ks kt kb kz bk))), (0, .ref g), (1, .int (iI bk)), (2, .int (iI tm))]) hx hb dX6_through_20 rfl hl (by decide) rfl (fun ls hl => ?_)
  refine lv_iload_n hx hb dX6_through_21 rfl (lv_at hl 0 rfl) ?_
  refine wk_if_eq (tgt := 28) hx hb dX6_through_22 (by decide) (by omega) (fun c_1 => ?_) (fun c_1 => ?_)
  · skip
    exfalso; omega
  · skip
    refine lv_iload_n hx hb dX6_through_25 rfl (lv_at hl 0 rfl) ?_
    refine wk_ineg hx hb dX6_through_26 ?_
    exact rk_int hx hb hr hlocks hK hP hD hS (by first | rfl | omega) rfl dX6_through_27

set_option maxHeartbeats 4000000 in
set_option maxRecDepth 100000 in
theorem tX6_through_0 (l : Launch) (D : va_G) (kI : ClassId) (kZ : ClassId) (kL : ClassId) (kJ : ClassId) (g : Nat) (aR : Nat) (aB : Nat) (aT : Nat) (aS : Nat) (aK : Nat) (aL : Nat) (aBs : Nat) (aBw : Nat) (aBd : Nat) (aBv : Nat) (aTv : Nat) (aKs : Nat) (aKt : Nat) (aKb : Nat) (aKz : Nat) (aKl : Nat) (aKc : Nat) (aKu : Nat) (a0 : Nat) (a1 : Nat) (a2 : Nat) (a0w : Nat) (a1w : Nat) (bd : Int → Int) (bv : Int → Int) (tv : Int → Int) (ks : Int → Int) (kt : Int → Int) (kb : Int → Int) (kz : Int → Int) (kc : Int → Int) (kl : Int → Int) (w0 : Int → Int) (nw : Int) (al : Int) (lg : Int) (tt : Int) (dn : Int) (bn : Int) (kn : Int) (n0 : Int) (n1 : Int) (bk : Int) (tm : Int) (sz : Nat) (hkn : 0 ≤ kn ∧ kn ≤ 60) (hbk : 1 ≤ bk ∧ bk ≤ kn) (hnw : 0 ≤ nw ∧ nw ≤ 100000) (htm : nw ≤ tm ∧ tm ≤ 100000) (hbv : ∀ j, 0 ≤ bv j ∧ bv j ≤ 1000000) (hbd : ∀ j, bd j = 0 ∨ bd j = 1) (htv : ∀ j, 0 ≤ tv j ∧ tv j ≤ 1000000) (hkz : ∀ j, 0 ≤ kz j ∧ kz j ≤ 1000000) (hkt : ∀ j, 0 ≤ kt j ∧ kt j ≤ 1000000) (hks : ∀ j, 0 ≤ ks j ∧ ks j < 24) (hkt2 : ∀ j, 0 ≤ kt j ∧ kt j < 16) (hkb : ∀ j, 0 ≤ kb j ∧ kb j < 20) (h2 : fbR tm bv bd tv kn ks kt kb kz bk = 0) (hn0 : 0 ≤ n0 ∧ n0 ≤ 16) (hn1 : 0 ≤ n1 ∧ n1 ≤ 16) (hnk : n0 < 16) (h3 : (if bv (kb bk * 4 + 1) = 2 ∨ bv (kb bk * 4 + 2) = 2 then 2 else if n1 < n0 then 1 else 0) = (0 : Int)) : CtI l yX6_through wsX6_through ({ frames := 3, cells := 0, slots := 0, locals := 67 }) D vwCl (tyL kI kZ kL kJ) [(g, .inr (6, [.ref aR, .ref aB, .ref aT, .ref aS, .ref aK, .ref aL, .int (iI nw), .int (iI al), .int (iI lg), .int (iI tt), .int (iI dn)])), (aB, .inr (1, [.ref aBs, .ref aBw, .ref aBd, .ref aBv, .int (iI bn)])), (aBd, .inl (kZ, 20, .inl (iF bd))), (aBv, .inl (kI, 80, .inl (iF bv))), (aT, .inr (5, [.ref aTv])), (aTv, .inl (kI, 32, .inl (iF tv))), (aK, .inr (0, [.ref aKs, .ref aKt, .ref aKb, .ref aKz, .ref aKl, .ref aKc, .ref aKu, .int (iI kn)])), (aKs, .inl (kI, 61, .inl (iF ks))), (aKt, .inl (kI, 61, .inl (iF kt))), (aKb, .inl (kI, 61, .inl (iF kb))), (aKz, .inl (kI, 61, .inl (iF kz))), (aKc, .inl (kI, 61, .inl (iF kc))), (aKl, .inl (kI, 61, .inl (iF kl))), (aL, .inl (kL, 3, .inr (.inr (.inr (.inr (g3 a0 a1 a2)))))), (a0, .inr (2, [.ref a0w, .int (iI n0)])), (a1, .inr (2, [.ref a1w, .int (iI n1)])), (a0w, .inl (kI, 16, .inl (iF w0)))] [.ref g, .int (iI bk), .int (iI tm)] (iI 1) [(g, .inr (6, [.ref aR, .ref aB, .ref aT, .ref aS, .ref aK, .ref aL, .int (iI tm), .int (iI al), .int (iI lg), .int (iI tt), .int (iI dn)])), (aB, .inr (1, [.ref aBs, .ref aBw, .ref aBd, .ref aBv, .int (iI bn)])), (aBd, .inl (kZ, 20, .inl (iF bd))), (aBv, .inl (kI, 80, .inl (iF bv))), (aT, .inr (5, [.ref aTv])), (aTv, .inl (kI, 32, .inl (iF tv))), (aK, .inr (0, [.ref aKs, .ref aKt, .ref aKb, .ref aKz, .ref aKl, .ref aKc, .ref aKu, .int (iI kn)])), (aKs, .inl (kI, 61, .inl (iF ks))), (aKt, .inl (kI, 61, .inl (iF kt))), (aKb, .inl (kI, 61, .inl (iF kb))), (aKz, .inl (kI, 61, .inl (iF (iu kz bk 1)))), (aKc, .inl (kI, 61, .inl (iF (iu kc bk tm)))), (aKl, .inl (kI, 61, .inl (iF (iu kl bk 0)))), (aL, .inl (kL, 3, .inr (.inr (.inr (.inr (g3 a0 a1 a2)))))), (a0, .inr (2, [.ref a0w, .int (iI (n0 + 1))])), (a1, .inr (2, [.ref a1w, .int (iI n1)])), (a0w, .inl (kI, 16, .inl (iF (iu w0 n0 bk))))] sz := by
  refine ck_start (Qc := fun A => cQi D vwCl (tyL kI kZ kL kJ) A (iI 1) [(g, .inr (6, [.ref aR, .ref aB, .ref aT, .ref aS, .ref aK, .ref aL, .int (iI tm), .int (iI al), .int (iI lg), .int (iI tt), .int (iI dn)])), (aB, .inr (1, [.ref aBs, .ref aBw, .ref aBd, .ref aBv, .int (iI bn)])), (aBd, .inl (kZ, 20, .inl (iF bd))), (aBv, .inl (kI, 80, .inl (iF bv))), (aT, .inr (5, [.ref aTv])), (aTv, .inl (kI, 32, .inl (iF tv))), (aK, .inr (0, [.ref aKs, .ref aKt, .ref aKb, .ref aKz, .ref aKl, .ref aKc, .ref aKu, .int (iI kn)])), (aKs, .inl (kI, 61, .inl (iF ks))), (aKt, .inl (kI, 61, .inl (iF kt))), (aKb, .inl (kI, 61, .inl (iF kb))), (aKz, .inl (kI, 61, .inl (iF (iu kz bk 1)))), (aKc, .inl (kI, 61, .inl (iF (iu kc bk tm)))), (aKl, .inl (kI, 61, .inl (iF (iu kl bk 0)))), (aL, .inl (kL, 3, .inr (.inr (.inr (.inr (g3 a0 a1 a2)))))), (a0, .inr (2, [.ref a0w, .int (iI (n0 + 1))])), (a1, .inr (2, [.ref a1w, .int (iI n1)])), (a0w, .inl (kI, 16, .inl (iF (iu w0 n0 bk))))]) (cc := cX6_through) (maxL := 4) (ret := (some .int)) (LV := [(0, .ref g), (1, .int (iI bk)), (2, .int (iI tm))]) (by decide) rfl rfl (Nat.le_of_ble_eq_true rfl) ?_
  intro p e s m below meth cd hadm hx hb hr hml hts hown hlocks hname hnoh hxT A hA hK hP hD hS ls hl
  refine lv_aload_n hx hb dX6_through_0 rfl (lv_at hl 0 rfl) ?_
  refine lv_iload_n hx hb dX6_through_1 rfl (lv_at hl 1 rfl) ?_
  refine pk_callV (va_runV (As := [.int (iI bk)]) (rest := []) ⟨hx, hb, hml, hown, hts⟩ (tX6_needBooking l D kI kZ kL kJ g aR aB aT aS aK aL aKs aKt aKb aKz aKl aKc aKu nw al lg tt dn kn bk s.heap.size (by first | assumption | omega) (by first | assumption | omega)) (cwV 1 hts (gd_V tb_cons wd_506 wd_508 wd_8 wd_33 wd_509) rfl rfl rfl (by decide +kernel) ⟨Nat.le_of_ble_eq_true rfl, Nat.le_of_ble_eq_true rfl⟩) (ck_preV hxT hK hP hD [0, 6] rfl (by decide) (q0 := 0) rfl rfl rfl) rfl rfl hl.1 rfl (lv_room (Nat.le_of_ble_eq_true rfl)) dX6_through_2 ⟨Nat.zero_le _, Nat.zero_le _⟩) ?_
  refine lv_aload_n hx hb dX6_through_5 rfl (lv_at hl 0 rfl) ?_
  refine lv_iload_n hx hb dX6_through_6 rfl (lv_at hl 2 rfl) ?_
  refine pk_callV (va_runV (As := [.int (iI tm)]) (rest := []) ⟨hx, hb, hml, hown, hts⟩ (tX6_needTime l D kI kZ kL kJ g aR aB aT aS aK aL nw al lg tt dn tm s.heap.size (by first | assumption | omega) (by first | assumption | omega)) (cwV 1 hts (gd_V tb_cons wd_511 wd_513 wd_9 wd_33 wd_514) rfl rfl rfl (by decide +kernel) ⟨Nat.le_of_ble_eq_true rfl, Nat.le_of_ble_eq_true rfl⟩) (ck_preV hxT hK hP hD [0] rfl (by decide) (q0 := 0) rfl rfl rfl) rfl rfl hl.1 rfl (lv_room (Nat.le_of_ble_eq_true rfl)) dX6_through_7 ⟨Nat.zero_le _, Nat.zero_le _⟩) ?_
  refine lv_aload_n hx hb dX6_through_10 rfl (lv_at hl 0 rfl) ?_
  refine lv_iload_n hx hb dX6_through_11 rfl (lv_at hl 2 rfl) ?_
  refine wk_put (ci := 6) (C := RX6) (T := TX6) (N := 11) hx hb hts (fun w h => (List.mem_cons_of_mem _ (hinX6 w h))) tyX6 tyX6_ok nmX6 hown hK hP hD hS 0 rfl rfl 6 (by decide) (hts _ (List.mem_cons_of_mem _ wd_195)) (fun _ h9 => h9) rfl rfl (Nat.le_of_ble_eq_true rfl) dX6_through_12 (ws' := [(g, .inr (6, [.ref aR, .ref aB, .ref aT, .ref aS, .ref aK, .ref aL, .int (iI tm), .int (iI al), .int (iI lg), .int (iI tt), .int (iI dn)])), (aB, .inr (1, [.ref aBs, .ref aBw, .ref aBd, .ref aBv, .int (iI bn)])), (aBd, .inl (kZ, 20, .inl (iF bd))), (aBv, .inl (kI, 80, .inl (iF bv))), (aT, .inr (5, [.ref aTv])), (aTv, .inl (kI, 32, .inl (iF tv))), (aK, .inr (0, [.ref aKs, .ref aKt, .ref aKb, .ref aKz, .ref aKl, .ref aKc, .ref aKu, .int (iI kn)])), (aKs, .inl (kI, 61, .inl (iF ks))), (aKt, .inl (kI, 61, .inl (iF kt))), (aKb, .inl (kI, 61, .inl (iF kb))), (aKz, .inl (kI, 61, .inl (iF kz))), (aKc, .inl (kI, 61, .inl (iF kc))), (aKl, .inl (kI, 61, .inl (iF kl))), (aL, .inl (kL, 3, .inr (.inr (.inr (.inr (g3 a0 a1 a2)))))), (a0, .inr (2, [.ref a0w, .int (iI n0)])), (a1, .inr (2, [.ref a1w, .int (iI n1)])), (a0w, .inl (kI, 16, .inl (iF w0)))]) rfl (fun H locs hP hD hS => ?_)
  refine lv_aload_n hx hb dX6_through_15 rfl (lv_at hl 0 rfl) ?_
  refine lv_iload_n hx hb dX6_through_16 rfl (lv_at hl 1 rfl) ?_
  refine pk_callI (va_runV (As := [.int (iI bk)]) (rest := []) ⟨hx, hb, hml, hown, hts⟩ (tX6_firstBar l D kI kZ kL kJ g aR aB aT aS aK aL aBs aBw aBd aBv aTv aKs aKt aKb aKz aKl aKc aKu bd bv tv ks kt kb kz tm al lg tt dn bn kn bk H.size (by first | assumption | omega) (by first | assumption | omega) (by first | assumption | omega) (by first | assumption | omega) (by first | assumption | omega) (by first | assumption | omega) (by first | assumption | omega) (by first | assumption | omega) (by first | assumption | omega) (by first | assumption | omega) (by first | assumption | omega)) (cwV 1 hts (gd_V tb_cons wd_516 wd_518 wd_10 wd_33 wd_519) rfl rfl rfl (by decide +kernel) ⟨Nat.le_of_ble_eq_true rfl, Nat.le_of_ble_eq_true rfl⟩) (ck_preV hxT hK hP hD [0, 1, 2, 3, 4, 5, 6, 7, 8, 9, 10] rfl (by decide) (q0 := 0) rfl rfl rfl) rfl rfl hl.1 rfl (lv_room (Nat.le_of_ble_eq_true rfl)) dX6_through_17 ⟨Nat.zero_le _, Nat.zero_le _⟩) ?_
  have b9 := fbR_rng tm bv bd tv kn ks kt kb kz bk
  refine lv_istore_n (lv' := [(3, .int (iI (fbR tm bv bd tv kn ks kt kb kz bk))), (0, .ref g), (1, .int (iI bk)), (2, .int (iI tm))]) hx hb dX6_through_20 rfl hl (by decide) rfl (fun ls hl => ?_)
  refine lv_iload_n hx hb dX6_through_21 rfl (lv_at hl 0 rfl) ?_
  refine wk_if_eq (tgt := 28) hx hb dX6_through_22 (by decide) (by omega) (fun c_1 => ?_) (fun c_1 => ?_)
  · skip
    refine lv_aload_n hx hb dX6_through_28 rfl (lv_at hl 1 rfl) ?_
    refine va_get (D := D) (ci := 6) (v := .ref aK) (C := RX6) (T := TX6) (N := 11) hx hb hts (fun w h => (List.mem_cons_of_mem _ (hinX6 w h))) hown hK hP 0 rfl rfl 4 (by decide) (hts _ (List.mem_cons_of_mem _ wd_193)) (fun _ h9 => h9) rfl dX6_through_29 ?_
    refine va_get (D := D) (ci := 0) (v := .ref aKz) (C := RX0) (T := TX0) (N := 8) hx hb hts (fun w h => (List.mem_cons_of_mem _ (hinX0 w h))) hown hK hP 6 rfl rfl 3 (by decide) (hts _ (List.mem_cons_of_mem _ wd_148)) (fun _ h9 => h9) rfl dX6_through_32 ?_
    refine lv_iload_n hx hb dX6_through_35 rfl (lv_at hl 2 rfl) ?_
    refine lv_iconst (v := iI 1) hx hb dX6_through_36 rfl ?_
    refine wk_iast hx hb hK hP hD hS 10 0 rfl rfl (by decide) (by omega) dX6_through_37 (ws' := [(g, .inr (6, [.ref aR, .ref aB, .ref aT, .ref aS, .ref aK, .ref aL, .int (iI tm), .int (iI al), .int (iI lg), .int (iI tt), .int (iI dn)])), (aB, .inr (1, [.ref aBs, .ref aBw, .ref aBd, .ref aBv, .int (iI bn)])), (aBd, .inl (kZ, 20, .inl (iF bd))), (aBv, .inl (kI, 80, .inl (iF bv))), (aT, .inr (5, [.ref aTv])), (aTv, .inl (kI, 32, .inl (iF tv))), (aK, .inr (0, [.ref aKs, .ref aKt, .ref aKb, .ref aKz, .ref aKl, .ref aKc, .ref aKu, .int (iI kn)])), (aKs, .inl (kI, 61, .inl (iF ks))), (aKt, .inl (kI, 61, .inl (iF kt))), (aKb, .inl (kI, 61, .inl (iF kb))), (aKz, .inl (kI, 61, .inl (iF (iu kz bk 1)))), (aKc, .inl (kI, 61, .inl (iF kc))), (aKl, .inl (kI, 61, .inl (iF kl))), (aL, .inl (kL, 3, .inr (.inr (.inr (.inr (g3 a0 a1 a2)))))), (a0, .inr (2, [.ref a0w, .int (iI n0)])), (a1, .inr (2, [.ref a1w, .int (iI n1)])), (a0w, .inl (kI, 16, .inl (iF w0)))]) rfl (fun H locs hP hD hS => ?_)
    refine lv_aload_n hx hb dX6_through_38 rfl (lv_at hl 1 rfl) ?_
    refine va_get (D := D) (ci := 6) (v := .ref aK) (C := RX6) (T := TX6) (N := 11) hx hb hts (fun w h => (List.mem_cons_of_mem _ (hinX6 w h))) hown hK hP 0 rfl rfl 4 (by decide) (hts _ (List.mem_cons_of_mem _ wd_193)) (fun _ h9 => h9) rfl dX6_through_39 ?_
    refine va_get (D := D) (ci := 0) (v := .ref aKc) (C := RX0) (T := TX0) (N := 8) hx hb hts (fun w h => (List.mem_cons_of_mem _ (hinX0 w h))) hown hK hP 6 rfl rfl 5 (by decide) (hts _ (List.mem_cons_of_mem _ wd_152)) (fun _ h9 => h9) rfl dX6_through_42 ?_
    refine lv_iload_n hx hb dX6_through_45 rfl (lv_at hl 2 rfl) ?_
    refine lv_aload_n hx hb dX6_through_46 rfl (lv_at hl 1 rfl) ?_
    refine va_get (D := D) (ci := 6) (v := .int (iI tm)) (C := RX6) (T := TX6) (N := 11) hx hb hts (fun w h => (List.mem_cons_of_mem _ (hinX6 w h))) hown hK hP 0 rfl rfl 6 (by decide) (hts _ (List.mem_cons_of_mem _ wd_195)) (fun _ h9 => h9) rfl dX6_through_47 ?_
    refine wk_iast hx hb hK hP hD hS 11 0 rfl rfl (by decide) (by omega) dX6_through_50 (ws' := [(g, .inr (6, [.ref aR, .ref aB, .ref aT, .ref aS, .ref aK, .ref aL, .int (iI tm), .int (iI al), .int (iI lg), .int (iI tt), .int (iI dn)])), (aB, .inr (1, [.ref aBs, .ref aBw, .ref aBd, .ref aBv, .int (iI bn)])), (aBd, .inl (kZ, 20, .inl (iF bd))), (aBv, .inl (kI, 80, .inl (iF bv))), (aT, .inr (5, [.ref aTv])), (aTv, .inl (kI, 32, .inl (iF tv))), (aK, .inr (0, [.ref aKs, .ref aKt, .ref aKb, .ref aKz, .ref aKl, .ref aKc, .ref aKu, .int (iI kn)])), (aKs, .inl (kI, 61, .inl (iF ks))), (aKt, .inl (kI, 61, .inl (iF kt))), (aKb, .inl (kI, 61, .inl (iF kb))), (aKz, .inl (kI, 61, .inl (iF (iu kz bk 1)))), (aKc, .inl (kI, 61, .inl (iF (iu kc bk tm)))), (aKl, .inl (kI, 61, .inl (iF kl))), (aL, .inl (kL, 3, .inr (.inr (.inr (.inr (g3 a0 a1 a2)))))), (a0, .inr (2, [.ref a0w, .int (iI n0)])), (a1, .inr (2, [.ref a1w, .int (iI n1)])), (a0w, .inl (kI, 16, .inl (iF w0)))]) rfl (fun H locs hP hD hS => ?_)
    refine lv_aload_n hx hb dX6_through_51 rfl (lv_at hl 1 rfl) ?_
    refine lv_iload_n hx hb dX6_through_52 rfl (lv_at hl 2 rfl) ?_
    refine lv_aload_n hx hb dX6_through_53 rfl (lv_at hl 1 rfl) ?_
    refine lv_aload_n hx hb dX6_through_54 rfl (lv_at hl 1 rfl) ?_
    refine va_get (D := D) (ci := 6) (v := .ref aK) (C := RX6) (T := TX6) (N := 11) hx hb hts (fun w h => (List.mem_cons_of_mem _ (hinX6 w h))) hown hK hP 0 rfl rfl 4 (by decide) (hts _ (List.mem_cons_of_mem _ wd_193)) (fun _ h9 => h9) rfl dX6_through_55 ?_
    refine va_get (D := D) (ci := 0) (v := .ref aKb) (C := RX0) (T := TX0) (N := 8) hx hb hts (fun w h => (List.mem_cons_of_mem _ (hinX0 w h))) hown hK hP 6 rfl rfl 2 (by decide) (hts _ (List.mem_cons_of_mem _ wd_146)) (fun _ h9 => h9) rfl dX6_through_58 ?_
    refine lv_iload_n hx hb dX6_through_61 rfl (lv_at hl 2 rfl) ?_
    refine wk_iald hx hb hK hP 9 0 rfl rfl (by decide) (by omega) dX6_through_62 ?_
    have b8 := hkb bk
    refine pk_callI (va_runV (As := [.int (iI (kb bk))]) (rest := [.int (iI bk), .ref g]) ⟨hx, hb, hml, hown, hts⟩ (tX6_laneFor l D kI kZ kL kJ g aR aB aT aS aK aL aBs aBw aBd aBv a0 a1 a2 a0w a1w bv tm al lg tt dn bn n0 n1 (kb bk) H.size (by first | assumption | omega) (by first | assumption | omega) (by first | assumption | omega) (by first | assumption | omega)) (cwV 1 hts (gd_V tb_cons wd_544 wd_546 wd_14 wd_33 wd_547) rfl rfl rfl (by decide +kernel) ⟨Nat.le_of_ble_eq_true rfl, Nat.le_of_ble_eq_true rfl⟩) (ck_preV hxT hK hP hD [0, 1, 3, 13, 14, 15] rfl (by decide) (q0 := 0) rfl rfl rfl) rfl rfl hl.1 rfl (lv_room (Nat.le_of_ble_eq_true rfl)) dX6_through_63 ⟨Nat.zero_le _, Nat.zero_le _⟩) ?_
    refine wk_eqi (show iI (if bv ((kb bk) * 4 + 1) = 2 ∨ bv ((kb bk) * 4 + 2) = 2 then 2 else if n1 < n0 then 1 else 0) = iI 0 by rw [h3]) ?_
    refine ck_backV (va_runV (As := [.int (iI bk), .int (iI 0)]) (rest := []) ⟨hx, hb, hml, hown, hts⟩ (tX6_joinLane_0 l D kI kZ kL kJ g aR aB aT aS aK aL aKs aKt aKb aKz aKl aKc aKu a0 a1 a2 a0w kl w0 tm al lg tt dn kn n0 bk H.size (by first | assumption | omega) (by first | assumption | omega)) (cwV 2 hts (gd_V tb_cons wd_548 wd_550 wd_15 wd_33 wd_551) rfl rfl rfl (by decide +kernel) ⟨Nat.le_of_ble_eq_true rfl, Nat.le_of_ble_eq_true rfl⟩) (ck_preV hxT hK hP hD [0, 6, 12, 13, 14, 16] rfl (by decide) (q0 := 0) rfl rfl rfl) rfl rfl hl.1 rfl (lv_room (Nat.le_of_ble_eq_true rfl)) dX6_through_66 ⟨Nat.zero_le _, Nat.zero_le _⟩) hP hD hS hA [0, 6, 12, 13, 14, 16] [1, 2, 3, 4, 5, 7, 8, 9, 10, 11, 15] (WR := [(aB, .inr (1, [.ref aBs, .ref aBw, .ref aBd, .ref aBv, .int (iI bn)])), (aBd, .inl (kZ, 20, .inl (iF bd))), (aBv, .inl (kI, 80, .inl (iF bv))), (aT, .inr (5, [.ref aTv])), (aTv, .inl (kI, 32, .inl (iF tv))), (aKs, .inl (kI, 61, .inl (iF ks))), (aKt, .inl (kI, 61, .inl (iF kt))), (aKb, .inl (kI, 61, .inl (iF kb))), (aKz, .inl (kI, 61, .inl (iF (iu kz bk 1)))), (aKc, .inl (kI, 61, .inl (iF (iu kc bk tm)))), (a1, .inr (2, [.ref a1w, .int (iI n1)]))]) rfl rfl (by decide) (by decide) (ws' := [(aB, .inr (1, [.ref aBs, .ref aBw, .ref aBd, .ref aBv, .int (iI bn)])), (aBd, .inl (kZ, 20, .inl (iF bd))), (aBv, .inl (kI, 80, .inl (iF bv))), (aT, .inr (5, [.ref aTv])), (aTv, .inl (kI, 32, .inl (iF tv))), (aKs, .inl (kI, 61, .inl (iF ks))), (aKt, .inl (kI, 61, .inl (iF kt))), (aKb, .inl (kI, 61, .inl (iF kb))), (aKz, .inl (kI, 61, .inl (iF (iu kz bk 1)))), (aKc, .inl (kI, 61, .inl (iF (iu kc bk tm)))), (a1, .inr (2, [.ref a1w, .int (iI n1)])), (g, .inr (6, [.ref aR, .ref aB, .ref aT, .ref aS, .ref aK, .ref aL, .int (iI tm), .int (iI al), .int (iI lg), .int (iI tt), .int (iI dn)])), (aK, .inr (0, [.ref aKs, .ref aKt, .ref aKb, .ref aKz, .ref aKl, .ref aKc, .ref aKu, .int (iI kn)])), (aKl, .inl (kI, 61, .inl (iF (iu kl bk 0)))), (aL, .inl (kL, 3, .inr (.inr (.inr (.inr (g3 a0 a1 a2)))))), (a0, .inr (2, [.ref a0w, .int (iI (n0 + 1))])), (a0w, .inl (kI, 16, .inl (iF (iu w0 n0 bk))))]) rfl (fun H locs hP hD hS => ?_)
    refine lv_iconst (v := iI 1) hx hb dX6_through_69 rfl ?_
    have hP := hP.sub (ws' := [(g, .inr (6, [.ref aR, .ref aB, .ref aT, .ref aS, .ref aK, .ref aL, .int (iI tm), .int (iI al), .int (iI lg), .int (iI tt), .int (iI dn)])), (aB, .inr (1, [.ref aBs, .ref aBw, .ref aBd, .ref aBv, .int (iI bn)])), (aBd, .inl (kZ, 20, .inl (iF bd))), (aBv, .inl (kI, 80, .inl (iF bv))), (aT, .inr (5, [.ref aTv])), (aTv, .inl (kI, 32, .inl (iF tv))), (aK, .inr (0, [.ref aKs, .ref aKt, .ref aKb, .ref aKz, .ref aKl, .ref aKc, .ref aKu, .int (iI kn)])), (aKs, .inl (kI, 61, .inl (iF ks))), (aKt, .inl (kI, 61, .inl (iF kt))), (aKb, .inl (kI, 61, .inl (iF kb))), (aKz, .inl (kI, 61, .inl (iF (iu kz bk 1)))), (aKc, .inl (kI, 61, .inl (iF (iu kc bk tm)))), (aKl, .inl (kI, 61, .inl (iF (iu kl bk 0)))), (aL, .inl (kL, 3, .inr (.inr (.inr (.inr (g3 a0 a1 a2)))))), (a0, .inr (2, [.ref a0w, .int (iI (n0 + 1))])), (a1, .inr (2, [.ref a1w, .int (iI n1)])), (a0w, .inl (kI, 16, .inl (iF (iu w0 n0 bk))))]) [11, 0, 1, 2, 3, 4, 12, 5, 6, 7, 8, 9, 13, 14, 15, 10, 16] rfl
    have hD := hD.sub (ws' := [(g, .inr (6, [.ref aR, .ref aB, .ref aT, .ref aS, .ref aK, .ref aL, .int (iI tm), .int (iI al), .int (iI lg), .int (iI tt), .int (iI dn)])), (aB, .inr (1, [.ref aBs, .ref aBw, .ref aBd, .ref aBv, .int (iI bn)])), (aBd, .inl (kZ, 20, .inl (iF bd))), (aBv, .inl (kI, 80, .inl (iF bv))), (aT, .inr (5, [.ref aTv])), (aTv, .inl (kI, 32, .inl (iF tv))), (aK, .inr (0, [.ref aKs, .ref aKt, .ref aKb, .ref aKz, .ref aKl, .ref aKc, .ref aKu, .int (iI kn)])), (aKs, .inl (kI, 61, .inl (iF ks))), (aKt, .inl (kI, 61, .inl (iF kt))), (aKb, .inl (kI, 61, .inl (iF kb))), (aKz, .inl (kI, 61, .inl (iF (iu kz bk 1)))), (aKc, .inl (kI, 61, .inl (iF (iu kc bk tm)))), (aKl, .inl (kI, 61, .inl (iF (iu kl bk 0)))), (aL, .inl (kL, 3, .inr (.inr (.inr (.inr (g3 a0 a1 a2)))))), (a0, .inr (2, [.ref a0w, .int (iI (n0 + 1))])), (a1, .inr (2, [.ref a1w, .int (iI n1)])), (a0w, .inl (kI, 16, .inl (iF (iu w0 n0 bk))))]) [11, 0, 1, 2, 3, 4, 12, 5, 6, 7, 8, 9, 13, 14, 15, 10, 16] (by decide) rfl
    exact rk_int hx hb hr hlocks hK hP hD hS (by first | rfl | omega) rfl dX6_through_70
  · skip
    exfalso; omega

set_option maxHeartbeats 4000000 in
set_option maxRecDepth 100000 in
theorem tX6_through_1 (l : Launch) (D : va_G) (kI : ClassId) (kZ : ClassId) (kL : ClassId) (kJ : ClassId) (g : Nat) (aR : Nat) (aB : Nat) (aT : Nat) (aS : Nat) (aK : Nat) (aL : Nat) (aBs : Nat) (aBw : Nat) (aBd : Nat) (aBv : Nat) (aTv : Nat) (aKs : Nat) (aKt : Nat) (aKb : Nat) (aKz : Nat) (aKl : Nat) (aKc : Nat) (aKu : Nat) (a0 : Nat) (a1 : Nat) (a2 : Nat) (a0w : Nat) (a1w : Nat) (bd : Int → Int) (bv : Int → Int) (tv : Int → Int) (ks : Int → Int) (kt : Int → Int) (kb : Int → Int) (kz : Int → Int) (kc : Int → Int) (kl : Int → Int) (w1 : Int → Int) (nw : Int) (al : Int) (lg : Int) (tt : Int) (dn : Int) (bn : Int) (kn : Int) (n0 : Int) (n1 : Int) (bk : Int) (tm : Int) (sz : Nat) (hkn : 0 ≤ kn ∧ kn ≤ 60) (hbk : 1 ≤ bk ∧ bk ≤ kn) (hnw : 0 ≤ nw ∧ nw ≤ 100000) (htm : nw ≤ tm ∧ tm ≤ 100000) (hbv : ∀ j, 0 ≤ bv j ∧ bv j ≤ 1000000) (hbd : ∀ j, bd j = 0 ∨ bd j = 1) (htv : ∀ j, 0 ≤ tv j ∧ tv j ≤ 1000000) (hkz : ∀ j, 0 ≤ kz j ∧ kz j ≤ 1000000) (hkt : ∀ j, 0 ≤ kt j ∧ kt j ≤ 1000000) (hks : ∀ j, 0 ≤ ks j ∧ ks j < 24) (hkt2 : ∀ j, 0 ≤ kt j ∧ kt j < 16) (hkb : ∀ j, 0 ≤ kb j ∧ kb j < 20) (h2 : fbR tm bv bd tv kn ks kt kb kz bk = 0) (hn0 : 0 ≤ n0 ∧ n0 ≤ 16) (hn1 : 0 ≤ n1 ∧ n1 ≤ 16) (hnk : n1 < 16) (h3 : (if bv (kb bk * 4 + 1) = 2 ∨ bv (kb bk * 4 + 2) = 2 then 2 else if n1 < n0 then 1 else 0) = (1 : Int)) : CtI l yX6_through wsX6_through ({ frames := 3, cells := 0, slots := 0, locals := 67 }) D vwCl (tyL kI kZ kL kJ) [(g, .inr (6, [.ref aR, .ref aB, .ref aT, .ref aS, .ref aK, .ref aL, .int (iI nw), .int (iI al), .int (iI lg), .int (iI tt), .int (iI dn)])), (aB, .inr (1, [.ref aBs, .ref aBw, .ref aBd, .ref aBv, .int (iI bn)])), (aBd, .inl (kZ, 20, .inl (iF bd))), (aBv, .inl (kI, 80, .inl (iF bv))), (aT, .inr (5, [.ref aTv])), (aTv, .inl (kI, 32, .inl (iF tv))), (aK, .inr (0, [.ref aKs, .ref aKt, .ref aKb, .ref aKz, .ref aKl, .ref aKc, .ref aKu, .int (iI kn)])), (aKs, .inl (kI, 61, .inl (iF ks))), (aKt, .inl (kI, 61, .inl (iF kt))), (aKb, .inl (kI, 61, .inl (iF kb))), (aKz, .inl (kI, 61, .inl (iF kz))), (aKc, .inl (kI, 61, .inl (iF kc))), (aKl, .inl (kI, 61, .inl (iF kl))), (aL, .inl (kL, 3, .inr (.inr (.inr (.inr (g3 a0 a1 a2)))))), (a0, .inr (2, [.ref a0w, .int (iI n0)])), (a1, .inr (2, [.ref a1w, .int (iI n1)])), (a1w, .inl (kI, 16, .inl (iF w1)))] [.ref g, .int (iI bk), .int (iI tm)] (iI 1) [(g, .inr (6, [.ref aR, .ref aB, .ref aT, .ref aS, .ref aK, .ref aL, .int (iI tm), .int (iI al), .int (iI lg), .int (iI tt), .int (iI dn)])), (aB, .inr (1, [.ref aBs, .ref aBw, .ref aBd, .ref aBv, .int (iI bn)])), (aBd, .inl (kZ, 20, .inl (iF bd))), (aBv, .inl (kI, 80, .inl (iF bv))), (aT, .inr (5, [.ref aTv])), (aTv, .inl (kI, 32, .inl (iF tv))), (aK, .inr (0, [.ref aKs, .ref aKt, .ref aKb, .ref aKz, .ref aKl, .ref aKc, .ref aKu, .int (iI kn)])), (aKs, .inl (kI, 61, .inl (iF ks))), (aKt, .inl (kI, 61, .inl (iF kt))), (aKb, .inl (kI, 61, .inl (iF kb))), (aKz, .inl (kI, 61, .inl (iF (iu kz bk 1)))), (aKc, .inl (kI, 61, .inl (iF (iu kc bk tm)))), (aKl, .inl (kI, 61, .inl (iF (iu kl bk 1)))), (aL, .inl (kL, 3, .inr (.inr (.inr (.inr (g3 a0 a1 a2)))))), (a0, .inr (2, [.ref a0w, .int (iI n0)])), (a1, .inr (2, [.ref a1w, .int (iI (n1 + 1))])), (a1w, .inl (kI, 16, .inl (iF (iu w1 n1 bk))))] sz := by
  refine ck_start (Qc := fun A => cQi D vwCl (tyL kI kZ kL kJ) A (iI 1) [(g, .inr (6, [.ref aR, .ref aB, .ref aT, .ref aS, .ref aK, .ref aL, .int (iI tm), .int (iI al), .int (iI lg), .int (iI tt), .int (iI dn)])), (aB, .inr (1, [.ref aBs, .ref aBw, .ref aBd, .ref aBv, .int (iI bn)])), (aBd, .inl (kZ, 20, .inl (iF bd))), (aBv, .inl (kI, 80, .inl (iF bv))), (aT, .inr (5, [.ref aTv])), (aTv, .inl (kI, 32, .inl (iF tv))), (aK, .inr (0, [.ref aKs, .ref aKt, .ref aKb, .ref aKz, .ref aKl, .ref aKc, .ref aKu, .int (iI kn)])), (aKs, .inl (kI, 61, .inl (iF ks))), (aKt, .inl (kI, 61, .inl (iF kt))), (aKb, .inl (kI, 61, .inl (iF kb))), (aKz, .inl (kI, 61, .inl (iF (iu kz bk 1)))), (aKc, .inl (kI, 61, .inl (iF (iu kc bk tm)))), (aKl, .inl (kI, 61, .inl (iF (iu kl bk 1)))), (aL, .inl (kL, 3, .inr (.inr (.inr (.inr (g3 a0 a1 a2)))))), (a0, .inr (2, [.ref a0w, .int (iI n0)])), (a1, .inr (2, [.ref a1w, .int (iI (n1 + 1))])), (a1w, .inl (kI, 16, .inl (iF (iu w1 n1 bk))))]) (cc := cX6_through) (maxL := 4) (ret := (some .int)) (LV := [(0, .ref g), (1, .int (iI bk)), (2, .int (iI tm))]) (by decide) rfl rfl (Nat.le_of_ble_eq_true rfl) ?_
  intro p e s m below meth cd hadm hx hb hr hml hts hown hlocks hname hnoh hxT A hA hK hP hD hS ls hl
  refine lv_aload_n hx hb dX6_through_0 rfl (lv_at hl 0 rfl) ?_
  refine lv_iload_n hx hb dX6_through_1 rfl (lv_at hl 1 rfl) ?_
  refine pk_callV (va_runV (As := [.int (iI bk)]) (rest := []) ⟨hx, hb, hml, hown, hts⟩ (tX6_needBooking l D kI kZ kL kJ g aR aB aT aS aK aL aKs aKt aKb aKz aKl aKc aKu nw al lg tt dn kn bk s.heap.size (by first | assumption | omega) (by first | assumption | omega)) (cwV 1 hts (gd_V tb_cons wd_506 wd_508 wd_8 wd_33 wd_509) rfl rfl rfl (by decide +kernel) ⟨Nat.le_of_ble_eq_true rfl, Nat.le_of_ble_eq_true rfl⟩) (ck_preV hxT hK hP hD [0, 6] rfl (by decide) (q0 := 0) rfl rfl rfl) rfl rfl hl.1 rfl (lv_room (Nat.le_of_ble_eq_true rfl)) dX6_through_2 ⟨Nat.zero_le _, Nat.zero_le _⟩) ?_
  refine lv_aload_n hx hb dX6_through_5 rfl (lv_at hl 0 rfl) ?_
  refine lv_iload_n hx hb dX6_through_6 rfl (lv_at hl 2 rfl) ?_
  refine pk_callV (va_runV (As := [.int (iI tm)]) (rest := []) ⟨hx, hb, hml, hown, hts⟩ (tX6_needTime l D kI kZ kL kJ g aR aB aT aS aK aL nw al lg tt dn tm s.heap.size (by first | assumption | omega) (by first | assumption | omega)) (cwV 1 hts (gd_V tb_cons wd_511 wd_513 wd_9 wd_33 wd_514) rfl rfl rfl (by decide +kernel) ⟨Nat.le_of_ble_eq_true rfl, Nat.le_of_ble_eq_true rfl⟩) (ck_preV hxT hK hP hD [0] rfl (by decide) (q0 := 0) rfl rfl rfl) rfl rfl hl.1 rfl (lv_room (Nat.le_of_ble_eq_true rfl)) dX6_through_7 ⟨Nat.zero_le _, Nat.zero_le _⟩) ?_
  refine lv_aload_n hx hb dX6_through_10 rfl (lv_at hl 0 rfl) ?_
  refine lv_iload_n hx hb dX6_through_11 rfl (lv_at hl 2 rfl) ?_
  refine wk_put (ci := 6) (C := RX6) (T := TX6) (N := 11) hx hb hts (fun w h => (List.mem_cons_of_mem _ (hinX6 w h))) tyX6 tyX6_ok nmX6 hown hK hP hD hS 0 rfl rfl 6 (by decide) (hts _ (List.mem_cons_of_mem _ wd_195)) (fun _ h9 => h9) rfl rfl (Nat.le_of_ble_eq_true rfl) dX6_through_12 (ws' := [(g, .inr (6, [.ref aR, .ref aB, .ref aT, .ref aS, .ref aK, .ref aL, .int (iI tm), .int (iI al), .int (iI lg), .int (iI tt), .int (iI dn)])), (aB, .inr (1, [.ref aBs, .ref aBw, .ref aBd, .ref aBv, .int (iI bn)])), (aBd, .inl (kZ, 20, .inl (iF bd))), (aBv, .inl (kI, 80, .inl (iF bv))), (aT, .inr (5, [.ref aTv])), (aTv, .inl (kI, 32, .inl (iF tv))), (aK, .inr (0, [.ref aKs, .ref aKt, .ref aKb, .ref aKz, .ref aKl, .ref aKc, .ref aKu, .int (iI kn)])), (aKs, .inl (kI, 61, .inl (iF ks))), (aKt, .inl (kI, 61, .inl (iF kt))), (aKb, .inl (kI, 61, .inl (iF kb))), (aKz, .inl (kI, 61, .inl (iF kz))), (aKc, .inl (kI, 61, .inl (iF kc))), (aKl, .inl (kI, 61, .inl (iF kl))), (aL, .inl (kL, 3, .inr (.inr (.inr (.inr (g3 a0 a1 a2)))))), (a0, .inr (2, [.ref a0w, .int (iI n0)])), (a1, .inr (2, [.ref a1w, .int (iI n1)])), (a1w, .inl (kI, 16, .inl (iF w1)))]) rfl (fun H locs hP hD hS => ?_)
  refine lv_aload_n hx hb dX6_through_15 rfl (lv_at hl 0 rfl) ?_
  refine lv_iload_n hx hb dX6_through_16 rfl (lv_at hl 1 rfl) ?_
  refine pk_callI (va_runV (As := [.int (iI bk)]) (rest := []) ⟨hx, hb, hml, hown, hts⟩ (tX6_firstBar l D kI kZ kL kJ g aR aB aT aS aK aL aBs aBw aBd aBv aTv aKs aKt aKb aKz aKl aKc aKu bd bv tv ks kt kb kz tm al lg tt dn bn kn bk H.size (by first | assumption | omega) (by first | assumption | omega) (by first | assumption | omega) (by first | assumption | omega) (by first | assumption | omega) (by first | assumption | omega) (by first | assumption | omega) (by first | assumption | omega) (by first | assumption | omega) (by first | assumption | omega) (by first | assumption | omega)) (cwV 1 hts (gd_V tb_cons wd_516 wd_518 wd_10 wd_33 wd_519) rfl rfl rfl (by decide +kernel) ⟨Nat.le_of_ble_eq_true rfl, Nat.le_of_ble_eq_true rfl⟩) (ck_preV hxT hK hP hD [0, 1, 2, 3, 4, 5, 6, 7, 8, 9, 10] rfl (by decide) (q0 := 0) rfl rfl rfl) rfl rfl hl.1 rfl (lv_room (Nat.le_of_ble_eq_true rfl)) dX6_through_17 ⟨Nat.zero_le _, Nat.zero_le _⟩) ?_
  have b9 := fbR_rng tm bv bd tv kn ks kt kb kz bk
  refine lv_istore_n (lv' := [(3, .int (iI (fbR tm bv bd tv kn ks kt kb kz bk))), (0, .ref g), (1, .int (iI bk)), (2, .int (iI tm))]) hx hb dX6_through_20 rfl hl (by decide) rfl (fun ls hl => ?_)
  refine lv_iload_n hx hb dX6_through_21 rfl (lv_at hl 0 rfl) ?_
  refine wk_if_eq (tgt := 28) hx hb dX6_through_22 (by decide) (by omega) (fun c_1 => ?_) (fun c_1 => ?_)
  · skip
    refine lv_aload_n hx hb dX6_through_28 rfl (lv_at hl 1 rfl) ?_
    refine va_get (D := D) (ci := 6) (v := .ref aK) (C := RX6) (T := TX6) (N := 11) hx hb hts (fun w h => (List.mem_cons_of_mem _ (hinX6 w h))) hown hK hP 0 rfl rfl 4 (by decide) (hts _ (List.mem_cons_of_mem _ wd_193)) (fun _ h9 => h9) rfl dX6_through_29 ?_
    refine va_get (D := D) (ci := 0) (v := .ref aKz) (C := RX0) (T := TX0) (N := 8) hx hb hts (fun w h => (List.mem_cons_of_mem _ (hinX0 w h))) hown hK hP 6 rfl rfl 3 (by decide) (hts _ (List.mem_cons_of_mem _ wd_148)) (fun _ h9 => h9) rfl dX6_through_32 ?_
    refine lv_iload_n hx hb dX6_through_35 rfl (lv_at hl 2 rfl) ?_
    refine lv_iconst (v := iI 1) hx hb dX6_through_36 rfl ?_
    refine wk_iast hx hb hK hP hD hS 10 0 rfl rfl (by decide) (by omega) dX6_through_37 (ws' := [(g, .inr (6, [.ref aR, .ref aB, .ref aT, .ref aS, .ref aK, .ref aL, .int (iI tm), .int (iI al), .int (iI lg), .int (iI tt), .int (iI dn)])), (aB, .inr (1, [.ref aBs, .ref aBw, .ref aBd, .ref aBv, .int (iI bn)])), (aBd, .inl (kZ, 20, .inl (iF bd))), (aBv, .inl (kI, 80, .inl (iF bv))), (aT, .inr (5, [.ref aTv])), (aTv, .inl (kI, 32, .inl (iF tv))), (aK, .inr (0, [.ref aKs, .ref aKt, .ref aKb, .ref aKz, .ref aKl, .ref aKc, .ref aKu, .int (iI kn)])), (aKs, .inl (kI, 61, .inl (iF ks))), (aKt, .inl (kI, 61, .inl (iF kt))), (aKb, .inl (kI, 61, .inl (iF kb))), (aKz, .inl (kI, 61, .inl (iF (iu kz bk 1)))), (aKc, .inl (kI, 61, .inl (iF kc))), (aKl, .inl (kI, 61, .inl (iF kl))), (aL, .inl (kL, 3, .inr (.inr (.inr (.inr (g3 a0 a1 a2)))))), (a0, .inr (2, [.ref a0w, .int (iI n0)])), (a1, .inr (2, [.ref a1w, .int (iI n1)])), (a1w, .inl (kI, 16, .inl (iF w1)))]) rfl (fun H locs hP hD hS => ?_)
    refine lv_aload_n hx hb dX6_through_38 rfl (lv_at hl 1 rfl) ?_
    refine va_get (D := D) (ci := 6) (v := .ref aK) (C := RX6) (T := TX6) (N := 11) hx hb hts (fun w h => (List.mem_cons_of_mem _ (hinX6 w h))) hown hK hP 0 rfl rfl 4 (by decide) (hts _ (List.mem_cons_of_mem _ wd_193)) (fun _ h9 => h9) rfl dX6_through_39 ?_
    refine va_get (D := D) (ci := 0) (v := .ref aKc) (C := RX0) (T := TX0) (N := 8) hx hb hts (fun w h => (List.mem_cons_of_mem _ (hinX0 w h))) hown hK hP 6 rfl rfl 5 (by decide) (hts _ (List.mem_cons_of_mem _ wd_152)) (fun _ h9 => h9) rfl dX6_through_42 ?_
    refine lv_iload_n hx hb dX6_through_45 rfl (lv_at hl 2 rfl) ?_
    refine lv_aload_n hx hb dX6_through_46 rfl (lv_at hl 1 rfl) ?_
    refine va_get (D := D) (ci := 6) (v := .int (iI tm)) (C := RX6) (T := TX6) (N := 11) hx hb hts (fun w h => (List.mem_cons_of_mem _ (hinX6 w h))) hown hK hP 0 rfl rfl 6 (by decide) (hts _ (List.mem_cons_of_mem _ wd_195)) (fun _ h9 => h9) rfl dX6_through_47 ?_
    refine wk_iast hx hb hK hP hD hS 11 0 rfl rfl (by decide) (by omega) dX6_through_50 (ws' := [(g, .inr (6, [.ref aR, .ref aB, .ref aT, .ref aS, .ref aK, .ref aL, .int (iI tm), .int (iI al), .int (iI lg), .int (iI tt), .int (iI dn)])), (aB, .inr (1, [.ref aBs, .ref aBw, .ref aBd, .ref aBv, .int (iI bn)])), (aBd, .inl (kZ, 20, .inl (iF bd))), (aBv, .inl (kI, 80, .inl (iF bv))), (aT, .inr (5, [.ref aTv])), (aTv, .inl (kI, 32, .inl (iF tv))), (aK, .inr (0, [.ref aKs, .ref aKt, .ref aKb, .ref aKz, .ref aKl, .ref aKc, .ref aKu, .int (iI kn)])), (aKs, .inl (kI, 61, .inl (iF ks))), (aKt, .inl (kI, 61, .inl (iF kt))), (aKb, .inl (kI, 61, .inl (iF kb))), (aKz, .inl (kI, 61, .inl (iF (iu kz bk 1)))), (aKc, .inl (kI, 61, .inl (iF (iu kc bk tm)))), (aKl, .inl (kI, 61, .inl (iF kl))), (aL, .inl (kL, 3, .inr (.inr (.inr (.inr (g3 a0 a1 a2)))))), (a0, .inr (2, [.ref a0w, .int (iI n0)])), (a1, .inr (2, [.ref a1w, .int (iI n1)])), (a1w, .inl (kI, 16, .inl (iF w1)))]) rfl (fun H locs hP hD hS => ?_)
    refine lv_aload_n hx hb dX6_through_51 rfl (lv_at hl 1 rfl) ?_
    refine lv_iload_n hx hb dX6_through_52 rfl (lv_at hl 2 rfl) ?_
    refine lv_aload_n hx hb dX6_through_53 rfl (lv_at hl 1 rfl) ?_
    refine lv_aload_n hx hb dX6_through_54 rfl (lv_at hl 1 rfl) ?_
    refine va_get (D := D) (ci := 6) (v := .ref aK) (C := RX6) (T := TX6) (N := 11) hx hb hts (fun w h => (List.mem_cons_of_mem _ (hinX6 w h))) hown hK hP 0 rfl rfl 4 (by decide) (hts _ (List.mem_cons_of_mem _ wd_193)) (fun _ h9 => h9) rfl dX6_through_55 ?_
    refine va_get (D := D) (ci := 0) (v := .ref aKb) (C := RX0) (T := TX0) (N := 8) hx hb hts (fun w h => (List.mem_cons_of_mem _ (hinX0 w h))) hown hK hP 6 rfl rfl 2 (by decide) (hts _ (List.mem_cons_of_mem _ wd_146)) (fun _ h9 => h9) rfl dX6_through_58 ?_
    refine lv_iload_n hx hb dX6_through_61 rfl (lv_at hl 2 rfl) ?_
    refine wk_iald hx hb hK hP 9 0 rfl rfl (by decide) (by omega) dX6_through_62 ?_
    have b8 := hkb bk
    refine pk_callI (va_runV (As := [.int (iI (kb bk))]) (rest := [.int (iI bk), .ref g]) ⟨hx, hb, hml, hown, hts⟩ (tX6_laneFor l D kI kZ kL kJ g aR aB aT aS aK aL aBs aBw aBd aBv a0 a1 a2 a0w a1w bv tm al lg tt dn bn n0 n1 (kb bk) H.size (by first | assumption | omega) (by first | assumption | omega) (by first | assumption | omega) (by first | assumption | omega)) (cwV 1 hts (gd_V tb_cons wd_544 wd_546 wd_14 wd_33 wd_547) rfl rfl rfl (by decide +kernel) ⟨Nat.le_of_ble_eq_true rfl, Nat.le_of_ble_eq_true rfl⟩) (ck_preV hxT hK hP hD [0, 1, 3, 13, 14, 15] rfl (by decide) (q0 := 0) rfl rfl rfl) rfl rfl hl.1 rfl (lv_room (Nat.le_of_ble_eq_true rfl)) dX6_through_63 ⟨Nat.zero_le _, Nat.zero_le _⟩) ?_
    refine wk_eqi (show iI (if bv ((kb bk) * 4 + 1) = 2 ∨ bv ((kb bk) * 4 + 2) = 2 then 2 else if n1 < n0 then 1 else 0) = iI 1 by rw [h3]) ?_
    refine ck_backV (va_runV (As := [.int (iI bk), .int (iI 1)]) (rest := []) ⟨hx, hb, hml, hown, hts⟩ (tX6_joinLane_1 l D kI kZ kL kJ g aR aB aT aS aK aL aKs aKt aKb aKz aKl aKc aKu a0 a1 a2 a1w kl w1 tm al lg tt dn kn n1 bk H.size (by first | assumption | omega) (by first | assumption | omega)) (cwV 2 hts (gd_V tb_cons wd_548 wd_550 wd_15 wd_33 wd_551) rfl rfl rfl (by decide +kernel) ⟨Nat.le_of_ble_eq_true rfl, Nat.le_of_ble_eq_true rfl⟩) (ck_preV hxT hK hP hD [0, 6, 12, 13, 15, 16] rfl (by decide) (q0 := 0) rfl rfl rfl) rfl rfl hl.1 rfl (lv_room (Nat.le_of_ble_eq_true rfl)) dX6_through_66 ⟨Nat.zero_le _, Nat.zero_le _⟩) hP hD hS hA [0, 6, 12, 13, 15, 16] [1, 2, 3, 4, 5, 7, 8, 9, 10, 11, 14] (WR := [(aB, .inr (1, [.ref aBs, .ref aBw, .ref aBd, .ref aBv, .int (iI bn)])), (aBd, .inl (kZ, 20, .inl (iF bd))), (aBv, .inl (kI, 80, .inl (iF bv))), (aT, .inr (5, [.ref aTv])), (aTv, .inl (kI, 32, .inl (iF tv))), (aKs, .inl (kI, 61, .inl (iF ks))), (aKt, .inl (kI, 61, .inl (iF kt))), (aKb, .inl (kI, 61, .inl (iF kb))), (aKz, .inl (kI, 61, .inl (iF (iu kz bk 1)))), (aKc, .inl (kI, 61, .inl (iF (iu kc bk tm)))), (a0, .inr (2, [.ref a0w, .int (iI n0)]))]) rfl rfl (by decide) (by decide) (ws' := [(aB, .inr (1, [.ref aBs, .ref aBw, .ref aBd, .ref aBv, .int (iI bn)])), (aBd, .inl (kZ, 20, .inl (iF bd))), (aBv, .inl (kI, 80, .inl (iF bv))), (aT, .inr (5, [.ref aTv])), (aTv, .inl (kI, 32, .inl (iF tv))), (aKs, .inl (kI, 61, .inl (iF ks))), (aKt, .inl (kI, 61, .inl (iF kt))), (aKb, .inl (kI, 61, .inl (iF kb))), (aKz, .inl (kI, 61, .inl (iF (iu kz bk 1)))), (aKc, .inl (kI, 61, .inl (iF (iu kc bk tm)))), (a0, .inr (2, [.ref a0w, .int (iI n0)])), (g, .inr (6, [.ref aR, .ref aB, .ref aT, .ref aS, .ref aK, .ref aL, .int (iI tm), .int (iI al), .int (iI lg), .int (iI tt), .int (iI dn)])), (aK, .inr (0, [.ref aKs, .ref aKt, .ref aKb, .ref aKz, .ref aKl, .ref aKc, .ref aKu, .int (iI kn)])), (aKl, .inl (kI, 61, .inl (iF (iu kl bk 1)))), (aL, .inl (kL, 3, .inr (.inr (.inr (.inr (g3 a0 a1 a2)))))), (a1, .inr (2, [.ref a1w, .int (iI (n1 + 1))])), (a1w, .inl (kI, 16, .inl (iF (iu w1 n1 bk))))]) rfl (fun H locs hP hD hS => ?_)
    refine lv_iconst (v := iI 1) hx hb dX6_through_69 rfl ?_
    have hP := hP.sub (ws' := [(g, .inr (6, [.ref aR, .ref aB, .ref aT, .ref aS, .ref aK, .ref aL, .int (iI tm), .int (iI al), .int (iI lg), .int (iI tt), .int (iI dn)])), (aB, .inr (1, [.ref aBs, .ref aBw, .ref aBd, .ref aBv, .int (iI bn)])), (aBd, .inl (kZ, 20, .inl (iF bd))), (aBv, .inl (kI, 80, .inl (iF bv))), (aT, .inr (5, [.ref aTv])), (aTv, .inl (kI, 32, .inl (iF tv))), (aK, .inr (0, [.ref aKs, .ref aKt, .ref aKb, .ref aKz, .ref aKl, .ref aKc, .ref aKu, .int (iI kn)])), (aKs, .inl (kI, 61, .inl (iF ks))), (aKt, .inl (kI, 61, .inl (iF kt))), (aKb, .inl (kI, 61, .inl (iF kb))), (aKz, .inl (kI, 61, .inl (iF (iu kz bk 1)))), (aKc, .inl (kI, 61, .inl (iF (iu kc bk tm)))), (aKl, .inl (kI, 61, .inl (iF (iu kl bk 1)))), (aL, .inl (kL, 3, .inr (.inr (.inr (.inr (g3 a0 a1 a2)))))), (a0, .inr (2, [.ref a0w, .int (iI n0)])), (a1, .inr (2, [.ref a1w, .int (iI (n1 + 1))])), (a1w, .inl (kI, 16, .inl (iF (iu w1 n1 bk))))]) [11, 0, 1, 2, 3, 4, 12, 5, 6, 7, 8, 9, 13, 14, 10, 15, 16] rfl
    have hD := hD.sub (ws' := [(g, .inr (6, [.ref aR, .ref aB, .ref aT, .ref aS, .ref aK, .ref aL, .int (iI tm), .int (iI al), .int (iI lg), .int (iI tt), .int (iI dn)])), (aB, .inr (1, [.ref aBs, .ref aBw, .ref aBd, .ref aBv, .int (iI bn)])), (aBd, .inl (kZ, 20, .inl (iF bd))), (aBv, .inl (kI, 80, .inl (iF bv))), (aT, .inr (5, [.ref aTv])), (aTv, .inl (kI, 32, .inl (iF tv))), (aK, .inr (0, [.ref aKs, .ref aKt, .ref aKb, .ref aKz, .ref aKl, .ref aKc, .ref aKu, .int (iI kn)])), (aKs, .inl (kI, 61, .inl (iF ks))), (aKt, .inl (kI, 61, .inl (iF kt))), (aKb, .inl (kI, 61, .inl (iF kb))), (aKz, .inl (kI, 61, .inl (iF (iu kz bk 1)))), (aKc, .inl (kI, 61, .inl (iF (iu kc bk tm)))), (aKl, .inl (kI, 61, .inl (iF (iu kl bk 1)))), (aL, .inl (kL, 3, .inr (.inr (.inr (.inr (g3 a0 a1 a2)))))), (a0, .inr (2, [.ref a0w, .int (iI n0)])), (a1, .inr (2, [.ref a1w, .int (iI (n1 + 1))])), (a1w, .inl (kI, 16, .inl (iF (iu w1 n1 bk))))]) [11, 0, 1, 2, 3, 4, 12, 5, 6, 7, 8, 9, 13, 14, 10, 15, 16] (by decide) rfl
    exact rk_int hx hb hr hlocks hK hP hD hS (by first | rfl | omega) rfl dX6_through_70
  · skip
    exfalso; omega

set_option maxHeartbeats 4000000 in
set_option maxRecDepth 100000 in
theorem tX6_through_2 (l : Launch) (D : va_G) (kI : ClassId) (kZ : ClassId) (kL : ClassId) (kJ : ClassId) (g : Nat) (aR : Nat) (aB : Nat) (aT : Nat) (aS : Nat) (aK : Nat) (aL : Nat) (aBs : Nat) (aBw : Nat) (aBd : Nat) (aBv : Nat) (aTv : Nat) (aKs : Nat) (aKt : Nat) (aKb : Nat) (aKz : Nat) (aKl : Nat) (aKc : Nat) (aKu : Nat) (a0 : Nat) (a1 : Nat) (a2 : Nat) (a0w : Nat) (a1w : Nat) (a2w : Nat) (bd : Int → Int) (bv : Int → Int) (tv : Int → Int) (ks : Int → Int) (kt : Int → Int) (kb : Int → Int) (kz : Int → Int) (kc : Int → Int) (kl : Int → Int) (w2 : Int → Int) (nw : Int) (al : Int) (lg : Int) (tt : Int) (dn : Int) (bn : Int) (kn : Int) (n0 : Int) (n1 : Int) (n2 : Int) (bk : Int) (tm : Int) (sz : Nat) (hkn : 0 ≤ kn ∧ kn ≤ 60) (hbk : 1 ≤ bk ∧ bk ≤ kn) (hnw : 0 ≤ nw ∧ nw ≤ 100000) (htm : nw ≤ tm ∧ tm ≤ 100000) (hbv : ∀ j, 0 ≤ bv j ∧ bv j ≤ 1000000) (hbd : ∀ j, bd j = 0 ∨ bd j = 1) (htv : ∀ j, 0 ≤ tv j ∧ tv j ≤ 1000000) (hkz : ∀ j, 0 ≤ kz j ∧ kz j ≤ 1000000) (hkt : ∀ j, 0 ≤ kt j ∧ kt j ≤ 1000000) (hks : ∀ j, 0 ≤ ks j ∧ ks j < 24) (hkt2 : ∀ j, 0 ≤ kt j ∧ kt j < 16) (hkb : ∀ j, 0 ≤ kb j ∧ kb j < 20) (h2 : fbR tm bv bd tv kn ks kt kb kz bk = 0) (hn0 : 0 ≤ n0 ∧ n0 ≤ 16) (hn1 : 0 ≤ n1 ∧ n1 ≤ 16) (hn2 : 0 ≤ n2 ∧ n2 < 16) (h3 : (if bv (kb bk * 4 + 1) = 2 ∨ bv (kb bk * 4 + 2) = 2 then 2 else if n1 < n0 then 1 else 0) = (2 : Int)) : CtI l yX6_through wsX6_through ({ frames := 3, cells := 0, slots := 0, locals := 67 }) D vwCl (tyL kI kZ kL kJ) [(g, .inr (6, [.ref aR, .ref aB, .ref aT, .ref aS, .ref aK, .ref aL, .int (iI nw), .int (iI al), .int (iI lg), .int (iI tt), .int (iI dn)])), (aB, .inr (1, [.ref aBs, .ref aBw, .ref aBd, .ref aBv, .int (iI bn)])), (aBd, .inl (kZ, 20, .inl (iF bd))), (aBv, .inl (kI, 80, .inl (iF bv))), (aT, .inr (5, [.ref aTv])), (aTv, .inl (kI, 32, .inl (iF tv))), (aK, .inr (0, [.ref aKs, .ref aKt, .ref aKb, .ref aKz, .ref aKl, .ref aKc, .ref aKu, .int (iI kn)])), (aKs, .inl (kI, 61, .inl (iF ks))), (aKt, .inl (kI, 61, .inl (iF kt))), (aKb, .inl (kI, 61, .inl (iF kb))), (aKz, .inl (kI, 61, .inl (iF kz))), (aKc, .inl (kI, 61, .inl (iF kc))), (aKl, .inl (kI, 61, .inl (iF kl))), (aL, .inl (kL, 3, .inr (.inr (.inr (.inr (g3 a0 a1 a2)))))), (a0, .inr (2, [.ref a0w, .int (iI n0)])), (a1, .inr (2, [.ref a1w, .int (iI n1)])), (a2, .inr (2, [.ref a2w, .int (iI n2)])), (a2w, .inl (kI, 16, .inl (iF w2)))] [.ref g, .int (iI bk), .int (iI tm)] (iI 1) [(g, .inr (6, [.ref aR, .ref aB, .ref aT, .ref aS, .ref aK, .ref aL, .int (iI tm), .int (iI al), .int (iI lg), .int (iI tt), .int (iI dn)])), (aB, .inr (1, [.ref aBs, .ref aBw, .ref aBd, .ref aBv, .int (iI bn)])), (aBd, .inl (kZ, 20, .inl (iF bd))), (aBv, .inl (kI, 80, .inl (iF bv))), (aT, .inr (5, [.ref aTv])), (aTv, .inl (kI, 32, .inl (iF tv))), (aK, .inr (0, [.ref aKs, .ref aKt, .ref aKb, .ref aKz, .ref aKl, .ref aKc, .ref aKu, .int (iI kn)])), (aKs, .inl (kI, 61, .inl (iF ks))), (aKt, .inl (kI, 61, .inl (iF kt))), (aKb, .inl (kI, 61, .inl (iF kb))), (aKz, .inl (kI, 61, .inl (iF (iu kz bk 1)))), (aKc, .inl (kI, 61, .inl (iF (iu kc bk tm)))), (aKl, .inl (kI, 61, .inl (iF (iu kl bk 2)))), (aL, .inl (kL, 3, .inr (.inr (.inr (.inr (g3 a0 a1 a2)))))), (a0, .inr (2, [.ref a0w, .int (iI n0)])), (a1, .inr (2, [.ref a1w, .int (iI n1)])), (a2, .inr (2, [.ref a2w, .int (iI (n2 + 1))])), (a2w, .inl (kI, 16, .inl (iF (iu w2 n2 bk))))] sz := by
  refine ck_start (Qc := fun A => cQi D vwCl (tyL kI kZ kL kJ) A (iI 1) [(g, .inr (6, [.ref aR, .ref aB, .ref aT, .ref aS, .ref aK, .ref aL, .int (iI tm), .int (iI al), .int (iI lg), .int (iI tt), .int (iI dn)])), (aB, .inr (1, [.ref aBs, .ref aBw, .ref aBd, .ref aBv, .int (iI bn)])), (aBd, .inl (kZ, 20, .inl (iF bd))), (aBv, .inl (kI, 80, .inl (iF bv))), (aT, .inr (5, [.ref aTv])), (aTv, .inl (kI, 32, .inl (iF tv))), (aK, .inr (0, [.ref aKs, .ref aKt, .ref aKb, .ref aKz, .ref aKl, .ref aKc, .ref aKu, .int (iI kn)])), (aKs, .inl (kI, 61, .inl (iF ks))), (aKt, .inl (kI, 61, .inl (iF kt))), (aKb, .inl (kI, 61, .inl (iF kb))), (aKz, .inl (kI, 61, .inl (iF (iu kz bk 1)))), (aKc, .inl (kI, 61, .inl (iF (iu kc bk tm)))), (aKl, .inl (kI, 61, .inl (iF (iu kl bk 2)))), (aL, .inl (kL, 3, .inr (.inr (.inr (.inr (g3 a0 a1 a2)))))), (a0, .inr (2, [.ref a0w, .int (iI n0)])), (a1, .inr (2, [.ref a1w, .int (iI n1)])), (a2, .inr (2, [.ref a2w, .int (iI (n2 + 1))])), (a2w, .inl (kI, 16, .inl (iF (iu w2 n2 bk))))]) (cc := cX6_through) (maxL := 4) (ret := (some .int)) (LV := [(0, .ref g), (1, .int (iI bk)), (2, .int (iI tm))]) (by decide) rfl rfl (Nat.le_of_ble_eq_true rfl) ?_
  intro p e s m below meth cd hadm hx hb hr hml hts hown hlocks hname hnoh hxT A hA hK hP hD hS ls hl
  refine lv_aload_n hx hb dX6_through_0 rfl (lv_at hl 0 rfl) ?_
  refine lv_iload_n hx hb dX6_through_1 rfl (lv_at hl 1 rfl) ?_
  refine pk_callV (va_runV (As := [.int (iI bk)]) (rest := []) ⟨hx, hb, hml, hown, hts⟩ (tX6_needBooking l D kI kZ kL kJ g aR aB aT aS aK aL aKs aKt aKb aKz aKl aKc aKu nw al lg tt dn kn bk s.heap.size (by first | assumption | omega) (by first | assumption | omega)) (cwV 1 hts (gd_V tb_cons wd_506 wd_508 wd_8 wd_33 wd_509) rfl rfl rfl (by decide +kernel) ⟨Nat.le_of_ble_eq_true rfl, Nat.le_of_ble_eq_true rfl⟩) (ck_preV hxT hK hP hD [0, 6] rfl (by decide) (q0 := 0) rfl rfl rfl) rfl rfl hl.1 rfl (lv_room (Nat.le_of_ble_eq_true rfl)) dX6_through_2 ⟨Nat.zero_le _, Nat.zero_le _⟩) ?_
  refine lv_aload_n hx hb dX6_through_5 rfl (lv_at hl 0 rfl) ?_
  refine lv_iload_n hx hb dX6_through_6 rfl (lv_at hl 2 rfl) ?_
  refine pk_callV (va_runV (As := [.int (iI tm)]) (rest := []) ⟨hx, hb, hml, hown, hts⟩ (tX6_needTime l D kI kZ kL kJ g aR aB aT aS aK aL nw al lg tt dn tm s.heap.size (by first | assumption | omega) (by first | assumption | omega)) (cwV 1 hts (gd_V tb_cons wd_511 wd_513 wd_9 wd_33 wd_514) rfl rfl rfl (by decide +kernel) ⟨Nat.le_of_ble_eq_true rfl, Nat.le_of_ble_eq_true rfl⟩) (ck_preV hxT hK hP hD [0] rfl (by decide) (q0 := 0) rfl rfl rfl) rfl rfl hl.1 rfl (lv_room (Nat.le_of_ble_eq_true rfl)) dX6_through_7 ⟨Nat.zero_le _, Nat.zero_le _⟩) ?_
  refine lv_aload_n hx hb dX6_through_10 rfl (lv_at hl 0 rfl) ?_
  refine lv_iload_n hx hb dX6_through_11 rfl (lv_at hl 2 rfl) ?_
  refine wk_put (ci := 6) (C := RX6) (T := TX6) (N := 11) hx hb hts (fun w h => (List.mem_cons_of_mem _ (hinX6 w h))) tyX6 tyX6_ok nmX6 hown hK hP hD hS 0 rfl rfl 6 (by decide) (hts _ (List.mem_cons_of_mem _ wd_195)) (fun _ h9 => h9) rfl rfl (Nat.le_of_ble_eq_true rfl) dX6_through_12 (ws' := [(g, .inr (6, [.ref aR, .ref aB, .ref aT, .ref aS, .ref aK, .ref aL, .int (iI tm), .int (iI al), .int (iI lg), .int (iI tt), .int (iI dn)])), (aB, .inr (1, [.ref aBs, .ref aBw, .ref aBd, .ref aBv, .int (iI bn)])), (aBd, .inl (kZ, 20, .inl (iF bd))), (aBv, .inl (kI, 80, .inl (iF bv))), (aT, .inr (5, [.ref aTv])), (aTv, .inl (kI, 32, .inl (iF tv))), (aK, .inr (0, [.ref aKs, .ref aKt, .ref aKb, .ref aKz, .ref aKl, .ref aKc, .ref aKu, .int (iI kn)])), (aKs, .inl (kI, 61, .inl (iF ks))), (aKt, .inl (kI, 61, .inl (iF kt))), (aKb, .inl (kI, 61, .inl (iF kb))), (aKz, .inl (kI, 61, .inl (iF kz))), (aKc, .inl (kI, 61, .inl (iF kc))), (aKl, .inl (kI, 61, .inl (iF kl))), (aL, .inl (kL, 3, .inr (.inr (.inr (.inr (g3 a0 a1 a2)))))), (a0, .inr (2, [.ref a0w, .int (iI n0)])), (a1, .inr (2, [.ref a1w, .int (iI n1)])), (a2, .inr (2, [.ref a2w, .int (iI n2)])), (a2w, .inl (kI, 16, .inl (iF w2)))]) rfl (fun H locs hP hD hS => ?_)
  refine lv_aload_n hx hb dX6_through_15 rfl (lv_at hl 0 rfl) ?_
  refine lv_iload_n hx hb dX6_through_16 rfl (lv_at hl 1 rfl) ?_
  refine pk_callI (va_runV (As := [.int (iI bk)]) (rest := []) ⟨hx, hb, hml, hown, hts⟩ (tX6_firstBar l D kI kZ kL kJ g aR aB aT aS aK aL aBs aBw aBd aBv aTv aKs aKt aKb aKz aKl aKc aKu bd bv tv ks kt kb kz tm al lg tt dn bn kn bk H.size (by first | assumption | omega) (by first | assumption | omega) (by first | assumption | omega) (by first | assumption | omega) (by first | assumption | omega) (by first | assumption | omega) (by first | assumption | omega) (by first | assumption | omega) (by first | assumption | omega) (by first | assumption | omega) (by first | assumption | omega)) (cwV 1 hts (gd_V tb_cons wd_516 wd_518 wd_10 wd_33 wd_519) rfl rfl rfl (by decide +kernel) ⟨Nat.le_of_ble_eq_true rfl, Nat.le_of_ble_eq_true rfl⟩) (ck_preV hxT hK hP hD [0, 1, 2, 3, 4, 5, 6, 7, 8, 9, 10] rfl (by decide) (q0 := 0) rfl rfl rfl) rfl rfl hl.1 rfl (lv_room (Nat.le_of_ble_eq_true rfl)) dX6_through_17 ⟨Nat.zero_le _, Nat.zero_le _⟩) ?_
  have b9 := fbR_rng tm bv bd tv kn ks kt kb kz bk
  refine lv_istore_n (lv' := [(3, .int (iI (fbR tm bv bd tv kn ks kt kb kz bk))), (0, .ref g), (1, .int (iI bk)), (2, .int (iI tm))]) hx hb dX6_through_20 rfl hl (by decide) rfl (fun ls hl => ?_)
  refine lv_iload_n hx hb dX6_through_21 rfl (lv_at hl 0 rfl) ?_
  refine wk_if_eq (tgt := 28) hx hb dX6_through_22 (by decide) (by omega) (fun c_1 => ?_) (fun c_1 => ?_)
  · skip
    refine lv_aload_n hx hb dX6_through_28 rfl (lv_at hl 1 rfl) ?_
    refine va_get (D := D) (ci := 6) (v := .ref aK) (C := RX6) (T := TX6) (N := 11) hx hb hts (fun w h => (List.mem_cons_of_mem _ (hinX6 w h))) hown hK hP 0 rfl rfl 4 (by decide) (hts _ (List.mem_cons_of_mem _ wd_193)) (fun _ h9 => h9) rfl dX6_through_29 ?_
    refine va_get (D := D) (ci := 0) (v := .ref aKz) (C := RX0) (T := TX0) (N := 8) hx hb hts (fun w h => (List.mem_cons_of_mem _ (hinX0 w h))) hown hK hP 6 rfl rfl 3 (by decide) (hts _ (List.mem_cons_of_mem _ wd_148)) (fun _ h9 => h9) rfl dX6_through_32 ?_
    refine lv_iload_n hx hb dX6_through_35 rfl (lv_at hl 2 rfl) ?_
    refine lv_iconst (v := iI 1) hx hb dX6_through_36 rfl ?_
    refine wk_iast hx hb hK hP hD hS 10 0 rfl rfl (by decide) (by omega) dX6_through_37 (ws' := [(g, .inr (6, [.ref aR, .ref aB, .ref aT, .ref aS, .ref aK, .ref aL, .int (iI tm), .int (iI al), .int (iI lg), .int (iI tt), .int (iI dn)])), (aB, .inr (1, [.ref aBs, .ref aBw, .ref aBd, .ref aBv, .int (iI bn)])), (aBd, .inl (kZ, 20, .inl (iF bd))), (aBv, .inl (kI, 80, .inl (iF bv))), (aT, .inr (5, [.ref aTv])), (aTv, .inl (kI, 32, .inl (iF tv))), (aK, .inr (0, [.ref aKs, .ref aKt, .ref aKb, .ref aKz, .ref aKl, .ref aKc, .ref aKu, .int (iI kn)])), (aKs, .inl (kI, 61, .inl (iF ks))), (aKt, .inl (kI, 61, .inl (iF kt))), (aKb, .inl (kI, 61, .inl (iF kb))), (aKz, .inl (kI, 61, .inl (iF (iu kz bk 1)))), (aKc, .inl (kI, 61, .inl (iF kc))), (aKl, .inl (kI, 61, .inl (iF kl))), (aL, .inl (kL, 3, .inr (.inr (.inr (.inr (g3 a0 a1 a2)))))), (a0, .inr (2, [.ref a0w, .int (iI n0)])), (a1, .inr (2, [.ref a1w, .int (iI n1)])), (a2, .inr (2, [.ref a2w, .int (iI n2)])), (a2w, .inl (kI, 16, .inl (iF w2)))]) rfl (fun H locs hP hD hS => ?_)
    refine lv_aload_n hx hb dX6_through_38 rfl (lv_at hl 1 rfl) ?_
    refine va_get (D := D) (ci := 6) (v := .ref aK) (C := RX6) (T := TX6) (N := 11) hx hb hts (fun w h => (List.mem_cons_of_mem _ (hinX6 w h))) hown hK hP 0 rfl rfl 4 (by decide) (hts _ (List.mem_cons_of_mem _ wd_193)) (fun _ h9 => h9) rfl dX6_through_39 ?_
    refine va_get (D := D) (ci := 0) (v := .ref aKc) (C := RX0) (T := TX0) (N := 8) hx hb hts (fun w h => (List.mem_cons_of_mem _ (hinX0 w h))) hown hK hP 6 rfl rfl 5 (by decide) (hts _ (List.mem_cons_of_mem _ wd_152)) (fun _ h9 => h9) rfl dX6_through_42 ?_
    refine lv_iload_n hx hb dX6_through_45 rfl (lv_at hl 2 rfl) ?_
    refine lv_aload_n hx hb dX6_through_46 rfl (lv_at hl 1 rfl) ?_
    refine va_get (D := D) (ci := 6) (v := .int (iI tm)) (C := RX6) (T := TX6) (N := 11) hx hb hts (fun w h => (List.mem_cons_of_mem _ (hinX6 w h))) hown hK hP 0 rfl rfl 6 (by decide) (hts _ (List.mem_cons_of_mem _ wd_195)) (fun _ h9 => h9) rfl dX6_through_47 ?_
    refine wk_iast hx hb hK hP hD hS 11 0 rfl rfl (by decide) (by omega) dX6_through_50 (ws' := [(g, .inr (6, [.ref aR, .ref aB, .ref aT, .ref aS, .ref aK, .ref aL, .int (iI tm), .int (iI al), .int (iI lg), .int (iI tt), .int (iI dn)])), (aB, .inr (1, [.ref aBs, .ref aBw, .ref aBd, .ref aBv, .int (iI bn)])), (aBd, .inl (kZ, 20, .inl (iF bd))), (aBv, .inl (kI, 80, .inl (iF bv))), (aT, .inr (5, [.ref aTv])), (aTv, .inl (kI, 32, .inl (iF tv))), (aK, .inr (0, [.ref aKs, .ref aKt, .ref aKb, .ref aKz, .ref aKl, .ref aKc, .ref aKu, .int (iI kn)])), (aKs, .inl (kI, 61, .inl (iF ks))), (aKt, .inl (kI, 61, .inl (iF kt))), (aKb, .inl (kI, 61, .inl (iF kb))), (aKz, .inl (kI, 61, .inl (iF (iu kz bk 1)))), (aKc, .inl (kI, 61, .inl (iF (iu kc bk tm)))), (aKl, .inl (kI, 61, .inl (iF kl))), (aL, .inl (kL, 3, .inr (.inr (.inr (.inr (g3 a0 a1 a2)))))), (a0, .inr (2, [.ref a0w, .int (iI n0)])), (a1, .inr (2, [.ref a1w, .int (iI n1)])), (a2, .inr (2, [.ref a2w, .int (iI n2)])), (a2w, .inl (kI, 16, .inl (iF w2)))]) rfl (fun H locs hP hD hS => ?_)
    refine lv_aload_n hx hb dX6_through_51 rfl (lv_at hl 1 rfl) ?_
    refine lv_iload_n hx hb dX6_through_52 rfl (lv_at hl 2 rfl) ?_
    refine lv_aload_n hx hb dX6_through_53 rfl (lv_at hl 1 rfl) ?_
    refine lv_aload_n hx hb dX6_through_54 rfl (lv_at hl 1 rfl) ?_
    refine va_get (D := D) (ci := 6) (v := .ref aK) (C := RX6) (T := TX6) (N := 11) hx hb hts (fun w h => (List.mem_cons_of_mem _ (hinX6 w h))) hown hK hP 0 rfl rfl 4 (by decide) (hts _ (List.mem_cons_of_mem _ wd_193)) (fun _ h9 => h9) rfl dX6_through_55 ?_
    refine va_get (D := D) (ci := 0) (v := .ref aKb) (C := RX0) (T := TX0) (N := 8) hx hb hts (fun w h => (List.mem_cons_of_mem _ (hinX0 w h))) hown hK hP 6 rfl rfl 2 (by decide) (hts _ (List.mem_cons_of_mem _ wd_146)) (fun _ h9 => h9) rfl dX6_through_58 ?_
    refine lv_iload_n hx hb dX6_through_61 rfl (lv_at hl 2 rfl) ?_
    refine wk_iald hx hb hK hP 9 0 rfl rfl (by decide) (by omega) dX6_through_62 ?_
    have b8 := hkb bk
    refine pk_callI (va_runV (As := [.int (iI (kb bk))]) (rest := [.int (iI bk), .ref g]) ⟨hx, hb, hml, hown, hts⟩ (tX6_laneFor l D kI kZ kL kJ g aR aB aT aS aK aL aBs aBw aBd aBv a0 a1 a2 a0w a1w bv tm al lg tt dn bn n0 n1 (kb bk) H.size (by first | assumption | omega) (by first | assumption | omega) (by first | assumption | omega) (by first | assumption | omega)) (cwV 1 hts (gd_V tb_cons wd_544 wd_546 wd_14 wd_33 wd_547) rfl rfl rfl (by decide +kernel) ⟨Nat.le_of_ble_eq_true rfl, Nat.le_of_ble_eq_true rfl⟩) (ck_preV hxT hK hP hD [0, 1, 3, 13, 14, 15] rfl (by decide) (q0 := 0) rfl rfl rfl) rfl rfl hl.1 rfl (lv_room (Nat.le_of_ble_eq_true rfl)) dX6_through_63 ⟨Nat.zero_le _, Nat.zero_le _⟩) ?_
    refine wk_eqi (show iI (if bv ((kb bk) * 4 + 1) = 2 ∨ bv ((kb bk) * 4 + 2) = 2 then 2 else if n1 < n0 then 1 else 0) = iI 2 by rw [h3]) ?_
    refine ck_backV (va_runV (As := [.int (iI bk), .int (iI 2)]) (rest := []) ⟨hx, hb, hml, hown, hts⟩ (tX6_joinLane_2 l D kI kZ kL kJ g aR aB aT aS aK aL aKs aKt aKb aKz aKl aKc aKu a0 a1 a2 a2w kl w2 tm al lg tt dn kn n2 bk H.size (by first | assumption | omega) (by first | assumption | omega)) (cwV 2 hts (gd_V tb_cons wd_548 wd_550 wd_15 wd_33 wd_551) rfl rfl rfl (by decide +kernel) ⟨Nat.le_of_ble_eq_true rfl, Nat.le_of_ble_eq_true rfl⟩) (ck_preV hxT hK hP hD [0, 6, 12, 13, 16, 17] rfl (by decide) (q0 := 0) rfl rfl rfl) rfl rfl hl.1 rfl (lv_room (Nat.le_of_ble_eq_true rfl)) dX6_through_66 ⟨Nat.zero_le _, Nat.zero_le _⟩) hP hD hS hA [0, 6, 12, 13, 16, 17] [1, 2, 3, 4, 5, 7, 8, 9, 10, 11, 14, 15] (WR := [(aB, .inr (1, [.ref aBs, .ref aBw, .ref aBd, .ref aBv, .int (iI bn)])), (aBd, .inl (kZ, 20, .inl (iF bd))), (aBv, .inl (kI, 80, .inl (iF bv))), (aT, .inr (5, [.ref aTv])), (aTv, .inl (kI, 32, .inl (iF tv))), (aKs, .inl (kI, 61, .inl (iF ks))), (aKt, .inl (kI, 61, .inl (iF kt))), (aKb, .inl (kI, 61, .inl (iF kb))), (aKz, .inl (kI, 61, .inl (iF (iu kz bk 1)))), (aKc, .inl (kI, 61, .inl (iF (iu kc bk tm)))), (a0, .inr (2, [.ref a0w, .int (iI n0)])), (a1, .inr (2, [.ref a1w, .int (iI n1)]))]) rfl rfl (by decide) (by decide) (ws' := [(aB, .inr (1, [.ref aBs, .ref aBw, .ref aBd, .ref aBv, .int (iI bn)])), (aBd, .inl (kZ, 20, .inl (iF bd))), (aBv, .inl (kI, 80, .inl (iF bv))), (aT, .inr (5, [.ref aTv])), (aTv, .inl (kI, 32, .inl (iF tv))), (aKs, .inl (kI, 61, .inl (iF ks))), (aKt, .inl (kI, 61, .inl (iF kt))), (aKb, .inl (kI, 61, .inl (iF kb))), (aKz, .inl (kI, 61, .inl (iF (iu kz bk 1)))), (aKc, .inl (kI, 61, .inl (iF (iu kc bk tm)))), (a0, .inr (2, [.ref a0w, .int (iI n0)])), (a1, .inr (2, [.ref a1w, .int (iI n1)])), (g, .inr (6, [.ref aR, .ref aB, .ref aT, .ref aS, .ref aK, .ref aL, .int (iI tm), .int (iI al), .int (iI lg), .int (iI tt), .int (iI dn)])), (aK, .inr (0, [.ref aKs, .ref aKt, .ref aKb, .ref aKz, .ref aKl, .ref aKc, .ref aKu, .int (iI kn)])), (aKl, .inl (kI, 61, .inl (iF (iu kl bk 2)))), (aL, .inl (kL, 3, .inr (.inr (.inr (.inr (g3 a0 a1 a2)))))), (a2, .inr (2, [.ref a2w, .int (iI (n2 + 1))])), (a2w, .inl (kI, 16, .inl (iF (iu w2 n2 bk))))]) rfl (fun H locs hP hD hS => ?_)
    refine lv_iconst (v := iI 1) hx hb dX6_through_69 rfl ?_
    have hP := hP.sub (ws' := [(g, .inr (6, [.ref aR, .ref aB, .ref aT, .ref aS, .ref aK, .ref aL, .int (iI tm), .int (iI al), .int (iI lg), .int (iI tt), .int (iI dn)])), (aB, .inr (1, [.ref aBs, .ref aBw, .ref aBd, .ref aBv, .int (iI bn)])), (aBd, .inl (kZ, 20, .inl (iF bd))), (aBv, .inl (kI, 80, .inl (iF bv))), (aT, .inr (5, [.ref aTv])), (aTv, .inl (kI, 32, .inl (iF tv))), (aK, .inr (0, [.ref aKs, .ref aKt, .ref aKb, .ref aKz, .ref aKl, .ref aKc, .ref aKu, .int (iI kn)])), (aKs, .inl (kI, 61, .inl (iF ks))), (aKt, .inl (kI, 61, .inl (iF kt))), (aKb, .inl (kI, 61, .inl (iF kb))), (aKz, .inl (kI, 61, .inl (iF (iu kz bk 1)))), (aKc, .inl (kI, 61, .inl (iF (iu kc bk tm)))), (aKl, .inl (kI, 61, .inl (iF (iu kl bk 2)))), (aL, .inl (kL, 3, .inr (.inr (.inr (.inr (g3 a0 a1 a2)))))), (a0, .inr (2, [.ref a0w, .int (iI n0)])), (a1, .inr (2, [.ref a1w, .int (iI n1)])), (a2, .inr (2, [.ref a2w, .int (iI (n2 + 1))])), (a2w, .inl (kI, 16, .inl (iF (iu w2 n2 bk))))]) [12, 0, 1, 2, 3, 4, 13, 5, 6, 7, 8, 9, 14, 15, 10, 11, 16, 17] rfl
    have hD := hD.sub (ws' := [(g, .inr (6, [.ref aR, .ref aB, .ref aT, .ref aS, .ref aK, .ref aL, .int (iI tm), .int (iI al), .int (iI lg), .int (iI tt), .int (iI dn)])), (aB, .inr (1, [.ref aBs, .ref aBw, .ref aBd, .ref aBv, .int (iI bn)])), (aBd, .inl (kZ, 20, .inl (iF bd))), (aBv, .inl (kI, 80, .inl (iF bv))), (aT, .inr (5, [.ref aTv])), (aTv, .inl (kI, 32, .inl (iF tv))), (aK, .inr (0, [.ref aKs, .ref aKt, .ref aKb, .ref aKz, .ref aKl, .ref aKc, .ref aKu, .int (iI kn)])), (aKs, .inl (kI, 61, .inl (iF ks))), (aKt, .inl (kI, 61, .inl (iF kt))), (aKb, .inl (kI, 61, .inl (iF kb))), (aKz, .inl (kI, 61, .inl (iF (iu kz bk 1)))), (aKc, .inl (kI, 61, .inl (iF (iu kc bk tm)))), (aKl, .inl (kI, 61, .inl (iF (iu kl bk 2)))), (aL, .inl (kL, 3, .inr (.inr (.inr (.inr (g3 a0 a1 a2)))))), (a0, .inr (2, [.ref a0w, .int (iI n0)])), (a1, .inr (2, [.ref a1w, .int (iI n1)])), (a2, .inr (2, [.ref a2w, .int (iI (n2 + 1))])), (a2w, .inl (kI, 16, .inl (iF (iu w2 n2 bk))))]) [12, 0, 1, 2, 3, 4, 13, 5, 6, 7, 8, 9, 14, 15, 10, 11, 16, 17] (by decide) rfl
    exact rk_int hx hb hr hlocks hK hP hD hS (by first | rfl | omega) rfl dX6_through_70
  · skip
    exfalso; omega

set_option maxHeartbeats 4000000 in
set_option maxRecDepth 100000 in
theorem tX6_weigh_t1 (l : Launch) (D : va_G) (kI : ClassId) (kZ : ClassId) (kL : ClassId) (kJ : ClassId) (g : Nat) (aR : Nat) (aB : Nat) (aT : Nat) (aS : Nat) (aK : Nat) (aL : Nat) (nw : Int) (al : Int) (lg : Int) (tt : Int) (dn : Int) (ln : Int) (kg : Int) (tm : Int) (sz : Nat) (hfl : l.flags = pinnedFlags ++ [noTraceFlag]) (hln : -2147483648 ≤ ln ∧ ln ≤ 2147483647) (h1 : ¬ (0 ≤ ln ∧ ln < 3)) : CtT l yX6_weigh wsX6_weigh ({ frames := 6, cells := 1, slots := 6, locals := 82 }) D vwCl (tyL kI kZ kL kJ) [(g, .inr (6, [.ref aR, .ref aB, .ref aT, .ref aS, .ref aK, .ref aL, .int (iI nw), .int (iI al), .int (iI lg), .int (iI tt), .int (iI dn)]))] [.ref g, .int (iI ln), .int (iI kg), .int (iI tm)] "java/lang/IndexOutOfBoundsException" sz := by
  refine ct_start (cc := cX6_weigh) (maxL := 5) (ret := (some .int)) (LV := [(0, .ref g), (1, .int (iI ln)), (2, .int (iI kg)), (3, .int (iI tm))]) (by decide) rfl rfl (Nat.le_of_ble_eq_true rfl) ?_
  intro p e s m below meth cd hadm hx hb hr hml hts hown hlocks hname hnoh hxT hzT A hA hK hP hD hS ls hl
  refine lv_iload_n hx hb dX6_weigh_0 rfl (lv_at hl 1 rfl) ?_
  refine pk_callI (va_runS (As := [.int (iI ln)]) (rest := []) ⟨hx, hb, hml, hown, hts⟩ (tX6_isLane l D kI kZ kL kJ ln s.heap.size (by first | assumption | omega)) (cwS 1 hts (gd_S tb_cons wd_249 wd_250 wd_33 wd_251) rfl rfl rfl (by decide +kernel) ⟨Nat.le_of_ble_eq_true rfl, Nat.le_of_ble_eq_true rfl⟩) (ck_preS hxT hK hP hD [] rfl (by decide)) rfl rfl hl.1 rfl (lv_room (Nat.le_of_ble_eq_true rfl)) dX6_weigh_1 ⟨Nat.zero_le _, Nat.zero_le _⟩) ?_
  refine wk_bif_ne (tgt := 17) hx hb dX6_weigh_4 (by decide) (fun c_1 => ?_) (fun c_1 => ?_)
  · skip
    exfalso; omega
  · skip
    obtain ⟨q9, hZ9⟩ := xt_s195 hxT
    exact wt_new (names := exN) hx hb hown (Launch.traces_off hfl hadm) hlocks hnoh (hl.1.trans hml.symm) (by decide) (by decide) (ex_i (fun w h => hts w (List.mem_cons_of_mem _ h)) hzT hxT) (hts _ (List.mem_cons_of_mem _ wd_419)) (hts _ (List.mem_cons_of_mem _ wd_47)) hZ9 dX6_weigh_7 dX6_weigh_10 dX6_weigh_11 dX6_weigh_13 dX6_weigh_16 (Nat.le_of_ble_eq_true rfl) (Nat.le_of_ble_eq_true rfl) (Nat.le_of_ble_eq_true rfl) (Nat.le_of_ble_eq_true rfl)

set_option maxHeartbeats 4000000 in
set_option maxRecDepth 100000 in
theorem tX6_weigh_t2 (l : Launch) (D : va_G) (kI : ClassId) (kZ : ClassId) (kL : ClassId) (kJ : ClassId) (g : Nat) (aR : Nat) (aB : Nat) (aT : Nat) (aS : Nat) (aK : Nat) (aL : Nat) (nw : Int) (al : Int) (lg : Int) (tt : Int) (dn : Int) (ln : Int) (kg : Int) (tm : Int) (sz : Nat) (hfl : l.flags = pinnedFlags ++ [noTraceFlag]) (hln : 0 ≤ ln ∧ ln < 3) (hnw : 0 ≤ nw ∧ nw ≤ 100000) (htm : -2147483648 ≤ tm ∧ tm ≤ 2147483647) (h1 : ¬ (nw ≤ tm ∧ tm ≤ 100000)) : CtT l yX6_weigh wsX6_weigh ({ frames := 7, cells := 1, slots := 6, locals := 103 }) D vwCl (tyL kI kZ kL kJ) [(g, .inr (6, [.ref aR, .ref aB, .ref aT, .ref aS, .ref aK, .ref aL, .int (iI nw), .int (iI al), .int (iI lg), .int (iI tt), .int (iI dn)]))] [.ref g, .int (iI ln), .int (iI kg), .int (iI tm)] "java/lang/IllegalArgumentException" sz := by
  refine ct_start (cc := cX6_weigh) (maxL := 5) (ret := (some .int)) (LV := [(0, .ref g), (1, .int (iI ln)), (2, .int (iI kg)), (3, .int (iI tm))]) (by decide) rfl rfl (Nat.le_of_ble_eq_true rfl) ?_
  intro p e s m below meth cd hadm hx hb hr hml hts hown hlocks hname hnoh hxT hzT A hA hK hP hD hS ls hl
  refine lv_iload_n hx hb dX6_weigh_0 rfl (lv_at hl 1 rfl) ?_
  refine pk_callI (va_runS (As := [.int (iI ln)]) (rest := []) ⟨hx, hb, hml, hown, hts⟩ (tX6_isLane l D kI kZ kL kJ ln s.heap.size (by first | assumption | omega)) (cwS 1 hts (gd_S tb_cons wd_249 wd_250 wd_33 wd_251) rfl rfl rfl (by decide +kernel) ⟨Nat.le_of_ble_eq_true rfl, Nat.le_of_ble_eq_true rfl⟩) (ck_preS hxT hK hP hD [] rfl (by decide)) rfl rfl hl.1 rfl (lv_room (Nat.le_of_ble_eq_true rfl)) dX6_weigh_1 ⟨Nat.zero_le _, Nat.zero_le _⟩) ?_
  refine wk_bif_ne (tgt := 17) hx hb dX6_weigh_4 (by decide) (fun c_1 => ?_) (fun c_1 => ?_)
  · skip
    refine lv_aload_n hx hb dX6_weigh_17 rfl (lv_at hl 0 rfl) ?_
    refine lv_iload_n hx hb dX6_weigh_18 rfl (lv_at hl 3 rfl) ?_
    exact wt_leave (rest := []) (wt_runV (As := [.int (iI tm)]) (rest := []) ⟨hx, hb, hml, hown, hts⟩ (tX6_needTime_t l D kI kZ kL kJ g aR aB aT aS aK aL nw al lg tt dn tm s.heap.size hfl (by first | assumption | omega) (by first | assumption | omega) (by first | assumption | omega)) (cwV 1 hts (gd_V tb_cons wd_511 wd_513 wd_9 wd_33 wd_514) rfl rfl rfl (by decide +kernel) ⟨Nat.le_of_ble_eq_true rfl, Nat.le_of_ble_eq_true rfl⟩) (ck_preT hzT hxT hK hP hD [0] rfl (by decide) (q0 := 0) rfl rfl rfl) rfl rfl hl.1 rfl (lv_room (Nat.le_of_ble_eq_true rfl)) dX6_weigh_19 ⟨Nat.le_of_ble_eq_true rfl, Nat.le_of_ble_eq_true rfl⟩) hnoh hlocks
  · skip
    exfalso; omega

set_option maxHeartbeats 4000000 in
set_option maxRecDepth 100000 in
theorem tX6_weigh_t3 (l : Launch) (D : va_G) (kI : ClassId) (kZ : ClassId) (kL : ClassId) (kJ : ClassId) (g : Nat) (aR : Nat) (aB : Nat) (aT : Nat) (aS : Nat) (aK : Nat) (aL : Nat) (nw : Int) (al : Int) (lg : Int) (tt : Int) (dn : Int) (ln : Int) (kg : Int) (tm : Int) (sz : Nat) (hfl : l.flags = pinnedFlags ++ [noTraceFlag]) (hln : 0 ≤ ln ∧ ln < 3) (hnw : 0 ≤ nw ∧ nw ≤ 100000) (htm : nw ≤ tm ∧ tm ≤ 100000) (hkg : -2147483648 ≤ kg ∧ kg ≤ 2147483647) (h1 : ¬ (0 ≤ kg ∧ kg ≤ 200000)) : CtT l yX6_weigh wsX6_weigh ({ frames := 6, cells := 1, slots := 6, locals := 82 }) D vwCl (tyL kI kZ kL kJ) [(g, .inr (6, [.ref aR, .ref aB, .ref aT, .ref aS, .ref aK, .ref aL, .int (iI nw), .int (iI al), .int (iI lg), .int (iI tt), .int (iI dn)]))] [.ref g, .int (iI ln), .int (iI kg), .int (iI tm)] "java/lang/IllegalArgumentException" sz := by
  refine ct_start (cc := cX6_weigh) (maxL := 5) (ret := (some .int)) (LV := [(0, .ref g), (1, .int (iI ln)), (2, .int (iI kg)), (3, .int (iI tm))]) (by decide) rfl rfl (Nat.le_of_ble_eq_true rfl) ?_
  intro p e s m below meth cd hadm hx hb hr hml hts hown hlocks hname hnoh hxT hzT A hA hK hP hD hS ls hl
  refine lv_iload_n hx hb dX6_weigh_0 rfl (lv_at hl 1 rfl) ?_
  refine pk_callI (va_runS (As := [.int (iI ln)]) (rest := []) ⟨hx, hb, hml, hown, hts⟩ (tX6_isLane l D kI kZ kL kJ ln s.heap.size (by first | assumption | omega)) (cwS 1 hts (gd_S tb_cons wd_249 wd_250 wd_33 wd_251) rfl rfl rfl (by decide +kernel) ⟨Nat.le_of_ble_eq_true rfl, Nat.le_of_ble_eq_true rfl⟩) (ck_preS hxT hK hP hD [] rfl (by decide)) rfl rfl hl.1 rfl (lv_room (Nat.le_of_ble_eq_true rfl)) dX6_weigh_1 ⟨Nat.zero_le _, Nat.zero_le _⟩) ?_
  refine wk_bif_ne (tgt := 17) hx hb dX6_weigh_4 (by decide) (fun c_1 => ?_) (fun c_1 => ?_)
  · skip
    refine lv_aload_n hx hb dX6_weigh_17 rfl (lv_at hl 0 rfl) ?_
    refine lv_iload_n hx hb dX6_weigh_18 rfl (lv_at hl 3 rfl) ?_
    refine pk_callV (va_runV (As := [.int (iI tm)]) (rest := []) ⟨hx, hb, hml, hown, hts⟩ (tX6_needTime l D kI kZ kL kJ g aR aB aT aS aK aL nw al lg tt dn tm s.heap.size (by first | assumption | omega) (by first | assumption | omega)) (cwV 1 hts (gd_V tb_cons wd_511 wd_513 wd_9 wd_33 wd_514) rfl rfl rfl (by decide +kernel) ⟨Nat.le_of_ble_eq_true rfl, Nat.le_of_ble_eq_true rfl⟩) (ck_preV hxT hK hP hD [0] rfl (by decide) (q0 := 0) rfl rfl rfl) rfl rfl hl.1 rfl (lv_room (Nat.le_of_ble_eq_true rfl)) dX6_weigh_19 ⟨Nat.zero_le _, Nat.zero_le _⟩) ?_
    refine lv_iload_n hx hb dX6_weigh_22 rfl (lv_at hl 2 rfl) ?_
    refine wk_if_lt (tgt := 32) hx hb dX6_weigh_23 (by decide) (by omega) (fun c_2 => ?_) (fun c_2 => ?_)
    · skip
      obtain ⟨q9, hZ9⟩ := xt_s99 hxT
      exact wt_new (names := exN) hx hb hown (Launch.traces_off hfl hadm) hlocks hnoh (hl.1.trans hml.symm) (by decide) (by decide) (ex_a (fun w h => hts w (List.mem_cons_of_mem _ h)) hzT hxT) (hts _ (List.mem_cons_of_mem _ wd_280)) (hts _ (List.mem_cons_of_mem _ wd_45)) hZ9 dX6_weigh_32 dX6_weigh_35 dX6_weigh_36 dX6_weigh_38 dX6_weigh_41 (Nat.le_of_ble_eq_true rfl) (Nat.le_of_ble_eq_true rfl) (Nat.le_of_ble_eq_true rfl) (Nat.le_of_ble_eq_true rfl)
    · skip
      refine lv_iload_n hx hb dX6_weigh_26 rfl (lv_at hl 2 rfl) ?_
      refine lv_ldc (v := 200000) hx hb hown (hts _ (List.mem_cons_of_mem _ wd_564)) dX6_weigh_27 ?_
      refine wk_eqi (show (200000 : Int32) = iI 200000 by decide) ?_
      refine wk_icmp_le (tgt := 42) hx hb dX6_weigh_29 (by decide) (by omega) (fun c_3 => ?_) (fun c_3 => ?_)
      · skip
        exfalso; omega
      · skip
        obtain ⟨q9, hZ9⟩ := xt_s99 hxT
        exact wt_new (names := exN) hx hb hown (Launch.traces_off hfl hadm) hlocks hnoh (hl.1.trans hml.symm) (by decide) (by decide) (ex_a (fun w h => hts w (List.mem_cons_of_mem _ h)) hzT hxT) (hts _ (List.mem_cons_of_mem _ wd_280)) (hts _ (List.mem_cons_of_mem _ wd_45)) hZ9 dX6_weigh_32 dX6_weigh_35 dX6_weigh_36 dX6_weigh_38 dX6_weigh_41 (Nat.le_of_ble_eq_true rfl) (Nat.le_of_ble_eq_true rfl) (Nat.le_of_ble_eq_true rfl) (Nat.le_of_ble_eq_true rfl)
  · skip
    exfalso; omega

set_option maxHeartbeats 4000000 in
set_option maxRecDepth 100000 in
theorem tX6_weigh_e0 (l : Launch) (D : va_G) (kI : ClassId) (kZ : ClassId) (kL : ClassId) (kJ : ClassId) (g : Nat) (aR : Nat) (aB : Nat) (aT : Nat) (aS : Nat) (aK : Nat) (aL : Nat) (a0 : Nat) (a1 : Nat) (a2 : Nat) (a0w : Nat) (w0 : Int → Int) (nw : Int) (al : Int) (lg : Int) (tt : Int) (dn : Int) (n0 : Int) (kg : Int) (tm : Int) (sz : Nat) (hnw : 0 ≤ nw ∧ nw ≤ 100000) (htm : nw ≤ tm ∧ tm ≤ 100000) (hkg : 0 ≤ kg ∧ kg ≤ 200000) (hq : n0 = 0) : CtI l yX6_weigh wsX6_weigh ({ frames := 1, cells := 0, slots := 0, locals := 21 }) D vwCl (tyL kI kZ kL kJ) [(g, .inr (6, [.ref aR, .ref aB, .ref aT, .ref aS, .ref aK, .ref aL, .int (iI nw), .int (iI al), .int (iI lg), .int (iI tt), .int (iI dn)])), (aL, .inl (kL, 3, .inr (.inr (.inr (.inr (g3 a0 a1 a2)))))), (a0, .inr (2, [.ref a0w, .int (iI n0)])), (a0w, .inl (kI, 16, .inl (iF w0)))] [.ref g, .int (iI 0), .int (iI kg), .int (iI tm)] (iI 0) [(g, .inr (6, [.ref aR, .ref aB, .ref aT, .ref aS, .ref aK, .ref aL, .int (iI tm), .int (iI al), .int (iI lg), .int (iI tt), .int (iI dn)])), (aL, .inl (kL, 3, .inr (.inr (.inr (.inr (g3 a0 a1 a2)))))), (a0, .inr (2, [.ref a0w, .int (iI n0)])), (a0w, .inl (kI, 16, .inl (iF w0)))] sz := by
  refine ck_start (Qc := fun A => cQi D vwCl (tyL kI kZ kL kJ) A (iI 0) [(g, .inr (6, [.ref aR, .ref aB, .ref aT, .ref aS, .ref aK, .ref aL, .int (iI tm), .int (iI al), .int (iI lg), .int (iI tt), .int (iI dn)])), (aL, .inl (kL, 3, .inr (.inr (.inr (.inr (g3 a0 a1 a2)))))), (a0, .inr (2, [.ref a0w, .int (iI n0)])), (a0w, .inl (kI, 16, .inl (iF w0)))]) (cc := cX6_weigh) (maxL := 5) (ret := (some .int)) (LV := [(0, .ref g), (1, .int (iI 0)), (2, .int (iI kg)), (3, .int (iI tm))]) (by decide) rfl rfl (Nat.le_of_ble_eq_true rfl) ?_
  intro p e s m below meth cd hadm hx hb hr hml hts hown hlocks hname hnoh hxT A hA hK hP hD hS ls hl
  refine lv_iload_n hx hb dX6_weigh_0 rfl (lv_at hl 1 rfl) ?_
  refine pk_callI (va_runS (As := [.int (iI 0)]) (rest := []) ⟨hx, hb, hml, hown, hts⟩ (tX6_isLane l D kI kZ kL kJ 0 s.heap.size (by first | assumption | omega)) (cwS 1 hts (gd_S tb_cons wd_249 wd_250 wd_33 wd_251) rfl rfl rfl (by decide +kernel) ⟨Nat.le_of_ble_eq_true rfl, Nat.le_of_ble_eq_true rfl⟩) (ck_preS hxT hK hP hD [] rfl (by decide)) rfl rfl hl.1 rfl (lv_room (Nat.le_of_ble_eq_true rfl)) dX6_weigh_1 ⟨Nat.zero_le _, Nat.zero_le _⟩) ?_
  refine wk_bif_ne (tgt := 17) hx hb dX6_weigh_4 (by decide) (fun c_1 => ?_) (fun c_1 => ?_)
  · skip
    refine lv_aload_n hx hb dX6_weigh_17 rfl (lv_at hl 0 rfl) ?_
    refine lv_iload_n hx hb dX6_weigh_18 rfl (lv_at hl 3 rfl) ?_
    refine pk_callV (va_runV (As := [.int (iI tm)]) (rest := []) ⟨hx, hb, hml, hown, hts⟩ (tX6_needTime l D kI kZ kL kJ g aR aB aT aS aK aL nw al lg tt dn tm s.heap.size (by first | assumption | omega) (by first | assumption | omega)) (cwV 1 hts (gd_V tb_cons wd_511 wd_513 wd_9 wd_33 wd_514) rfl rfl rfl (by decide +kernel) ⟨Nat.le_of_ble_eq_true rfl, Nat.le_of_ble_eq_true rfl⟩) (ck_preV hxT hK hP hD [0] rfl (by decide) (q0 := 0) rfl rfl rfl) rfl rfl hl.1 rfl (lv_room (Nat.le_of_ble_eq_true rfl)) dX6_weigh_19 ⟨Nat.zero_le _, Nat.zero_le _⟩) ?_
    refine lv_iload_n hx hb dX6_weigh_22 rfl (lv_at hl 2 rfl) ?_
    refine wk_if_lt (tgt := 32) hx hb dX6_weigh_23 (by decide) (by omega) (fun c_2 => ?_) (fun c_2 => ?_)
    · skip
      exfalso; omega
    · skip
      refine lv_iload_n hx hb dX6_weigh_26 rfl (lv_at hl 2 rfl) ?_
      refine lv_ldc (v := 200000) hx hb hown (hts _ (List.mem_cons_of_mem _ wd_564)) dX6_weigh_27 ?_
      refine wk_eqi (show (200000 : Int32) = iI 200000 by decide) ?_
      refine wk_icmp_le (tgt := 42) hx hb dX6_weigh_29 (by decide) (by omega) (fun c_3 => ?_) (fun c_3 => ?_)
      · skip
        refine lv_aload_n hx hb dX6_weigh_42 rfl (lv_at hl 0 rfl) ?_
        refine lv_iload_n hx hb dX6_weigh_43 rfl (lv_at hl 3 rfl) ?_
        refine wk_put (ci := 6) (C := RX6) (T := TX6) (N := 11) hx hb hts (fun w h => (List.mem_cons_of_mem _ (hinX6 w h))) tyX6 tyX6_ok nmX6 hown hK hP hD hS 0 rfl rfl 6 (by decide) (hts _ (List.mem_cons_of_mem _ wd_195)) (fun _ h9 => h9) rfl rfl (Nat.le_of_ble_eq_true rfl) dX6_weigh_44 (ws' := [(g, .inr (6, [.ref aR, .ref aB, .ref aT, .ref aS, .ref aK, .ref aL, .int (iI tm), .int (iI al), .int (iI lg), .int (iI tt), .int (iI dn)])), (aL, .inl (kL, 3, .inr (.inr (.inr (.inr (g3 a0 a1 a2)))))), (a0, .inr (2, [.ref a0w, .int (iI n0)])), (a0w, .inl (kI, 16, .inl (iF w0)))]) rfl (fun H locs hP hD hS => ?_)
        refine lv_aload_n hx hb dX6_weigh_47 rfl (lv_at hl 0 rfl) ?_
        refine va_get (D := D) (ci := 6) (v := .ref aL) (C := RX6) (T := TX6) (N := 11) hx hb hts (fun w h => (List.mem_cons_of_mem _ (hinX6 w h))) hown hK hP 0 rfl rfl 5 (by decide) (hts _ (List.mem_cons_of_mem _ wd_194)) (fun _ h9 => h9) rfl dX6_weigh_48 ?_
        refine lv_iload_n hx hb dX6_weigh_51 rfl (lv_at hl 1 rfl) ?_
        refine wk_aald (y := a0) hx hb hK hP 1 2 rfl rfl (by decide) (by decide) rfl dX6_weigh_52 ?_
        refine lv_iconst (v := iI 0) hx hb dX6_weigh_53 rfl ?_
        refine pk_callI (va_runV (As := [.int (iI 0)]) (rest := []) ⟨hx, hb, hml, hown, hts⟩ (tX2_bookingAt l D kI kZ kL kJ a0 a0w w0 n0 0 H.size (by first | assumption | omega) (by first | assumption | omega)) (cwV 1 hts (gd_V tb_cons wd_252 wd_253 wd_254 wd_40 wd_255) rfl rfl rfl (by decide +kernel) ⟨Nat.le_of_ble_eq_true rfl, Nat.le_of_ble_eq_true rfl⟩) (ck_preV hxT hK hP hD [2, 3] rfl (by decide) (q0 := 0) rfl rfl rfl) rfl rfl hl.1 rfl (lv_room (Nat.le_of_ble_eq_true rfl)) dX6_weigh_54 ⟨Nat.zero_le _, Nat.zero_le _⟩) ?_
        refine wk_eqi (show iI (if 0 ≤ 0 ∧ 0 < n0 then w0 0 else -1) = iI (-1) by rw [if_neg (by omega)]) ?_
        refine lv_istore (lv' := [(4, .int (iI (-1))), (0, .ref g), (1, .int (iI 0)), (2, .int (iI kg)), (3, .int (iI tm))]) hx hb dX6_weigh_57 hl (by decide) rfl (fun ls hl => ?_)
        refine lv_iload hx hb dX6_weigh_59 (lv_at hl 0 rfl) ?_
        refine lv_iconst (v := iI (-1)) hx hb dX6_weigh_61 rfl ?_
        refine wk_icmp_ne (tgt := 67) hx hb dX6_weigh_62 (by decide) (by omega) (fun c_4 => ?_) (fun c_4 => ?_)
        · skip
          exfalso; omega
        · skip
          refine lv_iconst (v := iI 0) hx hb dX6_weigh_65 rfl ?_
          exact rk_int hx hb hr hlocks hK hP hD hS (by first | rfl | omega) rfl dX6_weigh_66
      · skip
        exfalso; omega
  · skip
    exfalso; omega

set_option maxHeartbeats 4000000 in
set_option maxRecDepth 100000 in
theorem tX6_weigh_d0 (l : Launch) (D : va_G) (kI : ClassId) (kZ : ClassId) (kL : ClassId) (kJ : ClassId) (g : Nat) (aR : Nat) (aB : Nat) (aT : Nat) (aS : Nat) (aK : Nat) (aL : Nat) (a0 : Nat) (a1 : Nat) (a2 : Nat) (a0w : Nat) (aBs : Nat) (aBw : Nat) (aBd : Nat) (aBv : Nat) (aKs : Nat) (aKt : Nat) (aKb : Nat) (aKz : Nat) (aKl : Nat) (aKc : Nat) (aKu : Nat) (w0 : Int → Int) (bw : Int → Int) (kb : Int → Int) (kc : Int → Int) (kz : Int → Int) (ku : Int → Int) (nw : Int) (al : Int) (lg : Int) (tt : Int) (dn : Int) (n0 : Int) (bn : Int) (kn : Int) (kg : Int) (tm : Int) (sz : Nat) (hnw : 0 ≤ nw ∧ nw ≤ 100000) (htm : nw ≤ tm ∧ tm ≤ 100000) (hkg : 0 ≤ kg ∧ kg ≤ 200000) (hq : 0 < n0 ∧ n0 ≤ 16) (hw0 : ∀ j, 0 ≤ w0 j ∧ w0 j ≤ 1000000) (hF : 1 ≤ w0 0 ∧ w0 0 ≤ 60) (hlg : 0 ≤ lg ∧ lg ≤ 100000) (hkc : ∀ j, 0 ≤ kc j ∧ kc j ≤ 1000000) (hal : 0 ≤ al ∧ al ≤ 1000) (hbw : ∀ j, 0 ≤ bw j ∧ bw j ≤ 100000) (hkb : ∀ j, 0 ≤ kb j ∧ kb j < 20) (hW : (if 0 ≤ kg - bw (kb (w0 0)) then kg - bw (kb (w0 0)) else 0 - (kg - bw (kb (w0 0)))) * 1000 ≤ bw (kb (w0 0)) * al) : CtI l yX6_weigh wsX6_weigh ({ frames := 2, cells := 0, slots := 0, locals := 36 }) D vwCl (tyL kI kZ kL kJ) [(g, .inr (6, [.ref aR, .ref aB, .ref aT, .ref aS, .ref aK, .ref aL, .int (iI nw), .int (iI al), .int (iI lg), .int (iI tt), .int (iI dn)])), (aL, .inl (kL, 3, .inr (.inr (.inr (.inr (g3 a0 a1 a2)))))), (a0, .inr (2, [.ref a0w, .int (iI n0)])), (a0w, .inl (kI, 16, .inl (iF w0))), (aB, .inr (1, [.ref aBs, .ref aBw, .ref aBd, .ref aBv, .int (iI bn)])), (aBw, .inl (kI, 20, .inl (iF bw))), (aK, .inr (0, [.ref aKs, .ref aKt, .ref aKb, .ref aKz, .ref aKl, .ref aKc, .ref aKu, .int (iI kn)])), (aKb, .inl (kI, 61, .inl (iF kb))), (aKc, .inl (kI, 61, .inl (iF kc))), (aKz, .inl (kI, 61, .inl (iF kz))), (aKu, .inl (kI, 61, .inl (iF ku)))] [.ref g, .int (iI 0), .int (iI kg), .int (iI tm)] (iI (w0 0)) [(g, .inr (6, [.ref aR, .ref aB, .ref aT, .ref aS, .ref aK, .ref aL, .int (iI tm), .int (iI al), .int (iI (max lg (tm - kc (w0 0)))), .int (iI (tt + (tm - kc (w0 0)))), .int (iI (dn + 1))])), (aL, .inl (kL, 3, .inr (.inr (.inr (.inr (g3 a0 a1 a2)))))), (a0, .inr (2, [.ref a0w, .int (iI ((rmL (w0 0) n0 (n0 - 0).toNat 0 0 w0).2))])), (a0w, .inl (kI, 16, .inl (iF ((rmL (w0 0) n0 (n0 - 0).toNat 0 0 w0).1)))), (aB, .inr (1, [.ref aBs, .ref aBw, .ref aBd, .ref aBv, .int (iI bn)])), (aBw, .inl (kI, 20, .inl (iF bw))), (aK, .inr (0, [.ref aKs, .ref aKt, .ref aKb, .ref aKz, .ref aKl, .ref aKc, .ref aKu, .int (iI kn)])), (aKb, .inl (kI, 61, .inl (iF kb))), (aKc, .inl (kI, 61, .inl (iF kc))), (aKz, .inl (kI, 61, .inl (iF (iu kz (w0 0) 2)))), (aKu, .inl (kI, 61, .inl (iF (iu ku (w0 0) (tm - kc (w0 0))))))] sz := by
  refine ck_start (Qc := fun A => cQi D vwCl (tyL kI kZ kL kJ) A (iI (w0 0)) [(g, .inr (6, [.ref aR, .ref aB, .ref aT, .ref aS, .ref aK, .ref aL, .int (iI tm), .int (iI al), .int (iI (max lg (tm - kc (w0 0)))), .int (iI (tt + (tm - kc (w0 0)))), .int (iI (dn + 1))])), (aL, .inl (kL, 3, .inr (.inr (.inr (.inr (g3 a0 a1 a2)))))), (a0, .inr (2, [.ref a0w, .int (iI ((rmL (w0 0) n0 (n0 - 0).toNat 0 0 w0).2))])), (a0w, .inl (kI, 16, .inl (iF ((rmL (w0 0) n0 (n0 - 0).toNat 0 0 w0).1)))), (aB, .inr (1, [.ref aBs, .ref aBw, .ref aBd, .ref aBv, .int (iI bn)])), (aBw, .inl (kI, 20, .inl (iF bw))), (aK, .inr (0, [.ref aKs, .ref aKt, .ref aKb, .ref aKz, .ref aKl, .ref aKc, .ref aKu, .int (iI kn)])), (aKb, .inl (kI, 61, .inl (iF kb))), (aKc, .inl (kI, 61, .inl (iF kc))), (aKz, .inl (kI, 61, .inl (iF (iu kz (w0 0) 2)))), (aKu, .inl (kI, 61, .inl (iF (iu ku (w0 0) (tm - kc (w0 0))))))]) (cc := cX6_weigh) (maxL := 5) (ret := (some .int)) (LV := [(0, .ref g), (1, .int (iI 0)), (2, .int (iI kg)), (3, .int (iI tm))]) (by decide) rfl rfl (Nat.le_of_ble_eq_true rfl) ?_
  intro p e s m below meth cd hadm hx hb hr hml hts hown hlocks hname hnoh hxT A hA hK hP hD hS ls hl
  refine lv_iload_n hx hb dX6_weigh_0 rfl (lv_at hl 1 rfl) ?_
  refine pk_callI (va_runS (As := [.int (iI 0)]) (rest := []) ⟨hx, hb, hml, hown, hts⟩ (tX6_isLane l D kI kZ kL kJ 0 s.heap.size (by first | assumption | omega)) (cwS 1 hts (gd_S tb_cons wd_249 wd_250 wd_33 wd_251) rfl rfl rfl (by decide +kernel) ⟨Nat.le_of_ble_eq_true rfl, Nat.le_of_ble_eq_true rfl⟩) (ck_preS hxT hK hP hD [] rfl (by decide)) rfl rfl hl.1 rfl (lv_room (Nat.le_of_ble_eq_true rfl)) dX6_weigh_1 ⟨Nat.zero_le _, Nat.zero_le _⟩) ?_
  refine wk_bif_ne (tgt := 17) hx hb dX6_weigh_4 (by decide) (fun c_1 => ?_) (fun c_1 => ?_)
  · skip
    refine lv_aload_n hx hb dX6_weigh_17 rfl (lv_at hl 0 rfl) ?_
    refine lv_iload_n hx hb dX6_weigh_18 rfl (lv_at hl 3 rfl) ?_
    refine pk_callV (va_runV (As := [.int (iI tm)]) (rest := []) ⟨hx, hb, hml, hown, hts⟩ (tX6_needTime l D kI kZ kL kJ g aR aB aT aS aK aL nw al lg tt dn tm s.heap.size (by first | assumption | omega) (by first | assumption | omega)) (cwV 1 hts (gd_V tb_cons wd_511 wd_513 wd_9 wd_33 wd_514) rfl rfl rfl (by decide +kernel) ⟨Nat.le_of_ble_eq_true rfl, Nat.le_of_ble_eq_true rfl⟩) (ck_preV hxT hK hP hD [0] rfl (by decide) (q0 := 0) rfl rfl rfl) rfl rfl hl.1 rfl (lv_room (Nat.le_of_ble_eq_true rfl)) dX6_weigh_19 ⟨Nat.zero_le _, Nat.zero_le _⟩) ?_
    refine lv_iload_n hx hb dX6_weigh_22 rfl (lv_at hl 2 rfl) ?_
    refine wk_if_lt (tgt := 32) hx hb dX6_weigh_23 (by decide) (by omega) (fun c_2 => ?_) (fun c_2 => ?_)
    · skip
      exfalso; omega
    · skip
      refine lv_iload_n hx hb dX6_weigh_26 rfl (lv_at hl 2 rfl) ?_
      refine lv_ldc (v := 200000) hx hb hown (hts _ (List.mem_cons_of_mem _ wd_564)) dX6_weigh_27 ?_
      refine wk_eqi (show (200000 : Int32) = iI 200000 by decide) ?_
      refine wk_icmp_le (tgt := 42) hx hb dX6_weigh_29 (by decide) (by omega) (fun c_3 => ?_) (fun c_3 => ?_)
      · skip
        refine lv_aload_n hx hb dX6_weigh_42 rfl (lv_at hl 0 rfl) ?_
        refine lv_iload_n hx hb dX6_weigh_43 rfl (lv_at hl 3 rfl) ?_
        refine wk_put (ci := 6) (C := RX6) (T := TX6) (N := 11) hx hb hts (fun w h => (List.mem_cons_of_mem _ (hinX6 w h))) tyX6 tyX6_ok nmX6 hown hK hP hD hS 0 rfl rfl 6 (by decide) (hts _ (List.mem_cons_of_mem _ wd_195)) (fun _ h9 => h9) rfl rfl (Nat.le_of_ble_eq_true rfl) dX6_weigh_44 (ws' := [(g, .inr (6, [.ref aR, .ref aB, .ref aT, .ref aS, .ref aK, .ref aL, .int (iI tm), .int (iI al), .int (iI lg), .int (iI tt), .int (iI dn)])), (aL, .inl (kL, 3, .inr (.inr (.inr (.inr (g3 a0 a1 a2)))))), (a0, .inr (2, [.ref a0w, .int (iI n0)])), (a0w, .inl (kI, 16, .inl (iF w0))), (aB, .inr (1, [.ref aBs, .ref aBw, .ref aBd, .ref aBv, .int (iI bn)])), (aBw, .inl (kI, 20, .inl (iF bw))), (aK, .inr (0, [.ref aKs, .ref aKt, .ref aKb, .ref aKz, .ref aKl, .ref aKc, .ref aKu, .int (iI kn)])), (aKb, .inl (kI, 61, .inl (iF kb))), (aKc, .inl (kI, 61, .inl (iF kc))), (aKz, .inl (kI, 61, .inl (iF kz))), (aKu, .inl (kI, 61, .inl (iF ku)))]) rfl (fun H locs hP hD hS => ?_)
        refine lv_aload_n hx hb dX6_weigh_47 rfl (lv_at hl 0 rfl) ?_
        refine va_get (D := D) (ci := 6) (v := .ref aL) (C := RX6) (T := TX6) (N := 11) hx hb hts (fun w h => (List.mem_cons_of_mem _ (hinX6 w h))) hown hK hP 0 rfl rfl 5 (by decide) (hts _ (List.mem_cons_of_mem _ wd_194)) (fun _ h9 => h9) rfl dX6_weigh_48 ?_
        refine lv_iload_n hx hb dX6_weigh_51 rfl (lv_at hl 1 rfl) ?_
        refine wk_aald (y := a0) hx hb hK hP 1 2 rfl rfl (by decide) (by decide) rfl dX6_weigh_52 ?_
        refine lv_iconst (v := iI 0) hx hb dX6_weigh_53 rfl ?_
        refine pk_callI (va_runV (As := [.int (iI 0)]) (rest := []) ⟨hx, hb, hml, hown, hts⟩ (tX2_bookingAt l D kI kZ kL kJ a0 a0w w0 n0 0 H.size (by first | assumption | omega) (by first | assumption | omega)) (cwV 1 hts (gd_V tb_cons wd_252 wd_253 wd_254 wd_40 wd_255) rfl rfl rfl (by decide +kernel) ⟨Nat.le_of_ble_eq_true rfl, Nat.le_of_ble_eq_true rfl⟩) (ck_preV hxT hK hP hD [2, 3] rfl (by decide) (q0 := 0) rfl rfl rfl) rfl rfl hl.1 rfl (lv_room (Nat.le_of_ble_eq_true rfl)) dX6_weigh_54 ⟨Nat.zero_le _, Nat.zero_le _⟩) ?_
        refine wk_eqi (show iI (if 0 ≤ 0 ∧ 0 < n0 then w0 0 else -1) = iI (w0 0) by rw [if_pos (by omega)]) ?_
        refine lv_istore (lv' := [(4, .int (iI (w0 0))), (0, .ref g), (1, .int (iI 0)), (2, .int (iI kg)), (3, .int (iI tm))]) hx hb dX6_weigh_57 hl (by decide) rfl (fun ls hl => ?_)
        refine lv_iload hx hb dX6_weigh_59 (lv_at hl 0 rfl) ?_
        refine lv_iconst (v := iI (-1)) hx hb dX6_weigh_61 rfl ?_
        refine wk_icmp_ne (tgt := 67) hx hb dX6_weigh_62 (by decide) (by omega) (fun c_4 => ?_) (fun c_4 => ?_)
        · skip
          refine lv_aload_n hx hb dX6_weigh_67 rfl (lv_at hl 1 rfl) ?_
          refine va_get (D := D) (ci := 6) (v := .ref aL) (C := RX6) (T := TX6) (N := 11) hx hb hts (fun w h => (List.mem_cons_of_mem _ (hinX6 w h))) hown hK hP 0 rfl rfl 5 (by decide) (hts _ (List.mem_cons_of_mem _ wd_194)) (fun _ h9 => h9) rfl dX6_weigh_68 ?_
          refine lv_iload_n hx hb dX6_weigh_71 rfl (lv_at hl 2 rfl) ?_
          refine wk_aald (y := a0) hx hb hK hP 1 2 rfl rfl (by decide) (by decide) rfl dX6_weigh_72 ?_
          refine lv_iload hx hb dX6_weigh_73 (lv_at hl 0 rfl) ?_
          refine ck_backV (va_runV (As := [.int (iI (w0 0))]) (rest := []) ⟨hx, hb, hml, hown, hts⟩ (tX2_remove l D kI kZ kL kJ a0 a0w w0 n0 (w0 0) H.size (by first | assumption | omega) (by first | assumption | omega) (by first | assumption | omega)) (cwV 1 hts (gd_V tb_cons wd_457 wd_458 wd_459 wd_40 wd_460) rfl rfl rfl (by decide +kernel) ⟨Nat.le_of_ble_eq_true rfl, Nat.le_of_ble_eq_true rfl⟩) (ck_preV hxT hK hP hD [2, 3] rfl (by decide) (q0 := 0) rfl rfl rfl) rfl rfl hl.1 rfl (lv_room (Nat.le_of_ble_eq_true rfl)) dX6_weigh_75 ⟨Nat.zero_le _, Nat.zero_le _⟩) hP hD hS hA [2, 3] [0, 1, 4, 5, 6, 7, 8, 9, 10] (WR := [(g, .inr (6, [.ref aR, .ref aB, .ref aT, .ref aS, .ref aK, .ref aL, .int (iI tm), .int (iI al), .int (iI lg), .int (iI tt), .int (iI dn)])), (aL, .inl (kL, 3, .inr (.inr (.inr (.inr (g3 a0 a1 a2)))))), (aB, .inr (1, [.ref aBs, .ref aBw, .ref aBd, .ref aBv, .int (iI bn)])), (aBw, .inl (kI, 20, .inl (iF bw))), (aK, .inr (0, [.ref aKs, .ref aKt, .ref aKb, .ref aKz, .ref aKl, .ref aKc, .ref aKu, .int (iI kn)])), (aKb, .inl (kI, 61, .inl (iF kb))), (aKc, .inl (kI, 61, .inl (iF kc))), (aKz, .inl (kI, 61, .inl (iF kz))), (aKu, .inl (kI, 61, .inl (iF ku)))]) rfl rfl (by decide) (by decide) (ws' := [(g, .inr (6, [.ref aR, .ref aB, .ref aT, .ref aS, .ref aK, .ref aL, .int (iI tm), .int (iI al), .int (iI lg), .int (iI tt), .int (iI dn)])), (aL, .inl (kL, 3, .inr (.inr (.inr (.inr (g3 a0 a1 a2)))))), (aB, .inr (1, [.ref aBs, .ref aBw, .ref aBd, .ref aBv, .int (iI bn)])), (aBw, .inl (kI, 20, .inl (iF bw))), (aK, .inr (0, [.ref aKs, .ref aKt, .ref aKb, .ref aKz, .ref aKl, .ref aKc, .ref aKu, .int (iI kn)])), (aKb, .inl (kI, 61, .inl (iF kb))), (aKc, .inl (kI, 61, .inl (iF kc))), (aKz, .inl (kI, 61, .inl (iF kz))), (aKu, .inl (kI, 61, .inl (iF ku))), (a0, .inr (2, [.ref a0w, .int (iI ((rmL (w0 0) n0 (n0 - 0).toNat 0 0 w0).2))])), (a0w, .inl (kI, 16, .inl (iF ((rmL (w0 0) n0 (n0 - 0).toNat 0 0 w0).1))))]) rfl (fun H locs hP hD hS => ?_)
          refine lv_iload_n hx hb dX6_weigh_78 rfl (lv_at hl 2 rfl) ?_
          refine lv_iconst (v := iI 2) hx hb dX6_weigh_79 rfl ?_
          refine wk_icmp_eq (tgt := 101) hx hb dX6_weigh_80 (by decide) (by omega) (fun c_5 => ?_) (fun c_5 => ?_)
          · skip
            exfalso; omega
          · skip
            refine lv_aload_n hx hb dX6_weigh_83 rfl (lv_at hl 1 rfl) ?_
            refine lv_aload_n hx hb dX6_weigh_84 rfl (lv_at hl 1 rfl) ?_
            refine va_get (D := D) (ci := 6) (v := .ref aK) (C := RX6) (T := TX6) (N := 11) hx hb hts (fun w h => (List.mem_cons_of_mem _ (hinX6 w h))) hown hK hP 0 rfl rfl 4 (by decide) (hts _ (List.mem_cons_of_mem _ wd_193)) (fun _ h9 => h9) rfl dX6_weigh_85 ?_
            refine va_get (D := D) (ci := 0) (v := .ref aKb) (C := RX0) (T := TX0) (N := 8) hx hb hts (fun w h => (List.mem_cons_of_mem _ (hinX0 w h))) hown hK hP 4 rfl rfl 2 (by decide) (hts _ (List.mem_cons_of_mem _ wd_146)) (fun _ h9 => h9) rfl dX6_weigh_88 ?_
            refine lv_iload hx hb dX6_weigh_91 (lv_at hl 0 rfl) ?_
            refine wk_iald hx hb hK hP 5 0 rfl rfl (by decide) (by omega) dX6_weigh_93 ?_
            have b8 := hkb (w0 0)
            refine lv_iload_n hx hb dX6_weigh_94 rfl (lv_at hl 3 rfl) ?_
            refine pk_callI (va_runV (As := [.int (iI (kb (w0 0))), .int (iI kg)]) (rest := []) ⟨hx, hb, hml, hown, hts⟩ (tX6_isWithinTolerance l D kI kZ kL kJ g aR aB aT aS aK aL aBs aBw aBd aBv bw tm al lg tt dn bn (kb (w0 0)) kg H.size (by first | assumption | omega) (by first | assumption | omega) (by first | assumption | omega) (by first | assumption | omega)) (cwV 2 hts (gd_V tb_cons wd_565 wd_567 wd_16 wd_33 wd_568) rfl rfl rfl (by decide +kernel) ⟨Nat.le_of_ble_eq_true rfl, Nat.le_of_ble_eq_true rfl⟩) (ck_preV hxT hK hP hD [0, 2, 3] rfl (by decide) (q0 := 0) rfl rfl rfl) rfl rfl hl.1 rfl (lv_room (Nat.le_of_ble_eq_true rfl)) dX6_weigh_95 ⟨Nat.zero_le _, Nat.zero_le _⟩) ?_
            refine wk_bif_eq (tgt := 110) hx hb dX6_weigh_98 (by decide) (fun c_6 => ?_) (fun c_6 => ?_)
            · skip
              contradiction
            · skip
              refine lv_aload_n hx hb dX6_weigh_101 rfl (lv_at hl 1 rfl) ?_
              refine lv_iload hx hb dX6_weigh_102 (lv_at hl 0 rfl) ?_
              refine ck_backV (va_runV (As := [.int (iI (w0 0))]) (rest := []) ⟨hx, hb, hml, hown, hts⟩ (tX6_finish l D kI kZ kL kJ g aR aB aT aS aK aL aKs aKt aKb aKz aKl aKc aKu kc kz ku tm al lg tt dn kn (w0 0) H.size (by first | assumption | omega) (by first | assumption | omega) (by first | assumption | omega) (by first | assumption | omega)) (cwV 1 hts (gd_V tb_cons wd_572 wd_574 wd_17 wd_33 wd_575) rfl rfl rfl (by decide +kernel) ⟨Nat.le_of_ble_eq_true rfl, Nat.le_of_ble_eq_true rfl⟩) (ck_preV hxT hK hP hD [0, 4, 6, 7, 8] rfl (by decide) (q0 := 0) rfl rfl rfl) rfl rfl hl.1 rfl (lv_room (Nat.le_of_ble_eq_true rfl)) dX6_weigh_104 ⟨Nat.zero_le _, Nat.zero_le _⟩) hP hD hS hA [0, 4, 6, 7, 8] [1, 2, 3, 5, 9, 10] (WR := [(aL, .inl (kL, 3, .inr (.inr (.inr (.inr (g3 a0 a1 a2)))))), (aB, .inr (1, [.ref aBs, .ref aBw, .ref aBd, .ref aBv, .int (iI bn)])), (aBw, .inl (kI, 20, .inl (iF bw))), (aKb, .inl (kI, 61, .inl (iF kb))), (a0, .inr (2, [.ref a0w, .int (iI ((rmL (w0 0) n0 (n0 - 0).toNat 0 0 w0).2))])), (a0w, .inl (kI, 16, .inl (iF ((rmL (w0 0) n0 (n0 - 0).toNat 0 0 w0).1))))]) rfl rfl (by decide) (by decide) (ws' := [(aL, .inl (kL, 3, .inr (.inr (.inr (.inr (g3 a0 a1 a2)))))), (aB, .inr (1, [.ref aBs, .ref aBw, .ref aBd, .ref aBv, .int (iI bn)])), (aBw, .inl (kI, 20, .inl (iF bw))), (aKb, .inl (kI, 61, .inl (iF kb))), (a0, .inr (2, [.ref a0w, .int (iI ((rmL (w0 0) n0 (n0 - 0).toNat 0 0 w0).2))])), (a0w, .inl (kI, 16, .inl (iF ((rmL (w0 0) n0 (n0 - 0).toNat 0 0 w0).1)))), (g, .inr (6, [.ref aR, .ref aB, .ref aT, .ref aS, .ref aK, .ref aL, .int (iI tm), .int (iI al), .int (iI (max lg (tm - kc (w0 0)))), .int (iI (tt + (tm - kc (w0 0)))), .int (iI (dn + 1))])), (aK, .inr (0, [.ref aKs, .ref aKt, .ref aKb, .ref aKz, .ref aKl, .ref aKc, .ref aKu, .int (iI kn)])), (aKc, .inl (kI, 61, .inl (iF kc))), (aKz, .inl (kI, 61, .inl (iF (iu kz (w0 0) 2)))), (aKu, .inl (kI, 61, .inl (iF (iu ku (w0 0) (tm - kc (w0 0))))))]) rfl (fun H locs hP hD hS => ?_)
              refine lv_iload hx hb dX6_weigh_107 (lv_at hl 0 rfl) ?_
              have hP := hP.sub (ws' := [(g, .inr (6, [.ref aR, .ref aB, .ref aT, .ref aS, .ref aK, .ref aL, .int (iI tm), .int (iI al), .int (iI (max lg (tm - kc (w0 0)))), .int (iI (tt + (tm - kc (w0 0)))), .int (iI (dn + 1))])), (aL, .inl (kL, 3, .inr (.inr (.inr (.inr (g3 a0 a1 a2)))))), (a0, .inr (2, [.ref a0w, .int (iI ((rmL (w0 0) n0 (n0 - 0).toNat 0 0 w0).2))])), (a0w, .inl (kI, 16, .inl (iF ((rmL (w0 0) n0 (n0 - 0).toNat 0 0 w0).1)))), (aB, .inr (1, [.ref aBs, .ref aBw, .ref aBd, .ref aBv, .int (iI bn)])), (aBw, .inl (kI, 20, .inl (iF bw))), (aK, .inr (0, [.ref aKs, .ref aKt, .ref aKb, .ref aKz, .ref aKl, .ref aKc, .ref aKu, .int (iI kn)])), (aKb, .inl (kI, 61, .inl (iF kb))), (aKc, .inl (kI, 61, .inl (iF kc))), (aKz, .inl (kI, 61, .inl (iF (iu kz (w0 0) 2)))), (aKu, .inl (kI, 61, .inl (iF (iu ku (w0 0) (tm - kc (w0 0))))))]) [6, 0, 4, 5, 1, 2, 7, 3, 8, 9, 10] rfl
              have hD := hD.sub (ws' := [(g, .inr (6, [.ref aR, .ref aB, .ref aT, .ref aS, .ref aK, .ref aL, .int (iI tm), .int (iI al), .int (iI (max lg (tm - kc (w0 0)))), .int (iI (tt + (tm - kc (w0 0)))), .int (iI (dn + 1))])), (aL, .inl (kL, 3, .inr (.inr (.inr (.inr (g3 a0 a1 a2)))))), (a0, .inr (2, [.ref a0w, .int (iI ((rmL (w0 0) n0 (n0 - 0).toNat 0 0 w0).2))])), (a0w, .inl (kI, 16, .inl (iF ((rmL (w0 0) n0 (n0 - 0).toNat 0 0 w0).1)))), (aB, .inr (1, [.ref aBs, .ref aBw, .ref aBd, .ref aBv, .int (iI bn)])), (aBw, .inl (kI, 20, .inl (iF bw))), (aK, .inr (0, [.ref aKs, .ref aKt, .ref aKb, .ref aKz, .ref aKl, .ref aKc, .ref aKu, .int (iI kn)])), (aKb, .inl (kI, 61, .inl (iF kb))), (aKc, .inl (kI, 61, .inl (iF kc))), (aKz, .inl (kI, 61, .inl (iF (iu kz (w0 0) 2)))), (aKu, .inl (kI, 61, .inl (iF (iu ku (w0 0) (tm - kc (w0 0))))))]) [6, 0, 4, 5, 1, 2, 7, 3, 8, 9, 10] (by decide) rfl
              exact rk_int hx hb hr hlocks hK hP hD hS (by first | rfl | omega) rfl dX6_weigh_109
        · skip
          exfalso; omega
      · skip
        exfalso; omega
  · skip
    exfalso; omega

set_option maxHeartbeats 4000000 in
set_option maxRecDepth 100000 in
theorem tX6_weigh_s0 (l : Launch) (D : va_G) (kI : ClassId) (kZ : ClassId) (kL : ClassId) (kJ : ClassId) (g : Nat) (aR : Nat) (aB : Nat) (aT : Nat) (aS : Nat) (aK : Nat) (aL : Nat) (a0 : Nat) (a1 : Nat) (a2 : Nat) (a0w : Nat) (a2w : Nat) (aBs : Nat) (aBw : Nat) (aBd : Nat) (aBv : Nat) (aKs : Nat) (aKt : Nat) (aKb : Nat) (aKz : Nat) (aKl : Nat) (aKc : Nat) (aKu : Nat) (w0 : Int → Int) (w2 : Int → Int) (bw : Int → Int) (kb : Int → Int) (kl : Int → Int) (nw : Int) (al : Int) (lg : Int) (tt : Int) (dn : Int) (n0 : Int) (n2 : Int) (bn : Int) (kn : Int) (kg : Int) (tm : Int) (sz : Nat) (hnw : 0 ≤ nw ∧ nw ≤ 100000) (htm : nw ≤ tm ∧ tm ≤ 100000) (hkg : 0 ≤ kg ∧ kg ≤ 200000) (hq : 0 < n0 ∧ n0 ≤ 16) (hw0 : ∀ j, 0 ≤ w0 j ∧ w0 j ≤ 1000000) (hF : 1 ≤ w0 0 ∧ w0 0 ≤ 60) (hal : 0 ≤ al ∧ al ≤ 1000) (hbw : ∀ j, 0 ≤ bw j ∧ bw j ≤ 100000) (hkb : ∀ j, 0 ≤ kb j ∧ kb j < 20) (hn2 : 0 ≤ n2 ∧ n2 < 16) (hW : ¬ (if 0 ≤ kg - bw (kb (w0 0)) then kg - bw (kb (w0 0)) else 0 - (kg - bw (kb (w0 0)))) * 1000 ≤ bw (kb (w0 0)) * al) : CtI l yX6_weigh wsX6_weigh ({ frames := 2, cells := 0, slots := 0, locals := 43 }) D vwCl (tyL kI kZ kL kJ) [(g, .inr (6, [.ref aR, .ref aB, .ref aT, .ref aS, .ref aK, .ref aL, .int (iI nw), .int (iI al), .int (iI lg), .int (iI tt), .int (iI dn)])), (aL, .inl (kL, 3, .inr (.inr (.inr (.inr (g3 a0 a1 a2)))))), (a0, .inr (2, [.ref a0w, .int (iI n0)])), (a0w, .inl (kI, 16, .inl (iF w0))), (a2, .inr (2, [.ref a2w, .int (iI n2)])), (a2w, .inl (kI, 16, .inl (iF w2))), (aB, .inr (1, [.ref aBs, .ref aBw, .ref aBd, .ref aBv, .int (iI bn)])), (aBw, .inl (kI, 20, .inl (iF bw))), (aK, .inr (0, [.ref aKs, .ref aKt, .ref aKb, .ref aKz, .ref aKl, .ref aKc, .ref aKu, .int (iI kn)])), (aKb, .inl (kI, 61, .inl (iF kb))), (aKl, .inl (kI, 61, .inl (iF kl)))] [.ref g, .int (iI 0), .int (iI kg), .int (iI tm)] (iI (-(w0 0))) [(g, .inr (6, [.ref aR, .ref aB, .ref aT, .ref aS, .ref aK, .ref aL, .int (iI tm), .int (iI al), .int (iI lg), .int (iI tt), .int (iI dn)])), (aL, .inl (kL, 3, .inr (.inr (.inr (.inr (g3 a0 a1 a2)))))), (a0, .inr (2, [.ref a0w, .int (iI ((rmL (w0 0) n0 (n0 - 0).toNat 0 0 w0).2))])), (a0w, .inl (kI, 16, .inl (iF ((rmL (w0 0) n0 (n0 - 0).toNat 0 0 w0).1)))), (a2, .inr (2, [.ref a2w, .int (iI (n2 + 1))])), (a2w, .inl (kI, 16, .inl (iF (iu w2 n2 (w0 0))))), (aB, .inr (1, [.ref aBs, .ref aBw, .ref aBd, .ref aBv, .int (iI bn)])), (aBw, .inl (kI, 20, .inl (iF bw))), (aK, .inr (0, [.ref aKs, .ref aKt, .ref aKb, .ref aKz, .ref aKl, .ref aKc, .ref aKu, .int (iI kn)])), (aKb, .inl (kI, 61, .inl (iF kb))), (aKl, .inl (kI, 61, .inl (iF (iu kl (w0 0) 2))))] sz := by
  refine ck_start (Qc := fun A => cQi D vwCl (tyL kI kZ kL kJ) A (iI (-(w0 0))) [(g, .inr (6, [.ref aR, .ref aB, .ref aT, .ref aS, .ref aK, .ref aL, .int (iI tm), .int (iI al), .int (iI lg), .int (iI tt), .int (iI dn)])), (aL, .inl (kL, 3, .inr (.inr (.inr (.inr (g3 a0 a1 a2)))))), (a0, .inr (2, [.ref a0w, .int (iI ((rmL (w0 0) n0 (n0 - 0).toNat 0 0 w0).2))])), (a0w, .inl (kI, 16, .inl (iF ((rmL (w0 0) n0 (n0 - 0).toNat 0 0 w0).1)))), (a2, .inr (2, [.ref a2w, .int (iI (n2 + 1))])), (a2w, .inl (kI, 16, .inl (iF (iu w2 n2 (w0 0))))), (aB, .inr (1, [.ref aBs, .ref aBw, .ref aBd, .ref aBv, .int (iI bn)])), (aBw, .inl (kI, 20, .inl (iF bw))), (aK, .inr (0, [.ref aKs, .ref aKt, .ref aKb, .ref aKz, .ref aKl, .ref aKc, .ref aKu, .int (iI kn)])), (aKb, .inl (kI, 61, .inl (iF kb))), (aKl, .inl (kI, 61, .inl (iF (iu kl (w0 0) 2))))]) (cc := cX6_weigh) (maxL := 5) (ret := (some .int)) (LV := [(0, .ref g), (1, .int (iI 0)), (2, .int (iI kg)), (3, .int (iI tm))]) (by decide) rfl rfl (Nat.le_of_ble_eq_true rfl) ?_
  intro p e s m below meth cd hadm hx hb hr hml hts hown hlocks hname hnoh hxT A hA hK hP hD hS ls hl
  refine lv_iload_n hx hb dX6_weigh_0 rfl (lv_at hl 1 rfl) ?_
  refine pk_callI (va_runS (As := [.int (iI 0)]) (rest := []) ⟨hx, hb, hml, hown, hts⟩ (tX6_isLane l D kI kZ kL kJ 0 s.heap.size (by first | assumption | omega)) (cwS 1 hts (gd_S tb_cons wd_249 wd_250 wd_33 wd_251) rfl rfl rfl (by decide +kernel) ⟨Nat.le_of_ble_eq_true rfl, Nat.le_of_ble_eq_true rfl⟩) (ck_preS hxT hK hP hD [] rfl (by decide)) rfl rfl hl.1 rfl (lv_room (Nat.le_of_ble_eq_true rfl)) dX6_weigh_1 ⟨Nat.zero_le _, Nat.zero_le _⟩) ?_
  refine wk_bif_ne (tgt := 17) hx hb dX6_weigh_4 (by decide) (fun c_1 => ?_) (fun c_1 => ?_)
  · skip
    refine lv_aload_n hx hb dX6_weigh_17 rfl (lv_at hl 0 rfl) ?_
    refine lv_iload_n hx hb dX6_weigh_18 rfl (lv_at hl 3 rfl) ?_
    refine pk_callV (va_runV (As := [.int (iI tm)]) (rest := []) ⟨hx, hb, hml, hown, hts⟩ (tX6_needTime l D kI kZ kL kJ g aR aB aT aS aK aL nw al lg tt dn tm s.heap.size (by first | assumption | omega) (by first | assumption | omega)) (cwV 1 hts (gd_V tb_cons wd_511 wd_513 wd_9 wd_33 wd_514) rfl rfl rfl (by decide +kernel) ⟨Nat.le_of_ble_eq_true rfl, Nat.le_of_ble_eq_true rfl⟩) (ck_preV hxT hK hP hD [0] rfl (by decide) (q0 := 0) rfl rfl rfl) rfl rfl hl.1 rfl (lv_room (Nat.le_of_ble_eq_true rfl)) dX6_weigh_19 ⟨Nat.zero_le _, Nat.zero_le _⟩) ?_
    refine lv_iload_n hx hb dX6_weigh_22 rfl (lv_at hl 2 rfl) ?_
    refine wk_if_lt (tgt := 32) hx hb dX6_weigh_23 (by decide) (by omega) (fun c_2 => ?_) (fun c_2 => ?_)
    · skip
      exfalso; omega
    · skip
      refine lv_iload_n hx hb dX6_weigh_26 rfl (lv_at hl 2 rfl) ?_
      refine lv_ldc (v := 200000) hx hb hown (hts _ (List.mem_cons_of_mem _ wd_564)) dX6_weigh_27 ?_
      refine wk_eqi (show (200000 : Int32) = iI 200000 by decide) ?_
      refine wk_icmp_le (tgt := 42) hx hb dX6_weigh_29 (by decide) (by omega) (fun c_3 => ?_) (fun c_3 => ?_)
      · skip
        refine lv_aload_n hx hb dX6_weigh_42 rfl (lv_at hl 0 rfl) ?_
        refine lv_iload_n hx hb dX6_weigh_43 rfl (lv_at hl 3 rfl) ?_
        refine wk_put (ci := 6) (C := RX6) (T := TX6) (N := 11) hx hb hts (fun w h => (List.mem_cons_of_mem _ (hinX6 w h))) tyX6 tyX6_ok nmX6 hown hK hP hD hS 0 rfl rfl 6 (by decide) (hts _ (List.mem_cons_of_mem _ wd_195)) (fun _ h9 => h9) rfl rfl (Nat.le_of_ble_eq_true rfl) dX6_weigh_44 (ws' := [(g, .inr (6, [.ref aR, .ref aB, .ref aT, .ref aS, .ref aK, .ref aL, .int (iI tm), .int (iI al), .int (iI lg), .int (iI tt), .int (iI dn)])), (aL, .inl (kL, 3, .inr (.inr (.inr (.inr (g3 a0 a1 a2)))))), (a0, .inr (2, [.ref a0w, .int (iI n0)])), (a0w, .inl (kI, 16, .inl (iF w0))), (a2, .inr (2, [.ref a2w, .int (iI n2)])), (a2w, .inl (kI, 16, .inl (iF w2))), (aB, .inr (1, [.ref aBs, .ref aBw, .ref aBd, .ref aBv, .int (iI bn)])), (aBw, .inl (kI, 20, .inl (iF bw))), (aK, .inr (0, [.ref aKs, .ref aKt, .ref aKb, .ref aKz, .ref aKl, .ref aKc, .ref aKu, .int (iI kn)])), (aKb, .inl (kI, 61, .inl (iF kb))), (aKl, .inl (kI, 61, .inl (iF kl)))]) rfl (fun H locs hP hD hS => ?_)
        refine lv_aload_n hx hb dX6_weigh_47 rfl (lv_at hl 0 rfl) ?_
        refine va_get (D := D) (ci := 6) (v := .ref aL) (C := RX6) (T := TX6) (N := 11) hx hb hts (fun w h => (List.mem_cons_of_mem _ (hinX6 w h))) hown hK hP 0 rfl rfl 5 (by decide) (hts _ (List.mem_cons_of_mem _ wd_194)) (fun _ h9 => h9) rfl dX6_weigh_48 ?_
        refine lv_iload_n hx hb dX6_weigh_51 rfl (lv_at hl 1 rfl) ?_
        refine wk_aald (y := a0) hx hb hK hP 1 2 rfl rfl (by decide) (by decide) rfl dX6_weigh_52 ?_
        refine lv_iconst (v := iI 0) hx hb dX6_weigh_53 rfl ?_
        refine pk_callI (va_runV (As := [.int (iI 0)]) (rest := []) ⟨hx, hb, hml, hown, hts⟩ (tX2_bookingAt l D kI kZ kL kJ a0 a0w w0 n0 0 H.size (by first | assumption | omega) (by first | assumption | omega)) (cwV 1 hts (gd_V tb_cons wd_252 wd_253 wd_254 wd_40 wd_255) rfl rfl rfl (by decide +kernel) ⟨Nat.le_of_ble_eq_true rfl, Nat.le_of_ble_eq_true rfl⟩) (ck_preV hxT hK hP hD [2, 3] rfl (by decide) (q0 := 0) rfl rfl rfl) rfl rfl hl.1 rfl (lv_room (Nat.le_of_ble_eq_true rfl)) dX6_weigh_54 ⟨Nat.zero_le _, Nat.zero_le _⟩) ?_
        refine wk_eqi (show iI (if 0 ≤ 0 ∧ 0 < n0 then w0 0 else -1) = iI (w0 0) by rw [if_pos (by omega)]) ?_
        refine lv_istore (lv' := [(4, .int (iI (w0 0))), (0, .ref g), (1, .int (iI 0)), (2, .int (iI kg)), (3, .int (iI tm))]) hx hb dX6_weigh_57 hl (by decide) rfl (fun ls hl => ?_)
        refine lv_iload hx hb dX6_weigh_59 (lv_at hl 0 rfl) ?_
        refine lv_iconst (v := iI (-1)) hx hb dX6_weigh_61 rfl ?_
        refine wk_icmp_ne (tgt := 67) hx hb dX6_weigh_62 (by decide) (by omega) (fun c_4 => ?_) (fun c_4 => ?_)
        · skip
          refine lv_aload_n hx hb dX6_weigh_67 rfl (lv_at hl 1 rfl) ?_
          refine va_get (D := D) (ci := 6) (v := .ref aL) (C := RX6) (T := TX6) (N := 11) hx hb hts (fun w h => (List.mem_cons_of_mem _ (hinX6 w h))) hown hK hP 0 rfl rfl 5 (by decide) (hts _ (List.mem_cons_of_mem _ wd_194)) (fun _ h9 => h9) rfl dX6_weigh_68 ?_
          refine lv_iload_n hx hb dX6_weigh_71 rfl (lv_at hl 2 rfl) ?_
          refine wk_aald (y := a0) hx hb hK hP 1 2 rfl rfl (by decide) (by decide) rfl dX6_weigh_72 ?_
          refine lv_iload hx hb dX6_weigh_73 (lv_at hl 0 rfl) ?_
          refine ck_backV (va_runV (As := [.int (iI (w0 0))]) (rest := []) ⟨hx, hb, hml, hown, hts⟩ (tX2_remove l D kI kZ kL kJ a0 a0w w0 n0 (w0 0) H.size (by first | assumption | omega) (by first | assumption | omega) (by first | assumption | omega)) (cwV 1 hts (gd_V tb_cons wd_457 wd_458 wd_459 wd_40 wd_460) rfl rfl rfl (by decide +kernel) ⟨Nat.le_of_ble_eq_true rfl, Nat.le_of_ble_eq_true rfl⟩) (ck_preV hxT hK hP hD [2, 3] rfl (by decide) (q0 := 0) rfl rfl rfl) rfl rfl hl.1 rfl (lv_room (Nat.le_of_ble_eq_true rfl)) dX6_weigh_75 ⟨Nat.zero_le _, Nat.zero_le _⟩) hP hD hS hA [2, 3] [0, 1, 4, 5, 6, 7, 8, 9, 10] (WR := [(g, .inr (6, [.ref aR, .ref aB, .ref aT, .ref aS, .ref aK, .ref aL, .int (iI tm), .int (iI al), .int (iI lg), .int (iI tt), .int (iI dn)])), (aL, .inl (kL, 3, .inr (.inr (.inr (.inr (g3 a0 a1 a2)))))), (a2, .inr (2, [.ref a2w, .int (iI n2)])), (a2w, .inl (kI, 16, .inl (iF w2))), (aB, .inr (1, [.ref aBs, .ref aBw, .ref aBd, .ref aBv, .int (iI bn)])), (aBw, .inl (kI, 20, .inl (iF bw))), (aK, .inr (0, [.ref aKs, .ref aKt, .ref aKb, .ref aKz, .ref aKl, .ref aKc, .ref aKu, .int (iI kn)])), (aKb, .inl (kI, 61, .inl (iF kb))), (aKl, .inl (kI, 61, .inl (iF kl)))]) rfl rfl (by decide) (by decide) (ws' := [(g, .inr (6, [.ref aR, .ref aB, .ref aT, .ref aS, .ref aK, .ref aL, .int (iI tm), .int (iI al), .int (iI lg), .int (iI tt), .int (iI dn)])), (aL, .inl (kL, 3, .inr (.inr (.inr (.inr (g3 a0 a1 a2)))))), (a2, .inr (2, [.ref a2w, .int (iI n2)])), (a2w, .inl (kI, 16, .inl (iF w2))), (aB, .inr (1, [.ref aBs, .ref aBw, .ref aBd, .ref aBv, .int (iI bn)])), (aBw, .inl (kI, 20, .inl (iF bw))), (aK, .inr (0, [.ref aKs, .ref aKt, .ref aKb, .ref aKz, .ref aKl, .ref aKc, .ref aKu, .int (iI kn)])), (aKb, .inl (kI, 61, .inl (iF kb))), (aKl, .inl (kI, 61, .inl (iF kl))), (a0, .inr (2, [.ref a0w, .int (iI ((rmL (w0 0) n0 (n0 - 0).toNat 0 0 w0).2))])), (a0w, .inl (kI, 16, .inl (iF ((rmL (w0 0) n0 (n0 - 0).toNat 0 0 w0).1))))]) rfl (fun H locs hP hD hS => ?_)
          refine lv_iload_n hx hb dX6_weigh_78 rfl (lv_at hl 2 rfl) ?_
          refine lv_iconst (v := iI 2) hx hb dX6_weigh_79 rfl ?_
          refine wk_icmp_eq (tgt := 101) hx hb dX6_weigh_80 (by decide) (by omega) (fun c_5 => ?_) (fun c_5 => ?_)
          · skip
            exfalso; omega
          · skip
            refine lv_aload_n hx hb dX6_weigh_83 rfl (lv_at hl 1 rfl) ?_
            refine lv_aload_n hx hb dX6_weigh_84 rfl (lv_at hl 1 rfl) ?_
            refine va_get (D := D) (ci := 6) (v := .ref aK) (C := RX6) (T := TX6) (N := 11) hx hb hts (fun w h => (List.mem_cons_of_mem _ (hinX6 w h))) hown hK hP 0 rfl rfl 4 (by decide) (hts _ (List.mem_cons_of_mem _ wd_193)) (fun _ h9 => h9) rfl dX6_weigh_85 ?_
            refine va_get (D := D) (ci := 0) (v := .ref aKb) (C := RX0) (T := TX0) (N := 8) hx hb hts (fun w h => (List.mem_cons_of_mem _ (hinX0 w h))) hown hK hP 6 rfl rfl 2 (by decide) (hts _ (List.mem_cons_of_mem _ wd_146)) (fun _ h9 => h9) rfl dX6_weigh_88 ?_
            refine lv_iload hx hb dX6_weigh_91 (lv_at hl 0 rfl) ?_
            refine wk_iald hx hb hK hP 7 0 rfl rfl (by decide) (by omega) dX6_weigh_93 ?_
            have b8 := hkb (w0 0)
            refine lv_iload_n hx hb dX6_weigh_94 rfl (lv_at hl 3 rfl) ?_
            refine pk_callI (va_runV (As := [.int (iI (kb (w0 0))), .int (iI kg)]) (rest := []) ⟨hx, hb, hml, hown, hts⟩ (tX6_isWithinTolerance l D kI kZ kL kJ g aR aB aT aS aK aL aBs aBw aBd aBv bw tm al lg tt dn bn (kb (w0 0)) kg H.size (by first | assumption | omega) (by first | assumption | omega) (by first | assumption | omega) (by first | assumption | omega)) (cwV 2 hts (gd_V tb_cons wd_565 wd_567 wd_16 wd_33 wd_568) rfl rfl rfl (by decide +kernel) ⟨Nat.le_of_ble_eq_true rfl, Nat.le_of_ble_eq_true rfl⟩) (ck_preV hxT hK hP hD [0, 4, 5] rfl (by decide) (q0 := 0) rfl rfl rfl) rfl rfl hl.1 rfl (lv_room (Nat.le_of_ble_eq_true rfl)) dX6_weigh_95 ⟨Nat.zero_le _, Nat.zero_le _⟩) ?_
            refine wk_bif_eq (tgt := 110) hx hb dX6_weigh_98 (by decide) (fun c_6 => ?_) (fun c_6 => ?_)
            · skip
              refine lv_aload_n hx hb dX6_weigh_110 rfl (lv_at hl 1 rfl) ?_
              refine lv_iload hx hb dX6_weigh_111 (lv_at hl 0 rfl) ?_
              refine lv_iconst (v := iI 2) hx hb dX6_weigh_113 rfl ?_
              refine ck_backV (va_runV (As := [.int (iI (w0 0)), .int (iI 2)]) (rest := []) ⟨hx, hb, hml, hown, hts⟩ (tX6_joinLane_2 l D kI kZ kL kJ g aR aB aT aS aK aL aKs aKt aKb aKz aKl aKc aKu a0 a1 a2 a2w kl w2 tm al lg tt dn kn n2 (w0 0) H.size (by first | assumption | omega) (by first | assumption | omega)) (cwV 2 hts (gd_V tb_cons wd_548 wd_550 wd_15 wd_33 wd_551) rfl rfl rfl (by decide +kernel) ⟨Nat.le_of_ble_eq_true rfl, Nat.le_of_ble_eq_true rfl⟩) (ck_preV hxT hK hP hD [0, 6, 8, 1, 2, 3] rfl (by decide) (q0 := 0) rfl rfl rfl) rfl rfl hl.1 rfl (lv_room (Nat.le_of_ble_eq_true rfl)) dX6_weigh_114 ⟨Nat.zero_le _, Nat.zero_le _⟩) hP hD hS hA [0, 6, 8, 1, 2, 3] [4, 5, 7, 9, 10] (WR := [(aB, .inr (1, [.ref aBs, .ref aBw, .ref aBd, .ref aBv, .int (iI bn)])), (aBw, .inl (kI, 20, .inl (iF bw))), (aKb, .inl (kI, 61, .inl (iF kb))), (a0, .inr (2, [.ref a0w, .int (iI ((rmL (w0 0) n0 (n0 - 0).toNat 0 0 w0).2))])), (a0w, .inl (kI, 16, .inl (iF ((rmL (w0 0) n0 (n0 - 0).toNat 0 0 w0).1))))]) rfl rfl (by decide) (by decide) (ws' := [(aB, .inr (1, [.ref aBs, .ref aBw, .ref aBd, .ref aBv, .int (iI bn)])), (aBw, .inl (kI, 20, .inl (iF bw))), (aKb, .inl (kI, 61, .inl (iF kb))), (a0, .inr (2, [.ref a0w, .int (iI ((rmL (w0 0) n0 (n0 - 0).toNat 0 0 w0).2))])), (a0w, .inl (kI, 16, .inl (iF ((rmL (w0 0) n0 (n0 - 0).toNat 0 0 w0).1)))), (g, .inr (6, [.ref aR, .ref aB, .ref aT, .ref aS, .ref aK, .ref aL, .int (iI tm), .int (iI al), .int (iI lg), .int (iI tt), .int (iI dn)])), (aK, .inr (0, [.ref aKs, .ref aKt, .ref aKb, .ref aKz, .ref aKl, .ref aKc, .ref aKu, .int (iI kn)])), (aKl, .inl (kI, 61, .inl (iF (iu kl (w0 0) 2)))), (aL, .inl (kL, 3, .inr (.inr (.inr (.inr (g3 a0 a1 a2)))))), (a2, .inr (2, [.ref a2w, .int (iI (n2 + 1))])), (a2w, .inl (kI, 16, .inl (iF (iu w2 n2 (w0 0)))))]) rfl (fun H locs hP hD hS => ?_)
              refine lv_iload hx hb dX6_weigh_117 (lv_at hl 0 rfl) ?_
              refine wk_ineg hx hb dX6_weigh_119 ?_
              have hP := hP.sub (ws' := [(g, .inr (6, [.ref aR, .ref aB, .ref aT, .ref aS, .ref aK, .ref aL, .int (iI tm), .int (iI al), .int (iI lg), .int (iI tt), .int (iI dn)])), (aL, .inl (kL, 3, .inr (.inr (.inr (.inr (g3 a0 a1 a2)))))), (a0, .inr (2, [.ref a0w, .int (iI ((rmL (w0 0) n0 (n0 - 0).toNat 0 0 w0).2))])), (a0w, .inl (kI, 16, .inl (iF ((rmL (w0 0) n0 (n0 - 0).toNat 0 0 w0).1)))), (a2, .inr (2, [.ref a2w, .int (iI (n2 + 1))])), (a2w, .inl (kI, 16, .inl (iF (iu w2 n2 (w0 0))))), (aB, .inr (1, [.ref aBs, .ref aBw, .ref aBd, .ref aBv, .int (iI bn)])), (aBw, .inl (kI, 20, .inl (iF bw))), (aK, .inr (0, [.ref aKs, .ref aKt, .ref aKb, .ref aKz, .ref aKl, .ref aKc, .ref aKu, .int (iI kn)])), (aKb, .inl (kI, 61, .inl (iF kb))), (aKl, .inl (kI, 61, .inl (iF (iu kl (w0 0) 2))))]) [5, 8, 3, 4, 9, 10, 0, 1, 6, 2, 7] rfl
              have hD := hD.sub (ws' := [(g, .inr (6, [.ref aR, .ref aB, .ref aT, .ref aS, .ref aK, .ref aL, .int (iI tm), .int (iI al), .int (iI lg), .int (iI tt), .int (iI dn)])), (aL, .inl (kL, 3, .inr (.inr (.inr (.inr (g3 a0 a1 a2)))))), (a0, .inr (2, [.ref a0w, .int (iI ((rmL (w0 0) n0 (n0 - 0).toNat 0 0 w0).2))])), (a0w, .inl (kI, 16, .inl (iF ((rmL (w0 0) n0 (n0 - 0).toNat 0 0 w0).1)))), (a2, .inr (2, [.ref a2w, .int (iI (n2 + 1))])), (a2w, .inl (kI, 16, .inl (iF (iu w2 n2 (w0 0))))), (aB, .inr (1, [.ref aBs, .ref aBw, .ref aBd, .ref aBv, .int (iI bn)])), (aBw, .inl (kI, 20, .inl (iF bw))), (aK, .inr (0, [.ref aKs, .ref aKt, .ref aKb, .ref aKz, .ref aKl, .ref aKc, .ref aKu, .int (iI kn)])), (aKb, .inl (kI, 61, .inl (iF kb))), (aKl, .inl (kI, 61, .inl (iF (iu kl (w0 0) 2))))]) [5, 8, 3, 4, 9, 10, 0, 1, 6, 2, 7] (by decide) rfl
              exact rk_int hx hb hr hlocks hK hP hD hS (by first | rfl | omega) rfl dX6_weigh_120
            · skip
              contradiction
        · skip
          exfalso; omega
      · skip
        exfalso; omega
  · skip
    exfalso; omega

set_option maxHeartbeats 4000000 in
set_option maxRecDepth 100000 in
theorem tX6_weigh_e1 (l : Launch) (D : va_G) (kI : ClassId) (kZ : ClassId) (kL : ClassId) (kJ : ClassId) (g : Nat) (aR : Nat) (aB : Nat) (aT : Nat) (aS : Nat) (aK : Nat) (aL : Nat) (a0 : Nat) (a1 : Nat) (a2 : Nat) (a1w : Nat) (w1 : Int → Int) (nw : Int) (al : Int) (lg : Int) (tt : Int) (dn : Int) (n1 : Int) (kg : Int) (tm : Int) (sz : Nat) (hnw : 0 ≤ nw ∧ nw ≤ 100000) (htm : nw ≤ tm ∧ tm ≤ 100000) (hkg : 0 ≤ kg ∧ kg ≤ 200000) (hq : n1 = 0) : CtI l yX6_weigh wsX6_weigh ({ frames := 1, cells := 0, slots := 0, locals := 21 }) D vwCl (tyL kI kZ kL kJ) [(g, .inr (6, [.ref aR, .ref aB, .ref aT, .ref aS, .ref aK, .ref aL, .int (iI nw), .int (iI al), .int (iI lg), .int (iI tt), .int (iI dn)])), (aL, .inl (kL, 3, .inr (.inr (.inr (.inr (g3 a0 a1 a2)))))), (a1, .inr (2, [.ref a1w, .int (iI n1)])), (a1w, .inl (kI, 16, .inl (iF w1)))] [.ref g, .int (iI 1), .int (iI kg), .int (iI tm)] (iI 0) [(g, .inr (6, [.ref aR, .ref aB, .ref aT, .ref aS, .ref aK, .ref aL, .int (iI tm), .int (iI al), .int (iI lg), .int (iI tt), .int (iI dn)])), (aL, .inl (kL, 3, .inr (.inr (.inr (.inr (g3 a0 a1 a2)))))), (a1, .inr (2, [.ref a1w, .int (iI n1)])), (a1w, .inl (kI, 16, .inl (iF w1)))] sz := by
  refine ck_start (Qc := fun A => cQi D vwCl (tyL kI kZ kL kJ) A (iI 0) [(g, .inr (6, [.ref aR, .ref aB, .ref aT, .ref aS, .ref aK, .ref aL, .int (iI tm), .int (iI al), .int (iI lg), .int (iI tt), .int (iI dn)])), (aL, .inl (kL, 3, .inr (.inr (.inr (.inr (g3 a0 a1 a2)))))), (a1, .inr (2, [.ref a1w, .int (iI n1)])), (a1w, .inl (kI, 16, .inl (iF w1)))]) (cc := cX6_weigh) (maxL := 5) (ret := (some .int)) (LV := [(0, .ref g), (1, .int (iI 1)), (2, .int (iI kg)), (3, .int (iI tm))]) (by decide) rfl rfl (Nat.le_of_ble_eq_true rfl) ?_
  intro p e s m below meth cd hadm hx hb hr hml hts hown hlocks hname hnoh hxT A hA hK hP hD hS ls hl
  refine lv_iload_n hx hb dX6_weigh_0 rfl (lv_at hl 1 rfl) ?_
  refine pk_callI (va_runS (As := [.int (iI 1)]) (rest := []) ⟨hx, hb, hml, hown, hts⟩ (tX6_isLane l D kI kZ kL kJ 1 s.heap.size (by first | assumption | omega)) (cwS 1 hts (gd_S tb_cons wd_249 wd_250 wd_33 wd_251) rfl rfl rfl (by decide +kernel) ⟨Nat.le_of_ble_eq_true rfl, Nat.le_of_ble_eq_true rfl⟩) (ck_preS hxT hK hP hD [] rfl (by decide)) rfl rfl hl.1 rfl (lv_room (Nat.le_of_ble_eq_true rfl)) dX6_weigh_1 ⟨Nat.zero_le _, Nat.zero_le _⟩) ?_
  refine wk_bif_ne (tgt := 17) hx hb dX6_weigh_4 (by decide) (fun c_1 => ?_) (fun c_1 => ?_)
  · skip
    refine lv_aload_n hx hb dX6_weigh_17 rfl (lv_at hl 0 rfl) ?_
    refine lv_iload_n hx hb dX6_weigh_18 rfl (lv_at hl 3 rfl) ?_
    refine pk_callV (va_runV (As := [.int (iI tm)]) (rest := []) ⟨hx, hb, hml, hown, hts⟩ (tX6_needTime l D kI kZ kL kJ g aR aB aT aS aK aL nw al lg tt dn tm s.heap.size (by first | assumption | omega) (by first | assumption | omega)) (cwV 1 hts (gd_V tb_cons wd_511 wd_513 wd_9 wd_33 wd_514) rfl rfl rfl (by decide +kernel) ⟨Nat.le_of_ble_eq_true rfl, Nat.le_of_ble_eq_true rfl⟩) (ck_preV hxT hK hP hD [0] rfl (by decide) (q0 := 0) rfl rfl rfl) rfl rfl hl.1 rfl (lv_room (Nat.le_of_ble_eq_true rfl)) dX6_weigh_19 ⟨Nat.zero_le _, Nat.zero_le _⟩) ?_
    refine lv_iload_n hx hb dX6_weigh_22 rfl (lv_at hl 2 rfl) ?_
    refine wk_if_lt (tgt := 32) hx hb dX6_weigh_23 (by decide) (by omega) (fun c_2 => ?_) (fun c_2 => ?_)
    · skip
      exfalso; omega
    · skip
      refine lv_iload_n hx hb dX6_weigh_26 rfl (lv_at hl 2 rfl) ?_
      refine lv_ldc (v := 200000) hx hb hown (hts _ (List.mem_cons_of_mem _ wd_564)) dX6_weigh_27 ?_
      refine wk_eqi (show (200000 : Int32) = iI 200000 by decide) ?_
      refine wk_icmp_le (tgt := 42) hx hb dX6_weigh_29 (by decide) (by omega) (fun c_3 => ?_) (fun c_3 => ?_)
      · skip
        refine lv_aload_n hx hb dX6_weigh_42 rfl (lv_at hl 0 rfl) ?_
        refine lv_iload_n hx hb dX6_weigh_43 rfl (lv_at hl 3 rfl) ?_
        refine wk_put (ci := 6) (C := RX6) (T := TX6) (N := 11) hx hb hts (fun w h => (List.mem_cons_of_mem _ (hinX6 w h))) tyX6 tyX6_ok nmX6 hown hK hP hD hS 0 rfl rfl 6 (by decide) (hts _ (List.mem_cons_of_mem _ wd_195)) (fun _ h9 => h9) rfl rfl (Nat.le_of_ble_eq_true rfl) dX6_weigh_44 (ws' := [(g, .inr (6, [.ref aR, .ref aB, .ref aT, .ref aS, .ref aK, .ref aL, .int (iI tm), .int (iI al), .int (iI lg), .int (iI tt), .int (iI dn)])), (aL, .inl (kL, 3, .inr (.inr (.inr (.inr (g3 a0 a1 a2)))))), (a1, .inr (2, [.ref a1w, .int (iI n1)])), (a1w, .inl (kI, 16, .inl (iF w1)))]) rfl (fun H locs hP hD hS => ?_)
        refine lv_aload_n hx hb dX6_weigh_47 rfl (lv_at hl 0 rfl) ?_
        refine va_get (D := D) (ci := 6) (v := .ref aL) (C := RX6) (T := TX6) (N := 11) hx hb hts (fun w h => (List.mem_cons_of_mem _ (hinX6 w h))) hown hK hP 0 rfl rfl 5 (by decide) (hts _ (List.mem_cons_of_mem _ wd_194)) (fun _ h9 => h9) rfl dX6_weigh_48 ?_
        refine lv_iload_n hx hb dX6_weigh_51 rfl (lv_at hl 1 rfl) ?_
        refine wk_aald (y := a1) hx hb hK hP 1 2 rfl rfl (by decide) (by decide) rfl dX6_weigh_52 ?_
        refine lv_iconst (v := iI 0) hx hb dX6_weigh_53 rfl ?_
        refine pk_callI (va_runV (As := [.int (iI 0)]) (rest := []) ⟨hx, hb, hml, hown, hts⟩ (tX2_bookingAt l D kI kZ kL kJ a1 a1w w1 n1 0 H.size (by first | assumption | omega) (by first | assumption | omega)) (cwV 1 hts (gd_V tb_cons wd_252 wd_253 wd_254 wd_40 wd_255) rfl rfl rfl (by decide +kernel) ⟨Nat.le_of_ble_eq_true rfl, Nat.le_of_ble_eq_true rfl⟩) (ck_preV hxT hK hP hD [2, 3] rfl (by decide) (q0 := 0) rfl rfl rfl) rfl rfl hl.1 rfl (lv_room (Nat.le_of_ble_eq_true rfl)) dX6_weigh_54 ⟨Nat.zero_le _, Nat.zero_le _⟩) ?_
        refine wk_eqi (show iI (if 0 ≤ 0 ∧ 0 < n1 then w1 0 else -1) = iI (-1) by rw [if_neg (by omega)]) ?_
        refine lv_istore (lv' := [(4, .int (iI (-1))), (0, .ref g), (1, .int (iI 1)), (2, .int (iI kg)), (3, .int (iI tm))]) hx hb dX6_weigh_57 hl (by decide) rfl (fun ls hl => ?_)
        refine lv_iload hx hb dX6_weigh_59 (lv_at hl 0 rfl) ?_
        refine lv_iconst (v := iI (-1)) hx hb dX6_weigh_61 rfl ?_
        refine wk_icmp_ne (tgt := 67) hx hb dX6_weigh_62 (by decide) (by omega) (fun c_4 => ?_) (fun c_4 => ?_)
        · skip
          exfalso; omega
        · skip
          refine lv_iconst (v := iI 0) hx hb dX6_weigh_65 rfl ?_
          exact rk_int hx hb hr hlocks hK hP hD hS (by first | rfl | omega) rfl dX6_weigh_66
      · skip
        exfalso; omega
  · skip
    exfalso; omega

set_option maxHeartbeats 4000000 in
set_option maxRecDepth 100000 in
theorem tX6_weigh_d1 (l : Launch) (D : va_G) (kI : ClassId) (kZ : ClassId) (kL : ClassId) (kJ : ClassId) (g : Nat) (aR : Nat) (aB : Nat) (aT : Nat) (aS : Nat) (aK : Nat) (aL : Nat) (a0 : Nat) (a1 : Nat) (a2 : Nat) (a1w : Nat) (aBs : Nat) (aBw : Nat) (aBd : Nat) (aBv : Nat) (aKs : Nat) (aKt : Nat) (aKb : Nat) (aKz : Nat) (aKl : Nat) (aKc : Nat) (aKu : Nat) (w1 : Int → Int) (bw : Int → Int) (kb : Int → Int) (kc : Int → Int) (kz : Int → Int) (ku : Int → Int) (nw : Int) (al : Int) (lg : Int) (tt : Int) (dn : Int) (n1 : Int) (bn : Int) (kn : Int) (kg : Int) (tm : Int) (sz : Nat) (hnw : 0 ≤ nw ∧ nw ≤ 100000) (htm : nw ≤ tm ∧ tm ≤ 100000) (hkg : 0 ≤ kg ∧ kg ≤ 200000) (hq : 0 < n1 ∧ n1 ≤ 16) (hw1 : ∀ j, 0 ≤ w1 j ∧ w1 j ≤ 1000000) (hF : 1 ≤ w1 0 ∧ w1 0 ≤ 60) (hlg : 0 ≤ lg ∧ lg ≤ 100000) (hkc : ∀ j, 0 ≤ kc j ∧ kc j ≤ 1000000) (hal : 0 ≤ al ∧ al ≤ 1000) (hbw : ∀ j, 0 ≤ bw j ∧ bw j ≤ 100000) (hkb : ∀ j, 0 ≤ kb j ∧ kb j < 20) (hW : (if 0 ≤ kg - bw (kb (w1 0)) then kg - bw (kb (w1 0)) else 0 - (kg - bw (kb (w1 0)))) * 1000 ≤ bw (kb (w1 0)) * al) : CtI l yX6_weigh wsX6_weigh ({ frames := 2, cells := 0, slots := 0, locals := 36 }) D vwCl (tyL kI kZ kL kJ) [(g, .inr (6, [.ref aR, .ref aB, .ref aT, .ref aS, .ref aK, .ref aL, .int (iI nw), .int (iI al), .int (iI lg), .int (iI tt), .int (iI dn)])), (aL, .inl (kL, 3, .inr (.inr (.inr (.inr (g3 a0 a1 a2)))))), (a1, .inr (2, [.ref a1w, .int (iI n1)])), (a1w, .inl (kI, 16, .inl (iF w1))), (aB, .inr (1, [.ref aBs, .ref aBw, .ref aBd, .ref aBv, .int (iI bn)])), (aBw, .inl (kI, 20, .inl (iF bw))), (aK, .inr (0, [.ref aKs, .ref aKt, .ref aKb, .ref aKz, .ref aKl, .ref aKc, .ref aKu, .int (iI kn)])), (aKb, .inl (kI, 61, .inl (iF kb))), (aKc, .inl (kI, 61, .inl (iF kc))), (aKz, .inl (kI, 61, .inl (iF kz))), (aKu, .inl (kI, 61, .inl (iF ku)))] [.ref g, .int (iI 1), .int (iI kg), .int (iI tm)] (iI (w1 0)) [(g, .inr (6, [.ref aR, .ref aB, .ref aT, .ref aS, .ref aK, .ref aL, .int (iI tm), .int (iI al), .int (iI (max lg (tm - kc (w1 0)))), .int (iI (tt + (tm - kc (w1 0)))), .int (iI (dn + 1))])), (aL, .inl (kL, 3, .inr (.inr (.inr (.inr (g3 a0 a1 a2)))))), (a1, .inr (2, [.ref a1w, .int (iI ((rmL (w1 0) n1 (n1 - 0).toNat 0 0 w1).2))])), (a1w, .inl (kI, 16, .inl (iF ((rmL (w1 0) n1 (n1 - 0).toNat 0 0 w1).1)))), (aB, .inr (1, [.ref aBs, .ref aBw, .ref aBd, .ref aBv, .int (iI bn)])), (aBw, .inl (kI, 20, .inl (iF bw))), (aK, .inr (0, [.ref aKs, .ref aKt, .ref aKb, .ref aKz, .ref aKl, .ref aKc, .ref aKu, .int (iI kn)])), (aKb, .inl (kI, 61, .inl (iF kb))), (aKc, .inl (kI, 61, .inl (iF kc))), (aKz, .inl (kI, 61, .inl (iF (iu kz (w1 0) 2)))), (aKu, .inl (kI, 61, .inl (iF (iu ku (w1 0) (tm - kc (w1 0))))))] sz := by
  refine ck_start (Qc := fun A => cQi D vwCl (tyL kI kZ kL kJ) A (iI (w1 0)) [(g, .inr (6, [.ref aR, .ref aB, .ref aT, .ref aS, .ref aK, .ref aL, .int (iI tm), .int (iI al), .int (iI (max lg (tm - kc (w1 0)))), .int (iI (tt + (tm - kc (w1 0)))), .int (iI (dn + 1))])), (aL, .inl (kL, 3, .inr (.inr (.inr (.inr (g3 a0 a1 a2)))))), (a1, .inr (2, [.ref a1w, .int (iI ((rmL (w1 0) n1 (n1 - 0).toNat 0 0 w1).2))])), (a1w, .inl (kI, 16, .inl (iF ((rmL (w1 0) n1 (n1 - 0).toNat 0 0 w1).1)))), (aB, .inr (1, [.ref aBs, .ref aBw, .ref aBd, .ref aBv, .int (iI bn)])), (aBw, .inl (kI, 20, .inl (iF bw))), (aK, .inr (0, [.ref aKs, .ref aKt, .ref aKb, .ref aKz, .ref aKl, .ref aKc, .ref aKu, .int (iI kn)])), (aKb, .inl (kI, 61, .inl (iF kb))), (aKc, .inl (kI, 61, .inl (iF kc))), (aKz, .inl (kI, 61, .inl (iF (iu kz (w1 0) 2)))), (aKu, .inl (kI, 61, .inl (iF (iu ku (w1 0) (tm - kc (w1 0))))))]) (cc := cX6_weigh) (maxL := 5) (ret := (some .int)) (LV := [(0, .ref g), (1, .int (iI 1)), (2, .int (iI kg)), (3, .int (iI tm))]) (by decide) rfl rfl (Nat.le_of_ble_eq_true rfl) ?_
  intro p e s m below meth cd hadm hx hb hr hml hts hown hlocks hname hnoh hxT A hA hK hP hD hS ls hl
  refine lv_iload_n hx hb dX6_weigh_0 rfl (lv_at hl 1 rfl) ?_
  refine pk_callI (va_runS (As := [.int (iI 1)]) (rest := []) ⟨hx, hb, hml, hown, hts⟩ (tX6_isLane l D kI kZ kL kJ 1 s.heap.size (by first | assumption | omega)) (cwS 1 hts (gd_S tb_cons wd_249 wd_250 wd_33 wd_251) rfl rfl rfl (by decide +kernel) ⟨Nat.le_of_ble_eq_true rfl, Nat.le_of_ble_eq_true rfl⟩) (ck_preS hxT hK hP hD [] rfl (by decide)) rfl rfl hl.1 rfl (lv_room (Nat.le_of_ble_eq_true rfl)) dX6_weigh_1 ⟨Nat.zero_le _, Nat.zero_le _⟩) ?_
  refine wk_bif_ne (tgt := 17) hx hb dX6_weigh_4 (by decide) (fun c_1 => ?_) (fun c_1 => ?_)
  · skip
    refine lv_aload_n hx hb dX6_weigh_17 rfl (lv_at hl 0 rfl) ?_
    refine lv_iload_n hx hb dX6_weigh_18 rfl (lv_at hl 3 rfl) ?_
    refine pk_callV (va_runV (As := [.int (iI tm)]) (rest := []) ⟨hx, hb, hml, hown, hts⟩ (tX6_needTime l D kI kZ kL kJ g aR aB aT aS aK aL nw al lg tt dn tm s.heap.size (by first | assumption | omega) (by first | assumption | omega)) (cwV 1 hts (gd_V tb_cons wd_511 wd_513 wd_9 wd_33 wd_514) rfl rfl rfl (by decide +kernel) ⟨Nat.le_of_ble_eq_true rfl, Nat.le_of_ble_eq_true rfl⟩) (ck_preV hxT hK hP hD [0] rfl (by decide) (q0 := 0) rfl rfl rfl) rfl rfl hl.1 rfl (lv_room (Nat.le_of_ble_eq_true rfl)) dX6_weigh_19 ⟨Nat.zero_le _, Nat.zero_le _⟩) ?_
    refine lv_iload_n hx hb dX6_weigh_22 rfl (lv_at hl 2 rfl) ?_
    refine wk_if_lt (tgt := 32) hx hb dX6_weigh_23 (by decide) (by omega) (fun c_2 => ?_) (fun c_2 => ?_)
    · skip
      exfalso; omega
    · skip
      refine lv_iload_n hx hb dX6_weigh_26 rfl (lv_at hl 2 rfl) ?_
      refine lv_ldc (v := 200000) hx hb hown (hts _ (List.mem_cons_of_mem _ wd_564)) dX6_weigh_27 ?_
      refine wk_eqi (show (200000 : Int32) = iI 200000 by decide) ?_
      refine wk_icmp_le (tgt := 42) hx hb dX6_weigh_29 (by decide) (by omega) (fun c_3 => ?_) (fun c_3 => ?_)
      · skip
        refine lv_aload_n hx hb dX6_weigh_42 rfl (lv_at hl 0 rfl) ?_
        refine lv_iload_n hx hb dX6_weigh_43 rfl (lv_at hl 3 rfl) ?_
        refine wk_put (ci := 6) (C := RX6) (T := TX6) (N := 11) hx hb hts (fun w h => (List.mem_cons_of_mem _ (hinX6 w h))) tyX6 tyX6_ok nmX6 hown hK hP hD hS 0 rfl rfl 6 (by decide) (hts _ (List.mem_cons_of_mem _ wd_195)) (fun _ h9 => h9) rfl rfl (Nat.le_of_ble_eq_true rfl) dX6_weigh_44 (ws' := [(g, .inr (6, [.ref aR, .ref aB, .ref aT, .ref aS, .ref aK, .ref aL, .int (iI tm), .int (iI al), .int (iI lg), .int (iI tt), .int (iI dn)])), (aL, .inl (kL, 3, .inr (.inr (.inr (.inr (g3 a0 a1 a2)))))), (a1, .inr (2, [.ref a1w, .int (iI n1)])), (a1w, .inl (kI, 16, .inl (iF w1))), (aB, .inr (1, [.ref aBs, .ref aBw, .ref aBd, .ref aBv, .int (iI bn)])), (aBw, .inl (kI, 20, .inl (iF bw))), (aK, .inr (0, [.ref aKs, .ref aKt, .ref aKb, .ref aKz, .ref aKl, .ref aKc, .ref aKu, .int (iI kn)])), (aKb, .inl (kI, 61, .inl (iF kb))), (aKc, .inl (kI, 61, .inl (iF kc))), (aKz, .inl (kI, 61, .inl (iF kz))), (aKu, .inl (kI, 61, .inl (iF ku)))]) rfl (fun H locs hP hD hS => ?_)
        refine lv_aload_n hx hb dX6_weigh_47 rfl (lv_at hl 0 rfl) ?_
        refine va_get (D := D) (ci := 6) (v := .ref aL) (C := RX6) (T := TX6) (N := 11) hx hb hts (fun w h => (List.mem_cons_of_mem _ (hinX6 w h))) hown hK hP 0 rfl rfl 5 (by decide) (hts _ (List.mem_cons_of_mem _ wd_194)) (fun _ h9 => h9) rfl dX6_weigh_48 ?_
        refine lv_iload_n hx hb dX6_weigh_51 rfl (lv_at hl 1 rfl) ?_
        refine wk_aald (y := a1) hx hb hK hP 1 2 rfl rfl (by decide) (by decide) rfl dX6_weigh_52 ?_
        refine lv_iconst (v := iI 0) hx hb dX6_weigh_53 rfl ?_
        refine pk_callI (va_runV (As := [.int (iI 0)]) (rest := []) ⟨hx, hb, hml, hown, hts⟩ (tX2_bookingAt l D kI kZ kL kJ a1 a1w w1 n1 0 H.size (by first | assumption | omega) (by first | assumption | omega)) (cwV 1 hts (gd_V tb_cons wd_252 wd_253 wd_254 wd_40 wd_255) rfl rfl rfl (by decide +kernel) ⟨Nat.le_of_ble_eq_true rfl, Nat.le_of_ble_eq_true rfl⟩) (ck_preV hxT hK hP hD [2, 3] rfl (by decide) (q0 := 0) rfl rfl rfl) rfl rfl hl.1 rfl (lv_room (Nat.le_of_ble_eq_true rfl)) dX6_weigh_54 ⟨Nat.zero_le _, Nat.zero_le _⟩) ?_
        refine wk_eqi (show iI (if 0 ≤ 0 ∧ 0 < n1 then w1 0 else -1) = iI (w1 0) by rw [if_pos (by omega)]) ?_
        refine lv_istore (lv' := [(4, .int (iI (w1 0))), (0, .ref g), (1, .int (iI 1)), (2, .int (iI kg)), (3, .int (iI tm))]) hx hb dX6_weigh_57 hl (by decide) rfl (fun ls hl => ?_)
        refine lv_iload hx hb dX6_weigh_59 (lv_at hl 0 rfl) ?_
        refine lv_iconst (v := iI (-1)) hx hb dX6_weigh_61 rfl ?_
        refine wk_icmp_ne (tgt := 67) hx hb dX6_weigh_62 (by decide) (by omega) (fun c_4 => ?_) (fun c_4 => ?_)
        · skip
          refine lv_aload_n hx hb dX6_weigh_67 rfl (lv_at hl 1 rfl) ?_
          refine va_get (D := D) (ci := 6) (v := .ref aL) (C := RX6) (T := TX6) (N := 11) hx hb hts (fun w h => (List.mem_cons_of_mem _ (hinX6 w h))) hown hK hP 0 rfl rfl 5 (by decide) (hts _ (List.mem_cons_of_mem _ wd_194)) (fun _ h9 => h9) rfl dX6_weigh_68 ?_
          refine lv_iload_n hx hb dX6_weigh_71 rfl (lv_at hl 2 rfl) ?_
          refine wk_aald (y := a1) hx hb hK hP 1 2 rfl rfl (by decide) (by decide) rfl dX6_weigh_72 ?_
          refine lv_iload hx hb dX6_weigh_73 (lv_at hl 0 rfl) ?_
          refine ck_backV (va_runV (As := [.int (iI (w1 0))]) (rest := []) ⟨hx, hb, hml, hown, hts⟩ (tX2_remove l D kI kZ kL kJ a1 a1w w1 n1 (w1 0) H.size (by first | assumption | omega) (by first | assumption | omega) (by first | assumption | omega)) (cwV 1 hts (gd_V tb_cons wd_457 wd_458 wd_459 wd_40 wd_460) rfl rfl rfl (by decide +kernel) ⟨Nat.le_of_ble_eq_true rfl, Nat.le_of_ble_eq_true rfl⟩) (ck_preV hxT hK hP hD [2, 3] rfl (by decide) (q0 := 0) rfl rfl rfl) rfl rfl hl.1 rfl (lv_room (Nat.le_of_ble_eq_true rfl)) dX6_weigh_75 ⟨Nat.zero_le _, Nat.zero_le _⟩) hP hD hS hA [2, 3] [0, 1, 4, 5, 6, 7, 8, 9, 10] (WR := [(g, .inr (6, [.ref aR, .ref aB, .ref aT, .ref aS, .ref aK, .ref aL, .int (iI tm), .int (iI al), .int (iI lg), .int (iI tt), .int (iI dn)])), (aL, .inl (kL, 3, .inr (.inr (.inr (.inr (g3 a0 a1 a2)))))), (aB, .inr (1, [.ref aBs, .ref aBw, .ref aBd, .ref aBv, .int (iI bn)])), (aBw, .inl (kI, 20, .inl (iF bw))), (aK, .inr (0, [.ref aKs, .ref aKt, .ref aKb, .ref aKz, .ref aKl, .ref aKc, .ref aKu, .int (iI kn)])), (aKb, .inl (kI, 61, .inl (iF kb))), (aKc, .inl (kI, 61, .inl (iF kc))), (aKz, .inl (kI, 61, .inl (iF kz))), (aKu, .inl (kI, 61, .inl (iF ku)))]) rfl rfl (by decide) (by decide) (ws' := [(g, .inr (6, [.ref aR, .ref aB, .ref aT, .ref aS, .ref aK, .ref aL, .int (iI tm), .int (iI al), .int (iI lg), .int (iI tt), .int (iI dn)])), (aL, .inl (kL, 3, .inr (.inr (.inr (.inr (g3 a0 a1 a2)))))), (aB, .inr (1, [.ref aBs, .ref aBw, .ref aBd, .ref aBv, .int (iI bn)])), (aBw, .inl (kI, 20, .inl (iF bw))), (aK, .inr (0, [.ref aKs, .ref aKt, .ref aKb, .ref aKz, .ref aKl, .ref aKc, .ref aKu, .int (iI kn)])), (aKb, .inl (kI, 61, .inl (iF kb))), (aKc, .inl (kI, 61, .inl (iF kc))), (aKz, .inl (kI, 61, .inl (iF kz))), (aKu, .inl (kI, 61, .inl (iF ku))), (a1, .inr (2, [.ref a1w, .int (iI ((rmL (w1 0) n1 (n1 - 0).toNat 0 0 w1).2))])), (a1w, .inl (kI, 16, .inl (iF ((rmL (w1 0) n1 (n1 - 0).toNat 0 0 w1).1))))]) rfl (fun H locs hP hD hS => ?_)
          refine lv_iload_n hx hb dX6_weigh_78 rfl (lv_at hl 2 rfl) ?_
          refine lv_iconst (v := iI 2) hx hb dX6_weigh_79 rfl ?_
          refine wk_icmp_eq (tgt := 101) hx hb dX6_weigh_80 (by decide) (by omega) (fun c_5 => ?_) (fun c_5 => ?_)
          · skip
            exfalso; omega
          · skip
            refine lv_aload_n hx hb dX6_weigh_83 rfl (lv_at hl 1 rfl) ?_
            refine lv_aload_n hx hb dX6_weigh_84 rfl (lv_at hl 1 rfl) ?_
            refine va_get (D := D) (ci := 6) (v := .ref aK) (C := RX6) (T := TX6) (N := 11) hx hb hts (fun w h => (List.mem_cons_of_mem _ (hinX6 w h))) hown hK hP 0 rfl rfl 4 (by decide) (hts _ (List.mem_cons_of_mem _ wd_193)) (fun _ h9 => h9) rfl dX6_weigh_85 ?_
            refine va_get (D := D) (ci := 0) (v := .ref aKb) (C := RX0) (T := TX0) (N := 8) hx hb hts (fun w h => (List.mem_cons_of_mem _ (hinX0 w h))) hown hK hP 4 rfl rfl 2 (by decide) (hts _ (List.mem_cons_of_mem _ wd_146)) (fun _ h9 => h9) rfl dX6_weigh_88 ?_
            refine lv_iload hx hb dX6_weigh_91 (lv_at hl 0 rfl) ?_
            refine wk_iald hx hb hK hP 5 0 rfl rfl (by decide) (by omega) dX6_weigh_93 ?_
            have b8 := hkb (w1 0)
            refine lv_iload_n hx hb dX6_weigh_94 rfl (lv_at hl 3 rfl) ?_
            refine pk_callI (va_runV (As := [.int (iI (kb (w1 0))), .int (iI kg)]) (rest := []) ⟨hx, hb, hml, hown, hts⟩ (tX6_isWithinTolerance l D kI kZ kL kJ g aR aB aT aS aK aL aBs aBw aBd aBv bw tm al lg tt dn bn (kb (w1 0)) kg H.size (by first | assumption | omega) (by first | assumption | omega) (by first | assumption | omega) (by first | assumption | omega)) (cwV 2 hts (gd_V tb_cons wd_565 wd_567 wd_16 wd_33 wd_568) rfl rfl rfl (by decide +kernel) ⟨Nat.le_of_ble_eq_true rfl, Nat.le_of_ble_eq_true rfl⟩) (ck_preV hxT hK hP hD [0, 2, 3] rfl (by decide) (q0 := 0) rfl rfl rfl) rfl rfl hl.1 rfl (lv_room (Nat.le_of_ble_eq_true rfl)) dX6_weigh_95 ⟨Nat.zero_le _, Nat.zero_le _⟩) ?_
            refine wk_bif_eq (tgt := 110) hx hb dX6_weigh_98 (by decide) (fun c_6 => ?_) (fun c_6 => ?_)
            · skip
              contradiction
            · skip
              refine lv_aload_n hx hb dX6_weigh_101 rfl (lv_at hl 1 rfl) ?_
              refine lv_iload hx hb dX6_weigh_102 (lv_at hl 0 rfl) ?_
              refine ck_backV (va_runV (As := [.int (iI (w1 0))]) (rest := []) ⟨hx, hb, hml, hown, hts⟩ (tX6_finish l D kI kZ kL kJ g aR aB aT aS aK aL aKs aKt aKb aKz aKl aKc aKu kc kz ku tm al lg tt dn kn (w1 0) H.size (by first | assumption | omega) (by first | assumption | omega) (by first | assumption | omega) (by first | assumption | omega)) (cwV 1 hts (gd_V tb_cons wd_572 wd_574 wd_17 wd_33 wd_575) rfl rfl rfl (by decide +kernel) ⟨Nat.le_of_ble_eq_true rfl, Nat.le_of_ble_eq_true rfl⟩) (ck_preV hxT hK hP hD [0, 4, 6, 7, 8] rfl (by decide) (q0 := 0) rfl rfl rfl) rfl rfl hl.1 rfl (lv_room (Nat.le_of_ble_eq_true rfl)) dX6_weigh_104 ⟨Nat.zero_le _, Nat.zero_le _⟩) hP hD hS hA [0, 4, 6, 7, 8] [1, 2, 3, 5, 9, 10] (WR := [(aL, .inl (kL, 3, .inr (.inr (.inr (.inr (g3 a0 a1 a2)))))), (aB, .inr (1, [.ref aBs, .ref aBw, .ref aBd, .ref aBv, .int (iI bn)])), (aBw, .inl (kI, 20, .inl (iF bw))), (aKb, .inl (kI, 61, .inl (iF kb))), (a1, .inr (2, [.ref a1w, .int (iI ((rmL (w1 0) n1 (n1 - 0).toNat 0 0 w1).2))])), (a1w, .inl (kI, 16, .inl (iF ((rmL (w1 0) n1 (n1 - 0).toNat 0 0 w1).1))))]) rfl rfl (by decide) (by decide) (ws' := [(aL, .inl (kL, 3, .inr (.inr (.inr (.inr (g3 a0 a1 a2)))))), (aB, .inr (1, [.ref aBs, .ref aBw, .ref aBd, .ref aBv, .int (iI bn)])), (aBw, .inl (kI, 20, .inl (iF bw))), (aKb, .inl (kI, 61, .inl (iF kb))), (a1, .inr (2, [.ref a1w, .int (iI ((rmL (w1 0) n1 (n1 - 0).toNat 0 0 w1).2))])), (a1w, .inl (kI, 16, .inl (iF ((rmL (w1 0) n1 (n1 - 0).toNat 0 0 w1).1)))), (g, .inr (6, [.ref aR, .ref aB, .ref aT, .ref aS, .ref aK, .ref aL, .int (iI tm), .int (iI al), .int (iI (max lg (tm - kc (w1 0)))), .int (iI (tt + (tm - kc (w1 0)))), .int (iI (dn + 1))])), (aK, .inr (0, [.ref aKs, .ref aKt, .ref aKb, .ref aKz, .ref aKl, .ref aKc, .ref aKu, .int (iI kn)])), (aKc, .inl (kI, 61, .inl (iF kc))), (aKz, .inl (kI, 61, .inl (iF (iu kz (w1 0) 2)))), (aKu, .inl (kI, 61, .inl (iF (iu ku (w1 0) (tm - kc (w1 0))))))]) rfl (fun H locs hP hD hS => ?_)
              refine lv_iload hx hb dX6_weigh_107 (lv_at hl 0 rfl) ?_
              have hP := hP.sub (ws' := [(g, .inr (6, [.ref aR, .ref aB, .ref aT, .ref aS, .ref aK, .ref aL, .int (iI tm), .int (iI al), .int (iI (max lg (tm - kc (w1 0)))), .int (iI (tt + (tm - kc (w1 0)))), .int (iI (dn + 1))])), (aL, .inl (kL, 3, .inr (.inr (.inr (.inr (g3 a0 a1 a2)))))), (a1, .inr (2, [.ref a1w, .int (iI ((rmL (w1 0) n1 (n1 - 0).toNat 0 0 w1).2))])), (a1w, .inl (kI, 16, .inl (iF ((rmL (w1 0) n1 (n1 - 0).toNat 0 0 w1).1)))), (aB, .inr (1, [.ref aBs, .ref aBw, .ref aBd, .ref aBv, .int (iI bn)])), (aBw, .inl (kI, 20, .inl (iF bw))), (aK, .inr (0, [.ref aKs, .ref aKt, .ref aKb, .ref aKz, .ref aKl, .ref aKc, .ref aKu, .int (iI kn)])), (aKb, .inl (kI, 61, .inl (iF kb))), (aKc, .inl (kI, 61, .inl (iF kc))), (aKz, .inl (kI, 61, .inl (iF (iu kz (w1 0) 2)))), (aKu, .inl (kI, 61, .inl (iF (iu ku (w1 0) (tm - kc (w1 0))))))]) [6, 0, 4, 5, 1, 2, 7, 3, 8, 9, 10] rfl
              have hD := hD.sub (ws' := [(g, .inr (6, [.ref aR, .ref aB, .ref aT, .ref aS, .ref aK, .ref aL, .int (iI tm), .int (iI al), .int (iI (max lg (tm - kc (w1 0)))), .int (iI (tt + (tm - kc (w1 0)))), .int (iI (dn + 1))])), (aL, .inl (kL, 3, .inr (.inr (.inr (.inr (g3 a0 a1 a2)))))), (a1, .inr (2, [.ref a1w, .int (iI ((rmL (w1 0) n1 (n1 - 0).toNat 0 0 w1).2))])), (a1w, .inl (kI, 16, .inl (iF ((rmL (w1 0) n1 (n1 - 0).toNat 0 0 w1).1)))), (aB, .inr (1, [.ref aBs, .ref aBw, .ref aBd, .ref aBv, .int (iI bn)])), (aBw, .inl (kI, 20, .inl (iF bw))), (aK, .inr (0, [.ref aKs, .ref aKt, .ref aKb, .ref aKz, .ref aKl, .ref aKc, .ref aKu, .int (iI kn)])), (aKb, .inl (kI, 61, .inl (iF kb))), (aKc, .inl (kI, 61, .inl (iF kc))), (aKz, .inl (kI, 61, .inl (iF (iu kz (w1 0) 2)))), (aKu, .inl (kI, 61, .inl (iF (iu ku (w1 0) (tm - kc (w1 0))))))]) [6, 0, 4, 5, 1, 2, 7, 3, 8, 9, 10] (by decide) rfl
              exact rk_int hx hb hr hlocks hK hP hD hS (by first | rfl | omega) rfl dX6_weigh_109
        · skip
          exfalso; omega
      · skip
        exfalso; omega
  · skip
    exfalso; omega

set_option maxHeartbeats 4000000 in
set_option maxRecDepth 100000 in
theorem tX6_weigh_s1 (l : Launch) (D : va_G) (kI : ClassId) (kZ : ClassId) (kL : ClassId) (kJ : ClassId) (g : Nat) (aR : Nat) (aB : Nat) (aT : Nat) (aS : Nat) (aK : Nat) (aL : Nat) (a0 : Nat) (a1 : Nat) (a2 : Nat) (a1w : Nat) (a2w : Nat) (aBs : Nat) (aBw : Nat) (aBd : Nat) (aBv : Nat) (aKs : Nat) (aKt : Nat) (aKb : Nat) (aKz : Nat) (aKl : Nat) (aKc : Nat) (aKu : Nat) (w1 : Int → Int) (w2 : Int → Int) (bw : Int → Int) (kb : Int → Int) (kl : Int → Int) (nw : Int) (al : Int) (lg : Int) (tt : Int) (dn : Int) (n1 : Int) (n2 : Int) (bn : Int) (kn : Int) (kg : Int) (tm : Int) (sz : Nat) (hnw : 0 ≤ nw ∧ nw ≤ 100000) (htm : nw ≤ tm ∧ tm ≤ 100000) (hkg : 0 ≤ kg ∧ kg ≤ 200000) (hq : 0 < n1 ∧ n1 ≤ 16) (hw1 : ∀ j, 0 ≤ w1 j ∧ w1 j ≤ 1000000) (hF : 1 ≤ w1 0 ∧ w1 0 ≤ 60) (hal : 0 ≤ al ∧ al ≤ 1000) (hbw : ∀ j, 0 ≤ bw j ∧ bw j ≤ 100000) (hkb : ∀ j, 0 ≤ kb j ∧ kb j < 20) (hn2 : 0 ≤ n2 ∧ n2 < 16) (hW : ¬ (if 0 ≤ kg - bw (kb (w1 0)) then kg - bw (kb (w1 0)) else 0 - (kg - bw (kb (w1 0)))) * 1000 ≤ bw (kb (w1 0)) * al) : CtI l yX6_weigh wsX6_weigh ({ frames := 2, cells := 0, slots := 0, locals := 43 }) D vwCl (tyL kI kZ kL kJ) [(g, .inr (6, [.ref aR, .ref aB, .ref aT, .ref aS, .ref aK, .ref aL, .int (iI nw), .int (iI al), .int (iI lg), .int (iI tt), .int (iI dn)])), (aL, .inl (kL, 3, .inr (.inr (.inr (.inr (g3 a0 a1 a2)))))), (a1, .inr (2, [.ref a1w, .int (iI n1)])), (a1w, .inl (kI, 16, .inl (iF w1))), (a2, .inr (2, [.ref a2w, .int (iI n2)])), (a2w, .inl (kI, 16, .inl (iF w2))), (aB, .inr (1, [.ref aBs, .ref aBw, .ref aBd, .ref aBv, .int (iI bn)])), (aBw, .inl (kI, 20, .inl (iF bw))), (aK, .inr (0, [.ref aKs, .ref aKt, .ref aKb, .ref aKz, .ref aKl, .ref aKc, .ref aKu, .int (iI kn)])), (aKb, .inl (kI, 61, .inl (iF kb))), (aKl, .inl (kI, 61, .inl (iF kl)))] [.ref g, .int (iI 1), .int (iI kg), .int (iI tm)] (iI (-(w1 0))) [(g, .inr (6, [.ref aR, .ref aB, .ref aT, .ref aS, .ref aK, .ref aL, .int (iI tm), .int (iI al), .int (iI lg), .int (iI tt), .int (iI dn)])), (aL, .inl (kL, 3, .inr (.inr (.inr (.inr (g3 a0 a1 a2)))))), (a1, .inr (2, [.ref a1w, .int (iI ((rmL (w1 0) n1 (n1 - 0).toNat 0 0 w1).2))])), (a1w, .inl (kI, 16, .inl (iF ((rmL (w1 0) n1 (n1 - 0).toNat 0 0 w1).1)))), (a2, .inr (2, [.ref a2w, .int (iI (n2 + 1))])), (a2w, .inl (kI, 16, .inl (iF (iu w2 n2 (w1 0))))), (aB, .inr (1, [.ref aBs, .ref aBw, .ref aBd, .ref aBv, .int (iI bn)])), (aBw, .inl (kI, 20, .inl (iF bw))), (aK, .inr (0, [.ref aKs, .ref aKt, .ref aKb, .ref aKz, .ref aKl, .ref aKc, .ref aKu, .int (iI kn)])), (aKb, .inl (kI, 61, .inl (iF kb))), (aKl, .inl (kI, 61, .inl (iF (iu kl (w1 0) 2))))] sz := by
  refine ck_start (Qc := fun A => cQi D vwCl (tyL kI kZ kL kJ) A (iI (-(w1 0))) [(g, .inr (6, [.ref aR, .ref aB, .ref aT, .ref aS, .ref aK, .ref aL, .int (iI tm), .int (iI al), .int (iI lg), .int (iI tt), .int (iI dn)])), (aL, .inl (kL, 3, .inr (.inr (.inr (.inr (g3 a0 a1 a2)))))), (a1, .inr (2, [.ref a1w, .int (iI ((rmL (w1 0) n1 (n1 - 0).toNat 0 0 w1).2))])), (a1w, .inl (kI, 16, .inl (iF ((rmL (w1 0) n1 (n1 - 0).toNat 0 0 w1).1)))), (a2, .inr (2, [.ref a2w, .int (iI (n2 + 1))])), (a2w, .inl (kI, 16, .inl (iF (iu w2 n2 (w1 0))))), (aB, .inr (1, [.ref aBs, .ref aBw, .ref aBd, .ref aBv, .int (iI bn)])), (aBw, .inl (kI, 20, .inl (iF bw))), (aK, .inr (0, [.ref aKs, .ref aKt, .ref aKb, .ref aKz, .ref aKl, .ref aKc, .ref aKu, .int (iI kn)])), (aKb, .inl (kI, 61, .inl (iF kb))), (aKl, .inl (kI, 61, .inl (iF (iu kl (w1 0) 2))))]) (cc := cX6_weigh) (maxL := 5) (ret := (some .int)) (LV := [(0, .ref g), (1, .int (iI 1)), (2, .int (iI kg)), (3, .int (iI tm))]) (by decide) rfl rfl (Nat.le_of_ble_eq_true rfl) ?_
  intro p e s m below meth cd hadm hx hb hr hml hts hown hlocks hname hnoh hxT A hA hK hP hD hS ls hl
  refine lv_iload_n hx hb dX6_weigh_0 rfl (lv_at hl 1 rfl) ?_
  refine pk_callI (va_runS (As := [.int (iI 1)]) (rest := []) ⟨hx, hb, hml, hown, hts⟩ (tX6_isLane l D kI kZ kL kJ 1 s.heap.size (by first | assumption | omega)) (cwS 1 hts (gd_S tb_cons wd_249 wd_250 wd_33 wd_251) rfl rfl rfl (by decide +kernel) ⟨Nat.le_of_ble_eq_true rfl, Nat.le_of_ble_eq_true rfl⟩) (ck_preS hxT hK hP hD [] rfl (by decide)) rfl rfl hl.1 rfl (lv_room (Nat.le_of_ble_eq_true rfl)) dX6_weigh_1 ⟨Nat.zero_le _, Nat.zero_le _⟩) ?_
  refine wk_bif_ne (tgt := 17) hx hb dX6_weigh_4 (by decide) (fun c_1 => ?_) (fun c_1 => ?_)
  · skip
    refine lv_aload_n hx hb dX6_weigh_17 rfl (lv_at hl 0 rfl) ?_
    refine lv_iload_n hx hb dX6_weigh_18 rfl (lv_at hl 3 rfl) ?_
    refine pk_callV (va_runV (As := [.int (iI tm)]) (rest := []) ⟨hx, hb, hml, hown, hts⟩ (tX6_needTime l D kI kZ kL kJ g aR aB aT aS aK aL nw al lg tt dn tm s.heap.size (by first | assumption | omega) (by first | assumption | omega)) (cwV 1 hts (gd_V tb_cons wd_511 wd_513 wd_9 wd_33 wd_514) rfl rfl rfl (by decide +kernel) ⟨Nat.le_of_ble_eq_true rfl, Nat.le_of_ble_eq_true rfl⟩) (ck_preV hxT hK hP hD [0] rfl (by decide) (q0 := 0) rfl rfl rfl) rfl rfl hl.1 rfl (lv_room (Nat.le_of_ble_eq_true rfl)) dX6_weigh_19 ⟨Nat.zero_le _, Nat.zero_le _⟩) ?_
    refine lv_iload_n hx hb dX6_weigh_22 rfl (lv_at hl 2 rfl) ?_
    refine wk_if_lt (tgt := 32) hx hb dX6_weigh_23 (by decide) (by omega) (fun c_2 => ?_) (fun c_2 => ?_)
    · skip
      exfalso; omega
    · skip
      refine lv_iload_n hx hb dX6_weigh_26 rfl (lv_at hl 2 rfl) ?_
      refine lv_ldc (v := 200000) hx hb hown (hts _ (List.mem_cons_of_mem _ wd_564)) dX6_weigh_27 ?_
      refine wk_eqi (show (200000 : Int32) = iI 200000 by decide) ?_
      refine wk_icmp_le (tgt := 42) hx hb dX6_weigh_29 (by decide) (by omega) (fun c_3 => ?_) (fun c_3 => ?_)
      · skip
        refine lv_aload_n hx hb dX6_weigh_42 rfl (lv_at hl 0 rfl) ?_
        refine lv_iload_n hx hb dX6_weigh_43 rfl (lv_at hl 3 rfl) ?_
        refine wk_put (ci := 6) (C := RX6) (T := TX6) (N := 11) hx hb hts (fun w h => (List.mem_cons_of_mem _ (hinX6 w h))) tyX6 tyX6_ok nmX6 hown hK hP hD hS 0 rfl rfl 6 (by decide) (hts _ (List.mem_cons_of_mem _ wd_195)) (fun _ h9 => h9) rfl rfl (Nat.le_of_ble_eq_true rfl) dX6_weigh_44 (ws' := [(g, .inr (6, [.ref aR, .ref aB, .ref aT, .ref aS, .ref aK, .ref aL, .int (iI tm), .int (iI al), .int (iI lg), .int (iI tt), .int (iI dn)])), (aL, .inl (kL, 3, .inr (.inr (.inr (.inr (g3 a0 a1 a2)))))), (a1, .inr (2, [.ref a1w, .int (iI n1)])), (a1w, .inl (kI, 16, .inl (iF w1))), (a2, .inr (2, [.ref a2w, .int (iI n2)])), (a2w, .inl (kI, 16, .inl (iF w2))), (aB, .inr (1, [.ref aBs, .ref aBw, .ref aBd, .ref aBv, .int (iI bn)])), (aBw, .inl (kI, 20, .inl (iF bw))), (aK, .inr (0, [.ref aKs, .ref aKt, .ref aKb, .ref aKz, .ref aKl, .ref aKc, .ref aKu, .int (iI kn)])), (aKb, .inl (kI, 61, .inl (iF kb))), (aKl, .inl (kI, 61, .inl (iF kl)))]) rfl (fun H locs hP hD hS => ?_)
        refine lv_aload_n hx hb dX6_weigh_47 rfl (lv_at hl 0 rfl) ?_
        refine va_get (D := D) (ci := 6) (v := .ref aL) (C := RX6) (T := TX6) (N := 11) hx hb hts (fun w h => (List.mem_cons_of_mem _ (hinX6 w h))) hown hK hP 0 rfl rfl 5 (by decide) (hts _ (List.mem_cons_of_mem _ wd_194)) (fun _ h9 => h9) rfl dX6_weigh_48 ?_
        refine lv_iload_n hx hb dX6_weigh_51 rfl (lv_at hl 1 rfl) ?_
        refine wk_aald (y := a1) hx hb hK hP 1 2 rfl rfl (by decide) (by decide) rfl dX6_weigh_52 ?_
        refine lv_iconst (v := iI 0) hx hb dX6_weigh_53 rfl ?_
        refine pk_callI (va_runV (As := [.int (iI 0)]) (rest := []) ⟨hx, hb, hml, hown, hts⟩ (tX2_bookingAt l D kI kZ kL kJ a1 a1w w1 n1 0 H.size (by first | assumption | omega) (by first | assumption | omega)) (cwV 1 hts (gd_V tb_cons wd_252 wd_253 wd_254 wd_40 wd_255) rfl rfl rfl (by decide +kernel) ⟨Nat.le_of_ble_eq_true rfl, Nat.le_of_ble_eq_true rfl⟩) (ck_preV hxT hK hP hD [2, 3] rfl (by decide) (q0 := 0) rfl rfl rfl) rfl rfl hl.1 rfl (lv_room (Nat.le_of_ble_eq_true rfl)) dX6_weigh_54 ⟨Nat.zero_le _, Nat.zero_le _⟩) ?_
        refine wk_eqi (show iI (if 0 ≤ 0 ∧ 0 < n1 then w1 0 else -1) = iI (w1 0) by rw [if_pos (by omega)]) ?_
        refine lv_istore (lv' := [(4, .int (iI (w1 0))), (0, .ref g), (1, .int (iI 1)), (2, .int (iI kg)), (3, .int (iI tm))]) hx hb dX6_weigh_57 hl (by decide) rfl (fun ls hl => ?_)
        refine lv_iload hx hb dX6_weigh_59 (lv_at hl 0 rfl) ?_
        refine lv_iconst (v := iI (-1)) hx hb dX6_weigh_61 rfl ?_
        refine wk_icmp_ne (tgt := 67) hx hb dX6_weigh_62 (by decide) (by omega) (fun c_4 => ?_) (fun c_4 => ?_)
        · skip
          refine lv_aload_n hx hb dX6_weigh_67 rfl (lv_at hl 1 rfl) ?_
          refine va_get (D := D) (ci := 6) (v := .ref aL) (C := RX6) (T := TX6) (N := 11) hx hb hts (fun w h => (List.mem_cons_of_mem _ (hinX6 w h))) hown hK hP 0 rfl rfl 5 (by decide) (hts _ (List.mem_cons_of_mem _ wd_194)) (fun _ h9 => h9) rfl dX6_weigh_68 ?_
          refine lv_iload_n hx hb dX6_weigh_71 rfl (lv_at hl 2 rfl) ?_
          refine wk_aald (y := a1) hx hb hK hP 1 2 rfl rfl (by decide) (by decide) rfl dX6_weigh_72 ?_
          refine lv_iload hx hb dX6_weigh_73 (lv_at hl 0 rfl) ?_
          refine ck_backV (va_runV (As := [.int (iI (w1 0))]) (rest := []) ⟨hx, hb, hml, hown, hts⟩ (tX2_remove l D kI kZ kL kJ a1 a1w w1 n1 (w1 0) H.size (by first | assumption | omega) (by first | assumption | omega) (by first | assumption | omega)) (cwV 1 hts (gd_V tb_cons wd_457 wd_458 wd_459 wd_40 wd_460) rfl rfl rfl (by decide +kernel) ⟨Nat.le_of_ble_eq_true rfl, Nat.le_of_ble_eq_true rfl⟩) (ck_preV hxT hK hP hD [2, 3] rfl (by decide) (q0 := 0) rfl rfl rfl) rfl rfl hl.1 rfl (lv_room (Nat.le_of_ble_eq_true rfl)) dX6_weigh_75 ⟨Nat.zero_le _, Nat.zero_le _⟩) hP hD hS hA [2, 3] [0, 1, 4, 5, 6, 7, 8, 9, 10] (WR := [(g, .inr (6, [.ref aR, .ref aB, .ref aT, .ref aS, .ref aK, .ref aL, .int (iI tm), .int (iI al), .int (iI lg), .int (iI tt), .int (iI dn)])), (aL, .inl (kL, 3, .inr (.inr (.inr (.inr (g3 a0 a1 a2)))))), (a2, .inr (2, [.ref a2w, .int (iI n2)])), (a2w, .inl (kI, 16, .inl (iF w2))), (aB, .inr (1, [.ref aBs, .ref aBw, .ref aBd, .ref aBv, .int (iI bn)])), (aBw, .inl (kI, 20, .inl (iF bw))), (aK, .inr (0, [.ref aKs, .ref aKt, .ref aKb, .ref aKz, .ref aKl, .ref aKc, .ref aKu, .int (iI kn)])), (aKb, .inl (kI, 61, .inl (iF kb))), (aKl, .inl (kI, 61, .inl (iF kl)))]) rfl rfl (by decide) (by decide) (ws' := [(g, .inr (6, [.ref aR, .ref aB, .ref aT, .ref aS, .ref aK, .ref aL, .int (iI tm), .int (iI al), .int (iI lg), .int (iI tt), .int (iI dn)])), (aL, .inl (kL, 3, .inr (.inr (.inr (.inr (g3 a0 a1 a2)))))), (a2, .inr (2, [.ref a2w, .int (iI n2)])), (a2w, .inl (kI, 16, .inl (iF w2))), (aB, .inr (1, [.ref aBs, .ref aBw, .ref aBd, .ref aBv, .int (iI bn)])), (aBw, .inl (kI, 20, .inl (iF bw))), (aK, .inr (0, [.ref aKs, .ref aKt, .ref aKb, .ref aKz, .ref aKl, .ref aKc, .ref aKu, .int (iI kn)])), (aKb, .inl (kI, 61, .inl (iF kb))), (aKl, .inl (kI, 61, .inl (iF kl))), (a1, .inr (2, [.ref a1w, .int (iI ((rmL (w1 0) n1 (n1 - 0).toNat 0 0 w1).2))])), (a1w, .inl (kI, 16, .inl (iF ((rmL (w1 0) n1 (n1 - 0).toNat 0 0 w1).1))))]) rfl (fun H locs hP hD hS => ?_)
          refine lv_iload_n hx hb dX6_weigh_78 rfl (lv_at hl 2 rfl) ?_
          refine lv_iconst (v := iI 2) hx hb dX6_weigh_79 rfl ?_
          refine wk_icmp_eq (tgt := 101) hx hb dX6_weigh_80 (by decide) (by omega) (fun c_5 => ?_) (fun c_5 => ?_)
          · skip
            exfalso; omega
          · skip
            refine lv_aload_n hx hb dX6_weigh_83 rfl (lv_at hl 1 rfl) ?_
            refine lv_aload_n hx hb dX6_weigh_84 rfl (lv_at hl 1 rfl) ?_
            refine va_get (D := D) (ci := 6) (v := .ref aK) (C := RX6) (T := TX6) (N := 11) hx hb hts (fun w h => (List.mem_cons_of_mem _ (hinX6 w h))) hown hK hP 0 rfl rfl 4 (by decide) (hts _ (List.mem_cons_of_mem _ wd_193)) (fun _ h9 => h9) rfl dX6_weigh_85 ?_
            refine va_get (D := D) (ci := 0) (v := .ref aKb) (C := RX0) (T := TX0) (N := 8) hx hb hts (fun w h => (List.mem_cons_of_mem _ (hinX0 w h))) hown hK hP 6 rfl rfl 2 (by decide) (hts _ (List.mem_cons_of_mem _ wd_146)) (fun _ h9 => h9) rfl dX6_weigh_88 ?_
            refine lv_iload hx hb dX6_weigh_91 (lv_at hl 0 rfl) ?_
            refine wk_iald hx hb hK hP 7 0 rfl rfl (by decide) (by omega) dX6_weigh_93 ?_
            have b8 := hkb (w1 0)
            refine lv_iload_n hx hb dX6_weigh_94 rfl (lv_at hl 3 rfl) ?_
            refine pk_callI (va_runV (As := [.int (iI (kb (w1 0))), .int (iI kg)]) (rest := []) ⟨hx, hb, hml, hown, hts⟩ (tX6_isWithinTolerance l D kI kZ kL kJ g aR aB aT aS aK aL aBs aBw aBd aBv bw tm al lg tt dn bn (kb (w1 0)) kg H.size (by first | assumption | omega) (by first | assumption | omega) (by first | assumption | omega) (by first | assumption | omega)) (cwV 2 hts (gd_V tb_cons wd_565 wd_567 wd_16 wd_33 wd_568) rfl rfl rfl (by decide +kernel) ⟨Nat.le_of_ble_eq_true rfl, Nat.le_of_ble_eq_true rfl⟩) (ck_preV hxT hK hP hD [0, 4, 5] rfl (by decide) (q0 := 0) rfl rfl rfl) rfl rfl hl.1 rfl (lv_room (Nat.le_of_ble_eq_true rfl)) dX6_weigh_95 ⟨Nat.zero_le _, Nat.zero_le _⟩) ?_
            refine wk_bif_eq (tgt := 110) hx hb dX6_weigh_98 (by decide) (fun c_6 => ?_) (fun c_6 => ?_)
            · skip
              refine lv_aload_n hx hb dX6_weigh_110 rfl (lv_at hl 1 rfl) ?_
              refine lv_iload hx hb dX6_weigh_111 (lv_at hl 0 rfl) ?_
              refine lv_iconst (v := iI 2) hx hb dX6_weigh_113 rfl ?_
              refine ck_backV (va_runV (As := [.int (iI (w1 0)), .int (iI 2)]) (rest := []) ⟨hx, hb, hml, hown, hts⟩ (tX6_joinLane_2 l D kI kZ kL kJ g aR aB aT aS aK aL aKs aKt aKb aKz aKl aKc aKu a0 a1 a2 a2w kl w2 tm al lg tt dn kn n2 (w1 0) H.size (by first | assumption | omega) (by first | assumption | omega)) (cwV 2 hts (gd_V tb_cons wd_548 wd_550 wd_15 wd_33 wd_551) rfl rfl rfl (by decide +kernel) ⟨Nat.le_of_ble_eq_true rfl, Nat.le_of_ble_eq_true rfl⟩) (ck_preV hxT hK hP hD [0, 6, 8, 1, 2, 3] rfl (by decide) (q0 := 0) rfl rfl rfl) rfl rfl hl.1 rfl (lv_room (Nat.le_of_ble_eq_true rfl)) dX6_weigh_114 ⟨Nat.zero_le _, Nat.zero_le _⟩) hP hD hS hA [0, 6, 8, 1, 2, 3] [4, 5, 7, 9, 10] (WR := [(aB, .inr (1, [.ref aBs, .ref aBw, .ref aBd, .ref aBv, .int (iI bn)])), (aBw, .inl (kI, 20, .inl (iF bw))), (aKb, .inl (kI, 61, .inl (iF kb))), (a1, .inr (2, [.ref a1w, .int (iI ((rmL (w1 0) n1 (n1 - 0).toNat 0 0 w1).2))])), (a1w, .inl (kI, 16, .inl (iF ((rmL (w1 0) n1 (n1 - 0).toNat 0 0 w1).1))))]) rfl rfl (by decide) (by decide) (ws' := [(aB, .inr (1, [.ref aBs, .ref aBw, .ref aBd, .ref aBv, .int (iI bn)])), (aBw, .inl (kI, 20, .inl (iF bw))), (aKb, .inl (kI, 61, .inl (iF kb))), (a1, .inr (2, [.ref a1w, .int (iI ((rmL (w1 0) n1 (n1 - 0).toNat 0 0 w1).2))])), (a1w, .inl (kI, 16, .inl (iF ((rmL (w1 0) n1 (n1 - 0).toNat 0 0 w1).1)))), (g, .inr (6, [.ref aR, .ref aB, .ref aT, .ref aS, .ref aK, .ref aL, .int (iI tm), .int (iI al), .int (iI lg), .int (iI tt), .int (iI dn)])), (aK, .inr (0, [.ref aKs, .ref aKt, .ref aKb, .ref aKz, .ref aKl, .ref aKc, .ref aKu, .int (iI kn)])), (aKl, .inl (kI, 61, .inl (iF (iu kl (w1 0) 2)))), (aL, .inl (kL, 3, .inr (.inr (.inr (.inr (g3 a0 a1 a2)))))), (a2, .inr (2, [.ref a2w, .int (iI (n2 + 1))])), (a2w, .inl (kI, 16, .inl (iF (iu w2 n2 (w1 0)))))]) rfl (fun H locs hP hD hS => ?_)
              refine lv_iload hx hb dX6_weigh_117 (lv_at hl 0 rfl) ?_
              refine wk_ineg hx hb dX6_weigh_119 ?_
              have hP := hP.sub (ws' := [(g, .inr (6, [.ref aR, .ref aB, .ref aT, .ref aS, .ref aK, .ref aL, .int (iI tm), .int (iI al), .int (iI lg), .int (iI tt), .int (iI dn)])), (aL, .inl (kL, 3, .inr (.inr (.inr (.inr (g3 a0 a1 a2)))))), (a1, .inr (2, [.ref a1w, .int (iI ((rmL (w1 0) n1 (n1 - 0).toNat 0 0 w1).2))])), (a1w, .inl (kI, 16, .inl (iF ((rmL (w1 0) n1 (n1 - 0).toNat 0 0 w1).1)))), (a2, .inr (2, [.ref a2w, .int (iI (n2 + 1))])), (a2w, .inl (kI, 16, .inl (iF (iu w2 n2 (w1 0))))), (aB, .inr (1, [.ref aBs, .ref aBw, .ref aBd, .ref aBv, .int (iI bn)])), (aBw, .inl (kI, 20, .inl (iF bw))), (aK, .inr (0, [.ref aKs, .ref aKt, .ref aKb, .ref aKz, .ref aKl, .ref aKc, .ref aKu, .int (iI kn)])), (aKb, .inl (kI, 61, .inl (iF kb))), (aKl, .inl (kI, 61, .inl (iF (iu kl (w1 0) 2))))]) [5, 8, 3, 4, 9, 10, 0, 1, 6, 2, 7] rfl
              have hD := hD.sub (ws' := [(g, .inr (6, [.ref aR, .ref aB, .ref aT, .ref aS, .ref aK, .ref aL, .int (iI tm), .int (iI al), .int (iI lg), .int (iI tt), .int (iI dn)])), (aL, .inl (kL, 3, .inr (.inr (.inr (.inr (g3 a0 a1 a2)))))), (a1, .inr (2, [.ref a1w, .int (iI ((rmL (w1 0) n1 (n1 - 0).toNat 0 0 w1).2))])), (a1w, .inl (kI, 16, .inl (iF ((rmL (w1 0) n1 (n1 - 0).toNat 0 0 w1).1)))), (a2, .inr (2, [.ref a2w, .int (iI (n2 + 1))])), (a2w, .inl (kI, 16, .inl (iF (iu w2 n2 (w1 0))))), (aB, .inr (1, [.ref aBs, .ref aBw, .ref aBd, .ref aBv, .int (iI bn)])), (aBw, .inl (kI, 20, .inl (iF bw))), (aK, .inr (0, [.ref aKs, .ref aKt, .ref aKb, .ref aKz, .ref aKl, .ref aKc, .ref aKu, .int (iI kn)])), (aKb, .inl (kI, 61, .inl (iF kb))), (aKl, .inl (kI, 61, .inl (iF (iu kl (w1 0) 2))))]) [5, 8, 3, 4, 9, 10, 0, 1, 6, 2, 7] (by decide) rfl
              exact rk_int hx hb hr hlocks hK hP hD hS (by first | rfl | omega) rfl dX6_weigh_120
            · skip
              contradiction
        · skip
          exfalso; omega
      · skip
        exfalso; omega
  · skip
    exfalso; omega

set_option maxHeartbeats 4000000 in
set_option maxRecDepth 100000 in
theorem tX6_weigh_e2 (l : Launch) (D : va_G) (kI : ClassId) (kZ : ClassId) (kL : ClassId) (kJ : ClassId) (g : Nat) (aR : Nat) (aB : Nat) (aT : Nat) (aS : Nat) (aK : Nat) (aL : Nat) (a0 : Nat) (a1 : Nat) (a2 : Nat) (a2w : Nat) (w2 : Int → Int) (nw : Int) (al : Int) (lg : Int) (tt : Int) (dn : Int) (n2 : Int) (kg : Int) (tm : Int) (sz : Nat) (hnw : 0 ≤ nw ∧ nw ≤ 100000) (htm : nw ≤ tm ∧ tm ≤ 100000) (hkg : 0 ≤ kg ∧ kg ≤ 200000) (hq : n2 = 0) : CtI l yX6_weigh wsX6_weigh ({ frames := 1, cells := 0, slots := 0, locals := 21 }) D vwCl (tyL kI kZ kL kJ) [(g, .inr (6, [.ref aR, .ref aB, .ref aT, .ref aS, .ref aK, .ref aL, .int (iI nw), .int (iI al), .int (iI lg), .int (iI tt), .int (iI dn)])), (aL, .inl (kL, 3, .inr (.inr (.inr (.inr (g3 a0 a1 a2)))))), (a2, .inr (2, [.ref a2w, .int (iI n2)])), (a2w, .inl (kI, 16, .inl (iF w2)))] [.ref g, .int (iI 2), .int (iI kg), .int (iI tm)] (iI 0) [(g, .inr (6, [.ref aR, .ref aB, .ref aT, .ref aS, .ref aK, .ref aL, .int (iI tm), .int (iI al), .int (iI lg), .int (iI tt), .int (iI dn)])), (aL, .inl (kL, 3, .inr (.inr (.inr (.inr (g3 a0 a1 a2)))))), (a2, .inr (2, [.ref a2w, .int (iI n2)])), (a2w, .inl (kI, 16, .inl (iF w2)))] sz := by
  refine ck_start (Qc := fun A => cQi D vwCl (tyL kI kZ kL kJ) A (iI 0) [(g, .inr (6, [.ref aR, .ref aB, .ref aT, .ref aS, .ref aK, .ref aL, .int (iI tm), .int (iI al), .int (iI lg), .int (iI tt), .int (iI dn)])), (aL, .inl (kL, 3, .inr (.inr (.inr (.inr (g3 a0 a1 a2)))))), (a2, .inr (2, [.ref a2w, .int (iI n2)])), (a2w, .inl (kI, 16, .inl (iF w2)))]) (cc := cX6_weigh) (maxL := 5) (ret := (some .int)) (LV := [(0, .ref g), (1, .int (iI 2)), (2, .int (iI kg)), (3, .int (iI tm))]) (by decide) rfl rfl (Nat.le_of_ble_eq_true rfl) ?_
  intro p e s m below meth cd hadm hx hb hr hml hts hown hlocks hname hnoh hxT A hA hK hP hD hS ls hl
  refine lv_iload_n hx hb dX6_weigh_0 rfl (lv_at hl 1 rfl) ?_
  refine pk_callI (va_runS (As := [.int (iI 2)]) (rest := []) ⟨hx, hb, hml, hown, hts⟩ (tX6_isLane l D kI kZ kL kJ 2 s.heap.size (by first | assumption | omega)) (cwS 1 hts (gd_S tb_cons wd_249 wd_250 wd_33 wd_251) rfl rfl rfl (by decide +kernel) ⟨Nat.le_of_ble_eq_true rfl, Nat.le_of_ble_eq_true rfl⟩) (ck_preS hxT hK hP hD [] rfl (by decide)) rfl rfl hl.1 rfl (lv_room (Nat.le_of_ble_eq_true rfl)) dX6_weigh_1 ⟨Nat.zero_le _, Nat.zero_le _⟩) ?_
  refine wk_bif_ne (tgt := 17) hx hb dX6_weigh_4 (by decide) (fun c_1 => ?_) (fun c_1 => ?_)
  · skip
    refine lv_aload_n hx hb dX6_weigh_17 rfl (lv_at hl 0 rfl) ?_
    refine lv_iload_n hx hb dX6_weigh_18 rfl (lv_at hl 3 rfl) ?_
    refine pk_callV (va_runV (As := [.int (iI tm)]) (rest := []) ⟨hx, hb, hml, hown, hts⟩ (tX6_needTime l D kI kZ kL kJ g aR aB aT aS aK aL nw al lg tt dn tm s.heap.size (by first | assumption | omega) (by first | assumption | omega)) (cwV 1 hts (gd_V tb_cons wd_511 wd_513 wd_9 wd_33 wd_514) rfl rfl rfl (by decide +kernel) ⟨Nat.le_of_ble_eq_true rfl, Nat.le_of_ble_eq_true rfl⟩) (ck_preV hxT hK hP hD [0] rfl (by decide) (q0 := 0) rfl rfl rfl) rfl rfl hl.1 rfl (lv_room (Nat.le_of_ble_eq_true rfl)) dX6_weigh_19 ⟨Nat.zero_le _, Nat.zero_le _⟩) ?_
    refine lv_iload_n hx hb dX6_weigh_22 rfl (lv_at hl 2 rfl) ?_
    refine wk_if_lt (tgt := 32) hx hb dX6_weigh_23 (by decide) (by omega) (fun c_2 => ?_) (fun c_2 => ?_)
    · skip
      exfalso; omega
    · skip
      refine lv_iload_n hx hb dX6_weigh_26 rfl (lv_at hl 2 rfl) ?_
      refine lv_ldc (v := 200000) hx hb hown (hts _ (List.mem_cons_of_mem _ wd_564)) dX6_weigh_27 ?_
      refine wk_eqi (show (200000 : Int32) = iI 200000 by decide) ?_
      refine wk_icmp_le (tgt := 42) hx hb dX6_weigh_29 (by decide) (by omega) (fun c_3 => ?_) (fun c_3 => ?_)
      · skip
        refine lv_aload_n hx hb dX6_weigh_42 rfl (lv_at hl 0 rfl) ?_
        refine lv_iload_n hx hb dX6_weigh_43 rfl (lv_at hl 3 rfl) ?_
        refine wk_put (ci := 6) (C := RX6) (T := TX6) (N := 11) hx hb hts (fun w h => (List.mem_cons_of_mem _ (hinX6 w h))) tyX6 tyX6_ok nmX6 hown hK hP hD hS 0 rfl rfl 6 (by decide) (hts _ (List.mem_cons_of_mem _ wd_195)) (fun _ h9 => h9) rfl rfl (Nat.le_of_ble_eq_true rfl) dX6_weigh_44 (ws' := [(g, .inr (6, [.ref aR, .ref aB, .ref aT, .ref aS, .ref aK, .ref aL, .int (iI tm), .int (iI al), .int (iI lg), .int (iI tt), .int (iI dn)])), (aL, .inl (kL, 3, .inr (.inr (.inr (.inr (g3 a0 a1 a2)))))), (a2, .inr (2, [.ref a2w, .int (iI n2)])), (a2w, .inl (kI, 16, .inl (iF w2)))]) rfl (fun H locs hP hD hS => ?_)
        refine lv_aload_n hx hb dX6_weigh_47 rfl (lv_at hl 0 rfl) ?_
        refine va_get (D := D) (ci := 6) (v := .ref aL) (C := RX6) (T := TX6) (N := 11) hx hb hts (fun w h => (List.mem_cons_of_mem _ (hinX6 w h))) hown hK hP 0 rfl rfl 5 (by decide) (hts _ (List.mem_cons_of_mem _ wd_194)) (fun _ h9 => h9) rfl dX6_weigh_48 ?_
        refine lv_iload_n hx hb dX6_weigh_51 rfl (lv_at hl 1 rfl) ?_
        refine wk_aald (y := a2) hx hb hK hP 1 2 rfl rfl (by decide) (by decide) rfl dX6_weigh_52 ?_
        refine lv_iconst (v := iI 0) hx hb dX6_weigh_53 rfl ?_
        refine pk_callI (va_runV (As := [.int (iI 0)]) (rest := []) ⟨hx, hb, hml, hown, hts⟩ (tX2_bookingAt l D kI kZ kL kJ a2 a2w w2 n2 0 H.size (by first | assumption | omega) (by first | assumption | omega)) (cwV 1 hts (gd_V tb_cons wd_252 wd_253 wd_254 wd_40 wd_255) rfl rfl rfl (by decide +kernel) ⟨Nat.le_of_ble_eq_true rfl, Nat.le_of_ble_eq_true rfl⟩) (ck_preV hxT hK hP hD [2, 3] rfl (by decide) (q0 := 0) rfl rfl rfl) rfl rfl hl.1 rfl (lv_room (Nat.le_of_ble_eq_true rfl)) dX6_weigh_54 ⟨Nat.zero_le _, Nat.zero_le _⟩) ?_
        refine wk_eqi (show iI (if 0 ≤ 0 ∧ 0 < n2 then w2 0 else -1) = iI (-1) by rw [if_neg (by omega)]) ?_
        refine lv_istore (lv' := [(4, .int (iI (-1))), (0, .ref g), (1, .int (iI 2)), (2, .int (iI kg)), (3, .int (iI tm))]) hx hb dX6_weigh_57 hl (by decide) rfl (fun ls hl => ?_)
        refine lv_iload hx hb dX6_weigh_59 (lv_at hl 0 rfl) ?_
        refine lv_iconst (v := iI (-1)) hx hb dX6_weigh_61 rfl ?_
        refine wk_icmp_ne (tgt := 67) hx hb dX6_weigh_62 (by decide) (by omega) (fun c_4 => ?_) (fun c_4 => ?_)
        · skip
          exfalso; omega
        · skip
          refine lv_iconst (v := iI 0) hx hb dX6_weigh_65 rfl ?_
          exact rk_int hx hb hr hlocks hK hP hD hS (by first | rfl | omega) rfl dX6_weigh_66
      · skip
        exfalso; omega
  · skip
    exfalso; omega

set_option maxHeartbeats 4000000 in
set_option maxRecDepth 100000 in
theorem tX6_weigh_d2 (l : Launch) (D : va_G) (kI : ClassId) (kZ : ClassId) (kL : ClassId) (kJ : ClassId) (g : Nat) (aR : Nat) (aB : Nat) (aT : Nat) (aS : Nat) (aK : Nat) (aL : Nat) (a0 : Nat) (a1 : Nat) (a2 : Nat) (a2w : Nat) (aKs : Nat) (aKt : Nat) (aKb : Nat) (aKz : Nat) (aKl : Nat) (aKc : Nat) (aKu : Nat) (w2 : Int → Int) (kc : Int → Int) (kz : Int → Int) (ku : Int → Int) (nw : Int) (al : Int) (lg : Int) (tt : Int) (dn : Int) (n2 : Int) (kn : Int) (kg : Int) (tm : Int) (sz : Nat) (hnw : 0 ≤ nw ∧ nw ≤ 100000) (htm : nw ≤ tm ∧ tm ≤ 100000) (hkg : 0 ≤ kg ∧ kg ≤ 200000) (hq : 0 < n2 ∧ n2 ≤ 16) (hw2 : ∀ j, 0 ≤ w2 j ∧ w2 j ≤ 1000000) (hF : 1 ≤ w2 0 ∧ w2 0 ≤ 60) (hlg : 0 ≤ lg ∧ lg ≤ 100000) (hkc : ∀ j, 0 ≤ kc j ∧ kc j ≤ 1000000) : CtI l yX6_weigh wsX6_weigh ({ frames := 2, cells := 0, slots := 0, locals := 36 }) D vwCl (tyL kI kZ kL kJ) [(g, .inr (6, [.ref aR, .ref aB, .ref aT, .ref aS, .ref aK, .ref aL, .int (iI nw), .int (iI al), .int (iI lg), .int (iI tt), .int (iI dn)])), (aL, .inl (kL, 3, .inr (.inr (.inr (.inr (g3 a0 a1 a2)))))), (a2, .inr (2, [.ref a2w, .int (iI n2)])), (a2w, .inl (kI, 16, .inl (iF w2))), (aK, .inr (0, [.ref aKs, .ref aKt, .ref aKb, .ref aKz, .ref aKl, .ref aKc, .ref aKu, .int (iI kn)])), (aKc, .inl (kI, 61, .inl (iF kc))), (aKz, .inl (kI, 61, .inl (iF kz))), (aKu, .inl (kI, 61, .inl (iF ku)))] [.ref g, .int (iI 2), .int (iI kg), .int (iI tm)] (iI (w2 0)) [(g, .inr (6, [.ref aR, .ref aB, .ref aT, .ref aS, .ref aK, .ref aL, .int (iI tm), .int (iI al), .int (iI (max lg (tm - kc (w2 0)))), .int (iI (tt + (tm - kc (w2 0)))), .int (iI (dn + 1))])), (aL, .inl (kL, 3, .inr (.inr (.inr (.inr (g3 a0 a1 a2)))))), (a2, .inr (2, [.ref a2w, .int (iI ((rmL (w2 0) n2 (n2 - 0).toNat 0 0 w2).2))])), (a2w, .inl (kI, 16, .inl (iF ((rmL (w2 0) n2 (n2 - 0).toNat 0 0 w2).1)))), (aK, .inr (0, [.ref aKs, .ref aKt, .ref aKb, .ref aKz, .ref aKl, .ref aKc, .ref aKu, .int (iI kn)])), (aKc, .inl (kI, 61, .inl (iF kc))), (aKz, .inl (kI, 61, .inl (iF (iu kz (w2 0) 2)))), (aKu, .inl (kI, 61, .inl (iF (iu ku (w2 0) (tm - kc (w2 0))))))] sz := by
  refine ck_start (Qc := fun A => cQi D vwCl (tyL kI kZ kL kJ) A (iI (w2 0)) [(g, .inr (6, [.ref aR, .ref aB, .ref aT, .ref aS, .ref aK, .ref aL, .int (iI tm), .int (iI al), .int (iI (max lg (tm - kc (w2 0)))), .int (iI (tt + (tm - kc (w2 0)))), .int (iI (dn + 1))])), (aL, .inl (kL, 3, .inr (.inr (.inr (.inr (g3 a0 a1 a2)))))), (a2, .inr (2, [.ref a2w, .int (iI ((rmL (w2 0) n2 (n2 - 0).toNat 0 0 w2).2))])), (a2w, .inl (kI, 16, .inl (iF ((rmL (w2 0) n2 (n2 - 0).toNat 0 0 w2).1)))), (aK, .inr (0, [.ref aKs, .ref aKt, .ref aKb, .ref aKz, .ref aKl, .ref aKc, .ref aKu, .int (iI kn)])), (aKc, .inl (kI, 61, .inl (iF kc))), (aKz, .inl (kI, 61, .inl (iF (iu kz (w2 0) 2)))), (aKu, .inl (kI, 61, .inl (iF (iu ku (w2 0) (tm - kc (w2 0))))))]) (cc := cX6_weigh) (maxL := 5) (ret := (some .int)) (LV := [(0, .ref g), (1, .int (iI 2)), (2, .int (iI kg)), (3, .int (iI tm))]) (by decide) rfl rfl (Nat.le_of_ble_eq_true rfl) ?_
  intro p e s m below meth cd hadm hx hb hr hml hts hown hlocks hname hnoh hxT A hA hK hP hD hS ls hl
  refine lv_iload_n hx hb dX6_weigh_0 rfl (lv_at hl 1 rfl) ?_
  refine pk_callI (va_runS (As := [.int (iI 2)]) (rest := []) ⟨hx, hb, hml, hown, hts⟩ (tX6_isLane l D kI kZ kL kJ 2 s.heap.size (by first | assumption | omega)) (cwS 1 hts (gd_S tb_cons wd_249 wd_250 wd_33 wd_251) rfl rfl rfl (by decide +kernel) ⟨Nat.le_of_ble_eq_true rfl, Nat.le_of_ble_eq_true rfl⟩) (ck_preS hxT hK hP hD [] rfl (by decide)) rfl rfl hl.1 rfl (lv_room (Nat.le_of_ble_eq_true rfl)) dX6_weigh_1 ⟨Nat.zero_le _, Nat.zero_le _⟩) ?_
  refine wk_bif_ne (tgt := 17) hx hb dX6_weigh_4 (by decide) (fun c_1 => ?_) (fun c_1 => ?_)
  · skip
    refine lv_aload_n hx hb dX6_weigh_17 rfl (lv_at hl 0 rfl) ?_
    refine lv_iload_n hx hb dX6_weigh_18 rfl (lv_at hl 3 rfl) ?_
    refine pk_callV (va_runV (As := [.int (iI tm)]) (rest := []) ⟨hx, hb, hml, hown, hts⟩ (tX6_needTime l D kI kZ kL kJ g aR aB aT aS aK aL nw al lg tt dn tm s.heap.size (by first | assumption | omega) (by first | assumption | omega)) (cwV 1 hts (gd_V tb_cons wd_511 wd_513 wd_9 wd_33 wd_514) rfl rfl rfl (by decide +kernel) ⟨Nat.le_of_ble_eq_true rfl, Nat.le_of_ble_eq_true rfl⟩) (ck_preV hxT hK hP hD [0] rfl (by decide) (q0 := 0) rfl rfl rfl) rfl rfl hl.1 rfl (lv_room (Nat.le_of_ble_eq_true rfl)) dX6_weigh_19 ⟨Nat.zero_le _, Nat.zero_le _⟩) ?_
    refine lv_iload_n hx hb dX6_weigh_22 rfl (lv_at hl 2 rfl) ?_
    refine wk_if_lt (tgt := 32) hx hb dX6_weigh_23 (by decide) (by omega) (fun c_2 => ?_) (fun c_2 => ?_)
    · skip
      exfalso; omega
    · skip
      refine lv_iload_n hx hb dX6_weigh_26 rfl (lv_at hl 2 rfl) ?_
      refine lv_ldc (v := 200000) hx hb hown (hts _ (List.mem_cons_of_mem _ wd_564)) dX6_weigh_27 ?_
      refine wk_eqi (show (200000 : Int32) = iI 200000 by decide) ?_
      refine wk_icmp_le (tgt := 42) hx hb dX6_weigh_29 (by decide) (by omega) (fun c_3 => ?_) (fun c_3 => ?_)
      · skip
        refine lv_aload_n hx hb dX6_weigh_42 rfl (lv_at hl 0 rfl) ?_
        refine lv_iload_n hx hb dX6_weigh_43 rfl (lv_at hl 3 rfl) ?_
        refine wk_put (ci := 6) (C := RX6) (T := TX6) (N := 11) hx hb hts (fun w h => (List.mem_cons_of_mem _ (hinX6 w h))) tyX6 tyX6_ok nmX6 hown hK hP hD hS 0 rfl rfl 6 (by decide) (hts _ (List.mem_cons_of_mem _ wd_195)) (fun _ h9 => h9) rfl rfl (Nat.le_of_ble_eq_true rfl) dX6_weigh_44 (ws' := [(g, .inr (6, [.ref aR, .ref aB, .ref aT, .ref aS, .ref aK, .ref aL, .int (iI tm), .int (iI al), .int (iI lg), .int (iI tt), .int (iI dn)])), (aL, .inl (kL, 3, .inr (.inr (.inr (.inr (g3 a0 a1 a2)))))), (a2, .inr (2, [.ref a2w, .int (iI n2)])), (a2w, .inl (kI, 16, .inl (iF w2))), (aK, .inr (0, [.ref aKs, .ref aKt, .ref aKb, .ref aKz, .ref aKl, .ref aKc, .ref aKu, .int (iI kn)])), (aKc, .inl (kI, 61, .inl (iF kc))), (aKz, .inl (kI, 61, .inl (iF kz))), (aKu, .inl (kI, 61, .inl (iF ku)))]) rfl (fun H locs hP hD hS => ?_)
        refine lv_aload_n hx hb dX6_weigh_47 rfl (lv_at hl 0 rfl) ?_
        refine va_get (D := D) (ci := 6) (v := .ref aL) (C := RX6) (T := TX6) (N := 11) hx hb hts (fun w h => (List.mem_cons_of_mem _ (hinX6 w h))) hown hK hP 0 rfl rfl 5 (by decide) (hts _ (List.mem_cons_of_mem _ wd_194)) (fun _ h9 => h9) rfl dX6_weigh_48 ?_
        refine lv_iload_n hx hb dX6_weigh_51 rfl (lv_at hl 1 rfl) ?_
        refine wk_aald (y := a2) hx hb hK hP 1 2 rfl rfl (by decide) (by decide) rfl dX6_weigh_52 ?_
        refine lv_iconst (v := iI 0) hx hb dX6_weigh_53 rfl ?_
        refine pk_callI (va_runV (As := [.int (iI 0)]) (rest := []) ⟨hx, hb, hml, hown, hts⟩ (tX2_bookingAt l D kI kZ kL kJ a2 a2w w2 n2 0 H.size (by first | assumption | omega) (by first | assumption | omega)) (cwV 1 hts (gd_V tb_cons wd_252 wd_253 wd_254 wd_40 wd_255) rfl rfl rfl (by decide +kernel) ⟨Nat.le_of_ble_eq_true rfl, Nat.le_of_ble_eq_true rfl⟩) (ck_preV hxT hK hP hD [2, 3] rfl (by decide) (q0 := 0) rfl rfl rfl) rfl rfl hl.1 rfl (lv_room (Nat.le_of_ble_eq_true rfl)) dX6_weigh_54 ⟨Nat.zero_le _, Nat.zero_le _⟩) ?_
        refine wk_eqi (show iI (if 0 ≤ 0 ∧ 0 < n2 then w2 0 else -1) = iI (w2 0) by rw [if_pos (by omega)]) ?_
        refine lv_istore (lv' := [(4, .int (iI (w2 0))), (0, .ref g), (1, .int (iI 2)), (2, .int (iI kg)), (3, .int (iI tm))]) hx hb dX6_weigh_57 hl (by decide) rfl (fun ls hl => ?_)
        refine lv_iload hx hb dX6_weigh_59 (lv_at hl 0 rfl) ?_
        refine lv_iconst (v := iI (-1)) hx hb dX6_weigh_61 rfl ?_
        refine wk_icmp_ne (tgt := 67) hx hb dX6_weigh_62 (by decide) (by omega) (fun c_4 => ?_) (fun c_4 => ?_)
        · skip
          refine lv_aload_n hx hb dX6_weigh_67 rfl (lv_at hl 1 rfl) ?_
          refine va_get (D := D) (ci := 6) (v := .ref aL) (C := RX6) (T := TX6) (N := 11) hx hb hts (fun w h => (List.mem_cons_of_mem _ (hinX6 w h))) hown hK hP 0 rfl rfl 5 (by decide) (hts _ (List.mem_cons_of_mem _ wd_194)) (fun _ h9 => h9) rfl dX6_weigh_68 ?_
          refine lv_iload_n hx hb dX6_weigh_71 rfl (lv_at hl 2 rfl) ?_
          refine wk_aald (y := a2) hx hb hK hP 1 2 rfl rfl (by decide) (by decide) rfl dX6_weigh_72 ?_
          refine lv_iload hx hb dX6_weigh_73 (lv_at hl 0 rfl) ?_
          refine ck_backV (va_runV (As := [.int (iI (w2 0))]) (rest := []) ⟨hx, hb, hml, hown, hts⟩ (tX2_remove l D kI kZ kL kJ a2 a2w w2 n2 (w2 0) H.size (by first | assumption | omega) (by first | assumption | omega) (by first | assumption | omega)) (cwV 1 hts (gd_V tb_cons wd_457 wd_458 wd_459 wd_40 wd_460) rfl rfl rfl (by decide +kernel) ⟨Nat.le_of_ble_eq_true rfl, Nat.le_of_ble_eq_true rfl⟩) (ck_preV hxT hK hP hD [2, 3] rfl (by decide) (q0 := 0) rfl rfl rfl) rfl rfl hl.1 rfl (lv_room (Nat.le_of_ble_eq_true rfl)) dX6_weigh_75 ⟨Nat.zero_le _, Nat.zero_le _⟩) hP hD hS hA [2, 3] [0, 1, 4, 5, 6, 7] (WR := [(g, .inr (6, [.ref aR, .ref aB, .ref aT, .ref aS, .ref aK, .ref aL, .int (iI tm), .int (iI al), .int (iI lg), .int (iI tt), .int (iI dn)])), (aL, .inl (kL, 3, .inr (.inr (.inr (.inr (g3 a0 a1 a2)))))), (aK, .inr (0, [.ref aKs, .ref aKt, .ref aKb, .ref aKz, .ref aKl, .ref aKc, .ref aKu, .int (iI kn)])), (aKc, .inl (kI, 61, .inl (iF kc))), (aKz, .inl (kI, 61, .inl (iF kz))), (aKu, .inl (kI, 61, .inl (iF ku)))]) rfl rfl (by decide) (by decide) (ws' := [(g, .inr (6, [.ref aR, .ref aB, .ref aT, .ref aS, .ref aK, .ref aL, .int (iI tm), .int (iI al), .int (iI lg), .int (iI tt), .int (iI dn)])), (aL, .inl (kL, 3, .inr (.inr (.inr (.inr (g3 a0 a1 a2)))))), (aK, .inr (0, [.ref aKs, .ref aKt, .ref aKb, .ref aKz, .ref aKl, .ref aKc, .ref aKu, .int (iI kn)])), (aKc, .inl (kI, 61, .inl (iF kc))), (aKz, .inl (kI, 61, .inl (iF kz))), (aKu, .inl (kI, 61, .inl (iF ku))), (a2, .inr (2, [.ref a2w, .int (iI ((rmL (w2 0) n2 (n2 - 0).toNat 0 0 w2).2))])), (a2w, .inl (kI, 16, .inl (iF ((rmL (w2 0) n2 (n2 - 0).toNat 0 0 w2).1))))]) rfl (fun H locs hP hD hS => ?_)
          refine lv_iload_n hx hb dX6_weigh_78 rfl (lv_at hl 2 rfl) ?_
          refine lv_iconst (v := iI 2) hx hb dX6_weigh_79 rfl ?_
          refine wk_icmp_eq (tgt := 101) hx hb dX6_weigh_80 (by decide) (by omega) (fun c_5 => ?_) (fun c_5 => ?_)
          · skip
            refine lv_aload_n hx hb dX6_weigh_101 rfl (lv_at hl 1 rfl) ?_
            refine lv_iload hx hb dX6_weigh_102 (lv_at hl 0 rfl) ?_
            refine ck_backV (va_runV (As := [.int (iI (w2 0))]) (rest := []) ⟨hx, hb, hml, hown, hts⟩ (tX6_finish l D kI kZ kL kJ g aR aB aT aS aK aL aKs aKt aKb aKz aKl aKc aKu kc kz ku tm al lg tt dn kn (w2 0) H.size (by first | assumption | omega) (by first | assumption | omega) (by first | assumption | omega) (by first | assumption | omega)) (cwV 1 hts (gd_V tb_cons wd_572 wd_574 wd_17 wd_33 wd_575) rfl rfl rfl (by decide +kernel) ⟨Nat.le_of_ble_eq_true rfl, Nat.le_of_ble_eq_true rfl⟩) (ck_preV hxT hK hP hD [0, 2, 3, 4, 5] rfl (by decide) (q0 := 0) rfl rfl rfl) rfl rfl hl.1 rfl (lv_room (Nat.le_of_ble_eq_true rfl)) dX6_weigh_104 ⟨Nat.zero_le _, Nat.zero_le _⟩) hP hD hS hA [0, 2, 3, 4, 5] [1, 6, 7] (WR := [(aL, .inl (kL, 3, .inr (.inr (.inr (.inr (g3 a0 a1 a2)))))), (a2, .inr (2, [.ref a2w, .int (iI ((rmL (w2 0) n2 (n2 - 0).toNat 0 0 w2).2))])), (a2w, .inl (kI, 16, .inl (iF ((rmL (w2 0) n2 (n2 - 0).toNat 0 0 w2).1))))]) rfl rfl (by decide) (by decide) (ws' := [(aL, .inl (kL, 3, .inr (.inr (.inr (.inr (g3 a0 a1 a2)))))), (a2, .inr (2, [.ref a2w, .int (iI ((rmL (w2 0) n2 (n2 - 0).toNat 0 0 w2).2))])), (a2w, .inl (kI, 16, .inl (iF ((rmL (w2 0) n2 (n2 - 0).toNat 0 0 w2).1)))), (g, .inr (6, [.ref aR, .ref aB, .ref aT, .ref aS, .ref aK, .ref aL, .int (iI tm), .int (iI al), .int (iI (max lg (tm - kc (w2 0)))), .int (iI (tt + (tm - kc (w2 0)))), .int (iI (dn + 1))])), (aK, .inr (0, [.ref aKs, .ref aKt, .ref aKb, .ref aKz, .ref aKl, .ref aKc, .ref aKu, .int (iI kn)])), (aKc, .inl (kI, 61, .inl (iF kc))), (aKz, .inl (kI, 61, .inl (iF (iu kz (w2 0) 2)))), (aKu, .inl (kI, 61, .inl (iF (iu ku (w2 0) (tm - kc (w2 0))))))]) rfl (fun H locs hP hD hS => ?_)
            refine lv_iload hx hb dX6_weigh_107 (lv_at hl 0 rfl) ?_
            have hP := hP.sub (ws' := [(g, .inr (6, [.ref aR, .ref aB, .ref aT, .ref aS, .ref aK, .ref aL, .int (iI tm), .int (iI al), .int (iI (max lg (tm - kc (w2 0)))), .int (iI (tt + (tm - kc (w2 0)))), .int (iI (dn + 1))])), (aL, .inl (kL, 3, .inr (.inr (.inr (.inr (g3 a0 a1 a2)))))), (a2, .inr (2, [.ref a2w, .int (iI ((rmL (w2 0) n2 (n2 - 0).toNat 0 0 w2).2))])), (a2w, .inl (kI, 16, .inl (iF ((rmL (w2 0) n2 (n2 - 0).toNat 0 0 w2).1)))), (aK, .inr (0, [.ref aKs, .ref aKt, .ref aKb, .ref aKz, .ref aKl, .ref aKc, .ref aKu, .int (iI kn)])), (aKc, .inl (kI, 61, .inl (iF kc))), (aKz, .inl (kI, 61, .inl (iF (iu kz (w2 0) 2)))), (aKu, .inl (kI, 61, .inl (iF (iu ku (w2 0) (tm - kc (w2 0))))))]) [3, 0, 1, 2, 4, 5, 6, 7] rfl
            have hD := hD.sub (ws' := [(g, .inr (6, [.ref aR, .ref aB, .ref aT, .ref aS, .ref aK, .ref aL, .int (iI tm), .int (iI al), .int (iI (max lg (tm - kc (w2 0)))), .int (iI (tt + (tm - kc (w2 0)))), .int (iI (dn + 1))])), (aL, .inl (kL, 3, .inr (.inr (.inr (.inr (g3 a0 a1 a2)))))), (a2, .inr (2, [.ref a2w, .int (iI ((rmL (w2 0) n2 (n2 - 0).toNat 0 0 w2).2))])), (a2w, .inl (kI, 16, .inl (iF ((rmL (w2 0) n2 (n2 - 0).toNat 0 0 w2).1)))), (aK, .inr (0, [.ref aKs, .ref aKt, .ref aKb, .ref aKz, .ref aKl, .ref aKc, .ref aKu, .int (iI kn)])), (aKc, .inl (kI, 61, .inl (iF kc))), (aKz, .inl (kI, 61, .inl (iF (iu kz (w2 0) 2)))), (aKu, .inl (kI, 61, .inl (iF (iu ku (w2 0) (tm - kc (w2 0))))))]) [3, 0, 1, 2, 4, 5, 6, 7] (by decide) rfl
            exact rk_int hx hb hr hlocks hK hP hD hS (by first | rfl | omega) rfl dX6_weigh_109
          · skip
            exfalso; omega
        · skip
          exfalso; omega
      · skip
        exfalso; omega
  · skip
    exfalso; omega

set_option maxHeartbeats 4000000 in
set_option maxRecDepth 100000 in
theorem tX6_tolerance (l : Launch) (D : va_G) (kI : ClassId) (kZ : ClassId) (kL : ClassId) (kJ : ClassId) (g : Nat) (aR : Nat) (aB : Nat) (aT : Nat) (aS : Nat) (aK : Nat) (aL : Nat) (nw : Int) (al : Int) (lg : Int) (tt : Int) (dn : Int) (th : Int) (sz : Nat) (hth : 0 ≤ th ∧ th ≤ 1000) : CtI l yX6_tolerance wsX6_tolerance ({ frames := 0, cells := 0, slots := 0, locals := 0 }) D vwCl (tyL kI kZ kL kJ) [(g, .inr (6, [.ref aR, .ref aB, .ref aT, .ref aS, .ref aK, .ref aL, .int (iI nw), .int (iI al), .int (iI lg), .int (iI tt), .int (iI dn)]))] [.ref g, .int (iI th)] (iI (bi True)) [(g, .inr (6, [.ref aR, .ref aB, .ref aT, .ref aS, .ref aK, .ref aL, .int (iI nw), .int (iI th), .int (iI lg), .int (iI tt), .int (iI dn)]))] sz := by
  refine ck_start (Qc := fun A => cQi D vwCl (tyL kI kZ kL kJ) A (iI (bi True)) [(g, .inr (6, [.ref aR, .ref aB, .ref aT, .ref aS, .ref aK, .ref aL, .int (iI nw), .int (iI th), .int (iI lg), .int (iI tt), .int (iI dn)]))]) (cc := cX6_tolerance) (maxL := 2) (ret := (some .boolean)) (LV := [(0, .ref g), (1, .int (iI th))]) (by decide) rfl rfl (Nat.le_of_ble_eq_true rfl) ?_
  intro p e s m below meth cd hadm hx hb hr hml hts hown hlocks hname hnoh hxT A hA hK hP hD hS ls hl
  refine lv_iload_n hx hb dX6_tolerance_0 rfl (lv_at hl 1 rfl) ?_
  refine wk_if_lt (tgt := 11) hx hb dX6_tolerance_1 (by decide) (by omega) (fun c_1 => ?_) (fun c_1 => ?_)
  · skip
    exfalso; omega
  · skip
    refine lv_iload_n hx hb dX6_tolerance_4 rfl (lv_at hl 1 rfl) ?_
    refine lv_sipush (v := iI 1000) hx hb dX6_tolerance_5 (by decide) ?_
    refine wk_icmp_le (tgt := 13) hx hb dX6_tolerance_8 (by decide) (by omega) (fun c_2 => ?_) (fun c_2 => ?_)
    · skip
      refine lv_aload_n hx hb dX6_tolerance_13 rfl (lv_at hl 0 rfl) ?_
      refine lv_iload_n hx hb dX6_tolerance_14 rfl (lv_at hl 1 rfl) ?_
      refine wk_put (ci := 6) (C := RX6) (T := TX6) (N := 11) hx hb hts (fun w h => (List.mem_cons_of_mem _ (hinX6 w h))) tyX6 tyX6_ok nmX6 hown hK hP hD hS 0 rfl rfl 7 (by decide) (hts _ (List.mem_cons_of_mem _ wd_196)) (fun _ h9 => h9) rfl rfl (Nat.le_of_ble_eq_true rfl) dX6_tolerance_15 (ws' := [(g, .inr (6, [.ref aR, .ref aB, .ref aT, .ref aS, .ref aK, .ref aL, .int (iI nw), .int (iI th), .int (iI lg), .int (iI tt), .int (iI dn)]))]) rfl (fun H locs hP hD hS => ?_)
      refine lv_iconst (v := iI 1) hx hb dX6_tolerance_18 rfl ?_
      exact rk_bool hx hb hr hlocks hK hP hD hS (by exact bi_t trivial) rfl dX6_tolerance_19
    · skip
      exfalso; omega

set_option maxHeartbeats 4000000 in
set_option maxRecDepth 100000 in
theorem tX6_tolerance_n (l : Launch) (D : va_G) (kI : ClassId) (kZ : ClassId) (kL : ClassId) (kJ : ClassId) (g : Nat) (aR : Nat) (aB : Nat) (aT : Nat) (aS : Nat) (aK : Nat) (aL : Nat) (nw : Int) (al : Int) (lg : Int) (tt : Int) (dn : Int) (th : Int) (sz : Nat) (hth : -2147483648 ≤ th ∧ th ≤ 2147483647) (hth : ¬ (0 ≤ th ∧ th ≤ 1000)) : CtP l yX6_tolerance wsX6_tolerance ({ frames := 0, cells := 0, slots := 0, locals := 0 }) D vwCl (tyL kI kZ kL kJ) [(g, .inr (6, [.ref aR, .ref aB, .ref aT, .ref aS, .ref aK, .ref aL, .int (iI nw), .int (iI al), .int (iI lg), .int (iI tt), .int (iI dn)]))] [.ref g, .int (iI th)] (iI (bi False)) sz := by
  refine pk_start (cc := cX6_tolerance) (maxL := 2) (ret := (some .boolean)) (LV := [(0, .ref g), (1, .int (iI th))]) (by decide) rfl rfl (Nat.le_of_ble_eq_true rfl) ?_
  intro p e s m below meth cd hadm hx hb hr hml hts hown hlocks hname hnoh hxT A hA hK hP hD hS ls hl
  refine lv_iload_n hx hb dX6_tolerance_0 rfl (lv_at hl 1 rfl) ?_
  refine wk_if_lt (tgt := 11) hx hb dX6_tolerance_1 (by decide) (by omega) (fun c_1 => ?_) (fun c_1 => ?_)
  · skip
    refine lv_iconst (v := iI 0) hx hb dX6_tolerance_11 rfl ?_
    exact pk_bool hx hb hr hlocks (by exact bi_f id) dX6_tolerance_12
  · skip
    refine lv_iload_n hx hb dX6_tolerance_4 rfl (lv_at hl 1 rfl) ?_
    refine lv_sipush (v := iI 1000) hx hb dX6_tolerance_5 (by decide) ?_
    refine wk_icmp_le (tgt := 13) hx hb dX6_tolerance_8 (by decide) (by omega) (fun c_2 => ?_) (fun c_2 => ?_)
    · skip
      exfalso; omega
    · skip
      refine lv_iconst (v := iI 0) hx hb dX6_tolerance_11 rfl ?_
      exact pk_bool hx hb hr hlocks (by exact bi_f id) dX6_tolerance_12

set_option maxHeartbeats 4000000 in
set_option maxRecDepth 100000 in
theorem tX6_noShow_t1 (l : Launch) (D : va_G) (kI : ClassId) (kZ : ClassId) (kL : ClassId) (kJ : ClassId) (g : Nat) (aR : Nat) (aB : Nat) (aT : Nat) (aS : Nat) (aK : Nat) (aL : Nat) (nw : Int) (al : Int) (lg : Int) (tt : Int) (dn : Int) (tm : Int) (sz : Nat) (hfl : l.flags = pinnedFlags ++ [noTraceFlag]) (hnw : 0 ≤ nw ∧ nw ≤ 100000) (htm : -2147483648 ≤ tm ∧ tm ≤ 2147483647) (h1 : ¬ (nw ≤ tm ∧ tm ≤ 100000)) : CtT l yX6_noShow wsX6_noShow ({ frames := 7, cells := 1, slots := 6, locals := 103 }) D vwCl (tyL kI kZ kL kJ) [(g, .inr (6, [.ref aR, .ref aB, .ref aT, .ref aS, .ref aK, .ref aL, .int (iI nw), .int (iI al), .int (iI lg), .int (iI tt), .int (iI dn)]))] [.ref g, .int (iI tm)] "java/lang/IllegalArgumentException" sz := by
  refine ct_start (cc := cX6_noShow) (maxL := 4) (ret := (some .int)) (LV := [(0, .ref g), (1, .int (iI tm))]) (by decide) rfl rfl (Nat.le_of_ble_eq_true rfl) ?_
  intro p e s m below meth cd hadm hx hb hr hml hts hown hlocks hname hnoh hxT hzT A hA hK hP hD hS ls hl
  refine lv_aload_n hx hb dX6_noShow_0 rfl (lv_at hl 0 rfl) ?_
  refine lv_iload_n hx hb dX6_noShow_1 rfl (lv_at hl 1 rfl) ?_
  exact wt_leave (rest := []) (wt_runV (As := [.int (iI tm)]) (rest := []) ⟨hx, hb, hml, hown, hts⟩ (tX6_needTime_t l D kI kZ kL kJ g aR aB aT aS aK aL nw al lg tt dn tm s.heap.size hfl (by first | assumption | omega) (by first | assumption | omega) (by first | assumption | omega)) (cwV 1 hts (gd_V tb_cons wd_511 wd_513 wd_9 wd_33 wd_514) rfl rfl rfl (by decide +kernel) ⟨Nat.le_of_ble_eq_true rfl, Nat.le_of_ble_eq_true rfl⟩) (ck_preT hzT hxT hK hP hD [0] rfl (by decide) (q0 := 0) rfl rfl rfl) rfl rfl hl.1 rfl (lv_room (Nat.le_of_ble_eq_true rfl)) dX6_noShow_2 ⟨Nat.le_of_ble_eq_true rfl, Nat.le_of_ble_eq_true rfl⟩) hnoh hlocks

set_option maxHeartbeats 4000000 in
set_option maxRecDepth 100000 in
theorem tX6_noShow (l : Launch) (D : va_G) (kI : ClassId) (kZ : ClassId) (kL : ClassId) (kJ : ClassId) (g : Nat) (aR : Nat) (aB : Nat) (aT : Nat) (aS : Nat) (aK : Nat) (aL : Nat) (aSt : Nat) (aKs : Nat) (aKt : Nat) (aKb : Nat) (aKz : Nat) (aKl : Nat) (aKc : Nat) (aKu : Nat) (tk : Int → Int) (ks : Int → Int) (kz : Int → Int) (nw : Int) (al : Int) (lg : Int) (tt : Int) (dn : Int) (sn : Int) (sm : Int) (kn : Int) (tm : Int) (sz : Nat) (hnw : 0 ≤ nw ∧ nw ≤ 100000) (htm : nw ≤ tm ∧ tm ≤ 100000) (hkn : 0 ≤ kn ∧ kn ≤ 60) (hks : ∀ j, 0 ≤ ks j ∧ ks j < 24) (hkz : ∀ j, 0 ≤ kz j ∧ kz j ≤ 1000000) : CtI l yX6_noShow wsX6_noShow ({ frames := 1, cells := 0, slots := 0, locals := 21 }) D vwCl (tyL kI kZ kL kJ) [(g, .inr (6, [.ref aR, .ref aB, .ref aT, .ref aS, .ref aK, .ref aL, .int (iI nw), .int (iI al), .int (iI lg), .int (iI tt), .int (iI dn)])), (aS, .inr (4, [.ref aSt, .int (iI sn), .int (iI sm)])), (aSt, .inl (kI, 24, .inl (iF tk))), (aK, .inr (0, [.ref aKs, .ref aKt, .ref aKb, .ref aKz, .ref aKl, .ref aKc, .ref aKu, .int (iI kn)])), (aKs, .inl (kI, 61, .inl (iF ks))), (aKz, .inl (kI, 61, .inl (iF kz)))] [.ref g, .int (iI tm)] (iI ((nsL tm kn ks (kn + 1 - 1).toNat 1 kz tk 0).2.2)) [(g, .inr (6, [.ref aR, .ref aB, .ref aT, .ref aS, .ref aK, .ref aL, .int (iI tm), .int (iI al), .int (iI lg), .int (iI tt), .int (iI dn)])), (aS, .inr (4, [.ref aSt, .int (iI sn), .int (iI sm)])), (aSt, .inl (kI, 24, .inl (iF ((nsL tm kn ks (kn + 1 - 1).toNat 1 kz tk 0).2.1)))), (aK, .inr (0, [.ref aKs, .ref aKt, .ref aKb, .ref aKz, .ref aKl, .ref aKc, .ref aKu, .int (iI kn)])), (aKs, .inl (kI, 61, .inl (iF ks))), (aKz, .inl (kI, 61, .inl (iF ((nsL tm kn ks (kn + 1 - 1).toNat 1 kz tk 0).1))))] sz := by
  refine ck_start (Qc := fun A => cQi D vwCl (tyL kI kZ kL kJ) A (iI ((nsL tm kn ks (kn + 1 - 1).toNat 1 kz tk 0).2.2)) [(g, .inr (6, [.ref aR, .ref aB, .ref aT, .ref aS, .ref aK, .ref aL, .int (iI tm), .int (iI al), .int (iI lg), .int (iI tt), .int (iI dn)])), (aS, .inr (4, [.ref aSt, .int (iI sn), .int (iI sm)])), (aSt, .inl (kI, 24, .inl (iF ((nsL tm kn ks (kn + 1 - 1).toNat 1 kz tk 0).2.1)))), (aK, .inr (0, [.ref aKs, .ref aKt, .ref aKb, .ref aKz, .ref aKl, .ref aKc, .ref aKu, .int (iI kn)])), (aKs, .inl (kI, 61, .inl (iF ks))), (aKz, .inl (kI, 61, .inl (iF ((nsL tm kn ks (kn + 1 - 1).toNat 1 kz tk 0).1))))]) (cc := cX6_noShow) (maxL := 4) (ret := (some .int)) (LV := [(0, .ref g), (1, .int (iI tm))]) (by decide) rfl rfl (Nat.le_of_ble_eq_true rfl) ?_
  intro p e s m below meth cd hadm hx hb hr hml hts hown hlocks hname hnoh hxT A hA hK hP hD hS ls hl
  refine lv_aload_n hx hb dX6_noShow_0 rfl (lv_at hl 0 rfl) ?_
  refine lv_iload_n hx hb dX6_noShow_1 rfl (lv_at hl 1 rfl) ?_
  refine pk_callV (va_runV (As := [.int (iI tm)]) (rest := []) ⟨hx, hb, hml, hown, hts⟩ (tX6_needTime l D kI kZ kL kJ g aR aB aT aS aK aL nw al lg tt dn tm s.heap.size (by first | assumption | omega) (by first | assumption | omega)) (cwV 1 hts (gd_V tb_cons wd_511 wd_513 wd_9 wd_33 wd_514) rfl rfl rfl (by decide +kernel) ⟨Nat.le_of_ble_eq_true rfl, Nat.le_of_ble_eq_true rfl⟩) (ck_preV hxT hK hP hD [0] rfl (by decide) (q0 := 0) rfl rfl rfl) rfl rfl hl.1 rfl (lv_room (Nat.le_of_ble_eq_true rfl)) dX6_noShow_2 ⟨Nat.zero_le _, Nat.zero_le _⟩) ?_
  refine lv_aload_n hx hb dX6_noShow_5 rfl (lv_at hl 0 rfl) ?_
  refine lv_iload_n hx hb dX6_noShow_6 rfl (lv_at hl 1 rfl) ?_
  refine wk_put (ci := 6) (C := RX6) (T := TX6) (N := 11) hx hb hts (fun w h => (List.mem_cons_of_mem _ (hinX6 w h))) tyX6 tyX6_ok nmX6 hown hK hP hD hS 0 rfl rfl 6 (by decide) (hts _ (List.mem_cons_of_mem _ wd_195)) (fun _ h9 => h9) rfl rfl (Nat.le_of_ble_eq_true rfl) dX6_noShow_7 (ws' := [(g, .inr (6, [.ref aR, .ref aB, .ref aT, .ref aS, .ref aK, .ref aL, .int (iI tm), .int (iI al), .int (iI lg), .int (iI tt), .int (iI dn)])), (aS, .inr (4, [.ref aSt, .int (iI sn), .int (iI sm)])), (aSt, .inl (kI, 24, .inl (iF tk))), (aK, .inr (0, [.ref aKs, .ref aKt, .ref aKb, .ref aKz, .ref aKl, .ref aKc, .ref aKu, .int (iI kn)])), (aKs, .inl (kI, 61, .inl (iF ks))), (aKz, .inl (kI, 61, .inl (iF kz)))]) rfl (fun H locs hP hD hS => ?_)
  refine lv_iconst (v := iI 0) hx hb dX6_noShow_10 rfl ?_
  refine lv_istore_n (lv' := [(2, .int (iI 0)), (0, .ref g), (1, .int (iI tm))]) hx hb dX6_noShow_11 rfl hl (by decide) rfl (fun ls hl => ?_)
  refine lv_iconst (v := iI 1) hx hb dX6_noShow_12 rfl ?_
  refine lv_istore_n (lv' := [(3, .int (iI 1)), (2, .int (iI 0)), (0, .ref g), (1, .int (iI tm))]) hx hb dX6_noShow_13 rfl hl (by decide) rfl (fun ls hl => ?_)
  have loop_14 : ∀ (fu : Nat) (c0 : Int) (i : Int) (x : Int → Int) (y : Int → Int), (1 ≤ i ∧ i ≤ kn + 1) → (∀ j, 0 ≤ x j ∧ x j ≤ 1000000) → (nsL tm kn ks (kn + 1 - i).toNat i x y c0 = nsL tm kn ks (kn + 1 - 1).toNat 1 kz tk 0) → (kn + 1 - i) < (fu : Int) → ∀ (H : Heap) (locs : List Loc) (ls : Array Slot), va_P D vwCl [(g, .inr (6, [.ref aR, .ref aB, .ref aT, .ref aS, .ref aK, .ref aL, .int (iI tm), .int (iI al), .int (iI lg), .int (iI tt), .int (iI dn)])), (aS, .inr (4, [.ref aSt, .int (iI sn), .int (iI sm)])), (aSt, .inl (kI, 24, .inl (iF y))), (aK, .inr (0, [.ref aKs, .ref aKt, .ref aKb, .ref aKz, .ref aKl, .ref aKc, .ref aKu, .int (iI kn)])), (aKs, .inl (kI, 61, .inl (iF ks))), (aKz, .inl (kI, 61, .inl (iF x)))] H → va_D A [(g, .inr (6, [.ref aR, .ref aB, .ref aT, .ref aS, .ref aK, .ref aL, .int (iI tm), .int (iI al), .int (iI lg), .int (iI tt), .int (iI dn)])), (aS, .inr (4, [.ref aSt, .int (iI sn), .int (iI sm)])), (aSt, .inl (kI, 24, .inl (iF y))), (aK, .inr (0, [.ref aKs, .ref aKt, .ref aKb, .ref aKz, .ref aKl, .ref aKc, .ref aKu, .int (iI kn)])), (aKs, .inl (kI, 61, .inl (iF ks))), (aKz, .inl (kI, 61, .inl (iF x)))] → va_S A s.heap H locs → lv_has ls 4 [(3, .int (iI i)), (2, .int (iI c0)), (0, .ref g), (1, .int (iI tm))] → W p l e ({ frames := 1, cells := 0, slots := 0, locals := 21 }) s m ([.ref g, .int (iI tm)] : List Value).toArray below meth cd H locs 0 0 (MQ below (cQi D vwCl (tyL kI kZ kL kJ) A (iI ((nsL tm kn ks (kn + 1 - 1).toNat 1 kz tk 0).2.2)) [(g, .inr (6, [.ref aR, .ref aB, .ref aT, .ref aS, .ref aK, .ref aL, .int (iI tm), .int (iI al), .int (iI lg), .int (iI tt), .int (iI dn)])), (aS, .inr (4, [.ref aSt, .int (iI sn), .int (iI sm)])), (aSt, .inl (kI, 24, .inl (iF ((nsL tm kn ks (kn + 1 - 1).toNat 1 kz tk 0).2.1)))), (aK, .inr (0, [.ref aKs, .ref aKt, .ref aKb, .ref aKz, .ref aKl, .ref aKc, .ref aKu, .int (iI kn)])), (aKs, .inl (kI, 61, .inl (iF ks))), (aKz, .inl (kI, 61, .inl (iF ((nsL tm kn ks (kn + 1 - 1).toNat 1 kz tk 0).1))))]) ([.ref g, .int (iI tm)] : List Value).toArray s 0 0 A) (F0 m 14 ls []) := by
    intro fu
    induction fu with
    | zero => intro c0 i x y hi hx0 hE hfu; exfalso; omega
    | succ fu ih_14 =>
      intro c0 i x y hi hx0 hE hfu H locs ls hP hD hS hl
      refine lv_iload_n hx hb dX6_noShow_14 rfl (lv_at hl 0 rfl) ?_
      refine lv_aload_n hx hb dX6_noShow_15 rfl (lv_at hl 2 rfl) ?_
      refine va_get (D := D) (ci := 6) (v := .ref aK) (C := RX6) (T := TX6) (N := 11) hx hb hts (fun w h => (List.mem_cons_of_mem _ (hinX6 w h))) hown hK hP 0 rfl rfl 4 (by decide) (hts _ (List.mem_cons_of_mem _ wd_193)) (fun _ h9 => h9) rfl dX6_noShow_16 ?_
      refine va_get (D := D) (ci := 0) (v := .int (iI kn)) (C := RX0) (T := TX0) (N := 8) hx hb hts (fun w h => (List.mem_cons_of_mem _ (hinX0 w h))) hown hK hP 3 rfl rfl 7 (by decide) (hts _ (List.mem_cons_of_mem _ wd_156)) (fun _ h9 => h9) rfl dX6_noShow_19 ?_
      refine wk_icmp_gt (tgt := 67) hx hb dX6_noShow_22 (by decide) (by omega) (fun c_1 => ?_) (fun c_1 => ?_)
      · skip
        have e9 := hE
        rw [nsL_end (by omega)] at e9
        refine lv_iload_n hx hb dX6_noShow_67 rfl (lv_at hl 1 rfl) ?_
        exact rk_int hx hb hr hlocks hK hP hD hS (by rw [← e9]) (by rw [← e9]) dX6_noShow_68
      · skip
        refine lv_aload_n hx hb dX6_noShow_25 rfl (lv_at hl 2 rfl) ?_
        refine va_get (D := D) (ci := 6) (v := .ref aK) (C := RX6) (T := TX6) (N := 11) hx hb hts (fun w h => (List.mem_cons_of_mem _ (hinX6 w h))) hown hK hP 0 rfl rfl 4 (by decide) (hts _ (List.mem_cons_of_mem _ wd_193)) (fun _ h9 => h9) rfl dX6_noShow_26 ?_
        refine va_get (D := D) (ci := 0) (v := .ref aKz) (C := RX0) (T := TX0) (N := 8) hx hb hts (fun w h => (List.mem_cons_of_mem _ (hinX0 w h))) hown hK hP 3 rfl rfl 3 (by decide) (hts _ (List.mem_cons_of_mem _ wd_148)) (fun _ h9 => h9) rfl dX6_noShow_29 ?_
        refine lv_iload_n hx hb dX6_noShow_32 rfl (lv_at hl 0 rfl) ?_
        refine wk_iald hx hb hK hP 5 0 rfl rfl (by decide) (by omega) dX6_noShow_33 ?_
        have b_2 := hx0 i
        refine wk_if_ne (tgt := 61) hx hb dX6_noShow_34 (by decide) (by omega) (fun c_3 => ?_) (fun c_3 => ?_)
        · skip
          refine wk_iinc (k := 0) (lv' := [(3, .int (iI (i + 1))), (2, .int (iI c0)), (0, .ref g), (1, .int (iI tm))]) hx hb dX6_noShow_61 hl rfl (by decide) rfl (fun ls hl => ?_)
          refine lv_goto (tgt := 14) hx hb dX6_noShow_64 (by decide) ?_
          exact ih_14 c0 (i + 1) x y (by first | assumption | omega) (by first | assumption | (intro j; unfold iu; split; omega; exact hx0 j)) (by have e9 := hE; rw [nsL_step (by omega)] at e9; first | (rw [if_pos (by omega)] at e9; exact e9) | (rw [if_neg (by omega)] at e9; exact e9)) (by omega) H locs ls hP hD hS (lv_sub hl [0, 1, 2, 3] rfl)
        · skip
          refine lv_aload_n hx hb dX6_noShow_37 rfl (lv_at hl 2 rfl) ?_
          refine lv_aload_n hx hb dX6_noShow_38 rfl (lv_at hl 2 rfl) ?_
          refine va_get (D := D) (ci := 6) (v := .ref aK) (C := RX6) (T := TX6) (N := 11) hx hb hts (fun w h => (List.mem_cons_of_mem _ (hinX6 w h))) hown hK hP 0 rfl rfl 4 (by decide) (hts _ (List.mem_cons_of_mem _ wd_193)) (fun _ h9 => h9) rfl dX6_noShow_39 ?_
          refine va_get (D := D) (ci := 0) (v := .ref aKs) (C := RX0) (T := TX0) (N := 8) hx hb hts (fun w h => (List.mem_cons_of_mem _ (hinX0 w h))) hown hK hP 3 rfl rfl 0 (by decide) (hts _ (List.mem_cons_of_mem _ wd_142)) (fun _ h9 => h9) rfl dX6_noShow_42 ?_
          refine lv_iload_n hx hb dX6_noShow_45 rfl (lv_at hl 0 rfl) ?_
          refine wk_iald hx hb hK hP 4 0 rfl rfl (by decide) (by omega) dX6_noShow_46 ?_
          have b_4 := hks i
          refine pk_callI (va_runV (As := [.int (iI (ks i))]) (rest := []) ⟨hx, hb, hml, hown, hts⟩ (tX6_isOver l D kI kZ kL kJ g aR aB aT aS aK aL tm al lg tt dn (ks i) H.size (by first | assumption | omega) (by first | assumption | omega)) (cwV 1 hts (gd_V tb_cons wd_524 wd_526 wd_12 wd_33 wd_527) rfl rfl rfl (by decide +kernel) ⟨Nat.le_of_ble_eq_true rfl, Nat.le_of_ble_eq_true rfl⟩) (ck_preV hxT hK hP hD [0] rfl (by decide) (q0 := 0) rfl rfl rfl) rfl rfl hl.1 rfl (lv_room (Nat.le_of_ble_eq_true rfl)) dX6_noShow_47 ⟨Nat.zero_le _, Nat.zero_le _⟩) ?_
          refine wk_bif_eq (tgt := 61) hx hb dX6_noShow_50 (by decide) (fun c_5 => ?_) (fun c_5 => ?_)
          · skip
            refine wk_iinc (k := 0) (lv' := [(3, .int (iI (i + 1))), (2, .int (iI c0)), (0, .ref g), (1, .int (iI tm))]) hx hb dX6_noShow_61 hl rfl (by decide) rfl (fun ls hl => ?_)
            refine lv_goto (tgt := 14) hx hb dX6_noShow_64 (by decide) ?_
            exact ih_14 c0 (i + 1) x y (by first | assumption | omega) (by first | assumption | (intro j; unfold iu; split; omega; exact hx0 j)) (by have e9 := hE; rw [nsL_step (by omega)] at e9; first | (rw [if_pos (by omega)] at e9; exact e9) | (rw [if_neg (by omega)] at e9; exact e9)) (by omega) H locs ls hP hD hS (lv_sub hl [0, 1, 2, 3] rfl)
          · skip
            refine lv_aload_n hx hb dX6_noShow_53 rfl (lv_at hl 2 rfl) ?_
            refine lv_iload_n hx hb dX6_noShow_54 rfl (lv_at hl 0 rfl) ?_
            refine ck_backV (va_runV (As := [.int (iI i)]) (rest := []) ⟨hx, hb, hml, hown, hts⟩ (tX6_end l D kI kZ kL kJ g aR aB aT aS aK aL aSt aKs aKt aKb aKz aKl aKc aKu y ks x tm al lg tt dn sn sm kn i H.size (by first | assumption | omega) (by first | assumption | omega)) (cwV 1 hts (gd_V tb_cons wd_461 wd_463 wd_5 wd_33 wd_464) rfl rfl rfl (by decide +kernel) ⟨Nat.le_of_ble_eq_true rfl, Nat.le_of_ble_eq_true rfl⟩) (ck_preV hxT hK hP hD [0, 1, 2, 3, 4, 5] rfl (by decide) (q0 := 0) rfl rfl rfl) rfl rfl hl.1 rfl (lv_room (Nat.le_of_ble_eq_true rfl)) dX6_noShow_55 ⟨Nat.zero_le _, Nat.zero_le _⟩) hP hD hS hA [0, 1, 2, 3, 4, 5] [] (WR := []) rfl rfl (by decide) (by decide) (ws' := [(g, .inr (6, [.ref aR, .ref aB, .ref aT, .ref aS, .ref aK, .ref aL, .int (iI tm), .int (iI al), .int (iI lg), .int (iI tt), .int (iI dn)])), (aS, .inr (4, [.ref aSt, .int (iI sn), .int (iI sm)])), (aSt, .inl (kI, 24, .inl (iF (iu y (ks i) (y (ks i) - 1))))), (aK, .inr (0, [.ref aKs, .ref aKt, .ref aKb, .ref aKz, .ref aKl, .ref aKc, .ref aKu, .int (iI kn)])), (aKs, .inl (kI, 61, .inl (iF ks))), (aKz, .inl (kI, 61, .inl (iF (iu x i 3))))]) rfl (fun H locs hP hD hS => ?_)
            refine wk_iinc (k := 1) (lv' := [(2, .int (iI (c0 + 1))), (3, .int (iI i)), (0, .ref g), (1, .int (iI tm))]) hx hb dX6_noShow_58 hl rfl (by decide) rfl (fun ls hl => ?_)
            refine wk_iinc (k := 1) (lv' := [(3, .int (iI (i + 1))), (2, .int (iI (c0 + 1))), (0, .ref g), (1, .int (iI tm))]) hx hb dX6_noShow_61 hl rfl (by decide) rfl (fun ls hl => ?_)
            refine lv_goto (tgt := 14) hx hb dX6_noShow_64 (by decide) ?_
            exact ih_14 (c0 + 1) (i + 1) (iu x i 3) (iu y (ks i) (y (ks i) - 1)) (by first | assumption | omega) (by first | assumption | (intro j; unfold iu; split; omega; exact hx0 j)) (by have e9 := hE; rw [nsL_step (by omega)] at e9; first | (rw [if_pos (by omega)] at e9; exact e9) | (rw [if_neg (by omega)] at e9; exact e9)) (by omega) H locs ls hP hD hS (lv_sub hl [0, 1, 2, 3] rfl)
  exact loop_14 (kn + 1 - 1).toNat.succ 0 1 kz tk (by first | assumption | rfl | omega) (by assumption) (by rfl) (by omega) H locs ls hP hD hS (lv_sub hl [0, 1, 2, 3] rfl)

set_option maxHeartbeats 4000000 in
set_option maxRecDepth 100000 in
theorem tX6_change_t1 (l : Launch) (D : va_G) (kI : ClassId) (kZ : ClassId) (kL : ClassId) (kJ : ClassId) (g : Nat) (aR : Nat) (aB : Nat) (aT : Nat) (aS : Nat) (aK : Nat) (aL : Nat) (aKs : Nat) (aKt : Nat) (aKb : Nat) (aKz : Nat) (aKl : Nat) (aKc : Nat) (aKu : Nat) (nw : Int) (al : Int) (lg : Int) (tt : Int) (dn : Int) (kn : Int) (bk : Int) (sl : Int) (sz : Nat) (hfl : l.flags = pinnedFlags ++ [noTraceFlag]) (hkn : 0 ≤ kn ∧ kn ≤ 60) (hbk : -2147483648 ≤ bk ∧ bk ≤ 2147483647) (h1 : ¬ (1 ≤ bk ∧ bk ≤ kn)) : CtT l yX6_change wsX6_change ({ frames := 7, cells := 1, slots := 6, locals := 103 }) D vwCl (tyL kI kZ kL kJ) [(g, .inr (6, [.ref aR, .ref aB, .ref aT, .ref aS, .ref aK, .ref aL, .int (iI nw), .int (iI al), .int (iI lg), .int (iI tt), .int (iI dn)])), (aK, .inr (0, [.ref aKs, .ref aKt, .ref aKb, .ref aKz, .ref aKl, .ref aKc, .ref aKu, .int (iI kn)]))] [.ref g, .int (iI bk), .int (iI sl)] "java/lang/IndexOutOfBoundsException" sz := by
  refine ct_start (cc := cX6_change) (maxL := 4) (ret := (some .int)) (LV := [(0, .ref g), (1, .int (iI bk)), (2, .int (iI sl))]) (by decide) rfl rfl (Nat.le_of_ble_eq_true rfl) ?_
  intro p e s m below meth cd hadm hx hb hr hml hts hown hlocks hname hnoh hxT hzT A hA hK hP hD hS ls hl
  refine lv_aload_n hx hb dX6_change_0 rfl (lv_at hl 0 rfl) ?_
  refine lv_iload_n hx hb dX6_change_1 rfl (lv_at hl 1 rfl) ?_
  exact wt_leave (rest := []) (wt_runV (As := [.int (iI bk)]) (rest := []) ⟨hx, hb, hml, hown, hts⟩ (tX6_needBooking_t l D kI kZ kL kJ g aR aB aT aS aK aL aKs aKt aKb aKz aKl aKc aKu nw al lg tt dn kn bk s.heap.size hfl (by first | assumption | omega) (by first | assumption | omega) (by first | assumption | omega)) (cwV 1 hts (gd_V tb_cons wd_506 wd_508 wd_8 wd_33 wd_509) rfl rfl rfl (by decide +kernel) ⟨Nat.le_of_ble_eq_true rfl, Nat.le_of_ble_eq_true rfl⟩) (ck_preT hzT hxT hK hP hD [0, 1] rfl (by decide) (q0 := 0) rfl rfl rfl) rfl rfl hl.1 rfl (lv_room (Nat.le_of_ble_eq_true rfl)) dX6_change_2 ⟨Nat.le_of_ble_eq_true rfl, Nat.le_of_ble_eq_true rfl⟩) hnoh hlocks

set_option maxHeartbeats 4000000 in
set_option maxRecDepth 100000 in
theorem tX6_change_t2 (l : Launch) (D : va_G) (kI : ClassId) (kZ : ClassId) (kL : ClassId) (kJ : ClassId) (g : Nat) (aR : Nat) (aB : Nat) (aT : Nat) (aS : Nat) (aK : Nat) (aL : Nat) (aKs : Nat) (aKt : Nat) (aKb : Nat) (aKz : Nat) (aKl : Nat) (aKc : Nat) (aKu : Nat) (aSt : Nat) (nw : Int) (al : Int) (lg : Int) (tt : Int) (dn : Int) (kn : Int) (sn : Int) (sm : Int) (bk : Int) (sl : Int) (sz : Nat) (hfl : l.flags = pinnedFlags ++ [noTraceFlag]) (hkn : 0 ≤ kn ∧ kn ≤ 60) (hbk : 1 ≤ bk ∧ bk ≤ kn) (hsn : 1 ≤ sn ∧ sn ≤ 24) (hsl : -2147483648 ≤ sl ∧ sl ≤ 2147483647) (h1 : ¬ (0 ≤ sl ∧ sl < sn)) : CtT l yX6_change wsX6_change ({ frames := 7, cells := 1, slots := 6, locals := 103 }) D vwCl (tyL kI kZ kL kJ) [(g, .inr (6, [.ref aR, .ref aB, .ref aT, .ref aS, .ref aK, .ref aL, .int (iI nw), .int (iI al), .int (iI lg), .int (iI tt), .int (iI dn)])), (aK, .inr (0, [.ref aKs, .ref aKt, .ref aKb, .ref aKz, .ref aKl, .ref aKc, .ref aKu, .int (iI kn)])), (aS, .inr (4, [.ref aSt, .int (iI sn), .int (iI sm)]))] [.ref g, .int (iI bk), .int (iI sl)] "java/lang/IndexOutOfBoundsException" sz := by
  refine ct_start (cc := cX6_change) (maxL := 4) (ret := (some .int)) (LV := [(0, .ref g), (1, .int (iI bk)), (2, .int (iI sl))]) (by decide) rfl rfl (Nat.le_of_ble_eq_true rfl) ?_
  intro p e s m below meth cd hadm hx hb hr hml hts hown hlocks hname hnoh hxT hzT A hA hK hP hD hS ls hl
  refine lv_aload_n hx hb dX6_change_0 rfl (lv_at hl 0 rfl) ?_
  refine lv_iload_n hx hb dX6_change_1 rfl (lv_at hl 1 rfl) ?_
  refine pk_callV (va_runV (As := [.int (iI bk)]) (rest := []) ⟨hx, hb, hml, hown, hts⟩ (tX6_needBooking l D kI kZ kL kJ g aR aB aT aS aK aL aKs aKt aKb aKz aKl aKc aKu nw al lg tt dn kn bk s.heap.size (by first | assumption | omega) (by first | assumption | omega)) (cwV 1 hts (gd_V tb_cons wd_506 wd_508 wd_8 wd_33 wd_509) rfl rfl rfl (by decide +kernel) ⟨Nat.le_of_ble_eq_true rfl, Nat.le_of_ble_eq_true rfl⟩) (ck_preV hxT hK hP hD [0, 1] rfl (by decide) (q0 := 0) rfl rfl rfl) rfl rfl hl.1 rfl (lv_room (Nat.le_of_ble_eq_true rfl)) dX6_change_2 ⟨Nat.zero_le _, Nat.zero_le _⟩) ?_
  refine lv_aload_n hx hb dX6_change_5 rfl (lv_at hl 0 rfl) ?_
  refine lv_iload_n hx hb dX6_change_6 rfl (lv_at hl 2 rfl) ?_
  exact wt_leave (rest := []) (wt_runV (As := [.int (iI sl)]) (rest := []) ⟨hx, hb, hml, hown, hts⟩ (tX6_needSlot_t l D kI kZ kL kJ g aR aB aT aS aK aL aSt nw al lg tt dn sn sm sl s.heap.size hfl (by first | assumption | omega) (by first | assumption | omega) (by first | assumption | omega)) (cwV 1 hts (gd_V tb_cons wd_472 wd_474 wd_6 wd_33 wd_475) rfl rfl rfl (by decide +kernel) ⟨Nat.le_of_ble_eq_true rfl, Nat.le_of_ble_eq_true rfl⟩) (ck_preT hzT hxT hK hP hD [0, 2] rfl (by decide) (q0 := 0) rfl rfl rfl) rfl rfl hl.1 rfl (lv_room (Nat.le_of_ble_eq_true rfl)) dX6_change_7 ⟨Nat.le_of_ble_eq_true rfl, Nat.le_of_ble_eq_true rfl⟩) hnoh hlocks

set_option maxHeartbeats 4000000 in
set_option maxRecDepth 100000 in
theorem tX6_change_0 (l : Launch) (D : va_G) (kI : ClassId) (kZ : ClassId) (kL : ClassId) (kJ : ClassId) (g : Nat) (aR : Nat) (aB : Nat) (aT : Nat) (aS : Nat) (aK : Nat) (aL : Nat) (aKs : Nat) (aKt : Nat) (aKb : Nat) (aKz : Nat) (aKl : Nat) (aKc : Nat) (aKu : Nat) (aSt : Nat) (ks : Int → Int) (kz : Int → Int) (nw : Int) (al : Int) (lg : Int) (tt : Int) (dn : Int) (kn : Int) (sn : Int) (sm : Int) (bk : Int) (sl : Int) (sz : Nat) (hkn : 0 ≤ kn ∧ kn ≤ 60) (hbk : 1 ≤ bk ∧ bk ≤ kn) (hsn : 1 ≤ sn ∧ sn ≤ 24) (hsl : 0 ≤ sl ∧ sl < sn) (hks : ∀ j, 0 ≤ ks j ∧ ks j < 24) (hkz : ∀ j, 0 ≤ kz j ∧ kz j ≤ 1000000) (h2 : ¬ kz bk = 0 ∨ ks bk = sl) : CtP l yX6_change wsX6_change ({ frames := 2, cells := 0, slots := 0, locals := 42 }) D vwCl (tyL kI kZ kL kJ) [(g, .inr (6, [.ref aR, .ref aB, .ref aT, .ref aS, .ref aK, .ref aL, .int (iI nw), .int (iI al), .int (iI lg), .int (iI tt), .int (iI dn)])), (aK, .inr (0, [.ref aKs, .ref aKt, .ref aKb, .ref aKz, .ref aKl, .ref aKc, .ref aKu, .int (iI kn)])), (aKs, .inl (kI, 61, .inl (iF ks))), (aKz, .inl (kI, 61, .inl (iF kz))), (aS, .inr (4, [.ref aSt, .int (iI sn), .int (iI sm)]))] [.ref g, .int (iI bk), .int (iI sl)] (iI 0) sz := by
  refine pk_start (cc := cX6_change) (maxL := 4) (ret := (some .int)) (LV := [(0, .ref g), (1, .int (iI bk)), (2, .int (iI sl))]) (by decide) rfl rfl (Nat.le_of_ble_eq_true rfl) ?_
  intro p e s m below meth cd hadm hx hb hr hml hts hown hlocks hname hnoh hxT A hA hK hP hD hS ls hl
  refine lv_aload_n hx hb dX6_change_0 rfl (lv_at hl 0 rfl) ?_
  refine lv_iload_n hx hb dX6_change_1 rfl (lv_at hl 1 rfl) ?_
  refine pk_callV (va_runV (As := [.int (iI bk)]) (rest := []) ⟨hx, hb, hml, hown, hts⟩ (tX6_needBooking l D kI kZ kL kJ g aR aB aT aS aK aL aKs aKt aKb aKz aKl aKc aKu nw al lg tt dn kn bk s.heap.size (by first | assumption | omega) (by first | assumption | omega)) (cwV 1 hts (gd_V tb_cons wd_506 wd_508 wd_8 wd_33 wd_509) rfl rfl rfl (by decide +kernel) ⟨Nat.le_of_ble_eq_true rfl, Nat.le_of_ble_eq_true rfl⟩) (ck_preV hxT hK hP hD [0, 1] rfl (by decide) (q0 := 0) rfl rfl rfl) rfl rfl hl.1 rfl (lv_room (Nat.le_of_ble_eq_true rfl)) dX6_change_2 ⟨Nat.zero_le _, Nat.zero_le _⟩) ?_
  refine lv_aload_n hx hb dX6_change_5 rfl (lv_at hl 0 rfl) ?_
  refine lv_iload_n hx hb dX6_change_6 rfl (lv_at hl 2 rfl) ?_
  refine pk_callV (va_runV (As := [.int (iI sl)]) (rest := []) ⟨hx, hb, hml, hown, hts⟩ (tX6_needSlot l D kI kZ kL kJ g aR aB aT aS aK aL aSt nw al lg tt dn sn sm sl s.heap.size (by first | assumption | omega) (by first | assumption | omega)) (cwV 1 hts (gd_V tb_cons wd_472 wd_474 wd_6 wd_33 wd_475) rfl rfl rfl (by decide +kernel) ⟨Nat.le_of_ble_eq_true rfl, Nat.le_of_ble_eq_true rfl⟩) (ck_preV hxT hK hP hD [0, 4] rfl (by decide) (q0 := 0) rfl rfl rfl) rfl rfl hl.1 rfl (lv_room (Nat.le_of_ble_eq_true rfl)) dX6_change_7 ⟨Nat.zero_le _, Nat.zero_le _⟩) ?_
  refine lv_aload_n hx hb dX6_change_10 rfl (lv_at hl 0 rfl) ?_
  refine va_get (D := D) (ci := 6) (v := .ref aK) (C := RX6) (T := TX6) (N := 11) hx hb hts (fun w h => (List.mem_cons_of_mem _ (hinX6 w h))) hown hK hP 0 rfl rfl 4 (by decide) (hts _ (List.mem_cons_of_mem _ wd_193)) (fun _ h9 => h9) rfl dX6_change_11 ?_
  refine va_get (D := D) (ci := 0) (v := .ref aKs) (C := RX0) (T := TX0) (N := 8) hx hb hts (fun w h => (List.mem_cons_of_mem _ (hinX0 w h))) hown hK hP 1 rfl rfl 0 (by decide) (hts _ (List.mem_cons_of_mem _ wd_142)) (fun _ h9 => h9) rfl dX6_change_14 ?_
  refine lv_iload_n hx hb dX6_change_17 rfl (lv_at hl 1 rfl) ?_
  refine wk_iald hx hb hK hP 2 0 rfl rfl (by decide) (by omega) dX6_change_18 ?_
  have b_1 := hks bk
  refine lv_istore_n (lv' := [(3, .int (iI (ks bk))), (0, .ref g), (1, .int (iI bk)), (2, .int (iI sl))]) hx hb dX6_change_19 rfl hl (by decide) rfl (fun ls hl => ?_)
  refine lv_aload_n hx hb dX6_change_20 rfl (lv_at hl 1 rfl) ?_
  refine va_get (D := D) (ci := 6) (v := .ref aK) (C := RX6) (T := TX6) (N := 11) hx hb hts (fun w h => (List.mem_cons_of_mem _ (hinX6 w h))) hown hK hP 0 rfl rfl 4 (by decide) (hts _ (List.mem_cons_of_mem _ wd_193)) (fun _ h9 => h9) rfl dX6_change_21 ?_
  refine va_get (D := D) (ci := 0) (v := .ref aKz) (C := RX0) (T := TX0) (N := 8) hx hb hts (fun w h => (List.mem_cons_of_mem _ (hinX0 w h))) hown hK hP 1 rfl rfl 3 (by decide) (hts _ (List.mem_cons_of_mem _ wd_148)) (fun _ h9 => h9) rfl dX6_change_24 ?_
  refine lv_iload_n hx hb dX6_change_27 rfl (lv_at hl 2 rfl) ?_
  refine wk_iald hx hb hK hP 3 0 rfl rfl (by decide) (by omega) dX6_change_28 ?_
  have b_2 := hkz bk
  refine wk_if_ne (tgt := 37) hx hb dX6_change_29 (by decide) (by omega) (fun c_3 => ?_) (fun c_3 => ?_)
  · skip
    refine lv_iconst (v := iI 0) hx hb dX6_change_37 rfl ?_
    exact pk_int hx hb hr hlocks (by first | rfl | omega) dX6_change_38
  · skip
    refine lv_iload_n hx hb dX6_change_32 rfl (lv_at hl 0 rfl) ?_
    refine lv_iload_n hx hb dX6_change_33 rfl (lv_at hl 3 rfl) ?_
    refine wk_icmp_ne (tgt := 39) hx hb dX6_change_34 (by decide) (by omega) (fun c_4 => ?_) (fun c_4 => ?_)
    · skip
      exfalso; omega
    · skip
      refine lv_iconst (v := iI 0) hx hb dX6_change_37 rfl ?_
      exact pk_int hx hb hr hlocks (by first | rfl | omega) dX6_change_38

set_option maxHeartbeats 4000000 in
set_option maxRecDepth 100000 in
theorem tX6_change_f (l : Launch) (D : va_G) (kI : ClassId) (kZ : ClassId) (kL : ClassId) (kJ : ClassId) (g : Nat) (aR : Nat) (aB : Nat) (aT : Nat) (aS : Nat) (aK : Nat) (aL : Nat) (aKs : Nat) (aKt : Nat) (aKb : Nat) (aKz : Nat) (aKl : Nat) (aKc : Nat) (aKu : Nat) (aSt : Nat) (ks : Int → Int) (kz : Int → Int) (tk : Int → Int) (nw : Int) (al : Int) (lg : Int) (tt : Int) (dn : Int) (kn : Int) (sn : Int) (sm : Int) (bk : Int) (sl : Int) (sz : Nat) (hkn : 0 ≤ kn ∧ kn ≤ 60) (hbk : 1 ≤ bk ∧ bk ≤ kn) (hsn : 1 ≤ sn ∧ sn ≤ 24) (hsl : 0 ≤ sl ∧ sl < sn) (hks : ∀ j, 0 ≤ ks j ∧ ks j < 24) (hkz : ∀ j, 0 ≤ kz j ∧ kz j ≤ 1000000) (h2 : kz bk = 0 ∧ ¬ ks bk = sl) (hsm : 1 ≤ sm ∧ sm ≤ 8) (htk : ∀ j, 0 ≤ tk j ∧ tk j ≤ 1000000) (h3 : ¬ tk sl < sm) : CtP l yX6_change wsX6_change ({ frames := 3, cells := 0, slots := 0, locals := 64 }) D vwCl (tyL kI kZ kL kJ) [(g, .inr (6, [.ref aR, .ref aB, .ref aT, .ref aS, .ref aK, .ref aL, .int (iI nw), .int (iI al), .int (iI lg), .int (iI tt), .int (iI dn)])), (aK, .inr (0, [.ref aKs, .ref aKt, .ref aKb, .ref aKz, .ref aKl, .ref aKc, .ref aKu, .int (iI kn)])), (aKs, .inl (kI, 61, .inl (iF ks))), (aKz, .inl (kI, 61, .inl (iF kz))), (aS, .inr (4, [.ref aSt, .int (iI sn), .int (iI sm)])), (aSt, .inl (kI, 24, .inl (iF tk)))] [.ref g, .int (iI bk), .int (iI sl)] (iI (-1 - sc (pRM tk sm) sn (sn - 1 + 1 - (sl + 1)).toNat (sl + 1))) sz := by
  refine pk_start (cc := cX6_change) (maxL := 4) (ret := (some .int)) (LV := [(0, .ref g), (1, .int (iI bk)), (2, .int (iI sl))]) (by decide) rfl rfl (Nat.le_of_ble_eq_true rfl) ?_
  intro p e s m below meth cd hadm hx hb hr hml hts hown hlocks hname hnoh hxT A hA hK hP hD hS ls hl
  refine lv_aload_n hx hb dX6_change_0 rfl (lv_at hl 0 rfl) ?_
  refine lv_iload_n hx hb dX6_change_1 rfl (lv_at hl 1 rfl) ?_
  refine pk_callV (va_runV (As := [.int (iI bk)]) (rest := []) ⟨hx, hb, hml, hown, hts⟩ (tX6_needBooking l D kI kZ kL kJ g aR aB aT aS aK aL aKs aKt aKb aKz aKl aKc aKu nw al lg tt dn kn bk s.heap.size (by first | assumption | omega) (by first | assumption | omega)) (cwV 1 hts (gd_V tb_cons wd_506 wd_508 wd_8 wd_33 wd_509) rfl rfl rfl (by decide +kernel) ⟨Nat.le_of_ble_eq_true rfl, Nat.le_of_ble_eq_true rfl⟩) (ck_preV hxT hK hP hD [0, 1] rfl (by decide) (q0 := 0) rfl rfl rfl) rfl rfl hl.1 rfl (lv_room (Nat.le_of_ble_eq_true rfl)) dX6_change_2 ⟨Nat.zero_le _, Nat.zero_le _⟩) ?_
  refine lv_aload_n hx hb dX6_change_5 rfl (lv_at hl 0 rfl) ?_
  refine lv_iload_n hx hb dX6_change_6 rfl (lv_at hl 2 rfl) ?_
  refine pk_callV (va_runV (As := [.int (iI sl)]) (rest := []) ⟨hx, hb, hml, hown, hts⟩ (tX6_needSlot l D kI kZ kL kJ g aR aB aT aS aK aL aSt nw al lg tt dn sn sm sl s.heap.size (by first | assumption | omega) (by first | assumption | omega)) (cwV 1 hts (gd_V tb_cons wd_472 wd_474 wd_6 wd_33 wd_475) rfl rfl rfl (by decide +kernel) ⟨Nat.le_of_ble_eq_true rfl, Nat.le_of_ble_eq_true rfl⟩) (ck_preV hxT hK hP hD [0, 4] rfl (by decide) (q0 := 0) rfl rfl rfl) rfl rfl hl.1 rfl (lv_room (Nat.le_of_ble_eq_true rfl)) dX6_change_7 ⟨Nat.zero_le _, Nat.zero_le _⟩) ?_
  refine lv_aload_n hx hb dX6_change_10 rfl (lv_at hl 0 rfl) ?_
  refine va_get (D := D) (ci := 6) (v := .ref aK) (C := RX6) (T := TX6) (N := 11) hx hb hts (fun w h => (List.mem_cons_of_mem _ (hinX6 w h))) hown hK hP 0 rfl rfl 4 (by decide) (hts _ (List.mem_cons_of_mem _ wd_193)) (fun _ h9 => h9) rfl dX6_change_11 ?_
  refine va_get (D := D) (ci := 0) (v := .ref aKs) (C := RX0) (T := TX0) (N := 8) hx hb hts (fun w h => (List.mem_cons_of_mem _ (hinX0 w h))) hown hK hP 1 rfl rfl 0 (by decide) (hts _ (List.mem_cons_of_mem _ wd_142)) (fun _ h9 => h9) rfl dX6_change_14 ?_
  refine lv_iload_n hx hb dX6_change_17 rfl (lv_at hl 1 rfl) ?_
  refine wk_iald hx hb hK hP 2 0 rfl rfl (by decide) (by omega) dX6_change_18 ?_
  have b_1 := hks bk
  refine lv_istore_n (lv' := [(3, .int (iI (ks bk))), (0, .ref g), (1, .int (iI bk)), (2, .int (iI sl))]) hx hb dX6_change_19 rfl hl (by decide) rfl (fun ls hl => ?_)
  refine lv_aload_n hx hb dX6_change_20 rfl (lv_at hl 1 rfl) ?_
  refine va_get (D := D) (ci := 6) (v := .ref aK) (C := RX6) (T := TX6) (N := 11) hx hb hts (fun w h => (List.mem_cons_of_mem _ (hinX6 w h))) hown hK hP 0 rfl rfl 4 (by decide) (hts _ (List.mem_cons_of_mem _ wd_193)) (fun _ h9 => h9) rfl dX6_change_21 ?_
  refine va_get (D := D) (ci := 0) (v := .ref aKz) (C := RX0) (T := TX0) (N := 8) hx hb hts (fun w h => (List.mem_cons_of_mem _ (hinX0 w h))) hown hK hP 1 rfl rfl 3 (by decide) (hts _ (List.mem_cons_of_mem _ wd_148)) (fun _ h9 => h9) rfl dX6_change_24 ?_
  refine lv_iload_n hx hb dX6_change_27 rfl (lv_at hl 2 rfl) ?_
  refine wk_iald hx hb hK hP 3 0 rfl rfl (by decide) (by omega) dX6_change_28 ?_
  have b_2 := hkz bk
  refine wk_if_ne (tgt := 37) hx hb dX6_change_29 (by decide) (by omega) (fun c_3 => ?_) (fun c_3 => ?_)
  · skip
    exfalso; omega
  · skip
    refine lv_iload_n hx hb dX6_change_32 rfl (lv_at hl 0 rfl) ?_
    refine lv_iload_n hx hb dX6_change_33 rfl (lv_at hl 3 rfl) ?_
    refine wk_icmp_ne (tgt := 39) hx hb dX6_change_34 (by decide) (by omega) (fun c_4 => ?_) (fun c_4 => ?_)
    · skip
      refine lv_aload_n hx hb dX6_change_39 rfl (lv_at hl 1 rfl) ?_
      refine va_get (D := D) (ci := 6) (v := .ref aS) (C := RX6) (T := TX6) (N := 11) hx hb hts (fun w h => (List.mem_cons_of_mem _ (hinX6 w h))) hown hK hP 0 rfl rfl 3 (by decide) (hts _ (List.mem_cons_of_mem _ wd_192)) (fun _ h9 => h9) rfl dX6_change_40 ?_
      refine lv_iload_n hx hb dX6_change_43 rfl (lv_at hl 3 rfl) ?_
      refine pk_callI (va_runV (As := [.int (iI sl)]) (rest := []) ⟨hx, hb, hml, hown, hts⟩ (tX4_hasRoom l D kI kZ kL kJ aS aSt tk sn sm sl s.heap.size (by first | assumption | omega) (by first | assumption | omega) (by first | assumption | omega)) (cwV 1 hts (gd_V tb_cons wd_482 wd_483 wd_484 wd_37 wd_485) rfl rfl rfl (by decide +kernel) ⟨Nat.le_of_ble_eq_true rfl, Nat.le_of_ble_eq_true rfl⟩) (ck_preV hxT hK hP hD [4, 5] rfl (by decide) (q0 := 0) rfl rfl rfl) rfl rfl hl.1 rfl (lv_room (Nat.le_of_ble_eq_true rfl)) dX6_change_44 ⟨Nat.zero_le _, Nat.zero_le _⟩) ?_
      refine wk_bif_ne (tgt := 56) hx hb dX6_change_47 (by decide) (fun c_5 => ?_) (fun c_5 => ?_)
      · skip
        exfalso; omega
      · skip
        refine lv_aload_n hx hb dX6_change_50 rfl (lv_at hl 1 rfl) ?_
        refine lv_iload_n hx hb dX6_change_51 rfl (lv_at hl 3 rfl) ?_
        refine pk_callI (va_runV (As := [.int (iI sl)]) (rest := []) ⟨hx, hb, hml, hown, hts⟩ (tX6_otherSlot l D kI kZ kL kJ g aR aB aT aS aK aL aSt tk nw al lg tt dn sn sm sl s.heap.size (by first | assumption | omega) (by first | assumption | omega) (by first | assumption | omega) (by first | assumption | omega)) (cwV 1 hts (gd_V tb_cons wd_486 wd_488 wd_7 wd_33 wd_489) rfl rfl rfl (by decide +kernel) ⟨Nat.le_of_ble_eq_true rfl, Nat.le_of_ble_eq_true rfl⟩) (ck_preV hxT hK hP hD [0, 4, 5] rfl (by decide) (q0 := 0) rfl rfl rfl) rfl rfl hl.1 rfl (lv_room (Nat.le_of_ble_eq_true rfl)) dX6_change_52 ⟨Nat.zero_le _, Nat.zero_le _⟩) ?_
        exact pk_int hx hb hr hlocks (by first | rfl | omega) dX6_change_55
    · skip
      exfalso; omega

set_option maxHeartbeats 4000000 in
set_option maxRecDepth 100000 in
theorem tX6_change_a (l : Launch) (D : va_G) (kI : ClassId) (kZ : ClassId) (kL : ClassId) (kJ : ClassId) (g : Nat) (aR : Nat) (aB : Nat) (aT : Nat) (aS : Nat) (aK : Nat) (aL : Nat) (aKs : Nat) (aKt : Nat) (aKb : Nat) (aKz : Nat) (aKl : Nat) (aKc : Nat) (aKu : Nat) (aSt : Nat) (ks : Int → Int) (kz : Int → Int) (tk : Int → Int) (nw : Int) (al : Int) (lg : Int) (tt : Int) (dn : Int) (kn : Int) (sn : Int) (sm : Int) (bk : Int) (sl : Int) (sz : Nat) (hkn : 0 ≤ kn ∧ kn ≤ 60) (hbk : 1 ≤ bk ∧ bk ≤ kn) (hsn : 1 ≤ sn ∧ sn ≤ 24) (hsl : 0 ≤ sl ∧ sl < sn) (hks : ∀ j, 0 ≤ ks j ∧ ks j < 24) (hkz : ∀ j, 0 ≤ kz j ∧ kz j ≤ 1000000) (h2 : kz bk = 0 ∧ ¬ ks bk = sl) (hsm : 1 ≤ sm ∧ sm ≤ 8) (htk : ∀ j, 0 ≤ tk j ∧ tk j ≤ 1000000) (h3 : tk sl < sm) : CtI l yX6_change wsX6_change ({ frames := 2, cells := 0, slots := 0, locals := 42 }) D vwCl (tyL kI kZ kL kJ) [(g, .inr (6, [.ref aR, .ref aB, .ref aT, .ref aS, .ref aK, .ref aL, .int (iI nw), .int (iI al), .int (iI lg), .int (iI tt), .int (iI dn)])), (aK, .inr (0, [.ref aKs, .ref aKt, .ref aKb, .ref aKz, .ref aKl, .ref aKc, .ref aKu, .int (iI kn)])), (aKs, .inl (kI, 61, .inl (iF ks))), (aKz, .inl (kI, 61, .inl (iF kz))), (aS, .inr (4, [.ref aSt, .int (iI sn), .int (iI sm)])), (aSt, .inl (kI, 24, .inl (iF tk)))] [.ref g, .int (iI bk), .int (iI sl)] (iI 1) [(g, .inr (6, [.ref aR, .ref aB, .ref aT, .ref aS, .ref aK, .ref aL, .int (iI nw), .int (iI al), .int (iI lg), .int (iI tt), .int (iI dn)])), (aK, .inr (0, [.ref aKs, .ref aKt, .ref aKb, .ref aKz, .ref aKl, .ref aKc, .ref aKu, .int (iI kn)])), (aKs, .inl (kI, 61, .inl (iF (iu ks bk sl)))), (aKz, .inl (kI, 61, .inl (iF kz))), (aS, .inr (4, [.ref aSt, .int (iI sn), .int (iI sm)])), (aSt, .inl (kI, 24, .inl (iF (iu (iu tk (ks bk) (tk (ks bk) - 1)) sl (tk sl + 1)))))] sz := by
  refine ck_start (Qc := fun A => cQi D vwCl (tyL kI kZ kL kJ) A (iI 1) [(g, .inr (6, [.ref aR, .ref aB, .ref aT, .ref aS, .ref aK, .ref aL, .int (iI nw), .int (iI al), .int (iI lg), .int (iI tt), .int (iI dn)])), (aK, .inr (0, [.ref aKs, .ref aKt, .ref aKb, .ref aKz, .ref aKl, .ref aKc, .ref aKu, .int (iI kn)])), (aKs, .inl (kI, 61, .inl (iF (iu ks bk sl)))), (aKz, .inl (kI, 61, .inl (iF kz))), (aS, .inr (4, [.ref aSt, .int (iI sn), .int (iI sm)])), (aSt, .inl (kI, 24, .inl (iF (iu (iu tk (ks bk) (tk (ks bk) - 1)) sl (tk sl + 1)))))]) (cc := cX6_change) (maxL := 4) (ret := (some .int)) (LV := [(0, .ref g), (1, .int (iI bk)), (2, .int (iI sl))]) (by decide) rfl rfl (Nat.le_of_ble_eq_true rfl) ?_
  intro p e s m below meth cd hadm hx hb hr hml hts hown hlocks hname hnoh hxT A hA hK hP hD hS ls hl
  refine lv_aload_n hx hb dX6_change_0 rfl (lv_at hl 0 rfl) ?_
  refine lv_iload_n hx hb dX6_change_1 rfl (lv_at hl 1 rfl) ?_
  refine pk_callV (va_runV (As := [.int (iI bk)]) (rest := []) ⟨hx, hb, hml, hown, hts⟩ (tX6_needBooking l D kI kZ kL kJ g aR aB aT aS aK aL aKs aKt aKb aKz aKl aKc aKu nw al lg tt dn kn bk s.heap.size (by first | assumption | omega) (by first | assumption | omega)) (cwV 1 hts (gd_V tb_cons wd_506 wd_508 wd_8 wd_33 wd_509) rfl rfl rfl (by decide +kernel) ⟨Nat.le_of_ble_eq_true rfl, Nat.le_of_ble_eq_true rfl⟩) (ck_preV hxT hK hP hD [0, 1] rfl (by decide) (q0 := 0) rfl rfl rfl) rfl rfl hl.1 rfl (lv_room (Nat.le_of_ble_eq_true rfl)) dX6_change_2 ⟨Nat.zero_le _, Nat.zero_le _⟩) ?_
  refine lv_aload_n hx hb dX6_change_5 rfl (lv_at hl 0 rfl) ?_
  refine lv_iload_n hx hb dX6_change_6 rfl (lv_at hl 2 rfl) ?_
  refine pk_callV (va_runV (As := [.int (iI sl)]) (rest := []) ⟨hx, hb, hml, hown, hts⟩ (tX6_needSlot l D kI kZ kL kJ g aR aB aT aS aK aL aSt nw al lg tt dn sn sm sl s.heap.size (by first | assumption | omega) (by first | assumption | omega)) (cwV 1 hts (gd_V tb_cons wd_472 wd_474 wd_6 wd_33 wd_475) rfl rfl rfl (by decide +kernel) ⟨Nat.le_of_ble_eq_true rfl, Nat.le_of_ble_eq_true rfl⟩) (ck_preV hxT hK hP hD [0, 4] rfl (by decide) (q0 := 0) rfl rfl rfl) rfl rfl hl.1 rfl (lv_room (Nat.le_of_ble_eq_true rfl)) dX6_change_7 ⟨Nat.zero_le _, Nat.zero_le _⟩) ?_
  refine lv_aload_n hx hb dX6_change_10 rfl (lv_at hl 0 rfl) ?_
  refine va_get (D := D) (ci := 6) (v := .ref aK) (C := RX6) (T := TX6) (N := 11) hx hb hts (fun w h => (List.mem_cons_of_mem _ (hinX6 w h))) hown hK hP 0 rfl rfl 4 (by decide) (hts _ (List.mem_cons_of_mem _ wd_193)) (fun _ h9 => h9) rfl dX6_change_11 ?_
  refine va_get (D := D) (ci := 0) (v := .ref aKs) (C := RX0) (T := TX0) (N := 8) hx hb hts (fun w h => (List.mem_cons_of_mem _ (hinX0 w h))) hown hK hP 1 rfl rfl 0 (by decide) (hts _ (List.mem_cons_of_mem _ wd_142)) (fun _ h9 => h9) rfl dX6_change_14 ?_
  refine lv_iload_n hx hb dX6_change_17 rfl (lv_at hl 1 rfl) ?_
  refine wk_iald hx hb hK hP 2 0 rfl rfl (by decide) (by omega) dX6_change_18 ?_
  have b_1 := hks bk
  refine lv_istore_n (lv' := [(3, .int (iI (ks bk))), (0, .ref g), (1, .int (iI bk)), (2, .int (iI sl))]) hx hb dX6_change_19 rfl hl (by decide) rfl (fun ls hl => ?_)
  refine lv_aload_n hx hb dX6_change_20 rfl (lv_at hl 1 rfl) ?_
  refine va_get (D := D) (ci := 6) (v := .ref aK) (C := RX6) (T := TX6) (N := 11) hx hb hts (fun w h => (List.mem_cons_of_mem _ (hinX6 w h))) hown hK hP 0 rfl rfl 4 (by decide) (hts _ (List.mem_cons_of_mem _ wd_193)) (fun _ h9 => h9) rfl dX6_change_21 ?_
  refine va_get (D := D) (ci := 0) (v := .ref aKz) (C := RX0) (T := TX0) (N := 8) hx hb hts (fun w h => (List.mem_cons_of_mem _ (hinX0 w h))) hown hK hP 1 rfl rfl 3 (by decide) (hts _ (List.mem_cons_of_mem _ wd_148)) (fun _ h9 => h9) rfl dX6_change_24 ?_
  refine lv_iload_n hx hb dX6_change_27 rfl (lv_at hl 2 rfl) ?_
  refine wk_iald hx hb hK hP 3 0 rfl rfl (by decide) (by omega) dX6_change_28 ?_
  have b_2 := hkz bk
  refine wk_if_ne (tgt := 37) hx hb dX6_change_29 (by decide) (by omega) (fun c_3 => ?_) (fun c_3 => ?_)
  · skip
    exfalso; omega
  · skip
    refine lv_iload_n hx hb dX6_change_32 rfl (lv_at hl 0 rfl) ?_
    refine lv_iload_n hx hb dX6_change_33 rfl (lv_at hl 3 rfl) ?_
    refine wk_icmp_ne (tgt := 39) hx hb dX6_change_34 (by decide) (by omega) (fun c_4 => ?_) (fun c_4 => ?_)
    · skip
      refine lv_aload_n hx hb dX6_change_39 rfl (lv_at hl 1 rfl) ?_
      refine va_get (D := D) (ci := 6) (v := .ref aS) (C := RX6) (T := TX6) (N := 11) hx hb hts (fun w h => (List.mem_cons_of_mem _ (hinX6 w h))) hown hK hP 0 rfl rfl 3 (by decide) (hts _ (List.mem_cons_of_mem _ wd_192)) (fun _ h9 => h9) rfl dX6_change_40 ?_
      refine lv_iload_n hx hb dX6_change_43 rfl (lv_at hl 3 rfl) ?_
      refine pk_callI (va_runV (As := [.int (iI sl)]) (rest := []) ⟨hx, hb, hml, hown, hts⟩ (tX4_hasRoom l D kI kZ kL kJ aS aSt tk sn sm sl s.heap.size (by first | assumption | omega) (by first | assumption | omega) (by first | assumption | omega)) (cwV 1 hts (gd_V tb_cons wd_482 wd_483 wd_484 wd_37 wd_485) rfl rfl rfl (by decide +kernel) ⟨Nat.le_of_ble_eq_true rfl, Nat.le_of_ble_eq_true rfl⟩) (ck_preV hxT hK hP hD [4, 5] rfl (by decide) (q0 := 0) rfl rfl rfl) rfl rfl hl.1 rfl (lv_room (Nat.le_of_ble_eq_true rfl)) dX6_change_44 ⟨Nat.zero_le _, Nat.zero_le _⟩) ?_
      refine wk_bif_ne (tgt := 56) hx hb dX6_change_47 (by decide) (fun c_5 => ?_) (fun c_5 => ?_)
      · skip
        refine lv_aload_n hx hb dX6_change_56 rfl (lv_at hl 1 rfl) ?_
        refine va_get (D := D) (ci := 6) (v := .ref aS) (C := RX6) (T := TX6) (N := 11) hx hb hts (fun w h => (List.mem_cons_of_mem _ (hinX6 w h))) hown hK hP 0 rfl rfl 3 (by decide) (hts _ (List.mem_cons_of_mem _ wd_192)) (fun _ h9 => h9) rfl dX6_change_57 ?_
        refine va_get (D := D) (ci := 4) (v := .ref aSt) (C := RX4) (T := TX4) (N := 3) hx hb hts (fun w h => (List.mem_cons_of_mem _ (hinX4 w h))) hown hK hP 4 rfl rfl 0 (by decide) (hts _ (List.mem_cons_of_mem _ wd_125)) (fun _ h9 => h9) rfl dX6_change_60 ?_
        refine lv_iload_n hx hb dX6_change_63 rfl (lv_at hl 0 rfl) ?_
        refine lv_dup2_11 hx hb dX6_change_64 rfl rfl ?_
        refine wk_iald hx hb hK hP 5 0 rfl rfl (by decide) (by omega) dX6_change_65 ?_
        refine lv_iconst (v := iI 1) hx hb dX6_change_66 rfl ?_
        refine wk_isub hx hb dX6_change_67 ?_
        refine wk_iast hx hb hK hP hD hS 5 0 rfl rfl (by decide) (by omega) dX6_change_68 (ws' := [(g, .inr (6, [.ref aR, .ref aB, .ref aT, .ref aS, .ref aK, .ref aL, .int (iI nw), .int (iI al), .int (iI lg), .int (iI tt), .int (iI dn)])), (aK, .inr (0, [.ref aKs, .ref aKt, .ref aKb, .ref aKz, .ref aKl, .ref aKc, .ref aKu, .int (iI kn)])), (aKs, .inl (kI, 61, .inl (iF ks))), (aKz, .inl (kI, 61, .inl (iF kz))), (aS, .inr (4, [.ref aSt, .int (iI sn), .int (iI sm)])), (aSt, .inl (kI, 24, .inl (iF (iu tk (ks bk) ((tk (ks bk)) - 1)))))]) rfl (fun H locs hP hD hS => ?_)
        refine lv_aload_n hx hb dX6_change_69 rfl (lv_at hl 1 rfl) ?_
        refine va_get (D := D) (ci := 6) (v := .ref aS) (C := RX6) (T := TX6) (N := 11) hx hb hts (fun w h => (List.mem_cons_of_mem _ (hinX6 w h))) hown hK hP 0 rfl rfl 3 (by decide) (hts _ (List.mem_cons_of_mem _ wd_192)) (fun _ h9 => h9) rfl dX6_change_70 ?_
        refine va_get (D := D) (ci := 4) (v := .ref aSt) (C := RX4) (T := TX4) (N := 3) hx hb hts (fun w h => (List.mem_cons_of_mem _ (hinX4 w h))) hown hK hP 4 rfl rfl 0 (by decide) (hts _ (List.mem_cons_of_mem _ wd_125)) (fun _ h9 => h9) rfl dX6_change_73 ?_
        refine lv_iload_n hx hb dX6_change_76 rfl (lv_at hl 3 rfl) ?_
        refine lv_dup2_11 hx hb dX6_change_77 rfl rfl ?_
        refine wk_iald hx hb hK hP 5 0 rfl rfl (by decide) (by omega) dX6_change_78 ?_
        refine wk_eqi (show iI ((iu tk (ks bk) ((tk (ks bk)) - 1)) sl) = iI (tk sl) by rw [iu_ne (by omega)]) ?_
        refine lv_iconst (v := iI 1) hx hb dX6_change_79 rfl ?_
        refine wk_iadd hx hb dX6_change_80 ?_
        refine wk_iast hx hb hK hP hD hS 5 0 rfl rfl (by decide) (by omega) dX6_change_81 (ws' := [(g, .inr (6, [.ref aR, .ref aB, .ref aT, .ref aS, .ref aK, .ref aL, .int (iI nw), .int (iI al), .int (iI lg), .int (iI tt), .int (iI dn)])), (aK, .inr (0, [.ref aKs, .ref aKt, .ref aKb, .ref aKz, .ref aKl, .ref aKc, .ref aKu, .int (iI kn)])), (aKs, .inl (kI, 61, .inl (iF ks))), (aKz, .inl (kI, 61, .inl (iF kz))), (aS, .inr (4, [.ref aSt, .int (iI sn), .int (iI sm)])), (aSt, .inl (kI, 24, .inl (iF (iu (iu tk (ks bk) ((tk (ks bk)) - 1)) sl ((tk sl) + 1)))))]) rfl (fun H locs hP hD hS => ?_)
        refine lv_aload_n hx hb dX6_change_82 rfl (lv_at hl 1 rfl) ?_
        refine va_get (D := D) (ci := 6) (v := .ref aK) (C := RX6) (T := TX6) (N := 11) hx hb hts (fun w h => (List.mem_cons_of_mem _ (hinX6 w h))) hown hK hP 0 rfl rfl 4 (by decide) (hts _ (List.mem_cons_of_mem _ wd_193)) (fun _ h9 => h9) rfl dX6_change_83 ?_
        refine va_get (D := D) (ci := 0) (v := .ref aKs) (C := RX0) (T := TX0) (N := 8) hx hb hts (fun w h => (List.mem_cons_of_mem _ (hinX0 w h))) hown hK hP 1 rfl rfl 0 (by decide) (hts _ (List.mem_cons_of_mem _ wd_142)) (fun _ h9 => h9) rfl dX6_change_86 ?_
        refine lv_iload_n hx hb dX6_change_89 rfl (lv_at hl 2 rfl) ?_
        refine lv_iload_n hx hb dX6_change_90 rfl (lv_at hl 3 rfl) ?_
        refine wk_iast hx hb hK hP hD hS 2 0 rfl rfl (by decide) (by omega) dX6_change_91 (ws' := [(g, .inr (6, [.ref aR, .ref aB, .ref aT, .ref aS, .ref aK, .ref aL, .int (iI nw), .int (iI al), .int (iI lg), .int (iI tt), .int (iI dn)])), (aK, .inr (0, [.ref aKs, .ref aKt, .ref aKb, .ref aKz, .ref aKl, .ref aKc, .ref aKu, .int (iI kn)])), (aKs, .inl (kI, 61, .inl (iF (iu ks bk sl)))), (aKz, .inl (kI, 61, .inl (iF kz))), (aS, .inr (4, [.ref aSt, .int (iI sn), .int (iI sm)])), (aSt, .inl (kI, 24, .inl (iF (iu (iu tk (ks bk) ((tk (ks bk)) - 1)) sl ((tk sl) + 1)))))]) rfl (fun H locs hP hD hS => ?_)
        refine lv_iconst (v := iI 1) hx hb dX6_change_92 rfl ?_
        exact rk_int hx hb hr hlocks hK hP hD hS (by first | rfl | omega) rfl dX6_change_93
      · skip
        exfalso; omega
    · skip
      exfalso; omega

set_option maxHeartbeats 4000000 in
set_option maxRecDepth 100000 in
theorem tX6_queue_n (l : Launch) (D : va_G) (kI : ClassId) (kZ : ClassId) (kL : ClassId) (kJ : ClassId) (g : Nat) (aR : Nat) (aB : Nat) (aT : Nat) (aS : Nat) (aK : Nat) (aL : Nat) (nw : Int) (al : Int) (lg : Int) (tt : Int) (dn : Int) (ln : Int) (ix : Int) (sz : Nat) (hln : -2147483648 ≤ ln ∧ ln ≤ 2147483647) (h1 : ¬ (0 ≤ ln ∧ ln < 3)) : CtP l yX6_queue wsX6_queue ({ frames := 1, cells := 0, slots := 0, locals := 20 }) D vwCl (tyL kI kZ kL kJ) [(g, .inr (6, [.ref aR, .ref aB, .ref aT, .ref aS, .ref aK, .ref aL, .int (iI nw), .int (iI al), .int (iI lg), .int (iI tt), .int (iI dn)]))] [.ref g, .int (iI ln), .int (iI ix)] (iI (-1)) sz := by
  refine pk_start (cc := cX6_queue) (maxL := 3) (ret := (some .int)) (LV := [(0, .ref g), (1, .int (iI ln)), (2, .int (iI ix))]) (by decide) rfl rfl (Nat.le_of_ble_eq_true rfl) ?_
  intro p e s m below meth cd hadm hx hb hr hml hts hown hlocks hname hnoh hxT A hA hK hP hD hS ls hl
  refine lv_iload_n hx hb dX6_queue_0 rfl (lv_at hl 1 rfl) ?_
  refine pk_callI (va_runS (As := [.int (iI ln)]) (rest := []) ⟨hx, hb, hml, hown, hts⟩ (tX6_isLane l D kI kZ kL kJ ln s.heap.size (by first | assumption | omega)) (cwS 1 hts (gd_S tb_cons wd_249 wd_250 wd_33 wd_251) rfl rfl rfl (by decide +kernel) ⟨Nat.le_of_ble_eq_true rfl, Nat.le_of_ble_eq_true rfl⟩) (ck_preS hxT hK hP hD [] rfl (by decide)) rfl rfl hl.1 rfl (lv_room (Nat.le_of_ble_eq_true rfl)) dX6_queue_1 ⟨Nat.zero_le _, Nat.zero_le _⟩) ?_
  refine wk_bif_eq (tgt := 20) hx hb dX6_queue_4 (by decide) (fun c_1 => ?_) (fun c_1 => ?_)
  · skip
    refine lv_iconst (v := iI (-1)) hx hb dX6_queue_20 rfl ?_
    exact pk_int hx hb hr hlocks (by first | rfl | omega) dX6_queue_21
  · skip
    exfalso; omega

set_option maxHeartbeats 4000000 in
set_option maxRecDepth 100000 in
theorem tX6_queue_0 (l : Launch) (D : va_G) (kI : ClassId) (kZ : ClassId) (kL : ClassId) (kJ : ClassId) (g : Nat) (aR : Nat) (aB : Nat) (aT : Nat) (aS : Nat) (aK : Nat) (aL : Nat) (a0 : Nat) (a1 : Nat) (a2 : Nat) (a0w : Nat) (w0 : Int → Int) (nw : Int) (al : Int) (lg : Int) (tt : Int) (dn : Int) (n0 : Int) (ix : Int) (sz : Nat) (hix : -2147483648 ≤ ix ∧ ix ≤ 2147483647) (hn0 : 0 ≤ n0 ∧ n0 ≤ 16) : CtP l yX6_queue wsX6_queue ({ frames := 1, cells := 0, slots := 0, locals := 21 }) D vwCl (tyL kI kZ kL kJ) [(g, .inr (6, [.ref aR, .ref aB, .ref aT, .ref aS, .ref aK, .ref aL, .int (iI nw), .int (iI al), .int (iI lg), .int (iI tt), .int (iI dn)])), (aL, .inl (kL, 3, .inr (.inr (.inr (.inr (g3 a0 a1 a2)))))), (a0, .inr (2, [.ref a0w, .int (iI n0)])), (a0w, .inl (kI, 16, .inl (iF w0)))] [.ref g, .int (iI 0), .int (iI ix)] (iI (if 0 ≤ ix ∧ ix < n0 then w0 ix else -1)) sz := by
  refine pk_start (cc := cX6_queue) (maxL := 3) (ret := (some .int)) (LV := [(0, .ref g), (1, .int (iI 0)), (2, .int (iI ix))]) (by decide) rfl rfl (Nat.le_of_ble_eq_true rfl) ?_
  intro p e s m below meth cd hadm hx hb hr hml hts hown hlocks hname hnoh hxT A hA hK hP hD hS ls hl
  refine lv_iload_n hx hb dX6_queue_0 rfl (lv_at hl 1 rfl) ?_
  refine pk_callI (va_runS (As := [.int (iI 0)]) (rest := []) ⟨hx, hb, hml, hown, hts⟩ (tX6_isLane l D kI kZ kL kJ 0 s.heap.size (by first | assumption | omega)) (cwS 1 hts (gd_S tb_cons wd_249 wd_250 wd_33 wd_251) rfl rfl rfl (by decide +kernel) ⟨Nat.le_of_ble_eq_true rfl, Nat.le_of_ble_eq_true rfl⟩) (ck_preS hxT hK hP hD [] rfl (by decide)) rfl rfl hl.1 rfl (lv_room (Nat.le_of_ble_eq_true rfl)) dX6_queue_1 ⟨Nat.zero_le _, Nat.zero_le _⟩) ?_
  refine wk_bif_eq (tgt := 20) hx hb dX6_queue_4 (by decide) (fun c_1 => ?_) (fun c_1 => ?_)
  · skip
    exfalso; omega
  · skip
    refine lv_aload_n hx hb dX6_queue_7 rfl (lv_at hl 0 rfl) ?_
    refine va_get (D := D) (ci := 6) (v := .ref aL) (C := RX6) (T := TX6) (N := 11) hx hb hts (fun w h => (List.mem_cons_of_mem _ (hinX6 w h))) hown hK hP 0 rfl rfl 5 (by decide) (hts _ (List.mem_cons_of_mem _ wd_194)) (fun _ h9 => h9) rfl dX6_queue_8 ?_
    refine lv_iload_n hx hb dX6_queue_11 rfl (lv_at hl 1 rfl) ?_
    refine wk_aald (y := a0) hx hb hK hP 1 2 rfl rfl (by decide) (by decide) rfl dX6_queue_12 ?_
    refine lv_iload_n hx hb dX6_queue_13 rfl (lv_at hl 2 rfl) ?_
    refine pk_callI (va_runV (As := [.int (iI ix)]) (rest := []) ⟨hx, hb, hml, hown, hts⟩ (tX2_bookingAt l D kI kZ kL kJ a0 a0w w0 n0 ix s.heap.size (by first | assumption | omega) (by first | assumption | omega)) (cwV 1 hts (gd_V tb_cons wd_252 wd_253 wd_254 wd_40 wd_255) rfl rfl rfl (by decide +kernel) ⟨Nat.le_of_ble_eq_true rfl, Nat.le_of_ble_eq_true rfl⟩) (ck_preV hxT hK hP hD [2, 3] rfl (by decide) (q0 := 0) rfl rfl rfl) rfl rfl hl.1 rfl (lv_room (Nat.le_of_ble_eq_true rfl)) dX6_queue_14 ⟨Nat.zero_le _, Nat.zero_le _⟩) ?_
    refine lv_goto (tgt := 21) hx hb dX6_queue_17 (by decide) ?_
    exact pk_int hx hb hr hlocks (by first | rfl | omega) dX6_queue_21

set_option maxHeartbeats 4000000 in
set_option maxRecDepth 100000 in
theorem tX6_queue_1 (l : Launch) (D : va_G) (kI : ClassId) (kZ : ClassId) (kL : ClassId) (kJ : ClassId) (g : Nat) (aR : Nat) (aB : Nat) (aT : Nat) (aS : Nat) (aK : Nat) (aL : Nat) (a0 : Nat) (a1 : Nat) (a2 : Nat) (a1w : Nat) (w1 : Int → Int) (nw : Int) (al : Int) (lg : Int) (tt : Int) (dn : Int) (n1 : Int) (ix : Int) (sz : Nat) (hix : -2147483648 ≤ ix ∧ ix ≤ 2147483647) (hn1 : 0 ≤ n1 ∧ n1 ≤ 16) : CtP l yX6_queue wsX6_queue ({ frames := 1, cells := 0, slots := 0, locals := 21 }) D vwCl (tyL kI kZ kL kJ) [(g, .inr (6, [.ref aR, .ref aB, .ref aT, .ref aS, .ref aK, .ref aL, .int (iI nw), .int (iI al), .int (iI lg), .int (iI tt), .int (iI dn)])), (aL, .inl (kL, 3, .inr (.inr (.inr (.inr (g3 a0 a1 a2)))))), (a1, .inr (2, [.ref a1w, .int (iI n1)])), (a1w, .inl (kI, 16, .inl (iF w1)))] [.ref g, .int (iI 1), .int (iI ix)] (iI (if 0 ≤ ix ∧ ix < n1 then w1 ix else -1)) sz := by
  refine pk_start (cc := cX6_queue) (maxL := 3) (ret := (some .int)) (LV := [(0, .ref g), (1, .int (iI 1)), (2, .int (iI ix))]) (by decide) rfl rfl (Nat.le_of_ble_eq_true rfl) ?_
  intro p e s m below meth cd hadm hx hb hr hml hts hown hlocks hname hnoh hxT A hA hK hP hD hS ls hl
  refine lv_iload_n hx hb dX6_queue_0 rfl (lv_at hl 1 rfl) ?_
  refine pk_callI (va_runS (As := [.int (iI 1)]) (rest := []) ⟨hx, hb, hml, hown, hts⟩ (tX6_isLane l D kI kZ kL kJ 1 s.heap.size (by first | assumption | omega)) (cwS 1 hts (gd_S tb_cons wd_249 wd_250 wd_33 wd_251) rfl rfl rfl (by decide +kernel) ⟨Nat.le_of_ble_eq_true rfl, Nat.le_of_ble_eq_true rfl⟩) (ck_preS hxT hK hP hD [] rfl (by decide)) rfl rfl hl.1 rfl (lv_room (Nat.le_of_ble_eq_true rfl)) dX6_queue_1 ⟨Nat.zero_le _, Nat.zero_le _⟩) ?_
  refine wk_bif_eq (tgt := 20) hx hb dX6_queue_4 (by decide) (fun c_1 => ?_) (fun c_1 => ?_)
  · skip
    exfalso; omega
  · skip
    refine lv_aload_n hx hb dX6_queue_7 rfl (lv_at hl 0 rfl) ?_
    refine va_get (D := D) (ci := 6) (v := .ref aL) (C := RX6) (T := TX6) (N := 11) hx hb hts (fun w h => (List.mem_cons_of_mem _ (hinX6 w h))) hown hK hP 0 rfl rfl 5 (by decide) (hts _ (List.mem_cons_of_mem _ wd_194)) (fun _ h9 => h9) rfl dX6_queue_8 ?_
    refine lv_iload_n hx hb dX6_queue_11 rfl (lv_at hl 1 rfl) ?_
    refine wk_aald (y := a1) hx hb hK hP 1 2 rfl rfl (by decide) (by decide) rfl dX6_queue_12 ?_
    refine lv_iload_n hx hb dX6_queue_13 rfl (lv_at hl 2 rfl) ?_
    refine pk_callI (va_runV (As := [.int (iI ix)]) (rest := []) ⟨hx, hb, hml, hown, hts⟩ (tX2_bookingAt l D kI kZ kL kJ a1 a1w w1 n1 ix s.heap.size (by first | assumption | omega) (by first | assumption | omega)) (cwV 1 hts (gd_V tb_cons wd_252 wd_253 wd_254 wd_40 wd_255) rfl rfl rfl (by decide +kernel) ⟨Nat.le_of_ble_eq_true rfl, Nat.le_of_ble_eq_true rfl⟩) (ck_preV hxT hK hP hD [2, 3] rfl (by decide) (q0 := 0) rfl rfl rfl) rfl rfl hl.1 rfl (lv_room (Nat.le_of_ble_eq_true rfl)) dX6_queue_14 ⟨Nat.zero_le _, Nat.zero_le _⟩) ?_
    refine lv_goto (tgt := 21) hx hb dX6_queue_17 (by decide) ?_
    exact pk_int hx hb hr hlocks (by first | rfl | omega) dX6_queue_21

set_option maxHeartbeats 4000000 in
set_option maxRecDepth 100000 in
theorem tX6_queue_2 (l : Launch) (D : va_G) (kI : ClassId) (kZ : ClassId) (kL : ClassId) (kJ : ClassId) (g : Nat) (aR : Nat) (aB : Nat) (aT : Nat) (aS : Nat) (aK : Nat) (aL : Nat) (a0 : Nat) (a1 : Nat) (a2 : Nat) (a2w : Nat) (w2 : Int → Int) (nw : Int) (al : Int) (lg : Int) (tt : Int) (dn : Int) (n2 : Int) (ix : Int) (sz : Nat) (hix : -2147483648 ≤ ix ∧ ix ≤ 2147483647) (hn2 : 0 ≤ n2 ∧ n2 ≤ 16) : CtP l yX6_queue wsX6_queue ({ frames := 1, cells := 0, slots := 0, locals := 21 }) D vwCl (tyL kI kZ kL kJ) [(g, .inr (6, [.ref aR, .ref aB, .ref aT, .ref aS, .ref aK, .ref aL, .int (iI nw), .int (iI al), .int (iI lg), .int (iI tt), .int (iI dn)])), (aL, .inl (kL, 3, .inr (.inr (.inr (.inr (g3 a0 a1 a2)))))), (a2, .inr (2, [.ref a2w, .int (iI n2)])), (a2w, .inl (kI, 16, .inl (iF w2)))] [.ref g, .int (iI 2), .int (iI ix)] (iI (if 0 ≤ ix ∧ ix < n2 then w2 ix else -1)) sz := by
  refine pk_start (cc := cX6_queue) (maxL := 3) (ret := (some .int)) (LV := [(0, .ref g), (1, .int (iI 2)), (2, .int (iI ix))]) (by decide) rfl rfl (Nat.le_of_ble_eq_true rfl) ?_
  intro p e s m below meth cd hadm hx hb hr hml hts hown hlocks hname hnoh hxT A hA hK hP hD hS ls hl
  refine lv_iload_n hx hb dX6_queue_0 rfl (lv_at hl 1 rfl) ?_
  refine pk_callI (va_runS (As := [.int (iI 2)]) (rest := []) ⟨hx, hb, hml, hown, hts⟩ (tX6_isLane l D kI kZ kL kJ 2 s.heap.size (by first | assumption | omega)) (cwS 1 hts (gd_S tb_cons wd_249 wd_250 wd_33 wd_251) rfl rfl rfl (by decide +kernel) ⟨Nat.le_of_ble_eq_true rfl, Nat.le_of_ble_eq_true rfl⟩) (ck_preS hxT hK hP hD [] rfl (by decide)) rfl rfl hl.1 rfl (lv_room (Nat.le_of_ble_eq_true rfl)) dX6_queue_1 ⟨Nat.zero_le _, Nat.zero_le _⟩) ?_
  refine wk_bif_eq (tgt := 20) hx hb dX6_queue_4 (by decide) (fun c_1 => ?_) (fun c_1 => ?_)
  · skip
    exfalso; omega
  · skip
    refine lv_aload_n hx hb dX6_queue_7 rfl (lv_at hl 0 rfl) ?_
    refine va_get (D := D) (ci := 6) (v := .ref aL) (C := RX6) (T := TX6) (N := 11) hx hb hts (fun w h => (List.mem_cons_of_mem _ (hinX6 w h))) hown hK hP 0 rfl rfl 5 (by decide) (hts _ (List.mem_cons_of_mem _ wd_194)) (fun _ h9 => h9) rfl dX6_queue_8 ?_
    refine lv_iload_n hx hb dX6_queue_11 rfl (lv_at hl 1 rfl) ?_
    refine wk_aald (y := a2) hx hb hK hP 1 2 rfl rfl (by decide) (by decide) rfl dX6_queue_12 ?_
    refine lv_iload_n hx hb dX6_queue_13 rfl (lv_at hl 2 rfl) ?_
    refine pk_callI (va_runV (As := [.int (iI ix)]) (rest := []) ⟨hx, hb, hml, hown, hts⟩ (tX2_bookingAt l D kI kZ kL kJ a2 a2w w2 n2 ix s.heap.size (by first | assumption | omega) (by first | assumption | omega)) (cwV 1 hts (gd_V tb_cons wd_252 wd_253 wd_254 wd_40 wd_255) rfl rfl rfl (by decide +kernel) ⟨Nat.le_of_ble_eq_true rfl, Nat.le_of_ble_eq_true rfl⟩) (ck_preV hxT hK hP hD [2, 3] rfl (by decide) (q0 := 0) rfl rfl rfl) rfl rfl hl.1 rfl (lv_room (Nat.le_of_ble_eq_true rfl)) dX6_queue_14 ⟨Nat.zero_le _, Nat.zero_le _⟩) ?_
    refine lv_goto (tgt := 21) hx hb dX6_queue_17 (by decide) ?_
    exact pk_int hx hb hr hlocks (by first | rfl | omega) dX6_queue_21

set_option maxHeartbeats 4000000 in
set_option maxRecDepth 100000 in
theorem tX6_look_t1 (l : Launch) (D : va_G) (kI : ClassId) (kZ : ClassId) (kL : ClassId) (kJ : ClassId) (g : Nat) (aR : Nat) (aB : Nat) (aT : Nat) (aS : Nat) (aK : Nat) (aL : Nat) (aKs : Nat) (aKt : Nat) (aKb : Nat) (aKz : Nat) (aKl : Nat) (aKc : Nat) (aKu : Nat) (nw : Int) (al : Int) (lg : Int) (tt : Int) (dn : Int) (kn : Int) (bk : Int) (wh : Int) (sz : Nat) (hfl : l.flags = pinnedFlags ++ [noTraceFlag]) (hkn : 0 ≤ kn ∧ kn ≤ 60) (hbk : -2147483648 ≤ bk ∧ bk ≤ 2147483647) (h1 : ¬ (1 ≤ bk ∧ bk ≤ kn)) : CtT l yX6_look wsX6_look ({ frames := 7, cells := 1, slots := 6, locals := 103 }) D vwCl (tyL kI kZ kL kJ) [(g, .inr (6, [.ref aR, .ref aB, .ref aT, .ref aS, .ref aK, .ref aL, .int (iI nw), .int (iI al), .int (iI lg), .int (iI tt), .int (iI dn)])), (aK, .inr (0, [.ref aKs, .ref aKt, .ref aKb, .ref aKz, .ref aKl, .ref aKc, .ref aKu, .int (iI kn)]))] [.ref g, .int (iI bk), .int (iI wh)] "java/lang/IndexOutOfBoundsException" sz := by
  refine ct_start (cc := cX6_look) (maxL := 3) (ret := (some .int)) (LV := [(0, .ref g), (1, .int (iI bk)), (2, .int (iI wh))]) (by decide) rfl rfl (Nat.le_of_ble_eq_true rfl) ?_
  intro p e s m below meth cd hadm hx hb hr hml hts hown hlocks hname hnoh hxT hzT A hA hK hP hD hS ls hl
  refine lv_aload_n hx hb dX6_look_0 rfl (lv_at hl 0 rfl) ?_
  refine lv_iload_n hx hb dX6_look_1 rfl (lv_at hl 1 rfl) ?_
  exact wt_leave (rest := []) (wt_runV (As := [.int (iI bk)]) (rest := []) ⟨hx, hb, hml, hown, hts⟩ (tX6_needBooking_t l D kI kZ kL kJ g aR aB aT aS aK aL aKs aKt aKb aKz aKl aKc aKu nw al lg tt dn kn bk s.heap.size hfl (by first | assumption | omega) (by first | assumption | omega) (by first | assumption | omega)) (cwV 1 hts (gd_V tb_cons wd_506 wd_508 wd_8 wd_33 wd_509) rfl rfl rfl (by decide +kernel) ⟨Nat.le_of_ble_eq_true rfl, Nat.le_of_ble_eq_true rfl⟩) (ck_preT hzT hxT hK hP hD [0, 1] rfl (by decide) (q0 := 0) rfl rfl rfl) rfl rfl hl.1 rfl (lv_room (Nat.le_of_ble_eq_true rfl)) dX6_look_2 ⟨Nat.le_of_ble_eq_true rfl, Nat.le_of_ble_eq_true rfl⟩) hnoh hlocks

set_option maxHeartbeats 4000000 in
set_option maxRecDepth 100000 in
theorem tX6_look_t2 (l : Launch) (D : va_G) (kI : ClassId) (kZ : ClassId) (kL : ClassId) (kJ : ClassId) (g : Nat) (aR : Nat) (aB : Nat) (aT : Nat) (aS : Nat) (aK : Nat) (aL : Nat) (aKs : Nat) (aKt : Nat) (aKb : Nat) (aKz : Nat) (aKl : Nat) (aKc : Nat) (aKu : Nat) (nw : Int) (al : Int) (lg : Int) (tt : Int) (dn : Int) (kn : Int) (bk : Int) (wh : Int) (sz : Nat) (hfl : l.flags = pinnedFlags ++ [noTraceFlag]) (hkn : 0 ≤ kn ∧ kn ≤ 60) (hbk : 1 ≤ bk ∧ bk ≤ kn) (hwh : -2147483648 ≤ wh ∧ wh ≤ 2147483647) (h1 : ¬ (0 ≤ wh ∧ wh ≤ 5)) : CtT l yX6_look wsX6_look ({ frames := 6, cells := 1, slots := 6, locals := 82 }) D vwCl (tyL kI kZ kL kJ) [(g, .inr (6, [.ref aR, .ref aB, .ref aT, .ref aS, .ref aK, .ref aL, .int (iI nw), .int (iI al), .int (iI lg), .int (iI tt), .int (iI dn)])), (aK, .inr (0, [.ref aKs, .ref aKt, .ref aKb, .ref aKz, .ref aKl, .ref aKc, .ref aKu, .int (iI kn)]))] [.ref g, .int (iI bk), .int (iI wh)] "java/lang/IndexOutOfBoundsException" sz := by
  refine ct_start (cc := cX6_look) (maxL := 3) (ret := (some .int)) (LV := [(0, .ref g), (1, .int (iI bk)), (2, .int (iI wh))]) (by decide) rfl rfl (Nat.le_of_ble_eq_true rfl) ?_
  intro p e s m below meth cd hadm hx hb hr hml hts hown hlocks hname hnoh hxT hzT A hA hK hP hD hS ls hl
  refine lv_aload_n hx hb dX6_look_0 rfl (lv_at hl 0 rfl) ?_
  refine lv_iload_n hx hb dX6_look_1 rfl (lv_at hl 1 rfl) ?_
  refine pk_callV (va_runV (As := [.int (iI bk)]) (rest := []) ⟨hx, hb, hml, hown, hts⟩ (tX6_needBooking l D kI kZ kL kJ g aR aB aT aS aK aL aKs aKt aKb aKz aKl aKc aKu nw al lg tt dn kn bk s.heap.size (by first | assumption | omega) (by first | assumption | omega)) (cwV 1 hts (gd_V tb_cons wd_506 wd_508 wd_8 wd_33 wd_509) rfl rfl rfl (by decide +kernel) ⟨Nat.le_of_ble_eq_true rfl, Nat.le_of_ble_eq_true rfl⟩) (ck_preV hxT hK hP hD [0, 1] rfl (by decide) (q0 := 0) rfl rfl rfl) rfl rfl hl.1 rfl (lv_room (Nat.le_of_ble_eq_true rfl)) dX6_look_2 ⟨Nat.zero_le _, Nat.zero_le _⟩) ?_
  refine lv_iload_n hx hb dX6_look_5 rfl (lv_at hl 2 rfl) ?_
  refine lv_tableOut (tgt := 138) hx hb dX6_look_6 (by rw [iz_toInt (by omega)]; omega) (by decide) ?_
  obtain ⟨q9, hZ9⟩ := xt_s229 hxT
  exact wt_new (names := exN) hx hb hown (Launch.traces_off hfl hadm) hlocks hnoh (hl.1.trans hml.symm) (by decide) (by decide) (ex_i (fun w h => hts w (List.mem_cons_of_mem _ h)) hzT hxT) (hts _ (List.mem_cons_of_mem _ wd_419)) (hts _ (List.mem_cons_of_mem _ wd_47)) hZ9 dX6_look_138 dX6_look_141 dX6_look_142 dX6_look_144 dX6_look_147 (Nat.le_of_ble_eq_true rfl) (Nat.le_of_ble_eq_true rfl) (Nat.le_of_ble_eq_true rfl) (Nat.le_of_ble_eq_true rfl)

set_option maxHeartbeats 4000000 in
set_option maxRecDepth 100000 in
theorem tX6_look_0 (l : Launch) (D : va_G) (kI : ClassId) (kZ : ClassId) (kL : ClassId) (kJ : ClassId) (g : Nat) (aR : Nat) (aB : Nat) (aT : Nat) (aS : Nat) (aK : Nat) (aL : Nat) (aKs : Nat) (aKt : Nat) (aKb : Nat) (aKz : Nat) (aKl : Nat) (aKc : Nat) (aKu : Nat) (ks : Int → Int) (nw : Int) (al : Int) (lg : Int) (tt : Int) (dn : Int) (kn : Int) (bk : Int) (sz : Nat) (hkn : 0 ≤ kn ∧ kn ≤ 60) (hbk : 1 ≤ bk ∧ bk ≤ kn) : CtP l yX6_look wsX6_look ({ frames := 1, cells := 0, slots := 0, locals := 21 }) D vwCl (tyL kI kZ kL kJ) [(g, .inr (6, [.ref aR, .ref aB, .ref aT, .ref aS, .ref aK, .ref aL, .int (iI nw), .int (iI al), .int (iI lg), .int (iI tt), .int (iI dn)])), (aK, .inr (0, [.ref aKs, .ref aKt, .ref aKb, .ref aKz, .ref aKl, .ref aKc, .ref aKu, .int (iI kn)])), (aKs, .inl (kI, 61, .inl (iF ks)))] [.ref g, .int (iI bk), .int (iI 0)] (iI (ks bk)) sz := by
  refine pk_start (cc := cX6_look) (maxL := 3) (ret := (some .int)) (LV := [(0, .ref g), (1, .int (iI bk)), (2, .int (iI 0))]) (by decide) rfl rfl (Nat.le_of_ble_eq_true rfl) ?_
  intro p e s m below meth cd hadm hx hb hr hml hts hown hlocks hname hnoh hxT A hA hK hP hD hS ls hl
  refine lv_aload_n hx hb dX6_look_0 rfl (lv_at hl 0 rfl) ?_
  refine lv_iload_n hx hb dX6_look_1 rfl (lv_at hl 1 rfl) ?_
  refine pk_callV (va_runV (As := [.int (iI bk)]) (rest := []) ⟨hx, hb, hml, hown, hts⟩ (tX6_needBooking l D kI kZ kL kJ g aR aB aT aS aK aL aKs aKt aKb aKz aKl aKc aKu nw al lg tt dn kn bk s.heap.size (by first | assumption | omega) (by first | assumption | omega)) (cwV 1 hts (gd_V tb_cons wd_506 wd_508 wd_8 wd_33 wd_509) rfl rfl rfl (by decide +kernel) ⟨Nat.le_of_ble_eq_true rfl, Nat.le_of_ble_eq_true rfl⟩) (ck_preV hxT hK hP hD [0, 1] rfl (by decide) (q0 := 0) rfl rfl rfl) rfl rfl hl.1 rfl (lv_room (Nat.le_of_ble_eq_true rfl)) dX6_look_2 ⟨Nat.zero_le _, Nat.zero_le _⟩) ?_
  refine lv_iload_n hx hb dX6_look_5 rfl (lv_at hl 2 rfl) ?_
  refine lv_tableIn (tgt := 44) hx hb dX6_look_6 (by decide) (by decide) rfl (by decide) ?_
  refine lv_aload_n hx hb dX6_look_44 rfl (lv_at hl 0 rfl) ?_
  refine va_get (D := D) (ci := 6) (v := .ref aK) (C := RX6) (T := TX6) (N := 11) hx hb hts (fun w h => (List.mem_cons_of_mem _ (hinX6 w h))) hown hK hP 0 rfl rfl 4 (by decide) (hts _ (List.mem_cons_of_mem _ wd_193)) (fun _ h9 => h9) rfl dX6_look_45 ?_
  refine va_get (D := D) (ci := 0) (v := .ref aKs) (C := RX0) (T := TX0) (N := 8) hx hb hts (fun w h => (List.mem_cons_of_mem _ (hinX0 w h))) hown hK hP 1 rfl rfl 0 (by decide) (hts _ (List.mem_cons_of_mem _ wd_142)) (fun _ h9 => h9) rfl dX6_look_48 ?_
  refine lv_iload_n hx hb dX6_look_51 rfl (lv_at hl 1 rfl) ?_
  refine wk_iald hx hb hK hP 2 0 rfl rfl (by decide) (by omega) dX6_look_52 ?_
  exact pk_int hx hb hr hlocks (by first | rfl | omega) dX6_look_53

set_option maxHeartbeats 4000000 in
set_option maxRecDepth 100000 in
theorem tX6_look_1 (l : Launch) (D : va_G) (kI : ClassId) (kZ : ClassId) (kL : ClassId) (kJ : ClassId) (g : Nat) (aR : Nat) (aB : Nat) (aT : Nat) (aS : Nat) (aK : Nat) (aL : Nat) (aKs : Nat) (aKt : Nat) (aKb : Nat) (aKz : Nat) (aKl : Nat) (aKc : Nat) (aKu : Nat) (kt : Int → Int) (nw : Int) (al : Int) (lg : Int) (tt : Int) (dn : Int) (kn : Int) (bk : Int) (sz : Nat) (hkn : 0 ≤ kn ∧ kn ≤ 60) (hbk : 1 ≤ bk ∧ bk ≤ kn) : CtP l yX6_look wsX6_look ({ frames := 1, cells := 0, slots := 0, locals := 21 }) D vwCl (tyL kI kZ kL kJ) [(g, .inr (6, [.ref aR, .ref aB, .ref aT, .ref aS, .ref aK, .ref aL, .int (iI nw), .int (iI al), .int (iI lg), .int (iI tt), .int (iI dn)])), (aK, .inr (0, [.ref aKs, .ref aKt, .ref aKb, .ref aKz, .ref aKl, .ref aKc, .ref aKu, .int (iI kn)])), (aKt, .inl (kI, 61, .inl (iF kt)))] [.ref g, .int (iI bk), .int (iI 1)] (iI (kt bk)) sz := by
  refine pk_start (cc := cX6_look) (maxL := 3) (ret := (some .int)) (LV := [(0, .ref g), (1, .int (iI bk)), (2, .int (iI 1))]) (by decide) rfl rfl (Nat.le_of_ble_eq_true rfl) ?_
  intro p e s m below meth cd hadm hx hb hr hml hts hown hlocks hname hnoh hxT A hA hK hP hD hS ls hl
  refine lv_aload_n hx hb dX6_look_0 rfl (lv_at hl 0 rfl) ?_
  refine lv_iload_n hx hb dX6_look_1 rfl (lv_at hl 1 rfl) ?_
  refine pk_callV (va_runV (As := [.int (iI bk)]) (rest := []) ⟨hx, hb, hml, hown, hts⟩ (tX6_needBooking l D kI kZ kL kJ g aR aB aT aS aK aL aKs aKt aKb aKz aKl aKc aKu nw al lg tt dn kn bk s.heap.size (by first | assumption | omega) (by first | assumption | omega)) (cwV 1 hts (gd_V tb_cons wd_506 wd_508 wd_8 wd_33 wd_509) rfl rfl rfl (by decide +kernel) ⟨Nat.le_of_ble_eq_true rfl, Nat.le_of_ble_eq_true rfl⟩) (ck_preV hxT hK hP hD [0, 1] rfl (by decide) (q0 := 0) rfl rfl rfl) rfl rfl hl.1 rfl (lv_room (Nat.le_of_ble_eq_true rfl)) dX6_look_2 ⟨Nat.zero_le _, Nat.zero_le _⟩) ?_
  refine lv_iload_n hx hb dX6_look_5 rfl (lv_at hl 2 rfl) ?_
  refine lv_tableIn (tgt := 54) hx hb dX6_look_6 (by decide) (by decide) rfl (by decide) ?_
  refine lv_aload_n hx hb dX6_look_54 rfl (lv_at hl 0 rfl) ?_
  refine va_get (D := D) (ci := 6) (v := .ref aK) (C := RX6) (T := TX6) (N := 11) hx hb hts (fun w h => (List.mem_cons_of_mem _ (hinX6 w h))) hown hK hP 0 rfl rfl 4 (by decide) (hts _ (List.mem_cons_of_mem _ wd_193)) (fun _ h9 => h9) rfl dX6_look_55 ?_
  refine va_get (D := D) (ci := 0) (v := .ref aKt) (C := RX0) (T := TX0) (N := 8) hx hb hts (fun w h => (List.mem_cons_of_mem _ (hinX0 w h))) hown hK hP 1 rfl rfl 1 (by decide) (hts _ (List.mem_cons_of_mem _ wd_144)) (fun _ h9 => h9) rfl dX6_look_58 ?_
  refine lv_iload_n hx hb dX6_look_61 rfl (lv_at hl 1 rfl) ?_
  refine wk_iald hx hb hK hP 2 0 rfl rfl (by decide) (by omega) dX6_look_62 ?_
  exact pk_int hx hb hr hlocks (by first | rfl | omega) dX6_look_63

set_option maxHeartbeats 4000000 in
set_option maxRecDepth 100000 in
theorem tX6_look_2 (l : Launch) (D : va_G) (kI : ClassId) (kZ : ClassId) (kL : ClassId) (kJ : ClassId) (g : Nat) (aR : Nat) (aB : Nat) (aT : Nat) (aS : Nat) (aK : Nat) (aL : Nat) (aKs : Nat) (aKt : Nat) (aKb : Nat) (aKz : Nat) (aKl : Nat) (aKc : Nat) (aKu : Nat) (kb : Int → Int) (nw : Int) (al : Int) (lg : Int) (tt : Int) (dn : Int) (kn : Int) (bk : Int) (sz : Nat) (hkn : 0 ≤ kn ∧ kn ≤ 60) (hbk : 1 ≤ bk ∧ bk ≤ kn) : CtP l yX6_look wsX6_look ({ frames := 1, cells := 0, slots := 0, locals := 21 }) D vwCl (tyL kI kZ kL kJ) [(g, .inr (6, [.ref aR, .ref aB, .ref aT, .ref aS, .ref aK, .ref aL, .int (iI nw), .int (iI al), .int (iI lg), .int (iI tt), .int (iI dn)])), (aK, .inr (0, [.ref aKs, .ref aKt, .ref aKb, .ref aKz, .ref aKl, .ref aKc, .ref aKu, .int (iI kn)])), (aKb, .inl (kI, 61, .inl (iF kb)))] [.ref g, .int (iI bk), .int (iI 2)] (iI (kb bk)) sz := by
  refine pk_start (cc := cX6_look) (maxL := 3) (ret := (some .int)) (LV := [(0, .ref g), (1, .int (iI bk)), (2, .int (iI 2))]) (by decide) rfl rfl (Nat.le_of_ble_eq_true rfl) ?_
  intro p e s m below meth cd hadm hx hb hr hml hts hown hlocks hname hnoh hxT A hA hK hP hD hS ls hl
  refine lv_aload_n hx hb dX6_look_0 rfl (lv_at hl 0 rfl) ?_
  refine lv_iload_n hx hb dX6_look_1 rfl (lv_at hl 1 rfl) ?_
  refine pk_callV (va_runV (As := [.int (iI bk)]) (rest := []) ⟨hx, hb, hml, hown, hts⟩ (tX6_needBooking l D kI kZ kL kJ g aR aB aT aS aK aL aKs aKt aKb aKz aKl aKc aKu nw al lg tt dn kn bk s.heap.size (by first | assumption | omega) (by first | assumption | omega)) (cwV 1 hts (gd_V tb_cons wd_506 wd_508 wd_8 wd_33 wd_509) rfl rfl rfl (by decide +kernel) ⟨Nat.le_of_ble_eq_true rfl, Nat.le_of_ble_eq_true rfl⟩) (ck_preV hxT hK hP hD [0, 1] rfl (by decide) (q0 := 0) rfl rfl rfl) rfl rfl hl.1 rfl (lv_room (Nat.le_of_ble_eq_true rfl)) dX6_look_2 ⟨Nat.zero_le _, Nat.zero_le _⟩) ?_
  refine lv_iload_n hx hb dX6_look_5 rfl (lv_at hl 2 rfl) ?_
  refine lv_tableIn (tgt := 64) hx hb dX6_look_6 (by decide) (by decide) rfl (by decide) ?_
  refine lv_aload_n hx hb dX6_look_64 rfl (lv_at hl 0 rfl) ?_
  refine va_get (D := D) (ci := 6) (v := .ref aK) (C := RX6) (T := TX6) (N := 11) hx hb hts (fun w h => (List.mem_cons_of_mem _ (hinX6 w h))) hown hK hP 0 rfl rfl 4 (by decide) (hts _ (List.mem_cons_of_mem _ wd_193)) (fun _ h9 => h9) rfl dX6_look_65 ?_
  refine va_get (D := D) (ci := 0) (v := .ref aKb) (C := RX0) (T := TX0) (N := 8) hx hb hts (fun w h => (List.mem_cons_of_mem _ (hinX0 w h))) hown hK hP 1 rfl rfl 2 (by decide) (hts _ (List.mem_cons_of_mem _ wd_146)) (fun _ h9 => h9) rfl dX6_look_68 ?_
  refine lv_iload_n hx hb dX6_look_71 rfl (lv_at hl 1 rfl) ?_
  refine wk_iald hx hb hK hP 2 0 rfl rfl (by decide) (by omega) dX6_look_72 ?_
  exact pk_int hx hb hr hlocks (by first | rfl | omega) dX6_look_73

set_option maxHeartbeats 4000000 in
set_option maxRecDepth 100000 in
theorem tX6_look_3 (l : Launch) (D : va_G) (kI : ClassId) (kZ : ClassId) (kL : ClassId) (kJ : ClassId) (g : Nat) (aR : Nat) (aB : Nat) (aT : Nat) (aS : Nat) (aK : Nat) (aL : Nat) (aKs : Nat) (aKt : Nat) (aKb : Nat) (aKz : Nat) (aKl : Nat) (aKc : Nat) (aKu : Nat) (kz : Int → Int) (nw : Int) (al : Int) (lg : Int) (tt : Int) (dn : Int) (kn : Int) (bk : Int) (sz : Nat) (hkn : 0 ≤ kn ∧ kn ≤ 60) (hbk : 1 ≤ bk ∧ bk ≤ kn) : CtP l yX6_look wsX6_look ({ frames := 1, cells := 0, slots := 0, locals := 21 }) D vwCl (tyL kI kZ kL kJ) [(g, .inr (6, [.ref aR, .ref aB, .ref aT, .ref aS, .ref aK, .ref aL, .int (iI nw), .int (iI al), .int (iI lg), .int (iI tt), .int (iI dn)])), (aK, .inr (0, [.ref aKs, .ref aKt, .ref aKb, .ref aKz, .ref aKl, .ref aKc, .ref aKu, .int (iI kn)])), (aKz, .inl (kI, 61, .inl (iF kz)))] [.ref g, .int (iI bk), .int (iI 3)] (iI (kz bk)) sz := by
  refine pk_start (cc := cX6_look) (maxL := 3) (ret := (some .int)) (LV := [(0, .ref g), (1, .int (iI bk)), (2, .int (iI 3))]) (by decide) rfl rfl (Nat.le_of_ble_eq_true rfl) ?_
  intro p e s m below meth cd hadm hx hb hr hml hts hown hlocks hname hnoh hxT A hA hK hP hD hS ls hl
  refine lv_aload_n hx hb dX6_look_0 rfl (lv_at hl 0 rfl) ?_
  refine lv_iload_n hx hb dX6_look_1 rfl (lv_at hl 1 rfl) ?_
  refine pk_callV (va_runV (As := [.int (iI bk)]) (rest := []) ⟨hx, hb, hml, hown, hts⟩ (tX6_needBooking l D kI kZ kL kJ g aR aB aT aS aK aL aKs aKt aKb aKz aKl aKc aKu nw al lg tt dn kn bk s.heap.size (by first | assumption | omega) (by first | assumption | omega)) (cwV 1 hts (gd_V tb_cons wd_506 wd_508 wd_8 wd_33 wd_509) rfl rfl rfl (by decide +kernel) ⟨Nat.le_of_ble_eq_true rfl, Nat.le_of_ble_eq_true rfl⟩) (ck_preV hxT hK hP hD [0, 1] rfl (by decide) (q0 := 0) rfl rfl rfl) rfl rfl hl.1 rfl (lv_room (Nat.le_of_ble_eq_true rfl)) dX6_look_2 ⟨Nat.zero_le _, Nat.zero_le _⟩) ?_
  refine lv_iload_n hx hb dX6_look_5 rfl (lv_at hl 2 rfl) ?_
  refine lv_tableIn (tgt := 74) hx hb dX6_look_6 (by decide) (by decide) rfl (by decide) ?_
  refine lv_aload_n hx hb dX6_look_74 rfl (lv_at hl 0 rfl) ?_
  refine va_get (D := D) (ci := 6) (v := .ref aK) (C := RX6) (T := TX6) (N := 11) hx hb hts (fun w h => (List.mem_cons_of_mem _ (hinX6 w h))) hown hK hP 0 rfl rfl 4 (by decide) (hts _ (List.mem_cons_of_mem _ wd_193)) (fun _ h9 => h9) rfl dX6_look_75 ?_
  refine va_get (D := D) (ci := 0) (v := .ref aKz) (C := RX0) (T := TX0) (N := 8) hx hb hts (fun w h => (List.mem_cons_of_mem _ (hinX0 w h))) hown hK hP 1 rfl rfl 3 (by decide) (hts _ (List.mem_cons_of_mem _ wd_148)) (fun _ h9 => h9) rfl dX6_look_78 ?_
  refine lv_iload_n hx hb dX6_look_81 rfl (lv_at hl 1 rfl) ?_
  refine wk_iald hx hb hK hP 2 0 rfl rfl (by decide) (by omega) dX6_look_82 ?_
  exact pk_int hx hb hr hlocks (by first | rfl | omega) dX6_look_83

set_option maxHeartbeats 4000000 in
set_option maxRecDepth 100000 in
theorem tX6_look_4 (l : Launch) (D : va_G) (kI : ClassId) (kZ : ClassId) (kL : ClassId) (kJ : ClassId) (g : Nat) (aR : Nat) (aB : Nat) (aT : Nat) (aS : Nat) (aK : Nat) (aL : Nat) (aKs : Nat) (aKt : Nat) (aKb : Nat) (aKz : Nat) (aKl : Nat) (aKc : Nat) (aKu : Nat) (kz : Int → Int) (kl : Int → Int) (nw : Int) (al : Int) (lg : Int) (tt : Int) (dn : Int) (kn : Int) (bk : Int) (sz : Nat) (hkn : 0 ≤ kn ∧ kn ≤ 60) (hbk : 1 ≤ bk ∧ bk ≤ kn) (hkz : ∀ j, 0 ≤ kz j ∧ kz j ≤ 1000000) : CtP l yX6_look wsX6_look ({ frames := 1, cells := 0, slots := 0, locals := 21 }) D vwCl (tyL kI kZ kL kJ) [(g, .inr (6, [.ref aR, .ref aB, .ref aT, .ref aS, .ref aK, .ref aL, .int (iI nw), .int (iI al), .int (iI lg), .int (iI tt), .int (iI dn)])), (aK, .inr (0, [.ref aKs, .ref aKt, .ref aKb, .ref aKz, .ref aKl, .ref aKc, .ref aKu, .int (iI kn)])), (aKz, .inl (kI, 61, .inl (iF kz))), (aKl, .inl (kI, 61, .inl (iF kl)))] [.ref g, .int (iI bk), .int (iI 4)] (iI (if kz bk = 1 then kl bk else -1)) sz := by
  refine pk_start (cc := cX6_look) (maxL := 3) (ret := (some .int)) (LV := [(0, .ref g), (1, .int (iI bk)), (2, .int (iI 4))]) (by decide) rfl rfl (Nat.le_of_ble_eq_true rfl) ?_
  intro p e s m below meth cd hadm hx hb hr hml hts hown hlocks hname hnoh hxT A hA hK hP hD hS ls hl
  refine lv_aload_n hx hb dX6_look_0 rfl (lv_at hl 0 rfl) ?_
  refine lv_iload_n hx hb dX6_look_1 rfl (lv_at hl 1 rfl) ?_
  refine pk_callV (va_runV (As := [.int (iI bk)]) (rest := []) ⟨hx, hb, hml, hown, hts⟩ (tX6_needBooking l D kI kZ kL kJ g aR aB aT aS aK aL aKs aKt aKb aKz aKl aKc aKu nw al lg tt dn kn bk s.heap.size (by first | assumption | omega) (by first | assumption | omega)) (cwV 1 hts (gd_V tb_cons wd_506 wd_508 wd_8 wd_33 wd_509) rfl rfl rfl (by decide +kernel) ⟨Nat.le_of_ble_eq_true rfl, Nat.le_of_ble_eq_true rfl⟩) (ck_preV hxT hK hP hD [0, 1] rfl (by decide) (q0 := 0) rfl rfl rfl) rfl rfl hl.1 rfl (lv_room (Nat.le_of_ble_eq_true rfl)) dX6_look_2 ⟨Nat.zero_le _, Nat.zero_le _⟩) ?_
  refine lv_iload_n hx hb dX6_look_5 rfl (lv_at hl 2 rfl) ?_
  refine lv_tableIn (tgt := 84) hx hb dX6_look_6 (by decide) (by decide) rfl (by decide) ?_
  refine lv_aload_n hx hb dX6_look_84 rfl (lv_at hl 0 rfl) ?_
  refine va_get (D := D) (ci := 6) (v := .ref aK) (C := RX6) (T := TX6) (N := 11) hx hb hts (fun w h => (List.mem_cons_of_mem _ (hinX6 w h))) hown hK hP 0 rfl rfl 4 (by decide) (hts _ (List.mem_cons_of_mem _ wd_193)) (fun _ h9 => h9) rfl dX6_look_85 ?_
  refine va_get (D := D) (ci := 0) (v := .ref aKz) (C := RX0) (T := TX0) (N := 8) hx hb hts (fun w h => (List.mem_cons_of_mem _ (hinX0 w h))) hown hK hP 1 rfl rfl 3 (by decide) (hts _ (List.mem_cons_of_mem _ wd_148)) (fun _ h9 => h9) rfl dX6_look_88 ?_
  refine lv_iload_n hx hb dX6_look_91 rfl (lv_at hl 1 rfl) ?_
  refine wk_iald hx hb hK hP 2 0 rfl rfl (by decide) (by omega) dX6_look_92 ?_
  have b_1 := hkz bk
  refine lv_iconst (v := iI 1) hx hb dX6_look_93 rfl ?_
  refine wk_icmp_ne (tgt := 109) hx hb dX6_look_94 (by decide) (by omega) (fun c_2 => ?_) (fun c_2 => ?_)
  · skip
    refine lv_iconst (v := iI (-1)) hx hb dX6_look_109 rfl ?_
    exact pk_int hx hb hr hlocks (by split <;> first | rfl | omega) dX6_look_110
  · skip
    refine lv_aload_n hx hb dX6_look_97 rfl (lv_at hl 0 rfl) ?_
    refine va_get (D := D) (ci := 6) (v := .ref aK) (C := RX6) (T := TX6) (N := 11) hx hb hts (fun w h => (List.mem_cons_of_mem _ (hinX6 w h))) hown hK hP 0 rfl rfl 4 (by decide) (hts _ (List.mem_cons_of_mem _ wd_193)) (fun _ h9 => h9) rfl dX6_look_98 ?_
    refine va_get (D := D) (ci := 0) (v := .ref aKl) (C := RX0) (T := TX0) (N := 8) hx hb hts (fun w h => (List.mem_cons_of_mem _ (hinX0 w h))) hown hK hP 1 rfl rfl 4 (by decide) (hts _ (List.mem_cons_of_mem _ wd_150)) (fun _ h9 => h9) rfl dX6_look_101 ?_
    refine lv_iload_n hx hb dX6_look_104 rfl (lv_at hl 1 rfl) ?_
    refine wk_iald hx hb hK hP 3 0 rfl rfl (by decide) (by omega) dX6_look_105 ?_
    refine lv_goto (tgt := 110) hx hb dX6_look_106 (by decide) ?_
    exact pk_int hx hb hr hlocks (by split <;> first | rfl | omega) dX6_look_110

set_option maxHeartbeats 4000000 in
set_option maxRecDepth 100000 in
theorem tX6_look_5 (l : Launch) (D : va_G) (kI : ClassId) (kZ : ClassId) (kL : ClassId) (kJ : ClassId) (g : Nat) (aR : Nat) (aB : Nat) (aT : Nat) (aS : Nat) (aK : Nat) (aL : Nat) (aKs : Nat) (aKt : Nat) (aKb : Nat) (aKz : Nat) (aKl : Nat) (aKc : Nat) (aKu : Nat) (kz : Int → Int) (ku : Int → Int) (nw : Int) (al : Int) (lg : Int) (tt : Int) (dn : Int) (kn : Int) (bk : Int) (sz : Nat) (hkn : 0 ≤ kn ∧ kn ≤ 60) (hbk : 1 ≤ bk ∧ bk ≤ kn) (hkz : ∀ j, 0 ≤ kz j ∧ kz j ≤ 1000000) : CtP l yX6_look wsX6_look ({ frames := 1, cells := 0, slots := 0, locals := 21 }) D vwCl (tyL kI kZ kL kJ) [(g, .inr (6, [.ref aR, .ref aB, .ref aT, .ref aS, .ref aK, .ref aL, .int (iI nw), .int (iI al), .int (iI lg), .int (iI tt), .int (iI dn)])), (aK, .inr (0, [.ref aKs, .ref aKt, .ref aKb, .ref aKz, .ref aKl, .ref aKc, .ref aKu, .int (iI kn)])), (aKz, .inl (kI, 61, .inl (iF kz))), (aKu, .inl (kI, 61, .inl (iF ku)))] [.ref g, .int (iI bk), .int (iI 5)] (iI (if kz bk = 2 then ku bk else -1)) sz := by
  refine pk_start (cc := cX6_look) (maxL := 3) (ret := (some .int)) (LV := [(0, .ref g), (1, .int (iI bk)), (2, .int (iI 5))]) (by decide) rfl rfl (Nat.le_of_ble_eq_true rfl) ?_
  intro p e s m below meth cd hadm hx hb hr hml hts hown hlocks hname hnoh hxT A hA hK hP hD hS ls hl
  refine lv_aload_n hx hb dX6_look_0 rfl (lv_at hl 0 rfl) ?_
  refine lv_iload_n hx hb dX6_look_1 rfl (lv_at hl 1 rfl) ?_
  refine pk_callV (va_runV (As := [.int (iI bk)]) (rest := []) ⟨hx, hb, hml, hown, hts⟩ (tX6_needBooking l D kI kZ kL kJ g aR aB aT aS aK aL aKs aKt aKb aKz aKl aKc aKu nw al lg tt dn kn bk s.heap.size (by first | assumption | omega) (by first | assumption | omega)) (cwV 1 hts (gd_V tb_cons wd_506 wd_508 wd_8 wd_33 wd_509) rfl rfl rfl (by decide +kernel) ⟨Nat.le_of_ble_eq_true rfl, Nat.le_of_ble_eq_true rfl⟩) (ck_preV hxT hK hP hD [0, 1] rfl (by decide) (q0 := 0) rfl rfl rfl) rfl rfl hl.1 rfl (lv_room (Nat.le_of_ble_eq_true rfl)) dX6_look_2 ⟨Nat.zero_le _, Nat.zero_le _⟩) ?_
  refine lv_iload_n hx hb dX6_look_5 rfl (lv_at hl 2 rfl) ?_
  refine lv_tableIn (tgt := 111) hx hb dX6_look_6 (by decide) (by decide) rfl (by decide) ?_
  refine lv_aload_n hx hb dX6_look_111 rfl (lv_at hl 0 rfl) ?_
  refine va_get (D := D) (ci := 6) (v := .ref aK) (C := RX6) (T := TX6) (N := 11) hx hb hts (fun w h => (List.mem_cons_of_mem _ (hinX6 w h))) hown hK hP 0 rfl rfl 4 (by decide) (hts _ (List.mem_cons_of_mem _ wd_193)) (fun _ h9 => h9) rfl dX6_look_112 ?_
  refine va_get (D := D) (ci := 0) (v := .ref aKz) (C := RX0) (T := TX0) (N := 8) hx hb hts (fun w h => (List.mem_cons_of_mem _ (hinX0 w h))) hown hK hP 1 rfl rfl 3 (by decide) (hts _ (List.mem_cons_of_mem _ wd_148)) (fun _ h9 => h9) rfl dX6_look_115 ?_
  refine lv_iload_n hx hb dX6_look_118 rfl (lv_at hl 1 rfl) ?_
  refine wk_iald hx hb hK hP 2 0 rfl rfl (by decide) (by omega) dX6_look_119 ?_
  have b_1 := hkz bk
  refine lv_iconst (v := iI 2) hx hb dX6_look_120 rfl ?_
  refine wk_icmp_ne (tgt := 136) hx hb dX6_look_121 (by decide) (by omega) (fun c_2 => ?_) (fun c_2 => ?_)
  · skip
    refine lv_iconst (v := iI (-1)) hx hb dX6_look_136 rfl ?_
    exact pk_int hx hb hr hlocks (by split <;> first | rfl | omega) dX6_look_137
  · skip
    refine lv_aload_n hx hb dX6_look_124 rfl (lv_at hl 0 rfl) ?_
    refine va_get (D := D) (ci := 6) (v := .ref aK) (C := RX6) (T := TX6) (N := 11) hx hb hts (fun w h => (List.mem_cons_of_mem _ (hinX6 w h))) hown hK hP 0 rfl rfl 4 (by decide) (hts _ (List.mem_cons_of_mem _ wd_193)) (fun _ h9 => h9) rfl dX6_look_125 ?_
    refine va_get (D := D) (ci := 0) (v := .ref aKu) (C := RX0) (T := TX0) (N := 8) hx hb hts (fun w h => (List.mem_cons_of_mem _ (hinX0 w h))) hown hK hP 1 rfl rfl 6 (by decide) (hts _ (List.mem_cons_of_mem _ wd_154)) (fun _ h9 => h9) rfl dX6_look_128 ?_
    refine lv_iload_n hx hb dX6_look_131 rfl (lv_at hl 1 rfl) ?_
    refine wk_iald hx hb hK hP 3 0 rfl rfl (by decide) (by omega) dX6_look_132 ?_
    refine lv_goto (tgt := 137) hx hb dX6_look_133 (by decide) ?_
    exact pk_int hx hb hr hlocks (by split <;> first | rfl | omega) dX6_look_137

set_option maxHeartbeats 4000000 in
set_option maxRecDepth 100000 in
theorem tX6_at_t1 (l : Launch) (D : va_G) (kI : ClassId) (kZ : ClassId) (kL : ClassId) (kJ : ClassId) (g : Nat) (aR : Nat) (aB : Nat) (aT : Nat) (aS : Nat) (aK : Nat) (aL : Nat) (aBs : Nat) (aBw : Nat) (aBd : Nat) (aBv : Nat) (nw : Int) (al : Int) (lg : Int) (tt : Int) (dn : Int) (bn : Int) (bx : Int) (pl : Int) (sz : Nat) (hfl : l.flags = pinnedFlags ++ [noTraceFlag]) (hbn : 0 ≤ bn ∧ bn ≤ 20) (hbx : -2147483648 ≤ bx ∧ bx ≤ 2147483647) (h1 : ¬ (0 ≤ bx ∧ bx < bn)) : CtT l yX6_at wsX6_at ({ frames := 7, cells := 1, slots := 6, locals := 103 }) D vwCl (tyL kI kZ kL kJ) [(g, .inr (6, [.ref aR, .ref aB, .ref aT, .ref aS, .ref aK, .ref aL, .int (iI nw), .int (iI al), .int (iI lg), .int (iI tt), .int (iI dn)])), (aB, .inr (1, [.ref aBs, .ref aBw, .ref aBd, .ref aBv, .int (iI bn)]))] [.ref g, .int (iI bx), .int (iI pl)] "java/lang/IndexOutOfBoundsException" sz := by
  refine ct_start (cc := cX6_at) (maxL := 3) (ret := (some .int)) (LV := [(0, .ref g), (1, .int (iI bx)), (2, .int (iI pl))]) (by decide) rfl rfl (Nat.le_of_ble_eq_true rfl) ?_
  intro p e s m below meth cd hadm hx hb hr hml hts hown hlocks hname hnoh hxT hzT A hA hK hP hD hS ls hl
  refine lv_aload_n hx hb dX6_at_0 rfl (lv_at hl 0 rfl) ?_
  refine lv_iload_n hx hb dX6_at_1 rfl (lv_at hl 1 rfl) ?_
  exact wt_leave (rest := []) (wt_runV (As := [.int (iI bx)]) (rest := []) ⟨hx, hb, hml, hown, hts⟩ (tX6_needBox_t l D kI kZ kL kJ g aR aB aT aS aK aL aBs aBw aBd aBv nw al lg tt dn bn bx s.heap.size hfl (by first | assumption | omega) (by first | assumption | omega) (by first | assumption | omega)) (cwV 1 hts (gd_V tb_cons wd_415 wd_417 wd_2 wd_33 wd_418) rfl rfl rfl (by decide +kernel) ⟨Nat.le_of_ble_eq_true rfl, Nat.le_of_ble_eq_true rfl⟩) (ck_preT hzT hxT hK hP hD [0, 1] rfl (by decide) (q0 := 0) rfl rfl rfl) rfl rfl hl.1 rfl (lv_room (Nat.le_of_ble_eq_true rfl)) dX6_at_2 ⟨Nat.le_of_ble_eq_true rfl, Nat.le_of_ble_eq_true rfl⟩) hnoh hlocks

set_option maxHeartbeats 4000000 in
set_option maxRecDepth 100000 in
theorem tX6_at_t2 (l : Launch) (D : va_G) (kI : ClassId) (kZ : ClassId) (kL : ClassId) (kJ : ClassId) (g : Nat) (aR : Nat) (aB : Nat) (aT : Nat) (aS : Nat) (aK : Nat) (aL : Nat) (aBs : Nat) (aBw : Nat) (aBd : Nat) (aBv : Nat) (nw : Int) (al : Int) (lg : Int) (tt : Int) (dn : Int) (bn : Int) (bx : Int) (pl : Int) (sz : Nat) (hfl : l.flags = pinnedFlags ++ [noTraceFlag]) (hbn : 0 ≤ bn ∧ bn ≤ 20) (hbx : 0 ≤ bx ∧ bx < bn) (hpl : -2147483648 ≤ pl ∧ pl ≤ 2147483647) (h1 : ¬ (0 ≤ pl ∧ pl < 10)) : CtT l yX6_at wsX6_at ({ frames := 6, cells := 1, slots := 6, locals := 82 }) D vwCl (tyL kI kZ kL kJ) [(g, .inr (6, [.ref aR, .ref aB, .ref aT, .ref aS, .ref aK, .ref aL, .int (iI nw), .int (iI al), .int (iI lg), .int (iI tt), .int (iI dn)])), (aB, .inr (1, [.ref aBs, .ref aBw, .ref aBd, .ref aBv, .int (iI bn)]))] [.ref g, .int (iI bx), .int (iI pl)] "java/lang/IndexOutOfBoundsException" sz := by
  refine ct_start (cc := cX6_at) (maxL := 3) (ret := (some .int)) (LV := [(0, .ref g), (1, .int (iI bx)), (2, .int (iI pl))]) (by decide) rfl rfl (Nat.le_of_ble_eq_true rfl) ?_
  intro p e s m below meth cd hadm hx hb hr hml hts hown hlocks hname hnoh hxT hzT A hA hK hP hD hS ls hl
  refine lv_aload_n hx hb dX6_at_0 rfl (lv_at hl 0 rfl) ?_
  refine lv_iload_n hx hb dX6_at_1 rfl (lv_at hl 1 rfl) ?_
  refine pk_callV (va_runV (As := [.int (iI bx)]) (rest := []) ⟨hx, hb, hml, hown, hts⟩ (tX6_needBox l D kI kZ kL kJ g aR aB aT aS aK aL aBs aBw aBd aBv nw al lg tt dn bn bx s.heap.size (by first | assumption | omega) (by first | assumption | omega)) (cwV 1 hts (gd_V tb_cons wd_415 wd_417 wd_2 wd_33 wd_418) rfl rfl rfl (by decide +kernel) ⟨Nat.le_of_ble_eq_true rfl, Nat.le_of_ble_eq_true rfl⟩) (ck_preV hxT hK hP hD [0, 1] rfl (by decide) (q0 := 0) rfl rfl rfl) rfl rfl hl.1 rfl (lv_room (Nat.le_of_ble_eq_true rfl)) dX6_at_2 ⟨Nat.zero_le _, Nat.zero_le _⟩) ?_
  refine lv_iload_n hx hb dX6_at_5 rfl (lv_at hl 2 rfl) ?_
  refine wk_if_lt (tgt := 15) hx hb dX6_at_6 (by decide) (by omega) (fun c_1 => ?_) (fun c_1 => ?_)
  · skip
    obtain ⟨q9, hZ9⟩ := xt_s231 hxT
    exact wt_new (names := exN) hx hb hown (Launch.traces_off hfl hadm) hlocks hnoh (hl.1.trans hml.symm) (by decide) (by decide) (ex_i (fun w h => hts w (List.mem_cons_of_mem _ h)) hzT hxT) (hts _ (List.mem_cons_of_mem _ wd_419)) (hts _ (List.mem_cons_of_mem _ wd_47)) hZ9 dX6_at_15 dX6_at_18 dX6_at_19 dX6_at_21 dX6_at_24 (Nat.le_of_ble_eq_true rfl) (Nat.le_of_ble_eq_true rfl) (Nat.le_of_ble_eq_true rfl) (Nat.le_of_ble_eq_true rfl)
  · skip
    refine lv_iload_n hx hb dX6_at_9 rfl (lv_at hl 2 rfl) ?_
    refine lv_bipush (v := iI 10) hx hb dX6_at_10 (by decide) ?_
    refine wk_icmp_lt (tgt := 25) hx hb dX6_at_12 (by decide) (by omega) (fun c_2 => ?_) (fun c_2 => ?_)
    · skip
      exfalso; omega
    · skip
      obtain ⟨q9, hZ9⟩ := xt_s231 hxT
      exact wt_new (names := exN) hx hb hown (Launch.traces_off hfl hadm) hlocks hnoh (hl.1.trans hml.symm) (by decide) (by decide) (ex_i (fun w h => hts w (List.mem_cons_of_mem _ h)) hzT hxT) (hts _ (List.mem_cons_of_mem _ wd_419)) (hts _ (List.mem_cons_of_mem _ wd_47)) hZ9 dX6_at_15 dX6_at_18 dX6_at_19 dX6_at_21 dX6_at_24 (Nat.le_of_ble_eq_true rfl) (Nat.le_of_ble_eq_true rfl) (Nat.le_of_ble_eq_true rfl) (Nat.le_of_ble_eq_true rfl)

set_option maxHeartbeats 4000000 in
set_option maxRecDepth 100000 in
theorem tX6_at (l : Launch) (D : va_G) (kI : ClassId) (kZ : ClassId) (kL : ClassId) (kJ : ClassId) (g : Nat) (aR : Nat) (aB : Nat) (aT : Nat) (aS : Nat) (aK : Nat) (aL : Nat) (aBs : Nat) (aBw : Nat) (aBd : Nat) (aBv : Nat) (bs : Int → Int) (nw : Int) (al : Int) (lg : Int) (tt : Int) (dn : Int) (bn : Int) (bx : Int) (pl : Int) (sz : Nat) (hbn : 0 ≤ bn ∧ bn ≤ 20) (hbx : 0 ≤ bx ∧ bx < bn) (hpl : 0 ≤ pl ∧ pl < 10) : CtP l yX6_at wsX6_at ({ frames := 1, cells := 0, slots := 0, locals := 21 }) D vwCl (tyL kI kZ kL kJ) [(g, .inr (6, [.ref aR, .ref aB, .ref aT, .ref aS, .ref aK, .ref aL, .int (iI nw), .int (iI al), .int (iI lg), .int (iI tt), .int (iI dn)])), (aB, .inr (1, [.ref aBs, .ref aBw, .ref aBd, .ref aBv, .int (iI bn)])), (aBs, .inl (kI, 200, .inl (iF bs)))] [.ref g, .int (iI bx), .int (iI pl)] (iI (bs (bx * 10 + pl))) sz := by
  refine pk_start (cc := cX6_at) (maxL := 3) (ret := (some .int)) (LV := [(0, .ref g), (1, .int (iI bx)), (2, .int (iI pl))]) (by decide) rfl rfl (Nat.le_of_ble_eq_true rfl) ?_
  intro p e s m below meth cd hadm hx hb hr hml hts hown hlocks hname hnoh hxT A hA hK hP hD hS ls hl
  refine lv_aload_n hx hb dX6_at_0 rfl (lv_at hl 0 rfl) ?_
  refine lv_iload_n hx hb dX6_at_1 rfl (lv_at hl 1 rfl) ?_
  refine pk_callV (va_runV (As := [.int (iI bx)]) (rest := []) ⟨hx, hb, hml, hown, hts⟩ (tX6_needBox l D kI kZ kL kJ g aR aB aT aS aK aL aBs aBw aBd aBv nw al lg tt dn bn bx s.heap.size (by first | assumption | omega) (by first | assumption | omega)) (cwV 1 hts (gd_V tb_cons wd_415 wd_417 wd_2 wd_33 wd_418) rfl rfl rfl (by decide +kernel) ⟨Nat.le_of_ble_eq_true rfl, Nat.le_of_ble_eq_true rfl⟩) (ck_preV hxT hK hP hD [0, 1] rfl (by decide) (q0 := 0) rfl rfl rfl) rfl rfl hl.1 rfl (lv_room (Nat.le_of_ble_eq_true rfl)) dX6_at_2 ⟨Nat.zero_le _, Nat.zero_le _⟩) ?_
  refine lv_iload_n hx hb dX6_at_5 rfl (lv_at hl 2 rfl) ?_
  refine wk_if_lt (tgt := 15) hx hb dX6_at_6 (by decide) (by omega) (fun c_1 => ?_) (fun c_1 => ?_)
  · skip
    exfalso; omega
  · skip
    refine lv_iload_n hx hb dX6_at_9 rfl (lv_at hl 2 rfl) ?_
    refine lv_bipush (v := iI 10) hx hb dX6_at_10 (by decide) ?_
    refine wk_icmp_lt (tgt := 25) hx hb dX6_at_12 (by decide) (by omega) (fun c_2 => ?_) (fun c_2 => ?_)
    · skip
      refine lv_aload_n hx hb dX6_at_25 rfl (lv_at hl 0 rfl) ?_
      refine va_get (D := D) (ci := 6) (v := .ref aB) (C := RX6) (T := TX6) (N := 11) hx hb hts (fun w h => (List.mem_cons_of_mem _ (hinX6 w h))) hown hK hP 0 rfl rfl 1 (by decide) (hts _ (List.mem_cons_of_mem _ wd_190)) (fun _ h9 => h9) rfl dX6_at_26 ?_
      refine va_get (D := D) (ci := 1) (v := .ref aBs) (C := RX1) (T := TX1) (N := 5) hx hb hts (fun w h => (List.mem_cons_of_mem _ (hinX1 w h))) hown hK hP 1 rfl rfl 0 (by decide) (hts _ (List.mem_cons_of_mem _ wd_79)) (fun _ h9 => h9) rfl dX6_at_29 ?_
      refine lv_iload_n hx hb dX6_at_32 rfl (lv_at hl 1 rfl) ?_
      refine lv_bipush (v := iI 10) hx hb dX6_at_33 (by decide) ?_
      refine wk_imul hx hb dX6_at_35 ?_
      refine lv_iload_n hx hb dX6_at_36 rfl (lv_at hl 2 rfl) ?_
      refine wk_iadd hx hb dX6_at_37 ?_
      refine wk_iald hx hb hK hP 2 0 rfl rfl (by decide) (by omega) dX6_at_38 ?_
      exact pk_int hx hb hr hlocks (by first | rfl | omega) dX6_at_39
    · skip
      exfalso; omega

set_option maxHeartbeats 4000000 in
set_option maxRecDepth 100000 in
theorem tX6_count_s (l : Launch) (D : va_G) (kI : ClassId) (kZ : ClassId) (kL : ClassId) (kJ : ClassId) (g : Nat) (aR : Nat) (aB : Nat) (aT : Nat) (aS : Nat) (aK : Nat) (aL : Nat) (aSt : Nat) (tk : Int → Int) (nw : Int) (al : Int) (lg : Int) (tt : Int) (dn : Int) (sn : Int) (sm : Int) (wh : Int) (sz : Nat) (hwh : -2147483648 ≤ wh ∧ wh ≤ 2147483647) (hsn : 1 ≤ sn ∧ sn ≤ 24) (h1 : 100 ≤ wh ∧ wh - 100 < sn) : CtP l yX6_count wsX6_count ({ frames := 1, cells := 0, slots := 0, locals := 21 }) D vwCl (tyL kI kZ kL kJ) [(g, .inr (6, [.ref aR, .ref aB, .ref aT, .ref aS, .ref aK, .ref aL, .int (iI nw), .int (iI al), .int (iI lg), .int (iI tt), .int (iI dn)])), (aS, .inr (4, [.ref aSt, .int (iI sn), .int (iI sm)])), (aSt, .inl (kI, 24, .inl (iF tk)))] [.ref g, .int (iI wh)] (iI (tk (wh - 100))) sz := by
  refine pk_start (cc := cX6_count) (maxL := 3) (ret := (some .int)) (LV := [(0, .ref g), (1, .int (iI wh))]) (by decide) rfl rfl (Nat.le_of_ble_eq_true rfl) ?_
  intro p e s m below meth cd hadm hx hb hr hml hts hown hlocks hname hnoh hxT A hA hK hP hD hS ls hl
  refine lv_iload_n hx hb dX6_count_0 rfl (lv_at hl 1 rfl) ?_
  refine lv_bipush (v := iI 100) hx hb dX6_count_1 (by decide) ?_
  refine wk_icmp_lt (tgt := 36) hx hb dX6_count_3 (by decide) (by omega) (fun c_1 => ?_) (fun c_1 => ?_)
  · skip
    exfalso; omega
  · skip
    refine lv_iload_n hx hb dX6_count_6 rfl (lv_at hl 1 rfl) ?_
    refine lv_bipush (v := iI 100) hx hb dX6_count_7 (by decide) ?_
    refine wk_isub hx hb dX6_count_9 ?_
    refine lv_istore_n (lv' := [(2, .int (iI (wh - 100))), (0, .ref g), (1, .int (iI wh))]) hx hb dX6_count_10 rfl hl (by decide) rfl (fun ls hl => ?_)
    refine lv_aload_n hx hb dX6_count_11 rfl (lv_at hl 1 rfl) ?_
    refine va_get (D := D) (ci := 6) (v := .ref aS) (C := RX6) (T := TX6) (N := 11) hx hb hts (fun w h => (List.mem_cons_of_mem _ (hinX6 w h))) hown hK hP 0 rfl rfl 3 (by decide) (hts _ (List.mem_cons_of_mem _ wd_192)) (fun _ h9 => h9) rfl dX6_count_12 ?_
    refine lv_iload_n hx hb dX6_count_15 rfl (lv_at hl 0 rfl) ?_
    refine pk_callI (va_runV (As := [.int (iI (wh - 100))]) (rest := []) ⟨hx, hb, hml, hown, hts⟩ (tX4_has l D kI kZ kL kJ aS aSt sn sm (wh - 100) s.heap.size (by first | assumption | omega) (by first | assumption | omega)) (cwV 1 hts (gd_V tb_cons wd_260 wd_261 wd_262 wd_37 wd_263) rfl rfl rfl (by decide +kernel) ⟨Nat.le_of_ble_eq_true rfl, Nat.le_of_ble_eq_true rfl⟩) (ck_preV hxT hK hP hD [1] rfl (by decide) (q0 := 0) rfl rfl rfl) rfl rfl hl.1 rfl (lv_room (Nat.le_of_ble_eq_true rfl)) dX6_count_16 ⟨Nat.zero_le _, Nat.zero_le _⟩) ?_
    refine wk_bif_eq (tgt := 34) hx hb dX6_count_19 (by decide) (fun c_2 => ?_) (fun c_2 => ?_)
    · skip
      exfalso; omega
    · skip
      refine lv_aload_n hx hb dX6_count_22 rfl (lv_at hl 1 rfl) ?_
      refine va_get (D := D) (ci := 6) (v := .ref aS) (C := RX6) (T := TX6) (N := 11) hx hb hts (fun w h => (List.mem_cons_of_mem _ (hinX6 w h))) hown hK hP 0 rfl rfl 3 (by decide) (hts _ (List.mem_cons_of_mem _ wd_192)) (fun _ h9 => h9) rfl dX6_count_23 ?_
      refine va_get (D := D) (ci := 4) (v := .ref aSt) (C := RX4) (T := TX4) (N := 3) hx hb hts (fun w h => (List.mem_cons_of_mem _ (hinX4 w h))) hown hK hP 1 rfl rfl 0 (by decide) (hts _ (List.mem_cons_of_mem _ wd_125)) (fun _ h9 => h9) rfl dX6_count_26 ?_
      refine lv_iload_n hx hb dX6_count_29 rfl (lv_at hl 0 rfl) ?_
      refine wk_iald hx hb hK hP 2 0 rfl rfl (by decide) (by omega) dX6_count_30 ?_
      refine lv_goto (tgt := 35) hx hb dX6_count_31 (by decide) ?_
      exact pk_int hx hb hr hlocks (by first | rfl | omega) dX6_count_35

set_option maxHeartbeats 4000000 in
set_option maxRecDepth 100000 in
theorem tX6_count_sn (l : Launch) (D : va_G) (kI : ClassId) (kZ : ClassId) (kL : ClassId) (kJ : ClassId) (g : Nat) (aR : Nat) (aB : Nat) (aT : Nat) (aS : Nat) (aK : Nat) (aL : Nat) (aSt : Nat) (nw : Int) (al : Int) (lg : Int) (tt : Int) (dn : Int) (sn : Int) (sm : Int) (wh : Int) (sz : Nat) (hwh : -2147483648 ≤ wh ∧ wh ≤ 2147483647) (hsn : 1 ≤ sn ∧ sn ≤ 24) (h1 : 100 ≤ wh ∧ ¬ wh - 100 < sn) : CtP l yX6_count wsX6_count ({ frames := 1, cells := 0, slots := 0, locals := 21 }) D vwCl (tyL kI kZ kL kJ) [(g, .inr (6, [.ref aR, .ref aB, .ref aT, .ref aS, .ref aK, .ref aL, .int (iI nw), .int (iI al), .int (iI lg), .int (iI tt), .int (iI dn)])), (aS, .inr (4, [.ref aSt, .int (iI sn), .int (iI sm)]))] [.ref g, .int (iI wh)] (iI (-1)) sz := by
  refine pk_start (cc := cX6_count) (maxL := 3) (ret := (some .int)) (LV := [(0, .ref g), (1, .int (iI wh))]) (by decide) rfl rfl (Nat.le_of_ble_eq_true rfl) ?_
  intro p e s m below meth cd hadm hx hb hr hml hts hown hlocks hname hnoh hxT A hA hK hP hD hS ls hl
  refine lv_iload_n hx hb dX6_count_0 rfl (lv_at hl 1 rfl) ?_
  refine lv_bipush (v := iI 100) hx hb dX6_count_1 (by decide) ?_
  refine wk_icmp_lt (tgt := 36) hx hb dX6_count_3 (by decide) (by omega) (fun c_1 => ?_) (fun c_1 => ?_)
  · skip
    exfalso; omega
  · skip
    refine lv_iload_n hx hb dX6_count_6 rfl (lv_at hl 1 rfl) ?_
    refine lv_bipush (v := iI 100) hx hb dX6_count_7 (by decide) ?_
    refine wk_isub hx hb dX6_count_9 ?_
    refine lv_istore_n (lv' := [(2, .int (iI (wh - 100))), (0, .ref g), (1, .int (iI wh))]) hx hb dX6_count_10 rfl hl (by decide) rfl (fun ls hl => ?_)
    refine lv_aload_n hx hb dX6_count_11 rfl (lv_at hl 1 rfl) ?_
    refine va_get (D := D) (ci := 6) (v := .ref aS) (C := RX6) (T := TX6) (N := 11) hx hb hts (fun w h => (List.mem_cons_of_mem _ (hinX6 w h))) hown hK hP 0 rfl rfl 3 (by decide) (hts _ (List.mem_cons_of_mem _ wd_192)) (fun _ h9 => h9) rfl dX6_count_12 ?_
    refine lv_iload_n hx hb dX6_count_15 rfl (lv_at hl 0 rfl) ?_
    refine pk_callI (va_runV (As := [.int (iI (wh - 100))]) (rest := []) ⟨hx, hb, hml, hown, hts⟩ (tX4_has l D kI kZ kL kJ aS aSt sn sm (wh - 100) s.heap.size (by first | assumption | omega) (by first | assumption | omega)) (cwV 1 hts (gd_V tb_cons wd_260 wd_261 wd_262 wd_37 wd_263) rfl rfl rfl (by decide +kernel) ⟨Nat.le_of_ble_eq_true rfl, Nat.le_of_ble_eq_true rfl⟩) (ck_preV hxT hK hP hD [1] rfl (by decide) (q0 := 0) rfl rfl rfl) rfl rfl hl.1 rfl (lv_room (Nat.le_of_ble_eq_true rfl)) dX6_count_16 ⟨Nat.zero_le _, Nat.zero_le _⟩) ?_
    refine wk_bif_eq (tgt := 34) hx hb dX6_count_19 (by decide) (fun c_2 => ?_) (fun c_2 => ?_)
    · skip
      refine lv_iconst (v := iI (-1)) hx hb dX6_count_34 rfl ?_
      exact pk_int hx hb hr hlocks (by first | rfl | omega) dX6_count_35
    · skip
      exfalso; omega

set_option maxHeartbeats 4000000 in
set_option maxRecDepth 100000 in
theorem tX6_count_n (l : Launch) (D : va_G) (kI : ClassId) (kZ : ClassId) (kL : ClassId) (kJ : ClassId) (g : Nat) (aR : Nat) (aB : Nat) (aT : Nat) (aS : Nat) (aK : Nat) (aL : Nat) (nw : Int) (al : Int) (lg : Int) (tt : Int) (dn : Int) (wh : Int) (sz : Nat) (hwh : -2147483648 ≤ wh ∧ wh ≤ 2147483647) (h1 : wh < 0 ∨ (9 < wh ∧ wh < 100)) : CtP l yX6_count wsX6_count ({ frames := 0, cells := 0, slots := 0, locals := 0 }) D vwCl (tyL kI kZ kL kJ) [(g, .inr (6, [.ref aR, .ref aB, .ref aT, .ref aS, .ref aK, .ref aL, .int (iI nw), .int (iI al), .int (iI lg), .int (iI tt), .int (iI dn)]))] [.ref g, .int (iI wh)] (iI (-1)) sz := by
  refine pk_start (cc := cX6_count) (maxL := 3) (ret := (some .int)) (LV := [(0, .ref g), (1, .int (iI wh))]) (by decide) rfl rfl (Nat.le_of_ble_eq_true rfl) ?_
  intro p e s m below meth cd hadm hx hb hr hml hts hown hlocks hname hnoh hxT A hA hK hP hD hS ls hl
  refine lv_iload_n hx hb dX6_count_0 rfl (lv_at hl 1 rfl) ?_
  refine lv_bipush (v := iI 100) hx hb dX6_count_1 (by decide) ?_
  refine wk_icmp_lt (tgt := 36) hx hb dX6_count_3 (by decide) (by omega) (fun c_1 => ?_) (fun c_1 => ?_)
  · skip
    refine lv_iload_n hx hb dX6_count_36 rfl (lv_at hl 1 rfl) ?_
    refine lv_tableOut (tgt := 148) hx hb dX6_count_37 (by rw [iz_toInt (by omega)]; omega) (by decide) ?_
    refine lv_iconst (v := iI (-1)) hx hb dX6_count_148 rfl ?_
    exact pk_int hx hb hr hlocks (by first | rfl | omega) dX6_count_149
  · skip
    exfalso; omega

set_option maxHeartbeats 4000000 in
set_option maxRecDepth 100000 in
theorem tX6_count_0 (l : Launch) (D : va_G) (kI : ClassId) (kZ : ClassId) (kL : ClassId) (kJ : ClassId) (g : Nat) (aR : Nat) (aB : Nat) (aT : Nat) (aS : Nat) (aK : Nat) (aL : Nat) (nw : Int) (al : Int) (lg : Int) (tt : Int) (dn : Int) (sz : Nat)  : CtP l yX6_count wsX6_count ({ frames := 0, cells := 0, slots := 0, locals := 0 }) D vwCl (tyL kI kZ kL kJ) [(g, .inr (6, [.ref aR, .ref aB, .ref aT, .ref aS, .ref aK, .ref aL, .int (iI nw), .int (iI al), .int (iI lg), .int (iI tt), .int (iI dn)]))] [.ref g, .int (iI 0)] (iI nw) sz := by
  refine pk_start (cc := cX6_count) (maxL := 3) (ret := (some .int)) (LV := [(0, .ref g), (1, .int (iI 0))]) (by decide) rfl rfl (Nat.le_of_ble_eq_true rfl) ?_
  intro p e s m below meth cd hadm hx hb hr hml hts hown hlocks hname hnoh hxT A hA hK hP hD hS ls hl
  refine lv_iload_n hx hb dX6_count_0 rfl (lv_at hl 1 rfl) ?_
  refine lv_bipush (v := iI 100) hx hb dX6_count_1 (by decide) ?_
  refine wk_icmp_lt (tgt := 36) hx hb dX6_count_3 (by decide) (by omega) (fun c_1 => ?_) (fun c_1 => ?_)
  · skip
    refine lv_iload_n hx hb dX6_count_36 rfl (lv_at hl 1 rfl) ?_
    refine lv_tableIn (tgt := 92) hx hb dX6_count_37 (by decide) (by decide) rfl (by decide) ?_
    refine lv_aload_n hx hb dX6_count_92 rfl (lv_at hl 0 rfl) ?_
    refine va_get (D := D) (ci := 6) (v := .int (iI nw)) (C := RX6) (T := TX6) (N := 11) hx hb hts (fun w h => (List.mem_cons_of_mem _ (hinX6 w h))) hown hK hP 0 rfl rfl 6 (by decide) (hts _ (List.mem_cons_of_mem _ wd_195)) (fun _ h9 => h9) rfl dX6_count_93 ?_
    exact pk_int hx hb hr hlocks (by first | rfl | omega) dX6_count_96
  · skip
    exfalso; omega

set_option maxHeartbeats 4000000 in
set_option maxRecDepth 100000 in
theorem tX6_count_1 (l : Launch) (D : va_G) (kI : ClassId) (kZ : ClassId) (kL : ClassId) (kJ : ClassId) (g : Nat) (aR : Nat) (aB : Nat) (aT : Nat) (aS : Nat) (aK : Nat) (aL : Nat) (aKs : Nat) (aKt : Nat) (aKb : Nat) (aKz : Nat) (aKl : Nat) (aKc : Nat) (aKu : Nat) (nw : Int) (al : Int) (lg : Int) (tt : Int) (dn : Int) (kn : Int) (sz : Nat)  : CtP l yX6_count wsX6_count ({ frames := 0, cells := 0, slots := 0, locals := 0 }) D vwCl (tyL kI kZ kL kJ) [(g, .inr (6, [.ref aR, .ref aB, .ref aT, .ref aS, .ref aK, .ref aL, .int (iI nw), .int (iI al), .int (iI lg), .int (iI tt), .int (iI dn)])), (aK, .inr (0, [.ref aKs, .ref aKt, .ref aKb, .ref aKz, .ref aKl, .ref aKc, .ref aKu, .int (iI kn)]))] [.ref g, .int (iI 1)] (iI kn) sz := by
  refine pk_start (cc := cX6_count) (maxL := 3) (ret := (some .int)) (LV := [(0, .ref g), (1, .int (iI 1))]) (by decide) rfl rfl (Nat.le_of_ble_eq_true rfl) ?_
  intro p e s m below meth cd hadm hx hb hr hml hts hown hlocks hname hnoh hxT A hA hK hP hD hS ls hl
  refine lv_iload_n hx hb dX6_count_0 rfl (lv_at hl 1 rfl) ?_
  refine lv_bipush (v := iI 100) hx hb dX6_count_1 (by decide) ?_
  refine wk_icmp_lt (tgt := 36) hx hb dX6_count_3 (by decide) (by omega) (fun c_1 => ?_) (fun c_1 => ?_)
  · skip
    refine lv_iload_n hx hb dX6_count_36 rfl (lv_at hl 1 rfl) ?_
    refine lv_tableIn (tgt := 97) hx hb dX6_count_37 (by decide) (by decide) rfl (by decide) ?_
    refine lv_aload_n hx hb dX6_count_97 rfl (lv_at hl 0 rfl) ?_
    refine va_get (D := D) (ci := 6) (v := .ref aK) (C := RX6) (T := TX6) (N := 11) hx hb hts (fun w h => (List.mem_cons_of_mem _ (hinX6 w h))) hown hK hP 0 rfl rfl 4 (by decide) (hts _ (List.mem_cons_of_mem _ wd_193)) (fun _ h9 => h9) rfl dX6_count_98 ?_
    refine va_get (D := D) (ci := 0) (v := .int (iI kn)) (C := RX0) (T := TX0) (N := 8) hx hb hts (fun w h => (List.mem_cons_of_mem _ (hinX0 w h))) hown hK hP 1 rfl rfl 7 (by decide) (hts _ (List.mem_cons_of_mem _ wd_156)) (fun _ h9 => h9) rfl dX6_count_101 ?_
    exact pk_int hx hb hr hlocks (by first | rfl | omega) dX6_count_104
  · skip
    exfalso; omega

set_option maxHeartbeats 4000000 in
set_option maxRecDepth 100000 in
theorem tX6_count_2 (l : Launch) (D : va_G) (kI : ClassId) (kZ : ClassId) (kL : ClassId) (kJ : ClassId) (g : Nat) (aR : Nat) (aB : Nat) (aT : Nat) (aS : Nat) (aK : Nat) (aL : Nat) (aBs : Nat) (aBw : Nat) (aBd : Nat) (aBv : Nat) (nw : Int) (al : Int) (lg : Int) (tt : Int) (dn : Int) (bn : Int) (sz : Nat)  : CtP l yX6_count wsX6_count ({ frames := 0, cells := 0, slots := 0, locals := 0 }) D vwCl (tyL kI kZ kL kJ) [(g, .inr (6, [.ref aR, .ref aB, .ref aT, .ref aS, .ref aK, .ref aL, .int (iI nw), .int (iI al), .int (iI lg), .int (iI tt), .int (iI dn)])), (aB, .inr (1, [.ref aBs, .ref aBw, .ref aBd, .ref aBv, .int (iI bn)]))] [.ref g, .int (iI 2)] (iI bn) sz := by
  refine pk_start (cc := cX6_count) (maxL := 3) (ret := (some .int)) (LV := [(0, .ref g), (1, .int (iI 2))]) (by decide) rfl rfl (Nat.le_of_ble_eq_true rfl) ?_
  intro p e s m below meth cd hadm hx hb hr hml hts hown hlocks hname hnoh hxT A hA hK hP hD hS ls hl
  refine lv_iload_n hx hb dX6_count_0 rfl (lv_at hl 1 rfl) ?_
  refine lv_bipush (v := iI 100) hx hb dX6_count_1 (by decide) ?_
  refine wk_icmp_lt (tgt := 36) hx hb dX6_count_3 (by decide) (by omega) (fun c_1 => ?_) (fun c_1 => ?_)
  · skip
    refine lv_iload_n hx hb dX6_count_36 rfl (lv_at hl 1 rfl) ?_
    refine lv_tableIn (tgt := 105) hx hb dX6_count_37 (by decide) (by decide) rfl (by decide) ?_
    refine lv_aload_n hx hb dX6_count_105 rfl (lv_at hl 0 rfl) ?_
    refine va_get (D := D) (ci := 6) (v := .ref aB) (C := RX6) (T := TX6) (N := 11) hx hb hts (fun w h => (List.mem_cons_of_mem _ (hinX6 w h))) hown hK hP 0 rfl rfl 1 (by decide) (hts _ (List.mem_cons_of_mem _ wd_190)) (fun _ h9 => h9) rfl dX6_count_106 ?_
    refine va_get (D := D) (ci := 1) (v := .int (iI bn)) (C := RX1) (T := TX1) (N := 5) hx hb hts (fun w h => (List.mem_cons_of_mem _ (hinX1 w h))) hown hK hP 1 rfl rfl 4 (by decide) (hts _ (List.mem_cons_of_mem _ wd_86)) (fun _ h9 => h9) rfl dX6_count_109 ?_
    exact pk_int hx hb hr hlocks (by first | rfl | omega) dX6_count_112
  · skip
    exfalso; omega

set_option maxHeartbeats 4000000 in
set_option maxRecDepth 100000 in
theorem tX6_count_3 (l : Launch) (D : va_G) (kI : ClassId) (kZ : ClassId) (kL : ClassId) (kJ : ClassId) (g : Nat) (aR : Nat) (aB : Nat) (aT : Nat) (aS : Nat) (aK : Nat) (aL : Nat) (aRs : Nat) (nw : Int) (al : Int) (lg : Int) (tt : Int) (dn : Int) (rn : Int) (sz : Nat)  : CtP l yX6_count wsX6_count ({ frames := 0, cells := 0, slots := 0, locals := 0 }) D vwCl (tyL kI kZ kL kJ) [(g, .inr (6, [.ref aR, .ref aB, .ref aT, .ref aS, .ref aK, .ref aL, .int (iI nw), .int (iI al), .int (iI lg), .int (iI tt), .int (iI dn)])), (aR, .inr (3, [.ref aRs, .int (iI rn)]))] [.ref g, .int (iI 3)] (iI rn) sz := by
  refine pk_start (cc := cX6_count) (maxL := 3) (ret := (some .int)) (LV := [(0, .ref g), (1, .int (iI 3))]) (by decide) rfl rfl (Nat.le_of_ble_eq_true rfl) ?_
  intro p e s m below meth cd hadm hx hb hr hml hts hown hlocks hname hnoh hxT A hA hK hP hD hS ls hl
  refine lv_iload_n hx hb dX6_count_0 rfl (lv_at hl 1 rfl) ?_
  refine lv_bipush (v := iI 100) hx hb dX6_count_1 (by decide) ?_
  refine wk_icmp_lt (tgt := 36) hx hb dX6_count_3 (by decide) (by omega) (fun c_1 => ?_) (fun c_1 => ?_)
  · skip
    refine lv_iload_n hx hb dX6_count_36 rfl (lv_at hl 1 rfl) ?_
    refine lv_tableIn (tgt := 113) hx hb dX6_count_37 (by decide) (by decide) rfl (by decide) ?_
    refine lv_aload_n hx hb dX6_count_113 rfl (lv_at hl 0 rfl) ?_
    refine va_get (D := D) (ci := 6) (v := .ref aR) (C := RX6) (T := TX6) (N := 11) hx hb hts (fun w h => (List.mem_cons_of_mem _ (hinX6 w h))) hown hK hP 0 rfl rfl 0 (by decide) (hts _ (List.mem_cons_of_mem _ wd_189)) (fun _ h9 => h9) rfl dX6_count_114 ?_
    refine va_get (D := D) (ci := 3) (v := .int (iI rn)) (C := RX3) (T := TX3) (N := 2) hx hb hts (fun w h => (List.mem_cons_of_mem _ (hinX3 w h))) hown hK hP 1 rfl rfl 1 (by decide) (hts _ (List.mem_cons_of_mem _ wd_65)) (fun _ h9 => h9) rfl dX6_count_117 ?_
    exact pk_int hx hb hr hlocks (by first | rfl | omega) dX6_count_120
  · skip
    exfalso; omega

set_option maxHeartbeats 4000000 in
set_option maxRecDepth 100000 in
theorem tX6_count_4 (l : Launch) (D : va_G) (kI : ClassId) (kZ : ClassId) (kL : ClassId) (kJ : ClassId) (g : Nat) (aR : Nat) (aB : Nat) (aT : Nat) (aS : Nat) (aK : Nat) (aL : Nat) (a0 : Nat) (a1 : Nat) (a2 : Nat) (a0w : Nat) (nw : Int) (al : Int) (lg : Int) (tt : Int) (dn : Int) (n0 : Int) (sz : Nat)  : CtP l yX6_count wsX6_count ({ frames := 0, cells := 0, slots := 0, locals := 0 }) D vwCl (tyL kI kZ kL kJ) [(g, .inr (6, [.ref aR, .ref aB, .ref aT, .ref aS, .ref aK, .ref aL, .int (iI nw), .int (iI al), .int (iI lg), .int (iI tt), .int (iI dn)])), (aL, .inl (kL, 3, .inr (.inr (.inr (.inr (g3 a0 a1 a2)))))), (a0, .inr (2, [.ref a0w, .int (iI n0)]))] [.ref g, .int (iI 4)] (iI n0) sz := by
  refine pk_start (cc := cX6_count) (maxL := 3) (ret := (some .int)) (LV := [(0, .ref g), (1, .int (iI 4))]) (by decide) rfl rfl (Nat.le_of_ble_eq_true rfl) ?_
  intro p e s m below meth cd hadm hx hb hr hml hts hown hlocks hname hnoh hxT A hA hK hP hD hS ls hl
  refine lv_iload_n hx hb dX6_count_0 rfl (lv_at hl 1 rfl) ?_
  refine lv_bipush (v := iI 100) hx hb dX6_count_1 (by decide) ?_
  refine wk_icmp_lt (tgt := 36) hx hb dX6_count_3 (by decide) (by omega) (fun c_1 => ?_) (fun c_1 => ?_)
  · skip
    refine lv_iload_n hx hb dX6_count_36 rfl (lv_at hl 1 rfl) ?_
    refine lv_tableIn (tgt := 121) hx hb dX6_count_37 (by decide) (by decide) rfl (by decide) ?_
    refine lv_aload_n hx hb dX6_count_121 rfl (lv_at hl 0 rfl) ?_
    refine va_get (D := D) (ci := 6) (v := .ref aL) (C := RX6) (T := TX6) (N := 11) hx hb hts (fun w h => (List.mem_cons_of_mem _ (hinX6 w h))) hown hK hP 0 rfl rfl 5 (by decide) (hts _ (List.mem_cons_of_mem _ wd_194)) (fun _ h9 => h9) rfl dX6_count_122 ?_
    refine lv_iload_n hx hb dX6_count_125 rfl (lv_at hl 1 rfl) ?_
    refine lv_iconst (v := iI 4) hx hb dX6_count_126 rfl ?_
    refine wk_isub hx hb dX6_count_127 ?_
    refine wk_eqi (show iI (4 - 4) = iI 0 by rfl) ?_
    refine wk_aald (y := a0) hx hb hK hP 1 2 rfl rfl (by decide) (by decide) rfl dX6_count_128 ?_
    refine va_get (D := D) (ci := 2) (v := .int (iI n0)) (C := RX2) (T := TX2) (N := 2) hx hb hts (fun w h => (List.mem_cons_of_mem _ (hinX2 w h))) hown hK hP 2 rfl rfl 1 (by decide) (hts _ (List.mem_cons_of_mem _ wd_183)) (fun _ h9 => h9) rfl dX6_count_129 ?_
    exact pk_int hx hb hr hlocks (by first | rfl | omega) dX6_count_132
  · skip
    exfalso; omega

set_option maxHeartbeats 4000000 in
set_option maxRecDepth 100000 in
theorem tX6_count_5 (l : Launch) (D : va_G) (kI : ClassId) (kZ : ClassId) (kL : ClassId) (kJ : ClassId) (g : Nat) (aR : Nat) (aB : Nat) (aT : Nat) (aS : Nat) (aK : Nat) (aL : Nat) (a0 : Nat) (a1 : Nat) (a2 : Nat) (a1w : Nat) (nw : Int) (al : Int) (lg : Int) (tt : Int) (dn : Int) (n1 : Int) (sz : Nat)  : CtP l yX6_count wsX6_count ({ frames := 0, cells := 0, slots := 0, locals := 0 }) D vwCl (tyL kI kZ kL kJ) [(g, .inr (6, [.ref aR, .ref aB, .ref aT, .ref aS, .ref aK, .ref aL, .int (iI nw), .int (iI al), .int (iI lg), .int (iI tt), .int (iI dn)])), (aL, .inl (kL, 3, .inr (.inr (.inr (.inr (g3 a0 a1 a2)))))), (a1, .inr (2, [.ref a1w, .int (iI n1)]))] [.ref g, .int (iI 5)] (iI n1) sz := by
  refine pk_start (cc := cX6_count) (maxL := 3) (ret := (some .int)) (LV := [(0, .ref g), (1, .int (iI 5))]) (by decide) rfl rfl (Nat.le_of_ble_eq_true rfl) ?_
  intro p e s m below meth cd hadm hx hb hr hml hts hown hlocks hname hnoh hxT A hA hK hP hD hS ls hl
  refine lv_iload_n hx hb dX6_count_0 rfl (lv_at hl 1 rfl) ?_
  refine lv_bipush (v := iI 100) hx hb dX6_count_1 (by decide) ?_
  refine wk_icmp_lt (tgt := 36) hx hb dX6_count_3 (by decide) (by omega) (fun c_1 => ?_) (fun c_1 => ?_)
  · skip
    refine lv_iload_n hx hb dX6_count_36 rfl (lv_at hl 1 rfl) ?_
    refine lv_tableIn (tgt := 121) hx hb dX6_count_37 (by decide) (by decide) rfl (by decide) ?_
    refine lv_aload_n hx hb dX6_count_121 rfl (lv_at hl 0 rfl) ?_
    refine va_get (D := D) (ci := 6) (v := .ref aL) (C := RX6) (T := TX6) (N := 11) hx hb hts (fun w h => (List.mem_cons_of_mem _ (hinX6 w h))) hown hK hP 0 rfl rfl 5 (by decide) (hts _ (List.mem_cons_of_mem _ wd_194)) (fun _ h9 => h9) rfl dX6_count_122 ?_
    refine lv_iload_n hx hb dX6_count_125 rfl (lv_at hl 1 rfl) ?_
    refine lv_iconst (v := iI 4) hx hb dX6_count_126 rfl ?_
    refine wk_isub hx hb dX6_count_127 ?_
    refine wk_eqi (show iI (5 - 4) = iI 1 by rfl) ?_
    refine wk_aald (y := a1) hx hb hK hP 1 2 rfl rfl (by decide) (by decide) rfl dX6_count_128 ?_
    refine va_get (D := D) (ci := 2) (v := .int (iI n1)) (C := RX2) (T := TX2) (N := 2) hx hb hts (fun w h => (List.mem_cons_of_mem _ (hinX2 w h))) hown hK hP 2 rfl rfl 1 (by decide) (hts _ (List.mem_cons_of_mem _ wd_183)) (fun _ h9 => h9) rfl dX6_count_129 ?_
    exact pk_int hx hb hr hlocks (by first | rfl | omega) dX6_count_132
  · skip
    exfalso; omega

set_option maxHeartbeats 4000000 in
set_option maxRecDepth 100000 in
theorem tX6_count_6 (l : Launch) (D : va_G) (kI : ClassId) (kZ : ClassId) (kL : ClassId) (kJ : ClassId) (g : Nat) (aR : Nat) (aB : Nat) (aT : Nat) (aS : Nat) (aK : Nat) (aL : Nat) (a0 : Nat) (a1 : Nat) (a2 : Nat) (a2w : Nat) (nw : Int) (al : Int) (lg : Int) (tt : Int) (dn : Int) (n2 : Int) (sz : Nat)  : CtP l yX6_count wsX6_count ({ frames := 0, cells := 0, slots := 0, locals := 0 }) D vwCl (tyL kI kZ kL kJ) [(g, .inr (6, [.ref aR, .ref aB, .ref aT, .ref aS, .ref aK, .ref aL, .int (iI nw), .int (iI al), .int (iI lg), .int (iI tt), .int (iI dn)])), (aL, .inl (kL, 3, .inr (.inr (.inr (.inr (g3 a0 a1 a2)))))), (a2, .inr (2, [.ref a2w, .int (iI n2)]))] [.ref g, .int (iI 6)] (iI n2) sz := by
  refine pk_start (cc := cX6_count) (maxL := 3) (ret := (some .int)) (LV := [(0, .ref g), (1, .int (iI 6))]) (by decide) rfl rfl (Nat.le_of_ble_eq_true rfl) ?_
  intro p e s m below meth cd hadm hx hb hr hml hts hown hlocks hname hnoh hxT A hA hK hP hD hS ls hl
  refine lv_iload_n hx hb dX6_count_0 rfl (lv_at hl 1 rfl) ?_
  refine lv_bipush (v := iI 100) hx hb dX6_count_1 (by decide) ?_
  refine wk_icmp_lt (tgt := 36) hx hb dX6_count_3 (by decide) (by omega) (fun c_1 => ?_) (fun c_1 => ?_)
  · skip
    refine lv_iload_n hx hb dX6_count_36 rfl (lv_at hl 1 rfl) ?_
    refine lv_tableIn (tgt := 121) hx hb dX6_count_37 (by decide) (by decide) rfl (by decide) ?_
    refine lv_aload_n hx hb dX6_count_121 rfl (lv_at hl 0 rfl) ?_
    refine va_get (D := D) (ci := 6) (v := .ref aL) (C := RX6) (T := TX6) (N := 11) hx hb hts (fun w h => (List.mem_cons_of_mem _ (hinX6 w h))) hown hK hP 0 rfl rfl 5 (by decide) (hts _ (List.mem_cons_of_mem _ wd_194)) (fun _ h9 => h9) rfl dX6_count_122 ?_
    refine lv_iload_n hx hb dX6_count_125 rfl (lv_at hl 1 rfl) ?_
    refine lv_iconst (v := iI 4) hx hb dX6_count_126 rfl ?_
    refine wk_isub hx hb dX6_count_127 ?_
    refine wk_eqi (show iI (6 - 4) = iI 2 by rfl) ?_
    refine wk_aald (y := a2) hx hb hK hP 1 2 rfl rfl (by decide) (by decide) rfl dX6_count_128 ?_
    refine va_get (D := D) (ci := 2) (v := .int (iI n2)) (C := RX2) (T := TX2) (N := 2) hx hb hts (fun w h => (List.mem_cons_of_mem _ (hinX2 w h))) hown hK hP 2 rfl rfl 1 (by decide) (hts _ (List.mem_cons_of_mem _ wd_183)) (fun _ h9 => h9) rfl dX6_count_129 ?_
    exact pk_int hx hb hr hlocks (by first | rfl | omega) dX6_count_132
  · skip
    exfalso; omega

set_option maxHeartbeats 4000000 in
set_option maxRecDepth 100000 in
theorem tX6_count_7 (l : Launch) (D : va_G) (kI : ClassId) (kZ : ClassId) (kL : ClassId) (kJ : ClassId) (g : Nat) (aR : Nat) (aB : Nat) (aT : Nat) (aS : Nat) (aK : Nat) (aL : Nat) (nw : Int) (al : Int) (lg : Int) (tt : Int) (dn : Int) (sz : Nat)  : CtP l yX6_count wsX6_count ({ frames := 0, cells := 0, slots := 0, locals := 0 }) D vwCl (tyL kI kZ kL kJ) [(g, .inr (6, [.ref aR, .ref aB, .ref aT, .ref aS, .ref aK, .ref aL, .int (iI nw), .int (iI al), .int (iI lg), .int (iI tt), .int (iI dn)]))] [.ref g, .int (iI 7)] (iI lg) sz := by
  refine pk_start (cc := cX6_count) (maxL := 3) (ret := (some .int)) (LV := [(0, .ref g), (1, .int (iI 7))]) (by decide) rfl rfl (Nat.le_of_ble_eq_true rfl) ?_
  intro p e s m below meth cd hadm hx hb hr hml hts hown hlocks hname hnoh hxT A hA hK hP hD hS ls hl
  refine lv_iload_n hx hb dX6_count_0 rfl (lv_at hl 1 rfl) ?_
  refine lv_bipush (v := iI 100) hx hb dX6_count_1 (by decide) ?_
  refine wk_icmp_lt (tgt := 36) hx hb dX6_count_3 (by decide) (by omega) (fun c_1 => ?_) (fun c_1 => ?_)
  · skip
    refine lv_iload_n hx hb dX6_count_36 rfl (lv_at hl 1 rfl) ?_
    refine lv_tableIn (tgt := 133) hx hb dX6_count_37 (by decide) (by decide) rfl (by decide) ?_
    refine lv_aload_n hx hb dX6_count_133 rfl (lv_at hl 0 rfl) ?_
    refine va_get (D := D) (ci := 6) (v := .int (iI lg)) (C := RX6) (T := TX6) (N := 11) hx hb hts (fun w h => (List.mem_cons_of_mem _ (hinX6 w h))) hown hK hP 0 rfl rfl 8 (by decide) (hts _ (List.mem_cons_of_mem _ wd_197)) (fun _ h9 => h9) rfl dX6_count_134 ?_
    exact pk_int hx hb hr hlocks (by first | rfl | omega) dX6_count_137
  · skip
    exfalso; omega

set_option maxHeartbeats 4000000 in
set_option maxRecDepth 100000 in
theorem tX6_count_8 (l : Launch) (D : va_G) (kI : ClassId) (kZ : ClassId) (kL : ClassId) (kJ : ClassId) (g : Nat) (aR : Nat) (aB : Nat) (aT : Nat) (aS : Nat) (aK : Nat) (aL : Nat) (nw : Int) (al : Int) (lg : Int) (tt : Int) (dn : Int) (sz : Nat)  : CtP l yX6_count wsX6_count ({ frames := 0, cells := 0, slots := 0, locals := 0 }) D vwCl (tyL kI kZ kL kJ) [(g, .inr (6, [.ref aR, .ref aB, .ref aT, .ref aS, .ref aK, .ref aL, .int (iI nw), .int (iI al), .int (iI lg), .int (iI tt), .int (iI dn)]))] [.ref g, .int (iI 8)] (iI tt) sz := by
  refine pk_start (cc := cX6_count) (maxL := 3) (ret := (some .int)) (LV := [(0, .ref g), (1, .int (iI 8))]) (by decide) rfl rfl (Nat.le_of_ble_eq_true rfl) ?_
  intro p e s m below meth cd hadm hx hb hr hml hts hown hlocks hname hnoh hxT A hA hK hP hD hS ls hl
  refine lv_iload_n hx hb dX6_count_0 rfl (lv_at hl 1 rfl) ?_
  refine lv_bipush (v := iI 100) hx hb dX6_count_1 (by decide) ?_
  refine wk_icmp_lt (tgt := 36) hx hb dX6_count_3 (by decide) (by omega) (fun c_1 => ?_) (fun c_1 => ?_)
  · skip
    refine lv_iload_n hx hb dX6_count_36 rfl (lv_at hl 1 rfl) ?_
    refine lv_tableIn (tgt := 138) hx hb dX6_count_37 (by decide) (by decide) rfl (by decide) ?_
    refine lv_aload_n hx hb dX6_count_138 rfl (lv_at hl 0 rfl) ?_
    refine va_get (D := D) (ci := 6) (v := .int (iI tt)) (C := RX6) (T := TX6) (N := 11) hx hb hts (fun w h => (List.mem_cons_of_mem _ (hinX6 w h))) hown hK hP 0 rfl rfl 9 (by decide) (hts _ (List.mem_cons_of_mem _ wd_198)) (fun _ h9 => h9) rfl dX6_count_139 ?_
    exact pk_int hx hb hr hlocks (by first | rfl | omega) dX6_count_142
  · skip
    exfalso; omega

set_option maxHeartbeats 4000000 in
set_option maxRecDepth 100000 in
theorem tX6_count_9 (l : Launch) (D : va_G) (kI : ClassId) (kZ : ClassId) (kL : ClassId) (kJ : ClassId) (g : Nat) (aR : Nat) (aB : Nat) (aT : Nat) (aS : Nat) (aK : Nat) (aL : Nat) (nw : Int) (al : Int) (lg : Int) (tt : Int) (dn : Int) (sz : Nat)  : CtP l yX6_count wsX6_count ({ frames := 0, cells := 0, slots := 0, locals := 0 }) D vwCl (tyL kI kZ kL kJ) [(g, .inr (6, [.ref aR, .ref aB, .ref aT, .ref aS, .ref aK, .ref aL, .int (iI nw), .int (iI al), .int (iI lg), .int (iI tt), .int (iI dn)]))] [.ref g, .int (iI 9)] (iI dn) sz := by
  refine pk_start (cc := cX6_count) (maxL := 3) (ret := (some .int)) (LV := [(0, .ref g), (1, .int (iI 9))]) (by decide) rfl rfl (Nat.le_of_ble_eq_true rfl) ?_
  intro p e s m below meth cd hadm hx hb hr hml hts hown hlocks hname hnoh hxT A hA hK hP hD hS ls hl
  refine lv_iload_n hx hb dX6_count_0 rfl (lv_at hl 1 rfl) ?_
  refine lv_bipush (v := iI 100) hx hb dX6_count_1 (by decide) ?_
  refine wk_icmp_lt (tgt := 36) hx hb dX6_count_3 (by decide) (by omega) (fun c_1 => ?_) (fun c_1 => ?_)
  · skip
    refine lv_iload_n hx hb dX6_count_36 rfl (lv_at hl 1 rfl) ?_
    refine lv_tableIn (tgt := 143) hx hb dX6_count_37 (by decide) (by decide) rfl (by decide) ?_
    refine lv_aload_n hx hb dX6_count_143 rfl (lv_at hl 0 rfl) ?_
    refine va_get (D := D) (ci := 6) (v := .int (iI dn)) (C := RX6) (T := TX6) (N := 11) hx hb hts (fun w h => (List.mem_cons_of_mem _ (hinX6 w h))) hown hK hP 0 rfl rfl 10 (by decide) (hts _ (List.mem_cons_of_mem _ wd_199)) (fun _ h9 => h9) rfl dX6_count_144 ?_
    exact pk_int hx hb hr hlocks (by first | rfl | omega) dX6_count_147
  · skip
    exfalso; omega
