set_option maxHeartbeats 4000000 in
set_option maxRecDepth 100000 in
theorem tX7_thrown (l : Launch) (D : va_G) (kI : ClassId) (kZ : ClassId) (kL : ClassId) (kJ : ClassId) (h : Nat) (hRo : Nat) (hNu : Nat) (hWe : Nat) (hDa : Nat) (hVe : Nat) (hSl : Nat) (hTr : Nat) (hBx : Nat) (hSt : Nat) (hLa : Nat) (hOr : Nat) (hSi : Nat) (hTu : Nat) (th : Int) (sn : Int) (sm : Int) (nw : Int) (rn : Int) (bn : Int) (kn : Int) (cm : Int) (al : Int) (lg : Int) (tt : Int) (dn : Int) (sz : Nat)  : CtP l yX7_thrown wsX7_thrown ({ frames := 0, cells := 0, slots := 0, locals := 0 }) D vwCl (tyL kI kZ kL kJ) [(h, .inr (7, [.int (iI th), .int (iI sn), .int (iI sm), .int (iI nw), .ref hRo, .int (iI rn), .int (iI bn), .ref hNu, .ref hWe, .ref hDa, .ref hVe, .int (iI kn), .ref hSl, .ref hTr, .ref hBx, .ref hSt, .ref hLa, .ref hOr, .ref hSi, .ref hTu, .int (iI cm), .int (iI al), .int (iI lg), .int (iI tt), .int (iI dn)]))] [.ref h] (iI th) sz := by
  refine pk_start (cc := cX7_thrown) (maxL := 1) (ret := (some .int)) (LV := [(0, .ref h)]) (by decide) rfl rfl (Nat.le_of_ble_eq_true rfl) ?_
  intro p e s m below meth cd hadm hx hb hr hml hts hown hlocks hname hnoh hxT A hA hK hP hD hS ls hl
  refine lv_aload_n hx hb dX7_thrown_0 rfl (lv_at hl 0 rfl) ?_
  refine va_get (D := D) (ci := 7) (v := .int (iI th)) (C := RX7) (T := TX7) (N := 25) hx hb hts (fun w h => (List.mem_cons_of_mem _ (hinX7 w h))) hown hK hP 0 rfl rfl 0 (by decide) (hts _ (List.mem_cons_of_mem _ wd_612)) (fun _ h9 => h9) rfl dX7_thrown_1 ?_
  exact pk_int hx hb hr hlocks (by first | rfl | omega) dX7_thrown_4

set_option maxHeartbeats 4000000 in
set_option maxRecDepth 100000 in
theorem tX7_fails (l : Launch) (D : va_G) (kI : ClassId) (kZ : ClassId) (kL : ClassId) (kJ : ClassId) (h : Nat) (hRo : Nat) (hNu : Nat) (hWe : Nat) (hDa : Nat) (hVe : Nat) (hSl : Nat) (hTr : Nat) (hBx : Nat) (hSt : Nat) (hLa : Nat) (hOr : Nat) (hSi : Nat) (hTu : Nat) (th : Int) (sn : Int) (sm : Int) (nw : Int) (rn : Int) (bn : Int) (kn : Int) (cm : Int) (al : Int) (lg : Int) (tt : Int) (dn : Int) (wy : Int) (sz : Nat)  : CtI l yX7_fails wsX7_fails ({ frames := 0, cells := 0, slots := 0, locals := 0 }) D vwCl (tyL kI kZ kL kJ) [(h, .inr (7, [.int (iI th), .int (iI sn), .int (iI sm), .int (iI nw), .ref hRo, .int (iI rn), .int (iI bn), .ref hNu, .ref hWe, .ref hDa, .ref hVe, .int (iI kn), .ref hSl, .ref hTr, .ref hBx, .ref hSt, .ref hLa, .ref hOr, .ref hSi, .ref hTu, .int (iI cm), .int (iI al), .int (iI lg), .int (iI tt), .int (iI dn)]))] [.ref h, .int (iI wy)] (iI 0) [(h, .inr (7, [.int (iI wy), .int (iI sn), .int (iI sm), .int (iI nw), .ref hRo, .int (iI rn), .int (iI bn), .ref hNu, .ref hWe, .ref hDa, .ref hVe, .int (iI kn), .ref hSl, .ref hTr, .ref hBx, .ref hSt, .ref hLa, .ref hOr, .ref hSi, .ref hTu, .int (iI cm), .int (iI al), .int (iI lg), .int (iI tt), .int (iI dn)]))] sz := by
  refine ck_start (Qc := fun A => cQi D vwCl (tyL kI kZ kL kJ) A (iI 0) [(h, .inr (7, [.int (iI wy), .int (iI sn), .int (iI sm), .int (iI nw), .ref hRo, .int (iI rn), .int (iI bn), .ref hNu, .ref hWe, .ref hDa, .ref hVe, .int (iI kn), .ref hSl, .ref hTr, .ref hBx, .ref hSt, .ref hLa, .ref hOr, .ref hSi, .ref hTu, .int (iI cm), .int (iI al), .int (iI lg), .int (iI tt), .int (iI dn)]))]) (cc := cX7_fails) (maxL := 2) (ret := (some .int)) (LV := [(0, .ref h), (1, .int (iI wy))]) (by decide) rfl rfl (Nat.le_of_ble_eq_true rfl) ?_
  intro p e s m below meth cd hadm hx hb hr hml hts hown hlocks hname hnoh hxT A hA hK hP hD hS ls hl
  refine lv_aload_n hx hb dX7_fails_0 rfl (lv_at hl 0 rfl) ?_
  refine lv_iload_n hx hb dX7_fails_1 rfl (lv_at hl 1 rfl) ?_
  refine wk_put (ci := 7) (C := RX7) (T := TX7) (N := 25) hx hb hts (fun w h => (List.mem_cons_of_mem _ (hinX7 w h))) tyX7 tyX7_ok nmX7 hown hK hP hD hS 0 rfl rfl 0 (by decide) (hts _ (List.mem_cons_of_mem _ wd_612)) (fun _ h9 => h9) rfl rfl (Nat.le_of_ble_eq_true rfl) dX7_fails_2 (ws' := [(h, .inr (7, [.int (iI wy), .int (iI sn), .int (iI sm), .int (iI nw), .ref hRo, .int (iI rn), .int (iI bn), .ref hNu, .ref hWe, .ref hDa, .ref hVe, .int (iI kn), .ref hSl, .ref hTr, .ref hBx, .ref hSt, .ref hLa, .ref hOr, .ref hSi, .ref hTu, .int (iI cm), .int (iI al), .int (iI lg), .int (iI tt), .int (iI dn)]))]) rfl (fun H locs hP hD hS => ?_)
  refine lv_iconst (v := iI 0) hx hb dX7_fails_5 rfl ?_
  exact rk_int hx hb hr hlocks hK hP hD hS (by first | rfl | omega) rfl dX7_fails_6

set_option maxHeartbeats 4000000 in
set_option maxRecDepth 100000 in
theorem tX7_isBooking (l : Launch) (D : va_G) (kI : ClassId) (kZ : ClassId) (kL : ClassId) (kJ : ClassId) (h : Nat) (hRo : Nat) (hNu : Nat) (hWe : Nat) (hDa : Nat) (hVe : Nat) (hSl : Nat) (hTr : Nat) (hBx : Nat) (hSt : Nat) (hLa : Nat) (hOr : Nat) (hSi : Nat) (hTu : Nat) (th : Int) (sn : Int) (sm : Int) (nw : Int) (rn : Int) (bn : Int) (kn : Int) (cm : Int) (al : Int) (lg : Int) (tt : Int) (dn : Int) (bk : Int) (sz : Nat) (hbk : -2147483648 ≤ bk ∧ bk ≤ 2147483647) (hkn : 0 ≤ kn ∧ kn ≤ 60) : CtP l yX7_isBooking wsX7_isBooking ({ frames := 0, cells := 0, slots := 0, locals := 0 }) D vwCl (tyL kI kZ kL kJ) [(h, .inr (7, [.int (iI th), .int (iI sn), .int (iI sm), .int (iI nw), .ref hRo, .int (iI rn), .int (iI bn), .ref hNu, .ref hWe, .ref hDa, .ref hVe, .int (iI kn), .ref hSl, .ref hTr, .ref hBx, .ref hSt, .ref hLa, .ref hOr, .ref hSi, .ref hTu, .int (iI cm), .int (iI al), .int (iI lg), .int (iI tt), .int (iI dn)]))] [.ref h, .int (iI bk)] (iI (bi (1 ≤ bk ∧ bk ≤ kn))) sz := by
  refine pk_start (cc := cX7_isBooking) (maxL := 2) (ret := (some .boolean)) (LV := [(0, .ref h), (1, .int (iI bk))]) (by decide) rfl rfl (Nat.le_of_ble_eq_true rfl) ?_
  intro p e s m below meth cd hadm hx hb hr hml hts hown hlocks hname hnoh hxT A hA hK hP hD hS ls hl
  refine lv_iload_n hx hb dX7_isBooking_0 rfl (lv_at hl 1 rfl) ?_
  refine lv_iconst (v := iI 1) hx hb dX7_isBooking_1 rfl ?_
  refine wk_icmp_lt (tgt := 17) hx hb dX7_isBooking_2 (by decide) (by omega) (fun c_1 => ?_) (fun c_1 => ?_)
  · skip
    refine lv_iconst (v := iI 0) hx hb dX7_isBooking_17 rfl ?_
    exact pk_bool hx hb hr hlocks (bi_f (by first | assumption | omega | (simp_all; done))) dX7_isBooking_18
  · skip
    refine lv_iload_n hx hb dX7_isBooking_5 rfl (lv_at hl 1 rfl) ?_
    refine lv_aload_n hx hb dX7_isBooking_6 rfl (lv_at hl 0 rfl) ?_
    refine va_get (D := D) (ci := 7) (v := .int (iI kn)) (C := RX7) (T := TX7) (N := 25) hx hb hts (fun w h => (List.mem_cons_of_mem _ (hinX7 w h))) hown hK hP 0 rfl rfl 11 (by decide) (hts _ (List.mem_cons_of_mem _ wd_623)) (fun _ h9 => h9) rfl dX7_isBooking_7 ?_
    refine wk_icmp_gt (tgt := 17) hx hb dX7_isBooking_10 (by decide) (by omega) (fun c_2 => ?_) (fun c_2 => ?_)
    · skip
      refine lv_iconst (v := iI 0) hx hb dX7_isBooking_17 rfl ?_
      exact pk_bool hx hb hr hlocks (bi_f (by first | assumption | omega | (simp_all; done))) dX7_isBooking_18
    · skip
      refine lv_iconst (v := iI 1) hx hb dX7_isBooking_13 rfl ?_
      refine lv_goto (tgt := 18) hx hb dX7_isBooking_14 (by decide) ?_
      exact pk_bool hx hb hr hlocks (bi_t (by first | assumption | omega | (simp_all; done))) dX7_isBooking_18

set_option maxHeartbeats 4000000 in
set_option maxRecDepth 100000 in
theorem tX7_isTime (l : Launch) (D : va_G) (kI : ClassId) (kZ : ClassId) (kL : ClassId) (kJ : ClassId) (h : Nat) (hRo : Nat) (hNu : Nat) (hWe : Nat) (hDa : Nat) (hVe : Nat) (hSl : Nat) (hTr : Nat) (hBx : Nat) (hSt : Nat) (hLa : Nat) (hOr : Nat) (hSi : Nat) (hTu : Nat) (th : Int) (sn : Int) (sm : Int) (nw : Int) (rn : Int) (bn : Int) (kn : Int) (cm : Int) (al : Int) (lg : Int) (tt : Int) (dn : Int) (tm : Int) (sz : Nat) (htm : -2147483648 ≤ tm ∧ tm ≤ 2147483647) (hnw : 0 ≤ nw ∧ nw ≤ 100000) : CtP l yX7_isTime wsX7_isTime ({ frames := 0, cells := 0, slots := 0, locals := 0 }) D vwCl (tyL kI kZ kL kJ) [(h, .inr (7, [.int (iI th), .int (iI sn), .int (iI sm), .int (iI nw), .ref hRo, .int (iI rn), .int (iI bn), .ref hNu, .ref hWe, .ref hDa, .ref hVe, .int (iI kn), .ref hSl, .ref hTr, .ref hBx, .ref hSt, .ref hLa, .ref hOr, .ref hSi, .ref hTu, .int (iI cm), .int (iI al), .int (iI lg), .int (iI tt), .int (iI dn)]))] [.ref h, .int (iI tm)] (iI (bi (nw ≤ tm ∧ tm ≤ 100000))) sz := by
  refine pk_start (cc := cX7_isTime) (maxL := 2) (ret := (some .boolean)) (LV := [(0, .ref h), (1, .int (iI tm))]) (by decide) rfl rfl (Nat.le_of_ble_eq_true rfl) ?_
  intro p e s m below meth cd hadm hx hb hr hml hts hown hlocks hname hnoh hxT A hA hK hP hD hS ls hl
  refine lv_iload_n hx hb dX7_isTime_0 rfl (lv_at hl 1 rfl) ?_
  refine lv_aload_n hx hb dX7_isTime_1 rfl (lv_at hl 0 rfl) ?_
  refine va_get (D := D) (ci := 7) (v := .int (iI nw)) (C := RX7) (T := TX7) (N := 25) hx hb hts (fun w h => (List.mem_cons_of_mem _ (hinX7 w h))) hown hK hP 0 rfl rfl 3 (by decide) (hts _ (List.mem_cons_of_mem _ wd_615)) (fun _ h9 => h9) rfl dX7_isTime_2 ?_
  refine wk_icmp_lt (tgt := 18) hx hb dX7_isTime_5 (by decide) (by omega) (fun c_1 => ?_) (fun c_1 => ?_)
  · skip
    refine lv_iconst (v := iI 0) hx hb dX7_isTime_18 rfl ?_
    exact pk_bool hx hb hr hlocks (bi_f (by first | assumption | omega | (simp_all; done))) dX7_isTime_19
  · skip
    refine lv_iload_n hx hb dX7_isTime_8 rfl (lv_at hl 1 rfl) ?_
    refine lv_ldc (v := 100000) hx hb hown (hts _ (List.mem_cons_of_mem _ wd_722)) dX7_isTime_9 ?_
    refine wk_eqi (show (100000 : Int32) = iI 100000 by decide) ?_
    refine wk_icmp_gt (tgt := 18) hx hb dX7_isTime_11 (by decide) (by omega) (fun c_2 => ?_) (fun c_2 => ?_)
    · skip
      refine lv_iconst (v := iI 0) hx hb dX7_isTime_18 rfl ?_
      exact pk_bool hx hb hr hlocks (bi_f (by first | assumption | omega | (simp_all; done))) dX7_isTime_19
    · skip
      refine lv_iconst (v := iI 1) hx hb dX7_isTime_14 rfl ?_
      refine lv_goto (tgt := 19) hx hb dX7_isTime_15 (by decide) ?_
      exact pk_bool hx hb hr hlocks (bi_t (by first | assumption | omega | (simp_all; done))) dX7_isTime_19

set_option maxHeartbeats 4000000 in
set_option maxRecDepth 100000 in
theorem tX7_isSlot (l : Launch) (D : va_G) (kI : ClassId) (kZ : ClassId) (kL : ClassId) (kJ : ClassId) (h : Nat) (hRo : Nat) (hNu : Nat) (hWe : Nat) (hDa : Nat) (hVe : Nat) (hSl : Nat) (hTr : Nat) (hBx : Nat) (hSt : Nat) (hLa : Nat) (hOr : Nat) (hSi : Nat) (hTu : Nat) (th : Int) (sn : Int) (sm : Int) (nw : Int) (rn : Int) (bn : Int) (kn : Int) (cm : Int) (al : Int) (lg : Int) (tt : Int) (dn : Int) (sl : Int) (sz : Nat) (hsl : -2147483648 ≤ sl ∧ sl ≤ 2147483647) (hsn : 1 ≤ sn ∧ sn ≤ 24) : CtP l yX7_isSlot wsX7_isSlot ({ frames := 0, cells := 0, slots := 0, locals := 0 }) D vwCl (tyL kI kZ kL kJ) [(h, .inr (7, [.int (iI th), .int (iI sn), .int (iI sm), .int (iI nw), .ref hRo, .int (iI rn), .int (iI bn), .ref hNu, .ref hWe, .ref hDa, .ref hVe, .int (iI kn), .ref hSl, .ref hTr, .ref hBx, .ref hSt, .ref hLa, .ref hOr, .ref hSi, .ref hTu, .int (iI cm), .int (iI al), .int (iI lg), .int (iI tt), .int (iI dn)]))] [.ref h, .int (iI sl)] (iI (bi (0 ≤ sl ∧ sl < sn))) sz := by
  refine pk_start (cc := cX7_isSlot) (maxL := 2) (ret := (some .boolean)) (LV := [(0, .ref h), (1, .int (iI sl))]) (by decide) rfl rfl (Nat.le_of_ble_eq_true rfl) ?_
  intro p e s m below meth cd hadm hx hb hr hml hts hown hlocks hname hnoh hxT A hA hK hP hD hS ls hl
  refine lv_iload_n hx hb dX7_isSlot_0 rfl (lv_at hl 1 rfl) ?_
  refine wk_if_lt (tgt := 16) hx hb dX7_isSlot_1 (by decide) (by omega) (fun c_1 => ?_) (fun c_1 => ?_)
  · skip
    refine lv_iconst (v := iI 0) hx hb dX7_isSlot_16 rfl ?_
    exact pk_bool hx hb hr hlocks (bi_f (by first | assumption | omega | (simp_all; done))) dX7_isSlot_17
  · skip
    refine lv_iload_n hx hb dX7_isSlot_4 rfl (lv_at hl 1 rfl) ?_
    refine lv_aload_n hx hb dX7_isSlot_5 rfl (lv_at hl 0 rfl) ?_
    refine va_get (D := D) (ci := 7) (v := .int (iI sn)) (C := RX7) (T := TX7) (N := 25) hx hb hts (fun w h => (List.mem_cons_of_mem _ (hinX7 w h))) hown hK hP 0 rfl rfl 1 (by decide) (hts _ (List.mem_cons_of_mem _ wd_613)) (fun _ h9 => h9) rfl dX7_isSlot_6 ?_
    refine wk_icmp_ge (tgt := 16) hx hb dX7_isSlot_9 (by decide) (by omega) (fun c_2 => ?_) (fun c_2 => ?_)
    · skip
      refine lv_iconst (v := iI 0) hx hb dX7_isSlot_16 rfl ?_
      exact pk_bool hx hb hr hlocks (bi_f (by first | assumption | omega | (simp_all; done))) dX7_isSlot_17
    · skip
      refine lv_iconst (v := iI 1) hx hb dX7_isSlot_12 rfl ?_
      refine lv_goto (tgt := 17) hx hb dX7_isSlot_13 (by decide) ?_
      exact pk_bool hx hb hr hlocks (bi_t (by first | assumption | omega | (simp_all; done))) dX7_isSlot_17

set_option maxHeartbeats 4000000 in
set_option maxRecDepth 100000 in
theorem tX7_isLetter (l : Launch) (D : va_G) (kI : ClassId) (kZ : ClassId) (kL : ClassId) (kJ : ClassId) (ch : Int) (sz : Nat) (hch : -2147483648 ≤ ch ∧ ch ≤ 2147483647) : CtP l yX7_isLetter wsX7_isLetter ({ frames := 0, cells := 0, slots := 0, locals := 0 }) D vwCl (tyL kI kZ kL kJ) [] [.int (iI ch)] (iI (bi (65 ≤ ch ∧ ch ≤ 90))) sz := by
  refine pk_start (cc := cX7_isLetter) (maxL := 1) (ret := (some .boolean)) (LV := [(0, .int (iI ch))]) (by decide) rfl rfl (Nat.le_of_ble_eq_true rfl) ?_
  intro p e s m below meth cd hadm hx hb hr hml hts hown hlocks hname hnoh hxT A hA hK hP hD hS ls hl
  refine lv_iload_n hx hb dX7_isLetter_0 rfl (lv_at hl 0 rfl) ?_
  refine lv_bipush (v := iI 65) hx hb dX7_isLetter_1 (by decide) ?_
  refine wk_icmp_lt (tgt := 16) hx hb dX7_isLetter_3 (by decide) (by omega) (fun c_1 => ?_) (fun c_1 => ?_)
  · skip
    refine lv_iconst (v := iI 0) hx hb dX7_isLetter_16 rfl ?_
    exact pk_bool hx hb hr hlocks (bi_f (by first | assumption | omega | (simp_all; done))) dX7_isLetter_17
  · skip
    refine lv_iload_n hx hb dX7_isLetter_6 rfl (lv_at hl 0 rfl) ?_
    refine lv_bipush (v := iI 90) hx hb dX7_isLetter_7 (by decide) ?_
    refine wk_icmp_gt (tgt := 16) hx hb dX7_isLetter_9 (by decide) (by omega) (fun c_2 => ?_) (fun c_2 => ?_)
    · skip
      refine lv_iconst (v := iI 0) hx hb dX7_isLetter_16 rfl ?_
      exact pk_bool hx hb hr hlocks (bi_f (by first | assumption | omega | (simp_all; done))) dX7_isLetter_17
    · skip
      refine lv_iconst (v := iI 1) hx hb dX7_isLetter_12 rfl ?_
      refine lv_goto (tgt := 17) hx hb dX7_isLetter_13 (by decide) ?_
      exact pk_bool hx hb hr hlocks (bi_t (by first | assumption | omega | (simp_all; done))) dX7_isLetter_17

set_option maxHeartbeats 4000000 in
set_option maxRecDepth 100000 in
theorem tX7_isDigit (l : Launch) (D : va_G) (kI : ClassId) (kZ : ClassId) (kL : ClassId) (kJ : ClassId) (ch : Int) (sz : Nat) (hch : -2147483648 ≤ ch ∧ ch ≤ 2147483647) : CtP l yX7_isDigit wsX7_isDigit ({ frames := 0, cells := 0, slots := 0, locals := 0 }) D vwCl (tyL kI kZ kL kJ) [] [.int (iI ch)] (iI (bi (48 ≤ ch ∧ ch ≤ 57))) sz := by
  refine pk_start (cc := cX7_isDigit) (maxL := 1) (ret := (some .boolean)) (LV := [(0, .int (iI ch))]) (by decide) rfl rfl (Nat.le_of_ble_eq_true rfl) ?_
  intro p e s m below meth cd hadm hx hb hr hml hts hown hlocks hname hnoh hxT A hA hK hP hD hS ls hl
  refine lv_iload_n hx hb dX7_isDigit_0 rfl (lv_at hl 0 rfl) ?_
  refine lv_bipush (v := iI 48) hx hb dX7_isDigit_1 (by decide) ?_
  refine wk_icmp_lt (tgt := 16) hx hb dX7_isDigit_3 (by decide) (by omega) (fun c_1 => ?_) (fun c_1 => ?_)
  · skip
    refine lv_iconst (v := iI 0) hx hb dX7_isDigit_16 rfl ?_
    exact pk_bool hx hb hr hlocks (bi_f (by first | assumption | omega | (simp_all; done))) dX7_isDigit_17
  · skip
    refine lv_iload_n hx hb dX7_isDigit_6 rfl (lv_at hl 0 rfl) ?_
    refine lv_bipush (v := iI 57) hx hb dX7_isDigit_7 (by decide) ?_
    refine wk_icmp_gt (tgt := 16) hx hb dX7_isDigit_9 (by decide) (by omega) (fun c_2 => ?_) (fun c_2 => ?_)
    · skip
      refine lv_iconst (v := iI 0) hx hb dX7_isDigit_16 rfl ?_
      exact pk_bool hx hb hr hlocks (bi_f (by first | assumption | omega | (simp_all; done))) dX7_isDigit_17
    · skip
      refine lv_iconst (v := iI 1) hx hb dX7_isDigit_12 rfl ?_
      refine lv_goto (tgt := 17) hx hb dX7_isDigit_13 (by decide) ?_
      exact pk_bool hx hb hr hlocks (bi_t (by first | assumption | omega | (simp_all; done))) dX7_isDigit_17

set_option maxHeartbeats 4000000 in
set_option maxRecDepth 100000 in
theorem tX7_sign (l : Launch) (D : va_G) (kI : ClassId) (kZ : ClassId) (kL : ClassId) (kJ : ClassId) (h : Nat) (hRo : Nat) (hNu : Nat) (hWe : Nat) (hDa : Nat) (hVe : Nat) (hSl : Nat) (hTr : Nat) (hBx : Nat) (hSt : Nat) (hLa : Nat) (hOr : Nat) (hSi : Nat) (hTu : Nat) (rs : Int → Int) (th : Int) (sn : Int) (sm : Int) (nw : Int) (rn : Int) (bn : Int) (kn : Int) (cm : Int) (al : Int) (lg : Int) (tt : Int) (dn : Int) (ch : Int) (sz : Nat) (hch : -2147483648 ≤ ch ∧ ch ≤ 2147483647) (hrn : 0 ≤ rn ∧ rn ≤ 11) (h1 : rn < 11) (h2 : ((4 ≤ rn ∧ rn < 10 ∧ 48 ≤ ch ∧ ch ≤ 57) ∨ (¬ (4 ≤ rn ∧ rn < 10) ∧ 65 ≤ ch ∧ ch ≤ 90))) : CtI l yX7_sign wsX7_sign ({ frames := 1, cells := 0, slots := 0, locals := 20 }) D vwCl (tyL kI kZ kL kJ) [(h, .inr (7, [.int (iI th), .int (iI sn), .int (iI sm), .int (iI nw), .ref hRo, .int (iI rn), .int (iI bn), .ref hNu, .ref hWe, .ref hDa, .ref hVe, .int (iI kn), .ref hSl, .ref hTr, .ref hBx, .ref hSt, .ref hLa, .ref hOr, .ref hSi, .ref hTu, .int (iI cm), .int (iI al), .int (iI lg), .int (iI tt), .int (iI dn)])), (hRo, .inl (kI, 11, .inl (iF rs)))] [.ref h, .int (iI ch)] (iI (rn + 1)) [(h, .inr (7, [.int (iI 0), .int (iI sn), .int (iI sm), .int (iI nw), .ref hRo, .int (iI (rn + 1)), .int (iI bn), .ref hNu, .ref hWe, .ref hDa, .ref hVe, .int (iI kn), .ref hSl, .ref hTr, .ref hBx, .ref hSt, .ref hLa, .ref hOr, .ref hSi, .ref hTu, .int (iI cm), .int (iI al), .int (iI lg), .int (iI tt), .int (iI dn)])), (hRo, .inl (kI, 11, .inl (iF (iu rs rn ch))))] sz := by
  refine ck_start (Qc := fun A => cQi D vwCl (tyL kI kZ kL kJ) A (iI (rn + 1)) [(h, .inr (7, [.int (iI 0), .int (iI sn), .int (iI sm), .int (iI nw), .ref hRo, .int (iI (rn + 1)), .int (iI bn), .ref hNu, .ref hWe, .ref hDa, .ref hVe, .int (iI kn), .ref hSl, .ref hTr, .ref hBx, .ref hSt, .ref hLa, .ref hOr, .ref hSi, .ref hTu, .int (iI cm), .int (iI al), .int (iI lg), .int (iI tt), .int (iI dn)])), (hRo, .inl (kI, 11, .inl (iF (iu rs rn ch))))]) (cc := cX7_sign) (maxL := 3) (ret := (some .int)) (LV := [(0, .ref h), (1, .int (iI ch))]) (by decide) rfl rfl (Nat.le_of_ble_eq_true rfl) ?_
  intro p e s m below meth cd hadm hx hb hr hml hts hown hlocks hname hnoh hxT A hA hK hP hD hS ls hl
  refine lv_aload_n hx hb dX7_sign_0 rfl (lv_at hl 0 rfl) ?_
  refine va_get (D := D) (ci := 7) (v := .int (iI rn)) (C := RX7) (T := TX7) (N := 25) hx hb hts (fun w h => (List.mem_cons_of_mem _ (hinX7 w h))) hown hK hP 0 rfl rfl 5 (by decide) (hts _ (List.mem_cons_of_mem _ wd_617)) (fun _ h9 => h9) rfl dX7_sign_1 ?_
  refine lv_bipush (v := iI 11) hx hb dX7_sign_4 (by decide) ?_
  refine wk_icmp_eq (tgt := 38) hx hb dX7_sign_6 (by decide) (by omega) (fun c_1 => ?_) (fun c_1 => ?_)
  · skip
    exfalso; omega
  · skip
    refine lv_aload_n hx hb dX7_sign_9 rfl (lv_at hl 0 rfl) ?_
    refine va_get (D := D) (ci := 7) (v := .int (iI rn)) (C := RX7) (T := TX7) (N := 25) hx hb hts (fun w h => (List.mem_cons_of_mem _ (hinX7 w h))) hown hK hP 0 rfl rfl 5 (by decide) (hts _ (List.mem_cons_of_mem _ wd_617)) (fun _ h9 => h9) rfl dX7_sign_10 ?_
    refine lv_iconst (v := iI 4) hx hb dX7_sign_13 rfl ?_
    refine wk_icmp_lt (tgt := 26) hx hb dX7_sign_14 (by decide) (by omega) (fun c_2 => ?_) (fun c_2 => ?_)
    · skip
      refine lv_iconst (v := iI 1) hx hb dX7_sign_26 rfl ?_
      refine lv_goto (tgt := 31) hx hb dX7_sign_27 (by decide) ?_
      refine lv_iload_n hx hb dX7_sign_31 rfl (lv_at hl 1 rfl) ?_
      refine pk_callI (va_runS (As := [.int (iI ch)]) (rest := [.int (iI 1)]) ⟨hx, hb, hml, hown, hts⟩ (tX7_isLetter l D kI kZ kL kJ ch s.heap.size (by first | assumption | omega)) (cwS 1 hts (gd_S tb_cons wd_696 wd_697 wd_41 wd_698) rfl rfl rfl (by decide +kernel) ⟨Nat.le_of_ble_eq_true rfl, Nat.le_of_ble_eq_true rfl⟩) (ck_preS hxT hK hP hD [] rfl (by decide)) rfl rfl hl.1 rfl (lv_room (Nat.le_of_ble_eq_true rfl)) dX7_sign_32 ⟨Nat.zero_le _, Nat.zero_le _⟩) ?_
      have b9 := bi_iff (65 ≤ ch ∧ ch ≤ 90)
      have b8 := bi_rng (65 ≤ ch ∧ ch ≤ 90)
      refine wk_icmp_ne (tgt := 42) hx hb dX7_sign_35 (by decide) (by omega) (fun c_3 => ?_) (fun c_3 => ?_)
      · skip
        exfalso; omega
      · skip
        refine lv_iconst (v := iI 1) hx hb dX7_sign_38 rfl ?_
        refine lv_goto (tgt := 43) hx hb dX7_sign_39 (by decide) ?_
        refine lv_istore_n (lv' := [(2, .int (iI 1)), (0, .ref h), (1, .int (iI ch))]) hx hb dX7_sign_43 rfl hl (by decide) rfl (fun ls hl => ?_)
        refine lv_iload_n hx hb dX7_sign_44 rfl (lv_at hl 2 rfl) ?_
        refine pk_callI (va_runS (As := [.int (iI ch)]) (rest := []) ⟨hx, hb, hml, hown, hts⟩ (tX7_isLetter l D kI kZ kL kJ ch s.heap.size (by first | assumption | omega)) (cwS 1 hts (gd_S tb_cons wd_696 wd_697 wd_41 wd_698) rfl rfl rfl (by decide +kernel) ⟨Nat.le_of_ble_eq_true rfl, Nat.le_of_ble_eq_true rfl⟩) (ck_preS hxT hK hP hD [] rfl (by decide)) rfl rfl hl.1 rfl (lv_room (Nat.le_of_ble_eq_true rfl)) dX7_sign_45 ⟨Nat.zero_le _, Nat.zero_le _⟩) ?_
        refine wk_bif_ne (tgt := 58) hx hb dX7_sign_48 (by decide) (fun c_4 => ?_) (fun c_4 => ?_)
        · skip
          refine lv_iload_n hx hb dX7_sign_58 rfl (lv_at hl 0 rfl) ?_
          refine wk_if_ne (tgt := 68) hx hb dX7_sign_59 (by decide) (by omega) (fun c_5 => ?_) (fun c_5 => ?_)
          · skip
            refine lv_aload_n hx hb dX7_sign_68 rfl (lv_at hl 1 rfl) ?_
            refine va_get (D := D) (ci := 7) (v := .int (iI rn)) (C := RX7) (T := TX7) (N := 25) hx hb hts (fun w h => (List.mem_cons_of_mem _ (hinX7 w h))) hown hK hP 0 rfl rfl 5 (by decide) (hts _ (List.mem_cons_of_mem _ wd_617)) (fun _ h9 => h9) rfl dX7_sign_69 ?_
            refine lv_bipush (v := iI 11) hx hb dX7_sign_72 (by decide) ?_
            refine wk_icmp_ne (tgt := 83) hx hb dX7_sign_74 (by decide) (by omega) (fun c_6 => ?_) (fun c_6 => ?_)
            · skip
              refine lv_aload_n hx hb dX7_sign_83 rfl (lv_at hl 1 rfl) ?_
              refine lv_iconst (v := iI 0) hx hb dX7_sign_84 rfl ?_
              refine wk_put (ci := 7) (C := RX7) (T := TX7) (N := 25) hx hb hts (fun w h => (List.mem_cons_of_mem _ (hinX7 w h))) tyX7 tyX7_ok nmX7 hown hK hP hD hS 0 rfl rfl 0 (by decide) (hts _ (List.mem_cons_of_mem _ wd_612)) (fun _ h9 => h9) rfl rfl (Nat.le_of_ble_eq_true rfl) dX7_sign_85 (ws' := [(h, .inr (7, [.int (iI 0), .int (iI sn), .int (iI sm), .int (iI nw), .ref hRo, .int (iI rn), .int (iI bn), .ref hNu, .ref hWe, .ref hDa, .ref hVe, .int (iI kn), .ref hSl, .ref hTr, .ref hBx, .ref hSt, .ref hLa, .ref hOr, .ref hSi, .ref hTu, .int (iI cm), .int (iI al), .int (iI lg), .int (iI tt), .int (iI dn)])), (hRo, .inl (kI, 11, .inl (iF rs)))]) rfl (fun H locs hP hD hS => ?_)
              refine lv_aload_n hx hb dX7_sign_88 rfl (lv_at hl 1 rfl) ?_
              refine va_get (D := D) (ci := 7) (v := .ref hRo) (C := RX7) (T := TX7) (N := 25) hx hb hts (fun w h => (List.mem_cons_of_mem _ (hinX7 w h))) hown hK hP 0 rfl rfl 4 (by decide) (hts _ (List.mem_cons_of_mem _ wd_616)) (fun _ h9 => h9) rfl dX7_sign_89 ?_
              refine lv_aload_n hx hb dX7_sign_92 rfl (lv_at hl 1 rfl) ?_
              refine va_get (D := D) (ci := 7) (v := .int (iI rn)) (C := RX7) (T := TX7) (N := 25) hx hb hts (fun w h => (List.mem_cons_of_mem _ (hinX7 w h))) hown hK hP 0 rfl rfl 5 (by decide) (hts _ (List.mem_cons_of_mem _ wd_617)) (fun _ h9 => h9) rfl dX7_sign_93 ?_
              refine lv_iload_n hx hb dX7_sign_96 rfl (lv_at hl 2 rfl) ?_
              refine wk_iast hx hb hK hP hD hS 1 0 rfl rfl (by decide) (by omega) dX7_sign_97 (ws' := [(h, .inr (7, [.int (iI 0), .int (iI sn), .int (iI sm), .int (iI nw), .ref hRo, .int (iI rn), .int (iI bn), .ref hNu, .ref hWe, .ref hDa, .ref hVe, .int (iI kn), .ref hSl, .ref hTr, .ref hBx, .ref hSt, .ref hLa, .ref hOr, .ref hSi, .ref hTu, .int (iI cm), .int (iI al), .int (iI lg), .int (iI tt), .int (iI dn)])), (hRo, .inl (kI, 11, .inl (iF (iu rs rn ch))))]) rfl (fun H locs hP hD hS => ?_)
              refine lv_aload_n hx hb dX7_sign_98 rfl (lv_at hl 1 rfl) ?_
              refine lv_dup hx hb dX7_sign_99 rfl ?_
              refine va_get (D := D) (ci := 7) (v := .int (iI rn)) (C := RX7) (T := TX7) (N := 25) hx hb hts (fun w h => (List.mem_cons_of_mem _ (hinX7 w h))) hown hK hP 0 rfl rfl 5 (by decide) (hts _ (List.mem_cons_of_mem _ wd_617)) (fun _ h9 => h9) rfl dX7_sign_100 ?_
              refine lv_iconst (v := iI 1) hx hb dX7_sign_103 rfl ?_
              refine wk_iadd hx hb dX7_sign_104 ?_
              refine wk_put (ci := 7) (C := RX7) (T := TX7) (N := 25) hx hb hts (fun w h => (List.mem_cons_of_mem _ (hinX7 w h))) tyX7 tyX7_ok nmX7 hown hK hP hD hS 0 rfl rfl 5 (by decide) (hts _ (List.mem_cons_of_mem _ wd_617)) (fun _ h9 => h9) rfl rfl (Nat.le_of_ble_eq_true rfl) dX7_sign_105 (ws' := [(h, .inr (7, [.int (iI 0), .int (iI sn), .int (iI sm), .int (iI nw), .ref hRo, .int (iI (rn + 1)), .int (iI bn), .ref hNu, .ref hWe, .ref hDa, .ref hVe, .int (iI kn), .ref hSl, .ref hTr, .ref hBx, .ref hSt, .ref hLa, .ref hOr, .ref hSi, .ref hTu, .int (iI cm), .int (iI al), .int (iI lg), .int (iI tt), .int (iI dn)])), (hRo, .inl (kI, 11, .inl (iF (iu rs rn ch))))]) rfl (fun H locs hP hD hS => ?_)
              refine lv_aload_n hx hb dX7_sign_108 rfl (lv_at hl 1 rfl) ?_
              refine va_get (D := D) (ci := 7) (v := .int (iI (rn + 1))) (C := RX7) (T := TX7) (N := 25) hx hb hts (fun w h => (List.mem_cons_of_mem _ (hinX7 w h))) hown hK hP 0 rfl rfl 5 (by decide) (hts _ (List.mem_cons_of_mem _ wd_617)) (fun _ h9 => h9) rfl dX7_sign_109 ?_
              exact rk_int hx hb hr hlocks hK hP hD hS (by first | rfl | omega) rfl dX7_sign_112
            · skip
              exfalso; omega
          · skip
            exfalso; omega
        · skip
          exfalso; omega
    · skip
      refine lv_aload_n hx hb dX7_sign_17 rfl (lv_at hl 0 rfl) ?_
      refine va_get (D := D) (ci := 7) (v := .int (iI rn)) (C := RX7) (T := TX7) (N := 25) hx hb hts (fun w h => (List.mem_cons_of_mem _ (hinX7 w h))) hown hK hP 0 rfl rfl 5 (by decide) (hts _ (List.mem_cons_of_mem _ wd_617)) (fun _ h9 => h9) rfl dX7_sign_18 ?_
      refine lv_bipush (v := iI 10) hx hb dX7_sign_21 (by decide) ?_
      refine wk_icmp_ne (tgt := 30) hx hb dX7_sign_23 (by decide) (by omega) (fun c_7 => ?_) (fun c_7 => ?_)
      · skip
        refine lv_iconst (v := iI 0) hx hb dX7_sign_30 rfl ?_
        refine lv_iload_n hx hb dX7_sign_31 rfl (lv_at hl 1 rfl) ?_
        refine pk_callI (va_runS (As := [.int (iI ch)]) (rest := [.int (iI 0)]) ⟨hx, hb, hml, hown, hts⟩ (tX7_isLetter l D kI kZ kL kJ ch s.heap.size (by first | assumption | omega)) (cwS 1 hts (gd_S tb_cons wd_696 wd_697 wd_41 wd_698) rfl rfl rfl (by decide +kernel) ⟨Nat.le_of_ble_eq_true rfl, Nat.le_of_ble_eq_true rfl⟩) (ck_preS hxT hK hP hD [] rfl (by decide)) rfl rfl hl.1 rfl (lv_room (Nat.le_of_ble_eq_true rfl)) dX7_sign_32 ⟨Nat.zero_le _, Nat.zero_le _⟩) ?_
        have b9 := bi_iff (65 ≤ ch ∧ ch ≤ 90)
        have b8 := bi_rng (65 ≤ ch ∧ ch ≤ 90)
        refine wk_icmp_ne (tgt := 42) hx hb dX7_sign_35 (by decide) (by omega) (fun c_8 => ?_) (fun c_8 => ?_)
        · skip
          exfalso; omega
        · skip
          refine lv_iconst (v := iI 1) hx hb dX7_sign_38 rfl ?_
          refine lv_goto (tgt := 43) hx hb dX7_sign_39 (by decide) ?_
          refine lv_istore_n (lv' := [(2, .int (iI 1)), (0, .ref h), (1, .int (iI ch))]) hx hb dX7_sign_43 rfl hl (by decide) rfl (fun ls hl => ?_)
          refine lv_iload_n hx hb dX7_sign_44 rfl (lv_at hl 2 rfl) ?_
          refine pk_callI (va_runS (As := [.int (iI ch)]) (rest := []) ⟨hx, hb, hml, hown, hts⟩ (tX7_isLetter l D kI kZ kL kJ ch s.heap.size (by first | assumption | omega)) (cwS 1 hts (gd_S tb_cons wd_696 wd_697 wd_41 wd_698) rfl rfl rfl (by decide +kernel) ⟨Nat.le_of_ble_eq_true rfl, Nat.le_of_ble_eq_true rfl⟩) (ck_preS hxT hK hP hD [] rfl (by decide)) rfl rfl hl.1 rfl (lv_room (Nat.le_of_ble_eq_true rfl)) dX7_sign_45 ⟨Nat.zero_le _, Nat.zero_le _⟩) ?_
          refine wk_bif_ne (tgt := 58) hx hb dX7_sign_48 (by decide) (fun c_9 => ?_) (fun c_9 => ?_)
          · skip
            exfalso; omega
          · skip
            refine lv_iload_n hx hb dX7_sign_51 rfl (lv_at hl 2 rfl) ?_
            refine pk_callI (va_runS (As := [.int (iI ch)]) (rest := []) ⟨hx, hb, hml, hown, hts⟩ (tX7_isDigit l D kI kZ kL kJ ch s.heap.size (by first | assumption | omega)) (cwS 1 hts (gd_S tb_cons wd_699 wd_700 wd_41 wd_701) rfl rfl rfl (by decide +kernel) ⟨Nat.le_of_ble_eq_true rfl, Nat.le_of_ble_eq_true rfl⟩) (ck_preS hxT hK hP hD [] rfl (by decide)) rfl rfl hl.1 rfl (lv_room (Nat.le_of_ble_eq_true rfl)) dX7_sign_52 ⟨Nat.zero_le _, Nat.zero_le _⟩) ?_
            refine wk_bif_eq (tgt := 62) hx hb dX7_sign_55 (by decide) (fun c_10 => ?_) (fun c_10 => ?_)
            · skip
              exfalso; omega
            · skip
              refine lv_iload_n hx hb dX7_sign_58 rfl (lv_at hl 0 rfl) ?_
              refine wk_if_ne (tgt := 68) hx hb dX7_sign_59 (by decide) (by omega) (fun c_11 => ?_) (fun c_11 => ?_)
              · skip
                refine lv_aload_n hx hb dX7_sign_68 rfl (lv_at hl 1 rfl) ?_
                refine va_get (D := D) (ci := 7) (v := .int (iI rn)) (C := RX7) (T := TX7) (N := 25) hx hb hts (fun w h => (List.mem_cons_of_mem _ (hinX7 w h))) hown hK hP 0 rfl rfl 5 (by decide) (hts _ (List.mem_cons_of_mem _ wd_617)) (fun _ h9 => h9) rfl dX7_sign_69 ?_
                refine lv_bipush (v := iI 11) hx hb dX7_sign_72 (by decide) ?_
                refine wk_icmp_ne (tgt := 83) hx hb dX7_sign_74 (by decide) (by omega) (fun c_12 => ?_) (fun c_12 => ?_)
                · skip
                  refine lv_aload_n hx hb dX7_sign_83 rfl (lv_at hl 1 rfl) ?_
                  refine lv_iconst (v := iI 0) hx hb dX7_sign_84 rfl ?_
                  refine wk_put (ci := 7) (C := RX7) (T := TX7) (N := 25) hx hb hts (fun w h => (List.mem_cons_of_mem _ (hinX7 w h))) tyX7 tyX7_ok nmX7 hown hK hP hD hS 0 rfl rfl 0 (by decide) (hts _ (List.mem_cons_of_mem _ wd_612)) (fun _ h9 => h9) rfl rfl (Nat.le_of_ble_eq_true rfl) dX7_sign_85 (ws' := [(h, .inr (7, [.int (iI 0), .int (iI sn), .int (iI sm), .int (iI nw), .ref hRo, .int (iI rn), .int (iI bn), .ref hNu, .ref hWe, .ref hDa, .ref hVe, .int (iI kn), .ref hSl, .ref hTr, .ref hBx, .ref hSt, .ref hLa, .ref hOr, .ref hSi, .ref hTu, .int (iI cm), .int (iI al), .int (iI lg), .int (iI tt), .int (iI dn)])), (hRo, .inl (kI, 11, .inl (iF rs)))]) rfl (fun H locs hP hD hS => ?_)
                  refine lv_aload_n hx hb dX7_sign_88 rfl (lv_at hl 1 rfl) ?_
                  refine va_get (D := D) (ci := 7) (v := .ref hRo) (C := RX7) (T := TX7) (N := 25) hx hb hts (fun w h => (List.mem_cons_of_mem _ (hinX7 w h))) hown hK hP 0 rfl rfl 4 (by decide) (hts _ (List.mem_cons_of_mem _ wd_616)) (fun _ h9 => h9) rfl dX7_sign_89 ?_
                  refine lv_aload_n hx hb dX7_sign_92 rfl (lv_at hl 1 rfl) ?_
                  refine va_get (D := D) (ci := 7) (v := .int (iI rn)) (C := RX7) (T := TX7) (N := 25) hx hb hts (fun w h => (List.mem_cons_of_mem _ (hinX7 w h))) hown hK hP 0 rfl rfl 5 (by decide) (hts _ (List.mem_cons_of_mem _ wd_617)) (fun _ h9 => h9) rfl dX7_sign_93 ?_
                  refine lv_iload_n hx hb dX7_sign_96 rfl (lv_at hl 2 rfl) ?_
                  refine wk_iast hx hb hK hP hD hS 1 0 rfl rfl (by decide) (by omega) dX7_sign_97 (ws' := [(h, .inr (7, [.int (iI 0), .int (iI sn), .int (iI sm), .int (iI nw), .ref hRo, .int (iI rn), .int (iI bn), .ref hNu, .ref hWe, .ref hDa, .ref hVe, .int (iI kn), .ref hSl, .ref hTr, .ref hBx, .ref hSt, .ref hLa, .ref hOr, .ref hSi, .ref hTu, .int (iI cm), .int (iI al), .int (iI lg), .int (iI tt), .int (iI dn)])), (hRo, .inl (kI, 11, .inl (iF (iu rs rn ch))))]) rfl (fun H locs hP hD hS => ?_)
                  refine lv_aload_n hx hb dX7_sign_98 rfl (lv_at hl 1 rfl) ?_
                  refine lv_dup hx hb dX7_sign_99 rfl ?_
                  refine va_get (D := D) (ci := 7) (v := .int (iI rn)) (C := RX7) (T := TX7) (N := 25) hx hb hts (fun w h => (List.mem_cons_of_mem _ (hinX7 w h))) hown hK hP 0 rfl rfl 5 (by decide) (hts _ (List.mem_cons_of_mem _ wd_617)) (fun _ h9 => h9) rfl dX7_sign_100 ?_
                  refine lv_iconst (v := iI 1) hx hb dX7_sign_103 rfl ?_
                  refine wk_iadd hx hb dX7_sign_104 ?_
                  refine wk_put (ci := 7) (C := RX7) (T := TX7) (N := 25) hx hb hts (fun w h => (List.mem_cons_of_mem _ (hinX7 w h))) tyX7 tyX7_ok nmX7 hown hK hP hD hS 0 rfl rfl 5 (by decide) (hts _ (List.mem_cons_of_mem _ wd_617)) (fun _ h9 => h9) rfl rfl (Nat.le_of_ble_eq_true rfl) dX7_sign_105 (ws' := [(h, .inr (7, [.int (iI 0), .int (iI sn), .int (iI sm), .int (iI nw), .ref hRo, .int (iI (rn + 1)), .int (iI bn), .ref hNu, .ref hWe, .ref hDa, .ref hVe, .int (iI kn), .ref hSl, .ref hTr, .ref hBx, .ref hSt, .ref hLa, .ref hOr, .ref hSi, .ref hTu, .int (iI cm), .int (iI al), .int (iI lg), .int (iI tt), .int (iI dn)])), (hRo, .inl (kI, 11, .inl (iF (iu rs rn ch))))]) rfl (fun H locs hP hD hS => ?_)
                  refine lv_aload_n hx hb dX7_sign_108 rfl (lv_at hl 1 rfl) ?_
                  refine va_get (D := D) (ci := 7) (v := .int (iI (rn + 1))) (C := RX7) (T := TX7) (N := 25) hx hb hts (fun w h => (List.mem_cons_of_mem _ (hinX7 w h))) hown hK hP 0 rfl rfl 5 (by decide) (hts _ (List.mem_cons_of_mem _ wd_617)) (fun _ h9 => h9) rfl dX7_sign_109 ?_
                  exact rk_int hx hb hr hlocks hK hP hD hS (by first | rfl | omega) rfl dX7_sign_112
                · skip
                  exfalso; omega
              · skip
                exfalso; omega
      · skip
        refine lv_iconst (v := iI 1) hx hb dX7_sign_26 rfl ?_
        refine lv_goto (tgt := 31) hx hb dX7_sign_27 (by decide) ?_
        refine lv_iload_n hx hb dX7_sign_31 rfl (lv_at hl 1 rfl) ?_
        refine pk_callI (va_runS (As := [.int (iI ch)]) (rest := [.int (iI 1)]) ⟨hx, hb, hml, hown, hts⟩ (tX7_isLetter l D kI kZ kL kJ ch s.heap.size (by first | assumption | omega)) (cwS 1 hts (gd_S tb_cons wd_696 wd_697 wd_41 wd_698) rfl rfl rfl (by decide +kernel) ⟨Nat.le_of_ble_eq_true rfl, Nat.le_of_ble_eq_true rfl⟩) (ck_preS hxT hK hP hD [] rfl (by decide)) rfl rfl hl.1 rfl (lv_room (Nat.le_of_ble_eq_true rfl)) dX7_sign_32 ⟨Nat.zero_le _, Nat.zero_le _⟩) ?_
        have b9 := bi_iff (65 ≤ ch ∧ ch ≤ 90)
        have b8 := bi_rng (65 ≤ ch ∧ ch ≤ 90)
        refine wk_icmp_ne (tgt := 42) hx hb dX7_sign_35 (by decide) (by omega) (fun c_13 => ?_) (fun c_13 => ?_)
        · skip
          exfalso; omega
        · skip
          refine lv_iconst (v := iI 1) hx hb dX7_sign_38 rfl ?_
          refine lv_goto (tgt := 43) hx hb dX7_sign_39 (by decide) ?_
          refine lv_istore_n (lv' := [(2, .int (iI 1)), (0, .ref h), (1, .int (iI ch))]) hx hb dX7_sign_43 rfl hl (by decide) rfl (fun ls hl => ?_)
          refine lv_iload_n hx hb dX7_sign_44 rfl (lv_at hl 2 rfl) ?_
          refine pk_callI (va_runS (As := [.int (iI ch)]) (rest := []) ⟨hx, hb, hml, hown, hts⟩ (tX7_isLetter l D kI kZ kL kJ ch s.heap.size (by first | assumption | omega)) (cwS 1 hts (gd_S tb_cons wd_696 wd_697 wd_41 wd_698) rfl rfl rfl (by decide +kernel) ⟨Nat.le_of_ble_eq_true rfl, Nat.le_of_ble_eq_true rfl⟩) (ck_preS hxT hK hP hD [] rfl (by decide)) rfl rfl hl.1 rfl (lv_room (Nat.le_of_ble_eq_true rfl)) dX7_sign_45 ⟨Nat.zero_le _, Nat.zero_le _⟩) ?_
          refine wk_bif_ne (tgt := 58) hx hb dX7_sign_48 (by decide) (fun c_14 => ?_) (fun c_14 => ?_)
          · skip
            refine lv_iload_n hx hb dX7_sign_58 rfl (lv_at hl 0 rfl) ?_
            refine wk_if_ne (tgt := 68) hx hb dX7_sign_59 (by decide) (by omega) (fun c_15 => ?_) (fun c_15 => ?_)
            · skip
              refine lv_aload_n hx hb dX7_sign_68 rfl (lv_at hl 1 rfl) ?_
              refine va_get (D := D) (ci := 7) (v := .int (iI rn)) (C := RX7) (T := TX7) (N := 25) hx hb hts (fun w h => (List.mem_cons_of_mem _ (hinX7 w h))) hown hK hP 0 rfl rfl 5 (by decide) (hts _ (List.mem_cons_of_mem _ wd_617)) (fun _ h9 => h9) rfl dX7_sign_69 ?_
              refine lv_bipush (v := iI 11) hx hb dX7_sign_72 (by decide) ?_
              refine wk_icmp_ne (tgt := 83) hx hb dX7_sign_74 (by decide) (by omega) (fun c_16 => ?_) (fun c_16 => ?_)
              · skip
                refine lv_aload_n hx hb dX7_sign_83 rfl (lv_at hl 1 rfl) ?_
                refine lv_iconst (v := iI 0) hx hb dX7_sign_84 rfl ?_
                refine wk_put (ci := 7) (C := RX7) (T := TX7) (N := 25) hx hb hts (fun w h => (List.mem_cons_of_mem _ (hinX7 w h))) tyX7 tyX7_ok nmX7 hown hK hP hD hS 0 rfl rfl 0 (by decide) (hts _ (List.mem_cons_of_mem _ wd_612)) (fun _ h9 => h9) rfl rfl (Nat.le_of_ble_eq_true rfl) dX7_sign_85 (ws' := [(h, .inr (7, [.int (iI 0), .int (iI sn), .int (iI sm), .int (iI nw), .ref hRo, .int (iI rn), .int (iI bn), .ref hNu, .ref hWe, .ref hDa, .ref hVe, .int (iI kn), .ref hSl, .ref hTr, .ref hBx, .ref hSt, .ref hLa, .ref hOr, .ref hSi, .ref hTu, .int (iI cm), .int (iI al), .int (iI lg), .int (iI tt), .int (iI dn)])), (hRo, .inl (kI, 11, .inl (iF rs)))]) rfl (fun H locs hP hD hS => ?_)
                refine lv_aload_n hx hb dX7_sign_88 rfl (lv_at hl 1 rfl) ?_
                refine va_get (D := D) (ci := 7) (v := .ref hRo) (C := RX7) (T := TX7) (N := 25) hx hb hts (fun w h => (List.mem_cons_of_mem _ (hinX7 w h))) hown hK hP 0 rfl rfl 4 (by decide) (hts _ (List.mem_cons_of_mem _ wd_616)) (fun _ h9 => h9) rfl dX7_sign_89 ?_
                refine lv_aload_n hx hb dX7_sign_92 rfl (lv_at hl 1 rfl) ?_
                refine va_get (D := D) (ci := 7) (v := .int (iI rn)) (C := RX7) (T := TX7) (N := 25) hx hb hts (fun w h => (List.mem_cons_of_mem _ (hinX7 w h))) hown hK hP 0 rfl rfl 5 (by decide) (hts _ (List.mem_cons_of_mem _ wd_617)) (fun _ h9 => h9) rfl dX7_sign_93 ?_
                refine lv_iload_n hx hb dX7_sign_96 rfl (lv_at hl 2 rfl) ?_
                refine wk_iast hx hb hK hP hD hS 1 0 rfl rfl (by decide) (by omega) dX7_sign_97 (ws' := [(h, .inr (7, [.int (iI 0), .int (iI sn), .int (iI sm), .int (iI nw), .ref hRo, .int (iI rn), .int (iI bn), .ref hNu, .ref hWe, .ref hDa, .ref hVe, .int (iI kn), .ref hSl, .ref hTr, .ref hBx, .ref hSt, .ref hLa, .ref hOr, .ref hSi, .ref hTu, .int (iI cm), .int (iI al), .int (iI lg), .int (iI tt), .int (iI dn)])), (hRo, .inl (kI, 11, .inl (iF (iu rs rn ch))))]) rfl (fun H locs hP hD hS => ?_)
                refine lv_aload_n hx hb dX7_sign_98 rfl (lv_at hl 1 rfl) ?_
                refine lv_dup hx hb dX7_sign_99 rfl ?_
                refine va_get (D := D) (ci := 7) (v := .int (iI rn)) (C := RX7) (T := TX7) (N := 25) hx hb hts (fun w h => (List.mem_cons_of_mem _ (hinX7 w h))) hown hK hP 0 rfl rfl 5 (by decide) (hts _ (List.mem_cons_of_mem _ wd_617)) (fun _ h9 => h9) rfl dX7_sign_100 ?_
                refine lv_iconst (v := iI 1) hx hb dX7_sign_103 rfl ?_
                refine wk_iadd hx hb dX7_sign_104 ?_
                refine wk_put (ci := 7) (C := RX7) (T := TX7) (N := 25) hx hb hts (fun w h => (List.mem_cons_of_mem _ (hinX7 w h))) tyX7 tyX7_ok nmX7 hown hK hP hD hS 0 rfl rfl 5 (by decide) (hts _ (List.mem_cons_of_mem _ wd_617)) (fun _ h9 => h9) rfl rfl (Nat.le_of_ble_eq_true rfl) dX7_sign_105 (ws' := [(h, .inr (7, [.int (iI 0), .int (iI sn), .int (iI sm), .int (iI nw), .ref hRo, .int (iI (rn + 1)), .int (iI bn), .ref hNu, .ref hWe, .ref hDa, .ref hVe, .int (iI kn), .ref hSl, .ref hTr, .ref hBx, .ref hSt, .ref hLa, .ref hOr, .ref hSi, .ref hTu, .int (iI cm), .int (iI al), .int (iI lg), .int (iI tt), .int (iI dn)])), (hRo, .inl (kI, 11, .inl (iF (iu rs rn ch))))]) rfl (fun H locs hP hD hS => ?_)
                refine lv_aload_n hx hb dX7_sign_108 rfl (lv_at hl 1 rfl) ?_
                refine va_get (D := D) (ci := 7) (v := .int (iI (rn + 1))) (C := RX7) (T := TX7) (N := 25) hx hb hts (fun w h => (List.mem_cons_of_mem _ (hinX7 w h))) hown hK hP 0 rfl rfl 5 (by decide) (hts _ (List.mem_cons_of_mem _ wd_617)) (fun _ h9 => h9) rfl dX7_sign_109 ?_
                exact rk_int hx hb hr hlocks hK hP hD hS (by first | rfl | omega) rfl dX7_sign_112
              · skip
                exfalso; omega
            · skip
              exfalso; omega
          · skip
            exfalso; omega

set_option maxHeartbeats 4000000 in
set_option maxRecDepth 100000 in
theorem tX7_sign_1 (l : Launch) (D : va_G) (kI : ClassId) (kZ : ClassId) (kL : ClassId) (kJ : ClassId) (h : Nat) (hRo : Nat) (hNu : Nat) (hWe : Nat) (hDa : Nat) (hVe : Nat) (hSl : Nat) (hTr : Nat) (hBx : Nat) (hSt : Nat) (hLa : Nat) (hOr : Nat) (hSi : Nat) (hTu : Nat) (th : Int) (sn : Int) (sm : Int) (nw : Int) (rn : Int) (bn : Int) (kn : Int) (cm : Int) (al : Int) (lg : Int) (tt : Int) (dn : Int) (ch : Int) (sz : Nat) (hch : -2147483648 ≤ ch ∧ ch ≤ 2147483647) (hrn : 0 ≤ rn ∧ rn ≤ 11) (h1 : ¬ ((65 ≤ ch ∧ ch ≤ 90) ∨ (48 ≤ ch ∧ ch ≤ 57)) ∨ (rn < 11 ∧ ¬ ((4 ≤ rn ∧ rn < 10 ∧ 48 ≤ ch ∧ ch ≤ 57) ∨ (¬ (4 ≤ rn ∧ rn < 10) ∧ 65 ≤ ch ∧ ch ≤ 90)))) : CtI l yX7_sign wsX7_sign ({ frames := 1, cells := 0, slots := 0, locals := 21 }) D vwCl (tyL kI kZ kL kJ) [(h, .inr (7, [.int (iI th), .int (iI sn), .int (iI sm), .int (iI nw), .ref hRo, .int (iI rn), .int (iI bn), .ref hNu, .ref hWe, .ref hDa, .ref hVe, .int (iI kn), .ref hSl, .ref hTr, .ref hBx, .ref hSt, .ref hLa, .ref hOr, .ref hSi, .ref hTu, .int (iI cm), .int (iI al), .int (iI lg), .int (iI tt), .int (iI dn)]))] [.ref h, .int (iI ch)] (iI 0) [(h, .inr (7, [.int (iI 1), .int (iI sn), .int (iI sm), .int (iI nw), .ref hRo, .int (iI rn), .int (iI bn), .ref hNu, .ref hWe, .ref hDa, .ref hVe, .int (iI kn), .ref hSl, .ref hTr, .ref hBx, .ref hSt, .ref hLa, .ref hOr, .ref hSi, .ref hTu, .int (iI cm), .int (iI al), .int (iI lg), .int (iI tt), .int (iI dn)]))] sz := by
  refine ck_start (Qc := fun A => cQi D vwCl (tyL kI kZ kL kJ) A (iI 0) [(h, .inr (7, [.int (iI 1), .int (iI sn), .int (iI sm), .int (iI nw), .ref hRo, .int (iI rn), .int (iI bn), .ref hNu, .ref hWe, .ref hDa, .ref hVe, .int (iI kn), .ref hSl, .ref hTr, .ref hBx, .ref hSt, .ref hLa, .ref hOr, .ref hSi, .ref hTu, .int (iI cm), .int (iI al), .int (iI lg), .int (iI tt), .int (iI dn)]))]) (cc := cX7_sign) (maxL := 3) (ret := (some .int)) (LV := [(0, .ref h), (1, .int (iI ch))]) (by decide) rfl rfl (Nat.le_of_ble_eq_true rfl) ?_
  intro p e s m below meth cd hadm hx hb hr hml hts hown hlocks hname hnoh hxT A hA hK hP hD hS ls hl
  refine lv_aload_n hx hb dX7_sign_0 rfl (lv_at hl 0 rfl) ?_
  refine va_get (D := D) (ci := 7) (v := .int (iI rn)) (C := RX7) (T := TX7) (N := 25) hx hb hts (fun w h => (List.mem_cons_of_mem _ (hinX7 w h))) hown hK hP 0 rfl rfl 5 (by decide) (hts _ (List.mem_cons_of_mem _ wd_617)) (fun _ h9 => h9) rfl dX7_sign_1 ?_
  refine lv_bipush (v := iI 11) hx hb dX7_sign_4 (by decide) ?_
  refine wk_icmp_eq (tgt := 38) hx hb dX7_sign_6 (by decide) (by omega) (fun c_1 => ?_) (fun c_1 => ?_)
  · skip
    refine lv_iconst (v := iI 1) hx hb dX7_sign_38 rfl ?_
    refine lv_goto (tgt := 43) hx hb dX7_sign_39 (by decide) ?_
    refine lv_istore_n (lv' := [(2, .int (iI 1)), (0, .ref h), (1, .int (iI ch))]) hx hb dX7_sign_43 rfl hl (by decide) rfl (fun ls hl => ?_)
    refine lv_iload_n hx hb dX7_sign_44 rfl (lv_at hl 2 rfl) ?_
    refine pk_callI (va_runS (As := [.int (iI ch)]) (rest := []) ⟨hx, hb, hml, hown, hts⟩ (tX7_isLetter l D kI kZ kL kJ ch s.heap.size (by first | assumption | omega)) (cwS 1 hts (gd_S tb_cons wd_696 wd_697 wd_41 wd_698) rfl rfl rfl (by decide +kernel) ⟨Nat.le_of_ble_eq_true rfl, Nat.le_of_ble_eq_true rfl⟩) (ck_preS hxT hK hP hD [] rfl (by decide)) rfl rfl hl.1 rfl (lv_room (Nat.le_of_ble_eq_true rfl)) dX7_sign_45 ⟨Nat.zero_le _, Nat.zero_le _⟩) ?_
    refine wk_bif_ne (tgt := 58) hx hb dX7_sign_48 (by decide) (fun c_2 => ?_) (fun c_2 => ?_)
    · skip
      exfalso; omega
    · skip
      refine lv_iload_n hx hb dX7_sign_51 rfl (lv_at hl 2 rfl) ?_
      refine pk_callI (va_runS (As := [.int (iI ch)]) (rest := []) ⟨hx, hb, hml, hown, hts⟩ (tX7_isDigit l D kI kZ kL kJ ch s.heap.size (by first | assumption | omega)) (cwS 1 hts (gd_S tb_cons wd_699 wd_700 wd_41 wd_701) rfl rfl rfl (by decide +kernel) ⟨Nat.le_of_ble_eq_true rfl, Nat.le_of_ble_eq_true rfl⟩) (ck_preS hxT hK hP hD [] rfl (by decide)) rfl rfl hl.1 rfl (lv_room (Nat.le_of_ble_eq_true rfl)) dX7_sign_52 ⟨Nat.zero_le _, Nat.zero_le _⟩) ?_
      refine wk_bif_eq (tgt := 62) hx hb dX7_sign_55 (by decide) (fun c_3 => ?_) (fun c_3 => ?_)
      · skip
        refine lv_aload_n hx hb dX7_sign_62 rfl (lv_at hl 1 rfl) ?_
        refine lv_iconst (v := iI 1) hx hb dX7_sign_63 rfl ?_
        refine ck_backI (va_runV (As := [.int (iI 1)]) (rest := []) ⟨hx, hb, hml, hown, hts⟩ (tX7_fails l D kI kZ kL kJ h hRo hNu hWe hDa hVe hSl hTr hBx hSt hLa hOr hSi hTu th sn sm nw rn bn kn cm al lg tt dn 1 s.heap.size ) (cwV 1 hts (gd_V tb_cons wd_702 wd_704 wd_18 wd_41 wd_705) rfl rfl rfl (by decide +kernel) ⟨Nat.le_of_ble_eq_true rfl, Nat.le_of_ble_eq_true rfl⟩) (ck_preV hxT hK hP hD [0] rfl (by decide) (q0 := 0) rfl rfl rfl) rfl rfl hl.1 rfl (lv_room (Nat.le_of_ble_eq_true rfl)) dX7_sign_64 ⟨Nat.zero_le _, Nat.zero_le _⟩) hP hD hS hA [0] [] (WR := []) rfl rfl (by decide) (by decide) (ws' := [(h, .inr (7, [.int (iI 1), .int (iI sn), .int (iI sm), .int (iI nw), .ref hRo, .int (iI rn), .int (iI bn), .ref hNu, .ref hWe, .ref hDa, .ref hVe, .int (iI kn), .ref hSl, .ref hTr, .ref hBx, .ref hSt, .ref hLa, .ref hOr, .ref hSi, .ref hTu, .int (iI cm), .int (iI al), .int (iI lg), .int (iI tt), .int (iI dn)]))]) rfl (fun H locs hP hD hS => ?_)
        exact rk_int hx hb hr hlocks hK hP hD hS (by first | rfl | omega) rfl dX7_sign_67
      · skip
        exfalso; omega
  · skip
    refine lv_aload_n hx hb dX7_sign_9 rfl (lv_at hl 0 rfl) ?_
    refine va_get (D := D) (ci := 7) (v := .int (iI rn)) (C := RX7) (T := TX7) (N := 25) hx hb hts (fun w h => (List.mem_cons_of_mem _ (hinX7 w h))) hown hK hP 0 rfl rfl 5 (by decide) (hts _ (List.mem_cons_of_mem _ wd_617)) (fun _ h9 => h9) rfl dX7_sign_10 ?_
    refine lv_iconst (v := iI 4) hx hb dX7_sign_13 rfl ?_
    refine wk_icmp_lt (tgt := 26) hx hb dX7_sign_14 (by decide) (by omega) (fun c_4 => ?_) (fun c_4 => ?_)
    · skip
      refine lv_iconst (v := iI 1) hx hb dX7_sign_26 rfl ?_
      refine lv_goto (tgt := 31) hx hb dX7_sign_27 (by decide) ?_
      refine lv_iload_n hx hb dX7_sign_31 rfl (lv_at hl 1 rfl) ?_
      refine pk_callI (va_runS (As := [.int (iI ch)]) (rest := [.int (iI 1)]) ⟨hx, hb, hml, hown, hts⟩ (tX7_isLetter l D kI kZ kL kJ ch s.heap.size (by first | assumption | omega)) (cwS 1 hts (gd_S tb_cons wd_696 wd_697 wd_41 wd_698) rfl rfl rfl (by decide +kernel) ⟨Nat.le_of_ble_eq_true rfl, Nat.le_of_ble_eq_true rfl⟩) (ck_preS hxT hK hP hD [] rfl (by decide)) rfl rfl hl.1 rfl (lv_room (Nat.le_of_ble_eq_true rfl)) dX7_sign_32 ⟨Nat.zero_le _, Nat.zero_le _⟩) ?_
      have b9 := bi_iff (65 ≤ ch ∧ ch ≤ 90)
      have b8 := bi_rng (65 ≤ ch ∧ ch ≤ 90)
      refine wk_icmp_ne (tgt := 42) hx hb dX7_sign_35 (by decide) (by omega) (fun c_5 => ?_) (fun c_5 => ?_)
      · skip
        refine lv_iconst (v := iI 0) hx hb dX7_sign_42 rfl ?_
        refine lv_istore_n (lv' := [(2, .int (iI 0)), (0, .ref h), (1, .int (iI ch))]) hx hb dX7_sign_43 rfl hl (by decide) rfl (fun ls hl => ?_)
        refine lv_iload_n hx hb dX7_sign_44 rfl (lv_at hl 2 rfl) ?_
        refine pk_callI (va_runS (As := [.int (iI ch)]) (rest := []) ⟨hx, hb, hml, hown, hts⟩ (tX7_isLetter l D kI kZ kL kJ ch s.heap.size (by first | assumption | omega)) (cwS 1 hts (gd_S tb_cons wd_696 wd_697 wd_41 wd_698) rfl rfl rfl (by decide +kernel) ⟨Nat.le_of_ble_eq_true rfl, Nat.le_of_ble_eq_true rfl⟩) (ck_preS hxT hK hP hD [] rfl (by decide)) rfl rfl hl.1 rfl (lv_room (Nat.le_of_ble_eq_true rfl)) dX7_sign_45 ⟨Nat.zero_le _, Nat.zero_le _⟩) ?_
        refine wk_bif_ne (tgt := 58) hx hb dX7_sign_48 (by decide) (fun c_6 => ?_) (fun c_6 => ?_)
        · skip
          exfalso; omega
        · skip
          refine lv_iload_n hx hb dX7_sign_51 rfl (lv_at hl 2 rfl) ?_
          refine pk_callI (va_runS (As := [.int (iI ch)]) (rest := []) ⟨hx, hb, hml, hown, hts⟩ (tX7_isDigit l D kI kZ kL kJ ch s.heap.size (by first | assumption | omega)) (cwS 1 hts (gd_S tb_cons wd_699 wd_700 wd_41 wd_701) rfl rfl rfl (by decide +kernel) ⟨Nat.le_of_ble_eq_true rfl, Nat.le_of_ble_eq_true rfl⟩) (ck_preS hxT hK hP hD [] rfl (by decide)) rfl rfl hl.1 rfl (lv_room (Nat.le_of_ble_eq_true rfl)) dX7_sign_52 ⟨Nat.zero_le _, Nat.zero_le _⟩) ?_
          refine wk_bif_eq (tgt := 62) hx hb dX7_sign_55 (by decide) (fun c_7 => ?_) (fun c_7 => ?_)
          · skip
            refine lv_aload_n hx hb dX7_sign_62 rfl (lv_at hl 1 rfl) ?_
            refine lv_iconst (v := iI 1) hx hb dX7_sign_63 rfl ?_
            refine ck_backI (va_runV (As := [.int (iI 1)]) (rest := []) ⟨hx, hb, hml, hown, hts⟩ (tX7_fails l D kI kZ kL kJ h hRo hNu hWe hDa hVe hSl hTr hBx hSt hLa hOr hSi hTu th sn sm nw rn bn kn cm al lg tt dn 1 s.heap.size ) (cwV 1 hts (gd_V tb_cons wd_702 wd_704 wd_18 wd_41 wd_705) rfl rfl rfl (by decide +kernel) ⟨Nat.le_of_ble_eq_true rfl, Nat.le_of_ble_eq_true rfl⟩) (ck_preV hxT hK hP hD [0] rfl (by decide) (q0 := 0) rfl rfl rfl) rfl rfl hl.1 rfl (lv_room (Nat.le_of_ble_eq_true rfl)) dX7_sign_64 ⟨Nat.zero_le _, Nat.zero_le _⟩) hP hD hS hA [0] [] (WR := []) rfl rfl (by decide) (by decide) (ws' := [(h, .inr (7, [.int (iI 1), .int (iI sn), .int (iI sm), .int (iI nw), .ref hRo, .int (iI rn), .int (iI bn), .ref hNu, .ref hWe, .ref hDa, .ref hVe, .int (iI kn), .ref hSl, .ref hTr, .ref hBx, .ref hSt, .ref hLa, .ref hOr, .ref hSi, .ref hTu, .int (iI cm), .int (iI al), .int (iI lg), .int (iI tt), .int (iI dn)]))]) rfl (fun H locs hP hD hS => ?_)
            exact rk_int hx hb hr hlocks hK hP hD hS (by first | rfl | omega) rfl dX7_sign_67
          · skip
            refine lv_iload_n hx hb dX7_sign_58 rfl (lv_at hl 0 rfl) ?_
            refine wk_if_ne (tgt := 68) hx hb dX7_sign_59 (by decide) (by omega) (fun c_8 => ?_) (fun c_8 => ?_)
            · skip
              exfalso; omega
            · skip
              refine lv_aload_n hx hb dX7_sign_62 rfl (lv_at hl 1 rfl) ?_
              refine lv_iconst (v := iI 1) hx hb dX7_sign_63 rfl ?_
              refine ck_backI (va_runV (As := [.int (iI 1)]) (rest := []) ⟨hx, hb, hml, hown, hts⟩ (tX7_fails l D kI kZ kL kJ h hRo hNu hWe hDa hVe hSl hTr hBx hSt hLa hOr hSi hTu th sn sm nw rn bn kn cm al lg tt dn 1 s.heap.size ) (cwV 1 hts (gd_V tb_cons wd_702 wd_704 wd_18 wd_41 wd_705) rfl rfl rfl (by decide +kernel) ⟨Nat.le_of_ble_eq_true rfl, Nat.le_of_ble_eq_true rfl⟩) (ck_preV hxT hK hP hD [0] rfl (by decide) (q0 := 0) rfl rfl rfl) rfl rfl hl.1 rfl (lv_room (Nat.le_of_ble_eq_true rfl)) dX7_sign_64 ⟨Nat.zero_le _, Nat.zero_le _⟩) hP hD hS hA [0] [] (WR := []) rfl rfl (by decide) (by decide) (ws' := [(h, .inr (7, [.int (iI 1), .int (iI sn), .int (iI sm), .int (iI nw), .ref hRo, .int (iI rn), .int (iI bn), .ref hNu, .ref hWe, .ref hDa, .ref hVe, .int (iI kn), .ref hSl, .ref hTr, .ref hBx, .ref hSt, .ref hLa, .ref hOr, .ref hSi, .ref hTu, .int (iI cm), .int (iI al), .int (iI lg), .int (iI tt), .int (iI dn)]))]) rfl (fun H locs hP hD hS => ?_)
              exact rk_int hx hb hr hlocks hK hP hD hS (by first | rfl | omega) rfl dX7_sign_67
      · skip
        exfalso; omega
    · skip
      refine lv_aload_n hx hb dX7_sign_17 rfl (lv_at hl 0 rfl) ?_
      refine va_get (D := D) (ci := 7) (v := .int (iI rn)) (C := RX7) (T := TX7) (N := 25) hx hb hts (fun w h => (List.mem_cons_of_mem _ (hinX7 w h))) hown hK hP 0 rfl rfl 5 (by decide) (hts _ (List.mem_cons_of_mem _ wd_617)) (fun _ h9 => h9) rfl dX7_sign_18 ?_
      refine lv_bipush (v := iI 10) hx hb dX7_sign_21 (by decide) ?_
      refine wk_icmp_ne (tgt := 30) hx hb dX7_sign_23 (by decide) (by omega) (fun c_9 => ?_) (fun c_9 => ?_)
      · skip
        refine lv_iconst (v := iI 0) hx hb dX7_sign_30 rfl ?_
        refine lv_iload_n hx hb dX7_sign_31 rfl (lv_at hl 1 rfl) ?_
        refine pk_callI (va_runS (As := [.int (iI ch)]) (rest := [.int (iI 0)]) ⟨hx, hb, hml, hown, hts⟩ (tX7_isLetter l D kI kZ kL kJ ch s.heap.size (by first | assumption | omega)) (cwS 1 hts (gd_S tb_cons wd_696 wd_697 wd_41 wd_698) rfl rfl rfl (by decide +kernel) ⟨Nat.le_of_ble_eq_true rfl, Nat.le_of_ble_eq_true rfl⟩) (ck_preS hxT hK hP hD [] rfl (by decide)) rfl rfl hl.1 rfl (lv_room (Nat.le_of_ble_eq_true rfl)) dX7_sign_32 ⟨Nat.zero_le _, Nat.zero_le _⟩) ?_
        have b9 := bi_iff (65 ≤ ch ∧ ch ≤ 90)
        have b8 := bi_rng (65 ≤ ch ∧ ch ≤ 90)
        refine wk_icmp_ne (tgt := 42) hx hb dX7_sign_35 (by decide) (by omega) (fun c_10 => ?_) (fun c_10 => ?_)
        · skip
          refine lv_iconst (v := iI 0) hx hb dX7_sign_42 rfl ?_
          refine lv_istore_n (lv' := [(2, .int (iI 0)), (0, .ref h), (1, .int (iI ch))]) hx hb dX7_sign_43 rfl hl (by decide) rfl (fun ls hl => ?_)
          refine lv_iload_n hx hb dX7_sign_44 rfl (lv_at hl 2 rfl) ?_
          refine pk_callI (va_runS (As := [.int (iI ch)]) (rest := []) ⟨hx, hb, hml, hown, hts⟩ (tX7_isLetter l D kI kZ kL kJ ch s.heap.size (by first | assumption | omega)) (cwS 1 hts (gd_S tb_cons wd_696 wd_697 wd_41 wd_698) rfl rfl rfl (by decide +kernel) ⟨Nat.le_of_ble_eq_true rfl, Nat.le_of_ble_eq_true rfl⟩) (ck_preS hxT hK hP hD [] rfl (by decide)) rfl rfl hl.1 rfl (lv_room (Nat.le_of_ble_eq_true rfl)) dX7_sign_45 ⟨Nat.zero_le _, Nat.zero_le _⟩) ?_
          refine wk_bif_ne (tgt := 58) hx hb dX7_sign_48 (by decide) (fun c_11 => ?_) (fun c_11 => ?_)
          · skip
            refine lv_iload_n hx hb dX7_sign_58 rfl (lv_at hl 0 rfl) ?_
            refine wk_if_ne (tgt := 68) hx hb dX7_sign_59 (by decide) (by omega) (fun c_12 => ?_) (fun c_12 => ?_)
            · skip
              exfalso; omega
            · skip
              refine lv_aload_n hx hb dX7_sign_62 rfl (lv_at hl 1 rfl) ?_
              refine lv_iconst (v := iI 1) hx hb dX7_sign_63 rfl ?_
              refine ck_backI (va_runV (As := [.int (iI 1)]) (rest := []) ⟨hx, hb, hml, hown, hts⟩ (tX7_fails l D kI kZ kL kJ h hRo hNu hWe hDa hVe hSl hTr hBx hSt hLa hOr hSi hTu th sn sm nw rn bn kn cm al lg tt dn 1 s.heap.size ) (cwV 1 hts (gd_V tb_cons wd_702 wd_704 wd_18 wd_41 wd_705) rfl rfl rfl (by decide +kernel) ⟨Nat.le_of_ble_eq_true rfl, Nat.le_of_ble_eq_true rfl⟩) (ck_preV hxT hK hP hD [0] rfl (by decide) (q0 := 0) rfl rfl rfl) rfl rfl hl.1 rfl (lv_room (Nat.le_of_ble_eq_true rfl)) dX7_sign_64 ⟨Nat.zero_le _, Nat.zero_le _⟩) hP hD hS hA [0] [] (WR := []) rfl rfl (by decide) (by decide) (ws' := [(h, .inr (7, [.int (iI 1), .int (iI sn), .int (iI sm), .int (iI nw), .ref hRo, .int (iI rn), .int (iI bn), .ref hNu, .ref hWe, .ref hDa, .ref hVe, .int (iI kn), .ref hSl, .ref hTr, .ref hBx, .ref hSt, .ref hLa, .ref hOr, .ref hSi, .ref hTu, .int (iI cm), .int (iI al), .int (iI lg), .int (iI tt), .int (iI dn)]))]) rfl (fun H locs hP hD hS => ?_)
              exact rk_int hx hb hr hlocks hK hP hD hS (by first | rfl | omega) rfl dX7_sign_67
          · skip
            exfalso; omega
        · skip
          refine lv_iconst (v := iI 1) hx hb dX7_sign_38 rfl ?_
          refine lv_goto (tgt := 43) hx hb dX7_sign_39 (by decide) ?_
          refine lv_istore_n (lv' := [(2, .int (iI 1)), (0, .ref h), (1, .int (iI ch))]) hx hb dX7_sign_43 rfl hl (by decide) rfl (fun ls hl => ?_)
          refine lv_iload_n hx hb dX7_sign_44 rfl (lv_at hl 2 rfl) ?_
          refine pk_callI (va_runS (As := [.int (iI ch)]) (rest := []) ⟨hx, hb, hml, hown, hts⟩ (tX7_isLetter l D kI kZ kL kJ ch s.heap.size (by first | assumption | omega)) (cwS 1 hts (gd_S tb_cons wd_696 wd_697 wd_41 wd_698) rfl rfl rfl (by decide +kernel) ⟨Nat.le_of_ble_eq_true rfl, Nat.le_of_ble_eq_true rfl⟩) (ck_preS hxT hK hP hD [] rfl (by decide)) rfl rfl hl.1 rfl (lv_room (Nat.le_of_ble_eq_true rfl)) dX7_sign_45 ⟨Nat.zero_le _, Nat.zero_le _⟩) ?_
          refine wk_bif_ne (tgt := 58) hx hb dX7_sign_48 (by decide) (fun c_13 => ?_) (fun c_13 => ?_)
          · skip
            exfalso; omega
          · skip
            refine lv_iload_n hx hb dX7_sign_51 rfl (lv_at hl 2 rfl) ?_
            refine pk_callI (va_runS (As := [.int (iI ch)]) (rest := []) ⟨hx, hb, hml, hown, hts⟩ (tX7_isDigit l D kI kZ kL kJ ch s.heap.size (by first | assumption | omega)) (cwS 1 hts (gd_S tb_cons wd_699 wd_700 wd_41 wd_701) rfl rfl rfl (by decide +kernel) ⟨Nat.le_of_ble_eq_true rfl, Nat.le_of_ble_eq_true rfl⟩) (ck_preS hxT hK hP hD [] rfl (by decide)) rfl rfl hl.1 rfl (lv_room (Nat.le_of_ble_eq_true rfl)) dX7_sign_52 ⟨Nat.zero_le _, Nat.zero_le _⟩) ?_
            refine wk_bif_eq (tgt := 62) hx hb dX7_sign_55 (by decide) (fun c_14 => ?_) (fun c_14 => ?_)
            · skip
              refine lv_aload_n hx hb dX7_sign_62 rfl (lv_at hl 1 rfl) ?_
              refine lv_iconst (v := iI 1) hx hb dX7_sign_63 rfl ?_
              refine ck_backI (va_runV (As := [.int (iI 1)]) (rest := []) ⟨hx, hb, hml, hown, hts⟩ (tX7_fails l D kI kZ kL kJ h hRo hNu hWe hDa hVe hSl hTr hBx hSt hLa hOr hSi hTu th sn sm nw rn bn kn cm al lg tt dn 1 s.heap.size ) (cwV 1 hts (gd_V tb_cons wd_702 wd_704 wd_18 wd_41 wd_705) rfl rfl rfl (by decide +kernel) ⟨Nat.le_of_ble_eq_true rfl, Nat.le_of_ble_eq_true rfl⟩) (ck_preV hxT hK hP hD [0] rfl (by decide) (q0 := 0) rfl rfl rfl) rfl rfl hl.1 rfl (lv_room (Nat.le_of_ble_eq_true rfl)) dX7_sign_64 ⟨Nat.zero_le _, Nat.zero_le _⟩) hP hD hS hA [0] [] (WR := []) rfl rfl (by decide) (by decide) (ws' := [(h, .inr (7, [.int (iI 1), .int (iI sn), .int (iI sm), .int (iI nw), .ref hRo, .int (iI rn), .int (iI bn), .ref hNu, .ref hWe, .ref hDa, .ref hVe, .int (iI kn), .ref hSl, .ref hTr, .ref hBx, .ref hSt, .ref hLa, .ref hOr, .ref hSi, .ref hTu, .int (iI cm), .int (iI al), .int (iI lg), .int (iI tt), .int (iI dn)]))]) rfl (fun H locs hP hD hS => ?_)
              exact rk_int hx hb hr hlocks hK hP hD hS (by first | rfl | omega) rfl dX7_sign_67
            · skip
              exfalso; omega
      · skip
        refine lv_iconst (v := iI 1) hx hb dX7_sign_26 rfl ?_
        refine lv_goto (tgt := 31) hx hb dX7_sign_27 (by decide) ?_
        refine lv_iload_n hx hb dX7_sign_31 rfl (lv_at hl 1 rfl) ?_
        refine pk_callI (va_runS (As := [.int (iI ch)]) (rest := [.int (iI 1)]) ⟨hx, hb, hml, hown, hts⟩ (tX7_isLetter l D kI kZ kL kJ ch s.heap.size (by first | assumption | omega)) (cwS 1 hts (gd_S tb_cons wd_696 wd_697 wd_41 wd_698) rfl rfl rfl (by decide +kernel) ⟨Nat.le_of_ble_eq_true rfl, Nat.le_of_ble_eq_true rfl⟩) (ck_preS hxT hK hP hD [] rfl (by decide)) rfl rfl hl.1 rfl (lv_room (Nat.le_of_ble_eq_true rfl)) dX7_sign_32 ⟨Nat.zero_le _, Nat.zero_le _⟩) ?_
        have b9 := bi_iff (65 ≤ ch ∧ ch ≤ 90)
        have b8 := bi_rng (65 ≤ ch ∧ ch ≤ 90)
        refine wk_icmp_ne (tgt := 42) hx hb dX7_sign_35 (by decide) (by omega) (fun c_15 => ?_) (fun c_15 => ?_)
        · skip
          refine lv_iconst (v := iI 0) hx hb dX7_sign_42 rfl ?_
          refine lv_istore_n (lv' := [(2, .int (iI 0)), (0, .ref h), (1, .int (iI ch))]) hx hb dX7_sign_43 rfl hl (by decide) rfl (fun ls hl => ?_)
          refine lv_iload_n hx hb dX7_sign_44 rfl (lv_at hl 2 rfl) ?_
          refine pk_callI (va_runS (As := [.int (iI ch)]) (rest := []) ⟨hx, hb, hml, hown, hts⟩ (tX7_isLetter l D kI kZ kL kJ ch s.heap.size (by first | assumption | omega)) (cwS 1 hts (gd_S tb_cons wd_696 wd_697 wd_41 wd_698) rfl rfl rfl (by decide +kernel) ⟨Nat.le_of_ble_eq_true rfl, Nat.le_of_ble_eq_true rfl⟩) (ck_preS hxT hK hP hD [] rfl (by decide)) rfl rfl hl.1 rfl (lv_room (Nat.le_of_ble_eq_true rfl)) dX7_sign_45 ⟨Nat.zero_le _, Nat.zero_le _⟩) ?_
          refine wk_bif_ne (tgt := 58) hx hb dX7_sign_48 (by decide) (fun c_16 => ?_) (fun c_16 => ?_)
          · skip
            exfalso; omega
          · skip
            refine lv_iload_n hx hb dX7_sign_51 rfl (lv_at hl 2 rfl) ?_
            refine pk_callI (va_runS (As := [.int (iI ch)]) (rest := []) ⟨hx, hb, hml, hown, hts⟩ (tX7_isDigit l D kI kZ kL kJ ch s.heap.size (by first | assumption | omega)) (cwS 1 hts (gd_S tb_cons wd_699 wd_700 wd_41 wd_701) rfl rfl rfl (by decide +kernel) ⟨Nat.le_of_ble_eq_true rfl, Nat.le_of_ble_eq_true rfl⟩) (ck_preS hxT hK hP hD [] rfl (by decide)) rfl rfl hl.1 rfl (lv_room (Nat.le_of_ble_eq_true rfl)) dX7_sign_52 ⟨Nat.zero_le _, Nat.zero_le _⟩) ?_
            refine wk_bif_eq (tgt := 62) hx hb dX7_sign_55 (by decide) (fun c_17 => ?_) (fun c_17 => ?_)
            · skip
              refine lv_aload_n hx hb dX7_sign_62 rfl (lv_at hl 1 rfl) ?_
              refine lv_iconst (v := iI 1) hx hb dX7_sign_63 rfl ?_
              refine ck_backI (va_runV (As := [.int (iI 1)]) (rest := []) ⟨hx, hb, hml, hown, hts⟩ (tX7_fails l D kI kZ kL kJ h hRo hNu hWe hDa hVe hSl hTr hBx hSt hLa hOr hSi hTu th sn sm nw rn bn kn cm al lg tt dn 1 s.heap.size ) (cwV 1 hts (gd_V tb_cons wd_702 wd_704 wd_18 wd_41 wd_705) rfl rfl rfl (by decide +kernel) ⟨Nat.le_of_ble_eq_true rfl, Nat.le_of_ble_eq_true rfl⟩) (ck_preV hxT hK hP hD [0] rfl (by decide) (q0 := 0) rfl rfl rfl) rfl rfl hl.1 rfl (lv_room (Nat.le_of_ble_eq_true rfl)) dX7_sign_64 ⟨Nat.zero_le _, Nat.zero_le _⟩) hP hD hS hA [0] [] (WR := []) rfl rfl (by decide) (by decide) (ws' := [(h, .inr (7, [.int (iI 1), .int (iI sn), .int (iI sm), .int (iI nw), .ref hRo, .int (iI rn), .int (iI bn), .ref hNu, .ref hWe, .ref hDa, .ref hVe, .int (iI kn), .ref hSl, .ref hTr, .ref hBx, .ref hSt, .ref hLa, .ref hOr, .ref hSi, .ref hTu, .int (iI cm), .int (iI al), .int (iI lg), .int (iI tt), .int (iI dn)]))]) rfl (fun H locs hP hD hS => ?_)
              exact rk_int hx hb hr hlocks hK hP hD hS (by first | rfl | omega) rfl dX7_sign_67
            · skip
              refine lv_iload_n hx hb dX7_sign_58 rfl (lv_at hl 0 rfl) ?_
              refine wk_if_ne (tgt := 68) hx hb dX7_sign_59 (by decide) (by omega) (fun c_18 => ?_) (fun c_18 => ?_)
              · skip
                exfalso; omega
              · skip
                refine lv_aload_n hx hb dX7_sign_62 rfl (lv_at hl 1 rfl) ?_
                refine lv_iconst (v := iI 1) hx hb dX7_sign_63 rfl ?_
                refine ck_backI (va_runV (As := [.int (iI 1)]) (rest := []) ⟨hx, hb, hml, hown, hts⟩ (tX7_fails l D kI kZ kL kJ h hRo hNu hWe hDa hVe hSl hTr hBx hSt hLa hOr hSi hTu th sn sm nw rn bn kn cm al lg tt dn 1 s.heap.size ) (cwV 1 hts (gd_V tb_cons wd_702 wd_704 wd_18 wd_41 wd_705) rfl rfl rfl (by decide +kernel) ⟨Nat.le_of_ble_eq_true rfl, Nat.le_of_ble_eq_true rfl⟩) (ck_preV hxT hK hP hD [0] rfl (by decide) (q0 := 0) rfl rfl rfl) rfl rfl hl.1 rfl (lv_room (Nat.le_of_ble_eq_true rfl)) dX7_sign_64 ⟨Nat.zero_le _, Nat.zero_le _⟩) hP hD hS hA [0] [] (WR := []) rfl rfl (by decide) (by decide) (ws' := [(h, .inr (7, [.int (iI 1), .int (iI sn), .int (iI sm), .int (iI nw), .ref hRo, .int (iI rn), .int (iI bn), .ref hNu, .ref hWe, .ref hDa, .ref hVe, .int (iI kn), .ref hSl, .ref hTr, .ref hBx, .ref hSt, .ref hLa, .ref hOr, .ref hSi, .ref hTu, .int (iI cm), .int (iI al), .int (iI lg), .int (iI tt), .int (iI dn)]))]) rfl (fun H locs hP hD hS => ?_)
                exact rk_int hx hb hr hlocks hK hP hD hS (by first | rfl | omega) rfl dX7_sign_67
        · skip
          exfalso; omega

set_option maxHeartbeats 4000000 in
set_option maxRecDepth 100000 in
theorem tX7_sign_2 (l : Launch) (D : va_G) (kI : ClassId) (kZ : ClassId) (kL : ClassId) (kJ : ClassId) (h : Nat) (hRo : Nat) (hNu : Nat) (hWe : Nat) (hDa : Nat) (hVe : Nat) (hSl : Nat) (hTr : Nat) (hBx : Nat) (hSt : Nat) (hLa : Nat) (hOr : Nat) (hSi : Nat) (hTu : Nat) (th : Int) (sn : Int) (sm : Int) (nw : Int) (rn : Int) (bn : Int) (kn : Int) (cm : Int) (al : Int) (lg : Int) (tt : Int) (dn : Int) (ch : Int) (sz : Nat) (hch : -2147483648 ≤ ch ∧ ch ≤ 2147483647) (hrn : 0 ≤ rn ∧ rn ≤ 11) (h1 : ((65 ≤ ch ∧ ch ≤ 90) ∨ (48 ≤ ch ∧ ch ≤ 57))) (h2 : rn = 11) : CtI l yX7_sign wsX7_sign ({ frames := 1, cells := 0, slots := 0, locals := 21 }) D vwCl (tyL kI kZ kL kJ) [(h, .inr (7, [.int (iI th), .int (iI sn), .int (iI sm), .int (iI nw), .ref hRo, .int (iI rn), .int (iI bn), .ref hNu, .ref hWe, .ref hDa, .ref hVe, .int (iI kn), .ref hSl, .ref hTr, .ref hBx, .ref hSt, .ref hLa, .ref hOr, .ref hSi, .ref hTu, .int (iI cm), .int (iI al), .int (iI lg), .int (iI tt), .int (iI dn)]))] [.ref h, .int (iI ch)] (iI 0) [(h, .inr (7, [.int (iI 2), .int (iI sn), .int (iI sm), .int (iI nw), .ref hRo, .int (iI rn), .int (iI bn), .ref hNu, .ref hWe, .ref hDa, .ref hVe, .int (iI kn), .ref hSl, .ref hTr, .ref hBx, .ref hSt, .ref hLa, .ref hOr, .ref hSi, .ref hTu, .int (iI cm), .int (iI al), .int (iI lg), .int (iI tt), .int (iI dn)]))] sz := by
  refine ck_start (Qc := fun A => cQi D vwCl (tyL kI kZ kL kJ) A (iI 0) [(h, .inr (7, [.int (iI 2), .int (iI sn), .int (iI sm), .int (iI nw), .ref hRo, .int (iI rn), .int (iI bn), .ref hNu, .ref hWe, .ref hDa, .ref hVe, .int (iI kn), .ref hSl, .ref hTr, .ref hBx, .ref hSt, .ref hLa, .ref hOr, .ref hSi, .ref hTu, .int (iI cm), .int (iI al), .int (iI lg), .int (iI tt), .int (iI dn)]))]) (cc := cX7_sign) (maxL := 3) (ret := (some .int)) (LV := [(0, .ref h), (1, .int (iI ch))]) (by decide) rfl rfl (Nat.le_of_ble_eq_true rfl) ?_
  intro p e s m below meth cd hadm hx hb hr hml hts hown hlocks hname hnoh hxT A hA hK hP hD hS ls hl
  refine lv_aload_n hx hb dX7_sign_0 rfl (lv_at hl 0 rfl) ?_
  refine va_get (D := D) (ci := 7) (v := .int (iI rn)) (C := RX7) (T := TX7) (N := 25) hx hb hts (fun w h => (List.mem_cons_of_mem _ (hinX7 w h))) hown hK hP 0 rfl rfl 5 (by decide) (hts _ (List.mem_cons_of_mem _ wd_617)) (fun _ h9 => h9) rfl dX7_sign_1 ?_
  refine lv_bipush (v := iI 11) hx hb dX7_sign_4 (by decide) ?_
  refine wk_icmp_eq (tgt := 38) hx hb dX7_sign_6 (by decide) (by omega) (fun c_1 => ?_) (fun c_1 => ?_)
  · skip
    refine lv_iconst (v := iI 1) hx hb dX7_sign_38 rfl ?_
    refine lv_goto (tgt := 43) hx hb dX7_sign_39 (by decide) ?_
    refine lv_istore_n (lv' := [(2, .int (iI 1)), (0, .ref h), (1, .int (iI ch))]) hx hb dX7_sign_43 rfl hl (by decide) rfl (fun ls hl => ?_)
    refine lv_iload_n hx hb dX7_sign_44 rfl (lv_at hl 2 rfl) ?_
    refine pk_callI (va_runS (As := [.int (iI ch)]) (rest := []) ⟨hx, hb, hml, hown, hts⟩ (tX7_isLetter l D kI kZ kL kJ ch s.heap.size (by first | assumption | omega)) (cwS 1 hts (gd_S tb_cons wd_696 wd_697 wd_41 wd_698) rfl rfl rfl (by decide +kernel) ⟨Nat.le_of_ble_eq_true rfl, Nat.le_of_ble_eq_true rfl⟩) (ck_preS hxT hK hP hD [] rfl (by decide)) rfl rfl hl.1 rfl (lv_room (Nat.le_of_ble_eq_true rfl)) dX7_sign_45 ⟨Nat.zero_le _, Nat.zero_le _⟩) ?_
    refine wk_bif_ne (tgt := 58) hx hb dX7_sign_48 (by decide) (fun c_2 => ?_) (fun c_2 => ?_)
    · skip
      refine lv_iload_n hx hb dX7_sign_58 rfl (lv_at hl 0 rfl) ?_
      refine wk_if_ne (tgt := 68) hx hb dX7_sign_59 (by decide) (by omega) (fun c_3 => ?_) (fun c_3 => ?_)
      · skip
        refine lv_aload_n hx hb dX7_sign_68 rfl (lv_at hl 1 rfl) ?_
        refine va_get (D := D) (ci := 7) (v := .int (iI rn)) (C := RX7) (T := TX7) (N := 25) hx hb hts (fun w h => (List.mem_cons_of_mem _ (hinX7 w h))) hown hK hP 0 rfl rfl 5 (by decide) (hts _ (List.mem_cons_of_mem _ wd_617)) (fun _ h9 => h9) rfl dX7_sign_69 ?_
        refine lv_bipush (v := iI 11) hx hb dX7_sign_72 (by decide) ?_
        refine wk_icmp_ne (tgt := 83) hx hb dX7_sign_74 (by decide) (by omega) (fun c_4 => ?_) (fun c_4 => ?_)
        · skip
          exfalso; omega
        · skip
          refine lv_aload_n hx hb dX7_sign_77 rfl (lv_at hl 1 rfl) ?_
          refine lv_iconst (v := iI 2) hx hb dX7_sign_78 rfl ?_
          refine ck_backI (va_runV (As := [.int (iI 2)]) (rest := []) ⟨hx, hb, hml, hown, hts⟩ (tX7_fails l D kI kZ kL kJ h hRo hNu hWe hDa hVe hSl hTr hBx hSt hLa hOr hSi hTu th sn sm nw rn bn kn cm al lg tt dn 2 s.heap.size ) (cwV 1 hts (gd_V tb_cons wd_702 wd_704 wd_18 wd_41 wd_705) rfl rfl rfl (by decide +kernel) ⟨Nat.le_of_ble_eq_true rfl, Nat.le_of_ble_eq_true rfl⟩) (ck_preV hxT hK hP hD [0] rfl (by decide) (q0 := 0) rfl rfl rfl) rfl rfl hl.1 rfl (lv_room (Nat.le_of_ble_eq_true rfl)) dX7_sign_79 ⟨Nat.zero_le _, Nat.zero_le _⟩) hP hD hS hA [0] [] (WR := []) rfl rfl (by decide) (by decide) (ws' := [(h, .inr (7, [.int (iI 2), .int (iI sn), .int (iI sm), .int (iI nw), .ref hRo, .int (iI rn), .int (iI bn), .ref hNu, .ref hWe, .ref hDa, .ref hVe, .int (iI kn), .ref hSl, .ref hTr, .ref hBx, .ref hSt, .ref hLa, .ref hOr, .ref hSi, .ref hTu, .int (iI cm), .int (iI al), .int (iI lg), .int (iI tt), .int (iI dn)]))]) rfl (fun H locs hP hD hS => ?_)
          exact rk_int hx hb hr hlocks hK hP hD hS (by first | rfl | omega) rfl dX7_sign_82
      · skip
        exfalso; omega
    · skip
      refine lv_iload_n hx hb dX7_sign_51 rfl (lv_at hl 2 rfl) ?_
      refine pk_callI (va_runS (As := [.int (iI ch)]) (rest := []) ⟨hx, hb, hml, hown, hts⟩ (tX7_isDigit l D kI kZ kL kJ ch s.heap.size (by first | assumption | omega)) (cwS 1 hts (gd_S tb_cons wd_699 wd_700 wd_41 wd_701) rfl rfl rfl (by decide +kernel) ⟨Nat.le_of_ble_eq_true rfl, Nat.le_of_ble_eq_true rfl⟩) (ck_preS hxT hK hP hD [] rfl (by decide)) rfl rfl hl.1 rfl (lv_room (Nat.le_of_ble_eq_true rfl)) dX7_sign_52 ⟨Nat.zero_le _, Nat.zero_le _⟩) ?_
      refine wk_bif_eq (tgt := 62) hx hb dX7_sign_55 (by decide) (fun c_5 => ?_) (fun c_5 => ?_)
      · skip
        exfalso; omega
      · skip
        refine lv_iload_n hx hb dX7_sign_58 rfl (lv_at hl 0 rfl) ?_
        refine wk_if_ne (tgt := 68) hx hb dX7_sign_59 (by decide) (by omega) (fun c_6 => ?_) (fun c_6 => ?_)
        · skip
          refine lv_aload_n hx hb dX7_sign_68 rfl (lv_at hl 1 rfl) ?_
          refine va_get (D := D) (ci := 7) (v := .int (iI rn)) (C := RX7) (T := TX7) (N := 25) hx hb hts (fun w h => (List.mem_cons_of_mem _ (hinX7 w h))) hown hK hP 0 rfl rfl 5 (by decide) (hts _ (List.mem_cons_of_mem _ wd_617)) (fun _ h9 => h9) rfl dX7_sign_69 ?_
          refine lv_bipush (v := iI 11) hx hb dX7_sign_72 (by decide) ?_
          refine wk_icmp_ne (tgt := 83) hx hb dX7_sign_74 (by decide) (by omega) (fun c_7 => ?_) (fun c_7 => ?_)
          · skip
            exfalso; omega
          · skip
            refine lv_aload_n hx hb dX7_sign_77 rfl (lv_at hl 1 rfl) ?_
            refine lv_iconst (v := iI 2) hx hb dX7_sign_78 rfl ?_
            refine ck_backI (va_runV (As := [.int (iI 2)]) (rest := []) ⟨hx, hb, hml, hown, hts⟩ (tX7_fails l D kI kZ kL kJ h hRo hNu hWe hDa hVe hSl hTr hBx hSt hLa hOr hSi hTu th sn sm nw rn bn kn cm al lg tt dn 2 s.heap.size ) (cwV 1 hts (gd_V tb_cons wd_702 wd_704 wd_18 wd_41 wd_705) rfl rfl rfl (by decide +kernel) ⟨Nat.le_of_ble_eq_true rfl, Nat.le_of_ble_eq_true rfl⟩) (ck_preV hxT hK hP hD [0] rfl (by decide) (q0 := 0) rfl rfl rfl) rfl rfl hl.1 rfl (lv_room (Nat.le_of_ble_eq_true rfl)) dX7_sign_79 ⟨Nat.zero_le _, Nat.zero_le _⟩) hP hD hS hA [0] [] (WR := []) rfl rfl (by decide) (by decide) (ws' := [(h, .inr (7, [.int (iI 2), .int (iI sn), .int (iI sm), .int (iI nw), .ref hRo, .int (iI rn), .int (iI bn), .ref hNu, .ref hWe, .ref hDa, .ref hVe, .int (iI kn), .ref hSl, .ref hTr, .ref hBx, .ref hSt, .ref hLa, .ref hOr, .ref hSi, .ref hTu, .int (iI cm), .int (iI al), .int (iI lg), .int (iI tt), .int (iI dn)]))]) rfl (fun H locs hP hD hS => ?_)
            exact rk_int hx hb hr hlocks hK hP hD hS (by first | rfl | omega) rfl dX7_sign_82
        · skip
          exfalso; omega
  · skip
    exfalso; omega

set_option maxHeartbeats 4000000 in
set_option maxRecDepth 100000 in
theorem tX7_clear (l : Launch) (D : va_G) (kI : ClassId) (kZ : ClassId) (kL : ClassId) (kJ : ClassId) (h : Nat) (hRo : Nat) (hNu : Nat) (hWe : Nat) (hDa : Nat) (hVe : Nat) (hSl : Nat) (hTr : Nat) (hBx : Nat) (hSt : Nat) (hLa : Nat) (hOr : Nat) (hSi : Nat) (hTu : Nat) (th : Int) (sn : Int) (sm : Int) (nw : Int) (rn : Int) (bn : Int) (kn : Int) (cm : Int) (al : Int) (lg : Int) (tt : Int) (dn : Int) (sz : Nat)  : CtI l yX7_clear wsX7_clear ({ frames := 0, cells := 0, slots := 0, locals := 0 }) D vwCl (tyL kI kZ kL kJ) [(h, .inr (7, [.int (iI th), .int (iI sn), .int (iI sm), .int (iI nw), .ref hRo, .int (iI rn), .int (iI bn), .ref hNu, .ref hWe, .ref hDa, .ref hVe, .int (iI kn), .ref hSl, .ref hTr, .ref hBx, .ref hSt, .ref hLa, .ref hOr, .ref hSi, .ref hTu, .int (iI cm), .int (iI al), .int (iI lg), .int (iI tt), .int (iI dn)]))] [.ref h] (iI rn) [(h, .inr (7, [.int (iI 0), .int (iI sn), .int (iI sm), .int (iI nw), .ref hRo, .int (iI 0), .int (iI bn), .ref hNu, .ref hWe, .ref hDa, .ref hVe, .int (iI kn), .ref hSl, .ref hTr, .ref hBx, .ref hSt, .ref hLa, .ref hOr, .ref hSi, .ref hTu, .int (iI cm), .int (iI al), .int (iI lg), .int (iI tt), .int (iI dn)]))] sz := by
  refine ck_start (Qc := fun A => cQi D vwCl (tyL kI kZ kL kJ) A (iI rn) [(h, .inr (7, [.int (iI 0), .int (iI sn), .int (iI sm), .int (iI nw), .ref hRo, .int (iI 0), .int (iI bn), .ref hNu, .ref hWe, .ref hDa, .ref hVe, .int (iI kn), .ref hSl, .ref hTr, .ref hBx, .ref hSt, .ref hLa, .ref hOr, .ref hSi, .ref hTu, .int (iI cm), .int (iI al), .int (iI lg), .int (iI tt), .int (iI dn)]))]) (cc := cX7_clear) (maxL := 2) (ret := (some .int)) (LV := [(0, .ref h)]) (by decide) rfl rfl (Nat.le_of_ble_eq_true rfl) ?_
  intro p e s m below meth cd hadm hx hb hr hml hts hown hlocks hname hnoh hxT A hA hK hP hD hS ls hl
  refine lv_aload_n hx hb dX7_clear_0 rfl (lv_at hl 0 rfl) ?_
  refine lv_iconst (v := iI 0) hx hb dX7_clear_1 rfl ?_
  refine wk_put (ci := 7) (C := RX7) (T := TX7) (N := 25) hx hb hts (fun w h => (List.mem_cons_of_mem _ (hinX7 w h))) tyX7 tyX7_ok nmX7 hown hK hP hD hS 0 rfl rfl 0 (by decide) (hts _ (List.mem_cons_of_mem _ wd_612)) (fun _ h9 => h9) rfl rfl (Nat.le_of_ble_eq_true rfl) dX7_clear_2 (ws' := [(h, .inr (7, [.int (iI 0), .int (iI sn), .int (iI sm), .int (iI nw), .ref hRo, .int (iI rn), .int (iI bn), .ref hNu, .ref hWe, .ref hDa, .ref hVe, .int (iI kn), .ref hSl, .ref hTr, .ref hBx, .ref hSt, .ref hLa, .ref hOr, .ref hSi, .ref hTu, .int (iI cm), .int (iI al), .int (iI lg), .int (iI tt), .int (iI dn)]))]) rfl (fun H locs hP hD hS => ?_)
  refine lv_aload_n hx hb dX7_clear_5 rfl (lv_at hl 0 rfl) ?_
  refine va_get (D := D) (ci := 7) (v := .int (iI rn)) (C := RX7) (T := TX7) (N := 25) hx hb hts (fun w h => (List.mem_cons_of_mem _ (hinX7 w h))) hown hK hP 0 rfl rfl 5 (by decide) (hts _ (List.mem_cons_of_mem _ wd_617)) (fun _ h9 => h9) rfl dX7_clear_6 ?_
  refine lv_istore_n (lv' := [(1, .int (iI rn)), (0, .ref h)]) hx hb dX7_clear_9 rfl hl (by decide) rfl (fun ls hl => ?_)
  refine lv_aload_n hx hb dX7_clear_10 rfl (lv_at hl 1 rfl) ?_
  refine lv_iconst (v := iI 0) hx hb dX7_clear_11 rfl ?_
  refine wk_put (ci := 7) (C := RX7) (T := TX7) (N := 25) hx hb hts (fun w h => (List.mem_cons_of_mem _ (hinX7 w h))) tyX7 tyX7_ok nmX7 hown hK hP hD hS 0 rfl rfl 5 (by decide) (hts _ (List.mem_cons_of_mem _ wd_617)) (fun _ h9 => h9) rfl rfl (Nat.le_of_ble_eq_true rfl) dX7_clear_12 (ws' := [(h, .inr (7, [.int (iI 0), .int (iI sn), .int (iI sm), .int (iI nw), .ref hRo, .int (iI 0), .int (iI bn), .ref hNu, .ref hWe, .ref hDa, .ref hVe, .int (iI kn), .ref hSl, .ref hTr, .ref hBx, .ref hSt, .ref hLa, .ref hOr, .ref hSi, .ref hTu, .int (iI cm), .int (iI al), .int (iI lg), .int (iI tt), .int (iI dn)]))]) rfl (fun H locs hP hD hS => ?_)
  refine lv_iload_n hx hb dX7_clear_15 rfl (lv_at hl 0 rfl) ?_
  exact rk_int hx hb hr hlocks hK hP hD hS (by first | rfl | omega) rfl dX7_clear_16

set_option maxHeartbeats 4000000 in
set_option maxRecDepth 100000 in
theorem tX7_checkLetter (l : Launch) (D : va_G) (kI : ClassId) (kZ : ClassId) (kL : ClassId) (kJ : ClassId) (h : Nat) (hRo : Nat) (hNu : Nat) (hWe : Nat) (hDa : Nat) (hVe : Nat) (hSl : Nat) (hTr : Nat) (hBx : Nat) (hSt : Nat) (hLa : Nat) (hOr : Nat) (hSi : Nat) (hTu : Nat) (rs : Int → Int) (th : Int) (sn : Int) (sm : Int) (nw : Int) (rn : Int) (bn : Int) (kn : Int) (cm : Int) (al : Int) (lg : Int) (tt : Int) (dn : Int) (sz : Nat) (hrs : ∀ j, 0 ≤ rs j ∧ rs j ≤ 1000000) (hws : ∀ j, 0 ≤ j → j < 10 → 0 ≤ wrt (rs j) ∧ wrt (rs j) ≤ 26) : CtP l yX7_checkLetter wsX7_checkLetter ({ frames := 1, cells := 0, slots := 0, locals := 20 }) D vwCl (tyL kI kZ kL kJ) [(h, .inr (7, [.int (iI th), .int (iI sn), .int (iI sm), .int (iI nw), .ref hRo, .int (iI rn), .int (iI bn), .ref hNu, .ref hWe, .ref hDa, .ref hVe, .int (iI kn), .ref hSl, .ref hTr, .ref hBx, .ref hSt, .ref hLa, .ref hOr, .ref hSi, .ref hTu, .int (iI cm), .int (iI al), .int (iI lg), .int (iI tt), .int (iI dn)])), (hRo, .inl (kI, 11, .inl (iF rs)))] [.ref h] (iI (65 + ckS rs 10 % 26)) sz := by
  refine pk_start (cc := cX7_checkLetter) (maxL := 3) (ret := (some .int)) (LV := [(0, .ref h)]) (by decide) rfl rfl (Nat.le_of_ble_eq_true rfl) ?_
  intro p e s m below meth cd hadm hx hb hr hml hts hown hlocks hname hnoh hxT A hA hK hP hD hS ls hl
  refine lv_iconst (v := iI 0) hx hb dX7_checkLetter_0 rfl ?_
  refine lv_istore_n (lv' := [(1, .int (iI 0)), (0, .ref h)]) hx hb dX7_checkLetter_1 rfl hl (by decide) rfl (fun ls hl => ?_)
  refine lv_iconst (v := iI 0) hx hb dX7_checkLetter_2 rfl ?_
  refine lv_istore_n (lv' := [(2, .int (iI 0)), (1, .int (iI 0)), (0, .ref h)]) hx hb dX7_checkLetter_3 rfl hl (by decide) rfl (fun ls hl => ?_)
  have loop_4 : ∀ (fu : Nat) (x : Int) (i : Int), (0 ≤ i ∧ i ≤ 10) → (x = ckS rs i.toNat) → (0 ≤ x ∧ x ≤ 260 * i) → ((10 : Int) - i) < (fu : Int) → ∀ (ls : Array Slot), lv_has ls 3 [(2, .int (iI i)), (1, .int (iI x)), (0, .ref h)] → W p l e ({ frames := 1, cells := 0, slots := 0, locals := 20 }) s m ([.ref h] : List Value).toArray below meth cd s.heap [] 0 0 (MQ below (QcRead (iI (65 + ckS rs 10 % 26)) ) ([.ref h] : List Value).toArray s 0 0 (fun _ => False)) (F0 m 4 ls []) := by
    intro fu
    induction fu with
    | zero => intro x i hi hE hB hfu; exfalso; omega
    | succ fu ih_4 =>
      intro x i hi hE hB hfu ls hl
      refine lv_iload_n hx hb dX7_checkLetter_4 rfl (lv_at hl 0 rfl) ?_
      refine lv_bipush (v := iI 10) hx hb dX7_checkLetter_5 (by decide) ?_
      refine wk_icmp_ge (tgt := 56) hx hb dX7_checkLetter_7 (by decide) (by omega) (fun c_1 => ?_) (fun c_1 => ?_)
      · skip
        refine lv_bipush (v := iI 65) hx hb dX7_checkLetter_56 (by decide) ?_
        refine lv_iload_n hx hb dX7_checkLetter_58 rfl (lv_at hl 1 rfl) ?_
        refine lv_bipush (v := iI 26) hx hb dX7_checkLetter_59 (by decide) ?_
        refine wk_irem hx hb dX7_checkLetter_61 (by omega) ?_
        refine wk_iadd hx hb dX7_checkLetter_62 ?_
        exact pk_int hx hb hr hlocks (by rw [hE, show i = 10 by omega]; rfl) dX7_checkLetter_63
      · skip
        refine lv_iload_n hx hb dX7_checkLetter_10 rfl (lv_at hl 1 rfl) ?_
        refine lv_iload_n hx hb dX7_checkLetter_11 rfl (lv_at hl 0 rfl) ?_
        refine lv_iconst (v := iI 1) hx hb dX7_checkLetter_12 rfl ?_
        refine wk_iadd hx hb dX7_checkLetter_13 ?_
        refine lv_aload_n hx hb dX7_checkLetter_14 rfl (lv_at hl 2 rfl) ?_
        refine va_get (D := D) (ci := 7) (v := .ref hRo) (C := RX7) (T := TX7) (N := 25) hx hb hts (fun w h => (List.mem_cons_of_mem _ (hinX7 w h))) hown hK hP 0 rfl rfl 4 (by decide) (hts _ (List.mem_cons_of_mem _ wd_616)) (fun _ h9 => h9) rfl dX7_checkLetter_15 ?_
        refine lv_iload_n hx hb dX7_checkLetter_18 rfl (lv_at hl 0 rfl) ?_
        refine wk_iald hx hb hK hP 1 0 rfl rfl (by decide) (by omega) dX7_checkLetter_19 ?_
        have b_2 := hrs i
        refine pk_callI (va_runS (As := [.int (iI (rs i))]) (rest := [.int (iI (i + 1)), .int (iI x)]) ⟨hx, hb, hml, hown, hts⟩ (tX7_isLetter l D kI kZ kL kJ (rs i) s.heap.size (by first | assumption | omega)) (cwS 1 hts (gd_S tb_cons wd_696 wd_697 wd_41 wd_698) rfl rfl rfl (by decide +kernel) ⟨Nat.le_of_ble_eq_true rfl, Nat.le_of_ble_eq_true rfl⟩) (ck_preS hxT hK hP hD [] rfl (by decide)) rfl rfl hl.1 rfl (lv_room (Nat.le_of_ble_eq_true rfl)) dX7_checkLetter_20 ⟨Nat.zero_le _, Nat.zero_le _⟩) ?_
        refine wk_bif_eq (tgt := 38) hx hb dX7_checkLetter_23 (by decide) (fun c_3 => ?_) (fun c_3 => ?_)
        · skip
          refine lv_aload_n hx hb dX7_checkLetter_38 rfl (lv_at hl 2 rfl) ?_
          refine va_get (D := D) (ci := 7) (v := .ref hRo) (C := RX7) (T := TX7) (N := 25) hx hb hts (fun w h => (List.mem_cons_of_mem _ (hinX7 w h))) hown hK hP 0 rfl rfl 4 (by decide) (hts _ (List.mem_cons_of_mem _ wd_616)) (fun _ h9 => h9) rfl dX7_checkLetter_39 ?_
          refine lv_iload_n hx hb dX7_checkLetter_42 rfl (lv_at hl 0 rfl) ?_
          refine wk_iald hx hb hK hP 1 0 rfl rfl (by decide) (by omega) dX7_checkLetter_43 ?_
          have b_4 := hrs i
          refine lv_bipush (v := iI 48) hx hb dX7_checkLetter_44 (by decide) ?_
          refine wk_isub hx hb dX7_checkLetter_46 ?_
          refine wk_imul hx hb dX7_checkLetter_47 ?_
          refine wk_iadd hx hb dX7_checkLetter_48 ?_
          refine lv_istore_n (lv' := [(1, .int (iI (x + ((i + 1) * ((rs i) - 48))))), (2, .int (iI i)), (0, .ref h)]) hx hb dX7_checkLetter_49 rfl hl (by decide) rfl (fun ls hl => ?_)
          refine wk_iinc (k := 1) (lv' := [(2, .int (iI (i + 1))), (1, .int (iI (x + ((i + 1) * ((rs i) - 48))))), (0, .ref h)]) hx hb dX7_checkLetter_50 hl rfl (by decide) rfl (fun ls hl => ?_)
          refine lv_goto (tgt := 4) hx hb dX7_checkLetter_53 (by decide) ?_
          exact ih_4 (x + ((i + 1) * ((rs i) - 48))) (i + 1) (by first | assumption | omega) (by rw [ckS_step rs (by omega), ← hE, Int.mul_comm (wrt (rs i))]; congr 2; unfold wrt; split <;> omega) (by have e8 := hws i (by omega) (by omega); have e9 := Int.mul_le_mul e8.2 (show i + 1 ≤ 10 by omega) (by omega) (by omega); have e7 := Int.mul_nonneg e8.1 (show 0 ≤ i + 1 by omega); first | (have e6 := wr_l (rs i) (by omega); rw [e6, Int.mul_comm] at e7 e9; omega) | (have e6 := wr_d (rs i) (by omega); rw [e6, Int.mul_comm] at e7 e9; omega)) (by omega) ls (lv_sub hl [0, 1, 2] rfl)
        · skip
          refine lv_aload_n hx hb dX7_checkLetter_26 rfl (lv_at hl 2 rfl) ?_
          refine va_get (D := D) (ci := 7) (v := .ref hRo) (C := RX7) (T := TX7) (N := 25) hx hb hts (fun w h => (List.mem_cons_of_mem _ (hinX7 w h))) hown hK hP 0 rfl rfl 4 (by decide) (hts _ (List.mem_cons_of_mem _ wd_616)) (fun _ h9 => h9) rfl dX7_checkLetter_27 ?_
          refine lv_iload_n hx hb dX7_checkLetter_30 rfl (lv_at hl 0 rfl) ?_
          refine wk_iald hx hb hK hP 1 0 rfl rfl (by decide) (by omega) dX7_checkLetter_31 ?_
          have b_5 := hrs i
          refine lv_bipush (v := iI 64) hx hb dX7_checkLetter_32 (by decide) ?_
          refine wk_isub hx hb dX7_checkLetter_34 ?_
          refine lv_goto (tgt := 47) hx hb dX7_checkLetter_35 (by decide) ?_
          refine wk_imul hx hb dX7_checkLetter_47 ?_
          refine wk_iadd hx hb dX7_checkLetter_48 ?_
          refine lv_istore_n (lv' := [(1, .int (iI (x + ((i + 1) * ((rs i) - 64))))), (2, .int (iI i)), (0, .ref h)]) hx hb dX7_checkLetter_49 rfl hl (by decide) rfl (fun ls hl => ?_)
          refine wk_iinc (k := 1) (lv' := [(2, .int (iI (i + 1))), (1, .int (iI (x + ((i + 1) * ((rs i) - 64))))), (0, .ref h)]) hx hb dX7_checkLetter_50 hl rfl (by decide) rfl (fun ls hl => ?_)
          refine lv_goto (tgt := 4) hx hb dX7_checkLetter_53 (by decide) ?_
          exact ih_4 (x + ((i + 1) * ((rs i) - 64))) (i + 1) (by first | assumption | omega) (by rw [ckS_step rs (by omega), ← hE, Int.mul_comm (wrt (rs i))]; congr 2; unfold wrt; split <;> omega) (by have e8 := hws i (by omega) (by omega); have e9 := Int.mul_le_mul e8.2 (show i + 1 ≤ 10 by omega) (by omega) (by omega); have e7 := Int.mul_nonneg e8.1 (show 0 ≤ i + 1 by omega); first | (have e6 := wr_l (rs i) (by omega); rw [e6, Int.mul_comm] at e7 e9; omega) | (have e6 := wr_d (rs i) (by omega); rw [e6, Int.mul_comm] at e7 e9; omega)) (by omega) ls (lv_sub hl [0, 1, 2] rfl)
  exact loop_4 ((10 : Int) - 0).toNat.succ 0 0 (by first | assumption | rfl | omega) (by first | assumption | rfl | omega) (by first | assumption | rfl | omega) (by omega) ls (lv_sub hl [0, 1, 2] rfl)

set_option maxHeartbeats 4000000 in
set_option maxRecDepth 100000 in
theorem tX7_letter (l : Launch) (D : va_G) (kI : ClassId) (kZ : ClassId) (kL : ClassId) (kJ : ClassId) (h : Nat) (hRo : Nat) (hNu : Nat) (hWe : Nat) (hDa : Nat) (hVe : Nat) (hSl : Nat) (hTr : Nat) (hBx : Nat) (hSt : Nat) (hLa : Nat) (hOr : Nat) (hSi : Nat) (hTu : Nat) (rs : Int → Int) (th : Int) (sn : Int) (sm : Int) (nw : Int) (rn : Int) (bn : Int) (kn : Int) (cm : Int) (al : Int) (lg : Int) (tt : Int) (dn : Int) (sz : Nat) (hrn : 10 ≤ rn ∧ rn ≤ 11) (hrs : ∀ j, 0 ≤ rs j ∧ rs j ≤ 1000000) (hws : ∀ j, 0 ≤ j → j < 10 → 0 ≤ wrt (rs j) ∧ wrt (rs j) ≤ 26) : CtI l yX7_letter wsX7_letter ({ frames := 2, cells := 0, slots := 0, locals := 42 }) D vwCl (tyL kI kZ kL kJ) [(h, .inr (7, [.int (iI th), .int (iI sn), .int (iI sm), .int (iI nw), .ref hRo, .int (iI rn), .int (iI bn), .ref hNu, .ref hWe, .ref hDa, .ref hVe, .int (iI kn), .ref hSl, .ref hTr, .ref hBx, .ref hSt, .ref hLa, .ref hOr, .ref hSi, .ref hTu, .int (iI cm), .int (iI al), .int (iI lg), .int (iI tt), .int (iI dn)])), (hRo, .inl (kI, 11, .inl (iF rs)))] [.ref h] (iI (65 + ckS rs 10 % 26)) [(h, .inr (7, [.int (iI 0), .int (iI sn), .int (iI sm), .int (iI nw), .ref hRo, .int (iI rn), .int (iI bn), .ref hNu, .ref hWe, .ref hDa, .ref hVe, .int (iI kn), .ref hSl, .ref hTr, .ref hBx, .ref hSt, .ref hLa, .ref hOr, .ref hSi, .ref hTu, .int (iI cm), .int (iI al), .int (iI lg), .int (iI tt), .int (iI dn)])), (hRo, .inl (kI, 11, .inl (iF rs)))] sz := by
  refine ck_start (Qc := fun A => cQi D vwCl (tyL kI kZ kL kJ) A (iI (65 + ckS rs 10 % 26)) [(h, .inr (7, [.int (iI 0), .int (iI sn), .int (iI sm), .int (iI nw), .ref hRo, .int (iI rn), .int (iI bn), .ref hNu, .ref hWe, .ref hDa, .ref hVe, .int (iI kn), .ref hSl, .ref hTr, .ref hBx, .ref hSt, .ref hLa, .ref hOr, .ref hSi, .ref hTu, .int (iI cm), .int (iI al), .int (iI lg), .int (iI tt), .int (iI dn)])), (hRo, .inl (kI, 11, .inl (iF rs)))]) (cc := cX7_letter) (maxL := 1) (ret := (some .int)) (LV := [(0, .ref h)]) (by decide) rfl rfl (Nat.le_of_ble_eq_true rfl) ?_
  intro p e s m below meth cd hadm hx hb hr hml hts hown hlocks hname hnoh hxT A hA hK hP hD hS ls hl
  refine lv_aload_n hx hb dX7_letter_0 rfl (lv_at hl 0 rfl) ?_
  refine lv_iconst (v := iI 0) hx hb dX7_letter_1 rfl ?_
  refine wk_put (ci := 7) (C := RX7) (T := TX7) (N := 25) hx hb hts (fun w h => (List.mem_cons_of_mem _ (hinX7 w h))) tyX7 tyX7_ok nmX7 hown hK hP hD hS 0 rfl rfl 0 (by decide) (hts _ (List.mem_cons_of_mem _ wd_612)) (fun _ h9 => h9) rfl rfl (Nat.le_of_ble_eq_true rfl) dX7_letter_2 (ws' := [(h, .inr (7, [.int (iI 0), .int (iI sn), .int (iI sm), .int (iI nw), .ref hRo, .int (iI rn), .int (iI bn), .ref hNu, .ref hWe, .ref hDa, .ref hVe, .int (iI kn), .ref hSl, .ref hTr, .ref hBx, .ref hSt, .ref hLa, .ref hOr, .ref hSi, .ref hTu, .int (iI cm), .int (iI al), .int (iI lg), .int (iI tt), .int (iI dn)])), (hRo, .inl (kI, 11, .inl (iF rs)))]) rfl (fun H locs hP hD hS => ?_)
  refine lv_aload_n hx hb dX7_letter_5 rfl (lv_at hl 0 rfl) ?_
  refine va_get (D := D) (ci := 7) (v := .int (iI rn)) (C := RX7) (T := TX7) (N := 25) hx hb hts (fun w h => (List.mem_cons_of_mem _ (hinX7 w h))) hown hK hP 0 rfl rfl 5 (by decide) (hts _ (List.mem_cons_of_mem _ wd_617)) (fun _ h9 => h9) rfl dX7_letter_6 ?_
  refine lv_bipush (v := iI 10) hx hb dX7_letter_9 (by decide) ?_
  refine wk_icmp_ge (tgt := 18) hx hb dX7_letter_11 (by decide) (by omega) (fun c_1 => ?_) (fun c_1 => ?_)
  · skip
    refine lv_aload_n hx hb dX7_letter_18 rfl (lv_at hl 0 rfl) ?_
    refine pk_callI (va_runV (As := []) (rest := []) ⟨hx, hb, hml, hown, hts⟩ (tX7_checkLetter l D kI kZ kL kJ h hRo hNu hWe hDa hVe hSl hTr hBx hSt hLa hOr hSi hTu rs 0 sn sm nw rn bn kn cm al lg tt dn H.size (by first | assumption | omega) (by first | assumption | omega)) (cwV 0 hts (gd_V tb_cons wd_714 wd_716 wd_19 wd_41 wd_717) rfl rfl rfl (by decide +kernel) ⟨Nat.le_of_ble_eq_true rfl, Nat.le_of_ble_eq_true rfl⟩) (ck_preV hxT hK hP hD [0, 1] rfl (by decide) (q0 := 0) rfl rfl rfl) rfl rfl hl.1 rfl (lv_room (Nat.le_of_ble_eq_true rfl)) dX7_letter_19 ⟨Nat.zero_le _, Nat.zero_le _⟩) ?_
    exact rk_int hx hb hr hlocks hK hP hD hS (by first | rfl | omega) rfl dX7_letter_22
  · skip
    exfalso; omega

set_option maxHeartbeats 4000000 in
set_option maxRecDepth 100000 in
theorem tX7_letter_n (l : Launch) (D : va_G) (kI : ClassId) (kZ : ClassId) (kL : ClassId) (kJ : ClassId) (h : Nat) (hRo : Nat) (hNu : Nat) (hWe : Nat) (hDa : Nat) (hVe : Nat) (hSl : Nat) (hTr : Nat) (hBx : Nat) (hSt : Nat) (hLa : Nat) (hOr : Nat) (hSi : Nat) (hTu : Nat) (th : Int) (sn : Int) (sm : Int) (nw : Int) (rn : Int) (bn : Int) (kn : Int) (cm : Int) (al : Int) (lg : Int) (tt : Int) (dn : Int) (sz : Nat) (hrn : 0 ≤ rn ∧ rn < 10) : CtI l yX7_letter wsX7_letter ({ frames := 0, cells := 0, slots := 0, locals := 0 }) D vwCl (tyL kI kZ kL kJ) [(h, .inr (7, [.int (iI th), .int (iI sn), .int (iI sm), .int (iI nw), .ref hRo, .int (iI rn), .int (iI bn), .ref hNu, .ref hWe, .ref hDa, .ref hVe, .int (iI kn), .ref hSl, .ref hTr, .ref hBx, .ref hSt, .ref hLa, .ref hOr, .ref hSi, .ref hTu, .int (iI cm), .int (iI al), .int (iI lg), .int (iI tt), .int (iI dn)]))] [.ref h] (iI (-1)) [(h, .inr (7, [.int (iI 0), .int (iI sn), .int (iI sm), .int (iI nw), .ref hRo, .int (iI rn), .int (iI bn), .ref hNu, .ref hWe, .ref hDa, .ref hVe, .int (iI kn), .ref hSl, .ref hTr, .ref hBx, .ref hSt, .ref hLa, .ref hOr, .ref hSi, .ref hTu, .int (iI cm), .int (iI al), .int (iI lg), .int (iI tt), .int (iI dn)]))] sz := by
  refine ck_start (Qc := fun A => cQi D vwCl (tyL kI kZ kL kJ) A (iI (-1)) [(h, .inr (7, [.int (iI 0), .int (iI sn), .int (iI sm), .int (iI nw), .ref hRo, .int (iI rn), .int (iI bn), .ref hNu, .ref hWe, .ref hDa, .ref hVe, .int (iI kn), .ref hSl, .ref hTr, .ref hBx, .ref hSt, .ref hLa, .ref hOr, .ref hSi, .ref hTu, .int (iI cm), .int (iI al), .int (iI lg), .int (iI tt), .int (iI dn)]))]) (cc := cX7_letter) (maxL := 1) (ret := (some .int)) (LV := [(0, .ref h)]) (by decide) rfl rfl (Nat.le_of_ble_eq_true rfl) ?_
  intro p e s m below meth cd hadm hx hb hr hml hts hown hlocks hname hnoh hxT A hA hK hP hD hS ls hl
  refine lv_aload_n hx hb dX7_letter_0 rfl (lv_at hl 0 rfl) ?_
  refine lv_iconst (v := iI 0) hx hb dX7_letter_1 rfl ?_
  refine wk_put (ci := 7) (C := RX7) (T := TX7) (N := 25) hx hb hts (fun w h => (List.mem_cons_of_mem _ (hinX7 w h))) tyX7 tyX7_ok nmX7 hown hK hP hD hS 0 rfl rfl 0 (by decide) (hts _ (List.mem_cons_of_mem _ wd_612)) (fun _ h9 => h9) rfl rfl (Nat.le_of_ble_eq_true rfl) dX7_letter_2 (ws' := [(h, .inr (7, [.int (iI 0), .int (iI sn), .int (iI sm), .int (iI nw), .ref hRo, .int (iI rn), .int (iI bn), .ref hNu, .ref hWe, .ref hDa, .ref hVe, .int (iI kn), .ref hSl, .ref hTr, .ref hBx, .ref hSt, .ref hLa, .ref hOr, .ref hSi, .ref hTu, .int (iI cm), .int (iI al), .int (iI lg), .int (iI tt), .int (iI dn)]))]) rfl (fun H locs hP hD hS => ?_)
  refine lv_aload_n hx hb dX7_letter_5 rfl (lv_at hl 0 rfl) ?_
  refine va_get (D := D) (ci := 7) (v := .int (iI rn)) (C := RX7) (T := TX7) (N := 25) hx hb hts (fun w h => (List.mem_cons_of_mem _ (hinX7 w h))) hown hK hP 0 rfl rfl 5 (by decide) (hts _ (List.mem_cons_of_mem _ wd_617)) (fun _ h9 => h9) rfl dX7_letter_6 ?_
  refine lv_bipush (v := iI 10) hx hb dX7_letter_9 (by decide) ?_
  refine wk_icmp_ge (tgt := 18) hx hb dX7_letter_11 (by decide) (by omega) (fun c_1 => ?_) (fun c_1 => ?_)
  · skip
    exfalso; omega
  · skip
    refine lv_iconst (v := iI (-1)) hx hb dX7_letter_14 rfl ?_
    refine lv_goto (tgt := 22) hx hb dX7_letter_15 (by decide) ?_
    exact rk_int hx hb hr hlocks hK hP hD hS (by first | rfl | omega) rfl dX7_letter_22

set_option maxHeartbeats 4000000 in
set_option maxRecDepth 100000 in
theorem tX7_isKnown (l : Launch) (D : va_G) (kI : ClassId) (kZ : ClassId) (kL : ClassId) (kJ : ClassId) (h : Nat) (hRo : Nat) (hNu : Nat) (hWe : Nat) (hDa : Nat) (hVe : Nat) (hSl : Nat) (hTr : Nat) (hBx : Nat) (hSt : Nat) (hLa : Nat) (hOr : Nat) (hSi : Nat) (hTu : Nat) (rs : Int → Int) (bs : Int → Int) (th : Int) (sn : Int) (sm : Int) (nw : Int) (rn : Int) (bn : Int) (kn : Int) (cm : Int) (al : Int) (lg : Int) (tt : Int) (dn : Int) (sz : Nat) (hbn : 0 ≤ bn ∧ bn ≤ 20) (hrs : ∀ j, 0 ≤ rs j ∧ rs j ≤ 1000000) (hbs : ∀ j, 0 ≤ bs j ∧ bs j ≤ 1000000) : CtP l yX7_isKnown wsX7_isKnown ({ frames := 0, cells := 0, slots := 0, locals := 0 }) D vwCl (tyL kI kZ kL kJ) [(h, .inr (7, [.int (iI th), .int (iI sn), .int (iI sm), .int (iI nw), .ref hRo, .int (iI rn), .int (iI bn), .ref hNu, .ref hWe, .ref hDa, .ref hVe, .int (iI kn), .ref hSl, .ref hTr, .ref hBx, .ref hSt, .ref hLa, .ref hOr, .ref hSi, .ref hTu, .int (iI cm), .int (iI al), .int (iI lg), .int (iI tt), .int (iI dn)])), (hRo, .inl (kI, 11, .inl (iF rs))), (hNu, .inl (kI, 200, .inl (iF bs)))] [.ref h] (iI (bi (¬ sc (pNB bs rs) (-1) (bn - 1 + 1 - 0).toNat 0 = -1))) sz := by
  refine pk_start (cc := cX7_isKnown) (maxL := 5) (ret := (some .boolean)) (LV := [(0, .ref h)]) (by decide) rfl rfl (Nat.le_of_ble_eq_true rfl) ?_
  intro p e s m below meth cd hadm hx hb hr hml hts hown hlocks hname hnoh hxT A hA hK hP hD hS ls hl
  refine lv_iconst (v := iI 0) hx hb dX7_isKnown_0 rfl ?_
  refine lv_istore_n (lv' := [(1, .int (iI 0)), (0, .ref h)]) hx hb dX7_isKnown_1 rfl hl (by decide) rfl (fun ls hl => ?_)
  refine lv_iconst (v := iI 0) hx hb dX7_isKnown_2 rfl ?_
  refine lv_istore_n (lv' := [(2, .int (iI 0)), (1, .int (iI 0)), (0, .ref h)]) hx hb dX7_isKnown_3 rfl hl (by decide) rfl (fun ls hl => ?_)
  have loop_4 : ∀ (fu : Nat) (x : Int) (i : Int), (0 ≤ i ∧ i ≤ bn) → ((x = 1 ∧ ∃ j, 0 ≤ j ∧ j < i ∧ pNB bs rs j = true) ∨ (x = 0 ∧ ∀ j, 0 ≤ j → j < i → ¬ pNB bs rs j = true)) → (bn - i) < (fu : Int) → ∀ (ls : Array Slot), lv_has ls 5 [(2, .int (iI i)), (1, .int (iI x)), (0, .ref h)] → W p l e ({ frames := 0, cells := 0, slots := 0, locals := 0 }) s m ([.ref h] : List Value).toArray below meth cd s.heap [] 0 0 (MQ below (QcRead (iI (bi (¬ sc (pNB bs rs) (-1) (bn - 1 + 1 - 0).toNat 0 = -1))) ) ([.ref h] : List Value).toArray s 0 0 (fun _ => False)) (F0 m 4 ls []) := by
    intro fu
    induction fu with
    | zero => intro x i hi hX hfu; exfalso; omega
    | succ fu ih_4 =>
      intro x i hi hX hfu ls hl
      refine lv_iload_n hx hb dX7_isKnown_4 rfl (lv_at hl 0 rfl) ?_
      refine lv_aload_n hx hb dX7_isKnown_5 rfl (lv_at hl 2 rfl) ?_
      refine va_get (D := D) (ci := 7) (v := .int (iI bn)) (C := RX7) (T := TX7) (N := 25) hx hb hts (fun w h => (List.mem_cons_of_mem _ (hinX7 w h))) hown hK hP 0 rfl rfl 6 (by decide) (hts _ (List.mem_cons_of_mem _ wd_618)) (fun _ h9 => h9) rfl dX7_isKnown_6 ?_
      refine wk_icmp_ge (tgt := 82) hx hb dX7_isKnown_9 (by decide) (by omega) (fun c_1 => ?_) (fun c_1 => ?_)
      · skip
        refine lv_iload_n hx hb dX7_isKnown_82 rfl (lv_at hl 1 rfl) ?_
        exact pk_bool hx hb hr hlocks (by exact kn_end hX (by clear hX; omega)) dX7_isKnown_83
      · skip
        refine lv_iconst (v := iI 1) hx hb dX7_isKnown_12 rfl ?_
        refine lv_istore_n (lv' := [(3, .int (iI 1)), (2, .int (iI i)), (1, .int (iI x)), (0, .ref h)]) hx hb dX7_isKnown_13 rfl hl (by decide) rfl (fun ls hl => ?_)
        refine lv_iconst (v := iI 0) hx hb dX7_isKnown_14 rfl ?_
        refine lv_istore (lv' := [(4, .int (iI 0)), (3, .int (iI 1)), (2, .int (iI i)), (1, .int (iI x)), (0, .ref h)]) hx hb dX7_isKnown_15 hl (by decide) rfl (fun ls hl => ?_)
        have loop_17 : ∀ (fu : Nat) (y : Int) (k : Int), (0 ≤ k ∧ k ≤ 10) → ((y = 1 ∧ ∀ q, 0 ≤ q → q < k → ¬ pDF bs rs i q = true) ∨ (y = 0 ∧ ∃ q, 0 ≤ q ∧ q < k ∧ pDF bs rs i q = true)) → ((10 : Int) - k) < (fu : Int) → ∀ (ls : Array Slot), lv_has ls 5 [(4, .int (iI k)), (3, .int (iI y)), (2, .int (iI i)), (1, .int (iI x)), (0, .ref h)] → W p l e ({ frames := 0, cells := 0, slots := 0, locals := 0 }) s m ([.ref h] : List Value).toArray below meth cd s.heap [] 0 0 (MQ below (QcRead (iI (bi (¬ sc (pNB bs rs) (-1) (bn - 1 + 1 - 0).toNat 0 = -1))) ) ([.ref h] : List Value).toArray s 0 0 (fun _ => False)) (F0 m 17 ls []) := by
          intro fu
          induction fu with
          | zero => intro y k hk hY hfu; exfalso; omega
          | succ fu ih_17 =>
            intro y k hk hY hfu ls hl
            refine lv_iload hx hb dX7_isKnown_17 (lv_at hl 0 rfl) ?_
            refine lv_bipush (v := iI 10) hx hb dX7_isKnown_19 (by decide) ?_
            refine wk_icmp_ge (tgt := 62) hx hb dX7_isKnown_21 (by decide) (by omega) (fun c_2 => ?_) (fun c_2 => ?_)
            · skip
              have b1 := kn_x hX
              have b2 := kn_x2 hY
              refine lv_iload_n hx hb dX7_isKnown_62 rfl (lv_at hl 3 rfl) ?_
              refine wk_if_ne (tgt := 70) hx hb dX7_isKnown_63 (by decide) (by clear hX hY; omega) (fun c_3 => ?_) (fun c_3 => ?_)
              · skip
                refine lv_iconst (v := iI 1) hx hb dX7_isKnown_70 rfl ?_
                refine lv_goto (tgt := 75) hx hb dX7_isKnown_71 (by decide) ?_
                refine lv_istore_n (lv' := [(1, .int (iI 1)), (4, .int (iI k)), (3, .int (iI y)), (2, .int (iI i)), (0, .ref h)]) hx hb dX7_isKnown_75 rfl hl (by decide) rfl (fun ls hl => ?_)
                refine wk_iinc (k := 3) (lv' := [(2, .int (iI (i + 1))), (1, .int (iI 1)), (4, .int (iI k)), (3, .int (iI y)), (0, .ref h)]) hx hb dX7_isKnown_76 hl rfl (by decide) rfl (fun ls hl => ?_)
                refine lv_goto (tgt := 4) hx hb dX7_isKnown_79 (by decide) ?_
                exact ih_4 1 (i + 1) (by first | assumption | omega) (by exact kn_out hX hY (by clear hX hY; omega) (by clear hX hY; omega) (by clear hX hY; omega)) (by omega) ls (lv_sub hl [0, 1, 4] rfl)
              · skip
                refine lv_iload_n hx hb dX7_isKnown_66 rfl (lv_at hl 1 rfl) ?_
                refine wk_if_eq (tgt := 74) hx hb dX7_isKnown_67 (by decide) (by clear hX hY; omega) (fun c_4 => ?_) (fun c_4 => ?_)
                · skip
                  refine lv_iconst (v := iI 0) hx hb dX7_isKnown_74 rfl ?_
                  refine lv_istore_n (lv' := [(1, .int (iI 0)), (4, .int (iI k)), (3, .int (iI y)), (2, .int (iI i)), (0, .ref h)]) hx hb dX7_isKnown_75 rfl hl (by decide) rfl (fun ls hl => ?_)
                  refine wk_iinc (k := 3) (lv' := [(2, .int (iI (i + 1))), (1, .int (iI 0)), (4, .int (iI k)), (3, .int (iI y)), (0, .ref h)]) hx hb dX7_isKnown_76 hl rfl (by decide) rfl (fun ls hl => ?_)
                  refine lv_goto (tgt := 4) hx hb dX7_isKnown_79 (by decide) ?_
                  exact ih_4 0 (i + 1) (by first | assumption | omega) (by exact kn_out hX hY (by clear hX hY; omega) (by clear hX hY; omega) (by clear hX hY; omega)) (by omega) ls (lv_sub hl [0, 1, 4] rfl)
                · skip
                  refine lv_iconst (v := iI 1) hx hb dX7_isKnown_70 rfl ?_
                  refine lv_goto (tgt := 75) hx hb dX7_isKnown_71 (by decide) ?_
                  refine lv_istore_n (lv' := [(1, .int (iI 1)), (4, .int (iI k)), (3, .int (iI y)), (2, .int (iI i)), (0, .ref h)]) hx hb dX7_isKnown_75 rfl hl (by decide) rfl (fun ls hl => ?_)
                  refine wk_iinc (k := 3) (lv' := [(2, .int (iI (i + 1))), (1, .int (iI 1)), (4, .int (iI k)), (3, .int (iI y)), (0, .ref h)]) hx hb dX7_isKnown_76 hl rfl (by decide) rfl (fun ls hl => ?_)
                  refine lv_goto (tgt := 4) hx hb dX7_isKnown_79 (by decide) ?_
                  exact ih_4 1 (i + 1) (by first | assumption | omega) (by exact kn_out hX hY (by clear hX hY; omega) (by clear hX hY; omega) (by clear hX hY; omega)) (by omega) ls (lv_sub hl [0, 1, 4] rfl)
            · skip
              refine lv_iload_n hx hb dX7_isKnown_24 rfl (lv_at hl 1 rfl) ?_
              refine wk_if_eq (tgt := 54) hx hb dX7_isKnown_25 (by decide) (by have b2 := kn_x2 hY; clear hX hY; omega) (fun c_5 => ?_) (fun c_5 => ?_)
              · skip
                refine lv_iconst (v := iI 0) hx hb dX7_isKnown_54 rfl ?_
                refine lv_istore_n (lv' := [(3, .int (iI 0)), (4, .int (iI k)), (2, .int (iI i)), (1, .int (iI x)), (0, .ref h)]) hx hb dX7_isKnown_55 rfl hl (by decide) rfl (fun ls hl => ?_)
                refine wk_iinc (k := 1) (lv' := [(4, .int (iI (k + 1))), (3, .int (iI 0)), (2, .int (iI i)), (1, .int (iI x)), (0, .ref h)]) hx hb dX7_isKnown_56 hl rfl (by decide) rfl (fun ls hl => ?_)
                refine lv_goto (tgt := 17) hx hb dX7_isKnown_59 (by decide) ?_
                exact ih_17 0 (k + 1) (by first | assumption | omega) (by exact kn_in hY (by omega) (by omega)) (by omega) ls (lv_sub hl [0, 1, 2, 3, 4] rfl)
              · skip
                refine lv_aload_n hx hb dX7_isKnown_28 rfl (lv_at hl 4 rfl) ?_
                refine va_get (D := D) (ci := 7) (v := .ref hNu) (C := RX7) (T := TX7) (N := 25) hx hb hts (fun w h => (List.mem_cons_of_mem _ (hinX7 w h))) hown hK hP 0 rfl rfl 7 (by decide) (hts _ (List.mem_cons_of_mem _ wd_619)) (fun _ h9 => h9) rfl dX7_isKnown_29 ?_
                refine lv_bipush (v := iI 10) hx hb dX7_isKnown_32 (by decide) ?_
                refine lv_iload_n hx hb dX7_isKnown_34 rfl (lv_at hl 2 rfl) ?_
                refine wk_imul hx hb dX7_isKnown_35 ?_
                refine lv_iload hx hb dX7_isKnown_36 (lv_at hl 0 rfl) ?_
                refine wk_iadd hx hb dX7_isKnown_38 ?_
                refine wk_iald hx hb hK hP 2 0 rfl rfl (by decide) (by omega) dX7_isKnown_39 ?_
                have b_6 := hbs ((10 * i) + k)
                refine lv_aload_n hx hb dX7_isKnown_40 rfl (lv_at hl 4 rfl) ?_
                refine va_get (D := D) (ci := 7) (v := .ref hRo) (C := RX7) (T := TX7) (N := 25) hx hb hts (fun w h => (List.mem_cons_of_mem _ (hinX7 w h))) hown hK hP 0 rfl rfl 4 (by decide) (hts _ (List.mem_cons_of_mem _ wd_616)) (fun _ h9 => h9) rfl dX7_isKnown_41 ?_
                refine lv_iload hx hb dX7_isKnown_44 (lv_at hl 0 rfl) ?_
                refine wk_iald hx hb hK hP 1 0 rfl rfl (by decide) (by omega) dX7_isKnown_46 ?_
                have b_7 := hrs k
                refine wk_icmp_ne (tgt := 54) hx hb dX7_isKnown_47 (by decide) (by omega) (fun c_8 => ?_) (fun c_8 => ?_)
                · skip
                  refine lv_iconst (v := iI 0) hx hb dX7_isKnown_54 rfl ?_
                  refine lv_istore_n (lv' := [(3, .int (iI 0)), (4, .int (iI k)), (2, .int (iI i)), (1, .int (iI x)), (0, .ref h)]) hx hb dX7_isKnown_55 rfl hl (by decide) rfl (fun ls hl => ?_)
                  refine wk_iinc (k := 1) (lv' := [(4, .int (iI (k + 1))), (3, .int (iI 0)), (2, .int (iI i)), (1, .int (iI x)), (0, .ref h)]) hx hb dX7_isKnown_56 hl rfl (by decide) rfl (fun ls hl => ?_)
                  refine lv_goto (tgt := 17) hx hb dX7_isKnown_59 (by decide) ?_
                  exact ih_17 0 (k + 1) (by first | assumption | omega) (by exact kn_in hY (by omega) (by omega)) (by omega) ls (lv_sub hl [0, 1, 2, 3, 4] rfl)
                · skip
                  refine lv_iconst (v := iI 1) hx hb dX7_isKnown_50 rfl ?_
                  refine lv_goto (tgt := 55) hx hb dX7_isKnown_51 (by decide) ?_
                  refine lv_istore_n (lv' := [(3, .int (iI 1)), (4, .int (iI k)), (2, .int (iI i)), (1, .int (iI x)), (0, .ref h)]) hx hb dX7_isKnown_55 rfl hl (by decide) rfl (fun ls hl => ?_)
                  refine wk_iinc (k := 1) (lv' := [(4, .int (iI (k + 1))), (3, .int (iI 1)), (2, .int (iI i)), (1, .int (iI x)), (0, .ref h)]) hx hb dX7_isKnown_56 hl rfl (by decide) rfl (fun ls hl => ?_)
                  refine lv_goto (tgt := 17) hx hb dX7_isKnown_59 (by decide) ?_
                  exact ih_17 1 (k + 1) (by first | assumption | omega) (by exact kn_in hY (by omega) (by omega)) (by omega) ls (lv_sub hl [0, 1, 2, 3, 4] rfl)
        exact loop_17 ((10 : Int) - 0).toNat.succ 1 0 (by first | assumption | rfl | omega) (by exact Or.inl ⟨rfl, fun q h1 h2 => by omega⟩) (by omega) ls (lv_sub hl [0, 1, 2, 3, 4] rfl)
  exact loop_4 (bn - 0).toNat.succ 0 0 (by first | assumption | rfl | omega) (by exact Or.inr ⟨rfl, fun j h1 h2 => by omega⟩) (by omega) ls (lv_sub hl [0, 1, 2] rfl)

set_option maxHeartbeats 4000000 in
set_option maxRecDepth 100000 in
theorem tX7_box_1 (l : Launch) (D : va_G) (kI : ClassId) (kZ : ClassId) (kL : ClassId) (kJ : ClassId) (h : Nat) (hRo : Nat) (hNu : Nat) (hWe : Nat) (hDa : Nat) (hVe : Nat) (hSl : Nat) (hTr : Nat) (hBx : Nat) (hSt : Nat) (hLa : Nat) (hOr : Nat) (hSi : Nat) (hTu : Nat) (th : Int) (sn : Int) (sm : Int) (nw : Int) (rn : Int) (bn : Int) (kn : Int) (cm : Int) (al : Int) (lg : Int) (tt : Int) (dn : Int) (wt : Int) (dg : Int) (sz : Nat) (hrn : 0 ≤ rn ∧ rn ≤ 11) (hwt : -2147483648 ≤ wt ∧ wt ≤ 2147483647) (h1 : ¬ rn = 11 ∨ ¬ (1 ≤ wt ∧ wt ≤ 100000)) : CtI l yX7_box wsX7_box ({ frames := 1, cells := 0, slots := 0, locals := 21 }) D vwCl (tyL kI kZ kL kJ) [(h, .inr (7, [.int (iI th), .int (iI sn), .int (iI sm), .int (iI nw), .ref hRo, .int (iI rn), .int (iI bn), .ref hNu, .ref hWe, .ref hDa, .ref hVe, .int (iI kn), .ref hSl, .ref hTr, .ref hBx, .ref hSt, .ref hLa, .ref hOr, .ref hSi, .ref hTu, .int (iI cm), .int (iI al), .int (iI lg), .int (iI tt), .int (iI dn)]))] [.ref h, .int (iI wt), .int (iI dg)] (iI 0) [(h, .inr (7, [.int (iI 1), .int (iI sn), .int (iI sm), .int (iI nw), .ref hRo, .int (iI rn), .int (iI bn), .ref hNu, .ref hWe, .ref hDa, .ref hVe, .int (iI kn), .ref hSl, .ref hTr, .ref hBx, .ref hSt, .ref hLa, .ref hOr, .ref hSi, .ref hTu, .int (iI cm), .int (iI al), .int (iI lg), .int (iI tt), .int (iI dn)]))] sz := by
  refine ck_start (Qc := fun A => cQi D vwCl (tyL kI kZ kL kJ) A (iI 0) [(h, .inr (7, [.int (iI 1), .int (iI sn), .int (iI sm), .int (iI nw), .ref hRo, .int (iI rn), .int (iI bn), .ref hNu, .ref hWe, .ref hDa, .ref hVe, .int (iI kn), .ref hSl, .ref hTr, .ref hBx, .ref hSt, .ref hLa, .ref hOr, .ref hSi, .ref hTu, .int (iI cm), .int (iI al), .int (iI lg), .int (iI tt), .int (iI dn)]))]) (cc := cX7_box) (maxL := 4) (ret := (some .int)) (LV := [(0, .ref h), (1, .int (iI wt)), (2, .int (iI dg))]) (by decide) rfl rfl (Nat.le_of_ble_eq_true rfl) ?_
  intro p e s m below meth cd hadm hx hb hr hml hts hown hlocks hname hnoh hxT A hA hK hP hD hS ls hl
  refine lv_aload_n hx hb dX7_box_0 rfl (lv_at hl 0 rfl) ?_
  refine va_get (D := D) (ci := 7) (v := .int (iI rn)) (C := RX7) (T := TX7) (N := 25) hx hb hts (fun w h => (List.mem_cons_of_mem _ (hinX7 w h))) hown hK hP 0 rfl rfl 5 (by decide) (hts _ (List.mem_cons_of_mem _ wd_617)) (fun _ h9 => h9) rfl dX7_box_1 ?_
  refine lv_bipush (v := iI 11) hx hb dX7_box_4 (by decide) ?_
  refine wk_icmp_lt (tgt := 20) hx hb dX7_box_6 (by decide) (by omega) (fun c_1 => ?_) (fun c_1 => ?_)
  · skip
    refine lv_aload_n hx hb dX7_box_20 rfl (lv_at hl 0 rfl) ?_
    refine lv_iconst (v := iI 1) hx hb dX7_box_21 rfl ?_
    refine ck_backI (va_runV (As := [.int (iI 1)]) (rest := []) ⟨hx, hb, hml, hown, hts⟩ (tX7_fails l D kI kZ kL kJ h hRo hNu hWe hDa hVe hSl hTr hBx hSt hLa hOr hSi hTu th sn sm nw rn bn kn cm al lg tt dn 1 s.heap.size ) (cwV 1 hts (gd_V tb_cons wd_702 wd_704 wd_18 wd_41 wd_705) rfl rfl rfl (by decide +kernel) ⟨Nat.le_of_ble_eq_true rfl, Nat.le_of_ble_eq_true rfl⟩) (ck_preV hxT hK hP hD [0] rfl (by decide) (q0 := 0) rfl rfl rfl) rfl rfl hl.1 rfl (lv_room (Nat.le_of_ble_eq_true rfl)) dX7_box_22 ⟨Nat.zero_le _, Nat.zero_le _⟩) hP hD hS hA [0] [] (WR := []) rfl rfl (by decide) (by decide) (ws' := [(h, .inr (7, [.int (iI 1), .int (iI sn), .int (iI sm), .int (iI nw), .ref hRo, .int (iI rn), .int (iI bn), .ref hNu, .ref hWe, .ref hDa, .ref hVe, .int (iI kn), .ref hSl, .ref hTr, .ref hBx, .ref hSt, .ref hLa, .ref hOr, .ref hSi, .ref hTu, .int (iI cm), .int (iI al), .int (iI lg), .int (iI tt), .int (iI dn)]))]) rfl (fun H locs hP hD hS => ?_)
    exact rk_int hx hb hr hlocks hK hP hD hS (by first | rfl | omega) rfl dX7_box_25
  · skip
    refine lv_iload_n hx hb dX7_box_9 rfl (lv_at hl 1 rfl) ?_
    refine lv_iconst (v := iI 1) hx hb dX7_box_10 rfl ?_
    refine wk_icmp_lt (tgt := 20) hx hb dX7_box_11 (by decide) (by omega) (fun c_2 => ?_) (fun c_2 => ?_)
    · skip
      refine lv_aload_n hx hb dX7_box_20 rfl (lv_at hl 0 rfl) ?_
      refine lv_iconst (v := iI 1) hx hb dX7_box_21 rfl ?_
      refine ck_backI (va_runV (As := [.int (iI 1)]) (rest := []) ⟨hx, hb, hml, hown, hts⟩ (tX7_fails l D kI kZ kL kJ h hRo hNu hWe hDa hVe hSl hTr hBx hSt hLa hOr hSi hTu th sn sm nw rn bn kn cm al lg tt dn 1 s.heap.size ) (cwV 1 hts (gd_V tb_cons wd_702 wd_704 wd_18 wd_41 wd_705) rfl rfl rfl (by decide +kernel) ⟨Nat.le_of_ble_eq_true rfl, Nat.le_of_ble_eq_true rfl⟩) (ck_preV hxT hK hP hD [0] rfl (by decide) (q0 := 0) rfl rfl rfl) rfl rfl hl.1 rfl (lv_room (Nat.le_of_ble_eq_true rfl)) dX7_box_22 ⟨Nat.zero_le _, Nat.zero_le _⟩) hP hD hS hA [0] [] (WR := []) rfl rfl (by decide) (by decide) (ws' := [(h, .inr (7, [.int (iI 1), .int (iI sn), .int (iI sm), .int (iI nw), .ref hRo, .int (iI rn), .int (iI bn), .ref hNu, .ref hWe, .ref hDa, .ref hVe, .int (iI kn), .ref hSl, .ref hTr, .ref hBx, .ref hSt, .ref hLa, .ref hOr, .ref hSi, .ref hTu, .int (iI cm), .int (iI al), .int (iI lg), .int (iI tt), .int (iI dn)]))]) rfl (fun H locs hP hD hS => ?_)
      exact rk_int hx hb hr hlocks hK hP hD hS (by first | rfl | omega) rfl dX7_box_25
    · skip
      refine lv_iload_n hx hb dX7_box_14 rfl (lv_at hl 1 rfl) ?_
      refine lv_ldc (v := 100000) hx hb hown (hts _ (List.mem_cons_of_mem _ wd_722)) dX7_box_15 ?_
      refine wk_eqi (show (100000 : Int32) = iI 100000 by decide) ?_
      refine wk_icmp_le (tgt := 26) hx hb dX7_box_17 (by decide) (by omega) (fun c_3 => ?_) (fun c_3 => ?_)
      · skip
        exfalso; omega
      · skip
        refine lv_aload_n hx hb dX7_box_20 rfl (lv_at hl 0 rfl) ?_
        refine lv_iconst (v := iI 1) hx hb dX7_box_21 rfl ?_
        refine ck_backI (va_runV (As := [.int (iI 1)]) (rest := []) ⟨hx, hb, hml, hown, hts⟩ (tX7_fails l D kI kZ kL kJ h hRo hNu hWe hDa hVe hSl hTr hBx hSt hLa hOr hSi hTu th sn sm nw rn bn kn cm al lg tt dn 1 s.heap.size ) (cwV 1 hts (gd_V tb_cons wd_702 wd_704 wd_18 wd_41 wd_705) rfl rfl rfl (by decide +kernel) ⟨Nat.le_of_ble_eq_true rfl, Nat.le_of_ble_eq_true rfl⟩) (ck_preV hxT hK hP hD [0] rfl (by decide) (q0 := 0) rfl rfl rfl) rfl rfl hl.1 rfl (lv_room (Nat.le_of_ble_eq_true rfl)) dX7_box_22 ⟨Nat.zero_le _, Nat.zero_le _⟩) hP hD hS hA [0] [] (WR := []) rfl rfl (by decide) (by decide) (ws' := [(h, .inr (7, [.int (iI 1), .int (iI sn), .int (iI sm), .int (iI nw), .ref hRo, .int (iI rn), .int (iI bn), .ref hNu, .ref hWe, .ref hDa, .ref hVe, .int (iI kn), .ref hSl, .ref hTr, .ref hBx, .ref hSt, .ref hLa, .ref hOr, .ref hSi, .ref hTu, .int (iI cm), .int (iI al), .int (iI lg), .int (iI tt), .int (iI dn)]))]) rfl (fun H locs hP hD hS => ?_)
        exact rk_int hx hb hr hlocks hK hP hD hS (by first | rfl | omega) rfl dX7_box_25

set_option maxHeartbeats 4000000 in
set_option maxRecDepth 100000 in
theorem tX7_box_2 (l : Launch) (D : va_G) (kI : ClassId) (kZ : ClassId) (kL : ClassId) (kJ : ClassId) (h : Nat) (hRo : Nat) (hNu : Nat) (hWe : Nat) (hDa : Nat) (hVe : Nat) (hSl : Nat) (hTr : Nat) (hBx : Nat) (hSt : Nat) (hLa : Nat) (hOr : Nat) (hSi : Nat) (hTu : Nat) (th : Int) (sn : Int) (sm : Int) (nw : Int) (rn : Int) (bn : Int) (kn : Int) (cm : Int) (al : Int) (lg : Int) (tt : Int) (dn : Int) (wt : Int) (dg : Int) (sz : Nat) (h1 : rn = 11) (hwt : 1 ≤ wt ∧ wt ≤ 100000) (h2 : bn = 20) : CtI l yX7_box wsX7_box ({ frames := 1, cells := 0, slots := 0, locals := 21 }) D vwCl (tyL kI kZ kL kJ) [(h, .inr (7, [.int (iI th), .int (iI sn), .int (iI sm), .int (iI nw), .ref hRo, .int (iI rn), .int (iI bn), .ref hNu, .ref hWe, .ref hDa, .ref hVe, .int (iI kn), .ref hSl, .ref hTr, .ref hBx, .ref hSt, .ref hLa, .ref hOr, .ref hSi, .ref hTu, .int (iI cm), .int (iI al), .int (iI lg), .int (iI tt), .int (iI dn)]))] [.ref h, .int (iI wt), .int (iI dg)] (iI 0) [(h, .inr (7, [.int (iI 2), .int (iI sn), .int (iI sm), .int (iI nw), .ref hRo, .int (iI rn), .int (iI bn), .ref hNu, .ref hWe, .ref hDa, .ref hVe, .int (iI kn), .ref hSl, .ref hTr, .ref hBx, .ref hSt, .ref hLa, .ref hOr, .ref hSi, .ref hTu, .int (iI cm), .int (iI al), .int (iI lg), .int (iI tt), .int (iI dn)]))] sz := by
  refine ck_start (Qc := fun A => cQi D vwCl (tyL kI kZ kL kJ) A (iI 0) [(h, .inr (7, [.int (iI 2), .int (iI sn), .int (iI sm), .int (iI nw), .ref hRo, .int (iI rn), .int (iI bn), .ref hNu, .ref hWe, .ref hDa, .ref hVe, .int (iI kn), .ref hSl, .ref hTr, .ref hBx, .ref hSt, .ref hLa, .ref hOr, .ref hSi, .ref hTu, .int (iI cm), .int (iI al), .int (iI lg), .int (iI tt), .int (iI dn)]))]) (cc := cX7_box) (maxL := 4) (ret := (some .int)) (LV := [(0, .ref h), (1, .int (iI wt)), (2, .int (iI dg))]) (by decide) rfl rfl (Nat.le_of_ble_eq_true rfl) ?_
  intro p e s m below meth cd hadm hx hb hr hml hts hown hlocks hname hnoh hxT A hA hK hP hD hS ls hl
  refine lv_aload_n hx hb dX7_box_0 rfl (lv_at hl 0 rfl) ?_
  refine va_get (D := D) (ci := 7) (v := .int (iI rn)) (C := RX7) (T := TX7) (N := 25) hx hb hts (fun w h => (List.mem_cons_of_mem _ (hinX7 w h))) hown hK hP 0 rfl rfl 5 (by decide) (hts _ (List.mem_cons_of_mem _ wd_617)) (fun _ h9 => h9) rfl dX7_box_1 ?_
  refine lv_bipush (v := iI 11) hx hb dX7_box_4 (by decide) ?_
  refine wk_icmp_lt (tgt := 20) hx hb dX7_box_6 (by decide) (by omega) (fun c_1 => ?_) (fun c_1 => ?_)
  · skip
    exfalso; omega
  · skip
    refine lv_iload_n hx hb dX7_box_9 rfl (lv_at hl 1 rfl) ?_
    refine lv_iconst (v := iI 1) hx hb dX7_box_10 rfl ?_
    refine wk_icmp_lt (tgt := 20) hx hb dX7_box_11 (by decide) (by omega) (fun c_2 => ?_) (fun c_2 => ?_)
    · skip
      exfalso; omega
    · skip
      refine lv_iload_n hx hb dX7_box_14 rfl (lv_at hl 1 rfl) ?_
      refine lv_ldc (v := 100000) hx hb hown (hts _ (List.mem_cons_of_mem _ wd_722)) dX7_box_15 ?_
      refine wk_eqi (show (100000 : Int32) = iI 100000 by decide) ?_
      refine wk_icmp_le (tgt := 26) hx hb dX7_box_17 (by decide) (by omega) (fun c_3 => ?_) (fun c_3 => ?_)
      · skip
        refine lv_aload_n hx hb dX7_box_26 rfl (lv_at hl 0 rfl) ?_
        refine va_get (D := D) (ci := 7) (v := .int (iI bn)) (C := RX7) (T := TX7) (N := 25) hx hb hts (fun w h => (List.mem_cons_of_mem _ (hinX7 w h))) hown hK hP 0 rfl rfl 6 (by decide) (hts _ (List.mem_cons_of_mem _ wd_618)) (fun _ h9 => h9) rfl dX7_box_27 ?_
        refine lv_bipush (v := iI 20) hx hb dX7_box_30 (by decide) ?_
        refine wk_icmp_ne (tgt := 41) hx hb dX7_box_32 (by decide) (by omega) (fun c_4 => ?_) (fun c_4 => ?_)
        · skip
          exfalso; omega
        · skip
          refine lv_aload_n hx hb dX7_box_35 rfl (lv_at hl 0 rfl) ?_
          refine lv_iconst (v := iI 2) hx hb dX7_box_36 rfl ?_
          refine ck_backI (va_runV (As := [.int (iI 2)]) (rest := []) ⟨hx, hb, hml, hown, hts⟩ (tX7_fails l D kI kZ kL kJ h hRo hNu hWe hDa hVe hSl hTr hBx hSt hLa hOr hSi hTu th sn sm nw rn bn kn cm al lg tt dn 2 s.heap.size ) (cwV 1 hts (gd_V tb_cons wd_702 wd_704 wd_18 wd_41 wd_705) rfl rfl rfl (by decide +kernel) ⟨Nat.le_of_ble_eq_true rfl, Nat.le_of_ble_eq_true rfl⟩) (ck_preV hxT hK hP hD [0] rfl (by decide) (q0 := 0) rfl rfl rfl) rfl rfl hl.1 rfl (lv_room (Nat.le_of_ble_eq_true rfl)) dX7_box_37 ⟨Nat.zero_le _, Nat.zero_le _⟩) hP hD hS hA [0] [] (WR := []) rfl rfl (by decide) (by decide) (ws' := [(h, .inr (7, [.int (iI 2), .int (iI sn), .int (iI sm), .int (iI nw), .ref hRo, .int (iI rn), .int (iI bn), .ref hNu, .ref hWe, .ref hDa, .ref hVe, .int (iI kn), .ref hSl, .ref hTr, .ref hBx, .ref hSt, .ref hLa, .ref hOr, .ref hSi, .ref hTu, .int (iI cm), .int (iI al), .int (iI lg), .int (iI tt), .int (iI dn)]))]) rfl (fun H locs hP hD hS => ?_)
          exact rk_int hx hb hr hlocks hK hP hD hS (by first | rfl | omega) rfl dX7_box_40
      · skip
        exfalso; omega

set_option maxHeartbeats 4000000 in
set_option maxRecDepth 100000 in
theorem tX7_box_n (l : Launch) (D : va_G) (kI : ClassId) (kZ : ClassId) (kL : ClassId) (kJ : ClassId) (h : Nat) (hRo : Nat) (hNu : Nat) (hWe : Nat) (hDa : Nat) (hVe : Nat) (hSl : Nat) (hTr : Nat) (hBx : Nat) (hSt : Nat) (hLa : Nat) (hOr : Nat) (hSi : Nat) (hTu : Nat) (rs : Int → Int) (bs : Int → Int) (th : Int) (sn : Int) (sm : Int) (nw : Int) (rn : Int) (bn : Int) (kn : Int) (cm : Int) (al : Int) (lg : Int) (tt : Int) (dn : Int) (wt : Int) (dg : Int) (sz : Nat) (hrn : rn = 11) (hwt : 1 ≤ wt ∧ wt ≤ 100000) (hbn : 0 ≤ bn ∧ bn ≤ 20) (hb2 : bn < 20) (hrs : ∀ j, 0 ≤ rs j ∧ rs j ≤ 1000000) (hws : ∀ j, 0 ≤ j → j < 10 → 0 ≤ wrt (rs j) ∧ wrt (rs j) ≤ 26) (hbs : ∀ j, 0 ≤ bs j ∧ bs j ≤ 1000000) (h4 : ¬ (rs 10 = 65 + ckS rs 10 % 26 ∧ ¬ ¬ sc (pNB bs rs) (-1) (bn - 1 + 1 - 0).toNat 0 = -1)) : CtI l yX7_box wsX7_box ({ frames := 2, cells := 0, slots := 0, locals := 42 }) D vwCl (tyL kI kZ kL kJ) [(h, .inr (7, [.int (iI th), .int (iI sn), .int (iI sm), .int (iI nw), .ref hRo, .int (iI rn), .int (iI bn), .ref hNu, .ref hWe, .ref hDa, .ref hVe, .int (iI kn), .ref hSl, .ref hTr, .ref hBx, .ref hSt, .ref hLa, .ref hOr, .ref hSi, .ref hTu, .int (iI cm), .int (iI al), .int (iI lg), .int (iI tt), .int (iI dn)])), (hRo, .inl (kI, 11, .inl (iF rs))), (hNu, .inl (kI, 200, .inl (iF bs)))] [.ref h, .int (iI wt), .int (iI dg)] (iI (-1)) [(h, .inr (7, [.int (iI 0), .int (iI sn), .int (iI sm), .int (iI nw), .ref hRo, .int (iI 0), .int (iI bn), .ref hNu, .ref hWe, .ref hDa, .ref hVe, .int (iI kn), .ref hSl, .ref hTr, .ref hBx, .ref hSt, .ref hLa, .ref hOr, .ref hSi, .ref hTu, .int (iI cm), .int (iI al), .int (iI lg), .int (iI tt), .int (iI dn)])), (hRo, .inl (kI, 11, .inl (iF rs))), (hNu, .inl (kI, 200, .inl (iF bs)))] sz := by
  refine ck_start (Qc := fun A => cQi D vwCl (tyL kI kZ kL kJ) A (iI (-1)) [(h, .inr (7, [.int (iI 0), .int (iI sn), .int (iI sm), .int (iI nw), .ref hRo, .int (iI 0), .int (iI bn), .ref hNu, .ref hWe, .ref hDa, .ref hVe, .int (iI kn), .ref hSl, .ref hTr, .ref hBx, .ref hSt, .ref hLa, .ref hOr, .ref hSi, .ref hTu, .int (iI cm), .int (iI al), .int (iI lg), .int (iI tt), .int (iI dn)])), (hRo, .inl (kI, 11, .inl (iF rs))), (hNu, .inl (kI, 200, .inl (iF bs)))]) (cc := cX7_box) (maxL := 4) (ret := (some .int)) (LV := [(0, .ref h), (1, .int (iI wt)), (2, .int (iI dg))]) (by decide) rfl rfl (Nat.le_of_ble_eq_true rfl) ?_
  intro p e s m below meth cd hadm hx hb hr hml hts hown hlocks hname hnoh hxT A hA hK hP hD hS ls hl
  refine lv_aload_n hx hb dX7_box_0 rfl (lv_at hl 0 rfl) ?_
  refine va_get (D := D) (ci := 7) (v := .int (iI rn)) (C := RX7) (T := TX7) (N := 25) hx hb hts (fun w h => (List.mem_cons_of_mem _ (hinX7 w h))) hown hK hP 0 rfl rfl 5 (by decide) (hts _ (List.mem_cons_of_mem _ wd_617)) (fun _ h9 => h9) rfl dX7_box_1 ?_
  refine lv_bipush (v := iI 11) hx hb dX7_box_4 (by decide) ?_
  refine wk_icmp_lt (tgt := 20) hx hb dX7_box_6 (by decide) (by omega) (fun c_1 => ?_) (fun c_1 => ?_)
  · skip
    exfalso; omega
  · skip
    refine lv_iload_n hx hb dX7_box_9 rfl (lv_at hl 1 rfl) ?_
    refine lv_iconst (v := iI 1) hx hb dX7_box_10 rfl ?_
    refine wk_icmp_lt (tgt := 20) hx hb dX7_box_11 (by decide) (by omega) (fun c_2 => ?_) (fun c_2 => ?_)
    · skip
      exfalso; omega
    · skip
      refine lv_iload_n hx hb dX7_box_14 rfl (lv_at hl 1 rfl) ?_
      refine lv_ldc (v := 100000) hx hb hown (hts _ (List.mem_cons_of_mem _ wd_722)) dX7_box_15 ?_
      refine wk_eqi (show (100000 : Int32) = iI 100000 by decide) ?_
      refine wk_icmp_le (tgt := 26) hx hb dX7_box_17 (by decide) (by omega) (fun c_3 => ?_) (fun c_3 => ?_)
      · skip
        refine lv_aload_n hx hb dX7_box_26 rfl (lv_at hl 0 rfl) ?_
        refine va_get (D := D) (ci := 7) (v := .int (iI bn)) (C := RX7) (T := TX7) (N := 25) hx hb hts (fun w h => (List.mem_cons_of_mem _ (hinX7 w h))) hown hK hP 0 rfl rfl 6 (by decide) (hts _ (List.mem_cons_of_mem _ wd_618)) (fun _ h9 => h9) rfl dX7_box_27 ?_
        refine lv_bipush (v := iI 20) hx hb dX7_box_30 (by decide) ?_
        refine wk_icmp_ne (tgt := 41) hx hb dX7_box_32 (by decide) (by omega) (fun c_4 => ?_) (fun c_4 => ?_)
        · skip
          refine lv_aload_n hx hb dX7_box_41 rfl (lv_at hl 0 rfl) ?_
          refine lv_iconst (v := iI 0) hx hb dX7_box_42 rfl ?_
          refine wk_put (ci := 7) (C := RX7) (T := TX7) (N := 25) hx hb hts (fun w h => (List.mem_cons_of_mem _ (hinX7 w h))) tyX7 tyX7_ok nmX7 hown hK hP hD hS 0 rfl rfl 0 (by decide) (hts _ (List.mem_cons_of_mem _ wd_612)) (fun _ h9 => h9) rfl rfl (Nat.le_of_ble_eq_true rfl) dX7_box_43 (ws' := [(h, .inr (7, [.int (iI 0), .int (iI sn), .int (iI sm), .int (iI nw), .ref hRo, .int (iI rn), .int (iI bn), .ref hNu, .ref hWe, .ref hDa, .ref hVe, .int (iI kn), .ref hSl, .ref hTr, .ref hBx, .ref hSt, .ref hLa, .ref hOr, .ref hSi, .ref hTu, .int (iI cm), .int (iI al), .int (iI lg), .int (iI tt), .int (iI dn)])), (hRo, .inl (kI, 11, .inl (iF rs))), (hNu, .inl (kI, 200, .inl (iF bs)))]) rfl (fun H locs hP hD hS => ?_)
          refine lv_aload_n hx hb dX7_box_46 rfl (lv_at hl 0 rfl) ?_
          refine lv_iconst (v := iI 0) hx hb dX7_box_47 rfl ?_
          refine wk_put (ci := 7) (C := RX7) (T := TX7) (N := 25) hx hb hts (fun w h => (List.mem_cons_of_mem _ (hinX7 w h))) tyX7 tyX7_ok nmX7 hown hK hP hD hS 0 rfl rfl 5 (by decide) (hts _ (List.mem_cons_of_mem _ wd_617)) (fun _ h9 => h9) rfl rfl (Nat.le_of_ble_eq_true rfl) dX7_box_48 (ws' := [(h, .inr (7, [.int (iI 0), .int (iI sn), .int (iI sm), .int (iI nw), .ref hRo, .int (iI 0), .int (iI bn), .ref hNu, .ref hWe, .ref hDa, .ref hVe, .int (iI kn), .ref hSl, .ref hTr, .ref hBx, .ref hSt, .ref hLa, .ref hOr, .ref hSi, .ref hTu, .int (iI cm), .int (iI al), .int (iI lg), .int (iI tt), .int (iI dn)])), (hRo, .inl (kI, 11, .inl (iF rs))), (hNu, .inl (kI, 200, .inl (iF bs)))]) rfl (fun H locs hP hD hS => ?_)
          refine lv_aload_n hx hb dX7_box_51 rfl (lv_at hl 0 rfl) ?_
          refine va_get (D := D) (ci := 7) (v := .ref hRo) (C := RX7) (T := TX7) (N := 25) hx hb hts (fun w h => (List.mem_cons_of_mem _ (hinX7 w h))) hown hK hP 0 rfl rfl 4 (by decide) (hts _ (List.mem_cons_of_mem _ wd_616)) (fun _ h9 => h9) rfl dX7_box_52 ?_
          refine lv_bipush (v := iI 10) hx hb dX7_box_55 (by decide) ?_
          refine wk_iald hx hb hK hP 1 0 rfl rfl (by decide) (by omega) dX7_box_57 ?_
          have b_5 := hrs 10
          refine lv_aload_n hx hb dX7_box_58 rfl (lv_at hl 0 rfl) ?_
          refine pk_callI (va_runV (As := []) (rest := [.int (iI (rs 10))]) ⟨hx, hb, hml, hown, hts⟩ (tX7_checkLetter l D kI kZ kL kJ h hRo hNu hWe hDa hVe hSl hTr hBx hSt hLa hOr hSi hTu rs 0 sn sm nw 0 bn kn cm al lg tt dn H.size (by first | assumption | omega) (by first | assumption | omega)) (cwV 0 hts (gd_V tb_cons wd_714 wd_716 wd_19 wd_41 wd_717) rfl rfl rfl (by decide +kernel) ⟨Nat.le_of_ble_eq_true rfl, Nat.le_of_ble_eq_true rfl⟩) (ck_preV hxT hK hP hD [0, 1] rfl (by decide) (q0 := 0) rfl rfl rfl) rfl rfl hl.1 rfl (lv_room (Nat.le_of_ble_eq_true rfl)) dX7_box_59 ⟨Nat.zero_le _, Nat.zero_le _⟩) ?_
          refine wk_icmp_ne (tgt := 72) hx hb dX7_box_62 (by decide) (by omega) (fun c_6 => ?_) (fun c_6 => ?_)
          · skip
            refine lv_iconst (v := iI (-1)) hx hb dX7_box_72 rfl ?_
            exact rk_int hx hb hr hlocks hK hP hD hS (by first | rfl | omega) rfl dX7_box_73
          · skip
            refine lv_aload_n hx hb dX7_box_65 rfl (lv_at hl 0 rfl) ?_
            refine pk_callI (va_runV (As := []) (rest := []) ⟨hx, hb, hml, hown, hts⟩ (tX7_isKnown l D kI kZ kL kJ h hRo hNu hWe hDa hVe hSl hTr hBx hSt hLa hOr hSi hTu rs bs 0 sn sm nw 0 bn kn cm al lg tt dn H.size (by first | assumption | omega) (by first | assumption | omega) (by first | assumption | omega)) (cwV 0 hts (gd_V tb_cons wd_723 wd_725 wd_20 wd_41 wd_726) rfl rfl rfl (by decide +kernel) ⟨Nat.le_of_ble_eq_true rfl, Nat.le_of_ble_eq_true rfl⟩) (ck_preV hxT hK hP hD [0, 1, 2] rfl (by decide) (q0 := 0) rfl rfl rfl) rfl rfl hl.1 rfl (lv_room (Nat.le_of_ble_eq_true rfl)) dX7_box_66 ⟨Nat.zero_le _, Nat.zero_le _⟩) ?_
            refine wk_bif_eq (tgt := 74) hx hb dX7_box_69 (by decide) (fun c_7 => ?_) (fun c_7 => ?_)
            · skip
              exfalso; omega
            · skip
              refine lv_iconst (v := iI (-1)) hx hb dX7_box_72 rfl ?_
              exact rk_int hx hb hr hlocks hK hP hD hS (by first | rfl | omega) rfl dX7_box_73
        · skip
          exfalso; omega
      · skip
        exfalso; omega

set_option maxHeartbeats 4000000 in
set_option maxRecDepth 100000 in
theorem tX7_box_a (l : Launch) (D : va_G) (kI : ClassId) (kZ : ClassId) (kL : ClassId) (kJ : ClassId) (h : Nat) (hRo : Nat) (hNu : Nat) (hWe : Nat) (hDa : Nat) (hVe : Nat) (hSl : Nat) (hTr : Nat) (hBx : Nat) (hSt : Nat) (hLa : Nat) (hOr : Nat) (hSi : Nat) (hTu : Nat) (rs : Int → Int) (bs : Int → Int) (bw : Int → Int) (bd : Int → Int) (th : Int) (sn : Int) (sm : Int) (nw : Int) (rn : Int) (bn : Int) (kn : Int) (cm : Int) (al : Int) (lg : Int) (tt : Int) (dn : Int) (wt : Int) (dg : Int) (sz : Nat) (hrn : rn = 11) (hwt : 1 ≤ wt ∧ wt ≤ 100000) (hbn : 0 ≤ bn ∧ bn ≤ 20) (hb2 : bn < 20) (hrs : ∀ j, 0 ≤ rs j ∧ rs j ≤ 1000000) (hws : ∀ j, 0 ≤ j → j < 10 → 0 ≤ wrt (rs j) ∧ wrt (rs j) ≤ 26) (hbs : ∀ j, 0 ≤ bs j ∧ bs j ≤ 1000000) (hdg : dg = 0 ∨ dg = 1) (h4 : rs 10 = 65 + ckS rs 10 % 26) (h5 : sc (pNB bs rs) (-1) (bn - 1 + 1 - 0).toNat 0 = -1) : CtI l yX7_box wsX7_box ({ frames := 2, cells := 0, slots := 0, locals := 42 }) D vwCl (tyL kI kZ kL kJ) [(h, .inr (7, [.int (iI th), .int (iI sn), .int (iI sm), .int (iI nw), .ref hRo, .int (iI rn), .int (iI bn), .ref hNu, .ref hWe, .ref hDa, .ref hVe, .int (iI kn), .ref hSl, .ref hTr, .ref hBx, .ref hSt, .ref hLa, .ref hOr, .ref hSi, .ref hTu, .int (iI cm), .int (iI al), .int (iI lg), .int (iI tt), .int (iI dn)])), (hRo, .inl (kI, 11, .inl (iF rs))), (hNu, .inl (kI, 200, .inl (iF bs))), (hWe, .inl (kI, 20, .inl (iF bw))), (hDa, .inl (kZ, 20, .inl (iF bd)))] [.ref h, .int (iI wt), .int (iI dg)] (iI bn) [(h, .inr (7, [.int (iI 0), .int (iI sn), .int (iI sm), .int (iI nw), .ref hRo, .int (iI 0), .int (iI (bn + 1)), .ref hNu, .ref hWe, .ref hDa, .ref hVe, .int (iI kn), .ref hSl, .ref hTr, .ref hBx, .ref hSt, .ref hLa, .ref hOr, .ref hSi, .ref hTu, .int (iI cm), .int (iI al), .int (iI lg), .int (iI tt), .int (iI dn)])), (hRo, .inl (kI, 11, .inl (iF rs))), (hNu, .inl (kI, 200, .inl (iF (cpN bs (bn * 10) rs 10)))), (hWe, .inl (kI, 20, .inl (iF (iu bw bn wt)))), (hDa, .inl (kZ, 20, .inl (iF (iu bd bn dg))))] sz := by
  refine ck_start (Qc := fun A => cQi D vwCl (tyL kI kZ kL kJ) A (iI bn) [(h, .inr (7, [.int (iI 0), .int (iI sn), .int (iI sm), .int (iI nw), .ref hRo, .int (iI 0), .int (iI (bn + 1)), .ref hNu, .ref hWe, .ref hDa, .ref hVe, .int (iI kn), .ref hSl, .ref hTr, .ref hBx, .ref hSt, .ref hLa, .ref hOr, .ref hSi, .ref hTu, .int (iI cm), .int (iI al), .int (iI lg), .int (iI tt), .int (iI dn)])), (hRo, .inl (kI, 11, .inl (iF rs))), (hNu, .inl (kI, 200, .inl (iF (cpN bs (bn * 10) rs 10)))), (hWe, .inl (kI, 20, .inl (iF (iu bw bn wt)))), (hDa, .inl (kZ, 20, .inl (iF (iu bd bn dg))))]) (cc := cX7_box) (maxL := 4) (ret := (some .int)) (LV := [(0, .ref h), (1, .int (iI wt)), (2, .int (iI dg))]) (by decide) rfl rfl (Nat.le_of_ble_eq_true rfl) ?_
  intro p e s m below meth cd hadm hx hb hr hml hts hown hlocks hname hnoh hxT A hA hK hP hD hS ls hl
  refine lv_aload_n hx hb dX7_box_0 rfl (lv_at hl 0 rfl) ?_
  refine va_get (D := D) (ci := 7) (v := .int (iI rn)) (C := RX7) (T := TX7) (N := 25) hx hb hts (fun w h => (List.mem_cons_of_mem _ (hinX7 w h))) hown hK hP 0 rfl rfl 5 (by decide) (hts _ (List.mem_cons_of_mem _ wd_617)) (fun _ h9 => h9) rfl dX7_box_1 ?_
  refine lv_bipush (v := iI 11) hx hb dX7_box_4 (by decide) ?_
  refine wk_icmp_lt (tgt := 20) hx hb dX7_box_6 (by decide) (by omega) (fun c_1 => ?_) (fun c_1 => ?_)
  · skip
    exfalso; omega
  · skip
    refine lv_iload_n hx hb dX7_box_9 rfl (lv_at hl 1 rfl) ?_
    refine lv_iconst (v := iI 1) hx hb dX7_box_10 rfl ?_
    refine wk_icmp_lt (tgt := 20) hx hb dX7_box_11 (by decide) (by omega) (fun c_2 => ?_) (fun c_2 => ?_)
    · skip
      exfalso; omega
    · skip
      refine lv_iload_n hx hb dX7_box_14 rfl (lv_at hl 1 rfl) ?_
      refine lv_ldc (v := 100000) hx hb hown (hts _ (List.mem_cons_of_mem _ wd_722)) dX7_box_15 ?_
      refine wk_eqi (show (100000 : Int32) = iI 100000 by decide) ?_
      refine wk_icmp_le (tgt := 26) hx hb dX7_box_17 (by decide) (by omega) (fun c_3 => ?_) (fun c_3 => ?_)
      · skip
        refine lv_aload_n hx hb dX7_box_26 rfl (lv_at hl 0 rfl) ?_
        refine va_get (D := D) (ci := 7) (v := .int (iI bn)) (C := RX7) (T := TX7) (N := 25) hx hb hts (fun w h => (List.mem_cons_of_mem _ (hinX7 w h))) hown hK hP 0 rfl rfl 6 (by decide) (hts _ (List.mem_cons_of_mem _ wd_618)) (fun _ h9 => h9) rfl dX7_box_27 ?_
        refine lv_bipush (v := iI 20) hx hb dX7_box_30 (by decide) ?_
        refine wk_icmp_ne (tgt := 41) hx hb dX7_box_32 (by decide) (by omega) (fun c_4 => ?_) (fun c_4 => ?_)
        · skip
          refine lv_aload_n hx hb dX7_box_41 rfl (lv_at hl 0 rfl) ?_
          refine lv_iconst (v := iI 0) hx hb dX7_box_42 rfl ?_
          refine wk_put (ci := 7) (C := RX7) (T := TX7) (N := 25) hx hb hts (fun w h => (List.mem_cons_of_mem _ (hinX7 w h))) tyX7 tyX7_ok nmX7 hown hK hP hD hS 0 rfl rfl 0 (by decide) (hts _ (List.mem_cons_of_mem _ wd_612)) (fun _ h9 => h9) rfl rfl (Nat.le_of_ble_eq_true rfl) dX7_box_43 (ws' := [(h, .inr (7, [.int (iI 0), .int (iI sn), .int (iI sm), .int (iI nw), .ref hRo, .int (iI rn), .int (iI bn), .ref hNu, .ref hWe, .ref hDa, .ref hVe, .int (iI kn), .ref hSl, .ref hTr, .ref hBx, .ref hSt, .ref hLa, .ref hOr, .ref hSi, .ref hTu, .int (iI cm), .int (iI al), .int (iI lg), .int (iI tt), .int (iI dn)])), (hRo, .inl (kI, 11, .inl (iF rs))), (hNu, .inl (kI, 200, .inl (iF bs))), (hWe, .inl (kI, 20, .inl (iF bw))), (hDa, .inl (kZ, 20, .inl (iF bd)))]) rfl (fun H locs hP hD hS => ?_)
          refine lv_aload_n hx hb dX7_box_46 rfl (lv_at hl 0 rfl) ?_
          refine lv_iconst (v := iI 0) hx hb dX7_box_47 rfl ?_
          refine wk_put (ci := 7) (C := RX7) (T := TX7) (N := 25) hx hb hts (fun w h => (List.mem_cons_of_mem _ (hinX7 w h))) tyX7 tyX7_ok nmX7 hown hK hP hD hS 0 rfl rfl 5 (by decide) (hts _ (List.mem_cons_of_mem _ wd_617)) (fun _ h9 => h9) rfl rfl (Nat.le_of_ble_eq_true rfl) dX7_box_48 (ws' := [(h, .inr (7, [.int (iI 0), .int (iI sn), .int (iI sm), .int (iI nw), .ref hRo, .int (iI 0), .int (iI bn), .ref hNu, .ref hWe, .ref hDa, .ref hVe, .int (iI kn), .ref hSl, .ref hTr, .ref hBx, .ref hSt, .ref hLa, .ref hOr, .ref hSi, .ref hTu, .int (iI cm), .int (iI al), .int (iI lg), .int (iI tt), .int (iI dn)])), (hRo, .inl (kI, 11, .inl (iF rs))), (hNu, .inl (kI, 200, .inl (iF bs))), (hWe, .inl (kI, 20, .inl (iF bw))), (hDa, .inl (kZ, 20, .inl (iF bd)))]) rfl (fun H locs hP hD hS => ?_)
          refine lv_aload_n hx hb dX7_box_51 rfl (lv_at hl 0 rfl) ?_
          refine va_get (D := D) (ci := 7) (v := .ref hRo) (C := RX7) (T := TX7) (N := 25) hx hb hts (fun w h => (List.mem_cons_of_mem _ (hinX7 w h))) hown hK hP 0 rfl rfl 4 (by decide) (hts _ (List.mem_cons_of_mem _ wd_616)) (fun _ h9 => h9) rfl dX7_box_52 ?_
          refine lv_bipush (v := iI 10) hx hb dX7_box_55 (by decide) ?_
          refine wk_iald hx hb hK hP 1 0 rfl rfl (by decide) (by omega) dX7_box_57 ?_
          have b_5 := hrs 10
          refine lv_aload_n hx hb dX7_box_58 rfl (lv_at hl 0 rfl) ?_
          refine pk_callI (va_runV (As := []) (rest := [.int (iI (rs 10))]) ⟨hx, hb, hml, hown, hts⟩ (tX7_checkLetter l D kI kZ kL kJ h hRo hNu hWe hDa hVe hSl hTr hBx hSt hLa hOr hSi hTu rs 0 sn sm nw 0 bn kn cm al lg tt dn H.size (by first | assumption | omega) (by first | assumption | omega)) (cwV 0 hts (gd_V tb_cons wd_714 wd_716 wd_19 wd_41 wd_717) rfl rfl rfl (by decide +kernel) ⟨Nat.le_of_ble_eq_true rfl, Nat.le_of_ble_eq_true rfl⟩) (ck_preV hxT hK hP hD [0, 1] rfl (by decide) (q0 := 0) rfl rfl rfl) rfl rfl hl.1 rfl (lv_room (Nat.le_of_ble_eq_true rfl)) dX7_box_59 ⟨Nat.zero_le _, Nat.zero_le _⟩) ?_
          refine wk_icmp_ne (tgt := 72) hx hb dX7_box_62 (by decide) (by omega) (fun c_6 => ?_) (fun c_6 => ?_)
          · skip
            exfalso; omega
          · skip
            refine lv_aload_n hx hb dX7_box_65 rfl (lv_at hl 0 rfl) ?_
            refine pk_callI (va_runV (As := []) (rest := []) ⟨hx, hb, hml, hown, hts⟩ (tX7_isKnown l D kI kZ kL kJ h hRo hNu hWe hDa hVe hSl hTr hBx hSt hLa hOr hSi hTu rs bs 0 sn sm nw 0 bn kn cm al lg tt dn H.size (by first | assumption | omega) (by first | assumption | omega) (by first | assumption | omega)) (cwV 0 hts (gd_V tb_cons wd_723 wd_725 wd_20 wd_41 wd_726) rfl rfl rfl (by decide +kernel) ⟨Nat.le_of_ble_eq_true rfl, Nat.le_of_ble_eq_true rfl⟩) (ck_preV hxT hK hP hD [0, 1, 2] rfl (by decide) (q0 := 0) rfl rfl rfl) rfl rfl hl.1 rfl (lv_room (Nat.le_of_ble_eq_true rfl)) dX7_box_66 ⟨Nat.zero_le _, Nat.zero_le _⟩) ?_
            refine wk_bif_eq (tgt := 74) hx hb dX7_box_69 (by decide) (fun c_7 => ?_) (fun c_7 => ?_)
            · skip
              refine lv_iconst (v := iI 0) hx hb dX7_box_74 rfl ?_
              refine lv_istore_n (lv' := [(3, .int (iI 0)), (0, .ref h), (1, .int (iI wt)), (2, .int (iI dg))]) hx hb dX7_box_75 rfl hl (by decide) rfl (fun ls hl => ?_)
              have loop_76 : ∀ (fu : Nat) (i : Int) (x : Int → Int), (0 ≤ i ∧ i ≤ 10) → (x = cpN bs (bn * 10) rs i.toNat) → ((10 : Int) - i) < (fu : Int) → ∀ (H : Heap) (locs : List Loc) (ls : Array Slot), va_P D vwCl [(h, .inr (7, [.int (iI 0), .int (iI sn), .int (iI sm), .int (iI nw), .ref hRo, .int (iI 0), .int (iI bn), .ref hNu, .ref hWe, .ref hDa, .ref hVe, .int (iI kn), .ref hSl, .ref hTr, .ref hBx, .ref hSt, .ref hLa, .ref hOr, .ref hSi, .ref hTu, .int (iI cm), .int (iI al), .int (iI lg), .int (iI tt), .int (iI dn)])), (hRo, .inl (kI, 11, .inl (iF rs))), (hNu, .inl (kI, 200, .inl (iF x))), (hWe, .inl (kI, 20, .inl (iF bw))), (hDa, .inl (kZ, 20, .inl (iF bd)))] H → va_D A [(h, .inr (7, [.int (iI 0), .int (iI sn), .int (iI sm), .int (iI nw), .ref hRo, .int (iI 0), .int (iI bn), .ref hNu, .ref hWe, .ref hDa, .ref hVe, .int (iI kn), .ref hSl, .ref hTr, .ref hBx, .ref hSt, .ref hLa, .ref hOr, .ref hSi, .ref hTu, .int (iI cm), .int (iI al), .int (iI lg), .int (iI tt), .int (iI dn)])), (hRo, .inl (kI, 11, .inl (iF rs))), (hNu, .inl (kI, 200, .inl (iF x))), (hWe, .inl (kI, 20, .inl (iF bw))), (hDa, .inl (kZ, 20, .inl (iF bd)))] → va_S A s.heap H locs → lv_has ls 4 [(3, .int (iI i)), (0, .ref h), (1, .int (iI wt)), (2, .int (iI dg))] → W p l e ({ frames := 2, cells := 0, slots := 0, locals := 42 }) s m ([.ref h, .int (iI wt), .int (iI dg)] : List Value).toArray below meth cd H locs 0 0 (MQ below (cQi D vwCl (tyL kI kZ kL kJ) A (iI bn) [(h, .inr (7, [.int (iI 0), .int (iI sn), .int (iI sm), .int (iI nw), .ref hRo, .int (iI 0), .int (iI (bn + 1)), .ref hNu, .ref hWe, .ref hDa, .ref hVe, .int (iI kn), .ref hSl, .ref hTr, .ref hBx, .ref hSt, .ref hLa, .ref hOr, .ref hSi, .ref hTu, .int (iI cm), .int (iI al), .int (iI lg), .int (iI tt), .int (iI dn)])), (hRo, .inl (kI, 11, .inl (iF rs))), (hNu, .inl (kI, 200, .inl (iF (cpN bs (bn * 10) rs 10)))), (hWe, .inl (kI, 20, .inl (iF (iu bw bn wt)))), (hDa, .inl (kZ, 20, .inl (iF (iu bd bn dg))))]) ([.ref h, .int (iI wt), .int (iI dg)] : List Value).toArray s 0 0 A) (F0 m 76 ls []) := by
                intro fu
                induction fu with
                | zero => intro i x hi hE hfu; exfalso; omega
                | succ fu ih_76 =>
                  intro i x hi hE hfu H locs ls hP hD hS hl
                  refine lv_iload_n hx hb dX7_box_76 rfl (lv_at hl 0 rfl) ?_
                  refine lv_bipush (v := iI 10) hx hb dX7_box_77 (by decide) ?_
                  refine wk_icmp_ge (tgt := 108) hx hb dX7_box_79 (by decide) (by omega) (fun c_8 => ?_) (fun c_8 => ?_)
                  · skip
                    have e9 : i = 10 := by omega
                    have e8 : x = cpN bs (bn * 10) rs 10 := by rw [hE, e9]; rfl
                    subst e8
                    refine lv_aload_n hx hb dX7_box_108 rfl (lv_at hl 1 rfl) ?_
                    refine va_get (D := D) (ci := 7) (v := .ref hWe) (C := RX7) (T := TX7) (N := 25) hx hb hts (fun w h => (List.mem_cons_of_mem _ (hinX7 w h))) hown hK hP 0 rfl rfl 8 (by decide) (hts _ (List.mem_cons_of_mem _ wd_620)) (fun _ h9 => h9) rfl dX7_box_109 ?_
                    refine lv_aload_n hx hb dX7_box_112 rfl (lv_at hl 1 rfl) ?_
                    refine va_get (D := D) (ci := 7) (v := .int (iI bn)) (C := RX7) (T := TX7) (N := 25) hx hb hts (fun w h => (List.mem_cons_of_mem _ (hinX7 w h))) hown hK hP 0 rfl rfl 6 (by decide) (hts _ (List.mem_cons_of_mem _ wd_618)) (fun _ h9 => h9) rfl dX7_box_113 ?_
                    refine lv_iload_n hx hb dX7_box_116 rfl (lv_at hl 2 rfl) ?_
                    refine wk_iast hx hb hK hP hD hS 3 0 rfl rfl (by decide) (by omega) dX7_box_117 (ws' := [(h, .inr (7, [.int (iI 0), .int (iI sn), .int (iI sm), .int (iI nw), .ref hRo, .int (iI 0), .int (iI bn), .ref hNu, .ref hWe, .ref hDa, .ref hVe, .int (iI kn), .ref hSl, .ref hTr, .ref hBx, .ref hSt, .ref hLa, .ref hOr, .ref hSi, .ref hTu, .int (iI cm), .int (iI al), .int (iI lg), .int (iI tt), .int (iI dn)])), (hRo, .inl (kI, 11, .inl (iF rs))), (hNu, .inl (kI, 200, .inl (iF (cpN bs (bn * 10) rs 10)))), (hWe, .inl (kI, 20, .inl (iF (iu bw bn wt)))), (hDa, .inl (kZ, 20, .inl (iF bd)))]) rfl (fun H locs hP hD hS => ?_)
                    refine lv_aload_n hx hb dX7_box_118 rfl (lv_at hl 1 rfl) ?_
                    refine va_get (D := D) (ci := 7) (v := .ref hDa) (C := RX7) (T := TX7) (N := 25) hx hb hts (fun w h => (List.mem_cons_of_mem _ (hinX7 w h))) hown hK hP 0 rfl rfl 9 (by decide) (hts _ (List.mem_cons_of_mem _ wd_621)) (fun _ h9 => h9) rfl dX7_box_119 ?_
                    refine lv_aload_n hx hb dX7_box_122 rfl (lv_at hl 1 rfl) ?_
                    refine va_get (D := D) (ci := 7) (v := .int (iI bn)) (C := RX7) (T := TX7) (N := 25) hx hb hts (fun w h => (List.mem_cons_of_mem _ (hinX7 w h))) hown hK hP 0 rfl rfl 6 (by decide) (hts _ (List.mem_cons_of_mem _ wd_618)) (fun _ h9 => h9) rfl dX7_box_123 ?_
                    refine lv_iload_n hx hb dX7_box_126 rfl (lv_at hl 3 rfl) ?_
                    refine wk_zast hx hb hK hP hD hS 4 1 rfl rfl (by omega) (by decide) (by omega) dX7_box_127 (ws' := [(h, .inr (7, [.int (iI 0), .int (iI sn), .int (iI sm), .int (iI nw), .ref hRo, .int (iI 0), .int (iI bn), .ref hNu, .ref hWe, .ref hDa, .ref hVe, .int (iI kn), .ref hSl, .ref hTr, .ref hBx, .ref hSt, .ref hLa, .ref hOr, .ref hSi, .ref hTu, .int (iI cm), .int (iI al), .int (iI lg), .int (iI tt), .int (iI dn)])), (hRo, .inl (kI, 11, .inl (iF rs))), (hNu, .inl (kI, 200, .inl (iF (cpN bs (bn * 10) rs 10)))), (hWe, .inl (kI, 20, .inl (iF (iu bw bn wt)))), (hDa, .inl (kZ, 20, .inl (iF (iu bd bn dg))))]) rfl (fun H locs hP hD hS => ?_)
                    refine lv_aload_n hx hb dX7_box_128 rfl (lv_at hl 1 rfl) ?_
                    refine lv_dup hx hb dX7_box_129 rfl ?_
                    refine va_get (D := D) (ci := 7) (v := .int (iI bn)) (C := RX7) (T := TX7) (N := 25) hx hb hts (fun w h => (List.mem_cons_of_mem _ (hinX7 w h))) hown hK hP 0 rfl rfl 6 (by decide) (hts _ (List.mem_cons_of_mem _ wd_618)) (fun _ h9 => h9) rfl dX7_box_130 ?_
                    refine lv_iconst (v := iI 1) hx hb dX7_box_133 rfl ?_
                    refine wk_iadd hx hb dX7_box_134 ?_
                    refine wk_put (ci := 7) (C := RX7) (T := TX7) (N := 25) hx hb hts (fun w h => (List.mem_cons_of_mem _ (hinX7 w h))) tyX7 tyX7_ok nmX7 hown hK hP hD hS 0 rfl rfl 6 (by decide) (hts _ (List.mem_cons_of_mem _ wd_618)) (fun _ h9 => h9) rfl rfl (Nat.le_of_ble_eq_true rfl) dX7_box_135 (ws' := [(h, .inr (7, [.int (iI 0), .int (iI sn), .int (iI sm), .int (iI nw), .ref hRo, .int (iI 0), .int (iI (bn + 1)), .ref hNu, .ref hWe, .ref hDa, .ref hVe, .int (iI kn), .ref hSl, .ref hTr, .ref hBx, .ref hSt, .ref hLa, .ref hOr, .ref hSi, .ref hTu, .int (iI cm), .int (iI al), .int (iI lg), .int (iI tt), .int (iI dn)])), (hRo, .inl (kI, 11, .inl (iF rs))), (hNu, .inl (kI, 200, .inl (iF (cpN bs (bn * 10) rs 10)))), (hWe, .inl (kI, 20, .inl (iF (iu bw bn wt)))), (hDa, .inl (kZ, 20, .inl (iF (iu bd bn dg))))]) rfl (fun H locs hP hD hS => ?_)
                    refine lv_aload_n hx hb dX7_box_138 rfl (lv_at hl 1 rfl) ?_
                    refine va_get (D := D) (ci := 7) (v := .int (iI (bn + 1))) (C := RX7) (T := TX7) (N := 25) hx hb hts (fun w h => (List.mem_cons_of_mem _ (hinX7 w h))) hown hK hP 0 rfl rfl 6 (by decide) (hts _ (List.mem_cons_of_mem _ wd_618)) (fun _ h9 => h9) rfl dX7_box_139 ?_
                    refine lv_iconst (v := iI 1) hx hb dX7_box_142 rfl ?_
                    refine wk_isub hx hb dX7_box_143 ?_
                    exact rk_int hx hb hr hlocks hK hP hD hS (by omega) rfl dX7_box_144
                  · skip
                    refine lv_aload_n hx hb dX7_box_82 rfl (lv_at hl 1 rfl) ?_
                    refine va_get (D := D) (ci := 7) (v := .ref hNu) (C := RX7) (T := TX7) (N := 25) hx hb hts (fun w h => (List.mem_cons_of_mem _ (hinX7 w h))) hown hK hP 0 rfl rfl 7 (by decide) (hts _ (List.mem_cons_of_mem _ wd_619)) (fun _ h9 => h9) rfl dX7_box_83 ?_
                    refine lv_bipush (v := iI 10) hx hb dX7_box_86 (by decide) ?_
                    refine lv_aload_n hx hb dX7_box_88 rfl (lv_at hl 1 rfl) ?_
                    refine va_get (D := D) (ci := 7) (v := .int (iI bn)) (C := RX7) (T := TX7) (N := 25) hx hb hts (fun w h => (List.mem_cons_of_mem _ (hinX7 w h))) hown hK hP 0 rfl rfl 6 (by decide) (hts _ (List.mem_cons_of_mem _ wd_618)) (fun _ h9 => h9) rfl dX7_box_89 ?_
                    refine wk_imul hx hb dX7_box_92 ?_
                    refine lv_iload_n hx hb dX7_box_93 rfl (lv_at hl 0 rfl) ?_
                    refine wk_iadd hx hb dX7_box_94 ?_
                    refine lv_aload_n hx hb dX7_box_95 rfl (lv_at hl 1 rfl) ?_
                    refine va_get (D := D) (ci := 7) (v := .ref hRo) (C := RX7) (T := TX7) (N := 25) hx hb hts (fun w h => (List.mem_cons_of_mem _ (hinX7 w h))) hown hK hP 0 rfl rfl 4 (by decide) (hts _ (List.mem_cons_of_mem _ wd_616)) (fun _ h9 => h9) rfl dX7_box_96 ?_
                    refine lv_iload_n hx hb dX7_box_99 rfl (lv_at hl 0 rfl) ?_
                    refine wk_iald hx hb hK hP 1 0 rfl rfl (by decide) (by omega) dX7_box_100 ?_
                    have b_9 := hrs i
                    refine wk_iast hx hb hK hP hD hS 2 0 rfl rfl (by decide) (by omega) dX7_box_101 (ws' := [(h, .inr (7, [.int (iI 0), .int (iI sn), .int (iI sm), .int (iI nw), .ref hRo, .int (iI 0), .int (iI bn), .ref hNu, .ref hWe, .ref hDa, .ref hVe, .int (iI kn), .ref hSl, .ref hTr, .ref hBx, .ref hSt, .ref hLa, .ref hOr, .ref hSi, .ref hTu, .int (iI cm), .int (iI al), .int (iI lg), .int (iI tt), .int (iI dn)])), (hRo, .inl (kI, 11, .inl (iF rs))), (hNu, .inl (kI, 200, .inl (iF (iu x ((10 * bn) + i) (rs i))))), (hWe, .inl (kI, 20, .inl (iF bw))), (hDa, .inl (kZ, 20, .inl (iF bd)))]) rfl (fun H locs hP hD hS => ?_)
                    refine wk_iinc (k := 0) (lv' := [(3, .int (iI (i + 1))), (0, .ref h), (1, .int (iI wt)), (2, .int (iI dg))]) hx hb dX7_box_102 hl rfl (by decide) rfl (fun ls hl => ?_)
                    refine lv_goto (tgt := 76) hx hb dX7_box_105 (by decide) ?_
                    exact ih_76 (i + 1) (iu x ((10 * bn) + i) (rs i)) (by first | assumption | omega) (by rw [cpN_step bs (bn * 10) rs (by omega), ← hE, Int.mul_comm 10 bn]) (by omega) H locs ls hP hD hS (lv_sub hl [0, 1, 2, 3] rfl)
              exact loop_76 ((10 : Int) - 0).toNat.succ 0 bs (by first | assumption | rfl | omega) (by first | assumption | rfl | omega) (by omega) H locs ls hP hD hS (lv_sub hl [0, 1, 2, 3] rfl)
            · skip
              exfalso; omega
        · skip
          exfalso; omega
      · skip
        exfalso; omega

set_option maxHeartbeats 4000000 in
set_option maxRecDepth 100000 in
theorem tX7_verdictOf (l : Launch) (D : va_G) (kI : ClassId) (kZ : ClassId) (kL : ClassId) (kJ : ClassId) (h : Nat) (hRo : Nat) (hNu : Nat) (hWe : Nat) (hDa : Nat) (hVe : Nat) (hSl : Nat) (hTr : Nat) (hBx : Nat) (hSt : Nat) (hLa : Nat) (hOr : Nat) (hSi : Nat) (hTu : Nat) (mv : Int → Int) (th : Int) (sn : Int) (sm : Int) (nw : Int) (rn : Int) (bn : Int) (kn : Int) (cm : Int) (al : Int) (lg : Int) (tt : Int) (dn : Int) (kd : Int) (of : Int) (sz : Nat) (hkd : 0 ≤ kd ∧ kd < 4) (hof : 0 ≤ of ∧ of < 20) : CtP l yX7_verdictOf wsX7_verdictOf ({ frames := 0, cells := 0, slots := 0, locals := 0 }) D vwCl (tyL kI kZ kL kJ) [(h, .inr (7, [.int (iI th), .int (iI sn), .int (iI sm), .int (iI nw), .ref hRo, .int (iI rn), .int (iI bn), .ref hNu, .ref hWe, .ref hDa, .ref hVe, .int (iI kn), .ref hSl, .ref hTr, .ref hBx, .ref hSt, .ref hLa, .ref hOr, .ref hSi, .ref hTu, .int (iI cm), .int (iI al), .int (iI lg), .int (iI tt), .int (iI dn)])), (hVe, .inl (kI, 112, .inl (iF mv)))] [.ref h, .int (iI kd), .int (iI of)] (iI (mv (4 * of + kd))) sz := by
  refine pk_start (cc := cX7_verdictOf) (maxL := 3) (ret := (some .int)) (LV := [(0, .ref h), (1, .int (iI kd)), (2, .int (iI of))]) (by decide) rfl rfl (Nat.le_of_ble_eq_true rfl) ?_
  intro p e s m below meth cd hadm hx hb hr hml hts hown hlocks hname hnoh hxT A hA hK hP hD hS ls hl
  refine lv_iload_n hx hb dX7_verdictOf_0 rfl (lv_at hl 1 rfl) ?_
  refine lv_iconst (v := iI 4) hx hb dX7_verdictOf_1 rfl ?_
  refine wk_icmp_ge (tgt := 18) hx hb dX7_verdictOf_2 (by decide) (by omega) (fun c_1 => ?_) (fun c_1 => ?_)
  · skip
    exfalso; omega
  · skip
    refine lv_aload_n hx hb dX7_verdictOf_5 rfl (lv_at hl 0 rfl) ?_
    refine va_get (D := D) (ci := 7) (v := .ref hVe) (C := RX7) (T := TX7) (N := 25) hx hb hts (fun w h => (List.mem_cons_of_mem _ (hinX7 w h))) hown hK hP 0 rfl rfl 10 (by decide) (hts _ (List.mem_cons_of_mem _ wd_622)) (fun _ h9 => h9) rfl dX7_verdictOf_6 ?_
    refine lv_iconst (v := iI 4) hx hb dX7_verdictOf_9 rfl ?_
    refine lv_iload_n hx hb dX7_verdictOf_10 rfl (lv_at hl 2 rfl) ?_
    refine wk_imul hx hb dX7_verdictOf_11 ?_
    refine lv_iload_n hx hb dX7_verdictOf_12 rfl (lv_at hl 1 rfl) ?_
    refine wk_iadd hx hb dX7_verdictOf_13 ?_
    refine wk_iald hx hb hK hP 1 0 rfl rfl (by decide) (by omega) dX7_verdictOf_14 ?_
    refine lv_goto (tgt := 33) hx hb dX7_verdictOf_15 (by decide) ?_
    exact pk_int hx hb hr hlocks (by first | rfl | omega) dX7_verdictOf_33

set_option maxHeartbeats 4000000 in
set_option maxRecDepth 100000 in
theorem tX7_verdictOf_t (l : Launch) (D : va_G) (kI : ClassId) (kZ : ClassId) (kL : ClassId) (kJ : ClassId) (h : Nat) (hRo : Nat) (hNu : Nat) (hWe : Nat) (hDa : Nat) (hVe : Nat) (hSl : Nat) (hTr : Nat) (hBx : Nat) (hSt : Nat) (hLa : Nat) (hOr : Nat) (hSi : Nat) (hTu : Nat) (mv : Int → Int) (th : Int) (sn : Int) (sm : Int) (nw : Int) (rn : Int) (bn : Int) (kn : Int) (cm : Int) (al : Int) (lg : Int) (tt : Int) (dn : Int) (kd : Int) (of : Int) (sz : Nat) (hkd : 4 ≤ kd ∧ kd < 6) (hof : 0 ≤ of ∧ of < 16) : CtP l yX7_verdictOf wsX7_verdictOf ({ frames := 0, cells := 0, slots := 0, locals := 0 }) D vwCl (tyL kI kZ kL kJ) [(h, .inr (7, [.int (iI th), .int (iI sn), .int (iI sm), .int (iI nw), .ref hRo, .int (iI rn), .int (iI bn), .ref hNu, .ref hWe, .ref hDa, .ref hVe, .int (iI kn), .ref hSl, .ref hTr, .ref hBx, .ref hSt, .ref hLa, .ref hOr, .ref hSi, .ref hTu, .int (iI cm), .int (iI al), .int (iI lg), .int (iI tt), .int (iI dn)])), (hVe, .inl (kI, 112, .inl (iF mv)))] [.ref h, .int (iI kd), .int (iI of)] (iI (mv (80 + 2 * of + kd - 4))) sz := by
  refine pk_start (cc := cX7_verdictOf) (maxL := 3) (ret := (some .int)) (LV := [(0, .ref h), (1, .int (iI kd)), (2, .int (iI of))]) (by decide) rfl rfl (Nat.le_of_ble_eq_true rfl) ?_
  intro p e s m below meth cd hadm hx hb hr hml hts hown hlocks hname hnoh hxT A hA hK hP hD hS ls hl
  refine lv_iload_n hx hb dX7_verdictOf_0 rfl (lv_at hl 1 rfl) ?_
  refine lv_iconst (v := iI 4) hx hb dX7_verdictOf_1 rfl ?_
  refine wk_icmp_ge (tgt := 18) hx hb dX7_verdictOf_2 (by decide) (by omega) (fun c_1 => ?_) (fun c_1 => ?_)
  · skip
    refine lv_aload_n hx hb dX7_verdictOf_18 rfl (lv_at hl 0 rfl) ?_
    refine va_get (D := D) (ci := 7) (v := .ref hVe) (C := RX7) (T := TX7) (N := 25) hx hb hts (fun w h => (List.mem_cons_of_mem _ (hinX7 w h))) hown hK hP 0 rfl rfl 10 (by decide) (hts _ (List.mem_cons_of_mem _ wd_622)) (fun _ h9 => h9) rfl dX7_verdictOf_19 ?_
    refine lv_bipush (v := iI 80) hx hb dX7_verdictOf_22 (by decide) ?_
    refine lv_iconst (v := iI 2) hx hb dX7_verdictOf_24 rfl ?_
    refine lv_iload_n hx hb dX7_verdictOf_25 rfl (lv_at hl 2 rfl) ?_
    refine wk_imul hx hb dX7_verdictOf_26 ?_
    refine wk_iadd hx hb dX7_verdictOf_27 ?_
    refine lv_iload_n hx hb dX7_verdictOf_28 rfl (lv_at hl 1 rfl) ?_
    refine wk_iadd hx hb dX7_verdictOf_29 ?_
    refine lv_iconst (v := iI 4) hx hb dX7_verdictOf_30 rfl ?_
    refine wk_isub hx hb dX7_verdictOf_31 ?_
    refine wk_iald hx hb hK hP 1 0 rfl rfl (by decide) (by omega) dX7_verdictOf_32 ?_
    exact pk_int hx hb hr hlocks (by first | rfl | omega) dX7_verdictOf_33
  · skip
    exfalso; omega

set_option maxHeartbeats 4000000 in
set_option maxRecDepth 100000 in
theorem tX7_check_1 (l : Launch) (D : va_G) (kI : ClassId) (kZ : ClassId) (kL : ClassId) (kJ : ClassId) (h : Nat) (hRo : Nat) (hNu : Nat) (hWe : Nat) (hDa : Nat) (hVe : Nat) (hSl : Nat) (hTr : Nat) (hBx : Nat) (hSt : Nat) (hLa : Nat) (hOr : Nat) (hSi : Nat) (hTu : Nat) (th : Int) (sn : Int) (sm : Int) (nw : Int) (rn : Int) (bn : Int) (kn : Int) (cm : Int) (al : Int) (lg : Int) (tt : Int) (dn : Int) (kd : Int) (of : Int) (vd : Int) (sz : Nat) (hkd : -2147483648 ≤ kd ∧ kd ≤ 2147483647) (hof : -2147483648 ≤ of ∧ of ≤ 2147483647) (hvd : -2147483648 ≤ vd ∧ vd ≤ 2147483647) (hbn : 0 ≤ bn ∧ bn ≤ 20) (h1 : 0 ≤ kd ∧ kd ≤ 5) (h2 : ¬ ((kd < 4 ∧ 0 ≤ of ∧ of < bn) ∨ (4 ≤ kd ∧ 0 ≤ of ∧ of < 16))) : CtI l yX7_check wsX7_check ({ frames := 1, cells := 0, slots := 0, locals := 21 }) D vwCl (tyL kI kZ kL kJ) [(h, .inr (7, [.int (iI th), .int (iI sn), .int (iI sm), .int (iI nw), .ref hRo, .int (iI rn), .int (iI bn), .ref hNu, .ref hWe, .ref hDa, .ref hVe, .int (iI kn), .ref hSl, .ref hTr, .ref hBx, .ref hSt, .ref hLa, .ref hOr, .ref hSi, .ref hTu, .int (iI cm), .int (iI al), .int (iI lg), .int (iI tt), .int (iI dn)]))] [.ref h, .int (iI kd), .int (iI of), .int (iI vd)] (iI 0) [(h, .inr (7, [.int (iI 1), .int (iI sn), .int (iI sm), .int (iI nw), .ref hRo, .int (iI rn), .int (iI bn), .ref hNu, .ref hWe, .ref hDa, .ref hVe, .int (iI kn), .ref hSl, .ref hTr, .ref hBx, .ref hSt, .ref hLa, .ref hOr, .ref hSi, .ref hTu, .int (iI cm), .int (iI al), .int (iI lg), .int (iI tt), .int (iI dn)]))] sz := by
  refine ck_start (Qc := fun A => cQi D vwCl (tyL kI kZ kL kJ) A (iI 0) [(h, .inr (7, [.int (iI 1), .int (iI sn), .int (iI sm), .int (iI nw), .ref hRo, .int (iI rn), .int (iI bn), .ref hNu, .ref hWe, .ref hDa, .ref hVe, .int (iI kn), .ref hSl, .ref hTr, .ref hBx, .ref hSt, .ref hLa, .ref hOr, .ref hSi, .ref hTu, .int (iI cm), .int (iI al), .int (iI lg), .int (iI tt), .int (iI dn)]))]) (cc := cX7_check) (maxL := 6) (ret := (some .int)) (LV := [(0, .ref h), (1, .int (iI kd)), (2, .int (iI of)), (3, .int (iI vd))]) (by decide) rfl rfl (Nat.le_of_ble_eq_true rfl) ?_
  intro p e s m below meth cd hadm hx hb hr hml hts hown hlocks hname hnoh hxT A hA hK hP hD hS ls hl
  refine lv_iload_n hx hb dX7_check_0 rfl (lv_at hl 1 rfl) ?_
  refine wk_if_lt (tgt := 37) hx hb dX7_check_1 (by decide) (by omega) (fun c_1 => ?_) (fun c_1 => ?_)
  · skip
    exfalso; omega
  · skip
    refine lv_iload_n hx hb dX7_check_4 rfl (lv_at hl 1 rfl) ?_
    refine lv_iconst (v := iI 5) hx hb dX7_check_5 rfl ?_
    refine wk_icmp_gt (tgt := 37) hx hb dX7_check_6 (by decide) (by omega) (fun c_2 => ?_) (fun c_2 => ?_)
    · skip
      exfalso; omega
    · skip
      refine lv_iload_n hx hb dX7_check_9 rfl (lv_at hl 2 rfl) ?_
      refine wk_if_lt (tgt := 31) hx hb dX7_check_10 (by decide) (by omega) (fun c_3 => ?_) (fun c_3 => ?_)
      · skip
        refine lv_aload_n hx hb dX7_check_31 rfl (lv_at hl 0 rfl) ?_
        refine lv_iconst (v := iI 1) hx hb dX7_check_32 rfl ?_
        refine ck_backI (va_runV (As := [.int (iI 1)]) (rest := []) ⟨hx, hb, hml, hown, hts⟩ (tX7_fails l D kI kZ kL kJ h hRo hNu hWe hDa hVe hSl hTr hBx hSt hLa hOr hSi hTu th sn sm nw rn bn kn cm al lg tt dn 1 s.heap.size ) (cwV 1 hts (gd_V tb_cons wd_702 wd_704 wd_18 wd_41 wd_705) rfl rfl rfl (by decide +kernel) ⟨Nat.le_of_ble_eq_true rfl, Nat.le_of_ble_eq_true rfl⟩) (ck_preV hxT hK hP hD [0] rfl (by decide) (q0 := 0) rfl rfl rfl) rfl rfl hl.1 rfl (lv_room (Nat.le_of_ble_eq_true rfl)) dX7_check_33 ⟨Nat.zero_le _, Nat.zero_le _⟩) hP hD hS hA [0] [] (WR := []) rfl rfl (by decide) (by decide) (ws' := [(h, .inr (7, [.int (iI 1), .int (iI sn), .int (iI sm), .int (iI nw), .ref hRo, .int (iI rn), .int (iI bn), .ref hNu, .ref hWe, .ref hDa, .ref hVe, .int (iI kn), .ref hSl, .ref hTr, .ref hBx, .ref hSt, .ref hLa, .ref hOr, .ref hSi, .ref hTu, .int (iI cm), .int (iI al), .int (iI lg), .int (iI tt), .int (iI dn)]))]) rfl (fun H locs hP hD hS => ?_)
        exact rk_int hx hb hr hlocks hK hP hD hS (by first | rfl | omega) rfl dX7_check_36
      · skip
        refine lv_iload_n hx hb dX7_check_13 rfl (lv_at hl 2 rfl) ?_
        refine lv_iload_n hx hb dX7_check_14 rfl (lv_at hl 1 rfl) ?_
        refine lv_iconst (v := iI 4) hx hb dX7_check_15 rfl ?_
        refine wk_icmp_ge (tgt := 26) hx hb dX7_check_16 (by decide) (by omega) (fun c_4 => ?_) (fun c_4 => ?_)
        · skip
          refine lv_bipush (v := iI 16) hx hb dX7_check_26 (by decide) ?_
          refine wk_icmp_lt (tgt := 37) hx hb dX7_check_28 (by decide) (by omega) (fun c_5 => ?_) (fun c_5 => ?_)
          · skip
            exfalso; omega
          · skip
            refine lv_aload_n hx hb dX7_check_31 rfl (lv_at hl 0 rfl) ?_
            refine lv_iconst (v := iI 1) hx hb dX7_check_32 rfl ?_
            refine ck_backI (va_runV (As := [.int (iI 1)]) (rest := []) ⟨hx, hb, hml, hown, hts⟩ (tX7_fails l D kI kZ kL kJ h hRo hNu hWe hDa hVe hSl hTr hBx hSt hLa hOr hSi hTu th sn sm nw rn bn kn cm al lg tt dn 1 s.heap.size ) (cwV 1 hts (gd_V tb_cons wd_702 wd_704 wd_18 wd_41 wd_705) rfl rfl rfl (by decide +kernel) ⟨Nat.le_of_ble_eq_true rfl, Nat.le_of_ble_eq_true rfl⟩) (ck_preV hxT hK hP hD [0] rfl (by decide) (q0 := 0) rfl rfl rfl) rfl rfl hl.1 rfl (lv_room (Nat.le_of_ble_eq_true rfl)) dX7_check_33 ⟨Nat.zero_le _, Nat.zero_le _⟩) hP hD hS hA [0] [] (WR := []) rfl rfl (by decide) (by decide) (ws' := [(h, .inr (7, [.int (iI 1), .int (iI sn), .int (iI sm), .int (iI nw), .ref hRo, .int (iI rn), .int (iI bn), .ref hNu, .ref hWe, .ref hDa, .ref hVe, .int (iI kn), .ref hSl, .ref hTr, .ref hBx, .ref hSt, .ref hLa, .ref hOr, .ref hSi, .ref hTu, .int (iI cm), .int (iI al), .int (iI lg), .int (iI tt), .int (iI dn)]))]) rfl (fun H locs hP hD hS => ?_)
            exact rk_int hx hb hr hlocks hK hP hD hS (by first | rfl | omega) rfl dX7_check_36
        · skip
          refine lv_aload_n hx hb dX7_check_19 rfl (lv_at hl 0 rfl) ?_
          refine va_get (D := D) (ci := 7) (v := .int (iI bn)) (C := RX7) (T := TX7) (N := 25) hx hb hts (fun w h => (List.mem_cons_of_mem _ (hinX7 w h))) hown hK hP 0 rfl rfl 6 (by decide) (hts _ (List.mem_cons_of_mem _ wd_618)) (fun _ h9 => h9) rfl dX7_check_20 ?_
          refine lv_goto (tgt := 28) hx hb dX7_check_23 (by decide) ?_
          refine wk_icmp_lt (tgt := 37) hx hb dX7_check_28 (by decide) (by omega) (fun c_6 => ?_) (fun c_6 => ?_)
          · skip
            exfalso; omega
          · skip
            refine lv_aload_n hx hb dX7_check_31 rfl (lv_at hl 0 rfl) ?_
            refine lv_iconst (v := iI 1) hx hb dX7_check_32 rfl ?_
            refine ck_backI (va_runV (As := [.int (iI 1)]) (rest := []) ⟨hx, hb, hml, hown, hts⟩ (tX7_fails l D kI kZ kL kJ h hRo hNu hWe hDa hVe hSl hTr hBx hSt hLa hOr hSi hTu th sn sm nw rn bn kn cm al lg tt dn 1 s.heap.size ) (cwV 1 hts (gd_V tb_cons wd_702 wd_704 wd_18 wd_41 wd_705) rfl rfl rfl (by decide +kernel) ⟨Nat.le_of_ble_eq_true rfl, Nat.le_of_ble_eq_true rfl⟩) (ck_preV hxT hK hP hD [0] rfl (by decide) (q0 := 0) rfl rfl rfl) rfl rfl hl.1 rfl (lv_room (Nat.le_of_ble_eq_true rfl)) dX7_check_33 ⟨Nat.zero_le _, Nat.zero_le _⟩) hP hD hS hA [0] [] (WR := []) rfl rfl (by decide) (by decide) (ws' := [(h, .inr (7, [.int (iI 1), .int (iI sn), .int (iI sm), .int (iI nw), .ref hRo, .int (iI rn), .int (iI bn), .ref hNu, .ref hWe, .ref hDa, .ref hVe, .int (iI kn), .ref hSl, .ref hTr, .ref hBx, .ref hSt, .ref hLa, .ref hOr, .ref hSi, .ref hTu, .int (iI cm), .int (iI al), .int (iI lg), .int (iI tt), .int (iI dn)]))]) rfl (fun H locs hP hD hS => ?_)
            exact rk_int hx hb hr hlocks hK hP hD hS (by first | rfl | omega) rfl dX7_check_36

set_option maxHeartbeats 4000000 in
set_option maxRecDepth 100000 in
theorem tX7_check_2 (l : Launch) (D : va_G) (kI : ClassId) (kZ : ClassId) (kL : ClassId) (kJ : ClassId) (h : Nat) (hRo : Nat) (hNu : Nat) (hWe : Nat) (hDa : Nat) (hVe : Nat) (hSl : Nat) (hTr : Nat) (hBx : Nat) (hSt : Nat) (hLa : Nat) (hOr : Nat) (hSi : Nat) (hTu : Nat) (th : Int) (sn : Int) (sm : Int) (nw : Int) (rn : Int) (bn : Int) (kn : Int) (cm : Int) (al : Int) (lg : Int) (tt : Int) (dn : Int) (kd : Int) (of : Int) (vd : Int) (sz : Nat) (hkd : -2147483648 ≤ kd ∧ kd ≤ 2147483647) (hof : -2147483648 ≤ of ∧ of ≤ 2147483647) (hvd : -2147483648 ≤ vd ∧ vd ≤ 2147483647) (hbn : 0 ≤ bn ∧ bn ≤ 20) (h1 : ¬ (0 ≤ kd ∧ kd ≤ 5) ∨ (((kd < 4 ∧ 0 ≤ of ∧ of < bn) ∨ (4 ≤ kd ∧ 0 ≤ of ∧ of < 16)) ∧ ¬ ((vd = 2 ∧ (kd = 1 ∨ kd = 2)) ∨ vd = 0 ∨ vd = 1))) : CtI l yX7_check wsX7_check ({ frames := 1, cells := 0, slots := 0, locals := 21 }) D vwCl (tyL kI kZ kL kJ) [(h, .inr (7, [.int (iI th), .int (iI sn), .int (iI sm), .int (iI nw), .ref hRo, .int (iI rn), .int (iI bn), .ref hNu, .ref hWe, .ref hDa, .ref hVe, .int (iI kn), .ref hSl, .ref hTr, .ref hBx, .ref hSt, .ref hLa, .ref hOr, .ref hSi, .ref hTu, .int (iI cm), .int (iI al), .int (iI lg), .int (iI tt), .int (iI dn)]))] [.ref h, .int (iI kd), .int (iI of), .int (iI vd)] (iI 0) [(h, .inr (7, [.int (iI 2), .int (iI sn), .int (iI sm), .int (iI nw), .ref hRo, .int (iI rn), .int (iI bn), .ref hNu, .ref hWe, .ref hDa, .ref hVe, .int (iI kn), .ref hSl, .ref hTr, .ref hBx, .ref hSt, .ref hLa, .ref hOr, .ref hSi, .ref hTu, .int (iI cm), .int (iI al), .int (iI lg), .int (iI tt), .int (iI dn)]))] sz := by
  refine ck_start (Qc := fun A => cQi D vwCl (tyL kI kZ kL kJ) A (iI 0) [(h, .inr (7, [.int (iI 2), .int (iI sn), .int (iI sm), .int (iI nw), .ref hRo, .int (iI rn), .int (iI bn), .ref hNu, .ref hWe, .ref hDa, .ref hVe, .int (iI kn), .ref hSl, .ref hTr, .ref hBx, .ref hSt, .ref hLa, .ref hOr, .ref hSi, .ref hTu, .int (iI cm), .int (iI al), .int (iI lg), .int (iI tt), .int (iI dn)]))]) (cc := cX7_check) (maxL := 6) (ret := (some .int)) (LV := [(0, .ref h), (1, .int (iI kd)), (2, .int (iI of)), (3, .int (iI vd))]) (by decide) rfl rfl (Nat.le_of_ble_eq_true rfl) ?_
  intro p e s m below meth cd hadm hx hb hr hml hts hown hlocks hname hnoh hxT A hA hK hP hD hS ls hl
  refine lv_iload_n hx hb dX7_check_0 rfl (lv_at hl 1 rfl) ?_
  refine wk_if_lt (tgt := 37) hx hb dX7_check_1 (by decide) (by omega) (fun c_1 => ?_) (fun c_1 => ?_)
  · skip
    refine lv_iload_n hx hb dX7_check_37 rfl (lv_at hl 1 rfl) ?_
    refine wk_if_lt (tgt := 69) hx hb dX7_check_38 (by decide) (by omega) (fun c_2 => ?_) (fun c_2 => ?_)
    · skip
      refine lv_aload_n hx hb dX7_check_69 rfl (lv_at hl 0 rfl) ?_
      refine lv_iconst (v := iI 2) hx hb dX7_check_70 rfl ?_
      refine ck_backI (va_runV (As := [.int (iI 2)]) (rest := []) ⟨hx, hb, hml, hown, hts⟩ (tX7_fails l D kI kZ kL kJ h hRo hNu hWe hDa hVe hSl hTr hBx hSt hLa hOr hSi hTu th sn sm nw rn bn kn cm al lg tt dn 2 s.heap.size ) (cwV 1 hts (gd_V tb_cons wd_702 wd_704 wd_18 wd_41 wd_705) rfl rfl rfl (by decide +kernel) ⟨Nat.le_of_ble_eq_true rfl, Nat.le_of_ble_eq_true rfl⟩) (ck_preV hxT hK hP hD [0] rfl (by decide) (q0 := 0) rfl rfl rfl) rfl rfl hl.1 rfl (lv_room (Nat.le_of_ble_eq_true rfl)) dX7_check_71 ⟨Nat.zero_le _, Nat.zero_le _⟩) hP hD hS hA [0] [] (WR := []) rfl rfl (by decide) (by decide) (ws' := [(h, .inr (7, [.int (iI 2), .int (iI sn), .int (iI sm), .int (iI nw), .ref hRo, .int (iI rn), .int (iI bn), .ref hNu, .ref hWe, .ref hDa, .ref hVe, .int (iI kn), .ref hSl, .ref hTr, .ref hBx, .ref hSt, .ref hLa, .ref hOr, .ref hSi, .ref hTu, .int (iI cm), .int (iI al), .int (iI lg), .int (iI tt), .int (iI dn)]))]) rfl (fun H locs hP hD hS => ?_)
      exact rk_int hx hb hr hlocks hK hP hD hS (by first | rfl | omega) rfl dX7_check_74
    · skip
      exfalso; omega
  · skip
    refine lv_iload_n hx hb dX7_check_4 rfl (lv_at hl 1 rfl) ?_
    refine lv_iconst (v := iI 5) hx hb dX7_check_5 rfl ?_
    refine wk_icmp_gt (tgt := 37) hx hb dX7_check_6 (by decide) (by omega) (fun c_3 => ?_) (fun c_3 => ?_)
    · skip
      refine lv_iload_n hx hb dX7_check_37 rfl (lv_at hl 1 rfl) ?_
      refine wk_if_lt (tgt := 69) hx hb dX7_check_38 (by decide) (by omega) (fun c_4 => ?_) (fun c_4 => ?_)
      · skip
        exfalso; omega
      · skip
        refine lv_iload_n hx hb dX7_check_41 rfl (lv_at hl 1 rfl) ?_
        refine lv_iconst (v := iI 5) hx hb dX7_check_42 rfl ?_
        refine wk_icmp_gt (tgt := 69) hx hb dX7_check_43 (by decide) (by omega) (fun c_5 => ?_) (fun c_5 => ?_)
        · skip
          refine lv_aload_n hx hb dX7_check_69 rfl (lv_at hl 0 rfl) ?_
          refine lv_iconst (v := iI 2) hx hb dX7_check_70 rfl ?_
          refine ck_backI (va_runV (As := [.int (iI 2)]) (rest := []) ⟨hx, hb, hml, hown, hts⟩ (tX7_fails l D kI kZ kL kJ h hRo hNu hWe hDa hVe hSl hTr hBx hSt hLa hOr hSi hTu th sn sm nw rn bn kn cm al lg tt dn 2 s.heap.size ) (cwV 1 hts (gd_V tb_cons wd_702 wd_704 wd_18 wd_41 wd_705) rfl rfl rfl (by decide +kernel) ⟨Nat.le_of_ble_eq_true rfl, Nat.le_of_ble_eq_true rfl⟩) (ck_preV hxT hK hP hD [0] rfl (by decide) (q0 := 0) rfl rfl rfl) rfl rfl hl.1 rfl (lv_room (Nat.le_of_ble_eq_true rfl)) dX7_check_71 ⟨Nat.zero_le _, Nat.zero_le _⟩) hP hD hS hA [0] [] (WR := []) rfl rfl (by decide) (by decide) (ws' := [(h, .inr (7, [.int (iI 2), .int (iI sn), .int (iI sm), .int (iI nw), .ref hRo, .int (iI rn), .int (iI bn), .ref hNu, .ref hWe, .ref hDa, .ref hVe, .int (iI kn), .ref hSl, .ref hTr, .ref hBx, .ref hSt, .ref hLa, .ref hOr, .ref hSi, .ref hTu, .int (iI cm), .int (iI al), .int (iI lg), .int (iI tt), .int (iI dn)]))]) rfl (fun H locs hP hD hS => ?_)
          exact rk_int hx hb hr hlocks hK hP hD hS (by first | rfl | omega) rfl dX7_check_74
        · skip
          exfalso; omega
    · skip
      refine lv_iload_n hx hb dX7_check_9 rfl (lv_at hl 2 rfl) ?_
      refine wk_if_lt (tgt := 31) hx hb dX7_check_10 (by decide) (by omega) (fun c_6 => ?_) (fun c_6 => ?_)
      · skip
        exfalso; omega
      · skip
        refine lv_iload_n hx hb dX7_check_13 rfl (lv_at hl 2 rfl) ?_
        refine lv_iload_n hx hb dX7_check_14 rfl (lv_at hl 1 rfl) ?_
        refine lv_iconst (v := iI 4) hx hb dX7_check_15 rfl ?_
        refine wk_icmp_ge (tgt := 26) hx hb dX7_check_16 (by decide) (by omega) (fun c_7 => ?_) (fun c_7 => ?_)
        · skip
          refine lv_bipush (v := iI 16) hx hb dX7_check_26 (by decide) ?_
          refine wk_icmp_lt (tgt := 37) hx hb dX7_check_28 (by decide) (by omega) (fun c_8 => ?_) (fun c_8 => ?_)
          · skip
            refine lv_iload_n hx hb dX7_check_37 rfl (lv_at hl 1 rfl) ?_
            refine wk_if_lt (tgt := 69) hx hb dX7_check_38 (by decide) (by omega) (fun c_9 => ?_) (fun c_9 => ?_)
            · skip
              exfalso; omega
            · skip
              refine lv_iload_n hx hb dX7_check_41 rfl (lv_at hl 1 rfl) ?_
              refine lv_iconst (v := iI 5) hx hb dX7_check_42 rfl ?_
              refine wk_icmp_gt (tgt := 69) hx hb dX7_check_43 (by decide) (by omega) (fun c_10 => ?_) (fun c_10 => ?_)
              · skip
                exfalso; omega
              · skip
                refine lv_iload_n hx hb dX7_check_46 rfl (lv_at hl 3 rfl) ?_
                refine wk_if_lt (tgt := 69) hx hb dX7_check_47 (by decide) (by omega) (fun c_11 => ?_) (fun c_11 => ?_)
                · skip
                  refine lv_aload_n hx hb dX7_check_69 rfl (lv_at hl 0 rfl) ?_
                  refine lv_iconst (v := iI 2) hx hb dX7_check_70 rfl ?_
                  refine ck_backI (va_runV (As := [.int (iI 2)]) (rest := []) ⟨hx, hb, hml, hown, hts⟩ (tX7_fails l D kI kZ kL kJ h hRo hNu hWe hDa hVe hSl hTr hBx hSt hLa hOr hSi hTu th sn sm nw rn bn kn cm al lg tt dn 2 s.heap.size ) (cwV 1 hts (gd_V tb_cons wd_702 wd_704 wd_18 wd_41 wd_705) rfl rfl rfl (by decide +kernel) ⟨Nat.le_of_ble_eq_true rfl, Nat.le_of_ble_eq_true rfl⟩) (ck_preV hxT hK hP hD [0] rfl (by decide) (q0 := 0) rfl rfl rfl) rfl rfl hl.1 rfl (lv_room (Nat.le_of_ble_eq_true rfl)) dX7_check_71 ⟨Nat.zero_le _, Nat.zero_le _⟩) hP hD hS hA [0] [] (WR := []) rfl rfl (by decide) (by decide) (ws' := [(h, .inr (7, [.int (iI 2), .int (iI sn), .int (iI sm), .int (iI nw), .ref hRo, .int (iI rn), .int (iI bn), .ref hNu, .ref hWe, .ref hDa, .ref hVe, .int (iI kn), .ref hSl, .ref hTr, .ref hBx, .ref hSt, .ref hLa, .ref hOr, .ref hSi, .ref hTu, .int (iI cm), .int (iI al), .int (iI lg), .int (iI tt), .int (iI dn)]))]) rfl (fun H locs hP hD hS => ?_)
                  exact rk_int hx hb hr hlocks hK hP hD hS (by first | rfl | omega) rfl dX7_check_74
                · skip
                  refine lv_iload_n hx hb dX7_check_50 rfl (lv_at hl 3 rfl) ?_
                  refine lv_iload_n hx hb dX7_check_51 rfl (lv_at hl 1 rfl) ?_
                  refine lv_iconst (v := iI 1) hx hb dX7_check_52 rfl ?_
                  refine wk_icmp_eq (tgt := 61) hx hb dX7_check_53 (by decide) (by omega) (fun c_12 => ?_) (fun c_12 => ?_)
                  · skip
                    exfalso; omega
                  · skip
                    refine lv_iload_n hx hb dX7_check_56 rfl (lv_at hl 1 rfl) ?_
                    refine lv_iconst (v := iI 2) hx hb dX7_check_57 rfl ?_
                    refine wk_icmp_ne (tgt := 65) hx hb dX7_check_58 (by decide) (by omega) (fun c_13 => ?_) (fun c_13 => ?_)
                    · skip
                      refine lv_iconst (v := iI 1) hx hb dX7_check_65 rfl ?_
                      refine wk_icmp_le (tgt := 75) hx hb dX7_check_66 (by decide) (by omega) (fun c_14 => ?_) (fun c_14 => ?_)
                      · skip
                        exfalso; omega
                      · skip
                        refine lv_aload_n hx hb dX7_check_69 rfl (lv_at hl 0 rfl) ?_
                        refine lv_iconst (v := iI 2) hx hb dX7_check_70 rfl ?_
                        refine ck_backI (va_runV (As := [.int (iI 2)]) (rest := []) ⟨hx, hb, hml, hown, hts⟩ (tX7_fails l D kI kZ kL kJ h hRo hNu hWe hDa hVe hSl hTr hBx hSt hLa hOr hSi hTu th sn sm nw rn bn kn cm al lg tt dn 2 s.heap.size ) (cwV 1 hts (gd_V tb_cons wd_702 wd_704 wd_18 wd_41 wd_705) rfl rfl rfl (by decide +kernel) ⟨Nat.le_of_ble_eq_true rfl, Nat.le_of_ble_eq_true rfl⟩) (ck_preV hxT hK hP hD [0] rfl (by decide) (q0 := 0) rfl rfl rfl) rfl rfl hl.1 rfl (lv_room (Nat.le_of_ble_eq_true rfl)) dX7_check_71 ⟨Nat.zero_le _, Nat.zero_le _⟩) hP hD hS hA [0] [] (WR := []) rfl rfl (by decide) (by decide) (ws' := [(h, .inr (7, [.int (iI 2), .int (iI sn), .int (iI sm), .int (iI nw), .ref hRo, .int (iI rn), .int (iI bn), .ref hNu, .ref hWe, .ref hDa, .ref hVe, .int (iI kn), .ref hSl, .ref hTr, .ref hBx, .ref hSt, .ref hLa, .ref hOr, .ref hSi, .ref hTu, .int (iI cm), .int (iI al), .int (iI lg), .int (iI tt), .int (iI dn)]))]) rfl (fun H locs hP hD hS => ?_)
                        exact rk_int hx hb hr hlocks hK hP hD hS (by first | rfl | omega) rfl dX7_check_74
                    · skip
                      exfalso; omega
          · skip
            exfalso; omega
        · skip
          refine lv_aload_n hx hb dX7_check_19 rfl (lv_at hl 0 rfl) ?_
          refine va_get (D := D) (ci := 7) (v := .int (iI bn)) (C := RX7) (T := TX7) (N := 25) hx hb hts (fun w h => (List.mem_cons_of_mem _ (hinX7 w h))) hown hK hP 0 rfl rfl 6 (by decide) (hts _ (List.mem_cons_of_mem _ wd_618)) (fun _ h9 => h9) rfl dX7_check_20 ?_
          refine lv_goto (tgt := 28) hx hb dX7_check_23 (by decide) ?_
          refine wk_icmp_lt (tgt := 37) hx hb dX7_check_28 (by decide) (by omega) (fun c_15 => ?_) (fun c_15 => ?_)
          · skip
            refine lv_iload_n hx hb dX7_check_37 rfl (lv_at hl 1 rfl) ?_
            refine wk_if_lt (tgt := 69) hx hb dX7_check_38 (by decide) (by omega) (fun c_16 => ?_) (fun c_16 => ?_)
            · skip
              exfalso; omega
            · skip
              refine lv_iload_n hx hb dX7_check_41 rfl (lv_at hl 1 rfl) ?_
              refine lv_iconst (v := iI 5) hx hb dX7_check_42 rfl ?_
              refine wk_icmp_gt (tgt := 69) hx hb dX7_check_43 (by decide) (by omega) (fun c_17 => ?_) (fun c_17 => ?_)
              · skip
                exfalso; omega
              · skip
                refine lv_iload_n hx hb dX7_check_46 rfl (lv_at hl 3 rfl) ?_
                refine wk_if_lt (tgt := 69) hx hb dX7_check_47 (by decide) (by omega) (fun c_18 => ?_) (fun c_18 => ?_)
                · skip
                  refine lv_aload_n hx hb dX7_check_69 rfl (lv_at hl 0 rfl) ?_
                  refine lv_iconst (v := iI 2) hx hb dX7_check_70 rfl ?_
                  refine ck_backI (va_runV (As := [.int (iI 2)]) (rest := []) ⟨hx, hb, hml, hown, hts⟩ (tX7_fails l D kI kZ kL kJ h hRo hNu hWe hDa hVe hSl hTr hBx hSt hLa hOr hSi hTu th sn sm nw rn bn kn cm al lg tt dn 2 s.heap.size ) (cwV 1 hts (gd_V tb_cons wd_702 wd_704 wd_18 wd_41 wd_705) rfl rfl rfl (by decide +kernel) ⟨Nat.le_of_ble_eq_true rfl, Nat.le_of_ble_eq_true rfl⟩) (ck_preV hxT hK hP hD [0] rfl (by decide) (q0 := 0) rfl rfl rfl) rfl rfl hl.1 rfl (lv_room (Nat.le_of_ble_eq_true rfl)) dX7_check_71 ⟨Nat.zero_le _, Nat.zero_le _⟩) hP hD hS hA [0] [] (WR := []) rfl rfl (by decide) (by decide) (ws' := [(h, .inr (7, [.int (iI 2), .int (iI sn), .int (iI sm), .int (iI nw), .ref hRo, .int (iI rn), .int (iI bn), .ref hNu, .ref hWe, .ref hDa, .ref hVe, .int (iI kn), .ref hSl, .ref hTr, .ref hBx, .ref hSt, .ref hLa, .ref hOr, .ref hSi, .ref hTu, .int (iI cm), .int (iI al), .int (iI lg), .int (iI tt), .int (iI dn)]))]) rfl (fun H locs hP hD hS => ?_)
                  exact rk_int hx hb hr hlocks hK hP hD hS (by first | rfl | omega) rfl dX7_check_74
                · skip
                  refine lv_iload_n hx hb dX7_check_50 rfl (lv_at hl 3 rfl) ?_
                  refine lv_iload_n hx hb dX7_check_51 rfl (lv_at hl 1 rfl) ?_
                  refine lv_iconst (v := iI 1) hx hb dX7_check_52 rfl ?_
                  refine wk_icmp_eq (tgt := 61) hx hb dX7_check_53 (by decide) (by omega) (fun c_19 => ?_) (fun c_19 => ?_)
                  · skip
                    refine lv_iconst (v := iI 2) hx hb dX7_check_61 rfl ?_
                    refine lv_goto (tgt := 66) hx hb dX7_check_62 (by decide) ?_
                    refine wk_icmp_le (tgt := 75) hx hb dX7_check_66 (by decide) (by omega) (fun c_20 => ?_) (fun c_20 => ?_)
                    · skip
                      exfalso; omega
                    · skip
                      refine lv_aload_n hx hb dX7_check_69 rfl (lv_at hl 0 rfl) ?_
                      refine lv_iconst (v := iI 2) hx hb dX7_check_70 rfl ?_
                      refine ck_backI (va_runV (As := [.int (iI 2)]) (rest := []) ⟨hx, hb, hml, hown, hts⟩ (tX7_fails l D kI kZ kL kJ h hRo hNu hWe hDa hVe hSl hTr hBx hSt hLa hOr hSi hTu th sn sm nw rn bn kn cm al lg tt dn 2 s.heap.size ) (cwV 1 hts (gd_V tb_cons wd_702 wd_704 wd_18 wd_41 wd_705) rfl rfl rfl (by decide +kernel) ⟨Nat.le_of_ble_eq_true rfl, Nat.le_of_ble_eq_true rfl⟩) (ck_preV hxT hK hP hD [0] rfl (by decide) (q0 := 0) rfl rfl rfl) rfl rfl hl.1 rfl (lv_room (Nat.le_of_ble_eq_true rfl)) dX7_check_71 ⟨Nat.zero_le _, Nat.zero_le _⟩) hP hD hS hA [0] [] (WR := []) rfl rfl (by decide) (by decide) (ws' := [(h, .inr (7, [.int (iI 2), .int (iI sn), .int (iI sm), .int (iI nw), .ref hRo, .int (iI rn), .int (iI bn), .ref hNu, .ref hWe, .ref hDa, .ref hVe, .int (iI kn), .ref hSl, .ref hTr, .ref hBx, .ref hSt, .ref hLa, .ref hOr, .ref hSi, .ref hTu, .int (iI cm), .int (iI al), .int (iI lg), .int (iI tt), .int (iI dn)]))]) rfl (fun H locs hP hD hS => ?_)
                      exact rk_int hx hb hr hlocks hK hP hD hS (by first | rfl | omega) rfl dX7_check_74
                  · skip
                    refine lv_iload_n hx hb dX7_check_56 rfl (lv_at hl 1 rfl) ?_
                    refine lv_iconst (v := iI 2) hx hb dX7_check_57 rfl ?_
                    refine wk_icmp_ne (tgt := 65) hx hb dX7_check_58 (by decide) (by omega) (fun c_21 => ?_) (fun c_21 => ?_)
                    · skip
                      refine lv_iconst (v := iI 1) hx hb dX7_check_65 rfl ?_
                      refine wk_icmp_le (tgt := 75) hx hb dX7_check_66 (by decide) (by omega) (fun c_22 => ?_) (fun c_22 => ?_)
                      · skip
                        exfalso; omega
                      · skip
                        refine lv_aload_n hx hb dX7_check_69 rfl (lv_at hl 0 rfl) ?_
                        refine lv_iconst (v := iI 2) hx hb dX7_check_70 rfl ?_
                        refine ck_backI (va_runV (As := [.int (iI 2)]) (rest := []) ⟨hx, hb, hml, hown, hts⟩ (tX7_fails l D kI kZ kL kJ h hRo hNu hWe hDa hVe hSl hTr hBx hSt hLa hOr hSi hTu th sn sm nw rn bn kn cm al lg tt dn 2 s.heap.size ) (cwV 1 hts (gd_V tb_cons wd_702 wd_704 wd_18 wd_41 wd_705) rfl rfl rfl (by decide +kernel) ⟨Nat.le_of_ble_eq_true rfl, Nat.le_of_ble_eq_true rfl⟩) (ck_preV hxT hK hP hD [0] rfl (by decide) (q0 := 0) rfl rfl rfl) rfl rfl hl.1 rfl (lv_room (Nat.le_of_ble_eq_true rfl)) dX7_check_71 ⟨Nat.zero_le _, Nat.zero_le _⟩) hP hD hS hA [0] [] (WR := []) rfl rfl (by decide) (by decide) (ws' := [(h, .inr (7, [.int (iI 2), .int (iI sn), .int (iI sm), .int (iI nw), .ref hRo, .int (iI rn), .int (iI bn), .ref hNu, .ref hWe, .ref hDa, .ref hVe, .int (iI kn), .ref hSl, .ref hTr, .ref hBx, .ref hSt, .ref hLa, .ref hOr, .ref hSi, .ref hTu, .int (iI cm), .int (iI al), .int (iI lg), .int (iI tt), .int (iI dn)]))]) rfl (fun H locs hP hD hS => ?_)
                        exact rk_int hx hb hr hlocks hK hP hD hS (by first | rfl | omega) rfl dX7_check_74
                    · skip
                      refine lv_iconst (v := iI 2) hx hb dX7_check_61 rfl ?_
                      refine lv_goto (tgt := 66) hx hb dX7_check_62 (by decide) ?_
                      refine wk_icmp_le (tgt := 75) hx hb dX7_check_66 (by decide) (by omega) (fun c_23 => ?_) (fun c_23 => ?_)
                      · skip
                        exfalso; omega
                      · skip
                        refine lv_aload_n hx hb dX7_check_69 rfl (lv_at hl 0 rfl) ?_
                        refine lv_iconst (v := iI 2) hx hb dX7_check_70 rfl ?_
                        refine ck_backI (va_runV (As := [.int (iI 2)]) (rest := []) ⟨hx, hb, hml, hown, hts⟩ (tX7_fails l D kI kZ kL kJ h hRo hNu hWe hDa hVe hSl hTr hBx hSt hLa hOr hSi hTu th sn sm nw rn bn kn cm al lg tt dn 2 s.heap.size ) (cwV 1 hts (gd_V tb_cons wd_702 wd_704 wd_18 wd_41 wd_705) rfl rfl rfl (by decide +kernel) ⟨Nat.le_of_ble_eq_true rfl, Nat.le_of_ble_eq_true rfl⟩) (ck_preV hxT hK hP hD [0] rfl (by decide) (q0 := 0) rfl rfl rfl) rfl rfl hl.1 rfl (lv_room (Nat.le_of_ble_eq_true rfl)) dX7_check_71 ⟨Nat.zero_le _, Nat.zero_le _⟩) hP hD hS hA [0] [] (WR := []) rfl rfl (by decide) (by decide) (ws' := [(h, .inr (7, [.int (iI 2), .int (iI sn), .int (iI sm), .int (iI nw), .ref hRo, .int (iI rn), .int (iI bn), .ref hNu, .ref hWe, .ref hDa, .ref hVe, .int (iI kn), .ref hSl, .ref hTr, .ref hBx, .ref hSt, .ref hLa, .ref hOr, .ref hSi, .ref hTu, .int (iI cm), .int (iI al), .int (iI lg), .int (iI tt), .int (iI dn)]))]) rfl (fun H locs hP hD hS => ?_)
                        exact rk_int hx hb hr hlocks hK hP hD hS (by first | rfl | omega) rfl dX7_check_74
          · skip
            exfalso; omega

set_option maxHeartbeats 4000000 in
set_option maxRecDepth 100000 in
theorem tX7_check_r (l : Launch) (D : va_G) (kI : ClassId) (kZ : ClassId) (kL : ClassId) (kJ : ClassId) (h : Nat) (hRo : Nat) (hNu : Nat) (hWe : Nat) (hDa : Nat) (hVe : Nat) (hSl : Nat) (hTr : Nat) (hBx : Nat) (hSt : Nat) (hLa : Nat) (hOr : Nat) (hSi : Nat) (hTu : Nat) (mv : Int → Int) (th : Int) (sn : Int) (sm : Int) (nw : Int) (rn : Int) (bn : Int) (kn : Int) (cm : Int) (al : Int) (lg : Int) (tt : Int) (dn : Int) (kd : Int) (of : Int) (vd : Int) (sz : Nat) (hbn : 0 ≤ bn ∧ bn ≤ 20) (hkn : 0 ≤ kn ∧ kn ≤ 60) (h1 : 4 ≤ kd ∧ kd ≤ 5) (h2 : 0 ≤ of ∧ of < 16) (h3 : ((vd = 2 ∧ (kd = 1 ∨ kd = 2)) ∨ vd = 0 ∨ vd = 1)) : CtI l yX7_check wsX7_check ({ frames := 0, cells := 0, slots := 0, locals := 0 }) D vwCl (tyL kI kZ kL kJ) [(h, .inr (7, [.int (iI th), .int (iI sn), .int (iI sm), .int (iI nw), .ref hRo, .int (iI rn), .int (iI bn), .ref hNu, .ref hWe, .ref hDa, .ref hVe, .int (iI kn), .ref hSl, .ref hTr, .ref hBx, .ref hSt, .ref hLa, .ref hOr, .ref hSi, .ref hTu, .int (iI cm), .int (iI al), .int (iI lg), .int (iI tt), .int (iI dn)])), (hVe, .inl (kI, 112, .inl (iF mv)))] [.ref h, .int (iI kd), .int (iI of), .int (iI vd)] (iI 0) [(h, .inr (7, [.int (iI 0), .int (iI sn), .int (iI sm), .int (iI nw), .ref hRo, .int (iI rn), .int (iI bn), .ref hNu, .ref hWe, .ref hDa, .ref hVe, .int (iI kn), .ref hSl, .ref hTr, .ref hBx, .ref hSt, .ref hLa, .ref hOr, .ref hSi, .ref hTu, .int (iI cm), .int (iI al), .int (iI lg), .int (iI tt), .int (iI dn)])), (hVe, .inl (kI, 112, .inl (iF (iu mv (80 + 2 * of + kd - 4) vd))))] sz := by
  refine ck_start (Qc := fun A => cQi D vwCl (tyL kI kZ kL kJ) A (iI 0) [(h, .inr (7, [.int (iI 0), .int (iI sn), .int (iI sm), .int (iI nw), .ref hRo, .int (iI rn), .int (iI bn), .ref hNu, .ref hWe, .ref hDa, .ref hVe, .int (iI kn), .ref hSl, .ref hTr, .ref hBx, .ref hSt, .ref hLa, .ref hOr, .ref hSi, .ref hTu, .int (iI cm), .int (iI al), .int (iI lg), .int (iI tt), .int (iI dn)])), (hVe, .inl (kI, 112, .inl (iF (iu mv (80 + 2 * of + kd - 4) vd))))]) (cc := cX7_check) (maxL := 6) (ret := (some .int)) (LV := [(0, .ref h), (1, .int (iI kd)), (2, .int (iI of)), (3, .int (iI vd))]) (by decide) rfl rfl (Nat.le_of_ble_eq_true rfl) ?_
  intro p e s m below meth cd hadm hx hb hr hml hts hown hlocks hname hnoh hxT A hA hK hP hD hS ls hl
  refine lv_iload_n hx hb dX7_check_0 rfl (lv_at hl 1 rfl) ?_
  refine wk_if_lt (tgt := 37) hx hb dX7_check_1 (by decide) (by omega) (fun c_1 => ?_) (fun c_1 => ?_)
  · skip
    exfalso; omega
  · skip
    refine lv_iload_n hx hb dX7_check_4 rfl (lv_at hl 1 rfl) ?_
    refine lv_iconst (v := iI 5) hx hb dX7_check_5 rfl ?_
    refine wk_icmp_gt (tgt := 37) hx hb dX7_check_6 (by decide) (by omega) (fun c_2 => ?_) (fun c_2 => ?_)
    · skip
      exfalso; omega
    · skip
      refine lv_iload_n hx hb dX7_check_9 rfl (lv_at hl 2 rfl) ?_
      refine wk_if_lt (tgt := 31) hx hb dX7_check_10 (by decide) (by omega) (fun c_3 => ?_) (fun c_3 => ?_)
      · skip
        exfalso; omega
      · skip
        refine lv_iload_n hx hb dX7_check_13 rfl (lv_at hl 2 rfl) ?_
        refine lv_iload_n hx hb dX7_check_14 rfl (lv_at hl 1 rfl) ?_
        refine lv_iconst (v := iI 4) hx hb dX7_check_15 rfl ?_
        refine wk_icmp_ge (tgt := 26) hx hb dX7_check_16 (by decide) (by omega) (fun c_4 => ?_) (fun c_4 => ?_)
        · skip
          refine lv_bipush (v := iI 16) hx hb dX7_check_26 (by decide) ?_
          refine wk_icmp_lt (tgt := 37) hx hb dX7_check_28 (by decide) (by omega) (fun c_5 => ?_) (fun c_5 => ?_)
          · skip
            refine lv_iload_n hx hb dX7_check_37 rfl (lv_at hl 1 rfl) ?_
            refine wk_if_lt (tgt := 69) hx hb dX7_check_38 (by decide) (by omega) (fun c_6 => ?_) (fun c_6 => ?_)
            · skip
              exfalso; omega
            · skip
              refine lv_iload_n hx hb dX7_check_41 rfl (lv_at hl 1 rfl) ?_
              refine lv_iconst (v := iI 5) hx hb dX7_check_42 rfl ?_
              refine wk_icmp_gt (tgt := 69) hx hb dX7_check_43 (by decide) (by omega) (fun c_7 => ?_) (fun c_7 => ?_)
              · skip
                exfalso; omega
              · skip
                refine lv_iload_n hx hb dX7_check_46 rfl (lv_at hl 3 rfl) ?_
                refine wk_if_lt (tgt := 69) hx hb dX7_check_47 (by decide) (by omega) (fun c_8 => ?_) (fun c_8 => ?_)
                · skip
                  exfalso; omega
                · skip
                  refine lv_iload_n hx hb dX7_check_50 rfl (lv_at hl 3 rfl) ?_
                  refine lv_iload_n hx hb dX7_check_51 rfl (lv_at hl 1 rfl) ?_
                  refine lv_iconst (v := iI 1) hx hb dX7_check_52 rfl ?_
                  refine wk_icmp_eq (tgt := 61) hx hb dX7_check_53 (by decide) (by omega) (fun c_9 => ?_) (fun c_9 => ?_)
                  · skip
                    exfalso; omega
                  · skip
                    refine lv_iload_n hx hb dX7_check_56 rfl (lv_at hl 1 rfl) ?_
                    refine lv_iconst (v := iI 2) hx hb dX7_check_57 rfl ?_
                    refine wk_icmp_ne (tgt := 65) hx hb dX7_check_58 (by decide) (by omega) (fun c_10 => ?_) (fun c_10 => ?_)
                    · skip
                      refine lv_iconst (v := iI 1) hx hb dX7_check_65 rfl ?_
                      refine wk_icmp_le (tgt := 75) hx hb dX7_check_66 (by decide) (by omega) (fun c_11 => ?_) (fun c_11 => ?_)
                      · skip
                        refine lv_aload_n hx hb dX7_check_75 rfl (lv_at hl 0 rfl) ?_
                        refine lv_iconst (v := iI 0) hx hb dX7_check_76 rfl ?_
                        refine wk_put (ci := 7) (C := RX7) (T := TX7) (N := 25) hx hb hts (fun w h => (List.mem_cons_of_mem _ (hinX7 w h))) tyX7 tyX7_ok nmX7 hown hK hP hD hS 0 rfl rfl 0 (by decide) (hts _ (List.mem_cons_of_mem _ wd_612)) (fun _ h9 => h9) rfl rfl (Nat.le_of_ble_eq_true rfl) dX7_check_77 (ws' := [(h, .inr (7, [.int (iI 0), .int (iI sn), .int (iI sm), .int (iI nw), .ref hRo, .int (iI rn), .int (iI bn), .ref hNu, .ref hWe, .ref hDa, .ref hVe, .int (iI kn), .ref hSl, .ref hTr, .ref hBx, .ref hSt, .ref hLa, .ref hOr, .ref hSi, .ref hTu, .int (iI cm), .int (iI al), .int (iI lg), .int (iI tt), .int (iI dn)])), (hVe, .inl (kI, 112, .inl (iF mv)))]) rfl (fun H locs hP hD hS => ?_)
                        refine lv_aload_n hx hb dX7_check_80 rfl (lv_at hl 0 rfl) ?_
                        refine va_get (D := D) (ci := 7) (v := .ref hVe) (C := RX7) (T := TX7) (N := 25) hx hb hts (fun w h => (List.mem_cons_of_mem _ (hinX7 w h))) hown hK hP 0 rfl rfl 10 (by decide) (hts _ (List.mem_cons_of_mem _ wd_622)) (fun _ h9 => h9) rfl dX7_check_81 ?_
                        refine lv_iload_n hx hb dX7_check_84 rfl (lv_at hl 1 rfl) ?_
                        refine lv_iconst (v := iI 4) hx hb dX7_check_85 rfl ?_
                        refine wk_icmp_ge (tgt := 97) hx hb dX7_check_86 (by decide) (by omega) (fun c_12 => ?_) (fun c_12 => ?_)
                        · skip
                          refine lv_bipush (v := iI 80) hx hb dX7_check_97 (by decide) ?_
                          refine lv_iconst (v := iI 2) hx hb dX7_check_99 rfl ?_
                          refine lv_iload_n hx hb dX7_check_100 rfl (lv_at hl 2 rfl) ?_
                          refine wk_imul hx hb dX7_check_101 ?_
                          refine wk_iadd hx hb dX7_check_102 ?_
                          refine lv_iload_n hx hb dX7_check_103 rfl (lv_at hl 1 rfl) ?_
                          refine wk_iadd hx hb dX7_check_104 ?_
                          refine lv_iconst (v := iI 4) hx hb dX7_check_105 rfl ?_
                          refine wk_isub hx hb dX7_check_106 ?_
                          refine lv_iload_n hx hb dX7_check_107 rfl (lv_at hl 3 rfl) ?_
                          refine wk_iast hx hb hK hP hD hS 1 0 rfl rfl (by decide) (by omega) dX7_check_108 (ws' := [(h, .inr (7, [.int (iI 0), .int (iI sn), .int (iI sm), .int (iI nw), .ref hRo, .int (iI rn), .int (iI bn), .ref hNu, .ref hWe, .ref hDa, .ref hVe, .int (iI kn), .ref hSl, .ref hTr, .ref hBx, .ref hSt, .ref hLa, .ref hOr, .ref hSi, .ref hTu, .int (iI cm), .int (iI al), .int (iI lg), .int (iI tt), .int (iI dn)])), (hVe, .inl (kI, 112, .inl (iF (iu mv (((80 + (2 * of)) + kd) - 4) vd))))]) rfl (fun H locs hP hD hS => ?_)
                          refine lv_iconst (v := iI 0) hx hb dX7_check_109 rfl ?_
                          refine lv_istore (lv' := [(4, .int (iI 0)), (0, .ref h), (1, .int (iI kd)), (2, .int (iI of)), (3, .int (iI vd))]) hx hb dX7_check_110 hl (by decide) rfl (fun ls hl => ?_)
                          refine lv_iconst (v := iI 1) hx hb dX7_check_112 rfl ?_
                          refine lv_istore (lv' := [(5, .int (iI 1)), (4, .int (iI 0)), (0, .ref h), (1, .int (iI kd)), (2, .int (iI of)), (3, .int (iI vd))]) hx hb dX7_check_113 hl (by decide) rfl (fun ls hl => ?_)
                          refine lv_iload hx hb dX7_check_115 (lv_at hl 0 rfl) ?_
                          refine lv_aload_n hx hb dX7_check_117 rfl (lv_at hl 2 rfl) ?_
                          refine va_get (D := D) (ci := 7) (v := .int (iI kn)) (C := RX7) (T := TX7) (N := 25) hx hb hts (fun w h => (List.mem_cons_of_mem _ (hinX7 w h))) hown hK hP 0 rfl rfl 11 (by decide) (hts _ (List.mem_cons_of_mem _ wd_623)) (fun _ h9 => h9) rfl dX7_check_118 ?_
                          refine wk_icmp_gt (tgt := 171) hx hb dX7_check_121 (by decide) (by omega) (fun c_13 => ?_) (fun c_13 => ?_)
                          · skip
                            refine lv_iload hx hb dX7_check_171 (lv_at hl 1 rfl) ?_
                            exact rk_int hx hb hr hlocks hK hP hD hS (by first | rfl | omega) rfl dX7_check_173
                          · skip
                            refine lv_iload_n hx hb dX7_check_124 rfl (lv_at hl 3 rfl) ?_
                            refine wk_if_ne (tgt := 171) hx hb dX7_check_125 (by decide) (by omega) (fun c_14 => ?_) (fun c_14 => ?_)
                            · skip
                              refine lv_iload hx hb dX7_check_171 (lv_at hl 1 rfl) ?_
                              exact rk_int hx hb hr hlocks hK hP hD hS (by first | rfl | omega) rfl dX7_check_173
                            · skip
                              exfalso; omega
                        · skip
                          exfalso; omega
                      · skip
                        exfalso; omega
                    · skip
                      exfalso; omega
          · skip
            exfalso; omega
        · skip
          exfalso; omega

set_option maxHeartbeats 4000000 in
set_option maxRecDepth 100000 in
theorem tX7_check_b (l : Launch) (D : va_G) (kI : ClassId) (kZ : ClassId) (kL : ClassId) (kJ : ClassId) (h : Nat) (hRo : Nat) (hNu : Nat) (hWe : Nat) (hDa : Nat) (hVe : Nat) (hSl : Nat) (hTr : Nat) (hBx : Nat) (hSt : Nat) (hLa : Nat) (hOr : Nat) (hSi : Nat) (hTu : Nat) (mv : Int → Int) (th : Int) (sn : Int) (sm : Int) (nw : Int) (rn : Int) (bn : Int) (kn : Int) (cm : Int) (al : Int) (lg : Int) (tt : Int) (dn : Int) (kd : Int) (of : Int) (vd : Int) (sz : Nat) (hbn : 0 ≤ bn ∧ bn ≤ 20) (hkn : 0 ≤ kn ∧ kn ≤ 60) (h1 : 0 ≤ kd ∧ kd < 4) (h2 : 0 ≤ of ∧ of < bn) (h3 : ((vd = 2 ∧ (kd = 1 ∨ kd = 2)) ∨ vd = 0 ∨ vd = 1)) (h4 : ¬ (kd = 0 ∧ vd = 0)) : CtI l yX7_check wsX7_check ({ frames := 0, cells := 0, slots := 0, locals := 0 }) D vwCl (tyL kI kZ kL kJ) [(h, .inr (7, [.int (iI th), .int (iI sn), .int (iI sm), .int (iI nw), .ref hRo, .int (iI rn), .int (iI bn), .ref hNu, .ref hWe, .ref hDa, .ref hVe, .int (iI kn), .ref hSl, .ref hTr, .ref hBx, .ref hSt, .ref hLa, .ref hOr, .ref hSi, .ref hTu, .int (iI cm), .int (iI al), .int (iI lg), .int (iI tt), .int (iI dn)])), (hVe, .inl (kI, 112, .inl (iF mv)))] [.ref h, .int (iI kd), .int (iI of), .int (iI vd)] (iI 0) [(h, .inr (7, [.int (iI 0), .int (iI sn), .int (iI sm), .int (iI nw), .ref hRo, .int (iI rn), .int (iI bn), .ref hNu, .ref hWe, .ref hDa, .ref hVe, .int (iI kn), .ref hSl, .ref hTr, .ref hBx, .ref hSt, .ref hLa, .ref hOr, .ref hSi, .ref hTu, .int (iI cm), .int (iI al), .int (iI lg), .int (iI tt), .int (iI dn)])), (hVe, .inl (kI, 112, .inl (iF (iu mv (4 * of + kd) vd))))] sz := by
  refine ck_start (Qc := fun A => cQi D vwCl (tyL kI kZ kL kJ) A (iI 0) [(h, .inr (7, [.int (iI 0), .int (iI sn), .int (iI sm), .int (iI nw), .ref hRo, .int (iI rn), .int (iI bn), .ref hNu, .ref hWe, .ref hDa, .ref hVe, .int (iI kn), .ref hSl, .ref hTr, .ref hBx, .ref hSt, .ref hLa, .ref hOr, .ref hSi, .ref hTu, .int (iI cm), .int (iI al), .int (iI lg), .int (iI tt), .int (iI dn)])), (hVe, .inl (kI, 112, .inl (iF (iu mv (4 * of + kd) vd))))]) (cc := cX7_check) (maxL := 6) (ret := (some .int)) (LV := [(0, .ref h), (1, .int (iI kd)), (2, .int (iI of)), (3, .int (iI vd))]) (by decide) rfl rfl (Nat.le_of_ble_eq_true rfl) ?_
  intro p e s m below meth cd hadm hx hb hr hml hts hown hlocks hname hnoh hxT A hA hK hP hD hS ls hl
  refine lv_iload_n hx hb dX7_check_0 rfl (lv_at hl 1 rfl) ?_
  refine wk_if_lt (tgt := 37) hx hb dX7_check_1 (by decide) (by omega) (fun c_1 => ?_) (fun c_1 => ?_)
  · skip
    exfalso; omega
  · skip
    refine lv_iload_n hx hb dX7_check_4 rfl (lv_at hl 1 rfl) ?_
    refine lv_iconst (v := iI 5) hx hb dX7_check_5 rfl ?_
    refine wk_icmp_gt (tgt := 37) hx hb dX7_check_6 (by decide) (by omega) (fun c_2 => ?_) (fun c_2 => ?_)
    · skip
      exfalso; omega
    · skip
      refine lv_iload_n hx hb dX7_check_9 rfl (lv_at hl 2 rfl) ?_
      refine wk_if_lt (tgt := 31) hx hb dX7_check_10 (by decide) (by omega) (fun c_3 => ?_) (fun c_3 => ?_)
      · skip
        exfalso; omega
      · skip
        refine lv_iload_n hx hb dX7_check_13 rfl (lv_at hl 2 rfl) ?_
        refine lv_iload_n hx hb dX7_check_14 rfl (lv_at hl 1 rfl) ?_
        refine lv_iconst (v := iI 4) hx hb dX7_check_15 rfl ?_
        refine wk_icmp_ge (tgt := 26) hx hb dX7_check_16 (by decide) (by omega) (fun c_4 => ?_) (fun c_4 => ?_)
        · skip
          exfalso; omega
        · skip
          refine lv_aload_n hx hb dX7_check_19 rfl (lv_at hl 0 rfl) ?_
          refine va_get (D := D) (ci := 7) (v := .int (iI bn)) (C := RX7) (T := TX7) (N := 25) hx hb hts (fun w h => (List.mem_cons_of_mem _ (hinX7 w h))) hown hK hP 0 rfl rfl 6 (by decide) (hts _ (List.mem_cons_of_mem _ wd_618)) (fun _ h9 => h9) rfl dX7_check_20 ?_
          refine lv_goto (tgt := 28) hx hb dX7_check_23 (by decide) ?_
          refine wk_icmp_lt (tgt := 37) hx hb dX7_check_28 (by decide) (by omega) (fun c_5 => ?_) (fun c_5 => ?_)
          · skip
            refine lv_iload_n hx hb dX7_check_37 rfl (lv_at hl 1 rfl) ?_
            refine wk_if_lt (tgt := 69) hx hb dX7_check_38 (by decide) (by omega) (fun c_6 => ?_) (fun c_6 => ?_)
            · skip
              exfalso; omega
            · skip
              refine lv_iload_n hx hb dX7_check_41 rfl (lv_at hl 1 rfl) ?_
              refine lv_iconst (v := iI 5) hx hb dX7_check_42 rfl ?_
              refine wk_icmp_gt (tgt := 69) hx hb dX7_check_43 (by decide) (by omega) (fun c_7 => ?_) (fun c_7 => ?_)
              · skip
                exfalso; omega
              · skip
                refine lv_iload_n hx hb dX7_check_46 rfl (lv_at hl 3 rfl) ?_
                refine wk_if_lt (tgt := 69) hx hb dX7_check_47 (by decide) (by omega) (fun c_8 => ?_) (fun c_8 => ?_)
                · skip
                  exfalso; omega
                · skip
                  refine lv_iload_n hx hb dX7_check_50 rfl (lv_at hl 3 rfl) ?_
                  refine lv_iload_n hx hb dX7_check_51 rfl (lv_at hl 1 rfl) ?_
                  refine lv_iconst (v := iI 1) hx hb dX7_check_52 rfl ?_
                  refine wk_icmp_eq (tgt := 61) hx hb dX7_check_53 (by decide) (by omega) (fun c_9 => ?_) (fun c_9 => ?_)
                  · skip
                    refine lv_iconst (v := iI 2) hx hb dX7_check_61 rfl ?_
                    refine lv_goto (tgt := 66) hx hb dX7_check_62 (by decide) ?_
                    refine wk_icmp_le (tgt := 75) hx hb dX7_check_66 (by decide) (by omega) (fun c_10 => ?_) (fun c_10 => ?_)
                    · skip
                      refine lv_aload_n hx hb dX7_check_75 rfl (lv_at hl 0 rfl) ?_
                      refine lv_iconst (v := iI 0) hx hb dX7_check_76 rfl ?_
                      refine wk_put (ci := 7) (C := RX7) (T := TX7) (N := 25) hx hb hts (fun w h => (List.mem_cons_of_mem _ (hinX7 w h))) tyX7 tyX7_ok nmX7 hown hK hP hD hS 0 rfl rfl 0 (by decide) (hts _ (List.mem_cons_of_mem _ wd_612)) (fun _ h9 => h9) rfl rfl (Nat.le_of_ble_eq_true rfl) dX7_check_77 (ws' := [(h, .inr (7, [.int (iI 0), .int (iI sn), .int (iI sm), .int (iI nw), .ref hRo, .int (iI rn), .int (iI bn), .ref hNu, .ref hWe, .ref hDa, .ref hVe, .int (iI kn), .ref hSl, .ref hTr, .ref hBx, .ref hSt, .ref hLa, .ref hOr, .ref hSi, .ref hTu, .int (iI cm), .int (iI al), .int (iI lg), .int (iI tt), .int (iI dn)])), (hVe, .inl (kI, 112, .inl (iF mv)))]) rfl (fun H locs hP hD hS => ?_)
                      refine lv_aload_n hx hb dX7_check_80 rfl (lv_at hl 0 rfl) ?_
                      refine va_get (D := D) (ci := 7) (v := .ref hVe) (C := RX7) (T := TX7) (N := 25) hx hb hts (fun w h => (List.mem_cons_of_mem _ (hinX7 w h))) hown hK hP 0 rfl rfl 10 (by decide) (hts _ (List.mem_cons_of_mem _ wd_622)) (fun _ h9 => h9) rfl dX7_check_81 ?_
                      refine lv_iload_n hx hb dX7_check_84 rfl (lv_at hl 1 rfl) ?_
                      refine lv_iconst (v := iI 4) hx hb dX7_check_85 rfl ?_
                      refine wk_icmp_ge (tgt := 97) hx hb dX7_check_86 (by decide) (by omega) (fun c_11 => ?_) (fun c_11 => ?_)
                      · skip
                        exfalso; omega
                      · skip
                        refine lv_iconst (v := iI 4) hx hb dX7_check_89 rfl ?_
                        refine lv_iload_n hx hb dX7_check_90 rfl (lv_at hl 2 rfl) ?_
                        refine wk_imul hx hb dX7_check_91 ?_
                        refine lv_iload_n hx hb dX7_check_92 rfl (lv_at hl 1 rfl) ?_
                        refine wk_iadd hx hb dX7_check_93 ?_
                        refine lv_goto (tgt := 107) hx hb dX7_check_94 (by decide) ?_
                        refine lv_iload_n hx hb dX7_check_107 rfl (lv_at hl 3 rfl) ?_
                        refine wk_iast hx hb hK hP hD hS 1 0 rfl rfl (by decide) (by omega) dX7_check_108 (ws' := [(h, .inr (7, [.int (iI 0), .int (iI sn), .int (iI sm), .int (iI nw), .ref hRo, .int (iI rn), .int (iI bn), .ref hNu, .ref hWe, .ref hDa, .ref hVe, .int (iI kn), .ref hSl, .ref hTr, .ref hBx, .ref hSt, .ref hLa, .ref hOr, .ref hSi, .ref hTu, .int (iI cm), .int (iI al), .int (iI lg), .int (iI tt), .int (iI dn)])), (hVe, .inl (kI, 112, .inl (iF (iu mv ((4 * of) + kd) vd))))]) rfl (fun H locs hP hD hS => ?_)
                        refine lv_iconst (v := iI 0) hx hb dX7_check_109 rfl ?_
                        refine lv_istore (lv' := [(4, .int (iI 0)), (0, .ref h), (1, .int (iI kd)), (2, .int (iI of)), (3, .int (iI vd))]) hx hb dX7_check_110 hl (by decide) rfl (fun ls hl => ?_)
                        refine lv_iconst (v := iI 1) hx hb dX7_check_112 rfl ?_
                        refine lv_istore (lv' := [(5, .int (iI 1)), (4, .int (iI 0)), (0, .ref h), (1, .int (iI kd)), (2, .int (iI of)), (3, .int (iI vd))]) hx hb dX7_check_113 hl (by decide) rfl (fun ls hl => ?_)
                        refine lv_iload hx hb dX7_check_115 (lv_at hl 0 rfl) ?_
                        refine lv_aload_n hx hb dX7_check_117 rfl (lv_at hl 2 rfl) ?_
                        refine va_get (D := D) (ci := 7) (v := .int (iI kn)) (C := RX7) (T := TX7) (N := 25) hx hb hts (fun w h => (List.mem_cons_of_mem _ (hinX7 w h))) hown hK hP 0 rfl rfl 11 (by decide) (hts _ (List.mem_cons_of_mem _ wd_623)) (fun _ h9 => h9) rfl dX7_check_118 ?_
                        refine wk_icmp_gt (tgt := 171) hx hb dX7_check_121 (by decide) (by omega) (fun c_12 => ?_) (fun c_12 => ?_)
                        · skip
                          refine lv_iload hx hb dX7_check_171 (lv_at hl 1 rfl) ?_
                          exact rk_int hx hb hr hlocks hK hP hD hS (by first | rfl | omega) rfl dX7_check_173
                        · skip
                          refine lv_iload_n hx hb dX7_check_124 rfl (lv_at hl 3 rfl) ?_
                          refine wk_if_ne (tgt := 171) hx hb dX7_check_125 (by decide) (by omega) (fun c_13 => ?_) (fun c_13 => ?_)
                          · skip
                            refine lv_iload hx hb dX7_check_171 (lv_at hl 1 rfl) ?_
                            exact rk_int hx hb hr hlocks hK hP hD hS (by first | rfl | omega) rfl dX7_check_173
                          · skip
                            exfalso; omega
                    · skip
                      exfalso; omega
                  · skip
                    refine lv_iload_n hx hb dX7_check_56 rfl (lv_at hl 1 rfl) ?_
                    refine lv_iconst (v := iI 2) hx hb dX7_check_57 rfl ?_
                    refine wk_icmp_ne (tgt := 65) hx hb dX7_check_58 (by decide) (by omega) (fun c_14 => ?_) (fun c_14 => ?_)
                    · skip
                      refine lv_iconst (v := iI 1) hx hb dX7_check_65 rfl ?_
                      refine wk_icmp_le (tgt := 75) hx hb dX7_check_66 (by decide) (by omega) (fun c_15 => ?_) (fun c_15 => ?_)
                      · skip
                        refine lv_aload_n hx hb dX7_check_75 rfl (lv_at hl 0 rfl) ?_
                        refine lv_iconst (v := iI 0) hx hb dX7_check_76 rfl ?_
                        refine wk_put (ci := 7) (C := RX7) (T := TX7) (N := 25) hx hb hts (fun w h => (List.mem_cons_of_mem _ (hinX7 w h))) tyX7 tyX7_ok nmX7 hown hK hP hD hS 0 rfl rfl 0 (by decide) (hts _ (List.mem_cons_of_mem _ wd_612)) (fun _ h9 => h9) rfl rfl (Nat.le_of_ble_eq_true rfl) dX7_check_77 (ws' := [(h, .inr (7, [.int (iI 0), .int (iI sn), .int (iI sm), .int (iI nw), .ref hRo, .int (iI rn), .int (iI bn), .ref hNu, .ref hWe, .ref hDa, .ref hVe, .int (iI kn), .ref hSl, .ref hTr, .ref hBx, .ref hSt, .ref hLa, .ref hOr, .ref hSi, .ref hTu, .int (iI cm), .int (iI al), .int (iI lg), .int (iI tt), .int (iI dn)])), (hVe, .inl (kI, 112, .inl (iF mv)))]) rfl (fun H locs hP hD hS => ?_)
                        refine lv_aload_n hx hb dX7_check_80 rfl (lv_at hl 0 rfl) ?_
                        refine va_get (D := D) (ci := 7) (v := .ref hVe) (C := RX7) (T := TX7) (N := 25) hx hb hts (fun w h => (List.mem_cons_of_mem _ (hinX7 w h))) hown hK hP 0 rfl rfl 10 (by decide) (hts _ (List.mem_cons_of_mem _ wd_622)) (fun _ h9 => h9) rfl dX7_check_81 ?_
                        refine lv_iload_n hx hb dX7_check_84 rfl (lv_at hl 1 rfl) ?_
                        refine lv_iconst (v := iI 4) hx hb dX7_check_85 rfl ?_
                        refine wk_icmp_ge (tgt := 97) hx hb dX7_check_86 (by decide) (by omega) (fun c_16 => ?_) (fun c_16 => ?_)
                        · skip
                          exfalso; omega
                        · skip
                          refine lv_iconst (v := iI 4) hx hb dX7_check_89 rfl ?_
                          refine lv_iload_n hx hb dX7_check_90 rfl (lv_at hl 2 rfl) ?_
                          refine wk_imul hx hb dX7_check_91 ?_
                          refine lv_iload_n hx hb dX7_check_92 rfl (lv_at hl 1 rfl) ?_
                          refine wk_iadd hx hb dX7_check_93 ?_
                          refine lv_goto (tgt := 107) hx hb dX7_check_94 (by decide) ?_
                          refine lv_iload_n hx hb dX7_check_107 rfl (lv_at hl 3 rfl) ?_
                          refine wk_iast hx hb hK hP hD hS 1 0 rfl rfl (by decide) (by omega) dX7_check_108 (ws' := [(h, .inr (7, [.int (iI 0), .int (iI sn), .int (iI sm), .int (iI nw), .ref hRo, .int (iI rn), .int (iI bn), .ref hNu, .ref hWe, .ref hDa, .ref hVe, .int (iI kn), .ref hSl, .ref hTr, .ref hBx, .ref hSt, .ref hLa, .ref hOr, .ref hSi, .ref hTu, .int (iI cm), .int (iI al), .int (iI lg), .int (iI tt), .int (iI dn)])), (hVe, .inl (kI, 112, .inl (iF (iu mv ((4 * of) + kd) vd))))]) rfl (fun H locs hP hD hS => ?_)
                          refine lv_iconst (v := iI 0) hx hb dX7_check_109 rfl ?_
                          refine lv_istore (lv' := [(4, .int (iI 0)), (0, .ref h), (1, .int (iI kd)), (2, .int (iI of)), (3, .int (iI vd))]) hx hb dX7_check_110 hl (by decide) rfl (fun ls hl => ?_)
                          refine lv_iconst (v := iI 1) hx hb dX7_check_112 rfl ?_
                          refine lv_istore (lv' := [(5, .int (iI 1)), (4, .int (iI 0)), (0, .ref h), (1, .int (iI kd)), (2, .int (iI of)), (3, .int (iI vd))]) hx hb dX7_check_113 hl (by decide) rfl (fun ls hl => ?_)
                          refine lv_iload hx hb dX7_check_115 (lv_at hl 0 rfl) ?_
                          refine lv_aload_n hx hb dX7_check_117 rfl (lv_at hl 2 rfl) ?_
                          refine va_get (D := D) (ci := 7) (v := .int (iI kn)) (C := RX7) (T := TX7) (N := 25) hx hb hts (fun w h => (List.mem_cons_of_mem _ (hinX7 w h))) hown hK hP 0 rfl rfl 11 (by decide) (hts _ (List.mem_cons_of_mem _ wd_623)) (fun _ h9 => h9) rfl dX7_check_118 ?_
                          refine wk_icmp_gt (tgt := 171) hx hb dX7_check_121 (by decide) (by omega) (fun c_17 => ?_) (fun c_17 => ?_)
                          · skip
                            refine lv_iload hx hb dX7_check_171 (lv_at hl 1 rfl) ?_
                            exact rk_int hx hb hr hlocks hK hP hD hS (by first | rfl | omega) rfl dX7_check_173
                          · skip
                            refine lv_iload_n hx hb dX7_check_124 rfl (lv_at hl 3 rfl) ?_
                            refine wk_if_ne (tgt := 171) hx hb dX7_check_125 (by decide) (by omega) (fun c_18 => ?_) (fun c_18 => ?_)
                            · skip
                              refine lv_iload hx hb dX7_check_171 (lv_at hl 1 rfl) ?_
                              exact rk_int hx hb hr hlocks hK hP hD hS (by first | rfl | omega) rfl dX7_check_173
                            · skip
                              refine lv_iload_n hx hb dX7_check_128 rfl (lv_at hl 5 rfl) ?_
                              refine wk_if_ne (tgt := 171) hx hb dX7_check_129 (by decide) (by omega) (fun c_19 => ?_) (fun c_19 => ?_)
                              · skip
                                refine lv_iload hx hb dX7_check_171 (lv_at hl 1 rfl) ?_
                                exact rk_int hx hb hr hlocks hK hP hD hS (by first | rfl | omega) rfl dX7_check_173
                              · skip
                                exfalso; omega
                      · skip
                        exfalso; omega
                    · skip
                      refine lv_iconst (v := iI 2) hx hb dX7_check_61 rfl ?_
                      refine lv_goto (tgt := 66) hx hb dX7_check_62 (by decide) ?_
                      refine wk_icmp_le (tgt := 75) hx hb dX7_check_66 (by decide) (by omega) (fun c_20 => ?_) (fun c_20 => ?_)
                      · skip
                        refine lv_aload_n hx hb dX7_check_75 rfl (lv_at hl 0 rfl) ?_
                        refine lv_iconst (v := iI 0) hx hb dX7_check_76 rfl ?_
                        refine wk_put (ci := 7) (C := RX7) (T := TX7) (N := 25) hx hb hts (fun w h => (List.mem_cons_of_mem _ (hinX7 w h))) tyX7 tyX7_ok nmX7 hown hK hP hD hS 0 rfl rfl 0 (by decide) (hts _ (List.mem_cons_of_mem _ wd_612)) (fun _ h9 => h9) rfl rfl (Nat.le_of_ble_eq_true rfl) dX7_check_77 (ws' := [(h, .inr (7, [.int (iI 0), .int (iI sn), .int (iI sm), .int (iI nw), .ref hRo, .int (iI rn), .int (iI bn), .ref hNu, .ref hWe, .ref hDa, .ref hVe, .int (iI kn), .ref hSl, .ref hTr, .ref hBx, .ref hSt, .ref hLa, .ref hOr, .ref hSi, .ref hTu, .int (iI cm), .int (iI al), .int (iI lg), .int (iI tt), .int (iI dn)])), (hVe, .inl (kI, 112, .inl (iF mv)))]) rfl (fun H locs hP hD hS => ?_)
                        refine lv_aload_n hx hb dX7_check_80 rfl (lv_at hl 0 rfl) ?_
                        refine va_get (D := D) (ci := 7) (v := .ref hVe) (C := RX7) (T := TX7) (N := 25) hx hb hts (fun w h => (List.mem_cons_of_mem _ (hinX7 w h))) hown hK hP 0 rfl rfl 10 (by decide) (hts _ (List.mem_cons_of_mem _ wd_622)) (fun _ h9 => h9) rfl dX7_check_81 ?_
                        refine lv_iload_n hx hb dX7_check_84 rfl (lv_at hl 1 rfl) ?_
                        refine lv_iconst (v := iI 4) hx hb dX7_check_85 rfl ?_
                        refine wk_icmp_ge (tgt := 97) hx hb dX7_check_86 (by decide) (by omega) (fun c_21 => ?_) (fun c_21 => ?_)
                        · skip
                          exfalso; omega
                        · skip
                          refine lv_iconst (v := iI 4) hx hb dX7_check_89 rfl ?_
                          refine lv_iload_n hx hb dX7_check_90 rfl (lv_at hl 2 rfl) ?_
                          refine wk_imul hx hb dX7_check_91 ?_
                          refine lv_iload_n hx hb dX7_check_92 rfl (lv_at hl 1 rfl) ?_
                          refine wk_iadd hx hb dX7_check_93 ?_
                          refine lv_goto (tgt := 107) hx hb dX7_check_94 (by decide) ?_
                          refine lv_iload_n hx hb dX7_check_107 rfl (lv_at hl 3 rfl) ?_
                          refine wk_iast hx hb hK hP hD hS 1 0 rfl rfl (by decide) (by omega) dX7_check_108 (ws' := [(h, .inr (7, [.int (iI 0), .int (iI sn), .int (iI sm), .int (iI nw), .ref hRo, .int (iI rn), .int (iI bn), .ref hNu, .ref hWe, .ref hDa, .ref hVe, .int (iI kn), .ref hSl, .ref hTr, .ref hBx, .ref hSt, .ref hLa, .ref hOr, .ref hSi, .ref hTu, .int (iI cm), .int (iI al), .int (iI lg), .int (iI tt), .int (iI dn)])), (hVe, .inl (kI, 112, .inl (iF (iu mv ((4 * of) + kd) vd))))]) rfl (fun H locs hP hD hS => ?_)
                          refine lv_iconst (v := iI 0) hx hb dX7_check_109 rfl ?_
                          refine lv_istore (lv' := [(4, .int (iI 0)), (0, .ref h), (1, .int (iI kd)), (2, .int (iI of)), (3, .int (iI vd))]) hx hb dX7_check_110 hl (by decide) rfl (fun ls hl => ?_)
                          refine lv_iconst (v := iI 1) hx hb dX7_check_112 rfl ?_
                          refine lv_istore (lv' := [(5, .int (iI 1)), (4, .int (iI 0)), (0, .ref h), (1, .int (iI kd)), (2, .int (iI of)), (3, .int (iI vd))]) hx hb dX7_check_113 hl (by decide) rfl (fun ls hl => ?_)
                          refine lv_iload hx hb dX7_check_115 (lv_at hl 0 rfl) ?_
                          refine lv_aload_n hx hb dX7_check_117 rfl (lv_at hl 2 rfl) ?_
                          refine va_get (D := D) (ci := 7) (v := .int (iI kn)) (C := RX7) (T := TX7) (N := 25) hx hb hts (fun w h => (List.mem_cons_of_mem _ (hinX7 w h))) hown hK hP 0 rfl rfl 11 (by decide) (hts _ (List.mem_cons_of_mem _ wd_623)) (fun _ h9 => h9) rfl dX7_check_118 ?_
                          refine wk_icmp_gt (tgt := 171) hx hb dX7_check_121 (by decide) (by omega) (fun c_22 => ?_) (fun c_22 => ?_)
                          · skip
                            refine lv_iload hx hb dX7_check_171 (lv_at hl 1 rfl) ?_
                            exact rk_int hx hb hr hlocks hK hP hD hS (by first | rfl | omega) rfl dX7_check_173
                          · skip
                            refine lv_iload_n hx hb dX7_check_124 rfl (lv_at hl 3 rfl) ?_
                            refine wk_if_ne (tgt := 171) hx hb dX7_check_125 (by decide) (by omega) (fun c_23 => ?_) (fun c_23 => ?_)
                            · skip
                              refine lv_iload hx hb dX7_check_171 (lv_at hl 1 rfl) ?_
                              exact rk_int hx hb hr hlocks hK hP hD hS (by first | rfl | omega) rfl dX7_check_173
                            · skip
                              exfalso; omega
                      · skip
                        exfalso; omega
          · skip
            exfalso; omega

set_option maxHeartbeats 4000000 in
set_option maxRecDepth 100000 in
theorem tX7_check_w (l : Launch) (D : va_G) (kI : ClassId) (kZ : ClassId) (kL : ClassId) (kJ : ClassId) (h : Nat) (hRo : Nat) (hNu : Nat) (hWe : Nat) (hDa : Nat) (hVe : Nat) (hSl : Nat) (hTr : Nat) (hBx : Nat) (hSt : Nat) (hLa : Nat) (hOr : Nat) (hSi : Nat) (hTu : Nat) (mv : Int → Int) (kb : Int → Int) (kz : Int → Int) (th : Int) (sn : Int) (sm : Int) (nw : Int) (rn : Int) (bn : Int) (kn : Int) (cm : Int) (al : Int) (lg : Int) (tt : Int) (dn : Int) (bx : Int) (sz : Nat) (hbn : 0 ≤ bn ∧ bn ≤ 20) (hkn : 0 ≤ kn ∧ kn ≤ 60) (h2 : 0 ≤ bx ∧ bx < bn) (hkb : ∀ j, 0 ≤ kb j ∧ kb j ≤ 1000000) (hkz : ∀ j, 0 ≤ kz j ∧ kz j ≤ 1000000) : CtI l yX7_check wsX7_check ({ frames := 0, cells := 0, slots := 0, locals := 0 }) D vwCl (tyL kI kZ kL kJ) [(h, .inr (7, [.int (iI th), .int (iI sn), .int (iI sm), .int (iI nw), .ref hRo, .int (iI rn), .int (iI bn), .ref hNu, .ref hWe, .ref hDa, .ref hVe, .int (iI kn), .ref hSl, .ref hTr, .ref hBx, .ref hSt, .ref hLa, .ref hOr, .ref hSi, .ref hTu, .int (iI cm), .int (iI al), .int (iI lg), .int (iI tt), .int (iI dn)])), (hVe, .inl (kI, 112, .inl (iF mv))), (hBx, .inl (kI, 61, .inl (iF kb))), (hSt, .inl (kI, 61, .inl (iF kz)))] [.ref h, .int (iI 0), .int (iI bx), .int (iI 0)] (iI ((wdL bx kn kb (kn + 1 - 1).toNat 1 kz 0).2)) [(h, .inr (7, [.int (iI 0), .int (iI sn), .int (iI sm), .int (iI nw), .ref hRo, .int (iI rn), .int (iI bn), .ref hNu, .ref hWe, .ref hDa, .ref hVe, .int (iI kn), .ref hSl, .ref hTr, .ref hBx, .ref hSt, .ref hLa, .ref hOr, .ref hSi, .ref hTu, .int (iI cm), .int (iI al), .int (iI lg), .int (iI tt), .int (iI dn)])), (hVe, .inl (kI, 112, .inl (iF (iu mv (4 * bx + 0) 0)))), (hBx, .inl (kI, 61, .inl (iF kb))), (hSt, .inl (kI, 61, .inl (iF ((wdL bx kn kb (kn + 1 - 1).toNat 1 kz 0).1))))] sz := by
  refine ck_start (Qc := fun A => cQi D vwCl (tyL kI kZ kL kJ) A (iI ((wdL bx kn kb (kn + 1 - 1).toNat 1 kz 0).2)) [(h, .inr (7, [.int (iI 0), .int (iI sn), .int (iI sm), .int (iI nw), .ref hRo, .int (iI rn), .int (iI bn), .ref hNu, .ref hWe, .ref hDa, .ref hVe, .int (iI kn), .ref hSl, .ref hTr, .ref hBx, .ref hSt, .ref hLa, .ref hOr, .ref hSi, .ref hTu, .int (iI cm), .int (iI al), .int (iI lg), .int (iI tt), .int (iI dn)])), (hVe, .inl (kI, 112, .inl (iF (iu mv (4 * bx + 0) 0)))), (hBx, .inl (kI, 61, .inl (iF kb))), (hSt, .inl (kI, 61, .inl (iF ((wdL bx kn kb (kn + 1 - 1).toNat 1 kz 0).1))))]) (cc := cX7_check) (maxL := 6) (ret := (some .int)) (LV := [(0, .ref h), (1, .int (iI 0)), (2, .int (iI bx)), (3, .int (iI 0))]) (by decide) rfl rfl (Nat.le_of_ble_eq_true rfl) ?_
  intro p e s m below meth cd hadm hx hb hr hml hts hown hlocks hname hnoh hxT A hA hK hP hD hS ls hl
  refine lv_iload_n hx hb dX7_check_0 rfl (lv_at hl 1 rfl) ?_
  refine wk_if_lt (tgt := 37) hx hb dX7_check_1 (by decide) (by omega) (fun c_1 => ?_) (fun c_1 => ?_)
  · skip
    exfalso; omega
  · skip
    refine lv_iload_n hx hb dX7_check_4 rfl (lv_at hl 1 rfl) ?_
    refine lv_iconst (v := iI 5) hx hb dX7_check_5 rfl ?_
    refine wk_icmp_gt (tgt := 37) hx hb dX7_check_6 (by decide) (by omega) (fun c_2 => ?_) (fun c_2 => ?_)
    · skip
      exfalso; omega
    · skip
      refine lv_iload_n hx hb dX7_check_9 rfl (lv_at hl 2 rfl) ?_
      refine wk_if_lt (tgt := 31) hx hb dX7_check_10 (by decide) (by omega) (fun c_3 => ?_) (fun c_3 => ?_)
      · skip
        exfalso; omega
      · skip
        refine lv_iload_n hx hb dX7_check_13 rfl (lv_at hl 2 rfl) ?_
        refine lv_iload_n hx hb dX7_check_14 rfl (lv_at hl 1 rfl) ?_
        refine lv_iconst (v := iI 4) hx hb dX7_check_15 rfl ?_
        refine wk_icmp_ge (tgt := 26) hx hb dX7_check_16 (by decide) (by omega) (fun c_4 => ?_) (fun c_4 => ?_)
        · skip
          exfalso; omega
        · skip
          refine lv_aload_n hx hb dX7_check_19 rfl (lv_at hl 0 rfl) ?_
          refine va_get (D := D) (ci := 7) (v := .int (iI bn)) (C := RX7) (T := TX7) (N := 25) hx hb hts (fun w h => (List.mem_cons_of_mem _ (hinX7 w h))) hown hK hP 0 rfl rfl 6 (by decide) (hts _ (List.mem_cons_of_mem _ wd_618)) (fun _ h9 => h9) rfl dX7_check_20 ?_
          refine lv_goto (tgt := 28) hx hb dX7_check_23 (by decide) ?_
          refine wk_icmp_lt (tgt := 37) hx hb dX7_check_28 (by decide) (by omega) (fun c_5 => ?_) (fun c_5 => ?_)
          · skip
            refine lv_iload_n hx hb dX7_check_37 rfl (lv_at hl 1 rfl) ?_
            refine wk_if_lt (tgt := 69) hx hb dX7_check_38 (by decide) (by omega) (fun c_6 => ?_) (fun c_6 => ?_)
            · skip
              exfalso; omega
            · skip
              refine lv_iload_n hx hb dX7_check_41 rfl (lv_at hl 1 rfl) ?_
              refine lv_iconst (v := iI 5) hx hb dX7_check_42 rfl ?_
              refine wk_icmp_gt (tgt := 69) hx hb dX7_check_43 (by decide) (by omega) (fun c_7 => ?_) (fun c_7 => ?_)
              · skip
                exfalso; omega
              · skip
                refine lv_iload_n hx hb dX7_check_46 rfl (lv_at hl 3 rfl) ?_
                refine wk_if_lt (tgt := 69) hx hb dX7_check_47 (by decide) (by omega) (fun c_8 => ?_) (fun c_8 => ?_)
                · skip
                  exfalso; omega
                · skip
                  refine lv_iload_n hx hb dX7_check_50 rfl (lv_at hl 3 rfl) ?_
                  refine lv_iload_n hx hb dX7_check_51 rfl (lv_at hl 1 rfl) ?_
                  refine lv_iconst (v := iI 1) hx hb dX7_check_52 rfl ?_
                  refine wk_icmp_eq (tgt := 61) hx hb dX7_check_53 (by decide) (by omega) (fun c_9 => ?_) (fun c_9 => ?_)
                  · skip
                    exfalso; omega
                  · skip
                    refine lv_iload_n hx hb dX7_check_56 rfl (lv_at hl 1 rfl) ?_
                    refine lv_iconst (v := iI 2) hx hb dX7_check_57 rfl ?_
                    refine wk_icmp_ne (tgt := 65) hx hb dX7_check_58 (by decide) (by omega) (fun c_10 => ?_) (fun c_10 => ?_)
                    · skip
                      refine lv_iconst (v := iI 1) hx hb dX7_check_65 rfl ?_
                      refine wk_icmp_le (tgt := 75) hx hb dX7_check_66 (by decide) (by omega) (fun c_11 => ?_) (fun c_11 => ?_)
                      · skip
                        refine lv_aload_n hx hb dX7_check_75 rfl (lv_at hl 0 rfl) ?_
                        refine lv_iconst (v := iI 0) hx hb dX7_check_76 rfl ?_
                        refine wk_put (ci := 7) (C := RX7) (T := TX7) (N := 25) hx hb hts (fun w h => (List.mem_cons_of_mem _ (hinX7 w h))) tyX7 tyX7_ok nmX7 hown hK hP hD hS 0 rfl rfl 0 (by decide) (hts _ (List.mem_cons_of_mem _ wd_612)) (fun _ h9 => h9) rfl rfl (Nat.le_of_ble_eq_true rfl) dX7_check_77 (ws' := [(h, .inr (7, [.int (iI 0), .int (iI sn), .int (iI sm), .int (iI nw), .ref hRo, .int (iI rn), .int (iI bn), .ref hNu, .ref hWe, .ref hDa, .ref hVe, .int (iI kn), .ref hSl, .ref hTr, .ref hBx, .ref hSt, .ref hLa, .ref hOr, .ref hSi, .ref hTu, .int (iI cm), .int (iI al), .int (iI lg), .int (iI tt), .int (iI dn)])), (hVe, .inl (kI, 112, .inl (iF mv))), (hBx, .inl (kI, 61, .inl (iF kb))), (hSt, .inl (kI, 61, .inl (iF kz)))]) rfl (fun H locs hP hD hS => ?_)
                        refine lv_aload_n hx hb dX7_check_80 rfl (lv_at hl 0 rfl) ?_
                        refine va_get (D := D) (ci := 7) (v := .ref hVe) (C := RX7) (T := TX7) (N := 25) hx hb hts (fun w h => (List.mem_cons_of_mem _ (hinX7 w h))) hown hK hP 0 rfl rfl 10 (by decide) (hts _ (List.mem_cons_of_mem _ wd_622)) (fun _ h9 => h9) rfl dX7_check_81 ?_
                        refine lv_iload_n hx hb dX7_check_84 rfl (lv_at hl 1 rfl) ?_
                        refine lv_iconst (v := iI 4) hx hb dX7_check_85 rfl ?_
                        refine wk_icmp_ge (tgt := 97) hx hb dX7_check_86 (by decide) (by omega) (fun c_12 => ?_) (fun c_12 => ?_)
                        · skip
                          exfalso; omega
                        · skip
                          refine lv_iconst (v := iI 4) hx hb dX7_check_89 rfl ?_
                          refine lv_iload_n hx hb dX7_check_90 rfl (lv_at hl 2 rfl) ?_
                          refine wk_imul hx hb dX7_check_91 ?_
                          refine lv_iload_n hx hb dX7_check_92 rfl (lv_at hl 1 rfl) ?_
                          refine wk_iadd hx hb dX7_check_93 ?_
                          refine lv_goto (tgt := 107) hx hb dX7_check_94 (by decide) ?_
                          refine lv_iload_n hx hb dX7_check_107 rfl (lv_at hl 3 rfl) ?_
                          refine wk_iast hx hb hK hP hD hS 1 0 rfl rfl (by decide) (by omega) dX7_check_108 (ws' := [(h, .inr (7, [.int (iI 0), .int (iI sn), .int (iI sm), .int (iI nw), .ref hRo, .int (iI rn), .int (iI bn), .ref hNu, .ref hWe, .ref hDa, .ref hVe, .int (iI kn), .ref hSl, .ref hTr, .ref hBx, .ref hSt, .ref hLa, .ref hOr, .ref hSi, .ref hTu, .int (iI cm), .int (iI al), .int (iI lg), .int (iI tt), .int (iI dn)])), (hVe, .inl (kI, 112, .inl (iF (iu mv ((4 * bx) + 0) 0)))), (hBx, .inl (kI, 61, .inl (iF kb))), (hSt, .inl (kI, 61, .inl (iF kz)))]) rfl (fun H locs hP hD hS => ?_)
                          refine lv_iconst (v := iI 0) hx hb dX7_check_109 rfl ?_
                          refine lv_istore (lv' := [(4, .int (iI 0)), (0, .ref h), (1, .int (iI 0)), (2, .int (iI bx)), (3, .int (iI 0))]) hx hb dX7_check_110 hl (by decide) rfl (fun ls hl => ?_)
                          refine lv_iconst (v := iI 1) hx hb dX7_check_112 rfl ?_
                          refine lv_istore (lv' := [(5, .int (iI 1)), (4, .int (iI 0)), (0, .ref h), (1, .int (iI 0)), (2, .int (iI bx)), (3, .int (iI 0))]) hx hb dX7_check_113 hl (by decide) rfl (fun ls hl => ?_)
                          have loop_115 : ∀ (fu : Nat) (c0 : Int) (i : Int) (x : Int → Int), (1 ≤ i ∧ i ≤ kn + 1) → (∀ j, 0 ≤ x j ∧ x j ≤ 1000000) → (wdL bx kn kb (kn + 1 - i).toNat i x c0 = wdL bx kn kb (kn + 1 - 1).toNat 1 kz 0) → (kn + 1 - i) < (fu : Int) → ∀ (H : Heap) (locs : List Loc) (ls : Array Slot), va_P D vwCl [(h, .inr (7, [.int (iI 0), .int (iI sn), .int (iI sm), .int (iI nw), .ref hRo, .int (iI rn), .int (iI bn), .ref hNu, .ref hWe, .ref hDa, .ref hVe, .int (iI kn), .ref hSl, .ref hTr, .ref hBx, .ref hSt, .ref hLa, .ref hOr, .ref hSi, .ref hTu, .int (iI cm), .int (iI al), .int (iI lg), .int (iI tt), .int (iI dn)])), (hVe, .inl (kI, 112, .inl (iF (iu mv ((4 * bx) + 0) 0)))), (hBx, .inl (kI, 61, .inl (iF kb))), (hSt, .inl (kI, 61, .inl (iF x)))] H → va_D A [(h, .inr (7, [.int (iI 0), .int (iI sn), .int (iI sm), .int (iI nw), .ref hRo, .int (iI rn), .int (iI bn), .ref hNu, .ref hWe, .ref hDa, .ref hVe, .int (iI kn), .ref hSl, .ref hTr, .ref hBx, .ref hSt, .ref hLa, .ref hOr, .ref hSi, .ref hTu, .int (iI cm), .int (iI al), .int (iI lg), .int (iI tt), .int (iI dn)])), (hVe, .inl (kI, 112, .inl (iF (iu mv ((4 * bx) + 0) 0)))), (hBx, .inl (kI, 61, .inl (iF kb))), (hSt, .inl (kI, 61, .inl (iF x)))] → va_S A s.heap H locs → lv_has ls 6 [(5, .int (iI i)), (4, .int (iI c0)), (0, .ref h), (1, .int (iI 0)), (2, .int (iI bx)), (3, .int (iI 0))] → W p l e ({ frames := 0, cells := 0, slots := 0, locals := 0 }) s m ([.ref h, .int (iI 0), .int (iI bx), .int (iI 0)] : List Value).toArray below meth cd H locs 0 0 (MQ below (cQi D vwCl (tyL kI kZ kL kJ) A (iI ((wdL bx kn kb (kn + 1 - 1).toNat 1 kz 0).2)) [(h, .inr (7, [.int (iI 0), .int (iI sn), .int (iI sm), .int (iI nw), .ref hRo, .int (iI rn), .int (iI bn), .ref hNu, .ref hWe, .ref hDa, .ref hVe, .int (iI kn), .ref hSl, .ref hTr, .ref hBx, .ref hSt, .ref hLa, .ref hOr, .ref hSi, .ref hTu, .int (iI cm), .int (iI al), .int (iI lg), .int (iI tt), .int (iI dn)])), (hVe, .inl (kI, 112, .inl (iF (iu mv (4 * bx + 0) 0)))), (hBx, .inl (kI, 61, .inl (iF kb))), (hSt, .inl (kI, 61, .inl (iF ((wdL bx kn kb (kn + 1 - 1).toNat 1 kz 0).1))))]) ([.ref h, .int (iI 0), .int (iI bx), .int (iI 0)] : List Value).toArray s 0 0 A) (F0 m 115 ls []) := by
                            intro fu
                            induction fu with
                            | zero => intro c0 i x hi hx0 hE hfu; exfalso; omega
                            | succ fu ih_115 =>
                              intro c0 i x hi hx0 hE hfu H locs ls hP hD hS hl
                              refine lv_iload hx hb dX7_check_115 (lv_at hl 0 rfl) ?_
                              refine lv_aload_n hx hb dX7_check_117 rfl (lv_at hl 2 rfl) ?_
                              refine va_get (D := D) (ci := 7) (v := .int (iI kn)) (C := RX7) (T := TX7) (N := 25) hx hb hts (fun w h => (List.mem_cons_of_mem _ (hinX7 w h))) hown hK hP 0 rfl rfl 11 (by decide) (hts _ (List.mem_cons_of_mem _ wd_623)) (fun _ h9 => h9) rfl dX7_check_118 ?_
                              refine wk_icmp_gt (tgt := 171) hx hb dX7_check_121 (by decide) (by omega) (fun c_13 => ?_) (fun c_13 => ?_)
                              · skip
                                have e9 := hE
                                rw [wdL_end (by omega)] at e9
                                refine lv_iload hx hb dX7_check_171 (lv_at hl 1 rfl) ?_
                                exact rk_int hx hb hr hlocks hK hP hD hS (by rw [← e9]) (by rw [← e9]) dX7_check_173
                              · skip
                                refine lv_iload_n hx hb dX7_check_124 rfl (lv_at hl 3 rfl) ?_
                                refine wk_if_ne (tgt := 171) hx hb dX7_check_125 (by decide) (by omega) (fun c_14 => ?_) (fun c_14 => ?_)
                                · skip
                                  exfalso; omega
                                · skip
                                  refine lv_iload_n hx hb dX7_check_128 rfl (lv_at hl 5 rfl) ?_
                                  refine wk_if_ne (tgt := 171) hx hb dX7_check_129 (by decide) (by omega) (fun c_15 => ?_) (fun c_15 => ?_)
                                  · skip
                                    exfalso; omega
                                  · skip
                                    refine lv_aload_n hx hb dX7_check_132 rfl (lv_at hl 2 rfl) ?_
                                    refine va_get (D := D) (ci := 7) (v := .ref hBx) (C := RX7) (T := TX7) (N := 25) hx hb hts (fun w h => (List.mem_cons_of_mem _ (hinX7 w h))) hown hK hP 0 rfl rfl 14 (by decide) (hts _ (List.mem_cons_of_mem _ wd_626)) (fun _ h9 => h9) rfl dX7_check_133 ?_
                                    refine lv_iload hx hb dX7_check_136 (lv_at hl 0 rfl) ?_
                                    refine wk_iald hx hb hK hP 2 0 rfl rfl (by decide) (by omega) dX7_check_138 ?_
                                    have b_16 := hkb i
                                    refine lv_iload_n hx hb dX7_check_139 rfl (lv_at hl 4 rfl) ?_
                                    refine wk_icmp_ne (tgt := 165) hx hb dX7_check_140 (by decide) (by omega) (fun c_17 => ?_) (fun c_17 => ?_)
                                    · skip
                                      refine wk_iinc (k := 0) (lv' := [(5, .int (iI (i + 1))), (4, .int (iI c0)), (0, .ref h), (1, .int (iI 0)), (2, .int (iI bx)), (3, .int (iI 0))]) hx hb dX7_check_165 hl rfl (by decide) rfl (fun ls hl => ?_)
                                      refine lv_goto (tgt := 115) hx hb dX7_check_168 (by decide) ?_
                                      exact ih_115 c0 (i + 1) x (by first | assumption | omega) (by first | assumption | (intro j; unfold iu; split; omega; exact hx0 j)) (by have e9 := hE; rw [wdL_step (by omega)] at e9; first | (rw [if_pos (by omega)] at e9; exact e9) | (rw [if_neg (by omega)] at e9; exact e9)) (by omega) H locs ls hP hD hS (lv_sub hl [0, 1, 2, 3, 4, 5] rfl)
                                    · skip
                                      refine lv_aload_n hx hb dX7_check_143 rfl (lv_at hl 2 rfl) ?_
                                      refine va_get (D := D) (ci := 7) (v := .ref hSt) (C := RX7) (T := TX7) (N := 25) hx hb hts (fun w h => (List.mem_cons_of_mem _ (hinX7 w h))) hown hK hP 0 rfl rfl 15 (by decide) (hts _ (List.mem_cons_of_mem _ wd_627)) (fun _ h9 => h9) rfl dX7_check_144 ?_
                                      refine lv_iload hx hb dX7_check_147 (lv_at hl 0 rfl) ?_
                                      refine wk_iald hx hb hK hP 3 0 rfl rfl (by decide) (by omega) dX7_check_149 ?_
                                      have b_18 := hx0 i
                                      refine lv_iconst (v := iI 1) hx hb dX7_check_150 rfl ?_
                                      refine wk_icmp_ne (tgt := 165) hx hb dX7_check_151 (by decide) (by omega) (fun c_19 => ?_) (fun c_19 => ?_)
                                      · skip
                                        refine wk_iinc (k := 0) (lv' := [(5, .int (iI (i + 1))), (4, .int (iI c0)), (0, .ref h), (1, .int (iI 0)), (2, .int (iI bx)), (3, .int (iI 0))]) hx hb dX7_check_165 hl rfl (by decide) rfl (fun ls hl => ?_)
                                        refine lv_goto (tgt := 115) hx hb dX7_check_168 (by decide) ?_
                                        exact ih_115 c0 (i + 1) x (by first | assumption | omega) (by first | assumption | (intro j; unfold iu; split; omega; exact hx0 j)) (by have e9 := hE; rw [wdL_step (by omega)] at e9; first | (rw [if_pos (by omega)] at e9; exact e9) | (rw [if_neg (by omega)] at e9; exact e9)) (by omega) H locs ls hP hD hS (lv_sub hl [0, 1, 2, 3, 4, 5] rfl)
                                      · skip
                                        refine lv_aload_n hx hb dX7_check_154 rfl (lv_at hl 2 rfl) ?_
                                        refine va_get (D := D) (ci := 7) (v := .ref hSt) (C := RX7) (T := TX7) (N := 25) hx hb hts (fun w h => (List.mem_cons_of_mem _ (hinX7 w h))) hown hK hP 0 rfl rfl 15 (by decide) (hts _ (List.mem_cons_of_mem _ wd_627)) (fun _ h9 => h9) rfl dX7_check_155 ?_
                                        refine lv_iload hx hb dX7_check_158 (lv_at hl 0 rfl) ?_
                                        refine lv_iconst (v := iI 3) hx hb dX7_check_160 rfl ?_
                                        refine wk_iast hx hb hK hP hD hS 3 0 rfl rfl (by decide) (by omega) dX7_check_161 (ws' := [(h, .inr (7, [.int (iI 0), .int (iI sn), .int (iI sm), .int (iI nw), .ref hRo, .int (iI rn), .int (iI bn), .ref hNu, .ref hWe, .ref hDa, .ref hVe, .int (iI kn), .ref hSl, .ref hTr, .ref hBx, .ref hSt, .ref hLa, .ref hOr, .ref hSi, .ref hTu, .int (iI cm), .int (iI al), .int (iI lg), .int (iI tt), .int (iI dn)])), (hVe, .inl (kI, 112, .inl (iF (iu mv ((4 * bx) + 0) 0)))), (hBx, .inl (kI, 61, .inl (iF kb))), (hSt, .inl (kI, 61, .inl (iF (iu x i 3))))]) rfl (fun H locs hP hD hS => ?_)
                                        refine wk_iinc (k := 1) (lv' := [(4, .int (iI (c0 + 1))), (5, .int (iI i)), (0, .ref h), (1, .int (iI 0)), (2, .int (iI bx)), (3, .int (iI 0))]) hx hb dX7_check_162 hl rfl (by decide) rfl (fun ls hl => ?_)
                                        refine wk_iinc (k := 1) (lv' := [(5, .int (iI (i + 1))), (4, .int (iI (c0 + 1))), (0, .ref h), (1, .int (iI 0)), (2, .int (iI bx)), (3, .int (iI 0))]) hx hb dX7_check_165 hl rfl (by decide) rfl (fun ls hl => ?_)
                                        refine lv_goto (tgt := 115) hx hb dX7_check_168 (by decide) ?_
                                        exact ih_115 (c0 + 1) (i + 1) (iu x i 3) (by first | assumption | omega) (by first | assumption | (intro j; unfold iu; split; omega; exact hx0 j)) (by have e9 := hE; rw [wdL_step (by omega)] at e9; first | (rw [if_pos (by omega)] at e9; exact e9) | (rw [if_neg (by omega)] at e9; exact e9)) (by omega) H locs ls hP hD hS (lv_sub hl [0, 1, 2, 3, 4, 5] rfl)
                          exact loop_115 (kn + 1 - 1).toNat.succ 0 1 kz (by first | assumption | rfl | omega) (by assumption) (by rfl) (by omega) H locs ls hP hD hS (lv_sub hl [0, 1, 2, 3, 4, 5] rfl)
                      · skip
                        exfalso; omega
                    · skip
                      exfalso; omega
          · skip
            exfalso; omega

set_option maxHeartbeats 4000000 in
set_option maxRecDepth 100000 in
theorem tX7_inSlot (l : Launch) (D : va_G) (kI : ClassId) (kZ : ClassId) (kL : ClassId) (kJ : ClassId) (h : Nat) (hRo : Nat) (hNu : Nat) (hWe : Nat) (hDa : Nat) (hVe : Nat) (hSl : Nat) (hTr : Nat) (hBx : Nat) (hSt : Nat) (hLa : Nat) (hOr : Nat) (hSi : Nat) (hTu : Nat) (ks : Int → Int) (kz : Int → Int) (th : Int) (sn : Int) (sm : Int) (nw : Int) (rn : Int) (bn : Int) (kn : Int) (cm : Int) (al : Int) (lg : Int) (tt : Int) (dn : Int) (sl : Int) (sz : Nat) (hkn : 0 ≤ kn ∧ kn ≤ 60) (hsl : -2147483648 ≤ sl ∧ sl ≤ 2147483647) (hks : ∀ j, 0 ≤ ks j ∧ ks j ≤ 1000000) (hkz : ∀ j, 0 ≤ kz j ∧ kz j ≤ 1000000) : CtP l yX7_inSlot wsX7_inSlot ({ frames := 0, cells := 0, slots := 0, locals := 0 }) D vwCl (tyL kI kZ kL kJ) [(h, .inr (7, [.int (iI th), .int (iI sn), .int (iI sm), .int (iI nw), .ref hRo, .int (iI rn), .int (iI bn), .ref hNu, .ref hWe, .ref hDa, .ref hVe, .int (iI kn), .ref hSl, .ref hTr, .ref hBx, .ref hSt, .ref hLa, .ref hOr, .ref hSi, .ref hTu, .int (iI cm), .int (iI al), .int (iI lg), .int (iI tt), .int (iI dn)])), (hSl, .inl (kI, 61, .inl (iF ks))), (hSt, .inl (kI, 61, .inl (iF kz)))] [.ref h, .int (iI sl)] (iI (cn (pSL ks kz sl) (kn + 1 - 1).toNat)) sz := by
  refine pk_start (cc := cX7_inSlot) (maxL := 4) (ret := (some .int)) (LV := [(0, .ref h), (1, .int (iI sl))]) (by decide) rfl rfl (Nat.le_of_ble_eq_true rfl) ?_
  intro p e s m below meth cd hadm hx hb hr hml hts hown hlocks hname hnoh hxT A hA hK hP hD hS ls hl
  refine lv_iconst (v := iI 0) hx hb dX7_inSlot_0 rfl ?_
  refine lv_istore_n (lv' := [(2, .int (iI 0)), (0, .ref h), (1, .int (iI sl))]) hx hb dX7_inSlot_1 rfl hl (by decide) rfl (fun ls hl => ?_)
  refine lv_iconst (v := iI 1) hx hb dX7_inSlot_2 rfl ?_
  refine lv_istore_n (lv' := [(3, .int (iI 1)), (2, .int (iI 0)), (0, .ref h), (1, .int (iI sl))]) hx hb dX7_inSlot_3 rfl hl (by decide) rfl (fun ls hl => ?_)
  have loop_4 : ∀ (fu : Nat) (x : Int) (i : Int), (1 ≤ i ∧ i ≤ kn + 1) → (x = cn (pSL ks kz sl) (i - 1).toNat) → (kn + 1 - i) < (fu : Int) → ∀ (ls : Array Slot), lv_has ls 4 [(3, .int (iI i)), (2, .int (iI x)), (0, .ref h), (1, .int (iI sl))] → W p l e ({ frames := 0, cells := 0, slots := 0, locals := 0 }) s m ([.ref h, .int (iI sl)] : List Value).toArray below meth cd s.heap [] 0 0 (MQ below (QcRead (iI (cn (pSL ks kz sl) (kn + 1 - 1).toNat)) ) ([.ref h, .int (iI sl)] : List Value).toArray s 0 0 (fun _ => False)) (F0 m 4 ls []) := by
    intro fu
    induction fu with
    | zero => intro x i hi hE hfu; exfalso; omega
    | succ fu ih_4 =>
      intro x i hi hE hfu ls hl
      refine lv_iload_n hx hb dX7_inSlot_4 rfl (lv_at hl 0 rfl) ?_
      refine lv_aload_n hx hb dX7_inSlot_5 rfl (lv_at hl 2 rfl) ?_
      refine va_get (D := D) (ci := 7) (v := .int (iI kn)) (C := RX7) (T := TX7) (N := 25) hx hb hts (fun w h => (List.mem_cons_of_mem _ (hinX7 w h))) hown hK hP 0 rfl rfl 11 (by decide) (hts _ (List.mem_cons_of_mem _ wd_623)) (fun _ h9 => h9) rfl dX7_inSlot_6 ?_
      refine wk_icmp_gt (tgt := 46) hx hb dX7_inSlot_9 (by decide) (by omega) (fun c_1 => ?_) (fun c_1 => ?_)
      · skip
        refine lv_iload_n hx hb dX7_inSlot_46 rfl (lv_at hl 1 rfl) ?_
        exact pk_int hx hb hr hlocks (by rw [hE, show i = kn + 1 by omega]) dX7_inSlot_47
      · skip
        refine lv_iload_n hx hb dX7_inSlot_12 rfl (lv_at hl 1 rfl) ?_
        refine lv_aload_n hx hb dX7_inSlot_13 rfl (lv_at hl 2 rfl) ?_
        refine va_get (D := D) (ci := 7) (v := .ref hSl) (C := RX7) (T := TX7) (N := 25) hx hb hts (fun w h => (List.mem_cons_of_mem _ (hinX7 w h))) hown hK hP 0 rfl rfl 12 (by decide) (hts _ (List.mem_cons_of_mem _ wd_624)) (fun _ h9 => h9) rfl dX7_inSlot_14 ?_
        refine lv_iload_n hx hb dX7_inSlot_17 rfl (lv_at hl 0 rfl) ?_
        refine wk_iald hx hb hK hP 1 0 rfl rfl (by decide) (by omega) dX7_inSlot_18 ?_
        have b_2 := hks i
        refine lv_iload_n hx hb dX7_inSlot_19 rfl (lv_at hl 3 rfl) ?_
        refine wk_icmp_ne (tgt := 37) hx hb dX7_inSlot_20 (by decide) (by omega) (fun c_3 => ?_) (fun c_3 => ?_)
        · skip
          refine lv_iconst (v := iI 0) hx hb dX7_inSlot_37 rfl ?_
          refine wk_iadd hx hb dX7_inSlot_38 ?_
          refine lv_istore_n (lv' := [(2, .int (iI (x + 0))), (3, .int (iI i)), (0, .ref h), (1, .int (iI sl))]) hx hb dX7_inSlot_39 rfl hl (by decide) rfl (fun ls hl => ?_)
          refine wk_iinc (k := 1) (lv' := [(3, .int (iI (i + 1))), (2, .int (iI (x + 0))), (0, .ref h), (1, .int (iI sl))]) hx hb dX7_inSlot_40 hl rfl (by decide) rfl (fun ls hl => ?_)
          refine lv_goto (tgt := 4) hx hb dX7_inSlot_43 (by decide) ?_
          exact ih_4 (x + 0) (i + 1) (by first | assumption | omega) (by rw [hE]; first | (rw [cn_yes (by omega) (by simp only [decide_eq_true_eq]; omega)]) | (rw [cn_no (by omega) (by simp only [decide_eq_true_eq]; omega)])) (by omega) ls (lv_sub hl [0, 1, 2, 3] rfl)
        · skip
          refine lv_aload_n hx hb dX7_inSlot_23 rfl (lv_at hl 2 rfl) ?_
          refine va_get (D := D) (ci := 7) (v := .ref hSt) (C := RX7) (T := TX7) (N := 25) hx hb hts (fun w h => (List.mem_cons_of_mem _ (hinX7 w h))) hown hK hP 0 rfl rfl 15 (by decide) (hts _ (List.mem_cons_of_mem _ wd_627)) (fun _ h9 => h9) rfl dX7_inSlot_24 ?_
          refine lv_iload_n hx hb dX7_inSlot_27 rfl (lv_at hl 0 rfl) ?_
          refine wk_iald hx hb hK hP 2 0 rfl rfl (by decide) (by omega) dX7_inSlot_28 ?_
          have b_4 := hkz i
          refine lv_iconst (v := iI 3) hx hb dX7_inSlot_29 rfl ?_
          refine wk_icmp_eq (tgt := 37) hx hb dX7_inSlot_30 (by decide) (by omega) (fun c_5 => ?_) (fun c_5 => ?_)
          · skip
            refine lv_iconst (v := iI 0) hx hb dX7_inSlot_37 rfl ?_
            refine wk_iadd hx hb dX7_inSlot_38 ?_
            refine lv_istore_n (lv' := [(2, .int (iI (x + 0))), (3, .int (iI i)), (0, .ref h), (1, .int (iI sl))]) hx hb dX7_inSlot_39 rfl hl (by decide) rfl (fun ls hl => ?_)
            refine wk_iinc (k := 1) (lv' := [(3, .int (iI (i + 1))), (2, .int (iI (x + 0))), (0, .ref h), (1, .int (iI sl))]) hx hb dX7_inSlot_40 hl rfl (by decide) rfl (fun ls hl => ?_)
            refine lv_goto (tgt := 4) hx hb dX7_inSlot_43 (by decide) ?_
            exact ih_4 (x + 0) (i + 1) (by first | assumption | omega) (by rw [hE]; first | (rw [cn_yes (by omega) (by simp only [decide_eq_true_eq]; omega)]) | (rw [cn_no (by omega) (by simp only [decide_eq_true_eq]; omega)])) (by omega) ls (lv_sub hl [0, 1, 2, 3] rfl)
          · skip
            refine lv_iconst (v := iI 1) hx hb dX7_inSlot_33 rfl ?_
            refine lv_goto (tgt := 38) hx hb dX7_inSlot_34 (by decide) ?_
            refine wk_iadd hx hb dX7_inSlot_38 ?_
            refine lv_istore_n (lv' := [(2, .int (iI (x + 1))), (3, .int (iI i)), (0, .ref h), (1, .int (iI sl))]) hx hb dX7_inSlot_39 rfl hl (by decide) rfl (fun ls hl => ?_)
            refine wk_iinc (k := 1) (lv' := [(3, .int (iI (i + 1))), (2, .int (iI (x + 1))), (0, .ref h), (1, .int (iI sl))]) hx hb dX7_inSlot_40 hl rfl (by decide) rfl (fun ls hl => ?_)
            refine lv_goto (tgt := 4) hx hb dX7_inSlot_43 (by decide) ?_
            exact ih_4 (x + 1) (i + 1) (by first | assumption | omega) (by rw [hE]; first | (rw [cn_yes (by omega) (by simp only [decide_eq_true_eq]; omega)]) | (rw [cn_no (by omega) (by simp only [decide_eq_true_eq]; omega)])) (by omega) ls (lv_sub hl [0, 1, 2, 3] rfl)
  exact loop_4 (kn + 1 - 1).toNat.succ 0 1 (by first | assumption | rfl | omega) (by rfl) (by omega) ls (lv_sub hl [0, 1, 2, 3] rfl)

set_option maxHeartbeats 4000000 in
set_option maxRecDepth 100000 in
theorem tX7_inLane (l : Launch) (D : va_G) (kI : ClassId) (kZ : ClassId) (kL : ClassId) (kJ : ClassId) (h : Nat) (hRo : Nat) (hNu : Nat) (hWe : Nat) (hDa : Nat) (hVe : Nat) (hSl : Nat) (hTr : Nat) (hBx : Nat) (hSt : Nat) (hLa : Nat) (hOr : Nat) (hSi : Nat) (hTu : Nat) (kz : Int → Int) (kl : Int → Int) (th : Int) (sn : Int) (sm : Int) (nw : Int) (rn : Int) (bn : Int) (kn : Int) (cm : Int) (al : Int) (lg : Int) (tt : Int) (dn : Int) (ln : Int) (sz : Nat) (hkn : 0 ≤ kn ∧ kn ≤ 60) (hln : -2147483648 ≤ ln ∧ ln ≤ 2147483647) (hkz : ∀ j, 0 ≤ kz j ∧ kz j ≤ 1000000) (hkl : ∀ j, 0 ≤ kl j ∧ kl j ≤ 1000000) : CtP l yX7_inLane wsX7_inLane ({ frames := 0, cells := 0, slots := 0, locals := 0 }) D vwCl (tyL kI kZ kL kJ) [(h, .inr (7, [.int (iI th), .int (iI sn), .int (iI sm), .int (iI nw), .ref hRo, .int (iI rn), .int (iI bn), .ref hNu, .ref hWe, .ref hDa, .ref hVe, .int (iI kn), .ref hSl, .ref hTr, .ref hBx, .ref hSt, .ref hLa, .ref hOr, .ref hSi, .ref hTu, .int (iI cm), .int (iI al), .int (iI lg), .int (iI tt), .int (iI dn)])), (hSt, .inl (kI, 61, .inl (iF kz))), (hLa, .inl (kI, 61, .inl (iF kl)))] [.ref h, .int (iI ln)] (iI (cn (pLN kz kl ln) (kn + 1 - 1).toNat)) sz := by
  refine pk_start (cc := cX7_inLane) (maxL := 4) (ret := (some .int)) (LV := [(0, .ref h), (1, .int (iI ln))]) (by decide) rfl rfl (Nat.le_of_ble_eq_true rfl) ?_
  intro p e s m below meth cd hadm hx hb hr hml hts hown hlocks hname hnoh hxT A hA hK hP hD hS ls hl
  refine lv_iconst (v := iI 0) hx hb dX7_inLane_0 rfl ?_
  refine lv_istore_n (lv' := [(2, .int (iI 0)), (0, .ref h), (1, .int (iI ln))]) hx hb dX7_inLane_1 rfl hl (by decide) rfl (fun ls hl => ?_)
  refine lv_iconst (v := iI 1) hx hb dX7_inLane_2 rfl ?_
  refine lv_istore_n (lv' := [(3, .int (iI 1)), (2, .int (iI 0)), (0, .ref h), (1, .int (iI ln))]) hx hb dX7_inLane_3 rfl hl (by decide) rfl (fun ls hl => ?_)
  have loop_4 : ∀ (fu : Nat) (x : Int) (i : Int), (1 ≤ i ∧ i ≤ kn + 1) → (x = cn (pLN kz kl ln) (i - 1).toNat) → (kn + 1 - i) < (fu : Int) → ∀ (ls : Array Slot), lv_has ls 4 [(3, .int (iI i)), (2, .int (iI x)), (0, .ref h), (1, .int (iI ln))] → W p l e ({ frames := 0, cells := 0, slots := 0, locals := 0 }) s m ([.ref h, .int (iI ln)] : List Value).toArray below meth cd s.heap [] 0 0 (MQ below (QcRead (iI (cn (pLN kz kl ln) (kn + 1 - 1).toNat)) ) ([.ref h, .int (iI ln)] : List Value).toArray s 0 0 (fun _ => False)) (F0 m 4 ls []) := by
    intro fu
    induction fu with
    | zero => intro x i hi hE hfu; exfalso; omega
    | succ fu ih_4 =>
      intro x i hi hE hfu ls hl
      refine lv_iload_n hx hb dX7_inLane_4 rfl (lv_at hl 0 rfl) ?_
      refine lv_aload_n hx hb dX7_inLane_5 rfl (lv_at hl 2 rfl) ?_
      refine va_get (D := D) (ci := 7) (v := .int (iI kn)) (C := RX7) (T := TX7) (N := 25) hx hb hts (fun w h => (List.mem_cons_of_mem _ (hinX7 w h))) hown hK hP 0 rfl rfl 11 (by decide) (hts _ (List.mem_cons_of_mem _ wd_623)) (fun _ h9 => h9) rfl dX7_inLane_6 ?_
      refine wk_icmp_gt (tgt := 46) hx hb dX7_inLane_9 (by decide) (by omega) (fun c_1 => ?_) (fun c_1 => ?_)
      · skip
        refine lv_iload_n hx hb dX7_inLane_46 rfl (lv_at hl 1 rfl) ?_
        exact pk_int hx hb hr hlocks (by rw [hE, show i = kn + 1 by omega]) dX7_inLane_47
      · skip
        refine lv_iload_n hx hb dX7_inLane_12 rfl (lv_at hl 1 rfl) ?_
        refine lv_aload_n hx hb dX7_inLane_13 rfl (lv_at hl 2 rfl) ?_
        refine va_get (D := D) (ci := 7) (v := .ref hSt) (C := RX7) (T := TX7) (N := 25) hx hb hts (fun w h => (List.mem_cons_of_mem _ (hinX7 w h))) hown hK hP 0 rfl rfl 15 (by decide) (hts _ (List.mem_cons_of_mem _ wd_627)) (fun _ h9 => h9) rfl dX7_inLane_14 ?_
        refine lv_iload_n hx hb dX7_inLane_17 rfl (lv_at hl 0 rfl) ?_
        refine wk_iald hx hb hK hP 1 0 rfl rfl (by decide) (by omega) dX7_inLane_18 ?_
        have b_2 := hkz i
        refine lv_iconst (v := iI 1) hx hb dX7_inLane_19 rfl ?_
        refine wk_icmp_ne (tgt := 37) hx hb dX7_inLane_20 (by decide) (by omega) (fun c_3 => ?_) (fun c_3 => ?_)
        · skip
          refine lv_iconst (v := iI 0) hx hb dX7_inLane_37 rfl ?_
          refine wk_iadd hx hb dX7_inLane_38 ?_
          refine lv_istore_n (lv' := [(2, .int (iI (x + 0))), (3, .int (iI i)), (0, .ref h), (1, .int (iI ln))]) hx hb dX7_inLane_39 rfl hl (by decide) rfl (fun ls hl => ?_)
          refine wk_iinc (k := 1) (lv' := [(3, .int (iI (i + 1))), (2, .int (iI (x + 0))), (0, .ref h), (1, .int (iI ln))]) hx hb dX7_inLane_40 hl rfl (by decide) rfl (fun ls hl => ?_)
          refine lv_goto (tgt := 4) hx hb dX7_inLane_43 (by decide) ?_
          exact ih_4 (x + 0) (i + 1) (by first | assumption | omega) (by rw [hE]; first | (rw [cn_yes (by omega) (by simp only [decide_eq_true_eq]; omega)]) | (rw [cn_no (by omega) (by simp only [decide_eq_true_eq]; omega)])) (by omega) ls (lv_sub hl [0, 1, 2, 3] rfl)
        · skip
          refine lv_aload_n hx hb dX7_inLane_23 rfl (lv_at hl 2 rfl) ?_
          refine va_get (D := D) (ci := 7) (v := .ref hLa) (C := RX7) (T := TX7) (N := 25) hx hb hts (fun w h => (List.mem_cons_of_mem _ (hinX7 w h))) hown hK hP 0 rfl rfl 16 (by decide) (hts _ (List.mem_cons_of_mem _ wd_628)) (fun _ h9 => h9) rfl dX7_inLane_24 ?_
          refine lv_iload_n hx hb dX7_inLane_27 rfl (lv_at hl 0 rfl) ?_
          refine wk_iald hx hb hK hP 2 0 rfl rfl (by decide) (by omega) dX7_inLane_28 ?_
          have b_4 := hkl i
          refine lv_iload_n hx hb dX7_inLane_29 rfl (lv_at hl 3 rfl) ?_
          refine wk_icmp_ne (tgt := 37) hx hb dX7_inLane_30 (by decide) (by omega) (fun c_5 => ?_) (fun c_5 => ?_)
          · skip
            refine lv_iconst (v := iI 0) hx hb dX7_inLane_37 rfl ?_
            refine wk_iadd hx hb dX7_inLane_38 ?_
            refine lv_istore_n (lv' := [(2, .int (iI (x + 0))), (3, .int (iI i)), (0, .ref h), (1, .int (iI ln))]) hx hb dX7_inLane_39 rfl hl (by decide) rfl (fun ls hl => ?_)
            refine wk_iinc (k := 1) (lv' := [(3, .int (iI (i + 1))), (2, .int (iI (x + 0))), (0, .ref h), (1, .int (iI ln))]) hx hb dX7_inLane_40 hl rfl (by decide) rfl (fun ls hl => ?_)
            refine lv_goto (tgt := 4) hx hb dX7_inLane_43 (by decide) ?_
            exact ih_4 (x + 0) (i + 1) (by first | assumption | omega) (by rw [hE]; first | (rw [cn_yes (by omega) (by simp only [decide_eq_true_eq]; omega)]) | (rw [cn_no (by omega) (by simp only [decide_eq_true_eq]; omega)])) (by omega) ls (lv_sub hl [0, 1, 2, 3] rfl)
          · skip
            refine lv_iconst (v := iI 1) hx hb dX7_inLane_33 rfl ?_
            refine lv_goto (tgt := 38) hx hb dX7_inLane_34 (by decide) ?_
            refine wk_iadd hx hb dX7_inLane_38 ?_
            refine lv_istore_n (lv' := [(2, .int (iI (x + 1))), (3, .int (iI i)), (0, .ref h), (1, .int (iI ln))]) hx hb dX7_inLane_39 rfl hl (by decide) rfl (fun ls hl => ?_)
            refine wk_iinc (k := 1) (lv' := [(3, .int (iI (i + 1))), (2, .int (iI (x + 1))), (0, .ref h), (1, .int (iI ln))]) hx hb dX7_inLane_40 hl rfl (by decide) rfl (fun ls hl => ?_)
            refine lv_goto (tgt := 4) hx hb dX7_inLane_43 (by decide) ?_
            exact ih_4 (x + 1) (i + 1) (by first | assumption | omega) (by rw [hE]; first | (rw [cn_yes (by omega) (by simp only [decide_eq_true_eq]; omega)]) | (rw [cn_no (by omega) (by simp only [decide_eq_true_eq]; omega)])) (by omega) ls (lv_sub hl [0, 1, 2, 3] rfl)
  exact loop_4 (kn + 1 - 1).toNat.succ 0 1 (by first | assumption | rfl | omega) (by rfl) (by omega) ls (lv_sub hl [0, 1, 2, 3] rfl)

set_option maxHeartbeats 4000000 in
set_option maxRecDepth 100000 in
theorem tX7_full (l : Launch) (D : va_G) (kI : ClassId) (kZ : ClassId) (kL : ClassId) (kJ : ClassId) (h : Nat) (hRo : Nat) (hNu : Nat) (hWe : Nat) (hDa : Nat) (hVe : Nat) (hSl : Nat) (hTr : Nat) (hBx : Nat) (hSt : Nat) (hLa : Nat) (hOr : Nat) (hSi : Nat) (hTu : Nat) (ks : Int → Int) (kz : Int → Int) (th : Int) (sn : Int) (sm : Int) (nw : Int) (rn : Int) (bn : Int) (kn : Int) (cm : Int) (al : Int) (lg : Int) (tt : Int) (dn : Int) (sl : Int) (sz : Nat) (hsn : 1 ≤ sn ∧ sn ≤ 24) (hsm : 1 ≤ sm ∧ sm ≤ 8) (hkn : 0 ≤ kn ∧ kn ≤ 60) (hsl : 0 ≤ sl ∧ sl < sn) (hks : ∀ j, 0 ≤ ks j ∧ ks j ≤ 1000000) (hkz : ∀ j, 0 ≤ kz j ∧ kz j ≤ 1000000) (h1 : cn (pSL ks kz sl) (kn + 1 - 1).toNat < sm) : CtP l yX7_full wsX7_full ({ frames := 1, cells := 0, slots := 0, locals := 23 }) D vwCl (tyL kI kZ kL kJ) [(h, .inr (7, [.int (iI th), .int (iI sn), .int (iI sm), .int (iI nw), .ref hRo, .int (iI rn), .int (iI bn), .ref hNu, .ref hWe, .ref hDa, .ref hVe, .int (iI kn), .ref hSl, .ref hTr, .ref hBx, .ref hSt, .ref hLa, .ref hOr, .ref hSi, .ref hTu, .int (iI cm), .int (iI al), .int (iI lg), .int (iI tt), .int (iI dn)])), (hSl, .inl (kI, 61, .inl (iF ks))), (hSt, .inl (kI, 61, .inl (iF kz)))] [.ref h, .int (iI sl)] (iI 0) sz := by
  refine pk_start (cc := cX7_full) (maxL := 3) (ret := (some .int)) (LV := [(0, .ref h), (1, .int (iI sl))]) (by decide) rfl rfl (Nat.le_of_ble_eq_true rfl) ?_
  intro p e s m below meth cd hadm hx hb hr hml hts hown hlocks hname hnoh hxT A hA hK hP hD hS ls hl
  refine lv_iload_n hx hb dX7_full_0 rfl (lv_at hl 1 rfl) ?_
  refine lv_istore_n (lv' := [(2, .int (iI sl)), (0, .ref h), (1, .int (iI sl))]) hx hb dX7_full_1 rfl hl (by decide) rfl (fun ls hl => ?_)
  refine lv_iload_n hx hb dX7_full_2 rfl (lv_at hl 0 rfl) ?_
  refine lv_aload_n hx hb dX7_full_3 rfl (lv_at hl 1 rfl) ?_
  refine va_get (D := D) (ci := 7) (v := .int (iI sn)) (C := RX7) (T := TX7) (N := 25) hx hb hts (fun w h => (List.mem_cons_of_mem _ (hinX7 w h))) hown hK hP 0 rfl rfl 1 (by decide) (hts _ (List.mem_cons_of_mem _ wd_613)) (fun _ h9 => h9) rfl dX7_full_4 ?_
  refine wk_icmp_ge (tgt := 28) hx hb dX7_full_7 (by decide) (by omega) (fun c_1 => ?_) (fun c_1 => ?_)
  · skip
    exfalso; omega
  · skip
    refine lv_aload_n hx hb dX7_full_10 rfl (lv_at hl 1 rfl) ?_
    refine lv_iload_n hx hb dX7_full_11 rfl (lv_at hl 0 rfl) ?_
    refine pk_callI (va_runV (As := [.int (iI sl)]) (rest := []) ⟨hx, hb, hml, hown, hts⟩ (tX7_inSlot l D kI kZ kL kJ h hRo hNu hWe hDa hVe hSl hTr hBx hSt hLa hOr hSi hTu ks kz th sn sm nw rn bn kn cm al lg tt dn sl s.heap.size (by first | assumption | omega) (by first | assumption | omega) (by first | assumption | omega) (by first | assumption | omega)) (cwV 1 hts (gd_V tb_cons wd_743 wd_745 wd_23 wd_41 wd_746) rfl rfl rfl (by decide +kernel) ⟨Nat.le_of_ble_eq_true rfl, Nat.le_of_ble_eq_true rfl⟩) (ck_preV hxT hK hP hD [0, 1, 2] rfl (by decide) (q0 := 0) rfl rfl rfl) rfl rfl hl.1 rfl (lv_room (Nat.le_of_ble_eq_true rfl)) dX7_full_12 ⟨Nat.zero_le _, Nat.zero_le _⟩) ?_
    have b7 := cn_rng (pSL ks kz sl) (kn + 1 - 1).toNat
    refine lv_aload_n hx hb dX7_full_15 rfl (lv_at hl 1 rfl) ?_
    refine va_get (D := D) (ci := 7) (v := .int (iI sm)) (C := RX7) (T := TX7) (N := 25) hx hb hts (fun w h => (List.mem_cons_of_mem _ (hinX7 w h))) hown hK hP 0 rfl rfl 2 (by decide) (hts _ (List.mem_cons_of_mem _ wd_614)) (fun _ h9 => h9) rfl dX7_full_16 ?_
    refine wk_icmp_lt (tgt := 28) hx hb dX7_full_19 (by decide) (by omega) (fun c_2 => ?_) (fun c_2 => ?_)
    · skip
      refine lv_iload_n hx hb dX7_full_28 rfl (lv_at hl 0 rfl) ?_
      refine lv_iload_n hx hb dX7_full_29 rfl (lv_at hl 2 rfl) ?_
      refine wk_icmp_ne (tgt := 37) hx hb dX7_full_30 (by decide) (by omega) (fun c_3 => ?_) (fun c_3 => ?_)
      · skip
        exfalso; omega
      · skip
        refine lv_iconst (v := iI 0) hx hb dX7_full_33 rfl ?_
        refine lv_goto (tgt := 40) hx hb dX7_full_34 (by decide) ?_
        exact pk_int hx hb hr hlocks (by first | rfl | omega) dX7_full_40
    · skip
      exfalso; omega

set_option maxHeartbeats 4000000 in
set_option maxRecDepth 100000 in
theorem tX7_full_f (l : Launch) (D : va_G) (kI : ClassId) (kZ : ClassId) (kL : ClassId) (kJ : ClassId) (h : Nat) (hRo : Nat) (hNu : Nat) (hWe : Nat) (hDa : Nat) (hVe : Nat) (hSl : Nat) (hTr : Nat) (hBx : Nat) (hSt : Nat) (hLa : Nat) (hOr : Nat) (hSi : Nat) (hTu : Nat) (ks : Int → Int) (kz : Int → Int) (th : Int) (sn : Int) (sm : Int) (nw : Int) (rn : Int) (bn : Int) (kn : Int) (cm : Int) (al : Int) (lg : Int) (tt : Int) (dn : Int) (sl : Int) (sz : Nat) (hsn : 1 ≤ sn ∧ sn ≤ 24) (hsm : 1 ≤ sm ∧ sm ≤ 8) (hkn : 0 ≤ kn ∧ kn ≤ 60) (hsl : 0 ≤ sl ∧ sl < sn) (hks : ∀ j, 0 ≤ ks j ∧ ks j ≤ 1000000) (hkz : ∀ j, 0 ≤ kz j ∧ kz j ≤ 1000000) (h1 : ¬ cn (pSL ks kz sl) (kn + 1 - 1).toNat < sm) : CtP l yX7_full wsX7_full ({ frames := 1, cells := 0, slots := 0, locals := 23 }) D vwCl (tyL kI kZ kL kJ) [(h, .inr (7, [.int (iI th), .int (iI sn), .int (iI sm), .int (iI nw), .ref hRo, .int (iI rn), .int (iI bn), .ref hNu, .ref hWe, .ref hDa, .ref hVe, .int (iI kn), .ref hSl, .ref hTr, .ref hBx, .ref hSt, .ref hLa, .ref hOr, .ref hSi, .ref hTu, .int (iI cm), .int (iI al), .int (iI lg), .int (iI tt), .int (iI dn)])), (hSl, .inl (kI, 61, .inl (iF ks))), (hSt, .inl (kI, 61, .inl (iF kz)))] [.ref h, .int (iI sl)] (iI (-1 - sc (pRM (cS ks kz kn) sm) sn (sn - 1 + 1 - (sl + 1)).toNat (sl + 1))) sz := by
  refine pk_start (cc := cX7_full) (maxL := 3) (ret := (some .int)) (LV := [(0, .ref h), (1, .int (iI sl))]) (by decide) rfl rfl (Nat.le_of_ble_eq_true rfl) ?_
  intro p e s m below meth cd hadm hx hb hr hml hts hown hlocks hname hnoh hxT A hA hK hP hD hS ls hl
  refine lv_iload_n hx hb dX7_full_0 rfl (lv_at hl 1 rfl) ?_
  refine lv_istore_n (lv' := [(2, .int (iI sl)), (0, .ref h), (1, .int (iI sl))]) hx hb dX7_full_1 rfl hl (by decide) rfl (fun ls hl => ?_)
  have loop_2 : ∀ (fu : Nat) (i : Int), (sl ≤ i ∧ i ≤ sn) → ((i = sl) ∨ (sl < i ∧ sc (pRM (cS ks kz kn) sm) sn (sn - 1 + 1 - i).toNat i = sc (pRM (cS ks kz kn) sm) sn (sn - 1 + 1 - (sl + 1)).toNat (sl + 1))) → (sn - i) < (fu : Int) → ∀ (ls : Array Slot), lv_has ls 3 [(2, .int (iI i)), (0, .ref h), (1, .int (iI sl))] → W p l e ({ frames := 1, cells := 0, slots := 0, locals := 23 }) s m ([.ref h, .int (iI sl)] : List Value).toArray below meth cd s.heap [] 0 0 (MQ below (QcRead (iI (-1 - sc (pRM (cS ks kz kn) sm) sn (sn - 1 + 1 - (sl + 1)).toNat (sl + 1))) ) ([.ref h, .int (iI sl)] : List Value).toArray s 0 0 (fun _ => False)) (F0 m 2 ls []) := by
    intro fu
    induction fu with
    | zero => intro i hi hE hfu; exfalso; omega
    | succ fu ih_2 =>
      intro i hi hE hfu ls hl
      refine lv_iload_n hx hb dX7_full_2 rfl (lv_at hl 0 rfl) ?_
      refine lv_aload_n hx hb dX7_full_3 rfl (lv_at hl 1 rfl) ?_
      refine va_get (D := D) (ci := 7) (v := .int (iI sn)) (C := RX7) (T := TX7) (N := 25) hx hb hts (fun w h => (List.mem_cons_of_mem _ (hinX7 w h))) hown hK hP 0 rfl rfl 1 (by decide) (hts _ (List.mem_cons_of_mem _ wd_613)) (fun _ h9 => h9) rfl dX7_full_4 ?_
      refine wk_icmp_ge (tgt := 28) hx hb dX7_full_7 (by decide) (by omega) (fun c_1 => ?_) (fun c_1 => ?_)
      · skip
        refine lv_iload_n hx hb dX7_full_28 rfl (lv_at hl 0 rfl) ?_
        refine lv_iload_n hx hb dX7_full_29 rfl (lv_at hl 2 rfl) ?_
        refine wk_icmp_ne (tgt := 37) hx hb dX7_full_30 (by decide) (by omega) (fun c_2 => ?_) (fun c_2 => ?_)
        · skip
          refine lv_iconst (v := iI (-1)) hx hb dX7_full_37 rfl ?_
          refine lv_iload_n hx hb dX7_full_38 rfl (lv_at hl 0 rfl) ?_
          refine wk_isub hx hb dX7_full_39 ?_
          exact pk_int hx hb hr hlocks (by exact fu_end hE (by omega) (by omega) (by omega)) dX7_full_40
        · skip
          exfalso; subst c_2; omega
      · skip
        refine lv_aload_n hx hb dX7_full_10 rfl (lv_at hl 1 rfl) ?_
        refine lv_iload_n hx hb dX7_full_11 rfl (lv_at hl 0 rfl) ?_
        refine pk_callI (va_runV (As := [.int (iI i)]) (rest := []) ⟨hx, hb, hml, hown, hts⟩ (tX7_inSlot l D kI kZ kL kJ h hRo hNu hWe hDa hVe hSl hTr hBx hSt hLa hOr hSi hTu ks kz th sn sm nw rn bn kn cm al lg tt dn i s.heap.size (by first | assumption | omega) (by first | assumption | omega) (by first | assumption | omega) (by first | assumption | omega)) (cwV 1 hts (gd_V tb_cons wd_743 wd_745 wd_23 wd_41 wd_746) rfl rfl rfl (by decide +kernel) ⟨Nat.le_of_ble_eq_true rfl, Nat.le_of_ble_eq_true rfl⟩) (ck_preV hxT hK hP hD [0, 1, 2] rfl (by decide) (q0 := 0) rfl rfl rfl) rfl rfl hl.1 rfl (lv_room (Nat.le_of_ble_eq_true rfl)) dX7_full_12 ⟨Nat.zero_le _, Nat.zero_le _⟩) ?_
        have b7 := cn_rng (pSL ks kz i) (kn + 1 - 1).toNat
        refine lv_aload_n hx hb dX7_full_15 rfl (lv_at hl 1 rfl) ?_
        refine va_get (D := D) (ci := 7) (v := .int (iI sm)) (C := RX7) (T := TX7) (N := 25) hx hb hts (fun w h => (List.mem_cons_of_mem _ (hinX7 w h))) hown hK hP 0 rfl rfl 2 (by decide) (hts _ (List.mem_cons_of_mem _ wd_614)) (fun _ h9 => h9) rfl dX7_full_16 ?_
        refine wk_icmp_lt (tgt := 28) hx hb dX7_full_19 (by decide) (by omega) (fun c_3 => ?_) (fun c_3 => ?_)
        · skip
          refine lv_iload_n hx hb dX7_full_28 rfl (lv_at hl 0 rfl) ?_
          refine lv_iload_n hx hb dX7_full_29 rfl (lv_at hl 2 rfl) ?_
          refine wk_icmp_ne (tgt := 37) hx hb dX7_full_30 (by decide) (by omega) (fun c_4 => ?_) (fun c_4 => ?_)
          · skip
            refine lv_iconst (v := iI (-1)) hx hb dX7_full_37 rfl ?_
            refine lv_iload_n hx hb dX7_full_38 rfl (lv_at hl 0 rfl) ?_
            refine wk_isub hx hb dX7_full_39 ?_
            exact pk_int hx hb hr hlocks (by exact fu_end hE (by omega) (by omega) (by omega)) dX7_full_40
          · skip
            exfalso; subst c_4; omega
        · skip
          refine wk_iinc (k := 0) (lv' := [(2, .int (iI (i + 1))), (0, .ref h), (1, .int (iI sl))]) hx hb dX7_full_22 hl rfl (by decide) rfl (fun ls hl => ?_)
          refine lv_goto (tgt := 2) hx hb dX7_full_25 (by decide) ?_
          exact ih_2 (i + 1) (by first | assumption | omega) (by exact fu_step hE (by omega) (by omega)) (by omega) ls (lv_sub hl [0, 1, 2] rfl)
  exact loop_2 (sn - sl).toNat.succ sl (by first | assumption | rfl | omega) (by exact Or.inl rfl) (by omega) ls (lv_sub hl [0, 1, 2] rfl)

set_option maxHeartbeats 4000000 in
set_option maxRecDepth 100000 in
theorem tX7_book_1 (l : Launch) (D : va_G) (kI : ClassId) (kZ : ClassId) (kL : ClassId) (kJ : ClassId) (h : Nat) (hRo : Nat) (hNu : Nat) (hWe : Nat) (hDa : Nat) (hVe : Nat) (hSl : Nat) (hTr : Nat) (hBx : Nat) (hSt : Nat) (hLa : Nat) (hOr : Nat) (hSi : Nat) (hTu : Nat) (th : Int) (sn : Int) (sm : Int) (nw : Int) (rn : Int) (bn : Int) (kn : Int) (cm : Int) (al : Int) (lg : Int) (tt : Int) (dn : Int) (sl : Int) (tr : Int) (bx : Int) (sz : Nat) (hsl : -2147483648 ≤ sl ∧ sl ≤ 2147483647) (htr : -2147483648 ≤ tr ∧ tr ≤ 2147483647) (hbx : -2147483648 ≤ bx ∧ bx ≤ 2147483647) (hsn : 1 ≤ sn ∧ sn ≤ 24) (hbn : 0 ≤ bn ∧ bn ≤ 20) (h1 : ¬ ((0 ≤ sl ∧ sl < sn) ∧ (0 ≤ tr ∧ tr < 16) ∧ (0 ≤ bx ∧ bx < bn))) : CtI l yX7_book wsX7_book ({ frames := 1, cells := 0, slots := 0, locals := 21 }) D vwCl (tyL kI kZ kL kJ) [(h, .inr (7, [.int (iI th), .int (iI sn), .int (iI sm), .int (iI nw), .ref hRo, .int (iI rn), .int (iI bn), .ref hNu, .ref hWe, .ref hDa, .ref hVe, .int (iI kn), .ref hSl, .ref hTr, .ref hBx, .ref hSt, .ref hLa, .ref hOr, .ref hSi, .ref hTu, .int (iI cm), .int (iI al), .int (iI lg), .int (iI tt), .int (iI dn)]))] [.ref h, .int (iI sl), .int (iI tr), .int (iI bx)] (iI 0) [(h, .inr (7, [.int (iI 1), .int (iI sn), .int (iI sm), .int (iI nw), .ref hRo, .int (iI rn), .int (iI bn), .ref hNu, .ref hWe, .ref hDa, .ref hVe, .int (iI kn), .ref hSl, .ref hTr, .ref hBx, .ref hSt, .ref hLa, .ref hOr, .ref hSi, .ref hTu, .int (iI cm), .int (iI al), .int (iI lg), .int (iI tt), .int (iI dn)]))] sz := by
  refine ck_start (Qc := fun A => cQi D vwCl (tyL kI kZ kL kJ) A (iI 0) [(h, .inr (7, [.int (iI 1), .int (iI sn), .int (iI sm), .int (iI nw), .ref hRo, .int (iI rn), .int (iI bn), .ref hNu, .ref hWe, .ref hDa, .ref hVe, .int (iI kn), .ref hSl, .ref hTr, .ref hBx, .ref hSt, .ref hLa, .ref hOr, .ref hSi, .ref hTu, .int (iI cm), .int (iI al), .int (iI lg), .int (iI tt), .int (iI dn)]))]) (cc := cX7_book) (maxL := 5) (ret := (some .int)) (LV := [(0, .ref h), (1, .int (iI sl)), (2, .int (iI tr)), (3, .int (iI bx))]) (by decide) rfl rfl (Nat.le_of_ble_eq_true rfl) ?_
  intro p e s m below meth cd hadm hx hb hr hml hts hown hlocks hname hnoh hxT A hA hK hP hD hS ls hl
  refine lv_aload_n hx hb dX7_book_0 rfl (lv_at hl 0 rfl) ?_
  refine lv_iload_n hx hb dX7_book_1 rfl (lv_at hl 1 rfl) ?_
  refine pk_callI (va_runV (As := [.int (iI sl)]) (rest := []) ⟨hx, hb, hml, hown, hts⟩ (tX7_isSlot l D kI kZ kL kJ h hRo hNu hWe hDa hVe hSl hTr hBx hSt hLa hOr hSi hTu th sn sm nw rn bn kn cm al lg tt dn sl s.heap.size (by first | assumption | omega) (by first | assumption | omega)) (cwV 1 hts (gd_V tb_cons wd_735 wd_737 wd_21 wd_41 wd_738) rfl rfl rfl (by decide +kernel) ⟨Nat.le_of_ble_eq_true rfl, Nat.le_of_ble_eq_true rfl⟩) (ck_preV hxT hK hP hD [0] rfl (by decide) (q0 := 0) rfl rfl rfl) rfl rfl hl.1 rfl (lv_room (Nat.le_of_ble_eq_true rfl)) dX7_book_2 ⟨Nat.zero_le _, Nat.zero_le _⟩) ?_
  refine wk_bif_eq (tgt := 30) hx hb dX7_book_5 (by decide) (fun c_1 => ?_) (fun c_1 => ?_)
  · skip
    refine lv_aload_n hx hb dX7_book_30 rfl (lv_at hl 0 rfl) ?_
    refine lv_iconst (v := iI 1) hx hb dX7_book_31 rfl ?_
    refine ck_backI (va_runV (As := [.int (iI 1)]) (rest := []) ⟨hx, hb, hml, hown, hts⟩ (tX7_fails l D kI kZ kL kJ h hRo hNu hWe hDa hVe hSl hTr hBx hSt hLa hOr hSi hTu th sn sm nw rn bn kn cm al lg tt dn 1 s.heap.size ) (cwV 1 hts (gd_V tb_cons wd_702 wd_704 wd_18 wd_41 wd_705) rfl rfl rfl (by decide +kernel) ⟨Nat.le_of_ble_eq_true rfl, Nat.le_of_ble_eq_true rfl⟩) (ck_preV hxT hK hP hD [0] rfl (by decide) (q0 := 0) rfl rfl rfl) rfl rfl hl.1 rfl (lv_room (Nat.le_of_ble_eq_true rfl)) dX7_book_32 ⟨Nat.zero_le _, Nat.zero_le _⟩) hP hD hS hA [0] [] (WR := []) rfl rfl (by decide) (by decide) (ws' := [(h, .inr (7, [.int (iI 1), .int (iI sn), .int (iI sm), .int (iI nw), .ref hRo, .int (iI rn), .int (iI bn), .ref hNu, .ref hWe, .ref hDa, .ref hVe, .int (iI kn), .ref hSl, .ref hTr, .ref hBx, .ref hSt, .ref hLa, .ref hOr, .ref hSi, .ref hTu, .int (iI cm), .int (iI al), .int (iI lg), .int (iI tt), .int (iI dn)]))]) rfl (fun H locs hP hD hS => ?_)
    exact rk_int hx hb hr hlocks hK hP hD hS (by first | rfl | omega) rfl dX7_book_35
  · skip
    refine lv_iload_n hx hb dX7_book_8 rfl (lv_at hl 2 rfl) ?_
    refine wk_if_lt (tgt := 30) hx hb dX7_book_9 (by decide) (by omega) (fun c_2 => ?_) (fun c_2 => ?_)
    · skip
      refine lv_aload_n hx hb dX7_book_30 rfl (lv_at hl 0 rfl) ?_
      refine lv_iconst (v := iI 1) hx hb dX7_book_31 rfl ?_
      refine ck_backI (va_runV (As := [.int (iI 1)]) (rest := []) ⟨hx, hb, hml, hown, hts⟩ (tX7_fails l D kI kZ kL kJ h hRo hNu hWe hDa hVe hSl hTr hBx hSt hLa hOr hSi hTu th sn sm nw rn bn kn cm al lg tt dn 1 s.heap.size ) (cwV 1 hts (gd_V tb_cons wd_702 wd_704 wd_18 wd_41 wd_705) rfl rfl rfl (by decide +kernel) ⟨Nat.le_of_ble_eq_true rfl, Nat.le_of_ble_eq_true rfl⟩) (ck_preV hxT hK hP hD [0] rfl (by decide) (q0 := 0) rfl rfl rfl) rfl rfl hl.1 rfl (lv_room (Nat.le_of_ble_eq_true rfl)) dX7_book_32 ⟨Nat.zero_le _, Nat.zero_le _⟩) hP hD hS hA [0] [] (WR := []) rfl rfl (by decide) (by decide) (ws' := [(h, .inr (7, [.int (iI 1), .int (iI sn), .int (iI sm), .int (iI nw), .ref hRo, .int (iI rn), .int (iI bn), .ref hNu, .ref hWe, .ref hDa, .ref hVe, .int (iI kn), .ref hSl, .ref hTr, .ref hBx, .ref hSt, .ref hLa, .ref hOr, .ref hSi, .ref hTu, .int (iI cm), .int (iI al), .int (iI lg), .int (iI tt), .int (iI dn)]))]) rfl (fun H locs hP hD hS => ?_)
      exact rk_int hx hb hr hlocks hK hP hD hS (by first | rfl | omega) rfl dX7_book_35
    · skip
      refine lv_iload_n hx hb dX7_book_12 rfl (lv_at hl 2 rfl) ?_
      refine lv_bipush (v := iI 15) hx hb dX7_book_13 (by decide) ?_
      refine wk_icmp_gt (tgt := 30) hx hb dX7_book_15 (by decide) (by omega) (fun c_3 => ?_) (fun c_3 => ?_)
      · skip
        refine lv_aload_n hx hb dX7_book_30 rfl (lv_at hl 0 rfl) ?_
        refine lv_iconst (v := iI 1) hx hb dX7_book_31 rfl ?_
        refine ck_backI (va_runV (As := [.int (iI 1)]) (rest := []) ⟨hx, hb, hml, hown, hts⟩ (tX7_fails l D kI kZ kL kJ h hRo hNu hWe hDa hVe hSl hTr hBx hSt hLa hOr hSi hTu th sn sm nw rn bn kn cm al lg tt dn 1 s.heap.size ) (cwV 1 hts (gd_V tb_cons wd_702 wd_704 wd_18 wd_41 wd_705) rfl rfl rfl (by decide +kernel) ⟨Nat.le_of_ble_eq_true rfl, Nat.le_of_ble_eq_true rfl⟩) (ck_preV hxT hK hP hD [0] rfl (by decide) (q0 := 0) rfl rfl rfl) rfl rfl hl.1 rfl (lv_room (Nat.le_of_ble_eq_true rfl)) dX7_book_32 ⟨Nat.zero_le _, Nat.zero_le _⟩) hP hD hS hA [0] [] (WR := []) rfl rfl (by decide) (by decide) (ws' := [(h, .inr (7, [.int (iI 1), .int (iI sn), .int (iI sm), .int (iI nw), .ref hRo, .int (iI rn), .int (iI bn), .ref hNu, .ref hWe, .ref hDa, .ref hVe, .int (iI kn), .ref hSl, .ref hTr, .ref hBx, .ref hSt, .ref hLa, .ref hOr, .ref hSi, .ref hTu, .int (iI cm), .int (iI al), .int (iI lg), .int (iI tt), .int (iI dn)]))]) rfl (fun H locs hP hD hS => ?_)
        exact rk_int hx hb hr hlocks hK hP hD hS (by first | rfl | omega) rfl dX7_book_35
      · skip
        refine lv_iload_n hx hb dX7_book_18 rfl (lv_at hl 3 rfl) ?_
        refine wk_if_lt (tgt := 30) hx hb dX7_book_19 (by decide) (by omega) (fun c_4 => ?_) (fun c_4 => ?_)
        · skip
          refine lv_aload_n hx hb dX7_book_30 rfl (lv_at hl 0 rfl) ?_
          refine lv_iconst (v := iI 1) hx hb dX7_book_31 rfl ?_
          refine ck_backI (va_runV (As := [.int (iI 1)]) (rest := []) ⟨hx, hb, hml, hown, hts⟩ (tX7_fails l D kI kZ kL kJ h hRo hNu hWe hDa hVe hSl hTr hBx hSt hLa hOr hSi hTu th sn sm nw rn bn kn cm al lg tt dn 1 s.heap.size ) (cwV 1 hts (gd_V tb_cons wd_702 wd_704 wd_18 wd_41 wd_705) rfl rfl rfl (by decide +kernel) ⟨Nat.le_of_ble_eq_true rfl, Nat.le_of_ble_eq_true rfl⟩) (ck_preV hxT hK hP hD [0] rfl (by decide) (q0 := 0) rfl rfl rfl) rfl rfl hl.1 rfl (lv_room (Nat.le_of_ble_eq_true rfl)) dX7_book_32 ⟨Nat.zero_le _, Nat.zero_le _⟩) hP hD hS hA [0] [] (WR := []) rfl rfl (by decide) (by decide) (ws' := [(h, .inr (7, [.int (iI 1), .int (iI sn), .int (iI sm), .int (iI nw), .ref hRo, .int (iI rn), .int (iI bn), .ref hNu, .ref hWe, .ref hDa, .ref hVe, .int (iI kn), .ref hSl, .ref hTr, .ref hBx, .ref hSt, .ref hLa, .ref hOr, .ref hSi, .ref hTu, .int (iI cm), .int (iI al), .int (iI lg), .int (iI tt), .int (iI dn)]))]) rfl (fun H locs hP hD hS => ?_)
          exact rk_int hx hb hr hlocks hK hP hD hS (by first | rfl | omega) rfl dX7_book_35
        · skip
          refine lv_iload_n hx hb dX7_book_22 rfl (lv_at hl 3 rfl) ?_
          refine lv_aload_n hx hb dX7_book_23 rfl (lv_at hl 0 rfl) ?_
          refine va_get (D := D) (ci := 7) (v := .int (iI bn)) (C := RX7) (T := TX7) (N := 25) hx hb hts (fun w h => (List.mem_cons_of_mem _ (hinX7 w h))) hown hK hP 0 rfl rfl 6 (by decide) (hts _ (List.mem_cons_of_mem _ wd_618)) (fun _ h9 => h9) rfl dX7_book_24 ?_
          refine wk_icmp_lt (tgt := 36) hx hb dX7_book_27 (by decide) (by omega) (fun c_5 => ?_) (fun c_5 => ?_)
          · skip
            exfalso; omega
          · skip
            refine lv_aload_n hx hb dX7_book_30 rfl (lv_at hl 0 rfl) ?_
            refine lv_iconst (v := iI 1) hx hb dX7_book_31 rfl ?_
            refine ck_backI (va_runV (As := [.int (iI 1)]) (rest := []) ⟨hx, hb, hml, hown, hts⟩ (tX7_fails l D kI kZ kL kJ h hRo hNu hWe hDa hVe hSl hTr hBx hSt hLa hOr hSi hTu th sn sm nw rn bn kn cm al lg tt dn 1 s.heap.size ) (cwV 1 hts (gd_V tb_cons wd_702 wd_704 wd_18 wd_41 wd_705) rfl rfl rfl (by decide +kernel) ⟨Nat.le_of_ble_eq_true rfl, Nat.le_of_ble_eq_true rfl⟩) (ck_preV hxT hK hP hD [0] rfl (by decide) (q0 := 0) rfl rfl rfl) rfl rfl hl.1 rfl (lv_room (Nat.le_of_ble_eq_true rfl)) dX7_book_32 ⟨Nat.zero_le _, Nat.zero_le _⟩) hP hD hS hA [0] [] (WR := []) rfl rfl (by decide) (by decide) (ws' := [(h, .inr (7, [.int (iI 1), .int (iI sn), .int (iI sm), .int (iI nw), .ref hRo, .int (iI rn), .int (iI bn), .ref hNu, .ref hWe, .ref hDa, .ref hVe, .int (iI kn), .ref hSl, .ref hTr, .ref hBx, .ref hSt, .ref hLa, .ref hOr, .ref hSi, .ref hTu, .int (iI cm), .int (iI al), .int (iI lg), .int (iI tt), .int (iI dn)]))]) rfl (fun H locs hP hD hS => ?_)
            exact rk_int hx hb hr hlocks hK hP hD hS (by first | rfl | omega) rfl dX7_book_35

set_option maxHeartbeats 4000000 in
set_option maxRecDepth 100000 in
theorem tX7_book_2 (l : Launch) (D : va_G) (kI : ClassId) (kZ : ClassId) (kL : ClassId) (kJ : ClassId) (h : Nat) (hRo : Nat) (hNu : Nat) (hWe : Nat) (hDa : Nat) (hVe : Nat) (hSl : Nat) (hTr : Nat) (hBx : Nat) (hSt : Nat) (hLa : Nat) (hOr : Nat) (hSi : Nat) (hTu : Nat) (th : Int) (sn : Int) (sm : Int) (nw : Int) (rn : Int) (bn : Int) (kn : Int) (cm : Int) (al : Int) (lg : Int) (tt : Int) (dn : Int) (sl : Int) (tr : Int) (bx : Int) (sz : Nat) (hsn : 1 ≤ sn ∧ sn ≤ 24) (hbn : 0 ≤ bn ∧ bn ≤ 20) (h1 : (0 ≤ sl ∧ sl < sn) ∧ (0 ≤ tr ∧ tr < 16) ∧ (0 ≤ bx ∧ bx < bn)) (h2 : kn = 60) : CtI l yX7_book wsX7_book ({ frames := 1, cells := 0, slots := 0, locals := 21 }) D vwCl (tyL kI kZ kL kJ) [(h, .inr (7, [.int (iI th), .int (iI sn), .int (iI sm), .int (iI nw), .ref hRo, .int (iI rn), .int (iI bn), .ref hNu, .ref hWe, .ref hDa, .ref hVe, .int (iI kn), .ref hSl, .ref hTr, .ref hBx, .ref hSt, .ref hLa, .ref hOr, .ref hSi, .ref hTu, .int (iI cm), .int (iI al), .int (iI lg), .int (iI tt), .int (iI dn)]))] [.ref h, .int (iI sl), .int (iI tr), .int (iI bx)] (iI 0) [(h, .inr (7, [.int (iI 2), .int (iI sn), .int (iI sm), .int (iI nw), .ref hRo, .int (iI rn), .int (iI bn), .ref hNu, .ref hWe, .ref hDa, .ref hVe, .int (iI kn), .ref hSl, .ref hTr, .ref hBx, .ref hSt, .ref hLa, .ref hOr, .ref hSi, .ref hTu, .int (iI cm), .int (iI al), .int (iI lg), .int (iI tt), .int (iI dn)]))] sz := by
  refine ck_start (Qc := fun A => cQi D vwCl (tyL kI kZ kL kJ) A (iI 0) [(h, .inr (7, [.int (iI 2), .int (iI sn), .int (iI sm), .int (iI nw), .ref hRo, .int (iI rn), .int (iI bn), .ref hNu, .ref hWe, .ref hDa, .ref hVe, .int (iI kn), .ref hSl, .ref hTr, .ref hBx, .ref hSt, .ref hLa, .ref hOr, .ref hSi, .ref hTu, .int (iI cm), .int (iI al), .int (iI lg), .int (iI tt), .int (iI dn)]))]) (cc := cX7_book) (maxL := 5) (ret := (some .int)) (LV := [(0, .ref h), (1, .int (iI sl)), (2, .int (iI tr)), (3, .int (iI bx))]) (by decide) rfl rfl (Nat.le_of_ble_eq_true rfl) ?_
  intro p e s m below meth cd hadm hx hb hr hml hts hown hlocks hname hnoh hxT A hA hK hP hD hS ls hl
  refine lv_aload_n hx hb dX7_book_0 rfl (lv_at hl 0 rfl) ?_
  refine lv_iload_n hx hb dX7_book_1 rfl (lv_at hl 1 rfl) ?_
  refine pk_callI (va_runV (As := [.int (iI sl)]) (rest := []) ⟨hx, hb, hml, hown, hts⟩ (tX7_isSlot l D kI kZ kL kJ h hRo hNu hWe hDa hVe hSl hTr hBx hSt hLa hOr hSi hTu th sn sm nw rn bn kn cm al lg tt dn sl s.heap.size (by first | assumption | omega) (by first | assumption | omega)) (cwV 1 hts (gd_V tb_cons wd_735 wd_737 wd_21 wd_41 wd_738) rfl rfl rfl (by decide +kernel) ⟨Nat.le_of_ble_eq_true rfl, Nat.le_of_ble_eq_true rfl⟩) (ck_preV hxT hK hP hD [0] rfl (by decide) (q0 := 0) rfl rfl rfl) rfl rfl hl.1 rfl (lv_room (Nat.le_of_ble_eq_true rfl)) dX7_book_2 ⟨Nat.zero_le _, Nat.zero_le _⟩) ?_
  refine wk_bif_eq (tgt := 30) hx hb dX7_book_5 (by decide) (fun c_1 => ?_) (fun c_1 => ?_)
  · skip
    exfalso; omega
  · skip
    refine lv_iload_n hx hb dX7_book_8 rfl (lv_at hl 2 rfl) ?_
    refine wk_if_lt (tgt := 30) hx hb dX7_book_9 (by decide) (by omega) (fun c_2 => ?_) (fun c_2 => ?_)
    · skip
      exfalso; omega
    · skip
      refine lv_iload_n hx hb dX7_book_12 rfl (lv_at hl 2 rfl) ?_
      refine lv_bipush (v := iI 15) hx hb dX7_book_13 (by decide) ?_
      refine wk_icmp_gt (tgt := 30) hx hb dX7_book_15 (by decide) (by omega) (fun c_3 => ?_) (fun c_3 => ?_)
      · skip
        exfalso; omega
      · skip
        refine lv_iload_n hx hb dX7_book_18 rfl (lv_at hl 3 rfl) ?_
        refine wk_if_lt (tgt := 30) hx hb dX7_book_19 (by decide) (by omega) (fun c_4 => ?_) (fun c_4 => ?_)
        · skip
          exfalso; omega
        · skip
          refine lv_iload_n hx hb dX7_book_22 rfl (lv_at hl 3 rfl) ?_
          refine lv_aload_n hx hb dX7_book_23 rfl (lv_at hl 0 rfl) ?_
          refine va_get (D := D) (ci := 7) (v := .int (iI bn)) (C := RX7) (T := TX7) (N := 25) hx hb hts (fun w h => (List.mem_cons_of_mem _ (hinX7 w h))) hown hK hP 0 rfl rfl 6 (by decide) (hts _ (List.mem_cons_of_mem _ wd_618)) (fun _ h9 => h9) rfl dX7_book_24 ?_
          refine wk_icmp_lt (tgt := 36) hx hb dX7_book_27 (by decide) (by omega) (fun c_5 => ?_) (fun c_5 => ?_)
          · skip
            refine lv_aload_n hx hb dX7_book_36 rfl (lv_at hl 0 rfl) ?_
            refine va_get (D := D) (ci := 7) (v := .int (iI kn)) (C := RX7) (T := TX7) (N := 25) hx hb hts (fun w h => (List.mem_cons_of_mem _ (hinX7 w h))) hown hK hP 0 rfl rfl 11 (by decide) (hts _ (List.mem_cons_of_mem _ wd_623)) (fun _ h9 => h9) rfl dX7_book_37 ?_
            refine lv_bipush (v := iI 60) hx hb dX7_book_40 (by decide) ?_
            refine wk_icmp_ne (tgt := 51) hx hb dX7_book_42 (by decide) (by omega) (fun c_6 => ?_) (fun c_6 => ?_)
            · skip
              exfalso; omega
            · skip
              refine lv_aload_n hx hb dX7_book_45 rfl (lv_at hl 0 rfl) ?_
              refine lv_iconst (v := iI 2) hx hb dX7_book_46 rfl ?_
              refine ck_backI (va_runV (As := [.int (iI 2)]) (rest := []) ⟨hx, hb, hml, hown, hts⟩ (tX7_fails l D kI kZ kL kJ h hRo hNu hWe hDa hVe hSl hTr hBx hSt hLa hOr hSi hTu th sn sm nw rn bn kn cm al lg tt dn 2 s.heap.size ) (cwV 1 hts (gd_V tb_cons wd_702 wd_704 wd_18 wd_41 wd_705) rfl rfl rfl (by decide +kernel) ⟨Nat.le_of_ble_eq_true rfl, Nat.le_of_ble_eq_true rfl⟩) (ck_preV hxT hK hP hD [0] rfl (by decide) (q0 := 0) rfl rfl rfl) rfl rfl hl.1 rfl (lv_room (Nat.le_of_ble_eq_true rfl)) dX7_book_47 ⟨Nat.zero_le _, Nat.zero_le _⟩) hP hD hS hA [0] [] (WR := []) rfl rfl (by decide) (by decide) (ws' := [(h, .inr (7, [.int (iI 2), .int (iI sn), .int (iI sm), .int (iI nw), .ref hRo, .int (iI rn), .int (iI bn), .ref hNu, .ref hWe, .ref hDa, .ref hVe, .int (iI kn), .ref hSl, .ref hTr, .ref hBx, .ref hSt, .ref hLa, .ref hOr, .ref hSi, .ref hTu, .int (iI cm), .int (iI al), .int (iI lg), .int (iI tt), .int (iI dn)]))]) rfl (fun H locs hP hD hS => ?_)
              exact rk_int hx hb hr hlocks hK hP hD hS (by first | rfl | omega) rfl dX7_book_50
          · skip
            exfalso; omega

set_option maxHeartbeats 4000000 in
set_option maxRecDepth 100000 in
theorem tX7_book_0 (l : Launch) (D : va_G) (kI : ClassId) (kZ : ClassId) (kL : ClassId) (kJ : ClassId) (h : Nat) (hRo : Nat) (hNu : Nat) (hWe : Nat) (hDa : Nat) (hVe : Nat) (hSl : Nat) (hTr : Nat) (hBx : Nat) (hSt : Nat) (hLa : Nat) (hOr : Nat) (hSi : Nat) (hTu : Nat) (kb : Int → Int) (kz : Int → Int) (th : Int) (sn : Int) (sm : Int) (nw : Int) (rn : Int) (bn : Int) (kn : Int) (cm : Int) (al : Int) (lg : Int) (tt : Int) (dn : Int) (sl : Int) (tr : Int) (bx : Int) (sz : Nat) (hsn : 1 ≤ sn ∧ sn ≤ 24) (hbn : 0 ≤ bn ∧ bn ≤ 20) (hkn : 0 ≤ kn ∧ kn ≤ 60) (h1 : (0 ≤ sl ∧ sl < sn) ∧ (0 ≤ tr ∧ tr < 16) ∧ (0 ≤ bx ∧ bx < bn)) (h2 : kn < 60) (hkb : ∀ j, 0 ≤ kb j ∧ kb j ≤ 1000000) (hkz : ∀ j, 0 ≤ kz j ∧ kz j ≤ 1000000) (h3 : ¬ sc (pHB kb kz bx) (-1) (kn + 1 - 1).toNat 1 = -1) : CtI l yX7_book wsX7_book ({ frames := 1, cells := 0, slots := 0, locals := 21 }) D vwCl (tyL kI kZ kL kJ) [(h, .inr (7, [.int (iI th), .int (iI sn), .int (iI sm), .int (iI nw), .ref hRo, .int (iI rn), .int (iI bn), .ref hNu, .ref hWe, .ref hDa, .ref hVe, .int (iI kn), .ref hSl, .ref hTr, .ref hBx, .ref hSt, .ref hLa, .ref hOr, .ref hSi, .ref hTu, .int (iI cm), .int (iI al), .int (iI lg), .int (iI tt), .int (iI dn)])), (hBx, .inl (kI, 61, .inl (iF kb))), (hSt, .inl (kI, 61, .inl (iF kz)))] [.ref h, .int (iI sl), .int (iI tr), .int (iI bx)] (iI 0) [(h, .inr (7, [.int (iI 0), .int (iI sn), .int (iI sm), .int (iI nw), .ref hRo, .int (iI rn), .int (iI bn), .ref hNu, .ref hWe, .ref hDa, .ref hVe, .int (iI kn), .ref hSl, .ref hTr, .ref hBx, .ref hSt, .ref hLa, .ref hOr, .ref hSi, .ref hTu, .int (iI cm), .int (iI al), .int (iI lg), .int (iI tt), .int (iI dn)])), (hBx, .inl (kI, 61, .inl (iF kb))), (hSt, .inl (kI, 61, .inl (iF kz)))] sz := by
  refine ck_start (Qc := fun A => cQi D vwCl (tyL kI kZ kL kJ) A (iI 0) [(h, .inr (7, [.int (iI 0), .int (iI sn), .int (iI sm), .int (iI nw), .ref hRo, .int (iI rn), .int (iI bn), .ref hNu, .ref hWe, .ref hDa, .ref hVe, .int (iI kn), .ref hSl, .ref hTr, .ref hBx, .ref hSt, .ref hLa, .ref hOr, .ref hSi, .ref hTu, .int (iI cm), .int (iI al), .int (iI lg), .int (iI tt), .int (iI dn)])), (hBx, .inl (kI, 61, .inl (iF kb))), (hSt, .inl (kI, 61, .inl (iF kz)))]) (cc := cX7_book) (maxL := 5) (ret := (some .int)) (LV := [(0, .ref h), (1, .int (iI sl)), (2, .int (iI tr)), (3, .int (iI bx))]) (by decide) rfl rfl (Nat.le_of_ble_eq_true rfl) ?_
  intro p e s m below meth cd hadm hx hb hr hml hts hown hlocks hname hnoh hxT A hA hK hP hD hS ls hl
  refine lv_aload_n hx hb dX7_book_0 rfl (lv_at hl 0 rfl) ?_
  refine lv_iload_n hx hb dX7_book_1 rfl (lv_at hl 1 rfl) ?_
  refine pk_callI (va_runV (As := [.int (iI sl)]) (rest := []) ⟨hx, hb, hml, hown, hts⟩ (tX7_isSlot l D kI kZ kL kJ h hRo hNu hWe hDa hVe hSl hTr hBx hSt hLa hOr hSi hTu th sn sm nw rn bn kn cm al lg tt dn sl s.heap.size (by first | assumption | omega) (by first | assumption | omega)) (cwV 1 hts (gd_V tb_cons wd_735 wd_737 wd_21 wd_41 wd_738) rfl rfl rfl (by decide +kernel) ⟨Nat.le_of_ble_eq_true rfl, Nat.le_of_ble_eq_true rfl⟩) (ck_preV hxT hK hP hD [0] rfl (by decide) (q0 := 0) rfl rfl rfl) rfl rfl hl.1 rfl (lv_room (Nat.le_of_ble_eq_true rfl)) dX7_book_2 ⟨Nat.zero_le _, Nat.zero_le _⟩) ?_
  refine wk_bif_eq (tgt := 30) hx hb dX7_book_5 (by decide) (fun c_1 => ?_) (fun c_1 => ?_)
  · skip
    exfalso; omega
  · skip
    refine lv_iload_n hx hb dX7_book_8 rfl (lv_at hl 2 rfl) ?_
    refine wk_if_lt (tgt := 30) hx hb dX7_book_9 (by decide) (by omega) (fun c_2 => ?_) (fun c_2 => ?_)
    · skip
      exfalso; omega
    · skip
      refine lv_iload_n hx hb dX7_book_12 rfl (lv_at hl 2 rfl) ?_
      refine lv_bipush (v := iI 15) hx hb dX7_book_13 (by decide) ?_
      refine wk_icmp_gt (tgt := 30) hx hb dX7_book_15 (by decide) (by omega) (fun c_3 => ?_) (fun c_3 => ?_)
      · skip
        exfalso; omega
      · skip
        refine lv_iload_n hx hb dX7_book_18 rfl (lv_at hl 3 rfl) ?_
        refine wk_if_lt (tgt := 30) hx hb dX7_book_19 (by decide) (by omega) (fun c_4 => ?_) (fun c_4 => ?_)
        · skip
          exfalso; omega
        · skip
          refine lv_iload_n hx hb dX7_book_22 rfl (lv_at hl 3 rfl) ?_
          refine lv_aload_n hx hb dX7_book_23 rfl (lv_at hl 0 rfl) ?_
          refine va_get (D := D) (ci := 7) (v := .int (iI bn)) (C := RX7) (T := TX7) (N := 25) hx hb hts (fun w h => (List.mem_cons_of_mem _ (hinX7 w h))) hown hK hP 0 rfl rfl 6 (by decide) (hts _ (List.mem_cons_of_mem _ wd_618)) (fun _ h9 => h9) rfl dX7_book_24 ?_
          refine wk_icmp_lt (tgt := 36) hx hb dX7_book_27 (by decide) (by omega) (fun c_5 => ?_) (fun c_5 => ?_)
          · skip
            refine lv_aload_n hx hb dX7_book_36 rfl (lv_at hl 0 rfl) ?_
            refine va_get (D := D) (ci := 7) (v := .int (iI kn)) (C := RX7) (T := TX7) (N := 25) hx hb hts (fun w h => (List.mem_cons_of_mem _ (hinX7 w h))) hown hK hP 0 rfl rfl 11 (by decide) (hts _ (List.mem_cons_of_mem _ wd_623)) (fun _ h9 => h9) rfl dX7_book_37 ?_
            refine lv_bipush (v := iI 60) hx hb dX7_book_40 (by decide) ?_
            refine wk_icmp_ne (tgt := 51) hx hb dX7_book_42 (by decide) (by omega) (fun c_6 => ?_) (fun c_6 => ?_)
            · skip
              refine lv_aload_n hx hb dX7_book_51 rfl (lv_at hl 0 rfl) ?_
              refine lv_iconst (v := iI 0) hx hb dX7_book_52 rfl ?_
              refine wk_put (ci := 7) (C := RX7) (T := TX7) (N := 25) hx hb hts (fun w h => (List.mem_cons_of_mem _ (hinX7 w h))) tyX7 tyX7_ok nmX7 hown hK hP hD hS 0 rfl rfl 0 (by decide) (hts _ (List.mem_cons_of_mem _ wd_612)) (fun _ h9 => h9) rfl rfl (Nat.le_of_ble_eq_true rfl) dX7_book_53 (ws' := [(h, .inr (7, [.int (iI 0), .int (iI sn), .int (iI sm), .int (iI nw), .ref hRo, .int (iI rn), .int (iI bn), .ref hNu, .ref hWe, .ref hDa, .ref hVe, .int (iI kn), .ref hSl, .ref hTr, .ref hBx, .ref hSt, .ref hLa, .ref hOr, .ref hSi, .ref hTu, .int (iI cm), .int (iI al), .int (iI lg), .int (iI tt), .int (iI dn)])), (hBx, .inl (kI, 61, .inl (iF kb))), (hSt, .inl (kI, 61, .inl (iF kz)))]) rfl (fun H locs hP hD hS => ?_)
              refine lv_iconst (v := iI 1) hx hb dX7_book_56 rfl ?_
              refine lv_istore (lv' := [(4, .int (iI 1)), (0, .ref h), (1, .int (iI sl)), (2, .int (iI tr)), (3, .int (iI bx))]) hx hb dX7_book_57 hl (by decide) rfl (fun ls hl => ?_)
              have loop_59 : ∀ (fu : Nat) (i : Int), (1 ≤ i ∧ i ≤ kn + 1) → (sc (pHB kb kz bx) (-1) (kn + 1 - i).toNat i = sc (pHB kb kz bx) (-1) (kn + 1 - 1).toNat 1) → (kn + 1 - i) < (fu : Int) → ∀ (H : Heap) (locs : List Loc) (ls : Array Slot), va_P D vwCl [(h, .inr (7, [.int (iI 0), .int (iI sn), .int (iI sm), .int (iI nw), .ref hRo, .int (iI rn), .int (iI bn), .ref hNu, .ref hWe, .ref hDa, .ref hVe, .int (iI kn), .ref hSl, .ref hTr, .ref hBx, .ref hSt, .ref hLa, .ref hOr, .ref hSi, .ref hTu, .int (iI cm), .int (iI al), .int (iI lg), .int (iI tt), .int (iI dn)])), (hBx, .inl (kI, 61, .inl (iF kb))), (hSt, .inl (kI, 61, .inl (iF kz)))] H → va_D A [(h, .inr (7, [.int (iI 0), .int (iI sn), .int (iI sm), .int (iI nw), .ref hRo, .int (iI rn), .int (iI bn), .ref hNu, .ref hWe, .ref hDa, .ref hVe, .int (iI kn), .ref hSl, .ref hTr, .ref hBx, .ref hSt, .ref hLa, .ref hOr, .ref hSi, .ref hTu, .int (iI cm), .int (iI al), .int (iI lg), .int (iI tt), .int (iI dn)])), (hBx, .inl (kI, 61, .inl (iF kb))), (hSt, .inl (kI, 61, .inl (iF kz)))] → va_S A s.heap H locs → lv_has ls 5 [(4, .int (iI i)), (0, .ref h), (1, .int (iI sl)), (2, .int (iI tr)), (3, .int (iI bx))] → W p l e ({ frames := 1, cells := 0, slots := 0, locals := 21 }) s m ([.ref h, .int (iI sl), .int (iI tr), .int (iI bx)] : List Value).toArray below meth cd H locs 0 0 (MQ below (cQi D vwCl (tyL kI kZ kL kJ) A (iI 0) [(h, .inr (7, [.int (iI 0), .int (iI sn), .int (iI sm), .int (iI nw), .ref hRo, .int (iI rn), .int (iI bn), .ref hNu, .ref hWe, .ref hDa, .ref hVe, .int (iI kn), .ref hSl, .ref hTr, .ref hBx, .ref hSt, .ref hLa, .ref hOr, .ref hSi, .ref hTu, .int (iI cm), .int (iI al), .int (iI lg), .int (iI tt), .int (iI dn)])), (hBx, .inl (kI, 61, .inl (iF kb))), (hSt, .inl (kI, 61, .inl (iF kz)))]) ([.ref h, .int (iI sl), .int (iI tr), .int (iI bx)] : List Value).toArray s 0 0 A) (F0 m 59 ls []) := by
                intro fu
                induction fu with
                | zero => intro i hi hE hfu; exfalso; omega
                | succ fu ih_59 =>
                  intro i hi hE hfu H locs ls hP hD hS hl
                  refine lv_iload hx hb dX7_book_59 (lv_at hl 0 rfl) ?_
                  refine lv_aload_n hx hb dX7_book_61 rfl (lv_at hl 1 rfl) ?_
                  refine va_get (D := D) (ci := 7) (v := .int (iI kn)) (C := RX7) (T := TX7) (N := 25) hx hb hts (fun w h => (List.mem_cons_of_mem _ (hinX7 w h))) hown hK hP 0 rfl rfl 11 (by decide) (hts _ (List.mem_cons_of_mem _ wd_623)) (fun _ h9 => h9) rfl dX7_book_62 ?_
                  refine wk_icmp_gt (tgt := 98) hx hb dX7_book_65 (by decide) (by omega) (fun c_7 => ?_) (fun c_7 => ?_)
                  · skip
                    have e9 := hE; rw [sc_end (by omega)] at e9; exact absurd e9.symm h3
                  · skip
                    refine lv_aload_n hx hb dX7_book_68 rfl (lv_at hl 1 rfl) ?_
                    refine va_get (D := D) (ci := 7) (v := .ref hBx) (C := RX7) (T := TX7) (N := 25) hx hb hts (fun w h => (List.mem_cons_of_mem _ (hinX7 w h))) hown hK hP 0 rfl rfl 14 (by decide) (hts _ (List.mem_cons_of_mem _ wd_626)) (fun _ h9 => h9) rfl dX7_book_69 ?_
                    refine lv_iload hx hb dX7_book_72 (lv_at hl 0 rfl) ?_
                    refine wk_iald hx hb hK hP 1 0 rfl rfl (by decide) (by omega) dX7_book_74 ?_
                    have b_8 := hkb i
                    refine lv_iload_n hx hb dX7_book_75 rfl (lv_at hl 4 rfl) ?_
                    refine wk_icmp_ne (tgt := 92) hx hb dX7_book_76 (by decide) (by omega) (fun c_9 => ?_) (fun c_9 => ?_)
                    · skip
                      refine wk_iinc (k := 0) (lv' := [(4, .int (iI (i + 1))), (0, .ref h), (1, .int (iI sl)), (2, .int (iI tr)), (3, .int (iI bx))]) hx hb dX7_book_92 hl rfl (by decide) rfl (fun ls hl => ?_)
                      refine lv_goto (tgt := 59) hx hb dX7_book_95 (by decide) ?_
                      exact ih_59 (i + 1) (by first | assumption | omega) (by have e9 := hE; rw [sc_no (by omega) (by simp only [decide_eq_true_eq]; omega)] at e9; exact e9) (by omega) H locs ls hP hD hS (lv_sub hl [0, 1, 2, 3, 4] rfl)
                    · skip
                      refine lv_aload_n hx hb dX7_book_79 rfl (lv_at hl 1 rfl) ?_
                      refine va_get (D := D) (ci := 7) (v := .ref hSt) (C := RX7) (T := TX7) (N := 25) hx hb hts (fun w h => (List.mem_cons_of_mem _ (hinX7 w h))) hown hK hP 0 rfl rfl 15 (by decide) (hts _ (List.mem_cons_of_mem _ wd_627)) (fun _ h9 => h9) rfl dX7_book_80 ?_
                      refine lv_iload hx hb dX7_book_83 (lv_at hl 0 rfl) ?_
                      refine wk_iald hx hb hK hP 2 0 rfl rfl (by decide) (by omega) dX7_book_85 ?_
                      have b_10 := hkz i
                      refine lv_iconst (v := iI 3) hx hb dX7_book_86 rfl ?_
                      refine wk_icmp_eq (tgt := 92) hx hb dX7_book_87 (by decide) (by omega) (fun c_11 => ?_) (fun c_11 => ?_)
                      · skip
                        refine wk_iinc (k := 0) (lv' := [(4, .int (iI (i + 1))), (0, .ref h), (1, .int (iI sl)), (2, .int (iI tr)), (3, .int (iI bx))]) hx hb dX7_book_92 hl rfl (by decide) rfl (fun ls hl => ?_)
                        refine lv_goto (tgt := 59) hx hb dX7_book_95 (by decide) ?_
                        exact ih_59 (i + 1) (by first | assumption | omega) (by have e9 := hE; rw [sc_no (by omega) (by simp only [decide_eq_true_eq]; omega)] at e9; exact e9) (by omega) H locs ls hP hD hS (lv_sub hl [0, 1, 2, 3, 4] rfl)
                      · skip
                        refine lv_iconst (v := iI 0) hx hb dX7_book_90 rfl ?_
                        exact rk_int hx hb hr hlocks hK hP hD hS (by first | rfl | omega) rfl dX7_book_91
              exact loop_59 (kn + 1 - 1).toNat.succ 1 (by first | assumption | rfl | omega) (by rfl) (by omega) H locs ls hP hD hS (lv_sub hl [0, 1, 2, 3, 4] rfl)
            · skip
              exfalso; omega
          · skip
            exfalso; omega

set_option maxHeartbeats 4000000 in
set_option maxRecDepth 100000 in
theorem tX7_book_f (l : Launch) (D : va_G) (kI : ClassId) (kZ : ClassId) (kL : ClassId) (kJ : ClassId) (h : Nat) (hRo : Nat) (hNu : Nat) (hWe : Nat) (hDa : Nat) (hVe : Nat) (hSl : Nat) (hTr : Nat) (hBx : Nat) (hSt : Nat) (hLa : Nat) (hOr : Nat) (hSi : Nat) (hTu : Nat) (kb : Int → Int) (kz : Int → Int) (ks : Int → Int) (th : Int) (sn : Int) (sm : Int) (nw : Int) (rn : Int) (bn : Int) (kn : Int) (cm : Int) (al : Int) (lg : Int) (tt : Int) (dn : Int) (sl : Int) (tr : Int) (bx : Int) (sz : Nat) (hsn : 1 ≤ sn ∧ sn ≤ 24) (hbn : 0 ≤ bn ∧ bn ≤ 20) (hkn : 0 ≤ kn ∧ kn ≤ 60) (h1 : (0 ≤ sl ∧ sl < sn) ∧ (0 ≤ tr ∧ tr < 16) ∧ (0 ≤ bx ∧ bx < bn)) (h2 : kn < 60) (hkb : ∀ j, 0 ≤ kb j ∧ kb j ≤ 1000000) (hkz : ∀ j, 0 ≤ kz j ∧ kz j ≤ 1000000) (h3 : sc (pHB kb kz bx) (-1) (kn + 1 - 1).toNat 1 = -1) (hsm : 1 ≤ sm ∧ sm ≤ 8) (hks : ∀ j, 0 ≤ ks j ∧ ks j ≤ 1000000) (h4 : ¬ cn (pSL ks kz sl) (kn + 1 - 1).toNat < sm) : CtI l yX7_book wsX7_book ({ frames := 2, cells := 0, slots := 0, locals := 45 }) D vwCl (tyL kI kZ kL kJ) [(h, .inr (7, [.int (iI th), .int (iI sn), .int (iI sm), .int (iI nw), .ref hRo, .int (iI rn), .int (iI bn), .ref hNu, .ref hWe, .ref hDa, .ref hVe, .int (iI kn), .ref hSl, .ref hTr, .ref hBx, .ref hSt, .ref hLa, .ref hOr, .ref hSi, .ref hTu, .int (iI cm), .int (iI al), .int (iI lg), .int (iI tt), .int (iI dn)])), (hBx, .inl (kI, 61, .inl (iF kb))), (hSt, .inl (kI, 61, .inl (iF kz))), (hSl, .inl (kI, 61, .inl (iF ks)))] [.ref h, .int (iI sl), .int (iI tr), .int (iI bx)] (iI (-1 - sc (pRM (cS ks kz kn) sm) sn (sn - 1 + 1 - (sl + 1)).toNat (sl + 1))) [(h, .inr (7, [.int (iI 0), .int (iI sn), .int (iI sm), .int (iI nw), .ref hRo, .int (iI rn), .int (iI bn), .ref hNu, .ref hWe, .ref hDa, .ref hVe, .int (iI kn), .ref hSl, .ref hTr, .ref hBx, .ref hSt, .ref hLa, .ref hOr, .ref hSi, .ref hTu, .int (iI cm), .int (iI al), .int (iI lg), .int (iI tt), .int (iI dn)])), (hBx, .inl (kI, 61, .inl (iF kb))), (hSt, .inl (kI, 61, .inl (iF kz))), (hSl, .inl (kI, 61, .inl (iF ks)))] sz := by
  refine ck_start (Qc := fun A => cQi D vwCl (tyL kI kZ kL kJ) A (iI (-1 - sc (pRM (cS ks kz kn) sm) sn (sn - 1 + 1 - (sl + 1)).toNat (sl + 1))) [(h, .inr (7, [.int (iI 0), .int (iI sn), .int (iI sm), .int (iI nw), .ref hRo, .int (iI rn), .int (iI bn), .ref hNu, .ref hWe, .ref hDa, .ref hVe, .int (iI kn), .ref hSl, .ref hTr, .ref hBx, .ref hSt, .ref hLa, .ref hOr, .ref hSi, .ref hTu, .int (iI cm), .int (iI al), .int (iI lg), .int (iI tt), .int (iI dn)])), (hBx, .inl (kI, 61, .inl (iF kb))), (hSt, .inl (kI, 61, .inl (iF kz))), (hSl, .inl (kI, 61, .inl (iF ks)))]) (cc := cX7_book) (maxL := 5) (ret := (some .int)) (LV := [(0, .ref h), (1, .int (iI sl)), (2, .int (iI tr)), (3, .int (iI bx))]) (by decide) rfl rfl (Nat.le_of_ble_eq_true rfl) ?_
  intro p e s m below meth cd hadm hx hb hr hml hts hown hlocks hname hnoh hxT A hA hK hP hD hS ls hl
  refine lv_aload_n hx hb dX7_book_0 rfl (lv_at hl 0 rfl) ?_
  refine lv_iload_n hx hb dX7_book_1 rfl (lv_at hl 1 rfl) ?_
  refine pk_callI (va_runV (As := [.int (iI sl)]) (rest := []) ⟨hx, hb, hml, hown, hts⟩ (tX7_isSlot l D kI kZ kL kJ h hRo hNu hWe hDa hVe hSl hTr hBx hSt hLa hOr hSi hTu th sn sm nw rn bn kn cm al lg tt dn sl s.heap.size (by first | assumption | omega) (by first | assumption | omega)) (cwV 1 hts (gd_V tb_cons wd_735 wd_737 wd_21 wd_41 wd_738) rfl rfl rfl (by decide +kernel) ⟨Nat.le_of_ble_eq_true rfl, Nat.le_of_ble_eq_true rfl⟩) (ck_preV hxT hK hP hD [0] rfl (by decide) (q0 := 0) rfl rfl rfl) rfl rfl hl.1 rfl (lv_room (Nat.le_of_ble_eq_true rfl)) dX7_book_2 ⟨Nat.zero_le _, Nat.zero_le _⟩) ?_
  refine wk_bif_eq (tgt := 30) hx hb dX7_book_5 (by decide) (fun c_1 => ?_) (fun c_1 => ?_)
  · skip
    exfalso; omega
  · skip
    refine lv_iload_n hx hb dX7_book_8 rfl (lv_at hl 2 rfl) ?_
    refine wk_if_lt (tgt := 30) hx hb dX7_book_9 (by decide) (by omega) (fun c_2 => ?_) (fun c_2 => ?_)
    · skip
      exfalso; omega
    · skip
      refine lv_iload_n hx hb dX7_book_12 rfl (lv_at hl 2 rfl) ?_
      refine lv_bipush (v := iI 15) hx hb dX7_book_13 (by decide) ?_
      refine wk_icmp_gt (tgt := 30) hx hb dX7_book_15 (by decide) (by omega) (fun c_3 => ?_) (fun c_3 => ?_)
      · skip
        exfalso; omega
      · skip
        refine lv_iload_n hx hb dX7_book_18 rfl (lv_at hl 3 rfl) ?_
        refine wk_if_lt (tgt := 30) hx hb dX7_book_19 (by decide) (by omega) (fun c_4 => ?_) (fun c_4 => ?_)
        · skip
          exfalso; omega
        · skip
          refine lv_iload_n hx hb dX7_book_22 rfl (lv_at hl 3 rfl) ?_
          refine lv_aload_n hx hb dX7_book_23 rfl (lv_at hl 0 rfl) ?_
          refine va_get (D := D) (ci := 7) (v := .int (iI bn)) (C := RX7) (T := TX7) (N := 25) hx hb hts (fun w h => (List.mem_cons_of_mem _ (hinX7 w h))) hown hK hP 0 rfl rfl 6 (by decide) (hts _ (List.mem_cons_of_mem _ wd_618)) (fun _ h9 => h9) rfl dX7_book_24 ?_
          refine wk_icmp_lt (tgt := 36) hx hb dX7_book_27 (by decide) (by omega) (fun c_5 => ?_) (fun c_5 => ?_)
          · skip
            refine lv_aload_n hx hb dX7_book_36 rfl (lv_at hl 0 rfl) ?_
            refine va_get (D := D) (ci := 7) (v := .int (iI kn)) (C := RX7) (T := TX7) (N := 25) hx hb hts (fun w h => (List.mem_cons_of_mem _ (hinX7 w h))) hown hK hP 0 rfl rfl 11 (by decide) (hts _ (List.mem_cons_of_mem _ wd_623)) (fun _ h9 => h9) rfl dX7_book_37 ?_
            refine lv_bipush (v := iI 60) hx hb dX7_book_40 (by decide) ?_
            refine wk_icmp_ne (tgt := 51) hx hb dX7_book_42 (by decide) (by omega) (fun c_6 => ?_) (fun c_6 => ?_)
            · skip
              refine lv_aload_n hx hb dX7_book_51 rfl (lv_at hl 0 rfl) ?_
              refine lv_iconst (v := iI 0) hx hb dX7_book_52 rfl ?_
              refine wk_put (ci := 7) (C := RX7) (T := TX7) (N := 25) hx hb hts (fun w h => (List.mem_cons_of_mem _ (hinX7 w h))) tyX7 tyX7_ok nmX7 hown hK hP hD hS 0 rfl rfl 0 (by decide) (hts _ (List.mem_cons_of_mem _ wd_612)) (fun _ h9 => h9) rfl rfl (Nat.le_of_ble_eq_true rfl) dX7_book_53 (ws' := [(h, .inr (7, [.int (iI 0), .int (iI sn), .int (iI sm), .int (iI nw), .ref hRo, .int (iI rn), .int (iI bn), .ref hNu, .ref hWe, .ref hDa, .ref hVe, .int (iI kn), .ref hSl, .ref hTr, .ref hBx, .ref hSt, .ref hLa, .ref hOr, .ref hSi, .ref hTu, .int (iI cm), .int (iI al), .int (iI lg), .int (iI tt), .int (iI dn)])), (hBx, .inl (kI, 61, .inl (iF kb))), (hSt, .inl (kI, 61, .inl (iF kz))), (hSl, .inl (kI, 61, .inl (iF ks)))]) rfl (fun H locs hP hD hS => ?_)
              refine lv_iconst (v := iI 1) hx hb dX7_book_56 rfl ?_
              refine lv_istore (lv' := [(4, .int (iI 1)), (0, .ref h), (1, .int (iI sl)), (2, .int (iI tr)), (3, .int (iI bx))]) hx hb dX7_book_57 hl (by decide) rfl (fun ls hl => ?_)
              have loop_59 : ∀ (fu : Nat) (i : Int), (1 ≤ i ∧ i ≤ kn + 1) → (sc (pHB kb kz bx) (-1) (kn + 1 - i).toNat i = sc (pHB kb kz bx) (-1) (kn + 1 - 1).toNat 1) → (kn + 1 - i) < (fu : Int) → ∀ (H : Heap) (locs : List Loc) (ls : Array Slot), va_P D vwCl [(h, .inr (7, [.int (iI 0), .int (iI sn), .int (iI sm), .int (iI nw), .ref hRo, .int (iI rn), .int (iI bn), .ref hNu, .ref hWe, .ref hDa, .ref hVe, .int (iI kn), .ref hSl, .ref hTr, .ref hBx, .ref hSt, .ref hLa, .ref hOr, .ref hSi, .ref hTu, .int (iI cm), .int (iI al), .int (iI lg), .int (iI tt), .int (iI dn)])), (hBx, .inl (kI, 61, .inl (iF kb))), (hSt, .inl (kI, 61, .inl (iF kz))), (hSl, .inl (kI, 61, .inl (iF ks)))] H → va_D A [(h, .inr (7, [.int (iI 0), .int (iI sn), .int (iI sm), .int (iI nw), .ref hRo, .int (iI rn), .int (iI bn), .ref hNu, .ref hWe, .ref hDa, .ref hVe, .int (iI kn), .ref hSl, .ref hTr, .ref hBx, .ref hSt, .ref hLa, .ref hOr, .ref hSi, .ref hTu, .int (iI cm), .int (iI al), .int (iI lg), .int (iI tt), .int (iI dn)])), (hBx, .inl (kI, 61, .inl (iF kb))), (hSt, .inl (kI, 61, .inl (iF kz))), (hSl, .inl (kI, 61, .inl (iF ks)))] → va_S A s.heap H locs → lv_has ls 5 [(4, .int (iI i)), (0, .ref h), (1, .int (iI sl)), (2, .int (iI tr)), (3, .int (iI bx))] → W p l e ({ frames := 2, cells := 0, slots := 0, locals := 45 }) s m ([.ref h, .int (iI sl), .int (iI tr), .int (iI bx)] : List Value).toArray below meth cd H locs 0 0 (MQ below (cQi D vwCl (tyL kI kZ kL kJ) A (iI (-1 - sc (pRM (cS ks kz kn) sm) sn (sn - 1 + 1 - (sl + 1)).toNat (sl + 1))) [(h, .inr (7, [.int (iI 0), .int (iI sn), .int (iI sm), .int (iI nw), .ref hRo, .int (iI rn), .int (iI bn), .ref hNu, .ref hWe, .ref hDa, .ref hVe, .int (iI kn), .ref hSl, .ref hTr, .ref hBx, .ref hSt, .ref hLa, .ref hOr, .ref hSi, .ref hTu, .int (iI cm), .int (iI al), .int (iI lg), .int (iI tt), .int (iI dn)])), (hBx, .inl (kI, 61, .inl (iF kb))), (hSt, .inl (kI, 61, .inl (iF kz))), (hSl, .inl (kI, 61, .inl (iF ks)))]) ([.ref h, .int (iI sl), .int (iI tr), .int (iI bx)] : List Value).toArray s 0 0 A) (F0 m 59 ls []) := by
                intro fu
                induction fu with
                | zero => intro i hi hE hfu; exfalso; omega
                | succ fu ih_59 =>
                  intro i hi hE hfu H locs ls hP hD hS hl
                  refine lv_iload hx hb dX7_book_59 (lv_at hl 0 rfl) ?_
                  refine lv_aload_n hx hb dX7_book_61 rfl (lv_at hl 1 rfl) ?_
                  refine va_get (D := D) (ci := 7) (v := .int (iI kn)) (C := RX7) (T := TX7) (N := 25) hx hb hts (fun w h => (List.mem_cons_of_mem _ (hinX7 w h))) hown hK hP 0 rfl rfl 11 (by decide) (hts _ (List.mem_cons_of_mem _ wd_623)) (fun _ h9 => h9) rfl dX7_book_62 ?_
                  refine wk_icmp_gt (tgt := 98) hx hb dX7_book_65 (by decide) (by omega) (fun c_7 => ?_) (fun c_7 => ?_)
                  · skip
                    refine lv_aload_n hx hb dX7_book_98 rfl (lv_at hl 1 rfl) ?_
                    refine lv_iload_n hx hb dX7_book_99 rfl (lv_at hl 2 rfl) ?_
                    refine pk_callI (va_runV (As := [.int (iI sl)]) (rest := []) ⟨hx, hb, hml, hown, hts⟩ (tX7_full_f l D kI kZ kL kJ h hRo hNu hWe hDa hVe hSl hTr hBx hSt hLa hOr hSi hTu ks kz 0 sn sm nw rn bn kn cm al lg tt dn sl H.size (by first | assumption | omega) (by first | assumption | omega) (by first | assumption | omega) (by first | assumption | omega) (by first | assumption | omega) (by first | assumption | omega) (by first | assumption | omega)) (cwV 1 hts (gd_V tb_cons wd_739 wd_741 wd_22 wd_41 wd_742) rfl rfl rfl (by decide +kernel) ⟨Nat.le_of_ble_eq_true rfl, Nat.le_of_ble_eq_true rfl⟩) (ck_preV hxT hK hP hD [0, 3, 2] rfl (by decide) (q0 := 0) rfl rfl rfl) rfl rfl hl.1 rfl (lv_room (Nat.le_of_ble_eq_true rfl)) dX7_book_100 ⟨Nat.zero_le _, Nat.zero_le _⟩) ?_
                    have b6 := sc_low (pRM (cS ks kz kn) sm) sn (sn - 1) (sl + 1) (by omega) (by omega)
                    have b5 := sc_high (pRM (cS ks kz kn) sm) sn (sn - 1) (sl + 1) (by omega)
                    refine wk_if_ge (tgt := 112) hx hb dX7_book_103 (by decide) (by omega) (fun c_8 => ?_) (fun c_8 => ?_)
                    · skip
                      exfalso; omega
                    · skip
                      refine lv_aload_n hx hb dX7_book_106 rfl (lv_at hl 1 rfl) ?_
                      refine lv_iload_n hx hb dX7_book_107 rfl (lv_at hl 2 rfl) ?_
                      refine pk_callI (va_runV (As := [.int (iI sl)]) (rest := []) ⟨hx, hb, hml, hown, hts⟩ (tX7_full_f l D kI kZ kL kJ h hRo hNu hWe hDa hVe hSl hTr hBx hSt hLa hOr hSi hTu ks kz 0 sn sm nw rn bn kn cm al lg tt dn sl H.size (by first | assumption | omega) (by first | assumption | omega) (by first | assumption | omega) (by first | assumption | omega) (by first | assumption | omega) (by first | assumption | omega) (by first | assumption | omega)) (cwV 1 hts (gd_V tb_cons wd_739 wd_741 wd_22 wd_41 wd_742) rfl rfl rfl (by decide +kernel) ⟨Nat.le_of_ble_eq_true rfl, Nat.le_of_ble_eq_true rfl⟩) (ck_preV hxT hK hP hD [0, 3, 2] rfl (by decide) (q0 := 0) rfl rfl rfl) rfl rfl hl.1 rfl (lv_room (Nat.le_of_ble_eq_true rfl)) dX7_book_108 ⟨Nat.zero_le _, Nat.zero_le _⟩) ?_
                      exact rk_int hx hb hr hlocks hK hP hD hS (by first | rfl | omega) rfl dX7_book_111
                  · skip
                    refine lv_aload_n hx hb dX7_book_68 rfl (lv_at hl 1 rfl) ?_
                    refine va_get (D := D) (ci := 7) (v := .ref hBx) (C := RX7) (T := TX7) (N := 25) hx hb hts (fun w h => (List.mem_cons_of_mem _ (hinX7 w h))) hown hK hP 0 rfl rfl 14 (by decide) (hts _ (List.mem_cons_of_mem _ wd_626)) (fun _ h9 => h9) rfl dX7_book_69 ?_
                    refine lv_iload hx hb dX7_book_72 (lv_at hl 0 rfl) ?_
                    refine wk_iald hx hb hK hP 1 0 rfl rfl (by decide) (by omega) dX7_book_74 ?_
                    have b_9 := hkb i
                    refine lv_iload_n hx hb dX7_book_75 rfl (lv_at hl 4 rfl) ?_
                    refine wk_icmp_ne (tgt := 92) hx hb dX7_book_76 (by decide) (by omega) (fun c_10 => ?_) (fun c_10 => ?_)
                    · skip
                      refine wk_iinc (k := 0) (lv' := [(4, .int (iI (i + 1))), (0, .ref h), (1, .int (iI sl)), (2, .int (iI tr)), (3, .int (iI bx))]) hx hb dX7_book_92 hl rfl (by decide) rfl (fun ls hl => ?_)
                      refine lv_goto (tgt := 59) hx hb dX7_book_95 (by decide) ?_
                      exact ih_59 (i + 1) (by first | assumption | omega) (by have e9 := hE; rw [sc_no (by omega) (by simp only [decide_eq_true_eq]; omega)] at e9; exact e9) (by omega) H locs ls hP hD hS (lv_sub hl [0, 1, 2, 3, 4] rfl)
                    · skip
                      refine lv_aload_n hx hb dX7_book_79 rfl (lv_at hl 1 rfl) ?_
                      refine va_get (D := D) (ci := 7) (v := .ref hSt) (C := RX7) (T := TX7) (N := 25) hx hb hts (fun w h => (List.mem_cons_of_mem _ (hinX7 w h))) hown hK hP 0 rfl rfl 15 (by decide) (hts _ (List.mem_cons_of_mem _ wd_627)) (fun _ h9 => h9) rfl dX7_book_80 ?_
                      refine lv_iload hx hb dX7_book_83 (lv_at hl 0 rfl) ?_
                      refine wk_iald hx hb hK hP 2 0 rfl rfl (by decide) (by omega) dX7_book_85 ?_
                      have b_11 := hkz i
                      refine lv_iconst (v := iI 3) hx hb dX7_book_86 rfl ?_
                      refine wk_icmp_eq (tgt := 92) hx hb dX7_book_87 (by decide) (by omega) (fun c_12 => ?_) (fun c_12 => ?_)
                      · skip
                        refine wk_iinc (k := 0) (lv' := [(4, .int (iI (i + 1))), (0, .ref h), (1, .int (iI sl)), (2, .int (iI tr)), (3, .int (iI bx))]) hx hb dX7_book_92 hl rfl (by decide) rfl (fun ls hl => ?_)
                        refine lv_goto (tgt := 59) hx hb dX7_book_95 (by decide) ?_
                        exact ih_59 (i + 1) (by first | assumption | omega) (by have e9 := hE; rw [sc_no (by omega) (by simp only [decide_eq_true_eq]; omega)] at e9; exact e9) (by omega) H locs ls hP hD hS (lv_sub hl [0, 1, 2, 3, 4] rfl)
                      · skip
                        have e9 := hE; rw [sc_yes (by omega) (by simp only [decide_eq_true_eq]; omega)] at e9; omega
              exact loop_59 (kn + 1 - 1).toNat.succ 1 (by first | assumption | rfl | omega) (by rfl) (by omega) H locs ls hP hD hS (lv_sub hl [0, 1, 2, 3, 4] rfl)
            · skip
              exfalso; omega
          · skip
            exfalso; omega

set_option maxHeartbeats 4000000 in
set_option maxRecDepth 100000 in
theorem tX7_book_a (l : Launch) (D : va_G) (kI : ClassId) (kZ : ClassId) (kL : ClassId) (kJ : ClassId) (h : Nat) (hRo : Nat) (hNu : Nat) (hWe : Nat) (hDa : Nat) (hVe : Nat) (hSl : Nat) (hTr : Nat) (hBx : Nat) (hSt : Nat) (hLa : Nat) (hOr : Nat) (hSi : Nat) (hTu : Nat) (kb : Int → Int) (kz : Int → Int) (ks : Int → Int) (kt : Int → Int) (mt : Int → Int) (th : Int) (sn : Int) (sm : Int) (nw : Int) (rn : Int) (bn : Int) (kn : Int) (cm : Int) (al : Int) (lg : Int) (tt : Int) (dn : Int) (sl : Int) (tr : Int) (bx : Int) (sz : Nat) (hsn : 1 ≤ sn ∧ sn ≤ 24) (hbn : 0 ≤ bn ∧ bn ≤ 20) (hkn : 0 ≤ kn ∧ kn ≤ 60) (h1 : (0 ≤ sl ∧ sl < sn) ∧ (0 ≤ tr ∧ tr < 16) ∧ (0 ≤ bx ∧ bx < bn)) (h2 : kn < 60) (hkb : ∀ j, 0 ≤ kb j ∧ kb j ≤ 1000000) (hkz : ∀ j, 0 ≤ kz j ∧ kz j ≤ 1000000) (h3 : sc (pHB kb kz bx) (-1) (kn + 1 - 1).toNat 1 = -1) (hsm : 1 ≤ sm ∧ sm ≤ 8) (hks : ∀ j, 0 ≤ ks j ∧ ks j ≤ 1000000) (h4 : cn (pSL ks kz sl) (kn + 1 - 1).toNat < sm) : CtI l yX7_book wsX7_book ({ frames := 2, cells := 0, slots := 0, locals := 45 }) D vwCl (tyL kI kZ kL kJ) [(h, .inr (7, [.int (iI th), .int (iI sn), .int (iI sm), .int (iI nw), .ref hRo, .int (iI rn), .int (iI bn), .ref hNu, .ref hWe, .ref hDa, .ref hVe, .int (iI kn), .ref hSl, .ref hTr, .ref hBx, .ref hSt, .ref hLa, .ref hOr, .ref hSi, .ref hTu, .int (iI cm), .int (iI al), .int (iI lg), .int (iI tt), .int (iI dn)])), (hBx, .inl (kI, 61, .inl (iF kb))), (hSt, .inl (kI, 61, .inl (iF kz))), (hSl, .inl (kI, 61, .inl (iF ks))), (hTr, .inl (kI, 61, .inl (iF kt))), (hTu, .inl (kI, 61, .inl (iF mt)))] [.ref h, .int (iI sl), .int (iI tr), .int (iI bx)] (iI (kn + 1)) [(h, .inr (7, [.int (iI 0), .int (iI sn), .int (iI sm), .int (iI nw), .ref hRo, .int (iI rn), .int (iI bn), .ref hNu, .ref hWe, .ref hDa, .ref hVe, .int (iI (kn + 1)), .ref hSl, .ref hTr, .ref hBx, .ref hSt, .ref hLa, .ref hOr, .ref hSi, .ref hTu, .int (iI cm), .int (iI al), .int (iI lg), .int (iI tt), .int (iI dn)])), (hBx, .inl (kI, 61, .inl (iF (iu kb (kn + 1) bx)))), (hSt, .inl (kI, 61, .inl (iF (iu kz (kn + 1) 0)))), (hSl, .inl (kI, 61, .inl (iF (iu ks (kn + 1) sl)))), (hTr, .inl (kI, 61, .inl (iF (iu kt (kn + 1) tr)))), (hTu, .inl (kI, 61, .inl (iF (iu mt (kn + 1) (-1)))))] sz := by
  refine ck_start (Qc := fun A => cQi D vwCl (tyL kI kZ kL kJ) A (iI (kn + 1)) [(h, .inr (7, [.int (iI 0), .int (iI sn), .int (iI sm), .int (iI nw), .ref hRo, .int (iI rn), .int (iI bn), .ref hNu, .ref hWe, .ref hDa, .ref hVe, .int (iI (kn + 1)), .ref hSl, .ref hTr, .ref hBx, .ref hSt, .ref hLa, .ref hOr, .ref hSi, .ref hTu, .int (iI cm), .int (iI al), .int (iI lg), .int (iI tt), .int (iI dn)])), (hBx, .inl (kI, 61, .inl (iF (iu kb (kn + 1) bx)))), (hSt, .inl (kI, 61, .inl (iF (iu kz (kn + 1) 0)))), (hSl, .inl (kI, 61, .inl (iF (iu ks (kn + 1) sl)))), (hTr, .inl (kI, 61, .inl (iF (iu kt (kn + 1) tr)))), (hTu, .inl (kI, 61, .inl (iF (iu mt (kn + 1) (-1)))))]) (cc := cX7_book) (maxL := 5) (ret := (some .int)) (LV := [(0, .ref h), (1, .int (iI sl)), (2, .int (iI tr)), (3, .int (iI bx))]) (by decide) rfl rfl (Nat.le_of_ble_eq_true rfl) ?_
  intro p e s m below meth cd hadm hx hb hr hml hts hown hlocks hname hnoh hxT A hA hK hP hD hS ls hl
  refine lv_aload_n hx hb dX7_book_0 rfl (lv_at hl 0 rfl) ?_
  refine lv_iload_n hx hb dX7_book_1 rfl (lv_at hl 1 rfl) ?_
  refine pk_callI (va_runV (As := [.int (iI sl)]) (rest := []) ⟨hx, hb, hml, hown, hts⟩ (tX7_isSlot l D kI kZ kL kJ h hRo hNu hWe hDa hVe hSl hTr hBx hSt hLa hOr hSi hTu th sn sm nw rn bn kn cm al lg tt dn sl s.heap.size (by first | assumption | omega) (by first | assumption | omega)) (cwV 1 hts (gd_V tb_cons wd_735 wd_737 wd_21 wd_41 wd_738) rfl rfl rfl (by decide +kernel) ⟨Nat.le_of_ble_eq_true rfl, Nat.le_of_ble_eq_true rfl⟩) (ck_preV hxT hK hP hD [0] rfl (by decide) (q0 := 0) rfl rfl rfl) rfl rfl hl.1 rfl (lv_room (Nat.le_of_ble_eq_true rfl)) dX7_book_2 ⟨Nat.zero_le _, Nat.zero_le _⟩) ?_
  refine wk_bif_eq (tgt := 30) hx hb dX7_book_5 (by decide) (fun c_1 => ?_) (fun c_1 => ?_)
  · skip
    exfalso; omega
  · skip
    refine lv_iload_n hx hb dX7_book_8 rfl (lv_at hl 2 rfl) ?_
    refine wk_if_lt (tgt := 30) hx hb dX7_book_9 (by decide) (by omega) (fun c_2 => ?_) (fun c_2 => ?_)
    · skip
      exfalso; omega
    · skip
      refine lv_iload_n hx hb dX7_book_12 rfl (lv_at hl 2 rfl) ?_
      refine lv_bipush (v := iI 15) hx hb dX7_book_13 (by decide) ?_
      refine wk_icmp_gt (tgt := 30) hx hb dX7_book_15 (by decide) (by omega) (fun c_3 => ?_) (fun c_3 => ?_)
      · skip
        exfalso; omega
      · skip
        refine lv_iload_n hx hb dX7_book_18 rfl (lv_at hl 3 rfl) ?_
        refine wk_if_lt (tgt := 30) hx hb dX7_book_19 (by decide) (by omega) (fun c_4 => ?_) (fun c_4 => ?_)
        · skip
          exfalso; omega
        · skip
          refine lv_iload_n hx hb dX7_book_22 rfl (lv_at hl 3 rfl) ?_
          refine lv_aload_n hx hb dX7_book_23 rfl (lv_at hl 0 rfl) ?_
          refine va_get (D := D) (ci := 7) (v := .int (iI bn)) (C := RX7) (T := TX7) (N := 25) hx hb hts (fun w h => (List.mem_cons_of_mem _ (hinX7 w h))) hown hK hP 0 rfl rfl 6 (by decide) (hts _ (List.mem_cons_of_mem _ wd_618)) (fun _ h9 => h9) rfl dX7_book_24 ?_
          refine wk_icmp_lt (tgt := 36) hx hb dX7_book_27 (by decide) (by omega) (fun c_5 => ?_) (fun c_5 => ?_)
          · skip
            refine lv_aload_n hx hb dX7_book_36 rfl (lv_at hl 0 rfl) ?_
            refine va_get (D := D) (ci := 7) (v := .int (iI kn)) (C := RX7) (T := TX7) (N := 25) hx hb hts (fun w h => (List.mem_cons_of_mem _ (hinX7 w h))) hown hK hP 0 rfl rfl 11 (by decide) (hts _ (List.mem_cons_of_mem _ wd_623)) (fun _ h9 => h9) rfl dX7_book_37 ?_
            refine lv_bipush (v := iI 60) hx hb dX7_book_40 (by decide) ?_
            refine wk_icmp_ne (tgt := 51) hx hb dX7_book_42 (by decide) (by omega) (fun c_6 => ?_) (fun c_6 => ?_)
            · skip
              refine lv_aload_n hx hb dX7_book_51 rfl (lv_at hl 0 rfl) ?_
              refine lv_iconst (v := iI 0) hx hb dX7_book_52 rfl ?_
              refine wk_put (ci := 7) (C := RX7) (T := TX7) (N := 25) hx hb hts (fun w h => (List.mem_cons_of_mem _ (hinX7 w h))) tyX7 tyX7_ok nmX7 hown hK hP hD hS 0 rfl rfl 0 (by decide) (hts _ (List.mem_cons_of_mem _ wd_612)) (fun _ h9 => h9) rfl rfl (Nat.le_of_ble_eq_true rfl) dX7_book_53 (ws' := [(h, .inr (7, [.int (iI 0), .int (iI sn), .int (iI sm), .int (iI nw), .ref hRo, .int (iI rn), .int (iI bn), .ref hNu, .ref hWe, .ref hDa, .ref hVe, .int (iI kn), .ref hSl, .ref hTr, .ref hBx, .ref hSt, .ref hLa, .ref hOr, .ref hSi, .ref hTu, .int (iI cm), .int (iI al), .int (iI lg), .int (iI tt), .int (iI dn)])), (hBx, .inl (kI, 61, .inl (iF kb))), (hSt, .inl (kI, 61, .inl (iF kz))), (hSl, .inl (kI, 61, .inl (iF ks))), (hTr, .inl (kI, 61, .inl (iF kt))), (hTu, .inl (kI, 61, .inl (iF mt)))]) rfl (fun H locs hP hD hS => ?_)
              refine lv_iconst (v := iI 1) hx hb dX7_book_56 rfl ?_
              refine lv_istore (lv' := [(4, .int (iI 1)), (0, .ref h), (1, .int (iI sl)), (2, .int (iI tr)), (3, .int (iI bx))]) hx hb dX7_book_57 hl (by decide) rfl (fun ls hl => ?_)
              have loop_59 : ∀ (fu : Nat) (i : Int), (1 ≤ i ∧ i ≤ kn + 1) → (sc (pHB kb kz bx) (-1) (kn + 1 - i).toNat i = sc (pHB kb kz bx) (-1) (kn + 1 - 1).toNat 1) → (kn + 1 - i) < (fu : Int) → ∀ (H : Heap) (locs : List Loc) (ls : Array Slot), va_P D vwCl [(h, .inr (7, [.int (iI 0), .int (iI sn), .int (iI sm), .int (iI nw), .ref hRo, .int (iI rn), .int (iI bn), .ref hNu, .ref hWe, .ref hDa, .ref hVe, .int (iI kn), .ref hSl, .ref hTr, .ref hBx, .ref hSt, .ref hLa, .ref hOr, .ref hSi, .ref hTu, .int (iI cm), .int (iI al), .int (iI lg), .int (iI tt), .int (iI dn)])), (hBx, .inl (kI, 61, .inl (iF kb))), (hSt, .inl (kI, 61, .inl (iF kz))), (hSl, .inl (kI, 61, .inl (iF ks))), (hTr, .inl (kI, 61, .inl (iF kt))), (hTu, .inl (kI, 61, .inl (iF mt)))] H → va_D A [(h, .inr (7, [.int (iI 0), .int (iI sn), .int (iI sm), .int (iI nw), .ref hRo, .int (iI rn), .int (iI bn), .ref hNu, .ref hWe, .ref hDa, .ref hVe, .int (iI kn), .ref hSl, .ref hTr, .ref hBx, .ref hSt, .ref hLa, .ref hOr, .ref hSi, .ref hTu, .int (iI cm), .int (iI al), .int (iI lg), .int (iI tt), .int (iI dn)])), (hBx, .inl (kI, 61, .inl (iF kb))), (hSt, .inl (kI, 61, .inl (iF kz))), (hSl, .inl (kI, 61, .inl (iF ks))), (hTr, .inl (kI, 61, .inl (iF kt))), (hTu, .inl (kI, 61, .inl (iF mt)))] → va_S A s.heap H locs → lv_has ls 5 [(4, .int (iI i)), (0, .ref h), (1, .int (iI sl)), (2, .int (iI tr)), (3, .int (iI bx))] → W p l e ({ frames := 2, cells := 0, slots := 0, locals := 45 }) s m ([.ref h, .int (iI sl), .int (iI tr), .int (iI bx)] : List Value).toArray below meth cd H locs 0 0 (MQ below (cQi D vwCl (tyL kI kZ kL kJ) A (iI (kn + 1)) [(h, .inr (7, [.int (iI 0), .int (iI sn), .int (iI sm), .int (iI nw), .ref hRo, .int (iI rn), .int (iI bn), .ref hNu, .ref hWe, .ref hDa, .ref hVe, .int (iI (kn + 1)), .ref hSl, .ref hTr, .ref hBx, .ref hSt, .ref hLa, .ref hOr, .ref hSi, .ref hTu, .int (iI cm), .int (iI al), .int (iI lg), .int (iI tt), .int (iI dn)])), (hBx, .inl (kI, 61, .inl (iF (iu kb (kn + 1) bx)))), (hSt, .inl (kI, 61, .inl (iF (iu kz (kn + 1) 0)))), (hSl, .inl (kI, 61, .inl (iF (iu ks (kn + 1) sl)))), (hTr, .inl (kI, 61, .inl (iF (iu kt (kn + 1) tr)))), (hTu, .inl (kI, 61, .inl (iF (iu mt (kn + 1) (-1)))))]) ([.ref h, .int (iI sl), .int (iI tr), .int (iI bx)] : List Value).toArray s 0 0 A) (F0 m 59 ls []) := by
                intro fu
                induction fu with
                | zero => intro i hi hE hfu; exfalso; omega
                | succ fu ih_59 =>
                  intro i hi hE hfu H locs ls hP hD hS hl
                  refine lv_iload hx hb dX7_book_59 (lv_at hl 0 rfl) ?_
                  refine lv_aload_n hx hb dX7_book_61 rfl (lv_at hl 1 rfl) ?_
                  refine va_get (D := D) (ci := 7) (v := .int (iI kn)) (C := RX7) (T := TX7) (N := 25) hx hb hts (fun w h => (List.mem_cons_of_mem _ (hinX7 w h))) hown hK hP 0 rfl rfl 11 (by decide) (hts _ (List.mem_cons_of_mem _ wd_623)) (fun _ h9 => h9) rfl dX7_book_62 ?_
                  refine wk_icmp_gt (tgt := 98) hx hb dX7_book_65 (by decide) (by omega) (fun c_7 => ?_) (fun c_7 => ?_)
                  · skip
                    refine lv_aload_n hx hb dX7_book_98 rfl (lv_at hl 1 rfl) ?_
                    refine lv_iload_n hx hb dX7_book_99 rfl (lv_at hl 2 rfl) ?_
                    refine pk_callI (va_runV (As := [.int (iI sl)]) (rest := []) ⟨hx, hb, hml, hown, hts⟩ (tX7_full l D kI kZ kL kJ h hRo hNu hWe hDa hVe hSl hTr hBx hSt hLa hOr hSi hTu ks kz 0 sn sm nw rn bn kn cm al lg tt dn sl H.size (by first | assumption | omega) (by first | assumption | omega) (by first | assumption | omega) (by first | assumption | omega) (by first | assumption | omega) (by first | assumption | omega) (by first | assumption | omega)) (cwV 1 hts (gd_V tb_cons wd_739 wd_741 wd_22 wd_41 wd_742) rfl rfl rfl (by decide +kernel) ⟨Nat.le_of_ble_eq_true rfl, Nat.le_of_ble_eq_true rfl⟩) (ck_preV hxT hK hP hD [0, 3, 2] rfl (by decide) (q0 := 0) rfl rfl rfl) rfl rfl hl.1 rfl (lv_room (Nat.le_of_ble_eq_true rfl)) dX7_book_100 ⟨Nat.zero_le _, Nat.zero_le _⟩) ?_
                    refine wk_if_ge (tgt := 112) hx hb dX7_book_103 (by decide) (by omega) (fun c_8 => ?_) (fun c_8 => ?_)
                    · skip
                      refine lv_aload_n hx hb dX7_book_112 rfl (lv_at hl 1 rfl) ?_
                      refine lv_dup hx hb dX7_book_113 rfl ?_
                      refine va_get (D := D) (ci := 7) (v := .int (iI kn)) (C := RX7) (T := TX7) (N := 25) hx hb hts (fun w h => (List.mem_cons_of_mem _ (hinX7 w h))) hown hK hP 0 rfl rfl 11 (by decide) (hts _ (List.mem_cons_of_mem _ wd_623)) (fun _ h9 => h9) rfl dX7_book_114 ?_
                      refine lv_iconst (v := iI 1) hx hb dX7_book_117 rfl ?_
                      refine wk_iadd hx hb dX7_book_118 ?_
                      refine wk_put (ci := 7) (C := RX7) (T := TX7) (N := 25) hx hb hts (fun w h => (List.mem_cons_of_mem _ (hinX7 w h))) tyX7 tyX7_ok nmX7 hown hK hP hD hS 0 rfl rfl 11 (by decide) (hts _ (List.mem_cons_of_mem _ wd_623)) (fun _ h9 => h9) rfl rfl (Nat.le_of_ble_eq_true rfl) dX7_book_119 (ws' := [(h, .inr (7, [.int (iI 0), .int (iI sn), .int (iI sm), .int (iI nw), .ref hRo, .int (iI rn), .int (iI bn), .ref hNu, .ref hWe, .ref hDa, .ref hVe, .int (iI (kn + 1)), .ref hSl, .ref hTr, .ref hBx, .ref hSt, .ref hLa, .ref hOr, .ref hSi, .ref hTu, .int (iI cm), .int (iI al), .int (iI lg), .int (iI tt), .int (iI dn)])), (hBx, .inl (kI, 61, .inl (iF kb))), (hSt, .inl (kI, 61, .inl (iF kz))), (hSl, .inl (kI, 61, .inl (iF ks))), (hTr, .inl (kI, 61, .inl (iF kt))), (hTu, .inl (kI, 61, .inl (iF mt)))]) rfl (fun H locs hP hD hS => ?_)
                      refine lv_aload_n hx hb dX7_book_122 rfl (lv_at hl 1 rfl) ?_
                      refine va_get (D := D) (ci := 7) (v := .ref hSl) (C := RX7) (T := TX7) (N := 25) hx hb hts (fun w h => (List.mem_cons_of_mem _ (hinX7 w h))) hown hK hP 0 rfl rfl 12 (by decide) (hts _ (List.mem_cons_of_mem _ wd_624)) (fun _ h9 => h9) rfl dX7_book_123 ?_
                      refine lv_aload_n hx hb dX7_book_126 rfl (lv_at hl 1 rfl) ?_
                      refine va_get (D := D) (ci := 7) (v := .int (iI (kn + 1))) (C := RX7) (T := TX7) (N := 25) hx hb hts (fun w h => (List.mem_cons_of_mem _ (hinX7 w h))) hown hK hP 0 rfl rfl 11 (by decide) (hts _ (List.mem_cons_of_mem _ wd_623)) (fun _ h9 => h9) rfl dX7_book_127 ?_
                      refine lv_iload_n hx hb dX7_book_130 rfl (lv_at hl 2 rfl) ?_
                      refine wk_iast hx hb hK hP hD hS 3 0 rfl rfl (by decide) (by omega) dX7_book_131 (ws' := [(h, .inr (7, [.int (iI 0), .int (iI sn), .int (iI sm), .int (iI nw), .ref hRo, .int (iI rn), .int (iI bn), .ref hNu, .ref hWe, .ref hDa, .ref hVe, .int (iI (kn + 1)), .ref hSl, .ref hTr, .ref hBx, .ref hSt, .ref hLa, .ref hOr, .ref hSi, .ref hTu, .int (iI cm), .int (iI al), .int (iI lg), .int (iI tt), .int (iI dn)])), (hBx, .inl (kI, 61, .inl (iF kb))), (hSt, .inl (kI, 61, .inl (iF kz))), (hSl, .inl (kI, 61, .inl (iF (iu ks (kn + 1) sl)))), (hTr, .inl (kI, 61, .inl (iF kt))), (hTu, .inl (kI, 61, .inl (iF mt)))]) rfl (fun H locs hP hD hS => ?_)
                      refine lv_aload_n hx hb dX7_book_132 rfl (lv_at hl 1 rfl) ?_
                      refine va_get (D := D) (ci := 7) (v := .ref hTr) (C := RX7) (T := TX7) (N := 25) hx hb hts (fun w h => (List.mem_cons_of_mem _ (hinX7 w h))) hown hK hP 0 rfl rfl 13 (by decide) (hts _ (List.mem_cons_of_mem _ wd_625)) (fun _ h9 => h9) rfl dX7_book_133 ?_
                      refine lv_aload_n hx hb dX7_book_136 rfl (lv_at hl 1 rfl) ?_
                      refine va_get (D := D) (ci := 7) (v := .int (iI (kn + 1))) (C := RX7) (T := TX7) (N := 25) hx hb hts (fun w h => (List.mem_cons_of_mem _ (hinX7 w h))) hown hK hP 0 rfl rfl 11 (by decide) (hts _ (List.mem_cons_of_mem _ wd_623)) (fun _ h9 => h9) rfl dX7_book_137 ?_
                      refine lv_iload_n hx hb dX7_book_140 rfl (lv_at hl 3 rfl) ?_
                      refine wk_iast hx hb hK hP hD hS 4 0 rfl rfl (by decide) (by omega) dX7_book_141 (ws' := [(h, .inr (7, [.int (iI 0), .int (iI sn), .int (iI sm), .int (iI nw), .ref hRo, .int (iI rn), .int (iI bn), .ref hNu, .ref hWe, .ref hDa, .ref hVe, .int (iI (kn + 1)), .ref hSl, .ref hTr, .ref hBx, .ref hSt, .ref hLa, .ref hOr, .ref hSi, .ref hTu, .int (iI cm), .int (iI al), .int (iI lg), .int (iI tt), .int (iI dn)])), (hBx, .inl (kI, 61, .inl (iF kb))), (hSt, .inl (kI, 61, .inl (iF kz))), (hSl, .inl (kI, 61, .inl (iF (iu ks (kn + 1) sl)))), (hTr, .inl (kI, 61, .inl (iF (iu kt (kn + 1) tr)))), (hTu, .inl (kI, 61, .inl (iF mt)))]) rfl (fun H locs hP hD hS => ?_)
                      refine lv_aload_n hx hb dX7_book_142 rfl (lv_at hl 1 rfl) ?_
                      refine va_get (D := D) (ci := 7) (v := .ref hBx) (C := RX7) (T := TX7) (N := 25) hx hb hts (fun w h => (List.mem_cons_of_mem _ (hinX7 w h))) hown hK hP 0 rfl rfl 14 (by decide) (hts _ (List.mem_cons_of_mem _ wd_626)) (fun _ h9 => h9) rfl dX7_book_143 ?_
                      refine lv_aload_n hx hb dX7_book_146 rfl (lv_at hl 1 rfl) ?_
                      refine va_get (D := D) (ci := 7) (v := .int (iI (kn + 1))) (C := RX7) (T := TX7) (N := 25) hx hb hts (fun w h => (List.mem_cons_of_mem _ (hinX7 w h))) hown hK hP 0 rfl rfl 11 (by decide) (hts _ (List.mem_cons_of_mem _ wd_623)) (fun _ h9 => h9) rfl dX7_book_147 ?_
                      refine lv_iload_n hx hb dX7_book_150 rfl (lv_at hl 4 rfl) ?_
                      refine wk_iast hx hb hK hP hD hS 1 0 rfl rfl (by decide) (by omega) dX7_book_151 (ws' := [(h, .inr (7, [.int (iI 0), .int (iI sn), .int (iI sm), .int (iI nw), .ref hRo, .int (iI rn), .int (iI bn), .ref hNu, .ref hWe, .ref hDa, .ref hVe, .int (iI (kn + 1)), .ref hSl, .ref hTr, .ref hBx, .ref hSt, .ref hLa, .ref hOr, .ref hSi, .ref hTu, .int (iI cm), .int (iI al), .int (iI lg), .int (iI tt), .int (iI dn)])), (hBx, .inl (kI, 61, .inl (iF (iu kb (kn + 1) bx)))), (hSt, .inl (kI, 61, .inl (iF kz))), (hSl, .inl (kI, 61, .inl (iF (iu ks (kn + 1) sl)))), (hTr, .inl (kI, 61, .inl (iF (iu kt (kn + 1) tr)))), (hTu, .inl (kI, 61, .inl (iF mt)))]) rfl (fun H locs hP hD hS => ?_)
                      refine lv_aload_n hx hb dX7_book_152 rfl (lv_at hl 1 rfl) ?_
                      refine va_get (D := D) (ci := 7) (v := .ref hSt) (C := RX7) (T := TX7) (N := 25) hx hb hts (fun w h => (List.mem_cons_of_mem _ (hinX7 w h))) hown hK hP 0 rfl rfl 15 (by decide) (hts _ (List.mem_cons_of_mem _ wd_627)) (fun _ h9 => h9) rfl dX7_book_153 ?_
                      refine lv_aload_n hx hb dX7_book_156 rfl (lv_at hl 1 rfl) ?_
                      refine va_get (D := D) (ci := 7) (v := .int (iI (kn + 1))) (C := RX7) (T := TX7) (N := 25) hx hb hts (fun w h => (List.mem_cons_of_mem _ (hinX7 w h))) hown hK hP 0 rfl rfl 11 (by decide) (hts _ (List.mem_cons_of_mem _ wd_623)) (fun _ h9 => h9) rfl dX7_book_157 ?_
                      refine lv_iconst (v := iI 0) hx hb dX7_book_160 rfl ?_
                      refine wk_iast hx hb hK hP hD hS 2 0 rfl rfl (by decide) (by omega) dX7_book_161 (ws' := [(h, .inr (7, [.int (iI 0), .int (iI sn), .int (iI sm), .int (iI nw), .ref hRo, .int (iI rn), .int (iI bn), .ref hNu, .ref hWe, .ref hDa, .ref hVe, .int (iI (kn + 1)), .ref hSl, .ref hTr, .ref hBx, .ref hSt, .ref hLa, .ref hOr, .ref hSi, .ref hTu, .int (iI cm), .int (iI al), .int (iI lg), .int (iI tt), .int (iI dn)])), (hBx, .inl (kI, 61, .inl (iF (iu kb (kn + 1) bx)))), (hSt, .inl (kI, 61, .inl (iF (iu kz (kn + 1) 0)))), (hSl, .inl (kI, 61, .inl (iF (iu ks (kn + 1) sl)))), (hTr, .inl (kI, 61, .inl (iF (iu kt (kn + 1) tr)))), (hTu, .inl (kI, 61, .inl (iF mt)))]) rfl (fun H locs hP hD hS => ?_)
                      refine lv_aload_n hx hb dX7_book_162 rfl (lv_at hl 1 rfl) ?_
                      refine va_get (D := D) (ci := 7) (v := .ref hTu) (C := RX7) (T := TX7) (N := 25) hx hb hts (fun w h => (List.mem_cons_of_mem _ (hinX7 w h))) hown hK hP 0 rfl rfl 19 (by decide) (hts _ (List.mem_cons_of_mem _ wd_631)) (fun _ h9 => h9) rfl dX7_book_163 ?_
                      refine lv_aload_n hx hb dX7_book_166 rfl (lv_at hl 1 rfl) ?_
                      refine va_get (D := D) (ci := 7) (v := .int (iI (kn + 1))) (C := RX7) (T := TX7) (N := 25) hx hb hts (fun w h => (List.mem_cons_of_mem _ (hinX7 w h))) hown hK hP 0 rfl rfl 11 (by decide) (hts _ (List.mem_cons_of_mem _ wd_623)) (fun _ h9 => h9) rfl dX7_book_167 ?_
                      refine lv_iconst (v := iI (-1)) hx hb dX7_book_170 rfl ?_
                      refine wk_iast hx hb hK hP hD hS 5 0 rfl rfl (by decide) (by omega) dX7_book_171 (ws' := [(h, .inr (7, [.int (iI 0), .int (iI sn), .int (iI sm), .int (iI nw), .ref hRo, .int (iI rn), .int (iI bn), .ref hNu, .ref hWe, .ref hDa, .ref hVe, .int (iI (kn + 1)), .ref hSl, .ref hTr, .ref hBx, .ref hSt, .ref hLa, .ref hOr, .ref hSi, .ref hTu, .int (iI cm), .int (iI al), .int (iI lg), .int (iI tt), .int (iI dn)])), (hBx, .inl (kI, 61, .inl (iF (iu kb (kn + 1) bx)))), (hSt, .inl (kI, 61, .inl (iF (iu kz (kn + 1) 0)))), (hSl, .inl (kI, 61, .inl (iF (iu ks (kn + 1) sl)))), (hTr, .inl (kI, 61, .inl (iF (iu kt (kn + 1) tr)))), (hTu, .inl (kI, 61, .inl (iF (iu mt (kn + 1) (-1)))))]) rfl (fun H locs hP hD hS => ?_)
                      refine lv_aload_n hx hb dX7_book_172 rfl (lv_at hl 1 rfl) ?_
                      refine va_get (D := D) (ci := 7) (v := .int (iI (kn + 1))) (C := RX7) (T := TX7) (N := 25) hx hb hts (fun w h => (List.mem_cons_of_mem _ (hinX7 w h))) hown hK hP 0 rfl rfl 11 (by decide) (hts _ (List.mem_cons_of_mem _ wd_623)) (fun _ h9 => h9) rfl dX7_book_173 ?_
                      exact rk_int hx hb hr hlocks hK hP hD hS (by first | rfl | omega) rfl dX7_book_176
                    · skip
                      exfalso; omega
                  · skip
                    refine lv_aload_n hx hb dX7_book_68 rfl (lv_at hl 1 rfl) ?_
                    refine va_get (D := D) (ci := 7) (v := .ref hBx) (C := RX7) (T := TX7) (N := 25) hx hb hts (fun w h => (List.mem_cons_of_mem _ (hinX7 w h))) hown hK hP 0 rfl rfl 14 (by decide) (hts _ (List.mem_cons_of_mem _ wd_626)) (fun _ h9 => h9) rfl dX7_book_69 ?_
                    refine lv_iload hx hb dX7_book_72 (lv_at hl 0 rfl) ?_
                    refine wk_iald hx hb hK hP 1 0 rfl rfl (by decide) (by omega) dX7_book_74 ?_
                    have b_9 := hkb i
                    refine lv_iload_n hx hb dX7_book_75 rfl (lv_at hl 4 rfl) ?_
                    refine wk_icmp_ne (tgt := 92) hx hb dX7_book_76 (by decide) (by omega) (fun c_10 => ?_) (fun c_10 => ?_)
                    · skip
                      refine wk_iinc (k := 0) (lv' := [(4, .int (iI (i + 1))), (0, .ref h), (1, .int (iI sl)), (2, .int (iI tr)), (3, .int (iI bx))]) hx hb dX7_book_92 hl rfl (by decide) rfl (fun ls hl => ?_)
                      refine lv_goto (tgt := 59) hx hb dX7_book_95 (by decide) ?_
                      exact ih_59 (i + 1) (by first | assumption | omega) (by have e9 := hE; rw [sc_no (by omega) (by simp only [decide_eq_true_eq]; omega)] at e9; exact e9) (by omega) H locs ls hP hD hS (lv_sub hl [0, 1, 2, 3, 4] rfl)
                    · skip
                      refine lv_aload_n hx hb dX7_book_79 rfl (lv_at hl 1 rfl) ?_
                      refine va_get (D := D) (ci := 7) (v := .ref hSt) (C := RX7) (T := TX7) (N := 25) hx hb hts (fun w h => (List.mem_cons_of_mem _ (hinX7 w h))) hown hK hP 0 rfl rfl 15 (by decide) (hts _ (List.mem_cons_of_mem _ wd_627)) (fun _ h9 => h9) rfl dX7_book_80 ?_
                      refine lv_iload hx hb dX7_book_83 (lv_at hl 0 rfl) ?_
                      refine wk_iald hx hb hK hP 2 0 rfl rfl (by decide) (by omega) dX7_book_85 ?_
                      have b_11 := hkz i
                      refine lv_iconst (v := iI 3) hx hb dX7_book_86 rfl ?_
                      refine wk_icmp_eq (tgt := 92) hx hb dX7_book_87 (by decide) (by omega) (fun c_12 => ?_) (fun c_12 => ?_)
                      · skip
                        refine wk_iinc (k := 0) (lv' := [(4, .int (iI (i + 1))), (0, .ref h), (1, .int (iI sl)), (2, .int (iI tr)), (3, .int (iI bx))]) hx hb dX7_book_92 hl rfl (by decide) rfl (fun ls hl => ?_)
                        refine lv_goto (tgt := 59) hx hb dX7_book_95 (by decide) ?_
                        exact ih_59 (i + 1) (by first | assumption | omega) (by have e9 := hE; rw [sc_no (by omega) (by simp only [decide_eq_true_eq]; omega)] at e9; exact e9) (by omega) H locs ls hP hD hS (lv_sub hl [0, 1, 2, 3, 4] rfl)
                      · skip
                        have e9 := hE; rw [sc_yes (by omega) (by simp only [decide_eq_true_eq]; omega)] at e9; omega
              exact loop_59 (kn + 1 - 1).toNat.succ 1 (by first | assumption | rfl | omega) (by rfl) (by omega) H locs ls hP hD hS (lv_sub hl [0, 1, 2, 3, 4] rfl)
            · skip
              exfalso; omega
          · skip
            exfalso; omega

set_option maxHeartbeats 4000000 in
set_option maxRecDepth 100000 in
theorem tX7_isTruckIn (l : Launch) (D : va_G) (kI : ClassId) (kZ : ClassId) (kL : ClassId) (kJ : ClassId) (h : Nat) (hRo : Nat) (hNu : Nat) (hWe : Nat) (hDa : Nat) (hVe : Nat) (hSl : Nat) (hTr : Nat) (hBx : Nat) (hSt : Nat) (hLa : Nat) (hOr : Nat) (hSi : Nat) (hTu : Nat) (kt : Int → Int) (kz : Int → Int) (th : Int) (sn : Int) (sm : Int) (nw : Int) (rn : Int) (bn : Int) (kn : Int) (cm : Int) (al : Int) (lg : Int) (tt : Int) (dn : Int) (bk : Int) (sz : Nat) (hkn : 0 ≤ kn ∧ kn ≤ 60) (hbk : 1 ≤ bk ∧ bk ≤ kn) (h1 : kz bk = 0) (hkt : ∀ j, 0 ≤ kt j ∧ kt j ≤ 1000000) (hkz : ∀ j, 0 ≤ kz j ∧ kz j ≤ 1000000) : CtP l yX7_isTruckIn wsX7_isTruckIn ({ frames := 0, cells := 0, slots := 0, locals := 0 }) D vwCl (tyL kI kZ kL kJ) [(h, .inr (7, [.int (iI th), .int (iI sn), .int (iI sm), .int (iI nw), .ref hRo, .int (iI rn), .int (iI bn), .ref hNu, .ref hWe, .ref hDa, .ref hVe, .int (iI kn), .ref hSl, .ref hTr, .ref hBx, .ref hSt, .ref hLa, .ref hOr, .ref hSi, .ref hTu, .int (iI cm), .int (iI al), .int (iI lg), .int (iI tt), .int (iI dn)])), (hTr, .inl (kI, 61, .inl (iF kt))), (hSt, .inl (kI, 61, .inl (iF kz)))] [.ref h, .int (iI bk)] (iI (bi (¬ sc (pIN kt kz (kt bk)) (-1) (kn + 1 - 1).toNat 1 = -1))) sz := by
  refine pk_start (cc := cX7_isTruckIn) (maxL := 4) (ret := (some .boolean)) (LV := [(0, .ref h), (1, .int (iI bk))]) (by decide) rfl rfl (Nat.le_of_ble_eq_true rfl) ?_
  intro p e s m below meth cd hadm hx hb hr hml hts hown hlocks hname hnoh hxT A hA hK hP hD hS ls hl
  refine lv_iconst (v := iI 0) hx hb dX7_isTruckIn_0 rfl ?_
  refine lv_istore_n (lv' := [(2, .int (iI 0)), (0, .ref h), (1, .int (iI bk))]) hx hb dX7_isTruckIn_1 rfl hl (by decide) rfl (fun ls hl => ?_)
  refine lv_iconst (v := iI 1) hx hb dX7_isTruckIn_2 rfl ?_
  refine lv_istore_n (lv' := [(3, .int (iI 1)), (2, .int (iI 0)), (0, .ref h), (1, .int (iI bk))]) hx hb dX7_isTruckIn_3 rfl hl (by decide) rfl (fun ls hl => ?_)
  have loop_4 : ∀ (fu : Nat) (x : Int) (i : Int), (1 ≤ i ∧ i ≤ kn + 1) → ((x = 1 ∧ ∃ j, 1 ≤ j ∧ j < i ∧ pIN kt kz (kt bk) j = true) ∨ (x = 0 ∧ ∀ j, 1 ≤ j → j < i → ¬ pIN kt kz (kt bk) j = true)) → (kn + 1 - i) < (fu : Int) → ∀ (ls : Array Slot), lv_has ls 4 [(3, .int (iI i)), (2, .int (iI x)), (0, .ref h), (1, .int (iI bk))] → W p l e ({ frames := 0, cells := 0, slots := 0, locals := 0 }) s m ([.ref h, .int (iI bk)] : List Value).toArray below meth cd s.heap [] 0 0 (MQ below (QcRead (iI (bi (¬ sc (pIN kt kz (kt bk)) (-1) (kn + 1 - 1).toNat 1 = -1))) ) ([.ref h, .int (iI bk)] : List Value).toArray s 0 0 (fun _ => False)) (F0 m 4 ls []) := by
    intro fu
    induction fu with
    | zero => intro x i hi hX hfu; exfalso; omega
    | succ fu ih_4 =>
      intro x i hi hX hfu ls hl
      refine lv_iload_n hx hb dX7_isTruckIn_4 rfl (lv_at hl 0 rfl) ?_
      refine lv_aload_n hx hb dX7_isTruckIn_5 rfl (lv_at hl 2 rfl) ?_
      refine va_get (D := D) (ci := 7) (v := .int (iI kn)) (C := RX7) (T := TX7) (N := 25) hx hb hts (fun w h => (List.mem_cons_of_mem _ (hinX7 w h))) hown hK hP 0 rfl rfl 11 (by decide) (hts _ (List.mem_cons_of_mem _ wd_623)) (fun _ h9 => h9) rfl dX7_isTruckIn_6 ?_
      refine wk_icmp_gt (tgt := 58) hx hb dX7_isTruckIn_9 (by decide) (by omega) (fun c_1 => ?_) (fun c_1 => ?_)
      · skip
        refine lv_iload_n hx hb dX7_isTruckIn_58 rfl (lv_at hl 1 rfl) ?_
        exact pk_bool hx hb hr hlocks (by exact ti_end hX (by omega)) dX7_isTruckIn_59
      · skip
        refine lv_iload_n hx hb dX7_isTruckIn_12 rfl (lv_at hl 1 rfl) ?_
        refine wk_if_ne (tgt := 46) hx hb dX7_isTruckIn_13 (by decide) (by omega) (fun c_2 => ?_) (fun c_2 => ?_)
        · skip
          refine lv_iconst (v := iI 1) hx hb dX7_isTruckIn_46 rfl ?_
          refine lv_goto (tgt := 51) hx hb dX7_isTruckIn_47 (by decide) ?_
          refine lv_istore_n (lv' := [(2, .int (iI 1)), (3, .int (iI i)), (0, .ref h), (1, .int (iI bk))]) hx hb dX7_isTruckIn_51 rfl hl (by decide) rfl (fun ls hl => ?_)
          refine wk_iinc (k := 1) (lv' := [(3, .int (iI (i + 1))), (2, .int (iI 1)), (0, .ref h), (1, .int (iI bk))]) hx hb dX7_isTruckIn_52 hl rfl (by decide) rfl (fun ls hl => ?_)
          refine lv_goto (tgt := 4) hx hb dX7_isTruckIn_55 (by decide) ?_
          exact ih_4 1 (i + 1) (by first | assumption | omega) (by exact ti_step hX h1 (by omega) (by omega)) (by omega) ls (lv_sub hl [0, 1, 2, 3] rfl)
        · skip
          refine lv_iload_n hx hb dX7_isTruckIn_16 rfl (lv_at hl 0 rfl) ?_
          refine lv_iload_n hx hb dX7_isTruckIn_17 rfl (lv_at hl 3 rfl) ?_
          refine wk_icmp_eq (tgt := 50) hx hb dX7_isTruckIn_18 (by decide) (by omega) (fun c_3 => ?_) (fun c_3 => ?_)
          · skip
            refine lv_iconst (v := iI 0) hx hb dX7_isTruckIn_50 rfl ?_
            refine lv_istore_n (lv' := [(2, .int (iI 0)), (3, .int (iI i)), (0, .ref h), (1, .int (iI bk))]) hx hb dX7_isTruckIn_51 rfl hl (by decide) rfl (fun ls hl => ?_)
            refine wk_iinc (k := 1) (lv' := [(3, .int (iI (i + 1))), (2, .int (iI 0)), (0, .ref h), (1, .int (iI bk))]) hx hb dX7_isTruckIn_52 hl rfl (by decide) rfl (fun ls hl => ?_)
            refine lv_goto (tgt := 4) hx hb dX7_isTruckIn_55 (by decide) ?_
            exact ih_4 0 (i + 1) (by first | assumption | omega) (by exact ti_step hX h1 (by omega) (by omega)) (by omega) ls (lv_sub hl [0, 1, 2, 3] rfl)
          · skip
            refine lv_aload_n hx hb dX7_isTruckIn_21 rfl (lv_at hl 2 rfl) ?_
            refine va_get (D := D) (ci := 7) (v := .ref hTr) (C := RX7) (T := TX7) (N := 25) hx hb hts (fun w h => (List.mem_cons_of_mem _ (hinX7 w h))) hown hK hP 0 rfl rfl 13 (by decide) (hts _ (List.mem_cons_of_mem _ wd_625)) (fun _ h9 => h9) rfl dX7_isTruckIn_22 ?_
            refine lv_iload_n hx hb dX7_isTruckIn_25 rfl (lv_at hl 0 rfl) ?_
            refine wk_iald hx hb hK hP 1 0 rfl rfl (by decide) (by omega) dX7_isTruckIn_26 ?_
            have b_4 := hkt i
            refine lv_aload_n hx hb dX7_isTruckIn_27 rfl (lv_at hl 2 rfl) ?_
            refine va_get (D := D) (ci := 7) (v := .ref hTr) (C := RX7) (T := TX7) (N := 25) hx hb hts (fun w h => (List.mem_cons_of_mem _ (hinX7 w h))) hown hK hP 0 rfl rfl 13 (by decide) (hts _ (List.mem_cons_of_mem _ wd_625)) (fun _ h9 => h9) rfl dX7_isTruckIn_28 ?_
            refine lv_iload_n hx hb dX7_isTruckIn_31 rfl (lv_at hl 3 rfl) ?_
            refine wk_iald hx hb hK hP 1 0 rfl rfl (by decide) (by omega) dX7_isTruckIn_32 ?_
            have b_5 := hkt bk
            refine wk_icmp_ne (tgt := 50) hx hb dX7_isTruckIn_33 (by decide) (by omega) (fun c_6 => ?_) (fun c_6 => ?_)
            · skip
              refine lv_iconst (v := iI 0) hx hb dX7_isTruckIn_50 rfl ?_
              refine lv_istore_n (lv' := [(2, .int (iI 0)), (3, .int (iI i)), (0, .ref h), (1, .int (iI bk))]) hx hb dX7_isTruckIn_51 rfl hl (by decide) rfl (fun ls hl => ?_)
              refine wk_iinc (k := 1) (lv' := [(3, .int (iI (i + 1))), (2, .int (iI 0)), (0, .ref h), (1, .int (iI bk))]) hx hb dX7_isTruckIn_52 hl rfl (by decide) rfl (fun ls hl => ?_)
              refine lv_goto (tgt := 4) hx hb dX7_isTruckIn_55 (by decide) ?_
              exact ih_4 0 (i + 1) (by first | assumption | omega) (by exact ti_step hX h1 (by omega) (by omega)) (by omega) ls (lv_sub hl [0, 1, 2, 3] rfl)
            · skip
              refine lv_aload_n hx hb dX7_isTruckIn_36 rfl (lv_at hl 2 rfl) ?_
              refine va_get (D := D) (ci := 7) (v := .ref hSt) (C := RX7) (T := TX7) (N := 25) hx hb hts (fun w h => (List.mem_cons_of_mem _ (hinX7 w h))) hown hK hP 0 rfl rfl 15 (by decide) (hts _ (List.mem_cons_of_mem _ wd_627)) (fun _ h9 => h9) rfl dX7_isTruckIn_37 ?_
              refine lv_iload_n hx hb dX7_isTruckIn_40 rfl (lv_at hl 0 rfl) ?_
              refine wk_iald hx hb hK hP 2 0 rfl rfl (by decide) (by omega) dX7_isTruckIn_41 ?_
              have b_7 := hkz i
              refine lv_iconst (v := iI 1) hx hb dX7_isTruckIn_42 rfl ?_
              refine wk_icmp_ne (tgt := 50) hx hb dX7_isTruckIn_43 (by decide) (by omega) (fun c_8 => ?_) (fun c_8 => ?_)
              · skip
                refine lv_iconst (v := iI 0) hx hb dX7_isTruckIn_50 rfl ?_
                refine lv_istore_n (lv' := [(2, .int (iI 0)), (3, .int (iI i)), (0, .ref h), (1, .int (iI bk))]) hx hb dX7_isTruckIn_51 rfl hl (by decide) rfl (fun ls hl => ?_)
                refine wk_iinc (k := 1) (lv' := [(3, .int (iI (i + 1))), (2, .int (iI 0)), (0, .ref h), (1, .int (iI bk))]) hx hb dX7_isTruckIn_52 hl rfl (by decide) rfl (fun ls hl => ?_)
                refine lv_goto (tgt := 4) hx hb dX7_isTruckIn_55 (by decide) ?_
                exact ih_4 0 (i + 1) (by first | assumption | omega) (by exact ti_step hX h1 (by omega) (by omega)) (by omega) ls (lv_sub hl [0, 1, 2, 3] rfl)
              · skip
                refine lv_iconst (v := iI 1) hx hb dX7_isTruckIn_46 rfl ?_
                refine lv_goto (tgt := 51) hx hb dX7_isTruckIn_47 (by decide) ?_
                refine lv_istore_n (lv' := [(2, .int (iI 1)), (3, .int (iI i)), (0, .ref h), (1, .int (iI bk))]) hx hb dX7_isTruckIn_51 rfl hl (by decide) rfl (fun ls hl => ?_)
                refine wk_iinc (k := 1) (lv' := [(3, .int (iI (i + 1))), (2, .int (iI 1)), (0, .ref h), (1, .int (iI bk))]) hx hb dX7_isTruckIn_52 hl rfl (by decide) rfl (fun ls hl => ?_)
                refine lv_goto (tgt := 4) hx hb dX7_isTruckIn_55 (by decide) ?_
                exact ih_4 1 (i + 1) (by first | assumption | omega) (by exact ti_step hX h1 (by omega) (by omega)) (by omega) ls (lv_sub hl [0, 1, 2, 3] rfl)
  exact loop_4 (kn + 1 - 1).toNat.succ 0 1 (by first | assumption | rfl | omega) (by exact Or.inr ⟨rfl, fun j h1 h2 => by omega⟩) (by omega) ls (lv_sub hl [0, 1, 2, 3] rfl)

set_option maxHeartbeats 4000000 in
set_option maxRecDepth 100000 in
theorem tX7_bar (l : Launch) (D : va_G) (kI : ClassId) (kZ : ClassId) (kL : ClassId) (kJ : ClassId) (h : Nat) (hRo : Nat) (hNu : Nat) (hWe : Nat) (hDa : Nat) (hVe : Nat) (hSl : Nat) (hTr : Nat) (hBx : Nat) (hSt : Nat) (hLa : Nat) (hOr : Nat) (hSi : Nat) (hTu : Nat) (bd : Int → Int) (mv : Int → Int) (ks : Int → Int) (kt : Int → Int) (kb : Int → Int) (kz : Int → Int) (th : Int) (sn : Int) (sm : Int) (nw : Int) (rn : Int) (bn : Int) (kn : Int) (cm : Int) (al : Int) (lg : Int) (tt : Int) (dn : Int) (bk : Int) (sz : Nat) (hbk : 1 ≤ bk ∧ bk ≤ kn) (hkn : 0 ≤ kn ∧ kn ≤ 60) (hnw : 0 ≤ nw ∧ nw ≤ 100000) (hmv : ∀ j, 0 ≤ mv j ∧ mv j ≤ 1000000) (hbd : ∀ j, bd j = 0 ∨ bd j = 1) (hkz : ∀ j, 0 ≤ kz j ∧ kz j ≤ 1000000) (hkt : ∀ j, 0 ≤ kt j ∧ kt j ≤ 1000000) (hks : ∀ j, 0 ≤ ks j ∧ ks j < 24) (hkt2 : ∀ j, 0 ≤ kt j ∧ kt j < 16) (hkb : ∀ j, 0 ≤ kb j ∧ kb j < 20) : CtP l yX7_bar wsX7_bar ({ frames := 1, cells := 0, slots := 0, locals := 23 }) D vwCl (tyL kI kZ kL kJ) [(h, .inr (7, [.int (iI th), .int (iI sn), .int (iI sm), .int (iI nw), .ref hRo, .int (iI rn), .int (iI bn), .ref hNu, .ref hWe, .ref hDa, .ref hVe, .int (iI kn), .ref hSl, .ref hTr, .ref hBx, .ref hSt, .ref hLa, .ref hOr, .ref hSi, .ref hTu, .int (iI cm), .int (iI al), .int (iI lg), .int (iI tt), .int (iI dn)])), (hDa, .inl (kZ, 20, .inl (iF bd))), (hVe, .inl (kI, 112, .inl (iF mv))), (hSl, .inl (kI, 61, .inl (iF ks))), (hTr, .inl (kI, 61, .inl (iF kt))), (hBx, .inl (kI, 61, .inl (iF kb))), (hSt, .inl (kI, 61, .inl (iF kz)))] [.ref h, .int (iI bk)] (iI (fbM nw mv bd kn ks kt kb kz bk)) sz := by
  refine pk_start (cc := cX7_bar) (maxL := 5) (ret := (some .int)) (LV := [(0, .ref h), (1, .int (iI bk))]) (by decide) rfl rfl (Nat.le_of_ble_eq_true rfl) ?_
  intro p e s m below meth cd hadm hx hb hr hml hts hown hlocks hname hnoh hxT A hA hK hP hD hS ls hl
  refine lv_aload_n hx hb dX7_bar_0 rfl (lv_at hl 0 rfl) ?_
  refine va_get (D := D) (ci := 7) (v := .ref hBx) (C := RX7) (T := TX7) (N := 25) hx hb hts (fun w h => (List.mem_cons_of_mem _ (hinX7 w h))) hown hK hP 0 rfl rfl 14 (by decide) (hts _ (List.mem_cons_of_mem _ wd_626)) (fun _ h9 => h9) rfl dX7_bar_1 ?_
  refine lv_iload_n hx hb dX7_bar_4 rfl (lv_at hl 1 rfl) ?_
  refine wk_iald hx hb hK hP 5 0 rfl rfl (by decide) (by omega) dX7_bar_5 ?_
  have b_1 := hkb bk
  refine lv_istore_n (lv' := [(2, .int (iI (kb bk))), (0, .ref h), (1, .int (iI bk))]) hx hb dX7_bar_6 rfl hl (by decide) rfl (fun ls hl => ?_)
  refine lv_sipush (v := iI 600) hx hb dX7_bar_7 (by decide) ?_
  refine lv_aload_n hx hb dX7_bar_10 rfl (lv_at hl 1 rfl) ?_
  refine va_get (D := D) (ci := 7) (v := .ref hSl) (C := RX7) (T := TX7) (N := 25) hx hb hts (fun w h => (List.mem_cons_of_mem _ (hinX7 w h))) hown hK hP 0 rfl rfl 12 (by decide) (hts _ (List.mem_cons_of_mem _ wd_624)) (fun _ h9 => h9) rfl dX7_bar_11 ?_
  refine lv_iload_n hx hb dX7_bar_14 rfl (lv_at hl 2 rfl) ?_
  refine wk_iald hx hb hK hP 3 0 rfl rfl (by decide) (by omega) dX7_bar_15 ?_
  have b_2 := hks bk
  refine wk_imul hx hb dX7_bar_16 ?_
  refine lv_istore_n (lv' := [(3, .int (iI (600 * (ks bk)))), (2, .int (iI (kb bk))), (0, .ref h), (1, .int (iI bk))]) hx hb dX7_bar_17 rfl hl (by decide) rfl (fun ls hl => ?_)
  refine lv_aload_n hx hb dX7_bar_18 rfl (lv_at hl 2 rfl) ?_
  refine va_get (D := D) (ci := 7) (v := .ref hSt) (C := RX7) (T := TX7) (N := 25) hx hb hts (fun w h => (List.mem_cons_of_mem _ (hinX7 w h))) hown hK hP 0 rfl rfl 15 (by decide) (hts _ (List.mem_cons_of_mem _ wd_627)) (fun _ h9 => h9) rfl dX7_bar_19 ?_
  refine lv_iload_n hx hb dX7_bar_22 rfl (lv_at hl 3 rfl) ?_
  refine wk_iald hx hb hK hP 6 0 rfl rfl (by decide) (by omega) dX7_bar_23 ?_
  have b_3 := hkz bk
  refine wk_if_eq (tgt := 29) hx hb dX7_bar_24 (by decide) (by omega) (fun c_4 => ?_) (fun c_4 => ?_)
  · skip
    refine lv_aload_n hx hb dX7_bar_29 rfl (lv_at hl 2 rfl) ?_
    refine va_get (D := D) (ci := 7) (v := .int (iI nw)) (C := RX7) (T := TX7) (N := 25) hx hb hts (fun w h => (List.mem_cons_of_mem _ (hinX7 w h))) hown hK hP 0 rfl rfl 3 (by decide) (hts _ (List.mem_cons_of_mem _ wd_615)) (fun _ h9 => h9) rfl dX7_bar_30 ?_
    refine lv_iload_n hx hb dX7_bar_33 rfl (lv_at hl 0 rfl) ?_
    refine lv_bipush (v := iI 120) hx hb dX7_bar_34 (by decide) ?_
    refine wk_isub hx hb dX7_bar_36 ?_
    refine wk_icmp_lt (tgt := 55) hx hb dX7_bar_37 (by decide) (by omega) (fun c_5 => ?_) (fun c_5 => ?_)
    · skip
      refine lv_iconst (v := iI 2) hx hb dX7_bar_55 rfl ?_
      exact pk_int hx hb hr hlocks (by (unfold fbM; repeat' split) <;> first | rfl | omega) dX7_bar_56
    · skip
      refine lv_aload_n hx hb dX7_bar_40 rfl (lv_at hl 2 rfl) ?_
      refine va_get (D := D) (ci := 7) (v := .int (iI nw)) (C := RX7) (T := TX7) (N := 25) hx hb hts (fun w h => (List.mem_cons_of_mem _ (hinX7 w h))) hown hK hP 0 rfl rfl 3 (by decide) (hts _ (List.mem_cons_of_mem _ wd_615)) (fun _ h9 => h9) rfl dX7_bar_41 ?_
      refine lv_iload_n hx hb dX7_bar_44 rfl (lv_at hl 0 rfl) ?_
      refine lv_sipush (v := iI 599) hx hb dX7_bar_45 (by decide) ?_
      refine wk_iadd hx hb dX7_bar_48 ?_
      refine lv_bipush (v := iI 120) hx hb dX7_bar_49 (by decide) ?_
      refine wk_iadd hx hb dX7_bar_51 ?_
      refine wk_icmp_le (tgt := 57) hx hb dX7_bar_52 (by decide) (by omega) (fun c_6 => ?_) (fun c_6 => ?_)
      · skip
        refine lv_aload_n hx hb dX7_bar_57 rfl (lv_at hl 2 rfl) ?_
        refine lv_iconst (v := iI 4) hx hb dX7_bar_58 rfl ?_
        refine lv_aload_n hx hb dX7_bar_59 rfl (lv_at hl 2 rfl) ?_
        refine va_get (D := D) (ci := 7) (v := .ref hTr) (C := RX7) (T := TX7) (N := 25) hx hb hts (fun w h => (List.mem_cons_of_mem _ (hinX7 w h))) hown hK hP 0 rfl rfl 13 (by decide) (hts _ (List.mem_cons_of_mem _ wd_625)) (fun _ h9 => h9) rfl dX7_bar_60 ?_
        refine lv_iload_n hx hb dX7_bar_63 rfl (lv_at hl 3 rfl) ?_
        refine wk_iald hx hb hK hP 4 0 rfl rfl (by decide) (by omega) dX7_bar_64 ?_
        have b_7 := hkt2 bk
        refine pk_callI (va_runV (As := [.int (iI 4), .int (iI (kt bk))]) (rest := []) ⟨hx, hb, hml, hown, hts⟩ (tX7_verdictOf_t l D kI kZ kL kJ h hRo hNu hWe hDa hVe hSl hTr hBx hSt hLa hOr hSi hTu mv th sn sm nw rn bn kn cm al lg tt dn 4 (kt bk) s.heap.size (by first | assumption | omega) (by first | assumption | omega)) (cwV 2 hts (gd_V tb_cons wd_763 wd_765 wd_27 wd_41 wd_766) rfl rfl rfl (by decide +kernel) ⟨Nat.le_of_ble_eq_true rfl, Nat.le_of_ble_eq_true rfl⟩) (ck_preV hxT hK hP hD [0, 2] rfl (by decide) (q0 := 0) rfl rfl rfl) rfl rfl hl.1 rfl (lv_room (Nat.le_of_ble_eq_true rfl)) dX7_bar_65 ⟨Nat.zero_le _, Nat.zero_le _⟩) ?_
        have b1 := hmv (80 + 2 * kt bk + 4 - 4)
        refine wk_if_ne (tgt := 73) hx hb dX7_bar_68 (by decide) (by omega) (fun c_8 => ?_) (fun c_8 => ?_)
        · skip
          refine lv_aload_n hx hb dX7_bar_73 rfl (lv_at hl 2 rfl) ?_
          refine lv_iconst (v := iI 5) hx hb dX7_bar_74 rfl ?_
          refine lv_aload_n hx hb dX7_bar_75 rfl (lv_at hl 2 rfl) ?_
          refine va_get (D := D) (ci := 7) (v := .ref hTr) (C := RX7) (T := TX7) (N := 25) hx hb hts (fun w h => (List.mem_cons_of_mem _ (hinX7 w h))) hown hK hP 0 rfl rfl 13 (by decide) (hts _ (List.mem_cons_of_mem _ wd_625)) (fun _ h9 => h9) rfl dX7_bar_76 ?_
          refine lv_iload_n hx hb dX7_bar_79 rfl (lv_at hl 3 rfl) ?_
          refine wk_iald hx hb hK hP 4 0 rfl rfl (by decide) (by omega) dX7_bar_80 ?_
          have b_9 := hkt2 bk
          refine pk_callI (va_runV (As := [.int (iI 5), .int (iI (kt bk))]) (rest := []) ⟨hx, hb, hml, hown, hts⟩ (tX7_verdictOf_t l D kI kZ kL kJ h hRo hNu hWe hDa hVe hSl hTr hBx hSt hLa hOr hSi hTu mv th sn sm nw rn bn kn cm al lg tt dn 5 (kt bk) s.heap.size (by first | assumption | omega) (by first | assumption | omega)) (cwV 2 hts (gd_V tb_cons wd_763 wd_765 wd_27 wd_41 wd_766) rfl rfl rfl (by decide +kernel) ⟨Nat.le_of_ble_eq_true rfl, Nat.le_of_ble_eq_true rfl⟩) (ck_preV hxT hK hP hD [0, 2] rfl (by decide) (q0 := 0) rfl rfl rfl) rfl rfl hl.1 rfl (lv_room (Nat.le_of_ble_eq_true rfl)) dX7_bar_81 ⟨Nat.zero_le _, Nat.zero_le _⟩) ?_
          have b2 := hmv (80 + 2 * kt bk + 5 - 4)
          refine wk_if_ne (tgt := 89) hx hb dX7_bar_84 (by decide) (by omega) (fun c_10 => ?_) (fun c_10 => ?_)
          · skip
            refine lv_iconst (v := iI 0) hx hb dX7_bar_89 rfl ?_
            refine lv_istore (lv' := [(4, .int (iI 0)), (3, .int (iI (600 * (ks bk)))), (2, .int (iI (kb bk))), (0, .ref h), (1, .int (iI bk))]) hx hb dX7_bar_90 hl (by decide) rfl (fun ls hl => ?_)
            refine lv_iload hx hb dX7_bar_92 (lv_at hl 0 rfl) ?_
            refine lv_iconst (v := iI 3) hx hb dX7_bar_94 rfl ?_
            refine wk_icmp_ge (tgt := 119) hx hb dX7_bar_95 (by decide) (by omega) (fun c_11 => ?_) (fun c_11 => ?_)
            · skip
              exfalso; omega
            · skip
              refine lv_aload_n hx hb dX7_bar_98 rfl (lv_at hl 3 rfl) ?_
              refine lv_iload hx hb dX7_bar_99 (lv_at hl 0 rfl) ?_
              refine lv_iload_n hx hb dX7_bar_101 rfl (lv_at hl 2 rfl) ?_
              refine pk_callI (va_runV (As := [.int (iI 0), .int (iI (kb bk))]) (rest := []) ⟨hx, hb, hml, hown, hts⟩ (tX7_verdictOf l D kI kZ kL kJ h hRo hNu hWe hDa hVe hSl hTr hBx hSt hLa hOr hSi hTu mv th sn sm nw rn bn kn cm al lg tt dn 0 (kb bk) s.heap.size (by first | assumption | omega) (by first | assumption | omega)) (cwV 2 hts (gd_V tb_cons wd_763 wd_765 wd_27 wd_41 wd_766) rfl rfl rfl (by decide +kernel) ⟨Nat.le_of_ble_eq_true rfl, Nat.le_of_ble_eq_true rfl⟩) (ck_preV hxT hK hP hD [0, 2] rfl (by decide) (q0 := 0) rfl rfl rfl) rfl rfl hl.1 rfl (lv_room (Nat.le_of_ble_eq_true rfl)) dX7_bar_102 ⟨Nat.zero_le _, Nat.zero_le _⟩) ?_
              have b3 := hmv (4 * kb bk + 0)
              have b4 := hmv (4 * kb bk + 1)
              have b5 := hmv (4 * kb bk + 2)
              refine wk_if_ne (tgt := 113) hx hb dX7_bar_105 (by decide) (by omega) (fun c_12 => ?_) (fun c_12 => ?_)
              · skip
                refine wk_iinc (k := 0) (lv' := [(4, .int (iI 1)), (3, .int (iI (600 * (ks bk)))), (2, .int (iI (kb bk))), (0, .ref h), (1, .int (iI bk))]) hx hb dX7_bar_113 hl rfl (by decide) rfl (fun ls hl => ?_)
                refine lv_goto (tgt := 92) hx hb dX7_bar_116 (by decide) ?_
                refine lv_iload hx hb dX7_bar_92 (lv_at hl 0 rfl) ?_
                refine lv_iconst (v := iI 3) hx hb dX7_bar_94 rfl ?_
                refine wk_icmp_ge (tgt := 119) hx hb dX7_bar_95 (by decide) (by omega) (fun c_13 => ?_) (fun c_13 => ?_)
                · skip
                  exfalso; omega
                · skip
                  refine lv_aload_n hx hb dX7_bar_98 rfl (lv_at hl 3 rfl) ?_
                  refine lv_iload hx hb dX7_bar_99 (lv_at hl 0 rfl) ?_
                  refine lv_iload_n hx hb dX7_bar_101 rfl (lv_at hl 2 rfl) ?_
                  refine pk_callI (va_runV (As := [.int (iI 1), .int (iI (kb bk))]) (rest := []) ⟨hx, hb, hml, hown, hts⟩ (tX7_verdictOf l D kI kZ kL kJ h hRo hNu hWe hDa hVe hSl hTr hBx hSt hLa hOr hSi hTu mv th sn sm nw rn bn kn cm al lg tt dn 1 (kb bk) s.heap.size (by first | assumption | omega) (by first | assumption | omega)) (cwV 2 hts (gd_V tb_cons wd_763 wd_765 wd_27 wd_41 wd_766) rfl rfl rfl (by decide +kernel) ⟨Nat.le_of_ble_eq_true rfl, Nat.le_of_ble_eq_true rfl⟩) (ck_preV hxT hK hP hD [0, 2] rfl (by decide) (q0 := 0) rfl rfl rfl) rfl rfl hl.1 rfl (lv_room (Nat.le_of_ble_eq_true rfl)) dX7_bar_102 ⟨Nat.zero_le _, Nat.zero_le _⟩) ?_
                  have b3 := hmv (4 * kb bk + 0)
                  have b4 := hmv (4 * kb bk + 1)
                  have b5 := hmv (4 * kb bk + 2)
                  refine wk_if_ne (tgt := 113) hx hb dX7_bar_105 (by decide) (by omega) (fun c_14 => ?_) (fun c_14 => ?_)
                  · skip
                    refine wk_iinc (k := 0) (lv' := [(4, .int (iI 2)), (3, .int (iI (600 * (ks bk)))), (2, .int (iI (kb bk))), (0, .ref h), (1, .int (iI bk))]) hx hb dX7_bar_113 hl rfl (by decide) rfl (fun ls hl => ?_)
                    refine lv_goto (tgt := 92) hx hb dX7_bar_116 (by decide) ?_
                    refine lv_iload hx hb dX7_bar_92 (lv_at hl 0 rfl) ?_
                    refine lv_iconst (v := iI 3) hx hb dX7_bar_94 rfl ?_
                    refine wk_icmp_ge (tgt := 119) hx hb dX7_bar_95 (by decide) (by omega) (fun c_15 => ?_) (fun c_15 => ?_)
                    · skip
                      exfalso; omega
                    · skip
                      refine lv_aload_n hx hb dX7_bar_98 rfl (lv_at hl 3 rfl) ?_
                      refine lv_iload hx hb dX7_bar_99 (lv_at hl 0 rfl) ?_
                      refine lv_iload_n hx hb dX7_bar_101 rfl (lv_at hl 2 rfl) ?_
                      refine pk_callI (va_runV (As := [.int (iI 2), .int (iI (kb bk))]) (rest := []) ⟨hx, hb, hml, hown, hts⟩ (tX7_verdictOf l D kI kZ kL kJ h hRo hNu hWe hDa hVe hSl hTr hBx hSt hLa hOr hSi hTu mv th sn sm nw rn bn kn cm al lg tt dn 2 (kb bk) s.heap.size (by first | assumption | omega) (by first | assumption | omega)) (cwV 2 hts (gd_V tb_cons wd_763 wd_765 wd_27 wd_41 wd_766) rfl rfl rfl (by decide +kernel) ⟨Nat.le_of_ble_eq_true rfl, Nat.le_of_ble_eq_true rfl⟩) (ck_preV hxT hK hP hD [0, 2] rfl (by decide) (q0 := 0) rfl rfl rfl) rfl rfl hl.1 rfl (lv_room (Nat.le_of_ble_eq_true rfl)) dX7_bar_102 ⟨Nat.zero_le _, Nat.zero_le _⟩) ?_
                      have b3 := hmv (4 * kb bk + 0)
                      have b4 := hmv (4 * kb bk + 1)
                      have b5 := hmv (4 * kb bk + 2)
                      refine wk_if_ne (tgt := 113) hx hb dX7_bar_105 (by decide) (by omega) (fun c_16 => ?_) (fun c_16 => ?_)
                      · skip
                        refine wk_iinc (k := 0) (lv' := [(4, .int (iI 3)), (3, .int (iI (600 * (ks bk)))), (2, .int (iI (kb bk))), (0, .ref h), (1, .int (iI bk))]) hx hb dX7_bar_113 hl rfl (by decide) rfl (fun ls hl => ?_)
                        refine lv_goto (tgt := 92) hx hb dX7_bar_116 (by decide) ?_
                        refine lv_iload hx hb dX7_bar_92 (lv_at hl 0 rfl) ?_
                        refine lv_iconst (v := iI 3) hx hb dX7_bar_94 rfl ?_
                        refine wk_icmp_ge (tgt := 119) hx hb dX7_bar_95 (by decide) (by omega) (fun c_17 => ?_) (fun c_17 => ?_)
                        · skip
                          refine lv_aload_n hx hb dX7_bar_119 rfl (lv_at hl 3 rfl) ?_
                          refine va_get (D := D) (ci := 7) (v := .ref hDa) (C := RX7) (T := TX7) (N := 25) hx hb hts (fun w h => (List.mem_cons_of_mem _ (hinX7 w h))) hown hK hP 0 rfl rfl 9 (by decide) (hts _ (List.mem_cons_of_mem _ wd_621)) (fun _ h9 => h9) rfl dX7_bar_120 ?_
                          refine lv_iload_n hx hb dX7_bar_123 rfl (lv_at hl 2 rfl) ?_
                          refine wk_zald hx hb hK hP 1 1 rfl rfl (by decide) (by omega) dX7_bar_124 ?_
                          have b_18 := hbd (kb bk)
                          refine wk_if_eq (tgt := 140) hx hb dX7_bar_125 (by decide) (by omega) (fun c_19 => ?_) (fun c_19 => ?_)
                          · skip
                            refine lv_aload_n hx hb dX7_bar_140 rfl (lv_at hl 3 rfl) ?_
                            refine lv_iload_n hx hb dX7_bar_141 rfl (lv_at hl 4 rfl) ?_
                            refine pk_callI (va_runV (As := [.int (iI bk)]) (rest := []) ⟨hx, hb, hml, hown, hts⟩ (tX7_isTruckIn l D kI kZ kL kJ h hRo hNu hWe hDa hVe hSl hTr hBx hSt hLa hOr hSi hTu kt kz th sn sm nw rn bn kn cm al lg tt dn bk s.heap.size (by first | assumption | omega) (by first | assumption | omega) (by first | assumption | omega) (by first | assumption | omega) (by first | assumption | omega)) (cwV 1 hts (gd_V tb_cons wd_767 wd_769 wd_28 wd_41 wd_770) rfl rfl rfl (by decide +kernel) ⟨Nat.le_of_ble_eq_true rfl, Nat.le_of_ble_eq_true rfl⟩) (ck_preV hxT hK hP hD [0, 4, 6] rfl (by decide) (q0 := 0) rfl rfl rfl) rfl rfl hl.1 rfl (lv_room (Nat.le_of_ble_eq_true rfl)) dX7_bar_142 ⟨Nat.zero_le _, Nat.zero_le _⟩) ?_
                            refine wk_bif_eq (tgt := 153) hx hb dX7_bar_145 (by decide) (fun c_20 => ?_) (fun c_20 => ?_)
                            · skip
                              refine lv_iconst (v := iI 0) hx hb dX7_bar_153 rfl ?_
                              exact pk_int hx hb hr hlocks (by (unfold fbM; repeat' split) <;> first | rfl | omega) dX7_bar_154
                            · skip
                              refine lv_bipush (v := iI 9) hx hb dX7_bar_148 (by decide) ?_
                              refine lv_goto (tgt := 154) hx hb dX7_bar_150 (by decide) ?_
                              exact pk_int hx hb hr hlocks (by (unfold fbM; repeat' split) <;> first | rfl | omega) dX7_bar_154
                          · skip
                            refine lv_aload_n hx hb dX7_bar_128 rfl (lv_at hl 3 rfl) ?_
                            refine lv_iconst (v := iI 3) hx hb dX7_bar_129 rfl ?_
                            refine lv_iload_n hx hb dX7_bar_130 rfl (lv_at hl 2 rfl) ?_
                            refine pk_callI (va_runV (As := [.int (iI 3), .int (iI (kb bk))]) (rest := []) ⟨hx, hb, hml, hown, hts⟩ (tX7_verdictOf l D kI kZ kL kJ h hRo hNu hWe hDa hVe hSl hTr hBx hSt hLa hOr hSi hTu mv th sn sm nw rn bn kn cm al lg tt dn 3 (kb bk) s.heap.size (by first | assumption | omega) (by first | assumption | omega)) (cwV 2 hts (gd_V tb_cons wd_763 wd_765 wd_27 wd_41 wd_766) rfl rfl rfl (by decide +kernel) ⟨Nat.le_of_ble_eq_true rfl, Nat.le_of_ble_eq_true rfl⟩) (ck_preV hxT hK hP hD [0, 2] rfl (by decide) (q0 := 0) rfl rfl rfl) rfl rfl hl.1 rfl (lv_room (Nat.le_of_ble_eq_true rfl)) dX7_bar_131 ⟨Nat.zero_le _, Nat.zero_le _⟩) ?_
                            have b6 := hmv (4 * kb bk + 3)
                            refine wk_if_ne (tgt := 140) hx hb dX7_bar_134 (by decide) (by omega) (fun c_21 => ?_) (fun c_21 => ?_)
                            · skip
                              refine lv_aload_n hx hb dX7_bar_140 rfl (lv_at hl 3 rfl) ?_
                              refine lv_iload_n hx hb dX7_bar_141 rfl (lv_at hl 4 rfl) ?_
                              refine pk_callI (va_runV (As := [.int (iI bk)]) (rest := []) ⟨hx, hb, hml, hown, hts⟩ (tX7_isTruckIn l D kI kZ kL kJ h hRo hNu hWe hDa hVe hSl hTr hBx hSt hLa hOr hSi hTu kt kz th sn sm nw rn bn kn cm al lg tt dn bk s.heap.size (by first | assumption | omega) (by first | assumption | omega) (by first | assumption | omega) (by first | assumption | omega) (by first | assumption | omega)) (cwV 1 hts (gd_V tb_cons wd_767 wd_769 wd_28 wd_41 wd_770) rfl rfl rfl (by decide +kernel) ⟨Nat.le_of_ble_eq_true rfl, Nat.le_of_ble_eq_true rfl⟩) (ck_preV hxT hK hP hD [0, 4, 6] rfl (by decide) (q0 := 0) rfl rfl rfl) rfl rfl hl.1 rfl (lv_room (Nat.le_of_ble_eq_true rfl)) dX7_bar_142 ⟨Nat.zero_le _, Nat.zero_le _⟩) ?_
                              refine wk_bif_eq (tgt := 153) hx hb dX7_bar_145 (by decide) (fun c_22 => ?_) (fun c_22 => ?_)
                              · skip
                                refine lv_iconst (v := iI 0) hx hb dX7_bar_153 rfl ?_
                                exact pk_int hx hb hr hlocks (by (unfold fbM; repeat' split) <;> first | rfl | omega) dX7_bar_154
                              · skip
                                refine lv_bipush (v := iI 9) hx hb dX7_bar_148 (by decide) ?_
                                refine lv_goto (tgt := 154) hx hb dX7_bar_150 (by decide) ?_
                                exact pk_int hx hb hr hlocks (by (unfold fbM; repeat' split) <;> first | rfl | omega) dX7_bar_154
                            · skip
                              refine lv_bipush (v := iI 8) hx hb dX7_bar_137 (by decide) ?_
                              exact pk_int hx hb hr hlocks (by (unfold fbM; repeat' split) <;> first | rfl | omega) dX7_bar_139
                        · skip
                          exfalso; omega
                      · skip
                        refine lv_iconst (v := iI 5) hx hb dX7_bar_108 rfl ?_
                        refine lv_iload hx hb dX7_bar_109 (lv_at hl 0 rfl) ?_
                        refine wk_iadd hx hb dX7_bar_111 ?_
                        exact pk_int hx hb hr hlocks (by (unfold fbM; repeat' split) <;> first | rfl | omega) dX7_bar_112
                  · skip
                    refine lv_iconst (v := iI 5) hx hb dX7_bar_108 rfl ?_
                    refine lv_iload hx hb dX7_bar_109 (lv_at hl 0 rfl) ?_
                    refine wk_iadd hx hb dX7_bar_111 ?_
                    exact pk_int hx hb hr hlocks (by (unfold fbM; repeat' split) <;> first | rfl | omega) dX7_bar_112
              · skip
                refine lv_iconst (v := iI 5) hx hb dX7_bar_108 rfl ?_
                refine lv_iload hx hb dX7_bar_109 (lv_at hl 0 rfl) ?_
                refine wk_iadd hx hb dX7_bar_111 ?_
                exact pk_int hx hb hr hlocks (by (unfold fbM; repeat' split) <;> first | rfl | omega) dX7_bar_112
          · skip
            refine lv_iconst (v := iI 4) hx hb dX7_bar_87 rfl ?_
            exact pk_int hx hb hr hlocks (by (unfold fbM; repeat' split) <;> first | rfl | omega) dX7_bar_88
        · skip
          refine lv_iconst (v := iI 3) hx hb dX7_bar_71 rfl ?_
          exact pk_int hx hb hr hlocks (by (unfold fbM; repeat' split) <;> first | rfl | omega) dX7_bar_72
      · skip
        refine lv_iconst (v := iI 2) hx hb dX7_bar_55 rfl ?_
        exact pk_int hx hb hr hlocks (by (unfold fbM; repeat' split) <;> first | rfl | omega) dX7_bar_56
  · skip
    refine lv_iconst (v := iI 1) hx hb dX7_bar_27 rfl ?_
    exact pk_int hx hb hr hlocks (by (unfold fbM; repeat' split) <;> first | rfl | omega) dX7_bar_28

set_option maxHeartbeats 4000000 in
set_option maxRecDepth 100000 in
theorem tX7_comes (l : Launch) (D : va_G) (kI : ClassId) (kZ : ClassId) (kL : ClassId) (kJ : ClassId) (h : Nat) (hRo : Nat) (hNu : Nat) (hWe : Nat) (hDa : Nat) (hVe : Nat) (hSl : Nat) (hTr : Nat) (hBx : Nat) (hSt : Nat) (hLa : Nat) (hOr : Nat) (hSi : Nat) (hTu : Nat) (kl : Int → Int) (mo : Int → Int) (th : Int) (sn : Int) (sm : Int) (nw : Int) (rn : Int) (bn : Int) (kn : Int) (cm : Int) (al : Int) (lg : Int) (tt : Int) (dn : Int) (bk : Int) (ln : Int) (sz : Nat) (hbk : 1 ≤ bk ∧ bk ≤ 60) : CtV l yX7_comes wsX7_comes ({ frames := 0, cells := 0, slots := 0, locals := 0 }) D vwCl (tyL kI kZ kL kJ) [(h, .inr (7, [.int (iI th), .int (iI sn), .int (iI sm), .int (iI nw), .ref hRo, .int (iI rn), .int (iI bn), .ref hNu, .ref hWe, .ref hDa, .ref hVe, .int (iI kn), .ref hSl, .ref hTr, .ref hBx, .ref hSt, .ref hLa, .ref hOr, .ref hSi, .ref hTu, .int (iI cm), .int (iI al), .int (iI lg), .int (iI tt), .int (iI dn)])), (hLa, .inl (kI, 61, .inl (iF kl))), (hOr, .inl (kI, 61, .inl (iF mo)))] [.ref h, .int (iI bk), .int (iI ln)] [(h, .inr (7, [.int (iI th), .int (iI sn), .int (iI sm), .int (iI nw), .ref hRo, .int (iI rn), .int (iI bn), .ref hNu, .ref hWe, .ref hDa, .ref hVe, .int (iI kn), .ref hSl, .ref hTr, .ref hBx, .ref hSt, .ref hLa, .ref hOr, .ref hSi, .ref hTu, .int (iI (cm + 1)), .int (iI al), .int (iI lg), .int (iI tt), .int (iI dn)])), (hLa, .inl (kI, 61, .inl (iF (iu kl bk ln)))), (hOr, .inl (kI, 61, .inl (iF (iu mo bk (cm + 1)))))] sz := by
  refine ck_start (Qc := fun A => cQv D vwCl (tyL kI kZ kL kJ) A [(h, .inr (7, [.int (iI th), .int (iI sn), .int (iI sm), .int (iI nw), .ref hRo, .int (iI rn), .int (iI bn), .ref hNu, .ref hWe, .ref hDa, .ref hVe, .int (iI kn), .ref hSl, .ref hTr, .ref hBx, .ref hSt, .ref hLa, .ref hOr, .ref hSi, .ref hTu, .int (iI (cm + 1)), .int (iI al), .int (iI lg), .int (iI tt), .int (iI dn)])), (hLa, .inl (kI, 61, .inl (iF (iu kl bk ln)))), (hOr, .inl (kI, 61, .inl (iF (iu mo bk (cm + 1)))))]) (cc := cX7_comes) (maxL := 3) (ret := none) (LV := [(0, .ref h), (1, .int (iI bk)), (2, .int (iI ln))]) (by decide) rfl rfl (Nat.le_of_ble_eq_true rfl) ?_
  intro p e s m below meth cd hadm hx hb hr hml hts hown hlocks hname hnoh hxT A hA hK hP hD hS ls hl
  refine lv_aload_n hx hb dX7_comes_0 rfl (lv_at hl 0 rfl) ?_
  refine va_get (D := D) (ci := 7) (v := .ref hLa) (C := RX7) (T := TX7) (N := 25) hx hb hts (fun w h => (List.mem_cons_of_mem _ (hinX7 w h))) hown hK hP 0 rfl rfl 16 (by decide) (hts _ (List.mem_cons_of_mem _ wd_628)) (fun _ h9 => h9) rfl dX7_comes_1 ?_
  refine lv_iload_n hx hb dX7_comes_4 rfl (lv_at hl 1 rfl) ?_
  refine lv_iload_n hx hb dX7_comes_5 rfl (lv_at hl 2 rfl) ?_
  refine wk_iast hx hb hK hP hD hS 1 0 rfl rfl (by decide) (by omega) dX7_comes_6 (ws' := [(h, .inr (7, [.int (iI th), .int (iI sn), .int (iI sm), .int (iI nw), .ref hRo, .int (iI rn), .int (iI bn), .ref hNu, .ref hWe, .ref hDa, .ref hVe, .int (iI kn), .ref hSl, .ref hTr, .ref hBx, .ref hSt, .ref hLa, .ref hOr, .ref hSi, .ref hTu, .int (iI cm), .int (iI al), .int (iI lg), .int (iI tt), .int (iI dn)])), (hLa, .inl (kI, 61, .inl (iF (iu kl bk ln)))), (hOr, .inl (kI, 61, .inl (iF mo)))]) rfl (fun H locs hP hD hS => ?_)
  refine lv_aload_n hx hb dX7_comes_7 rfl (lv_at hl 0 rfl) ?_
  refine lv_dup hx hb dX7_comes_8 rfl ?_
  refine va_get (D := D) (ci := 7) (v := .int (iI cm)) (C := RX7) (T := TX7) (N := 25) hx hb hts (fun w h => (List.mem_cons_of_mem _ (hinX7 w h))) hown hK hP 0 rfl rfl 20 (by decide) (hts _ (List.mem_cons_of_mem _ wd_632)) (fun _ h9 => h9) rfl dX7_comes_9 ?_
  refine lv_iconst (v := iI 1) hx hb dX7_comes_12 rfl ?_
  refine wk_iadd hx hb dX7_comes_13 ?_
  refine wk_put (ci := 7) (C := RX7) (T := TX7) (N := 25) hx hb hts (fun w h => (List.mem_cons_of_mem _ (hinX7 w h))) tyX7 tyX7_ok nmX7 hown hK hP hD hS 0 rfl rfl 20 (by decide) (hts _ (List.mem_cons_of_mem _ wd_632)) (fun _ h9 => h9) rfl rfl (Nat.le_of_ble_eq_true rfl) dX7_comes_14 (ws' := [(h, .inr (7, [.int (iI th), .int (iI sn), .int (iI sm), .int (iI nw), .ref hRo, .int (iI rn), .int (iI bn), .ref hNu, .ref hWe, .ref hDa, .ref hVe, .int (iI kn), .ref hSl, .ref hTr, .ref hBx, .ref hSt, .ref hLa, .ref hOr, .ref hSi, .ref hTu, .int (iI (cm + 1)), .int (iI al), .int (iI lg), .int (iI tt), .int (iI dn)])), (hLa, .inl (kI, 61, .inl (iF (iu kl bk ln)))), (hOr, .inl (kI, 61, .inl (iF mo)))]) rfl (fun H locs hP hD hS => ?_)
  refine lv_aload_n hx hb dX7_comes_17 rfl (lv_at hl 0 rfl) ?_
  refine va_get (D := D) (ci := 7) (v := .ref hOr) (C := RX7) (T := TX7) (N := 25) hx hb hts (fun w h => (List.mem_cons_of_mem _ (hinX7 w h))) hown hK hP 0 rfl rfl 17 (by decide) (hts _ (List.mem_cons_of_mem _ wd_629)) (fun _ h9 => h9) rfl dX7_comes_18 ?_
  refine lv_iload_n hx hb dX7_comes_21 rfl (lv_at hl 1 rfl) ?_
  refine lv_aload_n hx hb dX7_comes_22 rfl (lv_at hl 0 rfl) ?_
  refine va_get (D := D) (ci := 7) (v := .int (iI (cm + 1))) (C := RX7) (T := TX7) (N := 25) hx hb hts (fun w h => (List.mem_cons_of_mem _ (hinX7 w h))) hown hK hP 0 rfl rfl 20 (by decide) (hts _ (List.mem_cons_of_mem _ wd_632)) (fun _ h9 => h9) rfl dX7_comes_23 ?_
  refine wk_iast hx hb hK hP hD hS 2 0 rfl rfl (by decide) (by omega) dX7_comes_26 (ws' := [(h, .inr (7, [.int (iI th), .int (iI sn), .int (iI sm), .int (iI nw), .ref hRo, .int (iI rn), .int (iI bn), .ref hNu, .ref hWe, .ref hDa, .ref hVe, .int (iI kn), .ref hSl, .ref hTr, .ref hBx, .ref hSt, .ref hLa, .ref hOr, .ref hSi, .ref hTu, .int (iI (cm + 1)), .int (iI al), .int (iI lg), .int (iI tt), .int (iI dn)])), (hLa, .inl (kI, 61, .inl (iF (iu kl bk ln)))), (hOr, .inl (kI, 61, .inl (iF (iu mo bk (cm + 1)))))]) rfl (fun H locs hP hD hS => ?_)
  exact rk_void hx hb hr hlocks hK hP hD hS rfl dX7_comes_27

set_option maxHeartbeats 4000000 in
set_option maxRecDepth 100000 in
theorem tX7_inOrder (l : Launch) (D : va_G) (kI : ClassId) (kZ : ClassId) (kL : ClassId) (kJ : ClassId) (h : Nat) (hRo : Nat) (hNu : Nat) (hWe : Nat) (hDa : Nat) (hVe : Nat) (hSl : Nat) (hTr : Nat) (hBx : Nat) (hSt : Nat) (hLa : Nat) (hOr : Nat) (hSi : Nat) (hTu : Nat) (kz : Int → Int) (kl : Int → Int) (mo : Int → Int) (th : Int) (sn : Int) (sm : Int) (nw : Int) (rn : Int) (bn : Int) (kn : Int) (cm : Int) (al : Int) (lg : Int) (tt : Int) (dn : Int) (ln : Int) (ix : Int) (sz : Nat) (hkn : 0 ≤ kn ∧ kn ≤ 60) (hln : -2147483648 ≤ ln ∧ ln ≤ 2147483647) (hix : -2147483648 ≤ ix ∧ ix ≤ 2147483647) (hkz : ∀ j, 0 ≤ kz j ∧ kz j ≤ 1000000) (hkl : ∀ j, 0 ≤ kl j ∧ kl j ≤ 1000000) (hmo : ∀ j, 0 ≤ mo j ∧ mo j ≤ 1000000) : CtP l yX7_inOrder wsX7_inOrder ({ frames := 0, cells := 0, slots := 0, locals := 0 }) D vwCl (tyL kI kZ kL kJ) [(h, .inr (7, [.int (iI th), .int (iI sn), .int (iI sm), .int (iI nw), .ref hRo, .int (iI rn), .int (iI bn), .ref hNu, .ref hWe, .ref hDa, .ref hVe, .int (iI kn), .ref hSl, .ref hTr, .ref hBx, .ref hSt, .ref hLa, .ref hOr, .ref hSi, .ref hTu, .int (iI cm), .int (iI al), .int (iI lg), .int (iI tt), .int (iI dn)])), (hSt, .inl (kI, 61, .inl (iF kz))), (hLa, .inl (kI, 61, .inl (iF kl))), (hOr, .inl (kI, 61, .inl (iF mo)))] [.ref h, .int (iI ln), .int (iI ix)] (iI (sc (pOR kz kl mo kn ln ix) (-1) (kn + 1 - 1).toNat 1)) sz := by
  refine pk_start (cc := cX7_inOrder) (maxL := 6) (ret := (some .int)) (LV := [(0, .ref h), (1, .int (iI ln)), (2, .int (iI ix))]) (by decide) rfl rfl (Nat.le_of_ble_eq_true rfl) ?_
  intro p e s m below meth cd hadm hx hb hr hml hts hown hlocks hname hnoh hxT A hA hK hP hD hS ls hl
  refine lv_iconst (v := iI 1) hx hb dX7_inOrder_0 rfl ?_
  refine lv_istore_n (lv' := [(3, .int (iI 1)), (0, .ref h), (1, .int (iI ln)), (2, .int (iI ix))]) hx hb dX7_inOrder_1 rfl hl (by decide) rfl (fun ls hl => ?_)
  have loop_2 : ∀ (fu : Nat) (i : Int), (1 ≤ i ∧ i ≤ kn + 1) → (sc (pOR kz kl mo kn ln ix) (-1) (kn + 1 - i).toNat i = sc (pOR kz kl mo kn ln ix) (-1) (kn + 1 - 1).toNat 1) → (kn + 1 - i) < (fu : Int) → ∀ (ls : Array Slot), lv_has ls 6 [(3, .int (iI i)), (0, .ref h), (1, .int (iI ln)), (2, .int (iI ix))] → W p l e ({ frames := 0, cells := 0, slots := 0, locals := 0 }) s m ([.ref h, .int (iI ln), .int (iI ix)] : List Value).toArray below meth cd s.heap [] 0 0 (MQ below (QcRead (iI (sc (pOR kz kl mo kn ln ix) (-1) (kn + 1 - 1).toNat 1)) ) ([.ref h, .int (iI ln), .int (iI ix)] : List Value).toArray s 0 0 (fun _ => False)) (F0 m 2 ls []) := by
    intro fu
    induction fu with
    | zero => intro i hi hE hfu; exfalso; omega
    | succ fu ih_2 =>
      intro i hi hE hfu ls hl
      refine lv_iload_n hx hb dX7_inOrder_2 rfl (lv_at hl 0 rfl) ?_
      refine lv_aload_n hx hb dX7_inOrder_3 rfl (lv_at hl 1 rfl) ?_
      refine va_get (D := D) (ci := 7) (v := .int (iI kn)) (C := RX7) (T := TX7) (N := 25) hx hb hts (fun w h => (List.mem_cons_of_mem _ (hinX7 w h))) hown hK hP 0 rfl rfl 11 (by decide) (hts _ (List.mem_cons_of_mem _ wd_623)) (fun _ h9 => h9) rfl dX7_inOrder_4 ?_
      refine wk_icmp_gt (tgt := 113) hx hb dX7_inOrder_7 (by decide) (by omega) (fun c_1 => ?_) (fun c_1 => ?_)
      · skip
        refine lv_iconst (v := iI (-1)) hx hb dX7_inOrder_113 rfl ?_
        exact pk_int hx hb hr hlocks (by have e9 := hE; rw [sc_end (by omega)] at e9; exact e9) dX7_inOrder_114
      · skip
        refine lv_iconst (v := iI 0) hx hb dX7_inOrder_10 rfl ?_
        refine lv_istore (lv' := [(4, .int (iI 0)), (3, .int (iI i)), (0, .ref h), (1, .int (iI ln)), (2, .int (iI ix))]) hx hb dX7_inOrder_11 hl (by decide) rfl (fun ls hl => ?_)
        refine lv_iconst (v := iI 1) hx hb dX7_inOrder_13 rfl ?_
        refine lv_istore (lv' := [(5, .int (iI 1)), (4, .int (iI 0)), (3, .int (iI i)), (0, .ref h), (1, .int (iI ln)), (2, .int (iI ix))]) hx hb dX7_inOrder_14 hl (by decide) rfl (fun ls hl => ?_)
        have loop_16 : ∀ (fu : Nat) (x : Int) (k : Int), (1 ≤ k ∧ k ≤ kn + 1) → (x = cn (pAH kz kl mo ln i) (k - 1).toNat) → (kn + 1 - k) < (fu : Int) → ∀ (ls : Array Slot), lv_has ls 6 [(5, .int (iI k)), (4, .int (iI x)), (3, .int (iI i)), (0, .ref h), (1, .int (iI ln)), (2, .int (iI ix))] → W p l e ({ frames := 0, cells := 0, slots := 0, locals := 0 }) s m ([.ref h, .int (iI ln), .int (iI ix)] : List Value).toArray below meth cd s.heap [] 0 0 (MQ below (QcRead (iI (sc (pOR kz kl mo kn ln ix) (-1) (kn + 1 - 1).toNat 1)) ) ([.ref h, .int (iI ln), .int (iI ix)] : List Value).toArray s 0 0 (fun _ => False)) (F0 m 16 ls []) := by
          intro fu
          induction fu with
          | zero => intro x k hk hY hfu; exfalso; omega
          | succ fu ih_16 =>
            intro x k hk hY hfu ls hl
            refine lv_iload hx hb dX7_inOrder_16 (lv_at hl 0 rfl) ?_
            refine lv_aload_n hx hb dX7_inOrder_18 rfl (lv_at hl 3 rfl) ?_
            refine va_get (D := D) (ci := 7) (v := .int (iI kn)) (C := RX7) (T := TX7) (N := 25) hx hb hts (fun w h => (List.mem_cons_of_mem _ (hinX7 w h))) hown hK hP 0 rfl rfl 11 (by decide) (hts _ (List.mem_cons_of_mem _ wd_623)) (fun _ h9 => h9) rfl dX7_inOrder_19 ?_
            refine wk_icmp_gt (tgt := 79) hx hb dX7_inOrder_22 (by decide) (by omega) (fun c_2 => ?_) (fun c_2 => ?_)
            · skip
              have hx9 : cn (pAH kz kl mo ln i) (kn + 1 - 1).toNat = x := by rw [hY, show k = kn + 1 by omega]
              have b8 := cn_rng (pAH kz kl mo ln i) (kn + 1 - 1).toNat
              refine lv_aload_n hx hb dX7_inOrder_79 rfl (lv_at hl 3 rfl) ?_
              refine va_get (D := D) (ci := 7) (v := .ref hSt) (C := RX7) (T := TX7) (N := 25) hx hb hts (fun w h => (List.mem_cons_of_mem _ (hinX7 w h))) hown hK hP 0 rfl rfl 15 (by decide) (hts _ (List.mem_cons_of_mem _ wd_627)) (fun _ h9 => h9) rfl dX7_inOrder_80 ?_
              refine lv_iload_n hx hb dX7_inOrder_83 rfl (lv_at hl 2 rfl) ?_
              refine wk_iald hx hb hK hP 1 0 rfl rfl (by decide) (by omega) dX7_inOrder_84 ?_
              have b_3 := hkz i
              refine lv_iconst (v := iI 1) hx hb dX7_inOrder_85 rfl ?_
              refine wk_icmp_ne (tgt := 107) hx hb dX7_inOrder_86 (by decide) (by omega) (fun c_4 => ?_) (fun c_4 => ?_)
              · skip
                refine wk_iinc (k := 2) (lv' := [(3, .int (iI (i + 1))), (5, .int (iI k)), (4, .int (iI x)), (0, .ref h), (1, .int (iI ln)), (2, .int (iI ix))]) hx hb dX7_inOrder_107 hl rfl (by decide) rfl (fun ls hl => ?_)
                refine lv_goto (tgt := 2) hx hb dX7_inOrder_110 (by decide) ?_
                exact ih_2 (i + 1) (by first | assumption | omega) (by have e9 := hE; rw [sc_no (by omega) (by simp only [decide_eq_true_eq]; rw [hx9]; omega)] at e9; exact e9) (by omega) ls (lv_sub hl [0, 3, 4, 5] rfl)
              · skip
                refine lv_aload_n hx hb dX7_inOrder_89 rfl (lv_at hl 3 rfl) ?_
                refine va_get (D := D) (ci := 7) (v := .ref hLa) (C := RX7) (T := TX7) (N := 25) hx hb hts (fun w h => (List.mem_cons_of_mem _ (hinX7 w h))) hown hK hP 0 rfl rfl 16 (by decide) (hts _ (List.mem_cons_of_mem _ wd_628)) (fun _ h9 => h9) rfl dX7_inOrder_90 ?_
                refine lv_iload_n hx hb dX7_inOrder_93 rfl (lv_at hl 2 rfl) ?_
                refine wk_iald hx hb hK hP 2 0 rfl rfl (by decide) (by omega) dX7_inOrder_94 ?_
                have b_5 := hkl i
                refine lv_iload_n hx hb dX7_inOrder_95 rfl (lv_at hl 4 rfl) ?_
                refine wk_icmp_ne (tgt := 107) hx hb dX7_inOrder_96 (by decide) (by omega) (fun c_6 => ?_) (fun c_6 => ?_)
                · skip
                  refine wk_iinc (k := 2) (lv' := [(3, .int (iI (i + 1))), (5, .int (iI k)), (4, .int (iI x)), (0, .ref h), (1, .int (iI ln)), (2, .int (iI ix))]) hx hb dX7_inOrder_107 hl rfl (by decide) rfl (fun ls hl => ?_)
                  refine lv_goto (tgt := 2) hx hb dX7_inOrder_110 (by decide) ?_
                  exact ih_2 (i + 1) (by first | assumption | omega) (by have e9 := hE; rw [sc_no (by omega) (by simp only [decide_eq_true_eq]; rw [hx9]; omega)] at e9; exact e9) (by omega) ls (lv_sub hl [0, 3, 4, 5] rfl)
                · skip
                  refine lv_iload hx hb dX7_inOrder_99 (lv_at hl 1 rfl) ?_
                  refine lv_iload_n hx hb dX7_inOrder_101 rfl (lv_at hl 5 rfl) ?_
                  refine wk_icmp_ne (tgt := 107) hx hb dX7_inOrder_102 (by decide) (by omega) (fun c_7 => ?_) (fun c_7 => ?_)
                  · skip
                    refine wk_iinc (k := 2) (lv' := [(3, .int (iI (i + 1))), (5, .int (iI k)), (4, .int (iI x)), (0, .ref h), (1, .int (iI ln)), (2, .int (iI ix))]) hx hb dX7_inOrder_107 hl rfl (by decide) rfl (fun ls hl => ?_)
                    refine lv_goto (tgt := 2) hx hb dX7_inOrder_110 (by decide) ?_
                    exact ih_2 (i + 1) (by first | assumption | omega) (by have e9 := hE; rw [sc_no (by omega) (by simp only [decide_eq_true_eq]; rw [hx9]; omega)] at e9; exact e9) (by omega) ls (lv_sub hl [0, 3, 4, 5] rfl)
                  · skip
                    refine lv_iload_n hx hb dX7_inOrder_105 rfl (lv_at hl 2 rfl) ?_
                    exact pk_int hx hb hr hlocks (by have e9 := hE; rw [sc_yes (by omega) (by simp only [decide_eq_true_eq]; rw [hx9]; omega)] at e9; exact e9) dX7_inOrder_106
            · skip
              refine lv_iload hx hb dX7_inOrder_25 (lv_at hl 1 rfl) ?_
              refine lv_aload_n hx hb dX7_inOrder_27 rfl (lv_at hl 3 rfl) ?_
              refine va_get (D := D) (ci := 7) (v := .ref hSt) (C := RX7) (T := TX7) (N := 25) hx hb hts (fun w h => (List.mem_cons_of_mem _ (hinX7 w h))) hown hK hP 0 rfl rfl 15 (by decide) (hts _ (List.mem_cons_of_mem _ wd_627)) (fun _ h9 => h9) rfl dX7_inOrder_28 ?_
              refine lv_iload hx hb dX7_inOrder_31 (lv_at hl 0 rfl) ?_
              refine wk_iald hx hb hK hP 1 0 rfl rfl (by decide) (by omega) dX7_inOrder_33 ?_
              have b_8 := hkz k
              refine lv_iconst (v := iI 1) hx hb dX7_inOrder_34 rfl ?_
              refine wk_icmp_ne (tgt := 69) hx hb dX7_inOrder_35 (by decide) (by omega) (fun c_9 => ?_) (fun c_9 => ?_)
              · skip
                refine lv_iconst (v := iI 0) hx hb dX7_inOrder_69 rfl ?_
                refine wk_iadd hx hb dX7_inOrder_70 ?_
                refine lv_istore (lv' := [(4, .int (iI (x + 0))), (5, .int (iI k)), (3, .int (iI i)), (0, .ref h), (1, .int (iI ln)), (2, .int (iI ix))]) hx hb dX7_inOrder_71 hl (by decide) rfl (fun ls hl => ?_)
                refine wk_iinc (k := 1) (lv' := [(5, .int (iI (k + 1))), (4, .int (iI (x + 0))), (3, .int (iI i)), (0, .ref h), (1, .int (iI ln)), (2, .int (iI ix))]) hx hb dX7_inOrder_73 hl rfl (by decide) rfl (fun ls hl => ?_)
                refine lv_goto (tgt := 16) hx hb dX7_inOrder_76 (by decide) ?_
                exact ih_16 (x + 0) (k + 1) (by first | assumption | omega) (by rw [hY]; first | (rw [cn_yes (by omega) (by simp only [decide_eq_true_eq]; omega)]) | (rw [cn_no (by omega) (by simp only [decide_eq_true_eq]; omega)])) (by omega) ls (lv_sub hl [0, 1, 2, 3, 4, 5] rfl)
              · skip
                refine lv_aload_n hx hb dX7_inOrder_38 rfl (lv_at hl 3 rfl) ?_
                refine va_get (D := D) (ci := 7) (v := .ref hLa) (C := RX7) (T := TX7) (N := 25) hx hb hts (fun w h => (List.mem_cons_of_mem _ (hinX7 w h))) hown hK hP 0 rfl rfl 16 (by decide) (hts _ (List.mem_cons_of_mem _ wd_628)) (fun _ h9 => h9) rfl dX7_inOrder_39 ?_
                refine lv_iload hx hb dX7_inOrder_42 (lv_at hl 0 rfl) ?_
                refine wk_iald hx hb hK hP 2 0 rfl rfl (by decide) (by omega) dX7_inOrder_44 ?_
                have b_10 := hkl k
                refine lv_iload_n hx hb dX7_inOrder_45 rfl (lv_at hl 4 rfl) ?_
                refine wk_icmp_ne (tgt := 69) hx hb dX7_inOrder_46 (by decide) (by omega) (fun c_11 => ?_) (fun c_11 => ?_)
                · skip
                  refine lv_iconst (v := iI 0) hx hb dX7_inOrder_69 rfl ?_
                  refine wk_iadd hx hb dX7_inOrder_70 ?_
                  refine lv_istore (lv' := [(4, .int (iI (x + 0))), (5, .int (iI k)), (3, .int (iI i)), (0, .ref h), (1, .int (iI ln)), (2, .int (iI ix))]) hx hb dX7_inOrder_71 hl (by decide) rfl (fun ls hl => ?_)
                  refine wk_iinc (k := 1) (lv' := [(5, .int (iI (k + 1))), (4, .int (iI (x + 0))), (3, .int (iI i)), (0, .ref h), (1, .int (iI ln)), (2, .int (iI ix))]) hx hb dX7_inOrder_73 hl rfl (by decide) rfl (fun ls hl => ?_)
                  refine lv_goto (tgt := 16) hx hb dX7_inOrder_76 (by decide) ?_
                  exact ih_16 (x + 0) (k + 1) (by first | assumption | omega) (by rw [hY]; first | (rw [cn_yes (by omega) (by simp only [decide_eq_true_eq]; omega)]) | (rw [cn_no (by omega) (by simp only [decide_eq_true_eq]; omega)])) (by omega) ls (lv_sub hl [0, 1, 2, 3, 4, 5] rfl)
                · skip
                  refine lv_aload_n hx hb dX7_inOrder_49 rfl (lv_at hl 3 rfl) ?_
                  refine va_get (D := D) (ci := 7) (v := .ref hOr) (C := RX7) (T := TX7) (N := 25) hx hb hts (fun w h => (List.mem_cons_of_mem _ (hinX7 w h))) hown hK hP 0 rfl rfl 17 (by decide) (hts _ (List.mem_cons_of_mem _ wd_629)) (fun _ h9 => h9) rfl dX7_inOrder_50 ?_
                  refine lv_iload hx hb dX7_inOrder_53 (lv_at hl 0 rfl) ?_
                  refine wk_iald hx hb hK hP 3 0 rfl rfl (by decide) (by omega) dX7_inOrder_55 ?_
                  have b_12 := hmo k
                  refine lv_aload_n hx hb dX7_inOrder_56 rfl (lv_at hl 3 rfl) ?_
                  refine va_get (D := D) (ci := 7) (v := .ref hOr) (C := RX7) (T := TX7) (N := 25) hx hb hts (fun w h => (List.mem_cons_of_mem _ (hinX7 w h))) hown hK hP 0 rfl rfl 17 (by decide) (hts _ (List.mem_cons_of_mem _ wd_629)) (fun _ h9 => h9) rfl dX7_inOrder_57 ?_
                  refine lv_iload_n hx hb dX7_inOrder_60 rfl (lv_at hl 2 rfl) ?_
                  refine wk_iald hx hb hK hP 3 0 rfl rfl (by decide) (by omega) dX7_inOrder_61 ?_
                  have b_13 := hmo i
                  refine wk_icmp_ge (tgt := 69) hx hb dX7_inOrder_62 (by decide) (by omega) (fun c_14 => ?_) (fun c_14 => ?_)
                  · skip
                    refine lv_iconst (v := iI 0) hx hb dX7_inOrder_69 rfl ?_
                    refine wk_iadd hx hb dX7_inOrder_70 ?_
                    refine lv_istore (lv' := [(4, .int (iI (x + 0))), (5, .int (iI k)), (3, .int (iI i)), (0, .ref h), (1, .int (iI ln)), (2, .int (iI ix))]) hx hb dX7_inOrder_71 hl (by decide) rfl (fun ls hl => ?_)
                    refine wk_iinc (k := 1) (lv' := [(5, .int (iI (k + 1))), (4, .int (iI (x + 0))), (3, .int (iI i)), (0, .ref h), (1, .int (iI ln)), (2, .int (iI ix))]) hx hb dX7_inOrder_73 hl rfl (by decide) rfl (fun ls hl => ?_)
                    refine lv_goto (tgt := 16) hx hb dX7_inOrder_76 (by decide) ?_
                    exact ih_16 (x + 0) (k + 1) (by first | assumption | omega) (by rw [hY]; first | (rw [cn_yes (by omega) (by simp only [decide_eq_true_eq]; omega)]) | (rw [cn_no (by omega) (by simp only [decide_eq_true_eq]; omega)])) (by omega) ls (lv_sub hl [0, 1, 2, 3, 4, 5] rfl)
                  · skip
                    refine lv_iconst (v := iI 1) hx hb dX7_inOrder_65 rfl ?_
                    refine lv_goto (tgt := 70) hx hb dX7_inOrder_66 (by decide) ?_
                    refine wk_iadd hx hb dX7_inOrder_70 ?_
                    refine lv_istore (lv' := [(4, .int (iI (x + 1))), (5, .int (iI k)), (3, .int (iI i)), (0, .ref h), (1, .int (iI ln)), (2, .int (iI ix))]) hx hb dX7_inOrder_71 hl (by decide) rfl (fun ls hl => ?_)
                    refine wk_iinc (k := 1) (lv' := [(5, .int (iI (k + 1))), (4, .int (iI (x + 1))), (3, .int (iI i)), (0, .ref h), (1, .int (iI ln)), (2, .int (iI ix))]) hx hb dX7_inOrder_73 hl rfl (by decide) rfl (fun ls hl => ?_)
                    refine lv_goto (tgt := 16) hx hb dX7_inOrder_76 (by decide) ?_
                    exact ih_16 (x + 1) (k + 1) (by first | assumption | omega) (by rw [hY]; first | (rw [cn_yes (by omega) (by simp only [decide_eq_true_eq]; omega)]) | (rw [cn_no (by omega) (by simp only [decide_eq_true_eq]; omega)])) (by omega) ls (lv_sub hl [0, 1, 2, 3, 4, 5] rfl)
        exact loop_16 (kn + 1 - 1).toNat.succ 0 1 (by first | assumption | rfl | omega) (by rfl) (by omega) ls (lv_sub hl [0, 1, 2, 3, 4, 5] rfl)
  exact loop_2 (kn + 1 - 1).toNat.succ 1 (by first | assumption | rfl | omega) (by rfl) (by omega) ls (lv_sub hl [0, 1, 2, 3] rfl)
