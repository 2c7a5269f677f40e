set_option maxHeartbeats 4000000 in
set_option maxRecDepth 100000 in
theorem tX6_isLetter (l : Launch) (D : va_G) (kI : ClassId) (kZ : ClassId) (kL : ClassId) (kJ : ClassId) (ch : Int) (sz : Nat) (hch : -2147483648 ≤ ch ∧ ch ≤ 2147483647) : CtP l yX6_isLetter wsX6_isLetter ({ frames := 0, cells := 0, slots := 0, locals := 0 }) D vwCl (tyL kI kZ kL kJ) [] [.int (iI ch)] (iI (bi (65 ≤ ch ∧ ch ≤ 90))) sz := by
  refine pk_start (cc := cX6_isLetter) (maxL := 1) (ret := (some .boolean)) (LV := [(0, .int (iI ch))]) (by decide) rfl rfl (Nat.le_of_ble_eq_true rfl) ?_
  intro p e s m below meth cd hadm hx hb hr hml hts hown hlocks hname hnoh hxT A hA hK hP hD hS ls hl
  refine lv_iload_n hx hb dX6_isLetter_0 rfl (lv_at hl 0 rfl) ?_
  refine lv_bipush (v := iI 65) hx hb dX6_isLetter_1 (by decide) ?_
  refine wk_icmp_lt (tgt := 16) hx hb dX6_isLetter_3 (by decide) (by omega) (fun c_1 => ?_) (fun c_1 => ?_)
  · skip
    refine lv_iconst (v := iI 0) hx hb dX6_isLetter_16 rfl ?_
    exact pk_bool hx hb hr hlocks (bi_f (by first | assumption | omega | (simp_all; done))) dX6_isLetter_17
  · skip
    refine lv_iload_n hx hb dX6_isLetter_6 rfl (lv_at hl 0 rfl) ?_
    refine lv_bipush (v := iI 90) hx hb dX6_isLetter_7 (by decide) ?_
    refine wk_icmp_gt (tgt := 16) hx hb dX6_isLetter_9 (by decide) (by omega) (fun c_2 => ?_) (fun c_2 => ?_)
    · skip
      refine lv_iconst (v := iI 0) hx hb dX6_isLetter_16 rfl ?_
      exact pk_bool hx hb hr hlocks (bi_f (by first | assumption | omega | (simp_all; done))) dX6_isLetter_17
    · skip
      refine lv_iconst (v := iI 1) hx hb dX6_isLetter_12 rfl ?_
      refine lv_goto (tgt := 17) hx hb dX6_isLetter_13 (by decide) ?_
      exact pk_bool hx hb hr hlocks (bi_t (by first | assumption | omega | (simp_all; done))) dX6_isLetter_17

set_option maxHeartbeats 4000000 in
set_option maxRecDepth 100000 in
theorem tX6_isDigit (l : Launch) (D : va_G) (kI : ClassId) (kZ : ClassId) (kL : ClassId) (kJ : ClassId) (ch : Int) (sz : Nat) (hch : -2147483648 ≤ ch ∧ ch ≤ 2147483647) : CtP l yX6_isDigit wsX6_isDigit ({ frames := 0, cells := 0, slots := 0, locals := 0 }) D vwCl (tyL kI kZ kL kJ) [] [.int (iI ch)] (iI (bi (48 ≤ ch ∧ ch ≤ 57))) sz := by
  refine pk_start (cc := cX6_isDigit) (maxL := 1) (ret := (some .boolean)) (LV := [(0, .int (iI ch))]) (by decide) rfl rfl (Nat.le_of_ble_eq_true rfl) ?_
  intro p e s m below meth cd hadm hx hb hr hml hts hown hlocks hname hnoh hxT A hA hK hP hD hS ls hl
  refine lv_iload_n hx hb dX6_isDigit_0 rfl (lv_at hl 0 rfl) ?_
  refine lv_bipush (v := iI 48) hx hb dX6_isDigit_1 (by decide) ?_
  refine wk_icmp_lt (tgt := 16) hx hb dX6_isDigit_3 (by decide) (by omega) (fun c_1 => ?_) (fun c_1 => ?_)
  · skip
    refine lv_iconst (v := iI 0) hx hb dX6_isDigit_16 rfl ?_
    exact pk_bool hx hb hr hlocks (bi_f (by first | assumption | omega | (simp_all; done))) dX6_isDigit_17
  · skip
    refine lv_iload_n hx hb dX6_isDigit_6 rfl (lv_at hl 0 rfl) ?_
    refine lv_bipush (v := iI 57) hx hb dX6_isDigit_7 (by decide) ?_
    refine wk_icmp_gt (tgt := 16) hx hb dX6_isDigit_9 (by decide) (by omega) (fun c_2 => ?_) (fun c_2 => ?_)
    · skip
      refine lv_iconst (v := iI 0) hx hb dX6_isDigit_16 rfl ?_
      exact pk_bool hx hb hr hlocks (bi_f (by first | assumption | omega | (simp_all; done))) dX6_isDigit_17
    · skip
      refine lv_iconst (v := iI 1) hx hb dX6_isDigit_12 rfl ?_
      refine lv_goto (tgt := 17) hx hb dX6_isDigit_13 (by decide) ?_
      exact pk_bool hx hb hr hlocks (bi_t (by first | assumption | omega | (simp_all; done))) dX6_isDigit_17

set_option maxHeartbeats 4000000 in
set_option maxRecDepth 100000 in
theorem tX6_isLane (l : Launch) (D : va_G) (kI : ClassId) (kZ : ClassId) (kL : ClassId) (kJ : ClassId) (ln : Int) (sz : Nat) (hln : -2147483648 ≤ ln ∧ ln ≤ 2147483647) : CtP l yX6_isLane wsX6_isLane ({ frames := 0, cells := 0, slots := 0, locals := 0 }) D vwCl (tyL kI kZ kL kJ) [] [.int (iI ln)] (iI (bi (0 ≤ ln ∧ ln < 3))) sz := by
  refine pk_start (cc := cX6_isLane) (maxL := 1) (ret := (some .boolean)) (LV := [(0, .int (iI ln))]) (by decide) rfl rfl (Nat.le_of_ble_eq_true rfl) ?_
  intro p e s m below meth cd hadm hx hb hr hml hts hown hlocks hname hnoh hxT A hA hK hP hD hS ls hl
  refine lv_iload_n hx hb dX6_isLane_0 rfl (lv_at hl 0 rfl) ?_
  refine wk_if_lt (tgt := 13) hx hb dX6_isLane_1 (by decide) (by omega) (fun c_1 => ?_) (fun c_1 => ?_)
  · skip
    refine lv_iconst (v := iI 0) hx hb dX6_isLane_13 rfl ?_
    exact pk_bool hx hb hr hlocks (bi_f (by first | assumption | omega | (simp_all; done))) dX6_isLane_14
  · skip
    refine lv_iload_n hx hb dX6_isLane_4 rfl (lv_at hl 0 rfl) ?_
    refine lv_iconst (v := iI 3) hx hb dX6_isLane_5 rfl ?_
    refine wk_icmp_ge (tgt := 13) hx hb dX6_isLane_6 (by decide) (by omega) (fun c_2 => ?_) (fun c_2 => ?_)
    · skip
      refine lv_iconst (v := iI 0) hx hb dX6_isLane_13 rfl ?_
      exact pk_bool hx hb hr hlocks (bi_f (by first | assumption | omega | (simp_all; done))) dX6_isLane_14
    · skip
      refine lv_iconst (v := iI 1) hx hb dX6_isLane_9 rfl ?_
      refine lv_goto (tgt := 14) hx hb dX6_isLane_10 (by decide) ?_
      exact pk_bool hx hb hr hlocks (bi_t (by first | assumption | omega | (simp_all; done))) dX6_isLane_14

set_option maxHeartbeats 4000000 in
set_option maxRecDepth 100000 in
theorem tX6_canBe (l : Launch) (D : va_G) (kI : ClassId) (kZ : ClassId) (kL : ClassId) (kJ : ClassId) (kd : Int) (vd : Int) (sz : Nat) (hkd : -2147483648 ≤ kd ∧ kd ≤ 2147483647) (hvd : -2147483648 ≤ vd ∧ vd ≤ 2147483647) : CtP l yX6_canBe wsX6_canBe ({ frames := 0, cells := 0, slots := 0, locals := 0 }) D vwCl (tyL kI kZ kL kJ) [] [.int (iI kd), .int (iI vd)] (iI (bi ((vd = 2 ∧ (kd = 1 ∨ kd = 2)) ∨ vd = 0 ∨ vd = 1))) sz := by
  refine pk_start (cc := cX6_canBe) (maxL := 2) (ret := (some .boolean)) (LV := [(0, .int (iI kd)), (1, .int (iI vd))]) (by decide) rfl rfl (Nat.le_of_ble_eq_true rfl) ?_
  intro p e s m below meth cd hadm hx hb hr hml hts hown hlocks hname hnoh hxT A hA hK hP hD hS ls hl
  refine lv_iload_n hx hb dX6_canBe_0 rfl (lv_at hl 1 rfl) ?_
  refine lv_iconst (v := iI 2) hx hb dX6_canBe_1 rfl ?_
  refine wk_icmp_ne (tgt := 21) hx hb dX6_canBe_2 (by decide) (by omega) (fun c_1 => ?_) (fun c_1 => ?_)
  · skip
    refine lv_iload_n hx hb dX6_canBe_21 rfl (lv_at hl 1 rfl) ?_
    refine wk_if_eq (tgt := 30) hx hb dX6_canBe_22 (by decide) (by omega) (fun c_2 => ?_) (fun c_2 => ?_)
    · skip
      refine lv_iconst (v := iI 1) hx hb dX6_canBe_30 rfl ?_
      refine lv_goto (tgt := 35) hx hb dX6_canBe_31 (by decide) ?_
      exact pk_bool hx hb hr hlocks (bi_t (by first | assumption | omega | (simp_all; done))) dX6_canBe_35
    · skip
      refine lv_iload_n hx hb dX6_canBe_25 rfl (lv_at hl 1 rfl) ?_
      refine lv_iconst (v := iI 1) hx hb dX6_canBe_26 rfl ?_
      refine wk_icmp_ne (tgt := 34) hx hb dX6_canBe_27 (by decide) (by omega) (fun c_3 => ?_) (fun c_3 => ?_)
      · skip
        refine lv_iconst (v := iI 0) hx hb dX6_canBe_34 rfl ?_
        exact pk_bool hx hb hr hlocks (bi_f (by first | assumption | omega | (simp_all; done))) dX6_canBe_35
      · skip
        refine lv_iconst (v := iI 1) hx hb dX6_canBe_30 rfl ?_
        refine lv_goto (tgt := 35) hx hb dX6_canBe_31 (by decide) ?_
        exact pk_bool hx hb hr hlocks (bi_t (by first | assumption | omega | (simp_all; done))) dX6_canBe_35
  · skip
    refine lv_iload_n hx hb dX6_canBe_5 rfl (lv_at hl 0 rfl) ?_
    refine lv_iconst (v := iI 1) hx hb dX6_canBe_6 rfl ?_
    refine wk_icmp_eq (tgt := 15) hx hb dX6_canBe_7 (by decide) (by omega) (fun c_4 => ?_) (fun c_4 => ?_)
    · skip
      refine lv_iconst (v := iI 1) hx hb dX6_canBe_15 rfl ?_
      refine lv_goto (tgt := 20) hx hb dX6_canBe_16 (by decide) ?_
      exact pk_bool hx hb hr hlocks (bi_t (by first | assumption | omega | (simp_all; done))) dX6_canBe_20
    · skip
      refine lv_iload_n hx hb dX6_canBe_10 rfl (lv_at hl 0 rfl) ?_
      refine lv_iconst (v := iI 2) hx hb dX6_canBe_11 rfl ?_
      refine wk_icmp_ne (tgt := 19) hx hb dX6_canBe_12 (by decide) (by omega) (fun c_5 => ?_) (fun c_5 => ?_)
      · skip
        refine lv_iconst (v := iI 0) hx hb dX6_canBe_19 rfl ?_
        exact pk_bool hx hb hr hlocks (bi_f (by first | assumption | omega | (simp_all; done))) dX6_canBe_20
      · skip
        refine lv_iconst (v := iI 1) hx hb dX6_canBe_15 rfl ?_
        refine lv_goto (tgt := 20) hx hb dX6_canBe_16 (by decide) ?_
        exact pk_bool hx hb hr hlocks (bi_t (by first | assumption | omega | (simp_all; done))) dX6_canBe_20

set_option maxHeartbeats 4000000 in
set_option maxRecDepth 100000 in
theorem tX6_held (l : Launch) (D : va_G) (kI : ClassId) (kZ : ClassId) (kL : ClassId) (kJ : ClassId) (va : Int) (mo : Int) (sz : Nat) (hva : -2147483648 ≤ va ∧ va ≤ 2147483647) (hmo : -2147483648 ≤ mo ∧ mo ≤ 2147483647) : CtP l yX6_held wsX6_held ({ frames := 1, cells := 0, slots := 0, locals := 14 }) D vwCl (tyL kI kZ kL kJ) [] [.int (iI va), .int (iI mo)] (iI (max 1 (min mo va))) sz := by
  refine pk_start (cc := cX6_held) (maxL := 2) (ret := (some .int)) (LV := [(0, .int (iI va)), (1, .int (iI mo))]) (by decide) rfl rfl (Nat.le_of_ble_eq_true rfl) ?_
  intro p e s m below meth cd hadm hx hb hr hml hts hown hlocks hname hnoh hxT A hA hK hP hD hS ls hl
  refine lv_iconst (v := iI 1) hx hb dX6_held_0 rfl ?_
  refine lv_iload_n hx hb dX6_held_1 rfl (lv_at hl 1 rfl) ?_
  refine lv_iload_n hx hb dX6_held_2 rfl (lv_at hl 0 rfl) ?_
  refine wk_mmin hx hb (hml.trans hl.1.symm) hown (hts _ (List.mem_cons_of_mem _ wd_114)) (hts _ (List.mem_cons_of_mem _ wd_115)) (hts _ (List.mem_cons_of_mem _ wd_38)) (hts _ (List.mem_cons_of_mem _ wm_min)) (Nat.le_of_ble_eq_true rfl) (Nat.le_of_ble_eq_true rfl) (Nat.zero_le _) (Nat.zero_le _) (by omega) dX6_held_3 ?_
  refine wk_mmax hx hb (hml.trans hl.1.symm) hown (hts _ (List.mem_cons_of_mem _ wd_117)) (hts _ (List.mem_cons_of_mem _ wd_118)) (hts _ (List.mem_cons_of_mem _ wd_38)) (hts _ (List.mem_cons_of_mem _ wm_max)) (Nat.le_of_ble_eq_true rfl) (Nat.le_of_ble_eq_true rfl) (Nat.zero_le _) (Nat.zero_le _) (by omega) dX6_held_6 ?_
  exact pk_int hx hb hr hlocks (by first | rfl | omega) dX6_held_9

set_option maxHeartbeats 4000000 in
set_option maxRecDepth 100000 in
theorem tX3_worth (l : Launch) (D : va_G) (kI : ClassId) (kZ : ClassId) (kL : ClassId) (kJ : ClassId) (ch : Int) (sz : Nat) (hch : -2147483648 ≤ ch ∧ ch ≤ 2147483647) : CtP l yX3_worth wsX3_worth ({ frames := 1, cells := 0, slots := 0, locals := 20 }) D vwCl (tyL kI kZ kL kJ) [] [.int (iI ch)] (iI (wrt ch)) sz := by
  refine pk_start (cc := cX3_worth) (maxL := 1) (ret := (some .int)) (LV := [(0, .int (iI ch))]) (by decide) rfl rfl (Nat.le_of_ble_eq_true rfl) ?_
  intro p e s m below meth cd hadm hx hb hr hml hts hown hlocks hname hnoh hxT A hA hK hP hD hS ls hl
  refine lv_iload_n hx hb dX3_worth_0 rfl (lv_at hl 0 rfl) ?_
  refine pk_callI (va_runSN (As := [.int (iI ch)]) (rest := []) ⟨hx, hb, hml, hown, hts⟩ (tX6_isLetter l D kI kZ kL kJ ch s.heap.size (by first | assumption | omega)) ⟨(va_cnB 1 hts (gd_N tb_cons wd_240) rfl rfl rfl (xt_n23_X3 hxT) (hts _ (List.mem_cons_of_mem _ wd_33)) (by decide +kernel) ⟨Nat.le_of_ble_eq_true rfl, Nat.le_of_ble_eq_true rfl⟩), (hts _ (List.mem_cons_of_mem _ wd_239)), trivial⟩ (ck_preS hxT hK hP hD [] rfl (by decide)) rfl rfl hl.1 rfl (lv_room (Nat.le_of_ble_eq_true rfl)) dX3_worth_1 ⟨Nat.zero_le _, Nat.zero_le _⟩) ?_
  refine wk_bif_eq (tgt := 16) hx hb dX3_worth_4 (by decide) (fun c_1 => ?_) (fun c_1 => ?_)
  · skip
    refine lv_iload_n hx hb dX3_worth_16 rfl (lv_at hl 0 rfl) ?_
    refine lv_bipush (v := iI 48) hx hb dX3_worth_17 (by decide) ?_
    refine wk_isub hx hb dX3_worth_19 ?_
    exact pk_int hx hb hr hlocks (by unfold wrt; split <;> omega) dX3_worth_20
  · skip
    refine lv_iload_n hx hb dX3_worth_7 rfl (lv_at hl 0 rfl) ?_
    refine lv_bipush (v := iI 65) hx hb dX3_worth_8 (by decide) ?_
    refine wk_isub hx hb dX3_worth_10 ?_
    refine lv_iconst (v := iI 1) hx hb dX3_worth_11 rfl ?_
    refine wk_iadd hx hb dX3_worth_12 ?_
    refine lv_goto (tgt := 20) hx hb dX3_worth_13 (by decide) ?_
    exact pk_int hx hb hr hlocks (by unfold wrt; split <;> omega) dX3_worth_20

set_option maxHeartbeats 4000000 in
set_option maxRecDepth 100000 in
theorem tX3_fits (l : Launch) (D : va_G) (kI : ClassId) (kZ : ClassId) (kL : ClassId) (kJ : ClassId) (aR : Nat) (aRs : Nat) (rn : Int) (ch : Int) (sz : Nat) (hch : -2147483648 ≤ ch ∧ ch ≤ 2147483647) (hrn : 0 ≤ rn ∧ rn ≤ 11) : CtP l yX3_fits wsX3_fits ({ frames := 1, cells := 0, slots := 0, locals := 20 }) D vwCl (tyL kI kZ kL kJ) [(aR, .inr (3, [.ref aRs, .int (iI rn)]))] [.ref aR, .int (iI ch)] (iI (bi ((4 ≤ rn ∧ rn < 10 ∧ 48 ≤ ch ∧ ch ≤ 57) ∨ (¬ (4 ≤ rn ∧ rn < 10) ∧ 65 ≤ ch ∧ ch ≤ 90)))) sz := by
  refine pk_start (cc := cX3_fits) (maxL := 3) (ret := (some .boolean)) (LV := [(0, .ref aR), (1, .int (iI ch))]) (by decide) rfl rfl (Nat.le_of_ble_eq_true rfl) ?_
  intro p e s m below meth cd hadm hx hb hr hml hts hown hlocks hname hnoh hxT A hA hK hP hD hS ls hl
  refine lv_aload_n hx hb dX3_fits_0 rfl (lv_at hl 0 rfl) ?_
  refine va_get (D := D) (ci := 3) (v := .int (iI rn)) (C := RX3) (T := TX3) (N := 2) hx hb hts (fun w h => (List.mem_cons_of_mem _ (hinX3 w h))) hown hK hP 0 rfl rfl 1 (by decide) (hts _ (List.mem_cons_of_mem _ wd_64)) (fun _ h9 => h9) rfl dX3_fits_1 ?_
  refine lv_iconst (v := iI 4) hx hb dX3_fits_4 rfl ?_
  refine wk_icmp_lt (tgt := 21) hx hb dX3_fits_5 (by decide) (by omega) (fun c_1 => ?_) (fun c_1 => ?_)
  · skip
    refine lv_iconst (v := iI 0) hx hb dX3_fits_21 rfl ?_
    refine lv_istore_n (lv' := [(2, .int (iI 0)), (0, .ref aR), (1, .int (iI ch))]) hx hb dX3_fits_22 rfl hl (by decide) rfl (fun ls hl => ?_)
    refine lv_iload_n hx hb dX3_fits_23 rfl (lv_at hl 0 rfl) ?_
    refine wk_if_eq (tgt := 34) hx hb dX3_fits_24 (by decide) (by omega) (fun c_2 => ?_) (fun c_2 => ?_)
    · skip
      refine lv_iload_n hx hb dX3_fits_34 rfl (lv_at hl 2 rfl) ?_
      refine pk_callI (va_runSN (As := [.int (iI ch)]) (rest := []) ⟨hx, hb, hml, hown, hts⟩ (tX6_isLetter l D kI kZ kL kJ ch s.heap.size (by first | assumption | omega)) ⟨(va_cnB 1 hts (gd_N tb_cons wd_240) rfl rfl rfl (xt_n23_X3 hxT) (hts _ (List.mem_cons_of_mem _ wd_33)) (by decide +kernel) ⟨Nat.le_of_ble_eq_true rfl, Nat.le_of_ble_eq_true rfl⟩), (hts _ (List.mem_cons_of_mem _ wd_239)), trivial⟩ (ck_preS hxT hK hP hD [] rfl (by decide)) rfl rfl hl.1 rfl (lv_room (Nat.le_of_ble_eq_true rfl)) dX3_fits_35 ⟨Nat.zero_le _, Nat.zero_le _⟩) ?_
      exact pk_bool hx hb hr hlocks (bi_cong (by first | exact Iff.rfl | omega)) dX3_fits_38
    · skip
      exfalso; omega
  · skip
    refine lv_aload_n hx hb dX3_fits_8 rfl (lv_at hl 0 rfl) ?_
    refine va_get (D := D) (ci := 3) (v := .int (iI rn)) (C := RX3) (T := TX3) (N := 2) hx hb hts (fun w h => (List.mem_cons_of_mem _ (hinX3 w h))) hown hK hP 0 rfl rfl 1 (by decide) (hts _ (List.mem_cons_of_mem _ wd_64)) (fun _ h9 => h9) rfl dX3_fits_9 ?_
    refine lv_bipush (v := iI 10) hx hb dX3_fits_12 (by decide) ?_
    refine wk_icmp_ge (tgt := 21) hx hb dX3_fits_14 (by decide) (by omega) (fun c_3 => ?_) (fun c_3 => ?_)
    · skip
      refine lv_iconst (v := iI 0) hx hb dX3_fits_21 rfl ?_
      refine lv_istore_n (lv' := [(2, .int (iI 0)), (0, .ref aR), (1, .int (iI ch))]) hx hb dX3_fits_22 rfl hl (by decide) rfl (fun ls hl => ?_)
      refine lv_iload_n hx hb dX3_fits_23 rfl (lv_at hl 0 rfl) ?_
      refine wk_if_eq (tgt := 34) hx hb dX3_fits_24 (by decide) (by omega) (fun c_4 => ?_) (fun c_4 => ?_)
      · skip
        refine lv_iload_n hx hb dX3_fits_34 rfl (lv_at hl 2 rfl) ?_
        refine pk_callI (va_runSN (As := [.int (iI ch)]) (rest := []) ⟨hx, hb, hml, hown, hts⟩ (tX6_isLetter l D kI kZ kL kJ ch s.heap.size (by first | assumption | omega)) ⟨(va_cnB 1 hts (gd_N tb_cons wd_240) rfl rfl rfl (xt_n23_X3 hxT) (hts _ (List.mem_cons_of_mem _ wd_33)) (by decide +kernel) ⟨Nat.le_of_ble_eq_true rfl, Nat.le_of_ble_eq_true rfl⟩), (hts _ (List.mem_cons_of_mem _ wd_239)), trivial⟩ (ck_preS hxT hK hP hD [] rfl (by decide)) rfl rfl hl.1 rfl (lv_room (Nat.le_of_ble_eq_true rfl)) dX3_fits_35 ⟨Nat.zero_le _, Nat.zero_le _⟩) ?_
        exact pk_bool hx hb hr hlocks (bi_cong (by first | exact Iff.rfl | omega)) dX3_fits_38
      · skip
        exfalso; omega
    · skip
      refine lv_iconst (v := iI 1) hx hb dX3_fits_17 rfl ?_
      refine lv_goto (tgt := 22) hx hb dX3_fits_18 (by decide) ?_
      refine lv_istore_n (lv' := [(2, .int (iI 1)), (0, .ref aR), (1, .int (iI ch))]) hx hb dX3_fits_22 rfl hl (by decide) rfl (fun ls hl => ?_)
      refine lv_iload_n hx hb dX3_fits_23 rfl (lv_at hl 0 rfl) ?_
      refine wk_if_eq (tgt := 34) hx hb dX3_fits_24 (by decide) (by omega) (fun c_5 => ?_) (fun c_5 => ?_)
      · skip
        exfalso; omega
      · skip
        refine lv_iload_n hx hb dX3_fits_27 rfl (lv_at hl 2 rfl) ?_
        refine pk_callI (va_runSN (As := [.int (iI ch)]) (rest := []) ⟨hx, hb, hml, hown, hts⟩ (tX6_isDigit l D kI kZ kL kJ ch s.heap.size (by first | assumption | omega)) ⟨(va_cnB 1 hts (gd_N tb_cons wd_279) rfl rfl rfl (xt_n19_X3 hxT) (hts _ (List.mem_cons_of_mem _ wd_33)) (by decide +kernel) ⟨Nat.le_of_ble_eq_true rfl, Nat.le_of_ble_eq_true rfl⟩), (hts _ (List.mem_cons_of_mem _ wd_278)), trivial⟩ (ck_preS hxT hK hP hD [] rfl (by decide)) rfl rfl hl.1 rfl (lv_room (Nat.le_of_ble_eq_true rfl)) dX3_fits_28 ⟨Nat.zero_le _, Nat.zero_le _⟩) ?_
        refine lv_goto (tgt := 38) hx hb dX3_fits_31 (by decide) ?_
        exact pk_bool hx hb hr hlocks (bi_cong (by first | exact Iff.rfl | omega)) dX3_fits_38

set_option maxHeartbeats 4000000 in
set_option maxRecDepth 100000 in
theorem tX3_add (l : Launch) (D : va_G) (kI : ClassId) (kZ : ClassId) (kL : ClassId) (kJ : ClassId) (aR : Nat) (aRs : Nat) (rs : Int → Int) (rn : Int) (ch : Int) (sz : Nat) (hrn : 0 ≤ rn ∧ rn < 11) : CtV l yX3_add wsX3_add ({ frames := 0, cells := 0, slots := 0, locals := 0 }) D vwCl (tyL kI kZ kL kJ) [(aR, .inr (3, [.ref aRs, .int (iI rn)])), (aRs, .inl (kI, 11, .inl (iF rs)))] [.ref aR, .int (iI ch)] [(aR, .inr (3, [.ref aRs, .int (iI (rn + 1))])), (aRs, .inl (kI, 11, .inl (iF (iu rs rn ch))))] sz := by
  refine ck_start (Qc := fun A => cQv D vwCl (tyL kI kZ kL kJ) A [(aR, .inr (3, [.ref aRs, .int (iI (rn + 1))])), (aRs, .inl (kI, 11, .inl (iF (iu rs rn ch))))]) (cc := cX3_add) (maxL := 2) (ret := none) (LV := [(0, .ref aR), (1, .int (iI ch))]) (by decide) rfl rfl (Nat.le_of_ble_eq_true rfl) ?_
  intro p e s m below meth cd hadm hx hb hr hml hts hown hlocks hname hnoh hxT A hA hK hP hD hS ls hl
  refine lv_aload_n hx hb dX3_add_0 rfl (lv_at hl 0 rfl) ?_
  refine va_get (D := D) (ci := 3) (v := .int (iI rn)) (C := RX3) (T := TX3) (N := 2) hx hb hts (fun w h => (List.mem_cons_of_mem _ (hinX3 w h))) hown hK hP 0 rfl rfl 1 (by decide) (hts _ (List.mem_cons_of_mem _ wd_64)) (fun _ h9 => h9) rfl dX3_add_1 ?_
  refine lv_bipush (v := iI 11) hx hb dX3_add_4 (by decide) ?_
  refine wk_icmp_ge (tgt := 29) hx hb dX3_add_6 (by decide) (by omega) (fun c_1 => ?_) (fun c_1 => ?_)
  · skip
    exfalso; omega
  · skip
    refine lv_aload_n hx hb dX3_add_9 rfl (lv_at hl 0 rfl) ?_
    refine va_get (D := D) (ci := 3) (v := .ref aRs) (C := RX3) (T := TX3) (N := 2) hx hb hts (fun w h => (List.mem_cons_of_mem _ (hinX3 w h))) hown hK hP 0 rfl rfl 0 (by decide) (hts _ (List.mem_cons_of_mem _ wd_62)) (fun _ h9 => h9) rfl dX3_add_10 ?_
    refine lv_aload_n hx hb dX3_add_13 rfl (lv_at hl 0 rfl) ?_
    refine va_get (D := D) (ci := 3) (v := .int (iI rn)) (C := RX3) (T := TX3) (N := 2) hx hb hts (fun w h => (List.mem_cons_of_mem _ (hinX3 w h))) hown hK hP 0 rfl rfl 1 (by decide) (hts _ (List.mem_cons_of_mem _ wd_64)) (fun _ h9 => h9) rfl dX3_add_14 ?_
    refine lv_iload_n hx hb dX3_add_17 rfl (lv_at hl 1 rfl) ?_
    refine wk_iast hx hb hK hP hD hS 1 0 rfl rfl (by decide) (by omega) dX3_add_18 (ws' := [(aR, .inr (3, [.ref aRs, .int (iI rn)])), (aRs, .inl (kI, 11, .inl (iF (iu rs rn ch))))]) rfl (fun H locs hP hD hS => ?_)
    refine lv_aload_n hx hb dX3_add_19 rfl (lv_at hl 0 rfl) ?_
    refine lv_dup hx hb dX3_add_20 rfl ?_
    refine va_get (D := D) (ci := 3) (v := .int (iI rn)) (C := RX3) (T := TX3) (N := 2) hx hb hts (fun w h => (List.mem_cons_of_mem _ (hinX3 w h))) hown hK hP 0 rfl rfl 1 (by decide) (hts _ (List.mem_cons_of_mem _ wd_64)) (fun _ h9 => h9) rfl dX3_add_21 ?_
    refine lv_iconst (v := iI 1) hx hb dX3_add_24 rfl ?_
    refine wk_iadd hx hb dX3_add_25 ?_
    refine wk_put (ci := 3) (C := RX3) (T := TX3) (N := 2) hx hb hts (fun w h => (List.mem_cons_of_mem _ (hinX3 w h))) tyX3 tyX3_ok nmX3 hown hK hP hD hS 0 rfl rfl 1 (by decide) (hts _ (List.mem_cons_of_mem _ wd_64)) (fun _ h9 => h9) rfl rfl (Nat.le_of_ble_eq_true rfl) dX3_add_26 (ws' := [(aR, .inr (3, [.ref aRs, .int (iI (rn + 1))])), (aRs, .inl (kI, 11, .inl (iF (iu rs rn ch))))]) rfl (fun H locs hP hD hS => ?_)
    exact rk_void hx hb hr hlocks hK hP hD hS rfl dX3_add_29

set_option maxHeartbeats 4000000 in
set_option maxRecDepth 100000 in
theorem tX1_judge (l : Launch) (D : va_G) (kI : ClassId) (kZ : ClassId) (kL : ClassId) (kJ : ClassId) (aB : Nat) (aBs : Nat) (aBw : Nat) (aBd : Nat) (aBv : Nat) (bv : Int → Int) (bn : Int) (bx : Int) (kd : Int) (vd : Int) (sz : Nat) (hbx : 0 ≤ bx ∧ bx < 20) (hkd : 0 ≤ kd ∧ kd < 4) : CtV l yX1_judge wsX1_judge ({ frames := 0, cells := 0, slots := 0, locals := 0 }) D vwCl (tyL kI kZ kL kJ) [(aB, .inr (1, [.ref aBs, .ref aBw, .ref aBd, .ref aBv, .int (iI bn)])), (aBv, .inl (kI, 80, .inl (iF bv)))] [.ref aB, .int (iI bx), .int (iI kd), .int (iI vd)] [(aB, .inr (1, [.ref aBs, .ref aBw, .ref aBd, .ref aBv, .int (iI bn)])), (aBv, .inl (kI, 80, .inl (iF (iu bv (bx * 4 + kd) vd))))] sz := by
  refine ck_start (Qc := fun A => cQv D vwCl (tyL kI kZ kL kJ) A [(aB, .inr (1, [.ref aBs, .ref aBw, .ref aBd, .ref aBv, .int (iI bn)])), (aBv, .inl (kI, 80, .inl (iF (iu bv (bx * 4 + kd) vd))))]) (cc := cX1_judge) (maxL := 4) (ret := none) (LV := [(0, .ref aB), (1, .int (iI bx)), (2, .int (iI kd)), (3, .int (iI vd))]) (by decide) rfl rfl (Nat.le_of_ble_eq_true rfl) ?_
  intro p e s m below meth cd hadm hx hb hr hml hts hown hlocks hname hnoh hxT A hA hK hP hD hS ls hl
  refine lv_aload_n hx hb dX1_judge_0 rfl (lv_at hl 0 rfl) ?_
  refine va_get (D := D) (ci := 1) (v := .ref aBv) (C := RX1) (T := TX1) (N := 5) hx hb hts (fun w h => (List.mem_cons_of_mem _ (hinX1 w h))) hown hK hP 0 rfl rfl 3 (by decide) (hts _ (List.mem_cons_of_mem _ wd_84)) (fun _ h9 => h9) rfl dX1_judge_1 ?_
  refine lv_iload_n hx hb dX1_judge_4 rfl (lv_at hl 1 rfl) ?_
  refine lv_iconst (v := iI 4) hx hb dX1_judge_5 rfl ?_
  refine wk_imul hx hb dX1_judge_6 ?_
  refine lv_iload_n hx hb dX1_judge_7 rfl (lv_at hl 2 rfl) ?_
  refine wk_iadd hx hb dX1_judge_8 ?_
  refine lv_iload_n hx hb dX1_judge_9 rfl (lv_at hl 3 rfl) ?_
  refine wk_iast hx hb hK hP hD hS 1 0 rfl rfl (by decide) (by omega) dX1_judge_10 (ws' := [(aB, .inr (1, [.ref aBs, .ref aBw, .ref aBd, .ref aBv, .int (iI bn)])), (aBv, .inl (kI, 80, .inl (iF (iu bv ((bx * 4) + kd) vd))))]) rfl (fun H locs hP hD hS => ?_)
  exact rk_void hx hb hr hlocks hK hP hD hS rfl dX1_judge_11

set_option maxHeartbeats 4000000 in
set_option maxRecDepth 100000 in
theorem tX1_verdictOf (l : Launch) (D : va_G) (kI : ClassId) (kZ : ClassId) (kL : ClassId) (kJ : ClassId) (aB : Nat) (aBs : Nat) (aBw : Nat) (aBd : Nat) (aBv : Nat) (bv : Int → Int) (bn : Int) (bx : Int) (kd : Int) (sz : Nat) (hbx : 0 ≤ bx ∧ bx < 20) (hkd : 0 ≤ kd ∧ kd < 4) : CtP l yX1_verdictOf wsX1_verdictOf ({ frames := 0, cells := 0, slots := 0, locals := 0 }) D vwCl (tyL kI kZ kL kJ) [(aB, .inr (1, [.ref aBs, .ref aBw, .ref aBd, .ref aBv, .int (iI bn)])), (aBv, .inl (kI, 80, .inl (iF bv)))] [.ref aB, .int (iI bx), .int (iI kd)] (iI (bv (bx * 4 + kd))) sz := by
  refine pk_start (cc := cX1_verdictOf) (maxL := 3) (ret := (some .int)) (LV := [(0, .ref aB), (1, .int (iI bx)), (2, .int (iI kd))]) (by decide) rfl rfl (Nat.le_of_ble_eq_true rfl) ?_
  intro p e s m below meth cd hadm hx hb hr hml hts hown hlocks hname hnoh hxT A hA hK hP hD hS ls hl
  refine lv_aload_n hx hb dX1_verdictOf_0 rfl (lv_at hl 0 rfl) ?_
  refine va_get (D := D) (ci := 1) (v := .ref aBv) (C := RX1) (T := TX1) (N := 5) hx hb hts (fun w h => (List.mem_cons_of_mem _ (hinX1 w h))) hown hK hP 0 rfl rfl 3 (by decide) (hts _ (List.mem_cons_of_mem _ wd_84)) (fun _ h9 => h9) rfl dX1_verdictOf_1 ?_
  refine lv_iload_n hx hb dX1_verdictOf_4 rfl (lv_at hl 1 rfl) ?_
  refine lv_iconst (v := iI 4) hx hb dX1_verdictOf_5 rfl ?_
  refine wk_imul hx hb dX1_verdictOf_6 ?_
  refine lv_iload_n hx hb dX1_verdictOf_7 rfl (lv_at hl 2 rfl) ?_
  refine wk_iadd hx hb dX1_verdictOf_8 ?_
  refine wk_iald hx hb hK hP 1 0 rfl rfl (by decide) (by omega) dX1_verdictOf_9 ?_
  exact pk_int hx hb hr hlocks (by first | rfl | omega) dX1_verdictOf_10

set_option maxHeartbeats 4000000 in
set_option maxRecDepth 100000 in
theorem tX5_judge (l : Launch) (D : va_G) (kI : ClassId) (kZ : ClassId) (kL : ClassId) (kJ : ClassId) (aT : Nat) (aTv : Nat) (tv : Int → Int) (tr : Int) (kd : Int) (vd : Int) (sz : Nat) (htr : 0 ≤ tr ∧ tr < 16) (hkd : 4 ≤ kd ∧ kd < 6) : CtV l yX5_judge wsX5_judge ({ frames := 0, cells := 0, slots := 0, locals := 0 }) D vwCl (tyL kI kZ kL kJ) [(aT, .inr (5, [.ref aTv])), (aTv, .inl (kI, 32, .inl (iF tv)))] [.ref aT, .int (iI tr), .int (iI kd), .int (iI vd)] [(aT, .inr (5, [.ref aTv])), (aTv, .inl (kI, 32, .inl (iF (iu tv (tr * 2 + kd - 4) vd))))] sz := by
  refine ck_start (Qc := fun A => cQv D vwCl (tyL kI kZ kL kJ) A [(aT, .inr (5, [.ref aTv])), (aTv, .inl (kI, 32, .inl (iF (iu tv (tr * 2 + kd - 4) vd))))]) (cc := cX5_judge) (maxL := 4) (ret := none) (LV := [(0, .ref aT), (1, .int (iI tr)), (2, .int (iI kd)), (3, .int (iI vd))]) (by decide) rfl rfl (Nat.le_of_ble_eq_true rfl) ?_
  intro p e s m below meth cd hadm hx hb hr hml hts hown hlocks hname hnoh hxT A hA hK hP hD hS ls hl
  refine lv_aload_n hx hb dX5_judge_0 rfl (lv_at hl 0 rfl) ?_
  refine va_get (D := D) (ci := 5) (v := .ref aTv) (C := RX5) (T := TX5) (N := 1) hx hb hts (fun w h => (List.mem_cons_of_mem _ (hinX5 w h))) hown hK hP 0 rfl rfl 0 (by decide) (hts _ (List.mem_cons_of_mem _ wd_105)) (fun _ h9 => h9) rfl dX5_judge_1 ?_
  refine lv_iload_n hx hb dX5_judge_4 rfl (lv_at hl 1 rfl) ?_
  refine lv_iconst (v := iI 2) hx hb dX5_judge_5 rfl ?_
  refine wk_imul hx hb dX5_judge_6 ?_
  refine lv_iload_n hx hb dX5_judge_7 rfl (lv_at hl 2 rfl) ?_
  refine wk_iadd hx hb dX5_judge_8 ?_
  refine lv_iconst (v := iI 4) hx hb dX5_judge_9 rfl ?_
  refine wk_isub hx hb dX5_judge_10 ?_
  refine lv_iload_n hx hb dX5_judge_11 rfl (lv_at hl 3 rfl) ?_
  refine wk_iast hx hb hK hP hD hS 1 0 rfl rfl (by decide) (by omega) dX5_judge_12 (ws' := [(aT, .inr (5, [.ref aTv])), (aTv, .inl (kI, 32, .inl (iF (iu tv (((tr * 2) + kd) - 4) vd))))]) rfl (fun H locs hP hD hS => ?_)
  exact rk_void hx hb hr hlocks hK hP hD hS rfl dX5_judge_13

set_option maxHeartbeats 4000000 in
set_option maxRecDepth 100000 in
theorem tX5_verdictOf (l : Launch) (D : va_G) (kI : ClassId) (kZ : ClassId) (kL : ClassId) (kJ : ClassId) (aT : Nat) (aTv : Nat) (tv : Int → Int) (tr : Int) (kd : Int) (sz : Nat) (htr : 0 ≤ tr ∧ tr < 16) (hkd : 4 ≤ kd ∧ kd < 6) : CtP l yX5_verdictOf wsX5_verdictOf ({ frames := 0, cells := 0, slots := 0, locals := 0 }) D vwCl (tyL kI kZ kL kJ) [(aT, .inr (5, [.ref aTv])), (aTv, .inl (kI, 32, .inl (iF tv)))] [.ref aT, .int (iI tr), .int (iI kd)] (iI (tv (tr * 2 + kd - 4))) sz := by
  refine pk_start (cc := cX5_verdictOf) (maxL := 3) (ret := (some .int)) (LV := [(0, .ref aT), (1, .int (iI tr)), (2, .int (iI kd))]) (by decide) rfl rfl (Nat.le_of_ble_eq_true rfl) ?_
  intro p e s m below meth cd hadm hx hb hr hml hts hown hlocks hname hnoh hxT A hA hK hP hD hS ls hl
  refine lv_aload_n hx hb dX5_verdictOf_0 rfl (lv_at hl 0 rfl) ?_
  refine va_get (D := D) (ci := 5) (v := .ref aTv) (C := RX5) (T := TX5) (N := 1) hx hb hts (fun w h => (List.mem_cons_of_mem _ (hinX5 w h))) hown hK hP 0 rfl rfl 0 (by decide) (hts _ (List.mem_cons_of_mem _ wd_105)) (fun _ h9 => h9) rfl dX5_verdictOf_1 ?_
  refine lv_iload_n hx hb dX5_verdictOf_4 rfl (lv_at hl 1 rfl) ?_
  refine lv_iconst (v := iI 2) hx hb dX5_verdictOf_5 rfl ?_
  refine wk_imul hx hb dX5_verdictOf_6 ?_
  refine lv_iload_n hx hb dX5_verdictOf_7 rfl (lv_at hl 2 rfl) ?_
  refine wk_iadd hx hb dX5_verdictOf_8 ?_
  refine lv_iconst (v := iI 4) hx hb dX5_verdictOf_9 rfl ?_
  refine wk_isub hx hb dX5_verdictOf_10 ?_
  refine wk_iald hx hb hK hP 1 0 rfl rfl (by decide) (by omega) dX5_verdictOf_11 ?_
  exact pk_int hx hb hr hlocks (by first | rfl | omega) dX5_verdictOf_12

set_option maxHeartbeats 4000000 in
set_option maxRecDepth 100000 in
theorem tX4_has (l : Launch) (D : va_G) (kI : ClassId) (kZ : ClassId) (kL : ClassId) (kJ : ClassId) (aS : Nat) (aSt : Nat) (sn : Int) (sm : Int) (sl : Int) (sz : Nat) (hsl : -2147483648 ≤ sl ∧ sl ≤ 2147483647) (hsn : 1 ≤ sn ∧ sn ≤ 24) : CtP l yX4_has wsX4_has ({ frames := 0, cells := 0, slots := 0, locals := 0 }) D vwCl (tyL kI kZ kL kJ) [(aS, .inr (4, [.ref aSt, .int (iI sn), .int (iI sm)]))] [.ref aS, .int (iI sl)] (iI (bi (0 ≤ sl ∧ sl < sn))) sz := by
  refine pk_start (cc := cX4_has) (maxL := 2) (ret := (some .boolean)) (LV := [(0, .ref aS), (1, .int (iI sl))]) (by decide) rfl rfl (Nat.le_of_ble_eq_true rfl) ?_
  intro p e s m below meth cd hadm hx hb hr hml hts hown hlocks hname hnoh hxT A hA hK hP hD hS ls hl
  refine lv_iload_n hx hb dX4_has_0 rfl (lv_at hl 1 rfl) ?_
  refine wk_if_lt (tgt := 16) hx hb dX4_has_1 (by decide) (by omega) (fun c_1 => ?_) (fun c_1 => ?_)
  · skip
    refine lv_iconst (v := iI 0) hx hb dX4_has_16 rfl ?_
    exact pk_bool hx hb hr hlocks (bi_f (by first | assumption | omega | (simp_all; done))) dX4_has_17
  · skip
    refine lv_iload_n hx hb dX4_has_4 rfl (lv_at hl 1 rfl) ?_
    refine lv_aload_n hx hb dX4_has_5 rfl (lv_at hl 0 rfl) ?_
    refine va_get (D := D) (ci := 4) (v := .int (iI sn)) (C := RX4) (T := TX4) (N := 3) hx hb hts (fun w h => (List.mem_cons_of_mem _ (hinX4 w h))) hown hK hP 0 rfl rfl 1 (by decide) (hts _ (List.mem_cons_of_mem _ wd_126)) (fun _ h9 => h9) rfl dX4_has_6 ?_
    refine wk_icmp_ge (tgt := 16) hx hb dX4_has_9 (by decide) (by omega) (fun c_2 => ?_) (fun c_2 => ?_)
    · skip
      refine lv_iconst (v := iI 0) hx hb dX4_has_16 rfl ?_
      exact pk_bool hx hb hr hlocks (bi_f (by first | assumption | omega | (simp_all; done))) dX4_has_17
    · skip
      refine lv_iconst (v := iI 1) hx hb dX4_has_12 rfl ?_
      refine lv_goto (tgt := 17) hx hb dX4_has_13 (by decide) ?_
      exact pk_bool hx hb hr hlocks (bi_t (by first | assumption | omega | (simp_all; done))) dX4_has_17

set_option maxHeartbeats 4000000 in
set_option maxRecDepth 100000 in
theorem tX4_hasRoom (l : Launch) (D : va_G) (kI : ClassId) (kZ : ClassId) (kL : ClassId) (kJ : ClassId) (aS : Nat) (aSt : Nat) (tk : Int → Int) (sn : Int) (sm : Int) (sl : Int) (sz : Nat) (hsl : 0 ≤ sl ∧ sl < 24) (hsm : 1 ≤ sm ∧ sm ≤ 8) (htk : ∀ j, 0 ≤ tk j ∧ tk j ≤ 1000000) : CtP l yX4_hasRoom wsX4_hasRoom ({ frames := 0, cells := 0, slots := 0, locals := 0 }) D vwCl (tyL kI kZ kL kJ) [(aS, .inr (4, [.ref aSt, .int (iI sn), .int (iI sm)])), (aSt, .inl (kI, 24, .inl (iF tk)))] [.ref aS, .int (iI sl)] (iI (bi (tk sl < sm))) sz := by
  refine pk_start (cc := cX4_hasRoom) (maxL := 2) (ret := (some .boolean)) (LV := [(0, .ref aS), (1, .int (iI sl))]) (by decide) rfl rfl (Nat.le_of_ble_eq_true rfl) ?_
  intro p e s m below meth cd hadm hx hb hr hml hts hown hlocks hname hnoh hxT A hA hK hP hD hS ls hl
  refine lv_aload_n hx hb dX4_hasRoom_0 rfl (lv_at hl 0 rfl) ?_
  refine va_get (D := D) (ci := 4) (v := .ref aSt) (C := RX4) (T := TX4) (N := 3) hx hb hts (fun w h => (List.mem_cons_of_mem _ (hinX4 w h))) hown hK hP 0 rfl rfl 0 (by decide) (hts _ (List.mem_cons_of_mem _ wd_124)) (fun _ h9 => h9) rfl dX4_hasRoom_1 ?_
  refine lv_iload_n hx hb dX4_hasRoom_4 rfl (lv_at hl 1 rfl) ?_
  refine wk_iald hx hb hK hP 1 0 rfl rfl (by decide) (by omega) dX4_hasRoom_5 ?_
  have b_1 := htk sl
  refine lv_aload_n hx hb dX4_hasRoom_6 rfl (lv_at hl 0 rfl) ?_
  refine va_get (D := D) (ci := 4) (v := .int (iI sm)) (C := RX4) (T := TX4) (N := 3) hx hb hts (fun w h => (List.mem_cons_of_mem _ (hinX4 w h))) hown hK hP 0 rfl rfl 2 (by decide) (hts _ (List.mem_cons_of_mem _ wd_127)) (fun _ h9 => h9) rfl dX4_hasRoom_7 ?_
  refine wk_icmp_ge (tgt := 17) hx hb dX4_hasRoom_10 (by decide) (by omega) (fun c_2 => ?_) (fun c_2 => ?_)
  · skip
    refine lv_iconst (v := iI 0) hx hb dX4_hasRoom_17 rfl ?_
    exact pk_bool hx hb hr hlocks (bi_f (by first | assumption | omega | (simp_all; done))) dX4_hasRoom_18
  · skip
    refine lv_iconst (v := iI 1) hx hb dX4_hasRoom_13 rfl ?_
    refine lv_goto (tgt := 18) hx hb dX4_hasRoom_14 (by decide) ?_
    exact pk_bool hx hb hr hlocks (bi_t (by first | assumption | omega | (simp_all; done))) dX4_hasRoom_18

set_option maxHeartbeats 4000000 in
set_option maxRecDepth 100000 in
theorem tX2_add (l : Launch) (D : va_G) (kI : ClassId) (kZ : ClassId) (kL : ClassId) (kJ : ClassId) (aQ : Nat) (aQw : Nat) (qw : Int → Int) (qn : Int) (bk : Int) (sz : Nat) (hqn : 0 ≤ qn ∧ qn < 16) : CtV l yX2_add wsX2_add ({ frames := 0, cells := 0, slots := 0, locals := 0 }) D vwCl (tyL kI kZ kL kJ) [(aQ, .inr (2, [.ref aQw, .int (iI qn)])), (aQw, .inl (kI, 16, .inl (iF qw)))] [.ref aQ, .int (iI bk)] [(aQ, .inr (2, [.ref aQw, .int (iI (qn + 1))])), (aQw, .inl (kI, 16, .inl (iF (iu qw qn bk))))] sz := by
  refine ck_start (Qc := fun A => cQv D vwCl (tyL kI kZ kL kJ) A [(aQ, .inr (2, [.ref aQw, .int (iI (qn + 1))])), (aQw, .inl (kI, 16, .inl (iF (iu qw qn bk))))]) (cc := cX2_add) (maxL := 2) (ret := none) (LV := [(0, .ref aQ), (1, .int (iI bk))]) (by decide) rfl rfl (Nat.le_of_ble_eq_true rfl) ?_
  intro p e s m below meth cd hadm hx hb hr hml hts hown hlocks hname hnoh hxT A hA hK hP hD hS ls hl
  refine lv_aload_n hx hb dX2_add_0 rfl (lv_at hl 0 rfl) ?_
  refine va_get (D := D) (ci := 2) (v := .int (iI qn)) (C := RX2) (T := TX2) (N := 2) hx hb hts (fun w h => (List.mem_cons_of_mem _ (hinX2 w h))) hown hK hP 0 rfl rfl 1 (by decide) (hts _ (List.mem_cons_of_mem _ wd_182)) (fun _ h9 => h9) rfl dX2_add_1 ?_
  refine lv_bipush (v := iI 16) hx hb dX2_add_4 (by decide) ?_
  refine wk_icmp_ge (tgt := 29) hx hb dX2_add_6 (by decide) (by omega) (fun c_1 => ?_) (fun c_1 => ?_)
  · skip
    exfalso; omega
  · skip
    refine lv_aload_n hx hb dX2_add_9 rfl (lv_at hl 0 rfl) ?_
    refine va_get (D := D) (ci := 2) (v := .ref aQw) (C := RX2) (T := TX2) (N := 2) hx hb hts (fun w h => (List.mem_cons_of_mem _ (hinX2 w h))) hown hK hP 0 rfl rfl 0 (by decide) (hts _ (List.mem_cons_of_mem _ wd_181)) (fun _ h9 => h9) rfl dX2_add_10 ?_
    refine lv_aload_n hx hb dX2_add_13 rfl (lv_at hl 0 rfl) ?_
    refine va_get (D := D) (ci := 2) (v := .int (iI qn)) (C := RX2) (T := TX2) (N := 2) hx hb hts (fun w h => (List.mem_cons_of_mem _ (hinX2 w h))) hown hK hP 0 rfl rfl 1 (by decide) (hts _ (List.mem_cons_of_mem _ wd_182)) (fun _ h9 => h9) rfl dX2_add_14 ?_
    refine lv_iload_n hx hb dX2_add_17 rfl (lv_at hl 1 rfl) ?_
    refine wk_iast hx hb hK hP hD hS 1 0 rfl rfl (by decide) (by omega) dX2_add_18 (ws' := [(aQ, .inr (2, [.ref aQw, .int (iI qn)])), (aQw, .inl (kI, 16, .inl (iF (iu qw qn bk))))]) rfl (fun H locs hP hD hS => ?_)
    refine lv_aload_n hx hb dX2_add_19 rfl (lv_at hl 0 rfl) ?_
    refine lv_dup hx hb dX2_add_20 rfl ?_
    refine va_get (D := D) (ci := 2) (v := .int (iI qn)) (C := RX2) (T := TX2) (N := 2) hx hb hts (fun w h => (List.mem_cons_of_mem _ (hinX2 w h))) hown hK hP 0 rfl rfl 1 (by decide) (hts _ (List.mem_cons_of_mem _ wd_182)) (fun _ h9 => h9) rfl dX2_add_21 ?_
    refine lv_iconst (v := iI 1) hx hb dX2_add_24 rfl ?_
    refine wk_iadd hx hb dX2_add_25 ?_
    refine wk_put (ci := 2) (C := RX2) (T := TX2) (N := 2) hx hb hts (fun w h => (List.mem_cons_of_mem _ (hinX2 w h))) tyX2 tyX2_ok nmX2 hown hK hP hD hS 0 rfl rfl 1 (by decide) (hts _ (List.mem_cons_of_mem _ wd_182)) (fun _ h9 => h9) rfl rfl (Nat.le_of_ble_eq_true rfl) dX2_add_26 (ws' := [(aQ, .inr (2, [.ref aQw, .int (iI (qn + 1))])), (aQw, .inl (kI, 16, .inl (iF (iu qw qn bk))))]) rfl (fun H locs hP hD hS => ?_)
    exact rk_void hx hb hr hlocks hK hP hD hS rfl dX2_add_29

set_option maxHeartbeats 4000000 in
set_option maxRecDepth 100000 in
theorem tX2_bookingAt (l : Launch) (D : va_G) (kI : ClassId) (kZ : ClassId) (kL : ClassId) (kJ : ClassId) (aQ : Nat) (aQw : Nat) (qw : Int → Int) (qn : Int) (ix : Int) (sz : Nat) (hix : -2147483648 ≤ ix ∧ ix ≤ 2147483647) (hqn : 0 ≤ qn ∧ qn ≤ 16) : CtP l yX2_bookingAt wsX2_bookingAt ({ frames := 0, cells := 0, slots := 0, locals := 0 }) D vwCl (tyL kI kZ kL kJ) [(aQ, .inr (2, [.ref aQw, .int (iI qn)])), (aQw, .inl (kI, 16, .inl (iF qw)))] [.ref aQ, .int (iI ix)] (iI (if 0 ≤ ix ∧ ix < qn then qw ix else -1)) sz := by
  refine pk_start (cc := cX2_bookingAt) (maxL := 2) (ret := (some .int)) (LV := [(0, .ref aQ), (1, .int (iI ix))]) (by decide) rfl rfl (Nat.le_of_ble_eq_true rfl) ?_
  intro p e s m below meth cd hadm hx hb hr hml hts hown hlocks hname hnoh hxT A hA hK hP hD hS ls hl
  refine lv_iload_n hx hb dX2_bookingAt_0 rfl (lv_at hl 1 rfl) ?_
  refine wk_if_lt (tgt := 21) hx hb dX2_bookingAt_1 (by decide) (by omega) (fun c_1 => ?_) (fun c_1 => ?_)
  · skip
    refine lv_iconst (v := iI (-1)) hx hb dX2_bookingAt_21 rfl ?_
    exact pk_int hx hb hr hlocks (by split <;> first | rfl | omega) dX2_bookingAt_22
  · skip
    refine lv_iload_n hx hb dX2_bookingAt_4 rfl (lv_at hl 1 rfl) ?_
    refine lv_aload_n hx hb dX2_bookingAt_5 rfl (lv_at hl 0 rfl) ?_
    refine va_get (D := D) (ci := 2) (v := .int (iI qn)) (C := RX2) (T := TX2) (N := 2) hx hb hts (fun w h => (List.mem_cons_of_mem _ (hinX2 w h))) hown hK hP 0 rfl rfl 1 (by decide) (hts _ (List.mem_cons_of_mem _ wd_182)) (fun _ h9 => h9) rfl dX2_bookingAt_6 ?_
    refine wk_icmp_ge (tgt := 21) hx hb dX2_bookingAt_9 (by decide) (by omega) (fun c_2 => ?_) (fun c_2 => ?_)
    · skip
      refine lv_iconst (v := iI (-1)) hx hb dX2_bookingAt_21 rfl ?_
      exact pk_int hx hb hr hlocks (by split <;> first | rfl | omega) dX2_bookingAt_22
    · skip
      refine lv_aload_n hx hb dX2_bookingAt_12 rfl (lv_at hl 0 rfl) ?_
      refine va_get (D := D) (ci := 2) (v := .ref aQw) (C := RX2) (T := TX2) (N := 2) hx hb hts (fun w h => (List.mem_cons_of_mem _ (hinX2 w h))) hown hK hP 0 rfl rfl 0 (by decide) (hts _ (List.mem_cons_of_mem _ wd_181)) (fun _ h9 => h9) rfl dX2_bookingAt_13 ?_
      refine lv_iload_n hx hb dX2_bookingAt_16 rfl (lv_at hl 1 rfl) ?_
      refine wk_iald hx hb hK hP 1 0 rfl rfl (by decide) (by omega) dX2_bookingAt_17 ?_
      refine lv_goto (tgt := 22) hx hb dX2_bookingAt_18 (by decide) ?_
      exact pk_int hx hb hr hlocks (by split <;> first | rfl | omega) dX2_bookingAt_22

set_option maxHeartbeats 4000000 in
set_option maxRecDepth 100000 in
theorem tX0_add (l : Launch) (D : va_G) (kI : ClassId) (kZ : ClassId) (kL : ClassId) (kJ : ClassId) (aK : Nat) (aKs : Nat) (aKt : Nat) (aKb : Nat) (aKz : Nat) (aKl : Nat) (aKc : Nat) (aKu : Nat) (ks : Int → Int) (kt : Int → Int) (kb : Int → Int) (kz : Int → Int) (kn : Int) (sl : Int) (tr : Int) (bx : Int) (sz : Nat) (hkn : 0 ≤ kn ∧ kn < 60) : CtI l yX0_add wsX0_add ({ frames := 0, cells := 0, slots := 0, locals := 0 }) D vwCl (tyL kI kZ kL kJ) [(aK, .inr (0, [.ref aKs, .ref aKt, .ref aKb, .ref aKz, .ref aKl, .ref aKc, .ref aKu, .int (iI kn)])), (aKs, .inl (kI, 61, .inl (iF ks))), (aKt, .inl (kI, 61, .inl (iF kt))), (aKb, .inl (kI, 61, .inl (iF kb))), (aKz, .inl (kI, 61, .inl (iF kz)))] [.ref aK, .int (iI sl), .int (iI tr), .int (iI bx)] (iI (kn + 1)) [(aK, .inr (0, [.ref aKs, .ref aKt, .ref aKb, .ref aKz, .ref aKl, .ref aKc, .ref aKu, .int (iI (kn + 1))])), (aKs, .inl (kI, 61, .inl (iF (iu ks (kn + 1) sl)))), (aKt, .inl (kI, 61, .inl (iF (iu kt (kn + 1) tr)))), (aKb, .inl (kI, 61, .inl (iF (iu kb (kn + 1) bx)))), (aKz, .inl (kI, 61, .inl (iF (iu kz (kn + 1) 0))))] sz := by
  refine ck_start (Qc := fun A => cQi D vwCl (tyL kI kZ kL kJ) A (iI (kn + 1)) [(aK, .inr (0, [.ref aKs, .ref aKt, .ref aKb, .ref aKz, .ref aKl, .ref aKc, .ref aKu, .int (iI (kn + 1))])), (aKs, .inl (kI, 61, .inl (iF (iu ks (kn + 1) sl)))), (aKt, .inl (kI, 61, .inl (iF (iu kt (kn + 1) tr)))), (aKb, .inl (kI, 61, .inl (iF (iu kb (kn + 1) bx)))), (aKz, .inl (kI, 61, .inl (iF (iu kz (kn + 1) 0))))]) (cc := cX0_add) (maxL := 4) (ret := (some .int)) (LV := [(0, .ref aK), (1, .int (iI sl)), (2, .int (iI tr)), (3, .int (iI bx))]) (by decide) rfl rfl (Nat.le_of_ble_eq_true rfl) ?_
  intro p e s m below meth cd hadm hx hb hr hml hts hown hlocks hname hnoh hxT A hA hK hP hD hS ls hl
  refine lv_aload_n hx hb dX0_add_0 rfl (lv_at hl 0 rfl) ?_
  refine va_get (D := D) (ci := 0) (v := .int (iI kn)) (C := RX0) (T := TX0) (N := 8) hx hb hts (fun w h => (List.mem_cons_of_mem _ (hinX0 w h))) hown hK hP 0 rfl rfl 7 (by decide) (hts _ (List.mem_cons_of_mem _ wd_155)) (fun _ h9 => h9) rfl dX0_add_1 ?_
  refine lv_bipush (v := iI 60) hx hb dX0_add_4 (by decide) ?_
  refine wk_icmp_lt (tgt := 11) hx hb dX0_add_6 (by decide) (by omega) (fun c_1 => ?_) (fun c_1 => ?_)
  · skip
    refine lv_aload_n hx hb dX0_add_11 rfl (lv_at hl 0 rfl) ?_
    refine lv_dup hx hb dX0_add_12 rfl ?_
    refine va_get (D := D) (ci := 0) (v := .int (iI kn)) (C := RX0) (T := TX0) (N := 8) hx hb hts (fun w h => (List.mem_cons_of_mem _ (hinX0 w h))) hown hK hP 0 rfl rfl 7 (by decide) (hts _ (List.mem_cons_of_mem _ wd_155)) (fun _ h9 => h9) rfl dX0_add_13 ?_
    refine lv_iconst (v := iI 1) hx hb dX0_add_16 rfl ?_
    refine wk_iadd hx hb dX0_add_17 ?_
    refine wk_put (ci := 0) (C := RX0) (T := TX0) (N := 8) hx hb hts (fun w h => (List.mem_cons_of_mem _ (hinX0 w h))) tyX0 tyX0_ok nmX0 hown hK hP hD hS 0 rfl rfl 7 (by decide) (hts _ (List.mem_cons_of_mem _ wd_155)) (fun _ h9 => h9) rfl rfl (Nat.le_of_ble_eq_true rfl) dX0_add_18 (ws' := [(aK, .inr (0, [.ref aKs, .ref aKt, .ref aKb, .ref aKz, .ref aKl, .ref aKc, .ref aKu, .int (iI (kn + 1))])), (aKs, .inl (kI, 61, .inl (iF ks))), (aKt, .inl (kI, 61, .inl (iF kt))), (aKb, .inl (kI, 61, .inl (iF kb))), (aKz, .inl (kI, 61, .inl (iF kz)))]) rfl (fun H locs hP hD hS => ?_)
    refine lv_aload_n hx hb dX0_add_21 rfl (lv_at hl 0 rfl) ?_
    refine va_get (D := D) (ci := 0) (v := .ref aKs) (C := RX0) (T := TX0) (N := 8) hx hb hts (fun w h => (List.mem_cons_of_mem _ (hinX0 w h))) hown hK hP 0 rfl rfl 0 (by decide) (hts _ (List.mem_cons_of_mem _ wd_141)) (fun _ h9 => h9) rfl dX0_add_22 ?_
    refine lv_aload_n hx hb dX0_add_25 rfl (lv_at hl 0 rfl) ?_
    refine va_get (D := D) (ci := 0) (v := .int (iI (kn + 1))) (C := RX0) (T := TX0) (N := 8) hx hb hts (fun w h => (List.mem_cons_of_mem _ (hinX0 w h))) hown hK hP 0 rfl rfl 7 (by decide) (hts _ (List.mem_cons_of_mem _ wd_155)) (fun _ h9 => h9) rfl dX0_add_26 ?_
    refine lv_iload_n hx hb dX0_add_29 rfl (lv_at hl 1 rfl) ?_
    refine wk_iast hx hb hK hP hD hS 1 0 rfl rfl (by decide) (by omega) dX0_add_30 (ws' := [(aK, .inr (0, [.ref aKs, .ref aKt, .ref aKb, .ref aKz, .ref aKl, .ref aKc, .ref aKu, .int (iI (kn + 1))])), (aKs, .inl (kI, 61, .inl (iF (iu ks (kn + 1) sl)))), (aKt, .inl (kI, 61, .inl (iF kt))), (aKb, .inl (kI, 61, .inl (iF kb))), (aKz, .inl (kI, 61, .inl (iF kz)))]) rfl (fun H locs hP hD hS => ?_)
    refine lv_aload_n hx hb dX0_add_31 rfl (lv_at hl 0 rfl) ?_
    refine va_get (D := D) (ci := 0) (v := .ref aKt) (C := RX0) (T := TX0) (N := 8) hx hb hts (fun w h => (List.mem_cons_of_mem _ (hinX0 w h))) hown hK hP 0 rfl rfl 1 (by decide) (hts _ (List.mem_cons_of_mem _ wd_143)) (fun _ h9 => h9) rfl dX0_add_32 ?_
    refine lv_aload_n hx hb dX0_add_35 rfl (lv_at hl 0 rfl) ?_
    refine va_get (D := D) (ci := 0) (v := .int (iI (kn + 1))) (C := RX0) (T := TX0) (N := 8) hx hb hts (fun w h => (List.mem_cons_of_mem _ (hinX0 w h))) hown hK hP 0 rfl rfl 7 (by decide) (hts _ (List.mem_cons_of_mem _ wd_155)) (fun _ h9 => h9) rfl dX0_add_36 ?_
    refine lv_iload_n hx hb dX0_add_39 rfl (lv_at hl 2 rfl) ?_
    refine wk_iast hx hb hK hP hD hS 2 0 rfl rfl (by decide) (by omega) dX0_add_40 (ws' := [(aK, .inr (0, [.ref aKs, .ref aKt, .ref aKb, .ref aKz, .ref aKl, .ref aKc, .ref aKu, .int (iI (kn + 1))])), (aKs, .inl (kI, 61, .inl (iF (iu ks (kn + 1) sl)))), (aKt, .inl (kI, 61, .inl (iF (iu kt (kn + 1) tr)))), (aKb, .inl (kI, 61, .inl (iF kb))), (aKz, .inl (kI, 61, .inl (iF kz)))]) rfl (fun H locs hP hD hS => ?_)
    refine lv_aload_n hx hb dX0_add_41 rfl (lv_at hl 0 rfl) ?_
    refine va_get (D := D) (ci := 0) (v := .ref aKb) (C := RX0) (T := TX0) (N := 8) hx hb hts (fun w h => (List.mem_cons_of_mem _ (hinX0 w h))) hown hK hP 0 rfl rfl 2 (by decide) (hts _ (List.mem_cons_of_mem _ wd_145)) (fun _ h9 => h9) rfl dX0_add_42 ?_
    refine lv_aload_n hx hb dX0_add_45 rfl (lv_at hl 0 rfl) ?_
    refine va_get (D := D) (ci := 0) (v := .int (iI (kn + 1))) (C := RX0) (T := TX0) (N := 8) hx hb hts (fun w h => (List.mem_cons_of_mem _ (hinX0 w h))) hown hK hP 0 rfl rfl 7 (by decide) (hts _ (List.mem_cons_of_mem _ wd_155)) (fun _ h9 => h9) rfl dX0_add_46 ?_
    refine lv_iload_n hx hb dX0_add_49 rfl (lv_at hl 3 rfl) ?_
    refine wk_iast hx hb hK hP hD hS 3 0 rfl rfl (by decide) (by omega) dX0_add_50 (ws' := [(aK, .inr (0, [.ref aKs, .ref aKt, .ref aKb, .ref aKz, .ref aKl, .ref aKc, .ref aKu, .int (iI (kn + 1))])), (aKs, .inl (kI, 61, .inl (iF (iu ks (kn + 1) sl)))), (aKt, .inl (kI, 61, .inl (iF (iu kt (kn + 1) tr)))), (aKb, .inl (kI, 61, .inl (iF (iu kb (kn + 1) bx)))), (aKz, .inl (kI, 61, .inl (iF kz)))]) rfl (fun H locs hP hD hS => ?_)
    refine lv_aload_n hx hb dX0_add_51 rfl (lv_at hl 0 rfl) ?_
    refine va_get (D := D) (ci := 0) (v := .ref aKz) (C := RX0) (T := TX0) (N := 8) hx hb hts (fun w h => (List.mem_cons_of_mem _ (hinX0 w h))) hown hK hP 0 rfl rfl 3 (by decide) (hts _ (List.mem_cons_of_mem _ wd_147)) (fun _ h9 => h9) rfl dX0_add_52 ?_
    refine lv_aload_n hx hb dX0_add_55 rfl (lv_at hl 0 rfl) ?_
    refine va_get (D := D) (ci := 0) (v := .int (iI (kn + 1))) (C := RX0) (T := TX0) (N := 8) hx hb hts (fun w h => (List.mem_cons_of_mem _ (hinX0 w h))) hown hK hP 0 rfl rfl 7 (by decide) (hts _ (List.mem_cons_of_mem _ wd_155)) (fun _ h9 => h9) rfl dX0_add_56 ?_
    refine lv_iconst (v := iI 0) hx hb dX0_add_59 rfl ?_
    refine wk_iast hx hb hK hP hD hS 4 0 rfl rfl (by decide) (by omega) dX0_add_60 (ws' := [(aK, .inr (0, [.ref aKs, .ref aKt, .ref aKb, .ref aKz, .ref aKl, .ref aKc, .ref aKu, .int (iI (kn + 1))])), (aKs, .inl (kI, 61, .inl (iF (iu ks (kn + 1) sl)))), (aKt, .inl (kI, 61, .inl (iF (iu kt (kn + 1) tr)))), (aKb, .inl (kI, 61, .inl (iF (iu kb (kn + 1) bx)))), (aKz, .inl (kI, 61, .inl (iF (iu kz (kn + 1) 0))))]) rfl (fun H locs hP hD hS => ?_)
    refine lv_aload_n hx hb dX0_add_61 rfl (lv_at hl 0 rfl) ?_
    refine va_get (D := D) (ci := 0) (v := .int (iI (kn + 1))) (C := RX0) (T := TX0) (N := 8) hx hb hts (fun w h => (List.mem_cons_of_mem _ (hinX0 w h))) hown hK hP 0 rfl rfl 7 (by decide) (hts _ (List.mem_cons_of_mem _ wd_155)) (fun _ h9 => h9) rfl dX0_add_62 ?_
    exact rk_int hx hb hr hlocks hK hP hD hS (by first | rfl | omega) rfl dX0_add_65
  · skip
    exfalso; omega
