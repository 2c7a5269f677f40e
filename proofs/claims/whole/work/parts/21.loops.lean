set_option maxHeartbeats 4000000 in
set_option maxRecDepth 100000 in
theorem tX0_holdsBox (l : Launch) (D : va_G) (kI : ClassId) (kZ : ClassId) (kL : ClassId) (kJ : ClassId) (aK : Nat) (aKs : Nat) (aKt : Nat) (aKb : Nat) (aKz : Nat) (aKl : Nat) (aKc : Nat) (aKu : Nat) (kb : Int → Int) (kz : Int → Int) (kn : Int) (bx : Int) (sz : Nat) (hkn : 0 ≤ kn ∧ kn ≤ 60) (hbx : 0 ≤ bx ∧ bx ≤ 1000000) (hkb : ∀ j, 0 ≤ kb j ∧ kb j ≤ 1000000) (hkz : ∀ j, 0 ≤ kz j ∧ kz j ≤ 1000000) : CtP l yX0_holdsBox wsX0_holdsBox ({ frames := 0, cells := 0, slots := 0, locals := 0 }) D vwCl (tyL kI kZ kL kJ) [(aK, .inr (0, [.ref aKs, .ref aKt, .ref aKb, .ref aKz, .ref aKl, .ref aKc, .ref aKu, .int (iI kn)])), (aKb, .inl (kI, 61, .inl (iF kb))), (aKz, .inl (kI, 61, .inl (iF kz)))] [.ref aK, .int (iI bx)] (iI (bi (¬ sc (pHB kb kz bx) (-1) (kn + 1 - 1).toNat 1 = (-1)))) sz := by
  refine pk_start (cc := cX0_holdsBox) (maxL := 3) (ret := (some .boolean)) (LV := [(0, .ref aK), (1, .int (iI bx))]) (by decide) rfl rfl (Nat.le_of_ble_eq_true rfl) ?_
  intro p e s m below meth cd hadm hx hb hr hml hts hown hlocks hname hnoh hxT A hA hK hP hD hS ls hl
  refine lv_iconst (v := iI 1) hx hb dX0_holdsBox_0 rfl ?_
  refine lv_istore_n (lv' := [(2, .int (iI 1)), (0, .ref aK), (1, .int (iI bx))]) hx hb dX0_holdsBox_1 rfl hl (by decide) rfl (fun ls hl => ?_)
  have loop_2 : ∀ (fu : Nat) (i : Int), (1 ≤ i ∧ i ≤ kn + 1) → (sc (pHB kb kz bx) (-1) (kn + 1 - i).toNat i = sc (pHB kb kz bx) (-1) (kn + 1 - 1).toNat 1) → (kn + 1 - i) < (fu : Int) → ∀ (ls : Array Slot), lv_has ls 3 [(2, .int (iI i)), (0, .ref aK), (1, .int (iI bx))] → W p l e ({ frames := 0, cells := 0, slots := 0, locals := 0 }) s m ([.ref aK, .int (iI bx)] : List Value).toArray below meth cd s.heap [] 0 0 (MQ below (QcRead (iI (bi (¬ sc (pHB kb kz bx) (-1) (kn + 1 - 1).toNat 1 = (-1)))) ) ([.ref aK, .int (iI bx)] : List Value).toArray s 0 0 (fun _ => False)) (F0 m 2 ls []) := by
    intro fu
    induction fu with
    | zero => intro i hi hE hfu; exfalso; omega
    | succ fu ih_2 =>
      intro i hi hE hfu ls hl
      refine lv_iload_n hx hb dX0_holdsBox_2 rfl (lv_at hl 0 rfl) ?_
      refine lv_aload_n hx hb dX0_holdsBox_3 rfl (lv_at hl 1 rfl) ?_
      refine va_get (D := D) (ci := 0) (v := .int (iI kn)) (C := RX0) (T := TX0) (N := 8) hx hb hts (fun w h => (List.mem_cons_of_mem _ (hinX0 w h))) hown hK hP 0 rfl rfl 7 (by decide) (hts _ (List.mem_cons_of_mem _ wd_155)) (fun _ h9 => h9) rfl dX0_holdsBox_4 ?_
      refine wk_icmp_gt (tgt := 38) hx hb dX0_holdsBox_7 (by decide) (by omega) (fun c_1 => ?_) (fun c_1 => ?_)
      · skip
        refine lv_iconst (v := iI 0) hx hb dX0_holdsBox_38 rfl ?_
        exact pk_bool hx hb hr hlocks (by have e9 := hE; rw [sc_end (by omega)] at e9; exact bi_f (fun h => h e9.symm)) dX0_holdsBox_39
      · skip
        refine lv_aload_n hx hb dX0_holdsBox_10 rfl (lv_at hl 1 rfl) ?_
        refine va_get (D := D) (ci := 0) (v := .ref aKb) (C := RX0) (T := TX0) (N := 8) hx hb hts (fun w h => (List.mem_cons_of_mem _ (hinX0 w h))) hown hK hP 0 rfl rfl 2 (by decide) (hts _ (List.mem_cons_of_mem _ wd_145)) (fun _ h9 => h9) rfl dX0_holdsBox_11 ?_
        refine lv_iload_n hx hb dX0_holdsBox_14 rfl (lv_at hl 0 rfl) ?_
        refine wk_iald hx hb hK hP 1 0 rfl rfl (by decide) (by omega) dX0_holdsBox_15 ?_
        have b_2 := hkb i
        refine lv_iload_n hx hb dX0_holdsBox_16 rfl (lv_at hl 2 rfl) ?_
        refine wk_icmp_ne (tgt := 32) hx hb dX0_holdsBox_17 (by decide) (by omega) (fun c_3 => ?_) (fun c_3 => ?_)
        · skip
          refine wk_iinc (k := 0) (lv' := [(2, .int (iI (i + 1))), (0, .ref aK), (1, .int (iI bx))]) hx hb dX0_holdsBox_32 hl rfl (by decide) rfl (fun ls hl => ?_)
          refine lv_goto (tgt := 2) hx hb dX0_holdsBox_35 (by decide) ?_
          exact ih_2 (i + 1) (by first | assumption | omega) (by have e9 := hE; rw [sc_no (by omega) (by simp only [decide_eq_true_eq]; omega)] at e9; exact e9) (by omega) ls (lv_sub hl [0, 1, 2] rfl)
        · skip
          refine lv_aload_n hx hb dX0_holdsBox_20 rfl (lv_at hl 1 rfl) ?_
          refine va_get (D := D) (ci := 0) (v := .ref aKz) (C := RX0) (T := TX0) (N := 8) hx hb hts (fun w h => (List.mem_cons_of_mem _ (hinX0 w h))) hown hK hP 0 rfl rfl 3 (by decide) (hts _ (List.mem_cons_of_mem _ wd_147)) (fun _ h9 => h9) rfl dX0_holdsBox_21 ?_
          refine lv_iload_n hx hb dX0_holdsBox_24 rfl (lv_at hl 0 rfl) ?_
          refine wk_iald hx hb hK hP 2 0 rfl rfl (by decide) (by omega) dX0_holdsBox_25 ?_
          have b_4 := hkz i
          refine lv_iconst (v := iI 3) hx hb dX0_holdsBox_26 rfl ?_
          refine wk_icmp_eq (tgt := 32) hx hb dX0_holdsBox_27 (by decide) (by omega) (fun c_5 => ?_) (fun c_5 => ?_)
          · skip
            refine wk_iinc (k := 0) (lv' := [(2, .int (iI (i + 1))), (0, .ref aK), (1, .int (iI bx))]) hx hb dX0_holdsBox_32 hl rfl (by decide) rfl (fun ls hl => ?_)
            refine lv_goto (tgt := 2) hx hb dX0_holdsBox_35 (by decide) ?_
            exact ih_2 (i + 1) (by first | assumption | omega) (by have e9 := hE; rw [sc_no (by omega) (by simp only [decide_eq_true_eq]; omega)] at e9; exact e9) (by omega) ls (lv_sub hl [0, 1, 2] rfl)
          · skip
            refine lv_iconst (v := iI 1) hx hb dX0_holdsBox_30 rfl ?_
            exact pk_bool hx hb hr hlocks (by have e9 := hE; rw [sc_yes (by omega) (by simp only [decide_eq_true_eq]; omega)] at e9; exact bi_t (by rw [← e9]; omega)) dX0_holdsBox_31
  exact loop_2 (kn + 1 - 1).toNat.succ 1 (by first | assumption | rfl | omega) (by rfl) (by omega) ls (lv_sub hl [0, 1, 2] rfl)

set_option maxHeartbeats 4000000 in
set_option maxRecDepth 100000 in
theorem tX0_holdsTruckIn (l : Launch) (D : va_G) (kI : ClassId) (kZ : ClassId) (kL : ClassId) (kJ : ClassId) (aK : Nat) (aKs : Nat) (aKt : Nat) (aKb : Nat) (aKz : Nat) (aKl : Nat) (aKc : Nat) (aKu : Nat) (kt : Int → Int) (kz : Int → Int) (kn : Int) (tr : Int) (sz : Nat) (hkn : 0 ≤ kn ∧ kn ≤ 60) (htr : 0 ≤ tr ∧ tr ≤ 1000000) (hkt : ∀ j, 0 ≤ kt j ∧ kt j ≤ 1000000) (hkz : ∀ j, 0 ≤ kz j ∧ kz j ≤ 1000000) : CtP l yX0_holdsTruckIn wsX0_holdsTruckIn ({ frames := 0, cells := 0, slots := 0, locals := 0 }) D vwCl (tyL kI kZ kL kJ) [(aK, .inr (0, [.ref aKs, .ref aKt, .ref aKb, .ref aKz, .ref aKl, .ref aKc, .ref aKu, .int (iI kn)])), (aKt, .inl (kI, 61, .inl (iF kt))), (aKz, .inl (kI, 61, .inl (iF kz)))] [.ref aK, .int (iI tr)] (iI (bi (¬ sc (pIN kt kz tr) (-1) (kn + 1 - 1).toNat 1 = (-1)))) sz := by
  refine pk_start (cc := cX0_holdsTruckIn) (maxL := 3) (ret := (some .boolean)) (LV := [(0, .ref aK), (1, .int (iI tr))]) (by decide) rfl rfl (Nat.le_of_ble_eq_true rfl) ?_
  intro p e s m below meth cd hadm hx hb hr hml hts hown hlocks hname hnoh hxT A hA hK hP hD hS ls hl
  refine lv_iconst (v := iI 1) hx hb dX0_holdsTruckIn_0 rfl ?_
  refine lv_istore_n (lv' := [(2, .int (iI 1)), (0, .ref aK), (1, .int (iI tr))]) hx hb dX0_holdsTruckIn_1 rfl hl (by decide) rfl (fun ls hl => ?_)
  have loop_2 : ∀ (fu : Nat) (i : Int), (1 ≤ i ∧ i ≤ kn + 1) → (sc (pIN kt kz tr) (-1) (kn + 1 - i).toNat i = sc (pIN kt kz tr) (-1) (kn + 1 - 1).toNat 1) → (kn + 1 - i) < (fu : Int) → ∀ (ls : Array Slot), lv_has ls 3 [(2, .int (iI i)), (0, .ref aK), (1, .int (iI tr))] → W p l e ({ frames := 0, cells := 0, slots := 0, locals := 0 }) s m ([.ref aK, .int (iI tr)] : List Value).toArray below meth cd s.heap [] 0 0 (MQ below (QcRead (iI (bi (¬ sc (pIN kt kz tr) (-1) (kn + 1 - 1).toNat 1 = (-1)))) ) ([.ref aK, .int (iI tr)] : List Value).toArray s 0 0 (fun _ => False)) (F0 m 2 ls []) := by
    intro fu
    induction fu with
    | zero => intro i hi hE hfu; exfalso; omega
    | succ fu ih_2 =>
      intro i hi hE hfu ls hl
      refine lv_iload_n hx hb dX0_holdsTruckIn_2 rfl (lv_at hl 0 rfl) ?_
      refine lv_aload_n hx hb dX0_holdsTruckIn_3 rfl (lv_at hl 1 rfl) ?_
      refine va_get (D := D) (ci := 0) (v := .int (iI kn)) (C := RX0) (T := TX0) (N := 8) hx hb hts (fun w h => (List.mem_cons_of_mem _ (hinX0 w h))) hown hK hP 0 rfl rfl 7 (by decide) (hts _ (List.mem_cons_of_mem _ wd_155)) (fun _ h9 => h9) rfl dX0_holdsTruckIn_4 ?_
      refine wk_icmp_gt (tgt := 38) hx hb dX0_holdsTruckIn_7 (by decide) (by omega) (fun c_1 => ?_) (fun c_1 => ?_)
      · skip
        refine lv_iconst (v := iI 0) hx hb dX0_holdsTruckIn_38 rfl ?_
        exact pk_bool hx hb hr hlocks (by have e9 := hE; rw [sc_end (by omega)] at e9; exact bi_f (fun h => h e9.symm)) dX0_holdsTruckIn_39
      · skip
        refine lv_aload_n hx hb dX0_holdsTruckIn_10 rfl (lv_at hl 1 rfl) ?_
        refine va_get (D := D) (ci := 0) (v := .ref aKt) (C := RX0) (T := TX0) (N := 8) hx hb hts (fun w h => (List.mem_cons_of_mem _ (hinX0 w h))) hown hK hP 0 rfl rfl 1 (by decide) (hts _ (List.mem_cons_of_mem _ wd_143)) (fun _ h9 => h9) rfl dX0_holdsTruckIn_11 ?_
        refine lv_iload_n hx hb dX0_holdsTruckIn_14 rfl (lv_at hl 0 rfl) ?_
        refine wk_iald hx hb hK hP 1 0 rfl rfl (by decide) (by omega) dX0_holdsTruckIn_15 ?_
        have b_2 := hkt i
        refine lv_iload_n hx hb dX0_holdsTruckIn_16 rfl (lv_at hl 2 rfl) ?_
        refine wk_icmp_ne (tgt := 32) hx hb dX0_holdsTruckIn_17 (by decide) (by omega) (fun c_3 => ?_) (fun c_3 => ?_)
        · skip
          refine wk_iinc (k := 0) (lv' := [(2, .int (iI (i + 1))), (0, .ref aK), (1, .int (iI tr))]) hx hb dX0_holdsTruckIn_32 hl rfl (by decide) rfl (fun ls hl => ?_)
          refine lv_goto (tgt := 2) hx hb dX0_holdsTruckIn_35 (by decide) ?_
          exact ih_2 (i + 1) (by first | assumption | omega) (by have e9 := hE; rw [sc_no (by omega) (by simp only [decide_eq_true_eq]; omega)] at e9; exact e9) (by omega) ls (lv_sub hl [0, 1, 2] rfl)
        · skip
          refine lv_aload_n hx hb dX0_holdsTruckIn_20 rfl (lv_at hl 1 rfl) ?_
          refine va_get (D := D) (ci := 0) (v := .ref aKz) (C := RX0) (T := TX0) (N := 8) hx hb hts (fun w h => (List.mem_cons_of_mem _ (hinX0 w h))) hown hK hP 0 rfl rfl 3 (by decide) (hts _ (List.mem_cons_of_mem _ wd_147)) (fun _ h9 => h9) rfl dX0_holdsTruckIn_21 ?_
          refine lv_iload_n hx hb dX0_holdsTruckIn_24 rfl (lv_at hl 0 rfl) ?_
          refine wk_iald hx hb hK hP 2 0 rfl rfl (by decide) (by omega) dX0_holdsTruckIn_25 ?_
          have b_4 := hkz i
          refine lv_iconst (v := iI 1) hx hb dX0_holdsTruckIn_26 rfl ?_
          refine wk_icmp_ne (tgt := 32) hx hb dX0_holdsTruckIn_27 (by decide) (by omega) (fun c_5 => ?_) (fun c_5 => ?_)
          · skip
            refine wk_iinc (k := 0) (lv' := [(2, .int (iI (i + 1))), (0, .ref aK), (1, .int (iI tr))]) hx hb dX0_holdsTruckIn_32 hl rfl (by decide) rfl (fun ls hl => ?_)
            refine lv_goto (tgt := 2) hx hb dX0_holdsTruckIn_35 (by decide) ?_
            exact ih_2 (i + 1) (by first | assumption | omega) (by have e9 := hE; rw [sc_no (by omega) (by simp only [decide_eq_true_eq]; omega)] at e9; exact e9) (by omega) ls (lv_sub hl [0, 1, 2] rfl)
          · skip
            refine lv_iconst (v := iI 1) hx hb dX0_holdsTruckIn_30 rfl ?_
            exact pk_bool hx hb hr hlocks (by have e9 := hE; rw [sc_yes (by omega) (by simp only [decide_eq_true_eq]; omega)] at e9; exact bi_t (by rw [← e9]; omega)) dX0_holdsTruckIn_31
  exact loop_2 (kn + 1 - 1).toNat.succ 1 (by first | assumption | rfl | omega) (by rfl) (by omega) ls (lv_sub hl [0, 1, 2] rfl)

set_option maxHeartbeats 4000000 in
set_option maxRecDepth 100000 in
theorem tX0_inWithBox (l : Launch) (D : va_G) (kI : ClassId) (kZ : ClassId) (kL : ClassId) (kJ : ClassId) (aK : Nat) (aKs : Nat) (aKt : Nat) (aKb : Nat) (aKz : Nat) (aKl : Nat) (aKc : Nat) (aKu : Nat) (kb : Int → Int) (kz : Int → Int) (kn : Int) (bx : Int) (sz : Nat) (hkn : 0 ≤ kn ∧ kn ≤ 60) (hbx : 0 ≤ bx ∧ bx ≤ 1000000) (hkb : ∀ j, 0 ≤ kb j ∧ kb j ≤ 1000000) (hkz : ∀ j, 0 ≤ kz j ∧ kz j ≤ 1000000) : CtP l yX0_inWithBox wsX0_inWithBox ({ frames := 0, cells := 0, slots := 0, locals := 0 }) D vwCl (tyL kI kZ kL kJ) [(aK, .inr (0, [.ref aKs, .ref aKt, .ref aKb, .ref aKz, .ref aKl, .ref aKc, .ref aKu, .int (iI kn)])), (aKb, .inl (kI, 61, .inl (iF kb))), (aKz, .inl (kI, 61, .inl (iF kz)))] [.ref aK, .int (iI bx)] (iI (sc (pIN kb kz bx) (-1) (kn + 1 - 1).toNat 1)) sz := by
  refine pk_start (cc := cX0_inWithBox) (maxL := 3) (ret := (some .int)) (LV := [(0, .ref aK), (1, .int (iI bx))]) (by decide) rfl rfl (Nat.le_of_ble_eq_true rfl) ?_
  intro p e s m below meth cd hadm hx hb hr hml hts hown hlocks hname hnoh hxT A hA hK hP hD hS ls hl
  refine lv_iconst (v := iI 1) hx hb dX0_inWithBox_0 rfl ?_
  refine lv_istore_n (lv' := [(2, .int (iI 1)), (0, .ref aK), (1, .int (iI bx))]) hx hb dX0_inWithBox_1 rfl hl (by decide) rfl (fun ls hl => ?_)
  have loop_2 : ∀ (fu : Nat) (i : Int), (1 ≤ i ∧ i ≤ kn + 1) → (sc (pIN kb kz bx) (-1) (kn + 1 - i).toNat i = sc (pIN kb kz bx) (-1) (kn + 1 - 1).toNat 1) → (kn + 1 - i) < (fu : Int) → ∀ (ls : Array Slot), lv_has ls 3 [(2, .int (iI i)), (0, .ref aK), (1, .int (iI bx))] → W p l e ({ frames := 0, cells := 0, slots := 0, locals := 0 }) s m ([.ref aK, .int (iI bx)] : List Value).toArray below meth cd s.heap [] 0 0 (MQ below (QcRead (iI (sc (pIN kb kz bx) (-1) (kn + 1 - 1).toNat 1)) ) ([.ref aK, .int (iI bx)] : List Value).toArray s 0 0 (fun _ => False)) (F0 m 2 ls []) := by
    intro fu
    induction fu with
    | zero => intro i hi hE hfu; exfalso; omega
    | succ fu ih_2 =>
      intro i hi hE hfu ls hl
      refine lv_iload_n hx hb dX0_inWithBox_2 rfl (lv_at hl 0 rfl) ?_
      refine lv_aload_n hx hb dX0_inWithBox_3 rfl (lv_at hl 1 rfl) ?_
      refine va_get (D := D) (ci := 0) (v := .int (iI kn)) (C := RX0) (T := TX0) (N := 8) hx hb hts (fun w h => (List.mem_cons_of_mem _ (hinX0 w h))) hown hK hP 0 rfl rfl 7 (by decide) (hts _ (List.mem_cons_of_mem _ wd_155)) (fun _ h9 => h9) rfl dX0_inWithBox_4 ?_
      refine wk_icmp_gt (tgt := 38) hx hb dX0_inWithBox_7 (by decide) (by omega) (fun c_1 => ?_) (fun c_1 => ?_)
      · skip
        refine lv_iconst (v := iI (-1)) hx hb dX0_inWithBox_38 rfl ?_
        exact pk_int hx hb hr hlocks (by have e9 := hE; rw [sc_end (by omega)] at e9; exact e9) dX0_inWithBox_39
      · skip
        refine lv_aload_n hx hb dX0_inWithBox_10 rfl (lv_at hl 1 rfl) ?_
        refine va_get (D := D) (ci := 0) (v := .ref aKb) (C := RX0) (T := TX0) (N := 8) hx hb hts (fun w h => (List.mem_cons_of_mem _ (hinX0 w h))) hown hK hP 0 rfl rfl 2 (by decide) (hts _ (List.mem_cons_of_mem _ wd_145)) (fun _ h9 => h9) rfl dX0_inWithBox_11 ?_
        refine lv_iload_n hx hb dX0_inWithBox_14 rfl (lv_at hl 0 rfl) ?_
        refine wk_iald hx hb hK hP 1 0 rfl rfl (by decide) (by omega) dX0_inWithBox_15 ?_
        have b_2 := hkb i
        refine lv_iload_n hx hb dX0_inWithBox_16 rfl (lv_at hl 2 rfl) ?_
        refine wk_icmp_ne (tgt := 32) hx hb dX0_inWithBox_17 (by decide) (by omega) (fun c_3 => ?_) (fun c_3 => ?_)
        · skip
          refine wk_iinc (k := 0) (lv' := [(2, .int (iI (i + 1))), (0, .ref aK), (1, .int (iI bx))]) hx hb dX0_inWithBox_32 hl rfl (by decide) rfl (fun ls hl => ?_)
          refine lv_goto (tgt := 2) hx hb dX0_inWithBox_35 (by decide) ?_
          exact ih_2 (i + 1) (by first | assumption | omega) (by have e9 := hE; rw [sc_no (by omega) (by simp only [decide_eq_true_eq]; omega)] at e9; exact e9) (by omega) ls (lv_sub hl [0, 1, 2] rfl)
        · skip
          refine lv_aload_n hx hb dX0_inWithBox_20 rfl (lv_at hl 1 rfl) ?_
          refine va_get (D := D) (ci := 0) (v := .ref aKz) (C := RX0) (T := TX0) (N := 8) hx hb hts (fun w h => (List.mem_cons_of_mem _ (hinX0 w h))) hown hK hP 0 rfl rfl 3 (by decide) (hts _ (List.mem_cons_of_mem _ wd_147)) (fun _ h9 => h9) rfl dX0_inWithBox_21 ?_
          refine lv_iload_n hx hb dX0_inWithBox_24 rfl (lv_at hl 0 rfl) ?_
          refine wk_iald hx hb hK hP 2 0 rfl rfl (by decide) (by omega) dX0_inWithBox_25 ?_
          have b_4 := hkz i
          refine lv_iconst (v := iI 1) hx hb dX0_inWithBox_26 rfl ?_
          refine wk_icmp_ne (tgt := 32) hx hb dX0_inWithBox_27 (by decide) (by omega) (fun c_5 => ?_) (fun c_5 => ?_)
          · skip
            refine wk_iinc (k := 0) (lv' := [(2, .int (iI (i + 1))), (0, .ref aK), (1, .int (iI bx))]) hx hb dX0_inWithBox_32 hl rfl (by decide) rfl (fun ls hl => ?_)
            refine lv_goto (tgt := 2) hx hb dX0_inWithBox_35 (by decide) ?_
            exact ih_2 (i + 1) (by first | assumption | omega) (by have e9 := hE; rw [sc_no (by omega) (by simp only [decide_eq_true_eq]; omega)] at e9; exact e9) (by omega) ls (lv_sub hl [0, 1, 2] rfl)
          · skip
            refine lv_iload_n hx hb dX0_inWithBox_30 rfl (lv_at hl 0 rfl) ?_
            exact pk_int hx hb hr hlocks (by have e9 := hE; rw [sc_yes (by omega) (by simp only [decide_eq_true_eq]; omega)] at e9; exact e9) dX0_inWithBox_31
  exact loop_2 (kn + 1 - 1).toNat.succ 1 (by first | assumption | rfl | omega) (by rfl) (by omega) ls (lv_sub hl [0, 1, 2] rfl)

set_option maxHeartbeats 4000000 in
set_option maxRecDepth 100000 in
theorem tX1_isNumberOf (l : Launch) (D : va_G) (kI : ClassId) (kZ : ClassId) (kL : ClassId) (kJ : ClassId) (aB : Nat) (aBs : Nat) (aBw : Nat) (aBd : Nat) (aBv : Nat) (an : Nat) (bs : Int → Int) (nu : Int → Int) (bn : Int) (bx : Int) (sz : Nat) (hbx : 0 ≤ bx ∧ bx < 20) (hbs : ∀ j, 0 ≤ bs j ∧ bs j ≤ 1000000) (hnu : ∀ j, 0 ≤ nu j ∧ nu j ≤ 1000000) : CtP l yX1_isNumberOf wsX1_isNumberOf ({ frames := 0, cells := 0, slots := 0, locals := 0 }) D vwCl (tyL kI kZ kL kJ) [(aB, .inr (1, [.ref aBs, .ref aBw, .ref aBd, .ref aBv, .int (iI bn)])), (aBs, .inl (kI, 200, .inl (iF bs))), (an, .inl (kI, 11, .inl (iF nu)))] [.ref aB, .int (iI bx), .ref an] (iI (bi (sc (pDF bs nu bx) (-1) ((9 : Int) + 1 - 0).toNat 0 = (-1)))) sz := by
  refine pk_start (cc := cX1_isNumberOf) (maxL := 4) (ret := (some .boolean)) (LV := [(0, .ref aB), (1, .int (iI bx)), (2, .ref an)]) (by decide) rfl rfl (Nat.le_of_ble_eq_true rfl) ?_
  intro p e s m below meth cd hadm hx hb hr hml hts hown hlocks hname hnoh hxT A hA hK hP hD hS ls hl
  refine lv_iconst (v := iI 0) hx hb dX1_isNumberOf_0 rfl ?_
  refine lv_istore_n (lv' := [(3, .int (iI 0)), (0, .ref aB), (1, .int (iI bx)), (2, .ref an)]) hx hb dX1_isNumberOf_1 rfl hl (by decide) rfl (fun ls hl => ?_)
  have loop_2 : ∀ (fu : Nat) (i : Int), (0 ≤ i ∧ i ≤ (9 : Int) + 1) → (sc (pDF bs nu bx) (-1) ((9 : Int) + 1 - i).toNat i = sc (pDF bs nu bx) (-1) ((9 : Int) + 1 - 0).toNat 0) → ((9 : Int) + 1 - i) < (fu : Int) → ∀ (ls : Array Slot), lv_has ls 4 [(3, .int (iI i)), (0, .ref aB), (1, .int (iI bx)), (2, .ref an)] → W p l e ({ frames := 0, cells := 0, slots := 0, locals := 0 }) s m ([.ref aB, .int (iI bx), .ref an] : List Value).toArray below meth cd s.heap [] 0 0 (MQ below (QcRead (iI (bi (sc (pDF bs nu bx) (-1) ((9 : Int) + 1 - 0).toNat 0 = (-1)))) ) ([.ref aB, .int (iI bx), .ref an] : List Value).toArray s 0 0 (fun _ => False)) (F0 m 2 ls []) := by
    intro fu
    induction fu with
    | zero => intro i hi hE hfu; exfalso; omega
    | succ fu ih_2 =>
      intro i hi hE hfu ls hl
      refine lv_iload_n hx hb dX1_isNumberOf_2 rfl (lv_at hl 0 rfl) ?_
      refine lv_bipush (v := iI 10) hx hb dX1_isNumberOf_3 (by decide) ?_
      refine wk_icmp_ge (tgt := 39) hx hb dX1_isNumberOf_5 (by decide) (by omega) (fun c_1 => ?_) (fun c_1 => ?_)
      · skip
        refine lv_iconst (v := iI 1) hx hb dX1_isNumberOf_39 rfl ?_
        exact pk_bool hx hb hr hlocks (by have e9 := hE; rw [sc_end (by omega)] at e9; exact bi_t e9.symm) dX1_isNumberOf_40
      · skip
        refine lv_iload_n hx hb dX1_isNumberOf_8 rfl (lv_at hl 0 rfl) ?_
        refine lv_aload_n hx hb dX1_isNumberOf_9 rfl (lv_at hl 3 rfl) ?_
        refine va_alen (v := iI 11) hx hb hK hP 2 0 rfl rfl (show Int32.ofNat 11 = iI 11 by decide) dX1_isNumberOf_10 ?_
        refine wk_icmp_ge (tgt := 39) hx hb dX1_isNumberOf_11 (by decide) (by omega) (fun c_2 => ?_) (fun c_2 => ?_)
        · skip
          exfalso; omega
        · skip
          refine lv_aload_n hx hb dX1_isNumberOf_14 rfl (lv_at hl 1 rfl) ?_
          refine va_get (D := D) (ci := 1) (v := .ref aBs) (C := RX1) (T := TX1) (N := 5) hx hb hts (fun w h => (List.mem_cons_of_mem _ (hinX1 w h))) hown hK hP 0 rfl rfl 0 (by decide) (hts _ (List.mem_cons_of_mem _ wd_78)) (fun _ h9 => h9) rfl dX1_isNumberOf_15 ?_
          refine lv_iload_n hx hb dX1_isNumberOf_18 rfl (lv_at hl 2 rfl) ?_
          refine lv_bipush (v := iI 10) hx hb dX1_isNumberOf_19 (by decide) ?_
          refine wk_imul hx hb dX1_isNumberOf_21 ?_
          refine lv_iload_n hx hb dX1_isNumberOf_22 rfl (lv_at hl 0 rfl) ?_
          refine wk_iadd hx hb dX1_isNumberOf_23 ?_
          refine wk_iald hx hb hK hP 1 0 rfl rfl (by decide) (by omega) dX1_isNumberOf_24 ?_
          have b_3 := hbs ((bx * 10) + i)
          refine lv_aload_n hx hb dX1_isNumberOf_25 rfl (lv_at hl 3 rfl) ?_
          refine lv_iload_n hx hb dX1_isNumberOf_26 rfl (lv_at hl 0 rfl) ?_
          refine wk_iald hx hb hK hP 2 0 rfl rfl (by decide) (by omega) dX1_isNumberOf_27 ?_
          have b_4 := hnu i
          refine wk_icmp_eq (tgt := 33) hx hb dX1_isNumberOf_28 (by decide) (by omega) (fun c_5 => ?_) (fun c_5 => ?_)
          · skip
            refine wk_iinc (k := 0) (lv' := [(3, .int (iI (i + 1))), (0, .ref aB), (1, .int (iI bx)), (2, .ref an)]) hx hb dX1_isNumberOf_33 hl rfl (by decide) rfl (fun ls hl => ?_)
            refine lv_goto (tgt := 2) hx hb dX1_isNumberOf_36 (by decide) ?_
            exact ih_2 (i + 1) (by first | assumption | omega) (by have e9 := hE; rw [sc_no (by omega) (by simp only [decide_eq_true_eq]; omega)] at e9; exact e9) (by omega) ls (lv_sub hl [0, 1, 2, 3] rfl)
          · skip
            refine lv_iconst (v := iI 0) hx hb dX1_isNumberOf_31 rfl ?_
            exact pk_bool hx hb hr hlocks (by have e9 := hE; rw [sc_yes (by omega) (by simp only [decide_eq_true_eq]; omega)] at e9; exact bi_f (by rw [← e9]; omega)) dX1_isNumberOf_32
  exact loop_2 ((9 : Int) + 1 - 0).toNat.succ 0 (by first | assumption | rfl | omega) (by rfl) (by omega) ls (lv_sub hl [0, 1, 2, 3] rfl)

set_option maxHeartbeats 4000000 in
set_option maxRecDepth 100000 in
theorem tX1_hasNumber (l : Launch) (D : va_G) (kI : ClassId) (kZ : ClassId) (kL : ClassId) (kJ : ClassId) (aB : Nat) (aBs : Nat) (aBw : Nat) (aBd : Nat) (aBv : Nat) (an : Nat) (bs : Int → Int) (nu : Int → Int) (bn : Int) (sz : Nat) (hbn : 0 ≤ bn ∧ bn ≤ 20) (hbs : ∀ j, 0 ≤ bs j ∧ bs j ≤ 1000000) (hnu : ∀ j, 0 ≤ nu j ∧ nu j ≤ 1000000) : CtP l yX1_hasNumber wsX1_hasNumber ({ frames := 1, cells := 0, slots := 0, locals := 23 }) D vwCl (tyL kI kZ kL kJ) [(aB, .inr (1, [.ref aBs, .ref aBw, .ref aBd, .ref aBv, .int (iI bn)])), (aBs, .inl (kI, 200, .inl (iF bs))), (an, .inl (kI, 11, .inl (iF nu)))] [.ref aB, .ref an] (iI (bi (¬ sc (pNB bs nu) (-1) ((bn - 1) + 1 - 0).toNat 0 = (-1)))) sz := by
  refine pk_start (cc := cX1_hasNumber) (maxL := 3) (ret := (some .boolean)) (LV := [(0, .ref aB), (1, .ref an)]) (by decide) rfl rfl (Nat.le_of_ble_eq_true rfl) ?_
  intro p e s m below meth cd hadm hx hb hr hml hts hown hlocks hname hnoh hxT A hA hK hP hD hS ls hl
  refine lv_iconst (v := iI 0) hx hb dX1_hasNumber_0 rfl ?_
  refine lv_istore_n (lv' := [(2, .int (iI 0)), (0, .ref aB), (1, .ref an)]) hx hb dX1_hasNumber_1 rfl hl (by decide) rfl (fun ls hl => ?_)
  have loop_2 : ∀ (fu : Nat) (i : Int), (0 ≤ i ∧ i ≤ (bn - 1) + 1) → (sc (pNB bs nu) (-1) ((bn - 1) + 1 - i).toNat i = sc (pNB bs nu) (-1) ((bn - 1) + 1 - 0).toNat 0) → ((bn - 1) + 1 - i) < (fu : Int) → ∀ (ls : Array Slot), lv_has ls 3 [(2, .int (iI i)), (0, .ref aB), (1, .ref an)] → W p l e ({ frames := 1, cells := 0, slots := 0, locals := 23 }) s m ([.ref aB, .ref an] : List Value).toArray below meth cd s.heap [] 0 0 (MQ below (QcRead (iI (bi (¬ sc (pNB bs nu) (-1) ((bn - 1) + 1 - 0).toNat 0 = (-1)))) ) ([.ref aB, .ref an] : List Value).toArray s 0 0 (fun _ => False)) (F0 m 2 ls []) := by
    intro fu
    induction fu with
    | zero => intro i hi hE hfu; exfalso; omega
    | succ fu ih_2 =>
      intro i hi hE hfu ls hl
      refine lv_iload_n hx hb dX1_hasNumber_2 rfl (lv_at hl 0 rfl) ?_
      refine lv_aload_n hx hb dX1_hasNumber_3 rfl (lv_at hl 1 rfl) ?_
      refine va_get (D := D) (ci := 1) (v := .int (iI bn)) (C := RX1) (T := TX1) (N := 5) hx hb hts (fun w h => (List.mem_cons_of_mem _ (hinX1 w h))) hown hK hP 0 rfl rfl 4 (by decide) (hts _ (List.mem_cons_of_mem _ wd_85)) (fun _ h9 => h9) rfl dX1_hasNumber_4 ?_
      refine wk_icmp_ge (tgt := 27) hx hb dX1_hasNumber_7 (by decide) (by omega) (fun c_1 => ?_) (fun c_1 => ?_)
      · skip
        refine lv_iconst (v := iI 0) hx hb dX1_hasNumber_27 rfl ?_
        exact pk_bool hx hb hr hlocks (by have e9 := hE; rw [sc_end (by omega)] at e9; exact bi_f (fun h => h e9.symm)) dX1_hasNumber_28
      · skip
        refine lv_aload_n hx hb dX1_hasNumber_10 rfl (lv_at hl 1 rfl) ?_
        refine lv_iload_n hx hb dX1_hasNumber_11 rfl (lv_at hl 0 rfl) ?_
        refine lv_aload_n hx hb dX1_hasNumber_12 rfl (lv_at hl 2 rfl) ?_
        refine pk_callI (va_runV (As := [.int (iI i), .ref an]) (rest := []) ⟨hx, hb, hml, hown, hts⟩ (tX1_isNumberOf l D kI kZ kL kJ aB aBs aBw aBd aBv an bs nu bn i s.heap.size (by first | assumption | omega) (by first | assumption | omega) (by first | assumption | omega)) (cwV 2 hts (gd_V tb_cons wd_394 wd_396 wd_1 wd_35 wd_397) rfl rfl rfl (by decide +kernel) ⟨Nat.le_of_ble_eq_true rfl, Nat.le_of_ble_eq_true rfl⟩) (ck_preV hxT hK hP hD [0, 1, 2] rfl (by decide) (q0 := 0) rfl rfl rfl) rfl rfl hl.1 rfl (lv_room (Nat.le_of_ble_eq_true rfl)) dX1_hasNumber_13 ⟨Nat.zero_le _, Nat.zero_le _⟩) ?_
        refine wk_bif_eq (tgt := 21) hx hb dX1_hasNumber_16 (by decide) (fun c_2 => ?_) (fun c_2 => ?_)
        · skip
          refine wk_iinc (k := 0) (lv' := [(2, .int (iI (i + 1))), (0, .ref aB), (1, .ref an)]) hx hb dX1_hasNumber_21 hl rfl (by decide) rfl (fun ls hl => ?_)
          refine lv_goto (tgt := 2) hx hb dX1_hasNumber_24 (by decide) ?_
          exact ih_2 (i + 1) (by first | assumption | omega) (by have e9 := hE; rw [sc_no (by omega) (by simp only [decide_eq_true_eq]; assumption)] at e9; exact e9) (by omega) ls (lv_sub hl [0, 1, 2] rfl)
        · skip
          refine lv_iconst (v := iI 1) hx hb dX1_hasNumber_19 rfl ?_
          exact pk_bool hx hb hr hlocks (by have e9 := hE; rw [sc_yes (by omega) (by simp only [decide_eq_true_eq]; assumption)] at e9; exact bi_t (by rw [← e9]; omega)) dX1_hasNumber_20
  exact loop_2 ((bn - 1) + 1 - 0).toNat.succ 0 (by first | assumption | rfl | omega) (by rfl) (by omega) ls (lv_sub hl [0, 1, 2] rfl)

set_option maxHeartbeats 4000000 in
set_option maxRecDepth 100000 in
theorem tX4_nextWithRoom (l : Launch) (D : va_G) (kI : ClassId) (kZ : ClassId) (kL : ClassId) (kJ : ClassId) (aS : Nat) (aSt : Nat) (tk : Int → Int) (sn : Int) (sm : Int) (sl : Int) (sz : Nat) (hsl : 0 ≤ sl ∧ sl < sn) (hsn : 1 ≤ sn ∧ sn ≤ 24) (hsm : 1 ≤ sm ∧ sm ≤ 8) (htk : ∀ j, 0 ≤ tk j ∧ tk j ≤ 1000000) : CtP l yX4_nextWithRoom wsX4_nextWithRoom ({ frames := 1, cells := 0, slots := 0, locals := 21 }) D vwCl (tyL kI kZ kL kJ) [(aS, .inr (4, [.ref aSt, .int (iI sn), .int (iI sm)])), (aSt, .inl (kI, 24, .inl (iF tk)))] [.ref aS, .int (iI sl)] (iI (sc (pRM tk sm) sn ((sn - 1) + 1 - (sl + 1)).toNat (sl + 1))) sz := by
  refine pk_start (cc := cX4_nextWithRoom) (maxL := 3) (ret := (some .int)) (LV := [(0, .ref aS), (1, .int (iI sl))]) (by decide) rfl rfl (Nat.le_of_ble_eq_true rfl) ?_
  intro p e s m below meth cd hadm hx hb hr hml hts hown hlocks hname hnoh hxT A hA hK hP hD hS ls hl
  refine lv_iload_n hx hb dX4_nextWithRoom_0 rfl (lv_at hl 1 rfl) ?_
  refine lv_iconst (v := iI 1) hx hb dX4_nextWithRoom_1 rfl ?_
  refine wk_iadd hx hb dX4_nextWithRoom_2 ?_
  refine lv_istore_n (lv' := [(2, .int (iI (sl + 1))), (0, .ref aS), (1, .int (iI sl))]) hx hb dX4_nextWithRoom_3 rfl hl (by decide) rfl (fun ls hl => ?_)
  have loop_4 : ∀ (fu : Nat) (i : Int), (sl + 1 ≤ i ∧ i ≤ (sn - 1) + 1) → (sc (pRM tk sm) sn ((sn - 1) + 1 - i).toNat i = sc (pRM tk sm) sn ((sn - 1) + 1 - (sl + 1)).toNat (sl + 1)) → ((sn - 1) + 1 - i) < (fu : Int) → ∀ (ls : Array Slot), lv_has ls 3 [(2, .int (iI i)), (0, .ref aS), (1, .int (iI sl))] → W p l e ({ frames := 1, cells := 0, slots := 0, locals := 21 }) s m ([.ref aS, .int (iI sl)] : List Value).toArray below meth cd s.heap [] 0 0 (MQ below (QcRead (iI (sc (pRM tk sm) sn ((sn - 1) + 1 - (sl + 1)).toNat (sl + 1))) ) ([.ref aS, .int (iI sl)] : List Value).toArray s 0 0 (fun _ => False)) (F0 m 4 ls []) := by
    intro fu
    induction fu with
    | zero => intro i hi hE hfu; exfalso; omega
    | succ fu ih_4 =>
      intro i hi hE hfu ls hl
      refine lv_iload_n hx hb dX4_nextWithRoom_4 rfl (lv_at hl 0 rfl) ?_
      refine lv_aload_n hx hb dX4_nextWithRoom_5 rfl (lv_at hl 1 rfl) ?_
      refine va_get (D := D) (ci := 4) (v := .int (iI sn)) (C := RX4) (T := TX4) (N := 3) hx hb hts (fun w h => (List.mem_cons_of_mem _ (hinX4 w h))) hown hK hP 0 rfl rfl 1 (by decide) (hts _ (List.mem_cons_of_mem _ wd_126)) (fun _ h9 => h9) rfl dX4_nextWithRoom_6 ?_
      refine wk_icmp_ge (tgt := 28) hx hb dX4_nextWithRoom_9 (by decide) (by omega) (fun c_1 => ?_) (fun c_1 => ?_)
      · skip
        refine lv_aload_n hx hb dX4_nextWithRoom_28 rfl (lv_at hl 1 rfl) ?_
        refine va_get (D := D) (ci := 4) (v := .int (iI sn)) (C := RX4) (T := TX4) (N := 3) hx hb hts (fun w h => (List.mem_cons_of_mem _ (hinX4 w h))) hown hK hP 0 rfl rfl 1 (by decide) (hts _ (List.mem_cons_of_mem _ wd_126)) (fun _ h9 => h9) rfl dX4_nextWithRoom_29 ?_
        exact pk_int hx hb hr hlocks (by have e9 := hE; rw [sc_end (by omega)] at e9; exact e9) dX4_nextWithRoom_32
      · skip
        refine lv_aload_n hx hb dX4_nextWithRoom_12 rfl (lv_at hl 1 rfl) ?_
        refine lv_iload_n hx hb dX4_nextWithRoom_13 rfl (lv_at hl 0 rfl) ?_
        refine pk_callI (va_runV (As := [.int (iI i)]) (rest := []) ⟨hx, hb, hml, hown, hts⟩ (tX4_hasRoom l D kI kZ kL kJ aS aSt tk sn sm i s.heap.size (by first | assumption | omega) (by first | assumption | omega) (by first | assumption | omega)) (cwV 1 hts (gd_V tb_cons wd_494 wd_483 wd_484 wd_37 wd_485) rfl rfl rfl (by decide +kernel) ⟨Nat.le_of_ble_eq_true rfl, Nat.le_of_ble_eq_true rfl⟩) (ck_preV hxT hK hP hD [0, 1] rfl (by decide) (q0 := 0) rfl rfl rfl) rfl rfl hl.1 rfl (lv_room (Nat.le_of_ble_eq_true rfl)) dX4_nextWithRoom_14 ⟨Nat.zero_le _, Nat.zero_le _⟩) ?_
        refine wk_bif_eq (tgt := 22) hx hb dX4_nextWithRoom_17 (by decide) (fun c_2 => ?_) (fun c_2 => ?_)
        · skip
          refine wk_iinc (k := 0) (lv' := [(2, .int (iI (i + 1))), (0, .ref aS), (1, .int (iI sl))]) hx hb dX4_nextWithRoom_22 hl rfl (by decide) rfl (fun ls hl => ?_)
          refine lv_goto (tgt := 4) hx hb dX4_nextWithRoom_25 (by decide) ?_
          exact ih_4 (i + 1) (by first | assumption | omega) (by have e9 := hE; rw [sc_no (by omega) (by simp only [decide_eq_true_eq]; assumption)] at e9; exact e9) (by omega) ls (lv_sub hl [0, 1, 2] rfl)
        · skip
          refine lv_iload_n hx hb dX4_nextWithRoom_20 rfl (lv_at hl 0 rfl) ?_
          exact pk_int hx hb hr hlocks (by have e9 := hE; rw [sc_yes (by omega) (by simp only [decide_eq_true_eq]; assumption)] at e9; exact e9) dX4_nextWithRoom_21
  exact loop_4 ((sn - 1) + 1 - (sl + 1)).toNat.succ (sl + 1) (by first | assumption | rfl | omega) (by rfl) (by omega) ls (lv_sub hl [0, 1, 2] rfl)

set_option maxHeartbeats 4000000 in
set_option maxRecDepth 100000 in
theorem tX3_checkLetter (l : Launch) (D : va_G) (kI : ClassId) (kZ : ClassId) (kL : ClassId) (kJ : ClassId) (aR : Nat) (aRs : Nat) (rs : Int → Int) (rn : Int) (sz : Nat) (hrn : 10 ≤ rn ∧ rn ≤ 11) (hrs : ∀ j, 0 ≤ rs j ∧ rs j ≤ 1000000) (hws : ∀ j, 0 ≤ j → j < 10 → 0 ≤ wrt (rs j) ∧ wrt (rs j) ≤ 26) : CtP l yX3_checkLetter wsX3_checkLetter ({ frames := 2, cells := 0, slots := 0, locals := 40 }) D vwCl (tyL kI kZ kL kJ) [(aR, .inr (3, [.ref aRs, .int (iI rn)])), (aRs, .inl (kI, 11, .inl (iF rs)))] [.ref aR] (iI (65 + ckS rs 10 % 26)) sz := by
  refine pk_start (cc := cX3_checkLetter) (maxL := 3) (ret := (some .int)) (LV := [(0, .ref aR)]) (by decide) rfl rfl (Nat.le_of_ble_eq_true rfl) ?_
  intro p e s m below meth cd hadm hx hb hr hml hts hown hlocks hname hnoh hxT A hA hK hP hD hS ls hl
  refine lv_aload_n hx hb dX3_checkLetter_0 rfl (lv_at hl 0 rfl) ?_
  refine va_get (D := D) (ci := 3) (v := .int (iI rn)) (C := RX3) (T := TX3) (N := 2) hx hb hts (fun w h => (List.mem_cons_of_mem _ (hinX3 w h))) hown hK hP 0 rfl rfl 1 (by decide) (hts _ (List.mem_cons_of_mem _ wd_64)) (fun _ h9 => h9) rfl dX3_checkLetter_1 ?_
  refine lv_bipush (v := iI 10) hx hb dX3_checkLetter_4 (by decide) ?_
  refine wk_icmp_ge (tgt := 11) hx hb dX3_checkLetter_6 (by decide) (by omega) (fun c_1 => ?_) (fun c_1 => ?_)
  · skip
    refine lv_iconst (v := iI 0) hx hb dX3_checkLetter_11 rfl ?_
    refine lv_istore_n (lv' := [(1, .int (iI 0)), (0, .ref aR)]) hx hb dX3_checkLetter_12 rfl hl (by decide) rfl (fun ls hl => ?_)
    refine lv_iconst (v := iI 0) hx hb dX3_checkLetter_13 rfl ?_
    refine lv_istore_n (lv' := [(2, .int (iI 0)), (1, .int (iI 0)), (0, .ref aR)]) hx hb dX3_checkLetter_14 rfl hl (by decide) rfl (fun ls hl => ?_)
    have loop_15 : ∀ (fu : Nat) (x : Int) (i : Int), (0 ≤ i ∧ i ≤ 10) → (x = ckS rs i.toNat) → (0 ≤ x ∧ x ≤ 260 * i) → ((10 : Int) - i) < (fu : Int) → ∀ (ls : Array Slot), lv_has ls 3 [(2, .int (iI i)), (1, .int (iI x)), (0, .ref aR)] → W p l e ({ frames := 2, cells := 0, slots := 0, locals := 40 }) s m ([.ref aR] : List Value).toArray below meth cd s.heap [] 0 0 (MQ below (QcRead (iI (65 + ckS rs 10 % 26)) ) ([.ref aR] : List Value).toArray s 0 0 (fun _ => False)) (F0 m 15 ls []) := by
      intro fu
      induction fu with
      | zero => intro x i hi hE hB hfu; exfalso; omega
      | succ fu ih_15 =>
        intro x i hi hE hB hfu ls hl
        refine lv_iload_n hx hb dX3_checkLetter_15 rfl (lv_at hl 0 rfl) ?_
        refine lv_bipush (v := iI 10) hx hb dX3_checkLetter_16 (by decide) ?_
        refine wk_icmp_ge (tgt := 43) hx hb dX3_checkLetter_18 (by decide) (by omega) (fun c_2 => ?_) (fun c_2 => ?_)
        · skip
          refine lv_bipush (v := iI 65) hx hb dX3_checkLetter_43 (by decide) ?_
          refine lv_iload_n hx hb dX3_checkLetter_45 rfl (lv_at hl 1 rfl) ?_
          refine lv_bipush (v := iI 26) hx hb dX3_checkLetter_46 (by decide) ?_
          refine wk_irem hx hb dX3_checkLetter_48 (by omega) ?_
          refine wk_iadd hx hb dX3_checkLetter_49 ?_
          exact pk_int hx hb hr hlocks (by rw [hE, show i = 10 by omega]; rfl) dX3_checkLetter_50
        · skip
          refine lv_iload_n hx hb dX3_checkLetter_21 rfl (lv_at hl 1 rfl) ?_
          refine lv_aload_n hx hb dX3_checkLetter_22 rfl (lv_at hl 2 rfl) ?_
          refine va_get (D := D) (ci := 3) (v := .ref aRs) (C := RX3) (T := TX3) (N := 2) hx hb hts (fun w h => (List.mem_cons_of_mem _ (hinX3 w h))) hown hK hP 0 rfl rfl 0 (by decide) (hts _ (List.mem_cons_of_mem _ wd_62)) (fun _ h9 => h9) rfl dX3_checkLetter_23 ?_
          refine lv_iload_n hx hb dX3_checkLetter_26 rfl (lv_at hl 0 rfl) ?_
          refine wk_iald hx hb hK hP 1 0 rfl rfl (by decide) (by omega) dX3_checkLetter_27 ?_
          have b_3 := hrs i
          refine pk_callI (va_runS (As := [.int (iI (rs i))]) (rest := [.int (iI x)]) ⟨hx, hb, hml, hown, hts⟩ (tX3_worth l D kI kZ kL kJ (rs i) s.heap.size (by first | assumption | omega)) (cwS 1 hts (gd_S tb_cons wd_235 wd_236 wd_34 wd_237) rfl rfl rfl (by decide +kernel) ⟨Nat.le_of_ble_eq_true rfl, Nat.le_of_ble_eq_true rfl⟩) (ck_preS hxT hK hP hD [] rfl (by decide)) rfl rfl hl.1 rfl (lv_room (Nat.le_of_ble_eq_true rfl)) dX3_checkLetter_28 ⟨Nat.zero_le _, Nat.zero_le _⟩) ?_
          refine lv_iload_n hx hb dX3_checkLetter_31 rfl (lv_at hl 0 rfl) ?_
          refine lv_iconst (v := iI 1) hx hb dX3_checkLetter_32 rfl ?_
          refine wk_iadd hx hb dX3_checkLetter_33 ?_
          refine wk_imul hx hb dX3_checkLetter_34 ?_
          refine wk_iadd hx hb dX3_checkLetter_35 ?_
          refine lv_istore_n (lv' := [(1, .int (iI (x + ((wrt (rs i)) * (i + 1))))), (2, .int (iI i)), (0, .ref aR)]) hx hb dX3_checkLetter_36 rfl hl (by decide) rfl (fun ls hl => ?_)
          refine wk_iinc (k := 1) (lv' := [(2, .int (iI (i + 1))), (1, .int (iI (x + ((wrt (rs i)) * (i + 1))))), (0, .ref aR)]) hx hb dX3_checkLetter_37 hl rfl (by decide) rfl (fun ls hl => ?_)
          refine lv_goto (tgt := 15) hx hb dX3_checkLetter_40 (by decide) ?_
          exact ih_15 (x + ((wrt (rs i)) * (i + 1))) (i + 1) (by first | assumption | omega) (by rw [ckS_step rs (by omega), ← hE]) (by have e8 := hws i (by omega) (by omega); have e9 := Int.mul_le_mul e8.2 (show i + 1 ≤ 10 by omega) (by omega) (by omega); have e7 := Int.mul_nonneg e8.1 (show 0 ≤ i + 1 by omega); omega) (by omega) ls (lv_sub hl [0, 1, 2] rfl)
    exact loop_15 ((10 : Int) - 0).toNat.succ 0 0 (by first | assumption | rfl | omega) (by first | assumption | rfl | omega) (by first | assumption | rfl | omega) (by omega) ls (lv_sub hl [0, 1, 2] rfl)
  · skip
    exfalso; omega

set_option maxHeartbeats 4000000 in
set_option maxRecDepth 100000 in
theorem tX3_checkLetter_n (l : Launch) (D : va_G) (kI : ClassId) (kZ : ClassId) (kL : ClassId) (kJ : ClassId) (aR : Nat) (aRs : Nat) (rn : Int) (sz : Nat) (hrn : 0 ≤ rn ∧ rn < 10) : CtP l yX3_checkLetter wsX3_checkLetter ({ frames := 0, cells := 0, slots := 0, locals := 0 }) D vwCl (tyL kI kZ kL kJ) [(aR, .inr (3, [.ref aRs, .int (iI rn)]))] [.ref aR] (iI (-1)) sz := by
  refine pk_start (cc := cX3_checkLetter) (maxL := 3) (ret := (some .int)) (LV := [(0, .ref aR)]) (by decide) rfl rfl (Nat.le_of_ble_eq_true rfl) ?_
  intro p e s m below meth cd hadm hx hb hr hml hts hown hlocks hname hnoh hxT A hA hK hP hD hS ls hl
  refine lv_aload_n hx hb dX3_checkLetter_0 rfl (lv_at hl 0 rfl) ?_
  refine va_get (D := D) (ci := 3) (v := .int (iI rn)) (C := RX3) (T := TX3) (N := 2) hx hb hts (fun w h => (List.mem_cons_of_mem _ (hinX3 w h))) hown hK hP 0 rfl rfl 1 (by decide) (hts _ (List.mem_cons_of_mem _ wd_64)) (fun _ h9 => h9) rfl dX3_checkLetter_1 ?_
  refine lv_bipush (v := iI 10) hx hb dX3_checkLetter_4 (by decide) ?_
  refine wk_icmp_ge (tgt := 11) hx hb dX3_checkLetter_6 (by decide) (by omega) (fun c_1 => ?_) (fun c_1 => ?_)
  · skip
    exfalso; omega
  · skip
    refine lv_iconst (v := iI (-1)) hx hb dX3_checkLetter_9 rfl ?_
    exact pk_int hx hb hr hlocks (by first | rfl | omega) dX3_checkLetter_10

set_option maxHeartbeats 4000000 in
set_option maxRecDepth 100000 in
theorem tX3_endsWithCheckLetter (l : Launch) (D : va_G) (kI : ClassId) (kZ : ClassId) (kL : ClassId) (kJ : ClassId) (aR : Nat) (aRs : Nat) (rs : Int → Int) (rn : Int) (sz : Nat) (hrn : rn = 11) (hrs : ∀ j, 0 ≤ rs j ∧ rs j ≤ 1000000) (hws : ∀ j, 0 ≤ j → j < 10 → 0 ≤ wrt (rs j) ∧ wrt (rs j) ≤ 26) : CtP l yX3_endsWithCheckLetter wsX3_endsWithCheckLetter ({ frames := 3, cells := 0, slots := 0, locals := 62 }) D vwCl (tyL kI kZ kL kJ) [(aR, .inr (3, [.ref aRs, .int (iI rn)])), (aRs, .inl (kI, 11, .inl (iF rs)))] [.ref aR] (iI (bi (rs 10 = 65 + ckS rs 10 % 26))) sz := by
  refine pk_start (cc := cX3_endsWithCheckLetter) (maxL := 1) (ret := (some .boolean)) (LV := [(0, .ref aR)]) (by decide) rfl rfl (Nat.le_of_ble_eq_true rfl) ?_
  intro p e s m below meth cd hadm hx hb hr hml hts hown hlocks hname hnoh hxT A hA hK hP hD hS ls hl
  refine lv_aload_n hx hb dX3_endsWithCheckLetter_0 rfl (lv_at hl 0 rfl) ?_
  refine va_get (D := D) (ci := 3) (v := .int (iI rn)) (C := RX3) (T := TX3) (N := 2) hx hb hts (fun w h => (List.mem_cons_of_mem _ (hinX3 w h))) hown hK hP 0 rfl rfl 1 (by decide) (hts _ (List.mem_cons_of_mem _ wd_64)) (fun _ h9 => h9) rfl dX3_endsWithCheckLetter_1 ?_
  refine lv_bipush (v := iI 11) hx hb dX3_endsWithCheckLetter_4 (by decide) ?_
  refine wk_icmp_ne (tgt := 27) hx hb dX3_endsWithCheckLetter_6 (by decide) (by omega) (fun c_1 => ?_) (fun c_1 => ?_)
  · skip
    exfalso; omega
  · skip
    refine lv_aload_n hx hb dX3_endsWithCheckLetter_9 rfl (lv_at hl 0 rfl) ?_
    refine va_get (D := D) (ci := 3) (v := .ref aRs) (C := RX3) (T := TX3) (N := 2) hx hb hts (fun w h => (List.mem_cons_of_mem _ (hinX3 w h))) hown hK hP 0 rfl rfl 0 (by decide) (hts _ (List.mem_cons_of_mem _ wd_62)) (fun _ h9 => h9) rfl dX3_endsWithCheckLetter_10 ?_
    refine lv_bipush (v := iI 10) hx hb dX3_endsWithCheckLetter_13 (by decide) ?_
    refine wk_iald hx hb hK hP 1 0 rfl rfl (by decide) (by omega) dX3_endsWithCheckLetter_15 ?_
    have b_2 := hrs 10
    refine lv_aload_n hx hb dX3_endsWithCheckLetter_16 rfl (lv_at hl 0 rfl) ?_
    refine pk_callI (va_runV (As := []) (rest := [.int (iI (rs 10))]) ⟨hx, hb, hml, hown, hts⟩ (tX3_checkLetter l D kI kZ kL kJ aR aRs rs rn s.heap.size (by first | assumption | omega) (by first | assumption | omega) (by first | assumption | omega)) (cwV 0 hts (gd_V tb_cons wd_389 wd_232 wd_233 wd_34 wd_234) rfl rfl rfl (by decide +kernel) ⟨Nat.le_of_ble_eq_true rfl, Nat.le_of_ble_eq_true rfl⟩) (ck_preV hxT hK hP hD [0, 1] rfl (by decide) (q0 := 0) rfl rfl rfl) rfl rfl hl.1 rfl (lv_room (Nat.le_of_ble_eq_true rfl)) dX3_endsWithCheckLetter_17 ⟨Nat.zero_le _, Nat.zero_le _⟩) ?_
    refine wk_icmp_ne (tgt := 27) hx hb dX3_endsWithCheckLetter_20 (by decide) (by omega) (fun c_3 => ?_) (fun c_3 => ?_)
    · skip
      refine lv_iconst (v := iI 0) hx hb dX3_endsWithCheckLetter_27 rfl ?_
      exact pk_bool hx hb hr hlocks (bi_f (by first | assumption | omega | (simp_all; done))) dX3_endsWithCheckLetter_28
    · skip
      refine lv_iconst (v := iI 1) hx hb dX3_endsWithCheckLetter_23 rfl ?_
      refine lv_goto (tgt := 28) hx hb dX3_endsWithCheckLetter_24 (by decide) ?_
      exact pk_bool hx hb hr hlocks (bi_t (by first | assumption | omega | (simp_all; done))) dX3_endsWithCheckLetter_28

set_option maxHeartbeats 4000000 in
set_option maxRecDepth 100000 in
theorem tX1_add (l : Launch) (D : va_G) (kI : ClassId) (kZ : ClassId) (kL : ClassId) (kJ : ClassId) (aB : Nat) (aBs : Nat) (aBw : Nat) (aBd : Nat) (aBv : Nat) (an : Nat) (bs : Int → Int) (bw : Int → Int) (bd : Int → Int) (bv : Int → Int) (nu : Int → Int) (bn : Int) (wt : Int) (dg : Int) (sz : Nat) (hbn : 0 ≤ bn ∧ bn < 20) (hdg : dg = 0 ∨ dg = 1) (hnu : ∀ j, 0 ≤ nu j ∧ nu j ≤ 1000000) : CtI l yX1_add wsX1_add ({ frames := 1, cells := 0, slots := 0, locals := 23 }) D vwCl (tyL kI kZ kL kJ) [(aB, .inr (1, [.ref aBs, .ref aBw, .ref aBd, .ref aBv, .int (iI bn)])), (aBs, .inl (kI, 200, .inl (iF bs))), (aBw, .inl (kI, 20, .inl (iF bw))), (aBd, .inl (kZ, 20, .inl (iF bd))), (aBv, .inl (kI, 80, .inl (iF bv))), (an, .inl (kI, 11, .inl (iF nu)))] [.ref aB, .ref an, .int (iI wt), .int (iI dg)] (iI bn) [(aB, .inr (1, [.ref aBs, .ref aBw, .ref aBd, .ref aBv, .int (iI (bn + 1))])), (aBs, .inl (kI, 200, .inl (iF (cpN bs (bn * 10) nu 10)))), (aBw, .inl (kI, 20, .inl (iF (iu bw bn wt)))), (aBd, .inl (kZ, 20, .inl (iF (iu bd bn dg)))), (aBv, .inl (kI, 80, .inl (iF (iu (iu (iu (iu bv (bn * 4 + 0) 0) (bn * 4 + 1) 1) (bn * 4 + 2) 1) (bn * 4 + 3) 1)))), (an, .inl (kI, 11, .inl (iF nu)))] sz := by
  refine ck_start (Qc := fun A => cQi D vwCl (tyL kI kZ kL kJ) A (iI bn) [(aB, .inr (1, [.ref aBs, .ref aBw, .ref aBd, .ref aBv, .int (iI (bn + 1))])), (aBs, .inl (kI, 200, .inl (iF (cpN bs (bn * 10) nu 10)))), (aBw, .inl (kI, 20, .inl (iF (iu bw bn wt)))), (aBd, .inl (kZ, 20, .inl (iF (iu bd bn dg)))), (aBv, .inl (kI, 80, .inl (iF (iu (iu (iu (iu bv (bn * 4 + 0) 0) (bn * 4 + 1) 1) (bn * 4 + 2) 1) (bn * 4 + 3) 1)))), (an, .inl (kI, 11, .inl (iF nu)))]) (cc := cX1_add) (maxL := 6) (ret := (some .int)) (LV := [(0, .ref aB), (1, .ref an), (2, .int (iI wt)), (3, .int (iI dg))]) (by decide) rfl rfl (Nat.le_of_ble_eq_true rfl) ?_
  intro p e s m below meth cd hadm hx hb hr hml hts hown hlocks hname hnoh hxT A hA hK hP hD hS ls hl
  refine lv_aload_n hx hb dX1_add_0 rfl (lv_at hl 0 rfl) ?_
  refine va_get (D := D) (ci := 1) (v := .int (iI bn)) (C := RX1) (T := TX1) (N := 5) hx hb hts (fun w h => (List.mem_cons_of_mem _ (hinX1 w h))) hown hK hP 0 rfl rfl 4 (by decide) (hts _ (List.mem_cons_of_mem _ wd_85)) (fun _ h9 => h9) rfl dX1_add_1 ?_
  refine lv_bipush (v := iI 20) hx hb dX1_add_4 (by decide) ?_
  refine wk_icmp_lt (tgt := 11) hx hb dX1_add_6 (by decide) (by omega) (fun c_1 => ?_) (fun c_1 => ?_)
  · skip
    refine lv_aload_n hx hb dX1_add_11 rfl (lv_at hl 0 rfl) ?_
    refine va_get (D := D) (ci := 1) (v := .int (iI bn)) (C := RX1) (T := TX1) (N := 5) hx hb hts (fun w h => (List.mem_cons_of_mem _ (hinX1 w h))) hown hK hP 0 rfl rfl 4 (by decide) (hts _ (List.mem_cons_of_mem _ wd_85)) (fun _ h9 => h9) rfl dX1_add_12 ?_
    refine lv_istore (lv' := [(4, .int (iI bn)), (0, .ref aB), (1, .ref an), (2, .int (iI wt)), (3, .int (iI dg))]) hx hb dX1_add_15 hl (by decide) rfl (fun ls hl => ?_)
    refine lv_aload_n hx hb dX1_add_17 rfl (lv_at hl 1 rfl) ?_
    refine lv_dup hx hb dX1_add_18 rfl ?_
    refine va_get (D := D) (ci := 1) (v := .int (iI bn)) (C := RX1) (T := TX1) (N := 5) hx hb hts (fun w h => (List.mem_cons_of_mem _ (hinX1 w h))) hown hK hP 0 rfl rfl 4 (by decide) (hts _ (List.mem_cons_of_mem _ wd_85)) (fun _ h9 => h9) rfl dX1_add_19 ?_
    refine lv_iconst (v := iI 1) hx hb dX1_add_22 rfl ?_
    refine wk_iadd hx hb dX1_add_23 ?_
    refine wk_put (ci := 1) (C := RX1) (T := TX1) (N := 5) hx hb hts (fun w h => (List.mem_cons_of_mem _ (hinX1 w h))) tyX1 tyX1_ok nmX1 hown hK hP hD hS 0 rfl rfl 4 (by decide) (hts _ (List.mem_cons_of_mem _ wd_85)) (fun _ h9 => h9) rfl rfl (Nat.le_of_ble_eq_true rfl) dX1_add_24 (ws' := [(aB, .inr (1, [.ref aBs, .ref aBw, .ref aBd, .ref aBv, .int (iI (bn + 1))])), (aBs, .inl (kI, 200, .inl (iF bs))), (aBw, .inl (kI, 20, .inl (iF bw))), (aBd, .inl (kZ, 20, .inl (iF bd))), (aBv, .inl (kI, 80, .inl (iF bv))), (an, .inl (kI, 11, .inl (iF nu)))]) rfl (fun H locs hP hD hS => ?_)
    refine lv_iconst (v := iI 0) hx hb dX1_add_27 rfl ?_
    refine lv_istore (lv' := [(5, .int (iI 0)), (4, .int (iI bn)), (0, .ref aB), (1, .ref an), (2, .int (iI wt)), (3, .int (iI dg))]) hx hb dX1_add_28 hl (by decide) rfl (fun ls hl => ?_)
    have loop_30 : ∀ (fu : Nat) (i : Int) (x : Int → Int), (0 ≤ i ∧ i ≤ 10) → (x = cpN bs (bn * 10) nu i.toNat) → ((10 : Int) - i) < (fu : Int) → ∀ (H : Heap) (locs : List Loc) (ls : Array Slot), va_P D vwCl [(aB, .inr (1, [.ref aBs, .ref aBw, .ref aBd, .ref aBv, .int (iI (bn + 1))])), (aBs, .inl (kI, 200, .inl (iF x))), (aBw, .inl (kI, 20, .inl (iF bw))), (aBd, .inl (kZ, 20, .inl (iF bd))), (aBv, .inl (kI, 80, .inl (iF bv))), (an, .inl (kI, 11, .inl (iF nu)))] H → va_D A [(aB, .inr (1, [.ref aBs, .ref aBw, .ref aBd, .ref aBv, .int (iI (bn + 1))])), (aBs, .inl (kI, 200, .inl (iF x))), (aBw, .inl (kI, 20, .inl (iF bw))), (aBd, .inl (kZ, 20, .inl (iF bd))), (aBv, .inl (kI, 80, .inl (iF bv))), (an, .inl (kI, 11, .inl (iF nu)))] → va_S A s.heap H locs → lv_has ls 6 [(5, .int (iI i)), (4, .int (iI bn)), (0, .ref aB), (1, .ref an), (2, .int (iI wt)), (3, .int (iI dg))] → W p l e ({ frames := 1, cells := 0, slots := 0, locals := 23 }) s m ([.ref aB, .ref an, .int (iI wt), .int (iI dg)] : List Value).toArray below meth cd H locs 0 0 (MQ below (cQi D vwCl (tyL kI kZ kL kJ) A (iI bn) [(aB, .inr (1, [.ref aBs, .ref aBw, .ref aBd, .ref aBv, .int (iI (bn + 1))])), (aBs, .inl (kI, 200, .inl (iF (cpN bs (bn * 10) nu 10)))), (aBw, .inl (kI, 20, .inl (iF (iu bw bn wt)))), (aBd, .inl (kZ, 20, .inl (iF (iu bd bn dg)))), (aBv, .inl (kI, 80, .inl (iF (iu (iu (iu (iu bv (bn * 4 + 0) 0) (bn * 4 + 1) 1) (bn * 4 + 2) 1) (bn * 4 + 3) 1)))), (an, .inl (kI, 11, .inl (iF nu)))]) ([.ref aB, .ref an, .int (iI wt), .int (iI dg)] : List Value).toArray s 0 0 A) (F0 m 30 ls []) := by
      intro fu
      induction fu with
      | zero => intro i x hi hE hfu; exfalso; omega
      | succ fu ih_30 =>
        intro i x hi hE hfu H locs ls hP hD hS hl
        refine lv_iload hx hb dX1_add_30 (lv_at hl 0 rfl) ?_
        refine lv_bipush (v := iI 10) hx hb dX1_add_32 (by decide) ?_
        refine wk_icmp_ge (tgt := 67) hx hb dX1_add_34 (by decide) (by omega) (fun c_2 => ?_) (fun c_2 => ?_)
        · skip
          have e9 : i = 10 := by omega
          have e8 : x = cpN bs (bn * 10) nu 10 := by rw [hE, e9]; rfl
          subst e8
          refine lv_aload_n hx hb dX1_add_67 rfl (lv_at hl 2 rfl) ?_
          refine va_get (D := D) (ci := 1) (v := .ref aBw) (C := RX1) (T := TX1) (N := 5) hx hb hts (fun w h => (List.mem_cons_of_mem _ (hinX1 w h))) hown hK hP 0 rfl rfl 1 (by decide) (hts _ (List.mem_cons_of_mem _ wd_80)) (fun _ h9 => h9) rfl dX1_add_68 ?_
          refine lv_iload hx hb dX1_add_71 (lv_at hl 1 rfl) ?_
          refine lv_iload_n hx hb dX1_add_73 rfl (lv_at hl 4 rfl) ?_
          refine wk_iast hx hb hK hP hD hS 2 0 rfl rfl (by decide) (by omega) dX1_add_74 (ws' := [(aB, .inr (1, [.ref aBs, .ref aBw, .ref aBd, .ref aBv, .int (iI (bn + 1))])), (aBs, .inl (kI, 200, .inl (iF (cpN bs (bn * 10) nu 10)))), (aBw, .inl (kI, 20, .inl (iF (iu bw bn wt)))), (aBd, .inl (kZ, 20, .inl (iF bd))), (aBv, .inl (kI, 80, .inl (iF bv))), (an, .inl (kI, 11, .inl (iF nu)))]) rfl (fun H locs hP hD hS => ?_)
          refine lv_aload_n hx hb dX1_add_75 rfl (lv_at hl 2 rfl) ?_
          refine va_get (D := D) (ci := 1) (v := .ref aBd) (C := RX1) (T := TX1) (N := 5) hx hb hts (fun w h => (List.mem_cons_of_mem _ (hinX1 w h))) hown hK hP 0 rfl rfl 2 (by decide) (hts _ (List.mem_cons_of_mem _ wd_82)) (fun _ h9 => h9) rfl dX1_add_76 ?_
          refine lv_iload hx hb dX1_add_79 (lv_at hl 1 rfl) ?_
          refine lv_iload_n hx hb dX1_add_81 rfl (lv_at hl 5 rfl) ?_
          refine wk_zast hx hb hK hP hD hS 3 1 rfl rfl (by omega) (by decide) (by omega) dX1_add_82 (ws' := [(aB, .inr (1, [.ref aBs, .ref aBw, .ref aBd, .ref aBv, .int (iI (bn + 1))])), (aBs, .inl (kI, 200, .inl (iF (cpN bs (bn * 10) nu 10)))), (aBw, .inl (kI, 20, .inl (iF (iu bw bn wt)))), (aBd, .inl (kZ, 20, .inl (iF (iu bd bn dg)))), (aBv, .inl (kI, 80, .inl (iF bv))), (an, .inl (kI, 11, .inl (iF nu)))]) rfl (fun H locs hP hD hS => ?_)
          refine lv_aload_n hx hb dX1_add_83 rfl (lv_at hl 2 rfl) ?_
          refine lv_iload hx hb dX1_add_84 (lv_at hl 1 rfl) ?_
          refine lv_iconst (v := iI 0) hx hb dX1_add_86 rfl ?_
          refine lv_iconst (v := iI 0) hx hb dX1_add_87 rfl ?_
          refine ck_backV (va_runV (As := [.int (iI bn), .int (iI 0), .int (iI 0)]) (rest := []) ⟨hx, hb, hml, hown, hts⟩ (tX1_judge l D kI kZ kL kJ aB aBs aBw aBd aBv bv (bn + 1) bn 0 0 H.size (by first | assumption | omega) (by first | assumption | omega)) (cwV 3 hts (gd_V tb_cons wd_402 wd_403 wd_404 wd_35 wd_405) rfl rfl rfl (by decide +kernel) ⟨Nat.le_of_ble_eq_true rfl, Nat.le_of_ble_eq_true rfl⟩) (ck_preV hxT hK hP hD [0, 4] rfl (by decide) (q0 := 0) rfl rfl rfl) rfl rfl hl.1 rfl (lv_room (Nat.le_of_ble_eq_true rfl)) dX1_add_88 ⟨Nat.zero_le _, Nat.zero_le _⟩) hP hD hS hA [0, 4] [1, 2, 3, 5] (WR := [(aBs, .inl (kI, 200, .inl (iF (cpN bs (bn * 10) nu 10)))), (aBw, .inl (kI, 20, .inl (iF (iu bw bn wt)))), (aBd, .inl (kZ, 20, .inl (iF (iu bd bn dg)))), (an, .inl (kI, 11, .inl (iF nu)))]) rfl rfl (by decide) (by decide) (ws' := [(aBs, .inl (kI, 200, .inl (iF (cpN bs (bn * 10) nu 10)))), (aBw, .inl (kI, 20, .inl (iF (iu bw bn wt)))), (aBd, .inl (kZ, 20, .inl (iF (iu bd bn dg)))), (an, .inl (kI, 11, .inl (iF nu))), (aB, .inr (1, [.ref aBs, .ref aBw, .ref aBd, .ref aBv, .int (iI (bn + 1))])), (aBv, .inl (kI, 80, .inl (iF (iu bv (bn * 4 + 0) 0))))]) rfl (fun H locs hP hD hS => ?_)
          refine lv_aload_n hx hb dX1_add_91 rfl (lv_at hl 2 rfl) ?_
          refine lv_iload hx hb dX1_add_92 (lv_at hl 1 rfl) ?_
          refine lv_iconst (v := iI 1) hx hb dX1_add_94 rfl ?_
          refine lv_iconst (v := iI 1) hx hb dX1_add_95 rfl ?_
          refine ck_backV (va_runV (As := [.int (iI bn), .int (iI 1), .int (iI 1)]) (rest := []) ⟨hx, hb, hml, hown, hts⟩ (tX1_judge l D kI kZ kL kJ aB aBs aBw aBd aBv (iu bv (bn * 4 + 0) 0) (bn + 1) bn 1 1 H.size (by first | assumption | omega) (by first | assumption | omega)) (cwV 3 hts (gd_V tb_cons wd_402 wd_403 wd_404 wd_35 wd_405) rfl rfl rfl (by decide +kernel) ⟨Nat.le_of_ble_eq_true rfl, Nat.le_of_ble_eq_true rfl⟩) (ck_preV hxT hK hP hD [4, 5] rfl (by decide) (q0 := 0) rfl rfl rfl) rfl rfl hl.1 rfl (lv_room (Nat.le_of_ble_eq_true rfl)) dX1_add_96 ⟨Nat.zero_le _, Nat.zero_le _⟩) hP hD hS hA [4, 5] [0, 1, 2, 3] (WR := [(aBs, .inl (kI, 200, .inl (iF (cpN bs (bn * 10) nu 10)))), (aBw, .inl (kI, 20, .inl (iF (iu bw bn wt)))), (aBd, .inl (kZ, 20, .inl (iF (iu bd bn dg)))), (an, .inl (kI, 11, .inl (iF nu)))]) rfl rfl (by decide) (by decide) (ws' := [(aBs, .inl (kI, 200, .inl (iF (cpN bs (bn * 10) nu 10)))), (aBw, .inl (kI, 20, .inl (iF (iu bw bn wt)))), (aBd, .inl (kZ, 20, .inl (iF (iu bd bn dg)))), (an, .inl (kI, 11, .inl (iF nu))), (aB, .inr (1, [.ref aBs, .ref aBw, .ref aBd, .ref aBv, .int (iI (bn + 1))])), (aBv, .inl (kI, 80, .inl (iF (iu (iu bv (bn * 4 + 0) 0) (bn * 4 + 1) 1))))]) rfl (fun H locs hP hD hS => ?_)
          refine lv_aload_n hx hb dX1_add_99 rfl (lv_at hl 2 rfl) ?_
          refine lv_iload hx hb dX1_add_100 (lv_at hl 1 rfl) ?_
          refine lv_iconst (v := iI 2) hx hb dX1_add_102 rfl ?_
          refine lv_iconst (v := iI 1) hx hb dX1_add_103 rfl ?_
          refine ck_backV (va_runV (As := [.int (iI bn), .int (iI 2), .int (iI 1)]) (rest := []) ⟨hx, hb, hml, hown, hts⟩ (tX1_judge l D kI kZ kL kJ aB aBs aBw aBd aBv (iu (iu bv (bn * 4 + 0) 0) (bn * 4 + 1) 1) (bn + 1) bn 2 1 H.size (by first | assumption | omega) (by first | assumption | omega)) (cwV 3 hts (gd_V tb_cons wd_402 wd_403 wd_404 wd_35 wd_405) rfl rfl rfl (by decide +kernel) ⟨Nat.le_of_ble_eq_true rfl, Nat.le_of_ble_eq_true rfl⟩) (ck_preV hxT hK hP hD [4, 5] rfl (by decide) (q0 := 0) rfl rfl rfl) rfl rfl hl.1 rfl (lv_room (Nat.le_of_ble_eq_true rfl)) dX1_add_104 ⟨Nat.zero_le _, Nat.zero_le _⟩) hP hD hS hA [4, 5] [0, 1, 2, 3] (WR := [(aBs, .inl (kI, 200, .inl (iF (cpN bs (bn * 10) nu 10)))), (aBw, .inl (kI, 20, .inl (iF (iu bw bn wt)))), (aBd, .inl (kZ, 20, .inl (iF (iu bd bn dg)))), (an, .inl (kI, 11, .inl (iF nu)))]) rfl rfl (by decide) (by decide) (ws' := [(aBs, .inl (kI, 200, .inl (iF (cpN bs (bn * 10) nu 10)))), (aBw, .inl (kI, 20, .inl (iF (iu bw bn wt)))), (aBd, .inl (kZ, 20, .inl (iF (iu bd bn dg)))), (an, .inl (kI, 11, .inl (iF nu))), (aB, .inr (1, [.ref aBs, .ref aBw, .ref aBd, .ref aBv, .int (iI (bn + 1))])), (aBv, .inl (kI, 80, .inl (iF (iu (iu (iu bv (bn * 4 + 0) 0) (bn * 4 + 1) 1) (bn * 4 + 2) 1))))]) rfl (fun H locs hP hD hS => ?_)
          refine lv_aload_n hx hb dX1_add_107 rfl (lv_at hl 2 rfl) ?_
          refine lv_iload hx hb dX1_add_108 (lv_at hl 1 rfl) ?_
          refine lv_iconst (v := iI 3) hx hb dX1_add_110 rfl ?_
          refine lv_iconst (v := iI 1) hx hb dX1_add_111 rfl ?_
          refine ck_backV (va_runV (As := [.int (iI bn), .int (iI 3), .int (iI 1)]) (rest := []) ⟨hx, hb, hml, hown, hts⟩ (tX1_judge l D kI kZ kL kJ aB aBs aBw aBd aBv (iu (iu (iu bv (bn * 4 + 0) 0) (bn * 4 + 1) 1) (bn * 4 + 2) 1) (bn + 1) bn 3 1 H.size (by first | assumption | omega) (by first | assumption | omega)) (cwV 3 hts (gd_V tb_cons wd_402 wd_403 wd_404 wd_35 wd_405) rfl rfl rfl (by decide +kernel) ⟨Nat.le_of_ble_eq_true rfl, Nat.le_of_ble_eq_true rfl⟩) (ck_preV hxT hK hP hD [4, 5] rfl (by decide) (q0 := 0) rfl rfl rfl) rfl rfl hl.1 rfl (lv_room (Nat.le_of_ble_eq_true rfl)) dX1_add_112 ⟨Nat.zero_le _, Nat.zero_le _⟩) hP hD hS hA [4, 5] [0, 1, 2, 3] (WR := [(aBs, .inl (kI, 200, .inl (iF (cpN bs (bn * 10) nu 10)))), (aBw, .inl (kI, 20, .inl (iF (iu bw bn wt)))), (aBd, .inl (kZ, 20, .inl (iF (iu bd bn dg)))), (an, .inl (kI, 11, .inl (iF nu)))]) rfl rfl (by decide) (by decide) (ws' := [(aBs, .inl (kI, 200, .inl (iF (cpN bs (bn * 10) nu 10)))), (aBw, .inl (kI, 20, .inl (iF (iu bw bn wt)))), (aBd, .inl (kZ, 20, .inl (iF (iu bd bn dg)))), (an, .inl (kI, 11, .inl (iF nu))), (aB, .inr (1, [.ref aBs, .ref aBw, .ref aBd, .ref aBv, .int (iI (bn + 1))])), (aBv, .inl (kI, 80, .inl (iF (iu (iu (iu (iu bv (bn * 4 + 0) 0) (bn * 4 + 1) 1) (bn * 4 + 2) 1) (bn * 4 + 3) 1))))]) rfl (fun H locs hP hD hS => ?_)
          refine lv_iload hx hb dX1_add_115 (lv_at hl 1 rfl) ?_
          have hP := hP.sub (ws' := [(aB, .inr (1, [.ref aBs, .ref aBw, .ref aBd, .ref aBv, .int (iI (bn + 1))])), (aBs, .inl (kI, 200, .inl (iF (cpN bs (bn * 10) nu 10)))), (aBw, .inl (kI, 20, .inl (iF (iu bw bn wt)))), (aBd, .inl (kZ, 20, .inl (iF (iu bd bn dg)))), (aBv, .inl (kI, 80, .inl (iF (iu (iu (iu (iu bv (bn * 4 + 0) 0) (bn * 4 + 1) 1) (bn * 4 + 2) 1) (bn * 4 + 3) 1)))), (an, .inl (kI, 11, .inl (iF nu)))]) [4, 0, 1, 2, 5, 3] rfl
          have hD := hD.sub (ws' := [(aB, .inr (1, [.ref aBs, .ref aBw, .ref aBd, .ref aBv, .int (iI (bn + 1))])), (aBs, .inl (kI, 200, .inl (iF (cpN bs (bn * 10) nu 10)))), (aBw, .inl (kI, 20, .inl (iF (iu bw bn wt)))), (aBd, .inl (kZ, 20, .inl (iF (iu bd bn dg)))), (aBv, .inl (kI, 80, .inl (iF (iu (iu (iu (iu bv (bn * 4 + 0) 0) (bn * 4 + 1) 1) (bn * 4 + 2) 1) (bn * 4 + 3) 1)))), (an, .inl (kI, 11, .inl (iF nu)))]) [4, 0, 1, 2, 5, 3] (by decide) rfl
          exact rk_int hx hb hr hlocks hK hP hD hS (by first | rfl | omega) rfl dX1_add_117
        · skip
          refine lv_iload hx hb dX1_add_37 (lv_at hl 0 rfl) ?_
          refine lv_aload_n hx hb dX1_add_39 rfl (lv_at hl 3 rfl) ?_
          refine va_alen (v := iI 11) hx hb hK hP 5 0 rfl rfl (show Int32.ofNat 11 = iI 11 by decide) dX1_add_40 ?_
          refine wk_icmp_ge (tgt := 67) hx hb dX1_add_41 (by decide) (by omega) (fun c_3 => ?_) (fun c_3 => ?_)
          · skip
            exfalso; omega
          · skip
            refine lv_aload_n hx hb dX1_add_44 rfl (lv_at hl 2 rfl) ?_
            refine va_get (D := D) (ci := 1) (v := .ref aBs) (C := RX1) (T := TX1) (N := 5) hx hb hts (fun w h => (List.mem_cons_of_mem _ (hinX1 w h))) hown hK hP 0 rfl rfl 0 (by decide) (hts _ (List.mem_cons_of_mem _ wd_78)) (fun _ h9 => h9) rfl dX1_add_45 ?_
            refine lv_iload hx hb dX1_add_48 (lv_at hl 1 rfl) ?_
            refine lv_bipush (v := iI 10) hx hb dX1_add_50 (by decide) ?_
            refine wk_imul hx hb dX1_add_52 ?_
            refine lv_iload hx hb dX1_add_53 (lv_at hl 0 rfl) ?_
            refine wk_iadd hx hb dX1_add_55 ?_
            refine lv_aload_n hx hb dX1_add_56 rfl (lv_at hl 3 rfl) ?_
            refine lv_iload hx hb dX1_add_57 (lv_at hl 0 rfl) ?_
            refine wk_iald hx hb hK hP 5 0 rfl rfl (by decide) (by omega) dX1_add_59 ?_
            have b_4 := hnu i
            refine wk_iast hx hb hK hP hD hS 1 0 rfl rfl (by decide) (by omega) dX1_add_60 (ws' := [(aB, .inr (1, [.ref aBs, .ref aBw, .ref aBd, .ref aBv, .int (iI (bn + 1))])), (aBs, .inl (kI, 200, .inl (iF (iu x ((bn * 10) + i) (nu i))))), (aBw, .inl (kI, 20, .inl (iF bw))), (aBd, .inl (kZ, 20, .inl (iF bd))), (aBv, .inl (kI, 80, .inl (iF bv))), (an, .inl (kI, 11, .inl (iF nu)))]) rfl (fun H locs hP hD hS => ?_)
            refine wk_iinc (k := 0) (lv' := [(5, .int (iI (i + 1))), (4, .int (iI bn)), (0, .ref aB), (1, .ref an), (2, .int (iI wt)), (3, .int (iI dg))]) hx hb dX1_add_61 hl rfl (by decide) rfl (fun ls hl => ?_)
            refine lv_goto (tgt := 30) hx hb dX1_add_64 (by decide) ?_
            exact ih_30 (i + 1) (iu x ((bn * 10) + i) (nu i)) (by first | assumption | omega) (by rw [cpN_step bs (bn * 10) nu (by omega), ← hE]) (by omega) H locs ls hP hD hS (lv_sub hl [0, 1, 2, 3, 4, 5] rfl)
    exact loop_30 ((10 : Int) - 0).toNat.succ 0 bs (by first | assumption | rfl | omega) (by first | assumption | rfl | omega) (by omega) H locs ls hP hD hS (lv_sub hl [0, 1, 2, 3, 4, 5] rfl)
  · skip
    exfalso; omega

set_option maxHeartbeats 4000000 in
set_option maxRecDepth 100000 in
theorem tX2_remove (l : Launch) (D : va_G) (kI : ClassId) (kZ : ClassId) (kL : ClassId) (kJ : ClassId) (aQ : Nat) (aQw : Nat) (qw : Int → Int) (qn : Int) (bk : Int) (sz : Nat) (hqn : 0 ≤ qn ∧ qn ≤ 16) (hbk : 0 ≤ bk ∧ bk ≤ 1000000) (hqw : ∀ j, 0 ≤ qw j ∧ qw j ≤ 1000000) : CtV l yX2_remove wsX2_remove ({ frames := 0, cells := 0, slots := 0, locals := 0 }) D vwCl (tyL kI kZ kL kJ) [(aQ, .inr (2, [.ref aQw, .int (iI qn)])), (aQw, .inl (kI, 16, .inl (iF qw)))] [.ref aQ, .int (iI bk)] [(aQ, .inr (2, [.ref aQw, .int (iI ((rmL bk qn (qn - 0).toNat 0 0 qw).2))])), (aQw, .inl (kI, 16, .inl (iF ((rmL bk qn (qn - 0).toNat 0 0 qw).1))))] sz := by
  refine ck_start (Qc := fun A => cQv D vwCl (tyL kI kZ kL kJ) A [(aQ, .inr (2, [.ref aQw, .int (iI ((rmL bk qn (qn - 0).toNat 0 0 qw).2))])), (aQw, .inl (kI, 16, .inl (iF ((rmL bk qn (qn - 0).toNat 0 0 qw).1))))]) (cc := cX2_remove) (maxL := 4) (ret := none) (LV := [(0, .ref aQ), (1, .int (iI bk))]) (by decide) rfl rfl (Nat.le_of_ble_eq_true rfl) ?_
  intro p e s m below meth cd hadm hx hb hr hml hts hown hlocks hname hnoh hxT A hA hK hP hD hS ls hl
  refine lv_iconst (v := iI 0) hx hb dX2_remove_0 rfl ?_
  refine lv_istore_n (lv' := [(2, .int (iI 0)), (0, .ref aQ), (1, .int (iI bk))]) hx hb dX2_remove_1 rfl hl (by decide) rfl (fun ls hl => ?_)
  refine lv_iconst (v := iI 0) hx hb dX2_remove_2 rfl ?_
  refine lv_istore_n (lv' := [(3, .int (iI 0)), (2, .int (iI 0)), (0, .ref aQ), (1, .int (iI bk))]) hx hb dX2_remove_3 rfl hl (by decide) rfl (fun ls hl => ?_)
  have loop_4 : ∀ (fu : Nat) (k : Int) (i : Int) (x : Int → Int), (0 ≤ k ∧ k ≤ i ∧ i ≤ qn) → (∀ j, 0 ≤ x j ∧ x j ≤ 1000000) → (rmL bk qn (qn - i).toNat i k x = rmL bk qn (qn - 0).toNat 0 0 qw) → (qn - i) < (fu : Int) → ∀ (H : Heap) (locs : List Loc) (ls : Array Slot), va_P D vwCl [(aQ, .inr (2, [.ref aQw, .int (iI qn)])), (aQw, .inl (kI, 16, .inl (iF x)))] H → va_D A [(aQ, .inr (2, [.ref aQw, .int (iI qn)])), (aQw, .inl (kI, 16, .inl (iF x)))] → va_S A s.heap H locs → lv_has ls 4 [(3, .int (iI i)), (2, .int (iI k)), (0, .ref aQ), (1, .int (iI bk))] → W p l e ({ frames := 0, cells := 0, slots := 0, locals := 0 }) s m ([.ref aQ, .int (iI bk)] : List Value).toArray below meth cd H locs 0 0 (MQ below (cQv D vwCl (tyL kI kZ kL kJ) A [(aQ, .inr (2, [.ref aQw, .int (iI ((rmL bk qn (qn - 0).toNat 0 0 qw).2))])), (aQw, .inl (kI, 16, .inl (iF ((rmL bk qn (qn - 0).toNat 0 0 qw).1))))]) ([.ref aQ, .int (iI bk)] : List Value).toArray s 0 0 A) (F0 m 4 ls []) := by
    intro fu
    induction fu with
    | zero => intro k i x hi hx0 hE hfu; exfalso; omega
    | succ fu ih_4 =>
      intro k i x hi hx0 hE hfu H locs ls hP hD hS hl
      refine lv_iload_n hx hb dX2_remove_4 rfl (lv_at hl 0 rfl) ?_
      refine lv_aload_n hx hb dX2_remove_5 rfl (lv_at hl 2 rfl) ?_
      refine va_get (D := D) (ci := 2) (v := .int (iI qn)) (C := RX2) (T := TX2) (N := 2) hx hb hts (fun w h => (List.mem_cons_of_mem _ (hinX2 w h))) hown hK hP 0 rfl rfl 1 (by decide) (hts _ (List.mem_cons_of_mem _ wd_182)) (fun _ h9 => h9) rfl dX2_remove_6 ?_
      refine wk_icmp_ge (tgt := 43) hx hb dX2_remove_9 (by decide) (by omega) (fun c_1 => ?_) (fun c_1 => ?_)
      · skip
        have e9 := hE
        rw [rmL_end (by omega)] at e9
        refine lv_aload_n hx hb dX2_remove_43 rfl (lv_at hl 2 rfl) ?_
        refine lv_iload_n hx hb dX2_remove_44 rfl (lv_at hl 1 rfl) ?_
        refine wk_put (ci := 2) (C := RX2) (T := TX2) (N := 2) hx hb hts (fun w h => (List.mem_cons_of_mem _ (hinX2 w h))) tyX2 tyX2_ok nmX2 hown hK hP hD hS 0 rfl rfl 1 (by decide) (hts _ (List.mem_cons_of_mem _ wd_182)) (fun _ h9 => h9) rfl rfl (Nat.le_of_ble_eq_true rfl) dX2_remove_45 (ws' := [(aQ, .inr (2, [.ref aQw, .int (iI k)])), (aQw, .inl (kI, 16, .inl (iF x)))]) rfl (fun H locs hP hD hS => ?_)
        exact rk_void hx hb hr hlocks hK hP hD hS (by rw [← e9]) dX2_remove_48
      · skip
        refine lv_aload_n hx hb dX2_remove_12 rfl (lv_at hl 2 rfl) ?_
        refine va_get (D := D) (ci := 2) (v := .ref aQw) (C := RX2) (T := TX2) (N := 2) hx hb hts (fun w h => (List.mem_cons_of_mem _ (hinX2 w h))) hown hK hP 0 rfl rfl 0 (by decide) (hts _ (List.mem_cons_of_mem _ wd_181)) (fun _ h9 => h9) rfl dX2_remove_13 ?_
        refine lv_iload_n hx hb dX2_remove_16 rfl (lv_at hl 0 rfl) ?_
        refine wk_iald hx hb hK hP 1 0 rfl rfl (by decide) (by omega) dX2_remove_17 ?_
        have b_2 := hx0 i
        refine lv_iload_n hx hb dX2_remove_18 rfl (lv_at hl 3 rfl) ?_
        refine wk_icmp_eq (tgt := 37) hx hb dX2_remove_19 (by decide) (by omega) (fun c_3 => ?_) (fun c_3 => ?_)
        · skip
          refine wk_iinc (k := 0) (lv' := [(3, .int (iI (i + 1))), (2, .int (iI k)), (0, .ref aQ), (1, .int (iI bk))]) hx hb dX2_remove_37 hl rfl (by decide) rfl (fun ls hl => ?_)
          refine lv_goto (tgt := 4) hx hb dX2_remove_40 (by decide) ?_
          exact ih_4 k (i + 1) x (by first | assumption | omega) (by first | assumption | (intro j; unfold iu; split; exact hx0 i; exact hx0 j)) (by have e9 := hE; rw [rmL_step (by omega)] at e9; first | (rw [if_pos (by assumption)] at e9; exact e9) | (rw [if_neg (by assumption)] at e9; exact e9)) (by omega) H locs ls hP hD hS (lv_sub hl [0, 1, 2, 3] rfl)
        · skip
          refine lv_aload_n hx hb dX2_remove_22 rfl (lv_at hl 2 rfl) ?_
          refine va_get (D := D) (ci := 2) (v := .ref aQw) (C := RX2) (T := TX2) (N := 2) hx hb hts (fun w h => (List.mem_cons_of_mem _ (hinX2 w h))) hown hK hP 0 rfl rfl 0 (by decide) (hts _ (List.mem_cons_of_mem _ wd_181)) (fun _ h9 => h9) rfl dX2_remove_23 ?_
          refine lv_iload_n hx hb dX2_remove_26 rfl (lv_at hl 1 rfl) ?_
          refine lv_aload_n hx hb dX2_remove_27 rfl (lv_at hl 2 rfl) ?_
          refine va_get (D := D) (ci := 2) (v := .ref aQw) (C := RX2) (T := TX2) (N := 2) hx hb hts (fun w h => (List.mem_cons_of_mem _ (hinX2 w h))) hown hK hP 0 rfl rfl 0 (by decide) (hts _ (List.mem_cons_of_mem _ wd_181)) (fun _ h9 => h9) rfl dX2_remove_28 ?_
          refine lv_iload_n hx hb dX2_remove_31 rfl (lv_at hl 0 rfl) ?_
          refine wk_iald hx hb hK hP 1 0 rfl rfl (by decide) (by omega) dX2_remove_32 ?_
          have b_4 := hx0 i
          refine wk_iast hx hb hK hP hD hS 1 0 rfl rfl (by decide) (by omega) dX2_remove_33 (ws' := [(aQ, .inr (2, [.ref aQw, .int (iI qn)])), (aQw, .inl (kI, 16, .inl (iF (iu x k (x i)))))]) rfl (fun H locs hP hD hS => ?_)
          refine wk_iinc (k := 1) (lv' := [(2, .int (iI (k + 1))), (3, .int (iI i)), (0, .ref aQ), (1, .int (iI bk))]) hx hb dX2_remove_34 hl rfl (by decide) rfl (fun ls hl => ?_)
          refine wk_iinc (k := 1) (lv' := [(3, .int (iI (i + 1))), (2, .int (iI (k + 1))), (0, .ref aQ), (1, .int (iI bk))]) hx hb dX2_remove_37 hl rfl (by decide) rfl (fun ls hl => ?_)
          refine lv_goto (tgt := 4) hx hb dX2_remove_40 (by decide) ?_
          exact ih_4 (k + 1) (i + 1) (iu x k (x i)) (by first | assumption | omega) (by first | assumption | (intro j; unfold iu; split; exact hx0 i; exact hx0 j)) (by have e9 := hE; rw [rmL_step (by omega)] at e9; first | (rw [if_pos (by assumption)] at e9; exact e9) | (rw [if_neg (by assumption)] at e9; exact e9)) (by omega) H locs ls hP hD hS (lv_sub hl [0, 1, 2, 3] rfl)
  exact loop_4 (qn - 0).toNat.succ 0 0 qw (by first | assumption | rfl | omega) (by assumption) (by rfl) (by omega) s.heap [] ls hP hD hS (lv_sub hl [0, 1, 2, 3] rfl)
