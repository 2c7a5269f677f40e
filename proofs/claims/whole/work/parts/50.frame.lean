/-! a contract over a larger world -/
theorem fm_map {ws : va_W} {is : List Nat} {w : va_W} (h : is.map (fun i => ws[i]?) = w.map some) : is.filterMap (fun i => ws[i]?) = w := by
  have h2 : (is.map (fun i => ws[i]?)).filterMap id = (w.map some).filterMap id := by rw [h]
  rw [List.filterMap_map, List.filterMap_map] at h2
  simpa using h2
theorem fr_A {WX WC : va_W} {isC : List Nat} (hC : isC.map (fun i => WX[i]?) = WC.map some) {sz q : Nat} (h : va_A WC sz q) : va_A WX sz q := by
  rcases h with ⟨k, e, h⟩ | h
  · have h1 : (isC.map (fun i => WX[i]?))[k]? = some (some (q, e)) := by rw [hC, List.getElem?_map, h]; rfl
    rw [List.getElem?_map] at h1
    cases h2 : isC[k]? with
    | none => rw [h2] at h1; cases h1
    | some i => rw [h2] at h1; exact Or.inl ⟨i, e, Option.some.inj h1⟩
  · exact Or.inr h
theorem fr_pre {D : va_G} {cl : List vw_C} {TY : List (ClassId × FieldType)} {WX WC : va_W} {av : List Value} {sz : Nat} {isC : List Nat} (hC : isC.map (fun i => WX[i]?) = WC.map some) (hnd : va_nd isC = true) {a : Array Value} {U : State} (h : cPre D cl TY WX sz av a U) : cPre D cl TY WC sz av a U := by
  obtain ⟨h0, hx, h1, hP, hK, hD⟩ := h
  exact ⟨h0, hx, h1, hP.sub isC (fm_map hC), hK, hD.sub isC hnd hC⟩
theorem fr_I {l : Launch} {y : MethodName} {wsm : List Cond} {rm : Room} {D : va_G} {cl : List vw_C} {TY : List (ClassId × FieldType)} {WX WC WR u0 WX' : va_W} {av : List Value} {r0 : Int32} (hM : ∀ sz, CtI l y wsm rm D cl TY WC av r0 u0 sz) (isC isR isO : List Nat) (hC : isC.map (fun i => WX[i]?) = WC.map some) (hR : isR.map (fun i => WX[i]?) = WR.map some) (hnC : va_nd isC = true) (hnR : va_nd isR = true) (hdis : ∀ i ∈ isR, i ∉ isC) (hO : isO.map (fun i => (WR ++ u0)[i]?) = WX'.map some) (hnO : va_nd isO = true) (sz : Nat) : CtI l y wsm rm D cl TY WX av r0 WX' sz := by
  intro p e ha hc hk s m args below hf happ hPre hT
  obtain ⟨h0, hx, h1, hP, hK, hD⟩ := hPre
  subst h1
  obtain ⟨n, o, a1, a2, a3, ⟨⟨⟨r, u, e1, ⟨e2, e3⟩, hB⟩, hF⟩, L, hL1, hL2⟩⟩ := hM s.heap.size p e ha hc hk s m args below hf happ (fr_pre hC hnC ⟨h0, hx, rfl, hP, hK, hD⟩) hT
  subst e2; subst e3
  obtain ⟨hP1, hK1, hD1⟩ := hB
  obtain ⟨hP2, hD2⟩ := va_join (A0 := va_A WX s.heap.size) (H := s.heap) hP hD.self isC isR hC hR hnR hdis (fun q h2 h3 => hF.2 q h2 h3) (fun q h => fr_A hC h) hP1 hD1
  refine ⟨n, o, a1, a2, a3, ⟨⟨r, WX', e1, ⟨rfl, rfl⟩, hP2.sub isO (fm_map hO), hK1, hD2.sub isO hnO hO⟩, hF.1, fun q h2 h3 => hF.2 q h2 (fun z => h3 (fr_A hC z))⟩, L, hL1, fun q hq => fr_A hC (hL2 q hq)⟩
theorem fr_P {l : Launch} {y : MethodName} {wsm : List Cond} {rm : Room} {D : va_G} {cl : List vw_C} {TY : List (ClassId × FieldType)} {WX WC : va_W} {av : List Value} {r0 : Int32} (hM : ∀ sz, CtP l y wsm rm D cl TY WC av r0 sz) (isC : List Nat) (hC : isC.map (fun i => WX[i]?) = WC.map some) (hnC : va_nd isC = true) (sz : Nat) : CtI l y wsm rm D cl TY WX av r0 WX sz := by
  intro p e ha hc hk s m args below hf happ hPre hT
  obtain ⟨h0, hx, h1, hP, hK, hD⟩ := hPre
  subst h1
  obtain ⟨n, o, a1, a2, a3, ⟨⟨e1, e2⟩, L, hL1, hL2⟩⟩ := hM s.heap.size p e ha hc hk s m args below hf happ (fr_pre hC hnC ⟨h0, hx, rfl, hP, hK, hD⟩) hT
  exact ⟨n, o, a1, a2, a3, ⟨⟨r0, WX, e1, ⟨rfl, rfl⟩, by rw [e2]; exact hP, va_K.moved hL1.2.1.alike hK, hD.self⟩, by rw [e2]; exact Nat.le_refl _, fun q h2 h3 => by rw [e2]⟩, L, hL1, fun q hq => (hL2 q hq).elim⟩
theorem fr_PP {l : Launch} {y : MethodName} {wsm : List Cond} {rm : Room} {D : va_G} {cl : List vw_C} {TY : List (ClassId × FieldType)} {WX WC : va_W} {av : List Value} {r0 : Int32} (hM : ∀ sz, CtP l y wsm rm D cl TY WC av r0 sz) (isC : List Nat) (hC : isC.map (fun i => WX[i]?) = WC.map some) (hnC : va_nd isC = true) (sz : Nat) : CtP l y wsm rm D cl TY WX av r0 sz := by
  intro p e ha hc hk s m args below hf happ hPre hT
  exact hM sz p e ha hc hk s m args below hf happ (fr_pre hC hnC hPre) hT
theorem fr_T {l : Launch} {y : MethodName} {wsm : List Cond} {rm : Room} {D : va_G} {cl : List vw_C} {TY : List (ClassId × FieldType)} {WX WC : va_W} {av : List Value} {E : String} (hM : ∀ sz, CtT l y wsm rm D cl TY WC av E sz) (isC : List Nat) (hC : isC.map (fun i => WX[i]?) = WC.map some) (hnC : va_nd isC = true) (sz : Nat) : CtT l y wsm rm D cl TY WX av E sz := by
  intro p e ha hc hk s m args below hf happ hPre hT
  exact hM sz p e ha hc hk s m args below hf happ ⟨fr_pre hC hnC hPre.1, hPre.2⟩ hT
/-! the law -/
abbrev xz (xs : Nat → Int32) (j : Int) : Int := (xs j.toNat).toInt
theorem xz_rng (xs : Nat → Int32) (j : Int) : -2147483648 ≤ xz xs j ∧ xz xs j ≤ 2147483647 := iz_rng _
theorem X_moved {b L : Nat} {xs : Nat → Int32} {s U : State} {H : Heap} (hW : s.WarmedH U.vm) (h : va_X b L xs s H) : va_X b L xs U H := by
  obtain ⟨scr, h1, h2, h3⟩ := h
  exact ⟨scr, h1, State.isArrayOf_alike hW.alike h2, h3⟩
theorem iz_nat (n : Nat) : Int32.ofNat n = iI (n : Int) := by
  show Int32.ofNat n = Int32.ofInt (n : Int)
  rw [Int32.ofInt_eq_ofNat]
set_option maxRecDepth 100000 in
theorem tL_cell (l : Launch) (b L : Nat) (xs : Nat → Int32) (k : Int) (hk : 0 ≤ k ∧ k ≤ 10) (hL : L ≤ 2050) : Met l yL_cell wsL_cell { frames := 0, cells := 0, slots := 0, locals := 0 } (fun v U => v = ([.ref b, .int (iI k)] : List Value).toArray ∧ va_X b L xs U U.heap ∧ b < U.heap.size) (QcRead (iI (if k < (L : Int) then xz xs k else 0))) 0 0 (fun _ => False) := by
  refine Met.ofW (cc := cL_cell) (maxL := 2) (ret := some .int) (by decide) rfl ?_
  intro p e s m args below meth c s₁ B hml hv
  obtain ⟨rfl, hX, hbl⟩ := hv
  have hl := lv_entry ([.ref b, .int (iI k)] : List Value) (n := 2) (Nat.le_of_ble_eq_true rfl)
  rw [lg_entry_eq]
  have hx := B.exec
  have hb := B.bytes
  have hr := B.returns
  have hlocks := B.notSynchronized
  have hS : va_S (fun _ => False) s.heap s.heap [] := va_S.rf
  refine lv_iload_n hx hb dL_cell_0 rfl (lv_at hl 1 rfl) ?_
  refine lv_aload_n hx hb dL_cell_1 rfl (lv_at hl 0 rfl) ?_
  refine va_slen hx hb hX hbl (fun h => h) hS dL_cell_2 ?_
  rw [iz_nat]
  refine wk_icmp_ge (tgt := 12) hx hb dL_cell_3 (by decide) (by omega) (fun c1 => ?_) (fun c1 => ?_)
  · refine lv_iconst (v := iI 0) hx hb dL_cell_12 rfl ?_
    exact pk_int hx hb hr hlocks (by rw [if_neg (by omega)]) dL_cell_13
  · refine lv_aload_n hx hb dL_cell_6 rfl (lv_at hl 0 rfl) ?_
    refine lv_iload_n hx hb dL_cell_7 rfl (lv_at hl 1 rfl) ?_
    refine wk_sld hx hb hX hbl (fun h => h) hS (by omega) (by omega) rfl dL_cell_8 ?_
    refine lv_goto (tgt := 13) hx hb dL_cell_9 (by decide) ?_
    exact pk_int hx hb hr hlocks (by rw [if_pos (by omega)]) dL_cell_13
