/-! methods with handlers: their start, their call -/
def cwBx (R : Room) (s : State) (args : Array Value) (own : String) (index : Nat) (y : MethodName) (bytes : ByteArray) (maxL : Nat) (ret : Option FieldType) (hd : List (Nat × Nat × Nat × Nat)) (wsm : List Cond) (rm : Room) (mc ms n : Nat) : Prop :=
  rm.cells = mc ∧ rm.slots = ms ∧ rm.frames + 1 ≤ R.frames ∧ 8 + (maxL + 11) + rm.locals ≤ R.locals ∧ (∀ w ∈ wsm, ∀ (a' : Array Value) (U : State), s.WarmedH U.vm → w.before a' U = true) ∧ Cond.codeWith y bytes maxL ret hd ∈ wsm ∧
  (Cond.codeWith y bytes maxL ret hd).before args s = true ∧ (Cond.initialized y.cls).before args s = true ∧ (y.cls ≠ "java/lang/invoke/MethodHandle" ∧ y.cls ≠ "java/lang/invoke/VarHandle") ∧ (∀ sig, parseMethodDescriptor y.desc = some sig → n = sig.parameters.length) ∧ (Cond.methodLink own index y).before args s = true ∧ (Cond.static y).before args s = true
theorem cwx {R : Room} {s : State} {args : Array Value} {own : String} {index : Nat} {y : MethodName} {bytes : ByteArray} {maxL : Nat} {ret : Option FieldType} {hd : List (Nat × Nat × Nat × Nat)} {rm : Room} {mc ms : Nat} {Ts : List Cond} (n : Nat) (ht : ∀ w ∈ Ts, w.before args s = true) (hT : ∀ w ∈ tbG, w ∈ Ts) (hc : Cond.codeWith y bytes maxL ret hd ∈ tbG) (hl : Cond.methodLink own index y ∈ tbG) (hst : Cond.static y ∈ tbG) (hi : Cond.initialized y.cls ∈ tbG) (hrc : rm.cells = mc) (hrs : rm.slots = ms)
    (hdd : y.cls ≠ "java/lang/invoke/MethodHandle" ∧ y.cls ≠ "java/lang/invoke/VarHandle" ∧ (parseMethodDescriptor y.desc).map (fun d => d.parameters.length) = some n) (hR : rm.frames + 1 ≤ R.frames ∧ 8 + (maxL + 11) + rm.locals ≤ R.locals) : cwBx R s args own index y bytes maxL ret hd (Cond.codeWith y bytes maxL ret hd :: tbG) rm mc ms n := by
  have hG : GoodIn Ts (Cond.codeWith y bytes maxL ret hd :: tbG) := by
    intro w h
    have h9 : w ∈ tbG := by
      simp only [List.mem_cons] at h
      rcases h with rfl | h <;> assumption
    exact ⟨hT w h9, tb_good h9⟩
  refine ⟨hrc, hrs, hR.1, hR.2, pay_in ht hG, List.mem_cons_self, ht _ (hT _ hc), ht _ (hT _ hi), ⟨hdd.1, hdd.2.1⟩, fun sig h => ?_, ht _ (hT _ hl), ht _ (hT _ hst)⟩
  have h2 := hdd.2.2
  rw [h] at h2
  exact (Option.some.inj h2).symm
section XK
variable {p : Program} {l : Launch} {e : Env} {R : Room} {s : State} {m : MethodId} {args : Array Value} {below : List Frame} {meth : Method} {c : Code} {H : Heap} {locs : List Loc} {cells slots : Nat} {Q : State → Prop} {pc : Nat} {ls : Array Slot} {rest : List Value} {cc : ByteArray}
theorem wh_back {y : MethodName} {bytes : ByteArray} {maxL mc ms n index : Nat} {ret : Option FieldType} {hd : List (Nat × Nat × Nat × Nat)} {wsm : List Cond} {rm : Room} {Pc : Array Value → State → Prop} {Qc : Array Value → State → Outcome → State → Prop} {free : Addr → Prop} {own : String}
    (cb : cwBx R s args own index y bytes maxL ret hd wsm rm mc ms n) (hM : Met l y wsm rm Pc Qc mc ms free) (hbl : FrameBlind Pc) : Back l R p e below s args y 3 8 (PreOf R mc ms Pc) (PostOf Qc mc ms free) := by
  obtain ⟨hrc, hrs, hfr, hlo, hws, hcw, -, hini, -⟩ := cb
  refine Back.of_freeWith (handlers := hd) (S := headSpec wsm rm) (P := Pc) (K := fun _ _ _ _ _ => True) (Q := fun a st o t => Qc a st o t ∧ ∃ L, FrameEnd st o t L mc ms ∧ ∀ q ∈ L, free q.base) (bytes := bytes) (maxL := maxL) (ret := ret)
    (E := fun a st o t L k n => k = mc ∧ n = ms ∧ ∀ q ∈ L, free q.base) hM hfr hlo ?_ ?_ (fun _ _ _ _ _ _ _ _ _ => trivial) ?_ ?_
  · intro m meth c A a X hp
    exact ⟨atoms_intro fun w hw => hws w hw _ _ X.warmed, hws _ hcw _ _ X.warmed, word_at X.warmed (Or.inl (by first | rfl | simp [Cond.onTables, Cond.keeps, Cond.steady])) hini, by rw [show (headSpec wsm rm).room.cells = mc from hrc]; exact hp.1, by rw [show (headSpec wsm rm).room.slots = ms from hrs]; exact hp.2.1⟩
  · intro m meth c A a g mk X hp
    exact hbl _ _ _ _ hp.2.2
  · intro a st o t ⟨hq, L, hF, hL⟩
    exact ⟨L, mc, ms, hF, rfl, rfl, hL⟩
  · intro m meth c A a g mk v t L k n X hp hq hF ⟨e1, e2, hL⟩
    subst e1; subst e2
    exact ⟨g, mk, t, L, rfl, rfl, hq.1, rfl, hL, rfl, rfl⟩
theorem wh_runS {y : MethodName} {bytes : ByteArray} {maxL nL mc ms n index : Nat} {ret : Option FieldType} {hd : List (Nat × Nat × Nat × Nat)} {wsm : List Cond} {rm : Room} {Pc : Array Value → State → Prop} {Qc : Array Value → State → Outcome → State → Prop} {free : Addr → Prop} {Ts : List Cond} {own : String} {As : List Value} {g : JFrame}
    (S : CallFix p m c cc nL s args Ts own) (hM : Met l y wsm rm Pc Qc mc ms free) (cw : cwBx R s args own index y bytes maxL ret hd wsm rm mc ms n) (hp : PreS s H Pc As)
    (hg : g.method = m) (hn : As.length = n) (hsize : g.locals.size = nL) (hstack : g.stack = As.reverse ++ rest) (hW : 2 * g.monitorRoom + (rest.map fun v => v.category).sum ≤ 8) (hdg : decode cc g.pc = .ok (.invokestatic index, 3)) (hf : cells + mc ≤ R.cells ∧ slots + ms ≤ R.slots) :
    va_Run p l e R s m args below meth c H locs cells slots mc ms g rest (Qc As.toArray) free := by
  have hK : Back l R p e below s args y 3 8 (PreOf R mc ms Pc) (PostOf Qc mc ms free) := wh_back cw hM hp.1
  obtain ⟨-, -, -, -, -, -, hcode, hini, hy, hlen, hl, hstt⟩ := cw
  obtain ⟨hx, hb, hml, ho, -⟩ := S
  intro T hT X
  obtain ⟨mk, methM, cM, hnamed, hmethM, -, -, -, -, -, -, hsigM⟩ := Cond.codeWith_spec hcode
  have hstatic : methM.isStatic = true := Cond.static_spec hnamed hmethM hstt
  obtain ⟨kP, hkP, -⟩ := className_of_methodNamed hnamed
  have hinitP : kP.init = .initialized := Cond.initialized_spec (findClass_of_methodNamed hnamed) hkP hini
  obtain ⟨vm₁, X₁, hstep₁⟩ := X.invokestatic hx ho hl hnamed hmethM hstatic hkP hinitP hy (g := g) hg (argsL := As) (rest := rest) (hn.trans (hlen _ hsigM)) hstack (by rw [hb]; exact hdg)
  obtain ⟨v, ⟨U', l2, c2, s2⟩, X', ⟨g', mk', t, L, e1, e2, hq, h1, hL, h2, h3⟩, hsteps⟩ := hK m meth c ⟨T.setVm vm₁, locs, cells, slots⟩ { g with stack := rest } (.invokestatic index) mk As.toArray X₁ hg (hsize.trans hml.symm) (by rw [hb]; exact hdg) hW (X₁.named hnamed) ⟨hf.1, hf.2, hp.2 (T.setVm vm₁) hT X₁.warmed⟩
  dsimp only [Pt.U, Pt.locs, Pt.cells, Pt.slots] at X' e1 e2 h1 h2 h3 hsteps
  subst h1; subst h2; subst h3
  exact ⟨v, (T.setVm vm₁).calling g' mk' As.toArray, t, U', L, hT, X', hL, e1, e2, hq, fun target h => hstep₁ _ fun acts => by rw [doInvoke_state]; exact hsteps.trans h⟩
end XK
/-- a wrapper's contract -/
abbrev CtW (l : Launch) (y : MethodName) (wsm : List Cond) (rm : Room) (D : va_G) (cl : List vw_C) (TY : List (ClassId × FieldType)) (WS : va_W) (av : List Value) (r0 : Int32) (u0 : va_W) (sz mc ms : Nat) : Prop := Met l y wsm rm (cPreT D cl TY WS sz av) (cQi D cl TY (va_A WS sz) r0 u0) mc ms (va_A WS sz)
theorem cPreT_blind {D : va_G} {cl : List vw_C} {TY : List (ClassId × FieldType)} {WS : va_W} {sz : Nat} {av : List Value} : FrameBlind (cPreT D cl TY WS sz av) := fun a U g mk h => ⟨cPre_blind a U g mk h.1, zt_same (u := U) rfl rfl h.2⟩
theorem cw_start {l : Launch} {y : MethodName} {wsm wsm' : List Cond} {rm : Room} {D : va_G} {cl : List vw_C} {TY : List (ClassId × FieldType)} {WS : va_W} {av : List Value} {sz mc ms : Nat} {r0 : Int32} {u0 : va_W} {cc : ByteArray} {maxL : Nat} {ret : Option FieldType} {hd : List (Nat × Nat × Nat × Nat)} {LV : List (Nat × Value)}
    (hy : plainName y.cls = true) (hw : wsm = Cond.codeWith y cc maxL ret hd :: wsm') (hLV : lv_args 0 av = LV) (hlen : (lg_sl av).length ≤ maxL)
    (body : ∀ (p : Program) (e : Env) (s : State) (m : MethodId) (below : List Frame) (meth : Method) (c : Code), l.admits e → p.tables.exec = Jvm.exec → c.code = cc → meth.sig.returnType = ret → c.maxLocals = maxL → (∀ w ∈ wsm, w.before av.toArray s = true) → s.vm.findClass y.cls = some m.cls → meth.locks = false → c.exceptionTable.toList.map (fun h => (h.startPc, h.endPc, h.handlerPc, h.catchType)) = hd →
      xT s → zT s → ∀ (A : Nat → Prop), (∀ q, s.heap.size ≤ q → A q) → va_K D cl TY s → va_P D cl WS s.heap → va_D A WS → va_S A s.heap s.heap [] → ∀ ls : Array Slot, lv_has ls maxL LV → W p l e rm s m av.toArray below meth c s.heap [] 0 0 (MQ below (cQi D cl TY A r0 u0) av.toArray s mc ms A) (F0 m 0 ls [])) :
    CtW l y wsm rm D cl TY WS av r0 u0 sz mc ms := by
  refine MetFree.of_bodyS (code := cc) (maxLocals := maxL) (ret := ret) hy ?_ ?_
  · intro args s m h hn
    obtain ⟨m', meth, c, h0, h1, h2, h3, h4, -, h5, h6, -⟩ := Cond.codeWith_spec (atoms_spec (ws := wsm) h _ (by rw [hw]; exact List.mem_cons_self))
    cases hn.symm.trans h0
    exact ⟨meth, c, h1, h2, h3, h4, h5, h6⟩
  · intro p e s m args below meth c s₁ B hml hv _
    have hh0 : s₁.heap = s.heap := by rw [B.state]; rfl
    obtain ⟨⟨rfl, hxT, hsz, hP, hK, hD0⟩, hzT⟩ := hv
    subst hsz
    have hD := hD0.self (sz := s.heap.size)
    have hA : ∀ q : Nat, s.heap.size ≤ q → va_A WS s.heap.size q := fun q h => Or.inr h
    have hts := atoms_spec (ws := wsm) B.pre
    have hl := lv_entry av (n := maxL) hlen
    rw [hLV] at hl
    obtain ⟨m', meth', c', g0, g1, g2, -, -, g3, -, -, -⟩ := Cond.codeWith_spec (hts _ (by rw [hw]; exact List.mem_cons_self))
    cases B.named.symm.trans g0
    cases B.method.symm.trans g1
    cases (Stand.of_body B).code.symm.trans g2
    have K := body p e s m below meth c (Stand.of_body B).admits B.exec B.bytes B.returns hml hts (findClass_of_methodNamed B.named) B.notSynchronized g3 hxT hzT _ hA hK hP hD va_S.rf _ hl
    rw [← lg_entry_eq] at K
    obtain ⟨t, a1, o, b1, b2, b3⟩ := K s₁ hh0 (Stand.of_body B)
    exact ⟨t, o, a1, b1, b2, ⟨b3.1, b3.2⟩⟩
section YK
variable {p : Program} {l : Launch} {e : Env} {R : Room} {s : State} {m : MethodId} {args : Array Value} {below : List Frame} {meth : Method} {c : Code} {H : Heap} {locs : List Loc} {cells slots mc ms : Nat} {Q : State → Prop} {pc : Nat} {ls : Array Slot} {rest : List Value} {cc : ByteArray}
variable {D : va_G} {cl : List vw_C} {TY : List (ClassId × FieldType)} {ws WC WR u0 : va_W} {A : Nat → Prop} {H0 : Heap} {As : List Value}
theorem ck_preW (hzT : ∀ U : State, U.heap = H → s.WarmedH U.vm → zT U) (hxT : xT s) (hK : va_K D cl TY s) (hP : va_P D cl ws H) (hD : va_D A ws) (isC : List Nat) (hC : isC.map (fun i => ws[i]?) = WC.map some) (hnd : va_nd isC = true) : PreS s H (cPreT D cl TY WC H.size As) As := by
  obtain ⟨h1, h2⟩ := ck_preS (As := As) hxT hK hP hD isC hC hnd
  exact ⟨cPreT_blind, fun U hU hW => ⟨h2 U hU hW, hzT U hU hW⟩⟩
theorem ck_backW {a : Array Value} {st0 : List Value} {r0 : Int32} (hr : va_Run p l e R s m args below meth c H locs cells slots mc ms (F0 m pc ls st0) rest (cQi D cl TY (va_A WC H.size) r0 u0 a) (va_A WC H.size)) (hP : va_P D cl ws H) (hD : va_D A ws) (hS : va_S A H0 H locs) (hA : ∀ q, H0.size ≤ q → A q) (isC isR : List Nat) (hC : isC.map (fun i => ws[i]?) = WC.map some) (hR : isR.map (fun i => ws[i]?) = WR.map some) (hn : va_nd isR = true) (hdis : ∀ i ∈ isR, i ∉ isC)
    {ws' : va_W} (hw : WR ++ u0 = ws') (kk : ∀ (H1 : Heap) (locs1 : List Loc), va_P D cl ws' H1 → va_D A ws' → va_S A H0 H1 locs1 → W p l e R s m args below meth c H1 locs1 (cells + mc) (slots + ms) Q (F0 m (pc + 3) ls (.int r0 :: rest))) : W p l e R s m args below meth c H locs cells slots Q (F0 m pc ls st0) := by
  subst hw
  have hFc := va_free (wc := WC) hD hS hA isC hC
  refine va_calli hr hS (fun q _ h => hFc q h) hFc (fun r u t H1 locs1 ht hvm hw hB hz1 hk1 hS1 => ?_)
  obtain ⟨rfl, rfl⟩ := hw
  obtain ⟨hP1, hK1, hD1⟩ := hB
  rw [ht] at hP1
  obtain ⟨hP2, hD2⟩ := va_join hP hD isC isR hC hR hn hdis hk1 hFc hP1 hD1
  exact kk H1 locs1 hP2 hD2 hS1
/-! a world with one cell more in front -/
theorem tl_C (o : Nat × va_E) (WC : va_W) : (List.range' 1 WC.length).map (fun i => (o :: WC)[i]?) = WC.map some := by
  apply List.ext_getElem?
  intro i
  by_cases h : i < WC.length
  · simp [h, Nat.add_comm 1 i]
  · simp [h]
theorem tl_nd : ∀ (n a : Nat), va_nd (List.range' a n) = true
  | 0, _ => rfl
  | n + 1, a => by
    rw [List.range'_succ]
    simp only [va_nd, Bool.and_eq_true, decide_eq_true_eq]
    exact ⟨fun h => by have := List.mem_range'_1.mp h; omega, tl_nd n (a + 1)⟩
theorem tl_dis (n : Nat) : ∀ i ∈ [0], i ∉ List.range' 1 n := by
  intro i h h2
  simp only [List.mem_cons, List.not_mem_nil, or_false] at h
  have := List.mem_range'_1.mp h2
  omega
theorem wk_lcmpE (hx : p.tables.exec = Jvm.exec) (hb : c.code = cc) {x y : Int64} (hxy : x = y) (hd : decode cc pc = .ok (.lcmp, 1)) (kk : W p l e R s m args below meth c H locs cells slots Q (F0 m (pc + 1) ls (.int (iI 0) :: rest))) : W p l e R s m args below meth c H locs cells slots Q (F0 m pc ls (.long y :: .long x :: rest)) := by
  subst hxy
  refine W.lcmp hx hb hd ?_
  have e1 : lg_cmp x x = iI 0 := by
    unfold lg_cmp
    simp
    rfl
  rw [e1]
  exact kk
end YK
