/-! the law's own helpers: a call under 'try', the script, the long cell -/
theorem zt_ff {u U : State} (hv : u.vm = U.vm) (o n d : String) : U.fieldFound? o n d = u.fieldFound? o n d := by simp only [State.fieldFound?, hv]
theorem zt_grow {u U : State} (hv : u.vm = U.vm) (hh : ∀ q, q < u.heap.size → U.heap[q]? = u.heap[q]?) (h : zT u) : zT U := by
  have key : ∀ n d : String, (Cond.laysStatic "java/lang/Throwable" n d).before #[] u = true → (Cond.laysStatic "java/lang/Throwable" n d).before #[] U = true ∧ (Term.static "java/lang/Throwable" n d).eval #[] U none [] U = (Term.static "java/lang/Throwable" n d).eval #[] u none [] u := by
    intro n d h1
    obtain ⟨c, k, i, f, a, cell, e1, e2, e3, e4, e5, e6, e7, e8, e9⟩ := Cond.laysStatic_spec h1
    have hlt : a < u.heap.size := (Array.getElem?_eq_some_iff.mp e5).1
    have e5' : U.heap[a]? = some cell := by rw [hh a hlt]; exact e5
    have e2' : U.fieldFound? "java/lang/Throwable" n d = some (c, k, i, f) := by rw [zt_ff hv]; exact e2
    have e1' : U.vm.findClass "java/lang/Throwable" = some c := by rw [← hv]; exact e1
    refine ⟨?_, ?_⟩
    · simp [Cond.before, Cond.holds, Cond.value, e1', e2', e3, e4, e5', e6, e7, e8, e9]
    · simp [Term.eval, State.fieldNamed?, e2, e2', e3, e4, e5, e5']
  obtain ⟨k1, k2⟩ := key _ _ (h _ (by simp [zL]) : (Cond.laysStatic "java/lang/Throwable" "UNASSIGNED_STACK" "[Ljava/lang/StackTraceElement;").before #[] u = true)
  obtain ⟨k3, k4⟩ := key _ _ (h _ (by simp [zL]) : (Cond.laysStatic "java/lang/Throwable" "SUPPRESSED_SENTINEL" "Ljava/util/List;").before #[] u = true)
  have h3 : (Cond.isRef (.static "java/lang/Throwable" "UNASSIGNED_STACK" "[Ljava/lang/StackTraceElement;")).before #[] u = true := h _ (by simp [zL])
  have h4 : (Cond.isRef (.static "java/lang/Throwable" "SUPPRESSED_SENTINEL" "Ljava/util/List;")).before #[] u = true := h _ (by simp [zL])
  intro w hw
  simp only [zL, List.mem_cons, List.not_mem_nil, or_false] at hw
  rcases hw with rfl | rfl | rfl | rfl
  · exact k1
  · exact k3
  · simp only [Cond.before, Cond.holds, Cond.value] at h3 ⊢; rw [k2]; exact h3
  · simp only [Cond.before, Cond.holds, Cond.value] at h4 ⊢; rw [k4]; exact h4
/-- statics at a heap that has grown, under warmer tables -/
theorem zt_at {s U : State} {A : Nat → Prop} {H : Heap} {locs : List Loc} (hzT : zT s) (hA : ∀ q, q < s.heap.size → ¬ A q) (hS : va_S A s.heap H locs) (hU : U.heap = H) (hW : s.WarmedH U.vm) : zT U := by
  have h1 : zT (s.setVm U.vm) := zt_warm (U := s.setVm U.vm) hW rfl hzT
  refine zt_grow (u := s.setVm U.vm) rfl (fun q hq => ?_) h1
  rw [hU]
  exact hS.2.1 q hq (hA q hq)
section HK
variable {p : Program} {l : Launch} {e : Env} {R : Room} {s : State} {m : MethodId} {args : Array Value} {below : List Frame} {meth : Method} {c : Code} {H : Heap} {locs : List Loc} {cells slots : Nat} {Q : State → Prop} {pc : Nat} {ls : Array Slot} {rest : List Value} {cc : ByteArray}
variable {D : va_G} {cl : List vw_C} {TY : List (ClassId × FieldType)} {ws : va_W} {A : Nat → Prop} {H0 : Heap} {a : Nat}
theorem wk_last (hx : p.tables.exec = Jvm.exec) (hb : c.code = cc) (hK : va_K D cl TY s) (hP : va_P D cl ws H) (hD : va_D A ws) (hS : va_S A H0 H locs) (q0 t0 : Nat) {cA : ClassId} {n : Nat} {f : Nat → Int64} (ha : ws[q0]? = some (a, .inl (cA, n, .inr (.inl f)))) (ht : TY[t0]? = some (cA, .long)) {x : Int64} (hn : 0 < n ∧ n < 2147483648) (hd : decode cc pc = .ok (.lastore, 1)) {ws' : va_W} (hw : ws.set q0 (a, .inl (cA, n, .inr (.inl (vp_updL f 0 x)))) = ws')
    (kk : ∀ (H1 : Heap) (locs1 : List Loc), va_P D cl ws' H1 → va_D A ws' → va_S A H0 H1 locs1 → W p l e R s m args below meth c H1 locs1 cells slots Q (F0 m (pc + 1) ls rest)) : W p l e R s m args below meth c H locs cells slots Q (F0 m pc ls (.long x :: .int (iI 0) :: .ref a :: rest)) := by
  subst hw
  exact va_last hx hb hK hP hD hS q0 t0 ha ht (iz_in (z := 0) (by omega) hn.2) hd kk
theorem wk_lald (hx : p.tables.exec = Jvm.exec) (hb : c.code = cc) (hK : va_K D cl TY s) (hP : va_P D cl ws H) (q0 t0 : Nat) {cA : ClassId} {n : Nat} {f : Nat → Int64} (ha : ws[q0]? = some (a, .inl (cA, n, .inr (.inl f)))) (ht : TY[t0]? = some (cA, .long)) {v : Int64} (hn : 0 < n ∧ n < 2147483648) (hv : f 0 = v) (hd : decode cc pc = .ok (.laload, 1))
    (kk : W p l e R s m args below meth c H locs cells slots Q (F0 m (pc + 1) ls (.long v :: rest))) : W p l e R s m args below meth c H locs cells slots Q (F0 m pc ls (.int (iI 0) :: .ref a :: rest)) := by
  subst hv
  exact va_lald hx hb hK hP q0 t0 ha ht (iz_in (z := 0) (by omega) hn.2) hd kk
/-- a place of the script -/
theorem wk_sld (hx : p.tables.exec = Jvm.exec) (hb : c.code = cc) {b L : Nat} {xs : Nat → Int32} (hX : va_X b L xs s H0) (hbl : b < H0.size) (hbA : ¬ A b) (hS : va_S A H0 H locs) {z v : Int} (hL : L < 2147483648) (hz : 0 ≤ z ∧ z < (L : Int)) (hv : (xs z.toNat).toInt = v) (hd : decode cc pc = .ok (.iaload, 1))
    (kk : W p l e R s m args below meth c H locs cells slots Q (F0 m (pc + 1) ls (.int (iI v) :: rest))) : W p l e R s m args below meth c H locs cells slots Q (F0 m pc ls (.int (iI z) :: .ref b :: rest)) := by
  subst hv
  refine va_sld hx hb hX hbl hbA hS (iz_in hz hL) hd ?_
  rw [iz_clamp (by omega), ← iz_of (xs z.toNat)]
  exact kk
/-- one row of the table of handlers: its class is looked up (the tables may get warmer), and fits or not -/
theorem hs_row {Qh : Handler → Pre} {E : CtlPost} {d : Bool} {acts : List Action} {u : State} {f : JFrame} {x : Addr} {r : ExceptionTableEntry} {t : List ExceptionTableEntry} {cC : ClassId} {cell : Cell} {vm' : Vm} (hr : covers r f.pc = true) (h0 : r.catchType ≠ 0) (hg : (Jvm.resolveClass f.method.cls r.catchType).Gives e.toSetting u.vm (.ok cC) vm') (hcell : u.heap[x]? = some cell) (hobj : ∀ k, cell.vm ≠ .statics k) (hk : ∃ k, vm'.classes[cell.cls]? = some k) (hc : ∃ k, vm'.classes[cC]? = some k) (hsz : vm'.classes.size ≤ u.vm.classes.size) (b : Bool) (hfit : vm'.assignable cell.cls cC = b) :
    wp (findHandler.go f x (r :: t)) Qh E e d acts u ↔ (if b = true then Qh (.found r.handlerPc) d acts (u.setVm vm') else wp (findHandler.go f x t) Qh E e d acts (u.setVm vm')) := by
  simp only [covers] at hr
  obtain ⟨z1, z2⟩ := hg.op (op := VmOp.resolveClass f.method.cls r.catchType) rfl
  obtain ⟨k1, hk1⟩ := hk
  obtain ⟨k2, hk2⟩ := hc
  cases b <;> simp [findHandler.go, hr, h0, z1, z2, hcell, hobj, hk1, hk2, hfit, VmOp.lands_eq z2 hsz, VmOp.dirties, VmOp.acts]
/-- what the search ends in -/
def hs_to (e : Env) (u : State) (f : JFrame) (x : Addr) (hpc : Nat) (vm' : Vm) : Prop := ∀ (Qh : Handler → Pre) (E : CtlPost) (d : Bool) (acts : List Action), wp (findHandler f x) Qh E e d acts u ↔ Qh (.found hpc) d acts (u.setVm vm')
theorem hs_steps {T target : State} {g : JFrame} {x : Addr} {hpc : Nat} {vm' : Vm} (h : At T g.method c below) (hf : hs_to e ((T.setTop g).pushFrame (.throwing x)) g x hpc vm') (hrest : Steps p.tables e below ((T.setVm vm').setTop { g with pc := hpc, stack := [.ref x] }) target) : Steps p.tables e below ((T.setTop g).pushFrame (.throwing x)) target := by
  obtain ⟨hgo, hw⟩ := h.throwing x
  refine Steps.head hgo hw ?_
  have key : ∀ r : List Frame, (stepThrowing e ((T.setTop g).pushFrame (.throwing x)) x (.java g :: r)).1 = (((T.setTop g).pushFrame (.throwing x)).setVm vm').setFrames (.java { g with pc := hpc, stack := [.ref x] } :: r) := by
    intro r
    simp only [stepThrowing, searchFrame, vmDo]
    generalize hr : Sem.go _ e false [] _ = res
    obtain ⟨as, rfl, ha⟩ := Sem.eq_ok_of hr (a := Handler.found hpc) (s' := ((T.setTop g).pushFrame (.throwing x)).setVm vm') (acts' := []) (by simp [hf _ _ _ _])
    rfl
  rw [stepThread_throwing (frames_entered h.top _), key]
  obtain ⟨g₀, hg⟩ := Option.isSome_iff_exists.mp h.top
  obtain ⟨r, hr⟩ := State.topJava?_eq_some.mp hg
  have e1 : (((T.setTop g).pushFrame (.throwing x)).setVm vm').setFrames (.java { g with pc := hpc, stack := [.ref x] } :: T.frames.tail) = (T.setVm vm').setTop { g with pc := hpc, stack := [.ref x] } := by
    have hr' : (T.setVm vm').frames = .java g₀ :: r := hr
    rw [State.setTop_of_frames _ hr', hr]
    show (((T.setTop g).setFrames _).setVm vm').setFrames _ = _
    rw [State.setTop_of_frames _ hr]
    rw [show ((T.setFrames (.java g :: r)).setFrames _).setVm vm' = ((T.setVm vm').setFrames (.java g :: r)).setFrames _ from rfl]
    rw [State.setFrames_setFrames, State.setFrames_setFrames]
    rfl
  rw [e1]
  exact hrest
/-- the callee throws, a handler of this method takes it -/
theorem wt_catch {mc ms : Nat} {st0 : List Value} {E : String} {hpc : Nat} (hr : va_RunT p l e R s m args below meth c H locs cells slots mc ms (F0 m pc ls st0) rest E) (hP : va_P D cl ws H) (hS : va_S A H0 H locs)
    (hfind : ∀ (T' : State) (x : Addr) (ce : Cell), s.WarmedH T'.vm → T'.vm.method? m = some meth → meth.code = some c → T'.heap[x]? = some ce → ce.vm.isStatics = false → s.vm.findClass E = some ce.cls → ∃ vm', s.WarmedH vm' ∧ hs_to e ((T'.setTop (F0 m pc ls rest)).pushFrame (.throwing x)) (F0 m pc ls rest) x hpc vm')
    (kk : ∀ (x : Nat) (H1 : Heap), va_P D cl ws H1 → va_S A H0 H1 locs → W p l e R s m args below meth c H1 locs (cells + mc) (slots + ms) Q (F0 m hpc ls [.ref x])) : W p l e R s m args below meth c H locs cells slots Q (F0 m pc ls st0) := by
  intro T hT X
  obtain ⟨x, ce, T', X', h1, h2, h3, h4, h5, h6, st⟩ := hr T hT X
  have hP1 : va_P D cl ws T'.heap := hP.kept (fun k q hq => h6 _ (hP k q hq).lt)
  have hS1 : va_S A H0 T'.heap locs := ⟨Nat.le_trans hS.1 h5, fun q hq hn => by rw [h6 q (Nat.lt_of_lt_of_le hq hS.1)]; exact hS.2.1 q hq hn, hS.2.2⟩
  obtain ⟨vm', hW', hf⟩ := hfind T' x ce X'.warmed X'.method' X'.code h2 h3 h4
  have X2 := X'.noted hW'
  obtain ⟨t, a1, b1⟩ := kk x T'.heap hP1 hS1 (T'.setVm vm') rfl X2
  exact ⟨t, st.trans (hs_steps (g := F0 m pc ls rest) X'.here hf a1), b1⟩
/-- the first handler takes it -/
theorem hs_1 {own E : String} {hpc ct sp ep : Nat} {tl : List (Nat × Nat × Nat × Nat)} (hadm : l.admits e) (hown : s.vm.findClass own = some m.cls) (hhd : c.exceptionTable.toList.map (fun h => (h.startPc, h.endPc, h.handlerPc, h.catchType)) = (sp, ep, hpc, ct) :: tl) (h0 : ct ≠ 0) (hsp : sp ≤ pc ∧ pc < ep) (hlink : (Cond.classLink own ct E).before args s = true) (hcast : va_Nw (.castable E E) s)
    (T' : State) (x : Addr) (ce : Cell) (hW : s.WarmedH T'.vm) (hm : T'.vm.method? m = some meth) (hc : meth.code = some c) (hx : T'.heap[x]? = some ce) (hst : ce.vm.isStatics = false) (hE : s.vm.findClass E = some ce.cls) : ∃ vm', s.WarmedH vm' ∧ hs_to e ((T'.setTop (F0 m pc ls rest)).pushFrame (.throwing x)) (F0 m pc ls rest) x hpc vm' := by
  have hpl : e.platform.magicAccessors = ({} : Platform).magicAccessors := by rw [hadm.platform]
  obtain ⟨cC, f1, f2⟩ := Cond.classLink_spec hown hlink e.platform hpl
  cases Option.some.inj (f1.symm.trans hE)
  obtain ⟨g1, g2, g3⟩ := State.classEntry (e := e) hW f2
  obtain ⟨c3, c4, k1, k2, k3⟩ := Cond.castable_spec (va_Nw.use (A := args) rfl hcast)
  cases Option.some.inj (k1.symm.trans hE)
  cases Option.some.inj (k2.symm.trans hE)
  have hk : ∃ k, (T'.vm.noted m.cls ct (.cls ce.cls)).classes[ce.cls]? = some k := Vm.classAt_of_findClass (name := E) (by rw [g2.alike.findClass]; exact hE)
  refine ⟨_, g2, fun Qh Eh d acts => ?_⟩
  rw [W.findHandler_eq (meth := meth) (code := c) (by rw [Stand.throwing_vm]; exact hm) hc]
  cases hl : c.exceptionTable.toList with
  | nil => rw [hl] at hhd; simp at hhd
  | cons y ys =>
    rw [hl] at hhd
    simp only [List.map_cons, List.cons.injEq, Prod.mk.injEq] at hhd
    obtain ⟨⟨q1, q2, q3, q4⟩, -⟩ := hhd
    subst q3; subst q4
    rw [hs_row (u := (T'.setTop (F0 m pc ls rest)).pushFrame (.throwing x)) (cC := ce.cls) (cell := ce) (vm' := T'.vm.noted m.cls y.catchType (.cls ce.cls)) (by simp [covers, q1, q2, hsp.1, hsp.2]) h0 (by rw [Stand.throwing_vm]; exact g1) (by rw [Stand.throwing_heap]; exact hx) (VmData.ne_statics_of hst) hk hk (Nat.le_of_eq (Vm.size_noted _ _ _ _)) true (by rw [g2.alike.assignable]; exact k3), if_pos rfl]
/-- the second one takes it -/
theorem hs_2 {own E E1 : String} {hpc h1 ct ct1 sp ep sp1 ep1 : Nat} {tl : List (Nat × Nat × Nat × Nat)} (hadm : l.admits e) (hown : s.vm.findClass own = some m.cls) (hhd : c.exceptionTable.toList.map (fun h => (h.startPc, h.endPc, h.handlerPc, h.catchType)) = (sp1, ep1, h1, ct1) :: (sp, ep, hpc, ct) :: tl) (h0 : ct ≠ 0 ∧ ct1 ≠ 0) (hsp : sp ≤ pc ∧ pc < ep ∧ sp1 ≤ pc ∧ pc < ep1) (hlink1 : (Cond.classLink own ct1 E1).before args s = true) (hlink : (Cond.classLink own ct E).before args s = true) (hcast : va_Nw (.castable E E) s) (hnc : va_Nc E E1 s)
    (T' : State) (x : Addr) (ce : Cell) (hW : s.WarmedH T'.vm) (hm : T'.vm.method? m = some meth) (hc : meth.code = some c) (hx : T'.heap[x]? = some ce) (hst : ce.vm.isStatics = false) (hE : s.vm.findClass E = some ce.cls) : ∃ vm', s.WarmedH vm' ∧ hs_to e ((T'.setTop (F0 m pc ls rest)).pushFrame (.throwing x)) (F0 m pc ls rest) x hpc vm' := by
  have hpl : e.platform.magicAccessors = ({} : Platform).magicAccessors := by rw [hadm.platform]
  obtain ⟨cC, f1, f2⟩ := Cond.classLink_spec hown hlink e.platform hpl
  cases Option.some.inj (f1.symm.trans hE)
  obtain ⟨c1, e1, e2⟩ := Cond.classLink_spec hown hlink1 e.platform hpl
  obtain ⟨a1, a2, a3⟩ := State.classEntry (e := e) hW e2
  obtain ⟨g1, g2, g3⟩ := State.classEntry (e := e) a2 f2
  obtain ⟨c3, c4, k1, k2, k3⟩ := Cond.castable_spec (va_Nw.use (A := args) rfl hcast)
  cases Option.some.inj (k1.symm.trans hE)
  cases Option.some.inj (k2.symm.trans hE)
  obtain ⟨n1, n2, n3, n4, n5⟩ := hnc
  cases Option.some.inj (n3.symm.trans hE)
  cases Option.some.inj (n4.symm.trans e1)
  have hkA : ∃ k, (T'.vm.noted m.cls ct1 (.cls c1)).classes[ce.cls]? = some k := Vm.classAt_of_findClass (name := E) (by rw [a2.alike.findClass]; exact hE)
  have hkB : ∃ k, (T'.vm.noted m.cls ct1 (.cls c1)).classes[c1]? = some k := Vm.classAt_of_findClass (name := E1) (by rw [a2.alike.findClass]; exact e1)
  have hk : ∃ k, ((T'.vm.noted m.cls ct1 (.cls c1)).noted m.cls ct (.cls ce.cls)).classes[ce.cls]? = some k := Vm.classAt_of_findClass (name := E) (by rw [g2.alike.findClass]; exact hE)
  refine ⟨_, g2, fun Qh Eh d acts => ?_⟩
  rw [W.findHandler_eq (meth := meth) (code := c) (by rw [Stand.throwing_vm]; exact hm) hc]
  cases hl : c.exceptionTable.toList with
  | nil => rw [hl] at hhd; simp at hhd
  | cons y ys =>
    cases ys with
    | nil => rw [hl] at hhd; simp at hhd
    | cons z zs =>
      rw [hl] at hhd
      simp only [List.map_cons, List.cons.injEq, Prod.mk.injEq] at hhd
      obtain ⟨⟨p1, p2, p3, p4⟩, ⟨q1, q2, q3, q4⟩, -⟩ := hhd
      subst q3; subst q4; subst p4
      rw [hs_row (u := (T'.setTop (F0 m pc ls rest)).pushFrame (.throwing x)) (cC := c1) (cell := ce) (vm' := T'.vm.noted m.cls y.catchType (.cls c1)) (by simp [covers, p1, p2, hsp.2.2.1, hsp.2.2.2]) h0.2 (by rw [Stand.throwing_vm]; exact a1) (by rw [Stand.throwing_heap]; exact hx) (VmData.ne_statics_of hst) hkA hkB (Nat.le_of_eq (Vm.size_noted _ _ _ _)) false (by rw [a2.alike.assignable]; exact n5), if_neg (by decide)]
      rw [hs_row (u := ((T'.setTop (F0 m pc ls rest)).pushFrame (.throwing x)).setVm (T'.vm.noted m.cls y.catchType (.cls c1))) (cC := ce.cls) (cell := ce) (vm' := (T'.vm.noted m.cls y.catchType (.cls c1)).noted m.cls z.catchType (.cls ce.cls)) (by simp [covers, q1, q2, hsp.1, hsp.2.1]) h0.1 g1 (by show ((T'.setTop (F0 m pc ls rest)).pushFrame (.throwing x)).heap[x]? = _; rw [Stand.throwing_heap]; exact hx) (VmData.ne_statics_of hst) hk hk (Nat.le_of_eq (Vm.size_noted _ _ _ _)) true (by rw [g2.alike.assignable]; exact k3), if_pos rfl]
      rfl
end HK
