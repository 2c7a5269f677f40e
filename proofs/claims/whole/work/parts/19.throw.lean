/-! what throws: a new object of the class E, and nothing else has changed -/
def tQ (E : String) (mc ms : Nat) (st : State) (o : Outcome) (t : State) : Prop := ∃ (x : Addr) (ce : Cell), o = .threw x ∧ st.heap.size ≤ x ∧ t.heap[x]? = some ce ∧ ce.vm.isStatics = false ∧ st.vm.findClass E = some ce.cls ∧ st.WarmedH t.vm ∧ st.sameButNew ({ t with vm := st.vm } : State) [] mc ms
def MetT (l : Launch) (y : MethodName) (wsm : List Cond) (rm : Room) (Pc : Array Value → State → Prop) (E : String) (mc ms : Nat) : Prop := MetFree l y (headSpec wsm rm) Pc (fun _ _ _ _ _ => True) (fun _ st o t => tQ E mc ms st o t)
def MQT (below : List Frame) (E : String) (s : State) (mc ms : Nat) : State → Prop := fun t => ∃ o, t.status = .running ∧ Ended t below o ∧ tQ E mc ms s o t
theorem mt_ofW {l : Launch} {y : MethodName} {wsm wsm' : List Cond} {rm : Room} {Pc : Array Value → State → Prop} {E : String} {mc ms : Nat} {cc : ByteArray} {maxL : Nat} {ret : Option FieldType}
    (hy : plainName y.cls = true) (hw : wsm = Cond.code y cc maxL ret :: wsm')
    (body : ∀ p e s m args below meth c s₁, BodyLoose p l y (headSpec wsm rm) cc maxL ret e s m args below meth c s₁ → c.maxLocals = maxL → Pc args s →
      W p l e (headSpec wsm rm).room s m args below meth c s.heap [] 0 0 (MQT below E s mc ms) (entryFrame m args maxL)) : MetT l y wsm rm Pc E mc ms := by
  refine MetFree.of_bodyS (code := cc) (maxLocals := maxL) (ret := ret) hy ?_ ?_
  · intro args s m h hn
    obtain ⟨meth, c, h1, h2, h3, h4, h5, h6, -, -⟩ := Cond.code_spec hn (atoms_spec (ws := wsm) h _ (by rw [hw]; exact List.mem_cons_self))
    exact ⟨meth, c, h1, h2, h3, h4, h5, h6⟩
  · intro p e s m args below meth c s₁ B hml hP _
    have hh0 : s₁.heap = s.heap := by rw [B.state]; rfl
    obtain ⟨t, a1, o, b1, b2, b3⟩ := body p e s m args below meth c s₁ B hml hP s₁ hh0 (Stand.of_body B)
    exact ⟨t, o, a1, b1, b2, b3⟩
section TK
variable {p : Program} {l : Launch} {e : Env} {R : Room} {s : State} {m : MethodId} {args : Array Value} {below : List Frame} {meth : Method} {c : Code} {T : State} {H : Heap} {locs : List Loc} {cells slots : Nat} {Q : State → Prop} {pc : Nat} {ls : Array Slot} {rest : List Value} {cc : ByteArray}
/-- a callee that throws, behind the invoking instruction -/
theorem mt_call (X : Stand p l e R s m args below meth c T locs cells slots) {y : MethodName} {wsm : List Cond} {rm : Room} {Pc : Array Value → State → Prop} {E : String} {mc ms : Nat} {bytes : ByteArray} {maxL : Nat} {ret : Option FieldType} {g : JFrame} {ig : Instr} {len : Nat} {mk : MethodId} {a : Array Value}
    (hM : MetT l y wsm rm Pc E mc ms) (hg : g.method = m) (hsize : g.locals.size = c.maxLocals) (hdg : decode c.code g.pc = .ok (ig, len)) (hW : 2 * g.monitorRoom + (g.stack.map fun v => v.category).sum ≤ 8) (hn : T.methodNamed? y = some mk)
    (hws : ∀ w ∈ wsm, w.before a T = true) (hcode : Cond.code y bytes maxL ret ∈ wsm) (hini : (Cond.initialized y.cls).before a T = true)
    (hfr : rm.frames + 1 ≤ R.frames) (hlo : 8 + (maxL + 11) + rm.locals ≤ R.locals) (hc : cells + rm.cells ≤ R.cells) (hs : slots + rm.slots ≤ R.slots) (hP : Pc a (T.calling g mk a)) :
    ∃ (x : Addr) (ce : Cell) (T' : State), Stand p l e R s m args below meth c T' locs (cells + mc) (slots + ms) ∧ T.heap.size ≤ x ∧ T'.heap[x]? = some ce ∧ ce.vm.isStatics = false ∧ T.vm.findClass E = some ce.cls ∧ T.sameButNew (T'.setVm T.vm) [] mc ms ∧ Steps p.tables e below (doInvoke e (T.setTop g) [] mk a).1 ((T'.setTop g).pushFrame (.throwing x)) := by
  obtain ⟨methY, cY, hmY, hcY, -, hlY, -, -, -, -⟩ := Cond.code_spec hn (hws _ hcode)
  obtain ⟨kY, hkY, -⟩ := className_of_methodNamed hn
  have hinitY : kY.init = .initialized := Cond.initialized_spec (findClass_of_methodNamed hn) hkY hini
  have h : At T g.method c below := by rw [hg]; exact X.here
  have happ : (headSpec wsm rm).appliesLoose y e.platform (T.calling g mk a) = true :=
    Spec.appliesLoose_calling (g := g) h hdg hn hkY hinitY (X.room_calling (g := g) (R' := rm) hsize hmY hcY hfr (by rw [hlY]; omega) hc hs) (atoms_intro hws)
  obtain ⟨mid, hmid⟩ := h.above
  have hfr' : (T.setTop g).frames = (.java g :: mid) ++ below := by rw [State.frames_setTop' g h.top, hmid]; rfl
  obtain ⟨o, s₂, hsteps, -, hend, hq⟩ := Steps.callFree hM p X.admits X.cas X.clock (acts := []) hfr' happ hP trivial
  rw [State.frames_setTop' g h.top, X.tail] at hend
  obtain ⟨x, ce, rfl, hx1, hx2, hx3, hx4, hW2, hsame⟩ := hq
  obtain ⟨T', X', hW', hsame', ht⟩ := X.outOfThrown hg hend hW2 hsame
  rw [List.append_nil] at X'
  subst ht
  rw [Stand.throwing_heap] at hx2
  exact ⟨x, ce, T', X', hx1, hx2, hx3, hx4, hsame', hsteps⟩
/-- a call that throws -/
def va_RunT (p : Program) (l : Launch) (e : Env) (R : Room) (s : State) (m : MethodId) (args : Array Value) (below : List Frame) (meth : Method) (c : Code) (H : Heap) (locs : List Loc) (cells slots mc ms : Nat) (g : JFrame) (rest : List Value) (E : String) : Prop :=
  ∀ T : State, T.heap = H → Stand p l e R s m args below meth c T locs cells slots → ∃ (x : Addr) (ce : Cell) (T' : State), Stand p l e R s m args below meth c T' locs (cells + mc) (slots + ms) ∧ H.size ≤ x ∧ T'.heap[x]? = some ce ∧ ce.vm.isStatics = false ∧ s.vm.findClass E = some ce.cls ∧ H.size ≤ T'.heap.size ∧ (∀ q, q < H.size → T'.heap[q]? = H[q]?) ∧ Steps p.tables e below (T.setTop g) ((T'.setTop { g with stack := rest }).pushFrame (.throwing x))
theorem mt_same {T T' : State} {mc ms : Nat} (h : T.sameButNew (T'.setVm T.vm) [] mc ms) : T.heap.size ≤ T'.heap.size ∧ ∀ q, q < T.heap.size → T'.heap[q]? = T.heap[q]? := by
  obtain ⟨-, h1, -, -, -, h2⟩ := h
  refine ⟨h1, fun q hq => ?_⟩
  obtain ⟨c', e1, e2, e3, e4⟩ := h2 q T.heap[q] (Array.getElem?_eq_getElem hq)
  have e5 : c'.slots = (T.heap[q]).slots := by
    apply Array.ext_getElem?
    intro i
    exact e4 i (fun h => by cases h)
  have e6 : c' = T.heap[q] := by rw [e2, e5]
  rw [Array.getElem?_eq_getElem hq, ← e6]
  exact e1
theorem wt_runV {y : MethodName} {bytes : ByteArray} {maxL nL mc ms n index : Nat} {ret : Option FieldType} {wsm : List Cond} {rm : Room} {Pc : Array Value → State → Prop} {E : String} {Ts : List Cond} {own C : String} {b : Addr} {As : List Value} {g : JFrame}
    (S : CallFix p m c cc nL s args Ts own) (hM : MetT l y wsm rm Pc E mc ms) (cw : CallW R s args own C index y bytes maxL ret wsm rm mc ms n) (hp : PreV s H C b Pc As)
    (hg : g.method = m) (hn : As.length = n) (hsize : g.locals.size = nL) (hstack : g.stack = As.reverse ++ .ref b :: rest) (hW : 2 * g.monitorRoom + (rest.map fun v => v.category).sum ≤ 8) (hdg : decode cc g.pc = .ok (.invokevirtual index, 3)) (hf : cells + mc ≤ R.cells ∧ slots + ms ≤ R.slots) :
    va_RunT p l e R s m args below meth c H locs cells slots mc ms g rest E := by
  obtain ⟨⟨hrc, hrs, hfr, hlo, hws, hcw, hcode, hini, hy, hlen, hl⟩, hin, hse⟩ := cw
  obtain ⟨hx, hb, hml, ho, -⟩ := S
  obtain ⟨hbl, ⟨cellB, hcB, hoB, hclB⟩, hPc⟩ := hp
  intro T hT X
  subst hT
  obtain ⟨mk, methM, hnamed, hmethM, hstM, habM⟩ := Cond.instanceMethod_spec hin
  obtain ⟨methM', cM, hmethM', -, -, -, -, -, -, hsigM⟩ := Cond.code_spec hnamed hcode
  cases hmethM.symm.trans hmethM'
  obtain ⟨c2, r2, m2, q1, q2, q3, q4, kP, hkP, hkPi⟩ := Cond.selects_spec hse
  cases hclB.symm.trans q1
  cases (State.methodFound?_of_named hnamed hy).symm.trans q2
  cases hnamed.symm.trans q3
  have hselP : selectMethod e.platform s.vm cellB.cls mk = .method mk := by rw [Launch.admits_selectMethod X.admits]; exact q4
  obtain ⟨vm₁, X₁, hstep₁⟩ := X.invokevirtual hx ho hl hnamed hmethM hstM hkP hkPi hy (a := b) (cell := cellB) hcB
    (fun z h => by rw [h] at hoB; cases hoB) hselP hmethM habM hkP hkPi (g := g) hg (argsL := As) (rest := rest) (hn.trans (hlen _ hsigM)) hstack (by rw [hb]; exact hdg)
  obtain ⟨x, ce, T', X', h1, h2, h3, h4, h5, hst⟩ := mt_call X₁ (bytes := bytes) (maxL := maxL) (ret := ret) (g := { g with stack := rest }) (ig := .invokevirtual index) (len := 3) (mk := mk) (a := (Value.ref b :: As).toArray) hM hg (hsize.trans hml.symm) (by rw [hb]; exact hdg) hW (X₁.named hnamed)
    (fun w h => hws w h _ _ X₁.warmed) hcw (word_at X₁.warmed (Or.inl (by first | rfl | simp [Cond.onTables, Cond.keeps, Cond.steady])) hini) hfr hlo (by rw [hrc]; exact hf.1) (by rw [hrs]; exact hf.2) (hbl _ _ _ _ (hPc (T.setVm vm₁) rfl X₁.warmed))
  obtain ⟨k1, k2⟩ := mt_same h5
  refine ⟨x, ce, T', X', h1, h2, h3, ?_, k1, k2, hstep₁ _ fun acts => ?_⟩
  · rw [← X₁.warmed.alike.findClass]; exact h4
  · rw [doInvoke_state]; exact hst
theorem mt_noh (h : c.exceptionTable.isEmpty = true) (pc : Nat) : ∀ y ∈ c.exceptionTable.toList, covers y pc = false := by
  have h0 : c.exceptionTable.size = 0 := by simpa [Array.isEmpty] using h
  have h1 : c.exceptionTable.toList = [] := List.eq_nil_of_length_eq_zero (by simpa using h0)
  intro y hy
  rw [h1] at hy
  cases hy
/-- the caller lets it through -/
theorem wt_leave {mc ms : Nat} {st0 : List Value} {E : String} (hr : va_RunT p l e R s m args below meth c s.heap [] 0 0 mc ms (F0 m pc ls st0) rest E) (hnoh : c.exceptionTable.isEmpty = true) (hlocks : meth.locks = false) : W p l e R s m args below meth c s.heap [] 0 0 (MQT below E s mc ms) (F0 m pc ls st0) := by
  intro T hT X
  obtain ⟨x, ce, T', X', h1, h2, h3, h4, h5, h6, st⟩ := hr T hT X
  obtain ⟨l1, l2, l3, l4, l5⟩ := X'.leaveThrown x (g := F0 m pc ls rest) rfl rfl rfl (mt_noh hnoh pc) hlocks
  rw [Nat.zero_add, Nat.zero_add] at l5
  exact ⟨_, st.trans l1, .threw x, l2, l3, x, ce, rfl, h1, h2, h3, h4, l4, l5⟩
/-- behind 'new', 'dup' and the text: the constructor and 'athrow' -/
theorem wt_core {own E : String} {ic q : Nat} {names : List String} (hx : p.tables.exec = Jvm.exec) (hb : c.code = cc) (hown : s.vm.findClass own = some m.cls) (htr : e.platform.stackTraces = false) (hlocks : meth.locks = false) (hnoh : c.exceptionTable.isEmpty = true) (hml : ls.size = c.maxLocals) (hE : Bundle.fit E = true) (hnm : ∀ n ∈ names, Bundle.fit n = true)
    (hat : ∀ a ∈ Bundle.ownAtoms own ic E names, a.before args s = true) {cC : ClassId} {kC : Class} (hfc : s.vm.findClass E = some cC) (hkC : s.vm.classes[cC]? = some kC)
    (hd6 : decode cc pc = .ok (.invokespecial ic, 3)) (hd9 : decode cc (pc + 3) = .ok (.athrow, 1))
    (hfr : names.length + 3 < R.frames) (hlo : (rest.map fun v => v.category).sum + (13 * (names.length + 1) + 43) ≤ R.locals) : W p l e R s m args below meth c (s.heap.push { cls := cC, slots := kC.instanceTypes.map defaultValue, vm := .none }) [] (0 + 1) (0 + 6) (MQT below E s 1 6) (F0 m pc ls (.ref q :: .ref s.heap.size :: .ref s.heap.size :: rest)) := by
  intro T hT X₁
  subst hb
  obtain ⟨U, st, hrun, hend, hW, hsame, ce, hce', hown'⟩ := X₁.ctorThrowS hx htr hown hE hnm hat (fun x h => by cases h) (a := s.heap.size) hfc hkC (by rw [hT]; simp [freshCell]) (Nat.le_refl _) (msg := .ref q) rfl (g := F0 m pc ls (.ref q :: .ref s.heap.size :: .ref s.heap.size :: rest)) rfl hml rfl rfl rfl hd6 hd9 (mt_noh hnoh _) hfr (by simp [Value.category]; simp [Value.category] at hlo; omega) hlocks
  exact ⟨U, st, .threw s.heap.size, hrun, hend, s.heap.size, ce, rfl, Nat.le_refl _, hce', by rw [hown'.vm]; rfl, hown'.cls, hW, hsame⟩
/-- 'ldc_w' of a text -/
theorem wt_ldcw {own tx : String} {index q : Nat} (hx : p.tables.exec = Jvm.exec) (hb : c.code = cc) (hown : s.vm.findClass own = some m.cls) (hZ : vk_R own index tx q s) (hd : decode cc pc = .ok (.ldc_w index, 3))
    (kk : W p l e R s m args below meth c H locs cells slots Q (F0 m (pc + 3) ls (.ref q :: rest))) : W p l e R s m args below meth c H locs cells slots Q (F0 m pc ls rest) := by
  intro T hT X
  obtain ⟨t, a1, b1⟩ := kk T hT X
  refine ⟨t, ?_, b1⟩
  obtain ⟨k, cf, i, a', hk, hcf, hcp, -, hr, hev'⟩ := Cond.stringRef_spec hown hZ.1
  cases hZ.2.symm.trans hev'
  obtain ⟨k', hk', he⟩ := X.warmed.alike.2.2 _ _ hk
  have hr' : k'.resolved[index]? = some (some (.string q)) := by
    rcases X.warmed.entry hk hk' index with h | ⟨h, -⟩
    · rw [h]; exact hr
    · rw [hr] at h; cases h
  subst hb
  jvm_step X.here [hx, hd, ldc_w.wp_string (e := e) (s := T) (f := F0 m pc ls rest) X.here.top hk' (by rw [he]; exact hcf) hcp hr']
  exact a1
/-- 'throw new E("..")' -/
theorem wt_new {own E tx : String} {ia ib ic : Nat} {names : List String} (hx : p.tables.exec = Jvm.exec) (hb : c.code = cc) (hown : s.vm.findClass own = some m.cls) (htr : e.platform.stackTraces = false) (hlocks : meth.locks = false) (hnoh : c.exceptionTable.isEmpty = true) (hml : ls.size = c.maxLocals) (hE : Bundle.fit E = true) (hnm : ∀ n ∈ names, Bundle.fit n = true)
    (hat : ∀ a ∈ Bundle.ownAtoms own ic E names, a.before args s = true) (hcl : (Cond.classLink own ia E).before args s = true) (hini : (Cond.initialized E).before args s = true) {q : Nat} (hZ : vk_R own ib tx q s)
    (hd0 : decode cc pc = .ok (.new ia, 3)) (hd3 : decode cc (pc + 3) = .ok (.dup, 1)) (hd4 : decode cc (pc + 4) = .ok (.ldc ib, 2)) (hd6 : decode cc (pc + 6) = .ok (.invokespecial ic, 3)) (hd9 : decode cc (pc + 9) = .ok (.athrow, 1))
    (hfr : names.length + 3 < R.frames) (hlo : (rest.map fun v => v.category).sum + (13 * (names.length + 1) + 43) ≤ R.locals) (hce : 0 + 1 ≤ R.cells) (hsl : 0 + 6 ≤ R.slots) : W p l e R s m args below meth c s.heap [] 0 0 (MQT below E s 1 6) (F0 m pc ls rest) := by
  refine W.newc hx hb hown hcl (hat (.instantiable E 6) (by simp [Bundle.ownAtoms])) hini rfl hd0 hce hsl ?_
  intro cC kC hfc hkC hkind hsz
  refine lv_dup (pc := pc + 3) hx hb hd3 rfl ?_
  refine va_ldcS (pc := pc + 4) hx hb hown hZ hd4 ?_
  exact wt_core (pc := pc + 6) (q := q) (rest := rest) hx hb hown htr hlocks hnoh hml hE hnm hat hfc hkC hd6 hd9 hfr hlo
theorem wt_newW {own E tx : String} {ia ib ic : Nat} {names : List String} (hx : p.tables.exec = Jvm.exec) (hb : c.code = cc) (hown : s.vm.findClass own = some m.cls) (htr : e.platform.stackTraces = false) (hlocks : meth.locks = false) (hnoh : c.exceptionTable.isEmpty = true) (hml : ls.size = c.maxLocals) (hE : Bundle.fit E = true) (hnm : ∀ n ∈ names, Bundle.fit n = true)
    (hat : ∀ a ∈ Bundle.ownAtoms own ic E names, a.before args s = true) (hcl : (Cond.classLink own ia E).before args s = true) (hini : (Cond.initialized E).before args s = true) {q : Nat} (hZ : vk_R own ib tx q s)
    (hd0 : decode cc pc = .ok (.new ia, 3)) (hd3 : decode cc (pc + 3) = .ok (.dup, 1)) (hd4 : decode cc (pc + 4) = .ok (.ldc_w ib, 3)) (hd6 : decode cc (pc + 7) = .ok (.invokespecial ic, 3)) (hd9 : decode cc (pc + 10) = .ok (.athrow, 1))
    (hfr : names.length + 3 < R.frames) (hlo : (rest.map fun v => v.category).sum + (13 * (names.length + 1) + 43) ≤ R.locals) (hce : 0 + 1 ≤ R.cells) (hsl : 0 + 6 ≤ R.slots) : W p l e R s m args below meth c s.heap [] 0 0 (MQT below E s 1 6) (F0 m pc ls rest) := by
  refine W.newc hx hb hown hcl (hat (.instantiable E 6) (by simp [Bundle.ownAtoms])) hini rfl hd0 hce hsl ?_
  intro cC kC hfc hkC hkind hsz
  refine lv_dup (pc := pc + 3) hx hb hd3 rfl ?_
  refine wt_ldcw (pc := pc + 4) hx hb hown hZ hd4 ?_
  exact wt_core (pc := pc + 7) (q := q) (rest := rest) hx hb hown htr hlocks hnoh hml hE hnm hat hfc hkC hd6 hd9 hfr hlo
end TK
/-! Throwable's statics, of which a constructor reads two -/
def zL : List Cond := [.laysStatic "java/lang/Throwable" "UNASSIGNED_STACK" "[Ljava/lang/StackTraceElement;", .laysStatic "java/lang/Throwable" "SUPPRESSED_SENTINEL" "Ljava/util/List;", .isRef (.static "java/lang/Throwable" "UNASSIGNED_STACK" "[Ljava/lang/StackTraceElement;"), .isRef (.static "java/lang/Throwable" "SUPPRESSED_SENTINEL" "Ljava/util/List;")]
def zT (U : State) : Prop := ∀ w ∈ zL, w.before #[] U = true
theorem zt_args {A : Array Value} {U : State} (h : zT U) : ∀ w ∈ zL, w.before A U = true := by
  intro w hw
  have h1 := h w hw
  simp only [zL, List.mem_cons, List.not_mem_nil, or_false] at hw
  rcases hw with rfl | rfl | rfl | rfl <;> exact h1
theorem zt_same {u U : State} (hv : u.vm = U.vm) (hh : u.heap = U.heap) (h : zT u) : zT U := by
  intro w hw
  have h1 := h w hw
  simp only [zL, List.mem_cons, List.not_mem_nil, or_false] at hw
  rcases hw with rfl | rfl | rfl | rfl <;> (simp only [Cond.before, Cond.holds, Cond.value, Term.eval, State.fieldNamed?, State.fieldFound?, hv, hh] at h1 ⊢; exact h1)
theorem zt_warm {s U : State} (hW : s.WarmedH U.vm) (hh : U.heap = s.heap) (h : zT s) : zT U := by
  refine zt_same (u := s.setVm U.vm) rfl hh.symm ?_
  intro w hw
  have h1 := h w hw
  simp only [zL, List.mem_cons, List.not_mem_nil, or_false] at hw
  rcases hw with rfl | rfl | rfl | rfl <;> exact Cond.holds_shifted (State.Shifted.of_warmed hW) _ [] rfl h1
abbrev exN : List String := ["java/lang/RuntimeException", "java/lang/Exception"]
def xE (E : String) : List Cond := [.castable E E, .declares ⟨"java/lang/RuntimeException", "<init>", "(Ljava/lang/String;)V"⟩, .declares ⟨"java/lang/Exception", "<init>", "(Ljava/lang/String;)V"⟩, .declares ⟨"java/lang/Throwable", "<init>", "(Ljava/lang/String;)V"⟩]
theorem ex_in {args : Array Value} {s : State} {E : String} {ic : Nat} (hts : ∀ w ∈ tbG, w.before args s = true) (hz : zT s) (hx : va_Nw (.castable E E) s) (hxT : xT s) (hd : ∀ a ∈ Bundle.ownAtoms "GateSteps" ic E exN, a ∈ tbG ∨ a ∈ zL ∨ a ∈ xE E) : ∀ a ∈ Bundle.ownAtoms "GateSteps" ic E exN, a.before args s = true := by
  intro a h
  rcases hd a h with h | h | h
  · exact hts a h
  · exact zt_args hz a h
  · simp only [xE, List.mem_cons, List.not_mem_nil, or_false] at h
    rcases h with rfl | rfl | rfl | rfl
    · exact va_Nw.use rfl hx
    · exact va_Nw.use rfl (xt_d_r hxT)
    · exact va_Nw.use rfl (xt_d_e hxT)
    · exact va_Nw.use rfl (xt_d_t hxT)
set_option maxRecDepth 100000 in
theorem ex_d0 : ∀ a ∈ Bundle.ownAtoms "GateSteps" 72 "java/lang/IllegalArgumentException" exN, a ∈ tbG ∨ a ∈ zL ∨ a ∈ xE "java/lang/IllegalArgumentException" := by decide +kernel
theorem ex_a {args : Array Value} {s : State} (hts : ∀ w ∈ tbG, w.before args s = true) (hz : zT s) (hx : xT s) : ∀ a ∈ Bundle.ownAtoms "GateSteps" 72 "java/lang/IllegalArgumentException" exN, a.before args s = true := ex_in hts hz (xt_c_a hx) hx ex_d0
set_option maxRecDepth 100000 in
theorem ex_d1 : ∀ a ∈ Bundle.ownAtoms "GateSteps" 82 "java/lang/IllegalStateException" exN, a ∈ tbG ∨ a ∈ zL ∨ a ∈ xE "java/lang/IllegalStateException" := by decide +kernel
theorem ex_s {args : Array Value} {s : State} (hts : ∀ w ∈ tbG, w.before args s = true) (hz : zT s) (hx : xT s) : ∀ a ∈ Bundle.ownAtoms "GateSteps" 82 "java/lang/IllegalStateException" exN, a.before args s = true := ex_in hts hz (xt_c_s hx) hx ex_d1
set_option maxRecDepth 100000 in
theorem ex_d2 : ∀ a ∈ Bundle.ownAtoms "GateSteps" 197 "java/lang/IndexOutOfBoundsException" exN, a ∈ tbG ∨ a ∈ zL ∨ a ∈ xE "java/lang/IndexOutOfBoundsException" := by decide +kernel
theorem ex_i {args : Array Value} {s : State} (hts : ∀ w ∈ tbG, w.before args s = true) (hz : zT s) (hx : xT s) : ∀ a ∈ Bundle.ownAtoms "GateSteps" 197 "java/lang/IndexOutOfBoundsException" exN, a.before args s = true := ex_in hts hz (xt_c_i hx) hx ex_d2
/-- a throwing contract -/
def cPreT (D : va_G) (cl : List vw_C) (TY : List (ClassId × FieldType)) (WS : va_W) (sz : Nat) (av : List Value) : Array Value → State → Prop := fun v U => cPre D cl TY WS sz av v U ∧ zT U
abbrev CtT (l : Launch) (y : MethodName) (wsm : List Cond) (rm : Room) (D : va_G) (cl : List vw_C) (TY : List (ClassId × FieldType)) (WS : va_W) (av : List Value) (E : String) (sz : Nat) : Prop := MetT l y wsm rm (cPreT D cl TY WS sz av) E 1 6
theorem ck_preT {s : State} {D : va_G} {cl : List vw_C} {TY : List (ClassId × FieldType)} {ws WC : va_W} {A : Nat → Prop} {b : Nat} {As : List Value} (hzT : zT s) (hxT : xT s) (hK : va_K D cl TY s) (hP : va_P D cl ws s.heap) (hD : va_D A ws) (isC : List Nat) (hC : isC.map (fun i => ws[i]?) = WC.map some) (hnd : va_nd isC = true) {C : String} {ci q0 : Nat} {q : vw_C} {fs : List Value} (hc : cl[ci]? = some q) (hq : q.1 = C) (he : WC[q0]? = some (b, .inr (ci, fs))) : PreV s s.heap C b (cPreT D cl TY WC s.heap.size (.ref b :: As)) As := by
  obtain ⟨h1, h2, h3⟩ := ck_preV (As := As) hxT hK hP hD isC hC hnd hc hq he
  exact ⟨fun a U g mk h => ⟨h1 a U g mk h.1, zt_same (u := U) rfl rfl h.2⟩, h2, fun U hU hW => ⟨h3 U hU hW, zt_warm hW hU hzT⟩⟩
theorem ct_start {l : Launch} {y : MethodName} {wsm wsm' : List Cond} {rm : Room} {D : va_G} {cl : List vw_C} {TY : List (ClassId × FieldType)} {WS : va_W} {av : List Value} {sz : Nat} {E : String} {cc : ByteArray} {maxL : Nat} {ret : Option FieldType} {LV : List (Nat × Value)}
    (hy : plainName y.cls = true) (hw : wsm = Cond.code y cc maxL ret :: wsm') (hLV : lv_args 0 av = LV) (hlen : (lg_sl av).length ≤ maxL)
    (body : ∀ (p : Program) (e : Env) (s : State) (m : MethodId) (below : List Frame) (meth : Method) (c : Code), l.admits e → p.tables.exec = Jvm.exec → c.code = cc → meth.sig.returnType = ret → c.maxLocals = maxL → (∀ w ∈ wsm, w.before av.toArray s = true) → s.vm.findClass y.cls = some m.cls → meth.locks = false → meth.name = y.name → c.exceptionTable.isEmpty = true →
      xT s → zT s → ∀ (A : Nat → Prop), (∀ q, s.heap.size ≤ q → A q) → va_K D cl TY s → va_P D cl WS s.heap → va_D A WS → va_S A s.heap s.heap [] → ∀ ls : Array Slot, lv_has ls maxL LV → W p l e rm s m av.toArray below meth c s.heap [] 0 0 (MQT below E s 1 6) (F0 m 0 ls [])) :
    CtT l y wsm rm D cl TY WS av E sz := by
  refine mt_ofW (cc := cc) (maxL := maxL) (ret := ret) hy hw ?_
  intro p e s m args below meth c s₁ B hml hv
  obtain ⟨⟨rfl, hxT, hsz, hP, hK, hD0⟩, hzT⟩ := hv
  subst hsz
  have hD := hD0.self (sz := s.heap.size)
  have hA : ∀ q : Nat, s.heap.size ≤ q → va_A WS s.heap.size q := fun q h => Or.inr h
  have hts := atoms_spec (ws := wsm) B.pre
  have hl := lv_entry av (n := maxL) hlen
  rw [lg_entry_eq]
  rw [hLV] at hl
  exact body p e s m below meth c (Stand.of_body B).admits B.exec B.bytes B.returns hml hts (findClass_of_methodNamed B.named) B.notSynchronized (name_of_methodNamed B.named B.method).1 (B.noHandlers (hts _ (by rw [hw]; exact List.mem_cons_self))) hxT hzT _ hA hK hP hD va_S.rf _ hl
