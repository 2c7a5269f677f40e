/-! constructors: the world behind one of them is given but for the addresses -/
abbrev cQn (D : va_G) (cl : List vw_C) (TY : List (ClassId × FieldType)) (A : Nat → Prop) (F : va_W → Prop) : Array Value → State → Outcome → State → Prop := va_Qv F (cB D cl TY A) A
abbrev CtN (l : Launch) (y : MethodName) (wsm : List Cond) (rm : Room) (D : va_G) (cl : List vw_C) (TY : List (ClassId × FieldType)) (WS : va_W) (av : List Value) (F : va_W → Prop) (sz mc ms : Nat) : Prop := Met l y wsm rm (cPre D cl TY WS sz av) (cQn D cl TY (va_A WS sz) F) mc ms (va_A WS sz)
theorem ra_uniq {U : State} {c1 c2 : ClassId} {ty : FieldType} (h1 : va_RA U c1 ty) (h2 : va_RA U c2 ty) : c1 = c2 := by
  cases ty with
  | object C =>
    obtain ⟨-, -, -, -, -, e1⟩ := h1
    obtain ⟨-, -, -, -, -, e2⟩ := h2
    exact Option.some.inj (e1.symm.trans e2)
  | _ => exact Option.some.inj (Eq.trans (Eq.symm h1) h2)
section NK
variable {p : Program} {l : Launch} {e : Env} {R : Room} {s : State} {m : MethodId} {args : Array Value} {below : List Frame} {meth : Method} {c : Code} {H : Heap} {locs : List Loc} {cells slots mc ms : Nat} {Q : State → Prop} {pc : Nat} {ls : Array Slot} {rest : List Value} {cc : ByteArray}
variable {D : va_G} {cl : List vw_C} {TY : List (ClassId × FieldType)} {ws WC WR : va_W} {A : Nat → Prop} {H0 : Heap} {As : List Value} {a : Nat}
theorem wk_newa (hx : p.tables.exec = Jvm.exec) (hb : c.code = cc) {atype : ArrayType} (harr : (Cond.arrayClass (newarray.typeOf atype)).before args s = true) {ty : FieldType} (hty : newarray.typeOf atype = ty) (hK : va_K D cl TY s) (hP : va_P D cl ws H) (hD : va_D A ws) (hS : va_S A H0 H locs) (hA : ∀ q, H0.size ≤ q → A q) {kA : ClassId} (t0 : Nat) (ht : TY[t0]? = some (kA, ty))
    {n : Int32} {N' : Nat} {a0 : vp_A} (ha : ∀ cA : ClassId, vp_cell cA a0 = arrV cA N' (fun _ => defaultValue ty)) (hn : ¬ n < 0) (hN : n.toNatClampNeg = N') (hbytes : N' * componentBytes ty ≤ 536870912) (hcells : cells + 1 ≤ R.cells) (hslots : slots + N' ≤ R.slots) (hdg : decode cc pc = .ok (.newarray atype, 2))
    {ws' : Nat → va_W} (hw : ∀ q, ws ++ [(q, .inl (kA, a0))] = ws' q) (kk : ∀ (q : Nat) (H1 : Heap), va_P D cl (ws' q) H1 → va_D A (ws' q) → va_S A H0 H1 locs →
      W p l e R s m args below meth c H1 locs (cells + 1) (slots + N') Q (F0 m (pc + 2) ls (.ref q :: rest))) : W p l e R s m args below meth c H locs cells slots Q (F0 m pc ls (.int n :: rest)) := by
  refine va_newa hx hb harr hty hK hP hD hS hA ha hn hN hbytes hcells hslots hdg (fun q cA H1 hK1 hP1 hD1 hS1 => ?_)
  have e1 : cA = kA := ra_uniq (hK1.2 TY.length (cA, ty) (by simp)).2 (hK.2 t0 _ ht).2
  subst e1
  rw [hw q] at hP1 hD1
  exact kk q H1 hP1 hD1 hS1
theorem wk_newq (hx : p.tables.exec = Jvm.exec) (hb : c.code = cc) {own C : String} {index : Nat} (hown : s.vm.findClass own = some m.cls) (hclink : (Cond.classLink own index C).before args s = true) (hover : va_AO C s) (hK : va_K D cl TY s) (hP : va_P D cl ws H) (hD : va_D A ws) (hS : va_S A H0 H locs) (hA : ∀ q, H0.size ≤ q → A q) {kA : ClassId} (t0 : Nat) (ht : TY[t0]? = some (kA, .object C))
    {n : Int32} {N' : Nat} (hn : ¬ n < 0) (hN : n.toNatClampNeg = N') (hbytes : N' * 4 ≤ 536870912) (hcells : cells + 1 ≤ R.cells) (hslots : slots + N' ≤ R.slots) (hdg : decode cc pc = .ok (.anewarray index, 3))
    {ws' : Nat → va_W} (hw : ∀ q, ws ++ [(q, .inl (kA, N', .inr (.inr (.inr (.inr (fun _ => none))))))] = ws' q) (kk : ∀ (q : Nat) (H1 : Heap), va_P D cl (ws' q) H1 → va_D A (ws' q) → va_S A H0 H1 locs →
      W p l e R s m args below meth c H1 locs (cells + 1) (slots + N') Q (F0 m (pc + 3) ls (.ref q :: rest))) : W p l e R s m args below meth c H locs cells slots Q (F0 m pc ls (.int n :: rest)) := by
  refine va_newq hx hb hown hclink hover hK hP hD hS hA hn hN hbytes hcells hslots hdg (fun q cA H1 hK1 hP1 hD1 hS1 => ?_)
  have e1 : cA = kA := ra_uniq (hK1.2 TY.length (cA, .object C) (by simp)).2 (hK.2 t0 _ ht).2
  subst e1
  rw [hw q] at hP1 hD1
  exact kk q H1 hP1 hD1 hS1
theorem wk_new {c0 : Code} (hx : p.tables.exec = Jvm.exec) (hb : c0.code = cc) {own C : String} {T : u_T} {N ci index : Nat} {Ts : List Cond} (hts : ∀ w ∈ Ts, w.before args s = true) (hin : ∀ w ∈ u_ws C T N, w ∈ Ts) (ty : Nat → FieldType) (hty : ∀ k, k < N → parseFieldDescriptor (T k).2.2.1 = some (ty k)) (hown : s.vm.findClass own = some m.cls) (hcl : (Cond.classLink own index C).before args s = true) (hinst : (Cond.instantiable C N).before args s = true) (hini : (Cond.initialized C).before args s = true)
    (hK : va_K D cl TY s) (hP : va_P D cl ws H) (hD : va_D A ws) (hS : va_S A H0 H locs) (hA : ∀ q, H0.size ≤ q → A q) (hc : cl[ci]? = some (C, T, N)) {fs : List Value} (hfs : ∀ j, j < N → defaultValue (ty j) = vp_V fs j) (hcells : cells + 1 ≤ R.cells) (hslots : slots + N ≤ R.slots) (hdg : decode cc pc = .ok (.new index, 3))
    {ws' : Nat → va_W} (hw : ∀ q, ws ++ [(q, .inr (ci, fs))] = ws' q) (kk : ∀ (q : Nat) (H1 : Heap), va_P D cl (ws' q) H1 → va_D A (ws' q) → va_S A H0 H1 locs →
      W p l e R s m args below meth c0 H1 locs (cells + 1) (slots + N) Q (F0 m (pc + 3) ls (.ref q :: rest))) : W p l e R s m args below meth c0 H locs cells slots Q (F0 m pc ls rest) := by
  refine va_new hx hb hts hin ty hty hown hcl hinst hini hK hP hD hS hA hc hfs hcells hslots hdg (fun q H1 hP1 hD1 hS1 => ?_)
  rw [hw q] at hP1 hD1
  exact kk q H1 hP1 hD1 hS1
theorem wk_putF (hx : p.tables.exec = Jvm.exec) (hb : c.code = cc) {own ref C : String} {T : u_T} {N ci index : Nat} {Ts : List Cond} (hts : ∀ w ∈ Ts, w.before args s = true) (hin : ∀ w ∈ u_ws C T N, w ∈ Ts) (ty0 : Nat → FieldType) (hty : ∀ k, k < N → parseFieldDescriptor (T k).2.2.1 = some (ty0 k)) (hnm : ∀ a, a < N → ∀ b, b < N → a ≠ b → (T a).2.1 ≠ (T b).2.1) (hown : s.vm.findClass own = some m.cls) (hK : va_K D cl TY s) (hP : va_P D cl ws H) (hD : va_D A ws) (hS0 : va_S A H0 H locs) (q0 : Nat) {fs : List Value} (he : ws[q0]? = some (a, .inr (ci, fs))) (hc : cl[ci]? = some (C, T, N)) (k : Nat) (hk : k < N) (hlink : (Cond.fieldLink own index ref (T k).2.1 (T k).2.2.1).before args s = true) (hsame : ∀ x, s.fieldFound? (T k).1 (T k).2.1 (T k).2.2.1 = some x → s.fieldFound? ref (T k).2.1 (T k).2.2.1 = some x) (hfin : (T k).2.2.2 = true) (hin2 : meth.name = "<init>") (hdecl : (T k).1 = own) {ty : FieldType} {v : Value} (hd : parseFieldDescriptor (T k).2.2.1 = some ty) (hn : narrow ty v = v) (hfit : fits ty v = true) (hl : k < fs.length)
    (hdg : decode cc pc = .ok (.putfield index, 3)) {ws' : va_W} (hw : ws.set q0 (a, .inr (ci, fs.set k v)) = ws') (kk : ∀ (H1 : Heap) (locs1 : List Loc), va_P D cl ws' H1 → va_D A ws' → va_S A H0 H1 locs1 → W p l e R s m args below meth c H1 locs1 cells slots Q (F0 m (pc + 3) ls rest)) : W p l e R s m args below meth c H locs cells slots Q (F0 m pc ls (v :: .ref a :: rest)) := by
  subst hw
  exact va_putF hx hb hts hin ty0 hty hnm hown hK hP hD hS0 q0 he hc k hk hlink hsame hfin hin2 hdecl hd hn hfit hl hdg kk
theorem wk_aast (hx : p.tables.exec = Jvm.exec) (hb : c.code = cc) (hK : va_K D cl TY s) (hP : va_P D cl ws H) (hD : va_D A ws) (hS : va_S A H0 H locs) (q0 t0 qk ci : Nat) {cA : ClassId} {r : vw_C} {n v : Nat} {vs : List Value} {f : Nat → Option Nat} (ha : ws[q0]? = some (a, .inl (cA, n, .inr (.inr (.inr (.inr f)))))) (ht : TY[t0]? = some (cA, .object r.1)) (hv : ws[qk]? = some (v, .inr (ci, vs))) (hc : cl[ci]? = some r) {z : Int} {k : Nat} (hz : z = (k : Int)) (hk : k < n ∧ n < 2147483648) (hdg : decode cc pc = .ok (.aastore, 1))
    {ws' : va_W} (hw : ws.set q0 (a, .inl (cA, n, .inr (.inr (.inr (.inr (va_up f k (some v))))))) = ws') (kk : ∀ (H1 : Heap) (locs1 : List Loc), va_P D cl ws' H1 → va_D A ws' → va_S A H0 H1 locs1 → W p l e R s m args below meth c H1 locs1 cells slots Q (F0 m (pc + 1) ls rest)) : W p l e R s m args below meth c H locs cells slots Q (F0 m pc ls (.ref v :: .int (iI z) :: .ref a :: rest)) := by
  subst hz
  refine va_astq hx hb hK hP hD hS q0 t0 qk ci ha ht hv hc (iz_in (z := (k : Int)) (by omega) hk.2) hdg (fun H1 locs1 hP1 hD1 hS1 => ?_)
  rw [iz_clamp (by omega), Int.toNat_natCast, hw] at hP1 hD1
  exact kk H1 locs1 hP1 hD1 hS1
theorem rk_new (hx : p.tables.exec = Jvm.exec) (hb : c.code = cc) (hr : meth.sig.returnType = none) (hlocks : meth.locks = false) (hK : va_K D cl TY s) (hP : va_P D cl ws H) (hD : va_D A ws) (hS : va_S A s.heap H locs) {F : va_W → Prop} (hu : F ws) (hd : decode cc pc = .ok (.return_, 1)) : W p l e R s m args below meth c H locs cells slots (MQ below (cQn D cl TY A F) args s cells slots A) (F0 m pc ls []) :=
  W.vret hx hb hr (fun t ht hW => ⟨⟨_, rfl, hu, by rw [ht]; exact hP, va_K.moved hW.alike hK, hD⟩, hS.F ht⟩) hS.2.2 hd hlocks
theorem ck_backN {ar : Array Value} {st0 : List Value} {F : va_W → Prop} (hr : va_Run p l e R s m args below meth c H locs cells slots mc ms (F0 m pc ls st0) rest (cQn D cl TY (va_A WC H.size) F ar) (va_A WC H.size)) (hP : va_P D cl ws H) (hD : va_D A ws) (hS : va_S A H0 H locs) (hA : ∀ q, H0.size ≤ q → A q) (isC isR : List Nat) (hC : isC.map (fun i => ws[i]?) = WC.map some) (hR : isR.map (fun i => ws[i]?) = WR.map some) (hn : va_nd isR = true) (hdis : ∀ i ∈ isR, i ∉ isC)
    (kk : ∀ (u : va_W), F u → ∀ (H1 : Heap) (locs1 : List Loc), va_P D cl (WR ++ u) H1 → va_D A (WR ++ u) → va_S A H0 H1 locs1 → W p l e R s m args below meth c H1 locs1 (cells + mc) (slots + ms) Q (F0 m (pc + 3) ls rest)) : W p l e R s m args below meth c H locs cells slots Q (F0 m pc ls st0) := by
  have hFc := va_free (wc := WC) hD hS hA isC hC
  refine va_callv hr hS (fun q _ h => hFc q h) hFc (fun u t H1 locs1 ht hvm hw hB hz1 hk1 hS1 => ?_)
  obtain ⟨hP1, hK1, hD1⟩ := hB
  rw [ht] at hP1
  obtain ⟨hP2, hD2⟩ := va_join hP hD isC isR hC hR hn hdis hk1 hFc hP1 hD1
  exact kk u hw H1 locs1 hP2 hD2 hS1
theorem wk_oinit (hx : p.tables.exec = Jvm.exec) (hb : c.code = cc) {own : String} (hown : s.vm.findClass own = some m.cls) {idx : Nat} (hlink : (Cond.methodLink own idx Lib.objectInit).before args s = true) (hinst : (Cond.instanceMethod Lib.objectInit).before args s = true) (hcode : (Cond.code Lib.objectInit ⟨#[0xb1]⟩ 1 none).before args s = true)
    (hsize : ls.size = c.maxLocals) (hd : decode cc pc = .ok (.invokespecial idx, 3)) (hframes : 1 ≤ R.frames) (hlocals : (rest.map fun v => v.category).sum + 12 ≤ R.locals) (kk : W p l e R s m args below meth c H locs cells slots Q (F0 m (pc + 3) ls rest)) : W p l e R s m args below meth c H locs cells slots Q (F0 m pc ls (.ref a :: rest)) :=
  W.objInit hx hb hown hlink hinst hcode rfl hsize rfl hd hframes (by show 2 * 0 + _ + 12 ≤ _; omega) kk
end NK
/-- the verdicts of the reference at its start -/
def mv0 : Nat → Int → Int
  | 0 => fun _ => 0
  | n + 1 => iu (mv0 n) (n : Int) (if (n : Int) < 80 ∧ (n : Int) % 4 = 0 then 0 else 1)
theorem mv0_step {i : Int} (h : 0 ≤ i) : mv0 (i + 1).toNat = iu (mv0 i.toNat) i (if i < 80 ∧ i % 4 = 0 then 0 else 1) := by
  have h1 : (i + 1).toNat = i.toNat + 1 := by omega
  rw [h1]
  show iu (mv0 i.toNat) (i.toNat : Int) (if (i.toNat : Int) < 80 ∧ (i.toNat : Int) % 4 = 0 then 0 else 1) = _
  rw [Int.toNat_of_nonneg h]
/-- the trucks' verdicts at the start -/
def tv0 : Nat → Int → Int
  | 0 => fun _ => 0
  | n + 1 => iu (tv0 n) (n : Int) 1
theorem tv0_step {i : Int} (h : 0 ≤ i) : tv0 (i + 1).toNat = iu (tv0 i.toNat) i 1 := by
  have h1 : (i + 1).toNat = i.toNat + 1 := by omega
  rw [h1]
  show iu (tv0 i.toNat) (i.toNat : Int) 1 = _
  rw [Int.toNat_of_nonneg h]
