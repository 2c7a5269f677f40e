/-! the law's worlds side by side -/
theorem ap_C (W1 W2 : va_W) : (List.range' 0 W1.length).map (fun i => (W1 ++ W2)[i]?) = W1.map some := by
  apply List.ext_getElem?
  intro i
  by_cases h : i < W1.length
  · simp [h, List.getElem?_append_left h]
  · simp [h]
theorem ap_R (W1 W2 : va_W) : (List.range' W1.length W2.length).map (fun i => (W1 ++ W2)[i]?) = W2.map some := by
  apply List.ext_getElem?
  intro i
  by_cases h : i < W2.length
  · simp [h, List.getElem?_append_right (Nat.le_add_right _ _)]
  · simp [h]
theorem ap_dis (a n : Nat) : ∀ i ∈ List.range' a n, i ∉ List.range' 0 a := by
  intro i h h2
  have h3 := List.mem_range'_1.mp h
  have h4 := List.mem_range'_1.mp h2
  omega
theorem fr_o {l : Launch} {y : MethodName} {wsm : List Cond} {rm : Room} {D : va_G} {cl : List vw_C} {TY : List (ClassId × FieldType)} {WX WX' : va_W} {av : List Value} {r0 : Int32} (o : Nat × va_E) (hM : ∀ sz, CtI l y wsm rm D cl TY WX av r0 WX' sz) (sz : Nat) : CtI l y wsm rm D cl TY (o :: WX) av r0 (o :: WX') sz :=
  fr_I (WR := [o]) hM (List.range' 1 WX.length) [0] (List.range' 0 (o :: WX').length) (tl_C _ _) rfl (tl_nd _ _) rfl (tl_dis _) (by have h := ap_C (o :: WX') []; rw [List.append_nil] at h; exact h) (tl_nd _ _) sz
abbrev lA (s : State) : Nat → Prop := fun q => s.heap.size ≤ q
/-- what stays through the law -/
def lcA (p : Program) (l : Launch) (e : Env) (s : State) (m : MethodId) (meth : Method) (c : Code) (b L : Nat) (xs : Nat → Int32) (D : va_G) (kI kZ kL kJ : ClassId) : Prop :=
  p.tables.exec = Jvm.exec ∧ c.code = cL_law ∧ meth.sig.returnType = ret ∧ c.maxLocals = 7 ∧ s.vm.findClass RL = some m.cls ∧ (∀ w ∈ lw_tbl, w.before #[Value.ref b] s = true) ∧ va_X b L xs s s.heap ∧ b < s.heap.size ∧ meth.locks = false ∧ l.admits e ∧ xT s ∧ zT s ∧ va_K D vwCl (tyL kI kZ kL kJ) s ∧ L ≤ 2050
abbrev oL (kJ : ClassId) (ao : Nat) (f : Nat → Int64) : Nat × va_E := (ao, .inl (kJ, 1, .inr (.inl f)))
theorem lz_pre {s : State} {H : Heap} {locs : List Loc} (hzT : zT s) (hS : va_S (lA s) s.heap H locs) : ∀ U : State, U.heap = H → s.WarmedH U.vm → zT U := fun U hU hW => zt_at hzT (fun q hq h => by have h2 : s.heap.size ≤ q := h; omega) hS hU hW
