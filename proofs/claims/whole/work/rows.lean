section
-- ===== PART A: goes FIRST, ahead of the names: the tables' words, and 'selects' of the private methods out of them =====
/-- a private method of a class that the tables say can be made, by its rows of tables_1 -/
def lw_okq (q : MethodName × Nat) : Prop := (q.1.cls ≠ "java/lang/invoke/MethodHandle" ∧ q.1.cls ≠ "java/lang/invoke/VarHandle") ∧ Cond.instantiable q.1.cls q.2 ∈ tables_1 ∧ Cond.privateMethod q.1 ∈ tables_1 ∧ Cond.instanceMethod q.1 ∈ tables_1
theorem lw_p0 : lw_okq (⟨"java/lang/Throwable", "fillInStackTrace", "(I)Ljava/lang/Throwable;"⟩, 6) := ⟨⟨by decide +kernel, by decide +kernel⟩, List.mem_of_getElem? (i := 287) (by decide +kernel), List.mem_of_getElem? (i := 285) (by decide +kernel), List.mem_of_getElem? (i := 286) (by decide +kernel)⟩
theorem lw_p1 : lw_okq (⟨"GateSteps$Boxes", "isNumberOf", "(I[I)Z"⟩, 5) := ⟨⟨by decide +kernel, by decide +kernel⟩, List.mem_of_getElem? (i := 41) (by decide +kernel), List.mem_of_getElem? (i := 363) (by decide +kernel), List.mem_of_getElem? (i := 364) (by decide +kernel)⟩
theorem lw_p2 : lw_okq (⟨"GateSteps", "needBox", "(I)V"⟩, 11) := ⟨⟨by decide +kernel, by decide +kernel⟩, List.mem_of_getElem? (i := 17) (by decide +kernel), List.mem_of_getElem? (i := 384) (by decide +kernel), List.mem_of_getElem? (i := 385) (by decide +kernel)⟩
theorem lw_p3 : lw_okq (⟨"GateSteps", "needTruck", "(I)V"⟩, 11) := ⟨⟨by decide +kernel, by decide +kernel⟩, List.mem_of_getElem? (i := 17) (by decide +kernel), List.mem_of_getElem? (i := 404) (by decide +kernel), List.mem_of_getElem? (i := 405) (by decide +kernel)⟩
theorem lw_p4 : lw_okq (⟨"GateSteps", "withdraw", "(I)I"⟩, 11) := ⟨⟨by decide +kernel, by decide +kernel⟩, List.mem_of_getElem? (i := 17) (by decide +kernel), List.mem_of_getElem? (i := 418) (by decide +kernel), List.mem_of_getElem? (i := 419) (by decide +kernel)⟩
theorem lw_p5 : lw_okq (⟨"GateSteps", "end", "(I)V"⟩, 11) := ⟨⟨by decide +kernel, by decide +kernel⟩, List.mem_of_getElem? (i := 17) (by decide +kernel), List.mem_of_getElem? (i := 430) (by decide +kernel), List.mem_of_getElem? (i := 431) (by decide +kernel)⟩
theorem lw_p6 : lw_okq (⟨"GateSteps", "needSlot", "(I)V"⟩, 11) := ⟨⟨by decide +kernel, by decide +kernel⟩, List.mem_of_getElem? (i := 17) (by decide +kernel), List.mem_of_getElem? (i := 441) (by decide +kernel), List.mem_of_getElem? (i := 442) (by decide +kernel)⟩
theorem lw_p7 : lw_okq (⟨"GateSteps", "otherSlot", "(I)I"⟩, 11) := ⟨⟨by decide +kernel, by decide +kernel⟩, List.mem_of_getElem? (i := 17) (by decide +kernel), List.mem_of_getElem? (i := 455) (by decide +kernel), List.mem_of_getElem? (i := 456) (by decide +kernel)⟩
theorem lw_p8 : lw_okq (⟨"GateSteps", "needBooking", "(I)V"⟩, 11) := ⟨⟨by decide +kernel, by decide +kernel⟩, List.mem_of_getElem? (i := 17) (by decide +kernel), List.mem_of_getElem? (i := 475) (by decide +kernel), List.mem_of_getElem? (i := 476) (by decide +kernel)⟩
theorem lw_p9 : lw_okq (⟨"GateSteps", "needTime", "(I)V"⟩, 11) := ⟨⟨by decide +kernel, by decide +kernel⟩, List.mem_of_getElem? (i := 17) (by decide +kernel), List.mem_of_getElem? (i := 480) (by decide +kernel), List.mem_of_getElem? (i := 481) (by decide +kernel)⟩
theorem lw_p10 : lw_okq (⟨"GateSteps", "firstBar", "(I)I"⟩, 11) := ⟨⟨by decide +kernel, by decide +kernel⟩, List.mem_of_getElem? (i := 17) (by decide +kernel), List.mem_of_getElem? (i := 485) (by decide +kernel), List.mem_of_getElem? (i := 486) (by decide +kernel)⟩
theorem lw_p11 : lw_okq (⟨"GateSteps", "isAhead", "(I)Z"⟩, 11) := ⟨⟨by decide +kernel, by decide +kernel⟩, List.mem_of_getElem? (i := 17) (by decide +kernel), List.mem_of_getElem? (i := 489) (by decide +kernel), List.mem_of_getElem? (i := 490) (by decide +kernel)⟩
theorem lw_p12 : lw_okq (⟨"GateSteps", "isOver", "(I)Z"⟩, 11) := ⟨⟨by decide +kernel, by decide +kernel⟩, List.mem_of_getElem? (i := 17) (by decide +kernel), List.mem_of_getElem? (i := 493) (by decide +kernel), List.mem_of_getElem? (i := 494) (by decide +kernel)⟩
theorem lw_p13 : lw_okq (⟨"GateSteps", "firstBarOfBox", "(I)I"⟩, 11) := ⟨⟨by decide +kernel, by decide +kernel⟩, List.mem_of_getElem? (i := 17) (by decide +kernel), List.mem_of_getElem? (i := 501) (by decide +kernel), List.mem_of_getElem? (i := 502) (by decide +kernel)⟩
theorem lw_p14 : lw_okq (⟨"GateSteps", "laneFor", "(I)I"⟩, 11) := ⟨⟨by decide +kernel, by decide +kernel⟩, List.mem_of_getElem? (i := 17) (by decide +kernel), List.mem_of_getElem? (i := 513) (by decide +kernel), List.mem_of_getElem? (i := 514) (by decide +kernel)⟩
theorem lw_p15 : lw_okq (⟨"GateSteps", "joinLane", "(II)V"⟩, 11) := ⟨⟨by decide +kernel, by decide +kernel⟩, List.mem_of_getElem? (i := 17) (by decide +kernel), List.mem_of_getElem? (i := 517) (by decide +kernel), List.mem_of_getElem? (i := 518) (by decide +kernel)⟩
def lw_privs_1 : List (MethodName × Nat) := [(⟨"java/lang/Throwable", "fillInStackTrace", "(I)Ljava/lang/Throwable;"⟩, 6), (⟨"GateSteps$Boxes", "isNumberOf", "(I[I)Z"⟩, 5), (⟨"GateSteps", "needBox", "(I)V"⟩, 11), (⟨"GateSteps", "needTruck", "(I)V"⟩, 11), (⟨"GateSteps", "withdraw", "(I)I"⟩, 11), (⟨"GateSteps", "end", "(I)V"⟩, 11), (⟨"GateSteps", "needSlot", "(I)V"⟩, 11), (⟨"GateSteps", "otherSlot", "(I)I"⟩, 11), (⟨"GateSteps", "needBooking", "(I)V"⟩, 11), (⟨"GateSteps", "needTime", "(I)V"⟩, 11), (⟨"GateSteps", "firstBar", "(I)I"⟩, 11), (⟨"GateSteps", "isAhead", "(I)Z"⟩, 11), (⟨"GateSteps", "isOver", "(I)Z"⟩, 11), (⟨"GateSteps", "firstBarOfBox", "(I)I"⟩, 11), (⟨"GateSteps", "laneFor", "(I)I"⟩, 11), (⟨"GateSteps", "joinLane", "(II)V"⟩, 11)]
theorem lw_r1 : ∀ q ∈ lw_privs_1, lw_okq q := List.forall_mem_cons.mpr ⟨lw_p0, List.forall_mem_cons.mpr ⟨lw_p1, List.forall_mem_cons.mpr ⟨lw_p2, List.forall_mem_cons.mpr ⟨lw_p3, List.forall_mem_cons.mpr ⟨lw_p4, List.forall_mem_cons.mpr ⟨lw_p5, List.forall_mem_cons.mpr ⟨lw_p6, List.forall_mem_cons.mpr ⟨lw_p7, List.forall_mem_cons.mpr ⟨lw_p8, List.forall_mem_cons.mpr ⟨lw_p9, List.forall_mem_cons.mpr ⟨lw_p10, List.forall_mem_cons.mpr ⟨lw_p11, List.forall_mem_cons.mpr ⟨lw_p12, List.forall_mem_cons.mpr ⟨lw_p13, List.forall_mem_cons.mpr ⟨lw_p14, List.forall_mem_cons.mpr ⟨lw_p15, fun _ h => absurd h List.not_mem_nil⟩⟩⟩⟩⟩⟩⟩⟩⟩⟩⟩⟩⟩⟩⟩⟩
theorem lw_p16 : lw_okq (⟨"GateSteps", "isWithinTolerance", "(II)Z"⟩, 11) := ⟨⟨by decide +kernel, by decide +kernel⟩, List.mem_of_getElem? (i := 17) (by decide +kernel), List.mem_of_getElem? (i := 534) (by decide +kernel), List.mem_of_getElem? (i := 535) (by decide +kernel)⟩
theorem lw_p17 : lw_okq (⟨"GateSteps", "finish", "(I)V"⟩, 11) := ⟨⟨by decide +kernel, by decide +kernel⟩, List.mem_of_getElem? (i := 17) (by decide +kernel), List.mem_of_getElem? (i := 541) (by decide +kernel), List.mem_of_getElem? (i := 542) (by decide +kernel)⟩
theorem lw_p18 : lw_okq (⟨"GateStepsModel", "fails", "(I)I"⟩, 25) := ⟨⟨by decide +kernel, by decide +kernel⟩, List.mem_of_getElem? (i := 575) (by decide +kernel), List.mem_of_getElem? (i := 671) (by decide +kernel), List.mem_of_getElem? (i := 672) (by decide +kernel)⟩
theorem lw_p19 : lw_okq (⟨"GateStepsModel", "checkLetter", "()I"⟩, 25) := ⟨⟨by decide +kernel, by decide +kernel⟩, List.mem_of_getElem? (i := 575) (by decide +kernel), List.mem_of_getElem? (i := 683) (by decide +kernel), List.mem_of_getElem? (i := 684) (by decide +kernel)⟩
theorem lw_p20 : lw_okq (⟨"GateStepsModel", "isKnown", "()Z"⟩, 25) := ⟨⟨by decide +kernel, by decide +kernel⟩, List.mem_of_getElem? (i := 575) (by decide +kernel), List.mem_of_getElem? (i := 692) (by decide +kernel), List.mem_of_getElem? (i := 693) (by decide +kernel)⟩
theorem lw_p21 : lw_okq (⟨"GateStepsModel", "isSlot", "(I)Z"⟩, 25) := ⟨⟨by decide +kernel, by decide +kernel⟩, List.mem_of_getElem? (i := 575) (by decide +kernel), List.mem_of_getElem? (i := 704) (by decide +kernel), List.mem_of_getElem? (i := 705) (by decide +kernel)⟩
theorem lw_p22 : lw_okq (⟨"GateStepsModel", "full", "(I)I"⟩, 25) := ⟨⟨by decide +kernel, by decide +kernel⟩, List.mem_of_getElem? (i := 575) (by decide +kernel), List.mem_of_getElem? (i := 708) (by decide +kernel), List.mem_of_getElem? (i := 709) (by decide +kernel)⟩
theorem lw_p23 : lw_okq (⟨"GateStepsModel", "inSlot", "(I)I"⟩, 25) := ⟨⟨by decide +kernel, by decide +kernel⟩, List.mem_of_getElem? (i := 575) (by decide +kernel), List.mem_of_getElem? (i := 712) (by decide +kernel), List.mem_of_getElem? (i := 713) (by decide +kernel)⟩
theorem lw_p24 : lw_okq (⟨"GateStepsModel", "isBooking", "(I)Z"⟩, 25) := ⟨⟨by decide +kernel, by decide +kernel⟩, List.mem_of_getElem? (i := 575) (by decide +kernel), List.mem_of_getElem? (i := 720) (by decide +kernel), List.mem_of_getElem? (i := 721) (by decide +kernel)⟩
theorem lw_p25 : lw_okq (⟨"GateStepsModel", "isTime", "(I)Z"⟩, 25) := ⟨⟨by decide +kernel, by decide +kernel⟩, List.mem_of_getElem? (i := 575) (by decide +kernel), List.mem_of_getElem? (i := 724) (by decide +kernel), List.mem_of_getElem? (i := 725) (by decide +kernel)⟩
theorem lw_p26 : lw_okq (⟨"GateStepsModel", "bar", "(I)I"⟩, 25) := ⟨⟨by decide +kernel, by decide +kernel⟩, List.mem_of_getElem? (i := 575) (by decide +kernel), List.mem_of_getElem? (i := 728) (by decide +kernel), List.mem_of_getElem? (i := 729) (by decide +kernel)⟩
theorem lw_p27 : lw_okq (⟨"GateStepsModel", "verdictOf", "(II)I"⟩, 25) := ⟨⟨by decide +kernel, by decide +kernel⟩, List.mem_of_getElem? (i := 575) (by decide +kernel), List.mem_of_getElem? (i := 732) (by decide +kernel), List.mem_of_getElem? (i := 733) (by decide +kernel)⟩
theorem lw_p28 : lw_okq (⟨"GateStepsModel", "isTruckIn", "(I)Z"⟩, 25) := ⟨⟨by decide +kernel, by decide +kernel⟩, List.mem_of_getElem? (i := 575) (by decide +kernel), List.mem_of_getElem? (i := 736) (by decide +kernel), List.mem_of_getElem? (i := 737) (by decide +kernel)⟩
theorem lw_p29 : lw_okq (⟨"GateStepsModel", "inLane", "(I)I"⟩, 25) := ⟨⟨by decide +kernel, by decide +kernel⟩, List.mem_of_getElem? (i := 575) (by decide +kernel), List.mem_of_getElem? (i := 740) (by decide +kernel), List.mem_of_getElem? (i := 741) (by decide +kernel)⟩
theorem lw_p30 : lw_okq (⟨"GateStepsModel", "comes", "(II)V"⟩, 25) := ⟨⟨by decide +kernel, by decide +kernel⟩, List.mem_of_getElem? (i := 575) (by decide +kernel), List.mem_of_getElem? (i := 744) (by decide +kernel), List.mem_of_getElem? (i := 745) (by decide +kernel)⟩
theorem lw_p31 : lw_okq (⟨"GateStepsModel", "inOrder", "(II)I"⟩, 25) := ⟨⟨by decide +kernel, by decide +kernel⟩, List.mem_of_getElem? (i := 575) (by decide +kernel), List.mem_of_getElem? (i := 753) (by decide +kernel), List.mem_of_getElem? (i := 754) (by decide +kernel)⟩
def lw_privs_2 : List (MethodName × Nat) := [(⟨"GateSteps", "isWithinTolerance", "(II)Z"⟩, 11), (⟨"GateSteps", "finish", "(I)V"⟩, 11), (⟨"GateStepsModel", "fails", "(I)I"⟩, 25), (⟨"GateStepsModel", "checkLetter", "()I"⟩, 25), (⟨"GateStepsModel", "isKnown", "()Z"⟩, 25), (⟨"GateStepsModel", "isSlot", "(I)Z"⟩, 25), (⟨"GateStepsModel", "full", "(I)I"⟩, 25), (⟨"GateStepsModel", "inSlot", "(I)I"⟩, 25), (⟨"GateStepsModel", "isBooking", "(I)Z"⟩, 25), (⟨"GateStepsModel", "isTime", "(I)Z"⟩, 25), (⟨"GateStepsModel", "bar", "(I)I"⟩, 25), (⟨"GateStepsModel", "verdictOf", "(II)I"⟩, 25), (⟨"GateStepsModel", "isTruckIn", "(I)Z"⟩, 25), (⟨"GateStepsModel", "inLane", "(I)I"⟩, 25), (⟨"GateStepsModel", "comes", "(II)V"⟩, 25), (⟨"GateStepsModel", "inOrder", "(II)I"⟩, 25)]
theorem lw_r2 : ∀ q ∈ lw_privs_2, lw_okq q := List.forall_mem_cons.mpr ⟨lw_p16, List.forall_mem_cons.mpr ⟨lw_p17, List.forall_mem_cons.mpr ⟨lw_p18, List.forall_mem_cons.mpr ⟨lw_p19, List.forall_mem_cons.mpr ⟨lw_p20, List.forall_mem_cons.mpr ⟨lw_p21, List.forall_mem_cons.mpr ⟨lw_p22, List.forall_mem_cons.mpr ⟨lw_p23, List.forall_mem_cons.mpr ⟨lw_p24, List.forall_mem_cons.mpr ⟨lw_p25, List.forall_mem_cons.mpr ⟨lw_p26, List.forall_mem_cons.mpr ⟨lw_p27, List.forall_mem_cons.mpr ⟨lw_p28, List.forall_mem_cons.mpr ⟨lw_p29, List.forall_mem_cons.mpr ⟨lw_p30, List.forall_mem_cons.mpr ⟨lw_p31, fun _ h => absurd h List.not_mem_nil⟩⟩⟩⟩⟩⟩⟩⟩⟩⟩⟩⟩⟩⟩⟩⟩
def lw_privs : List (MethodName × Nat) := lw_privs_1 ++ (lw_privs_2)
def lw_tbl : List Cond := k2_sels lw_privs ++ tables_1
theorem lw_privs_ok : ∀ q ∈ lw_privs, lw_okq q := by
  show ∀ q ∈ lw_privs_1 ++ (lw_privs_2), lw_okq q
  exact List.forall_mem_append.mpr ⟨lw_r1, lw_r2⟩
end
section
abbrev RL : String := "GateStepsLaw"
abbrev RX0 : String := "GateSteps$Bookings"
def TX0 : u_T := fun k => match k with
  | 0 => ("GateSteps$Bookings", "slot", "[I", true)
  | 1 => ("GateSteps$Bookings", "truck", "[I", true)
  | 2 => ("GateSteps$Bookings", "box", "[I", true)
  | 3 => ("GateSteps$Bookings", "state", "[I", true)
  | 4 => ("GateSteps$Bookings", "lane", "[I", true)
  | 5 => ("GateSteps$Bookings", "came", "[I", true)
  | 6 => ("GateSteps$Bookings", "turn", "[I", true)
  | _ => ("GateSteps$Bookings", "size", "I", false)
def tyX0 : Nat → FieldType := fun k => match k with
  | 0 => .array .int
  | 1 => .array .int
  | 2 => .array .int
  | 3 => .array .int
  | 4 => .array .int
  | 5 => .array .int
  | 6 => .array .int
  | _ => .int
theorem nmX0 : ∀ a, a < 8 → ∀ b, b < 8 → a ≠ b → (TX0 a).2.1 ≠ (TX0 b).2.1 := by decide +kernel
theorem tyX0_ok : ∀ k, k < 8 → parseFieldDescriptor (TX0 k).2.2.1 = some (tyX0 k) := by decide +kernel
abbrev RX1 : String := "GateSteps$Boxes"
def TX1 : u_T := fun k => match k with
  | 0 => ("GateSteps$Boxes", "signs", "[I", true)
  | 1 => ("GateSteps$Boxes", "weight", "[I", true)
  | 2 => ("GateSteps$Boxes", "dangerous", "[Z", true)
  | 3 => ("GateSteps$Boxes", "verdicts", "[I", true)
  | _ => ("GateSteps$Boxes", "size", "I", false)
def tyX1 : Nat → FieldType := fun k => match k with
  | 0 => .array .int
  | 1 => .array .int
  | 2 => .array .boolean
  | 3 => .array .int
  | _ => .int
theorem nmX1 : ∀ a, a < 5 → ∀ b, b < 5 → a ≠ b → (TX1 a).2.1 ≠ (TX1 b).2.1 := by decide +kernel
theorem tyX1_ok : ∀ k, k < 5 → parseFieldDescriptor (TX1 k).2.2.1 = some (tyX1 k) := by decide +kernel
abbrev RX2 : String := "GateSteps$Lane"
def TX2 : u_T := fun k => match k with
  | 0 => ("GateSteps$Lane", "waiting", "[I", true)
  | _ => ("GateSteps$Lane", "size", "I", false)
def tyX2 : Nat → FieldType := fun k => match k with
  | 0 => .array .int
  | _ => .int
theorem nmX2 : ∀ a, a < 2 → ∀ b, b < 2 → a ≠ b → (TX2 a).2.1 ≠ (TX2 b).2.1 := by decide +kernel
theorem tyX2_ok : ∀ k, k < 2 → parseFieldDescriptor (TX2 k).2.2.1 = some (tyX2 k) := by decide +kernel
abbrev RX3 : String := "GateSteps$SignRow"
def TX3 : u_T := fun k => match k with
  | 0 => ("GateSteps$SignRow", "signs", "[I", true)
  | _ => ("GateSteps$SignRow", "size", "I", false)
def tyX3 : Nat → FieldType := fun k => match k with
  | 0 => .array .int
  | _ => .int
theorem nmX3 : ∀ a, a < 2 → ∀ b, b < 2 → a ≠ b → (TX3 a).2.1 ≠ (TX3 b).2.1 := by decide +kernel
theorem tyX3_ok : ∀ k, k < 2 → parseFieldDescriptor (TX3 k).2.2.1 = some (tyX3 k) := by decide +kernel
abbrev RX4 : String := "GateSteps$Slots"
def TX4 : u_T := fun k => match k with
  | 0 => ("GateSteps$Slots", "taken", "[I", true)
  | 1 => ("GateSteps$Slots", "size", "I", true)
  | _ => ("GateSteps$Slots", "room", "I", true)
def tyX4 : Nat → FieldType := fun k => match k with
  | 0 => .array .int
  | 1 => .int
  | _ => .int
theorem nmX4 : ∀ a, a < 3 → ∀ b, b < 3 → a ≠ b → (TX4 a).2.1 ≠ (TX4 b).2.1 := by decide +kernel
theorem tyX4_ok : ∀ k, k < 3 → parseFieldDescriptor (TX4 k).2.2.1 = some (tyX4 k) := by decide +kernel
abbrev RX5 : String := "GateSteps$Trucks"
def TX5 : u_T := fun k => match k with
  | _ => ("GateSteps$Trucks", "verdicts", "[I", true)
def tyX5 : Nat → FieldType := fun k => match k with
  | _ => .array .int
theorem nmX5 : ∀ a, a < 1 → ∀ b, b < 1 → a ≠ b → (TX5 a).2.1 ≠ (TX5 b).2.1 := by decide +kernel
theorem tyX5_ok : ∀ k, k < 1 → parseFieldDescriptor (TX5 k).2.2.1 = some (tyX5 k) := by decide +kernel
abbrev RX6 : String := "GateSteps"
def TX6 : u_T := fun k => match k with
  | 0 => ("GateSteps", "row", "LGateSteps$SignRow;", true)
  | 1 => ("GateSteps", "boxes", "LGateSteps$Boxes;", true)
  | 2 => ("GateSteps", "trucks", "LGateSteps$Trucks;", true)
  | 3 => ("GateSteps", "slots", "LGateSteps$Slots;", true)
  | 4 => ("GateSteps", "bookings", "LGateSteps$Bookings;", true)
  | 5 => ("GateSteps", "lanes", "[LGateSteps$Lane;", true)
  | 6 => ("GateSteps", "now", "I", false)
  | 7 => ("GateSteps", "allowed", "I", false)
  | 8 => ("GateSteps", "longestTurn", "I", false)
  | 9 => ("GateSteps", "allTurns", "I", false)
  | _ => ("GateSteps", "doneBookings", "I", false)
def tyX6 : Nat → FieldType := fun k => match k with
  | 0 => .object "GateSteps$SignRow"
  | 1 => .object "GateSteps$Boxes"
  | 2 => .object "GateSteps$Trucks"
  | 3 => .object "GateSteps$Slots"
  | 4 => .object "GateSteps$Bookings"
  | 5 => .array (.object "GateSteps$Lane")
  | 6 => .int
  | 7 => .int
  | 8 => .int
  | 9 => .int
  | _ => .int
theorem nmX6 : ∀ a, a < 11 → ∀ b, b < 11 → a ≠ b → (TX6 a).2.1 ≠ (TX6 b).2.1 := by decide +kernel
theorem tyX6_ok : ∀ k, k < 11 → parseFieldDescriptor (TX6 k).2.2.1 = some (tyX6 k) := by decide +kernel
abbrev RX7 : String := "GateStepsModel"
def TX7 : u_T := fun k => match k with
  | 0 => ("GateStepsModel", "thrown", "I", false)
  | 1 => ("GateStepsModel", "slots", "I", true)
  | 2 => ("GateStepsModel", "most", "I", true)
  | 3 => ("GateStepsModel", "now", "I", false)
  | 4 => ("GateStepsModel", "row", "[I", true)
  | 5 => ("GateStepsModel", "signs", "I", false)
  | 6 => ("GateStepsModel", "boxes", "I", false)
  | 7 => ("GateStepsModel", "number", "[I", true)
  | 8 => ("GateStepsModel", "weight", "[I", true)
  | 9 => ("GateStepsModel", "dangerous", "[Z", true)
  | 10 => ("GateStepsModel", "verdict", "[I", true)
  | 11 => ("GateStepsModel", "bookings", "I", false)
  | 12 => ("GateStepsModel", "slot", "[I", true)
  | 13 => ("GateStepsModel", "truck", "[I", true)
  | 14 => ("GateStepsModel", "box", "[I", true)
  | 15 => ("GateStepsModel", "state", "[I", true)
  | 16 => ("GateStepsModel", "lane", "[I", true)
  | 17 => ("GateStepsModel", "order", "[I", true)
  | 18 => ("GateStepsModel", "since", "[I", true)
  | 19 => ("GateStepsModel", "turn", "[I", true)
  | 20 => ("GateStepsModel", "came", "I", false)
  | 21 => ("GateStepsModel", "tolerance", "I", false)
  | 22 => ("GateStepsModel", "longest", "I", false)
  | 23 => ("GateStepsModel", "together", "I", false)
  | _ => ("GateStepsModel", "done", "I", false)
def tyX7 : Nat → FieldType := fun k => match k with
  | 0 => .int
  | 1 => .int
  | 2 => .int
  | 3 => .int
  | 4 => .array .int
  | 5 => .int
  | 6 => .int
  | 7 => .array .int
  | 8 => .array .int
  | 9 => .array .boolean
  | 10 => .array .int
  | 11 => .int
  | 12 => .array .int
  | 13 => .array .int
  | 14 => .array .int
  | 15 => .array .int
  | 16 => .array .int
  | 17 => .array .int
  | 18 => .array .int
  | 19 => .array .int
  | 20 => .int
  | 21 => .int
  | 22 => .int
  | 23 => .int
  | _ => .int
theorem nmX7 : ∀ a, a < 25 → ∀ b, b < 25 → a ≠ b → (TX7 a).2.1 ≠ (TX7 b).2.1 := by decide +kernel
theorem tyX7_ok : ∀ k, k < 25 → parseFieldDescriptor (TX7 k).2.2.1 = some (tyX7 k) := by decide +kernel
abbrev vwCl : List vw_C := [(RX0, TX0, 8), (RX1, TX1, 5), (RX2, TX2, 2), (RX3, TX3, 2), (RX4, TX4, 3), (RX5, TX5, 1), (RX6, TX6, 11), (RX7, TX7, 25)]
/-- the tables' words that go with a method -/
def tbG : List Cond := lw_tbl.filter goodWord
theorem tb_in {w : Cond} (h : w ∈ lw_tbl) (g : goodWord w = true) : w ∈ tbG := List.mem_filter.mpr ⟨h, g⟩
theorem tb_good {w : Cond} (h : w ∈ tbG) : (w.onTables && w.keeps) = true ∨ ∃ ty, w = .arrayClass ty := good_of_word (List.mem_filter.mp h).2
theorem tb_tbl {w : Cond} (h : w ∈ tbG) : w ∈ lw_tbl := (List.mem_filter.mp h).1
theorem gd_V {Ts : List Cond} (hT : ∀ w ∈ tbG, w ∈ Ts) {own C : String} {idx n : Nat} {y : MethodName} {cc : ByteArray} {ret : Option FieldType} (h1 : Cond.methodLink own idx y ∈ tbG) (h2 : Cond.instanceMethod y ∈ tbG) (h3 : Cond.selects C y y ∈ tbG) (h4 : Cond.initialized C ∈ tbG) (h5 : Cond.code y cc n ret ∈ tbG) : GoodIn Ts (wsV own idx C y (Cond.code y cc n ret :: tbG)) := by
  intro w h
  have h9 : w ∈ tbG := by
    simp only [wsV, List.mem_append, List.mem_cons, List.not_mem_nil, or_false] at h
    rcases h with (rfl | rfl | rfl | rfl) | rfl | h <;> assumption
  exact ⟨hT w h9, tb_good h9⟩
theorem gd_S {Ts : List Cond} (hT : ∀ w ∈ tbG, w ∈ Ts) {own : String} {idx n : Nat} {y : MethodName} {cc : ByteArray} {ret : Option FieldType} (h1 : Cond.methodLink own idx y ∈ tbG) (h2 : Cond.static y ∈ tbG) (h4 : Cond.initialized own ∈ tbG) (h5 : Cond.code y cc n ret ∈ tbG) : GoodIn Ts (wsS own idx y (Cond.code y cc n ret :: tbG)) := by
  intro w h
  have h9 : w ∈ tbG := by
    simp only [wsS, List.mem_append, List.mem_cons, List.not_mem_nil, or_false] at h
    rcases h with (rfl | rfl | rfl) | rfl | h <;> assumption
  exact ⟨hT w h9, tb_good h9⟩
theorem gd_N {Ts : List Cond} (hT : ∀ w ∈ tbG, w ∈ Ts) {n : Nat} {y : MethodName} {cc : ByteArray} {ret : Option FieldType} (h5 : Cond.code y cc n ret ∈ tbG) : GoodIn Ts (Cond.code y cc n ret :: tbG) := by
  intro w h
  have h9 : w ∈ tbG := by
    simp only [List.mem_cons] at h
    rcases h with rfl | h <;> assumption
  exact ⟨hT w h9, tb_good h9⟩
theorem tb_cons {c : Cond} : ∀ w ∈ tbG, w ∈ c :: tbG := fun _ h => List.mem_cons_of_mem _ h
abbrev cX6_init : ByteArray := prog_1_method_1_code
abbrev yX6_init : MethodName := ⟨RX6, "<init>", "(II)V"⟩
def wsX6_init : List Cond := Cond.code yX6_init cX6_init 4 none :: tbG
abbrev cX3_init : ByteArray := prog_5_method_1_code
abbrev yX3_init : MethodName := ⟨RX3, "<init>", "()V"⟩
def wsX3_init : List Cond := Cond.code yX3_init cX3_init 1 none :: tbG
abbrev cX1_init : ByteArray := prog_3_method_1_code
abbrev yX1_init : MethodName := ⟨RX1, "<init>", "()V"⟩
def wsX1_init : List Cond := Cond.code yX1_init cX1_init 1 none :: tbG
abbrev cX5_init : ByteArray := prog_7_method_1_code
abbrev yX5_init : MethodName := ⟨RX5, "<init>", "()V"⟩
def wsX5_init : List Cond := Cond.code yX5_init cX5_init 2 none :: tbG
abbrev cX6_held : ByteArray := prog_1_method_17_code
abbrev yX6_held : MethodName := ⟨RX6, "held", "(II)I"⟩
def wsX6_held : List Cond := Cond.code yX6_held cX6_held 2 (some .int) :: tbG
abbrev cX4_init : ByteArray := prog_6_method_1_code
abbrev yX4_init : MethodName := ⟨RX4, "<init>", "(II)V"⟩
def wsX4_init : List Cond := Cond.code yX4_init cX4_init 3 none :: tbG
abbrev cX0_init : ByteArray := prog_2_method_1_code
abbrev yX0_init : MethodName := ⟨RX0, "<init>", "()V"⟩
def wsX0_init : List Cond := Cond.code yX0_init cX0_init 1 none :: tbG
abbrev cX2_init : ByteArray := prog_4_method_1_code
abbrev yX2_init : MethodName := ⟨RX2, "<init>", "()V"⟩
def wsX2_init : List Cond := Cond.code yX2_init cX2_init 1 none :: tbG
abbrev cX6_clear : ByteArray := prog_1_method_3_code
abbrev yX6_clear : MethodName := ⟨RX6, "clear", "()I"⟩
def wsX6_clear : List Cond := Cond.code yX6_clear cX6_clear 2 (some .int) :: tbG
abbrev cX6_letter : ByteArray := prog_1_method_4_code
abbrev yX6_letter : MethodName := ⟨RX6, "letter", "()I"⟩
def wsX6_letter : List Cond := Cond.code yX6_letter cX6_letter 1 (some .int) :: tbG
abbrev cX3_checkLetter : ByteArray := prog_5_method_4_code
abbrev yX3_checkLetter : MethodName := ⟨RX3, "checkLetter", "()I"⟩
def wsX3_checkLetter : List Cond := Cond.code yX3_checkLetter cX3_checkLetter 3 (some .int) :: tbG
abbrev cX3_worth : ByteArray := prog_5_method_6_code
abbrev yX3_worth : MethodName := ⟨RX3, "worth", "(I)I"⟩
def wsX3_worth : List Cond := Cond.code yX3_worth cX3_worth 1 (some .int) :: tbG
abbrev cX6_isLetter : ByteArray := prog_1_method_18_code
abbrev yX6_isLetter : MethodName := ⟨RX6, "isLetter", "(I)Z"⟩
def wsX6_isLetter : List Cond := Cond.code yX6_isLetter cX6_isLetter 1 (some .boolean) :: tbG
abbrev cX6_tolerance : ByteArray := prog_1_method_10_code
abbrev yX6_tolerance : MethodName := ⟨RX6, "tolerance", "(I)Z"⟩
def wsX6_tolerance : List Cond := Cond.code yX6_tolerance cX6_tolerance 2 (some .boolean) :: tbG
abbrev cX6_queue : ByteArray := prog_1_method_13_code
abbrev yX6_queue : MethodName := ⟨RX6, "queue", "(II)I"⟩
def wsX6_queue : List Cond := Cond.code yX6_queue cX6_queue 3 (some .int) :: tbG
abbrev cX6_isLane : ByteArray := prog_1_method_20_code
abbrev yX6_isLane : MethodName := ⟨RX6, "isLane", "(I)Z"⟩
def wsX6_isLane : List Cond := Cond.code yX6_isLane cX6_isLane 1 (some .boolean) :: tbG
abbrev cX2_bookingAt : ByteArray := prog_4_method_3_code
abbrev yX2_bookingAt : MethodName := ⟨RX2, "bookingAt", "(I)I"⟩
def wsX2_bookingAt : List Cond := Cond.code yX2_bookingAt cX2_bookingAt 2 (some .int) :: tbG
abbrev cX6_count : ByteArray := prog_1_method_16_code
abbrev yX6_count : MethodName := ⟨RX6, "count", "(I)I"⟩
def wsX6_count : List Cond := Cond.code yX6_count cX6_count 3 (some .int) :: tbG
abbrev cX4_has : ByteArray := prog_6_method_2_code
abbrev yX4_has : MethodName := ⟨RX4, "has", "(I)Z"⟩
def wsX4_has : List Cond := Cond.code yX4_has cX4_has 2 (some .boolean) :: tbG
abbrev cL_cell : ByteArray := method_2_code
abbrev yL_cell : MethodName := ⟨RL, "cell", "([II)I"⟩
def wsL_cell : List Cond := Cond.code yL_cell cL_cell 2 (some .int) :: tbG
abbrev cL_sign : ByteArray := method_3_code
abbrev yL_sign : MethodName := ⟨RL, "sign", "(LGateSteps;I[J)I"⟩
def wsL_sign : List Cond := Cond.codeWith yL_sign cL_sign 4 (some .int) [(0, 9, 12, 13), (0, 9, 15, 15)] :: tbG
abbrev cX6_sign : ByteArray := prog_1_method_2_code
abbrev yX6_sign : MethodName := ⟨RX6, "sign", "(I)I"⟩
def wsX6_sign : List Cond := Cond.code yX6_sign cX6_sign 2 (some .int) :: tbG
abbrev cX6_isDigit : ByteArray := prog_1_method_19_code
abbrev yX6_isDigit : MethodName := ⟨RX6, "isDigit", "(I)Z"⟩
def wsX6_isDigit : List Cond := Cond.code yX6_isDigit cX6_isDigit 1 (some .boolean) :: tbG
abbrev cX3_fits : ByteArray := prog_5_method_2_code
abbrev yX3_fits : MethodName := ⟨RX3, "fits", "(I)Z"⟩
def wsX3_fits : List Cond := Cond.code yX3_fits cX3_fits 3 (some .boolean) :: tbG
abbrev cX3_add : ByteArray := prog_5_method_3_code
abbrev yX3_add : MethodName := ⟨RX3, "add", "(I)V"⟩
def wsX3_add : List Cond := Cond.code yX3_add cX3_add 2 none :: tbG
abbrev cL_box : ByteArray := method_4_code
abbrev yL_box : MethodName := ⟨RL, "box", "(LGateSteps;IZ[J)I"⟩
def wsL_box : List Cond := Cond.codeWith yL_box cL_box 5 (some .int) [(0, 10, 13, 13), (0, 10, 17, 15)] :: tbG
abbrev cX6_box : ByteArray := prog_1_method_5_code
abbrev yX6_box : MethodName := ⟨RX6, "box", "(IZ)I"⟩
def wsX6_box : List Cond := Cond.code yX6_box cX6_box 4 (some .int) :: tbG
abbrev cX3_endsWithCheckLetter : ByteArray := prog_5_method_5_code
abbrev yX3_endsWithCheckLetter : MethodName := ⟨RX3, "endsWithCheckLetter", "()Z"⟩
def wsX3_endsWithCheckLetter : List Cond := Cond.code yX3_endsWithCheckLetter cX3_endsWithCheckLetter 1 (some .boolean) :: tbG
abbrev cX1_hasNumber : ByteArray := prog_3_method_3_code
abbrev yX1_hasNumber : MethodName := ⟨RX1, "hasNumber", "([I)Z"⟩
def wsX1_hasNumber : List Cond := Cond.code yX1_hasNumber cX1_hasNumber 3 (some .boolean) :: tbG
abbrev cX1_isNumberOf : ByteArray := prog_3_method_4_code
abbrev yX1_isNumberOf : MethodName := ⟨RX1, "isNumberOf", "(I[I)Z"⟩
def wsX1_isNumberOf : List Cond := Cond.code yX1_isNumberOf cX1_isNumberOf 4 (some .boolean) :: tbG
abbrev cX1_add : ByteArray := prog_3_method_2_code
abbrev yX1_add : MethodName := ⟨RX1, "add", "([IIZ)I"⟩
def wsX1_add : List Cond := Cond.code yX1_add cX1_add 6 (some .int) :: tbG
abbrev cX1_judge : ByteArray := prog_3_method_5_code
abbrev yX1_judge : MethodName := ⟨RX1, "judge", "(III)V"⟩
def wsX1_judge : List Cond := Cond.code yX1_judge cX1_judge 4 none :: tbG
abbrev cL_check : ByteArray := method_5_code
abbrev yL_check : MethodName := ⟨RL, "check", "(LGateSteps;III[J)I"⟩
def wsL_check : List Cond := Cond.codeWith yL_check cL_check 6 (some .int) [(0, 12, 15, 25), (0, 12, 19, 13)] :: tbG
abbrev cX6_check : ByteArray := prog_1_method_6_code
abbrev yX6_check : MethodName := ⟨RX6, "check", "(III)I"⟩
def wsX6_check : List Cond := Cond.code yX6_check cX6_check 4 (some .int) :: tbG
abbrev cX6_needBox : ByteArray := prog_1_method_24_code
abbrev yX6_needBox : MethodName := ⟨RX6, "needBox", "(I)V"⟩
def wsX6_needBox : List Cond := Cond.code yX6_needBox cX6_needBox 2 none :: tbG
abbrev cX6_needTruck : ByteArray := prog_1_method_23_code
abbrev yX6_needTruck : MethodName := ⟨RX6, "needTruck", "(I)V"⟩
def wsX6_needTruck : List Cond := Cond.code yX6_needTruck cX6_needTruck 2 none :: tbG
abbrev cX6_canBe : ByteArray := prog_1_method_21_code
abbrev yX6_canBe : MethodName := ⟨RX6, "canBe", "(II)Z"⟩
def wsX6_canBe : List Cond := Cond.code yX6_canBe cX6_canBe 2 (some .boolean) :: tbG
abbrev cX5_judge : ByteArray := prog_7_method_2_code
abbrev yX5_judge : MethodName := ⟨RX5, "judge", "(III)V"⟩
def wsX5_judge : List Cond := Cond.code yX5_judge cX5_judge 4 none :: tbG
abbrev cX6_withdraw : ByteArray := prog_1_method_37_code
abbrev yX6_withdraw : MethodName := ⟨RX6, "withdraw", "(I)I"⟩
def wsX6_withdraw : List Cond := Cond.code yX6_withdraw cX6_withdraw 3 (some .int) :: tbG
abbrev cX0_inWithBox : ByteArray := prog_2_method_5_code
abbrev yX0_inWithBox : MethodName := ⟨RX0, "inWithBox", "(I)I"⟩
def wsX0_inWithBox : List Cond := Cond.code yX0_inWithBox cX0_inWithBox 3 (some .int) :: tbG
abbrev cX2_remove : ByteArray := prog_4_method_4_code
abbrev yX2_remove : MethodName := ⟨RX2, "remove", "(I)V"⟩
def wsX2_remove : List Cond := Cond.code yX2_remove cX2_remove 4 none :: tbG
abbrev cX6_end : ByteArray := prog_1_method_36_code
abbrev yX6_end : MethodName := ⟨RX6, "end", "(I)V"⟩
def wsX6_end : List Cond := Cond.code yX6_end cX6_end 2 none :: tbG
abbrev cL_book : ByteArray := method_6_code
abbrev yL_book : MethodName := ⟨RL, "book", "(LGateSteps;III[J)I"⟩
def wsL_book : List Cond := Cond.codeWith yL_book cL_book 6 (some .int) [(0, 12, 15, 25), (0, 12, 19, 15)] :: tbG
abbrev cX6_book : ByteArray := prog_1_method_7_code
abbrev yX6_book : MethodName := ⟨RX6, "book", "(III)I"⟩
def wsX6_book : List Cond := Cond.code yX6_book cX6_book 4 (some .int) :: tbG
abbrev cX6_needSlot : ByteArray := prog_1_method_22_code
abbrev yX6_needSlot : MethodName := ⟨RX6, "needSlot", "(I)V"⟩
def wsX6_needSlot : List Cond := Cond.code yX6_needSlot cX6_needSlot 2 none :: tbG
abbrev cX0_holdsBox : ByteArray := prog_2_method_3_code
abbrev yX0_holdsBox : MethodName := ⟨RX0, "holdsBox", "(I)Z"⟩
def wsX0_holdsBox : List Cond := Cond.code yX0_holdsBox cX0_holdsBox 3 (some .boolean) :: tbG
abbrev cX4_hasRoom : ByteArray := prog_6_method_3_code
abbrev yX4_hasRoom : MethodName := ⟨RX4, "hasRoom", "(I)Z"⟩
def wsX4_hasRoom : List Cond := Cond.code yX4_hasRoom cX4_hasRoom 2 (some .boolean) :: tbG
abbrev cX6_otherSlot : ByteArray := prog_1_method_27_code
abbrev yX6_otherSlot : MethodName := ⟨RX6, "otherSlot", "(I)I"⟩
def wsX6_otherSlot : List Cond := Cond.code yX6_otherSlot cX6_otherSlot 2 (some .int) :: tbG
abbrev cX4_nextWithRoom : ByteArray := prog_6_method_4_code
abbrev yX4_nextWithRoom : MethodName := ⟨RX4, "nextWithRoom", "(I)I"⟩
def wsX4_nextWithRoom : List Cond := Cond.code yX4_nextWithRoom cX4_nextWithRoom 3 (some .int) :: tbG
abbrev cX0_add : ByteArray := prog_2_method_2_code
abbrev yX0_add : MethodName := ⟨RX0, "add", "(III)I"⟩
def wsX0_add : List Cond := Cond.code yX0_add cX0_add 4 (some .int) :: tbG
abbrev cL_through : ByteArray := method_7_code
abbrev yL_through : MethodName := ⟨RL, "through", "(LGateSteps;II[J)I"⟩
def wsL_through : List Cond := Cond.codeWith yL_through cL_through 5 (some .int) [(0, 10, 13, 25), (0, 10, 17, 13)] :: tbG
abbrev cX6_through : ByteArray := prog_1_method_8_code
abbrev yX6_through : MethodName := ⟨RX6, "through", "(II)I"⟩
def wsX6_through : List Cond := Cond.code yX6_through cX6_through 4 (some .int) :: tbG
abbrev cX6_needBooking : ByteArray := prog_1_method_25_code
abbrev yX6_needBooking : MethodName := ⟨RX6, "needBooking", "(I)V"⟩
def wsX6_needBooking : List Cond := Cond.code yX6_needBooking cX6_needBooking 2 none :: tbG
abbrev cX6_needTime : ByteArray := prog_1_method_26_code
abbrev yX6_needTime : MethodName := ⟨RX6, "needTime", "(I)V"⟩
def wsX6_needTime : List Cond := Cond.code yX6_needTime cX6_needTime 2 none :: tbG
abbrev cX6_firstBar : ByteArray := prog_1_method_30_code
abbrev yX6_firstBar : MethodName := ⟨RX6, "firstBar", "(I)I"⟩
def wsX6_firstBar : List Cond := Cond.code yX6_firstBar cX6_firstBar 5 (some .int) :: tbG
abbrev cX6_isAhead : ByteArray := prog_1_method_28_code
abbrev yX6_isAhead : MethodName := ⟨RX6, "isAhead", "(I)Z"⟩
def wsX6_isAhead : List Cond := Cond.code yX6_isAhead cX6_isAhead 2 (some .boolean) :: tbG
abbrev cX6_isOver : ByteArray := prog_1_method_29_code
abbrev yX6_isOver : MethodName := ⟨RX6, "isOver", "(I)Z"⟩
def wsX6_isOver : List Cond := Cond.code yX6_isOver cX6_isOver 2 (some .boolean) :: tbG
abbrev cX5_verdictOf : ByteArray := prog_7_method_3_code
abbrev yX5_verdictOf : MethodName := ⟨RX5, "verdictOf", "(II)I"⟩
def wsX5_verdictOf : List Cond := Cond.code yX5_verdictOf cX5_verdictOf 3 (some .int) :: tbG
abbrev cX6_firstBarOfBox : ByteArray := prog_1_method_31_code
abbrev yX6_firstBarOfBox : MethodName := ⟨RX6, "firstBarOfBox", "(I)I"⟩
def wsX6_firstBarOfBox : List Cond := Cond.code yX6_firstBarOfBox cX6_firstBarOfBox 2 (some .int) :: tbG
abbrev cX1_verdictOf : ByteArray := prog_3_method_6_code
abbrev yX1_verdictOf : MethodName := ⟨RX1, "verdictOf", "(II)I"⟩
def wsX1_verdictOf : List Cond := Cond.code yX1_verdictOf cX1_verdictOf 3 (some .int) :: tbG
abbrev cX0_holdsTruckIn : ByteArray := prog_2_method_4_code
abbrev yX0_holdsTruckIn : MethodName := ⟨RX0, "holdsTruckIn", "(I)Z"⟩
def wsX0_holdsTruckIn : List Cond := Cond.code yX0_holdsTruckIn cX0_holdsTruckIn 3 (some .boolean) :: tbG
abbrev cX6_laneFor : ByteArray := prog_1_method_32_code
abbrev yX6_laneFor : MethodName := ⟨RX6, "laneFor", "(I)I"⟩
def wsX6_laneFor : List Cond := Cond.code yX6_laneFor cX6_laneFor 2 (some .int) :: tbG
abbrev cX6_joinLane : ByteArray := prog_1_method_33_code
abbrev yX6_joinLane : MethodName := ⟨RX6, "joinLane", "(II)V"⟩
def wsX6_joinLane : List Cond := Cond.code yX6_joinLane cX6_joinLane 3 none :: tbG
abbrev cX2_add : ByteArray := prog_4_method_2_code
abbrev yX2_add : MethodName := ⟨RX2, "add", "(I)V"⟩
def wsX2_add : List Cond := Cond.code yX2_add cX2_add 2 none :: tbG
abbrev cL_weigh : ByteArray := method_8_code
abbrev yL_weigh : MethodName := ⟨RL, "weigh", "(LGateSteps;III[J)I"⟩
def wsL_weigh : List Cond := Cond.codeWith yL_weigh cL_weigh 6 (some .int) [(0, 12, 15, 25), (0, 12, 19, 13)] :: tbG
abbrev cX6_weigh : ByteArray := prog_1_method_9_code
abbrev yX6_weigh : MethodName := ⟨RX6, "weigh", "(III)I"⟩
def wsX6_weigh : List Cond := Cond.code yX6_weigh cX6_weigh 5 (some .int) :: tbG
abbrev cX6_isWithinTolerance : ByteArray := prog_1_method_34_code
abbrev yX6_isWithinTolerance : MethodName := ⟨RX6, "isWithinTolerance", "(II)Z"⟩
def wsX6_isWithinTolerance : List Cond := Cond.code yX6_isWithinTolerance cX6_isWithinTolerance 4 (some .boolean) :: tbG
abbrev cX6_finish : ByteArray := prog_1_method_35_code
abbrev yX6_finish : MethodName := ⟨RX6, "finish", "(I)V"⟩
def wsX6_finish : List Cond := Cond.code yX6_finish cX6_finish 3 none :: tbG
abbrev cL_noShow : ByteArray := method_9_code
abbrev yL_noShow : MethodName := ⟨RL, "noShow", "(LGateSteps;I[J)I"⟩
def wsL_noShow : List Cond := Cond.codeWith yL_noShow cL_noShow 4 (some .int) [(0, 9, 12, 13)] :: tbG
abbrev cX6_noShow : ByteArray := prog_1_method_11_code
abbrev yX6_noShow : MethodName := ⟨RX6, "noShow", "(I)I"⟩
def wsX6_noShow : List Cond := Cond.code yX6_noShow cX6_noShow 4 (some .int) :: tbG
abbrev cL_change : ByteArray := method_10_code
abbrev yL_change : MethodName := ⟨RL, "change", "(LGateSteps;II[J)I"⟩
def wsL_change : List Cond := Cond.codeWith yL_change cL_change 5 (some .int) [(0, 10, 13, 25)] :: tbG
abbrev cX6_change : ByteArray := prog_1_method_12_code
abbrev yX6_change : MethodName := ⟨RX6, "change", "(II)I"⟩
def wsX6_change : List Cond := Cond.code yX6_change cX6_change 4 (some .int) :: tbG
abbrev cL_look : ByteArray := method_11_code
abbrev yL_look : MethodName := ⟨RL, "look", "(LGateSteps;II[J)I"⟩
def wsL_look : List Cond := Cond.codeWith yL_look cL_look 5 (some .int) [(0, 10, 13, 25)] :: tbG
abbrev cX6_look : ByteArray := prog_1_method_14_code
abbrev yX6_look : MethodName := ⟨RX6, "look", "(II)I"⟩
def wsX6_look : List Cond := Cond.code yX6_look cX6_look 3 (some .int) :: tbG
abbrev cL_at : ByteArray := method_12_code
abbrev yL_at : MethodName := ⟨RL, "at", "(LGateSteps;II[J)I"⟩
def wsL_at : List Cond := Cond.codeWith yL_at cL_at 5 (some .int) [(0, 10, 13, 25)] :: tbG
abbrev cX6_at : ByteArray := prog_1_method_15_code
abbrev yX6_at : MethodName := ⟨RX6, "at", "(II)I"⟩
def wsX6_at : List Cond := Cond.code yX6_at cX6_at 3 (some .int) :: tbG
abbrev cX7_init : ByteArray := prog_9_method_1_code
abbrev yX7_init : MethodName := ⟨RX7, "<init>", "(II)V"⟩
def wsX7_init : List Cond := Cond.code yX7_init cX7_init 4 none :: tbG
abbrev cX7_thrown : ByteArray := prog_9_method_2_code
abbrev yX7_thrown : MethodName := ⟨RX7, "thrown", "()I"⟩
def wsX7_thrown : List Cond := Cond.code yX7_thrown cX7_thrown 1 (some .int) :: tbG
abbrev cX7_sign : ByteArray := prog_9_method_9_code
abbrev yX7_sign : MethodName := ⟨RX7, "sign", "(I)I"⟩
def wsX7_sign : List Cond := Cond.code yX7_sign cX7_sign 3 (some .int) :: tbG
abbrev cX7_isLetter : ByteArray := prog_9_method_7_code
abbrev yX7_isLetter : MethodName := ⟨RX7, "isLetter", "(I)Z"⟩
def wsX7_isLetter : List Cond := Cond.code yX7_isLetter cX7_isLetter 1 (some .boolean) :: tbG
abbrev cX7_isDigit : ByteArray := prog_9_method_8_code
abbrev yX7_isDigit : MethodName := ⟨RX7, "isDigit", "(I)Z"⟩
def wsX7_isDigit : List Cond := Cond.code yX7_isDigit cX7_isDigit 1 (some .boolean) :: tbG
abbrev cX7_fails : ByteArray := prog_9_method_3_code
abbrev yX7_fails : MethodName := ⟨RX7, "fails", "(I)I"⟩
def wsX7_fails : List Cond := Cond.code yX7_fails cX7_fails 2 (some .int) :: tbG
abbrev cX7_clear : ByteArray := prog_9_method_10_code
abbrev yX7_clear : MethodName := ⟨RX7, "clear", "()I"⟩
def wsX7_clear : List Cond := Cond.code yX7_clear cX7_clear 2 (some .int) :: tbG
abbrev cX7_letter : ByteArray := prog_9_method_12_code
abbrev yX7_letter : MethodName := ⟨RX7, "letter", "()I"⟩
def wsX7_letter : List Cond := Cond.code yX7_letter cX7_letter 1 (some .int) :: tbG
abbrev cX7_checkLetter : ByteArray := prog_9_method_11_code
abbrev yX7_checkLetter : MethodName := ⟨RX7, "checkLetter", "()I"⟩
def wsX7_checkLetter : List Cond := Cond.code yX7_checkLetter cX7_checkLetter 3 (some .int) :: tbG
abbrev cX7_box : ByteArray := prog_9_method_14_code
abbrev yX7_box : MethodName := ⟨RX7, "box", "(IZ)I"⟩
def wsX7_box : List Cond := Cond.code yX7_box cX7_box 4 (some .int) :: tbG
abbrev cX7_isKnown : ByteArray := prog_9_method_13_code
abbrev yX7_isKnown : MethodName := ⟨RX7, "isKnown", "()Z"⟩
def wsX7_isKnown : List Cond := Cond.code yX7_isKnown cX7_isKnown 5 (some .boolean) :: tbG
abbrev cX7_check : ByteArray := prog_9_method_16_code
abbrev yX7_check : MethodName := ⟨RX7, "check", "(III)I"⟩
def wsX7_check : List Cond := Cond.code yX7_check cX7_check 6 (some .int) :: tbG
abbrev cX7_book : ByteArray := prog_9_method_19_code
abbrev yX7_book : MethodName := ⟨RX7, "book", "(III)I"⟩
def wsX7_book : List Cond := Cond.code yX7_book cX7_book 5 (some .int) :: tbG
abbrev cX7_isSlot : ByteArray := prog_9_method_6_code
abbrev yX7_isSlot : MethodName := ⟨RX7, "isSlot", "(I)Z"⟩
def wsX7_isSlot : List Cond := Cond.code yX7_isSlot cX7_isSlot 2 (some .boolean) :: tbG
abbrev cX7_full : ByteArray := prog_9_method_18_code
abbrev yX7_full : MethodName := ⟨RX7, "full", "(I)I"⟩
def wsX7_full : List Cond := Cond.code yX7_full cX7_full 3 (some .int) :: tbG
abbrev cX7_inSlot : ByteArray := prog_9_method_17_code
abbrev yX7_inSlot : MethodName := ⟨RX7, "inSlot", "(I)I"⟩
def wsX7_inSlot : List Cond := Cond.code yX7_inSlot cX7_inSlot 4 (some .int) :: tbG
abbrev cX7_through : ByteArray := prog_9_method_24_code
abbrev yX7_through : MethodName := ⟨RX7, "through", "(II)I"⟩
def wsX7_through : List Cond := Cond.code yX7_through cX7_through 6 (some .int) :: tbG
abbrev cX7_isBooking : ByteArray := prog_9_method_4_code
abbrev yX7_isBooking : MethodName := ⟨RX7, "isBooking", "(I)Z"⟩
def wsX7_isBooking : List Cond := Cond.code yX7_isBooking cX7_isBooking 2 (some .boolean) :: tbG
abbrev cX7_isTime : ByteArray := prog_9_method_5_code
abbrev yX7_isTime : MethodName := ⟨RX7, "isTime", "(I)Z"⟩
def wsX7_isTime : List Cond := Cond.code yX7_isTime cX7_isTime 2 (some .boolean) :: tbG
abbrev cX7_bar : ByteArray := prog_9_method_21_code
abbrev yX7_bar : MethodName := ⟨RX7, "bar", "(I)I"⟩
def wsX7_bar : List Cond := Cond.code yX7_bar cX7_bar 5 (some .int) :: tbG
abbrev cX7_verdictOf : ByteArray := prog_9_method_15_code
abbrev yX7_verdictOf : MethodName := ⟨RX7, "verdictOf", "(II)I"⟩
def wsX7_verdictOf : List Cond := Cond.code yX7_verdictOf cX7_verdictOf 3 (some .int) :: tbG
abbrev cX7_isTruckIn : ByteArray := prog_9_method_20_code
abbrev yX7_isTruckIn : MethodName := ⟨RX7, "isTruckIn", "(I)Z"⟩
def wsX7_isTruckIn : List Cond := Cond.code yX7_isTruckIn cX7_isTruckIn 4 (some .boolean) :: tbG
abbrev cX7_inLane : ByteArray := prog_9_method_22_code
abbrev yX7_inLane : MethodName := ⟨RX7, "inLane", "(I)I"⟩
def wsX7_inLane : List Cond := Cond.code yX7_inLane cX7_inLane 4 (some .int) :: tbG
abbrev cX7_comes : ByteArray := prog_9_method_23_code
abbrev yX7_comes : MethodName := ⟨RX7, "comes", "(II)V"⟩
def wsX7_comes : List Cond := Cond.code yX7_comes cX7_comes 3 none :: tbG
abbrev cX7_weigh : ByteArray := prog_9_method_26_code
abbrev yX7_weigh : MethodName := ⟨RX7, "weigh", "(III)I"⟩
def wsX7_weigh : List Cond := Cond.code yX7_weigh cX7_weigh 9 (some .int) :: tbG
abbrev cX7_inOrder : ByteArray := prog_9_method_25_code
abbrev yX7_inOrder : MethodName := ⟨RX7, "inOrder", "(II)I"⟩
def wsX7_inOrder : List Cond := Cond.code yX7_inOrder cX7_inOrder 6 (some .int) :: tbG
abbrev cX7_tolerance : ByteArray := prog_9_method_27_code
abbrev yX7_tolerance : MethodName := ⟨RX7, "tolerance", "(I)Z"⟩
def wsX7_tolerance : List Cond := Cond.code yX7_tolerance cX7_tolerance 2 (some .boolean) :: tbG
abbrev cX7_noShow : ByteArray := prog_9_method_28_code
abbrev yX7_noShow : MethodName := ⟨RX7, "noShow", "(I)I"⟩
def wsX7_noShow : List Cond := Cond.code yX7_noShow cX7_noShow 4 (some .int) :: tbG
abbrev cX7_change : ByteArray := prog_9_method_29_code
abbrev yX7_change : MethodName := ⟨RX7, "change", "(II)I"⟩
def wsX7_change : List Cond := Cond.code yX7_change cX7_change 3 (some .int) :: tbG
abbrev cX7_queue : ByteArray := prog_9_method_30_code
abbrev yX7_queue : MethodName := ⟨RX7, "queue", "(II)I"⟩
def wsX7_queue : List Cond := Cond.code yX7_queue cX7_queue 3 (some .int) :: tbG
abbrev cX7_look : ByteArray := prog_9_method_31_code
abbrev yX7_look : MethodName := ⟨RX7, "look", "(II)I"⟩
def wsX7_look : List Cond := Cond.code yX7_look cX7_look 3 (some .int) :: tbG
abbrev cX7_at : ByteArray := prog_9_method_32_code
abbrev yX7_at : MethodName := ⟨RX7, "at", "(II)I"⟩
def wsX7_at : List Cond := Cond.code yX7_at cX7_at 3 (some .int) :: tbG
abbrev cX7_count : ByteArray := prog_9_method_33_code
abbrev yX7_count : MethodName := ⟨RX7, "count", "(I)I"⟩
def wsX7_count : List Cond := Cond.code yX7_count cX7_count 2 (some .int) :: tbG
abbrev cL_law : ByteArray := code
theorem hinX0 : ∀ w ∈ u_ws RX0 TX0 8, w ∈ tbG := by decide +kernel
theorem hinX1 : ∀ w ∈ u_ws RX1 TX1 5, w ∈ tbG := by decide +kernel
theorem hinX2 : ∀ w ∈ u_ws RX2 TX2 2, w ∈ tbG := by decide +kernel
theorem hinX3 : ∀ w ∈ u_ws RX3 TX3 2, w ∈ tbG := by decide +kernel
theorem hinX4 : ∀ w ∈ u_ws RX4 TX4 3, w ∈ tbG := by decide +kernel
theorem hinX5 : ∀ w ∈ u_ws RX5 TX5 1, w ∈ tbG := by decide +kernel
theorem hinX6 : ∀ w ∈ u_ws RX6 TX6 11, w ∈ tbG := by decide +kernel
theorem hinX7 : ∀ w ∈ u_ws RX7 TX7 25, w ∈ tbG := by decide +kernel
end
section
/-! ints of the machine as whole numbers: iI z is the int of z -/
abbrev iI (z : Int) : Int32 := Int32.ofInt z
def iz_ok (z : Int) : Prop := -2147483648 ≤ z ∧ z ≤ 2147483647
theorem iz_toInt {z : Int} (h : -2147483648 ≤ z ∧ z ≤ 2147483647) : (iI z).toInt = z := Int32.toInt_ofInt_of_le (by omega) (by omega)
theorem iz_of (x : Int32) : iI x.toInt = x := Int32.ofInt_toInt x
theorem iz_rng (x : Int32) : -2147483648 ≤ x.toInt ∧ x.toInt ≤ 2147483647 := by
  have h1 := x.le_toInt
  have h2 := x.toInt_lt
  omega
theorem iz_add (a b : Int) : iI a + iI b = iI (a + b) := by
  rw [← Int32.toInt_inj]; simp
theorem iz_sub (a b : Int) : iI a - iI b = iI (a - b) := by
  rw [← Int32.toInt_inj]; simp
theorem iz_mul (a b : Int) : iI a * iI b = iI (a * b) := by
  rw [← Int32.toInt_inj]; simp
theorem iz_neg (a : Int) : -iI a = iI (-a) := by
  rw [← Int32.toInt_inj]; simp
theorem iz_lt {a b : Int} (h : -2147483648 ≤ a ∧ a ≤ 2147483647 ∧ -2147483648 ≤ b ∧ b ≤ 2147483647) : iI a < iI b ↔ a < b := by
  rw [Int32.lt_iff_toInt_lt, iz_toInt (by omega), iz_toInt (by omega)]
theorem iz_le {a b : Int} (h : -2147483648 ≤ a ∧ a ≤ 2147483647 ∧ -2147483648 ≤ b ∧ b ≤ 2147483647) : iI a ≤ iI b ↔ a ≤ b := by
  rw [Int32.le_iff_toInt_le, iz_toInt (by omega), iz_toInt (by omega)]
theorem iz_eq {a b : Int} (h : -2147483648 ≤ a ∧ a ≤ 2147483647 ∧ -2147483648 ≤ b ∧ b ≤ 2147483647) : iI a = iI b ↔ a = b := by
  rw [← Int32.toInt_inj, iz_toInt (by omega), iz_toInt (by omega)]
theorem iz_clamp {z : Int} (h : 0 ≤ z ∧ z ≤ 2147483647) : (iI z).toNatClampNeg = z.toNat := Int32.toNatClampNeg_ofInt_of_le (by omega) (by omega)
theorem iz_in {z : Int} {n : Nat} (h : 0 ≤ z ∧ z < (n : Int)) (hn : n < 2147483648) : vp_in (iI z) n := by
  rw [vp_in_iff, iz_toInt (by omega)]
  exact h
theorem iz_rem {a b : Int} (h : 0 ≤ a ∧ a ≤ 2147483647 ∧ 0 < b ∧ b ≤ 2147483647) : iI a - iI a / iI b * iI b = iI (a % b) := by
  rw [← Int32.toInt_inj, rem_toInt, iz_toInt (by omega), iz_toInt (by omega)]
  have h1 := Int.emod_nonneg a (show b ≠ 0 by omega)
  have h2 := Int.emod_lt_of_pos a h.2.2.1
  rw [iz_toInt (by omega), Int.tmod_eq_emod_of_nonneg h.1]
/-- an array's contents: whole numbers at whole numbers -/
def iF (f : Int → Int) : Nat → Int32 := fun j => iI (f (j : Int))
def iu (f : Int → Int) (k v : Int) : Int → Int := fun j => if j = k then v else f j
theorem iu_at (f : Int → Int) (k v : Int) : iu f k v k = v := if_pos rfl
theorem iu_ne {f : Int → Int} {k v j : Int} (h : j ≠ k) : iu f k v j = f j := if_neg h
theorem iF_at {f : Int → Int} {z : Int} (h : 0 ≤ z ∧ z ≤ 2147483647) : iF f (iI z).toNatClampNeg = iI (f z) := by
  rw [iz_clamp h]
  unfold iF
  rw [Int.toNat_of_nonneg h.1]
theorem iF_up {f : Int → Int} {z v : Int} (h : 0 ≤ z ∧ z ≤ 2147483647) : upd (iF f) (iI z).toNatClampNeg (iI v) = iF (iu f z v) := by
  rw [iz_clamp h]
  funext j
  unfold upd iF iu
  by_cases e : j = z.toNat
  · rw [if_pos e, if_pos (by omega)]
  · rw [if_neg e, if_neg (by omega)]
/-- a truth value as a number -/
def bi (P : Prop) [Decidable P] : Int := if P then 1 else 0
theorem bi_t {P : Prop} [Decidable P] (h : P) : 1 = bi P := (if_pos h).symm
theorem bi_f {P : Prop} [Decidable P] (h : ¬ P) : 0 = bi P := (if_neg h).symm
theorem bi_rng (P : Prop) [Decidable P] : 0 ≤ bi P ∧ bi P ≤ 1 := by
  unfold bi; split <;> omega
theorem bi_eq0 {P : Prop} [Decidable P] : iI (bi P) = 0 ↔ ¬ P := by
  by_cases h : P
  · rw [← bi_t h]; exact ⟨fun z => absurd z (by decide), fun z => absurd h z⟩
  · rw [← bi_f h]; exact ⟨fun _ => h, fun _ => rfl⟩
theorem bi_cong {P Q : Prop} [Decidable P] [Decidable Q] (h : P ↔ Q) : bi P = bi Q := by
  by_cases q : Q
  · rw [← bi_t q, ← bi_t (h.mpr q)]
  · rw [← bi_f q, ← bi_f (fun x => q (h.mp x))]
theorem bi_nar (P : Prop) [Decidable P] : narrow .boolean (.int (iI (bi P))) = .int (iI (bi P)) := by
  by_cases h : P
  · rw [← bi_t h]; rfl
  · rw [← bi_f h]; rfl
end
section
/-! what the tables say that does not stand in a word list: links between nest mates, texts, which class is which -/
theorem xt_al {u U : State} (hv : u.vm = U.vm) : u.vm.Alike U.vm := by rw [hv]; exact Vm.Alike.refl U.vm
def xT (U : State) : Prop := va_Nw (.methodLinkNest "GateSteps" 9 ⟨"GateSteps$SignRow", "<init>", "()V"⟩ "GateSteps") U ∧ va_Nw (.methodLinkNest "GateSteps" 18 ⟨"GateSteps$Boxes", "<init>", "()V"⟩ "GateSteps") U ∧ va_Nw (.methodLinkNest "GateSteps" 45 ⟨"GateSteps$Bookings", "<init>", "()V"⟩ "GateSteps") U ∧ va_Nw (.methodLinkNest "GateSteps" 56 ⟨"GateSteps$Lane", "<init>", "()V"⟩ "GateSteps") U ∧ va_Nw (.methodLinkNest "GateSteps$SignRow" 23 ⟨"GateSteps", "isLetter", "(I)Z"⟩ "GateSteps") U ∧ va_Nw (.methodLinkNest "GateSteps$SignRow" 19 ⟨"GateSteps", "isDigit", "(I)Z"⟩ "GateSteps") U ∧ va_Nw (.castable "java/lang/IllegalArgumentException" "java/lang/IllegalArgumentException") U ∧ va_Nw (.castable "java/lang/IllegalStateException" "java/lang/IllegalStateException") U ∧ va_Nw (.castable "java/lang/IndexOutOfBoundsException" "java/lang/IndexOutOfBoundsException") U ∧ (∃ q, vk_R "GateSteps" 70 "not a sign" q U) ∧ (∃ q, vk_R "GateSteps" 80 "the row is full" q U) ∧ (∃ q, vk_R "GateSteps" 86 "not a sign for this place" q U) ∧ (∃ q, vk_R "GateSteps" 96 "not eleven signs" q U) ∧ (∃ q, vk_R "GateSteps" 99 "no such weight" q U) ∧ (∃ q, vk_R "GateSteps" 102 "no more boxes" q U) ∧ (∃ q, vk_R "GateSteps" 119 "no such kind" q U) ∧ (∃ q, vk_R "GateSteps" 259 "no such box" q U) ∧ (∃ q, vk_R "GateSteps" 257 "no such truck" q U) ∧ (∃ q, vk_R "GateSteps" 131 "no such verdict" q U) ∧ (∃ q, vk_R "GateSteps" 255 "no such slot" q U) ∧ (∃ q, vk_R "GateSteps" 146 "no more bookings" q U) ∧ (∃ q, vk_R "GateSteps" 261 "no such booking" q U) ∧ (∃ q, vk_R "GateSteps" 263 "no such time" q U) ∧ (∃ q, vk_R "GateSteps" 195 "no such lane" q U) ∧ (∃ q, vk_R "GateSteps" 229 "nothing such of a booking" q U) ∧ (∃ q, vk_R "GateSteps" 231 "no such place" q U) ∧ va_AO "GateSteps$Lane" U ∧ va_Nc "java/lang/IllegalStateException" "java/lang/IllegalArgumentException" U ∧ va_Nc "java/lang/IllegalArgumentException" "java/lang/IndexOutOfBoundsException" U ∧ va_Nc "java/lang/IllegalStateException" "java/lang/IndexOutOfBoundsException" U ∧ va_Nw (.declares ⟨"java/lang/RuntimeException", "<init>", "(Ljava/lang/String;)V"⟩) U ∧ va_Nw (.declares ⟨"java/lang/Exception", "<init>", "(Ljava/lang/String;)V"⟩) U ∧ va_Nw (.declares ⟨"java/lang/Throwable", "<init>", "(Ljava/lang/String;)V"⟩) U
theorem xT.moved {s U : State} (hW : s.WarmedH U.vm) (h : xT s) : xT U := ⟨va_Nw.warmM hW h.1, va_Nw.warmM hW h.2.1, va_Nw.warmM hW h.2.2.1, va_Nw.warmM hW h.2.2.2.1, va_Nw.warmM hW h.2.2.2.2.1, va_Nw.warmM hW h.2.2.2.2.2.1, va_Nw.warmC hW h.2.2.2.2.2.2.1, va_Nw.warmC hW h.2.2.2.2.2.2.2.1, va_Nw.warmC hW h.2.2.2.2.2.2.2.2.1, (let ⟨q, z⟩ := h.2.2.2.2.2.2.2.2.2.1; ⟨q, vk_R.warm hW z⟩), (let ⟨q, z⟩ := h.2.2.2.2.2.2.2.2.2.2.1; ⟨q, vk_R.warm hW z⟩), (let ⟨q, z⟩ := h.2.2.2.2.2.2.2.2.2.2.2.1; ⟨q, vk_R.warm hW z⟩), (let ⟨q, z⟩ := h.2.2.2.2.2.2.2.2.2.2.2.2.1; ⟨q, vk_R.warm hW z⟩), (let ⟨q, z⟩ := h.2.2.2.2.2.2.2.2.2.2.2.2.2.1; ⟨q, vk_R.warm hW z⟩), (let ⟨q, z⟩ := h.2.2.2.2.2.2.2.2.2.2.2.2.2.2.1; ⟨q, vk_R.warm hW z⟩), (let ⟨q, z⟩ := h.2.2.2.2.2.2.2.2.2.2.2.2.2.2.2.1; ⟨q, vk_R.warm hW z⟩), (let ⟨q, z⟩ := h.2.2.2.2.2.2.2.2.2.2.2.2.2.2.2.2.1; ⟨q, vk_R.warm hW z⟩), (let ⟨q, z⟩ := h.2.2.2.2.2.2.2.2.2.2.2.2.2.2.2.2.2.1; ⟨q, vk_R.warm hW z⟩), (let ⟨q, z⟩ := h.2.2.2.2.2.2.2.2.2.2.2.2.2.2.2.2.2.2.1; ⟨q, vk_R.warm hW z⟩), (let ⟨q, z⟩ := h.2.2.2.2.2.2.2.2.2.2.2.2.2.2.2.2.2.2.2.1; ⟨q, vk_R.warm hW z⟩), (let ⟨q, z⟩ := h.2.2.2.2.2.2.2.2.2.2.2.2.2.2.2.2.2.2.2.2.1; ⟨q, vk_R.warm hW z⟩), (let ⟨q, z⟩ := h.2.2.2.2.2.2.2.2.2.2.2.2.2.2.2.2.2.2.2.2.2.1; ⟨q, vk_R.warm hW z⟩), (let ⟨q, z⟩ := h.2.2.2.2.2.2.2.2.2.2.2.2.2.2.2.2.2.2.2.2.2.2.1; ⟨q, vk_R.warm hW z⟩), (let ⟨q, z⟩ := h.2.2.2.2.2.2.2.2.2.2.2.2.2.2.2.2.2.2.2.2.2.2.2.1; ⟨q, vk_R.warm hW z⟩), (let ⟨q, z⟩ := h.2.2.2.2.2.2.2.2.2.2.2.2.2.2.2.2.2.2.2.2.2.2.2.2.1; ⟨q, vk_R.warm hW z⟩), (let ⟨q, z⟩ := h.2.2.2.2.2.2.2.2.2.2.2.2.2.2.2.2.2.2.2.2.2.2.2.2.2.1; ⟨q, vk_R.warm hW z⟩), va_AO.moved hW.alike h.2.2.2.2.2.2.2.2.2.2.2.2.2.2.2.2.2.2.2.2.2.2.2.2.2.2.1, va_Nc.moved hW.alike h.2.2.2.2.2.2.2.2.2.2.2.2.2.2.2.2.2.2.2.2.2.2.2.2.2.2.2.1, va_Nc.moved hW.alike h.2.2.2.2.2.2.2.2.2.2.2.2.2.2.2.2.2.2.2.2.2.2.2.2.2.2.2.2.1, va_Nc.moved hW.alike h.2.2.2.2.2.2.2.2.2.2.2.2.2.2.2.2.2.2.2.2.2.2.2.2.2.2.2.2.2.1, va_Nw.warmD hW h.2.2.2.2.2.2.2.2.2.2.2.2.2.2.2.2.2.2.2.2.2.2.2.2.2.2.2.2.2.2.1, va_Nw.warmD hW h.2.2.2.2.2.2.2.2.2.2.2.2.2.2.2.2.2.2.2.2.2.2.2.2.2.2.2.2.2.2.2.1, va_Nw.warmD hW h.2.2.2.2.2.2.2.2.2.2.2.2.2.2.2.2.2.2.2.2.2.2.2.2.2.2.2.2.2.2.2.2⟩
theorem xT.same {u U : State} (hv : u.vm = U.vm) (h : xT u) : xT U := ⟨va_Nw.same rfl hv h.1, va_Nw.same rfl hv h.2.1, va_Nw.same rfl hv h.2.2.1, va_Nw.same rfl hv h.2.2.2.1, va_Nw.same rfl hv h.2.2.2.2.1, va_Nw.same rfl hv h.2.2.2.2.2.1, va_Nw.same rfl hv h.2.2.2.2.2.2.1, va_Nw.same rfl hv h.2.2.2.2.2.2.2.1, va_Nw.same rfl hv h.2.2.2.2.2.2.2.2.1, (let ⟨q, z⟩ := h.2.2.2.2.2.2.2.2.2.1; ⟨q, vk_R.same hv.symm z⟩), (let ⟨q, z⟩ := h.2.2.2.2.2.2.2.2.2.2.1; ⟨q, vk_R.same hv.symm z⟩), (let ⟨q, z⟩ := h.2.2.2.2.2.2.2.2.2.2.2.1; ⟨q, vk_R.same hv.symm z⟩), (let ⟨q, z⟩ := h.2.2.2.2.2.2.2.2.2.2.2.2.1; ⟨q, vk_R.same hv.symm z⟩), (let ⟨q, z⟩ := h.2.2.2.2.2.2.2.2.2.2.2.2.2.1; ⟨q, vk_R.same hv.symm z⟩), (let ⟨q, z⟩ := h.2.2.2.2.2.2.2.2.2.2.2.2.2.2.1; ⟨q, vk_R.same hv.symm z⟩), (let ⟨q, z⟩ := h.2.2.2.2.2.2.2.2.2.2.2.2.2.2.2.1; ⟨q, vk_R.same hv.symm z⟩), (let ⟨q, z⟩ := h.2.2.2.2.2.2.2.2.2.2.2.2.2.2.2.2.1; ⟨q, vk_R.same hv.symm z⟩), (let ⟨q, z⟩ := h.2.2.2.2.2.2.2.2.2.2.2.2.2.2.2.2.2.1; ⟨q, vk_R.same hv.symm z⟩), (let ⟨q, z⟩ := h.2.2.2.2.2.2.2.2.2.2.2.2.2.2.2.2.2.2.1; ⟨q, vk_R.same hv.symm z⟩), (let ⟨q, z⟩ := h.2.2.2.2.2.2.2.2.2.2.2.2.2.2.2.2.2.2.2.1; ⟨q, vk_R.same hv.symm z⟩), (let ⟨q, z⟩ := h.2.2.2.2.2.2.2.2.2.2.2.2.2.2.2.2.2.2.2.2.1; ⟨q, vk_R.same hv.symm z⟩), (let ⟨q, z⟩ := h.2.2.2.2.2.2.2.2.2.2.2.2.2.2.2.2.2.2.2.2.2.1; ⟨q, vk_R.same hv.symm z⟩), (let ⟨q, z⟩ := h.2.2.2.2.2.2.2.2.2.2.2.2.2.2.2.2.2.2.2.2.2.2.1; ⟨q, vk_R.same hv.symm z⟩), (let ⟨q, z⟩ := h.2.2.2.2.2.2.2.2.2.2.2.2.2.2.2.2.2.2.2.2.2.2.2.1; ⟨q, vk_R.same hv.symm z⟩), (let ⟨q, z⟩ := h.2.2.2.2.2.2.2.2.2.2.2.2.2.2.2.2.2.2.2.2.2.2.2.2.1; ⟨q, vk_R.same hv.symm z⟩), (let ⟨q, z⟩ := h.2.2.2.2.2.2.2.2.2.2.2.2.2.2.2.2.2.2.2.2.2.2.2.2.2.1; ⟨q, vk_R.same hv.symm z⟩), va_AO.moved (xt_al hv) h.2.2.2.2.2.2.2.2.2.2.2.2.2.2.2.2.2.2.2.2.2.2.2.2.2.2.1, va_Nc.moved (xt_al hv) h.2.2.2.2.2.2.2.2.2.2.2.2.2.2.2.2.2.2.2.2.2.2.2.2.2.2.2.1, va_Nc.moved (xt_al hv) h.2.2.2.2.2.2.2.2.2.2.2.2.2.2.2.2.2.2.2.2.2.2.2.2.2.2.2.2.1, va_Nc.moved (xt_al hv) h.2.2.2.2.2.2.2.2.2.2.2.2.2.2.2.2.2.2.2.2.2.2.2.2.2.2.2.2.2.1, va_Nw.same rfl hv h.2.2.2.2.2.2.2.2.2.2.2.2.2.2.2.2.2.2.2.2.2.2.2.2.2.2.2.2.2.2.1, va_Nw.same rfl hv h.2.2.2.2.2.2.2.2.2.2.2.2.2.2.2.2.2.2.2.2.2.2.2.2.2.2.2.2.2.2.2.1, va_Nw.same rfl hv h.2.2.2.2.2.2.2.2.2.2.2.2.2.2.2.2.2.2.2.2.2.2.2.2.2.2.2.2.2.2.2.2⟩
theorem xt_n9_X6 {U : State} (h : xT U) : va_Nw (.methodLinkNest "GateSteps" 9 ⟨"GateSteps$SignRow", "<init>", "()V"⟩ "GateSteps") U := h.1
theorem xt_n18_X6 {U : State} (h : xT U) : va_Nw (.methodLinkNest "GateSteps" 18 ⟨"GateSteps$Boxes", "<init>", "()V"⟩ "GateSteps") U := h.2.1
theorem xt_n45_X6 {U : State} (h : xT U) : va_Nw (.methodLinkNest "GateSteps" 45 ⟨"GateSteps$Bookings", "<init>", "()V"⟩ "GateSteps") U := h.2.2.1
theorem xt_n56_X6 {U : State} (h : xT U) : va_Nw (.methodLinkNest "GateSteps" 56 ⟨"GateSteps$Lane", "<init>", "()V"⟩ "GateSteps") U := h.2.2.2.1
theorem xt_n23_X3 {U : State} (h : xT U) : va_Nw (.methodLinkNest "GateSteps$SignRow" 23 ⟨"GateSteps", "isLetter", "(I)Z"⟩ "GateSteps") U := h.2.2.2.2.1
theorem xt_n19_X3 {U : State} (h : xT U) : va_Nw (.methodLinkNest "GateSteps$SignRow" 19 ⟨"GateSteps", "isDigit", "(I)Z"⟩ "GateSteps") U := h.2.2.2.2.2.1
theorem xt_c_a {U : State} (h : xT U) : va_Nw (.castable "java/lang/IllegalArgumentException" "java/lang/IllegalArgumentException") U := h.2.2.2.2.2.2.1
theorem xt_c_s {U : State} (h : xT U) : va_Nw (.castable "java/lang/IllegalStateException" "java/lang/IllegalStateException") U := h.2.2.2.2.2.2.2.1
theorem xt_c_i {U : State} (h : xT U) : va_Nw (.castable "java/lang/IndexOutOfBoundsException" "java/lang/IndexOutOfBoundsException") U := h.2.2.2.2.2.2.2.2.1
theorem xt_s70 {U : State} (h : xT U) : (∃ q, vk_R "GateSteps" 70 "not a sign" q U) := h.2.2.2.2.2.2.2.2.2.1
theorem xt_s80 {U : State} (h : xT U) : (∃ q, vk_R "GateSteps" 80 "the row is full" q U) := h.2.2.2.2.2.2.2.2.2.2.1
theorem xt_s86 {U : State} (h : xT U) : (∃ q, vk_R "GateSteps" 86 "not a sign for this place" q U) := h.2.2.2.2.2.2.2.2.2.2.2.1
theorem xt_s96 {U : State} (h : xT U) : (∃ q, vk_R "GateSteps" 96 "not eleven signs" q U) := h.2.2.2.2.2.2.2.2.2.2.2.2.1
theorem xt_s99 {U : State} (h : xT U) : (∃ q, vk_R "GateSteps" 99 "no such weight" q U) := h.2.2.2.2.2.2.2.2.2.2.2.2.2.1
theorem xt_s102 {U : State} (h : xT U) : (∃ q, vk_R "GateSteps" 102 "no more boxes" q U) := h.2.2.2.2.2.2.2.2.2.2.2.2.2.2.1
theorem xt_s119 {U : State} (h : xT U) : (∃ q, vk_R "GateSteps" 119 "no such kind" q U) := h.2.2.2.2.2.2.2.2.2.2.2.2.2.2.2.1
theorem xt_s259 {U : State} (h : xT U) : (∃ q, vk_R "GateSteps" 259 "no such box" q U) := h.2.2.2.2.2.2.2.2.2.2.2.2.2.2.2.2.1
theorem xt_s257 {U : State} (h : xT U) : (∃ q, vk_R "GateSteps" 257 "no such truck" q U) := h.2.2.2.2.2.2.2.2.2.2.2.2.2.2.2.2.2.1
theorem xt_s131 {U : State} (h : xT U) : (∃ q, vk_R "GateSteps" 131 "no such verdict" q U) := h.2.2.2.2.2.2.2.2.2.2.2.2.2.2.2.2.2.2.1
theorem xt_s255 {U : State} (h : xT U) : (∃ q, vk_R "GateSteps" 255 "no such slot" q U) := h.2.2.2.2.2.2.2.2.2.2.2.2.2.2.2.2.2.2.2.1
theorem xt_s146 {U : State} (h : xT U) : (∃ q, vk_R "GateSteps" 146 "no more bookings" q U) := h.2.2.2.2.2.2.2.2.2.2.2.2.2.2.2.2.2.2.2.2.1
theorem xt_s261 {U : State} (h : xT U) : (∃ q, vk_R "GateSteps" 261 "no such booking" q U) := h.2.2.2.2.2.2.2.2.2.2.2.2.2.2.2.2.2.2.2.2.2.1
theorem xt_s263 {U : State} (h : xT U) : (∃ q, vk_R "GateSteps" 263 "no such time" q U) := h.2.2.2.2.2.2.2.2.2.2.2.2.2.2.2.2.2.2.2.2.2.2.1
theorem xt_s195 {U : State} (h : xT U) : (∃ q, vk_R "GateSteps" 195 "no such lane" q U) := h.2.2.2.2.2.2.2.2.2.2.2.2.2.2.2.2.2.2.2.2.2.2.2.1
theorem xt_s229 {U : State} (h : xT U) : (∃ q, vk_R "GateSteps" 229 "nothing such of a booking" q U) := h.2.2.2.2.2.2.2.2.2.2.2.2.2.2.2.2.2.2.2.2.2.2.2.2.1
theorem xt_s231 {U : State} (h : xT U) : (∃ q, vk_R "GateSteps" 231 "no such place" q U) := h.2.2.2.2.2.2.2.2.2.2.2.2.2.2.2.2.2.2.2.2.2.2.2.2.2.1
theorem xt_ao {U : State} (h : xT U) : va_AO "GateSteps$Lane" U := h.2.2.2.2.2.2.2.2.2.2.2.2.2.2.2.2.2.2.2.2.2.2.2.2.2.2.1
theorem xt_nc_sa {U : State} (h : xT U) : va_Nc "java/lang/IllegalStateException" "java/lang/IllegalArgumentException" U := h.2.2.2.2.2.2.2.2.2.2.2.2.2.2.2.2.2.2.2.2.2.2.2.2.2.2.2.1
theorem xt_nc_ai {U : State} (h : xT U) : va_Nc "java/lang/IllegalArgumentException" "java/lang/IndexOutOfBoundsException" U := h.2.2.2.2.2.2.2.2.2.2.2.2.2.2.2.2.2.2.2.2.2.2.2.2.2.2.2.2.1
theorem xt_nc_si {U : State} (h : xT U) : va_Nc "java/lang/IllegalStateException" "java/lang/IndexOutOfBoundsException" U := h.2.2.2.2.2.2.2.2.2.2.2.2.2.2.2.2.2.2.2.2.2.2.2.2.2.2.2.2.2.1
theorem xt_d_r {U : State} (h : xT U) : va_Nw (.declares ⟨"java/lang/RuntimeException", "<init>", "(Ljava/lang/String;)V"⟩) U := h.2.2.2.2.2.2.2.2.2.2.2.2.2.2.2.2.2.2.2.2.2.2.2.2.2.2.2.2.2.2.1
theorem xt_d_e {U : State} (h : xT U) : va_Nw (.declares ⟨"java/lang/Exception", "<init>", "(Ljava/lang/String;)V"⟩) U := h.2.2.2.2.2.2.2.2.2.2.2.2.2.2.2.2.2.2.2.2.2.2.2.2.2.2.2.2.2.2.2.1
theorem xt_d_t {U : State} (h : xT U) : va_Nw (.declares ⟨"java/lang/Throwable", "<init>", "(Ljava/lang/String;)V"⟩) U := h.2.2.2.2.2.2.2.2.2.2.2.2.2.2.2.2.2.2.2.2.2.2.2.2.2.2.2.2.2.2.2.2
end
section
section WK
variable {p : Program} {l : Launch} {e : Env} {R : Room} {s : State} {m : MethodId} {args : Array Value} {below : List Frame} {meth : Method} {c : Code} {H : Heap} {locs : List Loc} {cells slots : Nat} {Q : State → Prop} {pc : Nat} {ls : Array Slot} {rest : List Value} {cc : ByteArray}
theorem wk_eqi {x y : Int32} (h : x = y) (k : W p l e R s m args below meth c H locs cells slots Q (F0 m pc ls (.int y :: rest))) : W p l e R s m args below meth c H locs cells slots Q (F0 m pc ls (.int x :: rest)) := by
  subst h; exact k
theorem wk_iadd (hx : p.tables.exec = Jvm.exec) (hb : c.code = cc) {a b : Int} (hd : decode cc pc = .ok (.iadd, 1)) (k : W p l e R s m args below meth c H locs cells slots Q (F0 m (pc + 1) ls (.int (iI (a + b)) :: rest))) : W p l e R s m args below meth c H locs cells slots Q (F0 m pc ls (.int (iI b) :: .int (iI a) :: rest)) :=
  lv_iadd hx hb hd (wk_eqi (iz_add a b) k)
theorem wk_isub (hx : p.tables.exec = Jvm.exec) (hb : c.code = cc) {a b : Int} (hd : decode cc pc = .ok (.isub, 1)) (k : W p l e R s m args below meth c H locs cells slots Q (F0 m (pc + 1) ls (.int (iI (a - b)) :: rest))) : W p l e R s m args below meth c H locs cells slots Q (F0 m pc ls (.int (iI b) :: .int (iI a) :: rest)) :=
  lv_isub hx hb hd (wk_eqi (iz_sub a b) k)
theorem wk_imul (hx : p.tables.exec = Jvm.exec) (hb : c.code = cc) {a b : Int} (hd : decode cc pc = .ok (.imul, 1)) (k : W p l e R s m args below meth c H locs cells slots Q (F0 m (pc + 1) ls (.int (iI (a * b)) :: rest))) : W p l e R s m args below meth c H locs cells slots Q (F0 m pc ls (.int (iI b) :: .int (iI a) :: rest)) :=
  lv_imul hx hb hd (wk_eqi (iz_mul a b) k)
theorem wk_ineg (hx : p.tables.exec = Jvm.exec) (hb : c.code = cc) {a : Int} (hd : decode cc pc = .ok (.ineg, 1)) (k : W p l e R s m args below meth c H locs cells slots Q (F0 m (pc + 1) ls (.int (iI (-a)) :: rest))) : W p l e R s m args below meth c H locs cells slots Q (F0 m pc ls (.int (iI a) :: rest)) :=
  lv_ineg hx hb hd (wk_eqi (iz_neg a) k)
theorem wk_irem (hx : p.tables.exec = Jvm.exec) (hb : c.code = cc) {a b : Int} (hd : decode cc pc = .ok (.irem, 1)) (h : 0 ≤ a ∧ a ≤ 2147483647 ∧ 0 < b ∧ b ≤ 2147483647) (k : W p l e R s m args below meth c H locs cells slots Q (F0 m (pc + 1) ls (.int (iI (a % b)) :: rest))) : W p l e R s m args below meth c H locs cells slots Q (F0 m pc ls (.int (iI b) :: .int (iI a) :: rest)) :=
  lv_irem hx hb hd (fun q => by
    have h2 : iI b = iI 0 := q
    have h3 := (iz_eq (by omega)).mp h2
    omega) (wk_eqi (iz_rem h) k)
theorem wk_icmp_eq (hx : p.tables.exec = Jvm.exec) (hb : c.code = cc) {a b : Int} {off : Int} {tgt : Nat} (hd : decode cc pc = .ok (.if_icmp .eq off, 3)) (ht : (pc : Int) + off = (tgt : Int)) (h : -2147483648 ≤ a ∧ a ≤ 2147483647 ∧ -2147483648 ≤ b ∧ b ≤ 2147483647)
    (kt : a = b → W p l e R s m args below meth c H locs cells slots Q (F0 m tgt ls rest)) (kf : ¬ a = b → W p l e R s m args below meth c H locs cells slots Q (F0 m (pc + 3) ls rest)) : W p l e R s m args below meth c H locs cells slots Q (F0 m pc ls (.int (iI b) :: .int (iI a) :: rest)) :=
  lv_icmp_eq hx hb hd ht (fun q => kt ((iz_eq h).mp q)) (fun q => kf (fun z => q ((iz_eq h).mpr z)))
theorem wk_icmp_ne (hx : p.tables.exec = Jvm.exec) (hb : c.code = cc) {a b : Int} {off : Int} {tgt : Nat} (hd : decode cc pc = .ok (.if_icmp .ne off, 3)) (ht : (pc : Int) + off = (tgt : Int)) (h : -2147483648 ≤ a ∧ a ≤ 2147483647 ∧ -2147483648 ≤ b ∧ b ≤ 2147483647)
    (kt : ¬ a = b → W p l e R s m args below meth c H locs cells slots Q (F0 m tgt ls rest)) (kf : a = b → W p l e R s m args below meth c H locs cells slots Q (F0 m (pc + 3) ls rest)) : W p l e R s m args below meth c H locs cells slots Q (F0 m pc ls (.int (iI b) :: .int (iI a) :: rest)) :=
  lv_icmp_ne hx hb hd ht (fun q => kt (fun z => q ((iz_eq h).mpr z))) (fun q => kf ((iz_eq h).mp q))
theorem wk_icmp_lt (hx : p.tables.exec = Jvm.exec) (hb : c.code = cc) {a b : Int} {off : Int} {tgt : Nat} (hd : decode cc pc = .ok (.if_icmp .lt off, 3)) (ht : (pc : Int) + off = (tgt : Int)) (h : -2147483648 ≤ a ∧ a ≤ 2147483647 ∧ -2147483648 ≤ b ∧ b ≤ 2147483647)
    (kt : a < b → W p l e R s m args below meth c H locs cells slots Q (F0 m tgt ls rest)) (kf : ¬ a < b → W p l e R s m args below meth c H locs cells slots Q (F0 m (pc + 3) ls rest)) : W p l e R s m args below meth c H locs cells slots Q (F0 m pc ls (.int (iI b) :: .int (iI a) :: rest)) :=
  lv_icmp_lt hx hb hd ht (fun q => kt ((iz_lt h).mp q)) (fun q => kf (fun z => q ((iz_lt h).mpr z)))
theorem wk_icmp_ge (hx : p.tables.exec = Jvm.exec) (hb : c.code = cc) {a b : Int} {off : Int} {tgt : Nat} (hd : decode cc pc = .ok (.if_icmp .ge off, 3)) (ht : (pc : Int) + off = (tgt : Int)) (h : -2147483648 ≤ a ∧ a ≤ 2147483647 ∧ -2147483648 ≤ b ∧ b ≤ 2147483647)
    (kt : b ≤ a → W p l e R s m args below meth c H locs cells slots Q (F0 m tgt ls rest)) (kf : ¬ b ≤ a → W p l e R s m args below meth c H locs cells slots Q (F0 m (pc + 3) ls rest)) : W p l e R s m args below meth c H locs cells slots Q (F0 m pc ls (.int (iI b) :: .int (iI a) :: rest)) :=
  lv_icmp_ge hx hb hd ht (fun q => kt ((iz_le (by omega)).mp q)) (fun q => kf (fun z => q ((iz_le (by omega)).mpr z)))
theorem wk_icmp_gt (hx : p.tables.exec = Jvm.exec) (hb : c.code = cc) {a b : Int} {off : Int} {tgt : Nat} (hd : decode cc pc = .ok (.if_icmp .gt off, 3)) (ht : (pc : Int) + off = (tgt : Int)) (h : -2147483648 ≤ a ∧ a ≤ 2147483647 ∧ -2147483648 ≤ b ∧ b ≤ 2147483647)
    (kt : b < a → W p l e R s m args below meth c H locs cells slots Q (F0 m tgt ls rest)) (kf : ¬ b < a → W p l e R s m args below meth c H locs cells slots Q (F0 m (pc + 3) ls rest)) : W p l e R s m args below meth c H locs cells slots Q (F0 m pc ls (.int (iI b) :: .int (iI a) :: rest)) :=
  lv_icmp_gt hx hb hd ht (fun q => kt ((iz_lt (by omega)).mp q)) (fun q => kf (fun z => q ((iz_lt (by omega)).mpr z)))
theorem wk_icmp_le (hx : p.tables.exec = Jvm.exec) (hb : c.code = cc) {a b : Int} {off : Int} {tgt : Nat} (hd : decode cc pc = .ok (.if_icmp .le off, 3)) (ht : (pc : Int) + off = (tgt : Int)) (h : -2147483648 ≤ a ∧ a ≤ 2147483647 ∧ -2147483648 ≤ b ∧ b ≤ 2147483647)
    (kt : a ≤ b → W p l e R s m args below meth c H locs cells slots Q (F0 m tgt ls rest)) (kf : ¬ a ≤ b → W p l e R s m args below meth c H locs cells slots Q (F0 m (pc + 3) ls rest)) : W p l e R s m args below meth c H locs cells slots Q (F0 m pc ls (.int (iI b) :: .int (iI a) :: rest)) :=
  lv_icmp_le hx hb hd ht (fun q => kt ((iz_le h).mp q)) (fun q => kf (fun z => q ((iz_le h).mpr z)))
theorem wk_if_eq (hx : p.tables.exec = Jvm.exec) (hb : c.code = cc) {a : Int} {off : Int} {tgt : Nat} (hd : decode cc pc = .ok (.ifCond .eq off, 3)) (ht : (pc : Int) + off = (tgt : Int)) (h : -2147483648 ≤ a ∧ a ≤ 2147483647)
    (kt : a = 0 → W p l e R s m args below meth c H locs cells slots Q (F0 m tgt ls rest)) (kf : ¬ a = 0 → W p l e R s m args below meth c H locs cells slots Q (F0 m (pc + 3) ls rest)) : W p l e R s m args below meth c H locs cells slots Q (F0 m pc ls (.int (iI a) :: rest)) :=
  lv_if_eq hx hb hd ht (fun q => kt ((iz_eq (b := 0) (by omega)).mp q)) (fun q => kf (fun z => q ((iz_eq (b := 0) (by omega)).mpr z)))
theorem wk_if_ne (hx : p.tables.exec = Jvm.exec) (hb : c.code = cc) {a : Int} {off : Int} {tgt : Nat} (hd : decode cc pc = .ok (.ifCond .ne off, 3)) (ht : (pc : Int) + off = (tgt : Int)) (h : -2147483648 ≤ a ∧ a ≤ 2147483647)
    (kt : ¬ a = 0 → W p l e R s m args below meth c H locs cells slots Q (F0 m tgt ls rest)) (kf : a = 0 → W p l e R s m args below meth c H locs cells slots Q (F0 m (pc + 3) ls rest)) : W p l e R s m args below meth c H locs cells slots Q (F0 m pc ls (.int (iI a) :: rest)) :=
  lv_if_ne hx hb hd ht (fun q => kt (fun z => q ((iz_eq (b := 0) (by omega)).mpr z))) (fun q => kf ((iz_eq (b := 0) (by omega)).mp q))
theorem wk_if_lt (hx : p.tables.exec = Jvm.exec) (hb : c.code = cc) {a : Int} {off : Int} {tgt : Nat} (hd : decode cc pc = .ok (.ifCond .lt off, 3)) (ht : (pc : Int) + off = (tgt : Int)) (h : -2147483648 ≤ a ∧ a ≤ 2147483647)
    (kt : a < 0 → W p l e R s m args below meth c H locs cells slots Q (F0 m tgt ls rest)) (kf : ¬ a < 0 → W p l e R s m args below meth c H locs cells slots Q (F0 m (pc + 3) ls rest)) : W p l e R s m args below meth c H locs cells slots Q (F0 m pc ls (.int (iI a) :: rest)) :=
  lv_if_lt hx hb hd ht (fun q => kt ((iz_lt (b := 0) (by omega)).mp q)) (fun q => kf (fun z => q ((iz_lt (b := 0) (by omega)).mpr z)))
theorem wk_if_ge (hx : p.tables.exec = Jvm.exec) (hb : c.code = cc) {a : Int} {off : Int} {tgt : Nat} (hd : decode cc pc = .ok (.ifCond .ge off, 3)) (ht : (pc : Int) + off = (tgt : Int)) (h : -2147483648 ≤ a ∧ a ≤ 2147483647)
    (kt : 0 ≤ a → W p l e R s m args below meth c H locs cells slots Q (F0 m tgt ls rest)) (kf : ¬ 0 ≤ a → W p l e R s m args below meth c H locs cells slots Q (F0 m (pc + 3) ls rest)) : W p l e R s m args below meth c H locs cells slots Q (F0 m pc ls (.int (iI a) :: rest)) :=
  lv_if_ge hx hb hd ht (fun q => kt ((iz_le (a := 0) (by omega)).mp q)) (fun q => kf (fun z => q ((iz_le (a := 0) (by omega)).mpr z)))
theorem wk_if_gt (hx : p.tables.exec = Jvm.exec) (hb : c.code = cc) {a : Int} {off : Int} {tgt : Nat} (hd : decode cc pc = .ok (.ifCond .gt off, 3)) (ht : (pc : Int) + off = (tgt : Int)) (h : -2147483648 ≤ a ∧ a ≤ 2147483647)
    (kt : 0 < a → W p l e R s m args below meth c H locs cells slots Q (F0 m tgt ls rest)) (kf : ¬ 0 < a → W p l e R s m args below meth c H locs cells slots Q (F0 m (pc + 3) ls rest)) : W p l e R s m args below meth c H locs cells slots Q (F0 m pc ls (.int (iI a) :: rest)) :=
  lv_if_gt hx hb hd ht (fun q => kt ((iz_lt (a := 0) (by omega)).mp q)) (fun q => kf (fun z => q ((iz_lt (a := 0) (by omega)).mpr z)))
theorem wk_if_le (hx : p.tables.exec = Jvm.exec) (hb : c.code = cc) {a : Int} {off : Int} {tgt : Nat} (hd : decode cc pc = .ok (.ifCond .le off, 3)) (ht : (pc : Int) + off = (tgt : Int)) (h : -2147483648 ≤ a ∧ a ≤ 2147483647)
    (kt : a ≤ 0 → W p l e R s m args below meth c H locs cells slots Q (F0 m tgt ls rest)) (kf : ¬ a ≤ 0 → W p l e R s m args below meth c H locs cells slots Q (F0 m (pc + 3) ls rest)) : W p l e R s m args below meth c H locs cells slots Q (F0 m pc ls (.int (iI a) :: rest)) :=
  lv_if_le hx hb hd ht (fun q => kt ((iz_le (b := 0) (by omega)).mp q)) (fun q => kf (fun z => q ((iz_le (b := 0) (by omega)).mpr z)))
/-- a truth value is tested -/
theorem wk_bif_eq (hx : p.tables.exec = Jvm.exec) (hb : c.code = cc) {P : Prop} [Decidable P] {off : Int} {tgt : Nat} (hd : decode cc pc = .ok (.ifCond .eq off, 3)) (ht : (pc : Int) + off = (tgt : Int))
    (kt : ¬ P → W p l e R s m args below meth c H locs cells slots Q (F0 m tgt ls rest)) (kf : P → W p l e R s m args below meth c H locs cells slots Q (F0 m (pc + 3) ls rest)) : W p l e R s m args below meth c H locs cells slots Q (F0 m pc ls (.int (iI (bi P)) :: rest)) :=
  lv_if_eq hx hb hd ht (fun q => kt (bi_eq0.mp q)) (fun q => kf (Decidable.byContradiction fun z => q (bi_eq0.mpr z)))
theorem wk_bif_ne (hx : p.tables.exec = Jvm.exec) (hb : c.code = cc) {P : Prop} [Decidable P] {off : Int} {tgt : Nat} (hd : decode cc pc = .ok (.ifCond .ne off, 3)) (ht : (pc : Int) + off = (tgt : Int))
    (kt : P → W p l e R s m args below meth c H locs cells slots Q (F0 m tgt ls rest)) (kf : ¬ P → W p l e R s m args below meth c H locs cells slots Q (F0 m (pc + 3) ls rest)) : W p l e R s m args below meth c H locs cells slots Q (F0 m pc ls (.int (iI (bi P)) :: rest)) :=
  lv_if_ne hx hb hd ht (fun q => kt (Decidable.byContradiction fun z => q (bi_eq0.mpr z))) (fun q => kf (bi_eq0.mp q))
theorem wk_iinc (hx : p.tables.exec = Jvm.exec) (hb : c.code = cc) {i nL k : Nat} {n a : Int} {lv lv' : List (Nat × Value)} (hd : decode cc pc = .ok (.iinc i n, 3)) (h : lv_has ls nL lv) (hk : lv[k]? = some (i, .int (iI a))) (hn : i < nL) (hl : (i, Value.int (iI (a + n))) :: lv.filter (fun q => !(q.1 == i) && !(q.1 + 1 == i && q.2.category == 2)) = lv')
    (kk : ∀ ls' : Array Slot, lv_has ls' nL lv' → W p l e R s m args below meth c H locs cells slots Q (F0 m (pc + 3) ls' rest)) : W p l e R s m args below meth c H locs cells slots Q (F0 m pc ls rest) :=
  lv_iinc hx hb hd h hk (iz_add a n) hn hl kk
/-! arrays -/
variable {D : va_G} {cl : List vw_C} {tys : List (ClassId × FieldType)} {ws : va_W} {A : Nat → Prop} {H0 : Heap} {a : Nat}
theorem wk_iald (hx : p.tables.exec = Jvm.exec) (hb : c.code = cc) (hK : va_K D cl tys s) (hP : va_P D cl ws H) (q0 t0 : Nat) {cA : ClassId} {n : Nat} {f : Int → Int} (ha : ws[q0]? = some (a, .inl (cA, n, .inl (iF f)))) (ht : tys[t0]? = some (cA, .int)) {z : Int} (hn : n < 2147483648) (hz : 0 ≤ z ∧ z < (n : Int)) (hd : decode cc pc = .ok (.iaload, 1))
    (kk : W p l e R s m args below meth c H locs cells slots Q (F0 m (pc + 1) ls (.int (iI (f z)) :: rest))) : W p l e R s m args below meth c H locs cells slots Q (F0 m pc ls (.int (iI z) :: .ref a :: rest)) := by
  refine va_iald hx hb hK hP q0 t0 ha ht (iz_in hz hn) hd ?_
  rw [iF_at (by omega)]
  exact kk
theorem wk_zald (hx : p.tables.exec = Jvm.exec) (hb : c.code = cc) (hK : va_K D cl tys s) (hP : va_P D cl ws H) (q0 t0 : Nat) {cA : ClassId} {n : Nat} {f : Int → Int} (ha : ws[q0]? = some (a, .inl (cA, n, .inl (iF f)))) (ht : tys[t0]? = some (cA, .boolean)) {z : Int} (hn : n < 2147483648) (hz : 0 ≤ z ∧ z < (n : Int)) (hd : decode cc pc = .ok (.baload, 1))
    (kk : W p l e R s m args below meth c H locs cells slots Q (F0 m (pc + 1) ls (.int (iI (f z)) :: rest))) : W p l e R s m args below meth c H locs cells slots Q (F0 m pc ls (.int (iI z) :: .ref a :: rest)) := by
  refine va_zald hx hb hK hP q0 t0 ha ht (iz_in hz hn) hd ?_
  rw [iF_at (by omega)]
  exact kk
theorem wk_iast (hx : p.tables.exec = Jvm.exec) (hb : c.code = cc) (hK : va_K D cl tys s) (hP : va_P D cl ws H) (hD : va_D A ws) (hS : va_S A H0 H locs) (q0 t0 : Nat) {cA : ClassId} {n : Nat} {f : Int → Int} (ha : ws[q0]? = some (a, .inl (cA, n, .inl (iF f)))) (ht : tys[t0]? = some (cA, .int)) {z v : Int} (hn : n < 2147483648) (hz : 0 ≤ z ∧ z < (n : Int)) (hd : decode cc pc = .ok (.iastore, 1)) {ws' : va_W} (hw : ws.set q0 (a, .inl (cA, n, .inl (iF (iu f z v)))) = ws')
    (kk : ∀ (H1 : Heap) (locs1 : List Loc), va_P D cl ws' H1 → va_D A ws' → va_S A H0 H1 locs1 → W p l e R s m args below meth c H1 locs1 cells slots Q (F0 m (pc + 1) ls rest)) : W p l e R s m args below meth c H locs cells slots Q (F0 m pc ls (.int (iI v) :: .int (iI z) :: .ref a :: rest)) := by
  subst hw
  refine va_iast hx hb hK hP hD hS q0 t0 ha ht (iz_in hz hn) hd ?_
  rw [iF_up (by omega)]
  exact kk
theorem wk_zast (hx : p.tables.exec = Jvm.exec) (hb : c.code = cc) (hK : va_K D cl tys s) (hP : va_P D cl ws H) (hD : va_D A ws) (hS : va_S A H0 H locs) (q0 t0 : Nat) {cA : ClassId} {n : Nat} {f : Int → Int} (ha : ws[q0]? = some (a, .inl (cA, n, .inl (iF f)))) (ht : tys[t0]? = some (cA, .boolean)) {z v : Int} (hv : v = 0 ∨ v = 1) (hn : n < 2147483648) (hz : 0 ≤ z ∧ z < (n : Int)) (hd : decode cc pc = .ok (.bastore, 1)) {ws' : va_W} (hw : ws.set q0 (a, .inl (cA, n, .inl (iF (iu f z v)))) = ws')
    (kk : ∀ (H1 : Heap) (locs1 : List Loc), va_P D cl ws' H1 → va_D A ws' → va_S A H0 H1 locs1 → W p l e R s m args below meth c H1 locs1 cells slots Q (F0 m (pc + 1) ls rest)) : W p l e R s m args below meth c H locs cells slots Q (F0 m pc ls (.int (iI v) :: .int (iI z) :: .ref a :: rest)) := by
  subst hw
  refine va_zast hx hb hK hP hD hS q0 t0 ha ht (iz_in hz hn) hd ?_
  have h2 : vp_nar .boolean (iI v) = iI v := by
    rcases hv with rfl | rfl <;> rfl
  rw [h2, iF_up (by omega)]
  exact kk
theorem wk_put (hx : p.tables.exec = Jvm.exec) (hb : c.code = cc) {own ref C : String} {T : u_T} {N ci index : Nat} {Ts : List Cond} (hts : ∀ w ∈ Ts, w.before args s = true) (hin : ∀ w ∈ u_ws C T N, w ∈ Ts) (ty0 : Nat → FieldType) (hty : ∀ k, k < N → parseFieldDescriptor (T k).2.2.1 = some (ty0 k)) (hnm : ∀ a, a < N → ∀ b, b < N → a ≠ b → (T a).2.1 ≠ (T b).2.1) (hown : s.vm.findClass own = some m.cls) (hK : va_K D cl tys s) (hP : va_P D cl ws H) (hD : va_D A ws) (hS0 : va_S A H0 H locs) (q0 : Nat) {fs : List Value} (he : ws[q0]? = some (a, .inr (ci, fs))) (hc : cl[ci]? = some (C, T, N)) (k : Nat) (hk : k < N) (hlink : (Cond.fieldLink own index ref (T k).2.1 (T k).2.2.1).before args s = true) (hsame : ∀ x, s.fieldFound? (T k).1 (T k).2.1 (T k).2.2.1 = some x → s.fieldFound? ref (T k).2.1 (T k).2.2.1 = some x) (hfin : (T k).2.2.2 = false) {z : Int} (hd : parseFieldDescriptor (T k).2.2.1 = some .int) (hl : k < fs.length)
    (hdg : decode cc pc = .ok (.putfield index, 3)) {ws' : va_W} (hw : ws.set q0 (a, .inr (ci, fs.set k (.int (iI z)))) = ws') (kk : ∀ (H1 : Heap) (locs1 : List Loc), va_P D cl ws' H1 → va_D A ws' → va_S A H0 H1 locs1 → W p l e R s m args below meth c H1 locs1 cells slots Q (F0 m (pc + 3) ls rest)) : W p l e R s m args below meth c H locs cells slots Q (F0 m pc ls (.int (iI z) :: .ref a :: rest)) := by
  subst hw
  exact va_put hx hb hts hin ty0 hty hnm hown hK hP hD hS0 q0 he hc k hk hlink hsame hfin hd rfl rfl hl hdg kk
end WK
/-! contracts: the world before is WS, behind it u0, the answer r0 -/
def cPre (D : va_G) (cl : List vw_C) (TY : List (ClassId × FieldType)) (WS : va_W) (sz : Nat) (av : List Value) : Array Value → State → Prop := va_Pc av (fun U => xT U ∧ U.heap.size = sz ∧ va_P D cl WS U.heap ∧ va_K D cl TY U ∧ va_D (fun _ => True) WS)
def cB (D : va_G) (cl : List vw_C) (TY : List (ClassId × FieldType)) (A : Nat → Prop) (u : va_W) (t : State) : Prop := va_P D cl u t.heap ∧ va_K D cl TY t ∧ va_D A u
abbrev cQi (D : va_G) (cl : List vw_C) (TY : List (ClassId × FieldType)) (A : Nat → Prop) (r0 : Int32) (u0 : va_W) : Array Value → State → Outcome → State → Prop := va_Qi (fun (r : Int32) (u : va_W) => r = r0 ∧ u = u0) (cB D cl TY A) A
abbrev cQv (D : va_G) (cl : List vw_C) (TY : List (ClassId × FieldType)) (A : Nat → Prop) (u0 : va_W) : Array Value → State → Outcome → State → Prop := va_Qv (fun (u : va_W) => u = u0) (cB D cl TY A) A
/-- returns the int r0 -/
abbrev CtI (l : Launch) (y : MethodName) (wsm : List Cond) (rm : Room) (D : va_G) (cl : List vw_C) (TY : List (ClassId × FieldType)) (WS : va_W) (av : List Value) (r0 : Int32) (u0 : va_W) (sz : Nat) : Prop := Met l y wsm rm (cPre D cl TY WS sz av) (cQi D cl TY (va_A WS sz) r0 u0) 0 0 (va_A WS sz)
abbrev CtV (l : Launch) (y : MethodName) (wsm : List Cond) (rm : Room) (D : va_G) (cl : List vw_C) (TY : List (ClassId × FieldType)) (WS : va_W) (av : List Value) (u0 : va_W) (sz : Nat) : Prop := Met l y wsm rm (cPre D cl TY WS sz av) (cQv D cl TY (va_A WS sz) u0) 0 0 (va_A WS sz)
theorem cPre_blind {D : va_G} {cl : List vw_C} {TY : List (ClassId × FieldType)} {WS : va_W} {sz : Nat} {av : List Value} : FrameBlind (cPre D cl TY WS sz av) := fun a U g mk q => by
  obtain ⟨q0, qx, q1, qP, qK, qD⟩ := q
  exact ⟨q0, xT.same (u := U) (U := U.calling g mk a) rfl qx, q1, qP, va_K.moved (u := U) (U := U.calling g mk a) (Vm.Alike.refl U.vm) qK, qD⟩
section CK
variable {p : Program} {l : Launch} {e : Env} {R : Room} {s : State} {m : MethodId} {args : Array Value} {below : List Frame} {meth : Method} {c : Code} {H : Heap} {locs : List Loc} {cells slots : Nat} {Q : State → Prop} {pc : Nat} {ls : Array Slot} {rest : List Value} {cc : ByteArray}
variable {D : va_G} {cl : List vw_C} {TY : List (ClassId × FieldType)} {ws WC WR u0 : va_W} {A : Nat → Prop} {H0 : Heap} {b : Nat} {As : List Value}
theorem ck_fm {α β : Type} {f : α → Option β} {l : List α} {m : List β} (h : l.map f = m.map some) : l.filterMap f = m := by
  have h2 := congrArg (List.filterMap id) h
  simpa [List.filterMap_map] using h2
theorem ck_preV (hxT : xT s) (hK : va_K D cl TY s) (hP : va_P D cl ws H) (hD : va_D A ws) (isC : List Nat) (hC : isC.map (fun i => ws[i]?) = WC.map some) (hnd : va_nd isC = true) {C : String} {ci q0 : Nat} {q : vw_C} {fs : List Value} (hc : cl[ci]? = some q) (hq : q.1 = C) (he : WC[q0]? = some (b, .inr (ci, fs))) : PreV s H C b (cPre D cl TY WC H.size (.ref b :: As)) As := by
  subst hq
  have hPc := hP.sub isC (ck_fm hC)
  have hDc := hD.sub isC hnd hC
  exact ⟨cPre_blind, va_recv hK hPc hc he, fun U hU hW => ⟨rfl, xT.moved hW hxT, by rw [hU], by rw [hU]; exact hPc, va_K.moved hW.alike hK, hDc.weaken (fun _ _ _ _ => trivial)⟩⟩
theorem ck_preS (hxT : xT s) (hK : va_K D cl TY s) (hP : va_P D cl ws H) (hD : va_D A ws) (isC : List Nat) (hC : isC.map (fun i => ws[i]?) = WC.map some) (hnd : va_nd isC = true) : PreS s H (cPre D cl TY WC H.size As) As := by
  have hPc := hP.sub isC (ck_fm hC)
  have hDc := hD.sub isC hnd hC
  exact ⟨cPre_blind, fun U hU hW => ⟨rfl, xT.moved hW hxT, by rw [hU], by rw [hU]; exact hPc, va_K.moved hW.alike hK, hDc.weaken (fun _ _ _ _ => trivial)⟩⟩
theorem ck_backI {a : Array Value} {st0 : List Value} {r0 : Int32} (hr : va_Run p l e R s m args below meth c H locs cells slots 0 0 (F0 m pc ls st0) rest (cQi D cl TY (va_A WC H.size) r0 u0 a) (va_A WC H.size)) (hP : va_P D cl ws H) (hD : va_D A ws) (hS : va_S A H0 H locs) (hA : ∀ q, H0.size ≤ q → A q) (isC isR : List Nat) (hC : isC.map (fun i => ws[i]?) = WC.map some) (hR : isR.map (fun i => ws[i]?) = WR.map some) (hn : va_nd isR = true) (hdis : ∀ i ∈ isR, i ∉ isC)
    {ws' : va_W} (hw : WR ++ u0 = ws') (kk : ∀ (H1 : Heap) (locs1 : List Loc), va_P D cl ws' H1 → va_D A ws' → va_S A H0 H1 locs1 → W p l e R s m args below meth c H1 locs1 cells slots Q (F0 m (pc + 3) ls (.int r0 :: rest))) : W p l e R s m args below meth c H locs cells slots Q (F0 m pc ls st0) := by
  subst hw
  have hFc := va_free (wc := WC) hD hS hA isC hC
  refine va_calli hr hS (fun q _ h => hFc q h) hFc (fun r u t H1 locs1 ht hvm hw hB hz1 hk1 hS1 => ?_)
  obtain ⟨rfl, rfl⟩ := hw
  obtain ⟨hP1, hK1, hD1⟩ := hB
  rw [ht] at hP1
  obtain ⟨hP2, hD2⟩ := va_join hP hD isC isR hC hR hn hdis hk1 hFc hP1 hD1
  exact kk H1 locs1 hP2 hD2 hS1
theorem ck_backV {a : Array Value} {st0 : List Value} (hr : va_Run p l e R s m args below meth c H locs cells slots 0 0 (F0 m pc ls st0) rest (cQv D cl TY (va_A WC H.size) u0 a) (va_A WC H.size)) (hP : va_P D cl ws H) (hD : va_D A ws) (hS : va_S A H0 H locs) (hA : ∀ q, H0.size ≤ q → A q) (isC isR : List Nat) (hC : isC.map (fun i => ws[i]?) = WC.map some) (hR : isR.map (fun i => ws[i]?) = WR.map some) (hn : va_nd isR = true) (hdis : ∀ i ∈ isR, i ∉ isC)
    {ws' : va_W} (hw : WR ++ u0 = ws') (kk : ∀ (H1 : Heap) (locs1 : List Loc), va_P D cl ws' H1 → va_D A ws' → va_S A H0 H1 locs1 → W p l e R s m args below meth c H1 locs1 cells slots Q (F0 m (pc + 3) ls rest)) : W p l e R s m args below meth c H locs cells slots Q (F0 m pc ls st0) := by
  subst hw
  have hFc := va_free (wc := WC) hD hS hA isC hC
  refine va_callv hr hS (fun q _ h => hFc q h) hFc (fun u t H1 locs1 ht hvm hw hB hz1 hk1 hS1 => ?_)
  subst hw
  obtain ⟨hP1, hK1, hD1⟩ := hB
  rw [ht] at hP1
  obtain ⟨hP2, hD2⟩ := va_join hP hD isC isR hC hR hn hdis hk1 hFc hP1 hD1
  exact kk H1 locs1 hP2 hD2 hS1
end CK
/-- a contract's start -/
theorem ck_start {l : Launch} {y : MethodName} {wsm wsm' : List Cond} {rm : Room} {D : va_G} {cl : List vw_C} {TY : List (ClassId × FieldType)} {WS : va_W} {av : List Value} {sz mc ms : Nat} {Qc : (Nat → Prop) → Array Value → State → Outcome → State → Prop} {cc : ByteArray} {maxL : Nat} {ret : Option FieldType} {LV : List (Nat × Value)}
    (hy : plainName y.cls = true) (hw : wsm = Cond.code y cc maxL ret :: wsm') (hLV : lv_args 0 av = LV) (hlen : (lg_sl av).length ≤ maxL)
    (body : ∀ (p : Program) (e : Env) (s : State) (m : MethodId) (below : List Frame) (meth : Method) (c : Code), l.admits e → p.tables.exec = Jvm.exec → c.code = cc → meth.sig.returnType = ret → c.maxLocals = maxL → (∀ w ∈ wsm, w.before av.toArray s = true) → s.vm.findClass y.cls = some m.cls → meth.locks = false → meth.name = y.name → c.exceptionTable.isEmpty = true →
      xT s → ∀ (A : Nat → Prop), (∀ q, s.heap.size ≤ q → A q) → va_K D cl TY s → va_P D cl WS s.heap → va_D A WS → va_S A s.heap s.heap [] → ∀ ls : Array Slot, lv_has ls maxL LV → W p l e rm s m av.toArray below meth c s.heap [] 0 0 (MQ below (Qc A) av.toArray s mc ms A) (F0 m 0 ls [])) :
    Met l y wsm rm (cPre D cl TY WS sz av) (Qc (va_A WS sz)) mc ms (va_A WS sz) := by
  refine Met.ofW (cc := cc) (maxL := maxL) (ret := ret) hy hw ?_
  intro p e s m args below meth c s₁ B hml hv
  obtain ⟨rfl, hxT, hsz, hP, hK, hD0⟩ := hv
  subst hsz
  have hD := hD0.self (sz := s.heap.size)
  have hA : ∀ q : Nat, s.heap.size ≤ q → va_A WS s.heap.size q := fun q h => Or.inr h
  have hts := atoms_spec (ws := wsm) B.pre
  have hl := lv_entry av (n := maxL) hlen
  rw [lg_entry_eq]
  rw [hLV] at hl
  exact body p e s m below meth c (Stand.of_body B).admits B.exec B.bytes B.returns hml hts (findClass_of_methodNamed B.named) B.notSynchronized (name_of_methodNamed B.named B.method).1 (B.noHandlers (hts _ (by rw [hw]; exact List.mem_cons_self))) hxT _ hA hK hP hD va_S.rf _ hl
section RK
variable {p : Program} {l : Launch} {e : Env} {R : Room} {s : State} {m : MethodId} {args : Array Value} {below : List Frame} {meth : Method} {c : Code} {H : Heap} {locs : List Loc} {cells slots : Nat} {pc : Nat} {ls : Array Slot} {cc : ByteArray}
variable {D : va_G} {cl : List vw_C} {TY : List (ClassId × FieldType)} {ws u0 : va_W} {A : Nat → Prop} {H0 : Heap}
theorem rk_int (hx : p.tables.exec = Jvm.exec) (hb : c.code = cc) (hr : meth.sig.returnType = some .int) (hlocks : meth.locks = false) (hK : va_K D cl TY s) (hP : va_P D cl ws H) (hD : va_D A ws) (hS : va_S A s.heap H locs) {v r0 : Int} (hv : v = r0) (hu : ws = u0) (hd : decode cc pc = .ok (.ireturn, 1)) : W p l e R s m args below meth c H locs cells slots (MQ below (cQi D cl TY A (iI r0) u0) args s cells slots A) (F0 m pc ls [.int (iI v)]) := by
  subst hv; subst hu
  exact W.iret hx hb hr (fun t ht hW => ⟨⟨_, _, rfl, ⟨rfl, rfl⟩, by rw [ht]; exact hP, va_K.moved hW.alike hK, hD⟩, hS.F ht⟩) hS.2.2 hd hlocks
theorem rk_bool (hx : p.tables.exec = Jvm.exec) (hb : c.code = cc) (hr : meth.sig.returnType = some .boolean) (hlocks : meth.locks = false) (hK : va_K D cl TY s) (hP : va_P D cl ws H) (hD : va_D A ws) (hS : va_S A s.heap H locs) {v : Int} {P : Prop} [Decidable P] (hv : v = bi P) (hu : ws = u0) (hd : decode cc pc = .ok (.ireturn, 1)) : W p l e R s m args below meth c H locs cells slots (MQ below (cQi D cl TY A (iI (bi P)) u0) args s cells slots A) (F0 m pc ls [.int (iI v)]) := by
  subst hv; subst hu
  exact W.zret hx hb hr (bi_nar P) (fun t ht hW => ⟨⟨_, _, rfl, ⟨rfl, rfl⟩, by rw [ht]; exact hP, va_K.moved hW.alike hK, hD⟩, hS.F ht⟩) hS.2.2 hd hlocks
theorem rk_void (hx : p.tables.exec = Jvm.exec) (hb : c.code = cc) (hr : meth.sig.returnType = none) (hlocks : meth.locks = false) (hK : va_K D cl TY s) (hP : va_P D cl ws H) (hD : va_D A ws) (hS : va_S A s.heap H locs) (hu : ws = u0) (hd : decode cc pc = .ok (.return_, 1)) : W p l e R s m args below meth c H locs cells slots (MQ below (cQv D cl TY A u0) args s cells slots A) (F0 m pc ls []) := by
  subst hu
  exact W.vret hx hb hr (fun t ht hW => ⟨⟨_, rfl, rfl, by rw [ht]; exact hP, va_K.moved hW.alike hK, hD⟩, hS.F ht⟩) hS.2.2 hd hlocks
end RK
/-! pure contracts: the heap stays as it is -/
def QcVoid : Array Value → State → Outcome → State → Prop := fun _ st o t => o = .returned none ∧ t.heap = st.heap
abbrev CtP (l : Launch) (y : MethodName) (wsm : List Cond) (rm : Room) (D : va_G) (cl : List vw_C) (TY : List (ClassId × FieldType)) (WS : va_W) (av : List Value) (r0 : Int32) (sz : Nat) : Prop := Met l y wsm rm (cPre D cl TY WS sz av) (QcRead r0) 0 0 (fun _ => False)
abbrev CtPv (l : Launch) (y : MethodName) (wsm : List Cond) (rm : Room) (D : va_G) (cl : List vw_C) (TY : List (ClassId × FieldType)) (WS : va_W) (av : List Value) (sz : Nat) : Prop := Met l y wsm rm (cPre D cl TY WS sz av) QcVoid 0 0 (fun _ => False)
theorem pk_start {l : Launch} {y : MethodName} {wsm wsm' : List Cond} {rm : Room} {D : va_G} {cl : List vw_C} {TY : List (ClassId × FieldType)} {WS : va_W} {av : List Value} {sz : Nat} {Qc : Array Value → State → Outcome → State → Prop} {cc : ByteArray} {maxL : Nat} {ret : Option FieldType} {LV : List (Nat × Value)}
    (hy : plainName y.cls = true) (hw : wsm = Cond.code y cc maxL ret :: wsm') (hLV : lv_args 0 av = LV) (hlen : (lg_sl av).length ≤ maxL)
    (body : ∀ (p : Program) (e : Env) (s : State) (m : MethodId) (below : List Frame) (meth : Method) (c : Code), l.admits e → p.tables.exec = Jvm.exec → c.code = cc → meth.sig.returnType = ret → c.maxLocals = maxL → (∀ w ∈ wsm, w.before av.toArray s = true) → s.vm.findClass y.cls = some m.cls → meth.locks = false → meth.name = y.name → c.exceptionTable.isEmpty = true →
      xT s → ∀ (A : Nat → Prop), (∀ q, s.heap.size ≤ q → A q) → va_K D cl TY s → va_P D cl WS s.heap → va_D A WS → va_S A s.heap s.heap [] → ∀ ls : Array Slot, lv_has ls maxL LV → W p l e rm s m av.toArray below meth c s.heap [] 0 0 (MQ below Qc av.toArray s 0 0 (fun _ => False)) (F0 m 0 ls [])) :
    Met l y wsm rm (cPre D cl TY WS sz av) Qc 0 0 (fun _ => False) := by
  refine Met.ofW (cc := cc) (maxL := maxL) (ret := ret) hy hw ?_
  intro p e s m args below meth c s₁ B hml hv
  obtain ⟨rfl, hxT, hsz, hP, hK, hD0⟩ := hv
  subst hsz
  have hD := hD0.self (sz := s.heap.size)
  have hA : ∀ q : Nat, s.heap.size ≤ q → va_A WS s.heap.size q := fun q h => Or.inr h
  have hts := atoms_spec (ws := wsm) B.pre
  have hl := lv_entry av (n := maxL) hlen
  rw [lg_entry_eq]
  rw [hLV] at hl
  exact body p e s m below meth c (Stand.of_body B).admits B.exec B.bytes B.returns hml hts (findClass_of_methodNamed B.named) B.notSynchronized (name_of_methodNamed B.named B.method).1 (B.noHandlers (hts _ (by rw [hw]; exact List.mem_cons_self))) hxT _ hA hK hP hD va_S.rf _ hl
section PK
variable {p : Program} {l : Launch} {e : Env} {R : Room} {s : State} {m : MethodId} {args : Array Value} {below : List Frame} {meth : Method} {c : Code} {H : Heap} {locs : List Loc} {cells slots : Nat} {Q : State → Prop} {pc : Nat} {ls : Array Slot} {rest : List Value} {cc : ByteArray}
theorem pk_int (hx : p.tables.exec = Jvm.exec) (hb : c.code = cc) (hr : meth.sig.returnType = some .int) (hlocks : meth.locks = false) {v r0 : Int} (hv : v = r0) (hd : decode cc pc = .ok (.ireturn, 1)) : W p l e R s m args below meth c s.heap [] cells slots (MQ below (QcRead (iI r0)) args s cells slots (fun _ => False)) (F0 m pc ls [.int (iI v)]) := by
  subst hv
  exact W.iret hx hb hr (fun t ht hW => ⟨rfl, ht⟩) (fun q h => by cases h) hd hlocks
theorem pk_bool (hx : p.tables.exec = Jvm.exec) (hb : c.code = cc) (hr : meth.sig.returnType = some .boolean) (hlocks : meth.locks = false) {v : Int} {P : Prop} [Decidable P] (hv : v = bi P) (hd : decode cc pc = .ok (.ireturn, 1)) : W p l e R s m args below meth c s.heap [] cells slots (MQ below (QcRead (iI (bi P))) args s cells slots (fun _ => False)) (F0 m pc ls [.int (iI v)]) := by
  subst hv
  exact W.zret hx hb hr (bi_nar P) (fun t ht hW => ⟨rfl, ht⟩) (fun q h => by cases h) hd hlocks
theorem pk_void (hx : p.tables.exec = Jvm.exec) (hb : c.code = cc) (hr : meth.sig.returnType = none) (hlocks : meth.locks = false) (hd : decode cc pc = .ok (.return_, 1)) : W p l e R s m args below meth c s.heap [] cells slots (MQ below QcVoid args s cells slots (fun _ => False)) (F0 m pc ls []) :=
  W.vret hx hb hr (fun t ht hW => ⟨rfl, ht⟩) (fun q h => by cases h) hd hlocks
theorem pk_callI {a : Array Value} {st0 : List Value} {r0 : Int32} (hr : va_Run p l e R s m args below meth c H locs cells slots 0 0 (F0 m pc ls st0) rest (QcRead r0 a) (fun _ => False)) (kk : W p l e R s m args below meth c H locs cells slots Q (F0 m (pc + 3) ls (.int r0 :: rest))) : W p l e R s m args below meth c H locs cells slots Q (F0 m pc ls st0) := by
  intro T hT X
  obtain ⟨v, st₀, t, T', L, h0, X', hL, e1, e2, ⟨hv, hh⟩, st⟩ := hr T hT X
  cases hv
  have hL0 : L = [] := List.eq_nil_iff_forall_not_mem.mpr (fun q h => hL q h)
  subst hL0
  rw [List.append_nil] at X'
  obtain ⟨t2, a1, b1⟩ := kk T' (by rw [e1, hh, h0]) X'
  exact ⟨t2, st t2 a1, b1⟩
theorem pk_callV {a : Array Value} {st0 : List Value} (hr : va_Run p l e R s m args below meth c H locs cells slots 0 0 (F0 m pc ls st0) rest (QcVoid a) (fun _ => False)) (kk : W p l e R s m args below meth c H locs cells slots Q (F0 m (pc + 3) ls rest)) : W p l e R s m args below meth c H locs cells slots Q (F0 m pc ls st0) := by
  intro T hT X
  obtain ⟨v, st₀, t, T', L, h0, X', hL, e1, e2, ⟨hv, hh⟩, st⟩ := hr T hT X
  cases hv
  have hL0 : L = [] := List.eq_nil_iff_forall_not_mem.mpr (fun q h => hL q h)
  subst hL0
  rw [List.append_nil] at X'
  obtain ⟨t2, a1, b1⟩ := kk T' (by rw [e1, hh, h0]) X'
  exact ⟨t2, st t2 a1, b1⟩
end PK
section MK
variable {p : Program} {l : Launch} {e : Env} {R : Room} {s : State} {m : MethodId} {args : Array Value} {below : List Frame} {meth : Method} {c : Code} {H : Heap} {locs : List Loc} {cells slots : Nat} {Q : State → Prop} {pc : Nat} {ls : Array Slot} {rest : List Value} {cc : ByteArray}
variable {D : va_G} {cl : List vw_C} {tys : List (ClassId × FieldType)} {ws : va_W} {A : Nat → Prop} {H0 : Heap} {a : Nat}
theorem wk_aald {y : Nat} (hx : p.tables.exec = Jvm.exec) (hb : c.code = cc) (hK : va_K D cl tys s) (hP : va_P D cl ws H) (q0 t0 : Nat) {cA : ClassId} {C : String} {n : Nat} {f : Nat → Option Nat} (ha : ws[q0]? = some (a, .inl (cA, n, .inr (.inr (.inr (.inr f)))))) (ht : tys[t0]? = some (cA, .object C)) {z : Int} (hn : n < 2147483648) (hz : 0 ≤ z ∧ z < (n : Int)) (hf : f z.toNat = some y) (hd : decode cc pc = .ok (.aaload, 1))
    (kk : W p l e R s m args below meth c H locs cells slots Q (F0 m (pc + 1) ls (.ref y :: rest))) : W p l e R s m args below meth c H locs cells slots Q (F0 m pc ls (.int (iI z) :: .ref a :: rest)) := by
  refine va_aldq hx hb hK hP q0 t0 ha ht (iz_in hz hn) hd ?_
  rw [iz_clamp (by omega), hf]
  exact kk
theorem wk_mmax (hx : p.tables.exec = Jvm.exec) (hb : c.code = cc) (hml : c.maxLocals = ls.size) {own : String} {index : Nat} (hown : s.vm.findClass own = some m.cls) (hlink : (Cond.methodLink own index Lib.Math.max.name).before args s = true) (hstat : (Cond.static Lib.Math.max.name).before args s = true) (hini : (Cond.initialized "java/lang/Math").before args s = true) (hcode : (Cond.code Lib.Math.max.name Lib.Math.max.code 2 (some .int)).before args s = true)
    (hframes : 1 ≤ R.frames) (hlocals : (rest.map fun v => v.category).sum + 13 ≤ R.locals) (hc : cells ≤ R.cells) (hs : slots ≤ R.slots) {x y : Int} (hr : -2147483648 ≤ x ∧ x ≤ 2147483647 ∧ -2147483648 ≤ y ∧ y ≤ 2147483647) (hd : decode cc pc = .ok (.invokestatic index, 3))
    (kk : W p l e R s m args below meth c H locs cells slots Q (F0 m (pc + 3) ls (.int (iI (max x y)) :: rest))) : W p l e R s m args below meth c H locs cells slots Q (F0 m pc ls (.int (iI y) :: .int (iI x) :: rest)) := by
  refine va_mmax hx hb hml hown hlink hstat hini hcode hframes hlocals hc hs hd ?_
  have e1 : (if iI x < iI y then iI y else iI x) = iI (max x y) := by
    by_cases h : x < y
    · rw [if_pos ((iz_lt hr).mpr h), Int.max_eq_right (by omega)]
    · rw [if_neg (fun z => h ((iz_lt hr).mp z)), Int.max_eq_left (by omega)]
  rw [e1]
  exact kk
theorem wk_mmin (hx : p.tables.exec = Jvm.exec) (hb : c.code = cc) (hml : c.maxLocals = ls.size) {own : String} {index : Nat} (hown : s.vm.findClass own = some m.cls) (hlink : (Cond.methodLink own index Lib.Math.min.name).before args s = true) (hstat : (Cond.static Lib.Math.min.name).before args s = true) (hini : (Cond.initialized "java/lang/Math").before args s = true) (hcode : (Cond.code Lib.Math.min.name Lib.Math.min.code 2 (some .int)).before args s = true)
    (hframes : 1 ≤ R.frames) (hlocals : (rest.map fun v => v.category).sum + 13 ≤ R.locals) (hc : cells ≤ R.cells) (hs : slots ≤ R.slots) {x y : Int} (hr : -2147483648 ≤ x ∧ x ≤ 2147483647 ∧ -2147483648 ≤ y ∧ y ≤ 2147483647) (hd : decode cc pc = .ok (.invokestatic index, 3))
    (kk : W p l e R s m args below meth c H locs cells slots Q (F0 m (pc + 3) ls (.int (iI (min x y)) :: rest))) : W p l e R s m args below meth c H locs cells slots Q (F0 m pc ls (.int (iI y) :: .int (iI x) :: rest)) := by
  refine va_mmin hx hb hml hown hlink hstat hini hcode hframes hlocals hc hs hd ?_
  have e1 : (if iI y < iI x then iI y else iI x) = iI (min x y) := by
    by_cases h : y < x
    · rw [if_pos ((iz_lt (by omega)).mpr h), Int.min_eq_right (by omega)]
    · rw [if_neg (fun z => h ((iz_lt (by omega)).mp z)), Int.min_eq_left (by omega)]
  rw [e1]
  exact kk
theorem wk_mabs (hx : p.tables.exec = Jvm.exec) (hb : c.code = cc) (hml : c.maxLocals = ls.size) {own : String} {index : Nat} (hown : s.vm.findClass own = some m.cls) (hlink : (Cond.methodLink own index Lib.Math.abs.name).before args s = true) (hstat : (Cond.static Lib.Math.abs.name).before args s = true) (hini : (Cond.initialized "java/lang/Math").before args s = true) (hcode : (Cond.code Lib.Math.abs.name Lib.Math.abs.code 1 (some .int)).before args s = true)
    (hframes : 1 ≤ R.frames) (hlocals : (rest.map fun v => v.category).sum + 13 ≤ R.locals) (hc : cells ≤ R.cells) (hs : slots ≤ R.slots) {x : Int} (hr : -2147483648 ≤ x ∧ x ≤ 2147483647) (hd : decode cc pc = .ok (.invokestatic index, 3))
    (kk : W p l e R s m args below meth c H locs cells slots Q (F0 m (pc + 3) ls (.int (iI (if 0 ≤ x then x else 0 - x)) :: rest))) : W p l e R s m args below meth c H locs cells slots Q (F0 m pc ls (.int (iI x) :: rest)) := by
  refine va_mabs hx hb hml hown hlink hstat hini hcode hframes hlocals hc hs hd ?_
  have e1 : (if 0 ≤ iI x then iI x else 0 - iI x) = iI (if 0 ≤ x then x else 0 - x) := by
    show (if iI 0 ≤ iI x then iI x else iI 0 - iI x) = iI (if 0 ≤ x then x else 0 - x)
    by_cases h : 0 ≤ x
    · rw [if_pos ((iz_le (a := 0) (by omega)).mpr h), if_pos h]
    · rw [if_neg (fun z => h ((iz_le (a := 0) (by omega)).mp z)), if_neg h]
      exact iz_sub 0 x
  rw [e1]
  exact kk
end MK
/-- the array classes -/
abbrev tyL (kI kZ kL kJ : ClassId) : List (ClassId × FieldType) := [(kI, .int), (kZ, .boolean), (kL, .object "GateSteps$Lane"), (kJ, .long)]
def g3 (x y z : Nat) : Nat → Option Nat := va_up (va_up (va_up (fun _ => none) 0 (some x)) 1 (some y)) 2 (some z)
end
section
/-! pure words: scans, copies -/
/-- the first of n places from i on where P holds; d if there is none -/
def sc (P : Int → Bool) (d : Int) : Nat → Int → Int
  | 0, _ => d
  | n + 1, i => if P i = true then i else sc P d n (i + 1)
theorem sc_step {P : Int → Bool} {d n i : Int} (h : i ≤ n) : sc P d (n + 1 - i).toNat i = if P i = true then i else sc P d (n + 1 - (i + 1)).toNat (i + 1) := by
  have h1 : (n + 1 - i).toNat = (n + 1 - (i + 1)).toNat + 1 := by omega
  rw [h1]; rfl
theorem sc_end {P : Int → Bool} {d n i : Int} (h : n < i) : sc P d (n + 1 - i).toNat i = d := by
  have h1 : (n + 1 - i).toNat = 0 := by omega
  rw [h1]; rfl
theorem sc_yes {P : Int → Bool} {d n i : Int} (h : i ≤ n) (hp : P i = true) : sc P d (n + 1 - i).toNat i = i := by
  rw [sc_step h, if_pos hp]
theorem sc_no {P : Int → Bool} {d n i : Int} (h : i ≤ n) (hp : ¬ P i = true) : sc P d (n + 1 - i).toNat i = sc P d (n + 1 - (i + 1)).toNat (i + 1) := by
  rw [sc_step h, if_neg hp]
/-- what a scan from i to n says -/
theorem sc_spec (P : Int → Bool) (d n : Int) : ∀ (f : Nat) (i : Int), n + 1 - i ≤ (f : Int) → (sc P d (n + 1 - i).toNat i = d ∧ ∀ j, i ≤ j → j ≤ n → ¬ P j = true) ∨ (∃ j, i ≤ j ∧ j ≤ n ∧ P j = true ∧ (∀ q, i ≤ q → q < j → ¬ P q = true) ∧ sc P d (n + 1 - i).toNat i = j) := by
  intro f
  induction f with
  | zero =>
    intro i h
    exact Or.inl ⟨sc_end (by omega), fun j h1 h2 => by omega⟩
  | succ f ih =>
    intro i h
    by_cases hn : i ≤ n
    · by_cases hp : P i = true
      · exact Or.inr ⟨i, by omega, hn, hp, fun q h1 h2 => by omega, sc_yes hn hp⟩
      · rw [sc_no hn hp]
        rcases ih (i + 1) (by omega) with ⟨h1, h2⟩ | ⟨j, h1, h2, h3, h4, h5⟩
        · refine Or.inl ⟨h1, fun j h3 h4 => ?_⟩
          by_cases e : j = i
          · rw [e]; exact hp
          · exact h2 j (by omega) h4
        · refine Or.inr ⟨j, by omega, h2, h3, fun q h6 h7 => ?_, h5⟩
          by_cases e : q = i
          · rw [e]; exact hp
          · exact h4 q (by omega) h7
    · exact Or.inl ⟨sc_end (by omega), fun j h1 h2 => by omega⟩
abbrev pHB (kb kz : Int → Int) (bx : Int) : Int → Bool := fun j => decide (kb j = bx ∧ ¬ kz j = 3)
abbrev pIN (kt kz : Int → Int) (tr : Int) : Int → Bool := fun j => decide (kt j = tr ∧ kz j = 1)
abbrev pDF (bs nu : Int → Int) (bx : Int) : Int → Bool := fun j => decide (¬ bs (bx * 10 + j) = nu j)
abbrev pRM (tk : Int → Int) (sm : Int) : Int → Bool := fun j => decide (tk j < sm)
abbrev pNB (bs nu : Int → Int) : Int → Bool := fun j => decide (sc (pDF bs nu j) (-1) ((9 : Int) + 1 - 0).toNat 0 = -1)
/-- the worth of a sign, the sum of the first n -/
abbrev wrt (ch : Int) : Int := if 65 ≤ ch ∧ ch ≤ 90 then ch - 65 + 1 else ch - 48
def ckS (rs : Int → Int) : Nat → Int
  | 0 => 0
  | n + 1 => ckS rs n + wrt (rs (n : Int)) * ((n : Int) + 1)
theorem ckS_step (rs : Int → Int) {i : Int} (h : 0 ≤ i) : ckS rs (i + 1).toNat = ckS rs i.toNat + wrt (rs i) * (i + 1) := by
  have h1 : (i + 1).toNat = i.toNat + 1 := by omega
  rw [h1]
  show ckS rs i.toNat + wrt (rs (i.toNat : Int)) * ((i.toNat : Int) + 1) = _
  rw [Int.toNat_of_nonneg h]
/-- n places of nu are laid at b -/
def cpN (bs : Int → Int) (b : Int) (nu : Int → Int) : Nat → Int → Int
  | 0 => bs
  | n + 1 => iu (cpN bs b nu n) (b + (n : Int)) (nu (n : Int))
theorem cpN_step (bs : Int → Int) (b : Int) (nu : Int → Int) {i : Int} (h : 0 ≤ i) : cpN bs b nu (i + 1).toNat = iu (cpN bs b nu i.toNat) (b + i) (nu i) := by
  have h1 : (i + 1).toNat = i.toNat + 1 := by omega
  rw [h1]
  show iu (cpN bs b nu i.toNat) (b + (i.toNat : Int)) (nu (i.toNat : Int)) = _
  rw [Int.toNat_of_nonneg h]
/-- a booking leaves a lane -/
def rmL (bk n : Int) : Nat → Int → Int → (Int → Int) → (Int → Int) × Int
  | 0, _, k, w => (w, k)
  | f + 1, i, k, w => if w i = bk then rmL bk n f (i + 1) k w else rmL bk n f (i + 1) (k + 1) (iu w k (w i))
theorem rmL_end {bk n i k : Int} {w : Int → Int} (h : n ≤ i) : rmL bk n (n - i).toNat i k w = (w, k) := by
  have h1 : (n - i).toNat = 0 := by omega
  rw [h1]; rfl
theorem rmL_step {bk n i k : Int} {w : Int → Int} (h : i < n) : rmL bk n (n - i).toNat i k w = if w i = bk then rmL bk n (n - (i + 1)).toNat (i + 1) k w else rmL bk n (n - (i + 1)).toNat (i + 1) (k + 1) (iu w k (w i)) := by
  have h1 : (n - i).toNat = (n - (i + 1)).toNat + 1 := by omega
  rw [h1]; rfl
/-- who did not come -/
def nsL (nw kn : Int) (ks : Int → Int) : Nat → Int → (Int → Int) → (Int → Int) → Int → (Int → Int) × (Int → Int) × Int
  | 0, _, kz, tk, n => (kz, tk, n)
  | f + 1, i, kz, tk, n => if kz i = 0 ∧ 600 * ks i + 600 - 1 + 120 < nw then nsL nw kn ks f (i + 1) (iu kz i 3) (iu tk (ks i) (tk (ks i) - 1)) (n + 1) else nsL nw kn ks f (i + 1) kz tk n
theorem nsL_end {nw kn i n : Int} {ks kz tk : Int → Int} (h : kn < i) : nsL nw kn ks (kn + 1 - i).toNat i kz tk n = (kz, tk, n) := by
  have h1 : (kn + 1 - i).toNat = 0 := by omega
  rw [h1]; rfl
theorem nsL_step {nw kn i n : Int} {ks kz tk : Int → Int} (h : i ≤ kn) : nsL nw kn ks (kn + 1 - i).toNat i kz tk n = if kz i = 0 ∧ 600 * ks i + 600 - 1 + 120 < nw then nsL nw kn ks (kn + 1 - (i + 1)).toNat (i + 1) (iu kz i 3) (iu tk (ks i) (tk (ks i) - 1)) (n + 1) else nsL nw kn ks (kn + 1 - (i + 1)).toNat (i + 1) kz tk n := by
  have h1 : (kn + 1 - i).toNat = (kn + 1 - (i + 1)).toNat + 1 := by omega
  rw [h1]; rfl
/-- the first bar of a box, of a booking; 0 if there is none -/
def fbB (bv bd : Int → Int) (bx : Int) : Int := if bv (bx * 4 + 0) = 0 then 5 else if bv (bx * 4 + 1) = 0 then 6 else if bv (bx * 4 + 2) = 0 then 7 else if ¬ bd bx = 0 ∧ bv (bx * 4 + 3) = 0 then 8 else 0
theorem fbB_rng (bv bd : Int → Int) (bx : Int) : 0 ≤ fbB bv bd bx ∧ fbB bv bd bx ≤ 8 := by
  unfold fbB
  repeat' split
  all_goals omega
def fbR (nw : Int) (bv bd tv : Int → Int) (kn : Int) (ks kt kb kz : Int → Int) (bk : Int) : Int := if ¬ kz bk = 0 then 1 else if nw < 600 * ks bk - 120 ∨ 600 * ks bk + 600 - 1 + 120 < nw then 2 else if tv (kt bk * 2 + 4 - 4) = 0 then 3 else if tv (kt bk * 2 + 5 - 4) = 0 then 4 else if ¬ fbB bv bd (kb bk) = 0 then fbB bv bd (kb bk) else if ¬ sc (pIN kt kz (kt bk)) (-1) (kn + 1 - 1).toNat 1 = -1 then 9 else 0
theorem fbR_rng (nw : Int) (bv bd tv : Int → Int) (kn : Int) (ks kt kb kz : Int → Int) (bk : Int) : 0 ≤ fbR nw bv bd tv kn ks kt kb kz bk ∧ fbR nw bv bd tv kn ks kt kb kz bk ≤ 9 := by
  have h := fbB_rng bv bd (kb bk)
  unfold fbR
  repeat' split
  all_goals omega
end
section
theorem wd_1 : (.selects "GateSteps$Boxes" ⟨"GateSteps$Boxes", "isNumberOf", "(I[I)Z"⟩ ⟨"GateSteps$Boxes", "isNumberOf", "(I[I)Z"⟩ : Cond) ∈ tbG := tb_in (List.mem_of_getElem? (i := 1) (by decide +kernel)) rfl
theorem wd_11 : (.selects "GateSteps" ⟨"GateSteps", "isAhead", "(I)Z"⟩ ⟨"GateSteps", "isAhead", "(I)Z"⟩ : Cond) ∈ tbG := tb_in (List.mem_of_getElem? (i := 11) (by decide +kernel)) rfl
theorem wd_12 : (.selects "GateSteps" ⟨"GateSteps", "isOver", "(I)Z"⟩ ⟨"GateSteps", "isOver", "(I)Z"⟩ : Cond) ∈ tbG := tb_in (List.mem_of_getElem? (i := 12) (by decide +kernel)) rfl
theorem wd_13 : (.selects "GateSteps" ⟨"GateSteps", "firstBarOfBox", "(I)I"⟩ ⟨"GateSteps", "firstBarOfBox", "(I)I"⟩ : Cond) ∈ tbG := tb_in (List.mem_of_getElem? (i := 13) (by decide +kernel)) rfl
theorem wd_33 : (.initialized "GateSteps" : Cond) ∈ tbG := tb_in (List.mem_of_getElem? (i := 33) (by decide +kernel)) rfl
theorem wd_34 : (.initialized "GateSteps$SignRow" : Cond) ∈ tbG := tb_in (List.mem_of_getElem? (i := 34) (by decide +kernel)) rfl
theorem wd_35 : (.initialized "GateSteps$Boxes" : Cond) ∈ tbG := tb_in (List.mem_of_getElem? (i := 35) (by decide +kernel)) rfl
theorem wd_36 : (.initialized "GateSteps$Trucks" : Cond) ∈ tbG := tb_in (List.mem_of_getElem? (i := 36) (by decide +kernel)) rfl
theorem wd_37 : (.initialized "GateSteps$Slots" : Cond) ∈ tbG := tb_in (List.mem_of_getElem? (i := 37) (by decide +kernel)) rfl
theorem wd_38 : (.initialized "java/lang/Math" : Cond) ∈ tbG := tb_in (List.mem_of_getElem? (i := 38) (by decide +kernel)) rfl
theorem wd_39 : (.initialized "GateSteps$Bookings" : Cond) ∈ tbG := tb_in (List.mem_of_getElem? (i := 39) (by decide +kernel)) rfl
theorem wd_40 : (.initialized "GateSteps$Lane" : Cond) ∈ tbG := tb_in (List.mem_of_getElem? (i := 40) (by decide +kernel)) rfl
theorem wd_45 : (.initialized "java/lang/IllegalArgumentException" : Cond) ∈ tbG := tb_in (List.mem_of_getElem? (i := 45) (by decide +kernel)) rfl
theorem wd_47 : (.initialized "java/lang/IndexOutOfBoundsException" : Cond) ∈ tbG := tb_in (List.mem_of_getElem? (i := 47) (by decide +kernel)) rfl
theorem wd_62 : (.fieldLink "GateSteps$SignRow" 9 "GateSteps$SignRow" "signs" "[I" : Cond) ∈ tbG := tb_in (List.mem_of_getElem? (i := 62) (by decide +kernel)) rfl
theorem wd_64 : (.fieldLink "GateSteps$SignRow" 15 "GateSteps$SignRow" "size" "I" : Cond) ∈ tbG := tb_in (List.mem_of_getElem? (i := 64) (by decide +kernel)) rfl
theorem wd_78 : (.fieldLink "GateSteps$Boxes" 9 "GateSteps$Boxes" "signs" "[I" : Cond) ∈ tbG := tb_in (List.mem_of_getElem? (i := 78) (by decide +kernel)) rfl
theorem wd_80 : (.fieldLink "GateSteps$Boxes" 15 "GateSteps$Boxes" "weight" "[I" : Cond) ∈ tbG := tb_in (List.mem_of_getElem? (i := 80) (by decide +kernel)) rfl
theorem wd_81 : (.fieldLink "GateSteps" 286 "GateSteps$Boxes" "weight" "[I" : Cond) ∈ tbG := tb_in (List.mem_of_getElem? (i := 81) (by decide +kernel)) rfl
theorem wd_82 : (.fieldLink "GateSteps$Boxes" 18 "GateSteps$Boxes" "dangerous" "[Z" : Cond) ∈ tbG := tb_in (List.mem_of_getElem? (i := 82) (by decide +kernel)) rfl
theorem wd_83 : (.fieldLink "GateSteps" 281 "GateSteps$Boxes" "dangerous" "[Z" : Cond) ∈ tbG := tb_in (List.mem_of_getElem? (i := 83) (by decide +kernel)) rfl
theorem wd_84 : (.fieldLink "GateSteps$Boxes" 22 "GateSteps$Boxes" "verdicts" "[I" : Cond) ∈ tbG := tb_in (List.mem_of_getElem? (i := 84) (by decide +kernel)) rfl
theorem wd_85 : (.fieldLink "GateSteps$Boxes" 25 "GateSteps$Boxes" "size" "I" : Cond) ∈ tbG := tb_in (List.mem_of_getElem? (i := 85) (by decide +kernel)) rfl
theorem wd_86 : (.fieldLink "GateSteps" 101 "GateSteps$Boxes" "size" "I" : Cond) ∈ tbG := tb_in (List.mem_of_getElem? (i := 86) (by decide +kernel)) rfl
theorem wd_105 : (.fieldLink "GateSteps$Trucks" 9 "GateSteps$Trucks" "verdicts" "[I" : Cond) ∈ tbG := tb_in (List.mem_of_getElem? (i := 105) (by decide +kernel)) rfl
theorem wd_114 : (.methodLink "GateSteps" 247 ⟨"java/lang/Math", "min", "(II)I"⟩ : Cond) ∈ tbG := tb_in (List.mem_of_getElem? (i := 114) (by decide +kernel)) rfl
theorem wd_115 : (.static ⟨"java/lang/Math", "min", "(II)I"⟩ : Cond) ∈ tbG := tb_in (List.mem_of_getElem? (i := 115) (by decide +kernel)) rfl
theorem wd_117 : (.methodLink "GateSteps" 252 ⟨"java/lang/Math", "max", "(II)I"⟩ : Cond) ∈ tbG := tb_in (List.mem_of_getElem? (i := 117) (by decide +kernel)) rfl
theorem wd_118 : (.static ⟨"java/lang/Math", "max", "(II)I"⟩ : Cond) ∈ tbG := tb_in (List.mem_of_getElem? (i := 118) (by decide +kernel)) rfl
theorem wd_124 : (.fieldLink "GateSteps$Slots" 9 "GateSteps$Slots" "taken" "[I" : Cond) ∈ tbG := tb_in (List.mem_of_getElem? (i := 124) (by decide +kernel)) rfl
theorem wd_125 : (.fieldLink "GateSteps" 157 "GateSteps$Slots" "taken" "[I" : Cond) ∈ tbG := tb_in (List.mem_of_getElem? (i := 125) (by decide +kernel)) rfl
theorem wd_126 : (.fieldLink "GateSteps$Slots" 15 "GateSteps$Slots" "size" "I" : Cond) ∈ tbG := tb_in (List.mem_of_getElem? (i := 126) (by decide +kernel)) rfl
theorem wd_127 : (.fieldLink "GateSteps$Slots" 19 "GateSteps$Slots" "room" "I" : Cond) ∈ tbG := tb_in (List.mem_of_getElem? (i := 127) (by decide +kernel)) rfl
theorem wd_141 : (.fieldLink "GateSteps$Bookings" 9 "GateSteps$Bookings" "slot" "[I" : Cond) ∈ tbG := tb_in (List.mem_of_getElem? (i := 141) (by decide +kernel)) rfl
theorem wd_142 : (.fieldLink "GateSteps" 211 "GateSteps$Bookings" "slot" "[I" : Cond) ∈ tbG := tb_in (List.mem_of_getElem? (i := 142) (by decide +kernel)) rfl
theorem wd_143 : (.fieldLink "GateSteps$Bookings" 15 "GateSteps$Bookings" "truck" "[I" : Cond) ∈ tbG := tb_in (List.mem_of_getElem? (i := 143) (by decide +kernel)) rfl
theorem wd_144 : (.fieldLink "GateSteps" 220 "GateSteps$Bookings" "truck" "[I" : Cond) ∈ tbG := tb_in (List.mem_of_getElem? (i := 144) (by decide +kernel)) rfl
theorem wd_145 : (.fieldLink "GateSteps$Bookings" 18 "GateSteps$Bookings" "box" "[I" : Cond) ∈ tbG := tb_in (List.mem_of_getElem? (i := 145) (by decide +kernel)) rfl
theorem wd_146 : (.fieldLink "GateSteps" 181 "GateSteps$Bookings" "box" "[I" : Cond) ∈ tbG := tb_in (List.mem_of_getElem? (i := 146) (by decide +kernel)) rfl
theorem wd_147 : (.fieldLink "GateSteps$Bookings" 21 "GateSteps$Bookings" "state" "[I" : Cond) ∈ tbG := tb_in (List.mem_of_getElem? (i := 147) (by decide +kernel)) rfl
theorem wd_148 : (.fieldLink "GateSteps" 175 "GateSteps$Bookings" "state" "[I" : Cond) ∈ tbG := tb_in (List.mem_of_getElem? (i := 148) (by decide +kernel)) rfl
theorem wd_150 : (.fieldLink "GateSteps" 223 "GateSteps$Bookings" "lane" "[I" : Cond) ∈ tbG := tb_in (List.mem_of_getElem? (i := 150) (by decide +kernel)) rfl
theorem wd_152 : (.fieldLink "GateSteps" 178 "GateSteps$Bookings" "came" "[I" : Cond) ∈ tbG := tb_in (List.mem_of_getElem? (i := 152) (by decide +kernel)) rfl
theorem wd_154 : (.fieldLink "GateSteps" 226 "GateSteps$Bookings" "turn" "[I" : Cond) ∈ tbG := tb_in (List.mem_of_getElem? (i := 154) (by decide +kernel)) rfl
theorem wd_155 : (.fieldLink "GateSteps$Bookings" 33 "GateSteps$Bookings" "size" "I" : Cond) ∈ tbG := tb_in (List.mem_of_getElem? (i := 155) (by decide +kernel)) rfl
theorem wd_156 : (.fieldLink "GateSteps" 145 "GateSteps$Bookings" "size" "I" : Cond) ∈ tbG := tb_in (List.mem_of_getElem? (i := 156) (by decide +kernel)) rfl
theorem wd_181 : (.fieldLink "GateSteps$Lane" 9 "GateSteps$Lane" "waiting" "[I" : Cond) ∈ tbG := tb_in (List.mem_of_getElem? (i := 181) (by decide +kernel)) rfl
theorem wd_182 : (.fieldLink "GateSteps$Lane" 15 "GateSteps$Lane" "size" "I" : Cond) ∈ tbG := tb_in (List.mem_of_getElem? (i := 182) (by decide +kernel)) rfl
theorem wd_183 : (.fieldLink "GateSteps" 237 "GateSteps$Lane" "size" "I" : Cond) ∈ tbG := tb_in (List.mem_of_getElem? (i := 183) (by decide +kernel)) rfl
theorem wd_190 : (.fieldLink "GateSteps" 19 "GateSteps" "boxes" "LGateSteps$Boxes;" : Cond) ∈ tbG := tb_in (List.mem_of_getElem? (i := 190) (by decide +kernel)) rfl
theorem wd_191 : (.fieldLink "GateSteps" 26 "GateSteps" "trucks" "LGateSteps$Trucks;" : Cond) ∈ tbG := tb_in (List.mem_of_getElem? (i := 191) (by decide +kernel)) rfl
theorem wd_192 : (.fieldLink "GateSteps" 39 "GateSteps" "slots" "LGateSteps$Slots;" : Cond) ∈ tbG := tb_in (List.mem_of_getElem? (i := 192) (by decide +kernel)) rfl
theorem wd_193 : (.fieldLink "GateSteps" 46 "GateSteps" "bookings" "LGateSteps$Bookings;" : Cond) ∈ tbG := tb_in (List.mem_of_getElem? (i := 193) (by decide +kernel)) rfl
theorem wd_194 : (.fieldLink "GateSteps" 52 "GateSteps" "lanes" "[LGateSteps$Lane;" : Cond) ∈ tbG := tb_in (List.mem_of_getElem? (i := 194) (by decide +kernel)) rfl
theorem wd_195 : (.fieldLink "GateSteps" 169 "GateSteps" "now" "I" : Cond) ∈ tbG := tb_in (List.mem_of_getElem? (i := 195) (by decide +kernel)) rfl
theorem wd_196 : (.fieldLink "GateSteps" 57 "GateSteps" "allowed" "I" : Cond) ∈ tbG := tb_in (List.mem_of_getElem? (i := 196) (by decide +kernel)) rfl
theorem wd_197 : (.fieldLink "GateSteps" 238 "GateSteps" "longestTurn" "I" : Cond) ∈ tbG := tb_in (List.mem_of_getElem? (i := 197) (by decide +kernel)) rfl
theorem wd_198 : (.fieldLink "GateSteps" 241 "GateSteps" "allTurns" "I" : Cond) ∈ tbG := tb_in (List.mem_of_getElem? (i := 198) (by decide +kernel)) rfl
theorem wd_199 : (.fieldLink "GateSteps" 244 "GateSteps" "doneBookings" "I" : Cond) ∈ tbG := tb_in (List.mem_of_getElem? (i := 199) (by decide +kernel)) rfl
theorem wd_232 : (.instanceMethod ⟨"GateSteps$SignRow", "checkLetter", "()I"⟩ : Cond) ∈ tbG := tb_in (List.mem_of_getElem? (i := 232) (by decide +kernel)) rfl
theorem wd_233 : (.selects "GateSteps$SignRow" ⟨"GateSteps$SignRow", "checkLetter", "()I"⟩ ⟨"GateSteps$SignRow", "checkLetter", "()I"⟩ : Cond) ∈ tbG := tb_in (List.mem_of_getElem? (i := 233) (by decide +kernel)) rfl
theorem wd_234 : (.code ⟨"GateSteps$SignRow", "checkLetter", "()I"⟩ prog_5_method_4_code 3 (some .int) : Cond) ∈ tbG := tb_in (List.mem_of_getElem? (i := 234) (by decide +kernel)) rfl
theorem wd_235 : (.methodLink "GateSteps$SignRow" 26 ⟨"GateSteps$SignRow", "worth", "(I)I"⟩ : Cond) ∈ tbG := tb_in (List.mem_of_getElem? (i := 235) (by decide +kernel)) rfl
theorem wd_236 : (.static ⟨"GateSteps$SignRow", "worth", "(I)I"⟩ : Cond) ∈ tbG := tb_in (List.mem_of_getElem? (i := 236) (by decide +kernel)) rfl
theorem wd_237 : (.code ⟨"GateSteps$SignRow", "worth", "(I)I"⟩ prog_5_method_6_code 1 (some .int) : Cond) ∈ tbG := tb_in (List.mem_of_getElem? (i := 237) (by decide +kernel)) rfl
theorem wd_239 : (.static ⟨"GateSteps", "isLetter", "(I)Z"⟩ : Cond) ∈ tbG := tb_in (List.mem_of_getElem? (i := 239) (by decide +kernel)) rfl
theorem wd_240 : (.code ⟨"GateSteps", "isLetter", "(I)Z"⟩ prog_1_method_18_code 1 (some .boolean) : Cond) ∈ tbG := tb_in (List.mem_of_getElem? (i := 240) (by decide +kernel)) rfl
theorem wd_260 : (.methodLink "GateSteps" 234 ⟨"GateSteps$Slots", "has", "(I)Z"⟩ : Cond) ∈ tbG := tb_in (List.mem_of_getElem? (i := 260) (by decide +kernel)) rfl
theorem wd_261 : (.instanceMethod ⟨"GateSteps$Slots", "has", "(I)Z"⟩ : Cond) ∈ tbG := tb_in (List.mem_of_getElem? (i := 261) (by decide +kernel)) rfl
theorem wd_262 : (.selects "GateSteps$Slots" ⟨"GateSteps$Slots", "has", "(I)Z"⟩ ⟨"GateSteps$Slots", "has", "(I)Z"⟩ : Cond) ∈ tbG := tb_in (List.mem_of_getElem? (i := 262) (by decide +kernel)) rfl
theorem wd_263 : (.code ⟨"GateSteps$Slots", "has", "(I)Z"⟩ prog_6_method_2_code 2 (some .boolean) : Cond) ∈ tbG := tb_in (List.mem_of_getElem? (i := 263) (by decide +kernel)) rfl
theorem wd_278 : (.static ⟨"GateSteps", "isDigit", "(I)Z"⟩ : Cond) ∈ tbG := tb_in (List.mem_of_getElem? (i := 278) (by decide +kernel)) rfl
theorem wd_279 : (.code ⟨"GateSteps", "isDigit", "(I)Z"⟩ prog_1_method_19_code 1 (some .boolean) : Cond) ∈ tbG := tb_in (List.mem_of_getElem? (i := 279) (by decide +kernel)) rfl
theorem wd_280 : (.classLink "GateSteps" 68 "java/lang/IllegalArgumentException" : Cond) ∈ tbG := tb_in (List.mem_of_getElem? (i := 280) (by decide +kernel)) rfl
theorem wd_382 : (.constant "GateSteps" 98 100000 : Cond) ∈ tbG := tb_in (List.mem_of_getElem? (i := 382) (by decide +kernel)) rfl
theorem wd_389 : (.methodLink "GateSteps$SignRow" 30 ⟨"GateSteps$SignRow", "checkLetter", "()I"⟩ : Cond) ∈ tbG := tb_in (List.mem_of_getElem? (i := 389) (by decide +kernel)) rfl
theorem wd_394 : (.methodLink "GateSteps$Boxes" 33 ⟨"GateSteps$Boxes", "isNumberOf", "(I[I)Z"⟩ : Cond) ∈ tbG := tb_in (List.mem_of_getElem? (i := 394) (by decide +kernel)) rfl
theorem wd_396 : (.instanceMethod ⟨"GateSteps$Boxes", "isNumberOf", "(I[I)Z"⟩ : Cond) ∈ tbG := tb_in (List.mem_of_getElem? (i := 396) (by decide +kernel)) rfl
theorem wd_397 : (.code ⟨"GateSteps$Boxes", "isNumberOf", "(I[I)Z"⟩ prog_3_method_4_code 4 (some .boolean) : Cond) ∈ tbG := tb_in (List.mem_of_getElem? (i := 397) (by decide +kernel)) rfl
theorem wd_402 : (.methodLink "GateSteps$Boxes" 29 ⟨"GateSteps$Boxes", "judge", "(III)V"⟩ : Cond) ∈ tbG := tb_in (List.mem_of_getElem? (i := 402) (by decide +kernel)) rfl
theorem wd_403 : (.instanceMethod ⟨"GateSteps$Boxes", "judge", "(III)V"⟩ : Cond) ∈ tbG := tb_in (List.mem_of_getElem? (i := 403) (by decide +kernel)) rfl
theorem wd_404 : (.selects "GateSteps$Boxes" ⟨"GateSteps$Boxes", "judge", "(III)V"⟩ ⟨"GateSteps$Boxes", "judge", "(III)V"⟩ : Cond) ∈ tbG := tb_in (List.mem_of_getElem? (i := 404) (by decide +kernel)) rfl
theorem wd_405 : (.code ⟨"GateSteps$Boxes", "judge", "(III)V"⟩ prog_3_method_5_code 4 none : Cond) ∈ tbG := tb_in (List.mem_of_getElem? (i := 405) (by decide +kernel)) rfl
theorem wd_419 : (.classLink "GateSteps" 193 "java/lang/IndexOutOfBoundsException" : Cond) ∈ tbG := tb_in (List.mem_of_getElem? (i := 419) (by decide +kernel)) rfl
theorem wd_483 : (.instanceMethod ⟨"GateSteps$Slots", "hasRoom", "(I)Z"⟩ : Cond) ∈ tbG := tb_in (List.mem_of_getElem? (i := 483) (by decide +kernel)) rfl
theorem wd_484 : (.selects "GateSteps$Slots" ⟨"GateSteps$Slots", "hasRoom", "(I)Z"⟩ ⟨"GateSteps$Slots", "hasRoom", "(I)Z"⟩ : Cond) ∈ tbG := tb_in (List.mem_of_getElem? (i := 484) (by decide +kernel)) rfl
theorem wd_485 : (.code ⟨"GateSteps$Slots", "hasRoom", "(I)Z"⟩ prog_6_method_3_code 2 (some .boolean) : Cond) ∈ tbG := tb_in (List.mem_of_getElem? (i := 485) (by decide +kernel)) rfl
theorem wd_490 : (.methodLink "GateSteps" 265 ⟨"GateSteps$Slots", "nextWithRoom", "(I)I"⟩ : Cond) ∈ tbG := tb_in (List.mem_of_getElem? (i := 490) (by decide +kernel)) rfl
theorem wd_491 : (.instanceMethod ⟨"GateSteps$Slots", "nextWithRoom", "(I)I"⟩ : Cond) ∈ tbG := tb_in (List.mem_of_getElem? (i := 491) (by decide +kernel)) rfl
theorem wd_492 : (.selects "GateSteps$Slots" ⟨"GateSteps$Slots", "nextWithRoom", "(I)I"⟩ ⟨"GateSteps$Slots", "nextWithRoom", "(I)I"⟩ : Cond) ∈ tbG := tb_in (List.mem_of_getElem? (i := 492) (by decide +kernel)) rfl
theorem wd_493 : (.code ⟨"GateSteps$Slots", "nextWithRoom", "(I)I"⟩ prog_6_method_4_code 3 (some .int) : Cond) ∈ tbG := tb_in (List.mem_of_getElem? (i := 493) (by decide +kernel)) rfl
theorem wd_494 : (.methodLink "GateSteps$Slots" 22 ⟨"GateSteps$Slots", "hasRoom", "(I)Z"⟩ : Cond) ∈ tbG := tb_in (List.mem_of_getElem? (i := 494) (by decide +kernel)) rfl
theorem wd_520 : (.methodLink "GateSteps" 268 ⟨"GateSteps", "isAhead", "(I)Z"⟩ : Cond) ∈ tbG := tb_in (List.mem_of_getElem? (i := 520) (by decide +kernel)) rfl
theorem wd_522 : (.instanceMethod ⟨"GateSteps", "isAhead", "(I)Z"⟩ : Cond) ∈ tbG := tb_in (List.mem_of_getElem? (i := 522) (by decide +kernel)) rfl
theorem wd_523 : (.code ⟨"GateSteps", "isAhead", "(I)Z"⟩ prog_1_method_28_code 2 (some .boolean) : Cond) ∈ tbG := tb_in (List.mem_of_getElem? (i := 523) (by decide +kernel)) rfl
theorem wd_524 : (.methodLink "GateSteps" 214 ⟨"GateSteps", "isOver", "(I)Z"⟩ : Cond) ∈ tbG := tb_in (List.mem_of_getElem? (i := 524) (by decide +kernel)) rfl
theorem wd_526 : (.instanceMethod ⟨"GateSteps", "isOver", "(I)Z"⟩ : Cond) ∈ tbG := tb_in (List.mem_of_getElem? (i := 526) (by decide +kernel)) rfl
theorem wd_527 : (.code ⟨"GateSteps", "isOver", "(I)Z"⟩ prog_1_method_29_code 2 (some .boolean) : Cond) ∈ tbG := tb_in (List.mem_of_getElem? (i := 527) (by decide +kernel)) rfl
theorem wd_528 : (.methodLink "GateSteps" 271 ⟨"GateSteps$Trucks", "verdictOf", "(II)I"⟩ : Cond) ∈ tbG := tb_in (List.mem_of_getElem? (i := 528) (by decide +kernel)) rfl
theorem wd_529 : (.instanceMethod ⟨"GateSteps$Trucks", "verdictOf", "(II)I"⟩ : Cond) ∈ tbG := tb_in (List.mem_of_getElem? (i := 529) (by decide +kernel)) rfl
theorem wd_530 : (.selects "GateSteps$Trucks" ⟨"GateSteps$Trucks", "verdictOf", "(II)I"⟩ ⟨"GateSteps$Trucks", "verdictOf", "(II)I"⟩ : Cond) ∈ tbG := tb_in (List.mem_of_getElem? (i := 530) (by decide +kernel)) rfl
theorem wd_531 : (.code ⟨"GateSteps$Trucks", "verdictOf", "(II)I"⟩ prog_7_method_3_code 3 (some .int) : Cond) ∈ tbG := tb_in (List.mem_of_getElem? (i := 531) (by decide +kernel)) rfl
theorem wd_532 : (.methodLink "GateSteps" 274 ⟨"GateSteps", "firstBarOfBox", "(I)I"⟩ : Cond) ∈ tbG := tb_in (List.mem_of_getElem? (i := 532) (by decide +kernel)) rfl
theorem wd_534 : (.instanceMethod ⟨"GateSteps", "firstBarOfBox", "(I)I"⟩ : Cond) ∈ tbG := tb_in (List.mem_of_getElem? (i := 534) (by decide +kernel)) rfl
theorem wd_535 : (.code ⟨"GateSteps", "firstBarOfBox", "(I)I"⟩ prog_1_method_31_code 2 (some .int) : Cond) ∈ tbG := tb_in (List.mem_of_getElem? (i := 535) (by decide +kernel)) rfl
theorem wd_536 : (.methodLink "GateSteps" 280 ⟨"GateSteps$Boxes", "verdictOf", "(II)I"⟩ : Cond) ∈ tbG := tb_in (List.mem_of_getElem? (i := 536) (by decide +kernel)) rfl
theorem wd_537 : (.instanceMethod ⟨"GateSteps$Boxes", "verdictOf", "(II)I"⟩ : Cond) ∈ tbG := tb_in (List.mem_of_getElem? (i := 537) (by decide +kernel)) rfl
theorem wd_538 : (.selects "GateSteps$Boxes" ⟨"GateSteps$Boxes", "verdictOf", "(II)I"⟩ ⟨"GateSteps$Boxes", "verdictOf", "(II)I"⟩ : Cond) ∈ tbG := tb_in (List.mem_of_getElem? (i := 538) (by decide +kernel)) rfl
theorem wd_539 : (.code ⟨"GateSteps$Boxes", "verdictOf", "(II)I"⟩ prog_3_method_6_code 3 (some .int) : Cond) ∈ tbG := tb_in (List.mem_of_getElem? (i := 539) (by decide +kernel)) rfl
theorem wd_540 : (.methodLink "GateSteps" 277 ⟨"GateSteps$Bookings", "holdsTruckIn", "(I)Z"⟩ : Cond) ∈ tbG := tb_in (List.mem_of_getElem? (i := 540) (by decide +kernel)) rfl
theorem wd_541 : (.instanceMethod ⟨"GateSteps$Bookings", "holdsTruckIn", "(I)Z"⟩ : Cond) ∈ tbG := tb_in (List.mem_of_getElem? (i := 541) (by decide +kernel)) rfl
theorem wd_542 : (.selects "GateSteps$Bookings" ⟨"GateSteps$Bookings", "holdsTruckIn", "(I)Z"⟩ ⟨"GateSteps$Bookings", "holdsTruckIn", "(I)Z"⟩ : Cond) ∈ tbG := tb_in (List.mem_of_getElem? (i := 542) (by decide +kernel)) rfl
theorem wd_543 : (.code ⟨"GateSteps$Bookings", "holdsTruckIn", "(I)Z"⟩ prog_2_method_4_code 3 (some .boolean) : Cond) ∈ tbG := tb_in (List.mem_of_getElem? (i := 543) (by decide +kernel)) rfl
theorem wd_552 : (.methodLink "GateSteps" 285 ⟨"GateSteps$Lane", "add", "(I)V"⟩ : Cond) ∈ tbG := tb_in (List.mem_of_getElem? (i := 552) (by decide +kernel)) rfl
theorem wd_553 : (.instanceMethod ⟨"GateSteps$Lane", "add", "(I)V"⟩ : Cond) ∈ tbG := tb_in (List.mem_of_getElem? (i := 553) (by decide +kernel)) rfl
theorem wd_554 : (.selects "GateSteps$Lane" ⟨"GateSteps$Lane", "add", "(I)V"⟩ ⟨"GateSteps$Lane", "add", "(I)V"⟩ : Cond) ∈ tbG := tb_in (List.mem_of_getElem? (i := 554) (by decide +kernel)) rfl
theorem wd_555 : (.code ⟨"GateSteps$Lane", "add", "(I)V"⟩ prog_4_method_2_code 2 none : Cond) ∈ tbG := tb_in (List.mem_of_getElem? (i := 555) (by decide +kernel)) rfl
theorem wd_569 : (.methodLink "GateSteps" 289 ⟨"java/lang/Math", "abs", "(I)I"⟩ : Cond) ∈ tbG := tb_in (List.mem_of_getElem? (i := 569) (by decide +kernel)) rfl
theorem wd_570 : (.static ⟨"java/lang/Math", "abs", "(I)I"⟩ : Cond) ∈ tbG := tb_in (List.mem_of_getElem? (i := 570) (by decide +kernel)) rfl
theorem wm_max : (Cond.code Lib.Math.max.name Lib.Math.max.code 2 (some .int)) ∈ tbG := tb_in (List.mem_of_getElem? (i := 119) (by decide +kernel)) rfl
theorem wm_min : (Cond.code Lib.Math.min.name Lib.Math.min.code 2 (some .int)) ∈ tbG := tb_in (List.mem_of_getElem? (i := 116) (by decide +kernel)) rfl
theorem wm_abs : (Cond.code Lib.Math.abs.name Lib.Math.abs.code 1 (some .int)) ∈ tbG := tb_in (List.mem_of_getElem? (i := 571) (by decide +kernel)) rfl
end
section
theorem dX6_canBe_0 : decode cX6_canBe 0 = .ok (.iload_n 1, 1) := by decide +kernel
theorem dX6_canBe_1 : decode cX6_canBe 1 = .ok (.iconst 2, 1) := by decide +kernel
theorem dX6_canBe_2 : decode cX6_canBe 2 = .ok (.if_icmp .ne 19, 3) := by decide +kernel
theorem dX6_canBe_5 : decode cX6_canBe 5 = .ok (.iload_n 0, 1) := by decide +kernel
theorem dX6_canBe_6 : decode cX6_canBe 6 = .ok (.iconst 1, 1) := by decide +kernel
theorem dX6_canBe_7 : decode cX6_canBe 7 = .ok (.if_icmp .eq 8, 3) := by decide +kernel
theorem dX6_canBe_10 : decode cX6_canBe 10 = .ok (.iload_n 0, 1) := by decide +kernel
theorem dX6_canBe_11 : decode cX6_canBe 11 = .ok (.iconst 2, 1) := by decide +kernel
theorem dX6_canBe_12 : decode cX6_canBe 12 = .ok (.if_icmp .ne 7, 3) := by decide +kernel
theorem dX6_canBe_15 : decode cX6_canBe 15 = .ok (.iconst 1, 1) := by decide +kernel
theorem dX6_canBe_16 : decode cX6_canBe 16 = .ok (.goto 4, 3) := by decide +kernel
theorem dX6_canBe_19 : decode cX6_canBe 19 = .ok (.iconst 0, 1) := by decide +kernel
theorem dX6_canBe_20 : decode cX6_canBe 20 = .ok (.ireturn, 1) := by decide +kernel
theorem dX6_canBe_21 : decode cX6_canBe 21 = .ok (.iload_n 1, 1) := by decide +kernel
theorem dX6_canBe_22 : decode cX6_canBe 22 = .ok (.ifCond .eq 8, 3) := by decide +kernel
theorem dX6_canBe_25 : decode cX6_canBe 25 = .ok (.iload_n 1, 1) := by decide +kernel
theorem dX6_canBe_26 : decode cX6_canBe 26 = .ok (.iconst 1, 1) := by decide +kernel
theorem dX6_canBe_27 : decode cX6_canBe 27 = .ok (.if_icmp .ne 7, 3) := by decide +kernel
theorem dX6_canBe_30 : decode cX6_canBe 30 = .ok (.iconst 1, 1) := by decide +kernel
theorem dX6_canBe_31 : decode cX6_canBe 31 = .ok (.goto 4, 3) := by decide +kernel
theorem dX6_canBe_34 : decode cX6_canBe 34 = .ok (.iconst 0, 1) := by decide +kernel
theorem dX6_canBe_35 : decode cX6_canBe 35 = .ok (.ireturn, 1) := by decide +kernel
theorem dX6_end_0 : decode cX6_end 0 = .ok (.aload_n 0, 1) := by decide +kernel
theorem dX6_end_1 : decode cX6_end 1 = .ok (.getfield 46, 3) := by decide +kernel
theorem dX6_end_4 : decode cX6_end 4 = .ok (.getfield 175, 3) := by decide +kernel
theorem dX6_end_7 : decode cX6_end 7 = .ok (.iload_n 1, 1) := by decide +kernel
theorem dX6_end_8 : decode cX6_end 8 = .ok (.iconst 3, 1) := by decide +kernel
theorem dX6_end_9 : decode cX6_end 9 = .ok (.iastore, 1) := by decide +kernel
theorem dX6_end_10 : decode cX6_end 10 = .ok (.aload_n 0, 1) := by decide +kernel
theorem dX6_end_11 : decode cX6_end 11 = .ok (.getfield 39, 3) := by decide +kernel
theorem dX6_end_14 : decode cX6_end 14 = .ok (.getfield 157, 3) := by decide +kernel
theorem dX6_end_17 : decode cX6_end 17 = .ok (.aload_n 0, 1) := by decide +kernel
theorem dX6_end_18 : decode cX6_end 18 = .ok (.getfield 46, 3) := by decide +kernel
theorem dX6_end_21 : decode cX6_end 21 = .ok (.getfield 211, 3) := by decide +kernel
theorem dX6_end_24 : decode cX6_end 24 = .ok (.iload_n 1, 1) := by decide +kernel
theorem dX6_end_25 : decode cX6_end 25 = .ok (.iaload, 1) := by decide +kernel
theorem dX6_end_26 : decode cX6_end 26 = .ok (.dup2, 1) := by decide +kernel
theorem dX6_end_27 : decode cX6_end 27 = .ok (.iaload, 1) := by decide +kernel
theorem dX6_end_28 : decode cX6_end 28 = .ok (.iconst 1, 1) := by decide +kernel
theorem dX6_end_29 : decode cX6_end 29 = .ok (.isub, 1) := by decide +kernel
theorem dX6_end_30 : decode cX6_end 30 = .ok (.iastore, 1) := by decide +kernel
theorem dX6_end_31 : decode cX6_end 31 = .ok (.return_, 1) := by decide +kernel
theorem dX6_finish_0 : decode cX6_finish 0 = .ok (.aload_n 0, 1) := by decide +kernel
theorem dX6_finish_1 : decode cX6_finish 1 = .ok (.getfield 169, 3) := by decide +kernel
theorem dX6_finish_4 : decode cX6_finish 4 = .ok (.aload_n 0, 1) := by decide +kernel
theorem dX6_finish_5 : decode cX6_finish 5 = .ok (.getfield 46, 3) := by decide +kernel
theorem dX6_finish_8 : decode cX6_finish 8 = .ok (.getfield 178, 3) := by decide +kernel
theorem dX6_finish_11 : decode cX6_finish 11 = .ok (.iload_n 1, 1) := by decide +kernel
theorem dX6_finish_12 : decode cX6_finish 12 = .ok (.iaload, 1) := by decide +kernel
theorem dX6_finish_13 : decode cX6_finish 13 = .ok (.isub, 1) := by decide +kernel
theorem dX6_finish_14 : decode cX6_finish 14 = .ok (.istore_n 2, 1) := by decide +kernel
theorem dX6_finish_15 : decode cX6_finish 15 = .ok (.aload_n 0, 1) := by decide +kernel
theorem dX6_finish_16 : decode cX6_finish 16 = .ok (.getfield 46, 3) := by decide +kernel
theorem dX6_finish_19 : decode cX6_finish 19 = .ok (.getfield 175, 3) := by decide +kernel
theorem dX6_finish_22 : decode cX6_finish 22 = .ok (.iload_n 1, 1) := by decide +kernel
theorem dX6_finish_23 : decode cX6_finish 23 = .ok (.iconst 2, 1) := by decide +kernel
theorem dX6_finish_24 : decode cX6_finish 24 = .ok (.iastore, 1) := by decide +kernel
theorem dX6_finish_25 : decode cX6_finish 25 = .ok (.aload_n 0, 1) := by decide +kernel
theorem dX6_finish_26 : decode cX6_finish 26 = .ok (.getfield 46, 3) := by decide +kernel
theorem dX6_finish_29 : decode cX6_finish 29 = .ok (.getfield 226, 3) := by decide +kernel
theorem dX6_finish_32 : decode cX6_finish 32 = .ok (.iload_n 1, 1) := by decide +kernel
theorem dX6_finish_33 : decode cX6_finish 33 = .ok (.iload_n 2, 1) := by decide +kernel
theorem dX6_finish_34 : decode cX6_finish 34 = .ok (.iastore, 1) := by decide +kernel
theorem dX6_finish_35 : decode cX6_finish 35 = .ok (.aload_n 0, 1) := by decide +kernel
theorem dX6_finish_36 : decode cX6_finish 36 = .ok (.aload_n 0, 1) := by decide +kernel
theorem dX6_finish_37 : decode cX6_finish 37 = .ok (.getfield 238, 3) := by decide +kernel
theorem dX6_finish_40 : decode cX6_finish 40 = .ok (.iload_n 2, 1) := by decide +kernel
theorem dX6_finish_41 : decode cX6_finish 41 = .ok (.invokestatic 252, 3) := by decide +kernel
theorem dX6_finish_44 : decode cX6_finish 44 = .ok (.putfield 238, 3) := by decide +kernel
theorem dX6_finish_47 : decode cX6_finish 47 = .ok (.aload_n 0, 1) := by decide +kernel
theorem dX6_finish_48 : decode cX6_finish 48 = .ok (.dup, 1) := by decide +kernel
theorem dX6_finish_49 : decode cX6_finish 49 = .ok (.getfield 241, 3) := by decide +kernel
theorem dX6_finish_52 : decode cX6_finish 52 = .ok (.iload_n 2, 1) := by decide +kernel
theorem dX6_finish_53 : decode cX6_finish 53 = .ok (.iadd, 1) := by decide +kernel
theorem dX6_finish_54 : decode cX6_finish 54 = .ok (.putfield 241, 3) := by decide +kernel
theorem dX6_finish_57 : decode cX6_finish 57 = .ok (.aload_n 0, 1) := by decide +kernel
theorem dX6_finish_58 : decode cX6_finish 58 = .ok (.dup, 1) := by decide +kernel
theorem dX6_finish_59 : decode cX6_finish 59 = .ok (.getfield 244, 3) := by decide +kernel
theorem dX6_finish_62 : decode cX6_finish 62 = .ok (.iconst 1, 1) := by decide +kernel
theorem dX6_finish_63 : decode cX6_finish 63 = .ok (.iadd, 1) := by decide +kernel
theorem dX6_finish_64 : decode cX6_finish 64 = .ok (.putfield 244, 3) := by decide +kernel
theorem dX6_finish_67 : decode cX6_finish 67 = .ok (.return_, 1) := by decide +kernel
theorem dX6_firstBar_0 : decode cX6_firstBar 0 = .ok (.aload_n 0, 1) := by decide +kernel
theorem dX6_firstBar_1 : decode cX6_firstBar 1 = .ok (.getfield 46, 3) := by decide +kernel
theorem dX6_firstBar_4 : decode cX6_firstBar 4 = .ok (.getfield 175, 3) := by decide +kernel
theorem dX6_firstBar_7 : decode cX6_firstBar 7 = .ok (.iload_n 1, 1) := by decide +kernel
theorem dX6_firstBar_8 : decode cX6_firstBar 8 = .ok (.iaload, 1) := by decide +kernel
theorem dX6_firstBar_9 : decode cX6_firstBar 9 = .ok (.ifCond .eq 5, 3) := by decide +kernel
theorem dX6_firstBar_12 : decode cX6_firstBar 12 = .ok (.iconst 1, 1) := by decide +kernel
theorem dX6_firstBar_13 : decode cX6_firstBar 13 = .ok (.ireturn, 1) := by decide +kernel
theorem dX6_firstBar_14 : decode cX6_firstBar 14 = .ok (.aload_n 0, 1) := by decide +kernel
theorem dX6_firstBar_15 : decode cX6_firstBar 15 = .ok (.getfield 46, 3) := by decide +kernel
theorem dX6_firstBar_18 : decode cX6_firstBar 18 = .ok (.getfield 211, 3) := by decide +kernel
theorem dX6_firstBar_21 : decode cX6_firstBar 21 = .ok (.iload_n 1, 1) := by decide +kernel
theorem dX6_firstBar_22 : decode cX6_firstBar 22 = .ok (.iaload, 1) := by decide +kernel
theorem dX6_firstBar_23 : decode cX6_firstBar 23 = .ok (.istore_n 2, 1) := by decide +kernel
theorem dX6_firstBar_24 : decode cX6_firstBar 24 = .ok (.aload_n 0, 1) := by decide +kernel
theorem dX6_firstBar_25 : decode cX6_firstBar 25 = .ok (.iload_n 2, 1) := by decide +kernel
theorem dX6_firstBar_26 : decode cX6_firstBar 26 = .ok (.invokevirtual 268, 3) := by decide +kernel
theorem dX6_firstBar_29 : decode cX6_firstBar 29 = .ok (.ifCond .ne 11, 3) := by decide +kernel
theorem dX6_firstBar_32 : decode cX6_firstBar 32 = .ok (.aload_n 0, 1) := by decide +kernel
theorem dX6_firstBar_33 : decode cX6_firstBar 33 = .ok (.iload_n 2, 1) := by decide +kernel
theorem dX6_firstBar_34 : decode cX6_firstBar 34 = .ok (.invokevirtual 214, 3) := by decide +kernel
theorem dX6_firstBar_37 : decode cX6_firstBar 37 = .ok (.ifCond .eq 5, 3) := by decide +kernel
theorem dX6_firstBar_40 : decode cX6_firstBar 40 = .ok (.iconst 2, 1) := by decide +kernel
theorem dX6_firstBar_41 : decode cX6_firstBar 41 = .ok (.ireturn, 1) := by decide +kernel
theorem dX6_firstBar_42 : decode cX6_firstBar 42 = .ok (.aload_n 0, 1) := by decide +kernel
theorem dX6_firstBar_43 : decode cX6_firstBar 43 = .ok (.getfield 46, 3) := by decide +kernel
theorem dX6_firstBar_46 : decode cX6_firstBar 46 = .ok (.getfield 220, 3) := by decide +kernel
theorem dX6_firstBar_49 : decode cX6_firstBar 49 = .ok (.iload_n 1, 1) := by decide +kernel
theorem dX6_firstBar_50 : decode cX6_firstBar 50 = .ok (.iaload, 1) := by decide +kernel
theorem dX6_firstBar_51 : decode cX6_firstBar 51 = .ok (.istore_n 3, 1) := by decide +kernel
theorem dX6_firstBar_52 : decode cX6_firstBar 52 = .ok (.aload_n 0, 1) := by decide +kernel
theorem dX6_firstBar_53 : decode cX6_firstBar 53 = .ok (.getfield 26, 3) := by decide +kernel
theorem dX6_firstBar_56 : decode cX6_firstBar 56 = .ok (.iload_n 3, 1) := by decide +kernel
theorem dX6_firstBar_57 : decode cX6_firstBar 57 = .ok (.iconst 4, 1) := by decide +kernel
theorem dX6_firstBar_58 : decode cX6_firstBar 58 = .ok (.invokevirtual 271, 3) := by decide +kernel
theorem dX6_firstBar_61 : decode cX6_firstBar 61 = .ok (.ifCond .ne 5, 3) := by decide +kernel
theorem dX6_firstBar_64 : decode cX6_firstBar 64 = .ok (.iconst 3, 1) := by decide +kernel
theorem dX6_firstBar_65 : decode cX6_firstBar 65 = .ok (.ireturn, 1) := by decide +kernel
theorem dX6_firstBar_66 : decode cX6_firstBar 66 = .ok (.aload_n 0, 1) := by decide +kernel
theorem dX6_firstBar_67 : decode cX6_firstBar 67 = .ok (.getfield 26, 3) := by decide +kernel
theorem dX6_firstBar_70 : decode cX6_firstBar 70 = .ok (.iload_n 3, 1) := by decide +kernel
theorem dX6_firstBar_71 : decode cX6_firstBar 71 = .ok (.iconst 5, 1) := by decide +kernel
theorem dX6_firstBar_72 : decode cX6_firstBar 72 = .ok (.invokevirtual 271, 3) := by decide +kernel
theorem dX6_firstBar_75 : decode cX6_firstBar 75 = .ok (.ifCond .ne 5, 3) := by decide +kernel
theorem dX6_firstBar_78 : decode cX6_firstBar 78 = .ok (.iconst 4, 1) := by decide +kernel
theorem dX6_firstBar_79 : decode cX6_firstBar 79 = .ok (.ireturn, 1) := by decide +kernel
theorem dX6_firstBar_80 : decode cX6_firstBar 80 = .ok (.aload_n 0, 1) := by decide +kernel
theorem dX6_firstBar_81 : decode cX6_firstBar 81 = .ok (.aload_n 0, 1) := by decide +kernel
theorem dX6_firstBar_82 : decode cX6_firstBar 82 = .ok (.getfield 46, 3) := by decide +kernel
theorem dX6_firstBar_85 : decode cX6_firstBar 85 = .ok (.getfield 181, 3) := by decide +kernel
theorem dX6_firstBar_88 : decode cX6_firstBar 88 = .ok (.iload_n 1, 1) := by decide +kernel
theorem dX6_firstBar_89 : decode cX6_firstBar 89 = .ok (.iaload, 1) := by decide +kernel
theorem dX6_firstBar_90 : decode cX6_firstBar 90 = .ok (.invokevirtual 274, 3) := by decide +kernel
theorem dX6_firstBar_93 : decode cX6_firstBar 93 = .ok (.istore 4, 2) := by decide +kernel
theorem dX6_firstBar_95 : decode cX6_firstBar 95 = .ok (.iload 4, 2) := by decide +kernel
theorem dX6_firstBar_97 : decode cX6_firstBar 97 = .ok (.ifCond .eq 6, 3) := by decide +kernel
theorem dX6_firstBar_100 : decode cX6_firstBar 100 = .ok (.iload 4, 2) := by decide +kernel
theorem dX6_firstBar_102 : decode cX6_firstBar 102 = .ok (.ireturn, 1) := by decide +kernel
theorem dX6_firstBar_103 : decode cX6_firstBar 103 = .ok (.aload_n 0, 1) := by decide +kernel
theorem dX6_firstBar_104 : decode cX6_firstBar 104 = .ok (.getfield 46, 3) := by decide +kernel
theorem dX6_firstBar_107 : decode cX6_firstBar 107 = .ok (.iload_n 3, 1) := by decide +kernel
theorem dX6_firstBar_108 : decode cX6_firstBar 108 = .ok (.invokevirtual 277, 3) := by decide +kernel
theorem dX6_firstBar_111 : decode cX6_firstBar 111 = .ok (.ifCond .eq 8, 3) := by decide +kernel
theorem dX6_firstBar_114 : decode cX6_firstBar 114 = .ok (.bipush 9, 2) := by decide +kernel
theorem dX6_firstBar_116 : decode cX6_firstBar 116 = .ok (.goto 4, 3) := by decide +kernel
theorem dX6_firstBar_119 : decode cX6_firstBar 119 = .ok (.iconst 0, 1) := by decide +kernel
theorem dX6_firstBar_120 : decode cX6_firstBar 120 = .ok (.ireturn, 1) := by decide +kernel
theorem dX6_firstBarOfBox_0 : decode cX6_firstBarOfBox 0 = .ok (.aload_n 0, 1) := by decide +kernel
theorem dX6_firstBarOfBox_1 : decode cX6_firstBarOfBox 1 = .ok (.getfield 19, 3) := by decide +kernel
theorem dX6_firstBarOfBox_4 : decode cX6_firstBarOfBox 4 = .ok (.iload_n 1, 1) := by decide +kernel
theorem dX6_firstBarOfBox_5 : decode cX6_firstBarOfBox 5 = .ok (.iconst 0, 1) := by decide +kernel
theorem dX6_firstBarOfBox_6 : decode cX6_firstBarOfBox 6 = .ok (.invokevirtual 280, 3) := by decide +kernel
theorem dX6_firstBarOfBox_9 : decode cX6_firstBarOfBox 9 = .ok (.ifCond .ne 5, 3) := by decide +kernel
theorem dX6_firstBarOfBox_12 : decode cX6_firstBarOfBox 12 = .ok (.iconst 5, 1) := by decide +kernel
theorem dX6_firstBarOfBox_13 : decode cX6_firstBarOfBox 13 = .ok (.ireturn, 1) := by decide +kernel
theorem dX6_firstBarOfBox_14 : decode cX6_firstBarOfBox 14 = .ok (.aload_n 0, 1) := by decide +kernel
theorem dX6_firstBarOfBox_15 : decode cX6_firstBarOfBox 15 = .ok (.getfield 19, 3) := by decide +kernel
theorem dX6_firstBarOfBox_18 : decode cX6_firstBarOfBox 18 = .ok (.iload_n 1, 1) := by decide +kernel
theorem dX6_firstBarOfBox_19 : decode cX6_firstBarOfBox 19 = .ok (.iconst 1, 1) := by decide +kernel
theorem dX6_firstBarOfBox_20 : decode cX6_firstBarOfBox 20 = .ok (.invokevirtual 280, 3) := by decide +kernel
theorem dX6_firstBarOfBox_23 : decode cX6_firstBarOfBox 23 = .ok (.ifCond .ne 6, 3) := by decide +kernel
theorem dX6_firstBarOfBox_26 : decode cX6_firstBarOfBox 26 = .ok (.bipush 6, 2) := by decide +kernel
theorem dX6_firstBarOfBox_28 : decode cX6_firstBarOfBox 28 = .ok (.ireturn, 1) := by decide +kernel
theorem dX6_firstBarOfBox_29 : decode cX6_firstBarOfBox 29 = .ok (.aload_n 0, 1) := by decide +kernel
theorem dX6_firstBarOfBox_30 : decode cX6_firstBarOfBox 30 = .ok (.getfield 19, 3) := by decide +kernel
theorem dX6_firstBarOfBox_33 : decode cX6_firstBarOfBox 33 = .ok (.iload_n 1, 1) := by decide +kernel
theorem dX6_firstBarOfBox_34 : decode cX6_firstBarOfBox 34 = .ok (.iconst 2, 1) := by decide +kernel
theorem dX6_firstBarOfBox_35 : decode cX6_firstBarOfBox 35 = .ok (.invokevirtual 280, 3) := by decide +kernel
theorem dX6_firstBarOfBox_38 : decode cX6_firstBarOfBox 38 = .ok (.ifCond .ne 6, 3) := by decide +kernel
theorem dX6_firstBarOfBox_41 : decode cX6_firstBarOfBox 41 = .ok (.bipush 7, 2) := by decide +kernel
theorem dX6_firstBarOfBox_43 : decode cX6_firstBarOfBox 43 = .ok (.ireturn, 1) := by decide +kernel
theorem dX6_firstBarOfBox_44 : decode cX6_firstBarOfBox 44 = .ok (.aload_n 0, 1) := by decide +kernel
theorem dX6_firstBarOfBox_45 : decode cX6_firstBarOfBox 45 = .ok (.getfield 19, 3) := by decide +kernel
theorem dX6_firstBarOfBox_48 : decode cX6_firstBarOfBox 48 = .ok (.getfield 281, 3) := by decide +kernel
theorem dX6_firstBarOfBox_51 : decode cX6_firstBarOfBox 51 = .ok (.iload_n 1, 1) := by decide +kernel
theorem dX6_firstBarOfBox_52 : decode cX6_firstBarOfBox 52 = .ok (.baload, 1) := by decide +kernel
theorem dX6_firstBarOfBox_53 : decode cX6_firstBarOfBox 53 = .ok (.ifCond .eq 18, 3) := by decide +kernel
theorem dX6_firstBarOfBox_56 : decode cX6_firstBarOfBox 56 = .ok (.aload_n 0, 1) := by decide +kernel
theorem dX6_firstBarOfBox_57 : decode cX6_firstBarOfBox 57 = .ok (.getfield 19, 3) := by decide +kernel
theorem dX6_firstBarOfBox_60 : decode cX6_firstBarOfBox 60 = .ok (.iload_n 1, 1) := by decide +kernel
theorem dX6_firstBarOfBox_61 : decode cX6_firstBarOfBox 61 = .ok (.iconst 3, 1) := by decide +kernel
theorem dX6_firstBarOfBox_62 : decode cX6_firstBarOfBox 62 = .ok (.invokevirtual 280, 3) := by decide +kernel
theorem dX6_firstBarOfBox_65 : decode cX6_firstBarOfBox 65 = .ok (.ifCond .ne 6, 3) := by decide +kernel
theorem dX6_firstBarOfBox_68 : decode cX6_firstBarOfBox 68 = .ok (.bipush 8, 2) := by decide +kernel
theorem dX6_firstBarOfBox_70 : decode cX6_firstBarOfBox 70 = .ok (.ireturn, 1) := by decide +kernel
theorem dX6_firstBarOfBox_71 : decode cX6_firstBarOfBox 71 = .ok (.iconst 0, 1) := by decide +kernel
theorem dX6_firstBarOfBox_72 : decode cX6_firstBarOfBox 72 = .ok (.ireturn, 1) := by decide +kernel
theorem dX6_held_0 : decode cX6_held 0 = .ok (.iconst 1, 1) := by decide +kernel
theorem dX6_held_1 : decode cX6_held 1 = .ok (.iload_n 1, 1) := by decide +kernel
theorem dX6_held_2 : decode cX6_held 2 = .ok (.iload_n 0, 1) := by decide +kernel
theorem dX6_held_3 : decode cX6_held 3 = .ok (.invokestatic 247, 3) := by decide +kernel
theorem dX6_held_6 : decode cX6_held 6 = .ok (.invokestatic 252, 3) := by decide +kernel
theorem dX6_held_9 : decode cX6_held 9 = .ok (.ireturn, 1) := by decide +kernel
theorem dX6_isAhead_0 : decode cX6_isAhead 0 = .ok (.aload_n 0, 1) := by decide +kernel
theorem dX6_isAhead_1 : decode cX6_isAhead 1 = .ok (.getfield 169, 3) := by decide +kernel
theorem dX6_isAhead_4 : decode cX6_isAhead 4 = .ok (.sipush 600, 3) := by decide +kernel
theorem dX6_isAhead_7 : decode cX6_isAhead 7 = .ok (.iload_n 1, 1) := by decide +kernel
theorem dX6_isAhead_8 : decode cX6_isAhead 8 = .ok (.imul, 1) := by decide +kernel
theorem dX6_isAhead_9 : decode cX6_isAhead 9 = .ok (.bipush 120, 2) := by decide +kernel
theorem dX6_isAhead_11 : decode cX6_isAhead 11 = .ok (.isub, 1) := by decide +kernel
theorem dX6_isAhead_12 : decode cX6_isAhead 12 = .ok (.if_icmp .ge 7, 3) := by decide +kernel
theorem dX6_isAhead_15 : decode cX6_isAhead 15 = .ok (.iconst 1, 1) := by decide +kernel
theorem dX6_isAhead_16 : decode cX6_isAhead 16 = .ok (.goto 4, 3) := by decide +kernel
theorem dX6_isAhead_19 : decode cX6_isAhead 19 = .ok (.iconst 0, 1) := by decide +kernel
theorem dX6_isAhead_20 : decode cX6_isAhead 20 = .ok (.ireturn, 1) := by decide +kernel
theorem dX6_isDigit_0 : decode cX6_isDigit 0 = .ok (.iload_n 0, 1) := by decide +kernel
theorem dX6_isDigit_1 : decode cX6_isDigit 1 = .ok (.bipush 48, 2) := by decide +kernel
theorem dX6_isDigit_3 : decode cX6_isDigit 3 = .ok (.if_icmp .lt 13, 3) := by decide +kernel
theorem dX6_isDigit_6 : decode cX6_isDigit 6 = .ok (.iload_n 0, 1) := by decide +kernel
theorem dX6_isDigit_7 : decode cX6_isDigit 7 = .ok (.bipush 57, 2) := by decide +kernel
theorem dX6_isDigit_9 : decode cX6_isDigit 9 = .ok (.if_icmp .gt 7, 3) := by decide +kernel
theorem dX6_isDigit_12 : decode cX6_isDigit 12 = .ok (.iconst 1, 1) := by decide +kernel
theorem dX6_isDigit_13 : decode cX6_isDigit 13 = .ok (.goto 4, 3) := by decide +kernel
theorem dX6_isDigit_16 : decode cX6_isDigit 16 = .ok (.iconst 0, 1) := by decide +kernel
theorem dX6_isDigit_17 : decode cX6_isDigit 17 = .ok (.ireturn, 1) := by decide +kernel
theorem dX6_isLane_0 : decode cX6_isLane 0 = .ok (.iload_n 0, 1) := by decide +kernel
theorem dX6_isLane_1 : decode cX6_isLane 1 = .ok (.ifCond .lt 12, 3) := by decide +kernel
theorem dX6_isLane_4 : decode cX6_isLane 4 = .ok (.iload_n 0, 1) := by decide +kernel
theorem dX6_isLane_5 : decode cX6_isLane 5 = .ok (.iconst 3, 1) := by decide +kernel
theorem dX6_isLane_6 : decode cX6_isLane 6 = .ok (.if_icmp .ge 7, 3) := by decide +kernel
theorem dX6_isLane_9 : decode cX6_isLane 9 = .ok (.iconst 1, 1) := by decide +kernel
theorem dX6_isLane_10 : decode cX6_isLane 10 = .ok (.goto 4, 3) := by decide +kernel
theorem dX6_isLane_13 : decode cX6_isLane 13 = .ok (.iconst 0, 1) := by decide +kernel
theorem dX6_isLane_14 : decode cX6_isLane 14 = .ok (.ireturn, 1) := by decide +kernel
theorem dX6_isLetter_0 : decode cX6_isLetter 0 = .ok (.iload_n 0, 1) := by decide +kernel
theorem dX6_isLetter_1 : decode cX6_isLetter 1 = .ok (.bipush 65, 2) := by decide +kernel
theorem dX6_isLetter_3 : decode cX6_isLetter 3 = .ok (.if_icmp .lt 13, 3) := by decide +kernel
theorem dX6_isLetter_6 : decode cX6_isLetter 6 = .ok (.iload_n 0, 1) := by decide +kernel
theorem dX6_isLetter_7 : decode cX6_isLetter 7 = .ok (.bipush 90, 2) := by decide +kernel
theorem dX6_isLetter_9 : decode cX6_isLetter 9 = .ok (.if_icmp .gt 7, 3) := by decide +kernel
theorem dX6_isLetter_12 : decode cX6_isLetter 12 = .ok (.iconst 1, 1) := by decide +kernel
theorem dX6_isLetter_13 : decode cX6_isLetter 13 = .ok (.goto 4, 3) := by decide +kernel
theorem dX6_isLetter_16 : decode cX6_isLetter 16 = .ok (.iconst 0, 1) := by decide +kernel
theorem dX6_isLetter_17 : decode cX6_isLetter 17 = .ok (.ireturn, 1) := by decide +kernel
theorem dX6_isOver_0 : decode cX6_isOver 0 = .ok (.aload_n 0, 1) := by decide +kernel
theorem dX6_isOver_1 : decode cX6_isOver 1 = .ok (.getfield 169, 3) := by decide +kernel
theorem dX6_isOver_4 : decode cX6_isOver 4 = .ok (.sipush 600, 3) := by decide +kernel
theorem dX6_isOver_7 : decode cX6_isOver 7 = .ok (.iload_n 1, 1) := by decide +kernel
theorem dX6_isOver_8 : decode cX6_isOver 8 = .ok (.imul, 1) := by decide +kernel
theorem dX6_isOver_9 : decode cX6_isOver 9 = .ok (.sipush 600, 3) := by decide +kernel
theorem dX6_isOver_12 : decode cX6_isOver 12 = .ok (.iadd, 1) := by decide +kernel
theorem dX6_isOver_13 : decode cX6_isOver 13 = .ok (.iconst 1, 1) := by decide +kernel
theorem dX6_isOver_14 : decode cX6_isOver 14 = .ok (.isub, 1) := by decide +kernel
theorem dX6_isOver_15 : decode cX6_isOver 15 = .ok (.bipush 120, 2) := by decide +kernel
theorem dX6_isOver_17 : decode cX6_isOver 17 = .ok (.iadd, 1) := by decide +kernel
theorem dX6_isOver_18 : decode cX6_isOver 18 = .ok (.if_icmp .le 7, 3) := by decide +kernel
theorem dX6_isOver_21 : decode cX6_isOver 21 = .ok (.iconst 1, 1) := by decide +kernel
theorem dX6_isOver_22 : decode cX6_isOver 22 = .ok (.goto 4, 3) := by decide +kernel
theorem dX6_isOver_25 : decode cX6_isOver 25 = .ok (.iconst 0, 1) := by decide +kernel
theorem dX6_isOver_26 : decode cX6_isOver 26 = .ok (.ireturn, 1) := by decide +kernel
theorem dX6_isWithinTolerance_0 : decode cX6_isWithinTolerance 0 = .ok (.aload_n 0, 1) := by decide +kernel
theorem dX6_isWithinTolerance_1 : decode cX6_isWithinTolerance 1 = .ok (.getfield 19, 3) := by decide +kernel
theorem dX6_isWithinTolerance_4 : decode cX6_isWithinTolerance 4 = .ok (.getfield 286, 3) := by decide +kernel
theorem dX6_isWithinTolerance_7 : decode cX6_isWithinTolerance 7 = .ok (.iload_n 1, 1) := by decide +kernel
theorem dX6_isWithinTolerance_8 : decode cX6_isWithinTolerance 8 = .ok (.iaload, 1) := by decide +kernel
theorem dX6_isWithinTolerance_9 : decode cX6_isWithinTolerance 9 = .ok (.istore_n 3, 1) := by decide +kernel
theorem dX6_isWithinTolerance_10 : decode cX6_isWithinTolerance 10 = .ok (.iload_n 2, 1) := by decide +kernel
theorem dX6_isWithinTolerance_11 : decode cX6_isWithinTolerance 11 = .ok (.iload_n 3, 1) := by decide +kernel
theorem dX6_isWithinTolerance_12 : decode cX6_isWithinTolerance 12 = .ok (.isub, 1) := by decide +kernel
theorem dX6_isWithinTolerance_13 : decode cX6_isWithinTolerance 13 = .ok (.invokestatic 289, 3) := by decide +kernel
theorem dX6_isWithinTolerance_16 : decode cX6_isWithinTolerance 16 = .ok (.sipush 1000, 3) := by decide +kernel
theorem dX6_isWithinTolerance_19 : decode cX6_isWithinTolerance 19 = .ok (.imul, 1) := by decide +kernel
theorem dX6_isWithinTolerance_20 : decode cX6_isWithinTolerance 20 = .ok (.iload_n 3, 1) := by decide +kernel
theorem dX6_isWithinTolerance_21 : decode cX6_isWithinTolerance 21 = .ok (.aload_n 0, 1) := by decide +kernel
theorem dX6_isWithinTolerance_22 : decode cX6_isWithinTolerance 22 = .ok (.getfield 57, 3) := by decide +kernel
theorem dX6_isWithinTolerance_25 : decode cX6_isWithinTolerance 25 = .ok (.imul, 1) := by decide +kernel
theorem dX6_isWithinTolerance_26 : decode cX6_isWithinTolerance 26 = .ok (.if_icmp .gt 7, 3) := by decide +kernel
theorem dX6_isWithinTolerance_29 : decode cX6_isWithinTolerance 29 = .ok (.iconst 1, 1) := by decide +kernel
theorem dX6_isWithinTolerance_30 : decode cX6_isWithinTolerance 30 = .ok (.goto 4, 3) := by decide +kernel
theorem dX6_isWithinTolerance_33 : decode cX6_isWithinTolerance 33 = .ok (.iconst 0, 1) := by decide +kernel
theorem dX6_isWithinTolerance_34 : decode cX6_isWithinTolerance 34 = .ok (.ireturn, 1) := by decide +kernel
theorem dX6_joinLane_0 : decode cX6_joinLane 0 = .ok (.aload_n 0, 1) := by decide +kernel
theorem dX6_joinLane_1 : decode cX6_joinLane 1 = .ok (.getfield 52, 3) := by decide +kernel
theorem dX6_joinLane_4 : decode cX6_joinLane 4 = .ok (.iload_n 2, 1) := by decide +kernel
theorem dX6_joinLane_5 : decode cX6_joinLane 5 = .ok (.aaload, 1) := by decide +kernel
theorem dX6_joinLane_6 : decode cX6_joinLane 6 = .ok (.iload_n 1, 1) := by decide +kernel
theorem dX6_joinLane_7 : decode cX6_joinLane 7 = .ok (.invokevirtual 285, 3) := by decide +kernel
theorem dX6_joinLane_10 : decode cX6_joinLane 10 = .ok (.aload_n 0, 1) := by decide +kernel
theorem dX6_joinLane_11 : decode cX6_joinLane 11 = .ok (.getfield 46, 3) := by decide +kernel
theorem dX6_joinLane_14 : decode cX6_joinLane 14 = .ok (.getfield 223, 3) := by decide +kernel
theorem dX6_joinLane_17 : decode cX6_joinLane 17 = .ok (.iload_n 1, 1) := by decide +kernel
theorem dX6_joinLane_18 : decode cX6_joinLane 18 = .ok (.iload_n 2, 1) := by decide +kernel
theorem dX6_joinLane_19 : decode cX6_joinLane 19 = .ok (.iastore, 1) := by decide +kernel
theorem dX6_joinLane_20 : decode cX6_joinLane 20 = .ok (.return_, 1) := by decide +kernel
theorem dX6_laneFor_0 : decode cX6_laneFor 0 = .ok (.aload_n 0, 1) := by decide +kernel
theorem dX6_laneFor_1 : decode cX6_laneFor 1 = .ok (.getfield 19, 3) := by decide +kernel
theorem dX6_laneFor_4 : decode cX6_laneFor 4 = .ok (.iload_n 1, 1) := by decide +kernel
theorem dX6_laneFor_5 : decode cX6_laneFor 5 = .ok (.iconst 1, 1) := by decide +kernel
theorem dX6_laneFor_6 : decode cX6_laneFor 6 = .ok (.invokevirtual 280, 3) := by decide +kernel
theorem dX6_laneFor_9 : decode cX6_laneFor 9 = .ok (.iconst 2, 1) := by decide +kernel
theorem dX6_laneFor_10 : decode cX6_laneFor 10 = .ok (.if_icmp .eq 16, 3) := by decide +kernel
theorem dX6_laneFor_13 : decode cX6_laneFor 13 = .ok (.aload_n 0, 1) := by decide +kernel
theorem dX6_laneFor_14 : decode cX6_laneFor 14 = .ok (.getfield 19, 3) := by decide +kernel
theorem dX6_laneFor_17 : decode cX6_laneFor 17 = .ok (.iload_n 1, 1) := by decide +kernel
theorem dX6_laneFor_18 : decode cX6_laneFor 18 = .ok (.iconst 2, 1) := by decide +kernel
theorem dX6_laneFor_19 : decode cX6_laneFor 19 = .ok (.invokevirtual 280, 3) := by decide +kernel
theorem dX6_laneFor_22 : decode cX6_laneFor 22 = .ok (.iconst 2, 1) := by decide +kernel
theorem dX6_laneFor_23 : decode cX6_laneFor 23 = .ok (.if_icmp .ne 5, 3) := by decide +kernel
theorem dX6_laneFor_26 : decode cX6_laneFor 26 = .ok (.iconst 2, 1) := by decide +kernel
theorem dX6_laneFor_27 : decode cX6_laneFor 27 = .ok (.ireturn, 1) := by decide +kernel
theorem dX6_laneFor_28 : decode cX6_laneFor 28 = .ok (.aload_n 0, 1) := by decide +kernel
theorem dX6_laneFor_29 : decode cX6_laneFor 29 = .ok (.getfield 52, 3) := by decide +kernel
theorem dX6_laneFor_32 : decode cX6_laneFor 32 = .ok (.iconst 1, 1) := by decide +kernel
theorem dX6_laneFor_33 : decode cX6_laneFor 33 = .ok (.aaload, 1) := by decide +kernel
theorem dX6_laneFor_34 : decode cX6_laneFor 34 = .ok (.getfield 237, 3) := by decide +kernel
theorem dX6_laneFor_37 : decode cX6_laneFor 37 = .ok (.aload_n 0, 1) := by decide +kernel
theorem dX6_laneFor_38 : decode cX6_laneFor 38 = .ok (.getfield 52, 3) := by decide +kernel
theorem dX6_laneFor_41 : decode cX6_laneFor 41 = .ok (.iconst 0, 1) := by decide +kernel
theorem dX6_laneFor_42 : decode cX6_laneFor 42 = .ok (.aaload, 1) := by decide +kernel
theorem dX6_laneFor_43 : decode cX6_laneFor 43 = .ok (.getfield 237, 3) := by decide +kernel
theorem dX6_laneFor_46 : decode cX6_laneFor 46 = .ok (.if_icmp .ge 7, 3) := by decide +kernel
theorem dX6_laneFor_49 : decode cX6_laneFor 49 = .ok (.iconst 1, 1) := by decide +kernel
theorem dX6_laneFor_50 : decode cX6_laneFor 50 = .ok (.goto 4, 3) := by decide +kernel
theorem dX6_laneFor_53 : decode cX6_laneFor 53 = .ok (.iconst 0, 1) := by decide +kernel
theorem dX6_laneFor_54 : decode cX6_laneFor 54 = .ok (.ireturn, 1) := by decide +kernel
theorem dX6_needBooking_0 : decode cX6_needBooking 0 = .ok (.iload_n 1, 1) := by decide +kernel
theorem dX6_needBooking_1 : decode cX6_needBooking 1 = .ok (.iconst 1, 1) := by decide +kernel
theorem dX6_needBooking_2 : decode cX6_needBooking 2 = .ok (.if_icmp .lt 14, 3) := by decide +kernel
theorem dX6_needBooking_5 : decode cX6_needBooking 5 = .ok (.iload_n 1, 1) := by decide +kernel
theorem dX6_needBooking_6 : decode cX6_needBooking 6 = .ok (.aload_n 0, 1) := by decide +kernel
theorem dX6_needBooking_7 : decode cX6_needBooking 7 = .ok (.getfield 46, 3) := by decide +kernel
theorem dX6_needBooking_10 : decode cX6_needBooking 10 = .ok (.getfield 145, 3) := by decide +kernel
theorem dX6_needBooking_13 : decode cX6_needBooking 13 = .ok (.if_icmp .le 14, 3) := by decide +kernel
theorem dX6_needBooking_16 : decode cX6_needBooking 16 = .ok (.new 193, 3) := by decide +kernel
theorem dX6_needBooking_19 : decode cX6_needBooking 19 = .ok (.dup, 1) := by decide +kernel
theorem dX6_needBooking_20 : decode cX6_needBooking 20 = .ok (.ldc_w 261, 3) := by decide +kernel
theorem dX6_needBooking_23 : decode cX6_needBooking 23 = .ok (.invokespecial 197, 3) := by decide +kernel
theorem dX6_needBooking_26 : decode cX6_needBooking 26 = .ok (.athrow, 1) := by decide +kernel
theorem dX6_needBooking_27 : decode cX6_needBooking 27 = .ok (.return_, 1) := by decide +kernel
theorem dX6_needBox_0 : decode cX6_needBox 0 = .ok (.iload_n 1, 1) := by decide +kernel
theorem dX6_needBox_1 : decode cX6_needBox 1 = .ok (.ifCond .lt 14, 3) := by decide +kernel
theorem dX6_needBox_4 : decode cX6_needBox 4 = .ok (.iload_n 1, 1) := by decide +kernel
theorem dX6_needBox_5 : decode cX6_needBox 5 = .ok (.aload_n 0, 1) := by decide +kernel
theorem dX6_needBox_6 : decode cX6_needBox 6 = .ok (.getfield 19, 3) := by decide +kernel
theorem dX6_needBox_9 : decode cX6_needBox 9 = .ok (.getfield 101, 3) := by decide +kernel
theorem dX6_needBox_12 : decode cX6_needBox 12 = .ok (.if_icmp .lt 14, 3) := by decide +kernel
theorem dX6_needBox_15 : decode cX6_needBox 15 = .ok (.new 193, 3) := by decide +kernel
theorem dX6_needBox_18 : decode cX6_needBox 18 = .ok (.dup, 1) := by decide +kernel
theorem dX6_needBox_19 : decode cX6_needBox 19 = .ok (.ldc_w 259, 3) := by decide +kernel
theorem dX6_needBox_22 : decode cX6_needBox 22 = .ok (.invokespecial 197, 3) := by decide +kernel
theorem dX6_needBox_25 : decode cX6_needBox 25 = .ok (.athrow, 1) := by decide +kernel
theorem dX6_needBox_26 : decode cX6_needBox 26 = .ok (.return_, 1) := by decide +kernel
theorem dX6_needSlot_0 : decode cX6_needSlot 0 = .ok (.aload_n 0, 1) := by decide +kernel
theorem dX6_needSlot_1 : decode cX6_needSlot 1 = .ok (.getfield 39, 3) := by decide +kernel
theorem dX6_needSlot_4 : decode cX6_needSlot 4 = .ok (.iload_n 1, 1) := by decide +kernel
theorem dX6_needSlot_5 : decode cX6_needSlot 5 = .ok (.invokevirtual 234, 3) := by decide +kernel
theorem dX6_needSlot_8 : decode cX6_needSlot 8 = .ok (.ifCond .ne 13, 3) := by decide +kernel
theorem dX6_needSlot_11 : decode cX6_needSlot 11 = .ok (.new 193, 3) := by decide +kernel
theorem dX6_needSlot_14 : decode cX6_needSlot 14 = .ok (.dup, 1) := by decide +kernel
theorem dX6_needSlot_15 : decode cX6_needSlot 15 = .ok (.ldc 255, 2) := by decide +kernel
theorem dX6_needSlot_17 : decode cX6_needSlot 17 = .ok (.invokespecial 197, 3) := by decide +kernel
theorem dX6_needSlot_20 : decode cX6_needSlot 20 = .ok (.athrow, 1) := by decide +kernel
theorem dX6_needSlot_21 : decode cX6_needSlot 21 = .ok (.return_, 1) := by decide +kernel
theorem dX6_needTime_0 : decode cX6_needTime 0 = .ok (.iload_n 1, 1) := by decide +kernel
theorem dX6_needTime_1 : decode cX6_needTime 1 = .ok (.aload_n 0, 1) := by decide +kernel
theorem dX6_needTime_2 : decode cX6_needTime 2 = .ok (.getfield 169, 3) := by decide +kernel
theorem dX6_needTime_5 : decode cX6_needTime 5 = .ok (.if_icmp .lt 9, 3) := by decide +kernel
theorem dX6_needTime_8 : decode cX6_needTime 8 = .ok (.iload_n 1, 1) := by decide +kernel
theorem dX6_needTime_9 : decode cX6_needTime 9 = .ok (.ldc 98, 2) := by decide +kernel
theorem dX6_needTime_11 : decode cX6_needTime 11 = .ok (.if_icmp .le 14, 3) := by decide +kernel
theorem dX6_needTime_14 : decode cX6_needTime 14 = .ok (.new 68, 3) := by decide +kernel
theorem dX6_needTime_17 : decode cX6_needTime 17 = .ok (.dup, 1) := by decide +kernel
theorem dX6_needTime_18 : decode cX6_needTime 18 = .ok (.ldc_w 263, 3) := by decide +kernel
theorem dX6_needTime_21 : decode cX6_needTime 21 = .ok (.invokespecial 72, 3) := by decide +kernel
theorem dX6_needTime_24 : decode cX6_needTime 24 = .ok (.athrow, 1) := by decide +kernel
theorem dX6_needTime_25 : decode cX6_needTime 25 = .ok (.return_, 1) := by decide +kernel
theorem dX6_needTruck_0 : decode cX6_needTruck 0 = .ok (.iload_n 1, 1) := by decide +kernel
theorem dX6_needTruck_1 : decode cX6_needTruck 1 = .ok (.ifCond .lt 9, 3) := by decide +kernel
theorem dX6_needTruck_4 : decode cX6_needTruck 4 = .ok (.iload_n 1, 1) := by decide +kernel
theorem dX6_needTruck_5 : decode cX6_needTruck 5 = .ok (.bipush 16, 2) := by decide +kernel
theorem dX6_needTruck_7 : decode cX6_needTruck 7 = .ok (.if_icmp .lt 14, 3) := by decide +kernel
theorem dX6_needTruck_10 : decode cX6_needTruck 10 = .ok (.new 193, 3) := by decide +kernel
theorem dX6_needTruck_13 : decode cX6_needTruck 13 = .ok (.dup, 1) := by decide +kernel
theorem dX6_needTruck_14 : decode cX6_needTruck 14 = .ok (.ldc_w 257, 3) := by decide +kernel
theorem dX6_needTruck_17 : decode cX6_needTruck 17 = .ok (.invokespecial 197, 3) := by decide +kernel
theorem dX6_needTruck_20 : decode cX6_needTruck 20 = .ok (.athrow, 1) := by decide +kernel
theorem dX6_needTruck_21 : decode cX6_needTruck 21 = .ok (.return_, 1) := by decide +kernel
theorem dX6_otherSlot_0 : decode cX6_otherSlot 0 = .ok (.iconst (-1), 1) := by decide +kernel
theorem dX6_otherSlot_1 : decode cX6_otherSlot 1 = .ok (.aload_n 0, 1) := by decide +kernel
theorem dX6_otherSlot_2 : decode cX6_otherSlot 2 = .ok (.getfield 39, 3) := by decide +kernel
theorem dX6_otherSlot_5 : decode cX6_otherSlot 5 = .ok (.iload_n 1, 1) := by decide +kernel
theorem dX6_otherSlot_6 : decode cX6_otherSlot 6 = .ok (.invokevirtual 265, 3) := by decide +kernel
theorem dX6_otherSlot_9 : decode cX6_otherSlot 9 = .ok (.isub, 1) := by decide +kernel
theorem dX6_otherSlot_10 : decode cX6_otherSlot 10 = .ok (.ireturn, 1) := by decide +kernel
theorem dX0_add_0 : decode cX0_add 0 = .ok (.aload_n 0, 1) := by decide +kernel
theorem dX0_add_1 : decode cX0_add 1 = .ok (.getfield 33, 3) := by decide +kernel
theorem dX0_add_4 : decode cX0_add 4 = .ok (.bipush 60, 2) := by decide +kernel
theorem dX0_add_6 : decode cX0_add 6 = .ok (.if_icmp .lt 5, 3) := by decide +kernel
theorem dX0_add_9 : decode cX0_add 9 = .ok (.iconst (-1), 1) := by decide +kernel
theorem dX0_add_10 : decode cX0_add 10 = .ok (.ireturn, 1) := by decide +kernel
theorem dX0_add_11 : decode cX0_add 11 = .ok (.aload_n 0, 1) := by decide +kernel
theorem dX0_add_12 : decode cX0_add 12 = .ok (.dup, 1) := by decide +kernel
theorem dX0_add_13 : decode cX0_add 13 = .ok (.getfield 33, 3) := by decide +kernel
theorem dX0_add_16 : decode cX0_add 16 = .ok (.iconst 1, 1) := by decide +kernel
theorem dX0_add_17 : decode cX0_add 17 = .ok (.iadd, 1) := by decide +kernel
theorem dX0_add_18 : decode cX0_add 18 = .ok (.putfield 33, 3) := by decide +kernel
theorem dX0_add_21 : decode cX0_add 21 = .ok (.aload_n 0, 1) := by decide +kernel
theorem dX0_add_22 : decode cX0_add 22 = .ok (.getfield 9, 3) := by decide +kernel
theorem dX0_add_25 : decode cX0_add 25 = .ok (.aload_n 0, 1) := by decide +kernel
theorem dX0_add_26 : decode cX0_add 26 = .ok (.getfield 33, 3) := by decide +kernel
theorem dX0_add_29 : decode cX0_add 29 = .ok (.iload_n 1, 1) := by decide +kernel
theorem dX0_add_30 : decode cX0_add 30 = .ok (.iastore, 1) := by decide +kernel
theorem dX0_add_31 : decode cX0_add 31 = .ok (.aload_n 0, 1) := by decide +kernel
theorem dX0_add_32 : decode cX0_add 32 = .ok (.getfield 15, 3) := by decide +kernel
theorem dX0_add_35 : decode cX0_add 35 = .ok (.aload_n 0, 1) := by decide +kernel
theorem dX0_add_36 : decode cX0_add 36 = .ok (.getfield 33, 3) := by decide +kernel
theorem dX0_add_39 : decode cX0_add 39 = .ok (.iload_n 2, 1) := by decide +kernel
theorem dX0_add_40 : decode cX0_add 40 = .ok (.iastore, 1) := by decide +kernel
theorem dX0_add_41 : decode cX0_add 41 = .ok (.aload_n 0, 1) := by decide +kernel
theorem dX0_add_42 : decode cX0_add 42 = .ok (.getfield 18, 3) := by decide +kernel
theorem dX0_add_45 : decode cX0_add 45 = .ok (.aload_n 0, 1) := by decide +kernel
theorem dX0_add_46 : decode cX0_add 46 = .ok (.getfield 33, 3) := by decide +kernel
theorem dX0_add_49 : decode cX0_add 49 = .ok (.iload_n 3, 1) := by decide +kernel
theorem dX0_add_50 : decode cX0_add 50 = .ok (.iastore, 1) := by decide +kernel
theorem dX0_add_51 : decode cX0_add 51 = .ok (.aload_n 0, 1) := by decide +kernel
theorem dX0_add_52 : decode cX0_add 52 = .ok (.getfield 21, 3) := by decide +kernel
theorem dX0_add_55 : decode cX0_add 55 = .ok (.aload_n 0, 1) := by decide +kernel
theorem dX0_add_56 : decode cX0_add 56 = .ok (.getfield 33, 3) := by decide +kernel
theorem dX0_add_59 : decode cX0_add 59 = .ok (.iconst 0, 1) := by decide +kernel
theorem dX0_add_60 : decode cX0_add 60 = .ok (.iastore, 1) := by decide +kernel
theorem dX0_add_61 : decode cX0_add 61 = .ok (.aload_n 0, 1) := by decide +kernel
theorem dX0_add_62 : decode cX0_add 62 = .ok (.getfield 33, 3) := by decide +kernel
theorem dX0_add_65 : decode cX0_add 65 = .ok (.ireturn, 1) := by decide +kernel
theorem dX0_holdsBox_0 : decode cX0_holdsBox 0 = .ok (.iconst 1, 1) := by decide +kernel
theorem dX0_holdsBox_1 : decode cX0_holdsBox 1 = .ok (.istore_n 2, 1) := by decide +kernel
theorem dX0_holdsBox_2 : decode cX0_holdsBox 2 = .ok (.iload_n 2, 1) := by decide +kernel
theorem dX0_holdsBox_3 : decode cX0_holdsBox 3 = .ok (.aload_n 0, 1) := by decide +kernel
theorem dX0_holdsBox_4 : decode cX0_holdsBox 4 = .ok (.getfield 33, 3) := by decide +kernel
theorem dX0_holdsBox_7 : decode cX0_holdsBox 7 = .ok (.if_icmp .gt 31, 3) := by decide +kernel
theorem dX0_holdsBox_10 : decode cX0_holdsBox 10 = .ok (.aload_n 0, 1) := by decide +kernel
theorem dX0_holdsBox_11 : decode cX0_holdsBox 11 = .ok (.getfield 18, 3) := by decide +kernel
theorem dX0_holdsBox_14 : decode cX0_holdsBox 14 = .ok (.iload_n 2, 1) := by decide +kernel
theorem dX0_holdsBox_15 : decode cX0_holdsBox 15 = .ok (.iaload, 1) := by decide +kernel
theorem dX0_holdsBox_16 : decode cX0_holdsBox 16 = .ok (.iload_n 1, 1) := by decide +kernel
theorem dX0_holdsBox_17 : decode cX0_holdsBox 17 = .ok (.if_icmp .ne 15, 3) := by decide +kernel
theorem dX0_holdsBox_20 : decode cX0_holdsBox 20 = .ok (.aload_n 0, 1) := by decide +kernel
theorem dX0_holdsBox_21 : decode cX0_holdsBox 21 = .ok (.getfield 21, 3) := by decide +kernel
theorem dX0_holdsBox_24 : decode cX0_holdsBox 24 = .ok (.iload_n 2, 1) := by decide +kernel
theorem dX0_holdsBox_25 : decode cX0_holdsBox 25 = .ok (.iaload, 1) := by decide +kernel
theorem dX0_holdsBox_26 : decode cX0_holdsBox 26 = .ok (.iconst 3, 1) := by decide +kernel
theorem dX0_holdsBox_27 : decode cX0_holdsBox 27 = .ok (.if_icmp .eq 5, 3) := by decide +kernel
theorem dX0_holdsBox_30 : decode cX0_holdsBox 30 = .ok (.iconst 1, 1) := by decide +kernel
theorem dX0_holdsBox_31 : decode cX0_holdsBox 31 = .ok (.ireturn, 1) := by decide +kernel
theorem dX0_holdsBox_32 : decode cX0_holdsBox 32 = .ok (.iinc 2 1, 3) := by decide +kernel
theorem dX0_holdsBox_35 : decode cX0_holdsBox 35 = .ok (.goto (-33), 3) := by decide +kernel
theorem dX0_holdsBox_38 : decode cX0_holdsBox 38 = .ok (.iconst 0, 1) := by decide +kernel
theorem dX0_holdsBox_39 : decode cX0_holdsBox 39 = .ok (.ireturn, 1) := by decide +kernel
theorem dX0_holdsTruckIn_0 : decode cX0_holdsTruckIn 0 = .ok (.iconst 1, 1) := by decide +kernel
theorem dX0_holdsTruckIn_1 : decode cX0_holdsTruckIn 1 = .ok (.istore_n 2, 1) := by decide +kernel
theorem dX0_holdsTruckIn_2 : decode cX0_holdsTruckIn 2 = .ok (.iload_n 2, 1) := by decide +kernel
theorem dX0_holdsTruckIn_3 : decode cX0_holdsTruckIn 3 = .ok (.aload_n 0, 1) := by decide +kernel
theorem dX0_holdsTruckIn_4 : decode cX0_holdsTruckIn 4 = .ok (.getfield 33, 3) := by decide +kernel
theorem dX0_holdsTruckIn_7 : decode cX0_holdsTruckIn 7 = .ok (.if_icmp .gt 31, 3) := by decide +kernel
theorem dX0_holdsTruckIn_10 : decode cX0_holdsTruckIn 10 = .ok (.aload_n 0, 1) := by decide +kernel
theorem dX0_holdsTruckIn_11 : decode cX0_holdsTruckIn 11 = .ok (.getfield 15, 3) := by decide +kernel
theorem dX0_holdsTruckIn_14 : decode cX0_holdsTruckIn 14 = .ok (.iload_n 2, 1) := by decide +kernel
theorem dX0_holdsTruckIn_15 : decode cX0_holdsTruckIn 15 = .ok (.iaload, 1) := by decide +kernel
theorem dX0_holdsTruckIn_16 : decode cX0_holdsTruckIn 16 = .ok (.iload_n 1, 1) := by decide +kernel
theorem dX0_holdsTruckIn_17 : decode cX0_holdsTruckIn 17 = .ok (.if_icmp .ne 15, 3) := by decide +kernel
theorem dX0_holdsTruckIn_20 : decode cX0_holdsTruckIn 20 = .ok (.aload_n 0, 1) := by decide +kernel
theorem dX0_holdsTruckIn_21 : decode cX0_holdsTruckIn 21 = .ok (.getfield 21, 3) := by decide +kernel
theorem dX0_holdsTruckIn_24 : decode cX0_holdsTruckIn 24 = .ok (.iload_n 2, 1) := by decide +kernel
theorem dX0_holdsTruckIn_25 : decode cX0_holdsTruckIn 25 = .ok (.iaload, 1) := by decide +kernel
theorem dX0_holdsTruckIn_26 : decode cX0_holdsTruckIn 26 = .ok (.iconst 1, 1) := by decide +kernel
theorem dX0_holdsTruckIn_27 : decode cX0_holdsTruckIn 27 = .ok (.if_icmp .ne 5, 3) := by decide +kernel
theorem dX0_holdsTruckIn_30 : decode cX0_holdsTruckIn 30 = .ok (.iconst 1, 1) := by decide +kernel
theorem dX0_holdsTruckIn_31 : decode cX0_holdsTruckIn 31 = .ok (.ireturn, 1) := by decide +kernel
theorem dX0_holdsTruckIn_32 : decode cX0_holdsTruckIn 32 = .ok (.iinc 2 1, 3) := by decide +kernel
theorem dX0_holdsTruckIn_35 : decode cX0_holdsTruckIn 35 = .ok (.goto (-33), 3) := by decide +kernel
theorem dX0_holdsTruckIn_38 : decode cX0_holdsTruckIn 38 = .ok (.iconst 0, 1) := by decide +kernel
theorem dX0_holdsTruckIn_39 : decode cX0_holdsTruckIn 39 = .ok (.ireturn, 1) := by decide +kernel
theorem dX0_inWithBox_0 : decode cX0_inWithBox 0 = .ok (.iconst 1, 1) := by decide +kernel
theorem dX0_inWithBox_1 : decode cX0_inWithBox 1 = .ok (.istore_n 2, 1) := by decide +kernel
theorem dX0_inWithBox_2 : decode cX0_inWithBox 2 = .ok (.iload_n 2, 1) := by decide +kernel
theorem dX0_inWithBox_3 : decode cX0_inWithBox 3 = .ok (.aload_n 0, 1) := by decide +kernel
theorem dX0_inWithBox_4 : decode cX0_inWithBox 4 = .ok (.getfield 33, 3) := by decide +kernel
theorem dX0_inWithBox_7 : decode cX0_inWithBox 7 = .ok (.if_icmp .gt 31, 3) := by decide +kernel
theorem dX0_inWithBox_10 : decode cX0_inWithBox 10 = .ok (.aload_n 0, 1) := by decide +kernel
theorem dX0_inWithBox_11 : decode cX0_inWithBox 11 = .ok (.getfield 18, 3) := by decide +kernel
theorem dX0_inWithBox_14 : decode cX0_inWithBox 14 = .ok (.iload_n 2, 1) := by decide +kernel
theorem dX0_inWithBox_15 : decode cX0_inWithBox 15 = .ok (.iaload, 1) := by decide +kernel
theorem dX0_inWithBox_16 : decode cX0_inWithBox 16 = .ok (.iload_n 1, 1) := by decide +kernel
theorem dX0_inWithBox_17 : decode cX0_inWithBox 17 = .ok (.if_icmp .ne 15, 3) := by decide +kernel
theorem dX0_inWithBox_20 : decode cX0_inWithBox 20 = .ok (.aload_n 0, 1) := by decide +kernel
theorem dX0_inWithBox_21 : decode cX0_inWithBox 21 = .ok (.getfield 21, 3) := by decide +kernel
theorem dX0_inWithBox_24 : decode cX0_inWithBox 24 = .ok (.iload_n 2, 1) := by decide +kernel
theorem dX0_inWithBox_25 : decode cX0_inWithBox 25 = .ok (.iaload, 1) := by decide +kernel
theorem dX0_inWithBox_26 : decode cX0_inWithBox 26 = .ok (.iconst 1, 1) := by decide +kernel
theorem dX0_inWithBox_27 : decode cX0_inWithBox 27 = .ok (.if_icmp .ne 5, 3) := by decide +kernel
theorem dX0_inWithBox_30 : decode cX0_inWithBox 30 = .ok (.iload_n 2, 1) := by decide +kernel
theorem dX0_inWithBox_31 : decode cX0_inWithBox 31 = .ok (.ireturn, 1) := by decide +kernel
theorem dX0_inWithBox_32 : decode cX0_inWithBox 32 = .ok (.iinc 2 1, 3) := by decide +kernel
theorem dX0_inWithBox_35 : decode cX0_inWithBox 35 = .ok (.goto (-33), 3) := by decide +kernel
theorem dX0_inWithBox_38 : decode cX0_inWithBox 38 = .ok (.iconst (-1), 1) := by decide +kernel
theorem dX0_inWithBox_39 : decode cX0_inWithBox 39 = .ok (.ireturn, 1) := by decide +kernel
theorem dX1_add_0 : decode cX1_add 0 = .ok (.aload_n 0, 1) := by decide +kernel
theorem dX1_add_1 : decode cX1_add 1 = .ok (.getfield 25, 3) := by decide +kernel
theorem dX1_add_4 : decode cX1_add 4 = .ok (.bipush 20, 2) := by decide +kernel
theorem dX1_add_6 : decode cX1_add 6 = .ok (.if_icmp .lt 5, 3) := by decide +kernel
theorem dX1_add_9 : decode cX1_add 9 = .ok (.iconst (-1), 1) := by decide +kernel
theorem dX1_add_10 : decode cX1_add 10 = .ok (.ireturn, 1) := by decide +kernel
theorem dX1_add_11 : decode cX1_add 11 = .ok (.aload_n 0, 1) := by decide +kernel
theorem dX1_add_12 : decode cX1_add 12 = .ok (.getfield 25, 3) := by decide +kernel
theorem dX1_add_15 : decode cX1_add 15 = .ok (.istore 4, 2) := by decide +kernel
theorem dX1_add_17 : decode cX1_add 17 = .ok (.aload_n 0, 1) := by decide +kernel
theorem dX1_add_18 : decode cX1_add 18 = .ok (.dup, 1) := by decide +kernel
theorem dX1_add_19 : decode cX1_add 19 = .ok (.getfield 25, 3) := by decide +kernel
theorem dX1_add_22 : decode cX1_add 22 = .ok (.iconst 1, 1) := by decide +kernel
theorem dX1_add_23 : decode cX1_add 23 = .ok (.iadd, 1) := by decide +kernel
theorem dX1_add_24 : decode cX1_add 24 = .ok (.putfield 25, 3) := by decide +kernel
theorem dX1_add_27 : decode cX1_add 27 = .ok (.iconst 0, 1) := by decide +kernel
theorem dX1_add_28 : decode cX1_add 28 = .ok (.istore 5, 2) := by decide +kernel
theorem dX1_add_30 : decode cX1_add 30 = .ok (.iload 5, 2) := by decide +kernel
theorem dX1_add_32 : decode cX1_add 32 = .ok (.bipush 10, 2) := by decide +kernel
theorem dX1_add_34 : decode cX1_add 34 = .ok (.if_icmp .ge 33, 3) := by decide +kernel
theorem dX1_add_37 : decode cX1_add 37 = .ok (.iload 5, 2) := by decide +kernel
theorem dX1_add_39 : decode cX1_add 39 = .ok (.aload_n 1, 1) := by decide +kernel
theorem dX1_add_40 : decode cX1_add 40 = .ok (.arraylength, 1) := by decide +kernel
theorem dX1_add_41 : decode cX1_add 41 = .ok (.if_icmp .ge 26, 3) := by decide +kernel
theorem dX1_add_44 : decode cX1_add 44 = .ok (.aload_n 0, 1) := by decide +kernel
theorem dX1_add_45 : decode cX1_add 45 = .ok (.getfield 9, 3) := by decide +kernel
theorem dX1_add_48 : decode cX1_add 48 = .ok (.iload 4, 2) := by decide +kernel
theorem dX1_add_50 : decode cX1_add 50 = .ok (.bipush 10, 2) := by decide +kernel
theorem dX1_add_52 : decode cX1_add 52 = .ok (.imul, 1) := by decide +kernel
theorem dX1_add_53 : decode cX1_add 53 = .ok (.iload 5, 2) := by decide +kernel
theorem dX1_add_55 : decode cX1_add 55 = .ok (.iadd, 1) := by decide +kernel
theorem dX1_add_56 : decode cX1_add 56 = .ok (.aload_n 1, 1) := by decide +kernel
theorem dX1_add_57 : decode cX1_add 57 = .ok (.iload 5, 2) := by decide +kernel
theorem dX1_add_59 : decode cX1_add 59 = .ok (.iaload, 1) := by decide +kernel
theorem dX1_add_60 : decode cX1_add 60 = .ok (.iastore, 1) := by decide +kernel
theorem dX1_add_61 : decode cX1_add 61 = .ok (.iinc 5 1, 3) := by decide +kernel
theorem dX1_add_64 : decode cX1_add 64 = .ok (.goto (-34), 3) := by decide +kernel
theorem dX1_add_67 : decode cX1_add 67 = .ok (.aload_n 0, 1) := by decide +kernel
theorem dX1_add_68 : decode cX1_add 68 = .ok (.getfield 15, 3) := by decide +kernel
theorem dX1_add_71 : decode cX1_add 71 = .ok (.iload 4, 2) := by decide +kernel
theorem dX1_add_73 : decode cX1_add 73 = .ok (.iload_n 2, 1) := by decide +kernel
theorem dX1_add_74 : decode cX1_add 74 = .ok (.iastore, 1) := by decide +kernel
theorem dX1_add_75 : decode cX1_add 75 = .ok (.aload_n 0, 1) := by decide +kernel
theorem dX1_add_76 : decode cX1_add 76 = .ok (.getfield 18, 3) := by decide +kernel
theorem dX1_add_79 : decode cX1_add 79 = .ok (.iload 4, 2) := by decide +kernel
theorem dX1_add_81 : decode cX1_add 81 = .ok (.iload_n 3, 1) := by decide +kernel
theorem dX1_add_82 : decode cX1_add 82 = .ok (.bastore, 1) := by decide +kernel
theorem dX1_add_83 : decode cX1_add 83 = .ok (.aload_n 0, 1) := by decide +kernel
theorem dX1_add_84 : decode cX1_add 84 = .ok (.iload 4, 2) := by decide +kernel
theorem dX1_add_86 : decode cX1_add 86 = .ok (.iconst 0, 1) := by decide +kernel
theorem dX1_add_87 : decode cX1_add 87 = .ok (.iconst 0, 1) := by decide +kernel
theorem dX1_add_88 : decode cX1_add 88 = .ok (.invokevirtual 29, 3) := by decide +kernel
theorem dX1_add_91 : decode cX1_add 91 = .ok (.aload_n 0, 1) := by decide +kernel
theorem dX1_add_92 : decode cX1_add 92 = .ok (.iload 4, 2) := by decide +kernel
theorem dX1_add_94 : decode cX1_add 94 = .ok (.iconst 1, 1) := by decide +kernel
theorem dX1_add_95 : decode cX1_add 95 = .ok (.iconst 1, 1) := by decide +kernel
theorem dX1_add_96 : decode cX1_add 96 = .ok (.invokevirtual 29, 3) := by decide +kernel
theorem dX1_add_99 : decode cX1_add 99 = .ok (.aload_n 0, 1) := by decide +kernel
theorem dX1_add_100 : decode cX1_add 100 = .ok (.iload 4, 2) := by decide +kernel
theorem dX1_add_102 : decode cX1_add 102 = .ok (.iconst 2, 1) := by decide +kernel
theorem dX1_add_103 : decode cX1_add 103 = .ok (.iconst 1, 1) := by decide +kernel
theorem dX1_add_104 : decode cX1_add 104 = .ok (.invokevirtual 29, 3) := by decide +kernel
theorem dX1_add_107 : decode cX1_add 107 = .ok (.aload_n 0, 1) := by decide +kernel
theorem dX1_add_108 : decode cX1_add 108 = .ok (.iload 4, 2) := by decide +kernel
theorem dX1_add_110 : decode cX1_add 110 = .ok (.iconst 3, 1) := by decide +kernel
theorem dX1_add_111 : decode cX1_add 111 = .ok (.iconst 1, 1) := by decide +kernel
theorem dX1_add_112 : decode cX1_add 112 = .ok (.invokevirtual 29, 3) := by decide +kernel
theorem dX1_add_115 : decode cX1_add 115 = .ok (.iload 4, 2) := by decide +kernel
theorem dX1_add_117 : decode cX1_add 117 = .ok (.ireturn, 1) := by decide +kernel
theorem dX1_hasNumber_0 : decode cX1_hasNumber 0 = .ok (.iconst 0, 1) := by decide +kernel
theorem dX1_hasNumber_1 : decode cX1_hasNumber 1 = .ok (.istore_n 2, 1) := by decide +kernel
theorem dX1_hasNumber_2 : decode cX1_hasNumber 2 = .ok (.iload_n 2, 1) := by decide +kernel
theorem dX1_hasNumber_3 : decode cX1_hasNumber 3 = .ok (.aload_n 0, 1) := by decide +kernel
theorem dX1_hasNumber_4 : decode cX1_hasNumber 4 = .ok (.getfield 25, 3) := by decide +kernel
theorem dX1_hasNumber_7 : decode cX1_hasNumber 7 = .ok (.if_icmp .ge 20, 3) := by decide +kernel
theorem dX1_hasNumber_10 : decode cX1_hasNumber 10 = .ok (.aload_n 0, 1) := by decide +kernel
theorem dX1_hasNumber_11 : decode cX1_hasNumber 11 = .ok (.iload_n 2, 1) := by decide +kernel
theorem dX1_hasNumber_12 : decode cX1_hasNumber 12 = .ok (.aload_n 1, 1) := by decide +kernel
theorem dX1_hasNumber_13 : decode cX1_hasNumber 13 = .ok (.invokevirtual 33, 3) := by decide +kernel
theorem dX1_hasNumber_16 : decode cX1_hasNumber 16 = .ok (.ifCond .eq 5, 3) := by decide +kernel
theorem dX1_hasNumber_19 : decode cX1_hasNumber 19 = .ok (.iconst 1, 1) := by decide +kernel
theorem dX1_hasNumber_20 : decode cX1_hasNumber 20 = .ok (.ireturn, 1) := by decide +kernel
theorem dX1_hasNumber_21 : decode cX1_hasNumber 21 = .ok (.iinc 2 1, 3) := by decide +kernel
theorem dX1_hasNumber_24 : decode cX1_hasNumber 24 = .ok (.goto (-22), 3) := by decide +kernel
theorem dX1_hasNumber_27 : decode cX1_hasNumber 27 = .ok (.iconst 0, 1) := by decide +kernel
theorem dX1_hasNumber_28 : decode cX1_hasNumber 28 = .ok (.ireturn, 1) := by decide +kernel
theorem dX1_isNumberOf_0 : decode cX1_isNumberOf 0 = .ok (.iconst 0, 1) := by decide +kernel
theorem dX1_isNumberOf_1 : decode cX1_isNumberOf 1 = .ok (.istore_n 3, 1) := by decide +kernel
theorem dX1_isNumberOf_2 : decode cX1_isNumberOf 2 = .ok (.iload_n 3, 1) := by decide +kernel
theorem dX1_isNumberOf_3 : decode cX1_isNumberOf 3 = .ok (.bipush 10, 2) := by decide +kernel
theorem dX1_isNumberOf_5 : decode cX1_isNumberOf 5 = .ok (.if_icmp .ge 34, 3) := by decide +kernel
theorem dX1_isNumberOf_8 : decode cX1_isNumberOf 8 = .ok (.iload_n 3, 1) := by decide +kernel
theorem dX1_isNumberOf_9 : decode cX1_isNumberOf 9 = .ok (.aload_n 2, 1) := by decide +kernel
theorem dX1_isNumberOf_10 : decode cX1_isNumberOf 10 = .ok (.arraylength, 1) := by decide +kernel
theorem dX1_isNumberOf_11 : decode cX1_isNumberOf 11 = .ok (.if_icmp .ge 28, 3) := by decide +kernel
theorem dX1_isNumberOf_14 : decode cX1_isNumberOf 14 = .ok (.aload_n 0, 1) := by decide +kernel
theorem dX1_isNumberOf_15 : decode cX1_isNumberOf 15 = .ok (.getfield 9, 3) := by decide +kernel
theorem dX1_isNumberOf_18 : decode cX1_isNumberOf 18 = .ok (.iload_n 1, 1) := by decide +kernel
theorem dX1_isNumberOf_19 : decode cX1_isNumberOf 19 = .ok (.bipush 10, 2) := by decide +kernel
theorem dX1_isNumberOf_21 : decode cX1_isNumberOf 21 = .ok (.imul, 1) := by decide +kernel
theorem dX1_isNumberOf_22 : decode cX1_isNumberOf 22 = .ok (.iload_n 3, 1) := by decide +kernel
theorem dX1_isNumberOf_23 : decode cX1_isNumberOf 23 = .ok (.iadd, 1) := by decide +kernel
theorem dX1_isNumberOf_24 : decode cX1_isNumberOf 24 = .ok (.iaload, 1) := by decide +kernel
end
section
theorem dX1_isNumberOf_25 : decode cX1_isNumberOf 25 = .ok (.aload_n 2, 1) := by decide +kernel
theorem dX1_isNumberOf_26 : decode cX1_isNumberOf 26 = .ok (.iload_n 3, 1) := by decide +kernel
theorem dX1_isNumberOf_27 : decode cX1_isNumberOf 27 = .ok (.iaload, 1) := by decide +kernel
theorem dX1_isNumberOf_28 : decode cX1_isNumberOf 28 = .ok (.if_icmp .eq 5, 3) := by decide +kernel
theorem dX1_isNumberOf_31 : decode cX1_isNumberOf 31 = .ok (.iconst 0, 1) := by decide +kernel
theorem dX1_isNumberOf_32 : decode cX1_isNumberOf 32 = .ok (.ireturn, 1) := by decide +kernel
theorem dX1_isNumberOf_33 : decode cX1_isNumberOf 33 = .ok (.iinc 3 1, 3) := by decide +kernel
theorem dX1_isNumberOf_36 : decode cX1_isNumberOf 36 = .ok (.goto (-34), 3) := by decide +kernel
theorem dX1_isNumberOf_39 : decode cX1_isNumberOf 39 = .ok (.iconst 1, 1) := by decide +kernel
theorem dX1_isNumberOf_40 : decode cX1_isNumberOf 40 = .ok (.ireturn, 1) := by decide +kernel
theorem dX1_judge_0 : decode cX1_judge 0 = .ok (.aload_n 0, 1) := by decide +kernel
theorem dX1_judge_1 : decode cX1_judge 1 = .ok (.getfield 22, 3) := by decide +kernel
theorem dX1_judge_4 : decode cX1_judge 4 = .ok (.iload_n 1, 1) := by decide +kernel
theorem dX1_judge_5 : decode cX1_judge 5 = .ok (.iconst 4, 1) := by decide +kernel
theorem dX1_judge_6 : decode cX1_judge 6 = .ok (.imul, 1) := by decide +kernel
theorem dX1_judge_7 : decode cX1_judge 7 = .ok (.iload_n 2, 1) := by decide +kernel
theorem dX1_judge_8 : decode cX1_judge 8 = .ok (.iadd, 1) := by decide +kernel
theorem dX1_judge_9 : decode cX1_judge 9 = .ok (.iload_n 3, 1) := by decide +kernel
theorem dX1_judge_10 : decode cX1_judge 10 = .ok (.iastore, 1) := by decide +kernel
theorem dX1_judge_11 : decode cX1_judge 11 = .ok (.return_, 1) := by decide +kernel
theorem dX1_verdictOf_0 : decode cX1_verdictOf 0 = .ok (.aload_n 0, 1) := by decide +kernel
theorem dX1_verdictOf_1 : decode cX1_verdictOf 1 = .ok (.getfield 22, 3) := by decide +kernel
theorem dX1_verdictOf_4 : decode cX1_verdictOf 4 = .ok (.iload_n 1, 1) := by decide +kernel
theorem dX1_verdictOf_5 : decode cX1_verdictOf 5 = .ok (.iconst 4, 1) := by decide +kernel
theorem dX1_verdictOf_6 : decode cX1_verdictOf 6 = .ok (.imul, 1) := by decide +kernel
theorem dX1_verdictOf_7 : decode cX1_verdictOf 7 = .ok (.iload_n 2, 1) := by decide +kernel
theorem dX1_verdictOf_8 : decode cX1_verdictOf 8 = .ok (.iadd, 1) := by decide +kernel
theorem dX1_verdictOf_9 : decode cX1_verdictOf 9 = .ok (.iaload, 1) := by decide +kernel
theorem dX1_verdictOf_10 : decode cX1_verdictOf 10 = .ok (.ireturn, 1) := by decide +kernel
theorem dX2_add_0 : decode cX2_add 0 = .ok (.aload_n 0, 1) := by decide +kernel
theorem dX2_add_1 : decode cX2_add 1 = .ok (.getfield 15, 3) := by decide +kernel
theorem dX2_add_4 : decode cX2_add 4 = .ok (.bipush 16, 2) := by decide +kernel
theorem dX2_add_6 : decode cX2_add 6 = .ok (.if_icmp .ge 23, 3) := by decide +kernel
theorem dX2_add_9 : decode cX2_add 9 = .ok (.aload_n 0, 1) := by decide +kernel
theorem dX2_add_10 : decode cX2_add 10 = .ok (.getfield 9, 3) := by decide +kernel
theorem dX2_add_13 : decode cX2_add 13 = .ok (.aload_n 0, 1) := by decide +kernel
theorem dX2_add_14 : decode cX2_add 14 = .ok (.getfield 15, 3) := by decide +kernel
theorem dX2_add_17 : decode cX2_add 17 = .ok (.iload_n 1, 1) := by decide +kernel
theorem dX2_add_18 : decode cX2_add 18 = .ok (.iastore, 1) := by decide +kernel
theorem dX2_add_19 : decode cX2_add 19 = .ok (.aload_n 0, 1) := by decide +kernel
theorem dX2_add_20 : decode cX2_add 20 = .ok (.dup, 1) := by decide +kernel
theorem dX2_add_21 : decode cX2_add 21 = .ok (.getfield 15, 3) := by decide +kernel
theorem dX2_add_24 : decode cX2_add 24 = .ok (.iconst 1, 1) := by decide +kernel
theorem dX2_add_25 : decode cX2_add 25 = .ok (.iadd, 1) := by decide +kernel
theorem dX2_add_26 : decode cX2_add 26 = .ok (.putfield 15, 3) := by decide +kernel
theorem dX2_add_29 : decode cX2_add 29 = .ok (.return_, 1) := by decide +kernel
theorem dX2_bookingAt_0 : decode cX2_bookingAt 0 = .ok (.iload_n 1, 1) := by decide +kernel
theorem dX2_bookingAt_1 : decode cX2_bookingAt 1 = .ok (.ifCond .lt 20, 3) := by decide +kernel
theorem dX2_bookingAt_4 : decode cX2_bookingAt 4 = .ok (.iload_n 1, 1) := by decide +kernel
theorem dX2_bookingAt_5 : decode cX2_bookingAt 5 = .ok (.aload_n 0, 1) := by decide +kernel
theorem dX2_bookingAt_6 : decode cX2_bookingAt 6 = .ok (.getfield 15, 3) := by decide +kernel
theorem dX2_bookingAt_9 : decode cX2_bookingAt 9 = .ok (.if_icmp .ge 12, 3) := by decide +kernel
theorem dX2_bookingAt_12 : decode cX2_bookingAt 12 = .ok (.aload_n 0, 1) := by decide +kernel
theorem dX2_bookingAt_13 : decode cX2_bookingAt 13 = .ok (.getfield 9, 3) := by decide +kernel
theorem dX2_bookingAt_16 : decode cX2_bookingAt 16 = .ok (.iload_n 1, 1) := by decide +kernel
theorem dX2_bookingAt_17 : decode cX2_bookingAt 17 = .ok (.iaload, 1) := by decide +kernel
theorem dX2_bookingAt_18 : decode cX2_bookingAt 18 = .ok (.goto 4, 3) := by decide +kernel
theorem dX2_bookingAt_21 : decode cX2_bookingAt 21 = .ok (.iconst (-1), 1) := by decide +kernel
theorem dX2_bookingAt_22 : decode cX2_bookingAt 22 = .ok (.ireturn, 1) := by decide +kernel
theorem dX2_remove_0 : decode cX2_remove 0 = .ok (.iconst 0, 1) := by decide +kernel
theorem dX2_remove_1 : decode cX2_remove 1 = .ok (.istore_n 2, 1) := by decide +kernel
theorem dX2_remove_2 : decode cX2_remove 2 = .ok (.iconst 0, 1) := by decide +kernel
theorem dX2_remove_3 : decode cX2_remove 3 = .ok (.istore_n 3, 1) := by decide +kernel
theorem dX2_remove_4 : decode cX2_remove 4 = .ok (.iload_n 3, 1) := by decide +kernel
theorem dX2_remove_5 : decode cX2_remove 5 = .ok (.aload_n 0, 1) := by decide +kernel
theorem dX2_remove_6 : decode cX2_remove 6 = .ok (.getfield 15, 3) := by decide +kernel
theorem dX2_remove_9 : decode cX2_remove 9 = .ok (.if_icmp .ge 34, 3) := by decide +kernel
theorem dX2_remove_12 : decode cX2_remove 12 = .ok (.aload_n 0, 1) := by decide +kernel
theorem dX2_remove_13 : decode cX2_remove 13 = .ok (.getfield 9, 3) := by decide +kernel
theorem dX2_remove_16 : decode cX2_remove 16 = .ok (.iload_n 3, 1) := by decide +kernel
theorem dX2_remove_17 : decode cX2_remove 17 = .ok (.iaload, 1) := by decide +kernel
theorem dX2_remove_18 : decode cX2_remove 18 = .ok (.iload_n 1, 1) := by decide +kernel
theorem dX2_remove_19 : decode cX2_remove 19 = .ok (.if_icmp .eq 18, 3) := by decide +kernel
theorem dX2_remove_22 : decode cX2_remove 22 = .ok (.aload_n 0, 1) := by decide +kernel
theorem dX2_remove_23 : decode cX2_remove 23 = .ok (.getfield 9, 3) := by decide +kernel
theorem dX2_remove_26 : decode cX2_remove 26 = .ok (.iload_n 2, 1) := by decide +kernel
theorem dX2_remove_27 : decode cX2_remove 27 = .ok (.aload_n 0, 1) := by decide +kernel
theorem dX2_remove_28 : decode cX2_remove 28 = .ok (.getfield 9, 3) := by decide +kernel
theorem dX2_remove_31 : decode cX2_remove 31 = .ok (.iload_n 3, 1) := by decide +kernel
theorem dX2_remove_32 : decode cX2_remove 32 = .ok (.iaload, 1) := by decide +kernel
theorem dX2_remove_33 : decode cX2_remove 33 = .ok (.iastore, 1) := by decide +kernel
theorem dX2_remove_34 : decode cX2_remove 34 = .ok (.iinc 2 1, 3) := by decide +kernel
theorem dX2_remove_37 : decode cX2_remove 37 = .ok (.iinc 3 1, 3) := by decide +kernel
theorem dX2_remove_40 : decode cX2_remove 40 = .ok (.goto (-36), 3) := by decide +kernel
theorem dX2_remove_43 : decode cX2_remove 43 = .ok (.aload_n 0, 1) := by decide +kernel
theorem dX2_remove_44 : decode cX2_remove 44 = .ok (.iload_n 2, 1) := by decide +kernel
theorem dX2_remove_45 : decode cX2_remove 45 = .ok (.putfield 15, 3) := by decide +kernel
theorem dX2_remove_48 : decode cX2_remove 48 = .ok (.return_, 1) := by decide +kernel
theorem dX3_add_0 : decode cX3_add 0 = .ok (.aload_n 0, 1) := by decide +kernel
theorem dX3_add_1 : decode cX3_add 1 = .ok (.getfield 15, 3) := by decide +kernel
theorem dX3_add_4 : decode cX3_add 4 = .ok (.bipush 11, 2) := by decide +kernel
theorem dX3_add_6 : decode cX3_add 6 = .ok (.if_icmp .ge 23, 3) := by decide +kernel
theorem dX3_add_9 : decode cX3_add 9 = .ok (.aload_n 0, 1) := by decide +kernel
theorem dX3_add_10 : decode cX3_add 10 = .ok (.getfield 9, 3) := by decide +kernel
theorem dX3_add_13 : decode cX3_add 13 = .ok (.aload_n 0, 1) := by decide +kernel
theorem dX3_add_14 : decode cX3_add 14 = .ok (.getfield 15, 3) := by decide +kernel
theorem dX3_add_17 : decode cX3_add 17 = .ok (.iload_n 1, 1) := by decide +kernel
theorem dX3_add_18 : decode cX3_add 18 = .ok (.iastore, 1) := by decide +kernel
theorem dX3_add_19 : decode cX3_add 19 = .ok (.aload_n 0, 1) := by decide +kernel
theorem dX3_add_20 : decode cX3_add 20 = .ok (.dup, 1) := by decide +kernel
theorem dX3_add_21 : decode cX3_add 21 = .ok (.getfield 15, 3) := by decide +kernel
theorem dX3_add_24 : decode cX3_add 24 = .ok (.iconst 1, 1) := by decide +kernel
theorem dX3_add_25 : decode cX3_add 25 = .ok (.iadd, 1) := by decide +kernel
theorem dX3_add_26 : decode cX3_add 26 = .ok (.putfield 15, 3) := by decide +kernel
theorem dX3_add_29 : decode cX3_add 29 = .ok (.return_, 1) := by decide +kernel
theorem dX3_checkLetter_0 : decode cX3_checkLetter 0 = .ok (.aload_n 0, 1) := by decide +kernel
theorem dX3_checkLetter_1 : decode cX3_checkLetter 1 = .ok (.getfield 15, 3) := by decide +kernel
theorem dX3_checkLetter_4 : decode cX3_checkLetter 4 = .ok (.bipush 10, 2) := by decide +kernel
theorem dX3_checkLetter_6 : decode cX3_checkLetter 6 = .ok (.if_icmp .ge 5, 3) := by decide +kernel
theorem dX3_checkLetter_9 : decode cX3_checkLetter 9 = .ok (.iconst (-1), 1) := by decide +kernel
theorem dX3_checkLetter_10 : decode cX3_checkLetter 10 = .ok (.ireturn, 1) := by decide +kernel
theorem dX3_checkLetter_11 : decode cX3_checkLetter 11 = .ok (.iconst 0, 1) := by decide +kernel
theorem dX3_checkLetter_12 : decode cX3_checkLetter 12 = .ok (.istore_n 1, 1) := by decide +kernel
theorem dX3_checkLetter_13 : decode cX3_checkLetter 13 = .ok (.iconst 0, 1) := by decide +kernel
theorem dX3_checkLetter_14 : decode cX3_checkLetter 14 = .ok (.istore_n 2, 1) := by decide +kernel
theorem dX3_checkLetter_15 : decode cX3_checkLetter 15 = .ok (.iload_n 2, 1) := by decide +kernel
theorem dX3_checkLetter_16 : decode cX3_checkLetter 16 = .ok (.bipush 10, 2) := by decide +kernel
theorem dX3_checkLetter_18 : decode cX3_checkLetter 18 = .ok (.if_icmp .ge 25, 3) := by decide +kernel
theorem dX3_checkLetter_21 : decode cX3_checkLetter 21 = .ok (.iload_n 1, 1) := by decide +kernel
theorem dX3_checkLetter_22 : decode cX3_checkLetter 22 = .ok (.aload_n 0, 1) := by decide +kernel
theorem dX3_checkLetter_23 : decode cX3_checkLetter 23 = .ok (.getfield 9, 3) := by decide +kernel
theorem dX3_checkLetter_26 : decode cX3_checkLetter 26 = .ok (.iload_n 2, 1) := by decide +kernel
theorem dX3_checkLetter_27 : decode cX3_checkLetter 27 = .ok (.iaload, 1) := by decide +kernel
theorem dX3_checkLetter_28 : decode cX3_checkLetter 28 = .ok (.invokestatic 26, 3) := by decide +kernel
theorem dX3_checkLetter_31 : decode cX3_checkLetter 31 = .ok (.iload_n 2, 1) := by decide +kernel
theorem dX3_checkLetter_32 : decode cX3_checkLetter 32 = .ok (.iconst 1, 1) := by decide +kernel
theorem dX3_checkLetter_33 : decode cX3_checkLetter 33 = .ok (.iadd, 1) := by decide +kernel
theorem dX3_checkLetter_34 : decode cX3_checkLetter 34 = .ok (.imul, 1) := by decide +kernel
theorem dX3_checkLetter_35 : decode cX3_checkLetter 35 = .ok (.iadd, 1) := by decide +kernel
theorem dX3_checkLetter_36 : decode cX3_checkLetter 36 = .ok (.istore_n 1, 1) := by decide +kernel
theorem dX3_checkLetter_37 : decode cX3_checkLetter 37 = .ok (.iinc 2 1, 3) := by decide +kernel
theorem dX3_checkLetter_40 : decode cX3_checkLetter 40 = .ok (.goto (-25), 3) := by decide +kernel
theorem dX3_checkLetter_43 : decode cX3_checkLetter 43 = .ok (.bipush 65, 2) := by decide +kernel
theorem dX3_checkLetter_45 : decode cX3_checkLetter 45 = .ok (.iload_n 1, 1) := by decide +kernel
theorem dX3_checkLetter_46 : decode cX3_checkLetter 46 = .ok (.bipush 26, 2) := by decide +kernel
theorem dX3_checkLetter_48 : decode cX3_checkLetter 48 = .ok (.irem, 1) := by decide +kernel
theorem dX3_checkLetter_49 : decode cX3_checkLetter 49 = .ok (.iadd, 1) := by decide +kernel
theorem dX3_checkLetter_50 : decode cX3_checkLetter 50 = .ok (.ireturn, 1) := by decide +kernel
theorem dX3_endsWithCheckLetter_0 : decode cX3_endsWithCheckLetter 0 = .ok (.aload_n 0, 1) := by decide +kernel
theorem dX3_endsWithCheckLetter_1 : decode cX3_endsWithCheckLetter 1 = .ok (.getfield 15, 3) := by decide +kernel
theorem dX3_endsWithCheckLetter_4 : decode cX3_endsWithCheckLetter 4 = .ok (.bipush 11, 2) := by decide +kernel
theorem dX3_endsWithCheckLetter_6 : decode cX3_endsWithCheckLetter 6 = .ok (.if_icmp .ne 21, 3) := by decide +kernel
theorem dX3_endsWithCheckLetter_9 : decode cX3_endsWithCheckLetter 9 = .ok (.aload_n 0, 1) := by decide +kernel
theorem dX3_endsWithCheckLetter_10 : decode cX3_endsWithCheckLetter 10 = .ok (.getfield 9, 3) := by decide +kernel
theorem dX3_endsWithCheckLetter_13 : decode cX3_endsWithCheckLetter 13 = .ok (.bipush 10, 2) := by decide +kernel
theorem dX3_endsWithCheckLetter_15 : decode cX3_endsWithCheckLetter 15 = .ok (.iaload, 1) := by decide +kernel
theorem dX3_endsWithCheckLetter_16 : decode cX3_endsWithCheckLetter 16 = .ok (.aload_n 0, 1) := by decide +kernel
theorem dX3_endsWithCheckLetter_17 : decode cX3_endsWithCheckLetter 17 = .ok (.invokevirtual 30, 3) := by decide +kernel
theorem dX3_endsWithCheckLetter_20 : decode cX3_endsWithCheckLetter 20 = .ok (.if_icmp .ne 7, 3) := by decide +kernel
theorem dX3_endsWithCheckLetter_23 : decode cX3_endsWithCheckLetter 23 = .ok (.iconst 1, 1) := by decide +kernel
theorem dX3_endsWithCheckLetter_24 : decode cX3_endsWithCheckLetter 24 = .ok (.goto 4, 3) := by decide +kernel
theorem dX3_endsWithCheckLetter_27 : decode cX3_endsWithCheckLetter 27 = .ok (.iconst 0, 1) := by decide +kernel
theorem dX3_endsWithCheckLetter_28 : decode cX3_endsWithCheckLetter 28 = .ok (.ireturn, 1) := by decide +kernel
theorem dX3_fits_0 : decode cX3_fits 0 = .ok (.aload_n 0, 1) := by decide +kernel
theorem dX3_fits_1 : decode cX3_fits 1 = .ok (.getfield 15, 3) := by decide +kernel
theorem dX3_fits_4 : decode cX3_fits 4 = .ok (.iconst 4, 1) := by decide +kernel
theorem dX3_fits_5 : decode cX3_fits 5 = .ok (.if_icmp .lt 16, 3) := by decide +kernel
theorem dX3_fits_8 : decode cX3_fits 8 = .ok (.aload_n 0, 1) := by decide +kernel
theorem dX3_fits_9 : decode cX3_fits 9 = .ok (.getfield 15, 3) := by decide +kernel
theorem dX3_fits_12 : decode cX3_fits 12 = .ok (.bipush 10, 2) := by decide +kernel
theorem dX3_fits_14 : decode cX3_fits 14 = .ok (.if_icmp .ge 7, 3) := by decide +kernel
theorem dX3_fits_17 : decode cX3_fits 17 = .ok (.iconst 1, 1) := by decide +kernel
theorem dX3_fits_18 : decode cX3_fits 18 = .ok (.goto 4, 3) := by decide +kernel
theorem dX3_fits_21 : decode cX3_fits 21 = .ok (.iconst 0, 1) := by decide +kernel
theorem dX3_fits_22 : decode cX3_fits 22 = .ok (.istore_n 2, 1) := by decide +kernel
theorem dX3_fits_23 : decode cX3_fits 23 = .ok (.iload_n 2, 1) := by decide +kernel
theorem dX3_fits_24 : decode cX3_fits 24 = .ok (.ifCond .eq 10, 3) := by decide +kernel
theorem dX3_fits_27 : decode cX3_fits 27 = .ok (.iload_n 1, 1) := by decide +kernel
theorem dX3_fits_28 : decode cX3_fits 28 = .ok (.invokestatic 19, 3) := by decide +kernel
theorem dX3_fits_31 : decode cX3_fits 31 = .ok (.goto 7, 3) := by decide +kernel
theorem dX3_fits_34 : decode cX3_fits 34 = .ok (.iload_n 1, 1) := by decide +kernel
theorem dX3_fits_35 : decode cX3_fits 35 = .ok (.invokestatic 23, 3) := by decide +kernel
theorem dX3_fits_38 : decode cX3_fits 38 = .ok (.ireturn, 1) := by decide +kernel
theorem dX3_worth_0 : decode cX3_worth 0 = .ok (.iload_n 0, 1) := by decide +kernel
theorem dX3_worth_1 : decode cX3_worth 1 = .ok (.invokestatic 23, 3) := by decide +kernel
theorem dX3_worth_4 : decode cX3_worth 4 = .ok (.ifCond .eq 12, 3) := by decide +kernel
theorem dX3_worth_7 : decode cX3_worth 7 = .ok (.iload_n 0, 1) := by decide +kernel
theorem dX3_worth_8 : decode cX3_worth 8 = .ok (.bipush 65, 2) := by decide +kernel
theorem dX3_worth_10 : decode cX3_worth 10 = .ok (.isub, 1) := by decide +kernel
theorem dX3_worth_11 : decode cX3_worth 11 = .ok (.iconst 1, 1) := by decide +kernel
theorem dX3_worth_12 : decode cX3_worth 12 = .ok (.iadd, 1) := by decide +kernel
theorem dX3_worth_13 : decode cX3_worth 13 = .ok (.goto 7, 3) := by decide +kernel
theorem dX3_worth_16 : decode cX3_worth 16 = .ok (.iload_n 0, 1) := by decide +kernel
theorem dX3_worth_17 : decode cX3_worth 17 = .ok (.bipush 48, 2) := by decide +kernel
theorem dX3_worth_19 : decode cX3_worth 19 = .ok (.isub, 1) := by decide +kernel
theorem dX3_worth_20 : decode cX3_worth 20 = .ok (.ireturn, 1) := by decide +kernel
theorem dX4_has_0 : decode cX4_has 0 = .ok (.iload_n 1, 1) := by decide +kernel
theorem dX4_has_1 : decode cX4_has 1 = .ok (.ifCond .lt 15, 3) := by decide +kernel
theorem dX4_has_4 : decode cX4_has 4 = .ok (.iload_n 1, 1) := by decide +kernel
theorem dX4_has_5 : decode cX4_has 5 = .ok (.aload_n 0, 1) := by decide +kernel
theorem dX4_has_6 : decode cX4_has 6 = .ok (.getfield 15, 3) := by decide +kernel
theorem dX4_has_9 : decode cX4_has 9 = .ok (.if_icmp .ge 7, 3) := by decide +kernel
theorem dX4_has_12 : decode cX4_has 12 = .ok (.iconst 1, 1) := by decide +kernel
theorem dX4_has_13 : decode cX4_has 13 = .ok (.goto 4, 3) := by decide +kernel
theorem dX4_has_16 : decode cX4_has 16 = .ok (.iconst 0, 1) := by decide +kernel
theorem dX4_has_17 : decode cX4_has 17 = .ok (.ireturn, 1) := by decide +kernel
theorem dX4_hasRoom_0 : decode cX4_hasRoom 0 = .ok (.aload_n 0, 1) := by decide +kernel
theorem dX4_hasRoom_1 : decode cX4_hasRoom 1 = .ok (.getfield 9, 3) := by decide +kernel
theorem dX4_hasRoom_4 : decode cX4_hasRoom 4 = .ok (.iload_n 1, 1) := by decide +kernel
theorem dX4_hasRoom_5 : decode cX4_hasRoom 5 = .ok (.iaload, 1) := by decide +kernel
theorem dX4_hasRoom_6 : decode cX4_hasRoom 6 = .ok (.aload_n 0, 1) := by decide +kernel
theorem dX4_hasRoom_7 : decode cX4_hasRoom 7 = .ok (.getfield 19, 3) := by decide +kernel
theorem dX4_hasRoom_10 : decode cX4_hasRoom 10 = .ok (.if_icmp .ge 7, 3) := by decide +kernel
theorem dX4_hasRoom_13 : decode cX4_hasRoom 13 = .ok (.iconst 1, 1) := by decide +kernel
theorem dX4_hasRoom_14 : decode cX4_hasRoom 14 = .ok (.goto 4, 3) := by decide +kernel
theorem dX4_hasRoom_17 : decode cX4_hasRoom 17 = .ok (.iconst 0, 1) := by decide +kernel
theorem dX4_hasRoom_18 : decode cX4_hasRoom 18 = .ok (.ireturn, 1) := by decide +kernel
theorem dX4_nextWithRoom_0 : decode cX4_nextWithRoom 0 = .ok (.iload_n 1, 1) := by decide +kernel
theorem dX4_nextWithRoom_1 : decode cX4_nextWithRoom 1 = .ok (.iconst 1, 1) := by decide +kernel
theorem dX4_nextWithRoom_2 : decode cX4_nextWithRoom 2 = .ok (.iadd, 1) := by decide +kernel
theorem dX4_nextWithRoom_3 : decode cX4_nextWithRoom 3 = .ok (.istore_n 2, 1) := by decide +kernel
theorem dX4_nextWithRoom_4 : decode cX4_nextWithRoom 4 = .ok (.iload_n 2, 1) := by decide +kernel
theorem dX4_nextWithRoom_5 : decode cX4_nextWithRoom 5 = .ok (.aload_n 0, 1) := by decide +kernel
theorem dX4_nextWithRoom_6 : decode cX4_nextWithRoom 6 = .ok (.getfield 15, 3) := by decide +kernel
theorem dX4_nextWithRoom_9 : decode cX4_nextWithRoom 9 = .ok (.if_icmp .ge 19, 3) := by decide +kernel
theorem dX4_nextWithRoom_12 : decode cX4_nextWithRoom 12 = .ok (.aload_n 0, 1) := by decide +kernel
theorem dX4_nextWithRoom_13 : decode cX4_nextWithRoom 13 = .ok (.iload_n 2, 1) := by decide +kernel
theorem dX4_nextWithRoom_14 : decode cX4_nextWithRoom 14 = .ok (.invokevirtual 22, 3) := by decide +kernel
theorem dX4_nextWithRoom_17 : decode cX4_nextWithRoom 17 = .ok (.ifCond .eq 5, 3) := by decide +kernel
theorem dX4_nextWithRoom_20 : decode cX4_nextWithRoom 20 = .ok (.iload_n 2, 1) := by decide +kernel
theorem dX4_nextWithRoom_21 : decode cX4_nextWithRoom 21 = .ok (.ireturn, 1) := by decide +kernel
theorem dX4_nextWithRoom_22 : decode cX4_nextWithRoom 22 = .ok (.iinc 2 1, 3) := by decide +kernel
theorem dX4_nextWithRoom_25 : decode cX4_nextWithRoom 25 = .ok (.goto (-21), 3) := by decide +kernel
theorem dX4_nextWithRoom_28 : decode cX4_nextWithRoom 28 = .ok (.aload_n 0, 1) := by decide +kernel
theorem dX4_nextWithRoom_29 : decode cX4_nextWithRoom 29 = .ok (.getfield 15, 3) := by decide +kernel
theorem dX4_nextWithRoom_32 : decode cX4_nextWithRoom 32 = .ok (.ireturn, 1) := by decide +kernel
theorem dX5_judge_0 : decode cX5_judge 0 = .ok (.aload_n 0, 1) := by decide +kernel
theorem dX5_judge_1 : decode cX5_judge 1 = .ok (.getfield 9, 3) := by decide +kernel
theorem dX5_judge_4 : decode cX5_judge 4 = .ok (.iload_n 1, 1) := by decide +kernel
theorem dX5_judge_5 : decode cX5_judge 5 = .ok (.iconst 2, 1) := by decide +kernel
theorem dX5_judge_6 : decode cX5_judge 6 = .ok (.imul, 1) := by decide +kernel
theorem dX5_judge_7 : decode cX5_judge 7 = .ok (.iload_n 2, 1) := by decide +kernel
theorem dX5_judge_8 : decode cX5_judge 8 = .ok (.iadd, 1) := by decide +kernel
theorem dX5_judge_9 : decode cX5_judge 9 = .ok (.iconst 4, 1) := by decide +kernel
theorem dX5_judge_10 : decode cX5_judge 10 = .ok (.isub, 1) := by decide +kernel
theorem dX5_judge_11 : decode cX5_judge 11 = .ok (.iload_n 3, 1) := by decide +kernel
theorem dX5_judge_12 : decode cX5_judge 12 = .ok (.iastore, 1) := by decide +kernel
theorem dX5_judge_13 : decode cX5_judge 13 = .ok (.return_, 1) := by decide +kernel
theorem dX5_verdictOf_0 : decode cX5_verdictOf 0 = .ok (.aload_n 0, 1) := by decide +kernel
theorem dX5_verdictOf_1 : decode cX5_verdictOf 1 = .ok (.getfield 9, 3) := by decide +kernel
theorem dX5_verdictOf_4 : decode cX5_verdictOf 4 = .ok (.iload_n 1, 1) := by decide +kernel
theorem dX5_verdictOf_5 : decode cX5_verdictOf 5 = .ok (.iconst 2, 1) := by decide +kernel
theorem dX5_verdictOf_6 : decode cX5_verdictOf 6 = .ok (.imul, 1) := by decide +kernel
theorem dX5_verdictOf_7 : decode cX5_verdictOf 7 = .ok (.iload_n 2, 1) := by decide +kernel
theorem dX5_verdictOf_8 : decode cX5_verdictOf 8 = .ok (.iadd, 1) := by decide +kernel
theorem dX5_verdictOf_9 : decode cX5_verdictOf 9 = .ok (.iconst 4, 1) := by decide +kernel
theorem dX5_verdictOf_10 : decode cX5_verdictOf 10 = .ok (.isub, 1) := by decide +kernel
theorem dX5_verdictOf_11 : decode cX5_verdictOf 11 = .ok (.iaload, 1) := by decide +kernel
theorem dX5_verdictOf_12 : decode cX5_verdictOf 12 = .ok (.ireturn, 1) := by decide +kernel
end
section
/-! what throws: a new object of the class E, and nothing else has changed -/
def tQ (E : String) (mc ms : Nat) (st : State) (o : Outcome) (t : State) : Prop := ∃ (x : Addr) (ce : Cell), o = .threw x ∧ st.heap.size ≤ x ∧ t.heap[x]? = some ce ∧ ce.vm.isStatics = false ∧ st.vm.findClass E = some ce.cls ∧ st.WarmedH t.vm ∧ st.sameButNew ({ t with vm := st.vm } : State) [] mc ms
def MetT (l : Launch) (y : MethodName) (wsm : List Cond) (rm : Room) (Pc : Array Value → State → Prop) (E : String) (mc ms : Nat) : Prop := MetFree l y (headSpec wsm rm) Pc (fun _ _ _ _ _ => True) (fun _ st o t => tQ E mc ms st o t)
def MQT (below : List Frame) (E : String) (s : State) (mc ms : Nat) : State → Prop := fun t => ∃ o, t.status = .running ∧ Ended t below o ∧ tQ E mc ms s o t
theorem mt_ofW {l : Launch} {y : MethodName} {wsm wsm' : List Cond} {rm : Room} {Pc : Array Value → State → Prop} {E : String} {mc ms : Nat} {cc : ByteArray} {maxL : Nat} {ret : Option FieldType}
    (hy : plainName y.cls = true) (hw : wsm = Cond.code y cc maxL ret :: wsm')
    (body : ∀ p e s m args below meth c s₁, BodyLoose p l y (headSpec wsm rm) cc maxL ret e s m args below meth c s₁ → c.maxLocals = maxL → Pc args s →
      W p l e (headSpec wsm rm).room s m args below meth c s.heap [] 0 0 (MQT below E s mc ms) (entryFrame m args maxL)) : MetT l y wsm rm Pc E mc ms := by
  refine MetFree.of_bodyS (code := cc) (maxLocals := maxL) (ret := ret) hy ?_ ?_
  · intro args s m h hn
    obtain ⟨meth, c, h1, h2, h3, h4, h5, h6, -, -⟩ := Cond.code_spec hn (atoms_spec (ws := wsm) h _ (by rw [hw]; exact List.mem_cons_self))
    exact ⟨meth, c, h1, h2, h3, h4, h5, h6⟩
  · intro p e s m args below meth c s₁ B hml hP _
    have hh0 : s₁.heap = s.heap := by rw [B.state]; rfl
    obtain ⟨t, a1, o, b1, b2, b3⟩ := body p e s m args below meth c s₁ B hml hP s₁ hh0 (Stand.of_body B)
    exact ⟨t, o, a1, b1, b2, b3⟩
section TK
variable {p : Program} {l : Launch} {e : Env} {R : Room} {s : State} {m : MethodId} {args : Array Value} {below : List Frame} {meth : Method} {c : Code} {T : State} {H : Heap} {locs : List Loc} {cells slots : Nat} {Q : State → Prop} {pc : Nat} {ls : Array Slot} {rest : List Value} {cc : ByteArray}
/-- a callee that throws, behind the invoking instruction -/
theorem mt_call (X : Stand p l e R s m args below meth c T locs cells slots) {y : MethodName} {wsm : List Cond} {rm : Room} {Pc : Array Value → State → Prop} {E : String} {mc ms : Nat} {bytes : ByteArray} {maxL : Nat} {ret : Option FieldType} {g : JFrame} {ig : Instr} {len : Nat} {mk : MethodId} {a : Array Value}
    (hM : MetT l y wsm rm Pc E mc ms) (hg : g.method = m) (hsize : g.locals.size = c.maxLocals) (hdg : decode c.code g.pc = .ok (ig, len)) (hW : 2 * g.monitorRoom + (g.stack.map fun v => v.category).sum ≤ 8) (hn : T.methodNamed? y = some mk)
    (hws : ∀ w ∈ wsm, w.before a T = true) (hcode : Cond.code y bytes maxL ret ∈ wsm) (hini : (Cond.initialized y.cls).before a T = true)
    (hfr : rm.frames + 1 ≤ R.frames) (hlo : 8 + (maxL + 11) + rm.locals ≤ R.locals) (hc : cells + rm.cells ≤ R.cells) (hs : slots + rm.slots ≤ R.slots) (hP : Pc a (T.calling g mk a)) :
    ∃ (x : Addr) (ce : Cell) (T' : State), Stand p l e R s m args below meth c T' locs (cells + mc) (slots + ms) ∧ T.heap.size ≤ x ∧ T'.heap[x]? = some ce ∧ ce.vm.isStatics = false ∧ T.vm.findClass E = some ce.cls ∧ T.sameButNew (T'.setVm T.vm) [] mc ms ∧ Steps p.tables e below (doInvoke e (T.setTop g) [] mk a).1 ((T'.setTop g).pushFrame (.throwing x)) := by
  obtain ⟨methY, cY, hmY, hcY, -, hlY, -, -, -, -⟩ := Cond.code_spec hn (hws _ hcode)
  obtain ⟨kY, hkY, -⟩ := className_of_methodNamed hn
  have hinitY : kY.init = .initialized := Cond.initialized_spec (findClass_of_methodNamed hn) hkY hini
  have h : At T g.method c below := by rw [hg]; exact X.here
  have happ : (headSpec wsm rm).appliesLoose y e.platform (T.calling g mk a) = true :=
    Spec.appliesLoose_calling (g := g) h hdg hn hkY hinitY (X.room_calling (g := g) (R' := rm) hsize hmY hcY hfr (by rw [hlY]; omega) hc hs) (atoms_intro hws)
  obtain ⟨mid, hmid⟩ := h.above
  have hfr' : (T.setTop g).frames = (.java g :: mid) ++ below := by rw [State.frames_setTop' g h.top, hmid]; rfl
  obtain ⟨o, s₂, hsteps, -, hend, hq⟩ := Steps.callFree hM p X.admits X.cas X.clock (acts := []) hfr' happ hP trivial
  rw [State.frames_setTop' g h.top, X.tail] at hend
  obtain ⟨x, ce, rfl, hx1, hx2, hx3, hx4, hW2, hsame⟩ := hq
  obtain ⟨T', X', hW', hsame', ht⟩ := X.outOfThrown hg hend hW2 hsame
  rw [List.append_nil] at X'
  subst ht
  rw [Stand.throwing_heap] at hx2
  exact ⟨x, ce, T', X', hx1, hx2, hx3, hx4, hsame', hsteps⟩
/-- a call that throws -/
def va_RunT (p : Program) (l : Launch) (e : Env) (R : Room) (s : State) (m : MethodId) (args : Array Value) (below : List Frame) (meth : Method) (c : Code) (H : Heap) (locs : List Loc) (cells slots mc ms : Nat) (g : JFrame) (rest : List Value) (E : String) : Prop :=
  ∀ T : State, T.heap = H → Stand p l e R s m args below meth c T locs cells slots → ∃ (x : Addr) (ce : Cell) (T' : State), Stand p l e R s m args below meth c T' locs (cells + mc) (slots + ms) ∧ H.size ≤ x ∧ T'.heap[x]? = some ce ∧ ce.vm.isStatics = false ∧ s.vm.findClass E = some ce.cls ∧ H.size ≤ T'.heap.size ∧ (∀ q, q < H.size → T'.heap[q]? = H[q]?) ∧ Steps p.tables e below (T.setTop g) ((T'.setTop { g with stack := rest }).pushFrame (.throwing x))
theorem mt_same {T T' : State} {mc ms : Nat} (h : T.sameButNew (T'.setVm T.vm) [] mc ms) : T.heap.size ≤ T'.heap.size ∧ ∀ q, q < T.heap.size → T'.heap[q]? = T.heap[q]? := by
  obtain ⟨-, h1, -, -, -, h2⟩ := h
  refine ⟨h1, fun q hq => ?_⟩
  obtain ⟨c', e1, e2, e3, e4⟩ := h2 q T.heap[q] (Array.getElem?_eq_getElem hq)
  have e5 : c'.slots = (T.heap[q]).slots := by
    apply Array.ext_getElem?
    intro i
    exact e4 i (fun h => by cases h)
  have e6 : c' = T.heap[q] := by rw [e2, e5]
  rw [Array.getElem?_eq_getElem hq, ← e6]
  exact e1
theorem wt_runV {y : MethodName} {bytes : ByteArray} {maxL nL mc ms n index : Nat} {ret : Option FieldType} {wsm : List Cond} {rm : Room} {Pc : Array Value → State → Prop} {E : String} {Ts : List Cond} {own C : String} {b : Addr} {As : List Value} {g : JFrame}
    (S : CallFix p m c cc nL s args Ts own) (hM : MetT l y wsm rm Pc E mc ms) (cw : CallW R s args own C index y bytes maxL ret wsm rm mc ms n) (hp : PreV s H C b Pc As)
    (hg : g.method = m) (hn : As.length = n) (hsize : g.locals.size = nL) (hstack : g.stack = As.reverse ++ .ref b :: rest) (hW : 2 * g.monitorRoom + (rest.map fun v => v.category).sum ≤ 8) (hdg : decode cc g.pc = .ok (.invokevirtual index, 3)) (hf : cells + mc ≤ R.cells ∧ slots + ms ≤ R.slots) :
    va_RunT p l e R s m args below meth c H locs cells slots mc ms g rest E := by
  obtain ⟨⟨hrc, hrs, hfr, hlo, hws, hcw, hcode, hini, hy, hlen, hl⟩, hin, hse⟩ := cw
  obtain ⟨hx, hb, hml, ho, -⟩ := S
  obtain ⟨hbl, ⟨cellB, hcB, hoB, hclB⟩, hPc⟩ := hp
  intro T hT X
  subst hT
  obtain ⟨mk, methM, hnamed, hmethM, hstM, habM⟩ := Cond.instanceMethod_spec hin
  obtain ⟨methM', cM, hmethM', -, -, -, -, -, -, hsigM⟩ := Cond.code_spec hnamed hcode
  cases hmethM.symm.trans hmethM'
  obtain ⟨c2, r2, m2, q1, q2, q3, q4, kP, hkP, hkPi⟩ := Cond.selects_spec hse
  cases hclB.symm.trans q1
  cases (State.methodFound?_of_named hnamed hy).symm.trans q2
  cases hnamed.symm.trans q3
  have hselP : selectMethod e.platform s.vm cellB.cls mk = .method mk := by rw [Launch.admits_selectMethod X.admits]; exact q4
  obtain ⟨vm₁, X₁, hstep₁⟩ := X.invokevirtual hx ho hl hnamed hmethM hstM hkP hkPi hy (a := b) (cell := cellB) hcB
    (fun z h => by rw [h] at hoB; cases hoB) hselP hmethM habM hkP hkPi (g := g) hg (argsL := As) (rest := rest) (hn.trans (hlen _ hsigM)) hstack (by rw [hb]; exact hdg)
  obtain ⟨x, ce, T', X', h1, h2, h3, h4, h5, hst⟩ := mt_call X₁ (bytes := bytes) (maxL := maxL) (ret := ret) (g := { g with stack := rest }) (ig := .invokevirtual index) (len := 3) (mk := mk) (a := (Value.ref b :: As).toArray) hM hg (hsize.trans hml.symm) (by rw [hb]; exact hdg) hW (X₁.named hnamed)
    (fun w h => hws w h _ _ X₁.warmed) hcw (word_at X₁.warmed (Or.inl (by first | rfl | simp [Cond.onTables, Cond.keeps, Cond.steady])) hini) hfr hlo (by rw [hrc]; exact hf.1) (by rw [hrs]; exact hf.2) (hbl _ _ _ _ (hPc (T.setVm vm₁) rfl X₁.warmed))
  obtain ⟨k1, k2⟩ := mt_same h5
  refine ⟨x, ce, T', X', h1, h2, h3, ?_, k1, k2, hstep₁ _ fun acts => ?_⟩
  · rw [← X₁.warmed.alike.findClass]; exact h4
  · rw [doInvoke_state]; exact hst
theorem mt_noh (h : c.exceptionTable.isEmpty = true) (pc : Nat) : ∀ y ∈ c.exceptionTable.toList, covers y pc = false := by
  have h0 : c.exceptionTable.size = 0 := by simpa [Array.isEmpty] using h
  have h1 : c.exceptionTable.toList = [] := List.eq_nil_of_length_eq_zero (by simpa using h0)
  intro y hy
  rw [h1] at hy
  cases hy
/-- the caller lets it through -/
theorem wt_leave {mc ms : Nat} {st0 : List Value} {E : String} (hr : va_RunT p l e R s m args below meth c s.heap [] 0 0 mc ms (F0 m pc ls st0) rest E) (hnoh : c.exceptionTable.isEmpty = true) (hlocks : meth.locks = false) : W p l e R s m args below meth c s.heap [] 0 0 (MQT below E s mc ms) (F0 m pc ls st0) := by
  intro T hT X
  obtain ⟨x, ce, T', X', h1, h2, h3, h4, h5, h6, st⟩ := hr T hT X
  obtain ⟨l1, l2, l3, l4, l5⟩ := X'.leaveThrown x (g := F0 m pc ls rest) rfl rfl rfl (mt_noh hnoh pc) hlocks
  rw [Nat.zero_add, Nat.zero_add] at l5
  exact ⟨_, st.trans l1, .threw x, l2, l3, x, ce, rfl, h1, h2, h3, h4, l4, l5⟩
/-- behind 'new', 'dup' and the text: the constructor and 'athrow' -/
theorem wt_core {own E : String} {ic q : Nat} {names : List String} (hx : p.tables.exec = Jvm.exec) (hb : c.code = cc) (hown : s.vm.findClass own = some m.cls) (htr : e.platform.stackTraces = false) (hlocks : meth.locks = false) (hnoh : c.exceptionTable.isEmpty = true) (hml : ls.size = c.maxLocals) (hE : Bundle.fit E = true) (hnm : ∀ n ∈ names, Bundle.fit n = true)
    (hat : ∀ a ∈ Bundle.ownAtoms own ic E names, a.before args s = true) {cC : ClassId} {kC : Class} (hfc : s.vm.findClass E = some cC) (hkC : s.vm.classes[cC]? = some kC)
    (hd6 : decode cc pc = .ok (.invokespecial ic, 3)) (hd9 : decode cc (pc + 3) = .ok (.athrow, 1))
    (hfr : names.length + 3 < R.frames) (hlo : (rest.map fun v => v.category).sum + (13 * (names.length + 1) + 43) ≤ R.locals) : W p l e R s m args below meth c (s.heap.push { cls := cC, slots := kC.instanceTypes.map defaultValue, vm := .none }) [] (0 + 1) (0 + 6) (MQT below E s 1 6) (F0 m pc ls (.ref q :: .ref s.heap.size :: .ref s.heap.size :: rest)) := by
  intro T hT X₁
  subst hb
  obtain ⟨U, st, hrun, hend, hW, hsame, ce, hce', hown'⟩ := X₁.ctorThrowS hx htr hown hE hnm hat (fun x h => by cases h) (a := s.heap.size) hfc hkC (by rw [hT]; simp [freshCell]) (Nat.le_refl _) (msg := .ref q) rfl (g := F0 m pc ls (.ref q :: .ref s.heap.size :: .ref s.heap.size :: rest)) rfl hml rfl rfl rfl hd6 hd9 (mt_noh hnoh _) hfr (by simp [Value.category]; simp [Value.category] at hlo; omega) hlocks
  exact ⟨U, st, .threw s.heap.size, hrun, hend, s.heap.size, ce, rfl, Nat.le_refl _, hce', by rw [hown'.vm]; rfl, hown'.cls, hW, hsame⟩
/-- 'ldc_w' of a text -/
theorem wt_ldcw {own tx : String} {index q : Nat} (hx : p.tables.exec = Jvm.exec) (hb : c.code = cc) (hown : s.vm.findClass own = some m.cls) (hZ : vk_R own index tx q s) (hd : decode cc pc = .ok (.ldc_w index, 3))
    (kk : W p l e R s m args below meth c H locs cells slots Q (F0 m (pc + 3) ls (.ref q :: rest))) : W p l e R s m args below meth c H locs cells slots Q (F0 m pc ls rest) := by
  intro T hT X
  obtain ⟨t, a1, b1⟩ := kk T hT X
  refine ⟨t, ?_, b1⟩
  obtain ⟨k, cf, i, a', hk, hcf, hcp, -, hr, hev'⟩ := Cond.stringRef_spec hown hZ.1
  cases hZ.2.symm.trans hev'
  obtain ⟨k', hk', he⟩ := X.warmed.alike.2.2 _ _ hk
  have hr' : k'.resolved[index]? = some (some (.string q)) := by
    rcases X.warmed.entry hk hk' index with h | ⟨h, -⟩
    · rw [h]; exact hr
    · rw [hr] at h; cases h
  subst hb
  jvm_step X.here [hx, hd, ldc_w.wp_string (e := e) (s := T) (f := F0 m pc ls rest) X.here.top hk' (by rw [he]; exact hcf) hcp hr']
  exact a1
/-- 'throw new E("..")' -/
theorem wt_new {own E tx : String} {ia ib ic : Nat} {names : List String} (hx : p.tables.exec = Jvm.exec) (hb : c.code = cc) (hown : s.vm.findClass own = some m.cls) (htr : e.platform.stackTraces = false) (hlocks : meth.locks = false) (hnoh : c.exceptionTable.isEmpty = true) (hml : ls.size = c.maxLocals) (hE : Bundle.fit E = true) (hnm : ∀ n ∈ names, Bundle.fit n = true)
    (hat : ∀ a ∈ Bundle.ownAtoms own ic E names, a.before args s = true) (hcl : (Cond.classLink own ia E).before args s = true) (hini : (Cond.initialized E).before args s = true) {q : Nat} (hZ : vk_R own ib tx q s)
    (hd0 : decode cc pc = .ok (.new ia, 3)) (hd3 : decode cc (pc + 3) = .ok (.dup, 1)) (hd4 : decode cc (pc + 4) = .ok (.ldc ib, 2)) (hd6 : decode cc (pc + 6) = .ok (.invokespecial ic, 3)) (hd9 : decode cc (pc + 9) = .ok (.athrow, 1))
    (hfr : names.length + 3 < R.frames) (hlo : (rest.map fun v => v.category).sum + (13 * (names.length + 1) + 43) ≤ R.locals) (hce : 0 + 1 ≤ R.cells) (hsl : 0 + 6 ≤ R.slots) : W p l e R s m args below meth c s.heap [] 0 0 (MQT below E s 1 6) (F0 m pc ls rest) := by
  refine W.newc hx hb hown hcl (hat (.instantiable E 6) (by simp [Bundle.ownAtoms])) hini rfl hd0 hce hsl ?_
  intro cC kC hfc hkC hkind hsz
  refine lv_dup (pc := pc + 3) hx hb hd3 rfl ?_
  refine va_ldcS (pc := pc + 4) hx hb hown hZ hd4 ?_
  exact wt_core (pc := pc + 6) (q := q) (rest := rest) hx hb hown htr hlocks hnoh hml hE hnm hat hfc hkC hd6 hd9 hfr hlo
theorem wt_newW {own E tx : String} {ia ib ic : Nat} {names : List String} (hx : p.tables.exec = Jvm.exec) (hb : c.code = cc) (hown : s.vm.findClass own = some m.cls) (htr : e.platform.stackTraces = false) (hlocks : meth.locks = false) (hnoh : c.exceptionTable.isEmpty = true) (hml : ls.size = c.maxLocals) (hE : Bundle.fit E = true) (hnm : ∀ n ∈ names, Bundle.fit n = true)
    (hat : ∀ a ∈ Bundle.ownAtoms own ic E names, a.before args s = true) (hcl : (Cond.classLink own ia E).before args s = true) (hini : (Cond.initialized E).before args s = true) {q : Nat} (hZ : vk_R own ib tx q s)
    (hd0 : decode cc pc = .ok (.new ia, 3)) (hd3 : decode cc (pc + 3) = .ok (.dup, 1)) (hd4 : decode cc (pc + 4) = .ok (.ldc_w ib, 3)) (hd6 : decode cc (pc + 7) = .ok (.invokespecial ic, 3)) (hd9 : decode cc (pc + 10) = .ok (.athrow, 1))
    (hfr : names.length + 3 < R.frames) (hlo : (rest.map fun v => v.category).sum + (13 * (names.length + 1) + 43) ≤ R.locals) (hce : 0 + 1 ≤ R.cells) (hsl : 0 + 6 ≤ R.slots) : W p l e R s m args below meth c s.heap [] 0 0 (MQT below E s 1 6) (F0 m pc ls rest) := by
  refine W.newc hx hb hown hcl (hat (.instantiable E 6) (by simp [Bundle.ownAtoms])) hini rfl hd0 hce hsl ?_
  intro cC kC hfc hkC hkind hsz
  refine lv_dup (pc := pc + 3) hx hb hd3 rfl ?_
  refine wt_ldcw (pc := pc + 4) hx hb hown hZ hd4 ?_
  exact wt_core (pc := pc + 7) (q := q) (rest := rest) hx hb hown htr hlocks hnoh hml hE hnm hat hfc hkC hd6 hd9 hfr hlo
end TK
/-! Throwable's statics, of which a constructor reads two -/
def zL : List Cond := [.laysStatic "java/lang/Throwable" "UNASSIGNED_STACK" "[Ljava/lang/StackTraceElement;", .laysStatic "java/lang/Throwable" "SUPPRESSED_SENTINEL" "Ljava/util/List;", .isRef (.static "java/lang/Throwable" "UNASSIGNED_STACK" "[Ljava/lang/StackTraceElement;"), .isRef (.static "java/lang/Throwable" "SUPPRESSED_SENTINEL" "Ljava/util/List;")]
def zT (U : State) : Prop := ∀ w ∈ zL, w.before #[] U = true
theorem zt_args {A : Array Value} {U : State} (h : zT U) : ∀ w ∈ zL, w.before A U = true := by
  intro w hw
  have h1 := h w hw
  simp only [zL, List.mem_cons, List.not_mem_nil, or_false] at hw
  rcases hw with rfl | rfl | rfl | rfl <;> exact h1
theorem zt_same {u U : State} (hv : u.vm = U.vm) (hh : u.heap = U.heap) (h : zT u) : zT U := by
  intro w hw
  have h1 := h w hw
  simp only [zL, List.mem_cons, List.not_mem_nil, or_false] at hw
  rcases hw with rfl | rfl | rfl | rfl <;> (simp only [Cond.before, Cond.holds, Cond.value, Term.eval, State.fieldNamed?, State.fieldFound?, hv, hh] at h1 ⊢; exact h1)
theorem zt_warm {s U : State} (hW : s.WarmedH U.vm) (hh : U.heap = s.heap) (h : zT s) : zT U := by
  refine zt_same (u := s.setVm U.vm) rfl hh.symm ?_
  intro w hw
  have h1 := h w hw
  simp only [zL, List.mem_cons, List.not_mem_nil, or_false] at hw
  rcases hw with rfl | rfl | rfl | rfl <;> exact Cond.holds_shifted (State.Shifted.of_warmed hW) _ [] rfl h1
abbrev exN : List String := ["java/lang/RuntimeException", "java/lang/Exception"]
def xE (E : String) : List Cond := [.castable E E, .declares ⟨"java/lang/RuntimeException", "<init>", "(Ljava/lang/String;)V"⟩, .declares ⟨"java/lang/Exception", "<init>", "(Ljava/lang/String;)V"⟩, .declares ⟨"java/lang/Throwable", "<init>", "(Ljava/lang/String;)V"⟩]
theorem ex_in {args : Array Value} {s : State} {E : String} {ic : Nat} (hts : ∀ w ∈ tbG, w.before args s = true) (hz : zT s) (hx : va_Nw (.castable E E) s) (hxT : xT s) (hd : ∀ a ∈ Bundle.ownAtoms "GateSteps" ic E exN, a ∈ tbG ∨ a ∈ zL ∨ a ∈ xE E) : ∀ a ∈ Bundle.ownAtoms "GateSteps" ic E exN, a.before args s = true := by
  intro a h
  rcases hd a h with h | h | h
  · exact hts a h
  · exact zt_args hz a h
  · simp only [xE, List.mem_cons, List.not_mem_nil, or_false] at h
    rcases h with rfl | rfl | rfl | rfl
    · exact va_Nw.use rfl hx
    · exact va_Nw.use rfl (xt_d_r hxT)
    · exact va_Nw.use rfl (xt_d_e hxT)
    · exact va_Nw.use rfl (xt_d_t hxT)
set_option maxRecDepth 100000 in
theorem ex_d0 : ∀ a ∈ Bundle.ownAtoms "GateSteps" 72 "java/lang/IllegalArgumentException" exN, a ∈ tbG ∨ a ∈ zL ∨ a ∈ xE "java/lang/IllegalArgumentException" := by decide +kernel
theorem ex_a {args : Array Value} {s : State} (hts : ∀ w ∈ tbG, w.before args s = true) (hz : zT s) (hx : xT s) : ∀ a ∈ Bundle.ownAtoms "GateSteps" 72 "java/lang/IllegalArgumentException" exN, a.before args s = true := ex_in hts hz (xt_c_a hx) hx ex_d0
set_option maxRecDepth 100000 in
theorem ex_d1 : ∀ a ∈ Bundle.ownAtoms "GateSteps" 82 "java/lang/IllegalStateException" exN, a ∈ tbG ∨ a ∈ zL ∨ a ∈ xE "java/lang/IllegalStateException" := by decide +kernel
theorem ex_s {args : Array Value} {s : State} (hts : ∀ w ∈ tbG, w.before args s = true) (hz : zT s) (hx : xT s) : ∀ a ∈ Bundle.ownAtoms "GateSteps" 82 "java/lang/IllegalStateException" exN, a.before args s = true := ex_in hts hz (xt_c_s hx) hx ex_d1
set_option maxRecDepth 100000 in
theorem ex_d2 : ∀ a ∈ Bundle.ownAtoms "GateSteps" 197 "java/lang/IndexOutOfBoundsException" exN, a ∈ tbG ∨ a ∈ zL ∨ a ∈ xE "java/lang/IndexOutOfBoundsException" := by decide +kernel
theorem ex_i {args : Array Value} {s : State} (hts : ∀ w ∈ tbG, w.before args s = true) (hz : zT s) (hx : xT s) : ∀ a ∈ Bundle.ownAtoms "GateSteps" 197 "java/lang/IndexOutOfBoundsException" exN, a.before args s = true := ex_in hts hz (xt_c_i hx) hx ex_d2
/-- a throwing contract -/
def cPreT (D : va_G) (cl : List vw_C) (TY : List (ClassId × FieldType)) (WS : va_W) (sz : Nat) (av : List Value) : Array Value → State → Prop := fun v U => cPre D cl TY WS sz av v U ∧ zT U
abbrev CtT (l : Launch) (y : MethodName) (wsm : List Cond) (rm : Room) (D : va_G) (cl : List vw_C) (TY : List (ClassId × FieldType)) (WS : va_W) (av : List Value) (E : String) (sz : Nat) : Prop := MetT l y wsm rm (cPreT D cl TY WS sz av) E 1 6
theorem ck_preT {s : State} {D : va_G} {cl : List vw_C} {TY : List (ClassId × FieldType)} {ws WC : va_W} {A : Nat → Prop} {b : Nat} {As : List Value} (hzT : zT s) (hxT : xT s) (hK : va_K D cl TY s) (hP : va_P D cl ws s.heap) (hD : va_D A ws) (isC : List Nat) (hC : isC.map (fun i => ws[i]?) = WC.map some) (hnd : va_nd isC = true) {C : String} {ci q0 : Nat} {q : vw_C} {fs : List Value} (hc : cl[ci]? = some q) (hq : q.1 = C) (he : WC[q0]? = some (b, .inr (ci, fs))) : PreV s s.heap C b (cPreT D cl TY WC s.heap.size (.ref b :: As)) As := by
  obtain ⟨h1, h2, h3⟩ := ck_preV (As := As) hxT hK hP hD isC hC hnd hc hq he
  exact ⟨fun a U g mk h => ⟨h1 a U g mk h.1, zt_same (u := U) rfl rfl h.2⟩, h2, fun U hU hW => ⟨h3 U hU hW, zt_warm hW hU hzT⟩⟩
theorem ct_start {l : Launch} {y : MethodName} {wsm wsm' : List Cond} {rm : Room} {D : va_G} {cl : List vw_C} {TY : List (ClassId × FieldType)} {WS : va_W} {av : List Value} {sz : Nat} {E : String} {cc : ByteArray} {maxL : Nat} {ret : Option FieldType} {LV : List (Nat × Value)}
    (hy : plainName y.cls = true) (hw : wsm = Cond.code y cc maxL ret :: wsm') (hLV : lv_args 0 av = LV) (hlen : (lg_sl av).length ≤ maxL)
    (body : ∀ (p : Program) (e : Env) (s : State) (m : MethodId) (below : List Frame) (meth : Method) (c : Code), l.admits e → p.tables.exec = Jvm.exec → c.code = cc → meth.sig.returnType = ret → c.maxLocals = maxL → (∀ w ∈ wsm, w.before av.toArray s = true) → s.vm.findClass y.cls = some m.cls → meth.locks = false → meth.name = y.name → c.exceptionTable.isEmpty = true →
      xT s → zT s → ∀ (A : Nat → Prop), (∀ q, s.heap.size ≤ q → A q) → va_K D cl TY s → va_P D cl WS s.heap → va_D A WS → va_S A s.heap s.heap [] → ∀ ls : Array Slot, lv_has ls maxL LV → W p l e rm s m av.toArray below meth c s.heap [] 0 0 (MQT below E s 1 6) (F0 m 0 ls [])) :
    CtT l y wsm rm D cl TY WS av E sz := by
  refine mt_ofW (cc := cc) (maxL := maxL) (ret := ret) hy hw ?_
  intro p e s m args below meth c s₁ B hml hv
  obtain ⟨⟨rfl, hxT, hsz, hP, hK, hD0⟩, hzT⟩ := hv
  subst hsz
  have hD := hD0.self (sz := s.heap.size)
  have hA : ∀ q : Nat, s.heap.size ≤ q → va_A WS s.heap.size q := fun q h => Or.inr h
  have hts := atoms_spec (ws := wsm) B.pre
  have hl := lv_entry av (n := maxL) hlen
  rw [lg_entry_eq]
  rw [hLV] at hl
  exact body p e s m below meth c (Stand.of_body B).admits B.exec B.bytes B.returns hml hts (findClass_of_methodNamed B.named) B.notSynchronized (name_of_methodNamed B.named B.method).1 (B.noHandlers (hts _ (by rw [hw]; exact List.mem_cons_self))) hxT hzT _ hA hK hP hD va_S.rf _ hl
end
section
set_option maxHeartbeats 4000000 in
set_option maxRecDepth 100000 in
theorem tX6_isLetter (l : Launch) (D : va_G) (kI : ClassId) (kZ : ClassId) (kL : ClassId) (kJ : ClassId) (ch : Int) (sz : Nat) (hch : -2147483648 ≤ ch ∧ ch ≤ 2147483647) : CtP l yX6_isLetter wsX6_isLetter ({ frames := 0, cells := 0, slots := 0, locals := 0 }) D vwCl (tyL kI kZ kL kJ) [] [.int (iI ch)] (iI (bi (65 ≤ ch ∧ ch ≤ 90))) sz := by
  refine pk_start (cc := cX6_isLetter) (maxL := 1) (ret := (some .boolean)) (LV := [(0, .int (iI ch))]) (by decide) rfl rfl (Nat.le_of_ble_eq_true rfl) ?_
  intro p e s m below meth cd hadm hx hb hr hml hts hown hlocks hname hnoh hxT A hA hK hP hD hS ls hl
  refine lv_iload_n hx hb dX6_isLetter_0 rfl (lv_at hl 0 rfl) ?_
  refine lv_bipush (v := iI 65) hx hb dX6_isLetter_1 (by decide) ?_
  refine wk_icmp_lt (tgt := 16) hx hb dX6_isLetter_3 (by decide) (by omega) (fun c_1 => ?_) (fun c_1 => ?_)
  · skip
    refine lv_iconst (v := iI 0) hx hb dX6_isLetter_16 rfl ?_
    exact pk_bool hx hb hr hlocks (bi_f (by first | assumption | omega | (simp_all; done))) dX6_isLetter_17
  · skip
    refine lv_iload_n hx hb dX6_isLetter_6 rfl (lv_at hl 0 rfl) ?_
    refine lv_bipush (v := iI 90) hx hb dX6_isLetter_7 (by decide) ?_
    refine wk_icmp_gt (tgt := 16) hx hb dX6_isLetter_9 (by decide) (by omega) (fun c_2 => ?_) (fun c_2 => ?_)
    · skip
      refine lv_iconst (v := iI 0) hx hb dX6_isLetter_16 rfl ?_
      exact pk_bool hx hb hr hlocks (bi_f (by first | assumption | omega | (simp_all; done))) dX6_isLetter_17
    · skip
      refine lv_iconst (v := iI 1) hx hb dX6_isLetter_12 rfl ?_
      refine lv_goto (tgt := 17) hx hb dX6_isLetter_13 (by decide) ?_
      exact pk_bool hx hb hr hlocks (bi_t (by first | assumption | omega | (simp_all; done))) dX6_isLetter_17

set_option maxHeartbeats 4000000 in
set_option maxRecDepth 100000 in
theorem tX6_isDigit (l : Launch) (D : va_G) (kI : ClassId) (kZ : ClassId) (kL : ClassId) (kJ : ClassId) (ch : Int) (sz : Nat) (hch : -2147483648 ≤ ch ∧ ch ≤ 2147483647) : CtP l yX6_isDigit wsX6_isDigit ({ frames := 0, cells := 0, slots := 0, locals := 0 }) D vwCl (tyL kI kZ kL kJ) [] [.int (iI ch)] (iI (bi (48 ≤ ch ∧ ch ≤ 57))) sz := by
  refine pk_start (cc := cX6_isDigit) (maxL := 1) (ret := (some .boolean)) (LV := [(0, .int (iI ch))]) (by decide) rfl rfl (Nat.le_of_ble_eq_true rfl) ?_
  intro p e s m below meth cd hadm hx hb hr hml hts hown hlocks hname hnoh hxT A hA hK hP hD hS ls hl
  refine lv_iload_n hx hb dX6_isDigit_0 rfl (lv_at hl 0 rfl) ?_
  refine lv_bipush (v := iI 48) hx hb dX6_isDigit_1 (by decide) ?_
  refine wk_icmp_lt (tgt := 16) hx hb dX6_isDigit_3 (by decide) (by omega) (fun c_1 => ?_) (fun c_1 => ?_)
  · skip
    refine lv_iconst (v := iI 0) hx hb dX6_isDigit_16 rfl ?_
    exact pk_bool hx hb hr hlocks (bi_f (by first | assumption | omega | (simp_all; done))) dX6_isDigit_17
  · skip
    refine lv_iload_n hx hb dX6_isDigit_6 rfl (lv_at hl 0 rfl) ?_
    refine lv_bipush (v := iI 57) hx hb dX6_isDigit_7 (by decide) ?_
    refine wk_icmp_gt (tgt := 16) hx hb dX6_isDigit_9 (by decide) (by omega) (fun c_2 => ?_) (fun c_2 => ?_)
    · skip
      refine lv_iconst (v := iI 0) hx hb dX6_isDigit_16 rfl ?_
      exact pk_bool hx hb hr hlocks (bi_f (by first | assumption | omega | (simp_all; done))) dX6_isDigit_17
    · skip
      refine lv_iconst (v := iI 1) hx hb dX6_isDigit_12 rfl ?_
      refine lv_goto (tgt := 17) hx hb dX6_isDigit_13 (by decide) ?_
      exact pk_bool hx hb hr hlocks (bi_t (by first | assumption | omega | (simp_all; done))) dX6_isDigit_17

set_option maxHeartbeats 4000000 in
set_option maxRecDepth 100000 in
theorem tX6_isLane (l : Launch) (D : va_G) (kI : ClassId) (kZ : ClassId) (kL : ClassId) (kJ : ClassId) (ln : Int) (sz : Nat) (hln : -2147483648 ≤ ln ∧ ln ≤ 2147483647) : CtP l yX6_isLane wsX6_isLane ({ frames := 0, cells := 0, slots := 0, locals := 0 }) D vwCl (tyL kI kZ kL kJ) [] [.int (iI ln)] (iI (bi (0 ≤ ln ∧ ln < 3))) sz := by
  refine pk_start (cc := cX6_isLane) (maxL := 1) (ret := (some .boolean)) (LV := [(0, .int (iI ln))]) (by decide) rfl rfl (Nat.le_of_ble_eq_true rfl) ?_
  intro p e s m below meth cd hadm hx hb hr hml hts hown hlocks hname hnoh hxT A hA hK hP hD hS ls hl
  refine lv_iload_n hx hb dX6_isLane_0 rfl (lv_at hl 0 rfl) ?_
  refine wk_if_lt (tgt := 13) hx hb dX6_isLane_1 (by decide) (by omega) (fun c_1 => ?_) (fun c_1 => ?_)
  · skip
    refine lv_iconst (v := iI 0) hx hb dX6_isLane_13 rfl ?_
    exact pk_bool hx hb hr hlocks (bi_f (by first | assumption | omega | (simp_all; done))) dX6_isLane_14
  · skip
    refine lv_iload_n hx hb dX6_isLane_4 rfl (lv_at hl 0 rfl) ?_
    refine lv_iconst (v := iI 3) hx hb dX6_isLane_5 rfl ?_
    refine wk_icmp_ge (tgt := 13) hx hb dX6_isLane_6 (by decide) (by omega) (fun c_2 => ?_) (fun c_2 => ?_)
    · skip
      refine lv_iconst (v := iI 0) hx hb dX6_isLane_13 rfl ?_
      exact pk_bool hx hb hr hlocks (bi_f (by first | assumption | omega | (simp_all; done))) dX6_isLane_14
    · skip
      refine lv_iconst (v := iI 1) hx hb dX6_isLane_9 rfl ?_
      refine lv_goto (tgt := 14) hx hb dX6_isLane_10 (by decide) ?_
      exact pk_bool hx hb hr hlocks (bi_t (by first | assumption | omega | (simp_all; done))) dX6_isLane_14

set_option maxHeartbeats 4000000 in
set_option maxRecDepth 100000 in
theorem tX6_canBe (l : Launch) (D : va_G) (kI : ClassId) (kZ : ClassId) (kL : ClassId) (kJ : ClassId) (kd : Int) (vd : Int) (sz : Nat) (hkd : -2147483648 ≤ kd ∧ kd ≤ 2147483647) (hvd : -2147483648 ≤ vd ∧ vd ≤ 2147483647) : CtP l yX6_canBe wsX6_canBe ({ frames := 0, cells := 0, slots := 0, locals := 0 }) D vwCl (tyL kI kZ kL kJ) [] [.int (iI kd), .int (iI vd)] (iI (bi ((vd = 2 ∧ (kd = 1 ∨ kd = 2)) ∨ vd = 0 ∨ vd = 1))) sz := by
  refine pk_start (cc := cX6_canBe) (maxL := 2) (ret := (some .boolean)) (LV := [(0, .int (iI kd)), (1, .int (iI vd))]) (by decide) rfl rfl (Nat.le_of_ble_eq_true rfl) ?_
  intro p e s m below meth cd hadm hx hb hr hml hts hown hlocks hname hnoh hxT A hA hK hP hD hS ls hl
  refine lv_iload_n hx hb dX6_canBe_0 rfl (lv_at hl 1 rfl) ?_
  refine lv_iconst (v := iI 2) hx hb dX6_canBe_1 rfl ?_
  refine wk_icmp_ne (tgt := 21) hx hb dX6_canBe_2 (by decide) (by omega) (fun c_1 => ?_) (fun c_1 => ?_)
  · skip
    refine lv_iload_n hx hb dX6_canBe_21 rfl (lv_at hl 1 rfl) ?_
    refine wk_if_eq (tgt := 30) hx hb dX6_canBe_22 (by decide) (by omega) (fun c_2 => ?_) (fun c_2 => ?_)
    · skip
      refine lv_iconst (v := iI 1) hx hb dX6_canBe_30 rfl ?_
      refine lv_goto (tgt := 35) hx hb dX6_canBe_31 (by decide) ?_
      exact pk_bool hx hb hr hlocks (bi_t (by first | assumption | omega | (simp_all; done))) dX6_canBe_35
    · skip
      refine lv_iload_n hx hb dX6_canBe_25 rfl (lv_at hl 1 rfl) ?_
      refine lv_iconst (v := iI 1) hx hb dX6_canBe_26 rfl ?_
      refine wk_icmp_ne (tgt := 34) hx hb dX6_canBe_27 (by decide) (by omega) (fun c_3 => ?_) (fun c_3 => ?_)
      · skip
        refine lv_iconst (v := iI 0) hx hb dX6_canBe_34 rfl ?_
        exact pk_bool hx hb hr hlocks (bi_f (by first | assumption | omega | (simp_all; done))) dX6_canBe_35
      · skip
        refine lv_iconst (v := iI 1) hx hb dX6_canBe_30 rfl ?_
        refine lv_goto (tgt := 35) hx hb dX6_canBe_31 (by decide) ?_
        exact pk_bool hx hb hr hlocks (bi_t (by first | assumption | omega | (simp_all; done))) dX6_canBe_35
  · skip
    refine lv_iload_n hx hb dX6_canBe_5 rfl (lv_at hl 0 rfl) ?_
    refine lv_iconst (v := iI 1) hx hb dX6_canBe_6 rfl ?_
    refine wk_icmp_eq (tgt := 15) hx hb dX6_canBe_7 (by decide) (by omega) (fun c_4 => ?_) (fun c_4 => ?_)
    · skip
      refine lv_iconst (v := iI 1) hx hb dX6_canBe_15 rfl ?_
      refine lv_goto (tgt := 20) hx hb dX6_canBe_16 (by decide) ?_
      exact pk_bool hx hb hr hlocks (bi_t (by first | assumption | omega | (simp_all; done))) dX6_canBe_20
    · skip
      refine lv_iload_n hx hb dX6_canBe_10 rfl (lv_at hl 0 rfl) ?_
      refine lv_iconst (v := iI 2) hx hb dX6_canBe_11 rfl ?_
      refine wk_icmp_ne (tgt := 19) hx hb dX6_canBe_12 (by decide) (by omega) (fun c_5 => ?_) (fun c_5 => ?_)
      · skip
        refine lv_iconst (v := iI 0) hx hb dX6_canBe_19 rfl ?_
        exact pk_bool hx hb hr hlocks (bi_f (by first | assumption | omega | (simp_all; done))) dX6_canBe_20
      · skip
        refine lv_iconst (v := iI 1) hx hb dX6_canBe_15 rfl ?_
        refine lv_goto (tgt := 20) hx hb dX6_canBe_16 (by decide) ?_
        exact pk_bool hx hb hr hlocks (bi_t (by first | assumption | omega | (simp_all; done))) dX6_canBe_20

set_option maxHeartbeats 4000000 in
set_option maxRecDepth 100000 in
theorem tX6_held (l : Launch) (D : va_G) (kI : ClassId) (kZ : ClassId) (kL : ClassId) (kJ : ClassId) (va : Int) (mo : Int) (sz : Nat) (hva : -2147483648 ≤ va ∧ va ≤ 2147483647) (hmo : -2147483648 ≤ mo ∧ mo ≤ 2147483647) : CtP l yX6_held wsX6_held ({ frames := 1, cells := 0, slots := 0, locals := 14 }) D vwCl (tyL kI kZ kL kJ) [] [.int (iI va), .int (iI mo)] (iI (max 1 (min mo va))) sz := by
  refine pk_start (cc := cX6_held) (maxL := 2) (ret := (some .int)) (LV := [(0, .int (iI va)), (1, .int (iI mo))]) (by decide) rfl rfl (Nat.le_of_ble_eq_true rfl) ?_
  intro p e s m below meth cd hadm hx hb hr hml hts hown hlocks hname hnoh hxT A hA hK hP hD hS ls hl
  refine lv_iconst (v := iI 1) hx hb dX6_held_0 rfl ?_
  refine lv_iload_n hx hb dX6_held_1 rfl (lv_at hl 1 rfl) ?_
  refine lv_iload_n hx hb dX6_held_2 rfl (lv_at hl 0 rfl) ?_
  refine wk_mmin hx hb (hml.trans hl.1.symm) hown (hts _ (List.mem_cons_of_mem _ wd_114)) (hts _ (List.mem_cons_of_mem _ wd_115)) (hts _ (List.mem_cons_of_mem _ wd_38)) (hts _ (List.mem_cons_of_mem _ wm_min)) (Nat.le_of_ble_eq_true rfl) (Nat.le_of_ble_eq_true rfl) (Nat.zero_le _) (Nat.zero_le _) (by omega) dX6_held_3 ?_
  refine wk_mmax hx hb (hml.trans hl.1.symm) hown (hts _ (List.mem_cons_of_mem _ wd_117)) (hts _ (List.mem_cons_of_mem _ wd_118)) (hts _ (List.mem_cons_of_mem _ wd_38)) (hts _ (List.mem_cons_of_mem _ wm_max)) (Nat.le_of_ble_eq_true rfl) (Nat.le_of_ble_eq_true rfl) (Nat.zero_le _) (Nat.zero_le _) (by omega) dX6_held_6 ?_
  exact pk_int hx hb hr hlocks (by first | rfl | omega) dX6_held_9

set_option maxHeartbeats 4000000 in
set_option maxRecDepth 100000 in
theorem tX3_worth (l : Launch) (D : va_G) (kI : ClassId) (kZ : ClassId) (kL : ClassId) (kJ : ClassId) (ch : Int) (sz : Nat) (hch : -2147483648 ≤ ch ∧ ch ≤ 2147483647) : CtP l yX3_worth wsX3_worth ({ frames := 1, cells := 0, slots := 0, locals := 20 }) D vwCl (tyL kI kZ kL kJ) [] [.int (iI ch)] (iI (wrt ch)) sz := by
  refine pk_start (cc := cX3_worth) (maxL := 1) (ret := (some .int)) (LV := [(0, .int (iI ch))]) (by decide) rfl rfl (Nat.le_of_ble_eq_true rfl) ?_
  intro p e s m below meth cd hadm hx hb hr hml hts hown hlocks hname hnoh hxT A hA hK hP hD hS ls hl
  refine lv_iload_n hx hb dX3_worth_0 rfl (lv_at hl 0 rfl) ?_
  refine pk_callI (va_runSN (As := [.int (iI ch)]) (rest := []) ⟨hx, hb, hml, hown, hts⟩ (tX6_isLetter l D kI kZ kL kJ ch s.heap.size (by first | assumption | omega)) ⟨(va_cnB 1 hts (gd_N tb_cons wd_240) rfl rfl rfl (xt_n23_X3 hxT) (hts _ (List.mem_cons_of_mem _ wd_33)) (by decide +kernel) ⟨Nat.le_of_ble_eq_true rfl, Nat.le_of_ble_eq_true rfl⟩), (hts _ (List.mem_cons_of_mem _ wd_239)), trivial⟩ (ck_preS hxT hK hP hD [] rfl (by decide)) rfl rfl hl.1 rfl (lv_room (Nat.le_of_ble_eq_true rfl)) dX3_worth_1 ⟨Nat.zero_le _, Nat.zero_le _⟩) ?_
  refine wk_bif_eq (tgt := 16) hx hb dX3_worth_4 (by decide) (fun c_1 => ?_) (fun c_1 => ?_)
  · skip
    refine lv_iload_n hx hb dX3_worth_16 rfl (lv_at hl 0 rfl) ?_
    refine lv_bipush (v := iI 48) hx hb dX3_worth_17 (by decide) ?_
    refine wk_isub hx hb dX3_worth_19 ?_
    exact pk_int hx hb hr hlocks (by unfold wrt; split <;> omega) dX3_worth_20
  · skip
    refine lv_iload_n hx hb dX3_worth_7 rfl (lv_at hl 0 rfl) ?_
    refine lv_bipush (v := iI 65) hx hb dX3_worth_8 (by decide) ?_
    refine wk_isub hx hb dX3_worth_10 ?_
    refine lv_iconst (v := iI 1) hx hb dX3_worth_11 rfl ?_
    refine wk_iadd hx hb dX3_worth_12 ?_
    refine lv_goto (tgt := 20) hx hb dX3_worth_13 (by decide) ?_
    exact pk_int hx hb hr hlocks (by unfold wrt; split <;> omega) dX3_worth_20

set_option maxHeartbeats 4000000 in
set_option maxRecDepth 100000 in
theorem tX3_fits (l : Launch) (D : va_G) (kI : ClassId) (kZ : ClassId) (kL : ClassId) (kJ : ClassId) (aR : Nat) (aRs : Nat) (rn : Int) (ch : Int) (sz : Nat) (hch : -2147483648 ≤ ch ∧ ch ≤ 2147483647) (hrn : 0 ≤ rn ∧ rn ≤ 11) : CtP l yX3_fits wsX3_fits ({ frames := 1, cells := 0, slots := 0, locals := 20 }) D vwCl (tyL kI kZ kL kJ) [(aR, .inr (3, [.ref aRs, .int (iI rn)]))] [.ref aR, .int (iI ch)] (iI (bi ((4 ≤ rn ∧ rn < 10 ∧ 48 ≤ ch ∧ ch ≤ 57) ∨ (¬ (4 ≤ rn ∧ rn < 10) ∧ 65 ≤ ch ∧ ch ≤ 90)))) sz := by
  refine pk_start (cc := cX3_fits) (maxL := 3) (ret := (some .boolean)) (LV := [(0, .ref aR), (1, .int (iI ch))]) (by decide) rfl rfl (Nat.le_of_ble_eq_true rfl) ?_
  intro p e s m below meth cd hadm hx hb hr hml hts hown hlocks hname hnoh hxT A hA hK hP hD hS ls hl
  refine lv_aload_n hx hb dX3_fits_0 rfl (lv_at hl 0 rfl) ?_
  refine va_get (D := D) (ci := 3) (v := .int (iI rn)) (C := RX3) (T := TX3) (N := 2) hx hb hts (fun w h => (List.mem_cons_of_mem _ (hinX3 w h))) hown hK hP 0 rfl rfl 1 (by decide) (hts _ (List.mem_cons_of_mem _ wd_64)) (fun _ h9 => h9) rfl dX3_fits_1 ?_
  refine lv_iconst (v := iI 4) hx hb dX3_fits_4 rfl ?_
  refine wk_icmp_lt (tgt := 21) hx hb dX3_fits_5 (by decide) (by omega) (fun c_1 => ?_) (fun c_1 => ?_)
  · skip
    refine lv_iconst (v := iI 0) hx hb dX3_fits_21 rfl ?_
    refine lv_istore_n (lv' := [(2, .int (iI 0)), (0, .ref aR), (1, .int (iI ch))]) hx hb dX3_fits_22 rfl hl (by decide) rfl (fun ls hl => ?_)
    refine lv_iload_n hx hb dX3_fits_23 rfl (lv_at hl 0 rfl) ?_
    refine wk_if_eq (tgt := 34) hx hb dX3_fits_24 (by decide) (by omega) (fun c_2 => ?_) (fun c_2 => ?_)
    · skip
      refine lv_iload_n hx hb dX3_fits_34 rfl (lv_at hl 2 rfl) ?_
      refine pk_callI (va_runSN (As := [.int (iI ch)]) (rest := []) ⟨hx, hb, hml, hown, hts⟩ (tX6_isLetter l D kI kZ kL kJ ch s.heap.size (by first | assumption | omega)) ⟨(va_cnB 1 hts (gd_N tb_cons wd_240) rfl rfl rfl (xt_n23_X3 hxT) (hts _ (List.mem_cons_of_mem _ wd_33)) (by decide +kernel) ⟨Nat.le_of_ble_eq_true rfl, Nat.le_of_ble_eq_true rfl⟩), (hts _ (List.mem_cons_of_mem _ wd_239)), trivial⟩ (ck_preS hxT hK hP hD [] rfl (by decide)) rfl rfl hl.1 rfl (lv_room (Nat.le_of_ble_eq_true rfl)) dX3_fits_35 ⟨Nat.zero_le _, Nat.zero_le _⟩) ?_
      exact pk_bool hx hb hr hlocks (bi_cong (by first | exact Iff.rfl | omega)) dX3_fits_38
    · skip
      exfalso; omega
  · skip
    refine lv_aload_n hx hb dX3_fits_8 rfl (lv_at hl 0 rfl) ?_
    refine va_get (D := D) (ci := 3) (v := .int (iI rn)) (C := RX3) (T := TX3) (N := 2) hx hb hts (fun w h => (List.mem_cons_of_mem _ (hinX3 w h))) hown hK hP 0 rfl rfl 1 (by decide) (hts _ (List.mem_cons_of_mem _ wd_64)) (fun _ h9 => h9) rfl dX3_fits_9 ?_
    refine lv_bipush (v := iI 10) hx hb dX3_fits_12 (by decide) ?_
    refine wk_icmp_ge (tgt := 21) hx hb dX3_fits_14 (by decide) (by omega) (fun c_3 => ?_) (fun c_3 => ?_)
    · skip
      refine lv_iconst (v := iI 0) hx hb dX3_fits_21 rfl ?_
      refine lv_istore_n (lv' := [(2, .int (iI 0)), (0, .ref aR), (1, .int (iI ch))]) hx hb dX3_fits_22 rfl hl (by decide) rfl (fun ls hl => ?_)
      refine lv_iload_n hx hb dX3_fits_23 rfl (lv_at hl 0 rfl) ?_
      refine wk_if_eq (tgt := 34) hx hb dX3_fits_24 (by decide) (by omega) (fun c_4 => ?_) (fun c_4 => ?_)
      · skip
        refine lv_iload_n hx hb dX3_fits_34 rfl (lv_at hl 2 rfl) ?_
        refine pk_callI (va_runSN (As := [.int (iI ch)]) (rest := []) ⟨hx, hb, hml, hown, hts⟩ (tX6_isLetter l D kI kZ kL kJ ch s.heap.size (by first | assumption | omega)) ⟨(va_cnB 1 hts (gd_N tb_cons wd_240) rfl rfl rfl (xt_n23_X3 hxT) (hts _ (List.mem_cons_of_mem _ wd_33)) (by decide +kernel) ⟨Nat.le_of_ble_eq_true rfl, Nat.le_of_ble_eq_true rfl⟩), (hts _ (List.mem_cons_of_mem _ wd_239)), trivial⟩ (ck_preS hxT hK hP hD [] rfl (by decide)) rfl rfl hl.1 rfl (lv_room (Nat.le_of_ble_eq_true rfl)) dX3_fits_35 ⟨Nat.zero_le _, Nat.zero_le _⟩) ?_
        exact pk_bool hx hb hr hlocks (bi_cong (by first | exact Iff.rfl | omega)) dX3_fits_38
      · skip
        exfalso; omega
    · skip
      refine lv_iconst (v := iI 1) hx hb dX3_fits_17 rfl ?_
      refine lv_goto (tgt := 22) hx hb dX3_fits_18 (by decide) ?_
      refine lv_istore_n (lv' := [(2, .int (iI 1)), (0, .ref aR), (1, .int (iI ch))]) hx hb dX3_fits_22 rfl hl (by decide) rfl (fun ls hl => ?_)
      refine lv_iload_n hx hb dX3_fits_23 rfl (lv_at hl 0 rfl) ?_
      refine wk_if_eq (tgt := 34) hx hb dX3_fits_24 (by decide) (by omega) (fun c_5 => ?_) (fun c_5 => ?_)
      · skip
        exfalso; omega
      · skip
        refine lv_iload_n hx hb dX3_fits_27 rfl (lv_at hl 2 rfl) ?_
        refine pk_callI (va_runSN (As := [.int (iI ch)]) (rest := []) ⟨hx, hb, hml, hown, hts⟩ (tX6_isDigit l D kI kZ kL kJ ch s.heap.size (by first | assumption | omega)) ⟨(va_cnB 1 hts (gd_N tb_cons wd_279) rfl rfl rfl (xt_n19_X3 hxT) (hts _ (List.mem_cons_of_mem _ wd_33)) (by decide +kernel) ⟨Nat.le_of_ble_eq_true rfl, Nat.le_of_ble_eq_true rfl⟩), (hts _ (List.mem_cons_of_mem _ wd_278)), trivial⟩ (ck_preS hxT hK hP hD [] rfl (by decide)) rfl rfl hl.1 rfl (lv_room (Nat.le_of_ble_eq_true rfl)) dX3_fits_28 ⟨Nat.zero_le _, Nat.zero_le _⟩) ?_
        refine lv_goto (tgt := 38) hx hb dX3_fits_31 (by decide) ?_
        exact pk_bool hx hb hr hlocks (bi_cong (by first | exact Iff.rfl | omega)) dX3_fits_38

set_option maxHeartbeats 4000000 in
set_option maxRecDepth 100000 in
theorem tX3_add (l : Launch) (D : va_G) (kI : ClassId) (kZ : ClassId) (kL : ClassId) (kJ : ClassId) (aR : Nat) (aRs : Nat) (rs : Int → Int) (rn : Int) (ch : Int) (sz : Nat) (hrn : 0 ≤ rn ∧ rn < 11) : CtV l yX3_add wsX3_add ({ frames := 0, cells := 0, slots := 0, locals := 0 }) D vwCl (tyL kI kZ kL kJ) [(aR, .inr (3, [.ref aRs, .int (iI rn)])), (aRs, .inl (kI, 11, .inl (iF rs)))] [.ref aR, .int (iI ch)] [(aR, .inr (3, [.ref aRs, .int (iI (rn + 1))])), (aRs, .inl (kI, 11, .inl (iF (iu rs rn ch))))] sz := by
  refine ck_start (Qc := fun A => cQv D vwCl (tyL kI kZ kL kJ) A [(aR, .inr (3, [.ref aRs, .int (iI (rn + 1))])), (aRs, .inl (kI, 11, .inl (iF (iu rs rn ch))))]) (cc := cX3_add) (maxL := 2) (ret := none) (LV := [(0, .ref aR), (1, .int (iI ch))]) (by decide) rfl rfl (Nat.le_of_ble_eq_true rfl) ?_
  intro p e s m below meth cd hadm hx hb hr hml hts hown hlocks hname hnoh hxT A hA hK hP hD hS ls hl
  refine lv_aload_n hx hb dX3_add_0 rfl (lv_at hl 0 rfl) ?_
  refine va_get (D := D) (ci := 3) (v := .int (iI rn)) (C := RX3) (T := TX3) (N := 2) hx hb hts (fun w h => (List.mem_cons_of_mem _ (hinX3 w h))) hown hK hP 0 rfl rfl 1 (by decide) (hts _ (List.mem_cons_of_mem _ wd_64)) (fun _ h9 => h9) rfl dX3_add_1 ?_
  refine lv_bipush (v := iI 11) hx hb dX3_add_4 (by decide) ?_
  refine wk_icmp_ge (tgt := 29) hx hb dX3_add_6 (by decide) (by omega) (fun c_1 => ?_) (fun c_1 => ?_)
  · skip
    exfalso; omega
  · skip
    refine lv_aload_n hx hb dX3_add_9 rfl (lv_at hl 0 rfl) ?_
    refine va_get (D := D) (ci := 3) (v := .ref aRs) (C := RX3) (T := TX3) (N := 2) hx hb hts (fun w h => (List.mem_cons_of_mem _ (hinX3 w h))) hown hK hP 0 rfl rfl 0 (by decide) (hts _ (List.mem_cons_of_mem _ wd_62)) (fun _ h9 => h9) rfl dX3_add_10 ?_
    refine lv_aload_n hx hb dX3_add_13 rfl (lv_at hl 0 rfl) ?_
    refine va_get (D := D) (ci := 3) (v := .int (iI rn)) (C := RX3) (T := TX3) (N := 2) hx hb hts (fun w h => (List.mem_cons_of_mem _ (hinX3 w h))) hown hK hP 0 rfl rfl 1 (by decide) (hts _ (List.mem_cons_of_mem _ wd_64)) (fun _ h9 => h9) rfl dX3_add_14 ?_
    refine lv_iload_n hx hb dX3_add_17 rfl (lv_at hl 1 rfl) ?_
    refine wk_iast hx hb hK hP hD hS 1 0 rfl rfl (by decide) (by omega) dX3_add_18 (ws' := [(aR, .inr (3, [.ref aRs, .int (iI rn)])), (aRs, .inl (kI, 11, .inl (iF (iu rs rn ch))))]) rfl (fun H locs hP hD hS => ?_)
    refine lv_aload_n hx hb dX3_add_19 rfl (lv_at hl 0 rfl) ?_
    refine lv_dup hx hb dX3_add_20 rfl ?_
    refine va_get (D := D) (ci := 3) (v := .int (iI rn)) (C := RX3) (T := TX3) (N := 2) hx hb hts (fun w h => (List.mem_cons_of_mem _ (hinX3 w h))) hown hK hP 0 rfl rfl 1 (by decide) (hts _ (List.mem_cons_of_mem _ wd_64)) (fun _ h9 => h9) rfl dX3_add_21 ?_
    refine lv_iconst (v := iI 1) hx hb dX3_add_24 rfl ?_
    refine wk_iadd hx hb dX3_add_25 ?_
    refine wk_put (ci := 3) (C := RX3) (T := TX3) (N := 2) hx hb hts (fun w h => (List.mem_cons_of_mem _ (hinX3 w h))) tyX3 tyX3_ok nmX3 hown hK hP hD hS 0 rfl rfl 1 (by decide) (hts _ (List.mem_cons_of_mem _ wd_64)) (fun _ h9 => h9) rfl rfl (Nat.le_of_ble_eq_true rfl) dX3_add_26 (ws' := [(aR, .inr (3, [.ref aRs, .int (iI (rn + 1))])), (aRs, .inl (kI, 11, .inl (iF (iu rs rn ch))))]) rfl (fun H locs hP hD hS => ?_)
    exact rk_void hx hb hr hlocks hK hP hD hS rfl dX3_add_29

set_option maxHeartbeats 4000000 in
set_option maxRecDepth 100000 in
theorem tX1_judge (l : Launch) (D : va_G) (kI : ClassId) (kZ : ClassId) (kL : ClassId) (kJ : ClassId) (aB : Nat) (aBs : Nat) (aBw : Nat) (aBd : Nat) (aBv : Nat) (bv : Int → Int) (bn : Int) (bx : Int) (kd : Int) (vd : Int) (sz : Nat) (hbx : 0 ≤ bx ∧ bx < 20) (hkd : 0 ≤ kd ∧ kd < 4) : CtV l yX1_judge wsX1_judge ({ frames := 0, cells := 0, slots := 0, locals := 0 }) D vwCl (tyL kI kZ kL kJ) [(aB, .inr (1, [.ref aBs, .ref aBw, .ref aBd, .ref aBv, .int (iI bn)])), (aBv, .inl (kI, 80, .inl (iF bv)))] [.ref aB, .int (iI bx), .int (iI kd), .int (iI vd)] [(aB, .inr (1, [.ref aBs, .ref aBw, .ref aBd, .ref aBv, .int (iI bn)])), (aBv, .inl (kI, 80, .inl (iF (iu bv (bx * 4 + kd) vd))))] sz := by
  refine ck_start (Qc := fun A => cQv D vwCl (tyL kI kZ kL kJ) A [(aB, .inr (1, [.ref aBs, .ref aBw, .ref aBd, .ref aBv, .int (iI bn)])), (aBv, .inl (kI, 80, .inl (iF (iu bv (bx * 4 + kd) vd))))]) (cc := cX1_judge) (maxL := 4) (ret := none) (LV := [(0, .ref aB), (1, .int (iI bx)), (2, .int (iI kd)), (3, .int (iI vd))]) (by decide) rfl rfl (Nat.le_of_ble_eq_true rfl) ?_
  intro p e s m below meth cd hadm hx hb hr hml hts hown hlocks hname hnoh hxT A hA hK hP hD hS ls hl
  refine lv_aload_n hx hb dX1_judge_0 rfl (lv_at hl 0 rfl) ?_
  refine va_get (D := D) (ci := 1) (v := .ref aBv) (C := RX1) (T := TX1) (N := 5) hx hb hts (fun w h => (List.mem_cons_of_mem _ (hinX1 w h))) hown hK hP 0 rfl rfl 3 (by decide) (hts _ (List.mem_cons_of_mem _ wd_84)) (fun _ h9 => h9) rfl dX1_judge_1 ?_
  refine lv_iload_n hx hb dX1_judge_4 rfl (lv_at hl 1 rfl) ?_
  refine lv_iconst (v := iI 4) hx hb dX1_judge_5 rfl ?_
  refine wk_imul hx hb dX1_judge_6 ?_
  refine lv_iload_n hx hb dX1_judge_7 rfl (lv_at hl 2 rfl) ?_
  refine wk_iadd hx hb dX1_judge_8 ?_
  refine lv_iload_n hx hb dX1_judge_9 rfl (lv_at hl 3 rfl) ?_
  refine wk_iast hx hb hK hP hD hS 1 0 rfl rfl (by decide) (by omega) dX1_judge_10 (ws' := [(aB, .inr (1, [.ref aBs, .ref aBw, .ref aBd, .ref aBv, .int (iI bn)])), (aBv, .inl (kI, 80, .inl (iF (iu bv ((bx * 4) + kd) vd))))]) rfl (fun H locs hP hD hS => ?_)
  exact rk_void hx hb hr hlocks hK hP hD hS rfl dX1_judge_11

set_option maxHeartbeats 4000000 in
set_option maxRecDepth 100000 in
theorem tX1_verdictOf (l : Launch) (D : va_G) (kI : ClassId) (kZ : ClassId) (kL : ClassId) (kJ : ClassId) (aB : Nat) (aBs : Nat) (aBw : Nat) (aBd : Nat) (aBv : Nat) (bv : Int → Int) (bn : Int) (bx : Int) (kd : Int) (sz : Nat) (hbx : 0 ≤ bx ∧ bx < 20) (hkd : 0 ≤ kd ∧ kd < 4) : CtP l yX1_verdictOf wsX1_verdictOf ({ frames := 0, cells := 0, slots := 0, locals := 0 }) D vwCl (tyL kI kZ kL kJ) [(aB, .inr (1, [.ref aBs, .ref aBw, .ref aBd, .ref aBv, .int (iI bn)])), (aBv, .inl (kI, 80, .inl (iF bv)))] [.ref aB, .int (iI bx), .int (iI kd)] (iI (bv (bx * 4 + kd))) sz := by
  refine pk_start (cc := cX1_verdictOf) (maxL := 3) (ret := (some .int)) (LV := [(0, .ref aB), (1, .int (iI bx)), (2, .int (iI kd))]) (by decide) rfl rfl (Nat.le_of_ble_eq_true rfl) ?_
  intro p e s m below meth cd hadm hx hb hr hml hts hown hlocks hname hnoh hxT A hA hK hP hD hS ls hl
  refine lv_aload_n hx hb dX1_verdictOf_0 rfl (lv_at hl 0 rfl) ?_
  refine va_get (D := D) (ci := 1) (v := .ref aBv) (C := RX1) (T := TX1) (N := 5) hx hb hts (fun w h => (List.mem_cons_of_mem _ (hinX1 w h))) hown hK hP 0 rfl rfl 3 (by decide) (hts _ (List.mem_cons_of_mem _ wd_84)) (fun _ h9 => h9) rfl dX1_verdictOf_1 ?_
  refine lv_iload_n hx hb dX1_verdictOf_4 rfl (lv_at hl 1 rfl) ?_
  refine lv_iconst (v := iI 4) hx hb dX1_verdictOf_5 rfl ?_
  refine wk_imul hx hb dX1_verdictOf_6 ?_
  refine lv_iload_n hx hb dX1_verdictOf_7 rfl (lv_at hl 2 rfl) ?_
  refine wk_iadd hx hb dX1_verdictOf_8 ?_
  refine wk_iald hx hb hK hP 1 0 rfl rfl (by decide) (by omega) dX1_verdictOf_9 ?_
  exact pk_int hx hb hr hlocks (by first | rfl | omega) dX1_verdictOf_10

set_option maxHeartbeats 4000000 in
set_option maxRecDepth 100000 in
theorem tX5_judge (l : Launch) (D : va_G) (kI : ClassId) (kZ : ClassId) (kL : ClassId) (kJ : ClassId) (aT : Nat) (aTv : Nat) (tv : Int → Int) (tr : Int) (kd : Int) (vd : Int) (sz : Nat) (htr : 0 ≤ tr ∧ tr < 16) (hkd : 4 ≤ kd ∧ kd < 6) : CtV l yX5_judge wsX5_judge ({ frames := 0, cells := 0, slots := 0, locals := 0 }) D vwCl (tyL kI kZ kL kJ) [(aT, .inr (5, [.ref aTv])), (aTv, .inl (kI, 32, .inl (iF tv)))] [.ref aT, .int (iI tr), .int (iI kd), .int (iI vd)] [(aT, .inr (5, [.ref aTv])), (aTv, .inl (kI, 32, .inl (iF (iu tv (tr * 2 + kd - 4) vd))))] sz := by
  refine ck_start (Qc := fun A => cQv D vwCl (tyL kI kZ kL kJ) A [(aT, .inr (5, [.ref aTv])), (aTv, .inl (kI, 32, .inl (iF (iu tv (tr * 2 + kd - 4) vd))))]) (cc := cX5_judge) (maxL := 4) (ret := none) (LV := [(0, .ref aT), (1, .int (iI tr)), (2, .int (iI kd)), (3, .int (iI vd))]) (by decide) rfl rfl (Nat.le_of_ble_eq_true rfl) ?_
  intro p e s m below meth cd hadm hx hb hr hml hts hown hlocks hname hnoh hxT A hA hK hP hD hS ls hl
  refine lv_aload_n hx hb dX5_judge_0 rfl (lv_at hl 0 rfl) ?_
  refine va_get (D := D) (ci := 5) (v := .ref aTv) (C := RX5) (T := TX5) (N := 1) hx hb hts (fun w h => (List.mem_cons_of_mem _ (hinX5 w h))) hown hK hP 0 rfl rfl 0 (by decide) (hts _ (List.mem_cons_of_mem _ wd_105)) (fun _ h9 => h9) rfl dX5_judge_1 ?_
  refine lv_iload_n hx hb dX5_judge_4 rfl (lv_at hl 1 rfl) ?_
  refine lv_iconst (v := iI 2) hx hb dX5_judge_5 rfl ?_
  refine wk_imul hx hb dX5_judge_6 ?_
  refine lv_iload_n hx hb dX5_judge_7 rfl (lv_at hl 2 rfl) ?_
  refine wk_iadd hx hb dX5_judge_8 ?_
  refine lv_iconst (v := iI 4) hx hb dX5_judge_9 rfl ?_
  refine wk_isub hx hb dX5_judge_10 ?_
  refine lv_iload_n hx hb dX5_judge_11 rfl (lv_at hl 3 rfl) ?_
  refine wk_iast hx hb hK hP hD hS 1 0 rfl rfl (by decide) (by omega) dX5_judge_12 (ws' := [(aT, .inr (5, [.ref aTv])), (aTv, .inl (kI, 32, .inl (iF (iu tv (((tr * 2) + kd) - 4) vd))))]) rfl (fun H locs hP hD hS => ?_)
  exact rk_void hx hb hr hlocks hK hP hD hS rfl dX5_judge_13

set_option maxHeartbeats 4000000 in
set_option maxRecDepth 100000 in
theorem tX5_verdictOf (l : Launch) (D : va_G) (kI : ClassId) (kZ : ClassId) (kL : ClassId) (kJ : ClassId) (aT : Nat) (aTv : Nat) (tv : Int → Int) (tr : Int) (kd : Int) (sz : Nat) (htr : 0 ≤ tr ∧ tr < 16) (hkd : 4 ≤ kd ∧ kd < 6) : CtP l yX5_verdictOf wsX5_verdictOf ({ frames := 0, cells := 0, slots := 0, locals := 0 }) D vwCl (tyL kI kZ kL kJ) [(aT, .inr (5, [.ref aTv])), (aTv, .inl (kI, 32, .inl (iF tv)))] [.ref aT, .int (iI tr), .int (iI kd)] (iI (tv (tr * 2 + kd - 4))) sz := by
  refine pk_start (cc := cX5_verdictOf) (maxL := 3) (ret := (some .int)) (LV := [(0, .ref aT), (1, .int (iI tr)), (2, .int (iI kd))]) (by decide) rfl rfl (Nat.le_of_ble_eq_true rfl) ?_
  intro p e s m below meth cd hadm hx hb hr hml hts hown hlocks hname hnoh hxT A hA hK hP hD hS ls hl
  refine lv_aload_n hx hb dX5_verdictOf_0 rfl (lv_at hl 0 rfl) ?_
  refine va_get (D := D) (ci := 5) (v := .ref aTv) (C := RX5) (T := TX5) (N := 1) hx hb hts (fun w h => (List.mem_cons_of_mem _ (hinX5 w h))) hown hK hP 0 rfl rfl 0 (by decide) (hts _ (List.mem_cons_of_mem _ wd_105)) (fun _ h9 => h9) rfl dX5_verdictOf_1 ?_
  refine lv_iload_n hx hb dX5_verdictOf_4 rfl (lv_at hl 1 rfl) ?_
  refine lv_iconst (v := iI 2) hx hb dX5_verdictOf_5 rfl ?_
  refine wk_imul hx hb dX5_verdictOf_6 ?_
  refine lv_iload_n hx hb dX5_verdictOf_7 rfl (lv_at hl 2 rfl) ?_
  refine wk_iadd hx hb dX5_verdictOf_8 ?_
  refine lv_iconst (v := iI 4) hx hb dX5_verdictOf_9 rfl ?_
  refine wk_isub hx hb dX5_verdictOf_10 ?_
  refine wk_iald hx hb hK hP 1 0 rfl rfl (by decide) (by omega) dX5_verdictOf_11 ?_
  exact pk_int hx hb hr hlocks (by first | rfl | omega) dX5_verdictOf_12

set_option maxHeartbeats 4000000 in
set_option maxRecDepth 100000 in
theorem tX4_has (l : Launch) (D : va_G) (kI : ClassId) (kZ : ClassId) (kL : ClassId) (kJ : ClassId) (aS : Nat) (aSt : Nat) (sn : Int) (sm : Int) (sl : Int) (sz : Nat) (hsl : -2147483648 ≤ sl ∧ sl ≤ 2147483647) (hsn : 1 ≤ sn ∧ sn ≤ 24) : CtP l yX4_has wsX4_has ({ frames := 0, cells := 0, slots := 0, locals := 0 }) D vwCl (tyL kI kZ kL kJ) [(aS, .inr (4, [.ref aSt, .int (iI sn), .int (iI sm)]))] [.ref aS, .int (iI sl)] (iI (bi (0 ≤ sl ∧ sl < sn))) sz := by
  refine pk_start (cc := cX4_has) (maxL := 2) (ret := (some .boolean)) (LV := [(0, .ref aS), (1, .int (iI sl))]) (by decide) rfl rfl (Nat.le_of_ble_eq_true rfl) ?_
  intro p e s m below meth cd hadm hx hb hr hml hts hown hlocks hname hnoh hxT A hA hK hP hD hS ls hl
  refine lv_iload_n hx hb dX4_has_0 rfl (lv_at hl 1 rfl) ?_
  refine wk_if_lt (tgt := 16) hx hb dX4_has_1 (by decide) (by omega) (fun c_1 => ?_) (fun c_1 => ?_)
  · skip
    refine lv_iconst (v := iI 0) hx hb dX4_has_16 rfl ?_
    exact pk_bool hx hb hr hlocks (bi_f (by first | assumption | omega | (simp_all; done))) dX4_has_17
  · skip
    refine lv_iload_n hx hb dX4_has_4 rfl (lv_at hl 1 rfl) ?_
    refine lv_aload_n hx hb dX4_has_5 rfl (lv_at hl 0 rfl) ?_
    refine va_get (D := D) (ci := 4) (v := .int (iI sn)) (C := RX4) (T := TX4) (N := 3) hx hb hts (fun w h => (List.mem_cons_of_mem _ (hinX4 w h))) hown hK hP 0 rfl rfl 1 (by decide) (hts _ (List.mem_cons_of_mem _ wd_126)) (fun _ h9 => h9) rfl dX4_has_6 ?_
    refine wk_icmp_ge (tgt := 16) hx hb dX4_has_9 (by decide) (by omega) (fun c_2 => ?_) (fun c_2 => ?_)
    · skip
      refine lv_iconst (v := iI 0) hx hb dX4_has_16 rfl ?_
      exact pk_bool hx hb hr hlocks (bi_f (by first | assumption | omega | (simp_all; done))) dX4_has_17
    · skip
      refine lv_iconst (v := iI 1) hx hb dX4_has_12 rfl ?_
      refine lv_goto (tgt := 17) hx hb dX4_has_13 (by decide) ?_
      exact pk_bool hx hb hr hlocks (bi_t (by first | assumption | omega | (simp_all; done))) dX4_has_17

set_option maxHeartbeats 4000000 in
set_option maxRecDepth 100000 in
theorem tX4_hasRoom (l : Launch) (D : va_G) (kI : ClassId) (kZ : ClassId) (kL : ClassId) (kJ : ClassId) (aS : Nat) (aSt : Nat) (tk : Int → Int) (sn : Int) (sm : Int) (sl : Int) (sz : Nat) (hsl : 0 ≤ sl ∧ sl < 24) (hsm : 1 ≤ sm ∧ sm ≤ 8) (htk : ∀ j, 0 ≤ tk j ∧ tk j ≤ 1000000) : CtP l yX4_hasRoom wsX4_hasRoom ({ frames := 0, cells := 0, slots := 0, locals := 0 }) D vwCl (tyL kI kZ kL kJ) [(aS, .inr (4, [.ref aSt, .int (iI sn), .int (iI sm)])), (aSt, .inl (kI, 24, .inl (iF tk)))] [.ref aS, .int (iI sl)] (iI (bi (tk sl < sm))) sz := by
  refine pk_start (cc := cX4_hasRoom) (maxL := 2) (ret := (some .boolean)) (LV := [(0, .ref aS), (1, .int (iI sl))]) (by decide) rfl rfl (Nat.le_of_ble_eq_true rfl) ?_
  intro p e s m below meth cd hadm hx hb hr hml hts hown hlocks hname hnoh hxT A hA hK hP hD hS ls hl
  refine lv_aload_n hx hb dX4_hasRoom_0 rfl (lv_at hl 0 rfl) ?_
  refine va_get (D := D) (ci := 4) (v := .ref aSt) (C := RX4) (T := TX4) (N := 3) hx hb hts (fun w h => (List.mem_cons_of_mem _ (hinX4 w h))) hown hK hP 0 rfl rfl 0 (by decide) (hts _ (List.mem_cons_of_mem _ wd_124)) (fun _ h9 => h9) rfl dX4_hasRoom_1 ?_
  refine lv_iload_n hx hb dX4_hasRoom_4 rfl (lv_at hl 1 rfl) ?_
  refine wk_iald hx hb hK hP 1 0 rfl rfl (by decide) (by omega) dX4_hasRoom_5 ?_
  have b_1 := htk sl
  refine lv_aload_n hx hb dX4_hasRoom_6 rfl (lv_at hl 0 rfl) ?_
  refine va_get (D := D) (ci := 4) (v := .int (iI sm)) (C := RX4) (T := TX4) (N := 3) hx hb hts (fun w h => (List.mem_cons_of_mem _ (hinX4 w h))) hown hK hP 0 rfl rfl 2 (by decide) (hts _ (List.mem_cons_of_mem _ wd_127)) (fun _ h9 => h9) rfl dX4_hasRoom_7 ?_
  refine wk_icmp_ge (tgt := 17) hx hb dX4_hasRoom_10 (by decide) (by omega) (fun c_2 => ?_) (fun c_2 => ?_)
  · skip
    refine lv_iconst (v := iI 0) hx hb dX4_hasRoom_17 rfl ?_
    exact pk_bool hx hb hr hlocks (bi_f (by first | assumption | omega | (simp_all; done))) dX4_hasRoom_18
  · skip
    refine lv_iconst (v := iI 1) hx hb dX4_hasRoom_13 rfl ?_
    refine lv_goto (tgt := 18) hx hb dX4_hasRoom_14 (by decide) ?_
    exact pk_bool hx hb hr hlocks (bi_t (by first | assumption | omega | (simp_all; done))) dX4_hasRoom_18

set_option maxHeartbeats 4000000 in
set_option maxRecDepth 100000 in
theorem tX2_add (l : Launch) (D : va_G) (kI : ClassId) (kZ : ClassId) (kL : ClassId) (kJ : ClassId) (aQ : Nat) (aQw : Nat) (qw : Int → Int) (qn : Int) (bk : Int) (sz : Nat) (hqn : 0 ≤ qn ∧ qn < 16) : CtV l yX2_add wsX2_add ({ frames := 0, cells := 0, slots := 0, locals := 0 }) D vwCl (tyL kI kZ kL kJ) [(aQ, .inr (2, [.ref aQw, .int (iI qn)])), (aQw, .inl (kI, 16, .inl (iF qw)))] [.ref aQ, .int (iI bk)] [(aQ, .inr (2, [.ref aQw, .int (iI (qn + 1))])), (aQw, .inl (kI, 16, .inl (iF (iu qw qn bk))))] sz := by
  refine ck_start (Qc := fun A => cQv D vwCl (tyL kI kZ kL kJ) A [(aQ, .inr (2, [.ref aQw, .int (iI (qn + 1))])), (aQw, .inl (kI, 16, .inl (iF (iu qw qn bk))))]) (cc := cX2_add) (maxL := 2) (ret := none) (LV := [(0, .ref aQ), (1, .int (iI bk))]) (by decide) rfl rfl (Nat.le_of_ble_eq_true rfl) ?_
  intro p e s m below meth cd hadm hx hb hr hml hts hown hlocks hname hnoh hxT A hA hK hP hD hS ls hl
  refine lv_aload_n hx hb dX2_add_0 rfl (lv_at hl 0 rfl) ?_
  refine va_get (D := D) (ci := 2) (v := .int (iI qn)) (C := RX2) (T := TX2) (N := 2) hx hb hts (fun w h => (List.mem_cons_of_mem _ (hinX2 w h))) hown hK hP 0 rfl rfl 1 (by decide) (hts _ (List.mem_cons_of_mem _ wd_182)) (fun _ h9 => h9) rfl dX2_add_1 ?_
  refine lv_bipush (v := iI 16) hx hb dX2_add_4 (by decide) ?_
  refine wk_icmp_ge (tgt := 29) hx hb dX2_add_6 (by decide) (by omega) (fun c_1 => ?_) (fun c_1 => ?_)
  · skip
    exfalso; omega
  · skip
    refine lv_aload_n hx hb dX2_add_9 rfl (lv_at hl 0 rfl) ?_
    refine va_get (D := D) (ci := 2) (v := .ref aQw) (C := RX2) (T := TX2) (N := 2) hx hb hts (fun w h => (List.mem_cons_of_mem _ (hinX2 w h))) hown hK hP 0 rfl rfl 0 (by decide) (hts _ (List.mem_cons_of_mem _ wd_181)) (fun _ h9 => h9) rfl dX2_add_10 ?_
    refine lv_aload_n hx hb dX2_add_13 rfl (lv_at hl 0 rfl) ?_
    refine va_get (D := D) (ci := 2) (v := .int (iI qn)) (C := RX2) (T := TX2) (N := 2) hx hb hts (fun w h => (List.mem_cons_of_mem _ (hinX2 w h))) hown hK hP 0 rfl rfl 1 (by decide) (hts _ (List.mem_cons_of_mem _ wd_182)) (fun _ h9 => h9) rfl dX2_add_14 ?_
    refine lv_iload_n hx hb dX2_add_17 rfl (lv_at hl 1 rfl) ?_
    refine wk_iast hx hb hK hP hD hS 1 0 rfl rfl (by decide) (by omega) dX2_add_18 (ws' := [(aQ, .inr (2, [.ref aQw, .int (iI qn)])), (aQw, .inl (kI, 16, .inl (iF (iu qw qn bk))))]) rfl (fun H locs hP hD hS => ?_)
    refine lv_aload_n hx hb dX2_add_19 rfl (lv_at hl 0 rfl) ?_
    refine lv_dup hx hb dX2_add_20 rfl ?_
    refine va_get (D := D) (ci := 2) (v := .int (iI qn)) (C := RX2) (T := TX2) (N := 2) hx hb hts (fun w h => (List.mem_cons_of_mem _ (hinX2 w h))) hown hK hP 0 rfl rfl 1 (by decide) (hts _ (List.mem_cons_of_mem _ wd_182)) (fun _ h9 => h9) rfl dX2_add_21 ?_
    refine lv_iconst (v := iI 1) hx hb dX2_add_24 rfl ?_
    refine wk_iadd hx hb dX2_add_25 ?_
    refine wk_put (ci := 2) (C := RX2) (T := TX2) (N := 2) hx hb hts (fun w h => (List.mem_cons_of_mem _ (hinX2 w h))) tyX2 tyX2_ok nmX2 hown hK hP hD hS 0 rfl rfl 1 (by decide) (hts _ (List.mem_cons_of_mem _ wd_182)) (fun _ h9 => h9) rfl rfl (Nat.le_of_ble_eq_true rfl) dX2_add_26 (ws' := [(aQ, .inr (2, [.ref aQw, .int (iI (qn + 1))])), (aQw, .inl (kI, 16, .inl (iF (iu qw qn bk))))]) rfl (fun H locs hP hD hS => ?_)
    exact rk_void hx hb hr hlocks hK hP hD hS rfl dX2_add_29

set_option maxHeartbeats 4000000 in
set_option maxRecDepth 100000 in
theorem tX2_bookingAt (l : Launch) (D : va_G) (kI : ClassId) (kZ : ClassId) (kL : ClassId) (kJ : ClassId) (aQ : Nat) (aQw : Nat) (qw : Int → Int) (qn : Int) (ix : Int) (sz : Nat) (hix : -2147483648 ≤ ix ∧ ix ≤ 2147483647) (hqn : 0 ≤ qn ∧ qn ≤ 16) : CtP l yX2_bookingAt wsX2_bookingAt ({ frames := 0, cells := 0, slots := 0, locals := 0 }) D vwCl (tyL kI kZ kL kJ) [(aQ, .inr (2, [.ref aQw, .int (iI qn)])), (aQw, .inl (kI, 16, .inl (iF qw)))] [.ref aQ, .int (iI ix)] (iI (if 0 ≤ ix ∧ ix < qn then qw ix else -1)) sz := by
  refine pk_start (cc := cX2_bookingAt) (maxL := 2) (ret := (some .int)) (LV := [(0, .ref aQ), (1, .int (iI ix))]) (by decide) rfl rfl (Nat.le_of_ble_eq_true rfl) ?_
  intro p e s m below meth cd hadm hx hb hr hml hts hown hlocks hname hnoh hxT A hA hK hP hD hS ls hl
  refine lv_iload_n hx hb dX2_bookingAt_0 rfl (lv_at hl 1 rfl) ?_
  refine wk_if_lt (tgt := 21) hx hb dX2_bookingAt_1 (by decide) (by omega) (fun c_1 => ?_) (fun c_1 => ?_)
  · skip
    refine lv_iconst (v := iI (-1)) hx hb dX2_bookingAt_21 rfl ?_
    exact pk_int hx hb hr hlocks (by split <;> first | rfl | omega) dX2_bookingAt_22
  · skip
    refine lv_iload_n hx hb dX2_bookingAt_4 rfl (lv_at hl 1 rfl) ?_
    refine lv_aload_n hx hb dX2_bookingAt_5 rfl (lv_at hl 0 rfl) ?_
    refine va_get (D := D) (ci := 2) (v := .int (iI qn)) (C := RX2) (T := TX2) (N := 2) hx hb hts (fun w h => (List.mem_cons_of_mem _ (hinX2 w h))) hown hK hP 0 rfl rfl 1 (by decide) (hts _ (List.mem_cons_of_mem _ wd_182)) (fun _ h9 => h9) rfl dX2_bookingAt_6 ?_
    refine wk_icmp_ge (tgt := 21) hx hb dX2_bookingAt_9 (by decide) (by omega) (fun c_2 => ?_) (fun c_2 => ?_)
    · skip
      refine lv_iconst (v := iI (-1)) hx hb dX2_bookingAt_21 rfl ?_
      exact pk_int hx hb hr hlocks (by split <;> first | rfl | omega) dX2_bookingAt_22
    · skip
      refine lv_aload_n hx hb dX2_bookingAt_12 rfl (lv_at hl 0 rfl) ?_
      refine va_get (D := D) (ci := 2) (v := .ref aQw) (C := RX2) (T := TX2) (N := 2) hx hb hts (fun w h => (List.mem_cons_of_mem _ (hinX2 w h))) hown hK hP 0 rfl rfl 0 (by decide) (hts _ (List.mem_cons_of_mem _ wd_181)) (fun _ h9 => h9) rfl dX2_bookingAt_13 ?_
      refine lv_iload_n hx hb dX2_bookingAt_16 rfl (lv_at hl 1 rfl) ?_
      refine wk_iald hx hb hK hP 1 0 rfl rfl (by decide) (by omega) dX2_bookingAt_17 ?_
      refine lv_goto (tgt := 22) hx hb dX2_bookingAt_18 (by decide) ?_
      exact pk_int hx hb hr hlocks (by split <;> first | rfl | omega) dX2_bookingAt_22

set_option maxHeartbeats 4000000 in
set_option maxRecDepth 100000 in
theorem tX0_add (l : Launch) (D : va_G) (kI : ClassId) (kZ : ClassId) (kL : ClassId) (kJ : ClassId) (aK : Nat) (aKs : Nat) (aKt : Nat) (aKb : Nat) (aKz : Nat) (aKl : Nat) (aKc : Nat) (aKu : Nat) (ks : Int → Int) (kt : Int → Int) (kb : Int → Int) (kz : Int → Int) (kn : Int) (sl : Int) (tr : Int) (bx : Int) (sz : Nat) (hkn : 0 ≤ kn ∧ kn < 60) : CtI l yX0_add wsX0_add ({ frames := 0, cells := 0, slots := 0, locals := 0 }) D vwCl (tyL kI kZ kL kJ) [(aK, .inr (0, [.ref aKs, .ref aKt, .ref aKb, .ref aKz, .ref aKl, .ref aKc, .ref aKu, .int (iI kn)])), (aKs, .inl (kI, 61, .inl (iF ks))), (aKt, .inl (kI, 61, .inl (iF kt))), (aKb, .inl (kI, 61, .inl (iF kb))), (aKz, .inl (kI, 61, .inl (iF kz)))] [.ref aK, .int (iI sl), .int (iI tr), .int (iI bx)] (iI (kn + 1)) [(aK, .inr (0, [.ref aKs, .ref aKt, .ref aKb, .ref aKz, .ref aKl, .ref aKc, .ref aKu, .int (iI (kn + 1))])), (aKs, .inl (kI, 61, .inl (iF (iu ks (kn + 1) sl)))), (aKt, .inl (kI, 61, .inl (iF (iu kt (kn + 1) tr)))), (aKb, .inl (kI, 61, .inl (iF (iu kb (kn + 1) bx)))), (aKz, .inl (kI, 61, .inl (iF (iu kz (kn + 1) 0))))] sz := by
  refine ck_start (Qc := fun A => cQi D vwCl (tyL kI kZ kL kJ) A (iI (kn + 1)) [(aK, .inr (0, [.ref aKs, .ref aKt, .ref aKb, .ref aKz, .ref aKl, .ref aKc, .ref aKu, .int (iI (kn + 1))])), (aKs, .inl (kI, 61, .inl (iF (iu ks (kn + 1) sl)))), (aKt, .inl (kI, 61, .inl (iF (iu kt (kn + 1) tr)))), (aKb, .inl (kI, 61, .inl (iF (iu kb (kn + 1) bx)))), (aKz, .inl (kI, 61, .inl (iF (iu kz (kn + 1) 0))))]) (cc := cX0_add) (maxL := 4) (ret := (some .int)) (LV := [(0, .ref aK), (1, .int (iI sl)), (2, .int (iI tr)), (3, .int (iI bx))]) (by decide) rfl rfl (Nat.le_of_ble_eq_true rfl) ?_
  intro p e s m below meth cd hadm hx hb hr hml hts hown hlocks hname hnoh hxT A hA hK hP hD hS ls hl
  refine lv_aload_n hx hb dX0_add_0 rfl (lv_at hl 0 rfl) ?_
  refine va_get (D := D) (ci := 0) (v := .int (iI kn)) (C := RX0) (T := TX0) (N := 8) hx hb hts (fun w h => (List.mem_cons_of_mem _ (hinX0 w h))) hown hK hP 0 rfl rfl 7 (by decide) (hts _ (List.mem_cons_of_mem _ wd_155)) (fun _ h9 => h9) rfl dX0_add_1 ?_
  refine lv_bipush (v := iI 60) hx hb dX0_add_4 (by decide) ?_
  refine wk_icmp_lt (tgt := 11) hx hb dX0_add_6 (by decide) (by omega) (fun c_1 => ?_) (fun c_1 => ?_)
  · skip
    refine lv_aload_n hx hb dX0_add_11 rfl (lv_at hl 0 rfl) ?_
    refine lv_dup hx hb dX0_add_12 rfl ?_
    refine va_get (D := D) (ci := 0) (v := .int (iI kn)) (C := RX0) (T := TX0) (N := 8) hx hb hts (fun w h => (List.mem_cons_of_mem _ (hinX0 w h))) hown hK hP 0 rfl rfl 7 (by decide) (hts _ (List.mem_cons_of_mem _ wd_155)) (fun _ h9 => h9) rfl dX0_add_13 ?_
    refine lv_iconst (v := iI 1) hx hb dX0_add_16 rfl ?_
    refine wk_iadd hx hb dX0_add_17 ?_
    refine wk_put (ci := 0) (C := RX0) (T := TX0) (N := 8) hx hb hts (fun w h => (List.mem_cons_of_mem _ (hinX0 w h))) tyX0 tyX0_ok nmX0 hown hK hP hD hS 0 rfl rfl 7 (by decide) (hts _ (List.mem_cons_of_mem _ wd_155)) (fun _ h9 => h9) rfl rfl (Nat.le_of_ble_eq_true rfl) dX0_add_18 (ws' := [(aK, .inr (0, [.ref aKs, .ref aKt, .ref aKb, .ref aKz, .ref aKl, .ref aKc, .ref aKu, .int (iI (kn + 1))])), (aKs, .inl (kI, 61, .inl (iF ks))), (aKt, .inl (kI, 61, .inl (iF kt))), (aKb, .inl (kI, 61, .inl (iF kb))), (aKz, .inl (kI, 61, .inl (iF kz)))]) rfl (fun H locs hP hD hS => ?_)
    refine lv_aload_n hx hb dX0_add_21 rfl (lv_at hl 0 rfl) ?_
    refine va_get (D := D) (ci := 0) (v := .ref aKs) (C := RX0) (T := TX0) (N := 8) hx hb hts (fun w h => (List.mem_cons_of_mem _ (hinX0 w h))) hown hK hP 0 rfl rfl 0 (by decide) (hts _ (List.mem_cons_of_mem _ wd_141)) (fun _ h9 => h9) rfl dX0_add_22 ?_
    refine lv_aload_n hx hb dX0_add_25 rfl (lv_at hl 0 rfl) ?_
    refine va_get (D := D) (ci := 0) (v := .int (iI (kn + 1))) (C := RX0) (T := TX0) (N := 8) hx hb hts (fun w h => (List.mem_cons_of_mem _ (hinX0 w h))) hown hK hP 0 rfl rfl 7 (by decide) (hts _ (List.mem_cons_of_mem _ wd_155)) (fun _ h9 => h9) rfl dX0_add_26 ?_
    refine lv_iload_n hx hb dX0_add_29 rfl (lv_at hl 1 rfl) ?_
    refine wk_iast hx hb hK hP hD hS 1 0 rfl rfl (by decide) (by omega) dX0_add_30 (ws' := [(aK, .inr (0, [.ref aKs, .ref aKt, .ref aKb, .ref aKz, .ref aKl, .ref aKc, .ref aKu, .int (iI (kn + 1))])), (aKs, .inl (kI, 61, .inl (iF (iu ks (kn + 1) sl)))), (aKt, .inl (kI, 61, .inl (iF kt))), (aKb, .inl (kI, 61, .inl (iF kb))), (aKz, .inl (kI, 61, .inl (iF kz)))]) rfl (fun H locs hP hD hS => ?_)
    refine lv_aload_n hx hb dX0_add_31 rfl (lv_at hl 0 rfl) ?_
    refine va_get (D := D) (ci := 0) (v := .ref aKt) (C := RX0) (T := TX0) (N := 8) hx hb hts (fun w h => (List.mem_cons_of_mem _ (hinX0 w h))) hown hK hP 0 rfl rfl 1 (by decide) (hts _ (List.mem_cons_of_mem _ wd_143)) (fun _ h9 => h9) rfl dX0_add_32 ?_
    refine lv_aload_n hx hb dX0_add_35 rfl (lv_at hl 0 rfl) ?_
    refine va_get (D := D) (ci := 0) (v := .int (iI (kn + 1))) (C := RX0) (T := TX0) (N := 8) hx hb hts (fun w h => (List.mem_cons_of_mem _ (hinX0 w h))) hown hK hP 0 rfl rfl 7 (by decide) (hts _ (List.mem_cons_of_mem _ wd_155)) (fun _ h9 => h9) rfl dX0_add_36 ?_
    refine lv_iload_n hx hb dX0_add_39 rfl (lv_at hl 2 rfl) ?_
    refine wk_iast hx hb hK hP hD hS 2 0 rfl rfl (by decide) (by omega) dX0_add_40 (ws' := [(aK, .inr (0, [.ref aKs, .ref aKt, .ref aKb, .ref aKz, .ref aKl, .ref aKc, .ref aKu, .int (iI (kn + 1))])), (aKs, .inl (kI, 61, .inl (iF (iu ks (kn + 1) sl)))), (aKt, .inl (kI, 61, .inl (iF (iu kt (kn + 1) tr)))), (aKb, .inl (kI, 61, .inl (iF kb))), (aKz, .inl (kI, 61, .inl (iF kz)))]) rfl (fun H locs hP hD hS => ?_)
    refine lv_aload_n hx hb dX0_add_41 rfl (lv_at hl 0 rfl) ?_
    refine va_get (D := D) (ci := 0) (v := .ref aKb) (C := RX0) (T := TX0) (N := 8) hx hb hts (fun w h => (List.mem_cons_of_mem _ (hinX0 w h))) hown hK hP 0 rfl rfl 2 (by decide) (hts _ (List.mem_cons_of_mem _ wd_145)) (fun _ h9 => h9) rfl dX0_add_42 ?_
    refine lv_aload_n hx hb dX0_add_45 rfl (lv_at hl 0 rfl) ?_
    refine va_get (D := D) (ci := 0) (v := .int (iI (kn + 1))) (C := RX0) (T := TX0) (N := 8) hx hb hts (fun w h => (List.mem_cons_of_mem _ (hinX0 w h))) hown hK hP 0 rfl rfl 7 (by decide) (hts _ (List.mem_cons_of_mem _ wd_155)) (fun _ h9 => h9) rfl dX0_add_46 ?_
    refine lv_iload_n hx hb dX0_add_49 rfl (lv_at hl 3 rfl) ?_
    refine wk_iast hx hb hK hP hD hS 3 0 rfl rfl (by decide) (by omega) dX0_add_50 (ws' := [(aK, .inr (0, [.ref aKs, .ref aKt, .ref aKb, .ref aKz, .ref aKl, .ref aKc, .ref aKu, .int (iI (kn + 1))])), (aKs, .inl (kI, 61, .inl (iF (iu ks (kn + 1) sl)))), (aKt, .inl (kI, 61, .inl (iF (iu kt (kn + 1) tr)))), (aKb, .inl (kI, 61, .inl (iF (iu kb (kn + 1) bx)))), (aKz, .inl (kI, 61, .inl (iF kz)))]) rfl (fun H locs hP hD hS => ?_)
    refine lv_aload_n hx hb dX0_add_51 rfl (lv_at hl 0 rfl) ?_
    refine va_get (D := D) (ci := 0) (v := .ref aKz) (C := RX0) (T := TX0) (N := 8) hx hb hts (fun w h => (List.mem_cons_of_mem _ (hinX0 w h))) hown hK hP 0 rfl rfl 3 (by decide) (hts _ (List.mem_cons_of_mem _ wd_147)) (fun _ h9 => h9) rfl dX0_add_52 ?_
    refine lv_aload_n hx hb dX0_add_55 rfl (lv_at hl 0 rfl) ?_
    refine va_get (D := D) (ci := 0) (v := .int (iI (kn + 1))) (C := RX0) (T := TX0) (N := 8) hx hb hts (fun w h => (List.mem_cons_of_mem _ (hinX0 w h))) hown hK hP 0 rfl rfl 7 (by decide) (hts _ (List.mem_cons_of_mem _ wd_155)) (fun _ h9 => h9) rfl dX0_add_56 ?_
    refine lv_iconst (v := iI 0) hx hb dX0_add_59 rfl ?_
    refine wk_iast hx hb hK hP hD hS 4 0 rfl rfl (by decide) (by omega) dX0_add_60 (ws' := [(aK, .inr (0, [.ref aKs, .ref aKt, .ref aKb, .ref aKz, .ref aKl, .ref aKc, .ref aKu, .int (iI (kn + 1))])), (aKs, .inl (kI, 61, .inl (iF (iu ks (kn + 1) sl)))), (aKt, .inl (kI, 61, .inl (iF (iu kt (kn + 1) tr)))), (aKb, .inl (kI, 61, .inl (iF (iu kb (kn + 1) bx)))), (aKz, .inl (kI, 61, .inl (iF (iu kz (kn + 1) 0))))]) rfl (fun H locs hP hD hS => ?_)
    refine lv_aload_n hx hb dX0_add_61 rfl (lv_at hl 0 rfl) ?_
    refine va_get (D := D) (ci := 0) (v := .int (iI (kn + 1))) (C := RX0) (T := TX0) (N := 8) hx hb hts (fun w h => (List.mem_cons_of_mem _ (hinX0 w h))) hown hK hP 0 rfl rfl 7 (by decide) (hts _ (List.mem_cons_of_mem _ wd_155)) (fun _ h9 => h9) rfl dX0_add_62 ?_
    exact rk_int hx hb hr hlocks hK hP hD hS (by first | rfl | omega) rfl dX0_add_65
  · skip
    exfalso; omega
end
section
set_option maxHeartbeats 4000000 in
set_option maxRecDepth 100000 in
theorem tX0_holdsBox (l : Launch) (D : va_G) (kI : ClassId) (kZ : ClassId) (kL : ClassId) (kJ : ClassId) (aK : Nat) (aKs : Nat) (aKt : Nat) (aKb : Nat) (aKz : Nat) (aKl : Nat) (aKc : Nat) (aKu : Nat) (kb : Int → Int) (kz : Int → Int) (kn : Int) (bx : Int) (sz : Nat) (hkn : 0 ≤ kn ∧ kn ≤ 60) (hbx : 0 ≤ bx ∧ bx ≤ 1000000) (hkb : ∀ j, 0 ≤ kb j ∧ kb j ≤ 1000000) (hkz : ∀ j, 0 ≤ kz j ∧ kz j ≤ 1000000) : CtP l yX0_holdsBox wsX0_holdsBox ({ frames := 0, cells := 0, slots := 0, locals := 0 }) D vwCl (tyL kI kZ kL kJ) [(aK, .inr (0, [.ref aKs, .ref aKt, .ref aKb, .ref aKz, .ref aKl, .ref aKc, .ref aKu, .int (iI kn)])), (aKb, .inl (kI, 61, .inl (iF kb))), (aKz, .inl (kI, 61, .inl (iF kz)))] [.ref aK, .int (iI bx)] (iI (bi (¬ sc (pHB kb kz bx) (-1) (kn + 1 - 1).toNat 1 = (-1)))) sz := by
  refine pk_start (cc := cX0_holdsBox) (maxL := 3) (ret := (some .boolean)) (LV := [(0, .ref aK), (1, .int (iI bx))]) (by decide) rfl rfl (Nat.le_of_ble_eq_true rfl) ?_
  intro p e s m below meth cd hadm hx hb hr hml hts hown hlocks hname hnoh hxT A hA hK hP hD hS ls hl
  refine lv_iconst (v := iI 1) hx hb dX0_holdsBox_0 rfl ?_
  refine lv_istore_n (lv' := [(2, .int (iI 1)), (0, .ref aK), (1, .int (iI bx))]) hx hb dX0_holdsBox_1 rfl hl (by decide) rfl (fun ls hl => ?_)
  have loop_2 : ∀ (fu : Nat) (i : Int), (1 ≤ i ∧ i ≤ kn + 1) → (sc (pHB kb kz bx) (-1) (kn + 1 - i).toNat i = sc (pHB kb kz bx) (-1) (kn + 1 - 1).toNat 1) → (kn + 1 - i) < (fu : Int) → ∀ (ls : Array Slot), lv_has ls 3 [(2, .int (iI i)), (0, .ref aK), (1, .int (iI bx))] → W p l e ({ frames := 0, cells := 0, slots := 0, locals := 0 }) s m ([.ref aK, .int (iI bx)] : List Value).toArray below meth cd s.heap [] 0 0 (MQ below (QcRead (iI (bi (¬ sc (pHB kb kz bx) (-1) (kn + 1 - 1).toNat 1 = (-1)))) ) ([.ref aK, .int (iI bx)] : List Value).toArray s 0 0 (fun _ => False)) (F0 m 2 ls []) := by
    intro fu
    induction fu with
    | zero => intro i hi hE hfu; exfalso; omega
    | succ fu ih =>
      intro i hi hE hfu ls hl
      refine lv_iload_n hx hb dX0_holdsBox_2 rfl (lv_at hl 0 rfl) ?_
      refine lv_aload_n hx hb dX0_holdsBox_3 rfl (lv_at hl 1 rfl) ?_
      refine va_get (D := D) (ci := 0) (v := .int (iI kn)) (C := RX0) (T := TX0) (N := 8) hx hb hts (fun w h => (List.mem_cons_of_mem _ (hinX0 w h))) hown hK hP 0 rfl rfl 7 (by decide) (hts _ (List.mem_cons_of_mem _ wd_155)) (fun _ h9 => h9) rfl dX0_holdsBox_4 ?_
      refine wk_icmp_gt (tgt := 38) hx hb dX0_holdsBox_7 (by decide) (by omega) (fun c_1 => ?_) (fun c_1 => ?_)
      · skip
        refine lv_iconst (v := iI 0) hx hb dX0_holdsBox_38 rfl ?_
        exact pk_bool hx hb hr hlocks (by have e9 := hE; rw [sc_end (by omega)] at e9; exact bi_f (fun h => h e9.symm)) dX0_holdsBox_39
      · skip
        refine lv_aload_n hx hb dX0_holdsBox_10 rfl (lv_at hl 1 rfl) ?_
        refine va_get (D := D) (ci := 0) (v := .ref aKb) (C := RX0) (T := TX0) (N := 8) hx hb hts (fun w h => (List.mem_cons_of_mem _ (hinX0 w h))) hown hK hP 0 rfl rfl 2 (by decide) (hts _ (List.mem_cons_of_mem _ wd_145)) (fun _ h9 => h9) rfl dX0_holdsBox_11 ?_
        refine lv_iload_n hx hb dX0_holdsBox_14 rfl (lv_at hl 0 rfl) ?_
        refine wk_iald hx hb hK hP 1 0 rfl rfl (by decide) (by omega) dX0_holdsBox_15 ?_
        have b_2 := hkb i
        refine lv_iload_n hx hb dX0_holdsBox_16 rfl (lv_at hl 2 rfl) ?_
        refine wk_icmp_ne (tgt := 32) hx hb dX0_holdsBox_17 (by decide) (by omega) (fun c_3 => ?_) (fun c_3 => ?_)
        · skip
          refine wk_iinc (k := 0) (lv' := [(2, .int (iI (i + 1))), (0, .ref aK), (1, .int (iI bx))]) hx hb dX0_holdsBox_32 hl rfl (by decide) rfl (fun ls hl => ?_)
          refine lv_goto (tgt := 2) hx hb dX0_holdsBox_35 (by decide) ?_
          exact ih (i + 1) (by first | assumption | omega) (by have e9 := hE; rw [sc_no (by omega) (by simp only [decide_eq_true_eq]; omega)] at e9; exact e9) (by omega) ls (lv_sub hl [0, 1, 2] rfl)
        · skip
          refine lv_aload_n hx hb dX0_holdsBox_20 rfl (lv_at hl 1 rfl) ?_
          refine va_get (D := D) (ci := 0) (v := .ref aKz) (C := RX0) (T := TX0) (N := 8) hx hb hts (fun w h => (List.mem_cons_of_mem _ (hinX0 w h))) hown hK hP 0 rfl rfl 3 (by decide) (hts _ (List.mem_cons_of_mem _ wd_147)) (fun _ h9 => h9) rfl dX0_holdsBox_21 ?_
          refine lv_iload_n hx hb dX0_holdsBox_24 rfl (lv_at hl 0 rfl) ?_
          refine wk_iald hx hb hK hP 2 0 rfl rfl (by decide) (by omega) dX0_holdsBox_25 ?_
          have b_4 := hkz i
          refine lv_iconst (v := iI 3) hx hb dX0_holdsBox_26 rfl ?_
          refine wk_icmp_eq (tgt := 32) hx hb dX0_holdsBox_27 (by decide) (by omega) (fun c_5 => ?_) (fun c_5 => ?_)
          · skip
            refine wk_iinc (k := 0) (lv' := [(2, .int (iI (i + 1))), (0, .ref aK), (1, .int (iI bx))]) hx hb dX0_holdsBox_32 hl rfl (by decide) rfl (fun ls hl => ?_)
            refine lv_goto (tgt := 2) hx hb dX0_holdsBox_35 (by decide) ?_
            exact ih (i + 1) (by first | assumption | omega) (by have e9 := hE; rw [sc_no (by omega) (by simp only [decide_eq_true_eq]; omega)] at e9; exact e9) (by omega) ls (lv_sub hl [0, 1, 2] rfl)
          · skip
            refine lv_iconst (v := iI 1) hx hb dX0_holdsBox_30 rfl ?_
            exact pk_bool hx hb hr hlocks (by have e9 := hE; rw [sc_yes (by omega) (by simp only [decide_eq_true_eq]; omega)] at e9; exact bi_t (by rw [← e9]; omega)) dX0_holdsBox_31
  exact loop_2 (kn + 1 - 1).toNat.succ 1 (by first | assumption | rfl | omega) (by rfl) (by omega) ls (lv_sub hl [0, 1, 2] rfl)

set_option maxHeartbeats 4000000 in
set_option maxRecDepth 100000 in
theorem tX0_holdsTruckIn (l : Launch) (D : va_G) (kI : ClassId) (kZ : ClassId) (kL : ClassId) (kJ : ClassId) (aK : Nat) (aKs : Nat) (aKt : Nat) (aKb : Nat) (aKz : Nat) (aKl : Nat) (aKc : Nat) (aKu : Nat) (kt : Int → Int) (kz : Int → Int) (kn : Int) (tr : Int) (sz : Nat) (hkn : 0 ≤ kn ∧ kn ≤ 60) (htr : 0 ≤ tr ∧ tr ≤ 1000000) (hkt : ∀ j, 0 ≤ kt j ∧ kt j ≤ 1000000) (hkz : ∀ j, 0 ≤ kz j ∧ kz j ≤ 1000000) : CtP l yX0_holdsTruckIn wsX0_holdsTruckIn ({ frames := 0, cells := 0, slots := 0, locals := 0 }) D vwCl (tyL kI kZ kL kJ) [(aK, .inr (0, [.ref aKs, .ref aKt, .ref aKb, .ref aKz, .ref aKl, .ref aKc, .ref aKu, .int (iI kn)])), (aKt, .inl (kI, 61, .inl (iF kt))), (aKz, .inl (kI, 61, .inl (iF kz)))] [.ref aK, .int (iI tr)] (iI (bi (¬ sc (pIN kt kz tr) (-1) (kn + 1 - 1).toNat 1 = (-1)))) sz := by
  refine pk_start (cc := cX0_holdsTruckIn) (maxL := 3) (ret := (some .boolean)) (LV := [(0, .ref aK), (1, .int (iI tr))]) (by decide) rfl rfl (Nat.le_of_ble_eq_true rfl) ?_
  intro p e s m below meth cd hadm hx hb hr hml hts hown hlocks hname hnoh hxT A hA hK hP hD hS ls hl
  refine lv_iconst (v := iI 1) hx hb dX0_holdsTruckIn_0 rfl ?_
  refine lv_istore_n (lv' := [(2, .int (iI 1)), (0, .ref aK), (1, .int (iI tr))]) hx hb dX0_holdsTruckIn_1 rfl hl (by decide) rfl (fun ls hl => ?_)
  have loop_2 : ∀ (fu : Nat) (i : Int), (1 ≤ i ∧ i ≤ kn + 1) → (sc (pIN kt kz tr) (-1) (kn + 1 - i).toNat i = sc (pIN kt kz tr) (-1) (kn + 1 - 1).toNat 1) → (kn + 1 - i) < (fu : Int) → ∀ (ls : Array Slot), lv_has ls 3 [(2, .int (iI i)), (0, .ref aK), (1, .int (iI tr))] → W p l e ({ frames := 0, cells := 0, slots := 0, locals := 0 }) s m ([.ref aK, .int (iI tr)] : List Value).toArray below meth cd s.heap [] 0 0 (MQ below (QcRead (iI (bi (¬ sc (pIN kt kz tr) (-1) (kn + 1 - 1).toNat 1 = (-1)))) ) ([.ref aK, .int (iI tr)] : List Value).toArray s 0 0 (fun _ => False)) (F0 m 2 ls []) := by
    intro fu
    induction fu with
    | zero => intro i hi hE hfu; exfalso; omega
    | succ fu ih =>
      intro i hi hE hfu ls hl
      refine lv_iload_n hx hb dX0_holdsTruckIn_2 rfl (lv_at hl 0 rfl) ?_
      refine lv_aload_n hx hb dX0_holdsTruckIn_3 rfl (lv_at hl 1 rfl) ?_
      refine va_get (D := D) (ci := 0) (v := .int (iI kn)) (C := RX0) (T := TX0) (N := 8) hx hb hts (fun w h => (List.mem_cons_of_mem _ (hinX0 w h))) hown hK hP 0 rfl rfl 7 (by decide) (hts _ (List.mem_cons_of_mem _ wd_155)) (fun _ h9 => h9) rfl dX0_holdsTruckIn_4 ?_
      refine wk_icmp_gt (tgt := 38) hx hb dX0_holdsTruckIn_7 (by decide) (by omega) (fun c_1 => ?_) (fun c_1 => ?_)
      · skip
        refine lv_iconst (v := iI 0) hx hb dX0_holdsTruckIn_38 rfl ?_
        exact pk_bool hx hb hr hlocks (by have e9 := hE; rw [sc_end (by omega)] at e9; exact bi_f (fun h => h e9.symm)) dX0_holdsTruckIn_39
      · skip
        refine lv_aload_n hx hb dX0_holdsTruckIn_10 rfl (lv_at hl 1 rfl) ?_
        refine va_get (D := D) (ci := 0) (v := .ref aKt) (C := RX0) (T := TX0) (N := 8) hx hb hts (fun w h => (List.mem_cons_of_mem _ (hinX0 w h))) hown hK hP 0 rfl rfl 1 (by decide) (hts _ (List.mem_cons_of_mem _ wd_143)) (fun _ h9 => h9) rfl dX0_holdsTruckIn_11 ?_
        refine lv_iload_n hx hb dX0_holdsTruckIn_14 rfl (lv_at hl 0 rfl) ?_
        refine wk_iald hx hb hK hP 1 0 rfl rfl (by decide) (by omega) dX0_holdsTruckIn_15 ?_
        have b_2 := hkt i
        refine lv_iload_n hx hb dX0_holdsTruckIn_16 rfl (lv_at hl 2 rfl) ?_
        refine wk_icmp_ne (tgt := 32) hx hb dX0_holdsTruckIn_17 (by decide) (by omega) (fun c_3 => ?_) (fun c_3 => ?_)
        · skip
          refine wk_iinc (k := 0) (lv' := [(2, .int (iI (i + 1))), (0, .ref aK), (1, .int (iI tr))]) hx hb dX0_holdsTruckIn_32 hl rfl (by decide) rfl (fun ls hl => ?_)
          refine lv_goto (tgt := 2) hx hb dX0_holdsTruckIn_35 (by decide) ?_
          exact ih (i + 1) (by first | assumption | omega) (by have e9 := hE; rw [sc_no (by omega) (by simp only [decide_eq_true_eq]; omega)] at e9; exact e9) (by omega) ls (lv_sub hl [0, 1, 2] rfl)
        · skip
          refine lv_aload_n hx hb dX0_holdsTruckIn_20 rfl (lv_at hl 1 rfl) ?_
          refine va_get (D := D) (ci := 0) (v := .ref aKz) (C := RX0) (T := TX0) (N := 8) hx hb hts (fun w h => (List.mem_cons_of_mem _ (hinX0 w h))) hown hK hP 0 rfl rfl 3 (by decide) (hts _ (List.mem_cons_of_mem _ wd_147)) (fun _ h9 => h9) rfl dX0_holdsTruckIn_21 ?_
          refine lv_iload_n hx hb dX0_holdsTruckIn_24 rfl (lv_at hl 0 rfl) ?_
          refine wk_iald hx hb hK hP 2 0 rfl rfl (by decide) (by omega) dX0_holdsTruckIn_25 ?_
          have b_4 := hkz i
          refine lv_iconst (v := iI 1) hx hb dX0_holdsTruckIn_26 rfl ?_
          refine wk_icmp_ne (tgt := 32) hx hb dX0_holdsTruckIn_27 (by decide) (by omega) (fun c_5 => ?_) (fun c_5 => ?_)
          · skip
            refine wk_iinc (k := 0) (lv' := [(2, .int (iI (i + 1))), (0, .ref aK), (1, .int (iI tr))]) hx hb dX0_holdsTruckIn_32 hl rfl (by decide) rfl (fun ls hl => ?_)
            refine lv_goto (tgt := 2) hx hb dX0_holdsTruckIn_35 (by decide) ?_
            exact ih (i + 1) (by first | assumption | omega) (by have e9 := hE; rw [sc_no (by omega) (by simp only [decide_eq_true_eq]; omega)] at e9; exact e9) (by omega) ls (lv_sub hl [0, 1, 2] rfl)
          · skip
            refine lv_iconst (v := iI 1) hx hb dX0_holdsTruckIn_30 rfl ?_
            exact pk_bool hx hb hr hlocks (by have e9 := hE; rw [sc_yes (by omega) (by simp only [decide_eq_true_eq]; omega)] at e9; exact bi_t (by rw [← e9]; omega)) dX0_holdsTruckIn_31
  exact loop_2 (kn + 1 - 1).toNat.succ 1 (by first | assumption | rfl | omega) (by rfl) (by omega) ls (lv_sub hl [0, 1, 2] rfl)

set_option maxHeartbeats 4000000 in
set_option maxRecDepth 100000 in
theorem tX0_inWithBox (l : Launch) (D : va_G) (kI : ClassId) (kZ : ClassId) (kL : ClassId) (kJ : ClassId) (aK : Nat) (aKs : Nat) (aKt : Nat) (aKb : Nat) (aKz : Nat) (aKl : Nat) (aKc : Nat) (aKu : Nat) (kb : Int → Int) (kz : Int → Int) (kn : Int) (bx : Int) (sz : Nat) (hkn : 0 ≤ kn ∧ kn ≤ 60) (hbx : 0 ≤ bx ∧ bx ≤ 1000000) (hkb : ∀ j, 0 ≤ kb j ∧ kb j ≤ 1000000) (hkz : ∀ j, 0 ≤ kz j ∧ kz j ≤ 1000000) : CtP l yX0_inWithBox wsX0_inWithBox ({ frames := 0, cells := 0, slots := 0, locals := 0 }) D vwCl (tyL kI kZ kL kJ) [(aK, .inr (0, [.ref aKs, .ref aKt, .ref aKb, .ref aKz, .ref aKl, .ref aKc, .ref aKu, .int (iI kn)])), (aKb, .inl (kI, 61, .inl (iF kb))), (aKz, .inl (kI, 61, .inl (iF kz)))] [.ref aK, .int (iI bx)] (iI (sc (pIN kb kz bx) (-1) (kn + 1 - 1).toNat 1)) sz := by
  refine pk_start (cc := cX0_inWithBox) (maxL := 3) (ret := (some .int)) (LV := [(0, .ref aK), (1, .int (iI bx))]) (by decide) rfl rfl (Nat.le_of_ble_eq_true rfl) ?_
  intro p e s m below meth cd hadm hx hb hr hml hts hown hlocks hname hnoh hxT A hA hK hP hD hS ls hl
  refine lv_iconst (v := iI 1) hx hb dX0_inWithBox_0 rfl ?_
  refine lv_istore_n (lv' := [(2, .int (iI 1)), (0, .ref aK), (1, .int (iI bx))]) hx hb dX0_inWithBox_1 rfl hl (by decide) rfl (fun ls hl => ?_)
  have loop_2 : ∀ (fu : Nat) (i : Int), (1 ≤ i ∧ i ≤ kn + 1) → (sc (pIN kb kz bx) (-1) (kn + 1 - i).toNat i = sc (pIN kb kz bx) (-1) (kn + 1 - 1).toNat 1) → (kn + 1 - i) < (fu : Int) → ∀ (ls : Array Slot), lv_has ls 3 [(2, .int (iI i)), (0, .ref aK), (1, .int (iI bx))] → W p l e ({ frames := 0, cells := 0, slots := 0, locals := 0 }) s m ([.ref aK, .int (iI bx)] : List Value).toArray below meth cd s.heap [] 0 0 (MQ below (QcRead (iI (sc (pIN kb kz bx) (-1) (kn + 1 - 1).toNat 1)) ) ([.ref aK, .int (iI bx)] : List Value).toArray s 0 0 (fun _ => False)) (F0 m 2 ls []) := by
    intro fu
    induction fu with
    | zero => intro i hi hE hfu; exfalso; omega
    | succ fu ih =>
      intro i hi hE hfu ls hl
      refine lv_iload_n hx hb dX0_inWithBox_2 rfl (lv_at hl 0 rfl) ?_
      refine lv_aload_n hx hb dX0_inWithBox_3 rfl (lv_at hl 1 rfl) ?_
      refine va_get (D := D) (ci := 0) (v := .int (iI kn)) (C := RX0) (T := TX0) (N := 8) hx hb hts (fun w h => (List.mem_cons_of_mem _ (hinX0 w h))) hown hK hP 0 rfl rfl 7 (by decide) (hts _ (List.mem_cons_of_mem _ wd_155)) (fun _ h9 => h9) rfl dX0_inWithBox_4 ?_
      refine wk_icmp_gt (tgt := 38) hx hb dX0_inWithBox_7 (by decide) (by omega) (fun c_1 => ?_) (fun c_1 => ?_)
      · skip
        refine lv_iconst (v := iI (-1)) hx hb dX0_inWithBox_38 rfl ?_
        exact pk_int hx hb hr hlocks (by have e9 := hE; rw [sc_end (by omega)] at e9; exact e9) dX0_inWithBox_39
      · skip
        refine lv_aload_n hx hb dX0_inWithBox_10 rfl (lv_at hl 1 rfl) ?_
        refine va_get (D := D) (ci := 0) (v := .ref aKb) (C := RX0) (T := TX0) (N := 8) hx hb hts (fun w h => (List.mem_cons_of_mem _ (hinX0 w h))) hown hK hP 0 rfl rfl 2 (by decide) (hts _ (List.mem_cons_of_mem _ wd_145)) (fun _ h9 => h9) rfl dX0_inWithBox_11 ?_
        refine lv_iload_n hx hb dX0_inWithBox_14 rfl (lv_at hl 0 rfl) ?_
        refine wk_iald hx hb hK hP 1 0 rfl rfl (by decide) (by omega) dX0_inWithBox_15 ?_
        have b_2 := hkb i
        refine lv_iload_n hx hb dX0_inWithBox_16 rfl (lv_at hl 2 rfl) ?_
        refine wk_icmp_ne (tgt := 32) hx hb dX0_inWithBox_17 (by decide) (by omega) (fun c_3 => ?_) (fun c_3 => ?_)
        · skip
          refine wk_iinc (k := 0) (lv' := [(2, .int (iI (i + 1))), (0, .ref aK), (1, .int (iI bx))]) hx hb dX0_inWithBox_32 hl rfl (by decide) rfl (fun ls hl => ?_)
          refine lv_goto (tgt := 2) hx hb dX0_inWithBox_35 (by decide) ?_
          exact ih (i + 1) (by first | assumption | omega) (by have e9 := hE; rw [sc_no (by omega) (by simp only [decide_eq_true_eq]; omega)] at e9; exact e9) (by omega) ls (lv_sub hl [0, 1, 2] rfl)
        · skip
          refine lv_aload_n hx hb dX0_inWithBox_20 rfl (lv_at hl 1 rfl) ?_
          refine va_get (D := D) (ci := 0) (v := .ref aKz) (C := RX0) (T := TX0) (N := 8) hx hb hts (fun w h => (List.mem_cons_of_mem _ (hinX0 w h))) hown hK hP 0 rfl rfl 3 (by decide) (hts _ (List.mem_cons_of_mem _ wd_147)) (fun _ h9 => h9) rfl dX0_inWithBox_21 ?_
          refine lv_iload_n hx hb dX0_inWithBox_24 rfl (lv_at hl 0 rfl) ?_
          refine wk_iald hx hb hK hP 2 0 rfl rfl (by decide) (by omega) dX0_inWithBox_25 ?_
          have b_4 := hkz i
          refine lv_iconst (v := iI 1) hx hb dX0_inWithBox_26 rfl ?_
          refine wk_icmp_ne (tgt := 32) hx hb dX0_inWithBox_27 (by decide) (by omega) (fun c_5 => ?_) (fun c_5 => ?_)
          · skip
            refine wk_iinc (k := 0) (lv' := [(2, .int (iI (i + 1))), (0, .ref aK), (1, .int (iI bx))]) hx hb dX0_inWithBox_32 hl rfl (by decide) rfl (fun ls hl => ?_)
            refine lv_goto (tgt := 2) hx hb dX0_inWithBox_35 (by decide) ?_
            exact ih (i + 1) (by first | assumption | omega) (by have e9 := hE; rw [sc_no (by omega) (by simp only [decide_eq_true_eq]; omega)] at e9; exact e9) (by omega) ls (lv_sub hl [0, 1, 2] rfl)
          · skip
            refine lv_iload_n hx hb dX0_inWithBox_30 rfl (lv_at hl 0 rfl) ?_
            exact pk_int hx hb hr hlocks (by have e9 := hE; rw [sc_yes (by omega) (by simp only [decide_eq_true_eq]; omega)] at e9; exact e9) dX0_inWithBox_31
  exact loop_2 (kn + 1 - 1).toNat.succ 1 (by first | assumption | rfl | omega) (by rfl) (by omega) ls (lv_sub hl [0, 1, 2] rfl)

set_option maxHeartbeats 4000000 in
set_option maxRecDepth 100000 in
theorem tX1_isNumberOf (l : Launch) (D : va_G) (kI : ClassId) (kZ : ClassId) (kL : ClassId) (kJ : ClassId) (aB : Nat) (aBs : Nat) (aBw : Nat) (aBd : Nat) (aBv : Nat) (an : Nat) (bs : Int → Int) (nu : Int → Int) (bn : Int) (bx : Int) (sz : Nat) (hbx : 0 ≤ bx ∧ bx < 20) (hbs : ∀ j, 0 ≤ bs j ∧ bs j ≤ 1000000) (hnu : ∀ j, 0 ≤ nu j ∧ nu j ≤ 1000000) : CtP l yX1_isNumberOf wsX1_isNumberOf ({ frames := 0, cells := 0, slots := 0, locals := 0 }) D vwCl (tyL kI kZ kL kJ) [(aB, .inr (1, [.ref aBs, .ref aBw, .ref aBd, .ref aBv, .int (iI bn)])), (aBs, .inl (kI, 200, .inl (iF bs))), (an, .inl (kI, 11, .inl (iF nu)))] [.ref aB, .int (iI bx), .ref an] (iI (bi (sc (pDF bs nu bx) (-1) ((9 : Int) + 1 - 0).toNat 0 = (-1)))) sz := by
  refine pk_start (cc := cX1_isNumberOf) (maxL := 4) (ret := (some .boolean)) (LV := [(0, .ref aB), (1, .int (iI bx)), (2, .ref an)]) (by decide) rfl rfl (Nat.le_of_ble_eq_true rfl) ?_
  intro p e s m below meth cd hadm hx hb hr hml hts hown hlocks hname hnoh hxT A hA hK hP hD hS ls hl
  refine lv_iconst (v := iI 0) hx hb dX1_isNumberOf_0 rfl ?_
  refine lv_istore_n (lv' := [(3, .int (iI 0)), (0, .ref aB), (1, .int (iI bx)), (2, .ref an)]) hx hb dX1_isNumberOf_1 rfl hl (by decide) rfl (fun ls hl => ?_)
  have loop_2 : ∀ (fu : Nat) (i : Int), (0 ≤ i ∧ i ≤ (9 : Int) + 1) → (sc (pDF bs nu bx) (-1) ((9 : Int) + 1 - i).toNat i = sc (pDF bs nu bx) (-1) ((9 : Int) + 1 - 0).toNat 0) → ((9 : Int) + 1 - i) < (fu : Int) → ∀ (ls : Array Slot), lv_has ls 4 [(3, .int (iI i)), (0, .ref aB), (1, .int (iI bx)), (2, .ref an)] → W p l e ({ frames := 0, cells := 0, slots := 0, locals := 0 }) s m ([.ref aB, .int (iI bx), .ref an] : List Value).toArray below meth cd s.heap [] 0 0 (MQ below (QcRead (iI (bi (sc (pDF bs nu bx) (-1) ((9 : Int) + 1 - 0).toNat 0 = (-1)))) ) ([.ref aB, .int (iI bx), .ref an] : List Value).toArray s 0 0 (fun _ => False)) (F0 m 2 ls []) := by
    intro fu
    induction fu with
    | zero => intro i hi hE hfu; exfalso; omega
    | succ fu ih =>
      intro i hi hE hfu ls hl
      refine lv_iload_n hx hb dX1_isNumberOf_2 rfl (lv_at hl 0 rfl) ?_
      refine lv_bipush (v := iI 10) hx hb dX1_isNumberOf_3 (by decide) ?_
      refine wk_icmp_ge (tgt := 39) hx hb dX1_isNumberOf_5 (by decide) (by omega) (fun c_1 => ?_) (fun c_1 => ?_)
      · skip
        refine lv_iconst (v := iI 1) hx hb dX1_isNumberOf_39 rfl ?_
        exact pk_bool hx hb hr hlocks (by have e9 := hE; rw [sc_end (by omega)] at e9; exact bi_t e9.symm) dX1_isNumberOf_40
      · skip
        refine lv_iload_n hx hb dX1_isNumberOf_8 rfl (lv_at hl 0 rfl) ?_
        refine lv_aload_n hx hb dX1_isNumberOf_9 rfl (lv_at hl 3 rfl) ?_
        refine va_alen (v := iI 11) hx hb hK hP 2 0 rfl rfl (show Int32.ofNat 11 = iI 11 by decide) dX1_isNumberOf_10 ?_
        refine wk_icmp_ge (tgt := 39) hx hb dX1_isNumberOf_11 (by decide) (by omega) (fun c_2 => ?_) (fun c_2 => ?_)
        · skip
          exfalso; omega
        · skip
          refine lv_aload_n hx hb dX1_isNumberOf_14 rfl (lv_at hl 1 rfl) ?_
          refine va_get (D := D) (ci := 1) (v := .ref aBs) (C := RX1) (T := TX1) (N := 5) hx hb hts (fun w h => (List.mem_cons_of_mem _ (hinX1 w h))) hown hK hP 0 rfl rfl 0 (by decide) (hts _ (List.mem_cons_of_mem _ wd_78)) (fun _ h9 => h9) rfl dX1_isNumberOf_15 ?_
          refine lv_iload_n hx hb dX1_isNumberOf_18 rfl (lv_at hl 2 rfl) ?_
          refine lv_bipush (v := iI 10) hx hb dX1_isNumberOf_19 (by decide) ?_
          refine wk_imul hx hb dX1_isNumberOf_21 ?_
          refine lv_iload_n hx hb dX1_isNumberOf_22 rfl (lv_at hl 0 rfl) ?_
          refine wk_iadd hx hb dX1_isNumberOf_23 ?_
          refine wk_iald hx hb hK hP 1 0 rfl rfl (by decide) (by omega) dX1_isNumberOf_24 ?_
          have b_3 := hbs ((bx * 10) + i)
          refine lv_aload_n hx hb dX1_isNumberOf_25 rfl (lv_at hl 3 rfl) ?_
          refine lv_iload_n hx hb dX1_isNumberOf_26 rfl (lv_at hl 0 rfl) ?_
          refine wk_iald hx hb hK hP 2 0 rfl rfl (by decide) (by omega) dX1_isNumberOf_27 ?_
          have b_4 := hnu i
          refine wk_icmp_eq (tgt := 33) hx hb dX1_isNumberOf_28 (by decide) (by omega) (fun c_5 => ?_) (fun c_5 => ?_)
          · skip
            refine wk_iinc (k := 0) (lv' := [(3, .int (iI (i + 1))), (0, .ref aB), (1, .int (iI bx)), (2, .ref an)]) hx hb dX1_isNumberOf_33 hl rfl (by decide) rfl (fun ls hl => ?_)
            refine lv_goto (tgt := 2) hx hb dX1_isNumberOf_36 (by decide) ?_
            exact ih (i + 1) (by first | assumption | omega) (by have e9 := hE; rw [sc_no (by omega) (by simp only [decide_eq_true_eq]; omega)] at e9; exact e9) (by omega) ls (lv_sub hl [0, 1, 2, 3] rfl)
          · skip
            refine lv_iconst (v := iI 0) hx hb dX1_isNumberOf_31 rfl ?_
            exact pk_bool hx hb hr hlocks (by have e9 := hE; rw [sc_yes (by omega) (by simp only [decide_eq_true_eq]; omega)] at e9; exact bi_f (by rw [← e9]; omega)) dX1_isNumberOf_32
  exact loop_2 ((9 : Int) + 1 - 0).toNat.succ 0 (by first | assumption | rfl | omega) (by rfl) (by omega) ls (lv_sub hl [0, 1, 2, 3] rfl)

set_option maxHeartbeats 4000000 in
set_option maxRecDepth 100000 in
theorem tX1_hasNumber (l : Launch) (D : va_G) (kI : ClassId) (kZ : ClassId) (kL : ClassId) (kJ : ClassId) (aB : Nat) (aBs : Nat) (aBw : Nat) (aBd : Nat) (aBv : Nat) (an : Nat) (bs : Int → Int) (nu : Int → Int) (bn : Int) (sz : Nat) (hbn : 0 ≤ bn ∧ bn ≤ 20) (hbs : ∀ j, 0 ≤ bs j ∧ bs j ≤ 1000000) (hnu : ∀ j, 0 ≤ nu j ∧ nu j ≤ 1000000) : CtP l yX1_hasNumber wsX1_hasNumber ({ frames := 1, cells := 0, slots := 0, locals := 23 }) D vwCl (tyL kI kZ kL kJ) [(aB, .inr (1, [.ref aBs, .ref aBw, .ref aBd, .ref aBv, .int (iI bn)])), (aBs, .inl (kI, 200, .inl (iF bs))), (an, .inl (kI, 11, .inl (iF nu)))] [.ref aB, .ref an] (iI (bi (¬ sc (pNB bs nu) (-1) ((bn - 1) + 1 - 0).toNat 0 = (-1)))) sz := by
  refine pk_start (cc := cX1_hasNumber) (maxL := 3) (ret := (some .boolean)) (LV := [(0, .ref aB), (1, .ref an)]) (by decide) rfl rfl (Nat.le_of_ble_eq_true rfl) ?_
  intro p e s m below meth cd hadm hx hb hr hml hts hown hlocks hname hnoh hxT A hA hK hP hD hS ls hl
  refine lv_iconst (v := iI 0) hx hb dX1_hasNumber_0 rfl ?_
  refine lv_istore_n (lv' := [(2, .int (iI 0)), (0, .ref aB), (1, .ref an)]) hx hb dX1_hasNumber_1 rfl hl (by decide) rfl (fun ls hl => ?_)
  have loop_2 : ∀ (fu : Nat) (i : Int), (0 ≤ i ∧ i ≤ (bn - 1) + 1) → (sc (pNB bs nu) (-1) ((bn - 1) + 1 - i).toNat i = sc (pNB bs nu) (-1) ((bn - 1) + 1 - 0).toNat 0) → ((bn - 1) + 1 - i) < (fu : Int) → ∀ (ls : Array Slot), lv_has ls 3 [(2, .int (iI i)), (0, .ref aB), (1, .ref an)] → W p l e ({ frames := 1, cells := 0, slots := 0, locals := 23 }) s m ([.ref aB, .ref an] : List Value).toArray below meth cd s.heap [] 0 0 (MQ below (QcRead (iI (bi (¬ sc (pNB bs nu) (-1) ((bn - 1) + 1 - 0).toNat 0 = (-1)))) ) ([.ref aB, .ref an] : List Value).toArray s 0 0 (fun _ => False)) (F0 m 2 ls []) := by
    intro fu
    induction fu with
    | zero => intro i hi hE hfu; exfalso; omega
    | succ fu ih =>
      intro i hi hE hfu ls hl
      refine lv_iload_n hx hb dX1_hasNumber_2 rfl (lv_at hl 0 rfl) ?_
      refine lv_aload_n hx hb dX1_hasNumber_3 rfl (lv_at hl 1 rfl) ?_
      refine va_get (D := D) (ci := 1) (v := .int (iI bn)) (C := RX1) (T := TX1) (N := 5) hx hb hts (fun w h => (List.mem_cons_of_mem _ (hinX1 w h))) hown hK hP 0 rfl rfl 4 (by decide) (hts _ (List.mem_cons_of_mem _ wd_85)) (fun _ h9 => h9) rfl dX1_hasNumber_4 ?_
      refine wk_icmp_ge (tgt := 27) hx hb dX1_hasNumber_7 (by decide) (by omega) (fun c_1 => ?_) (fun c_1 => ?_)
      · skip
        refine lv_iconst (v := iI 0) hx hb dX1_hasNumber_27 rfl ?_
        exact pk_bool hx hb hr hlocks (by have e9 := hE; rw [sc_end (by omega)] at e9; exact bi_f (fun h => h e9.symm)) dX1_hasNumber_28
      · skip
        refine lv_aload_n hx hb dX1_hasNumber_10 rfl (lv_at hl 1 rfl) ?_
        refine lv_iload_n hx hb dX1_hasNumber_11 rfl (lv_at hl 0 rfl) ?_
        refine lv_aload_n hx hb dX1_hasNumber_12 rfl (lv_at hl 2 rfl) ?_
        refine pk_callI (va_runV (As := [.int (iI i), .ref an]) (rest := []) ⟨hx, hb, hml, hown, hts⟩ (tX1_isNumberOf l D kI kZ kL kJ aB aBs aBw aBd aBv an bs nu bn i s.heap.size (by first | assumption | omega) (by first | assumption | omega) (by first | assumption | omega)) (cwV 2 hts (gd_V tb_cons wd_394 wd_396 wd_1 wd_35 wd_397) rfl rfl rfl (by decide +kernel) ⟨Nat.le_of_ble_eq_true rfl, Nat.le_of_ble_eq_true rfl⟩) (ck_preV hxT hK hP hD [0, 1, 2] rfl (by decide) (q0 := 0) rfl rfl rfl) rfl rfl hl.1 rfl (lv_room (Nat.le_of_ble_eq_true rfl)) dX1_hasNumber_13 ⟨Nat.zero_le _, Nat.zero_le _⟩) ?_
        refine wk_bif_eq (tgt := 21) hx hb dX1_hasNumber_16 (by decide) (fun c_2 => ?_) (fun c_2 => ?_)
        · skip
          refine wk_iinc (k := 0) (lv' := [(2, .int (iI (i + 1))), (0, .ref aB), (1, .ref an)]) hx hb dX1_hasNumber_21 hl rfl (by decide) rfl (fun ls hl => ?_)
          refine lv_goto (tgt := 2) hx hb dX1_hasNumber_24 (by decide) ?_
          exact ih (i + 1) (by first | assumption | omega) (by have e9 := hE; rw [sc_no (by omega) (by simp only [decide_eq_true_eq]; assumption)] at e9; exact e9) (by omega) ls (lv_sub hl [0, 1, 2] rfl)
        · skip
          refine lv_iconst (v := iI 1) hx hb dX1_hasNumber_19 rfl ?_
          exact pk_bool hx hb hr hlocks (by have e9 := hE; rw [sc_yes (by omega) (by simp only [decide_eq_true_eq]; assumption)] at e9; exact bi_t (by rw [← e9]; omega)) dX1_hasNumber_20
  exact loop_2 ((bn - 1) + 1 - 0).toNat.succ 0 (by first | assumption | rfl | omega) (by rfl) (by omega) ls (lv_sub hl [0, 1, 2] rfl)

set_option maxHeartbeats 4000000 in
set_option maxRecDepth 100000 in
theorem tX4_nextWithRoom (l : Launch) (D : va_G) (kI : ClassId) (kZ : ClassId) (kL : ClassId) (kJ : ClassId) (aS : Nat) (aSt : Nat) (tk : Int → Int) (sn : Int) (sm : Int) (sl : Int) (sz : Nat) (hsl : 0 ≤ sl ∧ sl < sn) (hsn : 1 ≤ sn ∧ sn ≤ 24) (hsm : 1 ≤ sm ∧ sm ≤ 8) (htk : ∀ j, 0 ≤ tk j ∧ tk j ≤ 1000000) : CtP l yX4_nextWithRoom wsX4_nextWithRoom ({ frames := 1, cells := 0, slots := 0, locals := 21 }) D vwCl (tyL kI kZ kL kJ) [(aS, .inr (4, [.ref aSt, .int (iI sn), .int (iI sm)])), (aSt, .inl (kI, 24, .inl (iF tk)))] [.ref aS, .int (iI sl)] (iI (sc (pRM tk sm) sn ((sn - 1) + 1 - (sl + 1)).toNat (sl + 1))) sz := by
  refine pk_start (cc := cX4_nextWithRoom) (maxL := 3) (ret := (some .int)) (LV := [(0, .ref aS), (1, .int (iI sl))]) (by decide) rfl rfl (Nat.le_of_ble_eq_true rfl) ?_
  intro p e s m below meth cd hadm hx hb hr hml hts hown hlocks hname hnoh hxT A hA hK hP hD hS ls hl
  refine lv_iload_n hx hb dX4_nextWithRoom_0 rfl (lv_at hl 1 rfl) ?_
  refine lv_iconst (v := iI 1) hx hb dX4_nextWithRoom_1 rfl ?_
  refine wk_iadd hx hb dX4_nextWithRoom_2 ?_
  refine lv_istore_n (lv' := [(2, .int (iI (sl + 1))), (0, .ref aS), (1, .int (iI sl))]) hx hb dX4_nextWithRoom_3 rfl hl (by decide) rfl (fun ls hl => ?_)
  have loop_4 : ∀ (fu : Nat) (i : Int), (sl + 1 ≤ i ∧ i ≤ (sn - 1) + 1) → (sc (pRM tk sm) sn ((sn - 1) + 1 - i).toNat i = sc (pRM tk sm) sn ((sn - 1) + 1 - (sl + 1)).toNat (sl + 1)) → ((sn - 1) + 1 - i) < (fu : Int) → ∀ (ls : Array Slot), lv_has ls 3 [(2, .int (iI i)), (0, .ref aS), (1, .int (iI sl))] → W p l e ({ frames := 1, cells := 0, slots := 0, locals := 21 }) s m ([.ref aS, .int (iI sl)] : List Value).toArray below meth cd s.heap [] 0 0 (MQ below (QcRead (iI (sc (pRM tk sm) sn ((sn - 1) + 1 - (sl + 1)).toNat (sl + 1))) ) ([.ref aS, .int (iI sl)] : List Value).toArray s 0 0 (fun _ => False)) (F0 m 4 ls []) := by
    intro fu
    induction fu with
    | zero => intro i hi hE hfu; exfalso; omega
    | succ fu ih =>
      intro i hi hE hfu ls hl
      refine lv_iload_n hx hb dX4_nextWithRoom_4 rfl (lv_at hl 0 rfl) ?_
      refine lv_aload_n hx hb dX4_nextWithRoom_5 rfl (lv_at hl 1 rfl) ?_
      refine va_get (D := D) (ci := 4) (v := .int (iI sn)) (C := RX4) (T := TX4) (N := 3) hx hb hts (fun w h => (List.mem_cons_of_mem _ (hinX4 w h))) hown hK hP 0 rfl rfl 1 (by decide) (hts _ (List.mem_cons_of_mem _ wd_126)) (fun _ h9 => h9) rfl dX4_nextWithRoom_6 ?_
      refine wk_icmp_ge (tgt := 28) hx hb dX4_nextWithRoom_9 (by decide) (by omega) (fun c_1 => ?_) (fun c_1 => ?_)
      · skip
        refine lv_aload_n hx hb dX4_nextWithRoom_28 rfl (lv_at hl 1 rfl) ?_
        refine va_get (D := D) (ci := 4) (v := .int (iI sn)) (C := RX4) (T := TX4) (N := 3) hx hb hts (fun w h => (List.mem_cons_of_mem _ (hinX4 w h))) hown hK hP 0 rfl rfl 1 (by decide) (hts _ (List.mem_cons_of_mem _ wd_126)) (fun _ h9 => h9) rfl dX4_nextWithRoom_29 ?_
        exact pk_int hx hb hr hlocks (by have e9 := hE; rw [sc_end (by omega)] at e9; exact e9) dX4_nextWithRoom_32
      · skip
        refine lv_aload_n hx hb dX4_nextWithRoom_12 rfl (lv_at hl 1 rfl) ?_
        refine lv_iload_n hx hb dX4_nextWithRoom_13 rfl (lv_at hl 0 rfl) ?_
        refine pk_callI (va_runV (As := [.int (iI i)]) (rest := []) ⟨hx, hb, hml, hown, hts⟩ (tX4_hasRoom l D kI kZ kL kJ aS aSt tk sn sm i s.heap.size (by first | assumption | omega) (by first | assumption | omega) (by first | assumption | omega)) (cwV 1 hts (gd_V tb_cons wd_494 wd_483 wd_484 wd_37 wd_485) rfl rfl rfl (by decide +kernel) ⟨Nat.le_of_ble_eq_true rfl, Nat.le_of_ble_eq_true rfl⟩) (ck_preV hxT hK hP hD [0, 1] rfl (by decide) (q0 := 0) rfl rfl rfl) rfl rfl hl.1 rfl (lv_room (Nat.le_of_ble_eq_true rfl)) dX4_nextWithRoom_14 ⟨Nat.zero_le _, Nat.zero_le _⟩) ?_
        refine wk_bif_eq (tgt := 22) hx hb dX4_nextWithRoom_17 (by decide) (fun c_2 => ?_) (fun c_2 => ?_)
        · skip
          refine wk_iinc (k := 0) (lv' := [(2, .int (iI (i + 1))), (0, .ref aS), (1, .int (iI sl))]) hx hb dX4_nextWithRoom_22 hl rfl (by decide) rfl (fun ls hl => ?_)
          refine lv_goto (tgt := 4) hx hb dX4_nextWithRoom_25 (by decide) ?_
          exact ih (i + 1) (by first | assumption | omega) (by have e9 := hE; rw [sc_no (by omega) (by simp only [decide_eq_true_eq]; assumption)] at e9; exact e9) (by omega) ls (lv_sub hl [0, 1, 2] rfl)
        · skip
          refine lv_iload_n hx hb dX4_nextWithRoom_20 rfl (lv_at hl 0 rfl) ?_
          exact pk_int hx hb hr hlocks (by have e9 := hE; rw [sc_yes (by omega) (by simp only [decide_eq_true_eq]; assumption)] at e9; exact e9) dX4_nextWithRoom_21
  exact loop_4 ((sn - 1) + 1 - (sl + 1)).toNat.succ (sl + 1) (by first | assumption | rfl | omega) (by rfl) (by omega) ls (lv_sub hl [0, 1, 2] rfl)

set_option maxHeartbeats 4000000 in
set_option maxRecDepth 100000 in
theorem tX3_checkLetter (l : Launch) (D : va_G) (kI : ClassId) (kZ : ClassId) (kL : ClassId) (kJ : ClassId) (aR : Nat) (aRs : Nat) (rs : Int → Int) (rn : Int) (sz : Nat) (hrn : 10 ≤ rn ∧ rn ≤ 11) (hrs : ∀ j, 0 ≤ rs j ∧ rs j ≤ 1000000) (hws : ∀ j, 0 ≤ j → j < 10 → 0 ≤ wrt (rs j) ∧ wrt (rs j) ≤ 26) : CtP l yX3_checkLetter wsX3_checkLetter ({ frames := 2, cells := 0, slots := 0, locals := 40 }) D vwCl (tyL kI kZ kL kJ) [(aR, .inr (3, [.ref aRs, .int (iI rn)])), (aRs, .inl (kI, 11, .inl (iF rs)))] [.ref aR] (iI (65 + ckS rs 10 % 26)) sz := by
  refine pk_start (cc := cX3_checkLetter) (maxL := 3) (ret := (some .int)) (LV := [(0, .ref aR)]) (by decide) rfl rfl (Nat.le_of_ble_eq_true rfl) ?_
  intro p e s m below meth cd hadm hx hb hr hml hts hown hlocks hname hnoh hxT A hA hK hP hD hS ls hl
  refine lv_aload_n hx hb dX3_checkLetter_0 rfl (lv_at hl 0 rfl) ?_
  refine va_get (D := D) (ci := 3) (v := .int (iI rn)) (C := RX3) (T := TX3) (N := 2) hx hb hts (fun w h => (List.mem_cons_of_mem _ (hinX3 w h))) hown hK hP 0 rfl rfl 1 (by decide) (hts _ (List.mem_cons_of_mem _ wd_64)) (fun _ h9 => h9) rfl dX3_checkLetter_1 ?_
  refine lv_bipush (v := iI 10) hx hb dX3_checkLetter_4 (by decide) ?_
  refine wk_icmp_ge (tgt := 11) hx hb dX3_checkLetter_6 (by decide) (by omega) (fun c_1 => ?_) (fun c_1 => ?_)
  · skip
    refine lv_iconst (v := iI 0) hx hb dX3_checkLetter_11 rfl ?_
    refine lv_istore_n (lv' := [(1, .int (iI 0)), (0, .ref aR)]) hx hb dX3_checkLetter_12 rfl hl (by decide) rfl (fun ls hl => ?_)
    refine lv_iconst (v := iI 0) hx hb dX3_checkLetter_13 rfl ?_
    refine lv_istore_n (lv' := [(2, .int (iI 0)), (1, .int (iI 0)), (0, .ref aR)]) hx hb dX3_checkLetter_14 rfl hl (by decide) rfl (fun ls hl => ?_)
    have loop_15 : ∀ (fu : Nat) (x : Int) (i : Int), (0 ≤ i ∧ i ≤ 10) → (x = ckS rs i.toNat) → (0 ≤ x ∧ x ≤ 260 * i) → ((10 : Int) - i) < (fu : Int) → ∀ (ls : Array Slot), lv_has ls 3 [(2, .int (iI i)), (1, .int (iI x)), (0, .ref aR)] → W p l e ({ frames := 2, cells := 0, slots := 0, locals := 40 }) s m ([.ref aR] : List Value).toArray below meth cd s.heap [] 0 0 (MQ below (QcRead (iI (65 + ckS rs 10 % 26)) ) ([.ref aR] : List Value).toArray s 0 0 (fun _ => False)) (F0 m 15 ls []) := by
      intro fu
      induction fu with
      | zero => intro x i hi hE hB hfu; exfalso; omega
      | succ fu ih =>
        intro x i hi hE hB hfu ls hl
        refine lv_iload_n hx hb dX3_checkLetter_15 rfl (lv_at hl 0 rfl) ?_
        refine lv_bipush (v := iI 10) hx hb dX3_checkLetter_16 (by decide) ?_
        refine wk_icmp_ge (tgt := 43) hx hb dX3_checkLetter_18 (by decide) (by omega) (fun c_2 => ?_) (fun c_2 => ?_)
        · skip
          refine lv_bipush (v := iI 65) hx hb dX3_checkLetter_43 (by decide) ?_
          refine lv_iload_n hx hb dX3_checkLetter_45 rfl (lv_at hl 1 rfl) ?_
          refine lv_bipush (v := iI 26) hx hb dX3_checkLetter_46 (by decide) ?_
          refine wk_irem hx hb dX3_checkLetter_48 (by omega) ?_
          refine wk_iadd hx hb dX3_checkLetter_49 ?_
          exact pk_int hx hb hr hlocks (by rw [hE, show i = 10 by omega]; rfl) dX3_checkLetter_50
        · skip
          refine lv_iload_n hx hb dX3_checkLetter_21 rfl (lv_at hl 1 rfl) ?_
          refine lv_aload_n hx hb dX3_checkLetter_22 rfl (lv_at hl 2 rfl) ?_
          refine va_get (D := D) (ci := 3) (v := .ref aRs) (C := RX3) (T := TX3) (N := 2) hx hb hts (fun w h => (List.mem_cons_of_mem _ (hinX3 w h))) hown hK hP 0 rfl rfl 0 (by decide) (hts _ (List.mem_cons_of_mem _ wd_62)) (fun _ h9 => h9) rfl dX3_checkLetter_23 ?_
          refine lv_iload_n hx hb dX3_checkLetter_26 rfl (lv_at hl 0 rfl) ?_
          refine wk_iald hx hb hK hP 1 0 rfl rfl (by decide) (by omega) dX3_checkLetter_27 ?_
          have b_3 := hrs i
          refine pk_callI (va_runS (As := [.int (iI (rs i))]) (rest := [.int (iI x)]) ⟨hx, hb, hml, hown, hts⟩ (tX3_worth l D kI kZ kL kJ (rs i) s.heap.size (by first | assumption | omega)) (cwS 1 hts (gd_S tb_cons wd_235 wd_236 wd_34 wd_237) rfl rfl rfl (by decide +kernel) ⟨Nat.le_of_ble_eq_true rfl, Nat.le_of_ble_eq_true rfl⟩) (ck_preS hxT hK hP hD [] rfl (by decide)) rfl rfl hl.1 rfl (lv_room (Nat.le_of_ble_eq_true rfl)) dX3_checkLetter_28 ⟨Nat.zero_le _, Nat.zero_le _⟩) ?_
          refine lv_iload_n hx hb dX3_checkLetter_31 rfl (lv_at hl 0 rfl) ?_
          refine lv_iconst (v := iI 1) hx hb dX3_checkLetter_32 rfl ?_
          refine wk_iadd hx hb dX3_checkLetter_33 ?_
          refine wk_imul hx hb dX3_checkLetter_34 ?_
          refine wk_iadd hx hb dX3_checkLetter_35 ?_
          refine lv_istore_n (lv' := [(1, .int (iI (x + ((wrt (rs i)) * (i + 1))))), (2, .int (iI i)), (0, .ref aR)]) hx hb dX3_checkLetter_36 rfl hl (by decide) rfl (fun ls hl => ?_)
          refine wk_iinc (k := 1) (lv' := [(2, .int (iI (i + 1))), (1, .int (iI (x + ((wrt (rs i)) * (i + 1))))), (0, .ref aR)]) hx hb dX3_checkLetter_37 hl rfl (by decide) rfl (fun ls hl => ?_)
          refine lv_goto (tgt := 15) hx hb dX3_checkLetter_40 (by decide) ?_
          exact ih (x + ((wrt (rs i)) * (i + 1))) (i + 1) (by first | assumption | omega) (by rw [ckS_step rs (by omega), ← hE]) (by have e8 := hws i (by omega) (by omega); have e9 := Int.mul_le_mul e8.2 (show i + 1 ≤ 10 by omega) (by omega) (by omega); have e7 := Int.mul_nonneg e8.1 (show 0 ≤ i + 1 by omega); omega) (by omega) ls (lv_sub hl [0, 1, 2] rfl)
    exact loop_15 ((10 : Int) - 0).toNat.succ 0 0 (by first | assumption | rfl | omega) (by first | assumption | rfl | omega) (by first | assumption | rfl | omega) (by omega) ls (lv_sub hl [0, 1, 2] rfl)
  · skip
    exfalso; omega

set_option maxHeartbeats 4000000 in
set_option maxRecDepth 100000 in
theorem tX3_checkLetter_n (l : Launch) (D : va_G) (kI : ClassId) (kZ : ClassId) (kL : ClassId) (kJ : ClassId) (aR : Nat) (aRs : Nat) (rn : Int) (sz : Nat) (hrn : 0 ≤ rn ∧ rn < 10) : CtP l yX3_checkLetter wsX3_checkLetter ({ frames := 0, cells := 0, slots := 0, locals := 0 }) D vwCl (tyL kI kZ kL kJ) [(aR, .inr (3, [.ref aRs, .int (iI rn)]))] [.ref aR] (iI (-1)) sz := by
  refine pk_start (cc := cX3_checkLetter) (maxL := 3) (ret := (some .int)) (LV := [(0, .ref aR)]) (by decide) rfl rfl (Nat.le_of_ble_eq_true rfl) ?_
  intro p e s m below meth cd hadm hx hb hr hml hts hown hlocks hname hnoh hxT A hA hK hP hD hS ls hl
  refine lv_aload_n hx hb dX3_checkLetter_0 rfl (lv_at hl 0 rfl) ?_
  refine va_get (D := D) (ci := 3) (v := .int (iI rn)) (C := RX3) (T := TX3) (N := 2) hx hb hts (fun w h => (List.mem_cons_of_mem _ (hinX3 w h))) hown hK hP 0 rfl rfl 1 (by decide) (hts _ (List.mem_cons_of_mem _ wd_64)) (fun _ h9 => h9) rfl dX3_checkLetter_1 ?_
  refine lv_bipush (v := iI 10) hx hb dX3_checkLetter_4 (by decide) ?_
  refine wk_icmp_ge (tgt := 11) hx hb dX3_checkLetter_6 (by decide) (by omega) (fun c_1 => ?_) (fun c_1 => ?_)
  · skip
    exfalso; omega
  · skip
    refine lv_iconst (v := iI (-1)) hx hb dX3_checkLetter_9 rfl ?_
    exact pk_int hx hb hr hlocks (by first | rfl | omega) dX3_checkLetter_10

set_option maxHeartbeats 4000000 in
set_option maxRecDepth 100000 in
theorem tX3_endsWithCheckLetter (l : Launch) (D : va_G) (kI : ClassId) (kZ : ClassId) (kL : ClassId) (kJ : ClassId) (aR : Nat) (aRs : Nat) (rs : Int → Int) (rn : Int) (sz : Nat) (hrn : rn = 11) (hrs : ∀ j, 0 ≤ rs j ∧ rs j ≤ 1000000) (hws : ∀ j, 0 ≤ j → j < 10 → 0 ≤ wrt (rs j) ∧ wrt (rs j) ≤ 26) : CtP l yX3_endsWithCheckLetter wsX3_endsWithCheckLetter ({ frames := 3, cells := 0, slots := 0, locals := 62 }) D vwCl (tyL kI kZ kL kJ) [(aR, .inr (3, [.ref aRs, .int (iI rn)])), (aRs, .inl (kI, 11, .inl (iF rs)))] [.ref aR] (iI (bi (rs 10 = 65 + ckS rs 10 % 26))) sz := by
  refine pk_start (cc := cX3_endsWithCheckLetter) (maxL := 1) (ret := (some .boolean)) (LV := [(0, .ref aR)]) (by decide) rfl rfl (Nat.le_of_ble_eq_true rfl) ?_
  intro p e s m below meth cd hadm hx hb hr hml hts hown hlocks hname hnoh hxT A hA hK hP hD hS ls hl
  refine lv_aload_n hx hb dX3_endsWithCheckLetter_0 rfl (lv_at hl 0 rfl) ?_
  refine va_get (D := D) (ci := 3) (v := .int (iI rn)) (C := RX3) (T := TX3) (N := 2) hx hb hts (fun w h => (List.mem_cons_of_mem _ (hinX3 w h))) hown hK hP 0 rfl rfl 1 (by decide) (hts _ (List.mem_cons_of_mem _ wd_64)) (fun _ h9 => h9) rfl dX3_endsWithCheckLetter_1 ?_
  refine lv_bipush (v := iI 11) hx hb dX3_endsWithCheckLetter_4 (by decide) ?_
  refine wk_icmp_ne (tgt := 27) hx hb dX3_endsWithCheckLetter_6 (by decide) (by omega) (fun c_1 => ?_) (fun c_1 => ?_)
  · skip
    exfalso; omega
  · skip
    refine lv_aload_n hx hb dX3_endsWithCheckLetter_9 rfl (lv_at hl 0 rfl) ?_
    refine va_get (D := D) (ci := 3) (v := .ref aRs) (C := RX3) (T := TX3) (N := 2) hx hb hts (fun w h => (List.mem_cons_of_mem _ (hinX3 w h))) hown hK hP 0 rfl rfl 0 (by decide) (hts _ (List.mem_cons_of_mem _ wd_62)) (fun _ h9 => h9) rfl dX3_endsWithCheckLetter_10 ?_
    refine lv_bipush (v := iI 10) hx hb dX3_endsWithCheckLetter_13 (by decide) ?_
    refine wk_iald hx hb hK hP 1 0 rfl rfl (by decide) (by omega) dX3_endsWithCheckLetter_15 ?_
    have b_2 := hrs 10
    refine lv_aload_n hx hb dX3_endsWithCheckLetter_16 rfl (lv_at hl 0 rfl) ?_
    refine pk_callI (va_runV (As := []) (rest := [.int (iI (rs 10))]) ⟨hx, hb, hml, hown, hts⟩ (tX3_checkLetter l D kI kZ kL kJ aR aRs rs rn s.heap.size (by first | assumption | omega) (by first | assumption | omega) (by first | assumption | omega)) (cwV 0 hts (gd_V tb_cons wd_389 wd_232 wd_233 wd_34 wd_234) rfl rfl rfl (by decide +kernel) ⟨Nat.le_of_ble_eq_true rfl, Nat.le_of_ble_eq_true rfl⟩) (ck_preV hxT hK hP hD [0, 1] rfl (by decide) (q0 := 0) rfl rfl rfl) rfl rfl hl.1 rfl (lv_room (Nat.le_of_ble_eq_true rfl)) dX3_endsWithCheckLetter_17 ⟨Nat.zero_le _, Nat.zero_le _⟩) ?_
    refine wk_icmp_ne (tgt := 27) hx hb dX3_endsWithCheckLetter_20 (by decide) (by omega) (fun c_3 => ?_) (fun c_3 => ?_)
    · skip
      refine lv_iconst (v := iI 0) hx hb dX3_endsWithCheckLetter_27 rfl ?_
      exact pk_bool hx hb hr hlocks (bi_f (by first | assumption | omega | (simp_all; done))) dX3_endsWithCheckLetter_28
    · skip
      refine lv_iconst (v := iI 1) hx hb dX3_endsWithCheckLetter_23 rfl ?_
      refine lv_goto (tgt := 28) hx hb dX3_endsWithCheckLetter_24 (by decide) ?_
      exact pk_bool hx hb hr hlocks (bi_t (by first | assumption | omega | (simp_all; done))) dX3_endsWithCheckLetter_28

set_option maxHeartbeats 4000000 in
set_option maxRecDepth 100000 in
theorem tX1_add (l : Launch) (D : va_G) (kI : ClassId) (kZ : ClassId) (kL : ClassId) (kJ : ClassId) (aB : Nat) (aBs : Nat) (aBw : Nat) (aBd : Nat) (aBv : Nat) (an : Nat) (bs : Int → Int) (bw : Int → Int) (bd : Int → Int) (bv : Int → Int) (nu : Int → Int) (bn : Int) (wt : Int) (dg : Int) (sz : Nat) (hbn : 0 ≤ bn ∧ bn < 20) (hdg : dg = 0 ∨ dg = 1) (hnu : ∀ j, 0 ≤ nu j ∧ nu j ≤ 1000000) : CtI l yX1_add wsX1_add ({ frames := 1, cells := 0, slots := 0, locals := 23 }) D vwCl (tyL kI kZ kL kJ) [(aB, .inr (1, [.ref aBs, .ref aBw, .ref aBd, .ref aBv, .int (iI bn)])), (aBs, .inl (kI, 200, .inl (iF bs))), (aBw, .inl (kI, 20, .inl (iF bw))), (aBd, .inl (kZ, 20, .inl (iF bd))), (aBv, .inl (kI, 80, .inl (iF bv))), (an, .inl (kI, 11, .inl (iF nu)))] [.ref aB, .ref an, .int (iI wt), .int (iI dg)] (iI bn) [(aB, .inr (1, [.ref aBs, .ref aBw, .ref aBd, .ref aBv, .int (iI (bn + 1))])), (aBs, .inl (kI, 200, .inl (iF (cpN bs (bn * 10) nu 10)))), (aBw, .inl (kI, 20, .inl (iF (iu bw bn wt)))), (aBd, .inl (kZ, 20, .inl (iF (iu bd bn dg)))), (aBv, .inl (kI, 80, .inl (iF (iu (iu (iu (iu bv (bn * 4 + 0) 0) (bn * 4 + 1) 1) (bn * 4 + 2) 1) (bn * 4 + 3) 1)))), (an, .inl (kI, 11, .inl (iF nu)))] sz := by
  refine ck_start (Qc := fun A => cQi D vwCl (tyL kI kZ kL kJ) A (iI bn) [(aB, .inr (1, [.ref aBs, .ref aBw, .ref aBd, .ref aBv, .int (iI (bn + 1))])), (aBs, .inl (kI, 200, .inl (iF (cpN bs (bn * 10) nu 10)))), (aBw, .inl (kI, 20, .inl (iF (iu bw bn wt)))), (aBd, .inl (kZ, 20, .inl (iF (iu bd bn dg)))), (aBv, .inl (kI, 80, .inl (iF (iu (iu (iu (iu bv (bn * 4 + 0) 0) (bn * 4 + 1) 1) (bn * 4 + 2) 1) (bn * 4 + 3) 1)))), (an, .inl (kI, 11, .inl (iF nu)))]) (cc := cX1_add) (maxL := 6) (ret := (some .int)) (LV := [(0, .ref aB), (1, .ref an), (2, .int (iI wt)), (3, .int (iI dg))]) (by decide) rfl rfl (Nat.le_of_ble_eq_true rfl) ?_
  intro p e s m below meth cd hadm hx hb hr hml hts hown hlocks hname hnoh hxT A hA hK hP hD hS ls hl
  refine lv_aload_n hx hb dX1_add_0 rfl (lv_at hl 0 rfl) ?_
  refine va_get (D := D) (ci := 1) (v := .int (iI bn)) (C := RX1) (T := TX1) (N := 5) hx hb hts (fun w h => (List.mem_cons_of_mem _ (hinX1 w h))) hown hK hP 0 rfl rfl 4 (by decide) (hts _ (List.mem_cons_of_mem _ wd_85)) (fun _ h9 => h9) rfl dX1_add_1 ?_
  refine lv_bipush (v := iI 20) hx hb dX1_add_4 (by decide) ?_
  refine wk_icmp_lt (tgt := 11) hx hb dX1_add_6 (by decide) (by omega) (fun c_1 => ?_) (fun c_1 => ?_)
  · skip
    refine lv_aload_n hx hb dX1_add_11 rfl (lv_at hl 0 rfl) ?_
    refine va_get (D := D) (ci := 1) (v := .int (iI bn)) (C := RX1) (T := TX1) (N := 5) hx hb hts (fun w h => (List.mem_cons_of_mem _ (hinX1 w h))) hown hK hP 0 rfl rfl 4 (by decide) (hts _ (List.mem_cons_of_mem _ wd_85)) (fun _ h9 => h9) rfl dX1_add_12 ?_
    refine lv_istore (lv' := [(4, .int (iI bn)), (0, .ref aB), (1, .ref an), (2, .int (iI wt)), (3, .int (iI dg))]) hx hb dX1_add_15 hl (by decide) rfl (fun ls hl => ?_)
    refine lv_aload_n hx hb dX1_add_17 rfl (lv_at hl 1 rfl) ?_
    refine lv_dup hx hb dX1_add_18 rfl ?_
    refine va_get (D := D) (ci := 1) (v := .int (iI bn)) (C := RX1) (T := TX1) (N := 5) hx hb hts (fun w h => (List.mem_cons_of_mem _ (hinX1 w h))) hown hK hP 0 rfl rfl 4 (by decide) (hts _ (List.mem_cons_of_mem _ wd_85)) (fun _ h9 => h9) rfl dX1_add_19 ?_
    refine lv_iconst (v := iI 1) hx hb dX1_add_22 rfl ?_
    refine wk_iadd hx hb dX1_add_23 ?_
    refine wk_put (ci := 1) (C := RX1) (T := TX1) (N := 5) hx hb hts (fun w h => (List.mem_cons_of_mem _ (hinX1 w h))) tyX1 tyX1_ok nmX1 hown hK hP hD hS 0 rfl rfl 4 (by decide) (hts _ (List.mem_cons_of_mem _ wd_85)) (fun _ h9 => h9) rfl rfl (Nat.le_of_ble_eq_true rfl) dX1_add_24 (ws' := [(aB, .inr (1, [.ref aBs, .ref aBw, .ref aBd, .ref aBv, .int (iI (bn + 1))])), (aBs, .inl (kI, 200, .inl (iF bs))), (aBw, .inl (kI, 20, .inl (iF bw))), (aBd, .inl (kZ, 20, .inl (iF bd))), (aBv, .inl (kI, 80, .inl (iF bv))), (an, .inl (kI, 11, .inl (iF nu)))]) rfl (fun H locs hP hD hS => ?_)
    refine lv_iconst (v := iI 0) hx hb dX1_add_27 rfl ?_
    refine lv_istore (lv' := [(5, .int (iI 0)), (4, .int (iI bn)), (0, .ref aB), (1, .ref an), (2, .int (iI wt)), (3, .int (iI dg))]) hx hb dX1_add_28 hl (by decide) rfl (fun ls hl => ?_)
    have loop_30 : ∀ (fu : Nat) (i : Int) (x : Int → Int), (0 ≤ i ∧ i ≤ 10) → (x = cpN bs (bn * 10) nu i.toNat) → ((10 : Int) - i) < (fu : Int) → ∀ (H : Heap) (locs : List Loc) (ls : Array Slot), va_P D vwCl [(aB, .inr (1, [.ref aBs, .ref aBw, .ref aBd, .ref aBv, .int (iI (bn + 1))])), (aBs, .inl (kI, 200, .inl (iF x))), (aBw, .inl (kI, 20, .inl (iF bw))), (aBd, .inl (kZ, 20, .inl (iF bd))), (aBv, .inl (kI, 80, .inl (iF bv))), (an, .inl (kI, 11, .inl (iF nu)))] H → va_D A [(aB, .inr (1, [.ref aBs, .ref aBw, .ref aBd, .ref aBv, .int (iI (bn + 1))])), (aBs, .inl (kI, 200, .inl (iF x))), (aBw, .inl (kI, 20, .inl (iF bw))), (aBd, .inl (kZ, 20, .inl (iF bd))), (aBv, .inl (kI, 80, .inl (iF bv))), (an, .inl (kI, 11, .inl (iF nu)))] → va_S A s.heap H locs → lv_has ls 6 [(5, .int (iI i)), (4, .int (iI bn)), (0, .ref aB), (1, .ref an), (2, .int (iI wt)), (3, .int (iI dg))] → W p l e ({ frames := 1, cells := 0, slots := 0, locals := 23 }) s m ([.ref aB, .ref an, .int (iI wt), .int (iI dg)] : List Value).toArray below meth cd H locs 0 0 (MQ below (cQi D vwCl (tyL kI kZ kL kJ) A (iI bn) [(aB, .inr (1, [.ref aBs, .ref aBw, .ref aBd, .ref aBv, .int (iI (bn + 1))])), (aBs, .inl (kI, 200, .inl (iF (cpN bs (bn * 10) nu 10)))), (aBw, .inl (kI, 20, .inl (iF (iu bw bn wt)))), (aBd, .inl (kZ, 20, .inl (iF (iu bd bn dg)))), (aBv, .inl (kI, 80, .inl (iF (iu (iu (iu (iu bv (bn * 4 + 0) 0) (bn * 4 + 1) 1) (bn * 4 + 2) 1) (bn * 4 + 3) 1)))), (an, .inl (kI, 11, .inl (iF nu)))]) ([.ref aB, .ref an, .int (iI wt), .int (iI dg)] : List Value).toArray s 0 0 A) (F0 m 30 ls []) := by
      intro fu
      induction fu with
      | zero => intro i x hi hE hfu; exfalso; omega
      | succ fu ih =>
        intro i x hi hE hfu H locs ls hP hD hS hl
        refine lv_iload hx hb dX1_add_30 (lv_at hl 0 rfl) ?_
        refine lv_bipush (v := iI 10) hx hb dX1_add_32 (by decide) ?_
        refine wk_icmp_ge (tgt := 67) hx hb dX1_add_34 (by decide) (by omega) (fun c_2 => ?_) (fun c_2 => ?_)
        · skip
          have e9 : i = 10 := by omega
          have e8 : x = cpN bs (bn * 10) nu 10 := by rw [hE, e9]; rfl
          subst e8
          refine lv_aload_n hx hb dX1_add_67 rfl (lv_at hl 2 rfl) ?_
          refine va_get (D := D) (ci := 1) (v := .ref aBw) (C := RX1) (T := TX1) (N := 5) hx hb hts (fun w h => (List.mem_cons_of_mem _ (hinX1 w h))) hown hK hP 0 rfl rfl 1 (by decide) (hts _ (List.mem_cons_of_mem _ wd_80)) (fun _ h9 => h9) rfl dX1_add_68 ?_
          refine lv_iload hx hb dX1_add_71 (lv_at hl 1 rfl) ?_
          refine lv_iload_n hx hb dX1_add_73 rfl (lv_at hl 4 rfl) ?_
          refine wk_iast hx hb hK hP hD hS 2 0 rfl rfl (by decide) (by omega) dX1_add_74 (ws' := [(aB, .inr (1, [.ref aBs, .ref aBw, .ref aBd, .ref aBv, .int (iI (bn + 1))])), (aBs, .inl (kI, 200, .inl (iF (cpN bs (bn * 10) nu 10)))), (aBw, .inl (kI, 20, .inl (iF (iu bw bn wt)))), (aBd, .inl (kZ, 20, .inl (iF bd))), (aBv, .inl (kI, 80, .inl (iF bv))), (an, .inl (kI, 11, .inl (iF nu)))]) rfl (fun H locs hP hD hS => ?_)
          refine lv_aload_n hx hb dX1_add_75 rfl (lv_at hl 2 rfl) ?_
          refine va_get (D := D) (ci := 1) (v := .ref aBd) (C := RX1) (T := TX1) (N := 5) hx hb hts (fun w h => (List.mem_cons_of_mem _ (hinX1 w h))) hown hK hP 0 rfl rfl 2 (by decide) (hts _ (List.mem_cons_of_mem _ wd_82)) (fun _ h9 => h9) rfl dX1_add_76 ?_
          refine lv_iload hx hb dX1_add_79 (lv_at hl 1 rfl) ?_
          refine lv_iload_n hx hb dX1_add_81 rfl (lv_at hl 5 rfl) ?_
          refine wk_zast hx hb hK hP hD hS 3 1 rfl rfl (by omega) (by decide) (by omega) dX1_add_82 (ws' := [(aB, .inr (1, [.ref aBs, .ref aBw, .ref aBd, .ref aBv, .int (iI (bn + 1))])), (aBs, .inl (kI, 200, .inl (iF (cpN bs (bn * 10) nu 10)))), (aBw, .inl (kI, 20, .inl (iF (iu bw bn wt)))), (aBd, .inl (kZ, 20, .inl (iF (iu bd bn dg)))), (aBv, .inl (kI, 80, .inl (iF bv))), (an, .inl (kI, 11, .inl (iF nu)))]) rfl (fun H locs hP hD hS => ?_)
          refine lv_aload_n hx hb dX1_add_83 rfl (lv_at hl 2 rfl) ?_
          refine lv_iload hx hb dX1_add_84 (lv_at hl 1 rfl) ?_
          refine lv_iconst (v := iI 0) hx hb dX1_add_86 rfl ?_
          refine lv_iconst (v := iI 0) hx hb dX1_add_87 rfl ?_
          refine ck_backV (va_runV (As := [.int (iI bn), .int (iI 0), .int (iI 0)]) (rest := []) ⟨hx, hb, hml, hown, hts⟩ (tX1_judge l D kI kZ kL kJ aB aBs aBw aBd aBv bv (bn + 1) bn 0 0 H.size (by first | assumption | omega) (by first | assumption | omega)) (cwV 3 hts (gd_V tb_cons wd_402 wd_403 wd_404 wd_35 wd_405) rfl rfl rfl (by decide +kernel) ⟨Nat.le_of_ble_eq_true rfl, Nat.le_of_ble_eq_true rfl⟩) (ck_preV hxT hK hP hD [0, 4] rfl (by decide) (q0 := 0) rfl rfl rfl) rfl rfl hl.1 rfl (lv_room (Nat.le_of_ble_eq_true rfl)) dX1_add_88 ⟨Nat.zero_le _, Nat.zero_le _⟩) hP hD hS hA [0, 4] [1, 2, 3, 5] (WR := [(aBs, .inl (kI, 200, .inl (iF (cpN bs (bn * 10) nu 10)))), (aBw, .inl (kI, 20, .inl (iF (iu bw bn wt)))), (aBd, .inl (kZ, 20, .inl (iF (iu bd bn dg)))), (an, .inl (kI, 11, .inl (iF nu)))]) rfl rfl (by decide) (by decide) (ws' := [(aBs, .inl (kI, 200, .inl (iF (cpN bs (bn * 10) nu 10)))), (aBw, .inl (kI, 20, .inl (iF (iu bw bn wt)))), (aBd, .inl (kZ, 20, .inl (iF (iu bd bn dg)))), (an, .inl (kI, 11, .inl (iF nu))), (aB, .inr (1, [.ref aBs, .ref aBw, .ref aBd, .ref aBv, .int (iI (bn + 1))])), (aBv, .inl (kI, 80, .inl (iF (iu bv (bn * 4 + 0) 0))))]) rfl (fun H locs hP hD hS => ?_)
          refine lv_aload_n hx hb dX1_add_91 rfl (lv_at hl 2 rfl) ?_
          refine lv_iload hx hb dX1_add_92 (lv_at hl 1 rfl) ?_
          refine lv_iconst (v := iI 1) hx hb dX1_add_94 rfl ?_
          refine lv_iconst (v := iI 1) hx hb dX1_add_95 rfl ?_
          refine ck_backV (va_runV (As := [.int (iI bn), .int (iI 1), .int (iI 1)]) (rest := []) ⟨hx, hb, hml, hown, hts⟩ (tX1_judge l D kI kZ kL kJ aB aBs aBw aBd aBv (iu bv (bn * 4 + 0) 0) (bn + 1) bn 1 1 H.size (by first | assumption | omega) (by first | assumption | omega)) (cwV 3 hts (gd_V tb_cons wd_402 wd_403 wd_404 wd_35 wd_405) rfl rfl rfl (by decide +kernel) ⟨Nat.le_of_ble_eq_true rfl, Nat.le_of_ble_eq_true rfl⟩) (ck_preV hxT hK hP hD [4, 5] rfl (by decide) (q0 := 0) rfl rfl rfl) rfl rfl hl.1 rfl (lv_room (Nat.le_of_ble_eq_true rfl)) dX1_add_96 ⟨Nat.zero_le _, Nat.zero_le _⟩) hP hD hS hA [4, 5] [0, 1, 2, 3] (WR := [(aBs, .inl (kI, 200, .inl (iF (cpN bs (bn * 10) nu 10)))), (aBw, .inl (kI, 20, .inl (iF (iu bw bn wt)))), (aBd, .inl (kZ, 20, .inl (iF (iu bd bn dg)))), (an, .inl (kI, 11, .inl (iF nu)))]) rfl rfl (by decide) (by decide) (ws' := [(aBs, .inl (kI, 200, .inl (iF (cpN bs (bn * 10) nu 10)))), (aBw, .inl (kI, 20, .inl (iF (iu bw bn wt)))), (aBd, .inl (kZ, 20, .inl (iF (iu bd bn dg)))), (an, .inl (kI, 11, .inl (iF nu))), (aB, .inr (1, [.ref aBs, .ref aBw, .ref aBd, .ref aBv, .int (iI (bn + 1))])), (aBv, .inl (kI, 80, .inl (iF (iu (iu bv (bn * 4 + 0) 0) (bn * 4 + 1) 1))))]) rfl (fun H locs hP hD hS => ?_)
          refine lv_aload_n hx hb dX1_add_99 rfl (lv_at hl 2 rfl) ?_
          refine lv_iload hx hb dX1_add_100 (lv_at hl 1 rfl) ?_
          refine lv_iconst (v := iI 2) hx hb dX1_add_102 rfl ?_
          refine lv_iconst (v := iI 1) hx hb dX1_add_103 rfl ?_
          refine ck_backV (va_runV (As := [.int (iI bn), .int (iI 2), .int (iI 1)]) (rest := []) ⟨hx, hb, hml, hown, hts⟩ (tX1_judge l D kI kZ kL kJ aB aBs aBw aBd aBv (iu (iu bv (bn * 4 + 0) 0) (bn * 4 + 1) 1) (bn + 1) bn 2 1 H.size (by first | assumption | omega) (by first | assumption | omega)) (cwV 3 hts (gd_V tb_cons wd_402 wd_403 wd_404 wd_35 wd_405) rfl rfl rfl (by decide +kernel) ⟨Nat.le_of_ble_eq_true rfl, Nat.le_of_ble_eq_true rfl⟩) (ck_preV hxT hK hP hD [4, 5] rfl (by decide) (q0 := 0) rfl rfl rfl) rfl rfl hl.1 rfl (lv_room (Nat.le_of_ble_eq_true rfl)) dX1_add_104 ⟨Nat.zero_le _, Nat.zero_le _⟩) hP hD hS hA [4, 5] [0, 1, 2, 3] (WR := [(aBs, .inl (kI, 200, .inl (iF (cpN bs (bn * 10) nu 10)))), (aBw, .inl (kI, 20, .inl (iF (iu bw bn wt)))), (aBd, .inl (kZ, 20, .inl (iF (iu bd bn dg)))), (an, .inl (kI, 11, .inl (iF nu)))]) rfl rfl (by decide) (by decide) (ws' := [(aBs, .inl (kI, 200, .inl (iF (cpN bs (bn * 10) nu 10)))), (aBw, .inl (kI, 20, .inl (iF (iu bw bn wt)))), (aBd, .inl (kZ, 20, .inl (iF (iu bd bn dg)))), (an, .inl (kI, 11, .inl (iF nu))), (aB, .inr (1, [.ref aBs, .ref aBw, .ref aBd, .ref aBv, .int (iI (bn + 1))])), (aBv, .inl (kI, 80, .inl (iF (iu (iu (iu bv (bn * 4 + 0) 0) (bn * 4 + 1) 1) (bn * 4 + 2) 1))))]) rfl (fun H locs hP hD hS => ?_)
          refine lv_aload_n hx hb dX1_add_107 rfl (lv_at hl 2 rfl) ?_
          refine lv_iload hx hb dX1_add_108 (lv_at hl 1 rfl) ?_
          refine lv_iconst (v := iI 3) hx hb dX1_add_110 rfl ?_
          refine lv_iconst (v := iI 1) hx hb dX1_add_111 rfl ?_
          refine ck_backV (va_runV (As := [.int (iI bn), .int (iI 3), .int (iI 1)]) (rest := []) ⟨hx, hb, hml, hown, hts⟩ (tX1_judge l D kI kZ kL kJ aB aBs aBw aBd aBv (iu (iu (iu bv (bn * 4 + 0) 0) (bn * 4 + 1) 1) (bn * 4 + 2) 1) (bn + 1) bn 3 1 H.size (by first | assumption | omega) (by first | assumption | omega)) (cwV 3 hts (gd_V tb_cons wd_402 wd_403 wd_404 wd_35 wd_405) rfl rfl rfl (by decide +kernel) ⟨Nat.le_of_ble_eq_true rfl, Nat.le_of_ble_eq_true rfl⟩) (ck_preV hxT hK hP hD [4, 5] rfl (by decide) (q0 := 0) rfl rfl rfl) rfl rfl hl.1 rfl (lv_room (Nat.le_of_ble_eq_true rfl)) dX1_add_112 ⟨Nat.zero_le _, Nat.zero_le _⟩) hP hD hS hA [4, 5] [0, 1, 2, 3] (WR := [(aBs, .inl (kI, 200, .inl (iF (cpN bs (bn * 10) nu 10)))), (aBw, .inl (kI, 20, .inl (iF (iu bw bn wt)))), (aBd, .inl (kZ, 20, .inl (iF (iu bd bn dg)))), (an, .inl (kI, 11, .inl (iF nu)))]) rfl rfl (by decide) (by decide) (ws' := [(aBs, .inl (kI, 200, .inl (iF (cpN bs (bn * 10) nu 10)))), (aBw, .inl (kI, 20, .inl (iF (iu bw bn wt)))), (aBd, .inl (kZ, 20, .inl (iF (iu bd bn dg)))), (an, .inl (kI, 11, .inl (iF nu))), (aB, .inr (1, [.ref aBs, .ref aBw, .ref aBd, .ref aBv, .int (iI (bn + 1))])), (aBv, .inl (kI, 80, .inl (iF (iu (iu (iu (iu bv (bn * 4 + 0) 0) (bn * 4 + 1) 1) (bn * 4 + 2) 1) (bn * 4 + 3) 1))))]) rfl (fun H locs hP hD hS => ?_)
          refine lv_iload hx hb dX1_add_115 (lv_at hl 1 rfl) ?_
          have hP := hP.sub (ws' := [(aB, .inr (1, [.ref aBs, .ref aBw, .ref aBd, .ref aBv, .int (iI (bn + 1))])), (aBs, .inl (kI, 200, .inl (iF (cpN bs (bn * 10) nu 10)))), (aBw, .inl (kI, 20, .inl (iF (iu bw bn wt)))), (aBd, .inl (kZ, 20, .inl (iF (iu bd bn dg)))), (aBv, .inl (kI, 80, .inl (iF (iu (iu (iu (iu bv (bn * 4 + 0) 0) (bn * 4 + 1) 1) (bn * 4 + 2) 1) (bn * 4 + 3) 1)))), (an, .inl (kI, 11, .inl (iF nu)))]) [4, 0, 1, 2, 5, 3] rfl
          have hD := hD.sub (ws' := [(aB, .inr (1, [.ref aBs, .ref aBw, .ref aBd, .ref aBv, .int (iI (bn + 1))])), (aBs, .inl (kI, 200, .inl (iF (cpN bs (bn * 10) nu 10)))), (aBw, .inl (kI, 20, .inl (iF (iu bw bn wt)))), (aBd, .inl (kZ, 20, .inl (iF (iu bd bn dg)))), (aBv, .inl (kI, 80, .inl (iF (iu (iu (iu (iu bv (bn * 4 + 0) 0) (bn * 4 + 1) 1) (bn * 4 + 2) 1) (bn * 4 + 3) 1)))), (an, .inl (kI, 11, .inl (iF nu)))]) [4, 0, 1, 2, 5, 3] (by decide) rfl
          exact rk_int hx hb hr hlocks hK hP hD hS (by first | rfl | omega) rfl dX1_add_117
        · skip
          refine lv_iload hx hb dX1_add_37 (lv_at hl 0 rfl) ?_
          refine lv_aload_n hx hb dX1_add_39 rfl (lv_at hl 3 rfl) ?_
          refine va_alen (v := iI 11) hx hb hK hP 5 0 rfl rfl (show Int32.ofNat 11 = iI 11 by decide) dX1_add_40 ?_
          refine wk_icmp_ge (tgt := 67) hx hb dX1_add_41 (by decide) (by omega) (fun c_3 => ?_) (fun c_3 => ?_)
          · skip
            exfalso; omega
          · skip
            refine lv_aload_n hx hb dX1_add_44 rfl (lv_at hl 2 rfl) ?_
            refine va_get (D := D) (ci := 1) (v := .ref aBs) (C := RX1) (T := TX1) (N := 5) hx hb hts (fun w h => (List.mem_cons_of_mem _ (hinX1 w h))) hown hK hP 0 rfl rfl 0 (by decide) (hts _ (List.mem_cons_of_mem _ wd_78)) (fun _ h9 => h9) rfl dX1_add_45 ?_
            refine lv_iload hx hb dX1_add_48 (lv_at hl 1 rfl) ?_
            refine lv_bipush (v := iI 10) hx hb dX1_add_50 (by decide) ?_
            refine wk_imul hx hb dX1_add_52 ?_
            refine lv_iload hx hb dX1_add_53 (lv_at hl 0 rfl) ?_
            refine wk_iadd hx hb dX1_add_55 ?_
            refine lv_aload_n hx hb dX1_add_56 rfl (lv_at hl 3 rfl) ?_
            refine lv_iload hx hb dX1_add_57 (lv_at hl 0 rfl) ?_
            refine wk_iald hx hb hK hP 5 0 rfl rfl (by decide) (by omega) dX1_add_59 ?_
            have b_4 := hnu i
            refine wk_iast hx hb hK hP hD hS 1 0 rfl rfl (by decide) (by omega) dX1_add_60 (ws' := [(aB, .inr (1, [.ref aBs, .ref aBw, .ref aBd, .ref aBv, .int (iI (bn + 1))])), (aBs, .inl (kI, 200, .inl (iF (iu x ((bn * 10) + i) (nu i))))), (aBw, .inl (kI, 20, .inl (iF bw))), (aBd, .inl (kZ, 20, .inl (iF bd))), (aBv, .inl (kI, 80, .inl (iF bv))), (an, .inl (kI, 11, .inl (iF nu)))]) rfl (fun H locs hP hD hS => ?_)
            refine wk_iinc (k := 0) (lv' := [(5, .int (iI (i + 1))), (4, .int (iI bn)), (0, .ref aB), (1, .ref an), (2, .int (iI wt)), (3, .int (iI dg))]) hx hb dX1_add_61 hl rfl (by decide) rfl (fun ls hl => ?_)
            refine lv_goto (tgt := 30) hx hb dX1_add_64 (by decide) ?_
            exact ih (i + 1) (iu x ((bn * 10) + i) (nu i)) (by first | assumption | omega) (by rw [cpN_step bs (bn * 10) nu (by omega), ← hE]) (by omega) H locs ls hP hD hS (lv_sub hl [0, 1, 2, 3, 4, 5] rfl)
    exact loop_30 ((10 : Int) - 0).toNat.succ 0 bs (by first | assumption | rfl | omega) (by first | assumption | rfl | omega) (by omega) H locs ls hP hD hS (lv_sub hl [0, 1, 2, 3, 4, 5] rfl)
  · skip
    exfalso; omega

set_option maxHeartbeats 4000000 in
set_option maxRecDepth 100000 in
theorem tX2_remove (l : Launch) (D : va_G) (kI : ClassId) (kZ : ClassId) (kL : ClassId) (kJ : ClassId) (aQ : Nat) (aQw : Nat) (qw : Int → Int) (qn : Int) (bk : Int) (sz : Nat) (hqn : 0 ≤ qn ∧ qn ≤ 16) (hbk : 0 ≤ bk ∧ bk ≤ 1000000) (hqw : ∀ j, 0 ≤ qw j ∧ qw j ≤ 1000000) : CtV l yX2_remove wsX2_remove ({ frames := 0, cells := 0, slots := 0, locals := 0 }) D vwCl (tyL kI kZ kL kJ) [(aQ, .inr (2, [.ref aQw, .int (iI qn)])), (aQw, .inl (kI, 16, .inl (iF qw)))] [.ref aQ, .int (iI bk)] [(aQ, .inr (2, [.ref aQw, .int (iI ((rmL bk qn (qn - 0).toNat 0 0 qw).2))])), (aQw, .inl (kI, 16, .inl (iF ((rmL bk qn (qn - 0).toNat 0 0 qw).1))))] sz := by
  refine ck_start (Qc := fun A => cQv D vwCl (tyL kI kZ kL kJ) A [(aQ, .inr (2, [.ref aQw, .int (iI ((rmL bk qn (qn - 0).toNat 0 0 qw).2))])), (aQw, .inl (kI, 16, .inl (iF ((rmL bk qn (qn - 0).toNat 0 0 qw).1))))]) (cc := cX2_remove) (maxL := 4) (ret := none) (LV := [(0, .ref aQ), (1, .int (iI bk))]) (by decide) rfl rfl (Nat.le_of_ble_eq_true rfl) ?_
  intro p e s m below meth cd hadm hx hb hr hml hts hown hlocks hname hnoh hxT A hA hK hP hD hS ls hl
  refine lv_iconst (v := iI 0) hx hb dX2_remove_0 rfl ?_
  refine lv_istore_n (lv' := [(2, .int (iI 0)), (0, .ref aQ), (1, .int (iI bk))]) hx hb dX2_remove_1 rfl hl (by decide) rfl (fun ls hl => ?_)
  refine lv_iconst (v := iI 0) hx hb dX2_remove_2 rfl ?_
  refine lv_istore_n (lv' := [(3, .int (iI 0)), (2, .int (iI 0)), (0, .ref aQ), (1, .int (iI bk))]) hx hb dX2_remove_3 rfl hl (by decide) rfl (fun ls hl => ?_)
  have loop_4 : ∀ (fu : Nat) (k : Int) (i : Int) (x : Int → Int), (0 ≤ k ∧ k ≤ i ∧ i ≤ qn) → (∀ j, 0 ≤ x j ∧ x j ≤ 1000000) → (rmL bk qn (qn - i).toNat i k x = rmL bk qn (qn - 0).toNat 0 0 qw) → (qn - i) < (fu : Int) → ∀ (H : Heap) (locs : List Loc) (ls : Array Slot), va_P D vwCl [(aQ, .inr (2, [.ref aQw, .int (iI qn)])), (aQw, .inl (kI, 16, .inl (iF x)))] H → va_D A [(aQ, .inr (2, [.ref aQw, .int (iI qn)])), (aQw, .inl (kI, 16, .inl (iF x)))] → va_S A s.heap H locs → lv_has ls 4 [(3, .int (iI i)), (2, .int (iI k)), (0, .ref aQ), (1, .int (iI bk))] → W p l e ({ frames := 0, cells := 0, slots := 0, locals := 0 }) s m ([.ref aQ, .int (iI bk)] : List Value).toArray below meth cd H locs 0 0 (MQ below (cQv D vwCl (tyL kI kZ kL kJ) A [(aQ, .inr (2, [.ref aQw, .int (iI ((rmL bk qn (qn - 0).toNat 0 0 qw).2))])), (aQw, .inl (kI, 16, .inl (iF ((rmL bk qn (qn - 0).toNat 0 0 qw).1))))]) ([.ref aQ, .int (iI bk)] : List Value).toArray s 0 0 A) (F0 m 4 ls []) := by
    intro fu
    induction fu with
    | zero => intro k i x hi hx0 hE hfu; exfalso; omega
    | succ fu ih =>
      intro k i x hi hx0 hE hfu H locs ls hP hD hS hl
      refine lv_iload_n hx hb dX2_remove_4 rfl (lv_at hl 0 rfl) ?_
      refine lv_aload_n hx hb dX2_remove_5 rfl (lv_at hl 2 rfl) ?_
      refine va_get (D := D) (ci := 2) (v := .int (iI qn)) (C := RX2) (T := TX2) (N := 2) hx hb hts (fun w h => (List.mem_cons_of_mem _ (hinX2 w h))) hown hK hP 0 rfl rfl 1 (by decide) (hts _ (List.mem_cons_of_mem _ wd_182)) (fun _ h9 => h9) rfl dX2_remove_6 ?_
      refine wk_icmp_ge (tgt := 43) hx hb dX2_remove_9 (by decide) (by omega) (fun c_1 => ?_) (fun c_1 => ?_)
      · skip
        have e9 := hE
        rw [rmL_end (by omega)] at e9
        refine lv_aload_n hx hb dX2_remove_43 rfl (lv_at hl 2 rfl) ?_
        refine lv_iload_n hx hb dX2_remove_44 rfl (lv_at hl 1 rfl) ?_
        refine wk_put (ci := 2) (C := RX2) (T := TX2) (N := 2) hx hb hts (fun w h => (List.mem_cons_of_mem _ (hinX2 w h))) tyX2 tyX2_ok nmX2 hown hK hP hD hS 0 rfl rfl 1 (by decide) (hts _ (List.mem_cons_of_mem _ wd_182)) (fun _ h9 => h9) rfl rfl (Nat.le_of_ble_eq_true rfl) dX2_remove_45 (ws' := [(aQ, .inr (2, [.ref aQw, .int (iI k)])), (aQw, .inl (kI, 16, .inl (iF x)))]) rfl (fun H locs hP hD hS => ?_)
        exact rk_void hx hb hr hlocks hK hP hD hS (by rw [← e9]) dX2_remove_48
      · skip
        refine lv_aload_n hx hb dX2_remove_12 rfl (lv_at hl 2 rfl) ?_
        refine va_get (D := D) (ci := 2) (v := .ref aQw) (C := RX2) (T := TX2) (N := 2) hx hb hts (fun w h => (List.mem_cons_of_mem _ (hinX2 w h))) hown hK hP 0 rfl rfl 0 (by decide) (hts _ (List.mem_cons_of_mem _ wd_181)) (fun _ h9 => h9) rfl dX2_remove_13 ?_
        refine lv_iload_n hx hb dX2_remove_16 rfl (lv_at hl 0 rfl) ?_
        refine wk_iald hx hb hK hP 1 0 rfl rfl (by decide) (by omega) dX2_remove_17 ?_
        have b_2 := hx0 i
        refine lv_iload_n hx hb dX2_remove_18 rfl (lv_at hl 3 rfl) ?_
        refine wk_icmp_eq (tgt := 37) hx hb dX2_remove_19 (by decide) (by omega) (fun c_3 => ?_) (fun c_3 => ?_)
        · skip
          refine wk_iinc (k := 0) (lv' := [(3, .int (iI (i + 1))), (2, .int (iI k)), (0, .ref aQ), (1, .int (iI bk))]) hx hb dX2_remove_37 hl rfl (by decide) rfl (fun ls hl => ?_)
          refine lv_goto (tgt := 4) hx hb dX2_remove_40 (by decide) ?_
          exact ih k (i + 1) x (by first | assumption | omega) (by first | assumption | (intro j; unfold iu; split; exact hx0 i; exact hx0 j)) (by have e9 := hE; rw [rmL_step (by omega)] at e9; first | (rw [if_pos (by assumption)] at e9; exact e9) | (rw [if_neg (by assumption)] at e9; exact e9)) (by omega) H locs ls hP hD hS (lv_sub hl [0, 1, 2, 3] rfl)
        · skip
          refine lv_aload_n hx hb dX2_remove_22 rfl (lv_at hl 2 rfl) ?_
          refine va_get (D := D) (ci := 2) (v := .ref aQw) (C := RX2) (T := TX2) (N := 2) hx hb hts (fun w h => (List.mem_cons_of_mem _ (hinX2 w h))) hown hK hP 0 rfl rfl 0 (by decide) (hts _ (List.mem_cons_of_mem _ wd_181)) (fun _ h9 => h9) rfl dX2_remove_23 ?_
          refine lv_iload_n hx hb dX2_remove_26 rfl (lv_at hl 1 rfl) ?_
          refine lv_aload_n hx hb dX2_remove_27 rfl (lv_at hl 2 rfl) ?_
          refine va_get (D := D) (ci := 2) (v := .ref aQw) (C := RX2) (T := TX2) (N := 2) hx hb hts (fun w h => (List.mem_cons_of_mem _ (hinX2 w h))) hown hK hP 0 rfl rfl 0 (by decide) (hts _ (List.mem_cons_of_mem _ wd_181)) (fun _ h9 => h9) rfl dX2_remove_28 ?_
          refine lv_iload_n hx hb dX2_remove_31 rfl (lv_at hl 0 rfl) ?_
          refine wk_iald hx hb hK hP 1 0 rfl rfl (by decide) (by omega) dX2_remove_32 ?_
          have b_4 := hx0 i
          refine wk_iast hx hb hK hP hD hS 1 0 rfl rfl (by decide) (by omega) dX2_remove_33 (ws' := [(aQ, .inr (2, [.ref aQw, .int (iI qn)])), (aQw, .inl (kI, 16, .inl (iF (iu x k (x i)))))]) rfl (fun H locs hP hD hS => ?_)
          refine wk_iinc (k := 1) (lv' := [(2, .int (iI (k + 1))), (3, .int (iI i)), (0, .ref aQ), (1, .int (iI bk))]) hx hb dX2_remove_34 hl rfl (by decide) rfl (fun ls hl => ?_)
          refine wk_iinc (k := 1) (lv' := [(3, .int (iI (i + 1))), (2, .int (iI (k + 1))), (0, .ref aQ), (1, .int (iI bk))]) hx hb dX2_remove_37 hl rfl (by decide) rfl (fun ls hl => ?_)
          refine lv_goto (tgt := 4) hx hb dX2_remove_40 (by decide) ?_
          exact ih (k + 1) (i + 1) (iu x k (x i)) (by first | assumption | omega) (by first | assumption | (intro j; unfold iu; split; exact hx0 i; exact hx0 j)) (by have e9 := hE; rw [rmL_step (by omega)] at e9; first | (rw [if_pos (by assumption)] at e9; exact e9) | (rw [if_neg (by assumption)] at e9; exact e9)) (by omega) H locs ls hP hD hS (lv_sub hl [0, 1, 2, 3] rfl)
  exact loop_4 (qn - 0).toNat.succ 0 0 qw (by first | assumption | rfl | omega) (by assumption) (by rfl) (by omega) s.heap [] ls hP hD hS (lv_sub hl [0, 1, 2, 3] rfl)
end
section
set_option maxHeartbeats 4000000 in
set_option maxRecDepth 100000 in
theorem tX6_needSlot (l : Launch) (D : va_G) (kI : ClassId) (kZ : ClassId) (kL : ClassId) (kJ : ClassId) (g : Nat) (aR : Nat) (aB : Nat) (aT : Nat) (aS : Nat) (aK : Nat) (aL : Nat) (aSt : Nat) (nw : Int) (al : Int) (lg : Int) (tt : Int) (dn : Int) (sn : Int) (sm : Int) (sl : Int) (sz : Nat) (hsl : 0 ≤ sl ∧ sl < sn) (hsn : 1 ≤ sn ∧ sn ≤ 24) : CtPv l yX6_needSlot wsX6_needSlot ({ frames := 1, cells := 0, slots := 0, locals := 21 }) D vwCl (tyL kI kZ kL kJ) [(g, .inr (6, [.ref aR, .ref aB, .ref aT, .ref aS, .ref aK, .ref aL, .int (iI nw), .int (iI al), .int (iI lg), .int (iI tt), .int (iI dn)])), (aS, .inr (4, [.ref aSt, .int (iI sn), .int (iI sm)]))] [.ref g, .int (iI sl)] sz := by
  refine pk_start (cc := cX6_needSlot) (maxL := 2) (ret := none) (LV := [(0, .ref g), (1, .int (iI sl))]) (by decide) rfl rfl (Nat.le_of_ble_eq_true rfl) ?_
  intro p e s m below meth cd hadm hx hb hr hml hts hown hlocks hname hnoh hxT A hA hK hP hD hS ls hl
  refine lv_aload_n hx hb dX6_needSlot_0 rfl (lv_at hl 0 rfl) ?_
  refine va_get (D := D) (ci := 6) (v := .ref aS) (C := RX6) (T := TX6) (N := 11) hx hb hts (fun w h => (List.mem_cons_of_mem _ (hinX6 w h))) hown hK hP 0 rfl rfl 3 (by decide) (hts _ (List.mem_cons_of_mem _ wd_192)) (fun _ h9 => h9) rfl dX6_needSlot_1 ?_
  refine lv_iload_n hx hb dX6_needSlot_4 rfl (lv_at hl 1 rfl) ?_
  refine pk_callI (va_runV (As := [.int (iI sl)]) (rest := []) ⟨hx, hb, hml, hown, hts⟩ (tX4_has l D kI kZ kL kJ aS aSt sn sm sl s.heap.size (by first | assumption | omega) (by first | assumption | omega)) (cwV 1 hts (gd_V tb_cons wd_260 wd_261 wd_262 wd_37 wd_263) rfl rfl rfl (by decide +kernel) ⟨Nat.le_of_ble_eq_true rfl, Nat.le_of_ble_eq_true rfl⟩) (ck_preV hxT hK hP hD [1] rfl (by decide) (q0 := 0) rfl rfl rfl) rfl rfl hl.1 rfl (lv_room (Nat.le_of_ble_eq_true rfl)) dX6_needSlot_5 ⟨Nat.zero_le _, Nat.zero_le _⟩) ?_
  refine wk_bif_ne (tgt := 21) hx hb dX6_needSlot_8 (by decide) (fun c_1 => ?_) (fun c_1 => ?_)
  · skip
    exact pk_void hx hb hr hlocks dX6_needSlot_21
  · skip
    exfalso; omega

set_option maxHeartbeats 4000000 in
set_option maxRecDepth 100000 in
theorem tX6_needSlot_t (l : Launch) (D : va_G) (kI : ClassId) (kZ : ClassId) (kL : ClassId) (kJ : ClassId) (g : Nat) (aR : Nat) (aB : Nat) (aT : Nat) (aS : Nat) (aK : Nat) (aL : Nat) (aSt : Nat) (nw : Int) (al : Int) (lg : Int) (tt : Int) (dn : Int) (sn : Int) (sm : Int) (sl : Int) (sz : Nat) (hfl : l.flags = pinnedFlags ++ [noTraceFlag]) (hsl : -2147483648 ≤ sl ∧ sl ≤ 2147483647) (hnsl : ¬ (0 ≤ sl ∧ sl < sn)) (hsn : 1 ≤ sn ∧ sn ≤ 24) : CtT l yX6_needSlot wsX6_needSlot ({ frames := 6, cells := 1, slots := 6, locals := 82 }) D vwCl (tyL kI kZ kL kJ) [(g, .inr (6, [.ref aR, .ref aB, .ref aT, .ref aS, .ref aK, .ref aL, .int (iI nw), .int (iI al), .int (iI lg), .int (iI tt), .int (iI dn)])), (aS, .inr (4, [.ref aSt, .int (iI sn), .int (iI sm)]))] [.ref g, .int (iI sl)] "java/lang/IndexOutOfBoundsException" sz := by
  refine ct_start (cc := cX6_needSlot) (maxL := 2) (ret := none) (LV := [(0, .ref g), (1, .int (iI sl))]) (by decide) rfl rfl (Nat.le_of_ble_eq_true rfl) ?_
  intro p e s m below meth cd hadm hx hb hr hml hts hown hlocks hname hnoh hxT hzT A hA hK hP hD hS ls hl
  refine lv_aload_n hx hb dX6_needSlot_0 rfl (lv_at hl 0 rfl) ?_
  refine va_get (D := D) (ci := 6) (v := .ref aS) (C := RX6) (T := TX6) (N := 11) hx hb hts (fun w h => (List.mem_cons_of_mem _ (hinX6 w h))) hown hK hP 0 rfl rfl 3 (by decide) (hts _ (List.mem_cons_of_mem _ wd_192)) (fun _ h9 => h9) rfl dX6_needSlot_1 ?_
  refine lv_iload_n hx hb dX6_needSlot_4 rfl (lv_at hl 1 rfl) ?_
  refine pk_callI (va_runV (As := [.int (iI sl)]) (rest := []) ⟨hx, hb, hml, hown, hts⟩ (tX4_has l D kI kZ kL kJ aS aSt sn sm sl s.heap.size (by first | assumption | omega) (by first | assumption | omega)) (cwV 1 hts (gd_V tb_cons wd_260 wd_261 wd_262 wd_37 wd_263) rfl rfl rfl (by decide +kernel) ⟨Nat.le_of_ble_eq_true rfl, Nat.le_of_ble_eq_true rfl⟩) (ck_preV hxT hK hP hD [1] rfl (by decide) (q0 := 0) rfl rfl rfl) rfl rfl hl.1 rfl (lv_room (Nat.le_of_ble_eq_true rfl)) dX6_needSlot_5 ⟨Nat.zero_le _, Nat.zero_le _⟩) ?_
  refine wk_bif_ne (tgt := 21) hx hb dX6_needSlot_8 (by decide) (fun c_1 => ?_) (fun c_1 => ?_)
  · skip
    exfalso; omega
  · skip
    obtain ⟨q9, hZ9⟩ := xt_s255 hxT
    exact wt_new (names := exN) hx hb hown (Launch.traces_off hfl hadm) hlocks hnoh (hl.1.trans hml.symm) (by decide) (by decide) (ex_i (fun w h => hts w (List.mem_cons_of_mem _ h)) hzT hxT) (hts _ (List.mem_cons_of_mem _ wd_419)) (hts _ (List.mem_cons_of_mem _ wd_47)) hZ9 dX6_needSlot_11 dX6_needSlot_14 dX6_needSlot_15 dX6_needSlot_17 dX6_needSlot_20 (Nat.le_of_ble_eq_true rfl) (Nat.le_of_ble_eq_true rfl) (Nat.le_of_ble_eq_true rfl) (Nat.le_of_ble_eq_true rfl)

set_option maxHeartbeats 4000000 in
set_option maxRecDepth 100000 in
theorem tX6_needTruck (l : Launch) (D : va_G) (kI : ClassId) (kZ : ClassId) (kL : ClassId) (kJ : ClassId) (g : Nat) (aR : Nat) (aB : Nat) (aT : Nat) (aS : Nat) (aK : Nat) (aL : Nat) (nw : Int) (al : Int) (lg : Int) (tt : Int) (dn : Int) (tr : Int) (sz : Nat) (htr : 0 ≤ tr ∧ tr < 16) : CtPv l yX6_needTruck wsX6_needTruck ({ frames := 0, cells := 0, slots := 0, locals := 0 }) D vwCl (tyL kI kZ kL kJ) [(g, .inr (6, [.ref aR, .ref aB, .ref aT, .ref aS, .ref aK, .ref aL, .int (iI nw), .int (iI al), .int (iI lg), .int (iI tt), .int (iI dn)]))] [.ref g, .int (iI tr)] sz := by
  refine pk_start (cc := cX6_needTruck) (maxL := 2) (ret := none) (LV := [(0, .ref g), (1, .int (iI tr))]) (by decide) rfl rfl (Nat.le_of_ble_eq_true rfl) ?_
  intro p e s m below meth cd hadm hx hb hr hml hts hown hlocks hname hnoh hxT A hA hK hP hD hS ls hl
  refine lv_iload_n hx hb dX6_needTruck_0 rfl (lv_at hl 1 rfl) ?_
  refine wk_if_lt (tgt := 10) hx hb dX6_needTruck_1 (by decide) (by omega) (fun c_1 => ?_) (fun c_1 => ?_)
  · skip
    exfalso; omega
  · skip
    refine lv_iload_n hx hb dX6_needTruck_4 rfl (lv_at hl 1 rfl) ?_
    refine lv_bipush (v := iI 16) hx hb dX6_needTruck_5 (by decide) ?_
    refine wk_icmp_lt (tgt := 21) hx hb dX6_needTruck_7 (by decide) (by omega) (fun c_2 => ?_) (fun c_2 => ?_)
    · skip
      exact pk_void hx hb hr hlocks dX6_needTruck_21
    · skip
      exfalso; omega

set_option maxHeartbeats 4000000 in
set_option maxRecDepth 100000 in
theorem tX6_needTruck_t (l : Launch) (D : va_G) (kI : ClassId) (kZ : ClassId) (kL : ClassId) (kJ : ClassId) (g : Nat) (aR : Nat) (aB : Nat) (aT : Nat) (aS : Nat) (aK : Nat) (aL : Nat) (nw : Int) (al : Int) (lg : Int) (tt : Int) (dn : Int) (tr : Int) (sz : Nat) (hfl : l.flags = pinnedFlags ++ [noTraceFlag]) (htr : -2147483648 ≤ tr ∧ tr ≤ 2147483647) (hntr : ¬ (0 ≤ tr ∧ tr < 16)) : CtT l yX6_needTruck wsX6_needTruck ({ frames := 6, cells := 1, slots := 6, locals := 82 }) D vwCl (tyL kI kZ kL kJ) [(g, .inr (6, [.ref aR, .ref aB, .ref aT, .ref aS, .ref aK, .ref aL, .int (iI nw), .int (iI al), .int (iI lg), .int (iI tt), .int (iI dn)]))] [.ref g, .int (iI tr)] "java/lang/IndexOutOfBoundsException" sz := by
  refine ct_start (cc := cX6_needTruck) (maxL := 2) (ret := none) (LV := [(0, .ref g), (1, .int (iI tr))]) (by decide) rfl rfl (Nat.le_of_ble_eq_true rfl) ?_
  intro p e s m below meth cd hadm hx hb hr hml hts hown hlocks hname hnoh hxT hzT A hA hK hP hD hS ls hl
  refine lv_iload_n hx hb dX6_needTruck_0 rfl (lv_at hl 1 rfl) ?_
  refine wk_if_lt (tgt := 10) hx hb dX6_needTruck_1 (by decide) (by omega) (fun c_1 => ?_) (fun c_1 => ?_)
  · skip
    obtain ⟨q9, hZ9⟩ := xt_s257 hxT
    exact wt_newW (names := exN) hx hb hown (Launch.traces_off hfl hadm) hlocks hnoh (hl.1.trans hml.symm) (by decide) (by decide) (ex_i (fun w h => hts w (List.mem_cons_of_mem _ h)) hzT hxT) (hts _ (List.mem_cons_of_mem _ wd_419)) (hts _ (List.mem_cons_of_mem _ wd_47)) hZ9 dX6_needTruck_10 dX6_needTruck_13 dX6_needTruck_14 dX6_needTruck_17 dX6_needTruck_20 (Nat.le_of_ble_eq_true rfl) (Nat.le_of_ble_eq_true rfl) (Nat.le_of_ble_eq_true rfl) (Nat.le_of_ble_eq_true rfl)
  · skip
    refine lv_iload_n hx hb dX6_needTruck_4 rfl (lv_at hl 1 rfl) ?_
    refine lv_bipush (v := iI 16) hx hb dX6_needTruck_5 (by decide) ?_
    refine wk_icmp_lt (tgt := 21) hx hb dX6_needTruck_7 (by decide) (by omega) (fun c_2 => ?_) (fun c_2 => ?_)
    · skip
      exfalso; omega
    · skip
      obtain ⟨q9, hZ9⟩ := xt_s257 hxT
      exact wt_newW (names := exN) hx hb hown (Launch.traces_off hfl hadm) hlocks hnoh (hl.1.trans hml.symm) (by decide) (by decide) (ex_i (fun w h => hts w (List.mem_cons_of_mem _ h)) hzT hxT) (hts _ (List.mem_cons_of_mem _ wd_419)) (hts _ (List.mem_cons_of_mem _ wd_47)) hZ9 dX6_needTruck_10 dX6_needTruck_13 dX6_needTruck_14 dX6_needTruck_17 dX6_needTruck_20 (Nat.le_of_ble_eq_true rfl) (Nat.le_of_ble_eq_true rfl) (Nat.le_of_ble_eq_true rfl) (Nat.le_of_ble_eq_true rfl)

set_option maxHeartbeats 4000000 in
set_option maxRecDepth 100000 in
theorem tX6_needBox (l : Launch) (D : va_G) (kI : ClassId) (kZ : ClassId) (kL : ClassId) (kJ : ClassId) (g : Nat) (aR : Nat) (aB : Nat) (aT : Nat) (aS : Nat) (aK : Nat) (aL : Nat) (aBs : Nat) (aBw : Nat) (aBd : Nat) (aBv : Nat) (nw : Int) (al : Int) (lg : Int) (tt : Int) (dn : Int) (bn : Int) (bx : Int) (sz : Nat) (hbx : 0 ≤ bx ∧ bx < bn) (hbn : 0 ≤ bn ∧ bn ≤ 20) : CtPv l yX6_needBox wsX6_needBox ({ frames := 0, cells := 0, slots := 0, locals := 0 }) D vwCl (tyL kI kZ kL kJ) [(g, .inr (6, [.ref aR, .ref aB, .ref aT, .ref aS, .ref aK, .ref aL, .int (iI nw), .int (iI al), .int (iI lg), .int (iI tt), .int (iI dn)])), (aB, .inr (1, [.ref aBs, .ref aBw, .ref aBd, .ref aBv, .int (iI bn)]))] [.ref g, .int (iI bx)] sz := by
  refine pk_start (cc := cX6_needBox) (maxL := 2) (ret := none) (LV := [(0, .ref g), (1, .int (iI bx))]) (by decide) rfl rfl (Nat.le_of_ble_eq_true rfl) ?_
  intro p e s m below meth cd hadm hx hb hr hml hts hown hlocks hname hnoh hxT A hA hK hP hD hS ls hl
  refine lv_iload_n hx hb dX6_needBox_0 rfl (lv_at hl 1 rfl) ?_
  refine wk_if_lt (tgt := 15) hx hb dX6_needBox_1 (by decide) (by omega) (fun c_1 => ?_) (fun c_1 => ?_)
  · skip
    exfalso; omega
  · skip
    refine lv_iload_n hx hb dX6_needBox_4 rfl (lv_at hl 1 rfl) ?_
    refine lv_aload_n hx hb dX6_needBox_5 rfl (lv_at hl 0 rfl) ?_
    refine va_get (D := D) (ci := 6) (v := .ref aB) (C := RX6) (T := TX6) (N := 11) hx hb hts (fun w h => (List.mem_cons_of_mem _ (hinX6 w h))) hown hK hP 0 rfl rfl 1 (by decide) (hts _ (List.mem_cons_of_mem _ wd_190)) (fun _ h9 => h9) rfl dX6_needBox_6 ?_
    refine va_get (D := D) (ci := 1) (v := .int (iI bn)) (C := RX1) (T := TX1) (N := 5) hx hb hts (fun w h => (List.mem_cons_of_mem _ (hinX1 w h))) hown hK hP 1 rfl rfl 4 (by decide) (hts _ (List.mem_cons_of_mem _ wd_86)) (fun _ h9 => h9) rfl dX6_needBox_9 ?_
    refine wk_icmp_lt (tgt := 26) hx hb dX6_needBox_12 (by decide) (by omega) (fun c_2 => ?_) (fun c_2 => ?_)
    · skip
      exact pk_void hx hb hr hlocks dX6_needBox_26
    · skip
      exfalso; omega

set_option maxHeartbeats 4000000 in
set_option maxRecDepth 100000 in
theorem tX6_needBox_t (l : Launch) (D : va_G) (kI : ClassId) (kZ : ClassId) (kL : ClassId) (kJ : ClassId) (g : Nat) (aR : Nat) (aB : Nat) (aT : Nat) (aS : Nat) (aK : Nat) (aL : Nat) (aBs : Nat) (aBw : Nat) (aBd : Nat) (aBv : Nat) (nw : Int) (al : Int) (lg : Int) (tt : Int) (dn : Int) (bn : Int) (bx : Int) (sz : Nat) (hfl : l.flags = pinnedFlags ++ [noTraceFlag]) (hbx : -2147483648 ≤ bx ∧ bx ≤ 2147483647) (hnbx : ¬ (0 ≤ bx ∧ bx < bn)) (hbn : 0 ≤ bn ∧ bn ≤ 20) : CtT l yX6_needBox wsX6_needBox ({ frames := 6, cells := 1, slots := 6, locals := 82 }) D vwCl (tyL kI kZ kL kJ) [(g, .inr (6, [.ref aR, .ref aB, .ref aT, .ref aS, .ref aK, .ref aL, .int (iI nw), .int (iI al), .int (iI lg), .int (iI tt), .int (iI dn)])), (aB, .inr (1, [.ref aBs, .ref aBw, .ref aBd, .ref aBv, .int (iI bn)]))] [.ref g, .int (iI bx)] "java/lang/IndexOutOfBoundsException" sz := by
  refine ct_start (cc := cX6_needBox) (maxL := 2) (ret := none) (LV := [(0, .ref g), (1, .int (iI bx))]) (by decide) rfl rfl (Nat.le_of_ble_eq_true rfl) ?_
  intro p e s m below meth cd hadm hx hb hr hml hts hown hlocks hname hnoh hxT hzT A hA hK hP hD hS ls hl
  refine lv_iload_n hx hb dX6_needBox_0 rfl (lv_at hl 1 rfl) ?_
  refine wk_if_lt (tgt := 15) hx hb dX6_needBox_1 (by decide) (by omega) (fun c_1 => ?_) (fun c_1 => ?_)
  · skip
    obtain ⟨q9, hZ9⟩ := xt_s259 hxT
    exact wt_newW (names := exN) hx hb hown (Launch.traces_off hfl hadm) hlocks hnoh (hl.1.trans hml.symm) (by decide) (by decide) (ex_i (fun w h => hts w (List.mem_cons_of_mem _ h)) hzT hxT) (hts _ (List.mem_cons_of_mem _ wd_419)) (hts _ (List.mem_cons_of_mem _ wd_47)) hZ9 dX6_needBox_15 dX6_needBox_18 dX6_needBox_19 dX6_needBox_22 dX6_needBox_25 (Nat.le_of_ble_eq_true rfl) (Nat.le_of_ble_eq_true rfl) (Nat.le_of_ble_eq_true rfl) (Nat.le_of_ble_eq_true rfl)
  · skip
    refine lv_iload_n hx hb dX6_needBox_4 rfl (lv_at hl 1 rfl) ?_
    refine lv_aload_n hx hb dX6_needBox_5 rfl (lv_at hl 0 rfl) ?_
    refine va_get (D := D) (ci := 6) (v := .ref aB) (C := RX6) (T := TX6) (N := 11) hx hb hts (fun w h => (List.mem_cons_of_mem _ (hinX6 w h))) hown hK hP 0 rfl rfl 1 (by decide) (hts _ (List.mem_cons_of_mem _ wd_190)) (fun _ h9 => h9) rfl dX6_needBox_6 ?_
    refine va_get (D := D) (ci := 1) (v := .int (iI bn)) (C := RX1) (T := TX1) (N := 5) hx hb hts (fun w h => (List.mem_cons_of_mem _ (hinX1 w h))) hown hK hP 1 rfl rfl 4 (by decide) (hts _ (List.mem_cons_of_mem _ wd_86)) (fun _ h9 => h9) rfl dX6_needBox_9 ?_
    refine wk_icmp_lt (tgt := 26) hx hb dX6_needBox_12 (by decide) (by omega) (fun c_2 => ?_) (fun c_2 => ?_)
    · skip
      exfalso; omega
    · skip
      obtain ⟨q9, hZ9⟩ := xt_s259 hxT
      exact wt_newW (names := exN) hx hb hown (Launch.traces_off hfl hadm) hlocks hnoh (hl.1.trans hml.symm) (by decide) (by decide) (ex_i (fun w h => hts w (List.mem_cons_of_mem _ h)) hzT hxT) (hts _ (List.mem_cons_of_mem _ wd_419)) (hts _ (List.mem_cons_of_mem _ wd_47)) hZ9 dX6_needBox_15 dX6_needBox_18 dX6_needBox_19 dX6_needBox_22 dX6_needBox_25 (Nat.le_of_ble_eq_true rfl) (Nat.le_of_ble_eq_true rfl) (Nat.le_of_ble_eq_true rfl) (Nat.le_of_ble_eq_true rfl)

set_option maxHeartbeats 4000000 in
set_option maxRecDepth 100000 in
theorem tX6_needBooking (l : Launch) (D : va_G) (kI : ClassId) (kZ : ClassId) (kL : ClassId) (kJ : ClassId) (g : Nat) (aR : Nat) (aB : Nat) (aT : Nat) (aS : Nat) (aK : Nat) (aL : Nat) (aKs : Nat) (aKt : Nat) (aKb : Nat) (aKz : Nat) (aKl : Nat) (aKc : Nat) (aKu : Nat) (nw : Int) (al : Int) (lg : Int) (tt : Int) (dn : Int) (kn : Int) (bk : Int) (sz : Nat) (hbk : 1 ≤ bk ∧ bk ≤ kn) (hkn : 0 ≤ kn ∧ kn ≤ 60) : CtPv l yX6_needBooking wsX6_needBooking ({ frames := 0, cells := 0, slots := 0, locals := 0 }) D vwCl (tyL kI kZ kL kJ) [(g, .inr (6, [.ref aR, .ref aB, .ref aT, .ref aS, .ref aK, .ref aL, .int (iI nw), .int (iI al), .int (iI lg), .int (iI tt), .int (iI dn)])), (aK, .inr (0, [.ref aKs, .ref aKt, .ref aKb, .ref aKz, .ref aKl, .ref aKc, .ref aKu, .int (iI kn)]))] [.ref g, .int (iI bk)] sz := by
  refine pk_start (cc := cX6_needBooking) (maxL := 2) (ret := none) (LV := [(0, .ref g), (1, .int (iI bk))]) (by decide) rfl rfl (Nat.le_of_ble_eq_true rfl) ?_
  intro p e s m below meth cd hadm hx hb hr hml hts hown hlocks hname hnoh hxT A hA hK hP hD hS ls hl
  refine lv_iload_n hx hb dX6_needBooking_0 rfl (lv_at hl 1 rfl) ?_
  refine lv_iconst (v := iI 1) hx hb dX6_needBooking_1 rfl ?_
  refine wk_icmp_lt (tgt := 16) hx hb dX6_needBooking_2 (by decide) (by omega) (fun c_1 => ?_) (fun c_1 => ?_)
  · skip
    exfalso; omega
  · skip
    refine lv_iload_n hx hb dX6_needBooking_5 rfl (lv_at hl 1 rfl) ?_
    refine lv_aload_n hx hb dX6_needBooking_6 rfl (lv_at hl 0 rfl) ?_
    refine va_get (D := D) (ci := 6) (v := .ref aK) (C := RX6) (T := TX6) (N := 11) hx hb hts (fun w h => (List.mem_cons_of_mem _ (hinX6 w h))) hown hK hP 0 rfl rfl 4 (by decide) (hts _ (List.mem_cons_of_mem _ wd_193)) (fun _ h9 => h9) rfl dX6_needBooking_7 ?_
    refine va_get (D := D) (ci := 0) (v := .int (iI kn)) (C := RX0) (T := TX0) (N := 8) hx hb hts (fun w h => (List.mem_cons_of_mem _ (hinX0 w h))) hown hK hP 1 rfl rfl 7 (by decide) (hts _ (List.mem_cons_of_mem _ wd_156)) (fun _ h9 => h9) rfl dX6_needBooking_10 ?_
    refine wk_icmp_le (tgt := 27) hx hb dX6_needBooking_13 (by decide) (by omega) (fun c_2 => ?_) (fun c_2 => ?_)
    · skip
      exact pk_void hx hb hr hlocks dX6_needBooking_27
    · skip
      exfalso; omega

set_option maxHeartbeats 4000000 in
set_option maxRecDepth 100000 in
theorem tX6_needBooking_t (l : Launch) (D : va_G) (kI : ClassId) (kZ : ClassId) (kL : ClassId) (kJ : ClassId) (g : Nat) (aR : Nat) (aB : Nat) (aT : Nat) (aS : Nat) (aK : Nat) (aL : Nat) (aKs : Nat) (aKt : Nat) (aKb : Nat) (aKz : Nat) (aKl : Nat) (aKc : Nat) (aKu : Nat) (nw : Int) (al : Int) (lg : Int) (tt : Int) (dn : Int) (kn : Int) (bk : Int) (sz : Nat) (hfl : l.flags = pinnedFlags ++ [noTraceFlag]) (hbk : -2147483648 ≤ bk ∧ bk ≤ 2147483647) (hnbk : ¬ (1 ≤ bk ∧ bk ≤ kn)) (hkn : 0 ≤ kn ∧ kn ≤ 60) : CtT l yX6_needBooking wsX6_needBooking ({ frames := 6, cells := 1, slots := 6, locals := 82 }) D vwCl (tyL kI kZ kL kJ) [(g, .inr (6, [.ref aR, .ref aB, .ref aT, .ref aS, .ref aK, .ref aL, .int (iI nw), .int (iI al), .int (iI lg), .int (iI tt), .int (iI dn)])), (aK, .inr (0, [.ref aKs, .ref aKt, .ref aKb, .ref aKz, .ref aKl, .ref aKc, .ref aKu, .int (iI kn)]))] [.ref g, .int (iI bk)] "java/lang/IndexOutOfBoundsException" sz := by
  refine ct_start (cc := cX6_needBooking) (maxL := 2) (ret := none) (LV := [(0, .ref g), (1, .int (iI bk))]) (by decide) rfl rfl (Nat.le_of_ble_eq_true rfl) ?_
  intro p e s m below meth cd hadm hx hb hr hml hts hown hlocks hname hnoh hxT hzT A hA hK hP hD hS ls hl
  refine lv_iload_n hx hb dX6_needBooking_0 rfl (lv_at hl 1 rfl) ?_
  refine lv_iconst (v := iI 1) hx hb dX6_needBooking_1 rfl ?_
  refine wk_icmp_lt (tgt := 16) hx hb dX6_needBooking_2 (by decide) (by omega) (fun c_1 => ?_) (fun c_1 => ?_)
  · skip
    obtain ⟨q9, hZ9⟩ := xt_s261 hxT
    exact wt_newW (names := exN) hx hb hown (Launch.traces_off hfl hadm) hlocks hnoh (hl.1.trans hml.symm) (by decide) (by decide) (ex_i (fun w h => hts w (List.mem_cons_of_mem _ h)) hzT hxT) (hts _ (List.mem_cons_of_mem _ wd_419)) (hts _ (List.mem_cons_of_mem _ wd_47)) hZ9 dX6_needBooking_16 dX6_needBooking_19 dX6_needBooking_20 dX6_needBooking_23 dX6_needBooking_26 (Nat.le_of_ble_eq_true rfl) (Nat.le_of_ble_eq_true rfl) (Nat.le_of_ble_eq_true rfl) (Nat.le_of_ble_eq_true rfl)
  · skip
    refine lv_iload_n hx hb dX6_needBooking_5 rfl (lv_at hl 1 rfl) ?_
    refine lv_aload_n hx hb dX6_needBooking_6 rfl (lv_at hl 0 rfl) ?_
    refine va_get (D := D) (ci := 6) (v := .ref aK) (C := RX6) (T := TX6) (N := 11) hx hb hts (fun w h => (List.mem_cons_of_mem _ (hinX6 w h))) hown hK hP 0 rfl rfl 4 (by decide) (hts _ (List.mem_cons_of_mem _ wd_193)) (fun _ h9 => h9) rfl dX6_needBooking_7 ?_
    refine va_get (D := D) (ci := 0) (v := .int (iI kn)) (C := RX0) (T := TX0) (N := 8) hx hb hts (fun w h => (List.mem_cons_of_mem _ (hinX0 w h))) hown hK hP 1 rfl rfl 7 (by decide) (hts _ (List.mem_cons_of_mem _ wd_156)) (fun _ h9 => h9) rfl dX6_needBooking_10 ?_
    refine wk_icmp_le (tgt := 27) hx hb dX6_needBooking_13 (by decide) (by omega) (fun c_2 => ?_) (fun c_2 => ?_)
    · skip
      exfalso; omega
    · skip
      obtain ⟨q9, hZ9⟩ := xt_s261 hxT
      exact wt_newW (names := exN) hx hb hown (Launch.traces_off hfl hadm) hlocks hnoh (hl.1.trans hml.symm) (by decide) (by decide) (ex_i (fun w h => hts w (List.mem_cons_of_mem _ h)) hzT hxT) (hts _ (List.mem_cons_of_mem _ wd_419)) (hts _ (List.mem_cons_of_mem _ wd_47)) hZ9 dX6_needBooking_16 dX6_needBooking_19 dX6_needBooking_20 dX6_needBooking_23 dX6_needBooking_26 (Nat.le_of_ble_eq_true rfl) (Nat.le_of_ble_eq_true rfl) (Nat.le_of_ble_eq_true rfl) (Nat.le_of_ble_eq_true rfl)

set_option maxHeartbeats 4000000 in
set_option maxRecDepth 100000 in
theorem tX6_needTime (l : Launch) (D : va_G) (kI : ClassId) (kZ : ClassId) (kL : ClassId) (kJ : ClassId) (g : Nat) (aR : Nat) (aB : Nat) (aT : Nat) (aS : Nat) (aK : Nat) (aL : Nat) (nw : Int) (al : Int) (lg : Int) (tt : Int) (dn : Int) (tm : Int) (sz : Nat) (htm : nw ≤ tm ∧ tm ≤ 100000) (hnw : 0 ≤ nw ∧ nw ≤ 100000) : CtPv l yX6_needTime wsX6_needTime ({ frames := 0, cells := 0, slots := 0, locals := 0 }) D vwCl (tyL kI kZ kL kJ) [(g, .inr (6, [.ref aR, .ref aB, .ref aT, .ref aS, .ref aK, .ref aL, .int (iI nw), .int (iI al), .int (iI lg), .int (iI tt), .int (iI dn)]))] [.ref g, .int (iI tm)] sz := by
  refine pk_start (cc := cX6_needTime) (maxL := 2) (ret := none) (LV := [(0, .ref g), (1, .int (iI tm))]) (by decide) rfl rfl (Nat.le_of_ble_eq_true rfl) ?_
  intro p e s m below meth cd hadm hx hb hr hml hts hown hlocks hname hnoh hxT A hA hK hP hD hS ls hl
  refine lv_iload_n hx hb dX6_needTime_0 rfl (lv_at hl 1 rfl) ?_
  refine lv_aload_n hx hb dX6_needTime_1 rfl (lv_at hl 0 rfl) ?_
  refine va_get (D := D) (ci := 6) (v := .int (iI nw)) (C := RX6) (T := TX6) (N := 11) hx hb hts (fun w h => (List.mem_cons_of_mem _ (hinX6 w h))) hown hK hP 0 rfl rfl 6 (by decide) (hts _ (List.mem_cons_of_mem _ wd_195)) (fun _ h9 => h9) rfl dX6_needTime_2 ?_
  refine wk_icmp_lt (tgt := 14) hx hb dX6_needTime_5 (by decide) (by omega) (fun c_1 => ?_) (fun c_1 => ?_)
  · skip
    exfalso; omega
  · skip
    refine lv_iload_n hx hb dX6_needTime_8 rfl (lv_at hl 1 rfl) ?_
    refine lv_ldc (v := 100000) hx hb hown (hts _ (List.mem_cons_of_mem _ wd_382)) dX6_needTime_9 ?_
    refine wk_eqi (show (100000 : Int32) = iI 100000 by decide) ?_
    refine wk_icmp_le (tgt := 25) hx hb dX6_needTime_11 (by decide) (by omega) (fun c_2 => ?_) (fun c_2 => ?_)
    · skip
      exact pk_void hx hb hr hlocks dX6_needTime_25
    · skip
      exfalso; omega

set_option maxHeartbeats 4000000 in
set_option maxRecDepth 100000 in
theorem tX6_needTime_t (l : Launch) (D : va_G) (kI : ClassId) (kZ : ClassId) (kL : ClassId) (kJ : ClassId) (g : Nat) (aR : Nat) (aB : Nat) (aT : Nat) (aS : Nat) (aK : Nat) (aL : Nat) (nw : Int) (al : Int) (lg : Int) (tt : Int) (dn : Int) (tm : Int) (sz : Nat) (hfl : l.flags = pinnedFlags ++ [noTraceFlag]) (htm : -2147483648 ≤ tm ∧ tm ≤ 2147483647) (hntm : ¬ (nw ≤ tm ∧ tm ≤ 100000)) (hnw : 0 ≤ nw ∧ nw ≤ 100000) : CtT l yX6_needTime wsX6_needTime ({ frames := 6, cells := 1, slots := 6, locals := 82 }) D vwCl (tyL kI kZ kL kJ) [(g, .inr (6, [.ref aR, .ref aB, .ref aT, .ref aS, .ref aK, .ref aL, .int (iI nw), .int (iI al), .int (iI lg), .int (iI tt), .int (iI dn)]))] [.ref g, .int (iI tm)] "java/lang/IllegalArgumentException" sz := by
  refine ct_start (cc := cX6_needTime) (maxL := 2) (ret := none) (LV := [(0, .ref g), (1, .int (iI tm))]) (by decide) rfl rfl (Nat.le_of_ble_eq_true rfl) ?_
  intro p e s m below meth cd hadm hx hb hr hml hts hown hlocks hname hnoh hxT hzT A hA hK hP hD hS ls hl
  refine lv_iload_n hx hb dX6_needTime_0 rfl (lv_at hl 1 rfl) ?_
  refine lv_aload_n hx hb dX6_needTime_1 rfl (lv_at hl 0 rfl) ?_
  refine va_get (D := D) (ci := 6) (v := .int (iI nw)) (C := RX6) (T := TX6) (N := 11) hx hb hts (fun w h => (List.mem_cons_of_mem _ (hinX6 w h))) hown hK hP 0 rfl rfl 6 (by decide) (hts _ (List.mem_cons_of_mem _ wd_195)) (fun _ h9 => h9) rfl dX6_needTime_2 ?_
  refine wk_icmp_lt (tgt := 14) hx hb dX6_needTime_5 (by decide) (by omega) (fun c_1 => ?_) (fun c_1 => ?_)
  · skip
    obtain ⟨q9, hZ9⟩ := xt_s263 hxT
    exact wt_newW (names := exN) hx hb hown (Launch.traces_off hfl hadm) hlocks hnoh (hl.1.trans hml.symm) (by decide) (by decide) (ex_a (fun w h => hts w (List.mem_cons_of_mem _ h)) hzT hxT) (hts _ (List.mem_cons_of_mem _ wd_280)) (hts _ (List.mem_cons_of_mem _ wd_45)) hZ9 dX6_needTime_14 dX6_needTime_17 dX6_needTime_18 dX6_needTime_21 dX6_needTime_24 (Nat.le_of_ble_eq_true rfl) (Nat.le_of_ble_eq_true rfl) (Nat.le_of_ble_eq_true rfl) (Nat.le_of_ble_eq_true rfl)
  · skip
    refine lv_iload_n hx hb dX6_needTime_8 rfl (lv_at hl 1 rfl) ?_
    refine lv_ldc (v := 100000) hx hb hown (hts _ (List.mem_cons_of_mem _ wd_382)) dX6_needTime_9 ?_
    refine wk_eqi (show (100000 : Int32) = iI 100000 by decide) ?_
    refine wk_icmp_le (tgt := 25) hx hb dX6_needTime_11 (by decide) (by omega) (fun c_2 => ?_) (fun c_2 => ?_)
    · skip
      exfalso; omega
    · skip
      obtain ⟨q9, hZ9⟩ := xt_s263 hxT
      exact wt_newW (names := exN) hx hb hown (Launch.traces_off hfl hadm) hlocks hnoh (hl.1.trans hml.symm) (by decide) (by decide) (ex_a (fun w h => hts w (List.mem_cons_of_mem _ h)) hzT hxT) (hts _ (List.mem_cons_of_mem _ wd_280)) (hts _ (List.mem_cons_of_mem _ wd_45)) hZ9 dX6_needTime_14 dX6_needTime_17 dX6_needTime_18 dX6_needTime_21 dX6_needTime_24 (Nat.le_of_ble_eq_true rfl) (Nat.le_of_ble_eq_true rfl) (Nat.le_of_ble_eq_true rfl) (Nat.le_of_ble_eq_true rfl)

set_option maxHeartbeats 4000000 in
set_option maxRecDepth 100000 in
theorem tX6_otherSlot (l : Launch) (D : va_G) (kI : ClassId) (kZ : ClassId) (kL : ClassId) (kJ : ClassId) (g : Nat) (aR : Nat) (aB : Nat) (aT : Nat) (aS : Nat) (aK : Nat) (aL : Nat) (aSt : Nat) (tk : Int → Int) (nw : Int) (al : Int) (lg : Int) (tt : Int) (dn : Int) (sn : Int) (sm : Int) (sl : Int) (sz : Nat) (hsl : 0 ≤ sl ∧ sl < sn) (hsn : 1 ≤ sn ∧ sn ≤ 24) (hsm : 1 ≤ sm ∧ sm ≤ 8) (htk : ∀ j, 0 ≤ tk j ∧ tk j ≤ 1000000) : CtP l yX6_otherSlot wsX6_otherSlot ({ frames := 2, cells := 0, slots := 0, locals := 43 }) D vwCl (tyL kI kZ kL kJ) [(g, .inr (6, [.ref aR, .ref aB, .ref aT, .ref aS, .ref aK, .ref aL, .int (iI nw), .int (iI al), .int (iI lg), .int (iI tt), .int (iI dn)])), (aS, .inr (4, [.ref aSt, .int (iI sn), .int (iI sm)])), (aSt, .inl (kI, 24, .inl (iF tk)))] [.ref g, .int (iI sl)] (iI (-1 - sc (pRM tk sm) sn (sn - 1 + 1 - (sl + 1)).toNat (sl + 1))) sz := by
  refine pk_start (cc := cX6_otherSlot) (maxL := 2) (ret := (some .int)) (LV := [(0, .ref g), (1, .int (iI sl))]) (by decide) rfl rfl (Nat.le_of_ble_eq_true rfl) ?_
  intro p e s m below meth cd hadm hx hb hr hml hts hown hlocks hname hnoh hxT A hA hK hP hD hS ls hl
  refine lv_iconst (v := iI (-1)) hx hb dX6_otherSlot_0 rfl ?_
  refine lv_aload_n hx hb dX6_otherSlot_1 rfl (lv_at hl 0 rfl) ?_
  refine va_get (D := D) (ci := 6) (v := .ref aS) (C := RX6) (T := TX6) (N := 11) hx hb hts (fun w h => (List.mem_cons_of_mem _ (hinX6 w h))) hown hK hP 0 rfl rfl 3 (by decide) (hts _ (List.mem_cons_of_mem _ wd_192)) (fun _ h9 => h9) rfl dX6_otherSlot_2 ?_
  refine lv_iload_n hx hb dX6_otherSlot_5 rfl (lv_at hl 1 rfl) ?_
  refine pk_callI (va_runV (As := [.int (iI sl)]) (rest := [.int (iI (-1))]) ⟨hx, hb, hml, hown, hts⟩ (tX4_nextWithRoom l D kI kZ kL kJ aS aSt tk sn sm sl s.heap.size (by first | assumption | omega) (by first | assumption | omega) (by first | assumption | omega) (by first | assumption | omega)) (cwV 1 hts (gd_V tb_cons wd_490 wd_491 wd_492 wd_37 wd_493) rfl rfl rfl (by decide +kernel) ⟨Nat.le_of_ble_eq_true rfl, Nat.le_of_ble_eq_true rfl⟩) (ck_preV hxT hK hP hD [1, 2] rfl (by decide) (q0 := 0) rfl rfl rfl) rfl rfl hl.1 rfl (lv_room (Nat.le_of_ble_eq_true rfl)) dX6_otherSlot_6 ⟨Nat.zero_le _, Nat.zero_le _⟩) ?_
  refine wk_isub hx hb dX6_otherSlot_9 ?_
  exact pk_int hx hb hr hlocks (by first | rfl | omega) dX6_otherSlot_10

set_option maxHeartbeats 4000000 in
set_option maxRecDepth 100000 in
theorem tX6_isAhead (l : Launch) (D : va_G) (kI : ClassId) (kZ : ClassId) (kL : ClassId) (kJ : ClassId) (g : Nat) (aR : Nat) (aB : Nat) (aT : Nat) (aS : Nat) (aK : Nat) (aL : Nat) (nw : Int) (al : Int) (lg : Int) (tt : Int) (dn : Int) (sl : Int) (sz : Nat) (hsl : 0 ≤ sl ∧ sl < 24) (hnw : 0 ≤ nw ∧ nw ≤ 100000) : CtP l yX6_isAhead wsX6_isAhead ({ frames := 0, cells := 0, slots := 0, locals := 0 }) D vwCl (tyL kI kZ kL kJ) [(g, .inr (6, [.ref aR, .ref aB, .ref aT, .ref aS, .ref aK, .ref aL, .int (iI nw), .int (iI al), .int (iI lg), .int (iI tt), .int (iI dn)]))] [.ref g, .int (iI sl)] (iI (bi (nw < 600 * sl - 120))) sz := by
  refine pk_start (cc := cX6_isAhead) (maxL := 2) (ret := (some .boolean)) (LV := [(0, .ref g), (1, .int (iI sl))]) (by decide) rfl rfl (Nat.le_of_ble_eq_true rfl) ?_
  intro p e s m below meth cd hadm hx hb hr hml hts hown hlocks hname hnoh hxT A hA hK hP hD hS ls hl
  refine lv_aload_n hx hb dX6_isAhead_0 rfl (lv_at hl 0 rfl) ?_
  refine va_get (D := D) (ci := 6) (v := .int (iI nw)) (C := RX6) (T := TX6) (N := 11) hx hb hts (fun w h => (List.mem_cons_of_mem _ (hinX6 w h))) hown hK hP 0 rfl rfl 6 (by decide) (hts _ (List.mem_cons_of_mem _ wd_195)) (fun _ h9 => h9) rfl dX6_isAhead_1 ?_
  refine lv_sipush (v := iI 600) hx hb dX6_isAhead_4 (by decide) ?_
  refine lv_iload_n hx hb dX6_isAhead_7 rfl (lv_at hl 1 rfl) ?_
  refine wk_imul hx hb dX6_isAhead_8 ?_
  refine lv_bipush (v := iI 120) hx hb dX6_isAhead_9 (by decide) ?_
  refine wk_isub hx hb dX6_isAhead_11 ?_
  refine wk_icmp_ge (tgt := 19) hx hb dX6_isAhead_12 (by decide) (by omega) (fun c_1 => ?_) (fun c_1 => ?_)
  · skip
    refine lv_iconst (v := iI 0) hx hb dX6_isAhead_19 rfl ?_
    exact pk_bool hx hb hr hlocks (bi_f (by first | assumption | omega | (simp_all; done))) dX6_isAhead_20
  · skip
    refine lv_iconst (v := iI 1) hx hb dX6_isAhead_15 rfl ?_
    refine lv_goto (tgt := 20) hx hb dX6_isAhead_16 (by decide) ?_
    exact pk_bool hx hb hr hlocks (bi_t (by first | assumption | omega | (simp_all; done))) dX6_isAhead_20

set_option maxHeartbeats 4000000 in
set_option maxRecDepth 100000 in
theorem tX6_isOver (l : Launch) (D : va_G) (kI : ClassId) (kZ : ClassId) (kL : ClassId) (kJ : ClassId) (g : Nat) (aR : Nat) (aB : Nat) (aT : Nat) (aS : Nat) (aK : Nat) (aL : Nat) (nw : Int) (al : Int) (lg : Int) (tt : Int) (dn : Int) (sl : Int) (sz : Nat) (hsl : 0 ≤ sl ∧ sl < 24) (hnw : 0 ≤ nw ∧ nw ≤ 100000) : CtP l yX6_isOver wsX6_isOver ({ frames := 0, cells := 0, slots := 0, locals := 0 }) D vwCl (tyL kI kZ kL kJ) [(g, .inr (6, [.ref aR, .ref aB, .ref aT, .ref aS, .ref aK, .ref aL, .int (iI nw), .int (iI al), .int (iI lg), .int (iI tt), .int (iI dn)]))] [.ref g, .int (iI sl)] (iI (bi (600 * sl + 600 - 1 + 120 < nw))) sz := by
  refine pk_start (cc := cX6_isOver) (maxL := 2) (ret := (some .boolean)) (LV := [(0, .ref g), (1, .int (iI sl))]) (by decide) rfl rfl (Nat.le_of_ble_eq_true rfl) ?_
  intro p e s m below meth cd hadm hx hb hr hml hts hown hlocks hname hnoh hxT A hA hK hP hD hS ls hl
  refine lv_aload_n hx hb dX6_isOver_0 rfl (lv_at hl 0 rfl) ?_
  refine va_get (D := D) (ci := 6) (v := .int (iI nw)) (C := RX6) (T := TX6) (N := 11) hx hb hts (fun w h => (List.mem_cons_of_mem _ (hinX6 w h))) hown hK hP 0 rfl rfl 6 (by decide) (hts _ (List.mem_cons_of_mem _ wd_195)) (fun _ h9 => h9) rfl dX6_isOver_1 ?_
  refine lv_sipush (v := iI 600) hx hb dX6_isOver_4 (by decide) ?_
  refine lv_iload_n hx hb dX6_isOver_7 rfl (lv_at hl 1 rfl) ?_
  refine wk_imul hx hb dX6_isOver_8 ?_
  refine lv_sipush (v := iI 600) hx hb dX6_isOver_9 (by decide) ?_
  refine wk_iadd hx hb dX6_isOver_12 ?_
  refine lv_iconst (v := iI 1) hx hb dX6_isOver_13 rfl ?_
  refine wk_isub hx hb dX6_isOver_14 ?_
  refine lv_bipush (v := iI 120) hx hb dX6_isOver_15 (by decide) ?_
  refine wk_iadd hx hb dX6_isOver_17 ?_
  refine wk_icmp_le (tgt := 25) hx hb dX6_isOver_18 (by decide) (by omega) (fun c_1 => ?_) (fun c_1 => ?_)
  · skip
    refine lv_iconst (v := iI 0) hx hb dX6_isOver_25 rfl ?_
    exact pk_bool hx hb hr hlocks (bi_f (by first | assumption | omega | (simp_all; done))) dX6_isOver_26
  · skip
    refine lv_iconst (v := iI 1) hx hb dX6_isOver_21 rfl ?_
    refine lv_goto (tgt := 26) hx hb dX6_isOver_22 (by decide) ?_
    exact pk_bool hx hb hr hlocks (bi_t (by first | assumption | omega | (simp_all; done))) dX6_isOver_26

set_option maxHeartbeats 4000000 in
set_option maxRecDepth 100000 in
theorem tX6_firstBarOfBox (l : Launch) (D : va_G) (kI : ClassId) (kZ : ClassId) (kL : ClassId) (kJ : ClassId) (g : Nat) (aR : Nat) (aB : Nat) (aT : Nat) (aS : Nat) (aK : Nat) (aL : Nat) (aBs : Nat) (aBw : Nat) (aBd : Nat) (aBv : Nat) (bd : Int → Int) (bv : Int → Int) (nw : Int) (al : Int) (lg : Int) (tt : Int) (dn : Int) (bn : Int) (bx : Int) (sz : Nat) (hbx : 0 ≤ bx ∧ bx < 20) (hbv : ∀ j, 0 ≤ bv j ∧ bv j ≤ 1000000) (hbd : ∀ j, bd j = 0 ∨ bd j = 1) : CtP l yX6_firstBarOfBox wsX6_firstBarOfBox ({ frames := 1, cells := 0, slots := 0, locals := 22 }) D vwCl (tyL kI kZ kL kJ) [(g, .inr (6, [.ref aR, .ref aB, .ref aT, .ref aS, .ref aK, .ref aL, .int (iI nw), .int (iI al), .int (iI lg), .int (iI tt), .int (iI dn)])), (aB, .inr (1, [.ref aBs, .ref aBw, .ref aBd, .ref aBv, .int (iI bn)])), (aBd, .inl (kZ, 20, .inl (iF bd))), (aBv, .inl (kI, 80, .inl (iF bv)))] [.ref g, .int (iI bx)] (iI (fbB bv bd bx)) sz := by
  refine pk_start (cc := cX6_firstBarOfBox) (maxL := 2) (ret := (some .int)) (LV := [(0, .ref g), (1, .int (iI bx))]) (by decide) rfl rfl (Nat.le_of_ble_eq_true rfl) ?_
  intro p e s m below meth cd hadm hx hb hr hml hts hown hlocks hname hnoh hxT A hA hK hP hD hS ls hl
  refine lv_aload_n hx hb dX6_firstBarOfBox_0 rfl (lv_at hl 0 rfl) ?_
  refine va_get (D := D) (ci := 6) (v := .ref aB) (C := RX6) (T := TX6) (N := 11) hx hb hts (fun w h => (List.mem_cons_of_mem _ (hinX6 w h))) hown hK hP 0 rfl rfl 1 (by decide) (hts _ (List.mem_cons_of_mem _ wd_190)) (fun _ h9 => h9) rfl dX6_firstBarOfBox_1 ?_
  refine lv_iload_n hx hb dX6_firstBarOfBox_4 rfl (lv_at hl 1 rfl) ?_
  refine lv_iconst (v := iI 0) hx hb dX6_firstBarOfBox_5 rfl ?_
  refine pk_callI (va_runV (As := [.int (iI bx), .int (iI 0)]) (rest := []) ⟨hx, hb, hml, hown, hts⟩ (tX1_verdictOf l D kI kZ kL kJ aB aBs aBw aBd aBv bv bn bx 0 s.heap.size (by first | assumption | omega) (by first | assumption | omega)) (cwV 2 hts (gd_V tb_cons wd_536 wd_537 wd_538 wd_35 wd_539) rfl rfl rfl (by decide +kernel) ⟨Nat.le_of_ble_eq_true rfl, Nat.le_of_ble_eq_true rfl⟩) (ck_preV hxT hK hP hD [1, 3] rfl (by decide) (q0 := 0) rfl rfl rfl) rfl rfl hl.1 rfl (lv_room (Nat.le_of_ble_eq_true rfl)) dX6_firstBarOfBox_6 ⟨Nat.zero_le _, Nat.zero_le _⟩) ?_
  have b0 := hbv (bx * 4 + 0)
  refine wk_if_ne (tgt := 14) hx hb dX6_firstBarOfBox_9 (by decide) (by omega) (fun c_1 => ?_) (fun c_1 => ?_)
  · skip
    refine lv_aload_n hx hb dX6_firstBarOfBox_14 rfl (lv_at hl 0 rfl) ?_
    refine va_get (D := D) (ci := 6) (v := .ref aB) (C := RX6) (T := TX6) (N := 11) hx hb hts (fun w h => (List.mem_cons_of_mem _ (hinX6 w h))) hown hK hP 0 rfl rfl 1 (by decide) (hts _ (List.mem_cons_of_mem _ wd_190)) (fun _ h9 => h9) rfl dX6_firstBarOfBox_15 ?_
    refine lv_iload_n hx hb dX6_firstBarOfBox_18 rfl (lv_at hl 1 rfl) ?_
    refine lv_iconst (v := iI 1) hx hb dX6_firstBarOfBox_19 rfl ?_
    refine pk_callI (va_runV (As := [.int (iI bx), .int (iI 1)]) (rest := []) ⟨hx, hb, hml, hown, hts⟩ (tX1_verdictOf l D kI kZ kL kJ aB aBs aBw aBd aBv bv bn bx 1 s.heap.size (by first | assumption | omega) (by first | assumption | omega)) (cwV 2 hts (gd_V tb_cons wd_536 wd_537 wd_538 wd_35 wd_539) rfl rfl rfl (by decide +kernel) ⟨Nat.le_of_ble_eq_true rfl, Nat.le_of_ble_eq_true rfl⟩) (ck_preV hxT hK hP hD [1, 3] rfl (by decide) (q0 := 0) rfl rfl rfl) rfl rfl hl.1 rfl (lv_room (Nat.le_of_ble_eq_true rfl)) dX6_firstBarOfBox_20 ⟨Nat.zero_le _, Nat.zero_le _⟩) ?_
    have b1 := hbv (bx * 4 + 1)
    refine wk_if_ne (tgt := 29) hx hb dX6_firstBarOfBox_23 (by decide) (by omega) (fun c_2 => ?_) (fun c_2 => ?_)
    · skip
      refine lv_aload_n hx hb dX6_firstBarOfBox_29 rfl (lv_at hl 0 rfl) ?_
      refine va_get (D := D) (ci := 6) (v := .ref aB) (C := RX6) (T := TX6) (N := 11) hx hb hts (fun w h => (List.mem_cons_of_mem _ (hinX6 w h))) hown hK hP 0 rfl rfl 1 (by decide) (hts _ (List.mem_cons_of_mem _ wd_190)) (fun _ h9 => h9) rfl dX6_firstBarOfBox_30 ?_
      refine lv_iload_n hx hb dX6_firstBarOfBox_33 rfl (lv_at hl 1 rfl) ?_
      refine lv_iconst (v := iI 2) hx hb dX6_firstBarOfBox_34 rfl ?_
      refine pk_callI (va_runV (As := [.int (iI bx), .int (iI 2)]) (rest := []) ⟨hx, hb, hml, hown, hts⟩ (tX1_verdictOf l D kI kZ kL kJ aB aBs aBw aBd aBv bv bn bx 2 s.heap.size (by first | assumption | omega) (by first | assumption | omega)) (cwV 2 hts (gd_V tb_cons wd_536 wd_537 wd_538 wd_35 wd_539) rfl rfl rfl (by decide +kernel) ⟨Nat.le_of_ble_eq_true rfl, Nat.le_of_ble_eq_true rfl⟩) (ck_preV hxT hK hP hD [1, 3] rfl (by decide) (q0 := 0) rfl rfl rfl) rfl rfl hl.1 rfl (lv_room (Nat.le_of_ble_eq_true rfl)) dX6_firstBarOfBox_35 ⟨Nat.zero_le _, Nat.zero_le _⟩) ?_
      have b2 := hbv (bx * 4 + 2)
      refine wk_if_ne (tgt := 44) hx hb dX6_firstBarOfBox_38 (by decide) (by omega) (fun c_3 => ?_) (fun c_3 => ?_)
      · skip
        refine lv_aload_n hx hb dX6_firstBarOfBox_44 rfl (lv_at hl 0 rfl) ?_
        refine va_get (D := D) (ci := 6) (v := .ref aB) (C := RX6) (T := TX6) (N := 11) hx hb hts (fun w h => (List.mem_cons_of_mem _ (hinX6 w h))) hown hK hP 0 rfl rfl 1 (by decide) (hts _ (List.mem_cons_of_mem _ wd_190)) (fun _ h9 => h9) rfl dX6_firstBarOfBox_45 ?_
        refine va_get (D := D) (ci := 1) (v := .ref aBd) (C := RX1) (T := TX1) (N := 5) hx hb hts (fun w h => (List.mem_cons_of_mem _ (hinX1 w h))) hown hK hP 1 rfl rfl 2 (by decide) (hts _ (List.mem_cons_of_mem _ wd_83)) (fun _ h9 => h9) rfl dX6_firstBarOfBox_48 ?_
        refine lv_iload_n hx hb dX6_firstBarOfBox_51 rfl (lv_at hl 1 rfl) ?_
        refine wk_zald hx hb hK hP 2 1 rfl rfl (by decide) (by omega) dX6_firstBarOfBox_52 ?_
        have b_4 := hbd bx
        refine wk_if_eq (tgt := 71) hx hb dX6_firstBarOfBox_53 (by decide) (by omega) (fun c_5 => ?_) (fun c_5 => ?_)
        · skip
          refine lv_iconst (v := iI 0) hx hb dX6_firstBarOfBox_71 rfl ?_
          exact pk_int hx hb hr hlocks (by (unfold fbB; repeat' split) <;> first | rfl | omega) dX6_firstBarOfBox_72
        · skip
          refine lv_aload_n hx hb dX6_firstBarOfBox_56 rfl (lv_at hl 0 rfl) ?_
          refine va_get (D := D) (ci := 6) (v := .ref aB) (C := RX6) (T := TX6) (N := 11) hx hb hts (fun w h => (List.mem_cons_of_mem _ (hinX6 w h))) hown hK hP 0 rfl rfl 1 (by decide) (hts _ (List.mem_cons_of_mem _ wd_190)) (fun _ h9 => h9) rfl dX6_firstBarOfBox_57 ?_
          refine lv_iload_n hx hb dX6_firstBarOfBox_60 rfl (lv_at hl 1 rfl) ?_
          refine lv_iconst (v := iI 3) hx hb dX6_firstBarOfBox_61 rfl ?_
          refine pk_callI (va_runV (As := [.int (iI bx), .int (iI 3)]) (rest := []) ⟨hx, hb, hml, hown, hts⟩ (tX1_verdictOf l D kI kZ kL kJ aB aBs aBw aBd aBv bv bn bx 3 s.heap.size (by first | assumption | omega) (by first | assumption | omega)) (cwV 2 hts (gd_V tb_cons wd_536 wd_537 wd_538 wd_35 wd_539) rfl rfl rfl (by decide +kernel) ⟨Nat.le_of_ble_eq_true rfl, Nat.le_of_ble_eq_true rfl⟩) (ck_preV hxT hK hP hD [1, 3] rfl (by decide) (q0 := 0) rfl rfl rfl) rfl rfl hl.1 rfl (lv_room (Nat.le_of_ble_eq_true rfl)) dX6_firstBarOfBox_62 ⟨Nat.zero_le _, Nat.zero_le _⟩) ?_
          have b3 := hbv (bx * 4 + 3)
          refine wk_if_ne (tgt := 71) hx hb dX6_firstBarOfBox_65 (by decide) (by omega) (fun c_6 => ?_) (fun c_6 => ?_)
          · skip
            refine lv_iconst (v := iI 0) hx hb dX6_firstBarOfBox_71 rfl ?_
            exact pk_int hx hb hr hlocks (by (unfold fbB; repeat' split) <;> first | rfl | omega) dX6_firstBarOfBox_72
          · skip
            refine lv_bipush (v := iI 8) hx hb dX6_firstBarOfBox_68 (by decide) ?_
            exact pk_int hx hb hr hlocks (by (unfold fbB; repeat' split) <;> first | rfl | omega) dX6_firstBarOfBox_70
      · skip
        refine lv_bipush (v := iI 7) hx hb dX6_firstBarOfBox_41 (by decide) ?_
        exact pk_int hx hb hr hlocks (by (unfold fbB; repeat' split) <;> first | rfl | omega) dX6_firstBarOfBox_43
    · skip
      refine lv_bipush (v := iI 6) hx hb dX6_firstBarOfBox_26 (by decide) ?_
      exact pk_int hx hb hr hlocks (by (unfold fbB; repeat' split) <;> first | rfl | omega) dX6_firstBarOfBox_28
  · skip
    refine lv_iconst (v := iI 5) hx hb dX6_firstBarOfBox_12 rfl ?_
    exact pk_int hx hb hr hlocks (by (unfold fbB; repeat' split) <;> first | rfl | omega) dX6_firstBarOfBox_13

set_option maxHeartbeats 4000000 in
set_option maxRecDepth 100000 in
theorem tX6_firstBar (l : Launch) (D : va_G) (kI : ClassId) (kZ : ClassId) (kL : ClassId) (kJ : ClassId) (g : Nat) (aR : Nat) (aB : Nat) (aT : Nat) (aS : Nat) (aK : Nat) (aL : Nat) (aBs : Nat) (aBw : Nat) (aBd : Nat) (aBv : Nat) (aTv : Nat) (aKs : Nat) (aKt : Nat) (aKb : Nat) (aKz : Nat) (aKl : Nat) (aKc : Nat) (aKu : Nat) (bd : Int → Int) (bv : Int → Int) (tv : Int → Int) (ks : Int → Int) (kt : Int → Int) (kb : Int → Int) (kz : Int → Int) (nw : Int) (al : Int) (lg : Int) (tt : Int) (dn : Int) (bn : Int) (kn : Int) (bk : Int) (sz : Nat) (hbk : 1 ≤ bk ∧ bk ≤ kn) (hkn : 0 ≤ kn ∧ kn ≤ 60) (hnw : 0 ≤ nw ∧ nw ≤ 100000) (hbv : ∀ j, 0 ≤ bv j ∧ bv j ≤ 1000000) (hbd : ∀ j, bd j = 0 ∨ bd j = 1) (htv : ∀ j, 0 ≤ tv j ∧ tv j ≤ 1000000) (hkz : ∀ j, 0 ≤ kz j ∧ kz j ≤ 1000000) (hkt : ∀ j, 0 ≤ kt j ∧ kt j ≤ 1000000) (hks : ∀ j, 0 ≤ ks j ∧ ks j < 24) (hkt2 : ∀ j, 0 ≤ kt j ∧ kt j < 16) (hkb : ∀ j, 0 ≤ kb j ∧ kb j < 20) : CtP l yX6_firstBar wsX6_firstBar ({ frames := 2, cells := 0, slots := 0, locals := 43 }) D vwCl (tyL kI kZ kL kJ) [(g, .inr (6, [.ref aR, .ref aB, .ref aT, .ref aS, .ref aK, .ref aL, .int (iI nw), .int (iI al), .int (iI lg), .int (iI tt), .int (iI dn)])), (aB, .inr (1, [.ref aBs, .ref aBw, .ref aBd, .ref aBv, .int (iI bn)])), (aBd, .inl (kZ, 20, .inl (iF bd))), (aBv, .inl (kI, 80, .inl (iF bv))), (aT, .inr (5, [.ref aTv])), (aTv, .inl (kI, 32, .inl (iF tv))), (aK, .inr (0, [.ref aKs, .ref aKt, .ref aKb, .ref aKz, .ref aKl, .ref aKc, .ref aKu, .int (iI kn)])), (aKs, .inl (kI, 61, .inl (iF ks))), (aKt, .inl (kI, 61, .inl (iF kt))), (aKb, .inl (kI, 61, .inl (iF kb))), (aKz, .inl (kI, 61, .inl (iF kz)))] [.ref g, .int (iI bk)] (iI (fbR nw bv bd tv kn ks kt kb kz bk)) sz := by
  refine pk_start (cc := cX6_firstBar) (maxL := 5) (ret := (some .int)) (LV := [(0, .ref g), (1, .int (iI bk))]) (by decide) rfl rfl (Nat.le_of_ble_eq_true rfl) ?_
  intro p e s m below meth cd hadm hx hb hr hml hts hown hlocks hname hnoh hxT A hA hK hP hD hS ls hl
  refine lv_aload_n hx hb dX6_firstBar_0 rfl (lv_at hl 0 rfl) ?_
  refine va_get (D := D) (ci := 6) (v := .ref aK) (C := RX6) (T := TX6) (N := 11) hx hb hts (fun w h => (List.mem_cons_of_mem _ (hinX6 w h))) hown hK hP 0 rfl rfl 4 (by decide) (hts _ (List.mem_cons_of_mem _ wd_193)) (fun _ h9 => h9) rfl dX6_firstBar_1 ?_
  refine va_get (D := D) (ci := 0) (v := .ref aKz) (C := RX0) (T := TX0) (N := 8) hx hb hts (fun w h => (List.mem_cons_of_mem _ (hinX0 w h))) hown hK hP 6 rfl rfl 3 (by decide) (hts _ (List.mem_cons_of_mem _ wd_148)) (fun _ h9 => h9) rfl dX6_firstBar_4 ?_
  refine lv_iload_n hx hb dX6_firstBar_7 rfl (lv_at hl 1 rfl) ?_
  refine wk_iald hx hb hK hP 10 0 rfl rfl (by decide) (by omega) dX6_firstBar_8 ?_
  have b_1 := hkz bk
  refine wk_if_eq (tgt := 14) hx hb dX6_firstBar_9 (by decide) (by omega) (fun c_2 => ?_) (fun c_2 => ?_)
  · skip
    refine lv_aload_n hx hb dX6_firstBar_14 rfl (lv_at hl 0 rfl) ?_
    refine va_get (D := D) (ci := 6) (v := .ref aK) (C := RX6) (T := TX6) (N := 11) hx hb hts (fun w h => (List.mem_cons_of_mem _ (hinX6 w h))) hown hK hP 0 rfl rfl 4 (by decide) (hts _ (List.mem_cons_of_mem _ wd_193)) (fun _ h9 => h9) rfl dX6_firstBar_15 ?_
    refine va_get (D := D) (ci := 0) (v := .ref aKs) (C := RX0) (T := TX0) (N := 8) hx hb hts (fun w h => (List.mem_cons_of_mem _ (hinX0 w h))) hown hK hP 6 rfl rfl 0 (by decide) (hts _ (List.mem_cons_of_mem _ wd_142)) (fun _ h9 => h9) rfl dX6_firstBar_18 ?_
    refine lv_iload_n hx hb dX6_firstBar_21 rfl (lv_at hl 1 rfl) ?_
    refine wk_iald hx hb hK hP 7 0 rfl rfl (by decide) (by omega) dX6_firstBar_22 ?_
    have b_3 := hks bk
    refine lv_istore_n (lv' := [(2, .int (iI (ks bk))), (0, .ref g), (1, .int (iI bk))]) hx hb dX6_firstBar_23 rfl hl (by decide) rfl (fun ls hl => ?_)
    refine lv_aload_n hx hb dX6_firstBar_24 rfl (lv_at hl 1 rfl) ?_
    refine lv_iload_n hx hb dX6_firstBar_25 rfl (lv_at hl 0 rfl) ?_
    refine pk_callI (va_runV (As := [.int (iI (ks bk))]) (rest := []) ⟨hx, hb, hml, hown, hts⟩ (tX6_isAhead l D kI kZ kL kJ g aR aB aT aS aK aL nw al lg tt dn (ks bk) s.heap.size (by first | assumption | omega) (by first | assumption | omega)) (cwV 1 hts (gd_V tb_cons wd_520 wd_522 wd_11 wd_33 wd_523) rfl rfl rfl (by decide +kernel) ⟨Nat.le_of_ble_eq_true rfl, Nat.le_of_ble_eq_true rfl⟩) (ck_preV hxT hK hP hD [0] rfl (by decide) (q0 := 0) rfl rfl rfl) rfl rfl hl.1 rfl (lv_room (Nat.le_of_ble_eq_true rfl)) dX6_firstBar_26 ⟨Nat.zero_le _, Nat.zero_le _⟩) ?_
    refine wk_bif_ne (tgt := 40) hx hb dX6_firstBar_29 (by decide) (fun c_4 => ?_) (fun c_4 => ?_)
    · skip
      refine lv_iconst (v := iI 2) hx hb dX6_firstBar_40 rfl ?_
      exact pk_int hx hb hr hlocks (by (unfold fbR; repeat' split) <;> first | rfl | omega) dX6_firstBar_41
    · skip
      refine lv_aload_n hx hb dX6_firstBar_32 rfl (lv_at hl 1 rfl) ?_
      refine lv_iload_n hx hb dX6_firstBar_33 rfl (lv_at hl 0 rfl) ?_
      refine pk_callI (va_runV (As := [.int (iI (ks bk))]) (rest := []) ⟨hx, hb, hml, hown, hts⟩ (tX6_isOver l D kI kZ kL kJ g aR aB aT aS aK aL nw al lg tt dn (ks bk) s.heap.size (by first | assumption | omega) (by first | assumption | omega)) (cwV 1 hts (gd_V tb_cons wd_524 wd_526 wd_12 wd_33 wd_527) rfl rfl rfl (by decide +kernel) ⟨Nat.le_of_ble_eq_true rfl, Nat.le_of_ble_eq_true rfl⟩) (ck_preV hxT hK hP hD [0] rfl (by decide) (q0 := 0) rfl rfl rfl) rfl rfl hl.1 rfl (lv_room (Nat.le_of_ble_eq_true rfl)) dX6_firstBar_34 ⟨Nat.zero_le _, Nat.zero_le _⟩) ?_
      refine wk_bif_eq (tgt := 42) hx hb dX6_firstBar_37 (by decide) (fun c_5 => ?_) (fun c_5 => ?_)
      · skip
        refine lv_aload_n hx hb dX6_firstBar_42 rfl (lv_at hl 1 rfl) ?_
        refine va_get (D := D) (ci := 6) (v := .ref aK) (C := RX6) (T := TX6) (N := 11) hx hb hts (fun w h => (List.mem_cons_of_mem _ (hinX6 w h))) hown hK hP 0 rfl rfl 4 (by decide) (hts _ (List.mem_cons_of_mem _ wd_193)) (fun _ h9 => h9) rfl dX6_firstBar_43 ?_
        refine va_get (D := D) (ci := 0) (v := .ref aKt) (C := RX0) (T := TX0) (N := 8) hx hb hts (fun w h => (List.mem_cons_of_mem _ (hinX0 w h))) hown hK hP 6 rfl rfl 1 (by decide) (hts _ (List.mem_cons_of_mem _ wd_144)) (fun _ h9 => h9) rfl dX6_firstBar_46 ?_
        refine lv_iload_n hx hb dX6_firstBar_49 rfl (lv_at hl 2 rfl) ?_
        refine wk_iald hx hb hK hP 8 0 rfl rfl (by decide) (by omega) dX6_firstBar_50 ?_
        have b_6 := hkt2 bk
        refine lv_istore_n (lv' := [(3, .int (iI (kt bk))), (2, .int (iI (ks bk))), (0, .ref g), (1, .int (iI bk))]) hx hb dX6_firstBar_51 rfl hl (by decide) rfl (fun ls hl => ?_)
        refine lv_aload_n hx hb dX6_firstBar_52 rfl (lv_at hl 2 rfl) ?_
        refine va_get (D := D) (ci := 6) (v := .ref aT) (C := RX6) (T := TX6) (N := 11) hx hb hts (fun w h => (List.mem_cons_of_mem _ (hinX6 w h))) hown hK hP 0 rfl rfl 2 (by decide) (hts _ (List.mem_cons_of_mem _ wd_191)) (fun _ h9 => h9) rfl dX6_firstBar_53 ?_
        refine lv_iload_n hx hb dX6_firstBar_56 rfl (lv_at hl 0 rfl) ?_
        refine lv_iconst (v := iI 4) hx hb dX6_firstBar_57 rfl ?_
        refine pk_callI (va_runV (As := [.int (iI (kt bk)), .int (iI 4)]) (rest := []) ⟨hx, hb, hml, hown, hts⟩ (tX5_verdictOf l D kI kZ kL kJ aT aTv tv (kt bk) 4 s.heap.size (by first | assumption | omega) (by first | assumption | omega)) (cwV 2 hts (gd_V tb_cons wd_528 wd_529 wd_530 wd_36 wd_531) rfl rfl rfl (by decide +kernel) ⟨Nat.le_of_ble_eq_true rfl, Nat.le_of_ble_eq_true rfl⟩) (ck_preV hxT hK hP hD [4, 5] rfl (by decide) (q0 := 0) rfl rfl rfl) rfl rfl hl.1 rfl (lv_room (Nat.le_of_ble_eq_true rfl)) dX6_firstBar_58 ⟨Nat.zero_le _, Nat.zero_le _⟩) ?_
        have b4 := htv (kt bk * 2 + 4 - 4)
        refine wk_if_ne (tgt := 66) hx hb dX6_firstBar_61 (by decide) (by omega) (fun c_7 => ?_) (fun c_7 => ?_)
        · skip
          refine lv_aload_n hx hb dX6_firstBar_66 rfl (lv_at hl 2 rfl) ?_
          refine va_get (D := D) (ci := 6) (v := .ref aT) (C := RX6) (T := TX6) (N := 11) hx hb hts (fun w h => (List.mem_cons_of_mem _ (hinX6 w h))) hown hK hP 0 rfl rfl 2 (by decide) (hts _ (List.mem_cons_of_mem _ wd_191)) (fun _ h9 => h9) rfl dX6_firstBar_67 ?_
          refine lv_iload_n hx hb dX6_firstBar_70 rfl (lv_at hl 0 rfl) ?_
          refine lv_iconst (v := iI 5) hx hb dX6_firstBar_71 rfl ?_
          refine pk_callI (va_runV (As := [.int (iI (kt bk)), .int (iI 5)]) (rest := []) ⟨hx, hb, hml, hown, hts⟩ (tX5_verdictOf l D kI kZ kL kJ aT aTv tv (kt bk) 5 s.heap.size (by first | assumption | omega) (by first | assumption | omega)) (cwV 2 hts (gd_V tb_cons wd_528 wd_529 wd_530 wd_36 wd_531) rfl rfl rfl (by decide +kernel) ⟨Nat.le_of_ble_eq_true rfl, Nat.le_of_ble_eq_true rfl⟩) (ck_preV hxT hK hP hD [4, 5] rfl (by decide) (q0 := 0) rfl rfl rfl) rfl rfl hl.1 rfl (lv_room (Nat.le_of_ble_eq_true rfl)) dX6_firstBar_72 ⟨Nat.zero_le _, Nat.zero_le _⟩) ?_
          have b5 := htv (kt bk * 2 + 5 - 4)
          refine wk_if_ne (tgt := 80) hx hb dX6_firstBar_75 (by decide) (by omega) (fun c_8 => ?_) (fun c_8 => ?_)
          · skip
            refine lv_aload_n hx hb dX6_firstBar_80 rfl (lv_at hl 2 rfl) ?_
            refine lv_aload_n hx hb dX6_firstBar_81 rfl (lv_at hl 2 rfl) ?_
            refine va_get (D := D) (ci := 6) (v := .ref aK) (C := RX6) (T := TX6) (N := 11) hx hb hts (fun w h => (List.mem_cons_of_mem _ (hinX6 w h))) hown hK hP 0 rfl rfl 4 (by decide) (hts _ (List.mem_cons_of_mem _ wd_193)) (fun _ h9 => h9) rfl dX6_firstBar_82 ?_
            refine va_get (D := D) (ci := 0) (v := .ref aKb) (C := RX0) (T := TX0) (N := 8) hx hb hts (fun w h => (List.mem_cons_of_mem _ (hinX0 w h))) hown hK hP 6 rfl rfl 2 (by decide) (hts _ (List.mem_cons_of_mem _ wd_146)) (fun _ h9 => h9) rfl dX6_firstBar_85 ?_
            refine lv_iload_n hx hb dX6_firstBar_88 rfl (lv_at hl 3 rfl) ?_
            refine wk_iald hx hb hK hP 9 0 rfl rfl (by decide) (by omega) dX6_firstBar_89 ?_
            have b_9 := hkb bk
            refine pk_callI (va_runV (As := [.int (iI (kb bk))]) (rest := []) ⟨hx, hb, hml, hown, hts⟩ (tX6_firstBarOfBox l D kI kZ kL kJ g aR aB aT aS aK aL aBs aBw aBd aBv bd bv nw al lg tt dn bn (kb bk) s.heap.size (by first | assumption | omega) (by first | assumption | omega) (by first | assumption | omega)) (cwV 1 hts (gd_V tb_cons wd_532 wd_534 wd_13 wd_33 wd_535) rfl rfl rfl (by decide +kernel) ⟨Nat.le_of_ble_eq_true rfl, Nat.le_of_ble_eq_true rfl⟩) (ck_preV hxT hK hP hD [0, 1, 2, 3] rfl (by decide) (q0 := 0) rfl rfl rfl) rfl rfl hl.1 rfl (lv_room (Nat.le_of_ble_eq_true rfl)) dX6_firstBar_90 ⟨Nat.zero_le _, Nat.zero_le _⟩) ?_
            have b6 := fbB_rng bv bd (kb bk)
            refine lv_istore (lv' := [(4, .int (iI (fbB bv bd (kb bk)))), (3, .int (iI (kt bk))), (2, .int (iI (ks bk))), (0, .ref g), (1, .int (iI bk))]) hx hb dX6_firstBar_93 hl (by decide) rfl (fun ls hl => ?_)
            refine lv_iload hx hb dX6_firstBar_95 (lv_at hl 0 rfl) ?_
            refine wk_if_eq (tgt := 103) hx hb dX6_firstBar_97 (by decide) (by omega) (fun c_10 => ?_) (fun c_10 => ?_)
            · skip
              refine lv_aload_n hx hb dX6_firstBar_103 rfl (lv_at hl 3 rfl) ?_
              refine va_get (D := D) (ci := 6) (v := .ref aK) (C := RX6) (T := TX6) (N := 11) hx hb hts (fun w h => (List.mem_cons_of_mem _ (hinX6 w h))) hown hK hP 0 rfl rfl 4 (by decide) (hts _ (List.mem_cons_of_mem _ wd_193)) (fun _ h9 => h9) rfl dX6_firstBar_104 ?_
              refine lv_iload_n hx hb dX6_firstBar_107 rfl (lv_at hl 1 rfl) ?_
              refine pk_callI (va_runV (As := [.int (iI (kt bk))]) (rest := []) ⟨hx, hb, hml, hown, hts⟩ (tX0_holdsTruckIn l D kI kZ kL kJ aK aKs aKt aKb aKz aKl aKc aKu kt kz kn (kt bk) s.heap.size (by first | assumption | omega) (by first | assumption | omega) (by first | assumption | omega) (by first | assumption | omega)) (cwV 1 hts (gd_V tb_cons wd_540 wd_541 wd_542 wd_39 wd_543) rfl rfl rfl (by decide +kernel) ⟨Nat.le_of_ble_eq_true rfl, Nat.le_of_ble_eq_true rfl⟩) (ck_preV hxT hK hP hD [6, 8, 10] rfl (by decide) (q0 := 0) rfl rfl rfl) rfl rfl hl.1 rfl (lv_room (Nat.le_of_ble_eq_true rfl)) dX6_firstBar_108 ⟨Nat.zero_le _, Nat.zero_le _⟩) ?_
              refine wk_bif_eq (tgt := 119) hx hb dX6_firstBar_111 (by decide) (fun c_11 => ?_) (fun c_11 => ?_)
              · skip
                refine lv_iconst (v := iI 0) hx hb dX6_firstBar_119 rfl ?_
                exact pk_int hx hb hr hlocks (by (unfold fbR; repeat' split) <;> first | rfl | omega) dX6_firstBar_120
              · skip
                refine lv_bipush (v := iI 9) hx hb dX6_firstBar_114 (by decide) ?_
                refine lv_goto (tgt := 120) hx hb dX6_firstBar_116 (by decide) ?_
                exact pk_int hx hb hr hlocks (by (unfold fbR; repeat' split) <;> first | rfl | omega) dX6_firstBar_120
            · skip
              refine lv_iload hx hb dX6_firstBar_100 (lv_at hl 0 rfl) ?_
              exact pk_int hx hb hr hlocks (by (unfold fbR; repeat' split) <;> first | rfl | omega) dX6_firstBar_102
          · skip
            refine lv_iconst (v := iI 4) hx hb dX6_firstBar_78 rfl ?_
            exact pk_int hx hb hr hlocks (by (unfold fbR; repeat' split) <;> first | rfl | omega) dX6_firstBar_79
        · skip
          refine lv_iconst (v := iI 3) hx hb dX6_firstBar_64 rfl ?_
          exact pk_int hx hb hr hlocks (by (unfold fbR; repeat' split) <;> first | rfl | omega) dX6_firstBar_65
      · skip
        refine lv_iconst (v := iI 2) hx hb dX6_firstBar_40 rfl ?_
        exact pk_int hx hb hr hlocks (by (unfold fbR; repeat' split) <;> first | rfl | omega) dX6_firstBar_41
  · skip
    refine lv_iconst (v := iI 1) hx hb dX6_firstBar_12 rfl ?_
    exact pk_int hx hb hr hlocks (by (unfold fbR; repeat' split) <;> first | rfl | omega) dX6_firstBar_13

set_option maxHeartbeats 4000000 in
set_option maxRecDepth 100000 in
theorem tX6_laneFor (l : Launch) (D : va_G) (kI : ClassId) (kZ : ClassId) (kL : ClassId) (kJ : ClassId) (g : Nat) (aR : Nat) (aB : Nat) (aT : Nat) (aS : Nat) (aK : Nat) (aL : Nat) (aBs : Nat) (aBw : Nat) (aBd : Nat) (aBv : Nat) (a0 : Nat) (a1 : Nat) (a2 : Nat) (a0w : Nat) (a1w : Nat) (bv : Int → Int) (nw : Int) (al : Int) (lg : Int) (tt : Int) (dn : Int) (bn : Int) (n0 : Int) (n1 : Int) (bx : Int) (sz : Nat) (hbx : 0 ≤ bx ∧ bx < 20) (hbv : ∀ j, 0 ≤ bv j ∧ bv j ≤ 1000000) (hn0 : 0 ≤ n0 ∧ n0 ≤ 16) (hn1 : 0 ≤ n1 ∧ n1 ≤ 16) : CtP l yX6_laneFor wsX6_laneFor ({ frames := 1, cells := 0, slots := 0, locals := 22 }) D vwCl (tyL kI kZ kL kJ) [(g, .inr (6, [.ref aR, .ref aB, .ref aT, .ref aS, .ref aK, .ref aL, .int (iI nw), .int (iI al), .int (iI lg), .int (iI tt), .int (iI dn)])), (aB, .inr (1, [.ref aBs, .ref aBw, .ref aBd, .ref aBv, .int (iI bn)])), (aBv, .inl (kI, 80, .inl (iF bv))), (aL, .inl (kL, 3, .inr (.inr (.inr (.inr (g3 a0 a1 a2)))))), (a0, .inr (2, [.ref a0w, .int (iI n0)])), (a1, .inr (2, [.ref a1w, .int (iI n1)]))] [.ref g, .int (iI bx)] (iI (if bv (bx * 4 + 1) = 2 ∨ bv (bx * 4 + 2) = 2 then 2 else if n1 < n0 then 1 else 0)) sz := by
  refine pk_start (cc := cX6_laneFor) (maxL := 2) (ret := (some .int)) (LV := [(0, .ref g), (1, .int (iI bx))]) (by decide) rfl rfl (Nat.le_of_ble_eq_true rfl) ?_
  intro p e s m below meth cd hadm hx hb hr hml hts hown hlocks hname hnoh hxT A hA hK hP hD hS ls hl
  refine lv_aload_n hx hb dX6_laneFor_0 rfl (lv_at hl 0 rfl) ?_
  refine va_get (D := D) (ci := 6) (v := .ref aB) (C := RX6) (T := TX6) (N := 11) hx hb hts (fun w h => (List.mem_cons_of_mem _ (hinX6 w h))) hown hK hP 0 rfl rfl 1 (by decide) (hts _ (List.mem_cons_of_mem _ wd_190)) (fun _ h9 => h9) rfl dX6_laneFor_1 ?_
  refine lv_iload_n hx hb dX6_laneFor_4 rfl (lv_at hl 1 rfl) ?_
  refine lv_iconst (v := iI 1) hx hb dX6_laneFor_5 rfl ?_
  refine pk_callI (va_runV (As := [.int (iI bx), .int (iI 1)]) (rest := []) ⟨hx, hb, hml, hown, hts⟩ (tX1_verdictOf l D kI kZ kL kJ aB aBs aBw aBd aBv bv bn bx 1 s.heap.size (by first | assumption | omega) (by first | assumption | omega)) (cwV 2 hts (gd_V tb_cons wd_536 wd_537 wd_538 wd_35 wd_539) rfl rfl rfl (by decide +kernel) ⟨Nat.le_of_ble_eq_true rfl, Nat.le_of_ble_eq_true rfl⟩) (ck_preV hxT hK hP hD [1, 2] rfl (by decide) (q0 := 0) rfl rfl rfl) rfl rfl hl.1 rfl (lv_room (Nat.le_of_ble_eq_true rfl)) dX6_laneFor_6 ⟨Nat.zero_le _, Nat.zero_le _⟩) ?_
  have b1 := hbv (bx * 4 + 1)
  refine lv_iconst (v := iI 2) hx hb dX6_laneFor_9 rfl ?_
  refine wk_icmp_eq (tgt := 26) hx hb dX6_laneFor_10 (by decide) (by omega) (fun c_1 => ?_) (fun c_1 => ?_)
  · skip
    refine lv_iconst (v := iI 2) hx hb dX6_laneFor_26 rfl ?_
    exact pk_int hx hb hr hlocks (by (repeat' split) <;> first | rfl | omega) dX6_laneFor_27
  · skip
    refine lv_aload_n hx hb dX6_laneFor_13 rfl (lv_at hl 0 rfl) ?_
    refine va_get (D := D) (ci := 6) (v := .ref aB) (C := RX6) (T := TX6) (N := 11) hx hb hts (fun w h => (List.mem_cons_of_mem _ (hinX6 w h))) hown hK hP 0 rfl rfl 1 (by decide) (hts _ (List.mem_cons_of_mem _ wd_190)) (fun _ h9 => h9) rfl dX6_laneFor_14 ?_
    refine lv_iload_n hx hb dX6_laneFor_17 rfl (lv_at hl 1 rfl) ?_
    refine lv_iconst (v := iI 2) hx hb dX6_laneFor_18 rfl ?_
    refine pk_callI (va_runV (As := [.int (iI bx), .int (iI 2)]) (rest := []) ⟨hx, hb, hml, hown, hts⟩ (tX1_verdictOf l D kI kZ kL kJ aB aBs aBw aBd aBv bv bn bx 2 s.heap.size (by first | assumption | omega) (by first | assumption | omega)) (cwV 2 hts (gd_V tb_cons wd_536 wd_537 wd_538 wd_35 wd_539) rfl rfl rfl (by decide +kernel) ⟨Nat.le_of_ble_eq_true rfl, Nat.le_of_ble_eq_true rfl⟩) (ck_preV hxT hK hP hD [1, 2] rfl (by decide) (q0 := 0) rfl rfl rfl) rfl rfl hl.1 rfl (lv_room (Nat.le_of_ble_eq_true rfl)) dX6_laneFor_19 ⟨Nat.zero_le _, Nat.zero_le _⟩) ?_
    have b2 := hbv (bx * 4 + 2)
    refine lv_iconst (v := iI 2) hx hb dX6_laneFor_22 rfl ?_
    refine wk_icmp_ne (tgt := 28) hx hb dX6_laneFor_23 (by decide) (by omega) (fun c_2 => ?_) (fun c_2 => ?_)
    · skip
      refine lv_aload_n hx hb dX6_laneFor_28 rfl (lv_at hl 0 rfl) ?_
      refine va_get (D := D) (ci := 6) (v := .ref aL) (C := RX6) (T := TX6) (N := 11) hx hb hts (fun w h => (List.mem_cons_of_mem _ (hinX6 w h))) hown hK hP 0 rfl rfl 5 (by decide) (hts _ (List.mem_cons_of_mem _ wd_194)) (fun _ h9 => h9) rfl dX6_laneFor_29 ?_
      refine lv_iconst (v := iI 1) hx hb dX6_laneFor_32 rfl ?_
      refine wk_aald (y := a1) hx hb hK hP 3 2 rfl rfl (by decide) (by decide) rfl dX6_laneFor_33 ?_
      refine va_get (D := D) (ci := 2) (v := .int (iI n1)) (C := RX2) (T := TX2) (N := 2) hx hb hts (fun w h => (List.mem_cons_of_mem _ (hinX2 w h))) hown hK hP 5 rfl rfl 1 (by decide) (hts _ (List.mem_cons_of_mem _ wd_183)) (fun _ h9 => h9) rfl dX6_laneFor_34 ?_
      refine lv_aload_n hx hb dX6_laneFor_37 rfl (lv_at hl 0 rfl) ?_
      refine va_get (D := D) (ci := 6) (v := .ref aL) (C := RX6) (T := TX6) (N := 11) hx hb hts (fun w h => (List.mem_cons_of_mem _ (hinX6 w h))) hown hK hP 0 rfl rfl 5 (by decide) (hts _ (List.mem_cons_of_mem _ wd_194)) (fun _ h9 => h9) rfl dX6_laneFor_38 ?_
      refine lv_iconst (v := iI 0) hx hb dX6_laneFor_41 rfl ?_
      refine wk_aald (y := a0) hx hb hK hP 3 2 rfl rfl (by decide) (by decide) rfl dX6_laneFor_42 ?_
      refine va_get (D := D) (ci := 2) (v := .int (iI n0)) (C := RX2) (T := TX2) (N := 2) hx hb hts (fun w h => (List.mem_cons_of_mem _ (hinX2 w h))) hown hK hP 4 rfl rfl 1 (by decide) (hts _ (List.mem_cons_of_mem _ wd_183)) (fun _ h9 => h9) rfl dX6_laneFor_43 ?_
      refine wk_icmp_ge (tgt := 53) hx hb dX6_laneFor_46 (by decide) (by omega) (fun c_3 => ?_) (fun c_3 => ?_)
      · skip
        refine lv_iconst (v := iI 0) hx hb dX6_laneFor_53 rfl ?_
        exact pk_int hx hb hr hlocks (by (repeat' split) <;> first | rfl | omega) dX6_laneFor_54
      · skip
        refine lv_iconst (v := iI 1) hx hb dX6_laneFor_49 rfl ?_
        refine lv_goto (tgt := 54) hx hb dX6_laneFor_50 (by decide) ?_
        exact pk_int hx hb hr hlocks (by (repeat' split) <;> first | rfl | omega) dX6_laneFor_54
    · skip
      refine lv_iconst (v := iI 2) hx hb dX6_laneFor_26 rfl ?_
      exact pk_int hx hb hr hlocks (by (repeat' split) <;> first | rfl | omega) dX6_laneFor_27

set_option maxHeartbeats 4000000 in
set_option maxRecDepth 100000 in
theorem tX6_joinLane_0 (l : Launch) (D : va_G) (kI : ClassId) (kZ : ClassId) (kL : ClassId) (kJ : ClassId) (g : Nat) (aR : Nat) (aB : Nat) (aT : Nat) (aS : Nat) (aK : Nat) (aL : Nat) (aKs : Nat) (aKt : Nat) (aKb : Nat) (aKz : Nat) (aKl : Nat) (aKc : Nat) (aKu : Nat) (a0 : Nat) (a1 : Nat) (a2 : Nat) (a0w : Nat) (kl : Int → Int) (w0 : Int → Int) (nw : Int) (al : Int) (lg : Int) (tt : Int) (dn : Int) (kn : Int) (n0 : Int) (bk : Int) (sz : Nat) (hbk : 1 ≤ bk ∧ bk ≤ 60) (hn0 : 0 ≤ n0 ∧ n0 < 16) : CtV l yX6_joinLane wsX6_joinLane ({ frames := 1, cells := 0, slots := 0, locals := 21 }) D vwCl (tyL kI kZ kL kJ) [(g, .inr (6, [.ref aR, .ref aB, .ref aT, .ref aS, .ref aK, .ref aL, .int (iI nw), .int (iI al), .int (iI lg), .int (iI tt), .int (iI dn)])), (aK, .inr (0, [.ref aKs, .ref aKt, .ref aKb, .ref aKz, .ref aKl, .ref aKc, .ref aKu, .int (iI kn)])), (aKl, .inl (kI, 61, .inl (iF kl))), (aL, .inl (kL, 3, .inr (.inr (.inr (.inr (g3 a0 a1 a2)))))), (a0, .inr (2, [.ref a0w, .int (iI n0)])), (a0w, .inl (kI, 16, .inl (iF w0)))] [.ref g, .int (iI bk), .int (iI 0)] [(g, .inr (6, [.ref aR, .ref aB, .ref aT, .ref aS, .ref aK, .ref aL, .int (iI nw), .int (iI al), .int (iI lg), .int (iI tt), .int (iI dn)])), (aK, .inr (0, [.ref aKs, .ref aKt, .ref aKb, .ref aKz, .ref aKl, .ref aKc, .ref aKu, .int (iI kn)])), (aKl, .inl (kI, 61, .inl (iF (iu kl bk 0)))), (aL, .inl (kL, 3, .inr (.inr (.inr (.inr (g3 a0 a1 a2)))))), (a0, .inr (2, [.ref a0w, .int (iI (n0 + 1))])), (a0w, .inl (kI, 16, .inl (iF (iu w0 n0 bk))))] sz := by
  refine ck_start (Qc := fun A => cQv D vwCl (tyL kI kZ kL kJ) A [(g, .inr (6, [.ref aR, .ref aB, .ref aT, .ref aS, .ref aK, .ref aL, .int (iI nw), .int (iI al), .int (iI lg), .int (iI tt), .int (iI dn)])), (aK, .inr (0, [.ref aKs, .ref aKt, .ref aKb, .ref aKz, .ref aKl, .ref aKc, .ref aKu, .int (iI kn)])), (aKl, .inl (kI, 61, .inl (iF (iu kl bk 0)))), (aL, .inl (kL, 3, .inr (.inr (.inr (.inr (g3 a0 a1 a2)))))), (a0, .inr (2, [.ref a0w, .int (iI (n0 + 1))])), (a0w, .inl (kI, 16, .inl (iF (iu w0 n0 bk))))]) (cc := cX6_joinLane) (maxL := 3) (ret := none) (LV := [(0, .ref g), (1, .int (iI bk)), (2, .int (iI 0))]) (by decide) rfl rfl (Nat.le_of_ble_eq_true rfl) ?_
  intro p e s m below meth cd hadm hx hb hr hml hts hown hlocks hname hnoh hxT A hA hK hP hD hS ls hl
  refine lv_aload_n hx hb dX6_joinLane_0 rfl (lv_at hl 0 rfl) ?_
  refine va_get (D := D) (ci := 6) (v := .ref aL) (C := RX6) (T := TX6) (N := 11) hx hb hts (fun w h => (List.mem_cons_of_mem _ (hinX6 w h))) hown hK hP 0 rfl rfl 5 (by decide) (hts _ (List.mem_cons_of_mem _ wd_194)) (fun _ h9 => h9) rfl dX6_joinLane_1 ?_
  refine lv_iload_n hx hb dX6_joinLane_4 rfl (lv_at hl 2 rfl) ?_
  refine wk_aald (y := a0) hx hb hK hP 3 2 rfl rfl (by decide) (by decide) rfl dX6_joinLane_5 ?_
  refine lv_iload_n hx hb dX6_joinLane_6 rfl (lv_at hl 1 rfl) ?_
  refine ck_backV (va_runV (As := [.int (iI bk)]) (rest := []) ⟨hx, hb, hml, hown, hts⟩ (tX2_add l D kI kZ kL kJ a0 a0w w0 n0 bk s.heap.size (by first | assumption | omega)) (cwV 1 hts (gd_V tb_cons wd_552 wd_553 wd_554 wd_40 wd_555) rfl rfl rfl (by decide +kernel) ⟨Nat.le_of_ble_eq_true rfl, Nat.le_of_ble_eq_true rfl⟩) (ck_preV hxT hK hP hD [4, 5] rfl (by decide) (q0 := 0) rfl rfl rfl) rfl rfl hl.1 rfl (lv_room (Nat.le_of_ble_eq_true rfl)) dX6_joinLane_7 ⟨Nat.zero_le _, Nat.zero_le _⟩) hP hD hS hA [4, 5] [0, 1, 2, 3] (WR := [(g, .inr (6, [.ref aR, .ref aB, .ref aT, .ref aS, .ref aK, .ref aL, .int (iI nw), .int (iI al), .int (iI lg), .int (iI tt), .int (iI dn)])), (aK, .inr (0, [.ref aKs, .ref aKt, .ref aKb, .ref aKz, .ref aKl, .ref aKc, .ref aKu, .int (iI kn)])), (aKl, .inl (kI, 61, .inl (iF kl))), (aL, .inl (kL, 3, .inr (.inr (.inr (.inr (g3 a0 a1 a2))))))]) rfl rfl (by decide) (by decide) (ws' := [(g, .inr (6, [.ref aR, .ref aB, .ref aT, .ref aS, .ref aK, .ref aL, .int (iI nw), .int (iI al), .int (iI lg), .int (iI tt), .int (iI dn)])), (aK, .inr (0, [.ref aKs, .ref aKt, .ref aKb, .ref aKz, .ref aKl, .ref aKc, .ref aKu, .int (iI kn)])), (aKl, .inl (kI, 61, .inl (iF kl))), (aL, .inl (kL, 3, .inr (.inr (.inr (.inr (g3 a0 a1 a2)))))), (a0, .inr (2, [.ref a0w, .int (iI (n0 + 1))])), (a0w, .inl (kI, 16, .inl (iF (iu w0 n0 bk))))]) rfl (fun H locs hP hD hS => ?_)
  refine lv_aload_n hx hb dX6_joinLane_10 rfl (lv_at hl 0 rfl) ?_
  refine va_get (D := D) (ci := 6) (v := .ref aK) (C := RX6) (T := TX6) (N := 11) hx hb hts (fun w h => (List.mem_cons_of_mem _ (hinX6 w h))) hown hK hP 0 rfl rfl 4 (by decide) (hts _ (List.mem_cons_of_mem _ wd_193)) (fun _ h9 => h9) rfl dX6_joinLane_11 ?_
  refine va_get (D := D) (ci := 0) (v := .ref aKl) (C := RX0) (T := TX0) (N := 8) hx hb hts (fun w h => (List.mem_cons_of_mem _ (hinX0 w h))) hown hK hP 1 rfl rfl 4 (by decide) (hts _ (List.mem_cons_of_mem _ wd_150)) (fun _ h9 => h9) rfl dX6_joinLane_14 ?_
  refine lv_iload_n hx hb dX6_joinLane_17 rfl (lv_at hl 1 rfl) ?_
  refine lv_iload_n hx hb dX6_joinLane_18 rfl (lv_at hl 2 rfl) ?_
  refine wk_iast hx hb hK hP hD hS 2 0 rfl rfl (by decide) (by omega) dX6_joinLane_19 (ws' := [(g, .inr (6, [.ref aR, .ref aB, .ref aT, .ref aS, .ref aK, .ref aL, .int (iI nw), .int (iI al), .int (iI lg), .int (iI tt), .int (iI dn)])), (aK, .inr (0, [.ref aKs, .ref aKt, .ref aKb, .ref aKz, .ref aKl, .ref aKc, .ref aKu, .int (iI kn)])), (aKl, .inl (kI, 61, .inl (iF (iu kl bk 0)))), (aL, .inl (kL, 3, .inr (.inr (.inr (.inr (g3 a0 a1 a2)))))), (a0, .inr (2, [.ref a0w, .int (iI (n0 + 1))])), (a0w, .inl (kI, 16, .inl (iF (iu w0 n0 bk))))]) rfl (fun H locs hP hD hS => ?_)
  exact rk_void hx hb hr hlocks hK hP hD hS rfl dX6_joinLane_20

set_option maxHeartbeats 4000000 in
set_option maxRecDepth 100000 in
theorem tX6_joinLane_1 (l : Launch) (D : va_G) (kI : ClassId) (kZ : ClassId) (kL : ClassId) (kJ : ClassId) (g : Nat) (aR : Nat) (aB : Nat) (aT : Nat) (aS : Nat) (aK : Nat) (aL : Nat) (aKs : Nat) (aKt : Nat) (aKb : Nat) (aKz : Nat) (aKl : Nat) (aKc : Nat) (aKu : Nat) (a0 : Nat) (a1 : Nat) (a2 : Nat) (a1w : Nat) (kl : Int → Int) (w1 : Int → Int) (nw : Int) (al : Int) (lg : Int) (tt : Int) (dn : Int) (kn : Int) (n1 : Int) (bk : Int) (sz : Nat) (hbk : 1 ≤ bk ∧ bk ≤ 60) (hn1 : 0 ≤ n1 ∧ n1 < 16) : CtV l yX6_joinLane wsX6_joinLane ({ frames := 1, cells := 0, slots := 0, locals := 21 }) D vwCl (tyL kI kZ kL kJ) [(g, .inr (6, [.ref aR, .ref aB, .ref aT, .ref aS, .ref aK, .ref aL, .int (iI nw), .int (iI al), .int (iI lg), .int (iI tt), .int (iI dn)])), (aK, .inr (0, [.ref aKs, .ref aKt, .ref aKb, .ref aKz, .ref aKl, .ref aKc, .ref aKu, .int (iI kn)])), (aKl, .inl (kI, 61, .inl (iF kl))), (aL, .inl (kL, 3, .inr (.inr (.inr (.inr (g3 a0 a1 a2)))))), (a1, .inr (2, [.ref a1w, .int (iI n1)])), (a1w, .inl (kI, 16, .inl (iF w1)))] [.ref g, .int (iI bk), .int (iI 1)] [(g, .inr (6, [.ref aR, .ref aB, .ref aT, .ref aS, .ref aK, .ref aL, .int (iI nw), .int (iI al), .int (iI lg), .int (iI tt), .int (iI dn)])), (aK, .inr (0, [.ref aKs, .ref aKt, .ref aKb, .ref aKz, .ref aKl, .ref aKc, .ref aKu, .int (iI kn)])), (aKl, .inl (kI, 61, .inl (iF (iu kl bk 1)))), (aL, .inl (kL, 3, .inr (.inr (.inr (.inr (g3 a0 a1 a2)))))), (a1, .inr (2, [.ref a1w, .int (iI (n1 + 1))])), (a1w, .inl (kI, 16, .inl (iF (iu w1 n1 bk))))] sz := by
  refine ck_start (Qc := fun A => cQv D vwCl (tyL kI kZ kL kJ) A [(g, .inr (6, [.ref aR, .ref aB, .ref aT, .ref aS, .ref aK, .ref aL, .int (iI nw), .int (iI al), .int (iI lg), .int (iI tt), .int (iI dn)])), (aK, .inr (0, [.ref aKs, .ref aKt, .ref aKb, .ref aKz, .ref aKl, .ref aKc, .ref aKu, .int (iI kn)])), (aKl, .inl (kI, 61, .inl (iF (iu kl bk 1)))), (aL, .inl (kL, 3, .inr (.inr (.inr (.inr (g3 a0 a1 a2)))))), (a1, .inr (2, [.ref a1w, .int (iI (n1 + 1))])), (a1w, .inl (kI, 16, .inl (iF (iu w1 n1 bk))))]) (cc := cX6_joinLane) (maxL := 3) (ret := none) (LV := [(0, .ref g), (1, .int (iI bk)), (2, .int (iI 1))]) (by decide) rfl rfl (Nat.le_of_ble_eq_true rfl) ?_
  intro p e s m below meth cd hadm hx hb hr hml hts hown hlocks hname hnoh hxT A hA hK hP hD hS ls hl
  refine lv_aload_n hx hb dX6_joinLane_0 rfl (lv_at hl 0 rfl) ?_
  refine va_get (D := D) (ci := 6) (v := .ref aL) (C := RX6) (T := TX6) (N := 11) hx hb hts (fun w h => (List.mem_cons_of_mem _ (hinX6 w h))) hown hK hP 0 rfl rfl 5 (by decide) (hts _ (List.mem_cons_of_mem _ wd_194)) (fun _ h9 => h9) rfl dX6_joinLane_1 ?_
  refine lv_iload_n hx hb dX6_joinLane_4 rfl (lv_at hl 2 rfl) ?_
  refine wk_aald (y := a1) hx hb hK hP 3 2 rfl rfl (by decide) (by decide) rfl dX6_joinLane_5 ?_
  refine lv_iload_n hx hb dX6_joinLane_6 rfl (lv_at hl 1 rfl) ?_
  refine ck_backV (va_runV (As := [.int (iI bk)]) (rest := []) ⟨hx, hb, hml, hown, hts⟩ (tX2_add l D kI kZ kL kJ a1 a1w w1 n1 bk s.heap.size (by first | assumption | omega)) (cwV 1 hts (gd_V tb_cons wd_552 wd_553 wd_554 wd_40 wd_555) rfl rfl rfl (by decide +kernel) ⟨Nat.le_of_ble_eq_true rfl, Nat.le_of_ble_eq_true rfl⟩) (ck_preV hxT hK hP hD [4, 5] rfl (by decide) (q0 := 0) rfl rfl rfl) rfl rfl hl.1 rfl (lv_room (Nat.le_of_ble_eq_true rfl)) dX6_joinLane_7 ⟨Nat.zero_le _, Nat.zero_le _⟩) hP hD hS hA [4, 5] [0, 1, 2, 3] (WR := [(g, .inr (6, [.ref aR, .ref aB, .ref aT, .ref aS, .ref aK, .ref aL, .int (iI nw), .int (iI al), .int (iI lg), .int (iI tt), .int (iI dn)])), (aK, .inr (0, [.ref aKs, .ref aKt, .ref aKb, .ref aKz, .ref aKl, .ref aKc, .ref aKu, .int (iI kn)])), (aKl, .inl (kI, 61, .inl (iF kl))), (aL, .inl (kL, 3, .inr (.inr (.inr (.inr (g3 a0 a1 a2))))))]) rfl rfl (by decide) (by decide) (ws' := [(g, .inr (6, [.ref aR, .ref aB, .ref aT, .ref aS, .ref aK, .ref aL, .int (iI nw), .int (iI al), .int (iI lg), .int (iI tt), .int (iI dn)])), (aK, .inr (0, [.ref aKs, .ref aKt, .ref aKb, .ref aKz, .ref aKl, .ref aKc, .ref aKu, .int (iI kn)])), (aKl, .inl (kI, 61, .inl (iF kl))), (aL, .inl (kL, 3, .inr (.inr (.inr (.inr (g3 a0 a1 a2)))))), (a1, .inr (2, [.ref a1w, .int (iI (n1 + 1))])), (a1w, .inl (kI, 16, .inl (iF (iu w1 n1 bk))))]) rfl (fun H locs hP hD hS => ?_)
  refine lv_aload_n hx hb dX6_joinLane_10 rfl (lv_at hl 0 rfl) ?_
  refine va_get (D := D) (ci := 6) (v := .ref aK) (C := RX6) (T := TX6) (N := 11) hx hb hts (fun w h => (List.mem_cons_of_mem _ (hinX6 w h))) hown hK hP 0 rfl rfl 4 (by decide) (hts _ (List.mem_cons_of_mem _ wd_193)) (fun _ h9 => h9) rfl dX6_joinLane_11 ?_
  refine va_get (D := D) (ci := 0) (v := .ref aKl) (C := RX0) (T := TX0) (N := 8) hx hb hts (fun w h => (List.mem_cons_of_mem _ (hinX0 w h))) hown hK hP 1 rfl rfl 4 (by decide) (hts _ (List.mem_cons_of_mem _ wd_150)) (fun _ h9 => h9) rfl dX6_joinLane_14 ?_
  refine lv_iload_n hx hb dX6_joinLane_17 rfl (lv_at hl 1 rfl) ?_
  refine lv_iload_n hx hb dX6_joinLane_18 rfl (lv_at hl 2 rfl) ?_
  refine wk_iast hx hb hK hP hD hS 2 0 rfl rfl (by decide) (by omega) dX6_joinLane_19 (ws' := [(g, .inr (6, [.ref aR, .ref aB, .ref aT, .ref aS, .ref aK, .ref aL, .int (iI nw), .int (iI al), .int (iI lg), .int (iI tt), .int (iI dn)])), (aK, .inr (0, [.ref aKs, .ref aKt, .ref aKb, .ref aKz, .ref aKl, .ref aKc, .ref aKu, .int (iI kn)])), (aKl, .inl (kI, 61, .inl (iF (iu kl bk 1)))), (aL, .inl (kL, 3, .inr (.inr (.inr (.inr (g3 a0 a1 a2)))))), (a1, .inr (2, [.ref a1w, .int (iI (n1 + 1))])), (a1w, .inl (kI, 16, .inl (iF (iu w1 n1 bk))))]) rfl (fun H locs hP hD hS => ?_)
  exact rk_void hx hb hr hlocks hK hP hD hS rfl dX6_joinLane_20

set_option maxHeartbeats 4000000 in
set_option maxRecDepth 100000 in
theorem tX6_joinLane_2 (l : Launch) (D : va_G) (kI : ClassId) (kZ : ClassId) (kL : ClassId) (kJ : ClassId) (g : Nat) (aR : Nat) (aB : Nat) (aT : Nat) (aS : Nat) (aK : Nat) (aL : Nat) (aKs : Nat) (aKt : Nat) (aKb : Nat) (aKz : Nat) (aKl : Nat) (aKc : Nat) (aKu : Nat) (a0 : Nat) (a1 : Nat) (a2 : Nat) (a2w : Nat) (kl : Int → Int) (w2 : Int → Int) (nw : Int) (al : Int) (lg : Int) (tt : Int) (dn : Int) (kn : Int) (n2 : Int) (bk : Int) (sz : Nat) (hbk : 1 ≤ bk ∧ bk ≤ 60) (hn2 : 0 ≤ n2 ∧ n2 < 16) : CtV l yX6_joinLane wsX6_joinLane ({ frames := 1, cells := 0, slots := 0, locals := 21 }) D vwCl (tyL kI kZ kL kJ) [(g, .inr (6, [.ref aR, .ref aB, .ref aT, .ref aS, .ref aK, .ref aL, .int (iI nw), .int (iI al), .int (iI lg), .int (iI tt), .int (iI dn)])), (aK, .inr (0, [.ref aKs, .ref aKt, .ref aKb, .ref aKz, .ref aKl, .ref aKc, .ref aKu, .int (iI kn)])), (aKl, .inl (kI, 61, .inl (iF kl))), (aL, .inl (kL, 3, .inr (.inr (.inr (.inr (g3 a0 a1 a2)))))), (a2, .inr (2, [.ref a2w, .int (iI n2)])), (a2w, .inl (kI, 16, .inl (iF w2)))] [.ref g, .int (iI bk), .int (iI 2)] [(g, .inr (6, [.ref aR, .ref aB, .ref aT, .ref aS, .ref aK, .ref aL, .int (iI nw), .int (iI al), .int (iI lg), .int (iI tt), .int (iI dn)])), (aK, .inr (0, [.ref aKs, .ref aKt, .ref aKb, .ref aKz, .ref aKl, .ref aKc, .ref aKu, .int (iI kn)])), (aKl, .inl (kI, 61, .inl (iF (iu kl bk 2)))), (aL, .inl (kL, 3, .inr (.inr (.inr (.inr (g3 a0 a1 a2)))))), (a2, .inr (2, [.ref a2w, .int (iI (n2 + 1))])), (a2w, .inl (kI, 16, .inl (iF (iu w2 n2 bk))))] sz := by
  refine ck_start (Qc := fun A => cQv D vwCl (tyL kI kZ kL kJ) A [(g, .inr (6, [.ref aR, .ref aB, .ref aT, .ref aS, .ref aK, .ref aL, .int (iI nw), .int (iI al), .int (iI lg), .int (iI tt), .int (iI dn)])), (aK, .inr (0, [.ref aKs, .ref aKt, .ref aKb, .ref aKz, .ref aKl, .ref aKc, .ref aKu, .int (iI kn)])), (aKl, .inl (kI, 61, .inl (iF (iu kl bk 2)))), (aL, .inl (kL, 3, .inr (.inr (.inr (.inr (g3 a0 a1 a2)))))), (a2, .inr (2, [.ref a2w, .int (iI (n2 + 1))])), (a2w, .inl (kI, 16, .inl (iF (iu w2 n2 bk))))]) (cc := cX6_joinLane) (maxL := 3) (ret := none) (LV := [(0, .ref g), (1, .int (iI bk)), (2, .int (iI 2))]) (by decide) rfl rfl (Nat.le_of_ble_eq_true rfl) ?_
  intro p e s m below meth cd hadm hx hb hr hml hts hown hlocks hname hnoh hxT A hA hK hP hD hS ls hl
  refine lv_aload_n hx hb dX6_joinLane_0 rfl (lv_at hl 0 rfl) ?_
  refine va_get (D := D) (ci := 6) (v := .ref aL) (C := RX6) (T := TX6) (N := 11) hx hb hts (fun w h => (List.mem_cons_of_mem _ (hinX6 w h))) hown hK hP 0 rfl rfl 5 (by decide) (hts _ (List.mem_cons_of_mem _ wd_194)) (fun _ h9 => h9) rfl dX6_joinLane_1 ?_
  refine lv_iload_n hx hb dX6_joinLane_4 rfl (lv_at hl 2 rfl) ?_
  refine wk_aald (y := a2) hx hb hK hP 3 2 rfl rfl (by decide) (by decide) rfl dX6_joinLane_5 ?_
  refine lv_iload_n hx hb dX6_joinLane_6 rfl (lv_at hl 1 rfl) ?_
  refine ck_backV (va_runV (As := [.int (iI bk)]) (rest := []) ⟨hx, hb, hml, hown, hts⟩ (tX2_add l D kI kZ kL kJ a2 a2w w2 n2 bk s.heap.size (by first | assumption | omega)) (cwV 1 hts (gd_V tb_cons wd_552 wd_553 wd_554 wd_40 wd_555) rfl rfl rfl (by decide +kernel) ⟨Nat.le_of_ble_eq_true rfl, Nat.le_of_ble_eq_true rfl⟩) (ck_preV hxT hK hP hD [4, 5] rfl (by decide) (q0 := 0) rfl rfl rfl) rfl rfl hl.1 rfl (lv_room (Nat.le_of_ble_eq_true rfl)) dX6_joinLane_7 ⟨Nat.zero_le _, Nat.zero_le _⟩) hP hD hS hA [4, 5] [0, 1, 2, 3] (WR := [(g, .inr (6, [.ref aR, .ref aB, .ref aT, .ref aS, .ref aK, .ref aL, .int (iI nw), .int (iI al), .int (iI lg), .int (iI tt), .int (iI dn)])), (aK, .inr (0, [.ref aKs, .ref aKt, .ref aKb, .ref aKz, .ref aKl, .ref aKc, .ref aKu, .int (iI kn)])), (aKl, .inl (kI, 61, .inl (iF kl))), (aL, .inl (kL, 3, .inr (.inr (.inr (.inr (g3 a0 a1 a2))))))]) rfl rfl (by decide) (by decide) (ws' := [(g, .inr (6, [.ref aR, .ref aB, .ref aT, .ref aS, .ref aK, .ref aL, .int (iI nw), .int (iI al), .int (iI lg), .int (iI tt), .int (iI dn)])), (aK, .inr (0, [.ref aKs, .ref aKt, .ref aKb, .ref aKz, .ref aKl, .ref aKc, .ref aKu, .int (iI kn)])), (aKl, .inl (kI, 61, .inl (iF kl))), (aL, .inl (kL, 3, .inr (.inr (.inr (.inr (g3 a0 a1 a2)))))), (a2, .inr (2, [.ref a2w, .int (iI (n2 + 1))])), (a2w, .inl (kI, 16, .inl (iF (iu w2 n2 bk))))]) rfl (fun H locs hP hD hS => ?_)
  refine lv_aload_n hx hb dX6_joinLane_10 rfl (lv_at hl 0 rfl) ?_
  refine va_get (D := D) (ci := 6) (v := .ref aK) (C := RX6) (T := TX6) (N := 11) hx hb hts (fun w h => (List.mem_cons_of_mem _ (hinX6 w h))) hown hK hP 0 rfl rfl 4 (by decide) (hts _ (List.mem_cons_of_mem _ wd_193)) (fun _ h9 => h9) rfl dX6_joinLane_11 ?_
  refine va_get (D := D) (ci := 0) (v := .ref aKl) (C := RX0) (T := TX0) (N := 8) hx hb hts (fun w h => (List.mem_cons_of_mem _ (hinX0 w h))) hown hK hP 1 rfl rfl 4 (by decide) (hts _ (List.mem_cons_of_mem _ wd_150)) (fun _ h9 => h9) rfl dX6_joinLane_14 ?_
  refine lv_iload_n hx hb dX6_joinLane_17 rfl (lv_at hl 1 rfl) ?_
  refine lv_iload_n hx hb dX6_joinLane_18 rfl (lv_at hl 2 rfl) ?_
  refine wk_iast hx hb hK hP hD hS 2 0 rfl rfl (by decide) (by omega) dX6_joinLane_19 (ws' := [(g, .inr (6, [.ref aR, .ref aB, .ref aT, .ref aS, .ref aK, .ref aL, .int (iI nw), .int (iI al), .int (iI lg), .int (iI tt), .int (iI dn)])), (aK, .inr (0, [.ref aKs, .ref aKt, .ref aKb, .ref aKz, .ref aKl, .ref aKc, .ref aKu, .int (iI kn)])), (aKl, .inl (kI, 61, .inl (iF (iu kl bk 2)))), (aL, .inl (kL, 3, .inr (.inr (.inr (.inr (g3 a0 a1 a2)))))), (a2, .inr (2, [.ref a2w, .int (iI (n2 + 1))])), (a2w, .inl (kI, 16, .inl (iF (iu w2 n2 bk))))]) rfl (fun H locs hP hD hS => ?_)
  exact rk_void hx hb hr hlocks hK hP hD hS rfl dX6_joinLane_20

set_option maxHeartbeats 4000000 in
set_option maxRecDepth 100000 in
theorem tX6_isWithinTolerance (l : Launch) (D : va_G) (kI : ClassId) (kZ : ClassId) (kL : ClassId) (kJ : ClassId) (g : Nat) (aR : Nat) (aB : Nat) (aT : Nat) (aS : Nat) (aK : Nat) (aL : Nat) (aBs : Nat) (aBw : Nat) (aBd : Nat) (aBv : Nat) (bw : Int → Int) (nw : Int) (al : Int) (lg : Int) (tt : Int) (dn : Int) (bn : Int) (bx : Int) (kg : Int) (sz : Nat) (hbx : 0 ≤ bx ∧ bx < 20) (hkg : 0 ≤ kg ∧ kg ≤ 200000) (hal : 0 ≤ al ∧ al ≤ 1000) (hbw : ∀ j, 0 ≤ bw j ∧ bw j ≤ 100000) : CtP l yX6_isWithinTolerance wsX6_isWithinTolerance ({ frames := 1, cells := 0, slots := 0, locals := 13 }) D vwCl (tyL kI kZ kL kJ) [(g, .inr (6, [.ref aR, .ref aB, .ref aT, .ref aS, .ref aK, .ref aL, .int (iI nw), .int (iI al), .int (iI lg), .int (iI tt), .int (iI dn)])), (aB, .inr (1, [.ref aBs, .ref aBw, .ref aBd, .ref aBv, .int (iI bn)])), (aBw, .inl (kI, 20, .inl (iF bw)))] [.ref g, .int (iI bx), .int (iI kg)] (iI (bi ((if 0 ≤ kg - bw bx then kg - bw bx else 0 - (kg - bw bx)) * 1000 ≤ bw bx * al))) sz := by
  refine pk_start (cc := cX6_isWithinTolerance) (maxL := 4) (ret := (some .boolean)) (LV := [(0, .ref g), (1, .int (iI bx)), (2, .int (iI kg))]) (by decide) rfl rfl (Nat.le_of_ble_eq_true rfl) ?_
  intro p e s m below meth cd hadm hx hb hr hml hts hown hlocks hname hnoh hxT A hA hK hP hD hS ls hl
  refine lv_aload_n hx hb dX6_isWithinTolerance_0 rfl (lv_at hl 0 rfl) ?_
  refine va_get (D := D) (ci := 6) (v := .ref aB) (C := RX6) (T := TX6) (N := 11) hx hb hts (fun w h => (List.mem_cons_of_mem _ (hinX6 w h))) hown hK hP 0 rfl rfl 1 (by decide) (hts _ (List.mem_cons_of_mem _ wd_190)) (fun _ h9 => h9) rfl dX6_isWithinTolerance_1 ?_
  refine va_get (D := D) (ci := 1) (v := .ref aBw) (C := RX1) (T := TX1) (N := 5) hx hb hts (fun w h => (List.mem_cons_of_mem _ (hinX1 w h))) hown hK hP 1 rfl rfl 1 (by decide) (hts _ (List.mem_cons_of_mem _ wd_81)) (fun _ h9 => h9) rfl dX6_isWithinTolerance_4 ?_
  refine lv_iload_n hx hb dX6_isWithinTolerance_7 rfl (lv_at hl 1 rfl) ?_
  refine wk_iald hx hb hK hP 2 0 rfl rfl (by decide) (by omega) dX6_isWithinTolerance_8 ?_
  have b_1 := hbw bx
  refine lv_istore_n (lv' := [(3, .int (iI (bw bx))), (0, .ref g), (1, .int (iI bx)), (2, .int (iI kg))]) hx hb dX6_isWithinTolerance_9 rfl hl (by decide) rfl (fun ls hl => ?_)
  refine lv_iload_n hx hb dX6_isWithinTolerance_10 rfl (lv_at hl 3 rfl) ?_
  refine lv_iload_n hx hb dX6_isWithinTolerance_11 rfl (lv_at hl 0 rfl) ?_
  refine wk_isub hx hb dX6_isWithinTolerance_12 ?_
  refine wk_mabs hx hb (hml.trans hl.1.symm) hown (hts _ (List.mem_cons_of_mem _ wd_569)) (hts _ (List.mem_cons_of_mem _ wd_570)) (hts _ (List.mem_cons_of_mem _ wd_38)) (hts _ (List.mem_cons_of_mem _ wm_abs)) (Nat.le_of_ble_eq_true rfl) (Nat.le_of_ble_eq_true rfl) (Nat.zero_le _) (Nat.zero_le _) (by omega) dX6_isWithinTolerance_13 ?_
  refine lv_sipush (v := iI 1000) hx hb dX6_isWithinTolerance_16 (by decide) ?_
  refine wk_imul hx hb dX6_isWithinTolerance_19 ?_
  refine lv_iload_n hx hb dX6_isWithinTolerance_20 rfl (lv_at hl 0 rfl) ?_
  refine lv_aload_n hx hb dX6_isWithinTolerance_21 rfl (lv_at hl 1 rfl) ?_
  refine va_get (D := D) (ci := 6) (v := .int (iI al)) (C := RX6) (T := TX6) (N := 11) hx hb hts (fun w h => (List.mem_cons_of_mem _ (hinX6 w h))) hown hK hP 0 rfl rfl 7 (by decide) (hts _ (List.mem_cons_of_mem _ wd_196)) (fun _ h9 => h9) rfl dX6_isWithinTolerance_22 ?_
  refine wk_imul hx hb dX6_isWithinTolerance_25 ?_
  refine wk_icmp_gt (tgt := 33) hx hb dX6_isWithinTolerance_26 (by decide) (by have e1 := Int.mul_nonneg (hbw bx).1 hal.1; have e2 := Int.mul_le_mul (hbw bx).2 hal.2 hal.1 (by omega); have e3 := hbw bx; split <;> omega) (fun c_2 => ?_) (fun c_2 => ?_)
  · skip
    refine lv_iconst (v := iI 0) hx hb dX6_isWithinTolerance_33 rfl ?_
    exact pk_bool hx hb hr hlocks (bi_f (by first | assumption | omega | (simp_all; done))) dX6_isWithinTolerance_34
  · skip
    refine lv_iconst (v := iI 1) hx hb dX6_isWithinTolerance_29 rfl ?_
    refine lv_goto (tgt := 34) hx hb dX6_isWithinTolerance_30 (by decide) ?_
    exact pk_bool hx hb hr hlocks (bi_t (by first | assumption | omega | (simp_all; done))) dX6_isWithinTolerance_34

set_option maxHeartbeats 4000000 in
set_option maxRecDepth 100000 in
theorem tX6_finish (l : Launch) (D : va_G) (kI : ClassId) (kZ : ClassId) (kL : ClassId) (kJ : ClassId) (g : Nat) (aR : Nat) (aB : Nat) (aT : Nat) (aS : Nat) (aK : Nat) (aL : Nat) (aKs : Nat) (aKt : Nat) (aKb : Nat) (aKz : Nat) (aKl : Nat) (aKc : Nat) (aKu : Nat) (kc : Int → Int) (kz : Int → Int) (ku : Int → Int) (nw : Int) (al : Int) (lg : Int) (tt : Int) (dn : Int) (kn : Int) (bk : Int) (sz : Nat) (hbk : 1 ≤ bk ∧ bk ≤ 60) (hnw : 0 ≤ nw ∧ nw ≤ 100000) (hlg : 0 ≤ lg ∧ lg ≤ 100000) (hkc : ∀ j, 0 ≤ kc j ∧ kc j ≤ 1000000) : CtV l yX6_finish wsX6_finish ({ frames := 1, cells := 0, slots := 0, locals := 14 }) D vwCl (tyL kI kZ kL kJ) [(g, .inr (6, [.ref aR, .ref aB, .ref aT, .ref aS, .ref aK, .ref aL, .int (iI nw), .int (iI al), .int (iI lg), .int (iI tt), .int (iI dn)])), (aK, .inr (0, [.ref aKs, .ref aKt, .ref aKb, .ref aKz, .ref aKl, .ref aKc, .ref aKu, .int (iI kn)])), (aKc, .inl (kI, 61, .inl (iF kc))), (aKz, .inl (kI, 61, .inl (iF kz))), (aKu, .inl (kI, 61, .inl (iF ku)))] [.ref g, .int (iI bk)] [(g, .inr (6, [.ref aR, .ref aB, .ref aT, .ref aS, .ref aK, .ref aL, .int (iI nw), .int (iI al), .int (iI (max lg (nw - kc bk))), .int (iI (tt + (nw - kc bk))), .int (iI (dn + 1))])), (aK, .inr (0, [.ref aKs, .ref aKt, .ref aKb, .ref aKz, .ref aKl, .ref aKc, .ref aKu, .int (iI kn)])), (aKc, .inl (kI, 61, .inl (iF kc))), (aKz, .inl (kI, 61, .inl (iF (iu kz bk 2)))), (aKu, .inl (kI, 61, .inl (iF (iu ku bk (nw - kc bk)))))] sz := by
  refine ck_start (Qc := fun A => cQv D vwCl (tyL kI kZ kL kJ) A [(g, .inr (6, [.ref aR, .ref aB, .ref aT, .ref aS, .ref aK, .ref aL, .int (iI nw), .int (iI al), .int (iI (max lg (nw - kc bk))), .int (iI (tt + (nw - kc bk))), .int (iI (dn + 1))])), (aK, .inr (0, [.ref aKs, .ref aKt, .ref aKb, .ref aKz, .ref aKl, .ref aKc, .ref aKu, .int (iI kn)])), (aKc, .inl (kI, 61, .inl (iF kc))), (aKz, .inl (kI, 61, .inl (iF (iu kz bk 2)))), (aKu, .inl (kI, 61, .inl (iF (iu ku bk (nw - kc bk)))))]) (cc := cX6_finish) (maxL := 3) (ret := none) (LV := [(0, .ref g), (1, .int (iI bk))]) (by decide) rfl rfl (Nat.le_of_ble_eq_true rfl) ?_
  intro p e s m below meth cd hadm hx hb hr hml hts hown hlocks hname hnoh hxT A hA hK hP hD hS ls hl
  refine lv_aload_n hx hb dX6_finish_0 rfl (lv_at hl 0 rfl) ?_
  refine va_get (D := D) (ci := 6) (v := .int (iI nw)) (C := RX6) (T := TX6) (N := 11) hx hb hts (fun w h => (List.mem_cons_of_mem _ (hinX6 w h))) hown hK hP 0 rfl rfl 6 (by decide) (hts _ (List.mem_cons_of_mem _ wd_195)) (fun _ h9 => h9) rfl dX6_finish_1 ?_
  refine lv_aload_n hx hb dX6_finish_4 rfl (lv_at hl 0 rfl) ?_
  refine va_get (D := D) (ci := 6) (v := .ref aK) (C := RX6) (T := TX6) (N := 11) hx hb hts (fun w h => (List.mem_cons_of_mem _ (hinX6 w h))) hown hK hP 0 rfl rfl 4 (by decide) (hts _ (List.mem_cons_of_mem _ wd_193)) (fun _ h9 => h9) rfl dX6_finish_5 ?_
  refine va_get (D := D) (ci := 0) (v := .ref aKc) (C := RX0) (T := TX0) (N := 8) hx hb hts (fun w h => (List.mem_cons_of_mem _ (hinX0 w h))) hown hK hP 1 rfl rfl 5 (by decide) (hts _ (List.mem_cons_of_mem _ wd_152)) (fun _ h9 => h9) rfl dX6_finish_8 ?_
  refine lv_iload_n hx hb dX6_finish_11 rfl (lv_at hl 1 rfl) ?_
  refine wk_iald hx hb hK hP 2 0 rfl rfl (by decide) (by omega) dX6_finish_12 ?_
  have b_1 := hkc bk
  refine wk_isub hx hb dX6_finish_13 ?_
  refine lv_istore_n (lv' := [(2, .int (iI (nw - (kc bk)))), (0, .ref g), (1, .int (iI bk))]) hx hb dX6_finish_14 rfl hl (by decide) rfl (fun ls hl => ?_)
  refine lv_aload_n hx hb dX6_finish_15 rfl (lv_at hl 1 rfl) ?_
  refine va_get (D := D) (ci := 6) (v := .ref aK) (C := RX6) (T := TX6) (N := 11) hx hb hts (fun w h => (List.mem_cons_of_mem _ (hinX6 w h))) hown hK hP 0 rfl rfl 4 (by decide) (hts _ (List.mem_cons_of_mem _ wd_193)) (fun _ h9 => h9) rfl dX6_finish_16 ?_
  refine va_get (D := D) (ci := 0) (v := .ref aKz) (C := RX0) (T := TX0) (N := 8) hx hb hts (fun w h => (List.mem_cons_of_mem _ (hinX0 w h))) hown hK hP 1 rfl rfl 3 (by decide) (hts _ (List.mem_cons_of_mem _ wd_148)) (fun _ h9 => h9) rfl dX6_finish_19 ?_
  refine lv_iload_n hx hb dX6_finish_22 rfl (lv_at hl 2 rfl) ?_
  refine lv_iconst (v := iI 2) hx hb dX6_finish_23 rfl ?_
  refine wk_iast hx hb hK hP hD hS 3 0 rfl rfl (by decide) (by omega) dX6_finish_24 (ws' := [(g, .inr (6, [.ref aR, .ref aB, .ref aT, .ref aS, .ref aK, .ref aL, .int (iI nw), .int (iI al), .int (iI lg), .int (iI tt), .int (iI dn)])), (aK, .inr (0, [.ref aKs, .ref aKt, .ref aKb, .ref aKz, .ref aKl, .ref aKc, .ref aKu, .int (iI kn)])), (aKc, .inl (kI, 61, .inl (iF kc))), (aKz, .inl (kI, 61, .inl (iF (iu kz bk 2)))), (aKu, .inl (kI, 61, .inl (iF ku)))]) rfl (fun H locs hP hD hS => ?_)
  refine lv_aload_n hx hb dX6_finish_25 rfl (lv_at hl 1 rfl) ?_
  refine va_get (D := D) (ci := 6) (v := .ref aK) (C := RX6) (T := TX6) (N := 11) hx hb hts (fun w h => (List.mem_cons_of_mem _ (hinX6 w h))) hown hK hP 0 rfl rfl 4 (by decide) (hts _ (List.mem_cons_of_mem _ wd_193)) (fun _ h9 => h9) rfl dX6_finish_26 ?_
  refine va_get (D := D) (ci := 0) (v := .ref aKu) (C := RX0) (T := TX0) (N := 8) hx hb hts (fun w h => (List.mem_cons_of_mem _ (hinX0 w h))) hown hK hP 1 rfl rfl 6 (by decide) (hts _ (List.mem_cons_of_mem _ wd_154)) (fun _ h9 => h9) rfl dX6_finish_29 ?_
  refine lv_iload_n hx hb dX6_finish_32 rfl (lv_at hl 2 rfl) ?_
  refine lv_iload_n hx hb dX6_finish_33 rfl (lv_at hl 0 rfl) ?_
  refine wk_iast hx hb hK hP hD hS 4 0 rfl rfl (by decide) (by omega) dX6_finish_34 (ws' := [(g, .inr (6, [.ref aR, .ref aB, .ref aT, .ref aS, .ref aK, .ref aL, .int (iI nw), .int (iI al), .int (iI lg), .int (iI tt), .int (iI dn)])), (aK, .inr (0, [.ref aKs, .ref aKt, .ref aKb, .ref aKz, .ref aKl, .ref aKc, .ref aKu, .int (iI kn)])), (aKc, .inl (kI, 61, .inl (iF kc))), (aKz, .inl (kI, 61, .inl (iF (iu kz bk 2)))), (aKu, .inl (kI, 61, .inl (iF (iu ku bk (nw - (kc bk))))))]) rfl (fun H locs hP hD hS => ?_)
  refine lv_aload_n hx hb dX6_finish_35 rfl (lv_at hl 1 rfl) ?_
  refine lv_aload_n hx hb dX6_finish_36 rfl (lv_at hl 1 rfl) ?_
  refine va_get (D := D) (ci := 6) (v := .int (iI lg)) (C := RX6) (T := TX6) (N := 11) hx hb hts (fun w h => (List.mem_cons_of_mem _ (hinX6 w h))) hown hK hP 0 rfl rfl 8 (by decide) (hts _ (List.mem_cons_of_mem _ wd_197)) (fun _ h9 => h9) rfl dX6_finish_37 ?_
  refine lv_iload_n hx hb dX6_finish_40 rfl (lv_at hl 0 rfl) ?_
  refine wk_mmax hx hb (hml.trans hl.1.symm) hown (hts _ (List.mem_cons_of_mem _ wd_117)) (hts _ (List.mem_cons_of_mem _ wd_118)) (hts _ (List.mem_cons_of_mem _ wd_38)) (hts _ (List.mem_cons_of_mem _ wm_max)) (Nat.le_of_ble_eq_true rfl) (Nat.le_of_ble_eq_true rfl) (Nat.zero_le _) (Nat.zero_le _) (by omega) dX6_finish_41 ?_
  refine wk_put (ci := 6) (C := RX6) (T := TX6) (N := 11) hx hb hts (fun w h => (List.mem_cons_of_mem _ (hinX6 w h))) tyX6 tyX6_ok nmX6 hown hK hP hD hS 0 rfl rfl 8 (by decide) (hts _ (List.mem_cons_of_mem _ wd_197)) (fun _ h9 => h9) rfl rfl (Nat.le_of_ble_eq_true rfl) dX6_finish_44 (ws' := [(g, .inr (6, [.ref aR, .ref aB, .ref aT, .ref aS, .ref aK, .ref aL, .int (iI nw), .int (iI al), .int (iI (max lg (nw - (kc bk)))), .int (iI tt), .int (iI dn)])), (aK, .inr (0, [.ref aKs, .ref aKt, .ref aKb, .ref aKz, .ref aKl, .ref aKc, .ref aKu, .int (iI kn)])), (aKc, .inl (kI, 61, .inl (iF kc))), (aKz, .inl (kI, 61, .inl (iF (iu kz bk 2)))), (aKu, .inl (kI, 61, .inl (iF (iu ku bk (nw - (kc bk))))))]) rfl (fun H locs hP hD hS => ?_)
  refine lv_aload_n hx hb dX6_finish_47 rfl (lv_at hl 1 rfl) ?_
  refine lv_dup hx hb dX6_finish_48 rfl ?_
  refine va_get (D := D) (ci := 6) (v := .int (iI tt)) (C := RX6) (T := TX6) (N := 11) hx hb hts (fun w h => (List.mem_cons_of_mem _ (hinX6 w h))) hown hK hP 0 rfl rfl 9 (by decide) (hts _ (List.mem_cons_of_mem _ wd_198)) (fun _ h9 => h9) rfl dX6_finish_49 ?_
  refine lv_iload_n hx hb dX6_finish_52 rfl (lv_at hl 0 rfl) ?_
  refine wk_iadd hx hb dX6_finish_53 ?_
  refine wk_put (ci := 6) (C := RX6) (T := TX6) (N := 11) hx hb hts (fun w h => (List.mem_cons_of_mem _ (hinX6 w h))) tyX6 tyX6_ok nmX6 hown hK hP hD hS 0 rfl rfl 9 (by decide) (hts _ (List.mem_cons_of_mem _ wd_198)) (fun _ h9 => h9) rfl rfl (Nat.le_of_ble_eq_true rfl) dX6_finish_54 (ws' := [(g, .inr (6, [.ref aR, .ref aB, .ref aT, .ref aS, .ref aK, .ref aL, .int (iI nw), .int (iI al), .int (iI (max lg (nw - (kc bk)))), .int (iI (tt + (nw - (kc bk)))), .int (iI dn)])), (aK, .inr (0, [.ref aKs, .ref aKt, .ref aKb, .ref aKz, .ref aKl, .ref aKc, .ref aKu, .int (iI kn)])), (aKc, .inl (kI, 61, .inl (iF kc))), (aKz, .inl (kI, 61, .inl (iF (iu kz bk 2)))), (aKu, .inl (kI, 61, .inl (iF (iu ku bk (nw - (kc bk))))))]) rfl (fun H locs hP hD hS => ?_)
  refine lv_aload_n hx hb dX6_finish_57 rfl (lv_at hl 1 rfl) ?_
  refine lv_dup hx hb dX6_finish_58 rfl ?_
  refine va_get (D := D) (ci := 6) (v := .int (iI dn)) (C := RX6) (T := TX6) (N := 11) hx hb hts (fun w h => (List.mem_cons_of_mem _ (hinX6 w h))) hown hK hP 0 rfl rfl 10 (by decide) (hts _ (List.mem_cons_of_mem _ wd_199)) (fun _ h9 => h9) rfl dX6_finish_59 ?_
  refine lv_iconst (v := iI 1) hx hb dX6_finish_62 rfl ?_
  refine wk_iadd hx hb dX6_finish_63 ?_
  refine wk_put (ci := 6) (C := RX6) (T := TX6) (N := 11) hx hb hts (fun w h => (List.mem_cons_of_mem _ (hinX6 w h))) tyX6 tyX6_ok nmX6 hown hK hP hD hS 0 rfl rfl 10 (by decide) (hts _ (List.mem_cons_of_mem _ wd_199)) (fun _ h9 => h9) rfl rfl (Nat.le_of_ble_eq_true rfl) dX6_finish_64 (ws' := [(g, .inr (6, [.ref aR, .ref aB, .ref aT, .ref aS, .ref aK, .ref aL, .int (iI nw), .int (iI al), .int (iI (max lg (nw - (kc bk)))), .int (iI (tt + (nw - (kc bk)))), .int (iI (dn + 1))])), (aK, .inr (0, [.ref aKs, .ref aKt, .ref aKb, .ref aKz, .ref aKl, .ref aKc, .ref aKu, .int (iI kn)])), (aKc, .inl (kI, 61, .inl (iF kc))), (aKz, .inl (kI, 61, .inl (iF (iu kz bk 2)))), (aKu, .inl (kI, 61, .inl (iF (iu ku bk (nw - (kc bk))))))]) rfl (fun H locs hP hD hS => ?_)
  exact rk_void hx hb hr hlocks hK hP hD hS rfl dX6_finish_67

set_option maxHeartbeats 4000000 in
set_option maxRecDepth 100000 in
theorem tX6_end (l : Launch) (D : va_G) (kI : ClassId) (kZ : ClassId) (kL : ClassId) (kJ : ClassId) (g : Nat) (aR : Nat) (aB : Nat) (aT : Nat) (aS : Nat) (aK : Nat) (aL : Nat) (aSt : Nat) (aKs : Nat) (aKt : Nat) (aKb : Nat) (aKz : Nat) (aKl : Nat) (aKc : Nat) (aKu : Nat) (tk : Int → Int) (ks : Int → Int) (kz : Int → Int) (nw : Int) (al : Int) (lg : Int) (tt : Int) (dn : Int) (sn : Int) (sm : Int) (kn : Int) (bk : Int) (sz : Nat) (hbk : 1 ≤ bk ∧ bk ≤ 60) (hks : ∀ j, 0 ≤ ks j ∧ ks j < 24) : CtV l yX6_end wsX6_end ({ frames := 0, cells := 0, slots := 0, locals := 0 }) D vwCl (tyL kI kZ kL kJ) [(g, .inr (6, [.ref aR, .ref aB, .ref aT, .ref aS, .ref aK, .ref aL, .int (iI nw), .int (iI al), .int (iI lg), .int (iI tt), .int (iI dn)])), (aS, .inr (4, [.ref aSt, .int (iI sn), .int (iI sm)])), (aSt, .inl (kI, 24, .inl (iF tk))), (aK, .inr (0, [.ref aKs, .ref aKt, .ref aKb, .ref aKz, .ref aKl, .ref aKc, .ref aKu, .int (iI kn)])), (aKs, .inl (kI, 61, .inl (iF ks))), (aKz, .inl (kI, 61, .inl (iF kz)))] [.ref g, .int (iI bk)] [(g, .inr (6, [.ref aR, .ref aB, .ref aT, .ref aS, .ref aK, .ref aL, .int (iI nw), .int (iI al), .int (iI lg), .int (iI tt), .int (iI dn)])), (aS, .inr (4, [.ref aSt, .int (iI sn), .int (iI sm)])), (aSt, .inl (kI, 24, .inl (iF (iu tk (ks bk) (tk (ks bk) - 1))))), (aK, .inr (0, [.ref aKs, .ref aKt, .ref aKb, .ref aKz, .ref aKl, .ref aKc, .ref aKu, .int (iI kn)])), (aKs, .inl (kI, 61, .inl (iF ks))), (aKz, .inl (kI, 61, .inl (iF (iu kz bk 3))))] sz := by
  refine ck_start (Qc := fun A => cQv D vwCl (tyL kI kZ kL kJ) A [(g, .inr (6, [.ref aR, .ref aB, .ref aT, .ref aS, .ref aK, .ref aL, .int (iI nw), .int (iI al), .int (iI lg), .int (iI tt), .int (iI dn)])), (aS, .inr (4, [.ref aSt, .int (iI sn), .int (iI sm)])), (aSt, .inl (kI, 24, .inl (iF (iu tk (ks bk) (tk (ks bk) - 1))))), (aK, .inr (0, [.ref aKs, .ref aKt, .ref aKb, .ref aKz, .ref aKl, .ref aKc, .ref aKu, .int (iI kn)])), (aKs, .inl (kI, 61, .inl (iF ks))), (aKz, .inl (kI, 61, .inl (iF (iu kz bk 3))))]) (cc := cX6_end) (maxL := 2) (ret := none) (LV := [(0, .ref g), (1, .int (iI bk))]) (by decide) rfl rfl (Nat.le_of_ble_eq_true rfl) ?_
  intro p e s m below meth cd hadm hx hb hr hml hts hown hlocks hname hnoh hxT A hA hK hP hD hS ls hl
  refine lv_aload_n hx hb dX6_end_0 rfl (lv_at hl 0 rfl) ?_
  refine va_get (D := D) (ci := 6) (v := .ref aK) (C := RX6) (T := TX6) (N := 11) hx hb hts (fun w h => (List.mem_cons_of_mem _ (hinX6 w h))) hown hK hP 0 rfl rfl 4 (by decide) (hts _ (List.mem_cons_of_mem _ wd_193)) (fun _ h9 => h9) rfl dX6_end_1 ?_
  refine va_get (D := D) (ci := 0) (v := .ref aKz) (C := RX0) (T := TX0) (N := 8) hx hb hts (fun w h => (List.mem_cons_of_mem _ (hinX0 w h))) hown hK hP 3 rfl rfl 3 (by decide) (hts _ (List.mem_cons_of_mem _ wd_148)) (fun _ h9 => h9) rfl dX6_end_4 ?_
  refine lv_iload_n hx hb dX6_end_7 rfl (lv_at hl 1 rfl) ?_
  refine lv_iconst (v := iI 3) hx hb dX6_end_8 rfl ?_
  refine wk_iast hx hb hK hP hD hS 5 0 rfl rfl (by decide) (by omega) dX6_end_9 (ws' := [(g, .inr (6, [.ref aR, .ref aB, .ref aT, .ref aS, .ref aK, .ref aL, .int (iI nw), .int (iI al), .int (iI lg), .int (iI tt), .int (iI dn)])), (aS, .inr (4, [.ref aSt, .int (iI sn), .int (iI sm)])), (aSt, .inl (kI, 24, .inl (iF tk))), (aK, .inr (0, [.ref aKs, .ref aKt, .ref aKb, .ref aKz, .ref aKl, .ref aKc, .ref aKu, .int (iI kn)])), (aKs, .inl (kI, 61, .inl (iF ks))), (aKz, .inl (kI, 61, .inl (iF (iu kz bk 3))))]) rfl (fun H locs hP hD hS => ?_)
  refine lv_aload_n hx hb dX6_end_10 rfl (lv_at hl 0 rfl) ?_
  refine va_get (D := D) (ci := 6) (v := .ref aS) (C := RX6) (T := TX6) (N := 11) hx hb hts (fun w h => (List.mem_cons_of_mem _ (hinX6 w h))) hown hK hP 0 rfl rfl 3 (by decide) (hts _ (List.mem_cons_of_mem _ wd_192)) (fun _ h9 => h9) rfl dX6_end_11 ?_
  refine va_get (D := D) (ci := 4) (v := .ref aSt) (C := RX4) (T := TX4) (N := 3) hx hb hts (fun w h => (List.mem_cons_of_mem _ (hinX4 w h))) hown hK hP 1 rfl rfl 0 (by decide) (hts _ (List.mem_cons_of_mem _ wd_125)) (fun _ h9 => h9) rfl dX6_end_14 ?_
  refine lv_aload_n hx hb dX6_end_17 rfl (lv_at hl 0 rfl) ?_
  refine va_get (D := D) (ci := 6) (v := .ref aK) (C := RX6) (T := TX6) (N := 11) hx hb hts (fun w h => (List.mem_cons_of_mem _ (hinX6 w h))) hown hK hP 0 rfl rfl 4 (by decide) (hts _ (List.mem_cons_of_mem _ wd_193)) (fun _ h9 => h9) rfl dX6_end_18 ?_
  refine va_get (D := D) (ci := 0) (v := .ref aKs) (C := RX0) (T := TX0) (N := 8) hx hb hts (fun w h => (List.mem_cons_of_mem _ (hinX0 w h))) hown hK hP 3 rfl rfl 0 (by decide) (hts _ (List.mem_cons_of_mem _ wd_142)) (fun _ h9 => h9) rfl dX6_end_21 ?_
  refine lv_iload_n hx hb dX6_end_24 rfl (lv_at hl 1 rfl) ?_
  refine wk_iald hx hb hK hP 4 0 rfl rfl (by decide) (by omega) dX6_end_25 ?_
  have b_1 := hks bk
  refine lv_dup2_11 hx hb dX6_end_26 rfl rfl ?_
  refine wk_iald hx hb hK hP 2 0 rfl rfl (by decide) (by omega) dX6_end_27 ?_
  refine lv_iconst (v := iI 1) hx hb dX6_end_28 rfl ?_
  refine wk_isub hx hb dX6_end_29 ?_
  refine wk_iast hx hb hK hP hD hS 2 0 rfl rfl (by decide) (by omega) dX6_end_30 (ws' := [(g, .inr (6, [.ref aR, .ref aB, .ref aT, .ref aS, .ref aK, .ref aL, .int (iI nw), .int (iI al), .int (iI lg), .int (iI tt), .int (iI dn)])), (aS, .inr (4, [.ref aSt, .int (iI sn), .int (iI sm)])), (aSt, .inl (kI, 24, .inl (iF (iu tk (ks bk) ((tk (ks bk)) - 1))))), (aK, .inr (0, [.ref aKs, .ref aKt, .ref aKb, .ref aKz, .ref aKl, .ref aKc, .ref aKu, .int (iI kn)])), (aKs, .inl (kI, 61, .inl (iF ks))), (aKz, .inl (kI, 61, .inl (iF (iu kz bk 3))))]) rfl (fun H locs hP hD hS => ?_)
  exact rk_void hx hb hr hlocks hK hP hD hS rfl dX6_end_31
end
