theorem wd_48 : (.classLink "GateStepsLaw" 8 "GateSteps" : Cond) ∈ tbG := tb_in (List.mem_of_getElem? (i := 48) (by decide +kernel)) rfl
theorem wd_49 : (.instantiable "GateSteps" 11 : Cond) ∈ tbG := tb_in (List.mem_of_getElem? (i := 49) (by decide +kernel)) rfl
theorem wd_50 : (.methodLink "GateStepsLaw" 55 ⟨"GateSteps", "<init>", "(II)V"⟩ : Cond) ∈ tbG := tb_in (List.mem_of_getElem? (i := 50) (by decide +kernel)) rfl
theorem wd_51 : (.instanceMethod ⟨"GateSteps", "<init>", "(II)V"⟩ : Cond) ∈ tbG := tb_in (List.mem_of_getElem? (i := 51) (by decide +kernel)) rfl
theorem wd_52 : (.code ⟨"GateSteps", "<init>", "(II)V"⟩ prog_1_method_1_code 4 none : Cond) ∈ tbG := tb_in (List.mem_of_getElem? (i := 52) (by decide +kernel)) rfl
theorem wd_264 : (.methodLink "GateStepsLaw" 49 ⟨"GateStepsLaw", "cell", "([II)I"⟩ : Cond) ∈ tbG := tb_in (List.mem_of_getElem? (i := 264) (by decide +kernel)) rfl
theorem wd_265 : (.static ⟨"GateStepsLaw", "cell", "([II)I"⟩ : Cond) ∈ tbG := tb_in (List.mem_of_getElem? (i := 265) (by decide +kernel)) rfl
theorem wd_266 : (.code ⟨"GateStepsLaw", "cell", "([II)I"⟩ method_2_code 2 (some .int) : Cond) ∈ tbG := tb_in (List.mem_of_getElem? (i := 266) (by decide +kernel)) rfl
theorem wd_606 : (.classLink "GateStepsLaw" 58 "GateStepsModel" : Cond) ∈ tbG := tb_in (List.mem_of_getElem? (i := 606) (by decide +kernel)) rfl
theorem wd_607 : (.instantiable "GateStepsModel" 25 : Cond) ∈ tbG := tb_in (List.mem_of_getElem? (i := 607) (by decide +kernel)) rfl
theorem wd_608 : (.methodLink "GateStepsLaw" 60 ⟨"GateStepsModel", "<init>", "(II)V"⟩ : Cond) ∈ tbG := tb_in (List.mem_of_getElem? (i := 608) (by decide +kernel)) rfl
theorem wd_609 : (.instanceMethod ⟨"GateStepsModel", "<init>", "(II)V"⟩ : Cond) ∈ tbG := tb_in (List.mem_of_getElem? (i := 609) (by decide +kernel)) rfl
theorem wd_610 : (.code ⟨"GateStepsModel", "<init>", "(II)V"⟩ prog_9_method_1_code 4 none : Cond) ∈ tbG := tb_in (List.mem_of_getElem? (i := 610) (by decide +kernel)) rfl
theorem wd_817 : (.arrayClass .long : Cond) ∈ tbG := tb_in (List.mem_of_getElem? (i := 817) (by decide +kernel)) rfl
