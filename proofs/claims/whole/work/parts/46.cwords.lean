theorem wd_53 : (.methodLink "GateSteps" 1 ⟨"java/lang/Object", "<init>", "()V"⟩ : Cond) ∈ tbG := tb_in (List.mem_of_getElem? (i := 53) (by decide +kernel)) rfl
theorem wd_54 : (.instanceMethod ⟨"java/lang/Object", "<init>", "()V"⟩ : Cond) ∈ tbG := tb_in (List.mem_of_getElem? (i := 54) (by decide +kernel)) rfl
theorem wd_55 : (.code ⟨"java/lang/Object", "<init>", "()V"⟩ object_method_1_code 1 none : Cond) ∈ tbG := tb_in (List.mem_of_getElem? (i := 55) (by decide +kernel)) rfl
theorem wd_56 : (.classLink "GateSteps" 7 "GateSteps$SignRow" : Cond) ∈ tbG := tb_in (List.mem_of_getElem? (i := 56) (by decide +kernel)) rfl
theorem wd_57 : (.instantiable "GateSteps$SignRow" 2 : Cond) ∈ tbG := tb_in (List.mem_of_getElem? (i := 57) (by decide +kernel)) rfl
theorem wd_59 : (.instanceMethod ⟨"GateSteps$SignRow", "<init>", "()V"⟩ : Cond) ∈ tbG := tb_in (List.mem_of_getElem? (i := 59) (by decide +kernel)) rfl
theorem wd_60 : (.code ⟨"GateSteps$SignRow", "<init>", "()V"⟩ prog_5_method_1_code 1 none : Cond) ∈ tbG := tb_in (List.mem_of_getElem? (i := 60) (by decide +kernel)) rfl
theorem wd_61 : (.methodLink "GateSteps$SignRow" 3 ⟨"java/lang/Object", "<init>", "()V"⟩ : Cond) ∈ tbG := tb_in (List.mem_of_getElem? (i := 61) (by decide +kernel)) rfl
theorem wd_71 : (.arrayClass .int : Cond) ∈ tbG := tb_in (List.mem_of_getElem? (i := 71) (by decide +kernel)) rfl
theorem wd_72 : (.classLink "GateSteps" 16 "GateSteps$Boxes" : Cond) ∈ tbG := tb_in (List.mem_of_getElem? (i := 72) (by decide +kernel)) rfl
theorem wd_73 : (.instantiable "GateSteps$Boxes" 5 : Cond) ∈ tbG := tb_in (List.mem_of_getElem? (i := 73) (by decide +kernel)) rfl
theorem wd_75 : (.instanceMethod ⟨"GateSteps$Boxes", "<init>", "()V"⟩ : Cond) ∈ tbG := tb_in (List.mem_of_getElem? (i := 75) (by decide +kernel)) rfl
theorem wd_76 : (.code ⟨"GateSteps$Boxes", "<init>", "()V"⟩ prog_3_method_1_code 1 none : Cond) ∈ tbG := tb_in (List.mem_of_getElem? (i := 76) (by decide +kernel)) rfl
theorem wd_77 : (.methodLink "GateSteps$Boxes" 3 ⟨"java/lang/Object", "<init>", "()V"⟩ : Cond) ∈ tbG := tb_in (List.mem_of_getElem? (i := 77) (by decide +kernel)) rfl
theorem wd_98 : (.arrayClass .boolean : Cond) ∈ tbG := tb_in (List.mem_of_getElem? (i := 98) (by decide +kernel)) rfl
theorem wd_99 : (.classLink "GateSteps" 23 "GateSteps$Trucks" : Cond) ∈ tbG := tb_in (List.mem_of_getElem? (i := 99) (by decide +kernel)) rfl
theorem wd_100 : (.instantiable "GateSteps$Trucks" 1 : Cond) ∈ tbG := tb_in (List.mem_of_getElem? (i := 100) (by decide +kernel)) rfl
theorem wd_101 : (.methodLink "GateSteps" 25 ⟨"GateSteps$Trucks", "<init>", "()V"⟩ : Cond) ∈ tbG := tb_in (List.mem_of_getElem? (i := 101) (by decide +kernel)) rfl
theorem wd_102 : (.instanceMethod ⟨"GateSteps$Trucks", "<init>", "()V"⟩ : Cond) ∈ tbG := tb_in (List.mem_of_getElem? (i := 102) (by decide +kernel)) rfl
theorem wd_103 : (.code ⟨"GateSteps$Trucks", "<init>", "()V"⟩ prog_7_method_1_code 2 none : Cond) ∈ tbG := tb_in (List.mem_of_getElem? (i := 103) (by decide +kernel)) rfl
theorem wd_104 : (.methodLink "GateSteps$Trucks" 3 ⟨"java/lang/Object", "<init>", "()V"⟩ : Cond) ∈ tbG := tb_in (List.mem_of_getElem? (i := 104) (by decide +kernel)) rfl
theorem wd_109 : (.classLink "GateSteps" 30 "GateSteps$Slots" : Cond) ∈ tbG := tb_in (List.mem_of_getElem? (i := 109) (by decide +kernel)) rfl
theorem wd_110 : (.instantiable "GateSteps$Slots" 3 : Cond) ∈ tbG := tb_in (List.mem_of_getElem? (i := 110) (by decide +kernel)) rfl
theorem wd_111 : (.methodLink "GateSteps" 32 ⟨"GateSteps", "held", "(II)I"⟩ : Cond) ∈ tbG := tb_in (List.mem_of_getElem? (i := 111) (by decide +kernel)) rfl
theorem wd_112 : (.static ⟨"GateSteps", "held", "(II)I"⟩ : Cond) ∈ tbG := tb_in (List.mem_of_getElem? (i := 112) (by decide +kernel)) rfl
theorem wd_113 : (.code ⟨"GateSteps", "held", "(II)I"⟩ prog_1_method_17_code 2 (some .int) : Cond) ∈ tbG := tb_in (List.mem_of_getElem? (i := 113) (by decide +kernel)) rfl
theorem wd_120 : (.methodLink "GateSteps" 36 ⟨"GateSteps$Slots", "<init>", "(II)V"⟩ : Cond) ∈ tbG := tb_in (List.mem_of_getElem? (i := 120) (by decide +kernel)) rfl
theorem wd_121 : (.instanceMethod ⟨"GateSteps$Slots", "<init>", "(II)V"⟩ : Cond) ∈ tbG := tb_in (List.mem_of_getElem? (i := 121) (by decide +kernel)) rfl
theorem wd_122 : (.code ⟨"GateSteps$Slots", "<init>", "(II)V"⟩ prog_6_method_1_code 3 none : Cond) ∈ tbG := tb_in (List.mem_of_getElem? (i := 122) (by decide +kernel)) rfl
theorem wd_123 : (.methodLink "GateSteps$Slots" 3 ⟨"java/lang/Object", "<init>", "()V"⟩ : Cond) ∈ tbG := tb_in (List.mem_of_getElem? (i := 123) (by decide +kernel)) rfl
theorem wd_135 : (.classLink "GateSteps" 43 "GateSteps$Bookings" : Cond) ∈ tbG := tb_in (List.mem_of_getElem? (i := 135) (by decide +kernel)) rfl
theorem wd_136 : (.instantiable "GateSteps$Bookings" 8 : Cond) ∈ tbG := tb_in (List.mem_of_getElem? (i := 136) (by decide +kernel)) rfl
theorem wd_138 : (.instanceMethod ⟨"GateSteps$Bookings", "<init>", "()V"⟩ : Cond) ∈ tbG := tb_in (List.mem_of_getElem? (i := 138) (by decide +kernel)) rfl
theorem wd_139 : (.code ⟨"GateSteps$Bookings", "<init>", "()V"⟩ prog_2_method_1_code 1 none : Cond) ∈ tbG := tb_in (List.mem_of_getElem? (i := 139) (by decide +kernel)) rfl
theorem wd_140 : (.methodLink "GateSteps$Bookings" 3 ⟨"java/lang/Object", "<init>", "()V"⟩ : Cond) ∈ tbG := tb_in (List.mem_of_getElem? (i := 140) (by decide +kernel)) rfl
theorem wd_149 : (.fieldLink "GateSteps$Bookings" 24 "GateSteps$Bookings" "lane" "[I" : Cond) ∈ tbG := tb_in (List.mem_of_getElem? (i := 149) (by decide +kernel)) rfl
theorem wd_151 : (.fieldLink "GateSteps$Bookings" 27 "GateSteps$Bookings" "came" "[I" : Cond) ∈ tbG := tb_in (List.mem_of_getElem? (i := 151) (by decide +kernel)) rfl
theorem wd_153 : (.fieldLink "GateSteps$Bookings" 30 "GateSteps$Bookings" "turn" "[I" : Cond) ∈ tbG := tb_in (List.mem_of_getElem? (i := 153) (by decide +kernel)) rfl
theorem wd_174 : (.classLink "GateSteps" 50 "GateSteps$Lane" : Cond) ∈ tbG := tb_in (List.mem_of_getElem? (i := 174) (by decide +kernel)) rfl
theorem wd_176 : (.instantiable "GateSteps$Lane" 2 : Cond) ∈ tbG := tb_in (List.mem_of_getElem? (i := 176) (by decide +kernel)) rfl
theorem wd_178 : (.instanceMethod ⟨"GateSteps$Lane", "<init>", "()V"⟩ : Cond) ∈ tbG := tb_in (List.mem_of_getElem? (i := 178) (by decide +kernel)) rfl
theorem wd_179 : (.code ⟨"GateSteps$Lane", "<init>", "()V"⟩ prog_4_method_1_code 1 none : Cond) ∈ tbG := tb_in (List.mem_of_getElem? (i := 179) (by decide +kernel)) rfl
theorem wd_180 : (.methodLink "GateSteps$Lane" 3 ⟨"java/lang/Object", "<init>", "()V"⟩ : Cond) ∈ tbG := tb_in (List.mem_of_getElem? (i := 180) (by decide +kernel)) rfl
theorem wd_611 : (.methodLink "GateStepsModel" 1 ⟨"java/lang/Object", "<init>", "()V"⟩ : Cond) ∈ tbG := tb_in (List.mem_of_getElem? (i := 611) (by decide +kernel)) rfl
