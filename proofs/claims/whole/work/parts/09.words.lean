theorem wd_1 : (.selects "GateSteps$Boxes" ⟨"GateSteps$Boxes", "isNumberOf", "(I[I)Z"⟩ ⟨"GateSteps$Boxes", "isNumberOf", "(I[I)Z"⟩ : Cond) ∈ tbG := tb_in (List.mem_of_getElem? (i := 1) (by decide +kernel)) rfl
theorem wd_33 : (.initialized "GateSteps" : Cond) ∈ tbG := tb_in (List.mem_of_getElem? (i := 33) (by decide +kernel)) rfl
theorem wd_34 : (.initialized "GateSteps$SignRow" : Cond) ∈ tbG := tb_in (List.mem_of_getElem? (i := 34) (by decide +kernel)) rfl
theorem wd_35 : (.initialized "GateSteps$Boxes" : Cond) ∈ tbG := tb_in (List.mem_of_getElem? (i := 35) (by decide +kernel)) rfl
theorem wd_37 : (.initialized "GateSteps$Slots" : Cond) ∈ tbG := tb_in (List.mem_of_getElem? (i := 37) (by decide +kernel)) rfl
theorem wd_38 : (.initialized "java/lang/Math" : Cond) ∈ tbG := tb_in (List.mem_of_getElem? (i := 38) (by decide +kernel)) rfl
theorem wd_62 : (.fieldLink "GateSteps$SignRow" 9 "GateSteps$SignRow" "signs" "[I" : Cond) ∈ tbG := tb_in (List.mem_of_getElem? (i := 62) (by decide +kernel)) rfl
theorem wd_64 : (.fieldLink "GateSteps$SignRow" 15 "GateSteps$SignRow" "size" "I" : Cond) ∈ tbG := tb_in (List.mem_of_getElem? (i := 64) (by decide +kernel)) rfl
theorem wd_78 : (.fieldLink "GateSteps$Boxes" 9 "GateSteps$Boxes" "signs" "[I" : Cond) ∈ tbG := tb_in (List.mem_of_getElem? (i := 78) (by decide +kernel)) rfl
theorem wd_80 : (.fieldLink "GateSteps$Boxes" 15 "GateSteps$Boxes" "weight" "[I" : Cond) ∈ tbG := tb_in (List.mem_of_getElem? (i := 80) (by decide +kernel)) rfl
theorem wd_82 : (.fieldLink "GateSteps$Boxes" 18 "GateSteps$Boxes" "dangerous" "[Z" : Cond) ∈ tbG := tb_in (List.mem_of_getElem? (i := 82) (by decide +kernel)) rfl
theorem wd_84 : (.fieldLink "GateSteps$Boxes" 22 "GateSteps$Boxes" "verdicts" "[I" : Cond) ∈ tbG := tb_in (List.mem_of_getElem? (i := 84) (by decide +kernel)) rfl
theorem wd_85 : (.fieldLink "GateSteps$Boxes" 25 "GateSteps$Boxes" "size" "I" : Cond) ∈ tbG := tb_in (List.mem_of_getElem? (i := 85) (by decide +kernel)) rfl
theorem wd_105 : (.fieldLink "GateSteps$Trucks" 9 "GateSteps$Trucks" "verdicts" "[I" : Cond) ∈ tbG := tb_in (List.mem_of_getElem? (i := 105) (by decide +kernel)) rfl
theorem wd_114 : (.methodLink "GateSteps" 247 ⟨"java/lang/Math", "min", "(II)I"⟩ : Cond) ∈ tbG := tb_in (List.mem_of_getElem? (i := 114) (by decide +kernel)) rfl
theorem wd_115 : (.static ⟨"java/lang/Math", "min", "(II)I"⟩ : Cond) ∈ tbG := tb_in (List.mem_of_getElem? (i := 115) (by decide +kernel)) rfl
theorem wd_117 : (.methodLink "GateSteps" 252 ⟨"java/lang/Math", "max", "(II)I"⟩ : Cond) ∈ tbG := tb_in (List.mem_of_getElem? (i := 117) (by decide +kernel)) rfl
theorem wd_118 : (.static ⟨"java/lang/Math", "max", "(II)I"⟩ : Cond) ∈ tbG := tb_in (List.mem_of_getElem? (i := 118) (by decide +kernel)) rfl
theorem wd_124 : (.fieldLink "GateSteps$Slots" 9 "GateSteps$Slots" "taken" "[I" : Cond) ∈ tbG := tb_in (List.mem_of_getElem? (i := 124) (by decide +kernel)) rfl
theorem wd_126 : (.fieldLink "GateSteps$Slots" 15 "GateSteps$Slots" "size" "I" : Cond) ∈ tbG := tb_in (List.mem_of_getElem? (i := 126) (by decide +kernel)) rfl
theorem wd_127 : (.fieldLink "GateSteps$Slots" 19 "GateSteps$Slots" "room" "I" : Cond) ∈ tbG := tb_in (List.mem_of_getElem? (i := 127) (by decide +kernel)) rfl
theorem wd_141 : (.fieldLink "GateSteps$Bookings" 9 "GateSteps$Bookings" "slot" "[I" : Cond) ∈ tbG := tb_in (List.mem_of_getElem? (i := 141) (by decide +kernel)) rfl
theorem wd_143 : (.fieldLink "GateSteps$Bookings" 15 "GateSteps$Bookings" "truck" "[I" : Cond) ∈ tbG := tb_in (List.mem_of_getElem? (i := 143) (by decide +kernel)) rfl
theorem wd_145 : (.fieldLink "GateSteps$Bookings" 18 "GateSteps$Bookings" "box" "[I" : Cond) ∈ tbG := tb_in (List.mem_of_getElem? (i := 145) (by decide +kernel)) rfl
theorem wd_147 : (.fieldLink "GateSteps$Bookings" 21 "GateSteps$Bookings" "state" "[I" : Cond) ∈ tbG := tb_in (List.mem_of_getElem? (i := 147) (by decide +kernel)) rfl
theorem wd_155 : (.fieldLink "GateSteps$Bookings" 33 "GateSteps$Bookings" "size" "I" : Cond) ∈ tbG := tb_in (List.mem_of_getElem? (i := 155) (by decide +kernel)) rfl
theorem wd_181 : (.fieldLink "GateSteps$Lane" 9 "GateSteps$Lane" "waiting" "[I" : Cond) ∈ tbG := tb_in (List.mem_of_getElem? (i := 181) (by decide +kernel)) rfl
theorem wd_182 : (.fieldLink "GateSteps$Lane" 15 "GateSteps$Lane" "size" "I" : Cond) ∈ tbG := tb_in (List.mem_of_getElem? (i := 182) (by decide +kernel)) rfl
theorem wd_232 : (.instanceMethod ⟨"GateSteps$SignRow", "checkLetter", "()I"⟩ : Cond) ∈ tbG := tb_in (List.mem_of_getElem? (i := 232) (by decide +kernel)) rfl
theorem wd_233 : (.selects "GateSteps$SignRow" ⟨"GateSteps$SignRow", "checkLetter", "()I"⟩ ⟨"GateSteps$SignRow", "checkLetter", "()I"⟩ : Cond) ∈ tbG := tb_in (List.mem_of_getElem? (i := 233) (by decide +kernel)) rfl
theorem wd_234 : (.code ⟨"GateSteps$SignRow", "checkLetter", "()I"⟩ prog_5_method_4_code 3 (some .int) : Cond) ∈ tbG := tb_in (List.mem_of_getElem? (i := 234) (by decide +kernel)) rfl
theorem wd_235 : (.methodLink "GateSteps$SignRow" 26 ⟨"GateSteps$SignRow", "worth", "(I)I"⟩ : Cond) ∈ tbG := tb_in (List.mem_of_getElem? (i := 235) (by decide +kernel)) rfl
theorem wd_236 : (.static ⟨"GateSteps$SignRow", "worth", "(I)I"⟩ : Cond) ∈ tbG := tb_in (List.mem_of_getElem? (i := 236) (by decide +kernel)) rfl
theorem wd_237 : (.code ⟨"GateSteps$SignRow", "worth", "(I)I"⟩ prog_5_method_6_code 1 (some .int) : Cond) ∈ tbG := tb_in (List.mem_of_getElem? (i := 237) (by decide +kernel)) rfl
theorem wd_239 : (.static ⟨"GateSteps", "isLetter", "(I)Z"⟩ : Cond) ∈ tbG := tb_in (List.mem_of_getElem? (i := 239) (by decide +kernel)) rfl
theorem wd_240 : (.code ⟨"GateSteps", "isLetter", "(I)Z"⟩ prog_1_method_18_code 1 (some .boolean) : Cond) ∈ tbG := tb_in (List.mem_of_getElem? (i := 240) (by decide +kernel)) rfl
theorem wd_278 : (.static ⟨"GateSteps", "isDigit", "(I)Z"⟩ : Cond) ∈ tbG := tb_in (List.mem_of_getElem? (i := 278) (by decide +kernel)) rfl
theorem wd_279 : (.code ⟨"GateSteps", "isDigit", "(I)Z"⟩ prog_1_method_19_code 1 (some .boolean) : Cond) ∈ tbG := tb_in (List.mem_of_getElem? (i := 279) (by decide +kernel)) rfl
theorem wd_389 : (.methodLink "GateSteps$SignRow" 30 ⟨"GateSteps$SignRow", "checkLetter", "()I"⟩ : Cond) ∈ tbG := tb_in (List.mem_of_getElem? (i := 389) (by decide +kernel)) rfl
theorem wd_394 : (.methodLink "GateSteps$Boxes" 33 ⟨"GateSteps$Boxes", "isNumberOf", "(I[I)Z"⟩ : Cond) ∈ tbG := tb_in (List.mem_of_getElem? (i := 394) (by decide +kernel)) rfl
theorem wd_396 : (.instanceMethod ⟨"GateSteps$Boxes", "isNumberOf", "(I[I)Z"⟩ : Cond) ∈ tbG := tb_in (List.mem_of_getElem? (i := 396) (by decide +kernel)) rfl
theorem wd_397 : (.code ⟨"GateSteps$Boxes", "isNumberOf", "(I[I)Z"⟩ prog_3_method_4_code 4 (some .boolean) : Cond) ∈ tbG := tb_in (List.mem_of_getElem? (i := 397) (by decide +kernel)) rfl
theorem wd_402 : (.methodLink "GateSteps$Boxes" 29 ⟨"GateSteps$Boxes", "judge", "(III)V"⟩ : Cond) ∈ tbG := tb_in (List.mem_of_getElem? (i := 402) (by decide +kernel)) rfl
theorem wd_403 : (.instanceMethod ⟨"GateSteps$Boxes", "judge", "(III)V"⟩ : Cond) ∈ tbG := tb_in (List.mem_of_getElem? (i := 403) (by decide +kernel)) rfl
theorem wd_404 : (.selects "GateSteps$Boxes" ⟨"GateSteps$Boxes", "judge", "(III)V"⟩ ⟨"GateSteps$Boxes", "judge", "(III)V"⟩ : Cond) ∈ tbG := tb_in (List.mem_of_getElem? (i := 404) (by decide +kernel)) rfl
theorem wd_405 : (.code ⟨"GateSteps$Boxes", "judge", "(III)V"⟩ prog_3_method_5_code 4 none : Cond) ∈ tbG := tb_in (List.mem_of_getElem? (i := 405) (by decide +kernel)) rfl
theorem wd_483 : (.instanceMethod ⟨"GateSteps$Slots", "hasRoom", "(I)Z"⟩ : Cond) ∈ tbG := tb_in (List.mem_of_getElem? (i := 483) (by decide +kernel)) rfl
theorem wd_484 : (.selects "GateSteps$Slots" ⟨"GateSteps$Slots", "hasRoom", "(I)Z"⟩ ⟨"GateSteps$Slots", "hasRoom", "(I)Z"⟩ : Cond) ∈ tbG := tb_in (List.mem_of_getElem? (i := 484) (by decide +kernel)) rfl
theorem wd_485 : (.code ⟨"GateSteps$Slots", "hasRoom", "(I)Z"⟩ prog_6_method_3_code 2 (some .boolean) : Cond) ∈ tbG := tb_in (List.mem_of_getElem? (i := 485) (by decide +kernel)) rfl
theorem wd_494 : (.methodLink "GateSteps$Slots" 22 ⟨"GateSteps$Slots", "hasRoom", "(I)Z"⟩ : Cond) ∈ tbG := tb_in (List.mem_of_getElem? (i := 494) (by decide +kernel)) rfl
theorem wm_max : (Cond.code Lib.Math.max.name Lib.Math.max.code 2 (some .int)) ∈ tbG := tb_in (List.mem_of_getElem? (i := 119) (by decide +kernel)) rfl
theorem wm_min : (Cond.code Lib.Math.min.name Lib.Math.min.code 2 (some .int)) ∈ tbG := tb_in (List.mem_of_getElem? (i := 116) (by decide +kernel)) rfl
theorem wm_abs : (Cond.code Lib.Math.abs.name Lib.Math.abs.code 1 (some .int)) ∈ tbG := tb_in (List.mem_of_getElem? (i := 571) (by decide +kernel)) rfl
