theorem wd_1 : (.selects "GateSteps$Boxes" ⟨"GateSteps$Boxes", "isNumberOf", "(I[I)Z"⟩ ⟨"GateSteps$Boxes", "isNumberOf", "(I[I)Z"⟩ : Cond) ∈ tbG := tb_in (List.mem_of_getElem? (i := 1) (by decide +kernel)) rfl
theorem wd_11 : (.selects "GateSteps" ⟨"GateSteps", "isAhead", "(I)Z"⟩ ⟨"GateSteps", "isAhead", "(I)Z"⟩ : Cond) ∈ tbG := tb_in (List.mem_of_getElem? (i := 11) (by decide +kernel)) rfl
theorem wd_12 : (.selects "GateSteps" ⟨"GateSteps", "isOver", "(I)Z"⟩ ⟨"GateSteps", "isOver", "(I)Z"⟩ : Cond) ∈ tbG := tb_in (List.mem_of_getElem? (i := 12) (by decide +kernel)) rfl
theorem wd_13 : (.selects "GateSteps" ⟨"GateSteps", "firstBarOfBox", "(I)I"⟩ ⟨"GateSteps", "firstBarOfBox", "(I)I"⟩ : Cond) ∈ tbG := tb_in (List.mem_of_getElem? (i := 13) (by decide +kernel)) rfl
theorem wd_33 : (.initialized "GateSteps" : Cond) ∈ tbG := tb_in (List.mem_of_getElem? (i := 33) (by decide +kernel)) rfl
theorem wd_34 : (.initialized "GateSteps$SignRow" : Cond) ∈ tbG := tb_in (List.mem_of_getElem? (i := 34) (by decide +kernel)) rfl
theorem wd_35 : (.initialized "GateSteps$Boxes" : Cond) ∈ tbG := tb_in (List.mem_of_getElem? (i := 35) (by decide +kernel)) rfl
theorem wd_36 : (.initialized "GateSteps$Trucks" : Cond) ∈ tbG := tb_in (List.mem_of_getElem? (i := 36) (by decide +kernel)) rfl
theorem wd_37 : (.initialized "GateSteps$Slots" : Cond) ∈ tbG := tb_in (List.mem_of_getElem? (i := 37) (by decide +kernel)) rfl
theorem wd_38 : (.initialized "java/lang/Math" : Cond) ∈ tbG := tb_in (List.mem_of_getElem? (i := 38) (by decide +kernel)) rfl
theorem wd_39 : (.initialized "GateSteps$Bookings" : Cond) ∈ tbG := tb_in (List.mem_of_getElem? (i := 39) (by decide +kernel)) rfl
theorem wd_40 : (.initialized "GateSteps$Lane" : Cond) ∈ tbG := tb_in (List.mem_of_getElem? (i := 40) (by decide +kernel)) rfl
theorem wd_45 : (.initialized "java/lang/IllegalArgumentException" : Cond) ∈ tbG := tb_in (List.mem_of_getElem? (i := 45) (by decide +kernel)) rfl
theorem wd_47 : (.initialized "java/lang/IndexOutOfBoundsException" : Cond) ∈ tbG := tb_in (List.mem_of_getElem? (i := 47) (by decide +kernel)) rfl
theorem wd_62 : (.fieldLink "GateSteps$SignRow" 9 "GateSteps$SignRow" "signs" "[I" : Cond) ∈ tbG := tb_in (List.mem_of_getElem? (i := 62) (by decide +kernel)) rfl
theorem wd_64 : (.fieldLink "GateSteps$SignRow" 15 "GateSteps$SignRow" "size" "I" : Cond) ∈ tbG := tb_in (List.mem_of_getElem? (i := 64) (by decide +kernel)) rfl
theorem wd_78 : (.fieldLink "GateSteps$Boxes" 9 "GateSteps$Boxes" "signs" "[I" : Cond) ∈ tbG := tb_in (List.mem_of_getElem? (i := 78) (by decide +kernel)) rfl
theorem wd_80 : (.fieldLink "GateSteps$Boxes" 15 "GateSteps$Boxes" "weight" "[I" : Cond) ∈ tbG := tb_in (List.mem_of_getElem? (i := 80) (by decide +kernel)) rfl
theorem wd_81 : (.fieldLink "GateSteps" 286 "GateSteps$Boxes" "weight" "[I" : Cond) ∈ tbG := tb_in (List.mem_of_getElem? (i := 81) (by decide +kernel)) rfl
theorem wd_82 : (.fieldLink "GateSteps$Boxes" 18 "GateSteps$Boxes" "dangerous" "[Z" : Cond) ∈ tbG := tb_in (List.mem_of_getElem? (i := 82) (by decide +kernel)) rfl
theorem wd_83 : (.fieldLink "GateSteps" 281 "GateSteps$Boxes" "dangerous" "[Z" : Cond) ∈ tbG := tb_in (List.mem_of_getElem? (i := 83) (by decide +kernel)) rfl
theorem wd_84 : (.fieldLink "GateSteps$Boxes" 22 "GateSteps$Boxes" "verdicts" "[I" : Cond) ∈ tbG := tb_in (List.mem_of_getElem? (i := 84) (by decide +kernel)) rfl
theorem wd_85 : (.fieldLink "GateSteps$Boxes" 25 "GateSteps$Boxes" "size" "I" : Cond) ∈ tbG := tb_in (List.mem_of_getElem? (i := 85) (by decide +kernel)) rfl
theorem wd_86 : (.fieldLink "GateSteps" 101 "GateSteps$Boxes" "size" "I" : Cond) ∈ tbG := tb_in (List.mem_of_getElem? (i := 86) (by decide +kernel)) rfl
theorem wd_105 : (.fieldLink "GateSteps$Trucks" 9 "GateSteps$Trucks" "verdicts" "[I" : Cond) ∈ tbG := tb_in (List.mem_of_getElem? (i := 105) (by decide +kernel)) rfl
theorem wd_114 : (.methodLink "GateSteps" 247 ⟨"java/lang/Math", "min", "(II)I"⟩ : Cond) ∈ tbG := tb_in (List.mem_of_getElem? (i := 114) (by decide +kernel)) rfl
theorem wd_115 : (.static ⟨"java/lang/Math", "min", "(II)I"⟩ : Cond) ∈ tbG := tb_in (List.mem_of_getElem? (i := 115) (by decide +kernel)) rfl
theorem wd_117 : (.methodLink "GateSteps" 252 ⟨"java/lang/Math", "max", "(II)I"⟩ : Cond) ∈ tbG := tb_in (List.mem_of_getElem? (i := 117) (by decide +kernel)) rfl
theorem wd_118 : (.static ⟨"java/lang/Math", "max", "(II)I"⟩ : Cond) ∈ tbG := tb_in (List.mem_of_getElem? (i := 118) (by decide +kernel)) rfl
theorem wd_124 : (.fieldLink "GateSteps$Slots" 9 "GateSteps$Slots" "taken" "[I" : Cond) ∈ tbG := tb_in (List.mem_of_getElem? (i := 124) (by decide +kernel)) rfl
theorem wd_125 : (.fieldLink "GateSteps" 157 "GateSteps$Slots" "taken" "[I" : Cond) ∈ tbG := tb_in (List.mem_of_getElem? (i := 125) (by decide +kernel)) rfl
theorem wd_126 : (.fieldLink "GateSteps$Slots" 15 "GateSteps$Slots" "size" "I" : Cond) ∈ tbG := tb_in (List.mem_of_getElem? (i := 126) (by decide +kernel)) rfl
theorem wd_127 : (.fieldLink "GateSteps$Slots" 19 "GateSteps$Slots" "room" "I" : Cond) ∈ tbG := tb_in (List.mem_of_getElem? (i := 127) (by decide +kernel)) rfl
theorem wd_141 : (.fieldLink "GateSteps$Bookings" 9 "GateSteps$Bookings" "slot" "[I" : Cond) ∈ tbG := tb_in (List.mem_of_getElem? (i := 141) (by decide +kernel)) rfl
theorem wd_142 : (.fieldLink "GateSteps" 211 "GateSteps$Bookings" "slot" "[I" : Cond) ∈ tbG := tb_in (List.mem_of_getElem? (i := 142) (by decide +kernel)) rfl
theorem wd_143 : (.fieldLink "GateSteps$Bookings" 15 "GateSteps$Bookings" "truck" "[I" : Cond) ∈ tbG := tb_in (List.mem_of_getElem? (i := 143) (by decide +kernel)) rfl
theorem wd_144 : (.fieldLink "GateSteps" 220 "GateSteps$Bookings" "truck" "[I" : Cond) ∈ tbG := tb_in (List.mem_of_getElem? (i := 144) (by decide +kernel)) rfl
theorem wd_145 : (.fieldLink "GateSteps$Bookings" 18 "GateSteps$Bookings" "box" "[I" : Cond) ∈ tbG := tb_in (List.mem_of_getElem? (i := 145) (by decide +kernel)) rfl
theorem wd_146 : (.fieldLink "GateSteps" 181 "GateSteps$Bookings" "box" "[I" : Cond) ∈ tbG := tb_in (List.mem_of_getElem? (i := 146) (by decide +kernel)) rfl
theorem wd_147 : (.fieldLink "GateSteps$Bookings" 21 "GateSteps$Bookings" "state" "[I" : Cond) ∈ tbG := tb_in (List.mem_of_getElem? (i := 147) (by decide +kernel)) rfl
theorem wd_148 : (.fieldLink "GateSteps" 175 "GateSteps$Bookings" "state" "[I" : Cond) ∈ tbG := tb_in (List.mem_of_getElem? (i := 148) (by decide +kernel)) rfl
theorem wd_150 : (.fieldLink "GateSteps" 223 "GateSteps$Bookings" "lane" "[I" : Cond) ∈ tbG := tb_in (List.mem_of_getElem? (i := 150) (by decide +kernel)) rfl
theorem wd_152 : (.fieldLink "GateSteps" 178 "GateSteps$Bookings" "came" "[I" : Cond) ∈ tbG := tb_in (List.mem_of_getElem? (i := 152) (by decide +kernel)) rfl
theorem wd_154 : (.fieldLink "GateSteps" 226 "GateSteps$Bookings" "turn" "[I" : Cond) ∈ tbG := tb_in (List.mem_of_getElem? (i := 154) (by decide +kernel)) rfl
theorem wd_155 : (.fieldLink "GateSteps$Bookings" 33 "GateSteps$Bookings" "size" "I" : Cond) ∈ tbG := tb_in (List.mem_of_getElem? (i := 155) (by decide +kernel)) rfl
theorem wd_156 : (.fieldLink "GateSteps" 145 "GateSteps$Bookings" "size" "I" : Cond) ∈ tbG := tb_in (List.mem_of_getElem? (i := 156) (by decide +kernel)) rfl
theorem wd_181 : (.fieldLink "GateSteps$Lane" 9 "GateSteps$Lane" "waiting" "[I" : Cond) ∈ tbG := tb_in (List.mem_of_getElem? (i := 181) (by decide +kernel)) rfl
theorem wd_182 : (.fieldLink "GateSteps$Lane" 15 "GateSteps$Lane" "size" "I" : Cond) ∈ tbG := tb_in (List.mem_of_getElem? (i := 182) (by decide +kernel)) rfl
theorem wd_183 : (.fieldLink "GateSteps" 237 "GateSteps$Lane" "size" "I" : Cond) ∈ tbG := tb_in (List.mem_of_getElem? (i := 183) (by decide +kernel)) rfl
theorem wd_190 : (.fieldLink "GateSteps" 19 "GateSteps" "boxes" "LGateSteps$Boxes;" : Cond) ∈ tbG := tb_in (List.mem_of_getElem? (i := 190) (by decide +kernel)) rfl
theorem wd_191 : (.fieldLink "GateSteps" 26 "GateSteps" "trucks" "LGateSteps$Trucks;" : Cond) ∈ tbG := tb_in (List.mem_of_getElem? (i := 191) (by decide +kernel)) rfl
theorem wd_192 : (.fieldLink "GateSteps" 39 "GateSteps" "slots" "LGateSteps$Slots;" : Cond) ∈ tbG := tb_in (List.mem_of_getElem? (i := 192) (by decide +kernel)) rfl
theorem wd_193 : (.fieldLink "GateSteps" 46 "GateSteps" "bookings" "LGateSteps$Bookings;" : Cond) ∈ tbG := tb_in (List.mem_of_getElem? (i := 193) (by decide +kernel)) rfl
theorem wd_194 : (.fieldLink "GateSteps" 52 "GateSteps" "lanes" "[LGateSteps$Lane;" : Cond) ∈ tbG := tb_in (List.mem_of_getElem? (i := 194) (by decide +kernel)) rfl
theorem wd_195 : (.fieldLink "GateSteps" 169 "GateSteps" "now" "I" : Cond) ∈ tbG := tb_in (List.mem_of_getElem? (i := 195) (by decide +kernel)) rfl
theorem wd_196 : (.fieldLink "GateSteps" 57 "GateSteps" "allowed" "I" : Cond) ∈ tbG := tb_in (List.mem_of_getElem? (i := 196) (by decide +kernel)) rfl
theorem wd_197 : (.fieldLink "GateSteps" 238 "GateSteps" "longestTurn" "I" : Cond) ∈ tbG := tb_in (List.mem_of_getElem? (i := 197) (by decide +kernel)) rfl
theorem wd_198 : (.fieldLink "GateSteps" 241 "GateSteps" "allTurns" "I" : Cond) ∈ tbG := tb_in (List.mem_of_getElem? (i := 198) (by decide +kernel)) rfl
theorem wd_199 : (.fieldLink "GateSteps" 244 "GateSteps" "doneBookings" "I" : Cond) ∈ tbG := tb_in (List.mem_of_getElem? (i := 199) (by decide +kernel)) rfl
theorem wd_232 : (.instanceMethod ⟨"GateSteps$SignRow", "checkLetter", "()I"⟩ : Cond) ∈ tbG := tb_in (List.mem_of_getElem? (i := 232) (by decide +kernel)) rfl
theorem wd_233 : (.selects "GateSteps$SignRow" ⟨"GateSteps$SignRow", "checkLetter", "()I"⟩ ⟨"GateSteps$SignRow", "checkLetter", "()I"⟩ : Cond) ∈ tbG := tb_in (List.mem_of_getElem? (i := 233) (by decide +kernel)) rfl
theorem wd_234 : (.code ⟨"GateSteps$SignRow", "checkLetter", "()I"⟩ prog_5_method_4_code 3 (some .int) : Cond) ∈ tbG := tb_in (List.mem_of_getElem? (i := 234) (by decide +kernel)) rfl
theorem wd_235 : (.methodLink "GateSteps$SignRow" 26 ⟨"GateSteps$SignRow", "worth", "(I)I"⟩ : Cond) ∈ tbG := tb_in (List.mem_of_getElem? (i := 235) (by decide +kernel)) rfl
theorem wd_236 : (.static ⟨"GateSteps$SignRow", "worth", "(I)I"⟩ : Cond) ∈ tbG := tb_in (List.mem_of_getElem? (i := 236) (by decide +kernel)) rfl
theorem wd_237 : (.code ⟨"GateSteps$SignRow", "worth", "(I)I"⟩ prog_5_method_6_code 1 (some .int) : Cond) ∈ tbG := tb_in (List.mem_of_getElem? (i := 237) (by decide +kernel)) rfl
theorem wd_239 : (.static ⟨"GateSteps", "isLetter", "(I)Z"⟩ : Cond) ∈ tbG := tb_in (List.mem_of_getElem? (i := 239) (by decide +kernel)) rfl
theorem wd_240 : (.code ⟨"GateSteps", "isLetter", "(I)Z"⟩ prog_1_method_18_code 1 (some .boolean) : Cond) ∈ tbG := tb_in (List.mem_of_getElem? (i := 240) (by decide +kernel)) rfl
theorem wd_260 : (.methodLink "GateSteps" 234 ⟨"GateSteps$Slots", "has", "(I)Z"⟩ : Cond) ∈ tbG := tb_in (List.mem_of_getElem? (i := 260) (by decide +kernel)) rfl
theorem wd_261 : (.instanceMethod ⟨"GateSteps$Slots", "has", "(I)Z"⟩ : Cond) ∈ tbG := tb_in (List.mem_of_getElem? (i := 261) (by decide +kernel)) rfl
theorem wd_262 : (.selects "GateSteps$Slots" ⟨"GateSteps$Slots", "has", "(I)Z"⟩ ⟨"GateSteps$Slots", "has", "(I)Z"⟩ : Cond) ∈ tbG := tb_in (List.mem_of_getElem? (i := 262) (by decide +kernel)) rfl
theorem wd_263 : (.code ⟨"GateSteps$Slots", "has", "(I)Z"⟩ prog_6_method_2_code 2 (some .boolean) : Cond) ∈ tbG := tb_in (List.mem_of_getElem? (i := 263) (by decide +kernel)) rfl
theorem wd_278 : (.static ⟨"GateSteps", "isDigit", "(I)Z"⟩ : Cond) ∈ tbG := tb_in (List.mem_of_getElem? (i := 278) (by decide +kernel)) rfl
theorem wd_279 : (.code ⟨"GateSteps", "isDigit", "(I)Z"⟩ prog_1_method_19_code 1 (some .boolean) : Cond) ∈ tbG := tb_in (List.mem_of_getElem? (i := 279) (by decide +kernel)) rfl
theorem wd_280 : (.classLink "GateSteps" 68 "java/lang/IllegalArgumentException" : Cond) ∈ tbG := tb_in (List.mem_of_getElem? (i := 280) (by decide +kernel)) rfl
theorem wd_382 : (.constant "GateSteps" 98 100000 : Cond) ∈ tbG := tb_in (List.mem_of_getElem? (i := 382) (by decide +kernel)) rfl
theorem wd_389 : (.methodLink "GateSteps$SignRow" 30 ⟨"GateSteps$SignRow", "checkLetter", "()I"⟩ : Cond) ∈ tbG := tb_in (List.mem_of_getElem? (i := 389) (by decide +kernel)) rfl
theorem wd_394 : (.methodLink "GateSteps$Boxes" 33 ⟨"GateSteps$Boxes", "isNumberOf", "(I[I)Z"⟩ : Cond) ∈ tbG := tb_in (List.mem_of_getElem? (i := 394) (by decide +kernel)) rfl
theorem wd_396 : (.instanceMethod ⟨"GateSteps$Boxes", "isNumberOf", "(I[I)Z"⟩ : Cond) ∈ tbG := tb_in (List.mem_of_getElem? (i := 396) (by decide +kernel)) rfl
theorem wd_397 : (.code ⟨"GateSteps$Boxes", "isNumberOf", "(I[I)Z"⟩ prog_3_method_4_code 4 (some .boolean) : Cond) ∈ tbG := tb_in (List.mem_of_getElem? (i := 397) (by decide +kernel)) rfl
theorem wd_402 : (.methodLink "GateSteps$Boxes" 29 ⟨"GateSteps$Boxes", "judge", "(III)V"⟩ : Cond) ∈ tbG := tb_in (List.mem_of_getElem? (i := 402) (by decide +kernel)) rfl
theorem wd_403 : (.instanceMethod ⟨"GateSteps$Boxes", "judge", "(III)V"⟩ : Cond) ∈ tbG := tb_in (List.mem_of_getElem? (i := 403) (by decide +kernel)) rfl
theorem wd_404 : (.selects "GateSteps$Boxes" ⟨"GateSteps$Boxes", "judge", "(III)V"⟩ ⟨"GateSteps$Boxes", "judge", "(III)V"⟩ : Cond) ∈ tbG := tb_in (List.mem_of_getElem? (i := 404) (by decide +kernel)) rfl
theorem wd_405 : (.code ⟨"GateSteps$Boxes", "judge", "(III)V"⟩ prog_3_method_5_code 4 none : Cond) ∈ tbG := tb_in (List.mem_of_getElem? (i := 405) (by decide +kernel)) rfl
theorem wd_419 : (.classLink "GateSteps" 193 "java/lang/IndexOutOfBoundsException" : Cond) ∈ tbG := tb_in (List.mem_of_getElem? (i := 419) (by decide +kernel)) rfl
theorem wd_483 : (.instanceMethod ⟨"GateSteps$Slots", "hasRoom", "(I)Z"⟩ : Cond) ∈ tbG := tb_in (List.mem_of_getElem? (i := 483) (by decide +kernel)) rfl
theorem wd_484 : (.selects "GateSteps$Slots" ⟨"GateSteps$Slots", "hasRoom", "(I)Z"⟩ ⟨"GateSteps$Slots", "hasRoom", "(I)Z"⟩ : Cond) ∈ tbG := tb_in (List.mem_of_getElem? (i := 484) (by decide +kernel)) rfl
theorem wd_485 : (.code ⟨"GateSteps$Slots", "hasRoom", "(I)Z"⟩ prog_6_method_3_code 2 (some .boolean) : Cond) ∈ tbG := tb_in (List.mem_of_getElem? (i := 485) (by decide +kernel)) rfl
theorem wd_490 : (.methodLink "GateSteps" 265 ⟨"GateSteps$Slots", "nextWithRoom", "(I)I"⟩ : Cond) ∈ tbG := tb_in (List.mem_of_getElem? (i := 490) (by decide +kernel)) rfl
theorem wd_491 : (.instanceMethod ⟨"GateSteps$Slots", "nextWithRoom", "(I)I"⟩ : Cond) ∈ tbG := tb_in (List.mem_of_getElem? (i := 491) (by decide +kernel)) rfl
theorem wd_492 : (.selects "GateSteps$Slots" ⟨"GateSteps$Slots", "nextWithRoom", "(I)I"⟩ ⟨"GateSteps$Slots", "nextWithRoom", "(I)I"⟩ : Cond) ∈ tbG := tb_in (List.mem_of_getElem? (i := 492) (by decide +kernel)) rfl
theorem wd_493 : (.code ⟨"GateSteps$Slots", "nextWithRoom", "(I)I"⟩ prog_6_method_4_code 3 (some .int) : Cond) ∈ tbG := tb_in (List.mem_of_getElem? (i := 493) (by decide +kernel)) rfl
theorem wd_494 : (.methodLink "GateSteps$Slots" 22 ⟨"GateSteps$Slots", "hasRoom", "(I)Z"⟩ : Cond) ∈ tbG := tb_in (List.mem_of_getElem? (i := 494) (by decide +kernel)) rfl
theorem wd_520 : (.methodLink "GateSteps" 268 ⟨"GateSteps", "isAhead", "(I)Z"⟩ : Cond) ∈ tbG := tb_in (List.mem_of_getElem? (i := 520) (by decide +kernel)) rfl
theorem wd_522 : (.instanceMethod ⟨"GateSteps", "isAhead", "(I)Z"⟩ : Cond) ∈ tbG := tb_in (List.mem_of_getElem? (i := 522) (by decide +kernel)) rfl
theorem wd_523 : (.code ⟨"GateSteps", "isAhead", "(I)Z"⟩ prog_1_method_28_code 2 (some .boolean) : Cond) ∈ tbG := tb_in (List.mem_of_getElem? (i := 523) (by decide +kernel)) rfl
theorem wd_524 : (.methodLink "GateSteps" 214 ⟨"GateSteps", "isOver", "(I)Z"⟩ : Cond) ∈ tbG := tb_in (List.mem_of_getElem? (i := 524) (by decide +kernel)) rfl
theorem wd_526 : (.instanceMethod ⟨"GateSteps", "isOver", "(I)Z"⟩ : Cond) ∈ tbG := tb_in (List.mem_of_getElem? (i := 526) (by decide +kernel)) rfl
theorem wd_527 : (.code ⟨"GateSteps", "isOver", "(I)Z"⟩ prog_1_method_29_code 2 (some .boolean) : Cond) ∈ tbG := tb_in (List.mem_of_getElem? (i := 527) (by decide +kernel)) rfl
theorem wd_528 : (.methodLink "GateSteps" 271 ⟨"GateSteps$Trucks", "verdictOf", "(II)I"⟩ : Cond) ∈ tbG := tb_in (List.mem_of_getElem? (i := 528) (by decide +kernel)) rfl
theorem wd_529 : (.instanceMethod ⟨"GateSteps$Trucks", "verdictOf", "(II)I"⟩ : Cond) ∈ tbG := tb_in (List.mem_of_getElem? (i := 529) (by decide +kernel)) rfl
theorem wd_530 : (.selects "GateSteps$Trucks" ⟨"GateSteps$Trucks", "verdictOf", "(II)I"⟩ ⟨"GateSteps$Trucks", "verdictOf", "(II)I"⟩ : Cond) ∈ tbG := tb_in (List.mem_of_getElem? (i := 530) (by decide +kernel)) rfl
theorem wd_531 : (.code ⟨"GateSteps$Trucks", "verdictOf", "(II)I"⟩ prog_7_method_3_code 3 (some .int) : Cond) ∈ tbG := tb_in (List.mem_of_getElem? (i := 531) (by decide +kernel)) rfl
theorem wd_532 : (.methodLink "GateSteps" 274 ⟨"GateSteps", "firstBarOfBox", "(I)I"⟩ : Cond) ∈ tbG := tb_in (List.mem_of_getElem? (i := 532) (by decide +kernel)) rfl
theorem wd_534 : (.instanceMethod ⟨"GateSteps", "firstBarOfBox", "(I)I"⟩ : Cond) ∈ tbG := tb_in (List.mem_of_getElem? (i := 534) (by decide +kernel)) rfl
theorem wd_535 : (.code ⟨"GateSteps", "firstBarOfBox", "(I)I"⟩ prog_1_method_31_code 2 (some .int) : Cond) ∈ tbG := tb_in (List.mem_of_getElem? (i := 535) (by decide +kernel)) rfl
theorem wd_536 : (.methodLink "GateSteps" 280 ⟨"GateSteps$Boxes", "verdictOf", "(II)I"⟩ : Cond) ∈ tbG := tb_in (List.mem_of_getElem? (i := 536) (by decide +kernel)) rfl
theorem wd_537 : (.instanceMethod ⟨"GateSteps$Boxes", "verdictOf", "(II)I"⟩ : Cond) ∈ tbG := tb_in (List.mem_of_getElem? (i := 537) (by decide +kernel)) rfl
theorem wd_538 : (.selects "GateSteps$Boxes" ⟨"GateSteps$Boxes", "verdictOf", "(II)I"⟩ ⟨"GateSteps$Boxes", "verdictOf", "(II)I"⟩ : Cond) ∈ tbG := tb_in (List.mem_of_getElem? (i := 538) (by decide +kernel)) rfl
theorem wd_539 : (.code ⟨"GateSteps$Boxes", "verdictOf", "(II)I"⟩ prog_3_method_6_code 3 (some .int) : Cond) ∈ tbG := tb_in (List.mem_of_getElem? (i := 539) (by decide +kernel)) rfl
theorem wd_540 : (.methodLink "GateSteps" 277 ⟨"GateSteps$Bookings", "holdsTruckIn", "(I)Z"⟩ : Cond) ∈ tbG := tb_in (List.mem_of_getElem? (i := 540) (by decide +kernel)) rfl
theorem wd_541 : (.instanceMethod ⟨"GateSteps$Bookings", "holdsTruckIn", "(I)Z"⟩ : Cond) ∈ tbG := tb_in (List.mem_of_getElem? (i := 541) (by decide +kernel)) rfl
theorem wd_542 : (.selects "GateSteps$Bookings" ⟨"GateSteps$Bookings", "holdsTruckIn", "(I)Z"⟩ ⟨"GateSteps$Bookings", "holdsTruckIn", "(I)Z"⟩ : Cond) ∈ tbG := tb_in (List.mem_of_getElem? (i := 542) (by decide +kernel)) rfl
theorem wd_543 : (.code ⟨"GateSteps$Bookings", "holdsTruckIn", "(I)Z"⟩ prog_2_method_4_code 3 (some .boolean) : Cond) ∈ tbG := tb_in (List.mem_of_getElem? (i := 543) (by decide +kernel)) rfl
theorem wd_552 : (.methodLink "GateSteps" 285 ⟨"GateSteps$Lane", "add", "(I)V"⟩ : Cond) ∈ tbG := tb_in (List.mem_of_getElem? (i := 552) (by decide +kernel)) rfl
theorem wd_553 : (.instanceMethod ⟨"GateSteps$Lane", "add", "(I)V"⟩ : Cond) ∈ tbG := tb_in (List.mem_of_getElem? (i := 553) (by decide +kernel)) rfl
theorem wd_554 : (.selects "GateSteps$Lane" ⟨"GateSteps$Lane", "add", "(I)V"⟩ ⟨"GateSteps$Lane", "add", "(I)V"⟩ : Cond) ∈ tbG := tb_in (List.mem_of_getElem? (i := 554) (by decide +kernel)) rfl
theorem wd_555 : (.code ⟨"GateSteps$Lane", "add", "(I)V"⟩ prog_4_method_2_code 2 none : Cond) ∈ tbG := tb_in (List.mem_of_getElem? (i := 555) (by decide +kernel)) rfl
theorem wd_569 : (.methodLink "GateSteps" 289 ⟨"java/lang/Math", "abs", "(I)I"⟩ : Cond) ∈ tbG := tb_in (List.mem_of_getElem? (i := 569) (by decide +kernel)) rfl
theorem wd_570 : (.static ⟨"java/lang/Math", "abs", "(I)I"⟩ : Cond) ∈ tbG := tb_in (List.mem_of_getElem? (i := 570) (by decide +kernel)) rfl
theorem wm_max : (Cond.code Lib.Math.max.name Lib.Math.max.code 2 (some .int)) ∈ tbG := tb_in (List.mem_of_getElem? (i := 119) (by decide +kernel)) rfl
theorem wm_min : (Cond.code Lib.Math.min.name Lib.Math.min.code 2 (some .int)) ∈ tbG := tb_in (List.mem_of_getElem? (i := 116) (by decide +kernel)) rfl
theorem wm_abs : (Cond.code Lib.Math.abs.name Lib.Math.abs.code 1 (some .int)) ∈ tbG := tb_in (List.mem_of_getElem? (i := 571) (by decide +kernel)) rfl
