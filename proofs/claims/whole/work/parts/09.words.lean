theorem wd_1 : (.selects "GateSteps$Boxes" ⟨"GateSteps$Boxes", "isNumberOf", "(I[I)Z"⟩ ⟨"GateSteps$Boxes", "isNumberOf", "(I[I)Z"⟩ : Cond) ∈ tbG := tb_in (List.mem_of_getElem? (i := 1) (by decide +kernel)) rfl
theorem wd_2 : (.selects "GateSteps" ⟨"GateSteps", "needBox", "(I)V"⟩ ⟨"GateSteps", "needBox", "(I)V"⟩ : Cond) ∈ tbG := tb_in (List.mem_of_getElem? (i := 2) (by decide +kernel)) rfl
theorem wd_3 : (.selects "GateSteps" ⟨"GateSteps", "needTruck", "(I)V"⟩ ⟨"GateSteps", "needTruck", "(I)V"⟩ : Cond) ∈ tbG := tb_in (List.mem_of_getElem? (i := 3) (by decide +kernel)) rfl
theorem wd_4 : (.selects "GateSteps" ⟨"GateSteps", "withdraw", "(I)I"⟩ ⟨"GateSteps", "withdraw", "(I)I"⟩ : Cond) ∈ tbG := tb_in (List.mem_of_getElem? (i := 4) (by decide +kernel)) rfl
theorem wd_5 : (.selects "GateSteps" ⟨"GateSteps", "end", "(I)V"⟩ ⟨"GateSteps", "end", "(I)V"⟩ : Cond) ∈ tbG := tb_in (List.mem_of_getElem? (i := 5) (by decide +kernel)) rfl
theorem wd_6 : (.selects "GateSteps" ⟨"GateSteps", "needSlot", "(I)V"⟩ ⟨"GateSteps", "needSlot", "(I)V"⟩ : Cond) ∈ tbG := tb_in (List.mem_of_getElem? (i := 6) (by decide +kernel)) rfl
theorem wd_7 : (.selects "GateSteps" ⟨"GateSteps", "otherSlot", "(I)I"⟩ ⟨"GateSteps", "otherSlot", "(I)I"⟩ : Cond) ∈ tbG := tb_in (List.mem_of_getElem? (i := 7) (by decide +kernel)) rfl
theorem wd_8 : (.selects "GateSteps" ⟨"GateSteps", "needBooking", "(I)V"⟩ ⟨"GateSteps", "needBooking", "(I)V"⟩ : Cond) ∈ tbG := tb_in (List.mem_of_getElem? (i := 8) (by decide +kernel)) rfl
theorem wd_9 : (.selects "GateSteps" ⟨"GateSteps", "needTime", "(I)V"⟩ ⟨"GateSteps", "needTime", "(I)V"⟩ : Cond) ∈ tbG := tb_in (List.mem_of_getElem? (i := 9) (by decide +kernel)) rfl
theorem wd_10 : (.selects "GateSteps" ⟨"GateSteps", "firstBar", "(I)I"⟩ ⟨"GateSteps", "firstBar", "(I)I"⟩ : Cond) ∈ tbG := tb_in (List.mem_of_getElem? (i := 10) (by decide +kernel)) rfl
theorem wd_11 : (.selects "GateSteps" ⟨"GateSteps", "isAhead", "(I)Z"⟩ ⟨"GateSteps", "isAhead", "(I)Z"⟩ : Cond) ∈ tbG := tb_in (List.mem_of_getElem? (i := 11) (by decide +kernel)) rfl
theorem wd_12 : (.selects "GateSteps" ⟨"GateSteps", "isOver", "(I)Z"⟩ ⟨"GateSteps", "isOver", "(I)Z"⟩ : Cond) ∈ tbG := tb_in (List.mem_of_getElem? (i := 12) (by decide +kernel)) rfl
theorem wd_13 : (.selects "GateSteps" ⟨"GateSteps", "firstBarOfBox", "(I)I"⟩ ⟨"GateSteps", "firstBarOfBox", "(I)I"⟩ : Cond) ∈ tbG := tb_in (List.mem_of_getElem? (i := 13) (by decide +kernel)) rfl
theorem wd_14 : (.selects "GateSteps" ⟨"GateSteps", "laneFor", "(I)I"⟩ ⟨"GateSteps", "laneFor", "(I)I"⟩ : Cond) ∈ tbG := tb_in (List.mem_of_getElem? (i := 14) (by decide +kernel)) rfl
theorem wd_15 : (.selects "GateSteps" ⟨"GateSteps", "joinLane", "(II)V"⟩ ⟨"GateSteps", "joinLane", "(II)V"⟩ : Cond) ∈ tbG := tb_in (List.mem_of_getElem? (i := 15) (by decide +kernel)) rfl
theorem wd_16 : (.selects "GateSteps" ⟨"GateSteps", "isWithinTolerance", "(II)Z"⟩ ⟨"GateSteps", "isWithinTolerance", "(II)Z"⟩ : Cond) ∈ tbG := tb_in (List.mem_of_getElem? (i := 16) (by decide +kernel)) rfl
theorem wd_17 : (.selects "GateSteps" ⟨"GateSteps", "finish", "(I)V"⟩ ⟨"GateSteps", "finish", "(I)V"⟩ : Cond) ∈ tbG := tb_in (List.mem_of_getElem? (i := 17) (by decide +kernel)) rfl
theorem wd_33 : (.initialized "GateSteps" : Cond) ∈ tbG := tb_in (List.mem_of_getElem? (i := 33) (by decide +kernel)) rfl
theorem wd_34 : (.initialized "GateSteps$SignRow" : Cond) ∈ tbG := tb_in (List.mem_of_getElem? (i := 34) (by decide +kernel)) rfl
theorem wd_35 : (.initialized "GateSteps$Boxes" : Cond) ∈ tbG := tb_in (List.mem_of_getElem? (i := 35) (by decide +kernel)) rfl
theorem wd_36 : (.initialized "GateSteps$Trucks" : Cond) ∈ tbG := tb_in (List.mem_of_getElem? (i := 36) (by decide +kernel)) rfl
theorem wd_37 : (.initialized "GateSteps$Slots" : Cond) ∈ tbG := tb_in (List.mem_of_getElem? (i := 37) (by decide +kernel)) rfl
theorem wd_38 : (.initialized "java/lang/Math" : Cond) ∈ tbG := tb_in (List.mem_of_getElem? (i := 38) (by decide +kernel)) rfl
theorem wd_39 : (.initialized "GateSteps$Bookings" : Cond) ∈ tbG := tb_in (List.mem_of_getElem? (i := 39) (by decide +kernel)) rfl
theorem wd_40 : (.initialized "GateSteps$Lane" : Cond) ∈ tbG := tb_in (List.mem_of_getElem? (i := 40) (by decide +kernel)) rfl
theorem wd_45 : (.initialized "java/lang/IllegalArgumentException" : Cond) ∈ tbG := tb_in (List.mem_of_getElem? (i := 45) (by decide +kernel)) rfl
theorem wd_46 : (.initialized "java/lang/IllegalStateException" : Cond) ∈ tbG := tb_in (List.mem_of_getElem? (i := 46) (by decide +kernel)) rfl
theorem wd_47 : (.initialized "java/lang/IndexOutOfBoundsException" : Cond) ∈ tbG := tb_in (List.mem_of_getElem? (i := 47) (by decide +kernel)) rfl
theorem wd_62 : (.fieldLink "GateSteps$SignRow" 9 "GateSteps$SignRow" "signs" "[I" : Cond) ∈ tbG := tb_in (List.mem_of_getElem? (i := 62) (by decide +kernel)) rfl
theorem wd_63 : (.fieldLink "GateSteps" 108 "GateSteps$SignRow" "signs" "[I" : Cond) ∈ tbG := tb_in (List.mem_of_getElem? (i := 63) (by decide +kernel)) rfl
theorem wd_64 : (.fieldLink "GateSteps$SignRow" 15 "GateSteps$SignRow" "size" "I" : Cond) ∈ tbG := tb_in (List.mem_of_getElem? (i := 64) (by decide +kernel)) rfl
theorem wd_65 : (.fieldLink "GateSteps" 75 "GateSteps$SignRow" "size" "I" : Cond) ∈ tbG := tb_in (List.mem_of_getElem? (i := 65) (by decide +kernel)) rfl
theorem wd_78 : (.fieldLink "GateSteps$Boxes" 9 "GateSteps$Boxes" "signs" "[I" : Cond) ∈ tbG := tb_in (List.mem_of_getElem? (i := 78) (by decide +kernel)) rfl
theorem wd_79 : (.fieldLink "GateSteps" 233 "GateSteps$Boxes" "signs" "[I" : Cond) ∈ tbG := tb_in (List.mem_of_getElem? (i := 79) (by decide +kernel)) rfl
theorem wd_80 : (.fieldLink "GateSteps$Boxes" 15 "GateSteps$Boxes" "weight" "[I" : Cond) ∈ tbG := tb_in (List.mem_of_getElem? (i := 80) (by decide +kernel)) rfl
theorem wd_81 : (.fieldLink "GateSteps" 286 "GateSteps$Boxes" "weight" "[I" : Cond) ∈ tbG := tb_in (List.mem_of_getElem? (i := 81) (by decide +kernel)) rfl
theorem wd_82 : (.fieldLink "GateSteps$Boxes" 18 "GateSteps$Boxes" "dangerous" "[Z" : Cond) ∈ tbG := tb_in (List.mem_of_getElem? (i := 82) (by decide +kernel)) rfl
theorem wd_83 : (.fieldLink "GateSteps" 281 "GateSteps$Boxes" "dangerous" "[Z" : Cond) ∈ tbG := tb_in (List.mem_of_getElem? (i := 83) (by decide +kernel)) rfl
theorem wd_84 : (.fieldLink "GateSteps$Boxes" 22 "GateSteps$Boxes" "verdicts" "[I" : Cond) ∈ tbG := tb_in (List.mem_of_getElem? (i := 84) (by decide +kernel)) rfl
theorem wd_85 : (.fieldLink "GateSteps$Boxes" 25 "GateSteps$Boxes" "size" "I" : Cond) ∈ tbG := tb_in (List.mem_of_getElem? (i := 85) (by decide +kernel)) rfl
theorem wd_86 : (.fieldLink "GateSteps" 101 "GateSteps$Boxes" "size" "I" : Cond) ∈ tbG := tb_in (List.mem_of_getElem? (i := 86) (by decide +kernel)) rfl
theorem wd_105 : (.fieldLink "GateSteps$Trucks" 9 "GateSteps$Trucks" "verdicts" "[I" : Cond) ∈ tbG := tb_in (List.mem_of_getElem? (i := 105) (by decide +kernel)) rfl
theorem wd_114 : (.methodLink "GateSteps" 247 ⟨"java/lang/Math", "min", "(II)I"⟩ : Cond) ∈ tbG := tb_in (List.mem_of_getElem? (i := 114) (by decide +kernel)) rfl
theorem wd_115 : (.static ⟨"java/lang/Math", "min", "(II)I"⟩ : Cond) ∈ tbG := tb_in (List.mem_of_getElem? (i := 115) (by decide +kernel)) rfl
theorem wd_117 : (.methodLink "GateSteps" 252 ⟨"java/lang/Math", "max", "(II)I"⟩ : Cond) ∈ tbG := tb_in (List.mem_of_getElem? (i := 117) (by decide +kernel)) rfl
theorem wd_118 : (.static ⟨"java/lang/Math", "max", "(II)I"⟩ : Cond) ∈ tbG := tb_in (List.mem_of_getElem? (i := 118) (by decide +kernel)) rfl
theorem wd_124 : (.fieldLink "GateSteps$Slots" 9 "GateSteps$Slots" "taken" "[I" : Cond) ∈ tbG := tb_in (List.mem_of_getElem? (i := 124) (by decide +kernel)) rfl
theorem wd_125 : (.fieldLink "GateSteps" 157 "GateSteps$Slots" "taken" "[I" : Cond) ∈ tbG := tb_in (List.mem_of_getElem? (i := 125) (by decide +kernel)) rfl
theorem wd_126 : (.fieldLink "GateSteps$Slots" 15 "GateSteps$Slots" "size" "I" : Cond) ∈ tbG := tb_in (List.mem_of_getElem? (i := 126) (by decide +kernel)) rfl
theorem wd_127 : (.fieldLink "GateSteps$Slots" 19 "GateSteps$Slots" "room" "I" : Cond) ∈ tbG := tb_in (List.mem_of_getElem? (i := 127) (by decide +kernel)) rfl
theorem wd_141 : (.fieldLink "GateSteps$Bookings" 9 "GateSteps$Bookings" "slot" "[I" : Cond) ∈ tbG := tb_in (List.mem_of_getElem? (i := 141) (by decide +kernel)) rfl
theorem wd_142 : (.fieldLink "GateSteps" 211 "GateSteps$Bookings" "slot" "[I" : Cond) ∈ tbG := tb_in (List.mem_of_getElem? (i := 142) (by decide +kernel)) rfl
theorem wd_143 : (.fieldLink "GateSteps$Bookings" 15 "GateSteps$Bookings" "truck" "[I" : Cond) ∈ tbG := tb_in (List.mem_of_getElem? (i := 143) (by decide +kernel)) rfl
theorem wd_144 : (.fieldLink "GateSteps" 220 "GateSteps$Bookings" "truck" "[I" : Cond) ∈ tbG := tb_in (List.mem_of_getElem? (i := 144) (by decide +kernel)) rfl
theorem wd_145 : (.fieldLink "GateSteps$Bookings" 18 "GateSteps$Bookings" "box" "[I" : Cond) ∈ tbG := tb_in (List.mem_of_getElem? (i := 145) (by decide +kernel)) rfl
theorem wd_146 : (.fieldLink "GateSteps" 181 "GateSteps$Bookings" "box" "[I" : Cond) ∈ tbG := tb_in (List.mem_of_getElem? (i := 146) (by decide +kernel)) rfl
theorem wd_147 : (.fieldLink "GateSteps$Bookings" 21 "GateSteps$Bookings" "state" "[I" : Cond) ∈ tbG := tb_in (List.mem_of_getElem? (i := 147) (by decide +kernel)) rfl
theorem wd_148 : (.fieldLink "GateSteps" 175 "GateSteps$Bookings" "state" "[I" : Cond) ∈ tbG := tb_in (List.mem_of_getElem? (i := 148) (by decide +kernel)) rfl
theorem wd_150 : (.fieldLink "GateSteps" 223 "GateSteps$Bookings" "lane" "[I" : Cond) ∈ tbG := tb_in (List.mem_of_getElem? (i := 150) (by decide +kernel)) rfl
theorem wd_152 : (.fieldLink "GateSteps" 178 "GateSteps$Bookings" "came" "[I" : Cond) ∈ tbG := tb_in (List.mem_of_getElem? (i := 152) (by decide +kernel)) rfl
theorem wd_154 : (.fieldLink "GateSteps" 226 "GateSteps$Bookings" "turn" "[I" : Cond) ∈ tbG := tb_in (List.mem_of_getElem? (i := 154) (by decide +kernel)) rfl
theorem wd_155 : (.fieldLink "GateSteps$Bookings" 33 "GateSteps$Bookings" "size" "I" : Cond) ∈ tbG := tb_in (List.mem_of_getElem? (i := 155) (by decide +kernel)) rfl
theorem wd_156 : (.fieldLink "GateSteps" 145 "GateSteps$Bookings" "size" "I" : Cond) ∈ tbG := tb_in (List.mem_of_getElem? (i := 156) (by decide +kernel)) rfl
theorem wd_181 : (.fieldLink "GateSteps$Lane" 9 "GateSteps$Lane" "waiting" "[I" : Cond) ∈ tbG := tb_in (List.mem_of_getElem? (i := 181) (by decide +kernel)) rfl
theorem wd_182 : (.fieldLink "GateSteps$Lane" 15 "GateSteps$Lane" "size" "I" : Cond) ∈ tbG := tb_in (List.mem_of_getElem? (i := 182) (by decide +kernel)) rfl
theorem wd_183 : (.fieldLink "GateSteps" 237 "GateSteps$Lane" "size" "I" : Cond) ∈ tbG := tb_in (List.mem_of_getElem? (i := 183) (by decide +kernel)) rfl
theorem wd_189 : (.fieldLink "GateSteps" 10 "GateSteps" "row" "LGateSteps$SignRow;" : Cond) ∈ tbG := tb_in (List.mem_of_getElem? (i := 189) (by decide +kernel)) rfl
theorem wd_190 : (.fieldLink "GateSteps" 19 "GateSteps" "boxes" "LGateSteps$Boxes;" : Cond) ∈ tbG := tb_in (List.mem_of_getElem? (i := 190) (by decide +kernel)) rfl
theorem wd_191 : (.fieldLink "GateSteps" 26 "GateSteps" "trucks" "LGateSteps$Trucks;" : Cond) ∈ tbG := tb_in (List.mem_of_getElem? (i := 191) (by decide +kernel)) rfl
theorem wd_192 : (.fieldLink "GateSteps" 39 "GateSteps" "slots" "LGateSteps$Slots;" : Cond) ∈ tbG := tb_in (List.mem_of_getElem? (i := 192) (by decide +kernel)) rfl
theorem wd_193 : (.fieldLink "GateSteps" 46 "GateSteps" "bookings" "LGateSteps$Bookings;" : Cond) ∈ tbG := tb_in (List.mem_of_getElem? (i := 193) (by decide +kernel)) rfl
theorem wd_194 : (.fieldLink "GateSteps" 52 "GateSteps" "lanes" "[LGateSteps$Lane;" : Cond) ∈ tbG := tb_in (List.mem_of_getElem? (i := 194) (by decide +kernel)) rfl
theorem wd_195 : (.fieldLink "GateSteps" 169 "GateSteps" "now" "I" : Cond) ∈ tbG := tb_in (List.mem_of_getElem? (i := 195) (by decide +kernel)) rfl
theorem wd_196 : (.fieldLink "GateSteps" 57 "GateSteps" "allowed" "I" : Cond) ∈ tbG := tb_in (List.mem_of_getElem? (i := 196) (by decide +kernel)) rfl
theorem wd_197 : (.fieldLink "GateSteps" 238 "GateSteps" "longestTurn" "I" : Cond) ∈ tbG := tb_in (List.mem_of_getElem? (i := 197) (by decide +kernel)) rfl
theorem wd_198 : (.fieldLink "GateSteps" 241 "GateSteps" "allTurns" "I" : Cond) ∈ tbG := tb_in (List.mem_of_getElem? (i := 198) (by decide +kernel)) rfl
theorem wd_199 : (.fieldLink "GateSteps" 244 "GateSteps" "doneBookings" "I" : Cond) ∈ tbG := tb_in (List.mem_of_getElem? (i := 199) (by decide +kernel)) rfl
theorem wd_231 : (.methodLink "GateSteps" 92 ⟨"GateSteps$SignRow", "checkLetter", "()I"⟩ : Cond) ∈ tbG := tb_in (List.mem_of_getElem? (i := 231) (by decide +kernel)) rfl
theorem wd_232 : (.instanceMethod ⟨"GateSteps$SignRow", "checkLetter", "()I"⟩ : Cond) ∈ tbG := tb_in (List.mem_of_getElem? (i := 232) (by decide +kernel)) rfl
theorem wd_233 : (.selects "GateSteps$SignRow" ⟨"GateSteps$SignRow", "checkLetter", "()I"⟩ ⟨"GateSteps$SignRow", "checkLetter", "()I"⟩ : Cond) ∈ tbG := tb_in (List.mem_of_getElem? (i := 233) (by decide +kernel)) rfl
theorem wd_234 : (.code ⟨"GateSteps$SignRow", "checkLetter", "()I"⟩ prog_5_method_4_code 3 (some .int) : Cond) ∈ tbG := tb_in (List.mem_of_getElem? (i := 234) (by decide +kernel)) rfl
theorem wd_235 : (.methodLink "GateSteps$SignRow" 26 ⟨"GateSteps$SignRow", "worth", "(I)I"⟩ : Cond) ∈ tbG := tb_in (List.mem_of_getElem? (i := 235) (by decide +kernel)) rfl
theorem wd_236 : (.static ⟨"GateSteps$SignRow", "worth", "(I)I"⟩ : Cond) ∈ tbG := tb_in (List.mem_of_getElem? (i := 236) (by decide +kernel)) rfl
theorem wd_237 : (.code ⟨"GateSteps$SignRow", "worth", "(I)I"⟩ prog_5_method_6_code 1 (some .int) : Cond) ∈ tbG := tb_in (List.mem_of_getElem? (i := 237) (by decide +kernel)) rfl
theorem wd_239 : (.static ⟨"GateSteps", "isLetter", "(I)Z"⟩ : Cond) ∈ tbG := tb_in (List.mem_of_getElem? (i := 239) (by decide +kernel)) rfl
theorem wd_240 : (.code ⟨"GateSteps", "isLetter", "(I)Z"⟩ prog_1_method_18_code 1 (some .boolean) : Cond) ∈ tbG := tb_in (List.mem_of_getElem? (i := 240) (by decide +kernel)) rfl
theorem wd_249 : (.methodLink "GateSteps" 190 ⟨"GateSteps", "isLane", "(I)Z"⟩ : Cond) ∈ tbG := tb_in (List.mem_of_getElem? (i := 249) (by decide +kernel)) rfl
theorem wd_250 : (.static ⟨"GateSteps", "isLane", "(I)Z"⟩ : Cond) ∈ tbG := tb_in (List.mem_of_getElem? (i := 250) (by decide +kernel)) rfl
theorem wd_251 : (.code ⟨"GateSteps", "isLane", "(I)Z"⟩ prog_1_method_20_code 1 (some .boolean) : Cond) ∈ tbG := tb_in (List.mem_of_getElem? (i := 251) (by decide +kernel)) rfl
theorem wd_252 : (.methodLink "GateSteps" 199 ⟨"GateSteps$Lane", "bookingAt", "(I)I"⟩ : Cond) ∈ tbG := tb_in (List.mem_of_getElem? (i := 252) (by decide +kernel)) rfl
theorem wd_253 : (.instanceMethod ⟨"GateSteps$Lane", "bookingAt", "(I)I"⟩ : Cond) ∈ tbG := tb_in (List.mem_of_getElem? (i := 253) (by decide +kernel)) rfl
theorem wd_254 : (.selects "GateSteps$Lane" ⟨"GateSteps$Lane", "bookingAt", "(I)I"⟩ ⟨"GateSteps$Lane", "bookingAt", "(I)I"⟩ : Cond) ∈ tbG := tb_in (List.mem_of_getElem? (i := 254) (by decide +kernel)) rfl
theorem wd_255 : (.code ⟨"GateSteps$Lane", "bookingAt", "(I)I"⟩ prog_4_method_3_code 2 (some .int) : Cond) ∈ tbG := tb_in (List.mem_of_getElem? (i := 255) (by decide +kernel)) rfl
theorem wd_260 : (.methodLink "GateSteps" 234 ⟨"GateSteps$Slots", "has", "(I)Z"⟩ : Cond) ∈ tbG := tb_in (List.mem_of_getElem? (i := 260) (by decide +kernel)) rfl
theorem wd_261 : (.instanceMethod ⟨"GateSteps$Slots", "has", "(I)Z"⟩ : Cond) ∈ tbG := tb_in (List.mem_of_getElem? (i := 261) (by decide +kernel)) rfl
theorem wd_262 : (.selects "GateSteps$Slots" ⟨"GateSteps$Slots", "has", "(I)Z"⟩ ⟨"GateSteps$Slots", "has", "(I)Z"⟩ : Cond) ∈ tbG := tb_in (List.mem_of_getElem? (i := 262) (by decide +kernel)) rfl
theorem wd_263 : (.code ⟨"GateSteps$Slots", "has", "(I)Z"⟩ prog_6_method_2_code 2 (some .boolean) : Cond) ∈ tbG := tb_in (List.mem_of_getElem? (i := 263) (by decide +kernel)) rfl
theorem wd_276 : (.methodLink "GateSteps" 61 ⟨"GateSteps", "isLetter", "(I)Z"⟩ : Cond) ∈ tbG := tb_in (List.mem_of_getElem? (i := 276) (by decide +kernel)) rfl
theorem wd_277 : (.methodLink "GateSteps" 65 ⟨"GateSteps", "isDigit", "(I)Z"⟩ : Cond) ∈ tbG := tb_in (List.mem_of_getElem? (i := 277) (by decide +kernel)) rfl
theorem wd_278 : (.static ⟨"GateSteps", "isDigit", "(I)Z"⟩ : Cond) ∈ tbG := tb_in (List.mem_of_getElem? (i := 278) (by decide +kernel)) rfl
theorem wd_279 : (.code ⟨"GateSteps", "isDigit", "(I)Z"⟩ prog_1_method_19_code 1 (some .boolean) : Cond) ∈ tbG := tb_in (List.mem_of_getElem? (i := 279) (by decide +kernel)) rfl
theorem wd_280 : (.classLink "GateSteps" 68 "java/lang/IllegalArgumentException" : Cond) ∈ tbG := tb_in (List.mem_of_getElem? (i := 280) (by decide +kernel)) rfl
theorem wd_348 : (.classLink "GateSteps" 78 "java/lang/IllegalStateException" : Cond) ∈ tbG := tb_in (List.mem_of_getElem? (i := 348) (by decide +kernel)) rfl
theorem wd_364 : (.methodLink "GateSteps" 83 ⟨"GateSteps$SignRow", "fits", "(I)Z"⟩ : Cond) ∈ tbG := tb_in (List.mem_of_getElem? (i := 364) (by decide +kernel)) rfl
theorem wd_365 : (.instanceMethod ⟨"GateSteps$SignRow", "fits", "(I)Z"⟩ : Cond) ∈ tbG := tb_in (List.mem_of_getElem? (i := 365) (by decide +kernel)) rfl
theorem wd_366 : (.selects "GateSteps$SignRow" ⟨"GateSteps$SignRow", "fits", "(I)Z"⟩ ⟨"GateSteps$SignRow", "fits", "(I)Z"⟩ : Cond) ∈ tbG := tb_in (List.mem_of_getElem? (i := 366) (by decide +kernel)) rfl
theorem wd_367 : (.code ⟨"GateSteps$SignRow", "fits", "(I)Z"⟩ prog_5_method_2_code 3 (some .boolean) : Cond) ∈ tbG := tb_in (List.mem_of_getElem? (i := 367) (by decide +kernel)) rfl
theorem wd_370 : (.methodLink "GateSteps" 88 ⟨"GateSteps$SignRow", "add", "(I)V"⟩ : Cond) ∈ tbG := tb_in (List.mem_of_getElem? (i := 370) (by decide +kernel)) rfl
theorem wd_371 : (.instanceMethod ⟨"GateSteps$SignRow", "add", "(I)V"⟩ : Cond) ∈ tbG := tb_in (List.mem_of_getElem? (i := 371) (by decide +kernel)) rfl
theorem wd_372 : (.selects "GateSteps$SignRow" ⟨"GateSteps$SignRow", "add", "(I)V"⟩ ⟨"GateSteps$SignRow", "add", "(I)V"⟩ : Cond) ∈ tbG := tb_in (List.mem_of_getElem? (i := 372) (by decide +kernel)) rfl
theorem wd_373 : (.code ⟨"GateSteps$SignRow", "add", "(I)V"⟩ prog_5_method_3_code 2 none : Cond) ∈ tbG := tb_in (List.mem_of_getElem? (i := 373) (by decide +kernel)) rfl
theorem wd_382 : (.constant "GateSteps" 98 100000 : Cond) ∈ tbG := tb_in (List.mem_of_getElem? (i := 382) (by decide +kernel)) rfl
theorem wd_385 : (.methodLink "GateSteps" 104 ⟨"GateSteps$SignRow", "endsWithCheckLetter", "()Z"⟩ : Cond) ∈ tbG := tb_in (List.mem_of_getElem? (i := 385) (by decide +kernel)) rfl
theorem wd_386 : (.instanceMethod ⟨"GateSteps$SignRow", "endsWithCheckLetter", "()Z"⟩ : Cond) ∈ tbG := tb_in (List.mem_of_getElem? (i := 386) (by decide +kernel)) rfl
theorem wd_387 : (.selects "GateSteps$SignRow" ⟨"GateSteps$SignRow", "endsWithCheckLetter", "()Z"⟩ ⟨"GateSteps$SignRow", "endsWithCheckLetter", "()Z"⟩ : Cond) ∈ tbG := tb_in (List.mem_of_getElem? (i := 387) (by decide +kernel)) rfl
theorem wd_388 : (.code ⟨"GateSteps$SignRow", "endsWithCheckLetter", "()Z"⟩ prog_5_method_5_code 1 (some .boolean) : Cond) ∈ tbG := tb_in (List.mem_of_getElem? (i := 388) (by decide +kernel)) rfl
theorem wd_389 : (.methodLink "GateSteps$SignRow" 30 ⟨"GateSteps$SignRow", "checkLetter", "()I"⟩ : Cond) ∈ tbG := tb_in (List.mem_of_getElem? (i := 389) (by decide +kernel)) rfl
theorem wd_390 : (.methodLink "GateSteps" 112 ⟨"GateSteps$Boxes", "hasNumber", "([I)Z"⟩ : Cond) ∈ tbG := tb_in (List.mem_of_getElem? (i := 390) (by decide +kernel)) rfl
theorem wd_391 : (.instanceMethod ⟨"GateSteps$Boxes", "hasNumber", "([I)Z"⟩ : Cond) ∈ tbG := tb_in (List.mem_of_getElem? (i := 391) (by decide +kernel)) rfl
theorem wd_392 : (.selects "GateSteps$Boxes" ⟨"GateSteps$Boxes", "hasNumber", "([I)Z"⟩ ⟨"GateSteps$Boxes", "hasNumber", "([I)Z"⟩ : Cond) ∈ tbG := tb_in (List.mem_of_getElem? (i := 392) (by decide +kernel)) rfl
theorem wd_393 : (.code ⟨"GateSteps$Boxes", "hasNumber", "([I)Z"⟩ prog_3_method_3_code 3 (some .boolean) : Cond) ∈ tbG := tb_in (List.mem_of_getElem? (i := 393) (by decide +kernel)) rfl
theorem wd_394 : (.methodLink "GateSteps$Boxes" 33 ⟨"GateSteps$Boxes", "isNumberOf", "(I[I)Z"⟩ : Cond) ∈ tbG := tb_in (List.mem_of_getElem? (i := 394) (by decide +kernel)) rfl
theorem wd_396 : (.instanceMethod ⟨"GateSteps$Boxes", "isNumberOf", "(I[I)Z"⟩ : Cond) ∈ tbG := tb_in (List.mem_of_getElem? (i := 396) (by decide +kernel)) rfl
theorem wd_397 : (.code ⟨"GateSteps$Boxes", "isNumberOf", "(I[I)Z"⟩ prog_3_method_4_code 4 (some .boolean) : Cond) ∈ tbG := tb_in (List.mem_of_getElem? (i := 397) (by decide +kernel)) rfl
theorem wd_398 : (.methodLink "GateSteps" 116 ⟨"GateSteps$Boxes", "add", "([IIZ)I"⟩ : Cond) ∈ tbG := tb_in (List.mem_of_getElem? (i := 398) (by decide +kernel)) rfl
theorem wd_399 : (.instanceMethod ⟨"GateSteps$Boxes", "add", "([IIZ)I"⟩ : Cond) ∈ tbG := tb_in (List.mem_of_getElem? (i := 399) (by decide +kernel)) rfl
theorem wd_400 : (.selects "GateSteps$Boxes" ⟨"GateSteps$Boxes", "add", "([IIZ)I"⟩ ⟨"GateSteps$Boxes", "add", "([IIZ)I"⟩ : Cond) ∈ tbG := tb_in (List.mem_of_getElem? (i := 400) (by decide +kernel)) rfl
theorem wd_401 : (.code ⟨"GateSteps$Boxes", "add", "([IIZ)I"⟩ prog_3_method_2_code 6 (some .int) : Cond) ∈ tbG := tb_in (List.mem_of_getElem? (i := 401) (by decide +kernel)) rfl
theorem wd_402 : (.methodLink "GateSteps$Boxes" 29 ⟨"GateSteps$Boxes", "judge", "(III)V"⟩ : Cond) ∈ tbG := tb_in (List.mem_of_getElem? (i := 402) (by decide +kernel)) rfl
theorem wd_403 : (.instanceMethod ⟨"GateSteps$Boxes", "judge", "(III)V"⟩ : Cond) ∈ tbG := tb_in (List.mem_of_getElem? (i := 403) (by decide +kernel)) rfl
theorem wd_404 : (.selects "GateSteps$Boxes" ⟨"GateSteps$Boxes", "judge", "(III)V"⟩ ⟨"GateSteps$Boxes", "judge", "(III)V"⟩ : Cond) ∈ tbG := tb_in (List.mem_of_getElem? (i := 404) (by decide +kernel)) rfl
theorem wd_405 : (.code ⟨"GateSteps$Boxes", "judge", "(III)V"⟩ prog_3_method_5_code 4 none : Cond) ∈ tbG := tb_in (List.mem_of_getElem? (i := 405) (by decide +kernel)) rfl
theorem wd_415 : (.methodLink "GateSteps" 121 ⟨"GateSteps", "needBox", "(I)V"⟩ : Cond) ∈ tbG := tb_in (List.mem_of_getElem? (i := 415) (by decide +kernel)) rfl
theorem wd_417 : (.instanceMethod ⟨"GateSteps", "needBox", "(I)V"⟩ : Cond) ∈ tbG := tb_in (List.mem_of_getElem? (i := 417) (by decide +kernel)) rfl
theorem wd_418 : (.code ⟨"GateSteps", "needBox", "(I)V"⟩ prog_1_method_24_code 2 none : Cond) ∈ tbG := tb_in (List.mem_of_getElem? (i := 418) (by decide +kernel)) rfl
theorem wd_419 : (.classLink "GateSteps" 193 "java/lang/IndexOutOfBoundsException" : Cond) ∈ tbG := tb_in (List.mem_of_getElem? (i := 419) (by decide +kernel)) rfl
theorem wd_435 : (.methodLink "GateSteps" 124 ⟨"GateSteps", "needTruck", "(I)V"⟩ : Cond) ∈ tbG := tb_in (List.mem_of_getElem? (i := 435) (by decide +kernel)) rfl
theorem wd_437 : (.instanceMethod ⟨"GateSteps", "needTruck", "(I)V"⟩ : Cond) ∈ tbG := tb_in (List.mem_of_getElem? (i := 437) (by decide +kernel)) rfl
theorem wd_438 : (.code ⟨"GateSteps", "needTruck", "(I)V"⟩ prog_1_method_23_code 2 none : Cond) ∈ tbG := tb_in (List.mem_of_getElem? (i := 438) (by decide +kernel)) rfl
theorem wd_440 : (.methodLink "GateSteps" 127 ⟨"GateSteps", "canBe", "(II)Z"⟩ : Cond) ∈ tbG := tb_in (List.mem_of_getElem? (i := 440) (by decide +kernel)) rfl
theorem wd_441 : (.static ⟨"GateSteps", "canBe", "(II)Z"⟩ : Cond) ∈ tbG := tb_in (List.mem_of_getElem? (i := 441) (by decide +kernel)) rfl
theorem wd_442 : (.code ⟨"GateSteps", "canBe", "(II)Z"⟩ prog_1_method_21_code 2 (some .boolean) : Cond) ∈ tbG := tb_in (List.mem_of_getElem? (i := 442) (by decide +kernel)) rfl
theorem wd_444 : (.methodLink "GateSteps" 133 ⟨"GateSteps$Trucks", "judge", "(III)V"⟩ : Cond) ∈ tbG := tb_in (List.mem_of_getElem? (i := 444) (by decide +kernel)) rfl
theorem wd_445 : (.instanceMethod ⟨"GateSteps$Trucks", "judge", "(III)V"⟩ : Cond) ∈ tbG := tb_in (List.mem_of_getElem? (i := 445) (by decide +kernel)) rfl
theorem wd_446 : (.selects "GateSteps$Trucks" ⟨"GateSteps$Trucks", "judge", "(III)V"⟩ ⟨"GateSteps$Trucks", "judge", "(III)V"⟩ : Cond) ∈ tbG := tb_in (List.mem_of_getElem? (i := 446) (by decide +kernel)) rfl
theorem wd_447 : (.code ⟨"GateSteps$Trucks", "judge", "(III)V"⟩ prog_7_method_2_code 4 none : Cond) ∈ tbG := tb_in (List.mem_of_getElem? (i := 447) (by decide +kernel)) rfl
theorem wd_448 : (.methodLink "GateSteps" 137 ⟨"GateSteps$Boxes", "judge", "(III)V"⟩ : Cond) ∈ tbG := tb_in (List.mem_of_getElem? (i := 448) (by decide +kernel)) rfl
theorem wd_449 : (.methodLink "GateSteps" 138 ⟨"GateSteps", "withdraw", "(I)I"⟩ : Cond) ∈ tbG := tb_in (List.mem_of_getElem? (i := 449) (by decide +kernel)) rfl
theorem wd_451 : (.instanceMethod ⟨"GateSteps", "withdraw", "(I)I"⟩ : Cond) ∈ tbG := tb_in (List.mem_of_getElem? (i := 451) (by decide +kernel)) rfl
theorem wd_452 : (.code ⟨"GateSteps", "withdraw", "(I)I"⟩ prog_1_method_37_code 3 (some .int) : Cond) ∈ tbG := tb_in (List.mem_of_getElem? (i := 452) (by decide +kernel)) rfl
theorem wd_453 : (.methodLink "GateSteps" 292 ⟨"GateSteps$Bookings", "inWithBox", "(I)I"⟩ : Cond) ∈ tbG := tb_in (List.mem_of_getElem? (i := 453) (by decide +kernel)) rfl
theorem wd_454 : (.instanceMethod ⟨"GateSteps$Bookings", "inWithBox", "(I)I"⟩ : Cond) ∈ tbG := tb_in (List.mem_of_getElem? (i := 454) (by decide +kernel)) rfl
theorem wd_455 : (.selects "GateSteps$Bookings" ⟨"GateSteps$Bookings", "inWithBox", "(I)I"⟩ ⟨"GateSteps$Bookings", "inWithBox", "(I)I"⟩ : Cond) ∈ tbG := tb_in (List.mem_of_getElem? (i := 455) (by decide +kernel)) rfl
theorem wd_456 : (.code ⟨"GateSteps$Bookings", "inWithBox", "(I)I"⟩ prog_2_method_5_code 3 (some .int) : Cond) ∈ tbG := tb_in (List.mem_of_getElem? (i := 456) (by decide +kernel)) rfl
theorem wd_457 : (.methodLink "GateSteps" 202 ⟨"GateSteps$Lane", "remove", "(I)V"⟩ : Cond) ∈ tbG := tb_in (List.mem_of_getElem? (i := 457) (by decide +kernel)) rfl
theorem wd_458 : (.instanceMethod ⟨"GateSteps$Lane", "remove", "(I)V"⟩ : Cond) ∈ tbG := tb_in (List.mem_of_getElem? (i := 458) (by decide +kernel)) rfl
theorem wd_459 : (.selects "GateSteps$Lane" ⟨"GateSteps$Lane", "remove", "(I)V"⟩ ⟨"GateSteps$Lane", "remove", "(I)V"⟩ : Cond) ∈ tbG := tb_in (List.mem_of_getElem? (i := 459) (by decide +kernel)) rfl
theorem wd_460 : (.code ⟨"GateSteps$Lane", "remove", "(I)V"⟩ prog_4_method_4_code 4 none : Cond) ∈ tbG := tb_in (List.mem_of_getElem? (i := 460) (by decide +kernel)) rfl
theorem wd_461 : (.methodLink "GateSteps" 217 ⟨"GateSteps", "end", "(I)V"⟩ : Cond) ∈ tbG := tb_in (List.mem_of_getElem? (i := 461) (by decide +kernel)) rfl
theorem wd_463 : (.instanceMethod ⟨"GateSteps", "end", "(I)V"⟩ : Cond) ∈ tbG := tb_in (List.mem_of_getElem? (i := 463) (by decide +kernel)) rfl
theorem wd_464 : (.code ⟨"GateSteps", "end", "(I)V"⟩ prog_1_method_36_code 2 none : Cond) ∈ tbG := tb_in (List.mem_of_getElem? (i := 464) (by decide +kernel)) rfl
theorem wd_472 : (.methodLink "GateSteps" 142 ⟨"GateSteps", "needSlot", "(I)V"⟩ : Cond) ∈ tbG := tb_in (List.mem_of_getElem? (i := 472) (by decide +kernel)) rfl
theorem wd_474 : (.instanceMethod ⟨"GateSteps", "needSlot", "(I)V"⟩ : Cond) ∈ tbG := tb_in (List.mem_of_getElem? (i := 474) (by decide +kernel)) rfl
theorem wd_475 : (.code ⟨"GateSteps", "needSlot", "(I)V"⟩ prog_1_method_22_code 2 none : Cond) ∈ tbG := tb_in (List.mem_of_getElem? (i := 475) (by decide +kernel)) rfl
theorem wd_478 : (.methodLink "GateSteps" 148 ⟨"GateSteps$Bookings", "holdsBox", "(I)Z"⟩ : Cond) ∈ tbG := tb_in (List.mem_of_getElem? (i := 478) (by decide +kernel)) rfl
theorem wd_479 : (.instanceMethod ⟨"GateSteps$Bookings", "holdsBox", "(I)Z"⟩ : Cond) ∈ tbG := tb_in (List.mem_of_getElem? (i := 479) (by decide +kernel)) rfl
theorem wd_480 : (.selects "GateSteps$Bookings" ⟨"GateSteps$Bookings", "holdsBox", "(I)Z"⟩ ⟨"GateSteps$Bookings", "holdsBox", "(I)Z"⟩ : Cond) ∈ tbG := tb_in (List.mem_of_getElem? (i := 480) (by decide +kernel)) rfl
theorem wd_481 : (.code ⟨"GateSteps$Bookings", "holdsBox", "(I)Z"⟩ prog_2_method_3_code 3 (some .boolean) : Cond) ∈ tbG := tb_in (List.mem_of_getElem? (i := 481) (by decide +kernel)) rfl
theorem wd_482 : (.methodLink "GateSteps" 151 ⟨"GateSteps$Slots", "hasRoom", "(I)Z"⟩ : Cond) ∈ tbG := tb_in (List.mem_of_getElem? (i := 482) (by decide +kernel)) rfl
theorem wd_483 : (.instanceMethod ⟨"GateSteps$Slots", "hasRoom", "(I)Z"⟩ : Cond) ∈ tbG := tb_in (List.mem_of_getElem? (i := 483) (by decide +kernel)) rfl
theorem wd_484 : (.selects "GateSteps$Slots" ⟨"GateSteps$Slots", "hasRoom", "(I)Z"⟩ ⟨"GateSteps$Slots", "hasRoom", "(I)Z"⟩ : Cond) ∈ tbG := tb_in (List.mem_of_getElem? (i := 484) (by decide +kernel)) rfl
theorem wd_485 : (.code ⟨"GateSteps$Slots", "hasRoom", "(I)Z"⟩ prog_6_method_3_code 2 (some .boolean) : Cond) ∈ tbG := tb_in (List.mem_of_getElem? (i := 485) (by decide +kernel)) rfl
theorem wd_486 : (.methodLink "GateSteps" 154 ⟨"GateSteps", "otherSlot", "(I)I"⟩ : Cond) ∈ tbG := tb_in (List.mem_of_getElem? (i := 486) (by decide +kernel)) rfl
theorem wd_488 : (.instanceMethod ⟨"GateSteps", "otherSlot", "(I)I"⟩ : Cond) ∈ tbG := tb_in (List.mem_of_getElem? (i := 488) (by decide +kernel)) rfl
theorem wd_489 : (.code ⟨"GateSteps", "otherSlot", "(I)I"⟩ prog_1_method_27_code 2 (some .int) : Cond) ∈ tbG := tb_in (List.mem_of_getElem? (i := 489) (by decide +kernel)) rfl
theorem wd_490 : (.methodLink "GateSteps" 265 ⟨"GateSteps$Slots", "nextWithRoom", "(I)I"⟩ : Cond) ∈ tbG := tb_in (List.mem_of_getElem? (i := 490) (by decide +kernel)) rfl
theorem wd_491 : (.instanceMethod ⟨"GateSteps$Slots", "nextWithRoom", "(I)I"⟩ : Cond) ∈ tbG := tb_in (List.mem_of_getElem? (i := 491) (by decide +kernel)) rfl
theorem wd_492 : (.selects "GateSteps$Slots" ⟨"GateSteps$Slots", "nextWithRoom", "(I)I"⟩ ⟨"GateSteps$Slots", "nextWithRoom", "(I)I"⟩ : Cond) ∈ tbG := tb_in (List.mem_of_getElem? (i := 492) (by decide +kernel)) rfl
theorem wd_493 : (.code ⟨"GateSteps$Slots", "nextWithRoom", "(I)I"⟩ prog_6_method_4_code 3 (some .int) : Cond) ∈ tbG := tb_in (List.mem_of_getElem? (i := 493) (by decide +kernel)) rfl
theorem wd_494 : (.methodLink "GateSteps$Slots" 22 ⟨"GateSteps$Slots", "hasRoom", "(I)Z"⟩ : Cond) ∈ tbG := tb_in (List.mem_of_getElem? (i := 494) (by decide +kernel)) rfl
theorem wd_495 : (.methodLink "GateSteps" 160 ⟨"GateSteps$Bookings", "add", "(III)I"⟩ : Cond) ∈ tbG := tb_in (List.mem_of_getElem? (i := 495) (by decide +kernel)) rfl
theorem wd_496 : (.instanceMethod ⟨"GateSteps$Bookings", "add", "(III)I"⟩ : Cond) ∈ tbG := tb_in (List.mem_of_getElem? (i := 496) (by decide +kernel)) rfl
theorem wd_497 : (.selects "GateSteps$Bookings" ⟨"GateSteps$Bookings", "add", "(III)I"⟩ ⟨"GateSteps$Bookings", "add", "(III)I"⟩ : Cond) ∈ tbG := tb_in (List.mem_of_getElem? (i := 497) (by decide +kernel)) rfl
theorem wd_498 : (.code ⟨"GateSteps$Bookings", "add", "(III)I"⟩ prog_2_method_2_code 4 (some .int) : Cond) ∈ tbG := tb_in (List.mem_of_getElem? (i := 498) (by decide +kernel)) rfl
theorem wd_506 : (.methodLink "GateSteps" 163 ⟨"GateSteps", "needBooking", "(I)V"⟩ : Cond) ∈ tbG := tb_in (List.mem_of_getElem? (i := 506) (by decide +kernel)) rfl
theorem wd_508 : (.instanceMethod ⟨"GateSteps", "needBooking", "(I)V"⟩ : Cond) ∈ tbG := tb_in (List.mem_of_getElem? (i := 508) (by decide +kernel)) rfl
theorem wd_509 : (.code ⟨"GateSteps", "needBooking", "(I)V"⟩ prog_1_method_25_code 2 none : Cond) ∈ tbG := tb_in (List.mem_of_getElem? (i := 509) (by decide +kernel)) rfl
theorem wd_511 : (.methodLink "GateSteps" 166 ⟨"GateSteps", "needTime", "(I)V"⟩ : Cond) ∈ tbG := tb_in (List.mem_of_getElem? (i := 511) (by decide +kernel)) rfl
theorem wd_513 : (.instanceMethod ⟨"GateSteps", "needTime", "(I)V"⟩ : Cond) ∈ tbG := tb_in (List.mem_of_getElem? (i := 513) (by decide +kernel)) rfl
theorem wd_514 : (.code ⟨"GateSteps", "needTime", "(I)V"⟩ prog_1_method_26_code 2 none : Cond) ∈ tbG := tb_in (List.mem_of_getElem? (i := 514) (by decide +kernel)) rfl
theorem wd_516 : (.methodLink "GateSteps" 172 ⟨"GateSteps", "firstBar", "(I)I"⟩ : Cond) ∈ tbG := tb_in (List.mem_of_getElem? (i := 516) (by decide +kernel)) rfl
theorem wd_518 : (.instanceMethod ⟨"GateSteps", "firstBar", "(I)I"⟩ : Cond) ∈ tbG := tb_in (List.mem_of_getElem? (i := 518) (by decide +kernel)) rfl
theorem wd_519 : (.code ⟨"GateSteps", "firstBar", "(I)I"⟩ prog_1_method_30_code 5 (some .int) : Cond) ∈ tbG := tb_in (List.mem_of_getElem? (i := 519) (by decide +kernel)) rfl
theorem wd_520 : (.methodLink "GateSteps" 268 ⟨"GateSteps", "isAhead", "(I)Z"⟩ : Cond) ∈ tbG := tb_in (List.mem_of_getElem? (i := 520) (by decide +kernel)) rfl
theorem wd_522 : (.instanceMethod ⟨"GateSteps", "isAhead", "(I)Z"⟩ : Cond) ∈ tbG := tb_in (List.mem_of_getElem? (i := 522) (by decide +kernel)) rfl
theorem wd_523 : (.code ⟨"GateSteps", "isAhead", "(I)Z"⟩ prog_1_method_28_code 2 (some .boolean) : Cond) ∈ tbG := tb_in (List.mem_of_getElem? (i := 523) (by decide +kernel)) rfl
theorem wd_524 : (.methodLink "GateSteps" 214 ⟨"GateSteps", "isOver", "(I)Z"⟩ : Cond) ∈ tbG := tb_in (List.mem_of_getElem? (i := 524) (by decide +kernel)) rfl
theorem wd_526 : (.instanceMethod ⟨"GateSteps", "isOver", "(I)Z"⟩ : Cond) ∈ tbG := tb_in (List.mem_of_getElem? (i := 526) (by decide +kernel)) rfl
theorem wd_527 : (.code ⟨"GateSteps", "isOver", "(I)Z"⟩ prog_1_method_29_code 2 (some .boolean) : Cond) ∈ tbG := tb_in (List.mem_of_getElem? (i := 527) (by decide +kernel)) rfl
theorem wd_528 : (.methodLink "GateSteps" 271 ⟨"GateSteps$Trucks", "verdictOf", "(II)I"⟩ : Cond) ∈ tbG := tb_in (List.mem_of_getElem? (i := 528) (by decide +kernel)) rfl
theorem wd_529 : (.instanceMethod ⟨"GateSteps$Trucks", "verdictOf", "(II)I"⟩ : Cond) ∈ tbG := tb_in (List.mem_of_getElem? (i := 529) (by decide +kernel)) rfl
theorem wd_530 : (.selects "GateSteps$Trucks" ⟨"GateSteps$Trucks", "verdictOf", "(II)I"⟩ ⟨"GateSteps$Trucks", "verdictOf", "(II)I"⟩ : Cond) ∈ tbG := tb_in (List.mem_of_getElem? (i := 530) (by decide +kernel)) rfl
theorem wd_531 : (.code ⟨"GateSteps$Trucks", "verdictOf", "(II)I"⟩ prog_7_method_3_code 3 (some .int) : Cond) ∈ tbG := tb_in (List.mem_of_getElem? (i := 531) (by decide +kernel)) rfl
theorem wd_532 : (.methodLink "GateSteps" 274 ⟨"GateSteps", "firstBarOfBox", "(I)I"⟩ : Cond) ∈ tbG := tb_in (List.mem_of_getElem? (i := 532) (by decide +kernel)) rfl
theorem wd_534 : (.instanceMethod ⟨"GateSteps", "firstBarOfBox", "(I)I"⟩ : Cond) ∈ tbG := tb_in (List.mem_of_getElem? (i := 534) (by decide +kernel)) rfl
theorem wd_535 : (.code ⟨"GateSteps", "firstBarOfBox", "(I)I"⟩ prog_1_method_31_code 2 (some .int) : Cond) ∈ tbG := tb_in (List.mem_of_getElem? (i := 535) (by decide +kernel)) rfl
theorem wd_536 : (.methodLink "GateSteps" 280 ⟨"GateSteps$Boxes", "verdictOf", "(II)I"⟩ : Cond) ∈ tbG := tb_in (List.mem_of_getElem? (i := 536) (by decide +kernel)) rfl
theorem wd_537 : (.instanceMethod ⟨"GateSteps$Boxes", "verdictOf", "(II)I"⟩ : Cond) ∈ tbG := tb_in (List.mem_of_getElem? (i := 537) (by decide +kernel)) rfl
theorem wd_538 : (.selects "GateSteps$Boxes" ⟨"GateSteps$Boxes", "verdictOf", "(II)I"⟩ ⟨"GateSteps$Boxes", "verdictOf", "(II)I"⟩ : Cond) ∈ tbG := tb_in (List.mem_of_getElem? (i := 538) (by decide +kernel)) rfl
theorem wd_539 : (.code ⟨"GateSteps$Boxes", "verdictOf", "(II)I"⟩ prog_3_method_6_code 3 (some .int) : Cond) ∈ tbG := tb_in (List.mem_of_getElem? (i := 539) (by decide +kernel)) rfl
theorem wd_540 : (.methodLink "GateSteps" 277 ⟨"GateSteps$Bookings", "holdsTruckIn", "(I)Z"⟩ : Cond) ∈ tbG := tb_in (List.mem_of_getElem? (i := 540) (by decide +kernel)) rfl
theorem wd_541 : (.instanceMethod ⟨"GateSteps$Bookings", "holdsTruckIn", "(I)Z"⟩ : Cond) ∈ tbG := tb_in (List.mem_of_getElem? (i := 541) (by decide +kernel)) rfl
theorem wd_542 : (.selects "GateSteps$Bookings" ⟨"GateSteps$Bookings", "holdsTruckIn", "(I)Z"⟩ ⟨"GateSteps$Bookings", "holdsTruckIn", "(I)Z"⟩ : Cond) ∈ tbG := tb_in (List.mem_of_getElem? (i := 542) (by decide +kernel)) rfl
theorem wd_543 : (.code ⟨"GateSteps$Bookings", "holdsTruckIn", "(I)Z"⟩ prog_2_method_4_code 3 (some .boolean) : Cond) ∈ tbG := tb_in (List.mem_of_getElem? (i := 543) (by decide +kernel)) rfl
theorem wd_544 : (.methodLink "GateSteps" 184 ⟨"GateSteps", "laneFor", "(I)I"⟩ : Cond) ∈ tbG := tb_in (List.mem_of_getElem? (i := 544) (by decide +kernel)) rfl
theorem wd_546 : (.instanceMethod ⟨"GateSteps", "laneFor", "(I)I"⟩ : Cond) ∈ tbG := tb_in (List.mem_of_getElem? (i := 546) (by decide +kernel)) rfl
theorem wd_547 : (.code ⟨"GateSteps", "laneFor", "(I)I"⟩ prog_1_method_32_code 2 (some .int) : Cond) ∈ tbG := tb_in (List.mem_of_getElem? (i := 547) (by decide +kernel)) rfl
theorem wd_548 : (.methodLink "GateSteps" 187 ⟨"GateSteps", "joinLane", "(II)V"⟩ : Cond) ∈ tbG := tb_in (List.mem_of_getElem? (i := 548) (by decide +kernel)) rfl
theorem wd_550 : (.instanceMethod ⟨"GateSteps", "joinLane", "(II)V"⟩ : Cond) ∈ tbG := tb_in (List.mem_of_getElem? (i := 550) (by decide +kernel)) rfl
theorem wd_551 : (.code ⟨"GateSteps", "joinLane", "(II)V"⟩ prog_1_method_33_code 3 none : Cond) ∈ tbG := tb_in (List.mem_of_getElem? (i := 551) (by decide +kernel)) rfl
theorem wd_552 : (.methodLink "GateSteps" 285 ⟨"GateSteps$Lane", "add", "(I)V"⟩ : Cond) ∈ tbG := tb_in (List.mem_of_getElem? (i := 552) (by decide +kernel)) rfl
theorem wd_553 : (.instanceMethod ⟨"GateSteps$Lane", "add", "(I)V"⟩ : Cond) ∈ tbG := tb_in (List.mem_of_getElem? (i := 553) (by decide +kernel)) rfl
theorem wd_554 : (.selects "GateSteps$Lane" ⟨"GateSteps$Lane", "add", "(I)V"⟩ ⟨"GateSteps$Lane", "add", "(I)V"⟩ : Cond) ∈ tbG := tb_in (List.mem_of_getElem? (i := 554) (by decide +kernel)) rfl
theorem wd_555 : (.code ⟨"GateSteps$Lane", "add", "(I)V"⟩ prog_4_method_2_code 2 none : Cond) ∈ tbG := tb_in (List.mem_of_getElem? (i := 555) (by decide +kernel)) rfl
theorem wd_564 : (.constant "GateSteps" 198 200000 : Cond) ∈ tbG := tb_in (List.mem_of_getElem? (i := 564) (by decide +kernel)) rfl
theorem wd_565 : (.methodLink "GateSteps" 205 ⟨"GateSteps", "isWithinTolerance", "(II)Z"⟩ : Cond) ∈ tbG := tb_in (List.mem_of_getElem? (i := 565) (by decide +kernel)) rfl
theorem wd_567 : (.instanceMethod ⟨"GateSteps", "isWithinTolerance", "(II)Z"⟩ : Cond) ∈ tbG := tb_in (List.mem_of_getElem? (i := 567) (by decide +kernel)) rfl
theorem wd_568 : (.code ⟨"GateSteps", "isWithinTolerance", "(II)Z"⟩ prog_1_method_34_code 4 (some .boolean) : Cond) ∈ tbG := tb_in (List.mem_of_getElem? (i := 568) (by decide +kernel)) rfl
theorem wd_569 : (.methodLink "GateSteps" 289 ⟨"java/lang/Math", "abs", "(I)I"⟩ : Cond) ∈ tbG := tb_in (List.mem_of_getElem? (i := 569) (by decide +kernel)) rfl
theorem wd_570 : (.static ⟨"java/lang/Math", "abs", "(I)I"⟩ : Cond) ∈ tbG := tb_in (List.mem_of_getElem? (i := 570) (by decide +kernel)) rfl
theorem wd_572 : (.methodLink "GateSteps" 208 ⟨"GateSteps", "finish", "(I)V"⟩ : Cond) ∈ tbG := tb_in (List.mem_of_getElem? (i := 572) (by decide +kernel)) rfl
theorem wd_574 : (.instanceMethod ⟨"GateSteps", "finish", "(I)V"⟩ : Cond) ∈ tbG := tb_in (List.mem_of_getElem? (i := 574) (by decide +kernel)) rfl
theorem wd_575 : (.code ⟨"GateSteps", "finish", "(I)V"⟩ prog_1_method_35_code 3 none : Cond) ∈ tbG := tb_in (List.mem_of_getElem? (i := 575) (by decide +kernel)) rfl
theorem wm_max : (Cond.code Lib.Math.max.name Lib.Math.max.code 2 (some .int)) ∈ tbG := tb_in (List.mem_of_getElem? (i := 119) (by decide +kernel)) rfl
theorem wm_min : (Cond.code Lib.Math.min.name Lib.Math.min.code 2 (some .int)) ∈ tbG := tb_in (List.mem_of_getElem? (i := 116) (by decide +kernel)) rfl
theorem wm_abs : (Cond.code Lib.Math.abs.name Lib.Math.abs.code 1 (some .int)) ∈ tbG := tb_in (List.mem_of_getElem? (i := 571) (by decide +kernel)) rfl
