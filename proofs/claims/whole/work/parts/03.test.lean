theorem wx_0 : goodWord (.selects "java/lang/Throwable" ⟨"java/lang/Throwable", "fillInStackTrace", "(I)Ljava/lang/Throwable;"⟩ ⟨"java/lang/Throwable", "fillInStackTrace", "(I)Ljava/lang/Throwable;"⟩ : Cond) = true := rfl
theorem wx_1 : goodWord (.selects "GateSteps$Boxes" ⟨"GateSteps$Boxes", "isNumberOf", "(I[I)Z"⟩ ⟨"GateSteps$Boxes", "isNumberOf", "(I[I)Z"⟩ : Cond) = true := rfl
theorem wx_2 : goodWord (.selects "GateSteps" ⟨"GateSteps", "needBox", "(I)V"⟩ ⟨"GateSteps", "needBox", "(I)V"⟩ : Cond) = true := rfl
theorem wx_3 : goodWord (.selects "GateSteps" ⟨"GateSteps", "needTruck", "(I)V"⟩ ⟨"GateSteps", "needTruck", "(I)V"⟩ : Cond) = true := rfl
theorem wx_4 : goodWord (.selects "GateSteps" ⟨"GateSteps", "withdraw", "(I)I"⟩ ⟨"GateSteps", "withdraw", "(I)I"⟩ : Cond) = true := rfl
theorem wx_5 : goodWord (.selects "GateSteps" ⟨"GateSteps", "end", "(I)V"⟩ ⟨"GateSteps", "end", "(I)V"⟩ : Cond) = true := rfl
theorem wx_6 : goodWord (.selects "GateSteps" ⟨"GateSteps", "needSlot", "(I)V"⟩ ⟨"GateSteps", "needSlot", "(I)V"⟩ : Cond) = true := rfl
theorem wx_7 : goodWord (.selects "GateSteps" ⟨"GateSteps", "otherSlot", "(I)I"⟩ ⟨"GateSteps", "otherSlot", "(I)I"⟩ : Cond) = true := rfl
theorem wx_8 : goodWord (.selects "GateSteps" ⟨"GateSteps", "needBooking", "(I)V"⟩ ⟨"GateSteps", "needBooking", "(I)V"⟩ : Cond) = true := rfl
theorem wx_9 : goodWord (.selects "GateSteps" ⟨"GateSteps", "needTime", "(I)V"⟩ ⟨"GateSteps", "needTime", "(I)V"⟩ : Cond) = true := rfl
theorem wx_10 : goodWord (.selects "GateSteps" ⟨"GateSteps", "firstBar", "(I)I"⟩ ⟨"GateSteps", "firstBar", "(I)I"⟩ : Cond) = true := rfl
theorem wx_11 : goodWord (.selects "GateSteps" ⟨"GateSteps", "isAhead", "(I)Z"⟩ ⟨"GateSteps", "isAhead", "(I)Z"⟩ : Cond) = true := rfl
theorem wx_12 : goodWord (.selects "GateSteps" ⟨"GateSteps", "isOver", "(I)Z"⟩ ⟨"GateSteps", "isOver", "(I)Z"⟩ : Cond) = true := rfl
theorem wx_13 : goodWord (.selects "GateSteps" ⟨"GateSteps", "firstBarOfBox", "(I)I"⟩ ⟨"GateSteps", "firstBarOfBox", "(I)I"⟩ : Cond) = true := rfl
theorem wx_14 : goodWord (.selects "GateSteps" ⟨"GateSteps", "laneFor", "(I)I"⟩ ⟨"GateSteps", "laneFor", "(I)I"⟩ : Cond) = true := rfl
theorem wx_15 : goodWord (.selects "GateSteps" ⟨"GateSteps", "joinLane", "(II)V"⟩ ⟨"GateSteps", "joinLane", "(II)V"⟩ : Cond) = true := rfl
theorem wx_16 : goodWord (.selects "GateSteps" ⟨"GateSteps", "isWithinTolerance", "(II)Z"⟩ ⟨"GateSteps", "isWithinTolerance", "(II)Z"⟩ : Cond) = true := rfl
theorem wx_17 : goodWord (.selects "GateSteps" ⟨"GateSteps", "finish", "(I)V"⟩ ⟨"GateSteps", "finish", "(I)V"⟩ : Cond) = true := rfl
theorem wx_18 : goodWord (.selects "GateStepsModel" ⟨"GateStepsModel", "fails", "(I)I"⟩ ⟨"GateStepsModel", "fails", "(I)I"⟩ : Cond) = true := rfl
theorem wx_19 : goodWord (.selects "GateStepsModel" ⟨"GateStepsModel", "checkLetter", "()I"⟩ ⟨"GateStepsModel", "checkLetter", "()I"⟩ : Cond) = true := rfl
theorem wx_20 : goodWord (.selects "GateStepsModel" ⟨"GateStepsModel", "isKnown", "()Z"⟩ ⟨"GateStepsModel", "isKnown", "()Z"⟩ : Cond) = true := rfl
theorem wx_21 : goodWord (.selects "GateStepsModel" ⟨"GateStepsModel", "isSlot", "(I)Z"⟩ ⟨"GateStepsModel", "isSlot", "(I)Z"⟩ : Cond) = true := rfl
theorem wx_22 : goodWord (.selects "GateStepsModel" ⟨"GateStepsModel", "full", "(I)I"⟩ ⟨"GateStepsModel", "full", "(I)I"⟩ : Cond) = true := rfl
theorem wx_23 : goodWord (.selects "GateStepsModel" ⟨"GateStepsModel", "inSlot", "(I)I"⟩ ⟨"GateStepsModel", "inSlot", "(I)I"⟩ : Cond) = true := rfl
theorem wx_24 : goodWord (.selects "GateStepsModel" ⟨"GateStepsModel", "isBooking", "(I)Z"⟩ ⟨"GateStepsModel", "isBooking", "(I)Z"⟩ : Cond) = true := rfl
theorem wx_25 : goodWord (.selects "GateStepsModel" ⟨"GateStepsModel", "isTime", "(I)Z"⟩ ⟨"GateStepsModel", "isTime", "(I)Z"⟩ : Cond) = true := rfl
theorem wx_26 : goodWord (.selects "GateStepsModel" ⟨"GateStepsModel", "bar", "(I)I"⟩ ⟨"GateStepsModel", "bar", "(I)I"⟩ : Cond) = true := rfl
theorem wx_27 : goodWord (.selects "GateStepsModel" ⟨"GateStepsModel", "verdictOf", "(II)I"⟩ ⟨"GateStepsModel", "verdictOf", "(II)I"⟩ : Cond) = true := rfl
theorem wx_28 : goodWord (.selects "GateStepsModel" ⟨"GateStepsModel", "isTruckIn", "(I)Z"⟩ ⟨"GateStepsModel", "isTruckIn", "(I)Z"⟩ : Cond) = true := rfl
theorem wx_29 : goodWord (.selects "GateStepsModel" ⟨"GateStepsModel", "inLane", "(I)I"⟩ ⟨"GateStepsModel", "inLane", "(I)I"⟩ : Cond) = true := rfl
theorem wx_30 : goodWord (.selects "GateStepsModel" ⟨"GateStepsModel", "comes", "(II)V"⟩ ⟨"GateStepsModel", "comes", "(II)V"⟩ : Cond) = true := rfl
theorem wx_31 : goodWord (.selects "GateStepsModel" ⟨"GateStepsModel", "inOrder", "(II)I"⟩ ⟨"GateStepsModel", "inOrder", "(II)I"⟩ : Cond) = true := rfl
theorem wx_32 : goodWord (.initialized "GateStepsLaw" : Cond) = true := rfl
theorem wx_33 : goodWord (.initialized "GateSteps" : Cond) = true := rfl
theorem wx_34 : goodWord (.initialized "GateSteps$SignRow" : Cond) = true := rfl
theorem wx_35 : goodWord (.initialized "GateSteps$Boxes" : Cond) = true := rfl
theorem wx_36 : goodWord (.initialized "GateSteps$Trucks" : Cond) = true := rfl
theorem wx_37 : goodWord (.initialized "GateSteps$Slots" : Cond) = true := rfl
theorem wx_38 : goodWord (.initialized "java/lang/Math" : Cond) = true := rfl
theorem wx_39 : goodWord (.initialized "GateSteps$Bookings" : Cond) = true := rfl
theorem wx_40 : goodWord (.initialized "GateSteps$Lane" : Cond) = true := rfl
theorem wx_41 : goodWord (.initialized "GateStepsModel" : Cond) = true := rfl
theorem wx_42 : goodWord (.initialized "java/lang/Throwable" : Cond) = true := rfl
theorem wx_43 : goodWord (.initialized "java/lang/Exception" : Cond) = true := rfl
theorem wx_44 : goodWord (.initialized "java/lang/RuntimeException" : Cond) = true := rfl
theorem wx_45 : goodWord (.initialized "java/lang/IllegalArgumentException" : Cond) = true := rfl
theorem wx_46 : goodWord (.initialized "java/lang/IllegalStateException" : Cond) = true := rfl
theorem wx_47 : goodWord (.initialized "java/lang/IndexOutOfBoundsException" : Cond) = true := rfl
theorem wx_48 : goodWord (.classLink "GateStepsLaw" 8 "GateSteps" : Cond) = true := rfl
theorem wx_49 : goodWord (.instantiable "GateSteps" 11 : Cond) = true := rfl
theorem wx_50 : goodWord (.methodLink "GateStepsLaw" 55 ⟨"GateSteps", "<init>", "(II)V"⟩ : Cond) = true := rfl
theorem wx_51 : goodWord (.instanceMethod ⟨"GateSteps", "<init>", "(II)V"⟩ : Cond) = true := rfl
theorem wx_52 : goodWord (.code ⟨"GateSteps", "<init>", "(II)V"⟩ prog_1_method_1_code 4 none : Cond) = true := rfl
theorem wx_53 : goodWord (.methodLink "GateSteps" 1 ⟨"java/lang/Object", "<init>", "()V"⟩ : Cond) = true := rfl
theorem wx_54 : goodWord (.instanceMethod ⟨"java/lang/Object", "<init>", "()V"⟩ : Cond) = true := rfl
theorem wx_55 : goodWord (.code ⟨"java/lang/Object", "<init>", "()V"⟩ object_method_1_code 1 none : Cond) = true := rfl
theorem wx_56 : goodWord (.classLink "GateSteps" 7 "GateSteps$SignRow" : Cond) = true := rfl
theorem wx_57 : goodWord (.instantiable "GateSteps$SignRow" 2 : Cond) = true := rfl
theorem wx_58 : goodWord (.methodLinkNest "GateSteps" 9 ⟨"GateSteps$SignRow", "<init>", "()V"⟩ "GateSteps" : Cond) = true := rfl
theorem wx_59 : goodWord (.instanceMethod ⟨"GateSteps$SignRow", "<init>", "()V"⟩ : Cond) = true := rfl
theorem wx_60 : goodWord (.code ⟨"GateSteps$SignRow", "<init>", "()V"⟩ prog_5_method_1_code 1 none : Cond) = true := rfl
theorem wx_61 : goodWord (.methodLink "GateSteps$SignRow" 3 ⟨"java/lang/Object", "<init>", "()V"⟩ : Cond) = true := rfl
theorem wx_62 : goodWord (.fieldLink "GateSteps$SignRow" 9 "GateSteps$SignRow" "signs" "[I" : Cond) = true := rfl
theorem wx_63 : goodWord (.fieldLink "GateSteps" 108 "GateSteps$SignRow" "signs" "[I" : Cond) = true := rfl
theorem wx_64 : goodWord (.fieldLink "GateSteps$SignRow" 15 "GateSteps$SignRow" "size" "I" : Cond) = true := rfl
theorem wx_65 : goodWord (.fieldLink "GateSteps" 75 "GateSteps$SignRow" "size" "I" : Cond) = true := rfl
theorem wx_66 : goodWord (.laysFinal "GateSteps$SignRow" "GateSteps$SignRow" "signs" "[I" : Cond) = true := rfl
theorem wx_67 : goodWord (.soleField "GateSteps$SignRow" "signs" : Cond) = true := rfl
theorem wx_68 : goodWord (.lays "GateSteps$SignRow" "GateSteps$SignRow" "size" "I" : Cond) = true := rfl
theorem wx_69 : goodWord (.soleField "GateSteps$SignRow" "size" : Cond) = true := rfl
theorem wx_70 : goodWord (.superclass "GateSteps$SignRow" "java/lang/Object" : Cond) = true := rfl
theorem wx_71 : goodWord (.arrayClass .int : Cond) = true := rfl
theorem wx_72 : goodWord (.classLink "GateSteps" 16 "GateSteps$Boxes" : Cond) = true := rfl
theorem wx_73 : goodWord (.instantiable "GateSteps$Boxes" 5 : Cond) = true := rfl
theorem wx_74 : goodWord (.methodLinkNest "GateSteps" 18 ⟨"GateSteps$Boxes", "<init>", "()V"⟩ "GateSteps" : Cond) = true := rfl
theorem wx_75 : goodWord (.instanceMethod ⟨"GateSteps$Boxes", "<init>", "()V"⟩ : Cond) = true := rfl
theorem wx_76 : goodWord (.code ⟨"GateSteps$Boxes", "<init>", "()V"⟩ prog_3_method_1_code 1 none : Cond) = true := rfl
theorem wx_77 : goodWord (.methodLink "GateSteps$Boxes" 3 ⟨"java/lang/Object", "<init>", "()V"⟩ : Cond) = true := rfl
theorem wx_78 : goodWord (.fieldLink "GateSteps$Boxes" 9 "GateSteps$Boxes" "signs" "[I" : Cond) = true := rfl
theorem wx_79 : goodWord (.fieldLink "GateSteps" 233 "GateSteps$Boxes" "signs" "[I" : Cond) = true := rfl
theorem wx_80 : goodWord (.fieldLink "GateSteps$Boxes" 15 "GateSteps$Boxes" "weight" "[I" : Cond) = true := rfl
theorem wx_81 : goodWord (.fieldLink "GateSteps" 286 "GateSteps$Boxes" "weight" "[I" : Cond) = true := rfl
theorem wx_82 : goodWord (.fieldLink "GateSteps$Boxes" 18 "GateSteps$Boxes" "dangerous" "[Z" : Cond) = true := rfl
theorem wx_83 : goodWord (.fieldLink "GateSteps" 281 "GateSteps$Boxes" "dangerous" "[Z" : Cond) = true := rfl
theorem wx_84 : goodWord (.fieldLink "GateSteps$Boxes" 22 "GateSteps$Boxes" "verdicts" "[I" : Cond) = true := rfl
theorem wx_85 : goodWord (.fieldLink "GateSteps$Boxes" 25 "GateSteps$Boxes" "size" "I" : Cond) = true := rfl
theorem wx_86 : goodWord (.fieldLink "GateSteps" 101 "GateSteps$Boxes" "size" "I" : Cond) = true := rfl
theorem wx_87 : goodWord (.laysFinal "GateSteps$Boxes" "GateSteps$Boxes" "signs" "[I" : Cond) = true := rfl
theorem wx_88 : goodWord (.soleField "GateSteps$Boxes" "signs" : Cond) = true := rfl
theorem wx_89 : goodWord (.laysFinal "GateSteps$Boxes" "GateSteps$Boxes" "weight" "[I" : Cond) = true := rfl
theorem wx_90 : goodWord (.soleField "GateSteps$Boxes" "weight" : Cond) = true := rfl
theorem wx_91 : goodWord (.laysFinal "GateSteps$Boxes" "GateSteps$Boxes" "dangerous" "[Z" : Cond) = true := rfl
theorem wx_92 : goodWord (.soleField "GateSteps$Boxes" "dangerous" : Cond) = true := rfl
theorem wx_93 : goodWord (.laysFinal "GateSteps$Boxes" "GateSteps$Boxes" "verdicts" "[I" : Cond) = true := rfl
theorem wx_94 : goodWord (.soleField "GateSteps$Boxes" "verdicts" : Cond) = true := rfl
theorem wx_95 : goodWord (.lays "GateSteps$Boxes" "GateSteps$Boxes" "size" "I" : Cond) = true := rfl
theorem wx_96 : goodWord (.soleField "GateSteps$Boxes" "size" : Cond) = true := rfl
theorem wx_97 : goodWord (.superclass "GateSteps$Boxes" "java/lang/Object" : Cond) = true := rfl
theorem wx_98 : goodWord (.arrayClass .boolean : Cond) = true := rfl
theorem wx_99 : goodWord (.classLink "GateSteps" 23 "GateSteps$Trucks" : Cond) = true := rfl
theorem wx_100 : goodWord (.instantiable "GateSteps$Trucks" 1 : Cond) = true := rfl
theorem wx_101 : goodWord (.methodLink "GateSteps" 25 ⟨"GateSteps$Trucks", "<init>", "()V"⟩ : Cond) = true := rfl
theorem wx_102 : goodWord (.instanceMethod ⟨"GateSteps$Trucks", "<init>", "()V"⟩ : Cond) = true := rfl
theorem wx_103 : goodWord (.code ⟨"GateSteps$Trucks", "<init>", "()V"⟩ prog_7_method_1_code 2 none : Cond) = true := rfl
theorem wx_104 : goodWord (.methodLink "GateSteps$Trucks" 3 ⟨"java/lang/Object", "<init>", "()V"⟩ : Cond) = true := rfl
theorem wx_105 : goodWord (.fieldLink "GateSteps$Trucks" 9 "GateSteps$Trucks" "verdicts" "[I" : Cond) = true := rfl
theorem wx_106 : goodWord (.laysFinal "GateSteps$Trucks" "GateSteps$Trucks" "verdicts" "[I" : Cond) = true := rfl
theorem wx_107 : goodWord (.soleField "GateSteps$Trucks" "verdicts" : Cond) = true := rfl
theorem wx_108 : goodWord (.superclass "GateSteps$Trucks" "java/lang/Object" : Cond) = true := rfl
theorem wx_109 : goodWord (.classLink "GateSteps" 30 "GateSteps$Slots" : Cond) = true := rfl
theorem wx_110 : goodWord (.instantiable "GateSteps$Slots" 3 : Cond) = true := rfl
theorem wx_111 : goodWord (.methodLink "GateSteps" 32 ⟨"GateSteps", "held", "(II)I"⟩ : Cond) = true := rfl
theorem wx_112 : goodWord (.static ⟨"GateSteps", "held", "(II)I"⟩ : Cond) = true := rfl
theorem wx_113 : goodWord (.code ⟨"GateSteps", "held", "(II)I"⟩ prog_1_method_17_code 2 (some .int) : Cond) = true := rfl
theorem wx_114 : goodWord (.methodLink "GateSteps" 247 ⟨"java/lang/Math", "min", "(II)I"⟩ : Cond) = true := rfl
theorem wx_115 : goodWord (.static ⟨"java/lang/Math", "min", "(II)I"⟩ : Cond) = true := rfl
theorem wx_116 : goodWord (.code ⟨"java/lang/Math", "min", "(II)I"⟩ prog_14_method_69_code 2 (some .int) : Cond) = true := rfl
theorem wx_117 : goodWord (.methodLink "GateSteps" 252 ⟨"java/lang/Math", "max", "(II)I"⟩ : Cond) = true := rfl
theorem wx_118 : goodWord (.static ⟨"java/lang/Math", "max", "(II)I"⟩ : Cond) = true := rfl
theorem wx_119 : goodWord (.code ⟨"java/lang/Math", "max", "(II)I"⟩ prog_14_method_65_code 2 (some .int) : Cond) = true := rfl
theorem wx_120 : goodWord (.methodLink "GateSteps" 36 ⟨"GateSteps$Slots", "<init>", "(II)V"⟩ : Cond) = true := rfl
theorem wx_121 : goodWord (.instanceMethod ⟨"GateSteps$Slots", "<init>", "(II)V"⟩ : Cond) = true := rfl
theorem wx_122 : goodWord (.code ⟨"GateSteps$Slots", "<init>", "(II)V"⟩ prog_6_method_1_code 3 none : Cond) = true := rfl
theorem wx_123 : goodWord (.methodLink "GateSteps$Slots" 3 ⟨"java/lang/Object", "<init>", "()V"⟩ : Cond) = true := rfl
theorem wx_124 : goodWord (.fieldLink "GateSteps$Slots" 9 "GateSteps$Slots" "taken" "[I" : Cond) = true := rfl
theorem wx_125 : goodWord (.fieldLink "GateSteps" 157 "GateSteps$Slots" "taken" "[I" : Cond) = true := rfl
theorem wx_126 : goodWord (.fieldLink "GateSteps$Slots" 15 "GateSteps$Slots" "size" "I" : Cond) = true := rfl
theorem wx_127 : goodWord (.fieldLink "GateSteps$Slots" 19 "GateSteps$Slots" "room" "I" : Cond) = true := rfl
theorem wx_128 : goodWord (.laysFinal "GateSteps$Slots" "GateSteps$Slots" "taken" "[I" : Cond) = true := rfl
theorem wx_129 : goodWord (.soleField "GateSteps$Slots" "taken" : Cond) = true := rfl
theorem wx_130 : goodWord (.laysFinal "GateSteps$Slots" "GateSteps$Slots" "size" "I" : Cond) = true := rfl
theorem wx_131 : goodWord (.soleField "GateSteps$Slots" "size" : Cond) = true := rfl
theorem wx_132 : goodWord (.laysFinal "GateSteps$Slots" "GateSteps$Slots" "room" "I" : Cond) = true := rfl
theorem wx_133 : goodWord (.soleField "GateSteps$Slots" "room" : Cond) = true := rfl
theorem wx_134 : goodWord (.superclass "GateSteps$Slots" "java/lang/Object" : Cond) = true := rfl
theorem wx_135 : goodWord (.classLink "GateSteps" 43 "GateSteps$Bookings" : Cond) = true := rfl
theorem wx_136 : goodWord (.instantiable "GateSteps$Bookings" 8 : Cond) = true := rfl
theorem wx_137 : goodWord (.methodLinkNest "GateSteps" 45 ⟨"GateSteps$Bookings", "<init>", "()V"⟩ "GateSteps" : Cond) = true := rfl
theorem wx_138 : goodWord (.instanceMethod ⟨"GateSteps$Bookings", "<init>", "()V"⟩ : Cond) = true := rfl
theorem wx_139 : goodWord (.code ⟨"GateSteps$Bookings", "<init>", "()V"⟩ prog_2_method_1_code 1 none : Cond) = true := rfl
theorem wx_140 : goodWord (.methodLink "GateSteps$Bookings" 3 ⟨"java/lang/Object", "<init>", "()V"⟩ : Cond) = true := rfl
theorem wx_141 : goodWord (.fieldLink "GateSteps$Bookings" 9 "GateSteps$Bookings" "slot" "[I" : Cond) = true := rfl
theorem wx_142 : goodWord (.fieldLink "GateSteps" 211 "GateSteps$Bookings" "slot" "[I" : Cond) = true := rfl
theorem wx_143 : goodWord (.fieldLink "GateSteps$Bookings" 15 "GateSteps$Bookings" "truck" "[I" : Cond) = true := rfl
theorem wx_144 : goodWord (.fieldLink "GateSteps" 220 "GateSteps$Bookings" "truck" "[I" : Cond) = true := rfl
theorem wx_145 : goodWord (.fieldLink "GateSteps$Bookings" 18 "GateSteps$Bookings" "box" "[I" : Cond) = true := rfl
theorem wx_146 : goodWord (.fieldLink "GateSteps" 181 "GateSteps$Bookings" "box" "[I" : Cond) = true := rfl
theorem wx_147 : goodWord (.fieldLink "GateSteps$Bookings" 21 "GateSteps$Bookings" "state" "[I" : Cond) = true := rfl
theorem wx_148 : goodWord (.fieldLink "GateSteps" 175 "GateSteps$Bookings" "state" "[I" : Cond) = true := rfl
theorem wx_149 : goodWord (.fieldLink "GateSteps$Bookings" 24 "GateSteps$Bookings" "lane" "[I" : Cond) = true := rfl
theorem wx_150 : goodWord (.fieldLink "GateSteps" 223 "GateSteps$Bookings" "lane" "[I" : Cond) = true := rfl
theorem wx_151 : goodWord (.fieldLink "GateSteps$Bookings" 27 "GateSteps$Bookings" "came" "[I" : Cond) = true := rfl
theorem wx_152 : goodWord (.fieldLink "GateSteps" 178 "GateSteps$Bookings" "came" "[I" : Cond) = true := rfl
theorem wx_153 : goodWord (.fieldLink "GateSteps$Bookings" 30 "GateSteps$Bookings" "turn" "[I" : Cond) = true := rfl
theorem wx_154 : goodWord (.fieldLink "GateSteps" 226 "GateSteps$Bookings" "turn" "[I" : Cond) = true := rfl
theorem wx_155 : goodWord (.fieldLink "GateSteps$Bookings" 33 "GateSteps$Bookings" "size" "I" : Cond) = true := rfl
theorem wx_156 : goodWord (.fieldLink "GateSteps" 145 "GateSteps$Bookings" "size" "I" : Cond) = true := rfl
theorem wx_157 : goodWord (.laysFinal "GateSteps$Bookings" "GateSteps$Bookings" "slot" "[I" : Cond) = true := rfl
theorem wx_158 : goodWord (.soleField "GateSteps$Bookings" "slot" : Cond) = true := rfl
theorem wx_159 : goodWord (.laysFinal "GateSteps$Bookings" "GateSteps$Bookings" "truck" "[I" : Cond) = true := rfl
theorem wx_160 : goodWord (.soleField "GateSteps$Bookings" "truck" : Cond) = true := rfl
theorem wx_161 : goodWord (.laysFinal "GateSteps$Bookings" "GateSteps$Bookings" "box" "[I" : Cond) = true := rfl
theorem wx_162 : goodWord (.soleField "GateSteps$Bookings" "box" : Cond) = true := rfl
theorem wx_163 : goodWord (.laysFinal "GateSteps$Bookings" "GateSteps$Bookings" "state" "[I" : Cond) = true := rfl
theorem wx_164 : goodWord (.soleField "GateSteps$Bookings" "state" : Cond) = true := rfl
theorem wx_165 : goodWord (.laysFinal "GateSteps$Bookings" "GateSteps$Bookings" "lane" "[I" : Cond) = true := rfl
theorem wx_166 : goodWord (.soleField "GateSteps$Bookings" "lane" : Cond) = true := rfl
theorem wx_167 : goodWord (.laysFinal "GateSteps$Bookings" "GateSteps$Bookings" "came" "[I" : Cond) = true := rfl
theorem wx_168 : goodWord (.soleField "GateSteps$Bookings" "came" : Cond) = true := rfl
theorem wx_169 : goodWord (.laysFinal "GateSteps$Bookings" "GateSteps$Bookings" "turn" "[I" : Cond) = true := rfl
theorem wx_170 : goodWord (.soleField "GateSteps$Bookings" "turn" : Cond) = true := rfl
theorem wx_171 : goodWord (.lays "GateSteps$Bookings" "GateSteps$Bookings" "size" "I" : Cond) = true := rfl
theorem wx_172 : goodWord (.soleField "GateSteps$Bookings" "size" : Cond) = true := rfl
theorem wx_173 : goodWord (.superclass "GateSteps$Bookings" "java/lang/Object" : Cond) = true := rfl
theorem wx_174 : goodWord (.classLink "GateSteps" 50 "GateSteps$Lane" : Cond) = true := rfl
theorem wx_175 : goodWord (.arrayOver (.object "GateSteps$Lane") : Cond) = true := rfl
theorem wx_176 : goodWord (.instantiable "GateSteps$Lane" 2 : Cond) = true := rfl
theorem wx_177 : goodWord (.methodLinkNest "GateSteps" 56 ⟨"GateSteps$Lane", "<init>", "()V"⟩ "GateSteps" : Cond) = true := rfl
theorem wx_178 : goodWord (.instanceMethod ⟨"GateSteps$Lane", "<init>", "()V"⟩ : Cond) = true := rfl
theorem wx_179 : goodWord (.code ⟨"GateSteps$Lane", "<init>", "()V"⟩ prog_4_method_1_code 1 none : Cond) = true := rfl
theorem wx_180 : goodWord (.methodLink "GateSteps$Lane" 3 ⟨"java/lang/Object", "<init>", "()V"⟩ : Cond) = true := rfl
theorem wx_181 : goodWord (.fieldLink "GateSteps$Lane" 9 "GateSteps$Lane" "waiting" "[I" : Cond) = true := rfl
theorem wx_182 : goodWord (.fieldLink "GateSteps$Lane" 15 "GateSteps$Lane" "size" "I" : Cond) = true := rfl
theorem wx_183 : goodWord (.fieldLink "GateSteps" 237 "GateSteps$Lane" "size" "I" : Cond) = true := rfl
theorem wx_184 : goodWord (.laysFinal "GateSteps$Lane" "GateSteps$Lane" "waiting" "[I" : Cond) = true := rfl
theorem wx_185 : goodWord (.soleField "GateSteps$Lane" "waiting" : Cond) = true := rfl
theorem wx_186 : goodWord (.lays "GateSteps$Lane" "GateSteps$Lane" "size" "I" : Cond) = true := rfl
theorem wx_187 : goodWord (.soleField "GateSteps$Lane" "size" : Cond) = true := rfl
theorem wx_188 : goodWord (.superclass "GateSteps$Lane" "java/lang/Object" : Cond) = true := rfl
theorem wx_189 : goodWord (.fieldLink "GateSteps" 10 "GateSteps" "row" "LGateSteps$SignRow;" : Cond) = true := rfl
theorem wx_190 : goodWord (.fieldLink "GateSteps" 19 "GateSteps" "boxes" "LGateSteps$Boxes;" : Cond) = true := rfl
theorem wx_191 : goodWord (.fieldLink "GateSteps" 26 "GateSteps" "trucks" "LGateSteps$Trucks;" : Cond) = true := rfl
theorem wx_192 : goodWord (.fieldLink "GateSteps" 39 "GateSteps" "slots" "LGateSteps$Slots;" : Cond) = true := rfl
theorem wx_193 : goodWord (.fieldLink "GateSteps" 46 "GateSteps" "bookings" "LGateSteps$Bookings;" : Cond) = true := rfl
theorem wx_194 : goodWord (.fieldLink "GateSteps" 52 "GateSteps" "lanes" "[LGateSteps$Lane;" : Cond) = true := rfl
theorem wx_195 : goodWord (.fieldLink "GateSteps" 169 "GateSteps" "now" "I" : Cond) = true := rfl
theorem wx_196 : goodWord (.fieldLink "GateSteps" 57 "GateSteps" "allowed" "I" : Cond) = true := rfl
theorem wx_197 : goodWord (.fieldLink "GateSteps" 238 "GateSteps" "longestTurn" "I" : Cond) = true := rfl
theorem wx_198 : goodWord (.fieldLink "GateSteps" 241 "GateSteps" "allTurns" "I" : Cond) = true := rfl
theorem wx_199 : goodWord (.fieldLink "GateSteps" 244 "GateSteps" "doneBookings" "I" : Cond) = true := rfl
theorem wx_200 : goodWord (.laysFinal "GateSteps" "GateSteps" "row" "LGateSteps$SignRow;" : Cond) = true := rfl
theorem wx_201 : goodWord (.soleField "GateSteps" "row" : Cond) = true := rfl
theorem wx_202 : goodWord (.laysFinal "GateSteps" "GateSteps" "boxes" "LGateSteps$Boxes;" : Cond) = true := rfl
theorem wx_203 : goodWord (.soleField "GateSteps" "boxes" : Cond) = true := rfl
theorem wx_204 : goodWord (.laysFinal "GateSteps" "GateSteps" "trucks" "LGateSteps$Trucks;" : Cond) = true := rfl
theorem wx_205 : goodWord (.soleField "GateSteps" "trucks" : Cond) = true := rfl
theorem wx_206 : goodWord (.laysFinal "GateSteps" "GateSteps" "slots" "LGateSteps$Slots;" : Cond) = true := rfl
theorem wx_207 : goodWord (.soleField "GateSteps" "slots" : Cond) = true := rfl
theorem wx_208 : goodWord (.laysFinal "GateSteps" "GateSteps" "bookings" "LGateSteps$Bookings;" : Cond) = true := rfl
theorem wx_209 : goodWord (.soleField "GateSteps" "bookings" : Cond) = true := rfl
theorem wx_210 : goodWord (.laysFinal "GateSteps" "GateSteps" "lanes" "[LGateSteps$Lane;" : Cond) = true := rfl
theorem wx_211 : goodWord (.soleField "GateSteps" "lanes" : Cond) = true := rfl
theorem wx_212 : goodWord (.lays "GateSteps" "GateSteps" "now" "I" : Cond) = true := rfl
theorem wx_213 : goodWord (.soleField "GateSteps" "now" : Cond) = true := rfl
theorem wx_214 : goodWord (.lays "GateSteps" "GateSteps" "allowed" "I" : Cond) = true := rfl
theorem wx_215 : goodWord (.soleField "GateSteps" "allowed" : Cond) = true := rfl
theorem wx_216 : goodWord (.lays "GateSteps" "GateSteps" "longestTurn" "I" : Cond) = true := rfl
theorem wx_217 : goodWord (.soleField "GateSteps" "longestTurn" : Cond) = true := rfl
theorem wx_218 : goodWord (.lays "GateSteps" "GateSteps" "allTurns" "I" : Cond) = true := rfl
theorem wx_219 : goodWord (.soleField "GateSteps" "allTurns" : Cond) = true := rfl
theorem wx_220 : goodWord (.lays "GateSteps" "GateSteps" "doneBookings" "I" : Cond) = true := rfl
theorem wx_221 : goodWord (.soleField "GateSteps" "doneBookings" : Cond) = true := rfl
theorem wx_222 : goodWord (.superclass "GateSteps" "java/lang/Object" : Cond) = true := rfl
theorem wx_223 : goodWord (.methodLink "GateStepsLaw" 69 ⟨"GateSteps", "clear", "()I"⟩ : Cond) = true := rfl
theorem wx_224 : goodWord (.instanceMethod ⟨"GateSteps", "clear", "()I"⟩ : Cond) = true := rfl
theorem wx_225 : goodWord (.selects "GateSteps" ⟨"GateSteps", "clear", "()I"⟩ ⟨"GateSteps", "clear", "()I"⟩ : Cond) = true := rfl
theorem wx_226 : goodWord (.code ⟨"GateSteps", "clear", "()I"⟩ prog_1_method_3_code 2 (some .int) : Cond) = true := rfl
theorem wx_227 : goodWord (.methodLink "GateStepsLaw" 73 ⟨"GateSteps", "letter", "()I"⟩ : Cond) = true := rfl
theorem wx_228 : goodWord (.instanceMethod ⟨"GateSteps", "letter", "()I"⟩ : Cond) = true := rfl
theorem wx_229 : goodWord (.selects "GateSteps" ⟨"GateSteps", "letter", "()I"⟩ ⟨"GateSteps", "letter", "()I"⟩ : Cond) = true := rfl
theorem wx_230 : goodWord (.code ⟨"GateSteps", "letter", "()I"⟩ prog_1_method_4_code 1 (some .int) : Cond) = true := rfl
theorem wx_231 : goodWord (.methodLink "GateSteps" 92 ⟨"GateSteps$SignRow", "checkLetter", "()I"⟩ : Cond) = true := rfl
theorem wx_232 : goodWord (.instanceMethod ⟨"GateSteps$SignRow", "checkLetter", "()I"⟩ : Cond) = true := rfl
theorem wx_233 : goodWord (.selects "GateSteps$SignRow" ⟨"GateSteps$SignRow", "checkLetter", "()I"⟩ ⟨"GateSteps$SignRow", "checkLetter", "()I"⟩ : Cond) = true := rfl
theorem wx_234 : goodWord (.code ⟨"GateSteps$SignRow", "checkLetter", "()I"⟩ prog_5_method_4_code 3 (some .int) : Cond) = true := rfl
theorem wx_235 : goodWord (.methodLink "GateSteps$SignRow" 26 ⟨"GateSteps$SignRow", "worth", "(I)I"⟩ : Cond) = true := rfl
theorem wx_236 : goodWord (.static ⟨"GateSteps$SignRow", "worth", "(I)I"⟩ : Cond) = true := rfl
theorem wx_237 : goodWord (.code ⟨"GateSteps$SignRow", "worth", "(I)I"⟩ prog_5_method_6_code 1 (some .int) : Cond) = true := rfl
theorem wx_238 : goodWord (.methodLinkNest "GateSteps$SignRow" 23 ⟨"GateSteps", "isLetter", "(I)Z"⟩ "GateSteps" : Cond) = true := rfl
theorem wx_239 : goodWord (.static ⟨"GateSteps", "isLetter", "(I)Z"⟩ : Cond) = true := rfl
theorem wx_240 : goodWord (.code ⟨"GateSteps", "isLetter", "(I)Z"⟩ prog_1_method_18_code 1 (some .boolean) : Cond) = true := rfl
theorem wx_241 : goodWord (.methodLink "GateStepsLaw" 95 ⟨"GateSteps", "tolerance", "(I)Z"⟩ : Cond) = true := rfl
theorem wx_242 : goodWord (.instanceMethod ⟨"GateSteps", "tolerance", "(I)Z"⟩ : Cond) = true := rfl
theorem wx_243 : goodWord (.selects "GateSteps" ⟨"GateSteps", "tolerance", "(I)Z"⟩ ⟨"GateSteps", "tolerance", "(I)Z"⟩ : Cond) = true := rfl
theorem wx_244 : goodWord (.code ⟨"GateSteps", "tolerance", "(I)Z"⟩ prog_1_method_10_code 2 (some .boolean) : Cond) = true := rfl
theorem wx_245 : goodWord (.methodLink "GateStepsLaw" 106 ⟨"GateSteps", "queue", "(II)I"⟩ : Cond) = true := rfl
theorem wx_246 : goodWord (.instanceMethod ⟨"GateSteps", "queue", "(II)I"⟩ : Cond) = true := rfl
theorem wx_247 : goodWord (.selects "GateSteps" ⟨"GateSteps", "queue", "(II)I"⟩ ⟨"GateSteps", "queue", "(II)I"⟩ : Cond) = true := rfl
theorem wx_248 : goodWord (.code ⟨"GateSteps", "queue", "(II)I"⟩ prog_1_method_13_code 3 (some .int) : Cond) = true := rfl
theorem wx_249 : goodWord (.methodLink "GateSteps" 190 ⟨"GateSteps", "isLane", "(I)Z"⟩ : Cond) = true := rfl
theorem wx_250 : goodWord (.static ⟨"GateSteps", "isLane", "(I)Z"⟩ : Cond) = true := rfl
theorem wx_251 : goodWord (.code ⟨"GateSteps", "isLane", "(I)Z"⟩ prog_1_method_20_code 1 (some .boolean) : Cond) = true := rfl
theorem wx_252 : goodWord (.methodLink "GateSteps" 199 ⟨"GateSteps$Lane", "bookingAt", "(I)I"⟩ : Cond) = true := rfl
theorem wx_253 : goodWord (.instanceMethod ⟨"GateSteps$Lane", "bookingAt", "(I)I"⟩ : Cond) = true := rfl
theorem wx_254 : goodWord (.selects "GateSteps$Lane" ⟨"GateSteps$Lane", "bookingAt", "(I)I"⟩ ⟨"GateSteps$Lane", "bookingAt", "(I)I"⟩ : Cond) = true := rfl
theorem wx_255 : goodWord (.code ⟨"GateSteps$Lane", "bookingAt", "(I)I"⟩ prog_4_method_3_code 2 (some .int) : Cond) = true := rfl
theorem wx_256 : goodWord (.methodLink "GateStepsLaw" 116 ⟨"GateSteps", "count", "(I)I"⟩ : Cond) = true := rfl
theorem wx_257 : goodWord (.instanceMethod ⟨"GateSteps", "count", "(I)I"⟩ : Cond) = true := rfl
theorem wx_258 : goodWord (.selects "GateSteps" ⟨"GateSteps", "count", "(I)I"⟩ ⟨"GateSteps", "count", "(I)I"⟩ : Cond) = true := rfl
theorem wx_259 : goodWord (.code ⟨"GateSteps", "count", "(I)I"⟩ prog_1_method_16_code 3 (some .int) : Cond) = true := rfl
theorem wx_260 : goodWord (.methodLink "GateSteps" 234 ⟨"GateSteps$Slots", "has", "(I)Z"⟩ : Cond) = true := rfl
theorem wx_261 : goodWord (.instanceMethod ⟨"GateSteps$Slots", "has", "(I)Z"⟩ : Cond) = true := rfl
theorem wx_262 : goodWord (.selects "GateSteps$Slots" ⟨"GateSteps$Slots", "has", "(I)Z"⟩ ⟨"GateSteps$Slots", "has", "(I)Z"⟩ : Cond) = true := rfl
theorem wx_263 : goodWord (.code ⟨"GateSteps$Slots", "has", "(I)Z"⟩ prog_6_method_2_code 2 (some .boolean) : Cond) = true := rfl
theorem wx_264 : goodWord (.methodLink "GateStepsLaw" 49 ⟨"GateStepsLaw", "cell", "([II)I"⟩ : Cond) = true := rfl
theorem wx_265 : goodWord (.static ⟨"GateStepsLaw", "cell", "([II)I"⟩ : Cond) = true := rfl
theorem wx_266 : goodWord (.code ⟨"GateStepsLaw", "cell", "([II)I"⟩ method_2_code 2 (some .int) : Cond) = true := rfl
theorem wx_267 : goodWord (.methodLink "GateStepsLaw" 61 ⟨"GateStepsLaw", "sign", "(LGateSteps;I[J)I"⟩ : Cond) = true := rfl
theorem wx_268 : goodWord (.static ⟨"GateStepsLaw", "sign", "(LGateSteps;I[J)I"⟩ : Cond) = true := rfl
theorem wx_269 : goodWord (.codeWith ⟨"GateStepsLaw", "sign", "(LGateSteps;I[J)I"⟩ method_3_code 4 (some .int) [(0, 9, 12, 13), (0, 9, 15, 15)] : Cond) = true := rfl
theorem wx_270 : goodWord (.classLink "GateStepsLaw" 13 "java/lang/IllegalArgumentException" : Cond) = true := rfl
theorem wx_271 : goodWord (.classLink "GateStepsLaw" 15 "java/lang/IllegalStateException" : Cond) = true := rfl
theorem wx_272 : goodWord (.methodLink "GateStepsLaw" 7 ⟨"GateSteps", "sign", "(I)I"⟩ : Cond) = true := rfl
theorem wx_273 : goodWord (.instanceMethod ⟨"GateSteps", "sign", "(I)I"⟩ : Cond) = true := rfl
theorem wx_274 : goodWord (.selects "GateSteps" ⟨"GateSteps", "sign", "(I)I"⟩ ⟨"GateSteps", "sign", "(I)I"⟩ : Cond) = true := rfl
theorem wx_275 : goodWord (.code ⟨"GateSteps", "sign", "(I)I"⟩ prog_1_method_2_code 2 (some .int) : Cond) = true := rfl
theorem wx_276 : goodWord (.methodLink "GateSteps" 61 ⟨"GateSteps", "isLetter", "(I)Z"⟩ : Cond) = true := rfl
theorem wx_277 : goodWord (.methodLink "GateSteps" 65 ⟨"GateSteps", "isDigit", "(I)Z"⟩ : Cond) = true := rfl
theorem wx_278 : goodWord (.static ⟨"GateSteps", "isDigit", "(I)Z"⟩ : Cond) = true := rfl
theorem wx_279 : goodWord (.code ⟨"GateSteps", "isDigit", "(I)Z"⟩ prog_1_method_19_code 1 (some .boolean) : Cond) = true := rfl
theorem wx_280 : goodWord (.classLink "GateSteps" 68 "java/lang/IllegalArgumentException" : Cond) = true := rfl
theorem wx_281 : goodWord (.instantiable "java/lang/IllegalArgumentException" 6 : Cond) = true := rfl
theorem wx_282 : goodWord (.castable "java/lang/IllegalArgumentException" "java/lang/IllegalArgumentException" : Cond) = true := rfl
theorem wx_283 : goodWord (.declares ⟨"java/lang/RuntimeException", "<init>", "()V"⟩ : Cond) = true := rfl
theorem wx_284 : goodWord (.declares ⟨"java/lang/RuntimeException", "<init>", "(Ljava/lang/String;)V"⟩ : Cond) = true := rfl
theorem wx_285 : goodWord (.declares ⟨"java/lang/Exception", "<init>", "()V"⟩ : Cond) = true := rfl
theorem wx_286 : goodWord (.declares ⟨"java/lang/Exception", "<init>", "(Ljava/lang/String;)V"⟩ : Cond) = true := rfl
theorem wx_287 : goodWord (.declares ⟨"java/lang/Throwable", "<init>", "()V"⟩ : Cond) = true := rfl
theorem wx_288 : goodWord (.declares ⟨"java/lang/Throwable", "<init>", "(Ljava/lang/String;)V"⟩ : Cond) = true := rfl
theorem wx_289 : goodWord (.selects "java/lang/IllegalArgumentException" ⟨"java/lang/Throwable", "fillInStackTrace", "(I)Ljava/lang/Throwable;"⟩ ⟨"java/lang/Throwable", "fillInStackTrace", "(I)Ljava/lang/Throwable;"⟩ : Cond) = true := rfl
theorem wx_290 : goodWord (.selects "java/lang/IllegalArgumentException" ⟨"java/lang/Throwable", "fillInStackTrace", "()Ljava/lang/Throwable;"⟩ ⟨"java/lang/Throwable", "fillInStackTrace", "()Ljava/lang/Throwable;"⟩ : Cond) = true := rfl
theorem wx_291 : goodWord (.lays "java/lang/IllegalArgumentException" "java/lang/Throwable" "cause" "Ljava/lang/Throwable;" : Cond) = true := rfl
theorem wx_292 : goodWord (.lays "java/lang/Throwable" "java/lang/Throwable" "cause" "Ljava/lang/Throwable;" : Cond) = true := rfl
theorem wx_293 : goodWord (.lays "java/lang/IllegalArgumentException" "java/lang/Throwable" "stackTrace" "[Ljava/lang/StackTraceElement;" : Cond) = true := rfl
theorem wx_294 : goodWord (.lays "java/lang/Throwable" "java/lang/Throwable" "stackTrace" "[Ljava/lang/StackTraceElement;" : Cond) = true := rfl
theorem wx_295 : goodWord (.lays "java/lang/IllegalArgumentException" "java/lang/Throwable" "suppressedExceptions" "Ljava/util/List;" : Cond) = true := rfl
theorem wx_296 : goodWord (.lays "java/lang/Throwable" "java/lang/Throwable" "suppressedExceptions" "Ljava/util/List;" : Cond) = true := rfl
theorem wx_297 : goodWord (.lays "java/lang/IllegalArgumentException" "java/lang/Throwable" "detailMessage" "Ljava/lang/String;" : Cond) = true := rfl
theorem wx_298 : goodWord (.lays "java/lang/Throwable" "java/lang/Throwable" "detailMessage" "Ljava/lang/String;" : Cond) = true := rfl
theorem wx_299 : goodWord (.lays "java/lang/IllegalArgumentException" "java/lang/Throwable" "backtrace" "Ljava/lang/Object;" : Cond) = true := rfl
theorem wx_300 : goodWord (.lays "java/lang/Throwable" "java/lang/Throwable" "backtrace" "Ljava/lang/Object;" : Cond) = true := rfl
theorem wx_301 : goodWord (.fieldLink "java/lang/Throwable" 198 "java/lang/Throwable" "backtrace" "Ljava/lang/Object;" : Cond) = true := rfl
theorem wx_302 : goodWord (.superclass "java/lang/Throwable" "java/lang/Object" : Cond) = true := rfl
theorem wx_303 : goodWord (.instanceMethod ⟨"java/lang/Throwable", "<init>", "()V"⟩ : Cond) = true := rfl
theorem wx_304 : goodWord (.code ⟨"java/lang/Throwable", "<init>", "()V"⟩ prog_17_method_1_code 1 none : Cond) = true := rfl
theorem wx_305 : goodWord (.methodLink "java/lang/Throwable" 1 ⟨"java/lang/Object", "<init>", "()V"⟩ : Cond) = true := rfl
theorem wx_306 : goodWord (.fieldLink "java/lang/Throwable" 13 "java/lang/Throwable" "UNASSIGNED_STACK" "[Ljava/lang/StackTraceElement;" : Cond) = true := rfl
theorem wx_307 : goodWord (.laysStatic "java/lang/Throwable" "UNASSIGNED_STACK" "[Ljava/lang/StackTraceElement;" : Cond) = true := rfl
theorem wx_308 : goodWord (.fieldLink "java/lang/Throwable" 20 "java/lang/Throwable" "SUPPRESSED_SENTINEL" "Ljava/util/List;" : Cond) = true := rfl
theorem wx_309 : goodWord (.laysStatic "java/lang/Throwable" "SUPPRESSED_SENTINEL" "Ljava/util/List;" : Cond) = true := rfl
theorem wx_310 : goodWord (.methodLink "java/lang/Throwable" 27 ⟨"java/lang/Throwable", "fillInStackTrace", "()Ljava/lang/Throwable;"⟩ : Cond) = true := rfl
theorem wx_311 : goodWord (.instanceMethod ⟨"java/lang/Throwable", "fillInStackTrace", "()Ljava/lang/Throwable;"⟩ : Cond) = true := rfl
theorem wx_312 : goodWord (.sameMethod "java/lang/Throwable" "java/lang/Throwable" "fillInStackTrace" "()Ljava/lang/Throwable;" : Cond) = true := rfl
theorem wx_313 : goodWord (.selects "java/lang/IllegalStateException" ⟨"java/lang/Throwable", "fillInStackTrace", "()Ljava/lang/Throwable;"⟩ ⟨"java/lang/Throwable", "fillInStackTrace", "()Ljava/lang/Throwable;"⟩ : Cond) = true := rfl
theorem wx_314 : goodWord (.selects "java/lang/IndexOutOfBoundsException" ⟨"java/lang/Throwable", "fillInStackTrace", "()Ljava/lang/Throwable;"⟩ ⟨"java/lang/Throwable", "fillInStackTrace", "()Ljava/lang/Throwable;"⟩ : Cond) = true := rfl
theorem wx_315 : goodWord (.codeSync ⟨"java/lang/Throwable", "fillInStackTrace", "()Ljava/lang/Throwable;"⟩ prog_17_method_18_code 1 (some (.object "java/lang/Throwable")) : Cond) = true := rfl
theorem wx_316 : goodWord (.methodLink "java/lang/Throwable" 202 ⟨"java/lang/Throwable", "fillInStackTrace", "(I)Ljava/lang/Throwable;"⟩ : Cond) = true := rfl
theorem wx_317 : goodWord (.privateMethod ⟨"java/lang/Throwable", "fillInStackTrace", "(I)Ljava/lang/Throwable;"⟩ : Cond) = true := rfl
theorem wx_318 : goodWord (.instanceMethod ⟨"java/lang/Throwable", "fillInStackTrace", "(I)Ljava/lang/Throwable;"⟩ : Cond) = true := rfl
theorem wx_319 : goodWord (.instantiable "java/lang/Throwable" 6 : Cond) = true := rfl
theorem wx_320 : goodWord (.native ⟨"java/lang/Throwable", "fillInStackTrace", "(I)Ljava/lang/Throwable;"⟩ : Cond) = true := rfl
theorem wx_321 : goodWord (.stringRef "GateSteps" 70 "not a sign" : Cond) = true := rfl
theorem wx_322 : goodWord (.methodLink "GateSteps" 72 ⟨"java/lang/IllegalArgumentException", "<init>", "(Ljava/lang/String;)V"⟩ : Cond) = true := rfl
theorem wx_323 : goodWord (.instanceMethod ⟨"java/lang/IllegalArgumentException", "<init>", "(Ljava/lang/String;)V"⟩ : Cond) = true := rfl
theorem wx_324 : goodWord (.code ⟨"java/lang/IllegalArgumentException", "<init>", "(Ljava/lang/String;)V"⟩ prog_11_method_2_code 2 none : Cond) = true := rfl
theorem wx_325 : goodWord (.methodLink "java/lang/IllegalArgumentException" 7 ⟨"java/lang/RuntimeException", "<init>", "(Ljava/lang/String;)V"⟩ : Cond) = true := rfl
theorem wx_326 : goodWord (.instanceMethod ⟨"java/lang/RuntimeException", "<init>", "(Ljava/lang/String;)V"⟩ : Cond) = true := rfl
theorem wx_327 : goodWord (.code ⟨"java/lang/RuntimeException", "<init>", "(Ljava/lang/String;)V"⟩ prog_15_method_2_code 2 none : Cond) = true := rfl
theorem wx_328 : goodWord (.methodLink "java/lang/RuntimeException" 7 ⟨"java/lang/Exception", "<init>", "(Ljava/lang/String;)V"⟩ : Cond) = true := rfl
theorem wx_329 : goodWord (.instanceMethod ⟨"java/lang/Exception", "<init>", "(Ljava/lang/String;)V"⟩ : Cond) = true := rfl
theorem wx_330 : goodWord (.code ⟨"java/lang/Exception", "<init>", "(Ljava/lang/String;)V"⟩ prog_10_method_2_code 2 none : Cond) = true := rfl
theorem wx_331 : goodWord (.methodLink "java/lang/Exception" 7 ⟨"java/lang/Throwable", "<init>", "(Ljava/lang/String;)V"⟩ : Cond) = true := rfl
theorem wx_332 : goodWord (.instanceMethod ⟨"java/lang/Throwable", "<init>", "(Ljava/lang/String;)V"⟩ : Cond) = true := rfl
theorem wx_333 : goodWord (.code ⟨"java/lang/Throwable", "<init>", "(Ljava/lang/String;)V"⟩ prog_17_method_2_code 2 none : Cond) = true := rfl
theorem wx_334 : goodWord (.fieldLink "java/lang/Throwable" 198 "java/lang/Throwable" "backtrace" "Ljava/lang/Object;" : Cond) = true := rfl
theorem wx_335 : goodWord (.fieldLink "java/lang/Throwable" 31 "java/lang/Throwable" "detailMessage" "Ljava/lang/String;" : Cond) = true := rfl
theorem wx_336 : goodWord (.fieldLink "java/lang/Throwable" 7 "java/lang/Throwable" "cause" "Ljava/lang/Throwable;" : Cond) = true := rfl
theorem wx_337 : goodWord (.fieldLink "java/lang/Throwable" 17 "java/lang/Throwable" "stackTrace" "[Ljava/lang/StackTraceElement;" : Cond) = true := rfl
theorem wx_338 : goodWord (.fieldLink "java/lang/Throwable" 24 "java/lang/Throwable" "suppressedExceptions" "Ljava/util/List;" : Cond) = true := rfl
theorem wx_339 : goodWord (.soleField "java/lang/Throwable" "backtrace" : Cond) = true := rfl
theorem wx_340 : goodWord (.soleField "java/lang/Throwable" "detailMessage" : Cond) = true := rfl
theorem wx_341 : goodWord (.soleField "java/lang/Throwable" "cause" : Cond) = true := rfl
theorem wx_342 : goodWord (.soleField "java/lang/Throwable" "stackTrace" : Cond) = true := rfl
theorem wx_343 : goodWord (.lays "java/lang/IllegalArgumentException" "java/lang/Throwable" "depth" "I" : Cond) = true := rfl
theorem wx_344 : goodWord (.soleField "java/lang/Throwable" "depth" : Cond) = true := rfl
theorem wx_345 : goodWord (.soleField "java/lang/Throwable" "suppressedExceptions" : Cond) = true := rfl
theorem wx_346 : goodWord (.superclass "java/lang/IllegalArgumentException" "java/lang/RuntimeException" : Cond) = true := rfl
theorem wx_347 : goodWord (.arrayClass .byte : Cond) = true := rfl
theorem wx_348 : goodWord (.classLink "GateSteps" 78 "java/lang/IllegalStateException" : Cond) = true := rfl
theorem wx_349 : goodWord (.instantiable "java/lang/IllegalStateException" 6 : Cond) = true := rfl
theorem wx_350 : goodWord (.castable "java/lang/IllegalStateException" "java/lang/IllegalStateException" : Cond) = true := rfl
theorem wx_351 : goodWord (.selects "java/lang/IllegalStateException" ⟨"java/lang/Throwable", "fillInStackTrace", "(I)Ljava/lang/Throwable;"⟩ ⟨"java/lang/Throwable", "fillInStackTrace", "(I)Ljava/lang/Throwable;"⟩ : Cond) = true := rfl
theorem wx_352 : goodWord (.lays "java/lang/IllegalStateException" "java/lang/Throwable" "cause" "Ljava/lang/Throwable;" : Cond) = true := rfl
theorem wx_353 : goodWord (.lays "java/lang/IllegalStateException" "java/lang/Throwable" "stackTrace" "[Ljava/lang/StackTraceElement;" : Cond) = true := rfl
theorem wx_354 : goodWord (.lays "java/lang/IllegalStateException" "java/lang/Throwable" "suppressedExceptions" "Ljava/util/List;" : Cond) = true := rfl
theorem wx_355 : goodWord (.lays "java/lang/IllegalStateException" "java/lang/Throwable" "detailMessage" "Ljava/lang/String;" : Cond) = true := rfl
theorem wx_356 : goodWord (.lays "java/lang/IllegalStateException" "java/lang/Throwable" "backtrace" "Ljava/lang/Object;" : Cond) = true := rfl
theorem wx_357 : goodWord (.stringRef "GateSteps" 80 "the row is full" : Cond) = true := rfl
theorem wx_358 : goodWord (.methodLink "GateSteps" 82 ⟨"java/lang/IllegalStateException", "<init>", "(Ljava/lang/String;)V"⟩ : Cond) = true := rfl
theorem wx_359 : goodWord (.instanceMethod ⟨"java/lang/IllegalStateException", "<init>", "(Ljava/lang/String;)V"⟩ : Cond) = true := rfl
theorem wx_360 : goodWord (.code ⟨"java/lang/IllegalStateException", "<init>", "(Ljava/lang/String;)V"⟩ prog_12_method_2_code 2 none : Cond) = true := rfl
theorem wx_361 : goodWord (.methodLink "java/lang/IllegalStateException" 7 ⟨"java/lang/RuntimeException", "<init>", "(Ljava/lang/String;)V"⟩ : Cond) = true := rfl
theorem wx_362 : goodWord (.lays "java/lang/IllegalStateException" "java/lang/Throwable" "depth" "I" : Cond) = true := rfl
theorem wx_363 : goodWord (.superclass "java/lang/IllegalStateException" "java/lang/RuntimeException" : Cond) = true := rfl
theorem wx_364 : goodWord (.methodLink "GateSteps" 83 ⟨"GateSteps$SignRow", "fits", "(I)Z"⟩ : Cond) = true := rfl
theorem wx_365 : goodWord (.instanceMethod ⟨"GateSteps$SignRow", "fits", "(I)Z"⟩ : Cond) = true := rfl
theorem wx_366 : goodWord (.selects "GateSteps$SignRow" ⟨"GateSteps$SignRow", "fits", "(I)Z"⟩ ⟨"GateSteps$SignRow", "fits", "(I)Z"⟩ : Cond) = true := rfl
theorem wx_367 : goodWord (.code ⟨"GateSteps$SignRow", "fits", "(I)Z"⟩ prog_5_method_2_code 3 (some .boolean) : Cond) = true := rfl
theorem wx_368 : goodWord (.methodLinkNest "GateSteps$SignRow" 19 ⟨"GateSteps", "isDigit", "(I)Z"⟩ "GateSteps" : Cond) = true := rfl
theorem wx_369 : goodWord (.stringRef "GateSteps" 86 "not a sign for this place" : Cond) = true := rfl
theorem wx_370 : goodWord (.methodLink "GateSteps" 88 ⟨"GateSteps$SignRow", "add", "(I)V"⟩ : Cond) = true := rfl
theorem wx_371 : goodWord (.instanceMethod ⟨"GateSteps$SignRow", "add", "(I)V"⟩ : Cond) = true := rfl
theorem wx_372 : goodWord (.selects "GateSteps$SignRow" ⟨"GateSteps$SignRow", "add", "(I)V"⟩ ⟨"GateSteps$SignRow", "add", "(I)V"⟩ : Cond) = true := rfl
theorem wx_373 : goodWord (.code ⟨"GateSteps$SignRow", "add", "(I)V"⟩ prog_5_method_3_code 2 none : Cond) = true := rfl
theorem wx_374 : goodWord (.methodLink "GateStepsLaw" 77 ⟨"GateStepsLaw", "box", "(LGateSteps;IZ[J)I"⟩ : Cond) = true := rfl
theorem wx_375 : goodWord (.static ⟨"GateStepsLaw", "box", "(LGateSteps;IZ[J)I"⟩ : Cond) = true := rfl
theorem wx_376 : goodWord (.codeWith ⟨"GateStepsLaw", "box", "(LGateSteps;IZ[J)I"⟩ method_4_code 5 (some .int) [(0, 10, 13, 13), (0, 10, 17, 15)] : Cond) = true := rfl
theorem wx_377 : goodWord (.methodLink "GateStepsLaw" 17 ⟨"GateSteps", "box", "(IZ)I"⟩ : Cond) = true := rfl
theorem wx_378 : goodWord (.instanceMethod ⟨"GateSteps", "box", "(IZ)I"⟩ : Cond) = true := rfl
theorem wx_379 : goodWord (.selects "GateSteps" ⟨"GateSteps", "box", "(IZ)I"⟩ ⟨"GateSteps", "box", "(IZ)I"⟩ : Cond) = true := rfl
theorem wx_380 : goodWord (.code ⟨"GateSteps", "box", "(IZ)I"⟩ prog_1_method_5_code 4 (some .int) : Cond) = true := rfl
theorem wx_381 : goodWord (.stringRef "GateSteps" 96 "not eleven signs" : Cond) = true := rfl
theorem wx_382 : goodWord (.constant "GateSteps" 98 100000 : Cond) = true := rfl
theorem wx_383 : goodWord (.stringRef "GateSteps" 99 "no such weight" : Cond) = true := rfl
theorem wx_384 : goodWord (.stringRef "GateSteps" 102 "no more boxes" : Cond) = true := rfl
theorem wx_385 : goodWord (.methodLink "GateSteps" 104 ⟨"GateSteps$SignRow", "endsWithCheckLetter", "()Z"⟩ : Cond) = true := rfl
theorem wx_386 : goodWord (.instanceMethod ⟨"GateSteps$SignRow", "endsWithCheckLetter", "()Z"⟩ : Cond) = true := rfl
theorem wx_387 : goodWord (.selects "GateSteps$SignRow" ⟨"GateSteps$SignRow", "endsWithCheckLetter", "()Z"⟩ ⟨"GateSteps$SignRow", "endsWithCheckLetter", "()Z"⟩ : Cond) = true := rfl
theorem wx_388 : goodWord (.code ⟨"GateSteps$SignRow", "endsWithCheckLetter", "()Z"⟩ prog_5_method_5_code 1 (some .boolean) : Cond) = true := rfl
theorem wx_389 : goodWord (.methodLink "GateSteps$SignRow" 30 ⟨"GateSteps$SignRow", "checkLetter", "()I"⟩ : Cond) = true := rfl
theorem wx_390 : goodWord (.methodLink "GateSteps" 112 ⟨"GateSteps$Boxes", "hasNumber", "([I)Z"⟩ : Cond) = true := rfl
theorem wx_391 : goodWord (.instanceMethod ⟨"GateSteps$Boxes", "hasNumber", "([I)Z"⟩ : Cond) = true := rfl
theorem wx_392 : goodWord (.selects "GateSteps$Boxes" ⟨"GateSteps$Boxes", "hasNumber", "([I)Z"⟩ ⟨"GateSteps$Boxes", "hasNumber", "([I)Z"⟩ : Cond) = true := rfl
theorem wx_393 : goodWord (.code ⟨"GateSteps$Boxes", "hasNumber", "([I)Z"⟩ prog_3_method_3_code 3 (some .boolean) : Cond) = true := rfl
theorem wx_394 : goodWord (.methodLink "GateSteps$Boxes" 33 ⟨"GateSteps$Boxes", "isNumberOf", "(I[I)Z"⟩ : Cond) = true := rfl
theorem wx_395 : goodWord (.privateMethod ⟨"GateSteps$Boxes", "isNumberOf", "(I[I)Z"⟩ : Cond) = true := rfl
theorem wx_396 : goodWord (.instanceMethod ⟨"GateSteps$Boxes", "isNumberOf", "(I[I)Z"⟩ : Cond) = true := rfl
theorem wx_397 : goodWord (.code ⟨"GateSteps$Boxes", "isNumberOf", "(I[I)Z"⟩ prog_3_method_4_code 4 (some .boolean) : Cond) = true := rfl
theorem wx_398 : goodWord (.methodLink "GateSteps" 116 ⟨"GateSteps$Boxes", "add", "([IIZ)I"⟩ : Cond) = true := rfl
theorem wx_399 : goodWord (.instanceMethod ⟨"GateSteps$Boxes", "add", "([IIZ)I"⟩ : Cond) = true := rfl
theorem wx_400 : goodWord (.selects "GateSteps$Boxes" ⟨"GateSteps$Boxes", "add", "([IIZ)I"⟩ ⟨"GateSteps$Boxes", "add", "([IIZ)I"⟩ : Cond) = true := rfl
theorem wx_401 : goodWord (.code ⟨"GateSteps$Boxes", "add", "([IIZ)I"⟩ prog_3_method_2_code 6 (some .int) : Cond) = true := rfl
theorem wx_402 : goodWord (.methodLink "GateSteps$Boxes" 29 ⟨"GateSteps$Boxes", "judge", "(III)V"⟩ : Cond) = true := rfl
theorem wx_403 : goodWord (.instanceMethod ⟨"GateSteps$Boxes", "judge", "(III)V"⟩ : Cond) = true := rfl
theorem wx_404 : goodWord (.selects "GateSteps$Boxes" ⟨"GateSteps$Boxes", "judge", "(III)V"⟩ ⟨"GateSteps$Boxes", "judge", "(III)V"⟩ : Cond) = true := rfl
theorem wx_405 : goodWord (.code ⟨"GateSteps$Boxes", "judge", "(III)V"⟩ prog_3_method_5_code 4 none : Cond) = true := rfl
theorem wx_406 : goodWord (.methodLink "GateStepsLaw" 81 ⟨"GateStepsLaw", "check", "(LGateSteps;III[J)I"⟩ : Cond) = true := rfl
theorem wx_407 : goodWord (.static ⟨"GateStepsLaw", "check", "(LGateSteps;III[J)I"⟩ : Cond) = true := rfl
theorem wx_408 : goodWord (.codeWith ⟨"GateStepsLaw", "check", "(LGateSteps;III[J)I"⟩ method_5_code 6 (some .int) [(0, 12, 15, 25), (0, 12, 19, 13)] : Cond) = true := rfl
theorem wx_409 : goodWord (.classLink "GateStepsLaw" 25 "java/lang/IndexOutOfBoundsException" : Cond) = true := rfl
theorem wx_410 : goodWord (.methodLink "GateStepsLaw" 21 ⟨"GateSteps", "check", "(III)I"⟩ : Cond) = true := rfl
theorem wx_411 : goodWord (.instanceMethod ⟨"GateSteps", "check", "(III)I"⟩ : Cond) = true := rfl
theorem wx_412 : goodWord (.selects "GateSteps" ⟨"GateSteps", "check", "(III)I"⟩ ⟨"GateSteps", "check", "(III)I"⟩ : Cond) = true := rfl
theorem wx_413 : goodWord (.code ⟨"GateSteps", "check", "(III)I"⟩ prog_1_method_6_code 4 (some .int) : Cond) = true := rfl
theorem wx_414 : goodWord (.stringRef "GateSteps" 119 "no such kind" : Cond) = true := rfl
theorem wx_415 : goodWord (.methodLink "GateSteps" 121 ⟨"GateSteps", "needBox", "(I)V"⟩ : Cond) = true := rfl
theorem wx_416 : goodWord (.privateMethod ⟨"GateSteps", "needBox", "(I)V"⟩ : Cond) = true := rfl
theorem wx_417 : goodWord (.instanceMethod ⟨"GateSteps", "needBox", "(I)V"⟩ : Cond) = true := rfl
theorem wx_418 : goodWord (.code ⟨"GateSteps", "needBox", "(I)V"⟩ prog_1_method_24_code 2 none : Cond) = true := rfl
theorem wx_419 : goodWord (.classLink "GateSteps" 193 "java/lang/IndexOutOfBoundsException" : Cond) = true := rfl
theorem wx_420 : goodWord (.instantiable "java/lang/IndexOutOfBoundsException" 6 : Cond) = true := rfl
theorem wx_421 : goodWord (.castable "java/lang/IndexOutOfBoundsException" "java/lang/IndexOutOfBoundsException" : Cond) = true := rfl
theorem wx_422 : goodWord (.selects "java/lang/IndexOutOfBoundsException" ⟨"java/lang/Throwable", "fillInStackTrace", "(I)Ljava/lang/Throwable;"⟩ ⟨"java/lang/Throwable", "fillInStackTrace", "(I)Ljava/lang/Throwable;"⟩ : Cond) = true := rfl
theorem wx_423 : goodWord (.lays "java/lang/IndexOutOfBoundsException" "java/lang/Throwable" "cause" "Ljava/lang/Throwable;" : Cond) = true := rfl
theorem wx_424 : goodWord (.lays "java/lang/IndexOutOfBoundsException" "java/lang/Throwable" "stackTrace" "[Ljava/lang/StackTraceElement;" : Cond) = true := rfl
theorem wx_425 : goodWord (.lays "java/lang/IndexOutOfBoundsException" "java/lang/Throwable" "suppressedExceptions" "Ljava/util/List;" : Cond) = true := rfl
theorem wx_426 : goodWord (.lays "java/lang/IndexOutOfBoundsException" "java/lang/Throwable" "detailMessage" "Ljava/lang/String;" : Cond) = true := rfl
theorem wx_427 : goodWord (.lays "java/lang/IndexOutOfBoundsException" "java/lang/Throwable" "backtrace" "Ljava/lang/Object;" : Cond) = true := rfl
theorem wx_428 : goodWord (.stringRef "GateSteps" 259 "no such box" : Cond) = true := rfl
theorem wx_429 : goodWord (.methodLink "GateSteps" 197 ⟨"java/lang/IndexOutOfBoundsException", "<init>", "(Ljava/lang/String;)V"⟩ : Cond) = true := rfl
theorem wx_430 : goodWord (.instanceMethod ⟨"java/lang/IndexOutOfBoundsException", "<init>", "(Ljava/lang/String;)V"⟩ : Cond) = true := rfl
theorem wx_431 : goodWord (.code ⟨"java/lang/IndexOutOfBoundsException", "<init>", "(Ljava/lang/String;)V"⟩ prog_13_method_2_code 2 none : Cond) = true := rfl
theorem wx_432 : goodWord (.methodLink "java/lang/IndexOutOfBoundsException" 7 ⟨"java/lang/RuntimeException", "<init>", "(Ljava/lang/String;)V"⟩ : Cond) = true := rfl
theorem wx_433 : goodWord (.lays "java/lang/IndexOutOfBoundsException" "java/lang/Throwable" "depth" "I" : Cond) = true := rfl
theorem wx_434 : goodWord (.superclass "java/lang/IndexOutOfBoundsException" "java/lang/RuntimeException" : Cond) = true := rfl
theorem wx_435 : goodWord (.methodLink "GateSteps" 124 ⟨"GateSteps", "needTruck", "(I)V"⟩ : Cond) = true := rfl
theorem wx_436 : goodWord (.privateMethod ⟨"GateSteps", "needTruck", "(I)V"⟩ : Cond) = true := rfl
theorem wx_437 : goodWord (.instanceMethod ⟨"GateSteps", "needTruck", "(I)V"⟩ : Cond) = true := rfl
theorem wx_438 : goodWord (.code ⟨"GateSteps", "needTruck", "(I)V"⟩ prog_1_method_23_code 2 none : Cond) = true := rfl
theorem wx_439 : goodWord (.stringRef "GateSteps" 257 "no such truck" : Cond) = true := rfl
theorem wx_440 : goodWord (.methodLink "GateSteps" 127 ⟨"GateSteps", "canBe", "(II)Z"⟩ : Cond) = true := rfl
theorem wx_441 : goodWord (.static ⟨"GateSteps", "canBe", "(II)Z"⟩ : Cond) = true := rfl
theorem wx_442 : goodWord (.code ⟨"GateSteps", "canBe", "(II)Z"⟩ prog_1_method_21_code 2 (some .boolean) : Cond) = true := rfl
theorem wx_443 : goodWord (.stringRef "GateSteps" 131 "no such verdict" : Cond) = true := rfl
theorem wx_444 : goodWord (.methodLink "GateSteps" 133 ⟨"GateSteps$Trucks", "judge", "(III)V"⟩ : Cond) = true := rfl
theorem wx_445 : goodWord (.instanceMethod ⟨"GateSteps$Trucks", "judge", "(III)V"⟩ : Cond) = true := rfl
theorem wx_446 : goodWord (.selects "GateSteps$Trucks" ⟨"GateSteps$Trucks", "judge", "(III)V"⟩ ⟨"GateSteps$Trucks", "judge", "(III)V"⟩ : Cond) = true := rfl
theorem wx_447 : goodWord (.code ⟨"GateSteps$Trucks", "judge", "(III)V"⟩ prog_7_method_2_code 4 none : Cond) = true := rfl
theorem wx_448 : goodWord (.methodLink "GateSteps" 137 ⟨"GateSteps$Boxes", "judge", "(III)V"⟩ : Cond) = true := rfl
theorem wx_449 : goodWord (.methodLink "GateSteps" 138 ⟨"GateSteps", "withdraw", "(I)I"⟩ : Cond) = true := rfl
theorem wx_450 : goodWord (.privateMethod ⟨"GateSteps", "withdraw", "(I)I"⟩ : Cond) = true := rfl
theorem wx_451 : goodWord (.instanceMethod ⟨"GateSteps", "withdraw", "(I)I"⟩ : Cond) = true := rfl
theorem wx_452 : goodWord (.code ⟨"GateSteps", "withdraw", "(I)I"⟩ prog_1_method_37_code 3 (some .int) : Cond) = true := rfl
theorem wx_453 : goodWord (.methodLink "GateSteps" 292 ⟨"GateSteps$Bookings", "inWithBox", "(I)I"⟩ : Cond) = true := rfl
theorem wx_454 : goodWord (.instanceMethod ⟨"GateSteps$Bookings", "inWithBox", "(I)I"⟩ : Cond) = true := rfl
theorem wx_455 : goodWord (.selects "GateSteps$Bookings" ⟨"GateSteps$Bookings", "inWithBox", "(I)I"⟩ ⟨"GateSteps$Bookings", "inWithBox", "(I)I"⟩ : Cond) = true := rfl
theorem wx_456 : goodWord (.code ⟨"GateSteps$Bookings", "inWithBox", "(I)I"⟩ prog_2_method_5_code 3 (some .int) : Cond) = true := rfl
theorem wx_457 : goodWord (.methodLink "GateSteps" 202 ⟨"GateSteps$Lane", "remove", "(I)V"⟩ : Cond) = true := rfl
theorem wx_458 : goodWord (.instanceMethod ⟨"GateSteps$Lane", "remove", "(I)V"⟩ : Cond) = true := rfl
theorem wx_459 : goodWord (.selects "GateSteps$Lane" ⟨"GateSteps$Lane", "remove", "(I)V"⟩ ⟨"GateSteps$Lane", "remove", "(I)V"⟩ : Cond) = true := rfl
theorem wx_460 : goodWord (.code ⟨"GateSteps$Lane", "remove", "(I)V"⟩ prog_4_method_4_code 4 none : Cond) = true := rfl
theorem wx_461 : goodWord (.methodLink "GateSteps" 217 ⟨"GateSteps", "end", "(I)V"⟩ : Cond) = true := rfl
theorem wx_462 : goodWord (.privateMethod ⟨"GateSteps", "end", "(I)V"⟩ : Cond) = true := rfl
theorem wx_463 : goodWord (.instanceMethod ⟨"GateSteps", "end", "(I)V"⟩ : Cond) = true := rfl
theorem wx_464 : goodWord (.code ⟨"GateSteps", "end", "(I)V"⟩ prog_1_method_36_code 2 none : Cond) = true := rfl
theorem wx_465 : goodWord (.methodLink "GateStepsLaw" 85 ⟨"GateStepsLaw", "book", "(LGateSteps;III[J)I"⟩ : Cond) = true := rfl
theorem wx_466 : goodWord (.static ⟨"GateStepsLaw", "book", "(LGateSteps;III[J)I"⟩ : Cond) = true := rfl
theorem wx_467 : goodWord (.codeWith ⟨"GateStepsLaw", "book", "(LGateSteps;III[J)I"⟩ method_6_code 6 (some .int) [(0, 12, 15, 25), (0, 12, 19, 15)] : Cond) = true := rfl
theorem wx_468 : goodWord (.methodLink "GateStepsLaw" 27 ⟨"GateSteps", "book", "(III)I"⟩ : Cond) = true := rfl
theorem wx_469 : goodWord (.instanceMethod ⟨"GateSteps", "book", "(III)I"⟩ : Cond) = true := rfl
theorem wx_470 : goodWord (.selects "GateSteps" ⟨"GateSteps", "book", "(III)I"⟩ ⟨"GateSteps", "book", "(III)I"⟩ : Cond) = true := rfl
theorem wx_471 : goodWord (.code ⟨"GateSteps", "book", "(III)I"⟩ prog_1_method_7_code 4 (some .int) : Cond) = true := rfl
theorem wx_472 : goodWord (.methodLink "GateSteps" 142 ⟨"GateSteps", "needSlot", "(I)V"⟩ : Cond) = true := rfl
theorem wx_473 : goodWord (.privateMethod ⟨"GateSteps", "needSlot", "(I)V"⟩ : Cond) = true := rfl
theorem wx_474 : goodWord (.instanceMethod ⟨"GateSteps", "needSlot", "(I)V"⟩ : Cond) = true := rfl
theorem wx_475 : goodWord (.code ⟨"GateSteps", "needSlot", "(I)V"⟩ prog_1_method_22_code 2 none : Cond) = true := rfl
theorem wx_476 : goodWord (.stringRef "GateSteps" 255 "no such slot" : Cond) = true := rfl
theorem wx_477 : goodWord (.stringRef "GateSteps" 146 "no more bookings" : Cond) = true := rfl
theorem wx_478 : goodWord (.methodLink "GateSteps" 148 ⟨"GateSteps$Bookings", "holdsBox", "(I)Z"⟩ : Cond) = true := rfl
theorem wx_479 : goodWord (.instanceMethod ⟨"GateSteps$Bookings", "holdsBox", "(I)Z"⟩ : Cond) = true := rfl
theorem wx_480 : goodWord (.selects "GateSteps$Bookings" ⟨"GateSteps$Bookings", "holdsBox", "(I)Z"⟩ ⟨"GateSteps$Bookings", "holdsBox", "(I)Z"⟩ : Cond) = true := rfl
theorem wx_481 : goodWord (.code ⟨"GateSteps$Bookings", "holdsBox", "(I)Z"⟩ prog_2_method_3_code 3 (some .boolean) : Cond) = true := rfl
theorem wx_482 : goodWord (.methodLink "GateSteps" 151 ⟨"GateSteps$Slots", "hasRoom", "(I)Z"⟩ : Cond) = true := rfl
theorem wx_483 : goodWord (.instanceMethod ⟨"GateSteps$Slots", "hasRoom", "(I)Z"⟩ : Cond) = true := rfl
theorem wx_484 : goodWord (.selects "GateSteps$Slots" ⟨"GateSteps$Slots", "hasRoom", "(I)Z"⟩ ⟨"GateSteps$Slots", "hasRoom", "(I)Z"⟩ : Cond) = true := rfl
theorem wx_485 : goodWord (.code ⟨"GateSteps$Slots", "hasRoom", "(I)Z"⟩ prog_6_method_3_code 2 (some .boolean) : Cond) = true := rfl
theorem wx_486 : goodWord (.methodLink "GateSteps" 154 ⟨"GateSteps", "otherSlot", "(I)I"⟩ : Cond) = true := rfl
theorem wx_487 : goodWord (.privateMethod ⟨"GateSteps", "otherSlot", "(I)I"⟩ : Cond) = true := rfl
theorem wx_488 : goodWord (.instanceMethod ⟨"GateSteps", "otherSlot", "(I)I"⟩ : Cond) = true := rfl
theorem wx_489 : goodWord (.code ⟨"GateSteps", "otherSlot", "(I)I"⟩ prog_1_method_27_code 2 (some .int) : Cond) = true := rfl
theorem wx_490 : goodWord (.methodLink "GateSteps" 265 ⟨"GateSteps$Slots", "nextWithRoom", "(I)I"⟩ : Cond) = true := rfl
theorem wx_491 : goodWord (.instanceMethod ⟨"GateSteps$Slots", "nextWithRoom", "(I)I"⟩ : Cond) = true := rfl
theorem wx_492 : goodWord (.selects "GateSteps$Slots" ⟨"GateSteps$Slots", "nextWithRoom", "(I)I"⟩ ⟨"GateSteps$Slots", "nextWithRoom", "(I)I"⟩ : Cond) = true := rfl
theorem wx_493 : goodWord (.code ⟨"GateSteps$Slots", "nextWithRoom", "(I)I"⟩ prog_6_method_4_code 3 (some .int) : Cond) = true := rfl
theorem wx_494 : goodWord (.methodLink "GateSteps$Slots" 22 ⟨"GateSteps$Slots", "hasRoom", "(I)Z"⟩ : Cond) = true := rfl
theorem wx_495 : goodWord (.methodLink "GateSteps" 160 ⟨"GateSteps$Bookings", "add", "(III)I"⟩ : Cond) = true := rfl
theorem wx_496 : goodWord (.instanceMethod ⟨"GateSteps$Bookings", "add", "(III)I"⟩ : Cond) = true := rfl
theorem wx_497 : goodWord (.selects "GateSteps$Bookings" ⟨"GateSteps$Bookings", "add", "(III)I"⟩ ⟨"GateSteps$Bookings", "add", "(III)I"⟩ : Cond) = true := rfl
theorem wx_498 : goodWord (.code ⟨"GateSteps$Bookings", "add", "(III)I"⟩ prog_2_method_2_code 4 (some .int) : Cond) = true := rfl
theorem wx_499 : goodWord (.methodLink "GateStepsLaw" 88 ⟨"GateStepsLaw", "through", "(LGateSteps;II[J)I"⟩ : Cond) = true := rfl
theorem wx_500 : goodWord (.static ⟨"GateStepsLaw", "through", "(LGateSteps;II[J)I"⟩ : Cond) = true := rfl
theorem wx_501 : goodWord (.codeWith ⟨"GateStepsLaw", "through", "(LGateSteps;II[J)I"⟩ method_7_code 5 (some .int) [(0, 10, 13, 25), (0, 10, 17, 13)] : Cond) = true := rfl
theorem wx_502 : goodWord (.methodLink "GateStepsLaw" 30 ⟨"GateSteps", "through", "(II)I"⟩ : Cond) = true := rfl
theorem wx_503 : goodWord (.instanceMethod ⟨"GateSteps", "through", "(II)I"⟩ : Cond) = true := rfl
theorem wx_504 : goodWord (.selects "GateSteps" ⟨"GateSteps", "through", "(II)I"⟩ ⟨"GateSteps", "through", "(II)I"⟩ : Cond) = true := rfl
theorem wx_505 : goodWord (.code ⟨"GateSteps", "through", "(II)I"⟩ prog_1_method_8_code 4 (some .int) : Cond) = true := rfl
theorem wx_506 : goodWord (.methodLink "GateSteps" 163 ⟨"GateSteps", "needBooking", "(I)V"⟩ : Cond) = true := rfl
theorem wx_507 : goodWord (.privateMethod ⟨"GateSteps", "needBooking", "(I)V"⟩ : Cond) = true := rfl
theorem wx_508 : goodWord (.instanceMethod ⟨"GateSteps", "needBooking", "(I)V"⟩ : Cond) = true := rfl
theorem wx_509 : goodWord (.code ⟨"GateSteps", "needBooking", "(I)V"⟩ prog_1_method_25_code 2 none : Cond) = true := rfl
theorem wx_510 : goodWord (.stringRef "GateSteps" 261 "no such booking" : Cond) = true := rfl
theorem wx_511 : goodWord (.methodLink "GateSteps" 166 ⟨"GateSteps", "needTime", "(I)V"⟩ : Cond) = true := rfl
theorem wx_512 : goodWord (.privateMethod ⟨"GateSteps", "needTime", "(I)V"⟩ : Cond) = true := rfl
theorem wx_513 : goodWord (.instanceMethod ⟨"GateSteps", "needTime", "(I)V"⟩ : Cond) = true := rfl
theorem wx_514 : goodWord (.code ⟨"GateSteps", "needTime", "(I)V"⟩ prog_1_method_26_code 2 none : Cond) = true := rfl
theorem wx_515 : goodWord (.stringRef "GateSteps" 263 "no such time" : Cond) = true := rfl
theorem wx_516 : goodWord (.methodLink "GateSteps" 172 ⟨"GateSteps", "firstBar", "(I)I"⟩ : Cond) = true := rfl
theorem wx_517 : goodWord (.privateMethod ⟨"GateSteps", "firstBar", "(I)I"⟩ : Cond) = true := rfl
theorem wx_518 : goodWord (.instanceMethod ⟨"GateSteps", "firstBar", "(I)I"⟩ : Cond) = true := rfl
theorem wx_519 : goodWord (.code ⟨"GateSteps", "firstBar", "(I)I"⟩ prog_1_method_30_code 5 (some .int) : Cond) = true := rfl
theorem wx_520 : goodWord (.methodLink "GateSteps" 268 ⟨"GateSteps", "isAhead", "(I)Z"⟩ : Cond) = true := rfl
theorem wx_521 : goodWord (.privateMethod ⟨"GateSteps", "isAhead", "(I)Z"⟩ : Cond) = true := rfl
theorem wx_522 : goodWord (.instanceMethod ⟨"GateSteps", "isAhead", "(I)Z"⟩ : Cond) = true := rfl
theorem wx_523 : goodWord (.code ⟨"GateSteps", "isAhead", "(I)Z"⟩ prog_1_method_28_code 2 (some .boolean) : Cond) = true := rfl
theorem wx_524 : goodWord (.methodLink "GateSteps" 214 ⟨"GateSteps", "isOver", "(I)Z"⟩ : Cond) = true := rfl
theorem wx_525 : goodWord (.privateMethod ⟨"GateSteps", "isOver", "(I)Z"⟩ : Cond) = true := rfl
theorem wx_526 : goodWord (.instanceMethod ⟨"GateSteps", "isOver", "(I)Z"⟩ : Cond) = true := rfl
theorem wx_527 : goodWord (.code ⟨"GateSteps", "isOver", "(I)Z"⟩ prog_1_method_29_code 2 (some .boolean) : Cond) = true := rfl
theorem wx_528 : goodWord (.methodLink "GateSteps" 271 ⟨"GateSteps$Trucks", "verdictOf", "(II)I"⟩ : Cond) = true := rfl
theorem wx_529 : goodWord (.instanceMethod ⟨"GateSteps$Trucks", "verdictOf", "(II)I"⟩ : Cond) = true := rfl
theorem wx_530 : goodWord (.selects "GateSteps$Trucks" ⟨"GateSteps$Trucks", "verdictOf", "(II)I"⟩ ⟨"GateSteps$Trucks", "verdictOf", "(II)I"⟩ : Cond) = true := rfl
theorem wx_531 : goodWord (.code ⟨"GateSteps$Trucks", "verdictOf", "(II)I"⟩ prog_7_method_3_code 3 (some .int) : Cond) = true := rfl
theorem wx_532 : goodWord (.methodLink "GateSteps" 274 ⟨"GateSteps", "firstBarOfBox", "(I)I"⟩ : Cond) = true := rfl
theorem wx_533 : goodWord (.privateMethod ⟨"GateSteps", "firstBarOfBox", "(I)I"⟩ : Cond) = true := rfl
theorem wx_534 : goodWord (.instanceMethod ⟨"GateSteps", "firstBarOfBox", "(I)I"⟩ : Cond) = true := rfl
theorem wx_535 : goodWord (.code ⟨"GateSteps", "firstBarOfBox", "(I)I"⟩ prog_1_method_31_code 2 (some .int) : Cond) = true := rfl
theorem wx_536 : goodWord (.methodLink "GateSteps" 280 ⟨"GateSteps$Boxes", "verdictOf", "(II)I"⟩ : Cond) = true := rfl
theorem wx_537 : goodWord (.instanceMethod ⟨"GateSteps$Boxes", "verdictOf", "(II)I"⟩ : Cond) = true := rfl
theorem wx_538 : goodWord (.selects "GateSteps$Boxes" ⟨"GateSteps$Boxes", "verdictOf", "(II)I"⟩ ⟨"GateSteps$Boxes", "verdictOf", "(II)I"⟩ : Cond) = true := rfl
theorem wx_539 : goodWord (.code ⟨"GateSteps$Boxes", "verdictOf", "(II)I"⟩ prog_3_method_6_code 3 (some .int) : Cond) = true := rfl
theorem wx_540 : goodWord (.methodLink "GateSteps" 277 ⟨"GateSteps$Bookings", "holdsTruckIn", "(I)Z"⟩ : Cond) = true := rfl
theorem wx_541 : goodWord (.instanceMethod ⟨"GateSteps$Bookings", "holdsTruckIn", "(I)Z"⟩ : Cond) = true := rfl
theorem wx_542 : goodWord (.selects "GateSteps$Bookings" ⟨"GateSteps$Bookings", "holdsTruckIn", "(I)Z"⟩ ⟨"GateSteps$Bookings", "holdsTruckIn", "(I)Z"⟩ : Cond) = true := rfl
theorem wx_543 : goodWord (.code ⟨"GateSteps$Bookings", "holdsTruckIn", "(I)Z"⟩ prog_2_method_4_code 3 (some .boolean) : Cond) = true := rfl
theorem wx_544 : goodWord (.methodLink "GateSteps" 184 ⟨"GateSteps", "laneFor", "(I)I"⟩ : Cond) = true := rfl
theorem wx_545 : goodWord (.privateMethod ⟨"GateSteps", "laneFor", "(I)I"⟩ : Cond) = true := rfl
theorem wx_546 : goodWord (.instanceMethod ⟨"GateSteps", "laneFor", "(I)I"⟩ : Cond) = true := rfl
theorem wx_547 : goodWord (.code ⟨"GateSteps", "laneFor", "(I)I"⟩ prog_1_method_32_code 2 (some .int) : Cond) = true := rfl
theorem wx_548 : goodWord (.methodLink "GateSteps" 187 ⟨"GateSteps", "joinLane", "(II)V"⟩ : Cond) = true := rfl
theorem wx_549 : goodWord (.privateMethod ⟨"GateSteps", "joinLane", "(II)V"⟩ : Cond) = true := rfl
theorem wx_550 : goodWord (.instanceMethod ⟨"GateSteps", "joinLane", "(II)V"⟩ : Cond) = true := rfl
theorem wx_551 : goodWord (.code ⟨"GateSteps", "joinLane", "(II)V"⟩ prog_1_method_33_code 3 none : Cond) = true := rfl
theorem wx_552 : goodWord (.methodLink "GateSteps" 285 ⟨"GateSteps$Lane", "add", "(I)V"⟩ : Cond) = true := rfl
theorem wx_553 : goodWord (.instanceMethod ⟨"GateSteps$Lane", "add", "(I)V"⟩ : Cond) = true := rfl
theorem wx_554 : goodWord (.selects "GateSteps$Lane" ⟨"GateSteps$Lane", "add", "(I)V"⟩ ⟨"GateSteps$Lane", "add", "(I)V"⟩ : Cond) = true := rfl
theorem wx_555 : goodWord (.code ⟨"GateSteps$Lane", "add", "(I)V"⟩ prog_4_method_2_code 2 none : Cond) = true := rfl
theorem wx_556 : goodWord (.methodLink "GateStepsLaw" 92 ⟨"GateStepsLaw", "weigh", "(LGateSteps;III[J)I"⟩ : Cond) = true := rfl
theorem wx_557 : goodWord (.static ⟨"GateStepsLaw", "weigh", "(LGateSteps;III[J)I"⟩ : Cond) = true := rfl
theorem wx_558 : goodWord (.codeWith ⟨"GateStepsLaw", "weigh", "(LGateSteps;III[J)I"⟩ method_8_code 6 (some .int) [(0, 12, 15, 25), (0, 12, 19, 13)] : Cond) = true := rfl
theorem wx_559 : goodWord (.methodLink "GateStepsLaw" 34 ⟨"GateSteps", "weigh", "(III)I"⟩ : Cond) = true := rfl
theorem wx_560 : goodWord (.instanceMethod ⟨"GateSteps", "weigh", "(III)I"⟩ : Cond) = true := rfl
theorem wx_561 : goodWord (.selects "GateSteps" ⟨"GateSteps", "weigh", "(III)I"⟩ ⟨"GateSteps", "weigh", "(III)I"⟩ : Cond) = true := rfl
theorem wx_562 : goodWord (.code ⟨"GateSteps", "weigh", "(III)I"⟩ prog_1_method_9_code 5 (some .int) : Cond) = true := rfl
theorem wx_563 : goodWord (.stringRef "GateSteps" 195 "no such lane" : Cond) = true := rfl
theorem wx_564 : goodWord (.constant "GateSteps" 198 200000 : Cond) = true := rfl
theorem wx_565 : goodWord (.methodLink "GateSteps" 205 ⟨"GateSteps", "isWithinTolerance", "(II)Z"⟩ : Cond) = true := rfl
theorem wx_566 : goodWord (.privateMethod ⟨"GateSteps", "isWithinTolerance", "(II)Z"⟩ : Cond) = true := rfl
theorem wx_567 : goodWord (.instanceMethod ⟨"GateSteps", "isWithinTolerance", "(II)Z"⟩ : Cond) = true := rfl
theorem wx_568 : goodWord (.code ⟨"GateSteps", "isWithinTolerance", "(II)Z"⟩ prog_1_method_34_code 4 (some .boolean) : Cond) = true := rfl
theorem wx_569 : goodWord (.methodLink "GateSteps" 289 ⟨"java/lang/Math", "abs", "(I)I"⟩ : Cond) = true := rfl
theorem wx_570 : goodWord (.static ⟨"java/lang/Math", "abs", "(I)I"⟩ : Cond) = true := rfl
theorem wx_571 : goodWord (.code ⟨"java/lang/Math", "abs", "(I)I"⟩ prog_14_method_59_code 1 (some .int) : Cond) = true := rfl
theorem wx_572 : goodWord (.methodLink "GateSteps" 208 ⟨"GateSteps", "finish", "(I)V"⟩ : Cond) = true := rfl
theorem wx_573 : goodWord (.privateMethod ⟨"GateSteps", "finish", "(I)V"⟩ : Cond) = true := rfl
theorem wx_574 : goodWord (.instanceMethod ⟨"GateSteps", "finish", "(I)V"⟩ : Cond) = true := rfl
theorem wx_575 : goodWord (.code ⟨"GateSteps", "finish", "(I)V"⟩ prog_1_method_35_code 3 none : Cond) = true := rfl
theorem wx_576 : goodWord (.methodLink "GateStepsLaw" 100 ⟨"GateStepsLaw", "noShow", "(LGateSteps;I[J)I"⟩ : Cond) = true := rfl
theorem wx_577 : goodWord (.static ⟨"GateStepsLaw", "noShow", "(LGateSteps;I[J)I"⟩ : Cond) = true := rfl
theorem wx_578 : goodWord (.codeWith ⟨"GateStepsLaw", "noShow", "(LGateSteps;I[J)I"⟩ method_9_code 4 (some .int) [(0, 9, 12, 13)] : Cond) = true := rfl
theorem wx_579 : goodWord (.methodLink "GateStepsLaw" 37 ⟨"GateSteps", "noShow", "(I)I"⟩ : Cond) = true := rfl
theorem wx_580 : goodWord (.instanceMethod ⟨"GateSteps", "noShow", "(I)I"⟩ : Cond) = true := rfl
theorem wx_581 : goodWord (.selects "GateSteps" ⟨"GateSteps", "noShow", "(I)I"⟩ ⟨"GateSteps", "noShow", "(I)I"⟩ : Cond) = true := rfl
theorem wx_582 : goodWord (.code ⟨"GateSteps", "noShow", "(I)I"⟩ prog_1_method_11_code 4 (some .int) : Cond) = true := rfl
theorem wx_583 : goodWord (.methodLink "GateStepsLaw" 103 ⟨"GateStepsLaw", "change", "(LGateSteps;II[J)I"⟩ : Cond) = true := rfl
theorem wx_584 : goodWord (.static ⟨"GateStepsLaw", "change", "(LGateSteps;II[J)I"⟩ : Cond) = true := rfl
theorem wx_585 : goodWord (.codeWith ⟨"GateStepsLaw", "change", "(LGateSteps;II[J)I"⟩ method_10_code 5 (some .int) [(0, 10, 13, 25)] : Cond) = true := rfl
theorem wx_586 : goodWord (.methodLink "GateStepsLaw" 40 ⟨"GateSteps", "change", "(II)I"⟩ : Cond) = true := rfl
theorem wx_587 : goodWord (.instanceMethod ⟨"GateSteps", "change", "(II)I"⟩ : Cond) = true := rfl
theorem wx_588 : goodWord (.selects "GateSteps" ⟨"GateSteps", "change", "(II)I"⟩ ⟨"GateSteps", "change", "(II)I"⟩ : Cond) = true := rfl
theorem wx_589 : goodWord (.code ⟨"GateSteps", "change", "(II)I"⟩ prog_1_method_12_code 4 (some .int) : Cond) = true := rfl
theorem wx_590 : goodWord (.methodLink "GateStepsLaw" 110 ⟨"GateStepsLaw", "look", "(LGateSteps;II[J)I"⟩ : Cond) = true := rfl
theorem wx_591 : goodWord (.static ⟨"GateStepsLaw", "look", "(LGateSteps;II[J)I"⟩ : Cond) = true := rfl
theorem wx_592 : goodWord (.codeWith ⟨"GateStepsLaw", "look", "(LGateSteps;II[J)I"⟩ method_11_code 5 (some .int) [(0, 10, 13, 25)] : Cond) = true := rfl
theorem wx_593 : goodWord (.methodLink "GateStepsLaw" 43 ⟨"GateSteps", "look", "(II)I"⟩ : Cond) = true := rfl
theorem wx_594 : goodWord (.instanceMethod ⟨"GateSteps", "look", "(II)I"⟩ : Cond) = true := rfl
theorem wx_595 : goodWord (.selects "GateSteps" ⟨"GateSteps", "look", "(II)I"⟩ ⟨"GateSteps", "look", "(II)I"⟩ : Cond) = true := rfl
theorem wx_596 : goodWord (.code ⟨"GateSteps", "look", "(II)I"⟩ prog_1_method_14_code 3 (some .int) : Cond) = true := rfl
theorem wx_597 : goodWord (.stringRef "GateSteps" 229 "nothing such of a booking" : Cond) = true := rfl
theorem wx_598 : goodWord (.methodLink "GateStepsLaw" 113 ⟨"GateStepsLaw", "at", "(LGateSteps;II[J)I"⟩ : Cond) = true := rfl
theorem wx_599 : goodWord (.static ⟨"GateStepsLaw", "at", "(LGateSteps;II[J)I"⟩ : Cond) = true := rfl
theorem wx_600 : goodWord (.codeWith ⟨"GateStepsLaw", "at", "(LGateSteps;II[J)I"⟩ method_12_code 5 (some .int) [(0, 10, 13, 25)] : Cond) = true := rfl
theorem wx_601 : goodWord (.methodLink "GateStepsLaw" 46 ⟨"GateSteps", "at", "(II)I"⟩ : Cond) = true := rfl
theorem wx_602 : goodWord (.instanceMethod ⟨"GateSteps", "at", "(II)I"⟩ : Cond) = true := rfl
theorem wx_603 : goodWord (.selects "GateSteps" ⟨"GateSteps", "at", "(II)I"⟩ ⟨"GateSteps", "at", "(II)I"⟩ : Cond) = true := rfl
theorem wx_604 : goodWord (.code ⟨"GateSteps", "at", "(II)I"⟩ prog_1_method_15_code 3 (some .int) : Cond) = true := rfl
theorem wx_605 : goodWord (.stringRef "GateSteps" 231 "no such place" : Cond) = true := rfl
theorem wx_606 : goodWord (.classLink "GateStepsLaw" 58 "GateStepsModel" : Cond) = true := rfl
theorem wx_607 : goodWord (.instantiable "GateStepsModel" 25 : Cond) = true := rfl
theorem wx_608 : goodWord (.methodLink "GateStepsLaw" 60 ⟨"GateStepsModel", "<init>", "(II)V"⟩ : Cond) = true := rfl
theorem wx_609 : goodWord (.instanceMethod ⟨"GateStepsModel", "<init>", "(II)V"⟩ : Cond) = true := rfl
theorem wx_610 : goodWord (.code ⟨"GateStepsModel", "<init>", "(II)V"⟩ prog_9_method_1_code 4 none : Cond) = true := rfl
theorem wx_611 : goodWord (.methodLink "GateStepsModel" 1 ⟨"java/lang/Object", "<init>", "()V"⟩ : Cond) = true := rfl
theorem wx_612 : goodWord (.fieldLink "GateStepsModel" 60 "GateStepsModel" "thrown" "I" : Cond) = true := rfl
theorem wx_613 : goodWord (.fieldLink "GateStepsModel" 54 "GateStepsModel" "slots" "I" : Cond) = true := rfl
theorem wx_614 : goodWord (.fieldLink "GateStepsModel" 57 "GateStepsModel" "most" "I" : Cond) = true := rfl
theorem wx_615 : goodWord (.fieldLink "GateStepsModel" 66 "GateStepsModel" "now" "I" : Cond) = true := rfl
theorem wx_616 : goodWord (.fieldLink "GateStepsModel" 7 "GateStepsModel" "row" "[I" : Cond) = true := rfl
theorem wx_617 : goodWord (.fieldLink "GateStepsModel" 70 "GateStepsModel" "signs" "I" : Cond) = true := rfl
theorem wx_618 : goodWord (.fieldLink "GateStepsModel" 88 "GateStepsModel" "boxes" "I" : Cond) = true := rfl
theorem wx_619 : goodWord (.fieldLink "GateStepsModel" 13 "GateStepsModel" "number" "[I" : Cond) = true := rfl
theorem wx_620 : goodWord (.fieldLink "GateStepsModel" 16 "GateStepsModel" "weight" "[I" : Cond) = true := rfl
theorem wx_621 : goodWord (.fieldLink "GateStepsModel" 19 "GateStepsModel" "dangerous" "[Z" : Cond) = true := rfl
theorem wx_622 : goodWord (.fieldLink "GateStepsModel" 23 "GateStepsModel" "verdict" "[I" : Cond) = true := rfl
theorem wx_623 : goodWord (.fieldLink "GateStepsModel" 63 "GateStepsModel" "bookings" "I" : Cond) = true := rfl
theorem wx_624 : goodWord (.fieldLink "GateStepsModel" 26 "GateStepsModel" "slot" "[I" : Cond) = true := rfl
theorem wx_625 : goodWord (.fieldLink "GateStepsModel" 29 "GateStepsModel" "truck" "[I" : Cond) = true := rfl
theorem wx_626 : goodWord (.fieldLink "GateStepsModel" 32 "GateStepsModel" "box" "[I" : Cond) = true := rfl
theorem wx_627 : goodWord (.fieldLink "GateStepsModel" 35 "GateStepsModel" "state" "[I" : Cond) = true := rfl
theorem wx_628 : goodWord (.fieldLink "GateStepsModel" 38 "GateStepsModel" "lane" "[I" : Cond) = true := rfl
theorem wx_629 : goodWord (.fieldLink "GateStepsModel" 41 "GateStepsModel" "order" "[I" : Cond) = true := rfl
theorem wx_630 : goodWord (.fieldLink "GateStepsModel" 44 "GateStepsModel" "since" "[I" : Cond) = true := rfl
theorem wx_631 : goodWord (.fieldLink "GateStepsModel" 47 "GateStepsModel" "turn" "[I" : Cond) = true := rfl
theorem wx_632 : goodWord (.fieldLink "GateStepsModel" 111 "GateStepsModel" "came" "I" : Cond) = true := rfl
theorem wx_633 : goodWord (.fieldLink "GateStepsModel" 50 "GateStepsModel" "tolerance" "I" : Cond) = true := rfl
theorem wx_634 : goodWord (.fieldLink "GateStepsModel" 136 "GateStepsModel" "longest" "I" : Cond) = true := rfl
theorem wx_635 : goodWord (.fieldLink "GateStepsModel" 139 "GateStepsModel" "together" "I" : Cond) = true := rfl
theorem wx_636 : goodWord (.fieldLink "GateStepsModel" 142 "GateStepsModel" "done" "I" : Cond) = true := rfl
theorem wx_637 : goodWord (.lays "GateStepsModel" "GateStepsModel" "thrown" "I" : Cond) = true := rfl
theorem wx_638 : goodWord (.soleField "GateStepsModel" "thrown" : Cond) = true := rfl
theorem wx_639 : goodWord (.laysFinal "GateStepsModel" "GateStepsModel" "slots" "I" : Cond) = true := rfl
theorem wx_640 : goodWord (.soleField "GateStepsModel" "slots" : Cond) = true := rfl
theorem wx_641 : goodWord (.laysFinal "GateStepsModel" "GateStepsModel" "most" "I" : Cond) = true := rfl
theorem wx_642 : goodWord (.soleField "GateStepsModel" "most" : Cond) = true := rfl
theorem wx_643 : goodWord (.lays "GateStepsModel" "GateStepsModel" "now" "I" : Cond) = true := rfl
theorem wx_644 : goodWord (.soleField "GateStepsModel" "now" : Cond) = true := rfl
theorem wx_645 : goodWord (.laysFinal "GateStepsModel" "GateStepsModel" "row" "[I" : Cond) = true := rfl
theorem wx_646 : goodWord (.soleField "GateStepsModel" "row" : Cond) = true := rfl
theorem wx_647 : goodWord (.lays "GateStepsModel" "GateStepsModel" "signs" "I" : Cond) = true := rfl
theorem wx_648 : goodWord (.soleField "GateStepsModel" "signs" : Cond) = true := rfl
theorem wx_649 : goodWord (.lays "GateStepsModel" "GateStepsModel" "boxes" "I" : Cond) = true := rfl
theorem wx_650 : goodWord (.soleField "GateStepsModel" "boxes" : Cond) = true := rfl
theorem wx_651 : goodWord (.laysFinal "GateStepsModel" "GateStepsModel" "number" "[I" : Cond) = true := rfl
theorem wx_652 : goodWord (.soleField "GateStepsModel" "number" : Cond) = true := rfl
theorem wx_653 : goodWord (.laysFinal "GateStepsModel" "GateStepsModel" "weight" "[I" : Cond) = true := rfl
theorem wx_654 : goodWord (.soleField "GateStepsModel" "weight" : Cond) = true := rfl
theorem wx_655 : goodWord (.laysFinal "GateStepsModel" "GateStepsModel" "dangerous" "[Z" : Cond) = true := rfl
theorem wx_656 : goodWord (.soleField "GateStepsModel" "dangerous" : Cond) = true := rfl
theorem wx_657 : goodWord (.laysFinal "GateStepsModel" "GateStepsModel" "verdict" "[I" : Cond) = true := rfl
theorem wx_658 : goodWord (.soleField "GateStepsModel" "verdict" : Cond) = true := rfl
theorem wx_659 : goodWord (.lays "GateStepsModel" "GateStepsModel" "bookings" "I" : Cond) = true := rfl
theorem wx_660 : goodWord (.soleField "GateStepsModel" "bookings" : Cond) = true := rfl
theorem wx_661 : goodWord (.laysFinal "GateStepsModel" "GateStepsModel" "slot" "[I" : Cond) = true := rfl
theorem wx_662 : goodWord (.soleField "GateStepsModel" "slot" : Cond) = true := rfl
theorem wx_663 : goodWord (.laysFinal "GateStepsModel" "GateStepsModel" "truck" "[I" : Cond) = true := rfl
theorem wx_664 : goodWord (.soleField "GateStepsModel" "truck" : Cond) = true := rfl
theorem wx_665 : goodWord (.laysFinal "GateStepsModel" "GateStepsModel" "box" "[I" : Cond) = true := rfl
theorem wx_666 : goodWord (.soleField "GateStepsModel" "box" : Cond) = true := rfl
theorem wx_667 : goodWord (.laysFinal "GateStepsModel" "GateStepsModel" "state" "[I" : Cond) = true := rfl
theorem wx_668 : goodWord (.soleField "GateStepsModel" "state" : Cond) = true := rfl
theorem wx_669 : goodWord (.laysFinal "GateStepsModel" "GateStepsModel" "lane" "[I" : Cond) = true := rfl
theorem wx_670 : goodWord (.soleField "GateStepsModel" "lane" : Cond) = true := rfl
theorem wx_671 : goodWord (.laysFinal "GateStepsModel" "GateStepsModel" "order" "[I" : Cond) = true := rfl
theorem wx_672 : goodWord (.soleField "GateStepsModel" "order" : Cond) = true := rfl
theorem wx_673 : goodWord (.laysFinal "GateStepsModel" "GateStepsModel" "since" "[I" : Cond) = true := rfl
theorem wx_674 : goodWord (.soleField "GateStepsModel" "since" : Cond) = true := rfl
theorem wx_675 : goodWord (.laysFinal "GateStepsModel" "GateStepsModel" "turn" "[I" : Cond) = true := rfl
theorem wx_676 : goodWord (.soleField "GateStepsModel" "turn" : Cond) = true := rfl
theorem wx_677 : goodWord (.lays "GateStepsModel" "GateStepsModel" "came" "I" : Cond) = true := rfl
theorem wx_678 : goodWord (.soleField "GateStepsModel" "came" : Cond) = true := rfl
theorem wx_679 : goodWord (.lays "GateStepsModel" "GateStepsModel" "tolerance" "I" : Cond) = true := rfl
theorem wx_680 : goodWord (.soleField "GateStepsModel" "tolerance" : Cond) = true := rfl
theorem wx_681 : goodWord (.lays "GateStepsModel" "GateStepsModel" "longest" "I" : Cond) = true := rfl
theorem wx_682 : goodWord (.soleField "GateStepsModel" "longest" : Cond) = true := rfl
theorem wx_683 : goodWord (.lays "GateStepsModel" "GateStepsModel" "together" "I" : Cond) = true := rfl
theorem wx_684 : goodWord (.soleField "GateStepsModel" "together" : Cond) = true := rfl
theorem wx_685 : goodWord (.lays "GateStepsModel" "GateStepsModel" "done" "I" : Cond) = true := rfl
theorem wx_686 : goodWord (.soleField "GateStepsModel" "done" : Cond) = true := rfl
theorem wx_687 : goodWord (.superclass "GateStepsModel" "java/lang/Object" : Cond) = true := rfl
theorem wx_688 : goodWord (.methodLink "GateStepsLaw" 65 ⟨"GateStepsModel", "thrown", "()I"⟩ : Cond) = true := rfl
theorem wx_689 : goodWord (.instanceMethod ⟨"GateStepsModel", "thrown", "()I"⟩ : Cond) = true := rfl
theorem wx_690 : goodWord (.selects "GateStepsModel" ⟨"GateStepsModel", "thrown", "()I"⟩ ⟨"GateStepsModel", "thrown", "()I"⟩ : Cond) = true := rfl
theorem wx_691 : goodWord (.code ⟨"GateStepsModel", "thrown", "()I"⟩ prog_9_method_2_code 1 (some .int) : Cond) = true := rfl
theorem wx_692 : goodWord (.methodLink "GateStepsLaw" 64 ⟨"GateStepsModel", "sign", "(I)I"⟩ : Cond) = true := rfl
theorem wx_693 : goodWord (.instanceMethod ⟨"GateStepsModel", "sign", "(I)I"⟩ : Cond) = true := rfl
theorem wx_694 : goodWord (.selects "GateStepsModel" ⟨"GateStepsModel", "sign", "(I)I"⟩ ⟨"GateStepsModel", "sign", "(I)I"⟩ : Cond) = true := rfl
theorem wx_695 : goodWord (.code ⟨"GateStepsModel", "sign", "(I)I"⟩ prog_9_method_9_code 3 (some .int) : Cond) = true := rfl
theorem wx_696 : goodWord (.methodLink "GateStepsModel" 73 ⟨"GateStepsModel", "isLetter", "(I)Z"⟩ : Cond) = true := rfl
theorem wx_697 : goodWord (.static ⟨"GateStepsModel", "isLetter", "(I)Z"⟩ : Cond) = true := rfl
theorem wx_698 : goodWord (.code ⟨"GateStepsModel", "isLetter", "(I)Z"⟩ prog_9_method_7_code 1 (some .boolean) : Cond) = true := rfl
theorem wx_699 : goodWord (.methodLink "GateStepsModel" 77 ⟨"GateStepsModel", "isDigit", "(I)Z"⟩ : Cond) = true := rfl
theorem wx_700 : goodWord (.static ⟨"GateStepsModel", "isDigit", "(I)Z"⟩ : Cond) = true := rfl
theorem wx_701 : goodWord (.code ⟨"GateStepsModel", "isDigit", "(I)Z"⟩ prog_9_method_8_code 1 (some .boolean) : Cond) = true := rfl
theorem wx_702 : goodWord (.methodLink "GateStepsModel" 80 ⟨"GateStepsModel", "fails", "(I)I"⟩ : Cond) = true := rfl
theorem wx_703 : goodWord (.privateMethod ⟨"GateStepsModel", "fails", "(I)I"⟩ : Cond) = true := rfl
theorem wx_704 : goodWord (.instanceMethod ⟨"GateStepsModel", "fails", "(I)I"⟩ : Cond) = true := rfl
theorem wx_705 : goodWord (.code ⟨"GateStepsModel", "fails", "(I)I"⟩ prog_9_method_3_code 2 (some .int) : Cond) = true := rfl
theorem wx_706 : goodWord (.methodLink "GateStepsLaw" 72 ⟨"GateStepsModel", "clear", "()I"⟩ : Cond) = true := rfl
theorem wx_707 : goodWord (.instanceMethod ⟨"GateStepsModel", "clear", "()I"⟩ : Cond) = true := rfl
theorem wx_708 : goodWord (.selects "GateStepsModel" ⟨"GateStepsModel", "clear", "()I"⟩ ⟨"GateStepsModel", "clear", "()I"⟩ : Cond) = true := rfl
theorem wx_709 : goodWord (.code ⟨"GateStepsModel", "clear", "()I"⟩ prog_9_method_10_code 2 (some .int) : Cond) = true := rfl
theorem wx_710 : goodWord (.methodLink "GateStepsLaw" 76 ⟨"GateStepsModel", "letter", "()I"⟩ : Cond) = true := rfl
theorem wx_711 : goodWord (.instanceMethod ⟨"GateStepsModel", "letter", "()I"⟩ : Cond) = true := rfl
theorem wx_712 : goodWord (.selects "GateStepsModel" ⟨"GateStepsModel", "letter", "()I"⟩ ⟨"GateStepsModel", "letter", "()I"⟩ : Cond) = true := rfl
theorem wx_713 : goodWord (.code ⟨"GateStepsModel", "letter", "()I"⟩ prog_9_method_12_code 1 (some .int) : Cond) = true := rfl
theorem wx_714 : goodWord (.methodLink "GateStepsModel" 84 ⟨"GateStepsModel", "checkLetter", "()I"⟩ : Cond) = true := rfl
theorem wx_715 : goodWord (.privateMethod ⟨"GateStepsModel", "checkLetter", "()I"⟩ : Cond) = true := rfl
theorem wx_716 : goodWord (.instanceMethod ⟨"GateStepsModel", "checkLetter", "()I"⟩ : Cond) = true := rfl
theorem wx_717 : goodWord (.code ⟨"GateStepsModel", "checkLetter", "()I"⟩ prog_9_method_11_code 3 (some .int) : Cond) = true := rfl
theorem wx_718 : goodWord (.methodLink "GateStepsLaw" 80 ⟨"GateStepsModel", "box", "(IZ)I"⟩ : Cond) = true := rfl
theorem wx_719 : goodWord (.instanceMethod ⟨"GateStepsModel", "box", "(IZ)I"⟩ : Cond) = true := rfl
theorem wx_720 : goodWord (.selects "GateStepsModel" ⟨"GateStepsModel", "box", "(IZ)I"⟩ ⟨"GateStepsModel", "box", "(IZ)I"⟩ : Cond) = true := rfl
theorem wx_721 : goodWord (.code ⟨"GateStepsModel", "box", "(IZ)I"⟩ prog_9_method_14_code 4 (some .int) : Cond) = true := rfl
theorem wx_722 : goodWord (.constant "GateStepsModel" 69 100000 : Cond) = true := rfl
theorem wx_723 : goodWord (.methodLink "GateStepsModel" 91 ⟨"GateStepsModel", "isKnown", "()Z"⟩ : Cond) = true := rfl
theorem wx_724 : goodWord (.privateMethod ⟨"GateStepsModel", "isKnown", "()Z"⟩ : Cond) = true := rfl
theorem wx_725 : goodWord (.instanceMethod ⟨"GateStepsModel", "isKnown", "()Z"⟩ : Cond) = true := rfl
theorem wx_726 : goodWord (.code ⟨"GateStepsModel", "isKnown", "()Z"⟩ prog_9_method_13_code 5 (some .boolean) : Cond) = true := rfl
theorem wx_727 : goodWord (.methodLink "GateStepsLaw" 84 ⟨"GateStepsModel", "check", "(III)I"⟩ : Cond) = true := rfl
theorem wx_728 : goodWord (.instanceMethod ⟨"GateStepsModel", "check", "(III)I"⟩ : Cond) = true := rfl
theorem wx_729 : goodWord (.selects "GateStepsModel" ⟨"GateStepsModel", "check", "(III)I"⟩ ⟨"GateStepsModel", "check", "(III)I"⟩ : Cond) = true := rfl
theorem wx_730 : goodWord (.code ⟨"GateStepsModel", "check", "(III)I"⟩ prog_9_method_16_code 6 (some .int) : Cond) = true := rfl
theorem wx_731 : goodWord (.methodLink "GateStepsLaw" 87 ⟨"GateStepsModel", "book", "(III)I"⟩ : Cond) = true := rfl
theorem wx_732 : goodWord (.instanceMethod ⟨"GateStepsModel", "book", "(III)I"⟩ : Cond) = true := rfl
theorem wx_733 : goodWord (.selects "GateStepsModel" ⟨"GateStepsModel", "book", "(III)I"⟩ ⟨"GateStepsModel", "book", "(III)I"⟩ : Cond) = true := rfl
theorem wx_734 : goodWord (.code ⟨"GateStepsModel", "book", "(III)I"⟩ prog_9_method_19_code 5 (some .int) : Cond) = true := rfl
theorem wx_735 : goodWord (.methodLink "GateStepsModel" 98 ⟨"GateStepsModel", "isSlot", "(I)Z"⟩ : Cond) = true := rfl
theorem wx_736 : goodWord (.privateMethod ⟨"GateStepsModel", "isSlot", "(I)Z"⟩ : Cond) = true := rfl
theorem wx_737 : goodWord (.instanceMethod ⟨"GateStepsModel", "isSlot", "(I)Z"⟩ : Cond) = true := rfl
theorem wx_738 : goodWord (.code ⟨"GateStepsModel", "isSlot", "(I)Z"⟩ prog_9_method_6_code 2 (some .boolean) : Cond) = true := rfl
theorem wx_739 : goodWord (.methodLink "GateStepsModel" 101 ⟨"GateStepsModel", "full", "(I)I"⟩ : Cond) = true := rfl
theorem wx_740 : goodWord (.privateMethod ⟨"GateStepsModel", "full", "(I)I"⟩ : Cond) = true := rfl
theorem wx_741 : goodWord (.instanceMethod ⟨"GateStepsModel", "full", "(I)I"⟩ : Cond) = true := rfl
theorem wx_742 : goodWord (.code ⟨"GateStepsModel", "full", "(I)I"⟩ prog_9_method_18_code 3 (some .int) : Cond) = true := rfl
theorem wx_743 : goodWord (.methodLink "GateStepsModel" 95 ⟨"GateStepsModel", "inSlot", "(I)I"⟩ : Cond) = true := rfl
theorem wx_744 : goodWord (.privateMethod ⟨"GateStepsModel", "inSlot", "(I)I"⟩ : Cond) = true := rfl
theorem wx_745 : goodWord (.instanceMethod ⟨"GateStepsModel", "inSlot", "(I)I"⟩ : Cond) = true := rfl
theorem wx_746 : goodWord (.code ⟨"GateStepsModel", "inSlot", "(I)I"⟩ prog_9_method_17_code 4 (some .int) : Cond) = true := rfl
theorem wx_747 : goodWord (.methodLink "GateStepsLaw" 91 ⟨"GateStepsModel", "through", "(II)I"⟩ : Cond) = true := rfl
theorem wx_748 : goodWord (.instanceMethod ⟨"GateStepsModel", "through", "(II)I"⟩ : Cond) = true := rfl
theorem wx_749 : goodWord (.selects "GateStepsModel" ⟨"GateStepsModel", "through", "(II)I"⟩ ⟨"GateStepsModel", "through", "(II)I"⟩ : Cond) = true := rfl
theorem wx_750 : goodWord (.code ⟨"GateStepsModel", "through", "(II)I"⟩ prog_9_method_24_code 6 (some .int) : Cond) = true := rfl
theorem wx_751 : goodWord (.methodLink "GateStepsModel" 114 ⟨"GateStepsModel", "isBooking", "(I)Z"⟩ : Cond) = true := rfl
theorem wx_752 : goodWord (.privateMethod ⟨"GateStepsModel", "isBooking", "(I)Z"⟩ : Cond) = true := rfl
theorem wx_753 : goodWord (.instanceMethod ⟨"GateStepsModel", "isBooking", "(I)Z"⟩ : Cond) = true := rfl
theorem wx_754 : goodWord (.code ⟨"GateStepsModel", "isBooking", "(I)Z"⟩ prog_9_method_4_code 2 (some .boolean) : Cond) = true := rfl
theorem wx_755 : goodWord (.methodLink "GateStepsModel" 117 ⟨"GateStepsModel", "isTime", "(I)Z"⟩ : Cond) = true := rfl
theorem wx_756 : goodWord (.privateMethod ⟨"GateStepsModel", "isTime", "(I)Z"⟩ : Cond) = true := rfl
theorem wx_757 : goodWord (.instanceMethod ⟨"GateStepsModel", "isTime", "(I)Z"⟩ : Cond) = true := rfl
theorem wx_758 : goodWord (.code ⟨"GateStepsModel", "isTime", "(I)Z"⟩ prog_9_method_5_code 2 (some .boolean) : Cond) = true := rfl
theorem wx_759 : goodWord (.methodLink "GateStepsModel" 120 ⟨"GateStepsModel", "bar", "(I)I"⟩ : Cond) = true := rfl
theorem wx_760 : goodWord (.privateMethod ⟨"GateStepsModel", "bar", "(I)I"⟩ : Cond) = true := rfl
theorem wx_761 : goodWord (.instanceMethod ⟨"GateStepsModel", "bar", "(I)I"⟩ : Cond) = true := rfl
theorem wx_762 : goodWord (.code ⟨"GateStepsModel", "bar", "(I)I"⟩ prog_9_method_21_code 5 (some .int) : Cond) = true := rfl
theorem wx_763 : goodWord (.methodLink "GateStepsModel" 104 ⟨"GateStepsModel", "verdictOf", "(II)I"⟩ : Cond) = true := rfl
theorem wx_764 : goodWord (.privateMethod ⟨"GateStepsModel", "verdictOf", "(II)I"⟩ : Cond) = true := rfl
theorem wx_765 : goodWord (.instanceMethod ⟨"GateStepsModel", "verdictOf", "(II)I"⟩ : Cond) = true := rfl
theorem wx_766 : goodWord (.code ⟨"GateStepsModel", "verdictOf", "(II)I"⟩ prog_9_method_15_code 3 (some .int) : Cond) = true := rfl
theorem wx_767 : goodWord (.methodLink "GateStepsModel" 108 ⟨"GateStepsModel", "isTruckIn", "(I)Z"⟩ : Cond) = true := rfl
theorem wx_768 : goodWord (.privateMethod ⟨"GateStepsModel", "isTruckIn", "(I)Z"⟩ : Cond) = true := rfl
theorem wx_769 : goodWord (.instanceMethod ⟨"GateStepsModel", "isTruckIn", "(I)Z"⟩ : Cond) = true := rfl
theorem wx_770 : goodWord (.code ⟨"GateStepsModel", "isTruckIn", "(I)Z"⟩ prog_9_method_20_code 4 (some .boolean) : Cond) = true := rfl
theorem wx_771 : goodWord (.methodLink "GateStepsModel" 123 ⟨"GateStepsModel", "inLane", "(I)I"⟩ : Cond) = true := rfl
theorem wx_772 : goodWord (.privateMethod ⟨"GateStepsModel", "inLane", "(I)I"⟩ : Cond) = true := rfl
theorem wx_773 : goodWord (.instanceMethod ⟨"GateStepsModel", "inLane", "(I)I"⟩ : Cond) = true := rfl
theorem wx_774 : goodWord (.code ⟨"GateStepsModel", "inLane", "(I)I"⟩ prog_9_method_22_code 4 (some .int) : Cond) = true := rfl
theorem wx_775 : goodWord (.methodLink "GateStepsModel" 126 ⟨"GateStepsModel", "comes", "(II)V"⟩ : Cond) = true := rfl
theorem wx_776 : goodWord (.privateMethod ⟨"GateStepsModel", "comes", "(II)V"⟩ : Cond) = true := rfl
theorem wx_777 : goodWord (.instanceMethod ⟨"GateStepsModel", "comes", "(II)V"⟩ : Cond) = true := rfl
theorem wx_778 : goodWord (.code ⟨"GateStepsModel", "comes", "(II)V"⟩ prog_9_method_23_code 3 none : Cond) = true := rfl
theorem wx_779 : goodWord (.methodLink "GateStepsLaw" 94 ⟨"GateStepsModel", "weigh", "(III)I"⟩ : Cond) = true := rfl
theorem wx_780 : goodWord (.instanceMethod ⟨"GateStepsModel", "weigh", "(III)I"⟩ : Cond) = true := rfl
theorem wx_781 : goodWord (.selects "GateStepsModel" ⟨"GateStepsModel", "weigh", "(III)I"⟩ ⟨"GateStepsModel", "weigh", "(III)I"⟩ : Cond) = true := rfl
theorem wx_782 : goodWord (.code ⟨"GateStepsModel", "weigh", "(III)I"⟩ prog_9_method_26_code 9 (some .int) : Cond) = true := rfl
theorem wx_783 : goodWord (.constant "GateStepsModel" 130 200000 : Cond) = true := rfl
theorem wx_784 : goodWord (.methodLink "GateStepsModel" 131 ⟨"GateStepsModel", "inOrder", "(II)I"⟩ : Cond) = true := rfl
theorem wx_785 : goodWord (.privateMethod ⟨"GateStepsModel", "inOrder", "(II)I"⟩ : Cond) = true := rfl
theorem wx_786 : goodWord (.instanceMethod ⟨"GateStepsModel", "inOrder", "(II)I"⟩ : Cond) = true := rfl
theorem wx_787 : goodWord (.code ⟨"GateStepsModel", "inOrder", "(II)I"⟩ prog_9_method_25_code 6 (some .int) : Cond) = true := rfl
theorem wx_788 : goodWord (.constantLong "GateStepsModel" 134 (1000 : Int64) : Cond) = true := rfl
theorem wx_789 : goodWord (.methodLink "GateStepsLaw" 99 ⟨"GateStepsModel", "tolerance", "(I)Z"⟩ : Cond) = true := rfl
theorem wx_790 : goodWord (.instanceMethod ⟨"GateStepsModel", "tolerance", "(I)Z"⟩ : Cond) = true := rfl
theorem wx_791 : goodWord (.selects "GateStepsModel" ⟨"GateStepsModel", "tolerance", "(I)Z"⟩ ⟨"GateStepsModel", "tolerance", "(I)Z"⟩ : Cond) = true := rfl
theorem wx_792 : goodWord (.code ⟨"GateStepsModel", "tolerance", "(I)Z"⟩ prog_9_method_27_code 2 (some .boolean) : Cond) = true := rfl
theorem wx_793 : goodWord (.methodLink "GateStepsLaw" 102 ⟨"GateStepsModel", "noShow", "(I)I"⟩ : Cond) = true := rfl
theorem wx_794 : goodWord (.instanceMethod ⟨"GateStepsModel", "noShow", "(I)I"⟩ : Cond) = true := rfl
theorem wx_795 : goodWord (.selects "GateStepsModel" ⟨"GateStepsModel", "noShow", "(I)I"⟩ ⟨"GateStepsModel", "noShow", "(I)I"⟩ : Cond) = true := rfl
theorem wx_796 : goodWord (.code ⟨"GateStepsModel", "noShow", "(I)I"⟩ prog_9_method_28_code 4 (some .int) : Cond) = true := rfl
theorem wx_797 : goodWord (.methodLink "GateStepsLaw" 105 ⟨"GateStepsModel", "change", "(II)I"⟩ : Cond) = true := rfl
theorem wx_798 : goodWord (.instanceMethod ⟨"GateStepsModel", "change", "(II)I"⟩ : Cond) = true := rfl
theorem wx_799 : goodWord (.selects "GateStepsModel" ⟨"GateStepsModel", "change", "(II)I"⟩ ⟨"GateStepsModel", "change", "(II)I"⟩ : Cond) = true := rfl
theorem wx_800 : goodWord (.code ⟨"GateStepsModel", "change", "(II)I"⟩ prog_9_method_29_code 3 (some .int) : Cond) = true := rfl
theorem wx_801 : goodWord (.methodLink "GateStepsLaw" 109 ⟨"GateStepsModel", "queue", "(II)I"⟩ : Cond) = true := rfl
theorem wx_802 : goodWord (.instanceMethod ⟨"GateStepsModel", "queue", "(II)I"⟩ : Cond) = true := rfl
theorem wx_803 : goodWord (.selects "GateStepsModel" ⟨"GateStepsModel", "queue", "(II)I"⟩ ⟨"GateStepsModel", "queue", "(II)I"⟩ : Cond) = true := rfl
theorem wx_804 : goodWord (.code ⟨"GateStepsModel", "queue", "(II)I"⟩ prog_9_method_30_code 3 (some .int) : Cond) = true := rfl
theorem wx_805 : goodWord (.methodLink "GateStepsLaw" 112 ⟨"GateStepsModel", "look", "(II)I"⟩ : Cond) = true := rfl
theorem wx_806 : goodWord (.instanceMethod ⟨"GateStepsModel", "look", "(II)I"⟩ : Cond) = true := rfl
theorem wx_807 : goodWord (.selects "GateStepsModel" ⟨"GateStepsModel", "look", "(II)I"⟩ ⟨"GateStepsModel", "look", "(II)I"⟩ : Cond) = true := rfl
theorem wx_808 : goodWord (.code ⟨"GateStepsModel", "look", "(II)I"⟩ prog_9_method_31_code 3 (some .int) : Cond) = true := rfl
theorem wx_809 : goodWord (.methodLink "GateStepsLaw" 115 ⟨"GateStepsModel", "at", "(II)I"⟩ : Cond) = true := rfl
theorem wx_810 : goodWord (.instanceMethod ⟨"GateStepsModel", "at", "(II)I"⟩ : Cond) = true := rfl
theorem wx_811 : goodWord (.selects "GateStepsModel" ⟨"GateStepsModel", "at", "(II)I"⟩ ⟨"GateStepsModel", "at", "(II)I"⟩ : Cond) = true := rfl
theorem wx_812 : goodWord (.code ⟨"GateStepsModel", "at", "(II)I"⟩ prog_9_method_32_code 3 (some .int) : Cond) = true := rfl
theorem wx_813 : goodWord (.methodLink "GateStepsLaw" 119 ⟨"GateStepsModel", "count", "(I)I"⟩ : Cond) = true := rfl
theorem wx_814 : goodWord (.instanceMethod ⟨"GateStepsModel", "count", "(I)I"⟩ : Cond) = true := rfl
theorem wx_815 : goodWord (.selects "GateStepsModel" ⟨"GateStepsModel", "count", "(I)I"⟩ ⟨"GateStepsModel", "count", "(I)I"⟩ : Cond) = true := rfl
theorem wx_816 : goodWord (.code ⟨"GateStepsModel", "count", "(I)I"⟩ prog_9_method_33_code 2 (some .int) : Cond) = true := rfl
theorem wx_817 : goodWord (.arrayClass .long : Cond) = true := rfl
theorem wx_818 : goodWord (.sameMethod "java/lang/Throwable" "java/lang/Throwable" "fillInStackTrace" "(I)Ljava/lang/Throwable;" : Cond) = true := rfl
