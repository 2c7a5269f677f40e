theorem wd_32 : (.initialized "GateStepsLaw" : Cond) ∈ tbG := tb_in (List.mem_of_getElem? (i := 32) (by decide +kernel)) rfl
theorem wd_223 : (.methodLink "GateStepsLaw" 69 ⟨"GateSteps", "clear", "()I"⟩ : Cond) ∈ tbG := tb_in (List.mem_of_getElem? (i := 223) (by decide +kernel)) rfl
theorem wd_224 : (.instanceMethod ⟨"GateSteps", "clear", "()I"⟩ : Cond) ∈ tbG := tb_in (List.mem_of_getElem? (i := 224) (by decide +kernel)) rfl
theorem wd_225 : (.selects "GateSteps" ⟨"GateSteps", "clear", "()I"⟩ ⟨"GateSteps", "clear", "()I"⟩ : Cond) ∈ tbG := tb_in (List.mem_of_getElem? (i := 225) (by decide +kernel)) rfl
theorem wd_226 : (.code ⟨"GateSteps", "clear", "()I"⟩ prog_1_method_3_code 2 (some .int) : Cond) ∈ tbG := tb_in (List.mem_of_getElem? (i := 226) (by decide +kernel)) rfl
theorem wd_227 : (.methodLink "GateStepsLaw" 73 ⟨"GateSteps", "letter", "()I"⟩ : Cond) ∈ tbG := tb_in (List.mem_of_getElem? (i := 227) (by decide +kernel)) rfl
theorem wd_228 : (.instanceMethod ⟨"GateSteps", "letter", "()I"⟩ : Cond) ∈ tbG := tb_in (List.mem_of_getElem? (i := 228) (by decide +kernel)) rfl
theorem wd_229 : (.selects "GateSteps" ⟨"GateSteps", "letter", "()I"⟩ ⟨"GateSteps", "letter", "()I"⟩ : Cond) ∈ tbG := tb_in (List.mem_of_getElem? (i := 229) (by decide +kernel)) rfl
theorem wd_230 : (.code ⟨"GateSteps", "letter", "()I"⟩ prog_1_method_4_code 1 (some .int) : Cond) ∈ tbG := tb_in (List.mem_of_getElem? (i := 230) (by decide +kernel)) rfl
theorem wd_241 : (.methodLink "GateStepsLaw" 95 ⟨"GateSteps", "tolerance", "(I)Z"⟩ : Cond) ∈ tbG := tb_in (List.mem_of_getElem? (i := 241) (by decide +kernel)) rfl
theorem wd_242 : (.instanceMethod ⟨"GateSteps", "tolerance", "(I)Z"⟩ : Cond) ∈ tbG := tb_in (List.mem_of_getElem? (i := 242) (by decide +kernel)) rfl
theorem wd_243 : (.selects "GateSteps" ⟨"GateSteps", "tolerance", "(I)Z"⟩ ⟨"GateSteps", "tolerance", "(I)Z"⟩ : Cond) ∈ tbG := tb_in (List.mem_of_getElem? (i := 243) (by decide +kernel)) rfl
theorem wd_244 : (.code ⟨"GateSteps", "tolerance", "(I)Z"⟩ prog_1_method_10_code 2 (some .boolean) : Cond) ∈ tbG := tb_in (List.mem_of_getElem? (i := 244) (by decide +kernel)) rfl
theorem wd_245 : (.methodLink "GateStepsLaw" 106 ⟨"GateSteps", "queue", "(II)I"⟩ : Cond) ∈ tbG := tb_in (List.mem_of_getElem? (i := 245) (by decide +kernel)) rfl
theorem wd_246 : (.instanceMethod ⟨"GateSteps", "queue", "(II)I"⟩ : Cond) ∈ tbG := tb_in (List.mem_of_getElem? (i := 246) (by decide +kernel)) rfl
theorem wd_247 : (.selects "GateSteps" ⟨"GateSteps", "queue", "(II)I"⟩ ⟨"GateSteps", "queue", "(II)I"⟩ : Cond) ∈ tbG := tb_in (List.mem_of_getElem? (i := 247) (by decide +kernel)) rfl
theorem wd_248 : (.code ⟨"GateSteps", "queue", "(II)I"⟩ prog_1_method_13_code 3 (some .int) : Cond) ∈ tbG := tb_in (List.mem_of_getElem? (i := 248) (by decide +kernel)) rfl
theorem wd_256 : (.methodLink "GateStepsLaw" 116 ⟨"GateSteps", "count", "(I)I"⟩ : Cond) ∈ tbG := tb_in (List.mem_of_getElem? (i := 256) (by decide +kernel)) rfl
theorem wd_257 : (.instanceMethod ⟨"GateSteps", "count", "(I)I"⟩ : Cond) ∈ tbG := tb_in (List.mem_of_getElem? (i := 257) (by decide +kernel)) rfl
theorem wd_258 : (.selects "GateSteps" ⟨"GateSteps", "count", "(I)I"⟩ ⟨"GateSteps", "count", "(I)I"⟩ : Cond) ∈ tbG := tb_in (List.mem_of_getElem? (i := 258) (by decide +kernel)) rfl
theorem wd_259 : (.code ⟨"GateSteps", "count", "(I)I"⟩ prog_1_method_16_code 3 (some .int) : Cond) ∈ tbG := tb_in (List.mem_of_getElem? (i := 259) (by decide +kernel)) rfl
theorem wd_267 : (.methodLink "GateStepsLaw" 61 ⟨"GateStepsLaw", "sign", "(LGateSteps;I[J)I"⟩ : Cond) ∈ tbG := tb_in (List.mem_of_getElem? (i := 267) (by decide +kernel)) rfl
theorem wd_268 : (.static ⟨"GateStepsLaw", "sign", "(LGateSteps;I[J)I"⟩ : Cond) ∈ tbG := tb_in (List.mem_of_getElem? (i := 268) (by decide +kernel)) rfl
theorem wd_269 : (.codeWith ⟨"GateStepsLaw", "sign", "(LGateSteps;I[J)I"⟩ method_3_code 4 (some .int) [(0, 9, 12, 13), (0, 9, 15, 15)] : Cond) ∈ tbG := tb_in (List.mem_of_getElem? (i := 269) (by decide +kernel)) rfl
theorem wd_374 : (.methodLink "GateStepsLaw" 77 ⟨"GateStepsLaw", "box", "(LGateSteps;IZ[J)I"⟩ : Cond) ∈ tbG := tb_in (List.mem_of_getElem? (i := 374) (by decide +kernel)) rfl
theorem wd_375 : (.static ⟨"GateStepsLaw", "box", "(LGateSteps;IZ[J)I"⟩ : Cond) ∈ tbG := tb_in (List.mem_of_getElem? (i := 375) (by decide +kernel)) rfl
theorem wd_376 : (.codeWith ⟨"GateStepsLaw", "box", "(LGateSteps;IZ[J)I"⟩ method_4_code 5 (some .int) [(0, 10, 13, 13), (0, 10, 17, 15)] : Cond) ∈ tbG := tb_in (List.mem_of_getElem? (i := 376) (by decide +kernel)) rfl
theorem wd_406 : (.methodLink "GateStepsLaw" 81 ⟨"GateStepsLaw", "check", "(LGateSteps;III[J)I"⟩ : Cond) ∈ tbG := tb_in (List.mem_of_getElem? (i := 406) (by decide +kernel)) rfl
theorem wd_407 : (.static ⟨"GateStepsLaw", "check", "(LGateSteps;III[J)I"⟩ : Cond) ∈ tbG := tb_in (List.mem_of_getElem? (i := 407) (by decide +kernel)) rfl
theorem wd_408 : (.codeWith ⟨"GateStepsLaw", "check", "(LGateSteps;III[J)I"⟩ method_5_code 6 (some .int) [(0, 12, 15, 25), (0, 12, 19, 13)] : Cond) ∈ tbG := tb_in (List.mem_of_getElem? (i := 408) (by decide +kernel)) rfl
theorem wd_465 : (.methodLink "GateStepsLaw" 85 ⟨"GateStepsLaw", "book", "(LGateSteps;III[J)I"⟩ : Cond) ∈ tbG := tb_in (List.mem_of_getElem? (i := 465) (by decide +kernel)) rfl
theorem wd_466 : (.static ⟨"GateStepsLaw", "book", "(LGateSteps;III[J)I"⟩ : Cond) ∈ tbG := tb_in (List.mem_of_getElem? (i := 466) (by decide +kernel)) rfl
theorem wd_467 : (.codeWith ⟨"GateStepsLaw", "book", "(LGateSteps;III[J)I"⟩ method_6_code 6 (some .int) [(0, 12, 15, 25), (0, 12, 19, 15)] : Cond) ∈ tbG := tb_in (List.mem_of_getElem? (i := 467) (by decide +kernel)) rfl
theorem wd_499 : (.methodLink "GateStepsLaw" 88 ⟨"GateStepsLaw", "through", "(LGateSteps;II[J)I"⟩ : Cond) ∈ tbG := tb_in (List.mem_of_getElem? (i := 499) (by decide +kernel)) rfl
theorem wd_500 : (.static ⟨"GateStepsLaw", "through", "(LGateSteps;II[J)I"⟩ : Cond) ∈ tbG := tb_in (List.mem_of_getElem? (i := 500) (by decide +kernel)) rfl
theorem wd_501 : (.codeWith ⟨"GateStepsLaw", "through", "(LGateSteps;II[J)I"⟩ method_7_code 5 (some .int) [(0, 10, 13, 25), (0, 10, 17, 13)] : Cond) ∈ tbG := tb_in (List.mem_of_getElem? (i := 501) (by decide +kernel)) rfl
theorem wd_556 : (.methodLink "GateStepsLaw" 92 ⟨"GateStepsLaw", "weigh", "(LGateSteps;III[J)I"⟩ : Cond) ∈ tbG := tb_in (List.mem_of_getElem? (i := 556) (by decide +kernel)) rfl
theorem wd_557 : (.static ⟨"GateStepsLaw", "weigh", "(LGateSteps;III[J)I"⟩ : Cond) ∈ tbG := tb_in (List.mem_of_getElem? (i := 557) (by decide +kernel)) rfl
theorem wd_558 : (.codeWith ⟨"GateStepsLaw", "weigh", "(LGateSteps;III[J)I"⟩ method_8_code 6 (some .int) [(0, 12, 15, 25), (0, 12, 19, 13)] : Cond) ∈ tbG := tb_in (List.mem_of_getElem? (i := 558) (by decide +kernel)) rfl
theorem wd_576 : (.methodLink "GateStepsLaw" 100 ⟨"GateStepsLaw", "noShow", "(LGateSteps;I[J)I"⟩ : Cond) ∈ tbG := tb_in (List.mem_of_getElem? (i := 576) (by decide +kernel)) rfl
theorem wd_577 : (.static ⟨"GateStepsLaw", "noShow", "(LGateSteps;I[J)I"⟩ : Cond) ∈ tbG := tb_in (List.mem_of_getElem? (i := 577) (by decide +kernel)) rfl
theorem wd_578 : (.codeWith ⟨"GateStepsLaw", "noShow", "(LGateSteps;I[J)I"⟩ method_9_code 4 (some .int) [(0, 9, 12, 13)] : Cond) ∈ tbG := tb_in (List.mem_of_getElem? (i := 578) (by decide +kernel)) rfl
theorem wd_583 : (.methodLink "GateStepsLaw" 103 ⟨"GateStepsLaw", "change", "(LGateSteps;II[J)I"⟩ : Cond) ∈ tbG := tb_in (List.mem_of_getElem? (i := 583) (by decide +kernel)) rfl
theorem wd_584 : (.static ⟨"GateStepsLaw", "change", "(LGateSteps;II[J)I"⟩ : Cond) ∈ tbG := tb_in (List.mem_of_getElem? (i := 584) (by decide +kernel)) rfl
theorem wd_585 : (.codeWith ⟨"GateStepsLaw", "change", "(LGateSteps;II[J)I"⟩ method_10_code 5 (some .int) [(0, 10, 13, 25)] : Cond) ∈ tbG := tb_in (List.mem_of_getElem? (i := 585) (by decide +kernel)) rfl
theorem wd_590 : (.methodLink "GateStepsLaw" 110 ⟨"GateStepsLaw", "look", "(LGateSteps;II[J)I"⟩ : Cond) ∈ tbG := tb_in (List.mem_of_getElem? (i := 590) (by decide +kernel)) rfl
theorem wd_591 : (.static ⟨"GateStepsLaw", "look", "(LGateSteps;II[J)I"⟩ : Cond) ∈ tbG := tb_in (List.mem_of_getElem? (i := 591) (by decide +kernel)) rfl
theorem wd_592 : (.codeWith ⟨"GateStepsLaw", "look", "(LGateSteps;II[J)I"⟩ method_11_code 5 (some .int) [(0, 10, 13, 25)] : Cond) ∈ tbG := tb_in (List.mem_of_getElem? (i := 592) (by decide +kernel)) rfl
theorem wd_598 : (.methodLink "GateStepsLaw" 113 ⟨"GateStepsLaw", "at", "(LGateSteps;II[J)I"⟩ : Cond) ∈ tbG := tb_in (List.mem_of_getElem? (i := 598) (by decide +kernel)) rfl
theorem wd_599 : (.static ⟨"GateStepsLaw", "at", "(LGateSteps;II[J)I"⟩ : Cond) ∈ tbG := tb_in (List.mem_of_getElem? (i := 599) (by decide +kernel)) rfl
theorem wd_600 : (.codeWith ⟨"GateStepsLaw", "at", "(LGateSteps;II[J)I"⟩ method_12_code 5 (some .int) [(0, 10, 13, 25)] : Cond) ∈ tbG := tb_in (List.mem_of_getElem? (i := 600) (by decide +kernel)) rfl
theorem wd_688 : (.methodLink "GateStepsLaw" 65 ⟨"GateStepsModel", "thrown", "()I"⟩ : Cond) ∈ tbG := tb_in (List.mem_of_getElem? (i := 688) (by decide +kernel)) rfl
theorem wd_689 : (.instanceMethod ⟨"GateStepsModel", "thrown", "()I"⟩ : Cond) ∈ tbG := tb_in (List.mem_of_getElem? (i := 689) (by decide +kernel)) rfl
theorem wd_690 : (.selects "GateStepsModel" ⟨"GateStepsModel", "thrown", "()I"⟩ ⟨"GateStepsModel", "thrown", "()I"⟩ : Cond) ∈ tbG := tb_in (List.mem_of_getElem? (i := 690) (by decide +kernel)) rfl
theorem wd_691 : (.code ⟨"GateStepsModel", "thrown", "()I"⟩ prog_9_method_2_code 1 (some .int) : Cond) ∈ tbG := tb_in (List.mem_of_getElem? (i := 691) (by decide +kernel)) rfl
theorem wd_692 : (.methodLink "GateStepsLaw" 64 ⟨"GateStepsModel", "sign", "(I)I"⟩ : Cond) ∈ tbG := tb_in (List.mem_of_getElem? (i := 692) (by decide +kernel)) rfl
theorem wd_693 : (.instanceMethod ⟨"GateStepsModel", "sign", "(I)I"⟩ : Cond) ∈ tbG := tb_in (List.mem_of_getElem? (i := 693) (by decide +kernel)) rfl
theorem wd_694 : (.selects "GateStepsModel" ⟨"GateStepsModel", "sign", "(I)I"⟩ ⟨"GateStepsModel", "sign", "(I)I"⟩ : Cond) ∈ tbG := tb_in (List.mem_of_getElem? (i := 694) (by decide +kernel)) rfl
theorem wd_695 : (.code ⟨"GateStepsModel", "sign", "(I)I"⟩ prog_9_method_9_code 3 (some .int) : Cond) ∈ tbG := tb_in (List.mem_of_getElem? (i := 695) (by decide +kernel)) rfl
theorem wd_706 : (.methodLink "GateStepsLaw" 72 ⟨"GateStepsModel", "clear", "()I"⟩ : Cond) ∈ tbG := tb_in (List.mem_of_getElem? (i := 706) (by decide +kernel)) rfl
theorem wd_707 : (.instanceMethod ⟨"GateStepsModel", "clear", "()I"⟩ : Cond) ∈ tbG := tb_in (List.mem_of_getElem? (i := 707) (by decide +kernel)) rfl
theorem wd_708 : (.selects "GateStepsModel" ⟨"GateStepsModel", "clear", "()I"⟩ ⟨"GateStepsModel", "clear", "()I"⟩ : Cond) ∈ tbG := tb_in (List.mem_of_getElem? (i := 708) (by decide +kernel)) rfl
theorem wd_709 : (.code ⟨"GateStepsModel", "clear", "()I"⟩ prog_9_method_10_code 2 (some .int) : Cond) ∈ tbG := tb_in (List.mem_of_getElem? (i := 709) (by decide +kernel)) rfl
theorem wd_710 : (.methodLink "GateStepsLaw" 76 ⟨"GateStepsModel", "letter", "()I"⟩ : Cond) ∈ tbG := tb_in (List.mem_of_getElem? (i := 710) (by decide +kernel)) rfl
theorem wd_711 : (.instanceMethod ⟨"GateStepsModel", "letter", "()I"⟩ : Cond) ∈ tbG := tb_in (List.mem_of_getElem? (i := 711) (by decide +kernel)) rfl
theorem wd_712 : (.selects "GateStepsModel" ⟨"GateStepsModel", "letter", "()I"⟩ ⟨"GateStepsModel", "letter", "()I"⟩ : Cond) ∈ tbG := tb_in (List.mem_of_getElem? (i := 712) (by decide +kernel)) rfl
theorem wd_713 : (.code ⟨"GateStepsModel", "letter", "()I"⟩ prog_9_method_12_code 1 (some .int) : Cond) ∈ tbG := tb_in (List.mem_of_getElem? (i := 713) (by decide +kernel)) rfl
theorem wd_718 : (.methodLink "GateStepsLaw" 80 ⟨"GateStepsModel", "box", "(IZ)I"⟩ : Cond) ∈ tbG := tb_in (List.mem_of_getElem? (i := 718) (by decide +kernel)) rfl
theorem wd_719 : (.instanceMethod ⟨"GateStepsModel", "box", "(IZ)I"⟩ : Cond) ∈ tbG := tb_in (List.mem_of_getElem? (i := 719) (by decide +kernel)) rfl
theorem wd_720 : (.selects "GateStepsModel" ⟨"GateStepsModel", "box", "(IZ)I"⟩ ⟨"GateStepsModel", "box", "(IZ)I"⟩ : Cond) ∈ tbG := tb_in (List.mem_of_getElem? (i := 720) (by decide +kernel)) rfl
theorem wd_721 : (.code ⟨"GateStepsModel", "box", "(IZ)I"⟩ prog_9_method_14_code 4 (some .int) : Cond) ∈ tbG := tb_in (List.mem_of_getElem? (i := 721) (by decide +kernel)) rfl
theorem wd_727 : (.methodLink "GateStepsLaw" 84 ⟨"GateStepsModel", "check", "(III)I"⟩ : Cond) ∈ tbG := tb_in (List.mem_of_getElem? (i := 727) (by decide +kernel)) rfl
theorem wd_728 : (.instanceMethod ⟨"GateStepsModel", "check", "(III)I"⟩ : Cond) ∈ tbG := tb_in (List.mem_of_getElem? (i := 728) (by decide +kernel)) rfl
theorem wd_729 : (.selects "GateStepsModel" ⟨"GateStepsModel", "check", "(III)I"⟩ ⟨"GateStepsModel", "check", "(III)I"⟩ : Cond) ∈ tbG := tb_in (List.mem_of_getElem? (i := 729) (by decide +kernel)) rfl
theorem wd_730 : (.code ⟨"GateStepsModel", "check", "(III)I"⟩ prog_9_method_16_code 6 (some .int) : Cond) ∈ tbG := tb_in (List.mem_of_getElem? (i := 730) (by decide +kernel)) rfl
theorem wd_731 : (.methodLink "GateStepsLaw" 87 ⟨"GateStepsModel", "book", "(III)I"⟩ : Cond) ∈ tbG := tb_in (List.mem_of_getElem? (i := 731) (by decide +kernel)) rfl
theorem wd_732 : (.instanceMethod ⟨"GateStepsModel", "book", "(III)I"⟩ : Cond) ∈ tbG := tb_in (List.mem_of_getElem? (i := 732) (by decide +kernel)) rfl
theorem wd_733 : (.selects "GateStepsModel" ⟨"GateStepsModel", "book", "(III)I"⟩ ⟨"GateStepsModel", "book", "(III)I"⟩ : Cond) ∈ tbG := tb_in (List.mem_of_getElem? (i := 733) (by decide +kernel)) rfl
theorem wd_734 : (.code ⟨"GateStepsModel", "book", "(III)I"⟩ prog_9_method_19_code 5 (some .int) : Cond) ∈ tbG := tb_in (List.mem_of_getElem? (i := 734) (by decide +kernel)) rfl
theorem wd_747 : (.methodLink "GateStepsLaw" 91 ⟨"GateStepsModel", "through", "(II)I"⟩ : Cond) ∈ tbG := tb_in (List.mem_of_getElem? (i := 747) (by decide +kernel)) rfl
theorem wd_748 : (.instanceMethod ⟨"GateStepsModel", "through", "(II)I"⟩ : Cond) ∈ tbG := tb_in (List.mem_of_getElem? (i := 748) (by decide +kernel)) rfl
theorem wd_749 : (.selects "GateStepsModel" ⟨"GateStepsModel", "through", "(II)I"⟩ ⟨"GateStepsModel", "through", "(II)I"⟩ : Cond) ∈ tbG := tb_in (List.mem_of_getElem? (i := 749) (by decide +kernel)) rfl
theorem wd_750 : (.code ⟨"GateStepsModel", "through", "(II)I"⟩ prog_9_method_24_code 6 (some .int) : Cond) ∈ tbG := tb_in (List.mem_of_getElem? (i := 750) (by decide +kernel)) rfl
theorem wd_779 : (.methodLink "GateStepsLaw" 94 ⟨"GateStepsModel", "weigh", "(III)I"⟩ : Cond) ∈ tbG := tb_in (List.mem_of_getElem? (i := 779) (by decide +kernel)) rfl
theorem wd_780 : (.instanceMethod ⟨"GateStepsModel", "weigh", "(III)I"⟩ : Cond) ∈ tbG := tb_in (List.mem_of_getElem? (i := 780) (by decide +kernel)) rfl
theorem wd_781 : (.selects "GateStepsModel" ⟨"GateStepsModel", "weigh", "(III)I"⟩ ⟨"GateStepsModel", "weigh", "(III)I"⟩ : Cond) ∈ tbG := tb_in (List.mem_of_getElem? (i := 781) (by decide +kernel)) rfl
theorem wd_782 : (.code ⟨"GateStepsModel", "weigh", "(III)I"⟩ prog_9_method_26_code 9 (some .int) : Cond) ∈ tbG := tb_in (List.mem_of_getElem? (i := 782) (by decide +kernel)) rfl
theorem wd_789 : (.methodLink "GateStepsLaw" 99 ⟨"GateStepsModel", "tolerance", "(I)Z"⟩ : Cond) ∈ tbG := tb_in (List.mem_of_getElem? (i := 789) (by decide +kernel)) rfl
theorem wd_790 : (.instanceMethod ⟨"GateStepsModel", "tolerance", "(I)Z"⟩ : Cond) ∈ tbG := tb_in (List.mem_of_getElem? (i := 790) (by decide +kernel)) rfl
theorem wd_791 : (.selects "GateStepsModel" ⟨"GateStepsModel", "tolerance", "(I)Z"⟩ ⟨"GateStepsModel", "tolerance", "(I)Z"⟩ : Cond) ∈ tbG := tb_in (List.mem_of_getElem? (i := 791) (by decide +kernel)) rfl
theorem wd_792 : (.code ⟨"GateStepsModel", "tolerance", "(I)Z"⟩ prog_9_method_27_code 2 (some .boolean) : Cond) ∈ tbG := tb_in (List.mem_of_getElem? (i := 792) (by decide +kernel)) rfl
theorem wd_793 : (.methodLink "GateStepsLaw" 102 ⟨"GateStepsModel", "noShow", "(I)I"⟩ : Cond) ∈ tbG := tb_in (List.mem_of_getElem? (i := 793) (by decide +kernel)) rfl
theorem wd_794 : (.instanceMethod ⟨"GateStepsModel", "noShow", "(I)I"⟩ : Cond) ∈ tbG := tb_in (List.mem_of_getElem? (i := 794) (by decide +kernel)) rfl
theorem wd_795 : (.selects "GateStepsModel" ⟨"GateStepsModel", "noShow", "(I)I"⟩ ⟨"GateStepsModel", "noShow", "(I)I"⟩ : Cond) ∈ tbG := tb_in (List.mem_of_getElem? (i := 795) (by decide +kernel)) rfl
theorem wd_796 : (.code ⟨"GateStepsModel", "noShow", "(I)I"⟩ prog_9_method_28_code 4 (some .int) : Cond) ∈ tbG := tb_in (List.mem_of_getElem? (i := 796) (by decide +kernel)) rfl
theorem wd_797 : (.methodLink "GateStepsLaw" 105 ⟨"GateStepsModel", "change", "(II)I"⟩ : Cond) ∈ tbG := tb_in (List.mem_of_getElem? (i := 797) (by decide +kernel)) rfl
theorem wd_798 : (.instanceMethod ⟨"GateStepsModel", "change", "(II)I"⟩ : Cond) ∈ tbG := tb_in (List.mem_of_getElem? (i := 798) (by decide +kernel)) rfl
theorem wd_799 : (.selects "GateStepsModel" ⟨"GateStepsModel", "change", "(II)I"⟩ ⟨"GateStepsModel", "change", "(II)I"⟩ : Cond) ∈ tbG := tb_in (List.mem_of_getElem? (i := 799) (by decide +kernel)) rfl
theorem wd_800 : (.code ⟨"GateStepsModel", "change", "(II)I"⟩ prog_9_method_29_code 3 (some .int) : Cond) ∈ tbG := tb_in (List.mem_of_getElem? (i := 800) (by decide +kernel)) rfl
theorem wd_801 : (.methodLink "GateStepsLaw" 109 ⟨"GateStepsModel", "queue", "(II)I"⟩ : Cond) ∈ tbG := tb_in (List.mem_of_getElem? (i := 801) (by decide +kernel)) rfl
theorem wd_802 : (.instanceMethod ⟨"GateStepsModel", "queue", "(II)I"⟩ : Cond) ∈ tbG := tb_in (List.mem_of_getElem? (i := 802) (by decide +kernel)) rfl
theorem wd_803 : (.selects "GateStepsModel" ⟨"GateStepsModel", "queue", "(II)I"⟩ ⟨"GateStepsModel", "queue", "(II)I"⟩ : Cond) ∈ tbG := tb_in (List.mem_of_getElem? (i := 803) (by decide +kernel)) rfl
theorem wd_804 : (.code ⟨"GateStepsModel", "queue", "(II)I"⟩ prog_9_method_30_code 3 (some .int) : Cond) ∈ tbG := tb_in (List.mem_of_getElem? (i := 804) (by decide +kernel)) rfl
theorem wd_805 : (.methodLink "GateStepsLaw" 112 ⟨"GateStepsModel", "look", "(II)I"⟩ : Cond) ∈ tbG := tb_in (List.mem_of_getElem? (i := 805) (by decide +kernel)) rfl
theorem wd_806 : (.instanceMethod ⟨"GateStepsModel", "look", "(II)I"⟩ : Cond) ∈ tbG := tb_in (List.mem_of_getElem? (i := 806) (by decide +kernel)) rfl
theorem wd_807 : (.selects "GateStepsModel" ⟨"GateStepsModel", "look", "(II)I"⟩ ⟨"GateStepsModel", "look", "(II)I"⟩ : Cond) ∈ tbG := tb_in (List.mem_of_getElem? (i := 807) (by decide +kernel)) rfl
theorem wd_808 : (.code ⟨"GateStepsModel", "look", "(II)I"⟩ prog_9_method_31_code 3 (some .int) : Cond) ∈ tbG := tb_in (List.mem_of_getElem? (i := 808) (by decide +kernel)) rfl
theorem wd_809 : (.methodLink "GateStepsLaw" 115 ⟨"GateStepsModel", "at", "(II)I"⟩ : Cond) ∈ tbG := tb_in (List.mem_of_getElem? (i := 809) (by decide +kernel)) rfl
theorem wd_810 : (.instanceMethod ⟨"GateStepsModel", "at", "(II)I"⟩ : Cond) ∈ tbG := tb_in (List.mem_of_getElem? (i := 810) (by decide +kernel)) rfl
theorem wd_811 : (.selects "GateStepsModel" ⟨"GateStepsModel", "at", "(II)I"⟩ ⟨"GateStepsModel", "at", "(II)I"⟩ : Cond) ∈ tbG := tb_in (List.mem_of_getElem? (i := 811) (by decide +kernel)) rfl
theorem wd_812 : (.code ⟨"GateStepsModel", "at", "(II)I"⟩ prog_9_method_32_code 3 (some .int) : Cond) ∈ tbG := tb_in (List.mem_of_getElem? (i := 812) (by decide +kernel)) rfl
theorem wd_813 : (.methodLink "GateStepsLaw" 119 ⟨"GateStepsModel", "count", "(I)I"⟩ : Cond) ∈ tbG := tb_in (List.mem_of_getElem? (i := 813) (by decide +kernel)) rfl
theorem wd_814 : (.instanceMethod ⟨"GateStepsModel", "count", "(I)I"⟩ : Cond) ∈ tbG := tb_in (List.mem_of_getElem? (i := 814) (by decide +kernel)) rfl
theorem wd_815 : (.selects "GateStepsModel" ⟨"GateStepsModel", "count", "(I)I"⟩ ⟨"GateStepsModel", "count", "(I)I"⟩ : Cond) ∈ tbG := tb_in (List.mem_of_getElem? (i := 815) (by decide +kernel)) rfl
theorem wd_816 : (.code ⟨"GateStepsModel", "count", "(I)I"⟩ prog_9_method_33_code 2 (some .int) : Cond) ∈ tbG := tb_in (List.mem_of_getElem? (i := 816) (by decide +kernel)) rfl
