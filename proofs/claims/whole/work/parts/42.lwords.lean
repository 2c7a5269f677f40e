theorem wd_270 : (.classLink "GateStepsLaw" 13 "java/lang/IllegalArgumentException" : Cond) ∈ tbG := tb_in (List.mem_of_getElem? (i := 270) (by decide +kernel)) rfl
theorem wd_271 : (.classLink "GateStepsLaw" 15 "java/lang/IllegalStateException" : Cond) ∈ tbG := tb_in (List.mem_of_getElem? (i := 271) (by decide +kernel)) rfl
theorem wd_272 : (.methodLink "GateStepsLaw" 7 ⟨"GateSteps", "sign", "(I)I"⟩ : Cond) ∈ tbG := tb_in (List.mem_of_getElem? (i := 272) (by decide +kernel)) rfl
theorem wd_273 : (.instanceMethod ⟨"GateSteps", "sign", "(I)I"⟩ : Cond) ∈ tbG := tb_in (List.mem_of_getElem? (i := 273) (by decide +kernel)) rfl
theorem wd_274 : (.selects "GateSteps" ⟨"GateSteps", "sign", "(I)I"⟩ ⟨"GateSteps", "sign", "(I)I"⟩ : Cond) ∈ tbG := tb_in (List.mem_of_getElem? (i := 274) (by decide +kernel)) rfl
theorem wd_275 : (.code ⟨"GateSteps", "sign", "(I)I"⟩ prog_1_method_2_code 2 (some .int) : Cond) ∈ tbG := tb_in (List.mem_of_getElem? (i := 275) (by decide +kernel)) rfl
theorem wd_377 : (.methodLink "GateStepsLaw" 17 ⟨"GateSteps", "box", "(IZ)I"⟩ : Cond) ∈ tbG := tb_in (List.mem_of_getElem? (i := 377) (by decide +kernel)) rfl
theorem wd_378 : (.instanceMethod ⟨"GateSteps", "box", "(IZ)I"⟩ : Cond) ∈ tbG := tb_in (List.mem_of_getElem? (i := 378) (by decide +kernel)) rfl
theorem wd_379 : (.selects "GateSteps" ⟨"GateSteps", "box", "(IZ)I"⟩ ⟨"GateSteps", "box", "(IZ)I"⟩ : Cond) ∈ tbG := tb_in (List.mem_of_getElem? (i := 379) (by decide +kernel)) rfl
theorem wd_380 : (.code ⟨"GateSteps", "box", "(IZ)I"⟩ prog_1_method_5_code 4 (some .int) : Cond) ∈ tbG := tb_in (List.mem_of_getElem? (i := 380) (by decide +kernel)) rfl
theorem wd_409 : (.classLink "GateStepsLaw" 25 "java/lang/IndexOutOfBoundsException" : Cond) ∈ tbG := tb_in (List.mem_of_getElem? (i := 409) (by decide +kernel)) rfl
theorem wd_410 : (.methodLink "GateStepsLaw" 21 ⟨"GateSteps", "check", "(III)I"⟩ : Cond) ∈ tbG := tb_in (List.mem_of_getElem? (i := 410) (by decide +kernel)) rfl
theorem wd_411 : (.instanceMethod ⟨"GateSteps", "check", "(III)I"⟩ : Cond) ∈ tbG := tb_in (List.mem_of_getElem? (i := 411) (by decide +kernel)) rfl
theorem wd_412 : (.selects "GateSteps" ⟨"GateSteps", "check", "(III)I"⟩ ⟨"GateSteps", "check", "(III)I"⟩ : Cond) ∈ tbG := tb_in (List.mem_of_getElem? (i := 412) (by decide +kernel)) rfl
theorem wd_413 : (.code ⟨"GateSteps", "check", "(III)I"⟩ prog_1_method_6_code 4 (some .int) : Cond) ∈ tbG := tb_in (List.mem_of_getElem? (i := 413) (by decide +kernel)) rfl
theorem wd_468 : (.methodLink "GateStepsLaw" 27 ⟨"GateSteps", "book", "(III)I"⟩ : Cond) ∈ tbG := tb_in (List.mem_of_getElem? (i := 468) (by decide +kernel)) rfl
theorem wd_469 : (.instanceMethod ⟨"GateSteps", "book", "(III)I"⟩ : Cond) ∈ tbG := tb_in (List.mem_of_getElem? (i := 469) (by decide +kernel)) rfl
theorem wd_470 : (.selects "GateSteps" ⟨"GateSteps", "book", "(III)I"⟩ ⟨"GateSteps", "book", "(III)I"⟩ : Cond) ∈ tbG := tb_in (List.mem_of_getElem? (i := 470) (by decide +kernel)) rfl
theorem wd_471 : (.code ⟨"GateSteps", "book", "(III)I"⟩ prog_1_method_7_code 4 (some .int) : Cond) ∈ tbG := tb_in (List.mem_of_getElem? (i := 471) (by decide +kernel)) rfl
theorem wd_502 : (.methodLink "GateStepsLaw" 30 ⟨"GateSteps", "through", "(II)I"⟩ : Cond) ∈ tbG := tb_in (List.mem_of_getElem? (i := 502) (by decide +kernel)) rfl
theorem wd_503 : (.instanceMethod ⟨"GateSteps", "through", "(II)I"⟩ : Cond) ∈ tbG := tb_in (List.mem_of_getElem? (i := 503) (by decide +kernel)) rfl
theorem wd_504 : (.selects "GateSteps" ⟨"GateSteps", "through", "(II)I"⟩ ⟨"GateSteps", "through", "(II)I"⟩ : Cond) ∈ tbG := tb_in (List.mem_of_getElem? (i := 504) (by decide +kernel)) rfl
theorem wd_505 : (.code ⟨"GateSteps", "through", "(II)I"⟩ prog_1_method_8_code 4 (some .int) : Cond) ∈ tbG := tb_in (List.mem_of_getElem? (i := 505) (by decide +kernel)) rfl
theorem wd_559 : (.methodLink "GateStepsLaw" 34 ⟨"GateSteps", "weigh", "(III)I"⟩ : Cond) ∈ tbG := tb_in (List.mem_of_getElem? (i := 559) (by decide +kernel)) rfl
theorem wd_560 : (.instanceMethod ⟨"GateSteps", "weigh", "(III)I"⟩ : Cond) ∈ tbG := tb_in (List.mem_of_getElem? (i := 560) (by decide +kernel)) rfl
theorem wd_561 : (.selects "GateSteps" ⟨"GateSteps", "weigh", "(III)I"⟩ ⟨"GateSteps", "weigh", "(III)I"⟩ : Cond) ∈ tbG := tb_in (List.mem_of_getElem? (i := 561) (by decide +kernel)) rfl
theorem wd_562 : (.code ⟨"GateSteps", "weigh", "(III)I"⟩ prog_1_method_9_code 5 (some .int) : Cond) ∈ tbG := tb_in (List.mem_of_getElem? (i := 562) (by decide +kernel)) rfl
theorem wd_579 : (.methodLink "GateStepsLaw" 37 ⟨"GateSteps", "noShow", "(I)I"⟩ : Cond) ∈ tbG := tb_in (List.mem_of_getElem? (i := 579) (by decide +kernel)) rfl
theorem wd_580 : (.instanceMethod ⟨"GateSteps", "noShow", "(I)I"⟩ : Cond) ∈ tbG := tb_in (List.mem_of_getElem? (i := 580) (by decide +kernel)) rfl
theorem wd_581 : (.selects "GateSteps" ⟨"GateSteps", "noShow", "(I)I"⟩ ⟨"GateSteps", "noShow", "(I)I"⟩ : Cond) ∈ tbG := tb_in (List.mem_of_getElem? (i := 581) (by decide +kernel)) rfl
theorem wd_582 : (.code ⟨"GateSteps", "noShow", "(I)I"⟩ prog_1_method_11_code 4 (some .int) : Cond) ∈ tbG := tb_in (List.mem_of_getElem? (i := 582) (by decide +kernel)) rfl
theorem wd_586 : (.methodLink "GateStepsLaw" 40 ⟨"GateSteps", "change", "(II)I"⟩ : Cond) ∈ tbG := tb_in (List.mem_of_getElem? (i := 586) (by decide +kernel)) rfl
theorem wd_587 : (.instanceMethod ⟨"GateSteps", "change", "(II)I"⟩ : Cond) ∈ tbG := tb_in (List.mem_of_getElem? (i := 587) (by decide +kernel)) rfl
theorem wd_588 : (.selects "GateSteps" ⟨"GateSteps", "change", "(II)I"⟩ ⟨"GateSteps", "change", "(II)I"⟩ : Cond) ∈ tbG := tb_in (List.mem_of_getElem? (i := 588) (by decide +kernel)) rfl
theorem wd_589 : (.code ⟨"GateSteps", "change", "(II)I"⟩ prog_1_method_12_code 4 (some .int) : Cond) ∈ tbG := tb_in (List.mem_of_getElem? (i := 589) (by decide +kernel)) rfl
theorem wd_593 : (.methodLink "GateStepsLaw" 43 ⟨"GateSteps", "look", "(II)I"⟩ : Cond) ∈ tbG := tb_in (List.mem_of_getElem? (i := 593) (by decide +kernel)) rfl
theorem wd_594 : (.instanceMethod ⟨"GateSteps", "look", "(II)I"⟩ : Cond) ∈ tbG := tb_in (List.mem_of_getElem? (i := 594) (by decide +kernel)) rfl
theorem wd_595 : (.selects "GateSteps" ⟨"GateSteps", "look", "(II)I"⟩ ⟨"GateSteps", "look", "(II)I"⟩ : Cond) ∈ tbG := tb_in (List.mem_of_getElem? (i := 595) (by decide +kernel)) rfl
theorem wd_596 : (.code ⟨"GateSteps", "look", "(II)I"⟩ prog_1_method_14_code 3 (some .int) : Cond) ∈ tbG := tb_in (List.mem_of_getElem? (i := 596) (by decide +kernel)) rfl
theorem wd_601 : (.methodLink "GateStepsLaw" 46 ⟨"GateSteps", "at", "(II)I"⟩ : Cond) ∈ tbG := tb_in (List.mem_of_getElem? (i := 601) (by decide +kernel)) rfl
theorem wd_602 : (.instanceMethod ⟨"GateSteps", "at", "(II)I"⟩ : Cond) ∈ tbG := tb_in (List.mem_of_getElem? (i := 602) (by decide +kernel)) rfl
theorem wd_603 : (.selects "GateSteps" ⟨"GateSteps", "at", "(II)I"⟩ ⟨"GateSteps", "at", "(II)I"⟩ : Cond) ∈ tbG := tb_in (List.mem_of_getElem? (i := 603) (by decide +kernel)) rfl
theorem wd_604 : (.code ⟨"GateSteps", "at", "(II)I"⟩ prog_1_method_15_code 3 (some .int) : Cond) ∈ tbG := tb_in (List.mem_of_getElem? (i := 604) (by decide +kernel)) rfl
