theorem wd_18 : (.selects "GateStepsModel" ⟨"GateStepsModel", "fails", "(I)I"⟩ ⟨"GateStepsModel", "fails", "(I)I"⟩ : Cond) ∈ tbG := tb_in (List.mem_of_getElem? (i := 18) (by decide +kernel)) rfl
theorem wd_19 : (.selects "GateStepsModel" ⟨"GateStepsModel", "checkLetter", "()I"⟩ ⟨"GateStepsModel", "checkLetter", "()I"⟩ : Cond) ∈ tbG := tb_in (List.mem_of_getElem? (i := 19) (by decide +kernel)) rfl
theorem wd_20 : (.selects "GateStepsModel" ⟨"GateStepsModel", "isKnown", "()Z"⟩ ⟨"GateStepsModel", "isKnown", "()Z"⟩ : Cond) ∈ tbG := tb_in (List.mem_of_getElem? (i := 20) (by decide +kernel)) rfl
theorem wd_21 : (.selects "GateStepsModel" ⟨"GateStepsModel", "isSlot", "(I)Z"⟩ ⟨"GateStepsModel", "isSlot", "(I)Z"⟩ : Cond) ∈ tbG := tb_in (List.mem_of_getElem? (i := 21) (by decide +kernel)) rfl
theorem wd_22 : (.selects "GateStepsModel" ⟨"GateStepsModel", "full", "(I)I"⟩ ⟨"GateStepsModel", "full", "(I)I"⟩ : Cond) ∈ tbG := tb_in (List.mem_of_getElem? (i := 22) (by decide +kernel)) rfl
theorem wd_23 : (.selects "GateStepsModel" ⟨"GateStepsModel", "inSlot", "(I)I"⟩ ⟨"GateStepsModel", "inSlot", "(I)I"⟩ : Cond) ∈ tbG := tb_in (List.mem_of_getElem? (i := 23) (by decide +kernel)) rfl
theorem wd_24 : (.selects "GateStepsModel" ⟨"GateStepsModel", "isBooking", "(I)Z"⟩ ⟨"GateStepsModel", "isBooking", "(I)Z"⟩ : Cond) ∈ tbG := tb_in (List.mem_of_getElem? (i := 24) (by decide +kernel)) rfl
theorem wd_25 : (.selects "GateStepsModel" ⟨"GateStepsModel", "isTime", "(I)Z"⟩ ⟨"GateStepsModel", "isTime", "(I)Z"⟩ : Cond) ∈ tbG := tb_in (List.mem_of_getElem? (i := 25) (by decide +kernel)) rfl
theorem wd_26 : (.selects "GateStepsModel" ⟨"GateStepsModel", "bar", "(I)I"⟩ ⟨"GateStepsModel", "bar", "(I)I"⟩ : Cond) ∈ tbG := tb_in (List.mem_of_getElem? (i := 26) (by decide +kernel)) rfl
theorem wd_27 : (.selects "GateStepsModel" ⟨"GateStepsModel", "verdictOf", "(II)I"⟩ ⟨"GateStepsModel", "verdictOf", "(II)I"⟩ : Cond) ∈ tbG := tb_in (List.mem_of_getElem? (i := 27) (by decide +kernel)) rfl
theorem wd_28 : (.selects "GateStepsModel" ⟨"GateStepsModel", "isTruckIn", "(I)Z"⟩ ⟨"GateStepsModel", "isTruckIn", "(I)Z"⟩ : Cond) ∈ tbG := tb_in (List.mem_of_getElem? (i := 28) (by decide +kernel)) rfl
theorem wd_29 : (.selects "GateStepsModel" ⟨"GateStepsModel", "inLane", "(I)I"⟩ ⟨"GateStepsModel", "inLane", "(I)I"⟩ : Cond) ∈ tbG := tb_in (List.mem_of_getElem? (i := 29) (by decide +kernel)) rfl
theorem wd_30 : (.selects "GateStepsModel" ⟨"GateStepsModel", "comes", "(II)V"⟩ ⟨"GateStepsModel", "comes", "(II)V"⟩ : Cond) ∈ tbG := tb_in (List.mem_of_getElem? (i := 30) (by decide +kernel)) rfl
theorem wd_31 : (.selects "GateStepsModel" ⟨"GateStepsModel", "inOrder", "(II)I"⟩ ⟨"GateStepsModel", "inOrder", "(II)I"⟩ : Cond) ∈ tbG := tb_in (List.mem_of_getElem? (i := 31) (by decide +kernel)) rfl
theorem wd_41 : (.initialized "GateStepsModel" : Cond) ∈ tbG := tb_in (List.mem_of_getElem? (i := 41) (by decide +kernel)) rfl
theorem wd_612 : (.fieldLink "GateStepsModel" 60 "GateStepsModel" "thrown" "I" : Cond) ∈ tbG := tb_in (List.mem_of_getElem? (i := 612) (by decide +kernel)) rfl
theorem wd_613 : (.fieldLink "GateStepsModel" 54 "GateStepsModel" "slots" "I" : Cond) ∈ tbG := tb_in (List.mem_of_getElem? (i := 613) (by decide +kernel)) rfl
theorem wd_614 : (.fieldLink "GateStepsModel" 57 "GateStepsModel" "most" "I" : Cond) ∈ tbG := tb_in (List.mem_of_getElem? (i := 614) (by decide +kernel)) rfl
theorem wd_615 : (.fieldLink "GateStepsModel" 66 "GateStepsModel" "now" "I" : Cond) ∈ tbG := tb_in (List.mem_of_getElem? (i := 615) (by decide +kernel)) rfl
theorem wd_616 : (.fieldLink "GateStepsModel" 7 "GateStepsModel" "row" "[I" : Cond) ∈ tbG := tb_in (List.mem_of_getElem? (i := 616) (by decide +kernel)) rfl
theorem wd_617 : (.fieldLink "GateStepsModel" 70 "GateStepsModel" "signs" "I" : Cond) ∈ tbG := tb_in (List.mem_of_getElem? (i := 617) (by decide +kernel)) rfl
theorem wd_618 : (.fieldLink "GateStepsModel" 88 "GateStepsModel" "boxes" "I" : Cond) ∈ tbG := tb_in (List.mem_of_getElem? (i := 618) (by decide +kernel)) rfl
theorem wd_619 : (.fieldLink "GateStepsModel" 13 "GateStepsModel" "number" "[I" : Cond) ∈ tbG := tb_in (List.mem_of_getElem? (i := 619) (by decide +kernel)) rfl
theorem wd_620 : (.fieldLink "GateStepsModel" 16 "GateStepsModel" "weight" "[I" : Cond) ∈ tbG := tb_in (List.mem_of_getElem? (i := 620) (by decide +kernel)) rfl
theorem wd_621 : (.fieldLink "GateStepsModel" 19 "GateStepsModel" "dangerous" "[Z" : Cond) ∈ tbG := tb_in (List.mem_of_getElem? (i := 621) (by decide +kernel)) rfl
theorem wd_622 : (.fieldLink "GateStepsModel" 23 "GateStepsModel" "verdict" "[I" : Cond) ∈ tbG := tb_in (List.mem_of_getElem? (i := 622) (by decide +kernel)) rfl
theorem wd_623 : (.fieldLink "GateStepsModel" 63 "GateStepsModel" "bookings" "I" : Cond) ∈ tbG := tb_in (List.mem_of_getElem? (i := 623) (by decide +kernel)) rfl
theorem wd_624 : (.fieldLink "GateStepsModel" 26 "GateStepsModel" "slot" "[I" : Cond) ∈ tbG := tb_in (List.mem_of_getElem? (i := 624) (by decide +kernel)) rfl
theorem wd_625 : (.fieldLink "GateStepsModel" 29 "GateStepsModel" "truck" "[I" : Cond) ∈ tbG := tb_in (List.mem_of_getElem? (i := 625) (by decide +kernel)) rfl
theorem wd_626 : (.fieldLink "GateStepsModel" 32 "GateStepsModel" "box" "[I" : Cond) ∈ tbG := tb_in (List.mem_of_getElem? (i := 626) (by decide +kernel)) rfl
theorem wd_627 : (.fieldLink "GateStepsModel" 35 "GateStepsModel" "state" "[I" : Cond) ∈ tbG := tb_in (List.mem_of_getElem? (i := 627) (by decide +kernel)) rfl
theorem wd_628 : (.fieldLink "GateStepsModel" 38 "GateStepsModel" "lane" "[I" : Cond) ∈ tbG := tb_in (List.mem_of_getElem? (i := 628) (by decide +kernel)) rfl
theorem wd_629 : (.fieldLink "GateStepsModel" 41 "GateStepsModel" "order" "[I" : Cond) ∈ tbG := tb_in (List.mem_of_getElem? (i := 629) (by decide +kernel)) rfl
theorem wd_630 : (.fieldLink "GateStepsModel" 44 "GateStepsModel" "since" "[I" : Cond) ∈ tbG := tb_in (List.mem_of_getElem? (i := 630) (by decide +kernel)) rfl
theorem wd_631 : (.fieldLink "GateStepsModel" 47 "GateStepsModel" "turn" "[I" : Cond) ∈ tbG := tb_in (List.mem_of_getElem? (i := 631) (by decide +kernel)) rfl
theorem wd_632 : (.fieldLink "GateStepsModel" 111 "GateStepsModel" "came" "I" : Cond) ∈ tbG := tb_in (List.mem_of_getElem? (i := 632) (by decide +kernel)) rfl
theorem wd_633 : (.fieldLink "GateStepsModel" 50 "GateStepsModel" "tolerance" "I" : Cond) ∈ tbG := tb_in (List.mem_of_getElem? (i := 633) (by decide +kernel)) rfl
theorem wd_634 : (.fieldLink "GateStepsModel" 136 "GateStepsModel" "longest" "I" : Cond) ∈ tbG := tb_in (List.mem_of_getElem? (i := 634) (by decide +kernel)) rfl
theorem wd_635 : (.fieldLink "GateStepsModel" 139 "GateStepsModel" "together" "I" : Cond) ∈ tbG := tb_in (List.mem_of_getElem? (i := 635) (by decide +kernel)) rfl
theorem wd_636 : (.fieldLink "GateStepsModel" 142 "GateStepsModel" "done" "I" : Cond) ∈ tbG := tb_in (List.mem_of_getElem? (i := 636) (by decide +kernel)) rfl
theorem wd_696 : (.methodLink "GateStepsModel" 73 ⟨"GateStepsModel", "isLetter", "(I)Z"⟩ : Cond) ∈ tbG := tb_in (List.mem_of_getElem? (i := 696) (by decide +kernel)) rfl
theorem wd_697 : (.static ⟨"GateStepsModel", "isLetter", "(I)Z"⟩ : Cond) ∈ tbG := tb_in (List.mem_of_getElem? (i := 697) (by decide +kernel)) rfl
theorem wd_698 : (.code ⟨"GateStepsModel", "isLetter", "(I)Z"⟩ prog_9_method_7_code 1 (some .boolean) : Cond) ∈ tbG := tb_in (List.mem_of_getElem? (i := 698) (by decide +kernel)) rfl
theorem wd_699 : (.methodLink "GateStepsModel" 77 ⟨"GateStepsModel", "isDigit", "(I)Z"⟩ : Cond) ∈ tbG := tb_in (List.mem_of_getElem? (i := 699) (by decide +kernel)) rfl
theorem wd_700 : (.static ⟨"GateStepsModel", "isDigit", "(I)Z"⟩ : Cond) ∈ tbG := tb_in (List.mem_of_getElem? (i := 700) (by decide +kernel)) rfl
theorem wd_701 : (.code ⟨"GateStepsModel", "isDigit", "(I)Z"⟩ prog_9_method_8_code 1 (some .boolean) : Cond) ∈ tbG := tb_in (List.mem_of_getElem? (i := 701) (by decide +kernel)) rfl
theorem wd_702 : (.methodLink "GateStepsModel" 80 ⟨"GateStepsModel", "fails", "(I)I"⟩ : Cond) ∈ tbG := tb_in (List.mem_of_getElem? (i := 702) (by decide +kernel)) rfl
theorem wd_704 : (.instanceMethod ⟨"GateStepsModel", "fails", "(I)I"⟩ : Cond) ∈ tbG := tb_in (List.mem_of_getElem? (i := 704) (by decide +kernel)) rfl
theorem wd_705 : (.code ⟨"GateStepsModel", "fails", "(I)I"⟩ prog_9_method_3_code 2 (some .int) : Cond) ∈ tbG := tb_in (List.mem_of_getElem? (i := 705) (by decide +kernel)) rfl
theorem wd_714 : (.methodLink "GateStepsModel" 84 ⟨"GateStepsModel", "checkLetter", "()I"⟩ : Cond) ∈ tbG := tb_in (List.mem_of_getElem? (i := 714) (by decide +kernel)) rfl
theorem wd_716 : (.instanceMethod ⟨"GateStepsModel", "checkLetter", "()I"⟩ : Cond) ∈ tbG := tb_in (List.mem_of_getElem? (i := 716) (by decide +kernel)) rfl
theorem wd_717 : (.code ⟨"GateStepsModel", "checkLetter", "()I"⟩ prog_9_method_11_code 3 (some .int) : Cond) ∈ tbG := tb_in (List.mem_of_getElem? (i := 717) (by decide +kernel)) rfl
theorem wd_722 : (.constant "GateStepsModel" 69 100000 : Cond) ∈ tbG := tb_in (List.mem_of_getElem? (i := 722) (by decide +kernel)) rfl
theorem wd_723 : (.methodLink "GateStepsModel" 91 ⟨"GateStepsModel", "isKnown", "()Z"⟩ : Cond) ∈ tbG := tb_in (List.mem_of_getElem? (i := 723) (by decide +kernel)) rfl
theorem wd_725 : (.instanceMethod ⟨"GateStepsModel", "isKnown", "()Z"⟩ : Cond) ∈ tbG := tb_in (List.mem_of_getElem? (i := 725) (by decide +kernel)) rfl
theorem wd_726 : (.code ⟨"GateStepsModel", "isKnown", "()Z"⟩ prog_9_method_13_code 5 (some .boolean) : Cond) ∈ tbG := tb_in (List.mem_of_getElem? (i := 726) (by decide +kernel)) rfl
theorem wd_735 : (.methodLink "GateStepsModel" 98 ⟨"GateStepsModel", "isSlot", "(I)Z"⟩ : Cond) ∈ tbG := tb_in (List.mem_of_getElem? (i := 735) (by decide +kernel)) rfl
theorem wd_737 : (.instanceMethod ⟨"GateStepsModel", "isSlot", "(I)Z"⟩ : Cond) ∈ tbG := tb_in (List.mem_of_getElem? (i := 737) (by decide +kernel)) rfl
theorem wd_738 : (.code ⟨"GateStepsModel", "isSlot", "(I)Z"⟩ prog_9_method_6_code 2 (some .boolean) : Cond) ∈ tbG := tb_in (List.mem_of_getElem? (i := 738) (by decide +kernel)) rfl
theorem wd_739 : (.methodLink "GateStepsModel" 101 ⟨"GateStepsModel", "full", "(I)I"⟩ : Cond) ∈ tbG := tb_in (List.mem_of_getElem? (i := 739) (by decide +kernel)) rfl
theorem wd_741 : (.instanceMethod ⟨"GateStepsModel", "full", "(I)I"⟩ : Cond) ∈ tbG := tb_in (List.mem_of_getElem? (i := 741) (by decide +kernel)) rfl
theorem wd_742 : (.code ⟨"GateStepsModel", "full", "(I)I"⟩ prog_9_method_18_code 3 (some .int) : Cond) ∈ tbG := tb_in (List.mem_of_getElem? (i := 742) (by decide +kernel)) rfl
theorem wd_743 : (.methodLink "GateStepsModel" 95 ⟨"GateStepsModel", "inSlot", "(I)I"⟩ : Cond) ∈ tbG := tb_in (List.mem_of_getElem? (i := 743) (by decide +kernel)) rfl
theorem wd_745 : (.instanceMethod ⟨"GateStepsModel", "inSlot", "(I)I"⟩ : Cond) ∈ tbG := tb_in (List.mem_of_getElem? (i := 745) (by decide +kernel)) rfl
theorem wd_746 : (.code ⟨"GateStepsModel", "inSlot", "(I)I"⟩ prog_9_method_17_code 4 (some .int) : Cond) ∈ tbG := tb_in (List.mem_of_getElem? (i := 746) (by decide +kernel)) rfl
theorem wd_751 : (.methodLink "GateStepsModel" 114 ⟨"GateStepsModel", "isBooking", "(I)Z"⟩ : Cond) ∈ tbG := tb_in (List.mem_of_getElem? (i := 751) (by decide +kernel)) rfl
theorem wd_753 : (.instanceMethod ⟨"GateStepsModel", "isBooking", "(I)Z"⟩ : Cond) ∈ tbG := tb_in (List.mem_of_getElem? (i := 753) (by decide +kernel)) rfl
theorem wd_754 : (.code ⟨"GateStepsModel", "isBooking", "(I)Z"⟩ prog_9_method_4_code 2 (some .boolean) : Cond) ∈ tbG := tb_in (List.mem_of_getElem? (i := 754) (by decide +kernel)) rfl
theorem wd_755 : (.methodLink "GateStepsModel" 117 ⟨"GateStepsModel", "isTime", "(I)Z"⟩ : Cond) ∈ tbG := tb_in (List.mem_of_getElem? (i := 755) (by decide +kernel)) rfl
theorem wd_757 : (.instanceMethod ⟨"GateStepsModel", "isTime", "(I)Z"⟩ : Cond) ∈ tbG := tb_in (List.mem_of_getElem? (i := 757) (by decide +kernel)) rfl
theorem wd_758 : (.code ⟨"GateStepsModel", "isTime", "(I)Z"⟩ prog_9_method_5_code 2 (some .boolean) : Cond) ∈ tbG := tb_in (List.mem_of_getElem? (i := 758) (by decide +kernel)) rfl
theorem wd_759 : (.methodLink "GateStepsModel" 120 ⟨"GateStepsModel", "bar", "(I)I"⟩ : Cond) ∈ tbG := tb_in (List.mem_of_getElem? (i := 759) (by decide +kernel)) rfl
theorem wd_761 : (.instanceMethod ⟨"GateStepsModel", "bar", "(I)I"⟩ : Cond) ∈ tbG := tb_in (List.mem_of_getElem? (i := 761) (by decide +kernel)) rfl
theorem wd_762 : (.code ⟨"GateStepsModel", "bar", "(I)I"⟩ prog_9_method_21_code 5 (some .int) : Cond) ∈ tbG := tb_in (List.mem_of_getElem? (i := 762) (by decide +kernel)) rfl
theorem wd_763 : (.methodLink "GateStepsModel" 104 ⟨"GateStepsModel", "verdictOf", "(II)I"⟩ : Cond) ∈ tbG := tb_in (List.mem_of_getElem? (i := 763) (by decide +kernel)) rfl
theorem wd_765 : (.instanceMethod ⟨"GateStepsModel", "verdictOf", "(II)I"⟩ : Cond) ∈ tbG := tb_in (List.mem_of_getElem? (i := 765) (by decide +kernel)) rfl
theorem wd_766 : (.code ⟨"GateStepsModel", "verdictOf", "(II)I"⟩ prog_9_method_15_code 3 (some .int) : Cond) ∈ tbG := tb_in (List.mem_of_getElem? (i := 766) (by decide +kernel)) rfl
theorem wd_767 : (.methodLink "GateStepsModel" 108 ⟨"GateStepsModel", "isTruckIn", "(I)Z"⟩ : Cond) ∈ tbG := tb_in (List.mem_of_getElem? (i := 767) (by decide +kernel)) rfl
theorem wd_769 : (.instanceMethod ⟨"GateStepsModel", "isTruckIn", "(I)Z"⟩ : Cond) ∈ tbG := tb_in (List.mem_of_getElem? (i := 769) (by decide +kernel)) rfl
theorem wd_770 : (.code ⟨"GateStepsModel", "isTruckIn", "(I)Z"⟩ prog_9_method_20_code 4 (some .boolean) : Cond) ∈ tbG := tb_in (List.mem_of_getElem? (i := 770) (by decide +kernel)) rfl
theorem wd_771 : (.methodLink "GateStepsModel" 123 ⟨"GateStepsModel", "inLane", "(I)I"⟩ : Cond) ∈ tbG := tb_in (List.mem_of_getElem? (i := 771) (by decide +kernel)) rfl
theorem wd_773 : (.instanceMethod ⟨"GateStepsModel", "inLane", "(I)I"⟩ : Cond) ∈ tbG := tb_in (List.mem_of_getElem? (i := 773) (by decide +kernel)) rfl
theorem wd_774 : (.code ⟨"GateStepsModel", "inLane", "(I)I"⟩ prog_9_method_22_code 4 (some .int) : Cond) ∈ tbG := tb_in (List.mem_of_getElem? (i := 774) (by decide +kernel)) rfl
theorem wd_775 : (.methodLink "GateStepsModel" 126 ⟨"GateStepsModel", "comes", "(II)V"⟩ : Cond) ∈ tbG := tb_in (List.mem_of_getElem? (i := 775) (by decide +kernel)) rfl
theorem wd_777 : (.instanceMethod ⟨"GateStepsModel", "comes", "(II)V"⟩ : Cond) ∈ tbG := tb_in (List.mem_of_getElem? (i := 777) (by decide +kernel)) rfl
theorem wd_778 : (.code ⟨"GateStepsModel", "comes", "(II)V"⟩ prog_9_method_23_code 3 none : Cond) ∈ tbG := tb_in (List.mem_of_getElem? (i := 778) (by decide +kernel)) rfl
theorem wd_783 : (.constant "GateStepsModel" 130 200000 : Cond) ∈ tbG := tb_in (List.mem_of_getElem? (i := 783) (by decide +kernel)) rfl
theorem wd_784 : (.methodLink "GateStepsModel" 131 ⟨"GateStepsModel", "inOrder", "(II)I"⟩ : Cond) ∈ tbG := tb_in (List.mem_of_getElem? (i := 784) (by decide +kernel)) rfl
theorem wd_786 : (.instanceMethod ⟨"GateStepsModel", "inOrder", "(II)I"⟩ : Cond) ∈ tbG := tb_in (List.mem_of_getElem? (i := 786) (by decide +kernel)) rfl
theorem wd_787 : (.code ⟨"GateStepsModel", "inOrder", "(II)I"⟩ prog_9_method_25_code 6 (some .int) : Cond) ∈ tbG := tb_in (List.mem_of_getElem? (i := 787) (by decide +kernel)) rfl
theorem wd_788 : (.constantLong "GateStepsModel" 134 (1000 : Int64) : Cond) ∈ tbG := tb_in (List.mem_of_getElem? (i := 788) (by decide +kernel)) rfl
