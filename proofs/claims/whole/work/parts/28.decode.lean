theorem dX7_inLane_9 : decode cX7_inLane 9 = .ok (.if_icmp .gt 37, 3) := by decide +kernel
theorem dX7_inLane_12 : decode cX7_inLane 12 = .ok (.iload_n 2, 1) := by decide +kernel
theorem dX7_inLane_13 : decode cX7_inLane 13 = .ok (.aload_n 0, 1) := by decide +kernel
theorem dX7_inLane_14 : decode cX7_inLane 14 = .ok (.getfield 35, 3) := by decide +kernel
theorem dX7_inLane_17 : decode cX7_inLane 17 = .ok (.iload_n 3, 1) := by decide +kernel
theorem dX7_inLane_18 : decode cX7_inLane 18 = .ok (.iaload, 1) := by decide +kernel
theorem dX7_inLane_19 : decode cX7_inLane 19 = .ok (.iconst 1, 1) := by decide +kernel
theorem dX7_inLane_20 : decode cX7_inLane 20 = .ok (.if_icmp .ne 17, 3) := by decide +kernel
theorem dX7_inLane_23 : decode cX7_inLane 23 = .ok (.aload_n 0, 1) := by decide +kernel
theorem dX7_inLane_24 : decode cX7_inLane 24 = .ok (.getfield 38, 3) := by decide +kernel
theorem dX7_inLane_27 : decode cX7_inLane 27 = .ok (.iload_n 3, 1) := by decide +kernel
theorem dX7_inLane_28 : decode cX7_inLane 28 = .ok (.iaload, 1) := by decide +kernel
theorem dX7_inLane_29 : decode cX7_inLane 29 = .ok (.iload_n 1, 1) := by decide +kernel
theorem dX7_inLane_30 : decode cX7_inLane 30 = .ok (.if_icmp .ne 7, 3) := by decide +kernel
theorem dX7_inLane_33 : decode cX7_inLane 33 = .ok (.iconst 1, 1) := by decide +kernel
theorem dX7_inLane_34 : decode cX7_inLane 34 = .ok (.goto 4, 3) := by decide +kernel
theorem dX7_inLane_37 : decode cX7_inLane 37 = .ok (.iconst 0, 1) := by decide +kernel
theorem dX7_inLane_38 : decode cX7_inLane 38 = .ok (.iadd, 1) := by decide +kernel
theorem dX7_inLane_39 : decode cX7_inLane 39 = .ok (.istore_n 2, 1) := by decide +kernel
theorem dX7_inLane_40 : decode cX7_inLane 40 = .ok (.iinc 3 1, 3) := by decide +kernel
theorem dX7_inLane_43 : decode cX7_inLane 43 = .ok (.goto (-39), 3) := by decide +kernel
theorem dX7_inLane_46 : decode cX7_inLane 46 = .ok (.iload_n 2, 1) := by decide +kernel
theorem dX7_inLane_47 : decode cX7_inLane 47 = .ok (.ireturn, 1) := by decide +kernel
theorem dX7_inOrder_0 : decode cX7_inOrder 0 = .ok (.iconst 1, 1) := by decide +kernel
theorem dX7_inOrder_1 : decode cX7_inOrder 1 = .ok (.istore_n 3, 1) := by decide +kernel
theorem dX7_inOrder_2 : decode cX7_inOrder 2 = .ok (.iload_n 3, 1) := by decide +kernel
theorem dX7_inOrder_3 : decode cX7_inOrder 3 = .ok (.aload_n 0, 1) := by decide +kernel
theorem dX7_inOrder_4 : decode cX7_inOrder 4 = .ok (.getfield 63, 3) := by decide +kernel
theorem dX7_inOrder_7 : decode cX7_inOrder 7 = .ok (.if_icmp .gt 106, 3) := by decide +kernel
theorem dX7_inOrder_10 : decode cX7_inOrder 10 = .ok (.iconst 0, 1) := by decide +kernel
theorem dX7_inOrder_11 : decode cX7_inOrder 11 = .ok (.istore 4, 2) := by decide +kernel
theorem dX7_inOrder_13 : decode cX7_inOrder 13 = .ok (.iconst 1, 1) := by decide +kernel
theorem dX7_inOrder_14 : decode cX7_inOrder 14 = .ok (.istore 5, 2) := by decide +kernel
theorem dX7_inOrder_16 : decode cX7_inOrder 16 = .ok (.iload 5, 2) := by decide +kernel
theorem dX7_inOrder_18 : decode cX7_inOrder 18 = .ok (.aload_n 0, 1) := by decide +kernel
theorem dX7_inOrder_19 : decode cX7_inOrder 19 = .ok (.getfield 63, 3) := by decide +kernel
theorem dX7_inOrder_22 : decode cX7_inOrder 22 = .ok (.if_icmp .gt 57, 3) := by decide +kernel
theorem dX7_inOrder_25 : decode cX7_inOrder 25 = .ok (.iload 4, 2) := by decide +kernel
theorem dX7_inOrder_27 : decode cX7_inOrder 27 = .ok (.aload_n 0, 1) := by decide +kernel
theorem dX7_inOrder_28 : decode cX7_inOrder 28 = .ok (.getfield 35, 3) := by decide +kernel
theorem dX7_inOrder_31 : decode cX7_inOrder 31 = .ok (.iload 5, 2) := by decide +kernel
theorem dX7_inOrder_33 : decode cX7_inOrder 33 = .ok (.iaload, 1) := by decide +kernel
theorem dX7_inOrder_34 : decode cX7_inOrder 34 = .ok (.iconst 1, 1) := by decide +kernel
theorem dX7_inOrder_35 : decode cX7_inOrder 35 = .ok (.if_icmp .ne 34, 3) := by decide +kernel
theorem dX7_inOrder_38 : decode cX7_inOrder 38 = .ok (.aload_n 0, 1) := by decide +kernel
theorem dX7_inOrder_39 : decode cX7_inOrder 39 = .ok (.getfield 38, 3) := by decide +kernel
theorem dX7_inOrder_42 : decode cX7_inOrder 42 = .ok (.iload 5, 2) := by decide +kernel
theorem dX7_inOrder_44 : decode cX7_inOrder 44 = .ok (.iaload, 1) := by decide +kernel
theorem dX7_inOrder_45 : decode cX7_inOrder 45 = .ok (.iload_n 1, 1) := by decide +kernel
theorem dX7_inOrder_46 : decode cX7_inOrder 46 = .ok (.if_icmp .ne 23, 3) := by decide +kernel
theorem dX7_inOrder_49 : decode cX7_inOrder 49 = .ok (.aload_n 0, 1) := by decide +kernel
theorem dX7_inOrder_50 : decode cX7_inOrder 50 = .ok (.getfield 41, 3) := by decide +kernel
theorem dX7_inOrder_53 : decode cX7_inOrder 53 = .ok (.iload 5, 2) := by decide +kernel
theorem dX7_inOrder_55 : decode cX7_inOrder 55 = .ok (.iaload, 1) := by decide +kernel
theorem dX7_inOrder_56 : decode cX7_inOrder 56 = .ok (.aload_n 0, 1) := by decide +kernel
theorem dX7_inOrder_57 : decode cX7_inOrder 57 = .ok (.getfield 41, 3) := by decide +kernel
theorem dX7_inOrder_60 : decode cX7_inOrder 60 = .ok (.iload_n 3, 1) := by decide +kernel
theorem dX7_inOrder_61 : decode cX7_inOrder 61 = .ok (.iaload, 1) := by decide +kernel
theorem dX7_inOrder_62 : decode cX7_inOrder 62 = .ok (.if_icmp .ge 7, 3) := by decide +kernel
theorem dX7_inOrder_65 : decode cX7_inOrder 65 = .ok (.iconst 1, 1) := by decide +kernel
theorem dX7_inOrder_66 : decode cX7_inOrder 66 = .ok (.goto 4, 3) := by decide +kernel
theorem dX7_inOrder_69 : decode cX7_inOrder 69 = .ok (.iconst 0, 1) := by decide +kernel
theorem dX7_inOrder_70 : decode cX7_inOrder 70 = .ok (.iadd, 1) := by decide +kernel
theorem dX7_inOrder_71 : decode cX7_inOrder 71 = .ok (.istore 4, 2) := by decide +kernel
theorem dX7_inOrder_73 : decode cX7_inOrder 73 = .ok (.iinc 5 1, 3) := by decide +kernel
theorem dX7_inOrder_76 : decode cX7_inOrder 76 = .ok (.goto (-60), 3) := by decide +kernel
theorem dX7_inOrder_79 : decode cX7_inOrder 79 = .ok (.aload_n 0, 1) := by decide +kernel
theorem dX7_inOrder_80 : decode cX7_inOrder 80 = .ok (.getfield 35, 3) := by decide +kernel
theorem dX7_inOrder_83 : decode cX7_inOrder 83 = .ok (.iload_n 3, 1) := by decide +kernel
theorem dX7_inOrder_84 : decode cX7_inOrder 84 = .ok (.iaload, 1) := by decide +kernel
theorem dX7_inOrder_85 : decode cX7_inOrder 85 = .ok (.iconst 1, 1) := by decide +kernel
theorem dX7_inOrder_86 : decode cX7_inOrder 86 = .ok (.if_icmp .ne 21, 3) := by decide +kernel
theorem dX7_inOrder_89 : decode cX7_inOrder 89 = .ok (.aload_n 0, 1) := by decide +kernel
theorem dX7_inOrder_90 : decode cX7_inOrder 90 = .ok (.getfield 38, 3) := by decide +kernel
theorem dX7_inOrder_93 : decode cX7_inOrder 93 = .ok (.iload_n 3, 1) := by decide +kernel
theorem dX7_inOrder_94 : decode cX7_inOrder 94 = .ok (.iaload, 1) := by decide +kernel
theorem dX7_inOrder_95 : decode cX7_inOrder 95 = .ok (.iload_n 1, 1) := by decide +kernel
theorem dX7_inOrder_96 : decode cX7_inOrder 96 = .ok (.if_icmp .ne 11, 3) := by decide +kernel
theorem dX7_inOrder_99 : decode cX7_inOrder 99 = .ok (.iload 4, 2) := by decide +kernel
theorem dX7_inOrder_101 : decode cX7_inOrder 101 = .ok (.iload_n 2, 1) := by decide +kernel
theorem dX7_inOrder_102 : decode cX7_inOrder 102 = .ok (.if_icmp .ne 5, 3) := by decide +kernel
theorem dX7_inOrder_105 : decode cX7_inOrder 105 = .ok (.iload_n 3, 1) := by decide +kernel
theorem dX7_inOrder_106 : decode cX7_inOrder 106 = .ok (.ireturn, 1) := by decide +kernel
theorem dX7_inOrder_107 : decode cX7_inOrder 107 = .ok (.iinc 3 1, 3) := by decide +kernel
theorem dX7_inOrder_110 : decode cX7_inOrder 110 = .ok (.goto (-108), 3) := by decide +kernel
theorem dX7_inOrder_113 : decode cX7_inOrder 113 = .ok (.iconst (-1), 1) := by decide +kernel
theorem dX7_inOrder_114 : decode cX7_inOrder 114 = .ok (.ireturn, 1) := by decide +kernel
theorem dX7_inSlot_0 : decode cX7_inSlot 0 = .ok (.iconst 0, 1) := by decide +kernel
theorem dX7_inSlot_1 : decode cX7_inSlot 1 = .ok (.istore_n 2, 1) := by decide +kernel
theorem dX7_inSlot_2 : decode cX7_inSlot 2 = .ok (.iconst 1, 1) := by decide +kernel
theorem dX7_inSlot_3 : decode cX7_inSlot 3 = .ok (.istore_n 3, 1) := by decide +kernel
theorem dX7_inSlot_4 : decode cX7_inSlot 4 = .ok (.iload_n 3, 1) := by decide +kernel
theorem dX7_inSlot_5 : decode cX7_inSlot 5 = .ok (.aload_n 0, 1) := by decide +kernel
theorem dX7_inSlot_6 : decode cX7_inSlot 6 = .ok (.getfield 63, 3) := by decide +kernel
theorem dX7_inSlot_9 : decode cX7_inSlot 9 = .ok (.if_icmp .gt 37, 3) := by decide +kernel
theorem dX7_inSlot_12 : decode cX7_inSlot 12 = .ok (.iload_n 2, 1) := by decide +kernel
theorem dX7_inSlot_13 : decode cX7_inSlot 13 = .ok (.aload_n 0, 1) := by decide +kernel
theorem dX7_inSlot_14 : decode cX7_inSlot 14 = .ok (.getfield 26, 3) := by decide +kernel
theorem dX7_inSlot_17 : decode cX7_inSlot 17 = .ok (.iload_n 3, 1) := by decide +kernel
theorem dX7_inSlot_18 : decode cX7_inSlot 18 = .ok (.iaload, 1) := by decide +kernel
theorem dX7_inSlot_19 : decode cX7_inSlot 19 = .ok (.iload_n 1, 1) := by decide +kernel
theorem dX7_inSlot_20 : decode cX7_inSlot 20 = .ok (.if_icmp .ne 17, 3) := by decide +kernel
theorem dX7_inSlot_23 : decode cX7_inSlot 23 = .ok (.aload_n 0, 1) := by decide +kernel
theorem dX7_inSlot_24 : decode cX7_inSlot 24 = .ok (.getfield 35, 3) := by decide +kernel
theorem dX7_inSlot_27 : decode cX7_inSlot 27 = .ok (.iload_n 3, 1) := by decide +kernel
theorem dX7_inSlot_28 : decode cX7_inSlot 28 = .ok (.iaload, 1) := by decide +kernel
theorem dX7_inSlot_29 : decode cX7_inSlot 29 = .ok (.iconst 3, 1) := by decide +kernel
theorem dX7_inSlot_30 : decode cX7_inSlot 30 = .ok (.if_icmp .eq 7, 3) := by decide +kernel
theorem dX7_inSlot_33 : decode cX7_inSlot 33 = .ok (.iconst 1, 1) := by decide +kernel
theorem dX7_inSlot_34 : decode cX7_inSlot 34 = .ok (.goto 4, 3) := by decide +kernel
theorem dX7_inSlot_37 : decode cX7_inSlot 37 = .ok (.iconst 0, 1) := by decide +kernel
theorem dX7_inSlot_38 : decode cX7_inSlot 38 = .ok (.iadd, 1) := by decide +kernel
theorem dX7_inSlot_39 : decode cX7_inSlot 39 = .ok (.istore_n 2, 1) := by decide +kernel
theorem dX7_inSlot_40 : decode cX7_inSlot 40 = .ok (.iinc 3 1, 3) := by decide +kernel
theorem dX7_inSlot_43 : decode cX7_inSlot 43 = .ok (.goto (-39), 3) := by decide +kernel
theorem dX7_inSlot_46 : decode cX7_inSlot 46 = .ok (.iload_n 2, 1) := by decide +kernel
theorem dX7_inSlot_47 : decode cX7_inSlot 47 = .ok (.ireturn, 1) := by decide +kernel
theorem dX7_isBooking_0 : decode cX7_isBooking 0 = .ok (.iload_n 1, 1) := by decide +kernel
theorem dX7_isBooking_1 : decode cX7_isBooking 1 = .ok (.iconst 1, 1) := by decide +kernel
theorem dX7_isBooking_2 : decode cX7_isBooking 2 = .ok (.if_icmp .lt 15, 3) := by decide +kernel
theorem dX7_isBooking_5 : decode cX7_isBooking 5 = .ok (.iload_n 1, 1) := by decide +kernel
theorem dX7_isBooking_6 : decode cX7_isBooking 6 = .ok (.aload_n 0, 1) := by decide +kernel
theorem dX7_isBooking_7 : decode cX7_isBooking 7 = .ok (.getfield 63, 3) := by decide +kernel
theorem dX7_isBooking_10 : decode cX7_isBooking 10 = .ok (.if_icmp .gt 7, 3) := by decide +kernel
theorem dX7_isBooking_13 : decode cX7_isBooking 13 = .ok (.iconst 1, 1) := by decide +kernel
theorem dX7_isBooking_14 : decode cX7_isBooking 14 = .ok (.goto 4, 3) := by decide +kernel
theorem dX7_isBooking_17 : decode cX7_isBooking 17 = .ok (.iconst 0, 1) := by decide +kernel
theorem dX7_isBooking_18 : decode cX7_isBooking 18 = .ok (.ireturn, 1) := by decide +kernel
theorem dX7_isDigit_0 : decode cX7_isDigit 0 = .ok (.iload_n 0, 1) := by decide +kernel
theorem dX7_isDigit_1 : decode cX7_isDigit 1 = .ok (.bipush 48, 2) := by decide +kernel
theorem dX7_isDigit_3 : decode cX7_isDigit 3 = .ok (.if_icmp .lt 13, 3) := by decide +kernel
theorem dX7_isDigit_6 : decode cX7_isDigit 6 = .ok (.iload_n 0, 1) := by decide +kernel
theorem dX7_isDigit_7 : decode cX7_isDigit 7 = .ok (.bipush 57, 2) := by decide +kernel
theorem dX7_isDigit_9 : decode cX7_isDigit 9 = .ok (.if_icmp .gt 7, 3) := by decide +kernel
theorem dX7_isDigit_12 : decode cX7_isDigit 12 = .ok (.iconst 1, 1) := by decide +kernel
theorem dX7_isDigit_13 : decode cX7_isDigit 13 = .ok (.goto 4, 3) := by decide +kernel
theorem dX7_isDigit_16 : decode cX7_isDigit 16 = .ok (.iconst 0, 1) := by decide +kernel
theorem dX7_isDigit_17 : decode cX7_isDigit 17 = .ok (.ireturn, 1) := by decide +kernel
theorem dX7_isKnown_0 : decode cX7_isKnown 0 = .ok (.iconst 0, 1) := by decide +kernel
theorem dX7_isKnown_1 : decode cX7_isKnown 1 = .ok (.istore_n 1, 1) := by decide +kernel
theorem dX7_isKnown_2 : decode cX7_isKnown 2 = .ok (.iconst 0, 1) := by decide +kernel
theorem dX7_isKnown_3 : decode cX7_isKnown 3 = .ok (.istore_n 2, 1) := by decide +kernel
theorem dX7_isKnown_4 : decode cX7_isKnown 4 = .ok (.iload_n 2, 1) := by decide +kernel
theorem dX7_isKnown_5 : decode cX7_isKnown 5 = .ok (.aload_n 0, 1) := by decide +kernel
theorem dX7_isKnown_6 : decode cX7_isKnown 6 = .ok (.getfield 88, 3) := by decide +kernel
theorem dX7_isKnown_9 : decode cX7_isKnown 9 = .ok (.if_icmp .ge 73, 3) := by decide +kernel
theorem dX7_isKnown_12 : decode cX7_isKnown 12 = .ok (.iconst 1, 1) := by decide +kernel
theorem dX7_isKnown_13 : decode cX7_isKnown 13 = .ok (.istore_n 3, 1) := by decide +kernel
theorem dX7_isKnown_14 : decode cX7_isKnown 14 = .ok (.iconst 0, 1) := by decide +kernel
theorem dX7_isKnown_15 : decode cX7_isKnown 15 = .ok (.istore 4, 2) := by decide +kernel
theorem dX7_isKnown_17 : decode cX7_isKnown 17 = .ok (.iload 4, 2) := by decide +kernel
theorem dX7_isKnown_19 : decode cX7_isKnown 19 = .ok (.bipush 10, 2) := by decide +kernel
theorem dX7_isKnown_21 : decode cX7_isKnown 21 = .ok (.if_icmp .ge 41, 3) := by decide +kernel
theorem dX7_isKnown_24 : decode cX7_isKnown 24 = .ok (.iload_n 3, 1) := by decide +kernel
theorem dX7_isKnown_25 : decode cX7_isKnown 25 = .ok (.ifCond .eq 29, 3) := by decide +kernel
theorem dX7_isKnown_28 : decode cX7_isKnown 28 = .ok (.aload_n 0, 1) := by decide +kernel
theorem dX7_isKnown_29 : decode cX7_isKnown 29 = .ok (.getfield 13, 3) := by decide +kernel
theorem dX7_isKnown_32 : decode cX7_isKnown 32 = .ok (.bipush 10, 2) := by decide +kernel
theorem dX7_isKnown_34 : decode cX7_isKnown 34 = .ok (.iload_n 2, 1) := by decide +kernel
theorem dX7_isKnown_35 : decode cX7_isKnown 35 = .ok (.imul, 1) := by decide +kernel
theorem dX7_isKnown_36 : decode cX7_isKnown 36 = .ok (.iload 4, 2) := by decide +kernel
theorem dX7_isKnown_38 : decode cX7_isKnown 38 = .ok (.iadd, 1) := by decide +kernel
theorem dX7_isKnown_39 : decode cX7_isKnown 39 = .ok (.iaload, 1) := by decide +kernel
theorem dX7_isKnown_40 : decode cX7_isKnown 40 = .ok (.aload_n 0, 1) := by decide +kernel
theorem dX7_isKnown_41 : decode cX7_isKnown 41 = .ok (.getfield 7, 3) := by decide +kernel
theorem dX7_isKnown_44 : decode cX7_isKnown 44 = .ok (.iload 4, 2) := by decide +kernel
theorem dX7_isKnown_46 : decode cX7_isKnown 46 = .ok (.iaload, 1) := by decide +kernel
theorem dX7_isKnown_47 : decode cX7_isKnown 47 = .ok (.if_icmp .ne 7, 3) := by decide +kernel
theorem dX7_isKnown_50 : decode cX7_isKnown 50 = .ok (.iconst 1, 1) := by decide +kernel
theorem dX7_isKnown_51 : decode cX7_isKnown 51 = .ok (.goto 4, 3) := by decide +kernel
theorem dX7_isKnown_54 : decode cX7_isKnown 54 = .ok (.iconst 0, 1) := by decide +kernel
theorem dX7_isKnown_55 : decode cX7_isKnown 55 = .ok (.istore_n 3, 1) := by decide +kernel
theorem dX7_isKnown_56 : decode cX7_isKnown 56 = .ok (.iinc 4 1, 3) := by decide +kernel
theorem dX7_isKnown_59 : decode cX7_isKnown 59 = .ok (.goto (-42), 3) := by decide +kernel
theorem dX7_isKnown_62 : decode cX7_isKnown 62 = .ok (.iload_n 1, 1) := by decide +kernel
theorem dX7_isKnown_63 : decode cX7_isKnown 63 = .ok (.ifCond .ne 7, 3) := by decide +kernel
theorem dX7_isKnown_66 : decode cX7_isKnown 66 = .ok (.iload_n 3, 1) := by decide +kernel
theorem dX7_isKnown_67 : decode cX7_isKnown 67 = .ok (.ifCond .eq 7, 3) := by decide +kernel
theorem dX7_isKnown_70 : decode cX7_isKnown 70 = .ok (.iconst 1, 1) := by decide +kernel
theorem dX7_isKnown_71 : decode cX7_isKnown 71 = .ok (.goto 4, 3) := by decide +kernel
theorem dX7_isKnown_74 : decode cX7_isKnown 74 = .ok (.iconst 0, 1) := by decide +kernel
theorem dX7_isKnown_75 : decode cX7_isKnown 75 = .ok (.istore_n 1, 1) := by decide +kernel
theorem dX7_isKnown_76 : decode cX7_isKnown 76 = .ok (.iinc 2 1, 3) := by decide +kernel
theorem dX7_isKnown_79 : decode cX7_isKnown 79 = .ok (.goto (-75), 3) := by decide +kernel
theorem dX7_isKnown_82 : decode cX7_isKnown 82 = .ok (.iload_n 1, 1) := by decide +kernel
theorem dX7_isKnown_83 : decode cX7_isKnown 83 = .ok (.ireturn, 1) := by decide +kernel
theorem dX7_isLetter_0 : decode cX7_isLetter 0 = .ok (.iload_n 0, 1) := by decide +kernel
theorem dX7_isLetter_1 : decode cX7_isLetter 1 = .ok (.bipush 65, 2) := by decide +kernel
theorem dX7_isLetter_3 : decode cX7_isLetter 3 = .ok (.if_icmp .lt 13, 3) := by decide +kernel
theorem dX7_isLetter_6 : decode cX7_isLetter 6 = .ok (.iload_n 0, 1) := by decide +kernel
theorem dX7_isLetter_7 : decode cX7_isLetter 7 = .ok (.bipush 90, 2) := by decide +kernel
theorem dX7_isLetter_9 : decode cX7_isLetter 9 = .ok (.if_icmp .gt 7, 3) := by decide +kernel
theorem dX7_isLetter_12 : decode cX7_isLetter 12 = .ok (.iconst 1, 1) := by decide +kernel
theorem dX7_isLetter_13 : decode cX7_isLetter 13 = .ok (.goto 4, 3) := by decide +kernel
theorem dX7_isLetter_16 : decode cX7_isLetter 16 = .ok (.iconst 0, 1) := by decide +kernel
theorem dX7_isLetter_17 : decode cX7_isLetter 17 = .ok (.ireturn, 1) := by decide +kernel
theorem dX7_isSlot_0 : decode cX7_isSlot 0 = .ok (.iload_n 1, 1) := by decide +kernel
theorem dX7_isSlot_1 : decode cX7_isSlot 1 = .ok (.ifCond .lt 15, 3) := by decide +kernel
theorem dX7_isSlot_4 : decode cX7_isSlot 4 = .ok (.iload_n 1, 1) := by decide +kernel
theorem dX7_isSlot_5 : decode cX7_isSlot 5 = .ok (.aload_n 0, 1) := by decide +kernel
theorem dX7_isSlot_6 : decode cX7_isSlot 6 = .ok (.getfield 54, 3) := by decide +kernel
theorem dX7_isSlot_9 : decode cX7_isSlot 9 = .ok (.if_icmp .ge 7, 3) := by decide +kernel
theorem dX7_isSlot_12 : decode cX7_isSlot 12 = .ok (.iconst 1, 1) := by decide +kernel
theorem dX7_isSlot_13 : decode cX7_isSlot 13 = .ok (.goto 4, 3) := by decide +kernel
theorem dX7_isSlot_16 : decode cX7_isSlot 16 = .ok (.iconst 0, 1) := by decide +kernel
theorem dX7_isSlot_17 : decode cX7_isSlot 17 = .ok (.ireturn, 1) := by decide +kernel
theorem dX7_isTime_0 : decode cX7_isTime 0 = .ok (.iload_n 1, 1) := by decide +kernel
theorem dX7_isTime_1 : decode cX7_isTime 1 = .ok (.aload_n 0, 1) := by decide +kernel
theorem dX7_isTime_2 : decode cX7_isTime 2 = .ok (.getfield 66, 3) := by decide +kernel
theorem dX7_isTime_5 : decode cX7_isTime 5 = .ok (.if_icmp .lt 13, 3) := by decide +kernel
theorem dX7_isTime_8 : decode cX7_isTime 8 = .ok (.iload_n 1, 1) := by decide +kernel
theorem dX7_isTime_9 : decode cX7_isTime 9 = .ok (.ldc 69, 2) := by decide +kernel
theorem dX7_isTime_11 : decode cX7_isTime 11 = .ok (.if_icmp .gt 7, 3) := by decide +kernel
theorem dX7_isTime_14 : decode cX7_isTime 14 = .ok (.iconst 1, 1) := by decide +kernel
theorem dX7_isTime_15 : decode cX7_isTime 15 = .ok (.goto 4, 3) := by decide +kernel
theorem dX7_isTime_18 : decode cX7_isTime 18 = .ok (.iconst 0, 1) := by decide +kernel
theorem dX7_isTime_19 : decode cX7_isTime 19 = .ok (.ireturn, 1) := by decide +kernel
theorem dX7_isTruckIn_0 : decode cX7_isTruckIn 0 = .ok (.iconst 0, 1) := by decide +kernel
theorem dX7_isTruckIn_1 : decode cX7_isTruckIn 1 = .ok (.istore_n 2, 1) := by decide +kernel
theorem dX7_isTruckIn_2 : decode cX7_isTruckIn 2 = .ok (.iconst 1, 1) := by decide +kernel
theorem dX7_isTruckIn_3 : decode cX7_isTruckIn 3 = .ok (.istore_n 3, 1) := by decide +kernel
theorem dX7_isTruckIn_4 : decode cX7_isTruckIn 4 = .ok (.iload_n 3, 1) := by decide +kernel
theorem dX7_isTruckIn_5 : decode cX7_isTruckIn 5 = .ok (.aload_n 0, 1) := by decide +kernel
theorem dX7_isTruckIn_6 : decode cX7_isTruckIn 6 = .ok (.getfield 63, 3) := by decide +kernel
theorem dX7_isTruckIn_9 : decode cX7_isTruckIn 9 = .ok (.if_icmp .gt 49, 3) := by decide +kernel
theorem dX7_isTruckIn_12 : decode cX7_isTruckIn 12 = .ok (.iload_n 2, 1) := by decide +kernel
theorem dX7_isTruckIn_13 : decode cX7_isTruckIn 13 = .ok (.ifCond .ne 33, 3) := by decide +kernel
theorem dX7_isTruckIn_16 : decode cX7_isTruckIn 16 = .ok (.iload_n 3, 1) := by decide +kernel
theorem dX7_isTruckIn_17 : decode cX7_isTruckIn 17 = .ok (.iload_n 1, 1) := by decide +kernel
theorem dX7_isTruckIn_18 : decode cX7_isTruckIn 18 = .ok (.if_icmp .eq 32, 3) := by decide +kernel
theorem dX7_isTruckIn_21 : decode cX7_isTruckIn 21 = .ok (.aload_n 0, 1) := by decide +kernel
theorem dX7_isTruckIn_22 : decode cX7_isTruckIn 22 = .ok (.getfield 29, 3) := by decide +kernel
theorem dX7_isTruckIn_25 : decode cX7_isTruckIn 25 = .ok (.iload_n 3, 1) := by decide +kernel
theorem dX7_isTruckIn_26 : decode cX7_isTruckIn 26 = .ok (.iaload, 1) := by decide +kernel
theorem dX7_isTruckIn_27 : decode cX7_isTruckIn 27 = .ok (.aload_n 0, 1) := by decide +kernel
theorem dX7_isTruckIn_28 : decode cX7_isTruckIn 28 = .ok (.getfield 29, 3) := by decide +kernel
theorem dX7_isTruckIn_31 : decode cX7_isTruckIn 31 = .ok (.iload_n 1, 1) := by decide +kernel
theorem dX7_isTruckIn_32 : decode cX7_isTruckIn 32 = .ok (.iaload, 1) := by decide +kernel
theorem dX7_isTruckIn_33 : decode cX7_isTruckIn 33 = .ok (.if_icmp .ne 17, 3) := by decide +kernel
theorem dX7_isTruckIn_36 : decode cX7_isTruckIn 36 = .ok (.aload_n 0, 1) := by decide +kernel
theorem dX7_isTruckIn_37 : decode cX7_isTruckIn 37 = .ok (.getfield 35, 3) := by decide +kernel
theorem dX7_isTruckIn_40 : decode cX7_isTruckIn 40 = .ok (.iload_n 3, 1) := by decide +kernel
theorem dX7_isTruckIn_41 : decode cX7_isTruckIn 41 = .ok (.iaload, 1) := by decide +kernel
theorem dX7_isTruckIn_42 : decode cX7_isTruckIn 42 = .ok (.iconst 1, 1) := by decide +kernel
theorem dX7_isTruckIn_43 : decode cX7_isTruckIn 43 = .ok (.if_icmp .ne 7, 3) := by decide +kernel
theorem dX7_isTruckIn_46 : decode cX7_isTruckIn 46 = .ok (.iconst 1, 1) := by decide +kernel
theorem dX7_isTruckIn_47 : decode cX7_isTruckIn 47 = .ok (.goto 4, 3) := by decide +kernel
theorem dX7_isTruckIn_50 : decode cX7_isTruckIn 50 = .ok (.iconst 0, 1) := by decide +kernel
theorem dX7_isTruckIn_51 : decode cX7_isTruckIn 51 = .ok (.istore_n 2, 1) := by decide +kernel
theorem dX7_isTruckIn_52 : decode cX7_isTruckIn 52 = .ok (.iinc 3 1, 3) := by decide +kernel
theorem dX7_isTruckIn_55 : decode cX7_isTruckIn 55 = .ok (.goto (-51), 3) := by decide +kernel
theorem dX7_isTruckIn_58 : decode cX7_isTruckIn 58 = .ok (.iload_n 2, 1) := by decide +kernel
theorem dX7_isTruckIn_59 : decode cX7_isTruckIn 59 = .ok (.ireturn, 1) := by decide +kernel
theorem dX7_letter_0 : decode cX7_letter 0 = .ok (.aload_n 0, 1) := by decide +kernel
theorem dX7_letter_1 : decode cX7_letter 1 = .ok (.iconst 0, 1) := by decide +kernel
theorem dX7_letter_2 : decode cX7_letter 2 = .ok (.putfield 60, 3) := by decide +kernel
theorem dX7_letter_5 : decode cX7_letter 5 = .ok (.aload_n 0, 1) := by decide +kernel
theorem dX7_letter_6 : decode cX7_letter 6 = .ok (.getfield 70, 3) := by decide +kernel
theorem dX7_letter_9 : decode cX7_letter 9 = .ok (.bipush 10, 2) := by decide +kernel
theorem dX7_letter_11 : decode cX7_letter 11 = .ok (.if_icmp .ge 7, 3) := by decide +kernel
theorem dX7_letter_14 : decode cX7_letter 14 = .ok (.iconst (-1), 1) := by decide +kernel
theorem dX7_letter_15 : decode cX7_letter 15 = .ok (.goto 7, 3) := by decide +kernel
theorem dX7_letter_18 : decode cX7_letter 18 = .ok (.aload_n 0, 1) := by decide +kernel
theorem dX7_letter_19 : decode cX7_letter 19 = .ok (.invokevirtual 84, 3) := by decide +kernel
theorem dX7_letter_22 : decode cX7_letter 22 = .ok (.ireturn, 1) := by decide +kernel
theorem dX7_look_0 : decode cX7_look 0 = .ok (.aload_n 0, 1) := by decide +kernel
theorem dX7_look_1 : decode cX7_look 1 = .ok (.iload_n 1, 1) := by decide +kernel
theorem dX7_look_2 : decode cX7_look 2 = .ok (.invokevirtual 114, 3) := by decide +kernel
theorem dX7_look_5 : decode cX7_look 5 = .ok (.ifCond .eq 12, 3) := by decide +kernel
theorem dX7_look_8 : decode cX7_look 8 = .ok (.iload_n 2, 1) := by decide +kernel
theorem dX7_look_9 : decode cX7_look 9 = .ok (.ifCond .lt 8, 3) := by decide +kernel
theorem dX7_look_12 : decode cX7_look 12 = .ok (.iload_n 2, 1) := by decide +kernel
theorem dX7_look_13 : decode cX7_look 13 = .ok (.iconst 5, 1) := by decide +kernel
theorem dX7_look_14 : decode cX7_look 14 = .ok (.if_icmp .le 9, 3) := by decide +kernel
theorem dX7_look_17 : decode cX7_look 17 = .ok (.aload_n 0, 1) := by decide +kernel
theorem dX7_look_18 : decode cX7_look 18 = .ok (.iconst 1, 1) := by decide +kernel
theorem dX7_look_19 : decode cX7_look 19 = .ok (.invokevirtual 80, 3) := by decide +kernel
theorem dX7_look_22 : decode cX7_look 22 = .ok (.ireturn, 1) := by decide +kernel
theorem dX7_look_23 : decode cX7_look 23 = .ok (.aload_n 0, 1) := by decide +kernel
theorem dX7_look_24 : decode cX7_look 24 = .ok (.iconst 0, 1) := by decide +kernel
theorem dX7_look_25 : decode cX7_look 25 = .ok (.putfield 60, 3) := by decide +kernel
theorem dX7_look_28 : decode cX7_look 28 = .ok (.iload_n 2, 1) := by decide +kernel
theorem dX7_look_29 : decode cX7_look 29 = .ok (.tableswitch 84 0 4 #[35, 42, 49, 56, 63], 35) := by decide +kernel
theorem dX7_look_64 : decode cX7_look 64 = .ok (.aload_n 0, 1) := by decide +kernel
theorem dX7_look_65 : decode cX7_look 65 = .ok (.getfield 26, 3) := by decide +kernel
theorem dX7_look_68 : decode cX7_look 68 = .ok (.iload_n 1, 1) := by decide +kernel
theorem dX7_look_69 : decode cX7_look 69 = .ok (.iaload, 1) := by decide +kernel
theorem dX7_look_70 : decode cX7_look 70 = .ok (.ireturn, 1) := by decide +kernel
theorem dX7_look_71 : decode cX7_look 71 = .ok (.aload_n 0, 1) := by decide +kernel
theorem dX7_look_72 : decode cX7_look 72 = .ok (.getfield 29, 3) := by decide +kernel
theorem dX7_look_75 : decode cX7_look 75 = .ok (.iload_n 1, 1) := by decide +kernel
theorem dX7_look_76 : decode cX7_look 76 = .ok (.iaload, 1) := by decide +kernel
theorem dX7_look_77 : decode cX7_look 77 = .ok (.ireturn, 1) := by decide +kernel
theorem dX7_look_78 : decode cX7_look 78 = .ok (.aload_n 0, 1) := by decide +kernel
theorem dX7_look_79 : decode cX7_look 79 = .ok (.getfield 32, 3) := by decide +kernel
theorem dX7_look_82 : decode cX7_look 82 = .ok (.iload_n 1, 1) := by decide +kernel
theorem dX7_look_83 : decode cX7_look 83 = .ok (.iaload, 1) := by decide +kernel
theorem dX7_look_84 : decode cX7_look 84 = .ok (.ireturn, 1) := by decide +kernel
theorem dX7_look_85 : decode cX7_look 85 = .ok (.aload_n 0, 1) := by decide +kernel
theorem dX7_look_86 : decode cX7_look 86 = .ok (.getfield 35, 3) := by decide +kernel
theorem dX7_look_89 : decode cX7_look 89 = .ok (.iload_n 1, 1) := by decide +kernel
theorem dX7_look_90 : decode cX7_look 90 = .ok (.iaload, 1) := by decide +kernel
theorem dX7_look_91 : decode cX7_look 91 = .ok (.ireturn, 1) := by decide +kernel
theorem dX7_look_92 : decode cX7_look 92 = .ok (.aload_n 0, 1) := by decide +kernel
theorem dX7_look_93 : decode cX7_look 93 = .ok (.getfield 35, 3) := by decide +kernel
theorem dX7_look_96 : decode cX7_look 96 = .ok (.iload_n 1, 1) := by decide +kernel
theorem dX7_look_97 : decode cX7_look 97 = .ok (.iaload, 1) := by decide +kernel
theorem dX7_look_98 : decode cX7_look 98 = .ok (.iconst 1, 1) := by decide +kernel
theorem dX7_look_99 : decode cX7_look 99 = .ok (.if_icmp .ne 12, 3) := by decide +kernel
theorem dX7_look_102 : decode cX7_look 102 = .ok (.aload_n 0, 1) := by decide +kernel
theorem dX7_look_103 : decode cX7_look 103 = .ok (.getfield 38, 3) := by decide +kernel
theorem dX7_look_106 : decode cX7_look 106 = .ok (.iload_n 1, 1) := by decide +kernel
theorem dX7_look_107 : decode cX7_look 107 = .ok (.iaload, 1) := by decide +kernel
theorem dX7_look_108 : decode cX7_look 108 = .ok (.goto 4, 3) := by decide +kernel
theorem dX7_look_111 : decode cX7_look 111 = .ok (.iconst (-1), 1) := by decide +kernel
theorem dX7_look_112 : decode cX7_look 112 = .ok (.ireturn, 1) := by decide +kernel
theorem dX7_look_113 : decode cX7_look 113 = .ok (.aload_n 0, 1) := by decide +kernel
theorem dX7_look_114 : decode cX7_look 114 = .ok (.getfield 47, 3) := by decide +kernel
theorem dX7_look_117 : decode cX7_look 117 = .ok (.iload_n 1, 1) := by decide +kernel
theorem dX7_look_118 : decode cX7_look 118 = .ok (.iaload, 1) := by decide +kernel
theorem dX7_look_119 : decode cX7_look 119 = .ok (.ireturn, 1) := by decide +kernel
theorem dX7_noShow_0 : decode cX7_noShow 0 = .ok (.aload_n 0, 1) := by decide +kernel
theorem dX7_noShow_1 : decode cX7_noShow 1 = .ok (.iload_n 1, 1) := by decide +kernel
theorem dX7_noShow_2 : decode cX7_noShow 2 = .ok (.invokevirtual 117, 3) := by decide +kernel
theorem dX7_noShow_5 : decode cX7_noShow 5 = .ok (.ifCond .ne 9, 3) := by decide +kernel
theorem dX7_noShow_8 : decode cX7_noShow 8 = .ok (.aload_n 0, 1) := by decide +kernel
theorem dX7_noShow_9 : decode cX7_noShow 9 = .ok (.iconst 1, 1) := by decide +kernel
theorem dX7_noShow_10 : decode cX7_noShow 10 = .ok (.invokevirtual 80, 3) := by decide +kernel
theorem dX7_noShow_13 : decode cX7_noShow 13 = .ok (.ireturn, 1) := by decide +kernel
theorem dX7_noShow_14 : decode cX7_noShow 14 = .ok (.aload_n 0, 1) := by decide +kernel
theorem dX7_noShow_15 : decode cX7_noShow 15 = .ok (.iconst 0, 1) := by decide +kernel
theorem dX7_noShow_16 : decode cX7_noShow 16 = .ok (.putfield 60, 3) := by decide +kernel
theorem dX7_noShow_19 : decode cX7_noShow 19 = .ok (.aload_n 0, 1) := by decide +kernel
theorem dX7_noShow_20 : decode cX7_noShow 20 = .ok (.iload_n 1, 1) := by decide +kernel
theorem dX7_noShow_21 : decode cX7_noShow 21 = .ok (.putfield 66, 3) := by decide +kernel
theorem dX7_noShow_24 : decode cX7_noShow 24 = .ok (.iconst 0, 1) := by decide +kernel
theorem dX7_noShow_25 : decode cX7_noShow 25 = .ok (.istore_n 2, 1) := by decide +kernel
theorem dX7_noShow_26 : decode cX7_noShow 26 = .ok (.iconst 1, 1) := by decide +kernel
theorem dX7_noShow_27 : decode cX7_noShow 27 = .ok (.istore_n 3, 1) := by decide +kernel
theorem dX7_noShow_28 : decode cX7_noShow 28 = .ok (.iload_n 3, 1) := by decide +kernel
theorem dX7_noShow_29 : decode cX7_noShow 29 = .ok (.aload_n 0, 1) := by decide +kernel
theorem dX7_noShow_30 : decode cX7_noShow 30 = .ok (.getfield 63, 3) := by decide +kernel
theorem dX7_noShow_33 : decode cX7_noShow 33 = .ok (.if_icmp .gt 52, 3) := by decide +kernel
theorem dX7_noShow_36 : decode cX7_noShow 36 = .ok (.aload_n 0, 1) := by decide +kernel
theorem dX7_noShow_37 : decode cX7_noShow 37 = .ok (.getfield 35, 3) := by decide +kernel
theorem dX7_noShow_40 : decode cX7_noShow 40 = .ok (.iload_n 3, 1) := by decide +kernel
theorem dX7_noShow_41 : decode cX7_noShow 41 = .ok (.iaload, 1) := by decide +kernel
theorem dX7_noShow_42 : decode cX7_noShow 42 = .ok (.ifCond .ne 37, 3) := by decide +kernel
theorem dX7_noShow_45 : decode cX7_noShow 45 = .ok (.aload_n 0, 1) := by decide +kernel
theorem dX7_noShow_46 : decode cX7_noShow 46 = .ok (.getfield 66, 3) := by decide +kernel
theorem dX7_noShow_49 : decode cX7_noShow 49 = .ok (.sipush 600, 3) := by decide +kernel
theorem dX7_noShow_52 : decode cX7_noShow 52 = .ok (.aload_n 0, 1) := by decide +kernel
theorem dX7_noShow_53 : decode cX7_noShow 53 = .ok (.getfield 26, 3) := by decide +kernel
theorem dX7_noShow_56 : decode cX7_noShow 56 = .ok (.iload_n 3, 1) := by decide +kernel
theorem dX7_noShow_57 : decode cX7_noShow 57 = .ok (.iaload, 1) := by decide +kernel
theorem dX7_noShow_58 : decode cX7_noShow 58 = .ok (.imul, 1) := by decide +kernel
theorem dX7_noShow_59 : decode cX7_noShow 59 = .ok (.sipush 599, 3) := by decide +kernel
theorem dX7_noShow_62 : decode cX7_noShow 62 = .ok (.iadd, 1) := by decide +kernel
theorem dX7_noShow_63 : decode cX7_noShow 63 = .ok (.bipush 120, 2) := by decide +kernel
theorem dX7_noShow_65 : decode cX7_noShow 65 = .ok (.iadd, 1) := by decide +kernel
theorem dX7_noShow_66 : decode cX7_noShow 66 = .ok (.if_icmp .le 13, 3) := by decide +kernel
theorem dX7_noShow_69 : decode cX7_noShow 69 = .ok (.aload_n 0, 1) := by decide +kernel
theorem dX7_noShow_70 : decode cX7_noShow 70 = .ok (.getfield 35, 3) := by decide +kernel
theorem dX7_noShow_73 : decode cX7_noShow 73 = .ok (.iload_n 3, 1) := by decide +kernel
theorem dX7_noShow_74 : decode cX7_noShow 74 = .ok (.iconst 3, 1) := by decide +kernel
theorem dX7_noShow_75 : decode cX7_noShow 75 = .ok (.iastore, 1) := by decide +kernel
theorem dX7_noShow_76 : decode cX7_noShow 76 = .ok (.iinc 2 1, 3) := by decide +kernel
theorem dX7_noShow_79 : decode cX7_noShow 79 = .ok (.iinc 3 1, 3) := by decide +kernel
theorem dX7_noShow_82 : decode cX7_noShow 82 = .ok (.goto (-54), 3) := by decide +kernel
theorem dX7_noShow_85 : decode cX7_noShow 85 = .ok (.iload_n 2, 1) := by decide +kernel
theorem dX7_noShow_86 : decode cX7_noShow 86 = .ok (.ireturn, 1) := by decide +kernel
theorem dX7_queue_0 : decode cX7_queue 0 = .ok (.aload_n 0, 1) := by decide +kernel
theorem dX7_queue_1 : decode cX7_queue 1 = .ok (.iconst 0, 1) := by decide +kernel
theorem dX7_queue_2 : decode cX7_queue 2 = .ok (.putfield 60, 3) := by decide +kernel
theorem dX7_queue_5 : decode cX7_queue 5 = .ok (.iload_n 1, 1) := by decide +kernel
theorem dX7_queue_6 : decode cX7_queue 6 = .ok (.ifCond .lt 12, 3) := by decide +kernel
theorem dX7_queue_9 : decode cX7_queue 9 = .ok (.iload_n 1, 1) := by decide +kernel
theorem dX7_queue_10 : decode cX7_queue 10 = .ok (.iconst 2, 1) := by decide +kernel
theorem dX7_queue_11 : decode cX7_queue 11 = .ok (.if_icmp .gt 7, 3) := by decide +kernel
theorem dX7_queue_14 : decode cX7_queue 14 = .ok (.iload_n 2, 1) := by decide +kernel
theorem dX7_queue_15 : decode cX7_queue 15 = .ok (.ifCond .ge 7, 3) := by decide +kernel
theorem dX7_queue_18 : decode cX7_queue 18 = .ok (.iconst (-1), 1) := by decide +kernel
theorem dX7_queue_19 : decode cX7_queue 19 = .ok (.goto 9, 3) := by decide +kernel
theorem dX7_queue_22 : decode cX7_queue 22 = .ok (.aload_n 0, 1) := by decide +kernel
theorem dX7_queue_23 : decode cX7_queue 23 = .ok (.iload_n 1, 1) := by decide +kernel
theorem dX7_queue_24 : decode cX7_queue 24 = .ok (.iload_n 2, 1) := by decide +kernel
theorem dX7_queue_25 : decode cX7_queue 25 = .ok (.invokevirtual 131, 3) := by decide +kernel
theorem dX7_queue_28 : decode cX7_queue 28 = .ok (.ireturn, 1) := by decide +kernel
theorem dX7_sign_0 : decode cX7_sign 0 = .ok (.aload_n 0, 1) := by decide +kernel
theorem dX7_sign_1 : decode cX7_sign 1 = .ok (.getfield 70, 3) := by decide +kernel
theorem dX7_sign_4 : decode cX7_sign 4 = .ok (.bipush 11, 2) := by decide +kernel
theorem dX7_sign_6 : decode cX7_sign 6 = .ok (.if_icmp .eq 32, 3) := by decide +kernel
theorem dX7_sign_9 : decode cX7_sign 9 = .ok (.aload_n 0, 1) := by decide +kernel
theorem dX7_sign_10 : decode cX7_sign 10 = .ok (.getfield 70, 3) := by decide +kernel
theorem dX7_sign_13 : decode cX7_sign 13 = .ok (.iconst 4, 1) := by decide +kernel
theorem dX7_sign_14 : decode cX7_sign 14 = .ok (.if_icmp .lt 12, 3) := by decide +kernel
theorem dX7_sign_17 : decode cX7_sign 17 = .ok (.aload_n 0, 1) := by decide +kernel
theorem dX7_sign_18 : decode cX7_sign 18 = .ok (.getfield 70, 3) := by decide +kernel
theorem dX7_sign_21 : decode cX7_sign 21 = .ok (.bipush 10, 2) := by decide +kernel
theorem dX7_sign_23 : decode cX7_sign 23 = .ok (.if_icmp .ne 7, 3) := by decide +kernel
theorem dX7_sign_26 : decode cX7_sign 26 = .ok (.iconst 1, 1) := by decide +kernel
theorem dX7_sign_27 : decode cX7_sign 27 = .ok (.goto 4, 3) := by decide +kernel
theorem dX7_sign_30 : decode cX7_sign 30 = .ok (.iconst 0, 1) := by decide +kernel
theorem dX7_sign_31 : decode cX7_sign 31 = .ok (.iload_n 1, 1) := by decide +kernel
theorem dX7_sign_32 : decode cX7_sign 32 = .ok (.invokestatic 73, 3) := by decide +kernel
theorem dX7_sign_35 : decode cX7_sign 35 = .ok (.if_icmp .ne 7, 3) := by decide +kernel
theorem dX7_sign_38 : decode cX7_sign 38 = .ok (.iconst 1, 1) := by decide +kernel
theorem dX7_sign_39 : decode cX7_sign 39 = .ok (.goto 4, 3) := by decide +kernel
theorem dX7_sign_42 : decode cX7_sign 42 = .ok (.iconst 0, 1) := by decide +kernel
theorem dX7_sign_43 : decode cX7_sign 43 = .ok (.istore_n 2, 1) := by decide +kernel
theorem dX7_sign_44 : decode cX7_sign 44 = .ok (.iload_n 1, 1) := by decide +kernel
theorem dX7_sign_45 : decode cX7_sign 45 = .ok (.invokestatic 73, 3) := by decide +kernel
theorem dX7_sign_48 : decode cX7_sign 48 = .ok (.ifCond .ne 10, 3) := by decide +kernel
theorem dX7_sign_51 : decode cX7_sign 51 = .ok (.iload_n 1, 1) := by decide +kernel
theorem dX7_sign_52 : decode cX7_sign 52 = .ok (.invokestatic 77, 3) := by decide +kernel
theorem dX7_sign_55 : decode cX7_sign 55 = .ok (.ifCond .eq 7, 3) := by decide +kernel
theorem dX7_sign_58 : decode cX7_sign 58 = .ok (.iload_n 2, 1) := by decide +kernel
theorem dX7_sign_59 : decode cX7_sign 59 = .ok (.ifCond .ne 9, 3) := by decide +kernel
theorem dX7_sign_62 : decode cX7_sign 62 = .ok (.aload_n 0, 1) := by decide +kernel
theorem dX7_sign_63 : decode cX7_sign 63 = .ok (.iconst 1, 1) := by decide +kernel
theorem dX7_sign_64 : decode cX7_sign 64 = .ok (.invokevirtual 80, 3) := by decide +kernel
theorem dX7_sign_67 : decode cX7_sign 67 = .ok (.ireturn, 1) := by decide +kernel
theorem dX7_sign_68 : decode cX7_sign 68 = .ok (.aload_n 0, 1) := by decide +kernel
theorem dX7_sign_69 : decode cX7_sign 69 = .ok (.getfield 70, 3) := by decide +kernel
theorem dX7_sign_72 : decode cX7_sign 72 = .ok (.bipush 11, 2) := by decide +kernel
theorem dX7_sign_74 : decode cX7_sign 74 = .ok (.if_icmp .ne 9, 3) := by decide +kernel
theorem dX7_sign_77 : decode cX7_sign 77 = .ok (.aload_n 0, 1) := by decide +kernel
theorem dX7_sign_78 : decode cX7_sign 78 = .ok (.iconst 2, 1) := by decide +kernel
theorem dX7_sign_79 : decode cX7_sign 79 = .ok (.invokevirtual 80, 3) := by decide +kernel
theorem dX7_sign_82 : decode cX7_sign 82 = .ok (.ireturn, 1) := by decide +kernel
theorem dX7_sign_83 : decode cX7_sign 83 = .ok (.aload_n 0, 1) := by decide +kernel
theorem dX7_sign_84 : decode cX7_sign 84 = .ok (.iconst 0, 1) := by decide +kernel
theorem dX7_sign_85 : decode cX7_sign 85 = .ok (.putfield 60, 3) := by decide +kernel
theorem dX7_sign_88 : decode cX7_sign 88 = .ok (.aload_n 0, 1) := by decide +kernel
theorem dX7_sign_89 : decode cX7_sign 89 = .ok (.getfield 7, 3) := by decide +kernel
theorem dX7_sign_92 : decode cX7_sign 92 = .ok (.aload_n 0, 1) := by decide +kernel
theorem dX7_sign_93 : decode cX7_sign 93 = .ok (.getfield 70, 3) := by decide +kernel
theorem dX7_sign_96 : decode cX7_sign 96 = .ok (.iload_n 1, 1) := by decide +kernel
theorem dX7_sign_97 : decode cX7_sign 97 = .ok (.iastore, 1) := by decide +kernel
theorem dX7_sign_98 : decode cX7_sign 98 = .ok (.aload_n 0, 1) := by decide +kernel
theorem dX7_sign_99 : decode cX7_sign 99 = .ok (.dup, 1) := by decide +kernel
theorem dX7_sign_100 : decode cX7_sign 100 = .ok (.getfield 70, 3) := by decide +kernel
theorem dX7_sign_103 : decode cX7_sign 103 = .ok (.iconst 1, 1) := by decide +kernel
theorem dX7_sign_104 : decode cX7_sign 104 = .ok (.iadd, 1) := by decide +kernel
theorem dX7_sign_105 : decode cX7_sign 105 = .ok (.putfield 70, 3) := by decide +kernel
theorem dX7_sign_108 : decode cX7_sign 108 = .ok (.aload_n 0, 1) := by decide +kernel
theorem dX7_sign_109 : decode cX7_sign 109 = .ok (.getfield 70, 3) := by decide +kernel
theorem dX7_sign_112 : decode cX7_sign 112 = .ok (.ireturn, 1) := by decide +kernel
theorem dX7_through_0 : decode cX7_through 0 = .ok (.aload_n 0, 1) := by decide +kernel
theorem dX7_through_1 : decode cX7_through 1 = .ok (.iload_n 1, 1) := by decide +kernel
theorem dX7_through_2 : decode cX7_through 2 = .ok (.invokevirtual 114, 3) := by decide +kernel
theorem dX7_through_5 : decode cX7_through 5 = .ok (.ifCond .ne 9, 3) := by decide +kernel
theorem dX7_through_8 : decode cX7_through 8 = .ok (.aload_n 0, 1) := by decide +kernel
theorem dX7_through_9 : decode cX7_through 9 = .ok (.iconst 1, 1) := by decide +kernel
theorem dX7_through_10 : decode cX7_through 10 = .ok (.invokevirtual 80, 3) := by decide +kernel
theorem dX7_through_13 : decode cX7_through 13 = .ok (.ireturn, 1) := by decide +kernel
theorem dX7_through_14 : decode cX7_through 14 = .ok (.aload_n 0, 1) := by decide +kernel
theorem dX7_through_15 : decode cX7_through 15 = .ok (.iload_n 2, 1) := by decide +kernel
theorem dX7_through_16 : decode cX7_through 16 = .ok (.invokevirtual 117, 3) := by decide +kernel
theorem dX7_through_19 : decode cX7_through 19 = .ok (.ifCond .ne 9, 3) := by decide +kernel
theorem dX7_through_22 : decode cX7_through 22 = .ok (.aload_n 0, 1) := by decide +kernel
theorem dX7_through_23 : decode cX7_through 23 = .ok (.iconst 2, 1) := by decide +kernel
theorem dX7_through_24 : decode cX7_through 24 = .ok (.invokevirtual 80, 3) := by decide +kernel
theorem dX7_through_27 : decode cX7_through 27 = .ok (.ireturn, 1) := by decide +kernel
theorem dX7_through_28 : decode cX7_through 28 = .ok (.aload_n 0, 1) := by decide +kernel
theorem dX7_through_29 : decode cX7_through 29 = .ok (.iconst 0, 1) := by decide +kernel
theorem dX7_through_30 : decode cX7_through 30 = .ok (.putfield 60, 3) := by decide +kernel
theorem dX7_through_33 : decode cX7_through 33 = .ok (.aload_n 0, 1) := by decide +kernel
theorem dX7_through_34 : decode cX7_through 34 = .ok (.iload_n 2, 1) := by decide +kernel
theorem dX7_through_35 : decode cX7_through 35 = .ok (.putfield 66, 3) := by decide +kernel
theorem dX7_through_38 : decode cX7_through 38 = .ok (.aload_n 0, 1) := by decide +kernel
theorem dX7_through_39 : decode cX7_through 39 = .ok (.iload_n 1, 1) := by decide +kernel
theorem dX7_through_40 : decode cX7_through 40 = .ok (.invokevirtual 120, 3) := by decide +kernel
theorem dX7_through_43 : decode cX7_through 43 = .ok (.istore_n 3, 1) := by decide +kernel
theorem dX7_through_44 : decode cX7_through 44 = .ok (.iload_n 3, 1) := by decide +kernel
theorem dX7_through_45 : decode cX7_through 45 = .ok (.ifCond .le 6, 3) := by decide +kernel
theorem dX7_through_48 : decode cX7_through 48 = .ok (.iload_n 3, 1) := by decide +kernel
theorem dX7_through_49 : decode cX7_through 49 = .ok (.ineg, 1) := by decide +kernel
theorem dX7_through_50 : decode cX7_through 50 = .ok (.ireturn, 1) := by decide +kernel
theorem dX7_through_51 : decode cX7_through 51 = .ok (.aload_n 0, 1) := by decide +kernel
theorem dX7_through_52 : decode cX7_through 52 = .ok (.iconst 1, 1) := by decide +kernel
theorem dX7_through_53 : decode cX7_through 53 = .ok (.aload_n 0, 1) := by decide +kernel
theorem dX7_through_54 : decode cX7_through 54 = .ok (.getfield 32, 3) := by decide +kernel
theorem dX7_through_57 : decode cX7_through 57 = .ok (.iload_n 1, 1) := by decide +kernel
theorem dX7_through_58 : decode cX7_through 58 = .ok (.iaload, 1) := by decide +kernel
theorem dX7_through_59 : decode cX7_through 59 = .ok (.invokevirtual 104, 3) := by decide +kernel
theorem dX7_through_62 : decode cX7_through 62 = .ok (.iconst 2, 1) := by decide +kernel
theorem dX7_through_63 : decode cX7_through 63 = .ok (.if_icmp .eq 18, 3) := by decide +kernel
theorem dX7_through_66 : decode cX7_through 66 = .ok (.aload_n 0, 1) := by decide +kernel
theorem dX7_through_67 : decode cX7_through 67 = .ok (.iconst 2, 1) := by decide +kernel
theorem dX7_through_68 : decode cX7_through 68 = .ok (.aload_n 0, 1) := by decide +kernel
theorem dX7_through_69 : decode cX7_through 69 = .ok (.getfield 32, 3) := by decide +kernel
theorem dX7_through_72 : decode cX7_through 72 = .ok (.iload_n 1, 1) := by decide +kernel
theorem dX7_through_73 : decode cX7_through 73 = .ok (.iaload, 1) := by decide +kernel
theorem dX7_through_74 : decode cX7_through 74 = .ok (.invokevirtual 104, 3) := by decide +kernel
theorem dX7_through_77 : decode cX7_through 77 = .ok (.iconst 2, 1) := by decide +kernel
theorem dX7_through_78 : decode cX7_through 78 = .ok (.if_icmp .ne 7, 3) := by decide +kernel
theorem dX7_through_81 : decode cX7_through 81 = .ok (.iconst 1, 1) := by decide +kernel
theorem dX7_through_82 : decode cX7_through 82 = .ok (.goto 4, 3) := by decide +kernel
theorem dX7_through_85 : decode cX7_through 85 = .ok (.iconst 0, 1) := by decide +kernel
theorem dX7_through_86 : decode cX7_through 86 = .ok (.istore 4, 2) := by decide +kernel
theorem dX7_through_88 : decode cX7_through 88 = .ok (.iload 4, 2) := by decide +kernel
theorem dX7_through_90 : decode cX7_through 90 = .ok (.ifCond .eq 7, 3) := by decide +kernel
theorem dX7_through_93 : decode cX7_through 93 = .ok (.iconst 2, 1) := by decide +kernel
theorem dX7_through_94 : decode cX7_through 94 = .ok (.goto 21, 3) := by decide +kernel
theorem dX7_through_97 : decode cX7_through 97 = .ok (.aload_n 0, 1) := by decide +kernel
theorem dX7_through_98 : decode cX7_through 98 = .ok (.iconst 1, 1) := by decide +kernel
theorem dX7_through_99 : decode cX7_through 99 = .ok (.invokevirtual 123, 3) := by decide +kernel
theorem dX7_through_102 : decode cX7_through 102 = .ok (.aload_n 0, 1) := by decide +kernel
theorem dX7_through_103 : decode cX7_through 103 = .ok (.iconst 0, 1) := by decide +kernel
theorem dX7_through_104 : decode cX7_through 104 = .ok (.invokevirtual 123, 3) := by decide +kernel
theorem dX7_through_107 : decode cX7_through 107 = .ok (.if_icmp .ge 7, 3) := by decide +kernel
theorem dX7_through_110 : decode cX7_through 110 = .ok (.iconst 1, 1) := by decide +kernel
theorem dX7_through_111 : decode cX7_through 111 = .ok (.goto 4, 3) := by decide +kernel
theorem dX7_through_114 : decode cX7_through 114 = .ok (.iconst 0, 1) := by decide +kernel
theorem dX7_through_115 : decode cX7_through 115 = .ok (.istore 5, 2) := by decide +kernel
theorem dX7_through_117 : decode cX7_through 117 = .ok (.aload_n 0, 1) := by decide +kernel
theorem dX7_through_118 : decode cX7_through 118 = .ok (.getfield 35, 3) := by decide +kernel
theorem dX7_through_121 : decode cX7_through 121 = .ok (.iload_n 1, 1) := by decide +kernel
theorem dX7_through_122 : decode cX7_through 122 = .ok (.iconst 1, 1) := by decide +kernel
theorem dX7_through_123 : decode cX7_through 123 = .ok (.iastore, 1) := by decide +kernel
theorem dX7_through_124 : decode cX7_through 124 = .ok (.aload_n 0, 1) := by decide +kernel
theorem dX7_through_125 : decode cX7_through 125 = .ok (.getfield 44, 3) := by decide +kernel
theorem dX7_through_128 : decode cX7_through 128 = .ok (.iload_n 1, 1) := by decide +kernel
theorem dX7_through_129 : decode cX7_through 129 = .ok (.aload_n 0, 1) := by decide +kernel
theorem dX7_through_130 : decode cX7_through 130 = .ok (.getfield 66, 3) := by decide +kernel
theorem dX7_through_133 : decode cX7_through 133 = .ok (.iastore, 1) := by decide +kernel
theorem dX7_through_134 : decode cX7_through 134 = .ok (.aload_n 0, 1) := by decide +kernel
theorem dX7_through_135 : decode cX7_through 135 = .ok (.iload_n 1, 1) := by decide +kernel
theorem dX7_through_136 : decode cX7_through 136 = .ok (.iload 5, 2) := by decide +kernel
theorem dX7_through_138 : decode cX7_through 138 = .ok (.invokevirtual 126, 3) := by decide +kernel
theorem dX7_through_141 : decode cX7_through 141 = .ok (.iconst 1, 1) := by decide +kernel
theorem dX7_through_142 : decode cX7_through 142 = .ok (.ireturn, 1) := by decide +kernel
theorem dX7_thrown_0 : decode cX7_thrown 0 = .ok (.aload_n 0, 1) := by decide +kernel
theorem dX7_thrown_1 : decode cX7_thrown 1 = .ok (.getfield 60, 3) := by decide +kernel
theorem dX7_thrown_4 : decode cX7_thrown 4 = .ok (.ireturn, 1) := by decide +kernel
theorem dX7_tolerance_0 : decode cX7_tolerance 0 = .ok (.aload_n 0, 1) := by decide +kernel
theorem dX7_tolerance_1 : decode cX7_tolerance 1 = .ok (.iconst 0, 1) := by decide +kernel
theorem dX7_tolerance_2 : decode cX7_tolerance 2 = .ok (.putfield 60, 3) := by decide +kernel
theorem dX7_tolerance_5 : decode cX7_tolerance 5 = .ok (.iload_n 1, 1) := by decide +kernel
theorem dX7_tolerance_6 : decode cX7_tolerance 6 = .ok (.ifCond .lt 10, 3) := by decide +kernel
theorem dX7_tolerance_9 : decode cX7_tolerance 9 = .ok (.iload_n 1, 1) := by decide +kernel
theorem dX7_tolerance_10 : decode cX7_tolerance 10 = .ok (.sipush 1000, 3) := by decide +kernel
theorem dX7_tolerance_13 : decode cX7_tolerance 13 = .ok (.if_icmp .le 5, 3) := by decide +kernel
theorem dX7_tolerance_16 : decode cX7_tolerance 16 = .ok (.iconst 0, 1) := by decide +kernel
theorem dX7_tolerance_17 : decode cX7_tolerance 17 = .ok (.ireturn, 1) := by decide +kernel
theorem dX7_tolerance_18 : decode cX7_tolerance 18 = .ok (.aload_n 0, 1) := by decide +kernel
theorem dX7_tolerance_19 : decode cX7_tolerance 19 = .ok (.iload_n 1, 1) := by decide +kernel
theorem dX7_tolerance_20 : decode cX7_tolerance 20 = .ok (.putfield 50, 3) := by decide +kernel
theorem dX7_tolerance_23 : decode cX7_tolerance 23 = .ok (.iconst 1, 1) := by decide +kernel
theorem dX7_tolerance_24 : decode cX7_tolerance 24 = .ok (.ireturn, 1) := by decide +kernel
theorem dX7_verdictOf_0 : decode cX7_verdictOf 0 = .ok (.iload_n 1, 1) := by decide +kernel
theorem dX7_verdictOf_1 : decode cX7_verdictOf 1 = .ok (.iconst 4, 1) := by decide +kernel
theorem dX7_verdictOf_2 : decode cX7_verdictOf 2 = .ok (.if_icmp .ge 16, 3) := by decide +kernel
theorem dX7_verdictOf_5 : decode cX7_verdictOf 5 = .ok (.aload_n 0, 1) := by decide +kernel
theorem dX7_verdictOf_6 : decode cX7_verdictOf 6 = .ok (.getfield 23, 3) := by decide +kernel
theorem dX7_verdictOf_9 : decode cX7_verdictOf 9 = .ok (.iconst 4, 1) := by decide +kernel
theorem dX7_verdictOf_10 : decode cX7_verdictOf 10 = .ok (.iload_n 2, 1) := by decide +kernel
theorem dX7_verdictOf_11 : decode cX7_verdictOf 11 = .ok (.imul, 1) := by decide +kernel
theorem dX7_verdictOf_12 : decode cX7_verdictOf 12 = .ok (.iload_n 1, 1) := by decide +kernel
theorem dX7_verdictOf_13 : decode cX7_verdictOf 13 = .ok (.iadd, 1) := by decide +kernel
theorem dX7_verdictOf_14 : decode cX7_verdictOf 14 = .ok (.iaload, 1) := by decide +kernel
theorem dX7_verdictOf_15 : decode cX7_verdictOf 15 = .ok (.goto 18, 3) := by decide +kernel
theorem dX7_verdictOf_18 : decode cX7_verdictOf 18 = .ok (.aload_n 0, 1) := by decide +kernel
theorem dX7_verdictOf_19 : decode cX7_verdictOf 19 = .ok (.getfield 23, 3) := by decide +kernel
theorem dX7_verdictOf_22 : decode cX7_verdictOf 22 = .ok (.bipush 80, 2) := by decide +kernel
theorem dX7_verdictOf_24 : decode cX7_verdictOf 24 = .ok (.iconst 2, 1) := by decide +kernel
theorem dX7_verdictOf_25 : decode cX7_verdictOf 25 = .ok (.iload_n 2, 1) := by decide +kernel
theorem dX7_verdictOf_26 : decode cX7_verdictOf 26 = .ok (.imul, 1) := by decide +kernel
theorem dX7_verdictOf_27 : decode cX7_verdictOf 27 = .ok (.iadd, 1) := by decide +kernel
theorem dX7_verdictOf_28 : decode cX7_verdictOf 28 = .ok (.iload_n 1, 1) := by decide +kernel
theorem dX7_verdictOf_29 : decode cX7_verdictOf 29 = .ok (.iadd, 1) := by decide +kernel
theorem dX7_verdictOf_30 : decode cX7_verdictOf 30 = .ok (.iconst 4, 1) := by decide +kernel
theorem dX7_verdictOf_31 : decode cX7_verdictOf 31 = .ok (.isub, 1) := by decide +kernel
theorem dX7_verdictOf_32 : decode cX7_verdictOf 32 = .ok (.iaload, 1) := by decide +kernel
theorem dX7_verdictOf_33 : decode cX7_verdictOf 33 = .ok (.ireturn, 1) := by decide +kernel
theorem dX7_weigh_0 : decode cX7_weigh 0 = .ok (.iload_n 1, 1) := by decide +kernel
theorem dX7_weigh_1 : decode cX7_weigh 1 = .ok (.ifCond .lt 8, 3) := by decide +kernel
theorem dX7_weigh_4 : decode cX7_weigh 4 = .ok (.iload_n 1, 1) := by decide +kernel
theorem dX7_weigh_5 : decode cX7_weigh 5 = .ok (.iconst 2, 1) := by decide +kernel
theorem dX7_weigh_6 : decode cX7_weigh 6 = .ok (.if_icmp .le 9, 3) := by decide +kernel
theorem dX7_weigh_9 : decode cX7_weigh 9 = .ok (.aload_n 0, 1) := by decide +kernel
theorem dX7_weigh_10 : decode cX7_weigh 10 = .ok (.iconst 1, 1) := by decide +kernel
theorem dX7_weigh_11 : decode cX7_weigh 11 = .ok (.invokevirtual 80, 3) := by decide +kernel
theorem dX7_weigh_14 : decode cX7_weigh 14 = .ok (.ireturn, 1) := by decide +kernel
theorem dX7_weigh_15 : decode cX7_weigh 15 = .ok (.aload_n 0, 1) := by decide +kernel
theorem dX7_weigh_16 : decode cX7_weigh 16 = .ok (.iload_n 3, 1) := by decide +kernel
theorem dX7_weigh_17 : decode cX7_weigh 17 = .ok (.invokevirtual 117, 3) := by decide +kernel
theorem dX7_weigh_20 : decode cX7_weigh 20 = .ok (.ifCond .eq 13, 3) := by decide +kernel
theorem dX7_weigh_23 : decode cX7_weigh 23 = .ok (.iload_n 2, 1) := by decide +kernel
theorem dX7_weigh_24 : decode cX7_weigh 24 = .ok (.ifCond .lt 9, 3) := by decide +kernel
theorem dX7_weigh_27 : decode cX7_weigh 27 = .ok (.iload_n 2, 1) := by decide +kernel
theorem dX7_weigh_28 : decode cX7_weigh 28 = .ok (.ldc 130, 2) := by decide +kernel
theorem dX7_weigh_30 : decode cX7_weigh 30 = .ok (.if_icmp .le 9, 3) := by decide +kernel
theorem dX7_weigh_33 : decode cX7_weigh 33 = .ok (.aload_n 0, 1) := by decide +kernel
theorem dX7_weigh_34 : decode cX7_weigh 34 = .ok (.iconst 2, 1) := by decide +kernel
theorem dX7_weigh_35 : decode cX7_weigh 35 = .ok (.invokevirtual 80, 3) := by decide +kernel
theorem dX7_weigh_38 : decode cX7_weigh 38 = .ok (.ireturn, 1) := by decide +kernel
theorem dX7_weigh_39 : decode cX7_weigh 39 = .ok (.aload_n 0, 1) := by decide +kernel
theorem dX7_weigh_40 : decode cX7_weigh 40 = .ok (.iconst 0, 1) := by decide +kernel
