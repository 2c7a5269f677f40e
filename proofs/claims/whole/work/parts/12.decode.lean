theorem dX1_isNumberOf_2 : decode cX1_isNumberOf 2 = .ok (.iload_n 3, 1) := by decide +kernel
theorem dX1_isNumberOf_3 : decode cX1_isNumberOf 3 = .ok (.bipush 10, 2) := by decide +kernel
theorem dX1_isNumberOf_5 : decode cX1_isNumberOf 5 = .ok (.if_icmp .ge 34, 3) := by decide +kernel
theorem dX1_isNumberOf_8 : decode cX1_isNumberOf 8 = .ok (.iload_n 3, 1) := by decide +kernel
theorem dX1_isNumberOf_9 : decode cX1_isNumberOf 9 = .ok (.aload_n 2, 1) := by decide +kernel
theorem dX1_isNumberOf_10 : decode cX1_isNumberOf 10 = .ok (.arraylength, 1) := by decide +kernel
theorem dX1_isNumberOf_11 : decode cX1_isNumberOf 11 = .ok (.if_icmp .ge 28, 3) := by decide +kernel
theorem dX1_isNumberOf_14 : decode cX1_isNumberOf 14 = .ok (.aload_n 0, 1) := by decide +kernel
theorem dX1_isNumberOf_15 : decode cX1_isNumberOf 15 = .ok (.getfield 9, 3) := by decide +kernel
theorem dX1_isNumberOf_18 : decode cX1_isNumberOf 18 = .ok (.iload_n 1, 1) := by decide +kernel
theorem dX1_isNumberOf_19 : decode cX1_isNumberOf 19 = .ok (.bipush 10, 2) := by decide +kernel
theorem dX1_isNumberOf_21 : decode cX1_isNumberOf 21 = .ok (.imul, 1) := by decide +kernel
theorem dX1_isNumberOf_22 : decode cX1_isNumberOf 22 = .ok (.iload_n 3, 1) := by decide +kernel
theorem dX1_isNumberOf_23 : decode cX1_isNumberOf 23 = .ok (.iadd, 1) := by decide +kernel
theorem dX1_isNumberOf_24 : decode cX1_isNumberOf 24 = .ok (.iaload, 1) := by decide +kernel
theorem dX1_isNumberOf_25 : decode cX1_isNumberOf 25 = .ok (.aload_n 2, 1) := by decide +kernel
theorem dX1_isNumberOf_26 : decode cX1_isNumberOf 26 = .ok (.iload_n 3, 1) := by decide +kernel
theorem dX1_isNumberOf_27 : decode cX1_isNumberOf 27 = .ok (.iaload, 1) := by decide +kernel
theorem dX1_isNumberOf_28 : decode cX1_isNumberOf 28 = .ok (.if_icmp .eq 5, 3) := by decide +kernel
theorem dX1_isNumberOf_31 : decode cX1_isNumberOf 31 = .ok (.iconst 0, 1) := by decide +kernel
theorem dX1_isNumberOf_32 : decode cX1_isNumberOf 32 = .ok (.ireturn, 1) := by decide +kernel
theorem dX1_isNumberOf_33 : decode cX1_isNumberOf 33 = .ok (.iinc 3 1, 3) := by decide +kernel
theorem dX1_isNumberOf_36 : decode cX1_isNumberOf 36 = .ok (.goto (-34), 3) := by decide +kernel
theorem dX1_isNumberOf_39 : decode cX1_isNumberOf 39 = .ok (.iconst 1, 1) := by decide +kernel
theorem dX1_isNumberOf_40 : decode cX1_isNumberOf 40 = .ok (.ireturn, 1) := by decide +kernel
theorem dX1_judge_0 : decode cX1_judge 0 = .ok (.aload_n 0, 1) := by decide +kernel
theorem dX1_judge_1 : decode cX1_judge 1 = .ok (.getfield 22, 3) := by decide +kernel
theorem dX1_judge_4 : decode cX1_judge 4 = .ok (.iload_n 1, 1) := by decide +kernel
theorem dX1_judge_5 : decode cX1_judge 5 = .ok (.iconst 4, 1) := by decide +kernel
theorem dX1_judge_6 : decode cX1_judge 6 = .ok (.imul, 1) := by decide +kernel
theorem dX1_judge_7 : decode cX1_judge 7 = .ok (.iload_n 2, 1) := by decide +kernel
theorem dX1_judge_8 : decode cX1_judge 8 = .ok (.iadd, 1) := by decide +kernel
theorem dX1_judge_9 : decode cX1_judge 9 = .ok (.iload_n 3, 1) := by decide +kernel
theorem dX1_judge_10 : decode cX1_judge 10 = .ok (.iastore, 1) := by decide +kernel
theorem dX1_judge_11 : decode cX1_judge 11 = .ok (.return_, 1) := by decide +kernel
theorem dX1_verdictOf_0 : decode cX1_verdictOf 0 = .ok (.aload_n 0, 1) := by decide +kernel
theorem dX1_verdictOf_1 : decode cX1_verdictOf 1 = .ok (.getfield 22, 3) := by decide +kernel
theorem dX1_verdictOf_4 : decode cX1_verdictOf 4 = .ok (.iload_n 1, 1) := by decide +kernel
theorem dX1_verdictOf_5 : decode cX1_verdictOf 5 = .ok (.iconst 4, 1) := by decide +kernel
theorem dX1_verdictOf_6 : decode cX1_verdictOf 6 = .ok (.imul, 1) := by decide +kernel
theorem dX1_verdictOf_7 : decode cX1_verdictOf 7 = .ok (.iload_n 2, 1) := by decide +kernel
theorem dX1_verdictOf_8 : decode cX1_verdictOf 8 = .ok (.iadd, 1) := by decide +kernel
theorem dX1_verdictOf_9 : decode cX1_verdictOf 9 = .ok (.iaload, 1) := by decide +kernel
theorem dX1_verdictOf_10 : decode cX1_verdictOf 10 = .ok (.ireturn, 1) := by decide +kernel
theorem dX2_add_0 : decode cX2_add 0 = .ok (.aload_n 0, 1) := by decide +kernel
theorem dX2_add_1 : decode cX2_add 1 = .ok (.getfield 15, 3) := by decide +kernel
theorem dX2_add_4 : decode cX2_add 4 = .ok (.bipush 16, 2) := by decide +kernel
theorem dX2_add_6 : decode cX2_add 6 = .ok (.if_icmp .ge 23, 3) := by decide +kernel
theorem dX2_add_9 : decode cX2_add 9 = .ok (.aload_n 0, 1) := by decide +kernel
theorem dX2_add_10 : decode cX2_add 10 = .ok (.getfield 9, 3) := by decide +kernel
theorem dX2_add_13 : decode cX2_add 13 = .ok (.aload_n 0, 1) := by decide +kernel
theorem dX2_add_14 : decode cX2_add 14 = .ok (.getfield 15, 3) := by decide +kernel
theorem dX2_add_17 : decode cX2_add 17 = .ok (.iload_n 1, 1) := by decide +kernel
theorem dX2_add_18 : decode cX2_add 18 = .ok (.iastore, 1) := by decide +kernel
theorem dX2_add_19 : decode cX2_add 19 = .ok (.aload_n 0, 1) := by decide +kernel
theorem dX2_add_20 : decode cX2_add 20 = .ok (.dup, 1) := by decide +kernel
theorem dX2_add_21 : decode cX2_add 21 = .ok (.getfield 15, 3) := by decide +kernel
theorem dX2_add_24 : decode cX2_add 24 = .ok (.iconst 1, 1) := by decide +kernel
theorem dX2_add_25 : decode cX2_add 25 = .ok (.iadd, 1) := by decide +kernel
theorem dX2_add_26 : decode cX2_add 26 = .ok (.putfield 15, 3) := by decide +kernel
theorem dX2_add_29 : decode cX2_add 29 = .ok (.return_, 1) := by decide +kernel
theorem dX2_bookingAt_0 : decode cX2_bookingAt 0 = .ok (.iload_n 1, 1) := by decide +kernel
theorem dX2_bookingAt_1 : decode cX2_bookingAt 1 = .ok (.ifCond .lt 20, 3) := by decide +kernel
theorem dX2_bookingAt_4 : decode cX2_bookingAt 4 = .ok (.iload_n 1, 1) := by decide +kernel
theorem dX2_bookingAt_5 : decode cX2_bookingAt 5 = .ok (.aload_n 0, 1) := by decide +kernel
theorem dX2_bookingAt_6 : decode cX2_bookingAt 6 = .ok (.getfield 15, 3) := by decide +kernel
theorem dX2_bookingAt_9 : decode cX2_bookingAt 9 = .ok (.if_icmp .ge 12, 3) := by decide +kernel
theorem dX2_bookingAt_12 : decode cX2_bookingAt 12 = .ok (.aload_n 0, 1) := by decide +kernel
theorem dX2_bookingAt_13 : decode cX2_bookingAt 13 = .ok (.getfield 9, 3) := by decide +kernel
theorem dX2_bookingAt_16 : decode cX2_bookingAt 16 = .ok (.iload_n 1, 1) := by decide +kernel
theorem dX2_bookingAt_17 : decode cX2_bookingAt 17 = .ok (.iaload, 1) := by decide +kernel
theorem dX2_bookingAt_18 : decode cX2_bookingAt 18 = .ok (.goto 4, 3) := by decide +kernel
theorem dX2_bookingAt_21 : decode cX2_bookingAt 21 = .ok (.iconst (-1), 1) := by decide +kernel
theorem dX2_bookingAt_22 : decode cX2_bookingAt 22 = .ok (.ireturn, 1) := by decide +kernel
theorem dX2_remove_0 : decode cX2_remove 0 = .ok (.iconst 0, 1) := by decide +kernel
theorem dX2_remove_1 : decode cX2_remove 1 = .ok (.istore_n 2, 1) := by decide +kernel
theorem dX2_remove_2 : decode cX2_remove 2 = .ok (.iconst 0, 1) := by decide +kernel
theorem dX2_remove_3 : decode cX2_remove 3 = .ok (.istore_n 3, 1) := by decide +kernel
theorem dX2_remove_4 : decode cX2_remove 4 = .ok (.iload_n 3, 1) := by decide +kernel
theorem dX2_remove_5 : decode cX2_remove 5 = .ok (.aload_n 0, 1) := by decide +kernel
theorem dX2_remove_6 : decode cX2_remove 6 = .ok (.getfield 15, 3) := by decide +kernel
theorem dX2_remove_9 : decode cX2_remove 9 = .ok (.if_icmp .ge 34, 3) := by decide +kernel
theorem dX2_remove_12 : decode cX2_remove 12 = .ok (.aload_n 0, 1) := by decide +kernel
theorem dX2_remove_13 : decode cX2_remove 13 = .ok (.getfield 9, 3) := by decide +kernel
theorem dX2_remove_16 : decode cX2_remove 16 = .ok (.iload_n 3, 1) := by decide +kernel
theorem dX2_remove_17 : decode cX2_remove 17 = .ok (.iaload, 1) := by decide +kernel
theorem dX2_remove_18 : decode cX2_remove 18 = .ok (.iload_n 1, 1) := by decide +kernel
theorem dX2_remove_19 : decode cX2_remove 19 = .ok (.if_icmp .eq 18, 3) := by decide +kernel
theorem dX2_remove_22 : decode cX2_remove 22 = .ok (.aload_n 0, 1) := by decide +kernel
theorem dX2_remove_23 : decode cX2_remove 23 = .ok (.getfield 9, 3) := by decide +kernel
theorem dX2_remove_26 : decode cX2_remove 26 = .ok (.iload_n 2, 1) := by decide +kernel
theorem dX2_remove_27 : decode cX2_remove 27 = .ok (.aload_n 0, 1) := by decide +kernel
theorem dX2_remove_28 : decode cX2_remove 28 = .ok (.getfield 9, 3) := by decide +kernel
theorem dX2_remove_31 : decode cX2_remove 31 = .ok (.iload_n 3, 1) := by decide +kernel
theorem dX2_remove_32 : decode cX2_remove 32 = .ok (.iaload, 1) := by decide +kernel
theorem dX2_remove_33 : decode cX2_remove 33 = .ok (.iastore, 1) := by decide +kernel
theorem dX2_remove_34 : decode cX2_remove 34 = .ok (.iinc 2 1, 3) := by decide +kernel
theorem dX2_remove_37 : decode cX2_remove 37 = .ok (.iinc 3 1, 3) := by decide +kernel
theorem dX2_remove_40 : decode cX2_remove 40 = .ok (.goto (-36), 3) := by decide +kernel
theorem dX2_remove_43 : decode cX2_remove 43 = .ok (.aload_n 0, 1) := by decide +kernel
theorem dX2_remove_44 : decode cX2_remove 44 = .ok (.iload_n 2, 1) := by decide +kernel
theorem dX2_remove_45 : decode cX2_remove 45 = .ok (.putfield 15, 3) := by decide +kernel
theorem dX2_remove_48 : decode cX2_remove 48 = .ok (.return_, 1) := by decide +kernel
theorem dX3_add_0 : decode cX3_add 0 = .ok (.aload_n 0, 1) := by decide +kernel
theorem dX3_add_1 : decode cX3_add 1 = .ok (.getfield 15, 3) := by decide +kernel
theorem dX3_add_4 : decode cX3_add 4 = .ok (.bipush 11, 2) := by decide +kernel
theorem dX3_add_6 : decode cX3_add 6 = .ok (.if_icmp .ge 23, 3) := by decide +kernel
theorem dX3_add_9 : decode cX3_add 9 = .ok (.aload_n 0, 1) := by decide +kernel
theorem dX3_add_10 : decode cX3_add 10 = .ok (.getfield 9, 3) := by decide +kernel
theorem dX3_add_13 : decode cX3_add 13 = .ok (.aload_n 0, 1) := by decide +kernel
theorem dX3_add_14 : decode cX3_add 14 = .ok (.getfield 15, 3) := by decide +kernel
theorem dX3_add_17 : decode cX3_add 17 = .ok (.iload_n 1, 1) := by decide +kernel
theorem dX3_add_18 : decode cX3_add 18 = .ok (.iastore, 1) := by decide +kernel
theorem dX3_add_19 : decode cX3_add 19 = .ok (.aload_n 0, 1) := by decide +kernel
theorem dX3_add_20 : decode cX3_add 20 = .ok (.dup, 1) := by decide +kernel
theorem dX3_add_21 : decode cX3_add 21 = .ok (.getfield 15, 3) := by decide +kernel
theorem dX3_add_24 : decode cX3_add 24 = .ok (.iconst 1, 1) := by decide +kernel
theorem dX3_add_25 : decode cX3_add 25 = .ok (.iadd, 1) := by decide +kernel
theorem dX3_add_26 : decode cX3_add 26 = .ok (.putfield 15, 3) := by decide +kernel
theorem dX3_add_29 : decode cX3_add 29 = .ok (.return_, 1) := by decide +kernel
theorem dX3_checkLetter_0 : decode cX3_checkLetter 0 = .ok (.aload_n 0, 1) := by decide +kernel
theorem dX3_checkLetter_1 : decode cX3_checkLetter 1 = .ok (.getfield 15, 3) := by decide +kernel
theorem dX3_checkLetter_4 : decode cX3_checkLetter 4 = .ok (.bipush 10, 2) := by decide +kernel
theorem dX3_checkLetter_6 : decode cX3_checkLetter 6 = .ok (.if_icmp .ge 5, 3) := by decide +kernel
theorem dX3_checkLetter_9 : decode cX3_checkLetter 9 = .ok (.iconst (-1), 1) := by decide +kernel
theorem dX3_checkLetter_10 : decode cX3_checkLetter 10 = .ok (.ireturn, 1) := by decide +kernel
theorem dX3_checkLetter_11 : decode cX3_checkLetter 11 = .ok (.iconst 0, 1) := by decide +kernel
theorem dX3_checkLetter_12 : decode cX3_checkLetter 12 = .ok (.istore_n 1, 1) := by decide +kernel
theorem dX3_checkLetter_13 : decode cX3_checkLetter 13 = .ok (.iconst 0, 1) := by decide +kernel
theorem dX3_checkLetter_14 : decode cX3_checkLetter 14 = .ok (.istore_n 2, 1) := by decide +kernel
theorem dX3_checkLetter_15 : decode cX3_checkLetter 15 = .ok (.iload_n 2, 1) := by decide +kernel
theorem dX3_checkLetter_16 : decode cX3_checkLetter 16 = .ok (.bipush 10, 2) := by decide +kernel
theorem dX3_checkLetter_18 : decode cX3_checkLetter 18 = .ok (.if_icmp .ge 25, 3) := by decide +kernel
theorem dX3_checkLetter_21 : decode cX3_checkLetter 21 = .ok (.iload_n 1, 1) := by decide +kernel
theorem dX3_checkLetter_22 : decode cX3_checkLetter 22 = .ok (.aload_n 0, 1) := by decide +kernel
theorem dX3_checkLetter_23 : decode cX3_checkLetter 23 = .ok (.getfield 9, 3) := by decide +kernel
theorem dX3_checkLetter_26 : decode cX3_checkLetter 26 = .ok (.iload_n 2, 1) := by decide +kernel
theorem dX3_checkLetter_27 : decode cX3_checkLetter 27 = .ok (.iaload, 1) := by decide +kernel
theorem dX3_checkLetter_28 : decode cX3_checkLetter 28 = .ok (.invokestatic 26, 3) := by decide +kernel
theorem dX3_checkLetter_31 : decode cX3_checkLetter 31 = .ok (.iload_n 2, 1) := by decide +kernel
theorem dX3_checkLetter_32 : decode cX3_checkLetter 32 = .ok (.iconst 1, 1) := by decide +kernel
theorem dX3_checkLetter_33 : decode cX3_checkLetter 33 = .ok (.iadd, 1) := by decide +kernel
theorem dX3_checkLetter_34 : decode cX3_checkLetter 34 = .ok (.imul, 1) := by decide +kernel
theorem dX3_checkLetter_35 : decode cX3_checkLetter 35 = .ok (.iadd, 1) := by decide +kernel
theorem dX3_checkLetter_36 : decode cX3_checkLetter 36 = .ok (.istore_n 1, 1) := by decide +kernel
theorem dX3_checkLetter_37 : decode cX3_checkLetter 37 = .ok (.iinc 2 1, 3) := by decide +kernel
theorem dX3_checkLetter_40 : decode cX3_checkLetter 40 = .ok (.goto (-25), 3) := by decide +kernel
theorem dX3_checkLetter_43 : decode cX3_checkLetter 43 = .ok (.bipush 65, 2) := by decide +kernel
theorem dX3_checkLetter_45 : decode cX3_checkLetter 45 = .ok (.iload_n 1, 1) := by decide +kernel
theorem dX3_checkLetter_46 : decode cX3_checkLetter 46 = .ok (.bipush 26, 2) := by decide +kernel
theorem dX3_checkLetter_48 : decode cX3_checkLetter 48 = .ok (.irem, 1) := by decide +kernel
theorem dX3_checkLetter_49 : decode cX3_checkLetter 49 = .ok (.iadd, 1) := by decide +kernel
theorem dX3_checkLetter_50 : decode cX3_checkLetter 50 = .ok (.ireturn, 1) := by decide +kernel
theorem dX3_endsWithCheckLetter_0 : decode cX3_endsWithCheckLetter 0 = .ok (.aload_n 0, 1) := by decide +kernel
theorem dX3_endsWithCheckLetter_1 : decode cX3_endsWithCheckLetter 1 = .ok (.getfield 15, 3) := by decide +kernel
theorem dX3_endsWithCheckLetter_4 : decode cX3_endsWithCheckLetter 4 = .ok (.bipush 11, 2) := by decide +kernel
theorem dX3_endsWithCheckLetter_6 : decode cX3_endsWithCheckLetter 6 = .ok (.if_icmp .ne 21, 3) := by decide +kernel
theorem dX3_endsWithCheckLetter_9 : decode cX3_endsWithCheckLetter 9 = .ok (.aload_n 0, 1) := by decide +kernel
theorem dX3_endsWithCheckLetter_10 : decode cX3_endsWithCheckLetter 10 = .ok (.getfield 9, 3) := by decide +kernel
theorem dX3_endsWithCheckLetter_13 : decode cX3_endsWithCheckLetter 13 = .ok (.bipush 10, 2) := by decide +kernel
theorem dX3_endsWithCheckLetter_15 : decode cX3_endsWithCheckLetter 15 = .ok (.iaload, 1) := by decide +kernel
theorem dX3_endsWithCheckLetter_16 : decode cX3_endsWithCheckLetter 16 = .ok (.aload_n 0, 1) := by decide +kernel
theorem dX3_endsWithCheckLetter_17 : decode cX3_endsWithCheckLetter 17 = .ok (.invokevirtual 30, 3) := by decide +kernel
theorem dX3_endsWithCheckLetter_20 : decode cX3_endsWithCheckLetter 20 = .ok (.if_icmp .ne 7, 3) := by decide +kernel
theorem dX3_endsWithCheckLetter_23 : decode cX3_endsWithCheckLetter 23 = .ok (.iconst 1, 1) := by decide +kernel
theorem dX3_endsWithCheckLetter_24 : decode cX3_endsWithCheckLetter 24 = .ok (.goto 4, 3) := by decide +kernel
theorem dX3_endsWithCheckLetter_27 : decode cX3_endsWithCheckLetter 27 = .ok (.iconst 0, 1) := by decide +kernel
theorem dX3_endsWithCheckLetter_28 : decode cX3_endsWithCheckLetter 28 = .ok (.ireturn, 1) := by decide +kernel
theorem dX3_fits_0 : decode cX3_fits 0 = .ok (.aload_n 0, 1) := by decide +kernel
theorem dX3_fits_1 : decode cX3_fits 1 = .ok (.getfield 15, 3) := by decide +kernel
theorem dX3_fits_4 : decode cX3_fits 4 = .ok (.iconst 4, 1) := by decide +kernel
theorem dX3_fits_5 : decode cX3_fits 5 = .ok (.if_icmp .lt 16, 3) := by decide +kernel
theorem dX3_fits_8 : decode cX3_fits 8 = .ok (.aload_n 0, 1) := by decide +kernel
theorem dX3_fits_9 : decode cX3_fits 9 = .ok (.getfield 15, 3) := by decide +kernel
theorem dX3_fits_12 : decode cX3_fits 12 = .ok (.bipush 10, 2) := by decide +kernel
theorem dX3_fits_14 : decode cX3_fits 14 = .ok (.if_icmp .ge 7, 3) := by decide +kernel
theorem dX3_fits_17 : decode cX3_fits 17 = .ok (.iconst 1, 1) := by decide +kernel
theorem dX3_fits_18 : decode cX3_fits 18 = .ok (.goto 4, 3) := by decide +kernel
theorem dX3_fits_21 : decode cX3_fits 21 = .ok (.iconst 0, 1) := by decide +kernel
theorem dX3_fits_22 : decode cX3_fits 22 = .ok (.istore_n 2, 1) := by decide +kernel
theorem dX3_fits_23 : decode cX3_fits 23 = .ok (.iload_n 2, 1) := by decide +kernel
theorem dX3_fits_24 : decode cX3_fits 24 = .ok (.ifCond .eq 10, 3) := by decide +kernel
theorem dX3_fits_27 : decode cX3_fits 27 = .ok (.iload_n 1, 1) := by decide +kernel
theorem dX3_fits_28 : decode cX3_fits 28 = .ok (.invokestatic 19, 3) := by decide +kernel
theorem dX3_fits_31 : decode cX3_fits 31 = .ok (.goto 7, 3) := by decide +kernel
theorem dX3_fits_34 : decode cX3_fits 34 = .ok (.iload_n 1, 1) := by decide +kernel
theorem dX3_fits_35 : decode cX3_fits 35 = .ok (.invokestatic 23, 3) := by decide +kernel
theorem dX3_fits_38 : decode cX3_fits 38 = .ok (.ireturn, 1) := by decide +kernel
theorem dX3_worth_0 : decode cX3_worth 0 = .ok (.iload_n 0, 1) := by decide +kernel
theorem dX3_worth_1 : decode cX3_worth 1 = .ok (.invokestatic 23, 3) := by decide +kernel
theorem dX3_worth_4 : decode cX3_worth 4 = .ok (.ifCond .eq 12, 3) := by decide +kernel
theorem dX3_worth_7 : decode cX3_worth 7 = .ok (.iload_n 0, 1) := by decide +kernel
theorem dX3_worth_8 : decode cX3_worth 8 = .ok (.bipush 65, 2) := by decide +kernel
theorem dX3_worth_10 : decode cX3_worth 10 = .ok (.isub, 1) := by decide +kernel
theorem dX3_worth_11 : decode cX3_worth 11 = .ok (.iconst 1, 1) := by decide +kernel
theorem dX3_worth_12 : decode cX3_worth 12 = .ok (.iadd, 1) := by decide +kernel
theorem dX3_worth_13 : decode cX3_worth 13 = .ok (.goto 7, 3) := by decide +kernel
theorem dX3_worth_16 : decode cX3_worth 16 = .ok (.iload_n 0, 1) := by decide +kernel
theorem dX3_worth_17 : decode cX3_worth 17 = .ok (.bipush 48, 2) := by decide +kernel
theorem dX3_worth_19 : decode cX3_worth 19 = .ok (.isub, 1) := by decide +kernel
theorem dX3_worth_20 : decode cX3_worth 20 = .ok (.ireturn, 1) := by decide +kernel
theorem dX4_has_0 : decode cX4_has 0 = .ok (.iload_n 1, 1) := by decide +kernel
theorem dX4_has_1 : decode cX4_has 1 = .ok (.ifCond .lt 15, 3) := by decide +kernel
theorem dX4_has_4 : decode cX4_has 4 = .ok (.iload_n 1, 1) := by decide +kernel
theorem dX4_has_5 : decode cX4_has 5 = .ok (.aload_n 0, 1) := by decide +kernel
theorem dX4_has_6 : decode cX4_has 6 = .ok (.getfield 15, 3) := by decide +kernel
theorem dX4_has_9 : decode cX4_has 9 = .ok (.if_icmp .ge 7, 3) := by decide +kernel
theorem dX4_has_12 : decode cX4_has 12 = .ok (.iconst 1, 1) := by decide +kernel
theorem dX4_has_13 : decode cX4_has 13 = .ok (.goto 4, 3) := by decide +kernel
theorem dX4_has_16 : decode cX4_has 16 = .ok (.iconst 0, 1) := by decide +kernel
theorem dX4_has_17 : decode cX4_has 17 = .ok (.ireturn, 1) := by decide +kernel
theorem dX4_hasRoom_0 : decode cX4_hasRoom 0 = .ok (.aload_n 0, 1) := by decide +kernel
theorem dX4_hasRoom_1 : decode cX4_hasRoom 1 = .ok (.getfield 9, 3) := by decide +kernel
theorem dX4_hasRoom_4 : decode cX4_hasRoom 4 = .ok (.iload_n 1, 1) := by decide +kernel
theorem dX4_hasRoom_5 : decode cX4_hasRoom 5 = .ok (.iaload, 1) := by decide +kernel
theorem dX4_hasRoom_6 : decode cX4_hasRoom 6 = .ok (.aload_n 0, 1) := by decide +kernel
theorem dX4_hasRoom_7 : decode cX4_hasRoom 7 = .ok (.getfield 19, 3) := by decide +kernel
theorem dX4_hasRoom_10 : decode cX4_hasRoom 10 = .ok (.if_icmp .ge 7, 3) := by decide +kernel
theorem dX4_hasRoom_13 : decode cX4_hasRoom 13 = .ok (.iconst 1, 1) := by decide +kernel
theorem dX4_hasRoom_14 : decode cX4_hasRoom 14 = .ok (.goto 4, 3) := by decide +kernel
theorem dX4_hasRoom_17 : decode cX4_hasRoom 17 = .ok (.iconst 0, 1) := by decide +kernel
theorem dX4_hasRoom_18 : decode cX4_hasRoom 18 = .ok (.ireturn, 1) := by decide +kernel
theorem dX4_nextWithRoom_0 : decode cX4_nextWithRoom 0 = .ok (.iload_n 1, 1) := by decide +kernel
theorem dX4_nextWithRoom_1 : decode cX4_nextWithRoom 1 = .ok (.iconst 1, 1) := by decide +kernel
theorem dX4_nextWithRoom_2 : decode cX4_nextWithRoom 2 = .ok (.iadd, 1) := by decide +kernel
theorem dX4_nextWithRoom_3 : decode cX4_nextWithRoom 3 = .ok (.istore_n 2, 1) := by decide +kernel
theorem dX4_nextWithRoom_4 : decode cX4_nextWithRoom 4 = .ok (.iload_n 2, 1) := by decide +kernel
theorem dX4_nextWithRoom_5 : decode cX4_nextWithRoom 5 = .ok (.aload_n 0, 1) := by decide +kernel
theorem dX4_nextWithRoom_6 : decode cX4_nextWithRoom 6 = .ok (.getfield 15, 3) := by decide +kernel
theorem dX4_nextWithRoom_9 : decode cX4_nextWithRoom 9 = .ok (.if_icmp .ge 19, 3) := by decide +kernel
theorem dX4_nextWithRoom_12 : decode cX4_nextWithRoom 12 = .ok (.aload_n 0, 1) := by decide +kernel
theorem dX4_nextWithRoom_13 : decode cX4_nextWithRoom 13 = .ok (.iload_n 2, 1) := by decide +kernel
theorem dX4_nextWithRoom_14 : decode cX4_nextWithRoom 14 = .ok (.invokevirtual 22, 3) := by decide +kernel
theorem dX4_nextWithRoom_17 : decode cX4_nextWithRoom 17 = .ok (.ifCond .eq 5, 3) := by decide +kernel
theorem dX4_nextWithRoom_20 : decode cX4_nextWithRoom 20 = .ok (.iload_n 2, 1) := by decide +kernel
theorem dX4_nextWithRoom_21 : decode cX4_nextWithRoom 21 = .ok (.ireturn, 1) := by decide +kernel
theorem dX4_nextWithRoom_22 : decode cX4_nextWithRoom 22 = .ok (.iinc 2 1, 3) := by decide +kernel
theorem dX4_nextWithRoom_25 : decode cX4_nextWithRoom 25 = .ok (.goto (-21), 3) := by decide +kernel
theorem dX4_nextWithRoom_28 : decode cX4_nextWithRoom 28 = .ok (.aload_n 0, 1) := by decide +kernel
theorem dX4_nextWithRoom_29 : decode cX4_nextWithRoom 29 = .ok (.getfield 15, 3) := by decide +kernel
theorem dX4_nextWithRoom_32 : decode cX4_nextWithRoom 32 = .ok (.ireturn, 1) := by decide +kernel
theorem dX5_judge_0 : decode cX5_judge 0 = .ok (.aload_n 0, 1) := by decide +kernel
theorem dX5_judge_1 : decode cX5_judge 1 = .ok (.getfield 9, 3) := by decide +kernel
theorem dX5_judge_4 : decode cX5_judge 4 = .ok (.iload_n 1, 1) := by decide +kernel
theorem dX5_judge_5 : decode cX5_judge 5 = .ok (.iconst 2, 1) := by decide +kernel
theorem dX5_judge_6 : decode cX5_judge 6 = .ok (.imul, 1) := by decide +kernel
theorem dX5_judge_7 : decode cX5_judge 7 = .ok (.iload_n 2, 1) := by decide +kernel
theorem dX5_judge_8 : decode cX5_judge 8 = .ok (.iadd, 1) := by decide +kernel
theorem dX5_judge_9 : decode cX5_judge 9 = .ok (.iconst 4, 1) := by decide +kernel
theorem dX5_judge_10 : decode cX5_judge 10 = .ok (.isub, 1) := by decide +kernel
theorem dX5_judge_11 : decode cX5_judge 11 = .ok (.iload_n 3, 1) := by decide +kernel
theorem dX5_judge_12 : decode cX5_judge 12 = .ok (.iastore, 1) := by decide +kernel
theorem dX5_judge_13 : decode cX5_judge 13 = .ok (.return_, 1) := by decide +kernel
theorem dX5_verdictOf_0 : decode cX5_verdictOf 0 = .ok (.aload_n 0, 1) := by decide +kernel
theorem dX5_verdictOf_1 : decode cX5_verdictOf 1 = .ok (.getfield 9, 3) := by decide +kernel
theorem dX5_verdictOf_4 : decode cX5_verdictOf 4 = .ok (.iload_n 1, 1) := by decide +kernel
theorem dX5_verdictOf_5 : decode cX5_verdictOf 5 = .ok (.iconst 2, 1) := by decide +kernel
theorem dX5_verdictOf_6 : decode cX5_verdictOf 6 = .ok (.imul, 1) := by decide +kernel
theorem dX5_verdictOf_7 : decode cX5_verdictOf 7 = .ok (.iload_n 2, 1) := by decide +kernel
theorem dX5_verdictOf_8 : decode cX5_verdictOf 8 = .ok (.iadd, 1) := by decide +kernel
theorem dX5_verdictOf_9 : decode cX5_verdictOf 9 = .ok (.iconst 4, 1) := by decide +kernel
theorem dX5_verdictOf_10 : decode cX5_verdictOf 10 = .ok (.isub, 1) := by decide +kernel
theorem dX5_verdictOf_11 : decode cX5_verdictOf 11 = .ok (.iaload, 1) := by decide +kernel
theorem dX5_verdictOf_12 : decode cX5_verdictOf 12 = .ok (.ireturn, 1) := by decide +kernel

