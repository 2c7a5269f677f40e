theorem dX6_canBe_0 : decode cX6_canBe 0 = .ok (.iload_n 1, 1) := by decide +kernel
theorem dX6_canBe_1 : decode cX6_canBe 1 = .ok (.iconst 2, 1) := by decide +kernel
theorem dX6_canBe_2 : decode cX6_canBe 2 = .ok (.if_icmp .ne 19, 3) := by decide +kernel
theorem dX6_canBe_5 : decode cX6_canBe 5 = .ok (.iload_n 0, 1) := by decide +kernel
theorem dX6_canBe_6 : decode cX6_canBe 6 = .ok (.iconst 1, 1) := by decide +kernel
theorem dX6_canBe_7 : decode cX6_canBe 7 = .ok (.if_icmp .eq 8, 3) := by decide +kernel
theorem dX6_canBe_10 : decode cX6_canBe 10 = .ok (.iload_n 0, 1) := by decide +kernel
theorem dX6_canBe_11 : decode cX6_canBe 11 = .ok (.iconst 2, 1) := by decide +kernel
theorem dX6_canBe_12 : decode cX6_canBe 12 = .ok (.if_icmp .ne 7, 3) := by decide +kernel
theorem dX6_canBe_15 : decode cX6_canBe 15 = .ok (.iconst 1, 1) := by decide +kernel
theorem dX6_canBe_16 : decode cX6_canBe 16 = .ok (.goto 4, 3) := by decide +kernel
theorem dX6_canBe_19 : decode cX6_canBe 19 = .ok (.iconst 0, 1) := by decide +kernel
theorem dX6_canBe_20 : decode cX6_canBe 20 = .ok (.ireturn, 1) := by decide +kernel
theorem dX6_canBe_21 : decode cX6_canBe 21 = .ok (.iload_n 1, 1) := by decide +kernel
theorem dX6_canBe_22 : decode cX6_canBe 22 = .ok (.ifCond .eq 8, 3) := by decide +kernel
theorem dX6_canBe_25 : decode cX6_canBe 25 = .ok (.iload_n 1, 1) := by decide +kernel
theorem dX6_canBe_26 : decode cX6_canBe 26 = .ok (.iconst 1, 1) := by decide +kernel
theorem dX6_canBe_27 : decode cX6_canBe 27 = .ok (.if_icmp .ne 7, 3) := by decide +kernel
theorem dX6_canBe_30 : decode cX6_canBe 30 = .ok (.iconst 1, 1) := by decide +kernel
theorem dX6_canBe_31 : decode cX6_canBe 31 = .ok (.goto 4, 3) := by decide +kernel
theorem dX6_canBe_34 : decode cX6_canBe 34 = .ok (.iconst 0, 1) := by decide +kernel
theorem dX6_canBe_35 : decode cX6_canBe 35 = .ok (.ireturn, 1) := by decide +kernel
theorem dX6_held_0 : decode cX6_held 0 = .ok (.iconst 1, 1) := by decide +kernel
theorem dX6_held_1 : decode cX6_held 1 = .ok (.iload_n 1, 1) := by decide +kernel
theorem dX6_held_2 : decode cX6_held 2 = .ok (.iload_n 0, 1) := by decide +kernel
theorem dX6_held_3 : decode cX6_held 3 = .ok (.invokestatic 247, 3) := by decide +kernel
theorem dX6_held_6 : decode cX6_held 6 = .ok (.invokestatic 252, 3) := by decide +kernel
theorem dX6_held_9 : decode cX6_held 9 = .ok (.ireturn, 1) := by decide +kernel
theorem dX6_isDigit_0 : decode cX6_isDigit 0 = .ok (.iload_n 0, 1) := by decide +kernel
theorem dX6_isDigit_1 : decode cX6_isDigit 1 = .ok (.bipush 48, 2) := by decide +kernel
theorem dX6_isDigit_3 : decode cX6_isDigit 3 = .ok (.if_icmp .lt 13, 3) := by decide +kernel
theorem dX6_isDigit_6 : decode cX6_isDigit 6 = .ok (.iload_n 0, 1) := by decide +kernel
theorem dX6_isDigit_7 : decode cX6_isDigit 7 = .ok (.bipush 57, 2) := by decide +kernel
theorem dX6_isDigit_9 : decode cX6_isDigit 9 = .ok (.if_icmp .gt 7, 3) := by decide +kernel
theorem dX6_isDigit_12 : decode cX6_isDigit 12 = .ok (.iconst 1, 1) := by decide +kernel
theorem dX6_isDigit_13 : decode cX6_isDigit 13 = .ok (.goto 4, 3) := by decide +kernel
theorem dX6_isDigit_16 : decode cX6_isDigit 16 = .ok (.iconst 0, 1) := by decide +kernel
theorem dX6_isDigit_17 : decode cX6_isDigit 17 = .ok (.ireturn, 1) := by decide +kernel
theorem dX6_isLane_0 : decode cX6_isLane 0 = .ok (.iload_n 0, 1) := by decide +kernel
theorem dX6_isLane_1 : decode cX6_isLane 1 = .ok (.ifCond .lt 12, 3) := by decide +kernel
theorem dX6_isLane_4 : decode cX6_isLane 4 = .ok (.iload_n 0, 1) := by decide +kernel
theorem dX6_isLane_5 : decode cX6_isLane 5 = .ok (.iconst 3, 1) := by decide +kernel
theorem dX6_isLane_6 : decode cX6_isLane 6 = .ok (.if_icmp .ge 7, 3) := by decide +kernel
theorem dX6_isLane_9 : decode cX6_isLane 9 = .ok (.iconst 1, 1) := by decide +kernel
theorem dX6_isLane_10 : decode cX6_isLane 10 = .ok (.goto 4, 3) := by decide +kernel
theorem dX6_isLane_13 : decode cX6_isLane 13 = .ok (.iconst 0, 1) := by decide +kernel
theorem dX6_isLane_14 : decode cX6_isLane 14 = .ok (.ireturn, 1) := by decide +kernel
theorem dX6_isLetter_0 : decode cX6_isLetter 0 = .ok (.iload_n 0, 1) := by decide +kernel
theorem dX6_isLetter_1 : decode cX6_isLetter 1 = .ok (.bipush 65, 2) := by decide +kernel
theorem dX6_isLetter_3 : decode cX6_isLetter 3 = .ok (.if_icmp .lt 13, 3) := by decide +kernel
theorem dX6_isLetter_6 : decode cX6_isLetter 6 = .ok (.iload_n 0, 1) := by decide +kernel
theorem dX6_isLetter_7 : decode cX6_isLetter 7 = .ok (.bipush 90, 2) := by decide +kernel
theorem dX6_isLetter_9 : decode cX6_isLetter 9 = .ok (.if_icmp .gt 7, 3) := by decide +kernel
theorem dX6_isLetter_12 : decode cX6_isLetter 12 = .ok (.iconst 1, 1) := by decide +kernel
theorem dX6_isLetter_13 : decode cX6_isLetter 13 = .ok (.goto 4, 3) := by decide +kernel
theorem dX6_isLetter_16 : decode cX6_isLetter 16 = .ok (.iconst 0, 1) := by decide +kernel
theorem dX6_isLetter_17 : decode cX6_isLetter 17 = .ok (.ireturn, 1) := by decide +kernel
theorem dX0_add_0 : decode cX0_add 0 = .ok (.aload_n 0, 1) := by decide +kernel
theorem dX0_add_1 : decode cX0_add 1 = .ok (.getfield 33, 3) := by decide +kernel
theorem dX0_add_4 : decode cX0_add 4 = .ok (.bipush 60, 2) := by decide +kernel
theorem dX0_add_6 : decode cX0_add 6 = .ok (.if_icmp .lt 5, 3) := by decide +kernel
theorem dX0_add_9 : decode cX0_add 9 = .ok (.iconst (-1), 1) := by decide +kernel
theorem dX0_add_10 : decode cX0_add 10 = .ok (.ireturn, 1) := by decide +kernel
theorem dX0_add_11 : decode cX0_add 11 = .ok (.aload_n 0, 1) := by decide +kernel
theorem dX0_add_12 : decode cX0_add 12 = .ok (.dup, 1) := by decide +kernel
theorem dX0_add_13 : decode cX0_add 13 = .ok (.getfield 33, 3) := by decide +kernel
theorem dX0_add_16 : decode cX0_add 16 = .ok (.iconst 1, 1) := by decide +kernel
theorem dX0_add_17 : decode cX0_add 17 = .ok (.iadd, 1) := by decide +kernel
theorem dX0_add_18 : decode cX0_add 18 = .ok (.putfield 33, 3) := by decide +kernel
theorem dX0_add_21 : decode cX0_add 21 = .ok (.aload_n 0, 1) := by decide +kernel
theorem dX0_add_22 : decode cX0_add 22 = .ok (.getfield 9, 3) := by decide +kernel
theorem dX0_add_25 : decode cX0_add 25 = .ok (.aload_n 0, 1) := by decide +kernel
theorem dX0_add_26 : decode cX0_add 26 = .ok (.getfield 33, 3) := by decide +kernel
theorem dX0_add_29 : decode cX0_add 29 = .ok (.iload_n 1, 1) := by decide +kernel
theorem dX0_add_30 : decode cX0_add 30 = .ok (.iastore, 1) := by decide +kernel
theorem dX0_add_31 : decode cX0_add 31 = .ok (.aload_n 0, 1) := by decide +kernel
theorem dX0_add_32 : decode cX0_add 32 = .ok (.getfield 15, 3) := by decide +kernel
theorem dX0_add_35 : decode cX0_add 35 = .ok (.aload_n 0, 1) := by decide +kernel
theorem dX0_add_36 : decode cX0_add 36 = .ok (.getfield 33, 3) := by decide +kernel
theorem dX0_add_39 : decode cX0_add 39 = .ok (.iload_n 2, 1) := by decide +kernel
theorem dX0_add_40 : decode cX0_add 40 = .ok (.iastore, 1) := by decide +kernel
theorem dX0_add_41 : decode cX0_add 41 = .ok (.aload_n 0, 1) := by decide +kernel
theorem dX0_add_42 : decode cX0_add 42 = .ok (.getfield 18, 3) := by decide +kernel
theorem dX0_add_45 : decode cX0_add 45 = .ok (.aload_n 0, 1) := by decide +kernel
theorem dX0_add_46 : decode cX0_add 46 = .ok (.getfield 33, 3) := by decide +kernel
theorem dX0_add_49 : decode cX0_add 49 = .ok (.iload_n 3, 1) := by decide +kernel
theorem dX0_add_50 : decode cX0_add 50 = .ok (.iastore, 1) := by decide +kernel
theorem dX0_add_51 : decode cX0_add 51 = .ok (.aload_n 0, 1) := by decide +kernel
theorem dX0_add_52 : decode cX0_add 52 = .ok (.getfield 21, 3) := by decide +kernel
theorem dX0_add_55 : decode cX0_add 55 = .ok (.aload_n 0, 1) := by decide +kernel
theorem dX0_add_56 : decode cX0_add 56 = .ok (.getfield 33, 3) := by decide +kernel
theorem dX0_add_59 : decode cX0_add 59 = .ok (.iconst 0, 1) := by decide +kernel
theorem dX0_add_60 : decode cX0_add 60 = .ok (.iastore, 1) := by decide +kernel
theorem dX0_add_61 : decode cX0_add 61 = .ok (.aload_n 0, 1) := by decide +kernel
theorem dX0_add_62 : decode cX0_add 62 = .ok (.getfield 33, 3) := by decide +kernel
theorem dX0_add_65 : decode cX0_add 65 = .ok (.ireturn, 1) := by decide +kernel
theorem dX0_holdsBox_0 : decode cX0_holdsBox 0 = .ok (.iconst 1, 1) := by decide +kernel
theorem dX0_holdsBox_1 : decode cX0_holdsBox 1 = .ok (.istore_n 2, 1) := by decide +kernel
theorem dX0_holdsBox_2 : decode cX0_holdsBox 2 = .ok (.iload_n 2, 1) := by decide +kernel
theorem dX0_holdsBox_3 : decode cX0_holdsBox 3 = .ok (.aload_n 0, 1) := by decide +kernel
theorem dX0_holdsBox_4 : decode cX0_holdsBox 4 = .ok (.getfield 33, 3) := by decide +kernel
theorem dX0_holdsBox_7 : decode cX0_holdsBox 7 = .ok (.if_icmp .gt 31, 3) := by decide +kernel
theorem dX0_holdsBox_10 : decode cX0_holdsBox 10 = .ok (.aload_n 0, 1) := by decide +kernel
theorem dX0_holdsBox_11 : decode cX0_holdsBox 11 = .ok (.getfield 18, 3) := by decide +kernel
theorem dX0_holdsBox_14 : decode cX0_holdsBox 14 = .ok (.iload_n 2, 1) := by decide +kernel
theorem dX0_holdsBox_15 : decode cX0_holdsBox 15 = .ok (.iaload, 1) := by decide +kernel
theorem dX0_holdsBox_16 : decode cX0_holdsBox 16 = .ok (.iload_n 1, 1) := by decide +kernel
theorem dX0_holdsBox_17 : decode cX0_holdsBox 17 = .ok (.if_icmp .ne 15, 3) := by decide +kernel
theorem dX0_holdsBox_20 : decode cX0_holdsBox 20 = .ok (.aload_n 0, 1) := by decide +kernel
theorem dX0_holdsBox_21 : decode cX0_holdsBox 21 = .ok (.getfield 21, 3) := by decide +kernel
theorem dX0_holdsBox_24 : decode cX0_holdsBox 24 = .ok (.iload_n 2, 1) := by decide +kernel
theorem dX0_holdsBox_25 : decode cX0_holdsBox 25 = .ok (.iaload, 1) := by decide +kernel
theorem dX0_holdsBox_26 : decode cX0_holdsBox 26 = .ok (.iconst 3, 1) := by decide +kernel
theorem dX0_holdsBox_27 : decode cX0_holdsBox 27 = .ok (.if_icmp .eq 5, 3) := by decide +kernel
theorem dX0_holdsBox_30 : decode cX0_holdsBox 30 = .ok (.iconst 1, 1) := by decide +kernel
theorem dX0_holdsBox_31 : decode cX0_holdsBox 31 = .ok (.ireturn, 1) := by decide +kernel
theorem dX0_holdsBox_32 : decode cX0_holdsBox 32 = .ok (.iinc 2 1, 3) := by decide +kernel
theorem dX0_holdsBox_35 : decode cX0_holdsBox 35 = .ok (.goto (-33), 3) := by decide +kernel
theorem dX0_holdsBox_38 : decode cX0_holdsBox 38 = .ok (.iconst 0, 1) := by decide +kernel
theorem dX0_holdsBox_39 : decode cX0_holdsBox 39 = .ok (.ireturn, 1) := by decide +kernel
theorem dX0_holdsTruckIn_0 : decode cX0_holdsTruckIn 0 = .ok (.iconst 1, 1) := by decide +kernel
theorem dX0_holdsTruckIn_1 : decode cX0_holdsTruckIn 1 = .ok (.istore_n 2, 1) := by decide +kernel
theorem dX0_holdsTruckIn_2 : decode cX0_holdsTruckIn 2 = .ok (.iload_n 2, 1) := by decide +kernel
theorem dX0_holdsTruckIn_3 : decode cX0_holdsTruckIn 3 = .ok (.aload_n 0, 1) := by decide +kernel
theorem dX0_holdsTruckIn_4 : decode cX0_holdsTruckIn 4 = .ok (.getfield 33, 3) := by decide +kernel
theorem dX0_holdsTruckIn_7 : decode cX0_holdsTruckIn 7 = .ok (.if_icmp .gt 31, 3) := by decide +kernel
theorem dX0_holdsTruckIn_10 : decode cX0_holdsTruckIn 10 = .ok (.aload_n 0, 1) := by decide +kernel
theorem dX0_holdsTruckIn_11 : decode cX0_holdsTruckIn 11 = .ok (.getfield 15, 3) := by decide +kernel
theorem dX0_holdsTruckIn_14 : decode cX0_holdsTruckIn 14 = .ok (.iload_n 2, 1) := by decide +kernel
theorem dX0_holdsTruckIn_15 : decode cX0_holdsTruckIn 15 = .ok (.iaload, 1) := by decide +kernel
theorem dX0_holdsTruckIn_16 : decode cX0_holdsTruckIn 16 = .ok (.iload_n 1, 1) := by decide +kernel
theorem dX0_holdsTruckIn_17 : decode cX0_holdsTruckIn 17 = .ok (.if_icmp .ne 15, 3) := by decide +kernel
theorem dX0_holdsTruckIn_20 : decode cX0_holdsTruckIn 20 = .ok (.aload_n 0, 1) := by decide +kernel
theorem dX0_holdsTruckIn_21 : decode cX0_holdsTruckIn 21 = .ok (.getfield 21, 3) := by decide +kernel
theorem dX0_holdsTruckIn_24 : decode cX0_holdsTruckIn 24 = .ok (.iload_n 2, 1) := by decide +kernel
theorem dX0_holdsTruckIn_25 : decode cX0_holdsTruckIn 25 = .ok (.iaload, 1) := by decide +kernel
theorem dX0_holdsTruckIn_26 : decode cX0_holdsTruckIn 26 = .ok (.iconst 1, 1) := by decide +kernel
theorem dX0_holdsTruckIn_27 : decode cX0_holdsTruckIn 27 = .ok (.if_icmp .ne 5, 3) := by decide +kernel
theorem dX0_holdsTruckIn_30 : decode cX0_holdsTruckIn 30 = .ok (.iconst 1, 1) := by decide +kernel
theorem dX0_holdsTruckIn_31 : decode cX0_holdsTruckIn 31 = .ok (.ireturn, 1) := by decide +kernel
theorem dX0_holdsTruckIn_32 : decode cX0_holdsTruckIn 32 = .ok (.iinc 2 1, 3) := by decide +kernel
theorem dX0_holdsTruckIn_35 : decode cX0_holdsTruckIn 35 = .ok (.goto (-33), 3) := by decide +kernel
theorem dX0_holdsTruckIn_38 : decode cX0_holdsTruckIn 38 = .ok (.iconst 0, 1) := by decide +kernel
theorem dX0_holdsTruckIn_39 : decode cX0_holdsTruckIn 39 = .ok (.ireturn, 1) := by decide +kernel
theorem dX0_inWithBox_0 : decode cX0_inWithBox 0 = .ok (.iconst 1, 1) := by decide +kernel
theorem dX0_inWithBox_1 : decode cX0_inWithBox 1 = .ok (.istore_n 2, 1) := by decide +kernel
theorem dX0_inWithBox_2 : decode cX0_inWithBox 2 = .ok (.iload_n 2, 1) := by decide +kernel
theorem dX0_inWithBox_3 : decode cX0_inWithBox 3 = .ok (.aload_n 0, 1) := by decide +kernel
theorem dX0_inWithBox_4 : decode cX0_inWithBox 4 = .ok (.getfield 33, 3) := by decide +kernel
theorem dX0_inWithBox_7 : decode cX0_inWithBox 7 = .ok (.if_icmp .gt 31, 3) := by decide +kernel
theorem dX0_inWithBox_10 : decode cX0_inWithBox 10 = .ok (.aload_n 0, 1) := by decide +kernel
theorem dX0_inWithBox_11 : decode cX0_inWithBox 11 = .ok (.getfield 18, 3) := by decide +kernel
theorem dX0_inWithBox_14 : decode cX0_inWithBox 14 = .ok (.iload_n 2, 1) := by decide +kernel
theorem dX0_inWithBox_15 : decode cX0_inWithBox 15 = .ok (.iaload, 1) := by decide +kernel
theorem dX0_inWithBox_16 : decode cX0_inWithBox 16 = .ok (.iload_n 1, 1) := by decide +kernel
theorem dX0_inWithBox_17 : decode cX0_inWithBox 17 = .ok (.if_icmp .ne 15, 3) := by decide +kernel
theorem dX0_inWithBox_20 : decode cX0_inWithBox 20 = .ok (.aload_n 0, 1) := by decide +kernel
theorem dX0_inWithBox_21 : decode cX0_inWithBox 21 = .ok (.getfield 21, 3) := by decide +kernel
theorem dX0_inWithBox_24 : decode cX0_inWithBox 24 = .ok (.iload_n 2, 1) := by decide +kernel
theorem dX0_inWithBox_25 : decode cX0_inWithBox 25 = .ok (.iaload, 1) := by decide +kernel
theorem dX0_inWithBox_26 : decode cX0_inWithBox 26 = .ok (.iconst 1, 1) := by decide +kernel
theorem dX0_inWithBox_27 : decode cX0_inWithBox 27 = .ok (.if_icmp .ne 5, 3) := by decide +kernel
theorem dX0_inWithBox_30 : decode cX0_inWithBox 30 = .ok (.iload_n 2, 1) := by decide +kernel
theorem dX0_inWithBox_31 : decode cX0_inWithBox 31 = .ok (.ireturn, 1) := by decide +kernel
theorem dX0_inWithBox_32 : decode cX0_inWithBox 32 = .ok (.iinc 2 1, 3) := by decide +kernel
theorem dX0_inWithBox_35 : decode cX0_inWithBox 35 = .ok (.goto (-33), 3) := by decide +kernel
theorem dX0_inWithBox_38 : decode cX0_inWithBox 38 = .ok (.iconst (-1), 1) := by decide +kernel
theorem dX0_inWithBox_39 : decode cX0_inWithBox 39 = .ok (.ireturn, 1) := by decide +kernel
theorem dX1_add_0 : decode cX1_add 0 = .ok (.aload_n 0, 1) := by decide +kernel
theorem dX1_add_1 : decode cX1_add 1 = .ok (.getfield 25, 3) := by decide +kernel
theorem dX1_add_4 : decode cX1_add 4 = .ok (.bipush 20, 2) := by decide +kernel
theorem dX1_add_6 : decode cX1_add 6 = .ok (.if_icmp .lt 5, 3) := by decide +kernel
theorem dX1_add_9 : decode cX1_add 9 = .ok (.iconst (-1), 1) := by decide +kernel
theorem dX1_add_10 : decode cX1_add 10 = .ok (.ireturn, 1) := by decide +kernel
theorem dX1_add_11 : decode cX1_add 11 = .ok (.aload_n 0, 1) := by decide +kernel
theorem dX1_add_12 : decode cX1_add 12 = .ok (.getfield 25, 3) := by decide +kernel
theorem dX1_add_15 : decode cX1_add 15 = .ok (.istore 4, 2) := by decide +kernel
theorem dX1_add_17 : decode cX1_add 17 = .ok (.aload_n 0, 1) := by decide +kernel
theorem dX1_add_18 : decode cX1_add 18 = .ok (.dup, 1) := by decide +kernel
theorem dX1_add_19 : decode cX1_add 19 = .ok (.getfield 25, 3) := by decide +kernel
theorem dX1_add_22 : decode cX1_add 22 = .ok (.iconst 1, 1) := by decide +kernel
theorem dX1_add_23 : decode cX1_add 23 = .ok (.iadd, 1) := by decide +kernel
theorem dX1_add_24 : decode cX1_add 24 = .ok (.putfield 25, 3) := by decide +kernel
theorem dX1_add_27 : decode cX1_add 27 = .ok (.iconst 0, 1) := by decide +kernel
theorem dX1_add_28 : decode cX1_add 28 = .ok (.istore 5, 2) := by decide +kernel
theorem dX1_add_30 : decode cX1_add 30 = .ok (.iload 5, 2) := by decide +kernel
theorem dX1_add_32 : decode cX1_add 32 = .ok (.bipush 10, 2) := by decide +kernel
theorem dX1_add_34 : decode cX1_add 34 = .ok (.if_icmp .ge 33, 3) := by decide +kernel
theorem dX1_add_37 : decode cX1_add 37 = .ok (.iload 5, 2) := by decide +kernel
theorem dX1_add_39 : decode cX1_add 39 = .ok (.aload_n 1, 1) := by decide +kernel
theorem dX1_add_40 : decode cX1_add 40 = .ok (.arraylength, 1) := by decide +kernel
theorem dX1_add_41 : decode cX1_add 41 = .ok (.if_icmp .ge 26, 3) := by decide +kernel
theorem dX1_add_44 : decode cX1_add 44 = .ok (.aload_n 0, 1) := by decide +kernel
theorem dX1_add_45 : decode cX1_add 45 = .ok (.getfield 9, 3) := by decide +kernel
theorem dX1_add_48 : decode cX1_add 48 = .ok (.iload 4, 2) := by decide +kernel
theorem dX1_add_50 : decode cX1_add 50 = .ok (.bipush 10, 2) := by decide +kernel
theorem dX1_add_52 : decode cX1_add 52 = .ok (.imul, 1) := by decide +kernel
theorem dX1_add_53 : decode cX1_add 53 = .ok (.iload 5, 2) := by decide +kernel
theorem dX1_add_55 : decode cX1_add 55 = .ok (.iadd, 1) := by decide +kernel
theorem dX1_add_56 : decode cX1_add 56 = .ok (.aload_n 1, 1) := by decide +kernel
theorem dX1_add_57 : decode cX1_add 57 = .ok (.iload 5, 2) := by decide +kernel
theorem dX1_add_59 : decode cX1_add 59 = .ok (.iaload, 1) := by decide +kernel
theorem dX1_add_60 : decode cX1_add 60 = .ok (.iastore, 1) := by decide +kernel
theorem dX1_add_61 : decode cX1_add 61 = .ok (.iinc 5 1, 3) := by decide +kernel
theorem dX1_add_64 : decode cX1_add 64 = .ok (.goto (-34), 3) := by decide +kernel
theorem dX1_add_67 : decode cX1_add 67 = .ok (.aload_n 0, 1) := by decide +kernel
theorem dX1_add_68 : decode cX1_add 68 = .ok (.getfield 15, 3) := by decide +kernel
theorem dX1_add_71 : decode cX1_add 71 = .ok (.iload 4, 2) := by decide +kernel
theorem dX1_add_73 : decode cX1_add 73 = .ok (.iload_n 2, 1) := by decide +kernel
theorem dX1_add_74 : decode cX1_add 74 = .ok (.iastore, 1) := by decide +kernel
theorem dX1_add_75 : decode cX1_add 75 = .ok (.aload_n 0, 1) := by decide +kernel
theorem dX1_add_76 : decode cX1_add 76 = .ok (.getfield 18, 3) := by decide +kernel
theorem dX1_add_79 : decode cX1_add 79 = .ok (.iload 4, 2) := by decide +kernel
theorem dX1_add_81 : decode cX1_add 81 = .ok (.iload_n 3, 1) := by decide +kernel
theorem dX1_add_82 : decode cX1_add 82 = .ok (.bastore, 1) := by decide +kernel
theorem dX1_add_83 : decode cX1_add 83 = .ok (.aload_n 0, 1) := by decide +kernel
theorem dX1_add_84 : decode cX1_add 84 = .ok (.iload 4, 2) := by decide +kernel
theorem dX1_add_86 : decode cX1_add 86 = .ok (.iconst 0, 1) := by decide +kernel
theorem dX1_add_87 : decode cX1_add 87 = .ok (.iconst 0, 1) := by decide +kernel
theorem dX1_add_88 : decode cX1_add 88 = .ok (.invokevirtual 29, 3) := by decide +kernel
theorem dX1_add_91 : decode cX1_add 91 = .ok (.aload_n 0, 1) := by decide +kernel
theorem dX1_add_92 : decode cX1_add 92 = .ok (.iload 4, 2) := by decide +kernel
theorem dX1_add_94 : decode cX1_add 94 = .ok (.iconst 1, 1) := by decide +kernel
theorem dX1_add_95 : decode cX1_add 95 = .ok (.iconst 1, 1) := by decide +kernel
theorem dX1_add_96 : decode cX1_add 96 = .ok (.invokevirtual 29, 3) := by decide +kernel
theorem dX1_add_99 : decode cX1_add 99 = .ok (.aload_n 0, 1) := by decide +kernel
theorem dX1_add_100 : decode cX1_add 100 = .ok (.iload 4, 2) := by decide +kernel
theorem dX1_add_102 : decode cX1_add 102 = .ok (.iconst 2, 1) := by decide +kernel
theorem dX1_add_103 : decode cX1_add 103 = .ok (.iconst 1, 1) := by decide +kernel
theorem dX1_add_104 : decode cX1_add 104 = .ok (.invokevirtual 29, 3) := by decide +kernel
theorem dX1_add_107 : decode cX1_add 107 = .ok (.aload_n 0, 1) := by decide +kernel
theorem dX1_add_108 : decode cX1_add 108 = .ok (.iload 4, 2) := by decide +kernel
theorem dX1_add_110 : decode cX1_add 110 = .ok (.iconst 3, 1) := by decide +kernel
theorem dX1_add_111 : decode cX1_add 111 = .ok (.iconst 1, 1) := by decide +kernel
theorem dX1_add_112 : decode cX1_add 112 = .ok (.invokevirtual 29, 3) := by decide +kernel
theorem dX1_add_115 : decode cX1_add 115 = .ok (.iload 4, 2) := by decide +kernel
theorem dX1_add_117 : decode cX1_add 117 = .ok (.ireturn, 1) := by decide +kernel
theorem dX1_hasNumber_0 : decode cX1_hasNumber 0 = .ok (.iconst 0, 1) := by decide +kernel
theorem dX1_hasNumber_1 : decode cX1_hasNumber 1 = .ok (.istore_n 2, 1) := by decide +kernel
theorem dX1_hasNumber_2 : decode cX1_hasNumber 2 = .ok (.iload_n 2, 1) := by decide +kernel
theorem dX1_hasNumber_3 : decode cX1_hasNumber 3 = .ok (.aload_n 0, 1) := by decide +kernel
theorem dX1_hasNumber_4 : decode cX1_hasNumber 4 = .ok (.getfield 25, 3) := by decide +kernel
theorem dX1_hasNumber_7 : decode cX1_hasNumber 7 = .ok (.if_icmp .ge 20, 3) := by decide +kernel
theorem dX1_hasNumber_10 : decode cX1_hasNumber 10 = .ok (.aload_n 0, 1) := by decide +kernel
theorem dX1_hasNumber_11 : decode cX1_hasNumber 11 = .ok (.iload_n 2, 1) := by decide +kernel
theorem dX1_hasNumber_12 : decode cX1_hasNumber 12 = .ok (.aload_n 1, 1) := by decide +kernel
theorem dX1_hasNumber_13 : decode cX1_hasNumber 13 = .ok (.invokevirtual 33, 3) := by decide +kernel
theorem dX1_hasNumber_16 : decode cX1_hasNumber 16 = .ok (.ifCond .eq 5, 3) := by decide +kernel
theorem dX1_hasNumber_19 : decode cX1_hasNumber 19 = .ok (.iconst 1, 1) := by decide +kernel
theorem dX1_hasNumber_20 : decode cX1_hasNumber 20 = .ok (.ireturn, 1) := by decide +kernel
theorem dX1_hasNumber_21 : decode cX1_hasNumber 21 = .ok (.iinc 2 1, 3) := by decide +kernel
theorem dX1_hasNumber_24 : decode cX1_hasNumber 24 = .ok (.goto (-22), 3) := by decide +kernel
theorem dX1_hasNumber_27 : decode cX1_hasNumber 27 = .ok (.iconst 0, 1) := by decide +kernel
theorem dX1_hasNumber_28 : decode cX1_hasNumber 28 = .ok (.ireturn, 1) := by decide +kernel
theorem dX1_isNumberOf_0 : decode cX1_isNumberOf 0 = .ok (.iconst 0, 1) := by decide +kernel
theorem dX1_isNumberOf_1 : decode cX1_isNumberOf 1 = .ok (.istore_n 3, 1) := by decide +kernel
theorem dX1_isNumberOf_2 : decode cX1_isNumberOf 2 = .ok (.iload_n 3, 1) := by decide +kernel
theorem dX1_isNumberOf_3 : decode cX1_isNumberOf 3 = .ok (.bipush 10, 2) := by decide +kernel
theorem dX1_isNumberOf_5 : decode cX1_isNumberOf 5 = .ok (.if_icmp .ge 34, 3) := by decide +kernel
theorem dX1_isNumberOf_8 : decode cX1_isNumberOf 8 = .ok (.iload_n 3, 1) := by decide +kernel
theorem dX1_isNumberOf_9 : decode cX1_isNumberOf 9 = .ok (.aload_n 2, 1) := by decide +kernel
theorem dX1_isNumberOf_10 : decode cX1_isNumberOf 10 = .ok (.arraylength, 1) := by decide +kernel
theorem dX1_isNumberOf_11 : decode cX1_isNumberOf 11 = .ok (.if_icmp .ge 28, 3) := by decide +kernel
theorem dX1_isNumberOf_14 : decode cX1_isNumberOf 14 = .ok (.aload_n 0, 1) := by decide +kernel
theorem dX1_isNumberOf_15 : decode cX1_isNumberOf 15 = .ok (.getfield 9, 3) := by decide +kernel
theorem dX1_isNumberOf_18 : decode cX1_isNumberOf 18 = .ok (.iload_n 1, 1) := by decide +kernel
theorem dX1_isNumberOf_19 : decode cX1_isNumberOf 19 = .ok (.bipush 10, 2) := by decide +kernel
theorem dX1_isNumberOf_21 : decode cX1_isNumberOf 21 = .ok (.imul, 1) := by decide +kernel
theorem dX1_isNumberOf_22 : decode cX1_isNumberOf 22 = .ok (.iload_n 3, 1) := by decide +kernel
theorem dX1_isNumberOf_23 : decode cX1_isNumberOf 23 = .ok (.iadd, 1) := by decide +kernel
theorem dX1_isNumberOf_24 : decode cX1_isNumberOf 24 = .ok (.iaload, 1) := by decide +kernel
theorem dX1_isNumberOf_25 : decode cX1_isNumberOf 25 = .ok (.aload_n 2, 1) := by decide +kernel
theorem dX1_isNumberOf_26 : decode cX1_isNumberOf 26 = .ok (.iload_n 3, 1) := by decide +kernel
theorem dX1_isNumberOf_27 : decode cX1_isNumberOf 27 = .ok (.iaload, 1) := by decide +kernel
theorem dX1_isNumberOf_28 : decode cX1_isNumberOf 28 = .ok (.if_icmp .eq 5, 3) := by decide +kernel
theorem dX1_isNumberOf_31 : decode cX1_isNumberOf 31 = .ok (.iconst 0, 1) := by decide +kernel
theorem dX1_isNumberOf_32 : decode cX1_isNumberOf 32 = .ok (.ireturn, 1) := by decide +kernel
theorem dX1_isNumberOf_33 : decode cX1_isNumberOf 33 = .ok (.iinc 3 1, 3) := by decide +kernel
theorem dX1_isNumberOf_36 : decode cX1_isNumberOf 36 = .ok (.goto (-34), 3) := by decide +kernel
theorem dX1_isNumberOf_39 : decode cX1_isNumberOf 39 = .ok (.iconst 1, 1) := by decide +kernel
theorem dX1_isNumberOf_40 : decode cX1_isNumberOf 40 = .ok (.ireturn, 1) := by decide +kernel
theorem dX1_judge_0 : decode cX1_judge 0 = .ok (.aload_n 0, 1) := by decide +kernel
theorem dX1_judge_1 : decode cX1_judge 1 = .ok (.getfield 22, 3) := by decide +kernel
theorem dX1_judge_4 : decode cX1_judge 4 = .ok (.iload_n 1, 1) := by decide +kernel
theorem dX1_judge_5 : decode cX1_judge 5 = .ok (.iconst 4, 1) := by decide +kernel
theorem dX1_judge_6 : decode cX1_judge 6 = .ok (.imul, 1) := by decide +kernel
theorem dX1_judge_7 : decode cX1_judge 7 = .ok (.iload_n 2, 1) := by decide +kernel
theorem dX1_judge_8 : decode cX1_judge 8 = .ok (.iadd, 1) := by decide +kernel
theorem dX1_judge_9 : decode cX1_judge 9 = .ok (.iload_n 3, 1) := by decide +kernel
theorem dX1_judge_10 : decode cX1_judge 10 = .ok (.iastore, 1) := by decide +kernel
theorem dX1_judge_11 : decode cX1_judge 11 = .ok (.return_, 1) := by decide +kernel
theorem dX1_verdictOf_0 : decode cX1_verdictOf 0 = .ok (.aload_n 0, 1) := by decide +kernel
theorem dX1_verdictOf_1 : decode cX1_verdictOf 1 = .ok (.getfield 22, 3) := by decide +kernel
theorem dX1_verdictOf_4 : decode cX1_verdictOf 4 = .ok (.iload_n 1, 1) := by decide +kernel
theorem dX1_verdictOf_5 : decode cX1_verdictOf 5 = .ok (.iconst 4, 1) := by decide +kernel
theorem dX1_verdictOf_6 : decode cX1_verdictOf 6 = .ok (.imul, 1) := by decide +kernel
theorem dX1_verdictOf_7 : decode cX1_verdictOf 7 = .ok (.iload_n 2, 1) := by decide +kernel
theorem dX1_verdictOf_8 : decode cX1_verdictOf 8 = .ok (.iadd, 1) := by decide +kernel
theorem dX1_verdictOf_9 : decode cX1_verdictOf 9 = .ok (.iaload, 1) := by decide +kernel
theorem dX1_verdictOf_10 : decode cX1_verdictOf 10 = .ok (.ireturn, 1) := by decide +kernel
theorem dX2_add_0 : decode cX2_add 0 = .ok (.aload_n 0, 1) := by decide +kernel
theorem dX2_add_1 : decode cX2_add 1 = .ok (.getfield 15, 3) := by decide +kernel
theorem dX2_add_4 : decode cX2_add 4 = .ok (.bipush 16, 2) := by decide +kernel
theorem dX2_add_6 : decode cX2_add 6 = .ok (.if_icmp .ge 23, 3) := by decide +kernel
theorem dX2_add_9 : decode cX2_add 9 = .ok (.aload_n 0, 1) := by decide +kernel
theorem dX2_add_10 : decode cX2_add 10 = .ok (.getfield 9, 3) := by decide +kernel
theorem dX2_add_13 : decode cX2_add 13 = .ok (.aload_n 0, 1) := by decide +kernel
theorem dX2_add_14 : decode cX2_add 14 = .ok (.getfield 15, 3) := by decide +kernel
theorem dX2_add_17 : decode cX2_add 17 = .ok (.iload_n 1, 1) := by decide +kernel
theorem dX2_add_18 : decode cX2_add 18 = .ok (.iastore, 1) := by decide +kernel
theorem dX2_add_19 : decode cX2_add 19 = .ok (.aload_n 0, 1) := by decide +kernel
theorem dX2_add_20 : decode cX2_add 20 = .ok (.dup, 1) := by decide +kernel
theorem dX2_add_21 : decode cX2_add 21 = .ok (.getfield 15, 3) := by decide +kernel
theorem dX2_add_24 : decode cX2_add 24 = .ok (.iconst 1, 1) := by decide +kernel
theorem dX2_add_25 : decode cX2_add 25 = .ok (.iadd, 1) := by decide +kernel
theorem dX2_add_26 : decode cX2_add 26 = .ok (.putfield 15, 3) := by decide +kernel
theorem dX2_add_29 : decode cX2_add 29 = .ok (.return_, 1) := by decide +kernel
theorem dX2_bookingAt_0 : decode cX2_bookingAt 0 = .ok (.iload_n 1, 1) := by decide +kernel
theorem dX2_bookingAt_1 : decode cX2_bookingAt 1 = .ok (.ifCond .lt 20, 3) := by decide +kernel
theorem dX2_bookingAt_4 : decode cX2_bookingAt 4 = .ok (.iload_n 1, 1) := by decide +kernel
theorem dX2_bookingAt_5 : decode cX2_bookingAt 5 = .ok (.aload_n 0, 1) := by decide +kernel
theorem dX2_bookingAt_6 : decode cX2_bookingAt 6 = .ok (.getfield 15, 3) := by decide +kernel
theorem dX2_bookingAt_9 : decode cX2_bookingAt 9 = .ok (.if_icmp .ge 12, 3) := by decide +kernel
theorem dX2_bookingAt_12 : decode cX2_bookingAt 12 = .ok (.aload_n 0, 1) := by decide +kernel
theorem dX2_bookingAt_13 : decode cX2_bookingAt 13 = .ok (.getfield 9, 3) := by decide +kernel
theorem dX2_bookingAt_16 : decode cX2_bookingAt 16 = .ok (.iload_n 1, 1) := by decide +kernel
theorem dX2_bookingAt_17 : decode cX2_bookingAt 17 = .ok (.iaload, 1) := by decide +kernel
theorem dX2_bookingAt_18 : decode cX2_bookingAt 18 = .ok (.goto 4, 3) := by decide +kernel
theorem dX2_bookingAt_21 : decode cX2_bookingAt 21 = .ok (.iconst (-1), 1) := by decide +kernel
theorem dX2_bookingAt_22 : decode cX2_bookingAt 22 = .ok (.ireturn, 1) := by decide +kernel
theorem dX2_remove_0 : decode cX2_remove 0 = .ok (.iconst 0, 1) := by decide +kernel
theorem dX2_remove_1 : decode cX2_remove 1 = .ok (.istore_n 2, 1) := by decide +kernel
theorem dX2_remove_2 : decode cX2_remove 2 = .ok (.iconst 0, 1) := by decide +kernel
theorem dX2_remove_3 : decode cX2_remove 3 = .ok (.istore_n 3, 1) := by decide +kernel
theorem dX2_remove_4 : decode cX2_remove 4 = .ok (.iload_n 3, 1) := by decide +kernel
theorem dX2_remove_5 : decode cX2_remove 5 = .ok (.aload_n 0, 1) := by decide +kernel
theorem dX2_remove_6 : decode cX2_remove 6 = .ok (.getfield 15, 3) := by decide +kernel
theorem dX2_remove_9 : decode cX2_remove 9 = .ok (.if_icmp .ge 34, 3) := by decide +kernel
theorem dX2_remove_12 : decode cX2_remove 12 = .ok (.aload_n 0, 1) := by decide +kernel
theorem dX2_remove_13 : decode cX2_remove 13 = .ok (.getfield 9, 3) := by decide +kernel
theorem dX2_remove_16 : decode cX2_remove 16 = .ok (.iload_n 3, 1) := by decide +kernel
theorem dX2_remove_17 : decode cX2_remove 17 = .ok (.iaload, 1) := by decide +kernel
theorem dX2_remove_18 : decode cX2_remove 18 = .ok (.iload_n 1, 1) := by decide +kernel
theorem dX2_remove_19 : decode cX2_remove 19 = .ok (.if_icmp .eq 18, 3) := by decide +kernel
theorem dX2_remove_22 : decode cX2_remove 22 = .ok (.aload_n 0, 1) := by decide +kernel
theorem dX2_remove_23 : decode cX2_remove 23 = .ok (.getfield 9, 3) := by decide +kernel
theorem dX2_remove_26 : decode cX2_remove 26 = .ok (.iload_n 2, 1) := by decide +kernel
theorem dX2_remove_27 : decode cX2_remove 27 = .ok (.aload_n 0, 1) := by decide +kernel
theorem dX2_remove_28 : decode cX2_remove 28 = .ok (.getfield 9, 3) := by decide +kernel
theorem dX2_remove_31 : decode cX2_remove 31 = .ok (.iload_n 3, 1) := by decide +kernel
theorem dX2_remove_32 : decode cX2_remove 32 = .ok (.iaload, 1) := by decide +kernel
theorem dX2_remove_33 : decode cX2_remove 33 = .ok (.iastore, 1) := by decide +kernel
theorem dX2_remove_34 : decode cX2_remove 34 = .ok (.iinc 2 1, 3) := by decide +kernel
theorem dX2_remove_37 : decode cX2_remove 37 = .ok (.iinc 3 1, 3) := by decide +kernel
theorem dX2_remove_40 : decode cX2_remove 40 = .ok (.goto (-36), 3) := by decide +kernel
theorem dX2_remove_43 : decode cX2_remove 43 = .ok (.aload_n 0, 1) := by decide +kernel
theorem dX2_remove_44 : decode cX2_remove 44 = .ok (.iload_n 2, 1) := by decide +kernel
theorem dX2_remove_45 : decode cX2_remove 45 = .ok (.putfield 15, 3) := by decide +kernel
theorem dX2_remove_48 : decode cX2_remove 48 = .ok (.return_, 1) := by decide +kernel
theorem dX3_add_0 : decode cX3_add 0 = .ok (.aload_n 0, 1) := by decide +kernel
theorem dX3_add_1 : decode cX3_add 1 = .ok (.getfield 15, 3) := by decide +kernel
theorem dX3_add_4 : decode cX3_add 4 = .ok (.bipush 11, 2) := by decide +kernel
theorem dX3_add_6 : decode cX3_add 6 = .ok (.if_icmp .ge 23, 3) := by decide +kernel
theorem dX3_add_9 : decode cX3_add 9 = .ok (.aload_n 0, 1) := by decide +kernel
theorem dX3_add_10 : decode cX3_add 10 = .ok (.getfield 9, 3) := by decide +kernel
theorem dX3_add_13 : decode cX3_add 13 = .ok (.aload_n 0, 1) := by decide +kernel
theorem dX3_add_14 : decode cX3_add 14 = .ok (.getfield 15, 3) := by decide +kernel
theorem dX3_add_17 : decode cX3_add 17 = .ok (.iload_n 1, 1) := by decide +kernel
theorem dX3_add_18 : decode cX3_add 18 = .ok (.iastore, 1) := by decide +kernel
theorem dX3_add_19 : decode cX3_add 19 = .ok (.aload_n 0, 1) := by decide +kernel
theorem dX3_add_20 : decode cX3_add 20 = .ok (.dup, 1) := by decide +kernel
theorem dX3_add_21 : decode cX3_add 21 = .ok (.getfield 15, 3) := by decide +kernel
theorem dX3_add_24 : decode cX3_add 24 = .ok (.iconst 1, 1) := by decide +kernel
theorem dX3_add_25 : decode cX3_add 25 = .ok (.iadd, 1) := by decide +kernel
theorem dX3_add_26 : decode cX3_add 26 = .ok (.putfield 15, 3) := by decide +kernel
theorem dX3_add_29 : decode cX3_add 29 = .ok (.return_, 1) := by decide +kernel
theorem dX3_checkLetter_0 : decode cX3_checkLetter 0 = .ok (.aload_n 0, 1) := by decide +kernel
theorem dX3_checkLetter_1 : decode cX3_checkLetter 1 = .ok (.getfield 15, 3) := by decide +kernel
theorem dX3_checkLetter_4 : decode cX3_checkLetter 4 = .ok (.bipush 10, 2) := by decide +kernel
theorem dX3_checkLetter_6 : decode cX3_checkLetter 6 = .ok (.if_icmp .ge 5, 3) := by decide +kernel
theorem dX3_checkLetter_9 : decode cX3_checkLetter 9 = .ok (.iconst (-1), 1) := by decide +kernel
theorem dX3_checkLetter_10 : decode cX3_checkLetter 10 = .ok (.ireturn, 1) := by decide +kernel
theorem dX3_checkLetter_11 : decode cX3_checkLetter 11 = .ok (.iconst 0, 1) := by decide +kernel
theorem dX3_checkLetter_12 : decode cX3_checkLetter 12 = .ok (.istore_n 1, 1) := by decide +kernel
theorem dX3_checkLetter_13 : decode cX3_checkLetter 13 = .ok (.iconst 0, 1) := by decide +kernel
theorem dX3_checkLetter_14 : decode cX3_checkLetter 14 = .ok (.istore_n 2, 1) := by decide +kernel
theorem dX3_checkLetter_15 : decode cX3_checkLetter 15 = .ok (.iload_n 2, 1) := by decide +kernel
theorem dX3_checkLetter_16 : decode cX3_checkLetter 16 = .ok (.bipush 10, 2) := by decide +kernel
theorem dX3_checkLetter_18 : decode cX3_checkLetter 18 = .ok (.if_icmp .ge 25, 3) := by decide +kernel
theorem dX3_checkLetter_21 : decode cX3_checkLetter 21 = .ok (.iload_n 1, 1) := by decide +kernel
theorem dX3_checkLetter_22 : decode cX3_checkLetter 22 = .ok (.aload_n 0, 1) := by decide +kernel
theorem dX3_checkLetter_23 : decode cX3_checkLetter 23 = .ok (.getfield 9, 3) := by decide +kernel
theorem dX3_checkLetter_26 : decode cX3_checkLetter 26 = .ok (.iload_n 2, 1) := by decide +kernel
theorem dX3_checkLetter_27 : decode cX3_checkLetter 27 = .ok (.iaload, 1) := by decide +kernel
theorem dX3_checkLetter_28 : decode cX3_checkLetter 28 = .ok (.invokestatic 26, 3) := by decide +kernel
theorem dX3_checkLetter_31 : decode cX3_checkLetter 31 = .ok (.iload_n 2, 1) := by decide +kernel
theorem dX3_checkLetter_32 : decode cX3_checkLetter 32 = .ok (.iconst 1, 1) := by decide +kernel
theorem dX3_checkLetter_33 : decode cX3_checkLetter 33 = .ok (.iadd, 1) := by decide +kernel
theorem dX3_checkLetter_34 : decode cX3_checkLetter 34 = .ok (.imul, 1) := by decide +kernel
theorem dX3_checkLetter_35 : decode cX3_checkLetter 35 = .ok (.iadd, 1) := by decide +kernel
theorem dX3_checkLetter_36 : decode cX3_checkLetter 36 = .ok (.istore_n 1, 1) := by decide +kernel
theorem dX3_checkLetter_37 : decode cX3_checkLetter 37 = .ok (.iinc 2 1, 3) := by decide +kernel
theorem dX3_checkLetter_40 : decode cX3_checkLetter 40 = .ok (.goto (-25), 3) := by decide +kernel
theorem dX3_checkLetter_43 : decode cX3_checkLetter 43 = .ok (.bipush 65, 2) := by decide +kernel
theorem dX3_checkLetter_45 : decode cX3_checkLetter 45 = .ok (.iload_n 1, 1) := by decide +kernel
theorem dX3_checkLetter_46 : decode cX3_checkLetter 46 = .ok (.bipush 26, 2) := by decide +kernel
theorem dX3_checkLetter_48 : decode cX3_checkLetter 48 = .ok (.irem, 1) := by decide +kernel
theorem dX3_checkLetter_49 : decode cX3_checkLetter 49 = .ok (.iadd, 1) := by decide +kernel
theorem dX3_checkLetter_50 : decode cX3_checkLetter 50 = .ok (.ireturn, 1) := by decide +kernel
theorem dX3_endsWithCheckLetter_0 : decode cX3_endsWithCheckLetter 0 = .ok (.aload_n 0, 1) := by decide +kernel
theorem dX3_endsWithCheckLetter_1 : decode cX3_endsWithCheckLetter 1 = .ok (.getfield 15, 3) := by decide +kernel
theorem dX3_endsWithCheckLetter_4 : decode cX3_endsWithCheckLetter 4 = .ok (.bipush 11, 2) := by decide +kernel
theorem dX3_endsWithCheckLetter_6 : decode cX3_endsWithCheckLetter 6 = .ok (.if_icmp .ne 21, 3) := by decide +kernel
theorem dX3_endsWithCheckLetter_9 : decode cX3_endsWithCheckLetter 9 = .ok (.aload_n 0, 1) := by decide +kernel
theorem dX3_endsWithCheckLetter_10 : decode cX3_endsWithCheckLetter 10 = .ok (.getfield 9, 3) := by decide +kernel
theorem dX3_endsWithCheckLetter_13 : decode cX3_endsWithCheckLetter 13 = .ok (.bipush 10, 2) := by decide +kernel
theorem dX3_endsWithCheckLetter_15 : decode cX3_endsWithCheckLetter 15 = .ok (.iaload, 1) := by decide +kernel
theorem dX3_endsWithCheckLetter_16 : decode cX3_endsWithCheckLetter 16 = .ok (.aload_n 0, 1) := by decide +kernel
theorem dX3_endsWithCheckLetter_17 : decode cX3_endsWithCheckLetter 17 = .ok (.invokevirtual 30, 3) := by decide +kernel
theorem dX3_endsWithCheckLetter_20 : decode cX3_endsWithCheckLetter 20 = .ok (.if_icmp .ne 7, 3) := by decide +kernel
theorem dX3_endsWithCheckLetter_23 : decode cX3_endsWithCheckLetter 23 = .ok (.iconst 1, 1) := by decide +kernel
theorem dX3_endsWithCheckLetter_24 : decode cX3_endsWithCheckLetter 24 = .ok (.goto 4, 3) := by decide +kernel
theorem dX3_endsWithCheckLetter_27 : decode cX3_endsWithCheckLetter 27 = .ok (.iconst 0, 1) := by decide +kernel
theorem dX3_endsWithCheckLetter_28 : decode cX3_endsWithCheckLetter 28 = .ok (.ireturn, 1) := by decide +kernel
theorem dX3_fits_0 : decode cX3_fits 0 = .ok (.aload_n 0, 1) := by decide +kernel
theorem dX3_fits_1 : decode cX3_fits 1 = .ok (.getfield 15, 3) := by decide +kernel
theorem dX3_fits_4 : decode cX3_fits 4 = .ok (.iconst 4, 1) := by decide +kernel
theorem dX3_fits_5 : decode cX3_fits 5 = .ok (.if_icmp .lt 16, 3) := by decide +kernel
theorem dX3_fits_8 : decode cX3_fits 8 = .ok (.aload_n 0, 1) := by decide +kernel
theorem dX3_fits_9 : decode cX3_fits 9 = .ok (.getfield 15, 3) := by decide +kernel
theorem dX3_fits_12 : decode cX3_fits 12 = .ok (.bipush 10, 2) := by decide +kernel
theorem dX3_fits_14 : decode cX3_fits 14 = .ok (.if_icmp .ge 7, 3) := by decide +kernel
theorem dX3_fits_17 : decode cX3_fits 17 = .ok (.iconst 1, 1) := by decide +kernel
theorem dX3_fits_18 : decode cX3_fits 18 = .ok (.goto 4, 3) := by decide +kernel
theorem dX3_fits_21 : decode cX3_fits 21 = .ok (.iconst 0, 1) := by decide +kernel
theorem dX3_fits_22 : decode cX3_fits 22 = .ok (.istore_n 2, 1) := by decide +kernel
theorem dX3_fits_23 : decode cX3_fits 23 = .ok (.iload_n 2, 1) := by decide +kernel
theorem dX3_fits_24 : decode cX3_fits 24 = .ok (.ifCond .eq 10, 3) := by decide +kernel
theorem dX3_fits_27 : decode cX3_fits 27 = .ok (.iload_n 1, 1) := by decide +kernel
theorem dX3_fits_28 : decode cX3_fits 28 = .ok (.invokestatic 19, 3) := by decide +kernel
theorem dX3_fits_31 : decode cX3_fits 31 = .ok (.goto 7, 3) := by decide +kernel
theorem dX3_fits_34 : decode cX3_fits 34 = .ok (.iload_n 1, 1) := by decide +kernel
theorem dX3_fits_35 : decode cX3_fits 35 = .ok (.invokestatic 23, 3) := by decide +kernel
theorem dX3_fits_38 : decode cX3_fits 38 = .ok (.ireturn, 1) := by decide +kernel
theorem dX3_worth_0 : decode cX3_worth 0 = .ok (.iload_n 0, 1) := by decide +kernel
theorem dX3_worth_1 : decode cX3_worth 1 = .ok (.invokestatic 23, 3) := by decide +kernel
theorem dX3_worth_4 : decode cX3_worth 4 = .ok (.ifCond .eq 12, 3) := by decide +kernel
theorem dX3_worth_7 : decode cX3_worth 7 = .ok (.iload_n 0, 1) := by decide +kernel
theorem dX3_worth_8 : decode cX3_worth 8 = .ok (.bipush 65, 2) := by decide +kernel
theorem dX3_worth_10 : decode cX3_worth 10 = .ok (.isub, 1) := by decide +kernel
theorem dX3_worth_11 : decode cX3_worth 11 = .ok (.iconst 1, 1) := by decide +kernel
theorem dX3_worth_12 : decode cX3_worth 12 = .ok (.iadd, 1) := by decide +kernel
theorem dX3_worth_13 : decode cX3_worth 13 = .ok (.goto 7, 3) := by decide +kernel
theorem dX3_worth_16 : decode cX3_worth 16 = .ok (.iload_n 0, 1) := by decide +kernel
theorem dX3_worth_17 : decode cX3_worth 17 = .ok (.bipush 48, 2) := by decide +kernel
theorem dX3_worth_19 : decode cX3_worth 19 = .ok (.isub, 1) := by decide +kernel
theorem dX3_worth_20 : decode cX3_worth 20 = .ok (.ireturn, 1) := by decide +kernel
theorem dX4_has_0 : decode cX4_has 0 = .ok (.iload_n 1, 1) := by decide +kernel
theorem dX4_has_1 : decode cX4_has 1 = .ok (.ifCond .lt 15, 3) := by decide +kernel
theorem dX4_has_4 : decode cX4_has 4 = .ok (.iload_n 1, 1) := by decide +kernel
theorem dX4_has_5 : decode cX4_has 5 = .ok (.aload_n 0, 1) := by decide +kernel
theorem dX4_has_6 : decode cX4_has 6 = .ok (.getfield 15, 3) := by decide +kernel
theorem dX4_has_9 : decode cX4_has 9 = .ok (.if_icmp .ge 7, 3) := by decide +kernel
theorem dX4_has_12 : decode cX4_has 12 = .ok (.iconst 1, 1) := by decide +kernel
theorem dX4_has_13 : decode cX4_has 13 = .ok (.goto 4, 3) := by decide +kernel
theorem dX4_has_16 : decode cX4_has 16 = .ok (.iconst 0, 1) := by decide +kernel
theorem dX4_has_17 : decode cX4_has 17 = .ok (.ireturn, 1) := by decide +kernel
theorem dX4_hasRoom_0 : decode cX4_hasRoom 0 = .ok (.aload_n 0, 1) := by decide +kernel
theorem dX4_hasRoom_1 : decode cX4_hasRoom 1 = .ok (.getfield 9, 3) := by decide +kernel
theorem dX4_hasRoom_4 : decode cX4_hasRoom 4 = .ok (.iload_n 1, 1) := by decide +kernel
theorem dX4_hasRoom_5 : decode cX4_hasRoom 5 = .ok (.iaload, 1) := by decide +kernel
theorem dX4_hasRoom_6 : decode cX4_hasRoom 6 = .ok (.aload_n 0, 1) := by decide +kernel
theorem dX4_hasRoom_7 : decode cX4_hasRoom 7 = .ok (.getfield 19, 3) := by decide +kernel
theorem dX4_hasRoom_10 : decode cX4_hasRoom 10 = .ok (.if_icmp .ge 7, 3) := by decide +kernel
theorem dX4_hasRoom_13 : decode cX4_hasRoom 13 = .ok (.iconst 1, 1) := by decide +kernel
theorem dX4_hasRoom_14 : decode cX4_hasRoom 14 = .ok (.goto 4, 3) := by decide +kernel
theorem dX4_hasRoom_17 : decode cX4_hasRoom 17 = .ok (.iconst 0, 1) := by decide +kernel
theorem dX4_hasRoom_18 : decode cX4_hasRoom 18 = .ok (.ireturn, 1) := by decide +kernel
theorem dX4_nextWithRoom_0 : decode cX4_nextWithRoom 0 = .ok (.iload_n 1, 1) := by decide +kernel
theorem dX4_nextWithRoom_1 : decode cX4_nextWithRoom 1 = .ok (.iconst 1, 1) := by decide +kernel
theorem dX4_nextWithRoom_2 : decode cX4_nextWithRoom 2 = .ok (.iadd, 1) := by decide +kernel
theorem dX4_nextWithRoom_3 : decode cX4_nextWithRoom 3 = .ok (.istore_n 2, 1) := by decide +kernel
theorem dX4_nextWithRoom_4 : decode cX4_nextWithRoom 4 = .ok (.iload_n 2, 1) := by decide +kernel
theorem dX4_nextWithRoom_5 : decode cX4_nextWithRoom 5 = .ok (.aload_n 0, 1) := by decide +kernel
theorem dX4_nextWithRoom_6 : decode cX4_nextWithRoom 6 = .ok (.getfield 15, 3) := by decide +kernel
theorem dX4_nextWithRoom_9 : decode cX4_nextWithRoom 9 = .ok (.if_icmp .ge 19, 3) := by decide +kernel
theorem dX4_nextWithRoom_12 : decode cX4_nextWithRoom 12 = .ok (.aload_n 0, 1) := by decide +kernel
theorem dX4_nextWithRoom_13 : decode cX4_nextWithRoom 13 = .ok (.iload_n 2, 1) := by decide +kernel
theorem dX4_nextWithRoom_14 : decode cX4_nextWithRoom 14 = .ok (.invokevirtual 22, 3) := by decide +kernel
theorem dX4_nextWithRoom_17 : decode cX4_nextWithRoom 17 = .ok (.ifCond .eq 5, 3) := by decide +kernel
theorem dX4_nextWithRoom_20 : decode cX4_nextWithRoom 20 = .ok (.iload_n 2, 1) := by decide +kernel
theorem dX4_nextWithRoom_21 : decode cX4_nextWithRoom 21 = .ok (.ireturn, 1) := by decide +kernel
theorem dX4_nextWithRoom_22 : decode cX4_nextWithRoom 22 = .ok (.iinc 2 1, 3) := by decide +kernel
theorem dX4_nextWithRoom_25 : decode cX4_nextWithRoom 25 = .ok (.goto (-21), 3) := by decide +kernel
theorem dX4_nextWithRoom_28 : decode cX4_nextWithRoom 28 = .ok (.aload_n 0, 1) := by decide +kernel
theorem dX4_nextWithRoom_29 : decode cX4_nextWithRoom 29 = .ok (.getfield 15, 3) := by decide +kernel
theorem dX4_nextWithRoom_32 : decode cX4_nextWithRoom 32 = .ok (.ireturn, 1) := by decide +kernel
theorem dX5_judge_0 : decode cX5_judge 0 = .ok (.aload_n 0, 1) := by decide +kernel
theorem dX5_judge_1 : decode cX5_judge 1 = .ok (.getfield 9, 3) := by decide +kernel
theorem dX5_judge_4 : decode cX5_judge 4 = .ok (.iload_n 1, 1) := by decide +kernel
theorem dX5_judge_5 : decode cX5_judge 5 = .ok (.iconst 2, 1) := by decide +kernel
theorem dX5_judge_6 : decode cX5_judge 6 = .ok (.imul, 1) := by decide +kernel
theorem dX5_judge_7 : decode cX5_judge 7 = .ok (.iload_n 2, 1) := by decide +kernel
theorem dX5_judge_8 : decode cX5_judge 8 = .ok (.iadd, 1) := by decide +kernel
theorem dX5_judge_9 : decode cX5_judge 9 = .ok (.iconst 4, 1) := by decide +kernel
theorem dX5_judge_10 : decode cX5_judge 10 = .ok (.isub, 1) := by decide +kernel
theorem dX5_judge_11 : decode cX5_judge 11 = .ok (.iload_n 3, 1) := by decide +kernel
theorem dX5_judge_12 : decode cX5_judge 12 = .ok (.iastore, 1) := by decide +kernel
theorem dX5_judge_13 : decode cX5_judge 13 = .ok (.return_, 1) := by decide +kernel
theorem dX5_verdictOf_0 : decode cX5_verdictOf 0 = .ok (.aload_n 0, 1) := by decide +kernel
theorem dX5_verdictOf_1 : decode cX5_verdictOf 1 = .ok (.getfield 9, 3) := by decide +kernel
theorem dX5_verdictOf_4 : decode cX5_verdictOf 4 = .ok (.iload_n 1, 1) := by decide +kernel
theorem dX5_verdictOf_5 : decode cX5_verdictOf 5 = .ok (.iconst 2, 1) := by decide +kernel
theorem dX5_verdictOf_6 : decode cX5_verdictOf 6 = .ok (.imul, 1) := by decide +kernel
theorem dX5_verdictOf_7 : decode cX5_verdictOf 7 = .ok (.iload_n 2, 1) := by decide +kernel
theorem dX5_verdictOf_8 : decode cX5_verdictOf 8 = .ok (.iadd, 1) := by decide +kernel
theorem dX5_verdictOf_9 : decode cX5_verdictOf 9 = .ok (.iconst 4, 1) := by decide +kernel
theorem dX5_verdictOf_10 : decode cX5_verdictOf 10 = .ok (.isub, 1) := by decide +kernel
theorem dX5_verdictOf_11 : decode cX5_verdictOf 11 = .ok (.iaload, 1) := by decide +kernel
theorem dX5_verdictOf_12 : decode cX5_verdictOf 12 = .ok (.ireturn, 1) := by decide +kernel

