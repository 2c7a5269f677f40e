theorem dX6_canBe_0 : decode cX6_canBe 0 = .ok (.iload_n 1, 1) := by decide +kernel
theorem dX6_canBe_1 : decode cX6_canBe 1 = .ok (.iconst 2, 1) := by decide +kernel
theorem dX6_canBe_2 : decode cX6_canBe 2 = .ok (.if_icmp .ne 19, 3) := by decide +kernel
theorem dX6_canBe_5 : decode cX6_canBe 5 = .ok (.iload_n 0, 1) := by decide +kernel
theorem dX6_canBe_6 : decode cX6_canBe 6 = .ok (.iconst 1, 1) := by decide +kernel
theorem dX6_canBe_7 : decode cX6_canBe 7 = .ok (.if_icmp .eq 8, 3) := by decide +kernel
theorem dX6_canBe_10 : decode cX6_canBe 10 = .ok (.iload_n 0, 1) := by decide +kernel
theorem dX6_canBe_11 : decode cX6_canBe 11 = .ok (.iconst 2, 1) := by decide +kernel
theorem dX6_canBe_12 : decode cX6_canBe 12 = .ok (.if_icmp .ne 7, 3) := by decide +kernel
theorem dX6_canBe_15 : decode cX6_canBe 15 = .ok (.iconst 1, 1) := by decide +kernel
theorem dX6_canBe_16 : decode cX6_canBe 16 = .ok (.goto 4, 3) := by decide +kernel
theorem dX6_canBe_19 : decode cX6_canBe 19 = .ok (.iconst 0, 1) := by decide +kernel
theorem dX6_canBe_20 : decode cX6_canBe 20 = .ok (.ireturn, 1) := by decide +kernel
theorem dX6_canBe_21 : decode cX6_canBe 21 = .ok (.iload_n 1, 1) := by decide +kernel
theorem dX6_canBe_22 : decode cX6_canBe 22 = .ok (.ifCond .eq 8, 3) := by decide +kernel
theorem dX6_canBe_25 : decode cX6_canBe 25 = .ok (.iload_n 1, 1) := by decide +kernel
theorem dX6_canBe_26 : decode cX6_canBe 26 = .ok (.iconst 1, 1) := by decide +kernel
theorem dX6_canBe_27 : decode cX6_canBe 27 = .ok (.if_icmp .ne 7, 3) := by decide +kernel
theorem dX6_canBe_30 : decode cX6_canBe 30 = .ok (.iconst 1, 1) := by decide +kernel
theorem dX6_canBe_31 : decode cX6_canBe 31 = .ok (.goto 4, 3) := by decide +kernel
theorem dX6_canBe_34 : decode cX6_canBe 34 = .ok (.iconst 0, 1) := by decide +kernel
theorem dX6_canBe_35 : decode cX6_canBe 35 = .ok (.ireturn, 1) := by decide +kernel
theorem dX6_end_0 : decode cX6_end 0 = .ok (.aload_n 0, 1) := by decide +kernel
theorem dX6_end_1 : decode cX6_end 1 = .ok (.getfield 46, 3) := by decide +kernel
theorem dX6_end_4 : decode cX6_end 4 = .ok (.getfield 175, 3) := by decide +kernel
theorem dX6_end_7 : decode cX6_end 7 = .ok (.iload_n 1, 1) := by decide +kernel
theorem dX6_end_8 : decode cX6_end 8 = .ok (.iconst 3, 1) := by decide +kernel
theorem dX6_end_9 : decode cX6_end 9 = .ok (.iastore, 1) := by decide +kernel
theorem dX6_end_10 : decode cX6_end 10 = .ok (.aload_n 0, 1) := by decide +kernel
theorem dX6_end_11 : decode cX6_end 11 = .ok (.getfield 39, 3) := by decide +kernel
theorem dX6_end_14 : decode cX6_end 14 = .ok (.getfield 157, 3) := by decide +kernel
theorem dX6_end_17 : decode cX6_end 17 = .ok (.aload_n 0, 1) := by decide +kernel
theorem dX6_end_18 : decode cX6_end 18 = .ok (.getfield 46, 3) := by decide +kernel
theorem dX6_end_21 : decode cX6_end 21 = .ok (.getfield 211, 3) := by decide +kernel
theorem dX6_end_24 : decode cX6_end 24 = .ok (.iload_n 1, 1) := by decide +kernel
theorem dX6_end_25 : decode cX6_end 25 = .ok (.iaload, 1) := by decide +kernel
theorem dX6_end_26 : decode cX6_end 26 = .ok (.dup2, 1) := by decide +kernel
theorem dX6_end_27 : decode cX6_end 27 = .ok (.iaload, 1) := by decide +kernel
theorem dX6_end_28 : decode cX6_end 28 = .ok (.iconst 1, 1) := by decide +kernel
theorem dX6_end_29 : decode cX6_end 29 = .ok (.isub, 1) := by decide +kernel
theorem dX6_end_30 : decode cX6_end 30 = .ok (.iastore, 1) := by decide +kernel
theorem dX6_end_31 : decode cX6_end 31 = .ok (.return_, 1) := by decide +kernel
theorem dX6_finish_0 : decode cX6_finish 0 = .ok (.aload_n 0, 1) := by decide +kernel
theorem dX6_finish_1 : decode cX6_finish 1 = .ok (.getfield 169, 3) := by decide +kernel
theorem dX6_finish_4 : decode cX6_finish 4 = .ok (.aload_n 0, 1) := by decide +kernel
theorem dX6_finish_5 : decode cX6_finish 5 = .ok (.getfield 46, 3) := by decide +kernel
theorem dX6_finish_8 : decode cX6_finish 8 = .ok (.getfield 178, 3) := by decide +kernel
theorem dX6_finish_11 : decode cX6_finish 11 = .ok (.iload_n 1, 1) := by decide +kernel
theorem dX6_finish_12 : decode cX6_finish 12 = .ok (.iaload, 1) := by decide +kernel
theorem dX6_finish_13 : decode cX6_finish 13 = .ok (.isub, 1) := by decide +kernel
theorem dX6_finish_14 : decode cX6_finish 14 = .ok (.istore_n 2, 1) := by decide +kernel
theorem dX6_finish_15 : decode cX6_finish 15 = .ok (.aload_n 0, 1) := by decide +kernel
theorem dX6_finish_16 : decode cX6_finish 16 = .ok (.getfield 46, 3) := by decide +kernel
theorem dX6_finish_19 : decode cX6_finish 19 = .ok (.getfield 175, 3) := by decide +kernel
theorem dX6_finish_22 : decode cX6_finish 22 = .ok (.iload_n 1, 1) := by decide +kernel
theorem dX6_finish_23 : decode cX6_finish 23 = .ok (.iconst 2, 1) := by decide +kernel
theorem dX6_finish_24 : decode cX6_finish 24 = .ok (.iastore, 1) := by decide +kernel
theorem dX6_finish_25 : decode cX6_finish 25 = .ok (.aload_n 0, 1) := by decide +kernel
theorem dX6_finish_26 : decode cX6_finish 26 = .ok (.getfield 46, 3) := by decide +kernel
theorem dX6_finish_29 : decode cX6_finish 29 = .ok (.getfield 226, 3) := by decide +kernel
theorem dX6_finish_32 : decode cX6_finish 32 = .ok (.iload_n 1, 1) := by decide +kernel
theorem dX6_finish_33 : decode cX6_finish 33 = .ok (.iload_n 2, 1) := by decide +kernel
theorem dX6_finish_34 : decode cX6_finish 34 = .ok (.iastore, 1) := by decide +kernel
theorem dX6_finish_35 : decode cX6_finish 35 = .ok (.aload_n 0, 1) := by decide +kernel
theorem dX6_finish_36 : decode cX6_finish 36 = .ok (.aload_n 0, 1) := by decide +kernel
theorem dX6_finish_37 : decode cX6_finish 37 = .ok (.getfield 238, 3) := by decide +kernel
theorem dX6_finish_40 : decode cX6_finish 40 = .ok (.iload_n 2, 1) := by decide +kernel
theorem dX6_finish_41 : decode cX6_finish 41 = .ok (.invokestatic 252, 3) := by decide +kernel
theorem dX6_finish_44 : decode cX6_finish 44 = .ok (.putfield 238, 3) := by decide +kernel
theorem dX6_finish_47 : decode cX6_finish 47 = .ok (.aload_n 0, 1) := by decide +kernel
theorem dX6_finish_48 : decode cX6_finish 48 = .ok (.dup, 1) := by decide +kernel
theorem dX6_finish_49 : decode cX6_finish 49 = .ok (.getfield 241, 3) := by decide +kernel
theorem dX6_finish_52 : decode cX6_finish 52 = .ok (.iload_n 2, 1) := by decide +kernel
theorem dX6_finish_53 : decode cX6_finish 53 = .ok (.iadd, 1) := by decide +kernel
theorem dX6_finish_54 : decode cX6_finish 54 = .ok (.putfield 241, 3) := by decide +kernel
theorem dX6_finish_57 : decode cX6_finish 57 = .ok (.aload_n 0, 1) := by decide +kernel
theorem dX6_finish_58 : decode cX6_finish 58 = .ok (.dup, 1) := by decide +kernel
theorem dX6_finish_59 : decode cX6_finish 59 = .ok (.getfield 244, 3) := by decide +kernel
theorem dX6_finish_62 : decode cX6_finish 62 = .ok (.iconst 1, 1) := by decide +kernel
theorem dX6_finish_63 : decode cX6_finish 63 = .ok (.iadd, 1) := by decide +kernel
theorem dX6_finish_64 : decode cX6_finish 64 = .ok (.putfield 244, 3) := by decide +kernel
theorem dX6_finish_67 : decode cX6_finish 67 = .ok (.return_, 1) := by decide +kernel
theorem dX6_firstBar_0 : decode cX6_firstBar 0 = .ok (.aload_n 0, 1) := by decide +kernel
theorem dX6_firstBar_1 : decode cX6_firstBar 1 = .ok (.getfield 46, 3) := by decide +kernel
theorem dX6_firstBar_4 : decode cX6_firstBar 4 = .ok (.getfield 175, 3) := by decide +kernel
theorem dX6_firstBar_7 : decode cX6_firstBar 7 = .ok (.iload_n 1, 1) := by decide +kernel
theorem dX6_firstBar_8 : decode cX6_firstBar 8 = .ok (.iaload, 1) := by decide +kernel
theorem dX6_firstBar_9 : decode cX6_firstBar 9 = .ok (.ifCond .eq 5, 3) := by decide +kernel
theorem dX6_firstBar_12 : decode cX6_firstBar 12 = .ok (.iconst 1, 1) := by decide +kernel
theorem dX6_firstBar_13 : decode cX6_firstBar 13 = .ok (.ireturn, 1) := by decide +kernel
theorem dX6_firstBar_14 : decode cX6_firstBar 14 = .ok (.aload_n 0, 1) := by decide +kernel
theorem dX6_firstBar_15 : decode cX6_firstBar 15 = .ok (.getfield 46, 3) := by decide +kernel
theorem dX6_firstBar_18 : decode cX6_firstBar 18 = .ok (.getfield 211, 3) := by decide +kernel
theorem dX6_firstBar_21 : decode cX6_firstBar 21 = .ok (.iload_n 1, 1) := by decide +kernel
theorem dX6_firstBar_22 : decode cX6_firstBar 22 = .ok (.iaload, 1) := by decide +kernel
theorem dX6_firstBar_23 : decode cX6_firstBar 23 = .ok (.istore_n 2, 1) := by decide +kernel
theorem dX6_firstBar_24 : decode cX6_firstBar 24 = .ok (.aload_n 0, 1) := by decide +kernel
theorem dX6_firstBar_25 : decode cX6_firstBar 25 = .ok (.iload_n 2, 1) := by decide +kernel
theorem dX6_firstBar_26 : decode cX6_firstBar 26 = .ok (.invokevirtual 268, 3) := by decide +kernel
theorem dX6_firstBar_29 : decode cX6_firstBar 29 = .ok (.ifCond .ne 11, 3) := by decide +kernel
theorem dX6_firstBar_32 : decode cX6_firstBar 32 = .ok (.aload_n 0, 1) := by decide +kernel
theorem dX6_firstBar_33 : decode cX6_firstBar 33 = .ok (.iload_n 2, 1) := by decide +kernel
theorem dX6_firstBar_34 : decode cX6_firstBar 34 = .ok (.invokevirtual 214, 3) := by decide +kernel
theorem dX6_firstBar_37 : decode cX6_firstBar 37 = .ok (.ifCond .eq 5, 3) := by decide +kernel
theorem dX6_firstBar_40 : decode cX6_firstBar 40 = .ok (.iconst 2, 1) := by decide +kernel
theorem dX6_firstBar_41 : decode cX6_firstBar 41 = .ok (.ireturn, 1) := by decide +kernel
theorem dX6_firstBar_42 : decode cX6_firstBar 42 = .ok (.aload_n 0, 1) := by decide +kernel
theorem dX6_firstBar_43 : decode cX6_firstBar 43 = .ok (.getfield 46, 3) := by decide +kernel
theorem dX6_firstBar_46 : decode cX6_firstBar 46 = .ok (.getfield 220, 3) := by decide +kernel
theorem dX6_firstBar_49 : decode cX6_firstBar 49 = .ok (.iload_n 1, 1) := by decide +kernel
theorem dX6_firstBar_50 : decode cX6_firstBar 50 = .ok (.iaload, 1) := by decide +kernel
theorem dX6_firstBar_51 : decode cX6_firstBar 51 = .ok (.istore_n 3, 1) := by decide +kernel
theorem dX6_firstBar_52 : decode cX6_firstBar 52 = .ok (.aload_n 0, 1) := by decide +kernel
theorem dX6_firstBar_53 : decode cX6_firstBar 53 = .ok (.getfield 26, 3) := by decide +kernel
theorem dX6_firstBar_56 : decode cX6_firstBar 56 = .ok (.iload_n 3, 1) := by decide +kernel
theorem dX6_firstBar_57 : decode cX6_firstBar 57 = .ok (.iconst 4, 1) := by decide +kernel
theorem dX6_firstBar_58 : decode cX6_firstBar 58 = .ok (.invokevirtual 271, 3) := by decide +kernel
theorem dX6_firstBar_61 : decode cX6_firstBar 61 = .ok (.ifCond .ne 5, 3) := by decide +kernel
theorem dX6_firstBar_64 : decode cX6_firstBar 64 = .ok (.iconst 3, 1) := by decide +kernel
theorem dX6_firstBar_65 : decode cX6_firstBar 65 = .ok (.ireturn, 1) := by decide +kernel
theorem dX6_firstBar_66 : decode cX6_firstBar 66 = .ok (.aload_n 0, 1) := by decide +kernel
theorem dX6_firstBar_67 : decode cX6_firstBar 67 = .ok (.getfield 26, 3) := by decide +kernel
theorem dX6_firstBar_70 : decode cX6_firstBar 70 = .ok (.iload_n 3, 1) := by decide +kernel
theorem dX6_firstBar_71 : decode cX6_firstBar 71 = .ok (.iconst 5, 1) := by decide +kernel
theorem dX6_firstBar_72 : decode cX6_firstBar 72 = .ok (.invokevirtual 271, 3) := by decide +kernel
theorem dX6_firstBar_75 : decode cX6_firstBar 75 = .ok (.ifCond .ne 5, 3) := by decide +kernel
theorem dX6_firstBar_78 : decode cX6_firstBar 78 = .ok (.iconst 4, 1) := by decide +kernel
theorem dX6_firstBar_79 : decode cX6_firstBar 79 = .ok (.ireturn, 1) := by decide +kernel
theorem dX6_firstBar_80 : decode cX6_firstBar 80 = .ok (.aload_n 0, 1) := by decide +kernel
theorem dX6_firstBar_81 : decode cX6_firstBar 81 = .ok (.aload_n 0, 1) := by decide +kernel
theorem dX6_firstBar_82 : decode cX6_firstBar 82 = .ok (.getfield 46, 3) := by decide +kernel
theorem dX6_firstBar_85 : decode cX6_firstBar 85 = .ok (.getfield 181, 3) := by decide +kernel
theorem dX6_firstBar_88 : decode cX6_firstBar 88 = .ok (.iload_n 1, 1) := by decide +kernel
theorem dX6_firstBar_89 : decode cX6_firstBar 89 = .ok (.iaload, 1) := by decide +kernel
theorem dX6_firstBar_90 : decode cX6_firstBar 90 = .ok (.invokevirtual 274, 3) := by decide +kernel
theorem dX6_firstBar_93 : decode cX6_firstBar 93 = .ok (.istore 4, 2) := by decide +kernel
theorem dX6_firstBar_95 : decode cX6_firstBar 95 = .ok (.iload 4, 2) := by decide +kernel
theorem dX6_firstBar_97 : decode cX6_firstBar 97 = .ok (.ifCond .eq 6, 3) := by decide +kernel
theorem dX6_firstBar_100 : decode cX6_firstBar 100 = .ok (.iload 4, 2) := by decide +kernel
theorem dX6_firstBar_102 : decode cX6_firstBar 102 = .ok (.ireturn, 1) := by decide +kernel
theorem dX6_firstBar_103 : decode cX6_firstBar 103 = .ok (.aload_n 0, 1) := by decide +kernel
theorem dX6_firstBar_104 : decode cX6_firstBar 104 = .ok (.getfield 46, 3) := by decide +kernel
theorem dX6_firstBar_107 : decode cX6_firstBar 107 = .ok (.iload_n 3, 1) := by decide +kernel
theorem dX6_firstBar_108 : decode cX6_firstBar 108 = .ok (.invokevirtual 277, 3) := by decide +kernel
theorem dX6_firstBar_111 : decode cX6_firstBar 111 = .ok (.ifCond .eq 8, 3) := by decide +kernel
theorem dX6_firstBar_114 : decode cX6_firstBar 114 = .ok (.bipush 9, 2) := by decide +kernel
theorem dX6_firstBar_116 : decode cX6_firstBar 116 = .ok (.goto 4, 3) := by decide +kernel
theorem dX6_firstBar_119 : decode cX6_firstBar 119 = .ok (.iconst 0, 1) := by decide +kernel
theorem dX6_firstBar_120 : decode cX6_firstBar 120 = .ok (.ireturn, 1) := by decide +kernel
theorem dX6_firstBarOfBox_0 : decode cX6_firstBarOfBox 0 = .ok (.aload_n 0, 1) := by decide +kernel
theorem dX6_firstBarOfBox_1 : decode cX6_firstBarOfBox 1 = .ok (.getfield 19, 3) := by decide +kernel
theorem dX6_firstBarOfBox_4 : decode cX6_firstBarOfBox 4 = .ok (.iload_n 1, 1) := by decide +kernel
theorem dX6_firstBarOfBox_5 : decode cX6_firstBarOfBox 5 = .ok (.iconst 0, 1) := by decide +kernel
theorem dX6_firstBarOfBox_6 : decode cX6_firstBarOfBox 6 = .ok (.invokevirtual 280, 3) := by decide +kernel
theorem dX6_firstBarOfBox_9 : decode cX6_firstBarOfBox 9 = .ok (.ifCond .ne 5, 3) := by decide +kernel
theorem dX6_firstBarOfBox_12 : decode cX6_firstBarOfBox 12 = .ok (.iconst 5, 1) := by decide +kernel
theorem dX6_firstBarOfBox_13 : decode cX6_firstBarOfBox 13 = .ok (.ireturn, 1) := by decide +kernel
theorem dX6_firstBarOfBox_14 : decode cX6_firstBarOfBox 14 = .ok (.aload_n 0, 1) := by decide +kernel
theorem dX6_firstBarOfBox_15 : decode cX6_firstBarOfBox 15 = .ok (.getfield 19, 3) := by decide +kernel
theorem dX6_firstBarOfBox_18 : decode cX6_firstBarOfBox 18 = .ok (.iload_n 1, 1) := by decide +kernel
theorem dX6_firstBarOfBox_19 : decode cX6_firstBarOfBox 19 = .ok (.iconst 1, 1) := by decide +kernel
theorem dX6_firstBarOfBox_20 : decode cX6_firstBarOfBox 20 = .ok (.invokevirtual 280, 3) := by decide +kernel
theorem dX6_firstBarOfBox_23 : decode cX6_firstBarOfBox 23 = .ok (.ifCond .ne 6, 3) := by decide +kernel
theorem dX6_firstBarOfBox_26 : decode cX6_firstBarOfBox 26 = .ok (.bipush 6, 2) := by decide +kernel
theorem dX6_firstBarOfBox_28 : decode cX6_firstBarOfBox 28 = .ok (.ireturn, 1) := by decide +kernel
theorem dX6_firstBarOfBox_29 : decode cX6_firstBarOfBox 29 = .ok (.aload_n 0, 1) := by decide +kernel
theorem dX6_firstBarOfBox_30 : decode cX6_firstBarOfBox 30 = .ok (.getfield 19, 3) := by decide +kernel
theorem dX6_firstBarOfBox_33 : decode cX6_firstBarOfBox 33 = .ok (.iload_n 1, 1) := by decide +kernel
theorem dX6_firstBarOfBox_34 : decode cX6_firstBarOfBox 34 = .ok (.iconst 2, 1) := by decide +kernel
theorem dX6_firstBarOfBox_35 : decode cX6_firstBarOfBox 35 = .ok (.invokevirtual 280, 3) := by decide +kernel
theorem dX6_firstBarOfBox_38 : decode cX6_firstBarOfBox 38 = .ok (.ifCond .ne 6, 3) := by decide +kernel
theorem dX6_firstBarOfBox_41 : decode cX6_firstBarOfBox 41 = .ok (.bipush 7, 2) := by decide +kernel
theorem dX6_firstBarOfBox_43 : decode cX6_firstBarOfBox 43 = .ok (.ireturn, 1) := by decide +kernel
theorem dX6_firstBarOfBox_44 : decode cX6_firstBarOfBox 44 = .ok (.aload_n 0, 1) := by decide +kernel
theorem dX6_firstBarOfBox_45 : decode cX6_firstBarOfBox 45 = .ok (.getfield 19, 3) := by decide +kernel
theorem dX6_firstBarOfBox_48 : decode cX6_firstBarOfBox 48 = .ok (.getfield 281, 3) := by decide +kernel
theorem dX6_firstBarOfBox_51 : decode cX6_firstBarOfBox 51 = .ok (.iload_n 1, 1) := by decide +kernel
theorem dX6_firstBarOfBox_52 : decode cX6_firstBarOfBox 52 = .ok (.baload, 1) := by decide +kernel
theorem dX6_firstBarOfBox_53 : decode cX6_firstBarOfBox 53 = .ok (.ifCond .eq 18, 3) := by decide +kernel
theorem dX6_firstBarOfBox_56 : decode cX6_firstBarOfBox 56 = .ok (.aload_n 0, 1) := by decide +kernel
theorem dX6_firstBarOfBox_57 : decode cX6_firstBarOfBox 57 = .ok (.getfield 19, 3) := by decide +kernel
theorem dX6_firstBarOfBox_60 : decode cX6_firstBarOfBox 60 = .ok (.iload_n 1, 1) := by decide +kernel
theorem dX6_firstBarOfBox_61 : decode cX6_firstBarOfBox 61 = .ok (.iconst 3, 1) := by decide +kernel
theorem dX6_firstBarOfBox_62 : decode cX6_firstBarOfBox 62 = .ok (.invokevirtual 280, 3) := by decide +kernel
theorem dX6_firstBarOfBox_65 : decode cX6_firstBarOfBox 65 = .ok (.ifCond .ne 6, 3) := by decide +kernel
theorem dX6_firstBarOfBox_68 : decode cX6_firstBarOfBox 68 = .ok (.bipush 8, 2) := by decide +kernel
theorem dX6_firstBarOfBox_70 : decode cX6_firstBarOfBox 70 = .ok (.ireturn, 1) := by decide +kernel
theorem dX6_firstBarOfBox_71 : decode cX6_firstBarOfBox 71 = .ok (.iconst 0, 1) := by decide +kernel
theorem dX6_firstBarOfBox_72 : decode cX6_firstBarOfBox 72 = .ok (.ireturn, 1) := by decide +kernel
theorem dX6_held_0 : decode cX6_held 0 = .ok (.iconst 1, 1) := by decide +kernel
theorem dX6_held_1 : decode cX6_held 1 = .ok (.iload_n 1, 1) := by decide +kernel
theorem dX6_held_2 : decode cX6_held 2 = .ok (.iload_n 0, 1) := by decide +kernel
theorem dX6_held_3 : decode cX6_held 3 = .ok (.invokestatic 247, 3) := by decide +kernel
theorem dX6_held_6 : decode cX6_held 6 = .ok (.invokestatic 252, 3) := by decide +kernel
theorem dX6_held_9 : decode cX6_held 9 = .ok (.ireturn, 1) := by decide +kernel
theorem dX6_isAhead_0 : decode cX6_isAhead 0 = .ok (.aload_n 0, 1) := by decide +kernel
theorem dX6_isAhead_1 : decode cX6_isAhead 1 = .ok (.getfield 169, 3) := by decide +kernel
theorem dX6_isAhead_4 : decode cX6_isAhead 4 = .ok (.sipush 600, 3) := by decide +kernel
theorem dX6_isAhead_7 : decode cX6_isAhead 7 = .ok (.iload_n 1, 1) := by decide +kernel
theorem dX6_isAhead_8 : decode cX6_isAhead 8 = .ok (.imul, 1) := by decide +kernel
theorem dX6_isAhead_9 : decode cX6_isAhead 9 = .ok (.bipush 120, 2) := by decide +kernel
theorem dX6_isAhead_11 : decode cX6_isAhead 11 = .ok (.isub, 1) := by decide +kernel
theorem dX6_isAhead_12 : decode cX6_isAhead 12 = .ok (.if_icmp .ge 7, 3) := by decide +kernel
theorem dX6_isAhead_15 : decode cX6_isAhead 15 = .ok (.iconst 1, 1) := by decide +kernel
theorem dX6_isAhead_16 : decode cX6_isAhead 16 = .ok (.goto 4, 3) := by decide +kernel
theorem dX6_isAhead_19 : decode cX6_isAhead 19 = .ok (.iconst 0, 1) := by decide +kernel
theorem dX6_isAhead_20 : decode cX6_isAhead 20 = .ok (.ireturn, 1) := by decide +kernel
theorem dX6_isDigit_0 : decode cX6_isDigit 0 = .ok (.iload_n 0, 1) := by decide +kernel
theorem dX6_isDigit_1 : decode cX6_isDigit 1 = .ok (.bipush 48, 2) := by decide +kernel
theorem dX6_isDigit_3 : decode cX6_isDigit 3 = .ok (.if_icmp .lt 13, 3) := by decide +kernel
theorem dX6_isDigit_6 : decode cX6_isDigit 6 = .ok (.iload_n 0, 1) := by decide +kernel
theorem dX6_isDigit_7 : decode cX6_isDigit 7 = .ok (.bipush 57, 2) := by decide +kernel
theorem dX6_isDigit_9 : decode cX6_isDigit 9 = .ok (.if_icmp .gt 7, 3) := by decide +kernel
theorem dX6_isDigit_12 : decode cX6_isDigit 12 = .ok (.iconst 1, 1) := by decide +kernel
theorem dX6_isDigit_13 : decode cX6_isDigit 13 = .ok (.goto 4, 3) := by decide +kernel
theorem dX6_isDigit_16 : decode cX6_isDigit 16 = .ok (.iconst 0, 1) := by decide +kernel
theorem dX6_isDigit_17 : decode cX6_isDigit 17 = .ok (.ireturn, 1) := by decide +kernel
theorem dX6_isLane_0 : decode cX6_isLane 0 = .ok (.iload_n 0, 1) := by decide +kernel
theorem dX6_isLane_1 : decode cX6_isLane 1 = .ok (.ifCond .lt 12, 3) := by decide +kernel
theorem dX6_isLane_4 : decode cX6_isLane 4 = .ok (.iload_n 0, 1) := by decide +kernel
theorem dX6_isLane_5 : decode cX6_isLane 5 = .ok (.iconst 3, 1) := by decide +kernel
theorem dX6_isLane_6 : decode cX6_isLane 6 = .ok (.if_icmp .ge 7, 3) := by decide +kernel
theorem dX6_isLane_9 : decode cX6_isLane 9 = .ok (.iconst 1, 1) := by decide +kernel
theorem dX6_isLane_10 : decode cX6_isLane 10 = .ok (.goto 4, 3) := by decide +kernel
theorem dX6_isLane_13 : decode cX6_isLane 13 = .ok (.iconst 0, 1) := by decide +kernel
theorem dX6_isLane_14 : decode cX6_isLane 14 = .ok (.ireturn, 1) := by decide +kernel
theorem dX6_isLetter_0 : decode cX6_isLetter 0 = .ok (.iload_n 0, 1) := by decide +kernel
theorem dX6_isLetter_1 : decode cX6_isLetter 1 = .ok (.bipush 65, 2) := by decide +kernel
theorem dX6_isLetter_3 : decode cX6_isLetter 3 = .ok (.if_icmp .lt 13, 3) := by decide +kernel
theorem dX6_isLetter_6 : decode cX6_isLetter 6 = .ok (.iload_n 0, 1) := by decide +kernel
theorem dX6_isLetter_7 : decode cX6_isLetter 7 = .ok (.bipush 90, 2) := by decide +kernel
theorem dX6_isLetter_9 : decode cX6_isLetter 9 = .ok (.if_icmp .gt 7, 3) := by decide +kernel
theorem dX6_isLetter_12 : decode cX6_isLetter 12 = .ok (.iconst 1, 1) := by decide +kernel
theorem dX6_isLetter_13 : decode cX6_isLetter 13 = .ok (.goto 4, 3) := by decide +kernel
theorem dX6_isLetter_16 : decode cX6_isLetter 16 = .ok (.iconst 0, 1) := by decide +kernel
theorem dX6_isLetter_17 : decode cX6_isLetter 17 = .ok (.ireturn, 1) := by decide +kernel
theorem dX6_isOver_0 : decode cX6_isOver 0 = .ok (.aload_n 0, 1) := by decide +kernel
theorem dX6_isOver_1 : decode cX6_isOver 1 = .ok (.getfield 169, 3) := by decide +kernel
theorem dX6_isOver_4 : decode cX6_isOver 4 = .ok (.sipush 600, 3) := by decide +kernel
theorem dX6_isOver_7 : decode cX6_isOver 7 = .ok (.iload_n 1, 1) := by decide +kernel
theorem dX6_isOver_8 : decode cX6_isOver 8 = .ok (.imul, 1) := by decide +kernel
theorem dX6_isOver_9 : decode cX6_isOver 9 = .ok (.sipush 600, 3) := by decide +kernel
theorem dX6_isOver_12 : decode cX6_isOver 12 = .ok (.iadd, 1) := by decide +kernel
theorem dX6_isOver_13 : decode cX6_isOver 13 = .ok (.iconst 1, 1) := by decide +kernel
theorem dX6_isOver_14 : decode cX6_isOver 14 = .ok (.isub, 1) := by decide +kernel
theorem dX6_isOver_15 : decode cX6_isOver 15 = .ok (.bipush 120, 2) := by decide +kernel
theorem dX6_isOver_17 : decode cX6_isOver 17 = .ok (.iadd, 1) := by decide +kernel
theorem dX6_isOver_18 : decode cX6_isOver 18 = .ok (.if_icmp .le 7, 3) := by decide +kernel
theorem dX6_isOver_21 : decode cX6_isOver 21 = .ok (.iconst 1, 1) := by decide +kernel
theorem dX6_isOver_22 : decode cX6_isOver 22 = .ok (.goto 4, 3) := by decide +kernel
theorem dX6_isOver_25 : decode cX6_isOver 25 = .ok (.iconst 0, 1) := by decide +kernel
theorem dX6_isOver_26 : decode cX6_isOver 26 = .ok (.ireturn, 1) := by decide +kernel
theorem dX6_isWithinTolerance_0 : decode cX6_isWithinTolerance 0 = .ok (.aload_n 0, 1) := by decide +kernel
theorem dX6_isWithinTolerance_1 : decode cX6_isWithinTolerance 1 = .ok (.getfield 19, 3) := by decide +kernel
theorem dX6_isWithinTolerance_4 : decode cX6_isWithinTolerance 4 = .ok (.getfield 286, 3) := by decide +kernel
theorem dX6_isWithinTolerance_7 : decode cX6_isWithinTolerance 7 = .ok (.iload_n 1, 1) := by decide +kernel
theorem dX6_isWithinTolerance_8 : decode cX6_isWithinTolerance 8 = .ok (.iaload, 1) := by decide +kernel
theorem dX6_isWithinTolerance_9 : decode cX6_isWithinTolerance 9 = .ok (.istore_n 3, 1) := by decide +kernel
theorem dX6_isWithinTolerance_10 : decode cX6_isWithinTolerance 10 = .ok (.iload_n 2, 1) := by decide +kernel
theorem dX6_isWithinTolerance_11 : decode cX6_isWithinTolerance 11 = .ok (.iload_n 3, 1) := by decide +kernel
theorem dX6_isWithinTolerance_12 : decode cX6_isWithinTolerance 12 = .ok (.isub, 1) := by decide +kernel
theorem dX6_isWithinTolerance_13 : decode cX6_isWithinTolerance 13 = .ok (.invokestatic 289, 3) := by decide +kernel
theorem dX6_isWithinTolerance_16 : decode cX6_isWithinTolerance 16 = .ok (.sipush 1000, 3) := by decide +kernel
theorem dX6_isWithinTolerance_19 : decode cX6_isWithinTolerance 19 = .ok (.imul, 1) := by decide +kernel
theorem dX6_isWithinTolerance_20 : decode cX6_isWithinTolerance 20 = .ok (.iload_n 3, 1) := by decide +kernel
theorem dX6_isWithinTolerance_21 : decode cX6_isWithinTolerance 21 = .ok (.aload_n 0, 1) := by decide +kernel
theorem dX6_isWithinTolerance_22 : decode cX6_isWithinTolerance 22 = .ok (.getfield 57, 3) := by decide +kernel
theorem dX6_isWithinTolerance_25 : decode cX6_isWithinTolerance 25 = .ok (.imul, 1) := by decide +kernel
theorem dX6_isWithinTolerance_26 : decode cX6_isWithinTolerance 26 = .ok (.if_icmp .gt 7, 3) := by decide +kernel
theorem dX6_isWithinTolerance_29 : decode cX6_isWithinTolerance 29 = .ok (.iconst 1, 1) := by decide +kernel
theorem dX6_isWithinTolerance_30 : decode cX6_isWithinTolerance 30 = .ok (.goto 4, 3) := by decide +kernel
theorem dX6_isWithinTolerance_33 : decode cX6_isWithinTolerance 33 = .ok (.iconst 0, 1) := by decide +kernel
theorem dX6_isWithinTolerance_34 : decode cX6_isWithinTolerance 34 = .ok (.ireturn, 1) := by decide +kernel
theorem dX6_joinLane_0 : decode cX6_joinLane 0 = .ok (.aload_n 0, 1) := by decide +kernel
theorem dX6_joinLane_1 : decode cX6_joinLane 1 = .ok (.getfield 52, 3) := by decide +kernel
theorem dX6_joinLane_4 : decode cX6_joinLane 4 = .ok (.iload_n 2, 1) := by decide +kernel
theorem dX6_joinLane_5 : decode cX6_joinLane 5 = .ok (.aaload, 1) := by decide +kernel
theorem dX6_joinLane_6 : decode cX6_joinLane 6 = .ok (.iload_n 1, 1) := by decide +kernel
theorem dX6_joinLane_7 : decode cX6_joinLane 7 = .ok (.invokevirtual 285, 3) := by decide +kernel
theorem dX6_joinLane_10 : decode cX6_joinLane 10 = .ok (.aload_n 0, 1) := by decide +kernel
theorem dX6_joinLane_11 : decode cX6_joinLane 11 = .ok (.getfield 46, 3) := by decide +kernel
theorem dX6_joinLane_14 : decode cX6_joinLane 14 = .ok (.getfield 223, 3) := by decide +kernel
theorem dX6_joinLane_17 : decode cX6_joinLane 17 = .ok (.iload_n 1, 1) := by decide +kernel
theorem dX6_joinLane_18 : decode cX6_joinLane 18 = .ok (.iload_n 2, 1) := by decide +kernel
theorem dX6_joinLane_19 : decode cX6_joinLane 19 = .ok (.iastore, 1) := by decide +kernel
theorem dX6_joinLane_20 : decode cX6_joinLane 20 = .ok (.return_, 1) := by decide +kernel
theorem dX6_laneFor_0 : decode cX6_laneFor 0 = .ok (.aload_n 0, 1) := by decide +kernel
theorem dX6_laneFor_1 : decode cX6_laneFor 1 = .ok (.getfield 19, 3) := by decide +kernel
theorem dX6_laneFor_4 : decode cX6_laneFor 4 = .ok (.iload_n 1, 1) := by decide +kernel
theorem dX6_laneFor_5 : decode cX6_laneFor 5 = .ok (.iconst 1, 1) := by decide +kernel
theorem dX6_laneFor_6 : decode cX6_laneFor 6 = .ok (.invokevirtual 280, 3) := by decide +kernel
theorem dX6_laneFor_9 : decode cX6_laneFor 9 = .ok (.iconst 2, 1) := by decide +kernel
theorem dX6_laneFor_10 : decode cX6_laneFor 10 = .ok (.if_icmp .eq 16, 3) := by decide +kernel
theorem dX6_laneFor_13 : decode cX6_laneFor 13 = .ok (.aload_n 0, 1) := by decide +kernel
theorem dX6_laneFor_14 : decode cX6_laneFor 14 = .ok (.getfield 19, 3) := by decide +kernel
theorem dX6_laneFor_17 : decode cX6_laneFor 17 = .ok (.iload_n 1, 1) := by decide +kernel
theorem dX6_laneFor_18 : decode cX6_laneFor 18 = .ok (.iconst 2, 1) := by decide +kernel
theorem dX6_laneFor_19 : decode cX6_laneFor 19 = .ok (.invokevirtual 280, 3) := by decide +kernel
theorem dX6_laneFor_22 : decode cX6_laneFor 22 = .ok (.iconst 2, 1) := by decide +kernel
theorem dX6_laneFor_23 : decode cX6_laneFor 23 = .ok (.if_icmp .ne 5, 3) := by decide +kernel
theorem dX6_laneFor_26 : decode cX6_laneFor 26 = .ok (.iconst 2, 1) := by decide +kernel
theorem dX6_laneFor_27 : decode cX6_laneFor 27 = .ok (.ireturn, 1) := by decide +kernel
theorem dX6_laneFor_28 : decode cX6_laneFor 28 = .ok (.aload_n 0, 1) := by decide +kernel
theorem dX6_laneFor_29 : decode cX6_laneFor 29 = .ok (.getfield 52, 3) := by decide +kernel
theorem dX6_laneFor_32 : decode cX6_laneFor 32 = .ok (.iconst 1, 1) := by decide +kernel
theorem dX6_laneFor_33 : decode cX6_laneFor 33 = .ok (.aaload, 1) := by decide +kernel
theorem dX6_laneFor_34 : decode cX6_laneFor 34 = .ok (.getfield 237, 3) := by decide +kernel
theorem dX6_laneFor_37 : decode cX6_laneFor 37 = .ok (.aload_n 0, 1) := by decide +kernel
theorem dX6_laneFor_38 : decode cX6_laneFor 38 = .ok (.getfield 52, 3) := by decide +kernel
theorem dX6_laneFor_41 : decode cX6_laneFor 41 = .ok (.iconst 0, 1) := by decide +kernel
theorem dX6_laneFor_42 : decode cX6_laneFor 42 = .ok (.aaload, 1) := by decide +kernel
theorem dX6_laneFor_43 : decode cX6_laneFor 43 = .ok (.getfield 237, 3) := by decide +kernel
theorem dX6_laneFor_46 : decode cX6_laneFor 46 = .ok (.if_icmp .ge 7, 3) := by decide +kernel
theorem dX6_laneFor_49 : decode cX6_laneFor 49 = .ok (.iconst 1, 1) := by decide +kernel
theorem dX6_laneFor_50 : decode cX6_laneFor 50 = .ok (.goto 4, 3) := by decide +kernel
theorem dX6_laneFor_53 : decode cX6_laneFor 53 = .ok (.iconst 0, 1) := by decide +kernel
theorem dX6_laneFor_54 : decode cX6_laneFor 54 = .ok (.ireturn, 1) := by decide +kernel
theorem dX6_needBooking_0 : decode cX6_needBooking 0 = .ok (.iload_n 1, 1) := by decide +kernel
theorem dX6_needBooking_1 : decode cX6_needBooking 1 = .ok (.iconst 1, 1) := by decide +kernel
theorem dX6_needBooking_2 : decode cX6_needBooking 2 = .ok (.if_icmp .lt 14, 3) := by decide +kernel
theorem dX6_needBooking_5 : decode cX6_needBooking 5 = .ok (.iload_n 1, 1) := by decide +kernel
theorem dX6_needBooking_6 : decode cX6_needBooking 6 = .ok (.aload_n 0, 1) := by decide +kernel
theorem dX6_needBooking_7 : decode cX6_needBooking 7 = .ok (.getfield 46, 3) := by decide +kernel
theorem dX6_needBooking_10 : decode cX6_needBooking 10 = .ok (.getfield 145, 3) := by decide +kernel
theorem dX6_needBooking_13 : decode cX6_needBooking 13 = .ok (.if_icmp .le 14, 3) := by decide +kernel
theorem dX6_needBooking_16 : decode cX6_needBooking 16 = .ok (.new 193, 3) := by decide +kernel
theorem dX6_needBooking_19 : decode cX6_needBooking 19 = .ok (.dup, 1) := by decide +kernel
theorem dX6_needBooking_20 : decode cX6_needBooking 20 = .ok (.ldc_w 261, 3) := by decide +kernel
theorem dX6_needBooking_23 : decode cX6_needBooking 23 = .ok (.invokespecial 197, 3) := by decide +kernel
theorem dX6_needBooking_26 : decode cX6_needBooking 26 = .ok (.athrow, 1) := by decide +kernel
theorem dX6_needBooking_27 : decode cX6_needBooking 27 = .ok (.return_, 1) := by decide +kernel
theorem dX6_needBox_0 : decode cX6_needBox 0 = .ok (.iload_n 1, 1) := by decide +kernel
theorem dX6_needBox_1 : decode cX6_needBox 1 = .ok (.ifCond .lt 14, 3) := by decide +kernel
theorem dX6_needBox_4 : decode cX6_needBox 4 = .ok (.iload_n 1, 1) := by decide +kernel
theorem dX6_needBox_5 : decode cX6_needBox 5 = .ok (.aload_n 0, 1) := by decide +kernel
theorem dX6_needBox_6 : decode cX6_needBox 6 = .ok (.getfield 19, 3) := by decide +kernel
theorem dX6_needBox_9 : decode cX6_needBox 9 = .ok (.getfield 101, 3) := by decide +kernel
theorem dX6_needBox_12 : decode cX6_needBox 12 = .ok (.if_icmp .lt 14, 3) := by decide +kernel
theorem dX6_needBox_15 : decode cX6_needBox 15 = .ok (.new 193, 3) := by decide +kernel
theorem dX6_needBox_18 : decode cX6_needBox 18 = .ok (.dup, 1) := by decide +kernel
theorem dX6_needBox_19 : decode cX6_needBox 19 = .ok (.ldc_w 259, 3) := by decide +kernel
theorem dX6_needBox_22 : decode cX6_needBox 22 = .ok (.invokespecial 197, 3) := by decide +kernel
theorem dX6_needBox_25 : decode cX6_needBox 25 = .ok (.athrow, 1) := by decide +kernel
theorem dX6_needBox_26 : decode cX6_needBox 26 = .ok (.return_, 1) := by decide +kernel
theorem dX6_needSlot_0 : decode cX6_needSlot 0 = .ok (.aload_n 0, 1) := by decide +kernel
theorem dX6_needSlot_1 : decode cX6_needSlot 1 = .ok (.getfield 39, 3) := by decide +kernel
theorem dX6_needSlot_4 : decode cX6_needSlot 4 = .ok (.iload_n 1, 1) := by decide +kernel
theorem dX6_needSlot_5 : decode cX6_needSlot 5 = .ok (.invokevirtual 234, 3) := by decide +kernel
theorem dX6_needSlot_8 : decode cX6_needSlot 8 = .ok (.ifCond .ne 13, 3) := by decide +kernel
theorem dX6_needSlot_11 : decode cX6_needSlot 11 = .ok (.new 193, 3) := by decide +kernel
theorem dX6_needSlot_14 : decode cX6_needSlot 14 = .ok (.dup, 1) := by decide +kernel
theorem dX6_needSlot_15 : decode cX6_needSlot 15 = .ok (.ldc 255, 2) := by decide +kernel
theorem dX6_needSlot_17 : decode cX6_needSlot 17 = .ok (.invokespecial 197, 3) := by decide +kernel
theorem dX6_needSlot_20 : decode cX6_needSlot 20 = .ok (.athrow, 1) := by decide +kernel
theorem dX6_needSlot_21 : decode cX6_needSlot 21 = .ok (.return_, 1) := by decide +kernel
theorem dX6_needTime_0 : decode cX6_needTime 0 = .ok (.iload_n 1, 1) := by decide +kernel
theorem dX6_needTime_1 : decode cX6_needTime 1 = .ok (.aload_n 0, 1) := by decide +kernel
theorem dX6_needTime_2 : decode cX6_needTime 2 = .ok (.getfield 169, 3) := by decide +kernel
theorem dX6_needTime_5 : decode cX6_needTime 5 = .ok (.if_icmp .lt 9, 3) := by decide +kernel
theorem dX6_needTime_8 : decode cX6_needTime 8 = .ok (.iload_n 1, 1) := by decide +kernel
theorem dX6_needTime_9 : decode cX6_needTime 9 = .ok (.ldc 98, 2) := by decide +kernel
theorem dX6_needTime_11 : decode cX6_needTime 11 = .ok (.if_icmp .le 14, 3) := by decide +kernel
theorem dX6_needTime_14 : decode cX6_needTime 14 = .ok (.new 68, 3) := by decide +kernel
theorem dX6_needTime_17 : decode cX6_needTime 17 = .ok (.dup, 1) := by decide +kernel
theorem dX6_needTime_18 : decode cX6_needTime 18 = .ok (.ldc_w 263, 3) := by decide +kernel
theorem dX6_needTime_21 : decode cX6_needTime 21 = .ok (.invokespecial 72, 3) := by decide +kernel
theorem dX6_needTime_24 : decode cX6_needTime 24 = .ok (.athrow, 1) := by decide +kernel
theorem dX6_needTime_25 : decode cX6_needTime 25 = .ok (.return_, 1) := by decide +kernel
theorem dX6_needTruck_0 : decode cX6_needTruck 0 = .ok (.iload_n 1, 1) := by decide +kernel
theorem dX6_needTruck_1 : decode cX6_needTruck 1 = .ok (.ifCond .lt 9, 3) := by decide +kernel
theorem dX6_needTruck_4 : decode cX6_needTruck 4 = .ok (.iload_n 1, 1) := by decide +kernel
theorem dX6_needTruck_5 : decode cX6_needTruck 5 = .ok (.bipush 16, 2) := by decide +kernel
theorem dX6_needTruck_7 : decode cX6_needTruck 7 = .ok (.if_icmp .lt 14, 3) := by decide +kernel
theorem dX6_needTruck_10 : decode cX6_needTruck 10 = .ok (.new 193, 3) := by decide +kernel
theorem dX6_needTruck_13 : decode cX6_needTruck 13 = .ok (.dup, 1) := by decide +kernel
theorem dX6_needTruck_14 : decode cX6_needTruck 14 = .ok (.ldc_w 257, 3) := by decide +kernel
theorem dX6_needTruck_17 : decode cX6_needTruck 17 = .ok (.invokespecial 197, 3) := by decide +kernel
theorem dX6_needTruck_20 : decode cX6_needTruck 20 = .ok (.athrow, 1) := by decide +kernel
theorem dX6_needTruck_21 : decode cX6_needTruck 21 = .ok (.return_, 1) := by decide +kernel
theorem dX6_otherSlot_0 : decode cX6_otherSlot 0 = .ok (.iconst (-1), 1) := by decide +kernel
theorem dX6_otherSlot_1 : decode cX6_otherSlot 1 = .ok (.aload_n 0, 1) := by decide +kernel
theorem dX6_otherSlot_2 : decode cX6_otherSlot 2 = .ok (.getfield 39, 3) := by decide +kernel
theorem dX6_otherSlot_5 : decode cX6_otherSlot 5 = .ok (.iload_n 1, 1) := by decide +kernel
theorem dX6_otherSlot_6 : decode cX6_otherSlot 6 = .ok (.invokevirtual 265, 3) := by decide +kernel
theorem dX6_otherSlot_9 : decode cX6_otherSlot 9 = .ok (.isub, 1) := by decide +kernel
theorem dX6_otherSlot_10 : decode cX6_otherSlot 10 = .ok (.ireturn, 1) := by decide +kernel
theorem dX0_add_0 : decode cX0_add 0 = .ok (.aload_n 0, 1) := by decide +kernel
theorem dX0_add_1 : decode cX0_add 1 = .ok (.getfield 33, 3) := by decide +kernel
theorem dX0_add_4 : decode cX0_add 4 = .ok (.bipush 60, 2) := by decide +kernel
theorem dX0_add_6 : decode cX0_add 6 = .ok (.if_icmp .lt 5, 3) := by decide +kernel
theorem dX0_add_9 : decode cX0_add 9 = .ok (.iconst (-1), 1) := by decide +kernel
theorem dX0_add_10 : decode cX0_add 10 = .ok (.ireturn, 1) := by decide +kernel
theorem dX0_add_11 : decode cX0_add 11 = .ok (.aload_n 0, 1) := by decide +kernel
theorem dX0_add_12 : decode cX0_add 12 = .ok (.dup, 1) := by decide +kernel
theorem dX0_add_13 : decode cX0_add 13 = .ok (.getfield 33, 3) := by decide +kernel
theorem dX0_add_16 : decode cX0_add 16 = .ok (.iconst 1, 1) := by decide +kernel
theorem dX0_add_17 : decode cX0_add 17 = .ok (.iadd, 1) := by decide +kernel
theorem dX0_add_18 : decode cX0_add 18 = .ok (.putfield 33, 3) := by decide +kernel
theorem dX0_add_21 : decode cX0_add 21 = .ok (.aload_n 0, 1) := by decide +kernel
theorem dX0_add_22 : decode cX0_add 22 = .ok (.getfield 9, 3) := by decide +kernel
theorem dX0_add_25 : decode cX0_add 25 = .ok (.aload_n 0, 1) := by decide +kernel
theorem dX0_add_26 : decode cX0_add 26 = .ok (.getfield 33, 3) := by decide +kernel
theorem dX0_add_29 : decode cX0_add 29 = .ok (.iload_n 1, 1) := by decide +kernel
theorem dX0_add_30 : decode cX0_add 30 = .ok (.iastore, 1) := by decide +kernel
theorem dX0_add_31 : decode cX0_add 31 = .ok (.aload_n 0, 1) := by decide +kernel
theorem dX0_add_32 : decode cX0_add 32 = .ok (.getfield 15, 3) := by decide +kernel
theorem dX0_add_35 : decode cX0_add 35 = .ok (.aload_n 0, 1) := by decide +kernel
theorem dX0_add_36 : decode cX0_add 36 = .ok (.getfield 33, 3) := by decide +kernel
theorem dX0_add_39 : decode cX0_add 39 = .ok (.iload_n 2, 1) := by decide +kernel
theorem dX0_add_40 : decode cX0_add 40 = .ok (.iastore, 1) := by decide +kernel
theorem dX0_add_41 : decode cX0_add 41 = .ok (.aload_n 0, 1) := by decide +kernel
theorem dX0_add_42 : decode cX0_add 42 = .ok (.getfield 18, 3) := by decide +kernel
theorem dX0_add_45 : decode cX0_add 45 = .ok (.aload_n 0, 1) := by decide +kernel
theorem dX0_add_46 : decode cX0_add 46 = .ok (.getfield 33, 3) := by decide +kernel
theorem dX0_add_49 : decode cX0_add 49 = .ok (.iload_n 3, 1) := by decide +kernel
theorem dX0_add_50 : decode cX0_add 50 = .ok (.iastore, 1) := by decide +kernel
theorem dX0_add_51 : decode cX0_add 51 = .ok (.aload_n 0, 1) := by decide +kernel
theorem dX0_add_52 : decode cX0_add 52 = .ok (.getfield 21, 3) := by decide +kernel
theorem dX0_add_55 : decode cX0_add 55 = .ok (.aload_n 0, 1) := by decide +kernel
theorem dX0_add_56 : decode cX0_add 56 = .ok (.getfield 33, 3) := by decide +kernel
theorem dX0_add_59 : decode cX0_add 59 = .ok (.iconst 0, 1) := by decide +kernel
theorem dX0_add_60 : decode cX0_add 60 = .ok (.iastore, 1) := by decide +kernel
theorem dX0_add_61 : decode cX0_add 61 = .ok (.aload_n 0, 1) := by decide +kernel
theorem dX0_add_62 : decode cX0_add 62 = .ok (.getfield 33, 3) := by decide +kernel
theorem dX0_add_65 : decode cX0_add 65 = .ok (.ireturn, 1) := by decide +kernel
theorem dX0_holdsBox_0 : decode cX0_holdsBox 0 = .ok (.iconst 1, 1) := by decide +kernel
theorem dX0_holdsBox_1 : decode cX0_holdsBox 1 = .ok (.istore_n 2, 1) := by decide +kernel
theorem dX0_holdsBox_2 : decode cX0_holdsBox 2 = .ok (.iload_n 2, 1) := by decide +kernel
theorem dX0_holdsBox_3 : decode cX0_holdsBox 3 = .ok (.aload_n 0, 1) := by decide +kernel
theorem dX0_holdsBox_4 : decode cX0_holdsBox 4 = .ok (.getfield 33, 3) := by decide +kernel
theorem dX0_holdsBox_7 : decode cX0_holdsBox 7 = .ok (.if_icmp .gt 31, 3) := by decide +kernel
theorem dX0_holdsBox_10 : decode cX0_holdsBox 10 = .ok (.aload_n 0, 1) := by decide +kernel
theorem dX0_holdsBox_11 : decode cX0_holdsBox 11 = .ok (.getfield 18, 3) := by decide +kernel
theorem dX0_holdsBox_14 : decode cX0_holdsBox 14 = .ok (.iload_n 2, 1) := by decide +kernel
theorem dX0_holdsBox_15 : decode cX0_holdsBox 15 = .ok (.iaload, 1) := by decide +kernel
theorem dX0_holdsBox_16 : decode cX0_holdsBox 16 = .ok (.iload_n 1, 1) := by decide +kernel
theorem dX0_holdsBox_17 : decode cX0_holdsBox 17 = .ok (.if_icmp .ne 15, 3) := by decide +kernel
theorem dX0_holdsBox_20 : decode cX0_holdsBox 20 = .ok (.aload_n 0, 1) := by decide +kernel
theorem dX0_holdsBox_21 : decode cX0_holdsBox 21 = .ok (.getfield 21, 3) := by decide +kernel
theorem dX0_holdsBox_24 : decode cX0_holdsBox 24 = .ok (.iload_n 2, 1) := by decide +kernel
theorem dX0_holdsBox_25 : decode cX0_holdsBox 25 = .ok (.iaload, 1) := by decide +kernel
theorem dX0_holdsBox_26 : decode cX0_holdsBox 26 = .ok (.iconst 3, 1) := by decide +kernel
theorem dX0_holdsBox_27 : decode cX0_holdsBox 27 = .ok (.if_icmp .eq 5, 3) := by decide +kernel
theorem dX0_holdsBox_30 : decode cX0_holdsBox 30 = .ok (.iconst 1, 1) := by decide +kernel
theorem dX0_holdsBox_31 : decode cX0_holdsBox 31 = .ok (.ireturn, 1) := by decide +kernel
theorem dX0_holdsBox_32 : decode cX0_holdsBox 32 = .ok (.iinc 2 1, 3) := by decide +kernel
theorem dX0_holdsBox_35 : decode cX0_holdsBox 35 = .ok (.goto (-33), 3) := by decide +kernel
theorem dX0_holdsBox_38 : decode cX0_holdsBox 38 = .ok (.iconst 0, 1) := by decide +kernel
theorem dX0_holdsBox_39 : decode cX0_holdsBox 39 = .ok (.ireturn, 1) := by decide +kernel
theorem dX0_holdsTruckIn_0 : decode cX0_holdsTruckIn 0 = .ok (.iconst 1, 1) := by decide +kernel
theorem dX0_holdsTruckIn_1 : decode cX0_holdsTruckIn 1 = .ok (.istore_n 2, 1) := by decide +kernel
theorem dX0_holdsTruckIn_2 : decode cX0_holdsTruckIn 2 = .ok (.iload_n 2, 1) := by decide +kernel
theorem dX0_holdsTruckIn_3 : decode cX0_holdsTruckIn 3 = .ok (.aload_n 0, 1) := by decide +kernel
theorem dX0_holdsTruckIn_4 : decode cX0_holdsTruckIn 4 = .ok (.getfield 33, 3) := by decide +kernel
theorem dX0_holdsTruckIn_7 : decode cX0_holdsTruckIn 7 = .ok (.if_icmp .gt 31, 3) := by decide +kernel
theorem dX0_holdsTruckIn_10 : decode cX0_holdsTruckIn 10 = .ok (.aload_n 0, 1) := by decide +kernel
theorem dX0_holdsTruckIn_11 : decode cX0_holdsTruckIn 11 = .ok (.getfield 15, 3) := by decide +kernel
theorem dX0_holdsTruckIn_14 : decode cX0_holdsTruckIn 14 = .ok (.iload_n 2, 1) := by decide +kernel
theorem dX0_holdsTruckIn_15 : decode cX0_holdsTruckIn 15 = .ok (.iaload, 1) := by decide +kernel
theorem dX0_holdsTruckIn_16 : decode cX0_holdsTruckIn 16 = .ok (.iload_n 1, 1) := by decide +kernel
theorem dX0_holdsTruckIn_17 : decode cX0_holdsTruckIn 17 = .ok (.if_icmp .ne 15, 3) := by decide +kernel
theorem dX0_holdsTruckIn_20 : decode cX0_holdsTruckIn 20 = .ok (.aload_n 0, 1) := by decide +kernel
theorem dX0_holdsTruckIn_21 : decode cX0_holdsTruckIn 21 = .ok (.getfield 21, 3) := by decide +kernel
theorem dX0_holdsTruckIn_24 : decode cX0_holdsTruckIn 24 = .ok (.iload_n 2, 1) := by decide +kernel
theorem dX0_holdsTruckIn_25 : decode cX0_holdsTruckIn 25 = .ok (.iaload, 1) := by decide +kernel
theorem dX0_holdsTruckIn_26 : decode cX0_holdsTruckIn 26 = .ok (.iconst 1, 1) := by decide +kernel
theorem dX0_holdsTruckIn_27 : decode cX0_holdsTruckIn 27 = .ok (.if_icmp .ne 5, 3) := by decide +kernel
theorem dX0_holdsTruckIn_30 : decode cX0_holdsTruckIn 30 = .ok (.iconst 1, 1) := by decide +kernel
theorem dX0_holdsTruckIn_31 : decode cX0_holdsTruckIn 31 = .ok (.ireturn, 1) := by decide +kernel
theorem dX0_holdsTruckIn_32 : decode cX0_holdsTruckIn 32 = .ok (.iinc 2 1, 3) := by decide +kernel
theorem dX0_holdsTruckIn_35 : decode cX0_holdsTruckIn 35 = .ok (.goto (-33), 3) := by decide +kernel
theorem dX0_holdsTruckIn_38 : decode cX0_holdsTruckIn 38 = .ok (.iconst 0, 1) := by decide +kernel
theorem dX0_holdsTruckIn_39 : decode cX0_holdsTruckIn 39 = .ok (.ireturn, 1) := by decide +kernel
theorem dX0_inWithBox_0 : decode cX0_inWithBox 0 = .ok (.iconst 1, 1) := by decide +kernel
theorem dX0_inWithBox_1 : decode cX0_inWithBox 1 = .ok (.istore_n 2, 1) := by decide +kernel
theorem dX0_inWithBox_2 : decode cX0_inWithBox 2 = .ok (.iload_n 2, 1) := by decide +kernel
theorem dX0_inWithBox_3 : decode cX0_inWithBox 3 = .ok (.aload_n 0, 1) := by decide +kernel
theorem dX0_inWithBox_4 : decode cX0_inWithBox 4 = .ok (.getfield 33, 3) := by decide +kernel
theorem dX0_inWithBox_7 : decode cX0_inWithBox 7 = .ok (.if_icmp .gt 31, 3) := by decide +kernel
theorem dX0_inWithBox_10 : decode cX0_inWithBox 10 = .ok (.aload_n 0, 1) := by decide +kernel
theorem dX0_inWithBox_11 : decode cX0_inWithBox 11 = .ok (.getfield 18, 3) := by decide +kernel
theorem dX0_inWithBox_14 : decode cX0_inWithBox 14 = .ok (.iload_n 2, 1) := by decide +kernel
theorem dX0_inWithBox_15 : decode cX0_inWithBox 15 = .ok (.iaload, 1) := by decide +kernel
theorem dX0_inWithBox_16 : decode cX0_inWithBox 16 = .ok (.iload_n 1, 1) := by decide +kernel
theorem dX0_inWithBox_17 : decode cX0_inWithBox 17 = .ok (.if_icmp .ne 15, 3) := by decide +kernel
theorem dX0_inWithBox_20 : decode cX0_inWithBox 20 = .ok (.aload_n 0, 1) := by decide +kernel
theorem dX0_inWithBox_21 : decode cX0_inWithBox 21 = .ok (.getfield 21, 3) := by decide +kernel
theorem dX0_inWithBox_24 : decode cX0_inWithBox 24 = .ok (.iload_n 2, 1) := by decide +kernel
theorem dX0_inWithBox_25 : decode cX0_inWithBox 25 = .ok (.iaload, 1) := by decide +kernel
theorem dX0_inWithBox_26 : decode cX0_inWithBox 26 = .ok (.iconst 1, 1) := by decide +kernel
theorem dX0_inWithBox_27 : decode cX0_inWithBox 27 = .ok (.if_icmp .ne 5, 3) := by decide +kernel
theorem dX0_inWithBox_30 : decode cX0_inWithBox 30 = .ok (.iload_n 2, 1) := by decide +kernel
theorem dX0_inWithBox_31 : decode cX0_inWithBox 31 = .ok (.ireturn, 1) := by decide +kernel
theorem dX0_inWithBox_32 : decode cX0_inWithBox 32 = .ok (.iinc 2 1, 3) := by decide +kernel
theorem dX0_inWithBox_35 : decode cX0_inWithBox 35 = .ok (.goto (-33), 3) := by decide +kernel
theorem dX0_inWithBox_38 : decode cX0_inWithBox 38 = .ok (.iconst (-1), 1) := by decide +kernel
theorem dX0_inWithBox_39 : decode cX0_inWithBox 39 = .ok (.ireturn, 1) := by decide +kernel
theorem dX1_add_0 : decode cX1_add 0 = .ok (.aload_n 0, 1) := by decide +kernel
theorem dX1_add_1 : decode cX1_add 1 = .ok (.getfield 25, 3) := by decide +kernel
theorem dX1_add_4 : decode cX1_add 4 = .ok (.bipush 20, 2) := by decide +kernel
theorem dX1_add_6 : decode cX1_add 6 = .ok (.if_icmp .lt 5, 3) := by decide +kernel
theorem dX1_add_9 : decode cX1_add 9 = .ok (.iconst (-1), 1) := by decide +kernel
theorem dX1_add_10 : decode cX1_add 10 = .ok (.ireturn, 1) := by decide +kernel
theorem dX1_add_11 : decode cX1_add 11 = .ok (.aload_n 0, 1) := by decide +kernel
theorem dX1_add_12 : decode cX1_add 12 = .ok (.getfield 25, 3) := by decide +kernel
theorem dX1_add_15 : decode cX1_add 15 = .ok (.istore 4, 2) := by decide +kernel
theorem dX1_add_17 : decode cX1_add 17 = .ok (.aload_n 0, 1) := by decide +kernel
theorem dX1_add_18 : decode cX1_add 18 = .ok (.dup, 1) := by decide +kernel
theorem dX1_add_19 : decode cX1_add 19 = .ok (.getfield 25, 3) := by decide +kernel
theorem dX1_add_22 : decode cX1_add 22 = .ok (.iconst 1, 1) := by decide +kernel
theorem dX1_add_23 : decode cX1_add 23 = .ok (.iadd, 1) := by decide +kernel
theorem dX1_add_24 : decode cX1_add 24 = .ok (.putfield 25, 3) := by decide +kernel
theorem dX1_add_27 : decode cX1_add 27 = .ok (.iconst 0, 1) := by decide +kernel
theorem dX1_add_28 : decode cX1_add 28 = .ok (.istore 5, 2) := by decide +kernel
theorem dX1_add_30 : decode cX1_add 30 = .ok (.iload 5, 2) := by decide +kernel
theorem dX1_add_32 : decode cX1_add 32 = .ok (.bipush 10, 2) := by decide +kernel
theorem dX1_add_34 : decode cX1_add 34 = .ok (.if_icmp .ge 33, 3) := by decide +kernel
theorem dX1_add_37 : decode cX1_add 37 = .ok (.iload 5, 2) := by decide +kernel
theorem dX1_add_39 : decode cX1_add 39 = .ok (.aload_n 1, 1) := by decide +kernel
theorem dX1_add_40 : decode cX1_add 40 = .ok (.arraylength, 1) := by decide +kernel
theorem dX1_add_41 : decode cX1_add 41 = .ok (.if_icmp .ge 26, 3) := by decide +kernel
theorem dX1_add_44 : decode cX1_add 44 = .ok (.aload_n 0, 1) := by decide +kernel
theorem dX1_add_45 : decode cX1_add 45 = .ok (.getfield 9, 3) := by decide +kernel
theorem dX1_add_48 : decode cX1_add 48 = .ok (.iload 4, 2) := by decide +kernel
theorem dX1_add_50 : decode cX1_add 50 = .ok (.bipush 10, 2) := by decide +kernel
theorem dX1_add_52 : decode cX1_add 52 = .ok (.imul, 1) := by decide +kernel
theorem dX1_add_53 : decode cX1_add 53 = .ok (.iload 5, 2) := by decide +kernel
theorem dX1_add_55 : decode cX1_add 55 = .ok (.iadd, 1) := by decide +kernel
theorem dX1_add_56 : decode cX1_add 56 = .ok (.aload_n 1, 1) := by decide +kernel
theorem dX1_add_57 : decode cX1_add 57 = .ok (.iload 5, 2) := by decide +kernel
theorem dX1_add_59 : decode cX1_add 59 = .ok (.iaload, 1) := by decide +kernel
theorem dX1_add_60 : decode cX1_add 60 = .ok (.iastore, 1) := by decide +kernel
theorem dX1_add_61 : decode cX1_add 61 = .ok (.iinc 5 1, 3) := by decide +kernel
theorem dX1_add_64 : decode cX1_add 64 = .ok (.goto (-34), 3) := by decide +kernel
theorem dX1_add_67 : decode cX1_add 67 = .ok (.aload_n 0, 1) := by decide +kernel
theorem dX1_add_68 : decode cX1_add 68 = .ok (.getfield 15, 3) := by decide +kernel
theorem dX1_add_71 : decode cX1_add 71 = .ok (.iload 4, 2) := by decide +kernel
theorem dX1_add_73 : decode cX1_add 73 = .ok (.iload_n 2, 1) := by decide +kernel
theorem dX1_add_74 : decode cX1_add 74 = .ok (.iastore, 1) := by decide +kernel
theorem dX1_add_75 : decode cX1_add 75 = .ok (.aload_n 0, 1) := by decide +kernel
theorem dX1_add_76 : decode cX1_add 76 = .ok (.getfield 18, 3) := by decide +kernel
theorem dX1_add_79 : decode cX1_add 79 = .ok (.iload 4, 2) := by decide +kernel
theorem dX1_add_81 : decode cX1_add 81 = .ok (.iload_n 3, 1) := by decide +kernel
theorem dX1_add_82 : decode cX1_add 82 = .ok (.bastore, 1) := by decide +kernel
theorem dX1_add_83 : decode cX1_add 83 = .ok (.aload_n 0, 1) := by decide +kernel
theorem dX1_add_84 : decode cX1_add 84 = .ok (.iload 4, 2) := by decide +kernel
theorem dX1_add_86 : decode cX1_add 86 = .ok (.iconst 0, 1) := by decide +kernel
theorem dX1_add_87 : decode cX1_add 87 = .ok (.iconst 0, 1) := by decide +kernel
theorem dX1_add_88 : decode cX1_add 88 = .ok (.invokevirtual 29, 3) := by decide +kernel
theorem dX1_add_91 : decode cX1_add 91 = .ok (.aload_n 0, 1) := by decide +kernel
theorem dX1_add_92 : decode cX1_add 92 = .ok (.iload 4, 2) := by decide +kernel
theorem dX1_add_94 : decode cX1_add 94 = .ok (.iconst 1, 1) := by decide +kernel
theorem dX1_add_95 : decode cX1_add 95 = .ok (.iconst 1, 1) := by decide +kernel
theorem dX1_add_96 : decode cX1_add 96 = .ok (.invokevirtual 29, 3) := by decide +kernel
theorem dX1_add_99 : decode cX1_add 99 = .ok (.aload_n 0, 1) := by decide +kernel
theorem dX1_add_100 : decode cX1_add 100 = .ok (.iload 4, 2) := by decide +kernel
theorem dX1_add_102 : decode cX1_add 102 = .ok (.iconst 2, 1) := by decide +kernel
theorem dX1_add_103 : decode cX1_add 103 = .ok (.iconst 1, 1) := by decide +kernel
theorem dX1_add_104 : decode cX1_add 104 = .ok (.invokevirtual 29, 3) := by decide +kernel
theorem dX1_add_107 : decode cX1_add 107 = .ok (.aload_n 0, 1) := by decide +kernel
theorem dX1_add_108 : decode cX1_add 108 = .ok (.iload 4, 2) := by decide +kernel
theorem dX1_add_110 : decode cX1_add 110 = .ok (.iconst 3, 1) := by decide +kernel
theorem dX1_add_111 : decode cX1_add 111 = .ok (.iconst 1, 1) := by decide +kernel
theorem dX1_add_112 : decode cX1_add 112 = .ok (.invokevirtual 29, 3) := by decide +kernel
theorem dX1_add_115 : decode cX1_add 115 = .ok (.iload 4, 2) := by decide +kernel
theorem dX1_add_117 : decode cX1_add 117 = .ok (.ireturn, 1) := by decide +kernel
theorem dX1_hasNumber_0 : decode cX1_hasNumber 0 = .ok (.iconst 0, 1) := by decide +kernel
theorem dX1_hasNumber_1 : decode cX1_hasNumber 1 = .ok (.istore_n 2, 1) := by decide +kernel
theorem dX1_hasNumber_2 : decode cX1_hasNumber 2 = .ok (.iload_n 2, 1) := by decide +kernel
theorem dX1_hasNumber_3 : decode cX1_hasNumber 3 = .ok (.aload_n 0, 1) := by decide +kernel
theorem dX1_hasNumber_4 : decode cX1_hasNumber 4 = .ok (.getfield 25, 3) := by decide +kernel
theorem dX1_hasNumber_7 : decode cX1_hasNumber 7 = .ok (.if_icmp .ge 20, 3) := by decide +kernel
theorem dX1_hasNumber_10 : decode cX1_hasNumber 10 = .ok (.aload_n 0, 1) := by decide +kernel
theorem dX1_hasNumber_11 : decode cX1_hasNumber 11 = .ok (.iload_n 2, 1) := by decide +kernel
theorem dX1_hasNumber_12 : decode cX1_hasNumber 12 = .ok (.aload_n 1, 1) := by decide +kernel
theorem dX1_hasNumber_13 : decode cX1_hasNumber 13 = .ok (.invokevirtual 33, 3) := by decide +kernel
theorem dX1_hasNumber_16 : decode cX1_hasNumber 16 = .ok (.ifCond .eq 5, 3) := by decide +kernel
theorem dX1_hasNumber_19 : decode cX1_hasNumber 19 = .ok (.iconst 1, 1) := by decide +kernel
theorem dX1_hasNumber_20 : decode cX1_hasNumber 20 = .ok (.ireturn, 1) := by decide +kernel
theorem dX1_hasNumber_21 : decode cX1_hasNumber 21 = .ok (.iinc 2 1, 3) := by decide +kernel
theorem dX1_hasNumber_24 : decode cX1_hasNumber 24 = .ok (.goto (-22), 3) := by decide +kernel
theorem dX1_hasNumber_27 : decode cX1_hasNumber 27 = .ok (.iconst 0, 1) := by decide +kernel
theorem dX1_hasNumber_28 : decode cX1_hasNumber 28 = .ok (.ireturn, 1) := by decide +kernel
theorem dX1_isNumberOf_0 : decode cX1_isNumberOf 0 = .ok (.iconst 0, 1) := by decide +kernel
theorem dX1_isNumberOf_1 : decode cX1_isNumberOf 1 = .ok (.istore_n 3, 1) := by decide +kernel
theorem dX1_isNumberOf_2 : decode cX1_isNumberOf 2 = .ok (.iload_n 3, 1) := by decide +kernel
theorem dX1_isNumberOf_3 : decode cX1_isNumberOf 3 = .ok (.bipush 10, 2) := by decide +kernel
theorem dX1_isNumberOf_5 : decode cX1_isNumberOf 5 = .ok (.if_icmp .ge 34, 3) := by decide +kernel
theorem dX1_isNumberOf_8 : decode cX1_isNumberOf 8 = .ok (.iload_n 3, 1) := by decide +kernel
theorem dX1_isNumberOf_9 : decode cX1_isNumberOf 9 = .ok (.aload_n 2, 1) := by decide +kernel
theorem dX1_isNumberOf_10 : decode cX1_isNumberOf 10 = .ok (.arraylength, 1) := by decide +kernel
theorem dX1_isNumberOf_11 : decode cX1_isNumberOf 11 = .ok (.if_icmp .ge 28, 3) := by decide +kernel
theorem dX1_isNumberOf_14 : decode cX1_isNumberOf 14 = .ok (.aload_n 0, 1) := by decide +kernel
theorem dX1_isNumberOf_15 : decode cX1_isNumberOf 15 = .ok (.getfield 9, 3) := by decide +kernel
theorem dX1_isNumberOf_18 : decode cX1_isNumberOf 18 = .ok (.iload_n 1, 1) := by decide +kernel
theorem dX1_isNumberOf_19 : decode cX1_isNumberOf 19 = .ok (.bipush 10, 2) := by decide +kernel
theorem dX1_isNumberOf_21 : decode cX1_isNumberOf 21 = .ok (.imul, 1) := by decide +kernel
theorem dX1_isNumberOf_22 : decode cX1_isNumberOf 22 = .ok (.iload_n 3, 1) := by decide +kernel
theorem dX1_isNumberOf_23 : decode cX1_isNumberOf 23 = .ok (.iadd, 1) := by decide +kernel
theorem dX1_isNumberOf_24 : decode cX1_isNumberOf 24 = .ok (.iaload, 1) := by decide +kernel
