theorem dX6_at_0 : decode cX6_at 0 = .ok (.aload_n 0, 1) := by decide +kernel
theorem dX6_at_1 : decode cX6_at 1 = .ok (.iload_n 1, 1) := by decide +kernel
theorem dX6_at_2 : decode cX6_at 2 = .ok (.invokevirtual 121, 3) := by decide +kernel
theorem dX6_at_5 : decode cX6_at 5 = .ok (.iload_n 2, 1) := by decide +kernel
theorem dX6_at_6 : decode cX6_at 6 = .ok (.ifCond .lt 9, 3) := by decide +kernel
theorem dX6_at_9 : decode cX6_at 9 = .ok (.iload_n 2, 1) := by decide +kernel
theorem dX6_at_10 : decode cX6_at 10 = .ok (.bipush 10, 2) := by decide +kernel
theorem dX6_at_12 : decode cX6_at 12 = .ok (.if_icmp .lt 13, 3) := by decide +kernel
theorem dX6_at_15 : decode cX6_at 15 = .ok (.new 193, 3) := by decide +kernel
theorem dX6_at_18 : decode cX6_at 18 = .ok (.dup, 1) := by decide +kernel
theorem dX6_at_19 : decode cX6_at 19 = .ok (.ldc 231, 2) := by decide +kernel
theorem dX6_at_21 : decode cX6_at 21 = .ok (.invokespecial 197, 3) := by decide +kernel
theorem dX6_at_24 : decode cX6_at 24 = .ok (.athrow, 1) := by decide +kernel
theorem dX6_at_25 : decode cX6_at 25 = .ok (.aload_n 0, 1) := by decide +kernel
theorem dX6_at_26 : decode cX6_at 26 = .ok (.getfield 19, 3) := by decide +kernel
theorem dX6_at_29 : decode cX6_at 29 = .ok (.getfield 233, 3) := by decide +kernel
theorem dX6_at_32 : decode cX6_at 32 = .ok (.iload_n 1, 1) := by decide +kernel
theorem dX6_at_33 : decode cX6_at 33 = .ok (.bipush 10, 2) := by decide +kernel
theorem dX6_at_35 : decode cX6_at 35 = .ok (.imul, 1) := by decide +kernel
theorem dX6_at_36 : decode cX6_at 36 = .ok (.iload_n 2, 1) := by decide +kernel
theorem dX6_at_37 : decode cX6_at 37 = .ok (.iadd, 1) := by decide +kernel
theorem dX6_at_38 : decode cX6_at 38 = .ok (.iaload, 1) := by decide +kernel
theorem dX6_at_39 : decode cX6_at 39 = .ok (.ireturn, 1) := by decide +kernel
theorem dX6_book_0 : decode cX6_book 0 = .ok (.aload_n 0, 1) := by decide +kernel
theorem dX6_book_1 : decode cX6_book 1 = .ok (.iload_n 1, 1) := by decide +kernel
theorem dX6_book_2 : decode cX6_book 2 = .ok (.invokevirtual 142, 3) := by decide +kernel
theorem dX6_book_5 : decode cX6_book 5 = .ok (.aload_n 0, 1) := by decide +kernel
theorem dX6_book_6 : decode cX6_book 6 = .ok (.iload_n 2, 1) := by decide +kernel
theorem dX6_book_7 : decode cX6_book 7 = .ok (.invokevirtual 124, 3) := by decide +kernel
theorem dX6_book_10 : decode cX6_book 10 = .ok (.aload_n 0, 1) := by decide +kernel
theorem dX6_book_11 : decode cX6_book 11 = .ok (.iload_n 3, 1) := by decide +kernel
theorem dX6_book_12 : decode cX6_book 12 = .ok (.invokevirtual 121, 3) := by decide +kernel
theorem dX6_book_15 : decode cX6_book 15 = .ok (.aload_n 0, 1) := by decide +kernel
theorem dX6_book_16 : decode cX6_book 16 = .ok (.getfield 46, 3) := by decide +kernel
theorem dX6_book_19 : decode cX6_book 19 = .ok (.getfield 145, 3) := by decide +kernel
theorem dX6_book_22 : decode cX6_book 22 = .ok (.bipush 60, 2) := by decide +kernel
theorem dX6_book_24 : decode cX6_book 24 = .ok (.if_icmp .lt 13, 3) := by decide +kernel
theorem dX6_book_27 : decode cX6_book 27 = .ok (.new 78, 3) := by decide +kernel
theorem dX6_book_30 : decode cX6_book 30 = .ok (.dup, 1) := by decide +kernel
theorem dX6_book_31 : decode cX6_book 31 = .ok (.ldc 146, 2) := by decide +kernel
theorem dX6_book_33 : decode cX6_book 33 = .ok (.invokespecial 82, 3) := by decide +kernel
theorem dX6_book_36 : decode cX6_book 36 = .ok (.athrow, 1) := by decide +kernel
theorem dX6_book_37 : decode cX6_book 37 = .ok (.aload_n 0, 1) := by decide +kernel
theorem dX6_book_38 : decode cX6_book 38 = .ok (.getfield 46, 3) := by decide +kernel
theorem dX6_book_41 : decode cX6_book 41 = .ok (.iload_n 3, 1) := by decide +kernel
theorem dX6_book_42 : decode cX6_book 42 = .ok (.invokevirtual 148, 3) := by decide +kernel
theorem dX6_book_45 : decode cX6_book 45 = .ok (.ifCond .eq 5, 3) := by decide +kernel
theorem dX6_book_48 : decode cX6_book 48 = .ok (.iconst 0, 1) := by decide +kernel
theorem dX6_book_49 : decode cX6_book 49 = .ok (.ireturn, 1) := by decide +kernel
theorem dX6_book_50 : decode cX6_book 50 = .ok (.aload_n 0, 1) := by decide +kernel
theorem dX6_book_51 : decode cX6_book 51 = .ok (.getfield 39, 3) := by decide +kernel
theorem dX6_book_54 : decode cX6_book 54 = .ok (.iload_n 1, 1) := by decide +kernel
theorem dX6_book_55 : decode cX6_book 55 = .ok (.invokevirtual 151, 3) := by decide +kernel
theorem dX6_book_58 : decode cX6_book 58 = .ok (.ifCond .ne 9, 3) := by decide +kernel
theorem dX6_book_61 : decode cX6_book 61 = .ok (.aload_n 0, 1) := by decide +kernel
theorem dX6_book_62 : decode cX6_book 62 = .ok (.iload_n 1, 1) := by decide +kernel
theorem dX6_book_63 : decode cX6_book 63 = .ok (.invokevirtual 154, 3) := by decide +kernel
theorem dX6_book_66 : decode cX6_book 66 = .ok (.ireturn, 1) := by decide +kernel
theorem dX6_book_67 : decode cX6_book 67 = .ok (.aload_n 0, 1) := by decide +kernel
theorem dX6_book_68 : decode cX6_book 68 = .ok (.getfield 39, 3) := by decide +kernel
theorem dX6_book_71 : decode cX6_book 71 = .ok (.getfield 157, 3) := by decide +kernel
theorem dX6_book_74 : decode cX6_book 74 = .ok (.iload_n 1, 1) := by decide +kernel
theorem dX6_book_75 : decode cX6_book 75 = .ok (.dup2, 1) := by decide +kernel
theorem dX6_book_76 : decode cX6_book 76 = .ok (.iaload, 1) := by decide +kernel
theorem dX6_book_77 : decode cX6_book 77 = .ok (.iconst 1, 1) := by decide +kernel
theorem dX6_book_78 : decode cX6_book 78 = .ok (.iadd, 1) := by decide +kernel
theorem dX6_book_79 : decode cX6_book 79 = .ok (.iastore, 1) := by decide +kernel
theorem dX6_book_80 : decode cX6_book 80 = .ok (.aload_n 0, 1) := by decide +kernel
theorem dX6_book_81 : decode cX6_book 81 = .ok (.getfield 46, 3) := by decide +kernel
theorem dX6_book_84 : decode cX6_book 84 = .ok (.iload_n 1, 1) := by decide +kernel
theorem dX6_book_85 : decode cX6_book 85 = .ok (.iload_n 2, 1) := by decide +kernel
theorem dX6_book_86 : decode cX6_book 86 = .ok (.iload_n 3, 1) := by decide +kernel
theorem dX6_book_87 : decode cX6_book 87 = .ok (.invokevirtual 160, 3) := by decide +kernel
theorem dX6_book_90 : decode cX6_book 90 = .ok (.ireturn, 1) := by decide +kernel
theorem dX6_box_0 : decode cX6_box 0 = .ok (.aload_n 0, 1) := by decide +kernel
theorem dX6_box_1 : decode cX6_box 1 = .ok (.getfield 10, 3) := by decide +kernel
theorem dX6_box_4 : decode cX6_box 4 = .ok (.getfield 75, 3) := by decide +kernel
theorem dX6_box_7 : decode cX6_box 7 = .ok (.bipush 11, 2) := by decide +kernel
theorem dX6_box_9 : decode cX6_box 9 = .ok (.if_icmp .eq 13, 3) := by decide +kernel
theorem dX6_box_12 : decode cX6_box 12 = .ok (.new 68, 3) := by decide +kernel
theorem dX6_box_15 : decode cX6_box 15 = .ok (.dup, 1) := by decide +kernel
theorem dX6_box_16 : decode cX6_box 16 = .ok (.ldc 96, 2) := by decide +kernel
theorem dX6_box_18 : decode cX6_box 18 = .ok (.invokespecial 72, 3) := by decide +kernel
theorem dX6_box_21 : decode cX6_box 21 = .ok (.athrow, 1) := by decide +kernel
theorem dX6_box_22 : decode cX6_box 22 = .ok (.iload_n 1, 1) := by decide +kernel
theorem dX6_box_23 : decode cX6_box 23 = .ok (.iconst 1, 1) := by decide +kernel
theorem dX6_box_24 : decode cX6_box 24 = .ok (.if_icmp .lt 9, 3) := by decide +kernel
theorem dX6_box_27 : decode cX6_box 27 = .ok (.iload_n 1, 1) := by decide +kernel
theorem dX6_box_28 : decode cX6_box 28 = .ok (.ldc 98, 2) := by decide +kernel
theorem dX6_box_30 : decode cX6_box 30 = .ok (.if_icmp .le 13, 3) := by decide +kernel
theorem dX6_box_33 : decode cX6_box 33 = .ok (.new 68, 3) := by decide +kernel
theorem dX6_box_36 : decode cX6_box 36 = .ok (.dup, 1) := by decide +kernel
theorem dX6_box_37 : decode cX6_box 37 = .ok (.ldc 99, 2) := by decide +kernel
theorem dX6_box_39 : decode cX6_box 39 = .ok (.invokespecial 72, 3) := by decide +kernel
theorem dX6_box_42 : decode cX6_box 42 = .ok (.athrow, 1) := by decide +kernel
theorem dX6_box_43 : decode cX6_box 43 = .ok (.aload_n 0, 1) := by decide +kernel
theorem dX6_box_44 : decode cX6_box 44 = .ok (.getfield 19, 3) := by decide +kernel
theorem dX6_box_47 : decode cX6_box 47 = .ok (.getfield 101, 3) := by decide +kernel
theorem dX6_box_50 : decode cX6_box 50 = .ok (.bipush 20, 2) := by decide +kernel
theorem dX6_box_52 : decode cX6_box 52 = .ok (.if_icmp .lt 13, 3) := by decide +kernel
theorem dX6_box_55 : decode cX6_box 55 = .ok (.new 78, 3) := by decide +kernel
theorem dX6_box_58 : decode cX6_box 58 = .ok (.dup, 1) := by decide +kernel
theorem dX6_box_59 : decode cX6_box 59 = .ok (.ldc 102, 2) := by decide +kernel
theorem dX6_box_61 : decode cX6_box 61 = .ok (.invokespecial 82, 3) := by decide +kernel
theorem dX6_box_64 : decode cX6_box 64 = .ok (.athrow, 1) := by decide +kernel
theorem dX6_box_65 : decode cX6_box 65 = .ok (.iconst (-1), 1) := by decide +kernel
theorem dX6_box_66 : decode cX6_box 66 = .ok (.istore_n 3, 1) := by decide +kernel
theorem dX6_box_67 : decode cX6_box 67 = .ok (.aload_n 0, 1) := by decide +kernel
theorem dX6_box_68 : decode cX6_box 68 = .ok (.getfield 10, 3) := by decide +kernel
theorem dX6_box_71 : decode cX6_box 71 = .ok (.invokevirtual 104, 3) := by decide +kernel
theorem dX6_box_74 : decode cX6_box 74 = .ok (.ifCond .eq 37, 3) := by decide +kernel
theorem dX6_box_77 : decode cX6_box 77 = .ok (.aload_n 0, 1) := by decide +kernel
theorem dX6_box_78 : decode cX6_box 78 = .ok (.getfield 19, 3) := by decide +kernel
theorem dX6_box_81 : decode cX6_box 81 = .ok (.aload_n 0, 1) := by decide +kernel
theorem dX6_box_82 : decode cX6_box 82 = .ok (.getfield 10, 3) := by decide +kernel
theorem dX6_box_85 : decode cX6_box 85 = .ok (.getfield 108, 3) := by decide +kernel
theorem dX6_box_88 : decode cX6_box 88 = .ok (.invokevirtual 112, 3) := by decide +kernel
theorem dX6_box_91 : decode cX6_box 91 = .ok (.ifCond .ne 20, 3) := by decide +kernel
theorem dX6_box_94 : decode cX6_box 94 = .ok (.aload_n 0, 1) := by decide +kernel
theorem dX6_box_95 : decode cX6_box 95 = .ok (.getfield 19, 3) := by decide +kernel
theorem dX6_box_98 : decode cX6_box 98 = .ok (.aload_n 0, 1) := by decide +kernel
theorem dX6_box_99 : decode cX6_box 99 = .ok (.getfield 10, 3) := by decide +kernel
theorem dX6_box_102 : decode cX6_box 102 = .ok (.getfield 108, 3) := by decide +kernel
theorem dX6_box_105 : decode cX6_box 105 = .ok (.iload_n 1, 1) := by decide +kernel
theorem dX6_box_106 : decode cX6_box 106 = .ok (.iload_n 2, 1) := by decide +kernel
theorem dX6_box_107 : decode cX6_box 107 = .ok (.invokevirtual 116, 3) := by decide +kernel
theorem dX6_box_110 : decode cX6_box 110 = .ok (.istore_n 3, 1) := by decide +kernel
theorem dX6_box_111 : decode cX6_box 111 = .ok (.aload_n 0, 1) := by decide +kernel
theorem dX6_box_112 : decode cX6_box 112 = .ok (.getfield 10, 3) := by decide +kernel
theorem dX6_box_115 : decode cX6_box 115 = .ok (.iconst 0, 1) := by decide +kernel
theorem dX6_box_116 : decode cX6_box 116 = .ok (.putfield 75, 3) := by decide +kernel
theorem dX6_box_119 : decode cX6_box 119 = .ok (.iload_n 3, 1) := by decide +kernel
theorem dX6_box_120 : decode cX6_box 120 = .ok (.ireturn, 1) := by decide +kernel
theorem dX6_canBe_0 : decode cX6_canBe 0 = .ok (.iload_n 1, 1) := by decide +kernel
theorem dX6_canBe_1 : decode cX6_canBe 1 = .ok (.iconst 2, 1) := by decide +kernel
theorem dX6_canBe_2 : decode cX6_canBe 2 = .ok (.if_icmp .ne 19, 3) := by decide +kernel
theorem dX6_canBe_5 : decode cX6_canBe 5 = .ok (.iload_n 0, 1) := by decide +kernel
theorem dX6_canBe_6 : decode cX6_canBe 6 = .ok (.iconst 1, 1) := by decide +kernel
theorem dX6_canBe_7 : decode cX6_canBe 7 = .ok (.if_icmp .eq 8, 3) := by decide +kernel
theorem dX6_canBe_10 : decode cX6_canBe 10 = .ok (.iload_n 0, 1) := by decide +kernel
theorem dX6_canBe_11 : decode cX6_canBe 11 = .ok (.iconst 2, 1) := by decide +kernel
theorem dX6_canBe_12 : decode cX6_canBe 12 = .ok (.if_icmp .ne 7, 3) := by decide +kernel
theorem dX6_canBe_15 : decode cX6_canBe 15 = .ok (.iconst 1, 1) := by decide +kernel
theorem dX6_canBe_16 : decode cX6_canBe 16 = .ok (.goto 4, 3) := by decide +kernel
theorem dX6_canBe_19 : decode cX6_canBe 19 = .ok (.iconst 0, 1) := by decide +kernel
theorem dX6_canBe_20 : decode cX6_canBe 20 = .ok (.ireturn, 1) := by decide +kernel
theorem dX6_canBe_21 : decode cX6_canBe 21 = .ok (.iload_n 1, 1) := by decide +kernel
theorem dX6_canBe_22 : decode cX6_canBe 22 = .ok (.ifCond .eq 8, 3) := by decide +kernel
theorem dX6_canBe_25 : decode cX6_canBe 25 = .ok (.iload_n 1, 1) := by decide +kernel
theorem dX6_canBe_26 : decode cX6_canBe 26 = .ok (.iconst 1, 1) := by decide +kernel
theorem dX6_canBe_27 : decode cX6_canBe 27 = .ok (.if_icmp .ne 7, 3) := by decide +kernel
theorem dX6_canBe_30 : decode cX6_canBe 30 = .ok (.iconst 1, 1) := by decide +kernel
theorem dX6_canBe_31 : decode cX6_canBe 31 = .ok (.goto 4, 3) := by decide +kernel
theorem dX6_canBe_34 : decode cX6_canBe 34 = .ok (.iconst 0, 1) := by decide +kernel
theorem dX6_canBe_35 : decode cX6_canBe 35 = .ok (.ireturn, 1) := by decide +kernel
theorem dX6_change_0 : decode cX6_change 0 = .ok (.aload_n 0, 1) := by decide +kernel
theorem dX6_change_1 : decode cX6_change 1 = .ok (.iload_n 1, 1) := by decide +kernel
theorem dX6_change_2 : decode cX6_change 2 = .ok (.invokevirtual 163, 3) := by decide +kernel
theorem dX6_change_5 : decode cX6_change 5 = .ok (.aload_n 0, 1) := by decide +kernel
theorem dX6_change_6 : decode cX6_change 6 = .ok (.iload_n 2, 1) := by decide +kernel
theorem dX6_change_7 : decode cX6_change 7 = .ok (.invokevirtual 142, 3) := by decide +kernel
theorem dX6_change_10 : decode cX6_change 10 = .ok (.aload_n 0, 1) := by decide +kernel
theorem dX6_change_11 : decode cX6_change 11 = .ok (.getfield 46, 3) := by decide +kernel
theorem dX6_change_14 : decode cX6_change 14 = .ok (.getfield 211, 3) := by decide +kernel
theorem dX6_change_17 : decode cX6_change 17 = .ok (.iload_n 1, 1) := by decide +kernel
theorem dX6_change_18 : decode cX6_change 18 = .ok (.iaload, 1) := by decide +kernel
theorem dX6_change_19 : decode cX6_change 19 = .ok (.istore_n 3, 1) := by decide +kernel
theorem dX6_change_20 : decode cX6_change 20 = .ok (.aload_n 0, 1) := by decide +kernel
theorem dX6_change_21 : decode cX6_change 21 = .ok (.getfield 46, 3) := by decide +kernel
theorem dX6_change_24 : decode cX6_change 24 = .ok (.getfield 175, 3) := by decide +kernel
theorem dX6_change_27 : decode cX6_change 27 = .ok (.iload_n 1, 1) := by decide +kernel
theorem dX6_change_28 : decode cX6_change 28 = .ok (.iaload, 1) := by decide +kernel
theorem dX6_change_29 : decode cX6_change 29 = .ok (.ifCond .ne 8, 3) := by decide +kernel
theorem dX6_change_32 : decode cX6_change 32 = .ok (.iload_n 3, 1) := by decide +kernel
theorem dX6_change_33 : decode cX6_change 33 = .ok (.iload_n 2, 1) := by decide +kernel
theorem dX6_change_34 : decode cX6_change 34 = .ok (.if_icmp .ne 5, 3) := by decide +kernel
theorem dX6_change_37 : decode cX6_change 37 = .ok (.iconst 0, 1) := by decide +kernel
theorem dX6_change_38 : decode cX6_change 38 = .ok (.ireturn, 1) := by decide +kernel
theorem dX6_change_39 : decode cX6_change 39 = .ok (.aload_n 0, 1) := by decide +kernel
theorem dX6_change_40 : decode cX6_change 40 = .ok (.getfield 39, 3) := by decide +kernel
theorem dX6_change_43 : decode cX6_change 43 = .ok (.iload_n 2, 1) := by decide +kernel
theorem dX6_change_44 : decode cX6_change 44 = .ok (.invokevirtual 151, 3) := by decide +kernel
theorem dX6_change_47 : decode cX6_change 47 = .ok (.ifCond .ne 9, 3) := by decide +kernel
theorem dX6_change_50 : decode cX6_change 50 = .ok (.aload_n 0, 1) := by decide +kernel
theorem dX6_change_51 : decode cX6_change 51 = .ok (.iload_n 2, 1) := by decide +kernel
theorem dX6_change_52 : decode cX6_change 52 = .ok (.invokevirtual 154, 3) := by decide +kernel
theorem dX6_change_55 : decode cX6_change 55 = .ok (.ireturn, 1) := by decide +kernel
theorem dX6_change_56 : decode cX6_change 56 = .ok (.aload_n 0, 1) := by decide +kernel
theorem dX6_change_57 : decode cX6_change 57 = .ok (.getfield 39, 3) := by decide +kernel
theorem dX6_change_60 : decode cX6_change 60 = .ok (.getfield 157, 3) := by decide +kernel
theorem dX6_change_63 : decode cX6_change 63 = .ok (.iload_n 3, 1) := by decide +kernel
theorem dX6_change_64 : decode cX6_change 64 = .ok (.dup2, 1) := by decide +kernel
theorem dX6_change_65 : decode cX6_change 65 = .ok (.iaload, 1) := by decide +kernel
theorem dX6_change_66 : decode cX6_change 66 = .ok (.iconst 1, 1) := by decide +kernel
theorem dX6_change_67 : decode cX6_change 67 = .ok (.isub, 1) := by decide +kernel
theorem dX6_change_68 : decode cX6_change 68 = .ok (.iastore, 1) := by decide +kernel
theorem dX6_change_69 : decode cX6_change 69 = .ok (.aload_n 0, 1) := by decide +kernel
theorem dX6_change_70 : decode cX6_change 70 = .ok (.getfield 39, 3) := by decide +kernel
theorem dX6_change_73 : decode cX6_change 73 = .ok (.getfield 157, 3) := by decide +kernel
theorem dX6_change_76 : decode cX6_change 76 = .ok (.iload_n 2, 1) := by decide +kernel
theorem dX6_change_77 : decode cX6_change 77 = .ok (.dup2, 1) := by decide +kernel
theorem dX6_change_78 : decode cX6_change 78 = .ok (.iaload, 1) := by decide +kernel
theorem dX6_change_79 : decode cX6_change 79 = .ok (.iconst 1, 1) := by decide +kernel
theorem dX6_change_80 : decode cX6_change 80 = .ok (.iadd, 1) := by decide +kernel
theorem dX6_change_81 : decode cX6_change 81 = .ok (.iastore, 1) := by decide +kernel
theorem dX6_change_82 : decode cX6_change 82 = .ok (.aload_n 0, 1) := by decide +kernel
theorem dX6_change_83 : decode cX6_change 83 = .ok (.getfield 46, 3) := by decide +kernel
theorem dX6_change_86 : decode cX6_change 86 = .ok (.getfield 211, 3) := by decide +kernel
theorem dX6_change_89 : decode cX6_change 89 = .ok (.iload_n 1, 1) := by decide +kernel
theorem dX6_change_90 : decode cX6_change 90 = .ok (.iload_n 2, 1) := by decide +kernel
theorem dX6_change_91 : decode cX6_change 91 = .ok (.iastore, 1) := by decide +kernel
theorem dX6_change_92 : decode cX6_change 92 = .ok (.iconst 1, 1) := by decide +kernel
theorem dX6_change_93 : decode cX6_change 93 = .ok (.ireturn, 1) := by decide +kernel
theorem dX6_check_0 : decode cX6_check 0 = .ok (.iload_n 1, 1) := by decide +kernel
theorem dX6_check_1 : decode cX6_check 1 = .ok (.ifCond .lt 8, 3) := by decide +kernel
theorem dX6_check_4 : decode cX6_check 4 = .ok (.iload_n 1, 1) := by decide +kernel
theorem dX6_check_5 : decode cX6_check 5 = .ok (.iconst 5, 1) := by decide +kernel
theorem dX6_check_6 : decode cX6_check 6 = .ok (.if_icmp .le 13, 3) := by decide +kernel
theorem dX6_check_9 : decode cX6_check 9 = .ok (.new 68, 3) := by decide +kernel
theorem dX6_check_12 : decode cX6_check 12 = .ok (.dup, 1) := by decide +kernel
theorem dX6_check_13 : decode cX6_check 13 = .ok (.ldc 119, 2) := by decide +kernel
theorem dX6_check_15 : decode cX6_check 15 = .ok (.invokespecial 72, 3) := by decide +kernel
theorem dX6_check_18 : decode cX6_check 18 = .ok (.athrow, 1) := by decide +kernel
theorem dX6_check_19 : decode cX6_check 19 = .ok (.iload_n 1, 1) := by decide +kernel
theorem dX6_check_20 : decode cX6_check 20 = .ok (.iconst 4, 1) := by decide +kernel
theorem dX6_check_21 : decode cX6_check 21 = .ok (.if_icmp .ge 11, 3) := by decide +kernel
theorem dX6_check_24 : decode cX6_check 24 = .ok (.aload_n 0, 1) := by decide +kernel
theorem dX6_check_25 : decode cX6_check 25 = .ok (.iload_n 2, 1) := by decide +kernel
theorem dX6_check_26 : decode cX6_check 26 = .ok (.invokevirtual 121, 3) := by decide +kernel
theorem dX6_check_29 : decode cX6_check 29 = .ok (.goto 8, 3) := by decide +kernel
theorem dX6_check_32 : decode cX6_check 32 = .ok (.aload_n 0, 1) := by decide +kernel
theorem dX6_check_33 : decode cX6_check 33 = .ok (.iload_n 2, 1) := by decide +kernel
theorem dX6_check_34 : decode cX6_check 34 = .ok (.invokevirtual 124, 3) := by decide +kernel
theorem dX6_check_37 : decode cX6_check 37 = .ok (.iload_n 1, 1) := by decide +kernel
theorem dX6_check_38 : decode cX6_check 38 = .ok (.iload_n 3, 1) := by decide +kernel
theorem dX6_check_39 : decode cX6_check 39 = .ok (.invokestatic 127, 3) := by decide +kernel
theorem dX6_check_42 : decode cX6_check 42 = .ok (.ifCond .ne 13, 3) := by decide +kernel
theorem dX6_check_45 : decode cX6_check 45 = .ok (.new 68, 3) := by decide +kernel
theorem dX6_check_48 : decode cX6_check 48 = .ok (.dup, 1) := by decide +kernel
theorem dX6_check_49 : decode cX6_check 49 = .ok (.ldc 131, 2) := by decide +kernel
theorem dX6_check_51 : decode cX6_check 51 = .ok (.invokespecial 72, 3) := by decide +kernel
theorem dX6_check_54 : decode cX6_check 54 = .ok (.athrow, 1) := by decide +kernel
theorem dX6_check_55 : decode cX6_check 55 = .ok (.iload_n 1, 1) := by decide +kernel
theorem dX6_check_56 : decode cX6_check 56 = .ok (.iconst 4, 1) := by decide +kernel
theorem dX6_check_57 : decode cX6_check 57 = .ok (.if_icmp .lt 15, 3) := by decide +kernel
theorem dX6_check_60 : decode cX6_check 60 = .ok (.aload_n 0, 1) := by decide +kernel
theorem dX6_check_61 : decode cX6_check 61 = .ok (.getfield 26, 3) := by decide +kernel
theorem dX6_check_64 : decode cX6_check 64 = .ok (.iload_n 2, 1) := by decide +kernel
theorem dX6_check_65 : decode cX6_check 65 = .ok (.iload_n 1, 1) := by decide +kernel
theorem dX6_check_66 : decode cX6_check 66 = .ok (.iload_n 3, 1) := by decide +kernel
theorem dX6_check_67 : decode cX6_check 67 = .ok (.invokevirtual 133, 3) := by decide +kernel
theorem dX6_check_70 : decode cX6_check 70 = .ok (.iconst 0, 1) := by decide +kernel
theorem dX6_check_71 : decode cX6_check 71 = .ok (.ireturn, 1) := by decide +kernel
theorem dX6_check_72 : decode cX6_check 72 = .ok (.aload_n 0, 1) := by decide +kernel
theorem dX6_check_73 : decode cX6_check 73 = .ok (.getfield 19, 3) := by decide +kernel
theorem dX6_check_76 : decode cX6_check 76 = .ok (.iload_n 2, 1) := by decide +kernel
theorem dX6_check_77 : decode cX6_check 77 = .ok (.iload_n 1, 1) := by decide +kernel
theorem dX6_check_78 : decode cX6_check 78 = .ok (.iload_n 3, 1) := by decide +kernel
theorem dX6_check_79 : decode cX6_check 79 = .ok (.invokevirtual 137, 3) := by decide +kernel
theorem dX6_check_82 : decode cX6_check 82 = .ok (.iload_n 1, 1) := by decide +kernel
theorem dX6_check_83 : decode cX6_check 83 = .ok (.ifCond .ne 15, 3) := by decide +kernel
theorem dX6_check_86 : decode cX6_check 86 = .ok (.iload_n 3, 1) := by decide +kernel
theorem dX6_check_87 : decode cX6_check 87 = .ok (.ifCond .ne 11, 3) := by decide +kernel
theorem dX6_check_90 : decode cX6_check 90 = .ok (.aload_n 0, 1) := by decide +kernel
theorem dX6_check_91 : decode cX6_check 91 = .ok (.iload_n 2, 1) := by decide +kernel
theorem dX6_check_92 : decode cX6_check 92 = .ok (.invokevirtual 138, 3) := by decide +kernel
theorem dX6_check_95 : decode cX6_check 95 = .ok (.goto 4, 3) := by decide +kernel
theorem dX6_check_98 : decode cX6_check 98 = .ok (.iconst 0, 1) := by decide +kernel
theorem dX6_check_99 : decode cX6_check 99 = .ok (.ireturn, 1) := by decide +kernel
theorem dX6_clear_0 : decode cX6_clear 0 = .ok (.aload_n 0, 1) := by decide +kernel
theorem dX6_clear_1 : decode cX6_clear 1 = .ok (.getfield 10, 3) := by decide +kernel
theorem dX6_clear_4 : decode cX6_clear 4 = .ok (.getfield 75, 3) := by decide +kernel
theorem dX6_clear_7 : decode cX6_clear 7 = .ok (.istore_n 1, 1) := by decide +kernel
theorem dX6_clear_8 : decode cX6_clear 8 = .ok (.aload_n 0, 1) := by decide +kernel
theorem dX6_clear_9 : decode cX6_clear 9 = .ok (.getfield 10, 3) := by decide +kernel
theorem dX6_clear_12 : decode cX6_clear 12 = .ok (.iconst 0, 1) := by decide +kernel
theorem dX6_clear_13 : decode cX6_clear 13 = .ok (.putfield 75, 3) := by decide +kernel
theorem dX6_clear_16 : decode cX6_clear 16 = .ok (.iload_n 1, 1) := by decide +kernel
theorem dX6_clear_17 : decode cX6_clear 17 = .ok (.ireturn, 1) := by decide +kernel
theorem dX6_count_0 : decode cX6_count 0 = .ok (.iload_n 1, 1) := by decide +kernel
theorem dX6_count_1 : decode cX6_count 1 = .ok (.bipush 100, 2) := by decide +kernel
theorem dX6_count_3 : decode cX6_count 3 = .ok (.if_icmp .lt 33, 3) := by decide +kernel
theorem dX6_count_6 : decode cX6_count 6 = .ok (.iload_n 1, 1) := by decide +kernel
theorem dX6_count_7 : decode cX6_count 7 = .ok (.bipush 100, 2) := by decide +kernel
theorem dX6_count_9 : decode cX6_count 9 = .ok (.isub, 1) := by decide +kernel
theorem dX6_count_10 : decode cX6_count 10 = .ok (.istore_n 2, 1) := by decide +kernel
theorem dX6_count_11 : decode cX6_count 11 = .ok (.aload_n 0, 1) := by decide +kernel
theorem dX6_count_12 : decode cX6_count 12 = .ok (.getfield 39, 3) := by decide +kernel
theorem dX6_count_15 : decode cX6_count 15 = .ok (.iload_n 2, 1) := by decide +kernel
theorem dX6_count_16 : decode cX6_count 16 = .ok (.invokevirtual 234, 3) := by decide +kernel
theorem dX6_count_19 : decode cX6_count 19 = .ok (.ifCond .eq 15, 3) := by decide +kernel
theorem dX6_count_22 : decode cX6_count 22 = .ok (.aload_n 0, 1) := by decide +kernel
theorem dX6_count_23 : decode cX6_count 23 = .ok (.getfield 39, 3) := by decide +kernel
theorem dX6_count_26 : decode cX6_count 26 = .ok (.getfield 157, 3) := by decide +kernel
theorem dX6_count_29 : decode cX6_count 29 = .ok (.iload_n 2, 1) := by decide +kernel
theorem dX6_count_30 : decode cX6_count 30 = .ok (.iaload, 1) := by decide +kernel
theorem dX6_count_31 : decode cX6_count 31 = .ok (.goto 4, 3) := by decide +kernel
theorem dX6_count_34 : decode cX6_count 34 = .ok (.iconst (-1), 1) := by decide +kernel
theorem dX6_count_35 : decode cX6_count 35 = .ok (.ireturn, 1) := by decide +kernel
theorem dX6_count_36 : decode cX6_count 36 = .ok (.iload_n 1, 1) := by decide +kernel
theorem dX6_count_37 : decode cX6_count 37 = .ok (.tableswitch 111 0 9 #[55, 60, 68, 76, 84, 84, 84, 96, 101, 106], 55) := by decide +kernel
theorem dX6_count_92 : decode cX6_count 92 = .ok (.aload_n 0, 1) := by decide +kernel
theorem dX6_count_93 : decode cX6_count 93 = .ok (.getfield 169, 3) := by decide +kernel
theorem dX6_count_96 : decode cX6_count 96 = .ok (.ireturn, 1) := by decide +kernel
theorem dX6_count_97 : decode cX6_count 97 = .ok (.aload_n 0, 1) := by decide +kernel
theorem dX6_count_98 : decode cX6_count 98 = .ok (.getfield 46, 3) := by decide +kernel
theorem dX6_count_101 : decode cX6_count 101 = .ok (.getfield 145, 3) := by decide +kernel
theorem dX6_count_104 : decode cX6_count 104 = .ok (.ireturn, 1) := by decide +kernel
theorem dX6_count_105 : decode cX6_count 105 = .ok (.aload_n 0, 1) := by decide +kernel
theorem dX6_count_106 : decode cX6_count 106 = .ok (.getfield 19, 3) := by decide +kernel
theorem dX6_count_109 : decode cX6_count 109 = .ok (.getfield 101, 3) := by decide +kernel
theorem dX6_count_112 : decode cX6_count 112 = .ok (.ireturn, 1) := by decide +kernel
theorem dX6_count_113 : decode cX6_count 113 = .ok (.aload_n 0, 1) := by decide +kernel
theorem dX6_count_114 : decode cX6_count 114 = .ok (.getfield 10, 3) := by decide +kernel
theorem dX6_count_117 : decode cX6_count 117 = .ok (.getfield 75, 3) := by decide +kernel
theorem dX6_count_120 : decode cX6_count 120 = .ok (.ireturn, 1) := by decide +kernel
theorem dX6_count_121 : decode cX6_count 121 = .ok (.aload_n 0, 1) := by decide +kernel
theorem dX6_count_122 : decode cX6_count 122 = .ok (.getfield 52, 3) := by decide +kernel
theorem dX6_count_125 : decode cX6_count 125 = .ok (.iload_n 1, 1) := by decide +kernel
theorem dX6_count_126 : decode cX6_count 126 = .ok (.iconst 4, 1) := by decide +kernel
theorem dX6_count_127 : decode cX6_count 127 = .ok (.isub, 1) := by decide +kernel
theorem dX6_count_128 : decode cX6_count 128 = .ok (.aaload, 1) := by decide +kernel
theorem dX6_count_129 : decode cX6_count 129 = .ok (.getfield 237, 3) := by decide +kernel
theorem dX6_count_132 : decode cX6_count 132 = .ok (.ireturn, 1) := by decide +kernel
theorem dX6_count_133 : decode cX6_count 133 = .ok (.aload_n 0, 1) := by decide +kernel
theorem dX6_count_134 : decode cX6_count 134 = .ok (.getfield 238, 3) := by decide +kernel
theorem dX6_count_137 : decode cX6_count 137 = .ok (.ireturn, 1) := by decide +kernel
theorem dX6_count_138 : decode cX6_count 138 = .ok (.aload_n 0, 1) := by decide +kernel
theorem dX6_count_139 : decode cX6_count 139 = .ok (.getfield 241, 3) := by decide +kernel
theorem dX6_count_142 : decode cX6_count 142 = .ok (.ireturn, 1) := by decide +kernel
theorem dX6_count_143 : decode cX6_count 143 = .ok (.aload_n 0, 1) := by decide +kernel
theorem dX6_count_144 : decode cX6_count 144 = .ok (.getfield 244, 3) := by decide +kernel
theorem dX6_count_147 : decode cX6_count 147 = .ok (.ireturn, 1) := by decide +kernel
theorem dX6_count_148 : decode cX6_count 148 = .ok (.iconst (-1), 1) := by decide +kernel
theorem dX6_count_149 : decode cX6_count 149 = .ok (.ireturn, 1) := by decide +kernel
theorem dX6_end_0 : decode cX6_end 0 = .ok (.aload_n 0, 1) := by decide +kernel
theorem dX6_end_1 : decode cX6_end 1 = .ok (.getfield 46, 3) := by decide +kernel
theorem dX6_end_4 : decode cX6_end 4 = .ok (.getfield 175, 3) := by decide +kernel
theorem dX6_end_7 : decode cX6_end 7 = .ok (.iload_n 1, 1) := by decide +kernel
theorem dX6_end_8 : decode cX6_end 8 = .ok (.iconst 3, 1) := by decide +kernel
theorem dX6_end_9 : decode cX6_end 9 = .ok (.iastore, 1) := by decide +kernel
theorem dX6_end_10 : decode cX6_end 10 = .ok (.aload_n 0, 1) := by decide +kernel
theorem dX6_end_11 : decode cX6_end 11 = .ok (.getfield 39, 3) := by decide +kernel
theorem dX6_end_14 : decode cX6_end 14 = .ok (.getfield 157, 3) := by decide +kernel
theorem dX6_end_17 : decode cX6_end 17 = .ok (.aload_n 0, 1) := by decide +kernel
theorem dX6_end_18 : decode cX6_end 18 = .ok (.getfield 46, 3) := by decide +kernel
theorem dX6_end_21 : decode cX6_end 21 = .ok (.getfield 211, 3) := by decide +kernel
theorem dX6_end_24 : decode cX6_end 24 = .ok (.iload_n 1, 1) := by decide +kernel
theorem dX6_end_25 : decode cX6_end 25 = .ok (.iaload, 1) := by decide +kernel
theorem dX6_end_26 : decode cX6_end 26 = .ok (.dup2, 1) := by decide +kernel
theorem dX6_end_27 : decode cX6_end 27 = .ok (.iaload, 1) := by decide +kernel
theorem dX6_end_28 : decode cX6_end 28 = .ok (.iconst 1, 1) := by decide +kernel
theorem dX6_end_29 : decode cX6_end 29 = .ok (.isub, 1) := by decide +kernel
theorem dX6_end_30 : decode cX6_end 30 = .ok (.iastore, 1) := by decide +kernel
theorem dX6_end_31 : decode cX6_end 31 = .ok (.return_, 1) := by decide +kernel
theorem dX6_finish_0 : decode cX6_finish 0 = .ok (.aload_n 0, 1) := by decide +kernel
theorem dX6_finish_1 : decode cX6_finish 1 = .ok (.getfield 169, 3) := by decide +kernel
theorem dX6_finish_4 : decode cX6_finish 4 = .ok (.aload_n 0, 1) := by decide +kernel
theorem dX6_finish_5 : decode cX6_finish 5 = .ok (.getfield 46, 3) := by decide +kernel
theorem dX6_finish_8 : decode cX6_finish 8 = .ok (.getfield 178, 3) := by decide +kernel
theorem dX6_finish_11 : decode cX6_finish 11 = .ok (.iload_n 1, 1) := by decide +kernel
theorem dX6_finish_12 : decode cX6_finish 12 = .ok (.iaload, 1) := by decide +kernel
theorem dX6_finish_13 : decode cX6_finish 13 = .ok (.isub, 1) := by decide +kernel
theorem dX6_finish_14 : decode cX6_finish 14 = .ok (.istore_n 2, 1) := by decide +kernel
theorem dX6_finish_15 : decode cX6_finish 15 = .ok (.aload_n 0, 1) := by decide +kernel
theorem dX6_finish_16 : decode cX6_finish 16 = .ok (.getfield 46, 3) := by decide +kernel
theorem dX6_finish_19 : decode cX6_finish 19 = .ok (.getfield 175, 3) := by decide +kernel
theorem dX6_finish_22 : decode cX6_finish 22 = .ok (.iload_n 1, 1) := by decide +kernel
theorem dX6_finish_23 : decode cX6_finish 23 = .ok (.iconst 2, 1) := by decide +kernel
theorem dX6_finish_24 : decode cX6_finish 24 = .ok (.iastore, 1) := by decide +kernel
theorem dX6_finish_25 : decode cX6_finish 25 = .ok (.aload_n 0, 1) := by decide +kernel
theorem dX6_finish_26 : decode cX6_finish 26 = .ok (.getfield 46, 3) := by decide +kernel
theorem dX6_finish_29 : decode cX6_finish 29 = .ok (.getfield 226, 3) := by decide +kernel
theorem dX6_finish_32 : decode cX6_finish 32 = .ok (.iload_n 1, 1) := by decide +kernel
theorem dX6_finish_33 : decode cX6_finish 33 = .ok (.iload_n 2, 1) := by decide +kernel
theorem dX6_finish_34 : decode cX6_finish 34 = .ok (.iastore, 1) := by decide +kernel
theorem dX6_finish_35 : decode cX6_finish 35 = .ok (.aload_n 0, 1) := by decide +kernel
theorem dX6_finish_36 : decode cX6_finish 36 = .ok (.aload_n 0, 1) := by decide +kernel
theorem dX6_finish_37 : decode cX6_finish 37 = .ok (.getfield 238, 3) := by decide +kernel
theorem dX6_finish_40 : decode cX6_finish 40 = .ok (.iload_n 2, 1) := by decide +kernel
theorem dX6_finish_41 : decode cX6_finish 41 = .ok (.invokestatic 252, 3) := by decide +kernel
theorem dX6_finish_44 : decode cX6_finish 44 = .ok (.putfield 238, 3) := by decide +kernel
theorem dX6_finish_47 : decode cX6_finish 47 = .ok (.aload_n 0, 1) := by decide +kernel
theorem dX6_finish_48 : decode cX6_finish 48 = .ok (.dup, 1) := by decide +kernel
theorem dX6_finish_49 : decode cX6_finish 49 = .ok (.getfield 241, 3) := by decide +kernel
theorem dX6_finish_52 : decode cX6_finish 52 = .ok (.iload_n 2, 1) := by decide +kernel
theorem dX6_finish_53 : decode cX6_finish 53 = .ok (.iadd, 1) := by decide +kernel
theorem dX6_finish_54 : decode cX6_finish 54 = .ok (.putfield 241, 3) := by decide +kernel
theorem dX6_finish_57 : decode cX6_finish 57 = .ok (.aload_n 0, 1) := by decide +kernel
theorem dX6_finish_58 : decode cX6_finish 58 = .ok (.dup, 1) := by decide +kernel
theorem dX6_finish_59 : decode cX6_finish 59 = .ok (.getfield 244, 3) := by decide +kernel
theorem dX6_finish_62 : decode cX6_finish 62 = .ok (.iconst 1, 1) := by decide +kernel
theorem dX6_finish_63 : decode cX6_finish 63 = .ok (.iadd, 1) := by decide +kernel
theorem dX6_finish_64 : decode cX6_finish 64 = .ok (.putfield 244, 3) := by decide +kernel
theorem dX6_finish_67 : decode cX6_finish 67 = .ok (.return_, 1) := by decide +kernel
theorem dX6_firstBar_0 : decode cX6_firstBar 0 = .ok (.aload_n 0, 1) := by decide +kernel
theorem dX6_firstBar_1 : decode cX6_firstBar 1 = .ok (.getfield 46, 3) := by decide +kernel
theorem dX6_firstBar_4 : decode cX6_firstBar 4 = .ok (.getfield 175, 3) := by decide +kernel
theorem dX6_firstBar_7 : decode cX6_firstBar 7 = .ok (.iload_n 1, 1) := by decide +kernel
theorem dX6_firstBar_8 : decode cX6_firstBar 8 = .ok (.iaload, 1) := by decide +kernel
theorem dX6_firstBar_9 : decode cX6_firstBar 9 = .ok (.ifCond .eq 5, 3) := by decide +kernel
theorem dX6_firstBar_12 : decode cX6_firstBar 12 = .ok (.iconst 1, 1) := by decide +kernel
theorem dX6_firstBar_13 : decode cX6_firstBar 13 = .ok (.ireturn, 1) := by decide +kernel
theorem dX6_firstBar_14 : decode cX6_firstBar 14 = .ok (.aload_n 0, 1) := by decide +kernel
theorem dX6_firstBar_15 : decode cX6_firstBar 15 = .ok (.getfield 46, 3) := by decide +kernel
theorem dX6_firstBar_18 : decode cX6_firstBar 18 = .ok (.getfield 211, 3) := by decide +kernel
theorem dX6_firstBar_21 : decode cX6_firstBar 21 = .ok (.iload_n 1, 1) := by decide +kernel
theorem dX6_firstBar_22 : decode cX6_firstBar 22 = .ok (.iaload, 1) := by decide +kernel
theorem dX6_firstBar_23 : decode cX6_firstBar 23 = .ok (.istore_n 2, 1) := by decide +kernel
theorem dX6_firstBar_24 : decode cX6_firstBar 24 = .ok (.aload_n 0, 1) := by decide +kernel
theorem dX6_firstBar_25 : decode cX6_firstBar 25 = .ok (.iload_n 2, 1) := by decide +kernel
theorem dX6_firstBar_26 : decode cX6_firstBar 26 = .ok (.invokevirtual 268, 3) := by decide +kernel
theorem dX6_firstBar_29 : decode cX6_firstBar 29 = .ok (.ifCond .ne 11, 3) := by decide +kernel
theorem dX6_firstBar_32 : decode cX6_firstBar 32 = .ok (.aload_n 0, 1) := by decide +kernel
theorem dX6_firstBar_33 : decode cX6_firstBar 33 = .ok (.iload_n 2, 1) := by decide +kernel
theorem dX6_firstBar_34 : decode cX6_firstBar 34 = .ok (.invokevirtual 214, 3) := by decide +kernel
theorem dX6_firstBar_37 : decode cX6_firstBar 37 = .ok (.ifCond .eq 5, 3) := by decide +kernel
theorem dX6_firstBar_40 : decode cX6_firstBar 40 = .ok (.iconst 2, 1) := by decide +kernel
theorem dX6_firstBar_41 : decode cX6_firstBar 41 = .ok (.ireturn, 1) := by decide +kernel
theorem dX6_firstBar_42 : decode cX6_firstBar 42 = .ok (.aload_n 0, 1) := by decide +kernel
theorem dX6_firstBar_43 : decode cX6_firstBar 43 = .ok (.getfield 46, 3) := by decide +kernel
theorem dX6_firstBar_46 : decode cX6_firstBar 46 = .ok (.getfield 220, 3) := by decide +kernel
theorem dX6_firstBar_49 : decode cX6_firstBar 49 = .ok (.iload_n 1, 1) := by decide +kernel
theorem dX6_firstBar_50 : decode cX6_firstBar 50 = .ok (.iaload, 1) := by decide +kernel
theorem dX6_firstBar_51 : decode cX6_firstBar 51 = .ok (.istore_n 3, 1) := by decide +kernel
theorem dX6_firstBar_52 : decode cX6_firstBar 52 = .ok (.aload_n 0, 1) := by decide +kernel
theorem dX6_firstBar_53 : decode cX6_firstBar 53 = .ok (.getfield 26, 3) := by decide +kernel
theorem dX6_firstBar_56 : decode cX6_firstBar 56 = .ok (.iload_n 3, 1) := by decide +kernel
theorem dX6_firstBar_57 : decode cX6_firstBar 57 = .ok (.iconst 4, 1) := by decide +kernel
theorem dX6_firstBar_58 : decode cX6_firstBar 58 = .ok (.invokevirtual 271, 3) := by decide +kernel
theorem dX6_firstBar_61 : decode cX6_firstBar 61 = .ok (.ifCond .ne 5, 3) := by decide +kernel
theorem dX6_firstBar_64 : decode cX6_firstBar 64 = .ok (.iconst 3, 1) := by decide +kernel
theorem dX6_firstBar_65 : decode cX6_firstBar 65 = .ok (.ireturn, 1) := by decide +kernel
theorem dX6_firstBar_66 : decode cX6_firstBar 66 = .ok (.aload_n 0, 1) := by decide +kernel
theorem dX6_firstBar_67 : decode cX6_firstBar 67 = .ok (.getfield 26, 3) := by decide +kernel
theorem dX6_firstBar_70 : decode cX6_firstBar 70 = .ok (.iload_n 3, 1) := by decide +kernel
theorem dX6_firstBar_71 : decode cX6_firstBar 71 = .ok (.iconst 5, 1) := by decide +kernel
theorem dX6_firstBar_72 : decode cX6_firstBar 72 = .ok (.invokevirtual 271, 3) := by decide +kernel
theorem dX6_firstBar_75 : decode cX6_firstBar 75 = .ok (.ifCond .ne 5, 3) := by decide +kernel
theorem dX6_firstBar_78 : decode cX6_firstBar 78 = .ok (.iconst 4, 1) := by decide +kernel
theorem dX6_firstBar_79 : decode cX6_firstBar 79 = .ok (.ireturn, 1) := by decide +kernel
theorem dX6_firstBar_80 : decode cX6_firstBar 80 = .ok (.aload_n 0, 1) := by decide +kernel
theorem dX6_firstBar_81 : decode cX6_firstBar 81 = .ok (.aload_n 0, 1) := by decide +kernel
theorem dX6_firstBar_82 : decode cX6_firstBar 82 = .ok (.getfield 46, 3) := by decide +kernel
theorem dX6_firstBar_85 : decode cX6_firstBar 85 = .ok (.getfield 181, 3) := by decide +kernel
theorem dX6_firstBar_88 : decode cX6_firstBar 88 = .ok (.iload_n 1, 1) := by decide +kernel
theorem dX6_firstBar_89 : decode cX6_firstBar 89 = .ok (.iaload, 1) := by decide +kernel
theorem dX6_firstBar_90 : decode cX6_firstBar 90 = .ok (.invokevirtual 274, 3) := by decide +kernel
theorem dX6_firstBar_93 : decode cX6_firstBar 93 = .ok (.istore 4, 2) := by decide +kernel
theorem dX6_firstBar_95 : decode cX6_firstBar 95 = .ok (.iload 4, 2) := by decide +kernel
theorem dX6_firstBar_97 : decode cX6_firstBar 97 = .ok (.ifCond .eq 6, 3) := by decide +kernel
theorem dX6_firstBar_100 : decode cX6_firstBar 100 = .ok (.iload 4, 2) := by decide +kernel
theorem dX6_firstBar_102 : decode cX6_firstBar 102 = .ok (.ireturn, 1) := by decide +kernel
theorem dX6_firstBar_103 : decode cX6_firstBar 103 = .ok (.aload_n 0, 1) := by decide +kernel
theorem dX6_firstBar_104 : decode cX6_firstBar 104 = .ok (.getfield 46, 3) := by decide +kernel
theorem dX6_firstBar_107 : decode cX6_firstBar 107 = .ok (.iload_n 3, 1) := by decide +kernel
theorem dX6_firstBar_108 : decode cX6_firstBar 108 = .ok (.invokevirtual 277, 3) := by decide +kernel
theorem dX6_firstBar_111 : decode cX6_firstBar 111 = .ok (.ifCond .eq 8, 3) := by decide +kernel
theorem dX6_firstBar_114 : decode cX6_firstBar 114 = .ok (.bipush 9, 2) := by decide +kernel
theorem dX6_firstBar_116 : decode cX6_firstBar 116 = .ok (.goto 4, 3) := by decide +kernel
theorem dX6_firstBar_119 : decode cX6_firstBar 119 = .ok (.iconst 0, 1) := by decide +kernel
theorem dX6_firstBar_120 : decode cX6_firstBar 120 = .ok (.ireturn, 1) := by decide +kernel
theorem dX6_firstBarOfBox_0 : decode cX6_firstBarOfBox 0 = .ok (.aload_n 0, 1) := by decide +kernel
theorem dX6_firstBarOfBox_1 : decode cX6_firstBarOfBox 1 = .ok (.getfield 19, 3) := by decide +kernel
theorem dX6_firstBarOfBox_4 : decode cX6_firstBarOfBox 4 = .ok (.iload_n 1, 1) := by decide +kernel
theorem dX6_firstBarOfBox_5 : decode cX6_firstBarOfBox 5 = .ok (.iconst 0, 1) := by decide +kernel
theorem dX6_firstBarOfBox_6 : decode cX6_firstBarOfBox 6 = .ok (.invokevirtual 280, 3) := by decide +kernel
theorem dX6_firstBarOfBox_9 : decode cX6_firstBarOfBox 9 = .ok (.ifCond .ne 5, 3) := by decide +kernel
theorem dX6_firstBarOfBox_12 : decode cX6_firstBarOfBox 12 = .ok (.iconst 5, 1) := by decide +kernel
theorem dX6_firstBarOfBox_13 : decode cX6_firstBarOfBox 13 = .ok (.ireturn, 1) := by decide +kernel
theorem dX6_firstBarOfBox_14 : decode cX6_firstBarOfBox 14 = .ok (.aload_n 0, 1) := by decide +kernel
theorem dX6_firstBarOfBox_15 : decode cX6_firstBarOfBox 15 = .ok (.getfield 19, 3) := by decide +kernel
theorem dX6_firstBarOfBox_18 : decode cX6_firstBarOfBox 18 = .ok (.iload_n 1, 1) := by decide +kernel
theorem dX6_firstBarOfBox_19 : decode cX6_firstBarOfBox 19 = .ok (.iconst 1, 1) := by decide +kernel
theorem dX6_firstBarOfBox_20 : decode cX6_firstBarOfBox 20 = .ok (.invokevirtual 280, 3) := by decide +kernel
theorem dX6_firstBarOfBox_23 : decode cX6_firstBarOfBox 23 = .ok (.ifCond .ne 6, 3) := by decide +kernel
theorem dX6_firstBarOfBox_26 : decode cX6_firstBarOfBox 26 = .ok (.bipush 6, 2) := by decide +kernel
theorem dX6_firstBarOfBox_28 : decode cX6_firstBarOfBox 28 = .ok (.ireturn, 1) := by decide +kernel
theorem dX6_firstBarOfBox_29 : decode cX6_firstBarOfBox 29 = .ok (.aload_n 0, 1) := by decide +kernel
theorem dX6_firstBarOfBox_30 : decode cX6_firstBarOfBox 30 = .ok (.getfield 19, 3) := by decide +kernel
theorem dX6_firstBarOfBox_33 : decode cX6_firstBarOfBox 33 = .ok (.iload_n 1, 1) := by decide +kernel
theorem dX6_firstBarOfBox_34 : decode cX6_firstBarOfBox 34 = .ok (.iconst 2, 1) := by decide +kernel
theorem dX6_firstBarOfBox_35 : decode cX6_firstBarOfBox 35 = .ok (.invokevirtual 280, 3) := by decide +kernel
theorem dX6_firstBarOfBox_38 : decode cX6_firstBarOfBox 38 = .ok (.ifCond .ne 6, 3) := by decide +kernel
theorem dX6_firstBarOfBox_41 : decode cX6_firstBarOfBox 41 = .ok (.bipush 7, 2) := by decide +kernel
theorem dX6_firstBarOfBox_43 : decode cX6_firstBarOfBox 43 = .ok (.ireturn, 1) := by decide +kernel
theorem dX6_firstBarOfBox_44 : decode cX6_firstBarOfBox 44 = .ok (.aload_n 0, 1) := by decide +kernel
theorem dX6_firstBarOfBox_45 : decode cX6_firstBarOfBox 45 = .ok (.getfield 19, 3) := by decide +kernel
theorem dX6_firstBarOfBox_48 : decode cX6_firstBarOfBox 48 = .ok (.getfield 281, 3) := by decide +kernel
theorem dX6_firstBarOfBox_51 : decode cX6_firstBarOfBox 51 = .ok (.iload_n 1, 1) := by decide +kernel
theorem dX6_firstBarOfBox_52 : decode cX6_firstBarOfBox 52 = .ok (.baload, 1) := by decide +kernel
theorem dX6_firstBarOfBox_53 : decode cX6_firstBarOfBox 53 = .ok (.ifCond .eq 18, 3) := by decide +kernel
theorem dX6_firstBarOfBox_56 : decode cX6_firstBarOfBox 56 = .ok (.aload_n 0, 1) := by decide +kernel
theorem dX6_firstBarOfBox_57 : decode cX6_firstBarOfBox 57 = .ok (.getfield 19, 3) := by decide +kernel
theorem dX6_firstBarOfBox_60 : decode cX6_firstBarOfBox 60 = .ok (.iload_n 1, 1) := by decide +kernel
theorem dX6_firstBarOfBox_61 : decode cX6_firstBarOfBox 61 = .ok (.iconst 3, 1) := by decide +kernel
theorem dX6_firstBarOfBox_62 : decode cX6_firstBarOfBox 62 = .ok (.invokevirtual 280, 3) := by decide +kernel
theorem dX6_firstBarOfBox_65 : decode cX6_firstBarOfBox 65 = .ok (.ifCond .ne 6, 3) := by decide +kernel
theorem dX6_firstBarOfBox_68 : decode cX6_firstBarOfBox 68 = .ok (.bipush 8, 2) := by decide +kernel
theorem dX6_firstBarOfBox_70 : decode cX6_firstBarOfBox 70 = .ok (.ireturn, 1) := by decide +kernel
theorem dX6_firstBarOfBox_71 : decode cX6_firstBarOfBox 71 = .ok (.iconst 0, 1) := by decide +kernel
theorem dX6_firstBarOfBox_72 : decode cX6_firstBarOfBox 72 = .ok (.ireturn, 1) := by decide +kernel
theorem dX6_held_0 : decode cX6_held 0 = .ok (.iconst 1, 1) := by decide +kernel
theorem dX6_held_1 : decode cX6_held 1 = .ok (.iload_n 1, 1) := by decide +kernel
theorem dX6_held_2 : decode cX6_held 2 = .ok (.iload_n 0, 1) := by decide +kernel
theorem dX6_held_3 : decode cX6_held 3 = .ok (.invokestatic 247, 3) := by decide +kernel
theorem dX6_held_6 : decode cX6_held 6 = .ok (.invokestatic 252, 3) := by decide +kernel
theorem dX6_held_9 : decode cX6_held 9 = .ok (.ireturn, 1) := by decide +kernel
theorem dX6_isAhead_0 : decode cX6_isAhead 0 = .ok (.aload_n 0, 1) := by decide +kernel
theorem dX6_isAhead_1 : decode cX6_isAhead 1 = .ok (.getfield 169, 3) := by decide +kernel
theorem dX6_isAhead_4 : decode cX6_isAhead 4 = .ok (.sipush 600, 3) := by decide +kernel
theorem dX6_isAhead_7 : decode cX6_isAhead 7 = .ok (.iload_n 1, 1) := by decide +kernel
theorem dX6_isAhead_8 : decode cX6_isAhead 8 = .ok (.imul, 1) := by decide +kernel
theorem dX6_isAhead_9 : decode cX6_isAhead 9 = .ok (.bipush 120, 2) := by decide +kernel
theorem dX6_isAhead_11 : decode cX6_isAhead 11 = .ok (.isub, 1) := by decide +kernel
theorem dX6_isAhead_12 : decode cX6_isAhead 12 = .ok (.if_icmp .ge 7, 3) := by decide +kernel
theorem dX6_isAhead_15 : decode cX6_isAhead 15 = .ok (.iconst 1, 1) := by decide +kernel
theorem dX6_isAhead_16 : decode cX6_isAhead 16 = .ok (.goto 4, 3) := by decide +kernel
theorem dX6_isAhead_19 : decode cX6_isAhead 19 = .ok (.iconst 0, 1) := by decide +kernel
theorem dX6_isAhead_20 : decode cX6_isAhead 20 = .ok (.ireturn, 1) := by decide +kernel
theorem dX6_isDigit_0 : decode cX6_isDigit 0 = .ok (.iload_n 0, 1) := by decide +kernel
theorem dX6_isDigit_1 : decode cX6_isDigit 1 = .ok (.bipush 48, 2) := by decide +kernel
theorem dX6_isDigit_3 : decode cX6_isDigit 3 = .ok (.if_icmp .lt 13, 3) := by decide +kernel
theorem dX6_isDigit_6 : decode cX6_isDigit 6 = .ok (.iload_n 0, 1) := by decide +kernel
theorem dX6_isDigit_7 : decode cX6_isDigit 7 = .ok (.bipush 57, 2) := by decide +kernel
theorem dX6_isDigit_9 : decode cX6_isDigit 9 = .ok (.if_icmp .gt 7, 3) := by decide +kernel
theorem dX6_isDigit_12 : decode cX6_isDigit 12 = .ok (.iconst 1, 1) := by decide +kernel
theorem dX6_isDigit_13 : decode cX6_isDigit 13 = .ok (.goto 4, 3) := by decide +kernel
theorem dX6_isDigit_16 : decode cX6_isDigit 16 = .ok (.iconst 0, 1) := by decide +kernel
theorem dX6_isDigit_17 : decode cX6_isDigit 17 = .ok (.ireturn, 1) := by decide +kernel
theorem dX6_isLane_0 : decode cX6_isLane 0 = .ok (.iload_n 0, 1) := by decide +kernel
theorem dX6_isLane_1 : decode cX6_isLane 1 = .ok (.ifCond .lt 12, 3) := by decide +kernel
theorem dX6_isLane_4 : decode cX6_isLane 4 = .ok (.iload_n 0, 1) := by decide +kernel
theorem dX6_isLane_5 : decode cX6_isLane 5 = .ok (.iconst 3, 1) := by decide +kernel
theorem dX6_isLane_6 : decode cX6_isLane 6 = .ok (.if_icmp .ge 7, 3) := by decide +kernel
theorem dX6_isLane_9 : decode cX6_isLane 9 = .ok (.iconst 1, 1) := by decide +kernel
theorem dX6_isLane_10 : decode cX6_isLane 10 = .ok (.goto 4, 3) := by decide +kernel
theorem dX6_isLane_13 : decode cX6_isLane 13 = .ok (.iconst 0, 1) := by decide +kernel
theorem dX6_isLane_14 : decode cX6_isLane 14 = .ok (.ireturn, 1) := by decide +kernel
theorem dX6_isLetter_0 : decode cX6_isLetter 0 = .ok (.iload_n 0, 1) := by decide +kernel
theorem dX6_isLetter_1 : decode cX6_isLetter 1 = .ok (.bipush 65, 2) := by decide +kernel
theorem dX6_isLetter_3 : decode cX6_isLetter 3 = .ok (.if_icmp .lt 13, 3) := by decide +kernel
theorem dX6_isLetter_6 : decode cX6_isLetter 6 = .ok (.iload_n 0, 1) := by decide +kernel
theorem dX6_isLetter_7 : decode cX6_isLetter 7 = .ok (.bipush 90, 2) := by decide +kernel
theorem dX6_isLetter_9 : decode cX6_isLetter 9 = .ok (.if_icmp .gt 7, 3) := by decide +kernel
theorem dX6_isLetter_12 : decode cX6_isLetter 12 = .ok (.iconst 1, 1) := by decide +kernel
theorem dX6_isLetter_13 : decode cX6_isLetter 13 = .ok (.goto 4, 3) := by decide +kernel
theorem dX6_isLetter_16 : decode cX6_isLetter 16 = .ok (.iconst 0, 1) := by decide +kernel
theorem dX6_isLetter_17 : decode cX6_isLetter 17 = .ok (.ireturn, 1) := by decide +kernel
theorem dX6_isOver_0 : decode cX6_isOver 0 = .ok (.aload_n 0, 1) := by decide +kernel
theorem dX6_isOver_1 : decode cX6_isOver 1 = .ok (.getfield 169, 3) := by decide +kernel
theorem dX6_isOver_4 : decode cX6_isOver 4 = .ok (.sipush 600, 3) := by decide +kernel
theorem dX6_isOver_7 : decode cX6_isOver 7 = .ok (.iload_n 1, 1) := by decide +kernel
theorem dX6_isOver_8 : decode cX6_isOver 8 = .ok (.imul, 1) := by decide +kernel
theorem dX6_isOver_9 : decode cX6_isOver 9 = .ok (.sipush 600, 3) := by decide +kernel
theorem dX6_isOver_12 : decode cX6_isOver 12 = .ok (.iadd, 1) := by decide +kernel
theorem dX6_isOver_13 : decode cX6_isOver 13 = .ok (.iconst 1, 1) := by decide +kernel
theorem dX6_isOver_14 : decode cX6_isOver 14 = .ok (.isub, 1) := by decide +kernel
theorem dX6_isOver_15 : decode cX6_isOver 15 = .ok (.bipush 120, 2) := by decide +kernel
theorem dX6_isOver_17 : decode cX6_isOver 17 = .ok (.iadd, 1) := by decide +kernel
theorem dX6_isOver_18 : decode cX6_isOver 18 = .ok (.if_icmp .le 7, 3) := by decide +kernel
theorem dX6_isOver_21 : decode cX6_isOver 21 = .ok (.iconst 1, 1) := by decide +kernel
theorem dX6_isOver_22 : decode cX6_isOver 22 = .ok (.goto 4, 3) := by decide +kernel
theorem dX6_isOver_25 : decode cX6_isOver 25 = .ok (.iconst 0, 1) := by decide +kernel
theorem dX6_isOver_26 : decode cX6_isOver 26 = .ok (.ireturn, 1) := by decide +kernel
theorem dX6_isWithinTolerance_0 : decode cX6_isWithinTolerance 0 = .ok (.aload_n 0, 1) := by decide +kernel
theorem dX6_isWithinTolerance_1 : decode cX6_isWithinTolerance 1 = .ok (.getfield 19, 3) := by decide +kernel
theorem dX6_isWithinTolerance_4 : decode cX6_isWithinTolerance 4 = .ok (.getfield 286, 3) := by decide +kernel
theorem dX6_isWithinTolerance_7 : decode cX6_isWithinTolerance 7 = .ok (.iload_n 1, 1) := by decide +kernel
theorem dX6_isWithinTolerance_8 : decode cX6_isWithinTolerance 8 = .ok (.iaload, 1) := by decide +kernel
theorem dX6_isWithinTolerance_9 : decode cX6_isWithinTolerance 9 = .ok (.istore_n 3, 1) := by decide +kernel
theorem dX6_isWithinTolerance_10 : decode cX6_isWithinTolerance 10 = .ok (.iload_n 2, 1) := by decide +kernel
theorem dX6_isWithinTolerance_11 : decode cX6_isWithinTolerance 11 = .ok (.iload_n 3, 1) := by decide +kernel
theorem dX6_isWithinTolerance_12 : decode cX6_isWithinTolerance 12 = .ok (.isub, 1) := by decide +kernel
theorem dX6_isWithinTolerance_13 : decode cX6_isWithinTolerance 13 = .ok (.invokestatic 289, 3) := by decide +kernel
theorem dX6_isWithinTolerance_16 : decode cX6_isWithinTolerance 16 = .ok (.sipush 1000, 3) := by decide +kernel
theorem dX6_isWithinTolerance_19 : decode cX6_isWithinTolerance 19 = .ok (.imul, 1) := by decide +kernel
theorem dX6_isWithinTolerance_20 : decode cX6_isWithinTolerance 20 = .ok (.iload_n 3, 1) := by decide +kernel
theorem dX6_isWithinTolerance_21 : decode cX6_isWithinTolerance 21 = .ok (.aload_n 0, 1) := by decide +kernel
theorem dX6_isWithinTolerance_22 : decode cX6_isWithinTolerance 22 = .ok (.getfield 57, 3) := by decide +kernel
theorem dX6_isWithinTolerance_25 : decode cX6_isWithinTolerance 25 = .ok (.imul, 1) := by decide +kernel
theorem dX6_isWithinTolerance_26 : decode cX6_isWithinTolerance 26 = .ok (.if_icmp .gt 7, 3) := by decide +kernel
theorem dX6_isWithinTolerance_29 : decode cX6_isWithinTolerance 29 = .ok (.iconst 1, 1) := by decide +kernel
theorem dX6_isWithinTolerance_30 : decode cX6_isWithinTolerance 30 = .ok (.goto 4, 3) := by decide +kernel
theorem dX6_isWithinTolerance_33 : decode cX6_isWithinTolerance 33 = .ok (.iconst 0, 1) := by decide +kernel
theorem dX6_isWithinTolerance_34 : decode cX6_isWithinTolerance 34 = .ok (.ireturn, 1) := by decide +kernel
theorem dX6_joinLane_0 : decode cX6_joinLane 0 = .ok (.aload_n 0, 1) := by decide +kernel
theorem dX6_joinLane_1 : decode cX6_joinLane 1 = .ok (.getfield 52, 3) := by decide +kernel
theorem dX6_joinLane_4 : decode cX6_joinLane 4 = .ok (.iload_n 2, 1) := by decide +kernel
theorem dX6_joinLane_5 : decode cX6_joinLane 5 = .ok (.aaload, 1) := by decide +kernel
theorem dX6_joinLane_6 : decode cX6_joinLane 6 = .ok (.iload_n 1, 1) := by decide +kernel
theorem dX6_joinLane_7 : decode cX6_joinLane 7 = .ok (.invokevirtual 285, 3) := by decide +kernel
theorem dX6_joinLane_10 : decode cX6_joinLane 10 = .ok (.aload_n 0, 1) := by decide +kernel
theorem dX6_joinLane_11 : decode cX6_joinLane 11 = .ok (.getfield 46, 3) := by decide +kernel
theorem dX6_joinLane_14 : decode cX6_joinLane 14 = .ok (.getfield 223, 3) := by decide +kernel
theorem dX6_joinLane_17 : decode cX6_joinLane 17 = .ok (.iload_n 1, 1) := by decide +kernel
theorem dX6_joinLane_18 : decode cX6_joinLane 18 = .ok (.iload_n 2, 1) := by decide +kernel
theorem dX6_joinLane_19 : decode cX6_joinLane 19 = .ok (.iastore, 1) := by decide +kernel
theorem dX6_joinLane_20 : decode cX6_joinLane 20 = .ok (.return_, 1) := by decide +kernel
theorem dX6_laneFor_0 : decode cX6_laneFor 0 = .ok (.aload_n 0, 1) := by decide +kernel
