theorem dX7_at_0 : decode cX7_at 0 = .ok (.iload_n 1, 1) := by decide +kernel
theorem dX7_at_1 : decode cX7_at 1 = .ok (.ifCond .lt 21, 3) := by decide +kernel
theorem dX7_at_4 : decode cX7_at 4 = .ok (.iload_n 1, 1) := by decide +kernel
theorem dX7_at_5 : decode cX7_at 5 = .ok (.aload_n 0, 1) := by decide +kernel
theorem dX7_at_6 : decode cX7_at 6 = .ok (.getfield 88, 3) := by decide +kernel
theorem dX7_at_9 : decode cX7_at 9 = .ok (.if_icmp .ge 13, 3) := by decide +kernel
theorem dX7_at_12 : decode cX7_at 12 = .ok (.iload_n 2, 1) := by decide +kernel
theorem dX7_at_13 : decode cX7_at 13 = .ok (.ifCond .lt 9, 3) := by decide +kernel
theorem dX7_at_16 : decode cX7_at 16 = .ok (.iload_n 2, 1) := by decide +kernel
theorem dX7_at_17 : decode cX7_at 17 = .ok (.bipush 9, 2) := by decide +kernel
theorem dX7_at_19 : decode cX7_at 19 = .ok (.if_icmp .le 9, 3) := by decide +kernel
theorem dX7_at_22 : decode cX7_at 22 = .ok (.aload_n 0, 1) := by decide +kernel
theorem dX7_at_23 : decode cX7_at 23 = .ok (.iconst 1, 1) := by decide +kernel
theorem dX7_at_24 : decode cX7_at 24 = .ok (.invokevirtual 80, 3) := by decide +kernel
theorem dX7_at_27 : decode cX7_at 27 = .ok (.ireturn, 1) := by decide +kernel
theorem dX7_at_28 : decode cX7_at 28 = .ok (.aload_n 0, 1) := by decide +kernel
theorem dX7_at_29 : decode cX7_at 29 = .ok (.iconst 0, 1) := by decide +kernel
theorem dX7_at_30 : decode cX7_at 30 = .ok (.putfield 60, 3) := by decide +kernel
theorem dX7_at_33 : decode cX7_at 33 = .ok (.aload_n 0, 1) := by decide +kernel
theorem dX7_at_34 : decode cX7_at 34 = .ok (.getfield 13, 3) := by decide +kernel
theorem dX7_at_37 : decode cX7_at 37 = .ok (.bipush 10, 2) := by decide +kernel
theorem dX7_at_39 : decode cX7_at 39 = .ok (.iload_n 1, 1) := by decide +kernel
theorem dX7_at_40 : decode cX7_at 40 = .ok (.imul, 1) := by decide +kernel
theorem dX7_at_41 : decode cX7_at 41 = .ok (.iload_n 2, 1) := by decide +kernel
theorem dX7_at_42 : decode cX7_at 42 = .ok (.iadd, 1) := by decide +kernel
theorem dX7_at_43 : decode cX7_at 43 = .ok (.iaload, 1) := by decide +kernel
theorem dX7_at_44 : decode cX7_at 44 = .ok (.ireturn, 1) := by decide +kernel
theorem dX7_bar_0 : decode cX7_bar 0 = .ok (.aload_n 0, 1) := by decide +kernel
theorem dX7_bar_1 : decode cX7_bar 1 = .ok (.getfield 32, 3) := by decide +kernel
theorem dX7_bar_4 : decode cX7_bar 4 = .ok (.iload_n 1, 1) := by decide +kernel
theorem dX7_bar_5 : decode cX7_bar 5 = .ok (.iaload, 1) := by decide +kernel
theorem dX7_bar_6 : decode cX7_bar 6 = .ok (.istore_n 2, 1) := by decide +kernel
theorem dX7_bar_7 : decode cX7_bar 7 = .ok (.sipush 600, 3) := by decide +kernel
theorem dX7_bar_10 : decode cX7_bar 10 = .ok (.aload_n 0, 1) := by decide +kernel
theorem dX7_bar_11 : decode cX7_bar 11 = .ok (.getfield 26, 3) := by decide +kernel
theorem dX7_bar_14 : decode cX7_bar 14 = .ok (.iload_n 1, 1) := by decide +kernel
theorem dX7_bar_15 : decode cX7_bar 15 = .ok (.iaload, 1) := by decide +kernel
theorem dX7_bar_16 : decode cX7_bar 16 = .ok (.imul, 1) := by decide +kernel
theorem dX7_bar_17 : decode cX7_bar 17 = .ok (.istore_n 3, 1) := by decide +kernel
theorem dX7_bar_18 : decode cX7_bar 18 = .ok (.aload_n 0, 1) := by decide +kernel
theorem dX7_bar_19 : decode cX7_bar 19 = .ok (.getfield 35, 3) := by decide +kernel
theorem dX7_bar_22 : decode cX7_bar 22 = .ok (.iload_n 1, 1) := by decide +kernel
theorem dX7_bar_23 : decode cX7_bar 23 = .ok (.iaload, 1) := by decide +kernel
theorem dX7_bar_24 : decode cX7_bar 24 = .ok (.ifCond .eq 5, 3) := by decide +kernel
theorem dX7_bar_27 : decode cX7_bar 27 = .ok (.iconst 1, 1) := by decide +kernel
theorem dX7_bar_28 : decode cX7_bar 28 = .ok (.ireturn, 1) := by decide +kernel
theorem dX7_bar_29 : decode cX7_bar 29 = .ok (.aload_n 0, 1) := by decide +kernel
theorem dX7_bar_30 : decode cX7_bar 30 = .ok (.getfield 66, 3) := by decide +kernel
theorem dX7_bar_33 : decode cX7_bar 33 = .ok (.iload_n 3, 1) := by decide +kernel
theorem dX7_bar_34 : decode cX7_bar 34 = .ok (.bipush 120, 2) := by decide +kernel
theorem dX7_bar_36 : decode cX7_bar 36 = .ok (.isub, 1) := by decide +kernel
theorem dX7_bar_37 : decode cX7_bar 37 = .ok (.if_icmp .lt 18, 3) := by decide +kernel
theorem dX7_bar_40 : decode cX7_bar 40 = .ok (.aload_n 0, 1) := by decide +kernel
theorem dX7_bar_41 : decode cX7_bar 41 = .ok (.getfield 66, 3) := by decide +kernel
theorem dX7_bar_44 : decode cX7_bar 44 = .ok (.iload_n 3, 1) := by decide +kernel
theorem dX7_bar_45 : decode cX7_bar 45 = .ok (.sipush 599, 3) := by decide +kernel
theorem dX7_bar_48 : decode cX7_bar 48 = .ok (.iadd, 1) := by decide +kernel
theorem dX7_bar_49 : decode cX7_bar 49 = .ok (.bipush 120, 2) := by decide +kernel
theorem dX7_bar_51 : decode cX7_bar 51 = .ok (.iadd, 1) := by decide +kernel
theorem dX7_bar_52 : decode cX7_bar 52 = .ok (.if_icmp .le 5, 3) := by decide +kernel
theorem dX7_bar_55 : decode cX7_bar 55 = .ok (.iconst 2, 1) := by decide +kernel
theorem dX7_bar_56 : decode cX7_bar 56 = .ok (.ireturn, 1) := by decide +kernel
theorem dX7_bar_57 : decode cX7_bar 57 = .ok (.aload_n 0, 1) := by decide +kernel
theorem dX7_bar_58 : decode cX7_bar 58 = .ok (.iconst 4, 1) := by decide +kernel
theorem dX7_bar_59 : decode cX7_bar 59 = .ok (.aload_n 0, 1) := by decide +kernel
theorem dX7_bar_60 : decode cX7_bar 60 = .ok (.getfield 29, 3) := by decide +kernel
theorem dX7_bar_63 : decode cX7_bar 63 = .ok (.iload_n 1, 1) := by decide +kernel
theorem dX7_bar_64 : decode cX7_bar 64 = .ok (.iaload, 1) := by decide +kernel
theorem dX7_bar_65 : decode cX7_bar 65 = .ok (.invokevirtual 104, 3) := by decide +kernel
theorem dX7_bar_68 : decode cX7_bar 68 = .ok (.ifCond .ne 5, 3) := by decide +kernel
theorem dX7_bar_71 : decode cX7_bar 71 = .ok (.iconst 3, 1) := by decide +kernel
theorem dX7_bar_72 : decode cX7_bar 72 = .ok (.ireturn, 1) := by decide +kernel
theorem dX7_bar_73 : decode cX7_bar 73 = .ok (.aload_n 0, 1) := by decide +kernel
theorem dX7_bar_74 : decode cX7_bar 74 = .ok (.iconst 5, 1) := by decide +kernel
theorem dX7_bar_75 : decode cX7_bar 75 = .ok (.aload_n 0, 1) := by decide +kernel
theorem dX7_bar_76 : decode cX7_bar 76 = .ok (.getfield 29, 3) := by decide +kernel
theorem dX7_bar_79 : decode cX7_bar 79 = .ok (.iload_n 1, 1) := by decide +kernel
theorem dX7_bar_80 : decode cX7_bar 80 = .ok (.iaload, 1) := by decide +kernel
theorem dX7_bar_81 : decode cX7_bar 81 = .ok (.invokevirtual 104, 3) := by decide +kernel
theorem dX7_bar_84 : decode cX7_bar 84 = .ok (.ifCond .ne 5, 3) := by decide +kernel
theorem dX7_bar_87 : decode cX7_bar 87 = .ok (.iconst 4, 1) := by decide +kernel
theorem dX7_bar_88 : decode cX7_bar 88 = .ok (.ireturn, 1) := by decide +kernel
theorem dX7_bar_89 : decode cX7_bar 89 = .ok (.iconst 0, 1) := by decide +kernel
theorem dX7_bar_90 : decode cX7_bar 90 = .ok (.istore 4, 2) := by decide +kernel
theorem dX7_bar_92 : decode cX7_bar 92 = .ok (.iload 4, 2) := by decide +kernel
theorem dX7_bar_94 : decode cX7_bar 94 = .ok (.iconst 3, 1) := by decide +kernel
theorem dX7_bar_95 : decode cX7_bar 95 = .ok (.if_icmp .ge 24, 3) := by decide +kernel
theorem dX7_bar_98 : decode cX7_bar 98 = .ok (.aload_n 0, 1) := by decide +kernel
theorem dX7_bar_99 : decode cX7_bar 99 = .ok (.iload 4, 2) := by decide +kernel
theorem dX7_bar_101 : decode cX7_bar 101 = .ok (.iload_n 2, 1) := by decide +kernel
theorem dX7_bar_102 : decode cX7_bar 102 = .ok (.invokevirtual 104, 3) := by decide +kernel
theorem dX7_bar_105 : decode cX7_bar 105 = .ok (.ifCond .ne 8, 3) := by decide +kernel
theorem dX7_bar_108 : decode cX7_bar 108 = .ok (.iconst 5, 1) := by decide +kernel
theorem dX7_bar_109 : decode cX7_bar 109 = .ok (.iload 4, 2) := by decide +kernel
theorem dX7_bar_111 : decode cX7_bar 111 = .ok (.iadd, 1) := by decide +kernel
theorem dX7_bar_112 : decode cX7_bar 112 = .ok (.ireturn, 1) := by decide +kernel
theorem dX7_bar_113 : decode cX7_bar 113 = .ok (.iinc 4 1, 3) := by decide +kernel
theorem dX7_bar_116 : decode cX7_bar 116 = .ok (.goto (-24), 3) := by decide +kernel
theorem dX7_bar_119 : decode cX7_bar 119 = .ok (.aload_n 0, 1) := by decide +kernel
theorem dX7_bar_120 : decode cX7_bar 120 = .ok (.getfield 19, 3) := by decide +kernel
theorem dX7_bar_123 : decode cX7_bar 123 = .ok (.iload_n 2, 1) := by decide +kernel
theorem dX7_bar_124 : decode cX7_bar 124 = .ok (.baload, 1) := by decide +kernel
theorem dX7_bar_125 : decode cX7_bar 125 = .ok (.ifCond .eq 15, 3) := by decide +kernel
theorem dX7_bar_128 : decode cX7_bar 128 = .ok (.aload_n 0, 1) := by decide +kernel
theorem dX7_bar_129 : decode cX7_bar 129 = .ok (.iconst 3, 1) := by decide +kernel
theorem dX7_bar_130 : decode cX7_bar 130 = .ok (.iload_n 2, 1) := by decide +kernel
theorem dX7_bar_131 : decode cX7_bar 131 = .ok (.invokevirtual 104, 3) := by decide +kernel
theorem dX7_bar_134 : decode cX7_bar 134 = .ok (.ifCond .ne 6, 3) := by decide +kernel
theorem dX7_bar_137 : decode cX7_bar 137 = .ok (.bipush 8, 2) := by decide +kernel
theorem dX7_bar_139 : decode cX7_bar 139 = .ok (.ireturn, 1) := by decide +kernel
theorem dX7_bar_140 : decode cX7_bar 140 = .ok (.aload_n 0, 1) := by decide +kernel
theorem dX7_bar_141 : decode cX7_bar 141 = .ok (.iload_n 1, 1) := by decide +kernel
theorem dX7_bar_142 : decode cX7_bar 142 = .ok (.invokevirtual 108, 3) := by decide +kernel
theorem dX7_bar_145 : decode cX7_bar 145 = .ok (.ifCond .eq 8, 3) := by decide +kernel
theorem dX7_bar_148 : decode cX7_bar 148 = .ok (.bipush 9, 2) := by decide +kernel
theorem dX7_bar_150 : decode cX7_bar 150 = .ok (.goto 4, 3) := by decide +kernel
theorem dX7_bar_153 : decode cX7_bar 153 = .ok (.iconst 0, 1) := by decide +kernel
theorem dX7_bar_154 : decode cX7_bar 154 = .ok (.ireturn, 1) := by decide +kernel
theorem dX7_book_0 : decode cX7_book 0 = .ok (.aload_n 0, 1) := by decide +kernel
theorem dX7_book_1 : decode cX7_book 1 = .ok (.iload_n 1, 1) := by decide +kernel
theorem dX7_book_2 : decode cX7_book 2 = .ok (.invokevirtual 98, 3) := by decide +kernel
theorem dX7_book_5 : decode cX7_book 5 = .ok (.ifCond .eq 25, 3) := by decide +kernel
theorem dX7_book_8 : decode cX7_book 8 = .ok (.iload_n 2, 1) := by decide +kernel
theorem dX7_book_9 : decode cX7_book 9 = .ok (.ifCond .lt 21, 3) := by decide +kernel
theorem dX7_book_12 : decode cX7_book 12 = .ok (.iload_n 2, 1) := by decide +kernel
theorem dX7_book_13 : decode cX7_book 13 = .ok (.bipush 15, 2) := by decide +kernel
theorem dX7_book_15 : decode cX7_book 15 = .ok (.if_icmp .gt 15, 3) := by decide +kernel
theorem dX7_book_18 : decode cX7_book 18 = .ok (.iload_n 3, 1) := by decide +kernel
theorem dX7_book_19 : decode cX7_book 19 = .ok (.ifCond .lt 11, 3) := by decide +kernel
theorem dX7_book_22 : decode cX7_book 22 = .ok (.iload_n 3, 1) := by decide +kernel
theorem dX7_book_23 : decode cX7_book 23 = .ok (.aload_n 0, 1) := by decide +kernel
theorem dX7_book_24 : decode cX7_book 24 = .ok (.getfield 88, 3) := by decide +kernel
theorem dX7_book_27 : decode cX7_book 27 = .ok (.if_icmp .lt 9, 3) := by decide +kernel
theorem dX7_book_30 : decode cX7_book 30 = .ok (.aload_n 0, 1) := by decide +kernel
theorem dX7_book_31 : decode cX7_book 31 = .ok (.iconst 1, 1) := by decide +kernel
theorem dX7_book_32 : decode cX7_book 32 = .ok (.invokevirtual 80, 3) := by decide +kernel
theorem dX7_book_35 : decode cX7_book 35 = .ok (.ireturn, 1) := by decide +kernel
theorem dX7_book_36 : decode cX7_book 36 = .ok (.aload_n 0, 1) := by decide +kernel
theorem dX7_book_37 : decode cX7_book 37 = .ok (.getfield 63, 3) := by decide +kernel
theorem dX7_book_40 : decode cX7_book 40 = .ok (.bipush 60, 2) := by decide +kernel
theorem dX7_book_42 : decode cX7_book 42 = .ok (.if_icmp .ne 9, 3) := by decide +kernel
theorem dX7_book_45 : decode cX7_book 45 = .ok (.aload_n 0, 1) := by decide +kernel
theorem dX7_book_46 : decode cX7_book 46 = .ok (.iconst 2, 1) := by decide +kernel
theorem dX7_book_47 : decode cX7_book 47 = .ok (.invokevirtual 80, 3) := by decide +kernel
theorem dX7_book_50 : decode cX7_book 50 = .ok (.ireturn, 1) := by decide +kernel
theorem dX7_book_51 : decode cX7_book 51 = .ok (.aload_n 0, 1) := by decide +kernel
theorem dX7_book_52 : decode cX7_book 52 = .ok (.iconst 0, 1) := by decide +kernel
theorem dX7_book_53 : decode cX7_book 53 = .ok (.putfield 60, 3) := by decide +kernel
theorem dX7_book_56 : decode cX7_book 56 = .ok (.iconst 1, 1) := by decide +kernel
theorem dX7_book_57 : decode cX7_book 57 = .ok (.istore 4, 2) := by decide +kernel
theorem dX7_book_59 : decode cX7_book 59 = .ok (.iload 4, 2) := by decide +kernel
theorem dX7_book_61 : decode cX7_book 61 = .ok (.aload_n 0, 1) := by decide +kernel
theorem dX7_book_62 : decode cX7_book 62 = .ok (.getfield 63, 3) := by decide +kernel
theorem dX7_book_65 : decode cX7_book 65 = .ok (.if_icmp .gt 33, 3) := by decide +kernel
theorem dX7_book_68 : decode cX7_book 68 = .ok (.aload_n 0, 1) := by decide +kernel
theorem dX7_book_69 : decode cX7_book 69 = .ok (.getfield 32, 3) := by decide +kernel
theorem dX7_book_72 : decode cX7_book 72 = .ok (.iload 4, 2) := by decide +kernel
theorem dX7_book_74 : decode cX7_book 74 = .ok (.iaload, 1) := by decide +kernel
theorem dX7_book_75 : decode cX7_book 75 = .ok (.iload_n 3, 1) := by decide +kernel
theorem dX7_book_76 : decode cX7_book 76 = .ok (.if_icmp .ne 16, 3) := by decide +kernel
theorem dX7_book_79 : decode cX7_book 79 = .ok (.aload_n 0, 1) := by decide +kernel
theorem dX7_book_80 : decode cX7_book 80 = .ok (.getfield 35, 3) := by decide +kernel
theorem dX7_book_83 : decode cX7_book 83 = .ok (.iload 4, 2) := by decide +kernel
theorem dX7_book_85 : decode cX7_book 85 = .ok (.iaload, 1) := by decide +kernel
theorem dX7_book_86 : decode cX7_book 86 = .ok (.iconst 3, 1) := by decide +kernel
theorem dX7_book_87 : decode cX7_book 87 = .ok (.if_icmp .eq 5, 3) := by decide +kernel
theorem dX7_book_90 : decode cX7_book 90 = .ok (.iconst 0, 1) := by decide +kernel
theorem dX7_book_91 : decode cX7_book 91 = .ok (.ireturn, 1) := by decide +kernel
theorem dX7_book_92 : decode cX7_book 92 = .ok (.iinc 4 1, 3) := by decide +kernel
theorem dX7_book_95 : decode cX7_book 95 = .ok (.goto (-36), 3) := by decide +kernel
theorem dX7_book_98 : decode cX7_book 98 = .ok (.aload_n 0, 1) := by decide +kernel
theorem dX7_book_99 : decode cX7_book 99 = .ok (.iload_n 1, 1) := by decide +kernel
theorem dX7_book_100 : decode cX7_book 100 = .ok (.invokevirtual 101, 3) := by decide +kernel
theorem dX7_book_103 : decode cX7_book 103 = .ok (.ifCond .ge 9, 3) := by decide +kernel
theorem dX7_book_106 : decode cX7_book 106 = .ok (.aload_n 0, 1) := by decide +kernel
theorem dX7_book_107 : decode cX7_book 107 = .ok (.iload_n 1, 1) := by decide +kernel
theorem dX7_book_108 : decode cX7_book 108 = .ok (.invokevirtual 101, 3) := by decide +kernel
theorem dX7_book_111 : decode cX7_book 111 = .ok (.ireturn, 1) := by decide +kernel
theorem dX7_book_112 : decode cX7_book 112 = .ok (.aload_n 0, 1) := by decide +kernel
theorem dX7_book_113 : decode cX7_book 113 = .ok (.dup, 1) := by decide +kernel
theorem dX7_book_114 : decode cX7_book 114 = .ok (.getfield 63, 3) := by decide +kernel
theorem dX7_book_117 : decode cX7_book 117 = .ok (.iconst 1, 1) := by decide +kernel
theorem dX7_book_118 : decode cX7_book 118 = .ok (.iadd, 1) := by decide +kernel
theorem dX7_book_119 : decode cX7_book 119 = .ok (.putfield 63, 3) := by decide +kernel
theorem dX7_book_122 : decode cX7_book 122 = .ok (.aload_n 0, 1) := by decide +kernel
theorem dX7_book_123 : decode cX7_book 123 = .ok (.getfield 26, 3) := by decide +kernel
theorem dX7_book_126 : decode cX7_book 126 = .ok (.aload_n 0, 1) := by decide +kernel
theorem dX7_book_127 : decode cX7_book 127 = .ok (.getfield 63, 3) := by decide +kernel
theorem dX7_book_130 : decode cX7_book 130 = .ok (.iload_n 1, 1) := by decide +kernel
theorem dX7_book_131 : decode cX7_book 131 = .ok (.iastore, 1) := by decide +kernel
theorem dX7_book_132 : decode cX7_book 132 = .ok (.aload_n 0, 1) := by decide +kernel
theorem dX7_book_133 : decode cX7_book 133 = .ok (.getfield 29, 3) := by decide +kernel
theorem dX7_book_136 : decode cX7_book 136 = .ok (.aload_n 0, 1) := by decide +kernel
theorem dX7_book_137 : decode cX7_book 137 = .ok (.getfield 63, 3) := by decide +kernel
theorem dX7_book_140 : decode cX7_book 140 = .ok (.iload_n 2, 1) := by decide +kernel
theorem dX7_book_141 : decode cX7_book 141 = .ok (.iastore, 1) := by decide +kernel
theorem dX7_book_142 : decode cX7_book 142 = .ok (.aload_n 0, 1) := by decide +kernel
theorem dX7_book_143 : decode cX7_book 143 = .ok (.getfield 32, 3) := by decide +kernel
theorem dX7_book_146 : decode cX7_book 146 = .ok (.aload_n 0, 1) := by decide +kernel
theorem dX7_book_147 : decode cX7_book 147 = .ok (.getfield 63, 3) := by decide +kernel
theorem dX7_book_150 : decode cX7_book 150 = .ok (.iload_n 3, 1) := by decide +kernel
theorem dX7_book_151 : decode cX7_book 151 = .ok (.iastore, 1) := by decide +kernel
theorem dX7_book_152 : decode cX7_book 152 = .ok (.aload_n 0, 1) := by decide +kernel
theorem dX7_book_153 : decode cX7_book 153 = .ok (.getfield 35, 3) := by decide +kernel
theorem dX7_book_156 : decode cX7_book 156 = .ok (.aload_n 0, 1) := by decide +kernel
theorem dX7_book_157 : decode cX7_book 157 = .ok (.getfield 63, 3) := by decide +kernel
theorem dX7_book_160 : decode cX7_book 160 = .ok (.iconst 0, 1) := by decide +kernel
theorem dX7_book_161 : decode cX7_book 161 = .ok (.iastore, 1) := by decide +kernel
theorem dX7_book_162 : decode cX7_book 162 = .ok (.aload_n 0, 1) := by decide +kernel
theorem dX7_book_163 : decode cX7_book 163 = .ok (.getfield 47, 3) := by decide +kernel
theorem dX7_book_166 : decode cX7_book 166 = .ok (.aload_n 0, 1) := by decide +kernel
theorem dX7_book_167 : decode cX7_book 167 = .ok (.getfield 63, 3) := by decide +kernel
theorem dX7_book_170 : decode cX7_book 170 = .ok (.iconst (-1), 1) := by decide +kernel
theorem dX7_book_171 : decode cX7_book 171 = .ok (.iastore, 1) := by decide +kernel
theorem dX7_book_172 : decode cX7_book 172 = .ok (.aload_n 0, 1) := by decide +kernel
theorem dX7_book_173 : decode cX7_book 173 = .ok (.getfield 63, 3) := by decide +kernel
theorem dX7_book_176 : decode cX7_book 176 = .ok (.ireturn, 1) := by decide +kernel
theorem dX7_box_0 : decode cX7_box 0 = .ok (.aload_n 0, 1) := by decide +kernel
theorem dX7_box_1 : decode cX7_box 1 = .ok (.getfield 70, 3) := by decide +kernel
theorem dX7_box_4 : decode cX7_box 4 = .ok (.bipush 11, 2) := by decide +kernel
theorem dX7_box_6 : decode cX7_box 6 = .ok (.if_icmp .lt 14, 3) := by decide +kernel
theorem dX7_box_9 : decode cX7_box 9 = .ok (.iload_n 1, 1) := by decide +kernel
theorem dX7_box_10 : decode cX7_box 10 = .ok (.iconst 1, 1) := by decide +kernel
theorem dX7_box_11 : decode cX7_box 11 = .ok (.if_icmp .lt 9, 3) := by decide +kernel
theorem dX7_box_14 : decode cX7_box 14 = .ok (.iload_n 1, 1) := by decide +kernel
theorem dX7_box_15 : decode cX7_box 15 = .ok (.ldc 69, 2) := by decide +kernel
theorem dX7_box_17 : decode cX7_box 17 = .ok (.if_icmp .le 9, 3) := by decide +kernel
theorem dX7_box_20 : decode cX7_box 20 = .ok (.aload_n 0, 1) := by decide +kernel
theorem dX7_box_21 : decode cX7_box 21 = .ok (.iconst 1, 1) := by decide +kernel
theorem dX7_box_22 : decode cX7_box 22 = .ok (.invokevirtual 80, 3) := by decide +kernel
theorem dX7_box_25 : decode cX7_box 25 = .ok (.ireturn, 1) := by decide +kernel
theorem dX7_box_26 : decode cX7_box 26 = .ok (.aload_n 0, 1) := by decide +kernel
theorem dX7_box_27 : decode cX7_box 27 = .ok (.getfield 88, 3) := by decide +kernel
theorem dX7_box_30 : decode cX7_box 30 = .ok (.bipush 20, 2) := by decide +kernel
theorem dX7_box_32 : decode cX7_box 32 = .ok (.if_icmp .ne 9, 3) := by decide +kernel
theorem dX7_box_35 : decode cX7_box 35 = .ok (.aload_n 0, 1) := by decide +kernel
theorem dX7_box_36 : decode cX7_box 36 = .ok (.iconst 2, 1) := by decide +kernel
theorem dX7_box_37 : decode cX7_box 37 = .ok (.invokevirtual 80, 3) := by decide +kernel
theorem dX7_box_40 : decode cX7_box 40 = .ok (.ireturn, 1) := by decide +kernel
theorem dX7_box_41 : decode cX7_box 41 = .ok (.aload_n 0, 1) := by decide +kernel
theorem dX7_box_42 : decode cX7_box 42 = .ok (.iconst 0, 1) := by decide +kernel
theorem dX7_box_43 : decode cX7_box 43 = .ok (.putfield 60, 3) := by decide +kernel
theorem dX7_box_46 : decode cX7_box 46 = .ok (.aload_n 0, 1) := by decide +kernel
theorem dX7_box_47 : decode cX7_box 47 = .ok (.iconst 0, 1) := by decide +kernel
theorem dX7_box_48 : decode cX7_box 48 = .ok (.putfield 70, 3) := by decide +kernel
theorem dX7_box_51 : decode cX7_box 51 = .ok (.aload_n 0, 1) := by decide +kernel
theorem dX7_box_52 : decode cX7_box 52 = .ok (.getfield 7, 3) := by decide +kernel
theorem dX7_box_55 : decode cX7_box 55 = .ok (.bipush 10, 2) := by decide +kernel
theorem dX7_box_57 : decode cX7_box 57 = .ok (.iaload, 1) := by decide +kernel
theorem dX7_box_58 : decode cX7_box 58 = .ok (.aload_n 0, 1) := by decide +kernel
theorem dX7_box_59 : decode cX7_box 59 = .ok (.invokevirtual 84, 3) := by decide +kernel
theorem dX7_box_62 : decode cX7_box 62 = .ok (.if_icmp .ne 10, 3) := by decide +kernel
theorem dX7_box_65 : decode cX7_box 65 = .ok (.aload_n 0, 1) := by decide +kernel
theorem dX7_box_66 : decode cX7_box 66 = .ok (.invokevirtual 91, 3) := by decide +kernel
theorem dX7_box_69 : decode cX7_box 69 = .ok (.ifCond .eq 5, 3) := by decide +kernel
theorem dX7_box_72 : decode cX7_box 72 = .ok (.iconst (-1), 1) := by decide +kernel
theorem dX7_box_73 : decode cX7_box 73 = .ok (.ireturn, 1) := by decide +kernel
theorem dX7_box_74 : decode cX7_box 74 = .ok (.iconst 0, 1) := by decide +kernel
theorem dX7_box_75 : decode cX7_box 75 = .ok (.istore_n 3, 1) := by decide +kernel
theorem dX7_box_76 : decode cX7_box 76 = .ok (.iload_n 3, 1) := by decide +kernel
theorem dX7_box_77 : decode cX7_box 77 = .ok (.bipush 10, 2) := by decide +kernel
theorem dX7_box_79 : decode cX7_box 79 = .ok (.if_icmp .ge 29, 3) := by decide +kernel
theorem dX7_box_82 : decode cX7_box 82 = .ok (.aload_n 0, 1) := by decide +kernel
theorem dX7_box_83 : decode cX7_box 83 = .ok (.getfield 13, 3) := by decide +kernel
theorem dX7_box_86 : decode cX7_box 86 = .ok (.bipush 10, 2) := by decide +kernel
theorem dX7_box_88 : decode cX7_box 88 = .ok (.aload_n 0, 1) := by decide +kernel
theorem dX7_box_89 : decode cX7_box 89 = .ok (.getfield 88, 3) := by decide +kernel
theorem dX7_box_92 : decode cX7_box 92 = .ok (.imul, 1) := by decide +kernel
theorem dX7_box_93 : decode cX7_box 93 = .ok (.iload_n 3, 1) := by decide +kernel
theorem dX7_box_94 : decode cX7_box 94 = .ok (.iadd, 1) := by decide +kernel
theorem dX7_box_95 : decode cX7_box 95 = .ok (.aload_n 0, 1) := by decide +kernel
theorem dX7_box_96 : decode cX7_box 96 = .ok (.getfield 7, 3) := by decide +kernel
theorem dX7_box_99 : decode cX7_box 99 = .ok (.iload_n 3, 1) := by decide +kernel
theorem dX7_box_100 : decode cX7_box 100 = .ok (.iaload, 1) := by decide +kernel
theorem dX7_box_101 : decode cX7_box 101 = .ok (.iastore, 1) := by decide +kernel
theorem dX7_box_102 : decode cX7_box 102 = .ok (.iinc 3 1, 3) := by decide +kernel
theorem dX7_box_105 : decode cX7_box 105 = .ok (.goto (-29), 3) := by decide +kernel
theorem dX7_box_108 : decode cX7_box 108 = .ok (.aload_n 0, 1) := by decide +kernel
theorem dX7_box_109 : decode cX7_box 109 = .ok (.getfield 16, 3) := by decide +kernel
theorem dX7_box_112 : decode cX7_box 112 = .ok (.aload_n 0, 1) := by decide +kernel
theorem dX7_box_113 : decode cX7_box 113 = .ok (.getfield 88, 3) := by decide +kernel
theorem dX7_box_116 : decode cX7_box 116 = .ok (.iload_n 1, 1) := by decide +kernel
theorem dX7_box_117 : decode cX7_box 117 = .ok (.iastore, 1) := by decide +kernel
theorem dX7_box_118 : decode cX7_box 118 = .ok (.aload_n 0, 1) := by decide +kernel
theorem dX7_box_119 : decode cX7_box 119 = .ok (.getfield 19, 3) := by decide +kernel
theorem dX7_box_122 : decode cX7_box 122 = .ok (.aload_n 0, 1) := by decide +kernel
theorem dX7_box_123 : decode cX7_box 123 = .ok (.getfield 88, 3) := by decide +kernel
theorem dX7_box_126 : decode cX7_box 126 = .ok (.iload_n 2, 1) := by decide +kernel
theorem dX7_box_127 : decode cX7_box 127 = .ok (.bastore, 1) := by decide +kernel
theorem dX7_box_128 : decode cX7_box 128 = .ok (.aload_n 0, 1) := by decide +kernel
theorem dX7_box_129 : decode cX7_box 129 = .ok (.dup, 1) := by decide +kernel
theorem dX7_box_130 : decode cX7_box 130 = .ok (.getfield 88, 3) := by decide +kernel
theorem dX7_box_133 : decode cX7_box 133 = .ok (.iconst 1, 1) := by decide +kernel
theorem dX7_box_134 : decode cX7_box 134 = .ok (.iadd, 1) := by decide +kernel
theorem dX7_box_135 : decode cX7_box 135 = .ok (.putfield 88, 3) := by decide +kernel
theorem dX7_box_138 : decode cX7_box 138 = .ok (.aload_n 0, 1) := by decide +kernel
theorem dX7_box_139 : decode cX7_box 139 = .ok (.getfield 88, 3) := by decide +kernel
theorem dX7_box_142 : decode cX7_box 142 = .ok (.iconst 1, 1) := by decide +kernel
theorem dX7_box_143 : decode cX7_box 143 = .ok (.isub, 1) := by decide +kernel
theorem dX7_box_144 : decode cX7_box 144 = .ok (.ireturn, 1) := by decide +kernel
theorem dX7_change_0 : decode cX7_change 0 = .ok (.aload_n 0, 1) := by decide +kernel
theorem dX7_change_1 : decode cX7_change 1 = .ok (.iload_n 1, 1) := by decide +kernel
theorem dX7_change_2 : decode cX7_change 2 = .ok (.invokevirtual 114, 3) := by decide +kernel
theorem dX7_change_5 : decode cX7_change 5 = .ok (.ifCond .eq 11, 3) := by decide +kernel
theorem dX7_change_8 : decode cX7_change 8 = .ok (.aload_n 0, 1) := by decide +kernel
theorem dX7_change_9 : decode cX7_change 9 = .ok (.iload_n 2, 1) := by decide +kernel
theorem dX7_change_10 : decode cX7_change 10 = .ok (.invokevirtual 98, 3) := by decide +kernel
theorem dX7_change_13 : decode cX7_change 13 = .ok (.ifCond .ne 9, 3) := by decide +kernel
theorem dX7_change_16 : decode cX7_change 16 = .ok (.aload_n 0, 1) := by decide +kernel
theorem dX7_change_17 : decode cX7_change 17 = .ok (.iconst 1, 1) := by decide +kernel
theorem dX7_change_18 : decode cX7_change 18 = .ok (.invokevirtual 80, 3) := by decide +kernel
theorem dX7_change_21 : decode cX7_change 21 = .ok (.ireturn, 1) := by decide +kernel
theorem dX7_change_22 : decode cX7_change 22 = .ok (.aload_n 0, 1) := by decide +kernel
theorem dX7_change_23 : decode cX7_change 23 = .ok (.iconst 0, 1) := by decide +kernel
theorem dX7_change_24 : decode cX7_change 24 = .ok (.putfield 60, 3) := by decide +kernel
theorem dX7_change_27 : decode cX7_change 27 = .ok (.aload_n 0, 1) := by decide +kernel
theorem dX7_change_28 : decode cX7_change 28 = .ok (.getfield 35, 3) := by decide +kernel
theorem dX7_change_31 : decode cX7_change 31 = .ok (.iload_n 1, 1) := by decide +kernel
theorem dX7_change_32 : decode cX7_change 32 = .ok (.iaload, 1) := by decide +kernel
theorem dX7_change_33 : decode cX7_change 33 = .ok (.ifCond .ne 13, 3) := by decide +kernel
theorem dX7_change_36 : decode cX7_change 36 = .ok (.aload_n 0, 1) := by decide +kernel
theorem dX7_change_37 : decode cX7_change 37 = .ok (.getfield 26, 3) := by decide +kernel
theorem dX7_change_40 : decode cX7_change 40 = .ok (.iload_n 1, 1) := by decide +kernel
theorem dX7_change_41 : decode cX7_change 41 = .ok (.iaload, 1) := by decide +kernel
theorem dX7_change_42 : decode cX7_change 42 = .ok (.iload_n 2, 1) := by decide +kernel
theorem dX7_change_43 : decode cX7_change 43 = .ok (.if_icmp .ne 5, 3) := by decide +kernel
theorem dX7_change_46 : decode cX7_change 46 = .ok (.iconst 0, 1) := by decide +kernel
theorem dX7_change_47 : decode cX7_change 47 = .ok (.ireturn, 1) := by decide +kernel
theorem dX7_change_48 : decode cX7_change 48 = .ok (.aload_n 0, 1) := by decide +kernel
theorem dX7_change_49 : decode cX7_change 49 = .ok (.iload_n 2, 1) := by decide +kernel
theorem dX7_change_50 : decode cX7_change 50 = .ok (.invokevirtual 101, 3) := by decide +kernel
theorem dX7_change_53 : decode cX7_change 53 = .ok (.ifCond .ge 9, 3) := by decide +kernel
theorem dX7_change_56 : decode cX7_change 56 = .ok (.aload_n 0, 1) := by decide +kernel
theorem dX7_change_57 : decode cX7_change 57 = .ok (.iload_n 2, 1) := by decide +kernel
theorem dX7_change_58 : decode cX7_change 58 = .ok (.invokevirtual 101, 3) := by decide +kernel
theorem dX7_change_61 : decode cX7_change 61 = .ok (.ireturn, 1) := by decide +kernel
theorem dX7_change_62 : decode cX7_change 62 = .ok (.aload_n 0, 1) := by decide +kernel
theorem dX7_change_63 : decode cX7_change 63 = .ok (.getfield 26, 3) := by decide +kernel
theorem dX7_change_66 : decode cX7_change 66 = .ok (.iload_n 1, 1) := by decide +kernel
theorem dX7_change_67 : decode cX7_change 67 = .ok (.iload_n 2, 1) := by decide +kernel
theorem dX7_change_68 : decode cX7_change 68 = .ok (.iastore, 1) := by decide +kernel
theorem dX7_change_69 : decode cX7_change 69 = .ok (.iconst 1, 1) := by decide +kernel
theorem dX7_change_70 : decode cX7_change 70 = .ok (.ireturn, 1) := by decide +kernel
theorem dX7_check_0 : decode cX7_check 0 = .ok (.iload_n 1, 1) := by decide +kernel
theorem dX7_check_1 : decode cX7_check 1 = .ok (.ifCond .lt 36, 3) := by decide +kernel
theorem dX7_check_4 : decode cX7_check 4 = .ok (.iload_n 1, 1) := by decide +kernel
theorem dX7_check_5 : decode cX7_check 5 = .ok (.iconst 5, 1) := by decide +kernel
theorem dX7_check_6 : decode cX7_check 6 = .ok (.if_icmp .gt 31, 3) := by decide +kernel
theorem dX7_check_9 : decode cX7_check 9 = .ok (.iload_n 2, 1) := by decide +kernel
theorem dX7_check_10 : decode cX7_check 10 = .ok (.ifCond .lt 21, 3) := by decide +kernel
theorem dX7_check_13 : decode cX7_check 13 = .ok (.iload_n 2, 1) := by decide +kernel
theorem dX7_check_14 : decode cX7_check 14 = .ok (.iload_n 1, 1) := by decide +kernel
theorem dX7_check_15 : decode cX7_check 15 = .ok (.iconst 4, 1) := by decide +kernel
theorem dX7_check_16 : decode cX7_check 16 = .ok (.if_icmp .ge 10, 3) := by decide +kernel
theorem dX7_check_19 : decode cX7_check 19 = .ok (.aload_n 0, 1) := by decide +kernel
theorem dX7_check_20 : decode cX7_check 20 = .ok (.getfield 88, 3) := by decide +kernel
theorem dX7_check_23 : decode cX7_check 23 = .ok (.goto 5, 3) := by decide +kernel
theorem dX7_check_26 : decode cX7_check 26 = .ok (.bipush 16, 2) := by decide +kernel
theorem dX7_check_28 : decode cX7_check 28 = .ok (.if_icmp .lt 9, 3) := by decide +kernel
theorem dX7_check_31 : decode cX7_check 31 = .ok (.aload_n 0, 1) := by decide +kernel
theorem dX7_check_32 : decode cX7_check 32 = .ok (.iconst 1, 1) := by decide +kernel
theorem dX7_check_33 : decode cX7_check 33 = .ok (.invokevirtual 80, 3) := by decide +kernel
theorem dX7_check_36 : decode cX7_check 36 = .ok (.ireturn, 1) := by decide +kernel
theorem dX7_check_37 : decode cX7_check 37 = .ok (.iload_n 1, 1) := by decide +kernel
theorem dX7_check_38 : decode cX7_check 38 = .ok (.ifCond .lt 31, 3) := by decide +kernel
theorem dX7_check_41 : decode cX7_check 41 = .ok (.iload_n 1, 1) := by decide +kernel
theorem dX7_check_42 : decode cX7_check 42 = .ok (.iconst 5, 1) := by decide +kernel
theorem dX7_check_43 : decode cX7_check 43 = .ok (.if_icmp .gt 26, 3) := by decide +kernel
theorem dX7_check_46 : decode cX7_check 46 = .ok (.iload_n 3, 1) := by decide +kernel
theorem dX7_check_47 : decode cX7_check 47 = .ok (.ifCond .lt 22, 3) := by decide +kernel
theorem dX7_check_50 : decode cX7_check 50 = .ok (.iload_n 3, 1) := by decide +kernel
theorem dX7_check_51 : decode cX7_check 51 = .ok (.iload_n 1, 1) := by decide +kernel
theorem dX7_check_52 : decode cX7_check 52 = .ok (.iconst 1, 1) := by decide +kernel
theorem dX7_check_53 : decode cX7_check 53 = .ok (.if_icmp .eq 8, 3) := by decide +kernel
theorem dX7_check_56 : decode cX7_check 56 = .ok (.iload_n 1, 1) := by decide +kernel
theorem dX7_check_57 : decode cX7_check 57 = .ok (.iconst 2, 1) := by decide +kernel
theorem dX7_check_58 : decode cX7_check 58 = .ok (.if_icmp .ne 7, 3) := by decide +kernel
theorem dX7_check_61 : decode cX7_check 61 = .ok (.iconst 2, 1) := by decide +kernel
theorem dX7_check_62 : decode cX7_check 62 = .ok (.goto 4, 3) := by decide +kernel
theorem dX7_check_65 : decode cX7_check 65 = .ok (.iconst 1, 1) := by decide +kernel
theorem dX7_check_66 : decode cX7_check 66 = .ok (.if_icmp .le 9, 3) := by decide +kernel
theorem dX7_check_69 : decode cX7_check 69 = .ok (.aload_n 0, 1) := by decide +kernel
theorem dX7_check_70 : decode cX7_check 70 = .ok (.iconst 2, 1) := by decide +kernel
theorem dX7_check_71 : decode cX7_check 71 = .ok (.invokevirtual 80, 3) := by decide +kernel
theorem dX7_check_74 : decode cX7_check 74 = .ok (.ireturn, 1) := by decide +kernel
theorem dX7_check_75 : decode cX7_check 75 = .ok (.aload_n 0, 1) := by decide +kernel
theorem dX7_check_76 : decode cX7_check 76 = .ok (.iconst 0, 1) := by decide +kernel
theorem dX7_check_77 : decode cX7_check 77 = .ok (.putfield 60, 3) := by decide +kernel
theorem dX7_check_80 : decode cX7_check 80 = .ok (.aload_n 0, 1) := by decide +kernel
theorem dX7_check_81 : decode cX7_check 81 = .ok (.getfield 23, 3) := by decide +kernel
theorem dX7_check_84 : decode cX7_check 84 = .ok (.iload_n 1, 1) := by decide +kernel
theorem dX7_check_85 : decode cX7_check 85 = .ok (.iconst 4, 1) := by decide +kernel
theorem dX7_check_86 : decode cX7_check 86 = .ok (.if_icmp .ge 11, 3) := by decide +kernel
theorem dX7_check_89 : decode cX7_check 89 = .ok (.iconst 4, 1) := by decide +kernel
theorem dX7_check_90 : decode cX7_check 90 = .ok (.iload_n 2, 1) := by decide +kernel
theorem dX7_check_91 : decode cX7_check 91 = .ok (.imul, 1) := by decide +kernel
theorem dX7_check_92 : decode cX7_check 92 = .ok (.iload_n 1, 1) := by decide +kernel
theorem dX7_check_93 : decode cX7_check 93 = .ok (.iadd, 1) := by decide +kernel
theorem dX7_check_94 : decode cX7_check 94 = .ok (.goto 13, 3) := by decide +kernel
theorem dX7_check_97 : decode cX7_check 97 = .ok (.bipush 80, 2) := by decide +kernel
theorem dX7_check_99 : decode cX7_check 99 = .ok (.iconst 2, 1) := by decide +kernel
theorem dX7_check_100 : decode cX7_check 100 = .ok (.iload_n 2, 1) := by decide +kernel
theorem dX7_check_101 : decode cX7_check 101 = .ok (.imul, 1) := by decide +kernel
theorem dX7_check_102 : decode cX7_check 102 = .ok (.iadd, 1) := by decide +kernel
theorem dX7_check_103 : decode cX7_check 103 = .ok (.iload_n 1, 1) := by decide +kernel
theorem dX7_check_104 : decode cX7_check 104 = .ok (.iadd, 1) := by decide +kernel
theorem dX7_check_105 : decode cX7_check 105 = .ok (.iconst 4, 1) := by decide +kernel
theorem dX7_check_106 : decode cX7_check 106 = .ok (.isub, 1) := by decide +kernel
theorem dX7_check_107 : decode cX7_check 107 = .ok (.iload_n 3, 1) := by decide +kernel
theorem dX7_check_108 : decode cX7_check 108 = .ok (.iastore, 1) := by decide +kernel
theorem dX7_check_109 : decode cX7_check 109 = .ok (.iconst 0, 1) := by decide +kernel
theorem dX7_check_110 : decode cX7_check 110 = .ok (.istore 4, 2) := by decide +kernel
theorem dX7_check_112 : decode cX7_check 112 = .ok (.iconst 1, 1) := by decide +kernel
theorem dX7_check_113 : decode cX7_check 113 = .ok (.istore 5, 2) := by decide +kernel
theorem dX7_check_115 : decode cX7_check 115 = .ok (.iload 5, 2) := by decide +kernel
theorem dX7_check_117 : decode cX7_check 117 = .ok (.aload_n 0, 1) := by decide +kernel
theorem dX7_check_118 : decode cX7_check 118 = .ok (.getfield 63, 3) := by decide +kernel
theorem dX7_check_121 : decode cX7_check 121 = .ok (.if_icmp .gt 50, 3) := by decide +kernel
theorem dX7_check_124 : decode cX7_check 124 = .ok (.iload_n 1, 1) := by decide +kernel
theorem dX7_check_125 : decode cX7_check 125 = .ok (.ifCond .ne 46, 3) := by decide +kernel
theorem dX7_check_128 : decode cX7_check 128 = .ok (.iload_n 3, 1) := by decide +kernel
theorem dX7_check_129 : decode cX7_check 129 = .ok (.ifCond .ne 42, 3) := by decide +kernel
theorem dX7_check_132 : decode cX7_check 132 = .ok (.aload_n 0, 1) := by decide +kernel
theorem dX7_check_133 : decode cX7_check 133 = .ok (.getfield 32, 3) := by decide +kernel
theorem dX7_check_136 : decode cX7_check 136 = .ok (.iload 5, 2) := by decide +kernel
theorem dX7_check_138 : decode cX7_check 138 = .ok (.iaload, 1) := by decide +kernel
theorem dX7_check_139 : decode cX7_check 139 = .ok (.iload_n 2, 1) := by decide +kernel
theorem dX7_check_140 : decode cX7_check 140 = .ok (.if_icmp .ne 25, 3) := by decide +kernel
theorem dX7_check_143 : decode cX7_check 143 = .ok (.aload_n 0, 1) := by decide +kernel
theorem dX7_check_144 : decode cX7_check 144 = .ok (.getfield 35, 3) := by decide +kernel
theorem dX7_check_147 : decode cX7_check 147 = .ok (.iload 5, 2) := by decide +kernel
theorem dX7_check_149 : decode cX7_check 149 = .ok (.iaload, 1) := by decide +kernel
theorem dX7_check_150 : decode cX7_check 150 = .ok (.iconst 1, 1) := by decide +kernel
theorem dX7_check_151 : decode cX7_check 151 = .ok (.if_icmp .ne 14, 3) := by decide +kernel
theorem dX7_check_154 : decode cX7_check 154 = .ok (.aload_n 0, 1) := by decide +kernel
theorem dX7_check_155 : decode cX7_check 155 = .ok (.getfield 35, 3) := by decide +kernel
theorem dX7_check_158 : decode cX7_check 158 = .ok (.iload 5, 2) := by decide +kernel
theorem dX7_check_160 : decode cX7_check 160 = .ok (.iconst 3, 1) := by decide +kernel
theorem dX7_check_161 : decode cX7_check 161 = .ok (.iastore, 1) := by decide +kernel
theorem dX7_check_162 : decode cX7_check 162 = .ok (.iinc 4 1, 3) := by decide +kernel
theorem dX7_check_165 : decode cX7_check 165 = .ok (.iinc 5 1, 3) := by decide +kernel
theorem dX7_check_168 : decode cX7_check 168 = .ok (.goto (-53), 3) := by decide +kernel
theorem dX7_check_171 : decode cX7_check 171 = .ok (.iload 4, 2) := by decide +kernel
theorem dX7_check_173 : decode cX7_check 173 = .ok (.ireturn, 1) := by decide +kernel
theorem dX7_checkLetter_0 : decode cX7_checkLetter 0 = .ok (.iconst 0, 1) := by decide +kernel
theorem dX7_checkLetter_1 : decode cX7_checkLetter 1 = .ok (.istore_n 1, 1) := by decide +kernel
theorem dX7_checkLetter_2 : decode cX7_checkLetter 2 = .ok (.iconst 0, 1) := by decide +kernel
theorem dX7_checkLetter_3 : decode cX7_checkLetter 3 = .ok (.istore_n 2, 1) := by decide +kernel
theorem dX7_checkLetter_4 : decode cX7_checkLetter 4 = .ok (.iload_n 2, 1) := by decide +kernel
theorem dX7_checkLetter_5 : decode cX7_checkLetter 5 = .ok (.bipush 10, 2) := by decide +kernel
theorem dX7_checkLetter_7 : decode cX7_checkLetter 7 = .ok (.if_icmp .ge 49, 3) := by decide +kernel
theorem dX7_checkLetter_10 : decode cX7_checkLetter 10 = .ok (.iload_n 1, 1) := by decide +kernel
theorem dX7_checkLetter_11 : decode cX7_checkLetter 11 = .ok (.iload_n 2, 1) := by decide +kernel
theorem dX7_checkLetter_12 : decode cX7_checkLetter 12 = .ok (.iconst 1, 1) := by decide +kernel
theorem dX7_checkLetter_13 : decode cX7_checkLetter 13 = .ok (.iadd, 1) := by decide +kernel
theorem dX7_checkLetter_14 : decode cX7_checkLetter 14 = .ok (.aload_n 0, 1) := by decide +kernel
theorem dX7_checkLetter_15 : decode cX7_checkLetter 15 = .ok (.getfield 7, 3) := by decide +kernel
theorem dX7_checkLetter_18 : decode cX7_checkLetter 18 = .ok (.iload_n 2, 1) := by decide +kernel
theorem dX7_checkLetter_19 : decode cX7_checkLetter 19 = .ok (.iaload, 1) := by decide +kernel
theorem dX7_checkLetter_20 : decode cX7_checkLetter 20 = .ok (.invokestatic 73, 3) := by decide +kernel
theorem dX7_checkLetter_23 : decode cX7_checkLetter 23 = .ok (.ifCond .eq 15, 3) := by decide +kernel
theorem dX7_checkLetter_26 : decode cX7_checkLetter 26 = .ok (.aload_n 0, 1) := by decide +kernel
theorem dX7_checkLetter_27 : decode cX7_checkLetter 27 = .ok (.getfield 7, 3) := by decide +kernel
theorem dX7_checkLetter_30 : decode cX7_checkLetter 30 = .ok (.iload_n 2, 1) := by decide +kernel
theorem dX7_checkLetter_31 : decode cX7_checkLetter 31 = .ok (.iaload, 1) := by decide +kernel
theorem dX7_checkLetter_32 : decode cX7_checkLetter 32 = .ok (.bipush 64, 2) := by decide +kernel
theorem dX7_checkLetter_34 : decode cX7_checkLetter 34 = .ok (.isub, 1) := by decide +kernel
theorem dX7_checkLetter_35 : decode cX7_checkLetter 35 = .ok (.goto 12, 3) := by decide +kernel
theorem dX7_checkLetter_38 : decode cX7_checkLetter 38 = .ok (.aload_n 0, 1) := by decide +kernel
theorem dX7_checkLetter_39 : decode cX7_checkLetter 39 = .ok (.getfield 7, 3) := by decide +kernel
theorem dX7_checkLetter_42 : decode cX7_checkLetter 42 = .ok (.iload_n 2, 1) := by decide +kernel
theorem dX7_checkLetter_43 : decode cX7_checkLetter 43 = .ok (.iaload, 1) := by decide +kernel
theorem dX7_checkLetter_44 : decode cX7_checkLetter 44 = .ok (.bipush 48, 2) := by decide +kernel
theorem dX7_checkLetter_46 : decode cX7_checkLetter 46 = .ok (.isub, 1) := by decide +kernel
theorem dX7_checkLetter_47 : decode cX7_checkLetter 47 = .ok (.imul, 1) := by decide +kernel
theorem dX7_checkLetter_48 : decode cX7_checkLetter 48 = .ok (.iadd, 1) := by decide +kernel
theorem dX7_checkLetter_49 : decode cX7_checkLetter 49 = .ok (.istore_n 1, 1) := by decide +kernel
theorem dX7_checkLetter_50 : decode cX7_checkLetter 50 = .ok (.iinc 2 1, 3) := by decide +kernel
theorem dX7_checkLetter_53 : decode cX7_checkLetter 53 = .ok (.goto (-49), 3) := by decide +kernel
theorem dX7_checkLetter_56 : decode cX7_checkLetter 56 = .ok (.bipush 65, 2) := by decide +kernel
theorem dX7_checkLetter_58 : decode cX7_checkLetter 58 = .ok (.iload_n 1, 1) := by decide +kernel
theorem dX7_checkLetter_59 : decode cX7_checkLetter 59 = .ok (.bipush 26, 2) := by decide +kernel
theorem dX7_checkLetter_61 : decode cX7_checkLetter 61 = .ok (.irem, 1) := by decide +kernel
theorem dX7_checkLetter_62 : decode cX7_checkLetter 62 = .ok (.iadd, 1) := by decide +kernel
theorem dX7_checkLetter_63 : decode cX7_checkLetter 63 = .ok (.ireturn, 1) := by decide +kernel
theorem dX7_clear_0 : decode cX7_clear 0 = .ok (.aload_n 0, 1) := by decide +kernel
theorem dX7_clear_1 : decode cX7_clear 1 = .ok (.iconst 0, 1) := by decide +kernel
theorem dX7_clear_2 : decode cX7_clear 2 = .ok (.putfield 60, 3) := by decide +kernel
theorem dX7_clear_5 : decode cX7_clear 5 = .ok (.aload_n 0, 1) := by decide +kernel
theorem dX7_clear_6 : decode cX7_clear 6 = .ok (.getfield 70, 3) := by decide +kernel
theorem dX7_clear_9 : decode cX7_clear 9 = .ok (.istore_n 1, 1) := by decide +kernel
theorem dX7_clear_10 : decode cX7_clear 10 = .ok (.aload_n 0, 1) := by decide +kernel
theorem dX7_clear_11 : decode cX7_clear 11 = .ok (.iconst 0, 1) := by decide +kernel
theorem dX7_clear_12 : decode cX7_clear 12 = .ok (.putfield 70, 3) := by decide +kernel
theorem dX7_clear_15 : decode cX7_clear 15 = .ok (.iload_n 1, 1) := by decide +kernel
theorem dX7_clear_16 : decode cX7_clear 16 = .ok (.ireturn, 1) := by decide +kernel
theorem dX7_comes_0 : decode cX7_comes 0 = .ok (.aload_n 0, 1) := by decide +kernel
theorem dX7_comes_1 : decode cX7_comes 1 = .ok (.getfield 38, 3) := by decide +kernel
theorem dX7_comes_4 : decode cX7_comes 4 = .ok (.iload_n 1, 1) := by decide +kernel
theorem dX7_comes_5 : decode cX7_comes 5 = .ok (.iload_n 2, 1) := by decide +kernel
theorem dX7_comes_6 : decode cX7_comes 6 = .ok (.iastore, 1) := by decide +kernel
theorem dX7_comes_7 : decode cX7_comes 7 = .ok (.aload_n 0, 1) := by decide +kernel
theorem dX7_comes_8 : decode cX7_comes 8 = .ok (.dup, 1) := by decide +kernel
theorem dX7_comes_9 : decode cX7_comes 9 = .ok (.getfield 111, 3) := by decide +kernel
theorem dX7_comes_12 : decode cX7_comes 12 = .ok (.iconst 1, 1) := by decide +kernel
theorem dX7_comes_13 : decode cX7_comes 13 = .ok (.iadd, 1) := by decide +kernel
theorem dX7_comes_14 : decode cX7_comes 14 = .ok (.putfield 111, 3) := by decide +kernel
theorem dX7_comes_17 : decode cX7_comes 17 = .ok (.aload_n 0, 1) := by decide +kernel
theorem dX7_comes_18 : decode cX7_comes 18 = .ok (.getfield 41, 3) := by decide +kernel
theorem dX7_comes_21 : decode cX7_comes 21 = .ok (.iload_n 1, 1) := by decide +kernel
theorem dX7_comes_22 : decode cX7_comes 22 = .ok (.aload_n 0, 1) := by decide +kernel
theorem dX7_comes_23 : decode cX7_comes 23 = .ok (.getfield 111, 3) := by decide +kernel
theorem dX7_comes_26 : decode cX7_comes 26 = .ok (.iastore, 1) := by decide +kernel
theorem dX7_comes_27 : decode cX7_comes 27 = .ok (.return_, 1) := by decide +kernel
theorem dX7_count_0 : decode cX7_count 0 = .ok (.aload_n 0, 1) := by decide +kernel
theorem dX7_count_1 : decode cX7_count 1 = .ok (.iconst 0, 1) := by decide +kernel
theorem dX7_count_2 : decode cX7_count 2 = .ok (.putfield 60, 3) := by decide +kernel
theorem dX7_count_5 : decode cX7_count 5 = .ok (.iload_n 1, 1) := by decide +kernel
theorem dX7_count_6 : decode cX7_count 6 = .ok (.bipush 100, 2) := by decide +kernel
theorem dX7_count_8 : decode cX7_count 8 = .ok (.if_icmp .lt 27, 3) := by decide +kernel
theorem dX7_count_11 : decode cX7_count 11 = .ok (.aload_n 0, 1) := by decide +kernel
theorem dX7_count_12 : decode cX7_count 12 = .ok (.iload_n 1, 1) := by decide +kernel
theorem dX7_count_13 : decode cX7_count 13 = .ok (.bipush 100, 2) := by decide +kernel
theorem dX7_count_15 : decode cX7_count 15 = .ok (.isub, 1) := by decide +kernel
theorem dX7_count_16 : decode cX7_count 16 = .ok (.invokevirtual 98, 3) := by decide +kernel
theorem dX7_count_19 : decode cX7_count 19 = .ok (.ifCond .eq 14, 3) := by decide +kernel
theorem dX7_count_22 : decode cX7_count 22 = .ok (.aload_n 0, 1) := by decide +kernel
theorem dX7_count_23 : decode cX7_count 23 = .ok (.iload_n 1, 1) := by decide +kernel
theorem dX7_count_24 : decode cX7_count 24 = .ok (.bipush 100, 2) := by decide +kernel
theorem dX7_count_26 : decode cX7_count 26 = .ok (.isub, 1) := by decide +kernel
theorem dX7_count_27 : decode cX7_count 27 = .ok (.invokevirtual 95, 3) := by decide +kernel
theorem dX7_count_30 : decode cX7_count 30 = .ok (.goto 4, 3) := by decide +kernel
theorem dX7_count_33 : decode cX7_count 33 = .ok (.iconst (-1), 1) := by decide +kernel
theorem dX7_count_34 : decode cX7_count 34 = .ok (.ireturn, 1) := by decide +kernel
theorem dX7_count_35 : decode cX7_count 35 = .ok (.iload_n 1, 1) := by decide +kernel
theorem dX7_count_36 : decode cX7_count 36 = .ok (.tableswitch 99 0 9 #[56, 61, 66, 71, 76, 76, 76, 84, 89, 94], 56) := by decide +kernel
theorem dX7_count_92 : decode cX7_count 92 = .ok (.aload_n 0, 1) := by decide +kernel
theorem dX7_count_93 : decode cX7_count 93 = .ok (.getfield 66, 3) := by decide +kernel
theorem dX7_count_96 : decode cX7_count 96 = .ok (.ireturn, 1) := by decide +kernel
theorem dX7_count_97 : decode cX7_count 97 = .ok (.aload_n 0, 1) := by decide +kernel
theorem dX7_count_98 : decode cX7_count 98 = .ok (.getfield 63, 3) := by decide +kernel
theorem dX7_count_101 : decode cX7_count 101 = .ok (.ireturn, 1) := by decide +kernel
theorem dX7_count_102 : decode cX7_count 102 = .ok (.aload_n 0, 1) := by decide +kernel
theorem dX7_count_103 : decode cX7_count 103 = .ok (.getfield 88, 3) := by decide +kernel
theorem dX7_count_106 : decode cX7_count 106 = .ok (.ireturn, 1) := by decide +kernel
theorem dX7_count_107 : decode cX7_count 107 = .ok (.aload_n 0, 1) := by decide +kernel
theorem dX7_count_108 : decode cX7_count 108 = .ok (.getfield 70, 3) := by decide +kernel
theorem dX7_count_111 : decode cX7_count 111 = .ok (.ireturn, 1) := by decide +kernel
theorem dX7_count_112 : decode cX7_count 112 = .ok (.aload_n 0, 1) := by decide +kernel
theorem dX7_count_113 : decode cX7_count 113 = .ok (.iload_n 1, 1) := by decide +kernel
theorem dX7_count_114 : decode cX7_count 114 = .ok (.iconst 4, 1) := by decide +kernel
theorem dX7_count_115 : decode cX7_count 115 = .ok (.isub, 1) := by decide +kernel
theorem dX7_count_116 : decode cX7_count 116 = .ok (.invokevirtual 123, 3) := by decide +kernel
theorem dX7_count_119 : decode cX7_count 119 = .ok (.ireturn, 1) := by decide +kernel
theorem dX7_count_120 : decode cX7_count 120 = .ok (.aload_n 0, 1) := by decide +kernel
theorem dX7_count_121 : decode cX7_count 121 = .ok (.getfield 136, 3) := by decide +kernel
theorem dX7_count_124 : decode cX7_count 124 = .ok (.ireturn, 1) := by decide +kernel
theorem dX7_count_125 : decode cX7_count 125 = .ok (.aload_n 0, 1) := by decide +kernel
theorem dX7_count_126 : decode cX7_count 126 = .ok (.getfield 139, 3) := by decide +kernel
theorem dX7_count_129 : decode cX7_count 129 = .ok (.ireturn, 1) := by decide +kernel
theorem dX7_count_130 : decode cX7_count 130 = .ok (.aload_n 0, 1) := by decide +kernel
theorem dX7_count_131 : decode cX7_count 131 = .ok (.getfield 142, 3) := by decide +kernel
theorem dX7_count_134 : decode cX7_count 134 = .ok (.ireturn, 1) := by decide +kernel
theorem dX7_count_135 : decode cX7_count 135 = .ok (.iconst (-1), 1) := by decide +kernel
theorem dX7_count_136 : decode cX7_count 136 = .ok (.ireturn, 1) := by decide +kernel
theorem dX7_fails_0 : decode cX7_fails 0 = .ok (.aload_n 0, 1) := by decide +kernel
theorem dX7_fails_1 : decode cX7_fails 1 = .ok (.iload_n 1, 1) := by decide +kernel
theorem dX7_fails_2 : decode cX7_fails 2 = .ok (.putfield 60, 3) := by decide +kernel
theorem dX7_fails_5 : decode cX7_fails 5 = .ok (.iconst 0, 1) := by decide +kernel
theorem dX7_fails_6 : decode cX7_fails 6 = .ok (.ireturn, 1) := by decide +kernel
theorem dX7_full_0 : decode cX7_full 0 = .ok (.iload_n 1, 1) := by decide +kernel
theorem dX7_full_1 : decode cX7_full 1 = .ok (.istore_n 2, 1) := by decide +kernel
theorem dX7_full_2 : decode cX7_full 2 = .ok (.iload_n 2, 1) := by decide +kernel
theorem dX7_full_3 : decode cX7_full 3 = .ok (.aload_n 0, 1) := by decide +kernel
theorem dX7_full_4 : decode cX7_full 4 = .ok (.getfield 54, 3) := by decide +kernel
theorem dX7_full_7 : decode cX7_full 7 = .ok (.if_icmp .ge 21, 3) := by decide +kernel
theorem dX7_full_10 : decode cX7_full 10 = .ok (.aload_n 0, 1) := by decide +kernel
theorem dX7_full_11 : decode cX7_full 11 = .ok (.iload_n 2, 1) := by decide +kernel
theorem dX7_full_12 : decode cX7_full 12 = .ok (.invokevirtual 95, 3) := by decide +kernel
theorem dX7_full_15 : decode cX7_full 15 = .ok (.aload_n 0, 1) := by decide +kernel
theorem dX7_full_16 : decode cX7_full 16 = .ok (.getfield 57, 3) := by decide +kernel
theorem dX7_full_19 : decode cX7_full 19 = .ok (.if_icmp .lt 9, 3) := by decide +kernel
theorem dX7_full_22 : decode cX7_full 22 = .ok (.iinc 2 1, 3) := by decide +kernel
theorem dX7_full_25 : decode cX7_full 25 = .ok (.goto (-23), 3) := by decide +kernel
theorem dX7_full_28 : decode cX7_full 28 = .ok (.iload_n 2, 1) := by decide +kernel
theorem dX7_full_29 : decode cX7_full 29 = .ok (.iload_n 1, 1) := by decide +kernel
theorem dX7_full_30 : decode cX7_full 30 = .ok (.if_icmp .ne 7, 3) := by decide +kernel
theorem dX7_full_33 : decode cX7_full 33 = .ok (.iconst 0, 1) := by decide +kernel
theorem dX7_full_34 : decode cX7_full 34 = .ok (.goto 6, 3) := by decide +kernel
theorem dX7_full_37 : decode cX7_full 37 = .ok (.iconst (-1), 1) := by decide +kernel
theorem dX7_full_38 : decode cX7_full 38 = .ok (.iload_n 2, 1) := by decide +kernel
theorem dX7_full_39 : decode cX7_full 39 = .ok (.isub, 1) := by decide +kernel
theorem dX7_full_40 : decode cX7_full 40 = .ok (.ireturn, 1) := by decide +kernel
theorem dX7_inLane_0 : decode cX7_inLane 0 = .ok (.iconst 0, 1) := by decide +kernel
theorem dX7_inLane_1 : decode cX7_inLane 1 = .ok (.istore_n 2, 1) := by decide +kernel
theorem dX7_inLane_2 : decode cX7_inLane 2 = .ok (.iconst 1, 1) := by decide +kernel
theorem dX7_inLane_3 : decode cX7_inLane 3 = .ok (.istore_n 3, 1) := by decide +kernel
theorem dX7_inLane_4 : decode cX7_inLane 4 = .ok (.iload_n 3, 1) := by decide +kernel
theorem dX7_inLane_5 : decode cX7_inLane 5 = .ok (.aload_n 0, 1) := by decide +kernel
theorem dX7_inLane_6 : decode cX7_inLane 6 = .ok (.getfield 63, 3) := by decide +kernel
