theorem dX7_weigh_41 : decode cX7_weigh 41 = .ok (.putfield 60, 3) := by decide +kernel
theorem dX7_weigh_44 : decode cX7_weigh 44 = .ok (.aload_n 0, 1) := by decide +kernel
theorem dX7_weigh_45 : decode cX7_weigh 45 = .ok (.iload_n 3, 1) := by decide +kernel
theorem dX7_weigh_46 : decode cX7_weigh 46 = .ok (.putfield 66, 3) := by decide +kernel
theorem dX7_weigh_49 : decode cX7_weigh 49 = .ok (.aload_n 0, 1) := by decide +kernel
theorem dX7_weigh_50 : decode cX7_weigh 50 = .ok (.iload_n 1, 1) := by decide +kernel
theorem dX7_weigh_51 : decode cX7_weigh 51 = .ok (.iconst 0, 1) := by decide +kernel
theorem dX7_weigh_52 : decode cX7_weigh 52 = .ok (.invokevirtual 131, 3) := by decide +kernel
theorem dX7_weigh_55 : decode cX7_weigh 55 = .ok (.istore 4, 2) := by decide +kernel
theorem dX7_weigh_57 : decode cX7_weigh 57 = .ok (.iload 4, 2) := by decide +kernel
theorem dX7_weigh_59 : decode cX7_weigh 59 = .ok (.ifCond .ge 5, 3) := by decide +kernel
theorem dX7_weigh_62 : decode cX7_weigh 62 = .ok (.iconst 0, 1) := by decide +kernel
theorem dX7_weigh_63 : decode cX7_weigh 63 = .ok (.ireturn, 1) := by decide +kernel
theorem dX7_weigh_64 : decode cX7_weigh 64 = .ok (.aload_n 0, 1) := by decide +kernel
theorem dX7_weigh_65 : decode cX7_weigh 65 = .ok (.getfield 16, 3) := by decide +kernel
theorem dX7_weigh_68 : decode cX7_weigh 68 = .ok (.aload_n 0, 1) := by decide +kernel
theorem dX7_weigh_69 : decode cX7_weigh 69 = .ok (.getfield 32, 3) := by decide +kernel
theorem dX7_weigh_72 : decode cX7_weigh 72 = .ok (.iload 4, 2) := by decide +kernel
theorem dX7_weigh_74 : decode cX7_weigh 74 = .ok (.iaload, 1) := by decide +kernel
theorem dX7_weigh_75 : decode cX7_weigh 75 = .ok (.iaload, 1) := by decide +kernel
theorem dX7_weigh_76 : decode cX7_weigh 76 = .ok (.i2l, 1) := by decide +kernel
theorem dX7_weigh_77 : decode cX7_weigh 77 = .ok (.lstore 5, 2) := by decide +kernel
theorem dX7_weigh_79 : decode cX7_weigh 79 = .ok (.iload_n 2, 1) := by decide +kernel
theorem dX7_weigh_80 : decode cX7_weigh 80 = .ok (.i2l, 1) := by decide +kernel
theorem dX7_weigh_81 : decode cX7_weigh 81 = .ok (.lload 5, 2) := by decide +kernel
theorem dX7_weigh_83 : decode cX7_weigh 83 = .ok (.lcmp, 1) := by decide +kernel
theorem dX7_weigh_84 : decode cX7_weigh 84 = .ok (.ifCond .le 11, 3) := by decide +kernel
theorem dX7_weigh_87 : decode cX7_weigh 87 = .ok (.iload_n 2, 1) := by decide +kernel
theorem dX7_weigh_88 : decode cX7_weigh 88 = .ok (.i2l, 1) := by decide +kernel
theorem dX7_weigh_89 : decode cX7_weigh 89 = .ok (.lload 5, 2) := by decide +kernel
theorem dX7_weigh_91 : decode cX7_weigh 91 = .ok (.lsub, 1) := by decide +kernel
theorem dX7_weigh_92 : decode cX7_weigh 92 = .ok (.goto 8, 3) := by decide +kernel
theorem dX7_weigh_95 : decode cX7_weigh 95 = .ok (.lload 5, 2) := by decide +kernel
theorem dX7_weigh_97 : decode cX7_weigh 97 = .ok (.iload_n 2, 1) := by decide +kernel
theorem dX7_weigh_98 : decode cX7_weigh 98 = .ok (.i2l, 1) := by decide +kernel
theorem dX7_weigh_99 : decode cX7_weigh 99 = .ok (.lsub, 1) := by decide +kernel
theorem dX7_weigh_100 : decode cX7_weigh 100 = .ok (.lstore 7, 2) := by decide +kernel
theorem dX7_weigh_102 : decode cX7_weigh 102 = .ok (.iload_n 1, 1) := by decide +kernel
theorem dX7_weigh_103 : decode cX7_weigh 103 = .ok (.iconst 2, 1) := by decide +kernel
theorem dX7_weigh_104 : decode cX7_weigh 104 = .ok (.if_icmp .ge 32, 3) := by decide +kernel
theorem dX7_weigh_107 : decode cX7_weigh 107 = .ok (.lload 7, 2) := by decide +kernel
theorem dX7_weigh_109 : decode cX7_weigh 109 = .ok (.ldc2_w 134, 3) := by decide +kernel
theorem dX7_weigh_112 : decode cX7_weigh 112 = .ok (.lmul, 1) := by decide +kernel
theorem dX7_weigh_113 : decode cX7_weigh 113 = .ok (.lload 5, 2) := by decide +kernel
theorem dX7_weigh_115 : decode cX7_weigh 115 = .ok (.aload_n 0, 1) := by decide +kernel
theorem dX7_weigh_116 : decode cX7_weigh 116 = .ok (.getfield 50, 3) := by decide +kernel
theorem dX7_weigh_119 : decode cX7_weigh 119 = .ok (.i2l, 1) := by decide +kernel
theorem dX7_weigh_120 : decode cX7_weigh 120 = .ok (.lmul, 1) := by decide +kernel
theorem dX7_weigh_121 : decode cX7_weigh 121 = .ok (.lcmp, 1) := by decide +kernel
theorem dX7_weigh_122 : decode cX7_weigh 122 = .ok (.ifCond .le 14, 3) := by decide +kernel
theorem dX7_weigh_125 : decode cX7_weigh 125 = .ok (.aload_n 0, 1) := by decide +kernel
theorem dX7_weigh_126 : decode cX7_weigh 126 = .ok (.iload 4, 2) := by decide +kernel
theorem dX7_weigh_128 : decode cX7_weigh 128 = .ok (.iconst 2, 1) := by decide +kernel
theorem dX7_weigh_129 : decode cX7_weigh 129 = .ok (.invokevirtual 126, 3) := by decide +kernel
theorem dX7_weigh_132 : decode cX7_weigh 132 = .ok (.iload 4, 2) := by decide +kernel
theorem dX7_weigh_134 : decode cX7_weigh 134 = .ok (.ineg, 1) := by decide +kernel
theorem dX7_weigh_135 : decode cX7_weigh 135 = .ok (.ireturn, 1) := by decide +kernel
theorem dX7_weigh_136 : decode cX7_weigh 136 = .ok (.aload_n 0, 1) := by decide +kernel
theorem dX7_weigh_137 : decode cX7_weigh 137 = .ok (.getfield 35, 3) := by decide +kernel
theorem dX7_weigh_140 : decode cX7_weigh 140 = .ok (.iload 4, 2) := by decide +kernel
theorem dX7_weigh_142 : decode cX7_weigh 142 = .ok (.iconst 2, 1) := by decide +kernel
theorem dX7_weigh_143 : decode cX7_weigh 143 = .ok (.iastore, 1) := by decide +kernel
theorem dX7_weigh_144 : decode cX7_weigh 144 = .ok (.aload_n 0, 1) := by decide +kernel
theorem dX7_weigh_145 : decode cX7_weigh 145 = .ok (.getfield 47, 3) := by decide +kernel
theorem dX7_weigh_148 : decode cX7_weigh 148 = .ok (.iload 4, 2) := by decide +kernel
theorem dX7_weigh_150 : decode cX7_weigh 150 = .ok (.aload_n 0, 1) := by decide +kernel
theorem dX7_weigh_151 : decode cX7_weigh 151 = .ok (.getfield 66, 3) := by decide +kernel
theorem dX7_weigh_154 : decode cX7_weigh 154 = .ok (.aload_n 0, 1) := by decide +kernel
theorem dX7_weigh_155 : decode cX7_weigh 155 = .ok (.getfield 44, 3) := by decide +kernel
theorem dX7_weigh_158 : decode cX7_weigh 158 = .ok (.iload 4, 2) := by decide +kernel
theorem dX7_weigh_160 : decode cX7_weigh 160 = .ok (.iaload, 1) := by decide +kernel
theorem dX7_weigh_161 : decode cX7_weigh 161 = .ok (.isub, 1) := by decide +kernel
theorem dX7_weigh_162 : decode cX7_weigh 162 = .ok (.iastore, 1) := by decide +kernel
theorem dX7_weigh_163 : decode cX7_weigh 163 = .ok (.aload_n 0, 1) := by decide +kernel
theorem dX7_weigh_164 : decode cX7_weigh 164 = .ok (.aload_n 0, 1) := by decide +kernel
theorem dX7_weigh_165 : decode cX7_weigh 165 = .ok (.getfield 47, 3) := by decide +kernel
theorem dX7_weigh_168 : decode cX7_weigh 168 = .ok (.iload 4, 2) := by decide +kernel
theorem dX7_weigh_170 : decode cX7_weigh 170 = .ok (.iaload, 1) := by decide +kernel
theorem dX7_weigh_171 : decode cX7_weigh 171 = .ok (.aload_n 0, 1) := by decide +kernel
theorem dX7_weigh_172 : decode cX7_weigh 172 = .ok (.getfield 136, 3) := by decide +kernel
theorem dX7_weigh_175 : decode cX7_weigh 175 = .ok (.if_icmp .le 13, 3) := by decide +kernel
theorem dX7_weigh_178 : decode cX7_weigh 178 = .ok (.aload_n 0, 1) := by decide +kernel
theorem dX7_weigh_179 : decode cX7_weigh 179 = .ok (.getfield 47, 3) := by decide +kernel
theorem dX7_weigh_182 : decode cX7_weigh 182 = .ok (.iload 4, 2) := by decide +kernel
theorem dX7_weigh_184 : decode cX7_weigh 184 = .ok (.iaload, 1) := by decide +kernel
theorem dX7_weigh_185 : decode cX7_weigh 185 = .ok (.goto 7, 3) := by decide +kernel
theorem dX7_weigh_188 : decode cX7_weigh 188 = .ok (.aload_n 0, 1) := by decide +kernel
theorem dX7_weigh_189 : decode cX7_weigh 189 = .ok (.getfield 136, 3) := by decide +kernel
theorem dX7_weigh_192 : decode cX7_weigh 192 = .ok (.putfield 136, 3) := by decide +kernel
theorem dX7_weigh_195 : decode cX7_weigh 195 = .ok (.aload_n 0, 1) := by decide +kernel
theorem dX7_weigh_196 : decode cX7_weigh 196 = .ok (.dup, 1) := by decide +kernel
theorem dX7_weigh_197 : decode cX7_weigh 197 = .ok (.getfield 139, 3) := by decide +kernel
theorem dX7_weigh_200 : decode cX7_weigh 200 = .ok (.aload_n 0, 1) := by decide +kernel
theorem dX7_weigh_201 : decode cX7_weigh 201 = .ok (.getfield 47, 3) := by decide +kernel
theorem dX7_weigh_204 : decode cX7_weigh 204 = .ok (.iload 4, 2) := by decide +kernel
theorem dX7_weigh_206 : decode cX7_weigh 206 = .ok (.iaload, 1) := by decide +kernel
theorem dX7_weigh_207 : decode cX7_weigh 207 = .ok (.iadd, 1) := by decide +kernel
theorem dX7_weigh_208 : decode cX7_weigh 208 = .ok (.putfield 139, 3) := by decide +kernel
theorem dX7_weigh_211 : decode cX7_weigh 211 = .ok (.aload_n 0, 1) := by decide +kernel
theorem dX7_weigh_212 : decode cX7_weigh 212 = .ok (.dup, 1) := by decide +kernel
theorem dX7_weigh_213 : decode cX7_weigh 213 = .ok (.getfield 142, 3) := by decide +kernel
theorem dX7_weigh_216 : decode cX7_weigh 216 = .ok (.iconst 1, 1) := by decide +kernel
theorem dX7_weigh_217 : decode cX7_weigh 217 = .ok (.iadd, 1) := by decide +kernel
theorem dX7_weigh_218 : decode cX7_weigh 218 = .ok (.putfield 142, 3) := by decide +kernel
theorem dX7_weigh_221 : decode cX7_weigh 221 = .ok (.iload 4, 2) := by decide +kernel
theorem dX7_weigh_223 : decode cX7_weigh 223 = .ok (.ireturn, 1) := by decide +kernel

