theorem d_MO_best_42 : decode b_MO_best 42 = .ok (.istore_n 3, 1) := by decide +kernel
theorem d_MO_best_43 : decode b_MO_best 43 = .ok (.iconst 0, 1) := by decide +kernel
theorem d_MO_best_44 : decode b_MO_best 44 = .ok (.istore 4, 2) := by decide +kernel
theorem d_MO_best_46 : decode b_MO_best 46 = .ok (.iload 4, 2) := by decide +kernel
theorem d_MO_best_48 : decode b_MO_best 48 = .ok (.aload_n 0, 1) := by decide +kernel
theorem d_MO_best_49 : decode b_MO_best 49 = .ok (.iload_n 1, 1) := by decide +kernel
theorem d_MO_best_50 : decode b_MO_best 50 = .ok (.invokevirtual 210, 3) := by decide +kernel
theorem d_MO_best_53 : decode b_MO_best 53 = .ok (.if_icmp .gt 160, 3) := by decide +kernel
theorem d_MO_best_56 : decode b_MO_best 56 = .ok (.aload_n 0, 1) := by decide +kernel
theorem d_MO_best_57 : decode b_MO_best 57 = .ok (.iload 4, 2) := by decide +kernel
theorem d_MO_best_59 : decode b_MO_best 59 = .ok (.iconst 0, 1) := by decide +kernel
theorem d_MO_best_60 : decode b_MO_best 60 = .ok (.invokevirtual 213, 3) := by decide +kernel
theorem d_MO_best_63 : decode b_MO_best 63 = .ok (.iconst 1, 1) := by decide +kernel
theorem d_MO_best_64 : decode b_MO_best 64 = .ok (.istore 5, 2) := by decide +kernel
theorem d_MO_best_66 : decode b_MO_best 66 = .ok (.iload 5, 2) := by decide +kernel
theorem d_MO_best_68 : decode b_MO_best 68 = .ok (.ifCond .eq 139, 3) := by decide +kernel
theorem d_MO_best_71 : decode b_MO_best 71 = .ok (.aload_n 0, 1) := by decide +kernel
theorem d_MO_best_72 : decode b_MO_best 72 = .ok (.aload_n 0, 1) := by decide +kernel
theorem d_MO_best_73 : decode b_MO_best 73 = .ok (.getfield 78, 3) := by decide +kernel
theorem d_MO_best_76 : decode b_MO_best 76 = .ok (.iconst 1, 1) := by decide +kernel
theorem d_MO_best_77 : decode b_MO_best 77 = .ok (.invokevirtual 198, 3) := by decide +kernel
theorem d_MO_best_80 : decode b_MO_best 80 = .ok (.ifCond .eq 104, 3) := by decide +kernel
theorem d_MO_best_83 : decode b_MO_best 83 = .ok (.iconst 0, 1) := by decide +kernel
theorem d_MO_best_84 : decode b_MO_best 84 = .ok (.istore 6, 2) := by decide +kernel
theorem d_MO_best_86 : decode b_MO_best 86 = .ok (.iconst 0, 1) := by decide +kernel
theorem d_MO_best_87 : decode b_MO_best 87 = .ok (.istore 7, 2) := by decide +kernel
theorem d_MO_best_89 : decode b_MO_best 89 = .ok (.iload 7, 2) := by decide +kernel
theorem d_MO_best_91 : decode b_MO_best 91 = .ok (.aload_n 0, 1) := by decide +kernel
theorem d_MO_best_92 : decode b_MO_best 92 = .ok (.getfield 143, 3) := by decide +kernel
theorem d_MO_best_95 : decode b_MO_best 95 = .ok (.if_icmp .ge 29, 3) := by decide +kernel
theorem d_MO_best_98 : decode b_MO_best 98 = .ok (.iload 6, 2) := by decide +kernel
theorem d_MO_best_100 : decode b_MO_best 100 = .ok (.aload_n 0, 1) := by decide +kernel
theorem d_MO_best_101 : decode b_MO_best 101 = .ok (.getfield 59, 3) := by decide +kernel
theorem d_MO_best_104 : decode b_MO_best 104 = .ok (.iload 7, 2) := by decide +kernel
theorem d_MO_best_106 : decode b_MO_best 106 = .ok (.iaload, 1) := by decide +kernel
theorem d_MO_best_107 : decode b_MO_best 107 = .ok (.aload_n 0, 1) := by decide +kernel
theorem d_MO_best_108 : decode b_MO_best 108 = .ok (.getfield 78, 3) := by decide +kernel
theorem d_MO_best_111 : decode b_MO_best 111 = .ok (.iload 7, 2) := by decide +kernel
theorem d_MO_best_113 : decode b_MO_best 113 = .ok (.iaload, 1) := by decide +kernel
theorem d_MO_best_114 : decode b_MO_best 114 = .ok (.imul, 1) := by decide +kernel
theorem d_MO_best_115 : decode b_MO_best 115 = .ok (.iadd, 1) := by decide +kernel
theorem d_MO_best_116 : decode b_MO_best 116 = .ok (.istore 6, 2) := by decide +kernel
theorem d_MO_best_118 : decode b_MO_best 118 = .ok (.iinc 7 1, 3) := by decide +kernel
theorem d_MO_best_121 : decode b_MO_best 121 = .ok (.goto (-32), 3) := by decide +kernel
theorem d_MO_best_124 : decode b_MO_best 124 = .ok (.iload_n 2, 1) := by decide +kernel
theorem d_MO_best_125 : decode b_MO_best 125 = .ok (.ifCond .eq 22, 3) := by decide +kernel
theorem d_MO_best_128 : decode b_MO_best 128 = .ok (.iload 6, 2) := by decide +kernel
theorem d_MO_best_130 : decode b_MO_best 130 = .ok (.iload_n 3, 1) := by decide +kernel
theorem d_MO_best_131 : decode b_MO_best 131 = .ok (.if_icmp .lt 16, 3) := by decide +kernel
theorem d_MO_best_134 : decode b_MO_best 134 = .ok (.iload 6, 2) := by decide +kernel
theorem d_MO_best_136 : decode b_MO_best 136 = .ok (.iload_n 3, 1) := by decide +kernel
theorem d_MO_best_137 : decode b_MO_best 137 = .ok (.if_icmp .ne 47, 3) := by decide +kernel
theorem d_MO_best_140 : decode b_MO_best 140 = .ok (.aload_n 0, 1) := by decide +kernel
theorem d_MO_best_141 : decode b_MO_best 141 = .ok (.invokevirtual 231, 3) := by decide +kernel
theorem d_MO_best_144 : decode b_MO_best 144 = .ok (.ifCond .eq 40, 3) := by decide +kernel
theorem d_MO_best_147 : decode b_MO_best 147 = .ok (.iconst 0, 1) := by decide +kernel
theorem d_MO_best_148 : decode b_MO_best 148 = .ok (.istore 7, 2) := by decide +kernel
theorem d_MO_best_150 : decode b_MO_best 150 = .ok (.iload 7, 2) := by decide +kernel
theorem d_MO_best_152 : decode b_MO_best 152 = .ok (.aload_n 0, 1) := by decide +kernel
theorem d_MO_best_153 : decode b_MO_best 153 = .ok (.getfield 143, 3) := by decide +kernel
theorem d_MO_best_156 : decode b_MO_best 156 = .ok (.if_icmp .ge 23, 3) := by decide +kernel
theorem d_MO_best_159 : decode b_MO_best 159 = .ok (.aload_n 0, 1) := by decide +kernel
theorem d_MO_best_160 : decode b_MO_best 160 = .ok (.getfield 65, 3) := by decide +kernel
theorem d_MO_best_163 : decode b_MO_best 163 = .ok (.iload 7, 2) := by decide +kernel
theorem d_MO_best_165 : decode b_MO_best 165 = .ok (.aload_n 0, 1) := by decide +kernel
theorem d_MO_best_166 : decode b_MO_best 166 = .ok (.getfield 78, 3) := by decide +kernel
theorem d_MO_best_169 : decode b_MO_best 169 = .ok (.iload 7, 2) := by decide +kernel
theorem d_MO_best_171 : decode b_MO_best 171 = .ok (.iaload, 1) := by decide +kernel
theorem d_MO_best_172 : decode b_MO_best 172 = .ok (.iastore, 1) := by decide +kernel
theorem d_MO_best_173 : decode b_MO_best 173 = .ok (.iinc 7 1, 3) := by decide +kernel
theorem d_MO_best_176 : decode b_MO_best 176 = .ok (.goto (-26), 3) := by decide +kernel
theorem d_MO_best_179 : decode b_MO_best 179 = .ok (.iload 6, 2) := by decide +kernel
theorem d_MO_best_181 : decode b_MO_best 181 = .ok (.istore_n 3, 1) := by decide +kernel
theorem d_MO_best_182 : decode b_MO_best 182 = .ok (.iconst 1, 1) := by decide +kernel
theorem d_MO_best_183 : decode b_MO_best 183 = .ok (.istore_n 2, 1) := by decide +kernel
theorem d_MO_best_184 : decode b_MO_best 184 = .ok (.iload 4, 2) := by decide +kernel
theorem d_MO_best_186 : decode b_MO_best 186 = .ok (.ifCond .le 15, 3) := by decide +kernel
theorem d_MO_best_189 : decode b_MO_best 189 = .ok (.aload_n 0, 1) := by decide +kernel
theorem d_MO_best_190 : decode b_MO_best 190 = .ok (.iconst 0, 1) := by decide +kernel
theorem d_MO_best_191 : decode b_MO_best 191 = .ok (.invokevirtual 223, 3) := by decide +kernel
theorem d_MO_best_194 : decode b_MO_best 194 = .ok (.ifCond .eq 7, 3) := by decide +kernel
theorem d_MO_best_197 : decode b_MO_best 197 = .ok (.iconst 1, 1) := by decide +kernel
theorem d_MO_best_198 : decode b_MO_best 198 = .ok (.goto 4, 3) := by decide +kernel
theorem d_MO_best_201 : decode b_MO_best 201 = .ok (.iconst 0, 1) := by decide +kernel
theorem d_MO_best_202 : decode b_MO_best 202 = .ok (.istore 5, 2) := by decide +kernel
theorem d_MO_best_204 : decode b_MO_best 204 = .ok (.goto (-138), 3) := by decide +kernel
theorem d_MO_best_207 : decode b_MO_best 207 = .ok (.iinc 4 1, 3) := by decide +kernel
theorem d_MO_best_210 : decode b_MO_best 210 = .ok (.goto (-164), 3) := by decide +kernel
theorem d_MO_best_213 : decode b_MO_best 213 = .ok (.aload_n 0, 1) := by decide +kernel
theorem d_MO_best_214 : decode b_MO_best 214 = .ok (.iload_n 2, 1) := by decide +kernel
theorem d_MO_best_215 : decode b_MO_best 215 = .ok (.ifCond .eq 7, 3) := by decide +kernel
theorem d_MO_best_218 : decode b_MO_best 218 = .ok (.iconst 0, 1) := by decide +kernel
theorem d_MO_best_219 : decode b_MO_best 219 = .ok (.goto 4, 3) := by decide +kernel
theorem d_MO_best_222 : decode b_MO_best 222 = .ok (.iconst 3, 1) := by decide +kernel
theorem d_MO_best_223 : decode b_MO_best 223 = .ok (.putfield 81, 3) := by decide +kernel
theorem d_MO_best_226 : decode b_MO_best 226 = .ok (.aload_n 0, 1) := by decide +kernel
theorem d_MO_best_227 : decode b_MO_best 227 = .ok (.aload_n 0, 1) := by decide +kernel
theorem d_MO_best_228 : decode b_MO_best 228 = .ok (.getfield 149, 3) := by decide +kernel
theorem d_MO_best_231 : decode b_MO_best 231 = .ok (.ifCond .ne 7, 3) := by decide +kernel
theorem d_MO_best_234 : decode b_MO_best 234 = .ok (.iload_n 2, 1) := by decide +kernel
theorem d_MO_best_235 : decode b_MO_best 235 = .ok (.ifCond .eq 7, 3) := by decide +kernel
theorem d_MO_best_238 : decode b_MO_best 238 = .ok (.iconst 1, 1) := by decide +kernel
theorem d_MO_best_239 : decode b_MO_best 239 = .ok (.goto 4, 3) := by decide +kernel
theorem d_MO_best_242 : decode b_MO_best 242 = .ok (.iconst 0, 1) := by decide +kernel
theorem d_MO_best_243 : decode b_MO_best 243 = .ok (.putfield 149, 3) := by decide +kernel
theorem d_MO_best_246 : decode b_MO_best 246 = .ok (.iload_n 3, 1) := by decide +kernel
theorem d_MO_best_247 : decode b_MO_best 247 = .ok (.ireturn, 1) := by decide +kernel
theorem d_MO_isBefore_0 : decode b_MO_isBefore 0 = .ok (.iconst 0, 1) := by decide +kernel
theorem d_MO_isBefore_1 : decode b_MO_isBefore 1 = .ok (.istore_n 1, 1) := by decide +kernel
theorem d_MO_isBefore_2 : decode b_MO_isBefore 2 = .ok (.iload_n 1, 1) := by decide +kernel
theorem d_MO_isBefore_3 : decode b_MO_isBefore 3 = .ok (.aload_n 0, 1) := by decide +kernel
theorem d_MO_isBefore_4 : decode b_MO_isBefore 4 = .ok (.getfield 143, 3) := by decide +kernel
theorem d_MO_isBefore_7 : decode b_MO_isBefore 7 = .ok (.if_icmp .ge 24, 3) := by decide +kernel
theorem d_MO_isBefore_10 : decode b_MO_isBefore 10 = .ok (.aload_n 0, 1) := by decide +kernel
theorem d_MO_isBefore_11 : decode b_MO_isBefore 11 = .ok (.getfield 78, 3) := by decide +kernel
theorem d_MO_isBefore_14 : decode b_MO_isBefore 14 = .ok (.iload_n 1, 1) := by decide +kernel
theorem d_MO_isBefore_15 : decode b_MO_isBefore 15 = .ok (.iaload, 1) := by decide +kernel
theorem d_MO_isBefore_16 : decode b_MO_isBefore 16 = .ok (.aload_n 0, 1) := by decide +kernel
theorem d_MO_isBefore_17 : decode b_MO_isBefore 17 = .ok (.getfield 65, 3) := by decide +kernel
theorem d_MO_isBefore_20 : decode b_MO_isBefore 20 = .ok (.iload_n 1, 1) := by decide +kernel
theorem d_MO_isBefore_21 : decode b_MO_isBefore 21 = .ok (.iaload, 1) := by decide +kernel
theorem d_MO_isBefore_22 : decode b_MO_isBefore 22 = .ok (.if_icmp .ne 9, 3) := by decide +kernel
theorem d_MO_isBefore_25 : decode b_MO_isBefore 25 = .ok (.iinc 1 1, 3) := by decide +kernel
theorem d_MO_isBefore_28 : decode b_MO_isBefore 28 = .ok (.goto (-26), 3) := by decide +kernel
theorem d_MO_isBefore_31 : decode b_MO_isBefore 31 = .ok (.iload_n 1, 1) := by decide +kernel
theorem d_MO_isBefore_32 : decode b_MO_isBefore 32 = .ok (.aload_n 0, 1) := by decide +kernel
theorem d_MO_isBefore_33 : decode b_MO_isBefore 33 = .ok (.getfield 143, 3) := by decide +kernel
theorem d_MO_isBefore_36 : decode b_MO_isBefore 36 = .ok (.if_icmp .ge 22, 3) := by decide +kernel
theorem d_MO_isBefore_39 : decode b_MO_isBefore 39 = .ok (.aload_n 0, 1) := by decide +kernel
theorem d_MO_isBefore_40 : decode b_MO_isBefore 40 = .ok (.getfield 78, 3) := by decide +kernel
theorem d_MO_isBefore_43 : decode b_MO_isBefore 43 = .ok (.iload_n 1, 1) := by decide +kernel
theorem d_MO_isBefore_44 : decode b_MO_isBefore 44 = .ok (.iaload, 1) := by decide +kernel
theorem d_MO_isBefore_45 : decode b_MO_isBefore 45 = .ok (.aload_n 0, 1) := by decide +kernel
theorem d_MO_isBefore_46 : decode b_MO_isBefore 46 = .ok (.getfield 65, 3) := by decide +kernel
theorem d_MO_isBefore_49 : decode b_MO_isBefore 49 = .ok (.iload_n 1, 1) := by decide +kernel
theorem d_MO_isBefore_50 : decode b_MO_isBefore 50 = .ok (.iaload, 1) := by decide +kernel
theorem d_MO_isBefore_51 : decode b_MO_isBefore 51 = .ok (.if_icmp .ge 7, 3) := by decide +kernel
theorem d_MO_isBefore_54 : decode b_MO_isBefore 54 = .ok (.iconst 1, 1) := by decide +kernel
theorem d_MO_isBefore_55 : decode b_MO_isBefore 55 = .ok (.goto 4, 3) := by decide +kernel
theorem d_MO_isBefore_58 : decode b_MO_isBefore 58 = .ok (.iconst 0, 1) := by decide +kernel
theorem d_MO_isBefore_59 : decode b_MO_isBefore 59 = .ok (.ireturn, 1) := by decide +kernel
theorem d_MO_isBelow_0 : decode b_MO_isBelow 0 = .ok (.iconst 1, 1) := by decide +kernel
theorem d_MO_isBelow_1 : decode b_MO_isBelow 1 = .ok (.istore 4, 2) := by decide +kernel
theorem d_MO_isBelow_3 : decode b_MO_isBelow 3 = .ok (.iconst 0, 1) := by decide +kernel
theorem d_MO_isBelow_4 : decode b_MO_isBelow 4 = .ok (.istore 5, 2) := by decide +kernel
theorem d_MO_isBelow_6 : decode b_MO_isBelow 6 = .ok (.iload 5, 2) := by decide +kernel
theorem d_MO_isBelow_8 : decode b_MO_isBelow 8 = .ok (.aload_n 0, 1) := by decide +kernel
theorem d_MO_isBelow_9 : decode b_MO_isBelow 9 = .ok (.getfield 143, 3) := by decide +kernel
theorem d_MO_isBelow_12 : decode b_MO_isBelow 12 = .ok (.if_icmp .ge 95, 3) := by decide +kernel
theorem d_MO_isBelow_15 : decode b_MO_isBelow 15 = .ok (.iload 4, 2) := by decide +kernel
