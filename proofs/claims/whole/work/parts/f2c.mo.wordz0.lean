theorem d_MO_narrow_0 : decode b_MO_narrow 0 = .ok (.iconst 1, 1) := by decide +kernel
theorem d_MO_narrow_1 : decode b_MO_narrow 1 = .ok (.istore_n 2, 1) := by decide +kernel
theorem d_MO_narrow_2 : decode b_MO_narrow 2 = .ok (.iconst 0, 1) := by decide +kernel
theorem d_MO_narrow_3 : decode b_MO_narrow 3 = .ok (.istore_n 3, 1) := by decide +kernel
theorem d_MO_narrow_4 : decode b_MO_narrow 4 = .ok (.iload_n 2, 1) := by decide +kernel
theorem d_MO_narrow_5 : decode b_MO_narrow 5 = .ok (.ifCond .eq 171, 3) := by decide +kernel
theorem d_MO_narrow_8 : decode b_MO_narrow 8 = .ok (.iconst (-1), 1) := by decide +kernel
theorem d_MO_narrow_9 : decode b_MO_narrow 9 = .ok (.istore 4, 2) := by decide +kernel
theorem d_MO_narrow_11 : decode b_MO_narrow 11 = .ok (.iconst 0, 1) := by decide +kernel
theorem d_MO_narrow_12 : decode b_MO_narrow 12 = .ok (.istore_n 3, 1) := by decide +kernel
theorem d_MO_narrow_13 : decode b_MO_narrow 13 = .ok (.iconst 0, 1) := by decide +kernel
theorem d_MO_narrow_14 : decode b_MO_narrow 14 = .ok (.istore 5, 2) := by decide +kernel
theorem d_MO_narrow_16 : decode b_MO_narrow 16 = .ok (.iload 5, 2) := by decide +kernel
theorem d_MO_narrow_18 : decode b_MO_narrow 18 = .ok (.aload_n 0, 1) := by decide +kernel
theorem d_MO_narrow_19 : decode b_MO_narrow 19 = .ok (.getfield 152, 3) := by decide +kernel
theorem d_MO_narrow_22 : decode b_MO_narrow 22 = .ok (.if_icmp .ge 75, 3) := by decide +kernel
theorem d_MO_narrow_25 : decode b_MO_narrow 25 = .ok (.aload_n 0, 1) := by decide +kernel
theorem d_MO_narrow_26 : decode b_MO_narrow 26 = .ok (.iload_n 1, 1) := by decide +kernel
theorem d_MO_narrow_27 : decode b_MO_narrow 27 = .ok (.aload_n 0, 1) := by decide +kernel
theorem d_MO_narrow_28 : decode b_MO_narrow 28 = .ok (.getfield 68, 3) := by decide +kernel
theorem d_MO_narrow_31 : decode b_MO_narrow 31 = .ok (.bipush 6, 2) := by decide +kernel
theorem d_MO_narrow_33 : decode b_MO_narrow 33 = .ok (.iload 5, 2) := by decide +kernel
theorem d_MO_narrow_35 : decode b_MO_narrow 35 = .ok (.imul, 1) := by decide +kernel
theorem d_MO_narrow_36 : decode b_MO_narrow 36 = .ok (.invokevirtual 175, 3) := by decide +kernel
theorem d_MO_narrow_39 : decode b_MO_narrow 39 = .ok (.invokestatic 155, 3) := by decide +kernel
theorem d_MO_narrow_42 : decode b_MO_narrow 42 = .ok (.lstore 6, 2) := by decide +kernel
theorem d_MO_narrow_44 : decode b_MO_narrow 44 = .ok (.lload 6, 2) := by decide +kernel
theorem d_MO_narrow_46 : decode b_MO_narrow 46 = .ok (.lconst 0, 1) := by decide +kernel
theorem d_MO_narrow_47 : decode b_MO_narrow 47 = .ok (.lcmp, 1) := by decide +kernel
theorem d_MO_narrow_48 : decode b_MO_narrow 48 = .ok (.ifCond .eq 43, 3) := by decide +kernel
theorem d_MO_narrow_51 : decode b_MO_narrow 51 = .ok (.iinc 3 1, 3) := by decide +kernel
theorem d_MO_narrow_54 : decode b_MO_narrow 54 = .ok (.iload 4, 2) := by decide +kernel
theorem d_MO_narrow_56 : decode b_MO_narrow 56 = .ok (.ifCond .lt 26, 3) := by decide +kernel
theorem d_MO_narrow_59 : decode b_MO_narrow 59 = .ok (.lload 6, 2) := by decide +kernel
theorem d_MO_narrow_61 : decode b_MO_narrow 61 = .ok (.aload_n 0, 1) := by decide +kernel
theorem d_MO_narrow_62 : decode b_MO_narrow 62 = .ok (.iload_n 1, 1) := by decide +kernel
theorem d_MO_narrow_63 : decode b_MO_narrow 63 = .ok (.aload_n 0, 1) := by decide +kernel
theorem d_MO_narrow_64 : decode b_MO_narrow 64 = .ok (.getfield 68, 3) := by decide +kernel
theorem d_MO_narrow_67 : decode b_MO_narrow 67 = .ok (.bipush 6, 2) := by decide +kernel
theorem d_MO_narrow_69 : decode b_MO_narrow 69 = .ok (.iload 4, 2) := by decide +kernel
theorem d_MO_narrow_71 : decode b_MO_narrow 71 = .ok (.imul, 1) := by decide +kernel
theorem d_MO_narrow_72 : decode b_MO_narrow 72 = .ok (.invokevirtual 175, 3) := by decide +kernel
theorem d_MO_narrow_75 : decode b_MO_narrow 75 = .ok (.invokestatic 155, 3) := by decide +kernel
theorem d_MO_narrow_78 : decode b_MO_narrow 78 = .ok (.lcmp, 1) := by decide +kernel
theorem d_MO_narrow_79 : decode b_MO_narrow 79 = .ok (.ifCond .ge 8, 3) := by decide +kernel
theorem d_MO_narrow_82 : decode b_MO_narrow 82 = .ok (.iload 5, 2) := by decide +kernel
theorem d_MO_narrow_84 : decode b_MO_narrow 84 = .ok (.goto 5, 3) := by decide +kernel
theorem d_MO_narrow_87 : decode b_MO_narrow 87 = .ok (.iload 4, 2) := by decide +kernel
theorem d_MO_narrow_89 : decode b_MO_narrow 89 = .ok (.istore 4, 2) := by decide +kernel
theorem d_MO_narrow_91 : decode b_MO_narrow 91 = .ok (.iinc 5 1, 3) := by decide +kernel
theorem d_MO_narrow_94 : decode b_MO_narrow 94 = .ok (.goto (-78), 3) := by decide +kernel
theorem d_MO_narrow_97 : decode b_MO_narrow 97 = .ok (.iload_n 3, 1) := by decide +kernel
theorem d_MO_narrow_98 : decode b_MO_narrow 98 = .ok (.ifCond .le 64, 3) := by decide +kernel
theorem d_MO_narrow_101 : decode b_MO_narrow 101 = .ok (.aload_n 0, 1) := by decide +kernel
theorem d_MO_narrow_102 : decode b_MO_narrow 102 = .ok (.iconst 0, 1) := by decide +kernel
theorem d_MO_narrow_103 : decode b_MO_narrow 103 = .ok (.iload 4, 2) := by decide +kernel
theorem d_MO_narrow_105 : decode b_MO_narrow 105 = .ok (.invokevirtual 159, 3) := by decide +kernel
theorem d_MO_narrow_108 : decode b_MO_narrow 108 = .ok (.aload_n 0, 1) := by decide +kernel
theorem d_MO_narrow_109 : decode b_MO_narrow 109 = .ok (.iload_n 1, 1) := by decide +kernel
theorem d_MO_narrow_110 : decode b_MO_narrow 110 = .ok (.aload_n 0, 1) := by decide +kernel
theorem d_MO_narrow_111 : decode b_MO_narrow 111 = .ok (.getfield 68, 3) := by decide +kernel
theorem d_MO_narrow_114 : decode b_MO_narrow 114 = .ok (.iconst 0, 1) := by decide +kernel
theorem d_MO_narrow_115 : decode b_MO_narrow 115 = .ok (.invokevirtual 175, 3) := by decide +kernel
theorem d_MO_narrow_118 : decode b_MO_narrow 118 = .ok (.lstore 5, 2) := by decide +kernel
theorem d_MO_narrow_120 : decode b_MO_narrow 120 = .ok (.iconst 1, 1) := by decide +kernel
theorem d_MO_narrow_121 : decode b_MO_narrow 121 = .ok (.istore 7, 2) := by decide +kernel
theorem d_MO_narrow_123 : decode b_MO_narrow 123 = .ok (.iload 7, 2) := by decide +kernel
theorem d_MO_narrow_125 : decode b_MO_narrow 125 = .ok (.aload_n 0, 1) := by decide +kernel
theorem d_MO_narrow_126 : decode b_MO_narrow 126 = .ok (.getfield 152, 3) := by decide +kernel
theorem d_MO_narrow_129 : decode b_MO_narrow 129 = .ok (.if_icmp .ge 33, 3) := by decide +kernel
theorem d_MO_narrow_132 : decode b_MO_narrow 132 = .ok (.aload_n 0, 1) := by decide +kernel
theorem d_MO_narrow_133 : decode b_MO_narrow 133 = .ok (.iload 7, 2) := by decide +kernel
theorem d_MO_narrow_135 : decode b_MO_narrow 135 = .ok (.iconst 0, 1) := by decide +kernel
theorem d_MO_narrow_136 : decode b_MO_narrow 136 = .ok (.aload_n 0, 1) := by decide +kernel
theorem d_MO_narrow_137 : decode b_MO_narrow 137 = .ok (.iload_n 1, 1) := by decide +kernel
theorem d_MO_narrow_138 : decode b_MO_narrow 138 = .ok (.aload_n 0, 1) := by decide +kernel
theorem d_MO_narrow_139 : decode b_MO_narrow 139 = .ok (.getfield 68, 3) := by decide +kernel
theorem d_MO_narrow_142 : decode b_MO_narrow 142 = .ok (.bipush 6, 2) := by decide +kernel
theorem d_MO_narrow_144 : decode b_MO_narrow 144 = .ok (.iload 7, 2) := by decide +kernel
theorem d_MO_narrow_146 : decode b_MO_narrow 146 = .ok (.imul, 1) := by decide +kernel
theorem d_MO_narrow_147 : decode b_MO_narrow 147 = .ok (.invokevirtual 175, 3) := by decide +kernel
theorem d_MO_narrow_150 : decode b_MO_narrow 150 = .ok (.lload 5, 2) := by decide +kernel
theorem d_MO_narrow_152 : decode b_MO_narrow 152 = .ok (.ldiv, 1) := by decide +kernel
theorem d_MO_narrow_153 : decode b_MO_narrow 153 = .ok (.invokevirtual 167, 3) := by decide +kernel
theorem d_MO_narrow_156 : decode b_MO_narrow 156 = .ok (.iinc 7 1, 3) := by decide +kernel
theorem d_MO_narrow_159 : decode b_MO_narrow 159 = .ok (.goto (-36), 3) := by decide +kernel
theorem d_MO_narrow_162 : decode b_MO_narrow 162 = .ok (.iload_n 3, 1) := by decide +kernel
theorem d_MO_narrow_163 : decode b_MO_narrow 163 = .ok (.iconst 1, 1) := by decide +kernel
theorem d_MO_narrow_164 : decode b_MO_narrow 164 = .ok (.if_icmp .le 7, 3) := by decide +kernel
theorem d_MO_narrow_167 : decode b_MO_narrow 167 = .ok (.iconst 1, 1) := by decide +kernel
theorem d_MO_narrow_168 : decode b_MO_narrow 168 = .ok (.goto 4, 3) := by decide +kernel
theorem d_MO_narrow_171 : decode b_MO_narrow 171 = .ok (.iconst 0, 1) := by decide +kernel
theorem d_MO_narrow_172 : decode b_MO_narrow 172 = .ok (.istore_n 2, 1) := by decide +kernel
theorem d_MO_narrow_173 : decode b_MO_narrow 173 = .ok (.goto (-169), 3) := by decide +kernel
theorem d_MO_narrow_176 : decode b_MO_narrow 176 = .ok (.aload_n 0, 1) := by decide +kernel
theorem d_MO_narrow_177 : decode b_MO_narrow 177 = .ok (.getfield 38, 3) := by decide +kernel
theorem d_MO_narrow_180 : decode b_MO_narrow 180 = .ok (.bipush 7, 2) := by decide +kernel
theorem d_MO_narrow_182 : decode b_MO_narrow 182 = .ok (.iload_n 1, 1) := by decide +kernel
theorem d_MO_narrow_183 : decode b_MO_narrow 183 = .ok (.imul, 1) := by decide +kernel
theorem d_MO_narrow_184 : decode b_MO_narrow 184 = .ok (.aload_n 0, 1) := by decide +kernel
theorem d_MO_narrow_185 : decode b_MO_narrow 185 = .ok (.getfield 143, 3) := by decide +kernel
theorem d_MO_narrow_188 : decode b_MO_narrow 188 = .ok (.iadd, 1) := by decide +kernel
theorem d_MO_narrow_189 : decode b_MO_narrow 189 = .ok (.iaload, 1) := by decide +kernel
theorem d_MO_narrow_190 : decode b_MO_narrow 190 = .ok (.i2l, 1) := by decide +kernel
theorem d_MO_narrow_191 : decode b_MO_narrow 191 = .ok (.aload_n 0, 1) := by decide +kernel
theorem d_MO_narrow_192 : decode b_MO_narrow 192 = .ok (.iload_n 1, 1) := by decide +kernel
theorem d_MO_narrow_193 : decode b_MO_narrow 193 = .ok (.aload_n 0, 1) := by decide +kernel
theorem d_MO_narrow_194 : decode b_MO_narrow 194 = .ok (.getfield 72, 3) := by decide +kernel
theorem d_MO_narrow_197 : decode b_MO_narrow 197 = .ok (.iconst 0, 1) := by decide +kernel
theorem d_MO_narrow_198 : decode b_MO_narrow 198 = .ok (.invokevirtual 175, 3) := by decide +kernel
theorem d_MO_narrow_201 : decode b_MO_narrow 201 = .ok (.lsub, 1) := by decide +kernel
theorem d_MO_narrow_202 : decode b_MO_narrow 202 = .ok (.lstore 4, 2) := by decide +kernel
theorem d_MO_narrow_204 : decode b_MO_narrow 204 = .ok (.iload_n 3, 1) := by decide +kernel
theorem d_MO_narrow_205 : decode b_MO_narrow 205 = .ok (.ifCond .ne 27, 3) := by decide +kernel
theorem d_MO_narrow_208 : decode b_MO_narrow 208 = .ok (.aload_n 0, 1) := by decide +kernel
theorem d_MO_narrow_209 : decode b_MO_narrow 209 = .ok (.aload_n 0, 1) := by decide +kernel
theorem d_MO_narrow_210 : decode b_MO_narrow 210 = .ok (.getfield 179, 3) := by decide +kernel
theorem d_MO_narrow_213 : decode b_MO_narrow 213 = .ok (.ifCond .eq 14, 3) := by decide +kernel
theorem d_MO_narrow_216 : decode b_MO_narrow 216 = .ok (.lload 4, 2) := by decide +kernel
theorem d_MO_narrow_218 : decode b_MO_narrow 218 = .ok (.lconst 0, 1) := by decide +kernel
theorem d_MO_narrow_219 : decode b_MO_narrow 219 = .ok (.lcmp, 1) := by decide +kernel
theorem d_MO_narrow_220 : decode b_MO_narrow 220 = .ok (.ifCond .ne 7, 3) := by decide +kernel
theorem d_MO_narrow_223 : decode b_MO_narrow 223 = .ok (.iconst 1, 1) := by decide +kernel
theorem d_MO_narrow_224 : decode b_MO_narrow 224 = .ok (.goto 4, 3) := by decide +kernel
theorem d_MO_narrow_227 : decode b_MO_narrow 227 = .ok (.iconst 0, 1) := by decide +kernel
theorem d_MO_narrow_228 : decode b_MO_narrow 228 = .ok (.putfield 179, 3) := by decide +kernel
theorem d_MO_narrow_231 : decode b_MO_narrow 231 = .ok (.return_, 1) := by decide +kernel
theorem d_MO_narrow_232 : decode b_MO_narrow 232 = .ok (.aload_n 0, 1) := by decide +kernel
theorem d_MO_narrow_233 : decode b_MO_narrow 233 = .ok (.iload_n 1, 1) := by decide +kernel
theorem d_MO_narrow_234 : decode b_MO_narrow 234 = .ok (.aload_n 0, 1) := by decide +kernel
theorem d_MO_narrow_235 : decode b_MO_narrow 235 = .ok (.getfield 68, 3) := by decide +kernel
theorem d_MO_narrow_238 : decode b_MO_narrow 238 = .ok (.iconst 0, 1) := by decide +kernel
theorem d_MO_narrow_239 : decode b_MO_narrow 239 = .ok (.invokevirtual 175, 3) := by decide +kernel
theorem d_MO_narrow_242 : decode b_MO_narrow 242 = .ok (.lstore 6, 2) := by decide +kernel
theorem d_MO_narrow_244 : decode b_MO_narrow 244 = .ok (.aload_n 0, 1) := by decide +kernel
theorem d_MO_narrow_245 : decode b_MO_narrow 245 = .ok (.aload_n 0, 1) := by decide +kernel
theorem d_MO_narrow_246 : decode b_MO_narrow 246 = .ok (.getfield 179, 3) := by decide +kernel
theorem d_MO_narrow_249 : decode b_MO_narrow 249 = .ok (.ifCond .eq 17, 3) := by decide +kernel
theorem d_MO_narrow_252 : decode b_MO_narrow 252 = .ok (.lload 4, 2) := by decide +kernel
theorem d_MO_narrow_254 : decode b_MO_narrow 254 = .ok (.lload 6, 2) := by decide +kernel
theorem d_MO_narrow_256 : decode b_MO_narrow 256 = .ok (.lrem, 1) := by decide +kernel
theorem d_MO_narrow_257 : decode b_MO_narrow 257 = .ok (.lconst 0, 1) := by decide +kernel
theorem d_MO_narrow_258 : decode b_MO_narrow 258 = .ok (.lcmp, 1) := by decide +kernel
theorem d_MO_narrow_259 : decode b_MO_narrow 259 = .ok (.ifCond .ne 7, 3) := by decide +kernel
theorem d_MO_narrow_262 : decode b_MO_narrow 262 = .ok (.iconst 1, 1) := by decide +kernel
theorem d_MO_narrow_263 : decode b_MO_narrow 263 = .ok (.goto 4, 3) := by decide +kernel
theorem d_MO_narrow_266 : decode b_MO_narrow 266 = .ok (.iconst 0, 1) := by decide +kernel
theorem d_MO_narrow_267 : decode b_MO_narrow 267 = .ok (.putfield 179, 3) := by decide +kernel
theorem d_MO_narrow_270 : decode b_MO_narrow 270 = .ok (.iconst 0, 1) := by decide +kernel
theorem d_MO_narrow_271 : decode b_MO_narrow 271 = .ok (.istore 8, 2) := by decide +kernel
