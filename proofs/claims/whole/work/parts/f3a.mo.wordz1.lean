theorem d_MO_cut_55 : decode b_MO_cut 55 = .ok (.aload_n 0, 1) := by decide +kernel
theorem d_MO_cut_56 : decode b_MO_cut 56 = .ok (.iload 4, 2) := by decide +kernel
theorem d_MO_cut_58 : decode b_MO_cut 58 = .ok (.invokevirtual 96, 3) := by decide +kernel
theorem d_MO_cut_61 : decode b_MO_cut 61 = .ok (.bipush 48, 2) := by decide +kernel
theorem d_MO_cut_63 : decode b_MO_cut 63 = .ok (.if_icmp .lt 50, 3) := by decide +kernel
theorem d_MO_cut_66 : decode b_MO_cut 66 = .ok (.aload_n 0, 1) := by decide +kernel
theorem d_MO_cut_67 : decode b_MO_cut 67 = .ok (.iload 4, 2) := by decide +kernel
theorem d_MO_cut_69 : decode b_MO_cut 69 = .ok (.invokevirtual 96, 3) := by decide +kernel
theorem d_MO_cut_72 : decode b_MO_cut 72 = .ok (.bipush 57, 2) := by decide +kernel
theorem d_MO_cut_74 : decode b_MO_cut 74 = .ok (.if_icmp .gt 39, 3) := by decide +kernel
theorem d_MO_cut_77 : decode b_MO_cut 77 = .ok (.iload 4, 2) := by decide +kernel
theorem d_MO_cut_79 : decode b_MO_cut 79 = .ok (.iload_n 1, 1) := by decide +kernel
theorem d_MO_cut_80 : decode b_MO_cut 80 = .ok (.isub, 1) := by decide +kernel
theorem d_MO_cut_81 : decode b_MO_cut 81 = .ok (.iconst 5, 1) := by decide +kernel
theorem d_MO_cut_82 : decode b_MO_cut 82 = .ok (.if_icmp .ge 21, 3) := by decide +kernel
theorem d_MO_cut_85 : decode b_MO_cut 85 = .ok (.bipush 10, 2) := by decide +kernel
theorem d_MO_cut_87 : decode b_MO_cut 87 = .ok (.iload 5, 2) := by decide +kernel
theorem d_MO_cut_89 : decode b_MO_cut 89 = .ok (.imul, 1) := by decide +kernel
theorem d_MO_cut_90 : decode b_MO_cut 90 = .ok (.aload_n 0, 1) := by decide +kernel
theorem d_MO_cut_91 : decode b_MO_cut 91 = .ok (.iload 4, 2) := by decide +kernel
theorem d_MO_cut_93 : decode b_MO_cut 93 = .ok (.invokevirtual 96, 3) := by decide +kernel
theorem d_MO_cut_96 : decode b_MO_cut 96 = .ok (.iadd, 1) := by decide +kernel
theorem d_MO_cut_97 : decode b_MO_cut 97 = .ok (.bipush 48, 2) := by decide +kernel
theorem d_MO_cut_99 : decode b_MO_cut 99 = .ok (.isub, 1) := by decide +kernel
theorem d_MO_cut_100 : decode b_MO_cut 100 = .ok (.goto 5, 3) := by decide +kernel
theorem d_MO_cut_103 : decode b_MO_cut 103 = .ok (.iload 5, 2) := by decide +kernel
theorem d_MO_cut_105 : decode b_MO_cut 105 = .ok (.istore 5, 2) := by decide +kernel
theorem d_MO_cut_107 : decode b_MO_cut 107 = .ok (.iinc 4 1, 3) := by decide +kernel
theorem d_MO_cut_110 : decode b_MO_cut 110 = .ok (.goto (-55), 3) := by decide +kernel
theorem d_MO_cut_113 : decode b_MO_cut 113 = .ok (.iload 4, 2) := by decide +kernel
theorem d_MO_cut_115 : decode b_MO_cut 115 = .ok (.iload_n 1, 1) := by decide +kernel
theorem d_MO_cut_116 : decode b_MO_cut 116 = .ok (.isub, 1) := by decide +kernel
theorem d_MO_cut_117 : decode b_MO_cut 117 = .ok (.iconst 4, 1) := by decide +kernel
theorem d_MO_cut_118 : decode b_MO_cut 118 = .ok (.if_icmp .le 8, 3) := by decide +kernel
theorem d_MO_cut_121 : decode b_MO_cut 121 = .ok (.bipush 10, 2) := by decide +kernel
theorem d_MO_cut_123 : decode b_MO_cut 123 = .ok (.goto 4, 3) := by decide +kernel
theorem d_MO_cut_126 : decode b_MO_cut 126 = .ok (.iconst 1, 1) := by decide +kernel
theorem d_MO_cut_127 : decode b_MO_cut 127 = .ok (.istore 6, 2) := by decide +kernel
theorem d_MO_cut_129 : decode b_MO_cut 129 = .ok (.goto 132, 3) := by decide +kernel
theorem d_MO_cut_132 : decode b_MO_cut 132 = .ok (.iload_n 3, 1) := by decide +kernel
theorem d_MO_cut_133 : decode b_MO_cut 133 = .ok (.bipush 97, 2) := by decide +kernel
theorem d_MO_cut_135 : decode b_MO_cut 135 = .ok (.if_icmp .lt 18, 3) := by decide +kernel
theorem d_MO_cut_138 : decode b_MO_cut 138 = .ok (.iload_n 3, 1) := by decide +kernel
theorem d_MO_cut_139 : decode b_MO_cut 139 = .ok (.bipush 122, 2) := by decide +kernel
theorem d_MO_cut_141 : decode b_MO_cut 141 = .ok (.if_icmp .gt 12, 3) := by decide +kernel
theorem d_MO_cut_144 : decode b_MO_cut 144 = .ok (.iconst 2, 1) := by decide +kernel
theorem d_MO_cut_145 : decode b_MO_cut 145 = .ok (.istore 6, 2) := by decide +kernel
theorem d_MO_cut_147 : decode b_MO_cut 147 = .ok (.iload_n 3, 1) := by decide +kernel
theorem d_MO_cut_148 : decode b_MO_cut 148 = .ok (.istore 5, 2) := by decide +kernel
theorem d_MO_cut_150 : decode b_MO_cut 150 = .ok (.goto 111, 3) := by decide +kernel
theorem d_MO_cut_153 : decode b_MO_cut 153 = .ok (.iload_n 3, 1) := by decide +kernel
theorem d_MO_cut_154 : decode b_MO_cut 154 = .ok (.bipush 60, 2) := by decide +kernel
theorem d_MO_cut_156 : decode b_MO_cut 156 = .ok (.if_icmp .eq 9, 3) := by decide +kernel
theorem d_MO_cut_159 : decode b_MO_cut 159 = .ok (.iload_n 3, 1) := by decide +kernel
theorem d_MO_cut_160 : decode b_MO_cut 160 = .ok (.bipush 62, 2) := by decide +kernel
theorem d_MO_cut_162 : decode b_MO_cut 162 = .ok (.if_icmp .ne 43, 3) := by decide +kernel
theorem d_MO_cut_165 : decode b_MO_cut 165 = .ok (.aload_n 0, 1) := by decide +kernel
theorem d_MO_cut_166 : decode b_MO_cut 166 = .ok (.iload_n 1, 1) := by decide +kernel
theorem d_MO_cut_167 : decode b_MO_cut 167 = .ok (.iconst 1, 1) := by decide +kernel
theorem d_MO_cut_168 : decode b_MO_cut 168 = .ok (.iadd, 1) := by decide +kernel
theorem d_MO_cut_169 : decode b_MO_cut 169 = .ok (.invokevirtual 96, 3) := by decide +kernel
theorem d_MO_cut_172 : decode b_MO_cut 172 = .ok (.bipush 61, 2) := by decide +kernel
theorem d_MO_cut_174 : decode b_MO_cut 174 = .ok (.if_icmp .ne 19, 3) := by decide +kernel
theorem d_MO_cut_177 : decode b_MO_cut 177 = .ok (.iload_n 3, 1) := by decide +kernel
theorem d_MO_cut_178 : decode b_MO_cut 178 = .ok (.bipush 60, 2) := by decide +kernel
theorem d_MO_cut_180 : decode b_MO_cut 180 = .ok (.if_icmp .ne 8, 3) := by decide +kernel
theorem d_MO_cut_183 : decode b_MO_cut 183 = .ok (.bipush 8, 2) := by decide +kernel
theorem d_MO_cut_185 : decode b_MO_cut 185 = .ok (.goto 10, 3) := by decide +kernel
theorem d_MO_cut_188 : decode b_MO_cut 188 = .ok (.bipush 9, 2) := by decide +kernel
theorem d_MO_cut_190 : decode b_MO_cut 190 = .ok (.goto 5, 3) := by decide +kernel
theorem d_MO_cut_193 : decode b_MO_cut 193 = .ok (.bipush 10, 2) := by decide +kernel
theorem d_MO_cut_195 : decode b_MO_cut 195 = .ok (.istore 6, 2) := by decide +kernel
theorem d_MO_cut_197 : decode b_MO_cut 197 = .ok (.iload_n 1, 1) := by decide +kernel
theorem d_MO_cut_198 : decode b_MO_cut 198 = .ok (.iconst 2, 1) := by decide +kernel
theorem d_MO_cut_199 : decode b_MO_cut 199 = .ok (.iadd, 1) := by decide +kernel
theorem d_MO_cut_200 : decode b_MO_cut 200 = .ok (.istore 4, 2) := by decide +kernel
theorem d_MO_cut_202 : decode b_MO_cut 202 = .ok (.goto 59, 3) := by decide +kernel
theorem d_MO_cut_205 : decode b_MO_cut 205 = .ok (.iload_n 3, 1) := by decide +kernel
theorem d_MO_cut_206 : decode b_MO_cut 206 = .ok (.bipush 43, 2) := by decide +kernel
theorem d_MO_cut_208 : decode b_MO_cut 208 = .ok (.if_icmp .ne 7, 3) := by decide +kernel
theorem d_MO_cut_211 : decode b_MO_cut 211 = .ok (.iconst 3, 1) := by decide +kernel
theorem d_MO_cut_212 : decode b_MO_cut 212 = .ok (.goto 47, 3) := by decide +kernel
theorem d_MO_cut_215 : decode b_MO_cut 215 = .ok (.iload_n 3, 1) := by decide +kernel
theorem d_MO_cut_216 : decode b_MO_cut 216 = .ok (.bipush 45, 2) := by decide +kernel
theorem d_MO_cut_218 : decode b_MO_cut 218 = .ok (.if_icmp .ne 7, 3) := by decide +kernel
theorem d_MO_cut_221 : decode b_MO_cut 221 = .ok (.iconst 4, 1) := by decide +kernel
theorem d_MO_cut_222 : decode b_MO_cut 222 = .ok (.goto 37, 3) := by decide +kernel
theorem d_MO_cut_225 : decode b_MO_cut 225 = .ok (.iload_n 3, 1) := by decide +kernel
theorem d_MO_cut_226 : decode b_MO_cut 226 = .ok (.bipush 42, 2) := by decide +kernel
theorem d_MO_cut_228 : decode b_MO_cut 228 = .ok (.if_icmp .ne 7, 3) := by decide +kernel
theorem d_MO_cut_231 : decode b_MO_cut 231 = .ok (.iconst 5, 1) := by decide +kernel
theorem d_MO_cut_232 : decode b_MO_cut 232 = .ok (.goto 27, 3) := by decide +kernel
theorem d_MO_cut_235 : decode b_MO_cut 235 = .ok (.iload_n 3, 1) := by decide +kernel
theorem d_MO_cut_236 : decode b_MO_cut 236 = .ok (.bipush 59, 2) := by decide +kernel
theorem d_MO_cut_238 : decode b_MO_cut 238 = .ok (.if_icmp .ne 8, 3) := by decide +kernel
theorem d_MO_cut_241 : decode b_MO_cut 241 = .ok (.bipush 6, 2) := by decide +kernel
theorem d_MO_cut_243 : decode b_MO_cut 243 = .ok (.goto 16, 3) := by decide +kernel
theorem d_MO_cut_246 : decode b_MO_cut 246 = .ok (.iload_n 3, 1) := by decide +kernel
theorem d_MO_cut_247 : decode b_MO_cut 247 = .ok (.bipush 61, 2) := by decide +kernel
theorem d_MO_cut_249 : decode b_MO_cut 249 = .ok (.if_icmp .ne 8, 3) := by decide +kernel
theorem d_MO_cut_252 : decode b_MO_cut 252 = .ok (.bipush 7, 2) := by decide +kernel
theorem d_MO_cut_254 : decode b_MO_cut 254 = .ok (.goto 5, 3) := by decide +kernel
theorem d_MO_cut_257 : decode b_MO_cut 257 = .ok (.bipush 10, 2) := by decide +kernel
theorem d_MO_cut_259 : decode b_MO_cut 259 = .ok (.istore 6, 2) := by decide +kernel
theorem d_MO_cut_261 : decode b_MO_cut 261 = .ok (.iload_n 3, 1) := by decide +kernel
theorem d_MO_cut_262 : decode b_MO_cut 262 = .ok (.bipush 32, 2) := by decide +kernel
theorem d_MO_cut_264 : decode b_MO_cut 264 = .ok (.if_icmp .eq 25, 3) := by decide +kernel
theorem d_MO_cut_267 : decode b_MO_cut 267 = .ok (.aload_n 0, 1) := by decide +kernel
theorem d_MO_cut_268 : decode b_MO_cut 268 = .ok (.iload 6, 2) := by decide +kernel
theorem d_MO_cut_270 : decode b_MO_cut 270 = .ok (.iload_n 1, 1) := by decide +kernel
theorem d_MO_cut_271 : decode b_MO_cut 271 = .ok (.iload 5, 2) := by decide +kernel
theorem d_MO_cut_273 : decode b_MO_cut 273 = .ok (.invokevirtual 100, 3) := by decide +kernel
theorem d_MO_cut_276 : decode b_MO_cut 276 = .ok (.iload 6, 2) := by decide +kernel
theorem d_MO_cut_278 : decode b_MO_cut 278 = .ok (.bipush 10, 2) := by decide +kernel
theorem d_MO_cut_280 : decode b_MO_cut 280 = .ok (.if_icmp .eq 7, 3) := by decide +kernel
theorem d_MO_cut_283 : decode b_MO_cut 283 = .ok (.iconst 1, 1) := by decide +kernel
theorem d_MO_cut_284 : decode b_MO_cut 284 = .ok (.goto 4, 3) := by decide +kernel
theorem d_MO_cut_287 : decode b_MO_cut 287 = .ok (.iconst 0, 1) := by decide +kernel
theorem d_MO_cut_288 : decode b_MO_cut 288 = .ok (.istore_n 2, 1) := by decide +kernel
theorem d_MO_cut_289 : decode b_MO_cut 289 = .ok (.iload 4, 2) := by decide +kernel
theorem d_MO_cut_291 : decode b_MO_cut 291 = .ok (.istore_n 1, 1) := by decide +kernel
theorem d_MO_cut_292 : decode b_MO_cut 292 = .ok (.goto (-283), 3) := by decide +kernel
theorem d_MO_cut_295 : decode b_MO_cut 295 = .ok (.iload_n 2, 1) := by decide +kernel
theorem d_MO_cut_296 : decode b_MO_cut 296 = .ok (.ifCond .eq 13, 3) := by decide +kernel
theorem d_MO_cut_299 : decode b_MO_cut 299 = .ok (.aload_n 0, 1) := by decide +kernel
theorem d_MO_cut_300 : decode b_MO_cut 300 = .ok (.iconst 0, 1) := by decide +kernel
theorem d_MO_cut_301 : decode b_MO_cut 301 = .ok (.aload_n 0, 1) := by decide +kernel
theorem d_MO_cut_302 : decode b_MO_cut 302 = .ok (.getfield 84, 3) := by decide +kernel
theorem d_MO_cut_305 : decode b_MO_cut 305 = .ok (.iconst 0, 1) := by decide +kernel
theorem d_MO_cut_306 : decode b_MO_cut 306 = .ok (.invokevirtual 100, 3) := by decide +kernel
theorem d_MO_cut_309 : decode b_MO_cut 309 = .ok (.return_, 1) := by decide +kernel
theorem d_MO_draftColumn_0 : decode b_MO_draftColumn 0 = .ok (.iconst (-1), 1) := by decide +kernel
theorem d_MO_draftColumn_1 : decode b_MO_draftColumn 1 = .ok (.istore_n 2, 1) := by decide +kernel
theorem d_MO_draftColumn_2 : decode b_MO_draftColumn 2 = .ok (.iconst 0, 1) := by decide +kernel
theorem d_MO_draftColumn_3 : decode b_MO_draftColumn 3 = .ok (.istore_n 3, 1) := by decide +kernel
theorem d_MO_draftColumn_4 : decode b_MO_draftColumn 4 = .ok (.iload_n 3, 1) := by decide +kernel
theorem d_MO_draftColumn_5 : decode b_MO_draftColumn 5 = .ok (.aload_n 0, 1) := by decide +kernel
theorem d_MO_draftColumn_6 : decode b_MO_draftColumn 6 = .ok (.getfield 104, 3) := by decide +kernel
theorem d_MO_draftColumn_9 : decode b_MO_draftColumn 9 = .ok (.if_icmp .ge 25, 3) := by decide +kernel
theorem d_MO_draftColumn_12 : decode b_MO_draftColumn 12 = .ok (.aload_n 0, 1) := by decide +kernel
theorem d_MO_draftColumn_13 : decode b_MO_draftColumn 13 = .ok (.getfield 26, 3) := by decide +kernel
theorem d_MO_draftColumn_16 : decode b_MO_draftColumn 16 = .ok (.iload_n 3, 1) := by decide +kernel
theorem d_MO_draftColumn_17 : decode b_MO_draftColumn 17 = .ok (.iaload, 1) := by decide +kernel
theorem d_MO_draftColumn_18 : decode b_MO_draftColumn 18 = .ok (.iload_n 1, 1) := by decide +kernel
theorem d_MO_draftColumn_19 : decode b_MO_draftColumn 19 = .ok (.if_icmp .ne 7, 3) := by decide +kernel
theorem d_MO_draftColumn_22 : decode b_MO_draftColumn 22 = .ok (.iload_n 3, 1) := by decide +kernel
theorem d_MO_draftColumn_23 : decode b_MO_draftColumn 23 = .ok (.goto 4, 3) := by decide +kernel
theorem d_MO_draftColumn_26 : decode b_MO_draftColumn 26 = .ok (.iload_n 2, 1) := by decide +kernel
theorem d_MO_draftColumn_27 : decode b_MO_draftColumn 27 = .ok (.istore_n 2, 1) := by decide +kernel
theorem d_MO_draftColumn_28 : decode b_MO_draftColumn 28 = .ok (.iinc 3 1, 3) := by decide +kernel
