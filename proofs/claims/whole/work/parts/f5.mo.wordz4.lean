theorem d_MO_split_205 : decode b_MO_split 205 = .ok (.iconst 0, 1) := by decide +kernel
theorem d_MO_split_206 : decode b_MO_split 206 = .ok (.iastore, 1) := by decide +kernel
theorem d_MO_split_207 : decode b_MO_split 207 = .ok (.aload_n 0, 1) := by decide +kernel
theorem d_MO_split_208 : decode b_MO_split 208 = .ok (.iconst 0, 1) := by decide +kernel
theorem d_MO_split_209 : decode b_MO_split 209 = .ok (.iload_n 3, 1) := by decide +kernel
theorem d_MO_split_210 : decode b_MO_split 210 = .ok (.iconst 1, 1) := by decide +kernel
theorem d_MO_split_211 : decode b_MO_split 211 = .ok (.invokevirtual 202, 3) := by decide +kernel
theorem d_MO_split_214 : decode b_MO_split 214 = .ok (.ifCond .eq 65, 3) := by decide +kernel
theorem d_MO_split_217 : decode b_MO_split 217 = .ok (.iconst 0, 1) := by decide +kernel
theorem d_MO_split_218 : decode b_MO_split 218 = .ok (.istore 4, 2) := by decide +kernel
theorem d_MO_split_220 : decode b_MO_split 220 = .ok (.iload 4, 2) := by decide +kernel
theorem d_MO_split_222 : decode b_MO_split 222 = .ok (.aload_n 0, 1) := by decide +kernel
theorem d_MO_split_223 : decode b_MO_split 223 = .ok (.getfield 143, 3) := by decide +kernel
theorem d_MO_split_226 : decode b_MO_split 226 = .ok (.if_icmp .ge 36, 3) := by decide +kernel
theorem d_MO_split_229 : decode b_MO_split 229 = .ok (.aload_n 0, 1) := by decide +kernel
theorem d_MO_split_230 : decode b_MO_split 230 = .ok (.getfield 78, 3) := by decide +kernel
theorem d_MO_split_233 : decode b_MO_split 233 = .ok (.iload 4, 2) := by decide +kernel
theorem d_MO_split_235 : decode b_MO_split 235 = .ok (.aload_n 0, 1) := by decide +kernel
theorem d_MO_split_236 : decode b_MO_split 236 = .ok (.getfield 78, 3) := by decide +kernel
theorem d_MO_split_239 : decode b_MO_split 239 = .ok (.iload 4, 2) := by decide +kernel
theorem d_MO_split_241 : decode b_MO_split 241 = .ok (.iaload, 1) := by decide +kernel
theorem d_MO_split_242 : decode b_MO_split 242 = .ok (.aload_n 0, 1) := by decide +kernel
theorem d_MO_split_243 : decode b_MO_split 243 = .ok (.getfield 52, 3) := by decide +kernel
theorem d_MO_split_246 : decode b_MO_split 246 = .ok (.bipush 6, 2) := by decide +kernel
theorem d_MO_split_248 : decode b_MO_split 248 = .ok (.iload_n 3, 1) := by decide +kernel
theorem d_MO_split_249 : decode b_MO_split 249 = .ok (.imul, 1) := by decide +kernel
theorem d_MO_split_250 : decode b_MO_split 250 = .ok (.iload 4, 2) := by decide +kernel
theorem d_MO_split_252 : decode b_MO_split 252 = .ok (.iadd, 1) := by decide +kernel
theorem d_MO_split_253 : decode b_MO_split 253 = .ok (.baload, 1) := by decide +kernel
theorem d_MO_split_254 : decode b_MO_split 254 = .ok (.isub, 1) := by decide +kernel
theorem d_MO_split_255 : decode b_MO_split 255 = .ok (.iastore, 1) := by decide +kernel
theorem d_MO_split_256 : decode b_MO_split 256 = .ok (.iinc 4 1, 3) := by decide +kernel
theorem d_MO_split_259 : decode b_MO_split 259 = .ok (.goto (-39), 3) := by decide +kernel
theorem d_MO_split_262 : decode b_MO_split 262 = .ok (.aload_n 0, 1) := by decide +kernel
theorem d_MO_split_263 : decode b_MO_split 263 = .ok (.getfield 62, 3) := by decide +kernel
theorem d_MO_split_266 : decode b_MO_split 266 = .ok (.iload_n 3, 1) := by decide +kernel
theorem d_MO_split_267 : decode b_MO_split 267 = .ok (.aload_n 0, 1) := by decide +kernel
theorem d_MO_split_268 : decode b_MO_split 268 = .ok (.getfield 62, 3) := by decide +kernel
theorem d_MO_split_271 : decode b_MO_split 271 = .ok (.iload_n 3, 1) := by decide +kernel
theorem d_MO_split_272 : decode b_MO_split 272 = .ok (.iaload, 1) := by decide +kernel
theorem d_MO_split_273 : decode b_MO_split 273 = .ok (.iconst 1, 1) := by decide +kernel
theorem d_MO_split_274 : decode b_MO_split 274 = .ok (.iadd, 1) := by decide +kernel
theorem d_MO_split_275 : decode b_MO_split 275 = .ok (.iastore, 1) := by decide +kernel
theorem d_MO_split_276 : decode b_MO_split 276 = .ok (.goto (-69), 3) := by decide +kernel
theorem d_MO_split_279 : decode b_MO_split 279 = .ok (.iinc 3 1, 3) := by decide +kernel
theorem d_MO_split_282 : decode b_MO_split 282 = .ok (.goto (-92), 3) := by decide +kernel
theorem d_MO_split_285 : decode b_MO_split 285 = .ok (.aload_n 0, 1) := by decide +kernel
theorem d_MO_split_286 : decode b_MO_split 286 = .ok (.iconst 1, 1) := by decide +kernel
theorem d_MO_split_287 : decode b_MO_split 287 = .ok (.putfield 146, 3) := by decide +kernel
theorem d_MO_split_290 : decode b_MO_split 290 = .ok (.iload_n 2, 1) := by decide +kernel
theorem d_MO_split_291 : decode b_MO_split 291 = .ok (.ireturn, 1) := by decide +kernel
theorem d_MO_spread_0 : decode b_MO_spread 0 = .ok (.iload_n 1, 1) := by decide +kernel
theorem d_MO_spread_1 : decode b_MO_spread 1 = .ok (.istore 4, 2) := by decide +kernel
theorem d_MO_spread_3 : decode b_MO_spread 3 = .ok (.iload 4, 2) := by decide +kernel
theorem d_MO_spread_5 : decode b_MO_spread 5 = .ok (.aload_n 0, 1) := by decide +kernel
theorem d_MO_spread_6 : decode b_MO_spread 6 = .ok (.getfield 143, 3) := by decide +kernel
theorem d_MO_spread_9 : decode b_MO_spread 9 = .ok (.if_icmp .ge 17, 3) := by decide +kernel
theorem d_MO_spread_12 : decode b_MO_spread 12 = .ok (.aload_n 0, 1) := by decide +kernel
theorem d_MO_spread_13 : decode b_MO_spread 13 = .ok (.getfield 78, 3) := by decide +kernel
theorem d_MO_spread_16 : decode b_MO_spread 16 = .ok (.iload 4, 2) := by decide +kernel
theorem d_MO_spread_18 : decode b_MO_spread 18 = .ok (.iconst 0, 1) := by decide +kernel
theorem d_MO_spread_19 : decode b_MO_spread 19 = .ok (.iastore, 1) := by decide +kernel
theorem d_MO_spread_20 : decode b_MO_spread 20 = .ok (.iinc 4 1, 3) := by decide +kernel
theorem d_MO_spread_23 : decode b_MO_spread 23 = .ok (.goto (-20), 3) := by decide +kernel
theorem d_MO_spread_26 : decode b_MO_spread 26 = .ok (.iload_n 3, 1) := by decide +kernel
theorem d_MO_spread_27 : decode b_MO_spread 27 = .ok (.ifCond .eq 14, 3) := by decide +kernel
theorem d_MO_spread_30 : decode b_MO_spread 30 = .ok (.aload_n 0, 1) := by decide +kernel
theorem d_MO_spread_31 : decode b_MO_spread 31 = .ok (.getfield 78, 3) := by decide +kernel
theorem d_MO_spread_34 : decode b_MO_spread 34 = .ok (.iload_n 1, 1) := by decide +kernel
theorem d_MO_spread_35 : decode b_MO_spread 35 = .ok (.iload_n 2, 1) := by decide +kernel
theorem d_MO_spread_36 : decode b_MO_spread 36 = .ok (.ineg, 1) := by decide +kernel
theorem d_MO_spread_37 : decode b_MO_spread 37 = .ok (.iastore, 1) := by decide +kernel
theorem d_MO_spread_38 : decode b_MO_spread 38 = .ok (.goto 15, 3) := by decide +kernel
theorem d_MO_spread_41 : decode b_MO_spread 41 = .ok (.aload_n 0, 1) := by decide +kernel
theorem d_MO_spread_42 : decode b_MO_spread 42 = .ok (.getfield 78, 3) := by decide +kernel
theorem d_MO_spread_45 : decode b_MO_spread 45 = .ok (.aload_n 0, 1) := by decide +kernel
theorem d_MO_spread_46 : decode b_MO_spread 46 = .ok (.getfield 143, 3) := by decide +kernel
theorem d_MO_spread_49 : decode b_MO_spread 49 = .ok (.iconst 1, 1) := by decide +kernel
theorem d_MO_spread_50 : decode b_MO_spread 50 = .ok (.isub, 1) := by decide +kernel
theorem d_MO_spread_51 : decode b_MO_spread 51 = .ok (.iload_n 2, 1) := by decide +kernel
theorem d_MO_spread_52 : decode b_MO_spread 52 = .ok (.iastore, 1) := by decide +kernel
theorem d_MO_spread_53 : decode b_MO_spread 53 = .ok (.return_, 1) := by decide +kernel
theorem d_MO_work_0 : decode b_MO_work 0 = .ok (.aload_n 0, 1) := by decide +kernel
theorem d_MO_work_1 : decode b_MO_work 1 = .ok (.iload_n 1, 1) := by decide +kernel
theorem d_MO_work_2 : decode b_MO_work 2 = .ok (.ifCond .lt 28, 3) := by decide +kernel
theorem d_MO_work_5 : decode b_MO_work 5 = .ok (.iload_n 1, 1) := by decide +kernel
theorem d_MO_work_6 : decode b_MO_work 6 = .ok (.iconst 2, 1) := by decide +kernel
theorem d_MO_work_7 : decode b_MO_work 7 = .ok (.if_icmp .gt 23, 3) := by decide +kernel
theorem d_MO_work_10 : decode b_MO_work 10 = .ok (.iload_n 2, 1) := by decide +kernel
theorem d_MO_work_11 : decode b_MO_work 11 = .ok (.ifCond .lt 19, 3) := by decide +kernel
theorem d_MO_work_14 : decode b_MO_work 14 = .ok (.iload_n 2, 1) := by decide +kernel
theorem d_MO_work_15 : decode b_MO_work 15 = .ok (.iload_n 1, 1) := by decide +kernel
theorem d_MO_work_16 : decode b_MO_work 16 = .ok (.iconst 2, 1) := by decide +kernel
theorem d_MO_work_17 : decode b_MO_work 17 = .ok (.if_icmp .ne 8, 3) := by decide +kernel
theorem d_MO_work_20 : decode b_MO_work 20 = .ok (.bipush 10, 2) := by decide +kernel
theorem d_MO_work_22 : decode b_MO_work 22 = .ok (.goto 5, 3) := by decide +kernel
theorem d_MO_work_25 : decode b_MO_work 25 = .ok (.bipush 16, 2) := by decide +kernel
theorem d_MO_work_27 : decode b_MO_work 27 = .ok (.if_icmp .le 7, 3) := by decide +kernel
theorem d_MO_work_30 : decode b_MO_work 30 = .ok (.iconst 1, 1) := by decide +kernel
theorem d_MO_work_31 : decode b_MO_work 31 = .ok (.goto 15, 3) := by decide +kernel
theorem d_MO_work_34 : decode b_MO_work 34 = .ok (.aload_n 0, 1) := by decide +kernel
theorem d_MO_work_35 : decode b_MO_work 35 = .ok (.getfield 133, 3) := by decide +kernel
theorem d_MO_work_38 : decode b_MO_work 38 = .ok (.ifCond .eq 7, 3) := by decide +kernel
theorem d_MO_work_41 : decode b_MO_work 41 = .ok (.iconst 0, 1) := by decide +kernel
theorem d_MO_work_42 : decode b_MO_work 42 = .ok (.goto 4, 3) := by decide +kernel
theorem d_MO_work_45 : decode b_MO_work 45 = .ok (.iconst 2, 1) := by decide +kernel
theorem d_MO_work_46 : decode b_MO_work 46 = .ok (.putfield 81, 3) := by decide +kernel
theorem d_MO_work_49 : decode b_MO_work 49 = .ok (.aload_n 0, 1) := by decide +kernel
theorem d_MO_work_50 : decode b_MO_work 50 = .ok (.getfield 81, 3) := by decide +kernel
theorem d_MO_work_53 : decode b_MO_work 53 = .ok (.ifCond .le 5, 3) := by decide +kernel
theorem d_MO_work_56 : decode b_MO_work 56 = .ok (.iconst 0, 1) := by decide +kernel
theorem d_MO_work_57 : decode b_MO_work 57 = .ok (.ireturn, 1) := by decide +kernel
theorem d_MO_work_58 : decode b_MO_work 58 = .ok (.aload_n 0, 1) := by decide +kernel
theorem d_MO_work_59 : decode b_MO_work 59 = .ok (.getfield 41, 3) := by decide +kernel
theorem d_MO_work_62 : decode b_MO_work 62 = .ok (.iload_n 1, 1) := by decide +kernel
theorem d_MO_work_63 : decode b_MO_work 63 = .ok (.iconst 0, 1) := by decide +kernel
theorem d_MO_work_64 : decode b_MO_work 64 = .ok (.bastore, 1) := by decide +kernel
theorem d_MO_work_65 : decode b_MO_work 65 = .ok (.aload_n 0, 1) := by decide +kernel
theorem d_MO_work_66 : decode b_MO_work 66 = .ok (.getfield 48, 3) := by decide +kernel
theorem d_MO_work_69 : decode b_MO_work 69 = .ok (.iload_n 1, 1) := by decide +kernel
theorem d_MO_work_70 : decode b_MO_work 70 = .ok (.iconst 0, 1) := by decide +kernel
theorem d_MO_work_71 : decode b_MO_work 71 = .ok (.iastore, 1) := by decide +kernel
theorem d_MO_work_72 : decode b_MO_work 72 = .ok (.aload_n 0, 1) := by decide +kernel
theorem d_MO_work_73 : decode b_MO_work 73 = .ok (.aload_n 0, 1) := by decide +kernel
theorem d_MO_work_74 : decode b_MO_work 74 = .ok (.getfield 146, 3) := by decide +kernel
theorem d_MO_work_77 : decode b_MO_work 77 = .ok (.ifCond .eq 12, 3) := by decide +kernel
theorem d_MO_work_80 : decode b_MO_work 80 = .ok (.iload_n 1, 1) := by decide +kernel
theorem d_MO_work_81 : decode b_MO_work 81 = .ok (.iconst 2, 1) := by decide +kernel
theorem d_MO_work_82 : decode b_MO_work 82 = .ok (.if_icmp .ne 7, 3) := by decide +kernel
theorem d_MO_work_85 : decode b_MO_work 85 = .ok (.iconst 1, 1) := by decide +kernel
theorem d_MO_work_86 : decode b_MO_work 86 = .ok (.goto 4, 3) := by decide +kernel
theorem d_MO_work_89 : decode b_MO_work 89 = .ok (.iconst 0, 1) := by decide +kernel
theorem d_MO_work_90 : decode b_MO_work 90 = .ok (.putfield 146, 3) := by decide +kernel
theorem d_MO_work_93 : decode b_MO_work 93 = .ok (.iconst 1, 1) := by decide +kernel
theorem d_MO_work_94 : decode b_MO_work 94 = .ok (.istore_n 3, 1) := by decide +kernel
theorem d_MO_work_95 : decode b_MO_work 95 = .ok (.iconst 0, 1) := by decide +kernel
theorem d_MO_work_96 : decode b_MO_work 96 = .ok (.istore 4, 2) := by decide +kernel
theorem d_MO_work_98 : decode b_MO_work 98 = .ok (.iload 4, 2) := by decide +kernel
theorem d_MO_work_100 : decode b_MO_work 100 = .ok (.aload_n 0, 1) := by decide +kernel
theorem d_MO_work_101 : decode b_MO_work 101 = .ok (.iload_n 2, 1) := by decide +kernel
theorem d_MO_work_102 : decode b_MO_work 102 = .ok (.invokevirtual 210, 3) := by decide +kernel
theorem d_MO_work_105 : decode b_MO_work 105 = .ok (.if_icmp .gt 108, 3) := by decide +kernel
theorem d_MO_work_108 : decode b_MO_work 108 = .ok (.iload_n 3, 1) := by decide +kernel
theorem d_MO_work_109 : decode b_MO_work 109 = .ok (.ifCond .eq 104, 3) := by decide +kernel
theorem d_MO_work_112 : decode b_MO_work 112 = .ok (.aload_n 0, 1) := by decide +kernel
theorem d_MO_work_113 : decode b_MO_work 113 = .ok (.iload 4, 2) := by decide +kernel
theorem d_MO_work_115 : decode b_MO_work 115 = .ok (.iload_n 1, 1) := by decide +kernel
theorem d_MO_work_116 : decode b_MO_work 116 = .ok (.iconst 2, 1) := by decide +kernel
theorem d_MO_work_117 : decode b_MO_work 117 = .ok (.if_icmp .ne 7, 3) := by decide +kernel
theorem d_MO_work_120 : decode b_MO_work 120 = .ok (.iconst 1, 1) := by decide +kernel
