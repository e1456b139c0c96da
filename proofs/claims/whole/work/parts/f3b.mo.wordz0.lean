theorem d_MO_build_0 : decode b_MO_build 0 = .ok (.aload_n 0, 1) := by decide +kernel
theorem d_MO_build_1 : decode b_MO_build 1 = .ok (.iconst 0, 1) := by decide +kernel
theorem d_MO_build_2 : decode b_MO_build 2 = .ok (.putfield 104, 3) := by decide +kernel
theorem d_MO_build_5 : decode b_MO_build 5 = .ok (.aload_n 0, 1) := by decide +kernel
theorem d_MO_build_6 : decode b_MO_build 6 = .ok (.iconst 0, 1) := by decide +kernel
theorem d_MO_build_7 : decode b_MO_build 7 = .ok (.putfield 107, 3) := by decide +kernel
theorem d_MO_build_10 : decode b_MO_build 10 = .ok (.aload_n 0, 1) := by decide +kernel
theorem d_MO_build_11 : decode b_MO_build 11 = .ok (.iconst 0, 1) := by decide +kernel
theorem d_MO_build_12 : decode b_MO_build 12 = .ok (.putfield 110, 3) := by decide +kernel
theorem d_MO_build_15 : decode b_MO_build 15 = .ok (.iconst 0, 1) := by decide +kernel
theorem d_MO_build_16 : decode b_MO_build 16 = .ok (.istore_n 1, 1) := by decide +kernel
theorem d_MO_build_17 : decode b_MO_build 17 = .ok (.iload_n 1, 1) := by decide +kernel
theorem d_MO_build_18 : decode b_MO_build 18 = .ok (.bipush 28, 2) := by decide +kernel
theorem d_MO_build_20 : decode b_MO_build 20 = .ok (.if_icmp .ge 16, 3) := by decide +kernel
theorem d_MO_build_23 : decode b_MO_build 23 = .ok (.aload_n 0, 1) := by decide +kernel
theorem d_MO_build_24 : decode b_MO_build 24 = .ok (.getfield 29, 3) := by decide +kernel
theorem d_MO_build_27 : decode b_MO_build 27 = .ok (.iload_n 1, 1) := by decide +kernel
theorem d_MO_build_28 : decode b_MO_build 28 = .ok (.iconst 0, 1) := by decide +kernel
theorem d_MO_build_29 : decode b_MO_build 29 = .ok (.iastore, 1) := by decide +kernel
theorem d_MO_build_30 : decode b_MO_build 30 = .ok (.iinc 1 1, 3) := by decide +kernel
theorem d_MO_build_33 : decode b_MO_build 33 = .ok (.goto (-16), 3) := by decide +kernel
theorem d_MO_build_36 : decode b_MO_build 36 = .ok (.iconst 0, 1) := by decide +kernel
theorem d_MO_build_37 : decode b_MO_build 37 = .ok (.istore_n 1, 1) := by decide +kernel
theorem d_MO_build_38 : decode b_MO_build 38 = .ok (.aload_n 0, 1) := by decide +kernel
theorem d_MO_build_39 : decode b_MO_build 39 = .ok (.getfield 17, 3) := by decide +kernel
theorem d_MO_build_42 : decode b_MO_build 42 = .ok (.iload_n 1, 1) := by decide +kernel
theorem d_MO_build_43 : decode b_MO_build 43 = .ok (.iaload, 1) := by decide +kernel
theorem d_MO_build_44 : decode b_MO_build 44 = .ok (.ifCond .eq 560, 3) := by decide +kernel
theorem d_MO_build_47 : decode b_MO_build 47 = .ok (.aload_n 0, 1) := by decide +kernel
theorem d_MO_build_48 : decode b_MO_build 48 = .ok (.getfield 110, 3) := by decide +kernel
theorem d_MO_build_51 : decode b_MO_build 51 = .ok (.iconst 4, 1) := by decide +kernel
theorem d_MO_build_52 : decode b_MO_build 52 = .ok (.if_icmp .ne 15, 3) := by decide +kernel
theorem d_MO_build_55 : decode b_MO_build 55 = .ok (.aload_n 0, 1) := by decide +kernel
theorem d_MO_build_56 : decode b_MO_build 56 = .ok (.iconst 2, 1) := by decide +kernel
theorem d_MO_build_57 : decode b_MO_build 57 = .ok (.aload_n 0, 1) := by decide +kernel
theorem d_MO_build_58 : decode b_MO_build 58 = .ok (.getfield 20, 3) := by decide +kernel
theorem d_MO_build_61 : decode b_MO_build 61 = .ok (.iload_n 1, 1) := by decide +kernel
theorem d_MO_build_62 : decode b_MO_build 62 = .ok (.iaload, 1) := by decide +kernel
theorem d_MO_build_63 : decode b_MO_build 63 = .ok (.invokevirtual 113, 3) := by decide +kernel
theorem d_MO_build_66 : decode b_MO_build 66 = .ok (.ireturn, 1) := by decide +kernel
theorem d_MO_build_67 : decode b_MO_build 67 = .ok (.iconst 1, 1) := by decide +kernel
theorem d_MO_build_68 : decode b_MO_build 68 = .ok (.istore_n 2, 1) := by decide +kernel
theorem d_MO_build_69 : decode b_MO_build 69 = .ok (.iconst 1, 1) := by decide +kernel
theorem d_MO_build_70 : decode b_MO_build 70 = .ok (.istore_n 3, 1) := by decide +kernel
theorem d_MO_build_71 : decode b_MO_build 71 = .ok (.iload_n 1, 1) := by decide +kernel
theorem d_MO_build_72 : decode b_MO_build 72 = .ok (.istore 4, 2) := by decide +kernel
theorem d_MO_build_74 : decode b_MO_build 74 = .ok (.aload_n 0, 1) := by decide +kernel
theorem d_MO_build_75 : decode b_MO_build 75 = .ok (.getfield 17, 3) := by decide +kernel
theorem d_MO_build_78 : decode b_MO_build 78 = .ok (.iload_n 1, 1) := by decide +kernel
theorem d_MO_build_79 : decode b_MO_build 79 = .ok (.iaload, 1) := by decide +kernel
theorem d_MO_build_80 : decode b_MO_build 80 = .ok (.bipush 6, 2) := by decide +kernel
theorem d_MO_build_82 : decode b_MO_build 82 = .ok (.if_icmp .eq 327, 3) := by decide +kernel
theorem d_MO_build_85 : decode b_MO_build 85 = .ok (.aload_n 0, 1) := by decide +kernel
theorem d_MO_build_86 : decode b_MO_build 86 = .ok (.getfield 17, 3) := by decide +kernel
theorem d_MO_build_89 : decode b_MO_build 89 = .ok (.iload_n 1, 1) := by decide +kernel
theorem d_MO_build_90 : decode b_MO_build 90 = .ok (.iaload, 1) := by decide +kernel
theorem d_MO_build_91 : decode b_MO_build 91 = .ok (.ifCond .eq 318, 3) := by decide +kernel
theorem d_MO_build_94 : decode b_MO_build 94 = .ok (.aload_n 0, 1) := by decide +kernel
theorem d_MO_build_95 : decode b_MO_build 95 = .ok (.getfield 17, 3) := by decide +kernel
theorem d_MO_build_98 : decode b_MO_build 98 = .ok (.iload_n 1, 1) := by decide +kernel
theorem d_MO_build_99 : decode b_MO_build 99 = .ok (.iaload, 1) := by decide +kernel
theorem d_MO_build_100 : decode b_MO_build 100 = .ok (.istore 5, 2) := by decide +kernel
theorem d_MO_build_102 : decode b_MO_build 102 = .ok (.iload 5, 2) := by decide +kernel
theorem d_MO_build_104 : decode b_MO_build 104 = .ok (.iconst 3, 1) := by decide +kernel
theorem d_MO_build_105 : decode b_MO_build 105 = .ok (.if_icmp .eq 9, 3) := by decide +kernel
theorem d_MO_build_108 : decode b_MO_build 108 = .ok (.iload 5, 2) := by decide +kernel
theorem d_MO_build_110 : decode b_MO_build 110 = .ok (.iconst 4, 1) := by decide +kernel
theorem d_MO_build_111 : decode b_MO_build 111 = .ok (.if_icmp .ne 18, 3) := by decide +kernel
theorem d_MO_build_114 : decode b_MO_build 114 = .ok (.iload 5, 2) := by decide +kernel
theorem d_MO_build_116 : decode b_MO_build 116 = .ok (.iconst 3, 1) := by decide +kernel
theorem d_MO_build_117 : decode b_MO_build 117 = .ok (.if_icmp .ne 7, 3) := by decide +kernel
theorem d_MO_build_120 : decode b_MO_build 120 = .ok (.iconst 1, 1) := by decide +kernel
theorem d_MO_build_121 : decode b_MO_build 121 = .ok (.goto 4, 3) := by decide +kernel
theorem d_MO_build_124 : decode b_MO_build 124 = .ok (.iconst (-1), 1) := by decide +kernel
theorem d_MO_build_125 : decode b_MO_build 125 = .ok (.istore_n 2, 1) := by decide +kernel
theorem d_MO_build_126 : decode b_MO_build 126 = .ok (.goto 277, 3) := by decide +kernel
theorem d_MO_build_129 : decode b_MO_build 129 = .ok (.iload 5, 2) := by decide +kernel
theorem d_MO_build_131 : decode b_MO_build 131 = .ok (.bipush 7, 2) := by decide +kernel
theorem d_MO_build_133 : decode b_MO_build 133 = .ok (.if_icmp .lt 13, 3) := by decide +kernel
theorem d_MO_build_136 : decode b_MO_build 136 = .ok (.iload_n 1, 1) := by decide +kernel
theorem d_MO_build_137 : decode b_MO_build 137 = .ok (.istore 4, 2) := by decide +kernel
theorem d_MO_build_139 : decode b_MO_build 139 = .ok (.iconst (-1), 1) := by decide +kernel
theorem d_MO_build_140 : decode b_MO_build 140 = .ok (.istore_n 3, 1) := by decide +kernel
theorem d_MO_build_141 : decode b_MO_build 141 = .ok (.iconst 1, 1) := by decide +kernel
theorem d_MO_build_142 : decode b_MO_build 142 = .ok (.istore_n 2, 1) := by decide +kernel
theorem d_MO_build_143 : decode b_MO_build 143 = .ok (.goto 260, 3) := by decide +kernel
theorem d_MO_build_146 : decode b_MO_build 146 = .ok (.iload 5, 2) := by decide +kernel
theorem d_MO_build_148 : decode b_MO_build 148 = .ok (.iconst 1, 1) := by decide +kernel
theorem d_MO_build_149 : decode b_MO_build 149 = .ok (.if_icmp .ne 83, 3) := by decide +kernel
theorem d_MO_build_152 : decode b_MO_build 152 = .ok (.aload_n 0, 1) := by decide +kernel
theorem d_MO_build_153 : decode b_MO_build 153 = .ok (.getfield 17, 3) := by decide +kernel
theorem d_MO_build_156 : decode b_MO_build 156 = .ok (.iload_n 1, 1) := by decide +kernel
theorem d_MO_build_157 : decode b_MO_build 157 = .ok (.iconst 1, 1) := by decide +kernel
theorem d_MO_build_158 : decode b_MO_build 158 = .ok (.iadd, 1) := by decide +kernel
theorem d_MO_build_159 : decode b_MO_build 159 = .ok (.iaload, 1) := by decide +kernel
theorem d_MO_build_160 : decode b_MO_build 160 = .ok (.iconst 2, 1) := by decide +kernel
theorem d_MO_build_161 : decode b_MO_build 161 = .ok (.if_icmp .eq 19, 3) := by decide +kernel
theorem d_MO_build_164 : decode b_MO_build 164 = .ok (.aload_n 0, 1) := by decide +kernel
theorem d_MO_build_165 : decode b_MO_build 165 = .ok (.getfield 17, 3) := by decide +kernel
theorem d_MO_build_168 : decode b_MO_build 168 = .ok (.iload_n 1, 1) := by decide +kernel
theorem d_MO_build_169 : decode b_MO_build 169 = .ok (.iconst 1, 1) := by decide +kernel
theorem d_MO_build_170 : decode b_MO_build 170 = .ok (.iadd, 1) := by decide +kernel
theorem d_MO_build_171 : decode b_MO_build 171 = .ok (.iaload, 1) := by decide +kernel
theorem d_MO_build_172 : decode b_MO_build 172 = .ok (.iconst 5, 1) := by decide +kernel
theorem d_MO_build_173 : decode b_MO_build 173 = .ok (.if_icmp .eq 7, 3) := by decide +kernel
theorem d_MO_build_176 : decode b_MO_build 176 = .ok (.iconst 1, 1) := by decide +kernel
theorem d_MO_build_177 : decode b_MO_build 177 = .ok (.goto 4, 3) := by decide +kernel
theorem d_MO_build_180 : decode b_MO_build 180 = .ok (.iconst 0, 1) := by decide +kernel
theorem d_MO_build_181 : decode b_MO_build 181 = .ok (.istore 6, 2) := by decide +kernel
theorem d_MO_build_183 : decode b_MO_build 183 = .ok (.iload 6, 2) := by decide +kernel
theorem d_MO_build_185 : decode b_MO_build 185 = .ok (.ifCond .eq 44, 3) := by decide +kernel
theorem d_MO_build_188 : decode b_MO_build 188 = .ok (.aload_n 0, 1) := by decide +kernel
theorem d_MO_build_189 : decode b_MO_build 189 = .ok (.getfield 29, 3) := by decide +kernel
theorem d_MO_build_192 : decode b_MO_build 192 = .ok (.bipush 7, 2) := by decide +kernel
theorem d_MO_build_194 : decode b_MO_build 194 = .ok (.aload_n 0, 1) := by decide +kernel
theorem d_MO_build_195 : decode b_MO_build 195 = .ok (.getfield 110, 3) := by decide +kernel
theorem d_MO_build_198 : decode b_MO_build 198 = .ok (.imul, 1) := by decide +kernel
theorem d_MO_build_199 : decode b_MO_build 199 = .ok (.bipush 6, 2) := by decide +kernel
theorem d_MO_build_201 : decode b_MO_build 201 = .ok (.iadd, 1) := by decide +kernel
theorem d_MO_build_202 : decode b_MO_build 202 = .ok (.aload_n 0, 1) := by decide +kernel
theorem d_MO_build_203 : decode b_MO_build 203 = .ok (.getfield 29, 3) := by decide +kernel
theorem d_MO_build_206 : decode b_MO_build 206 = .ok (.bipush 7, 2) := by decide +kernel
theorem d_MO_build_208 : decode b_MO_build 208 = .ok (.aload_n 0, 1) := by decide +kernel
theorem d_MO_build_209 : decode b_MO_build 209 = .ok (.getfield 110, 3) := by decide +kernel
theorem d_MO_build_212 : decode b_MO_build 212 = .ok (.imul, 1) := by decide +kernel
theorem d_MO_build_213 : decode b_MO_build 213 = .ok (.bipush 6, 2) := by decide +kernel
theorem d_MO_build_215 : decode b_MO_build 215 = .ok (.iadd, 1) := by decide +kernel
theorem d_MO_build_216 : decode b_MO_build 216 = .ok (.iaload, 1) := by decide +kernel
theorem d_MO_build_217 : decode b_MO_build 217 = .ok (.iload_n 3, 1) := by decide +kernel
theorem d_MO_build_218 : decode b_MO_build 218 = .ok (.iload_n 2, 1) := by decide +kernel
theorem d_MO_build_219 : decode b_MO_build 219 = .ok (.imul, 1) := by decide +kernel
theorem d_MO_build_220 : decode b_MO_build 220 = .ok (.aload_n 0, 1) := by decide +kernel
theorem d_MO_build_221 : decode b_MO_build 221 = .ok (.getfield 23, 3) := by decide +kernel
theorem d_MO_build_224 : decode b_MO_build 224 = .ok (.iload_n 1, 1) := by decide +kernel
theorem d_MO_build_225 : decode b_MO_build 225 = .ok (.iaload, 1) := by decide +kernel
theorem d_MO_build_226 : decode b_MO_build 226 = .ok (.imul, 1) := by decide +kernel
theorem d_MO_build_227 : decode b_MO_build 227 = .ok (.isub, 1) := by decide +kernel
theorem d_MO_build_228 : decode b_MO_build 228 = .ok (.iastore, 1) := by decide +kernel
theorem d_MO_build_229 : decode b_MO_build 229 = .ok (.goto 174, 3) := by decide +kernel
theorem d_MO_build_232 : decode b_MO_build 232 = .ok (.iload 5, 2) := by decide +kernel
theorem d_MO_build_234 : decode b_MO_build 234 = .ok (.iconst 2, 1) := by decide +kernel
theorem d_MO_build_235 : decode b_MO_build 235 = .ok (.if_icmp .ne 168, 3) := by decide +kernel
theorem d_MO_build_238 : decode b_MO_build 238 = .ok (.aload_n 0, 1) := by decide +kernel
theorem d_MO_build_239 : decode b_MO_build 239 = .ok (.aload_n 0, 1) := by decide +kernel
theorem d_MO_build_240 : decode b_MO_build 240 = .ok (.getfield 23, 3) := by decide +kernel
theorem d_MO_build_243 : decode b_MO_build 243 = .ok (.iload_n 1, 1) := by decide +kernel
theorem d_MO_build_244 : decode b_MO_build 244 = .ok (.iaload, 1) := by decide +kernel
theorem d_MO_build_245 : decode b_MO_build 245 = .ok (.invokevirtual 117, 3) := by decide +kernel
theorem d_MO_build_248 : decode b_MO_build 248 = .ok (.istore 6, 2) := by decide +kernel
theorem d_MO_build_250 : decode b_MO_build 250 = .ok (.iload 6, 2) := by decide +kernel
