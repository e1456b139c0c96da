theorem d_MO_gather_0 : decode b_MO_gather 0 = .ok (.iconst 1, 1) := by decide +kernel
theorem d_MO_gather_1 : decode b_MO_gather 1 = .ok (.istore_n 3, 1) := by decide +kernel
theorem d_MO_gather_2 : decode b_MO_gather 2 = .ok (.iload_n 3, 1) := by decide +kernel
theorem d_MO_gather_3 : decode b_MO_gather 3 = .ok (.ifCond .eq 203, 3) := by decide +kernel
theorem d_MO_gather_6 : decode b_MO_gather 6 = .ok (.iconst (-1), 1) := by decide +kernel
theorem d_MO_gather_7 : decode b_MO_gather 7 = .ok (.istore 4, 2) := by decide +kernel
theorem d_MO_gather_9 : decode b_MO_gather 9 = .ok (.iconst 0, 1) := by decide +kernel
theorem d_MO_gather_10 : decode b_MO_gather 10 = .ok (.istore 5, 2) := by decide +kernel
theorem d_MO_gather_12 : decode b_MO_gather 12 = .ok (.iload_n 1, 1) := by decide +kernel
theorem d_MO_gather_13 : decode b_MO_gather 13 = .ok (.istore 6, 2) := by decide +kernel
theorem d_MO_gather_15 : decode b_MO_gather 15 = .ok (.iload 6, 2) := by decide +kernel
theorem d_MO_gather_17 : decode b_MO_gather 17 = .ok (.aload_n 0, 1) := by decide +kernel
theorem d_MO_gather_18 : decode b_MO_gather 18 = .ok (.getfield 152, 3) := by decide +kernel
theorem d_MO_gather_21 : decode b_MO_gather 21 = .ok (.if_icmp .ge 84, 3) := by decide +kernel
theorem d_MO_gather_24 : decode b_MO_gather 24 = .ok (.aload_n 0, 1) := by decide +kernel
theorem d_MO_gather_25 : decode b_MO_gather 25 = .ok (.getfield 68, 3) := by decide +kernel
theorem d_MO_gather_28 : decode b_MO_gather 28 = .ok (.bipush 6, 2) := by decide +kernel
theorem d_MO_gather_30 : decode b_MO_gather 30 = .ok (.iload 6, 2) := by decide +kernel
theorem d_MO_gather_32 : decode b_MO_gather 32 = .ok (.imul, 1) := by decide +kernel
theorem d_MO_gather_33 : decode b_MO_gather 33 = .ok (.iload_n 2, 1) := by decide +kernel
theorem d_MO_gather_34 : decode b_MO_gather 34 = .ok (.iadd, 1) := by decide +kernel
theorem d_MO_gather_35 : decode b_MO_gather 35 = .ok (.laload, 1) := by decide +kernel
theorem d_MO_gather_36 : decode b_MO_gather 36 = .ok (.lstore 7, 2) := by decide +kernel
theorem d_MO_gather_38 : decode b_MO_gather 38 = .ok (.iload 4, 2) := by decide +kernel
theorem d_MO_gather_40 : decode b_MO_gather 40 = .ok (.ifCond .ge 7, 3) := by decide +kernel
theorem d_MO_gather_43 : decode b_MO_gather 43 = .ok (.lconst 0, 1) := by decide +kernel
theorem d_MO_gather_44 : decode b_MO_gather 44 = .ok (.goto 15, 3) := by decide +kernel
theorem d_MO_gather_47 : decode b_MO_gather 47 = .ok (.aload_n 0, 1) := by decide +kernel
theorem d_MO_gather_48 : decode b_MO_gather 48 = .ok (.getfield 68, 3) := by decide +kernel
theorem d_MO_gather_51 : decode b_MO_gather 51 = .ok (.bipush 6, 2) := by decide +kernel
theorem d_MO_gather_53 : decode b_MO_gather 53 = .ok (.iload 4, 2) := by decide +kernel
theorem d_MO_gather_55 : decode b_MO_gather 55 = .ok (.imul, 1) := by decide +kernel
theorem d_MO_gather_56 : decode b_MO_gather 56 = .ok (.iload_n 2, 1) := by decide +kernel
theorem d_MO_gather_57 : decode b_MO_gather 57 = .ok (.iadd, 1) := by decide +kernel
theorem d_MO_gather_58 : decode b_MO_gather 58 = .ok (.laload, 1) := by decide +kernel
theorem d_MO_gather_59 : decode b_MO_gather 59 = .ok (.lstore 9, 2) := by decide +kernel
theorem d_MO_gather_61 : decode b_MO_gather 61 = .ok (.lload 7, 2) := by decide +kernel
theorem d_MO_gather_63 : decode b_MO_gather 63 = .ok (.lconst 0, 1) := by decide +kernel
theorem d_MO_gather_64 : decode b_MO_gather 64 = .ok (.lcmp, 1) := by decide +kernel
theorem d_MO_gather_65 : decode b_MO_gather 65 = .ok (.ifCond .eq 34, 3) := by decide +kernel
theorem d_MO_gather_68 : decode b_MO_gather 68 = .ok (.iinc 5 1, 3) := by decide +kernel
theorem d_MO_gather_71 : decode b_MO_gather 71 = .ok (.iload 4, 2) := by decide +kernel
theorem d_MO_gather_73 : decode b_MO_gather 73 = .ok (.ifCond .lt 17, 3) := by decide +kernel
theorem d_MO_gather_76 : decode b_MO_gather 76 = .ok (.lload 7, 2) := by decide +kernel
theorem d_MO_gather_78 : decode b_MO_gather 78 = .ok (.invokestatic 155, 3) := by decide +kernel
theorem d_MO_gather_81 : decode b_MO_gather 81 = .ok (.lload 9, 2) := by decide +kernel
theorem d_MO_gather_83 : decode b_MO_gather 83 = .ok (.invokestatic 155, 3) := by decide +kernel
theorem d_MO_gather_86 : decode b_MO_gather 86 = .ok (.lcmp, 1) := by decide +kernel
theorem d_MO_gather_87 : decode b_MO_gather 87 = .ok (.ifCond .ge 8, 3) := by decide +kernel
theorem d_MO_gather_90 : decode b_MO_gather 90 = .ok (.iload 6, 2) := by decide +kernel
theorem d_MO_gather_92 : decode b_MO_gather 92 = .ok (.goto 5, 3) := by decide +kernel
theorem d_MO_gather_95 : decode b_MO_gather 95 = .ok (.iload 4, 2) := by decide +kernel
theorem d_MO_gather_97 : decode b_MO_gather 97 = .ok (.istore 4, 2) := by decide +kernel
theorem d_MO_gather_99 : decode b_MO_gather 99 = .ok (.iinc 6 1, 3) := by decide +kernel
theorem d_MO_gather_102 : decode b_MO_gather 102 = .ok (.goto (-87), 3) := by decide +kernel
theorem d_MO_gather_105 : decode b_MO_gather 105 = .ok (.iload 5, 2) := by decide +kernel
theorem d_MO_gather_107 : decode b_MO_gather 107 = .ok (.ifCond .ne 5, 3) := by decide +kernel
theorem d_MO_gather_110 : decode b_MO_gather 110 = .ok (.iconst 0, 1) := by decide +kernel
theorem d_MO_gather_111 : decode b_MO_gather 111 = .ok (.ireturn, 1) := by decide +kernel
theorem d_MO_gather_112 : decode b_MO_gather 112 = .ok (.aload_n 0, 1) := by decide +kernel
theorem d_MO_gather_113 : decode b_MO_gather 113 = .ok (.iload_n 1, 1) := by decide +kernel
theorem d_MO_gather_114 : decode b_MO_gather 114 = .ok (.iload 4, 2) := by decide +kernel
theorem d_MO_gather_116 : decode b_MO_gather 116 = .ok (.invokevirtual 159, 3) := by decide +kernel
theorem d_MO_gather_119 : decode b_MO_gather 119 = .ok (.aload_n 0, 1) := by decide +kernel
theorem d_MO_gather_120 : decode b_MO_gather 120 = .ok (.getfield 68, 3) := by decide +kernel
theorem d_MO_gather_123 : decode b_MO_gather 123 = .ok (.bipush 6, 2) := by decide +kernel
theorem d_MO_gather_125 : decode b_MO_gather 125 = .ok (.iload_n 1, 1) := by decide +kernel
theorem d_MO_gather_126 : decode b_MO_gather 126 = .ok (.imul, 1) := by decide +kernel
theorem d_MO_gather_127 : decode b_MO_gather 127 = .ok (.iload_n 2, 1) := by decide +kernel
theorem d_MO_gather_128 : decode b_MO_gather 128 = .ok (.iadd, 1) := by decide +kernel
theorem d_MO_gather_129 : decode b_MO_gather 129 = .ok (.laload, 1) := by decide +kernel
theorem d_MO_gather_130 : decode b_MO_gather 130 = .ok (.lconst 0, 1) := by decide +kernel
theorem d_MO_gather_131 : decode b_MO_gather 131 = .ok (.lcmp, 1) := by decide +kernel
theorem d_MO_gather_132 : decode b_MO_gather 132 = .ok (.ifCond .ge 8, 3) := by decide +kernel
theorem d_MO_gather_135 : decode b_MO_gather 135 = .ok (.aload_n 0, 1) := by decide +kernel
theorem d_MO_gather_136 : decode b_MO_gather 136 = .ok (.iload_n 1, 1) := by decide +kernel
theorem d_MO_gather_137 : decode b_MO_gather 137 = .ok (.invokevirtual 163, 3) := by decide +kernel
theorem d_MO_gather_140 : decode b_MO_gather 140 = .ok (.iload_n 1, 1) := by decide +kernel
theorem d_MO_gather_141 : decode b_MO_gather 141 = .ok (.iconst 1, 1) := by decide +kernel
theorem d_MO_gather_142 : decode b_MO_gather 142 = .ok (.iadd, 1) := by decide +kernel
theorem d_MO_gather_143 : decode b_MO_gather 143 = .ok (.istore 6, 2) := by decide +kernel
theorem d_MO_gather_145 : decode b_MO_gather 145 = .ok (.iload 6, 2) := by decide +kernel
theorem d_MO_gather_147 : decode b_MO_gather 147 = .ok (.aload_n 0, 1) := by decide +kernel
theorem d_MO_gather_148 : decode b_MO_gather 148 = .ok (.getfield 152, 3) := by decide +kernel
theorem d_MO_gather_151 : decode b_MO_gather 151 = .ok (.if_icmp .ge 40, 3) := by decide +kernel
theorem d_MO_gather_154 : decode b_MO_gather 154 = .ok (.aload_n 0, 1) := by decide +kernel
theorem d_MO_gather_155 : decode b_MO_gather 155 = .ok (.iload 6, 2) := by decide +kernel
theorem d_MO_gather_157 : decode b_MO_gather 157 = .ok (.iload_n 1, 1) := by decide +kernel
theorem d_MO_gather_158 : decode b_MO_gather 158 = .ok (.aload_n 0, 1) := by decide +kernel
theorem d_MO_gather_159 : decode b_MO_gather 159 = .ok (.getfield 68, 3) := by decide +kernel
theorem d_MO_gather_162 : decode b_MO_gather 162 = .ok (.bipush 6, 2) := by decide +kernel
theorem d_MO_gather_164 : decode b_MO_gather 164 = .ok (.iload 6, 2) := by decide +kernel
theorem d_MO_gather_166 : decode b_MO_gather 166 = .ok (.imul, 1) := by decide +kernel
theorem d_MO_gather_167 : decode b_MO_gather 167 = .ok (.iload_n 2, 1) := by decide +kernel
theorem d_MO_gather_168 : decode b_MO_gather 168 = .ok (.iadd, 1) := by decide +kernel
theorem d_MO_gather_169 : decode b_MO_gather 169 = .ok (.laload, 1) := by decide +kernel
theorem d_MO_gather_170 : decode b_MO_gather 170 = .ok (.aload_n 0, 1) := by decide +kernel
theorem d_MO_gather_171 : decode b_MO_gather 171 = .ok (.getfield 68, 3) := by decide +kernel
theorem d_MO_gather_174 : decode b_MO_gather 174 = .ok (.bipush 6, 2) := by decide +kernel
theorem d_MO_gather_176 : decode b_MO_gather 176 = .ok (.iload_n 1, 1) := by decide +kernel
theorem d_MO_gather_177 : decode b_MO_gather 177 = .ok (.imul, 1) := by decide +kernel
theorem d_MO_gather_178 : decode b_MO_gather 178 = .ok (.iload_n 2, 1) := by decide +kernel
theorem d_MO_gather_179 : decode b_MO_gather 179 = .ok (.iadd, 1) := by decide +kernel
theorem d_MO_gather_180 : decode b_MO_gather 180 = .ok (.laload, 1) := by decide +kernel
theorem d_MO_gather_181 : decode b_MO_gather 181 = .ok (.ldiv, 1) := by decide +kernel
theorem d_MO_gather_182 : decode b_MO_gather 182 = .ok (.invokevirtual 167, 3) := by decide +kernel
theorem d_MO_gather_185 : decode b_MO_gather 185 = .ok (.iinc 6 1, 3) := by decide +kernel
theorem d_MO_gather_188 : decode b_MO_gather 188 = .ok (.goto (-43), 3) := by decide +kernel
theorem d_MO_gather_191 : decode b_MO_gather 191 = .ok (.iload 5, 2) := by decide +kernel
theorem d_MO_gather_193 : decode b_MO_gather 193 = .ok (.iconst 1, 1) := by decide +kernel
theorem d_MO_gather_194 : decode b_MO_gather 194 = .ok (.if_icmp .le 7, 3) := by decide +kernel
theorem d_MO_gather_197 : decode b_MO_gather 197 = .ok (.iconst 1, 1) := by decide +kernel
theorem d_MO_gather_198 : decode b_MO_gather 198 = .ok (.goto 4, 3) := by decide +kernel
theorem d_MO_gather_201 : decode b_MO_gather 201 = .ok (.iconst 0, 1) := by decide +kernel
theorem d_MO_gather_202 : decode b_MO_gather 202 = .ok (.istore_n 3, 1) := by decide +kernel
theorem d_MO_gather_203 : decode b_MO_gather 203 = .ok (.goto (-201), 3) := by decide +kernel
theorem d_MO_gather_206 : decode b_MO_gather 206 = .ok (.iconst 1, 1) := by decide +kernel
theorem d_MO_gather_207 : decode b_MO_gather 207 = .ok (.ireturn, 1) := by decide +kernel
