theorem d_MO_work_121 : decode b_MO_work 121 = .ok (.goto 4, 3) := by decide +kernel
theorem d_MO_work_124 : decode b_MO_work 124 = .ok (.iconst 0, 1) := by decide +kernel
theorem d_MO_work_125 : decode b_MO_work 125 = .ok (.invokevirtual 213, 3) := by decide +kernel
theorem d_MO_work_128 : decode b_MO_work 128 = .ok (.iconst 1, 1) := by decide +kernel
theorem d_MO_work_129 : decode b_MO_work 129 = .ok (.istore 5, 2) := by decide +kernel
theorem d_MO_work_131 : decode b_MO_work 131 = .ok (.iload 5, 2) := by decide +kernel
theorem d_MO_work_133 : decode b_MO_work 133 = .ok (.ifCond .eq 74, 3) := by decide +kernel
theorem d_MO_work_136 : decode b_MO_work 136 = .ok (.iload_n 3, 1) := by decide +kernel
theorem d_MO_work_137 : decode b_MO_work 137 = .ok (.ifCond .eq 70, 3) := by decide +kernel
theorem d_MO_work_140 : decode b_MO_work 140 = .ok (.aload_n 0, 1) := by decide +kernel
theorem d_MO_work_141 : decode b_MO_work 141 = .ok (.iload_n 1, 1) := by decide +kernel
theorem d_MO_work_142 : decode b_MO_work 142 = .ok (.invokevirtual 217, 3) := by decide +kernel
theorem d_MO_work_145 : decode b_MO_work 145 = .ok (.ifCond .eq 30, 3) := by decide +kernel
theorem d_MO_work_148 : decode b_MO_work 148 = .ok (.aload_n 0, 1) := by decide +kernel
theorem d_MO_work_149 : decode b_MO_work 149 = .ok (.getfield 48, 3) := by decide +kernel
theorem d_MO_work_152 : decode b_MO_work 152 = .ok (.iload_n 1, 1) := by decide +kernel
theorem d_MO_work_153 : decode b_MO_work 153 = .ok (.iaload, 1) := by decide +kernel
theorem d_MO_work_154 : decode b_MO_work 154 = .ok (.sipush 2000, 3) := by decide +kernel
theorem d_MO_work_157 : decode b_MO_work 157 = .ok (.if_icmp .ge 7, 3) := by decide +kernel
theorem d_MO_work_160 : decode b_MO_work 160 = .ok (.iconst 1, 1) := by decide +kernel
theorem d_MO_work_161 : decode b_MO_work 161 = .ok (.goto 4, 3) := by decide +kernel
theorem d_MO_work_164 : decode b_MO_work 164 = .ok (.iconst 0, 1) := by decide +kernel
theorem d_MO_work_165 : decode b_MO_work 165 = .ok (.istore_n 3, 1) := by decide +kernel
theorem d_MO_work_166 : decode b_MO_work 166 = .ok (.iload_n 3, 1) := by decide +kernel
theorem d_MO_work_167 : decode b_MO_work 167 = .ok (.ifCond .eq 8, 3) := by decide +kernel
theorem d_MO_work_170 : decode b_MO_work 170 = .ok (.aload_n 0, 1) := by decide +kernel
theorem d_MO_work_171 : decode b_MO_work 171 = .ok (.iload_n 1, 1) := by decide +kernel
theorem d_MO_work_172 : decode b_MO_work 172 = .ok (.invokevirtual 220, 3) := by decide +kernel
theorem d_MO_work_175 : decode b_MO_work 175 = .ok (.iload 4, 2) := by decide +kernel
theorem d_MO_work_177 : decode b_MO_work 177 = .ok (.ifCond .le 24, 3) := by decide +kernel
theorem d_MO_work_180 : decode b_MO_work 180 = .ok (.aload_n 0, 1) := by decide +kernel
theorem d_MO_work_181 : decode b_MO_work 181 = .ok (.iload_n 1, 1) := by decide +kernel
theorem d_MO_work_182 : decode b_MO_work 182 = .ok (.iconst 2, 1) := by decide +kernel
theorem d_MO_work_183 : decode b_MO_work 183 = .ok (.if_icmp .ne 7, 3) := by decide +kernel
theorem d_MO_work_186 : decode b_MO_work 186 = .ok (.iconst 1, 1) := by decide +kernel
theorem d_MO_work_187 : decode b_MO_work 187 = .ok (.goto 4, 3) := by decide +kernel
theorem d_MO_work_190 : decode b_MO_work 190 = .ok (.iconst 0, 1) := by decide +kernel
theorem d_MO_work_191 : decode b_MO_work 191 = .ok (.invokevirtual 223, 3) := by decide +kernel
theorem d_MO_work_194 : decode b_MO_work 194 = .ok (.ifCond .eq 7, 3) := by decide +kernel
theorem d_MO_work_197 : decode b_MO_work 197 = .ok (.iconst 1, 1) := by decide +kernel
theorem d_MO_work_198 : decode b_MO_work 198 = .ok (.goto 4, 3) := by decide +kernel
theorem d_MO_work_201 : decode b_MO_work 201 = .ok (.iconst 0, 1) := by decide +kernel
theorem d_MO_work_202 : decode b_MO_work 202 = .ok (.istore 5, 2) := by decide +kernel
theorem d_MO_work_204 : decode b_MO_work 204 = .ok (.goto (-73), 3) := by decide +kernel
theorem d_MO_work_207 : decode b_MO_work 207 = .ok (.iinc 4 1, 3) := by decide +kernel
theorem d_MO_work_210 : decode b_MO_work 210 = .ok (.goto (-112), 3) := by decide +kernel
theorem d_MO_work_213 : decode b_MO_work 213 = .ok (.iload_n 3, 1) := by decide +kernel
theorem d_MO_work_214 : decode b_MO_work 214 = .ok (.ifCond .ne 12, 3) := by decide +kernel
theorem d_MO_work_217 : decode b_MO_work 217 = .ok (.aload_n 0, 1) := by decide +kernel
theorem d_MO_work_218 : decode b_MO_work 218 = .ok (.getfield 48, 3) := by decide +kernel
theorem d_MO_work_221 : decode b_MO_work 221 = .ok (.iload_n 1, 1) := by decide +kernel
theorem d_MO_work_222 : decode b_MO_work 222 = .ok (.iconst 0, 1) := by decide +kernel
theorem d_MO_work_223 : decode b_MO_work 223 = .ok (.iastore, 1) := by decide +kernel
theorem d_MO_work_224 : decode b_MO_work 224 = .ok (.iconst (-1), 1) := by decide +kernel
theorem d_MO_work_225 : decode b_MO_work 225 = .ok (.ireturn, 1) := by decide +kernel
theorem d_MO_work_226 : decode b_MO_work 226 = .ok (.aload_n 0, 1) := by decide +kernel
theorem d_MO_work_227 : decode b_MO_work 227 = .ok (.getfield 41, 3) := by decide +kernel
theorem d_MO_work_230 : decode b_MO_work 230 = .ok (.iload_n 1, 1) := by decide +kernel
theorem d_MO_work_231 : decode b_MO_work 231 = .ok (.iconst 1, 1) := by decide +kernel
theorem d_MO_work_232 : decode b_MO_work 232 = .ok (.bastore, 1) := by decide +kernel
theorem d_MO_work_233 : decode b_MO_work 233 = .ok (.aload_n 0, 1) := by decide +kernel
theorem d_MO_work_234 : decode b_MO_work 234 = .ok (.getfield 45, 3) := by decide +kernel
theorem d_MO_work_237 : decode b_MO_work 237 = .ok (.iload_n 1, 1) := by decide +kernel
theorem d_MO_work_238 : decode b_MO_work 238 = .ok (.iload_n 2, 1) := by decide +kernel
theorem d_MO_work_239 : decode b_MO_work 239 = .ok (.iastore, 1) := by decide +kernel
theorem d_MO_work_240 : decode b_MO_work 240 = .ok (.aload_n 0, 1) := by decide +kernel
theorem d_MO_work_241 : decode b_MO_work 241 = .ok (.getfield 48, 3) := by decide +kernel
theorem d_MO_work_244 : decode b_MO_work 244 = .ok (.iload_n 1, 1) := by decide +kernel
theorem d_MO_work_245 : decode b_MO_work 245 = .ok (.iaload, 1) := by decide +kernel
theorem d_MO_work_246 : decode b_MO_work 246 = .ok (.ireturn, 1) := by decide +kernel
