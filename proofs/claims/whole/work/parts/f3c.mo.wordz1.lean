theorem d_MO_take_197 : decode b_MO_take 197 = .ok (.if_icmp .ge 12, 3) := by decide +kernel
theorem d_MO_take_200 : decode b_MO_take 200 = .ok (.aload_n 0, 1) := by decide +kernel
theorem d_MO_take_201 : decode b_MO_take 201 = .ok (.getfield 26, 3) := by decide +kernel
theorem d_MO_take_204 : decode b_MO_take 204 = .ok (.iload_n 2, 1) := by decide +kernel
theorem d_MO_take_205 : decode b_MO_take 205 = .ok (.iaload, 1) := by decide +kernel
theorem d_MO_take_206 : decode b_MO_take 206 = .ok (.goto 4, 3) := by decide +kernel
theorem d_MO_take_209 : decode b_MO_take 209 = .ok (.iconst (-1), 1) := by decide +kernel
theorem d_MO_take_210 : decode b_MO_take 210 = .ok (.iastore, 1) := by decide +kernel
theorem d_MO_take_211 : decode b_MO_take 211 = .ok (.aload_n 0, 1) := by decide +kernel
theorem d_MO_take_212 : decode b_MO_take 212 = .ok (.getfield 56, 3) := by decide +kernel
theorem d_MO_take_215 : decode b_MO_take 215 = .ok (.iload_n 2, 1) := by decide +kernel
theorem d_MO_take_216 : decode b_MO_take 216 = .ok (.iconst 0, 1) := by decide +kernel
theorem d_MO_take_217 : decode b_MO_take 217 = .ok (.iastore, 1) := by decide +kernel
theorem d_MO_take_218 : decode b_MO_take 218 = .ok (.aload_n 0, 1) := by decide +kernel
theorem d_MO_take_219 : decode b_MO_take 219 = .ok (.getfield 59, 3) := by decide +kernel
theorem d_MO_take_222 : decode b_MO_take 222 = .ok (.iload_n 2, 1) := by decide +kernel
theorem d_MO_take_223 : decode b_MO_take 223 = .ok (.iconst 0, 1) := by decide +kernel
theorem d_MO_take_224 : decode b_MO_take 224 = .ok (.iastore, 1) := by decide +kernel
theorem d_MO_take_225 : decode b_MO_take 225 = .ok (.iinc 2 1, 3) := by decide +kernel
theorem d_MO_take_228 : decode b_MO_take 228 = .ok (.goto (-47), 3) := by decide +kernel
theorem d_MO_take_231 : decode b_MO_take 231 = .ok (.iconst 0, 1) := by decide +kernel
theorem d_MO_take_232 : decode b_MO_take 232 = .ok (.istore_n 2, 1) := by decide +kernel
theorem d_MO_take_233 : decode b_MO_take 233 = .ok (.iload_n 2, 1) := by decide +kernel
theorem d_MO_take_234 : decode b_MO_take 234 = .ok (.iconst 3, 1) := by decide +kernel
theorem d_MO_take_235 : decode b_MO_take 235 = .ok (.if_icmp .ge 23, 3) := by decide +kernel
theorem d_MO_take_238 : decode b_MO_take 238 = .ok (.aload_n 0, 1) := by decide +kernel
theorem d_MO_take_239 : decode b_MO_take 239 = .ok (.getfield 41, 3) := by decide +kernel
theorem d_MO_take_242 : decode b_MO_take 242 = .ok (.iload_n 2, 1) := by decide +kernel
theorem d_MO_take_243 : decode b_MO_take 243 = .ok (.iconst 0, 1) := by decide +kernel
theorem d_MO_take_244 : decode b_MO_take 244 = .ok (.bastore, 1) := by decide +kernel
theorem d_MO_take_245 : decode b_MO_take 245 = .ok (.aload_n 0, 1) := by decide +kernel
theorem d_MO_take_246 : decode b_MO_take 246 = .ok (.getfield 48, 3) := by decide +kernel
theorem d_MO_take_249 : decode b_MO_take 249 = .ok (.iload_n 2, 1) := by decide +kernel
theorem d_MO_take_250 : decode b_MO_take 250 = .ok (.iconst 0, 1) := by decide +kernel
theorem d_MO_take_251 : decode b_MO_take 251 = .ok (.iastore, 1) := by decide +kernel
theorem d_MO_take_252 : decode b_MO_take 252 = .ok (.iinc 2 1, 3) := by decide +kernel
theorem d_MO_take_255 : decode b_MO_take 255 = .ok (.goto (-22), 3) := by decide +kernel
theorem d_MO_take_258 : decode b_MO_take 258 = .ok (.aload_n 0, 1) := by decide +kernel
theorem d_MO_take_259 : decode b_MO_take 259 = .ok (.iconst 0, 1) := by decide +kernel
theorem d_MO_take_260 : decode b_MO_take 260 = .ok (.putfield 146, 3) := by decide +kernel
theorem d_MO_take_263 : decode b_MO_take 263 = .ok (.aload_n 0, 1) := by decide +kernel
theorem d_MO_take_264 : decode b_MO_take 264 = .ok (.iconst 0, 1) := by decide +kernel
theorem d_MO_take_265 : decode b_MO_take 265 = .ok (.putfield 149, 3) := by decide +kernel
theorem d_MO_take_268 : decode b_MO_take 268 = .ok (.return_, 1) := by decide +kernel
