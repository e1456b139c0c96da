theorem d_LW_law_124 : decode b_LW_law 124 = .ok (.aload_n 1, 1) := by decide +kernel
theorem d_LW_law_125 : decode b_LW_law 125 = .ok (.aload_n 0, 1) := by decide +kernel
theorem d_LW_law_126 : decode b_LW_law 126 = .ok (.iload 4, 2) := by decide +kernel
theorem d_LW_law_128 : decode b_LW_law 128 = .ok (.iconst 1, 1) := by decide +kernel
theorem d_LW_law_129 : decode b_LW_law 129 = .ok (.iadd, 1) := by decide +kernel
theorem d_LW_law_130 : decode b_LW_law 130 = .ok (.iaload, 1) := by decide +kernel
theorem d_LW_law_131 : decode b_LW_law 131 = .ok (.i2l, 1) := by decide +kernel
theorem d_LW_law_132 : decode b_LW_law 132 = .ok (.bipush 32, 2) := by decide +kernel
theorem d_LW_law_134 : decode b_LW_law 134 = .ok (.lshl, 1) := by decide +kernel
theorem d_LW_law_135 : decode b_LW_law 135 = .ok (.aload_n 0, 1) := by decide +kernel
theorem d_LW_law_136 : decode b_LW_law 136 = .ok (.iload 4, 2) := by decide +kernel
theorem d_LW_law_138 : decode b_LW_law 138 = .ok (.iconst 2, 1) := by decide +kernel
theorem d_LW_law_139 : decode b_LW_law 139 = .ok (.iadd, 1) := by decide +kernel
theorem d_LW_law_140 : decode b_LW_law 140 = .ok (.iaload, 1) := by decide +kernel
theorem d_LW_law_141 : decode b_LW_law 141 = .ok (.i2l, 1) := by decide +kernel
theorem d_LW_law_142 : decode b_LW_law 142 = .ok (.ldc2_w 57, 3) := by decide +kernel
theorem d_LW_law_145 : decode b_LW_law 145 = .ok (.land, 1) := by decide +kernel
theorem d_LW_law_146 : decode b_LW_law 146 = .ok (.lor, 1) := by decide +kernel
theorem d_LW_law_147 : decode b_LW_law 147 = .ok (.aload_n 0, 1) := by decide +kernel
theorem d_LW_law_148 : decode b_LW_law 148 = .ok (.iload 4, 2) := by decide +kernel
theorem d_LW_law_150 : decode b_LW_law 150 = .ok (.iconst 3, 1) := by decide +kernel
theorem d_LW_law_151 : decode b_LW_law 151 = .ok (.iadd, 1) := by decide +kernel
theorem d_LW_law_152 : decode b_LW_law 152 = .ok (.iaload, 1) := by decide +kernel
theorem d_LW_law_153 : decode b_LW_law 153 = .ok (.invokevirtual 59, 3) := by decide +kernel
theorem d_LW_law_156 : decode b_LW_law 156 = .ok (.aload_n 2, 1) := by decide +kernel
theorem d_LW_law_157 : decode b_LW_law 157 = .ok (.aload_n 0, 1) := by decide +kernel
theorem d_LW_law_158 : decode b_LW_law 158 = .ok (.iload 4, 2) := by decide +kernel
theorem d_LW_law_160 : decode b_LW_law 160 = .ok (.iconst 1, 1) := by decide +kernel
theorem d_LW_law_161 : decode b_LW_law 161 = .ok (.iadd, 1) := by decide +kernel
theorem d_LW_law_162 : decode b_LW_law 162 = .ok (.iaload, 1) := by decide +kernel
theorem d_LW_law_163 : decode b_LW_law 163 = .ok (.i2l, 1) := by decide +kernel
theorem d_LW_law_164 : decode b_LW_law 164 = .ok (.bipush 32, 2) := by decide +kernel
theorem d_LW_law_166 : decode b_LW_law 166 = .ok (.lshl, 1) := by decide +kernel
theorem d_LW_law_167 : decode b_LW_law 167 = .ok (.aload_n 0, 1) := by decide +kernel
theorem d_LW_law_168 : decode b_LW_law 168 = .ok (.iload 4, 2) := by decide +kernel
theorem d_LW_law_170 : decode b_LW_law 170 = .ok (.iconst 2, 1) := by decide +kernel
theorem d_LW_law_171 : decode b_LW_law 171 = .ok (.iadd, 1) := by decide +kernel
theorem d_LW_law_172 : decode b_LW_law 172 = .ok (.iaload, 1) := by decide +kernel
theorem d_LW_law_173 : decode b_LW_law 173 = .ok (.i2l, 1) := by decide +kernel
theorem d_LW_law_174 : decode b_LW_law 174 = .ok (.ldc2_w 57, 3) := by decide +kernel
theorem d_LW_law_177 : decode b_LW_law 177 = .ok (.land, 1) := by decide +kernel
theorem d_LW_law_178 : decode b_LW_law 178 = .ok (.lor, 1) := by decide +kernel
theorem d_LW_law_179 : decode b_LW_law 179 = .ok (.aload_n 0, 1) := by decide +kernel
theorem d_LW_law_180 : decode b_LW_law 180 = .ok (.iload 4, 2) := by decide +kernel
theorem d_LW_law_182 : decode b_LW_law 182 = .ok (.iconst 3, 1) := by decide +kernel
theorem d_LW_law_183 : decode b_LW_law 183 = .ok (.iadd, 1) := by decide +kernel
theorem d_LW_law_184 : decode b_LW_law 184 = .ok (.iaload, 1) := by decide +kernel
theorem d_LW_law_185 : decode b_LW_law 185 = .ok (.invokevirtual 63, 3) := by decide +kernel
theorem d_LW_law_188 : decode b_LW_law 188 = .ok (.if_icmp .eq 711, 3) := by decide +kernel
theorem d_LW_law_193 : decode b_LW_law 193 = .ok (.aload_n 1, 1) := by decide +kernel
theorem d_LW_law_194 : decode b_LW_law 194 = .ok (.invokevirtual 64, 3) := by decide +kernel
theorem d_LW_law_197 : decode b_LW_law 197 = .ok (.aload_n 2, 1) := by decide +kernel
theorem d_LW_law_198 : decode b_LW_law 198 = .ok (.invokevirtual 67, 3) := by decide +kernel
theorem d_LW_law_201 : decode b_LW_law 201 = .ok (.if_icmp .eq 698, 3) := by decide +kernel
theorem d_LW_law_206 : decode b_LW_law 206 = .ok (.aload_n 1, 1) := by decide +kernel
theorem d_LW_law_207 : decode b_LW_law 207 = .ok (.invokevirtual 68, 3) := by decide +kernel
theorem d_LW_law_210 : decode b_LW_law 210 = .ok (.aload_n 2, 1) := by decide +kernel
theorem d_LW_law_211 : decode b_LW_law 211 = .ok (.invokevirtual 71, 3) := by decide +kernel
theorem d_LW_law_214 : decode b_LW_law 214 = .ok (.if_icmp .eq 685, 3) := by decide +kernel
theorem d_LW_law_219 : decode b_LW_law 219 = .ok (.aload_n 1, 1) := by decide +kernel
theorem d_LW_law_220 : decode b_LW_law 220 = .ok (.aload_n 0, 1) := by decide +kernel
theorem d_LW_law_221 : decode b_LW_law 221 = .ok (.iload 4, 2) := by decide +kernel
theorem d_LW_law_223 : decode b_LW_law 223 = .ok (.iconst 1, 1) := by decide +kernel
theorem d_LW_law_224 : decode b_LW_law 224 = .ok (.iadd, 1) := by decide +kernel
theorem d_LW_law_225 : decode b_LW_law 225 = .ok (.iaload, 1) := by decide +kernel
theorem d_LW_law_226 : decode b_LW_law 226 = .ok (.invokevirtual 72, 3) := by decide +kernel
theorem d_LW_law_229 : decode b_LW_law 229 = .ok (.aload_n 2, 1) := by decide +kernel
theorem d_LW_law_230 : decode b_LW_law 230 = .ok (.aload_n 0, 1) := by decide +kernel
theorem d_LW_law_231 : decode b_LW_law 231 = .ok (.iload 4, 2) := by decide +kernel
theorem d_LW_law_233 : decode b_LW_law 233 = .ok (.iconst 1, 1) := by decide +kernel
theorem d_LW_law_234 : decode b_LW_law 234 = .ok (.iadd, 1) := by decide +kernel
theorem d_LW_law_235 : decode b_LW_law 235 = .ok (.iaload, 1) := by decide +kernel
theorem d_LW_law_236 : decode b_LW_law 236 = .ok (.invokevirtual 75, 3) := by decide +kernel
theorem d_LW_law_239 : decode b_LW_law 239 = .ok (.if_icmp .eq 660, 3) := by decide +kernel
theorem d_LW_law_244 : decode b_LW_law 244 = .ok (.aload_n 1, 1) := by decide +kernel
theorem d_LW_law_245 : decode b_LW_law 245 = .ok (.aload_n 0, 1) := by decide +kernel
theorem d_LW_law_246 : decode b_LW_law 246 = .ok (.iload 4, 2) := by decide +kernel
theorem d_LW_law_248 : decode b_LW_law 248 = .ok (.iconst 1, 1) := by decide +kernel
theorem d_LW_law_249 : decode b_LW_law 249 = .ok (.iadd, 1) := by decide +kernel
theorem d_LW_law_250 : decode b_LW_law 250 = .ok (.iaload, 1) := by decide +kernel
theorem d_LW_law_251 : decode b_LW_law 251 = .ok (.invokevirtual 76, 3) := by decide +kernel
theorem d_LW_law_254 : decode b_LW_law 254 = .ok (.aload_n 2, 1) := by decide +kernel
theorem d_LW_law_255 : decode b_LW_law 255 = .ok (.aload_n 0, 1) := by decide +kernel
theorem d_LW_law_256 : decode b_LW_law 256 = .ok (.iload 4, 2) := by decide +kernel
theorem d_LW_law_258 : decode b_LW_law 258 = .ok (.iconst 1, 1) := by decide +kernel
theorem d_LW_law_259 : decode b_LW_law 259 = .ok (.iadd, 1) := by decide +kernel
theorem d_LW_law_260 : decode b_LW_law 260 = .ok (.iaload, 1) := by decide +kernel
theorem d_LW_law_261 : decode b_LW_law 261 = .ok (.invokevirtual 79, 3) := by decide +kernel
theorem d_LW_law_264 : decode b_LW_law 264 = .ok (.if_icmp .eq 635, 3) := by decide +kernel
theorem d_LW_law_269 : decode b_LW_law 269 = .ok (.aload_n 1, 1) := by decide +kernel
theorem d_LW_law_270 : decode b_LW_law 270 = .ok (.aload_n 0, 1) := by decide +kernel
theorem d_LW_law_271 : decode b_LW_law 271 = .ok (.iload 4, 2) := by decide +kernel
theorem d_LW_law_273 : decode b_LW_law 273 = .ok (.iconst 1, 1) := by decide +kernel
theorem d_LW_law_274 : decode b_LW_law 274 = .ok (.iadd, 1) := by decide +kernel
theorem d_LW_law_275 : decode b_LW_law 275 = .ok (.iaload, 1) := by decide +kernel
theorem d_LW_law_276 : decode b_LW_law 276 = .ok (.aload_n 0, 1) := by decide +kernel
theorem d_LW_law_277 : decode b_LW_law 277 = .ok (.iload 4, 2) := by decide +kernel
theorem d_LW_law_279 : decode b_LW_law 279 = .ok (.iconst 2, 1) := by decide +kernel
theorem d_LW_law_280 : decode b_LW_law 280 = .ok (.iadd, 1) := by decide +kernel
theorem d_LW_law_281 : decode b_LW_law 281 = .ok (.iaload, 1) := by decide +kernel
theorem d_LW_law_282 : decode b_LW_law 282 = .ok (.aload_n 3, 1) := by decide +kernel
theorem d_LW_law_283 : decode b_LW_law 283 = .ok (.invokestatic 80, 3) := by decide +kernel
theorem d_LW_law_286 : decode b_LW_law 286 = .ok (.istore 5, 2) := by decide +kernel
theorem d_LW_law_288 : decode b_LW_law 288 = .ok (.aload_n 2, 1) := by decide +kernel
theorem d_LW_law_289 : decode b_LW_law 289 = .ok (.aload_n 0, 1) := by decide +kernel
theorem d_LW_law_290 : decode b_LW_law 290 = .ok (.iload 4, 2) := by decide +kernel
theorem d_LW_law_292 : decode b_LW_law 292 = .ok (.iconst 1, 1) := by decide +kernel
theorem d_LW_law_293 : decode b_LW_law 293 = .ok (.iadd, 1) := by decide +kernel
theorem d_LW_law_294 : decode b_LW_law 294 = .ok (.iaload, 1) := by decide +kernel
theorem d_LW_law_295 : decode b_LW_law 295 = .ok (.aload_n 0, 1) := by decide +kernel
theorem d_LW_law_296 : decode b_LW_law 296 = .ok (.iload 4, 2) := by decide +kernel
theorem d_LW_law_298 : decode b_LW_law 298 = .ok (.iconst 2, 1) := by decide +kernel
theorem d_LW_law_299 : decode b_LW_law 299 = .ok (.iadd, 1) := by decide +kernel
theorem d_LW_law_300 : decode b_LW_law 300 = .ok (.iaload, 1) := by decide +kernel
theorem d_LW_law_301 : decode b_LW_law 301 = .ok (.invokevirtual 85, 3) := by decide +kernel
theorem d_LW_law_304 : decode b_LW_law 304 = .ok (.istore 6, 2) := by decide +kernel
theorem d_LW_law_306 : decode b_LW_law 306 = .ok (.aload_n 2, 1) := by decide +kernel
theorem d_LW_law_307 : decode b_LW_law 307 = .ok (.invokevirtual 86, 3) := by decide +kernel
theorem d_LW_law_310 : decode b_LW_law 310 = .ok (.iload 5, 2) := by decide +kernel
theorem d_LW_law_312 : decode b_LW_law 312 = .ok (.if_icmp .eq 5, 3) := by decide +kernel
theorem d_LW_law_317 : decode b_LW_law 317 = .ok (.iload 5, 2) := by decide +kernel
theorem d_LW_law_319 : decode b_LW_law 319 = .ok (.ifCond .ne 15, 3) := by decide +kernel
theorem d_LW_law_322 : decode b_LW_law 322 = .ok (.aload_n 3, 1) := by decide +kernel
theorem d_LW_law_323 : decode b_LW_law 323 = .ok (.iconst 0, 1) := by decide +kernel
theorem d_LW_law_324 : decode b_LW_law 324 = .ok (.laload, 1) := by decide +kernel
theorem d_LW_law_325 : decode b_LW_law 325 = .ok (.iload 6, 2) := by decide +kernel
theorem d_LW_law_327 : decode b_LW_law 327 = .ok (.i2l, 1) := by decide +kernel
theorem d_LW_law_328 : decode b_LW_law 328 = .ok (.lcmp, 1) := by decide +kernel
theorem d_LW_law_329 : decode b_LW_law 329 = .ok (.ifCond .eq 5, 3) := by decide +kernel
theorem d_LW_law_334 : decode b_LW_law 334 = .ok (.goto 565, 3) := by decide +kernel
theorem d_LW_law_337 : decode b_LW_law 337 = .ok (.aload_n 1, 1) := by decide +kernel
theorem d_LW_law_338 : decode b_LW_law 338 = .ok (.aload_n 3, 1) := by decide +kernel
theorem d_LW_law_339 : decode b_LW_law 339 = .ok (.invokestatic 89, 3) := by decide +kernel
theorem d_LW_law_342 : decode b_LW_law 342 = .ok (.istore 5, 2) := by decide +kernel
theorem d_LW_law_344 : decode b_LW_law 344 = .ok (.aload_n 2, 1) := by decide +kernel
theorem d_LW_law_345 : decode b_LW_law 345 = .ok (.invokevirtual 92, 3) := by decide +kernel
theorem d_LW_law_348 : decode b_LW_law 348 = .ok (.istore 6, 2) := by decide +kernel
theorem d_LW_law_350 : decode b_LW_law 350 = .ok (.aload_n 2, 1) := by decide +kernel
theorem d_LW_law_351 : decode b_LW_law 351 = .ok (.invokevirtual 86, 3) := by decide +kernel
theorem d_LW_law_354 : decode b_LW_law 354 = .ok (.iload 5, 2) := by decide +kernel
theorem d_LW_law_356 : decode b_LW_law 356 = .ok (.if_icmp .eq 5, 3) := by decide +kernel
theorem d_LW_law_361 : decode b_LW_law 361 = .ok (.iload 5, 2) := by decide +kernel
theorem d_LW_law_363 : decode b_LW_law 363 = .ok (.ifCond .ne 15, 3) := by decide +kernel
theorem d_LW_law_366 : decode b_LW_law 366 = .ok (.aload_n 3, 1) := by decide +kernel
theorem d_LW_law_367 : decode b_LW_law 367 = .ok (.iconst 0, 1) := by decide +kernel
theorem d_LW_law_368 : decode b_LW_law 368 = .ok (.laload, 1) := by decide +kernel
theorem d_LW_law_369 : decode b_LW_law 369 = .ok (.iload 6, 2) := by decide +kernel
theorem d_LW_law_371 : decode b_LW_law 371 = .ok (.i2l, 1) := by decide +kernel
theorem d_LW_law_372 : decode b_LW_law 372 = .ok (.lcmp, 1) := by decide +kernel
theorem d_LW_law_373 : decode b_LW_law 373 = .ok (.ifCond .eq 5, 3) := by decide +kernel
