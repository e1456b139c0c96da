theorem d_MO_narrow_273 : decode b_MO_narrow 273 = .ok (.iload 8, 2) := by decide +kernel
theorem d_MO_narrow_275 : decode b_MO_narrow 275 = .ok (.aload_n 0, 1) := by decide +kernel
theorem d_MO_narrow_276 : decode b_MO_narrow 276 = .ok (.getfield 143, 3) := by decide +kernel
theorem d_MO_narrow_279 : decode b_MO_narrow 279 = .ok (.if_icmp .ge 44, 3) := by decide +kernel
theorem d_MO_narrow_282 : decode b_MO_narrow 282 = .ok (.aload_n 0, 1) := by decide +kernel
theorem d_MO_narrow_283 : decode b_MO_narrow 283 = .ok (.getfield 179, 3) := by decide +kernel
theorem d_MO_narrow_286 : decode b_MO_narrow 286 = .ok (.ifCond .eq 37, 3) := by decide +kernel
theorem d_MO_narrow_289 : decode b_MO_narrow 289 = .ok (.aload_n 0, 1) := by decide +kernel
theorem d_MO_narrow_290 : decode b_MO_narrow 290 = .ok (.getfield 72, 3) := by decide +kernel
theorem d_MO_narrow_293 : decode b_MO_narrow 293 = .ok (.iload 8, 2) := by decide +kernel
theorem d_MO_narrow_295 : decode b_MO_narrow 295 = .ok (.aload_n 0, 1) := by decide +kernel
theorem d_MO_narrow_296 : decode b_MO_narrow 296 = .ok (.getfield 72, 3) := by decide +kernel
theorem d_MO_narrow_299 : decode b_MO_narrow 299 = .ok (.iload 8, 2) := by decide +kernel
theorem d_MO_narrow_301 : decode b_MO_narrow 301 = .ok (.laload, 1) := by decide +kernel
theorem d_MO_narrow_302 : decode b_MO_narrow 302 = .ok (.lload 4, 2) := by decide +kernel
theorem d_MO_narrow_304 : decode b_MO_narrow 304 = .ok (.lload 6, 2) := by decide +kernel
theorem d_MO_narrow_306 : decode b_MO_narrow 306 = .ok (.ldiv, 1) := by decide +kernel
theorem d_MO_narrow_307 : decode b_MO_narrow 307 = .ok (.aload_n 0, 1) := by decide +kernel
theorem d_MO_narrow_308 : decode b_MO_narrow 308 = .ok (.getfield 68, 3) := by decide +kernel
theorem d_MO_narrow_311 : decode b_MO_narrow 311 = .ok (.iload 8, 2) := by decide +kernel
theorem d_MO_narrow_313 : decode b_MO_narrow 313 = .ok (.laload, 1) := by decide +kernel
theorem d_MO_narrow_314 : decode b_MO_narrow 314 = .ok (.lmul, 1) := by decide +kernel
theorem d_MO_narrow_315 : decode b_MO_narrow 315 = .ok (.ladd, 1) := by decide +kernel
theorem d_MO_narrow_316 : decode b_MO_narrow 316 = .ok (.lastore, 1) := by decide +kernel
theorem d_MO_narrow_317 : decode b_MO_narrow 317 = .ok (.iinc 8 1, 3) := by decide +kernel
theorem d_MO_narrow_320 : decode b_MO_narrow 320 = .ok (.goto (-47), 3) := by decide +kernel
theorem d_MO_narrow_323 : decode b_MO_narrow 323 = .ok (.aload_n 0, 1) := by decide +kernel
theorem d_MO_narrow_324 : decode b_MO_narrow 324 = .ok (.dup, 1) := by decide +kernel
theorem d_MO_narrow_325 : decode b_MO_narrow 325 = .ok (.getfield 152, 3) := by decide +kernel
theorem d_MO_narrow_328 : decode b_MO_narrow 328 = .ok (.iconst 1, 1) := by decide +kernel
theorem d_MO_narrow_329 : decode b_MO_narrow 329 = .ok (.isub, 1) := by decide +kernel
theorem d_MO_narrow_330 : decode b_MO_narrow 330 = .ok (.putfield 152, 3) := by decide +kernel
theorem d_MO_narrow_333 : decode b_MO_narrow 333 = .ok (.iconst 0, 1) := by decide +kernel
theorem d_MO_narrow_334 : decode b_MO_narrow 334 = .ok (.istore 8, 2) := by decide +kernel
theorem d_MO_narrow_336 : decode b_MO_narrow 336 = .ok (.iload 8, 2) := by decide +kernel
theorem d_MO_narrow_338 : decode b_MO_narrow 338 = .ok (.bipush 6, 2) := by decide +kernel
theorem d_MO_narrow_340 : decode b_MO_narrow 340 = .ok (.aload_n 0, 1) := by decide +kernel
theorem d_MO_narrow_341 : decode b_MO_narrow 341 = .ok (.getfield 152, 3) := by decide +kernel
theorem d_MO_narrow_344 : decode b_MO_narrow 344 = .ok (.imul, 1) := by decide +kernel
theorem d_MO_narrow_345 : decode b_MO_narrow 345 = .ok (.if_icmp .ge 26, 3) := by decide +kernel
theorem d_MO_narrow_348 : decode b_MO_narrow 348 = .ok (.aload_n 0, 1) := by decide +kernel
theorem d_MO_narrow_349 : decode b_MO_narrow 349 = .ok (.getfield 68, 3) := by decide +kernel
theorem d_MO_narrow_352 : decode b_MO_narrow 352 = .ok (.iload 8, 2) := by decide +kernel
theorem d_MO_narrow_354 : decode b_MO_narrow 354 = .ok (.aload_n 0, 1) := by decide +kernel
theorem d_MO_narrow_355 : decode b_MO_narrow 355 = .ok (.getfield 68, 3) := by decide +kernel
theorem d_MO_narrow_358 : decode b_MO_narrow 358 = .ok (.iload 8, 2) := by decide +kernel
theorem d_MO_narrow_360 : decode b_MO_narrow 360 = .ok (.bipush 6, 2) := by decide +kernel
theorem d_MO_narrow_362 : decode b_MO_narrow 362 = .ok (.iadd, 1) := by decide +kernel
theorem d_MO_narrow_363 : decode b_MO_narrow 363 = .ok (.laload, 1) := by decide +kernel
theorem d_MO_narrow_364 : decode b_MO_narrow 364 = .ok (.lastore, 1) := by decide +kernel
theorem d_MO_narrow_365 : decode b_MO_narrow 365 = .ok (.iinc 8 1, 3) := by decide +kernel
theorem d_MO_narrow_368 : decode b_MO_narrow 368 = .ok (.goto (-32), 3) := by decide +kernel
theorem d_MO_narrow_371 : decode b_MO_narrow 371 = .ok (.return_, 1) := by decide +kernel
