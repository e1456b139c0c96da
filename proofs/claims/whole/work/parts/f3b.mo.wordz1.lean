theorem d_MO_build_252 : decode b_MO_build 252 = .ok (.ifCond .ge 58, 3) := by decide +kernel
theorem d_MO_build_255 : decode b_MO_build 255 = .ok (.aload_n 0, 1) := by decide +kernel
theorem d_MO_build_256 : decode b_MO_build 256 = .ok (.getfield 104, 3) := by decide +kernel
theorem d_MO_build_259 : decode b_MO_build 259 = .ok (.aload_n 0, 1) := by decide +kernel
theorem d_MO_build_260 : decode b_MO_build 260 = .ok (.getfield 107, 3) := by decide +kernel
theorem d_MO_build_263 : decode b_MO_build 263 = .ok (.iadd, 1) := by decide +kernel
theorem d_MO_build_264 : decode b_MO_build 264 = .ok (.bipush 6, 2) := by decide +kernel
theorem d_MO_build_266 : decode b_MO_build 266 = .ok (.if_icmp .ne 15, 3) := by decide +kernel
theorem d_MO_build_269 : decode b_MO_build 269 = .ok (.aload_n 0, 1) := by decide +kernel
theorem d_MO_build_270 : decode b_MO_build 270 = .ok (.iconst 2, 1) := by decide +kernel
theorem d_MO_build_271 : decode b_MO_build 271 = .ok (.aload_n 0, 1) := by decide +kernel
theorem d_MO_build_272 : decode b_MO_build 272 = .ok (.getfield 20, 3) := by decide +kernel
theorem d_MO_build_275 : decode b_MO_build 275 = .ok (.iload_n 1, 1) := by decide +kernel
theorem d_MO_build_276 : decode b_MO_build 276 = .ok (.iaload, 1) := by decide +kernel
theorem d_MO_build_277 : decode b_MO_build 277 = .ok (.invokevirtual 113, 3) := by decide +kernel
theorem d_MO_build_280 : decode b_MO_build 280 = .ok (.ireturn, 1) := by decide +kernel
theorem d_MO_build_281 : decode b_MO_build 281 = .ok (.aload_n 0, 1) := by decide +kernel
theorem d_MO_build_282 : decode b_MO_build 282 = .ok (.getfield 104, 3) := by decide +kernel
theorem d_MO_build_285 : decode b_MO_build 285 = .ok (.istore 6, 2) := by decide +kernel
theorem d_MO_build_287 : decode b_MO_build 287 = .ok (.aload_n 0, 1) := by decide +kernel
theorem d_MO_build_288 : decode b_MO_build 288 = .ok (.getfield 26, 3) := by decide +kernel
theorem d_MO_build_291 : decode b_MO_build 291 = .ok (.iload 6, 2) := by decide +kernel
theorem d_MO_build_293 : decode b_MO_build 293 = .ok (.aload_n 0, 1) := by decide +kernel
theorem d_MO_build_294 : decode b_MO_build 294 = .ok (.getfield 23, 3) := by decide +kernel
theorem d_MO_build_297 : decode b_MO_build 297 = .ok (.iload_n 1, 1) := by decide +kernel
theorem d_MO_build_298 : decode b_MO_build 298 = .ok (.iaload, 1) := by decide +kernel
theorem d_MO_build_299 : decode b_MO_build 299 = .ok (.iastore, 1) := by decide +kernel
theorem d_MO_build_300 : decode b_MO_build 300 = .ok (.aload_n 0, 1) := by decide +kernel
theorem d_MO_build_301 : decode b_MO_build 301 = .ok (.dup, 1) := by decide +kernel
theorem d_MO_build_302 : decode b_MO_build 302 = .ok (.getfield 104, 3) := by decide +kernel
theorem d_MO_build_305 : decode b_MO_build 305 = .ok (.iconst 1, 1) := by decide +kernel
theorem d_MO_build_306 : decode b_MO_build 306 = .ok (.iadd, 1) := by decide +kernel
theorem d_MO_build_307 : decode b_MO_build 307 = .ok (.putfield 104, 3) := by decide +kernel
theorem d_MO_build_310 : decode b_MO_build 310 = .ok (.iload_n 1, 1) := by decide +kernel
theorem d_MO_build_311 : decode b_MO_build 311 = .ok (.ifCond .le 21, 3) := by decide +kernel
theorem d_MO_build_314 : decode b_MO_build 314 = .ok (.aload_n 0, 1) := by decide +kernel
theorem d_MO_build_315 : decode b_MO_build 315 = .ok (.getfield 17, 3) := by decide +kernel
theorem d_MO_build_318 : decode b_MO_build 318 = .ok (.iload_n 1, 1) := by decide +kernel
theorem d_MO_build_319 : decode b_MO_build 319 = .ok (.iconst 1, 1) := by decide +kernel
theorem d_MO_build_320 : decode b_MO_build 320 = .ok (.isub, 1) := by decide +kernel
theorem d_MO_build_321 : decode b_MO_build 321 = .ok (.iaload, 1) := by decide +kernel
theorem d_MO_build_322 : decode b_MO_build 322 = .ok (.iconst 5, 1) := by decide +kernel
theorem d_MO_build_323 : decode b_MO_build 323 = .ok (.if_icmp .ne 9, 3) := by decide +kernel
theorem d_MO_build_326 : decode b_MO_build 326 = .ok (.iload_n 1, 1) := by decide +kernel
theorem d_MO_build_327 : decode b_MO_build 327 = .ok (.iconst 2, 1) := by decide +kernel
theorem d_MO_build_328 : decode b_MO_build 328 = .ok (.isub, 1) := by decide +kernel
theorem d_MO_build_329 : decode b_MO_build 329 = .ok (.goto 6, 3) := by decide +kernel
theorem d_MO_build_332 : decode b_MO_build 332 = .ok (.iload_n 1, 1) := by decide +kernel
theorem d_MO_build_333 : decode b_MO_build 333 = .ok (.iconst 1, 1) := by decide +kernel
theorem d_MO_build_334 : decode b_MO_build 334 = .ok (.isub, 1) := by decide +kernel
theorem d_MO_build_335 : decode b_MO_build 335 = .ok (.istore 7, 2) := by decide +kernel
theorem d_MO_build_337 : decode b_MO_build 337 = .ok (.iload 7, 2) := by decide +kernel
theorem d_MO_build_339 : decode b_MO_build 339 = .ok (.ifCond .lt 24, 3) := by decide +kernel
theorem d_MO_build_342 : decode b_MO_build 342 = .ok (.aload_n 0, 1) := by decide +kernel
theorem d_MO_build_343 : decode b_MO_build 343 = .ok (.getfield 17, 3) := by decide +kernel
theorem d_MO_build_346 : decode b_MO_build 346 = .ok (.iload 7, 2) := by decide +kernel
theorem d_MO_build_348 : decode b_MO_build 348 = .ok (.iaload, 1) := by decide +kernel
theorem d_MO_build_349 : decode b_MO_build 349 = .ok (.iconst 1, 1) := by decide +kernel
theorem d_MO_build_350 : decode b_MO_build 350 = .ok (.if_icmp .ne 13, 3) := by decide +kernel
theorem d_MO_build_353 : decode b_MO_build 353 = .ok (.aload_n 0, 1) := by decide +kernel
theorem d_MO_build_354 : decode b_MO_build 354 = .ok (.getfield 23, 3) := by decide +kernel
theorem d_MO_build_357 : decode b_MO_build 357 = .ok (.iload 7, 2) := by decide +kernel
theorem d_MO_build_359 : decode b_MO_build 359 = .ok (.iaload, 1) := by decide +kernel
theorem d_MO_build_360 : decode b_MO_build 360 = .ok (.goto 4, 3) := by decide +kernel
theorem d_MO_build_363 : decode b_MO_build 363 = .ok (.iconst 1, 1) := by decide +kernel
theorem d_MO_build_364 : decode b_MO_build 364 = .ok (.istore 8, 2) := by decide +kernel
theorem d_MO_build_366 : decode b_MO_build 366 = .ok (.aload_n 0, 1) := by decide +kernel
theorem d_MO_build_367 : decode b_MO_build 367 = .ok (.getfield 29, 3) := by decide +kernel
theorem d_MO_build_370 : decode b_MO_build 370 = .ok (.bipush 7, 2) := by decide +kernel
theorem d_MO_build_372 : decode b_MO_build 372 = .ok (.aload_n 0, 1) := by decide +kernel
theorem d_MO_build_373 : decode b_MO_build 373 = .ok (.getfield 110, 3) := by decide +kernel
theorem d_MO_build_376 : decode b_MO_build 376 = .ok (.imul, 1) := by decide +kernel
theorem d_MO_build_377 : decode b_MO_build 377 = .ok (.iload 6, 2) := by decide +kernel
theorem d_MO_build_379 : decode b_MO_build 379 = .ok (.iadd, 1) := by decide +kernel
theorem d_MO_build_380 : decode b_MO_build 380 = .ok (.aload_n 0, 1) := by decide +kernel
theorem d_MO_build_381 : decode b_MO_build 381 = .ok (.getfield 29, 3) := by decide +kernel
theorem d_MO_build_384 : decode b_MO_build 384 = .ok (.bipush 7, 2) := by decide +kernel
theorem d_MO_build_386 : decode b_MO_build 386 = .ok (.aload_n 0, 1) := by decide +kernel
theorem d_MO_build_387 : decode b_MO_build 387 = .ok (.getfield 110, 3) := by decide +kernel
theorem d_MO_build_390 : decode b_MO_build 390 = .ok (.imul, 1) := by decide +kernel
theorem d_MO_build_391 : decode b_MO_build 391 = .ok (.iload 6, 2) := by decide +kernel
theorem d_MO_build_393 : decode b_MO_build 393 = .ok (.iadd, 1) := by decide +kernel
theorem d_MO_build_394 : decode b_MO_build 394 = .ok (.iaload, 1) := by decide +kernel
theorem d_MO_build_395 : decode b_MO_build 395 = .ok (.iload_n 3, 1) := by decide +kernel
theorem d_MO_build_396 : decode b_MO_build 396 = .ok (.iload_n 2, 1) := by decide +kernel
theorem d_MO_build_397 : decode b_MO_build 397 = .ok (.imul, 1) := by decide +kernel
theorem d_MO_build_398 : decode b_MO_build 398 = .ok (.iload 8, 2) := by decide +kernel
theorem d_MO_build_400 : decode b_MO_build 400 = .ok (.imul, 1) := by decide +kernel
theorem d_MO_build_401 : decode b_MO_build 401 = .ok (.iadd, 1) := by decide +kernel
theorem d_MO_build_402 : decode b_MO_build 402 = .ok (.iastore, 1) := by decide +kernel
theorem d_MO_build_403 : decode b_MO_build 403 = .ok (.iinc 1 1, 3) := by decide +kernel
theorem d_MO_build_406 : decode b_MO_build 406 = .ok (.goto (-332), 3) := by decide +kernel
theorem d_MO_build_409 : decode b_MO_build 409 = .ok (.aload_n 0, 1) := by decide +kernel
theorem d_MO_build_410 : decode b_MO_build 410 = .ok (.getfield 17, 3) := by decide +kernel
theorem d_MO_build_413 : decode b_MO_build 413 = .ok (.iload 4, 2) := by decide +kernel
theorem d_MO_build_415 : decode b_MO_build 415 = .ok (.iaload, 1) := by decide +kernel
theorem d_MO_build_416 : decode b_MO_build 416 = .ok (.istore 5, 2) := by decide +kernel
theorem d_MO_build_418 : decode b_MO_build 418 = .ok (.aload_n 0, 1) := by decide +kernel
theorem d_MO_build_419 : decode b_MO_build 419 = .ok (.getfield 32, 3) := by decide +kernel
theorem d_MO_build_422 : decode b_MO_build 422 = .ok (.aload_n 0, 1) := by decide +kernel
theorem d_MO_build_423 : decode b_MO_build 423 = .ok (.getfield 110, 3) := by decide +kernel
theorem d_MO_build_426 : decode b_MO_build 426 = .ok (.iload 5, 2) := by decide +kernel
theorem d_MO_build_428 : decode b_MO_build 428 = .ok (.bipush 8, 2) := by decide +kernel
theorem d_MO_build_430 : decode b_MO_build 430 = .ok (.if_icmp .ne 7, 3) := by decide +kernel
theorem d_MO_build_433 : decode b_MO_build 433 = .ok (.iconst 1, 1) := by decide +kernel
theorem d_MO_build_434 : decode b_MO_build 434 = .ok (.goto 15, 3) := by decide +kernel
theorem d_MO_build_437 : decode b_MO_build 437 = .ok (.iload 5, 2) := by decide +kernel
theorem d_MO_build_439 : decode b_MO_build 439 = .ok (.bipush 9, 2) := by decide +kernel
theorem d_MO_build_441 : decode b_MO_build 441 = .ok (.if_icmp .ne 7, 3) := by decide +kernel
theorem d_MO_build_444 : decode b_MO_build 444 = .ok (.iconst (-1), 1) := by decide +kernel
theorem d_MO_build_445 : decode b_MO_build 445 = .ok (.goto 4, 3) := by decide +kernel
theorem d_MO_build_448 : decode b_MO_build 448 = .ok (.iconst 0, 1) := by decide +kernel
theorem d_MO_build_449 : decode b_MO_build 449 = .ok (.iastore, 1) := by decide +kernel
theorem d_MO_build_450 : decode b_MO_build 450 = .ok (.iload 5, 2) := by decide +kernel
theorem d_MO_build_452 : decode b_MO_build 452 = .ok (.bipush 7, 2) := by decide +kernel
theorem d_MO_build_454 : decode b_MO_build 454 = .ok (.if_icmp .eq 40, 3) := by decide +kernel
theorem d_MO_build_457 : decode b_MO_build 457 = .ok (.aload_n 0, 1) := by decide +kernel
theorem d_MO_build_458 : decode b_MO_build 458 = .ok (.getfield 104, 3) := by decide +kernel
theorem d_MO_build_461 : decode b_MO_build 461 = .ok (.aload_n 0, 1) := by decide +kernel
theorem d_MO_build_462 : decode b_MO_build 462 = .ok (.getfield 107, 3) := by decide +kernel
theorem d_MO_build_465 : decode b_MO_build 465 = .ok (.iadd, 1) := by decide +kernel
theorem d_MO_build_466 : decode b_MO_build 466 = .ok (.bipush 6, 2) := by decide +kernel
theorem d_MO_build_468 : decode b_MO_build 468 = .ok (.if_icmp .ne 16, 3) := by decide +kernel
theorem d_MO_build_471 : decode b_MO_build 471 = .ok (.aload_n 0, 1) := by decide +kernel
theorem d_MO_build_472 : decode b_MO_build 472 = .ok (.iconst 2, 1) := by decide +kernel
theorem d_MO_build_473 : decode b_MO_build 473 = .ok (.aload_n 0, 1) := by decide +kernel
theorem d_MO_build_474 : decode b_MO_build 474 = .ok (.getfield 20, 3) := by decide +kernel
theorem d_MO_build_477 : decode b_MO_build 477 = .ok (.iload 4, 2) := by decide +kernel
theorem d_MO_build_479 : decode b_MO_build 479 = .ok (.iaload, 1) := by decide +kernel
theorem d_MO_build_480 : decode b_MO_build 480 = .ok (.invokevirtual 113, 3) := by decide +kernel
theorem d_MO_build_483 : decode b_MO_build 483 = .ok (.ireturn, 1) := by decide +kernel
theorem d_MO_build_484 : decode b_MO_build 484 = .ok (.aload_n 0, 1) := by decide +kernel
theorem d_MO_build_485 : decode b_MO_build 485 = .ok (.dup, 1) := by decide +kernel
theorem d_MO_build_486 : decode b_MO_build 486 = .ok (.getfield 107, 3) := by decide +kernel
theorem d_MO_build_489 : decode b_MO_build 489 = .ok (.iconst 1, 1) := by decide +kernel
theorem d_MO_build_490 : decode b_MO_build 490 = .ok (.iadd, 1) := by decide +kernel
theorem d_MO_build_491 : decode b_MO_build 491 = .ok (.putfield 107, 3) := by decide +kernel
theorem d_MO_build_494 : decode b_MO_build 494 = .ok (.iconst 0, 1) := by decide +kernel
theorem d_MO_build_495 : decode b_MO_build 495 = .ok (.istore 6, 2) := by decide +kernel
theorem d_MO_build_497 : decode b_MO_build 497 = .ok (.iload 6, 2) := by decide +kernel
theorem d_MO_build_499 : decode b_MO_build 499 = .ok (.bipush 7, 2) := by decide +kernel
theorem d_MO_build_501 : decode b_MO_build 501 = .ok (.if_icmp .ge 71, 3) := by decide +kernel
theorem d_MO_build_504 : decode b_MO_build 504 = .ok (.aload_n 0, 1) := by decide +kernel
theorem d_MO_build_505 : decode b_MO_build 505 = .ok (.getfield 29, 3) := by decide +kernel
theorem d_MO_build_508 : decode b_MO_build 508 = .ok (.bipush 7, 2) := by decide +kernel
theorem d_MO_build_510 : decode b_MO_build 510 = .ok (.aload_n 0, 1) := by decide +kernel
theorem d_MO_build_511 : decode b_MO_build 511 = .ok (.getfield 110, 3) := by decide +kernel
theorem d_MO_build_514 : decode b_MO_build 514 = .ok (.imul, 1) := by decide +kernel
theorem d_MO_build_515 : decode b_MO_build 515 = .ok (.iload 6, 2) := by decide +kernel
theorem d_MO_build_517 : decode b_MO_build 517 = .ok (.iadd, 1) := by decide +kernel
