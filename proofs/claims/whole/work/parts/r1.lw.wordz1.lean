theorem d_LW_law_378 : decode b_LW_law 378 = .ok (.goto 521, 3) := by decide +kernel
theorem d_LW_law_381 : decode b_LW_law 381 = .ok (.aload_n 1, 1) := by decide +kernel
theorem d_LW_law_382 : decode b_LW_law 382 = .ok (.aload_n 3, 1) := by decide +kernel
theorem d_LW_law_383 : decode b_LW_law 383 = .ok (.invokestatic 93, 3) := by decide +kernel
theorem d_LW_law_386 : decode b_LW_law 386 = .ok (.istore 5, 2) := by decide +kernel
theorem d_LW_law_388 : decode b_LW_law 388 = .ok (.aload_n 2, 1) := by decide +kernel
theorem d_LW_law_389 : decode b_LW_law 389 = .ok (.invokevirtual 95, 3) := by decide +kernel
theorem d_LW_law_392 : decode b_LW_law 392 = .ok (.istore 6, 2) := by decide +kernel
theorem d_LW_law_394 : decode b_LW_law 394 = .ok (.aload_n 2, 1) := by decide +kernel
theorem d_LW_law_395 : decode b_LW_law 395 = .ok (.invokevirtual 86, 3) := by decide +kernel
theorem d_LW_law_398 : decode b_LW_law 398 = .ok (.iload 5, 2) := by decide +kernel
theorem d_LW_law_400 : decode b_LW_law 400 = .ok (.if_icmp .eq 5, 3) := by decide +kernel
theorem d_LW_law_405 : decode b_LW_law 405 = .ok (.iload 5, 2) := by decide +kernel
theorem d_LW_law_407 : decode b_LW_law 407 = .ok (.ifCond .ne 15, 3) := by decide +kernel
theorem d_LW_law_410 : decode b_LW_law 410 = .ok (.aload_n 3, 1) := by decide +kernel
theorem d_LW_law_411 : decode b_LW_law 411 = .ok (.iconst 0, 1) := by decide +kernel
theorem d_LW_law_412 : decode b_LW_law 412 = .ok (.laload, 1) := by decide +kernel
theorem d_LW_law_413 : decode b_LW_law 413 = .ok (.iload 6, 2) := by decide +kernel
theorem d_LW_law_415 : decode b_LW_law 415 = .ok (.i2l, 1) := by decide +kernel
theorem d_LW_law_416 : decode b_LW_law 416 = .ok (.lcmp, 1) := by decide +kernel
theorem d_LW_law_417 : decode b_LW_law 417 = .ok (.ifCond .eq 5, 3) := by decide +kernel
theorem d_LW_law_422 : decode b_LW_law 422 = .ok (.goto 477, 3) := by decide +kernel
theorem d_LW_law_425 : decode b_LW_law 425 = .ok (.aload_n 1, 1) := by decide +kernel
theorem d_LW_law_426 : decode b_LW_law 426 = .ok (.aload_n 0, 1) := by decide +kernel
theorem d_LW_law_427 : decode b_LW_law 427 = .ok (.iload 4, 2) := by decide +kernel
theorem d_LW_law_429 : decode b_LW_law 429 = .ok (.iconst 1, 1) := by decide +kernel
theorem d_LW_law_430 : decode b_LW_law 430 = .ok (.iadd, 1) := by decide +kernel
theorem d_LW_law_431 : decode b_LW_law 431 = .ok (.iaload, 1) := by decide +kernel
theorem d_LW_law_432 : decode b_LW_law 432 = .ok (.aload_n 0, 1) := by decide +kernel
theorem d_LW_law_433 : decode b_LW_law 433 = .ok (.iload 4, 2) := by decide +kernel
theorem d_LW_law_435 : decode b_LW_law 435 = .ok (.iconst 2, 1) := by decide +kernel
theorem d_LW_law_436 : decode b_LW_law 436 = .ok (.iadd, 1) := by decide +kernel
theorem d_LW_law_437 : decode b_LW_law 437 = .ok (.iaload, 1) := by decide +kernel
theorem d_LW_law_438 : decode b_LW_law 438 = .ok (.aload_n 3, 1) := by decide +kernel
theorem d_LW_law_439 : decode b_LW_law 439 = .ok (.invokestatic 96, 3) := by decide +kernel
theorem d_LW_law_442 : decode b_LW_law 442 = .ok (.istore 5, 2) := by decide +kernel
theorem d_LW_law_444 : decode b_LW_law 444 = .ok (.aload_n 2, 1) := by decide +kernel
theorem d_LW_law_445 : decode b_LW_law 445 = .ok (.aload_n 0, 1) := by decide +kernel
theorem d_LW_law_446 : decode b_LW_law 446 = .ok (.iload 4, 2) := by decide +kernel
theorem d_LW_law_448 : decode b_LW_law 448 = .ok (.iconst 1, 1) := by decide +kernel
theorem d_LW_law_449 : decode b_LW_law 449 = .ok (.iadd, 1) := by decide +kernel
theorem d_LW_law_450 : decode b_LW_law 450 = .ok (.iaload, 1) := by decide +kernel
theorem d_LW_law_451 : decode b_LW_law 451 = .ok (.aload_n 0, 1) := by decide +kernel
theorem d_LW_law_452 : decode b_LW_law 452 = .ok (.iload 4, 2) := by decide +kernel
theorem d_LW_law_454 : decode b_LW_law 454 = .ok (.iconst 2, 1) := by decide +kernel
theorem d_LW_law_455 : decode b_LW_law 455 = .ok (.iadd, 1) := by decide +kernel
theorem d_LW_law_456 : decode b_LW_law 456 = .ok (.iaload, 1) := by decide +kernel
theorem d_LW_law_457 : decode b_LW_law 457 = .ok (.invokevirtual 98, 3) := by decide +kernel
theorem d_LW_law_460 : decode b_LW_law 460 = .ok (.lstore 6, 2) := by decide +kernel
theorem d_LW_law_462 : decode b_LW_law 462 = .ok (.aload_n 2, 1) := by decide +kernel
theorem d_LW_law_463 : decode b_LW_law 463 = .ok (.invokevirtual 86, 3) := by decide +kernel
theorem d_LW_law_466 : decode b_LW_law 466 = .ok (.iload 5, 2) := by decide +kernel
theorem d_LW_law_468 : decode b_LW_law 468 = .ok (.if_icmp .eq 5, 3) := by decide +kernel
theorem d_LW_law_473 : decode b_LW_law 473 = .ok (.iload 5, 2) := by decide +kernel
theorem d_LW_law_475 : decode b_LW_law 475 = .ok (.ifCond .ne 14, 3) := by decide +kernel
theorem d_LW_law_478 : decode b_LW_law 478 = .ok (.aload_n 3, 1) := by decide +kernel
theorem d_LW_law_479 : decode b_LW_law 479 = .ok (.iconst 0, 1) := by decide +kernel
theorem d_LW_law_480 : decode b_LW_law 480 = .ok (.laload, 1) := by decide +kernel
theorem d_LW_law_481 : decode b_LW_law 481 = .ok (.lload 6, 2) := by decide +kernel
theorem d_LW_law_483 : decode b_LW_law 483 = .ok (.lcmp, 1) := by decide +kernel
theorem d_LW_law_484 : decode b_LW_law 484 = .ok (.ifCond .eq 5, 3) := by decide +kernel
theorem d_LW_law_489 : decode b_LW_law 489 = .ok (.goto 410, 3) := by decide +kernel
theorem d_LW_law_492 : decode b_LW_law 492 = .ok (.aload_n 1, 1) := by decide +kernel
theorem d_LW_law_493 : decode b_LW_law 493 = .ok (.aload_n 0, 1) := by decide +kernel
theorem d_LW_law_494 : decode b_LW_law 494 = .ok (.iload 4, 2) := by decide +kernel
theorem d_LW_law_496 : decode b_LW_law 496 = .ok (.iconst 1, 1) := by decide +kernel
theorem d_LW_law_497 : decode b_LW_law 497 = .ok (.iadd, 1) := by decide +kernel
theorem d_LW_law_498 : decode b_LW_law 498 = .ok (.iaload, 1) := by decide +kernel
theorem d_LW_law_499 : decode b_LW_law 499 = .ok (.aload_n 0, 1) := by decide +kernel
theorem d_LW_law_500 : decode b_LW_law 500 = .ok (.iload 4, 2) := by decide +kernel
theorem d_LW_law_502 : decode b_LW_law 502 = .ok (.iconst 2, 1) := by decide +kernel
theorem d_LW_law_503 : decode b_LW_law 503 = .ok (.iadd, 1) := by decide +kernel
theorem d_LW_law_504 : decode b_LW_law 504 = .ok (.iaload, 1) := by decide +kernel
theorem d_LW_law_505 : decode b_LW_law 505 = .ok (.aload_n 3, 1) := by decide +kernel
theorem d_LW_law_506 : decode b_LW_law 506 = .ok (.invokestatic 99, 3) := by decide +kernel
theorem d_LW_law_509 : decode b_LW_law 509 = .ok (.istore 5, 2) := by decide +kernel
theorem d_LW_law_511 : decode b_LW_law 511 = .ok (.aload_n 2, 1) := by decide +kernel
theorem d_LW_law_512 : decode b_LW_law 512 = .ok (.aload_n 0, 1) := by decide +kernel
theorem d_LW_law_513 : decode b_LW_law 513 = .ok (.iload 4, 2) := by decide +kernel
theorem d_LW_law_515 : decode b_LW_law 515 = .ok (.iconst 1, 1) := by decide +kernel
theorem d_LW_law_516 : decode b_LW_law 516 = .ok (.iadd, 1) := by decide +kernel
theorem d_LW_law_517 : decode b_LW_law 517 = .ok (.iaload, 1) := by decide +kernel
theorem d_LW_law_518 : decode b_LW_law 518 = .ok (.aload_n 0, 1) := by decide +kernel
theorem d_LW_law_519 : decode b_LW_law 519 = .ok (.iload 4, 2) := by decide +kernel
theorem d_LW_law_521 : decode b_LW_law 521 = .ok (.iconst 2, 1) := by decide +kernel
theorem d_LW_law_522 : decode b_LW_law 522 = .ok (.iadd, 1) := by decide +kernel
theorem d_LW_law_523 : decode b_LW_law 523 = .ok (.iaload, 1) := by decide +kernel
theorem d_LW_law_524 : decode b_LW_law 524 = .ok (.invokevirtual 101, 3) := by decide +kernel
theorem d_LW_law_527 : decode b_LW_law 527 = .ok (.istore 6, 2) := by decide +kernel
theorem d_LW_law_529 : decode b_LW_law 529 = .ok (.aload_n 2, 1) := by decide +kernel
theorem d_LW_law_530 : decode b_LW_law 530 = .ok (.invokevirtual 86, 3) := by decide +kernel
theorem d_LW_law_533 : decode b_LW_law 533 = .ok (.iload 5, 2) := by decide +kernel
theorem d_LW_law_535 : decode b_LW_law 535 = .ok (.if_icmp .eq 5, 3) := by decide +kernel
theorem d_LW_law_540 : decode b_LW_law 540 = .ok (.iload 5, 2) := by decide +kernel
theorem d_LW_law_542 : decode b_LW_law 542 = .ok (.ifCond .ne 15, 3) := by decide +kernel
theorem d_LW_law_545 : decode b_LW_law 545 = .ok (.aload_n 3, 1) := by decide +kernel
theorem d_LW_law_546 : decode b_LW_law 546 = .ok (.iconst 0, 1) := by decide +kernel
theorem d_LW_law_547 : decode b_LW_law 547 = .ok (.laload, 1) := by decide +kernel
theorem d_LW_law_548 : decode b_LW_law 548 = .ok (.iload 6, 2) := by decide +kernel
theorem d_LW_law_550 : decode b_LW_law 550 = .ok (.i2l, 1) := by decide +kernel
theorem d_LW_law_551 : decode b_LW_law 551 = .ok (.lcmp, 1) := by decide +kernel
theorem d_LW_law_552 : decode b_LW_law 552 = .ok (.ifCond .eq 5, 3) := by decide +kernel
theorem d_LW_law_557 : decode b_LW_law 557 = .ok (.goto 342, 3) := by decide +kernel
theorem d_LW_law_560 : decode b_LW_law 560 = .ok (.aload_n 1, 1) := by decide +kernel
theorem d_LW_law_561 : decode b_LW_law 561 = .ok (.aload_n 0, 1) := by decide +kernel
theorem d_LW_law_562 : decode b_LW_law 562 = .ok (.iload 4, 2) := by decide +kernel
theorem d_LW_law_564 : decode b_LW_law 564 = .ok (.iconst 1, 1) := by decide +kernel
theorem d_LW_law_565 : decode b_LW_law 565 = .ok (.iadd, 1) := by decide +kernel
theorem d_LW_law_566 : decode b_LW_law 566 = .ok (.iaload, 1) := by decide +kernel
theorem d_LW_law_567 : decode b_LW_law 567 = .ok (.aload_n 0, 1) := by decide +kernel
theorem d_LW_law_568 : decode b_LW_law 568 = .ok (.iload 4, 2) := by decide +kernel
theorem d_LW_law_570 : decode b_LW_law 570 = .ok (.iconst 2, 1) := by decide +kernel
theorem d_LW_law_571 : decode b_LW_law 571 = .ok (.iadd, 1) := by decide +kernel
theorem d_LW_law_572 : decode b_LW_law 572 = .ok (.iaload, 1) := by decide +kernel
theorem d_LW_law_573 : decode b_LW_law 573 = .ok (.aload_n 0, 1) := by decide +kernel
theorem d_LW_law_574 : decode b_LW_law 574 = .ok (.iload 4, 2) := by decide +kernel
theorem d_LW_law_576 : decode b_LW_law 576 = .ok (.iconst 3, 1) := by decide +kernel
theorem d_LW_law_577 : decode b_LW_law 577 = .ok (.iadd, 1) := by decide +kernel
theorem d_LW_law_578 : decode b_LW_law 578 = .ok (.iaload, 1) := by decide +kernel
theorem d_LW_law_579 : decode b_LW_law 579 = .ok (.aload_n 3, 1) := by decide +kernel
theorem d_LW_law_580 : decode b_LW_law 580 = .ok (.invokestatic 102, 3) := by decide +kernel
theorem d_LW_law_583 : decode b_LW_law 583 = .ok (.istore 5, 2) := by decide +kernel
theorem d_LW_law_585 : decode b_LW_law 585 = .ok (.aload_n 2, 1) := by decide +kernel
theorem d_LW_law_586 : decode b_LW_law 586 = .ok (.aload_n 0, 1) := by decide +kernel
theorem d_LW_law_587 : decode b_LW_law 587 = .ok (.iload 4, 2) := by decide +kernel
theorem d_LW_law_589 : decode b_LW_law 589 = .ok (.iconst 1, 1) := by decide +kernel
theorem d_LW_law_590 : decode b_LW_law 590 = .ok (.iadd, 1) := by decide +kernel
theorem d_LW_law_591 : decode b_LW_law 591 = .ok (.iaload, 1) := by decide +kernel
theorem d_LW_law_592 : decode b_LW_law 592 = .ok (.aload_n 0, 1) := by decide +kernel
theorem d_LW_law_593 : decode b_LW_law 593 = .ok (.iload 4, 2) := by decide +kernel
theorem d_LW_law_595 : decode b_LW_law 595 = .ok (.iconst 2, 1) := by decide +kernel
theorem d_LW_law_596 : decode b_LW_law 596 = .ok (.iadd, 1) := by decide +kernel
theorem d_LW_law_597 : decode b_LW_law 597 = .ok (.iaload, 1) := by decide +kernel
theorem d_LW_law_598 : decode b_LW_law 598 = .ok (.aload_n 0, 1) := by decide +kernel
theorem d_LW_law_599 : decode b_LW_law 599 = .ok (.iload 4, 2) := by decide +kernel
theorem d_LW_law_601 : decode b_LW_law 601 = .ok (.iconst 3, 1) := by decide +kernel
theorem d_LW_law_602 : decode b_LW_law 602 = .ok (.iadd, 1) := by decide +kernel
theorem d_LW_law_603 : decode b_LW_law 603 = .ok (.iaload, 1) := by decide +kernel
theorem d_LW_law_604 : decode b_LW_law 604 = .ok (.invokevirtual 105, 3) := by decide +kernel
theorem d_LW_law_607 : decode b_LW_law 607 = .ok (.istore 6, 2) := by decide +kernel
theorem d_LW_law_609 : decode b_LW_law 609 = .ok (.aload_n 2, 1) := by decide +kernel
theorem d_LW_law_610 : decode b_LW_law 610 = .ok (.invokevirtual 86, 3) := by decide +kernel
theorem d_LW_law_613 : decode b_LW_law 613 = .ok (.iload 5, 2) := by decide +kernel
theorem d_LW_law_615 : decode b_LW_law 615 = .ok (.if_icmp .eq 5, 3) := by decide +kernel
theorem d_LW_law_620 : decode b_LW_law 620 = .ok (.iload 5, 2) := by decide +kernel
theorem d_LW_law_622 : decode b_LW_law 622 = .ok (.ifCond .ne 15, 3) := by decide +kernel
theorem d_LW_law_625 : decode b_LW_law 625 = .ok (.aload_n 3, 1) := by decide +kernel
theorem d_LW_law_626 : decode b_LW_law 626 = .ok (.iconst 0, 1) := by decide +kernel
theorem d_LW_law_627 : decode b_LW_law 627 = .ok (.laload, 1) := by decide +kernel
theorem d_LW_law_628 : decode b_LW_law 628 = .ok (.iload 6, 2) := by decide +kernel
