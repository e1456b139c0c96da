theorem d_MO_build_518 : decode b_MO_build 518 = .ok (.iaload, 1) := by decide +kernel
theorem d_MO_build_519 : decode b_MO_build 519 = .ok (.istore 7, 2) := by decide +kernel
theorem d_MO_build_521 : decode b_MO_build 521 = .ok (.iload 6, 2) := by decide +kernel
theorem d_MO_build_523 : decode b_MO_build 523 = .ok (.bipush 6, 2) := by decide +kernel
theorem d_MO_build_525 : decode b_MO_build 525 = .ok (.if_icmp .ne 9, 3) := by decide +kernel
theorem d_MO_build_528 : decode b_MO_build 528 = .ok (.sipush 200, 3) := by decide +kernel
theorem d_MO_build_531 : decode b_MO_build 531 = .ok (.goto 5, 3) := by decide +kernel
theorem d_MO_build_534 : decode b_MO_build 534 = .ok (.bipush 20, 2) := by decide +kernel
theorem d_MO_build_536 : decode b_MO_build 536 = .ok (.istore 8, 2) := by decide +kernel
theorem d_MO_build_538 : decode b_MO_build 538 = .ok (.iload 7, 2) := by decide +kernel
theorem d_MO_build_540 : decode b_MO_build 540 = .ok (.iload 8, 2) := by decide +kernel
theorem d_MO_build_542 : decode b_MO_build 542 = .ok (.if_icmp .gt 11, 3) := by decide +kernel
theorem d_MO_build_545 : decode b_MO_build 545 = .ok (.iload 7, 2) := by decide +kernel
theorem d_MO_build_547 : decode b_MO_build 547 = .ok (.iload 8, 2) := by decide +kernel
theorem d_MO_build_549 : decode b_MO_build 549 = .ok (.ineg, 1) := by decide +kernel
theorem d_MO_build_550 : decode b_MO_build 550 = .ok (.if_icmp .ge 16, 3) := by decide +kernel
theorem d_MO_build_553 : decode b_MO_build 553 = .ok (.aload_n 0, 1) := by decide +kernel
theorem d_MO_build_554 : decode b_MO_build 554 = .ok (.iconst 3, 1) := by decide +kernel
theorem d_MO_build_555 : decode b_MO_build 555 = .ok (.aload_n 0, 1) := by decide +kernel
theorem d_MO_build_556 : decode b_MO_build 556 = .ok (.getfield 20, 3) := by decide +kernel
theorem d_MO_build_559 : decode b_MO_build 559 = .ok (.iload 4, 2) := by decide +kernel
theorem d_MO_build_561 : decode b_MO_build 561 = .ok (.iaload, 1) := by decide +kernel
theorem d_MO_build_562 : decode b_MO_build 562 = .ok (.invokevirtual 113, 3) := by decide +kernel
theorem d_MO_build_565 : decode b_MO_build 565 = .ok (.ireturn, 1) := by decide +kernel
theorem d_MO_build_566 : decode b_MO_build 566 = .ok (.iinc 6 1, 3) := by decide +kernel
theorem d_MO_build_569 : decode b_MO_build 569 = .ok (.goto (-72), 3) := by decide +kernel
theorem d_MO_build_572 : decode b_MO_build 572 = .ok (.aload_n 0, 1) := by decide +kernel
theorem d_MO_build_573 : decode b_MO_build 573 = .ok (.dup, 1) := by decide +kernel
theorem d_MO_build_574 : decode b_MO_build 574 = .ok (.getfield 110, 3) := by decide +kernel
theorem d_MO_build_577 : decode b_MO_build 577 = .ok (.iconst 1, 1) := by decide +kernel
theorem d_MO_build_578 : decode b_MO_build 578 = .ok (.iadd, 1) := by decide +kernel
theorem d_MO_build_579 : decode b_MO_build 579 = .ok (.putfield 110, 3) := by decide +kernel
theorem d_MO_build_582 : decode b_MO_build 582 = .ok (.aload_n 0, 1) := by decide +kernel
theorem d_MO_build_583 : decode b_MO_build 583 = .ok (.getfield 17, 3) := by decide +kernel
theorem d_MO_build_586 : decode b_MO_build 586 = .ok (.iload_n 1, 1) := by decide +kernel
theorem d_MO_build_587 : decode b_MO_build 587 = .ok (.iaload, 1) := by decide +kernel
theorem d_MO_build_588 : decode b_MO_build 588 = .ok (.bipush 6, 2) := by decide +kernel
theorem d_MO_build_590 : decode b_MO_build 590 = .ok (.if_icmp .ne 9, 3) := by decide +kernel
theorem d_MO_build_593 : decode b_MO_build 593 = .ok (.iload_n 1, 1) := by decide +kernel
theorem d_MO_build_594 : decode b_MO_build 594 = .ok (.iconst 1, 1) := by decide +kernel
theorem d_MO_build_595 : decode b_MO_build 595 = .ok (.iadd, 1) := by decide +kernel
theorem d_MO_build_596 : decode b_MO_build 596 = .ok (.goto 4, 3) := by decide +kernel
theorem d_MO_build_599 : decode b_MO_build 599 = .ok (.iload_n 1, 1) := by decide +kernel
theorem d_MO_build_600 : decode b_MO_build 600 = .ok (.istore_n 1, 1) := by decide +kernel
theorem d_MO_build_601 : decode b_MO_build 601 = .ok (.goto (-563), 3) := by decide +kernel
theorem d_MO_build_604 : decode b_MO_build 604 = .ok (.iconst 0, 1) := by decide +kernel
theorem d_MO_build_605 : decode b_MO_build 605 = .ok (.ireturn, 1) := by decide +kernel
