theorem d_MO_solvable_36 : decode b_MO_solvable 36 = .ok (.iconst 1, 1) := by decide +kernel
theorem d_MO_solvable_37 : decode b_MO_solvable 37 = .ok (.goto 4, 3) := by decide +kernel
theorem d_MO_solvable_40 : decode b_MO_solvable 40 = .ok (.iconst 0, 1) := by decide +kernel
theorem d_MO_solvable_41 : decode b_MO_solvable 41 = .ok (.ireturn, 1) := by decide +kernel
theorem d_MO_solveWhole_0 : decode b_MO_solveWhole 0 = .ok (.aload_n 0, 1) := by decide +kernel
theorem d_MO_solveWhole_1 : decode b_MO_solveWhole 1 = .ok (.aload_n 0, 1) := by decide +kernel
theorem d_MO_solveWhole_2 : decode b_MO_solveWhole 2 = .ok (.getfield 143, 3) := by decide +kernel
theorem d_MO_solveWhole_5 : decode b_MO_solveWhole 5 = .ok (.putfield 152, 3) := by decide +kernel
theorem d_MO_solveWhole_8 : decode b_MO_solveWhole 8 = .ok (.aload_n 0, 1) := by decide +kernel
theorem d_MO_solveWhole_9 : decode b_MO_solveWhole 9 = .ok (.iconst 1, 1) := by decide +kernel
theorem d_MO_solveWhole_10 : decode b_MO_solveWhole 10 = .ok (.putfield 179, 3) := by decide +kernel
theorem d_MO_solveWhole_13 : decode b_MO_solveWhole 13 = .ok (.iconst 0, 1) := by decide +kernel
theorem d_MO_solveWhole_14 : decode b_MO_solveWhole 14 = .ok (.istore_n 1, 1) := by decide +kernel
theorem d_MO_solveWhole_15 : decode b_MO_solveWhole 15 = .ok (.iload_n 1, 1) := by decide +kernel
theorem d_MO_solveWhole_16 : decode b_MO_solveWhole 16 = .ok (.bipush 36, 2) := by decide +kernel
theorem d_MO_solveWhole_18 : decode b_MO_solveWhole 18 = .ok (.if_icmp .ge 31, 3) := by decide +kernel
theorem d_MO_solveWhole_21 : decode b_MO_solveWhole 21 = .ok (.aload_n 0, 1) := by decide +kernel
theorem d_MO_solveWhole_22 : decode b_MO_solveWhole 22 = .ok (.getfield 68, 3) := by decide +kernel
theorem d_MO_solveWhole_25 : decode b_MO_solveWhole 25 = .ok (.iload_n 1, 1) := by decide +kernel
theorem d_MO_solveWhole_26 : decode b_MO_solveWhole 26 = .ok (.iload_n 1, 1) := by decide +kernel
theorem d_MO_solveWhole_27 : decode b_MO_solveWhole 27 = .ok (.bipush 6, 2) := by decide +kernel
theorem d_MO_solveWhole_29 : decode b_MO_solveWhole 29 = .ok (.irem, 1) := by decide +kernel
theorem d_MO_solveWhole_30 : decode b_MO_solveWhole 30 = .ok (.iload_n 1, 1) := by decide +kernel
theorem d_MO_solveWhole_31 : decode b_MO_solveWhole 31 = .ok (.bipush 6, 2) := by decide +kernel
theorem d_MO_solveWhole_33 : decode b_MO_solveWhole 33 = .ok (.idiv, 1) := by decide +kernel
theorem d_MO_solveWhole_34 : decode b_MO_solveWhole 34 = .ok (.if_icmp .ne 7, 3) := by decide +kernel
theorem d_MO_solveWhole_37 : decode b_MO_solveWhole 37 = .ok (.lconst 1, 1) := by decide +kernel
theorem d_MO_solveWhole_38 : decode b_MO_solveWhole 38 = .ok (.goto 4, 3) := by decide +kernel
theorem d_MO_solveWhole_41 : decode b_MO_solveWhole 41 = .ok (.lconst 0, 1) := by decide +kernel
theorem d_MO_solveWhole_42 : decode b_MO_solveWhole 42 = .ok (.lastore, 1) := by decide +kernel
theorem d_MO_solveWhole_43 : decode b_MO_solveWhole 43 = .ok (.iinc 1 1, 3) := by decide +kernel
theorem d_MO_solveWhole_46 : decode b_MO_solveWhole 46 = .ok (.goto (-31), 3) := by decide +kernel
theorem d_MO_solveWhole_49 : decode b_MO_solveWhole 49 = .ok (.iconst 0, 1) := by decide +kernel
theorem d_MO_solveWhole_50 : decode b_MO_solveWhole 50 = .ok (.istore_n 1, 1) := by decide +kernel
theorem d_MO_solveWhole_51 : decode b_MO_solveWhole 51 = .ok (.iload_n 1, 1) := by decide +kernel
theorem d_MO_solveWhole_52 : decode b_MO_solveWhole 52 = .ok (.bipush 6, 2) := by decide +kernel
theorem d_MO_solveWhole_54 : decode b_MO_solveWhole 54 = .ok (.if_icmp .ge 16, 3) := by decide +kernel
theorem d_MO_solveWhole_57 : decode b_MO_solveWhole 57 = .ok (.aload_n 0, 1) := by decide +kernel
theorem d_MO_solveWhole_58 : decode b_MO_solveWhole 58 = .ok (.getfield 72, 3) := by decide +kernel
theorem d_MO_solveWhole_61 : decode b_MO_solveWhole 61 = .ok (.iload_n 1, 1) := by decide +kernel
theorem d_MO_solveWhole_62 : decode b_MO_solveWhole 62 = .ok (.lconst 0, 1) := by decide +kernel
theorem d_MO_solveWhole_63 : decode b_MO_solveWhole 63 = .ok (.lastore, 1) := by decide +kernel
theorem d_MO_solveWhole_64 : decode b_MO_solveWhole 64 = .ok (.iinc 1 1, 3) := by decide +kernel
theorem d_MO_solveWhole_67 : decode b_MO_solveWhole 67 = .ok (.goto (-16), 3) := by decide +kernel
theorem d_MO_solveWhole_70 : decode b_MO_solveWhole 70 = .ok (.iconst 0, 1) := by decide +kernel
theorem d_MO_solveWhole_71 : decode b_MO_solveWhole 71 = .ok (.istore_n 1, 1) := by decide +kernel
theorem d_MO_solveWhole_72 : decode b_MO_solveWhole 72 = .ok (.iload_n 1, 1) := by decide +kernel
theorem d_MO_solveWhole_73 : decode b_MO_solveWhole 73 = .ok (.aload_n 0, 1) := by decide +kernel
theorem d_MO_solveWhole_74 : decode b_MO_solveWhole 74 = .ok (.getfield 137, 3) := by decide +kernel
theorem d_MO_solveWhole_77 : decode b_MO_solveWhole 77 = .ok (.if_icmp .ge 22, 3) := by decide +kernel
theorem d_MO_solveWhole_80 : decode b_MO_solveWhole 80 = .ok (.aload_n 0, 1) := by decide +kernel
theorem d_MO_solveWhole_81 : decode b_MO_solveWhole 81 = .ok (.iload_n 1, 1) := by decide +kernel
theorem d_MO_solveWhole_82 : decode b_MO_solveWhole 82 = .ok (.invokevirtual 182, 3) := by decide +kernel
theorem d_MO_solveWhole_85 : decode b_MO_solveWhole 85 = .ok (.aload_n 0, 1) := by decide +kernel
theorem d_MO_solveWhole_86 : decode b_MO_solveWhole 86 = .ok (.invokevirtual 185, 3) := by decide +kernel
theorem d_MO_solveWhole_89 : decode b_MO_solveWhole 89 = .ok (.aload_n 0, 1) := by decide +kernel
theorem d_MO_solveWhole_90 : decode b_MO_solveWhole 90 = .ok (.invokevirtual 188, 3) := by decide +kernel
theorem d_MO_solveWhole_93 : decode b_MO_solveWhole 93 = .ok (.iinc 1 1, 3) := by decide +kernel
theorem d_MO_solveWhole_96 : decode b_MO_solveWhole 96 = .ok (.goto (-24), 3) := by decide +kernel
theorem d_MO_solveWhole_99 : decode b_MO_solveWhole 99 = .ok (.return_, 1) := by decide +kernel
