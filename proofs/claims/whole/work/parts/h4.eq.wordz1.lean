theorem d_EQ_placeSlacks_32 : decode b_EQ_placeSlacks 32 = .ok (.aload_n 0, 1) := by decide +kernel
theorem d_EQ_placeSlacks_33 : decode b_EQ_placeSlacks 33 = .ok (.getfield 33, 3) := by decide +kernel
theorem d_EQ_placeSlacks_36 : decode b_EQ_placeSlacks 36 = .ok (.iload_n 1, 1) := by decide +kernel
theorem d_EQ_placeSlacks_37 : decode b_EQ_placeSlacks 37 = .ok (.iadd, 1) := by decide +kernel
theorem d_EQ_placeSlacks_38 : decode b_EQ_placeSlacks 38 = .ok (.aload_n 0, 1) := by decide +kernel
theorem d_EQ_placeSlacks_39 : decode b_EQ_placeSlacks 39 = .ok (.getfield 26, 3) := by decide +kernel
theorem d_EQ_placeSlacks_42 : decode b_EQ_placeSlacks 42 = .ok (.iload_n 1, 1) := by decide +kernel
theorem d_EQ_placeSlacks_43 : decode b_EQ_placeSlacks 43 = .ok (.iaload, 1) := by decide +kernel
theorem d_EQ_placeSlacks_44 : decode b_EQ_placeSlacks 44 = .ok (.iastore, 1) := by decide +kernel
theorem d_EQ_placeSlacks_45 : decode b_EQ_placeSlacks 45 = .ok (.iinc 1 1, 3) := by decide +kernel
theorem d_EQ_placeSlacks_48 : decode b_EQ_placeSlacks 48 = .ok (.goto (-46), 3) := by decide +kernel
theorem d_EQ_placeSlacks_51 : decode b_EQ_placeSlacks 51 = .ok (.return_, 1) := by decide +kernel
theorem d_EQ_solvedBy_0 : decode b_EQ_solvedBy 0 = .ok (.iconst 0, 1) := by decide +kernel
theorem d_EQ_solvedBy_1 : decode b_EQ_solvedBy 1 = .ok (.istore_n 3, 1) := by decide +kernel
theorem d_EQ_solvedBy_2 : decode b_EQ_solvedBy 2 = .ok (.iload_n 3, 1) := by decide +kernel
theorem d_EQ_solvedBy_3 : decode b_EQ_solvedBy 3 = .ok (.aload_n 0, 1) := by decide +kernel
theorem d_EQ_solvedBy_4 : decode b_EQ_solvedBy 4 = .ok (.getfield 29, 3) := by decide +kernel
theorem d_EQ_solvedBy_7 : decode b_EQ_solvedBy 7 = .ok (.if_icmp .ge 70, 3) := by decide +kernel
theorem d_EQ_solvedBy_10 : decode b_EQ_solvedBy 10 = .ok (.iload_n 2, 1) := by decide +kernel
theorem d_EQ_solvedBy_11 : decode b_EQ_solvedBy 11 = .ok (.ifCond .eq 7, 3) := by decide +kernel
theorem d_EQ_solvedBy_14 : decode b_EQ_solvedBy 14 = .ok (.iconst 0, 1) := by decide +kernel
theorem d_EQ_solvedBy_15 : decode b_EQ_solvedBy 15 = .ok (.goto 10, 3) := by decide +kernel
theorem d_EQ_solvedBy_18 : decode b_EQ_solvedBy 18 = .ok (.aload_n 0, 1) := by decide +kernel
theorem d_EQ_solvedBy_19 : decode b_EQ_solvedBy 19 = .ok (.getfield 16, 3) := by decide +kernel
theorem d_EQ_solvedBy_22 : decode b_EQ_solvedBy 22 = .ok (.iload_n 3, 1) := by decide +kernel
theorem d_EQ_solvedBy_23 : decode b_EQ_solvedBy 23 = .ok (.iaload, 1) := by decide +kernel
theorem d_EQ_solvedBy_24 : decode b_EQ_solvedBy 24 = .ok (.ineg, 1) := by decide +kernel
theorem d_EQ_solvedBy_25 : decode b_EQ_solvedBy 25 = .ok (.istore 4, 2) := by decide +kernel
theorem d_EQ_solvedBy_27 : decode b_EQ_solvedBy 27 = .ok (.iconst 0, 1) := by decide +kernel
theorem d_EQ_solvedBy_28 : decode b_EQ_solvedBy 28 = .ok (.istore 5, 2) := by decide +kernel
theorem d_EQ_solvedBy_30 : decode b_EQ_solvedBy 30 = .ok (.iload 5, 2) := by decide +kernel
theorem d_EQ_solvedBy_32 : decode b_EQ_solvedBy 32 = .ok (.aload_n 0, 1) := by decide +kernel
theorem d_EQ_solvedBy_33 : decode b_EQ_solvedBy 33 = .ok (.invokevirtual 45, 3) := by decide +kernel
theorem d_EQ_solvedBy_36 : decode b_EQ_solvedBy 36 = .ok (.if_icmp .ge 28, 3) := by decide +kernel
theorem d_EQ_solvedBy_39 : decode b_EQ_solvedBy 39 = .ok (.iload 4, 2) := by decide +kernel
theorem d_EQ_solvedBy_41 : decode b_EQ_solvedBy 41 = .ok (.aload_n 0, 1) := by decide +kernel
theorem d_EQ_solvedBy_42 : decode b_EQ_solvedBy 42 = .ok (.getfield 11, 3) := by decide +kernel
theorem d_EQ_solvedBy_45 : decode b_EQ_solvedBy 45 = .ok (.iload_n 3, 1) := by decide +kernel
theorem d_EQ_solvedBy_46 : decode b_EQ_solvedBy 46 = .ok (.aaload, 1) := by decide +kernel
theorem d_EQ_solvedBy_47 : decode b_EQ_solvedBy 47 = .ok (.iload 5, 2) := by decide +kernel
theorem d_EQ_solvedBy_49 : decode b_EQ_solvedBy 49 = .ok (.iaload, 1) := by decide +kernel
theorem d_EQ_solvedBy_50 : decode b_EQ_solvedBy 50 = .ok (.aload_n 1, 1) := by decide +kernel
theorem d_EQ_solvedBy_51 : decode b_EQ_solvedBy 51 = .ok (.iload 5, 2) := by decide +kernel
theorem d_EQ_solvedBy_53 : decode b_EQ_solvedBy 53 = .ok (.iaload, 1) := by decide +kernel
theorem d_EQ_solvedBy_54 : decode b_EQ_solvedBy 54 = .ok (.imul, 1) := by decide +kernel
theorem d_EQ_solvedBy_55 : decode b_EQ_solvedBy 55 = .ok (.iadd, 1) := by decide +kernel
theorem d_EQ_solvedBy_56 : decode b_EQ_solvedBy 56 = .ok (.istore 4, 2) := by decide +kernel
theorem d_EQ_solvedBy_58 : decode b_EQ_solvedBy 58 = .ok (.iinc 5 1, 3) := by decide +kernel
theorem d_EQ_solvedBy_61 : decode b_EQ_solvedBy 61 = .ok (.goto (-31), 3) := by decide +kernel
theorem d_EQ_solvedBy_64 : decode b_EQ_solvedBy 64 = .ok (.iload 4, 2) := by decide +kernel
theorem d_EQ_solvedBy_66 : decode b_EQ_solvedBy 66 = .ok (.ifCond .eq 5, 3) := by decide +kernel
theorem d_EQ_solvedBy_69 : decode b_EQ_solvedBy 69 = .ok (.iconst 0, 1) := by decide +kernel
theorem d_EQ_solvedBy_70 : decode b_EQ_solvedBy 70 = .ok (.ireturn, 1) := by decide +kernel
theorem d_EQ_solvedBy_71 : decode b_EQ_solvedBy 71 = .ok (.iinc 3 1, 3) := by decide +kernel
theorem d_EQ_solvedBy_74 : decode b_EQ_solvedBy 74 = .ok (.goto (-72), 3) := by decide +kernel
theorem d_EQ_solvedBy_77 : decode b_EQ_solvedBy 77 = .ok (.iconst 1, 1) := by decide +kernel
theorem d_EQ_solvedBy_78 : decode b_EQ_solvedBy 78 = .ok (.ireturn, 1) := by decide +kernel
