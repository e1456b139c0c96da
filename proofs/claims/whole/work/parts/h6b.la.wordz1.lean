theorem d_LA_takeFromTarget_8 : decode b_LA_takeFromTarget 8 = .ok (.iconst (-1), 1) := by decide +kernel
theorem d_LA_takeFromTarget_9 : decode b_LA_takeFromTarget 9 = .ok (.if_icmp .eq 36, 3) := by decide +kernel
theorem d_LA_takeFromTarget_12 : decode b_LA_takeFromTarget 12 = .ok (.aload_n 0, 1) := by decide +kernel
theorem d_LA_takeFromTarget_13 : decode b_LA_takeFromTarget 13 = .ok (.getfield 13, 3) := by decide +kernel
theorem d_LA_takeFromTarget_16 : decode b_LA_takeFromTarget 16 = .ok (.iload_n 2, 1) := by decide +kernel
theorem d_LA_takeFromTarget_17 : decode b_LA_takeFromTarget 17 = .ok (.aaload, 1) := by decide +kernel
theorem d_LA_takeFromTarget_18 : decode b_LA_takeFromTarget 18 = .ok (.iload_n 1, 1) := by decide +kernel
theorem d_LA_takeFromTarget_19 : decode b_LA_takeFromTarget 19 = .ok (.laload, 1) := by decide +kernel
theorem d_LA_takeFromTarget_20 : decode b_LA_takeFromTarget 20 = .ok (.lconst 0, 1) := by decide +kernel
theorem d_LA_takeFromTarget_21 : decode b_LA_takeFromTarget 21 = .ok (.lcmp, 1) := by decide +kernel
theorem d_LA_takeFromTarget_22 : decode b_LA_takeFromTarget 22 = .ok (.ifCond .le 23, 3) := by decide +kernel
theorem d_LA_takeFromTarget_25 : decode b_LA_takeFromTarget 25 = .ok (.aload_n 0, 1) := by decide +kernel
theorem d_LA_takeFromTarget_26 : decode b_LA_takeFromTarget 26 = .ok (.getfield 23, 3) := by decide +kernel
theorem d_LA_takeFromTarget_29 : decode b_LA_takeFromTarget 29 = .ok (.iload_n 1, 1) := by decide +kernel
theorem d_LA_takeFromTarget_30 : decode b_LA_takeFromTarget 30 = .ok (.laload, 1) := by decide +kernel
theorem d_LA_takeFromTarget_31 : decode b_LA_takeFromTarget 31 = .ok (.aload_n 0, 1) := by decide +kernel
theorem d_LA_takeFromTarget_32 : decode b_LA_takeFromTarget 32 = .ok (.getfield 13, 3) := by decide +kernel
theorem d_LA_takeFromTarget_35 : decode b_LA_takeFromTarget 35 = .ok (.iload_n 2, 1) := by decide +kernel
theorem d_LA_takeFromTarget_36 : decode b_LA_takeFromTarget 36 = .ok (.aaload, 1) := by decide +kernel
theorem d_LA_takeFromTarget_37 : decode b_LA_takeFromTarget 37 = .ok (.iload_n 1, 1) := by decide +kernel
theorem d_LA_takeFromTarget_38 : decode b_LA_takeFromTarget 38 = .ok (.laload, 1) := by decide +kernel
theorem d_LA_takeFromTarget_39 : decode b_LA_takeFromTarget 39 = .ok (.lrem, 1) := by decide +kernel
theorem d_LA_takeFromTarget_40 : decode b_LA_takeFromTarget 40 = .ok (.lconst 0, 1) := by decide +kernel
theorem d_LA_takeFromTarget_41 : decode b_LA_takeFromTarget 41 = .ok (.lcmp, 1) := by decide +kernel
theorem d_LA_takeFromTarget_42 : decode b_LA_takeFromTarget 42 = .ok (.ifCond .eq 5, 3) := by decide +kernel
theorem d_LA_takeFromTarget_45 : decode b_LA_takeFromTarget 45 = .ok (.iconst 0, 1) := by decide +kernel
theorem d_LA_takeFromTarget_46 : decode b_LA_takeFromTarget 46 = .ok (.ireturn, 1) := by decide +kernel
theorem d_LA_takeFromTarget_47 : decode b_LA_takeFromTarget 47 = .ok (.aload_n 0, 1) := by decide +kernel
theorem d_LA_takeFromTarget_48 : decode b_LA_takeFromTarget 48 = .ok (.getfield 23, 3) := by decide +kernel
theorem d_LA_takeFromTarget_51 : decode b_LA_takeFromTarget 51 = .ok (.iload_n 1, 1) := by decide +kernel
theorem d_LA_takeFromTarget_52 : decode b_LA_takeFromTarget 52 = .ok (.laload, 1) := by decide +kernel
theorem d_LA_takeFromTarget_53 : decode b_LA_takeFromTarget 53 = .ok (.aload_n 0, 1) := by decide +kernel
theorem d_LA_takeFromTarget_54 : decode b_LA_takeFromTarget 54 = .ok (.getfield 13, 3) := by decide +kernel
theorem d_LA_takeFromTarget_57 : decode b_LA_takeFromTarget 57 = .ok (.iload_n 2, 1) := by decide +kernel
theorem d_LA_takeFromTarget_58 : decode b_LA_takeFromTarget 58 = .ok (.aaload, 1) := by decide +kernel
theorem d_LA_takeFromTarget_59 : decode b_LA_takeFromTarget 59 = .ok (.iload_n 1, 1) := by decide +kernel
theorem d_LA_takeFromTarget_60 : decode b_LA_takeFromTarget 60 = .ok (.laload, 1) := by decide +kernel
theorem d_LA_takeFromTarget_61 : decode b_LA_takeFromTarget 61 = .ok (.ldiv, 1) := by decide +kernel
theorem d_LA_takeFromTarget_62 : decode b_LA_takeFromTarget 62 = .ok (.lstore_n 3, 1) := by decide +kernel
theorem d_LA_takeFromTarget_63 : decode b_LA_takeFromTarget 63 = .ok (.iload_n 1, 1) := by decide +kernel
theorem d_LA_takeFromTarget_64 : decode b_LA_takeFromTarget 64 = .ok (.istore 5, 2) := by decide +kernel
theorem d_LA_takeFromTarget_66 : decode b_LA_takeFromTarget 66 = .ok (.iload 5, 2) := by decide +kernel
theorem d_LA_takeFromTarget_68 : decode b_LA_takeFromTarget 68 = .ok (.aload_n 0, 1) := by decide +kernel
theorem d_LA_takeFromTarget_69 : decode b_LA_takeFromTarget 69 = .ok (.getfield 34, 3) := by decide +kernel
theorem d_LA_takeFromTarget_72 : decode b_LA_takeFromTarget 72 = .ok (.if_icmp .ge 30, 3) := by decide +kernel
theorem d_LA_takeFromTarget_75 : decode b_LA_takeFromTarget 75 = .ok (.aload_n 0, 1) := by decide +kernel
theorem d_LA_takeFromTarget_76 : decode b_LA_takeFromTarget 76 = .ok (.getfield 23, 3) := by decide +kernel
theorem d_LA_takeFromTarget_79 : decode b_LA_takeFromTarget 79 = .ok (.iload 5, 2) := by decide +kernel
theorem d_LA_takeFromTarget_81 : decode b_LA_takeFromTarget 81 = .ok (.dup2, 1) := by decide +kernel
theorem d_LA_takeFromTarget_82 : decode b_LA_takeFromTarget 82 = .ok (.laload, 1) := by decide +kernel
theorem d_LA_takeFromTarget_83 : decode b_LA_takeFromTarget 83 = .ok (.lload_n 3, 1) := by decide +kernel
theorem d_LA_takeFromTarget_84 : decode b_LA_takeFromTarget 84 = .ok (.aload_n 0, 1) := by decide +kernel
theorem d_LA_takeFromTarget_85 : decode b_LA_takeFromTarget 85 = .ok (.getfield 13, 3) := by decide +kernel
theorem d_LA_takeFromTarget_88 : decode b_LA_takeFromTarget 88 = .ok (.iload_n 2, 1) := by decide +kernel
theorem d_LA_takeFromTarget_89 : decode b_LA_takeFromTarget 89 = .ok (.aaload, 1) := by decide +kernel
theorem d_LA_takeFromTarget_90 : decode b_LA_takeFromTarget 90 = .ok (.iload 5, 2) := by decide +kernel
theorem d_LA_takeFromTarget_92 : decode b_LA_takeFromTarget 92 = .ok (.laload, 1) := by decide +kernel
theorem d_LA_takeFromTarget_93 : decode b_LA_takeFromTarget 93 = .ok (.lmul, 1) := by decide +kernel
theorem d_LA_takeFromTarget_94 : decode b_LA_takeFromTarget 94 = .ok (.lsub, 1) := by decide +kernel
theorem d_LA_takeFromTarget_95 : decode b_LA_takeFromTarget 95 = .ok (.lastore, 1) := by decide +kernel
theorem d_LA_takeFromTarget_96 : decode b_LA_takeFromTarget 96 = .ok (.iinc 5 1, 3) := by decide +kernel
theorem d_LA_takeFromTarget_99 : decode b_LA_takeFromTarget 99 = .ok (.goto (-33), 3) := by decide +kernel
theorem d_LA_takeFromTarget_102 : decode b_LA_takeFromTarget 102 = .ok (.iconst 1, 1) := by decide +kernel
theorem d_LA_takeFromTarget_103 : decode b_LA_takeFromTarget 103 = .ok (.ireturn, 1) := by decide +kernel
