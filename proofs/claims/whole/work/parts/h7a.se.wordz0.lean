theorem d_SE_prepare_0 : decode b_SE_prepare 0 = .ok (.aload_n 0, 1) := by decide +kernel
theorem d_SE_prepare_1 : decode b_SE_prepare 1 = .ok (.aload_n 1, 1) := by decide +kernel
theorem d_SE_prepare_2 : decode b_SE_prepare 2 = .ok (.getfield 40, 3) := by decide +kernel
theorem d_SE_prepare_5 : decode b_SE_prepare 5 = .ok (.putfield 29, 3) := by decide +kernel
theorem d_SE_prepare_8 : decode b_SE_prepare 8 = .ok (.aload_n 0, 1) := by decide +kernel
theorem d_SE_prepare_9 : decode b_SE_prepare 9 = .ok (.aload_n 1, 1) := by decide +kernel
theorem d_SE_prepare_10 : decode b_SE_prepare 10 = .ok (.invokevirtual 43, 3) := by decide +kernel
theorem d_SE_prepare_13 : decode b_SE_prepare 13 = .ok (.putfield 33, 3) := by decide +kernel
theorem d_SE_prepare_16 : decode b_SE_prepare 16 = .ok (.aload_n 0, 1) := by decide +kernel
theorem d_SE_prepare_17 : decode b_SE_prepare 17 = .ok (.iload_n 3, 1) := by decide +kernel
theorem d_SE_prepare_18 : decode b_SE_prepare 18 = .ok (.putfield 36, 3) := by decide +kernel
theorem d_SE_prepare_21 : decode b_SE_prepare 21 = .ok (.iconst 0, 1) := by decide +kernel
theorem d_SE_prepare_22 : decode b_SE_prepare 22 = .ok (.istore 4, 2) := by decide +kernel
theorem d_SE_prepare_24 : decode b_SE_prepare 24 = .ok (.iload 4, 2) := by decide +kernel
theorem d_SE_prepare_26 : decode b_SE_prepare 26 = .ok (.aload_n 0, 1) := by decide +kernel
theorem d_SE_prepare_27 : decode b_SE_prepare 27 = .ok (.getfield 29, 3) := by decide +kernel
theorem d_SE_prepare_30 : decode b_SE_prepare 30 = .ok (.if_icmp .ge 58, 3) := by decide +kernel
theorem d_SE_prepare_33 : decode b_SE_prepare 33 = .ok (.aload_n 1, 1) := by decide +kernel
theorem d_SE_prepare_34 : decode b_SE_prepare 34 = .ok (.getfield 46, 3) := by decide +kernel
theorem d_SE_prepare_37 : decode b_SE_prepare 37 = .ok (.iload 4, 2) := by decide +kernel
theorem d_SE_prepare_39 : decode b_SE_prepare 39 = .ok (.aaload, 1) := by decide +kernel
theorem d_SE_prepare_40 : decode b_SE_prepare 40 = .ok (.iconst 0, 1) := by decide +kernel
theorem d_SE_prepare_41 : decode b_SE_prepare 41 = .ok (.aload_n 0, 1) := by decide +kernel
theorem d_SE_prepare_42 : decode b_SE_prepare 42 = .ok (.getfield 26, 3) := by decide +kernel
theorem d_SE_prepare_45 : decode b_SE_prepare 45 = .ok (.iload 4, 2) := by decide +kernel
theorem d_SE_prepare_47 : decode b_SE_prepare 47 = .ok (.aaload, 1) := by decide +kernel
theorem d_SE_prepare_48 : decode b_SE_prepare 48 = .ok (.iconst 0, 1) := by decide +kernel
theorem d_SE_prepare_49 : decode b_SE_prepare 49 = .ok (.bipush 6, 2) := by decide +kernel
theorem d_SE_prepare_51 : decode b_SE_prepare 51 = .ok (.invokestatic 47, 3) := by decide +kernel
theorem d_SE_prepare_54 : decode b_SE_prepare 54 = .ok (.aload_n 0, 1) := by decide +kernel
theorem d_SE_prepare_55 : decode b_SE_prepare 55 = .ok (.getfield 15, 3) := by decide +kernel
theorem d_SE_prepare_58 : decode b_SE_prepare 58 = .ok (.iload 4, 2) := by decide +kernel
theorem d_SE_prepare_60 : decode b_SE_prepare 60 = .ok (.iload_n 2, 1) := by decide +kernel
theorem d_SE_prepare_61 : decode b_SE_prepare 61 = .ok (.ifCond .eq 7, 3) := by decide +kernel
theorem d_SE_prepare_64 : decode b_SE_prepare 64 = .ok (.iconst 0, 1) := by decide +kernel
theorem d_SE_prepare_65 : decode b_SE_prepare 65 = .ok (.goto 10, 3) := by decide +kernel
theorem d_SE_prepare_68 : decode b_SE_prepare 68 = .ok (.aload_n 1, 1) := by decide +kernel
theorem d_SE_prepare_69 : decode b_SE_prepare 69 = .ok (.getfield 53, 3) := by decide +kernel
theorem d_SE_prepare_72 : decode b_SE_prepare 72 = .ok (.iload 4, 2) := by decide +kernel
theorem d_SE_prepare_74 : decode b_SE_prepare 74 = .ok (.iaload, 1) := by decide +kernel
theorem d_SE_prepare_75 : decode b_SE_prepare 75 = .ok (.iastore, 1) := by decide +kernel
theorem d_SE_prepare_76 : decode b_SE_prepare 76 = .ok (.aload_n 0, 1) := by decide +kernel
theorem d_SE_prepare_77 : decode b_SE_prepare 77 = .ok (.iload 4, 2) := by decide +kernel
theorem d_SE_prepare_79 : decode b_SE_prepare 79 = .ok (.invokevirtual 56, 3) := by decide +kernel
theorem d_SE_prepare_82 : decode b_SE_prepare 82 = .ok (.iinc 4 1, 3) := by decide +kernel
theorem d_SE_prepare_85 : decode b_SE_prepare 85 = .ok (.goto (-61), 3) := by decide +kernel
theorem d_SE_prepare_88 : decode b_SE_prepare 88 = .ok (.return_, 1) := by decide +kernel
