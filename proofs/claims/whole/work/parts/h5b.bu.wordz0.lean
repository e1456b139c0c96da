theorem d_BU_build_0 : decode b_BU_build 0 = .ok (.aload_n 0, 1) := by decide +kernel
theorem d_BU_build_1 : decode b_BU_build 1 = .ok (.getfield 12, 3) := by decide +kernel
theorem d_BU_build_4 : decode b_BU_build 4 = .ok (.invokevirtual 42, 3) := by decide +kernel
theorem d_BU_build_7 : decode b_BU_build 7 = .ok (.aload_n 0, 1) := by decide +kernel
theorem d_BU_build_8 : decode b_BU_build 8 = .ok (.iconst (-1), 1) := by decide +kernel
theorem d_BU_build_9 : decode b_BU_build 9 = .ok (.putfield 39, 3) := by decide +kernel
theorem d_BU_build_12 : decode b_BU_build 12 = .ok (.iconst 0, 1) := by decide +kernel
theorem d_BU_build_13 : decode b_BU_build 13 = .ok (.istore_n 2, 1) := by decide +kernel
theorem d_BU_build_14 : decode b_BU_build 14 = .ok (.iconst 0, 1) := by decide +kernel
theorem d_BU_build_15 : decode b_BU_build 15 = .ok (.istore_n 3, 1) := by decide +kernel
theorem d_BU_build_16 : decode b_BU_build 16 = .ok (.iload_n 3, 1) := by decide +kernel
theorem d_BU_build_17 : decode b_BU_build 17 = .ok (.aload_n 1, 1) := by decide +kernel
theorem d_BU_build_18 : decode b_BU_build 18 = .ok (.getfield 45, 3) := by decide +kernel
theorem d_BU_build_21 : decode b_BU_build 21 = .ok (.if_icmp .ge 67, 3) := by decide +kernel
theorem d_BU_build_24 : decode b_BU_build 24 = .ok (.iload_n 2, 1) := by decide +kernel
theorem d_BU_build_25 : decode b_BU_build 25 = .ok (.ifCond .ne 63, 3) := by decide +kernel
theorem d_BU_build_28 : decode b_BU_build 28 = .ok (.iload_n 3, 1) := by decide +kernel
theorem d_BU_build_29 : decode b_BU_build 29 = .ok (.ifCond .eq 15, 3) := by decide +kernel
theorem d_BU_build_32 : decode b_BU_build 32 = .ok (.aload_n 1, 1) := by decide +kernel
theorem d_BU_build_33 : decode b_BU_build 33 = .ok (.getfield 48, 3) := by decide +kernel
theorem d_BU_build_36 : decode b_BU_build 36 = .ok (.iload_n 3, 1) := by decide +kernel
theorem d_BU_build_37 : decode b_BU_build 37 = .ok (.iconst 1, 1) := by decide +kernel
theorem d_BU_build_38 : decode b_BU_build 38 = .ok (.isub, 1) := by decide +kernel
theorem d_BU_build_39 : decode b_BU_build 39 = .ok (.iaload, 1) := by decide +kernel
theorem d_BU_build_40 : decode b_BU_build 40 = .ok (.iconst 5, 1) := by decide +kernel
theorem d_BU_build_41 : decode b_BU_build 41 = .ok (.if_icmp .ne 14, 3) := by decide +kernel
theorem d_BU_build_44 : decode b_BU_build 44 = .ok (.aload_n 0, 1) := by decide +kernel
theorem d_BU_build_45 : decode b_BU_build 45 = .ok (.aload_n 1, 1) := by decide +kernel
theorem d_BU_build_46 : decode b_BU_build 46 = .ok (.getfield 52, 3) := by decide +kernel
theorem d_BU_build_49 : decode b_BU_build 49 = .ok (.iload_n 3, 1) := by decide +kernel
theorem d_BU_build_50 : decode b_BU_build 50 = .ok (.iaload, 1) := by decide +kernel
theorem d_BU_build_51 : decode b_BU_build 51 = .ok (.invokevirtual 55, 3) := by decide +kernel
theorem d_BU_build_54 : decode b_BU_build 54 = .ok (.istore_n 2, 1) := by decide +kernel
theorem d_BU_build_55 : decode b_BU_build 55 = .ok (.iload_n 2, 1) := by decide +kernel
theorem d_BU_build_56 : decode b_BU_build 56 = .ok (.ifCond .ne 26, 3) := by decide +kernel
theorem d_BU_build_59 : decode b_BU_build 59 = .ok (.aload_n 0, 1) := by decide +kernel
theorem d_BU_build_60 : decode b_BU_build 60 = .ok (.aload_n 1, 1) := by decide +kernel
theorem d_BU_build_61 : decode b_BU_build 61 = .ok (.getfield 48, 3) := by decide +kernel
theorem d_BU_build_64 : decode b_BU_build 64 = .ok (.iload_n 3, 1) := by decide +kernel
theorem d_BU_build_65 : decode b_BU_build 65 = .ok (.iaload, 1) := by decide +kernel
theorem d_BU_build_66 : decode b_BU_build 66 = .ok (.aload_n 1, 1) := by decide +kernel
theorem d_BU_build_67 : decode b_BU_build 67 = .ok (.getfield 59, 3) := by decide +kernel
theorem d_BU_build_70 : decode b_BU_build 70 = .ok (.iload_n 3, 1) := by decide +kernel
theorem d_BU_build_71 : decode b_BU_build 71 = .ok (.iaload, 1) := by decide +kernel
theorem d_BU_build_72 : decode b_BU_build 72 = .ok (.aload_n 1, 1) := by decide +kernel
theorem d_BU_build_73 : decode b_BU_build 73 = .ok (.getfield 52, 3) := by decide +kernel
theorem d_BU_build_76 : decode b_BU_build 76 = .ok (.iload_n 3, 1) := by decide +kernel
theorem d_BU_build_77 : decode b_BU_build 77 = .ok (.iaload, 1) := by decide +kernel
theorem d_BU_build_78 : decode b_BU_build 78 = .ok (.invokevirtual 62, 3) := by decide +kernel
theorem d_BU_build_81 : decode b_BU_build 81 = .ok (.istore_n 2, 1) := by decide +kernel
theorem d_BU_build_82 : decode b_BU_build 82 = .ok (.iinc 3 1, 3) := by decide +kernel
theorem d_BU_build_85 : decode b_BU_build 85 = .ok (.goto (-69), 3) := by decide +kernel
theorem d_BU_build_88 : decode b_BU_build 88 = .ok (.iload_n 2, 1) := by decide +kernel
theorem d_BU_build_89 : decode b_BU_build 89 = .ok (.ifCond .ne 8, 3) := by decide +kernel
theorem d_BU_build_92 : decode b_BU_build 92 = .ok (.aload_n 0, 1) := by decide +kernel
theorem d_BU_build_93 : decode b_BU_build 93 = .ok (.invokevirtual 66, 3) := by decide +kernel
theorem d_BU_build_96 : decode b_BU_build 96 = .ok (.istore_n 2, 1) := by decide +kernel
theorem d_BU_build_97 : decode b_BU_build 97 = .ok (.aload_n 0, 1) := by decide +kernel
theorem d_BU_build_98 : decode b_BU_build 98 = .ok (.getfield 12, 3) := by decide +kernel
theorem d_BU_build_101 : decode b_BU_build 101 = .ok (.invokevirtual 70, 3) := by decide +kernel
theorem d_BU_build_104 : decode b_BU_build 104 = .ok (.iload_n 2, 1) := by decide +kernel
theorem d_BU_build_105 : decode b_BU_build 105 = .ok (.ireturn, 1) := by decide +kernel
theorem d_BU_exchange_0 : decode b_BU_exchange 0 = .ok (.aload_n 0, 1) := by decide +kernel
theorem d_BU_exchange_1 : decode b_BU_exchange 1 = .ok (.getfield 12, 3) := by decide +kernel
theorem d_BU_exchange_4 : decode b_BU_exchange 4 = .ok (.astore_n 2, 1) := by decide +kernel
theorem d_BU_exchange_5 : decode b_BU_exchange 5 = .ok (.aload_n 0, 1) := by decide +kernel
theorem d_BU_exchange_6 : decode b_BU_exchange 6 = .ok (.aload_n 1, 1) := by decide +kernel
theorem d_BU_exchange_7 : decode b_BU_exchange 7 = .ok (.putfield 12, 3) := by decide +kernel
theorem d_BU_exchange_10 : decode b_BU_exchange 10 = .ok (.aload_n 2, 1) := by decide +kernel
theorem d_BU_exchange_11 : decode b_BU_exchange 11 = .ok (.areturn, 1) := by decide +kernel
