theorem d_LA_build_0 : decode b_LA_build 0 = .ok (.aload_n 0, 1) := by decide +kernel
theorem d_LA_build_1 : decode b_LA_build 1 = .ok (.aload_n 1, 1) := by decide +kernel
theorem d_LA_build_2 : decode b_LA_build 2 = .ok (.getfield 43, 3) := by decide +kernel
theorem d_LA_build_5 : decode b_LA_build 5 = .ok (.putfield 34, 3) := by decide +kernel
theorem d_LA_build_8 : decode b_LA_build 8 = .ok (.aload_n 0, 1) := by decide +kernel
theorem d_LA_build_9 : decode b_LA_build 9 = .ok (.aload_n 1, 1) := by decide +kernel
theorem d_LA_build_10 : decode b_LA_build 10 = .ok (.getfield 43, 3) := by decide +kernel
theorem d_LA_build_13 : decode b_LA_build 13 = .ok (.aload_n 1, 1) := by decide +kernel
theorem d_LA_build_14 : decode b_LA_build 14 = .ok (.invokevirtual 48, 3) := by decide +kernel
theorem d_LA_build_17 : decode b_LA_build 17 = .ok (.iadd, 1) := by decide +kernel
theorem d_LA_build_18 : decode b_LA_build 18 = .ok (.putfield 37, 3) := by decide +kernel
theorem d_LA_build_21 : decode b_LA_build 21 = .ok (.aload_n 0, 1) := by decide +kernel
theorem d_LA_build_22 : decode b_LA_build 22 = .ok (.iconst 0, 1) := by decide +kernel
theorem d_LA_build_23 : decode b_LA_build 23 = .ok (.putfield 40, 3) := by decide +kernel
theorem d_LA_build_26 : decode b_LA_build 26 = .ok (.aload_n 0, 1) := by decide +kernel
theorem d_LA_build_27 : decode b_LA_build 27 = .ok (.getfield 16, 3) := by decide +kernel
theorem d_LA_build_30 : decode b_LA_build 30 = .ok (.iconst (-1), 1) := by decide +kernel
theorem d_LA_build_31 : decode b_LA_build 31 = .ok (.invokestatic 52, 3) := by decide +kernel
theorem d_LA_build_34 : decode b_LA_build 34 = .ok (.iconst 0, 1) := by decide +kernel
theorem d_LA_build_35 : decode b_LA_build 35 = .ok (.istore_n 2, 1) := by decide +kernel
theorem d_LA_build_36 : decode b_LA_build 36 = .ok (.iload_n 2, 1) := by decide +kernel
theorem d_LA_build_37 : decode b_LA_build 37 = .ok (.aload_n 1, 1) := by decide +kernel
theorem d_LA_build_38 : decode b_LA_build 38 = .ok (.invokevirtual 48, 3) := by decide +kernel
theorem d_LA_build_41 : decode b_LA_build 41 = .ok (.if_icmp .ge 68, 3) := by decide +kernel
theorem d_LA_build_44 : decode b_LA_build 44 = .ok (.aload_n 0, 1) := by decide +kernel
theorem d_LA_build_45 : decode b_LA_build 45 = .ok (.getfield 27, 3) := by decide +kernel
theorem d_LA_build_48 : decode b_LA_build 48 = .ok (.lconst 0, 1) := by decide +kernel
theorem d_LA_build_49 : decode b_LA_build 49 = .ok (.invokestatic 58, 3) := by decide +kernel
theorem d_LA_build_52 : decode b_LA_build 52 = .ok (.iconst 0, 1) := by decide +kernel
theorem d_LA_build_53 : decode b_LA_build 53 = .ok (.istore_n 3, 1) := by decide +kernel
theorem d_LA_build_54 : decode b_LA_build 54 = .ok (.iload_n 3, 1) := by decide +kernel
theorem d_LA_build_55 : decode b_LA_build 55 = .ok (.aload_n 0, 1) := by decide +kernel
theorem d_LA_build_56 : decode b_LA_build 56 = .ok (.getfield 34, 3) := by decide +kernel
theorem d_LA_build_59 : decode b_LA_build 59 = .ok (.if_icmp .ge 24, 3) := by decide +kernel
theorem d_LA_build_62 : decode b_LA_build 62 = .ok (.aload_n 0, 1) := by decide +kernel
theorem d_LA_build_63 : decode b_LA_build 63 = .ok (.getfield 27, 3) := by decide +kernel
theorem d_LA_build_66 : decode b_LA_build 66 = .ok (.iload_n 3, 1) := by decide +kernel
theorem d_LA_build_67 : decode b_LA_build 67 = .ok (.aload_n 1, 1) := by decide +kernel
theorem d_LA_build_68 : decode b_LA_build 68 = .ok (.getfield 61, 3) := by decide +kernel
theorem d_LA_build_71 : decode b_LA_build 71 = .ok (.iload_n 3, 1) := by decide +kernel
theorem d_LA_build_72 : decode b_LA_build 72 = .ok (.aaload, 1) := by decide +kernel
theorem d_LA_build_73 : decode b_LA_build 73 = .ok (.iload_n 2, 1) := by decide +kernel
theorem d_LA_build_74 : decode b_LA_build 74 = .ok (.iaload, 1) := by decide +kernel
theorem d_LA_build_75 : decode b_LA_build 75 = .ok (.i2l, 1) := by decide +kernel
theorem d_LA_build_76 : decode b_LA_build 76 = .ok (.lastore, 1) := by decide +kernel
theorem d_LA_build_77 : decode b_LA_build 77 = .ok (.iinc 3 1, 3) := by decide +kernel
theorem d_LA_build_80 : decode b_LA_build 80 = .ok (.goto (-26), 3) := by decide +kernel
theorem d_LA_build_83 : decode b_LA_build 83 = .ok (.aload_n 0, 1) := by decide +kernel
theorem d_LA_build_84 : decode b_LA_build 84 = .ok (.getfield 27, 3) := by decide +kernel
theorem d_LA_build_87 : decode b_LA_build 87 = .ok (.aload_n 0, 1) := by decide +kernel
theorem d_LA_build_88 : decode b_LA_build 88 = .ok (.getfield 34, 3) := by decide +kernel
theorem d_LA_build_91 : decode b_LA_build 91 = .ok (.iload_n 2, 1) := by decide +kernel
theorem d_LA_build_92 : decode b_LA_build 92 = .ok (.iadd, 1) := by decide +kernel
theorem d_LA_build_93 : decode b_LA_build 93 = .ok (.lconst 1, 1) := by decide +kernel
theorem d_LA_build_94 : decode b_LA_build 94 = .ok (.lastore, 1) := by decide +kernel
theorem d_LA_build_95 : decode b_LA_build 95 = .ok (.aload_n 0, 1) := by decide +kernel
theorem d_LA_build_96 : decode b_LA_build 96 = .ok (.invokevirtual 65, 3) := by decide +kernel
theorem d_LA_build_99 : decode b_LA_build 99 = .ok (.aload_n 0, 1) := by decide +kernel
theorem d_LA_build_100 : decode b_LA_build 100 = .ok (.invokevirtual 68, 3) := by decide +kernel
theorem d_LA_build_103 : decode b_LA_build 103 = .ok (.iinc 2 1, 3) := by decide +kernel
theorem d_LA_build_106 : decode b_LA_build 106 = .ok (.goto (-70), 3) := by decide +kernel
theorem d_LA_build_109 : decode b_LA_build 109 = .ok (.aload_n 0, 1) := by decide +kernel
theorem d_LA_build_110 : decode b_LA_build 110 = .ok (.invokevirtual 71, 3) := by decide +kernel
theorem d_LA_build_113 : decode b_LA_build 113 = .ok (.return_, 1) := by decide +kernel
