theorem d_WO_add_0 : decode b_WO_add 0 = .ok (.aload_n 1, 1) := by decide +kernel
theorem d_WO_add_1 : decode b_WO_add 1 = .ok (.iload_n 2, 1) := by decide +kernel
theorem d_WO_add_2 : decode b_WO_add 2 = .ok (.invokestatic 48, 3) := by decide +kernel
theorem d_WO_add_5 : decode b_WO_add 5 = .ok (.istore_n 3, 1) := by decide +kernel
theorem d_WO_add_6 : decode b_WO_add 6 = .ok (.aload_n 1, 1) := by decide +kernel
theorem d_WO_add_7 : decode b_WO_add 7 = .ok (.iload_n 2, 1) := by decide +kernel
theorem d_WO_add_8 : decode b_WO_add 8 = .ok (.iload_n 3, 1) := by decide +kernel
theorem d_WO_add_9 : decode b_WO_add 9 = .ok (.invokestatic 62, 3) := by decide +kernel
theorem d_WO_add_12 : decode b_WO_add 12 = .ok (.istore 4, 2) := by decide +kernel
theorem d_WO_add_14 : decode b_WO_add 14 = .ok (.aload_n 0, 1) := by decide +kernel
theorem d_WO_add_15 : decode b_WO_add 15 = .ok (.iload 4, 2) := by decide +kernel
theorem d_WO_add_17 : decode b_WO_add 17 = .ok (.invokevirtual 66, 3) := by decide +kernel
theorem d_WO_add_20 : decode b_WO_add 20 = .ok (.istore 5, 2) := by decide +kernel
theorem d_WO_add_22 : decode b_WO_add 22 = .ok (.iload 5, 2) := by decide +kernel
theorem d_WO_add_24 : decode b_WO_add 24 = .ok (.iconst (-1), 1) := by decide +kernel
theorem d_WO_add_25 : decode b_WO_add 25 = .ok (.if_icmp .eq 13, 3) := by decide +kernel
theorem d_WO_add_28 : decode b_WO_add 28 = .ok (.aload_n 0, 1) := by decide +kernel
theorem d_WO_add_29 : decode b_WO_add 29 = .ok (.getfield 21, 3) := by decide +kernel
theorem d_WO_add_32 : decode b_WO_add 32 = .ok (.sipush 300, 3) := by decide +kernel
theorem d_WO_add_35 : decode b_WO_add 35 = .ok (.if_icmp .lt 5, 3) := by decide +kernel
theorem d_WO_add_38 : decode b_WO_add 38 = .ok (.iconst 0, 1) := by decide +kernel
theorem d_WO_add_39 : decode b_WO_add 39 = .ok (.ireturn, 1) := by decide +kernel
theorem d_WO_add_40 : decode b_WO_add 40 = .ok (.aload_n 0, 1) := by decide +kernel
theorem d_WO_add_41 : decode b_WO_add 41 = .ok (.iload 5, 2) := by decide +kernel
theorem d_WO_add_43 : decode b_WO_add 43 = .ok (.putfield 25, 3) := by decide +kernel
theorem d_WO_add_46 : decode b_WO_add 46 = .ok (.iload 4, 2) := by decide +kernel
theorem d_WO_add_48 : decode b_WO_add 48 = .ok (.invokestatic 69, 3) := by decide +kernel
theorem d_WO_add_51 : decode b_WO_add 51 = .ok (.ifCond .ne 9, 3) := by decide +kernel
theorem d_WO_add_54 : decode b_WO_add 54 = .ok (.iload 4, 2) := by decide +kernel
theorem d_WO_add_56 : decode b_WO_add 56 = .ok (.iconst 5, 1) := by decide +kernel
theorem d_WO_add_57 : decode b_WO_add 57 = .ok (.if_icmp .ne 18, 3) := by decide +kernel
theorem d_WO_add_60 : decode b_WO_add 60 = .ok (.aload_n 0, 1) := by decide +kernel
theorem d_WO_add_61 : decode b_WO_add 61 = .ok (.iload 4, 2) := by decide +kernel
theorem d_WO_add_63 : decode b_WO_add 63 = .ok (.iconst 5, 1) := by decide +kernel
theorem d_WO_add_64 : decode b_WO_add 64 = .ok (.if_icmp .eq 7, 3) := by decide +kernel
theorem d_WO_add_67 : decode b_WO_add 67 = .ok (.iconst 1, 1) := by decide +kernel
theorem d_WO_add_68 : decode b_WO_add 68 = .ok (.goto 4, 3) := by decide +kernel
theorem d_WO_add_71 : decode b_WO_add 71 = .ok (.iconst 0, 1) := by decide +kernel
theorem d_WO_add_72 : decode b_WO_add 72 = .ok (.putfield 28, 3) := by decide +kernel
theorem d_WO_add_75 : decode b_WO_add 75 = .ok (.aload_n 0, 1) := by decide +kernel
theorem d_WO_add_76 : decode b_WO_add 76 = .ok (.getfield 9, 3) := by decide +kernel
theorem d_WO_add_79 : decode b_WO_add 79 = .ok (.aload_n 0, 1) := by decide +kernel
theorem d_WO_add_80 : decode b_WO_add 80 = .ok (.getfield 21, 3) := by decide +kernel
theorem d_WO_add_83 : decode b_WO_add 83 = .ok (.iload 4, 2) := by decide +kernel
theorem d_WO_add_85 : decode b_WO_add 85 = .ok (.iastore, 1) := by decide +kernel
theorem d_WO_add_86 : decode b_WO_add 86 = .ok (.aload_n 0, 1) := by decide +kernel
theorem d_WO_add_87 : decode b_WO_add 87 = .ok (.getfield 15, 3) := by decide +kernel
theorem d_WO_add_90 : decode b_WO_add 90 = .ok (.aload_n 0, 1) := by decide +kernel
theorem d_WO_add_91 : decode b_WO_add 91 = .ok (.getfield 21, 3) := by decide +kernel
theorem d_WO_add_94 : decode b_WO_add 94 = .ok (.iload_n 2, 1) := by decide +kernel
theorem d_WO_add_95 : decode b_WO_add 95 = .ok (.iastore, 1) := by decide +kernel
theorem d_WO_add_96 : decode b_WO_add 96 = .ok (.aload_n 0, 1) := by decide +kernel
theorem d_WO_add_97 : decode b_WO_add 97 = .ok (.getfield 18, 3) := by decide +kernel
theorem d_WO_add_100 : decode b_WO_add 100 = .ok (.aload_n 0, 1) := by decide +kernel
theorem d_WO_add_101 : decode b_WO_add 101 = .ok (.getfield 21, 3) := by decide +kernel
theorem d_WO_add_104 : decode b_WO_add 104 = .ok (.iload 4, 2) := by decide +kernel
theorem d_WO_add_106 : decode b_WO_add 106 = .ok (.ifCond .ne 12, 3) := by decide +kernel
theorem d_WO_add_109 : decode b_WO_add 109 = .ok (.aload_n 1, 1) := by decide +kernel
theorem d_WO_add_110 : decode b_WO_add 110 = .ok (.iload_n 2, 1) := by decide +kernel
theorem d_WO_add_111 : decode b_WO_add 111 = .ok (.iload_n 3, 1) := by decide +kernel
theorem d_WO_add_112 : decode b_WO_add 112 = .ok (.invokestatic 73, 3) := by decide +kernel
theorem d_WO_add_115 : decode b_WO_add 115 = .ok (.goto 8, 3) := by decide +kernel
theorem d_WO_add_118 : decode b_WO_add 118 = .ok (.aload_n 1, 1) := by decide +kernel
theorem d_WO_add_119 : decode b_WO_add 119 = .ok (.iload_n 2, 1) := by decide +kernel
theorem d_WO_add_120 : decode b_WO_add 120 = .ok (.invokevirtual 40, 3) := by decide +kernel
theorem d_WO_add_123 : decode b_WO_add 123 = .ok (.iastore, 1) := by decide +kernel
theorem d_WO_add_124 : decode b_WO_add 124 = .ok (.aload_n 0, 1) := by decide +kernel
theorem d_WO_add_125 : decode b_WO_add 125 = .ok (.dup, 1) := by decide +kernel
theorem d_WO_add_126 : decode b_WO_add 126 = .ok (.getfield 21, 3) := by decide +kernel
theorem d_WO_add_129 : decode b_WO_add 129 = .ok (.iconst 1, 1) := by decide +kernel
theorem d_WO_add_130 : decode b_WO_add 130 = .ok (.iadd, 1) := by decide +kernel
theorem d_WO_add_131 : decode b_WO_add 131 = .ok (.putfield 21, 3) := by decide +kernel
theorem d_WO_add_134 : decode b_WO_add 134 = .ok (.iconst 1, 1) := by decide +kernel
theorem d_WO_add_135 : decode b_WO_add 135 = .ok (.ireturn, 1) := by decide +kernel
theorem d_WO_areSystem_0 : decode b_WO_areSystem 0 = .ok (.aload_n 0, 1) := by decide +kernel
theorem d_WO_areSystem_1 : decode b_WO_areSystem 1 = .ok (.iconst 0, 1) := by decide +kernel
theorem d_WO_areSystem_2 : decode b_WO_areSystem 2 = .ok (.putfield 21, 3) := by decide +kernel
theorem d_WO_areSystem_5 : decode b_WO_areSystem 5 = .ok (.aload_n 0, 1) := by decide +kernel
theorem d_WO_areSystem_6 : decode b_WO_areSystem 6 = .ok (.iconst 0, 1) := by decide +kernel
theorem d_WO_areSystem_7 : decode b_WO_areSystem 7 = .ok (.putfield 25, 3) := by decide +kernel
theorem d_WO_areSystem_10 : decode b_WO_areSystem 10 = .ok (.aload_n 0, 1) := by decide +kernel
theorem d_WO_areSystem_11 : decode b_WO_areSystem 11 = .ok (.iconst 0, 1) := by decide +kernel
theorem d_WO_areSystem_12 : decode b_WO_areSystem 12 = .ok (.putfield 28, 3) := by decide +kernel
theorem d_WO_areSystem_15 : decode b_WO_areSystem 15 = .ok (.iconst 0, 1) := by decide +kernel
theorem d_WO_areSystem_16 : decode b_WO_areSystem 16 = .ok (.istore_n 2, 1) := by decide +kernel
theorem d_WO_areSystem_17 : decode b_WO_areSystem 17 = .ok (.iload_n 2, 1) := by decide +kernel
theorem d_WO_areSystem_18 : decode b_WO_areSystem 18 = .ok (.aload_n 1, 1) := by decide +kernel
theorem d_WO_areSystem_19 : decode b_WO_areSystem 19 = .ok (.getfield 35, 3) := by decide +kernel
theorem d_WO_areSystem_22 : decode b_WO_areSystem 22 = .ok (.if_icmp .ge 44, 3) := by decide +kernel
theorem d_WO_areSystem_25 : decode b_WO_areSystem 25 = .ok (.aload_n 1, 1) := by decide +kernel
theorem d_WO_areSystem_26 : decode b_WO_areSystem 26 = .ok (.iload_n 2, 1) := by decide +kernel
theorem d_WO_areSystem_27 : decode b_WO_areSystem 27 = .ok (.invokevirtual 40, 3) := by decide +kernel
theorem d_WO_areSystem_30 : decode b_WO_areSystem 30 = .ok (.bipush 32, 2) := by decide +kernel
theorem d_WO_areSystem_32 : decode b_WO_areSystem 32 = .ok (.if_icmp .eq 19, 3) := by decide +kernel
theorem d_WO_areSystem_35 : decode b_WO_areSystem 35 = .ok (.aload_n 0, 1) := by decide +kernel
theorem d_WO_areSystem_36 : decode b_WO_areSystem 36 = .ok (.aload_n 1, 1) := by decide +kernel
theorem d_WO_areSystem_37 : decode b_WO_areSystem 37 = .ok (.iload_n 2, 1) := by decide +kernel
theorem d_WO_areSystem_38 : decode b_WO_areSystem 38 = .ok (.invokevirtual 44, 3) := by decide +kernel
theorem d_WO_areSystem_41 : decode b_WO_areSystem 41 = .ok (.ifCond .ne 10, 3) := by decide +kernel
theorem d_WO_areSystem_44 : decode b_WO_areSystem 44 = .ok (.aload_n 0, 1) := by decide +kernel
theorem d_WO_areSystem_45 : decode b_WO_areSystem 45 = .ok (.iload_n 2, 1) := by decide +kernel
theorem d_WO_areSystem_46 : decode b_WO_areSystem 46 = .ok (.putfield 32, 3) := by decide +kernel
theorem d_WO_areSystem_49 : decode b_WO_areSystem 49 = .ok (.iconst 0, 1) := by decide +kernel
theorem d_WO_areSystem_50 : decode b_WO_areSystem 50 = .ok (.ireturn, 1) := by decide +kernel
theorem d_WO_areSystem_51 : decode b_WO_areSystem 51 = .ok (.iload_n 2, 1) := by decide +kernel
theorem d_WO_areSystem_52 : decode b_WO_areSystem 52 = .ok (.iconst 1, 1) := by decide +kernel
theorem d_WO_areSystem_53 : decode b_WO_areSystem 53 = .ok (.aload_n 1, 1) := by decide +kernel
theorem d_WO_areSystem_54 : decode b_WO_areSystem 54 = .ok (.iload_n 2, 1) := by decide +kernel
theorem d_WO_areSystem_55 : decode b_WO_areSystem 55 = .ok (.invokestatic 48, 3) := by decide +kernel
theorem d_WO_areSystem_58 : decode b_WO_areSystem 58 = .ok (.invokestatic 52, 3) := by decide +kernel
theorem d_WO_areSystem_61 : decode b_WO_areSystem 61 = .ok (.iadd, 1) := by decide +kernel
theorem d_WO_areSystem_62 : decode b_WO_areSystem 62 = .ok (.istore_n 2, 1) := by decide +kernel
theorem d_WO_areSystem_63 : decode b_WO_areSystem 63 = .ok (.goto (-46), 3) := by decide +kernel
theorem d_WO_areSystem_66 : decode b_WO_areSystem 66 = .ok (.aload_n 0, 1) := by decide +kernel
theorem d_WO_areSystem_67 : decode b_WO_areSystem 67 = .ok (.aload_n 1, 1) := by decide +kernel
theorem d_WO_areSystem_68 : decode b_WO_areSystem 68 = .ok (.getfield 35, 3) := by decide +kernel
theorem d_WO_areSystem_71 : decode b_WO_areSystem 71 = .ok (.putfield 32, 3) := by decide +kernel
theorem d_WO_areSystem_74 : decode b_WO_areSystem 74 = .ok (.aload_n 0, 1) := by decide +kernel
theorem d_WO_areSystem_75 : decode b_WO_areSystem 75 = .ok (.invokevirtual 58, 3) := by decide +kernel
theorem d_WO_areSystem_78 : decode b_WO_areSystem 78 = .ok (.ifCond .eq 14, 3) := by decide +kernel
theorem d_WO_areSystem_81 : decode b_WO_areSystem 81 = .ok (.aload_n 0, 1) := by decide +kernel
theorem d_WO_areSystem_82 : decode b_WO_areSystem 82 = .ok (.getfield 28, 3) := by decide +kernel
theorem d_WO_areSystem_85 : decode b_WO_areSystem 85 = .ok (.ifCond .eq 7, 3) := by decide +kernel
theorem d_WO_areSystem_88 : decode b_WO_areSystem 88 = .ok (.iconst 1, 1) := by decide +kernel
theorem d_WO_areSystem_89 : decode b_WO_areSystem 89 = .ok (.goto 4, 3) := by decide +kernel
theorem d_WO_areSystem_92 : decode b_WO_areSystem 92 = .ok (.iconst 0, 1) := by decide +kernel
theorem d_WO_areSystem_93 : decode b_WO_areSystem 93 = .ok (.ireturn, 1) := by decide +kernel
