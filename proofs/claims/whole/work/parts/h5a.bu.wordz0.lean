theorem d_BU_add_0 : decode b_BU_add 0 = .ok (.iload_n 1, 1) := by decide +kernel
theorem d_BU_add_1 : decode b_BU_add 1 = .ok (.tableswitch 116 0 8 #[51, 58, 65, 65, 116, 85, 90, 90, 90], 51) := by decide +kernel
theorem d_BU_add_52 : decode b_BU_add 52 = .ok (.aload_n 0, 1) := by decide +kernel
theorem d_BU_add_53 : decode b_BU_add 53 = .ok (.iload_n 2, 1) := by decide +kernel
theorem d_BU_add_54 : decode b_BU_add 54 = .ok (.putfield 28, 3) := by decide +kernel
theorem d_BU_add_57 : decode b_BU_add 57 = .ok (.iconst 0, 1) := by decide +kernel
theorem d_BU_add_58 : decode b_BU_add 58 = .ok (.ireturn, 1) := by decide +kernel
theorem d_BU_add_59 : decode b_BU_add 59 = .ok (.aload_n 0, 1) := by decide +kernel
theorem d_BU_add_60 : decode b_BU_add 60 = .ok (.iload_n 2, 1) := by decide +kernel
theorem d_BU_add_61 : decode b_BU_add 61 = .ok (.iload_n 3, 1) := by decide +kernel
theorem d_BU_add_62 : decode b_BU_add 62 = .ok (.invokevirtual 84, 3) := by decide +kernel
theorem d_BU_add_65 : decode b_BU_add 65 = .ok (.ireturn, 1) := by decide +kernel
theorem d_BU_add_66 : decode b_BU_add 66 = .ok (.aload_n 0, 1) := by decide +kernel
theorem d_BU_add_67 : decode b_BU_add 67 = .ok (.invokevirtual 87, 3) := by decide +kernel
theorem d_BU_add_70 : decode b_BU_add 70 = .ok (.aload_n 0, 1) := by decide +kernel
theorem d_BU_add_71 : decode b_BU_add 71 = .ok (.iload_n 1, 1) := by decide +kernel
theorem d_BU_add_72 : decode b_BU_add 72 = .ok (.iconst 2, 1) := by decide +kernel
theorem d_BU_add_73 : decode b_BU_add 73 = .ok (.if_icmp .ne 7, 3) := by decide +kernel
theorem d_BU_add_76 : decode b_BU_add 76 = .ok (.iconst 1, 1) := by decide +kernel
theorem d_BU_add_77 : decode b_BU_add 77 = .ok (.goto 4, 3) := by decide +kernel
theorem d_BU_add_80 : decode b_BU_add 80 = .ok (.iconst (-1), 1) := by decide +kernel
theorem d_BU_add_81 : decode b_BU_add 81 = .ok (.invokevirtual 80, 3) := by decide +kernel
theorem d_BU_add_84 : decode b_BU_add 84 = .ok (.iconst 0, 1) := by decide +kernel
theorem d_BU_add_85 : decode b_BU_add 85 = .ok (.ireturn, 1) := by decide +kernel
theorem d_BU_add_86 : decode b_BU_add 86 = .ok (.aload_n 0, 1) := by decide +kernel
theorem d_BU_add_87 : decode b_BU_add 87 = .ok (.invokevirtual 66, 3) := by decide +kernel
theorem d_BU_add_90 : decode b_BU_add 90 = .ok (.ireturn, 1) := by decide +kernel
theorem d_BU_add_91 : decode b_BU_add 91 = .ok (.aload_n 0, 1) := by decide +kernel
theorem d_BU_add_92 : decode b_BU_add 92 = .ok (.invokevirtual 87, 3) := by decide +kernel
theorem d_BU_add_95 : decode b_BU_add 95 = .ok (.aload_n 0, 1) := by decide +kernel
theorem d_BU_add_96 : decode b_BU_add 96 = .ok (.iconst 1, 1) := by decide +kernel
theorem d_BU_add_97 : decode b_BU_add 97 = .ok (.invokevirtual 80, 3) := by decide +kernel
theorem d_BU_add_100 : decode b_BU_add 100 = .ok (.aload_n 0, 1) := by decide +kernel
theorem d_BU_add_101 : decode b_BU_add 101 = .ok (.iconst (-1), 1) := by decide +kernel
theorem d_BU_add_102 : decode b_BU_add 102 = .ok (.putfield 22, 3) := by decide +kernel
theorem d_BU_add_105 : decode b_BU_add 105 = .ok (.aload_n 0, 1) := by decide +kernel
theorem d_BU_add_106 : decode b_BU_add 106 = .ok (.iload_n 1, 1) := by decide +kernel
theorem d_BU_add_107 : decode b_BU_add 107 = .ok (.putfield 33, 3) := by decide +kernel
theorem d_BU_add_110 : decode b_BU_add 110 = .ok (.aload_n 0, 1) := by decide +kernel
theorem d_BU_add_111 : decode b_BU_add 111 = .ok (.iload_n 3, 1) := by decide +kernel
theorem d_BU_add_112 : decode b_BU_add 112 = .ok (.putfield 36, 3) := by decide +kernel
theorem d_BU_add_115 : decode b_BU_add 115 = .ok (.iconst 0, 1) := by decide +kernel
theorem d_BU_add_116 : decode b_BU_add 116 = .ok (.ireturn, 1) := by decide +kernel
theorem d_BU_add_117 : decode b_BU_add 117 = .ok (.iconst 0, 1) := by decide +kernel
theorem d_BU_add_118 : decode b_BU_add 118 = .ok (.ireturn, 1) := by decide +kernel
theorem d_BU_addVariable_0 : decode b_BU_addVariable 0 = .ok (.aload_n 0, 1) := by decide +kernel
theorem d_BU_addVariable_1 : decode b_BU_addVariable 1 = .ok (.getfield 12, 3) := by decide +kernel
theorem d_BU_addVariable_4 : decode b_BU_addVariable 4 = .ok (.iload_n 1, 1) := by decide +kernel
theorem d_BU_addVariable_5 : decode b_BU_addVariable 5 = .ok (.invokevirtual 90, 3) := by decide +kernel
theorem d_BU_addVariable_8 : decode b_BU_addVariable 8 = .ok (.istore_n 3, 1) := by decide +kernel
theorem d_BU_addVariable_9 : decode b_BU_addVariable 9 = .ok (.iload_n 3, 1) := by decide +kernel
theorem d_BU_addVariable_10 : decode b_BU_addVariable 10 = .ok (.iconst (-1), 1) := by decide +kernel
theorem d_BU_addVariable_11 : decode b_BU_addVariable 11 = .ok (.if_icmp .ne 10, 3) := by decide +kernel
theorem d_BU_addVariable_14 : decode b_BU_addVariable 14 = .ok (.aload_n 0, 1) := by decide +kernel
theorem d_BU_addVariable_15 : decode b_BU_addVariable 15 = .ok (.iconst 2, 1) := by decide +kernel
theorem d_BU_addVariable_16 : decode b_BU_addVariable 16 = .ok (.iload_n 2, 1) := by decide +kernel
theorem d_BU_addVariable_17 : decode b_BU_addVariable 17 = .ok (.invokevirtual 76, 3) := by decide +kernel
theorem d_BU_addVariable_20 : decode b_BU_addVariable 20 = .ok (.ireturn, 1) := by decide +kernel
theorem d_BU_addVariable_21 : decode b_BU_addVariable 21 = .ok (.aload_n 0, 1) := by decide +kernel
theorem d_BU_addVariable_22 : decode b_BU_addVariable 22 = .ok (.getfield 12, 3) := by decide +kernel
theorem d_BU_addVariable_25 : decode b_BU_addVariable 25 = .ok (.getfield 93, 3) := by decide +kernel
theorem d_BU_addVariable_28 : decode b_BU_addVariable 28 = .ok (.aload_n 0, 1) := by decide +kernel
theorem d_BU_addVariable_29 : decode b_BU_addVariable 29 = .ok (.getfield 18, 3) := by decide +kernel
theorem d_BU_addVariable_32 : decode b_BU_addVariable 32 = .ok (.aaload, 1) := by decide +kernel
theorem d_BU_addVariable_33 : decode b_BU_addVariable 33 = .ok (.iload_n 3, 1) := by decide +kernel
theorem d_BU_addVariable_34 : decode b_BU_addVariable 34 = .ok (.dup2, 1) := by decide +kernel
theorem d_BU_addVariable_35 : decode b_BU_addVariable 35 = .ok (.iaload, 1) := by decide +kernel
theorem d_BU_addVariable_36 : decode b_BU_addVariable 36 = .ok (.aload_n 0, 1) := by decide +kernel
theorem d_BU_addVariable_37 : decode b_BU_addVariable 37 = .ok (.getfield 22, 3) := by decide +kernel
theorem d_BU_addVariable_40 : decode b_BU_addVariable 40 = .ok (.aload_n 0, 1) := by decide +kernel
theorem d_BU_addVariable_41 : decode b_BU_addVariable 41 = .ok (.getfield 25, 3) := by decide +kernel
theorem d_BU_addVariable_44 : decode b_BU_addVariable 44 = .ok (.imul, 1) := by decide +kernel
theorem d_BU_addVariable_45 : decode b_BU_addVariable 45 = .ok (.aload_n 0, 1) := by decide +kernel
theorem d_BU_addVariable_46 : decode b_BU_addVariable 46 = .ok (.getfield 28, 3) := by decide +kernel
theorem d_BU_addVariable_49 : decode b_BU_addVariable 49 = .ok (.iconst (-1), 1) := by decide +kernel
theorem d_BU_addVariable_50 : decode b_BU_addVariable 50 = .ok (.if_icmp .ne 7, 3) := by decide +kernel
theorem d_BU_addVariable_53 : decode b_BU_addVariable 53 = .ok (.iconst 1, 1) := by decide +kernel
theorem d_BU_addVariable_54 : decode b_BU_addVariable 54 = .ok (.goto 7, 3) := by decide +kernel
theorem d_BU_addVariable_57 : decode b_BU_addVariable 57 = .ok (.aload_n 0, 1) := by decide +kernel
theorem d_BU_addVariable_58 : decode b_BU_addVariable 58 = .ok (.getfield 28, 3) := by decide +kernel
theorem d_BU_addVariable_61 : decode b_BU_addVariable 61 = .ok (.imul, 1) := by decide +kernel
theorem d_BU_addVariable_62 : decode b_BU_addVariable 62 = .ok (.iadd, 1) := by decide +kernel
theorem d_BU_addVariable_63 : decode b_BU_addVariable 63 = .ok (.iastore, 1) := by decide +kernel
theorem d_BU_addVariable_64 : decode b_BU_addVariable 64 = .ok (.aload_n 0, 1) := by decide +kernel
theorem d_BU_addVariable_65 : decode b_BU_addVariable 65 = .ok (.iconst (-1), 1) := by decide +kernel
theorem d_BU_addVariable_66 : decode b_BU_addVariable 66 = .ok (.putfield 28, 3) := by decide +kernel
theorem d_BU_addVariable_69 : decode b_BU_addVariable 69 = .ok (.iconst 0, 1) := by decide +kernel
theorem d_BU_addVariable_70 : decode b_BU_addVariable 70 = .ok (.ireturn, 1) := by decide +kernel
