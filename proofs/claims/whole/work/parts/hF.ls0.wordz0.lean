theorem d_LS_work_0 : decode b_LS_work 0 = .ok (.iload_n 1, 1) := by decide +kernel
theorem d_LS_work_1 : decode b_LS_work 1 = .ok (.ifCond .lt 8, 3) := by decide +kernel
theorem d_LS_work_4 : decode b_LS_work 4 = .ok (.iload_n 1, 1) := by decide +kernel
theorem d_LS_work_5 : decode b_LS_work 5 = .ok (.iconst 2, 1) := by decide +kernel
theorem d_LS_work_6 : decode b_LS_work 6 = .ok (.if_icmp .le 11, 3) := by decide +kernel
theorem d_LS_work_17 : decode b_LS_work 17 = .ok (.iload_n 2, 1) := by decide +kernel
theorem d_LS_work_18 : decode b_LS_work 18 = .ok (.iload_n 1, 1) := by decide +kernel
theorem d_LS_work_19 : decode b_LS_work 19 = .ok (.iconst 2, 1) := by decide +kernel
theorem d_LS_work_20 : decode b_LS_work 20 = .ok (.if_icmp .ne 8, 3) := by decide +kernel
theorem d_LS_work_28 : decode b_LS_work 28 = .ok (.bipush 16, 2) := by decide +kernel
theorem d_LS_work_30 : decode b_LS_work 30 = .ok (.invokestatic 149, 3) := by decide +kernel
theorem d_LS_work_33 : decode b_LS_work 33 = .ok (.aload_n 0, 1) := by decide +kernel
theorem d_LS_work_34 : decode b_LS_work 34 = .ok (.invokevirtual 128, 3) := by decide +kernel
theorem d_LS_work_37 : decode b_LS_work 37 = .ok (.iload_n 1, 1) := by decide +kernel
theorem d_LS_work_38 : decode b_LS_work 38 = .ok (.iconst 2, 1) := by decide +kernel
theorem d_LS_work_39 : decode b_LS_work 39 = .ok (.if_icmp .eq 8, 3) := by decide +kernel
theorem d_LS_work_42 : decode b_LS_work 42 = .ok (.aload_n 0, 1) := by decide +kernel
theorem d_LS_work_43 : decode b_LS_work 43 = .ok (.iconst 0, 1) := by decide +kernel
theorem d_LS_work_44 : decode b_LS_work 44 = .ok (.putfield 81, 3) := by decide +kernel
theorem d_LS_work_47 : decode b_LS_work 47 = .ok (.aload_n 0, 1) := by decide +kernel
theorem d_LS_work_48 : decode b_LS_work 48 = .ok (.getfield 46, 3) := by decide +kernel
theorem d_LS_work_51 : decode b_LS_work 51 = .ok (.iload_n 1, 1) := by decide +kernel
theorem d_LS_work_52 : decode b_LS_work 52 = .ok (.aaload, 1) := by decide +kernel
theorem d_LS_work_53 : decode b_LS_work 53 = .ok (.astore_n 3, 1) := by decide +kernel
theorem d_LS_work_54 : decode b_LS_work 54 = .ok (.aload_n 3, 1) := by decide +kernel
theorem d_LS_work_55 : decode b_LS_work 55 = .ok (.aload_n 0, 1) := by decide +kernel
theorem d_LS_work_56 : decode b_LS_work 56 = .ok (.getfield 73, 3) := by decide +kernel
theorem d_LS_work_59 : decode b_LS_work 59 = .ok (.invokevirtual 109, 3) := by decide +kernel
theorem d_LS_work_62 : decode b_LS_work 62 = .ok (.iload_n 2, 1) := by decide +kernel
theorem d_LS_work_63 : decode b_LS_work 63 = .ok (.invokevirtual 153, 3) := by decide +kernel
theorem d_LS_work_66 : decode b_LS_work 66 = .ok (.aload_n 0, 1) := by decide +kernel
theorem d_LS_work_67 : decode b_LS_work 67 = .ok (.getfield 40, 3) := by decide +kernel
theorem d_LS_work_70 : decode b_LS_work 70 = .ok (.aload_n 0, 1) := by decide +kernel
theorem d_LS_work_71 : decode b_LS_work 71 = .ok (.getfield 73, 3) := by decide +kernel
theorem d_LS_work_74 : decode b_LS_work 74 = .ok (.iload_n 1, 1) := by decide +kernel
theorem d_LS_work_75 : decode b_LS_work 75 = .ok (.iconst 1, 1) := by decide +kernel
theorem d_LS_work_76 : decode b_LS_work 76 = .ok (.if_icmp .eq 7, 3) := by decide +kernel
theorem d_LS_work_79 : decode b_LS_work 79 = .ok (.iconst 1, 1) := by decide +kernel
theorem d_LS_work_80 : decode b_LS_work 80 = .ok (.goto 4, 3) := by decide +kernel
theorem d_LS_work_84 : decode b_LS_work 84 = .ok (.iload_n 1, 1) := by decide +kernel
theorem d_LS_work_85 : decode b_LS_work 85 = .ok (.iconst 2, 1) := by decide +kernel
theorem d_LS_work_86 : decode b_LS_work 86 = .ok (.if_icmp .ne 7, 3) := by decide +kernel
theorem d_LS_work_93 : decode b_LS_work 93 = .ok (.iconst 0, 1) := by decide +kernel
theorem d_LS_work_94 : decode b_LS_work 94 = .ok (.invokevirtual 156, 3) := by decide +kernel
theorem d_LS_work_97 : decode b_LS_work 97 = .ok (.aload_n 0, 1) := by decide +kernel
theorem d_LS_work_98 : decode b_LS_work 98 = .ok (.getfield 40, 3) := by decide +kernel
theorem d_LS_work_101 : decode b_LS_work 101 = .ok (.iload_n 1, 1) := by decide +kernel
theorem d_LS_work_102 : decode b_LS_work 102 = .ok (.iconst 1, 1) := by decide +kernel
theorem d_LS_work_103 : decode b_LS_work 103 = .ok (.if_icmp .ne 7, 3) := by decide +kernel
theorem d_LS_work_110 : decode b_LS_work 110 = .ok (.iconst 1, 1) := by decide +kernel
theorem d_LS_work_111 : decode b_LS_work 111 = .ok (.iload_n 2, 1) := by decide +kernel
theorem d_LS_work_112 : decode b_LS_work 112 = .ok (.aload_n 3, 1) := by decide +kernel
theorem d_LS_work_113 : decode b_LS_work 113 = .ok (.invokevirtual 160, 3) := by decide +kernel
theorem d_LS_work_116 : decode b_LS_work 116 = .ok (.aload_n 3, 1) := by decide +kernel
theorem d_LS_work_117 : decode b_LS_work 117 = .ok (.getfield 164, 3) := by decide +kernel
theorem d_LS_work_120 : decode b_LS_work 120 = .ok (.ifCond .eq 10, 3) := by decide +kernel
theorem d_LS_work_123 : decode b_LS_work 123 = .ok (.aload_n 3, 1) := by decide +kernel
theorem d_LS_work_124 : decode b_LS_work 124 = .ok (.getfield 167, 3) := by decide +kernel
theorem d_LS_work_127 : decode b_LS_work 127 = .ok (.goto 4, 3) := by decide +kernel
theorem d_LS_work_130 : decode b_LS_work 130 = .ok (.iconst (-1), 1) := by decide +kernel
theorem d_LS_work_131 : decode b_LS_work 131 = .ok (.ireturn, 1) := by decide +kernel
