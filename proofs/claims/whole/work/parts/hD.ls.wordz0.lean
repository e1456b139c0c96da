theorem d_LS_buildNext_0 : decode b_LS_buildNext 0 = .ok (.aload_n 0, 1) := by decide +kernel
theorem d_LS_buildNext_1 : decode b_LS_buildNext 1 = .ok (.getfield 19, 3) := by decide +kernel
theorem d_LS_buildNext_4 : decode b_LS_buildNext 4 = .ok (.aload_n 0, 1) := by decide +kernel
theorem d_LS_buildNext_5 : decode b_LS_buildNext 5 = .ok (.getfield 10, 3) := by decide +kernel
theorem d_LS_buildNext_8 : decode b_LS_buildNext 8 = .ok (.invokevirtual 231, 3) := by decide +kernel
theorem d_LS_buildNext_11 : decode b_LS_buildNext 11 = .ok (.ifCond .ne 16, 3) := by decide +kernel
theorem d_LS_buildNext_14 : decode b_LS_buildNext 14 = .ok (.aload_n 0, 1) := by decide +kernel
theorem d_LS_buildNext_15 : decode b_LS_buildNext 15 = .ok (.aload_n 0, 1) := by decide +kernel
theorem d_LS_buildNext_16 : decode b_LS_buildNext 16 = .ok (.getfield 19, 3) := by decide +kernel
theorem d_LS_buildNext_19 : decode b_LS_buildNext 19 = .ok (.getfield 235, 3) := by decide +kernel
theorem d_LS_buildNext_22 : decode b_LS_buildNext 22 = .ok (.putfield 87, 3) := by decide +kernel
theorem d_LS_buildNext_25 : decode b_LS_buildNext 25 = .ok (.iconst 1, 1) := by decide +kernel
theorem d_LS_buildNext_26 : decode b_LS_buildNext 26 = .ok (.ireturn, 1) := by decide +kernel
theorem d_LS_buildNext_27 : decode b_LS_buildNext 27 = .ok (.aload_n 0, 1) := by decide +kernel
theorem d_LS_buildNext_28 : decode b_LS_buildNext 28 = .ok (.getfield 26, 3) := by decide +kernel
theorem d_LS_buildNext_31 : decode b_LS_buildNext 31 = .ok (.aload_n 0, 1) := by decide +kernel
theorem d_LS_buildNext_32 : decode b_LS_buildNext 32 = .ok (.getfield 19, 3) := by decide +kernel
theorem d_LS_buildNext_35 : decode b_LS_buildNext 35 = .ok (.invokevirtual 236, 3) := by decide +kernel
theorem d_LS_buildNext_38 : decode b_LS_buildNext 38 = .ok (.istore_n 1, 1) := by decide +kernel
theorem d_LS_buildNext_39 : decode b_LS_buildNext 39 = .ok (.aload_n 0, 1) := by decide +kernel
theorem d_LS_buildNext_40 : decode b_LS_buildNext 40 = .ok (.aload_n 0, 1) := by decide +kernel
theorem d_LS_buildNext_41 : decode b_LS_buildNext 41 = .ok (.getfield 26, 3) := by decide +kernel
theorem d_LS_buildNext_44 : decode b_LS_buildNext 44 = .ok (.getfield 240, 3) := by decide +kernel
theorem d_LS_buildNext_47 : decode b_LS_buildNext 47 = .ok (.putfield 87, 3) := by decide +kernel
theorem d_LS_buildNext_50 : decode b_LS_buildNext 50 = .ok (.iload_n 1, 1) := by decide +kernel
theorem d_LS_buildNext_51 : decode b_LS_buildNext 51 = .ok (.ireturn, 1) := by decide +kernel
theorem d_LS_takeNext_0 : decode b_LS_takeNext 0 = .ok (.aload_n 0, 1) := by decide +kernel
theorem d_LS_takeNext_1 : decode b_LS_takeNext 1 = .ok (.aload_n 0, 1) := by decide +kernel
theorem d_LS_takeNext_2 : decode b_LS_takeNext 2 = .ok (.getfield 26, 3) := by decide +kernel
theorem d_LS_takeNext_5 : decode b_LS_takeNext 5 = .ok (.aload_n 0, 1) := by decide +kernel
theorem d_LS_takeNext_6 : decode b_LS_takeNext 6 = .ok (.getfield 73, 3) := by decide +kernel
theorem d_LS_takeNext_9 : decode b_LS_takeNext 9 = .ok (.invokevirtual 241, 3) := by decide +kernel
theorem d_LS_takeNext_12 : decode b_LS_takeNext 12 = .ok (.putfield 73, 3) := by decide +kernel
theorem d_LS_takeNext_15 : decode b_LS_takeNext 15 = .ok (.aload_n 0, 1) := by decide +kernel
theorem d_LS_takeNext_16 : decode b_LS_takeNext 16 = .ok (.iconst 1, 1) := by decide +kernel
theorem d_LS_takeNext_17 : decode b_LS_takeNext 17 = .ok (.putfield 77, 3) := by decide +kernel
theorem d_LS_takeNext_20 : decode b_LS_takeNext 20 = .ok (.aload_n 0, 1) := by decide +kernel
theorem d_LS_takeNext_21 : decode b_LS_takeNext 21 = .ok (.getfield 33, 3) := by decide +kernel
theorem d_LS_takeNext_24 : decode b_LS_takeNext 24 = .ok (.aload_n 0, 1) := by decide +kernel
theorem d_LS_takeNext_25 : decode b_LS_takeNext 25 = .ok (.getfield 73, 3) := by decide +kernel
theorem d_LS_takeNext_28 : decode b_LS_takeNext 28 = .ok (.invokevirtual 245, 3) := by decide +kernel
theorem d_LS_takeNext_31 : decode b_LS_takeNext 31 = .ok (.iconst 0, 1) := by decide +kernel
theorem d_LS_takeNext_32 : decode b_LS_takeNext 32 = .ok (.istore_n 1, 1) := by decide +kernel
theorem d_LS_takeNext_33 : decode b_LS_takeNext 33 = .ok (.iload_n 1, 1) := by decide +kernel
theorem d_LS_takeNext_34 : decode b_LS_takeNext 34 = .ok (.iconst 2, 1) := by decide +kernel
theorem d_LS_takeNext_35 : decode b_LS_takeNext 35 = .ok (.if_icmp .gt 18, 3) := by decide +kernel
theorem d_LS_takeNext_38 : decode b_LS_takeNext 38 = .ok (.aload_n 0, 1) := by decide +kernel
theorem d_LS_takeNext_39 : decode b_LS_takeNext 39 = .ok (.getfield 46, 3) := by decide +kernel
theorem d_LS_takeNext_42 : decode b_LS_takeNext 42 = .ok (.iload_n 1, 1) := by decide +kernel
theorem d_LS_takeNext_43 : decode b_LS_takeNext 43 = .ok (.aaload, 1) := by decide +kernel
theorem d_LS_takeNext_44 : decode b_LS_takeNext 44 = .ok (.invokevirtual 248, 3) := by decide +kernel
theorem d_LS_takeNext_47 : decode b_LS_takeNext 47 = .ok (.iinc 1 1, 3) := by decide +kernel
theorem d_LS_takeNext_50 : decode b_LS_takeNext 50 = .ok (.goto (-17), 3) := by decide +kernel
theorem d_LS_takeNext_53 : decode b_LS_takeNext 53 = .ok (.aload_n 0, 1) := by decide +kernel
theorem d_LS_takeNext_54 : decode b_LS_takeNext 54 = .ok (.getfield 57, 3) := by decide +kernel
theorem d_LS_takeNext_57 : decode b_LS_takeNext 57 = .ok (.iconst 0, 1) := by decide +kernel
theorem d_LS_takeNext_58 : decode b_LS_takeNext 58 = .ok (.invokestatic 251, 3) := by decide +kernel
theorem d_LS_takeNext_61 : decode b_LS_takeNext 61 = .ok (.aload_n 0, 1) := by decide +kernel
theorem d_LS_takeNext_62 : decode b_LS_takeNext 62 = .ok (.getfield 53, 3) := by decide +kernel
theorem d_LS_takeNext_65 : decode b_LS_takeNext 65 = .ok (.getfield 211, 3) := by decide +kernel
theorem d_LS_takeNext_68 : decode b_LS_takeNext 68 = .ok (.iconst 0, 1) := by decide +kernel
theorem d_LS_takeNext_69 : decode b_LS_takeNext 69 = .ok (.invokestatic 251, 3) := by decide +kernel
theorem d_LS_takeNext_72 : decode b_LS_takeNext 72 = .ok (.aload_n 0, 1) := by decide +kernel
theorem d_LS_takeNext_73 : decode b_LS_takeNext 73 = .ok (.iconst 0, 1) := by decide +kernel
theorem d_LS_takeNext_74 : decode b_LS_takeNext 74 = .ok (.putfield 81, 3) := by decide +kernel
theorem d_LS_takeNext_77 : decode b_LS_takeNext 77 = .ok (.aload_n 0, 1) := by decide +kernel
theorem d_LS_takeNext_78 : decode b_LS_takeNext 78 = .ok (.iconst 0, 1) := by decide +kernel
theorem d_LS_takeNext_79 : decode b_LS_takeNext 79 = .ok (.putfield 84, 3) := by decide +kernel
theorem d_LS_takeNext_82 : decode b_LS_takeNext 82 = .ok (.return_, 1) := by decide +kernel
