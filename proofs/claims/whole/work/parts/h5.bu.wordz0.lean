theorem d_BU_beginRow_0 : decode b_BU_beginRow 0 = .ok (.aload_n 0, 1) := by decide +kernel
theorem d_BU_beginRow_1 : decode b_BU_beginRow 1 = .ok (.getfield 12, 3) := by decide +kernel
theorem d_BU_beginRow_4 : decode b_BU_beginRow 4 = .ok (.getfield 73, 3) := by decide +kernel
theorem d_BU_beginRow_7 : decode b_BU_beginRow 7 = .ok (.iconst 4, 1) := by decide +kernel
theorem d_BU_beginRow_8 : decode b_BU_beginRow 8 = .ok (.if_icmp .lt 10, 3) := by decide +kernel
theorem d_BU_beginRow_11 : decode b_BU_beginRow 11 = .ok (.aload_n 0, 1) := by decide +kernel
theorem d_BU_beginRow_12 : decode b_BU_beginRow 12 = .ok (.iconst 2, 1) := by decide +kernel
theorem d_BU_beginRow_13 : decode b_BU_beginRow 13 = .ok (.iload_n 1, 1) := by decide +kernel
theorem d_BU_beginRow_14 : decode b_BU_beginRow 14 = .ok (.invokevirtual 76, 3) := by decide +kernel
theorem d_BU_beginRow_17 : decode b_BU_beginRow 17 = .ok (.ireturn, 1) := by decide +kernel
theorem d_BU_beginRow_18 : decode b_BU_beginRow 18 = .ok (.aload_n 0, 1) := by decide +kernel
theorem d_BU_beginRow_19 : decode b_BU_beginRow 19 = .ok (.aload_n 0, 1) := by decide +kernel
theorem d_BU_beginRow_20 : decode b_BU_beginRow 20 = .ok (.getfield 12, 3) := by decide +kernel
theorem d_BU_beginRow_23 : decode b_BU_beginRow 23 = .ok (.getfield 73, 3) := by decide +kernel
theorem d_BU_beginRow_26 : decode b_BU_beginRow 26 = .ok (.putfield 18, 3) := by decide +kernel
theorem d_BU_beginRow_29 : decode b_BU_beginRow 29 = .ok (.aload_n 0, 1) := by decide +kernel
theorem d_BU_beginRow_30 : decode b_BU_beginRow 30 = .ok (.getfield 12, 3) := by decide +kernel
theorem d_BU_beginRow_33 : decode b_BU_beginRow 33 = .ok (.dup, 1) := by decide +kernel
theorem d_BU_beginRow_34 : decode b_BU_beginRow 34 = .ok (.getfield 73, 3) := by decide +kernel
theorem d_BU_beginRow_37 : decode b_BU_beginRow 37 = .ok (.iconst 1, 1) := by decide +kernel
theorem d_BU_beginRow_38 : decode b_BU_beginRow 38 = .ok (.iadd, 1) := by decide +kernel
theorem d_BU_beginRow_39 : decode b_BU_beginRow 39 = .ok (.putfield 73, 3) := by decide +kernel
theorem d_BU_beginRow_42 : decode b_BU_beginRow 42 = .ok (.aload_n 0, 1) := by decide +kernel
theorem d_BU_beginRow_43 : decode b_BU_beginRow 43 = .ok (.iconst 1, 1) := by decide +kernel
theorem d_BU_beginRow_44 : decode b_BU_beginRow 44 = .ok (.putfield 22, 3) := by decide +kernel
theorem d_BU_beginRow_47 : decode b_BU_beginRow 47 = .ok (.aload_n 0, 1) := by decide +kernel
theorem d_BU_beginRow_48 : decode b_BU_beginRow 48 = .ok (.iconst 1, 1) := by decide +kernel
theorem d_BU_beginRow_49 : decode b_BU_beginRow 49 = .ok (.invokevirtual 80, 3) := by decide +kernel
theorem d_BU_beginRow_52 : decode b_BU_beginRow 52 = .ok (.iconst 0, 1) := by decide +kernel
theorem d_BU_beginRow_53 : decode b_BU_beginRow 53 = .ok (.ireturn, 1) := by decide +kernel
theorem d_BU_beginTerm_0 : decode b_BU_beginTerm 0 = .ok (.aload_n 0, 1) := by decide +kernel
theorem d_BU_beginTerm_1 : decode b_BU_beginTerm 1 = .ok (.iload_n 1, 1) := by decide +kernel
theorem d_BU_beginTerm_2 : decode b_BU_beginTerm 2 = .ok (.putfield 25, 3) := by decide +kernel
theorem d_BU_beginTerm_5 : decode b_BU_beginTerm 5 = .ok (.aload_n 0, 1) := by decide +kernel
theorem d_BU_beginTerm_6 : decode b_BU_beginTerm 6 = .ok (.iconst (-1), 1) := by decide +kernel
theorem d_BU_beginTerm_7 : decode b_BU_beginTerm 7 = .ok (.putfield 28, 3) := by decide +kernel
theorem d_BU_beginTerm_10 : decode b_BU_beginTerm 10 = .ok (.return_, 1) := by decide +kernel
theorem d_BU_endRow_0 : decode b_BU_endRow 0 = .ok (.aload_n 0, 1) := by decide +kernel
theorem d_BU_endRow_1 : decode b_BU_endRow 1 = .ok (.invokevirtual 87, 3) := by decide +kernel
theorem d_BU_endRow_4 : decode b_BU_endRow 4 = .ok (.aload_n 0, 1) := by decide +kernel
theorem d_BU_endRow_5 : decode b_BU_endRow 5 = .ok (.getfield 33, 3) := by decide +kernel
theorem d_BU_endRow_8 : decode b_BU_endRow 8 = .ok (.bipush 6, 2) := by decide +kernel
theorem d_BU_endRow_10 : decode b_BU_endRow 10 = .ok (.if_icmp .eq 48, 3) := by decide +kernel
theorem d_BU_endRow_13 : decode b_BU_endRow 13 = .ok (.aload_n 0, 1) := by decide +kernel
theorem d_BU_endRow_14 : decode b_BU_endRow 14 = .ok (.getfield 12, 3) := by decide +kernel
theorem d_BU_endRow_17 : decode b_BU_endRow 17 = .ok (.invokevirtual 100, 3) := by decide +kernel
theorem d_BU_endRow_20 : decode b_BU_endRow 20 = .ok (.ifCond .eq 13, 3) := by decide +kernel
theorem d_BU_endRow_23 : decode b_BU_endRow 23 = .ok (.aload_n 0, 1) := by decide +kernel
theorem d_BU_endRow_24 : decode b_BU_endRow 24 = .ok (.iconst 2, 1) := by decide +kernel
theorem d_BU_endRow_25 : decode b_BU_endRow 25 = .ok (.aload_n 0, 1) := by decide +kernel
theorem d_BU_endRow_26 : decode b_BU_endRow 26 = .ok (.getfield 36, 3) := by decide +kernel
theorem d_BU_endRow_29 : decode b_BU_endRow 29 = .ok (.invokevirtual 76, 3) := by decide +kernel
theorem d_BU_endRow_32 : decode b_BU_endRow 32 = .ok (.ireturn, 1) := by decide +kernel
theorem d_BU_endRow_33 : decode b_BU_endRow 33 = .ok (.aload_n 0, 1) := by decide +kernel
theorem d_BU_endRow_34 : decode b_BU_endRow 34 = .ok (.getfield 12, 3) := by decide +kernel
theorem d_BU_endRow_37 : decode b_BU_endRow 37 = .ok (.aload_n 0, 1) := by decide +kernel
theorem d_BU_endRow_38 : decode b_BU_endRow 38 = .ok (.getfield 18, 3) := by decide +kernel
theorem d_BU_endRow_41 : decode b_BU_endRow 41 = .ok (.aload_n 0, 1) := by decide +kernel
theorem d_BU_endRow_42 : decode b_BU_endRow 42 = .ok (.getfield 33, 3) := by decide +kernel
theorem d_BU_endRow_45 : decode b_BU_endRow 45 = .ok (.bipush 7, 2) := by decide +kernel
theorem d_BU_endRow_47 : decode b_BU_endRow 47 = .ok (.if_icmp .ne 7, 3) := by decide +kernel
theorem d_BU_endRow_50 : decode b_BU_endRow 50 = .ok (.iconst 1, 1) := by decide +kernel
theorem d_BU_endRow_51 : decode b_BU_endRow 51 = .ok (.goto 4, 3) := by decide +kernel
theorem d_BU_endRow_54 : decode b_BU_endRow 54 = .ok (.iconst (-1), 1) := by decide +kernel
theorem d_BU_endRow_55 : decode b_BU_endRow 55 = .ok (.invokevirtual 104, 3) := by decide +kernel
theorem d_BU_endRow_58 : decode b_BU_endRow 58 = .ok (.aload_n 0, 1) := by decide +kernel
theorem d_BU_endRow_59 : decode b_BU_endRow 59 = .ok (.getfield 12, 3) := by decide +kernel
theorem d_BU_endRow_62 : decode b_BU_endRow 62 = .ok (.aload_n 0, 1) := by decide +kernel
theorem d_BU_endRow_63 : decode b_BU_endRow 63 = .ok (.getfield 18, 3) := by decide +kernel
theorem d_BU_endRow_66 : decode b_BU_endRow 66 = .ok (.invokevirtual 108, 3) := by decide +kernel
theorem d_BU_endRow_69 : decode b_BU_endRow 69 = .ok (.ifCond .eq 15, 3) := by decide +kernel
theorem d_BU_endRow_72 : decode b_BU_endRow 72 = .ok (.aload_n 0, 1) := by decide +kernel
theorem d_BU_endRow_73 : decode b_BU_endRow 73 = .ok (.iconst 3, 1) := by decide +kernel
theorem d_BU_endRow_74 : decode b_BU_endRow 74 = .ok (.aload_n 0, 1) := by decide +kernel
theorem d_BU_endRow_75 : decode b_BU_endRow 75 = .ok (.getfield 36, 3) := by decide +kernel
theorem d_BU_endRow_78 : decode b_BU_endRow 78 = .ok (.invokevirtual 76, 3) := by decide +kernel
theorem d_BU_endRow_81 : decode b_BU_endRow 81 = .ok (.goto 4, 3) := by decide +kernel
theorem d_BU_endRow_84 : decode b_BU_endRow 84 = .ok (.iconst 0, 1) := by decide +kernel
theorem d_BU_endRow_85 : decode b_BU_endRow 85 = .ok (.ireturn, 1) := by decide +kernel
theorem d_BU_endTerm_0 : decode b_BU_endTerm 0 = .ok (.aload_n 0, 1) := by decide +kernel
theorem d_BU_endTerm_1 : decode b_BU_endTerm 1 = .ok (.getfield 28, 3) := by decide +kernel
theorem d_BU_endTerm_4 : decode b_BU_endTerm 4 = .ok (.iconst (-1), 1) := by decide +kernel
theorem d_BU_endTerm_5 : decode b_BU_endTerm 5 = .ok (.if_icmp .eq 32, 3) := by decide +kernel
theorem d_BU_endTerm_8 : decode b_BU_endTerm 8 = .ok (.aload_n 0, 1) := by decide +kernel
theorem d_BU_endTerm_9 : decode b_BU_endTerm 9 = .ok (.getfield 12, 3) := by decide +kernel
theorem d_BU_endTerm_12 : decode b_BU_endTerm 12 = .ok (.getfield 97, 3) := by decide +kernel
theorem d_BU_endTerm_15 : decode b_BU_endTerm 15 = .ok (.aload_n 0, 1) := by decide +kernel
theorem d_BU_endTerm_16 : decode b_BU_endTerm 16 = .ok (.getfield 18, 3) := by decide +kernel
theorem d_BU_endTerm_19 : decode b_BU_endTerm 19 = .ok (.dup2, 1) := by decide +kernel
theorem d_BU_endTerm_20 : decode b_BU_endTerm 20 = .ok (.iaload, 1) := by decide +kernel
theorem d_BU_endTerm_21 : decode b_BU_endTerm 21 = .ok (.aload_n 0, 1) := by decide +kernel
theorem d_BU_endTerm_22 : decode b_BU_endTerm 22 = .ok (.getfield 22, 3) := by decide +kernel
theorem d_BU_endTerm_25 : decode b_BU_endTerm 25 = .ok (.aload_n 0, 1) := by decide +kernel
theorem d_BU_endTerm_26 : decode b_BU_endTerm 26 = .ok (.getfield 25, 3) := by decide +kernel
theorem d_BU_endTerm_29 : decode b_BU_endTerm 29 = .ok (.imul, 1) := by decide +kernel
theorem d_BU_endTerm_30 : decode b_BU_endTerm 30 = .ok (.aload_n 0, 1) := by decide +kernel
theorem d_BU_endTerm_31 : decode b_BU_endTerm 31 = .ok (.getfield 28, 3) := by decide +kernel
theorem d_BU_endTerm_34 : decode b_BU_endTerm 34 = .ok (.imul, 1) := by decide +kernel
theorem d_BU_endTerm_35 : decode b_BU_endTerm 35 = .ok (.isub, 1) := by decide +kernel
theorem d_BU_endTerm_36 : decode b_BU_endTerm 36 = .ok (.iastore, 1) := by decide +kernel
theorem d_BU_endTerm_37 : decode b_BU_endTerm 37 = .ok (.return_, 1) := by decide +kernel
theorem d_BU_fault_0 : decode b_BU_fault 0 = .ok (.aload_n 0, 1) := by decide +kernel
theorem d_BU_fault_1 : decode b_BU_fault 1 = .ok (.iload_n 2, 1) := by decide +kernel
theorem d_BU_fault_2 : decode b_BU_fault 2 = .ok (.putfield 39, 3) := by decide +kernel
theorem d_BU_fault_5 : decode b_BU_fault 5 = .ok (.iload_n 1, 1) := by decide +kernel
theorem d_BU_fault_6 : decode b_BU_fault 6 = .ok (.ireturn, 1) := by decide +kernel
