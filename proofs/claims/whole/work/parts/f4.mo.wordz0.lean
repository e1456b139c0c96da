theorem d_MO_at_0 : decode b_MO_at 0 = .ok (.iload_n 1, 1) := by decide +kernel
theorem d_MO_at_1 : decode b_MO_at 1 = .ok (.ifCond .lt 43, 3) := by decide +kernel
theorem d_MO_at_4 : decode b_MO_at 4 = .ok (.iload_n 1, 1) := by decide +kernel
theorem d_MO_at_5 : decode b_MO_at 5 = .ok (.iconst 2, 1) := by decide +kernel
theorem d_MO_at_6 : decode b_MO_at 6 = .ok (.if_icmp .gt 38, 3) := by decide +kernel
theorem d_MO_at_9 : decode b_MO_at 9 = .ok (.aload_n 0, 1) := by decide +kernel
theorem d_MO_at_10 : decode b_MO_at 10 = .ok (.iload_n 3, 1) := by decide +kernel
theorem d_MO_at_11 : decode b_MO_at 11 = .ok (.invokevirtual 194, 3) := by decide +kernel
theorem d_MO_at_14 : decode b_MO_at 14 = .ok (.ifCond .eq 30, 3) := by decide +kernel
theorem d_MO_at_17 : decode b_MO_at 17 = .ok (.aload_n 0, 1) := by decide +kernel
theorem d_MO_at_18 : decode b_MO_at 18 = .ok (.getfield 41, 3) := by decide +kernel
theorem d_MO_at_21 : decode b_MO_at 21 = .ok (.iload_n 1, 1) := by decide +kernel
theorem d_MO_at_22 : decode b_MO_at 22 = .ok (.baload, 1) := by decide +kernel
theorem d_MO_at_23 : decode b_MO_at 23 = .ok (.ifCond .eq 21, 3) := by decide +kernel
theorem d_MO_at_26 : decode b_MO_at 26 = .ok (.iload_n 2, 1) := by decide +kernel
theorem d_MO_at_27 : decode b_MO_at 27 = .ok (.ifCond .lt 17, 3) := by decide +kernel
theorem d_MO_at_30 : decode b_MO_at 30 = .ok (.iload_n 2, 1) := by decide +kernel
theorem d_MO_at_31 : decode b_MO_at 31 = .ok (.aload_n 0, 1) := by decide +kernel
theorem d_MO_at_32 : decode b_MO_at 32 = .ok (.getfield 48, 3) := by decide +kernel
theorem d_MO_at_35 : decode b_MO_at 35 = .ok (.iload_n 1, 1) := by decide +kernel
theorem d_MO_at_36 : decode b_MO_at 36 = .ok (.iaload, 1) := by decide +kernel
theorem d_MO_at_37 : decode b_MO_at 37 = .ok (.if_icmp .ge 7, 3) := by decide +kernel
theorem d_MO_at_40 : decode b_MO_at 40 = .ok (.iconst 1, 1) := by decide +kernel
theorem d_MO_at_41 : decode b_MO_at 41 = .ok (.goto 4, 3) := by decide +kernel
theorem d_MO_at_44 : decode b_MO_at 44 = .ok (.iconst 0, 1) := by decide +kernel
theorem d_MO_at_45 : decode b_MO_at 45 = .ok (.istore 4, 2) := by decide +kernel
theorem d_MO_at_47 : decode b_MO_at 47 = .ok (.aload_n 0, 1) := by decide +kernel
theorem d_MO_at_48 : decode b_MO_at 48 = .ok (.iload 4, 2) := by decide +kernel
theorem d_MO_at_50 : decode b_MO_at 50 = .ok (.ifCond .eq 7, 3) := by decide +kernel
theorem d_MO_at_53 : decode b_MO_at 53 = .ok (.iconst 0, 1) := by decide +kernel
theorem d_MO_at_54 : decode b_MO_at 54 = .ok (.goto 4, 3) := by decide +kernel
theorem d_MO_at_57 : decode b_MO_at 57 = .ok (.iconst 1, 1) := by decide +kernel
theorem d_MO_at_58 : decode b_MO_at 58 = .ok (.putfield 81, 3) := by decide +kernel
theorem d_MO_at_61 : decode b_MO_at 61 = .ok (.iload 4, 2) := by decide +kernel
theorem d_MO_at_63 : decode b_MO_at 63 = .ok (.ifCond .eq 23, 3) := by decide +kernel
theorem d_MO_at_66 : decode b_MO_at 66 = .ok (.aload_n 0, 1) := by decide +kernel
theorem d_MO_at_67 : decode b_MO_at 67 = .ok (.getfield 52, 3) := by decide +kernel
theorem d_MO_at_70 : decode b_MO_at 70 = .ok (.sipush 12000, 3) := by decide +kernel
theorem d_MO_at_73 : decode b_MO_at 73 = .ok (.iload_n 1, 1) := by decide +kernel
theorem d_MO_at_74 : decode b_MO_at 74 = .ok (.imul, 1) := by decide +kernel
theorem d_MO_at_75 : decode b_MO_at 75 = .ok (.bipush 6, 2) := by decide +kernel
theorem d_MO_at_77 : decode b_MO_at 77 = .ok (.iload_n 2, 1) := by decide +kernel
theorem d_MO_at_78 : decode b_MO_at 78 = .ok (.imul, 1) := by decide +kernel
theorem d_MO_at_79 : decode b_MO_at 79 = .ok (.iadd, 1) := by decide +kernel
theorem d_MO_at_80 : decode b_MO_at 80 = .ok (.iload_n 3, 1) := by decide +kernel
theorem d_MO_at_81 : decode b_MO_at 81 = .ok (.iadd, 1) := by decide +kernel
theorem d_MO_at_82 : decode b_MO_at 82 = .ok (.baload, 1) := by decide +kernel
theorem d_MO_at_83 : decode b_MO_at 83 = .ok (.goto 4, 3) := by decide +kernel
theorem d_MO_at_86 : decode b_MO_at 86 = .ok (.iconst 0, 1) := by decide +kernel
theorem d_MO_at_87 : decode b_MO_at 87 = .ok (.ireturn, 1) := by decide +kernel
theorem d_MO_bestAt_0 : decode b_MO_bestAt 0 = .ok (.aload_n 0, 1) := by decide +kernel
theorem d_MO_bestAt_1 : decode b_MO_bestAt 1 = .ok (.iconst 0, 1) := by decide +kernel
theorem d_MO_bestAt_2 : decode b_MO_bestAt 2 = .ok (.putfield 81, 3) := by decide +kernel
theorem d_MO_bestAt_5 : decode b_MO_bestAt 5 = .ok (.aload_n 0, 1) := by decide +kernel
theorem d_MO_bestAt_6 : decode b_MO_bestAt 6 = .ok (.getfield 149, 3) := by decide +kernel
theorem d_MO_bestAt_9 : decode b_MO_bestAt 9 = .ok (.ifCond .eq 20, 3) := by decide +kernel
theorem d_MO_bestAt_12 : decode b_MO_bestAt 12 = .ok (.aload_n 0, 1) := by decide +kernel
theorem d_MO_bestAt_13 : decode b_MO_bestAt 13 = .ok (.iload_n 1, 1) := by decide +kernel
theorem d_MO_bestAt_14 : decode b_MO_bestAt 14 = .ok (.invokevirtual 194, 3) := by decide +kernel
theorem d_MO_bestAt_17 : decode b_MO_bestAt 17 = .ok (.ifCond .eq 12, 3) := by decide +kernel
theorem d_MO_bestAt_20 : decode b_MO_bestAt 20 = .ok (.aload_n 0, 1) := by decide +kernel
theorem d_MO_bestAt_21 : decode b_MO_bestAt 21 = .ok (.getfield 65, 3) := by decide +kernel
theorem d_MO_bestAt_24 : decode b_MO_bestAt 24 = .ok (.iload_n 1, 1) := by decide +kernel
theorem d_MO_bestAt_25 : decode b_MO_bestAt 25 = .ok (.iaload, 1) := by decide +kernel
theorem d_MO_bestAt_26 : decode b_MO_bestAt 26 = .ok (.goto 4, 3) := by decide +kernel
theorem d_MO_bestAt_29 : decode b_MO_bestAt 29 = .ok (.iconst (-1), 1) := by decide +kernel
theorem d_MO_bestAt_30 : decode b_MO_bestAt 30 = .ok (.ireturn, 1) := by decide +kernel
theorem d_MO_cost_0 : decode b_MO_cost 0 = .ok (.aload_n 0, 1) := by decide +kernel
theorem d_MO_cost_1 : decode b_MO_cost 1 = .ok (.aload_n 0, 1) := by decide +kernel
theorem d_MO_cost_2 : decode b_MO_cost 2 = .ok (.iload_n 1, 1) := by decide +kernel
theorem d_MO_cost_3 : decode b_MO_cost 3 = .ok (.invokevirtual 194, 3) := by decide +kernel
theorem d_MO_cost_6 : decode b_MO_cost 6 = .ok (.ifCond .ne 7, 3) := by decide +kernel
theorem d_MO_cost_9 : decode b_MO_cost 9 = .ok (.iconst 1, 1) := by decide +kernel
theorem d_MO_cost_10 : decode b_MO_cost 10 = .ok (.goto 20, 3) := by decide +kernel
theorem d_MO_cost_13 : decode b_MO_cost 13 = .ok (.iload_n 2, 1) := by decide +kernel
theorem d_MO_cost_14 : decode b_MO_cost 14 = .ok (.bipush (-99), 2) := by decide +kernel
theorem d_MO_cost_16 : decode b_MO_cost 16 = .ok (.if_icmp .lt 9, 3) := by decide +kernel
theorem d_MO_cost_19 : decode b_MO_cost 19 = .ok (.iload_n 2, 1) := by decide +kernel
theorem d_MO_cost_20 : decode b_MO_cost 20 = .ok (.bipush 99, 2) := by decide +kernel
theorem d_MO_cost_22 : decode b_MO_cost 22 = .ok (.if_icmp .le 7, 3) := by decide +kernel
theorem d_MO_cost_25 : decode b_MO_cost 25 = .ok (.iconst 2, 1) := by decide +kernel
theorem d_MO_cost_26 : decode b_MO_cost 26 = .ok (.goto 4, 3) := by decide +kernel
theorem d_MO_cost_29 : decode b_MO_cost 29 = .ok (.iconst 0, 1) := by decide +kernel
theorem d_MO_cost_30 : decode b_MO_cost 30 = .ok (.putfield 81, 3) := by decide +kernel
theorem d_MO_cost_33 : decode b_MO_cost 33 = .ok (.aload_n 0, 1) := by decide +kernel
theorem d_MO_cost_34 : decode b_MO_cost 34 = .ok (.getfield 81, 3) := by decide +kernel
theorem d_MO_cost_37 : decode b_MO_cost 37 = .ok (.ifCond .ne 10, 3) := by decide +kernel
theorem d_MO_cost_40 : decode b_MO_cost 40 = .ok (.aload_n 0, 1) := by decide +kernel
theorem d_MO_cost_41 : decode b_MO_cost 41 = .ok (.getfield 59, 3) := by decide +kernel
theorem d_MO_cost_44 : decode b_MO_cost 44 = .ok (.iload_n 1, 1) := by decide +kernel
theorem d_MO_cost_45 : decode b_MO_cost 45 = .ok (.iload_n 2, 1) := by decide +kernel
theorem d_MO_cost_46 : decode b_MO_cost 46 = .ok (.iastore, 1) := by decide +kernel
theorem d_MO_cost_47 : decode b_MO_cost 47 = .ok (.return_, 1) := by decide +kernel
theorem d_MO_count_0 : decode b_MO_count 0 = .ok (.aload_n 0, 1) := by decide +kernel
theorem d_MO_count_1 : decode b_MO_count 1 = .ok (.iconst 0, 1) := by decide +kernel
theorem d_MO_count_2 : decode b_MO_count 2 = .ok (.putfield 81, 3) := by decide +kernel
theorem d_MO_count_5 : decode b_MO_count 5 = .ok (.aload_n 0, 1) := by decide +kernel
theorem d_MO_count_6 : decode b_MO_count 6 = .ok (.getfield 133, 3) := by decide +kernel
theorem d_MO_count_9 : decode b_MO_count 9 = .ok (.ifCond .ne 7, 3) := by decide +kernel
theorem d_MO_count_12 : decode b_MO_count 12 = .ok (.iconst (-1), 1) := by decide +kernel
theorem d_MO_count_13 : decode b_MO_count 13 = .ok (.goto 39, 3) := by decide +kernel
theorem d_MO_count_16 : decode b_MO_count 16 = .ok (.iload_n 1, 1) := by decide +kernel
theorem d_MO_count_17 : decode b_MO_count 17 = .ok (.ifCond .ne 10, 3) := by decide +kernel
theorem d_MO_count_20 : decode b_MO_count 20 = .ok (.aload_n 0, 1) := by decide +kernel
theorem d_MO_count_21 : decode b_MO_count 21 = .ok (.getfield 137, 3) := by decide +kernel
theorem d_MO_count_24 : decode b_MO_count 24 = .ok (.goto 28, 3) := by decide +kernel
theorem d_MO_count_27 : decode b_MO_count 27 = .ok (.iload_n 1, 1) := by decide +kernel
theorem d_MO_count_28 : decode b_MO_count 28 = .ok (.iconst 1, 1) := by decide +kernel
theorem d_MO_count_29 : decode b_MO_count 29 = .ok (.if_icmp .ne 10, 3) := by decide +kernel
theorem d_MO_count_32 : decode b_MO_count 32 = .ok (.aload_n 0, 1) := by decide +kernel
theorem d_MO_count_33 : decode b_MO_count 33 = .ok (.getfield 143, 3) := by decide +kernel
theorem d_MO_count_36 : decode b_MO_count 36 = .ok (.goto 16, 3) := by decide +kernel
theorem d_MO_count_39 : decode b_MO_count 39 = .ok (.iload_n 1, 1) := by decide +kernel
theorem d_MO_count_40 : decode b_MO_count 40 = .ok (.iconst 2, 1) := by decide +kernel
theorem d_MO_count_41 : decode b_MO_count 41 = .ok (.if_icmp .ne 10, 3) := by decide +kernel
theorem d_MO_count_44 : decode b_MO_count 44 = .ok (.aload_n 0, 1) := by decide +kernel
theorem d_MO_count_45 : decode b_MO_count 45 = .ok (.getfield 140, 3) := by decide +kernel
theorem d_MO_count_48 : decode b_MO_count 48 = .ok (.goto 4, 3) := by decide +kernel
theorem d_MO_count_51 : decode b_MO_count 51 = .ok (.iconst (-1), 1) := by decide +kernel
theorem d_MO_count_52 : decode b_MO_count 52 = .ok (.ireturn, 1) := by decide +kernel
theorem d_MO_holds_0 : decode b_MO_holds 0 = .ok (.aload_n 0, 1) := by decide +kernel
theorem d_MO_holds_1 : decode b_MO_holds 1 = .ok (.aload_n 0, 1) := by decide +kernel
theorem d_MO_holds_2 : decode b_MO_holds 2 = .ok (.getfield 133, 3) := by decide +kernel
theorem d_MO_holds_5 : decode b_MO_holds 5 = .ok (.ifCond .eq 7, 3) := by decide +kernel
theorem d_MO_holds_8 : decode b_MO_holds 8 = .ok (.iconst 0, 1) := by decide +kernel
theorem d_MO_holds_9 : decode b_MO_holds 9 = .ok (.goto 4, 3) := by decide +kernel
theorem d_MO_holds_12 : decode b_MO_holds 12 = .ok (.iconst 1, 1) := by decide +kernel
theorem d_MO_holds_13 : decode b_MO_holds 13 = .ok (.putfield 81, 3) := by decide +kernel
theorem d_MO_holds_16 : decode b_MO_holds 16 = .ok (.aload_n 0, 1) := by decide +kernel
theorem d_MO_holds_17 : decode b_MO_holds 17 = .ok (.getfield 81, 3) := by decide +kernel
theorem d_MO_holds_20 : decode b_MO_holds 20 = .ok (.ifCond .le 7, 3) := by decide +kernel
theorem d_MO_holds_23 : decode b_MO_holds 23 = .ok (.iconst 0, 1) := by decide +kernel
theorem d_MO_holds_24 : decode b_MO_holds 24 = .ok (.goto 51, 3) := by decide +kernel
theorem d_MO_holds_27 : decode b_MO_holds 27 = .ok (.aload_n 0, 1) := by decide +kernel
theorem d_MO_holds_28 : decode b_MO_holds 28 = .ok (.aload_n 0, 1) := by decide +kernel
theorem d_MO_holds_29 : decode b_MO_holds 29 = .ok (.getfield 56, 3) := by decide +kernel
theorem d_MO_holds_32 : decode b_MO_holds 32 = .ok (.iconst 1, 1) := by decide +kernel
theorem d_MO_holds_33 : decode b_MO_holds 33 = .ok (.invokevirtual 198, 3) := by decide +kernel
theorem d_MO_holds_36 : decode b_MO_holds 36 = .ok (.ifCond .eq 7, 3) := by decide +kernel
theorem d_MO_holds_39 : decode b_MO_holds 39 = .ok (.iconst 1, 1) := by decide +kernel
theorem d_MO_holds_40 : decode b_MO_holds 40 = .ok (.goto 4, 3) := by decide +kernel
theorem d_MO_holds_43 : decode b_MO_holds 43 = .ok (.iconst 0, 1) := by decide +kernel
theorem d_MO_holds_44 : decode b_MO_holds 44 = .ok (.aload_n 0, 1) := by decide +kernel
theorem d_MO_holds_45 : decode b_MO_holds 45 = .ok (.aload_n 0, 1) := by decide +kernel
theorem d_MO_holds_46 : decode b_MO_holds 46 = .ok (.getfield 56, 3) := by decide +kernel
theorem d_MO_holds_49 : decode b_MO_holds 49 = .ok (.iconst 0, 1) := by decide +kernel
theorem d_MO_holds_50 : decode b_MO_holds 50 = .ok (.invokevirtual 198, 3) := by decide +kernel
theorem d_MO_holds_53 : decode b_MO_holds 53 = .ok (.ifCond .eq 7, 3) := by decide +kernel
theorem d_MO_holds_56 : decode b_MO_holds 56 = .ok (.iconst 2, 1) := by decide +kernel
theorem d_MO_holds_57 : decode b_MO_holds 57 = .ok (.goto 4, 3) := by decide +kernel
