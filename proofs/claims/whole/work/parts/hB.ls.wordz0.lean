theorem d_LS_at_0 : decode b_LS_at 0 = .ok (.iload_n 1, 1) := by decide +kernel
theorem d_LS_at_1 : decode b_LS_at 1 = .ok (.ifCond .lt 21, 3) := by decide +kernel
theorem d_LS_at_4 : decode b_LS_at 4 = .ok (.iload_n 1, 1) := by decide +kernel
theorem d_LS_at_5 : decode b_LS_at 5 = .ok (.iconst 2, 1) := by decide +kernel
theorem d_LS_at_6 : decode b_LS_at 6 = .ok (.if_icmp .gt 16, 3) := by decide +kernel
theorem d_LS_at_9 : decode b_LS_at 9 = .ok (.aload_n 0, 1) := by decide +kernel
theorem d_LS_at_10 : decode b_LS_at 10 = .ok (.getfield 46, 3) := by decide +kernel
theorem d_LS_at_13 : decode b_LS_at 13 = .ok (.iload_n 1, 1) := by decide +kernel
theorem d_LS_at_14 : decode b_LS_at 14 = .ok (.aaload, 1) := by decide +kernel
theorem d_LS_at_15 : decode b_LS_at 15 = .ok (.iload_n 2, 1) := by decide +kernel
theorem d_LS_at_16 : decode b_LS_at 16 = .ok (.invokevirtual 170, 3) := by decide +kernel
theorem d_LS_at_19 : decode b_LS_at 19 = .ok (.ifCond .ne 11, 3) := by decide +kernel
theorem d_LS_at_30 : decode b_LS_at 30 = .ok (.aload_n 0, 1) := by decide +kernel
theorem d_LS_at_31 : decode b_LS_at 31 = .ok (.iload_n 3, 1) := by decide +kernel
theorem d_LS_at_32 : decode b_LS_at 32 = .ok (.invokevirtual 138, 3) := by decide +kernel
theorem d_LS_at_35 : decode b_LS_at 35 = .ok (.aload_n 0, 1) := by decide +kernel
theorem d_LS_at_36 : decode b_LS_at 36 = .ok (.getfield 46, 3) := by decide +kernel
theorem d_LS_at_39 : decode b_LS_at 39 = .ok (.iload_n 1, 1) := by decide +kernel
theorem d_LS_at_40 : decode b_LS_at 40 = .ok (.aaload, 1) := by decide +kernel
theorem d_LS_at_41 : decode b_LS_at 41 = .ok (.iload_n 2, 1) := by decide +kernel
theorem d_LS_at_42 : decode b_LS_at 42 = .ok (.iload_n 3, 1) := by decide +kernel
theorem d_LS_at_43 : decode b_LS_at 43 = .ok (.invokevirtual 174, 3) := by decide +kernel
theorem d_LS_at_46 : decode b_LS_at 46 = .ok (.ireturn, 1) := by decide +kernel
theorem d_LS_bestAt_0 : decode b_LS_bestAt 0 = .ok (.aload_n 0, 1) := by decide +kernel
theorem d_LS_bestAt_1 : decode b_LS_bestAt 1 = .ok (.getfield 84, 3) := by decide +kernel
theorem d_LS_bestAt_4 : decode b_LS_bestAt 4 = .ok (.ifCond .eq 20, 3) := by decide +kernel
theorem d_LS_bestAt_7 : decode b_LS_bestAt 7 = .ok (.aload_n 0, 1) := by decide +kernel
theorem d_LS_bestAt_8 : decode b_LS_bestAt 8 = .ok (.iload_n 1, 1) := by decide +kernel
theorem d_LS_bestAt_9 : decode b_LS_bestAt 9 = .ok (.invokevirtual 228, 3) := by decide +kernel
theorem d_LS_bestAt_12 : decode b_LS_bestAt 12 = .ok (.ifCond .eq 12, 3) := by decide +kernel
theorem d_LS_bestAt_15 : decode b_LS_bestAt 15 = .ok (.aload_n 0, 1) := by decide +kernel
theorem d_LS_bestAt_16 : decode b_LS_bestAt 16 = .ok (.getfield 67, 3) := by decide +kernel
theorem d_LS_bestAt_19 : decode b_LS_bestAt 19 = .ok (.iload_n 1, 1) := by decide +kernel
theorem d_LS_bestAt_20 : decode b_LS_bestAt 20 = .ok (.iaload, 1) := by decide +kernel
theorem d_LS_bestAt_21 : decode b_LS_bestAt 21 = .ok (.goto 4, 3) := by decide +kernel
theorem d_LS_bestAt_24 : decode b_LS_bestAt 24 = .ok (.iconst (-1), 1) := by decide +kernel
theorem d_LS_bestAt_25 : decode b_LS_bestAt 25 = .ok (.ireturn, 1) := by decide +kernel
theorem d_LS_cost_0 : decode b_LS_cost 0 = .ok (.aload_n 0, 1) := by decide +kernel
theorem d_LS_cost_1 : decode b_LS_cost 1 = .ok (.iload_n 1, 1) := by decide +kernel
theorem d_LS_cost_2 : decode b_LS_cost 2 = .ok (.invokevirtual 138, 3) := by decide +kernel
theorem d_LS_cost_5 : decode b_LS_cost 5 = .ok (.iload_n 2, 1) := by decide +kernel
theorem d_LS_cost_6 : decode b_LS_cost 6 = .ok (.invokestatic 178, 3) := by decide +kernel
theorem d_LS_cost_9 : decode b_LS_cost 9 = .ok (.aload_n 0, 1) := by decide +kernel
theorem d_LS_cost_10 : decode b_LS_cost 10 = .ok (.getfield 53, 3) := by decide +kernel
theorem d_LS_cost_13 : decode b_LS_cost 13 = .ok (.getfield 211, 3) := by decide +kernel
theorem d_LS_cost_16 : decode b_LS_cost 16 = .ok (.iload_n 1, 1) := by decide +kernel
theorem d_LS_cost_17 : decode b_LS_cost 17 = .ok (.iload_n 2, 1) := by decide +kernel
theorem d_LS_cost_18 : decode b_LS_cost 18 = .ok (.iastore, 1) := by decide +kernel
theorem d_LS_cost_19 : decode b_LS_cost 19 = .ok (.return_, 1) := by decide +kernel
theorem d_LS_holds_0 : decode b_LS_holds 0 = .ok (.aload_n 0, 1) := by decide +kernel
theorem d_LS_holds_1 : decode b_LS_holds 1 = .ok (.invokevirtual 128, 3) := by decide +kernel
theorem d_LS_holds_4 : decode b_LS_holds 4 = .ok (.aload_n 0, 1) := by decide +kernel
theorem d_LS_holds_5 : decode b_LS_holds 5 = .ok (.getfield 73, 3) := by decide +kernel
theorem d_LS_holds_8 : decode b_LS_holds 8 = .ok (.aload_n 0, 1) := by decide +kernel
theorem d_LS_holds_9 : decode b_LS_holds 9 = .ok (.getfield 57, 3) := by decide +kernel
theorem d_LS_holds_12 : decode b_LS_holds 12 = .ok (.iconst 0, 1) := by decide +kernel
theorem d_LS_holds_13 : decode b_LS_holds 13 = .ok (.invokevirtual 181, 3) := by decide +kernel
theorem d_LS_holds_16 : decode b_LS_holds 16 = .ok (.ifCond .eq 7, 3) := by decide +kernel
theorem d_LS_holds_19 : decode b_LS_holds 19 = .ok (.iconst 1, 1) := by decide +kernel
theorem d_LS_holds_20 : decode b_LS_holds 20 = .ok (.goto 4, 3) := by decide +kernel
theorem d_LS_holds_23 : decode b_LS_holds 23 = .ok (.iconst 0, 1) := by decide +kernel
theorem d_LS_holds_24 : decode b_LS_holds 24 = .ok (.aload_n 0, 1) := by decide +kernel
theorem d_LS_holds_25 : decode b_LS_holds 25 = .ok (.getfield 73, 3) := by decide +kernel
theorem d_LS_holds_28 : decode b_LS_holds 28 = .ok (.aload_n 0, 1) := by decide +kernel
theorem d_LS_holds_29 : decode b_LS_holds 29 = .ok (.getfield 57, 3) := by decide +kernel
theorem d_LS_holds_32 : decode b_LS_holds 32 = .ok (.iconst 1, 1) := by decide +kernel
theorem d_LS_holds_33 : decode b_LS_holds 33 = .ok (.invokevirtual 181, 3) := by decide +kernel
theorem d_LS_holds_36 : decode b_LS_holds 36 = .ok (.ifCond .eq 7, 3) := by decide +kernel
theorem d_LS_holds_39 : decode b_LS_holds 39 = .ok (.iconst 2, 1) := by decide +kernel
theorem d_LS_holds_40 : decode b_LS_holds 40 = .ok (.goto 4, 3) := by decide +kernel
theorem d_LS_holds_43 : decode b_LS_holds 43 = .ok (.iconst 0, 1) := by decide +kernel
theorem d_LS_holds_44 : decode b_LS_holds 44 = .ok (.iadd, 1) := by decide +kernel
theorem d_LS_holds_45 : decode b_LS_holds 45 = .ok (.aload_n 0, 1) := by decide +kernel
theorem d_LS_holds_46 : decode b_LS_holds 46 = .ok (.getfield 57, 3) := by decide +kernel
theorem d_LS_holds_49 : decode b_LS_holds 49 = .ok (.invokestatic 185, 3) := by decide +kernel
theorem d_LS_holds_52 : decode b_LS_holds 52 = .ok (.ifCond .eq 7, 3) := by decide +kernel
theorem d_LS_holds_55 : decode b_LS_holds 55 = .ok (.iconst 0, 1) := by decide +kernel
theorem d_LS_holds_56 : decode b_LS_holds 56 = .ok (.goto 4, 3) := by decide +kernel
theorem d_LS_holds_59 : decode b_LS_holds 59 = .ok (.iconst 4, 1) := by decide +kernel
theorem d_LS_holds_60 : decode b_LS_holds 60 = .ok (.iadd, 1) := by decide +kernel
theorem d_LS_holds_61 : decode b_LS_holds 61 = .ok (.ireturn, 1) := by decide +kernel
theorem d_LS_kernel_0 : decode b_LS_kernel 0 = .ok (.aload_n 0, 1) := by decide +kernel
theorem d_LS_kernel_1 : decode b_LS_kernel 1 = .ok (.invokevirtual 128, 3) := by decide +kernel
theorem d_LS_kernel_4 : decode b_LS_kernel 4 = .ok (.aload_n 0, 1) := by decide +kernel
theorem d_LS_kernel_5 : decode b_LS_kernel 5 = .ok (.getfield 33, 3) := by decide +kernel
theorem d_LS_kernel_8 : decode b_LS_kernel 8 = .ok (.getfield 135, 3) := by decide +kernel
theorem d_LS_kernel_11 : decode b_LS_kernel 11 = .ok (.ireturn, 1) := by decide +kernel
theorem d_LS_kernelAt_0 : decode b_LS_kernelAt 0 = .ok (.iload_n 1, 1) := by decide +kernel
theorem d_LS_kernelAt_1 : decode b_LS_kernelAt 1 = .ok (.ifCond .lt 14, 3) := by decide +kernel
theorem d_LS_kernelAt_4 : decode b_LS_kernelAt 4 = .ok (.iload_n 1, 1) := by decide +kernel
theorem d_LS_kernelAt_5 : decode b_LS_kernelAt 5 = .ok (.aload_n 0, 1) := by decide +kernel
theorem d_LS_kernelAt_6 : decode b_LS_kernelAt 6 = .ok (.getfield 33, 3) := by decide +kernel
theorem d_LS_kernelAt_9 : decode b_LS_kernelAt 9 = .ok (.getfield 135, 3) := by decide +kernel
theorem d_LS_kernelAt_12 : decode b_LS_kernelAt 12 = .ok (.if_icmp .lt 11, 3) := by decide +kernel
theorem d_LS_kernelAt_23 : decode b_LS_kernelAt 23 = .ok (.aload_n 0, 1) := by decide +kernel
theorem d_LS_kernelAt_24 : decode b_LS_kernelAt 24 = .ok (.iload_n 2, 1) := by decide +kernel
theorem d_LS_kernelAt_25 : decode b_LS_kernelAt 25 = .ok (.invokevirtual 138, 3) := by decide +kernel
theorem d_LS_kernelAt_28 : decode b_LS_kernelAt 28 = .ok (.aload_n 0, 1) := by decide +kernel
theorem d_LS_kernelAt_29 : decode b_LS_kernelAt 29 = .ok (.getfield 33, 3) := by decide +kernel
theorem d_LS_kernelAt_32 : decode b_LS_kernelAt 32 = .ok (.iload_n 1, 1) := by decide +kernel
theorem d_LS_kernelAt_33 : decode b_LS_kernelAt 33 = .ok (.iload_n 2, 1) := by decide +kernel
theorem d_LS_kernelAt_34 : decode b_LS_kernelAt 34 = .ok (.invokevirtual 142, 3) := by decide +kernel
theorem d_LS_kernelAt_37 : decode b_LS_kernelAt 37 = .ok (.lreturn, 1) := by decide +kernel
theorem d_LS_number_0 : decode b_LS_number 0 = .ok (.iload_n 1, 1) := by decide +kernel
theorem d_LS_number_1 : decode b_LS_number 1 = .ok (.ifCond .lt 29, 3) := by decide +kernel
theorem d_LS_number_4 : decode b_LS_number 4 = .ok (.iload_n 1, 1) := by decide +kernel
theorem d_LS_number_5 : decode b_LS_number 5 = .ok (.aload_n 0, 1) := by decide +kernel
theorem d_LS_number_6 : decode b_LS_number 6 = .ok (.getfield 73, 3) := by decide +kernel
theorem d_LS_number_9 : decode b_LS_number 9 = .ok (.getfield 106, 3) := by decide +kernel
theorem d_LS_number_12 : decode b_LS_number 12 = .ok (.if_icmp .ge 18, 3) := by decide +kernel
theorem d_LS_number_15 : decode b_LS_number 15 = .ok (.iload_n 2, 1) := by decide +kernel
theorem d_LS_number_16 : decode b_LS_number 16 = .ok (.ifCond .lt 14, 3) := by decide +kernel
theorem d_LS_number_19 : decode b_LS_number 19 = .ok (.iload_n 2, 1) := by decide +kernel
theorem d_LS_number_20 : decode b_LS_number 20 = .ok (.aload_n 0, 1) := by decide +kernel
theorem d_LS_number_21 : decode b_LS_number 21 = .ok (.getfield 73, 3) := by decide +kernel
theorem d_LS_number_24 : decode b_LS_number 24 = .ok (.invokevirtual 109, 3) := by decide +kernel
theorem d_LS_number_27 : decode b_LS_number 27 = .ok (.if_icmp .le 11, 3) := by decide +kernel
theorem d_LS_number_38 : decode b_LS_number 38 = .ok (.iload_n 2, 1) := by decide +kernel
theorem d_LS_number_39 : decode b_LS_number 39 = .ok (.aload_n 0, 1) := by decide +kernel
theorem d_LS_number_40 : decode b_LS_number 40 = .ok (.getfield 73, 3) := by decide +kernel
theorem d_LS_number_43 : decode b_LS_number 43 = .ok (.invokevirtual 109, 3) := by decide +kernel
theorem d_LS_number_46 : decode b_LS_number 46 = .ok (.if_icmp .ne 15, 3) := by decide +kernel
theorem d_LS_number_49 : decode b_LS_number 49 = .ok (.aload_n 0, 1) := by decide +kernel
theorem d_LS_number_50 : decode b_LS_number 50 = .ok (.getfield 73, 3) := by decide +kernel
theorem d_LS_number_53 : decode b_LS_number 53 = .ok (.getfield 121, 3) := by decide +kernel
theorem d_LS_number_56 : decode b_LS_number 56 = .ok (.iload_n 1, 1) := by decide +kernel
theorem d_LS_number_57 : decode b_LS_number 57 = .ok (.iaload, 1) := by decide +kernel
theorem d_LS_number_58 : decode b_LS_number 58 = .ok (.goto 14, 3) := by decide +kernel
theorem d_LS_number_61 : decode b_LS_number 61 = .ok (.aload_n 0, 1) := by decide +kernel
theorem d_LS_number_62 : decode b_LS_number 62 = .ok (.getfield 73, 3) := by decide +kernel
theorem d_LS_number_65 : decode b_LS_number 65 = .ok (.getfield 124, 3) := by decide +kernel
theorem d_LS_number_68 : decode b_LS_number 68 = .ok (.iload_n 1, 1) := by decide +kernel
theorem d_LS_number_69 : decode b_LS_number 69 = .ok (.aaload, 1) := by decide +kernel
theorem d_LS_number_70 : decode b_LS_number 70 = .ok (.iload_n 2, 1) := by decide +kernel
theorem d_LS_number_71 : decode b_LS_number 71 = .ok (.iaload, 1) := by decide +kernel
theorem d_LS_number_72 : decode b_LS_number 72 = .ok (.ireturn, 1) := by decide +kernel
theorem d_LS_solvable_0 : decode b_LS_solvable 0 = .ok (.aload_n 0, 1) := by decide +kernel
theorem d_LS_solvable_1 : decode b_LS_solvable 1 = .ok (.invokevirtual 128, 3) := by decide +kernel
theorem d_LS_solvable_4 : decode b_LS_solvable 4 = .ok (.aload_n 0, 1) := by decide +kernel
theorem d_LS_solvable_5 : decode b_LS_solvable 5 = .ok (.getfield 33, 3) := by decide +kernel
theorem d_LS_solvable_8 : decode b_LS_solvable 8 = .ok (.aload_n 0, 1) := by decide +kernel
theorem d_LS_solvable_9 : decode b_LS_solvable 9 = .ok (.getfield 73, 3) := by decide +kernel
theorem d_LS_solvable_12 : decode b_LS_solvable 12 = .ok (.invokevirtual 131, 3) := by decide +kernel
theorem d_LS_solvable_15 : decode b_LS_solvable 15 = .ok (.ifCond .eq 7, 3) := by decide +kernel
theorem d_LS_solvable_18 : decode b_LS_solvable 18 = .ok (.iconst 1, 1) := by decide +kernel
theorem d_LS_solvable_19 : decode b_LS_solvable 19 = .ok (.goto 4, 3) := by decide +kernel
theorem d_LS_solvable_22 : decode b_LS_solvable 22 = .ok (.iconst 0, 1) := by decide +kernel
theorem d_LS_solvable_23 : decode b_LS_solvable 23 = .ok (.ireturn, 1) := by decide +kernel
theorem d_LS_tell_0 : decode b_LS_tell 0 = .ok (.aload_n 0, 1) := by decide +kernel
theorem d_LS_tell_1 : decode b_LS_tell 1 = .ok (.iload_n 1, 1) := by decide +kernel
