theorem d_LW_holds_0 : decode b_LW_holds 0 = .ok (.aload_n 1, 1) := by decide +kernel
theorem d_LW_holds_1 : decode b_LW_holds 1 = .ok (.iconst 0, 1) := by decide +kernel
theorem d_LW_holds_2 : decode b_LW_holds 2 = .ok (.aload_n 0, 1) := by decide +kernel
theorem d_LW_holds_3 : decode b_LW_holds 3 = .ok (.invokevirtual 41, 3) := by decide +kernel
theorem d_LW_holds_6 : decode b_LW_holds 6 = .ok (.i2l, 1) := by decide +kernel
theorem d_LW_holds_7 : decode b_LW_holds 7 = .ok (.lastore, 1) := by decide +kernel
theorem d_LW_holds_8 : decode b_LW_holds 8 = .ok (.goto 6, 3) := by decide +kernel
theorem d_LW_holds_11 : decode b_LW_holds 11 = .ok (.astore_n 2, 1) := by decide +kernel
theorem d_LW_holds_12 : decode b_LW_holds 12 = .ok (.iconst 1, 1) := by decide +kernel
theorem d_LW_holds_13 : decode b_LW_holds 13 = .ok (.ireturn, 1) := by decide +kernel
theorem d_LW_holds_14 : decode b_LW_holds 14 = .ok (.iconst 0, 1) := by decide +kernel
theorem d_LW_holds_15 : decode b_LW_holds 15 = .ok (.ireturn, 1) := by decide +kernel
theorem d_LW_kernel_0 : decode b_LW_kernel 0 = .ok (.aload_n 1, 1) := by decide +kernel
theorem d_LW_kernel_1 : decode b_LW_kernel 1 = .ok (.iconst 0, 1) := by decide +kernel
theorem d_LW_kernel_2 : decode b_LW_kernel 2 = .ok (.aload_n 0, 1) := by decide +kernel
theorem d_LW_kernel_3 : decode b_LW_kernel 3 = .ok (.invokevirtual 21, 3) := by decide +kernel
theorem d_LW_kernel_6 : decode b_LW_kernel 6 = .ok (.i2l, 1) := by decide +kernel
theorem d_LW_kernel_7 : decode b_LW_kernel 7 = .ok (.lastore, 1) := by decide +kernel
theorem d_LW_kernel_8 : decode b_LW_kernel 8 = .ok (.goto 6, 3) := by decide +kernel
theorem d_LW_kernel_11 : decode b_LW_kernel 11 = .ok (.astore_n 2, 1) := by decide +kernel
theorem d_LW_kernel_12 : decode b_LW_kernel 12 = .ok (.iconst 1, 1) := by decide +kernel
theorem d_LW_kernel_13 : decode b_LW_kernel 13 = .ok (.ireturn, 1) := by decide +kernel
theorem d_LW_kernel_14 : decode b_LW_kernel 14 = .ok (.iconst 0, 1) := by decide +kernel
theorem d_LW_kernel_15 : decode b_LW_kernel 15 = .ok (.ireturn, 1) := by decide +kernel
theorem d_LW_kernelAt_0 : decode b_LW_kernelAt 0 = .ok (.aload_n 3, 1) := by decide +kernel
theorem d_LW_kernelAt_1 : decode b_LW_kernelAt 1 = .ok (.iconst 0, 1) := by decide +kernel
theorem d_LW_kernelAt_2 : decode b_LW_kernelAt 2 = .ok (.aload_n 0, 1) := by decide +kernel
theorem d_LW_kernelAt_3 : decode b_LW_kernelAt 3 = .ok (.iload_n 1, 1) := by decide +kernel
theorem d_LW_kernelAt_4 : decode b_LW_kernelAt 4 = .ok (.iload_n 2, 1) := by decide +kernel
theorem d_LW_kernelAt_5 : decode b_LW_kernelAt 5 = .ok (.invokevirtual 24, 3) := by decide +kernel
theorem d_LW_kernelAt_8 : decode b_LW_kernelAt 8 = .ok (.lastore, 1) := by decide +kernel
theorem d_LW_kernelAt_9 : decode b_LW_kernelAt 9 = .ok (.goto 7, 3) := by decide +kernel
theorem d_LW_kernelAt_12 : decode b_LW_kernelAt 12 = .ok (.astore 4, 2) := by decide +kernel
theorem d_LW_kernelAt_14 : decode b_LW_kernelAt 14 = .ok (.iconst 1, 1) := by decide +kernel
theorem d_LW_kernelAt_15 : decode b_LW_kernelAt 15 = .ok (.ireturn, 1) := by decide +kernel
theorem d_LW_kernelAt_16 : decode b_LW_kernelAt 16 = .ok (.iconst 0, 1) := by decide +kernel
theorem d_LW_kernelAt_17 : decode b_LW_kernelAt 17 = .ok (.ireturn, 1) := by decide +kernel
theorem d_LW_number_0 : decode b_LW_number 0 = .ok (.aload_n 3, 1) := by decide +kernel
theorem d_LW_number_1 : decode b_LW_number 1 = .ok (.iconst 0, 1) := by decide +kernel
theorem d_LW_number_2 : decode b_LW_number 2 = .ok (.aload_n 0, 1) := by decide +kernel
theorem d_LW_number_3 : decode b_LW_number 3 = .ok (.iload_n 1, 1) := by decide +kernel
theorem d_LW_number_4 : decode b_LW_number 4 = .ok (.iload_n 2, 1) := by decide +kernel
theorem d_LW_number_5 : decode b_LW_number 5 = .ok (.invokevirtual 7, 3) := by decide +kernel
theorem d_LW_number_8 : decode b_LW_number 8 = .ok (.i2l, 1) := by decide +kernel
theorem d_LW_number_9 : decode b_LW_number 9 = .ok (.lastore, 1) := by decide +kernel
theorem d_LW_number_10 : decode b_LW_number 10 = .ok (.goto 7, 3) := by decide +kernel
theorem d_LW_number_13 : decode b_LW_number 13 = .ok (.astore 4, 2) := by decide +kernel
theorem d_LW_number_15 : decode b_LW_number 15 = .ok (.iconst 1, 1) := by decide +kernel
theorem d_LW_number_16 : decode b_LW_number 16 = .ok (.ireturn, 1) := by decide +kernel
theorem d_LW_number_17 : decode b_LW_number 17 = .ok (.iconst 0, 1) := by decide +kernel
theorem d_LW_number_18 : decode b_LW_number 18 = .ok (.ireturn, 1) := by decide +kernel
theorem d_LW_solvable_0 : decode b_LW_solvable 0 = .ok (.aload_n 1, 1) := by decide +kernel
theorem d_LW_solvable_1 : decode b_LW_solvable 1 = .ok (.iconst 0, 1) := by decide +kernel
theorem d_LW_solvable_2 : decode b_LW_solvable 2 = .ok (.aload_n 0, 1) := by decide +kernel
theorem d_LW_solvable_3 : decode b_LW_solvable 3 = .ok (.invokevirtual 15, 3) := by decide +kernel
theorem d_LW_solvable_6 : decode b_LW_solvable 6 = .ok (.i2l, 1) := by decide +kernel
theorem d_LW_solvable_7 : decode b_LW_solvable 7 = .ok (.lastore, 1) := by decide +kernel
theorem d_LW_solvable_8 : decode b_LW_solvable 8 = .ok (.goto 6, 3) := by decide +kernel
theorem d_LW_solvable_11 : decode b_LW_solvable 11 = .ok (.astore_n 2, 1) := by decide +kernel
theorem d_LW_solvable_12 : decode b_LW_solvable 12 = .ok (.iconst 1, 1) := by decide +kernel
theorem d_LW_solvable_13 : decode b_LW_solvable 13 = .ok (.ireturn, 1) := by decide +kernel
theorem d_LW_solvable_14 : decode b_LW_solvable 14 = .ok (.iconst 0, 1) := by decide +kernel
theorem d_LW_solvable_15 : decode b_LW_solvable 15 = .ok (.ireturn, 1) := by decide +kernel
