theorem d_MO_isColumn_0 : decode b_MO_isColumn 0 = .ok (.aload_n 0, 1) := by decide +kernel
theorem d_MO_isColumn_1 : decode b_MO_isColumn 1 = .ok (.getfield 133, 3) := by decide +kernel
theorem d_MO_isColumn_4 : decode b_MO_isColumn 4 = .ok (.ifCond .eq 19, 3) := by decide +kernel
theorem d_MO_isColumn_7 : decode b_MO_isColumn 7 = .ok (.iload_n 1, 1) := by decide +kernel
theorem d_MO_isColumn_8 : decode b_MO_isColumn 8 = .ok (.ifCond .lt 15, 3) := by decide +kernel
theorem d_MO_isColumn_11 : decode b_MO_isColumn 11 = .ok (.iload_n 1, 1) := by decide +kernel
theorem d_MO_isColumn_12 : decode b_MO_isColumn 12 = .ok (.aload_n 0, 1) := by decide +kernel
theorem d_MO_isColumn_13 : decode b_MO_isColumn 13 = .ok (.getfield 143, 3) := by decide +kernel
theorem d_MO_isColumn_16 : decode b_MO_isColumn 16 = .ok (.if_icmp .ge 7, 3) := by decide +kernel
theorem d_MO_isColumn_19 : decode b_MO_isColumn 19 = .ok (.iconst 1, 1) := by decide +kernel
theorem d_MO_isColumn_20 : decode b_MO_isColumn 20 = .ok (.goto 4, 3) := by decide +kernel
theorem d_MO_isColumn_23 : decode b_MO_isColumn 23 = .ok (.iconst 0, 1) := by decide +kernel
theorem d_MO_isColumn_24 : decode b_MO_isColumn 24 = .ok (.ireturn, 1) := by decide +kernel
theorem d_MO_kernel_0 : decode b_MO_kernel 0 = .ok (.aload_n 0, 1) := by decide +kernel
theorem d_MO_kernel_1 : decode b_MO_kernel 1 = .ok (.aload_n 0, 1) := by decide +kernel
theorem d_MO_kernel_2 : decode b_MO_kernel 2 = .ok (.getfield 133, 3) := by decide +kernel
theorem d_MO_kernel_5 : decode b_MO_kernel 5 = .ok (.ifCond .eq 7, 3) := by decide +kernel
theorem d_MO_kernel_8 : decode b_MO_kernel 8 = .ok (.iconst 0, 1) := by decide +kernel
theorem d_MO_kernel_9 : decode b_MO_kernel 9 = .ok (.goto 4, 3) := by decide +kernel
theorem d_MO_kernel_12 : decode b_MO_kernel 12 = .ok (.iconst 1, 1) := by decide +kernel
theorem d_MO_kernel_13 : decode b_MO_kernel 13 = .ok (.putfield 81, 3) := by decide +kernel
theorem d_MO_kernel_16 : decode b_MO_kernel 16 = .ok (.aload_n 0, 1) := by decide +kernel
theorem d_MO_kernel_17 : decode b_MO_kernel 17 = .ok (.getfield 81, 3) := by decide +kernel
theorem d_MO_kernel_20 : decode b_MO_kernel 20 = .ok (.ifCond .le 5, 3) := by decide +kernel
theorem d_MO_kernel_23 : decode b_MO_kernel 23 = .ok (.iconst 0, 1) := by decide +kernel
theorem d_MO_kernel_24 : decode b_MO_kernel 24 = .ok (.ireturn, 1) := by decide +kernel
theorem d_MO_kernel_25 : decode b_MO_kernel 25 = .ok (.aload_n 0, 1) := by decide +kernel
theorem d_MO_kernel_26 : decode b_MO_kernel 26 = .ok (.invokevirtual 191, 3) := by decide +kernel
theorem d_MO_kernel_29 : decode b_MO_kernel 29 = .ok (.aload_n 0, 1) := by decide +kernel
theorem d_MO_kernel_30 : decode b_MO_kernel 30 = .ok (.getfield 152, 3) := by decide +kernel
theorem d_MO_kernel_33 : decode b_MO_kernel 33 = .ok (.ireturn, 1) := by decide +kernel
theorem d_MO_kernelAt_0 : decode b_MO_kernelAt 0 = .ok (.aload_n 0, 1) := by decide +kernel
theorem d_MO_kernelAt_1 : decode b_MO_kernelAt 1 = .ok (.iconst 1, 1) := by decide +kernel
theorem d_MO_kernelAt_2 : decode b_MO_kernelAt 2 = .ok (.putfield 81, 3) := by decide +kernel
theorem d_MO_kernelAt_5 : decode b_MO_kernelAt 5 = .ok (.aload_n 0, 1) := by decide +kernel
theorem d_MO_kernelAt_6 : decode b_MO_kernelAt 6 = .ok (.iload_n 2, 1) := by decide +kernel
theorem d_MO_kernelAt_7 : decode b_MO_kernelAt 7 = .ok (.invokevirtual 194, 3) := by decide +kernel
theorem d_MO_kernelAt_10 : decode b_MO_kernelAt 10 = .ok (.ifCond .eq 7, 3) := by decide +kernel
theorem d_MO_kernelAt_13 : decode b_MO_kernelAt 13 = .ok (.iload_n 1, 1) := by decide +kernel
theorem d_MO_kernelAt_14 : decode b_MO_kernelAt 14 = .ok (.ifCond .ge 5, 3) := by decide +kernel
theorem d_MO_kernelAt_17 : decode b_MO_kernelAt 17 = .ok (.lconst 0, 1) := by decide +kernel
theorem d_MO_kernelAt_18 : decode b_MO_kernelAt 18 = .ok (.lreturn, 1) := by decide +kernel
theorem d_MO_kernelAt_19 : decode b_MO_kernelAt 19 = .ok (.aload_n 0, 1) := by decide +kernel
theorem d_MO_kernelAt_20 : decode b_MO_kernelAt 20 = .ok (.invokevirtual 191, 3) := by decide +kernel
theorem d_MO_kernelAt_23 : decode b_MO_kernelAt 23 = .ok (.aload_n 0, 1) := by decide +kernel
theorem d_MO_kernelAt_24 : decode b_MO_kernelAt 24 = .ok (.iload_n 1, 1) := by decide +kernel
theorem d_MO_kernelAt_25 : decode b_MO_kernelAt 25 = .ok (.aload_n 0, 1) := by decide +kernel
theorem d_MO_kernelAt_26 : decode b_MO_kernelAt 26 = .ok (.getfield 152, 3) := by decide +kernel
theorem d_MO_kernelAt_29 : decode b_MO_kernelAt 29 = .ok (.if_icmp .ge 7, 3) := by decide +kernel
theorem d_MO_kernelAt_32 : decode b_MO_kernelAt 32 = .ok (.iconst 0, 1) := by decide +kernel
theorem d_MO_kernelAt_33 : decode b_MO_kernelAt 33 = .ok (.goto 4, 3) := by decide +kernel
theorem d_MO_kernelAt_36 : decode b_MO_kernelAt 36 = .ok (.iconst 1, 1) := by decide +kernel
theorem d_MO_kernelAt_37 : decode b_MO_kernelAt 37 = .ok (.putfield 81, 3) := by decide +kernel
theorem d_MO_kernelAt_40 : decode b_MO_kernelAt 40 = .ok (.aload_n 0, 1) := by decide +kernel
theorem d_MO_kernelAt_41 : decode b_MO_kernelAt 41 = .ok (.getfield 81, 3) := by decide +kernel
theorem d_MO_kernelAt_44 : decode b_MO_kernelAt 44 = .ok (.ifCond .ne 17, 3) := by decide +kernel
theorem d_MO_kernelAt_47 : decode b_MO_kernelAt 47 = .ok (.aload_n 0, 1) := by decide +kernel
theorem d_MO_kernelAt_48 : decode b_MO_kernelAt 48 = .ok (.getfield 68, 3) := by decide +kernel
theorem d_MO_kernelAt_51 : decode b_MO_kernelAt 51 = .ok (.bipush 6, 2) := by decide +kernel
theorem d_MO_kernelAt_53 : decode b_MO_kernelAt 53 = .ok (.iload_n 1, 1) := by decide +kernel
theorem d_MO_kernelAt_54 : decode b_MO_kernelAt 54 = .ok (.imul, 1) := by decide +kernel
theorem d_MO_kernelAt_55 : decode b_MO_kernelAt 55 = .ok (.iload_n 2, 1) := by decide +kernel
theorem d_MO_kernelAt_56 : decode b_MO_kernelAt 56 = .ok (.iadd, 1) := by decide +kernel
theorem d_MO_kernelAt_57 : decode b_MO_kernelAt 57 = .ok (.laload, 1) := by decide +kernel
theorem d_MO_kernelAt_58 : decode b_MO_kernelAt 58 = .ok (.goto 4, 3) := by decide +kernel
theorem d_MO_kernelAt_61 : decode b_MO_kernelAt 61 = .ok (.lconst 0, 1) := by decide +kernel
theorem d_MO_kernelAt_62 : decode b_MO_kernelAt 62 = .ok (.lreturn, 1) := by decide +kernel
theorem d_MO_shorten_0 : decode b_MO_shorten 0 = .ok (.iconst 0, 1) := by decide +kernel
theorem d_MO_shorten_1 : decode b_MO_shorten 1 = .ok (.istore_n 1, 1) := by decide +kernel
theorem d_MO_shorten_2 : decode b_MO_shorten 2 = .ok (.iload_n 1, 1) := by decide +kernel
theorem d_MO_shorten_3 : decode b_MO_shorten 3 = .ok (.aload_n 0, 1) := by decide +kernel
theorem d_MO_shorten_4 : decode b_MO_shorten 4 = .ok (.getfield 152, 3) := by decide +kernel
theorem d_MO_shorten_7 : decode b_MO_shorten 7 = .ok (.if_icmp .ge 99, 3) := by decide +kernel
theorem d_MO_shorten_10 : decode b_MO_shorten 10 = .ok (.iconst 0, 1) := by decide +kernel
theorem d_MO_shorten_11 : decode b_MO_shorten 11 = .ok (.istore_n 2, 1) := by decide +kernel
theorem d_MO_shorten_12 : decode b_MO_shorten 12 = .ok (.aload_n 0, 1) := by decide +kernel
theorem d_MO_shorten_13 : decode b_MO_shorten 13 = .ok (.getfield 68, 3) := by decide +kernel
theorem d_MO_shorten_16 : decode b_MO_shorten 16 = .ok (.bipush 6, 2) := by decide +kernel
theorem d_MO_shorten_18 : decode b_MO_shorten 18 = .ok (.iload_n 1, 1) := by decide +kernel
theorem d_MO_shorten_19 : decode b_MO_shorten 19 = .ok (.imul, 1) := by decide +kernel
theorem d_MO_shorten_20 : decode b_MO_shorten 20 = .ok (.iload_n 2, 1) := by decide +kernel
theorem d_MO_shorten_21 : decode b_MO_shorten 21 = .ok (.iadd, 1) := by decide +kernel
theorem d_MO_shorten_22 : decode b_MO_shorten 22 = .ok (.laload, 1) := by decide +kernel
theorem d_MO_shorten_23 : decode b_MO_shorten 23 = .ok (.lconst 0, 1) := by decide +kernel
theorem d_MO_shorten_24 : decode b_MO_shorten 24 = .ok (.lcmp, 1) := by decide +kernel
theorem d_MO_shorten_25 : decode b_MO_shorten 25 = .ok (.ifCond .ne 9, 3) := by decide +kernel
theorem d_MO_shorten_28 : decode b_MO_shorten 28 = .ok (.iinc 2 1, 3) := by decide +kernel
theorem d_MO_shorten_31 : decode b_MO_shorten 31 = .ok (.goto (-19), 3) := by decide +kernel
theorem d_MO_shorten_34 : decode b_MO_shorten 34 = .ok (.aload_n 0, 1) := by decide +kernel
theorem d_MO_shorten_35 : decode b_MO_shorten 35 = .ok (.getfield 72, 3) := by decide +kernel
theorem d_MO_shorten_38 : decode b_MO_shorten 38 = .ok (.iload_n 2, 1) := by decide +kernel
theorem d_MO_shorten_39 : decode b_MO_shorten 39 = .ok (.laload, 1) := by decide +kernel
theorem d_MO_shorten_40 : decode b_MO_shorten 40 = .ok (.aload_n 0, 1) := by decide +kernel
theorem d_MO_shorten_41 : decode b_MO_shorten 41 = .ok (.getfield 68, 3) := by decide +kernel
theorem d_MO_shorten_44 : decode b_MO_shorten 44 = .ok (.bipush 6, 2) := by decide +kernel
theorem d_MO_shorten_46 : decode b_MO_shorten 46 = .ok (.iload_n 1, 1) := by decide +kernel
theorem d_MO_shorten_47 : decode b_MO_shorten 47 = .ok (.imul, 1) := by decide +kernel
theorem d_MO_shorten_48 : decode b_MO_shorten 48 = .ok (.iload_n 2, 1) := by decide +kernel
theorem d_MO_shorten_49 : decode b_MO_shorten 49 = .ok (.iadd, 1) := by decide +kernel
theorem d_MO_shorten_50 : decode b_MO_shorten 50 = .ok (.laload, 1) := by decide +kernel
theorem d_MO_shorten_51 : decode b_MO_shorten 51 = .ok (.ldiv, 1) := by decide +kernel
theorem d_MO_shorten_52 : decode b_MO_shorten 52 = .ok (.lstore_n 3, 1) := by decide +kernel
theorem d_MO_shorten_53 : decode b_MO_shorten 53 = .ok (.iconst 0, 1) := by decide +kernel
theorem d_MO_shorten_54 : decode b_MO_shorten 54 = .ok (.istore 5, 2) := by decide +kernel
theorem d_MO_shorten_56 : decode b_MO_shorten 56 = .ok (.iload 5, 2) := by decide +kernel
theorem d_MO_shorten_58 : decode b_MO_shorten 58 = .ok (.aload_n 0, 1) := by decide +kernel
theorem d_MO_shorten_59 : decode b_MO_shorten 59 = .ok (.getfield 143, 3) := by decide +kernel
theorem d_MO_shorten_62 : decode b_MO_shorten 62 = .ok (.if_icmp .ge 38, 3) := by decide +kernel
theorem d_MO_shorten_65 : decode b_MO_shorten 65 = .ok (.aload_n 0, 1) := by decide +kernel
theorem d_MO_shorten_66 : decode b_MO_shorten 66 = .ok (.getfield 72, 3) := by decide +kernel
theorem d_MO_shorten_69 : decode b_MO_shorten 69 = .ok (.iload 5, 2) := by decide +kernel
theorem d_MO_shorten_71 : decode b_MO_shorten 71 = .ok (.aload_n 0, 1) := by decide +kernel
theorem d_MO_shorten_72 : decode b_MO_shorten 72 = .ok (.getfield 72, 3) := by decide +kernel
theorem d_MO_shorten_75 : decode b_MO_shorten 75 = .ok (.iload 5, 2) := by decide +kernel
theorem d_MO_shorten_77 : decode b_MO_shorten 77 = .ok (.laload, 1) := by decide +kernel
theorem d_MO_shorten_78 : decode b_MO_shorten 78 = .ok (.lload_n 3, 1) := by decide +kernel
theorem d_MO_shorten_79 : decode b_MO_shorten 79 = .ok (.aload_n 0, 1) := by decide +kernel
theorem d_MO_shorten_80 : decode b_MO_shorten 80 = .ok (.getfield 68, 3) := by decide +kernel
theorem d_MO_shorten_83 : decode b_MO_shorten 83 = .ok (.bipush 6, 2) := by decide +kernel
theorem d_MO_shorten_85 : decode b_MO_shorten 85 = .ok (.iload_n 1, 1) := by decide +kernel
theorem d_MO_shorten_86 : decode b_MO_shorten 86 = .ok (.imul, 1) := by decide +kernel
theorem d_MO_shorten_87 : decode b_MO_shorten 87 = .ok (.iload 5, 2) := by decide +kernel
theorem d_MO_shorten_89 : decode b_MO_shorten 89 = .ok (.iadd, 1) := by decide +kernel
theorem d_MO_shorten_90 : decode b_MO_shorten 90 = .ok (.laload, 1) := by decide +kernel
theorem d_MO_shorten_91 : decode b_MO_shorten 91 = .ok (.lmul, 1) := by decide +kernel
theorem d_MO_shorten_92 : decode b_MO_shorten 92 = .ok (.lsub, 1) := by decide +kernel
theorem d_MO_shorten_93 : decode b_MO_shorten 93 = .ok (.lastore, 1) := by decide +kernel
theorem d_MO_shorten_94 : decode b_MO_shorten 94 = .ok (.iinc 5 1, 3) := by decide +kernel
theorem d_MO_shorten_97 : decode b_MO_shorten 97 = .ok (.goto (-41), 3) := by decide +kernel
theorem d_MO_shorten_100 : decode b_MO_shorten 100 = .ok (.iinc 1 1, 3) := by decide +kernel
theorem d_MO_shorten_103 : decode b_MO_shorten 103 = .ok (.goto (-101), 3) := by decide +kernel
theorem d_MO_shorten_106 : decode b_MO_shorten 106 = .ok (.return_, 1) := by decide +kernel
theorem d_MO_solvable_0 : decode b_MO_solvable 0 = .ok (.aload_n 0, 1) := by decide +kernel
theorem d_MO_solvable_1 : decode b_MO_solvable 1 = .ok (.aload_n 0, 1) := by decide +kernel
theorem d_MO_solvable_2 : decode b_MO_solvable 2 = .ok (.getfield 133, 3) := by decide +kernel
theorem d_MO_solvable_5 : decode b_MO_solvable 5 = .ok (.ifCond .eq 7, 3) := by decide +kernel
theorem d_MO_solvable_8 : decode b_MO_solvable 8 = .ok (.iconst 0, 1) := by decide +kernel
theorem d_MO_solvable_9 : decode b_MO_solvable 9 = .ok (.goto 4, 3) := by decide +kernel
theorem d_MO_solvable_12 : decode b_MO_solvable 12 = .ok (.iconst 1, 1) := by decide +kernel
theorem d_MO_solvable_13 : decode b_MO_solvable 13 = .ok (.putfield 81, 3) := by decide +kernel
theorem d_MO_solvable_16 : decode b_MO_solvable 16 = .ok (.aload_n 0, 1) := by decide +kernel
theorem d_MO_solvable_17 : decode b_MO_solvable 17 = .ok (.getfield 81, 3) := by decide +kernel
theorem d_MO_solvable_20 : decode b_MO_solvable 20 = .ok (.ifCond .le 5, 3) := by decide +kernel
theorem d_MO_solvable_23 : decode b_MO_solvable 23 = .ok (.iconst 0, 1) := by decide +kernel
theorem d_MO_solvable_24 : decode b_MO_solvable 24 = .ok (.ireturn, 1) := by decide +kernel
theorem d_MO_solvable_25 : decode b_MO_solvable 25 = .ok (.aload_n 0, 1) := by decide +kernel
theorem d_MO_solvable_26 : decode b_MO_solvable 26 = .ok (.invokevirtual 191, 3) := by decide +kernel
theorem d_MO_solvable_29 : decode b_MO_solvable 29 = .ok (.aload_n 0, 1) := by decide +kernel
theorem d_MO_solvable_30 : decode b_MO_solvable 30 = .ok (.getfield 179, 3) := by decide +kernel
theorem d_MO_solvable_33 : decode b_MO_solvable 33 = .ok (.ifCond .eq 7, 3) := by decide +kernel
