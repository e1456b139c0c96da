theorem d_LA_findKernel_0 : decode b_LA_findKernel 0 = .ok (.aload_n 0, 1) := by decide +kernel
theorem d_LA_findKernel_1 : decode b_LA_findKernel 1 = .ok (.iconst 0, 1) := by decide +kernel
theorem d_LA_findKernel_2 : decode b_LA_findKernel 2 = .ok (.putfield 30, 3) := by decide +kernel
theorem d_LA_findKernel_5 : decode b_LA_findKernel 5 = .ok (.aload_n 0, 1) := by decide +kernel
theorem d_LA_findKernel_6 : decode b_LA_findKernel 6 = .ok (.getfield 34, 3) := by decide +kernel
theorem d_LA_findKernel_9 : decode b_LA_findKernel 9 = .ok (.istore_n 1, 1) := by decide +kernel
theorem d_LA_findKernel_10 : decode b_LA_findKernel 10 = .ok (.iload_n 1, 1) := by decide +kernel
theorem d_LA_findKernel_11 : decode b_LA_findKernel 11 = .ok (.aload_n 0, 1) := by decide +kernel
theorem d_LA_findKernel_12 : decode b_LA_findKernel 12 = .ok (.getfield 37, 3) := by decide +kernel
theorem d_LA_findKernel_15 : decode b_LA_findKernel 15 = .ok (.if_icmp .ge 53, 3) := by decide +kernel
theorem d_LA_findKernel_18 : decode b_LA_findKernel 18 = .ok (.aload_n 0, 1) := by decide +kernel
theorem d_LA_findKernel_19 : decode b_LA_findKernel 19 = .ok (.getfield 16, 3) := by decide +kernel
theorem d_LA_findKernel_22 : decode b_LA_findKernel 22 = .ok (.iload_n 1, 1) := by decide +kernel
theorem d_LA_findKernel_23 : decode b_LA_findKernel 23 = .ok (.iaload, 1) := by decide +kernel
theorem d_LA_findKernel_24 : decode b_LA_findKernel 24 = .ok (.iconst (-1), 1) := by decide +kernel
theorem d_LA_findKernel_25 : decode b_LA_findKernel 25 = .ok (.if_icmp .eq 37, 3) := by decide +kernel
theorem d_LA_findKernel_28 : decode b_LA_findKernel 28 = .ok (.aload_n 0, 1) := by decide +kernel
theorem d_LA_findKernel_29 : decode b_LA_findKernel 29 = .ok (.getfield 30, 3) := by decide +kernel
theorem d_LA_findKernel_32 : decode b_LA_findKernel 32 = .ok (.bipush 6, 2) := by decide +kernel
theorem d_LA_findKernel_34 : decode b_LA_findKernel 34 = .ok (.if_icmp .ge 28, 3) := by decide +kernel
theorem d_LA_findKernel_37 : decode b_LA_findKernel 37 = .ok (.aload_n 0, 1) := by decide +kernel
theorem d_LA_findKernel_38 : decode b_LA_findKernel 38 = .ok (.getfield 20, 3) := by decide +kernel
theorem d_LA_findKernel_41 : decode b_LA_findKernel 41 = .ok (.aload_n 0, 1) := by decide +kernel
theorem d_LA_findKernel_42 : decode b_LA_findKernel 42 = .ok (.getfield 30, 3) := by decide +kernel
theorem d_LA_findKernel_45 : decode b_LA_findKernel 45 = .ok (.aload_n 0, 1) := by decide +kernel
theorem d_LA_findKernel_46 : decode b_LA_findKernel 46 = .ok (.getfield 16, 3) := by decide +kernel
theorem d_LA_findKernel_49 : decode b_LA_findKernel 49 = .ok (.iload_n 1, 1) := by decide +kernel
theorem d_LA_findKernel_50 : decode b_LA_findKernel 50 = .ok (.iaload, 1) := by decide +kernel
theorem d_LA_findKernel_51 : decode b_LA_findKernel 51 = .ok (.iastore, 1) := by decide +kernel
theorem d_LA_findKernel_52 : decode b_LA_findKernel 52 = .ok (.aload_n 0, 1) := by decide +kernel
theorem d_LA_findKernel_53 : decode b_LA_findKernel 53 = .ok (.dup, 1) := by decide +kernel
theorem d_LA_findKernel_54 : decode b_LA_findKernel 54 = .ok (.getfield 30, 3) := by decide +kernel
theorem d_LA_findKernel_57 : decode b_LA_findKernel 57 = .ok (.iconst 1, 1) := by decide +kernel
theorem d_LA_findKernel_58 : decode b_LA_findKernel 58 = .ok (.iadd, 1) := by decide +kernel
theorem d_LA_findKernel_59 : decode b_LA_findKernel 59 = .ok (.putfield 30, 3) := by decide +kernel
theorem d_LA_findKernel_62 : decode b_LA_findKernel 62 = .ok (.iinc 1 1, 3) := by decide +kernel
theorem d_LA_findKernel_65 : decode b_LA_findKernel 65 = .ok (.goto (-55), 3) := by decide +kernel
theorem d_LA_findKernel_68 : decode b_LA_findKernel 68 = .ok (.return_, 1) := by decide +kernel
theorem d_LA_insertFresh_0 : decode b_LA_insertFresh 0 = .ok (.iconst 0, 1) := by decide +kernel
theorem d_LA_insertFresh_1 : decode b_LA_insertFresh 1 = .ok (.istore_n 1, 1) := by decide +kernel
theorem d_LA_insertFresh_2 : decode b_LA_insertFresh 2 = .ok (.iload_n 1, 1) := by decide +kernel
theorem d_LA_insertFresh_3 : decode b_LA_insertFresh 3 = .ok (.aload_n 0, 1) := by decide +kernel
theorem d_LA_insertFresh_4 : decode b_LA_insertFresh 4 = .ok (.getfield 37, 3) := by decide +kernel
theorem d_LA_insertFresh_7 : decode b_LA_insertFresh 7 = .ok (.if_icmp .ge 82, 3) := by decide +kernel
theorem d_LA_insertFresh_10 : decode b_LA_insertFresh 10 = .ok (.aload_n 0, 1) := by decide +kernel
theorem d_LA_insertFresh_11 : decode b_LA_insertFresh 11 = .ok (.getfield 40, 3) := by decide +kernel
theorem d_LA_insertFresh_14 : decode b_LA_insertFresh 14 = .ok (.bipush 6, 2) := by decide +kernel
theorem d_LA_insertFresh_16 : decode b_LA_insertFresh 16 = .ok (.if_icmp .ge 73, 3) := by decide +kernel
theorem d_LA_insertFresh_19 : decode b_LA_insertFresh 19 = .ok (.aload_n 0, 1) := by decide +kernel
theorem d_LA_insertFresh_20 : decode b_LA_insertFresh 20 = .ok (.getfield 27, 3) := by decide +kernel
theorem d_LA_insertFresh_23 : decode b_LA_insertFresh 23 = .ok (.iload_n 1, 1) := by decide +kernel
theorem d_LA_insertFresh_24 : decode b_LA_insertFresh 24 = .ok (.laload, 1) := by decide +kernel
theorem d_LA_insertFresh_25 : decode b_LA_insertFresh 25 = .ok (.lconst 0, 1) := by decide +kernel
theorem d_LA_insertFresh_26 : decode b_LA_insertFresh 26 = .ok (.lcmp, 1) := by decide +kernel
theorem d_LA_insertFresh_27 : decode b_LA_insertFresh 27 = .ok (.ifCond .ne 6, 3) := by decide +kernel
theorem d_LA_insertFresh_30 : decode b_LA_insertFresh 30 = .ok (.goto 53, 3) := by decide +kernel
theorem d_LA_insertFresh_33 : decode b_LA_insertFresh 33 = .ok (.aload_n 0, 1) := by decide +kernel
theorem d_LA_insertFresh_34 : decode b_LA_insertFresh 34 = .ok (.getfield 16, 3) := by decide +kernel
theorem d_LA_insertFresh_37 : decode b_LA_insertFresh 37 = .ok (.iload_n 1, 1) := by decide +kernel
theorem d_LA_insertFresh_38 : decode b_LA_insertFresh 38 = .ok (.iaload, 1) := by decide +kernel
theorem d_LA_insertFresh_39 : decode b_LA_insertFresh 39 = .ok (.istore_n 2, 1) := by decide +kernel
theorem d_LA_insertFresh_40 : decode b_LA_insertFresh 40 = .ok (.iload_n 2, 1) := by decide +kernel
theorem d_LA_insertFresh_41 : decode b_LA_insertFresh 41 = .ok (.iconst (-1), 1) := by decide +kernel
theorem d_LA_insertFresh_42 : decode b_LA_insertFresh 42 = .ok (.if_icmp .ne 9, 3) := by decide +kernel
theorem d_LA_insertFresh_45 : decode b_LA_insertFresh 45 = .ok (.aload_n 0, 1) := by decide +kernel
theorem d_LA_insertFresh_46 : decode b_LA_insertFresh 46 = .ok (.iload_n 1, 1) := by decide +kernel
theorem d_LA_insertFresh_47 : decode b_LA_insertFresh 47 = .ok (.invokevirtual 74, 3) := by decide +kernel
theorem d_LA_insertFresh_50 : decode b_LA_insertFresh 50 = .ok (.return_, 1) := by decide +kernel
theorem d_LA_insertFresh_51 : decode b_LA_insertFresh 51 = .ok (.aload_n 0, 1) := by decide +kernel
theorem d_LA_insertFresh_52 : decode b_LA_insertFresh 52 = .ok (.iload_n 2, 1) := by decide +kernel
theorem d_LA_insertFresh_53 : decode b_LA_insertFresh 53 = .ok (.iload_n 1, 1) := by decide +kernel
theorem d_LA_insertFresh_54 : decode b_LA_insertFresh 54 = .ok (.invokevirtual 78, 3) := by decide +kernel
theorem d_LA_insertFresh_57 : decode b_LA_insertFresh 57 = .ok (.aload_n 0, 1) := by decide +kernel
theorem d_LA_insertFresh_58 : decode b_LA_insertFresh 58 = .ok (.iload_n 2, 1) := by decide +kernel
theorem d_LA_insertFresh_59 : decode b_LA_insertFresh 59 = .ok (.iload_n 1, 1) := by decide +kernel
theorem d_LA_insertFresh_60 : decode b_LA_insertFresh 60 = .ok (.invokevirtual 82, 3) := by decide +kernel
theorem d_LA_insertFresh_63 : decode b_LA_insertFresh 63 = .ok (.aload_n 0, 1) := by decide +kernel
theorem d_LA_insertFresh_64 : decode b_LA_insertFresh 64 = .ok (.aload_n 0, 1) := by decide +kernel
theorem d_LA_insertFresh_65 : decode b_LA_insertFresh 65 = .ok (.getfield 13, 3) := by decide +kernel
theorem d_LA_insertFresh_68 : decode b_LA_insertFresh 68 = .ok (.iload_n 2, 1) := by decide +kernel
theorem d_LA_insertFresh_69 : decode b_LA_insertFresh 69 = .ok (.aaload, 1) := by decide +kernel
theorem d_LA_insertFresh_70 : decode b_LA_insertFresh 70 = .ok (.iload_n 1, 1) := by decide +kernel
theorem d_LA_insertFresh_71 : decode b_LA_insertFresh 71 = .ok (.invokevirtual 85, 3) := by decide +kernel
theorem d_LA_insertFresh_74 : decode b_LA_insertFresh 74 = .ok (.aload_n 0, 1) := by decide +kernel
theorem d_LA_insertFresh_75 : decode b_LA_insertFresh 75 = .ok (.aload_n 0, 1) := by decide +kernel
theorem d_LA_insertFresh_76 : decode b_LA_insertFresh 76 = .ok (.getfield 27, 3) := by decide +kernel
theorem d_LA_insertFresh_79 : decode b_LA_insertFresh 79 = .ok (.iload_n 1, 1) := by decide +kernel
theorem d_LA_insertFresh_80 : decode b_LA_insertFresh 80 = .ok (.invokevirtual 85, 3) := by decide +kernel
theorem d_LA_insertFresh_83 : decode b_LA_insertFresh 83 = .ok (.iinc 1 1, 3) := by decide +kernel
theorem d_LA_insertFresh_86 : decode b_LA_insertFresh 86 = .ok (.goto (-84), 3) := by decide +kernel
theorem d_LA_insertFresh_89 : decode b_LA_insertFresh 89 = .ok (.return_, 1) := by decide +kernel
theorem d_LA_kernelNumber_0 : decode b_LA_kernelNumber 0 = .ok (.aload_n 0, 1) := by decide +kernel
theorem d_LA_kernelNumber_1 : decode b_LA_kernelNumber 1 = .ok (.getfield 13, 3) := by decide +kernel
theorem d_LA_kernelNumber_4 : decode b_LA_kernelNumber 4 = .ok (.aload_n 0, 1) := by decide +kernel
theorem d_LA_kernelNumber_5 : decode b_LA_kernelNumber 5 = .ok (.getfield 20, 3) := by decide +kernel
theorem d_LA_kernelNumber_8 : decode b_LA_kernelNumber 8 = .ok (.iload_n 1, 1) := by decide +kernel
theorem d_LA_kernelNumber_9 : decode b_LA_kernelNumber 9 = .ok (.iaload, 1) := by decide +kernel
theorem d_LA_kernelNumber_10 : decode b_LA_kernelNumber 10 = .ok (.aaload, 1) := by decide +kernel
theorem d_LA_kernelNumber_11 : decode b_LA_kernelNumber 11 = .ok (.aload_n 0, 1) := by decide +kernel
theorem d_LA_kernelNumber_12 : decode b_LA_kernelNumber 12 = .ok (.getfield 34, 3) := by decide +kernel
theorem d_LA_kernelNumber_15 : decode b_LA_kernelNumber 15 = .ok (.iload_n 2, 1) := by decide +kernel
theorem d_LA_kernelNumber_16 : decode b_LA_kernelNumber 16 = .ok (.iadd, 1) := by decide +kernel
theorem d_LA_kernelNumber_17 : decode b_LA_kernelNumber 17 = .ok (.laload, 1) := by decide +kernel
theorem d_LA_kernelNumber_18 : decode b_LA_kernelNumber 18 = .ok (.lreturn, 1) := by decide +kernel
theorem d_LA_reaches_0 : decode b_LA_reaches 0 = .ok (.iconst 0, 1) := by decide +kernel
theorem d_LA_reaches_1 : decode b_LA_reaches 1 = .ok (.istore_n 2, 1) := by decide +kernel
theorem d_LA_reaches_2 : decode b_LA_reaches 2 = .ok (.iload_n 2, 1) := by decide +kernel
theorem d_LA_reaches_3 : decode b_LA_reaches 3 = .ok (.aload_n 0, 1) := by decide +kernel
theorem d_LA_reaches_4 : decode b_LA_reaches 4 = .ok (.getfield 34, 3) := by decide +kernel
theorem d_LA_reaches_7 : decode b_LA_reaches 7 = .ok (.if_icmp .ge 22, 3) := by decide +kernel
theorem d_LA_reaches_10 : decode b_LA_reaches 10 = .ok (.aload_n 0, 1) := by decide +kernel
theorem d_LA_reaches_11 : decode b_LA_reaches 11 = .ok (.getfield 23, 3) := by decide +kernel
theorem d_LA_reaches_14 : decode b_LA_reaches 14 = .ok (.iload_n 2, 1) := by decide +kernel
theorem d_LA_reaches_15 : decode b_LA_reaches 15 = .ok (.aload_n 1, 1) := by decide +kernel
theorem d_LA_reaches_16 : decode b_LA_reaches 16 = .ok (.getfield 102, 3) := by decide +kernel
theorem d_LA_reaches_19 : decode b_LA_reaches 19 = .ok (.iload_n 2, 1) := by decide +kernel
theorem d_LA_reaches_20 : decode b_LA_reaches 20 = .ok (.iaload, 1) := by decide +kernel
theorem d_LA_reaches_21 : decode b_LA_reaches 21 = .ok (.i2l, 1) := by decide +kernel
theorem d_LA_reaches_22 : decode b_LA_reaches 22 = .ok (.lastore, 1) := by decide +kernel
theorem d_LA_reaches_23 : decode b_LA_reaches 23 = .ok (.iinc 2 1, 3) := by decide +kernel
theorem d_LA_reaches_26 : decode b_LA_reaches 26 = .ok (.goto (-24), 3) := by decide +kernel
theorem d_LA_reaches_29 : decode b_LA_reaches 29 = .ok (.iconst 0, 1) := by decide +kernel
theorem d_LA_reaches_30 : decode b_LA_reaches 30 = .ok (.istore_n 2, 1) := by decide +kernel
theorem d_LA_reaches_31 : decode b_LA_reaches 31 = .ok (.iload_n 2, 1) := by decide +kernel
theorem d_LA_reaches_32 : decode b_LA_reaches 32 = .ok (.aload_n 0, 1) := by decide +kernel
theorem d_LA_reaches_33 : decode b_LA_reaches 33 = .ok (.getfield 34, 3) := by decide +kernel
theorem d_LA_reaches_36 : decode b_LA_reaches 36 = .ok (.if_icmp .ge 30, 3) := by decide +kernel
theorem d_LA_reaches_39 : decode b_LA_reaches 39 = .ok (.aload_n 0, 1) := by decide +kernel
theorem d_LA_reaches_40 : decode b_LA_reaches 40 = .ok (.getfield 23, 3) := by decide +kernel
theorem d_LA_reaches_43 : decode b_LA_reaches 43 = .ok (.iload_n 2, 1) := by decide +kernel
theorem d_LA_reaches_44 : decode b_LA_reaches 44 = .ok (.laload, 1) := by decide +kernel
theorem d_LA_reaches_45 : decode b_LA_reaches 45 = .ok (.lconst 0, 1) := by decide +kernel
theorem d_LA_reaches_46 : decode b_LA_reaches 46 = .ok (.lcmp, 1) := by decide +kernel
theorem d_LA_reaches_47 : decode b_LA_reaches 47 = .ok (.ifCond .eq 13, 3) := by decide +kernel
theorem d_LA_reaches_50 : decode b_LA_reaches 50 = .ok (.aload_n 0, 1) := by decide +kernel
theorem d_LA_reaches_51 : decode b_LA_reaches 51 = .ok (.iload_n 2, 1) := by decide +kernel
theorem d_LA_reaches_52 : decode b_LA_reaches 52 = .ok (.invokevirtual 105, 3) := by decide +kernel
theorem d_LA_reaches_55 : decode b_LA_reaches 55 = .ok (.ifCond .ne 5, 3) := by decide +kernel
theorem d_LA_reaches_58 : decode b_LA_reaches 58 = .ok (.iconst 0, 1) := by decide +kernel
theorem d_LA_reaches_59 : decode b_LA_reaches 59 = .ok (.ireturn, 1) := by decide +kernel
theorem d_LA_reaches_60 : decode b_LA_reaches 60 = .ok (.iinc 2 1, 3) := by decide +kernel
theorem d_LA_reaches_63 : decode b_LA_reaches 63 = .ok (.goto (-32), 3) := by decide +kernel
theorem d_LA_reaches_66 : decode b_LA_reaches 66 = .ok (.iconst 1, 1) := by decide +kernel
theorem d_LA_reaches_67 : decode b_LA_reaches 67 = .ok (.ireturn, 1) := by decide +kernel
theorem d_LA_takeFromTarget_0 : decode b_LA_takeFromTarget 0 = .ok (.aload_n 0, 1) := by decide +kernel
theorem d_LA_takeFromTarget_1 : decode b_LA_takeFromTarget 1 = .ok (.getfield 16, 3) := by decide +kernel
theorem d_LA_takeFromTarget_4 : decode b_LA_takeFromTarget 4 = .ok (.iload_n 1, 1) := by decide +kernel
theorem d_LA_takeFromTarget_5 : decode b_LA_takeFromTarget 5 = .ok (.iaload, 1) := by decide +kernel
theorem d_LA_takeFromTarget_6 : decode b_LA_takeFromTarget 6 = .ok (.istore_n 2, 1) := by decide +kernel
theorem d_LA_takeFromTarget_7 : decode b_LA_takeFromTarget 7 = .ok (.iload_n 2, 1) := by decide +kernel
