theorem d_LA_reduce_0 : decode b_LA_reduce 0 = .ok (.iload_n 2, 1) := by decide +kernel
theorem d_LA_reduce_1 : decode b_LA_reduce 1 = .ok (.iconst 1, 1) := by decide +kernel
theorem d_LA_reduce_2 : decode b_LA_reduce 2 = .ok (.iadd, 1) := by decide +kernel
theorem d_LA_reduce_3 : decode b_LA_reduce 3 = .ok (.istore_n 3, 1) := by decide +kernel
theorem d_LA_reduce_4 : decode b_LA_reduce 4 = .ok (.iload_n 3, 1) := by decide +kernel
theorem d_LA_reduce_5 : decode b_LA_reduce 5 = .ok (.aload_n 0, 1) := by decide +kernel
theorem d_LA_reduce_6 : decode b_LA_reduce 6 = .ok (.getfield 37, 3) := by decide +kernel
theorem d_LA_reduce_9 : decode b_LA_reduce 9 = .ok (.if_icmp .ge 64, 3) := by decide +kernel
theorem d_LA_reduce_12 : decode b_LA_reduce 12 = .ok (.aload_n 0, 1) := by decide +kernel
theorem d_LA_reduce_13 : decode b_LA_reduce 13 = .ok (.getfield 16, 3) := by decide +kernel
theorem d_LA_reduce_16 : decode b_LA_reduce 16 = .ok (.iload_n 3, 1) := by decide +kernel
theorem d_LA_reduce_17 : decode b_LA_reduce 17 = .ok (.iaload, 1) := by decide +kernel
theorem d_LA_reduce_18 : decode b_LA_reduce 18 = .ok (.istore 4, 2) := by decide +kernel
theorem d_LA_reduce_20 : decode b_LA_reduce 20 = .ok (.iload 4, 2) := by decide +kernel
theorem d_LA_reduce_22 : decode b_LA_reduce 22 = .ok (.iconst (-1), 1) := by decide +kernel
theorem d_LA_reduce_23 : decode b_LA_reduce 23 = .ok (.if_icmp .eq 44, 3) := by decide +kernel
theorem d_LA_reduce_26 : decode b_LA_reduce 26 = .ok (.aload_n 0, 1) := by decide +kernel
theorem d_LA_reduce_27 : decode b_LA_reduce 27 = .ok (.getfield 13, 3) := by decide +kernel
theorem d_LA_reduce_30 : decode b_LA_reduce 30 = .ok (.iload 4, 2) := by decide +kernel
theorem d_LA_reduce_32 : decode b_LA_reduce 32 = .ok (.aaload, 1) := by decide +kernel
theorem d_LA_reduce_33 : decode b_LA_reduce 33 = .ok (.iload_n 3, 1) := by decide +kernel
theorem d_LA_reduce_34 : decode b_LA_reduce 34 = .ok (.laload, 1) := by decide +kernel
theorem d_LA_reduce_35 : decode b_LA_reduce 35 = .ok (.lconst 0, 1) := by decide +kernel
theorem d_LA_reduce_36 : decode b_LA_reduce 36 = .ok (.lcmp, 1) := by decide +kernel
theorem d_LA_reduce_37 : decode b_LA_reduce 37 = .ok (.ifCond .le 30, 3) := by decide +kernel
theorem d_LA_reduce_40 : decode b_LA_reduce 40 = .ok (.aload_n 0, 1) := by decide +kernel
theorem d_LA_reduce_41 : decode b_LA_reduce 41 = .ok (.aload_n 1, 1) := by decide +kernel
theorem d_LA_reduce_42 : decode b_LA_reduce 42 = .ok (.aload_n 0, 1) := by decide +kernel
theorem d_LA_reduce_43 : decode b_LA_reduce 43 = .ok (.getfield 13, 3) := by decide +kernel
theorem d_LA_reduce_46 : decode b_LA_reduce 46 = .ok (.iload 4, 2) := by decide +kernel
theorem d_LA_reduce_48 : decode b_LA_reduce 48 = .ok (.aaload, 1) := by decide +kernel
theorem d_LA_reduce_49 : decode b_LA_reduce 49 = .ok (.aload_n 1, 1) := by decide +kernel
theorem d_LA_reduce_50 : decode b_LA_reduce 50 = .ok (.iload_n 3, 1) := by decide +kernel
theorem d_LA_reduce_51 : decode b_LA_reduce 51 = .ok (.laload, 1) := by decide +kernel
theorem d_LA_reduce_52 : decode b_LA_reduce 52 = .ok (.aload_n 0, 1) := by decide +kernel
theorem d_LA_reduce_53 : decode b_LA_reduce 53 = .ok (.getfield 13, 3) := by decide +kernel
theorem d_LA_reduce_56 : decode b_LA_reduce 56 = .ok (.iload 4, 2) := by decide +kernel
theorem d_LA_reduce_58 : decode b_LA_reduce 58 = .ok (.aaload, 1) := by decide +kernel
theorem d_LA_reduce_59 : decode b_LA_reduce 59 = .ok (.iload_n 3, 1) := by decide +kernel
theorem d_LA_reduce_60 : decode b_LA_reduce 60 = .ok (.laload, 1) := by decide +kernel
theorem d_LA_reduce_61 : decode b_LA_reduce 61 = .ok (.invokestatic 96, 3) := by decide +kernel
theorem d_LA_reduce_64 : decode b_LA_reduce 64 = .ok (.invokevirtual 92, 3) := by decide +kernel
theorem d_LA_reduce_67 : decode b_LA_reduce 67 = .ok (.iinc 3 1, 3) := by decide +kernel
theorem d_LA_reduce_70 : decode b_LA_reduce 70 = .ok (.goto (-66), 3) := by decide +kernel
theorem d_LA_reduce_73 : decode b_LA_reduce 73 = .ok (.return_, 1) := by decide +kernel
theorem d_LA_takeTimes_0 : decode b_LA_takeTimes 0 = .ok (.lload_n 3, 1) := by decide +kernel
theorem d_LA_takeTimes_1 : decode b_LA_takeTimes 1 = .ok (.lconst 0, 1) := by decide +kernel
theorem d_LA_takeTimes_2 : decode b_LA_takeTimes 2 = .ok (.lcmp, 1) := by decide +kernel
theorem d_LA_takeTimes_3 : decode b_LA_takeTimes 3 = .ok (.ifCond .eq 34, 3) := by decide +kernel
theorem d_LA_takeTimes_6 : decode b_LA_takeTimes 6 = .ok (.iconst 0, 1) := by decide +kernel
theorem d_LA_takeTimes_7 : decode b_LA_takeTimes 7 = .ok (.istore 5, 2) := by decide +kernel
theorem d_LA_takeTimes_9 : decode b_LA_takeTimes 9 = .ok (.iload 5, 2) := by decide +kernel
theorem d_LA_takeTimes_11 : decode b_LA_takeTimes 11 = .ok (.aload_n 0, 1) := by decide +kernel
theorem d_LA_takeTimes_12 : decode b_LA_takeTimes 12 = .ok (.getfield 37, 3) := by decide +kernel
theorem d_LA_takeTimes_15 : decode b_LA_takeTimes 15 = .ok (.if_icmp .ge 22, 3) := by decide +kernel
theorem d_LA_takeTimes_18 : decode b_LA_takeTimes 18 = .ok (.aload_n 1, 1) := by decide +kernel
theorem d_LA_takeTimes_19 : decode b_LA_takeTimes 19 = .ok (.iload 5, 2) := by decide +kernel
theorem d_LA_takeTimes_21 : decode b_LA_takeTimes 21 = .ok (.dup2, 1) := by decide +kernel
theorem d_LA_takeTimes_22 : decode b_LA_takeTimes 22 = .ok (.laload, 1) := by decide +kernel
theorem d_LA_takeTimes_23 : decode b_LA_takeTimes 23 = .ok (.lload_n 3, 1) := by decide +kernel
theorem d_LA_takeTimes_24 : decode b_LA_takeTimes 24 = .ok (.aload_n 2, 1) := by decide +kernel
theorem d_LA_takeTimes_25 : decode b_LA_takeTimes 25 = .ok (.iload 5, 2) := by decide +kernel
theorem d_LA_takeTimes_27 : decode b_LA_takeTimes 27 = .ok (.laload, 1) := by decide +kernel
theorem d_LA_takeTimes_28 : decode b_LA_takeTimes 28 = .ok (.lmul, 1) := by decide +kernel
theorem d_LA_takeTimes_29 : decode b_LA_takeTimes 29 = .ok (.lsub, 1) := by decide +kernel
theorem d_LA_takeTimes_30 : decode b_LA_takeTimes 30 = .ok (.lastore, 1) := by decide +kernel
theorem d_LA_takeTimes_31 : decode b_LA_takeTimes 31 = .ok (.iinc 5 1, 3) := by decide +kernel
theorem d_LA_takeTimes_34 : decode b_LA_takeTimes 34 = .ok (.goto (-25), 3) := by decide +kernel
theorem d_LA_takeTimes_37 : decode b_LA_takeTimes 37 = .ok (.return_, 1) := by decide +kernel
