theorem d_CH_begin_0 : decode b_CH_begin 0 = .ok (.aload_n 0, 1) := by decide +kernel
theorem d_CH_begin_1 : decode b_CH_begin 1 = .ok (.iload_n 1, 1) := by decide +kernel
theorem d_CH_begin_2 : decode b_CH_begin 2 = .ok (.putfield 18, 3) := by decide +kernel
theorem d_CH_begin_5 : decode b_CH_begin 5 = .ok (.aload_n 0, 1) := by decide +kernel
theorem d_CH_begin_6 : decode b_CH_begin 6 = .ok (.iconst 0, 1) := by decide +kernel
theorem d_CH_begin_7 : decode b_CH_begin 7 = .ok (.putfield 25, 3) := by decide +kernel
theorem d_CH_begin_10 : decode b_CH_begin 10 = .ok (.return_, 1) := by decide +kernel
theorem d_CH_beginSize_0 : decode b_CH_beginSize 0 = .ok (.return_, 1) := by decide +kernel
theorem d_CH_isBefore_0 : decode b_CH_isBefore 0 = .ok (.iconst 0, 1) := by decide +kernel
theorem d_CH_isBefore_1 : decode b_CH_isBefore 1 = .ok (.istore_n 2, 1) := by decide +kernel
theorem d_CH_isBefore_2 : decode b_CH_isBefore 2 = .ok (.iload_n 2, 1) := by decide +kernel
theorem d_CH_isBefore_3 : decode b_CH_isBefore 3 = .ok (.aload_n 0, 1) := by decide +kernel
theorem d_CH_isBefore_4 : decode b_CH_isBefore 4 = .ok (.getfield 18, 3) := by decide +kernel
theorem d_CH_isBefore_7 : decode b_CH_isBefore 7 = .ok (.if_icmp .ge 39, 3) := by decide +kernel
theorem d_CH_isBefore_10 : decode b_CH_isBefore 10 = .ok (.aload_n 1, 1) := by decide +kernel
theorem d_CH_isBefore_11 : decode b_CH_isBefore 11 = .ok (.iload_n 2, 1) := by decide +kernel
theorem d_CH_isBefore_12 : decode b_CH_isBefore 12 = .ok (.iaload, 1) := by decide +kernel
theorem d_CH_isBefore_13 : decode b_CH_isBefore 13 = .ok (.aload_n 0, 1) := by decide +kernel
theorem d_CH_isBefore_14 : decode b_CH_isBefore 14 = .ok (.getfield 9, 3) := by decide +kernel
theorem d_CH_isBefore_17 : decode b_CH_isBefore 17 = .ok (.iload_n 2, 1) := by decide +kernel
theorem d_CH_isBefore_18 : decode b_CH_isBefore 18 = .ok (.iaload, 1) := by decide +kernel
theorem d_CH_isBefore_19 : decode b_CH_isBefore 19 = .ok (.if_icmp .eq 21, 3) := by decide +kernel
theorem d_CH_isBefore_22 : decode b_CH_isBefore 22 = .ok (.aload_n 1, 1) := by decide +kernel
theorem d_CH_isBefore_23 : decode b_CH_isBefore 23 = .ok (.iload_n 2, 1) := by decide +kernel
theorem d_CH_isBefore_24 : decode b_CH_isBefore 24 = .ok (.iaload, 1) := by decide +kernel
theorem d_CH_isBefore_25 : decode b_CH_isBefore 25 = .ok (.aload_n 0, 1) := by decide +kernel
theorem d_CH_isBefore_26 : decode b_CH_isBefore 26 = .ok (.getfield 9, 3) := by decide +kernel
theorem d_CH_isBefore_29 : decode b_CH_isBefore 29 = .ok (.iload_n 2, 1) := by decide +kernel
theorem d_CH_isBefore_30 : decode b_CH_isBefore 30 = .ok (.iaload, 1) := by decide +kernel
theorem d_CH_isBefore_31 : decode b_CH_isBefore 31 = .ok (.if_icmp .ge 7, 3) := by decide +kernel
theorem d_CH_isBefore_34 : decode b_CH_isBefore 34 = .ok (.iconst 1, 1) := by decide +kernel
theorem d_CH_isBefore_35 : decode b_CH_isBefore 35 = .ok (.goto 4, 3) := by decide +kernel
theorem d_CH_isBefore_38 : decode b_CH_isBefore 38 = .ok (.iconst 0, 1) := by decide +kernel
theorem d_CH_isBefore_39 : decode b_CH_isBefore 39 = .ok (.ireturn, 1) := by decide +kernel
theorem d_CH_isBefore_40 : decode b_CH_isBefore 40 = .ok (.iinc 2 1, 3) := by decide +kernel
theorem d_CH_isBefore_43 : decode b_CH_isBefore 43 = .ok (.goto (-41), 3) := by decide +kernel
theorem d_CH_isBefore_46 : decode b_CH_isBefore 46 = .ok (.iconst 0, 1) := by decide +kernel
theorem d_CH_isBefore_47 : decode b_CH_isBefore 47 = .ok (.ireturn, 1) := by decide +kernel
theorem d_CH_priceOf_0 : decode b_CH_priceOf 0 = .ok (.iconst 0, 1) := by decide +kernel
theorem d_CH_priceOf_1 : decode b_CH_priceOf 1 = .ok (.istore_n 2, 1) := by decide +kernel
theorem d_CH_priceOf_2 : decode b_CH_priceOf 2 = .ok (.iconst 0, 1) := by decide +kernel
theorem d_CH_priceOf_3 : decode b_CH_priceOf 3 = .ok (.istore_n 3, 1) := by decide +kernel
theorem d_CH_priceOf_4 : decode b_CH_priceOf 4 = .ok (.iload_n 3, 1) := by decide +kernel
theorem d_CH_priceOf_5 : decode b_CH_priceOf 5 = .ok (.aload_n 0, 1) := by decide +kernel
theorem d_CH_priceOf_6 : decode b_CH_priceOf 6 = .ok (.getfield 18, 3) := by decide +kernel
theorem d_CH_priceOf_9 : decode b_CH_priceOf 9 = .ok (.if_icmp .ge 22, 3) := by decide +kernel
theorem d_CH_priceOf_12 : decode b_CH_priceOf 12 = .ok (.iload_n 2, 1) := by decide +kernel
theorem d_CH_priceOf_13 : decode b_CH_priceOf 13 = .ok (.aload_n 0, 1) := by decide +kernel
theorem d_CH_priceOf_14 : decode b_CH_priceOf 14 = .ok (.getfield 15, 3) := by decide +kernel
theorem d_CH_priceOf_17 : decode b_CH_priceOf 17 = .ok (.iload_n 3, 1) := by decide +kernel
theorem d_CH_priceOf_18 : decode b_CH_priceOf 18 = .ok (.iaload, 1) := by decide +kernel
theorem d_CH_priceOf_19 : decode b_CH_priceOf 19 = .ok (.aload_n 1, 1) := by decide +kernel
theorem d_CH_priceOf_20 : decode b_CH_priceOf 20 = .ok (.iload_n 3, 1) := by decide +kernel
theorem d_CH_priceOf_21 : decode b_CH_priceOf 21 = .ok (.iaload, 1) := by decide +kernel
theorem d_CH_priceOf_22 : decode b_CH_priceOf 22 = .ok (.imul, 1) := by decide +kernel
theorem d_CH_priceOf_23 : decode b_CH_priceOf 23 = .ok (.iadd, 1) := by decide +kernel
theorem d_CH_priceOf_24 : decode b_CH_priceOf 24 = .ok (.istore_n 2, 1) := by decide +kernel
theorem d_CH_priceOf_25 : decode b_CH_priceOf 25 = .ok (.iinc 3 1, 3) := by decide +kernel
theorem d_CH_priceOf_28 : decode b_CH_priceOf 28 = .ok (.goto (-24), 3) := by decide +kernel
theorem d_CH_priceOf_31 : decode b_CH_priceOf 31 = .ok (.iload_n 2, 1) := by decide +kernel
theorem d_CH_priceOf_32 : decode b_CH_priceOf 32 = .ok (.ireturn, 1) := by decide +kernel
theorem d_CH_take_0 : decode b_CH_take 0 = .ok (.aload_n 0, 1) := by decide +kernel
theorem d_CH_take_1 : decode b_CH_take 1 = .ok (.aload_n 1, 1) := by decide +kernel
theorem d_CH_take_2 : decode b_CH_take 2 = .ok (.invokevirtual 29, 3) := by decide +kernel
theorem d_CH_take_5 : decode b_CH_take 5 = .ok (.istore_n 2, 1) := by decide +kernel
theorem d_CH_take_6 : decode b_CH_take 6 = .ok (.aload_n 0, 1) := by decide +kernel
theorem d_CH_take_7 : decode b_CH_take 7 = .ok (.getfield 25, 3) := by decide +kernel
theorem d_CH_take_10 : decode b_CH_take 10 = .ok (.ifCond .eq 27, 3) := by decide +kernel
theorem d_CH_take_13 : decode b_CH_take 13 = .ok (.iload_n 2, 1) := by decide +kernel
theorem d_CH_take_14 : decode b_CH_take 14 = .ok (.aload_n 0, 1) := by decide +kernel
theorem d_CH_take_15 : decode b_CH_take 15 = .ok (.getfield 22, 3) := by decide +kernel
theorem d_CH_take_18 : decode b_CH_take 18 = .ok (.if_icmp .lt 19, 3) := by decide +kernel
theorem d_CH_take_21 : decode b_CH_take 21 = .ok (.iload_n 2, 1) := by decide +kernel
theorem d_CH_take_22 : decode b_CH_take 22 = .ok (.aload_n 0, 1) := by decide +kernel
theorem d_CH_take_23 : decode b_CH_take 23 = .ok (.getfield 22, 3) := by decide +kernel
theorem d_CH_take_26 : decode b_CH_take 26 = .ok (.if_icmp .ne 33, 3) := by decide +kernel
theorem d_CH_take_29 : decode b_CH_take 29 = .ok (.aload_n 0, 1) := by decide +kernel
theorem d_CH_take_30 : decode b_CH_take 30 = .ok (.aload_n 1, 1) := by decide +kernel
theorem d_CH_take_31 : decode b_CH_take 31 = .ok (.invokevirtual 33, 3) := by decide +kernel
theorem d_CH_take_34 : decode b_CH_take 34 = .ok (.ifCond .eq 25, 3) := by decide +kernel
theorem d_CH_take_37 : decode b_CH_take 37 = .ok (.aload_n 1, 1) := by decide +kernel
theorem d_CH_take_38 : decode b_CH_take 38 = .ok (.iconst 0, 1) := by decide +kernel
theorem d_CH_take_39 : decode b_CH_take 39 = .ok (.aload_n 0, 1) := by decide +kernel
theorem d_CH_take_40 : decode b_CH_take 40 = .ok (.getfield 9, 3) := by decide +kernel
theorem d_CH_take_43 : decode b_CH_take 43 = .ok (.iconst 0, 1) := by decide +kernel
theorem d_CH_take_44 : decode b_CH_take 44 = .ok (.bipush 6, 2) := by decide +kernel
theorem d_CH_take_46 : decode b_CH_take 46 = .ok (.invokestatic 37, 3) := by decide +kernel
theorem d_CH_take_49 : decode b_CH_take 49 = .ok (.aload_n 0, 1) := by decide +kernel
theorem d_CH_take_50 : decode b_CH_take 50 = .ok (.iload_n 2, 1) := by decide +kernel
theorem d_CH_take_51 : decode b_CH_take 51 = .ok (.putfield 22, 3) := by decide +kernel
theorem d_CH_take_54 : decode b_CH_take 54 = .ok (.aload_n 0, 1) := by decide +kernel
theorem d_CH_take_55 : decode b_CH_take 55 = .ok (.iconst 1, 1) := by decide +kernel
theorem d_CH_take_56 : decode b_CH_take 56 = .ok (.putfield 25, 3) := by decide +kernel
theorem d_CH_take_59 : decode b_CH_take 59 = .ok (.iconst 1, 1) := by decide +kernel
theorem d_CH_take_60 : decode b_CH_take 60 = .ok (.ireturn, 1) := by decide +kernel
