theorem d_VL_begin_0 : decode b_VL_begin 0 = .ok (.aload_n 0, 1) := by decide +kernel
theorem d_VL_begin_1 : decode b_VL_begin 1 = .ok (.iload_n 1, 1) := by decide +kernel
theorem d_VL_begin_2 : decode b_VL_begin 2 = .ok (.putfield 19, 3) := by decide +kernel
theorem d_VL_begin_5 : decode b_VL_begin 5 = .ok (.aload_n 0, 1) := by decide +kernel
theorem d_VL_begin_6 : decode b_VL_begin 6 = .ok (.iload_n 2, 1) := by decide +kernel
theorem d_VL_begin_7 : decode b_VL_begin 7 = .ok (.putfield 23, 3) := by decide +kernel
theorem d_VL_begin_10 : decode b_VL_begin 10 = .ok (.aload_n 0, 1) := by decide +kernel
theorem d_VL_begin_11 : decode b_VL_begin 11 = .ok (.iconst 0, 1) := by decide +kernel
theorem d_VL_begin_12 : decode b_VL_begin 12 = .ok (.putfield 26, 3) := by decide +kernel
theorem d_VL_begin_15 : decode b_VL_begin 15 = .ok (.aload_n 0, 1) := by decide +kernel
theorem d_VL_begin_16 : decode b_VL_begin 16 = .ok (.iconst 1, 1) := by decide +kernel
theorem d_VL_begin_17 : decode b_VL_begin 17 = .ok (.putfield 15, 3) := by decide +kernel
theorem d_VL_begin_20 : decode b_VL_begin 20 = .ok (.return_, 1) := by decide +kernel
theorem d_VL_beginSize_0 : decode b_VL_beginSize 0 = .ok (.aload_n 0, 1) := by decide +kernel
theorem d_VL_beginSize_1 : decode b_VL_beginSize 1 = .ok (.aload_n 0, 1) := by decide +kernel
theorem d_VL_beginSize_2 : decode b_VL_beginSize 2 = .ok (.getfield 26, 3) := by decide +kernel
theorem d_VL_beginSize_5 : decode b_VL_beginSize 5 = .ok (.putfield 29, 3) := by decide +kernel
theorem d_VL_beginSize_8 : decode b_VL_beginSize 8 = .ok (.return_, 1) := by decide +kernel
theorem d_VL_drop_0 : decode b_VL_drop 0 = .ok (.aload_n 0, 1) := by decide +kernel
theorem d_VL_drop_1 : decode b_VL_drop 1 = .ok (.iconst 0, 1) := by decide +kernel
theorem d_VL_drop_2 : decode b_VL_drop 2 = .ok (.putfield 15, 3) := by decide +kernel
theorem d_VL_drop_5 : decode b_VL_drop 5 = .ok (.return_, 1) := by decide +kernel
theorem d_VL_firstWithin_0 : decode b_VL_firstWithin 0 = .ok (.iconst 0, 1) := by decide +kernel
theorem d_VL_firstWithin_1 : decode b_VL_firstWithin 1 = .ok (.istore_n 2, 1) := by decide +kernel
theorem d_VL_firstWithin_2 : decode b_VL_firstWithin 2 = .ok (.iload_n 2, 1) := by decide +kernel
theorem d_VL_firstWithin_3 : decode b_VL_firstWithin 3 = .ok (.aload_n 0, 1) := by decide +kernel
theorem d_VL_firstWithin_4 : decode b_VL_firstWithin 4 = .ok (.getfield 26, 3) := by decide +kernel
theorem d_VL_firstWithin_7 : decode b_VL_firstWithin 7 = .ok (.if_icmp .ge 20, 3) := by decide +kernel
theorem d_VL_firstWithin_10 : decode b_VL_firstWithin 10 = .ok (.aload_n 0, 1) := by decide +kernel
theorem d_VL_firstWithin_11 : decode b_VL_firstWithin 11 = .ok (.iload_n 2, 1) := by decide +kernel
theorem d_VL_firstWithin_12 : decode b_VL_firstWithin 12 = .ok (.aload_n 1, 1) := by decide +kernel
theorem d_VL_firstWithin_13 : decode b_VL_firstWithin 13 = .ok (.invokevirtual 39, 3) := by decide +kernel
theorem d_VL_firstWithin_16 : decode b_VL_firstWithin 16 = .ok (.ifCond .eq 5, 3) := by decide +kernel
theorem d_VL_firstWithin_19 : decode b_VL_firstWithin 19 = .ok (.iload_n 2, 1) := by decide +kernel
theorem d_VL_firstWithin_20 : decode b_VL_firstWithin 20 = .ok (.ireturn, 1) := by decide +kernel
theorem d_VL_firstWithin_21 : decode b_VL_firstWithin 21 = .ok (.iinc 2 1, 3) := by decide +kernel
theorem d_VL_firstWithin_24 : decode b_VL_firstWithin 24 = .ok (.goto (-22), 3) := by decide +kernel
theorem d_VL_firstWithin_27 : decode b_VL_firstWithin 27 = .ok (.iconst (-1), 1) := by decide +kernel
theorem d_VL_firstWithin_28 : decode b_VL_firstWithin 28 = .ok (.ireturn, 1) := by decide +kernel
theorem d_VL_has_0 : decode b_VL_has 0 = .ok (.aload_n 0, 1) := by decide +kernel
theorem d_VL_has_1 : decode b_VL_has 1 = .ok (.getfield 15, 3) := by decide +kernel
theorem d_VL_has_4 : decode b_VL_has 4 = .ok (.ifCond .eq 19, 3) := by decide +kernel
theorem d_VL_has_7 : decode b_VL_has 7 = .ok (.iload_n 1, 1) := by decide +kernel
theorem d_VL_has_8 : decode b_VL_has 8 = .ok (.ifCond .lt 15, 3) := by decide +kernel
theorem d_VL_has_11 : decode b_VL_has 11 = .ok (.iload_n 1, 1) := by decide +kernel
theorem d_VL_has_12 : decode b_VL_has 12 = .ok (.aload_n 0, 1) := by decide +kernel
theorem d_VL_has_13 : decode b_VL_has 13 = .ok (.getfield 26, 3) := by decide +kernel
theorem d_VL_has_16 : decode b_VL_has 16 = .ok (.if_icmp .ge 7, 3) := by decide +kernel
theorem d_VL_has_19 : decode b_VL_has 19 = .ok (.iconst 1, 1) := by decide +kernel
theorem d_VL_has_20 : decode b_VL_has 20 = .ok (.goto 4, 3) := by decide +kernel
theorem d_VL_has_23 : decode b_VL_has 23 = .ok (.iconst 0, 1) := by decide +kernel
theorem d_VL_has_24 : decode b_VL_has 24 = .ok (.ireturn, 1) := by decide +kernel
theorem d_VL_hasOneWithin_0 : decode b_VL_hasOneWithin 0 = .ok (.iconst 0, 1) := by decide +kernel
theorem d_VL_hasOneWithin_1 : decode b_VL_hasOneWithin 1 = .ok (.istore_n 2, 1) := by decide +kernel
theorem d_VL_hasOneWithin_2 : decode b_VL_hasOneWithin 2 = .ok (.iload_n 2, 1) := by decide +kernel
theorem d_VL_hasOneWithin_3 : decode b_VL_hasOneWithin 3 = .ok (.aload_n 0, 1) := by decide +kernel
theorem d_VL_hasOneWithin_4 : decode b_VL_hasOneWithin 4 = .ok (.getfield 29, 3) := by decide +kernel
theorem d_VL_hasOneWithin_7 : decode b_VL_hasOneWithin 7 = .ok (.if_icmp .ge 20, 3) := by decide +kernel
theorem d_VL_hasOneWithin_10 : decode b_VL_hasOneWithin 10 = .ok (.aload_n 0, 1) := by decide +kernel
theorem d_VL_hasOneWithin_11 : decode b_VL_hasOneWithin 11 = .ok (.iload_n 2, 1) := by decide +kernel
theorem d_VL_hasOneWithin_12 : decode b_VL_hasOneWithin 12 = .ok (.aload_n 1, 1) := by decide +kernel
theorem d_VL_hasOneWithin_13 : decode b_VL_hasOneWithin 13 = .ok (.invokevirtual 39, 3) := by decide +kernel
theorem d_VL_hasOneWithin_16 : decode b_VL_hasOneWithin 16 = .ok (.ifCond .eq 5, 3) := by decide +kernel
theorem d_VL_hasOneWithin_19 : decode b_VL_hasOneWithin 19 = .ok (.iconst 1, 1) := by decide +kernel
theorem d_VL_hasOneWithin_20 : decode b_VL_hasOneWithin 20 = .ok (.ireturn, 1) := by decide +kernel
theorem d_VL_hasOneWithin_21 : decode b_VL_hasOneWithin 21 = .ok (.iinc 2 1, 3) := by decide +kernel
theorem d_VL_hasOneWithin_24 : decode b_VL_hasOneWithin 24 = .ok (.goto (-22), 3) := by decide +kernel
theorem d_VL_hasOneWithin_27 : decode b_VL_hasOneWithin 27 = .ok (.iconst 0, 1) := by decide +kernel
theorem d_VL_hasOneWithin_28 : decode b_VL_hasOneWithin 28 = .ok (.ireturn, 1) := by decide +kernel
theorem d_VL_isWithin_0 : decode b_VL_isWithin 0 = .ok (.iload_n 1, 1) := by decide +kernel
theorem d_VL_isWithin_1 : decode b_VL_isWithin 1 = .ok (.bipush 6, 2) := by decide +kernel
theorem d_VL_isWithin_3 : decode b_VL_isWithin 3 = .ok (.imul, 1) := by decide +kernel
theorem d_VL_isWithin_4 : decode b_VL_isWithin 4 = .ok (.istore_n 3, 1) := by decide +kernel
theorem d_VL_isWithin_5 : decode b_VL_isWithin 5 = .ok (.iconst 0, 1) := by decide +kernel
theorem d_VL_isWithin_6 : decode b_VL_isWithin 6 = .ok (.istore 4, 2) := by decide +kernel
theorem d_VL_isWithin_8 : decode b_VL_isWithin 8 = .ok (.iload 4, 2) := by decide +kernel
theorem d_VL_isWithin_10 : decode b_VL_isWithin 10 = .ok (.aload_n 0, 1) := by decide +kernel
theorem d_VL_isWithin_11 : decode b_VL_isWithin 11 = .ok (.getfield 19, 3) := by decide +kernel
theorem d_VL_isWithin_14 : decode b_VL_isWithin 14 = .ok (.if_icmp .ge 60, 3) := by decide +kernel
theorem d_VL_isWithin_17 : decode b_VL_isWithin 17 = .ok (.aload_n 0, 1) := by decide +kernel
theorem d_VL_isWithin_18 : decode b_VL_isWithin 18 = .ok (.getfield 9, 3) := by decide +kernel
theorem d_VL_isWithin_21 : decode b_VL_isWithin 21 = .ok (.iload_n 3, 1) := by decide +kernel
theorem d_VL_isWithin_22 : decode b_VL_isWithin 22 = .ok (.iload 4, 2) := by decide +kernel
theorem d_VL_isWithin_24 : decode b_VL_isWithin 24 = .ok (.iadd, 1) := by decide +kernel
theorem d_VL_isWithin_25 : decode b_VL_isWithin 25 = .ok (.baload, 1) := by decide +kernel
theorem d_VL_isWithin_26 : decode b_VL_isWithin 26 = .ok (.istore 5, 2) := by decide +kernel
theorem d_VL_isWithin_28 : decode b_VL_isWithin 28 = .ok (.aload_n 2, 1) := by decide +kernel
theorem d_VL_isWithin_29 : decode b_VL_isWithin 29 = .ok (.iload 4, 2) := by decide +kernel
theorem d_VL_isWithin_31 : decode b_VL_isWithin 31 = .ok (.iaload, 1) := by decide +kernel
theorem d_VL_isWithin_32 : decode b_VL_isWithin 32 = .ok (.istore 6, 2) := by decide +kernel
theorem d_VL_isWithin_34 : decode b_VL_isWithin 34 = .ok (.iload 6, 2) := by decide +kernel
theorem d_VL_isWithin_36 : decode b_VL_isWithin 36 = .ok (.ifCond .lt 18, 3) := by decide +kernel
theorem d_VL_isWithin_39 : decode b_VL_isWithin 39 = .ok (.iload 5, 2) := by decide +kernel
theorem d_VL_isWithin_41 : decode b_VL_isWithin 41 = .ok (.ifCond .lt 25, 3) := by decide +kernel
theorem d_VL_isWithin_44 : decode b_VL_isWithin 44 = .ok (.iload 5, 2) := by decide +kernel
theorem d_VL_isWithin_46 : decode b_VL_isWithin 46 = .ok (.iload 6, 2) := by decide +kernel
theorem d_VL_isWithin_48 : decode b_VL_isWithin 48 = .ok (.if_icmp .le 20, 3) := by decide +kernel
theorem d_VL_isWithin_51 : decode b_VL_isWithin 51 = .ok (.goto 15, 3) := by decide +kernel
theorem d_VL_isWithin_54 : decode b_VL_isWithin 54 = .ok (.iload 5, 2) := by decide +kernel
theorem d_VL_isWithin_56 : decode b_VL_isWithin 56 = .ok (.ifCond .gt 10, 3) := by decide +kernel
theorem d_VL_isWithin_59 : decode b_VL_isWithin 59 = .ok (.iload 5, 2) := by decide +kernel
theorem d_VL_isWithin_61 : decode b_VL_isWithin 61 = .ok (.iload 6, 2) := by decide +kernel
theorem d_VL_isWithin_63 : decode b_VL_isWithin 63 = .ok (.if_icmp .ge 5, 3) := by decide +kernel
theorem d_VL_isWithin_66 : decode b_VL_isWithin 66 = .ok (.iconst 0, 1) := by decide +kernel
theorem d_VL_isWithin_67 : decode b_VL_isWithin 67 = .ok (.ireturn, 1) := by decide +kernel
theorem d_VL_isWithin_68 : decode b_VL_isWithin 68 = .ok (.iinc 4 1, 3) := by decide +kernel
theorem d_VL_isWithin_71 : decode b_VL_isWithin 71 = .ok (.goto (-63), 3) := by decide +kernel
theorem d_VL_isWithin_74 : decode b_VL_isWithin 74 = .ok (.iconst 1, 1) := by decide +kernel
theorem d_VL_isWithin_75 : decode b_VL_isWithin 75 = .ok (.ireturn, 1) := by decide +kernel
theorem d_VL_numberOf_0 : decode b_VL_numberOf 0 = .ok (.aload_n 0, 1) := by decide +kernel
theorem d_VL_numberOf_1 : decode b_VL_numberOf 1 = .ok (.getfield 9, 3) := by decide +kernel
theorem d_VL_numberOf_4 : decode b_VL_numberOf 4 = .ok (.iload_n 1, 1) := by decide +kernel
theorem d_VL_numberOf_5 : decode b_VL_numberOf 5 = .ok (.bipush 6, 2) := by decide +kernel
theorem d_VL_numberOf_7 : decode b_VL_numberOf 7 = .ok (.imul, 1) := by decide +kernel
theorem d_VL_numberOf_8 : decode b_VL_numberOf 8 = .ok (.iload_n 2, 1) := by decide +kernel
theorem d_VL_numberOf_9 : decode b_VL_numberOf 9 = .ok (.iadd, 1) := by decide +kernel
theorem d_VL_numberOf_10 : decode b_VL_numberOf 10 = .ok (.baload, 1) := by decide +kernel
theorem d_VL_numberOf_11 : decode b_VL_numberOf 11 = .ok (.ireturn, 1) := by decide +kernel
theorem d_VL_take_0 : decode b_VL_take 0 = .ok (.aload_n 0, 1) := by decide +kernel
theorem d_VL_take_1 : decode b_VL_take 1 = .ok (.aload_n 1, 1) := by decide +kernel
theorem d_VL_take_2 : decode b_VL_take 2 = .ok (.invokevirtual 32, 3) := by decide +kernel
theorem d_VL_take_5 : decode b_VL_take 5 = .ok (.ifCond .eq 5, 3) := by decide +kernel
theorem d_VL_take_8 : decode b_VL_take 8 = .ok (.iconst 1, 1) := by decide +kernel
theorem d_VL_take_9 : decode b_VL_take 9 = .ok (.ireturn, 1) := by decide +kernel
theorem d_VL_take_10 : decode b_VL_take 10 = .ok (.aload_n 0, 1) := by decide +kernel
theorem d_VL_take_11 : decode b_VL_take 11 = .ok (.getfield 26, 3) := by decide +kernel
theorem d_VL_take_14 : decode b_VL_take 14 = .ok (.sipush 2000, 3) := by decide +kernel
theorem d_VL_take_17 : decode b_VL_take 17 = .ok (.if_icmp .lt 9, 3) := by decide +kernel
theorem d_VL_take_20 : decode b_VL_take 20 = .ok (.aload_n 0, 1) := by decide +kernel
theorem d_VL_take_21 : decode b_VL_take 21 = .ok (.invokevirtual 36, 3) := by decide +kernel
theorem d_VL_take_24 : decode b_VL_take 24 = .ok (.iconst 0, 1) := by decide +kernel
theorem d_VL_take_25 : decode b_VL_take 25 = .ok (.ireturn, 1) := by decide +kernel
theorem d_VL_take_26 : decode b_VL_take 26 = .ok (.iconst 0, 1) := by decide +kernel
theorem d_VL_take_27 : decode b_VL_take 27 = .ok (.istore_n 2, 1) := by decide +kernel
theorem d_VL_take_28 : decode b_VL_take 28 = .ok (.iload_n 2, 1) := by decide +kernel
theorem d_VL_take_29 : decode b_VL_take 29 = .ok (.aload_n 0, 1) := by decide +kernel
theorem d_VL_take_30 : decode b_VL_take 30 = .ok (.getfield 19, 3) := by decide +kernel
theorem d_VL_take_33 : decode b_VL_take 33 = .ok (.if_icmp .ge 27, 3) := by decide +kernel
theorem d_VL_take_36 : decode b_VL_take 36 = .ok (.aload_n 0, 1) := by decide +kernel
theorem d_VL_take_37 : decode b_VL_take 37 = .ok (.getfield 9, 3) := by decide +kernel
theorem d_VL_take_40 : decode b_VL_take 40 = .ok (.aload_n 0, 1) := by decide +kernel
theorem d_VL_take_41 : decode b_VL_take 41 = .ok (.getfield 26, 3) := by decide +kernel
theorem d_VL_take_44 : decode b_VL_take 44 = .ok (.bipush 6, 2) := by decide +kernel
theorem d_VL_take_46 : decode b_VL_take 46 = .ok (.imul, 1) := by decide +kernel
theorem d_VL_take_47 : decode b_VL_take 47 = .ok (.iload_n 2, 1) := by decide +kernel
theorem d_VL_take_48 : decode b_VL_take 48 = .ok (.iadd, 1) := by decide +kernel
theorem d_VL_take_49 : decode b_VL_take 49 = .ok (.aload_n 1, 1) := by decide +kernel
theorem d_VL_take_50 : decode b_VL_take 50 = .ok (.iload_n 2, 1) := by decide +kernel
theorem d_VL_take_51 : decode b_VL_take 51 = .ok (.iaload, 1) := by decide +kernel
theorem d_VL_take_52 : decode b_VL_take 52 = .ok (.i2b, 1) := by decide +kernel
