theorem d_LA_joinFresh_0 : decode b_LA_joinFresh 0 = .ok (.iconst 0, 1) := by decide +kernel
theorem d_LA_joinFresh_1 : decode b_LA_joinFresh 1 = .ok (.istore_n 3, 1) := by decide +kernel
theorem d_LA_joinFresh_2 : decode b_LA_joinFresh 2 = .ok (.iload_n 3, 1) := by decide +kernel
theorem d_LA_joinFresh_3 : decode b_LA_joinFresh 3 = .ok (.bipush 100, 2) := by decide +kernel
theorem d_LA_joinFresh_5 : decode b_LA_joinFresh 5 = .ok (.if_icmp .ge 54, 3) := by decide +kernel
theorem d_LA_joinFresh_8 : decode b_LA_joinFresh 8 = .ok (.aload_n 0, 1) := by decide +kernel
theorem d_LA_joinFresh_9 : decode b_LA_joinFresh 9 = .ok (.getfield 27, 3) := by decide +kernel
theorem d_LA_joinFresh_12 : decode b_LA_joinFresh 12 = .ok (.iload_n 2, 1) := by decide +kernel
theorem d_LA_joinFresh_13 : decode b_LA_joinFresh 13 = .ok (.laload, 1) := by decide +kernel
theorem d_LA_joinFresh_14 : decode b_LA_joinFresh 14 = .ok (.lconst 0, 1) := by decide +kernel
theorem d_LA_joinFresh_15 : decode b_LA_joinFresh 15 = .ok (.lcmp, 1) := by decide +kernel
theorem d_LA_joinFresh_16 : decode b_LA_joinFresh 16 = .ok (.ifCond .eq 43, 3) := by decide +kernel
theorem d_LA_joinFresh_19 : decode b_LA_joinFresh 19 = .ok (.aload_n 0, 1) := by decide +kernel
theorem d_LA_joinFresh_20 : decode b_LA_joinFresh 20 = .ok (.aload_n 0, 1) := by decide +kernel
theorem d_LA_joinFresh_21 : decode b_LA_joinFresh 21 = .ok (.getfield 13, 3) := by decide +kernel
theorem d_LA_joinFresh_24 : decode b_LA_joinFresh 24 = .ok (.iload_n 1, 1) := by decide +kernel
theorem d_LA_joinFresh_25 : decode b_LA_joinFresh 25 = .ok (.aaload, 1) := by decide +kernel
theorem d_LA_joinFresh_26 : decode b_LA_joinFresh 26 = .ok (.aload_n 0, 1) := by decide +kernel
theorem d_LA_joinFresh_27 : decode b_LA_joinFresh 27 = .ok (.getfield 27, 3) := by decide +kernel
theorem d_LA_joinFresh_30 : decode b_LA_joinFresh 30 = .ok (.aload_n 0, 1) := by decide +kernel
theorem d_LA_joinFresh_31 : decode b_LA_joinFresh 31 = .ok (.getfield 13, 3) := by decide +kernel
theorem d_LA_joinFresh_34 : decode b_LA_joinFresh 34 = .ok (.iload_n 1, 1) := by decide +kernel
theorem d_LA_joinFresh_35 : decode b_LA_joinFresh 35 = .ok (.aaload, 1) := by decide +kernel
theorem d_LA_joinFresh_36 : decode b_LA_joinFresh 36 = .ok (.iload_n 2, 1) := by decide +kernel
theorem d_LA_joinFresh_37 : decode b_LA_joinFresh 37 = .ok (.laload, 1) := by decide +kernel
theorem d_LA_joinFresh_38 : decode b_LA_joinFresh 38 = .ok (.aload_n 0, 1) := by decide +kernel
theorem d_LA_joinFresh_39 : decode b_LA_joinFresh 39 = .ok (.getfield 27, 3) := by decide +kernel
theorem d_LA_joinFresh_42 : decode b_LA_joinFresh 42 = .ok (.iload_n 2, 1) := by decide +kernel
theorem d_LA_joinFresh_43 : decode b_LA_joinFresh 43 = .ok (.laload, 1) := by decide +kernel
theorem d_LA_joinFresh_44 : decode b_LA_joinFresh 44 = .ok (.ldiv, 1) := by decide +kernel
theorem d_LA_joinFresh_45 : decode b_LA_joinFresh 45 = .ok (.invokevirtual 92, 3) := by decide +kernel
theorem d_LA_joinFresh_48 : decode b_LA_joinFresh 48 = .ok (.aload_n 0, 1) := by decide +kernel
theorem d_LA_joinFresh_49 : decode b_LA_joinFresh 49 = .ok (.iload_n 1, 1) := by decide +kernel
theorem d_LA_joinFresh_50 : decode b_LA_joinFresh 50 = .ok (.invokevirtual 89, 3) := by decide +kernel
theorem d_LA_joinFresh_53 : decode b_LA_joinFresh 53 = .ok (.iinc 3 1, 3) := by decide +kernel
theorem d_LA_joinFresh_56 : decode b_LA_joinFresh 56 = .ok (.goto (-54), 3) := by decide +kernel
theorem d_LA_joinFresh_59 : decode b_LA_joinFresh 59 = .ok (.return_, 1) := by decide +kernel
theorem d_LA_makeLeadPositive_0 : decode b_LA_makeLeadPositive 0 = .ok (.aload_n 0, 1) := by decide +kernel
theorem d_LA_makeLeadPositive_1 : decode b_LA_makeLeadPositive 1 = .ok (.getfield 13, 3) := by decide +kernel
theorem d_LA_makeLeadPositive_4 : decode b_LA_makeLeadPositive 4 = .ok (.iload_n 1, 1) := by decide +kernel
theorem d_LA_makeLeadPositive_5 : decode b_LA_makeLeadPositive 5 = .ok (.aaload, 1) := by decide +kernel
theorem d_LA_makeLeadPositive_6 : decode b_LA_makeLeadPositive 6 = .ok (.iload_n 2, 1) := by decide +kernel
theorem d_LA_makeLeadPositive_7 : decode b_LA_makeLeadPositive 7 = .ok (.laload, 1) := by decide +kernel
theorem d_LA_makeLeadPositive_8 : decode b_LA_makeLeadPositive 8 = .ok (.lconst 0, 1) := by decide +kernel
theorem d_LA_makeLeadPositive_9 : decode b_LA_makeLeadPositive 9 = .ok (.lcmp, 1) := by decide +kernel
theorem d_LA_makeLeadPositive_10 : decode b_LA_makeLeadPositive 10 = .ok (.ifCond .ge 36, 3) := by decide +kernel
theorem d_LA_makeLeadPositive_13 : decode b_LA_makeLeadPositive 13 = .ok (.iconst 0, 1) := by decide +kernel
theorem d_LA_makeLeadPositive_14 : decode b_LA_makeLeadPositive 14 = .ok (.istore_n 3, 1) := by decide +kernel
theorem d_LA_makeLeadPositive_15 : decode b_LA_makeLeadPositive 15 = .ok (.iload_n 3, 1) := by decide +kernel
theorem d_LA_makeLeadPositive_16 : decode b_LA_makeLeadPositive 16 = .ok (.aload_n 0, 1) := by decide +kernel
theorem d_LA_makeLeadPositive_17 : decode b_LA_makeLeadPositive 17 = .ok (.getfield 37, 3) := by decide +kernel
theorem d_LA_makeLeadPositive_20 : decode b_LA_makeLeadPositive 20 = .ok (.if_icmp .ge 26, 3) := by decide +kernel
theorem d_LA_makeLeadPositive_23 : decode b_LA_makeLeadPositive 23 = .ok (.aload_n 0, 1) := by decide +kernel
theorem d_LA_makeLeadPositive_24 : decode b_LA_makeLeadPositive 24 = .ok (.getfield 13, 3) := by decide +kernel
theorem d_LA_makeLeadPositive_27 : decode b_LA_makeLeadPositive 27 = .ok (.iload_n 1, 1) := by decide +kernel
theorem d_LA_makeLeadPositive_28 : decode b_LA_makeLeadPositive 28 = .ok (.aaload, 1) := by decide +kernel
theorem d_LA_makeLeadPositive_29 : decode b_LA_makeLeadPositive 29 = .ok (.iload_n 3, 1) := by decide +kernel
theorem d_LA_makeLeadPositive_30 : decode b_LA_makeLeadPositive 30 = .ok (.aload_n 0, 1) := by decide +kernel
theorem d_LA_makeLeadPositive_31 : decode b_LA_makeLeadPositive 31 = .ok (.getfield 13, 3) := by decide +kernel
theorem d_LA_makeLeadPositive_34 : decode b_LA_makeLeadPositive 34 = .ok (.iload_n 1, 1) := by decide +kernel
theorem d_LA_makeLeadPositive_35 : decode b_LA_makeLeadPositive 35 = .ok (.aaload, 1) := by decide +kernel
theorem d_LA_makeLeadPositive_36 : decode b_LA_makeLeadPositive 36 = .ok (.iload_n 3, 1) := by decide +kernel
theorem d_LA_makeLeadPositive_37 : decode b_LA_makeLeadPositive 37 = .ok (.laload, 1) := by decide +kernel
theorem d_LA_makeLeadPositive_38 : decode b_LA_makeLeadPositive 38 = .ok (.lneg, 1) := by decide +kernel
theorem d_LA_makeLeadPositive_39 : decode b_LA_makeLeadPositive 39 = .ok (.lastore, 1) := by decide +kernel
theorem d_LA_makeLeadPositive_40 : decode b_LA_makeLeadPositive 40 = .ok (.iinc 3 1, 3) := by decide +kernel
theorem d_LA_makeLeadPositive_43 : decode b_LA_makeLeadPositive 43 = .ok (.goto (-28), 3) := by decide +kernel
theorem d_LA_makeLeadPositive_46 : decode b_LA_makeLeadPositive 46 = .ok (.return_, 1) := by decide +kernel
theorem d_LA_placeFresh_0 : decode b_LA_placeFresh 0 = .ok (.aload_n 0, 1) := by decide +kernel
theorem d_LA_placeFresh_1 : decode b_LA_placeFresh 1 = .ok (.aload_n 0, 1) := by decide +kernel
theorem d_LA_placeFresh_2 : decode b_LA_placeFresh 2 = .ok (.getfield 40, 3) := by decide +kernel
theorem d_LA_placeFresh_5 : decode b_LA_placeFresh 5 = .ok (.invokevirtual 89, 3) := by decide +kernel
theorem d_LA_placeFresh_8 : decode b_LA_placeFresh 8 = .ok (.aload_n 0, 1) := by decide +kernel
theorem d_LA_placeFresh_9 : decode b_LA_placeFresh 9 = .ok (.aload_n 0, 1) := by decide +kernel
theorem d_LA_placeFresh_10 : decode b_LA_placeFresh 10 = .ok (.getfield 40, 3) := by decide +kernel
theorem d_LA_placeFresh_13 : decode b_LA_placeFresh 13 = .ok (.iload_n 1, 1) := by decide +kernel
theorem d_LA_placeFresh_14 : decode b_LA_placeFresh 14 = .ok (.invokevirtual 82, 3) := by decide +kernel
theorem d_LA_placeFresh_17 : decode b_LA_placeFresh 17 = .ok (.aload_n 0, 1) := by decide +kernel
theorem d_LA_placeFresh_18 : decode b_LA_placeFresh 18 = .ok (.getfield 16, 3) := by decide +kernel
theorem d_LA_placeFresh_21 : decode b_LA_placeFresh 21 = .ok (.iload_n 1, 1) := by decide +kernel
theorem d_LA_placeFresh_22 : decode b_LA_placeFresh 22 = .ok (.aload_n 0, 1) := by decide +kernel
theorem d_LA_placeFresh_23 : decode b_LA_placeFresh 23 = .ok (.getfield 40, 3) := by decide +kernel
theorem d_LA_placeFresh_26 : decode b_LA_placeFresh 26 = .ok (.iastore, 1) := by decide +kernel
theorem d_LA_placeFresh_27 : decode b_LA_placeFresh 27 = .ok (.aload_n 0, 1) := by decide +kernel
theorem d_LA_placeFresh_28 : decode b_LA_placeFresh 28 = .ok (.dup, 1) := by decide +kernel
theorem d_LA_placeFresh_29 : decode b_LA_placeFresh 29 = .ok (.getfield 40, 3) := by decide +kernel
theorem d_LA_placeFresh_32 : decode b_LA_placeFresh 32 = .ok (.iconst 1, 1) := by decide +kernel
theorem d_LA_placeFresh_33 : decode b_LA_placeFresh 33 = .ok (.iadd, 1) := by decide +kernel
theorem d_LA_placeFresh_34 : decode b_LA_placeFresh 34 = .ok (.putfield 40, 3) := by decide +kernel
theorem d_LA_placeFresh_37 : decode b_LA_placeFresh 37 = .ok (.return_, 1) := by decide +kernel
theorem d_LA_reduceAll_0 : decode b_LA_reduceAll 0 = .ok (.aload_n 0, 1) := by decide +kernel
theorem d_LA_reduceAll_1 : decode b_LA_reduceAll 1 = .ok (.getfield 37, 3) := by decide +kernel
theorem d_LA_reduceAll_4 : decode b_LA_reduceAll 4 = .ok (.iconst 1, 1) := by decide +kernel
theorem d_LA_reduceAll_5 : decode b_LA_reduceAll 5 = .ok (.isub, 1) := by decide +kernel
theorem d_LA_reduceAll_6 : decode b_LA_reduceAll 6 = .ok (.istore_n 1, 1) := by decide +kernel
theorem d_LA_reduceAll_7 : decode b_LA_reduceAll 7 = .ok (.iload_n 1, 1) := by decide +kernel
theorem d_LA_reduceAll_8 : decode b_LA_reduceAll 8 = .ok (.ifCond .lt 35, 3) := by decide +kernel
theorem d_LA_reduceAll_11 : decode b_LA_reduceAll 11 = .ok (.aload_n 0, 1) := by decide +kernel
theorem d_LA_reduceAll_12 : decode b_LA_reduceAll 12 = .ok (.getfield 16, 3) := by decide +kernel
theorem d_LA_reduceAll_15 : decode b_LA_reduceAll 15 = .ok (.iload_n 1, 1) := by decide +kernel
theorem d_LA_reduceAll_16 : decode b_LA_reduceAll 16 = .ok (.iaload, 1) := by decide +kernel
theorem d_LA_reduceAll_17 : decode b_LA_reduceAll 17 = .ok (.iconst (-1), 1) := by decide +kernel
theorem d_LA_reduceAll_18 : decode b_LA_reduceAll 18 = .ok (.if_icmp .eq 19, 3) := by decide +kernel
theorem d_LA_reduceAll_21 : decode b_LA_reduceAll 21 = .ok (.aload_n 0, 1) := by decide +kernel
theorem d_LA_reduceAll_22 : decode b_LA_reduceAll 22 = .ok (.aload_n 0, 1) := by decide +kernel
theorem d_LA_reduceAll_23 : decode b_LA_reduceAll 23 = .ok (.getfield 13, 3) := by decide +kernel
theorem d_LA_reduceAll_26 : decode b_LA_reduceAll 26 = .ok (.aload_n 0, 1) := by decide +kernel
theorem d_LA_reduceAll_27 : decode b_LA_reduceAll 27 = .ok (.getfield 16, 3) := by decide +kernel
theorem d_LA_reduceAll_30 : decode b_LA_reduceAll 30 = .ok (.iload_n 1, 1) := by decide +kernel
theorem d_LA_reduceAll_31 : decode b_LA_reduceAll 31 = .ok (.iaload, 1) := by decide +kernel
theorem d_LA_reduceAll_32 : decode b_LA_reduceAll 32 = .ok (.aaload, 1) := by decide +kernel
theorem d_LA_reduceAll_33 : decode b_LA_reduceAll 33 = .ok (.iload_n 1, 1) := by decide +kernel
theorem d_LA_reduceAll_34 : decode b_LA_reduceAll 34 = .ok (.invokevirtual 85, 3) := by decide +kernel
theorem d_LA_reduceAll_37 : decode b_LA_reduceAll 37 = .ok (.iinc 1 (-1), 3) := by decide +kernel
theorem d_LA_reduceAll_40 : decode b_LA_reduceAll 40 = .ok (.goto (-33), 3) := by decide +kernel
theorem d_LA_reduceAll_43 : decode b_LA_reduceAll 43 = .ok (.return_, 1) := by decide +kernel
theorem d_LA_swapFresh_0 : decode b_LA_swapFresh 0 = .ok (.iconst 0, 1) := by decide +kernel
theorem d_LA_swapFresh_1 : decode b_LA_swapFresh 1 = .ok (.istore_n 2, 1) := by decide +kernel
theorem d_LA_swapFresh_2 : decode b_LA_swapFresh 2 = .ok (.iload_n 2, 1) := by decide +kernel
theorem d_LA_swapFresh_3 : decode b_LA_swapFresh 3 = .ok (.aload_n 0, 1) := by decide +kernel
theorem d_LA_swapFresh_4 : decode b_LA_swapFresh 4 = .ok (.getfield 37, 3) := by decide +kernel
theorem d_LA_swapFresh_7 : decode b_LA_swapFresh 7 = .ok (.if_icmp .ge 39, 3) := by decide +kernel
theorem d_LA_swapFresh_10 : decode b_LA_swapFresh 10 = .ok (.aload_n 0, 1) := by decide +kernel
theorem d_LA_swapFresh_11 : decode b_LA_swapFresh 11 = .ok (.getfield 13, 3) := by decide +kernel
theorem d_LA_swapFresh_14 : decode b_LA_swapFresh 14 = .ok (.iload_n 1, 1) := by decide +kernel
theorem d_LA_swapFresh_15 : decode b_LA_swapFresh 15 = .ok (.aaload, 1) := by decide +kernel
theorem d_LA_swapFresh_16 : decode b_LA_swapFresh 16 = .ok (.iload_n 2, 1) := by decide +kernel
theorem d_LA_swapFresh_17 : decode b_LA_swapFresh 17 = .ok (.laload, 1) := by decide +kernel
theorem d_LA_swapFresh_18 : decode b_LA_swapFresh 18 = .ok (.lstore_n 3, 1) := by decide +kernel
theorem d_LA_swapFresh_19 : decode b_LA_swapFresh 19 = .ok (.aload_n 0, 1) := by decide +kernel
theorem d_LA_swapFresh_20 : decode b_LA_swapFresh 20 = .ok (.getfield 13, 3) := by decide +kernel
theorem d_LA_swapFresh_23 : decode b_LA_swapFresh 23 = .ok (.iload_n 1, 1) := by decide +kernel
theorem d_LA_swapFresh_24 : decode b_LA_swapFresh 24 = .ok (.aaload, 1) := by decide +kernel
theorem d_LA_swapFresh_25 : decode b_LA_swapFresh 25 = .ok (.iload_n 2, 1) := by decide +kernel
theorem d_LA_swapFresh_26 : decode b_LA_swapFresh 26 = .ok (.aload_n 0, 1) := by decide +kernel
theorem d_LA_swapFresh_27 : decode b_LA_swapFresh 27 = .ok (.getfield 27, 3) := by decide +kernel
theorem d_LA_swapFresh_30 : decode b_LA_swapFresh 30 = .ok (.iload_n 2, 1) := by decide +kernel
theorem d_LA_swapFresh_31 : decode b_LA_swapFresh 31 = .ok (.laload, 1) := by decide +kernel
theorem d_LA_swapFresh_32 : decode b_LA_swapFresh 32 = .ok (.lastore, 1) := by decide +kernel
theorem d_LA_swapFresh_33 : decode b_LA_swapFresh 33 = .ok (.aload_n 0, 1) := by decide +kernel
theorem d_LA_swapFresh_34 : decode b_LA_swapFresh 34 = .ok (.getfield 27, 3) := by decide +kernel
theorem d_LA_swapFresh_37 : decode b_LA_swapFresh 37 = .ok (.iload_n 2, 1) := by decide +kernel
theorem d_LA_swapFresh_38 : decode b_LA_swapFresh 38 = .ok (.lload_n 3, 1) := by decide +kernel
theorem d_LA_swapFresh_39 : decode b_LA_swapFresh 39 = .ok (.lastore, 1) := by decide +kernel
theorem d_LA_swapFresh_40 : decode b_LA_swapFresh 40 = .ok (.iinc 2 1, 3) := by decide +kernel
theorem d_LA_swapFresh_43 : decode b_LA_swapFresh 43 = .ok (.goto (-41), 3) := by decide +kernel
theorem d_LA_swapFresh_46 : decode b_LA_swapFresh 46 = .ok (.return_, 1) := by decide +kernel
