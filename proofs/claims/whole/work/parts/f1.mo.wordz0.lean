theorem d_MO_dot_0 : decode b_MO_dot 0 = .ok (.lconst 0, 1) := by decide +kernel
theorem d_MO_dot_1 : decode b_MO_dot 1 = .ok (.lstore 4, 2) := by decide +kernel
theorem d_MO_dot_3 : decode b_MO_dot 3 = .ok (.iconst 0, 1) := by decide +kernel
theorem d_MO_dot_4 : decode b_MO_dot 4 = .ok (.istore 6, 2) := by decide +kernel
theorem d_MO_dot_6 : decode b_MO_dot 6 = .ok (.iload 6, 2) := by decide +kernel
theorem d_MO_dot_8 : decode b_MO_dot 8 = .ok (.aload_n 0, 1) := by decide +kernel
theorem d_MO_dot_9 : decode b_MO_dot 9 = .ok (.getfield 143, 3) := by decide +kernel
theorem d_MO_dot_12 : decode b_MO_dot 12 = .ok (.if_icmp .ge 34, 3) := by decide +kernel
theorem d_MO_dot_15 : decode b_MO_dot 15 = .ok (.lload 4, 2) := by decide +kernel
theorem d_MO_dot_17 : decode b_MO_dot 17 = .ok (.aload_n 0, 1) := by decide +kernel
theorem d_MO_dot_18 : decode b_MO_dot 18 = .ok (.getfield 38, 3) := by decide +kernel
theorem d_MO_dot_21 : decode b_MO_dot 21 = .ok (.bipush 7, 2) := by decide +kernel
theorem d_MO_dot_23 : decode b_MO_dot 23 = .ok (.iload_n 1, 1) := by decide +kernel
theorem d_MO_dot_24 : decode b_MO_dot 24 = .ok (.imul, 1) := by decide +kernel
theorem d_MO_dot_25 : decode b_MO_dot 25 = .ok (.iload 6, 2) := by decide +kernel
theorem d_MO_dot_27 : decode b_MO_dot 27 = .ok (.iadd, 1) := by decide +kernel
theorem d_MO_dot_28 : decode b_MO_dot 28 = .ok (.iaload, 1) := by decide +kernel
theorem d_MO_dot_29 : decode b_MO_dot 29 = .ok (.i2l, 1) := by decide +kernel
theorem d_MO_dot_30 : decode b_MO_dot 30 = .ok (.aload_n 2, 1) := by decide +kernel
theorem d_MO_dot_31 : decode b_MO_dot 31 = .ok (.iload_n 3, 1) := by decide +kernel
theorem d_MO_dot_32 : decode b_MO_dot 32 = .ok (.iload 6, 2) := by decide +kernel
theorem d_MO_dot_34 : decode b_MO_dot 34 = .ok (.iadd, 1) := by decide +kernel
theorem d_MO_dot_35 : decode b_MO_dot 35 = .ok (.laload, 1) := by decide +kernel
theorem d_MO_dot_36 : decode b_MO_dot 36 = .ok (.lmul, 1) := by decide +kernel
theorem d_MO_dot_37 : decode b_MO_dot 37 = .ok (.ladd, 1) := by decide +kernel
theorem d_MO_dot_38 : decode b_MO_dot 38 = .ok (.lstore 4, 2) := by decide +kernel
theorem d_MO_dot_40 : decode b_MO_dot 40 = .ok (.iinc 6 1, 3) := by decide +kernel
theorem d_MO_dot_43 : decode b_MO_dot 43 = .ok (.goto (-37), 3) := by decide +kernel
theorem d_MO_dot_46 : decode b_MO_dot 46 = .ok (.lload 4, 2) := by decide +kernel
theorem d_MO_dot_48 : decode b_MO_dot 48 = .ok (.lreturn, 1) := by decide +kernel
theorem d_MO_exchange_0 : decode b_MO_exchange 0 = .ok (.iconst 0, 1) := by decide +kernel
theorem d_MO_exchange_1 : decode b_MO_exchange 1 = .ok (.istore_n 3, 1) := by decide +kernel
theorem d_MO_exchange_2 : decode b_MO_exchange 2 = .ok (.iload_n 3, 1) := by decide +kernel
theorem d_MO_exchange_3 : decode b_MO_exchange 3 = .ok (.aload_n 0, 1) := by decide +kernel
theorem d_MO_exchange_4 : decode b_MO_exchange 4 = .ok (.getfield 143, 3) := by decide +kernel
theorem d_MO_exchange_7 : decode b_MO_exchange 7 = .ok (.if_icmp .ge 57, 3) := by decide +kernel
theorem d_MO_exchange_10 : decode b_MO_exchange 10 = .ok (.aload_n 0, 1) := by decide +kernel
theorem d_MO_exchange_11 : decode b_MO_exchange 11 = .ok (.getfield 68, 3) := by decide +kernel
theorem d_MO_exchange_14 : decode b_MO_exchange 14 = .ok (.bipush 6, 2) := by decide +kernel
theorem d_MO_exchange_16 : decode b_MO_exchange 16 = .ok (.iload_n 1, 1) := by decide +kernel
theorem d_MO_exchange_17 : decode b_MO_exchange 17 = .ok (.imul, 1) := by decide +kernel
theorem d_MO_exchange_18 : decode b_MO_exchange 18 = .ok (.iload_n 3, 1) := by decide +kernel
theorem d_MO_exchange_19 : decode b_MO_exchange 19 = .ok (.iadd, 1) := by decide +kernel
theorem d_MO_exchange_20 : decode b_MO_exchange 20 = .ok (.laload, 1) := by decide +kernel
theorem d_MO_exchange_21 : decode b_MO_exchange 21 = .ok (.lstore 4, 2) := by decide +kernel
theorem d_MO_exchange_23 : decode b_MO_exchange 23 = .ok (.aload_n 0, 1) := by decide +kernel
theorem d_MO_exchange_24 : decode b_MO_exchange 24 = .ok (.getfield 68, 3) := by decide +kernel
theorem d_MO_exchange_27 : decode b_MO_exchange 27 = .ok (.bipush 6, 2) := by decide +kernel
theorem d_MO_exchange_29 : decode b_MO_exchange 29 = .ok (.iload_n 1, 1) := by decide +kernel
theorem d_MO_exchange_30 : decode b_MO_exchange 30 = .ok (.imul, 1) := by decide +kernel
theorem d_MO_exchange_31 : decode b_MO_exchange 31 = .ok (.iload_n 3, 1) := by decide +kernel
theorem d_MO_exchange_32 : decode b_MO_exchange 32 = .ok (.iadd, 1) := by decide +kernel
theorem d_MO_exchange_33 : decode b_MO_exchange 33 = .ok (.aload_n 0, 1) := by decide +kernel
theorem d_MO_exchange_34 : decode b_MO_exchange 34 = .ok (.getfield 68, 3) := by decide +kernel
theorem d_MO_exchange_37 : decode b_MO_exchange 37 = .ok (.bipush 6, 2) := by decide +kernel
theorem d_MO_exchange_39 : decode b_MO_exchange 39 = .ok (.iload_n 2, 1) := by decide +kernel
theorem d_MO_exchange_40 : decode b_MO_exchange 40 = .ok (.imul, 1) := by decide +kernel
theorem d_MO_exchange_41 : decode b_MO_exchange 41 = .ok (.iload_n 3, 1) := by decide +kernel
theorem d_MO_exchange_42 : decode b_MO_exchange 42 = .ok (.iadd, 1) := by decide +kernel
theorem d_MO_exchange_43 : decode b_MO_exchange 43 = .ok (.laload, 1) := by decide +kernel
theorem d_MO_exchange_44 : decode b_MO_exchange 44 = .ok (.lastore, 1) := by decide +kernel
theorem d_MO_exchange_45 : decode b_MO_exchange 45 = .ok (.aload_n 0, 1) := by decide +kernel
theorem d_MO_exchange_46 : decode b_MO_exchange 46 = .ok (.getfield 68, 3) := by decide +kernel
theorem d_MO_exchange_49 : decode b_MO_exchange 49 = .ok (.bipush 6, 2) := by decide +kernel
theorem d_MO_exchange_51 : decode b_MO_exchange 51 = .ok (.iload_n 2, 1) := by decide +kernel
theorem d_MO_exchange_52 : decode b_MO_exchange 52 = .ok (.imul, 1) := by decide +kernel
theorem d_MO_exchange_53 : decode b_MO_exchange 53 = .ok (.iload_n 3, 1) := by decide +kernel
theorem d_MO_exchange_54 : decode b_MO_exchange 54 = .ok (.iadd, 1) := by decide +kernel
theorem d_MO_exchange_55 : decode b_MO_exchange 55 = .ok (.lload 4, 2) := by decide +kernel
theorem d_MO_exchange_57 : decode b_MO_exchange 57 = .ok (.lastore, 1) := by decide +kernel
theorem d_MO_exchange_58 : decode b_MO_exchange 58 = .ok (.iinc 3 1, 3) := by decide +kernel
theorem d_MO_exchange_61 : decode b_MO_exchange 61 = .ok (.goto (-59), 3) := by decide +kernel
theorem d_MO_exchange_64 : decode b_MO_exchange 64 = .ok (.return_, 1) := by decide +kernel
theorem d_MO_lose_0 : decode b_MO_lose 0 = .ok (.iconst 0, 1) := by decide +kernel
theorem d_MO_lose_1 : decode b_MO_lose 1 = .ok (.istore 5, 2) := by decide +kernel
theorem d_MO_lose_3 : decode b_MO_lose 3 = .ok (.iload 5, 2) := by decide +kernel
theorem d_MO_lose_5 : decode b_MO_lose 5 = .ok (.aload_n 0, 1) := by decide +kernel
theorem d_MO_lose_6 : decode b_MO_lose 6 = .ok (.getfield 143, 3) := by decide +kernel
theorem d_MO_lose_9 : decode b_MO_lose 9 = .ok (.if_icmp .ge 48, 3) := by decide +kernel
theorem d_MO_lose_12 : decode b_MO_lose 12 = .ok (.aload_n 0, 1) := by decide +kernel
theorem d_MO_lose_13 : decode b_MO_lose 13 = .ok (.getfield 68, 3) := by decide +kernel
theorem d_MO_lose_16 : decode b_MO_lose 16 = .ok (.bipush 6, 2) := by decide +kernel
theorem d_MO_lose_18 : decode b_MO_lose 18 = .ok (.iload_n 1, 1) := by decide +kernel
theorem d_MO_lose_19 : decode b_MO_lose 19 = .ok (.imul, 1) := by decide +kernel
theorem d_MO_lose_20 : decode b_MO_lose 20 = .ok (.iload 5, 2) := by decide +kernel
theorem d_MO_lose_22 : decode b_MO_lose 22 = .ok (.iadd, 1) := by decide +kernel
theorem d_MO_lose_23 : decode b_MO_lose 23 = .ok (.aload_n 0, 1) := by decide +kernel
theorem d_MO_lose_24 : decode b_MO_lose 24 = .ok (.getfield 68, 3) := by decide +kernel
theorem d_MO_lose_27 : decode b_MO_lose 27 = .ok (.bipush 6, 2) := by decide +kernel
theorem d_MO_lose_29 : decode b_MO_lose 29 = .ok (.iload_n 1, 1) := by decide +kernel
theorem d_MO_lose_30 : decode b_MO_lose 30 = .ok (.imul, 1) := by decide +kernel
theorem d_MO_lose_31 : decode b_MO_lose 31 = .ok (.iload 5, 2) := by decide +kernel
theorem d_MO_lose_33 : decode b_MO_lose 33 = .ok (.iadd, 1) := by decide +kernel
theorem d_MO_lose_34 : decode b_MO_lose 34 = .ok (.laload, 1) := by decide +kernel
theorem d_MO_lose_35 : decode b_MO_lose 35 = .ok (.lload_n 3, 1) := by decide +kernel
theorem d_MO_lose_36 : decode b_MO_lose 36 = .ok (.aload_n 0, 1) := by decide +kernel
theorem d_MO_lose_37 : decode b_MO_lose 37 = .ok (.getfield 68, 3) := by decide +kernel
theorem d_MO_lose_40 : decode b_MO_lose 40 = .ok (.bipush 6, 2) := by decide +kernel
theorem d_MO_lose_42 : decode b_MO_lose 42 = .ok (.iload_n 2, 1) := by decide +kernel
theorem d_MO_lose_43 : decode b_MO_lose 43 = .ok (.imul, 1) := by decide +kernel
theorem d_MO_lose_44 : decode b_MO_lose 44 = .ok (.iload 5, 2) := by decide +kernel
theorem d_MO_lose_46 : decode b_MO_lose 46 = .ok (.iadd, 1) := by decide +kernel
theorem d_MO_lose_47 : decode b_MO_lose 47 = .ok (.laload, 1) := by decide +kernel
theorem d_MO_lose_48 : decode b_MO_lose 48 = .ok (.lmul, 1) := by decide +kernel
theorem d_MO_lose_49 : decode b_MO_lose 49 = .ok (.lsub, 1) := by decide +kernel
theorem d_MO_lose_50 : decode b_MO_lose 50 = .ok (.lastore, 1) := by decide +kernel
theorem d_MO_lose_51 : decode b_MO_lose 51 = .ok (.iinc 5 1, 3) := by decide +kernel
theorem d_MO_lose_54 : decode b_MO_lose 54 = .ok (.goto (-51), 3) := by decide +kernel
theorem d_MO_lose_57 : decode b_MO_lose 57 = .ok (.return_, 1) := by decide +kernel
theorem d_MO_size_0 : decode b_MO_size 0 = .ok (.lload_n 0, 1) := by decide +kernel
theorem d_MO_size_1 : decode b_MO_size 1 = .ok (.lconst 0, 1) := by decide +kernel
theorem d_MO_size_2 : decode b_MO_size 2 = .ok (.lcmp, 1) := by decide +kernel
theorem d_MO_size_3 : decode b_MO_size 3 = .ok (.ifCond .ge 8, 3) := by decide +kernel
theorem d_MO_size_6 : decode b_MO_size 6 = .ok (.lload_n 0, 1) := by decide +kernel
theorem d_MO_size_7 : decode b_MO_size 7 = .ok (.lneg, 1) := by decide +kernel
theorem d_MO_size_8 : decode b_MO_size 8 = .ok (.goto 4, 3) := by decide +kernel
theorem d_MO_size_11 : decode b_MO_size 11 = .ok (.lload_n 0, 1) := by decide +kernel
theorem d_MO_size_12 : decode b_MO_size 12 = .ok (.lreturn, 1) := by decide +kernel
theorem d_MO_thrown_0 : decode b_MO_thrown 0 = .ok (.aload_n 0, 1) := by decide +kernel
theorem d_MO_thrown_1 : decode b_MO_thrown 1 = .ok (.getfield 81, 3) := by decide +kernel
theorem d_MO_thrown_4 : decode b_MO_thrown 4 = .ok (.ireturn, 1) := by decide +kernel
theorem d_MO_turn_0 : decode b_MO_turn 0 = .ok (.iconst 0, 1) := by decide +kernel
theorem d_MO_turn_1 : decode b_MO_turn 1 = .ok (.istore_n 2, 1) := by decide +kernel
theorem d_MO_turn_2 : decode b_MO_turn 2 = .ok (.iload_n 2, 1) := by decide +kernel
theorem d_MO_turn_3 : decode b_MO_turn 3 = .ok (.aload_n 0, 1) := by decide +kernel
theorem d_MO_turn_4 : decode b_MO_turn 4 = .ok (.getfield 143, 3) := by decide +kernel
theorem d_MO_turn_7 : decode b_MO_turn 7 = .ok (.if_icmp .ge 32, 3) := by decide +kernel
theorem d_MO_turn_10 : decode b_MO_turn 10 = .ok (.aload_n 0, 1) := by decide +kernel
theorem d_MO_turn_11 : decode b_MO_turn 11 = .ok (.getfield 68, 3) := by decide +kernel
theorem d_MO_turn_14 : decode b_MO_turn 14 = .ok (.bipush 6, 2) := by decide +kernel
theorem d_MO_turn_16 : decode b_MO_turn 16 = .ok (.iload_n 1, 1) := by decide +kernel
theorem d_MO_turn_17 : decode b_MO_turn 17 = .ok (.imul, 1) := by decide +kernel
theorem d_MO_turn_18 : decode b_MO_turn 18 = .ok (.iload_n 2, 1) := by decide +kernel
theorem d_MO_turn_19 : decode b_MO_turn 19 = .ok (.iadd, 1) := by decide +kernel
theorem d_MO_turn_20 : decode b_MO_turn 20 = .ok (.aload_n 0, 1) := by decide +kernel
theorem d_MO_turn_21 : decode b_MO_turn 21 = .ok (.getfield 68, 3) := by decide +kernel
theorem d_MO_turn_24 : decode b_MO_turn 24 = .ok (.bipush 6, 2) := by decide +kernel
theorem d_MO_turn_26 : decode b_MO_turn 26 = .ok (.iload_n 1, 1) := by decide +kernel
theorem d_MO_turn_27 : decode b_MO_turn 27 = .ok (.imul, 1) := by decide +kernel
theorem d_MO_turn_28 : decode b_MO_turn 28 = .ok (.iload_n 2, 1) := by decide +kernel
theorem d_MO_turn_29 : decode b_MO_turn 29 = .ok (.iadd, 1) := by decide +kernel
theorem d_MO_turn_30 : decode b_MO_turn 30 = .ok (.laload, 1) := by decide +kernel
theorem d_MO_turn_31 : decode b_MO_turn 31 = .ok (.lneg, 1) := by decide +kernel
theorem d_MO_turn_32 : decode b_MO_turn 32 = .ok (.lastore, 1) := by decide +kernel
theorem d_MO_turn_33 : decode b_MO_turn 33 = .ok (.iinc 2 1, 3) := by decide +kernel
theorem d_MO_turn_36 : decode b_MO_turn 36 = .ok (.goto (-34), 3) := by decide +kernel
theorem d_MO_turn_39 : decode b_MO_turn 39 = .ok (.return_, 1) := by decide +kernel
