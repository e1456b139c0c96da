theorem d_EQ_addSlack_0 : decode b_EQ_addSlack 0 = .ok (.aload_n 0, 1) := by decide +kernel
theorem d_EQ_addSlack_1 : decode b_EQ_addSlack 1 = .ok (.invokevirtual 49, 3) := by decide +kernel
theorem d_EQ_addSlack_4 : decode b_EQ_addSlack 4 = .ok (.ifCond .ne 33, 3) := by decide +kernel
theorem d_EQ_addSlack_7 : decode b_EQ_addSlack 7 = .ok (.aload_n 0, 1) := by decide +kernel
theorem d_EQ_addSlack_8 : decode b_EQ_addSlack 8 = .ok (.getfield 23, 3) := by decide +kernel
theorem d_EQ_addSlack_11 : decode b_EQ_addSlack 11 = .ok (.aload_n 0, 1) := by decide +kernel
theorem d_EQ_addSlack_12 : decode b_EQ_addSlack 12 = .ok (.getfield 36, 3) := by decide +kernel
theorem d_EQ_addSlack_15 : decode b_EQ_addSlack 15 = .ok (.iload_n 1, 1) := by decide +kernel
theorem d_EQ_addSlack_16 : decode b_EQ_addSlack 16 = .ok (.iastore, 1) := by decide +kernel
theorem d_EQ_addSlack_17 : decode b_EQ_addSlack 17 = .ok (.aload_n 0, 1) := by decide +kernel
theorem d_EQ_addSlack_18 : decode b_EQ_addSlack 18 = .ok (.getfield 26, 3) := by decide +kernel
theorem d_EQ_addSlack_21 : decode b_EQ_addSlack 21 = .ok (.aload_n 0, 1) := by decide +kernel
theorem d_EQ_addSlack_22 : decode b_EQ_addSlack 22 = .ok (.getfield 36, 3) := by decide +kernel
theorem d_EQ_addSlack_25 : decode b_EQ_addSlack 25 = .ok (.iload_n 2, 1) := by decide +kernel
theorem d_EQ_addSlack_26 : decode b_EQ_addSlack 26 = .ok (.iastore, 1) := by decide +kernel
theorem d_EQ_addSlack_27 : decode b_EQ_addSlack 27 = .ok (.aload_n 0, 1) := by decide +kernel
theorem d_EQ_addSlack_28 : decode b_EQ_addSlack 28 = .ok (.dup, 1) := by decide +kernel
theorem d_EQ_addSlack_29 : decode b_EQ_addSlack 29 = .ok (.getfield 36, 3) := by decide +kernel
theorem d_EQ_addSlack_32 : decode b_EQ_addSlack 32 = .ok (.iconst 1, 1) := by decide +kernel
theorem d_EQ_addSlack_33 : decode b_EQ_addSlack 33 = .ok (.iadd, 1) := by decide +kernel
theorem d_EQ_addSlack_34 : decode b_EQ_addSlack 34 = .ok (.putfield 36, 3) := by decide +kernel
theorem d_EQ_addSlack_37 : decode b_EQ_addSlack 37 = .ok (.return_, 1) := by decide +kernel
theorem d_EQ_clear_0 : decode b_EQ_clear 0 = .ok (.iconst 0, 1) := by decide +kernel
theorem d_EQ_clear_1 : decode b_EQ_clear 1 = .ok (.istore_n 1, 1) := by decide +kernel
theorem d_EQ_clear_2 : decode b_EQ_clear 2 = .ok (.iload_n 1, 1) := by decide +kernel
theorem d_EQ_clear_3 : decode b_EQ_clear 3 = .ok (.iconst 4, 1) := by decide +kernel
theorem d_EQ_clear_4 : decode b_EQ_clear 4 = .ok (.if_icmp .ge 19, 3) := by decide +kernel
theorem d_EQ_clear_7 : decode b_EQ_clear 7 = .ok (.aload_n 0, 1) := by decide +kernel
theorem d_EQ_clear_8 : decode b_EQ_clear 8 = .ok (.getfield 11, 3) := by decide +kernel
theorem d_EQ_clear_11 : decode b_EQ_clear 11 = .ok (.iload_n 1, 1) := by decide +kernel
theorem d_EQ_clear_12 : decode b_EQ_clear 12 = .ok (.aaload, 1) := by decide +kernel
theorem d_EQ_clear_13 : decode b_EQ_clear 13 = .ok (.iconst 0, 1) := by decide +kernel
theorem d_EQ_clear_14 : decode b_EQ_clear 14 = .ok (.invokestatic 39, 3) := by decide +kernel
theorem d_EQ_clear_17 : decode b_EQ_clear 17 = .ok (.iinc 1 1, 3) := by decide +kernel
theorem d_EQ_clear_20 : decode b_EQ_clear 20 = .ok (.goto (-18), 3) := by decide +kernel
theorem d_EQ_clear_23 : decode b_EQ_clear 23 = .ok (.aload_n 0, 1) := by decide +kernel
theorem d_EQ_clear_24 : decode b_EQ_clear 24 = .ok (.getfield 16, 3) := by decide +kernel
theorem d_EQ_clear_27 : decode b_EQ_clear 27 = .ok (.iconst 0, 1) := by decide +kernel
theorem d_EQ_clear_28 : decode b_EQ_clear 28 = .ok (.invokestatic 39, 3) := by decide +kernel
theorem d_EQ_clear_31 : decode b_EQ_clear 31 = .ok (.aload_n 0, 1) := by decide +kernel
theorem d_EQ_clear_32 : decode b_EQ_clear 32 = .ok (.iconst 0, 1) := by decide +kernel
theorem d_EQ_clear_33 : decode b_EQ_clear 33 = .ok (.putfield 29, 3) := by decide +kernel
theorem d_EQ_clear_36 : decode b_EQ_clear 36 = .ok (.aload_n 0, 1) := by decide +kernel
theorem d_EQ_clear_37 : decode b_EQ_clear 37 = .ok (.iconst 0, 1) := by decide +kernel
theorem d_EQ_clear_38 : decode b_EQ_clear 38 = .ok (.putfield 33, 3) := by decide +kernel
theorem d_EQ_clear_41 : decode b_EQ_clear 41 = .ok (.aload_n 0, 1) := by decide +kernel
theorem d_EQ_clear_42 : decode b_EQ_clear 42 = .ok (.iconst 0, 1) := by decide +kernel
theorem d_EQ_clear_43 : decode b_EQ_clear 43 = .ok (.putfield 36, 3) := by decide +kernel
theorem d_EQ_clear_46 : decode b_EQ_clear 46 = .ok (.return_, 1) := by decide +kernel
theorem d_EQ_columnOf_0 : decode b_EQ_columnOf 0 = .ok (.iconst 0, 1) := by decide +kernel
theorem d_EQ_columnOf_1 : decode b_EQ_columnOf 1 = .ok (.istore_n 2, 1) := by decide +kernel
theorem d_EQ_columnOf_2 : decode b_EQ_columnOf 2 = .ok (.iload_n 2, 1) := by decide +kernel
theorem d_EQ_columnOf_3 : decode b_EQ_columnOf 3 = .ok (.aload_n 0, 1) := by decide +kernel
theorem d_EQ_columnOf_4 : decode b_EQ_columnOf 4 = .ok (.getfield 33, 3) := by decide +kernel
theorem d_EQ_columnOf_7 : decode b_EQ_columnOf 7 = .ok (.if_icmp .ge 21, 3) := by decide +kernel
theorem d_EQ_columnOf_10 : decode b_EQ_columnOf 10 = .ok (.aload_n 0, 1) := by decide +kernel
theorem d_EQ_columnOf_11 : decode b_EQ_columnOf 11 = .ok (.getfield 20, 3) := by decide +kernel
theorem d_EQ_columnOf_14 : decode b_EQ_columnOf 14 = .ok (.iload_n 2, 1) := by decide +kernel
theorem d_EQ_columnOf_15 : decode b_EQ_columnOf 15 = .ok (.iaload, 1) := by decide +kernel
theorem d_EQ_columnOf_16 : decode b_EQ_columnOf 16 = .ok (.iload_n 1, 1) := by decide +kernel
theorem d_EQ_columnOf_17 : decode b_EQ_columnOf 17 = .ok (.if_icmp .ne 5, 3) := by decide +kernel
theorem d_EQ_columnOf_20 : decode b_EQ_columnOf 20 = .ok (.iload_n 2, 1) := by decide +kernel
theorem d_EQ_columnOf_21 : decode b_EQ_columnOf 21 = .ok (.ireturn, 1) := by decide +kernel
theorem d_EQ_columnOf_22 : decode b_EQ_columnOf 22 = .ok (.iinc 2 1, 3) := by decide +kernel
theorem d_EQ_columnOf_25 : decode b_EQ_columnOf 25 = .ok (.goto (-23), 3) := by decide +kernel
theorem d_EQ_columnOf_28 : decode b_EQ_columnOf 28 = .ok (.aload_n 0, 1) := by decide +kernel
theorem d_EQ_columnOf_29 : decode b_EQ_columnOf 29 = .ok (.invokevirtual 49, 3) := by decide +kernel
theorem d_EQ_columnOf_32 : decode b_EQ_columnOf 32 = .ok (.ifCond .eq 5, 3) := by decide +kernel
theorem d_EQ_columnOf_35 : decode b_EQ_columnOf 35 = .ok (.iconst (-1), 1) := by decide +kernel
theorem d_EQ_columnOf_36 : decode b_EQ_columnOf 36 = .ok (.ireturn, 1) := by decide +kernel
theorem d_EQ_columnOf_37 : decode b_EQ_columnOf 37 = .ok (.aload_n 0, 1) := by decide +kernel
theorem d_EQ_columnOf_38 : decode b_EQ_columnOf 38 = .ok (.getfield 20, 3) := by decide +kernel
theorem d_EQ_columnOf_41 : decode b_EQ_columnOf 41 = .ok (.aload_n 0, 1) := by decide +kernel
theorem d_EQ_columnOf_42 : decode b_EQ_columnOf 42 = .ok (.getfield 33, 3) := by decide +kernel
theorem d_EQ_columnOf_45 : decode b_EQ_columnOf 45 = .ok (.iload_n 1, 1) := by decide +kernel
theorem d_EQ_columnOf_46 : decode b_EQ_columnOf 46 = .ok (.iastore, 1) := by decide +kernel
theorem d_EQ_columnOf_47 : decode b_EQ_columnOf 47 = .ok (.aload_n 0, 1) := by decide +kernel
theorem d_EQ_columnOf_48 : decode b_EQ_columnOf 48 = .ok (.dup, 1) := by decide +kernel
theorem d_EQ_columnOf_49 : decode b_EQ_columnOf 49 = .ok (.getfield 33, 3) := by decide +kernel
theorem d_EQ_columnOf_52 : decode b_EQ_columnOf 52 = .ok (.iconst 1, 1) := by decide +kernel
theorem d_EQ_columnOf_53 : decode b_EQ_columnOf 53 = .ok (.iadd, 1) := by decide +kernel
theorem d_EQ_columnOf_54 : decode b_EQ_columnOf 54 = .ok (.putfield 33, 3) := by decide +kernel
theorem d_EQ_columnOf_57 : decode b_EQ_columnOf 57 = .ok (.aload_n 0, 1) := by decide +kernel
theorem d_EQ_columnOf_58 : decode b_EQ_columnOf 58 = .ok (.getfield 33, 3) := by decide +kernel
theorem d_EQ_columnOf_61 : decode b_EQ_columnOf 61 = .ok (.iconst 1, 1) := by decide +kernel
theorem d_EQ_columnOf_62 : decode b_EQ_columnOf 62 = .ok (.isub, 1) := by decide +kernel
theorem d_EQ_columnOf_63 : decode b_EQ_columnOf 63 = .ok (.ireturn, 1) := by decide +kernel
theorem d_EQ_columns_0 : decode b_EQ_columns 0 = .ok (.aload_n 0, 1) := by decide +kernel
theorem d_EQ_columns_1 : decode b_EQ_columns 1 = .ok (.getfield 33, 3) := by decide +kernel
theorem d_EQ_columns_4 : decode b_EQ_columns 4 = .ok (.aload_n 0, 1) := by decide +kernel
theorem d_EQ_columns_5 : decode b_EQ_columns 5 = .ok (.getfield 36, 3) := by decide +kernel
theorem d_EQ_columns_8 : decode b_EQ_columns 8 = .ok (.iadd, 1) := by decide +kernel
theorem d_EQ_columns_9 : decode b_EQ_columns 9 = .ok (.ireturn, 1) := by decide +kernel
theorem d_EQ_isFull_0 : decode b_EQ_isFull 0 = .ok (.aload_n 0, 1) := by decide +kernel
theorem d_EQ_isFull_1 : decode b_EQ_isFull 1 = .ok (.invokevirtual 45, 3) := by decide +kernel
theorem d_EQ_isFull_4 : decode b_EQ_isFull 4 = .ok (.bipush 6, 2) := by decide +kernel
theorem d_EQ_isFull_6 : decode b_EQ_isFull 6 = .ok (.if_icmp .lt 7, 3) := by decide +kernel
theorem d_EQ_isFull_9 : decode b_EQ_isFull 9 = .ok (.iconst 1, 1) := by decide +kernel
theorem d_EQ_isFull_10 : decode b_EQ_isFull 10 = .ok (.goto 4, 3) := by decide +kernel
theorem d_EQ_isFull_13 : decode b_EQ_isFull 13 = .ok (.iconst 0, 1) := by decide +kernel
theorem d_EQ_isFull_14 : decode b_EQ_isFull 14 = .ok (.ireturn, 1) := by decide +kernel
theorem d_EQ_isLarge_0 : decode b_EQ_isLarge 0 = .ok (.iconst 0, 1) := by decide +kernel
theorem d_EQ_isLarge_1 : decode b_EQ_isLarge 1 = .ok (.istore_n 2, 1) := by decide +kernel
theorem d_EQ_isLarge_2 : decode b_EQ_isLarge 2 = .ok (.iload_n 2, 1) := by decide +kernel
theorem d_EQ_isLarge_3 : decode b_EQ_isLarge 3 = .ok (.aload_n 0, 1) := by decide +kernel
theorem d_EQ_isLarge_4 : decode b_EQ_isLarge 4 = .ok (.getfield 33, 3) := by decide +kernel
theorem d_EQ_isLarge_7 : decode b_EQ_isLarge 7 = .ok (.if_icmp .ge 27, 3) := by decide +kernel
theorem d_EQ_isLarge_10 : decode b_EQ_isLarge 10 = .ok (.aload_n 0, 1) := by decide +kernel
theorem d_EQ_isLarge_11 : decode b_EQ_isLarge 11 = .ok (.getfield 11, 3) := by decide +kernel
theorem d_EQ_isLarge_14 : decode b_EQ_isLarge 14 = .ok (.iload_n 1, 1) := by decide +kernel
theorem d_EQ_isLarge_15 : decode b_EQ_isLarge 15 = .ok (.aaload, 1) := by decide +kernel
theorem d_EQ_isLarge_16 : decode b_EQ_isLarge 16 = .ok (.iload_n 2, 1) := by decide +kernel
theorem d_EQ_isLarge_17 : decode b_EQ_isLarge 17 = .ok (.iaload, 1) := by decide +kernel
theorem d_EQ_isLarge_18 : decode b_EQ_isLarge 18 = .ok (.invokestatic 53, 3) := by decide +kernel
theorem d_EQ_isLarge_21 : decode b_EQ_isLarge 21 = .ok (.bipush 20, 2) := by decide +kernel
theorem d_EQ_isLarge_23 : decode b_EQ_isLarge 23 = .ok (.if_icmp .le 5, 3) := by decide +kernel
theorem d_EQ_isLarge_26 : decode b_EQ_isLarge 26 = .ok (.iconst 1, 1) := by decide +kernel
theorem d_EQ_isLarge_27 : decode b_EQ_isLarge 27 = .ok (.ireturn, 1) := by decide +kernel
theorem d_EQ_isLarge_28 : decode b_EQ_isLarge 28 = .ok (.iinc 2 1, 3) := by decide +kernel
theorem d_EQ_isLarge_31 : decode b_EQ_isLarge 31 = .ok (.goto (-29), 3) := by decide +kernel
theorem d_EQ_isLarge_34 : decode b_EQ_isLarge 34 = .ok (.aload_n 0, 1) := by decide +kernel
theorem d_EQ_isLarge_35 : decode b_EQ_isLarge 35 = .ok (.getfield 16, 3) := by decide +kernel
theorem d_EQ_isLarge_38 : decode b_EQ_isLarge 38 = .ok (.iload_n 1, 1) := by decide +kernel
theorem d_EQ_isLarge_39 : decode b_EQ_isLarge 39 = .ok (.iaload, 1) := by decide +kernel
theorem d_EQ_isLarge_40 : decode b_EQ_isLarge 40 = .ok (.invokestatic 53, 3) := by decide +kernel
theorem d_EQ_isLarge_43 : decode b_EQ_isLarge 43 = .ok (.sipush 200, 3) := by decide +kernel
theorem d_EQ_isLarge_46 : decode b_EQ_isLarge 46 = .ok (.if_icmp .le 7, 3) := by decide +kernel
theorem d_EQ_isLarge_49 : decode b_EQ_isLarge 49 = .ok (.iconst 1, 1) := by decide +kernel
theorem d_EQ_isLarge_50 : decode b_EQ_isLarge 50 = .ok (.goto 4, 3) := by decide +kernel
theorem d_EQ_isLarge_53 : decode b_EQ_isLarge 53 = .ok (.iconst 0, 1) := by decide +kernel
theorem d_EQ_isLarge_54 : decode b_EQ_isLarge 54 = .ok (.ireturn, 1) := by decide +kernel
theorem d_EQ_placeSlacks_0 : decode b_EQ_placeSlacks 0 = .ok (.iconst 0, 1) := by decide +kernel
theorem d_EQ_placeSlacks_1 : decode b_EQ_placeSlacks 1 = .ok (.istore_n 1, 1) := by decide +kernel
theorem d_EQ_placeSlacks_2 : decode b_EQ_placeSlacks 2 = .ok (.iload_n 1, 1) := by decide +kernel
theorem d_EQ_placeSlacks_3 : decode b_EQ_placeSlacks 3 = .ok (.aload_n 0, 1) := by decide +kernel
theorem d_EQ_placeSlacks_4 : decode b_EQ_placeSlacks 4 = .ok (.getfield 36, 3) := by decide +kernel
theorem d_EQ_placeSlacks_7 : decode b_EQ_placeSlacks 7 = .ok (.if_icmp .ge 44, 3) := by decide +kernel
theorem d_EQ_placeSlacks_10 : decode b_EQ_placeSlacks 10 = .ok (.aload_n 0, 1) := by decide +kernel
theorem d_EQ_placeSlacks_11 : decode b_EQ_placeSlacks 11 = .ok (.getfield 33, 3) := by decide +kernel
theorem d_EQ_placeSlacks_14 : decode b_EQ_placeSlacks 14 = .ok (.iload_n 1, 1) := by decide +kernel
theorem d_EQ_placeSlacks_15 : decode b_EQ_placeSlacks 15 = .ok (.iadd, 1) := by decide +kernel
theorem d_EQ_placeSlacks_16 : decode b_EQ_placeSlacks 16 = .ok (.bipush 6, 2) := by decide +kernel
theorem d_EQ_placeSlacks_18 : decode b_EQ_placeSlacks 18 = .ok (.if_icmp .ge 33, 3) := by decide +kernel
theorem d_EQ_placeSlacks_21 : decode b_EQ_placeSlacks 21 = .ok (.aload_n 0, 1) := by decide +kernel
theorem d_EQ_placeSlacks_22 : decode b_EQ_placeSlacks 22 = .ok (.getfield 11, 3) := by decide +kernel
theorem d_EQ_placeSlacks_25 : decode b_EQ_placeSlacks 25 = .ok (.aload_n 0, 1) := by decide +kernel
theorem d_EQ_placeSlacks_26 : decode b_EQ_placeSlacks 26 = .ok (.getfield 23, 3) := by decide +kernel
theorem d_EQ_placeSlacks_29 : decode b_EQ_placeSlacks 29 = .ok (.iload_n 1, 1) := by decide +kernel
theorem d_EQ_placeSlacks_30 : decode b_EQ_placeSlacks 30 = .ok (.iaload, 1) := by decide +kernel
theorem d_EQ_placeSlacks_31 : decode b_EQ_placeSlacks 31 = .ok (.aaload, 1) := by decide +kernel
