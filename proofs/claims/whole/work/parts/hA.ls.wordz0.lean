theorem d_LS_count_0 : decode b_LS_count 0 = .ok (.aload_n 0, 1) := by decide +kernel
theorem d_LS_count_1 : decode b_LS_count 1 = .ok (.getfield 77, 3) := by decide +kernel
theorem d_LS_count_4 : decode b_LS_count 4 = .ok (.ifCond .ne 5, 3) := by decide +kernel
theorem d_LS_count_7 : decode b_LS_count 7 = .ok (.iconst (-1), 1) := by decide +kernel
theorem d_LS_count_8 : decode b_LS_count 8 = .ok (.ireturn, 1) := by decide +kernel
theorem d_LS_count_9 : decode b_LS_count 9 = .ok (.iload_n 1, 1) := by decide +kernel
theorem d_LS_count_10 : decode b_LS_count 10 = .ok (.tableswitch 50 0 2 #[26, 34, 42], 26) := by decide +kernel
theorem d_LS_count_36 : decode b_LS_count 36 = .ok (.aload_n 0, 1) := by decide +kernel
theorem d_LS_count_37 : decode b_LS_count 37 = .ok (.getfield 73, 3) := by decide +kernel
theorem d_LS_count_40 : decode b_LS_count 40 = .ok (.getfield 106, 3) := by decide +kernel
theorem d_LS_count_43 : decode b_LS_count 43 = .ok (.ireturn, 1) := by decide +kernel
theorem d_LS_count_44 : decode b_LS_count 44 = .ok (.aload_n 0, 1) := by decide +kernel
theorem d_LS_count_45 : decode b_LS_count 45 = .ok (.getfield 73, 3) := by decide +kernel
theorem d_LS_count_48 : decode b_LS_count 48 = .ok (.invokevirtual 109, 3) := by decide +kernel
theorem d_LS_count_51 : decode b_LS_count 51 = .ok (.ireturn, 1) := by decide +kernel
theorem d_LS_count_52 : decode b_LS_count 52 = .ok (.aload_n 0, 1) := by decide +kernel
theorem d_LS_count_53 : decode b_LS_count 53 = .ok (.getfield 73, 3) := by decide +kernel
theorem d_LS_count_56 : decode b_LS_count 56 = .ok (.getfield 112, 3) := by decide +kernel
theorem d_LS_count_59 : decode b_LS_count 59 = .ok (.ireturn, 1) := by decide +kernel
theorem d_LS_count_60 : decode b_LS_count 60 = .ok (.iconst (-1), 1) := by decide +kernel
theorem d_LS_count_61 : decode b_LS_count 61 = .ok (.ireturn, 1) := by decide +kernel
theorem d_LS_hasColumn_0 : decode b_LS_hasColumn 0 = .ok (.iload_n 1, 1) := by decide +kernel
theorem d_LS_hasColumn_1 : decode b_LS_hasColumn 1 = .ok (.ifCond .lt 18, 3) := by decide +kernel
theorem d_LS_hasColumn_4 : decode b_LS_hasColumn 4 = .ok (.iload_n 1, 1) := by decide +kernel
theorem d_LS_hasColumn_5 : decode b_LS_hasColumn 5 = .ok (.aload_n 0, 1) := by decide +kernel
theorem d_LS_hasColumn_6 : decode b_LS_hasColumn 6 = .ok (.getfield 73, 3) := by decide +kernel
theorem d_LS_hasColumn_9 : decode b_LS_hasColumn 9 = .ok (.invokevirtual 109, 3) := by decide +kernel
theorem d_LS_hasColumn_12 : decode b_LS_hasColumn 12 = .ok (.if_icmp .ge 7, 3) := by decide +kernel
theorem d_LS_hasColumn_15 : decode b_LS_hasColumn 15 = .ok (.iconst 1, 1) := by decide +kernel
theorem d_LS_hasColumn_16 : decode b_LS_hasColumn 16 = .ok (.goto 4, 3) := by decide +kernel
theorem d_LS_hasColumn_19 : decode b_LS_hasColumn 19 = .ok (.iconst 0, 1) := by decide +kernel
theorem d_LS_hasColumn_20 : decode b_LS_hasColumn 20 = .ok (.ireturn, 1) := by decide +kernel
theorem d_LS_isBelowZero_0 : decode b_LS_isBelowZero 0 = .ok (.aload_n 0, 1) := by decide +kernel
theorem d_LS_isBelowZero_1 : decode b_LS_isBelowZero 1 = .ok (.astore_n 1, 1) := by decide +kernel
theorem d_LS_isBelowZero_2 : decode b_LS_isBelowZero 2 = .ok (.aload_n 1, 1) := by decide +kernel
theorem d_LS_isBelowZero_3 : decode b_LS_isBelowZero 3 = .ok (.arraylength, 1) := by decide +kernel
theorem d_LS_isBelowZero_4 : decode b_LS_isBelowZero 4 = .ok (.istore_n 2, 1) := by decide +kernel
theorem d_LS_isBelowZero_5 : decode b_LS_isBelowZero 5 = .ok (.iconst 0, 1) := by decide +kernel
theorem d_LS_isBelowZero_6 : decode b_LS_isBelowZero 6 = .ok (.istore_n 3, 1) := by decide +kernel
theorem d_LS_isBelowZero_7 : decode b_LS_isBelowZero 7 = .ok (.iload_n 3, 1) := by decide +kernel
theorem d_LS_isBelowZero_8 : decode b_LS_isBelowZero 8 = .ok (.iload_n 2, 1) := by decide +kernel
theorem d_LS_isBelowZero_9 : decode b_LS_isBelowZero 9 = .ok (.if_icmp .ge 21, 3) := by decide +kernel
theorem d_LS_isBelowZero_12 : decode b_LS_isBelowZero 12 = .ok (.aload_n 1, 1) := by decide +kernel
theorem d_LS_isBelowZero_13 : decode b_LS_isBelowZero 13 = .ok (.iload_n 3, 1) := by decide +kernel
theorem d_LS_isBelowZero_14 : decode b_LS_isBelowZero 14 = .ok (.iaload, 1) := by decide +kernel
theorem d_LS_isBelowZero_15 : decode b_LS_isBelowZero 15 = .ok (.istore 4, 2) := by decide +kernel
theorem d_LS_isBelowZero_17 : decode b_LS_isBelowZero 17 = .ok (.iload 4, 2) := by decide +kernel
theorem d_LS_isBelowZero_19 : decode b_LS_isBelowZero 19 = .ok (.ifCond .ge 5, 3) := by decide +kernel
theorem d_LS_isBelowZero_22 : decode b_LS_isBelowZero 22 = .ok (.iconst 1, 1) := by decide +kernel
theorem d_LS_isBelowZero_23 : decode b_LS_isBelowZero 23 = .ok (.ireturn, 1) := by decide +kernel
theorem d_LS_isBelowZero_24 : decode b_LS_isBelowZero 24 = .ok (.iinc 3 1, 3) := by decide +kernel
theorem d_LS_isBelowZero_27 : decode b_LS_isBelowZero 27 = .ok (.goto (-20), 3) := by decide +kernel
theorem d_LS_isBelowZero_30 : decode b_LS_isBelowZero 30 = .ok (.iconst 0, 1) := by decide +kernel
theorem d_LS_isBelowZero_31 : decode b_LS_isBelowZero 31 = .ok (.ireturn, 1) := by decide +kernel
theorem d_LS_letter_0 : decode b_LS_letter 0 = .ok (.iload_n 1, 1) := by decide +kernel
theorem d_LS_letter_1 : decode b_LS_letter 1 = .ok (.ifCond .lt 26, 3) := by decide +kernel
theorem d_LS_letter_4 : decode b_LS_letter 4 = .ok (.iload_n 1, 1) := by decide +kernel
theorem d_LS_letter_5 : decode b_LS_letter 5 = .ok (.aload_n 0, 1) := by decide +kernel
theorem d_LS_letter_6 : decode b_LS_letter 6 = .ok (.getfield 73, 3) := by decide +kernel
theorem d_LS_letter_9 : decode b_LS_letter 9 = .ok (.getfield 112, 3) := by decide +kernel
theorem d_LS_letter_12 : decode b_LS_letter 12 = .ok (.if_icmp .ge 15, 3) := by decide +kernel
theorem d_LS_letter_15 : decode b_LS_letter 15 = .ok (.aload_n 0, 1) := by decide +kernel
theorem d_LS_letter_16 : decode b_LS_letter 16 = .ok (.getfield 73, 3) := by decide +kernel
theorem d_LS_letter_19 : decode b_LS_letter 19 = .ok (.getfield 115, 3) := by decide +kernel
theorem d_LS_letter_22 : decode b_LS_letter 22 = .ok (.iload_n 1, 1) := by decide +kernel
theorem d_LS_letter_23 : decode b_LS_letter 23 = .ok (.iaload, 1) := by decide +kernel
theorem d_LS_letter_24 : decode b_LS_letter 24 = .ok (.goto 4, 3) := by decide +kernel
theorem d_LS_letter_27 : decode b_LS_letter 27 = .ok (.iconst (-1), 1) := by decide +kernel
theorem d_LS_letter_28 : decode b_LS_letter 28 = .ok (.ireturn, 1) := by decide +kernel
theorem d_LS_needBound_0 : decode b_LS_needBound 0 = .ok (.iload_n 0, 1) := by decide +kernel
theorem d_LS_needBound_1 : decode b_LS_needBound 1 = .ok (.ifCond .lt 8, 3) := by decide +kernel
theorem d_LS_needBound_4 : decode b_LS_needBound 4 = .ok (.iload_n 0, 1) := by decide +kernel
theorem d_LS_needBound_5 : decode b_LS_needBound 5 = .ok (.iload_n 1, 1) := by decide +kernel
theorem d_LS_needBound_6 : decode b_LS_needBound 6 = .ok (.if_icmp .le 11, 3) := by decide +kernel
theorem d_LS_needBound_17 : decode b_LS_needBound 17 = .ok (.return_, 1) := by decide +kernel
theorem d_LS_needColumn_0 : decode b_LS_needColumn 0 = .ok (.aload_n 0, 1) := by decide +kernel
theorem d_LS_needColumn_1 : decode b_LS_needColumn 1 = .ok (.iload_n 1, 1) := by decide +kernel
theorem d_LS_needColumn_2 : decode b_LS_needColumn 2 = .ok (.invokevirtual 228, 3) := by decide +kernel
theorem d_LS_needColumn_5 : decode b_LS_needColumn 5 = .ok (.ifCond .ne 11, 3) := by decide +kernel
theorem d_LS_needColumn_16 : decode b_LS_needColumn 16 = .ok (.return_, 1) := by decide +kernel
theorem d_LS_needSystem_0 : decode b_LS_needSystem 0 = .ok (.aload_n 0, 1) := by decide +kernel
theorem d_LS_needSystem_1 : decode b_LS_needSystem 1 = .ok (.getfield 77, 3) := by decide +kernel
theorem d_LS_needSystem_4 : decode b_LS_needSystem 4 = .ok (.ifCond .ne 11, 3) := by decide +kernel
theorem d_LS_needSystem_15 : decode b_LS_needSystem 15 = .ok (.return_, 1) := by decide +kernel
theorem d_LS_needTellable_0 : decode b_LS_needTellable 0 = .ok (.iload_n 0, 1) := by decide +kernel
theorem d_LS_needTellable_1 : decode b_LS_needTellable 1 = .ok (.bipush (-99), 2) := by decide +kernel
theorem d_LS_needTellable_3 : decode b_LS_needTellable 3 = .ok (.if_icmp .lt 9, 3) := by decide +kernel
theorem d_LS_needTellable_6 : decode b_LS_needTellable 6 = .ok (.iload_n 0, 1) := by decide +kernel
theorem d_LS_needTellable_7 : decode b_LS_needTellable 7 = .ok (.bipush 99, 2) := by decide +kernel
theorem d_LS_needTellable_9 : decode b_LS_needTellable 9 = .ok (.if_icmp .le 11, 3) := by decide +kernel
theorem d_LS_needTellable_20 : decode b_LS_needTellable 20 = .ok (.return_, 1) := by decide +kernel
theorem d_LS_place_0 : decode b_LS_place 0 = .ok (.aload_n 0, 1) := by decide +kernel
theorem d_LS_place_1 : decode b_LS_place 1 = .ok (.getfield 87, 3) := by decide +kernel
theorem d_LS_place_4 : decode b_LS_place 4 = .ok (.ireturn, 1) := by decide +kernel
theorem d_LS_sizeOf_0 : decode b_LS_sizeOf 0 = .ok (.iconst 0, 1) := by decide +kernel
theorem d_LS_sizeOf_1 : decode b_LS_sizeOf 1 = .ok (.istore_n 1, 1) := by decide +kernel
theorem d_LS_sizeOf_2 : decode b_LS_sizeOf 2 = .ok (.aload_n 0, 1) := by decide +kernel
theorem d_LS_sizeOf_3 : decode b_LS_sizeOf 3 = .ok (.astore_n 2, 1) := by decide +kernel
theorem d_LS_sizeOf_4 : decode b_LS_sizeOf 4 = .ok (.aload_n 2, 1) := by decide +kernel
theorem d_LS_sizeOf_5 : decode b_LS_sizeOf 5 = .ok (.arraylength, 1) := by decide +kernel
theorem d_LS_sizeOf_6 : decode b_LS_sizeOf 6 = .ok (.istore_n 3, 1) := by decide +kernel
theorem d_LS_sizeOf_7 : decode b_LS_sizeOf 7 = .ok (.iconst 0, 1) := by decide +kernel
theorem d_LS_sizeOf_8 : decode b_LS_sizeOf 8 = .ok (.istore 4, 2) := by decide +kernel
theorem d_LS_sizeOf_10 : decode b_LS_sizeOf 10 = .ok (.iload 4, 2) := by decide +kernel
theorem d_LS_sizeOf_12 : decode b_LS_sizeOf 12 = .ok (.iload_n 3, 1) := by decide +kernel
theorem d_LS_sizeOf_13 : decode b_LS_sizeOf 13 = .ok (.if_icmp .ge 23, 3) := by decide +kernel
theorem d_LS_sizeOf_16 : decode b_LS_sizeOf 16 = .ok (.aload_n 2, 1) := by decide +kernel
theorem d_LS_sizeOf_17 : decode b_LS_sizeOf 17 = .ok (.iload 4, 2) := by decide +kernel
theorem d_LS_sizeOf_19 : decode b_LS_sizeOf 19 = .ok (.iaload, 1) := by decide +kernel
theorem d_LS_sizeOf_20 : decode b_LS_sizeOf 20 = .ok (.istore 5, 2) := by decide +kernel
theorem d_LS_sizeOf_22 : decode b_LS_sizeOf 22 = .ok (.iload_n 1, 1) := by decide +kernel
theorem d_LS_sizeOf_23 : decode b_LS_sizeOf 23 = .ok (.iload 5, 2) := by decide +kernel
theorem d_LS_sizeOf_25 : decode b_LS_sizeOf 25 = .ok (.invokestatic 269, 3) := by decide +kernel
theorem d_LS_sizeOf_28 : decode b_LS_sizeOf 28 = .ok (.iadd, 1) := by decide +kernel
theorem d_LS_sizeOf_29 : decode b_LS_sizeOf 29 = .ok (.istore_n 1, 1) := by decide +kernel
theorem d_LS_sizeOf_30 : decode b_LS_sizeOf 30 = .ok (.iinc 4 1, 3) := by decide +kernel
theorem d_LS_sizeOf_33 : decode b_LS_sizeOf 33 = .ok (.goto (-23), 3) := by decide +kernel
theorem d_LS_sizeOf_36 : decode b_LS_sizeOf 36 = .ok (.iload_n 1, 1) := by decide +kernel
theorem d_LS_sizeOf_37 : decode b_LS_sizeOf 37 = .ok (.ireturn, 1) := by decide +kernel
theorem d_LS_type_0 : decode b_LS_type 0 = .ok (.aload_n 0, 1) := by decide +kernel
theorem d_LS_type_1 : decode b_LS_type 1 = .ok (.getfield 10, 3) := by decide +kernel
theorem d_LS_type_4 : decode b_LS_type 4 = .ok (.lload_n 1, 1) := by decide +kernel
theorem d_LS_type_5 : decode b_LS_type 5 = .ok (.iload_n 3, 1) := by decide +kernel
theorem d_LS_type_6 : decode b_LS_type 6 = .ok (.invokevirtual 92, 3) := by decide +kernel
theorem d_LS_type_9 : decode b_LS_type 9 = .ok (.ifCond .eq 13, 3) := by decide +kernel
theorem d_LS_type_12 : decode b_LS_type 12 = .ok (.aload_n 0, 1) := by decide +kernel
theorem d_LS_type_13 : decode b_LS_type 13 = .ok (.getfield 10, 3) := by decide +kernel
theorem d_LS_type_16 : decode b_LS_type 16 = .ok (.getfield 96, 3) := by decide +kernel
theorem d_LS_type_19 : decode b_LS_type 19 = .ok (.goto 4, 3) := by decide +kernel
theorem d_LS_type_22 : decode b_LS_type 22 = .ok (.iconst (-1), 1) := by decide +kernel
theorem d_LS_type_23 : decode b_LS_type 23 = .ok (.ireturn, 1) := by decide +kernel
