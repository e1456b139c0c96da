theorem d_SE_canBeFilled_0 : decode b_SE_canBeFilled 0 = .ok (.iload_n 1, 1) := by decide +kernel
theorem d_SE_canBeFilled_1 : decode b_SE_canBeFilled 1 = .ok (.aload_n 0, 1) := by decide +kernel
theorem d_SE_canBeFilled_2 : decode b_SE_canBeFilled 2 = .ok (.getfield 33, 3) := by decide +kernel
theorem d_SE_canBeFilled_5 : decode b_SE_canBeFilled 5 = .ok (.if_icmp .lt 9, 3) := by decide +kernel
theorem d_SE_canBeFilled_8 : decode b_SE_canBeFilled 8 = .ok (.iload_n 2, 1) := by decide +kernel
theorem d_SE_canBeFilled_9 : decode b_SE_canBeFilled 9 = .ok (.ifCond .eq 5, 3) := by decide +kernel
theorem d_SE_canBeFilled_12 : decode b_SE_canBeFilled 12 = .ok (.iconst 0, 1) := by decide +kernel
theorem d_SE_canBeFilled_13 : decode b_SE_canBeFilled 13 = .ok (.ireturn, 1) := by decide +kernel
theorem d_SE_canBeFilled_14 : decode b_SE_canBeFilled 14 = .ok (.iconst 0, 1) := by decide +kernel
theorem d_SE_canBeFilled_15 : decode b_SE_canBeFilled 15 = .ok (.istore_n 3, 1) := by decide +kernel
theorem d_SE_canBeFilled_16 : decode b_SE_canBeFilled 16 = .ok (.iload_n 3, 1) := by decide +kernel
theorem d_SE_canBeFilled_17 : decode b_SE_canBeFilled 17 = .ok (.aload_n 0, 1) := by decide +kernel
theorem d_SE_canBeFilled_18 : decode b_SE_canBeFilled 18 = .ok (.getfield 29, 3) := by decide +kernel
theorem d_SE_canBeFilled_21 : decode b_SE_canBeFilled 21 = .ok (.if_icmp .ge 49, 3) := by decide +kernel
theorem d_SE_canBeFilled_24 : decode b_SE_canBeFilled 24 = .ok (.aload_n 0, 1) := by decide +kernel
theorem d_SE_canBeFilled_25 : decode b_SE_canBeFilled 25 = .ok (.getfield 15, 3) := by decide +kernel
theorem d_SE_canBeFilled_28 : decode b_SE_canBeFilled 28 = .ok (.iload_n 3, 1) := by decide +kernel
theorem d_SE_canBeFilled_29 : decode b_SE_canBeFilled 29 = .ok (.iaload, 1) := by decide +kernel
theorem d_SE_canBeFilled_30 : decode b_SE_canBeFilled 30 = .ok (.iload_n 2, 1) := by decide +kernel
theorem d_SE_canBeFilled_31 : decode b_SE_canBeFilled 31 = .ok (.aload_n 0, 1) := by decide +kernel
theorem d_SE_canBeFilled_32 : decode b_SE_canBeFilled 32 = .ok (.getfield 20, 3) := by decide +kernel
theorem d_SE_canBeFilled_35 : decode b_SE_canBeFilled 35 = .ok (.iload_n 3, 1) := by decide +kernel
theorem d_SE_canBeFilled_36 : decode b_SE_canBeFilled 36 = .ok (.aaload, 1) := by decide +kernel
theorem d_SE_canBeFilled_37 : decode b_SE_canBeFilled 37 = .ok (.iload_n 1, 1) := by decide +kernel
theorem d_SE_canBeFilled_38 : decode b_SE_canBeFilled 38 = .ok (.iaload, 1) := by decide +kernel
theorem d_SE_canBeFilled_39 : decode b_SE_canBeFilled 39 = .ok (.imul, 1) := by decide +kernel
theorem d_SE_canBeFilled_40 : decode b_SE_canBeFilled 40 = .ok (.if_icmp .lt 22, 3) := by decide +kernel
theorem d_SE_canBeFilled_43 : decode b_SE_canBeFilled 43 = .ok (.aload_n 0, 1) := by decide +kernel
theorem d_SE_canBeFilled_44 : decode b_SE_canBeFilled 44 = .ok (.getfield 15, 3) := by decide +kernel
theorem d_SE_canBeFilled_47 : decode b_SE_canBeFilled 47 = .ok (.iload_n 3, 1) := by decide +kernel
theorem d_SE_canBeFilled_48 : decode b_SE_canBeFilled 48 = .ok (.iaload, 1) := by decide +kernel
theorem d_SE_canBeFilled_49 : decode b_SE_canBeFilled 49 = .ok (.iload_n 2, 1) := by decide +kernel
theorem d_SE_canBeFilled_50 : decode b_SE_canBeFilled 50 = .ok (.aload_n 0, 1) := by decide +kernel
theorem d_SE_canBeFilled_51 : decode b_SE_canBeFilled 51 = .ok (.getfield 23, 3) := by decide +kernel
theorem d_SE_canBeFilled_54 : decode b_SE_canBeFilled 54 = .ok (.iload_n 3, 1) := by decide +kernel
theorem d_SE_canBeFilled_55 : decode b_SE_canBeFilled 55 = .ok (.aaload, 1) := by decide +kernel
theorem d_SE_canBeFilled_56 : decode b_SE_canBeFilled 56 = .ok (.iload_n 1, 1) := by decide +kernel
theorem d_SE_canBeFilled_57 : decode b_SE_canBeFilled 57 = .ok (.iaload, 1) := by decide +kernel
theorem d_SE_canBeFilled_58 : decode b_SE_canBeFilled 58 = .ok (.imul, 1) := by decide +kernel
theorem d_SE_canBeFilled_59 : decode b_SE_canBeFilled 59 = .ok (.if_icmp .le 5, 3) := by decide +kernel
theorem d_SE_canBeFilled_62 : decode b_SE_canBeFilled 62 = .ok (.iconst 0, 1) := by decide +kernel
theorem d_SE_canBeFilled_63 : decode b_SE_canBeFilled 63 = .ok (.ireturn, 1) := by decide +kernel
theorem d_SE_canBeFilled_64 : decode b_SE_canBeFilled 64 = .ok (.iinc 3 1, 3) := by decide +kernel
theorem d_SE_canBeFilled_67 : decode b_SE_canBeFilled 67 = .ok (.goto (-51), 3) := by decide +kernel
theorem d_SE_canBeFilled_70 : decode b_SE_canBeFilled 70 = .ok (.iconst 1, 1) := by decide +kernel
theorem d_SE_canBeFilled_71 : decode b_SE_canBeFilled 71 = .ok (.ireturn, 1) := by decide +kernel
theorem d_SE_findReach_0 : decode b_SE_findReach 0 = .ok (.aload_n 0, 1) := by decide +kernel
theorem d_SE_findReach_1 : decode b_SE_findReach 1 = .ok (.getfield 33, 3) := by decide +kernel
theorem d_SE_findReach_4 : decode b_SE_findReach 4 = .ok (.iconst 1, 1) := by decide +kernel
theorem d_SE_findReach_5 : decode b_SE_findReach 5 = .ok (.isub, 1) := by decide +kernel
theorem d_SE_findReach_6 : decode b_SE_findReach 6 = .ok (.istore_n 2, 1) := by decide +kernel
theorem d_SE_findReach_7 : decode b_SE_findReach 7 = .ok (.iload_n 2, 1) := by decide +kernel
theorem d_SE_findReach_8 : decode b_SE_findReach 8 = .ok (.ifCond .lt 135, 3) := by decide +kernel
theorem d_SE_findReach_11 : decode b_SE_findReach 11 = .ok (.aload_n 0, 1) := by decide +kernel
theorem d_SE_findReach_12 : decode b_SE_findReach 12 = .ok (.getfield 36, 3) := by decide +kernel
theorem d_SE_findReach_15 : decode b_SE_findReach 15 = .ok (.ifCond .eq 17, 3) := by decide +kernel
theorem d_SE_findReach_18 : decode b_SE_findReach 18 = .ok (.aload_n 0, 1) := by decide +kernel
theorem d_SE_findReach_19 : decode b_SE_findReach 19 = .ok (.getfield 26, 3) := by decide +kernel
theorem d_SE_findReach_22 : decode b_SE_findReach 22 = .ok (.iload_n 1, 1) := by decide +kernel
theorem d_SE_findReach_23 : decode b_SE_findReach 23 = .ok (.aaload, 1) := by decide +kernel
theorem d_SE_findReach_24 : decode b_SE_findReach 24 = .ok (.iload_n 2, 1) := by decide +kernel
theorem d_SE_findReach_25 : decode b_SE_findReach 25 = .ok (.iaload, 1) := by decide +kernel
theorem d_SE_findReach_26 : decode b_SE_findReach 26 = .ok (.invokestatic 60, 3) := by decide +kernel
theorem d_SE_findReach_29 : decode b_SE_findReach 29 = .ok (.goto 11, 3) := by decide +kernel
theorem d_SE_findReach_32 : decode b_SE_findReach 32 = .ok (.aload_n 0, 1) := by decide +kernel
theorem d_SE_findReach_33 : decode b_SE_findReach 33 = .ok (.getfield 26, 3) := by decide +kernel
theorem d_SE_findReach_36 : decode b_SE_findReach 36 = .ok (.iload_n 1, 1) := by decide +kernel
theorem d_SE_findReach_37 : decode b_SE_findReach 37 = .ok (.aaload, 1) := by decide +kernel
theorem d_SE_findReach_38 : decode b_SE_findReach 38 = .ok (.iload_n 2, 1) := by decide +kernel
theorem d_SE_findReach_39 : decode b_SE_findReach 39 = .ok (.iaload, 1) := by decide +kernel
theorem d_SE_findReach_40 : decode b_SE_findReach 40 = .ok (.istore_n 3, 1) := by decide +kernel
theorem d_SE_findReach_41 : decode b_SE_findReach 41 = .ok (.aload_n 0, 1) := by decide +kernel
theorem d_SE_findReach_42 : decode b_SE_findReach 42 = .ok (.getfield 36, 3) := by decide +kernel
theorem d_SE_findReach_45 : decode b_SE_findReach 45 = .ok (.ifCond .eq 8, 3) := by decide +kernel
theorem d_SE_findReach_48 : decode b_SE_findReach 48 = .ok (.iload_n 3, 1) := by decide +kernel
theorem d_SE_findReach_49 : decode b_SE_findReach 49 = .ok (.ineg, 1) := by decide +kernel
theorem d_SE_findReach_50 : decode b_SE_findReach 50 = .ok (.goto 4, 3) := by decide +kernel
theorem d_SE_findReach_53 : decode b_SE_findReach 53 = .ok (.iload_n 3, 1) := by decide +kernel
theorem d_SE_findReach_54 : decode b_SE_findReach 54 = .ok (.istore 4, 2) := by decide +kernel
theorem d_SE_findReach_56 : decode b_SE_findReach 56 = .ok (.iload_n 2, 1) := by decide +kernel
theorem d_SE_findReach_57 : decode b_SE_findReach 57 = .ok (.aload_n 0, 1) := by decide +kernel
theorem d_SE_findReach_58 : decode b_SE_findReach 58 = .ok (.getfield 33, 3) := by decide +kernel
theorem d_SE_findReach_61 : decode b_SE_findReach 61 = .ok (.iconst 1, 1) := by decide +kernel
theorem d_SE_findReach_62 : decode b_SE_findReach 62 = .ok (.isub, 1) := by decide +kernel
theorem d_SE_findReach_63 : decode b_SE_findReach 63 = .ok (.if_icmp .ne 7, 3) := by decide +kernel
theorem d_SE_findReach_66 : decode b_SE_findReach 66 = .ok (.iconst 1, 1) := by decide +kernel
theorem d_SE_findReach_67 : decode b_SE_findReach 67 = .ok (.goto 4, 3) := by decide +kernel
theorem d_SE_findReach_70 : decode b_SE_findReach 70 = .ok (.iconst 0, 1) := by decide +kernel
theorem d_SE_findReach_71 : decode b_SE_findReach 71 = .ok (.istore 5, 2) := by decide +kernel
theorem d_SE_findReach_73 : decode b_SE_findReach 73 = .ok (.aload_n 0, 1) := by decide +kernel
theorem d_SE_findReach_74 : decode b_SE_findReach 74 = .ok (.getfield 20, 3) := by decide +kernel
theorem d_SE_findReach_77 : decode b_SE_findReach 77 = .ok (.iload_n 1, 1) := by decide +kernel
theorem d_SE_findReach_78 : decode b_SE_findReach 78 = .ok (.aaload, 1) := by decide +kernel
theorem d_SE_findReach_79 : decode b_SE_findReach 79 = .ok (.iload_n 2, 1) := by decide +kernel
theorem d_SE_findReach_80 : decode b_SE_findReach 80 = .ok (.iload 5, 2) := by decide +kernel
theorem d_SE_findReach_82 : decode b_SE_findReach 82 = .ok (.ifCond .eq 8, 3) := by decide +kernel
theorem d_SE_findReach_85 : decode b_SE_findReach 85 = .ok (.iload 4, 2) := by decide +kernel
theorem d_SE_findReach_87 : decode b_SE_findReach 87 = .ok (.goto 18, 3) := by decide +kernel
theorem d_SE_findReach_90 : decode b_SE_findReach 90 = .ok (.iload 4, 2) := by decide +kernel
theorem d_SE_findReach_92 : decode b_SE_findReach 92 = .ok (.aload_n 0, 1) := by decide +kernel
theorem d_SE_findReach_93 : decode b_SE_findReach 93 = .ok (.getfield 20, 3) := by decide +kernel
theorem d_SE_findReach_96 : decode b_SE_findReach 96 = .ok (.iload_n 1, 1) := by decide +kernel
theorem d_SE_findReach_97 : decode b_SE_findReach 97 = .ok (.aaload, 1) := by decide +kernel
theorem d_SE_findReach_98 : decode b_SE_findReach 98 = .ok (.iload_n 2, 1) := by decide +kernel
theorem d_SE_findReach_99 : decode b_SE_findReach 99 = .ok (.iconst 1, 1) := by decide +kernel
theorem d_SE_findReach_100 : decode b_SE_findReach 100 = .ok (.iadd, 1) := by decide +kernel
theorem d_SE_findReach_101 : decode b_SE_findReach 101 = .ok (.iaload, 1) := by decide +kernel
theorem d_SE_findReach_102 : decode b_SE_findReach 102 = .ok (.invokestatic 66, 3) := by decide +kernel
theorem d_SE_findReach_105 : decode b_SE_findReach 105 = .ok (.iastore, 1) := by decide +kernel
theorem d_SE_findReach_106 : decode b_SE_findReach 106 = .ok (.aload_n 0, 1) := by decide +kernel
theorem d_SE_findReach_107 : decode b_SE_findReach 107 = .ok (.getfield 23, 3) := by decide +kernel
theorem d_SE_findReach_110 : decode b_SE_findReach 110 = .ok (.iload_n 1, 1) := by decide +kernel
theorem d_SE_findReach_111 : decode b_SE_findReach 111 = .ok (.aaload, 1) := by decide +kernel
theorem d_SE_findReach_112 : decode b_SE_findReach 112 = .ok (.iload_n 2, 1) := by decide +kernel
theorem d_SE_findReach_113 : decode b_SE_findReach 113 = .ok (.iload 5, 2) := by decide +kernel
theorem d_SE_findReach_115 : decode b_SE_findReach 115 = .ok (.ifCond .eq 7, 3) := by decide +kernel
theorem d_SE_findReach_118 : decode b_SE_findReach 118 = .ok (.iload_n 3, 1) := by decide +kernel
theorem d_SE_findReach_119 : decode b_SE_findReach 119 = .ok (.goto 17, 3) := by decide +kernel
theorem d_SE_findReach_122 : decode b_SE_findReach 122 = .ok (.iload_n 3, 1) := by decide +kernel
theorem d_SE_findReach_123 : decode b_SE_findReach 123 = .ok (.aload_n 0, 1) := by decide +kernel
theorem d_SE_findReach_124 : decode b_SE_findReach 124 = .ok (.getfield 23, 3) := by decide +kernel
theorem d_SE_findReach_127 : decode b_SE_findReach 127 = .ok (.iload_n 1, 1) := by decide +kernel
theorem d_SE_findReach_128 : decode b_SE_findReach 128 = .ok (.aaload, 1) := by decide +kernel
theorem d_SE_findReach_129 : decode b_SE_findReach 129 = .ok (.iload_n 2, 1) := by decide +kernel
theorem d_SE_findReach_130 : decode b_SE_findReach 130 = .ok (.iconst 1, 1) := by decide +kernel
theorem d_SE_findReach_131 : decode b_SE_findReach 131 = .ok (.iadd, 1) := by decide +kernel
theorem d_SE_findReach_132 : decode b_SE_findReach 132 = .ok (.iaload, 1) := by decide +kernel
theorem d_SE_findReach_133 : decode b_SE_findReach 133 = .ok (.invokestatic 70, 3) := by decide +kernel
theorem d_SE_findReach_136 : decode b_SE_findReach 136 = .ok (.iastore, 1) := by decide +kernel
theorem d_SE_findReach_137 : decode b_SE_findReach 137 = .ok (.iinc 2 (-1), 3) := by decide +kernel
theorem d_SE_findReach_140 : decode b_SE_findReach 140 = .ok (.goto (-133), 3) := by decide +kernel
theorem d_SE_findReach_143 : decode b_SE_findReach 143 = .ok (.return_, 1) := by decide +kernel
theorem d_SE_put_0 : decode b_SE_put 0 = .ok (.iload_n 2, 1) := by decide +kernel
theorem d_SE_put_1 : decode b_SE_put 1 = .ok (.aload_n 0, 1) := by decide +kernel
theorem d_SE_put_2 : decode b_SE_put 2 = .ok (.getfield 9, 3) := by decide +kernel
theorem d_SE_put_5 : decode b_SE_put 5 = .ok (.iload_n 1, 1) := by decide +kernel
theorem d_SE_put_6 : decode b_SE_put 6 = .ok (.iaload, 1) := by decide +kernel
theorem d_SE_put_7 : decode b_SE_put 7 = .ok (.isub, 1) := by decide +kernel
theorem d_SE_put_8 : decode b_SE_put 8 = .ok (.istore_n 3, 1) := by decide +kernel
theorem d_SE_put_9 : decode b_SE_put 9 = .ok (.aload_n 0, 1) := by decide +kernel
theorem d_SE_put_10 : decode b_SE_put 10 = .ok (.getfield 9, 3) := by decide +kernel
theorem d_SE_put_13 : decode b_SE_put 13 = .ok (.iload_n 1, 1) := by decide +kernel
theorem d_SE_put_14 : decode b_SE_put 14 = .ok (.iload_n 2, 1) := by decide +kernel
theorem d_SE_put_15 : decode b_SE_put 15 = .ok (.iastore, 1) := by decide +kernel
theorem d_SE_put_16 : decode b_SE_put 16 = .ok (.iconst 0, 1) := by decide +kernel
theorem d_SE_put_17 : decode b_SE_put 17 = .ok (.istore 4, 2) := by decide +kernel
theorem d_SE_put_19 : decode b_SE_put 19 = .ok (.iload 4, 2) := by decide +kernel
theorem d_SE_put_21 : decode b_SE_put 21 = .ok (.aload_n 0, 1) := by decide +kernel
theorem d_SE_put_22 : decode b_SE_put 22 = .ok (.getfield 29, 3) := by decide +kernel
theorem d_SE_put_25 : decode b_SE_put 25 = .ok (.if_icmp .ge 30, 3) := by decide +kernel
