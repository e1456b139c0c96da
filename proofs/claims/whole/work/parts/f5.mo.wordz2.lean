theorem d_MO_isBelow_17 : decode b_MO_isBelow 17 = .ok (.ifCond .eq 90, 3) := by decide +kernel
theorem d_MO_isBelow_20 : decode b_MO_isBelow 20 = .ok (.iload_n 3, 1) := by decide +kernel
theorem d_MO_isBelow_21 : decode b_MO_isBelow 21 = .ok (.aload_n 0, 1) := by decide +kernel
theorem d_MO_isBelow_22 : decode b_MO_isBelow 22 = .ok (.getfield 52, 3) := by decide +kernel
theorem d_MO_isBelow_25 : decode b_MO_isBelow 25 = .ok (.sipush 12000, 3) := by decide +kernel
theorem d_MO_isBelow_28 : decode b_MO_isBelow 28 = .ok (.iload_n 1, 1) := by decide +kernel
theorem d_MO_isBelow_29 : decode b_MO_isBelow 29 = .ok (.imul, 1) := by decide +kernel
theorem d_MO_isBelow_30 : decode b_MO_isBelow 30 = .ok (.bipush 6, 2) := by decide +kernel
theorem d_MO_isBelow_32 : decode b_MO_isBelow 32 = .ok (.iload_n 2, 1) := by decide +kernel
theorem d_MO_isBelow_33 : decode b_MO_isBelow 33 = .ok (.imul, 1) := by decide +kernel
theorem d_MO_isBelow_34 : decode b_MO_isBelow 34 = .ok (.iadd, 1) := by decide +kernel
theorem d_MO_isBelow_35 : decode b_MO_isBelow 35 = .ok (.iload 5, 2) := by decide +kernel
theorem d_MO_isBelow_37 : decode b_MO_isBelow 37 = .ok (.iadd, 1) := by decide +kernel
theorem d_MO_isBelow_38 : decode b_MO_isBelow 38 = .ok (.baload, 1) := by decide +kernel
theorem d_MO_isBelow_39 : decode b_MO_isBelow 39 = .ok (.imul, 1) := by decide +kernel
theorem d_MO_isBelow_40 : decode b_MO_isBelow 40 = .ok (.istore 6, 2) := by decide +kernel
theorem d_MO_isBelow_42 : decode b_MO_isBelow 42 = .ok (.aload_n 0, 1) := by decide +kernel
theorem d_MO_isBelow_43 : decode b_MO_isBelow 43 = .ok (.getfield 78, 3) := by decide +kernel
theorem d_MO_isBelow_46 : decode b_MO_isBelow 46 = .ok (.iload 5, 2) := by decide +kernel
theorem d_MO_isBelow_48 : decode b_MO_isBelow 48 = .ok (.iaload, 1) := by decide +kernel
theorem d_MO_isBelow_49 : decode b_MO_isBelow 49 = .ok (.ifCond .lt 28, 3) := by decide +kernel
theorem d_MO_isBelow_52 : decode b_MO_isBelow 52 = .ok (.iload 6, 2) := by decide +kernel
theorem d_MO_isBelow_54 : decode b_MO_isBelow 54 = .ok (.ifCond .lt 19, 3) := by decide +kernel
theorem d_MO_isBelow_57 : decode b_MO_isBelow 57 = .ok (.iload 6, 2) := by decide +kernel
theorem d_MO_isBelow_59 : decode b_MO_isBelow 59 = .ok (.aload_n 0, 1) := by decide +kernel
theorem d_MO_isBelow_60 : decode b_MO_isBelow 60 = .ok (.getfield 78, 3) := by decide +kernel
theorem d_MO_isBelow_63 : decode b_MO_isBelow 63 = .ok (.iload 5, 2) := by decide +kernel
theorem d_MO_isBelow_65 : decode b_MO_isBelow 65 = .ok (.iaload, 1) := by decide +kernel
theorem d_MO_isBelow_66 : decode b_MO_isBelow 66 = .ok (.if_icmp .gt 7, 3) := by decide +kernel
theorem d_MO_isBelow_69 : decode b_MO_isBelow 69 = .ok (.iconst 1, 1) := by decide +kernel
theorem d_MO_isBelow_70 : decode b_MO_isBelow 70 = .ok (.goto 29, 3) := by decide +kernel
theorem d_MO_isBelow_73 : decode b_MO_isBelow 73 = .ok (.iconst 0, 1) := by decide +kernel
theorem d_MO_isBelow_74 : decode b_MO_isBelow 74 = .ok (.goto 25, 3) := by decide +kernel
theorem d_MO_isBelow_77 : decode b_MO_isBelow 77 = .ok (.iload 6, 2) := by decide +kernel
theorem d_MO_isBelow_79 : decode b_MO_isBelow 79 = .ok (.ifCond .gt 19, 3) := by decide +kernel
theorem d_MO_isBelow_82 : decode b_MO_isBelow 82 = .ok (.iload 6, 2) := by decide +kernel
theorem d_MO_isBelow_84 : decode b_MO_isBelow 84 = .ok (.aload_n 0, 1) := by decide +kernel
theorem d_MO_isBelow_85 : decode b_MO_isBelow 85 = .ok (.getfield 78, 3) := by decide +kernel
theorem d_MO_isBelow_88 : decode b_MO_isBelow 88 = .ok (.iload 5, 2) := by decide +kernel
theorem d_MO_isBelow_90 : decode b_MO_isBelow 90 = .ok (.iaload, 1) := by decide +kernel
theorem d_MO_isBelow_91 : decode b_MO_isBelow 91 = .ok (.if_icmp .lt 7, 3) := by decide +kernel
theorem d_MO_isBelow_94 : decode b_MO_isBelow 94 = .ok (.iconst 1, 1) := by decide +kernel
theorem d_MO_isBelow_95 : decode b_MO_isBelow 95 = .ok (.goto 4, 3) := by decide +kernel
theorem d_MO_isBelow_98 : decode b_MO_isBelow 98 = .ok (.iconst 0, 1) := by decide +kernel
theorem d_MO_isBelow_99 : decode b_MO_isBelow 99 = .ok (.istore 4, 2) := by decide +kernel
theorem d_MO_isBelow_101 : decode b_MO_isBelow 101 = .ok (.iinc 5 1, 3) := by decide +kernel
theorem d_MO_isBelow_104 : decode b_MO_isBelow 104 = .ok (.goto (-98), 3) := by decide +kernel
theorem d_MO_isBelow_107 : decode b_MO_isBelow 107 = .ok (.iload 4, 2) := by decide +kernel
theorem d_MO_isBelow_109 : decode b_MO_isBelow 109 = .ok (.ireturn, 1) := by decide +kernel
theorem d_MO_most_0 : decode b_MO_most 0 = .ok (.aload_n 0, 1) := by decide +kernel
theorem d_MO_most_1 : decode b_MO_most 1 = .ok (.getfield 143, 3) := by decide +kernel
theorem d_MO_most_4 : decode b_MO_most 4 = .ok (.ifCond .ne 7, 3) := by decide +kernel
theorem d_MO_most_7 : decode b_MO_most 7 = .ok (.iconst 0, 1) := by decide +kernel
theorem d_MO_most_8 : decode b_MO_most 8 = .ok (.goto 4, 3) := by decide +kernel
theorem d_MO_most_11 : decode b_MO_most 11 = .ok (.iload_n 1, 1) := by decide +kernel
theorem d_MO_most_12 : decode b_MO_most 12 = .ok (.ireturn, 1) := by decide +kernel
theorem d_MO_next_0 : decode b_MO_next 0 = .ok (.iconst 0, 1) := by decide +kernel
theorem d_MO_next_1 : decode b_MO_next 1 = .ok (.istore_n 2, 1) := by decide +kernel
theorem d_MO_next_2 : decode b_MO_next 2 = .ok (.aload_n 0, 1) := by decide +kernel
theorem d_MO_next_3 : decode b_MO_next 3 = .ok (.getfield 143, 3) := by decide +kernel
theorem d_MO_next_6 : decode b_MO_next 6 = .ok (.iconst 1, 1) := by decide +kernel
theorem d_MO_next_7 : decode b_MO_next 7 = .ok (.isub, 1) := by decide +kernel
theorem d_MO_next_8 : decode b_MO_next 8 = .ok (.istore_n 3, 1) := by decide +kernel
theorem d_MO_next_9 : decode b_MO_next 9 = .ok (.iload_n 3, 1) := by decide +kernel
theorem d_MO_next_10 : decode b_MO_next 10 = .ok (.ifCond .lt 135, 3) := by decide +kernel
theorem d_MO_next_13 : decode b_MO_next 13 = .ok (.aload_n 0, 1) := by decide +kernel
theorem d_MO_next_14 : decode b_MO_next 14 = .ok (.getfield 78, 3) := by decide +kernel
theorem d_MO_next_17 : decode b_MO_next 17 = .ok (.iload_n 3, 1) := by decide +kernel
theorem d_MO_next_18 : decode b_MO_next 18 = .ok (.iaload, 1) := by decide +kernel
theorem d_MO_next_19 : decode b_MO_next 19 = .ok (.istore 4, 2) := by decide +kernel
theorem d_MO_next_21 : decode b_MO_next 21 = .ok (.iload_n 2, 1) := by decide +kernel
theorem d_MO_next_22 : decode b_MO_next 22 = .ok (.iload 4, 2) := by decide +kernel
theorem d_MO_next_24 : decode b_MO_next 24 = .ok (.ifCond .ge 9, 3) := by decide +kernel
theorem d_MO_next_27 : decode b_MO_next 27 = .ok (.iload 4, 2) := by decide +kernel
theorem d_MO_next_29 : decode b_MO_next 29 = .ok (.ineg, 1) := by decide +kernel
theorem d_MO_next_30 : decode b_MO_next 30 = .ok (.goto 5, 3) := by decide +kernel
theorem d_MO_next_33 : decode b_MO_next 33 = .ok (.iload 4, 2) := by decide +kernel
theorem d_MO_next_35 : decode b_MO_next 35 = .ok (.iadd, 1) := by decide +kernel
theorem d_MO_next_36 : decode b_MO_next 36 = .ok (.istore 5, 2) := by decide +kernel
theorem d_MO_next_38 : decode b_MO_next 38 = .ok (.iload 4, 2) := by decide +kernel
theorem d_MO_next_40 : decode b_MO_next 40 = .ok (.iconst 1, 1) := by decide +kernel
theorem d_MO_next_41 : decode b_MO_next 41 = .ok (.iadd, 1) := by decide +kernel
theorem d_MO_next_42 : decode b_MO_next 42 = .ok (.istore 6, 2) := by decide +kernel
theorem d_MO_next_44 : decode b_MO_next 44 = .ok (.iload 6, 2) := by decide +kernel
theorem d_MO_next_46 : decode b_MO_next 46 = .ok (.ifCond .ge 9, 3) := by decide +kernel
theorem d_MO_next_49 : decode b_MO_next 49 = .ok (.iload 6, 2) := by decide +kernel
theorem d_MO_next_51 : decode b_MO_next 51 = .ok (.ineg, 1) := by decide +kernel
theorem d_MO_next_52 : decode b_MO_next 52 = .ok (.goto 5, 3) := by decide +kernel
theorem d_MO_next_55 : decode b_MO_next 55 = .ok (.iload 6, 2) := by decide +kernel
theorem d_MO_next_57 : decode b_MO_next 57 = .ok (.istore 7, 2) := by decide +kernel
theorem d_MO_next_59 : decode b_MO_next 59 = .ok (.iload_n 3, 1) := by decide +kernel
theorem d_MO_next_60 : decode b_MO_next 60 = .ok (.aload_n 0, 1) := by decide +kernel
theorem d_MO_next_61 : decode b_MO_next 61 = .ok (.getfield 143, 3) := by decide +kernel
theorem d_MO_next_64 : decode b_MO_next 64 = .ok (.iconst 1, 1) := by decide +kernel
theorem d_MO_next_65 : decode b_MO_next 65 = .ok (.isub, 1) := by decide +kernel
theorem d_MO_next_66 : decode b_MO_next 66 = .ok (.if_icmp .ne 7, 3) := by decide +kernel
theorem d_MO_next_69 : decode b_MO_next 69 = .ok (.iconst 1, 1) := by decide +kernel
theorem d_MO_next_70 : decode b_MO_next 70 = .ok (.goto 4, 3) := by decide +kernel
theorem d_MO_next_73 : decode b_MO_next 73 = .ok (.iconst 0, 1) := by decide +kernel
theorem d_MO_next_74 : decode b_MO_next 74 = .ok (.istore 8, 2) := by decide +kernel
theorem d_MO_next_76 : decode b_MO_next 76 = .ok (.iload 8, 2) := by decide +kernel
theorem d_MO_next_78 : decode b_MO_next 78 = .ok (.ifCond .eq 23, 3) := by decide +kernel
theorem d_MO_next_81 : decode b_MO_next 81 = .ok (.iload_n 1, 1) := by decide +kernel
theorem d_MO_next_82 : decode b_MO_next 82 = .ok (.ifCond .eq 19, 3) := by decide +kernel
theorem d_MO_next_85 : decode b_MO_next 85 = .ok (.iload 4, 2) := by decide +kernel
theorem d_MO_next_87 : decode b_MO_next 87 = .ok (.ifCond .ge 14, 3) := by decide +kernel
theorem d_MO_next_90 : decode b_MO_next 90 = .ok (.aload_n 0, 1) := by decide +kernel
theorem d_MO_next_91 : decode b_MO_next 91 = .ok (.getfield 78, 3) := by decide +kernel
theorem d_MO_next_94 : decode b_MO_next 94 = .ok (.iload_n 3, 1) := by decide +kernel
theorem d_MO_next_95 : decode b_MO_next 95 = .ok (.iload 4, 2) := by decide +kernel
theorem d_MO_next_97 : decode b_MO_next 97 = .ok (.ineg, 1) := by decide +kernel
theorem d_MO_next_98 : decode b_MO_next 98 = .ok (.iastore, 1) := by decide +kernel
theorem d_MO_next_99 : decode b_MO_next 99 = .ok (.iconst 1, 1) := by decide +kernel
theorem d_MO_next_100 : decode b_MO_next 100 = .ok (.ireturn, 1) := by decide +kernel
theorem d_MO_next_101 : decode b_MO_next 101 = .ok (.iload 8, 2) := by decide +kernel
theorem d_MO_next_103 : decode b_MO_next 103 = .ok (.ifCond .ne 33, 3) := by decide +kernel
theorem d_MO_next_106 : decode b_MO_next 106 = .ok (.iload 7, 2) := by decide +kernel
theorem d_MO_next_108 : decode b_MO_next 108 = .ok (.iload 5, 2) := by decide +kernel
theorem d_MO_next_110 : decode b_MO_next 110 = .ok (.if_icmp .gt 26, 3) := by decide +kernel
theorem d_MO_next_113 : decode b_MO_next 113 = .ok (.aload_n 0, 1) := by decide +kernel
theorem d_MO_next_114 : decode b_MO_next 114 = .ok (.getfield 78, 3) := by decide +kernel
theorem d_MO_next_117 : decode b_MO_next 117 = .ok (.iload_n 3, 1) := by decide +kernel
theorem d_MO_next_118 : decode b_MO_next 118 = .ok (.iload 6, 2) := by decide +kernel
theorem d_MO_next_120 : decode b_MO_next 120 = .ok (.iastore, 1) := by decide +kernel
theorem d_MO_next_121 : decode b_MO_next 121 = .ok (.aload_n 0, 1) := by decide +kernel
theorem d_MO_next_122 : decode b_MO_next 122 = .ok (.iload_n 3, 1) := by decide +kernel
theorem d_MO_next_123 : decode b_MO_next 123 = .ok (.iconst 1, 1) := by decide +kernel
theorem d_MO_next_124 : decode b_MO_next 124 = .ok (.iadd, 1) := by decide +kernel
theorem d_MO_next_125 : decode b_MO_next 125 = .ok (.iload 5, 2) := by decide +kernel
theorem d_MO_next_127 : decode b_MO_next 127 = .ok (.iload 7, 2) := by decide +kernel
theorem d_MO_next_129 : decode b_MO_next 129 = .ok (.isub, 1) := by decide +kernel
theorem d_MO_next_130 : decode b_MO_next 130 = .ok (.iload_n 1, 1) := by decide +kernel
theorem d_MO_next_131 : decode b_MO_next 131 = .ok (.invokevirtual 206, 3) := by decide +kernel
theorem d_MO_next_134 : decode b_MO_next 134 = .ok (.iconst 1, 1) := by decide +kernel
theorem d_MO_next_135 : decode b_MO_next 135 = .ok (.ireturn, 1) := by decide +kernel
theorem d_MO_next_136 : decode b_MO_next 136 = .ok (.iload 5, 2) := by decide +kernel
theorem d_MO_next_138 : decode b_MO_next 138 = .ok (.istore_n 2, 1) := by decide +kernel
theorem d_MO_next_139 : decode b_MO_next 139 = .ok (.iinc 3 (-1), 3) := by decide +kernel
theorem d_MO_next_142 : decode b_MO_next 142 = .ok (.goto (-133), 3) := by decide +kernel
theorem d_MO_next_145 : decode b_MO_next 145 = .ok (.iconst 0, 1) := by decide +kernel
theorem d_MO_next_146 : decode b_MO_next 146 = .ok (.ireturn, 1) := by decide +kernel
theorem d_MO_put_0 : decode b_MO_put 0 = .ok (.iconst 0, 1) := by decide +kernel
theorem d_MO_put_1 : decode b_MO_put 1 = .ok (.istore_n 2, 1) := by decide +kernel
theorem d_MO_put_2 : decode b_MO_put 2 = .ok (.iload_n 2, 1) := by decide +kernel
theorem d_MO_put_3 : decode b_MO_put 3 = .ok (.aload_n 0, 1) := by decide +kernel
theorem d_MO_put_4 : decode b_MO_put 4 = .ok (.getfield 143, 3) := by decide +kernel
theorem d_MO_put_7 : decode b_MO_put 7 = .ok (.if_icmp .ge 38, 3) := by decide +kernel
theorem d_MO_put_10 : decode b_MO_put 10 = .ok (.aload_n 0, 1) := by decide +kernel
theorem d_MO_put_11 : decode b_MO_put 11 = .ok (.getfield 52, 3) := by decide +kernel
theorem d_MO_put_14 : decode b_MO_put 14 = .ok (.sipush 12000, 3) := by decide +kernel
