theorem d_MO_begin_0 : decode b_MO_begin 0 = .ok (.iconst 0, 1) := by decide +kernel
theorem d_MO_begin_1 : decode b_MO_begin 1 = .ok (.istore_n 3, 1) := by decide +kernel
theorem d_MO_begin_2 : decode b_MO_begin 2 = .ok (.iload_n 3, 1) := by decide +kernel
theorem d_MO_begin_3 : decode b_MO_begin 3 = .ok (.bipush 6, 2) := by decide +kernel
theorem d_MO_begin_5 : decode b_MO_begin 5 = .ok (.if_icmp .ge 16, 3) := by decide +kernel
theorem d_MO_begin_8 : decode b_MO_begin 8 = .ok (.aload_n 0, 1) := by decide +kernel
theorem d_MO_begin_9 : decode b_MO_begin 9 = .ok (.getfield 78, 3) := by decide +kernel
theorem d_MO_begin_12 : decode b_MO_begin 12 = .ok (.iload_n 3, 1) := by decide +kernel
theorem d_MO_begin_13 : decode b_MO_begin 13 = .ok (.iconst 0, 1) := by decide +kernel
theorem d_MO_begin_14 : decode b_MO_begin 14 = .ok (.iastore, 1) := by decide +kernel
theorem d_MO_begin_15 : decode b_MO_begin 15 = .ok (.iinc 3 1, 3) := by decide +kernel
theorem d_MO_begin_18 : decode b_MO_begin 18 = .ok (.goto (-16), 3) := by decide +kernel
theorem d_MO_begin_21 : decode b_MO_begin 21 = .ok (.iload_n 2, 1) := by decide +kernel
theorem d_MO_begin_22 : decode b_MO_begin 22 = .ok (.ifCond .eq 14, 3) := by decide +kernel
theorem d_MO_begin_25 : decode b_MO_begin 25 = .ok (.aload_n 0, 1) := by decide +kernel
theorem d_MO_begin_26 : decode b_MO_begin 26 = .ok (.getfield 78, 3) := by decide +kernel
theorem d_MO_begin_29 : decode b_MO_begin 29 = .ok (.iconst 0, 1) := by decide +kernel
theorem d_MO_begin_30 : decode b_MO_begin 30 = .ok (.iload_n 1, 1) := by decide +kernel
theorem d_MO_begin_31 : decode b_MO_begin 31 = .ok (.ineg, 1) := by decide +kernel
theorem d_MO_begin_32 : decode b_MO_begin 32 = .ok (.iastore, 1) := by decide +kernel
theorem d_MO_begin_33 : decode b_MO_begin 33 = .ok (.goto 22, 3) := by decide +kernel
theorem d_MO_begin_36 : decode b_MO_begin 36 = .ok (.aload_n 0, 1) := by decide +kernel
theorem d_MO_begin_37 : decode b_MO_begin 37 = .ok (.getfield 143, 3) := by decide +kernel
theorem d_MO_begin_40 : decode b_MO_begin 40 = .ok (.ifCond .le 15, 3) := by decide +kernel
theorem d_MO_begin_43 : decode b_MO_begin 43 = .ok (.aload_n 0, 1) := by decide +kernel
theorem d_MO_begin_44 : decode b_MO_begin 44 = .ok (.getfield 78, 3) := by decide +kernel
theorem d_MO_begin_47 : decode b_MO_begin 47 = .ok (.aload_n 0, 1) := by decide +kernel
theorem d_MO_begin_48 : decode b_MO_begin 48 = .ok (.getfield 143, 3) := by decide +kernel
theorem d_MO_begin_51 : decode b_MO_begin 51 = .ok (.iconst 1, 1) := by decide +kernel
theorem d_MO_begin_52 : decode b_MO_begin 52 = .ok (.isub, 1) := by decide +kernel
theorem d_MO_begin_53 : decode b_MO_begin 53 = .ok (.iload_n 1, 1) := by decide +kernel
theorem d_MO_begin_54 : decode b_MO_begin 54 = .ok (.iastore, 1) := by decide +kernel
theorem d_MO_begin_55 : decode b_MO_begin 55 = .ok (.return_, 1) := by decide +kernel
theorem d_MO_belongs_0 : decode b_MO_belongs 0 = .ok (.iconst 1, 1) := by decide +kernel
theorem d_MO_belongs_1 : decode b_MO_belongs 1 = .ok (.istore_n 2, 1) := by decide +kernel
theorem d_MO_belongs_2 : decode b_MO_belongs 2 = .ok (.iconst 0, 1) := by decide +kernel
theorem d_MO_belongs_3 : decode b_MO_belongs 3 = .ok (.istore_n 3, 1) := by decide +kernel
theorem d_MO_belongs_4 : decode b_MO_belongs 4 = .ok (.aload_n 0, 1) := by decide +kernel
theorem d_MO_belongs_5 : decode b_MO_belongs 5 = .ok (.getfield 143, 3) := by decide +kernel
theorem d_MO_belongs_8 : decode b_MO_belongs 8 = .ok (.iconst 1, 1) := by decide +kernel
theorem d_MO_belongs_9 : decode b_MO_belongs 9 = .ok (.isub, 1) := by decide +kernel
theorem d_MO_belongs_10 : decode b_MO_belongs 10 = .ok (.istore 4, 2) := by decide +kernel
theorem d_MO_belongs_12 : decode b_MO_belongs 12 = .ok (.iload 4, 2) := by decide +kernel
theorem d_MO_belongs_14 : decode b_MO_belongs 14 = .ok (.ifCond .lt 51, 3) := by decide +kernel
theorem d_MO_belongs_17 : decode b_MO_belongs 17 = .ok (.iload_n 2, 1) := by decide +kernel
theorem d_MO_belongs_18 : decode b_MO_belongs 18 = .ok (.ifCond .eq 17, 3) := by decide +kernel
theorem d_MO_belongs_21 : decode b_MO_belongs 21 = .ok (.aload_n 0, 1) := by decide +kernel
theorem d_MO_belongs_22 : decode b_MO_belongs 22 = .ok (.getfield 78, 3) := by decide +kernel
theorem d_MO_belongs_25 : decode b_MO_belongs 25 = .ok (.iload 4, 2) := by decide +kernel
theorem d_MO_belongs_27 : decode b_MO_belongs 27 = .ok (.iaload, 1) := by decide +kernel
theorem d_MO_belongs_28 : decode b_MO_belongs 28 = .ok (.ifCond .ne 7, 3) := by decide +kernel
theorem d_MO_belongs_31 : decode b_MO_belongs 31 = .ok (.iconst 1, 1) := by decide +kernel
theorem d_MO_belongs_32 : decode b_MO_belongs 32 = .ok (.goto 4, 3) := by decide +kernel
theorem d_MO_belongs_35 : decode b_MO_belongs 35 = .ok (.iconst 0, 1) := by decide +kernel
theorem d_MO_belongs_36 : decode b_MO_belongs 36 = .ok (.istore_n 2, 1) := by decide +kernel
theorem d_MO_belongs_37 : decode b_MO_belongs 37 = .ok (.aload_n 0, 1) := by decide +kernel
theorem d_MO_belongs_38 : decode b_MO_belongs 38 = .ok (.getfield 78, 3) := by decide +kernel
theorem d_MO_belongs_41 : decode b_MO_belongs 41 = .ok (.iload 4, 2) := by decide +kernel
theorem d_MO_belongs_43 : decode b_MO_belongs 43 = .ok (.iaload, 1) := by decide +kernel
theorem d_MO_belongs_44 : decode b_MO_belongs 44 = .ok (.ifCond .eq 13, 3) := by decide +kernel
theorem d_MO_belongs_47 : decode b_MO_belongs 47 = .ok (.aload_n 0, 1) := by decide +kernel
theorem d_MO_belongs_48 : decode b_MO_belongs 48 = .ok (.getfield 78, 3) := by decide +kernel
theorem d_MO_belongs_51 : decode b_MO_belongs 51 = .ok (.iload 4, 2) := by decide +kernel
theorem d_MO_belongs_53 : decode b_MO_belongs 53 = .ok (.iaload, 1) := by decide +kernel
theorem d_MO_belongs_54 : decode b_MO_belongs 54 = .ok (.goto 4, 3) := by decide +kernel
theorem d_MO_belongs_57 : decode b_MO_belongs 57 = .ok (.iload_n 3, 1) := by decide +kernel
theorem d_MO_belongs_58 : decode b_MO_belongs 58 = .ok (.istore_n 3, 1) := by decide +kernel
theorem d_MO_belongs_59 : decode b_MO_belongs 59 = .ok (.iinc 4 (-1), 3) := by decide +kernel
theorem d_MO_belongs_62 : decode b_MO_belongs 62 = .ok (.goto (-50), 3) := by decide +kernel
theorem d_MO_belongs_65 : decode b_MO_belongs 65 = .ok (.iload_n 1, 1) := by decide +kernel
theorem d_MO_belongs_66 : decode b_MO_belongs 66 = .ok (.iconst 1, 1) := by decide +kernel
theorem d_MO_belongs_67 : decode b_MO_belongs 67 = .ok (.if_icmp .eq 7, 3) := by decide +kernel
theorem d_MO_belongs_70 : decode b_MO_belongs 70 = .ok (.iload_n 2, 1) := by decide +kernel
theorem d_MO_belongs_71 : decode b_MO_belongs 71 = .ok (.ifCond .ne 33, 3) := by decide +kernel
theorem d_MO_belongs_74 : decode b_MO_belongs 74 = .ok (.iload_n 1, 1) := by decide +kernel
theorem d_MO_belongs_75 : decode b_MO_belongs 75 = .ok (.iconst 2, 1) := by decide +kernel
theorem d_MO_belongs_76 : decode b_MO_belongs 76 = .ok (.if_icmp .ne 7, 3) := by decide +kernel
theorem d_MO_belongs_79 : decode b_MO_belongs 79 = .ok (.iload_n 3, 1) := by decide +kernel
theorem d_MO_belongs_80 : decode b_MO_belongs 80 = .ok (.ifCond .lt 24, 3) := by decide +kernel
theorem d_MO_belongs_83 : decode b_MO_belongs 83 = .ok (.aload_n 0, 1) := by decide +kernel
theorem d_MO_belongs_84 : decode b_MO_belongs 84 = .ok (.aload_n 0, 1) := by decide +kernel
theorem d_MO_belongs_85 : decode b_MO_belongs 85 = .ok (.getfield 78, 3) := by decide +kernel
theorem d_MO_belongs_88 : decode b_MO_belongs 88 = .ok (.iload_n 1, 1) := by decide +kernel
theorem d_MO_belongs_89 : decode b_MO_belongs 89 = .ok (.iconst 1, 1) := by decide +kernel
theorem d_MO_belongs_90 : decode b_MO_belongs 90 = .ok (.if_icmp .ne 7, 3) := by decide +kernel
theorem d_MO_belongs_93 : decode b_MO_belongs 93 = .ok (.iconst 1, 1) := by decide +kernel
theorem d_MO_belongs_94 : decode b_MO_belongs 94 = .ok (.goto 4, 3) := by decide +kernel
theorem d_MO_belongs_97 : decode b_MO_belongs 97 = .ok (.iconst 0, 1) := by decide +kernel
theorem d_MO_belongs_98 : decode b_MO_belongs 98 = .ok (.invokevirtual 198, 3) := by decide +kernel
theorem d_MO_belongs_101 : decode b_MO_belongs 101 = .ok (.ifCond .ne 5, 3) := by decide +kernel
theorem d_MO_belongs_104 : decode b_MO_belongs 104 = .ok (.iconst 0, 1) := by decide +kernel
theorem d_MO_belongs_105 : decode b_MO_belongs 105 = .ok (.ireturn, 1) := by decide +kernel
theorem d_MO_belongs_106 : decode b_MO_belongs 106 = .ok (.iconst 1, 1) := by decide +kernel
theorem d_MO_belongs_107 : decode b_MO_belongs 107 = .ok (.istore 4, 2) := by decide +kernel
theorem d_MO_belongs_109 : decode b_MO_belongs 109 = .ok (.iconst 0, 1) := by decide +kernel
theorem d_MO_belongs_110 : decode b_MO_belongs 110 = .ok (.istore 5, 2) := by decide +kernel
theorem d_MO_belongs_112 : decode b_MO_belongs 112 = .ok (.iload 5, 2) := by decide +kernel
theorem d_MO_belongs_114 : decode b_MO_belongs 114 = .ok (.aload_n 0, 1) := by decide +kernel
theorem d_MO_belongs_115 : decode b_MO_belongs 115 = .ok (.getfield 48, 3) := by decide +kernel
theorem d_MO_belongs_118 : decode b_MO_belongs 118 = .ok (.iload_n 1, 1) := by decide +kernel
theorem d_MO_belongs_119 : decode b_MO_belongs 119 = .ok (.iaload, 1) := by decide +kernel
theorem d_MO_belongs_120 : decode b_MO_belongs 120 = .ok (.if_icmp .ge 48, 3) := by decide +kernel
theorem d_MO_belongs_123 : decode b_MO_belongs 123 = .ok (.iload 4, 2) := by decide +kernel
theorem d_MO_belongs_125 : decode b_MO_belongs 125 = .ok (.ifCond .eq 43, 3) := by decide +kernel
theorem d_MO_belongs_128 : decode b_MO_belongs 128 = .ok (.aload_n 0, 1) := by decide +kernel
theorem d_MO_belongs_129 : decode b_MO_belongs 129 = .ok (.iload_n 1, 1) := by decide +kernel
theorem d_MO_belongs_130 : decode b_MO_belongs 130 = .ok (.iload 5, 2) := by decide +kernel
theorem d_MO_belongs_132 : decode b_MO_belongs 132 = .ok (.iconst 1, 1) := by decide +kernel
theorem d_MO_belongs_133 : decode b_MO_belongs 133 = .ok (.invokevirtual 202, 3) := by decide +kernel
theorem d_MO_belongs_136 : decode b_MO_belongs 136 = .ok (.ifCond .ne 23, 3) := by decide +kernel
theorem d_MO_belongs_139 : decode b_MO_belongs 139 = .ok (.iload_n 1, 1) := by decide +kernel
theorem d_MO_belongs_140 : decode b_MO_belongs 140 = .ok (.iconst 2, 1) := by decide +kernel
theorem d_MO_belongs_141 : decode b_MO_belongs 141 = .ok (.if_icmp .lt 14, 3) := by decide +kernel
theorem d_MO_belongs_144 : decode b_MO_belongs 144 = .ok (.aload_n 0, 1) := by decide +kernel
theorem d_MO_belongs_145 : decode b_MO_belongs 145 = .ok (.iload_n 1, 1) := by decide +kernel
theorem d_MO_belongs_146 : decode b_MO_belongs 146 = .ok (.iload 5, 2) := by decide +kernel
theorem d_MO_belongs_148 : decode b_MO_belongs 148 = .ok (.iconst (-1), 1) := by decide +kernel
theorem d_MO_belongs_149 : decode b_MO_belongs 149 = .ok (.invokevirtual 202, 3) := by decide +kernel
theorem d_MO_belongs_152 : decode b_MO_belongs 152 = .ok (.ifCond .ne 7, 3) := by decide +kernel
theorem d_MO_belongs_155 : decode b_MO_belongs 155 = .ok (.iconst 1, 1) := by decide +kernel
theorem d_MO_belongs_156 : decode b_MO_belongs 156 = .ok (.goto 4, 3) := by decide +kernel
theorem d_MO_belongs_159 : decode b_MO_belongs 159 = .ok (.iconst 0, 1) := by decide +kernel
theorem d_MO_belongs_160 : decode b_MO_belongs 160 = .ok (.istore 4, 2) := by decide +kernel
theorem d_MO_belongs_162 : decode b_MO_belongs 162 = .ok (.iinc 5 1, 3) := by decide +kernel
theorem d_MO_belongs_165 : decode b_MO_belongs 165 = .ok (.goto (-53), 3) := by decide +kernel
theorem d_MO_belongs_168 : decode b_MO_belongs 168 = .ok (.iload 4, 2) := by decide +kernel
theorem d_MO_belongs_170 : decode b_MO_belongs 170 = .ok (.ireturn, 1) := by decide +kernel
theorem d_MO_best_0 : decode b_MO_best 0 = .ok (.aload_n 0, 1) := by decide +kernel
theorem d_MO_best_1 : decode b_MO_best 1 = .ok (.iload_n 1, 1) := by decide +kernel
theorem d_MO_best_2 : decode b_MO_best 2 = .ok (.ifCond .lt 9, 3) := by decide +kernel
theorem d_MO_best_5 : decode b_MO_best 5 = .ok (.iload_n 1, 1) := by decide +kernel
theorem d_MO_best_6 : decode b_MO_best 6 = .ok (.bipush 16, 2) := by decide +kernel
theorem d_MO_best_8 : decode b_MO_best 8 = .ok (.if_icmp .le 7, 3) := by decide +kernel
theorem d_MO_best_11 : decode b_MO_best 11 = .ok (.iconst 1, 1) := by decide +kernel
theorem d_MO_best_12 : decode b_MO_best 12 = .ok (.goto 15, 3) := by decide +kernel
theorem d_MO_best_15 : decode b_MO_best 15 = .ok (.aload_n 0, 1) := by decide +kernel
theorem d_MO_best_16 : decode b_MO_best 16 = .ok (.getfield 133, 3) := by decide +kernel
theorem d_MO_best_19 : decode b_MO_best 19 = .ok (.ifCond .ne 7, 3) := by decide +kernel
theorem d_MO_best_22 : decode b_MO_best 22 = .ok (.iconst 2, 1) := by decide +kernel
theorem d_MO_best_23 : decode b_MO_best 23 = .ok (.goto 4, 3) := by decide +kernel
theorem d_MO_best_26 : decode b_MO_best 26 = .ok (.iconst 0, 1) := by decide +kernel
theorem d_MO_best_27 : decode b_MO_best 27 = .ok (.putfield 81, 3) := by decide +kernel
theorem d_MO_best_30 : decode b_MO_best 30 = .ok (.aload_n 0, 1) := by decide +kernel
theorem d_MO_best_31 : decode b_MO_best 31 = .ok (.getfield 81, 3) := by decide +kernel
theorem d_MO_best_34 : decode b_MO_best 34 = .ok (.ifCond .le 5, 3) := by decide +kernel
theorem d_MO_best_37 : decode b_MO_best 37 = .ok (.iconst 0, 1) := by decide +kernel
theorem d_MO_best_38 : decode b_MO_best 38 = .ok (.ireturn, 1) := by decide +kernel
theorem d_MO_best_39 : decode b_MO_best 39 = .ok (.iconst 0, 1) := by decide +kernel
theorem d_MO_best_40 : decode b_MO_best 40 = .ok (.istore_n 2, 1) := by decide +kernel
theorem d_MO_best_41 : decode b_MO_best 41 = .ok (.iconst 0, 1) := by decide +kernel
