theorem d_WO_isDigit_0 : decode b_WO_isDigit 0 = .ok (.iload_n 0, 1) := by decide +kernel
theorem d_WO_isDigit_1 : decode b_WO_isDigit 1 = .ok (.bipush 48, 2) := by decide +kernel
theorem d_WO_isDigit_3 : decode b_WO_isDigit 3 = .ok (.if_icmp .lt 13, 3) := by decide +kernel
theorem d_WO_isDigit_6 : decode b_WO_isDigit 6 = .ok (.iload_n 0, 1) := by decide +kernel
theorem d_WO_isDigit_7 : decode b_WO_isDigit 7 = .ok (.bipush 57, 2) := by decide +kernel
theorem d_WO_isDigit_9 : decode b_WO_isDigit 9 = .ok (.if_icmp .gt 7, 3) := by decide +kernel
theorem d_WO_isDigit_12 : decode b_WO_isDigit 12 = .ok (.iconst 1, 1) := by decide +kernel
theorem d_WO_isDigit_13 : decode b_WO_isDigit 13 = .ok (.goto 4, 3) := by decide +kernel
theorem d_WO_isDigit_16 : decode b_WO_isDigit 16 = .ok (.iconst 0, 1) := by decide +kernel
theorem d_WO_isDigit_17 : decode b_WO_isDigit 17 = .ok (.ireturn, 1) := by decide +kernel
theorem d_WO_isRelation_0 : decode b_WO_isRelation 0 = .ok (.iload_n 0, 1) := by decide +kernel
theorem d_WO_isRelation_1 : decode b_WO_isRelation 1 = .ok (.bipush 6, 2) := by decide +kernel
theorem d_WO_isRelation_3 : decode b_WO_isRelation 3 = .ok (.if_icmp .eq 15, 3) := by decide +kernel
theorem d_WO_isRelation_6 : decode b_WO_isRelation 6 = .ok (.iload_n 0, 1) := by decide +kernel
theorem d_WO_isRelation_7 : decode b_WO_isRelation 7 = .ok (.bipush 7, 2) := by decide +kernel
theorem d_WO_isRelation_9 : decode b_WO_isRelation 9 = .ok (.if_icmp .eq 9, 3) := by decide +kernel
theorem d_WO_isRelation_12 : decode b_WO_isRelation 12 = .ok (.iload_n 0, 1) := by decide +kernel
theorem d_WO_isRelation_13 : decode b_WO_isRelation 13 = .ok (.bipush 8, 2) := by decide +kernel
theorem d_WO_isRelation_15 : decode b_WO_isRelation 15 = .ok (.if_icmp .ne 7, 3) := by decide +kernel
theorem d_WO_isRelation_18 : decode b_WO_isRelation 18 = .ok (.iconst 1, 1) := by decide +kernel
theorem d_WO_isRelation_19 : decode b_WO_isRelation 19 = .ok (.goto 4, 3) := by decide +kernel
theorem d_WO_isRelation_22 : decode b_WO_isRelation 22 = .ok (.iconst 0, 1) := by decide +kernel
theorem d_WO_isRelation_23 : decode b_WO_isRelation 23 = .ok (.ireturn, 1) := by decide +kernel
theorem d_WO_isSumWhole_0 : decode b_WO_isSumWhole 0 = .ok (.aload_n 0, 1) := by decide +kernel
theorem d_WO_isSumWhole_1 : decode b_WO_isSumWhole 1 = .ok (.getfield 25, 3) := by decide +kernel
theorem d_WO_isSumWhole_4 : decode b_WO_isSumWhole 4 = .ok (.iconst 2, 1) := by decide +kernel
theorem d_WO_isSumWhole_5 : decode b_WO_isSumWhole 5 = .ok (.if_icmp .eq 11, 3) := by decide +kernel
theorem d_WO_isSumWhole_8 : decode b_WO_isSumWhole 8 = .ok (.aload_n 0, 1) := by decide +kernel
theorem d_WO_isSumWhole_9 : decode b_WO_isSumWhole 9 = .ok (.getfield 25, 3) := by decide +kernel
theorem d_WO_isSumWhole_12 : decode b_WO_isSumWhole 12 = .ok (.iconst 4, 1) := by decide +kernel
theorem d_WO_isSumWhole_13 : decode b_WO_isSumWhole 13 = .ok (.if_icmp .ne 7, 3) := by decide +kernel
theorem d_WO_isSumWhole_16 : decode b_WO_isSumWhole 16 = .ok (.iconst 1, 1) := by decide +kernel
theorem d_WO_isSumWhole_17 : decode b_WO_isSumWhole 17 = .ok (.goto 4, 3) := by decide +kernel
theorem d_WO_isSumWhole_20 : decode b_WO_isSumWhole 20 = .ok (.iconst 0, 1) := by decide +kernel
theorem d_WO_isSumWhole_21 : decode b_WO_isSumWhole 21 = .ok (.ireturn, 1) := by decide +kernel
theorem d_WO_kindAt_0 : decode b_WO_kindAt 0 = .ok (.aload_n 0, 1) := by decide +kernel
theorem d_WO_kindAt_1 : decode b_WO_kindAt 1 = .ok (.iload_n 1, 1) := by decide +kernel
theorem d_WO_kindAt_2 : decode b_WO_kindAt 2 = .ok (.invokevirtual 40, 3) := by decide +kernel
theorem d_WO_kindAt_5 : decode b_WO_kindAt 5 = .ok (.istore_n 3, 1) := by decide +kernel
theorem d_WO_kindAt_6 : decode b_WO_kindAt 6 = .ok (.iload_n 3, 1) := by decide +kernel
theorem d_WO_kindAt_7 : decode b_WO_kindAt 7 = .ok (.invokestatic 76, 3) := by decide +kernel
theorem d_WO_kindAt_10 : decode b_WO_kindAt 10 = .ok (.ifCond .eq 14, 3) := by decide +kernel
theorem d_WO_kindAt_13 : decode b_WO_kindAt 13 = .ok (.iload_n 2, 1) := by decide +kernel
theorem d_WO_kindAt_14 : decode b_WO_kindAt 14 = .ok (.iconst 4, 1) := by decide +kernel
theorem d_WO_kindAt_15 : decode b_WO_kindAt 15 = .ok (.if_icmp .gt 7, 3) := by decide +kernel
theorem d_WO_kindAt_18 : decode b_WO_kindAt 18 = .ok (.iconst 0, 1) := by decide +kernel
theorem d_WO_kindAt_19 : decode b_WO_kindAt 19 = .ok (.goto 4, 3) := by decide +kernel
theorem d_WO_kindAt_22 : decode b_WO_kindAt 22 = .ok (.iconst (-1), 1) := by decide +kernel
theorem d_WO_kindAt_23 : decode b_WO_kindAt 23 = .ok (.ireturn, 1) := by decide +kernel
theorem d_WO_kindAt_24 : decode b_WO_kindAt 24 = .ok (.iload_n 3, 1) := by decide +kernel
theorem d_WO_kindAt_25 : decode b_WO_kindAt 25 = .ok (.bipush 97, 2) := by decide +kernel
theorem d_WO_kindAt_27 : decode b_WO_kindAt 27 = .ok (.if_icmp .lt 11, 3) := by decide +kernel
theorem d_WO_kindAt_30 : decode b_WO_kindAt 30 = .ok (.iload_n 3, 1) := by decide +kernel
theorem d_WO_kindAt_31 : decode b_WO_kindAt 31 = .ok (.bipush 122, 2) := by decide +kernel
theorem d_WO_kindAt_33 : decode b_WO_kindAt 33 = .ok (.if_icmp .gt 5, 3) := by decide +kernel
theorem d_WO_kindAt_36 : decode b_WO_kindAt 36 = .ok (.iconst 1, 1) := by decide +kernel
theorem d_WO_kindAt_37 : decode b_WO_kindAt 37 = .ok (.ireturn, 1) := by decide +kernel
theorem d_WO_kindAt_38 : decode b_WO_kindAt 38 = .ok (.iload_n 3, 1) := by decide +kernel
theorem d_WO_kindAt_39 : decode b_WO_kindAt 39 = .ok (.tableswitch 132 42 62 #[101, 97, 132, 99, 132, 132, 132, 132, 132, 132, 132, 132, 132, 132, 132, 132, 132, 103, 108, 105, 120], 97) := by decide +kernel
theorem d_WO_kindAt_136 : decode b_WO_kindAt 136 = .ok (.iconst 2, 1) := by decide +kernel
theorem d_WO_kindAt_137 : decode b_WO_kindAt 137 = .ok (.ireturn, 1) := by decide +kernel
theorem d_WO_kindAt_138 : decode b_WO_kindAt 138 = .ok (.iconst 3, 1) := by decide +kernel
theorem d_WO_kindAt_139 : decode b_WO_kindAt 139 = .ok (.ireturn, 1) := by decide +kernel
theorem d_WO_kindAt_140 : decode b_WO_kindAt 140 = .ok (.iconst 4, 1) := by decide +kernel
theorem d_WO_kindAt_141 : decode b_WO_kindAt 141 = .ok (.ireturn, 1) := by decide +kernel
theorem d_WO_kindAt_142 : decode b_WO_kindAt 142 = .ok (.iconst 5, 1) := by decide +kernel
theorem d_WO_kindAt_143 : decode b_WO_kindAt 143 = .ok (.ireturn, 1) := by decide +kernel
theorem d_WO_kindAt_144 : decode b_WO_kindAt 144 = .ok (.bipush 6, 2) := by decide +kernel
theorem d_WO_kindAt_146 : decode b_WO_kindAt 146 = .ok (.ireturn, 1) := by decide +kernel
theorem d_WO_kindAt_147 : decode b_WO_kindAt 147 = .ok (.iload_n 2, 1) := by decide +kernel
theorem d_WO_kindAt_148 : decode b_WO_kindAt 148 = .ok (.iconst 2, 1) := by decide +kernel
theorem d_WO_kindAt_149 : decode b_WO_kindAt 149 = .ok (.if_icmp .ne 8, 3) := by decide +kernel
theorem d_WO_kindAt_152 : decode b_WO_kindAt 152 = .ok (.bipush 7, 2) := by decide +kernel
theorem d_WO_kindAt_154 : decode b_WO_kindAt 154 = .ok (.goto 4, 3) := by decide +kernel
theorem d_WO_kindAt_157 : decode b_WO_kindAt 157 = .ok (.iconst (-1), 1) := by decide +kernel
theorem d_WO_kindAt_158 : decode b_WO_kindAt 158 = .ok (.ireturn, 1) := by decide +kernel
theorem d_WO_kindAt_159 : decode b_WO_kindAt 159 = .ok (.iload_n 2, 1) := by decide +kernel
theorem d_WO_kindAt_160 : decode b_WO_kindAt 160 = .ok (.iconst 2, 1) := by decide +kernel
theorem d_WO_kindAt_161 : decode b_WO_kindAt 161 = .ok (.if_icmp .ne 8, 3) := by decide +kernel
theorem d_WO_kindAt_164 : decode b_WO_kindAt 164 = .ok (.bipush 8, 2) := by decide +kernel
theorem d_WO_kindAt_166 : decode b_WO_kindAt 166 = .ok (.goto 4, 3) := by decide +kernel
theorem d_WO_kindAt_169 : decode b_WO_kindAt 169 = .ok (.iconst (-1), 1) := by decide +kernel
theorem d_WO_kindAt_170 : decode b_WO_kindAt 170 = .ok (.ireturn, 1) := by decide +kernel
theorem d_WO_kindAt_171 : decode b_WO_kindAt 171 = .ok (.iconst (-1), 1) := by decide +kernel
theorem d_WO_kindAt_172 : decode b_WO_kindAt 172 = .ok (.ireturn, 1) := by decide +kernel
theorem d_WO_stateAfter_0 : decode b_WO_stateAfter 0 = .ok (.iload_n 1, 1) := by decide +kernel
theorem d_WO_stateAfter_1 : decode b_WO_stateAfter 1 = .ok (.tableswitch 173 0 8 #[51, 72, 86, 99, 119, 133, 153, 153, 153], 51) := by decide +kernel
theorem d_WO_stateAfter_52 : decode b_WO_stateAfter 52 = .ok (.aload_n 0, 1) := by decide +kernel
theorem d_WO_stateAfter_53 : decode b_WO_stateAfter 53 = .ok (.getfield 25, 3) := by decide +kernel
theorem d_WO_stateAfter_56 : decode b_WO_stateAfter 56 = .ok (.ifCond .eq 11, 3) := by decide +kernel
theorem d_WO_stateAfter_59 : decode b_WO_stateAfter 59 = .ok (.aload_n 0, 1) := by decide +kernel
theorem d_WO_stateAfter_60 : decode b_WO_stateAfter 60 = .ok (.getfield 25, 3) := by decide +kernel
theorem d_WO_stateAfter_63 : decode b_WO_stateAfter 63 = .ok (.iconst 1, 1) := by decide +kernel
theorem d_WO_stateAfter_64 : decode b_WO_stateAfter 64 = .ok (.if_icmp .ne 7, 3) := by decide +kernel
theorem d_WO_stateAfter_67 : decode b_WO_stateAfter 67 = .ok (.iconst 2, 1) := by decide +kernel
theorem d_WO_stateAfter_68 : decode b_WO_stateAfter 68 = .ok (.goto 4, 3) := by decide +kernel
theorem d_WO_stateAfter_71 : decode b_WO_stateAfter 71 = .ok (.iconst (-1), 1) := by decide +kernel
theorem d_WO_stateAfter_72 : decode b_WO_stateAfter 72 = .ok (.ireturn, 1) := by decide +kernel
theorem d_WO_stateAfter_73 : decode b_WO_stateAfter 73 = .ok (.aload_n 0, 1) := by decide +kernel
theorem d_WO_stateAfter_74 : decode b_WO_stateAfter 74 = .ok (.getfield 25, 3) := by decide +kernel
theorem d_WO_stateAfter_77 : decode b_WO_stateAfter 77 = .ok (.iconst 4, 1) := by decide +kernel
theorem d_WO_stateAfter_78 : decode b_WO_stateAfter 78 = .ok (.if_icmp .eq 7, 3) := by decide +kernel
theorem d_WO_stateAfter_81 : decode b_WO_stateAfter 81 = .ok (.iconst 4, 1) := by decide +kernel
theorem d_WO_stateAfter_82 : decode b_WO_stateAfter 82 = .ok (.goto 4, 3) := by decide +kernel
theorem d_WO_stateAfter_85 : decode b_WO_stateAfter 85 = .ok (.iconst (-1), 1) := by decide +kernel
theorem d_WO_stateAfter_86 : decode b_WO_stateAfter 86 = .ok (.ireturn, 1) := by decide +kernel
theorem d_WO_stateAfter_87 : decode b_WO_stateAfter 87 = .ok (.aload_n 0, 1) := by decide +kernel
theorem d_WO_stateAfter_88 : decode b_WO_stateAfter 88 = .ok (.invokevirtual 58, 3) := by decide +kernel
theorem d_WO_stateAfter_91 : decode b_WO_stateAfter 91 = .ok (.ifCond .eq 7, 3) := by decide +kernel
theorem d_WO_stateAfter_94 : decode b_WO_stateAfter 94 = .ok (.iconst 1, 1) := by decide +kernel
theorem d_WO_stateAfter_95 : decode b_WO_stateAfter 95 = .ok (.goto 4, 3) := by decide +kernel
theorem d_WO_stateAfter_98 : decode b_WO_stateAfter 98 = .ok (.iconst (-1), 1) := by decide +kernel
theorem d_WO_stateAfter_99 : decode b_WO_stateAfter 99 = .ok (.ireturn, 1) := by decide +kernel
theorem d_WO_stateAfter_100 : decode b_WO_stateAfter 100 = .ok (.aload_n 0, 1) := by decide +kernel
theorem d_WO_stateAfter_101 : decode b_WO_stateAfter 101 = .ok (.invokevirtual 58, 3) := by decide +kernel
theorem d_WO_stateAfter_104 : decode b_WO_stateAfter 104 = .ok (.ifCond .ne 10, 3) := by decide +kernel
theorem d_WO_stateAfter_107 : decode b_WO_stateAfter 107 = .ok (.aload_n 0, 1) := by decide +kernel
theorem d_WO_stateAfter_108 : decode b_WO_stateAfter 108 = .ok (.getfield 25, 3) := by decide +kernel
theorem d_WO_stateAfter_111 : decode b_WO_stateAfter 111 = .ok (.ifCond .ne 7, 3) := by decide +kernel
theorem d_WO_stateAfter_114 : decode b_WO_stateAfter 114 = .ok (.iconst 1, 1) := by decide +kernel
theorem d_WO_stateAfter_115 : decode b_WO_stateAfter 115 = .ok (.goto 4, 3) := by decide +kernel
theorem d_WO_stateAfter_118 : decode b_WO_stateAfter 118 = .ok (.iconst (-1), 1) := by decide +kernel
theorem d_WO_stateAfter_119 : decode b_WO_stateAfter 119 = .ok (.ireturn, 1) := by decide +kernel
theorem d_WO_stateAfter_120 : decode b_WO_stateAfter 120 = .ok (.aload_n 0, 1) := by decide +kernel
theorem d_WO_stateAfter_121 : decode b_WO_stateAfter 121 = .ok (.getfield 25, 3) := by decide +kernel
theorem d_WO_stateAfter_124 : decode b_WO_stateAfter 124 = .ok (.iconst 2, 1) := by decide +kernel
theorem d_WO_stateAfter_125 : decode b_WO_stateAfter 125 = .ok (.if_icmp .ne 7, 3) := by decide +kernel
theorem d_WO_stateAfter_128 : decode b_WO_stateAfter 128 = .ok (.iconst 3, 1) := by decide +kernel
theorem d_WO_stateAfter_129 : decode b_WO_stateAfter 129 = .ok (.goto 4, 3) := by decide +kernel
theorem d_WO_stateAfter_132 : decode b_WO_stateAfter 132 = .ok (.iconst (-1), 1) := by decide +kernel
theorem d_WO_stateAfter_133 : decode b_WO_stateAfter 133 = .ok (.ireturn, 1) := by decide +kernel
theorem d_WO_stateAfter_134 : decode b_WO_stateAfter 134 = .ok (.aload_n 0, 1) := by decide +kernel
theorem d_WO_stateAfter_135 : decode b_WO_stateAfter 135 = .ok (.invokevirtual 58, 3) := by decide +kernel
theorem d_WO_stateAfter_138 : decode b_WO_stateAfter 138 = .ok (.ifCond .eq 14, 3) := by decide +kernel
theorem d_WO_stateAfter_141 : decode b_WO_stateAfter 141 = .ok (.aload_n 0, 1) := by decide +kernel
theorem d_WO_stateAfter_142 : decode b_WO_stateAfter 142 = .ok (.getfield 28, 3) := by decide +kernel
theorem d_WO_stateAfter_145 : decode b_WO_stateAfter 145 = .ok (.ifCond .eq 7, 3) := by decide +kernel
theorem d_WO_stateAfter_148 : decode b_WO_stateAfter 148 = .ok (.iconst 0, 1) := by decide +kernel
theorem d_WO_stateAfter_149 : decode b_WO_stateAfter 149 = .ok (.goto 4, 3) := by decide +kernel
theorem d_WO_stateAfter_152 : decode b_WO_stateAfter 152 = .ok (.iconst (-1), 1) := by decide +kernel
theorem d_WO_stateAfter_153 : decode b_WO_stateAfter 153 = .ok (.ireturn, 1) := by decide +kernel
theorem d_WO_stateAfter_154 : decode b_WO_stateAfter 154 = .ok (.aload_n 0, 1) := by decide +kernel
theorem d_WO_stateAfter_155 : decode b_WO_stateAfter 155 = .ok (.invokevirtual 58, 3) := by decide +kernel
theorem d_WO_stateAfter_158 : decode b_WO_stateAfter 158 = .ok (.ifCond .eq 14, 3) := by decide +kernel
theorem d_WO_stateAfter_161 : decode b_WO_stateAfter 161 = .ok (.aload_n 0, 1) := by decide +kernel
theorem d_WO_stateAfter_162 : decode b_WO_stateAfter 162 = .ok (.getfield 28, 3) := by decide +kernel
theorem d_WO_stateAfter_165 : decode b_WO_stateAfter 165 = .ok (.ifCond .ne 7, 3) := by decide +kernel
theorem d_WO_stateAfter_168 : decode b_WO_stateAfter 168 = .ok (.iconst 0, 1) := by decide +kernel
theorem d_WO_stateAfter_169 : decode b_WO_stateAfter 169 = .ok (.goto 4, 3) := by decide +kernel
theorem d_WO_stateAfter_172 : decode b_WO_stateAfter 172 = .ok (.iconst (-1), 1) := by decide +kernel
