theorem d_SE_fill_0 : decode b_SE_fill 0 = .ok (.aload_n 0, 1) := by decide +kernel
theorem d_SE_fill_1 : decode b_SE_fill 1 = .ok (.iload_n 1, 1) := by decide +kernel
theorem d_SE_fill_2 : decode b_SE_fill 2 = .ok (.iload_n 2, 1) := by decide +kernel
theorem d_SE_fill_3 : decode b_SE_fill 3 = .ok (.invokevirtual 82, 3) := by decide +kernel
theorem d_SE_fill_6 : decode b_SE_fill 6 = .ok (.ifCond .ne 5, 3) := by decide +kernel
theorem d_SE_fill_9 : decode b_SE_fill 9 = .ok (.iconst 1, 1) := by decide +kernel
theorem d_SE_fill_10 : decode b_SE_fill 10 = .ok (.ireturn, 1) := by decide +kernel
theorem d_SE_fill_11 : decode b_SE_fill 11 = .ok (.iload_n 1, 1) := by decide +kernel
theorem d_SE_fill_12 : decode b_SE_fill 12 = .ok (.aload_n 0, 1) := by decide +kernel
theorem d_SE_fill_13 : decode b_SE_fill 13 = .ok (.getfield 33, 3) := by decide +kernel
theorem d_SE_fill_16 : decode b_SE_fill 16 = .ok (.if_icmp .lt 13, 3) := by decide +kernel
theorem d_SE_fill_19 : decode b_SE_fill 19 = .ok (.aload 4, 2) := by decide +kernel
theorem d_SE_fill_21 : decode b_SE_fill 21 = .ok (.aload_n 0, 1) := by decide +kernel
theorem d_SE_fill_22 : decode b_SE_fill 22 = .ok (.getfield 9, 3) := by decide +kernel
theorem d_SE_fill_25 : decode b_SE_fill 25 = .ok (.invokevirtual 86, 3) := by decide +kernel
theorem d_SE_fill_28 : decode b_SE_fill 28 = .ok (.ireturn, 1) := by decide +kernel
theorem d_SE_fill_29 : decode b_SE_fill 29 = .ok (.iload_n 1, 1) := by decide +kernel
theorem d_SE_fill_30 : decode b_SE_fill 30 = .ok (.aload_n 0, 1) := by decide +kernel
theorem d_SE_fill_31 : decode b_SE_fill 31 = .ok (.getfield 33, 3) := by decide +kernel
theorem d_SE_fill_34 : decode b_SE_fill 34 = .ok (.iconst 1, 1) := by decide +kernel
theorem d_SE_fill_35 : decode b_SE_fill 35 = .ok (.isub, 1) := by decide +kernel
theorem d_SE_fill_36 : decode b_SE_fill 36 = .ok (.if_icmp .ne 7, 3) := by decide +kernel
theorem d_SE_fill_39 : decode b_SE_fill 39 = .ok (.iconst 1, 1) := by decide +kernel
theorem d_SE_fill_40 : decode b_SE_fill 40 = .ok (.goto 4, 3) := by decide +kernel
theorem d_SE_fill_43 : decode b_SE_fill 43 = .ok (.iconst 0, 1) := by decide +kernel
theorem d_SE_fill_44 : decode b_SE_fill 44 = .ok (.istore 5, 2) := by decide +kernel
theorem d_SE_fill_46 : decode b_SE_fill 46 = .ok (.aload_n 0, 1) := by decide +kernel
theorem d_SE_fill_47 : decode b_SE_fill 47 = .ok (.getfield 36, 3) := by decide +kernel
theorem d_SE_fill_50 : decode b_SE_fill 50 = .ok (.ifCond .eq 12, 3) := by decide +kernel
theorem d_SE_fill_53 : decode b_SE_fill 53 = .ok (.iload_n 3, 1) := by decide +kernel
theorem d_SE_fill_54 : decode b_SE_fill 54 = .ok (.ifCond .eq 8, 3) := by decide +kernel
theorem d_SE_fill_57 : decode b_SE_fill 57 = .ok (.iload_n 2, 1) := by decide +kernel
theorem d_SE_fill_58 : decode b_SE_fill 58 = .ok (.ineg, 1) := by decide +kernel
theorem d_SE_fill_59 : decode b_SE_fill 59 = .ok (.goto 13, 3) := by decide +kernel
theorem d_SE_fill_62 : decode b_SE_fill 62 = .ok (.iload 5, 2) := by decide +kernel
theorem d_SE_fill_64 : decode b_SE_fill 64 = .ok (.ifCond .eq 7, 3) := by decide +kernel
theorem d_SE_fill_67 : decode b_SE_fill 67 = .ok (.iload_n 2, 1) := by decide +kernel
theorem d_SE_fill_68 : decode b_SE_fill 68 = .ok (.goto 4, 3) := by decide +kernel
theorem d_SE_fill_71 : decode b_SE_fill 71 = .ok (.iconst 0, 1) := by decide +kernel
theorem d_SE_fill_72 : decode b_SE_fill 72 = .ok (.istore 6, 2) := by decide +kernel
theorem d_SE_fill_74 : decode b_SE_fill 74 = .ok (.iload 5, 2) := by decide +kernel
theorem d_SE_fill_76 : decode b_SE_fill 76 = .ok (.ifCond .eq 14, 3) := by decide +kernel
theorem d_SE_fill_79 : decode b_SE_fill 79 = .ok (.iconst 1, 1) := by decide +kernel
theorem d_SE_fill_80 : decode b_SE_fill 80 = .ok (.iload_n 2, 1) := by decide +kernel
theorem d_SE_fill_81 : decode b_SE_fill 81 = .ok (.iload 6, 2) := by decide +kernel
theorem d_SE_fill_83 : decode b_SE_fill 83 = .ok (.isub, 1) := by decide +kernel
theorem d_SE_fill_84 : decode b_SE_fill 84 = .ok (.invokestatic 70, 3) := by decide +kernel
theorem d_SE_fill_87 : decode b_SE_fill 87 = .ok (.goto 4, 3) := by decide +kernel
theorem d_SE_fill_90 : decode b_SE_fill 90 = .ok (.iconst 1, 1) := by decide +kernel
theorem d_SE_fill_91 : decode b_SE_fill 91 = .ok (.istore 7, 2) := by decide +kernel
theorem d_SE_fill_93 : decode b_SE_fill 93 = .ok (.iconst 1, 1) := by decide +kernel
theorem d_SE_fill_94 : decode b_SE_fill 94 = .ok (.istore 8, 2) := by decide +kernel
theorem d_SE_fill_96 : decode b_SE_fill 96 = .ok (.iload 6, 2) := by decide +kernel
theorem d_SE_fill_98 : decode b_SE_fill 98 = .ok (.istore 9, 2) := by decide +kernel
theorem d_SE_fill_100 : decode b_SE_fill 100 = .ok (.iload 9, 2) := by decide +kernel
theorem d_SE_fill_102 : decode b_SE_fill 102 = .ok (.iload_n 2, 1) := by decide +kernel
theorem d_SE_fill_103 : decode b_SE_fill 103 = .ok (.if_icmp .gt 57, 3) := by decide +kernel
theorem d_SE_fill_106 : decode b_SE_fill 106 = .ok (.iload 8, 2) := by decide +kernel
theorem d_SE_fill_108 : decode b_SE_fill 108 = .ok (.ifCond .eq 52, 3) := by decide +kernel
theorem d_SE_fill_111 : decode b_SE_fill 111 = .ok (.aload_n 0, 1) := by decide +kernel
theorem d_SE_fill_112 : decode b_SE_fill 112 = .ok (.iload_n 1, 1) := by decide +kernel
theorem d_SE_fill_113 : decode b_SE_fill 113 = .ok (.iload 9, 2) := by decide +kernel
theorem d_SE_fill_115 : decode b_SE_fill 115 = .ok (.invokevirtual 90, 3) := by decide +kernel
theorem d_SE_fill_118 : decode b_SE_fill 118 = .ok (.aload_n 0, 1) := by decide +kernel
theorem d_SE_fill_119 : decode b_SE_fill 119 = .ok (.iload_n 1, 1) := by decide +kernel
theorem d_SE_fill_120 : decode b_SE_fill 120 = .ok (.iconst 1, 1) := by decide +kernel
theorem d_SE_fill_121 : decode b_SE_fill 121 = .ok (.iadd, 1) := by decide +kernel
theorem d_SE_fill_122 : decode b_SE_fill 122 = .ok (.iload_n 2, 1) := by decide +kernel
theorem d_SE_fill_123 : decode b_SE_fill 123 = .ok (.iload 9, 2) := by decide +kernel
theorem d_SE_fill_125 : decode b_SE_fill 125 = .ok (.invokestatic 60, 3) := by decide +kernel
theorem d_SE_fill_128 : decode b_SE_fill 128 = .ok (.isub, 1) := by decide +kernel
theorem d_SE_fill_129 : decode b_SE_fill 129 = .ok (.iload_n 3, 1) := by decide +kernel
theorem d_SE_fill_130 : decode b_SE_fill 130 = .ok (.ifCond .ne 8, 3) := by decide +kernel
theorem d_SE_fill_133 : decode b_SE_fill 133 = .ok (.iload 9, 2) := by decide +kernel
theorem d_SE_fill_135 : decode b_SE_fill 135 = .ok (.ifCond .eq 7, 3) := by decide +kernel
theorem d_SE_fill_138 : decode b_SE_fill 138 = .ok (.iconst 1, 1) := by decide +kernel
theorem d_SE_fill_139 : decode b_SE_fill 139 = .ok (.goto 4, 3) := by decide +kernel
theorem d_SE_fill_142 : decode b_SE_fill 142 = .ok (.iconst 0, 1) := by decide +kernel
theorem d_SE_fill_143 : decode b_SE_fill 143 = .ok (.aload 4, 2) := by decide +kernel
theorem d_SE_fill_145 : decode b_SE_fill 145 = .ok (.invokevirtual 78, 3) := by decide +kernel
theorem d_SE_fill_148 : decode b_SE_fill 148 = .ok (.istore 8, 2) := by decide +kernel
theorem d_SE_fill_150 : decode b_SE_fill 150 = .ok (.iload 9, 2) := by decide +kernel
theorem d_SE_fill_152 : decode b_SE_fill 152 = .ok (.iload 7, 2) := by decide +kernel
theorem d_SE_fill_154 : decode b_SE_fill 154 = .ok (.iadd, 1) := by decide +kernel
theorem d_SE_fill_155 : decode b_SE_fill 155 = .ok (.istore 9, 2) := by decide +kernel
theorem d_SE_fill_157 : decode b_SE_fill 157 = .ok (.goto (-57), 3) := by decide +kernel
theorem d_SE_fill_160 : decode b_SE_fill 160 = .ok (.aload_n 0, 1) := by decide +kernel
theorem d_SE_fill_161 : decode b_SE_fill 161 = .ok (.iload_n 1, 1) := by decide +kernel
theorem d_SE_fill_162 : decode b_SE_fill 162 = .ok (.iconst 0, 1) := by decide +kernel
theorem d_SE_fill_163 : decode b_SE_fill 163 = .ok (.invokevirtual 90, 3) := by decide +kernel
theorem d_SE_fill_166 : decode b_SE_fill 166 = .ok (.iload 8, 2) := by decide +kernel
theorem d_SE_fill_168 : decode b_SE_fill 168 = .ok (.ireturn, 1) := by decide +kernel
