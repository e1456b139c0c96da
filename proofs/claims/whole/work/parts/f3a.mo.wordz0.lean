theorem d_MO_bad_0 : decode b_MO_bad 0 = .ok (.iconst 0, 1) := by decide +kernel
theorem d_MO_bad_1 : decode b_MO_bad 1 = .ok (.istore_n 1, 1) := by decide +kernel
theorem d_MO_bad_2 : decode b_MO_bad 2 = .ok (.iconst 0, 1) := by decide +kernel
theorem d_MO_bad_3 : decode b_MO_bad 3 = .ok (.istore_n 2, 1) := by decide +kernel
theorem d_MO_bad_4 : decode b_MO_bad 4 = .ok (.iconst 0, 1) := by decide +kernel
theorem d_MO_bad_5 : decode b_MO_bad 5 = .ok (.istore_n 3, 1) := by decide +kernel
theorem d_MO_bad_6 : decode b_MO_bad 6 = .ok (.iload_n 3, 1) := by decide +kernel
theorem d_MO_bad_7 : decode b_MO_bad 7 = .ok (.aload_n 0, 1) := by decide +kernel
theorem d_MO_bad_8 : decode b_MO_bad 8 = .ok (.getfield 93, 3) := by decide +kernel
theorem d_MO_bad_11 : decode b_MO_bad 11 = .ok (.if_icmp .ge 198, 3) := by decide +kernel
theorem d_MO_bad_14 : decode b_MO_bad 14 = .ok (.aload_n 0, 1) := by decide +kernel
theorem d_MO_bad_15 : decode b_MO_bad 15 = .ok (.getfield 17, 3) := by decide +kernel
theorem d_MO_bad_18 : decode b_MO_bad 18 = .ok (.iload_n 3, 1) := by decide +kernel
theorem d_MO_bad_19 : decode b_MO_bad 19 = .ok (.iaload, 1) := by decide +kernel
theorem d_MO_bad_20 : decode b_MO_bad 20 = .ok (.istore 4, 2) := by decide +kernel
theorem d_MO_bad_22 : decode b_MO_bad 22 = .ok (.iload_n 1, 1) := by decide +kernel
theorem d_MO_bad_23 : decode b_MO_bad 23 = .ok (.iconst 2, 1) := by decide +kernel
theorem d_MO_bad_24 : decode b_MO_bad 24 = .ok (.if_icmp .eq 8, 3) := by decide +kernel
theorem d_MO_bad_27 : decode b_MO_bad 27 = .ok (.iload_n 1, 1) := by decide +kernel
theorem d_MO_bad_28 : decode b_MO_bad 28 = .ok (.iconst 4, 1) := by decide +kernel
theorem d_MO_bad_29 : decode b_MO_bad 29 = .ok (.if_icmp .ne 7, 3) := by decide +kernel
theorem d_MO_bad_32 : decode b_MO_bad 32 = .ok (.iconst 1, 1) := by decide +kernel
theorem d_MO_bad_33 : decode b_MO_bad 33 = .ok (.goto 4, 3) := by decide +kernel
theorem d_MO_bad_36 : decode b_MO_bad 36 = .ok (.iconst 0, 1) := by decide +kernel
theorem d_MO_bad_37 : decode b_MO_bad 37 = .ok (.istore 5, 2) := by decide +kernel
theorem d_MO_bad_39 : decode b_MO_bad 39 = .ok (.iload_n 1, 1) := by decide +kernel
theorem d_MO_bad_40 : decode b_MO_bad 40 = .ok (.iconst 2, 1) := by decide +kernel
theorem d_MO_bad_41 : decode b_MO_bad 41 = .ok (.if_icmp .ge 14, 3) := by decide +kernel
theorem d_MO_bad_44 : decode b_MO_bad 44 = .ok (.iload 4, 2) := by decide +kernel
theorem d_MO_bad_46 : decode b_MO_bad 46 = .ok (.iconst 1, 1) := by decide +kernel
theorem d_MO_bad_47 : decode b_MO_bad 47 = .ok (.if_icmp .ne 8, 3) := by decide +kernel
theorem d_MO_bad_50 : decode b_MO_bad 50 = .ok (.iconst 2, 1) := by decide +kernel
theorem d_MO_bad_51 : decode b_MO_bad 51 = .ok (.istore_n 1, 1) := by decide +kernel
theorem d_MO_bad_52 : decode b_MO_bad 52 = .ok (.goto 151, 3) := by decide +kernel
theorem d_MO_bad_55 : decode b_MO_bad 55 = .ok (.iload_n 1, 1) := by decide +kernel
theorem d_MO_bad_56 : decode b_MO_bad 56 = .ok (.iconst 2, 1) := by decide +kernel
theorem d_MO_bad_57 : decode b_MO_bad 57 = .ok (.if_icmp .lt 13, 3) := by decide +kernel
theorem d_MO_bad_60 : decode b_MO_bad 60 = .ok (.iload_n 1, 1) := by decide +kernel
theorem d_MO_bad_61 : decode b_MO_bad 61 = .ok (.iconst 2, 1) := by decide +kernel
theorem d_MO_bad_62 : decode b_MO_bad 62 = .ok (.if_icmp .eq 8, 3) := by decide +kernel
theorem d_MO_bad_65 : decode b_MO_bad 65 = .ok (.iload_n 1, 1) := by decide +kernel
theorem d_MO_bad_66 : decode b_MO_bad 66 = .ok (.iconst 3, 1) := by decide +kernel
theorem d_MO_bad_67 : decode b_MO_bad 67 = .ok (.if_icmp .ne 14, 3) := by decide +kernel
theorem d_MO_bad_70 : decode b_MO_bad 70 = .ok (.iload 4, 2) := by decide +kernel
theorem d_MO_bad_72 : decode b_MO_bad 72 = .ok (.iconst 2, 1) := by decide +kernel
theorem d_MO_bad_73 : decode b_MO_bad 73 = .ok (.if_icmp .ne 8, 3) := by decide +kernel
theorem d_MO_bad_76 : decode b_MO_bad 76 = .ok (.iconst 4, 1) := by decide +kernel
theorem d_MO_bad_77 : decode b_MO_bad 77 = .ok (.istore_n 1, 1) := by decide +kernel
theorem d_MO_bad_78 : decode b_MO_bad 78 = .ok (.goto 125, 3) := by decide +kernel
theorem d_MO_bad_81 : decode b_MO_bad 81 = .ok (.iload_n 1, 1) := by decide +kernel
theorem d_MO_bad_82 : decode b_MO_bad 82 = .ok (.ifCond .ne 14, 3) := by decide +kernel
theorem d_MO_bad_85 : decode b_MO_bad 85 = .ok (.iload 4, 2) := by decide +kernel
theorem d_MO_bad_87 : decode b_MO_bad 87 = .ok (.iconst 4, 1) := by decide +kernel
theorem d_MO_bad_88 : decode b_MO_bad 88 = .ok (.if_icmp .ne 8, 3) := by decide +kernel
theorem d_MO_bad_91 : decode b_MO_bad 91 = .ok (.iconst 1, 1) := by decide +kernel
theorem d_MO_bad_92 : decode b_MO_bad 92 = .ok (.istore_n 1, 1) := by decide +kernel
theorem d_MO_bad_93 : decode b_MO_bad 93 = .ok (.goto 110, 3) := by decide +kernel
theorem d_MO_bad_96 : decode b_MO_bad 96 = .ok (.iload_n 1, 1) := by decide +kernel
theorem d_MO_bad_97 : decode b_MO_bad 97 = .ok (.iconst 2, 1) := by decide +kernel
theorem d_MO_bad_98 : decode b_MO_bad 98 = .ok (.if_icmp .ne 14, 3) := by decide +kernel
theorem d_MO_bad_101 : decode b_MO_bad 101 = .ok (.iload 4, 2) := by decide +kernel
theorem d_MO_bad_103 : decode b_MO_bad 103 = .ok (.iconst 5, 1) := by decide +kernel
theorem d_MO_bad_104 : decode b_MO_bad 104 = .ok (.if_icmp .ne 8, 3) := by decide +kernel
theorem d_MO_bad_107 : decode b_MO_bad 107 = .ok (.iconst 3, 1) := by decide +kernel
theorem d_MO_bad_108 : decode b_MO_bad 108 = .ok (.istore_n 1, 1) := by decide +kernel
theorem d_MO_bad_109 : decode b_MO_bad 109 = .ok (.goto 94, 3) := by decide +kernel
theorem d_MO_bad_112 : decode b_MO_bad 112 = .ok (.iload 5, 2) := by decide +kernel
theorem d_MO_bad_114 : decode b_MO_bad 114 = .ok (.ifCond .eq 20, 3) := by decide +kernel
theorem d_MO_bad_117 : decode b_MO_bad 117 = .ok (.iload 4, 2) := by decide +kernel
theorem d_MO_bad_119 : decode b_MO_bad 119 = .ok (.iconst 3, 1) := by decide +kernel
theorem d_MO_bad_120 : decode b_MO_bad 120 = .ok (.if_icmp .eq 9, 3) := by decide +kernel
theorem d_MO_bad_123 : decode b_MO_bad 123 = .ok (.iload 4, 2) := by decide +kernel
theorem d_MO_bad_125 : decode b_MO_bad 125 = .ok (.iconst 4, 1) := by decide +kernel
theorem d_MO_bad_126 : decode b_MO_bad 126 = .ok (.if_icmp .ne 8, 3) := by decide +kernel
theorem d_MO_bad_129 : decode b_MO_bad 129 = .ok (.iconst 1, 1) := by decide +kernel
theorem d_MO_bad_130 : decode b_MO_bad 130 = .ok (.istore_n 1, 1) := by decide +kernel
theorem d_MO_bad_131 : decode b_MO_bad 131 = .ok (.goto 72, 3) := by decide +kernel
theorem d_MO_bad_134 : decode b_MO_bad 134 = .ok (.iload 5, 2) := by decide +kernel
theorem d_MO_bad_136 : decode b_MO_bad 136 = .ok (.ifCond .eq 28, 3) := by decide +kernel
theorem d_MO_bad_139 : decode b_MO_bad 139 = .ok (.iload_n 2, 1) := by decide +kernel
theorem d_MO_bad_140 : decode b_MO_bad 140 = .ok (.ifCond .ne 24, 3) := by decide +kernel
theorem d_MO_bad_143 : decode b_MO_bad 143 = .ok (.iload 4, 2) := by decide +kernel
theorem d_MO_bad_145 : decode b_MO_bad 145 = .ok (.bipush 7, 2) := by decide +kernel
theorem d_MO_bad_147 : decode b_MO_bad 147 = .ok (.if_icmp .lt 17, 3) := by decide +kernel
theorem d_MO_bad_150 : decode b_MO_bad 150 = .ok (.iload 4, 2) := by decide +kernel
theorem d_MO_bad_152 : decode b_MO_bad 152 = .ok (.bipush 9, 2) := by decide +kernel
theorem d_MO_bad_154 : decode b_MO_bad 154 = .ok (.if_icmp .gt 10, 3) := by decide +kernel
theorem d_MO_bad_157 : decode b_MO_bad 157 = .ok (.iconst 1, 1) := by decide +kernel
theorem d_MO_bad_158 : decode b_MO_bad 158 = .ok (.istore_n 2, 1) := by decide +kernel
theorem d_MO_bad_159 : decode b_MO_bad 159 = .ok (.iconst 0, 1) := by decide +kernel
theorem d_MO_bad_160 : decode b_MO_bad 160 = .ok (.istore_n 1, 1) := by decide +kernel
theorem d_MO_bad_161 : decode b_MO_bad 161 = .ok (.goto 42, 3) := by decide +kernel
theorem d_MO_bad_164 : decode b_MO_bad 164 = .ok (.iload 5, 2) := by decide +kernel
theorem d_MO_bad_166 : decode b_MO_bad 166 = .ok (.ifCond .eq 21, 3) := by decide +kernel
theorem d_MO_bad_169 : decode b_MO_bad 169 = .ok (.iload_n 2, 1) := by decide +kernel
theorem d_MO_bad_170 : decode b_MO_bad 170 = .ok (.ifCond .eq 17, 3) := by decide +kernel
theorem d_MO_bad_173 : decode b_MO_bad 173 = .ok (.iload 4, 2) := by decide +kernel
theorem d_MO_bad_175 : decode b_MO_bad 175 = .ok (.bipush 6, 2) := by decide +kernel
theorem d_MO_bad_177 : decode b_MO_bad 177 = .ok (.if_icmp .ne 10, 3) := by decide +kernel
theorem d_MO_bad_180 : decode b_MO_bad 180 = .ok (.iconst 0, 1) := by decide +kernel
theorem d_MO_bad_181 : decode b_MO_bad 181 = .ok (.istore_n 2, 1) := by decide +kernel
theorem d_MO_bad_182 : decode b_MO_bad 182 = .ok (.iconst 0, 1) := by decide +kernel
theorem d_MO_bad_183 : decode b_MO_bad 183 = .ok (.istore_n 1, 1) := by decide +kernel
theorem d_MO_bad_184 : decode b_MO_bad 184 = .ok (.goto 19, 3) := by decide +kernel
theorem d_MO_bad_187 : decode b_MO_bad 187 = .ok (.iload 5, 2) := by decide +kernel
theorem d_MO_bad_189 : decode b_MO_bad 189 = .ok (.ifCond .eq 12, 3) := by decide +kernel
theorem d_MO_bad_192 : decode b_MO_bad 192 = .ok (.iload_n 2, 1) := by decide +kernel
theorem d_MO_bad_193 : decode b_MO_bad 193 = .ok (.ifCond .eq 8, 3) := by decide +kernel
theorem d_MO_bad_196 : decode b_MO_bad 196 = .ok (.iload 4, 2) := by decide +kernel
theorem d_MO_bad_198 : decode b_MO_bad 198 = .ok (.ifCond .eq 5, 3) := by decide +kernel
theorem d_MO_bad_201 : decode b_MO_bad 201 = .ok (.iload_n 3, 1) := by decide +kernel
theorem d_MO_bad_202 : decode b_MO_bad 202 = .ok (.ireturn, 1) := by decide +kernel
theorem d_MO_bad_203 : decode b_MO_bad 203 = .ok (.iinc 3 1, 3) := by decide +kernel
theorem d_MO_bad_206 : decode b_MO_bad 206 = .ok (.goto (-200), 3) := by decide +kernel
theorem d_MO_bad_209 : decode b_MO_bad 209 = .ok (.iconst (-1), 1) := by decide +kernel
theorem d_MO_bad_210 : decode b_MO_bad 210 = .ok (.ireturn, 1) := by decide +kernel
theorem d_MO_cut_0 : decode b_MO_cut 0 = .ok (.aload_n 0, 1) := by decide +kernel
theorem d_MO_cut_1 : decode b_MO_cut 1 = .ok (.iconst 0, 1) := by decide +kernel
theorem d_MO_cut_2 : decode b_MO_cut 2 = .ok (.putfield 93, 3) := by decide +kernel
theorem d_MO_cut_5 : decode b_MO_cut 5 = .ok (.iconst 0, 1) := by decide +kernel
theorem d_MO_cut_6 : decode b_MO_cut 6 = .ok (.istore_n 1, 1) := by decide +kernel
theorem d_MO_cut_7 : decode b_MO_cut 7 = .ok (.iconst 1, 1) := by decide +kernel
theorem d_MO_cut_8 : decode b_MO_cut 8 = .ok (.istore_n 2, 1) := by decide +kernel
theorem d_MO_cut_9 : decode b_MO_cut 9 = .ok (.iload_n 2, 1) := by decide +kernel
theorem d_MO_cut_10 : decode b_MO_cut 10 = .ok (.ifCond .eq 285, 3) := by decide +kernel
theorem d_MO_cut_13 : decode b_MO_cut 13 = .ok (.iload_n 1, 1) := by decide +kernel
theorem d_MO_cut_14 : decode b_MO_cut 14 = .ok (.aload_n 0, 1) := by decide +kernel
theorem d_MO_cut_15 : decode b_MO_cut 15 = .ok (.getfield 84, 3) := by decide +kernel
theorem d_MO_cut_18 : decode b_MO_cut 18 = .ok (.if_icmp .ge 277, 3) := by decide +kernel
theorem d_MO_cut_21 : decode b_MO_cut 21 = .ok (.aload_n 0, 1) := by decide +kernel
theorem d_MO_cut_22 : decode b_MO_cut 22 = .ok (.getfield 7, 3) := by decide +kernel
theorem d_MO_cut_25 : decode b_MO_cut 25 = .ok (.iload_n 1, 1) := by decide +kernel
theorem d_MO_cut_26 : decode b_MO_cut 26 = .ok (.iaload, 1) := by decide +kernel
theorem d_MO_cut_27 : decode b_MO_cut 27 = .ok (.istore_n 3, 1) := by decide +kernel
theorem d_MO_cut_28 : decode b_MO_cut 28 = .ok (.iload_n 1, 1) := by decide +kernel
theorem d_MO_cut_29 : decode b_MO_cut 29 = .ok (.iconst 1, 1) := by decide +kernel
theorem d_MO_cut_30 : decode b_MO_cut 30 = .ok (.iadd, 1) := by decide +kernel
theorem d_MO_cut_31 : decode b_MO_cut 31 = .ok (.istore 4, 2) := by decide +kernel
theorem d_MO_cut_33 : decode b_MO_cut 33 = .ok (.iconst 0, 1) := by decide +kernel
theorem d_MO_cut_34 : decode b_MO_cut 34 = .ok (.istore 5, 2) := by decide +kernel
theorem d_MO_cut_36 : decode b_MO_cut 36 = .ok (.bipush 10, 2) := by decide +kernel
theorem d_MO_cut_38 : decode b_MO_cut 38 = .ok (.istore 6, 2) := by decide +kernel
theorem d_MO_cut_40 : decode b_MO_cut 40 = .ok (.iload_n 3, 1) := by decide +kernel
theorem d_MO_cut_41 : decode b_MO_cut 41 = .ok (.bipush 48, 2) := by decide +kernel
theorem d_MO_cut_43 : decode b_MO_cut 43 = .ok (.if_icmp .lt 89, 3) := by decide +kernel
theorem d_MO_cut_46 : decode b_MO_cut 46 = .ok (.iload_n 3, 1) := by decide +kernel
theorem d_MO_cut_47 : decode b_MO_cut 47 = .ok (.bipush 57, 2) := by decide +kernel
theorem d_MO_cut_49 : decode b_MO_cut 49 = .ok (.if_icmp .gt 83, 3) := by decide +kernel
theorem d_MO_cut_52 : decode b_MO_cut 52 = .ok (.iload_n 1, 1) := by decide +kernel
theorem d_MO_cut_53 : decode b_MO_cut 53 = .ok (.istore 4, 2) := by decide +kernel
