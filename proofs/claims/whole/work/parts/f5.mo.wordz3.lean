theorem d_MO_put_17 : decode b_MO_put 17 = .ok (.iload_n 1, 1) := by decide +kernel
theorem d_MO_put_18 : decode b_MO_put 18 = .ok (.imul, 1) := by decide +kernel
theorem d_MO_put_19 : decode b_MO_put 19 = .ok (.bipush 6, 2) := by decide +kernel
theorem d_MO_put_21 : decode b_MO_put 21 = .ok (.aload_n 0, 1) := by decide +kernel
theorem d_MO_put_22 : decode b_MO_put 22 = .ok (.getfield 48, 3) := by decide +kernel
theorem d_MO_put_25 : decode b_MO_put 25 = .ok (.iload_n 1, 1) := by decide +kernel
theorem d_MO_put_26 : decode b_MO_put 26 = .ok (.iaload, 1) := by decide +kernel
theorem d_MO_put_27 : decode b_MO_put 27 = .ok (.imul, 1) := by decide +kernel
theorem d_MO_put_28 : decode b_MO_put 28 = .ok (.iadd, 1) := by decide +kernel
theorem d_MO_put_29 : decode b_MO_put 29 = .ok (.iload_n 2, 1) := by decide +kernel
theorem d_MO_put_30 : decode b_MO_put 30 = .ok (.iadd, 1) := by decide +kernel
theorem d_MO_put_31 : decode b_MO_put 31 = .ok (.aload_n 0, 1) := by decide +kernel
theorem d_MO_put_32 : decode b_MO_put 32 = .ok (.getfield 78, 3) := by decide +kernel
theorem d_MO_put_35 : decode b_MO_put 35 = .ok (.iload_n 2, 1) := by decide +kernel
theorem d_MO_put_36 : decode b_MO_put 36 = .ok (.iaload, 1) := by decide +kernel
theorem d_MO_put_37 : decode b_MO_put 37 = .ok (.i2b, 1) := by decide +kernel
theorem d_MO_put_38 : decode b_MO_put 38 = .ok (.bastore, 1) := by decide +kernel
theorem d_MO_put_39 : decode b_MO_put 39 = .ok (.iinc 2 1, 3) := by decide +kernel
theorem d_MO_put_42 : decode b_MO_put 42 = .ok (.goto (-40), 3) := by decide +kernel
theorem d_MO_put_45 : decode b_MO_put 45 = .ok (.aload_n 0, 1) := by decide +kernel
theorem d_MO_put_46 : decode b_MO_put 46 = .ok (.getfield 48, 3) := by decide +kernel
theorem d_MO_put_49 : decode b_MO_put 49 = .ok (.iload_n 1, 1) := by decide +kernel
theorem d_MO_put_50 : decode b_MO_put 50 = .ok (.aload_n 0, 1) := by decide +kernel
theorem d_MO_put_51 : decode b_MO_put 51 = .ok (.getfield 48, 3) := by decide +kernel
theorem d_MO_put_54 : decode b_MO_put 54 = .ok (.iload_n 1, 1) := by decide +kernel
theorem d_MO_put_55 : decode b_MO_put 55 = .ok (.iaload, 1) := by decide +kernel
theorem d_MO_put_56 : decode b_MO_put 56 = .ok (.iconst 1, 1) := by decide +kernel
theorem d_MO_put_57 : decode b_MO_put 57 = .ok (.iadd, 1) := by decide +kernel
theorem d_MO_put_58 : decode b_MO_put 58 = .ok (.iastore, 1) := by decide +kernel
theorem d_MO_put_59 : decode b_MO_put 59 = .ok (.return_, 1) := by decide +kernel
theorem d_MO_split_0 : decode b_MO_split 0 = .ok (.aload_n 0, 1) := by decide +kernel
theorem d_MO_split_1 : decode b_MO_split 1 = .ok (.iconst 0, 1) := by decide +kernel
theorem d_MO_split_2 : decode b_MO_split 2 = .ok (.putfield 81, 3) := by decide +kernel
theorem d_MO_split_5 : decode b_MO_split 5 = .ok (.iconst 0, 1) := by decide +kernel
theorem d_MO_split_6 : decode b_MO_split 6 = .ok (.istore_n 1, 1) := by decide +kernel
theorem d_MO_split_7 : decode b_MO_split 7 = .ok (.iconst 0, 1) := by decide +kernel
theorem d_MO_split_8 : decode b_MO_split 8 = .ok (.istore_n 2, 1) := by decide +kernel
theorem d_MO_split_9 : decode b_MO_split 9 = .ok (.iload_n 2, 1) := by decide +kernel
theorem d_MO_split_10 : decode b_MO_split 10 = .ok (.aload_n 0, 1) := by decide +kernel
theorem d_MO_split_11 : decode b_MO_split 11 = .ok (.getfield 143, 3) := by decide +kernel
theorem d_MO_split_14 : decode b_MO_split 14 = .ok (.if_icmp .ge 18, 3) := by decide +kernel
theorem d_MO_split_17 : decode b_MO_split 17 = .ok (.iload_n 1, 1) := by decide +kernel
theorem d_MO_split_18 : decode b_MO_split 18 = .ok (.aload_n 0, 1) := by decide +kernel
theorem d_MO_split_19 : decode b_MO_split 19 = .ok (.getfield 56, 3) := by decide +kernel
theorem d_MO_split_22 : decode b_MO_split 22 = .ok (.iload_n 2, 1) := by decide +kernel
theorem d_MO_split_23 : decode b_MO_split 23 = .ok (.iaload, 1) := by decide +kernel
theorem d_MO_split_24 : decode b_MO_split 24 = .ok (.iadd, 1) := by decide +kernel
theorem d_MO_split_25 : decode b_MO_split 25 = .ok (.istore_n 1, 1) := by decide +kernel
theorem d_MO_split_26 : decode b_MO_split 26 = .ok (.iinc 2 1, 3) := by decide +kernel
theorem d_MO_split_29 : decode b_MO_split 29 = .ok (.goto (-20), 3) := by decide +kernel
theorem d_MO_split_32 : decode b_MO_split 32 = .ok (.aload_n 0, 1) := by decide +kernel
theorem d_MO_split_33 : decode b_MO_split 33 = .ok (.getfield 133, 3) := by decide +kernel
theorem d_MO_split_36 : decode b_MO_split 36 = .ok (.ifCond .eq 60, 3) := by decide +kernel
theorem d_MO_split_39 : decode b_MO_split 39 = .ok (.aload_n 0, 1) := by decide +kernel
theorem d_MO_split_40 : decode b_MO_split 40 = .ok (.invokevirtual 227, 3) := by decide +kernel
theorem d_MO_split_43 : decode b_MO_split 43 = .ok (.ifCond .eq 53, 3) := by decide +kernel
theorem d_MO_split_46 : decode b_MO_split 46 = .ok (.aload_n 0, 1) := by decide +kernel
theorem d_MO_split_47 : decode b_MO_split 47 = .ok (.aload_n 0, 1) := by decide +kernel
theorem d_MO_split_48 : decode b_MO_split 48 = .ok (.getfield 56, 3) := by decide +kernel
theorem d_MO_split_51 : decode b_MO_split 51 = .ok (.iconst 1, 1) := by decide +kernel
theorem d_MO_split_52 : decode b_MO_split 52 = .ok (.invokevirtual 198, 3) := by decide +kernel
theorem d_MO_split_55 : decode b_MO_split 55 = .ok (.ifCond .eq 41, 3) := by decide +kernel
theorem d_MO_split_58 : decode b_MO_split 58 = .ok (.aload_n 0, 1) := by decide +kernel
theorem d_MO_split_59 : decode b_MO_split 59 = .ok (.getfield 41, 3) := by decide +kernel
theorem d_MO_split_62 : decode b_MO_split 62 = .ok (.iconst 0, 1) := by decide +kernel
theorem d_MO_split_63 : decode b_MO_split 63 = .ok (.baload, 1) := by decide +kernel
theorem d_MO_split_64 : decode b_MO_split 64 = .ok (.ifCond .eq 32, 3) := by decide +kernel
theorem d_MO_split_67 : decode b_MO_split 67 = .ok (.aload_n 0, 1) := by decide +kernel
theorem d_MO_split_68 : decode b_MO_split 68 = .ok (.getfield 41, 3) := by decide +kernel
theorem d_MO_split_71 : decode b_MO_split 71 = .ok (.iconst 1, 1) := by decide +kernel
theorem d_MO_split_72 : decode b_MO_split 72 = .ok (.baload, 1) := by decide +kernel
theorem d_MO_split_73 : decode b_MO_split 73 = .ok (.ifCond .eq 23, 3) := by decide +kernel
theorem d_MO_split_76 : decode b_MO_split 76 = .ok (.iload_n 1, 1) := by decide +kernel
theorem d_MO_split_77 : decode b_MO_split 77 = .ok (.aload_n 0, 1) := by decide +kernel
theorem d_MO_split_78 : decode b_MO_split 78 = .ok (.getfield 45, 3) := by decide +kernel
theorem d_MO_split_81 : decode b_MO_split 81 = .ok (.iconst 0, 1) := by decide +kernel
theorem d_MO_split_82 : decode b_MO_split 82 = .ok (.iaload, 1) := by decide +kernel
theorem d_MO_split_83 : decode b_MO_split 83 = .ok (.if_icmp .gt 13, 3) := by decide +kernel
theorem d_MO_split_86 : decode b_MO_split 86 = .ok (.iload_n 1, 1) := by decide +kernel
theorem d_MO_split_87 : decode b_MO_split 87 = .ok (.aload_n 0, 1) := by decide +kernel
theorem d_MO_split_88 : decode b_MO_split 88 = .ok (.getfield 45, 3) := by decide +kernel
theorem d_MO_split_91 : decode b_MO_split 91 = .ok (.iconst 1, 1) := by decide +kernel
theorem d_MO_split_92 : decode b_MO_split 92 = .ok (.iaload, 1) := by decide +kernel
theorem d_MO_split_93 : decode b_MO_split 93 = .ok (.if_icmp .le 5, 3) := by decide +kernel
theorem d_MO_split_96 : decode b_MO_split 96 = .ok (.iconst (-1), 1) := by decide +kernel
theorem d_MO_split_97 : decode b_MO_split 97 = .ok (.ireturn, 1) := by decide +kernel
theorem d_MO_split_98 : decode b_MO_split 98 = .ok (.iconst 0, 1) := by decide +kernel
theorem d_MO_split_99 : decode b_MO_split 99 = .ok (.istore_n 2, 1) := by decide +kernel
theorem d_MO_split_100 : decode b_MO_split 100 = .ok (.iload_n 2, 1) := by decide +kernel
theorem d_MO_split_101 : decode b_MO_split 101 = .ok (.aload_n 0, 1) := by decide +kernel
theorem d_MO_split_102 : decode b_MO_split 102 = .ok (.getfield 143, 3) := by decide +kernel
theorem d_MO_split_105 : decode b_MO_split 105 = .ok (.if_icmp .ge 21, 3) := by decide +kernel
theorem d_MO_split_108 : decode b_MO_split 108 = .ok (.aload_n 0, 1) := by decide +kernel
theorem d_MO_split_109 : decode b_MO_split 109 = .ok (.getfield 78, 3) := by decide +kernel
theorem d_MO_split_112 : decode b_MO_split 112 = .ok (.iload_n 2, 1) := by decide +kernel
theorem d_MO_split_113 : decode b_MO_split 113 = .ok (.aload_n 0, 1) := by decide +kernel
theorem d_MO_split_114 : decode b_MO_split 114 = .ok (.getfield 56, 3) := by decide +kernel
theorem d_MO_split_117 : decode b_MO_split 117 = .ok (.iload_n 2, 1) := by decide +kernel
theorem d_MO_split_118 : decode b_MO_split 118 = .ok (.iaload, 1) := by decide +kernel
theorem d_MO_split_119 : decode b_MO_split 119 = .ok (.iastore, 1) := by decide +kernel
theorem d_MO_split_120 : decode b_MO_split 120 = .ok (.iinc 2 1, 3) := by decide +kernel
theorem d_MO_split_123 : decode b_MO_split 123 = .ok (.goto (-23), 3) := by decide +kernel
theorem d_MO_split_126 : decode b_MO_split 126 = .ok (.iconst 0, 1) := by decide +kernel
theorem d_MO_split_127 : decode b_MO_split 127 = .ok (.istore_n 2, 1) := by decide +kernel
theorem d_MO_split_128 : decode b_MO_split 128 = .ok (.aload_n 0, 1) := by decide +kernel
theorem d_MO_split_129 : decode b_MO_split 129 = .ok (.iconst 1, 1) := by decide +kernel
theorem d_MO_split_130 : decode b_MO_split 130 = .ok (.iload_n 2, 1) := by decide +kernel
theorem d_MO_split_131 : decode b_MO_split 131 = .ok (.iconst 1, 1) := by decide +kernel
theorem d_MO_split_132 : decode b_MO_split 132 = .ok (.invokevirtual 202, 3) := by decide +kernel
theorem d_MO_split_135 : decode b_MO_split 135 = .ok (.ifCond .ne 9, 3) := by decide +kernel
theorem d_MO_split_138 : decode b_MO_split 138 = .ok (.iinc 2 1, 3) := by decide +kernel
theorem d_MO_split_141 : decode b_MO_split 141 = .ok (.goto (-13), 3) := by decide +kernel
theorem d_MO_split_144 : decode b_MO_split 144 = .ok (.iconst 0, 1) := by decide +kernel
theorem d_MO_split_145 : decode b_MO_split 145 = .ok (.istore_n 3, 1) := by decide +kernel
theorem d_MO_split_146 : decode b_MO_split 146 = .ok (.iload_n 3, 1) := by decide +kernel
theorem d_MO_split_147 : decode b_MO_split 147 = .ok (.aload_n 0, 1) := by decide +kernel
theorem d_MO_split_148 : decode b_MO_split 148 = .ok (.getfield 143, 3) := by decide +kernel
theorem d_MO_split_151 : decode b_MO_split 151 = .ok (.if_icmp .ge 37, 3) := by decide +kernel
theorem d_MO_split_154 : decode b_MO_split 154 = .ok (.aload_n 0, 1) := by decide +kernel
theorem d_MO_split_155 : decode b_MO_split 155 = .ok (.getfield 78, 3) := by decide +kernel
theorem d_MO_split_158 : decode b_MO_split 158 = .ok (.iload_n 3, 1) := by decide +kernel
theorem d_MO_split_159 : decode b_MO_split 159 = .ok (.aload_n 0, 1) := by decide +kernel
theorem d_MO_split_160 : decode b_MO_split 160 = .ok (.getfield 78, 3) := by decide +kernel
theorem d_MO_split_163 : decode b_MO_split 163 = .ok (.iload_n 3, 1) := by decide +kernel
theorem d_MO_split_164 : decode b_MO_split 164 = .ok (.iaload, 1) := by decide +kernel
theorem d_MO_split_165 : decode b_MO_split 165 = .ok (.aload_n 0, 1) := by decide +kernel
theorem d_MO_split_166 : decode b_MO_split 166 = .ok (.getfield 52, 3) := by decide +kernel
theorem d_MO_split_169 : decode b_MO_split 169 = .ok (.sipush 12000, 3) := by decide +kernel
theorem d_MO_split_172 : decode b_MO_split 172 = .ok (.bipush 6, 2) := by decide +kernel
theorem d_MO_split_174 : decode b_MO_split 174 = .ok (.iload_n 2, 1) := by decide +kernel
theorem d_MO_split_175 : decode b_MO_split 175 = .ok (.imul, 1) := by decide +kernel
theorem d_MO_split_176 : decode b_MO_split 176 = .ok (.iadd, 1) := by decide +kernel
theorem d_MO_split_177 : decode b_MO_split 177 = .ok (.iload_n 3, 1) := by decide +kernel
theorem d_MO_split_178 : decode b_MO_split 178 = .ok (.iadd, 1) := by decide +kernel
theorem d_MO_split_179 : decode b_MO_split 179 = .ok (.baload, 1) := by decide +kernel
theorem d_MO_split_180 : decode b_MO_split 180 = .ok (.isub, 1) := by decide +kernel
theorem d_MO_split_181 : decode b_MO_split 181 = .ok (.iastore, 1) := by decide +kernel
theorem d_MO_split_182 : decode b_MO_split 182 = .ok (.iinc 3 1, 3) := by decide +kernel
theorem d_MO_split_185 : decode b_MO_split 185 = .ok (.goto (-39), 3) := by decide +kernel
theorem d_MO_split_188 : decode b_MO_split 188 = .ok (.iconst 0, 1) := by decide +kernel
theorem d_MO_split_189 : decode b_MO_split 189 = .ok (.istore_n 3, 1) := by decide +kernel
theorem d_MO_split_190 : decode b_MO_split 190 = .ok (.iload_n 3, 1) := by decide +kernel
theorem d_MO_split_191 : decode b_MO_split 191 = .ok (.aload_n 0, 1) := by decide +kernel
theorem d_MO_split_192 : decode b_MO_split 192 = .ok (.getfield 48, 3) := by decide +kernel
theorem d_MO_split_195 : decode b_MO_split 195 = .ok (.iconst 0, 1) := by decide +kernel
theorem d_MO_split_196 : decode b_MO_split 196 = .ok (.iaload, 1) := by decide +kernel
theorem d_MO_split_197 : decode b_MO_split 197 = .ok (.if_icmp .ge 88, 3) := by decide +kernel
theorem d_MO_split_200 : decode b_MO_split 200 = .ok (.aload_n 0, 1) := by decide +kernel
theorem d_MO_split_201 : decode b_MO_split 201 = .ok (.getfield 62, 3) := by decide +kernel
theorem d_MO_split_204 : decode b_MO_split 204 = .ok (.iload_n 3, 1) := by decide +kernel
