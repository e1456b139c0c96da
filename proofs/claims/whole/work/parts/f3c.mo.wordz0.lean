theorem d_MO_read_0 : decode b_MO_read 0 = .ok (.aload_n 0, 1) := by decide +kernel
theorem d_MO_read_1 : decode b_MO_read 1 = .ok (.iconst 0, 1) := by decide +kernel
theorem d_MO_read_2 : decode b_MO_read 2 = .ok (.putfield 81, 3) := by decide +kernel
theorem d_MO_read_5 : decode b_MO_read 5 = .ok (.aload_n 0, 1) := by decide +kernel
theorem d_MO_read_6 : decode b_MO_read 6 = .ok (.invokevirtual 120, 3) := by decide +kernel
theorem d_MO_read_9 : decode b_MO_read 9 = .ok (.aload_n 0, 1) := by decide +kernel
theorem d_MO_read_10 : decode b_MO_read 10 = .ok (.iconst 0, 1) := by decide +kernel
theorem d_MO_read_11 : decode b_MO_read 11 = .ok (.putfield 84, 3) := by decide +kernel
theorem d_MO_read_14 : decode b_MO_read 14 = .ok (.aload_n 0, 1) := by decide +kernel
theorem d_MO_read_15 : decode b_MO_read 15 = .ok (.invokevirtual 123, 3) := by decide +kernel
theorem d_MO_read_18 : decode b_MO_read 18 = .ok (.istore_n 1, 1) := by decide +kernel
theorem d_MO_read_19 : decode b_MO_read 19 = .ok (.iload_n 1, 1) := by decide +kernel
theorem d_MO_read_20 : decode b_MO_read 20 = .ok (.ifCond .lt 15, 3) := by decide +kernel
theorem d_MO_read_23 : decode b_MO_read 23 = .ok (.aload_n 0, 1) := by decide +kernel
theorem d_MO_read_24 : decode b_MO_read 24 = .ok (.iconst 1, 1) := by decide +kernel
theorem d_MO_read_25 : decode b_MO_read 25 = .ok (.aload_n 0, 1) := by decide +kernel
theorem d_MO_read_26 : decode b_MO_read 26 = .ok (.getfield 20, 3) := by decide +kernel
theorem d_MO_read_29 : decode b_MO_read 29 = .ok (.iload_n 1, 1) := by decide +kernel
theorem d_MO_read_30 : decode b_MO_read 30 = .ok (.iaload, 1) := by decide +kernel
theorem d_MO_read_31 : decode b_MO_read 31 = .ok (.invokevirtual 113, 3) := by decide +kernel
theorem d_MO_read_34 : decode b_MO_read 34 = .ok (.ireturn, 1) := by decide +kernel
theorem d_MO_read_35 : decode b_MO_read 35 = .ok (.aload_n 0, 1) := by decide +kernel
theorem d_MO_read_36 : decode b_MO_read 36 = .ok (.invokevirtual 127, 3) := by decide +kernel
theorem d_MO_read_39 : decode b_MO_read 39 = .ok (.istore_n 2, 1) := by decide +kernel
theorem d_MO_read_40 : decode b_MO_read 40 = .ok (.iload_n 2, 1) := by decide +kernel
theorem d_MO_read_41 : decode b_MO_read 41 = .ok (.ifCond .eq 5, 3) := by decide +kernel
theorem d_MO_read_44 : decode b_MO_read 44 = .ok (.iload_n 2, 1) := by decide +kernel
theorem d_MO_read_45 : decode b_MO_read 45 = .ok (.ireturn, 1) := by decide +kernel
theorem d_MO_read_46 : decode b_MO_read 46 = .ok (.aload_n 0, 1) := by decide +kernel
theorem d_MO_read_47 : decode b_MO_read 47 = .ok (.invokevirtual 130, 3) := by decide +kernel
theorem d_MO_read_50 : decode b_MO_read 50 = .ok (.iconst 0, 1) := by decide +kernel
theorem d_MO_read_51 : decode b_MO_read 51 = .ok (.ireturn, 1) := by decide +kernel
theorem d_MO_take_0 : decode b_MO_take 0 = .ok (.aload_n 0, 1) := by decide +kernel
theorem d_MO_take_1 : decode b_MO_take 1 = .ok (.iconst (-1), 1) := by decide +kernel
theorem d_MO_take_2 : decode b_MO_take 2 = .ok (.putfield 13, 3) := by decide +kernel
theorem d_MO_take_5 : decode b_MO_take 5 = .ok (.aload_n 0, 1) := by decide +kernel
theorem d_MO_take_6 : decode b_MO_take 6 = .ok (.iconst 1, 1) := by decide +kernel
theorem d_MO_take_7 : decode b_MO_take 7 = .ok (.putfield 133, 3) := by decide +kernel
theorem d_MO_take_10 : decode b_MO_take 10 = .ok (.aload_n 0, 1) := by decide +kernel
theorem d_MO_take_11 : decode b_MO_take 11 = .ok (.aload_n 0, 1) := by decide +kernel
theorem d_MO_take_12 : decode b_MO_take 12 = .ok (.getfield 110, 3) := by decide +kernel
theorem d_MO_take_15 : decode b_MO_take 15 = .ok (.putfield 137, 3) := by decide +kernel
theorem d_MO_take_18 : decode b_MO_take 18 = .ok (.aload_n 0, 1) := by decide +kernel
theorem d_MO_take_19 : decode b_MO_take 19 = .ok (.aload_n 0, 1) := by decide +kernel
theorem d_MO_take_20 : decode b_MO_take 20 = .ok (.getfield 104, 3) := by decide +kernel
theorem d_MO_take_23 : decode b_MO_take 23 = .ok (.putfield 140, 3) := by decide +kernel
theorem d_MO_take_26 : decode b_MO_take 26 = .ok (.aload_n 0, 1) := by decide +kernel
theorem d_MO_take_27 : decode b_MO_take 27 = .ok (.aload_n 0, 1) := by decide +kernel
theorem d_MO_take_28 : decode b_MO_take 28 = .ok (.getfield 104, 3) := by decide +kernel
theorem d_MO_take_31 : decode b_MO_take 31 = .ok (.aload_n 0, 1) := by decide +kernel
theorem d_MO_take_32 : decode b_MO_take 32 = .ok (.getfield 107, 3) := by decide +kernel
theorem d_MO_take_35 : decode b_MO_take 35 = .ok (.iadd, 1) := by decide +kernel
theorem d_MO_take_36 : decode b_MO_take 36 = .ok (.putfield 143, 3) := by decide +kernel
theorem d_MO_take_39 : decode b_MO_take 39 = .ok (.aload_n 0, 1) := by decide +kernel
theorem d_MO_take_40 : decode b_MO_take 40 = .ok (.getfield 104, 3) := by decide +kernel
theorem d_MO_take_43 : decode b_MO_take 43 = .ok (.istore_n 1, 1) := by decide +kernel
theorem d_MO_take_44 : decode b_MO_take 44 = .ok (.iconst 0, 1) := by decide +kernel
theorem d_MO_take_45 : decode b_MO_take 45 = .ok (.istore_n 2, 1) := by decide +kernel
theorem d_MO_take_46 : decode b_MO_take 46 = .ok (.iload_n 2, 1) := by decide +kernel
theorem d_MO_take_47 : decode b_MO_take 47 = .ok (.aload_n 0, 1) := by decide +kernel
theorem d_MO_take_48 : decode b_MO_take 48 = .ok (.getfield 137, 3) := by decide +kernel
theorem d_MO_take_51 : decode b_MO_take 51 = .ok (.if_icmp .ge 128, 3) := by decide +kernel
theorem d_MO_take_54 : decode b_MO_take 54 = .ok (.iconst 0, 1) := by decide +kernel
theorem d_MO_take_55 : decode b_MO_take 55 = .ok (.istore_n 3, 1) := by decide +kernel
theorem d_MO_take_56 : decode b_MO_take 56 = .ok (.iload_n 3, 1) := by decide +kernel
theorem d_MO_take_57 : decode b_MO_take 57 = .ok (.bipush 7, 2) := by decide +kernel
theorem d_MO_take_59 : decode b_MO_take 59 = .ok (.if_icmp .ge 21, 3) := by decide +kernel
theorem d_MO_take_62 : decode b_MO_take 62 = .ok (.aload_n 0, 1) := by decide +kernel
theorem d_MO_take_63 : decode b_MO_take 63 = .ok (.getfield 38, 3) := by decide +kernel
theorem d_MO_take_66 : decode b_MO_take 66 = .ok (.bipush 7, 2) := by decide +kernel
theorem d_MO_take_68 : decode b_MO_take 68 = .ok (.iload_n 2, 1) := by decide +kernel
theorem d_MO_take_69 : decode b_MO_take 69 = .ok (.imul, 1) := by decide +kernel
theorem d_MO_take_70 : decode b_MO_take 70 = .ok (.iload_n 3, 1) := by decide +kernel
theorem d_MO_take_71 : decode b_MO_take 71 = .ok (.iadd, 1) := by decide +kernel
theorem d_MO_take_72 : decode b_MO_take 72 = .ok (.iconst 0, 1) := by decide +kernel
theorem d_MO_take_73 : decode b_MO_take 73 = .ok (.iastore, 1) := by decide +kernel
theorem d_MO_take_74 : decode b_MO_take 74 = .ok (.iinc 3 1, 3) := by decide +kernel
theorem d_MO_take_77 : decode b_MO_take 77 = .ok (.goto (-21), 3) := by decide +kernel
theorem d_MO_take_80 : decode b_MO_take 80 = .ok (.iconst 0, 1) := by decide +kernel
theorem d_MO_take_81 : decode b_MO_take 81 = .ok (.istore_n 3, 1) := by decide +kernel
theorem d_MO_take_82 : decode b_MO_take 82 = .ok (.iload_n 3, 1) := by decide +kernel
theorem d_MO_take_83 : decode b_MO_take 83 = .ok (.aload_n 0, 1) := by decide +kernel
theorem d_MO_take_84 : decode b_MO_take 84 = .ok (.getfield 140, 3) := by decide +kernel
theorem d_MO_take_87 : decode b_MO_take 87 = .ok (.if_icmp .ge 31, 3) := by decide +kernel
theorem d_MO_take_90 : decode b_MO_take 90 = .ok (.aload_n 0, 1) := by decide +kernel
theorem d_MO_take_91 : decode b_MO_take 91 = .ok (.getfield 38, 3) := by decide +kernel
theorem d_MO_take_94 : decode b_MO_take 94 = .ok (.bipush 7, 2) := by decide +kernel
theorem d_MO_take_96 : decode b_MO_take 96 = .ok (.iload_n 2, 1) := by decide +kernel
theorem d_MO_take_97 : decode b_MO_take 97 = .ok (.imul, 1) := by decide +kernel
theorem d_MO_take_98 : decode b_MO_take 98 = .ok (.iload_n 3, 1) := by decide +kernel
theorem d_MO_take_99 : decode b_MO_take 99 = .ok (.iadd, 1) := by decide +kernel
theorem d_MO_take_100 : decode b_MO_take 100 = .ok (.aload_n 0, 1) := by decide +kernel
theorem d_MO_take_101 : decode b_MO_take 101 = .ok (.getfield 29, 3) := by decide +kernel
theorem d_MO_take_104 : decode b_MO_take 104 = .ok (.bipush 7, 2) := by decide +kernel
theorem d_MO_take_106 : decode b_MO_take 106 = .ok (.iload_n 2, 1) := by decide +kernel
theorem d_MO_take_107 : decode b_MO_take 107 = .ok (.imul, 1) := by decide +kernel
theorem d_MO_take_108 : decode b_MO_take 108 = .ok (.iload_n 3, 1) := by decide +kernel
theorem d_MO_take_109 : decode b_MO_take 109 = .ok (.iadd, 1) := by decide +kernel
theorem d_MO_take_110 : decode b_MO_take 110 = .ok (.iaload, 1) := by decide +kernel
theorem d_MO_take_111 : decode b_MO_take 111 = .ok (.iastore, 1) := by decide +kernel
theorem d_MO_take_112 : decode b_MO_take 112 = .ok (.iinc 3 1, 3) := by decide +kernel
theorem d_MO_take_115 : decode b_MO_take 115 = .ok (.goto (-33), 3) := by decide +kernel
theorem d_MO_take_118 : decode b_MO_take 118 = .ok (.aload_n 0, 1) := by decide +kernel
theorem d_MO_take_119 : decode b_MO_take 119 = .ok (.getfield 32, 3) := by decide +kernel
theorem d_MO_take_122 : decode b_MO_take 122 = .ok (.iload_n 2, 1) := by decide +kernel
theorem d_MO_take_123 : decode b_MO_take 123 = .ok (.iaload, 1) := by decide +kernel
theorem d_MO_take_124 : decode b_MO_take 124 = .ok (.ifCond .eq 23, 3) := by decide +kernel
theorem d_MO_take_127 : decode b_MO_take 127 = .ok (.aload_n 0, 1) := by decide +kernel
theorem d_MO_take_128 : decode b_MO_take 128 = .ok (.getfield 38, 3) := by decide +kernel
theorem d_MO_take_131 : decode b_MO_take 131 = .ok (.bipush 7, 2) := by decide +kernel
theorem d_MO_take_133 : decode b_MO_take 133 = .ok (.iload_n 2, 1) := by decide +kernel
theorem d_MO_take_134 : decode b_MO_take 134 = .ok (.imul, 1) := by decide +kernel
theorem d_MO_take_135 : decode b_MO_take 135 = .ok (.iload_n 1, 1) := by decide +kernel
theorem d_MO_take_136 : decode b_MO_take 136 = .ok (.iadd, 1) := by decide +kernel
theorem d_MO_take_137 : decode b_MO_take 137 = .ok (.aload_n 0, 1) := by decide +kernel
theorem d_MO_take_138 : decode b_MO_take 138 = .ok (.getfield 32, 3) := by decide +kernel
theorem d_MO_take_141 : decode b_MO_take 141 = .ok (.iload_n 2, 1) := by decide +kernel
theorem d_MO_take_142 : decode b_MO_take 142 = .ok (.iaload, 1) := by decide +kernel
theorem d_MO_take_143 : decode b_MO_take 143 = .ok (.iastore, 1) := by decide +kernel
theorem d_MO_take_144 : decode b_MO_take 144 = .ok (.iinc 1 1, 3) := by decide +kernel
theorem d_MO_take_147 : decode b_MO_take 147 = .ok (.aload_n 0, 1) := by decide +kernel
theorem d_MO_take_148 : decode b_MO_take 148 = .ok (.getfield 38, 3) := by decide +kernel
theorem d_MO_take_151 : decode b_MO_take 151 = .ok (.bipush 7, 2) := by decide +kernel
theorem d_MO_take_153 : decode b_MO_take 153 = .ok (.iload_n 2, 1) := by decide +kernel
theorem d_MO_take_154 : decode b_MO_take 154 = .ok (.imul, 1) := by decide +kernel
theorem d_MO_take_155 : decode b_MO_take 155 = .ok (.aload_n 0, 1) := by decide +kernel
theorem d_MO_take_156 : decode b_MO_take 156 = .ok (.getfield 143, 3) := by decide +kernel
theorem d_MO_take_159 : decode b_MO_take 159 = .ok (.iadd, 1) := by decide +kernel
theorem d_MO_take_160 : decode b_MO_take 160 = .ok (.aload_n 0, 1) := by decide +kernel
theorem d_MO_take_161 : decode b_MO_take 161 = .ok (.getfield 29, 3) := by decide +kernel
theorem d_MO_take_164 : decode b_MO_take 164 = .ok (.bipush 7, 2) := by decide +kernel
theorem d_MO_take_166 : decode b_MO_take 166 = .ok (.iload_n 2, 1) := by decide +kernel
theorem d_MO_take_167 : decode b_MO_take 167 = .ok (.imul, 1) := by decide +kernel
theorem d_MO_take_168 : decode b_MO_take 168 = .ok (.bipush 6, 2) := by decide +kernel
theorem d_MO_take_170 : decode b_MO_take 170 = .ok (.iadd, 1) := by decide +kernel
theorem d_MO_take_171 : decode b_MO_take 171 = .ok (.iaload, 1) := by decide +kernel
theorem d_MO_take_172 : decode b_MO_take 172 = .ok (.iastore, 1) := by decide +kernel
theorem d_MO_take_173 : decode b_MO_take 173 = .ok (.iinc 2 1, 3) := by decide +kernel
theorem d_MO_take_176 : decode b_MO_take 176 = .ok (.goto (-130), 3) := by decide +kernel
theorem d_MO_take_179 : decode b_MO_take 179 = .ok (.iconst 0, 1) := by decide +kernel
theorem d_MO_take_180 : decode b_MO_take 180 = .ok (.istore_n 2, 1) := by decide +kernel
theorem d_MO_take_181 : decode b_MO_take 181 = .ok (.iload_n 2, 1) := by decide +kernel
theorem d_MO_take_182 : decode b_MO_take 182 = .ok (.bipush 6, 2) := by decide +kernel
theorem d_MO_take_184 : decode b_MO_take 184 = .ok (.if_icmp .ge 47, 3) := by decide +kernel
theorem d_MO_take_187 : decode b_MO_take 187 = .ok (.aload_n 0, 1) := by decide +kernel
theorem d_MO_take_188 : decode b_MO_take 188 = .ok (.getfield 35, 3) := by decide +kernel
theorem d_MO_take_191 : decode b_MO_take 191 = .ok (.iload_n 2, 1) := by decide +kernel
theorem d_MO_take_192 : decode b_MO_take 192 = .ok (.iload_n 2, 1) := by decide +kernel
theorem d_MO_take_193 : decode b_MO_take 193 = .ok (.aload_n 0, 1) := by decide +kernel
theorem d_MO_take_194 : decode b_MO_take 194 = .ok (.getfield 140, 3) := by decide +kernel
