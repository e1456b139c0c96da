theorem d_LS_init_0 : decode b_LS_init 0 = .ok (.aload_n 0, 1) := by decide +kernel
theorem d_LS_init_1 : decode b_LS_init 1 = .ok (.invokespecial 1, 3) := by decide +kernel
theorem d_LS_init_4 : decode b_LS_init 4 = .ok (.aload_n 0, 1) := by decide +kernel
theorem d_LS_init_5 : decode b_LS_init 5 = .ok (.new 7, 3) := by decide +kernel
theorem d_LS_init_8 : decode b_LS_init 8 = .ok (.dup, 1) := by decide +kernel
theorem d_LS_init_9 : decode b_LS_init 9 = .ok (.invokespecial 9, 3) := by decide +kernel
theorem d_LS_init_12 : decode b_LS_init 12 = .ok (.putfield 10, 3) := by decide +kernel
theorem d_LS_init_15 : decode b_LS_init 15 = .ok (.aload_n 0, 1) := by decide +kernel
theorem d_LS_init_16 : decode b_LS_init 16 = .ok (.new 16, 3) := by decide +kernel
theorem d_LS_init_19 : decode b_LS_init 19 = .ok (.dup, 1) := by decide +kernel
theorem d_LS_init_20 : decode b_LS_init 20 = .ok (.invokespecial 18, 3) := by decide +kernel
theorem d_LS_init_23 : decode b_LS_init 23 = .ok (.putfield 19, 3) := by decide +kernel
theorem d_LS_init_26 : decode b_LS_init 26 = .ok (.aload_n 0, 1) := by decide +kernel
theorem d_LS_init_27 : decode b_LS_init 27 = .ok (.new 23, 3) := by decide +kernel
theorem d_LS_init_30 : decode b_LS_init 30 = .ok (.dup, 1) := by decide +kernel
theorem d_LS_init_31 : decode b_LS_init 31 = .ok (.invokespecial 25, 3) := by decide +kernel
theorem d_LS_init_34 : decode b_LS_init 34 = .ok (.putfield 26, 3) := by decide +kernel
theorem d_LS_init_37 : decode b_LS_init 37 = .ok (.aload_n 0, 1) := by decide +kernel
theorem d_LS_init_38 : decode b_LS_init 38 = .ok (.new 30, 3) := by decide +kernel
theorem d_LS_init_41 : decode b_LS_init 41 = .ok (.dup, 1) := by decide +kernel
theorem d_LS_init_42 : decode b_LS_init 42 = .ok (.invokespecial 32, 3) := by decide +kernel
theorem d_LS_init_45 : decode b_LS_init 45 = .ok (.putfield 33, 3) := by decide +kernel
theorem d_LS_init_48 : decode b_LS_init 48 = .ok (.aload_n 0, 1) := by decide +kernel
theorem d_LS_init_49 : decode b_LS_init 49 = .ok (.new 37, 3) := by decide +kernel
theorem d_LS_init_52 : decode b_LS_init 52 = .ok (.dup, 1) := by decide +kernel
theorem d_LS_init_53 : decode b_LS_init 53 = .ok (.invokespecial 39, 3) := by decide +kernel
theorem d_LS_init_56 : decode b_LS_init 56 = .ok (.putfield 40, 3) := by decide +kernel
theorem d_LS_init_59 : decode b_LS_init 59 = .ok (.aload_n 0, 1) := by decide +kernel
theorem d_LS_init_60 : decode b_LS_init 60 = .ok (.iconst 3, 1) := by decide +kernel
theorem d_LS_init_61 : decode b_LS_init 61 = .ok (.anewarray 44, 3) := by decide +kernel
theorem d_LS_init_64 : decode b_LS_init 64 = .ok (.putfield 46, 3) := by decide +kernel
theorem d_LS_init_67 : decode b_LS_init 67 = .ok (.aload_n 0, 1) := by decide +kernel
theorem d_LS_init_68 : decode b_LS_init 68 = .ok (.new 50, 3) := by decide +kernel
theorem d_LS_init_71 : decode b_LS_init 71 = .ok (.dup, 1) := by decide +kernel
theorem d_LS_init_72 : decode b_LS_init 72 = .ok (.invokespecial 52, 3) := by decide +kernel
theorem d_LS_init_75 : decode b_LS_init 75 = .ok (.putfield 53, 3) := by decide +kernel
theorem d_LS_init_78 : decode b_LS_init 78 = .ok (.aload_n 0, 1) := by decide +kernel
theorem d_LS_init_79 : decode b_LS_init 79 = .ok (.bipush 6, 2) := by decide +kernel
theorem d_LS_init_81 : decode b_LS_init 81 = .ok (.newarray .int, 2) := by decide +kernel
theorem d_LS_init_83 : decode b_LS_init 83 = .ok (.putfield 57, 3) := by decide +kernel
theorem d_LS_init_86 : decode b_LS_init 86 = .ok (.aload_n 0, 1) := by decide +kernel
theorem d_LS_init_87 : decode b_LS_init 87 = .ok (.bipush 6, 2) := by decide +kernel
theorem d_LS_init_89 : decode b_LS_init 89 = .ok (.newarray .int, 2) := by decide +kernel
theorem d_LS_init_91 : decode b_LS_init 91 = .ok (.putfield 61, 3) := by decide +kernel
theorem d_LS_init_94 : decode b_LS_init 94 = .ok (.aload_n 0, 1) := by decide +kernel
theorem d_LS_init_95 : decode b_LS_init 95 = .ok (.sipush 2000, 3) := by decide +kernel
theorem d_LS_init_98 : decode b_LS_init 98 = .ok (.newarray .int, 2) := by decide +kernel
theorem d_LS_init_100 : decode b_LS_init 100 = .ok (.putfield 64, 3) := by decide +kernel
theorem d_LS_init_103 : decode b_LS_init 103 = .ok (.aload_n 0, 1) := by decide +kernel
theorem d_LS_init_104 : decode b_LS_init 104 = .ok (.bipush 6, 2) := by decide +kernel
theorem d_LS_init_106 : decode b_LS_init 106 = .ok (.newarray .int, 2) := by decide +kernel
theorem d_LS_init_108 : decode b_LS_init 108 = .ok (.putfield 67, 3) := by decide +kernel
theorem d_LS_init_111 : decode b_LS_init 111 = .ok (.aload_n 0, 1) := by decide +kernel
theorem d_LS_init_112 : decode b_LS_init 112 = .ok (.new 70, 3) := by decide +kernel
theorem d_LS_init_115 : decode b_LS_init 115 = .ok (.dup, 1) := by decide +kernel
theorem d_LS_init_116 : decode b_LS_init 116 = .ok (.invokespecial 72, 3) := by decide +kernel
theorem d_LS_init_119 : decode b_LS_init 119 = .ok (.putfield 73, 3) := by decide +kernel
theorem d_LS_init_122 : decode b_LS_init 122 = .ok (.aload_n 0, 1) := by decide +kernel
theorem d_LS_init_123 : decode b_LS_init 123 = .ok (.iconst 0, 1) := by decide +kernel
theorem d_LS_init_124 : decode b_LS_init 124 = .ok (.putfield 77, 3) := by decide +kernel
theorem d_LS_init_127 : decode b_LS_init 127 = .ok (.aload_n 0, 1) := by decide +kernel
theorem d_LS_init_128 : decode b_LS_init 128 = .ok (.iconst 0, 1) := by decide +kernel
theorem d_LS_init_129 : decode b_LS_init 129 = .ok (.putfield 81, 3) := by decide +kernel
theorem d_LS_init_132 : decode b_LS_init 132 = .ok (.aload_n 0, 1) := by decide +kernel
theorem d_LS_init_133 : decode b_LS_init 133 = .ok (.iconst 0, 1) := by decide +kernel
theorem d_LS_init_134 : decode b_LS_init 134 = .ok (.putfield 84, 3) := by decide +kernel
theorem d_LS_init_137 : decode b_LS_init 137 = .ok (.aload_n 0, 1) := by decide +kernel
theorem d_LS_init_138 : decode b_LS_init 138 = .ok (.iconst (-1), 1) := by decide +kernel
theorem d_LS_init_139 : decode b_LS_init 139 = .ok (.putfield 87, 3) := by decide +kernel
theorem d_LS_init_142 : decode b_LS_init 142 = .ok (.iconst 0, 1) := by decide +kernel
theorem d_LS_init_143 : decode b_LS_init 143 = .ok (.istore_n 1, 1) := by decide +kernel
theorem d_LS_init_144 : decode b_LS_init 144 = .ok (.iload_n 1, 1) := by decide +kernel
theorem d_LS_init_145 : decode b_LS_init 145 = .ok (.iconst 2, 1) := by decide +kernel
theorem d_LS_init_146 : decode b_LS_init 146 = .ok (.if_icmp .gt 22, 3) := by decide +kernel
theorem d_LS_init_149 : decode b_LS_init 149 = .ok (.aload_n 0, 1) := by decide +kernel
theorem d_LS_init_150 : decode b_LS_init 150 = .ok (.getfield 46, 3) := by decide +kernel
theorem d_LS_init_153 : decode b_LS_init 153 = .ok (.iload_n 1, 1) := by decide +kernel
theorem d_LS_init_154 : decode b_LS_init 154 = .ok (.new 44, 3) := by decide +kernel
theorem d_LS_init_157 : decode b_LS_init 157 = .ok (.dup, 1) := by decide +kernel
theorem d_LS_init_158 : decode b_LS_init 158 = .ok (.invokespecial 91, 3) := by decide +kernel
theorem d_LS_init_161 : decode b_LS_init 161 = .ok (.aastore, 1) := by decide +kernel
theorem d_LS_init_162 : decode b_LS_init 162 = .ok (.iinc 1 1, 3) := by decide +kernel
theorem d_LS_init_165 : decode b_LS_init 165 = .ok (.goto (-21), 3) := by decide +kernel
theorem d_LS_init_168 : decode b_LS_init 168 = .ok (.return_, 1) := by decide +kernel
