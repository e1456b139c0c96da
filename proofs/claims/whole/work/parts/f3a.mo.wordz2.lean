theorem d_MO_draftColumn_31 : decode b_MO_draftColumn 31 = .ok (.goto (-27), 3) := by decide +kernel
theorem d_MO_draftColumn_34 : decode b_MO_draftColumn 34 = .ok (.iload_n 2, 1) := by decide +kernel
theorem d_MO_draftColumn_35 : decode b_MO_draftColumn 35 = .ok (.ireturn, 1) := by decide +kernel
theorem d_MO_fault_0 : decode b_MO_fault 0 = .ok (.aload_n 0, 1) := by decide +kernel
theorem d_MO_fault_1 : decode b_MO_fault 1 = .ok (.iload_n 2, 1) := by decide +kernel
theorem d_MO_fault_2 : decode b_MO_fault 2 = .ok (.putfield 13, 3) := by decide +kernel
theorem d_MO_fault_5 : decode b_MO_fault 5 = .ok (.iload_n 1, 1) := by decide +kernel
theorem d_MO_fault_6 : decode b_MO_fault 6 = .ok (.ireturn, 1) := by decide +kernel
theorem d_MO_letter0_0 : decode b_MO_letter0 0 = .ok (.iload_n 1, 1) := by decide +kernel
theorem d_MO_letter0_1 : decode b_MO_letter0 1 = .ok (.aload_n 0, 1) := by decide +kernel
theorem d_MO_letter0_2 : decode b_MO_letter0 2 = .ok (.getfield 84, 3) := by decide +kernel
theorem d_MO_letter0_5 : decode b_MO_letter0 5 = .ok (.if_icmp .ge 12, 3) := by decide +kernel
theorem d_MO_letter0_8 : decode b_MO_letter0 8 = .ok (.aload_n 0, 1) := by decide +kernel
theorem d_MO_letter0_9 : decode b_MO_letter0 9 = .ok (.getfield 7, 3) := by decide +kernel
theorem d_MO_letter0_12 : decode b_MO_letter0 12 = .ok (.iload_n 1, 1) := by decide +kernel
theorem d_MO_letter0_13 : decode b_MO_letter0 13 = .ok (.iaload, 1) := by decide +kernel
theorem d_MO_letter0_14 : decode b_MO_letter0 14 = .ok (.goto 4, 3) := by decide +kernel
theorem d_MO_letter0_17 : decode b_MO_letter0 17 = .ok (.iconst 0, 1) := by decide +kernel
theorem d_MO_letter0_18 : decode b_MO_letter0 18 = .ok (.ireturn, 1) := by decide +kernel
theorem d_MO_type_0 : decode b_MO_type 0 = .ok (.aload_n 0, 1) := by decide +kernel
theorem d_MO_type_1 : decode b_MO_type 1 = .ok (.iconst 0, 1) := by decide +kernel
theorem d_MO_type_2 : decode b_MO_type 2 = .ok (.putfield 81, 3) := by decide +kernel
theorem d_MO_type_5 : decode b_MO_type 5 = .ok (.iload_n 3, 1) := by decide +kernel
theorem d_MO_type_6 : decode b_MO_type 6 = .ok (.iconst 1, 1) := by decide +kernel
theorem d_MO_type_7 : decode b_MO_type 7 = .ok (.if_icmp .lt 25, 3) := by decide +kernel
theorem d_MO_type_10 : decode b_MO_type 10 = .ok (.iload_n 3, 1) := by decide +kernel
theorem d_MO_type_11 : decode b_MO_type 11 = .ok (.bipush 8, 2) := by decide +kernel
theorem d_MO_type_13 : decode b_MO_type 13 = .ok (.if_icmp .gt 19, 3) := by decide +kernel
theorem d_MO_type_16 : decode b_MO_type 16 = .ok (.aload_n 0, 1) := by decide +kernel
theorem d_MO_type_17 : decode b_MO_type 17 = .ok (.getfield 84, 3) := by decide +kernel
theorem d_MO_type_20 : decode b_MO_type 20 = .ok (.iload_n 3, 1) := by decide +kernel
theorem d_MO_type_21 : decode b_MO_type 21 = .ok (.iadd, 1) := by decide +kernel
theorem d_MO_type_22 : decode b_MO_type 22 = .ok (.sipush 300, 3) := by decide +kernel
theorem d_MO_type_25 : decode b_MO_type 25 = .ok (.if_icmp .gt 7, 3) := by decide +kernel
theorem d_MO_type_28 : decode b_MO_type 28 = .ok (.iconst 1, 1) := by decide +kernel
theorem d_MO_type_29 : decode b_MO_type 29 = .ok (.goto 4, 3) := by decide +kernel
theorem d_MO_type_32 : decode b_MO_type 32 = .ok (.iconst 0, 1) := by decide +kernel
theorem d_MO_type_33 : decode b_MO_type 33 = .ok (.istore 4, 2) := by decide +kernel
theorem d_MO_type_35 : decode b_MO_type 35 = .ok (.iconst 0, 1) := by decide +kernel
theorem d_MO_type_36 : decode b_MO_type 36 = .ok (.istore 5, 2) := by decide +kernel
theorem d_MO_type_38 : decode b_MO_type 38 = .ok (.iload 4, 2) := by decide +kernel
theorem d_MO_type_40 : decode b_MO_type 40 = .ok (.ifCond .eq 53, 3) := by decide +kernel
theorem d_MO_type_43 : decode b_MO_type 43 = .ok (.iload 5, 2) := by decide +kernel
theorem d_MO_type_45 : decode b_MO_type 45 = .ok (.iload_n 3, 1) := by decide +kernel
theorem d_MO_type_46 : decode b_MO_type 46 = .ok (.if_icmp .ge 47, 3) := by decide +kernel
theorem d_MO_type_49 : decode b_MO_type 49 = .ok (.lload_n 1, 1) := by decide +kernel
theorem d_MO_type_50 : decode b_MO_type 50 = .ok (.bipush 8, 2) := by decide +kernel
theorem d_MO_type_52 : decode b_MO_type 52 = .ok (.iload 5, 2) := by decide +kernel
theorem d_MO_type_54 : decode b_MO_type 54 = .ok (.imul, 1) := by decide +kernel
theorem d_MO_type_55 : decode b_MO_type 55 = .ok (.lshr, 1) := by decide +kernel
theorem d_MO_type_56 : decode b_MO_type 56 = .ok (.ldc2_w 87, 3) := by decide +kernel
theorem d_MO_type_59 : decode b_MO_type 59 = .ok (.land, 1) := by decide +kernel
theorem d_MO_type_60 : decode b_MO_type 60 = .ok (.lstore 6, 2) := by decide +kernel
theorem d_MO_type_62 : decode b_MO_type 62 = .ok (.lload 6, 2) := by decide +kernel
theorem d_MO_type_64 : decode b_MO_type 64 = .ok (.ldc2_w 89, 3) := by decide +kernel
theorem d_MO_type_67 : decode b_MO_type 67 = .ok (.lcmp, 1) := by decide +kernel
theorem d_MO_type_68 : decode b_MO_type 68 = .ok (.ifCond .lt 16, 3) := by decide +kernel
theorem d_MO_type_71 : decode b_MO_type 71 = .ok (.lload 6, 2) := by decide +kernel
theorem d_MO_type_73 : decode b_MO_type 73 = .ok (.ldc2_w 91, 3) := by decide +kernel
theorem d_MO_type_76 : decode b_MO_type 76 = .ok (.lcmp, 1) := by decide +kernel
theorem d_MO_type_77 : decode b_MO_type 77 = .ok (.ifCond .gt 7, 3) := by decide +kernel
theorem d_MO_type_80 : decode b_MO_type 80 = .ok (.iconst 1, 1) := by decide +kernel
theorem d_MO_type_81 : decode b_MO_type 81 = .ok (.goto 4, 3) := by decide +kernel
theorem d_MO_type_84 : decode b_MO_type 84 = .ok (.iconst 0, 1) := by decide +kernel
theorem d_MO_type_85 : decode b_MO_type 85 = .ok (.istore 4, 2) := by decide +kernel
theorem d_MO_type_87 : decode b_MO_type 87 = .ok (.iinc 5 1, 3) := by decide +kernel
theorem d_MO_type_90 : decode b_MO_type 90 = .ok (.goto (-52), 3) := by decide +kernel
theorem d_MO_type_93 : decode b_MO_type 93 = .ok (.iload 4, 2) := by decide +kernel
theorem d_MO_type_95 : decode b_MO_type 95 = .ok (.ifCond .ne 5, 3) := by decide +kernel
theorem d_MO_type_98 : decode b_MO_type 98 = .ok (.iconst (-1), 1) := by decide +kernel
theorem d_MO_type_99 : decode b_MO_type 99 = .ok (.ireturn, 1) := by decide +kernel
theorem d_MO_type_100 : decode b_MO_type 100 = .ok (.iload_n 3, 1) := by decide +kernel
theorem d_MO_type_101 : decode b_MO_type 101 = .ok (.iconst 1, 1) := by decide +kernel
theorem d_MO_type_102 : decode b_MO_type 102 = .ok (.isub, 1) := by decide +kernel
theorem d_MO_type_103 : decode b_MO_type 103 = .ok (.istore 5, 2) := by decide +kernel
theorem d_MO_type_105 : decode b_MO_type 105 = .ok (.iload 5, 2) := by decide +kernel
theorem d_MO_type_107 : decode b_MO_type 107 = .ok (.ifCond .lt 40, 3) := by decide +kernel
theorem d_MO_type_110 : decode b_MO_type 110 = .ok (.aload_n 0, 1) := by decide +kernel
theorem d_MO_type_111 : decode b_MO_type 111 = .ok (.getfield 7, 3) := by decide +kernel
theorem d_MO_type_114 : decode b_MO_type 114 = .ok (.aload_n 0, 1) := by decide +kernel
theorem d_MO_type_115 : decode b_MO_type 115 = .ok (.getfield 84, 3) := by decide +kernel
theorem d_MO_type_118 : decode b_MO_type 118 = .ok (.lload_n 1, 1) := by decide +kernel
theorem d_MO_type_119 : decode b_MO_type 119 = .ok (.bipush 8, 2) := by decide +kernel
theorem d_MO_type_121 : decode b_MO_type 121 = .ok (.iload 5, 2) := by decide +kernel
theorem d_MO_type_123 : decode b_MO_type 123 = .ok (.imul, 1) := by decide +kernel
theorem d_MO_type_124 : decode b_MO_type 124 = .ok (.lshr, 1) := by decide +kernel
theorem d_MO_type_125 : decode b_MO_type 125 = .ok (.ldc2_w 87, 3) := by decide +kernel
theorem d_MO_type_128 : decode b_MO_type 128 = .ok (.land, 1) := by decide +kernel
theorem d_MO_type_129 : decode b_MO_type 129 = .ok (.l2i, 1) := by decide +kernel
theorem d_MO_type_130 : decode b_MO_type 130 = .ok (.iastore, 1) := by decide +kernel
theorem d_MO_type_131 : decode b_MO_type 131 = .ok (.aload_n 0, 1) := by decide +kernel
theorem d_MO_type_132 : decode b_MO_type 132 = .ok (.dup, 1) := by decide +kernel
theorem d_MO_type_133 : decode b_MO_type 133 = .ok (.getfield 84, 3) := by decide +kernel
theorem d_MO_type_136 : decode b_MO_type 136 = .ok (.iconst 1, 1) := by decide +kernel
theorem d_MO_type_137 : decode b_MO_type 137 = .ok (.iadd, 1) := by decide +kernel
theorem d_MO_type_138 : decode b_MO_type 138 = .ok (.putfield 84, 3) := by decide +kernel
theorem d_MO_type_141 : decode b_MO_type 141 = .ok (.iinc 5 (-1), 3) := by decide +kernel
theorem d_MO_type_144 : decode b_MO_type 144 = .ok (.goto (-39), 3) := by decide +kernel
theorem d_MO_type_147 : decode b_MO_type 147 = .ok (.aload_n 0, 1) := by decide +kernel
theorem d_MO_type_148 : decode b_MO_type 148 = .ok (.getfield 84, 3) := by decide +kernel
theorem d_MO_type_151 : decode b_MO_type 151 = .ok (.ireturn, 1) := by decide +kernel
theorem d_MO_word_0 : decode b_MO_word 0 = .ok (.aload_n 0, 1) := by decide +kernel
theorem d_MO_word_1 : decode b_MO_word 1 = .ok (.getfield 17, 3) := by decide +kernel
theorem d_MO_word_4 : decode b_MO_word 4 = .ok (.aload_n 0, 1) := by decide +kernel
theorem d_MO_word_5 : decode b_MO_word 5 = .ok (.getfield 93, 3) := by decide +kernel
theorem d_MO_word_8 : decode b_MO_word 8 = .ok (.iload_n 1, 1) := by decide +kernel
theorem d_MO_word_9 : decode b_MO_word 9 = .ok (.iastore, 1) := by decide +kernel
theorem d_MO_word_10 : decode b_MO_word 10 = .ok (.aload_n 0, 1) := by decide +kernel
theorem d_MO_word_11 : decode b_MO_word 11 = .ok (.getfield 20, 3) := by decide +kernel
theorem d_MO_word_14 : decode b_MO_word 14 = .ok (.aload_n 0, 1) := by decide +kernel
theorem d_MO_word_15 : decode b_MO_word 15 = .ok (.getfield 93, 3) := by decide +kernel
theorem d_MO_word_18 : decode b_MO_word 18 = .ok (.iload_n 2, 1) := by decide +kernel
theorem d_MO_word_19 : decode b_MO_word 19 = .ok (.iastore, 1) := by decide +kernel
theorem d_MO_word_20 : decode b_MO_word 20 = .ok (.aload_n 0, 1) := by decide +kernel
theorem d_MO_word_21 : decode b_MO_word 21 = .ok (.getfield 23, 3) := by decide +kernel
theorem d_MO_word_24 : decode b_MO_word 24 = .ok (.aload_n 0, 1) := by decide +kernel
theorem d_MO_word_25 : decode b_MO_word 25 = .ok (.getfield 93, 3) := by decide +kernel
theorem d_MO_word_28 : decode b_MO_word 28 = .ok (.iload_n 3, 1) := by decide +kernel
theorem d_MO_word_29 : decode b_MO_word 29 = .ok (.iastore, 1) := by decide +kernel
theorem d_MO_word_30 : decode b_MO_word 30 = .ok (.aload_n 0, 1) := by decide +kernel
theorem d_MO_word_31 : decode b_MO_word 31 = .ok (.dup, 1) := by decide +kernel
theorem d_MO_word_32 : decode b_MO_word 32 = .ok (.getfield 93, 3) := by decide +kernel
theorem d_MO_word_35 : decode b_MO_word 35 = .ok (.iconst 1, 1) := by decide +kernel
theorem d_MO_word_36 : decode b_MO_word 36 = .ok (.iadd, 1) := by decide +kernel
theorem d_MO_word_37 : decode b_MO_word 37 = .ok (.putfield 93, 3) := by decide +kernel
theorem d_MO_word_40 : decode b_MO_word 40 = .ok (.return_, 1) := by decide +kernel
