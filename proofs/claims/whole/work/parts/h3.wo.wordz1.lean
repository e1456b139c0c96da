theorem d_WO_stateAfter_173 : decode b_WO_stateAfter 173 = .ok (.ireturn, 1) := by decide +kernel
theorem d_WO_stateAfter_174 : decode b_WO_stateAfter 174 = .ok (.iconst (-1), 1) := by decide +kernel
theorem d_WO_stateAfter_175 : decode b_WO_stateAfter 175 = .ok (.ireturn, 1) := by decide +kernel
theorem d_WO_valueOf_0 : decode b_WO_valueOf 0 = .ok (.iconst 0, 1) := by decide +kernel
theorem d_WO_valueOf_1 : decode b_WO_valueOf 1 = .ok (.istore_n 3, 1) := by decide +kernel
theorem d_WO_valueOf_2 : decode b_WO_valueOf 2 = .ok (.iload_n 1, 1) := by decide +kernel
theorem d_WO_valueOf_3 : decode b_WO_valueOf 3 = .ok (.istore 4, 2) := by decide +kernel
theorem d_WO_valueOf_5 : decode b_WO_valueOf 5 = .ok (.iload 4, 2) := by decide +kernel
theorem d_WO_valueOf_7 : decode b_WO_valueOf 7 = .ok (.iload_n 1, 1) := by decide +kernel
theorem d_WO_valueOf_8 : decode b_WO_valueOf 8 = .ok (.iload_n 2, 1) := by decide +kernel
theorem d_WO_valueOf_9 : decode b_WO_valueOf 9 = .ok (.iadd, 1) := by decide +kernel
theorem d_WO_valueOf_10 : decode b_WO_valueOf 10 = .ok (.if_icmp .ge 24, 3) := by decide +kernel
theorem d_WO_valueOf_13 : decode b_WO_valueOf 13 = .ok (.bipush 10, 2) := by decide +kernel
theorem d_WO_valueOf_15 : decode b_WO_valueOf 15 = .ok (.iload_n 3, 1) := by decide +kernel
theorem d_WO_valueOf_16 : decode b_WO_valueOf 16 = .ok (.imul, 1) := by decide +kernel
theorem d_WO_valueOf_17 : decode b_WO_valueOf 17 = .ok (.aload_n 0, 1) := by decide +kernel
theorem d_WO_valueOf_18 : decode b_WO_valueOf 18 = .ok (.iload 4, 2) := by decide +kernel
theorem d_WO_valueOf_20 : decode b_WO_valueOf 20 = .ok (.invokevirtual 40, 3) := by decide +kernel
theorem d_WO_valueOf_23 : decode b_WO_valueOf 23 = .ok (.iadd, 1) := by decide +kernel
theorem d_WO_valueOf_24 : decode b_WO_valueOf 24 = .ok (.bipush 48, 2) := by decide +kernel
theorem d_WO_valueOf_26 : decode b_WO_valueOf 26 = .ok (.isub, 1) := by decide +kernel
theorem d_WO_valueOf_27 : decode b_WO_valueOf 27 = .ok (.istore_n 3, 1) := by decide +kernel
theorem d_WO_valueOf_28 : decode b_WO_valueOf 28 = .ok (.iinc 4 1, 3) := by decide +kernel
theorem d_WO_valueOf_31 : decode b_WO_valueOf 31 = .ok (.goto (-26), 3) := by decide +kernel
theorem d_WO_valueOf_34 : decode b_WO_valueOf 34 = .ok (.iload_n 3, 1) := by decide +kernel
theorem d_WO_valueOf_35 : decode b_WO_valueOf 35 = .ok (.ireturn, 1) := by decide +kernel
theorem d_WO_widthAt_0 : decode b_WO_widthAt 0 = .ok (.aload_n 0, 1) := by decide +kernel
theorem d_WO_widthAt_1 : decode b_WO_widthAt 1 = .ok (.iload_n 1, 1) := by decide +kernel
theorem d_WO_widthAt_2 : decode b_WO_widthAt 2 = .ok (.invokevirtual 40, 3) := by decide +kernel
theorem d_WO_widthAt_5 : decode b_WO_widthAt 5 = .ok (.istore_n 2, 1) := by decide +kernel
theorem d_WO_widthAt_6 : decode b_WO_widthAt 6 = .ok (.iload_n 2, 1) := by decide +kernel
theorem d_WO_widthAt_7 : decode b_WO_widthAt 7 = .ok (.bipush 60, 2) := by decide +kernel
theorem d_WO_widthAt_9 : decode b_WO_widthAt 9 = .ok (.if_icmp .eq 9, 3) := by decide +kernel
theorem d_WO_widthAt_12 : decode b_WO_widthAt 12 = .ok (.iload_n 2, 1) := by decide +kernel
theorem d_WO_widthAt_13 : decode b_WO_widthAt 13 = .ok (.bipush 62, 2) := by decide +kernel
theorem d_WO_widthAt_15 : decode b_WO_widthAt 15 = .ok (.if_icmp .ne 21, 3) := by decide +kernel
theorem d_WO_widthAt_18 : decode b_WO_widthAt 18 = .ok (.aload_n 0, 1) := by decide +kernel
theorem d_WO_widthAt_19 : decode b_WO_widthAt 19 = .ok (.iload_n 1, 1) := by decide +kernel
theorem d_WO_widthAt_20 : decode b_WO_widthAt 20 = .ok (.iconst 1, 1) := by decide +kernel
theorem d_WO_widthAt_21 : decode b_WO_widthAt 21 = .ok (.iadd, 1) := by decide +kernel
theorem d_WO_widthAt_22 : decode b_WO_widthAt 22 = .ok (.invokevirtual 40, 3) := by decide +kernel
theorem d_WO_widthAt_25 : decode b_WO_widthAt 25 = .ok (.bipush 61, 2) := by decide +kernel
theorem d_WO_widthAt_27 : decode b_WO_widthAt 27 = .ok (.if_icmp .ne 7, 3) := by decide +kernel
theorem d_WO_widthAt_30 : decode b_WO_widthAt 30 = .ok (.iconst 2, 1) := by decide +kernel
theorem d_WO_widthAt_31 : decode b_WO_widthAt 31 = .ok (.goto 4, 3) := by decide +kernel
theorem d_WO_widthAt_34 : decode b_WO_widthAt 34 = .ok (.iconst 1, 1) := by decide +kernel
theorem d_WO_widthAt_35 : decode b_WO_widthAt 35 = .ok (.ireturn, 1) := by decide +kernel
theorem d_WO_widthAt_36 : decode b_WO_widthAt 36 = .ok (.iload_n 2, 1) := by decide +kernel
theorem d_WO_widthAt_37 : decode b_WO_widthAt 37 = .ok (.invokestatic 76, 3) := by decide +kernel
theorem d_WO_widthAt_40 : decode b_WO_widthAt 40 = .ok (.ifCond .ne 5, 3) := by decide +kernel
theorem d_WO_widthAt_43 : decode b_WO_widthAt 43 = .ok (.iconst 1, 1) := by decide +kernel
theorem d_WO_widthAt_44 : decode b_WO_widthAt 44 = .ok (.ireturn, 1) := by decide +kernel
theorem d_WO_widthAt_45 : decode b_WO_widthAt 45 = .ok (.iload_n 1, 1) := by decide +kernel
theorem d_WO_widthAt_46 : decode b_WO_widthAt 46 = .ok (.iconst 1, 1) := by decide +kernel
theorem d_WO_widthAt_47 : decode b_WO_widthAt 47 = .ok (.iadd, 1) := by decide +kernel
theorem d_WO_widthAt_48 : decode b_WO_widthAt 48 = .ok (.istore_n 3, 1) := by decide +kernel
theorem d_WO_widthAt_49 : decode b_WO_widthAt 49 = .ok (.iload_n 3, 1) := by decide +kernel
theorem d_WO_widthAt_50 : decode b_WO_widthAt 50 = .ok (.aload_n 0, 1) := by decide +kernel
theorem d_WO_widthAt_51 : decode b_WO_widthAt 51 = .ok (.getfield 35, 3) := by decide +kernel
theorem d_WO_widthAt_54 : decode b_WO_widthAt 54 = .ok (.if_icmp .ge 20, 3) := by decide +kernel
theorem d_WO_widthAt_57 : decode b_WO_widthAt 57 = .ok (.aload_n 0, 1) := by decide +kernel
theorem d_WO_widthAt_58 : decode b_WO_widthAt 58 = .ok (.iload_n 3, 1) := by decide +kernel
theorem d_WO_widthAt_59 : decode b_WO_widthAt 59 = .ok (.invokevirtual 40, 3) := by decide +kernel
theorem d_WO_widthAt_62 : decode b_WO_widthAt 62 = .ok (.invokestatic 76, 3) := by decide +kernel
theorem d_WO_widthAt_65 : decode b_WO_widthAt 65 = .ok (.ifCond .eq 9, 3) := by decide +kernel
theorem d_WO_widthAt_68 : decode b_WO_widthAt 68 = .ok (.iinc 3 1, 3) := by decide +kernel
theorem d_WO_widthAt_71 : decode b_WO_widthAt 71 = .ok (.goto (-22), 3) := by decide +kernel
theorem d_WO_widthAt_74 : decode b_WO_widthAt 74 = .ok (.iload_n 3, 1) := by decide +kernel
theorem d_WO_widthAt_75 : decode b_WO_widthAt 75 = .ok (.iload_n 1, 1) := by decide +kernel
theorem d_WO_widthAt_76 : decode b_WO_widthAt 76 = .ok (.isub, 1) := by decide +kernel
theorem d_WO_widthAt_77 : decode b_WO_widthAt 77 = .ok (.ireturn, 1) := by decide +kernel
