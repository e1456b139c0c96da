theorem d_MO_order_0 : decode b_MO_order 0 = .ok (.iconst 0, 1) := by decide +kernel
theorem d_MO_order_1 : decode b_MO_order 1 = .ok (.istore_n 1, 1) := by decide +kernel
theorem d_MO_order_2 : decode b_MO_order 2 = .ok (.iconst 0, 1) := by decide +kernel
theorem d_MO_order_3 : decode b_MO_order 3 = .ok (.istore_n 2, 1) := by decide +kernel
theorem d_MO_order_4 : decode b_MO_order 4 = .ok (.iload_n 2, 1) := by decide +kernel
theorem d_MO_order_5 : decode b_MO_order 5 = .ok (.aload_n 0, 1) := by decide +kernel
theorem d_MO_order_6 : decode b_MO_order 6 = .ok (.getfield 143, 3) := by decide +kernel
theorem d_MO_order_9 : decode b_MO_order 9 = .ok (.if_icmp .ge 101, 3) := by decide +kernel
theorem d_MO_order_12 : decode b_MO_order 12 = .ok (.iload_n 1, 1) := by decide +kernel
theorem d_MO_order_13 : decode b_MO_order 13 = .ok (.aload_n 0, 1) := by decide +kernel
theorem d_MO_order_14 : decode b_MO_order 14 = .ok (.getfield 152, 3) := by decide +kernel
theorem d_MO_order_17 : decode b_MO_order 17 = .ok (.if_icmp .ge 93, 3) := by decide +kernel
theorem d_MO_order_20 : decode b_MO_order 20 = .ok (.aload_n 0, 1) := by decide +kernel
theorem d_MO_order_21 : decode b_MO_order 21 = .ok (.iload_n 1, 1) := by decide +kernel
theorem d_MO_order_22 : decode b_MO_order 22 = .ok (.iload_n 2, 1) := by decide +kernel
theorem d_MO_order_23 : decode b_MO_order 23 = .ok (.invokevirtual 171, 3) := by decide +kernel
theorem d_MO_order_26 : decode b_MO_order 26 = .ok (.ifCond .eq 78, 3) := by decide +kernel
theorem d_MO_order_29 : decode b_MO_order 29 = .ok (.iconst 0, 1) := by decide +kernel
theorem d_MO_order_30 : decode b_MO_order 30 = .ok (.istore_n 3, 1) := by decide +kernel
theorem d_MO_order_31 : decode b_MO_order 31 = .ok (.iload_n 3, 1) := by decide +kernel
theorem d_MO_order_32 : decode b_MO_order 32 = .ok (.iload_n 1, 1) := by decide +kernel
theorem d_MO_order_33 : decode b_MO_order 33 = .ok (.if_icmp .ge 68, 3) := by decide +kernel
theorem d_MO_order_36 : decode b_MO_order 36 = .ok (.aload_n 0, 1) := by decide +kernel
theorem d_MO_order_37 : decode b_MO_order 37 = .ok (.getfield 68, 3) := by decide +kernel
theorem d_MO_order_40 : decode b_MO_order 40 = .ok (.bipush 6, 2) := by decide +kernel
theorem d_MO_order_42 : decode b_MO_order 42 = .ok (.iload_n 3, 1) := by decide +kernel
theorem d_MO_order_43 : decode b_MO_order 43 = .ok (.imul, 1) := by decide +kernel
theorem d_MO_order_44 : decode b_MO_order 44 = .ok (.iload_n 2, 1) := by decide +kernel
theorem d_MO_order_45 : decode b_MO_order 45 = .ok (.iadd, 1) := by decide +kernel
theorem d_MO_order_46 : decode b_MO_order 46 = .ok (.laload, 1) := by decide +kernel
theorem d_MO_order_47 : decode b_MO_order 47 = .ok (.lstore 4, 2) := by decide +kernel
theorem d_MO_order_49 : decode b_MO_order 49 = .ok (.aload_n 0, 1) := by decide +kernel
theorem d_MO_order_50 : decode b_MO_order 50 = .ok (.getfield 68, 3) := by decide +kernel
theorem d_MO_order_53 : decode b_MO_order 53 = .ok (.bipush 6, 2) := by decide +kernel
theorem d_MO_order_55 : decode b_MO_order 55 = .ok (.iload_n 1, 1) := by decide +kernel
theorem d_MO_order_56 : decode b_MO_order 56 = .ok (.imul, 1) := by decide +kernel
theorem d_MO_order_57 : decode b_MO_order 57 = .ok (.iload_n 2, 1) := by decide +kernel
theorem d_MO_order_58 : decode b_MO_order 58 = .ok (.iadd, 1) := by decide +kernel
theorem d_MO_order_59 : decode b_MO_order 59 = .ok (.laload, 1) := by decide +kernel
theorem d_MO_order_60 : decode b_MO_order 60 = .ok (.lstore 6, 2) := by decide +kernel
theorem d_MO_order_62 : decode b_MO_order 62 = .ok (.aload_n 0, 1) := by decide +kernel
theorem d_MO_order_63 : decode b_MO_order 63 = .ok (.iload_n 3, 1) := by decide +kernel
theorem d_MO_order_64 : decode b_MO_order 64 = .ok (.iload_n 1, 1) := by decide +kernel
theorem d_MO_order_65 : decode b_MO_order 65 = .ok (.lload 4, 2) := by decide +kernel
theorem d_MO_order_67 : decode b_MO_order 67 = .ok (.lconst 0, 1) := by decide +kernel
theorem d_MO_order_68 : decode b_MO_order 68 = .ok (.lcmp, 1) := by decide +kernel
theorem d_MO_order_69 : decode b_MO_order 69 = .ok (.ifCond .lt 11, 3) := by decide +kernel
theorem d_MO_order_72 : decode b_MO_order 72 = .ok (.lload 4, 2) := by decide +kernel
theorem d_MO_order_74 : decode b_MO_order 74 = .ok (.lload 6, 2) := by decide +kernel
theorem d_MO_order_76 : decode b_MO_order 76 = .ok (.ldiv, 1) := by decide +kernel
theorem d_MO_order_77 : decode b_MO_order 77 = .ok (.goto 15, 3) := by decide +kernel
theorem d_MO_order_80 : decode b_MO_order 80 = .ok (.lload 4, 2) := by decide +kernel
theorem d_MO_order_82 : decode b_MO_order 82 = .ok (.lneg, 1) := by decide +kernel
theorem d_MO_order_83 : decode b_MO_order 83 = .ok (.lload 6, 2) := by decide +kernel
theorem d_MO_order_85 : decode b_MO_order 85 = .ok (.ladd, 1) := by decide +kernel
theorem d_MO_order_86 : decode b_MO_order 86 = .ok (.lconst 1, 1) := by decide +kernel
theorem d_MO_order_87 : decode b_MO_order 87 = .ok (.lsub, 1) := by decide +kernel
theorem d_MO_order_88 : decode b_MO_order 88 = .ok (.lload 6, 2) := by decide +kernel
theorem d_MO_order_90 : decode b_MO_order 90 = .ok (.ldiv, 1) := by decide +kernel
theorem d_MO_order_91 : decode b_MO_order 91 = .ok (.lneg, 1) := by decide +kernel
theorem d_MO_order_92 : decode b_MO_order 92 = .ok (.invokevirtual 167, 3) := by decide +kernel
theorem d_MO_order_95 : decode b_MO_order 95 = .ok (.iinc 3 1, 3) := by decide +kernel
theorem d_MO_order_98 : decode b_MO_order 98 = .ok (.goto (-67), 3) := by decide +kernel
theorem d_MO_order_101 : decode b_MO_order 101 = .ok (.iinc 1 1, 3) := by decide +kernel
theorem d_MO_order_104 : decode b_MO_order 104 = .ok (.iinc 2 1, 3) := by decide +kernel
theorem d_MO_order_107 : decode b_MO_order 107 = .ok (.goto (-103), 3) := by decide +kernel
theorem d_MO_order_110 : decode b_MO_order 110 = .ok (.return_, 1) := by decide +kernel
