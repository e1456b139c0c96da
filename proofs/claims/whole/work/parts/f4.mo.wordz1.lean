theorem d_MO_holds_60 : decode b_MO_holds 60 = .ok (.iconst 0, 1) := by decide +kernel
theorem d_MO_holds_61 : decode b_MO_holds 61 = .ok (.iadd, 1) := by decide +kernel
theorem d_MO_holds_62 : decode b_MO_holds 62 = .ok (.aload_n 0, 1) := by decide +kernel
theorem d_MO_holds_63 : decode b_MO_holds 63 = .ok (.invokevirtual 227, 3) := by decide +kernel
theorem d_MO_holds_66 : decode b_MO_holds 66 = .ok (.ifCond .eq 7, 3) := by decide +kernel
theorem d_MO_holds_69 : decode b_MO_holds 69 = .ok (.iconst 4, 1) := by decide +kernel
theorem d_MO_holds_70 : decode b_MO_holds 70 = .ok (.goto 4, 3) := by decide +kernel
theorem d_MO_holds_73 : decode b_MO_holds 73 = .ok (.iconst 0, 1) := by decide +kernel
theorem d_MO_holds_74 : decode b_MO_holds 74 = .ok (.iadd, 1) := by decide +kernel
theorem d_MO_holds_75 : decode b_MO_holds 75 = .ok (.ireturn, 1) := by decide +kernel
theorem d_MO_isPlain_0 : decode b_MO_isPlain 0 = .ok (.iconst 1, 1) := by decide +kernel
theorem d_MO_isPlain_1 : decode b_MO_isPlain 1 = .ok (.istore_n 1, 1) := by decide +kernel
theorem d_MO_isPlain_2 : decode b_MO_isPlain 2 = .ok (.iconst 0, 1) := by decide +kernel
theorem d_MO_isPlain_3 : decode b_MO_isPlain 3 = .ok (.istore_n 2, 1) := by decide +kernel
theorem d_MO_isPlain_4 : decode b_MO_isPlain 4 = .ok (.iload_n 2, 1) := by decide +kernel
theorem d_MO_isPlain_5 : decode b_MO_isPlain 5 = .ok (.aload_n 0, 1) := by decide +kernel
theorem d_MO_isPlain_6 : decode b_MO_isPlain 6 = .ok (.getfield 143, 3) := by decide +kernel
theorem d_MO_isPlain_9 : decode b_MO_isPlain 9 = .ok (.if_icmp .ge 28, 3) := by decide +kernel
theorem d_MO_isPlain_12 : decode b_MO_isPlain 12 = .ok (.iload_n 1, 1) := by decide +kernel
theorem d_MO_isPlain_13 : decode b_MO_isPlain 13 = .ok (.ifCond .eq 16, 3) := by decide +kernel
theorem d_MO_isPlain_16 : decode b_MO_isPlain 16 = .ok (.aload_n 0, 1) := by decide +kernel
theorem d_MO_isPlain_17 : decode b_MO_isPlain 17 = .ok (.getfield 56, 3) := by decide +kernel
theorem d_MO_isPlain_20 : decode b_MO_isPlain 20 = .ok (.iload_n 2, 1) := by decide +kernel
theorem d_MO_isPlain_21 : decode b_MO_isPlain 21 = .ok (.iaload, 1) := by decide +kernel
theorem d_MO_isPlain_22 : decode b_MO_isPlain 22 = .ok (.ifCond .lt 7, 3) := by decide +kernel
theorem d_MO_isPlain_25 : decode b_MO_isPlain 25 = .ok (.iconst 1, 1) := by decide +kernel
theorem d_MO_isPlain_26 : decode b_MO_isPlain 26 = .ok (.goto 4, 3) := by decide +kernel
theorem d_MO_isPlain_29 : decode b_MO_isPlain 29 = .ok (.iconst 0, 1) := by decide +kernel
theorem d_MO_isPlain_30 : decode b_MO_isPlain 30 = .ok (.istore_n 1, 1) := by decide +kernel
theorem d_MO_isPlain_31 : decode b_MO_isPlain 31 = .ok (.iinc 2 1, 3) := by decide +kernel
theorem d_MO_isPlain_34 : decode b_MO_isPlain 34 = .ok (.goto (-30), 3) := by decide +kernel
theorem d_MO_isPlain_37 : decode b_MO_isPlain 37 = .ok (.iload_n 1, 1) := by decide +kernel
theorem d_MO_isPlain_38 : decode b_MO_isPlain 38 = .ok (.ireturn, 1) := by decide +kernel
theorem d_MO_letter_0 : decode b_MO_letter 0 = .ok (.aload_n 0, 1) := by decide +kernel
theorem d_MO_letter_1 : decode b_MO_letter 1 = .ok (.iconst 0, 1) := by decide +kernel
theorem d_MO_letter_2 : decode b_MO_letter 2 = .ok (.putfield 81, 3) := by decide +kernel
theorem d_MO_letter_5 : decode b_MO_letter 5 = .ok (.aload_n 0, 1) := by decide +kernel
theorem d_MO_letter_6 : decode b_MO_letter 6 = .ok (.getfield 133, 3) := by decide +kernel
theorem d_MO_letter_9 : decode b_MO_letter 9 = .ok (.ifCond .eq 24, 3) := by decide +kernel
theorem d_MO_letter_12 : decode b_MO_letter 12 = .ok (.iload_n 1, 1) := by decide +kernel
theorem d_MO_letter_13 : decode b_MO_letter 13 = .ok (.ifCond .lt 20, 3) := by decide +kernel
theorem d_MO_letter_16 : decode b_MO_letter 16 = .ok (.iload_n 1, 1) := by decide +kernel
theorem d_MO_letter_17 : decode b_MO_letter 17 = .ok (.aload_n 0, 1) := by decide +kernel
theorem d_MO_letter_18 : decode b_MO_letter 18 = .ok (.getfield 140, 3) := by decide +kernel
theorem d_MO_letter_21 : decode b_MO_letter 21 = .ok (.if_icmp .ge 12, 3) := by decide +kernel
theorem d_MO_letter_24 : decode b_MO_letter 24 = .ok (.aload_n 0, 1) := by decide +kernel
theorem d_MO_letter_25 : decode b_MO_letter 25 = .ok (.getfield 35, 3) := by decide +kernel
theorem d_MO_letter_28 : decode b_MO_letter 28 = .ok (.iload_n 1, 1) := by decide +kernel
theorem d_MO_letter_29 : decode b_MO_letter 29 = .ok (.iaload, 1) := by decide +kernel
theorem d_MO_letter_30 : decode b_MO_letter 30 = .ok (.goto 4, 3) := by decide +kernel
theorem d_MO_letter_33 : decode b_MO_letter 33 = .ok (.iconst (-1), 1) := by decide +kernel
theorem d_MO_letter_34 : decode b_MO_letter 34 = .ok (.ireturn, 1) := by decide +kernel
theorem d_MO_number_0 : decode b_MO_number 0 = .ok (.aload_n 0, 1) := by decide +kernel
theorem d_MO_number_1 : decode b_MO_number 1 = .ok (.aload_n 0, 1) := by decide +kernel
theorem d_MO_number_2 : decode b_MO_number 2 = .ok (.getfield 133, 3) := by decide +kernel
theorem d_MO_number_5 : decode b_MO_number 5 = .ok (.ifCond .eq 31, 3) := by decide +kernel
theorem d_MO_number_8 : decode b_MO_number 8 = .ok (.iload_n 1, 1) := by decide +kernel
theorem d_MO_number_9 : decode b_MO_number 9 = .ok (.ifCond .lt 27, 3) := by decide +kernel
theorem d_MO_number_12 : decode b_MO_number 12 = .ok (.iload_n 1, 1) := by decide +kernel
theorem d_MO_number_13 : decode b_MO_number 13 = .ok (.aload_n 0, 1) := by decide +kernel
theorem d_MO_number_14 : decode b_MO_number 14 = .ok (.getfield 137, 3) := by decide +kernel
theorem d_MO_number_17 : decode b_MO_number 17 = .ok (.if_icmp .ge 19, 3) := by decide +kernel
theorem d_MO_number_20 : decode b_MO_number 20 = .ok (.iload_n 2, 1) := by decide +kernel
theorem d_MO_number_21 : decode b_MO_number 21 = .ok (.ifCond .lt 15, 3) := by decide +kernel
theorem d_MO_number_24 : decode b_MO_number 24 = .ok (.iload_n 2, 1) := by decide +kernel
theorem d_MO_number_25 : decode b_MO_number 25 = .ok (.aload_n 0, 1) := by decide +kernel
theorem d_MO_number_26 : decode b_MO_number 26 = .ok (.getfield 143, 3) := by decide +kernel
theorem d_MO_number_29 : decode b_MO_number 29 = .ok (.if_icmp .gt 7, 3) := by decide +kernel
theorem d_MO_number_32 : decode b_MO_number 32 = .ok (.iconst 0, 1) := by decide +kernel
theorem d_MO_number_33 : decode b_MO_number 33 = .ok (.goto 4, 3) := by decide +kernel
theorem d_MO_number_36 : decode b_MO_number 36 = .ok (.iconst 1, 1) := by decide +kernel
theorem d_MO_number_37 : decode b_MO_number 37 = .ok (.putfield 81, 3) := by decide +kernel
theorem d_MO_number_40 : decode b_MO_number 40 = .ok (.aload_n 0, 1) := by decide +kernel
theorem d_MO_number_41 : decode b_MO_number 41 = .ok (.getfield 81, 3) := by decide +kernel
theorem d_MO_number_44 : decode b_MO_number 44 = .ok (.ifCond .ne 17, 3) := by decide +kernel
theorem d_MO_number_47 : decode b_MO_number 47 = .ok (.aload_n 0, 1) := by decide +kernel
theorem d_MO_number_48 : decode b_MO_number 48 = .ok (.getfield 38, 3) := by decide +kernel
theorem d_MO_number_51 : decode b_MO_number 51 = .ok (.bipush 7, 2) := by decide +kernel
theorem d_MO_number_53 : decode b_MO_number 53 = .ok (.iload_n 1, 1) := by decide +kernel
theorem d_MO_number_54 : decode b_MO_number 54 = .ok (.imul, 1) := by decide +kernel
theorem d_MO_number_55 : decode b_MO_number 55 = .ok (.iload_n 2, 1) := by decide +kernel
theorem d_MO_number_56 : decode b_MO_number 56 = .ok (.iadd, 1) := by decide +kernel
theorem d_MO_number_57 : decode b_MO_number 57 = .ok (.iaload, 1) := by decide +kernel
theorem d_MO_number_58 : decode b_MO_number 58 = .ok (.goto 4, 3) := by decide +kernel
theorem d_MO_number_61 : decode b_MO_number 61 = .ok (.iconst 0, 1) := by decide +kernel
theorem d_MO_number_62 : decode b_MO_number 62 = .ok (.ireturn, 1) := by decide +kernel
theorem d_MO_place_0 : decode b_MO_place 0 = .ok (.aload_n 0, 1) := by decide +kernel
theorem d_MO_place_1 : decode b_MO_place 1 = .ok (.iconst 0, 1) := by decide +kernel
theorem d_MO_place_2 : decode b_MO_place 2 = .ok (.putfield 81, 3) := by decide +kernel
theorem d_MO_place_5 : decode b_MO_place 5 = .ok (.aload_n 0, 1) := by decide +kernel
theorem d_MO_place_6 : decode b_MO_place 6 = .ok (.getfield 13, 3) := by decide +kernel
theorem d_MO_place_9 : decode b_MO_place 9 = .ok (.ireturn, 1) := by decide +kernel
theorem d_MO_solves_0 : decode b_MO_solves 0 = .ok (.iconst 1, 1) := by decide +kernel
theorem d_MO_solves_1 : decode b_MO_solves 1 = .ok (.istore_n 3, 1) := by decide +kernel
theorem d_MO_solves_2 : decode b_MO_solves 2 = .ok (.iconst 0, 1) := by decide +kernel
theorem d_MO_solves_3 : decode b_MO_solves 3 = .ok (.istore 4, 2) := by decide +kernel
theorem d_MO_solves_5 : decode b_MO_solves 5 = .ok (.iload 4, 2) := by decide +kernel
theorem d_MO_solves_7 : decode b_MO_solves 7 = .ok (.aload_n 0, 1) := by decide +kernel
theorem d_MO_solves_8 : decode b_MO_solves 8 = .ok (.getfield 137, 3) := by decide +kernel
theorem d_MO_solves_11 : decode b_MO_solves 11 = .ok (.if_icmp .ge 91, 3) := by decide +kernel
theorem d_MO_solves_14 : decode b_MO_solves 14 = .ok (.iload_n 3, 1) := by decide +kernel
theorem d_MO_solves_15 : decode b_MO_solves 15 = .ok (.ifCond .eq 87, 3) := by decide +kernel
theorem d_MO_solves_18 : decode b_MO_solves 18 = .ok (.iconst 0, 1) := by decide +kernel
theorem d_MO_solves_19 : decode b_MO_solves 19 = .ok (.istore 5, 2) := by decide +kernel
theorem d_MO_solves_21 : decode b_MO_solves 21 = .ok (.iconst 0, 1) := by decide +kernel
theorem d_MO_solves_22 : decode b_MO_solves 22 = .ok (.istore 6, 2) := by decide +kernel
theorem d_MO_solves_24 : decode b_MO_solves 24 = .ok (.iload 6, 2) := by decide +kernel
theorem d_MO_solves_26 : decode b_MO_solves 26 = .ok (.aload_n 0, 1) := by decide +kernel
theorem d_MO_solves_27 : decode b_MO_solves 27 = .ok (.getfield 143, 3) := by decide +kernel
theorem d_MO_solves_30 : decode b_MO_solves 30 = .ok (.if_icmp .ge 32, 3) := by decide +kernel
theorem d_MO_solves_33 : decode b_MO_solves 33 = .ok (.iload 5, 2) := by decide +kernel
theorem d_MO_solves_35 : decode b_MO_solves 35 = .ok (.aload_n 0, 1) := by decide +kernel
theorem d_MO_solves_36 : decode b_MO_solves 36 = .ok (.getfield 38, 3) := by decide +kernel
theorem d_MO_solves_39 : decode b_MO_solves 39 = .ok (.bipush 7, 2) := by decide +kernel
theorem d_MO_solves_41 : decode b_MO_solves 41 = .ok (.iload 4, 2) := by decide +kernel
theorem d_MO_solves_43 : decode b_MO_solves 43 = .ok (.imul, 1) := by decide +kernel
theorem d_MO_solves_44 : decode b_MO_solves 44 = .ok (.iload 6, 2) := by decide +kernel
theorem d_MO_solves_46 : decode b_MO_solves 46 = .ok (.iadd, 1) := by decide +kernel
theorem d_MO_solves_47 : decode b_MO_solves 47 = .ok (.iaload, 1) := by decide +kernel
theorem d_MO_solves_48 : decode b_MO_solves 48 = .ok (.aload_n 1, 1) := by decide +kernel
theorem d_MO_solves_49 : decode b_MO_solves 49 = .ok (.iload 6, 2) := by decide +kernel
theorem d_MO_solves_51 : decode b_MO_solves 51 = .ok (.iaload, 1) := by decide +kernel
theorem d_MO_solves_52 : decode b_MO_solves 52 = .ok (.imul, 1) := by decide +kernel
theorem d_MO_solves_53 : decode b_MO_solves 53 = .ok (.iadd, 1) := by decide +kernel
theorem d_MO_solves_54 : decode b_MO_solves 54 = .ok (.istore 5, 2) := by decide +kernel
theorem d_MO_solves_56 : decode b_MO_solves 56 = .ok (.iinc 6 1, 3) := by decide +kernel
theorem d_MO_solves_59 : decode b_MO_solves 59 = .ok (.goto (-35), 3) := by decide +kernel
theorem d_MO_solves_62 : decode b_MO_solves 62 = .ok (.iload 5, 2) := by decide +kernel
theorem d_MO_solves_64 : decode b_MO_solves 64 = .ok (.iload_n 2, 1) := by decide +kernel
theorem d_MO_solves_65 : decode b_MO_solves 65 = .ok (.ifCond .eq 21, 3) := by decide +kernel
theorem d_MO_solves_68 : decode b_MO_solves 68 = .ok (.aload_n 0, 1) := by decide +kernel
theorem d_MO_solves_69 : decode b_MO_solves 69 = .ok (.getfield 38, 3) := by decide +kernel
theorem d_MO_solves_72 : decode b_MO_solves 72 = .ok (.bipush 7, 2) := by decide +kernel
theorem d_MO_solves_74 : decode b_MO_solves 74 = .ok (.iload 4, 2) := by decide +kernel
theorem d_MO_solves_76 : decode b_MO_solves 76 = .ok (.imul, 1) := by decide +kernel
theorem d_MO_solves_77 : decode b_MO_solves 77 = .ok (.aload_n 0, 1) := by decide +kernel
theorem d_MO_solves_78 : decode b_MO_solves 78 = .ok (.getfield 143, 3) := by decide +kernel
theorem d_MO_solves_81 : decode b_MO_solves 81 = .ok (.iadd, 1) := by decide +kernel
theorem d_MO_solves_82 : decode b_MO_solves 82 = .ok (.iaload, 1) := by decide +kernel
theorem d_MO_solves_83 : decode b_MO_solves 83 = .ok (.goto 4, 3) := by decide +kernel
theorem d_MO_solves_86 : decode b_MO_solves 86 = .ok (.iconst 0, 1) := by decide +kernel
theorem d_MO_solves_87 : decode b_MO_solves 87 = .ok (.if_icmp .ne 7, 3) := by decide +kernel
theorem d_MO_solves_90 : decode b_MO_solves 90 = .ok (.iconst 1, 1) := by decide +kernel
theorem d_MO_solves_91 : decode b_MO_solves 91 = .ok (.goto 4, 3) := by decide +kernel
theorem d_MO_solves_94 : decode b_MO_solves 94 = .ok (.iconst 0, 1) := by decide +kernel
theorem d_MO_solves_95 : decode b_MO_solves 95 = .ok (.istore_n 3, 1) := by decide +kernel
theorem d_MO_solves_96 : decode b_MO_solves 96 = .ok (.iinc 4 1, 3) := by decide +kernel
theorem d_MO_solves_99 : decode b_MO_solves 99 = .ok (.goto (-94), 3) := by decide +kernel
theorem d_MO_solves_102 : decode b_MO_solves 102 = .ok (.iload_n 3, 1) := by decide +kernel
theorem d_MO_solves_103 : decode b_MO_solves 103 = .ok (.ireturn, 1) := by decide +kernel
