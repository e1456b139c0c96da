theorem d_LS_canSplit_0 : decode b_LS_canSplit 0 = .ok (.aload_n 0, 1) := by decide +kernel
theorem d_LS_canSplit_1 : decode b_LS_canSplit 1 = .ok (.getfield 46, 3) := by decide +kernel
theorem d_LS_canSplit_4 : decode b_LS_canSplit 4 = .ok (.iconst 0, 1) := by decide +kernel
theorem d_LS_canSplit_5 : decode b_LS_canSplit 5 = .ok (.aaload, 1) := by decide +kernel
theorem d_LS_canSplit_6 : decode b_LS_canSplit 6 = .ok (.astore_n 1, 1) := by decide +kernel
theorem d_LS_canSplit_7 : decode b_LS_canSplit 7 = .ok (.aload_n 0, 1) := by decide +kernel
theorem d_LS_canSplit_8 : decode b_LS_canSplit 8 = .ok (.getfield 46, 3) := by decide +kernel
theorem d_LS_canSplit_11 : decode b_LS_canSplit 11 = .ok (.iconst 1, 1) := by decide +kernel
theorem d_LS_canSplit_12 : decode b_LS_canSplit 12 = .ok (.aaload, 1) := by decide +kernel
theorem d_LS_canSplit_13 : decode b_LS_canSplit 13 = .ok (.astore_n 2, 1) := by decide +kernel
theorem d_LS_canSplit_14 : decode b_LS_canSplit 14 = .ok (.aload_n 1, 1) := by decide +kernel
theorem d_LS_canSplit_15 : decode b_LS_canSplit 15 = .ok (.getfield 164, 3) := by decide +kernel
theorem d_LS_canSplit_18 : decode b_LS_canSplit 18 = .ok (.ifCond .eq 35, 3) := by decide +kernel
theorem d_LS_canSplit_21 : decode b_LS_canSplit 21 = .ok (.aload_n 2, 1) := by decide +kernel
theorem d_LS_canSplit_22 : decode b_LS_canSplit 22 = .ok (.getfield 164, 3) := by decide +kernel
theorem d_LS_canSplit_25 : decode b_LS_canSplit 25 = .ok (.ifCond .eq 28, 3) := by decide +kernel
theorem d_LS_canSplit_28 : decode b_LS_canSplit 28 = .ok (.aload_n 0, 1) := by decide +kernel
theorem d_LS_canSplit_29 : decode b_LS_canSplit 29 = .ok (.getfield 57, 3) := by decide +kernel
theorem d_LS_canSplit_32 : decode b_LS_canSplit 32 = .ok (.invokestatic 185, 3) := by decide +kernel
theorem d_LS_canSplit_35 : decode b_LS_canSplit 35 = .ok (.ifCond .ne 18, 3) := by decide +kernel
theorem d_LS_canSplit_38 : decode b_LS_canSplit 38 = .ok (.aload_n 0, 1) := by decide +kernel
theorem d_LS_canSplit_39 : decode b_LS_canSplit 39 = .ok (.getfield 73, 3) := by decide +kernel
theorem d_LS_canSplit_42 : decode b_LS_canSplit 42 = .ok (.aload_n 0, 1) := by decide +kernel
theorem d_LS_canSplit_43 : decode b_LS_canSplit 43 = .ok (.getfield 57, 3) := by decide +kernel
theorem d_LS_canSplit_46 : decode b_LS_canSplit 46 = .ok (.iconst 0, 1) := by decide +kernel
theorem d_LS_canSplit_47 : decode b_LS_canSplit 47 = .ok (.invokevirtual 181, 3) := by decide +kernel
theorem d_LS_canSplit_50 : decode b_LS_canSplit 50 = .ok (.ifCond .ne 5, 3) := by decide +kernel
theorem d_LS_canSplit_53 : decode b_LS_canSplit 53 = .ok (.iconst 0, 1) := by decide +kernel
theorem d_LS_canSplit_54 : decode b_LS_canSplit 54 = .ok (.ireturn, 1) := by decide +kernel
theorem d_LS_canSplit_55 : decode b_LS_canSplit 55 = .ok (.aload_n 0, 1) := by decide +kernel
theorem d_LS_canSplit_56 : decode b_LS_canSplit 56 = .ok (.getfield 57, 3) := by decide +kernel
theorem d_LS_canSplit_59 : decode b_LS_canSplit 59 = .ok (.invokestatic 256, 3) := by decide +kernel
theorem d_LS_canSplit_62 : decode b_LS_canSplit 62 = .ok (.istore_n 3, 1) := by decide +kernel
theorem d_LS_canSplit_63 : decode b_LS_canSplit 63 = .ok (.iload_n 3, 1) := by decide +kernel
theorem d_LS_canSplit_64 : decode b_LS_canSplit 64 = .ok (.aload_n 1, 1) := by decide +kernel
theorem d_LS_canSplit_65 : decode b_LS_canSplit 65 = .ok (.getfield 259, 3) := by decide +kernel
theorem d_LS_canSplit_68 : decode b_LS_canSplit 68 = .ok (.if_icmp .gt 15, 3) := by decide +kernel
theorem d_LS_canSplit_71 : decode b_LS_canSplit 71 = .ok (.iload_n 3, 1) := by decide +kernel
theorem d_LS_canSplit_72 : decode b_LS_canSplit 72 = .ok (.aload_n 2, 1) := by decide +kernel
theorem d_LS_canSplit_73 : decode b_LS_canSplit 73 = .ok (.getfield 259, 3) := by decide +kernel
theorem d_LS_canSplit_76 : decode b_LS_canSplit 76 = .ok (.if_icmp .gt 7, 3) := by decide +kernel
theorem d_LS_canSplit_79 : decode b_LS_canSplit 79 = .ok (.iconst 1, 1) := by decide +kernel
theorem d_LS_canSplit_80 : decode b_LS_canSplit 80 = .ok (.goto 4, 3) := by decide +kernel
theorem d_LS_canSplit_83 : decode b_LS_canSplit 83 = .ok (.iconst 0, 1) := by decide +kernel
theorem d_LS_canSplit_84 : decode b_LS_canSplit 84 = .ok (.ireturn, 1) := by decide +kernel
theorem d_LS_split_0 : decode b_LS_split 0 = .ok (.aload_n 0, 1) := by decide +kernel
theorem d_LS_split_1 : decode b_LS_split 1 = .ok (.invokevirtual 189, 3) := by decide +kernel
theorem d_LS_split_4 : decode b_LS_split 4 = .ok (.ifCond .ne 5, 3) := by decide +kernel
theorem d_LS_split_7 : decode b_LS_split 7 = .ok (.iconst (-1), 1) := by decide +kernel
theorem d_LS_split_8 : decode b_LS_split 8 = .ok (.ireturn, 1) := by decide +kernel
theorem d_LS_split_9 : decode b_LS_split 9 = .ok (.aload_n 0, 1) := by decide +kernel
theorem d_LS_split_10 : decode b_LS_split 10 = .ok (.getfield 46, 3) := by decide +kernel
theorem d_LS_split_13 : decode b_LS_split 13 = .ok (.iconst 1, 1) := by decide +kernel
theorem d_LS_split_14 : decode b_LS_split 14 = .ok (.aaload, 1) := by decide +kernel
theorem d_LS_split_15 : decode b_LS_split 15 = .ok (.aload_n 0, 1) := by decide +kernel
theorem d_LS_split_16 : decode b_LS_split 16 = .ok (.getfield 57, 3) := by decide +kernel
theorem d_LS_split_19 : decode b_LS_split 19 = .ok (.invokevirtual 193, 3) := by decide +kernel
theorem d_LS_split_22 : decode b_LS_split 22 = .ok (.istore_n 1, 1) := by decide +kernel
theorem d_LS_split_23 : decode b_LS_split 23 = .ok (.iload_n 1, 1) := by decide +kernel
theorem d_LS_split_24 : decode b_LS_split 24 = .ok (.iconst (-1), 1) := by decide +kernel
theorem d_LS_split_25 : decode b_LS_split 25 = .ok (.if_icmp .ne 5, 3) := by decide +kernel
theorem d_LS_split_28 : decode b_LS_split 28 = .ok (.iconst (-1), 1) := by decide +kernel
theorem d_LS_split_29 : decode b_LS_split 29 = .ok (.ireturn, 1) := by decide +kernel
theorem d_LS_split_30 : decode b_LS_split 30 = .ok (.aload_n 0, 1) := by decide +kernel
theorem d_LS_split_31 : decode b_LS_split 31 = .ok (.getfield 57, 3) := by decide +kernel
theorem d_LS_split_34 : decode b_LS_split 34 = .ok (.iconst 0, 1) := by decide +kernel
theorem d_LS_split_35 : decode b_LS_split 35 = .ok (.aload_n 0, 1) := by decide +kernel
theorem d_LS_split_36 : decode b_LS_split 36 = .ok (.getfield 61, 3) := by decide +kernel
theorem d_LS_split_39 : decode b_LS_split 39 = .ok (.iconst 0, 1) := by decide +kernel
theorem d_LS_split_40 : decode b_LS_split 40 = .ok (.bipush 6, 2) := by decide +kernel
theorem d_LS_split_42 : decode b_LS_split 42 = .ok (.invokestatic 197, 3) := by decide +kernel
theorem d_LS_split_45 : decode b_LS_split 45 = .ok (.aload_n 0, 1) := by decide +kernel
theorem d_LS_split_46 : decode b_LS_split 46 = .ok (.getfield 46, 3) := by decide +kernel
theorem d_LS_split_49 : decode b_LS_split 49 = .ok (.iconst 1, 1) := by decide +kernel
theorem d_LS_split_50 : decode b_LS_split 50 = .ok (.aaload, 1) := by decide +kernel
theorem d_LS_split_51 : decode b_LS_split 51 = .ok (.aload_n 0, 1) := by decide +kernel
theorem d_LS_split_52 : decode b_LS_split 52 = .ok (.getfield 61, 3) := by decide +kernel
theorem d_LS_split_55 : decode b_LS_split 55 = .ok (.iload_n 1, 1) := by decide +kernel
theorem d_LS_split_56 : decode b_LS_split 56 = .ok (.invokevirtual 203, 3) := by decide +kernel
theorem d_LS_split_59 : decode b_LS_split 59 = .ok (.iconst 0, 1) := by decide +kernel
theorem d_LS_split_60 : decode b_LS_split 60 = .ok (.istore_n 2, 1) := by decide +kernel
theorem d_LS_split_61 : decode b_LS_split 61 = .ok (.iload_n 2, 1) := by decide +kernel
theorem d_LS_split_62 : decode b_LS_split 62 = .ok (.aload_n 0, 1) := by decide +kernel
theorem d_LS_split_63 : decode b_LS_split 63 = .ok (.getfield 46, 3) := by decide +kernel
theorem d_LS_split_66 : decode b_LS_split 66 = .ok (.iconst 0, 1) := by decide +kernel
theorem d_LS_split_67 : decode b_LS_split 67 = .ok (.aaload, 1) := by decide +kernel
theorem d_LS_split_68 : decode b_LS_split 68 = .ok (.getfield 167, 3) := by decide +kernel
theorem d_LS_split_71 : decode b_LS_split 71 = .ok (.if_icmp .ge 20, 3) := by decide +kernel
theorem d_LS_split_74 : decode b_LS_split 74 = .ok (.aload_n 0, 1) := by decide +kernel
theorem d_LS_split_75 : decode b_LS_split 75 = .ok (.getfield 64, 3) := by decide +kernel
theorem d_LS_split_78 : decode b_LS_split 78 = .ok (.iload_n 2, 1) := by decide +kernel
theorem d_LS_split_79 : decode b_LS_split 79 = .ok (.aload_n 0, 1) := by decide +kernel
theorem d_LS_split_80 : decode b_LS_split 80 = .ok (.iload_n 2, 1) := by decide +kernel
theorem d_LS_split_81 : decode b_LS_split 81 = .ok (.invokevirtual 207, 3) := by decide +kernel
theorem d_LS_split_84 : decode b_LS_split 84 = .ok (.iastore, 1) := by decide +kernel
theorem d_LS_split_85 : decode b_LS_split 85 = .ok (.iinc 2 1, 3) := by decide +kernel
theorem d_LS_split_88 : decode b_LS_split 88 = .ok (.goto (-27), 3) := by decide +kernel
theorem d_LS_split_91 : decode b_LS_split 91 = .ok (.aload_n 0, 1) := by decide +kernel
theorem d_LS_split_92 : decode b_LS_split 92 = .ok (.iconst 1, 1) := by decide +kernel
theorem d_LS_split_93 : decode b_LS_split 93 = .ok (.putfield 81, 3) := by decide +kernel
theorem d_LS_split_96 : decode b_LS_split 96 = .ok (.iload_n 1, 1) := by decide +kernel
theorem d_LS_split_97 : decode b_LS_split 97 = .ok (.ireturn, 1) := by decide +kernel
theorem d_LS_takeOften_0 : decode b_LS_takeOften 0 = .ok (.aload_n 0, 1) := by decide +kernel
theorem d_LS_takeOften_1 : decode b_LS_takeOften 1 = .ok (.getfield 46, 3) := by decide +kernel
theorem d_LS_takeOften_4 : decode b_LS_takeOften 4 = .ok (.iconst 0, 1) := by decide +kernel
theorem d_LS_takeOften_5 : decode b_LS_takeOften 5 = .ok (.aaload, 1) := by decide +kernel
theorem d_LS_takeOften_6 : decode b_LS_takeOften 6 = .ok (.astore_n 2, 1) := by decide +kernel
theorem d_LS_takeOften_7 : decode b_LS_takeOften 7 = .ok (.iconst 0, 1) := by decide +kernel
theorem d_LS_takeOften_8 : decode b_LS_takeOften 8 = .ok (.istore_n 3, 1) := by decide +kernel
theorem d_LS_takeOften_9 : decode b_LS_takeOften 9 = .ok (.iconst 0, 1) := by decide +kernel
theorem d_LS_takeOften_10 : decode b_LS_takeOften 10 = .ok (.istore 4, 2) := by decide +kernel
theorem d_LS_takeOften_12 : decode b_LS_takeOften 12 = .ok (.iload 4, 2) := by decide +kernel
theorem d_LS_takeOften_14 : decode b_LS_takeOften 14 = .ok (.bipush 16, 2) := by decide +kernel
theorem d_LS_takeOften_16 : decode b_LS_takeOften 16 = .ok (.if_icmp .ge 33, 3) := by decide +kernel
theorem d_LS_takeOften_19 : decode b_LS_takeOften 19 = .ok (.aload_n 2, 1) := by decide +kernel
theorem d_LS_takeOften_20 : decode b_LS_takeOften 20 = .ok (.iload_n 1, 1) := by decide +kernel
theorem d_LS_takeOften_21 : decode b_LS_takeOften 21 = .ok (.aload_n 0, 1) := by decide +kernel
theorem d_LS_takeOften_22 : decode b_LS_takeOften 22 = .ok (.getfield 61, 3) := by decide +kernel
theorem d_LS_takeOften_25 : decode b_LS_takeOften 25 = .ok (.invokevirtual 262, 3) := by decide +kernel
theorem d_LS_takeOften_28 : decode b_LS_takeOften 28 = .ok (.ifCond .eq 21, 3) := by decide +kernel
theorem d_LS_takeOften_31 : decode b_LS_takeOften 31 = .ok (.aload_n 2, 1) := by decide +kernel
theorem d_LS_takeOften_32 : decode b_LS_takeOften 32 = .ok (.aload_n 0, 1) := by decide +kernel
theorem d_LS_takeOften_33 : decode b_LS_takeOften 33 = .ok (.getfield 61, 3) := by decide +kernel
theorem d_LS_takeOften_36 : decode b_LS_takeOften 36 = .ok (.iload_n 1, 1) := by decide +kernel
theorem d_LS_takeOften_37 : decode b_LS_takeOften 37 = .ok (.invokevirtual 203, 3) := by decide +kernel
theorem d_LS_takeOften_40 : decode b_LS_takeOften 40 = .ok (.iinc 3 1, 3) := by decide +kernel
theorem d_LS_takeOften_43 : decode b_LS_takeOften 43 = .ok (.iinc 4 1, 3) := by decide +kernel
theorem d_LS_takeOften_46 : decode b_LS_takeOften 46 = .ok (.goto (-34), 3) := by decide +kernel
theorem d_LS_takeOften_49 : decode b_LS_takeOften 49 = .ok (.iload_n 3, 1) := by decide +kernel
theorem d_LS_takeOften_50 : decode b_LS_takeOften 50 = .ok (.ireturn, 1) := by decide +kernel
