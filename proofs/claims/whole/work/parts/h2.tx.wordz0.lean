theorem d_TX_areTypable_0 : decode b_TX_areTypable 0 = .ok (.iconst 0, 1) := by decide +kernel
theorem d_TX_areTypable_1 : decode b_TX_areTypable 1 = .ok (.istore_n 3, 1) := by decide +kernel
theorem d_TX_areTypable_2 : decode b_TX_areTypable 2 = .ok (.iload_n 3, 1) := by decide +kernel
theorem d_TX_areTypable_3 : decode b_TX_areTypable 3 = .ok (.iload_n 2, 1) := by decide +kernel
theorem d_TX_areTypable_4 : decode b_TX_areTypable 4 = .ok (.if_icmp .ge 32, 3) := by decide +kernel
theorem d_TX_areTypable_7 : decode b_TX_areTypable 7 = .ok (.lload_n 0, 1) := by decide +kernel
theorem d_TX_areTypable_8 : decode b_TX_areTypable 8 = .ok (.iload_n 3, 1) := by decide +kernel
theorem d_TX_areTypable_9 : decode b_TX_areTypable 9 = .ok (.invokestatic 23, 3) := by decide +kernel
theorem d_TX_areTypable_12 : decode b_TX_areTypable 12 = .ok (.istore 4, 2) := by decide +kernel
theorem d_TX_areTypable_14 : decode b_TX_areTypable 14 = .ok (.iload 4, 2) := by decide +kernel
theorem d_TX_areTypable_16 : decode b_TX_areTypable 16 = .ok (.bipush 32, 2) := by decide +kernel
theorem d_TX_areTypable_18 : decode b_TX_areTypable 18 = .ok (.if_icmp .lt 10, 3) := by decide +kernel
theorem d_TX_areTypable_21 : decode b_TX_areTypable 21 = .ok (.iload 4, 2) := by decide +kernel
theorem d_TX_areTypable_23 : decode b_TX_areTypable 23 = .ok (.bipush 126, 2) := by decide +kernel
theorem d_TX_areTypable_25 : decode b_TX_areTypable 25 = .ok (.if_icmp .le 5, 3) := by decide +kernel
theorem d_TX_areTypable_28 : decode b_TX_areTypable 28 = .ok (.iconst 0, 1) := by decide +kernel
theorem d_TX_areTypable_29 : decode b_TX_areTypable 29 = .ok (.ireturn, 1) := by decide +kernel
theorem d_TX_areTypable_30 : decode b_TX_areTypable 30 = .ok (.iinc 3 1, 3) := by decide +kernel
theorem d_TX_areTypable_33 : decode b_TX_areTypable 33 = .ok (.goto (-31), 3) := by decide +kernel
theorem d_TX_areTypable_36 : decode b_TX_areTypable 36 = .ok (.iconst 1, 1) := by decide +kernel
theorem d_TX_areTypable_37 : decode b_TX_areTypable 37 = .ok (.ireturn, 1) := by decide +kernel
theorem d_TX_byteOf_0 : decode b_TX_byteOf 0 = .ok (.lload_n 0, 1) := by decide +kernel
theorem d_TX_byteOf_1 : decode b_TX_byteOf 1 = .ok (.bipush 8, 2) := by decide +kernel
theorem d_TX_byteOf_3 : decode b_TX_byteOf 3 = .ok (.iload_n 2, 1) := by decide +kernel
theorem d_TX_byteOf_4 : decode b_TX_byteOf 4 = .ok (.imul, 1) := by decide +kernel
theorem d_TX_byteOf_5 : decode b_TX_byteOf 5 = .ok (.lushr, 1) := by decide +kernel
theorem d_TX_byteOf_6 : decode b_TX_byteOf 6 = .ok (.l2i, 1) := by decide +kernel
theorem d_TX_byteOf_7 : decode b_TX_byteOf 7 = .ok (.sipush 255, 3) := by decide +kernel
theorem d_TX_byteOf_10 : decode b_TX_byteOf 10 = .ok (.iand, 1) := by decide +kernel
theorem d_TX_byteOf_11 : decode b_TX_byteOf 11 = .ok (.ireturn, 1) := by decide +kernel
theorem d_TX_characterAt_0 : decode b_TX_characterAt 0 = .ok (.iload_n 1, 1) := by decide +kernel
theorem d_TX_characterAt_1 : decode b_TX_characterAt 1 = .ok (.ifCond .lt 20, 3) := by decide +kernel
theorem d_TX_characterAt_4 : decode b_TX_characterAt 4 = .ok (.iload_n 1, 1) := by decide +kernel
theorem d_TX_characterAt_5 : decode b_TX_characterAt 5 = .ok (.aload_n 0, 1) := by decide +kernel
theorem d_TX_characterAt_6 : decode b_TX_characterAt 6 = .ok (.getfield 15, 3) := by decide +kernel
theorem d_TX_characterAt_9 : decode b_TX_characterAt 9 = .ok (.if_icmp .ge 12, 3) := by decide +kernel
theorem d_TX_characterAt_12 : decode b_TX_characterAt 12 = .ok (.aload_n 0, 1) := by decide +kernel
theorem d_TX_characterAt_13 : decode b_TX_characterAt 13 = .ok (.getfield 9, 3) := by decide +kernel
theorem d_TX_characterAt_16 : decode b_TX_characterAt 16 = .ok (.iload_n 1, 1) := by decide +kernel
theorem d_TX_characterAt_17 : decode b_TX_characterAt 17 = .ok (.baload, 1) := by decide +kernel
theorem d_TX_characterAt_18 : decode b_TX_characterAt 18 = .ok (.goto 4, 3) := by decide +kernel
theorem d_TX_characterAt_21 : decode b_TX_characterAt 21 = .ok (.iconst 0, 1) := by decide +kernel
theorem d_TX_characterAt_22 : decode b_TX_characterAt 22 = .ok (.ireturn, 1) := by decide +kernel
theorem d_TX_put_0 : decode b_TX_put 0 = .ok (.iload_n 3, 1) := by decide +kernel
theorem d_TX_put_1 : decode b_TX_put 1 = .ok (.iconst 1, 1) := by decide +kernel
theorem d_TX_put_2 : decode b_TX_put 2 = .ok (.if_icmp .lt 29, 3) := by decide +kernel
theorem d_TX_put_5 : decode b_TX_put 5 = .ok (.iload_n 3, 1) := by decide +kernel
theorem d_TX_put_6 : decode b_TX_put 6 = .ok (.bipush 8, 2) := by decide +kernel
theorem d_TX_put_8 : decode b_TX_put 8 = .ok (.if_icmp .gt 23, 3) := by decide +kernel
theorem d_TX_put_11 : decode b_TX_put 11 = .ok (.aload_n 0, 1) := by decide +kernel
theorem d_TX_put_12 : decode b_TX_put 12 = .ok (.getfield 15, 3) := by decide +kernel
theorem d_TX_put_15 : decode b_TX_put 15 = .ok (.iload_n 3, 1) := by decide +kernel
theorem d_TX_put_16 : decode b_TX_put 16 = .ok (.iadd, 1) := by decide +kernel
theorem d_TX_put_17 : decode b_TX_put 17 = .ok (.sipush 300, 3) := by decide +kernel
theorem d_TX_put_20 : decode b_TX_put 20 = .ok (.if_icmp .gt 11, 3) := by decide +kernel
theorem d_TX_put_23 : decode b_TX_put 23 = .ok (.lload_n 1, 1) := by decide +kernel
theorem d_TX_put_24 : decode b_TX_put 24 = .ok (.iload_n 3, 1) := by decide +kernel
theorem d_TX_put_25 : decode b_TX_put 25 = .ok (.invokestatic 19, 3) := by decide +kernel
theorem d_TX_put_28 : decode b_TX_put 28 = .ok (.ifCond .ne 5, 3) := by decide +kernel
theorem d_TX_put_31 : decode b_TX_put 31 = .ok (.iconst 0, 1) := by decide +kernel
theorem d_TX_put_32 : decode b_TX_put 32 = .ok (.ireturn, 1) := by decide +kernel
theorem d_TX_put_33 : decode b_TX_put 33 = .ok (.iload_n 3, 1) := by decide +kernel
theorem d_TX_put_34 : decode b_TX_put 34 = .ok (.iconst 1, 1) := by decide +kernel
theorem d_TX_put_35 : decode b_TX_put 35 = .ok (.isub, 1) := by decide +kernel
theorem d_TX_put_36 : decode b_TX_put 36 = .ok (.istore 4, 2) := by decide +kernel
theorem d_TX_put_38 : decode b_TX_put 38 = .ok (.iload 4, 2) := by decide +kernel
theorem d_TX_put_40 : decode b_TX_put 40 = .ok (.ifCond .lt 35, 3) := by decide +kernel
theorem d_TX_put_43 : decode b_TX_put 43 = .ok (.aload_n 0, 1) := by decide +kernel
theorem d_TX_put_44 : decode b_TX_put 44 = .ok (.getfield 9, 3) := by decide +kernel
theorem d_TX_put_47 : decode b_TX_put 47 = .ok (.aload_n 0, 1) := by decide +kernel
theorem d_TX_put_48 : decode b_TX_put 48 = .ok (.getfield 15, 3) := by decide +kernel
theorem d_TX_put_51 : decode b_TX_put 51 = .ok (.lload_n 1, 1) := by decide +kernel
theorem d_TX_put_52 : decode b_TX_put 52 = .ok (.iload 4, 2) := by decide +kernel
theorem d_TX_put_54 : decode b_TX_put 54 = .ok (.invokestatic 23, 3) := by decide +kernel
theorem d_TX_put_57 : decode b_TX_put 57 = .ok (.i2b, 1) := by decide +kernel
theorem d_TX_put_58 : decode b_TX_put 58 = .ok (.bastore, 1) := by decide +kernel
theorem d_TX_put_59 : decode b_TX_put 59 = .ok (.aload_n 0, 1) := by decide +kernel
theorem d_TX_put_60 : decode b_TX_put 60 = .ok (.dup, 1) := by decide +kernel
theorem d_TX_put_61 : decode b_TX_put 61 = .ok (.getfield 15, 3) := by decide +kernel
theorem d_TX_put_64 : decode b_TX_put 64 = .ok (.iconst 1, 1) := by decide +kernel
theorem d_TX_put_65 : decode b_TX_put 65 = .ok (.iadd, 1) := by decide +kernel
theorem d_TX_put_66 : decode b_TX_put 66 = .ok (.putfield 15, 3) := by decide +kernel
theorem d_TX_put_69 : decode b_TX_put 69 = .ok (.iinc 4 (-1), 3) := by decide +kernel
theorem d_TX_put_72 : decode b_TX_put 72 = .ok (.goto (-34), 3) := by decide +kernel
theorem d_TX_put_75 : decode b_TX_put 75 = .ok (.iconst 1, 1) := by decide +kernel
theorem d_TX_put_76 : decode b_TX_put 76 = .ok (.ireturn, 1) := by decide +kernel
