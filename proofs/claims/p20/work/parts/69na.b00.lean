theorem dX0_start_0 : decode cX0_start 0 = .ok (.ldc2_w 9, 3) := by decide +kernel
theorem dX0_start_3 : decode cX0_start 3 = .ok (.iload_n 0, 1) := by decide +kernel
theorem dX0_start_4 : decode cX0_start 4 = .ok (.i2l, 1) := by decide +kernel
theorem dX0_start_5 : decode cX0_start 5 = .ok (.lmul, 1) := by decide +kernel
theorem dX0_start_6 : decode cX0_start 6 = .ok (.lreturn, 1) := by decide +kernel
theorem dX0_add_0 : decode cX0_add 0 = .ok (.lload_n 0, 1) := by decide +kernel
theorem dX0_add_1 : decode cX0_add 1 = .ok (.iload_n 2, 1) := by decide +kernel
theorem dX0_add_2 : decode cX0_add 2 = .ok (.sipush 255, 3) := by decide +kernel
theorem dX0_add_5 : decode cX0_add 5 = .ok (.iand, 1) := by decide +kernel
theorem dX0_add_6 : decode cX0_add 6 = .ok (.i2l, 1) := by decide +kernel
theorem dX0_add_7 : decode cX0_add 7 = .ok (.lxor, 1) := by decide +kernel
theorem dX0_add_8 : decode cX0_add 8 = .ok (.lstore_n 3, 1) := by decide +kernel
theorem dX0_add_9 : decode cX0_add 9 = .ok (.lload_n 3, 1) := by decide +kernel
theorem dX0_add_10 : decode cX0_add 10 = .ok (.bipush 21, 2) := by decide +kernel
theorem dX0_add_12 : decode cX0_add 12 = .ok (.lshl, 1) := by decide +kernel
theorem dX0_add_13 : decode cX0_add 13 = .ok (.lload_n 3, 1) := by decide +kernel
theorem dX0_add_14 : decode cX0_add 14 = .ok (.bipush 43, 2) := by decide +kernel
theorem dX0_add_16 : decode cX0_add 16 = .ok (.lushr, 1) := by decide +kernel
theorem dX0_add_17 : decode cX0_add 17 = .ok (.lor, 1) := by decide +kernel
theorem dX0_add_18 : decode cX0_add 18 = .ok (.ldc2_w 13, 3) := by decide +kernel
theorem dX0_add_21 : decode cX0_add 21 = .ok (.lmul, 1) := by decide +kernel
theorem dX0_add_22 : decode cX0_add 22 = .ok (.lreturn, 1) := by decide +kernel
theorem dX0_addInt_0 : decode cX0_addInt 0 = .ok (.lload_n 0, 1) := by decide +kernel
theorem dX0_addInt_1 : decode cX0_addInt 1 = .ok (.lstore_n 3, 1) := by decide +kernel
theorem dX0_addInt_2 : decode cX0_addInt 2 = .ok (.bipush 24, 2) := by decide +kernel
theorem dX0_addInt_4 : decode cX0_addInt 4 = .ok (.istore 5, 2) := by decide +kernel
theorem dX0_addInt_6 : decode cX0_addInt 6 = .ok (.iload 5, 2) := by decide +kernel
theorem dX0_addInt_8 : decode cX0_addInt 8 = .ok (.ifCond .lt 18, 3) := by decide +kernel
theorem dX0_addInt_11 : decode cX0_addInt 11 = .ok (.lload_n 3, 1) := by decide +kernel
theorem dX0_addInt_12 : decode cX0_addInt 12 = .ok (.iload_n 2, 1) := by decide +kernel
theorem dX0_addInt_13 : decode cX0_addInt 13 = .ok (.iload 5, 2) := by decide +kernel
theorem dX0_addInt_15 : decode cX0_addInt 15 = .ok (.iushr, 1) := by decide +kernel
theorem dX0_addInt_16 : decode cX0_addInt 16 = .ok (.invokestatic 15, 3) := by decide +kernel
theorem dX0_addInt_19 : decode cX0_addInt 19 = .ok (.lstore_n 3, 1) := by decide +kernel
theorem dX0_addInt_20 : decode cX0_addInt 20 = .ok (.iinc 5 (-8), 3) := by decide +kernel
theorem dX0_addInt_23 : decode cX0_addInt 23 = .ok (.goto (-17), 3) := by decide +kernel
theorem dX0_addInt_26 : decode cX0_addInt 26 = .ok (.lload_n 3, 1) := by decide +kernel
theorem dX0_addInt_27 : decode cX0_addInt 27 = .ok (.lreturn, 1) := by decide +kernel
theorem dX0_addLong_0 : decode cX0_addLong 0 = .ok (.lload_n 0, 1) := by decide +kernel
theorem dX0_addLong_1 : decode cX0_addLong 1 = .ok (.lstore 4, 2) := by decide +kernel
theorem dX0_addLong_3 : decode cX0_addLong 3 = .ok (.bipush 56, 2) := by decide +kernel
theorem dX0_addLong_5 : decode cX0_addLong 5 = .ok (.istore 6, 2) := by decide +kernel
theorem dX0_addLong_7 : decode cX0_addLong 7 = .ok (.iload 6, 2) := by decide +kernel
theorem dX0_addLong_9 : decode cX0_addLong 9 = .ok (.ifCond .lt 21, 3) := by decide +kernel
theorem dX0_addLong_12 : decode cX0_addLong 12 = .ok (.lload 4, 2) := by decide +kernel
theorem dX0_addLong_14 : decode cX0_addLong 14 = .ok (.lload_n 2, 1) := by decide +kernel
theorem dX0_addLong_15 : decode cX0_addLong 15 = .ok (.iload 6, 2) := by decide +kernel
theorem dX0_addLong_17 : decode cX0_addLong 17 = .ok (.lushr, 1) := by decide +kernel
theorem dX0_addLong_18 : decode cX0_addLong 18 = .ok (.l2i, 1) := by decide +kernel
theorem dX0_addLong_19 : decode cX0_addLong 19 = .ok (.invokestatic 15, 3) := by decide +kernel
theorem dX0_addLong_22 : decode cX0_addLong 22 = .ok (.lstore 4, 2) := by decide +kernel
theorem dX0_addLong_24 : decode cX0_addLong 24 = .ok (.iinc 6 (-8), 3) := by decide +kernel
theorem dX0_addLong_27 : decode cX0_addLong 27 = .ok (.goto (-20), 3) := by decide +kernel
theorem dX0_addLong_30 : decode cX0_addLong 30 = .ok (.lload 4, 2) := by decide +kernel
theorem dX0_addLong_32 : decode cX0_addLong 32 = .ok (.lreturn, 1) := by decide +kernel
theorem dX0_sum_0 : decode cX0_sum 0 = .ok (.iload_n 3, 1) := by decide +kernel
theorem dX0_sum_1 : decode cX0_sum 1 = .ok (.invokestatic 19, 3) := by decide +kernel
theorem dX0_sum_4 : decode cX0_sum 4 = .ok (.lstore 4, 2) := by decide +kernel
theorem dX0_sum_6 : decode cX0_sum 6 = .ok (.iload_n 1, 1) := by decide +kernel
theorem dX0_sum_7 : decode cX0_sum 7 = .ok (.istore 6, 2) := by decide +kernel
theorem dX0_sum_9 : decode cX0_sum 9 = .ok (.iload 6, 2) := by decide +kernel
theorem dX0_sum_11 : decode cX0_sum 11 = .ok (.iload_n 1, 1) := by decide +kernel
theorem dX0_sum_12 : decode cX0_sum 12 = .ok (.iload_n 2, 1) := by decide +kernel
theorem dX0_sum_13 : decode cX0_sum 13 = .ok (.iadd, 1) := by decide +kernel
theorem dX0_sum_14 : decode cX0_sum 14 = .ok (.if_icmp .ge 20, 3) := by decide +kernel
theorem dX0_sum_17 : decode cX0_sum 17 = .ok (.lload 4, 2) := by decide +kernel
theorem dX0_sum_19 : decode cX0_sum 19 = .ok (.aload_n 0, 1) := by decide +kernel
theorem dX0_sum_20 : decode cX0_sum 20 = .ok (.iload 6, 2) := by decide +kernel
theorem dX0_sum_22 : decode cX0_sum 22 = .ok (.baload, 1) := by decide +kernel
theorem dX0_sum_23 : decode cX0_sum 23 = .ok (.invokestatic 15, 3) := by decide +kernel
theorem dX0_sum_26 : decode cX0_sum 26 = .ok (.lstore 4, 2) := by decide +kernel
theorem dX0_sum_28 : decode cX0_sum 28 = .ok (.iinc 6 1, 3) := by decide +kernel
theorem dX0_sum_31 : decode cX0_sum 31 = .ok (.goto (-22), 3) := by decide +kernel
theorem dX0_sum_34 : decode cX0_sum 34 = .ok (.lload 4, 2) := by decide +kernel
theorem dX0_sum_36 : decode cX0_sum 36 = .ok (.lreturn, 1) := by decide +kernel
theorem dX0_intAt_0 : decode cX0_intAt 0 = .ok (.iconst 0, 1) := by decide +kernel
theorem dX0_intAt_1 : decode cX0_intAt 1 = .ok (.istore_n 2, 1) := by decide +kernel
theorem dX0_intAt_2 : decode cX0_intAt 2 = .ok (.iload_n 1, 1) := by decide +kernel
theorem dX0_intAt_3 : decode cX0_intAt 3 = .ok (.istore_n 3, 1) := by decide +kernel
theorem dX0_intAt_4 : decode cX0_intAt 4 = .ok (.iload_n 3, 1) := by decide +kernel
theorem dX0_intAt_5 : decode cX0_intAt 5 = .ok (.iload_n 1, 1) := by decide +kernel
theorem dX0_intAt_6 : decode cX0_intAt 6 = .ok (.iconst 4, 1) := by decide +kernel
theorem dX0_intAt_7 : decode cX0_intAt 7 = .ok (.iadd, 1) := by decide +kernel
theorem dX0_intAt_8 : decode cX0_intAt 8 = .ok (.if_icmp .ge 22, 3) := by decide +kernel
theorem dX0_intAt_11 : decode cX0_intAt 11 = .ok (.iload_n 2, 1) := by decide +kernel
theorem dX0_intAt_12 : decode cX0_intAt 12 = .ok (.bipush 8, 2) := by decide +kernel
theorem dX0_intAt_14 : decode cX0_intAt 14 = .ok (.ishl, 1) := by decide +kernel
theorem dX0_intAt_15 : decode cX0_intAt 15 = .ok (.aload_n 0, 1) := by decide +kernel
theorem dX0_intAt_16 : decode cX0_intAt 16 = .ok (.iload_n 3, 1) := by decide +kernel
theorem dX0_intAt_17 : decode cX0_intAt 17 = .ok (.baload, 1) := by decide +kernel
theorem dX0_intAt_18 : decode cX0_intAt 18 = .ok (.sipush 255, 3) := by decide +kernel
theorem dX0_intAt_21 : decode cX0_intAt 21 = .ok (.iand, 1) := by decide +kernel
theorem dX0_intAt_22 : decode cX0_intAt 22 = .ok (.ior, 1) := by decide +kernel
theorem dX0_intAt_23 : decode cX0_intAt 23 = .ok (.istore_n 2, 1) := by decide +kernel
theorem dX0_intAt_24 : decode cX0_intAt 24 = .ok (.iinc 3 1, 3) := by decide +kernel
theorem dX0_intAt_27 : decode cX0_intAt 27 = .ok (.goto (-23), 3) := by decide +kernel
theorem dX0_intAt_30 : decode cX0_intAt 30 = .ok (.iload_n 2, 1) := by decide +kernel
theorem dX0_intAt_31 : decode cX0_intAt 31 = .ok (.ireturn, 1) := by decide +kernel
theorem dX0_longAt_0 : decode cX0_longAt 0 = .ok (.lconst 0, 1) := by decide +kernel
theorem dX0_longAt_1 : decode cX0_longAt 1 = .ok (.lstore_n 2, 1) := by decide +kernel
theorem dX0_longAt_2 : decode cX0_longAt 2 = .ok (.iload_n 1, 1) := by decide +kernel
theorem dX0_longAt_3 : decode cX0_longAt 3 = .ok (.istore 4, 2) := by decide +kernel
theorem dX0_longAt_5 : decode cX0_longAt 5 = .ok (.iload 4, 2) := by decide +kernel
theorem dX0_longAt_7 : decode cX0_longAt 7 = .ok (.iload_n 1, 1) := by decide +kernel
theorem dX0_longAt_8 : decode cX0_longAt 8 = .ok (.bipush 8, 2) := by decide +kernel
theorem dX0_longAt_10 : decode cX0_longAt 10 = .ok (.iadd, 1) := by decide +kernel
theorem dX0_longAt_11 : decode cX0_longAt 11 = .ok (.if_icmp .ge 24, 3) := by decide +kernel
theorem dX0_longAt_14 : decode cX0_longAt 14 = .ok (.lload_n 2, 1) := by decide +kernel
theorem dX0_longAt_15 : decode cX0_longAt 15 = .ok (.bipush 8, 2) := by decide +kernel
theorem dX0_longAt_17 : decode cX0_longAt 17 = .ok (.lshl, 1) := by decide +kernel
theorem dX0_longAt_18 : decode cX0_longAt 18 = .ok (.aload_n 0, 1) := by decide +kernel
theorem dX0_longAt_19 : decode cX0_longAt 19 = .ok (.iload 4, 2) := by decide +kernel
theorem dX0_longAt_21 : decode cX0_longAt 21 = .ok (.baload, 1) := by decide +kernel
theorem dX0_longAt_22 : decode cX0_longAt 22 = .ok (.sipush 255, 3) := by decide +kernel
theorem dX0_longAt_25 : decode cX0_longAt 25 = .ok (.iand, 1) := by decide +kernel
theorem dX0_longAt_26 : decode cX0_longAt 26 = .ok (.i2l, 1) := by decide +kernel
theorem dX0_longAt_27 : decode cX0_longAt 27 = .ok (.lor, 1) := by decide +kernel
theorem dX0_longAt_28 : decode cX0_longAt 28 = .ok (.lstore_n 2, 1) := by decide +kernel
theorem dX0_longAt_29 : decode cX0_longAt 29 = .ok (.iinc 4 1, 3) := by decide +kernel
theorem dX0_longAt_32 : decode cX0_longAt 32 = .ok (.goto (-27), 3) := by decide +kernel
theorem dX0_longAt_35 : decode cX0_longAt 35 = .ok (.lload_n 2, 1) := by decide +kernel
theorem dX0_longAt_36 : decode cX0_longAt 36 = .ok (.lreturn, 1) := by decide +kernel
theorem dX0_putInt_0 : decode cX0_putInt 0 = .ok (.iconst 0, 1) := by decide +kernel
theorem dX0_putInt_1 : decode cX0_putInt 1 = .ok (.istore_n 3, 1) := by decide +kernel
theorem dX0_putInt_2 : decode cX0_putInt 2 = .ok (.iload_n 3, 1) := by decide +kernel
theorem dX0_putInt_3 : decode cX0_putInt 3 = .ok (.iconst 4, 1) := by decide +kernel
theorem dX0_putInt_4 : decode cX0_putInt 4 = .ok (.if_icmp .ge 24, 3) := by decide +kernel
theorem dX0_putInt_7 : decode cX0_putInt 7 = .ok (.aload_n 0, 1) := by decide +kernel
theorem dX0_putInt_8 : decode cX0_putInt 8 = .ok (.iload_n 1, 1) := by decide +kernel
theorem dX0_putInt_9 : decode cX0_putInt 9 = .ok (.iload_n 3, 1) := by decide +kernel
theorem dX0_putInt_10 : decode cX0_putInt 10 = .ok (.iadd, 1) := by decide +kernel
theorem dX0_putInt_11 : decode cX0_putInt 11 = .ok (.iload_n 2, 1) := by decide +kernel
theorem dX0_putInt_12 : decode cX0_putInt 12 = .ok (.bipush 24, 2) := by decide +kernel
theorem dX0_putInt_14 : decode cX0_putInt 14 = .ok (.bipush 8, 2) := by decide +kernel
theorem dX0_putInt_16 : decode cX0_putInt 16 = .ok (.iload_n 3, 1) := by decide +kernel
theorem dX0_putInt_17 : decode cX0_putInt 17 = .ok (.imul, 1) := by decide +kernel
theorem dX0_putInt_18 : decode cX0_putInt 18 = .ok (.isub, 1) := by decide +kernel
theorem dX0_putInt_19 : decode cX0_putInt 19 = .ok (.iushr, 1) := by decide +kernel
theorem dX0_putInt_20 : decode cX0_putInt 20 = .ok (.i2b, 1) := by decide +kernel
theorem dX0_putInt_21 : decode cX0_putInt 21 = .ok (.bastore, 1) := by decide +kernel
theorem dX0_putInt_22 : decode cX0_putInt 22 = .ok (.iinc 3 1, 3) := by decide +kernel
theorem dX0_putInt_25 : decode cX0_putInt 25 = .ok (.goto (-23), 3) := by decide +kernel
theorem dX0_putInt_28 : decode cX0_putInt 28 = .ok (.return_, 1) := by decide +kernel
theorem dX0_putLong_0 : decode cX0_putLong 0 = .ok (.iconst 0, 1) := by decide +kernel
theorem dX0_putLong_1 : decode cX0_putLong 1 = .ok (.istore 4, 2) := by decide +kernel
theorem dX0_putLong_3 : decode cX0_putLong 3 = .ok (.iload 4, 2) := by decide +kernel
theorem dX0_putLong_5 : decode cX0_putLong 5 = .ok (.bipush 8, 2) := by decide +kernel
theorem dX0_putLong_7 : decode cX0_putLong 7 = .ok (.if_icmp .ge 27, 3) := by decide +kernel
theorem dX0_putLong_10 : decode cX0_putLong 10 = .ok (.aload_n 0, 1) := by decide +kernel
theorem dX0_putLong_11 : decode cX0_putLong 11 = .ok (.iload_n 1, 1) := by decide +kernel
theorem dX0_putLong_12 : decode cX0_putLong 12 = .ok (.iload 4, 2) := by decide +kernel
theorem dX0_putLong_14 : decode cX0_putLong 14 = .ok (.iadd, 1) := by decide +kernel
theorem dX0_putLong_15 : decode cX0_putLong 15 = .ok (.lload_n 2, 1) := by decide +kernel
theorem dX0_putLong_16 : decode cX0_putLong 16 = .ok (.bipush 56, 2) := by decide +kernel
theorem dX0_putLong_18 : decode cX0_putLong 18 = .ok (.bipush 8, 2) := by decide +kernel
theorem dX0_putLong_20 : decode cX0_putLong 20 = .ok (.iload 4, 2) := by decide +kernel
theorem dX0_putLong_22 : decode cX0_putLong 22 = .ok (.imul, 1) := by decide +kernel
theorem dX0_putLong_23 : decode cX0_putLong 23 = .ok (.isub, 1) := by decide +kernel
theorem dX0_putLong_24 : decode cX0_putLong 24 = .ok (.lushr, 1) := by decide +kernel
theorem dX0_putLong_25 : decode cX0_putLong 25 = .ok (.l2i, 1) := by decide +kernel
theorem dX0_putLong_26 : decode cX0_putLong 26 = .ok (.i2b, 1) := by decide +kernel
theorem dX0_putLong_27 : decode cX0_putLong 27 = .ok (.bastore, 1) := by decide +kernel
theorem dX0_putLong_28 : decode cX0_putLong 28 = .ok (.iinc 4 1, 3) := by decide +kernel
theorem dX0_putLong_31 : decode cX0_putLong 31 = .ok (.goto (-28), 3) := by decide +kernel
theorem dX0_putLong_34 : decode cX0_putLong 34 = .ok (.return_, 1) := by decide +kernel
theorem dX0_isZero_0 : decode cX0_isZero 0 = .ok (.iload_n 1, 1) := by decide +kernel
theorem dX0_isZero_1 : decode cX0_isZero 1 = .ok (.istore_n 3, 1) := by decide +kernel
theorem dX0_isZero_2 : decode cX0_isZero 2 = .ok (.iload_n 3, 1) := by decide +kernel
theorem dX0_isZero_3 : decode cX0_isZero 3 = .ok (.iload_n 1, 1) := by decide +kernel
theorem dX0_isZero_4 : decode cX0_isZero 4 = .ok (.iload_n 2, 1) := by decide +kernel
theorem dX0_isZero_5 : decode cX0_isZero 5 = .ok (.iadd, 1) := by decide +kernel
theorem dX0_isZero_6 : decode cX0_isZero 6 = .ok (.if_icmp .ge 17, 3) := by decide +kernel
theorem dX0_isZero_9 : decode cX0_isZero 9 = .ok (.aload_n 0, 1) := by decide +kernel
theorem dX0_isZero_10 : decode cX0_isZero 10 = .ok (.iload_n 3, 1) := by decide +kernel
theorem dX0_isZero_11 : decode cX0_isZero 11 = .ok (.baload, 1) := by decide +kernel
theorem dX0_isZero_12 : decode cX0_isZero 12 = .ok (.ifCond .eq 5, 3) := by decide +kernel
theorem dX0_isZero_15 : decode cX0_isZero 15 = .ok (.iconst 0, 1) := by decide +kernel
theorem dX0_isZero_16 : decode cX0_isZero 16 = .ok (.ireturn, 1) := by decide +kernel
theorem dX0_isZero_17 : decode cX0_isZero 17 = .ok (.iinc 3 1, 3) := by decide +kernel
theorem dX0_isZero_20 : decode cX0_isZero 20 = .ok (.goto (-18), 3) := by decide +kernel
theorem dX0_isZero_23 : decode cX0_isZero 23 = .ok (.iconst 1, 1) := by decide +kernel
theorem dX0_isZero_24 : decode cX0_isZero 24 = .ok (.ireturn, 1) := by decide +kernel
theorem dX0_isSame_0 : decode cX0_isSame 0 = .ok (.iconst 0, 1) := by decide +kernel
theorem dX0_isSame_1 : decode cX0_isSame 1 = .ok (.istore 4, 2) := by decide +kernel
theorem dX0_isSame_3 : decode cX0_isSame 3 = .ok (.iload 4, 2) := by decide +kernel
theorem dX0_isSame_5 : decode cX0_isSame 5 = .ok (.iload_n 3, 1) := by decide +kernel
theorem dX0_isSame_6 : decode cX0_isSame 6 = .ok (.if_icmp .ge 24, 3) := by decide +kernel
theorem dX0_isSame_9 : decode cX0_isSame 9 = .ok (.aload_n 0, 1) := by decide +kernel
theorem dX0_isSame_10 : decode cX0_isSame 10 = .ok (.iload 4, 2) := by decide +kernel
theorem dX0_isSame_12 : decode cX0_isSame 12 = .ok (.baload, 1) := by decide +kernel
theorem dX0_isSame_13 : decode cX0_isSame 13 = .ok (.aload_n 1, 1) := by decide +kernel
theorem dX0_isSame_14 : decode cX0_isSame 14 = .ok (.iload_n 2, 1) := by decide +kernel
theorem dX0_isSame_15 : decode cX0_isSame 15 = .ok (.iload 4, 2) := by decide +kernel
theorem dX0_isSame_17 : decode cX0_isSame 17 = .ok (.iadd, 1) := by decide +kernel
theorem dX0_isSame_18 : decode cX0_isSame 18 = .ok (.baload, 1) := by decide +kernel
theorem dX0_isSame_19 : decode cX0_isSame 19 = .ok (.if_icmp .eq 5, 3) := by decide +kernel
theorem dX0_isSame_22 : decode cX0_isSame 22 = .ok (.iconst 0, 1) := by decide +kernel
theorem dX0_isSame_23 : decode cX0_isSame 23 = .ok (.ireturn, 1) := by decide +kernel
theorem dX0_isSame_24 : decode cX0_isSame 24 = .ok (.iinc 4 1, 3) := by decide +kernel
theorem dX0_isSame_27 : decode cX0_isSame 27 = .ok (.goto (-24), 3) := by decide +kernel
theorem dX0_isSame_30 : decode cX0_isSame 30 = .ok (.iconst 1, 1) := by decide +kernel
theorem dX0_isSame_31 : decode cX0_isSame 31 = .ok (.ireturn, 1) := by decide +kernel
theorem dX0_close_0 : decode cX0_close 0 = .ok (.aload_n 0, 1) := by decide +kernel
theorem dX0_close_1 : decode cX0_close 1 = .ok (.iload_n 1, 1) := by decide +kernel
theorem dX0_close_2 : decode cX0_close 2 = .ok (.aload_n 0, 1) := by decide +kernel
theorem dX0_close_3 : decode cX0_close 3 = .ok (.iconst 0, 1) := by decide +kernel
theorem dX0_close_4 : decode cX0_close 4 = .ok (.iload_n 1, 1) := by decide +kernel
theorem dX0_close_5 : decode cX0_close 5 = .ok (.iload_n 2, 1) := by decide +kernel
theorem dX0_close_6 : decode cX0_close 6 = .ok (.invokestatic 23, 3) := by decide +kernel
theorem dX0_close_9 : decode cX0_close 9 = .ok (.invokestatic 27, 3) := by decide +kernel
theorem dX0_close_12 : decode cX0_close 12 = .ok (.aload_n 0, 1) := by decide +kernel
theorem dX0_close_13 : decode cX0_close 13 = .ok (.iload_n 1, 1) := by decide +kernel
theorem dX0_close_14 : decode cX0_close 14 = .ok (.bipush 8, 2) := by decide +kernel
theorem dX0_close_16 : decode cX0_close 16 = .ok (.iadd, 1) := by decide +kernel
theorem dX0_close_17 : decode cX0_close 17 = .ok (.bipush (-91), 2) := by decide +kernel
theorem dX0_close_19 : decode cX0_close 19 = .ok (.bastore, 1) := by decide +kernel
theorem dX0_close_20 : decode cX0_close 20 = .ok (.return_, 1) := by decide +kernel
theorem dX0_judge_0 : decode cX0_judge 0 = .ok (.aload_n 0, 1) := by decide +kernel
theorem dX0_judge_1 : decode cX0_judge 1 = .ok (.iload_n 1, 1) := by decide +kernel
theorem dX0_judge_2 : decode cX0_judge 2 = .ok (.iload_n 2, 1) := by decide +kernel
theorem dX0_judge_3 : decode cX0_judge 3 = .ok (.iadd, 1) := by decide +kernel
theorem dX0_judge_4 : decode cX0_judge 4 = .ok (.bipush 8, 2) := by decide +kernel
theorem dX0_judge_6 : decode cX0_judge 6 = .ok (.iadd, 1) := by decide +kernel
theorem dX0_judge_7 : decode cX0_judge 7 = .ok (.baload, 1) := by decide +kernel
theorem dX0_judge_8 : decode cX0_judge 8 = .ok (.sipush 255, 3) := by decide +kernel
theorem dX0_judge_11 : decode cX0_judge 11 = .ok (.iand, 1) := by decide +kernel
theorem dX0_judge_12 : decode cX0_judge 12 = .ok (.istore 4, 2) := by decide +kernel
theorem dX0_judge_14 : decode cX0_judge 14 = .ok (.aload_n 0, 1) := by decide +kernel
theorem dX0_judge_15 : decode cX0_judge 15 = .ok (.iload_n 1, 1) := by decide +kernel
theorem dX0_judge_16 : decode cX0_judge 16 = .ok (.iload_n 2, 1) := by decide +kernel
theorem dX0_judge_17 : decode cX0_judge 17 = .ok (.bipush 8, 2) := by decide +kernel
theorem dX0_judge_19 : decode cX0_judge 19 = .ok (.iadd, 1) := by decide +kernel
theorem dX0_judge_20 : decode cX0_judge 20 = .ok (.invokestatic 31, 3) := by decide +kernel
theorem dX0_judge_23 : decode cX0_judge 23 = .ok (.ifCond .eq 14, 3) := by decide +kernel
theorem dX0_judge_26 : decode cX0_judge 26 = .ok (.iload 4, 2) := by decide +kernel
theorem dX0_judge_28 : decode cX0_judge 28 = .ok (.ifCond .ne 7, 3) := by decide +kernel
theorem dX0_judge_31 : decode cX0_judge 31 = .ok (.iconst 1, 1) := by decide +kernel
theorem dX0_judge_32 : decode cX0_judge 32 = .ok (.goto 4, 3) := by decide +kernel
theorem dX0_judge_35 : decode cX0_judge 35 = .ok (.iconst 3, 1) := by decide +kernel
theorem dX0_judge_36 : decode cX0_judge 36 = .ok (.ireturn, 1) := by decide +kernel
theorem dX0_judge_37 : decode cX0_judge 37 = .ok (.aload_n 0, 1) := by decide +kernel
theorem dX0_judge_38 : decode cX0_judge 38 = .ok (.iload_n 1, 1) := by decide +kernel
theorem dX0_judge_39 : decode cX0_judge 39 = .ok (.iload_n 2, 1) := by decide +kernel
theorem dX0_judge_40 : decode cX0_judge 40 = .ok (.iadd, 1) := by decide +kernel
theorem dX0_judge_41 : decode cX0_judge 41 = .ok (.invokestatic 35, 3) := by decide +kernel
theorem dX0_judge_44 : decode cX0_judge 44 = .ok (.lstore 5, 2) := by decide +kernel
theorem dX0_judge_46 : decode cX0_judge 46 = .ok (.lload 5, 2) := by decide +kernel
theorem dX0_judge_48 : decode cX0_judge 48 = .ok (.lconst 0, 1) := by decide +kernel
theorem dX0_judge_49 : decode cX0_judge 49 = .ok (.lcmp, 1) := by decide +kernel
theorem dX0_judge_50 : decode cX0_judge 50 = .ok (.ifCond .ne 11, 3) := by decide +kernel
theorem dX0_judge_53 : decode cX0_judge 53 = .ok (.iload 4, 2) := by decide +kernel
theorem dX0_judge_55 : decode cX0_judge 55 = .ok (.sipush 165, 3) := by decide +kernel
theorem dX0_judge_58 : decode cX0_judge 58 = .ok (.if_icmp .ne 18, 3) := by decide +kernel
theorem dX0_judge_61 : decode cX0_judge 61 = .ok (.lload 5, 2) := by decide +kernel
theorem dX0_judge_63 : decode cX0_judge 63 = .ok (.aload_n 0, 1) := by decide +kernel
theorem dX0_judge_64 : decode cX0_judge 64 = .ok (.iload_n 1, 1) := by decide +kernel
theorem dX0_judge_65 : decode cX0_judge 65 = .ok (.iload_n 2, 1) := by decide +kernel
theorem dX0_judge_66 : decode cX0_judge 66 = .ok (.iload_n 3, 1) := by decide +kernel
theorem dX0_judge_67 : decode cX0_judge 67 = .ok (.invokestatic 23, 3) := by decide +kernel
theorem dX0_judge_70 : decode cX0_judge 70 = .ok (.lcmp, 1) := by decide +kernel
theorem dX0_judge_71 : decode cX0_judge 71 = .ok (.ifCond .ne 5, 3) := by decide +kernel
theorem dX0_judge_74 : decode cX0_judge 74 = .ok (.iconst 2, 1) := by decide +kernel
theorem dX0_judge_75 : decode cX0_judge 75 = .ok (.ireturn, 1) := by decide +kernel
theorem dX0_judge_76 : decode cX0_judge 76 = .ok (.iload 4, 2) := by decide +kernel
theorem dX0_judge_78 : decode cX0_judge 78 = .ok (.ifCond .ne 7, 3) := by decide +kernel
theorem dX0_judge_81 : decode cX0_judge 81 = .ok (.iconst 3, 1) := by decide +kernel
theorem dX0_judge_82 : decode cX0_judge 82 = .ok (.goto 4, 3) := by decide +kernel
theorem dX0_judge_85 : decode cX0_judge 85 = .ok (.iconst 4, 1) := by decide +kernel
theorem dX0_judge_86 : decode cX0_judge 86 = .ok (.ireturn, 1) := by decide +kernel
theorem dX0_mends_0 : decode cX0_mends 0 = .ok (.iconst 0, 1) := by decide +kernel
theorem dX0_mends_1 : decode cX0_mends 1 = .ok (.istore 4, 2) := by decide +kernel
theorem dX0_mends_3 : decode cX0_mends 3 = .ok (.iload_n 3, 1) := by decide +kernel
theorem dX0_mends_4 : decode cX0_mends 4 = .ok (.istore 5, 2) := by decide +kernel
theorem dX0_mends_6 : decode cX0_mends 6 = .ok (.iload 5, 2) := by decide +kernel
theorem dX0_mends_8 : decode cX0_mends 8 = .ok (.iload_n 3, 1) := by decide +kernel
theorem dX0_mends_9 : decode cX0_mends 9 = .ok (.bipush 8, 2) := by decide +kernel
theorem dX0_mends_11 : decode cX0_mends 11 = .ok (.iadd, 1) := by decide +kernel
theorem dX0_mends_12 : decode cX0_mends 12 = .ok (.if_icmp .ge 25, 3) := by decide +kernel
theorem dX0_mends_15 : decode cX0_mends 15 = .ok (.aload_n 0, 1) := by decide +kernel
theorem dX0_mends_16 : decode cX0_mends 16 = .ok (.iload 5, 2) := by decide +kernel
theorem dX0_mends_18 : decode cX0_mends 18 = .ok (.baload, 1) := by decide +kernel
theorem dX0_mends_19 : decode cX0_mends 19 = .ok (.aload_n 1, 1) := by decide +kernel
theorem dX0_mends_20 : decode cX0_mends 20 = .ok (.iload_n 2, 1) := by decide +kernel
theorem dX0_mends_21 : decode cX0_mends 21 = .ok (.iload 5, 2) := by decide +kernel
theorem dX0_mends_23 : decode cX0_mends 23 = .ok (.iadd, 1) := by decide +kernel
theorem dX0_mends_24 : decode cX0_mends 24 = .ok (.baload, 1) := by decide +kernel
theorem dX0_mends_25 : decode cX0_mends 25 = .ok (.if_icmp .eq 6, 3) := by decide +kernel
theorem dX0_mends_28 : decode cX0_mends 28 = .ok (.iinc 4 1, 3) := by decide +kernel
theorem dX0_mends_31 : decode cX0_mends 31 = .ok (.iinc 5 1, 3) := by decide +kernel
theorem dX0_mends_34 : decode cX0_mends 34 = .ok (.goto (-28), 3) := by decide +kernel
theorem dX0_mends_37 : decode cX0_mends 37 = .ok (.iload 4, 2) := by decide +kernel
theorem dX0_mends_39 : decode cX0_mends 39 = .ok (.ifCond .eq 19, 3) := by decide +kernel
theorem dX0_mends_42 : decode cX0_mends 42 = .ok (.iload 4, 2) := by decide +kernel
theorem dX0_mends_44 : decode cX0_mends 44 = .ok (.iconst 1, 1) := by decide +kernel
theorem dX0_mends_45 : decode cX0_mends 45 = .ok (.if_icmp .ne 17, 3) := by decide +kernel
theorem dX0_mends_48 : decode cX0_mends 48 = .ok (.aload_n 0, 1) := by decide +kernel
theorem dX0_mends_49 : decode cX0_mends 49 = .ok (.aload_n 1, 1) := by decide +kernel
theorem dX0_mends_50 : decode cX0_mends 50 = .ok (.iload_n 2, 1) := by decide +kernel
theorem dX0_mends_51 : decode cX0_mends 51 = .ok (.iload_n 3, 1) := by decide +kernel
theorem dX0_mends_52 : decode cX0_mends 52 = .ok (.invokestatic 39, 3) := by decide +kernel
theorem dX0_mends_55 : decode cX0_mends 55 = .ok (.ifCond .eq 7, 3) := by decide +kernel
theorem dX0_mends_58 : decode cX0_mends 58 = .ok (.iconst 1, 1) := by decide +kernel
theorem dX0_mends_59 : decode cX0_mends 59 = .ok (.goto 4, 3) := by decide +kernel
theorem dX0_mends_62 : decode cX0_mends 62 = .ok (.iconst 0, 1) := by decide +kernel
theorem dX0_mends_63 : decode cX0_mends 63 = .ok (.ireturn, 1) := by decide +kernel
