theorem dX0_addInt_0 : decode cX0_addInt 0 = .ok (.lload_n 0, 1) := by decide +kernel
theorem dX0_addInt_1 : decode cX0_addInt 1 = .ok (.lstore_n 3, 1) := by decide +kernel
theorem dX0_addInt_2 : decode cX0_addInt 2 = .ok (.bipush 24, 2) := by decide +kernel
theorem dX0_addInt_4 : decode cX0_addInt 4 = .ok (.istore 5, 2) := by decide +kernel
theorem dX0_addInt_6 : decode cX0_addInt 6 = .ok (.iload 5, 2) := by decide +kernel
theorem dX0_addInt_8 : decode cX0_addInt 8 = .ok (.ifCond .lt 18, 3) := by decide +kernel
theorem dX0_addInt_11 : decode cX0_addInt 11 = .ok (.lload_n 3, 1) := by decide +kernel
theorem dX0_addInt_12 : decode cX0_addInt 12 = .ok (.iload_n 2, 1) := by decide +kernel
theorem dX0_addInt_13 : decode cX0_addInt 13 = .ok (.iload 5, 2) := by decide +kernel
theorem dX0_addInt_15 : decode cX0_addInt 15 = .ok (.iushr, 1) := by decide +kernel
theorem dX0_addInt_16 : decode cX0_addInt 16 = .ok (.invokestatic 15, 3) := by decide +kernel
theorem dX0_addInt_19 : decode cX0_addInt 19 = .ok (.lstore_n 3, 1) := by decide +kernel
theorem dX0_addInt_20 : decode cX0_addInt 20 = .ok (.iinc 5 (-8), 3) := by decide +kernel
theorem dX0_addInt_23 : decode cX0_addInt 23 = .ok (.goto (-17), 3) := by decide +kernel
theorem dX0_addInt_26 : decode cX0_addInt 26 = .ok (.lload_n 3, 1) := by decide +kernel
theorem dX0_addInt_27 : decode cX0_addInt 27 = .ok (.lreturn, 1) := by decide +kernel
theorem dX0_addLong_0 : decode cX0_addLong 0 = .ok (.lload_n 0, 1) := by decide +kernel
theorem dX0_addLong_1 : decode cX0_addLong 1 = .ok (.lstore 4, 2) := by decide +kernel
theorem dX0_addLong_3 : decode cX0_addLong 3 = .ok (.bipush 56, 2) := by decide +kernel
theorem dX0_addLong_5 : decode cX0_addLong 5 = .ok (.istore 6, 2) := by decide +kernel
theorem dX0_addLong_7 : decode cX0_addLong 7 = .ok (.iload 6, 2) := by decide +kernel
theorem dX0_addLong_9 : decode cX0_addLong 9 = .ok (.ifCond .lt 21, 3) := by decide +kernel
theorem dX0_addLong_12 : decode cX0_addLong 12 = .ok (.lload 4, 2) := by decide +kernel
theorem dX0_addLong_14 : decode cX0_addLong 14 = .ok (.lload_n 2, 1) := by decide +kernel
theorem dX0_addLong_15 : decode cX0_addLong 15 = .ok (.iload 6, 2) := by decide +kernel
theorem dX0_addLong_17 : decode cX0_addLong 17 = .ok (.lushr, 1) := by decide +kernel
theorem dX0_addLong_18 : decode cX0_addLong 18 = .ok (.l2i, 1) := by decide +kernel
theorem dX0_addLong_19 : decode cX0_addLong 19 = .ok (.invokestatic 15, 3) := by decide +kernel
theorem dX0_addLong_22 : decode cX0_addLong 22 = .ok (.lstore 4, 2) := by decide +kernel
theorem dX0_addLong_24 : decode cX0_addLong 24 = .ok (.iinc 6 (-8), 3) := by decide +kernel
theorem dX0_addLong_27 : decode cX0_addLong 27 = .ok (.goto (-20), 3) := by decide +kernel
theorem dX0_addLong_30 : decode cX0_addLong 30 = .ok (.lload 4, 2) := by decide +kernel
theorem dX0_addLong_32 : decode cX0_addLong 32 = .ok (.lreturn, 1) := by decide +kernel
theorem dX0_intAt_0 : decode cX0_intAt 0 = .ok (.iconst 0, 1) := by decide +kernel
theorem dX0_intAt_1 : decode cX0_intAt 1 = .ok (.istore_n 2, 1) := by decide +kernel
theorem dX0_intAt_2 : decode cX0_intAt 2 = .ok (.iload_n 1, 1) := by decide +kernel
theorem dX0_intAt_3 : decode cX0_intAt 3 = .ok (.istore_n 3, 1) := by decide +kernel
theorem dX0_intAt_4 : decode cX0_intAt 4 = .ok (.iload_n 3, 1) := by decide +kernel
theorem dX0_intAt_5 : decode cX0_intAt 5 = .ok (.iload_n 1, 1) := by decide +kernel
theorem dX0_intAt_6 : decode cX0_intAt 6 = .ok (.iconst 4, 1) := by decide +kernel
theorem dX0_intAt_7 : decode cX0_intAt 7 = .ok (.iadd, 1) := by decide +kernel
theorem dX0_intAt_8 : decode cX0_intAt 8 = .ok (.if_icmp .ge 22, 3) := by decide +kernel
theorem dX0_intAt_11 : decode cX0_intAt 11 = .ok (.iload_n 2, 1) := by decide +kernel
theorem dX0_intAt_12 : decode cX0_intAt 12 = .ok (.bipush 8, 2) := by decide +kernel
theorem dX0_intAt_14 : decode cX0_intAt 14 = .ok (.ishl, 1) := by decide +kernel
theorem dX0_intAt_15 : decode cX0_intAt 15 = .ok (.aload_n 0, 1) := by decide +kernel
theorem dX0_intAt_16 : decode cX0_intAt 16 = .ok (.iload_n 3, 1) := by decide +kernel
theorem dX0_intAt_17 : decode cX0_intAt 17 = .ok (.baload, 1) := by decide +kernel
theorem dX0_intAt_18 : decode cX0_intAt 18 = .ok (.sipush 255, 3) := by decide +kernel
theorem dX0_intAt_21 : decode cX0_intAt 21 = .ok (.iand, 1) := by decide +kernel
theorem dX0_intAt_22 : decode cX0_intAt 22 = .ok (.ior, 1) := by decide +kernel
theorem dX0_intAt_23 : decode cX0_intAt 23 = .ok (.istore_n 2, 1) := by decide +kernel
theorem dX0_intAt_24 : decode cX0_intAt 24 = .ok (.iinc 3 1, 3) := by decide +kernel
theorem dX0_intAt_27 : decode cX0_intAt 27 = .ok (.goto (-23), 3) := by decide +kernel
theorem dX0_intAt_30 : decode cX0_intAt 30 = .ok (.iload_n 2, 1) := by decide +kernel
theorem dX0_intAt_31 : decode cX0_intAt 31 = .ok (.ireturn, 1) := by decide +kernel
theorem dX0_longAt_0 : decode cX0_longAt 0 = .ok (.lconst 0, 1) := by decide +kernel
theorem dX0_longAt_1 : decode cX0_longAt 1 = .ok (.lstore_n 2, 1) := by decide +kernel
theorem dX0_longAt_2 : decode cX0_longAt 2 = .ok (.iload_n 1, 1) := by decide +kernel
theorem dX0_longAt_3 : decode cX0_longAt 3 = .ok (.istore 4, 2) := by decide +kernel
theorem dX0_longAt_5 : decode cX0_longAt 5 = .ok (.iload 4, 2) := by decide +kernel
theorem dX0_longAt_7 : decode cX0_longAt 7 = .ok (.iload_n 1, 1) := by decide +kernel
theorem dX0_longAt_8 : decode cX0_longAt 8 = .ok (.bipush 8, 2) := by decide +kernel
theorem dX0_longAt_10 : decode cX0_longAt 10 = .ok (.iadd, 1) := by decide +kernel
theorem dX0_longAt_11 : decode cX0_longAt 11 = .ok (.if_icmp .ge 24, 3) := by decide +kernel
theorem dX0_longAt_14 : decode cX0_longAt 14 = .ok (.lload_n 2, 1) := by decide +kernel
theorem dX0_longAt_15 : decode cX0_longAt 15 = .ok (.bipush 8, 2) := by decide +kernel
theorem dX0_longAt_17 : decode cX0_longAt 17 = .ok (.lshl, 1) := by decide +kernel
theorem dX0_longAt_18 : decode cX0_longAt 18 = .ok (.aload_n 0, 1) := by decide +kernel
theorem dX0_longAt_19 : decode cX0_longAt 19 = .ok (.iload 4, 2) := by decide +kernel
theorem dX0_longAt_21 : decode cX0_longAt 21 = .ok (.baload, 1) := by decide +kernel
theorem dX0_longAt_22 : decode cX0_longAt 22 = .ok (.sipush 255, 3) := by decide +kernel
theorem dX0_longAt_25 : decode cX0_longAt 25 = .ok (.iand, 1) := by decide +kernel
theorem dX0_longAt_26 : decode cX0_longAt 26 = .ok (.i2l, 1) := by decide +kernel
theorem dX0_longAt_27 : decode cX0_longAt 27 = .ok (.lor, 1) := by decide +kernel
theorem dX0_longAt_28 : decode cX0_longAt 28 = .ok (.lstore_n 2, 1) := by decide +kernel
theorem dX0_longAt_29 : decode cX0_longAt 29 = .ok (.iinc 4 1, 3) := by decide +kernel
theorem dX0_longAt_32 : decode cX0_longAt 32 = .ok (.goto (-27), 3) := by decide +kernel
theorem dX0_longAt_35 : decode cX0_longAt 35 = .ok (.lload_n 2, 1) := by decide +kernel
theorem dX0_longAt_36 : decode cX0_longAt 36 = .ok (.lreturn, 1) := by decide +kernel
theorem dX0_close_0 : decode cX0_close 0 = .ok (.aload_n 0, 1) := by decide +kernel
theorem dX0_close_1 : decode cX0_close 1 = .ok (.iload_n 1, 1) := by decide +kernel
theorem dX0_close_2 : decode cX0_close 2 = .ok (.aload_n 0, 1) := by decide +kernel
theorem dX0_close_3 : decode cX0_close 3 = .ok (.iconst 0, 1) := by decide +kernel
theorem dX0_close_4 : decode cX0_close 4 = .ok (.iload_n 1, 1) := by decide +kernel
theorem dX0_close_5 : decode cX0_close 5 = .ok (.iload_n 2, 1) := by decide +kernel
theorem dX0_close_6 : decode cX0_close 6 = .ok (.invokestatic 23, 3) := by decide +kernel
theorem dX0_close_9 : decode cX0_close 9 = .ok (.invokestatic 27, 3) := by decide +kernel
theorem dX0_close_12 : decode cX0_close 12 = .ok (.aload_n 0, 1) := by decide +kernel
theorem dX0_close_13 : decode cX0_close 13 = .ok (.iload_n 1, 1) := by decide +kernel
theorem dX0_close_14 : decode cX0_close 14 = .ok (.bipush 8, 2) := by decide +kernel
theorem dX0_close_16 : decode cX0_close 16 = .ok (.iadd, 1) := by decide +kernel
theorem dX0_close_17 : decode cX0_close 17 = .ok (.bipush (-91), 2) := by decide +kernel
theorem dX0_close_19 : decode cX0_close 19 = .ok (.bastore, 1) := by decide +kernel
theorem dX0_close_20 : decode cX0_close 20 = .ok (.return_, 1) := by decide +kernel
theorem dX1_init_0 : decode cX1_init 0 = .ok (.aload_n 0, 1) := by decide +kernel
theorem dX1_init_1 : decode cX1_init 1 = .ok (.invokespecial 3, 3) := by decide +kernel
theorem dX1_init_4 : decode cX1_init 4 = .ok (.aload_n 0, 1) := by decide +kernel
theorem dX1_init_5 : decode cX1_init 5 = .ok (.iload_n 1, 1) := by decide +kernel
theorem dX1_init_6 : decode cX1_init 6 = .ok (.putfield 9, 3) := by decide +kernel
theorem dX1_init_9 : decode cX1_init 9 = .ok (.aload_n 0, 1) := by decide +kernel
theorem dX1_init_10 : decode cX1_init 10 = .ok (.sipush 8224, 3) := by decide +kernel
theorem dX1_init_13 : decode cX1_init 13 = .ok (.newarray .byte, 2) := by decide +kernel
theorem dX1_init_15 : decode cX1_init 15 = .ok (.putfield 15, 3) := by decide +kernel
theorem dX1_init_18 : decode cX1_init 18 = .ok (.aload_n 0, 1) := by decide +kernel
theorem dX1_init_19 : decode cX1_init 19 = .ok (.sipush 256, 3) := by decide +kernel
theorem dX1_init_22 : decode cX1_init 22 = .ok (.newarray .byte, 2) := by decide +kernel
theorem dX1_init_24 : decode cX1_init 24 = .ok (.putfield 19, 3) := by decide +kernel
theorem dX1_init_27 : decode cX1_init 27 = .ok (.aload_n 0, 1) := by decide +kernel
theorem dX1_init_28 : decode cX1_init 28 = .ok (.new 22, 3) := by decide +kernel
theorem dX1_init_31 : decode cX1_init 31 = .ok (.dup, 1) := by decide +kernel
theorem dX1_init_32 : decode cX1_init 32 = .ok (.invokespecial 24, 3) := by decide +kernel
theorem dX1_init_35 : decode cX1_init 35 = .ok (.putfield 25, 3) := by decide +kernel
theorem dX1_init_38 : decode cX1_init 38 = .ok (.aload_n 0, 1) := by decide +kernel
theorem dX1_init_39 : decode cX1_init 39 = .ok (.iconst 1, 1) := by decide +kernel
theorem dX1_init_40 : decode cX1_init 40 = .ok (.putfield 29, 3) := by decide +kernel
theorem dX1_init_43 : decode cX1_init 43 = .ok (.aload_n 0, 1) := by decide +kernel
theorem dX1_init_44 : decode cX1_init 44 = .ok (.iconst (-1), 1) := by decide +kernel
theorem dX1_init_45 : decode cX1_init 45 = .ok (.putfield 33, 3) := by decide +kernel
theorem dX1_init_48 : decode cX1_init 48 = .ok (.aload_n 0, 1) := by decide +kernel
theorem dX1_init_49 : decode cX1_init 49 = .ok (.iconst 0, 1) := by decide +kernel
theorem dX1_init_50 : decode cX1_init 50 = .ok (.putfield 36, 3) := by decide +kernel
theorem dX1_init_53 : decode cX1_init 53 = .ok (.return_, 1) := by decide +kernel
theorem dX1_read_0 : decode cX1_read 0 = .ok (.iload_n 1, 1) := by decide +kernel
theorem dX1_read_1 : decode cX1_read 1 = .ok (.sipush 8224, 3) := by decide +kernel
theorem dX1_read_4 : decode cX1_read 4 = .ok (.if_icmp .ge 14, 3) := by decide +kernel
theorem dX1_read_7 : decode cX1_read 7 = .ok (.aload_n 0, 1) := by decide +kernel
theorem dX1_read_8 : decode cX1_read 8 = .ok (.getfield 15, 3) := by decide +kernel
theorem dX1_read_11 : decode cX1_read 11 = .ok (.iload_n 1, 1) := by decide +kernel
theorem dX1_read_12 : decode cX1_read 12 = .ok (.baload, 1) := by decide +kernel
theorem dX1_read_13 : decode cX1_read 13 = .ok (.sipush 255, 3) := by decide +kernel
theorem dX1_read_16 : decode cX1_read 16 = .ok (.iand, 1) := by decide +kernel
theorem dX1_read_17 : decode cX1_read 17 = .ok (.ireturn, 1) := by decide +kernel
theorem dX1_read_18 : decode cX1_read 18 = .ok (.aload_n 0, 1) := by decide +kernel
theorem dX1_read_19 : decode cX1_read 19 = .ok (.iload_n 1, 1) := by decide +kernel
theorem dX1_read_20 : decode cX1_read 20 = .ok (.sipush 8224, 3) := by decide +kernel
theorem dX1_read_23 : decode cX1_read 23 = .ok (.isub, 1) := by decide +kernel
theorem dX1_read_24 : decode cX1_read 24 = .ok (.bipush 26, 2) := by decide +kernel
theorem dX1_read_26 : decode cX1_read 26 = .ok (.idiv, 1) := by decide +kernel
theorem dX1_read_27 : decode cX1_read 27 = .ok (.invokevirtual 39, 3) := by decide +kernel
theorem dX1_read_30 : decode cX1_read 30 = .ok (.astore_n 2, 1) := by decide +kernel
theorem dX1_read_31 : decode cX1_read 31 = .ok (.aload_n 2, 1) := by decide +kernel
theorem dX1_read_32 : decode cX1_read 32 = .ok (.ifnonnull 7, 3) := by decide +kernel
theorem dX1_read_35 : decode cX1_read 35 = .ok (.iconst 0, 1) := by decide +kernel
theorem dX1_read_36 : decode cX1_read 36 = .ok (.goto 20, 3) := by decide +kernel
theorem dX1_read_56 : decode cX1_read 56 = .ok (.ireturn, 1) := by decide +kernel
theorem dX1_setLow_0 : decode cX1_setLow 0 = .ok (.aload_n 0, 1) := by decide +kernel
theorem dX1_setLow_1 : decode cX1_setLow 1 = .ok (.getfield 15, 3) := by decide +kernel
theorem dX1_setLow_4 : decode cX1_setLow 4 = .ok (.iload_n 1, 1) := by decide +kernel
theorem dX1_setLow_5 : decode cX1_setLow 5 = .ok (.iload_n 2, 1) := by decide +kernel
theorem dX1_setLow_6 : decode cX1_setLow 6 = .ok (.i2b, 1) := by decide +kernel
theorem dX1_setLow_7 : decode cX1_setLow 7 = .ok (.bastore, 1) := by decide +kernel
theorem dX1_setLow_8 : decode cX1_setLow 8 = .ok (.iload_n 1, 1) := by decide +kernel
theorem dX1_setLow_9 : decode cX1_setLow 9 = .ok (.bipush 32, 2) := by decide +kernel
theorem dX1_setLow_11 : decode cX1_setLow 11 = .ok (.if_icmp .lt 16, 3) := by decide +kernel
theorem dX1_setLow_14 : decode cX1_setLow 14 = .ok (.aload_n 0, 1) := by decide +kernel
theorem dX1_setLow_15 : decode cX1_setLow 15 = .ok (.getfield 19, 3) := by decide +kernel
theorem dX1_setLow_18 : decode cX1_setLow 18 = .ok (.iload_n 1, 1) := by decide +kernel
theorem dX1_setLow_19 : decode cX1_setLow 19 = .ok (.bipush 32, 2) := by decide +kernel
theorem dX1_setLow_21 : decode cX1_setLow 21 = .ok (.isub, 1) := by decide +kernel
theorem dX1_setLow_22 : decode cX1_setLow 22 = .ok (.bipush 32, 2) := by decide +kernel
theorem dX1_setLow_24 : decode cX1_setLow 24 = .ok (.idiv, 1) := by decide +kernel
theorem dX1_setLow_25 : decode cX1_setLow 25 = .ok (.iconst 0, 1) := by decide +kernel
theorem dX1_setLow_26 : decode cX1_setLow 26 = .ok (.bastore, 1) := by decide +kernel
theorem dX1_setLow_27 : decode cX1_setLow 27 = .ok (.return_, 1) := by decide +kernel
theorem dX1_act_0 : decode cX1_act 0 = .ok (.aload_n 0, 1) := by decide +kernel
theorem dX1_act_1 : decode cX1_act 1 = .ok (.getfield 29, 3) := by decide +kernel
theorem dX1_act_4 : decode cX1_act 4 = .ok (.ifCond .ne 5, 3) := by decide +kernel
theorem dX1_act_9 : decode cX1_act 9 = .ok (.aload_n 0, 1) := by decide +kernel
theorem dX1_act_10 : decode cX1_act 10 = .ok (.getfield 33, 3) := by decide +kernel
theorem dX1_act_13 : decode cX1_act 13 = .ok (.ifCond .ne 15, 3) := by decide +kernel
theorem dX1_act_28 : decode cX1_act 28 = .ok (.aload_n 0, 1) := by decide +kernel
theorem dX1_act_29 : decode cX1_act 29 = .ok (.getfield 33, 3) := by decide +kernel
theorem dX1_act_32 : decode cX1_act 32 = .ok (.ifCond .le 13, 3) := by decide +kernel
theorem dX1_act_45 : decode cX1_act 45 = .ok (.aload_n 0, 1) := by decide +kernel
theorem dX1_act_46 : decode cX1_act 46 = .ok (.dup, 1) := by decide +kernel
theorem dX1_act_47 : decode cX1_act 47 = .ok (.getfield 36, 3) := by decide +kernel
theorem dX1_act_50 : decode cX1_act 50 = .ok (.iconst 1, 1) := by decide +kernel
theorem dX1_act_51 : decode cX1_act 51 = .ok (.iadd, 1) := by decide +kernel
theorem dX1_act_52 : decode cX1_act 52 = .ok (.putfield 36, 3) := by decide +kernel
theorem dX1_act_55 : decode cX1_act 55 = .ok (.iconst 1, 1) := by decide +kernel
theorem dX1_act_56 : decode cX1_act 56 = .ok (.ireturn, 1) := by decide +kernel
theorem dX1_writeLow_0 : decode cX1_writeLow 0 = .ok (.iconst 0, 1) := by decide +kernel
theorem dX1_writeLow_1 : decode cX1_writeLow 1 = .ok (.istore 4, 2) := by decide +kernel
theorem dX1_writeLow_3 : decode cX1_writeLow 3 = .ok (.iload 4, 2) := by decide +kernel
theorem dX1_writeLow_5 : decode cX1_writeLow 5 = .ok (.iload_n 3, 1) := by decide +kernel
theorem dX1_writeLow_6 : decode cX1_writeLow 6 = .ok (.if_icmp .ge 30, 3) := by decide +kernel
theorem dX1_writeLow_9 : decode cX1_writeLow 9 = .ok (.aload_n 0, 1) := by decide +kernel
theorem dX1_writeLow_10 : decode cX1_writeLow 10 = .ok (.invokevirtual 58, 3) := by decide +kernel
theorem dX1_writeLow_13 : decode cX1_writeLow 13 = .ok (.ifCond .ne 5, 3) := by decide +kernel
theorem dX1_writeLow_18 : decode cX1_writeLow 18 = .ok (.aload_n 0, 1) := by decide +kernel
theorem dX1_writeLow_19 : decode cX1_writeLow 19 = .ok (.iload_n 1, 1) := by decide +kernel
theorem dX1_writeLow_20 : decode cX1_writeLow 20 = .ok (.iload 4, 2) := by decide +kernel
theorem dX1_writeLow_22 : decode cX1_writeLow 22 = .ok (.iadd, 1) := by decide +kernel
theorem dX1_writeLow_23 : decode cX1_writeLow 23 = .ok (.aload_n 2, 1) := by decide +kernel
theorem dX1_writeLow_24 : decode cX1_writeLow 24 = .ok (.iload 4, 2) := by decide +kernel
theorem dX1_writeLow_26 : decode cX1_writeLow 26 = .ok (.baload, 1) := by decide +kernel
theorem dX1_writeLow_27 : decode cX1_writeLow 27 = .ok (.invokevirtual 48, 3) := by decide +kernel
theorem dX1_writeLow_30 : decode cX1_writeLow 30 = .ok (.iinc 4 1, 3) := by decide +kernel
theorem dX1_writeLow_33 : decode cX1_writeLow 33 = .ok (.goto (-30), 3) := by decide +kernel
theorem dX1_writeLow_36 : decode cX1_writeLow 36 = .ok (.iconst 1, 1) := by decide +kernel
theorem dX1_writeLow_37 : decode cX1_writeLow 37 = .ok (.ireturn, 1) := by decide +kernel
theorem dX1_position_0 : decode cX1_position 0 = .ok (.iconst 0, 1) := by decide +kernel
theorem dX1_position_1 : decode cX1_position 1 = .ok (.istore_n 2, 1) := by decide +kernel
theorem dX1_position_2 : decode cX1_position 2 = .ok (.aload_n 0, 1) := by decide +kernel
theorem dX1_position_3 : decode cX1_position 3 = .ok (.getfield 25, 3) := by decide +kernel
theorem dX1_position_6 : decode cX1_position 6 = .ok (.invokevirtual 68, 3) := by decide +kernel
theorem dX1_position_9 : decode cX1_position 9 = .ok (.istore_n 3, 1) := by decide +kernel
theorem dX1_position_10 : decode cX1_position 10 = .ok (.iconst 0, 1) := by decide +kernel
theorem dX1_position_11 : decode cX1_position 11 = .ok (.istore 4, 2) := by decide +kernel
theorem dX1_position_13 : decode cX1_position 13 = .ok (.iload 4, 2) := by decide +kernel
theorem dX1_position_15 : decode cX1_position 15 = .ok (.bipush 32, 2) := by decide +kernel
theorem dX1_position_17 : decode cX1_position 17 = .ok (.if_icmp .ge 51, 3) := by decide +kernel
theorem dX1_position_20 : decode cX1_position 20 = .ok (.iload_n 2, 1) := by decide +kernel
theorem dX1_position_21 : decode cX1_position 21 = .ok (.iload_n 3, 1) := by decide +kernel
theorem dX1_position_22 : decode cX1_position 22 = .ok (.if_icmp .ge 46, 3) := by decide +kernel
theorem dX1_position_68 : decode cX1_position 68 = .ok (.iload_n 2, 1) := by decide +kernel
theorem dX1_position_69 : decode cX1_position 69 = .ok (.ireturn, 1) := by decide +kernel
theorem dX1_find_0 : decode cX1_find 0 = .ok (.aload_n 0, 1) := by decide +kernel
theorem dX1_find_1 : decode cX1_find 1 = .ok (.iload_n 1, 1) := by decide +kernel
theorem dX1_find_2 : decode cX1_find 2 = .ok (.invokevirtual 79, 3) := by decide +kernel
theorem dX1_find_5 : decode cX1_find 5 = .ok (.istore_n 2, 1) := by decide +kernel
theorem dX1_find_6 : decode cX1_find 6 = .ok (.iload_n 2, 1) := by decide +kernel
theorem dX1_find_7 : decode cX1_find 7 = .ok (.aload_n 0, 1) := by decide +kernel
theorem dX1_find_8 : decode cX1_find 8 = .ok (.getfield 25, 3) := by decide +kernel
theorem dX1_find_11 : decode cX1_find 11 = .ok (.invokevirtual 68, 3) := by decide +kernel
theorem dX1_find_14 : decode cX1_find 14 = .ok (.if_icmp .ge 35, 3) := by decide +kernel
theorem dX1_find_49 : decode cX1_find 49 = .ok (.aconst_null, 1) := by decide +kernel
theorem dX1_find_50 : decode cX1_find 50 = .ok (.areturn, 1) := by decide +kernel
theorem dX1_rightPage_0 : decode cX1_rightPage 0 = .ok (.aload_n 0, 1) := by decide +kernel
theorem dX1_rightPage_1 : decode cX1_rightPage 1 = .ok (.iload_n 1, 1) := by decide +kernel
theorem dX1_rightPage_2 : decode cX1_rightPage 2 = .ok (.invokevirtual 39, 3) := by decide +kernel
theorem dX1_rightPage_5 : decode cX1_rightPage 5 = .ok (.astore_n 2, 1) := by decide +kernel
theorem dX1_rightPage_6 : decode cX1_rightPage 6 = .ok (.aload_n 2, 1) := by decide +kernel
theorem dX1_rightPage_7 : decode cX1_rightPage 7 = .ok (.ifnull 15, 3) := by decide +kernel
theorem dX1_rightPage_22 : decode cX1_rightPage 22 = .ok (.aconst_null, 1) := by decide +kernel
theorem dX1_rightPage_23 : decode cX1_rightPage 23 = .ok (.areturn, 1) := by decide +kernel
theorem dX1_pageOf_0 : decode cX1_pageOf 0 = .ok (.iconst 0, 1) := by decide +kernel
theorem dX1_pageOf_1 : decode cX1_pageOf 1 = .ok (.istore_n 3, 1) := by decide +kernel
theorem dX1_pageOf_2 : decode cX1_pageOf 2 = .ok (.iload_n 3, 1) := by decide +kernel
theorem dX1_pageOf_3 : decode cX1_pageOf 3 = .ok (.aload_n 0, 1) := by decide +kernel
theorem dX1_pageOf_4 : decode cX1_pageOf 4 = .ok (.getfield 25, 3) := by decide +kernel
theorem dX1_pageOf_7 : decode cX1_pageOf 7 = .ok (.invokevirtual 68, 3) := by decide +kernel
theorem dX1_pageOf_10 : decode cX1_pageOf 10 = .ok (.if_icmp .ge 44, 3) := by decide +kernel
theorem dX1_pageOf_54 : decode cX1_pageOf 54 = .ok (.aconst_null, 1) := by decide +kernel
theorem dX1_pageOf_55 : decode cX1_pageOf 55 = .ok (.areturn, 1) := by decide +kernel
theorem dX1_countPages_0 : decode cX1_countPages 0 = .ok (.iconst 0, 1) := by decide +kernel
theorem dX1_countPages_1 : decode cX1_countPages 1 = .ok (.istore_n 2, 1) := by decide +kernel
theorem dX1_countPages_2 : decode cX1_countPages 2 = .ok (.iconst 0, 1) := by decide +kernel
theorem dX1_countPages_3 : decode cX1_countPages 3 = .ok (.istore_n 3, 1) := by decide +kernel
theorem dX1_countPages_4 : decode cX1_countPages 4 = .ok (.iload_n 3, 1) := by decide +kernel
theorem dX1_countPages_5 : decode cX1_countPages 5 = .ok (.aload_n 0, 1) := by decide +kernel
theorem dX1_countPages_6 : decode cX1_countPages 6 = .ok (.getfield 25, 3) := by decide +kernel
theorem dX1_countPages_9 : decode cX1_countPages 9 = .ok (.invokevirtual 68, 3) := by decide +kernel
theorem dX1_countPages_12 : decode cX1_countPages 12 = .ok (.if_icmp .ge 30, 3) := by decide +kernel
theorem dX1_countPages_42 : decode cX1_countPages 42 = .ok (.iload_n 2, 1) := by decide +kernel
theorem dX1_countPages_43 : decode cX1_countPages 43 = .ok (.ireturn, 1) := by decide +kernel
theorem dX1_freePages_0 : decode cX1_freePages 0 = .ok (.aload_n 0, 1) := by decide +kernel
theorem dX1_freePages_1 : decode cX1_freePages 1 = .ok (.getfield 9, 3) := by decide +kernel
theorem dX1_freePages_4 : decode cX1_freePages 4 = .ok (.aload_n 0, 1) := by decide +kernel
theorem dX1_freePages_5 : decode cX1_freePages 5 = .ok (.getfield 25, 3) := by decide +kernel
theorem dX1_freePages_8 : decode cX1_freePages 8 = .ok (.invokevirtual 68, 3) := by decide +kernel
theorem dX1_freePages_11 : decode cX1_freePages 11 = .ok (.isub, 1) := by decide +kernel
theorem dX1_freePages_12 : decode cX1_freePages 12 = .ok (.aload_n 0, 1) := by decide +kernel
theorem dX1_freePages_13 : decode cX1_freePages 13 = .ok (.iconst 1, 1) := by decide +kernel
theorem dX1_freePages_14 : decode cX1_freePages 14 = .ok (.invokevirtual 101, 3) := by decide +kernel
theorem dX1_freePages_17 : decode cX1_freePages 17 = .ok (.iadd, 1) := by decide +kernel
theorem dX1_freePages_18 : decode cX1_freePages 18 = .ok (.ireturn, 1) := by decide +kernel
theorem dX1_badPages_0 : decode cX1_badPages 0 = .ok (.aload_n 0, 1) := by decide +kernel
theorem dX1_badPages_1 : decode cX1_badPages 1 = .ok (.iconst 4, 1) := by decide +kernel
theorem dX1_badPages_2 : decode cX1_badPages 2 = .ok (.invokevirtual 101, 3) := by decide +kernel
theorem dX1_badPages_5 : decode cX1_badPages 5 = .ok (.ireturn, 1) := by decide +kernel
theorem dX1_badPage_0 : decode cX1_badPage 0 = .ok (.iconst 0, 1) := by decide +kernel
theorem dX1_badPage_1 : decode cX1_badPage 1 = .ok (.istore_n 2, 1) := by decide +kernel
theorem dX1_badPage_2 : decode cX1_badPage 2 = .ok (.iconst 0, 1) := by decide +kernel
theorem dX1_badPage_3 : decode cX1_badPage 3 = .ok (.istore_n 3, 1) := by decide +kernel
theorem dX1_badPage_4 : decode cX1_badPage 4 = .ok (.iload_n 3, 1) := by decide +kernel
theorem dX1_badPage_5 : decode cX1_badPage 5 = .ok (.aload_n 0, 1) := by decide +kernel
theorem dX1_badPage_6 : decode cX1_badPage 6 = .ok (.getfield 25, 3) := by decide +kernel
theorem dX1_badPage_9 : decode cX1_badPage 9 = .ok (.invokevirtual 68, 3) := by decide +kernel
theorem dX1_badPage_12 : decode cX1_badPage 12 = .ok (.if_icmp .ge 42, 3) := by decide +kernel
theorem dX1_badPage_54 : decode cX1_badPage 54 = .ok (.aconst_null, 1) := by decide +kernel
theorem dX1_badPage_55 : decode cX1_badPage 55 = .ok (.areturn, 1) := by decide +kernel
theorem dX3_init_0 : decode cX3_init 0 = .ok (.aload_n 0, 1) := by decide +kernel
theorem dX3_init_1 : decode cX3_init 1 = .ok (.invokespecial 3, 3) := by decide +kernel
theorem dX3_init_4 : decode cX3_init 4 = .ok (.aload_n 0, 1) := by decide +kernel
theorem dX3_init_5 : decode cX3_init 5 = .ok (.aload_n 1, 1) := by decide +kernel
theorem dX3_init_6 : decode cX3_init 6 = .ok (.putfield 9, 3) := by decide +kernel
theorem dX3_init_9 : decode cX3_init 9 = .ok (.aload_n 0, 1) := by decide +kernel
theorem dX3_init_10 : decode cX3_init 10 = .ok (.aload_n 2, 1) := by decide +kernel
theorem dX3_init_11 : decode cX3_init 11 = .ok (.putfield 15, 3) := by decide +kernel
theorem dX3_init_14 : decode cX3_init 14 = .ok (.aload_n 0, 1) := by decide +kernel
theorem dX3_init_15 : decode cX3_init 15 = .ok (.aload_n 3, 1) := by decide +kernel
theorem dX3_init_16 : decode cX3_init 16 = .ok (.putfield 19, 3) := by decide +kernel
theorem dX3_init_19 : decode cX3_init 19 = .ok (.aload_n 0, 1) := by decide +kernel
theorem dX3_init_20 : decode cX3_init 20 = .ok (.sipush 128, 3) := by decide +kernel
theorem dX3_init_23 : decode cX3_init 23 = .ok (.newarray .boolean, 2) := by decide +kernel
theorem dX3_init_25 : decode cX3_init 25 = .ok (.putfield 23, 3) := by decide +kernel
theorem dX3_init_28 : decode cX3_init 28 = .ok (.return_, 1) := by decide +kernel
theorem dX4_place_0 : decode cX4_place 0 = .ok (.bipush 32, 2) := by decide +kernel
theorem dX4_place_2 : decode cX4_place 2 = .ok (.sipush 4096, 3) := by decide +kernel
theorem dX4_place_5 : decode cX4_place 5 = .ok (.aload_n 0, 1) := by decide +kernel
theorem dX4_place_6 : decode cX4_place 6 = .ok (.getfield 19, 3) := by decide +kernel
theorem dX4_place_9 : decode cX4_place 9 = .ok (.imul, 1) := by decide +kernel
theorem dX4_place_10 : decode cX4_place 10 = .ok (.iadd, 1) := by decide +kernel
theorem dX4_place_11 : decode cX4_place 11 = .ok (.bipush 32, 2) := by decide +kernel
theorem dX4_place_13 : decode cX4_place 13 = .ok (.iload_n 1, 1) := by decide +kernel
theorem dX4_place_14 : decode cX4_place 14 = .ok (.imul, 1) := by decide +kernel
theorem dX4_place_15 : decode cX4_place 15 = .ok (.iadd, 1) := by decide +kernel
theorem dX4_place_16 : decode cX4_place 16 = .ok (.ireturn, 1) := by decide +kernel
theorem dX4_kind_0 : decode cX4_kind 0 = .ok (.aload_n 0, 1) := by decide +kernel
theorem dX4_kind_1 : decode cX4_kind 1 = .ok (.getfield 9, 3) := by decide +kernel
theorem dX4_kind_4 : decode cX4_kind 4 = .ok (.getfield 36, 3) := by decide +kernel
theorem dX4_kind_7 : decode cX4_kind 7 = .ok (.aload_n 0, 1) := by decide +kernel
theorem dX4_kind_8 : decode cX4_kind 8 = .ok (.iload_n 1, 1) := by decide +kernel
theorem dX4_kind_9 : decode cX4_kind 9 = .ok (.invokevirtual 47, 3) := by decide +kernel
theorem dX4_kind_12 : decode cX4_kind 12 = .ok (.baload, 1) := by decide +kernel
theorem dX4_kind_13 : decode cX4_kind 13 = .ok (.sipush 255, 3) := by decide +kernel
theorem dX4_kind_16 : decode cX4_kind 16 = .ok (.iand, 1) := by decide +kernel
theorem dX4_kind_17 : decode cX4_kind 17 = .ok (.ireturn, 1) := by decide +kernel
theorem dX4_a_0 : decode cX4_a 0 = .ok (.aload_n 0, 1) := by decide +kernel
theorem dX4_a_1 : decode cX4_a 1 = .ok (.getfield 9, 3) := by decide +kernel
theorem dX4_a_4 : decode cX4_a 4 = .ok (.getfield 36, 3) := by decide +kernel
theorem dX4_a_7 : decode cX4_a 7 = .ok (.aload_n 0, 1) := by decide +kernel
theorem dX4_a_8 : decode cX4_a 8 = .ok (.iload_n 1, 1) := by decide +kernel
theorem dX4_a_9 : decode cX4_a 9 = .ok (.invokevirtual 47, 3) := by decide +kernel
theorem dX4_a_12 : decode cX4_a 12 = .ok (.iconst 1, 1) := by decide +kernel
theorem dX4_a_13 : decode cX4_a 13 = .ok (.iadd, 1) := by decide +kernel
theorem dX4_a_14 : decode cX4_a 14 = .ok (.invokestatic 51, 3) := by decide +kernel
theorem dX4_a_17 : decode cX4_a 17 = .ok (.ireturn, 1) := by decide +kernel
theorem dX4_b_0 : decode cX4_b 0 = .ok (.aload_n 0, 1) := by decide +kernel
theorem dX4_b_1 : decode cX4_b 1 = .ok (.getfield 9, 3) := by decide +kernel
theorem dX4_b_4 : decode cX4_b 4 = .ok (.getfield 36, 3) := by decide +kernel
theorem dX4_b_7 : decode cX4_b 7 = .ok (.aload_n 0, 1) := by decide +kernel
theorem dX4_b_8 : decode cX4_b 8 = .ok (.iload_n 1, 1) := by decide +kernel
theorem dX4_b_9 : decode cX4_b 9 = .ok (.invokevirtual 47, 3) := by decide +kernel
theorem dX4_b_12 : decode cX4_b 12 = .ok (.iconst 5, 1) := by decide +kernel
theorem dX4_b_13 : decode cX4_b 13 = .ok (.iadd, 1) := by decide +kernel
theorem dX4_b_14 : decode cX4_b 14 = .ok (.invokestatic 51, 3) := by decide +kernel
theorem dX4_b_17 : decode cX4_b 17 = .ok (.ireturn, 1) := by decide +kernel
theorem dX4_c_0 : decode cX4_c 0 = .ok (.aload_n 0, 1) := by decide +kernel
theorem dX4_c_1 : decode cX4_c 1 = .ok (.getfield 9, 3) := by decide +kernel
theorem dX4_c_4 : decode cX4_c 4 = .ok (.getfield 36, 3) := by decide +kernel
theorem dX4_c_7 : decode cX4_c 7 = .ok (.aload_n 0, 1) := by decide +kernel
theorem dX4_c_8 : decode cX4_c 8 = .ok (.iload_n 1, 1) := by decide +kernel
theorem dX4_c_9 : decode cX4_c 9 = .ok (.invokevirtual 47, 3) := by decide +kernel
theorem dX4_c_12 : decode cX4_c 12 = .ok (.bipush 9, 2) := by decide +kernel
theorem dX4_c_14 : decode cX4_c 14 = .ok (.iadd, 1) := by decide +kernel
theorem dX4_c_15 : decode cX4_c 15 = .ok (.invokestatic 57, 3) := by decide +kernel
theorem dX4_c_18 : decode cX4_c 18 = .ok (.lreturn, 1) := by decide +kernel
theorem dX4_inNeed_0 : decode cX4_inNeed 0 = .ok (.aload_n 0, 1) := by decide +kernel
theorem dX4_inNeed_1 : decode cX4_inNeed 1 = .ok (.getfield 29, 3) := by decide +kernel
theorem dX4_inNeed_4 : decode cX4_inNeed 4 = .ok (.ifCond .le 7, 3) := by decide +kernel
theorem dX4_inNeed_11 : decode cX4_inNeed 11 = .ok (.iconst 0, 1) := by decide +kernel
theorem dX4_inNeed_12 : decode cX4_inNeed 12 = .ok (.ireturn, 1) := by decide +kernel
theorem dX4_draw_0 : decode cX4_draw 0 = .ok (.iconst 0, 1) := by decide +kernel
theorem dX4_draw_1 : decode cX4_draw 1 = .ok (.istore 6, 2) := by decide +kernel
theorem dX4_draw_3 : decode cX4_draw 3 = .ok (.iload 6, 2) := by decide +kernel
theorem dX4_draw_5 : decode cX4_draw 5 = .ok (.bipush 23, 2) := by decide +kernel
theorem dX4_draw_7 : decode cX4_draw 7 = .ok (.if_icmp .ge 17, 3) := by decide +kernel
theorem dX4_draw_10 : decode cX4_draw 10 = .ok (.aload_n 0, 1) := by decide +kernel
theorem dX4_draw_11 : decode cX4_draw 11 = .ok (.getfield 15, 3) := by decide +kernel
theorem dX4_draw_14 : decode cX4_draw 14 = .ok (.iload 6, 2) := by decide +kernel
theorem dX4_draw_16 : decode cX4_draw 16 = .ok (.iconst 0, 1) := by decide +kernel
theorem dX4_draw_17 : decode cX4_draw 17 = .ok (.bastore, 1) := by decide +kernel
theorem dX4_draw_18 : decode cX4_draw 18 = .ok (.iinc 6 1, 3) := by decide +kernel
theorem dX4_draw_21 : decode cX4_draw 21 = .ok (.goto (-18), 3) := by decide +kernel
theorem dX4_draw_24 : decode cX4_draw 24 = .ok (.aload_n 0, 1) := by decide +kernel
theorem dX4_draw_25 : decode cX4_draw 25 = .ok (.getfield 15, 3) := by decide +kernel
theorem dX4_draw_28 : decode cX4_draw 28 = .ok (.iconst 0, 1) := by decide +kernel
theorem dX4_draw_29 : decode cX4_draw 29 = .ok (.iload_n 1, 1) := by decide +kernel
theorem dX4_draw_30 : decode cX4_draw 30 = .ok (.i2b, 1) := by decide +kernel
theorem dX4_draw_31 : decode cX4_draw 31 = .ok (.bastore, 1) := by decide +kernel
theorem dX4_draw_32 : decode cX4_draw 32 = .ok (.aload_n 0, 1) := by decide +kernel
theorem dX4_draw_33 : decode cX4_draw 33 = .ok (.getfield 15, 3) := by decide +kernel
theorem dX4_draw_36 : decode cX4_draw 36 = .ok (.iconst 1, 1) := by decide +kernel
theorem dX4_draw_37 : decode cX4_draw 37 = .ok (.iload_n 2, 1) := by decide +kernel
theorem dX4_draw_38 : decode cX4_draw 38 = .ok (.invokestatic 65, 3) := by decide +kernel
theorem dX4_draw_41 : decode cX4_draw 41 = .ok (.aload_n 0, 1) := by decide +kernel
theorem dX4_draw_42 : decode cX4_draw 42 = .ok (.getfield 15, 3) := by decide +kernel
theorem dX4_draw_45 : decode cX4_draw 45 = .ok (.iconst 5, 1) := by decide +kernel
theorem dX4_draw_46 : decode cX4_draw 46 = .ok (.iload_n 3, 1) := by decide +kernel
theorem dX4_draw_47 : decode cX4_draw 47 = .ok (.invokestatic 65, 3) := by decide +kernel
theorem dX4_draw_50 : decode cX4_draw 50 = .ok (.aload_n 0, 1) := by decide +kernel
theorem dX4_draw_51 : decode cX4_draw 51 = .ok (.getfield 15, 3) := by decide +kernel
theorem dX4_draw_54 : decode cX4_draw 54 = .ok (.bipush 9, 2) := by decide +kernel
theorem dX4_draw_56 : decode cX4_draw 56 = .ok (.lload 4, 2) := by decide +kernel
theorem dX4_draw_58 : decode cX4_draw 58 = .ok (.invokestatic 69, 3) := by decide +kernel
theorem dX4_draw_61 : decode cX4_draw 61 = .ok (.aload_n 0, 1) := by decide +kernel
theorem dX4_draw_62 : decode cX4_draw 62 = .ok (.getfield 15, 3) := by decide +kernel
theorem dX4_draw_65 : decode cX4_draw 65 = .ok (.bipush 23, 2) := by decide +kernel
theorem dX4_draw_67 : decode cX4_draw 67 = .ok (.iconst 2, 1) := by decide +kernel
theorem dX4_draw_68 : decode cX4_draw 68 = .ok (.invokestatic 73, 3) := by decide +kernel
theorem dX4_draw_71 : decode cX4_draw 71 = .ok (.return_, 1) := by decide +kernel
theorem dX4_writeImage_0 : decode cX4_writeImage 0 = .ok (.aload_n 0, 1) := by decide +kernel
theorem dX4_writeImage_1 : decode cX4_writeImage 1 = .ok (.getfield 9, 3) := by decide +kernel
theorem dX4_writeImage_4 : decode cX4_writeImage 4 = .ok (.bipush 32, 2) := by decide +kernel
theorem dX4_writeImage_6 : decode cX4_writeImage 6 = .ok (.sipush 4096, 3) := by decide +kernel
theorem dX4_writeImage_9 : decode cX4_writeImage 9 = .ok (.iload_n 1, 1) := by decide +kernel
theorem dX4_writeImage_10 : decode cX4_writeImage 10 = .ok (.imul, 1) := by decide +kernel
theorem dX4_writeImage_11 : decode cX4_writeImage 11 = .ok (.iadd, 1) := by decide +kernel
theorem dX4_writeImage_12 : decode cX4_writeImage 12 = .ok (.bipush 32, 2) := by decide +kernel
theorem dX4_writeImage_14 : decode cX4_writeImage 14 = .ok (.iload_n 2, 1) := by decide +kernel
theorem dX4_writeImage_15 : decode cX4_writeImage 15 = .ok (.imul, 1) := by decide +kernel
theorem dX4_writeImage_16 : decode cX4_writeImage 16 = .ok (.iadd, 1) := by decide +kernel
theorem dX4_writeImage_17 : decode cX4_writeImage 17 = .ok (.aload_n 0, 1) := by decide +kernel
theorem dX4_writeImage_18 : decode cX4_writeImage 18 = .ok (.getfield 15, 3) := by decide +kernel
theorem dX4_writeImage_21 : decode cX4_writeImage 21 = .ok (.bipush 32, 2) := by decide +kernel
theorem dX4_writeImage_23 : decode cX4_writeImage 23 = .ok (.invokevirtual 80, 3) := by decide +kernel
theorem dX4_writeImage_26 : decode cX4_writeImage 26 = .ok (.ireturn, 1) := by decide +kernel
theorem dX4_write_0 : decode cX4_write 0 = .ok (.aload_n 0, 1) := by decide +kernel
theorem dX4_write_1 : decode cX4_write 1 = .ok (.iload_n 1, 1) := by decide +kernel
theorem dX4_write_2 : decode cX4_write 2 = .ok (.iload_n 2, 1) := by decide +kernel
theorem dX4_write_3 : decode cX4_write 3 = .ok (.iload_n 3, 1) := by decide +kernel
theorem dX4_write_4 : decode cX4_write 4 = .ok (.lload 4, 2) := by decide +kernel
theorem dX4_write_6 : decode cX4_write 6 = .ok (.invokevirtual 84, 3) := by decide +kernel
theorem dX4_write_9 : decode cX4_write 9 = .ok (.aload_n 0, 1) := by decide +kernel
theorem dX4_write_10 : decode cX4_write 10 = .ok (.getfield 26, 3) := by decide +kernel
theorem dX4_write_13 : decode cX4_write 13 = .ok (.sipush 128, 3) := by decide +kernel
theorem dX4_write_16 : decode cX4_write 16 = .ok (.if_icmp .ge 18, 3) := by decide +kernel
theorem dX4_write_19 : decode cX4_write 19 = .ok (.aload_n 0, 1) := by decide +kernel
theorem dX4_write_20 : decode cX4_write 20 = .ok (.aload_n 0, 1) := by decide +kernel
theorem dX4_write_21 : decode cX4_write 21 = .ok (.getfield 19, 3) := by decide +kernel
theorem dX4_write_24 : decode cX4_write 24 = .ok (.aload_n 0, 1) := by decide +kernel
theorem dX4_write_25 : decode cX4_write 25 = .ok (.getfield 26, 3) := by decide +kernel
theorem dX4_write_28 : decode cX4_write 28 = .ok (.invokevirtual 88, 3) := by decide +kernel
theorem dX4_write_31 : decode cX4_write 31 = .ok (.ifCond .ne 5, 3) := by decide +kernel
theorem dX4_write_36 : decode cX4_write 36 = .ok (.aload_n 0, 1) := by decide +kernel
theorem dX4_write_37 : decode cX4_write 37 = .ok (.dup, 1) := by decide +kernel
theorem dX4_write_38 : decode cX4_write 38 = .ok (.getfield 26, 3) := by decide +kernel
theorem dX4_write_41 : decode cX4_write 41 = .ok (.iconst 1, 1) := by decide +kernel
theorem dX4_write_42 : decode cX4_write 42 = .ok (.iadd, 1) := by decide +kernel
theorem dX4_write_43 : decode cX4_write 43 = .ok (.putfield 26, 3) := by decide +kernel
theorem dX4_write_46 : decode cX4_write 46 = .ok (.iconst 1, 1) := by decide +kernel
theorem dX4_write_47 : decode cX4_write 47 = .ok (.ireturn, 1) := by decide +kernel
theorem dX5_init_0 : decode cX5_init 0 = .ok (.aload_n 0, 1) := by decide +kernel
theorem dX5_init_1 : decode cX5_init 1 = .ok (.invokespecial 3, 3) := by decide +kernel
theorem dX5_init_4 : decode cX5_init 4 = .ok (.aload_n 0, 1) := by decide +kernel
theorem dX5_init_5 : decode cX5_init 5 = .ok (.bipush 16, 2) := by decide +kernel
theorem dX5_init_7 : decode cX5_init 7 = .ok (.newarray .int, 2) := by decide +kernel
theorem dX5_init_9 : decode cX5_init 9 = .ok (.putfield 9, 3) := by decide +kernel
theorem dX5_init_12 : decode cX5_init 12 = .ok (.aload_n 0, 1) := by decide +kernel
theorem dX5_init_13 : decode cX5_init 13 = .ok (.bipush 16, 2) := by decide +kernel
theorem dX5_init_15 : decode cX5_init 15 = .ok (.newarray .int, 2) := by decide +kernel
theorem dX5_init_17 : decode cX5_init 17 = .ok (.putfield 15, 3) := by decide +kernel
theorem dX5_init_20 : decode cX5_init 20 = .ok (.aload_n 0, 1) := by decide +kernel
theorem dX5_init_21 : decode cX5_init 21 = .ok (.bipush 16, 2) := by decide +kernel
theorem dX5_init_23 : decode cX5_init 23 = .ok (.newarray .int, 2) := by decide +kernel
theorem dX5_init_25 : decode cX5_init 25 = .ok (.putfield 18, 3) := by decide +kernel
theorem dX5_init_28 : decode cX5_init 28 = .ok (.aload_n 0, 1) := by decide +kernel
theorem dX5_init_29 : decode cX5_init 29 = .ok (.bipush 16, 2) := by decide +kernel
theorem dX5_init_31 : decode cX5_init 31 = .ok (.newarray .long, 2) := by decide +kernel
theorem dX5_init_33 : decode cX5_init 33 = .ok (.putfield 21, 3) := by decide +kernel
theorem dX5_init_36 : decode cX5_init 36 = .ok (.aload_n 0, 1) := by decide +kernel
theorem dX5_init_37 : decode cX5_init 37 = .ok (.iconst 0, 1) := by decide +kernel
theorem dX5_init_38 : decode cX5_init 38 = .ok (.putfield 25, 3) := by decide +kernel
theorem dX5_init_41 : decode cX5_init 41 = .ok (.aload_n 0, 1) := by decide +kernel
theorem dX5_init_42 : decode cX5_init 42 = .ok (.lconst 0, 1) := by decide +kernel
theorem dX5_init_43 : decode cX5_init 43 = .ok (.putfield 29, 3) := by decide +kernel
theorem dX5_init_46 : decode cX5_init 46 = .ok (.aload_n 0, 1) := by decide +kernel
theorem dX5_init_47 : decode cX5_init 47 = .ok (.iconst 0, 1) := by decide +kernel
theorem dX5_init_48 : decode cX5_init 48 = .ok (.putfield 33, 3) := by decide +kernel
theorem dX5_init_51 : decode cX5_init 51 = .ok (.return_, 1) := by decide +kernel
theorem dX5_read_0 : decode cX5_read 0 = .ok (.aload_n 1, 1) := by decide +kernel
theorem dX5_read_1 : decode cX5_read 1 = .ok (.getfield 36, 3) := by decide +kernel
theorem dX5_read_4 : decode cX5_read 4 = .ok (.bipush 8, 2) := by decide +kernel
theorem dX5_read_6 : decode cX5_read 6 = .ok (.isub, 1) := by decide +kernel
theorem dX5_read_7 : decode cX5_read 7 = .ok (.istore_n 2, 1) := by decide +kernel
theorem dX5_read_8 : decode cX5_read 8 = .ok (.iload_n 2, 1) := by decide +kernel
theorem dX5_read_9 : decode cX5_read 9 = .ok (.bipush 13, 2) := by decide +kernel
theorem dX5_read_11 : decode cX5_read 11 = .ok (.if_icmp .ge 5, 3) := by decide +kernel
theorem dX5_read_14 : decode cX5_read 14 = .ok (.iconst 0, 1) := by decide +kernel
theorem dX5_read_15 : decode cX5_read 15 = .ok (.ireturn, 1) := by decide +kernel
theorem dX6_init_0 : decode cX6_init 0 = .ok (.aload_n 0, 1) := by decide +kernel
theorem dX6_init_1 : decode cX6_init 1 = .ok (.invokespecial 3, 3) := by decide +kernel
theorem dX6_init_4 : decode cX6_init 4 = .ok (.aload_n 0, 1) := by decide +kernel
theorem dX6_init_5 : decode cX6_init 5 = .ok (.aload_n 1, 1) := by decide +kernel
theorem dX6_init_6 : decode cX6_init 6 = .ok (.putfield 9, 3) := by decide +kernel
theorem dX6_init_9 : decode cX6_init 9 = .ok (.aload_n 0, 1) := by decide +kernel
theorem dX6_init_10 : decode cX6_init 10 = .ok (.sipush 128, 3) := by decide +kernel
theorem dX6_init_13 : decode cX6_init 13 = .ok (.newarray .long, 2) := by decide +kernel
theorem dX6_init_15 : decode cX6_init 15 = .ok (.putfield 15, 3) := by decide +kernel
theorem dX6_init_18 : decode cX6_init 18 = .ok (.aload_n 0, 1) := by decide +kernel
theorem dX6_init_19 : decode cX6_init 19 = .ok (.sipush 128, 3) := by decide +kernel
theorem dX6_init_22 : decode cX6_init 22 = .ok (.newarray .boolean, 2) := by decide +kernel
theorem dX6_init_24 : decode cX6_init 24 = .ok (.putfield 19, 3) := by decide +kernel
theorem dX6_init_27 : decode cX6_init 27 = .ok (.aload_n 0, 1) := by decide +kernel
theorem dX6_init_28 : decode cX6_init 28 = .ok (.sipush 128, 3) := by decide +kernel
theorem dX6_init_31 : decode cX6_init 31 = .ok (.newarray .boolean, 2) := by decide +kernel
theorem dX6_init_33 : decode cX6_init 33 = .ok (.putfield 23, 3) := by decide +kernel
theorem dX6_init_36 : decode cX6_init 36 = .ok (.aload_n 0, 1) := by decide +kernel
theorem dX6_init_37 : decode cX6_init 37 = .ok (.sipush 128, 3) := by decide +kernel
theorem dX6_init_40 : decode cX6_init 40 = .ok (.newarray .boolean, 2) := by decide +kernel
theorem dX6_init_42 : decode cX6_init 42 = .ok (.putfield 26, 3) := by decide +kernel
theorem dX6_init_45 : decode cX6_init 45 = .ok (.aload_n 0, 1) := by decide +kernel
theorem dX6_init_46 : decode cX6_init 46 = .ok (.sipush 128, 3) := by decide +kernel
theorem dX6_init_49 : decode cX6_init 49 = .ok (.newarray .int, 2) := by decide +kernel
theorem dX6_init_51 : decode cX6_init 51 = .ok (.putfield 29, 3) := by decide +kernel
theorem dX6_init_54 : decode cX6_init 54 = .ok (.aload_n 0, 1) := by decide +kernel
theorem dX6_init_55 : decode cX6_init 55 = .ok (.bipush 16, 2) := by decide +kernel
