theorem dX0_start_0 : decode cX0_start 0 = .ok (.ldc2_w 9, 3) := by decide +kernel
theorem dX0_start_3 : decode cX0_start 3 = .ok (.iload_n 0, 1) := by decide +kernel
theorem dX0_start_4 : decode cX0_start 4 = .ok (.i2l, 1) := by decide +kernel
theorem dX0_start_5 : decode cX0_start 5 = .ok (.lmul, 1) := by decide +kernel
theorem dX0_start_6 : decode cX0_start 6 = .ok (.lreturn, 1) := by decide +kernel
theorem dX0_add_0 : decode cX0_add 0 = .ok (.lload_n 0, 1) := by decide +kernel
theorem dX0_add_1 : decode cX0_add 1 = .ok (.iload_n 2, 1) := by decide +kernel
theorem dX0_add_2 : decode cX0_add 2 = .ok (.sipush 255, 3) := by decide +kernel
theorem dX0_add_5 : decode cX0_add 5 = .ok (.iand, 1) := by decide +kernel
theorem dX0_add_6 : decode cX0_add 6 = .ok (.i2l, 1) := by decide +kernel
theorem dX0_add_7 : decode cX0_add 7 = .ok (.lxor, 1) := by decide +kernel
theorem dX0_add_8 : decode cX0_add 8 = .ok (.lstore_n 3, 1) := by decide +kernel
theorem dX0_add_9 : decode cX0_add 9 = .ok (.lload_n 3, 1) := by decide +kernel
theorem dX0_add_10 : decode cX0_add 10 = .ok (.bipush 21, 2) := by decide +kernel
theorem dX0_add_12 : decode cX0_add 12 = .ok (.lshl, 1) := by decide +kernel
theorem dX0_add_13 : decode cX0_add 13 = .ok (.lload_n 3, 1) := by decide +kernel
theorem dX0_add_14 : decode cX0_add 14 = .ok (.bipush 43, 2) := by decide +kernel
theorem dX0_add_16 : decode cX0_add 16 = .ok (.lushr, 1) := by decide +kernel
theorem dX0_add_17 : decode cX0_add 17 = .ok (.lor, 1) := by decide +kernel
theorem dX0_add_18 : decode cX0_add 18 = .ok (.ldc2_w 13, 3) := by decide +kernel
theorem dX0_add_21 : decode cX0_add 21 = .ok (.lmul, 1) := by decide +kernel
theorem dX0_add_22 : decode cX0_add 22 = .ok (.lreturn, 1) := by decide +kernel
theorem dX0_sum_0 : decode cX0_sum 0 = .ok (.iload_n 3, 1) := by decide +kernel
theorem dX0_sum_1 : decode cX0_sum 1 = .ok (.invokestatic 19, 3) := by decide +kernel
theorem dX0_sum_4 : decode cX0_sum 4 = .ok (.lstore 4, 2) := by decide +kernel
theorem dX0_sum_6 : decode cX0_sum 6 = .ok (.iload_n 1, 1) := by decide +kernel
theorem dX0_sum_7 : decode cX0_sum 7 = .ok (.istore 6, 2) := by decide +kernel
theorem dX0_sum_9 : decode cX0_sum 9 = .ok (.iload 6, 2) := by decide +kernel
theorem dX0_sum_11 : decode cX0_sum 11 = .ok (.iload_n 1, 1) := by decide +kernel
theorem dX0_sum_12 : decode cX0_sum 12 = .ok (.iload_n 2, 1) := by decide +kernel
theorem dX0_sum_13 : decode cX0_sum 13 = .ok (.iadd, 1) := by decide +kernel
theorem dX0_sum_14 : decode cX0_sum 14 = .ok (.if_icmp .ge 20, 3) := by decide +kernel
theorem dX0_sum_17 : decode cX0_sum 17 = .ok (.lload 4, 2) := by decide +kernel
theorem dX0_sum_19 : decode cX0_sum 19 = .ok (.aload_n 0, 1) := by decide +kernel
theorem dX0_sum_20 : decode cX0_sum 20 = .ok (.iload 6, 2) := by decide +kernel
theorem dX0_sum_22 : decode cX0_sum 22 = .ok (.baload, 1) := by decide +kernel
theorem dX0_sum_23 : decode cX0_sum 23 = .ok (.invokestatic 15, 3) := by decide +kernel
theorem dX0_sum_26 : decode cX0_sum 26 = .ok (.lstore 4, 2) := by decide +kernel
theorem dX0_sum_28 : decode cX0_sum 28 = .ok (.iinc 6 1, 3) := by decide +kernel
theorem dX0_sum_31 : decode cX0_sum 31 = .ok (.goto (-22), 3) := by decide +kernel
theorem dX0_sum_34 : decode cX0_sum 34 = .ok (.lload 4, 2) := by decide +kernel
theorem dX0_sum_36 : decode cX0_sum 36 = .ok (.lreturn, 1) := by decide +kernel
theorem dX0_putInt_0 : decode cX0_putInt 0 = .ok (.iconst 0, 1) := by decide +kernel
theorem dX0_putInt_1 : decode cX0_putInt 1 = .ok (.istore_n 3, 1) := by decide +kernel
theorem dX0_putInt_2 : decode cX0_putInt 2 = .ok (.iload_n 3, 1) := by decide +kernel
theorem dX0_putInt_3 : decode cX0_putInt 3 = .ok (.iconst 4, 1) := by decide +kernel
theorem dX0_putInt_4 : decode cX0_putInt 4 = .ok (.if_icmp .ge 24, 3) := by decide +kernel
theorem dX0_putInt_7 : decode cX0_putInt 7 = .ok (.aload_n 0, 1) := by decide +kernel
theorem dX0_putInt_8 : decode cX0_putInt 8 = .ok (.iload_n 1, 1) := by decide +kernel
theorem dX0_putInt_9 : decode cX0_putInt 9 = .ok (.iload_n 3, 1) := by decide +kernel
theorem dX0_putInt_10 : decode cX0_putInt 10 = .ok (.iadd, 1) := by decide +kernel
theorem dX0_putInt_11 : decode cX0_putInt 11 = .ok (.iload_n 2, 1) := by decide +kernel
theorem dX0_putInt_12 : decode cX0_putInt 12 = .ok (.bipush 24, 2) := by decide +kernel
theorem dX0_putInt_14 : decode cX0_putInt 14 = .ok (.bipush 8, 2) := by decide +kernel
theorem dX0_putInt_16 : decode cX0_putInt 16 = .ok (.iload_n 3, 1) := by decide +kernel
theorem dX0_putInt_17 : decode cX0_putInt 17 = .ok (.imul, 1) := by decide +kernel
theorem dX0_putInt_18 : decode cX0_putInt 18 = .ok (.isub, 1) := by decide +kernel
theorem dX0_putInt_19 : decode cX0_putInt 19 = .ok (.iushr, 1) := by decide +kernel
theorem dX0_putInt_20 : decode cX0_putInt 20 = .ok (.i2b, 1) := by decide +kernel
theorem dX0_putInt_21 : decode cX0_putInt 21 = .ok (.bastore, 1) := by decide +kernel
theorem dX0_putInt_22 : decode cX0_putInt 22 = .ok (.iinc 3 1, 3) := by decide +kernel
theorem dX0_putInt_25 : decode cX0_putInt 25 = .ok (.goto (-23), 3) := by decide +kernel
theorem dX0_putInt_28 : decode cX0_putInt 28 = .ok (.return_, 1) := by decide +kernel
theorem dX0_putLong_0 : decode cX0_putLong 0 = .ok (.iconst 0, 1) := by decide +kernel
theorem dX0_putLong_1 : decode cX0_putLong 1 = .ok (.istore 4, 2) := by decide +kernel
theorem dX0_putLong_3 : decode cX0_putLong 3 = .ok (.iload 4, 2) := by decide +kernel
theorem dX0_putLong_5 : decode cX0_putLong 5 = .ok (.bipush 8, 2) := by decide +kernel
theorem dX0_putLong_7 : decode cX0_putLong 7 = .ok (.if_icmp .ge 27, 3) := by decide +kernel
theorem dX0_putLong_10 : decode cX0_putLong 10 = .ok (.aload_n 0, 1) := by decide +kernel
theorem dX0_putLong_11 : decode cX0_putLong 11 = .ok (.iload_n 1, 1) := by decide +kernel
theorem dX0_putLong_12 : decode cX0_putLong 12 = .ok (.iload 4, 2) := by decide +kernel
theorem dX0_putLong_14 : decode cX0_putLong 14 = .ok (.iadd, 1) := by decide +kernel
theorem dX0_putLong_15 : decode cX0_putLong 15 = .ok (.lload_n 2, 1) := by decide +kernel
theorem dX0_putLong_16 : decode cX0_putLong 16 = .ok (.bipush 56, 2) := by decide +kernel
theorem dX0_putLong_18 : decode cX0_putLong 18 = .ok (.bipush 8, 2) := by decide +kernel
theorem dX0_putLong_20 : decode cX0_putLong 20 = .ok (.iload 4, 2) := by decide +kernel
theorem dX0_putLong_22 : decode cX0_putLong 22 = .ok (.imul, 1) := by decide +kernel
theorem dX0_putLong_23 : decode cX0_putLong 23 = .ok (.isub, 1) := by decide +kernel
theorem dX0_putLong_24 : decode cX0_putLong 24 = .ok (.lushr, 1) := by decide +kernel
theorem dX0_putLong_25 : decode cX0_putLong 25 = .ok (.l2i, 1) := by decide +kernel
theorem dX0_putLong_26 : decode cX0_putLong 26 = .ok (.i2b, 1) := by decide +kernel
theorem dX0_putLong_27 : decode cX0_putLong 27 = .ok (.bastore, 1) := by decide +kernel
theorem dX0_putLong_28 : decode cX0_putLong 28 = .ok (.iinc 4 1, 3) := by decide +kernel
theorem dX0_putLong_31 : decode cX0_putLong 31 = .ok (.goto (-28), 3) := by decide +kernel
theorem dX0_putLong_34 : decode cX0_putLong 34 = .ok (.return_, 1) := by decide +kernel
theorem dX3_init_0 : decode cX3_init 0 = .ok (.aload_n 0, 1) := by decide +kernel
theorem dX3_init_1 : decode cX3_init 1 = .ok (.invokespecial 3, 3) := by decide +kernel
theorem dX3_init_4 : decode cX3_init 4 = .ok (.aload_n 0, 1) := by decide +kernel
theorem dX3_init_5 : decode cX3_init 5 = .ok (.aload_n 1, 1) := by decide +kernel
theorem dX3_init_6 : decode cX3_init 6 = .ok (.putfield 9, 3) := by decide +kernel
theorem dX3_init_9 : decode cX3_init 9 = .ok (.aload_n 0, 1) := by decide +kernel
theorem dX3_init_10 : decode cX3_init 10 = .ok (.aload_n 2, 1) := by decide +kernel
theorem dX3_init_11 : decode cX3_init 11 = .ok (.putfield 15, 3) := by decide +kernel
theorem dX3_init_14 : decode cX3_init 14 = .ok (.aload_n 0, 1) := by decide +kernel
theorem dX3_init_15 : decode cX3_init 15 = .ok (.aload_n 3, 1) := by decide +kernel
theorem dX3_init_16 : decode cX3_init 16 = .ok (.putfield 19, 3) := by decide +kernel
theorem dX3_init_19 : decode cX3_init 19 = .ok (.aload_n 0, 1) := by decide +kernel
theorem dX3_init_20 : decode cX3_init 20 = .ok (.sipush 128, 3) := by decide +kernel
theorem dX3_init_23 : decode cX3_init 23 = .ok (.newarray .boolean, 2) := by decide +kernel
theorem dX3_init_25 : decode cX3_init 25 = .ok (.putfield 23, 3) := by decide +kernel
theorem dX3_init_28 : decode cX3_init 28 = .ok (.return_, 1) := by decide +kernel
theorem dX4_init_0 : decode cX4_init 0 = .ok (.aload_n 0, 1) := by decide +kernel
theorem dX4_init_1 : decode cX4_init 1 = .ok (.invokespecial 3, 3) := by decide +kernel
theorem dX4_init_4 : decode cX4_init 4 = .ok (.aload_n 0, 1) := by decide +kernel
theorem dX4_init_5 : decode cX4_init 5 = .ok (.aload_n 1, 1) := by decide +kernel
theorem dX4_init_6 : decode cX4_init 6 = .ok (.putfield 9, 3) := by decide +kernel
theorem dX4_init_9 : decode cX4_init 9 = .ok (.aload_n 0, 1) := by decide +kernel
theorem dX4_init_10 : decode cX4_init 10 = .ok (.bipush 32, 2) := by decide +kernel
theorem dX4_init_12 : decode cX4_init 12 = .ok (.newarray .byte, 2) := by decide +kernel
theorem dX4_init_14 : decode cX4_init 14 = .ok (.putfield 15, 3) := by decide +kernel
theorem dX4_init_17 : decode cX4_init 17 = .ok (.aload_n 0, 1) := by decide +kernel
theorem dX4_init_18 : decode cX4_init 18 = .ok (.iconst 0, 1) := by decide +kernel
theorem dX4_init_19 : decode cX4_init 19 = .ok (.putfield 19, 3) := by decide +kernel
theorem dX4_init_22 : decode cX4_init 22 = .ok (.aload_n 0, 1) := by decide +kernel
theorem dX4_init_23 : decode cX4_init 23 = .ok (.iconst 1, 1) := by decide +kernel
theorem dX4_init_24 : decode cX4_init 24 = .ok (.putfield 23, 3) := by decide +kernel
theorem dX4_init_27 : decode cX4_init 27 = .ok (.aload_n 0, 1) := by decide +kernel
theorem dX4_init_28 : decode cX4_init 28 = .ok (.iconst 0, 1) := by decide +kernel
theorem dX4_init_29 : decode cX4_init 29 = .ok (.putfield 26, 3) := by decide +kernel
theorem dX4_init_32 : decode cX4_init 32 = .ok (.aload_n 0, 1) := by decide +kernel
theorem dX4_init_33 : decode cX4_init 33 = .ok (.iconst 0, 1) := by decide +kernel
theorem dX4_init_34 : decode cX4_init 34 = .ok (.putfield 29, 3) := by decide +kernel
theorem dX4_init_37 : decode cX4_init 37 = .ok (.aload_n 0, 1) := by decide +kernel
theorem dX4_init_38 : decode cX4_init 38 = .ok (.aload_n 0, 1) := by decide +kernel
theorem dX4_init_39 : decode cX4_init 39 = .ok (.getfield 23, 3) := by decide +kernel
theorem dX4_init_42 : decode cX4_init 42 = .ok (.invokevirtual 32, 3) := by decide +kernel
theorem dX4_init_45 : decode cX4_init 45 = .ok (.aload_n 0, 1) := by decide +kernel
theorem dX4_init_46 : decode cX4_init 46 = .ok (.getfield 15, 3) := by decide +kernel
theorem dX4_init_49 : decode cX4_init 49 = .ok (.iconst 0, 1) := by decide +kernel
theorem dX4_init_50 : decode cX4_init 50 = .ok (.aload_n 1, 1) := by decide +kernel
theorem dX4_init_51 : decode cX4_init 51 = .ok (.getfield 36, 3) := by decide +kernel
theorem dX4_init_54 : decode cX4_init 54 = .ok (.iconst 0, 1) := by decide +kernel
theorem dX4_init_55 : decode cX4_init 55 = .ok (.bipush 16, 2) := by decide +kernel
theorem dX4_init_57 : decode cX4_init 57 = .ok (.invokestatic 41, 3) := by decide +kernel
theorem dX4_init_60 : decode cX4_init 60 = .ok (.return_, 1) := by decide +kernel
theorem dX4_drawHead_0 : decode cX4_drawHead 0 = .ok (.aload_n 0, 1) := by decide +kernel
theorem dX4_drawHead_1 : decode cX4_drawHead 1 = .ok (.getfield 15, 3) := by decide +kernel
theorem dX4_drawHead_4 : decode cX4_drawHead 4 = .ok (.iconst 0, 1) := by decide +kernel
theorem dX4_drawHead_5 : decode cX4_drawHead 5 = .ok (.iload_n 1, 1) := by decide +kernel
theorem dX4_drawHead_6 : decode cX4_drawHead 6 = .ok (.invokestatic 65, 3) := by decide +kernel
theorem dX4_drawHead_9 : decode cX4_drawHead 9 = .ok (.aload_n 0, 1) := by decide +kernel
theorem dX4_drawHead_10 : decode cX4_drawHead 10 = .ok (.getfield 15, 3) := by decide +kernel
theorem dX4_drawHead_13 : decode cX4_drawHead 13 = .ok (.iconst 4, 1) := by decide +kernel
theorem dX4_drawHead_14 : decode cX4_drawHead 14 = .ok (.sipush 165, 3) := by decide +kernel
theorem dX4_drawHead_17 : decode cX4_drawHead 17 = .ok (.invokestatic 65, 3) := by decide +kernel
theorem dX4_drawHead_20 : decode cX4_drawHead 20 = .ok (.aload_n 0, 1) := by decide +kernel
theorem dX4_drawHead_21 : decode cX4_drawHead 21 = .ok (.getfield 15, 3) := by decide +kernel
theorem dX4_drawHead_24 : decode cX4_drawHead 24 = .ok (.bipush 8, 2) := by decide +kernel
theorem dX4_drawHead_26 : decode cX4_drawHead 26 = .ok (.aload_n 0, 1) := by decide +kernel
theorem dX4_drawHead_27 : decode cX4_drawHead 27 = .ok (.getfield 15, 3) := by decide +kernel
theorem dX4_drawHead_30 : decode cX4_drawHead 30 = .ok (.iconst 0, 1) := by decide +kernel
theorem dX4_drawHead_31 : decode cX4_drawHead 31 = .ok (.bipush 8, 2) := by decide +kernel
theorem dX4_drawHead_33 : decode cX4_drawHead 33 = .ok (.iconst 1, 1) := by decide +kernel
theorem dX4_drawHead_34 : decode cX4_drawHead 34 = .ok (.invokestatic 76, 3) := by decide +kernel
theorem dX4_drawHead_37 : decode cX4_drawHead 37 = .ok (.invokestatic 69, 3) := by decide +kernel
theorem dX4_drawHead_40 : decode cX4_drawHead 40 = .ok (.return_, 1) := by decide +kernel
theorem dX5_init_0 : decode cX5_init 0 = .ok (.aload_n 0, 1) := by decide +kernel
theorem dX5_init_1 : decode cX5_init 1 = .ok (.invokespecial 3, 3) := by decide +kernel
theorem dX5_init_4 : decode cX5_init 4 = .ok (.aload_n 0, 1) := by decide +kernel
theorem dX5_init_5 : decode cX5_init 5 = .ok (.bipush 16, 2) := by decide +kernel
theorem dX5_init_7 : decode cX5_init 7 = .ok (.newarray .int, 2) := by decide +kernel
theorem dX5_init_9 : decode cX5_init 9 = .ok (.putfield 9, 3) := by decide +kernel
theorem dX5_init_12 : decode cX5_init 12 = .ok (.aload_n 0, 1) := by decide +kernel
theorem dX5_init_13 : decode cX5_init 13 = .ok (.bipush 16, 2) := by decide +kernel
theorem dX5_init_15 : decode cX5_init 15 = .ok (.newarray .int, 2) := by decide +kernel
theorem dX5_init_17 : decode cX5_init 17 = .ok (.putfield 15, 3) := by decide +kernel
theorem dX5_init_20 : decode cX5_init 20 = .ok (.aload_n 0, 1) := by decide +kernel
theorem dX5_init_21 : decode cX5_init 21 = .ok (.bipush 16, 2) := by decide +kernel
theorem dX5_init_23 : decode cX5_init 23 = .ok (.newarray .int, 2) := by decide +kernel
theorem dX5_init_25 : decode cX5_init 25 = .ok (.putfield 18, 3) := by decide +kernel
theorem dX5_init_28 : decode cX5_init 28 = .ok (.aload_n 0, 1) := by decide +kernel
theorem dX5_init_29 : decode cX5_init 29 = .ok (.bipush 16, 2) := by decide +kernel
theorem dX5_init_31 : decode cX5_init 31 = .ok (.newarray .long, 2) := by decide +kernel
theorem dX5_init_33 : decode cX5_init 33 = .ok (.putfield 21, 3) := by decide +kernel
theorem dX5_init_36 : decode cX5_init 36 = .ok (.aload_n 0, 1) := by decide +kernel
theorem dX5_init_37 : decode cX5_init 37 = .ok (.iconst 0, 1) := by decide +kernel
theorem dX5_init_38 : decode cX5_init 38 = .ok (.putfield 25, 3) := by decide +kernel
theorem dX5_init_41 : decode cX5_init 41 = .ok (.aload_n 0, 1) := by decide +kernel
theorem dX5_init_42 : decode cX5_init 42 = .ok (.lconst 0, 1) := by decide +kernel
theorem dX5_init_43 : decode cX5_init 43 = .ok (.putfield 29, 3) := by decide +kernel
theorem dX5_init_46 : decode cX5_init 46 = .ok (.aload_n 0, 1) := by decide +kernel
theorem dX5_init_47 : decode cX5_init 47 = .ok (.iconst 0, 1) := by decide +kernel
theorem dX5_init_48 : decode cX5_init 48 = .ok (.putfield 33, 3) := by decide +kernel
theorem dX5_init_51 : decode cX5_init 51 = .ok (.return_, 1) := by decide +kernel
theorem dX6_init_0 : decode cX6_init 0 = .ok (.aload_n 0, 1) := by decide +kernel
theorem dX6_init_1 : decode cX6_init 1 = .ok (.invokespecial 3, 3) := by decide +kernel
theorem dX6_init_4 : decode cX6_init 4 = .ok (.aload_n 0, 1) := by decide +kernel
theorem dX6_init_5 : decode cX6_init 5 = .ok (.aload_n 1, 1) := by decide +kernel
theorem dX6_init_6 : decode cX6_init 6 = .ok (.putfield 9, 3) := by decide +kernel
theorem dX6_init_9 : decode cX6_init 9 = .ok (.aload_n 0, 1) := by decide +kernel
theorem dX6_init_10 : decode cX6_init 10 = .ok (.sipush 128, 3) := by decide +kernel
theorem dX6_init_13 : decode cX6_init 13 = .ok (.newarray .long, 2) := by decide +kernel
theorem dX6_init_15 : decode cX6_init 15 = .ok (.putfield 15, 3) := by decide +kernel
theorem dX6_init_18 : decode cX6_init 18 = .ok (.aload_n 0, 1) := by decide +kernel
theorem dX6_init_19 : decode cX6_init 19 = .ok (.sipush 128, 3) := by decide +kernel
theorem dX6_init_22 : decode cX6_init 22 = .ok (.newarray .boolean, 2) := by decide +kernel
theorem dX6_init_24 : decode cX6_init 24 = .ok (.putfield 19, 3) := by decide +kernel
theorem dX6_init_27 : decode cX6_init 27 = .ok (.aload_n 0, 1) := by decide +kernel
theorem dX6_init_28 : decode cX6_init 28 = .ok (.sipush 128, 3) := by decide +kernel
theorem dX6_init_31 : decode cX6_init 31 = .ok (.newarray .boolean, 2) := by decide +kernel
theorem dX6_init_33 : decode cX6_init 33 = .ok (.putfield 23, 3) := by decide +kernel
theorem dX6_init_36 : decode cX6_init 36 = .ok (.aload_n 0, 1) := by decide +kernel
theorem dX6_init_37 : decode cX6_init 37 = .ok (.sipush 128, 3) := by decide +kernel
theorem dX6_init_40 : decode cX6_init 40 = .ok (.newarray .boolean, 2) := by decide +kernel
theorem dX6_init_42 : decode cX6_init 42 = .ok (.putfield 26, 3) := by decide +kernel
theorem dX6_init_45 : decode cX6_init 45 = .ok (.aload_n 0, 1) := by decide +kernel
theorem dX6_init_46 : decode cX6_init 46 = .ok (.sipush 128, 3) := by decide +kernel
theorem dX6_init_49 : decode cX6_init 49 = .ok (.newarray .int, 2) := by decide +kernel
theorem dX6_init_51 : decode cX6_init 51 = .ok (.putfield 29, 3) := by decide +kernel
theorem dX6_init_54 : decode cX6_init 54 = .ok (.aload_n 0, 1) := by decide +kernel
theorem dX6_init_55 : decode cX6_init 55 = .ok (.bipush 16, 2) := by decide +kernel
theorem dX6_init_57 : decode cX6_init 57 = .ok (.newarray .long, 2) := by decide +kernel
theorem dX6_init_59 : decode cX6_init 59 = .ok (.putfield 33, 3) := by decide +kernel
theorem dX6_init_62 : decode cX6_init 62 = .ok (.aload_n 0, 1) := by decide +kernel
theorem dX6_init_63 : decode cX6_init 63 = .ok (.iconst 0, 1) := by decide +kernel
theorem dX6_init_64 : decode cX6_init 64 = .ok (.putfield 36, 3) := by decide +kernel
theorem dX6_init_67 : decode cX6_init 67 = .ok (.aload_n 0, 1) := by decide +kernel
theorem dX6_init_68 : decode cX6_init 68 = .ok (.iconst 0, 1) := by decide +kernel
theorem dX6_init_69 : decode cX6_init 69 = .ok (.putfield 40, 3) := by decide +kernel
theorem dX6_init_72 : decode cX6_init 72 = .ok (.aload_n 0, 1) := by decide +kernel
theorem dX6_init_73 : decode cX6_init 73 = .ok (.iconst (-1), 1) := by decide +kernel
theorem dX6_init_74 : decode cX6_init 74 = .ok (.putfield 43, 3) := by decide +kernel
theorem dX6_init_77 : decode cX6_init 77 = .ok (.aload_n 0, 1) := by decide +kernel
theorem dX6_init_78 : decode cX6_init 78 = .ok (.iconst 0, 1) := by decide +kernel
theorem dX6_init_79 : decode cX6_init 79 = .ok (.putfield 46, 3) := by decide +kernel
theorem dX6_init_82 : decode cX6_init 82 = .ok (.aload_n 0, 1) := by decide +kernel
theorem dX6_init_83 : decode cX6_init 83 = .ok (.iconst 0, 1) := by decide +kernel
theorem dX6_init_84 : decode cX6_init 84 = .ok (.putfield 50, 3) := by decide +kernel
theorem dX6_init_87 : decode cX6_init 87 = .ok (.return_, 1) := by decide +kernel
theorem dX7_init_0 : decode cX7_init 0 = .ok (.aload_n 0, 1) := by decide +kernel
theorem dX7_init_1 : decode cX7_init 1 = .ok (.invokespecial 3, 3) := by decide +kernel
theorem dX7_init_4 : decode cX7_init 4 = .ok (.aload_n 0, 1) := by decide +kernel
theorem dX7_init_5 : decode cX7_init 5 = .ok (.sipush 400, 3) := by decide +kernel
theorem dX7_init_8 : decode cX7_init 8 = .ok (.newarray .byte, 2) := by decide +kernel
theorem dX7_init_10 : decode cX7_init 10 = .ok (.putfield 9, 3) := by decide +kernel
theorem dX7_init_13 : decode cX7_init 13 = .ok (.aload_n 0, 1) := by decide +kernel
theorem dX7_init_14 : decode cX7_init 14 = .ok (.iconst 0, 1) := by decide +kernel
theorem dX7_init_15 : decode cX7_init 15 = .ok (.putfield 15, 3) := by decide +kernel
theorem dX7_init_18 : decode cX7_init 18 = .ok (.return_, 1) := by decide +kernel
theorem dX7_append_0 : decode cX7_append 0 = .ok (.aload_n 0, 1) := by decide +kernel
theorem dX7_append_1 : decode cX7_append 1 = .ok (.getfield 15, 3) := by decide +kernel
theorem dX7_append_4 : decode cX7_append 4 = .ok (.sipush 400, 3) := by decide +kernel
theorem dX7_append_7 : decode cX7_append 7 = .ok (.if_icmp .ge 24, 3) := by decide +kernel
theorem dX7_append_10 : decode cX7_append 10 = .ok (.aload_n 0, 1) := by decide +kernel
theorem dX7_append_11 : decode cX7_append 11 = .ok (.getfield 9, 3) := by decide +kernel
theorem dX7_append_14 : decode cX7_append 14 = .ok (.aload_n 0, 1) := by decide +kernel
theorem dX7_append_15 : decode cX7_append 15 = .ok (.getfield 15, 3) := by decide +kernel
theorem dX7_append_18 : decode cX7_append 18 = .ok (.iload_n 1, 1) := by decide +kernel
theorem dX7_append_19 : decode cX7_append 19 = .ok (.i2b, 1) := by decide +kernel
theorem dX7_append_20 : decode cX7_append 20 = .ok (.bastore, 1) := by decide +kernel
theorem dX7_append_21 : decode cX7_append 21 = .ok (.aload_n 0, 1) := by decide +kernel
theorem dX7_append_22 : decode cX7_append 22 = .ok (.dup, 1) := by decide +kernel
theorem dX7_append_23 : decode cX7_append 23 = .ok (.getfield 15, 3) := by decide +kernel
theorem dX7_append_26 : decode cX7_append 26 = .ok (.iconst 1, 1) := by decide +kernel
theorem dX7_append_27 : decode cX7_append 27 = .ok (.iadd, 1) := by decide +kernel
theorem dX7_append_28 : decode cX7_append 28 = .ok (.putfield 15, 3) := by decide +kernel
theorem dX7_append_31 : decode cX7_append 31 = .ok (.return_, 1) := by decide +kernel
theorem dX8_at_0 : decode cX8_at 0 = .ok (.iload_n 1, 1) := by decide +kernel
theorem dX8_at_1 : decode cX8_at 1 = .ok (.ifCond .lt 14, 3) := by decide +kernel
theorem dX8_at_4 : decode cX8_at 4 = .ok (.iload_n 1, 1) := by decide +kernel
theorem dX8_at_5 : decode cX8_at 5 = .ok (.aload_n 0, 1) := by decide +kernel
theorem dX8_at_6 : decode cX8_at 6 = .ok (.getfield 13, 3) := by decide +kernel
theorem dX8_at_9 : decode cX8_at 9 = .ok (.getfield 83, 3) := by decide +kernel
theorem dX8_at_12 : decode cX8_at 12 = .ok (.if_icmp .lt 13, 3) := by decide +kernel
theorem dX8_at_15 : decode cX8_at 15 = .ok (.new 91, 3) := by decide +kernel
theorem dX8_at_18 : decode cX8_at 18 = .ok (.dup, 1) := by decide +kernel
theorem dX8_at_19 : decode cX8_at 19 = .ok (.ldc 93, 2) := by decide +kernel
theorem dX8_at_21 : decode cX8_at 21 = .ok (.invokespecial 95, 3) := by decide +kernel
theorem dX8_at_24 : decode cX8_at 24 = .ok (.athrow, 1) := by decide +kernel
theorem dX8_at_25 : decode cX8_at 25 = .ok (.aload_n 0, 1) := by decide +kernel
theorem dX8_at_26 : decode cX8_at 26 = .ok (.getfield 13, 3) := by decide +kernel
theorem dX8_at_29 : decode cX8_at 29 = .ok (.getfield 96, 3) := by decide +kernel
theorem dX8_at_32 : decode cX8_at 32 = .ok (.iload_n 1, 1) := by decide +kernel
theorem dX8_at_33 : decode cX8_at 33 = .ok (.baload, 1) := by decide +kernel
theorem dX8_at_34 : decode cX8_at 34 = .ok (.sipush 255, 3) := by decide +kernel
theorem dX8_at_37 : decode cX8_at 37 = .ok (.iand, 1) := by decide +kernel
theorem dX8_at_38 : decode cX8_at 38 = .ok (.ireturn, 1) := by decide +kernel
theorem dX9_init_0 : decode cX9_init 0 = .ok (.aload_n 0, 1) := by decide +kernel
theorem dX9_init_1 : decode cX9_init 1 = .ok (.invokespecial 1, 3) := by decide +kernel
theorem dX9_init_4 : decode cX9_init 4 = .ok (.aload_n 0, 1) := by decide +kernel
theorem dX9_init_5 : decode cX9_init 5 = .ok (.ldc 7, 2) := by decide +kernel
theorem dX9_init_7 : decode cX9_init 7 = .ok (.newarray .int, 2) := by decide +kernel
theorem dX9_init_9 : decode cX9_init 9 = .ok (.putfield 8, 3) := by decide +kernel
theorem dX9_init_12 : decode cX9_init 12 = .ok (.aload_n 0, 1) := by decide +kernel
theorem dX9_init_13 : decode cX9_init 13 = .ok (.sipush 400, 3) := by decide +kernel
theorem dX9_init_16 : decode cX9_init 16 = .ok (.newarray .int, 2) := by decide +kernel
theorem dX9_init_18 : decode cX9_init 18 = .ok (.putfield 14, 3) := by decide +kernel
theorem dX9_init_21 : decode cX9_init 21 = .ok (.aload_n 0, 1) := by decide +kernel
theorem dX9_init_22 : decode cX9_init 22 = .ok (.bipush 8, 2) := by decide +kernel
theorem dX9_init_24 : decode cX9_init 24 = .ok (.newarray .int, 2) := by decide +kernel
theorem dX9_init_26 : decode cX9_init 26 = .ok (.putfield 17, 3) := by decide +kernel
theorem dX9_init_29 : decode cX9_init 29 = .ok (.aload_n 0, 1) := by decide +kernel
theorem dX9_init_30 : decode cX9_init 30 = .ok (.bipush 8, 2) := by decide +kernel
theorem dX9_init_32 : decode cX9_init 32 = .ok (.newarray .long, 2) := by decide +kernel
theorem dX9_init_34 : decode cX9_init 34 = .ok (.putfield 20, 3) := by decide +kernel
theorem dX9_init_37 : decode cX9_init 37 = .ok (.aload_n 0, 1) := by decide +kernel
theorem dX9_init_38 : decode cX9_init 38 = .ok (.bipush 32, 2) := by decide +kernel
theorem dX9_init_40 : decode cX9_init 40 = .ok (.newarray .int, 2) := by decide +kernel
theorem dX9_init_42 : decode cX9_init 42 = .ok (.putfield 24, 3) := by decide +kernel
theorem dX9_init_45 : decode cX9_init 45 = .ok (.aload_n 0, 1) := by decide +kernel
theorem dX9_init_46 : decode cX9_init 46 = .ok (.sipush 128, 3) := by decide +kernel
theorem dX9_init_49 : decode cX9_init 49 = .ok (.newarray .long, 2) := by decide +kernel
theorem dX9_init_51 : decode cX9_init 51 = .ok (.putfield 27, 3) := by decide +kernel
theorem dX9_init_54 : decode cX9_init 54 = .ok (.aload_n 0, 1) := by decide +kernel
theorem dX9_init_55 : decode cX9_init 55 = .ok (.sipush 128, 3) := by decide +kernel
theorem dX9_init_58 : decode cX9_init 58 = .ok (.newarray .boolean, 2) := by decide +kernel
theorem dX9_init_60 : decode cX9_init 60 = .ok (.putfield 30, 3) := by decide +kernel
theorem dX9_init_63 : decode cX9_init 63 = .ok (.aload_n 0, 1) := by decide +kernel
theorem dX9_init_64 : decode cX9_init 64 = .ok (.sipush 128, 3) := by decide +kernel
theorem dX9_init_67 : decode cX9_init 67 = .ok (.newarray .boolean, 2) := by decide +kernel
theorem dX9_init_69 : decode cX9_init 69 = .ok (.putfield 34, 3) := by decide +kernel
theorem dX9_init_72 : decode cX9_init 72 = .ok (.aload_n 0, 1) := by decide +kernel
theorem dX9_init_73 : decode cX9_init 73 = .ok (.sipush 130, 3) := by decide +kernel
theorem dX9_init_76 : decode cX9_init 76 = .ok (.newarray .int, 2) := by decide +kernel
theorem dX9_init_78 : decode cX9_init 78 = .ok (.putfield 37, 3) := by decide +kernel
theorem dX9_init_81 : decode cX9_init 81 = .ok (.aload_n 0, 1) := by decide +kernel
theorem dX9_init_82 : decode cX9_init 82 = .ok (.bipush 16, 2) := by decide +kernel
theorem dX9_init_84 : decode cX9_init 84 = .ok (.newarray .long, 2) := by decide +kernel
theorem dX9_init_86 : decode cX9_init 86 = .ok (.putfield 40, 3) := by decide +kernel
theorem dX9_init_89 : decode cX9_init 89 = .ok (.aload_n 0, 1) := by decide +kernel
theorem dX9_init_90 : decode cX9_init 90 = .ok (.sipush 400, 3) := by decide +kernel
theorem dX9_init_93 : decode cX9_init 93 = .ok (.newarray .long, 2) := by decide +kernel
theorem dX9_init_95 : decode cX9_init 95 = .ok (.putfield 43, 3) := by decide +kernel
theorem dX9_init_98 : decode cX9_init 98 = .ok (.aload_n 0, 1) := by decide +kernel
theorem dX9_init_99 : decode cX9_init 99 = .ok (.sipush 128, 3) := by decide +kernel
theorem dX9_init_102 : decode cX9_init 102 = .ok (.newarray .int, 2) := by decide +kernel
theorem dX9_init_104 : decode cX9_init 104 = .ok (.putfield 46, 3) := by decide +kernel
theorem dX9_init_107 : decode cX9_init 107 = .ok (.aload_n 0, 1) := by decide +kernel
theorem dX9_init_108 : decode cX9_init 108 = .ok (.bipush 16, 2) := by decide +kernel
theorem dX9_init_110 : decode cX9_init 110 = .ok (.newarray .int, 2) := by decide +kernel
theorem dX9_init_112 : decode cX9_init 112 = .ok (.putfield 49, 3) := by decide +kernel
theorem dX9_init_115 : decode cX9_init 115 = .ok (.aload_n 0, 1) := by decide +kernel
theorem dX9_init_116 : decode cX9_init 116 = .ok (.bipush 16, 2) := by decide +kernel
theorem dX9_init_118 : decode cX9_init 118 = .ok (.newarray .int, 2) := by decide +kernel
theorem dX9_init_120 : decode cX9_init 120 = .ok (.putfield 52, 3) := by decide +kernel
theorem dX9_init_123 : decode cX9_init 123 = .ok (.aload_n 0, 1) := by decide +kernel
theorem dX9_init_124 : decode cX9_init 124 = .ok (.bipush 16, 2) := by decide +kernel
theorem dX9_init_126 : decode cX9_init 126 = .ok (.newarray .int, 2) := by decide +kernel
theorem dX9_init_128 : decode cX9_init 128 = .ok (.putfield 55, 3) := by decide +kernel
theorem dX9_init_131 : decode cX9_init 131 = .ok (.aload_n 0, 1) := by decide +kernel
theorem dX9_init_132 : decode cX9_init 132 = .ok (.bipush 16, 2) := by decide +kernel
theorem dX9_init_134 : decode cX9_init 134 = .ok (.newarray .long, 2) := by decide +kernel
theorem dX9_init_136 : decode cX9_init 136 = .ok (.putfield 58, 3) := by decide +kernel
theorem dX9_init_139 : decode cX9_init 139 = .ok (.aload_n 0, 1) := by decide +kernel
theorem dX9_init_140 : decode cX9_init 140 = .ok (.iload_n 1, 1) := by decide +kernel
theorem dX9_init_141 : decode cX9_init 141 = .ok (.iconst 1, 1) := by decide +kernel
theorem dX9_init_142 : decode cX9_init 142 = .ok (.if_icmp .ge 7, 3) := by decide +kernel
theorem dX9_init_145 : decode cX9_init 145 = .ok (.iconst 1, 1) := by decide +kernel
theorem dX9_init_146 : decode cX9_init 146 = .ok (.goto 15, 3) := by decide +kernel
theorem dX9_init_149 : decode cX9_init 149 = .ok (.iload_n 1, 1) := by decide +kernel
theorem dX9_init_150 : decode cX9_init 150 = .ok (.ldc 61, 2) := by decide +kernel
theorem dX9_init_152 : decode cX9_init 152 = .ok (.if_icmp .le 8, 3) := by decide +kernel
theorem dX9_init_155 : decode cX9_init 155 = .ok (.ldc 61, 2) := by decide +kernel
theorem dX9_init_157 : decode cX9_init 157 = .ok (.goto 4, 3) := by decide +kernel
theorem dX9_init_160 : decode cX9_init 160 = .ok (.iload_n 1, 1) := by decide +kernel
theorem dX9_init_161 : decode cX9_init 161 = .ok (.putfield 62, 3) := by decide +kernel
theorem dX9_init_164 : decode cX9_init 164 = .ok (.aload_n 0, 1) := by decide +kernel
theorem dX9_init_165 : decode cX9_init 165 = .ok (.sipush 8224, 3) := by decide +kernel
theorem dX9_init_168 : decode cX9_init 168 = .ok (.bipush 26, 2) := by decide +kernel
theorem dX9_init_170 : decode cX9_init 170 = .ok (.aload_n 0, 1) := by decide +kernel
theorem dX9_init_171 : decode cX9_init 171 = .ok (.getfield 62, 3) := by decide +kernel
theorem dX9_init_174 : decode cX9_init 174 = .ok (.imul, 1) := by decide +kernel
theorem dX9_init_175 : decode cX9_init 175 = .ok (.iadd, 1) := by decide +kernel
theorem dX9_init_176 : decode cX9_init 176 = .ok (.putfield 66, 3) := by decide +kernel
theorem dX9_init_179 : decode cX9_init 179 = .ok (.aload_n 0, 1) := by decide +kernel
theorem dX9_init_180 : decode cX9_init 180 = .ok (.iconst (-1), 1) := by decide +kernel
theorem dX9_init_181 : decode cX9_init 181 = .ok (.putfield 69, 3) := by decide +kernel
theorem dX9_init_184 : decode cX9_init 184 = .ok (.aload_n 0, 1) := by decide +kernel
theorem dX9_init_185 : decode cX9_init 185 = .ok (.iconst 1, 1) := by decide +kernel
theorem dX9_init_186 : decode cX9_init 186 = .ok (.putfield 72, 3) := by decide +kernel
theorem dX9_init_189 : decode cX9_init 189 = .ok (.aload_n 0, 1) := by decide +kernel
theorem dX9_init_190 : decode cX9_init 190 = .ok (.iconst 0, 1) := by decide +kernel
theorem dX9_init_191 : decode cX9_init 191 = .ok (.putfield 76, 3) := by decide +kernel
theorem dX9_init_194 : decode cX9_init 194 = .ok (.aload_n 0, 1) := by decide +kernel
theorem dX9_init_195 : decode cX9_init 195 = .ok (.iconst 0, 1) := by decide +kernel
theorem dX9_init_196 : decode cX9_init 196 = .ok (.lconst 1, 1) := by decide +kernel
theorem dX9_init_197 : decode cX9_init 197 = .ok (.iconst 4, 1) := by decide +kernel
theorem dX9_init_198 : decode cX9_init 198 = .ok (.invokevirtual 79, 3) := by decide +kernel
theorem dX9_init_201 : decode cX9_init 201 = .ok (.aload_n 0, 1) := by decide +kernel
theorem dX9_init_202 : decode cX9_init 202 = .ok (.bipush 7, 2) := by decide +kernel
theorem dX9_init_204 : decode cX9_init 204 = .ok (.sipush 165, 3) := by decide +kernel
theorem dX9_init_207 : decode cX9_init 207 = .ok (.invokevirtual 83, 3) := by decide +kernel
theorem dX9_init_210 : decode cX9_init 210 = .ok (.aload_n 0, 1) := by decide +kernel
theorem dX9_init_211 : decode cX9_init 211 = .ok (.bipush 8, 2) := by decide +kernel
theorem dX9_init_213 : decode cX9_init 213 = .ok (.aload_n 0, 1) := by decide +kernel
theorem dX9_init_214 : decode cX9_init 214 = .ok (.iconst 1, 1) := by decide +kernel
theorem dX9_init_215 : decode cX9_init 215 = .ok (.iconst 0, 1) := by decide +kernel
theorem dX9_init_216 : decode cX9_init 216 = .ok (.bipush 8, 2) := by decide +kernel
theorem dX9_init_218 : decode cX9_init 218 = .ok (.invokevirtual 87, 3) := by decide +kernel
theorem dX9_init_221 : decode cX9_init 221 = .ok (.bipush 8, 2) := by decide +kernel
theorem dX9_init_223 : decode cX9_init 223 = .ok (.invokevirtual 79, 3) := by decide +kernel
theorem dX9_init_226 : decode cX9_init 226 = .ok (.return_, 1) := by decide +kernel
theorem dX9_bytesOf_0 : decode cX9_bytesOf 0 = .ok (.iconst 0, 1) := by decide +kernel
theorem dX9_bytesOf_1 : decode cX9_bytesOf 1 = .ok (.istore 5, 2) := by decide +kernel
theorem dX9_bytesOf_3 : decode cX9_bytesOf 3 = .ok (.iload 5, 2) := by decide +kernel
theorem dX9_bytesOf_5 : decode cX9_bytesOf 5 = .ok (.iload 4, 2) := by decide +kernel
theorem dX9_bytesOf_7 : decode cX9_bytesOf 7 = .ok (.if_icmp .ge 34, 3) := by decide +kernel
theorem dX9_bytesOf_10 : decode cX9_bytesOf 10 = .ok (.aload_n 0, 1) := by decide +kernel
theorem dX9_bytesOf_11 : decode cX9_bytesOf 11 = .ok (.iload_n 1, 1) := by decide +kernel
theorem dX9_bytesOf_12 : decode cX9_bytesOf 12 = .ok (.iload 5, 2) := by decide +kernel
