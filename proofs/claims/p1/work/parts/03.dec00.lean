theorem dX0_start_0 : decode cX0_start 0 = .ok (.ldc2_w 9, 3) := by decide +kernel
theorem dX0_start_3 : decode cX0_start 3 = .ok (.iload_n 0, 1) := by decide +kernel
theorem dX0_start_4 : decode cX0_start 4 = .ok (.i2l, 1) := by decide +kernel
theorem dX0_start_5 : decode cX0_start 5 = .ok (.lmul, 1) := by decide +kernel
theorem dX0_start_6 : decode cX0_start 6 = .ok (.lreturn, 1) := by decide +kernel
theorem dX0_add_0 : decode cX0_add 0 = .ok (.lload_n 0, 1) := by decide +kernel
theorem dX0_add_1 : decode cX0_add 1 = .ok (.iload_n 2, 1) := by decide +kernel
theorem dX0_add_2 : decode cX0_add 2 = .ok (.sipush 255, 3) := by decide +kernel
theorem dX0_add_5 : decode cX0_add 5 = .ok (.iand, 1) := by decide +kernel
theorem dX0_add_6 : decode cX0_add 6 = .ok (.i2l, 1) := by decide +kernel
theorem dX0_add_7 : decode cX0_add 7 = .ok (.lxor, 1) := by decide +kernel
theorem dX0_add_8 : decode cX0_add 8 = .ok (.lstore_n 3, 1) := by decide +kernel
theorem dX0_add_9 : decode cX0_add 9 = .ok (.lload_n 3, 1) := by decide +kernel
theorem dX0_add_10 : decode cX0_add 10 = .ok (.bipush 21, 2) := by decide +kernel
theorem dX0_add_12 : decode cX0_add 12 = .ok (.lshl, 1) := by decide +kernel
theorem dX0_add_13 : decode cX0_add 13 = .ok (.lload_n 3, 1) := by decide +kernel
theorem dX0_add_14 : decode cX0_add 14 = .ok (.bipush 43, 2) := by decide +kernel
theorem dX0_add_16 : decode cX0_add 16 = .ok (.lushr, 1) := by decide +kernel
theorem dX0_add_17 : decode cX0_add 17 = .ok (.lor, 1) := by decide +kernel
theorem dX0_add_18 : decode cX0_add 18 = .ok (.ldc2_w 13, 3) := by decide +kernel
theorem dX0_add_21 : decode cX0_add 21 = .ok (.lmul, 1) := by decide +kernel
theorem dX0_add_22 : decode cX0_add 22 = .ok (.lreturn, 1) := by decide +kernel
theorem dX0_sum_0 : decode cX0_sum 0 = .ok (.iload_n 3, 1) := by decide +kernel
theorem dX0_sum_1 : decode cX0_sum 1 = .ok (.invokestatic 19, 3) := by decide +kernel
theorem dX0_sum_4 : decode cX0_sum 4 = .ok (.lstore 4, 2) := by decide +kernel
theorem dX0_sum_6 : decode cX0_sum 6 = .ok (.iload_n 1, 1) := by decide +kernel
theorem dX0_sum_7 : decode cX0_sum 7 = .ok (.istore 6, 2) := by decide +kernel
theorem dX0_sum_9 : decode cX0_sum 9 = .ok (.iload 6, 2) := by decide +kernel
theorem dX0_sum_11 : decode cX0_sum 11 = .ok (.iload_n 1, 1) := by decide +kernel
theorem dX0_sum_12 : decode cX0_sum 12 = .ok (.iload_n 2, 1) := by decide +kernel
theorem dX0_sum_13 : decode cX0_sum 13 = .ok (.iadd, 1) := by decide +kernel
theorem dX0_sum_14 : decode cX0_sum 14 = .ok (.if_icmp .ge 20, 3) := by decide +kernel
theorem dX0_sum_17 : decode cX0_sum 17 = .ok (.lload 4, 2) := by decide +kernel
theorem dX0_sum_19 : decode cX0_sum 19 = .ok (.aload_n 0, 1) := by decide +kernel
theorem dX0_sum_20 : decode cX0_sum 20 = .ok (.iload 6, 2) := by decide +kernel
theorem dX0_sum_22 : decode cX0_sum 22 = .ok (.baload, 1) := by decide +kernel
theorem dX0_sum_23 : decode cX0_sum 23 = .ok (.invokestatic 15, 3) := by decide +kernel
theorem dX0_sum_26 : decode cX0_sum 26 = .ok (.lstore 4, 2) := by decide +kernel
theorem dX0_sum_28 : decode cX0_sum 28 = .ok (.iinc 6 1, 3) := by decide +kernel
theorem dX0_sum_31 : decode cX0_sum 31 = .ok (.goto (-22), 3) := by decide +kernel
theorem dX0_sum_34 : decode cX0_sum 34 = .ok (.lload 4, 2) := by decide +kernel
theorem dX0_sum_36 : decode cX0_sum 36 = .ok (.lreturn, 1) := by decide +kernel
theorem dX0_putInt_0 : decode cX0_putInt 0 = .ok (.iconst 0, 1) := by decide +kernel
theorem dX0_putInt_1 : decode cX0_putInt 1 = .ok (.istore_n 3, 1) := by decide +kernel
theorem dX0_putInt_2 : decode cX0_putInt 2 = .ok (.iload_n 3, 1) := by decide +kernel
theorem dX0_putInt_3 : decode cX0_putInt 3 = .ok (.iconst 4, 1) := by decide +kernel
theorem dX0_putInt_4 : decode cX0_putInt 4 = .ok (.if_icmp .ge 24, 3) := by decide +kernel
theorem dX0_putInt_7 : decode cX0_putInt 7 = .ok (.aload_n 0, 1) := by decide +kernel
theorem dX0_putInt_8 : decode cX0_putInt 8 = .ok (.iload_n 1, 1) := by decide +kernel
theorem dX0_putInt_9 : decode cX0_putInt 9 = .ok (.iload_n 3, 1) := by decide +kernel
theorem dX0_putInt_10 : decode cX0_putInt 10 = .ok (.iadd, 1) := by decide +kernel
theorem dX0_putInt_11 : decode cX0_putInt 11 = .ok (.iload_n 2, 1) := by decide +kernel
theorem dX0_putInt_12 : decode cX0_putInt 12 = .ok (.bipush 24, 2) := by decide +kernel
theorem dX0_putInt_14 : decode cX0_putInt 14 = .ok (.bipush 8, 2) := by decide +kernel
theorem dX0_putInt_16 : decode cX0_putInt 16 = .ok (.iload_n 3, 1) := by decide +kernel
theorem dX0_putInt_17 : decode cX0_putInt 17 = .ok (.imul, 1) := by decide +kernel
theorem dX0_putInt_18 : decode cX0_putInt 18 = .ok (.isub, 1) := by decide +kernel
theorem dX0_putInt_19 : decode cX0_putInt 19 = .ok (.iushr, 1) := by decide +kernel
theorem dX0_putInt_20 : decode cX0_putInt 20 = .ok (.i2b, 1) := by decide +kernel
theorem dX0_putInt_21 : decode cX0_putInt 21 = .ok (.bastore, 1) := by decide +kernel
theorem dX0_putInt_22 : decode cX0_putInt 22 = .ok (.iinc 3 1, 3) := by decide +kernel
theorem dX0_putInt_25 : decode cX0_putInt 25 = .ok (.goto (-23), 3) := by decide +kernel
theorem dX0_putInt_28 : decode cX0_putInt 28 = .ok (.return_, 1) := by decide +kernel
theorem dX0_putLong_0 : decode cX0_putLong 0 = .ok (.iconst 0, 1) := by decide +kernel
theorem dX0_putLong_1 : decode cX0_putLong 1 = .ok (.istore 4, 2) := by decide +kernel
theorem dX0_putLong_3 : decode cX0_putLong 3 = .ok (.iload 4, 2) := by decide +kernel
theorem dX0_putLong_5 : decode cX0_putLong 5 = .ok (.bipush 8, 2) := by decide +kernel
theorem dX0_putLong_7 : decode cX0_putLong 7 = .ok (.if_icmp .ge 27, 3) := by decide +kernel
theorem dX0_putLong_10 : decode cX0_putLong 10 = .ok (.aload_n 0, 1) := by decide +kernel
theorem dX0_putLong_11 : decode cX0_putLong 11 = .ok (.iload_n 1, 1) := by decide +kernel
theorem dX0_putLong_12 : decode cX0_putLong 12 = .ok (.iload 4, 2) := by decide +kernel
theorem dX0_putLong_14 : decode cX0_putLong 14 = .ok (.iadd, 1) := by decide +kernel
theorem dX0_putLong_15 : decode cX0_putLong 15 = .ok (.lload_n 2, 1) := by decide +kernel
theorem dX0_putLong_16 : decode cX0_putLong 16 = .ok (.bipush 56, 2) := by decide +kernel
theorem dX0_putLong_18 : decode cX0_putLong 18 = .ok (.bipush 8, 2) := by decide +kernel
theorem dX0_putLong_20 : decode cX0_putLong 20 = .ok (.iload 4, 2) := by decide +kernel
theorem dX0_putLong_22 : decode cX0_putLong 22 = .ok (.imul, 1) := by decide +kernel
theorem dX0_putLong_23 : decode cX0_putLong 23 = .ok (.isub, 1) := by decide +kernel
theorem dX0_putLong_24 : decode cX0_putLong 24 = .ok (.lushr, 1) := by decide +kernel
theorem dX0_putLong_25 : decode cX0_putLong 25 = .ok (.l2i, 1) := by decide +kernel
theorem dX0_putLong_26 : decode cX0_putLong 26 = .ok (.i2b, 1) := by decide +kernel
theorem dX0_putLong_27 : decode cX0_putLong 27 = .ok (.bastore, 1) := by decide +kernel
theorem dX0_putLong_28 : decode cX0_putLong 28 = .ok (.iinc 4 1, 3) := by decide +kernel
theorem dX0_putLong_31 : decode cX0_putLong 31 = .ok (.goto (-28), 3) := by decide +kernel
theorem dX0_putLong_34 : decode cX0_putLong 34 = .ok (.return_, 1) := by decide +kernel
theorem dX4_init_0 : decode cX4_init 0 = .ok (.aload_n 0, 1) := by decide +kernel
theorem dX4_init_1 : decode cX4_init 1 = .ok (.invokespecial 3, 3) := by decide +kernel
theorem dX4_init_4 : decode cX4_init 4 = .ok (.aload_n 0, 1) := by decide +kernel
theorem dX4_init_5 : decode cX4_init 5 = .ok (.aload_n 1, 1) := by decide +kernel
theorem dX4_init_6 : decode cX4_init 6 = .ok (.putfield 9, 3) := by decide +kernel
theorem dX4_init_9 : decode cX4_init 9 = .ok (.aload_n 0, 1) := by decide +kernel
theorem dX4_init_10 : decode cX4_init 10 = .ok (.bipush 32, 2) := by decide +kernel
theorem dX4_init_12 : decode cX4_init 12 = .ok (.newarray .byte, 2) := by decide +kernel
theorem dX4_init_14 : decode cX4_init 14 = .ok (.putfield 15, 3) := by decide +kernel
theorem dX4_init_17 : decode cX4_init 17 = .ok (.aload_n 0, 1) := by decide +kernel
theorem dX4_init_18 : decode cX4_init 18 = .ok (.iconst 0, 1) := by decide +kernel
theorem dX4_init_19 : decode cX4_init 19 = .ok (.putfield 19, 3) := by decide +kernel
theorem dX4_init_22 : decode cX4_init 22 = .ok (.aload_n 0, 1) := by decide +kernel
theorem dX4_init_23 : decode cX4_init 23 = .ok (.iconst 1, 1) := by decide +kernel
theorem dX4_init_24 : decode cX4_init 24 = .ok (.putfield 23, 3) := by decide +kernel
theorem dX4_init_27 : decode cX4_init 27 = .ok (.aload_n 0, 1) := by decide +kernel
theorem dX4_init_28 : decode cX4_init 28 = .ok (.iconst 0, 1) := by decide +kernel
theorem dX4_init_29 : decode cX4_init 29 = .ok (.putfield 26, 3) := by decide +kernel
theorem dX4_init_32 : decode cX4_init 32 = .ok (.aload_n 0, 1) := by decide +kernel
theorem dX4_init_33 : decode cX4_init 33 = .ok (.iconst 0, 1) := by decide +kernel
theorem dX4_init_34 : decode cX4_init 34 = .ok (.putfield 29, 3) := by decide +kernel
theorem dX4_init_37 : decode cX4_init 37 = .ok (.aload_n 0, 1) := by decide +kernel
theorem dX4_init_38 : decode cX4_init 38 = .ok (.aload_n 0, 1) := by decide +kernel
theorem dX4_init_39 : decode cX4_init 39 = .ok (.getfield 23, 3) := by decide +kernel
theorem dX4_init_42 : decode cX4_init 42 = .ok (.invokevirtual 32, 3) := by decide +kernel
theorem dX4_init_45 : decode cX4_init 45 = .ok (.aload_n 0, 1) := by decide +kernel
theorem dX4_init_46 : decode cX4_init 46 = .ok (.getfield 15, 3) := by decide +kernel
theorem dX4_init_49 : decode cX4_init 49 = .ok (.iconst 0, 1) := by decide +kernel
theorem dX4_init_50 : decode cX4_init 50 = .ok (.aload_n 1, 1) := by decide +kernel
theorem dX4_init_51 : decode cX4_init 51 = .ok (.getfield 36, 3) := by decide +kernel
theorem dX4_init_54 : decode cX4_init 54 = .ok (.iconst 0, 1) := by decide +kernel
theorem dX4_init_55 : decode cX4_init 55 = .ok (.bipush 16, 2) := by decide +kernel
theorem dX4_init_57 : decode cX4_init 57 = .ok (.invokestatic 41, 3) := by decide +kernel
theorem dX4_init_60 : decode cX4_init 60 = .ok (.return_, 1) := by decide +kernel
theorem dX4_drawHead_0 : decode cX4_drawHead 0 = .ok (.aload_n 0, 1) := by decide +kernel
theorem dX4_drawHead_1 : decode cX4_drawHead 1 = .ok (.getfield 15, 3) := by decide +kernel
theorem dX4_drawHead_4 : decode cX4_drawHead 4 = .ok (.iconst 0, 1) := by decide +kernel
theorem dX4_drawHead_5 : decode cX4_drawHead 5 = .ok (.iload_n 1, 1) := by decide +kernel
theorem dX4_drawHead_6 : decode cX4_drawHead 6 = .ok (.invokestatic 65, 3) := by decide +kernel
theorem dX4_drawHead_9 : decode cX4_drawHead 9 = .ok (.aload_n 0, 1) := by decide +kernel
theorem dX4_drawHead_10 : decode cX4_drawHead 10 = .ok (.getfield 15, 3) := by decide +kernel
theorem dX4_drawHead_13 : decode cX4_drawHead 13 = .ok (.iconst 4, 1) := by decide +kernel
theorem dX4_drawHead_14 : decode cX4_drawHead 14 = .ok (.sipush 165, 3) := by decide +kernel
theorem dX4_drawHead_17 : decode cX4_drawHead 17 = .ok (.invokestatic 65, 3) := by decide +kernel
theorem dX4_drawHead_20 : decode cX4_drawHead 20 = .ok (.aload_n 0, 1) := by decide +kernel
theorem dX4_drawHead_21 : decode cX4_drawHead 21 = .ok (.getfield 15, 3) := by decide +kernel
theorem dX4_drawHead_24 : decode cX4_drawHead 24 = .ok (.bipush 8, 2) := by decide +kernel
theorem dX4_drawHead_26 : decode cX4_drawHead 26 = .ok (.aload_n 0, 1) := by decide +kernel
theorem dX4_drawHead_27 : decode cX4_drawHead 27 = .ok (.getfield 15, 3) := by decide +kernel
theorem dX4_drawHead_30 : decode cX4_drawHead 30 = .ok (.iconst 0, 1) := by decide +kernel
theorem dX4_drawHead_31 : decode cX4_drawHead 31 = .ok (.bipush 8, 2) := by decide +kernel
theorem dX4_drawHead_33 : decode cX4_drawHead 33 = .ok (.iconst 1, 1) := by decide +kernel
theorem dX4_drawHead_34 : decode cX4_drawHead 34 = .ok (.invokestatic 76, 3) := by decide +kernel
theorem dX4_drawHead_37 : decode cX4_drawHead 37 = .ok (.invokestatic 69, 3) := by decide +kernel
theorem dX4_drawHead_40 : decode cX4_drawHead 40 = .ok (.return_, 1) := by decide +kernel
theorem dX9_init_0 : decode cX9_init 0 = .ok (.aload_n 0, 1) := by decide +kernel
theorem dX9_init_1 : decode cX9_init 1 = .ok (.invokespecial 1, 3) := by decide +kernel
theorem dX9_init_4 : decode cX9_init 4 = .ok (.aload_n 0, 1) := by decide +kernel
theorem dX9_init_5 : decode cX9_init 5 = .ok (.ldc 7, 2) := by decide +kernel
theorem dX9_init_7 : decode cX9_init 7 = .ok (.newarray .int, 2) := by decide +kernel
theorem dX9_init_9 : decode cX9_init 9 = .ok (.putfield 8, 3) := by decide +kernel
theorem dX9_init_12 : decode cX9_init 12 = .ok (.aload_n 0, 1) := by decide +kernel
theorem dX9_init_13 : decode cX9_init 13 = .ok (.sipush 400, 3) := by decide +kernel
theorem dX9_init_16 : decode cX9_init 16 = .ok (.newarray .int, 2) := by decide +kernel
theorem dX9_init_18 : decode cX9_init 18 = .ok (.putfield 14, 3) := by decide +kernel
theorem dX9_init_21 : decode cX9_init 21 = .ok (.aload_n 0, 1) := by decide +kernel
theorem dX9_init_22 : decode cX9_init 22 = .ok (.bipush 8, 2) := by decide +kernel
theorem dX9_init_24 : decode cX9_init 24 = .ok (.newarray .int, 2) := by decide +kernel
theorem dX9_init_26 : decode cX9_init 26 = .ok (.putfield 17, 3) := by decide +kernel
theorem dX9_init_29 : decode cX9_init 29 = .ok (.aload_n 0, 1) := by decide +kernel
theorem dX9_init_30 : decode cX9_init 30 = .ok (.bipush 8, 2) := by decide +kernel
theorem dX9_init_32 : decode cX9_init 32 = .ok (.newarray .long, 2) := by decide +kernel
theorem dX9_init_34 : decode cX9_init 34 = .ok (.putfield 20, 3) := by decide +kernel
theorem dX9_init_37 : decode cX9_init 37 = .ok (.aload_n 0, 1) := by decide +kernel
theorem dX9_init_38 : decode cX9_init 38 = .ok (.bipush 32, 2) := by decide +kernel
theorem dX9_init_40 : decode cX9_init 40 = .ok (.newarray .int, 2) := by decide +kernel
theorem dX9_init_42 : decode cX9_init 42 = .ok (.putfield 24, 3) := by decide +kernel
theorem dX9_init_45 : decode cX9_init 45 = .ok (.aload_n 0, 1) := by decide +kernel
theorem dX9_init_46 : decode cX9_init 46 = .ok (.sipush 128, 3) := by decide +kernel
theorem dX9_init_49 : decode cX9_init 49 = .ok (.newarray .long, 2) := by decide +kernel
theorem dX9_init_51 : decode cX9_init 51 = .ok (.putfield 27, 3) := by decide +kernel
theorem dX9_init_54 : decode cX9_init 54 = .ok (.aload_n 0, 1) := by decide +kernel
theorem dX9_init_55 : decode cX9_init 55 = .ok (.sipush 128, 3) := by decide +kernel
theorem dX9_init_58 : decode cX9_init 58 = .ok (.newarray .boolean, 2) := by decide +kernel
theorem dX9_init_60 : decode cX9_init 60 = .ok (.putfield 30, 3) := by decide +kernel
theorem dX9_init_63 : decode cX9_init 63 = .ok (.aload_n 0, 1) := by decide +kernel
theorem dX9_init_64 : decode cX9_init 64 = .ok (.sipush 128, 3) := by decide +kernel
theorem dX9_init_67 : decode cX9_init 67 = .ok (.newarray .boolean, 2) := by decide +kernel
theorem dX9_init_69 : decode cX9_init 69 = .ok (.putfield 34, 3) := by decide +kernel
theorem dX9_init_72 : decode cX9_init 72 = .ok (.aload_n 0, 1) := by decide +kernel
theorem dX9_init_73 : decode cX9_init 73 = .ok (.sipush 130, 3) := by decide +kernel
theorem dX9_init_76 : decode cX9_init 76 = .ok (.newarray .int, 2) := by decide +kernel
theorem dX9_init_78 : decode cX9_init 78 = .ok (.putfield 37, 3) := by decide +kernel
theorem dX9_init_81 : decode cX9_init 81 = .ok (.aload_n 0, 1) := by decide +kernel
theorem dX9_init_82 : decode cX9_init 82 = .ok (.bipush 16, 2) := by decide +kernel
theorem dX9_init_84 : decode cX9_init 84 = .ok (.newarray .long, 2) := by decide +kernel
theorem dX9_init_86 : decode cX9_init 86 = .ok (.putfield 40, 3) := by decide +kernel
theorem dX9_init_89 : decode cX9_init 89 = .ok (.aload_n 0, 1) := by decide +kernel
theorem dX9_init_90 : decode cX9_init 90 = .ok (.sipush 400, 3) := by decide +kernel
theorem dX9_init_93 : decode cX9_init 93 = .ok (.newarray .long, 2) := by decide +kernel
theorem dX9_init_95 : decode cX9_init 95 = .ok (.putfield 43, 3) := by decide +kernel
theorem dX9_init_98 : decode cX9_init 98 = .ok (.aload_n 0, 1) := by decide +kernel
theorem dX9_init_99 : decode cX9_init 99 = .ok (.sipush 128, 3) := by decide +kernel
theorem dX9_init_102 : decode cX9_init 102 = .ok (.newarray .int, 2) := by decide +kernel
theorem dX9_init_104 : decode cX9_init 104 = .ok (.putfield 46, 3) := by decide +kernel
theorem dX9_init_107 : decode cX9_init 107 = .ok (.aload_n 0, 1) := by decide +kernel
theorem dX9_init_108 : decode cX9_init 108 = .ok (.bipush 16, 2) := by decide +kernel
theorem dX9_init_110 : decode cX9_init 110 = .ok (.newarray .int, 2) := by decide +kernel
theorem dX9_init_112 : decode cX9_init 112 = .ok (.putfield 49, 3) := by decide +kernel
theorem dX9_init_115 : decode cX9_init 115 = .ok (.aload_n 0, 1) := by decide +kernel
theorem dX9_init_116 : decode cX9_init 116 = .ok (.bipush 16, 2) := by decide +kernel
theorem dX9_init_118 : decode cX9_init 118 = .ok (.newarray .int, 2) := by decide +kernel
theorem dX9_init_120 : decode cX9_init 120 = .ok (.putfield 52, 3) := by decide +kernel
theorem dX9_init_123 : decode cX9_init 123 = .ok (.aload_n 0, 1) := by decide +kernel
theorem dX9_init_124 : decode cX9_init 124 = .ok (.bipush 16, 2) := by decide +kernel
theorem dX9_init_126 : decode cX9_init 126 = .ok (.newarray .int, 2) := by decide +kernel
theorem dX9_init_128 : decode cX9_init 128 = .ok (.putfield 55, 3) := by decide +kernel
theorem dX9_init_131 : decode cX9_init 131 = .ok (.aload_n 0, 1) := by decide +kernel
theorem dX9_init_132 : decode cX9_init 132 = .ok (.bipush 16, 2) := by decide +kernel
theorem dX9_init_134 : decode cX9_init 134 = .ok (.newarray .long, 2) := by decide +kernel
theorem dX9_init_136 : decode cX9_init 136 = .ok (.putfield 58, 3) := by decide +kernel
theorem dX9_init_139 : decode cX9_init 139 = .ok (.aload_n 0, 1) := by decide +kernel
theorem dX9_init_140 : decode cX9_init 140 = .ok (.iload_n 1, 1) := by decide +kernel
theorem dX9_init_141 : decode cX9_init 141 = .ok (.iconst 1, 1) := by decide +kernel
theorem dX9_init_142 : decode cX9_init 142 = .ok (.if_icmp .ge 7, 3) := by decide +kernel
theorem dX9_init_145 : decode cX9_init 145 = .ok (.iconst 1, 1) := by decide +kernel
theorem dX9_init_146 : decode cX9_init 146 = .ok (.goto 15, 3) := by decide +kernel
theorem dX9_init_149 : decode cX9_init 149 = .ok (.iload_n 1, 1) := by decide +kernel
theorem dX9_init_150 : decode cX9_init 150 = .ok (.ldc 61, 2) := by decide +kernel
theorem dX9_init_152 : decode cX9_init 152 = .ok (.if_icmp .le 8, 3) := by decide +kernel
theorem dX9_init_155 : decode cX9_init 155 = .ok (.ldc 61, 2) := by decide +kernel
theorem dX9_init_157 : decode cX9_init 157 = .ok (.goto 4, 3) := by decide +kernel
theorem dX9_init_160 : decode cX9_init 160 = .ok (.iload_n 1, 1) := by decide +kernel
theorem dX9_init_161 : decode cX9_init 161 = .ok (.putfield 62, 3) := by decide +kernel
theorem dX9_init_164 : decode cX9_init 164 = .ok (.aload_n 0, 1) := by decide +kernel
theorem dX9_init_165 : decode cX9_init 165 = .ok (.sipush 8224, 3) := by decide +kernel
theorem dX9_init_168 : decode cX9_init 168 = .ok (.bipush 26, 2) := by decide +kernel
theorem dX9_init_170 : decode cX9_init 170 = .ok (.aload_n 0, 1) := by decide +kernel
theorem dX9_init_171 : decode cX9_init 171 = .ok (.getfield 62, 3) := by decide +kernel
theorem dX9_init_174 : decode cX9_init 174 = .ok (.imul, 1) := by decide +kernel
theorem dX9_init_175 : decode cX9_init 175 = .ok (.iadd, 1) := by decide +kernel
theorem dX9_init_176 : decode cX9_init 176 = .ok (.putfield 66, 3) := by decide +kernel
theorem dX9_init_179 : decode cX9_init 179 = .ok (.aload_n 0, 1) := by decide +kernel
theorem dX9_init_180 : decode cX9_init 180 = .ok (.iconst (-1), 1) := by decide +kernel
theorem dX9_init_181 : decode cX9_init 181 = .ok (.putfield 69, 3) := by decide +kernel
theorem dX9_init_184 : decode cX9_init 184 = .ok (.aload_n 0, 1) := by decide +kernel
theorem dX9_init_185 : decode cX9_init 185 = .ok (.iconst 1, 1) := by decide +kernel
theorem dX9_init_186 : decode cX9_init 186 = .ok (.putfield 72, 3) := by decide +kernel
theorem dX9_init_189 : decode cX9_init 189 = .ok (.aload_n 0, 1) := by decide +kernel
theorem dX9_init_190 : decode cX9_init 190 = .ok (.iconst 0, 1) := by decide +kernel
theorem dX9_init_191 : decode cX9_init 191 = .ok (.putfield 76, 3) := by decide +kernel
theorem dX9_init_194 : decode cX9_init 194 = .ok (.aload_n 0, 1) := by decide +kernel
theorem dX9_init_195 : decode cX9_init 195 = .ok (.iconst 0, 1) := by decide +kernel
theorem dX9_init_196 : decode cX9_init 196 = .ok (.lconst 1, 1) := by decide +kernel
theorem dX9_init_197 : decode cX9_init 197 = .ok (.iconst 4, 1) := by decide +kernel
theorem dX9_init_198 : decode cX9_init 198 = .ok (.invokevirtual 79, 3) := by decide +kernel
theorem dX9_init_201 : decode cX9_init 201 = .ok (.aload_n 0, 1) := by decide +kernel
theorem dX9_init_202 : decode cX9_init 202 = .ok (.bipush 7, 2) := by decide +kernel
theorem dX9_init_204 : decode cX9_init 204 = .ok (.sipush 165, 3) := by decide +kernel
theorem dX9_init_207 : decode cX9_init 207 = .ok (.invokevirtual 83, 3) := by decide +kernel
theorem dX9_init_210 : decode cX9_init 210 = .ok (.aload_n 0, 1) := by decide +kernel
theorem dX9_init_211 : decode cX9_init 211 = .ok (.bipush 8, 2) := by decide +kernel
theorem dX9_init_213 : decode cX9_init 213 = .ok (.aload_n 0, 1) := by decide +kernel
theorem dX9_init_214 : decode cX9_init 214 = .ok (.iconst 1, 1) := by decide +kernel
theorem dX9_init_215 : decode cX9_init 215 = .ok (.iconst 0, 1) := by decide +kernel
theorem dX9_init_216 : decode cX9_init 216 = .ok (.bipush 8, 2) := by decide +kernel
theorem dX9_init_218 : decode cX9_init 218 = .ok (.invokevirtual 87, 3) := by decide +kernel
theorem dX9_init_221 : decode cX9_init 221 = .ok (.bipush 8, 2) := by decide +kernel
theorem dX9_init_223 : decode cX9_init 223 = .ok (.invokevirtual 79, 3) := by decide +kernel
theorem dX9_init_226 : decode cX9_init 226 = .ok (.return_, 1) := by decide +kernel
theorem dX9_bytesOf_0 : decode cX9_bytesOf 0 = .ok (.iconst 0, 1) := by decide +kernel
theorem dX9_bytesOf_1 : decode cX9_bytesOf 1 = .ok (.istore 5, 2) := by decide +kernel
theorem dX9_bytesOf_3 : decode cX9_bytesOf 3 = .ok (.iload 5, 2) := by decide +kernel
theorem dX9_bytesOf_5 : decode cX9_bytesOf 5 = .ok (.iload 4, 2) := by decide +kernel
theorem dX9_bytesOf_7 : decode cX9_bytesOf 7 = .ok (.if_icmp .ge 34, 3) := by decide +kernel
theorem dX9_bytesOf_10 : decode cX9_bytesOf 10 = .ok (.aload_n 0, 1) := by decide +kernel
theorem dX9_bytesOf_11 : decode cX9_bytesOf 11 = .ok (.iload_n 1, 1) := by decide +kernel
theorem dX9_bytesOf_12 : decode cX9_bytesOf 12 = .ok (.iload 5, 2) := by decide +kernel
theorem dX9_bytesOf_14 : decode cX9_bytesOf 14 = .ok (.iadd, 1) := by decide +kernel
theorem dX9_bytesOf_15 : decode cX9_bytesOf 15 = .ok (.lload_n 2, 1) := by decide +kernel
theorem dX9_bytesOf_16 : decode cX9_bytesOf 16 = .ok (.bipush 8, 2) := by decide +kernel
theorem dX9_bytesOf_18 : decode cX9_bytesOf 18 = .ok (.iload 4, 2) := by decide +kernel
theorem dX9_bytesOf_20 : decode cX9_bytesOf 20 = .ok (.iconst 1, 1) := by decide +kernel
theorem dX9_bytesOf_21 : decode cX9_bytesOf 21 = .ok (.isub, 1) := by decide +kernel
theorem dX9_bytesOf_22 : decode cX9_bytesOf 22 = .ok (.iload 5, 2) := by decide +kernel
theorem dX9_bytesOf_24 : decode cX9_bytesOf 24 = .ok (.isub, 1) := by decide +kernel
theorem dX9_bytesOf_25 : decode cX9_bytesOf 25 = .ok (.imul, 1) := by decide +kernel
theorem dX9_bytesOf_26 : decode cX9_bytesOf 26 = .ok (.lushr, 1) := by decide +kernel
theorem dX9_bytesOf_27 : decode cX9_bytesOf 27 = .ok (.ldc2_w 94, 3) := by decide +kernel
theorem dX9_bytesOf_30 : decode cX9_bytesOf 30 = .ok (.land, 1) := by decide +kernel
theorem dX9_bytesOf_31 : decode cX9_bytesOf 31 = .ok (.l2i, 1) := by decide +kernel
theorem dX9_bytesOf_32 : decode cX9_bytesOf 32 = .ok (.invokevirtual 83, 3) := by decide +kernel
theorem dX9_bytesOf_35 : decode cX9_bytesOf 35 = .ok (.iinc 5 1, 3) := by decide +kernel
theorem dX9_bytesOf_38 : decode cX9_bytesOf 38 = .ok (.goto (-35), 3) := by decide +kernel
theorem dX9_bytesOf_41 : decode cX9_bytesOf 41 = .ok (.return_, 1) := by decide +kernel
theorem dX9_byteIn_0 : decode cX9_byteIn 0 = .ok (.aload_n 0, 1) := by decide +kernel
theorem dX9_byteIn_1 : decode cX9_byteIn 1 = .ok (.getfield 8, 3) := by decide +kernel
theorem dX9_byteIn_4 : decode cX9_byteIn 4 = .ok (.iload_n 1, 1) := by decide +kernel
theorem dX9_byteIn_5 : decode cX9_byteIn 5 = .ok (.iconst 2, 1) := by decide +kernel
theorem dX9_byteIn_6 : decode cX9_byteIn 6 = .ok (.ishr, 1) := by decide +kernel
theorem dX9_byteIn_7 : decode cX9_byteIn 7 = .ok (.iaload, 1) := by decide +kernel
theorem dX9_byteIn_8 : decode cX9_byteIn 8 = .ok (.bipush 8, 2) := by decide +kernel
theorem dX9_byteIn_10 : decode cX9_byteIn 10 = .ok (.iload_n 1, 1) := by decide +kernel
theorem dX9_byteIn_11 : decode cX9_byteIn 11 = .ok (.iconst 3, 1) := by decide +kernel
theorem dX9_byteIn_12 : decode cX9_byteIn 12 = .ok (.iand, 1) := by decide +kernel
theorem dX9_byteIn_13 : decode cX9_byteIn 13 = .ok (.imul, 1) := by decide +kernel
theorem dX9_byteIn_14 : decode cX9_byteIn 14 = .ok (.iushr, 1) := by decide +kernel
theorem dX9_byteIn_15 : decode cX9_byteIn 15 = .ok (.sipush 255, 3) := by decide +kernel
theorem dX9_byteIn_18 : decode cX9_byteIn 18 = .ok (.iand, 1) := by decide +kernel
theorem dX9_byteIn_19 : decode cX9_byteIn 19 = .ok (.ireturn, 1) := by decide +kernel
theorem dX9_set_0 : decode cX9_set 0 = .ok (.bipush 8, 2) := by decide +kernel
theorem dX9_set_2 : decode cX9_set 2 = .ok (.iload_n 1, 1) := by decide +kernel
theorem dX9_set_3 : decode cX9_set 3 = .ok (.iconst 3, 1) := by decide +kernel
theorem dX9_set_4 : decode cX9_set 4 = .ok (.iand, 1) := by decide +kernel
theorem dX9_set_5 : decode cX9_set 5 = .ok (.imul, 1) := by decide +kernel
theorem dX9_set_6 : decode cX9_set 6 = .ok (.istore_n 3, 1) := by decide +kernel
theorem dX9_set_7 : decode cX9_set 7 = .ok (.aload_n 0, 1) := by decide +kernel
theorem dX9_set_8 : decode cX9_set 8 = .ok (.getfield 8, 3) := by decide +kernel
theorem dX9_set_11 : decode cX9_set 11 = .ok (.iload_n 1, 1) := by decide +kernel
theorem dX9_set_12 : decode cX9_set 12 = .ok (.iconst 2, 1) := by decide +kernel
theorem dX9_set_13 : decode cX9_set 13 = .ok (.ishr, 1) := by decide +kernel
theorem dX9_set_14 : decode cX9_set 14 = .ok (.aload_n 0, 1) := by decide +kernel
theorem dX9_set_15 : decode cX9_set 15 = .ok (.getfield 8, 3) := by decide +kernel
theorem dX9_set_18 : decode cX9_set 18 = .ok (.iload_n 1, 1) := by decide +kernel
theorem dX9_set_19 : decode cX9_set 19 = .ok (.iconst 2, 1) := by decide +kernel
theorem dX9_set_20 : decode cX9_set 20 = .ok (.ishr, 1) := by decide +kernel
theorem dX9_set_21 : decode cX9_set 21 = .ok (.iaload, 1) := by decide +kernel
theorem dX9_set_22 : decode cX9_set 22 = .ok (.sipush 255, 3) := by decide +kernel
theorem dX9_set_25 : decode cX9_set 25 = .ok (.iload_n 3, 1) := by decide +kernel
theorem dX9_set_26 : decode cX9_set 26 = .ok (.ishl, 1) := by decide +kernel
theorem dX9_set_27 : decode cX9_set 27 = .ok (.iconst (-1), 1) := by decide +kernel
theorem dX9_set_28 : decode cX9_set 28 = .ok (.ixor, 1) := by decide +kernel
theorem dX9_set_29 : decode cX9_set 29 = .ok (.iand, 1) := by decide +kernel
theorem dX9_set_30 : decode cX9_set 30 = .ok (.iload_n 2, 1) := by decide +kernel
theorem dX9_set_31 : decode cX9_set 31 = .ok (.iload_n 3, 1) := by decide +kernel
theorem dX9_set_32 : decode cX9_set 32 = .ok (.ishl, 1) := by decide +kernel
theorem dX9_set_33 : decode cX9_set 33 = .ok (.ior, 1) := by decide +kernel
theorem dX9_set_34 : decode cX9_set 34 = .ok (.iastore, 1) := by decide +kernel
theorem dX9_set_35 : decode cX9_set 35 = .ok (.return_, 1) := by decide +kernel
theorem dX9_number_0 : decode cX9_number 0 = .ok (.lconst 0, 1) := by decide +kernel
theorem dX9_number_1 : decode cX9_number 1 = .ok (.lstore_n 3, 1) := by decide +kernel
theorem dX9_number_2 : decode cX9_number 2 = .ok (.iconst 0, 1) := by decide +kernel
theorem dX9_number_3 : decode cX9_number 3 = .ok (.istore 5, 2) := by decide +kernel
theorem dX9_number_5 : decode cX9_number 5 = .ok (.iload 5, 2) := by decide +kernel
theorem dX9_number_7 : decode cX9_number 7 = .ok (.iload_n 2, 1) := by decide +kernel
theorem dX9_number_8 : decode cX9_number 8 = .ok (.if_icmp .ge 24, 3) := by decide +kernel
theorem dX9_number_11 : decode cX9_number 11 = .ok (.lload_n 3, 1) := by decide +kernel
theorem dX9_number_12 : decode cX9_number 12 = .ok (.bipush 8, 2) := by decide +kernel
theorem dX9_number_14 : decode cX9_number 14 = .ok (.lshl, 1) := by decide +kernel
theorem dX9_number_15 : decode cX9_number 15 = .ok (.aload_n 0, 1) := by decide +kernel
theorem dX9_number_16 : decode cX9_number 16 = .ok (.iload_n 1, 1) := by decide +kernel
theorem dX9_number_17 : decode cX9_number 17 = .ok (.iload 5, 2) := by decide +kernel
theorem dX9_number_19 : decode cX9_number 19 = .ok (.iadd, 1) := by decide +kernel
theorem dX9_number_20 : decode cX9_number 20 = .ok (.invokevirtual 96, 3) := by decide +kernel
theorem dX9_number_23 : decode cX9_number 23 = .ok (.i2l, 1) := by decide +kernel
theorem dX9_number_24 : decode cX9_number 24 = .ok (.lor, 1) := by decide +kernel
theorem dX9_number_25 : decode cX9_number 25 = .ok (.lstore_n 3, 1) := by decide +kernel
theorem dX9_number_26 : decode cX9_number 26 = .ok (.iinc 5 1, 3) := by decide +kernel
theorem dX9_number_29 : decode cX9_number 29 = .ok (.goto (-24), 3) := by decide +kernel
theorem dX9_number_32 : decode cX9_number 32 = .ok (.lload_n 3, 1) := by decide +kernel
theorem dX9_number_33 : decode cX9_number 33 = .ok (.lreturn, 1) := by decide +kernel
theorem dX9_more_0 : decode cX9_more 0 = .ok (.lload_n 0, 1) := by decide +kernel
theorem dX9_more_1 : decode cX9_more 1 = .ok (.iload_n 2, 1) := by decide +kernel
theorem dX9_more_2 : decode cX9_more 2 = .ok (.i2l, 1) := by decide +kernel
theorem dX9_more_3 : decode cX9_more 3 = .ok (.lxor, 1) := by decide +kernel
theorem dX9_more_4 : decode cX9_more 4 = .ok (.lstore_n 3, 1) := by decide +kernel
theorem dX9_more_5 : decode cX9_more 5 = .ok (.lload_n 3, 1) := by decide +kernel
theorem dX9_more_6 : decode cX9_more 6 = .ok (.bipush 21, 2) := by decide +kernel
theorem dX9_more_8 : decode cX9_more 8 = .ok (.lshl, 1) := by decide +kernel
theorem dX9_more_9 : decode cX9_more 9 = .ok (.lload_n 3, 1) := by decide +kernel
theorem dX9_more_10 : decode cX9_more 10 = .ok (.bipush 43, 2) := by decide +kernel
theorem dX9_more_12 : decode cX9_more 12 = .ok (.lushr, 1) := by decide +kernel
theorem dX9_more_13 : decode cX9_more 13 = .ok (.lor, 1) := by decide +kernel
theorem dX9_more_14 : decode cX9_more 14 = .ok (.ldc2_w 100, 3) := by decide +kernel
theorem dX9_more_17 : decode cX9_more 17 = .ok (.lmul, 1) := by decide +kernel
theorem dX9_more_18 : decode cX9_more 18 = .ok (.lreturn, 1) := by decide +kernel
theorem dX9_sumOf_0 : decode cX9_sumOf 0 = .ok (.ldc2_w 102, 3) := by decide +kernel
theorem dX9_sumOf_3 : decode cX9_sumOf 3 = .ok (.iload_n 1, 1) := by decide +kernel
theorem dX9_sumOf_4 : decode cX9_sumOf 4 = .ok (.i2l, 1) := by decide +kernel
theorem dX9_sumOf_5 : decode cX9_sumOf 5 = .ok (.lmul, 1) := by decide +kernel
theorem dX9_sumOf_6 : decode cX9_sumOf 6 = .ok (.lstore 4, 2) := by decide +kernel
theorem dX9_sumOf_8 : decode cX9_sumOf 8 = .ok (.iconst 0, 1) := by decide +kernel
theorem dX9_sumOf_9 : decode cX9_sumOf 9 = .ok (.istore 6, 2) := by decide +kernel
theorem dX9_sumOf_11 : decode cX9_sumOf 11 = .ok (.iload 6, 2) := by decide +kernel
theorem dX9_sumOf_13 : decode cX9_sumOf 13 = .ok (.iload_n 3, 1) := by decide +kernel
theorem dX9_sumOf_14 : decode cX9_sumOf 14 = .ok (.if_icmp .ge 24, 3) := by decide +kernel
theorem dX9_sumOf_17 : decode cX9_sumOf 17 = .ok (.lload 4, 2) := by decide +kernel
theorem dX9_sumOf_19 : decode cX9_sumOf 19 = .ok (.aload_n 0, 1) := by decide +kernel
theorem dX9_sumOf_20 : decode cX9_sumOf 20 = .ok (.iload_n 2, 1) := by decide +kernel
theorem dX9_sumOf_21 : decode cX9_sumOf 21 = .ok (.iload 6, 2) := by decide +kernel
theorem dX9_sumOf_23 : decode cX9_sumOf 23 = .ok (.iadd, 1) := by decide +kernel
theorem dX9_sumOf_24 : decode cX9_sumOf 24 = .ok (.invokevirtual 96, 3) := by decide +kernel
theorem dX9_sumOf_27 : decode cX9_sumOf 27 = .ok (.invokestatic 104, 3) := by decide +kernel
theorem dX9_sumOf_30 : decode cX9_sumOf 30 = .ok (.lstore 4, 2) := by decide +kernel
theorem dX9_sumOf_32 : decode cX9_sumOf 32 = .ok (.iinc 6 1, 3) := by decide +kernel
theorem dX9_sumOf_35 : decode cX9_sumOf 35 = .ok (.goto (-24), 3) := by decide +kernel
theorem dX9_sumOf_38 : decode cX9_sumOf 38 = .ok (.lload 4, 2) := by decide +kernel
theorem dX9_sumOf_40 : decode cX9_sumOf 40 = .ok (.lreturn, 1) := by decide +kernel
