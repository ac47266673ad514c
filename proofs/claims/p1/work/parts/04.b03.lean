theorem dX9_freshSum_34 : decode cX9_freshSum 34 = .ok (.lload_n 3, 1) := by decide +kernel
theorem dX9_freshSum_35 : decode cX9_freshSum 35 = .ok (.lreturn, 1) := by decide +kernel
theorem dX9_layRow_0 : decode cX9_layRow 0 = .ok (.aload_n 0, 1) := by decide +kernel
theorem dX9_layRow_1 : decode cX9_layRow 1 = .ok (.iconst 0, 1) := by decide +kernel
theorem dX9_layRow_2 : decode cX9_layRow 2 = .ok (.iload_n 1, 1) := by decide +kernel
theorem dX9_layRow_3 : decode cX9_layRow 3 = .ok (.i2l, 1) := by decide +kernel
theorem dX9_layRow_4 : decode cX9_layRow 4 = .ok (.iconst 1, 1) := by decide +kernel
theorem dX9_layRow_5 : decode cX9_layRow 5 = .ok (.invokevirtual 121, 3) := by decide +kernel
theorem dX9_layRow_8 : decode cX9_layRow 8 = .ok (.aload_n 0, 1) := by decide +kernel
theorem dX9_layRow_9 : decode cX9_layRow 9 = .ok (.iconst 1, 1) := by decide +kernel
theorem dX9_layRow_10 : decode cX9_layRow 10 = .ok (.iload_n 2, 1) := by decide +kernel
theorem dX9_layRow_11 : decode cX9_layRow 11 = .ok (.i2l, 1) := by decide +kernel
theorem dX9_layRow_12 : decode cX9_layRow 12 = .ok (.iconst 4, 1) := by decide +kernel
theorem dX9_layRow_13 : decode cX9_layRow 13 = .ok (.invokevirtual 121, 3) := by decide +kernel
theorem dX9_layRow_16 : decode cX9_layRow 16 = .ok (.aload_n 0, 1) := by decide +kernel
theorem dX9_layRow_17 : decode cX9_layRow 17 = .ok (.iconst 5, 1) := by decide +kernel
theorem dX9_layRow_18 : decode cX9_layRow 18 = .ok (.iload_n 3, 1) := by decide +kernel
theorem dX9_layRow_19 : decode cX9_layRow 19 = .ok (.i2l, 1) := by decide +kernel
theorem dX9_layRow_20 : decode cX9_layRow 20 = .ok (.iconst 4, 1) := by decide +kernel
theorem dX9_layRow_21 : decode cX9_layRow 21 = .ok (.invokevirtual 121, 3) := by decide +kernel
theorem dX9_layRow_24 : decode cX9_layRow 24 = .ok (.aload_n 0, 1) := by decide +kernel
theorem dX9_layRow_25 : decode cX9_layRow 25 = .ok (.bipush 9, 2) := by decide +kernel
theorem dX9_layRow_27 : decode cX9_layRow 27 = .ok (.lload 4, 2) := by decide +kernel
theorem dX9_layRow_29 : decode cX9_layRow 29 = .ok (.bipush 8, 2) := by decide +kernel
theorem dX9_layRow_31 : decode cX9_layRow 31 = .ok (.invokevirtual 121, 3) := by decide +kernel
theorem dX9_layRow_34 : decode cX9_layRow 34 = .ok (.aload_n 0, 1) := by decide +kernel
theorem dX9_layRow_35 : decode cX9_layRow 35 = .ok (.bipush 17, 2) := by decide +kernel
theorem dX9_layRow_37 : decode cX9_layRow 37 = .ok (.lconst 0, 1) := by decide +kernel
theorem dX9_layRow_38 : decode cX9_layRow 38 = .ok (.bipush 6, 2) := by decide +kernel
theorem dX9_layRow_40 : decode cX9_layRow 40 = .ok (.invokevirtual 121, 3) := by decide +kernel
theorem dX9_layRow_43 : decode cX9_layRow 43 = .ok (.aload_n 0, 1) := by decide +kernel
theorem dX9_layRow_44 : decode cX9_layRow 44 = .ok (.bipush 23, 2) := by decide +kernel
theorem dX9_layRow_46 : decode cX9_layRow 46 = .ok (.aload_n 0, 1) := by decide +kernel
theorem dX9_layRow_47 : decode cX9_layRow 47 = .ok (.iconst 2, 1) := by decide +kernel
theorem dX9_layRow_48 : decode cX9_layRow 48 = .ok (.bipush 23, 2) := by decide +kernel
theorem dX9_layRow_50 : decode cX9_layRow 50 = .ok (.invokevirtual 124, 3) := by decide +kernel
theorem dX9_layRow_53 : decode cX9_layRow 53 = .ok (.bipush 8, 2) := by decide +kernel
theorem dX9_layRow_55 : decode cX9_layRow 55 = .ok (.invokevirtual 121, 3) := by decide +kernel
theorem dX9_layRow_58 : decode cX9_layRow 58 = .ok (.aload_n 0, 1) := by decide +kernel
theorem dX9_layRow_59 : decode cX9_layRow 59 = .ok (.getfield 24, 3) := by decide +kernel
theorem dX9_layRow_62 : decode cX9_layRow 62 = .ok (.bipush 31, 2) := by decide +kernel
theorem dX9_layRow_64 : decode cX9_layRow 64 = .ok (.sipush 165, 3) := by decide +kernel
theorem dX9_layRow_67 : decode cX9_layRow 67 = .ok (.iastore, 1) := by decide +kernel
theorem dX9_layRow_68 : decode cX9_layRow 68 = .ok (.return_, 1) := by decide +kernel
theorem dX9_writeFresh_0 : decode cX9_writeFresh 0 = .ok (.iconst 0, 1) := by decide +kernel
theorem dX9_writeFresh_1 : decode cX9_writeFresh 1 = .ok (.istore_n 3, 1) := by decide +kernel
theorem dX9_writeFresh_2 : decode cX9_writeFresh 2 = .ok (.iload_n 3, 1) := by decide +kernel
theorem dX9_writeFresh_3 : decode cX9_writeFresh 3 = .ok (.iload_n 2, 1) := by decide +kernel
theorem dX9_writeFresh_4 : decode cX9_writeFresh 4 = .ok (.if_icmp .ge 22, 3) := by decide +kernel
theorem dX9_writeFresh_7 : decode cX9_writeFresh 7 = .ok (.aload_n 0, 1) := by decide +kernel
theorem dX9_writeFresh_8 : decode cX9_writeFresh 8 = .ok (.iload_n 1, 1) := by decide +kernel
theorem dX9_writeFresh_9 : decode cX9_writeFresh 9 = .ok (.iload_n 3, 1) := by decide +kernel
theorem dX9_writeFresh_10 : decode cX9_writeFresh 10 = .ok (.iadd, 1) := by decide +kernel
theorem dX9_writeFresh_11 : decode cX9_writeFresh 11 = .ok (.aload_n 0, 1) := by decide +kernel
theorem dX9_writeFresh_12 : decode cX9_writeFresh 12 = .ok (.getfield 24, 3) := by decide +kernel
theorem dX9_writeFresh_15 : decode cX9_writeFresh 15 = .ok (.iload_n 3, 1) := by decide +kernel
theorem dX9_writeFresh_16 : decode cX9_writeFresh 16 = .ok (.iaload, 1) := by decide +kernel
theorem dX9_writeFresh_17 : decode cX9_writeFresh 17 = .ok (.invokevirtual 128, 3) := by decide +kernel
theorem dX9_writeFresh_20 : decode cX9_writeFresh 20 = .ok (.iinc 3 1, 3) := by decide +kernel
theorem dX9_writeFresh_23 : decode cX9_writeFresh 23 = .ok (.goto (-21), 3) := by decide +kernel
theorem dX9_writeFresh_26 : decode cX9_writeFresh 26 = .ok (.return_, 1) := by decide +kernel
theorem dX9_rowPlace_0 : decode cX9_rowPlace 0 = .ok (.bipush 32, 2) := by decide +kernel
theorem dX9_rowPlace_2 : decode cX9_rowPlace 2 = .ok (.sipush 4096, 3) := by decide +kernel
theorem dX9_rowPlace_5 : decode cX9_rowPlace 5 = .ok (.iload_n 1, 1) := by decide +kernel
theorem dX9_rowPlace_6 : decode cX9_rowPlace 6 = .ok (.imul, 1) := by decide +kernel
theorem dX9_rowPlace_7 : decode cX9_rowPlace 7 = .ok (.iadd, 1) := by decide +kernel
theorem dX9_rowPlace_8 : decode cX9_rowPlace 8 = .ok (.bipush 32, 2) := by decide +kernel
theorem dX9_rowPlace_10 : decode cX9_rowPlace 10 = .ok (.iload_n 2, 1) := by decide +kernel
theorem dX9_rowPlace_11 : decode cX9_rowPlace 11 = .ok (.imul, 1) := by decide +kernel
theorem dX9_rowPlace_12 : decode cX9_rowPlace 12 = .ok (.iadd, 1) := by decide +kernel
theorem dX9_rowPlace_13 : decode cX9_rowPlace 13 = .ok (.ireturn, 1) := by decide +kernel
theorem dX9_pagePlace_0 : decode cX9_pagePlace 0 = .ok (.sipush 8224, 3) := by decide +kernel
theorem dX9_pagePlace_3 : decode cX9_pagePlace 3 = .ok (.bipush 26, 2) := by decide +kernel
theorem dX9_pagePlace_5 : decode cX9_pagePlace 5 = .ok (.iload_n 1, 1) := by decide +kernel
theorem dX9_pagePlace_6 : decode cX9_pagePlace 6 = .ok (.imul, 1) := by decide +kernel
theorem dX9_pagePlace_7 : decode cX9_pagePlace 7 = .ok (.iadd, 1) := by decide +kernel
theorem dX9_pagePlace_8 : decode cX9_pagePlace 8 = .ok (.ireturn, 1) := by decide +kernel
theorem dX9_stateOf_0 : decode cX9_stateOf 0 = .ok (.iconst 1, 1) := by decide +kernel
theorem dX9_stateOf_1 : decode cX9_stateOf 1 = .ok (.istore 4, 2) := by decide +kernel
theorem dX9_stateOf_3 : decode cX9_stateOf 3 = .ok (.iconst 1, 1) := by decide +kernel
theorem dX9_stateOf_4 : decode cX9_stateOf 4 = .ok (.istore 5, 2) := by decide +kernel
theorem dX9_stateOf_6 : decode cX9_stateOf 6 = .ok (.iconst 0, 1) := by decide +kernel
theorem dX9_stateOf_7 : decode cX9_stateOf 7 = .ok (.istore 6, 2) := by decide +kernel
theorem dX9_stateOf_9 : decode cX9_stateOf 9 = .ok (.iload 6, 2) := by decide +kernel
theorem dX9_stateOf_11 : decode cX9_stateOf 11 = .ok (.iload_n 2, 1) := by decide +kernel
theorem dX9_stateOf_12 : decode cX9_stateOf 12 = .ok (.if_icmp .ge 59, 3) := by decide +kernel
theorem dX9_stateOf_15 : decode cX9_stateOf 15 = .ok (.iload 4, 2) := by decide +kernel
theorem dX9_stateOf_17 : decode cX9_stateOf 17 = .ok (.aload_n 0, 1) := by decide +kernel
theorem dX9_stateOf_18 : decode cX9_stateOf 18 = .ok (.iload_n 1, 1) := by decide +kernel
theorem dX9_stateOf_19 : decode cX9_stateOf 19 = .ok (.iload 6, 2) := by decide +kernel
theorem dX9_stateOf_21 : decode cX9_stateOf 21 = .ok (.iadd, 1) := by decide +kernel
theorem dX9_stateOf_22 : decode cX9_stateOf 22 = .ok (.invokevirtual 96, 3) := by decide +kernel
theorem dX9_stateOf_25 : decode cX9_stateOf 25 = .ok (.ifCond .ne 7, 3) := by decide +kernel
theorem dX9_stateOf_28 : decode cX9_stateOf 28 = .ok (.iconst 1, 1) := by decide +kernel
theorem dX9_stateOf_29 : decode cX9_stateOf 29 = .ok (.goto 4, 3) := by decide +kernel
theorem dX9_stateOf_33 : decode cX9_stateOf 33 = .ok (.iand, 1) := by decide +kernel
theorem dX9_stateOf_34 : decode cX9_stateOf 34 = .ok (.istore 4, 2) := by decide +kernel
theorem dX9_stateOf_36 : decode cX9_stateOf 36 = .ok (.iload 5, 2) := by decide +kernel
theorem dX9_stateOf_38 : decode cX9_stateOf 38 = .ok (.iload 6, 2) := by decide +kernel
theorem dX9_stateOf_40 : decode cX9_stateOf 40 = .ok (.iload_n 2, 1) := by decide +kernel
theorem dX9_stateOf_41 : decode cX9_stateOf 41 = .ok (.iconst 1, 1) := by decide +kernel
theorem dX9_stateOf_42 : decode cX9_stateOf 42 = .ok (.isub, 1) := by decide +kernel
theorem dX9_stateOf_43 : decode cX9_stateOf 43 = .ok (.if_icmp .eq 14, 3) := by decide +kernel
theorem dX9_stateOf_46 : decode cX9_stateOf 46 = .ok (.aload_n 0, 1) := by decide +kernel
theorem dX9_stateOf_47 : decode cX9_stateOf 47 = .ok (.iload_n 1, 1) := by decide +kernel
theorem dX9_stateOf_48 : decode cX9_stateOf 48 = .ok (.iload 6, 2) := by decide +kernel
theorem dX9_stateOf_50 : decode cX9_stateOf 50 = .ok (.iadd, 1) := by decide +kernel
theorem dX9_stateOf_51 : decode cX9_stateOf 51 = .ok (.invokevirtual 96, 3) := by decide +kernel
theorem dX9_stateOf_54 : decode cX9_stateOf 54 = .ok (.ifCond .ne 7, 3) := by decide +kernel
theorem dX9_stateOf_57 : decode cX9_stateOf 57 = .ok (.iconst 1, 1) := by decide +kernel
theorem dX9_stateOf_58 : decode cX9_stateOf 58 = .ok (.goto 4, 3) := by decide +kernel
theorem dX9_stateOf_62 : decode cX9_stateOf 62 = .ok (.iand, 1) := by decide +kernel
theorem dX9_stateOf_63 : decode cX9_stateOf 63 = .ok (.istore 5, 2) := by decide +kernel
theorem dX9_stateOf_65 : decode cX9_stateOf 65 = .ok (.iinc 6 1, 3) := by decide +kernel
theorem dX9_stateOf_68 : decode cX9_stateOf 68 = .ok (.goto (-59), 3) := by decide +kernel
theorem dX9_stateOf_71 : decode cX9_stateOf 71 = .ok (.iload 4, 2) := by decide +kernel
theorem dX9_stateOf_73 : decode cX9_stateOf 73 = .ok (.ifCond .eq 5, 3) := by decide +kernel
theorem dX9_stateOf_76 : decode cX9_stateOf 76 = .ok (.iconst 0, 1) := by decide +kernel
theorem dX9_stateOf_77 : decode cX9_stateOf 77 = .ok (.ireturn, 1) := by decide +kernel
theorem dX9_pageState_0 : decode cX9_pageState 0 = .ok (.aload_n 0, 1) := by decide +kernel
theorem dX9_pageState_1 : decode cX9_pageState 1 = .ok (.aload_n 0, 1) := by decide +kernel
theorem dX9_pageState_2 : decode cX9_pageState 2 = .ok (.iload_n 1, 1) := by decide +kernel
theorem dX9_pageState_3 : decode cX9_pageState 3 = .ok (.invokevirtual 154, 3) := by decide +kernel
theorem dX9_pageState_6 : decode cX9_pageState 6 = .ok (.bipush 26, 2) := by decide +kernel
theorem dX9_pageState_8 : decode cX9_pageState 8 = .ok (.iconst 3, 1) := by decide +kernel
theorem dX9_pageState_9 : decode cX9_pageState 9 = .ok (.invokevirtual 150, 3) := by decide +kernel
theorem dX9_pageState_12 : decode cX9_pageState 12 = .ok (.ireturn, 1) := by decide +kernel
theorem dX9_rows_0 : decode cX9_rows 0 = .ok (.aload_n 0, 1) := by decide +kernel
theorem dX9_rows_1 : decode cX9_rows 1 = .ok (.getfield 157, 3) := by decide +kernel
theorem dX9_rows_4 : decode cX9_rows 4 = .ok (.ireturn, 1) := by decide +kernel
theorem dX9_badRows_0 : decode cX9_badRows 0 = .ok (.iconst 0, 1) := by decide +kernel
theorem dX9_badRows_1 : decode cX9_badRows 1 = .ok (.istore_n 1, 1) := by decide +kernel
theorem dX9_badRows_2 : decode cX9_badRows 2 = .ok (.aload_n 0, 1) := by decide +kernel
theorem dX9_badRows_3 : decode cX9_badRows 3 = .ok (.invokevirtual 163, 3) := by decide +kernel
theorem dX9_badRows_6 : decode cX9_badRows 6 = .ok (.istore_n 2, 1) := by decide +kernel
theorem dX9_badRows_7 : decode cX9_badRows 7 = .ok (.iconst 0, 1) := by decide +kernel
theorem dX9_badRows_8 : decode cX9_badRows 8 = .ok (.istore_n 3, 1) := by decide +kernel
theorem dX9_badRows_9 : decode cX9_badRows 9 = .ok (.iload_n 3, 1) := by decide +kernel
theorem dX9_badRows_10 : decode cX9_badRows 10 = .ok (.iload_n 2, 1) := by decide +kernel
theorem dX9_badRows_11 : decode cX9_badRows 11 = .ok (.if_icmp .ge 26, 3) := by decide +kernel
theorem dX9_badRows_37 : decode cX9_badRows 37 = .ok (.iload_n 1, 1) := by decide +kernel
theorem dX9_badRows_38 : decode cX9_badRows 38 = .ok (.ireturn, 1) := by decide +kernel
theorem dX9_read_0 : decode cX9_read 0 = .ok (.aload_n 0, 1) := by decide +kernel
theorem dX9_read_1 : decode cX9_read 1 = .ok (.aload_n 0, 1) := by decide +kernel
theorem dX9_read_2 : decode cX9_read 2 = .ok (.invokevirtual 163, 3) := by decide +kernel
theorem dX9_read_5 : decode cX9_read 5 = .ok (.putfield 167, 3) := by decide +kernel
theorem dX9_read_8 : decode cX9_read 8 = .ok (.aload_n 0, 1) := by decide +kernel
theorem dX9_read_9 : decode cX9_read 9 = .ok (.aload_n 0, 1) := by decide +kernel
theorem dX9_read_10 : decode cX9_read 10 = .ok (.invokevirtual 173, 3) := by decide +kernel
theorem dX9_read_13 : decode cX9_read 13 = .ok (.ifCond .le 7, 3) := by decide +kernel
theorem dX9_read_20 : decode cX9_read 20 = .ok (.iconst 0, 1) := by decide +kernel
theorem dX9_read_21 : decode cX9_read 21 = .ok (.putfield 176, 3) := by decide +kernel
theorem dX9_read_24 : decode cX9_read 24 = .ok (.aload_n 0, 1) := by decide +kernel
theorem dX9_read_25 : decode cX9_read 25 = .ok (.iconst (-1), 1) := by decide +kernel
theorem dX9_read_26 : decode cX9_read 26 = .ok (.putfield 179, 3) := by decide +kernel
theorem dX9_read_29 : decode cX9_read 29 = .ok (.aload_n 0, 1) := by decide +kernel
theorem dX9_read_30 : decode cX9_read 30 = .ok (.iconst 0, 1) := by decide +kernel
theorem dX9_read_31 : decode cX9_read 31 = .ok (.putfield 182, 3) := by decide +kernel
theorem dX9_read_34 : decode cX9_read 34 = .ok (.aload_n 0, 1) := by decide +kernel
theorem dX9_read_35 : decode cX9_read 35 = .ok (.lconst 0, 1) := by decide +kernel
theorem dX9_read_36 : decode cX9_read 36 = .ok (.putfield 185, 3) := by decide +kernel
theorem dX9_read_39 : decode cX9_read 39 = .ok (.aload_n 0, 1) := by decide +kernel
theorem dX9_read_40 : decode cX9_read 40 = .ok (.iconst 0, 1) := by decide +kernel
theorem dX9_read_41 : decode cX9_read 41 = .ok (.putfield 189, 3) := by decide +kernel
theorem dX9_read_44 : decode cX9_read 44 = .ok (.aload_n 0, 1) := by decide +kernel
theorem dX9_read_45 : decode cX9_read 45 = .ok (.iconst 0, 1) := by decide +kernel
theorem dX9_read_46 : decode cX9_read 46 = .ok (.putfield 192, 3) := by decide +kernel
theorem dX9_read_49 : decode cX9_read 49 = .ok (.aload_n 0, 1) := by decide +kernel
theorem dX9_read_50 : decode cX9_read 50 = .ok (.lconst 0, 1) := by decide +kernel
theorem dX9_read_51 : decode cX9_read 51 = .ok (.putfield 195, 3) := by decide +kernel
theorem dX9_read_54 : decode cX9_read 54 = .ok (.iconst 0, 1) := by decide +kernel
theorem dX9_read_55 : decode cX9_read 55 = .ok (.istore_n 1, 1) := by decide +kernel
theorem dX9_read_56 : decode cX9_read 56 = .ok (.iload_n 1, 1) := by decide +kernel
theorem dX9_read_57 : decode cX9_read 57 = .ok (.sipush 128, 3) := by decide +kernel
theorem dX9_read_60 : decode cX9_read 60 = .ok (.if_icmp .ge 30, 3) := by decide +kernel
theorem dX9_read_63 : decode cX9_read 63 = .ok (.aload_n 0, 1) := by decide +kernel
theorem dX9_read_64 : decode cX9_read 64 = .ok (.getfield 27, 3) := by decide +kernel
theorem dX9_read_67 : decode cX9_read 67 = .ok (.iload_n 1, 1) := by decide +kernel
theorem dX9_read_68 : decode cX9_read 68 = .ok (.lconst 0, 1) := by decide +kernel
theorem dX9_read_69 : decode cX9_read 69 = .ok (.lastore, 1) := by decide +kernel
theorem dX9_read_70 : decode cX9_read 70 = .ok (.aload_n 0, 1) := by decide +kernel
theorem dX9_read_71 : decode cX9_read 71 = .ok (.getfield 30, 3) := by decide +kernel
theorem dX9_read_74 : decode cX9_read 74 = .ok (.iload_n 1, 1) := by decide +kernel
theorem dX9_read_75 : decode cX9_read 75 = .ok (.iconst 0, 1) := by decide +kernel
theorem dX9_read_76 : decode cX9_read 76 = .ok (.bastore, 1) := by decide +kernel
theorem dX9_read_77 : decode cX9_read 77 = .ok (.aload_n 0, 1) := by decide +kernel
theorem dX9_read_78 : decode cX9_read 78 = .ok (.getfield 34, 3) := by decide +kernel
theorem dX9_read_81 : decode cX9_read 81 = .ok (.iload_n 1, 1) := by decide +kernel
theorem dX9_read_82 : decode cX9_read 82 = .ok (.iconst 0, 1) := by decide +kernel
theorem dX9_read_83 : decode cX9_read 83 = .ok (.bastore, 1) := by decide +kernel
theorem dX9_read_84 : decode cX9_read 84 = .ok (.iinc 1 1, 3) := by decide +kernel
theorem dX9_read_87 : decode cX9_read 87 = .ok (.goto (-31), 3) := by decide +kernel
theorem dX9_read_90 : decode cX9_read 90 = .ok (.iconst 0, 1) := by decide +kernel
theorem dX9_read_91 : decode cX9_read 91 = .ok (.istore_n 1, 1) := by decide +kernel
theorem dX9_read_92 : decode cX9_read 92 = .ok (.iload_n 1, 1) := by decide +kernel
theorem dX9_read_93 : decode cX9_read 93 = .ok (.aload_n 0, 1) := by decide +kernel
theorem dX9_read_94 : decode cX9_read 94 = .ok (.getfield 167, 3) := by decide +kernel
theorem dX9_read_97 : decode cX9_read 97 = .ok (.if_icmp .ge 64, 3) := by decide +kernel
theorem dX9_read_161 : decode cX9_read 161 = .ok (.return_, 1) := by decide +kernel
theorem dX9_numberSum_0 : decode cX9_numberSum 0 = .ok (.lload_n 1, 1) := by decide +kernel
theorem dX9_numberSum_1 : decode cX9_numberSum 1 = .ok (.lstore 6, 2) := by decide +kernel
theorem dX9_numberSum_3 : decode cX9_numberSum 3 = .ok (.iload 5, 2) := by decide +kernel
theorem dX9_numberSum_5 : decode cX9_numberSum 5 = .ok (.iconst 1, 1) := by decide +kernel
theorem dX9_numberSum_6 : decode cX9_numberSum 6 = .ok (.isub, 1) := by decide +kernel
theorem dX9_numberSum_7 : decode cX9_numberSum 7 = .ok (.istore 8, 2) := by decide +kernel
theorem dX9_numberSum_9 : decode cX9_numberSum 9 = .ok (.iload 8, 2) := by decide +kernel
theorem dX9_numberSum_11 : decode cX9_numberSum 11 = .ok (.ifCond .lt 28, 3) := by decide +kernel
theorem dX9_numberSum_14 : decode cX9_numberSum 14 = .ok (.lload 6, 2) := by decide +kernel
theorem dX9_numberSum_16 : decode cX9_numberSum 16 = .ok (.lload_n 3, 1) := by decide +kernel
theorem dX9_numberSum_17 : decode cX9_numberSum 17 = .ok (.bipush 8, 2) := by decide +kernel
theorem dX9_numberSum_19 : decode cX9_numberSum 19 = .ok (.iload 8, 2) := by decide +kernel
theorem dX9_numberSum_21 : decode cX9_numberSum 21 = .ok (.imul, 1) := by decide +kernel
theorem dX9_numberSum_22 : decode cX9_numberSum 22 = .ok (.lushr, 1) := by decide +kernel
theorem dX9_numberSum_23 : decode cX9_numberSum 23 = .ok (.ldc2_w 94, 3) := by decide +kernel
theorem dX9_numberSum_26 : decode cX9_numberSum 26 = .ok (.land, 1) := by decide +kernel
theorem dX9_numberSum_27 : decode cX9_numberSum 27 = .ok (.l2i, 1) := by decide +kernel
theorem dX9_numberSum_28 : decode cX9_numberSum 28 = .ok (.invokestatic 104, 3) := by decide +kernel
theorem dX9_numberSum_31 : decode cX9_numberSum 31 = .ok (.lstore 6, 2) := by decide +kernel
theorem dX9_numberSum_33 : decode cX9_numberSum 33 = .ok (.iinc 8 (-1), 3) := by decide +kernel
theorem dX9_numberSum_36 : decode cX9_numberSum 36 = .ok (.goto (-27), 3) := by decide +kernel
theorem dX9_numberSum_39 : decode cX9_numberSum 39 = .ok (.lload 6, 2) := by decide +kernel
theorem dX9_numberSum_41 : decode cX9_numberSum 41 = .ok (.lreturn, 1) := by decide +kernel
theorem dX9_blockRow_0 : decode cX9_blockRow 0 = .ok (.iconst 0, 1) := by decide +kernel
theorem dX9_blockRow_1 : decode cX9_blockRow 1 = .ok (.istore 4, 2) := by decide +kernel
theorem dX9_blockRow_3 : decode cX9_blockRow 3 = .ok (.iload 4, 2) := by decide +kernel
theorem dX9_blockRow_5 : decode cX9_blockRow 5 = .ok (.iload_n 3, 1) := by decide +kernel
theorem dX9_blockRow_6 : decode cX9_blockRow 6 = .ok (.if_icmp .ge 44, 3) := by decide +kernel
theorem dX9_blockRow_50 : decode cX9_blockRow 50 = .ok (.iconst (-1), 1) := by decide +kernel
theorem dX9_blockRow_51 : decode cX9_blockRow 51 = .ok (.ireturn, 1) := by decide +kernel
theorem dX9_versionState_0 : decode cX9_versionState 0 = .ok (.iconst 0, 1) := by decide +kernel
theorem dX9_versionState_1 : decode cX9_versionState 1 = .ok (.istore_n 2, 1) := by decide +kernel
theorem dX9_versionState_2 : decode cX9_versionState 2 = .ok (.iload_n 2, 1) := by decide +kernel
theorem dX9_versionState_3 : decode cX9_versionState 3 = .ok (.bipush 16, 2) := by decide +kernel
theorem dX9_versionState_5 : decode cX9_versionState 5 = .ok (.if_icmp .ge 16, 3) := by decide +kernel
theorem dX9_versionState_8 : decode cX9_versionState 8 = .ok (.aload_n 0, 1) := by decide +kernel
theorem dX9_versionState_9 : decode cX9_versionState 9 = .ok (.getfield 40, 3) := by decide +kernel
theorem dX9_versionState_12 : decode cX9_versionState 12 = .ok (.iload_n 2, 1) := by decide +kernel
theorem dX9_versionState_13 : decode cX9_versionState 13 = .ok (.lconst 0, 1) := by decide +kernel
theorem dX9_versionState_14 : decode cX9_versionState 14 = .ok (.lastore, 1) := by decide +kernel
theorem dX9_versionState_15 : decode cX9_versionState 15 = .ok (.iinc 2 1, 3) := by decide +kernel
theorem dX9_versionState_18 : decode cX9_versionState 18 = .ok (.goto (-16), 3) := by decide +kernel
theorem dX9_versionState_21 : decode cX9_versionState 21 = .ok (.aload_n 0, 1) := by decide +kernel
theorem dX9_versionState_22 : decode cX9_versionState 22 = .ok (.getfield 189, 3) := by decide +kernel
theorem dX9_versionState_25 : decode cX9_versionState 25 = .ok (.ifCond .eq 8, 3) := by decide +kernel
theorem dX9_versionState_33 : decode cX9_versionState 33 = .ok (.iconst 1, 1) := by decide +kernel
theorem dX9_versionState_34 : decode cX9_versionState 34 = .ok (.istore_n 2, 1) := by decide +kernel
theorem dX9_versionState_35 : decode cX9_versionState 35 = .ok (.iload_n 2, 1) := by decide +kernel
theorem dX9_versionState_36 : decode cX9_versionState 36 = .ok (.iload_n 1, 1) := by decide +kernel
theorem dX9_versionState_37 : decode cX9_versionState 37 = .ok (.aload_n 0, 1) := by decide +kernel
theorem dX9_versionState_38 : decode cX9_versionState 38 = .ok (.getfield 182, 3) := by decide +kernel
theorem dX9_versionState_41 : decode cX9_versionState 41 = .ok (.isub, 1) := by decide +kernel
theorem dX9_versionState_42 : decode cX9_versionState 42 = .ok (.if_icmp .gt 19, 3) := by decide +kernel
theorem dX9_versionState_61 : decode cX9_versionState 61 = .ok (.return_, 1) := by decide +kernel
theorem dX9_isKept_0 : decode cX9_isKept 0 = .ok (.aload_n 0, 1) := by decide +kernel
theorem dX9_isKept_1 : decode cX9_isKept 1 = .ok (.getfield 176, 3) := by decide +kernel
theorem dX9_isKept_4 : decode cX9_isKept 4 = .ok (.ifCond .ne 23, 3) := by decide +kernel
theorem dX9_isKept_7 : decode cX9_isKept 7 = .ok (.iload_n 1, 1) := by decide +kernel
theorem dX9_isKept_8 : decode cX9_isKept 8 = .ok (.aload_n 0, 1) := by decide +kernel
theorem dX9_isKept_9 : decode cX9_isKept 9 = .ok (.getfield 182, 3) := by decide +kernel
theorem dX9_isKept_12 : decode cX9_isKept 12 = .ok (.if_icmp .lt 15, 3) := by decide +kernel
theorem dX9_isKept_15 : decode cX9_isKept 15 = .ok (.iload_n 1, 1) := by decide +kernel
theorem dX9_isKept_16 : decode cX9_isKept 16 = .ok (.aload_n 0, 1) := by decide +kernel
theorem dX9_isKept_17 : decode cX9_isKept 17 = .ok (.getfield 192, 3) := by decide +kernel
theorem dX9_isKept_20 : decode cX9_isKept 20 = .ok (.if_icmp .gt 7, 3) := by decide +kernel
theorem dX9_isKept_23 : decode cX9_isKept 23 = .ok (.iconst 1, 1) := by decide +kernel
theorem dX9_isKept_24 : decode cX9_isKept 24 = .ok (.goto 4, 3) := by decide +kernel
theorem dX9_isKept_27 : decode cX9_isKept 27 = .ok (.iconst 0, 1) := by decide +kernel
theorem dX9_isKept_28 : decode cX9_isKept 28 = .ok (.ireturn, 1) := by decide +kernel
theorem dX9_pageOf_0 : decode cX9_pageOf 0 = .ok (.iconst 0, 1) := by decide +kernel
theorem dX9_pageOf_1 : decode cX9_pageOf 1 = .ok (.istore_n 3, 1) := by decide +kernel
theorem dX9_pageOf_2 : decode cX9_pageOf 2 = .ok (.iload_n 3, 1) := by decide +kernel
theorem dX9_pageOf_3 : decode cX9_pageOf 3 = .ok (.aload_n 0, 1) := by decide +kernel
theorem dX9_pageOf_4 : decode cX9_pageOf 4 = .ok (.getfield 62, 3) := by decide +kernel
theorem dX9_pageOf_7 : decode cX9_pageOf 7 = .ok (.if_icmp .ge 39, 3) := by decide +kernel
theorem dX9_pageOf_10 : decode cX9_pageOf 10 = .ok (.aload_n 0, 1) := by decide +kernel
theorem dX9_pageOf_11 : decode cX9_pageOf 11 = .ok (.aload_n 0, 1) := by decide +kernel
theorem dX9_pageOf_12 : decode cX9_pageOf 12 = .ok (.iload_n 3, 1) := by decide +kernel
theorem dX9_pageOf_13 : decode cX9_pageOf 13 = .ok (.invokevirtual 154, 3) := by decide +kernel
theorem dX9_pageOf_16 : decode cX9_pageOf 16 = .ok (.bipush 17, 2) := by decide +kernel
theorem dX9_pageOf_18 : decode cX9_pageOf 18 = .ok (.iadd, 1) := by decide +kernel
theorem dX9_pageOf_19 : decode cX9_pageOf 19 = .ok (.bipush 8, 2) := by decide +kernel
theorem dX9_pageOf_21 : decode cX9_pageOf 21 = .ok (.invokevirtual 131, 3) := by decide +kernel
theorem dX9_pageOf_24 : decode cX9_pageOf 24 = .ok (.lload_n 1, 1) := by decide +kernel
theorem dX9_pageOf_25 : decode cX9_pageOf 25 = .ok (.lcmp, 1) := by decide +kernel
theorem dX9_pageOf_26 : decode cX9_pageOf 26 = .ok (.ifCond .ne 14, 3) := by decide +kernel
theorem dX9_pageOf_29 : decode cX9_pageOf 29 = .ok (.aload_n 0, 1) := by decide +kernel
theorem dX9_pageOf_30 : decode cX9_pageOf 30 = .ok (.iload_n 3, 1) := by decide +kernel
theorem dX9_pageOf_31 : decode cX9_pageOf 31 = .ok (.invokevirtual 238, 3) := by decide +kernel
theorem dX9_pageOf_34 : decode cX9_pageOf 34 = .ok (.iconst 1, 1) := by decide +kernel
theorem dX9_pageOf_35 : decode cX9_pageOf 35 = .ok (.if_icmp .ne 5, 3) := by decide +kernel
theorem dX9_pageOf_40 : decode cX9_pageOf 40 = .ok (.iinc 3 1, 3) := by decide +kernel
theorem dX9_pageOf_43 : decode cX9_pageOf 43 = .ok (.goto (-41), 3) := by decide +kernel
theorem dX9_pageOf_46 : decode cX9_pageOf 46 = .ok (.iconst (-1), 1) := by decide +kernel
theorem dX9_pageOf_47 : decode cX9_pageOf 47 = .ok (.ireturn, 1) := by decide +kernel
theorem dX9_open_0 : decode cX9_open 0 = .ok (.aload_n 0, 1) := by decide +kernel
theorem dX9_open_1 : decode cX9_open 1 = .ok (.iconst 0, 1) := by decide +kernel
theorem dX9_open_2 : decode cX9_open 2 = .ok (.putfield 91, 3) := by decide +kernel
theorem dX9_open_5 : decode cX9_open 5 = .ok (.aload_n 0, 1) := by decide +kernel
theorem dX9_open_6 : decode cX9_open 6 = .ok (.getfield 72, 3) := by decide +kernel
theorem dX9_open_9 : decode cX9_open 9 = .ok (.ifCond .eq 8, 3) := by decide +kernel
theorem dX9_open_12 : decode cX9_open 12 = .ok (.aload_n 0, 1) := by decide +kernel
theorem dX9_open_13 : decode cX9_open 13 = .ok (.invokevirtual 163, 3) := by decide +kernel
theorem dX9_open_16 : decode cX9_open 16 = .ok (.ireturn, 1) := by decide +kernel
theorem dX9_badPages_0 : decode cX9_badPages 0 = .ok (.iconst 0, 1) := by decide +kernel
theorem dX9_badPages_1 : decode cX9_badPages 1 = .ok (.istore_n 1, 1) := by decide +kernel
theorem dX9_badPages_2 : decode cX9_badPages 2 = .ok (.iconst 0, 1) := by decide +kernel
theorem dX9_badPages_3 : decode cX9_badPages 3 = .ok (.istore_n 2, 1) := by decide +kernel
theorem dX9_badPages_4 : decode cX9_badPages 4 = .ok (.iload_n 2, 1) := by decide +kernel
theorem dX9_badPages_5 : decode cX9_badPages 5 = .ok (.aload_n 0, 1) := by decide +kernel
theorem dX9_badPages_6 : decode cX9_badPages 6 = .ok (.getfield 62, 3) := by decide +kernel
theorem dX9_badPages_9 : decode cX9_badPages 9 = .ok (.if_icmp .ge 26, 3) := by decide +kernel
theorem dX9_badPages_12 : decode cX9_badPages 12 = .ok (.iload_n 1, 1) := by decide +kernel
theorem dX9_badPages_13 : decode cX9_badPages 13 = .ok (.aload_n 0, 1) := by decide +kernel
theorem dX9_badPages_14 : decode cX9_badPages 14 = .ok (.iload_n 2, 1) := by decide +kernel
theorem dX9_badPages_15 : decode cX9_badPages 15 = .ok (.invokevirtual 238, 3) := by decide +kernel
theorem dX9_badPages_18 : decode cX9_badPages 18 = .ok (.iconst 3, 1) := by decide +kernel
theorem dX9_badPages_19 : decode cX9_badPages 19 = .ok (.if_icmp .ne 7, 3) := by decide +kernel
theorem dX9_badPages_26 : decode cX9_badPages 26 = .ok (.iconst 0, 1) := by decide +kernel
theorem dX9_badPages_27 : decode cX9_badPages 27 = .ok (.iadd, 1) := by decide +kernel
theorem dX9_badPages_28 : decode cX9_badPages 28 = .ok (.istore_n 1, 1) := by decide +kernel
theorem dX9_badPages_29 : decode cX9_badPages 29 = .ok (.iinc 2 1, 3) := by decide +kernel
theorem dX9_badPages_32 : decode cX9_badPages 32 = .ok (.goto (-28), 3) := by decide +kernel
theorem dX9_badPages_35 : decode cX9_badPages 35 = .ok (.iload_n 1, 1) := by decide +kernel
theorem dX9_badPages_36 : decode cX9_badPages 36 = .ok (.ireturn, 1) := by decide +kernel
theorem dX9_asked_0 : decode cX9_asked 0 = .ok (.aload_n 0, 1) := by decide +kernel
theorem dX9_asked_1 : decode cX9_asked 1 = .ok (.aload_n 0, 1) := by decide +kernel
theorem dX9_asked_2 : decode cX9_asked 2 = .ok (.getfield 72, 3) := by decide +kernel
theorem dX9_asked_5 : decode cX9_asked 5 = .ok (.ifCond .eq 7, 3) := by decide +kernel
theorem dX9_asked_8 : decode cX9_asked 8 = .ok (.iconst 0, 1) := by decide +kernel
theorem dX9_asked_9 : decode cX9_asked 9 = .ok (.goto 4, 3) := by decide +kernel
theorem dX9_asked_13 : decode cX9_asked 13 = .ok (.putfield 91, 3) := by decide +kernel
theorem dX9_asked_16 : decode cX9_asked 16 = .ok (.aload_n 0, 1) := by decide +kernel
theorem dX9_asked_17 : decode cX9_asked 17 = .ok (.getfield 72, 3) := by decide +kernel
theorem dX9_asked_20 : decode cX9_asked 20 = .ok (.ifCond .eq 7, 3) := by decide +kernel
theorem dX9_asked_23 : decode cX9_asked 23 = .ok (.iload_n 1, 1) := by decide +kernel
theorem dX9_asked_24 : decode cX9_asked 24 = .ok (.ifCond .ge 5, 3) := by decide +kernel
theorem dX9_asked_27 : decode cX9_asked 27 = .ok (.iconst (-1), 1) := by decide +kernel
theorem dX9_asked_28 : decode cX9_asked 28 = .ok (.ireturn, 1) := by decide +kernel
theorem dX9_asked_29 : decode cX9_asked 29 = .ok (.iload_n 1, 1) := by decide +kernel
theorem dX9_asked_30 : decode cX9_asked 30 = .ok (.istore_n 2, 1) := by decide +kernel
theorem dX9_asked_31 : decode cX9_asked 31 = .ok (.aload_n 0, 1) := by decide +kernel
theorem dX9_asked_32 : decode cX9_asked 32 = .ok (.invokevirtual 163, 3) := by decide +kernel
theorem dX9_asked_35 : decode cX9_asked 35 = .ok (.istore_n 3, 1) := by decide +kernel
theorem dX9_asked_36 : decode cX9_asked 36 = .ok (.iconst 0, 1) := by decide +kernel
theorem dX9_asked_37 : decode cX9_asked 37 = .ok (.istore 4, 2) := by decide +kernel
theorem dX9_asked_39 : decode cX9_asked 39 = .ok (.iload 4, 2) := by decide +kernel
theorem dX9_asked_41 : decode cX9_asked 41 = .ok (.iload_n 3, 1) := by decide +kernel
theorem dX9_asked_42 : decode cX9_asked 42 = .ok (.if_icmp .ge 29, 3) := by decide +kernel
theorem dX9_asked_71 : decode cX9_asked 71 = .ok (.iconst 0, 1) := by decide +kernel
theorem dX9_asked_72 : decode cX9_asked 72 = .ok (.istore 4, 2) := by decide +kernel
theorem dX9_asked_74 : decode cX9_asked 74 = .ok (.iload 4, 2) := by decide +kernel
theorem dX9_asked_76 : decode cX9_asked 76 = .ok (.aload_n 0, 1) := by decide +kernel
theorem dX9_asked_77 : decode cX9_asked 77 = .ok (.getfield 62, 3) := by decide +kernel
theorem dX9_asked_80 : decode cX9_asked 80 = .ok (.if_icmp .ge 33, 3) := by decide +kernel
theorem dX9_asked_83 : decode cX9_asked 83 = .ok (.aload_n 0, 1) := by decide +kernel
theorem dX9_asked_84 : decode cX9_asked 84 = .ok (.iload 4, 2) := by decide +kernel
theorem dX9_asked_86 : decode cX9_asked 86 = .ok (.invokevirtual 238, 3) := by decide +kernel
theorem dX9_asked_89 : decode cX9_asked 89 = .ok (.iconst 3, 1) := by decide +kernel
theorem dX9_asked_90 : decode cX9_asked 90 = .ok (.if_icmp .ne 17, 3) := by decide +kernel
theorem dX9_asked_107 : decode cX9_asked 107 = .ok (.iinc 4 1, 3) := by decide +kernel
theorem dX9_asked_110 : decode cX9_asked 110 = .ok (.goto (-36), 3) := by decide +kernel
theorem dX9_asked_113 : decode cX9_asked 113 = .ok (.iconst (-1), 1) := by decide +kernel
theorem dX9_asked_114 : decode cX9_asked 114 = .ok (.ireturn, 1) := by decide +kernel
theorem dX9_isAsked_0 : decode cX9_isAsked 0 = .ok (.iload_n 1, 1) := by decide +kernel
theorem dX9_isAsked_1 : decode cX9_isAsked 1 = .ok (.ifCond .lt 15, 3) := by decide +kernel
theorem dX9_isAsked_4 : decode cX9_isAsked 4 = .ok (.iload_n 1, 1) := by decide +kernel
theorem dX9_isAsked_5 : decode cX9_isAsked 5 = .ok (.sipush 128, 3) := by decide +kernel
theorem dX9_isAsked_8 : decode cX9_isAsked 8 = .ok (.aload_n 0, 1) := by decide +kernel
theorem dX9_isAsked_9 : decode cX9_isAsked 9 = .ok (.getfield 62, 3) := by decide +kernel
theorem dX9_isAsked_12 : decode cX9_isAsked 12 = .ok (.iadd, 1) := by decide +kernel
theorem dX9_isAsked_13 : decode cX9_isAsked 13 = .ok (.if_icmp .lt 5, 3) := by decide +kernel
theorem dX9_isAsked_16 : decode cX9_isAsked 16 = .ok (.iconst 0, 1) := by decide +kernel
theorem dX9_isAsked_17 : decode cX9_isAsked 17 = .ok (.ireturn, 1) := by decide +kernel
theorem dX9_isAsked_18 : decode cX9_isAsked 18 = .ok (.iload_n 1, 1) := by decide +kernel
theorem dX9_isAsked_19 : decode cX9_isAsked 19 = .ok (.sipush 128, 3) := by decide +kernel
theorem dX9_isAsked_22 : decode cX9_isAsked 22 = .ok (.if_icmp .ge 28, 3) := by decide +kernel
theorem dX9_isAsked_25 : decode cX9_isAsked 25 = .ok (.iload_n 1, 1) := by decide +kernel
theorem dX9_isAsked_26 : decode cX9_isAsked 26 = .ok (.aload_n 0, 1) := by decide +kernel
theorem dX9_isAsked_27 : decode cX9_isAsked 27 = .ok (.invokevirtual 163, 3) := by decide +kernel
theorem dX9_isAsked_30 : decode cX9_isAsked 30 = .ok (.if_icmp .ge 16, 3) := by decide +kernel
theorem dX9_isAsked_46 : decode cX9_isAsked 46 = .ok (.iconst 0, 1) := by decide +kernel
theorem dX9_isAsked_47 : decode cX9_isAsked 47 = .ok (.goto 21, 3) := by decide +kernel
theorem dX9_isAsked_50 : decode cX9_isAsked 50 = .ok (.aload_n 0, 1) := by decide +kernel
theorem dX9_isAsked_51 : decode cX9_isAsked 51 = .ok (.iload_n 1, 1) := by decide +kernel
theorem dX9_isAsked_52 : decode cX9_isAsked 52 = .ok (.sipush 128, 3) := by decide +kernel
theorem dX9_isAsked_55 : decode cX9_isAsked 55 = .ok (.isub, 1) := by decide +kernel
theorem dX9_isAsked_56 : decode cX9_isAsked 56 = .ok (.invokevirtual 238, 3) := by decide +kernel
theorem dX9_isAsked_59 : decode cX9_isAsked 59 = .ok (.iconst 3, 1) := by decide +kernel
theorem dX9_isAsked_60 : decode cX9_isAsked 60 = .ok (.if_icmp .ne 7, 3) := by decide +kernel
theorem dX9_isAsked_67 : decode cX9_isAsked 67 = .ok (.iconst 0, 1) := by decide +kernel
theorem dX9_isAsked_68 : decode cX9_isAsked 68 = .ok (.ireturn, 1) := by decide +kernel
theorem dX9_mend_0 : decode cX9_mend 0 = .ok (.aload_n 0, 1) := by decide +kernel
theorem dX9_mend_1 : decode cX9_mend 1 = .ok (.aload_n 0, 1) := by decide +kernel
theorem dX9_mend_2 : decode cX9_mend 2 = .ok (.getfield 72, 3) := by decide +kernel
theorem dX9_mend_5 : decode cX9_mend 5 = .ok (.ifCond .ne 7, 3) := by decide +kernel
theorem dX9_mend_12 : decode cX9_mend 12 = .ok (.aload_n 0, 1) := by decide +kernel
theorem dX9_mend_13 : decode cX9_mend 13 = .ok (.iload_n 1, 1) := by decide +kernel
theorem dX9_mend_14 : decode cX9_mend 14 = .ok (.invokevirtual 268, 3) := by decide +kernel
theorem dX9_mend_17 : decode cX9_mend 17 = .ok (.ifCond .ne 7, 3) := by decide +kernel
theorem dX9_mend_20 : decode cX9_mend 20 = .ok (.iconst 2, 1) := by decide +kernel
theorem dX9_mend_21 : decode cX9_mend 21 = .ok (.goto 4, 3) := by decide +kernel
theorem dX9_mend_25 : decode cX9_mend 25 = .ok (.putfield 91, 3) := by decide +kernel
theorem dX9_mend_28 : decode cX9_mend 28 = .ok (.aload_n 0, 1) := by decide +kernel
theorem dX9_mend_29 : decode cX9_mend 29 = .ok (.getfield 91, 3) := by decide +kernel
theorem dX9_mend_32 : decode cX9_mend 32 = .ok (.ifCond .le 5, 3) := by decide +kernel
theorem dX9_mend_35 : decode cX9_mend 35 = .ok (.iconst 0, 1) := by decide +kernel
theorem dX9_mend_36 : decode cX9_mend 36 = .ok (.ireturn, 1) := by decide +kernel
theorem dX9_feed_0 : decode cX9_feed 0 = .ok (.aload_n 0, 1) := by decide +kernel
theorem dX9_feed_1 : decode cX9_feed 1 = .ok (.iload_n 3, 1) := by decide +kernel
theorem dX9_feed_2 : decode cX9_feed 2 = .ok (.iconst 1, 1) := by decide +kernel
theorem dX9_feed_3 : decode cX9_feed 3 = .ok (.bipush 8, 2) := by decide +kernel
theorem dX9_feed_5 : decode cX9_feed 5 = .ok (.invokestatic 138, 3) := by decide +kernel
theorem dX9_feed_8 : decode cX9_feed 8 = .ok (.ifCond .eq 15, 3) := by decide +kernel
theorem dX9_feed_11 : decode cX9_feed 11 = .ok (.aload_n 0, 1) := by decide +kernel
theorem dX9_feed_12 : decode cX9_feed 12 = .ok (.getfield 271, 3) := by decide +kernel
theorem dX9_feed_15 : decode cX9_feed 15 = .ok (.iload_n 3, 1) := by decide +kernel
theorem dX9_feed_16 : decode cX9_feed 16 = .ok (.iadd, 1) := by decide +kernel
theorem dX9_feed_17 : decode cX9_feed 17 = .ok (.sipush 400, 3) := by decide +kernel
theorem dX9_feed_20 : decode cX9_feed 20 = .ok (.if_icmp .le 7, 3) := by decide +kernel
theorem dX9_feed_23 : decode cX9_feed 23 = .ok (.iconst 1, 1) := by decide +kernel
theorem dX9_feed_24 : decode cX9_feed 24 = .ok (.goto 4, 3) := by decide +kernel
theorem dX9_feed_27 : decode cX9_feed 27 = .ok (.iconst 0, 1) := by decide +kernel
theorem dX9_feed_28 : decode cX9_feed 28 = .ok (.putfield 91, 3) := by decide +kernel
theorem dX9_feed_31 : decode cX9_feed 31 = .ok (.aload_n 0, 1) := by decide +kernel
theorem dX9_feed_32 : decode cX9_feed 32 = .ok (.getfield 91, 3) := by decide +kernel
theorem dX9_feed_35 : decode cX9_feed 35 = .ok (.ifCond .le 5, 3) := by decide +kernel
theorem dX9_feed_38 : decode cX9_feed 38 = .ok (.iconst 0, 1) := by decide +kernel
theorem dX9_feed_39 : decode cX9_feed 39 = .ok (.ireturn, 1) := by decide +kernel
theorem dX9_feed_40 : decode cX9_feed 40 = .ok (.iload_n 3, 1) := by decide +kernel
theorem dX9_feed_41 : decode cX9_feed 41 = .ok (.iconst 1, 1) := by decide +kernel
theorem dX9_feed_42 : decode cX9_feed 42 = .ok (.isub, 1) := by decide +kernel
theorem dX9_feed_43 : decode cX9_feed 43 = .ok (.istore 4, 2) := by decide +kernel
theorem dX9_feed_45 : decode cX9_feed 45 = .ok (.iload 4, 2) := by decide +kernel
theorem dX9_feed_47 : decode cX9_feed 47 = .ok (.ifCond .lt 37, 3) := by decide +kernel
theorem dX9_feed_50 : decode cX9_feed 50 = .ok (.aload_n 0, 1) := by decide +kernel
theorem dX9_feed_51 : decode cX9_feed 51 = .ok (.getfield 14, 3) := by decide +kernel
theorem dX9_feed_54 : decode cX9_feed 54 = .ok (.aload_n 0, 1) := by decide +kernel
theorem dX9_feed_55 : decode cX9_feed 55 = .ok (.dup, 1) := by decide +kernel
theorem dX9_feed_56 : decode cX9_feed 56 = .ok (.getfield 271, 3) := by decide +kernel
theorem dX9_feed_59 : decode cX9_feed 59 = .ok (.dup_x1, 1) := by decide +kernel
theorem dX9_feed_60 : decode cX9_feed 60 = .ok (.iconst 1, 1) := by decide +kernel
theorem dX9_feed_61 : decode cX9_feed 61 = .ok (.iadd, 1) := by decide +kernel
theorem dX9_feed_62 : decode cX9_feed 62 = .ok (.putfield 271, 3) := by decide +kernel
theorem dX9_feed_65 : decode cX9_feed 65 = .ok (.lload_n 1, 1) := by decide +kernel
theorem dX9_feed_66 : decode cX9_feed 66 = .ok (.bipush 8, 2) := by decide +kernel
theorem dX9_feed_68 : decode cX9_feed 68 = .ok (.iload 4, 2) := by decide +kernel
theorem dX9_feed_70 : decode cX9_feed 70 = .ok (.imul, 1) := by decide +kernel
theorem dX9_feed_71 : decode cX9_feed 71 = .ok (.lushr, 1) := by decide +kernel
theorem dX9_feed_72 : decode cX9_feed 72 = .ok (.ldc2_w 94, 3) := by decide +kernel
theorem dX9_feed_75 : decode cX9_feed 75 = .ok (.land, 1) := by decide +kernel
theorem dX9_feed_76 : decode cX9_feed 76 = .ok (.l2i, 1) := by decide +kernel
theorem dX9_feed_77 : decode cX9_feed 77 = .ok (.iastore, 1) := by decide +kernel
theorem dX9_feed_78 : decode cX9_feed 78 = .ok (.iinc 4 (-1), 3) := by decide +kernel
theorem dX9_feed_81 : decode cX9_feed 81 = .ok (.goto (-36), 3) := by decide +kernel
theorem dX9_feed_84 : decode cX9_feed 84 = .ok (.aload_n 0, 1) := by decide +kernel
theorem dX9_feed_85 : decode cX9_feed 85 = .ok (.getfield 271, 3) := by decide +kernel
theorem dX9_feed_88 : decode cX9_feed 88 = .ok (.ireturn, 1) := by decide +kernel
theorem dX9_wipe_0 : decode cX9_wipe 0 = .ok (.aload_n 0, 1) := by decide +kernel
theorem dX9_wipe_1 : decode cX9_wipe 1 = .ok (.iconst 0, 1) := by decide +kernel
theorem dX9_wipe_2 : decode cX9_wipe 2 = .ok (.putfield 91, 3) := by decide +kernel
theorem dX9_wipe_5 : decode cX9_wipe 5 = .ok (.aload_n 0, 1) := by decide +kernel
theorem dX9_wipe_6 : decode cX9_wipe 6 = .ok (.getfield 271, 3) := by decide +kernel
theorem dX9_wipe_9 : decode cX9_wipe 9 = .ok (.istore_n 1, 1) := by decide +kernel
theorem dX9_wipe_10 : decode cX9_wipe 10 = .ok (.aload_n 0, 1) := by decide +kernel
theorem dX9_wipe_11 : decode cX9_wipe 11 = .ok (.iconst 0, 1) := by decide +kernel
theorem dX9_wipe_12 : decode cX9_wipe 12 = .ok (.putfield 271, 3) := by decide +kernel
theorem dX9_wipe_15 : decode cX9_wipe 15 = .ok (.iload_n 1, 1) := by decide +kernel
theorem dX9_wipe_16 : decode cX9_wipe 16 = .ok (.ireturn, 1) := by decide +kernel
theorem dX9_at_0 : decode cX9_at 0 = .ok (.aload_n 0, 1) := by decide +kernel
theorem dX9_at_1 : decode cX9_at 1 = .ok (.iload_n 1, 1) := by decide +kernel
theorem dX9_at_2 : decode cX9_at 2 = .ok (.iconst 0, 1) := by decide +kernel
theorem dX9_at_3 : decode cX9_at 3 = .ok (.aload_n 0, 1) := by decide +kernel
theorem dX9_at_4 : decode cX9_at 4 = .ok (.getfield 271, 3) := by decide +kernel
theorem dX9_at_7 : decode cX9_at 7 = .ok (.iconst 1, 1) := by decide +kernel
theorem dX9_at_8 : decode cX9_at 8 = .ok (.isub, 1) := by decide +kernel
theorem dX9_at_9 : decode cX9_at 9 = .ok (.invokestatic 138, 3) := by decide +kernel
theorem dX9_at_12 : decode cX9_at 12 = .ok (.ifCond .eq 7, 3) := by decide +kernel
theorem dX9_at_19 : decode cX9_at 19 = .ok (.iconst 1, 1) := by decide +kernel
theorem dX9_at_20 : decode cX9_at 20 = .ok (.putfield 91, 3) := by decide +kernel
theorem dX9_at_23 : decode cX9_at 23 = .ok (.aload_n 0, 1) := by decide +kernel
theorem dX9_at_24 : decode cX9_at 24 = .ok (.getfield 91, 3) := by decide +kernel
theorem dX9_at_27 : decode cX9_at 27 = .ok (.ifCond .le 7, 3) := by decide +kernel
theorem dX9_at_30 : decode cX9_at 30 = .ok (.iconst 0, 1) := by decide +kernel
theorem dX9_at_31 : decode cX9_at 31 = .ok (.goto 9, 3) := by decide +kernel
theorem dX9_at_40 : decode cX9_at 40 = .ok (.ireturn, 1) := by decide +kernel
theorem dX9_leaf_0 : decode cX9_leaf 0 = .ok (.aload_n 0, 1) := by decide +kernel
theorem dX9_leaf_1 : decode cX9_leaf 1 = .ok (.aload_n 0, 1) := by decide +kernel
theorem dX9_leaf_2 : decode cX9_leaf 2 = .ok (.getfield 72, 3) := by decide +kernel
theorem dX9_leaf_5 : decode cX9_leaf 5 = .ok (.ifCond .ne 7, 3) := by decide +kernel
theorem dX9_leaf_12 : decode cX9_leaf 12 = .ok (.aload_n 0, 1) := by decide +kernel
theorem dX9_leaf_13 : decode cX9_leaf 13 = .ok (.getfield 271, 3) := by decide +kernel
theorem dX9_leaf_16 : decode cX9_leaf 16 = .ok (.iconst 1, 1) := by decide +kernel
theorem dX9_leaf_17 : decode cX9_leaf 17 = .ok (.bipush 16, 2) := by decide +kernel
theorem dX9_leaf_19 : decode cX9_leaf 19 = .ok (.invokestatic 138, 3) := by decide +kernel
theorem dX9_leaf_22 : decode cX9_leaf 22 = .ok (.ifCond .ne 7, 3) := by decide +kernel
theorem dX9_leaf_25 : decode cX9_leaf 25 = .ok (.iconst 2, 1) := by decide +kernel
theorem dX9_leaf_26 : decode cX9_leaf 26 = .ok (.goto 4, 3) := by decide +kernel
theorem dX9_leaf_30 : decode cX9_leaf 30 = .ok (.putfield 91, 3) := by decide +kernel
theorem dX9_leaf_33 : decode cX9_leaf 33 = .ok (.aload_n 0, 1) := by decide +kernel
theorem dX9_leaf_34 : decode cX9_leaf 34 = .ok (.getfield 91, 3) := by decide +kernel
