theorem dX9_bytesOf_14 : decode cX9_bytesOf 14 = .ok (.iadd, 1) := by decide +kernel
theorem dX9_bytesOf_15 : decode cX9_bytesOf 15 = .ok (.lload_n 2, 1) := by decide +kernel
theorem dX9_bytesOf_16 : decode cX9_bytesOf 16 = .ok (.bipush 8, 2) := by decide +kernel
theorem dX9_bytesOf_18 : decode cX9_bytesOf 18 = .ok (.iload 4, 2) := by decide +kernel
theorem dX9_bytesOf_20 : decode cX9_bytesOf 20 = .ok (.iconst 1, 1) := by decide +kernel
theorem dX9_bytesOf_21 : decode cX9_bytesOf 21 = .ok (.isub, 1) := by decide +kernel
theorem dX9_bytesOf_22 : decode cX9_bytesOf 22 = .ok (.iload 5, 2) := by decide +kernel
theorem dX9_bytesOf_24 : decode cX9_bytesOf 24 = .ok (.isub, 1) := by decide +kernel
theorem dX9_bytesOf_25 : decode cX9_bytesOf 25 = .ok (.imul, 1) := by decide +kernel
theorem dX9_bytesOf_26 : decode cX9_bytesOf 26 = .ok (.lushr, 1) := by decide +kernel
theorem dX9_bytesOf_27 : decode cX9_bytesOf 27 = .ok (.ldc2_w 94, 3) := by decide +kernel
theorem dX9_bytesOf_30 : decode cX9_bytesOf 30 = .ok (.land, 1) := by decide +kernel
theorem dX9_bytesOf_31 : decode cX9_bytesOf 31 = .ok (.l2i, 1) := by decide +kernel
theorem dX9_bytesOf_32 : decode cX9_bytesOf 32 = .ok (.invokevirtual 83, 3) := by decide +kernel
theorem dX9_bytesOf_35 : decode cX9_bytesOf 35 = .ok (.iinc 5 1, 3) := by decide +kernel
theorem dX9_bytesOf_38 : decode cX9_bytesOf 38 = .ok (.goto (-35), 3) := by decide +kernel
theorem dX9_bytesOf_41 : decode cX9_bytesOf 41 = .ok (.return_, 1) := by decide +kernel
theorem dX9_byteIn_0 : decode cX9_byteIn 0 = .ok (.aload_n 0, 1) := by decide +kernel
theorem dX9_byteIn_1 : decode cX9_byteIn 1 = .ok (.getfield 8, 3) := by decide +kernel
theorem dX9_byteIn_4 : decode cX9_byteIn 4 = .ok (.iload_n 1, 1) := by decide +kernel
theorem dX9_byteIn_5 : decode cX9_byteIn 5 = .ok (.iconst 2, 1) := by decide +kernel
theorem dX9_byteIn_6 : decode cX9_byteIn 6 = .ok (.ishr, 1) := by decide +kernel
theorem dX9_byteIn_7 : decode cX9_byteIn 7 = .ok (.iaload, 1) := by decide +kernel
theorem dX9_byteIn_8 : decode cX9_byteIn 8 = .ok (.bipush 8, 2) := by decide +kernel
theorem dX9_byteIn_10 : decode cX9_byteIn 10 = .ok (.iload_n 1, 1) := by decide +kernel
theorem dX9_byteIn_11 : decode cX9_byteIn 11 = .ok (.iconst 3, 1) := by decide +kernel
theorem dX9_byteIn_12 : decode cX9_byteIn 12 = .ok (.iand, 1) := by decide +kernel
theorem dX9_byteIn_13 : decode cX9_byteIn 13 = .ok (.imul, 1) := by decide +kernel
theorem dX9_byteIn_14 : decode cX9_byteIn 14 = .ok (.iushr, 1) := by decide +kernel
theorem dX9_byteIn_15 : decode cX9_byteIn 15 = .ok (.sipush 255, 3) := by decide +kernel
theorem dX9_byteIn_18 : decode cX9_byteIn 18 = .ok (.iand, 1) := by decide +kernel
theorem dX9_byteIn_19 : decode cX9_byteIn 19 = .ok (.ireturn, 1) := by decide +kernel
theorem dX9_set_0 : decode cX9_set 0 = .ok (.bipush 8, 2) := by decide +kernel
theorem dX9_set_2 : decode cX9_set 2 = .ok (.iload_n 1, 1) := by decide +kernel
theorem dX9_set_3 : decode cX9_set 3 = .ok (.iconst 3, 1) := by decide +kernel
theorem dX9_set_4 : decode cX9_set 4 = .ok (.iand, 1) := by decide +kernel
theorem dX9_set_5 : decode cX9_set 5 = .ok (.imul, 1) := by decide +kernel
theorem dX9_set_6 : decode cX9_set 6 = .ok (.istore_n 3, 1) := by decide +kernel
theorem dX9_set_7 : decode cX9_set 7 = .ok (.aload_n 0, 1) := by decide +kernel
theorem dX9_set_8 : decode cX9_set 8 = .ok (.getfield 8, 3) := by decide +kernel
theorem dX9_set_11 : decode cX9_set 11 = .ok (.iload_n 1, 1) := by decide +kernel
theorem dX9_set_12 : decode cX9_set 12 = .ok (.iconst 2, 1) := by decide +kernel
theorem dX9_set_13 : decode cX9_set 13 = .ok (.ishr, 1) := by decide +kernel
theorem dX9_set_14 : decode cX9_set 14 = .ok (.aload_n 0, 1) := by decide +kernel
theorem dX9_set_15 : decode cX9_set 15 = .ok (.getfield 8, 3) := by decide +kernel
theorem dX9_set_18 : decode cX9_set 18 = .ok (.iload_n 1, 1) := by decide +kernel
theorem dX9_set_19 : decode cX9_set 19 = .ok (.iconst 2, 1) := by decide +kernel
theorem dX9_set_20 : decode cX9_set 20 = .ok (.ishr, 1) := by decide +kernel
theorem dX9_set_21 : decode cX9_set 21 = .ok (.iaload, 1) := by decide +kernel
theorem dX9_set_22 : decode cX9_set 22 = .ok (.sipush 255, 3) := by decide +kernel
theorem dX9_set_25 : decode cX9_set 25 = .ok (.iload_n 3, 1) := by decide +kernel
theorem dX9_set_26 : decode cX9_set 26 = .ok (.ishl, 1) := by decide +kernel
theorem dX9_set_27 : decode cX9_set 27 = .ok (.iconst (-1), 1) := by decide +kernel
theorem dX9_set_28 : decode cX9_set 28 = .ok (.ixor, 1) := by decide +kernel
theorem dX9_set_29 : decode cX9_set 29 = .ok (.iand, 1) := by decide +kernel
theorem dX9_set_30 : decode cX9_set 30 = .ok (.iload_n 2, 1) := by decide +kernel
theorem dX9_set_31 : decode cX9_set 31 = .ok (.iload_n 3, 1) := by decide +kernel
theorem dX9_set_32 : decode cX9_set 32 = .ok (.ishl, 1) := by decide +kernel
theorem dX9_set_33 : decode cX9_set 33 = .ok (.ior, 1) := by decide +kernel
theorem dX9_set_34 : decode cX9_set 34 = .ok (.iastore, 1) := by decide +kernel
theorem dX9_set_35 : decode cX9_set 35 = .ok (.return_, 1) := by decide +kernel
theorem dX9_number_0 : decode cX9_number 0 = .ok (.lconst 0, 1) := by decide +kernel
theorem dX9_number_1 : decode cX9_number 1 = .ok (.lstore_n 3, 1) := by decide +kernel
theorem dX9_number_2 : decode cX9_number 2 = .ok (.iconst 0, 1) := by decide +kernel
theorem dX9_number_3 : decode cX9_number 3 = .ok (.istore 5, 2) := by decide +kernel
theorem dX9_number_5 : decode cX9_number 5 = .ok (.iload 5, 2) := by decide +kernel
theorem dX9_number_7 : decode cX9_number 7 = .ok (.iload_n 2, 1) := by decide +kernel
theorem dX9_number_8 : decode cX9_number 8 = .ok (.if_icmp .ge 24, 3) := by decide +kernel
theorem dX9_number_11 : decode cX9_number 11 = .ok (.lload_n 3, 1) := by decide +kernel
theorem dX9_number_12 : decode cX9_number 12 = .ok (.bipush 8, 2) := by decide +kernel
theorem dX9_number_14 : decode cX9_number 14 = .ok (.lshl, 1) := by decide +kernel
theorem dX9_number_15 : decode cX9_number 15 = .ok (.aload_n 0, 1) := by decide +kernel
theorem dX9_number_16 : decode cX9_number 16 = .ok (.iload_n 1, 1) := by decide +kernel
theorem dX9_number_17 : decode cX9_number 17 = .ok (.iload 5, 2) := by decide +kernel
theorem dX9_number_19 : decode cX9_number 19 = .ok (.iadd, 1) := by decide +kernel
theorem dX9_number_20 : decode cX9_number 20 = .ok (.invokevirtual 96, 3) := by decide +kernel
theorem dX9_number_23 : decode cX9_number 23 = .ok (.i2l, 1) := by decide +kernel
theorem dX9_number_24 : decode cX9_number 24 = .ok (.lor, 1) := by decide +kernel
theorem dX9_number_25 : decode cX9_number 25 = .ok (.lstore_n 3, 1) := by decide +kernel
theorem dX9_number_26 : decode cX9_number 26 = .ok (.iinc 5 1, 3) := by decide +kernel
theorem dX9_number_29 : decode cX9_number 29 = .ok (.goto (-24), 3) := by decide +kernel
theorem dX9_number_32 : decode cX9_number 32 = .ok (.lload_n 3, 1) := by decide +kernel
theorem dX9_number_33 : decode cX9_number 33 = .ok (.lreturn, 1) := by decide +kernel
theorem dX9_more_0 : decode cX9_more 0 = .ok (.lload_n 0, 1) := by decide +kernel
theorem dX9_more_1 : decode cX9_more 1 = .ok (.iload_n 2, 1) := by decide +kernel
theorem dX9_more_2 : decode cX9_more 2 = .ok (.i2l, 1) := by decide +kernel
theorem dX9_more_3 : decode cX9_more 3 = .ok (.lxor, 1) := by decide +kernel
theorem dX9_more_4 : decode cX9_more 4 = .ok (.lstore_n 3, 1) := by decide +kernel
theorem dX9_more_5 : decode cX9_more 5 = .ok (.lload_n 3, 1) := by decide +kernel
theorem dX9_more_6 : decode cX9_more 6 = .ok (.bipush 21, 2) := by decide +kernel
theorem dX9_more_8 : decode cX9_more 8 = .ok (.lshl, 1) := by decide +kernel
theorem dX9_more_9 : decode cX9_more 9 = .ok (.lload_n 3, 1) := by decide +kernel
theorem dX9_more_10 : decode cX9_more 10 = .ok (.bipush 43, 2) := by decide +kernel
theorem dX9_more_12 : decode cX9_more 12 = .ok (.lushr, 1) := by decide +kernel
theorem dX9_more_13 : decode cX9_more 13 = .ok (.lor, 1) := by decide +kernel
theorem dX9_more_14 : decode cX9_more 14 = .ok (.ldc2_w 100, 3) := by decide +kernel
theorem dX9_more_17 : decode cX9_more 17 = .ok (.lmul, 1) := by decide +kernel
theorem dX9_more_18 : decode cX9_more 18 = .ok (.lreturn, 1) := by decide +kernel
theorem dX9_sumOf_0 : decode cX9_sumOf 0 = .ok (.ldc2_w 102, 3) := by decide +kernel
theorem dX9_sumOf_3 : decode cX9_sumOf 3 = .ok (.iload_n 1, 1) := by decide +kernel
theorem dX9_sumOf_4 : decode cX9_sumOf 4 = .ok (.i2l, 1) := by decide +kernel
theorem dX9_sumOf_5 : decode cX9_sumOf 5 = .ok (.lmul, 1) := by decide +kernel
theorem dX9_sumOf_6 : decode cX9_sumOf 6 = .ok (.lstore 4, 2) := by decide +kernel
theorem dX9_sumOf_8 : decode cX9_sumOf 8 = .ok (.iconst 0, 1) := by decide +kernel
theorem dX9_sumOf_9 : decode cX9_sumOf 9 = .ok (.istore 6, 2) := by decide +kernel
theorem dX9_sumOf_11 : decode cX9_sumOf 11 = .ok (.iload 6, 2) := by decide +kernel
theorem dX9_sumOf_13 : decode cX9_sumOf 13 = .ok (.iload_n 3, 1) := by decide +kernel
theorem dX9_sumOf_14 : decode cX9_sumOf 14 = .ok (.if_icmp .ge 24, 3) := by decide +kernel
theorem dX9_sumOf_17 : decode cX9_sumOf 17 = .ok (.lload 4, 2) := by decide +kernel
theorem dX9_sumOf_19 : decode cX9_sumOf 19 = .ok (.aload_n 0, 1) := by decide +kernel
theorem dX9_sumOf_20 : decode cX9_sumOf 20 = .ok (.iload_n 2, 1) := by decide +kernel
theorem dX9_sumOf_21 : decode cX9_sumOf 21 = .ok (.iload 6, 2) := by decide +kernel
theorem dX9_sumOf_23 : decode cX9_sumOf 23 = .ok (.iadd, 1) := by decide +kernel
theorem dX9_sumOf_24 : decode cX9_sumOf 24 = .ok (.invokevirtual 96, 3) := by decide +kernel
theorem dX9_sumOf_27 : decode cX9_sumOf 27 = .ok (.invokestatic 104, 3) := by decide +kernel
theorem dX9_sumOf_30 : decode cX9_sumOf 30 = .ok (.lstore 4, 2) := by decide +kernel
theorem dX9_sumOf_32 : decode cX9_sumOf 32 = .ok (.iinc 6 1, 3) := by decide +kernel
theorem dX9_sumOf_35 : decode cX9_sumOf 35 = .ok (.goto (-24), 3) := by decide +kernel
theorem dX9_sumOf_38 : decode cX9_sumOf 38 = .ok (.lload 4, 2) := by decide +kernel
theorem dX9_sumOf_40 : decode cX9_sumOf 40 = .ok (.lreturn, 1) := by decide +kernel
theorem dL_at_0 : decode cL_at 0 = .ok (.aload_n 2, 1) := by decide +kernel
theorem dL_at_1 : decode cL_at 1 = .ok (.iconst 0, 1) := by decide +kernel
theorem dL_at_2 : decode cL_at 2 = .ok (.aload_n 0, 1) := by decide +kernel
theorem dL_at_3 : decode cL_at 3 = .ok (.iload_n 1, 1) := by decide +kernel
theorem dL_at_4 : decode cL_at 4 = .ok (.invokevirtual 15, 3) := by decide +kernel
theorem dL_at_7 : decode cL_at 7 = .ok (.i2l, 1) := by decide +kernel
theorem dL_at_8 : decode cL_at 8 = .ok (.lastore, 1) := by decide +kernel
theorem dL_at_9 : decode cL_at 9 = .ok (.goto 6, 3) := by decide +kernel
theorem dL_at_12 : decode cL_at 12 = .ok (.astore_n 3, 1) := by decide +kernel
theorem dL_at_13 : decode cL_at 13 = .ok (.iconst 1, 1) := by decide +kernel
theorem dL_at_14 : decode cL_at 14 = .ok (.ireturn, 1) := by decide +kernel
theorem dL_at_15 : decode cL_at 15 = .ok (.iconst 0, 1) := by decide +kernel
theorem dL_at_16 : decode cL_at 16 = .ok (.ireturn, 1) := by decide +kernel
