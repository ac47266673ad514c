theorem dX9_within_0 : decode cX9_within 0 = .ok (.iload_n 0, 1) := by decide +kernel
theorem dX9_within_1 : decode cX9_within 1 = .ok (.iload_n 1, 1) := by decide +kernel
theorem dX9_within_2 : decode cX9_within 2 = .ok (.if_icmp .lt 12, 3) := by decide +kernel
theorem dX9_within_5 : decode cX9_within 5 = .ok (.iload_n 0, 1) := by decide +kernel
theorem dX9_within_6 : decode cX9_within 6 = .ok (.iload_n 2, 1) := by decide +kernel
theorem dX9_within_7 : decode cX9_within 7 = .ok (.if_icmp .gt 7, 3) := by decide +kernel
theorem dX9_within_10 : decode cX9_within 10 = .ok (.iconst 1, 1) := by decide +kernel
theorem dX9_within_11 : decode cX9_within 11 = .ok (.goto 4, 3) := by decide +kernel
theorem dX9_within_14 : decode cX9_within 14 = .ok (.iconst 0, 1) := by decide +kernel
theorem dX9_within_15 : decode cX9_within 15 = .ok (.ireturn, 1) := by decide +kernel
theorem dX9_bytesOf_0 : decode cX9_bytesOf 0 = .ok (.iconst 0, 1) := by decide +kernel
theorem dX9_bytesOf_1 : decode cX9_bytesOf 1 = .ok (.istore 5, 2) := by decide +kernel
theorem dX9_bytesOf_3 : decode cX9_bytesOf 3 = .ok (.iload 5, 2) := by decide +kernel
theorem dX9_bytesOf_5 : decode cX9_bytesOf 5 = .ok (.iload 4, 2) := by decide +kernel
theorem dX9_bytesOf_7 : decode cX9_bytesOf 7 = .ok (.if_icmp .ge 34, 3) := by decide +kernel
theorem dX9_bytesOf_10 : decode cX9_bytesOf 10 = .ok (.aload_n 0, 1) := by decide +kernel
theorem dX9_bytesOf_11 : decode cX9_bytesOf 11 = .ok (.iload_n 1, 1) := by decide +kernel
theorem dX9_bytesOf_12 : decode cX9_bytesOf 12 = .ok (.iload 5, 2) := by decide +kernel
theorem dX9_bytesOf_14 : decode cX9_bytesOf 14 = .ok (.iadd, 1) := by decide +kernel
theorem dX9_bytesOf_15 : decode cX9_bytesOf 15 = .ok (.lload_n 2, 1) := by decide +kernel
theorem dX9_bytesOf_16 : decode cX9_bytesOf 16 = .ok (.bipush 8, 2) := by decide +kernel
theorem dX9_bytesOf_18 : decode cX9_bytesOf 18 = .ok (.iload 4, 2) := by decide +kernel
theorem dX9_bytesOf_20 : decode cX9_bytesOf 20 = .ok (.iconst 1, 1) := by decide +kernel
theorem dX9_bytesOf_21 : decode cX9_bytesOf 21 = .ok (.isub, 1) := by decide +kernel
theorem dX9_bytesOf_22 : decode cX9_bytesOf 22 = .ok (.iload 5, 2) := by decide +kernel
theorem dX9_bytesOf_24 : decode cX9_bytesOf 24 = .ok (.isub, 1) := by decide +kernel
theorem dX9_bytesOf_25 : decode cX9_bytesOf 25 = .ok (.imul, 1) := by decide +kernel
theorem dX9_bytesOf_26 : decode cX9_bytesOf 26 = .ok (.lushr, 1) := by decide +kernel
theorem dX9_bytesOf_27 : decode cX9_bytesOf 27 = .ok (.ldc2_w 94, 3) := by decide +kernel
theorem dX9_bytesOf_30 : decode cX9_bytesOf 30 = .ok (.land, 1) := by decide +kernel
theorem dX9_bytesOf_31 : decode cX9_bytesOf 31 = .ok (.l2i, 1) := by decide +kernel
theorem dX9_bytesOf_32 : decode cX9_bytesOf 32 = .ok (.invokevirtual 83, 3) := by decide +kernel
theorem dX9_bytesOf_35 : decode cX9_bytesOf 35 = .ok (.iinc 5 1, 3) := by decide +kernel
theorem dX9_bytesOf_38 : decode cX9_bytesOf 38 = .ok (.goto (-35), 3) := by decide +kernel
theorem dX9_bytesOf_41 : decode cX9_bytesOf 41 = .ok (.return_, 1) := by decide +kernel
theorem dX9_byteIn_0 : decode cX9_byteIn 0 = .ok (.aload_n 0, 1) := by decide +kernel
theorem dX9_byteIn_1 : decode cX9_byteIn 1 = .ok (.getfield 8, 3) := by decide +kernel
theorem dX9_byteIn_4 : decode cX9_byteIn 4 = .ok (.iload_n 1, 1) := by decide +kernel
theorem dX9_byteIn_5 : decode cX9_byteIn 5 = .ok (.iconst 2, 1) := by decide +kernel
theorem dX9_byteIn_6 : decode cX9_byteIn 6 = .ok (.ishr, 1) := by decide +kernel
theorem dX9_byteIn_7 : decode cX9_byteIn 7 = .ok (.iaload, 1) := by decide +kernel
theorem dX9_byteIn_8 : decode cX9_byteIn 8 = .ok (.bipush 8, 2) := by decide +kernel
theorem dX9_byteIn_10 : decode cX9_byteIn 10 = .ok (.iload_n 1, 1) := by decide +kernel
theorem dX9_byteIn_11 : decode cX9_byteIn 11 = .ok (.iconst 3, 1) := by decide +kernel
theorem dX9_byteIn_12 : decode cX9_byteIn 12 = .ok (.iand, 1) := by decide +kernel
theorem dX9_byteIn_13 : decode cX9_byteIn 13 = .ok (.imul, 1) := by decide +kernel
theorem dX9_byteIn_14 : decode cX9_byteIn 14 = .ok (.iushr, 1) := by decide +kernel
theorem dX9_byteIn_15 : decode cX9_byteIn 15 = .ok (.sipush 255, 3) := by decide +kernel
theorem dX9_byteIn_18 : decode cX9_byteIn 18 = .ok (.iand, 1) := by decide +kernel
theorem dX9_byteIn_19 : decode cX9_byteIn 19 = .ok (.ireturn, 1) := by decide +kernel
theorem dX9_set_0 : decode cX9_set 0 = .ok (.bipush 8, 2) := by decide +kernel
theorem dX9_set_2 : decode cX9_set 2 = .ok (.iload_n 1, 1) := by decide +kernel
theorem dX9_set_3 : decode cX9_set 3 = .ok (.iconst 3, 1) := by decide +kernel
theorem dX9_set_4 : decode cX9_set 4 = .ok (.iand, 1) := by decide +kernel
theorem dX9_set_5 : decode cX9_set 5 = .ok (.imul, 1) := by decide +kernel
theorem dX9_set_6 : decode cX9_set 6 = .ok (.istore_n 3, 1) := by decide +kernel
theorem dX9_set_7 : decode cX9_set 7 = .ok (.aload_n 0, 1) := by decide +kernel
theorem dX9_set_8 : decode cX9_set 8 = .ok (.getfield 8, 3) := by decide +kernel
theorem dX9_set_11 : decode cX9_set 11 = .ok (.iload_n 1, 1) := by decide +kernel
theorem dX9_set_12 : decode cX9_set 12 = .ok (.iconst 2, 1) := by decide +kernel
theorem dX9_set_13 : decode cX9_set 13 = .ok (.ishr, 1) := by decide +kernel
theorem dX9_set_14 : decode cX9_set 14 = .ok (.aload_n 0, 1) := by decide +kernel
theorem dX9_set_15 : decode cX9_set 15 = .ok (.getfield 8, 3) := by decide +kernel
theorem dX9_set_18 : decode cX9_set 18 = .ok (.iload_n 1, 1) := by decide +kernel
theorem dX9_set_19 : decode cX9_set 19 = .ok (.iconst 2, 1) := by decide +kernel
theorem dX9_set_20 : decode cX9_set 20 = .ok (.ishr, 1) := by decide +kernel
theorem dX9_set_21 : decode cX9_set 21 = .ok (.iaload, 1) := by decide +kernel
theorem dX9_set_22 : decode cX9_set 22 = .ok (.sipush 255, 3) := by decide +kernel
theorem dX9_set_25 : decode cX9_set 25 = .ok (.iload_n 3, 1) := by decide +kernel
theorem dX9_set_26 : decode cX9_set 26 = .ok (.ishl, 1) := by decide +kernel
theorem dX9_set_27 : decode cX9_set 27 = .ok (.iconst (-1), 1) := by decide +kernel
theorem dX9_set_28 : decode cX9_set 28 = .ok (.ixor, 1) := by decide +kernel
theorem dX9_set_29 : decode cX9_set 29 = .ok (.iand, 1) := by decide +kernel
theorem dX9_set_30 : decode cX9_set 30 = .ok (.iload_n 2, 1) := by decide +kernel
theorem dX9_set_31 : decode cX9_set 31 = .ok (.iload_n 3, 1) := by decide +kernel
theorem dX9_set_32 : decode cX9_set 32 = .ok (.ishl, 1) := by decide +kernel
theorem dX9_set_33 : decode cX9_set 33 = .ok (.ior, 1) := by decide +kernel
theorem dX9_set_34 : decode cX9_set 34 = .ok (.iastore, 1) := by decide +kernel
theorem dX9_set_35 : decode cX9_set 35 = .ok (.return_, 1) := by decide +kernel
theorem dX9_number_0 : decode cX9_number 0 = .ok (.lconst 0, 1) := by decide +kernel
theorem dX9_number_1 : decode cX9_number 1 = .ok (.lstore_n 3, 1) := by decide +kernel
theorem dX9_number_2 : decode cX9_number 2 = .ok (.iconst 0, 1) := by decide +kernel
theorem dX9_number_3 : decode cX9_number 3 = .ok (.istore 5, 2) := by decide +kernel
theorem dX9_number_5 : decode cX9_number 5 = .ok (.iload 5, 2) := by decide +kernel
theorem dX9_number_7 : decode cX9_number 7 = .ok (.iload_n 2, 1) := by decide +kernel
theorem dX9_number_8 : decode cX9_number 8 = .ok (.if_icmp .ge 24, 3) := by decide +kernel
theorem dX9_number_11 : decode cX9_number 11 = .ok (.lload_n 3, 1) := by decide +kernel
theorem dX9_number_12 : decode cX9_number 12 = .ok (.bipush 8, 2) := by decide +kernel
theorem dX9_number_14 : decode cX9_number 14 = .ok (.lshl, 1) := by decide +kernel
theorem dX9_number_15 : decode cX9_number 15 = .ok (.aload_n 0, 1) := by decide +kernel
theorem dX9_number_16 : decode cX9_number 16 = .ok (.iload_n 1, 1) := by decide +kernel
theorem dX9_number_17 : decode cX9_number 17 = .ok (.iload 5, 2) := by decide +kernel
theorem dX9_number_19 : decode cX9_number 19 = .ok (.iadd, 1) := by decide +kernel
theorem dX9_number_20 : decode cX9_number 20 = .ok (.invokevirtual 96, 3) := by decide +kernel
theorem dX9_number_23 : decode cX9_number 23 = .ok (.i2l, 1) := by decide +kernel
theorem dX9_number_24 : decode cX9_number 24 = .ok (.lor, 1) := by decide +kernel
theorem dX9_number_25 : decode cX9_number 25 = .ok (.lstore_n 3, 1) := by decide +kernel
theorem dX9_number_26 : decode cX9_number 26 = .ok (.iinc 5 1, 3) := by decide +kernel
theorem dX9_number_29 : decode cX9_number 29 = .ok (.goto (-24), 3) := by decide +kernel
theorem dX9_number_32 : decode cX9_number 32 = .ok (.lload_n 3, 1) := by decide +kernel
theorem dX9_number_33 : decode cX9_number 33 = .ok (.lreturn, 1) := by decide +kernel
theorem dX9_sumOf_0 : decode cX9_sumOf 0 = .ok (.ldc2_w 102, 3) := by decide +kernel
theorem dX9_sumOf_3 : decode cX9_sumOf 3 = .ok (.iload_n 1, 1) := by decide +kernel
theorem dX9_sumOf_4 : decode cX9_sumOf 4 = .ok (.i2l, 1) := by decide +kernel
theorem dX9_sumOf_5 : decode cX9_sumOf 5 = .ok (.lmul, 1) := by decide +kernel
theorem dX9_sumOf_6 : decode cX9_sumOf 6 = .ok (.lstore 4, 2) := by decide +kernel
theorem dX9_sumOf_8 : decode cX9_sumOf 8 = .ok (.iconst 0, 1) := by decide +kernel
theorem dX9_sumOf_9 : decode cX9_sumOf 9 = .ok (.istore 6, 2) := by decide +kernel
theorem dX9_sumOf_11 : decode cX9_sumOf 11 = .ok (.iload 6, 2) := by decide +kernel
theorem dX9_sumOf_13 : decode cX9_sumOf 13 = .ok (.iload_n 3, 1) := by decide +kernel
theorem dX9_sumOf_14 : decode cX9_sumOf 14 = .ok (.if_icmp .ge 24, 3) := by decide +kernel
theorem dX9_sumOf_17 : decode cX9_sumOf 17 = .ok (.lload 4, 2) := by decide +kernel
theorem dX9_sumOf_19 : decode cX9_sumOf 19 = .ok (.aload_n 0, 1) := by decide +kernel
theorem dX9_sumOf_20 : decode cX9_sumOf 20 = .ok (.iload_n 2, 1) := by decide +kernel
theorem dX9_sumOf_21 : decode cX9_sumOf 21 = .ok (.iload 6, 2) := by decide +kernel
theorem dX9_sumOf_23 : decode cX9_sumOf 23 = .ok (.iadd, 1) := by decide +kernel
theorem dX9_sumOf_24 : decode cX9_sumOf 24 = .ok (.invokevirtual 96, 3) := by decide +kernel
theorem dX9_sumOf_27 : decode cX9_sumOf 27 = .ok (.invokestatic 104, 3) := by decide +kernel
theorem dX9_sumOf_30 : decode cX9_sumOf 30 = .ok (.lstore 4, 2) := by decide +kernel
theorem dX9_sumOf_32 : decode cX9_sumOf 32 = .ok (.iinc 6 1, 3) := by decide +kernel
theorem dX9_sumOf_35 : decode cX9_sumOf 35 = .ok (.goto (-24), 3) := by decide +kernel
theorem dX9_sumOf_38 : decode cX9_sumOf 38 = .ok (.lload 4, 2) := by decide +kernel
theorem dX9_sumOf_40 : decode cX9_sumOf 40 = .ok (.lreturn, 1) := by decide +kernel
theorem dX9_act_0 : decode cX9_act 0 = .ok (.aload_n 0, 1) := by decide +kernel
theorem dX9_act_1 : decode cX9_act 1 = .ok (.getfield 108, 3) := by decide +kernel
theorem dX9_act_4 : decode cX9_act 4 = .ok (.ifCond .eq 5, 3) := by decide +kernel
theorem dX9_act_7 : decode cX9_act 7 = .ok (.iconst 0, 1) := by decide +kernel
theorem dX9_act_8 : decode cX9_act 8 = .ok (.ireturn, 1) := by decide +kernel
theorem dX9_act_9 : decode cX9_act 9 = .ok (.aload_n 0, 1) := by decide +kernel
theorem dX9_act_10 : decode cX9_act 10 = .ok (.getfield 69, 3) := by decide +kernel
theorem dX9_act_13 : decode cX9_act 13 = .ok (.ifCond .ne 25, 3) := by decide +kernel
theorem dX9_act_16 : decode cX9_act 16 = .ok (.aload_n 0, 1) := by decide +kernel
theorem dX9_act_17 : decode cX9_act 17 = .ok (.iconst 1, 1) := by decide +kernel
theorem dX9_act_18 : decode cX9_act 18 = .ok (.putfield 108, 3) := by decide +kernel
theorem dX9_act_21 : decode cX9_act 21 = .ok (.aload_n 0, 1) := by decide +kernel
theorem dX9_act_22 : decode cX9_act 22 = .ok (.iconst 0, 1) := by decide +kernel
theorem dX9_act_23 : decode cX9_act 23 = .ok (.putfield 72, 3) := by decide +kernel
theorem dX9_act_26 : decode cX9_act 26 = .ok (.aload_n 0, 1) := by decide +kernel
theorem dX9_act_27 : decode cX9_act 27 = .ok (.iconst (-1), 1) := by decide +kernel
theorem dX9_act_28 : decode cX9_act 28 = .ok (.putfield 69, 3) := by decide +kernel
theorem dX9_act_31 : decode cX9_act 31 = .ok (.aload_n 0, 1) := by decide +kernel
theorem dX9_act_32 : decode cX9_act 32 = .ok (.iconst 0, 1) := by decide +kernel
theorem dX9_act_33 : decode cX9_act 33 = .ok (.putfield 111, 3) := by decide +kernel
theorem dX9_act_36 : decode cX9_act 36 = .ok (.iconst 0, 1) := by decide +kernel
theorem dX9_act_37 : decode cX9_act 37 = .ok (.ireturn, 1) := by decide +kernel
theorem dX9_act_38 : decode cX9_act 38 = .ok (.aload_n 0, 1) := by decide +kernel
theorem dX9_act_39 : decode cX9_act 39 = .ok (.dup, 1) := by decide +kernel
theorem dX9_act_40 : decode cX9_act 40 = .ok (.getfield 69, 3) := by decide +kernel
theorem dX9_act_43 : decode cX9_act 43 = .ok (.aload_n 0, 1) := by decide +kernel
theorem dX9_act_44 : decode cX9_act 44 = .ok (.getfield 69, 3) := by decide +kernel
theorem dX9_act_47 : decode cX9_act 47 = .ok (.ifCond .le 7, 3) := by decide +kernel
theorem dX9_act_50 : decode cX9_act 50 = .ok (.iconst 1, 1) := by decide +kernel
theorem dX9_act_51 : decode cX9_act 51 = .ok (.goto 4, 3) := by decide +kernel
theorem dX9_act_54 : decode cX9_act 54 = .ok (.iconst 0, 1) := by decide +kernel
theorem dX9_act_55 : decode cX9_act 55 = .ok (.isub, 1) := by decide +kernel
theorem dX9_act_56 : decode cX9_act 56 = .ok (.putfield 69, 3) := by decide +kernel
theorem dX9_act_59 : decode cX9_act 59 = .ok (.aload_n 0, 1) := by decide +kernel
theorem dX9_act_60 : decode cX9_act 60 = .ok (.dup, 1) := by decide +kernel
theorem dX9_act_61 : decode cX9_act 61 = .ok (.getfield 114, 3) := by decide +kernel
theorem dX9_act_64 : decode cX9_act 64 = .ok (.iconst 1, 1) := by decide +kernel
theorem dX9_act_65 : decode cX9_act 65 = .ok (.iadd, 1) := by decide +kernel
theorem dX9_act_66 : decode cX9_act 66 = .ok (.putfield 114, 3) := by decide +kernel
theorem dX9_act_69 : decode cX9_act 69 = .ok (.iconst 1, 1) := by decide +kernel
theorem dX9_act_70 : decode cX9_act 70 = .ok (.ireturn, 1) := by decide +kernel
theorem dX9_write_0 : decode cX9_write 0 = .ok (.aload_n 0, 1) := by decide +kernel
theorem dX9_write_1 : decode cX9_write 1 = .ok (.invokevirtual 117, 3) := by decide +kernel
theorem dX9_write_4 : decode cX9_write 4 = .ok (.ifCond .eq 9, 3) := by decide +kernel
theorem dX9_write_7 : decode cX9_write 7 = .ok (.aload_n 0, 1) := by decide +kernel
theorem dX9_write_8 : decode cX9_write 8 = .ok (.iload_n 1, 1) := by decide +kernel
theorem dX9_write_9 : decode cX9_write 9 = .ok (.iload_n 2, 1) := by decide +kernel
theorem dX9_write_10 : decode cX9_write 10 = .ok (.invokevirtual 83, 3) := by decide +kernel
theorem dX9_write_13 : decode cX9_write 13 = .ok (.return_, 1) := by decide +kernel
theorem dX9_erase_0 : decode cX9_erase 0 = .ok (.aload_n 0, 1) := by decide +kernel
theorem dX9_erase_1 : decode cX9_erase 1 = .ok (.invokevirtual 117, 3) := by decide +kernel
theorem dX9_erase_4 : decode cX9_erase 4 = .ok (.ifCond .eq 24, 3) := by decide +kernel
theorem dX9_erase_7 : decode cX9_erase 7 = .ok (.iconst 0, 1) := by decide +kernel
theorem dX9_erase_8 : decode cX9_erase 8 = .ok (.istore_n 3, 1) := by decide +kernel
theorem dX9_erase_9 : decode cX9_erase 9 = .ok (.iload_n 3, 1) := by decide +kernel
theorem dX9_erase_10 : decode cX9_erase 10 = .ok (.iload_n 2, 1) := by decide +kernel
theorem dX9_erase_11 : decode cX9_erase 11 = .ok (.if_icmp .ge 17, 3) := by decide +kernel
theorem dX9_erase_14 : decode cX9_erase 14 = .ok (.aload_n 0, 1) := by decide +kernel
theorem dX9_erase_15 : decode cX9_erase 15 = .ok (.iload_n 1, 1) := by decide +kernel
theorem dX9_erase_16 : decode cX9_erase 16 = .ok (.iload_n 3, 1) := by decide +kernel
theorem dX9_erase_17 : decode cX9_erase 17 = .ok (.iadd, 1) := by decide +kernel
theorem dX9_erase_18 : decode cX9_erase 18 = .ok (.iconst 0, 1) := by decide +kernel
theorem dX9_erase_19 : decode cX9_erase 19 = .ok (.invokevirtual 83, 3) := by decide +kernel
theorem dX9_erase_22 : decode cX9_erase 22 = .ok (.iinc 3 1, 3) := by decide +kernel
theorem dX9_erase_25 : decode cX9_erase 25 = .ok (.goto (-16), 3) := by decide +kernel
theorem dX9_erase_28 : decode cX9_erase 28 = .ok (.return_, 1) := by decide +kernel
theorem dX9_put_0 : decode cX9_put 0 = .ok (.iconst 0, 1) := by decide +kernel
theorem dX9_put_1 : decode cX9_put 1 = .ok (.istore 5, 2) := by decide +kernel
theorem dX9_put_3 : decode cX9_put 3 = .ok (.iload 5, 2) := by decide +kernel
theorem dX9_put_5 : decode cX9_put 5 = .ok (.iload 4, 2) := by decide +kernel
theorem dX9_put_7 : decode cX9_put 7 = .ok (.if_icmp .ge 35, 3) := by decide +kernel
theorem dX9_put_10 : decode cX9_put 10 = .ok (.aload_n 0, 1) := by decide +kernel
theorem dX9_put_11 : decode cX9_put 11 = .ok (.getfield 24, 3) := by decide +kernel
theorem dX9_put_14 : decode cX9_put 14 = .ok (.iload_n 1, 1) := by decide +kernel
theorem dX9_put_15 : decode cX9_put 15 = .ok (.iload 5, 2) := by decide +kernel
theorem dX9_put_17 : decode cX9_put 17 = .ok (.iadd, 1) := by decide +kernel
theorem dX9_put_18 : decode cX9_put 18 = .ok (.lload_n 2, 1) := by decide +kernel
theorem dX9_put_19 : decode cX9_put 19 = .ok (.bipush 8, 2) := by decide +kernel
theorem dX9_put_21 : decode cX9_put 21 = .ok (.iload 4, 2) := by decide +kernel
theorem dX9_put_23 : decode cX9_put 23 = .ok (.iconst 1, 1) := by decide +kernel
theorem dX9_put_24 : decode cX9_put 24 = .ok (.isub, 1) := by decide +kernel
theorem dX9_put_25 : decode cX9_put 25 = .ok (.iload 5, 2) := by decide +kernel
theorem dX9_put_27 : decode cX9_put 27 = .ok (.isub, 1) := by decide +kernel
theorem dX9_put_28 : decode cX9_put 28 = .ok (.imul, 1) := by decide +kernel
theorem dX9_put_29 : decode cX9_put 29 = .ok (.lushr, 1) := by decide +kernel
theorem dX9_put_30 : decode cX9_put 30 = .ok (.ldc2_w 94, 3) := by decide +kernel
theorem dX9_put_33 : decode cX9_put 33 = .ok (.land, 1) := by decide +kernel
theorem dX9_put_34 : decode cX9_put 34 = .ok (.l2i, 1) := by decide +kernel
theorem dX9_put_35 : decode cX9_put 35 = .ok (.iastore, 1) := by decide +kernel
theorem dX9_put_36 : decode cX9_put 36 = .ok (.iinc 5 1, 3) := by decide +kernel
theorem dX9_put_39 : decode cX9_put 39 = .ok (.goto (-36), 3) := by decide +kernel
theorem dX9_put_42 : decode cX9_put 42 = .ok (.return_, 1) := by decide +kernel
theorem dX9_freshSum_0 : decode cX9_freshSum 0 = .ok (.ldc2_w 102, 3) := by decide +kernel
theorem dX9_freshSum_3 : decode cX9_freshSum 3 = .ok (.iload_n 1, 1) := by decide +kernel
theorem dX9_freshSum_4 : decode cX9_freshSum 4 = .ok (.i2l, 1) := by decide +kernel
theorem dX9_freshSum_5 : decode cX9_freshSum 5 = .ok (.lmul, 1) := by decide +kernel
theorem dX9_freshSum_6 : decode cX9_freshSum 6 = .ok (.lstore_n 3, 1) := by decide +kernel
theorem dX9_freshSum_7 : decode cX9_freshSum 7 = .ok (.iconst 0, 1) := by decide +kernel
theorem dX9_freshSum_8 : decode cX9_freshSum 8 = .ok (.istore 5, 2) := by decide +kernel
theorem dX9_freshSum_10 : decode cX9_freshSum 10 = .ok (.iload 5, 2) := by decide +kernel
theorem dX9_freshSum_12 : decode cX9_freshSum 12 = .ok (.iload_n 2, 1) := by decide +kernel
theorem dX9_freshSum_13 : decode cX9_freshSum 13 = .ok (.if_icmp .ge 21, 3) := by decide +kernel
theorem dX9_freshSum_16 : decode cX9_freshSum 16 = .ok (.lload_n 3, 1) := by decide +kernel
theorem dX9_freshSum_17 : decode cX9_freshSum 17 = .ok (.aload_n 0, 1) := by decide +kernel
theorem dX9_freshSum_18 : decode cX9_freshSum 18 = .ok (.getfield 24, 3) := by decide +kernel
theorem dX9_freshSum_21 : decode cX9_freshSum 21 = .ok (.iload 5, 2) := by decide +kernel
theorem dX9_freshSum_23 : decode cX9_freshSum 23 = .ok (.iaload, 1) := by decide +kernel
theorem dX9_freshSum_24 : decode cX9_freshSum 24 = .ok (.invokestatic 104, 3) := by decide +kernel
theorem dX9_freshSum_27 : decode cX9_freshSum 27 = .ok (.lstore_n 3, 1) := by decide +kernel
theorem dX9_freshSum_28 : decode cX9_freshSum 28 = .ok (.iinc 5 1, 3) := by decide +kernel
theorem dX9_freshSum_31 : decode cX9_freshSum 31 = .ok (.goto (-21), 3) := by decide +kernel
theorem dX9_freshSum_34 : decode cX9_freshSum 34 = .ok (.lload_n 3, 1) := by decide +kernel
theorem dX9_freshSum_35 : decode cX9_freshSum 35 = .ok (.lreturn, 1) := by decide +kernel
theorem dX9_layRow_0 : decode cX9_layRow 0 = .ok (.aload_n 0, 1) := by decide +kernel
theorem dX9_layRow_1 : decode cX9_layRow 1 = .ok (.iconst 0, 1) := by decide +kernel
theorem dX9_layRow_2 : decode cX9_layRow 2 = .ok (.iload_n 1, 1) := by decide +kernel
theorem dX9_layRow_3 : decode cX9_layRow 3 = .ok (.i2l, 1) := by decide +kernel
theorem dX9_layRow_4 : decode cX9_layRow 4 = .ok (.iconst 1, 1) := by decide +kernel
theorem dX9_layRow_5 : decode cX9_layRow 5 = .ok (.invokevirtual 121, 3) := by decide +kernel
theorem dX9_layRow_8 : decode cX9_layRow 8 = .ok (.aload_n 0, 1) := by decide +kernel
theorem dX9_layRow_9 : decode cX9_layRow 9 = .ok (.iconst 1, 1) := by decide +kernel
theorem dX9_layRow_10 : decode cX9_layRow 10 = .ok (.iload_n 2, 1) := by decide +kernel
theorem dX9_layRow_11 : decode cX9_layRow 11 = .ok (.i2l, 1) := by decide +kernel
theorem dX9_layRow_12 : decode cX9_layRow 12 = .ok (.iconst 4, 1) := by decide +kernel
theorem dX9_layRow_13 : decode cX9_layRow 13 = .ok (.invokevirtual 121, 3) := by decide +kernel
theorem dX9_layRow_16 : decode cX9_layRow 16 = .ok (.aload_n 0, 1) := by decide +kernel
theorem dX9_layRow_17 : decode cX9_layRow 17 = .ok (.iconst 5, 1) := by decide +kernel
theorem dX9_layRow_18 : decode cX9_layRow 18 = .ok (.iload_n 3, 1) := by decide +kernel
theorem dX9_layRow_19 : decode cX9_layRow 19 = .ok (.i2l, 1) := by decide +kernel
theorem dX9_layRow_20 : decode cX9_layRow 20 = .ok (.iconst 4, 1) := by decide +kernel
theorem dX9_layRow_21 : decode cX9_layRow 21 = .ok (.invokevirtual 121, 3) := by decide +kernel
theorem dX9_layRow_24 : decode cX9_layRow 24 = .ok (.aload_n 0, 1) := by decide +kernel
theorem dX9_layRow_25 : decode cX9_layRow 25 = .ok (.bipush 9, 2) := by decide +kernel
theorem dX9_layRow_27 : decode cX9_layRow 27 = .ok (.lload 4, 2) := by decide +kernel
theorem dX9_layRow_29 : decode cX9_layRow 29 = .ok (.bipush 8, 2) := by decide +kernel
theorem dX9_layRow_31 : decode cX9_layRow 31 = .ok (.invokevirtual 121, 3) := by decide +kernel
theorem dX9_layRow_34 : decode cX9_layRow 34 = .ok (.aload_n 0, 1) := by decide +kernel
theorem dX9_layRow_35 : decode cX9_layRow 35 = .ok (.bipush 17, 2) := by decide +kernel
theorem dX9_layRow_37 : decode cX9_layRow 37 = .ok (.lconst 0, 1) := by decide +kernel
theorem dX9_layRow_38 : decode cX9_layRow 38 = .ok (.bipush 6, 2) := by decide +kernel
theorem dX9_layRow_40 : decode cX9_layRow 40 = .ok (.invokevirtual 121, 3) := by decide +kernel
theorem dX9_layRow_43 : decode cX9_layRow 43 = .ok (.aload_n 0, 1) := by decide +kernel
theorem dX9_layRow_44 : decode cX9_layRow 44 = .ok (.bipush 23, 2) := by decide +kernel
theorem dX9_layRow_46 : decode cX9_layRow 46 = .ok (.aload_n 0, 1) := by decide +kernel
theorem dX9_layRow_47 : decode cX9_layRow 47 = .ok (.iconst 2, 1) := by decide +kernel
theorem dX9_layRow_48 : decode cX9_layRow 48 = .ok (.bipush 23, 2) := by decide +kernel
theorem dX9_layRow_50 : decode cX9_layRow 50 = .ok (.invokevirtual 124, 3) := by decide +kernel
theorem dX9_layRow_53 : decode cX9_layRow 53 = .ok (.bipush 8, 2) := by decide +kernel
theorem dX9_layRow_55 : decode cX9_layRow 55 = .ok (.invokevirtual 121, 3) := by decide +kernel
theorem dX9_layRow_58 : decode cX9_layRow 58 = .ok (.aload_n 0, 1) := by decide +kernel
theorem dX9_layRow_59 : decode cX9_layRow 59 = .ok (.getfield 24, 3) := by decide +kernel
theorem dX9_layRow_62 : decode cX9_layRow 62 = .ok (.bipush 31, 2) := by decide +kernel
theorem dX9_layRow_64 : decode cX9_layRow 64 = .ok (.sipush 165, 3) := by decide +kernel
theorem dX9_layRow_67 : decode cX9_layRow 67 = .ok (.iastore, 1) := by decide +kernel
theorem dX9_layRow_68 : decode cX9_layRow 68 = .ok (.return_, 1) := by decide +kernel
theorem dX9_writeFresh_0 : decode cX9_writeFresh 0 = .ok (.iconst 0, 1) := by decide +kernel
theorem dX9_writeFresh_1 : decode cX9_writeFresh 1 = .ok (.istore_n 3, 1) := by decide +kernel
theorem dX9_writeFresh_2 : decode cX9_writeFresh 2 = .ok (.iload_n 3, 1) := by decide +kernel
theorem dX9_writeFresh_3 : decode cX9_writeFresh 3 = .ok (.iload_n 2, 1) := by decide +kernel
theorem dX9_writeFresh_4 : decode cX9_writeFresh 4 = .ok (.if_icmp .ge 22, 3) := by decide +kernel
theorem dX9_writeFresh_7 : decode cX9_writeFresh 7 = .ok (.aload_n 0, 1) := by decide +kernel
theorem dX9_writeFresh_8 : decode cX9_writeFresh 8 = .ok (.iload_n 1, 1) := by decide +kernel
theorem dX9_writeFresh_9 : decode cX9_writeFresh 9 = .ok (.iload_n 3, 1) := by decide +kernel
theorem dX9_writeFresh_10 : decode cX9_writeFresh 10 = .ok (.iadd, 1) := by decide +kernel
theorem dX9_writeFresh_11 : decode cX9_writeFresh 11 = .ok (.aload_n 0, 1) := by decide +kernel
theorem dX9_writeFresh_12 : decode cX9_writeFresh 12 = .ok (.getfield 24, 3) := by decide +kernel
theorem dX9_writeFresh_15 : decode cX9_writeFresh 15 = .ok (.iload_n 3, 1) := by decide +kernel
theorem dX9_writeFresh_16 : decode cX9_writeFresh 16 = .ok (.iaload, 1) := by decide +kernel
theorem dX9_writeFresh_17 : decode cX9_writeFresh 17 = .ok (.invokevirtual 128, 3) := by decide +kernel
theorem dX9_writeFresh_20 : decode cX9_writeFresh 20 = .ok (.iinc 3 1, 3) := by decide +kernel
theorem dX9_writeFresh_23 : decode cX9_writeFresh 23 = .ok (.goto (-21), 3) := by decide +kernel
theorem dX9_writeFresh_26 : decode cX9_writeFresh 26 = .ok (.return_, 1) := by decide +kernel
theorem dX9_rowPlace_0 : decode cX9_rowPlace 0 = .ok (.bipush 32, 2) := by decide +kernel
theorem dX9_rowPlace_2 : decode cX9_rowPlace 2 = .ok (.sipush 4096, 3) := by decide +kernel
theorem dX9_rowPlace_5 : decode cX9_rowPlace 5 = .ok (.iload_n 1, 1) := by decide +kernel
theorem dX9_rowPlace_6 : decode cX9_rowPlace 6 = .ok (.imul, 1) := by decide +kernel
theorem dX9_rowPlace_7 : decode cX9_rowPlace 7 = .ok (.iadd, 1) := by decide +kernel
theorem dX9_rowPlace_8 : decode cX9_rowPlace 8 = .ok (.bipush 32, 2) := by decide +kernel
theorem dX9_rowPlace_10 : decode cX9_rowPlace 10 = .ok (.iload_n 2, 1) := by decide +kernel
theorem dX9_rowPlace_11 : decode cX9_rowPlace 11 = .ok (.imul, 1) := by decide +kernel
theorem dX9_rowPlace_12 : decode cX9_rowPlace 12 = .ok (.iadd, 1) := by decide +kernel
theorem dX9_rowPlace_13 : decode cX9_rowPlace 13 = .ok (.ireturn, 1) := by decide +kernel
theorem dX9_pagePlace_0 : decode cX9_pagePlace 0 = .ok (.sipush 8224, 3) := by decide +kernel
theorem dX9_pagePlace_3 : decode cX9_pagePlace 3 = .ok (.bipush 26, 2) := by decide +kernel
theorem dX9_pagePlace_5 : decode cX9_pagePlace 5 = .ok (.iload_n 1, 1) := by decide +kernel
theorem dX9_pagePlace_6 : decode cX9_pagePlace 6 = .ok (.imul, 1) := by decide +kernel
theorem dX9_pagePlace_7 : decode cX9_pagePlace 7 = .ok (.iadd, 1) := by decide +kernel
theorem dX9_pagePlace_8 : decode cX9_pagePlace 8 = .ok (.ireturn, 1) := by decide +kernel
theorem dX9_stateOf_0 : decode cX9_stateOf 0 = .ok (.iconst 1, 1) := by decide +kernel
theorem dX9_stateOf_1 : decode cX9_stateOf 1 = .ok (.istore 4, 2) := by decide +kernel
theorem dX9_stateOf_3 : decode cX9_stateOf 3 = .ok (.iconst 1, 1) := by decide +kernel
theorem dX9_stateOf_4 : decode cX9_stateOf 4 = .ok (.istore 5, 2) := by decide +kernel
theorem dX9_stateOf_6 : decode cX9_stateOf 6 = .ok (.iconst 0, 1) := by decide +kernel
theorem dX9_stateOf_7 : decode cX9_stateOf 7 = .ok (.istore 6, 2) := by decide +kernel
theorem dX9_stateOf_9 : decode cX9_stateOf 9 = .ok (.iload 6, 2) := by decide +kernel
theorem dX9_stateOf_11 : decode cX9_stateOf 11 = .ok (.iload_n 2, 1) := by decide +kernel
theorem dX9_stateOf_12 : decode cX9_stateOf 12 = .ok (.if_icmp .ge 59, 3) := by decide +kernel
theorem dX9_stateOf_15 : decode cX9_stateOf 15 = .ok (.iload 4, 2) := by decide +kernel
theorem dX9_stateOf_17 : decode cX9_stateOf 17 = .ok (.aload_n 0, 1) := by decide +kernel
theorem dX9_stateOf_18 : decode cX9_stateOf 18 = .ok (.iload_n 1, 1) := by decide +kernel
theorem dX9_stateOf_19 : decode cX9_stateOf 19 = .ok (.iload 6, 2) := by decide +kernel
theorem dX9_stateOf_21 : decode cX9_stateOf 21 = .ok (.iadd, 1) := by decide +kernel
theorem dX9_stateOf_22 : decode cX9_stateOf 22 = .ok (.invokevirtual 96, 3) := by decide +kernel
theorem dX9_stateOf_25 : decode cX9_stateOf 25 = .ok (.ifCond .ne 7, 3) := by decide +kernel
theorem dX9_stateOf_28 : decode cX9_stateOf 28 = .ok (.iconst 1, 1) := by decide +kernel
theorem dX9_stateOf_29 : decode cX9_stateOf 29 = .ok (.goto 4, 3) := by decide +kernel
theorem dX9_stateOf_32 : decode cX9_stateOf 32 = .ok (.iconst 0, 1) := by decide +kernel
theorem dX9_stateOf_33 : decode cX9_stateOf 33 = .ok (.iand, 1) := by decide +kernel
theorem dX9_stateOf_34 : decode cX9_stateOf 34 = .ok (.istore 4, 2) := by decide +kernel
theorem dX9_stateOf_36 : decode cX9_stateOf 36 = .ok (.iload 5, 2) := by decide +kernel
theorem dX9_stateOf_38 : decode cX9_stateOf 38 = .ok (.iload 6, 2) := by decide +kernel
theorem dX9_stateOf_40 : decode cX9_stateOf 40 = .ok (.iload_n 2, 1) := by decide +kernel
theorem dX9_stateOf_41 : decode cX9_stateOf 41 = .ok (.iconst 1, 1) := by decide +kernel
theorem dX9_stateOf_42 : decode cX9_stateOf 42 = .ok (.isub, 1) := by decide +kernel
theorem dX9_stateOf_43 : decode cX9_stateOf 43 = .ok (.if_icmp .eq 14, 3) := by decide +kernel
theorem dX9_stateOf_46 : decode cX9_stateOf 46 = .ok (.aload_n 0, 1) := by decide +kernel
theorem dX9_stateOf_47 : decode cX9_stateOf 47 = .ok (.iload_n 1, 1) := by decide +kernel
theorem dX9_stateOf_48 : decode cX9_stateOf 48 = .ok (.iload 6, 2) := by decide +kernel
theorem dX9_stateOf_50 : decode cX9_stateOf 50 = .ok (.iadd, 1) := by decide +kernel
theorem dX9_stateOf_51 : decode cX9_stateOf 51 = .ok (.invokevirtual 96, 3) := by decide +kernel
theorem dX9_stateOf_54 : decode cX9_stateOf 54 = .ok (.ifCond .ne 7, 3) := by decide +kernel
theorem dX9_stateOf_57 : decode cX9_stateOf 57 = .ok (.iconst 1, 1) := by decide +kernel
theorem dX9_stateOf_58 : decode cX9_stateOf 58 = .ok (.goto 4, 3) := by decide +kernel
theorem dX9_stateOf_61 : decode cX9_stateOf 61 = .ok (.iconst 0, 1) := by decide +kernel
theorem dX9_stateOf_62 : decode cX9_stateOf 62 = .ok (.iand, 1) := by decide +kernel
theorem dX9_stateOf_63 : decode cX9_stateOf 63 = .ok (.istore 5, 2) := by decide +kernel
theorem dX9_stateOf_65 : decode cX9_stateOf 65 = .ok (.iinc 6 1, 3) := by decide +kernel
theorem dX9_stateOf_68 : decode cX9_stateOf 68 = .ok (.goto (-59), 3) := by decide +kernel
theorem dX9_stateOf_71 : decode cX9_stateOf 71 = .ok (.iload 4, 2) := by decide +kernel
theorem dX9_stateOf_73 : decode cX9_stateOf 73 = .ok (.ifCond .eq 5, 3) := by decide +kernel
theorem dX9_stateOf_76 : decode cX9_stateOf 76 = .ok (.iconst 0, 1) := by decide +kernel
theorem dX9_stateOf_77 : decode cX9_stateOf 77 = .ok (.ireturn, 1) := by decide +kernel
theorem dX9_stateOf_78 : decode cX9_stateOf 78 = .ok (.aload_n 0, 1) := by decide +kernel
theorem dX9_stateOf_79 : decode cX9_stateOf 79 = .ok (.iload_n 1, 1) := by decide +kernel
theorem dX9_stateOf_80 : decode cX9_stateOf 80 = .ok (.iload_n 2, 1) := by decide +kernel
theorem dX9_stateOf_81 : decode cX9_stateOf 81 = .ok (.iadd, 1) := by decide +kernel
theorem dX9_stateOf_82 : decode cX9_stateOf 82 = .ok (.bipush 9, 2) := by decide +kernel
theorem dX9_stateOf_84 : decode cX9_stateOf 84 = .ok (.isub, 1) := by decide +kernel
theorem dX9_stateOf_85 : decode cX9_stateOf 85 = .ok (.bipush 8, 2) := by decide +kernel
theorem dX9_stateOf_87 : decode cX9_stateOf 87 = .ok (.invokevirtual 131, 3) := by decide +kernel
theorem dX9_stateOf_90 : decode cX9_stateOf 90 = .ok (.lstore 6, 2) := by decide +kernel
theorem dX9_stateOf_92 : decode cX9_stateOf 92 = .ok (.iload_n 3, 1) := by decide +kernel
theorem dX9_stateOf_93 : decode cX9_stateOf 93 = .ok (.iconst 2, 1) := by decide +kernel
theorem dX9_stateOf_94 : decode cX9_stateOf 94 = .ok (.if_icmp .eq 11, 3) := by decide +kernel
theorem dX9_stateOf_97 : decode cX9_stateOf 97 = .ok (.aload_n 0, 1) := by decide +kernel
theorem dX9_stateOf_98 : decode cX9_stateOf 98 = .ok (.iload_n 1, 1) := by decide +kernel
theorem dX9_stateOf_99 : decode cX9_stateOf 99 = .ok (.invokevirtual 134, 3) := by decide +kernel
theorem dX9_stateOf_102 : decode cX9_stateOf 102 = .ok (.ifCond .eq 43, 3) := by decide +kernel
theorem dX9_stateOf_105 : decode cX9_stateOf 105 = .ok (.lload 6, 2) := by decide +kernel
theorem dX9_stateOf_107 : decode cX9_stateOf 107 = .ok (.aload_n 0, 1) := by decide +kernel
theorem dX9_stateOf_108 : decode cX9_stateOf 108 = .ok (.iload_n 3, 1) := by decide +kernel
theorem dX9_stateOf_109 : decode cX9_stateOf 109 = .ok (.iload_n 1, 1) := by decide +kernel
theorem dX9_stateOf_110 : decode cX9_stateOf 110 = .ok (.iload_n 2, 1) := by decide +kernel
theorem dX9_stateOf_111 : decode cX9_stateOf 111 = .ok (.bipush 9, 2) := by decide +kernel
theorem dX9_stateOf_113 : decode cX9_stateOf 113 = .ok (.isub, 1) := by decide +kernel
theorem dX9_stateOf_114 : decode cX9_stateOf 114 = .ok (.invokevirtual 87, 3) := by decide +kernel
theorem dX9_stateOf_117 : decode cX9_stateOf 117 = .ok (.lcmp, 1) := by decide +kernel
theorem dX9_stateOf_118 : decode cX9_stateOf 118 = .ok (.ifCond .ne 27, 3) := by decide +kernel
theorem dX9_stateOf_121 : decode cX9_stateOf 121 = .ok (.lload 6, 2) := by decide +kernel
theorem dX9_stateOf_123 : decode cX9_stateOf 123 = .ok (.lconst 0, 1) := by decide +kernel
theorem dX9_stateOf_124 : decode cX9_stateOf 124 = .ok (.lcmp, 1) := by decide +kernel
theorem dX9_stateOf_125 : decode cX9_stateOf 125 = .ok (.ifCond .ne 18, 3) := by decide +kernel
theorem dX9_stateOf_128 : decode cX9_stateOf 128 = .ok (.aload_n 0, 1) := by decide +kernel
theorem dX9_stateOf_129 : decode cX9_stateOf 129 = .ok (.iload_n 1, 1) := by decide +kernel
theorem dX9_stateOf_130 : decode cX9_stateOf 130 = .ok (.iload_n 2, 1) := by decide +kernel
theorem dX9_stateOf_131 : decode cX9_stateOf 131 = .ok (.iadd, 1) := by decide +kernel
theorem dX9_stateOf_132 : decode cX9_stateOf 132 = .ok (.iconst 1, 1) := by decide +kernel
theorem dX9_stateOf_133 : decode cX9_stateOf 133 = .ok (.isub, 1) := by decide +kernel
theorem dX9_stateOf_134 : decode cX9_stateOf 134 = .ok (.invokevirtual 96, 3) := by decide +kernel
theorem dX9_stateOf_137 : decode cX9_stateOf 137 = .ok (.sipush 165, 3) := by decide +kernel
theorem dX9_stateOf_140 : decode cX9_stateOf 140 = .ok (.if_icmp .ne 5, 3) := by decide +kernel
theorem dX9_stateOf_143 : decode cX9_stateOf 143 = .ok (.iconst 1, 1) := by decide +kernel
theorem dX9_stateOf_144 : decode cX9_stateOf 144 = .ok (.ireturn, 1) := by decide +kernel
theorem dX9_stateOf_145 : decode cX9_stateOf 145 = .ok (.aload_n 0, 1) := by decide +kernel
theorem dX9_stateOf_146 : decode cX9_stateOf 146 = .ok (.iload_n 1, 1) := by decide +kernel
theorem dX9_stateOf_147 : decode cX9_stateOf 147 = .ok (.iload_n 2, 1) := by decide +kernel
theorem dX9_stateOf_148 : decode cX9_stateOf 148 = .ok (.iadd, 1) := by decide +kernel
theorem dX9_stateOf_149 : decode cX9_stateOf 149 = .ok (.iconst 1, 1) := by decide +kernel
theorem dX9_stateOf_150 : decode cX9_stateOf 150 = .ok (.isub, 1) := by decide +kernel
theorem dX9_stateOf_151 : decode cX9_stateOf 151 = .ok (.invokevirtual 96, 3) := by decide +kernel
theorem dX9_stateOf_154 : decode cX9_stateOf 154 = .ok (.ifCond .eq 8, 3) := by decide +kernel
theorem dX9_stateOf_157 : decode cX9_stateOf 157 = .ok (.iload 5, 2) := by decide +kernel
theorem dX9_stateOf_159 : decode cX9_stateOf 159 = .ok (.ifCond .eq 7, 3) := by decide +kernel
theorem dX9_stateOf_162 : decode cX9_stateOf 162 = .ok (.iconst 2, 1) := by decide +kernel
theorem dX9_stateOf_163 : decode cX9_stateOf 163 = .ok (.goto 4, 3) := by decide +kernel
theorem dX9_stateOf_166 : decode cX9_stateOf 166 = .ok (.iconst 3, 1) := by decide +kernel
theorem dX9_stateOf_167 : decode cX9_stateOf 167 = .ok (.ireturn, 1) := by decide +kernel
theorem dX9_isLeafAt_0 : decode cX9_isLeafAt 0 = .ok (.aload_n 0, 1) := by decide +kernel
theorem dX9_isLeafAt_1 : decode cX9_isLeafAt 1 = .ok (.iload_n 1, 1) := by decide +kernel
theorem dX9_isLeafAt_2 : decode cX9_isLeafAt 2 = .ok (.invokevirtual 96, 3) := by decide +kernel
theorem dX9_isLeafAt_5 : decode cX9_isLeafAt 5 = .ok (.istore_n 2, 1) := by decide +kernel
theorem dX9_isLeafAt_6 : decode cX9_isLeafAt 6 = .ok (.iload_n 2, 1) := by decide +kernel
theorem dX9_isLeafAt_7 : decode cX9_isLeafAt 7 = .ok (.iconst 1, 1) := by decide +kernel
theorem dX9_isLeafAt_8 : decode cX9_isLeafAt 8 = .ok (.bipush 16, 2) := by decide +kernel
theorem dX9_isLeafAt_10 : decode cX9_isLeafAt 10 = .ok (.invokestatic 138, 3) := by decide +kernel
theorem dX9_isLeafAt_13 : decode cX9_isLeafAt 13 = .ok (.ifCond .eq 23, 3) := by decide +kernel
theorem dX9_isLeafAt_16 : decode cX9_isLeafAt 16 = .ok (.aload_n 0, 1) := by decide +kernel
theorem dX9_isLeafAt_17 : decode cX9_isLeafAt 17 = .ok (.iload_n 1, 1) := by decide +kernel
theorem dX9_isLeafAt_18 : decode cX9_isLeafAt 18 = .ok (.iconst 1, 1) := by decide +kernel
theorem dX9_isLeafAt_19 : decode cX9_isLeafAt 19 = .ok (.iadd, 1) := by decide +kernel
theorem dX9_isLeafAt_20 : decode cX9_isLeafAt 20 = .ok (.iload_n 2, 1) := by decide +kernel
theorem dX9_isLeafAt_21 : decode cX9_isLeafAt 21 = .ok (.iadd, 1) := by decide +kernel
theorem dX9_isLeafAt_22 : decode cX9_isLeafAt 22 = .ok (.bipush 16, 2) := by decide +kernel
theorem dX9_isLeafAt_24 : decode cX9_isLeafAt 24 = .ok (.iload_n 2, 1) := by decide +kernel
theorem dX9_isLeafAt_25 : decode cX9_isLeafAt 25 = .ok (.isub, 1) := by decide +kernel
theorem dX9_isLeafAt_26 : decode cX9_isLeafAt 26 = .ok (.invokevirtual 142, 3) := by decide +kernel
theorem dX9_isLeafAt_29 : decode cX9_isLeafAt 29 = .ok (.ifCond .eq 7, 3) := by decide +kernel
theorem dX9_isLeafAt_32 : decode cX9_isLeafAt 32 = .ok (.iconst 1, 1) := by decide +kernel
theorem dX9_isLeafAt_33 : decode cX9_isLeafAt 33 = .ok (.goto 4, 3) := by decide +kernel
theorem dX9_isLeafAt_36 : decode cX9_isLeafAt 36 = .ok (.iconst 0, 1) := by decide +kernel
theorem dX9_isLeafAt_37 : decode cX9_isLeafAt 37 = .ok (.ireturn, 1) := by decide +kernel
theorem dX9_rowState_0 : decode cX9_rowState 0 = .ok (.aload_n 0, 1) := by decide +kernel
theorem dX9_rowState_1 : decode cX9_rowState 1 = .ok (.aload_n 0, 1) := by decide +kernel
theorem dX9_rowState_2 : decode cX9_rowState 2 = .ok (.aload_n 0, 1) := by decide +kernel
theorem dX9_rowState_3 : decode cX9_rowState 3 = .ok (.getfield 76, 3) := by decide +kernel
theorem dX9_rowState_6 : decode cX9_rowState 6 = .ok (.iload_n 1, 1) := by decide +kernel
theorem dX9_rowState_7 : decode cX9_rowState 7 = .ok (.invokevirtual 146, 3) := by decide +kernel
theorem dX9_rowState_10 : decode cX9_rowState 10 = .ok (.bipush 32, 2) := by decide +kernel
theorem dX9_rowState_12 : decode cX9_rowState 12 = .ok (.iconst 2, 1) := by decide +kernel
theorem dX9_rowState_13 : decode cX9_rowState 13 = .ok (.invokevirtual 150, 3) := by decide +kernel
theorem dX9_rowState_16 : decode cX9_rowState 16 = .ok (.ireturn, 1) := by decide +kernel
theorem dX9_pageState_0 : decode cX9_pageState 0 = .ok (.aload_n 0, 1) := by decide +kernel
theorem dX9_pageState_1 : decode cX9_pageState 1 = .ok (.aload_n 0, 1) := by decide +kernel
theorem dX9_pageState_2 : decode cX9_pageState 2 = .ok (.iload_n 1, 1) := by decide +kernel
theorem dX9_pageState_3 : decode cX9_pageState 3 = .ok (.invokevirtual 154, 3) := by decide +kernel
theorem dX9_pageState_6 : decode cX9_pageState 6 = .ok (.bipush 26, 2) := by decide +kernel
theorem dX9_pageState_8 : decode cX9_pageState 8 = .ok (.iconst 3, 1) := by decide +kernel
theorem dX9_pageState_9 : decode cX9_pageState 9 = .ok (.invokevirtual 150, 3) := by decide +kernel
theorem dX9_pageState_12 : decode cX9_pageState 12 = .ok (.ireturn, 1) := by decide +kernel
theorem dX9_rows_0 : decode cX9_rows 0 = .ok (.aload_n 0, 1) := by decide +kernel
theorem dX9_rows_1 : decode cX9_rows 1 = .ok (.getfield 157, 3) := by decide +kernel
theorem dX9_rows_4 : decode cX9_rows 4 = .ok (.ireturn, 1) := by decide +kernel
theorem dX9_countRows_0 : decode cX9_countRows 0 = .ok (.iconst 0, 1) := by decide +kernel
theorem dX9_countRows_1 : decode cX9_countRows 1 = .ok (.istore_n 1, 1) := by decide +kernel
theorem dX9_countRows_2 : decode cX9_countRows 2 = .ok (.iload_n 1, 1) := by decide +kernel
theorem dX9_countRows_3 : decode cX9_countRows 3 = .ok (.sipush 128, 3) := by decide +kernel
theorem dX9_countRows_6 : decode cX9_countRows 6 = .ok (.if_icmp .ge 27, 3) := by decide +kernel
theorem dX9_countRows_9 : decode cX9_countRows 9 = .ok (.aload_n 0, 1) := by decide +kernel
theorem dX9_countRows_10 : decode cX9_countRows 10 = .ok (.iload_n 1, 1) := by decide +kernel
theorem dX9_countRows_11 : decode cX9_countRows 11 = .ok (.invokevirtual 160, 3) := by decide +kernel
theorem dX9_countRows_14 : decode cX9_countRows 14 = .ok (.iconst 1, 1) := by decide +kernel
theorem dX9_countRows_15 : decode cX9_countRows 15 = .ok (.if_icmp .eq 12, 3) := by decide +kernel
theorem dX9_countRows_18 : decode cX9_countRows 18 = .ok (.aload_n 0, 1) := by decide +kernel
theorem dX9_countRows_19 : decode cX9_countRows 19 = .ok (.iload_n 1, 1) := by decide +kernel
theorem dX9_countRows_20 : decode cX9_countRows 20 = .ok (.invokevirtual 160, 3) := by decide +kernel
theorem dX9_countRows_23 : decode cX9_countRows 23 = .ok (.iconst 3, 1) := by decide +kernel
theorem dX9_countRows_24 : decode cX9_countRows 24 = .ok (.if_icmp .ne 9, 3) := by decide +kernel
theorem dX9_countRows_27 : decode cX9_countRows 27 = .ok (.iinc 1 1, 3) := by decide +kernel
theorem dX9_countRows_30 : decode cX9_countRows 30 = .ok (.goto (-28), 3) := by decide +kernel
theorem dX9_countRows_33 : decode cX9_countRows 33 = .ok (.iload_n 1, 1) := by decide +kernel
theorem dX9_countRows_34 : decode cX9_countRows 34 = .ok (.ireturn, 1) := by decide +kernel
theorem dX9_badRows_0 : decode cX9_badRows 0 = .ok (.iconst 0, 1) := by decide +kernel
theorem dX9_badRows_1 : decode cX9_badRows 1 = .ok (.istore_n 1, 1) := by decide +kernel
theorem dX9_badRows_2 : decode cX9_badRows 2 = .ok (.aload_n 0, 1) := by decide +kernel
theorem dX9_badRows_3 : decode cX9_badRows 3 = .ok (.invokevirtual 163, 3) := by decide +kernel
theorem dX9_badRows_6 : decode cX9_badRows 6 = .ok (.istore_n 2, 1) := by decide +kernel
theorem dX9_badRows_7 : decode cX9_badRows 7 = .ok (.iconst 0, 1) := by decide +kernel
theorem dX9_badRows_8 : decode cX9_badRows 8 = .ok (.istore_n 3, 1) := by decide +kernel
theorem dX9_badRows_9 : decode cX9_badRows 9 = .ok (.iload_n 3, 1) := by decide +kernel
theorem dX9_badRows_10 : decode cX9_badRows 10 = .ok (.iload_n 2, 1) := by decide +kernel
theorem dX9_badRows_11 : decode cX9_badRows 11 = .ok (.if_icmp .ge 26, 3) := by decide +kernel
theorem dX9_badRows_14 : decode cX9_badRows 14 = .ok (.iload_n 1, 1) := by decide +kernel
theorem dX9_badRows_15 : decode cX9_badRows 15 = .ok (.aload_n 0, 1) := by decide +kernel
theorem dX9_badRows_16 : decode cX9_badRows 16 = .ok (.iload_n 3, 1) := by decide +kernel
theorem dX9_badRows_17 : decode cX9_badRows 17 = .ok (.invokevirtual 160, 3) := by decide +kernel
theorem dX9_badRows_20 : decode cX9_badRows 20 = .ok (.iconst 3, 1) := by decide +kernel
theorem dX9_badRows_21 : decode cX9_badRows 21 = .ok (.if_icmp .ne 7, 3) := by decide +kernel
theorem dX9_badRows_24 : decode cX9_badRows 24 = .ok (.iconst 1, 1) := by decide +kernel
theorem dX9_badRows_25 : decode cX9_badRows 25 = .ok (.goto 4, 3) := by decide +kernel
theorem dX9_badRows_28 : decode cX9_badRows 28 = .ok (.iconst 0, 1) := by decide +kernel
theorem dX9_badRows_29 : decode cX9_badRows 29 = .ok (.iadd, 1) := by decide +kernel
theorem dX9_badRows_30 : decode cX9_badRows 30 = .ok (.istore_n 1, 1) := by decide +kernel
theorem dX9_badRows_31 : decode cX9_badRows 31 = .ok (.iinc 3 1, 3) := by decide +kernel
theorem dX9_badRows_34 : decode cX9_badRows 34 = .ok (.goto (-25), 3) := by decide +kernel
theorem dX9_badRows_37 : decode cX9_badRows 37 = .ok (.iload_n 1, 1) := by decide +kernel
theorem dX9_badRows_38 : decode cX9_badRows 38 = .ok (.ireturn, 1) := by decide +kernel
theorem dX9_kindOf_0 : decode cX9_kindOf 0 = .ok (.aload_n 0, 1) := by decide +kernel
