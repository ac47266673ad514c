theorem dX8_demandRow_29 : decode cX8_demandRow 29 = .ok (.iload_n 2, 1) := by decide +kernel
theorem dX8_demandRow_30 : decode cX8_demandRow 30 = .ok (.if_icmp .lt 14, 3) := by decide +kernel
theorem dX8_demandRow_33 : decode cX8_demandRow 33 = .ok (.new 91, 3) := by decide +kernel
theorem dX8_demandRow_36 : decode cX8_demandRow 36 = .ok (.dup, 1) := by decide +kernel
theorem dX8_demandRow_37 : decode cX8_demandRow 37 = .ok (.ldc_w 358, 3) := by decide +kernel
theorem dX8_demandRow_40 : decode cX8_demandRow 40 = .ok (.invokespecial 95, 3) := by decide +kernel
theorem dX8_demandRow_43 : decode cX8_demandRow 43 = .ok (.athrow, 1) := by decide +kernel
theorem dX8_demandPage_0 : decode cX8_demandPage 0 = .ok (.iload_n 1, 1) := by decide +kernel
theorem dX8_demandPage_1 : decode cX8_demandPage 1 = .ok (.ifCond .lt 14, 3) := by decide +kernel
theorem dX8_demandPage_4 : decode cX8_demandPage 4 = .ok (.iload_n 1, 1) := by decide +kernel
theorem dX8_demandPage_5 : decode cX8_demandPage 5 = .ok (.aload_n 0, 1) := by decide +kernel
theorem dX8_demandPage_6 : decode cX8_demandPage 6 = .ok (.getfield 22, 3) := by decide +kernel
theorem dX8_demandPage_9 : decode cX8_demandPage 9 = .ok (.getfield 118, 3) := by decide +kernel
theorem dX8_demandPage_12 : decode cX8_demandPage 12 = .ok (.if_icmp .lt 13, 3) := by decide +kernel
theorem dX8_demandPage_15 : decode cX8_demandPage 15 = .ok (.new 91, 3) := by decide +kernel
theorem dX8_demandPage_18 : decode cX8_demandPage 18 = .ok (.dup, 1) := by decide +kernel
theorem dX8_demandPage_19 : decode cX8_demandPage 19 = .ok (.ldc 121, 2) := by decide +kernel
theorem dX8_demandPage_21 : decode cX8_demandPage 21 = .ok (.invokespecial 95, 3) := by decide +kernel
theorem dX8_demandPage_24 : decode cX8_demandPage 24 = .ok (.athrow, 1) := by decide +kernel
theorem dX8_demandPage_25 : decode cX8_demandPage 25 = .ok (.return_, 1) := by decide +kernel
theorem dX8_demandPlace_0 : decode cX8_demandPlace 0 = .ok (.iload_n 1, 1) := by decide +kernel
theorem dX8_demandPlace_1 : decode cX8_demandPlace 1 = .ok (.ifCond .lt 21, 3) := by decide +kernel
theorem dX8_demandPlace_4 : decode cX8_demandPlace 4 = .ok (.iload_n 1, 1) := by decide +kernel
theorem dX8_demandPlace_5 : decode cX8_demandPlace 5 = .ok (.sipush 8224, 3) := by decide +kernel
theorem dX8_demandPlace_8 : decode cX8_demandPlace 8 = .ok (.bipush 26, 2) := by decide +kernel
theorem dX8_demandPlace_10 : decode cX8_demandPlace 10 = .ok (.aload_n 0, 1) := by decide +kernel
theorem dX8_demandPlace_11 : decode cX8_demandPlace 11 = .ok (.getfield 22, 3) := by decide +kernel
theorem dX8_demandPlace_14 : decode cX8_demandPlace 14 = .ok (.getfield 118, 3) := by decide +kernel
theorem dX8_demandPlace_17 : decode cX8_demandPlace 17 = .ok (.imul, 1) := by decide +kernel
theorem dX8_demandPlace_18 : decode cX8_demandPlace 18 = .ok (.iadd, 1) := by decide +kernel
theorem dX8_demandPlace_19 : decode cX8_demandPlace 19 = .ok (.if_icmp .lt 14, 3) := by decide +kernel
theorem dX8_demandPlace_22 : decode cX8_demandPlace 22 = .ok (.new 91, 3) := by decide +kernel
theorem dX8_demandPlace_25 : decode cX8_demandPlace 25 = .ok (.dup, 1) := by decide +kernel
theorem dX8_demandPlace_26 : decode cX8_demandPlace 26 = .ok (.ldc_w 360, 3) := by decide +kernel
theorem dX8_demandPlace_29 : decode cX8_demandPlace 29 = .ok (.invokespecial 95, 3) := by decide +kernel
theorem dX8_demandPlace_32 : decode cX8_demandPlace 32 = .ok (.athrow, 1) := by decide +kernel
theorem dX8_demandPlace_33 : decode cX8_demandPlace 33 = .ok (.return_, 1) := by decide +kernel
theorem dX8_isHeight_0 : decode cX8_isHeight 0 = .ok (.iload_n 0, 1) := by decide +kernel
theorem dX8_isHeight_1 : decode cX8_isHeight 1 = .ok (.iconst 1, 1) := by decide +kernel
theorem dX8_isHeight_2 : decode cX8_isHeight 2 = .ok (.if_icmp .lt 13, 3) := by decide +kernel
theorem dX8_isHeight_5 : decode cX8_isHeight 5 = .ok (.iload_n 0, 1) := by decide +kernel
theorem dX8_isHeight_6 : decode cX8_isHeight 6 = .ok (.ldc 163, 2) := by decide +kernel
theorem dX8_isHeight_8 : decode cX8_isHeight 8 = .ok (.if_icmp .gt 7, 3) := by decide +kernel
theorem dX8_isHeight_11 : decode cX8_isHeight 11 = .ok (.iconst 1, 1) := by decide +kernel
theorem dX8_isHeight_12 : decode cX8_isHeight 12 = .ok (.goto 4, 3) := by decide +kernel
theorem dX8_isHeight_15 : decode cX8_isHeight 15 = .ok (.iconst 0, 1) := by decide +kernel
theorem dX8_isHeight_16 : decode cX8_isHeight 16 = .ok (.ireturn, 1) := by decide +kernel
theorem dX8_collectedDigest_0 : decode cX8_collectedDigest 0 = .ok (.iconst 4, 1) := by decide +kernel
theorem dX8_collectedDigest_1 : decode cX8_collectedDigest 1 = .ok (.invokestatic 396, 3) := by decide +kernel
theorem dX8_collectedDigest_4 : decode cX8_collectedDigest 4 = .ok (.iload_n 1, 1) := by decide +kernel
theorem dX8_collectedDigest_5 : decode cX8_collectedDigest 5 = .ok (.invokestatic 399, 3) := by decide +kernel
theorem dX8_collectedDigest_8 : decode cX8_collectedDigest 8 = .ok (.lload_n 2, 1) := by decide +kernel
theorem dX8_collectedDigest_9 : decode cX8_collectedDigest 9 = .ok (.invokestatic 403, 3) := by decide +kernel
theorem dX8_collectedDigest_12 : decode cX8_collectedDigest 12 = .ok (.lstore 4, 2) := by decide +kernel
theorem dX8_collectedDigest_14 : decode cX8_collectedDigest 14 = .ok (.iconst 0, 1) := by decide +kernel
theorem dX8_collectedDigest_15 : decode cX8_collectedDigest 15 = .ok (.istore 6, 2) := by decide +kernel
theorem dX8_collectedDigest_17 : decode cX8_collectedDigest 17 = .ok (.iload 6, 2) := by decide +kernel
theorem dX8_collectedDigest_19 : decode cX8_collectedDigest 19 = .ok (.aload_n 0, 1) := by decide +kernel
theorem dX8_collectedDigest_20 : decode cX8_collectedDigest 20 = .ok (.getfield 72, 3) := by decide +kernel
theorem dX8_collectedDigest_23 : decode cX8_collectedDigest 23 = .ok (.if_icmp .ge 33, 3) := by decide +kernel
theorem dX8_collectedDigest_56 : decode cX8_collectedDigest 56 = .ok (.lload 4, 2) := by decide +kernel
theorem dX8_collectedDigest_58 : decode cX8_collectedDigest 58 = .ok (.lreturn, 1) := by decide +kernel
theorem dX8_writeBlock_0 : decode cX8_writeBlock 0 = .ok (.aload_n 0, 1) := by decide +kernel
theorem dX8_writeBlock_1 : decode cX8_writeBlock 1 = .ok (.getfield 31, 3) := by decide +kernel
theorem dX8_writeBlock_4 : decode cX8_writeBlock 4 = .ok (.getfield 151, 3) := by decide +kernel
theorem dX8_writeBlock_7 : decode cX8_writeBlock 7 = .ok (.istore 5, 2) := by decide +kernel
theorem dX8_writeBlock_9 : decode cX8_writeBlock 9 = .ok (.aload_n 0, 1) := by decide +kernel
theorem dX8_writeBlock_10 : decode cX8_writeBlock 10 = .ok (.getfield 31, 3) := by decide +kernel
theorem dX8_writeBlock_13 : decode cX8_writeBlock 13 = .ok (.iconst 2, 1) := by decide +kernel
theorem dX8_writeBlock_14 : decode cX8_writeBlock 14 = .ok (.iload_n 1, 1) := by decide +kernel
theorem dX8_writeBlock_15 : decode cX8_writeBlock 15 = .ok (.iload 4, 2) := by decide +kernel
theorem dX8_writeBlock_17 : decode cX8_writeBlock 17 = .ok (.lload_n 2, 1) := by decide +kernel
theorem dX8_writeBlock_18 : decode cX8_writeBlock 18 = .ok (.invokevirtual 377, 3) := by decide +kernel
theorem dX8_writeBlock_21 : decode cX8_writeBlock 21 = .ok (.ifCond .ne 6, 3) := by decide +kernel
theorem dX8_writeBlock_27 : decode cX8_writeBlock 27 = .ok (.iconst 0, 1) := by decide +kernel
theorem dX8_writeBlock_28 : decode cX8_writeBlock 28 = .ok (.istore 6, 2) := by decide +kernel
theorem dX8_writeBlock_30 : decode cX8_writeBlock 30 = .ok (.iload 6, 2) := by decide +kernel
theorem dX8_writeBlock_32 : decode cX8_writeBlock 32 = .ok (.iload 4, 2) := by decide +kernel
theorem dX8_writeBlock_34 : decode cX8_writeBlock 34 = .ok (.if_icmp .ge 38, 3) := by decide +kernel
theorem dX8_writeBlock_72 : decode cX8_writeBlock 72 = .ok (.aload_n 0, 1) := by decide +kernel
theorem dX8_writeBlock_73 : decode cX8_writeBlock 73 = .ok (.getfield 40, 3) := by decide +kernel
theorem dX8_writeBlock_76 : decode cX8_writeBlock 76 = .ok (.invokevirtual 380, 3) := by decide +kernel
theorem dX8_writeBlock_79 : decode cX8_writeBlock 79 = .ok (.iload 5, 2) := by decide +kernel
theorem dX8_writeBlock_81 : decode cX8_writeBlock 81 = .ok (.ireturn, 1) := by decide +kernel
theorem dX8_isAsked_0 : decode cX8_isAsked 0 = .ok (.iload_n 1, 1) := by decide +kernel
theorem dX8_isAsked_1 : decode cX8_isAsked 1 = .ok (.ifCond .ge 5, 3) := by decide +kernel
theorem dX8_isAsked_4 : decode cX8_isAsked 4 = .ok (.iconst 0, 1) := by decide +kernel
theorem dX8_isAsked_5 : decode cX8_isAsked 5 = .ok (.ireturn, 1) := by decide +kernel
theorem dX8_isAsked_6 : decode cX8_isAsked 6 = .ok (.iload_n 1, 1) := by decide +kernel
theorem dX8_isAsked_7 : decode cX8_isAsked 7 = .ok (.sipush 128, 3) := by decide +kernel
theorem dX8_isAsked_10 : decode cX8_isAsked 10 = .ok (.if_icmp .ge 32, 3) := by decide +kernel
theorem dX8_isAsked_13 : decode cX8_isAsked 13 = .ok (.iload_n 1, 1) := by decide +kernel
theorem dX8_isAsked_14 : decode cX8_isAsked 14 = .ok (.aload_n 0, 1) := by decide +kernel
theorem dX8_isAsked_15 : decode cX8_isAsked 15 = .ok (.getfield 31, 3) := by decide +kernel
theorem dX8_isAsked_18 : decode cX8_isAsked 18 = .ok (.getfield 151, 3) := by decide +kernel
theorem dX8_isAsked_21 : decode cX8_isAsked 21 = .ok (.if_icmp .ge 19, 3) := by decide +kernel
theorem dX8_isAsked_40 : decode cX8_isAsked 40 = .ok (.iconst 0, 1) := by decide +kernel
theorem dX8_isAsked_41 : decode cX8_isAsked 41 = .ok (.ireturn, 1) := by decide +kernel
theorem dX8_isAsked_42 : decode cX8_isAsked 42 = .ok (.aload_n 0, 1) := by decide +kernel
theorem dX8_isAsked_43 : decode cX8_isAsked 43 = .ok (.getfield 22, 3) := by decide +kernel
theorem dX8_isAsked_46 : decode cX8_isAsked 46 = .ok (.iload_n 1, 1) := by decide +kernel
theorem dX8_isAsked_47 : decode cX8_isAsked 47 = .ok (.sipush 128, 3) := by decide +kernel
theorem dX8_isAsked_50 : decode cX8_isAsked 50 = .ok (.isub, 1) := by decide +kernel
theorem dX8_isAsked_51 : decode cX8_isAsked 51 = .ok (.invokevirtual 463, 3) := by decide +kernel
theorem dX8_isAsked_54 : decode cX8_isAsked 54 = .ok (.astore_n 2, 1) := by decide +kernel
theorem dX8_isAsked_55 : decode cX8_isAsked 55 = .ok (.aload_n 2, 1) := by decide +kernel
theorem dX8_isAsked_56 : decode cX8_isAsked 56 = .ok (.ifnull 15, 3) := by decide +kernel
theorem dX8_isAsked_71 : decode cX8_isAsked 71 = .ok (.iconst 0, 1) := by decide +kernel
theorem dX8_isAsked_72 : decode cX8_isAsked 72 = .ok (.ireturn, 1) := by decide +kernel
theorem dX9_thrown_0 : decode cX9_thrown 0 = .ok (.aload_n 0, 1) := by decide +kernel
theorem dX9_thrown_1 : decode cX9_thrown 1 = .ok (.getfield 91, 3) := by decide +kernel
theorem dX9_thrown_4 : decode cX9_thrown 4 = .ok (.ireturn, 1) := by decide +kernel
theorem dX9_within_0 : decode cX9_within 0 = .ok (.iload_n 0, 1) := by decide +kernel
theorem dX9_within_1 : decode cX9_within 1 = .ok (.iload_n 1, 1) := by decide +kernel
theorem dX9_within_2 : decode cX9_within 2 = .ok (.if_icmp .lt 12, 3) := by decide +kernel
theorem dX9_within_5 : decode cX9_within 5 = .ok (.iload_n 0, 1) := by decide +kernel
theorem dX9_within_6 : decode cX9_within 6 = .ok (.iload_n 2, 1) := by decide +kernel
theorem dX9_within_7 : decode cX9_within 7 = .ok (.if_icmp .gt 7, 3) := by decide +kernel
theorem dX9_within_10 : decode cX9_within 10 = .ok (.iconst 1, 1) := by decide +kernel
theorem dX9_within_11 : decode cX9_within 11 = .ok (.goto 4, 3) := by decide +kernel
theorem dX9_within_14 : decode cX9_within 14 = .ok (.iconst 0, 1) := by decide +kernel
theorem dX9_within_15 : decode cX9_within 15 = .ok (.ireturn, 1) := by decide +kernel
theorem dX9_act_0 : decode cX9_act 0 = .ok (.aload_n 0, 1) := by decide +kernel
theorem dX9_act_1 : decode cX9_act 1 = .ok (.getfield 108, 3) := by decide +kernel
theorem dX9_act_4 : decode cX9_act 4 = .ok (.ifCond .eq 5, 3) := by decide +kernel
theorem dX9_act_9 : decode cX9_act 9 = .ok (.aload_n 0, 1) := by decide +kernel
theorem dX9_act_10 : decode cX9_act 10 = .ok (.getfield 69, 3) := by decide +kernel
theorem dX9_act_13 : decode cX9_act 13 = .ok (.ifCond .ne 25, 3) := by decide +kernel
theorem dX9_act_38 : decode cX9_act 38 = .ok (.aload_n 0, 1) := by decide +kernel
theorem dX9_act_39 : decode cX9_act 39 = .ok (.dup, 1) := by decide +kernel
theorem dX9_act_40 : decode cX9_act 40 = .ok (.getfield 69, 3) := by decide +kernel
theorem dX9_act_43 : decode cX9_act 43 = .ok (.aload_n 0, 1) := by decide +kernel
theorem dX9_act_44 : decode cX9_act 44 = .ok (.getfield 69, 3) := by decide +kernel
theorem dX9_act_47 : decode cX9_act 47 = .ok (.ifCond .le 7, 3) := by decide +kernel
theorem dX9_act_54 : decode cX9_act 54 = .ok (.iconst 0, 1) := by decide +kernel
theorem dX9_act_55 : decode cX9_act 55 = .ok (.isub, 1) := by decide +kernel
theorem dX9_act_56 : decode cX9_act 56 = .ok (.putfield 69, 3) := by decide +kernel
theorem dX9_act_59 : decode cX9_act 59 = .ok (.aload_n 0, 1) := by decide +kernel
theorem dX9_act_60 : decode cX9_act 60 = .ok (.dup, 1) := by decide +kernel
theorem dX9_act_61 : decode cX9_act 61 = .ok (.getfield 114, 3) := by decide +kernel
theorem dX9_act_64 : decode cX9_act 64 = .ok (.iconst 1, 1) := by decide +kernel
theorem dX9_act_65 : decode cX9_act 65 = .ok (.iadd, 1) := by decide +kernel
theorem dX9_act_66 : decode cX9_act 66 = .ok (.putfield 114, 3) := by decide +kernel
theorem dX9_act_69 : decode cX9_act 69 = .ok (.iconst 1, 1) := by decide +kernel
theorem dX9_act_70 : decode cX9_act 70 = .ok (.ireturn, 1) := by decide +kernel
theorem dX9_write_0 : decode cX9_write 0 = .ok (.aload_n 0, 1) := by decide +kernel
theorem dX9_write_1 : decode cX9_write 1 = .ok (.invokevirtual 117, 3) := by decide +kernel
theorem dX9_write_4 : decode cX9_write 4 = .ok (.ifCond .eq 9, 3) := by decide +kernel
theorem dX9_write_7 : decode cX9_write 7 = .ok (.aload_n 0, 1) := by decide +kernel
theorem dX9_write_8 : decode cX9_write 8 = .ok (.iload_n 1, 1) := by decide +kernel
theorem dX9_write_9 : decode cX9_write 9 = .ok (.iload_n 2, 1) := by decide +kernel
theorem dX9_write_10 : decode cX9_write 10 = .ok (.invokevirtual 83, 3) := by decide +kernel
theorem dX9_write_13 : decode cX9_write 13 = .ok (.return_, 1) := by decide +kernel
theorem dX9_put_0 : decode cX9_put 0 = .ok (.iconst 0, 1) := by decide +kernel
theorem dX9_put_1 : decode cX9_put 1 = .ok (.istore 5, 2) := by decide +kernel
theorem dX9_put_3 : decode cX9_put 3 = .ok (.iload 5, 2) := by decide +kernel
theorem dX9_put_5 : decode cX9_put 5 = .ok (.iload 4, 2) := by decide +kernel
theorem dX9_put_7 : decode cX9_put 7 = .ok (.if_icmp .ge 35, 3) := by decide +kernel
theorem dX9_put_10 : decode cX9_put 10 = .ok (.aload_n 0, 1) := by decide +kernel
theorem dX9_put_11 : decode cX9_put 11 = .ok (.getfield 24, 3) := by decide +kernel
theorem dX9_put_14 : decode cX9_put 14 = .ok (.iload_n 1, 1) := by decide +kernel
theorem dX9_put_15 : decode cX9_put 15 = .ok (.iload 5, 2) := by decide +kernel
theorem dX9_put_17 : decode cX9_put 17 = .ok (.iadd, 1) := by decide +kernel
theorem dX9_put_18 : decode cX9_put 18 = .ok (.lload_n 2, 1) := by decide +kernel
theorem dX9_put_19 : decode cX9_put 19 = .ok (.bipush 8, 2) := by decide +kernel
theorem dX9_put_21 : decode cX9_put 21 = .ok (.iload 4, 2) := by decide +kernel
theorem dX9_put_23 : decode cX9_put 23 = .ok (.iconst 1, 1) := by decide +kernel
theorem dX9_put_24 : decode cX9_put 24 = .ok (.isub, 1) := by decide +kernel
theorem dX9_put_25 : decode cX9_put 25 = .ok (.iload 5, 2) := by decide +kernel
theorem dX9_put_27 : decode cX9_put 27 = .ok (.isub, 1) := by decide +kernel
theorem dX9_put_28 : decode cX9_put 28 = .ok (.imul, 1) := by decide +kernel
theorem dX9_put_29 : decode cX9_put 29 = .ok (.lushr, 1) := by decide +kernel
theorem dX9_put_30 : decode cX9_put 30 = .ok (.ldc2_w 94, 3) := by decide +kernel
theorem dX9_put_33 : decode cX9_put 33 = .ok (.land, 1) := by decide +kernel
theorem dX9_put_34 : decode cX9_put 34 = .ok (.l2i, 1) := by decide +kernel
theorem dX9_put_35 : decode cX9_put 35 = .ok (.iastore, 1) := by decide +kernel
theorem dX9_put_36 : decode cX9_put 36 = .ok (.iinc 5 1, 3) := by decide +kernel
theorem dX9_put_39 : decode cX9_put 39 = .ok (.goto (-36), 3) := by decide +kernel
theorem dX9_put_42 : decode cX9_put 42 = .ok (.return_, 1) := by decide +kernel
theorem dX9_freshSum_0 : decode cX9_freshSum 0 = .ok (.ldc2_w 102, 3) := by decide +kernel
theorem dX9_freshSum_3 : decode cX9_freshSum 3 = .ok (.iload_n 1, 1) := by decide +kernel
theorem dX9_freshSum_4 : decode cX9_freshSum 4 = .ok (.i2l, 1) := by decide +kernel
theorem dX9_freshSum_5 : decode cX9_freshSum 5 = .ok (.lmul, 1) := by decide +kernel
theorem dX9_freshSum_6 : decode cX9_freshSum 6 = .ok (.lstore_n 3, 1) := by decide +kernel
theorem dX9_freshSum_7 : decode cX9_freshSum 7 = .ok (.iconst 0, 1) := by decide +kernel
theorem dX9_freshSum_8 : decode cX9_freshSum 8 = .ok (.istore 5, 2) := by decide +kernel
theorem dX9_freshSum_10 : decode cX9_freshSum 10 = .ok (.iload 5, 2) := by decide +kernel
theorem dX9_freshSum_12 : decode cX9_freshSum 12 = .ok (.iload_n 2, 1) := by decide +kernel
theorem dX9_freshSum_13 : decode cX9_freshSum 13 = .ok (.if_icmp .ge 21, 3) := by decide +kernel
theorem dX9_freshSum_16 : decode cX9_freshSum 16 = .ok (.lload_n 3, 1) := by decide +kernel
theorem dX9_freshSum_17 : decode cX9_freshSum 17 = .ok (.aload_n 0, 1) := by decide +kernel
theorem dX9_freshSum_18 : decode cX9_freshSum 18 = .ok (.getfield 24, 3) := by decide +kernel
theorem dX9_freshSum_21 : decode cX9_freshSum 21 = .ok (.iload 5, 2) := by decide +kernel
theorem dX9_freshSum_23 : decode cX9_freshSum 23 = .ok (.iaload, 1) := by decide +kernel
theorem dX9_freshSum_24 : decode cX9_freshSum 24 = .ok (.invokestatic 104, 3) := by decide +kernel
theorem dX9_freshSum_27 : decode cX9_freshSum 27 = .ok (.lstore_n 3, 1) := by decide +kernel
theorem dX9_freshSum_28 : decode cX9_freshSum 28 = .ok (.iinc 5 1, 3) := by decide +kernel
theorem dX9_freshSum_31 : decode cX9_freshSum 31 = .ok (.goto (-21), 3) := by decide +kernel
theorem dX9_freshSum_34 : decode cX9_freshSum 34 = .ok (.lload_n 3, 1) := by decide +kernel
theorem dX9_freshSum_35 : decode cX9_freshSum 35 = .ok (.lreturn, 1) := by decide +kernel
theorem dX9_layRow_0 : decode cX9_layRow 0 = .ok (.aload_n 0, 1) := by decide +kernel
theorem dX9_layRow_1 : decode cX9_layRow 1 = .ok (.iconst 0, 1) := by decide +kernel
theorem dX9_layRow_2 : decode cX9_layRow 2 = .ok (.iload_n 1, 1) := by decide +kernel
theorem dX9_layRow_3 : decode cX9_layRow 3 = .ok (.i2l, 1) := by decide +kernel
theorem dX9_layRow_4 : decode cX9_layRow 4 = .ok (.iconst 1, 1) := by decide +kernel
theorem dX9_layRow_5 : decode cX9_layRow 5 = .ok (.invokevirtual 121, 3) := by decide +kernel
theorem dX9_layRow_8 : decode cX9_layRow 8 = .ok (.aload_n 0, 1) := by decide +kernel
theorem dX9_layRow_9 : decode cX9_layRow 9 = .ok (.iconst 1, 1) := by decide +kernel
theorem dX9_layRow_10 : decode cX9_layRow 10 = .ok (.iload_n 2, 1) := by decide +kernel
theorem dX9_layRow_11 : decode cX9_layRow 11 = .ok (.i2l, 1) := by decide +kernel
theorem dX9_layRow_12 : decode cX9_layRow 12 = .ok (.iconst 4, 1) := by decide +kernel
theorem dX9_layRow_13 : decode cX9_layRow 13 = .ok (.invokevirtual 121, 3) := by decide +kernel
theorem dX9_layRow_16 : decode cX9_layRow 16 = .ok (.aload_n 0, 1) := by decide +kernel
theorem dX9_layRow_17 : decode cX9_layRow 17 = .ok (.iconst 5, 1) := by decide +kernel
theorem dX9_layRow_18 : decode cX9_layRow 18 = .ok (.iload_n 3, 1) := by decide +kernel
theorem dX9_layRow_19 : decode cX9_layRow 19 = .ok (.i2l, 1) := by decide +kernel
theorem dX9_layRow_20 : decode cX9_layRow 20 = .ok (.iconst 4, 1) := by decide +kernel
theorem dX9_layRow_21 : decode cX9_layRow 21 = .ok (.invokevirtual 121, 3) := by decide +kernel
theorem dX9_layRow_24 : decode cX9_layRow 24 = .ok (.aload_n 0, 1) := by decide +kernel
theorem dX9_layRow_25 : decode cX9_layRow 25 = .ok (.bipush 9, 2) := by decide +kernel
theorem dX9_layRow_27 : decode cX9_layRow 27 = .ok (.lload 4, 2) := by decide +kernel
theorem dX9_layRow_29 : decode cX9_layRow 29 = .ok (.bipush 8, 2) := by decide +kernel
theorem dX9_layRow_31 : decode cX9_layRow 31 = .ok (.invokevirtual 121, 3) := by decide +kernel
theorem dX9_layRow_34 : decode cX9_layRow 34 = .ok (.aload_n 0, 1) := by decide +kernel
theorem dX9_layRow_35 : decode cX9_layRow 35 = .ok (.bipush 17, 2) := by decide +kernel
theorem dX9_layRow_37 : decode cX9_layRow 37 = .ok (.lconst 0, 1) := by decide +kernel
theorem dX9_layRow_38 : decode cX9_layRow 38 = .ok (.bipush 6, 2) := by decide +kernel
theorem dX9_layRow_40 : decode cX9_layRow 40 = .ok (.invokevirtual 121, 3) := by decide +kernel
theorem dX9_layRow_43 : decode cX9_layRow 43 = .ok (.aload_n 0, 1) := by decide +kernel
theorem dX9_layRow_44 : decode cX9_layRow 44 = .ok (.bipush 23, 2) := by decide +kernel
theorem dX9_layRow_46 : decode cX9_layRow 46 = .ok (.aload_n 0, 1) := by decide +kernel
theorem dX9_layRow_47 : decode cX9_layRow 47 = .ok (.iconst 2, 1) := by decide +kernel
theorem dX9_layRow_48 : decode cX9_layRow 48 = .ok (.bipush 23, 2) := by decide +kernel
theorem dX9_layRow_50 : decode cX9_layRow 50 = .ok (.invokevirtual 124, 3) := by decide +kernel
theorem dX9_layRow_53 : decode cX9_layRow 53 = .ok (.bipush 8, 2) := by decide +kernel
theorem dX9_layRow_55 : decode cX9_layRow 55 = .ok (.invokevirtual 121, 3) := by decide +kernel
theorem dX9_layRow_58 : decode cX9_layRow 58 = .ok (.aload_n 0, 1) := by decide +kernel
theorem dX9_layRow_59 : decode cX9_layRow 59 = .ok (.getfield 24, 3) := by decide +kernel
theorem dX9_layRow_62 : decode cX9_layRow 62 = .ok (.bipush 31, 2) := by decide +kernel
theorem dX9_layRow_64 : decode cX9_layRow 64 = .ok (.sipush 165, 3) := by decide +kernel
theorem dX9_layRow_67 : decode cX9_layRow 67 = .ok (.iastore, 1) := by decide +kernel
theorem dX9_layRow_68 : decode cX9_layRow 68 = .ok (.return_, 1) := by decide +kernel
theorem dX9_writeFresh_0 : decode cX9_writeFresh 0 = .ok (.iconst 0, 1) := by decide +kernel
theorem dX9_writeFresh_1 : decode cX9_writeFresh 1 = .ok (.istore_n 3, 1) := by decide +kernel
theorem dX9_writeFresh_2 : decode cX9_writeFresh 2 = .ok (.iload_n 3, 1) := by decide +kernel
theorem dX9_writeFresh_3 : decode cX9_writeFresh 3 = .ok (.iload_n 2, 1) := by decide +kernel
theorem dX9_writeFresh_4 : decode cX9_writeFresh 4 = .ok (.if_icmp .ge 22, 3) := by decide +kernel
theorem dX9_writeFresh_7 : decode cX9_writeFresh 7 = .ok (.aload_n 0, 1) := by decide +kernel
theorem dX9_writeFresh_8 : decode cX9_writeFresh 8 = .ok (.iload_n 1, 1) := by decide +kernel
theorem dX9_writeFresh_9 : decode cX9_writeFresh 9 = .ok (.iload_n 3, 1) := by decide +kernel
theorem dX9_writeFresh_10 : decode cX9_writeFresh 10 = .ok (.iadd, 1) := by decide +kernel
theorem dX9_writeFresh_11 : decode cX9_writeFresh 11 = .ok (.aload_n 0, 1) := by decide +kernel
theorem dX9_writeFresh_12 : decode cX9_writeFresh 12 = .ok (.getfield 24, 3) := by decide +kernel
theorem dX9_writeFresh_15 : decode cX9_writeFresh 15 = .ok (.iload_n 3, 1) := by decide +kernel
theorem dX9_writeFresh_16 : decode cX9_writeFresh 16 = .ok (.iaload, 1) := by decide +kernel
theorem dX9_writeFresh_17 : decode cX9_writeFresh 17 = .ok (.invokevirtual 128, 3) := by decide +kernel
theorem dX9_writeFresh_20 : decode cX9_writeFresh 20 = .ok (.iinc 3 1, 3) := by decide +kernel
theorem dX9_writeFresh_23 : decode cX9_writeFresh 23 = .ok (.goto (-21), 3) := by decide +kernel
theorem dX9_writeFresh_26 : decode cX9_writeFresh 26 = .ok (.return_, 1) := by decide +kernel
theorem dX9_rowPlace_0 : decode cX9_rowPlace 0 = .ok (.bipush 32, 2) := by decide +kernel
theorem dX9_rowPlace_2 : decode cX9_rowPlace 2 = .ok (.sipush 4096, 3) := by decide +kernel
theorem dX9_rowPlace_5 : decode cX9_rowPlace 5 = .ok (.iload_n 1, 1) := by decide +kernel
theorem dX9_rowPlace_6 : decode cX9_rowPlace 6 = .ok (.imul, 1) := by decide +kernel
theorem dX9_rowPlace_7 : decode cX9_rowPlace 7 = .ok (.iadd, 1) := by decide +kernel
theorem dX9_rowPlace_8 : decode cX9_rowPlace 8 = .ok (.bipush 32, 2) := by decide +kernel
theorem dX9_rowPlace_10 : decode cX9_rowPlace 10 = .ok (.iload_n 2, 1) := by decide +kernel
theorem dX9_rowPlace_11 : decode cX9_rowPlace 11 = .ok (.imul, 1) := by decide +kernel
theorem dX9_rowPlace_12 : decode cX9_rowPlace 12 = .ok (.iadd, 1) := by decide +kernel
theorem dX9_rowPlace_13 : decode cX9_rowPlace 13 = .ok (.ireturn, 1) := by decide +kernel
theorem dX9_pagePlace_0 : decode cX9_pagePlace 0 = .ok (.sipush 8224, 3) := by decide +kernel
theorem dX9_pagePlace_3 : decode cX9_pagePlace 3 = .ok (.bipush 26, 2) := by decide +kernel
theorem dX9_pagePlace_5 : decode cX9_pagePlace 5 = .ok (.iload_n 1, 1) := by decide +kernel
theorem dX9_pagePlace_6 : decode cX9_pagePlace 6 = .ok (.imul, 1) := by decide +kernel
theorem dX9_pagePlace_7 : decode cX9_pagePlace 7 = .ok (.iadd, 1) := by decide +kernel
theorem dX9_pagePlace_8 : decode cX9_pagePlace 8 = .ok (.ireturn, 1) := by decide +kernel
theorem dX9_stateOf_0 : decode cX9_stateOf 0 = .ok (.iconst 1, 1) := by decide +kernel
theorem dX9_stateOf_1 : decode cX9_stateOf 1 = .ok (.istore 4, 2) := by decide +kernel
theorem dX9_stateOf_3 : decode cX9_stateOf 3 = .ok (.iconst 1, 1) := by decide +kernel
theorem dX9_stateOf_4 : decode cX9_stateOf 4 = .ok (.istore 5, 2) := by decide +kernel
theorem dX9_stateOf_6 : decode cX9_stateOf 6 = .ok (.iconst 0, 1) := by decide +kernel
theorem dX9_stateOf_7 : decode cX9_stateOf 7 = .ok (.istore 6, 2) := by decide +kernel
theorem dX9_stateOf_9 : decode cX9_stateOf 9 = .ok (.iload 6, 2) := by decide +kernel
theorem dX9_stateOf_11 : decode cX9_stateOf 11 = .ok (.iload_n 2, 1) := by decide +kernel
theorem dX9_stateOf_12 : decode cX9_stateOf 12 = .ok (.if_icmp .ge 59, 3) := by decide +kernel
theorem dX9_stateOf_15 : decode cX9_stateOf 15 = .ok (.iload 4, 2) := by decide +kernel
theorem dX9_stateOf_17 : decode cX9_stateOf 17 = .ok (.aload_n 0, 1) := by decide +kernel
theorem dX9_stateOf_18 : decode cX9_stateOf 18 = .ok (.iload_n 1, 1) := by decide +kernel
theorem dX9_stateOf_19 : decode cX9_stateOf 19 = .ok (.iload 6, 2) := by decide +kernel
theorem dX9_stateOf_21 : decode cX9_stateOf 21 = .ok (.iadd, 1) := by decide +kernel
theorem dX9_stateOf_22 : decode cX9_stateOf 22 = .ok (.invokevirtual 96, 3) := by decide +kernel
theorem dX9_stateOf_25 : decode cX9_stateOf 25 = .ok (.ifCond .ne 7, 3) := by decide +kernel
theorem dX9_stateOf_28 : decode cX9_stateOf 28 = .ok (.iconst 1, 1) := by decide +kernel
theorem dX9_stateOf_29 : decode cX9_stateOf 29 = .ok (.goto 4, 3) := by decide +kernel
theorem dX9_stateOf_33 : decode cX9_stateOf 33 = .ok (.iand, 1) := by decide +kernel
theorem dX9_stateOf_34 : decode cX9_stateOf 34 = .ok (.istore 4, 2) := by decide +kernel
theorem dX9_stateOf_36 : decode cX9_stateOf 36 = .ok (.iload 5, 2) := by decide +kernel
theorem dX9_stateOf_38 : decode cX9_stateOf 38 = .ok (.iload 6, 2) := by decide +kernel
theorem dX9_stateOf_40 : decode cX9_stateOf 40 = .ok (.iload_n 2, 1) := by decide +kernel
theorem dX9_stateOf_41 : decode cX9_stateOf 41 = .ok (.iconst 1, 1) := by decide +kernel
theorem dX9_stateOf_42 : decode cX9_stateOf 42 = .ok (.isub, 1) := by decide +kernel
theorem dX9_stateOf_43 : decode cX9_stateOf 43 = .ok (.if_icmp .eq 14, 3) := by decide +kernel
theorem dX9_stateOf_46 : decode cX9_stateOf 46 = .ok (.aload_n 0, 1) := by decide +kernel
theorem dX9_stateOf_47 : decode cX9_stateOf 47 = .ok (.iload_n 1, 1) := by decide +kernel
theorem dX9_stateOf_48 : decode cX9_stateOf 48 = .ok (.iload 6, 2) := by decide +kernel
theorem dX9_stateOf_50 : decode cX9_stateOf 50 = .ok (.iadd, 1) := by decide +kernel
theorem dX9_stateOf_51 : decode cX9_stateOf 51 = .ok (.invokevirtual 96, 3) := by decide +kernel
theorem dX9_stateOf_54 : decode cX9_stateOf 54 = .ok (.ifCond .ne 7, 3) := by decide +kernel
theorem dX9_stateOf_57 : decode cX9_stateOf 57 = .ok (.iconst 1, 1) := by decide +kernel
theorem dX9_stateOf_58 : decode cX9_stateOf 58 = .ok (.goto 4, 3) := by decide +kernel
theorem dX9_stateOf_62 : decode cX9_stateOf 62 = .ok (.iand, 1) := by decide +kernel
theorem dX9_stateOf_63 : decode cX9_stateOf 63 = .ok (.istore 5, 2) := by decide +kernel
theorem dX9_stateOf_65 : decode cX9_stateOf 65 = .ok (.iinc 6 1, 3) := by decide +kernel
theorem dX9_stateOf_68 : decode cX9_stateOf 68 = .ok (.goto (-59), 3) := by decide +kernel
theorem dX9_stateOf_71 : decode cX9_stateOf 71 = .ok (.iload 4, 2) := by decide +kernel
theorem dX9_stateOf_73 : decode cX9_stateOf 73 = .ok (.ifCond .eq 5, 3) := by decide +kernel
theorem dX9_stateOf_76 : decode cX9_stateOf 76 = .ok (.iconst 0, 1) := by decide +kernel
theorem dX9_stateOf_77 : decode cX9_stateOf 77 = .ok (.ireturn, 1) := by decide +kernel
theorem dX9_pageState_0 : decode cX9_pageState 0 = .ok (.aload_n 0, 1) := by decide +kernel
theorem dX9_pageState_1 : decode cX9_pageState 1 = .ok (.aload_n 0, 1) := by decide +kernel
theorem dX9_pageState_2 : decode cX9_pageState 2 = .ok (.iload_n 1, 1) := by decide +kernel
theorem dX9_pageState_3 : decode cX9_pageState 3 = .ok (.invokevirtual 154, 3) := by decide +kernel
theorem dX9_pageState_6 : decode cX9_pageState 6 = .ok (.bipush 26, 2) := by decide +kernel
theorem dX9_pageState_8 : decode cX9_pageState 8 = .ok (.iconst 3, 1) := by decide +kernel
theorem dX9_pageState_9 : decode cX9_pageState 9 = .ok (.invokevirtual 150, 3) := by decide +kernel
theorem dX9_pageState_12 : decode cX9_pageState 12 = .ok (.ireturn, 1) := by decide +kernel
theorem dX9_rows_0 : decode cX9_rows 0 = .ok (.aload_n 0, 1) := by decide +kernel
theorem dX9_rows_1 : decode cX9_rows 1 = .ok (.getfield 157, 3) := by decide +kernel
theorem dX9_rows_4 : decode cX9_rows 4 = .ok (.ireturn, 1) := by decide +kernel
theorem dX9_badRows_0 : decode cX9_badRows 0 = .ok (.iconst 0, 1) := by decide +kernel
theorem dX9_badRows_1 : decode cX9_badRows 1 = .ok (.istore_n 1, 1) := by decide +kernel
theorem dX9_badRows_2 : decode cX9_badRows 2 = .ok (.aload_n 0, 1) := by decide +kernel
theorem dX9_badRows_3 : decode cX9_badRows 3 = .ok (.invokevirtual 163, 3) := by decide +kernel
theorem dX9_badRows_6 : decode cX9_badRows 6 = .ok (.istore_n 2, 1) := by decide +kernel
theorem dX9_badRows_7 : decode cX9_badRows 7 = .ok (.iconst 0, 1) := by decide +kernel
theorem dX9_badRows_8 : decode cX9_badRows 8 = .ok (.istore_n 3, 1) := by decide +kernel
theorem dX9_badRows_9 : decode cX9_badRows 9 = .ok (.iload_n 3, 1) := by decide +kernel
theorem dX9_badRows_10 : decode cX9_badRows 10 = .ok (.iload_n 2, 1) := by decide +kernel
theorem dX9_badRows_11 : decode cX9_badRows 11 = .ok (.if_icmp .ge 26, 3) := by decide +kernel
theorem dX9_badRows_37 : decode cX9_badRows 37 = .ok (.iload_n 1, 1) := by decide +kernel
theorem dX9_badRows_38 : decode cX9_badRows 38 = .ok (.ireturn, 1) := by decide +kernel
theorem dX9_read_0 : decode cX9_read 0 = .ok (.aload_n 0, 1) := by decide +kernel
theorem dX9_read_1 : decode cX9_read 1 = .ok (.aload_n 0, 1) := by decide +kernel
theorem dX9_read_2 : decode cX9_read 2 = .ok (.invokevirtual 163, 3) := by decide +kernel
theorem dX9_read_5 : decode cX9_read 5 = .ok (.putfield 167, 3) := by decide +kernel
theorem dX9_read_8 : decode cX9_read 8 = .ok (.aload_n 0, 1) := by decide +kernel
theorem dX9_read_9 : decode cX9_read 9 = .ok (.aload_n 0, 1) := by decide +kernel
theorem dX9_read_10 : decode cX9_read 10 = .ok (.invokevirtual 173, 3) := by decide +kernel
theorem dX9_read_13 : decode cX9_read 13 = .ok (.ifCond .le 7, 3) := by decide +kernel
theorem dX9_read_20 : decode cX9_read 20 = .ok (.iconst 0, 1) := by decide +kernel
theorem dX9_read_21 : decode cX9_read 21 = .ok (.putfield 176, 3) := by decide +kernel
theorem dX9_read_24 : decode cX9_read 24 = .ok (.aload_n 0, 1) := by decide +kernel
theorem dX9_read_25 : decode cX9_read 25 = .ok (.iconst (-1), 1) := by decide +kernel
theorem dX9_read_26 : decode cX9_read 26 = .ok (.putfield 179, 3) := by decide +kernel
theorem dX9_read_29 : decode cX9_read 29 = .ok (.aload_n 0, 1) := by decide +kernel
theorem dX9_read_30 : decode cX9_read 30 = .ok (.iconst 0, 1) := by decide +kernel
theorem dX9_read_31 : decode cX9_read 31 = .ok (.putfield 182, 3) := by decide +kernel
theorem dX9_read_34 : decode cX9_read 34 = .ok (.aload_n 0, 1) := by decide +kernel
theorem dX9_read_35 : decode cX9_read 35 = .ok (.lconst 0, 1) := by decide +kernel
theorem dX9_read_36 : decode cX9_read 36 = .ok (.putfield 185, 3) := by decide +kernel
theorem dX9_read_39 : decode cX9_read 39 = .ok (.aload_n 0, 1) := by decide +kernel
theorem dX9_read_40 : decode cX9_read 40 = .ok (.iconst 0, 1) := by decide +kernel
theorem dX9_read_41 : decode cX9_read 41 = .ok (.putfield 189, 3) := by decide +kernel
theorem dX9_read_44 : decode cX9_read 44 = .ok (.aload_n 0, 1) := by decide +kernel
theorem dX9_read_45 : decode cX9_read 45 = .ok (.iconst 0, 1) := by decide +kernel
theorem dX9_read_46 : decode cX9_read 46 = .ok (.putfield 192, 3) := by decide +kernel
theorem dX9_read_49 : decode cX9_read 49 = .ok (.aload_n 0, 1) := by decide +kernel
theorem dX9_read_50 : decode cX9_read 50 = .ok (.lconst 0, 1) := by decide +kernel
theorem dX9_read_51 : decode cX9_read 51 = .ok (.putfield 195, 3) := by decide +kernel
theorem dX9_read_54 : decode cX9_read 54 = .ok (.iconst 0, 1) := by decide +kernel
theorem dX9_read_55 : decode cX9_read 55 = .ok (.istore_n 1, 1) := by decide +kernel
theorem dX9_read_56 : decode cX9_read 56 = .ok (.iload_n 1, 1) := by decide +kernel
theorem dX9_read_57 : decode cX9_read 57 = .ok (.sipush 128, 3) := by decide +kernel
theorem dX9_read_60 : decode cX9_read 60 = .ok (.if_icmp .ge 30, 3) := by decide +kernel
theorem dX9_read_63 : decode cX9_read 63 = .ok (.aload_n 0, 1) := by decide +kernel
theorem dX9_read_64 : decode cX9_read 64 = .ok (.getfield 27, 3) := by decide +kernel
theorem dX9_read_67 : decode cX9_read 67 = .ok (.iload_n 1, 1) := by decide +kernel
theorem dX9_read_68 : decode cX9_read 68 = .ok (.lconst 0, 1) := by decide +kernel
theorem dX9_read_69 : decode cX9_read 69 = .ok (.lastore, 1) := by decide +kernel
theorem dX9_read_70 : decode cX9_read 70 = .ok (.aload_n 0, 1) := by decide +kernel
theorem dX9_read_71 : decode cX9_read 71 = .ok (.getfield 30, 3) := by decide +kernel
theorem dX9_read_74 : decode cX9_read 74 = .ok (.iload_n 1, 1) := by decide +kernel
theorem dX9_read_75 : decode cX9_read 75 = .ok (.iconst 0, 1) := by decide +kernel
theorem dX9_read_76 : decode cX9_read 76 = .ok (.bastore, 1) := by decide +kernel
theorem dX9_read_77 : decode cX9_read 77 = .ok (.aload_n 0, 1) := by decide +kernel
theorem dX9_read_78 : decode cX9_read 78 = .ok (.getfield 34, 3) := by decide +kernel
theorem dX9_read_81 : decode cX9_read 81 = .ok (.iload_n 1, 1) := by decide +kernel
theorem dX9_read_82 : decode cX9_read 82 = .ok (.iconst 0, 1) := by decide +kernel
theorem dX9_read_83 : decode cX9_read 83 = .ok (.bastore, 1) := by decide +kernel
theorem dX9_read_84 : decode cX9_read 84 = .ok (.iinc 1 1, 3) := by decide +kernel
theorem dX9_read_87 : decode cX9_read 87 = .ok (.goto (-31), 3) := by decide +kernel
theorem dX9_read_90 : decode cX9_read 90 = .ok (.iconst 0, 1) := by decide +kernel
theorem dX9_read_91 : decode cX9_read 91 = .ok (.istore_n 1, 1) := by decide +kernel
theorem dX9_read_92 : decode cX9_read 92 = .ok (.iload_n 1, 1) := by decide +kernel
theorem dX9_read_93 : decode cX9_read 93 = .ok (.aload_n 0, 1) := by decide +kernel
theorem dX9_read_94 : decode cX9_read 94 = .ok (.getfield 167, 3) := by decide +kernel
theorem dX9_read_97 : decode cX9_read 97 = .ok (.if_icmp .ge 64, 3) := by decide +kernel
theorem dX9_read_161 : decode cX9_read 161 = .ok (.return_, 1) := by decide +kernel
theorem dX9_numberSum_0 : decode cX9_numberSum 0 = .ok (.lload_n 1, 1) := by decide +kernel
theorem dX9_numberSum_1 : decode cX9_numberSum 1 = .ok (.lstore 6, 2) := by decide +kernel
theorem dX9_numberSum_3 : decode cX9_numberSum 3 = .ok (.iload 5, 2) := by decide +kernel
theorem dX9_numberSum_5 : decode cX9_numberSum 5 = .ok (.iconst 1, 1) := by decide +kernel
theorem dX9_numberSum_6 : decode cX9_numberSum 6 = .ok (.isub, 1) := by decide +kernel
theorem dX9_numberSum_7 : decode cX9_numberSum 7 = .ok (.istore 8, 2) := by decide +kernel
theorem dX9_numberSum_9 : decode cX9_numberSum 9 = .ok (.iload 8, 2) := by decide +kernel
theorem dX9_numberSum_11 : decode cX9_numberSum 11 = .ok (.ifCond .lt 28, 3) := by decide +kernel
theorem dX9_numberSum_14 : decode cX9_numberSum 14 = .ok (.lload 6, 2) := by decide +kernel
theorem dX9_numberSum_16 : decode cX9_numberSum 16 = .ok (.lload_n 3, 1) := by decide +kernel
theorem dX9_numberSum_17 : decode cX9_numberSum 17 = .ok (.bipush 8, 2) := by decide +kernel
theorem dX9_numberSum_19 : decode cX9_numberSum 19 = .ok (.iload 8, 2) := by decide +kernel
theorem dX9_numberSum_21 : decode cX9_numberSum 21 = .ok (.imul, 1) := by decide +kernel
theorem dX9_numberSum_22 : decode cX9_numberSum 22 = .ok (.lushr, 1) := by decide +kernel
theorem dX9_numberSum_23 : decode cX9_numberSum 23 = .ok (.ldc2_w 94, 3) := by decide +kernel
theorem dX9_numberSum_26 : decode cX9_numberSum 26 = .ok (.land, 1) := by decide +kernel
theorem dX9_numberSum_27 : decode cX9_numberSum 27 = .ok (.l2i, 1) := by decide +kernel
theorem dX9_numberSum_28 : decode cX9_numberSum 28 = .ok (.invokestatic 104, 3) := by decide +kernel
theorem dX9_numberSum_31 : decode cX9_numberSum 31 = .ok (.lstore 6, 2) := by decide +kernel
theorem dX9_numberSum_33 : decode cX9_numberSum 33 = .ok (.iinc 8 (-1), 3) := by decide +kernel
theorem dX9_numberSum_36 : decode cX9_numberSum 36 = .ok (.goto (-27), 3) := by decide +kernel
theorem dX9_numberSum_39 : decode cX9_numberSum 39 = .ok (.lload 6, 2) := by decide +kernel
theorem dX9_numberSum_41 : decode cX9_numberSum 41 = .ok (.lreturn, 1) := by decide +kernel
theorem dX9_blockRow_0 : decode cX9_blockRow 0 = .ok (.iconst 0, 1) := by decide +kernel
theorem dX9_blockRow_1 : decode cX9_blockRow 1 = .ok (.istore 4, 2) := by decide +kernel
theorem dX9_blockRow_3 : decode cX9_blockRow 3 = .ok (.iload 4, 2) := by decide +kernel
theorem dX9_blockRow_5 : decode cX9_blockRow 5 = .ok (.iload_n 3, 1) := by decide +kernel
theorem dX9_blockRow_6 : decode cX9_blockRow 6 = .ok (.if_icmp .ge 44, 3) := by decide +kernel
theorem dX9_blockRow_50 : decode cX9_blockRow 50 = .ok (.iconst (-1), 1) := by decide +kernel
theorem dX9_blockRow_51 : decode cX9_blockRow 51 = .ok (.ireturn, 1) := by decide +kernel
theorem dX9_versionState_0 : decode cX9_versionState 0 = .ok (.iconst 0, 1) := by decide +kernel
theorem dX9_versionState_1 : decode cX9_versionState 1 = .ok (.istore_n 2, 1) := by decide +kernel
theorem dX9_versionState_2 : decode cX9_versionState 2 = .ok (.iload_n 2, 1) := by decide +kernel
theorem dX9_versionState_3 : decode cX9_versionState 3 = .ok (.bipush 16, 2) := by decide +kernel
theorem dX9_versionState_5 : decode cX9_versionState 5 = .ok (.if_icmp .ge 16, 3) := by decide +kernel
theorem dX9_versionState_8 : decode cX9_versionState 8 = .ok (.aload_n 0, 1) := by decide +kernel
theorem dX9_versionState_9 : decode cX9_versionState 9 = .ok (.getfield 40, 3) := by decide +kernel
theorem dX9_versionState_12 : decode cX9_versionState 12 = .ok (.iload_n 2, 1) := by decide +kernel
theorem dX9_versionState_13 : decode cX9_versionState 13 = .ok (.lconst 0, 1) := by decide +kernel
theorem dX9_versionState_14 : decode cX9_versionState 14 = .ok (.lastore, 1) := by decide +kernel
theorem dX9_versionState_15 : decode cX9_versionState 15 = .ok (.iinc 2 1, 3) := by decide +kernel
theorem dX9_versionState_18 : decode cX9_versionState 18 = .ok (.goto (-16), 3) := by decide +kernel
theorem dX9_versionState_21 : decode cX9_versionState 21 = .ok (.aload_n 0, 1) := by decide +kernel
theorem dX9_versionState_22 : decode cX9_versionState 22 = .ok (.getfield 189, 3) := by decide +kernel
theorem dX9_versionState_25 : decode cX9_versionState 25 = .ok (.ifCond .eq 8, 3) := by decide +kernel
theorem dX9_versionState_33 : decode cX9_versionState 33 = .ok (.iconst 1, 1) := by decide +kernel
theorem dX9_versionState_34 : decode cX9_versionState 34 = .ok (.istore_n 2, 1) := by decide +kernel
theorem dX9_versionState_35 : decode cX9_versionState 35 = .ok (.iload_n 2, 1) := by decide +kernel
theorem dX9_versionState_36 : decode cX9_versionState 36 = .ok (.iload_n 1, 1) := by decide +kernel
theorem dX9_versionState_37 : decode cX9_versionState 37 = .ok (.aload_n 0, 1) := by decide +kernel
theorem dX9_versionState_38 : decode cX9_versionState 38 = .ok (.getfield 182, 3) := by decide +kernel
theorem dX9_versionState_41 : decode cX9_versionState 41 = .ok (.isub, 1) := by decide +kernel
theorem dX9_versionState_42 : decode cX9_versionState 42 = .ok (.if_icmp .gt 19, 3) := by decide +kernel
theorem dX9_versionState_61 : decode cX9_versionState 61 = .ok (.return_, 1) := by decide +kernel
theorem dX9_isKept_0 : decode cX9_isKept 0 = .ok (.aload_n 0, 1) := by decide +kernel
theorem dX9_isKept_1 : decode cX9_isKept 1 = .ok (.getfield 176, 3) := by decide +kernel
theorem dX9_isKept_4 : decode cX9_isKept 4 = .ok (.ifCond .ne 23, 3) := by decide +kernel
theorem dX9_isKept_7 : decode cX9_isKept 7 = .ok (.iload_n 1, 1) := by decide +kernel
theorem dX9_isKept_8 : decode cX9_isKept 8 = .ok (.aload_n 0, 1) := by decide +kernel
theorem dX9_isKept_9 : decode cX9_isKept 9 = .ok (.getfield 182, 3) := by decide +kernel
theorem dX9_isKept_12 : decode cX9_isKept 12 = .ok (.if_icmp .lt 15, 3) := by decide +kernel
theorem dX9_isKept_15 : decode cX9_isKept 15 = .ok (.iload_n 1, 1) := by decide +kernel
theorem dX9_isKept_16 : decode cX9_isKept 16 = .ok (.aload_n 0, 1) := by decide +kernel
theorem dX9_isKept_17 : decode cX9_isKept 17 = .ok (.getfield 192, 3) := by decide +kernel
theorem dX9_isKept_20 : decode cX9_isKept 20 = .ok (.if_icmp .gt 7, 3) := by decide +kernel
theorem dX9_isKept_23 : decode cX9_isKept 23 = .ok (.iconst 1, 1) := by decide +kernel
theorem dX9_isKept_24 : decode cX9_isKept 24 = .ok (.goto 4, 3) := by decide +kernel
theorem dX9_isKept_27 : decode cX9_isKept 27 = .ok (.iconst 0, 1) := by decide +kernel
theorem dX9_isKept_28 : decode cX9_isKept 28 = .ok (.ireturn, 1) := by decide +kernel
theorem dX9_pageOf_0 : decode cX9_pageOf 0 = .ok (.iconst 0, 1) := by decide +kernel
theorem dX9_pageOf_1 : decode cX9_pageOf 1 = .ok (.istore_n 3, 1) := by decide +kernel
theorem dX9_pageOf_2 : decode cX9_pageOf 2 = .ok (.iload_n 3, 1) := by decide +kernel
theorem dX9_pageOf_3 : decode cX9_pageOf 3 = .ok (.aload_n 0, 1) := by decide +kernel
theorem dX9_pageOf_4 : decode cX9_pageOf 4 = .ok (.getfield 62, 3) := by decide +kernel
theorem dX9_pageOf_7 : decode cX9_pageOf 7 = .ok (.if_icmp .ge 39, 3) := by decide +kernel
theorem dX9_pageOf_10 : decode cX9_pageOf 10 = .ok (.aload_n 0, 1) := by decide +kernel
theorem dX9_pageOf_11 : decode cX9_pageOf 11 = .ok (.aload_n 0, 1) := by decide +kernel
theorem dX9_pageOf_12 : decode cX9_pageOf 12 = .ok (.iload_n 3, 1) := by decide +kernel
theorem dX9_pageOf_13 : decode cX9_pageOf 13 = .ok (.invokevirtual 154, 3) := by decide +kernel
theorem dX9_pageOf_16 : decode cX9_pageOf 16 = .ok (.bipush 17, 2) := by decide +kernel
theorem dX9_pageOf_18 : decode cX9_pageOf 18 = .ok (.iadd, 1) := by decide +kernel
theorem dX9_pageOf_19 : decode cX9_pageOf 19 = .ok (.bipush 8, 2) := by decide +kernel
theorem dX9_pageOf_21 : decode cX9_pageOf 21 = .ok (.invokevirtual 131, 3) := by decide +kernel
theorem dX9_pageOf_24 : decode cX9_pageOf 24 = .ok (.lload_n 1, 1) := by decide +kernel
theorem dX9_pageOf_25 : decode cX9_pageOf 25 = .ok (.lcmp, 1) := by decide +kernel
theorem dX9_pageOf_26 : decode cX9_pageOf 26 = .ok (.ifCond .ne 14, 3) := by decide +kernel
theorem dX9_pageOf_29 : decode cX9_pageOf 29 = .ok (.aload_n 0, 1) := by decide +kernel
theorem dX9_pageOf_30 : decode cX9_pageOf 30 = .ok (.iload_n 3, 1) := by decide +kernel
theorem dX9_pageOf_31 : decode cX9_pageOf 31 = .ok (.invokevirtual 238, 3) := by decide +kernel
theorem dX9_pageOf_34 : decode cX9_pageOf 34 = .ok (.iconst 1, 1) := by decide +kernel
theorem dX9_pageOf_35 : decode cX9_pageOf 35 = .ok (.if_icmp .ne 5, 3) := by decide +kernel
theorem dX9_pageOf_40 : decode cX9_pageOf 40 = .ok (.iinc 3 1, 3) := by decide +kernel
theorem dX9_pageOf_43 : decode cX9_pageOf 43 = .ok (.goto (-41), 3) := by decide +kernel
theorem dX9_pageOf_46 : decode cX9_pageOf 46 = .ok (.iconst (-1), 1) := by decide +kernel
theorem dX9_pageOf_47 : decode cX9_pageOf 47 = .ok (.ireturn, 1) := by decide +kernel
theorem dX9_open_0 : decode cX9_open 0 = .ok (.aload_n 0, 1) := by decide +kernel
theorem dX9_open_1 : decode cX9_open 1 = .ok (.iconst 0, 1) := by decide +kernel
theorem dX9_open_2 : decode cX9_open 2 = .ok (.putfield 91, 3) := by decide +kernel
theorem dX9_open_5 : decode cX9_open 5 = .ok (.aload_n 0, 1) := by decide +kernel
theorem dX9_open_6 : decode cX9_open 6 = .ok (.getfield 72, 3) := by decide +kernel
theorem dX9_open_9 : decode cX9_open 9 = .ok (.ifCond .eq 8, 3) := by decide +kernel
theorem dX9_open_12 : decode cX9_open 12 = .ok (.aload_n 0, 1) := by decide +kernel
theorem dX9_open_13 : decode cX9_open 13 = .ok (.invokevirtual 163, 3) := by decide +kernel
