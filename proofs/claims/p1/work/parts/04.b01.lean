theorem dX6_hearBlock_85 : decode cX6_hearBlock 85 = .ok (.istore 5, 2) := by decide +kernel
theorem dX6_hearBlock_87 : decode cX6_hearBlock 87 = .ok (.iload 5, 2) := by decide +kernel
theorem dX6_hearBlock_89 : decode cX6_hearBlock 89 = .ok (.iload 4, 2) := by decide +kernel
theorem dX6_hearBlock_91 : decode cX6_hearBlock 91 = .ok (.if_icmp .gt 17, 3) := by decide +kernel
theorem dX6_hearBlock_108 : decode cX6_hearBlock 108 = .ok (.return_, 1) := by decide +kernel
theorem dX6_isWhole_0 : decode cX6_isWhole 0 = .ok (.aload_n 0, 1) := by decide +kernel
theorem dX6_isWhole_1 : decode cX6_isWhole 1 = .ok (.getfield 9, 3) := by decide +kernel
theorem dX6_isWhole_4 : decode cX6_isWhole 4 = .ok (.iload_n 1, 1) := by decide +kernel
theorem dX6_isWhole_5 : decode cX6_isWhole 5 = .ok (.invokevirtual 97, 3) := by decide +kernel
theorem dX6_isWhole_8 : decode cX6_isWhole 8 = .ok (.istore_n 2, 1) := by decide +kernel
theorem dX6_isWhole_9 : decode cX6_isWhole 9 = .ok (.aload_n 0, 1) := by decide +kernel
theorem dX6_isWhole_10 : decode cX6_isWhole 10 = .ok (.getfield 9, 3) := by decide +kernel
theorem dX6_isWhole_13 : decode cX6_isWhole 13 = .ok (.iload_n 1, 1) := by decide +kernel
theorem dX6_isWhole_14 : decode cX6_isWhole 14 = .ok (.invokevirtual 87, 3) := by decide +kernel
theorem dX6_isWhole_17 : decode cX6_isWhole 17 = .ok (.invokestatic 103, 3) := by decide +kernel
theorem dX6_isWhole_20 : decode cX6_isWhole 20 = .ok (.ifCond .eq 23, 3) := by decide +kernel
theorem dX6_isWhole_23 : decode cX6_isWhole 23 = .ok (.iload_n 2, 1) := by decide +kernel
theorem dX6_isWhole_24 : decode cX6_isWhole 24 = .ok (.ifCond .lt 19, 3) := by decide +kernel
theorem dX6_isWhole_27 : decode cX6_isWhole 27 = .ok (.iload_n 2, 1) := by decide +kernel
theorem dX6_isWhole_28 : decode cX6_isWhole 28 = .ok (.bipush 16, 2) := by decide +kernel
theorem dX6_isWhole_30 : decode cX6_isWhole 30 = .ok (.if_icmp .gt 13, 3) := by decide +kernel
theorem dX6_isWhole_33 : decode cX6_isWhole 33 = .ok (.iload_n 1, 1) := by decide +kernel
theorem dX6_isWhole_34 : decode cX6_isWhole 34 = .ok (.iload_n 2, 1) := by decide +kernel
theorem dX6_isWhole_35 : decode cX6_isWhole 35 = .ok (.iadd, 1) := by decide +kernel
theorem dX6_isWhole_36 : decode cX6_isWhole 36 = .ok (.aload_n 0, 1) := by decide +kernel
theorem dX6_isWhole_37 : decode cX6_isWhole 37 = .ok (.getfield 36, 3) := by decide +kernel
theorem dX6_isWhole_40 : decode cX6_isWhole 40 = .ok (.if_icmp .lt 5, 3) := by decide +kernel
theorem dX6_isWhole_45 : decode cX6_isWhole 45 = .ok (.iload_n 1, 1) := by decide +kernel
theorem dX6_isWhole_46 : decode cX6_isWhole 46 = .ok (.iconst 1, 1) := by decide +kernel
theorem dX6_isWhole_47 : decode cX6_isWhole 47 = .ok (.iadd, 1) := by decide +kernel
theorem dX6_isWhole_48 : decode cX6_isWhole 48 = .ok (.istore_n 3, 1) := by decide +kernel
theorem dX6_isWhole_49 : decode cX6_isWhole 49 = .ok (.iload_n 3, 1) := by decide +kernel
theorem dX6_isWhole_50 : decode cX6_isWhole 50 = .ok (.iload_n 1, 1) := by decide +kernel
theorem dX6_isWhole_51 : decode cX6_isWhole 51 = .ok (.iload_n 2, 1) := by decide +kernel
theorem dX6_isWhole_52 : decode cX6_isWhole 52 = .ok (.iadd, 1) := by decide +kernel
theorem dX6_isWhole_53 : decode cX6_isWhole 53 = .ok (.if_icmp .gt 45, 3) := by decide +kernel
theorem dX6_isWhole_98 : decode cX6_isWhole 98 = .ok (.iconst 1, 1) := by decide +kernel
theorem dX6_isWhole_99 : decode cX6_isWhole 99 = .ok (.ireturn, 1) := by decide +kernel
theorem dX6_sumOfBlock_0 : decode cX6_sumOfBlock 0 = .ok (.iconst 4, 1) := by decide +kernel
theorem dX6_sumOfBlock_1 : decode cX6_sumOfBlock 1 = .ok (.invokestatic 106, 3) := by decide +kernel
theorem dX6_sumOfBlock_4 : decode cX6_sumOfBlock 4 = .ok (.aload_n 0, 1) := by decide +kernel
theorem dX6_sumOfBlock_5 : decode cX6_sumOfBlock 5 = .ok (.getfield 9, 3) := by decide +kernel
theorem dX6_sumOfBlock_8 : decode cX6_sumOfBlock 8 = .ok (.iload_n 1, 1) := by decide +kernel
theorem dX6_sumOfBlock_9 : decode cX6_sumOfBlock 9 = .ok (.invokevirtual 87, 3) := by decide +kernel
theorem dX6_sumOfBlock_12 : decode cX6_sumOfBlock 12 = .ok (.invokestatic 111, 3) := by decide +kernel
theorem dX6_sumOfBlock_15 : decode cX6_sumOfBlock 15 = .ok (.aload_n 0, 1) := by decide +kernel
theorem dX6_sumOfBlock_16 : decode cX6_sumOfBlock 16 = .ok (.getfield 9, 3) := by decide +kernel
theorem dX6_sumOfBlock_19 : decode cX6_sumOfBlock 19 = .ok (.iload_n 1, 1) := by decide +kernel
theorem dX6_sumOfBlock_20 : decode cX6_sumOfBlock 20 = .ok (.invokevirtual 83, 3) := by decide +kernel
theorem dX6_sumOfBlock_23 : decode cX6_sumOfBlock 23 = .ok (.invokestatic 115, 3) := by decide +kernel
theorem dX6_sumOfBlock_26 : decode cX6_sumOfBlock 26 = .ok (.lstore_n 2, 1) := by decide +kernel
theorem dX6_sumOfBlock_27 : decode cX6_sumOfBlock 27 = .ok (.iload_n 1, 1) := by decide +kernel
theorem dX6_sumOfBlock_28 : decode cX6_sumOfBlock 28 = .ok (.aload_n 0, 1) := by decide +kernel
theorem dX6_sumOfBlock_29 : decode cX6_sumOfBlock 29 = .ok (.getfield 9, 3) := by decide +kernel
theorem dX6_sumOfBlock_32 : decode cX6_sumOfBlock 32 = .ok (.iload_n 1, 1) := by decide +kernel
theorem dX6_sumOfBlock_33 : decode cX6_sumOfBlock 33 = .ok (.invokevirtual 97, 3) := by decide +kernel
theorem dX6_sumOfBlock_36 : decode cX6_sumOfBlock 36 = .ok (.iadd, 1) := by decide +kernel
theorem dX6_sumOfBlock_37 : decode cX6_sumOfBlock 37 = .ok (.istore 4, 2) := by decide +kernel
theorem dX6_sumOfBlock_39 : decode cX6_sumOfBlock 39 = .ok (.iload_n 1, 1) := by decide +kernel
theorem dX6_sumOfBlock_40 : decode cX6_sumOfBlock 40 = .ok (.iconst 1, 1) := by decide +kernel
theorem dX6_sumOfBlock_41 : decode cX6_sumOfBlock 41 = .ok (.iadd, 1) := by decide +kernel
theorem dX6_sumOfBlock_42 : decode cX6_sumOfBlock 42 = .ok (.istore 5, 2) := by decide +kernel
theorem dX6_sumOfBlock_44 : decode cX6_sumOfBlock 44 = .ok (.iload 5, 2) := by decide +kernel
theorem dX6_sumOfBlock_46 : decode cX6_sumOfBlock 46 = .ok (.iload 4, 2) := by decide +kernel
theorem dX6_sumOfBlock_48 : decode cX6_sumOfBlock 48 = .ok (.if_icmp .gt 35, 3) := by decide +kernel
theorem dX6_sumOfBlock_83 : decode cX6_sumOfBlock 83 = .ok (.lload_n 2, 1) := by decide +kernel
theorem dX6_sumOfBlock_84 : decode cX6_sumOfBlock 84 = .ok (.lreturn, 1) := by decide +kernel
theorem dX6_blockRow_0 : decode cX6_blockRow 0 = .ok (.lload_n 1, 1) := by decide +kernel
theorem dX6_blockRow_1 : decode cX6_blockRow 1 = .ok (.lconst 0, 1) := by decide +kernel
theorem dX6_blockRow_2 : decode cX6_blockRow 2 = .ok (.lcmp, 1) := by decide +kernel
theorem dX6_blockRow_3 : decode cX6_blockRow 3 = .ok (.ifCond .ne 5, 3) := by decide +kernel
theorem dX6_blockRow_6 : decode cX6_blockRow 6 = .ok (.iconst (-1), 1) := by decide +kernel
theorem dX6_blockRow_7 : decode cX6_blockRow 7 = .ok (.ireturn, 1) := by decide +kernel
theorem dX6_blockRow_8 : decode cX6_blockRow 8 = .ok (.iconst 0, 1) := by decide +kernel
theorem dX6_blockRow_9 : decode cX6_blockRow 9 = .ok (.istore_n 3, 1) := by decide +kernel
theorem dX6_blockRow_10 : decode cX6_blockRow 10 = .ok (.iload_n 3, 1) := by decide +kernel
theorem dX6_blockRow_11 : decode cX6_blockRow 11 = .ok (.aload_n 0, 1) := by decide +kernel
theorem dX6_blockRow_12 : decode cX6_blockRow 12 = .ok (.getfield 36, 3) := by decide +kernel
theorem dX6_blockRow_15 : decode cX6_blockRow 15 = .ok (.if_icmp .ge 31, 3) := by decide +kernel
theorem dX6_blockRow_18 : decode cX6_blockRow 18 = .ok (.aload_n 0, 1) := by decide +kernel
theorem dX6_blockRow_19 : decode cX6_blockRow 19 = .ok (.getfield 19, 3) := by decide +kernel
theorem dX6_blockRow_22 : decode cX6_blockRow 22 = .ok (.iload_n 3, 1) := by decide +kernel
theorem dX6_blockRow_23 : decode cX6_blockRow 23 = .ok (.baload, 1) := by decide +kernel
theorem dX6_blockRow_24 : decode cX6_blockRow 24 = .ok (.ifCond .eq 16, 3) := by decide +kernel
theorem dX6_blockRow_40 : decode cX6_blockRow 40 = .ok (.iinc 3 1, 3) := by decide +kernel
theorem dX6_blockRow_43 : decode cX6_blockRow 43 = .ok (.goto (-33), 3) := by decide +kernel
theorem dX6_blockRow_46 : decode cX6_blockRow 46 = .ok (.iconst (-1), 1) := by decide +kernel
theorem dX6_blockRow_47 : decode cX6_blockRow 47 = .ok (.ireturn, 1) := by decide +kernel
theorem dX6_digestAt_0 : decode cX6_digestAt 0 = .ok (.iload_n 1, 1) := by decide +kernel
theorem dX6_digestAt_1 : decode cX6_digestAt 1 = .ok (.ifCond .lt 11, 3) := by decide +kernel
theorem dX6_digestAt_4 : decode cX6_digestAt 4 = .ok (.iload_n 1, 1) := by decide +kernel
theorem dX6_digestAt_5 : decode cX6_digestAt 5 = .ok (.aload_n 0, 1) := by decide +kernel
theorem dX6_digestAt_6 : decode cX6_digestAt 6 = .ok (.getfield 36, 3) := by decide +kernel
theorem dX6_digestAt_9 : decode cX6_digestAt 9 = .ok (.if_icmp .lt 7, 3) := by decide +kernel
theorem dX6_digestAt_12 : decode cX6_digestAt 12 = .ok (.lconst 0, 1) := by decide +kernel
theorem dX6_digestAt_13 : decode cX6_digestAt 13 = .ok (.goto 9, 3) := by decide +kernel
theorem dX6_digestAt_22 : decode cX6_digestAt 22 = .ok (.lreturn, 1) := by decide +kernel
theorem dX6_meant_0 : decode cX6_meant 0 = .ok (.lload_n 1, 1) := by decide +kernel
theorem dX6_meant_1 : decode cX6_meant 1 = .ok (.lconst 0, 1) := by decide +kernel
theorem dX6_meant_2 : decode cX6_meant 2 = .ok (.lcmp, 1) := by decide +kernel
theorem dX6_meant_3 : decode cX6_meant 3 = .ok (.ifCond .ge 24, 3) := by decide +kernel
theorem dX6_meant_6 : decode cX6_meant 6 = .ok (.lload_n 1, 1) := by decide +kernel
theorem dX6_meant_7 : decode cX6_meant 7 = .ok (.ldc2_w 119, 3) := by decide +kernel
theorem dX6_meant_10 : decode cX6_meant 10 = .ok (.lcmp, 1) := by decide +kernel
theorem dX6_meant_11 : decode cX6_meant 11 = .ok (.ifCond .lt 16, 3) := by decide +kernel
theorem dX6_meant_14 : decode cX6_meant 14 = .ok (.aload_n 0, 1) := by decide +kernel
theorem dX6_meant_15 : decode cX6_meant 15 = .ok (.ldc2_w 121, 3) := by decide +kernel
theorem dX6_meant_18 : decode cX6_meant 18 = .ok (.lload_n 1, 1) := by decide +kernel
theorem dX6_meant_19 : decode cX6_meant 19 = .ok (.lsub, 1) := by decide +kernel
theorem dX6_meant_20 : decode cX6_meant 20 = .ok (.l2i, 1) := by decide +kernel
theorem dX6_meant_21 : decode cX6_meant 21 = .ok (.invokevirtual 123, 3) := by decide +kernel
theorem dX6_meant_24 : decode cX6_meant 24 = .ok (.goto 4, 3) := by decide +kernel
theorem dX6_meant_27 : decode cX6_meant 27 = .ok (.lload_n 1, 1) := by decide +kernel
theorem dX6_meant_28 : decode cX6_meant 28 = .ok (.lreturn, 1) := by decide +kernel
theorem dX6_heightOfParent_0 : decode cX6_heightOfParent 0 = .ok (.lload_n 1, 1) := by decide +kernel
theorem dX6_heightOfParent_1 : decode cX6_heightOfParent 1 = .ok (.aload_n 0, 1) := by decide +kernel
theorem dX6_heightOfParent_2 : decode cX6_heightOfParent 2 = .ok (.getfield 46, 3) := by decide +kernel
theorem dX6_heightOfParent_5 : decode cX6_heightOfParent 5 = .ok (.ifCond .eq 12, 3) := by decide +kernel
theorem dX6_heightOfParent_17 : decode cX6_heightOfParent 17 = .ok (.lconst 0, 1) := by decide +kernel
theorem dX6_heightOfParent_18 : decode cX6_heightOfParent 18 = .ok (.lcmp, 1) := by decide +kernel
theorem dX6_heightOfParent_19 : decode cX6_heightOfParent 19 = .ok (.ifCond .ne 8, 3) := by decide +kernel
theorem dX6_heightOfParent_22 : decode cX6_heightOfParent 22 = .ok (.aload_n 0, 1) := by decide +kernel
theorem dX6_heightOfParent_23 : decode cX6_heightOfParent 23 = .ok (.getfield 50, 3) := by decide +kernel
theorem dX6_heightOfParent_26 : decode cX6_heightOfParent 26 = .ok (.ireturn, 1) := by decide +kernel
theorem dX6_heightOfParent_27 : decode cX6_heightOfParent 27 = .ok (.aload_n 0, 1) := by decide +kernel
theorem dX6_heightOfParent_28 : decode cX6_heightOfParent 28 = .ok (.lload_n 1, 1) := by decide +kernel
theorem dX6_heightOfParent_29 : decode cX6_heightOfParent 29 = .ok (.invokevirtual 93, 3) := by decide +kernel
theorem dX6_heightOfParent_32 : decode cX6_heightOfParent 32 = .ok (.istore_n 3, 1) := by decide +kernel
theorem dX6_heightOfParent_33 : decode cX6_heightOfParent 33 = .ok (.iload_n 3, 1) := by decide +kernel
theorem dX6_heightOfParent_34 : decode cX6_heightOfParent 34 = .ok (.iconst (-1), 1) := by decide +kernel
theorem dX6_heightOfParent_35 : decode cX6_heightOfParent 35 = .ok (.if_icmp .ne 7, 3) := by decide +kernel
theorem dX6_heightOfParent_38 : decode cX6_heightOfParent 38 = .ok (.iconst (-1), 1) := by decide +kernel
theorem dX6_heightOfParent_39 : decode cX6_heightOfParent 39 = .ok (.goto 11, 3) := by decide +kernel
theorem dX6_heightOfParent_50 : decode cX6_heightOfParent 50 = .ok (.ireturn, 1) := by decide +kernel
theorem dX6_lastVersion_0 : decode cX6_lastVersion 0 = .ok (.aload_n 0, 1) := by decide +kernel
theorem dX6_lastVersion_1 : decode cX6_lastVersion 1 = .ok (.getfield 50, 3) := by decide +kernel
theorem dX6_lastVersion_4 : decode cX6_lastVersion 4 = .ok (.aload_n 0, 1) := by decide +kernel
theorem dX6_lastVersion_5 : decode cX6_lastVersion 5 = .ok (.getfield 40, 3) := by decide +kernel
theorem dX6_lastVersion_8 : decode cX6_lastVersion 8 = .ok (.iadd, 1) := by decide +kernel
theorem dX6_lastVersion_9 : decode cX6_lastVersion 9 = .ok (.ireturn, 1) := by decide +kernel
theorem dX6_isKept_0 : decode cX6_isKept 0 = .ok (.aload_n 0, 1) := by decide +kernel
theorem dX6_isKept_1 : decode cX6_isKept 1 = .ok (.getfield 9, 3) := by decide +kernel
theorem dX6_isKept_4 : decode cX6_isKept 4 = .ok (.invokevirtual 53, 3) := by decide +kernel
theorem dX6_isKept_7 : decode cX6_isKept 7 = .ok (.ifCond .ne 23, 3) := by decide +kernel
theorem dX6_isKept_10 : decode cX6_isKept 10 = .ok (.iload_n 1, 1) := by decide +kernel
theorem dX6_isKept_11 : decode cX6_isKept 11 = .ok (.aload_n 0, 1) := by decide +kernel
theorem dX6_isKept_12 : decode cX6_isKept 12 = .ok (.getfield 50, 3) := by decide +kernel
theorem dX6_isKept_15 : decode cX6_isKept 15 = .ok (.if_icmp .lt 15, 3) := by decide +kernel
theorem dX6_isKept_18 : decode cX6_isKept 18 = .ok (.iload_n 1, 1) := by decide +kernel
theorem dX6_isKept_19 : decode cX6_isKept 19 = .ok (.aload_n 0, 1) := by decide +kernel
theorem dX6_isKept_20 : decode cX6_isKept 20 = .ok (.invokevirtual 126, 3) := by decide +kernel
theorem dX6_isKept_23 : decode cX6_isKept 23 = .ok (.if_icmp .gt 7, 3) := by decide +kernel
theorem dX6_isKept_26 : decode cX6_isKept 26 = .ok (.iconst 1, 1) := by decide +kernel
theorem dX6_isKept_27 : decode cX6_isKept 27 = .ok (.goto 4, 3) := by decide +kernel
theorem dX6_isKept_30 : decode cX6_isKept 30 = .ok (.iconst 0, 1) := by decide +kernel
theorem dX6_isKept_31 : decode cX6_isKept 31 = .ok (.ireturn, 1) := by decide +kernel
theorem dX6_drawVersion_0 : decode cX6_drawVersion 0 = .ok (.iconst 0, 1) := by decide +kernel
theorem dX6_drawVersion_1 : decode cX6_drawVersion 1 = .ok (.istore_n 2, 1) := by decide +kernel
theorem dX6_drawVersion_2 : decode cX6_drawVersion 2 = .ok (.iload_n 2, 1) := by decide +kernel
theorem dX6_drawVersion_3 : decode cX6_drawVersion 3 = .ok (.bipush 16, 2) := by decide +kernel
theorem dX6_drawVersion_5 : decode cX6_drawVersion 5 = .ok (.if_icmp .ge 16, 3) := by decide +kernel
theorem dX6_drawVersion_8 : decode cX6_drawVersion 8 = .ok (.aload_n 0, 1) := by decide +kernel
theorem dX6_drawVersion_9 : decode cX6_drawVersion 9 = .ok (.getfield 33, 3) := by decide +kernel
theorem dX6_drawVersion_12 : decode cX6_drawVersion 12 = .ok (.iload_n 2, 1) := by decide +kernel
theorem dX6_drawVersion_13 : decode cX6_drawVersion 13 = .ok (.lconst 0, 1) := by decide +kernel
theorem dX6_drawVersion_14 : decode cX6_drawVersion 14 = .ok (.lastore, 1) := by decide +kernel
theorem dX6_drawVersion_15 : decode cX6_drawVersion 15 = .ok (.iinc 2 1, 3) := by decide +kernel
theorem dX6_drawVersion_18 : decode cX6_drawVersion 18 = .ok (.goto (-16), 3) := by decide +kernel
theorem dX6_drawVersion_21 : decode cX6_drawVersion 21 = .ok (.aload_n 0, 1) := by decide +kernel
theorem dX6_drawVersion_22 : decode cX6_drawVersion 22 = .ok (.getfield 46, 3) := by decide +kernel
theorem dX6_drawVersion_25 : decode cX6_drawVersion 25 = .ok (.ifCond .eq 8, 3) := by decide +kernel
theorem dX6_drawVersion_33 : decode cX6_drawVersion 33 = .ok (.iconst 0, 1) := by decide +kernel
theorem dX6_drawVersion_34 : decode cX6_drawVersion 34 = .ok (.istore_n 2, 1) := by decide +kernel
theorem dX6_drawVersion_35 : decode cX6_drawVersion 35 = .ok (.iload_n 2, 1) := by decide +kernel
theorem dX6_drawVersion_36 : decode cX6_drawVersion 36 = .ok (.aload_n 0, 1) := by decide +kernel
theorem dX6_drawVersion_37 : decode cX6_drawVersion 37 = .ok (.getfield 40, 3) := by decide +kernel
theorem dX6_drawVersion_40 : decode cX6_drawVersion 40 = .ok (.if_icmp .ge 29, 3) := by decide +kernel
theorem dX6_drawVersion_69 : decode cX6_drawVersion 69 = .ok (.return_, 1) := by decide +kernel
theorem dX7_append_0 : decode cX7_append 0 = .ok (.aload_n 0, 1) := by decide +kernel
theorem dX7_append_1 : decode cX7_append 1 = .ok (.getfield 15, 3) := by decide +kernel
theorem dX7_append_4 : decode cX7_append 4 = .ok (.sipush 400, 3) := by decide +kernel
theorem dX7_append_7 : decode cX7_append 7 = .ok (.if_icmp .ge 24, 3) := by decide +kernel
theorem dX7_append_10 : decode cX7_append 10 = .ok (.aload_n 0, 1) := by decide +kernel
theorem dX7_append_11 : decode cX7_append 11 = .ok (.getfield 9, 3) := by decide +kernel
theorem dX7_append_14 : decode cX7_append 14 = .ok (.aload_n 0, 1) := by decide +kernel
theorem dX7_append_15 : decode cX7_append 15 = .ok (.getfield 15, 3) := by decide +kernel
theorem dX7_append_18 : decode cX7_append 18 = .ok (.iload_n 1, 1) := by decide +kernel
theorem dX7_append_19 : decode cX7_append 19 = .ok (.i2b, 1) := by decide +kernel
theorem dX7_append_20 : decode cX7_append 20 = .ok (.bastore, 1) := by decide +kernel
theorem dX7_append_21 : decode cX7_append 21 = .ok (.aload_n 0, 1) := by decide +kernel
theorem dX7_append_22 : decode cX7_append 22 = .ok (.dup, 1) := by decide +kernel
theorem dX7_append_23 : decode cX7_append 23 = .ok (.getfield 15, 3) := by decide +kernel
theorem dX7_append_26 : decode cX7_append 26 = .ok (.iconst 1, 1) := by decide +kernel
theorem dX7_append_27 : decode cX7_append 27 = .ok (.iadd, 1) := by decide +kernel
theorem dX7_append_28 : decode cX7_append 28 = .ok (.putfield 15, 3) := by decide +kernel
theorem dX7_append_31 : decode cX7_append 31 = .ok (.return_, 1) := by decide +kernel
theorem dX8_feed_0 : decode cX8_feed 0 = .ok (.iload_n 3, 1) := by decide +kernel
theorem dX8_feed_1 : decode cX8_feed 1 = .ok (.iconst 1, 1) := by decide +kernel
theorem dX8_feed_2 : decode cX8_feed 2 = .ok (.if_icmp .lt 9, 3) := by decide +kernel
theorem dX8_feed_5 : decode cX8_feed 5 = .ok (.iload_n 3, 1) := by decide +kernel
theorem dX8_feed_6 : decode cX8_feed 6 = .ok (.bipush 8, 2) := by decide +kernel
theorem dX8_feed_8 : decode cX8_feed 8 = .ok (.if_icmp .le 13, 3) := by decide +kernel
theorem dX8_feed_11 : decode cX8_feed 11 = .ok (.new 76, 3) := by decide +kernel
theorem dX8_feed_14 : decode cX8_feed 14 = .ok (.dup, 1) := by decide +kernel
theorem dX8_feed_15 : decode cX8_feed 15 = .ok (.ldc 78, 2) := by decide +kernel
theorem dX8_feed_17 : decode cX8_feed 17 = .ok (.invokespecial 80, 3) := by decide +kernel
theorem dX8_feed_20 : decode cX8_feed 20 = .ok (.athrow, 1) := by decide +kernel
theorem dX8_feed_21 : decode cX8_feed 21 = .ok (.aload_n 0, 1) := by decide +kernel
theorem dX8_feed_22 : decode cX8_feed 22 = .ok (.getfield 13, 3) := by decide +kernel
theorem dX8_feed_25 : decode cX8_feed 25 = .ok (.getfield 83, 3) := by decide +kernel
theorem dX8_feed_28 : decode cX8_feed 28 = .ok (.iload_n 3, 1) := by decide +kernel
theorem dX8_feed_29 : decode cX8_feed 29 = .ok (.iadd, 1) := by decide +kernel
theorem dX8_feed_30 : decode cX8_feed 30 = .ok (.sipush 400, 3) := by decide +kernel
theorem dX8_feed_33 : decode cX8_feed 33 = .ok (.if_icmp .le 13, 3) := by decide +kernel
theorem dX8_feed_46 : decode cX8_feed 46 = .ok (.iload_n 3, 1) := by decide +kernel
theorem dX8_feed_47 : decode cX8_feed 47 = .ok (.iconst 1, 1) := by decide +kernel
theorem dX8_feed_48 : decode cX8_feed 48 = .ok (.isub, 1) := by decide +kernel
theorem dX8_feed_49 : decode cX8_feed 49 = .ok (.istore 4, 2) := by decide +kernel
theorem dX8_feed_51 : decode cX8_feed 51 = .ok (.iload 4, 2) := by decide +kernel
theorem dX8_feed_53 : decode cX8_feed 53 = .ok (.ifCond .lt 24, 3) := by decide +kernel
theorem dX8_feed_56 : decode cX8_feed 56 = .ok (.aload_n 0, 1) := by decide +kernel
theorem dX8_feed_57 : decode cX8_feed 57 = .ok (.getfield 13, 3) := by decide +kernel
theorem dX8_feed_60 : decode cX8_feed 60 = .ok (.lload_n 1, 1) := by decide +kernel
theorem dX8_feed_61 : decode cX8_feed 61 = .ok (.bipush 8, 2) := by decide +kernel
theorem dX8_feed_63 : decode cX8_feed 63 = .ok (.iload 4, 2) := by decide +kernel
theorem dX8_feed_65 : decode cX8_feed 65 = .ok (.imul, 1) := by decide +kernel
theorem dX8_feed_66 : decode cX8_feed 66 = .ok (.lushr, 1) := by decide +kernel
theorem dX8_feed_67 : decode cX8_feed 67 = .ok (.l2i, 1) := by decide +kernel
theorem dX8_feed_68 : decode cX8_feed 68 = .ok (.invokevirtual 88, 3) := by decide +kernel
theorem dX8_feed_71 : decode cX8_feed 71 = .ok (.iinc 4 (-1), 3) := by decide +kernel
theorem dX8_feed_74 : decode cX8_feed 74 = .ok (.goto (-23), 3) := by decide +kernel
theorem dX8_feed_77 : decode cX8_feed 77 = .ok (.aload_n 0, 1) := by decide +kernel
theorem dX8_feed_78 : decode cX8_feed 78 = .ok (.getfield 13, 3) := by decide +kernel
theorem dX8_feed_81 : decode cX8_feed 81 = .ok (.getfield 83, 3) := by decide +kernel
theorem dX8_feed_84 : decode cX8_feed 84 = .ok (.ireturn, 1) := by decide +kernel
theorem dX8_wipe_0 : decode cX8_wipe 0 = .ok (.aload_n 0, 1) := by decide +kernel
theorem dX8_wipe_1 : decode cX8_wipe 1 = .ok (.getfield 13, 3) := by decide +kernel
theorem dX8_wipe_4 : decode cX8_wipe 4 = .ok (.getfield 83, 3) := by decide +kernel
theorem dX8_wipe_7 : decode cX8_wipe 7 = .ok (.istore_n 1, 1) := by decide +kernel
theorem dX8_wipe_8 : decode cX8_wipe 8 = .ok (.aload_n 0, 1) := by decide +kernel
theorem dX8_wipe_9 : decode cX8_wipe 9 = .ok (.getfield 13, 3) := by decide +kernel
theorem dX8_wipe_12 : decode cX8_wipe 12 = .ok (.iconst 0, 1) := by decide +kernel
theorem dX8_wipe_13 : decode cX8_wipe 13 = .ok (.putfield 83, 3) := by decide +kernel
theorem dX8_wipe_16 : decode cX8_wipe 16 = .ok (.iload_n 1, 1) := by decide +kernel
theorem dX8_wipe_17 : decode cX8_wipe 17 = .ok (.ireturn, 1) := by decide +kernel
theorem dX8_at_0 : decode cX8_at 0 = .ok (.iload_n 1, 1) := by decide +kernel
theorem dX8_at_1 : decode cX8_at 1 = .ok (.ifCond .lt 14, 3) := by decide +kernel
theorem dX8_at_4 : decode cX8_at 4 = .ok (.iload_n 1, 1) := by decide +kernel
theorem dX8_at_5 : decode cX8_at 5 = .ok (.aload_n 0, 1) := by decide +kernel
theorem dX8_at_6 : decode cX8_at 6 = .ok (.getfield 13, 3) := by decide +kernel
theorem dX8_at_9 : decode cX8_at 9 = .ok (.getfield 83, 3) := by decide +kernel
theorem dX8_at_12 : decode cX8_at 12 = .ok (.if_icmp .lt 13, 3) := by decide +kernel
theorem dX8_at_15 : decode cX8_at 15 = .ok (.new 91, 3) := by decide +kernel
theorem dX8_at_18 : decode cX8_at 18 = .ok (.dup, 1) := by decide +kernel
theorem dX8_at_19 : decode cX8_at 19 = .ok (.ldc 93, 2) := by decide +kernel
theorem dX8_at_21 : decode cX8_at 21 = .ok (.invokespecial 95, 3) := by decide +kernel
theorem dX8_at_24 : decode cX8_at 24 = .ok (.athrow, 1) := by decide +kernel
theorem dX8_leaf_0 : decode cX8_leaf 0 = .ok (.aload_n 0, 1) := by decide +kernel
theorem dX8_leaf_1 : decode cX8_leaf 1 = .ok (.invokevirtual 99, 3) := by decide +kernel
theorem dX8_leaf_4 : decode cX8_leaf 4 = .ok (.aload_n 0, 1) := by decide +kernel
theorem dX8_leaf_5 : decode cX8_leaf 5 = .ok (.getfield 13, 3) := by decide +kernel
theorem dX8_leaf_8 : decode cX8_leaf 8 = .ok (.getfield 83, 3) := by decide +kernel
theorem dX8_leaf_11 : decode cX8_leaf 11 = .ok (.istore_n 1, 1) := by decide +kernel
theorem dX8_leaf_12 : decode cX8_leaf 12 = .ok (.iload_n 1, 1) := by decide +kernel
theorem dX8_leaf_13 : decode cX8_leaf 13 = .ok (.iconst 1, 1) := by decide +kernel
theorem dX8_leaf_14 : decode cX8_leaf 14 = .ok (.if_icmp .lt 9, 3) := by decide +kernel
theorem dX8_leaf_23 : decode cX8_leaf 23 = .ok (.new 76, 3) := by decide +kernel
theorem dX8_leaf_26 : decode cX8_leaf 26 = .ok (.dup, 1) := by decide +kernel
theorem dX8_leaf_27 : decode cX8_leaf 27 = .ok (.ldc 102, 2) := by decide +kernel
theorem dX8_leaf_29 : decode cX8_leaf 29 = .ok (.invokespecial 80, 3) := by decide +kernel
theorem dX8_leaf_32 : decode cX8_leaf 32 = .ok (.athrow, 1) := by decide +kernel
theorem dX8_change_0 : decode cX8_change 0 = .ok (.aload_n 0, 1) := by decide +kernel
theorem dX8_change_1 : decode cX8_change 1 = .ok (.invokevirtual 99, 3) := by decide +kernel
theorem dX8_change_4 : decode cX8_change 4 = .ok (.iload_n 1, 1) := by decide +kernel
theorem dX8_change_5 : decode cX8_change 5 = .ok (.ifCond .lt 9, 3) := by decide +kernel
theorem dX8_change_8 : decode cX8_change 8 = .ok (.iload_n 1, 1) := by decide +kernel
theorem dX8_change_9 : decode cX8_change 9 = .ok (.bipush 16, 2) := by decide +kernel
theorem dX8_change_11 : decode cX8_change 11 = .ok (.if_icmp .lt 13, 3) := by decide +kernel
theorem dX8_change_14 : decode cX8_change 14 = .ok (.new 76, 3) := by decide +kernel
theorem dX8_change_17 : decode cX8_change 17 = .ok (.dup, 1) := by decide +kernel
theorem dX8_change_18 : decode cX8_change 18 = .ok (.ldc 116, 2) := by decide +kernel
theorem dX8_change_20 : decode cX8_change 20 = .ok (.invokespecial 80, 3) := by decide +kernel
theorem dX8_change_23 : decode cX8_change 23 = .ok (.athrow, 1) := by decide +kernel
theorem dX8_change_24 : decode cX8_change 24 = .ok (.iload_n 2, 1) := by decide +kernel
theorem dX8_change_25 : decode cX8_change 25 = .ok (.iconst (-1), 1) := by decide +kernel
theorem dX8_change_26 : decode cX8_change 26 = .ok (.if_icmp .eq 28, 3) := by decide +kernel
theorem dX8_change_29 : decode cX8_change 29 = .ok (.iload_n 2, 1) := by decide +kernel
theorem dX8_change_30 : decode cX8_change 30 = .ok (.ifCond .lt 14, 3) := by decide +kernel
theorem dX8_change_33 : decode cX8_change 33 = .ok (.iload_n 2, 1) := by decide +kernel
theorem dX8_change_34 : decode cX8_change 34 = .ok (.aload_n 0, 1) := by decide +kernel
theorem dX8_change_35 : decode cX8_change 35 = .ok (.getfield 22, 3) := by decide +kernel
theorem dX8_change_38 : decode cX8_change 38 = .ok (.getfield 118, 3) := by decide +kernel
theorem dX8_change_41 : decode cX8_change 41 = .ok (.if_icmp .lt 13, 3) := by decide +kernel
theorem dX8_change_44 : decode cX8_change 44 = .ok (.new 76, 3) := by decide +kernel
theorem dX8_change_47 : decode cX8_change 47 = .ok (.dup, 1) := by decide +kernel
theorem dX8_change_48 : decode cX8_change 48 = .ok (.ldc 121, 2) := by decide +kernel
theorem dX8_change_50 : decode cX8_change 50 = .ok (.invokespecial 80, 3) := by decide +kernel
theorem dX8_change_53 : decode cX8_change 53 = .ok (.athrow, 1) := by decide +kernel
theorem dX8_change_54 : decode cX8_change 54 = .ok (.lconst 0, 1) := by decide +kernel
theorem dX8_change_55 : decode cX8_change 55 = .ok (.lstore_n 3, 1) := by decide +kernel
theorem dX8_change_56 : decode cX8_change 56 = .ok (.iload_n 2, 1) := by decide +kernel
theorem dX8_change_57 : decode cX8_change 57 = .ok (.iconst (-1), 1) := by decide +kernel
theorem dX8_change_58 : decode cX8_change 58 = .ok (.if_icmp .eq 27, 3) := by decide +kernel
theorem dX8_change_61 : decode cX8_change 61 = .ok (.aload_n 0, 1) := by decide +kernel
theorem dX8_change_62 : decode cX8_change 62 = .ok (.getfield 22, 3) := by decide +kernel
theorem dX8_change_65 : decode cX8_change 65 = .ok (.iload_n 2, 1) := by decide +kernel
theorem dX8_change_66 : decode cX8_change 66 = .ok (.invokevirtual 123, 3) := by decide +kernel
theorem dX8_change_69 : decode cX8_change 69 = .ok (.astore 5, 2) := by decide +kernel
theorem dX8_change_71 : decode cX8_change 71 = .ok (.aload 5, 2) := by decide +kernel
theorem dX8_change_73 : decode cX8_change 73 = .ok (.ifnonnull 6, 3) := by decide +kernel
theorem dX8_change_76 : decode cX8_change 76 = .ok (.bipush (-6), 2) := by decide +kernel
theorem dX8_change_78 : decode cX8_change 78 = .ok (.ireturn, 1) := by decide +kernel
theorem dX8_change_85 : decode cX8_change 85 = .ok (.aload_n 0, 1) := by decide +kernel
theorem dX8_change_86 : decode cX8_change 86 = .ok (.getfield 72, 3) := by decide +kernel
theorem dX8_change_89 : decode cX8_change 89 = .ok (.bipush 8, 2) := by decide +kernel
theorem dX8_change_91 : decode cX8_change 91 = .ok (.if_icmp .lt 6, 3) := by decide +kernel
theorem dX8_change_97 : decode cX8_change 97 = .ok (.aload_n 0, 1) := by decide +kernel
theorem dX8_change_98 : decode cX8_change 98 = .ok (.getfield 64, 3) := by decide +kernel
theorem dX8_change_101 : decode cX8_change 101 = .ok (.aload_n 0, 1) := by decide +kernel
theorem dX8_change_102 : decode cX8_change 102 = .ok (.getfield 72, 3) := by decide +kernel
theorem dX8_change_105 : decode cX8_change 105 = .ok (.iload_n 1, 1) := by decide +kernel
theorem dX8_change_106 : decode cX8_change 106 = .ok (.iastore, 1) := by decide +kernel
theorem dX8_change_107 : decode cX8_change 107 = .ok (.aload_n 0, 1) := by decide +kernel
theorem dX8_change_108 : decode cX8_change 108 = .ok (.getfield 68, 3) := by decide +kernel
theorem dX8_change_111 : decode cX8_change 111 = .ok (.aload_n 0, 1) := by decide +kernel
theorem dX8_change_112 : decode cX8_change 112 = .ok (.getfield 72, 3) := by decide +kernel
theorem dX8_change_115 : decode cX8_change 115 = .ok (.lload_n 3, 1) := by decide +kernel
theorem dX8_change_116 : decode cX8_change 116 = .ok (.lastore, 1) := by decide +kernel
theorem dX8_change_117 : decode cX8_change 117 = .ok (.aload_n 0, 1) := by decide +kernel
theorem dX8_change_118 : decode cX8_change 118 = .ok (.dup, 1) := by decide +kernel
theorem dX8_change_119 : decode cX8_change 119 = .ok (.getfield 72, 3) := by decide +kernel
theorem dX8_change_122 : decode cX8_change 122 = .ok (.iconst 1, 1) := by decide +kernel
theorem dX8_change_123 : decode cX8_change 123 = .ok (.iadd, 1) := by decide +kernel
theorem dX8_change_124 : decode cX8_change 124 = .ok (.putfield 72, 3) := by decide +kernel
theorem dX8_change_127 : decode cX8_change 127 = .ok (.aload_n 0, 1) := by decide +kernel
theorem dX8_change_128 : decode cX8_change 128 = .ok (.getfield 72, 3) := by decide +kernel
theorem dX8_change_131 : decode cX8_change 131 = .ok (.ireturn, 1) := by decide +kernel
theorem dX8_block_0 : decode cX8_block 0 = .ok (.aload_n 0, 1) := by decide +kernel
theorem dX8_block_1 : decode cX8_block 1 = .ok (.invokevirtual 99, 3) := by decide +kernel
theorem dX8_block_4 : decode cX8_block 4 = .ok (.iload_n 1, 1) := by decide +kernel
theorem dX8_block_5 : decode cX8_block 5 = .ok (.invokestatic 133, 3) := by decide +kernel
theorem dX8_block_8 : decode cX8_block 8 = .ok (.aload_n 0, 1) := by decide +kernel
theorem dX8_block_9 : decode cX8_block 9 = .ok (.getfield 31, 3) := by decide +kernel
theorem dX8_block_12 : decode cX8_block 12 = .ok (.invokevirtual 104, 3) := by decide +kernel
theorem dX8_block_15 : decode cX8_block 15 = .ok (.ifCond .eq 6, 3) := by decide +kernel
theorem dX8_block_21 : decode cX8_block 21 = .ok (.aload_n 0, 1) := by decide +kernel
theorem dX8_block_22 : decode cX8_block 22 = .ok (.getfield 40, 3) := by decide +kernel
theorem dX8_block_25 : decode cX8_block 25 = .ok (.lload_n 2, 1) := by decide +kernel
theorem dX8_block_26 : decode cX8_block 26 = .ok (.invokevirtual 136, 3) := by decide +kernel
theorem dX8_block_29 : decode cX8_block 29 = .ok (.lstore 4, 2) := by decide +kernel
theorem dX8_block_31 : decode cX8_block 31 = .ok (.aload_n 0, 1) := by decide +kernel
theorem dX8_block_32 : decode cX8_block 32 = .ok (.getfield 40, 3) := by decide +kernel
theorem dX8_block_35 : decode cX8_block 35 = .ok (.lload 4, 2) := by decide +kernel
theorem dX8_block_37 : decode cX8_block 37 = .ok (.invokevirtual 140, 3) := by decide +kernel
theorem dX8_block_40 : decode cX8_block 40 = .ok (.istore 6, 2) := by decide +kernel
theorem dX8_block_42 : decode cX8_block 42 = .ok (.iload 6, 2) := by decide +kernel
theorem dX8_block_44 : decode cX8_block 44 = .ok (.iconst (-1), 1) := by decide +kernel
theorem dX8_block_45 : decode cX8_block 45 = .ok (.if_icmp .ne 6, 3) := by decide +kernel
theorem dX8_block_48 : decode cX8_block 48 = .ok (.bipush (-6), 2) := by decide +kernel
theorem dX8_block_50 : decode cX8_block 50 = .ok (.ireturn, 1) := by decide +kernel
theorem dX8_block_51 : decode cX8_block 51 = .ok (.iload_n 1, 1) := by decide +kernel
theorem dX8_block_52 : decode cX8_block 52 = .ok (.iload 6, 2) := by decide +kernel
theorem dX8_block_54 : decode cX8_block 54 = .ok (.iconst 1, 1) := by decide +kernel
theorem dX8_block_55 : decode cX8_block 55 = .ok (.iadd, 1) := by decide +kernel
theorem dX8_block_56 : decode cX8_block 56 = .ok (.if_icmp .eq 6, 3) := by decide +kernel
theorem dX8_block_59 : decode cX8_block 59 = .ok (.bipush (-10), 2) := by decide +kernel
theorem dX8_block_61 : decode cX8_block 61 = .ok (.ireturn, 1) := by decide +kernel
theorem dX8_block_62 : decode cX8_block 62 = .ok (.aload_n 0, 1) := by decide +kernel
theorem dX8_block_63 : decode cX8_block 63 = .ok (.getfield 40, 3) := by decide +kernel
theorem dX8_block_66 : decode cX8_block 66 = .ok (.aload_n 0, 1) := by decide +kernel
theorem dX8_block_67 : decode cX8_block 67 = .ok (.iload_n 1, 1) := by decide +kernel
theorem dX8_block_68 : decode cX8_block 68 = .ok (.lload 4, 2) := by decide +kernel
theorem dX8_block_70 : decode cX8_block 70 = .ok (.invokevirtual 144, 3) := by decide +kernel
theorem dX8_block_73 : decode cX8_block 73 = .ok (.invokevirtual 148, 3) := by decide +kernel
theorem dX8_block_76 : decode cX8_block 76 = .ok (.istore 7, 2) := by decide +kernel
theorem dX8_block_78 : decode cX8_block 78 = .ok (.iload 7, 2) := by decide +kernel
theorem dX8_block_80 : decode cX8_block 80 = .ok (.iconst (-1), 1) := by decide +kernel
theorem dX8_block_81 : decode cX8_block 81 = .ok (.if_icmp .ne 26, 3) := by decide +kernel
theorem dX8_block_84 : decode cX8_block 84 = .ok (.aload_n 0, 1) := by decide +kernel
theorem dX8_block_85 : decode cX8_block 85 = .ok (.getfield 31, 3) := by decide +kernel
theorem dX8_block_88 : decode cX8_block 88 = .ok (.getfield 151, 3) := by decide +kernel
theorem dX8_block_91 : decode cX8_block 91 = .ok (.iconst 1, 1) := by decide +kernel
theorem dX8_block_92 : decode cX8_block 92 = .ok (.iadd, 1) := by decide +kernel
theorem dX8_block_93 : decode cX8_block 93 = .ok (.aload_n 0, 1) := by decide +kernel
theorem dX8_block_94 : decode cX8_block 94 = .ok (.getfield 72, 3) := by decide +kernel
theorem dX8_block_97 : decode cX8_block 97 = .ok (.iadd, 1) := by decide +kernel
theorem dX8_block_98 : decode cX8_block 98 = .ok (.sipush 128, 3) := by decide +kernel
theorem dX8_block_101 : decode cX8_block 101 = .ok (.if_icmp .le 6, 3) := by decide +kernel
theorem dX8_block_107 : decode cX8_block 107 = .ok (.aload_n 0, 1) := by decide +kernel
theorem dX8_block_108 : decode cX8_block 108 = .ok (.getfield 72, 3) := by decide +kernel
theorem dX8_block_111 : decode cX8_block 111 = .ok (.istore 8, 2) := by decide +kernel
theorem dX8_block_113 : decode cX8_block 113 = .ok (.aload_n 0, 1) := by decide +kernel
theorem dX8_block_114 : decode cX8_block 114 = .ok (.iconst 0, 1) := by decide +kernel
theorem dX8_block_115 : decode cX8_block 115 = .ok (.putfield 72, 3) := by decide +kernel
theorem dX8_block_118 : decode cX8_block 118 = .ok (.iload 7, 2) := by decide +kernel
theorem dX8_block_120 : decode cX8_block 120 = .ok (.iconst (-1), 1) := by decide +kernel
theorem dX8_block_121 : decode cX8_block 121 = .ok (.if_icmp .eq 8, 3) := by decide +kernel
theorem dX8_block_129 : decode cX8_block 129 = .ok (.aload_n 0, 1) := by decide +kernel
theorem dX8_block_130 : decode cX8_block 130 = .ok (.iload_n 1, 1) := by decide +kernel
theorem dX8_block_131 : decode cX8_block 131 = .ok (.lload 4, 2) := by decide +kernel
theorem dX8_block_133 : decode cX8_block 133 = .ok (.iload 8, 2) := by decide +kernel
theorem dX8_block_135 : decode cX8_block 135 = .ok (.invokevirtual 152, 3) := by decide +kernel
theorem dX8_block_138 : decode cX8_block 138 = .ok (.ireturn, 1) := by decide +kernel
theorem dX8_digest_0 : decode cX8_digest 0 = .ok (.aload_n 0, 1) := by decide +kernel
theorem dX8_digest_1 : decode cX8_digest 1 = .ok (.iload_n 1, 1) := by decide +kernel
theorem dX8_digest_2 : decode cX8_digest 2 = .ok (.invokevirtual 156, 3) := by decide +kernel
theorem dX8_vote_0 : decode cX8_vote 0 = .ok (.aload_n 0, 1) := by decide +kernel
theorem dX8_vote_1 : decode cX8_vote 1 = .ok (.invokevirtual 99, 3) := by decide +kernel
theorem dX8_vote_4 : decode cX8_vote 4 = .ok (.iload_n 1, 1) := by decide +kernel
theorem dX8_vote_5 : decode cX8_vote 5 = .ok (.invokestatic 133, 3) := by decide +kernel
theorem dX8_vote_8 : decode cX8_vote 8 = .ok (.iload_n 2, 1) := by decide +kernel
theorem dX8_vote_9 : decode cX8_vote 9 = .ok (.ifCond .lt 9, 3) := by decide +kernel
theorem dX8_vote_12 : decode cX8_vote 12 = .ok (.iload_n 2, 1) := by decide +kernel
theorem dX8_vote_13 : decode cX8_vote 13 = .ok (.ldc 163, 2) := by decide +kernel
theorem dX8_vote_15 : decode cX8_vote 15 = .ok (.if_icmp .le 13, 3) := by decide +kernel
theorem dX8_vote_18 : decode cX8_vote 18 = .ok (.new 76, 3) := by decide +kernel
theorem dX8_vote_21 : decode cX8_vote 21 = .ok (.dup, 1) := by decide +kernel
theorem dX8_vote_22 : decode cX8_vote 22 = .ok (.ldc 164, 2) := by decide +kernel
theorem dX8_vote_24 : decode cX8_vote 24 = .ok (.invokespecial 80, 3) := by decide +kernel
theorem dX8_vote_27 : decode cX8_vote 27 = .ok (.athrow, 1) := by decide +kernel
theorem dX8_vote_28 : decode cX8_vote 28 = .ok (.aload_n 0, 1) := by decide +kernel
theorem dX8_vote_29 : decode cX8_vote 29 = .ok (.getfield 31, 3) := by decide +kernel
theorem dX8_vote_32 : decode cX8_vote 32 = .ok (.invokevirtual 104, 3) := by decide +kernel
theorem dX8_vote_35 : decode cX8_vote 35 = .ok (.ifCond .eq 6, 3) := by decide +kernel
theorem dX8_vote_41 : decode cX8_vote 41 = .ok (.aload_n 0, 1) := by decide +kernel
theorem dX8_vote_42 : decode cX8_vote 42 = .ok (.getfield 40, 3) := by decide +kernel
theorem dX8_vote_45 : decode cX8_vote 45 = .ok (.lload_n 3, 1) := by decide +kernel
theorem dX8_vote_46 : decode cX8_vote 46 = .ok (.invokevirtual 136, 3) := by decide +kernel
theorem dX8_vote_49 : decode cX8_vote 49 = .ok (.lstore 5, 2) := by decide +kernel
theorem dX8_vote_51 : decode cX8_vote 51 = .ok (.aload_n 0, 1) := by decide +kernel
theorem dX8_vote_52 : decode cX8_vote 52 = .ok (.getfield 40, 3) := by decide +kernel
theorem dX8_vote_55 : decode cX8_vote 55 = .ok (.lload 5, 2) := by decide +kernel
theorem dX8_vote_57 : decode cX8_vote 57 = .ok (.invokevirtual 148, 3) := by decide +kernel
theorem dX8_vote_60 : decode cX8_vote 60 = .ok (.istore 7, 2) := by decide +kernel
theorem dX8_vote_62 : decode cX8_vote 62 = .ok (.iload 7, 2) := by decide +kernel
theorem dX8_vote_64 : decode cX8_vote 64 = .ok (.iconst (-1), 1) := by decide +kernel
theorem dX8_vote_65 : decode cX8_vote 65 = .ok (.if_icmp .eq 16, 3) := by decide +kernel
theorem dX8_vote_81 : decode cX8_vote 81 = .ok (.bipush (-6), 2) := by decide +kernel
theorem dX8_vote_83 : decode cX8_vote 83 = .ok (.ireturn, 1) := by decide +kernel
theorem dX8_sent_0 : decode cX8_sent 0 = .ok (.aload_n 0, 1) := by decide +kernel
theorem dX8_sent_1 : decode cX8_sent 1 = .ok (.iload_n 1, 1) := by decide +kernel
theorem dX8_sent_2 : decode cX8_sent 2 = .ok (.invokevirtual 156, 3) := by decide +kernel
theorem dX8_certify_0 : decode cX8_certify 0 = .ok (.aload_n 0, 1) := by decide +kernel
theorem dX8_certify_1 : decode cX8_certify 1 = .ok (.invokevirtual 99, 3) := by decide +kernel
theorem dX8_certify_4 : decode cX8_certify 4 = .ok (.iload_n 3, 1) := by decide +kernel
theorem dX8_certify_5 : decode cX8_certify 5 = .ok (.ifCond .lt 9, 3) := by decide +kernel
theorem dX8_certify_8 : decode cX8_certify 8 = .ok (.iload_n 3, 1) := by decide +kernel
theorem dX8_certify_9 : decode cX8_certify 9 = .ok (.bipush 15, 2) := by decide +kernel
theorem dX8_certify_11 : decode cX8_certify 11 = .ok (.if_icmp .le 13, 3) := by decide +kernel
theorem dX8_certify_14 : decode cX8_certify 14 = .ok (.new 76, 3) := by decide +kernel
theorem dX8_certify_17 : decode cX8_certify 17 = .ok (.dup, 1) := by decide +kernel
theorem dX8_certify_18 : decode cX8_certify 18 = .ok (.ldc 188, 2) := by decide +kernel
theorem dX8_certify_20 : decode cX8_certify 20 = .ok (.invokespecial 80, 3) := by decide +kernel
theorem dX8_certify_23 : decode cX8_certify 23 = .ok (.athrow, 1) := by decide +kernel
theorem dX8_certify_24 : decode cX8_certify 24 = .ok (.aload_n 0, 1) := by decide +kernel
theorem dX8_certify_25 : decode cX8_certify 25 = .ok (.getfield 31, 3) := by decide +kernel
theorem dX8_certify_28 : decode cX8_certify 28 = .ok (.invokevirtual 104, 3) := by decide +kernel
theorem dX8_certify_31 : decode cX8_certify 31 = .ok (.ifCond .eq 6, 3) := by decide +kernel
theorem dX8_certify_37 : decode cX8_certify 37 = .ok (.aload_n 0, 1) := by decide +kernel
theorem dX8_certify_38 : decode cX8_certify 38 = .ok (.getfield 40, 3) := by decide +kernel
theorem dX8_certify_41 : decode cX8_certify 41 = .ok (.lload_n 1, 1) := by decide +kernel
theorem dX8_certify_42 : decode cX8_certify 42 = .ok (.invokevirtual 136, 3) := by decide +kernel
theorem dX8_certify_45 : decode cX8_certify 45 = .ok (.lstore 4, 2) := by decide +kernel
theorem dX8_certify_47 : decode cX8_certify 47 = .ok (.aload_n 0, 1) := by decide +kernel
theorem dX8_certify_48 : decode cX8_certify 48 = .ok (.getfield 40, 3) := by decide +kernel
theorem dX8_certify_51 : decode cX8_certify 51 = .ok (.lload 4, 2) := by decide +kernel
theorem dX8_certify_53 : decode cX8_certify 53 = .ok (.invokevirtual 148, 3) := by decide +kernel
theorem dX8_certify_56 : decode cX8_certify 56 = .ok (.istore 6, 2) := by decide +kernel
theorem dX8_certify_58 : decode cX8_certify 58 = .ok (.iload 6, 2) := by decide +kernel
theorem dX8_certify_60 : decode cX8_certify 60 = .ok (.iconst (-1), 1) := by decide +kernel
theorem dX8_certify_61 : decode cX8_certify 61 = .ok (.if_icmp .ne 6, 3) := by decide +kernel
theorem dX8_certify_64 : decode cX8_certify 64 = .ok (.bipush (-6), 2) := by decide +kernel
theorem dX8_certify_66 : decode cX8_certify 66 = .ok (.ireturn, 1) := by decide +kernel
theorem dX8_version_0 : decode cX8_version 0 = .ok (.aload_n 0, 1) := by decide +kernel
theorem dX8_version_1 : decode cX8_version 1 = .ok (.invokevirtual 99, 3) := by decide +kernel
theorem dX8_version_4 : decode cX8_version 4 = .ok (.iload_n 1, 1) := by decide +kernel
theorem dX8_version_5 : decode cX8_version 5 = .ok (.ifCond .eq 18, 3) := by decide +kernel
theorem dX8_version_8 : decode cX8_version 8 = .ok (.iload_n 1, 1) := by decide +kernel
theorem dX8_version_9 : decode cX8_version 9 = .ok (.iconst 1, 1) := by decide +kernel
theorem dX8_version_10 : decode cX8_version 10 = .ok (.if_icmp .eq 13, 3) := by decide +kernel
theorem dX8_version_13 : decode cX8_version 13 = .ok (.new 76, 3) := by decide +kernel
theorem dX8_version_16 : decode cX8_version 16 = .ok (.dup, 1) := by decide +kernel
theorem dX8_version_17 : decode cX8_version 17 = .ok (.ldc 202, 2) := by decide +kernel
theorem dX8_version_19 : decode cX8_version 19 = .ok (.invokespecial 80, 3) := by decide +kernel
theorem dX8_version_22 : decode cX8_version 22 = .ok (.athrow, 1) := by decide +kernel
theorem dX8_version_23 : decode cX8_version 23 = .ok (.iload_n 1, 1) := by decide +kernel
theorem dX8_version_24 : decode cX8_version 24 = .ok (.ifCond .ne 13, 3) := by decide +kernel
theorem dX8_version_27 : decode cX8_version 27 = .ok (.aload_n 0, 1) := by decide +kernel
theorem dX8_version_28 : decode cX8_version 28 = .ok (.getfield 40, 3) := by decide +kernel
theorem dX8_version_31 : decode cX8_version 31 = .ok (.invokevirtual 204, 3) := by decide +kernel
theorem dX8_version_34 : decode cX8_version 34 = .ok (.goto 10, 3) := by decide +kernel
theorem dX8_version_37 : decode cX8_version 37 = .ok (.aload_n 0, 1) := by decide +kernel
theorem dX8_version_38 : decode cX8_version 38 = .ok (.getfield 40, 3) := by decide +kernel
theorem dX8_version_41 : decode cX8_version 41 = .ok (.getfield 207, 3) := by decide +kernel
theorem dX8_version_44 : decode cX8_version 44 = .ok (.ireturn, 1) := by decide +kernel
theorem dX8_slot_0 : decode cX8_slot 0 = .ok (.aload_n 0, 1) := by decide +kernel
theorem dX8_slot_1 : decode cX8_slot 1 = .ok (.invokevirtual 99, 3) := by decide +kernel
theorem dX8_slot_4 : decode cX8_slot 4 = .ok (.iload_n 2, 1) := by decide +kernel
theorem dX8_slot_5 : decode cX8_slot 5 = .ok (.ifCond .lt 9, 3) := by decide +kernel
theorem dX8_slot_8 : decode cX8_slot 8 = .ok (.iload_n 2, 1) := by decide +kernel
