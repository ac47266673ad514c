theorem dX5_readLeaves_146 : decode cX5_readLeaves 146 = .ok (.iconst 1, 1) := by decide +kernel
theorem dX5_readLeaves_147 : decode cX5_readLeaves 147 = .ok (.iadd, 1) := by decide +kernel
theorem dX5_readLeaves_148 : decode cX5_readLeaves 148 = .ok (.istore 4, 2) := by decide +kernel
theorem dX5_readLeaves_150 : decode cX5_readLeaves 150 = .ok (.iinc 5 1, 3) := by decide +kernel
theorem dX5_readLeaves_153 : decode cX5_readLeaves 153 = .ok (.goto (-144), 3) := by decide +kernel
theorem dX5_readLeaves_156 : decode cX5_readLeaves 156 = .ok (.iload_n 3, 1) := by decide +kernel
theorem dX5_readLeaves_157 : decode cX5_readLeaves 157 = .ok (.iload_n 2, 1) := by decide +kernel
theorem dX5_readLeaves_158 : decode cX5_readLeaves 158 = .ok (.if_icmp .ne 7, 3) := by decide +kernel
theorem dX5_readLeaves_161 : decode cX5_readLeaves 161 = .ok (.iconst 1, 1) := by decide +kernel
theorem dX5_readLeaves_162 : decode cX5_readLeaves 162 = .ok (.goto 4, 3) := by decide +kernel
theorem dX5_readLeaves_165 : decode cX5_readLeaves 165 = .ok (.iconst 0, 1) := by decide +kernel
theorem dX5_readLeaves_166 : decode cX5_readLeaves 166 = .ok (.ireturn, 1) := by decide +kernel
theorem dX5_hasAhead_0 : decode cX5_hasAhead 0 = .ok (.iconst 0, 1) := by decide +kernel
theorem dX5_hasAhead_1 : decode cX5_hasAhead 1 = .ok (.istore_n 3, 1) := by decide +kernel
theorem dX5_hasAhead_2 : decode cX5_hasAhead 2 = .ok (.iload_n 3, 1) := by decide +kernel
theorem dX5_hasAhead_3 : decode cX5_hasAhead 3 = .ok (.iload_n 1, 1) := by decide +kernel
theorem dX5_hasAhead_4 : decode cX5_hasAhead 4 = .ok (.if_icmp .ge 36, 3) := by decide +kernel
theorem dX5_hasAhead_7 : decode cX5_hasAhead 7 = .ok (.aload_n 0, 1) := by decide +kernel
theorem dX5_hasAhead_8 : decode cX5_hasAhead 8 = .ok (.getfield 18, 3) := by decide +kernel
theorem dX5_hasAhead_11 : decode cX5_hasAhead 11 = .ok (.iload_n 3, 1) := by decide +kernel
theorem dX5_hasAhead_12 : decode cX5_hasAhead 12 = .ok (.iaload, 1) := by decide +kernel
theorem dX5_hasAhead_13 : decode cX5_hasAhead 13 = .ok (.aload_n 0, 1) := by decide +kernel
theorem dX5_hasAhead_14 : decode cX5_hasAhead 14 = .ok (.getfield 18, 3) := by decide +kernel
theorem dX5_hasAhead_17 : decode cX5_hasAhead 17 = .ok (.iload_n 1, 1) := by decide +kernel
theorem dX5_hasAhead_18 : decode cX5_hasAhead 18 = .ok (.iaload, 1) := by decide +kernel
theorem dX5_hasAhead_19 : decode cX5_hasAhead 19 = .ok (.if_icmp .ne 15, 3) := by decide +kernel
theorem dX5_hasAhead_22 : decode cX5_hasAhead 22 = .ok (.aload_n 0, 1) := by decide +kernel
theorem dX5_hasAhead_23 : decode cX5_hasAhead 23 = .ok (.iload_n 3, 1) := by decide +kernel
theorem dX5_hasAhead_24 : decode cX5_hasAhead 24 = .ok (.iload_n 1, 1) := by decide +kernel
theorem dX5_hasAhead_25 : decode cX5_hasAhead 25 = .ok (.aload_n 2, 1) := by decide +kernel
theorem dX5_hasAhead_26 : decode cX5_hasAhead 26 = .ok (.invokevirtual 65, 3) := by decide +kernel
theorem dX5_hasAhead_29 : decode cX5_hasAhead 29 = .ok (.ifCond .eq 5, 3) := by decide +kernel
theorem dX5_hasAhead_32 : decode cX5_hasAhead 32 = .ok (.iconst 1, 1) := by decide +kernel
theorem dX5_hasAhead_33 : decode cX5_hasAhead 33 = .ok (.ireturn, 1) := by decide +kernel
theorem dX5_hasAhead_34 : decode cX5_hasAhead 34 = .ok (.iinc 3 1, 3) := by decide +kernel
theorem dX5_hasAhead_37 : decode cX5_hasAhead 37 = .ok (.goto (-35), 3) := by decide +kernel
theorem dX5_hasAhead_40 : decode cX5_hasAhead 40 = .ok (.iconst 0, 1) := by decide +kernel
theorem dX5_hasAhead_41 : decode cX5_hasAhead 41 = .ok (.ireturn, 1) := by decide +kernel
theorem dX5_isSameLeaf_0 : decode cX5_isSameLeaf 0 = .ok (.iconst 0, 1) := by decide +kernel
theorem dX5_isSameLeaf_1 : decode cX5_isSameLeaf 1 = .ok (.istore 4, 2) := by decide +kernel
theorem dX5_isSameLeaf_3 : decode cX5_isSameLeaf 3 = .ok (.iload 4, 2) := by decide +kernel
theorem dX5_isSameLeaf_5 : decode cX5_isSameLeaf 5 = .ok (.aload_n 0, 1) := by decide +kernel
theorem dX5_isSameLeaf_6 : decode cX5_isSameLeaf 6 = .ok (.getfield 18, 3) := by decide +kernel
theorem dX5_isSameLeaf_9 : decode cX5_isSameLeaf 9 = .ok (.iload_n 1, 1) := by decide +kernel
theorem dX5_isSameLeaf_10 : decode cX5_isSameLeaf 10 = .ok (.iaload, 1) := by decide +kernel
theorem dX5_isSameLeaf_11 : decode cX5_isSameLeaf 11 = .ok (.if_icmp .ge 42, 3) := by decide +kernel
theorem dX5_isSameLeaf_14 : decode cX5_isSameLeaf 14 = .ok (.aload_n 3, 1) := by decide +kernel
theorem dX5_isSameLeaf_15 : decode cX5_isSameLeaf 15 = .ok (.getfield 39, 3) := by decide +kernel
theorem dX5_isSameLeaf_18 : decode cX5_isSameLeaf 18 = .ok (.aload_n 0, 1) := by decide +kernel
theorem dX5_isSameLeaf_19 : decode cX5_isSameLeaf 19 = .ok (.getfield 15, 3) := by decide +kernel
theorem dX5_isSameLeaf_22 : decode cX5_isSameLeaf 22 = .ok (.iload_n 1, 1) := by decide +kernel
theorem dX5_isSameLeaf_23 : decode cX5_isSameLeaf 23 = .ok (.iaload, 1) := by decide +kernel
theorem dX5_isSameLeaf_24 : decode cX5_isSameLeaf 24 = .ok (.iload 4, 2) := by decide +kernel
theorem dX5_isSameLeaf_26 : decode cX5_isSameLeaf 26 = .ok (.iadd, 1) := by decide +kernel
theorem dX5_isSameLeaf_27 : decode cX5_isSameLeaf 27 = .ok (.baload, 1) := by decide +kernel
theorem dX5_isSameLeaf_28 : decode cX5_isSameLeaf 28 = .ok (.aload_n 3, 1) := by decide +kernel
theorem dX5_isSameLeaf_29 : decode cX5_isSameLeaf 29 = .ok (.getfield 39, 3) := by decide +kernel
theorem dX5_isSameLeaf_32 : decode cX5_isSameLeaf 32 = .ok (.aload_n 0, 1) := by decide +kernel
theorem dX5_isSameLeaf_33 : decode cX5_isSameLeaf 33 = .ok (.getfield 15, 3) := by decide +kernel
theorem dX5_isSameLeaf_36 : decode cX5_isSameLeaf 36 = .ok (.iload_n 2, 1) := by decide +kernel
theorem dX5_isSameLeaf_37 : decode cX5_isSameLeaf 37 = .ok (.iaload, 1) := by decide +kernel
theorem dX5_isSameLeaf_38 : decode cX5_isSameLeaf 38 = .ok (.iload 4, 2) := by decide +kernel
theorem dX5_isSameLeaf_40 : decode cX5_isSameLeaf 40 = .ok (.iadd, 1) := by decide +kernel
theorem dX5_isSameLeaf_41 : decode cX5_isSameLeaf 41 = .ok (.baload, 1) := by decide +kernel
theorem dX5_isSameLeaf_42 : decode cX5_isSameLeaf 42 = .ok (.if_icmp .eq 5, 3) := by decide +kernel
theorem dX5_isSameLeaf_45 : decode cX5_isSameLeaf 45 = .ok (.iconst 0, 1) := by decide +kernel
theorem dX5_isSameLeaf_46 : decode cX5_isSameLeaf 46 = .ok (.ireturn, 1) := by decide +kernel
theorem dX5_isSameLeaf_47 : decode cX5_isSameLeaf 47 = .ok (.iinc 4 1, 3) := by decide +kernel
theorem dX5_isSameLeaf_50 : decode cX5_isSameLeaf 50 = .ok (.goto (-47), 3) := by decide +kernel
theorem dX5_isSameLeaf_53 : decode cX5_isSameLeaf 53 = .ok (.iconst 1, 1) := by decide +kernel
theorem dX5_isSameLeaf_54 : decode cX5_isSameLeaf 54 = .ok (.ireturn, 1) := by decide +kernel
theorem dX8_wipe_0 : decode cX8_wipe 0 = .ok (.aload_n 0, 1) := by decide +kernel
theorem dX8_wipe_1 : decode cX8_wipe 1 = .ok (.getfield 13, 3) := by decide +kernel
theorem dX8_wipe_4 : decode cX8_wipe 4 = .ok (.getfield 83, 3) := by decide +kernel
theorem dX8_wipe_7 : decode cX8_wipe 7 = .ok (.istore_n 1, 1) := by decide +kernel
theorem dX8_wipe_8 : decode cX8_wipe 8 = .ok (.aload_n 0, 1) := by decide +kernel
theorem dX8_wipe_9 : decode cX8_wipe 9 = .ok (.getfield 13, 3) := by decide +kernel
theorem dX8_wipe_12 : decode cX8_wipe 12 = .ok (.iconst 0, 1) := by decide +kernel
theorem dX8_wipe_13 : decode cX8_wipe 13 = .ok (.putfield 83, 3) := by decide +kernel
theorem dX8_wipe_16 : decode cX8_wipe 16 = .ok (.iload_n 1, 1) := by decide +kernel
theorem dX8_wipe_17 : decode cX8_wipe 17 = .ok (.ireturn, 1) := by decide +kernel
theorem dX8_off_0 : decode cX8_off 0 = .ok (.aload_n 0, 1) := by decide +kernel
theorem dX8_off_1 : decode cX8_off 1 = .ok (.getfield 22, 3) := by decide +kernel
theorem dX8_off_4 : decode cX8_off 4 = .ok (.getfield 287, 3) := by decide +kernel
theorem dX8_off_7 : decode cX8_off 7 = .ok (.istore_n 1, 1) := by decide +kernel
theorem dX8_off_8 : decode cX8_off 8 = .ok (.aload_n 0, 1) := by decide +kernel
theorem dX8_off_9 : decode cX8_off 9 = .ok (.getfield 22, 3) := by decide +kernel
theorem dX8_off_12 : decode cX8_off 12 = .ok (.iconst 0, 1) := by decide +kernel
theorem dX8_off_13 : decode cX8_off 13 = .ok (.putfield 287, 3) := by decide +kernel
theorem dX8_off_16 : decode cX8_off 16 = .ok (.aload_n 0, 1) := by decide +kernel
theorem dX8_off_17 : decode cX8_off 17 = .ok (.iconst 0, 1) := by decide +kernel
theorem dX8_off_18 : decode cX8_off 18 = .ok (.putfield 72, 3) := by decide +kernel
theorem dX8_off_21 : decode cX8_off 21 = .ok (.iload_n 1, 1) := by decide +kernel
theorem dX8_off_22 : decode cX8_off 22 = .ok (.ireturn, 1) := by decide +kernel
theorem dX8_append_0 : decode cX8_append 0 = .ok (.aload_n 0, 1) := by decide +kernel
theorem dX8_append_1 : decode cX8_append 1 = .ok (.getfield 31, 3) := by decide +kernel
theorem dX8_append_4 : decode cX8_append 4 = .ok (.iload_n 1, 1) := by decide +kernel
theorem dX8_append_5 : decode cX8_append 5 = .ok (.iload_n 2, 1) := by decide +kernel
theorem dX8_append_6 : decode cX8_append 6 = .ok (.iload_n 3, 1) := by decide +kernel
theorem dX8_append_7 : decode cX8_append 7 = .ok (.lload 4, 2) := by decide +kernel
theorem dX8_append_9 : decode cX8_append 9 = .ok (.invokevirtual 377, 3) := by decide +kernel
theorem dX8_append_12 : decode cX8_append 12 = .ok (.ifCond .ne 5, 3) := by decide +kernel
theorem dX8_append_15 : decode cX8_append 15 = .ok (.iconst 0, 1) := by decide +kernel
theorem dX8_append_16 : decode cX8_append 16 = .ok (.ireturn, 1) := by decide +kernel
theorem dX8_append_17 : decode cX8_append 17 = .ok (.aload_n 0, 1) := by decide +kernel
theorem dX8_append_18 : decode cX8_append 18 = .ok (.getfield 40, 3) := by decide +kernel
theorem dX8_append_21 : decode cX8_append 21 = .ok (.invokevirtual 380, 3) := by decide +kernel
theorem dX8_append_24 : decode cX8_append 24 = .ok (.iconst 1, 1) := by decide +kernel
theorem dX8_append_25 : decode cX8_append 25 = .ok (.ireturn, 1) := by decide +kernel
theorem dX8_drawPage_0 : decode cX8_drawPage 0 = .ok (.aload_n 0, 1) := by decide +kernel
theorem dX8_drawPage_1 : decode cX8_drawPage 1 = .ok (.getfield 60, 3) := by decide +kernel
theorem dX8_drawPage_4 : decode cX8_drawPage 4 = .ok (.iconst 0, 1) := by decide +kernel
theorem dX8_drawPage_5 : decode cX8_drawPage 5 = .ok (.iload_n 2, 1) := by decide +kernel
theorem dX8_drawPage_6 : decode cX8_drawPage 6 = .ok (.i2b, 1) := by decide +kernel
theorem dX8_drawPage_7 : decode cX8_drawPage 7 = .ok (.bastore, 1) := by decide +kernel
theorem dX8_drawPage_8 : decode cX8_drawPage 8 = .ok (.iconst 0, 1) := by decide +kernel
theorem dX8_drawPage_9 : decode cX8_drawPage 9 = .ok (.istore_n 3, 1) := by decide +kernel
theorem dX8_drawPage_10 : decode cX8_drawPage 10 = .ok (.iload_n 3, 1) := by decide +kernel
theorem dX8_drawPage_11 : decode cX8_drawPage 11 = .ok (.bipush 16, 2) := by decide +kernel
theorem dX8_drawPage_13 : decode cX8_drawPage 13 = .ok (.if_icmp .ge 46, 3) := by decide +kernel
theorem dX8_drawPage_16 : decode cX8_drawPage 16 = .ok (.aload_n 0, 1) := by decide +kernel
theorem dX8_drawPage_17 : decode cX8_drawPage 17 = .ok (.getfield 60, 3) := by decide +kernel
theorem dX8_drawPage_20 : decode cX8_drawPage 20 = .ok (.iconst 1, 1) := by decide +kernel
theorem dX8_drawPage_21 : decode cX8_drawPage 21 = .ok (.iload_n 3, 1) := by decide +kernel
theorem dX8_drawPage_22 : decode cX8_drawPage 22 = .ok (.iadd, 1) := by decide +kernel
theorem dX8_drawPage_23 : decode cX8_drawPage 23 = .ok (.iload_n 3, 1) := by decide +kernel
theorem dX8_drawPage_24 : decode cX8_drawPage 24 = .ok (.iload_n 2, 1) := by decide +kernel
theorem dX8_drawPage_25 : decode cX8_drawPage 25 = .ok (.if_icmp .ge 26, 3) := by decide +kernel
theorem dX8_drawPage_28 : decode cX8_drawPage 28 = .ok (.iload_n 1, 1) := by decide +kernel
theorem dX8_drawPage_29 : decode cX8_drawPage 29 = .ok (.iload_n 3, 1) := by decide +kernel
theorem dX8_drawPage_30 : decode cX8_drawPage 30 = .ok (.iadd, 1) := by decide +kernel
theorem dX8_drawPage_31 : decode cX8_drawPage 31 = .ok (.sipush 400, 3) := by decide +kernel
theorem dX8_drawPage_34 : decode cX8_drawPage 34 = .ok (.if_icmp .ge 17, 3) := by decide +kernel
theorem dX8_drawPage_37 : decode cX8_drawPage 37 = .ok (.aload_n 0, 1) := by decide +kernel
theorem dX8_drawPage_38 : decode cX8_drawPage 38 = .ok (.getfield 13, 3) := by decide +kernel
theorem dX8_drawPage_41 : decode cX8_drawPage 41 = .ok (.getfield 96, 3) := by decide +kernel
theorem dX8_drawPage_44 : decode cX8_drawPage 44 = .ok (.iload_n 1, 1) := by decide +kernel
theorem dX8_drawPage_45 : decode cX8_drawPage 45 = .ok (.iload_n 3, 1) := by decide +kernel
theorem dX8_drawPage_46 : decode cX8_drawPage 46 = .ok (.iadd, 1) := by decide +kernel
theorem dX8_drawPage_47 : decode cX8_drawPage 47 = .ok (.baload, 1) := by decide +kernel
theorem dX8_drawPage_48 : decode cX8_drawPage 48 = .ok (.goto 4, 3) := by decide +kernel
theorem dX8_drawPage_51 : decode cX8_drawPage 51 = .ok (.iconst 0, 1) := by decide +kernel
theorem dX8_drawPage_52 : decode cX8_drawPage 52 = .ok (.bastore, 1) := by decide +kernel
theorem dX8_drawPage_53 : decode cX8_drawPage 53 = .ok (.iinc 3 1, 3) := by decide +kernel
theorem dX8_drawPage_56 : decode cX8_drawPage 56 = .ok (.goto (-46), 3) := by decide +kernel
theorem dX8_drawPage_59 : decode cX8_drawPage 59 = .ok (.aload_n 0, 1) := by decide +kernel
theorem dX8_drawPage_60 : decode cX8_drawPage 60 = .ok (.getfield 60, 3) := by decide +kernel
theorem dX8_drawPage_63 : decode cX8_drawPage 63 = .ok (.bipush 17, 2) := by decide +kernel
theorem dX8_drawPage_65 : decode cX8_drawPage 65 = .ok (.iconst 3, 1) := by decide +kernel
theorem dX8_drawPage_66 : decode cX8_drawPage 66 = .ok (.invokestatic 383, 3) := by decide +kernel
theorem dX8_drawPage_69 : decode cX8_drawPage 69 = .ok (.return_, 1) := by decide +kernel
theorem dX8_collectedDigest_0 : decode cX8_collectedDigest 0 = .ok (.iconst 4, 1) := by decide +kernel
theorem dX8_collectedDigest_1 : decode cX8_collectedDigest 1 = .ok (.invokestatic 396, 3) := by decide +kernel
theorem dX8_collectedDigest_4 : decode cX8_collectedDigest 4 = .ok (.iload_n 1, 1) := by decide +kernel
theorem dX8_collectedDigest_5 : decode cX8_collectedDigest 5 = .ok (.invokestatic 399, 3) := by decide +kernel
theorem dX8_collectedDigest_8 : decode cX8_collectedDigest 8 = .ok (.lload_n 2, 1) := by decide +kernel
theorem dX8_collectedDigest_9 : decode cX8_collectedDigest 9 = .ok (.invokestatic 403, 3) := by decide +kernel
theorem dX8_collectedDigest_12 : decode cX8_collectedDigest 12 = .ok (.lstore 4, 2) := by decide +kernel
theorem dX8_collectedDigest_14 : decode cX8_collectedDigest 14 = .ok (.iconst 0, 1) := by decide +kernel
theorem dX8_collectedDigest_15 : decode cX8_collectedDigest 15 = .ok (.istore 6, 2) := by decide +kernel
theorem dX8_collectedDigest_17 : decode cX8_collectedDigest 17 = .ok (.iload 6, 2) := by decide +kernel
theorem dX8_collectedDigest_19 : decode cX8_collectedDigest 19 = .ok (.aload_n 0, 1) := by decide +kernel
theorem dX8_collectedDigest_20 : decode cX8_collectedDigest 20 = .ok (.getfield 72, 3) := by decide +kernel
theorem dX8_collectedDigest_23 : decode cX8_collectedDigest 23 = .ok (.if_icmp .ge 33, 3) := by decide +kernel
theorem dX8_collectedDigest_26 : decode cX8_collectedDigest 26 = .ok (.lload 4, 2) := by decide +kernel
theorem dX8_collectedDigest_28 : decode cX8_collectedDigest 28 = .ok (.aload_n 0, 1) := by decide +kernel
theorem dX8_collectedDigest_29 : decode cX8_collectedDigest 29 = .ok (.getfield 64, 3) := by decide +kernel
theorem dX8_collectedDigest_32 : decode cX8_collectedDigest 32 = .ok (.iload 6, 2) := by decide +kernel
theorem dX8_collectedDigest_34 : decode cX8_collectedDigest 34 = .ok (.iaload, 1) := by decide +kernel
theorem dX8_collectedDigest_35 : decode cX8_collectedDigest 35 = .ok (.invokestatic 399, 3) := by decide +kernel
theorem dX8_collectedDigest_38 : decode cX8_collectedDigest 38 = .ok (.aload_n 0, 1) := by decide +kernel
theorem dX8_collectedDigest_39 : decode cX8_collectedDigest 39 = .ok (.getfield 68, 3) := by decide +kernel
theorem dX8_collectedDigest_42 : decode cX8_collectedDigest 42 = .ok (.iload 6, 2) := by decide +kernel
theorem dX8_collectedDigest_44 : decode cX8_collectedDigest 44 = .ok (.laload, 1) := by decide +kernel
theorem dX8_collectedDigest_45 : decode cX8_collectedDigest 45 = .ok (.invokestatic 403, 3) := by decide +kernel
theorem dX8_collectedDigest_48 : decode cX8_collectedDigest 48 = .ok (.lstore 4, 2) := by decide +kernel
theorem dX8_collectedDigest_50 : decode cX8_collectedDigest 50 = .ok (.iinc 6 1, 3) := by decide +kernel
theorem dX8_collectedDigest_53 : decode cX8_collectedDigest 53 = .ok (.goto (-36), 3) := by decide +kernel
theorem dX8_collectedDigest_56 : decode cX8_collectedDigest 56 = .ok (.lload 4, 2) := by decide +kernel
theorem dX8_collectedDigest_58 : decode cX8_collectedDigest 58 = .ok (.lreturn, 1) := by decide +kernel
theorem dX8_writeBlock_0 : decode cX8_writeBlock 0 = .ok (.aload_n 0, 1) := by decide +kernel
theorem dX8_writeBlock_1 : decode cX8_writeBlock 1 = .ok (.getfield 31, 3) := by decide +kernel
theorem dX8_writeBlock_4 : decode cX8_writeBlock 4 = .ok (.getfield 151, 3) := by decide +kernel
theorem dX8_writeBlock_7 : decode cX8_writeBlock 7 = .ok (.istore 5, 2) := by decide +kernel
theorem dX8_writeBlock_9 : decode cX8_writeBlock 9 = .ok (.aload_n 0, 1) := by decide +kernel
theorem dX8_writeBlock_10 : decode cX8_writeBlock 10 = .ok (.getfield 31, 3) := by decide +kernel
theorem dX8_writeBlock_13 : decode cX8_writeBlock 13 = .ok (.iconst 2, 1) := by decide +kernel
theorem dX8_writeBlock_14 : decode cX8_writeBlock 14 = .ok (.iload_n 1, 1) := by decide +kernel
theorem dX8_writeBlock_15 : decode cX8_writeBlock 15 = .ok (.iload 4, 2) := by decide +kernel
theorem dX8_writeBlock_17 : decode cX8_writeBlock 17 = .ok (.lload_n 2, 1) := by decide +kernel
theorem dX8_writeBlock_18 : decode cX8_writeBlock 18 = .ok (.invokevirtual 377, 3) := by decide +kernel
theorem dX8_writeBlock_21 : decode cX8_writeBlock 21 = .ok (.ifCond .ne 6, 3) := by decide +kernel
theorem dX8_writeBlock_24 : decode cX8_writeBlock 24 = .ok (.bipush (-4), 2) := by decide +kernel
theorem dX8_writeBlock_26 : decode cX8_writeBlock 26 = .ok (.ireturn, 1) := by decide +kernel
theorem dX8_writeBlock_27 : decode cX8_writeBlock 27 = .ok (.iconst 0, 1) := by decide +kernel
theorem dX8_writeBlock_28 : decode cX8_writeBlock 28 = .ok (.istore 6, 2) := by decide +kernel
theorem dX8_writeBlock_30 : decode cX8_writeBlock 30 = .ok (.iload 6, 2) := by decide +kernel
theorem dX8_writeBlock_32 : decode cX8_writeBlock 32 = .ok (.iload 4, 2) := by decide +kernel
theorem dX8_writeBlock_34 : decode cX8_writeBlock 34 = .ok (.if_icmp .ge 38, 3) := by decide +kernel
theorem dX8_writeBlock_37 : decode cX8_writeBlock 37 = .ok (.aload_n 0, 1) := by decide +kernel
theorem dX8_writeBlock_38 : decode cX8_writeBlock 38 = .ok (.getfield 31, 3) := by decide +kernel
theorem dX8_writeBlock_41 : decode cX8_writeBlock 41 = .ok (.iconst 3, 1) := by decide +kernel
theorem dX8_writeBlock_42 : decode cX8_writeBlock 42 = .ok (.aload_n 0, 1) := by decide +kernel
theorem dX8_writeBlock_43 : decode cX8_writeBlock 43 = .ok (.getfield 64, 3) := by decide +kernel
theorem dX8_writeBlock_46 : decode cX8_writeBlock 46 = .ok (.iload 6, 2) := by decide +kernel
theorem dX8_writeBlock_48 : decode cX8_writeBlock 48 = .ok (.iaload, 1) := by decide +kernel
theorem dX8_writeBlock_49 : decode cX8_writeBlock 49 = .ok (.iconst 0, 1) := by decide +kernel
theorem dX8_writeBlock_50 : decode cX8_writeBlock 50 = .ok (.aload_n 0, 1) := by decide +kernel
theorem dX8_writeBlock_51 : decode cX8_writeBlock 51 = .ok (.getfield 68, 3) := by decide +kernel
theorem dX8_writeBlock_54 : decode cX8_writeBlock 54 = .ok (.iload 6, 2) := by decide +kernel
theorem dX8_writeBlock_56 : decode cX8_writeBlock 56 = .ok (.laload, 1) := by decide +kernel
theorem dX8_writeBlock_57 : decode cX8_writeBlock 57 = .ok (.invokevirtual 377, 3) := by decide +kernel
theorem dX8_writeBlock_60 : decode cX8_writeBlock 60 = .ok (.ifCond .ne 6, 3) := by decide +kernel
theorem dX8_writeBlock_63 : decode cX8_writeBlock 63 = .ok (.bipush (-4), 2) := by decide +kernel
theorem dX8_writeBlock_65 : decode cX8_writeBlock 65 = .ok (.ireturn, 1) := by decide +kernel
theorem dX8_writeBlock_66 : decode cX8_writeBlock 66 = .ok (.iinc 6 1, 3) := by decide +kernel
theorem dX8_writeBlock_69 : decode cX8_writeBlock 69 = .ok (.goto (-39), 3) := by decide +kernel
theorem dX8_writeBlock_72 : decode cX8_writeBlock 72 = .ok (.aload_n 0, 1) := by decide +kernel
theorem dX8_writeBlock_73 : decode cX8_writeBlock 73 = .ok (.getfield 40, 3) := by decide +kernel
theorem dX8_writeBlock_76 : decode cX8_writeBlock 76 = .ok (.invokevirtual 380, 3) := by decide +kernel
theorem dX8_writeBlock_79 : decode cX8_writeBlock 79 = .ok (.iload 5, 2) := by decide +kernel
theorem dX8_writeBlock_81 : decode cX8_writeBlock 81 = .ok (.ireturn, 1) := by decide +kernel
