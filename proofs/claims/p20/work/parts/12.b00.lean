theorem dX9_thrown_0 : decode cX9_thrown 0 = .ok (.aload_n 0, 1) := by decide +kernel
theorem dX9_thrown_1 : decode cX9_thrown 1 = .ok (.getfield 91, 3) := by decide +kernel
theorem dX9_thrown_4 : decode cX9_thrown 4 = .ok (.ireturn, 1) := by decide +kernel
theorem dX9_numberSum_0 : decode cX9_numberSum 0 = .ok (.lload_n 1, 1) := by decide +kernel
theorem dX9_numberSum_1 : decode cX9_numberSum 1 = .ok (.lstore 6, 2) := by decide +kernel
theorem dX9_numberSum_3 : decode cX9_numberSum 3 = .ok (.iload 5, 2) := by decide +kernel
theorem dX9_numberSum_5 : decode cX9_numberSum 5 = .ok (.iconst 1, 1) := by decide +kernel
theorem dX9_numberSum_6 : decode cX9_numberSum 6 = .ok (.isub, 1) := by decide +kernel
theorem dX9_numberSum_7 : decode cX9_numberSum 7 = .ok (.istore 8, 2) := by decide +kernel
theorem dX9_numberSum_9 : decode cX9_numberSum 9 = .ok (.iload 8, 2) := by decide +kernel
theorem dX9_numberSum_11 : decode cX9_numberSum 11 = .ok (.ifCond .lt 28, 3) := by decide +kernel
theorem dX9_numberSum_14 : decode cX9_numberSum 14 = .ok (.lload 6, 2) := by decide +kernel
theorem dX9_numberSum_16 : decode cX9_numberSum 16 = .ok (.lload_n 3, 1) := by decide +kernel
theorem dX9_numberSum_17 : decode cX9_numberSum 17 = .ok (.bipush 8, 2) := by decide +kernel
theorem dX9_numberSum_19 : decode cX9_numberSum 19 = .ok (.iload 8, 2) := by decide +kernel
theorem dX9_numberSum_21 : decode cX9_numberSum 21 = .ok (.imul, 1) := by decide +kernel
theorem dX9_numberSum_22 : decode cX9_numberSum 22 = .ok (.lushr, 1) := by decide +kernel
theorem dX9_numberSum_23 : decode cX9_numberSum 23 = .ok (.ldc2_w 94, 3) := by decide +kernel
theorem dX9_numberSum_26 : decode cX9_numberSum 26 = .ok (.land, 1) := by decide +kernel
theorem dX9_numberSum_27 : decode cX9_numberSum 27 = .ok (.l2i, 1) := by decide +kernel
theorem dX9_numberSum_28 : decode cX9_numberSum 28 = .ok (.invokestatic 104, 3) := by decide +kernel
theorem dX9_numberSum_31 : decode cX9_numberSum 31 = .ok (.lstore 6, 2) := by decide +kernel
theorem dX9_numberSum_33 : decode cX9_numberSum 33 = .ok (.iinc 8 (-1), 3) := by decide +kernel
theorem dX9_numberSum_36 : decode cX9_numberSum 36 = .ok (.goto (-27), 3) := by decide +kernel
theorem dX9_numberSum_39 : decode cX9_numberSum 39 = .ok (.lload 6, 2) := by decide +kernel
theorem dX9_numberSum_41 : decode cX9_numberSum 41 = .ok (.lreturn, 1) := by decide +kernel
theorem dX9_blockRow_0 : decode cX9_blockRow 0 = .ok (.iconst 0, 1) := by decide +kernel
theorem dX9_blockRow_1 : decode cX9_blockRow 1 = .ok (.istore 4, 2) := by decide +kernel
theorem dX9_blockRow_3 : decode cX9_blockRow 3 = .ok (.iload 4, 2) := by decide +kernel
theorem dX9_blockRow_5 : decode cX9_blockRow 5 = .ok (.iload_n 3, 1) := by decide +kernel
theorem dX9_blockRow_6 : decode cX9_blockRow 6 = .ok (.if_icmp .ge 44, 3) := by decide +kernel
theorem dX9_blockRow_9 : decode cX9_blockRow 9 = .ok (.aload_n 0, 1) := by decide +kernel
theorem dX9_blockRow_10 : decode cX9_blockRow 10 = .ok (.getfield 34, 3) := by decide +kernel
theorem dX9_blockRow_13 : decode cX9_blockRow 13 = .ok (.iload 4, 2) := by decide +kernel
theorem dX9_blockRow_15 : decode cX9_blockRow 15 = .ok (.baload, 1) := by decide +kernel
theorem dX9_blockRow_16 : decode cX9_blockRow 16 = .ok (.ifCond .eq 28, 3) := by decide +kernel
theorem dX9_blockRow_19 : decode cX9_blockRow 19 = .ok (.aload_n 0, 1) := by decide +kernel
theorem dX9_blockRow_20 : decode cX9_blockRow 20 = .ok (.iload 4, 2) := by decide +kernel
theorem dX9_blockRow_22 : decode cX9_blockRow 22 = .ok (.invokevirtual 170, 3) := by decide +kernel
theorem dX9_blockRow_25 : decode cX9_blockRow 25 = .ok (.iconst 2, 1) := by decide +kernel
theorem dX9_blockRow_26 : decode cX9_blockRow 26 = .ok (.if_icmp .ne 18, 3) := by decide +kernel
theorem dX9_blockRow_29 : decode cX9_blockRow 29 = .ok (.aload_n 0, 1) := by decide +kernel
theorem dX9_blockRow_30 : decode cX9_blockRow 30 = .ok (.getfield 27, 3) := by decide +kernel
theorem dX9_blockRow_33 : decode cX9_blockRow 33 = .ok (.iload 4, 2) := by decide +kernel
theorem dX9_blockRow_35 : decode cX9_blockRow 35 = .ok (.laload, 1) := by decide +kernel
theorem dX9_blockRow_36 : decode cX9_blockRow 36 = .ok (.lload_n 1, 1) := by decide +kernel
theorem dX9_blockRow_37 : decode cX9_blockRow 37 = .ok (.lcmp, 1) := by decide +kernel
theorem dX9_blockRow_38 : decode cX9_blockRow 38 = .ok (.ifCond .ne 6, 3) := by decide +kernel
theorem dX9_blockRow_41 : decode cX9_blockRow 41 = .ok (.iload 4, 2) := by decide +kernel
theorem dX9_blockRow_43 : decode cX9_blockRow 43 = .ok (.ireturn, 1) := by decide +kernel
theorem dX9_blockRow_44 : decode cX9_blockRow 44 = .ok (.iinc 4 1, 3) := by decide +kernel
theorem dX9_blockRow_47 : decode cX9_blockRow 47 = .ok (.goto (-44), 3) := by decide +kernel
theorem dX9_blockRow_50 : decode cX9_blockRow 50 = .ok (.iconst (-1), 1) := by decide +kernel
theorem dX9_blockRow_51 : decode cX9_blockRow 51 = .ok (.ireturn, 1) := by decide +kernel
theorem dX9_pageOf_0 : decode cX9_pageOf 0 = .ok (.iconst 0, 1) := by decide +kernel
theorem dX9_pageOf_1 : decode cX9_pageOf 1 = .ok (.istore_n 3, 1) := by decide +kernel
theorem dX9_pageOf_2 : decode cX9_pageOf 2 = .ok (.iload_n 3, 1) := by decide +kernel
theorem dX9_pageOf_3 : decode cX9_pageOf 3 = .ok (.aload_n 0, 1) := by decide +kernel
theorem dX9_pageOf_4 : decode cX9_pageOf 4 = .ok (.getfield 62, 3) := by decide +kernel
theorem dX9_pageOf_7 : decode cX9_pageOf 7 = .ok (.if_icmp .ge 39, 3) := by decide +kernel
theorem dX9_pageOf_10 : decode cX9_pageOf 10 = .ok (.aload_n 0, 1) := by decide +kernel
theorem dX9_pageOf_11 : decode cX9_pageOf 11 = .ok (.aload_n 0, 1) := by decide +kernel
theorem dX9_pageOf_12 : decode cX9_pageOf 12 = .ok (.iload_n 3, 1) := by decide +kernel
theorem dX9_pageOf_13 : decode cX9_pageOf 13 = .ok (.invokevirtual 154, 3) := by decide +kernel
theorem dX9_pageOf_16 : decode cX9_pageOf 16 = .ok (.bipush 17, 2) := by decide +kernel
theorem dX9_pageOf_18 : decode cX9_pageOf 18 = .ok (.iadd, 1) := by decide +kernel
theorem dX9_pageOf_19 : decode cX9_pageOf 19 = .ok (.bipush 8, 2) := by decide +kernel
theorem dX9_pageOf_21 : decode cX9_pageOf 21 = .ok (.invokevirtual 131, 3) := by decide +kernel
theorem dX9_pageOf_24 : decode cX9_pageOf 24 = .ok (.lload_n 1, 1) := by decide +kernel
theorem dX9_pageOf_25 : decode cX9_pageOf 25 = .ok (.lcmp, 1) := by decide +kernel
theorem dX9_pageOf_26 : decode cX9_pageOf 26 = .ok (.ifCond .ne 14, 3) := by decide +kernel
theorem dX9_pageOf_29 : decode cX9_pageOf 29 = .ok (.aload_n 0, 1) := by decide +kernel
theorem dX9_pageOf_30 : decode cX9_pageOf 30 = .ok (.iload_n 3, 1) := by decide +kernel
theorem dX9_pageOf_31 : decode cX9_pageOf 31 = .ok (.invokevirtual 238, 3) := by decide +kernel
theorem dX9_pageOf_34 : decode cX9_pageOf 34 = .ok (.iconst 1, 1) := by decide +kernel
theorem dX9_pageOf_35 : decode cX9_pageOf 35 = .ok (.if_icmp .ne 5, 3) := by decide +kernel
theorem dX9_pageOf_38 : decode cX9_pageOf 38 = .ok (.iload_n 3, 1) := by decide +kernel
theorem dX9_pageOf_39 : decode cX9_pageOf 39 = .ok (.ireturn, 1) := by decide +kernel
theorem dX9_pageOf_40 : decode cX9_pageOf 40 = .ok (.iinc 3 1, 3) := by decide +kernel
theorem dX9_pageOf_43 : decode cX9_pageOf 43 = .ok (.goto (-41), 3) := by decide +kernel
theorem dX9_pageOf_46 : decode cX9_pageOf 46 = .ok (.iconst (-1), 1) := by decide +kernel
theorem dX9_pageOf_47 : decode cX9_pageOf 47 = .ok (.ireturn, 1) := by decide +kernel
theorem dX9_freePage_0 : decode cX9_freePage 0 = .ok (.iconst 0, 1) := by decide +kernel
theorem dX9_freePage_1 : decode cX9_freePage 1 = .ok (.istore_n 1, 1) := by decide +kernel
theorem dX9_freePage_2 : decode cX9_freePage 2 = .ok (.iload_n 1, 1) := by decide +kernel
theorem dX9_freePage_3 : decode cX9_freePage 3 = .ok (.aload_n 0, 1) := by decide +kernel
theorem dX9_freePage_4 : decode cX9_freePage 4 = .ok (.getfield 62, 3) := by decide +kernel
theorem dX9_freePage_7 : decode cX9_freePage 7 = .ok (.if_icmp .ge 19, 3) := by decide +kernel
theorem dX9_freePage_10 : decode cX9_freePage 10 = .ok (.aload_n 0, 1) := by decide +kernel
theorem dX9_freePage_11 : decode cX9_freePage 11 = .ok (.iload_n 1, 1) := by decide +kernel
theorem dX9_freePage_12 : decode cX9_freePage 12 = .ok (.invokevirtual 238, 3) := by decide +kernel
theorem dX9_freePage_15 : decode cX9_freePage 15 = .ok (.ifCond .ne 5, 3) := by decide +kernel
theorem dX9_freePage_18 : decode cX9_freePage 18 = .ok (.iload_n 1, 1) := by decide +kernel
theorem dX9_freePage_19 : decode cX9_freePage 19 = .ok (.ireturn, 1) := by decide +kernel
theorem dX9_freePage_20 : decode cX9_freePage 20 = .ok (.iinc 1 1, 3) := by decide +kernel
theorem dX9_freePage_23 : decode cX9_freePage 23 = .ok (.goto (-21), 3) := by decide +kernel
theorem dX9_freePage_26 : decode cX9_freePage 26 = .ok (.iconst (-1), 1) := by decide +kernel
theorem dX9_freePage_27 : decode cX9_freePage 27 = .ok (.ireturn, 1) := by decide +kernel
theorem dX9_leafDigest_0 : decode cX9_leafDigest 0 = .ok (.aload_n 0, 1) := by decide +kernel
theorem dX9_leafDigest_1 : decode cX9_leafDigest 1 = .ok (.aload_n 0, 1) := by decide +kernel
theorem dX9_leafDigest_2 : decode cX9_leafDigest 2 = .ok (.iload_n 1, 1) := by decide +kernel
theorem dX9_leafDigest_3 : decode cX9_leafDigest 3 = .ok (.invokevirtual 154, 3) := by decide +kernel
theorem dX9_leafDigest_6 : decode cX9_leafDigest 6 = .ok (.bipush 17, 2) := by decide +kernel
theorem dX9_leafDigest_8 : decode cX9_leafDigest 8 = .ok (.iadd, 1) := by decide +kernel
theorem dX9_leafDigest_9 : decode cX9_leafDigest 9 = .ok (.bipush 8, 2) := by decide +kernel
theorem dX9_leafDigest_11 : decode cX9_leafDigest 11 = .ok (.invokevirtual 131, 3) := by decide +kernel
theorem dX9_leafDigest_14 : decode cX9_leafDigest 14 = .ok (.lreturn, 1) := by decide +kernel
theorem dX9_isNamed_0 : decode cX9_isNamed 0 = .ok (.iconst 0, 1) := by decide +kernel
theorem dX9_isNamed_1 : decode cX9_isNamed 1 = .ok (.istore_n 3, 1) := by decide +kernel
theorem dX9_isNamed_2 : decode cX9_isNamed 2 = .ok (.iload_n 3, 1) := by decide +kernel
theorem dX9_isNamed_3 : decode cX9_isNamed 3 = .ok (.aload_n 0, 1) := by decide +kernel
theorem dX9_isNamed_4 : decode cX9_isNamed 4 = .ok (.getfield 241, 3) := by decide +kernel
theorem dX9_isNamed_7 : decode cX9_isNamed 7 = .ok (.if_icmp .ge 22, 3) := by decide +kernel
theorem dX9_isNamed_10 : decode cX9_isNamed 10 = .ok (.aload_n 0, 1) := by decide +kernel
theorem dX9_isNamed_11 : decode cX9_isNamed 11 = .ok (.getfield 43, 3) := by decide +kernel
theorem dX9_isNamed_14 : decode cX9_isNamed 14 = .ok (.iload_n 3, 1) := by decide +kernel
theorem dX9_isNamed_15 : decode cX9_isNamed 15 = .ok (.laload, 1) := by decide +kernel
theorem dX9_isNamed_16 : decode cX9_isNamed 16 = .ok (.lload_n 1, 1) := by decide +kernel
theorem dX9_isNamed_17 : decode cX9_isNamed 17 = .ok (.lcmp, 1) := by decide +kernel
theorem dX9_isNamed_18 : decode cX9_isNamed 18 = .ok (.ifCond .ne 5, 3) := by decide +kernel
theorem dX9_isNamed_21 : decode cX9_isNamed 21 = .ok (.iconst 1, 1) := by decide +kernel
theorem dX9_isNamed_22 : decode cX9_isNamed 22 = .ok (.ireturn, 1) := by decide +kernel
theorem dX9_isNamed_23 : decode cX9_isNamed 23 = .ok (.iinc 3 1, 3) := by decide +kernel
theorem dX9_isNamed_26 : decode cX9_isNamed 26 = .ok (.goto (-24), 3) := by decide +kernel
theorem dX9_isNamed_29 : decode cX9_isNamed 29 = .ok (.iconst 0, 1) := by decide +kernel
theorem dX9_isNamed_30 : decode cX9_isNamed 30 = .ok (.ireturn, 1) := by decide +kernel
theorem dX9_isHead_0 : decode cX9_isHead 0 = .ok (.aload_n 0, 1) := by decide +kernel
theorem dX9_isHead_1 : decode cX9_isHead 1 = .ok (.bipush 16, 2) := by decide +kernel
theorem dX9_isHead_3 : decode cX9_isHead 3 = .ok (.iload_n 1, 1) := by decide +kernel
theorem dX9_isHead_4 : decode cX9_isHead 4 = .ok (.imul, 1) := by decide +kernel
theorem dX9_isHead_5 : decode cX9_isHead 5 = .ok (.bipush 8, 2) := by decide +kernel
theorem dX9_isHead_7 : decode cX9_isHead 7 = .ok (.iadd, 1) := by decide +kernel
theorem dX9_isHead_8 : decode cX9_isHead 8 = .ok (.bipush 8, 2) := by decide +kernel
theorem dX9_isHead_10 : decode cX9_isHead 10 = .ok (.invokevirtual 131, 3) := by decide +kernel
theorem dX9_isHead_13 : decode cX9_isHead 13 = .ok (.lstore_n 2, 1) := by decide +kernel
theorem dX9_isHead_14 : decode cX9_isHead 14 = .ok (.aload_n 0, 1) := by decide +kernel
theorem dX9_isHead_15 : decode cX9_isHead 15 = .ok (.bipush 16, 2) := by decide +kernel
theorem dX9_isHead_17 : decode cX9_isHead 17 = .ok (.iload_n 1, 1) := by decide +kernel
theorem dX9_isHead_18 : decode cX9_isHead 18 = .ok (.imul, 1) := by decide +kernel
theorem dX9_isHead_19 : decode cX9_isHead 19 = .ok (.iconst 4, 1) := by decide +kernel
theorem dX9_isHead_20 : decode cX9_isHead 20 = .ok (.iadd, 1) := by decide +kernel
theorem dX9_isHead_21 : decode cX9_isHead 21 = .ok (.iconst 4, 1) := by decide +kernel
theorem dX9_isHead_22 : decode cX9_isHead 22 = .ok (.invokevirtual 131, 3) := by decide +kernel
theorem dX9_isHead_25 : decode cX9_isHead 25 = .ok (.ldc2_w 251, 3) := by decide +kernel
theorem dX9_isHead_28 : decode cX9_isHead 28 = .ok (.lcmp, 1) := by decide +kernel
theorem dX9_isHead_29 : decode cX9_isHead 29 = .ok (.ifCond .ne 29, 3) := by decide +kernel
theorem dX9_isHead_32 : decode cX9_isHead 32 = .ok (.lload_n 2, 1) := by decide +kernel
theorem dX9_isHead_33 : decode cX9_isHead 33 = .ok (.lconst 0, 1) := by decide +kernel
theorem dX9_isHead_34 : decode cX9_isHead 34 = .ok (.lcmp, 1) := by decide +kernel
theorem dX9_isHead_35 : decode cX9_isHead 35 = .ok (.ifCond .eq 23, 3) := by decide +kernel
theorem dX9_isHead_38 : decode cX9_isHead 38 = .ok (.lload_n 2, 1) := by decide +kernel
theorem dX9_isHead_39 : decode cX9_isHead 39 = .ok (.aload_n 0, 1) := by decide +kernel
theorem dX9_isHead_40 : decode cX9_isHead 40 = .ok (.iconst 1, 1) := by decide +kernel
theorem dX9_isHead_41 : decode cX9_isHead 41 = .ok (.bipush 16, 2) := by decide +kernel
theorem dX9_isHead_43 : decode cX9_isHead 43 = .ok (.iload_n 1, 1) := by decide +kernel
theorem dX9_isHead_44 : decode cX9_isHead 44 = .ok (.imul, 1) := by decide +kernel
theorem dX9_isHead_45 : decode cX9_isHead 45 = .ok (.bipush 8, 2) := by decide +kernel
theorem dX9_isHead_47 : decode cX9_isHead 47 = .ok (.invokevirtual 87, 3) := by decide +kernel
theorem dX9_isHead_50 : decode cX9_isHead 50 = .ok (.lcmp, 1) := by decide +kernel
theorem dX9_isHead_51 : decode cX9_isHead 51 = .ok (.ifCond .ne 7, 3) := by decide +kernel
theorem dX9_isHead_54 : decode cX9_isHead 54 = .ok (.iconst 1, 1) := by decide +kernel
theorem dX9_isHead_55 : decode cX9_isHead 55 = .ok (.goto 4, 3) := by decide +kernel
theorem dX9_isHead_58 : decode cX9_isHead 58 = .ok (.iconst 0, 1) := by decide +kernel
theorem dX9_isHead_59 : decode cX9_isHead 59 = .ok (.ireturn, 1) := by decide +kernel
theorem dX9_lackingGroup_0 : decode cX9_lackingGroup 0 = .ok (.aload_n 0, 1) := by decide +kernel
theorem dX9_lackingGroup_1 : decode cX9_lackingGroup 1 = .ok (.getfield 108, 3) := by decide +kernel
theorem dX9_lackingGroup_4 : decode cX9_lackingGroup 4 = .ok (.ifCond .ne 10, 3) := by decide +kernel
theorem dX9_lackingGroup_7 : decode cX9_lackingGroup 7 = .ok (.aload_n 0, 1) := by decide +kernel
theorem dX9_lackingGroup_8 : decode cX9_lackingGroup 8 = .ok (.invokevirtual 173, 3) := by decide +kernel
theorem dX9_lackingGroup_11 : decode cX9_lackingGroup 11 = .ok (.ifCond .le 4, 3) := by decide +kernel
theorem dX9_lackingGroup_14 : decode cX9_lackingGroup 14 = .ok (.return_, 1) := by decide +kernel
theorem dX9_lackingGroup_15 : decode cX9_lackingGroup 15 = .ok (.aload_n 0, 1) := by decide +kernel
theorem dX9_lackingGroup_16 : decode cX9_lackingGroup 16 = .ok (.invokevirtual 163, 3) := by decide +kernel
theorem dX9_lackingGroup_19 : decode cX9_lackingGroup 19 = .ok (.istore_n 1, 1) := by decide +kernel
theorem dX9_lackingGroup_20 : decode cX9_lackingGroup 20 = .ok (.iload_n 1, 1) := by decide +kernel
theorem dX9_lackingGroup_21 : decode cX9_lackingGroup 21 = .ok (.iconst 1, 1) := by decide +kernel
theorem dX9_lackingGroup_22 : decode cX9_lackingGroup 22 = .ok (.isub, 1) := by decide +kernel
theorem dX9_lackingGroup_23 : decode cX9_lackingGroup 23 = .ok (.istore_n 2, 1) := by decide +kernel
theorem dX9_lackingGroup_24 : decode cX9_lackingGroup 24 = .ok (.iload_n 2, 1) := by decide +kernel
theorem dX9_lackingGroup_25 : decode cX9_lackingGroup 25 = .ok (.ifCond .lt 27, 3) := by decide +kernel
theorem dX9_lackingGroup_28 : decode cX9_lackingGroup 28 = .ok (.aload_n 0, 1) := by decide +kernel
theorem dX9_lackingGroup_29 : decode cX9_lackingGroup 29 = .ok (.iload_n 2, 1) := by decide +kernel
theorem dX9_lackingGroup_30 : decode cX9_lackingGroup 30 = .ok (.invokevirtual 170, 3) := by decide +kernel
theorem dX9_lackingGroup_33 : decode cX9_lackingGroup 33 = .ok (.iconst 2, 1) := by decide +kernel
theorem dX9_lackingGroup_34 : decode cX9_lackingGroup 34 = .ok (.if_icmp .eq 18, 3) := by decide +kernel
theorem dX9_lackingGroup_37 : decode cX9_lackingGroup 37 = .ok (.aload_n 0, 1) := by decide +kernel
theorem dX9_lackingGroup_38 : decode cX9_lackingGroup 38 = .ok (.iload_n 2, 1) := by decide +kernel
theorem dX9_lackingGroup_39 : decode cX9_lackingGroup 39 = .ok (.invokevirtual 170, 3) := by decide +kernel
theorem dX9_lackingGroup_42 : decode cX9_lackingGroup 42 = .ok (.iconst 5, 1) := by decide +kernel
theorem dX9_lackingGroup_43 : decode cX9_lackingGroup 43 = .ok (.if_icmp .eq 9, 3) := by decide +kernel
theorem dX9_lackingGroup_46 : decode cX9_lackingGroup 46 = .ok (.iinc 2 (-1), 3) := by decide +kernel
theorem dX9_lackingGroup_49 : decode cX9_lackingGroup 49 = .ok (.goto (-25), 3) := by decide +kernel
theorem dX9_lackingGroup_52 : decode cX9_lackingGroup 52 = .ok (.iload_n 2, 1) := by decide +kernel
theorem dX9_lackingGroup_53 : decode cX9_lackingGroup 53 = .ok (.ifCond .lt 65, 3) := by decide +kernel
theorem dX9_lackingGroup_56 : decode cX9_lackingGroup 56 = .ok (.aload_n 0, 1) := by decide +kernel
theorem dX9_lackingGroup_57 : decode cX9_lackingGroup 57 = .ok (.iload_n 2, 1) := by decide +kernel
theorem dX9_lackingGroup_58 : decode cX9_lackingGroup 58 = .ok (.invokevirtual 209, 3) := by decide +kernel
theorem dX9_lackingGroup_61 : decode cX9_lackingGroup 61 = .ok (.iconst 0, 1) := by decide +kernel
theorem dX9_lackingGroup_62 : decode cX9_lackingGroup 62 = .ok (.bipush 16, 2) := by decide +kernel
theorem dX9_lackingGroup_64 : decode cX9_lackingGroup 64 = .ok (.invokestatic 138, 3) := by decide +kernel
theorem dX9_lackingGroup_67 : decode cX9_lackingGroup 67 = .ok (.ifCond .eq 51, 3) := by decide +kernel
theorem dX9_lackingGroup_70 : decode cX9_lackingGroup 70 = .ok (.iload_n 1, 1) := by decide +kernel
theorem dX9_lackingGroup_71 : decode cX9_lackingGroup 71 = .ok (.iload_n 2, 1) := by decide +kernel
theorem dX9_lackingGroup_72 : decode cX9_lackingGroup 72 = .ok (.isub, 1) := by decide +kernel
theorem dX9_lackingGroup_73 : decode cX9_lackingGroup 73 = .ok (.iconst 1, 1) := by decide +kernel
theorem dX9_lackingGroup_74 : decode cX9_lackingGroup 74 = .ok (.isub, 1) := by decide +kernel
theorem dX9_lackingGroup_75 : decode cX9_lackingGroup 75 = .ok (.aload_n 0, 1) := by decide +kernel
theorem dX9_lackingGroup_76 : decode cX9_lackingGroup 76 = .ok (.iload_n 2, 1) := by decide +kernel
theorem dX9_lackingGroup_77 : decode cX9_lackingGroup 77 = .ok (.invokevirtual 209, 3) := by decide +kernel
theorem dX9_lackingGroup_80 : decode cX9_lackingGroup 80 = .ok (.if_icmp .ge 38, 3) := by decide +kernel
theorem dX9_lackingGroup_83 : decode cX9_lackingGroup 83 = .ok (.iload_n 1, 1) := by decide +kernel
theorem dX9_lackingGroup_84 : decode cX9_lackingGroup 84 = .ok (.iconst 1, 1) := by decide +kernel
theorem dX9_lackingGroup_85 : decode cX9_lackingGroup 85 = .ok (.isub, 1) := by decide +kernel
theorem dX9_lackingGroup_86 : decode cX9_lackingGroup 86 = .ok (.istore_n 3, 1) := by decide +kernel
theorem dX9_lackingGroup_87 : decode cX9_lackingGroup 87 = .ok (.iload_n 3, 1) := by decide +kernel
theorem dX9_lackingGroup_88 : decode cX9_lackingGroup 88 = .ok (.iload_n 2, 1) := by decide +kernel
theorem dX9_lackingGroup_89 : decode cX9_lackingGroup 89 = .ok (.if_icmp .lt 24, 3) := by decide +kernel
theorem dX9_lackingGroup_92 : decode cX9_lackingGroup 92 = .ok (.aload_n 0, 1) := by decide +kernel
theorem dX9_lackingGroup_93 : decode cX9_lackingGroup 93 = .ok (.aload_n 0, 1) := by decide +kernel
theorem dX9_lackingGroup_94 : decode cX9_lackingGroup 94 = .ok (.aload_n 0, 1) := by decide +kernel
theorem dX9_lackingGroup_95 : decode cX9_lackingGroup 95 = .ok (.getfield 76, 3) := by decide +kernel
theorem dX9_lackingGroup_98 : decode cX9_lackingGroup 98 = .ok (.iload_n 3, 1) := by decide +kernel
theorem dX9_lackingGroup_99 : decode cX9_lackingGroup 99 = .ok (.invokevirtual 146, 3) := by decide +kernel
theorem dX9_lackingGroup_102 : decode cX9_lackingGroup 102 = .ok (.bipush 32, 2) := by decide +kernel
theorem dX9_lackingGroup_104 : decode cX9_lackingGroup 104 = .ok (.invokevirtual 256, 3) := by decide +kernel
theorem dX9_lackingGroup_107 : decode cX9_lackingGroup 107 = .ok (.iinc 3 (-1), 3) := by decide +kernel
theorem dX9_lackingGroup_110 : decode cX9_lackingGroup 110 = .ok (.goto (-23), 3) := by decide +kernel
theorem dX9_lackingGroup_113 : decode cX9_lackingGroup 113 = .ok (.aload_n 0, 1) := by decide +kernel
theorem dX9_lackingGroup_114 : decode cX9_lackingGroup 114 = .ok (.iload_n 2, 1) := by decide +kernel
theorem dX9_lackingGroup_115 : decode cX9_lackingGroup 115 = .ok (.putfield 157, 3) := by decide +kernel
theorem dX9_lackingGroup_118 : decode cX9_lackingGroup 118 = .ok (.return_, 1) := by decide +kernel
theorem dX9_lastBytes_0 : decode cX9_lastBytes 0 = .ok (.aload_n 0, 1) := by decide +kernel
theorem dX9_lastBytes_1 : decode cX9_lastBytes 1 = .ok (.invokevirtual 163, 3) := by decide +kernel
theorem dX9_lastBytes_4 : decode cX9_lastBytes 4 = .ok (.istore_n 1, 1) := by decide +kernel
theorem dX9_lastBytes_5 : decode cX9_lastBytes 5 = .ok (.iconst 0, 1) := by decide +kernel
theorem dX9_lastBytes_6 : decode cX9_lastBytes 6 = .ok (.istore_n 2, 1) := by decide +kernel
theorem dX9_lastBytes_7 : decode cX9_lastBytes 7 = .ok (.iload_n 2, 1) := by decide +kernel
theorem dX9_lastBytes_8 : decode cX9_lastBytes 8 = .ok (.iload_n 1, 1) := by decide +kernel
theorem dX9_lastBytes_9 : decode cX9_lastBytes 9 = .ok (.if_icmp .ge 57, 3) := by decide +kernel
theorem dX9_lastBytes_12 : decode cX9_lastBytes 12 = .ok (.aload_n 0, 1) := by decide +kernel
theorem dX9_lastBytes_13 : decode cX9_lastBytes 13 = .ok (.getfield 108, 3) := by decide +kernel
theorem dX9_lastBytes_16 : decode cX9_lastBytes 16 = .ok (.ifCond .ne 50, 3) := by decide +kernel
theorem dX9_lastBytes_19 : decode cX9_lastBytes 19 = .ok (.aload_n 0, 1) := by decide +kernel
theorem dX9_lastBytes_20 : decode cX9_lastBytes 20 = .ok (.aload_n 0, 1) := by decide +kernel
theorem dX9_lastBytes_21 : decode cX9_lastBytes 21 = .ok (.getfield 76, 3) := by decide +kernel
theorem dX9_lastBytes_24 : decode cX9_lastBytes 24 = .ok (.iload_n 2, 1) := by decide +kernel
theorem dX9_lastBytes_25 : decode cX9_lastBytes 25 = .ok (.invokevirtual 146, 3) := by decide +kernel
theorem dX9_lastBytes_28 : decode cX9_lastBytes 28 = .ok (.bipush 31, 2) := by decide +kernel
theorem dX9_lastBytes_30 : decode cX9_lastBytes 30 = .ok (.iadd, 1) := by decide +kernel
theorem dX9_lastBytes_31 : decode cX9_lastBytes 31 = .ok (.istore_n 3, 1) := by decide +kernel
theorem dX9_lastBytes_32 : decode cX9_lastBytes 32 = .ok (.aload_n 0, 1) := by decide +kernel
theorem dX9_lastBytes_33 : decode cX9_lastBytes 33 = .ok (.iload_n 3, 1) := by decide +kernel
theorem dX9_lastBytes_34 : decode cX9_lastBytes 34 = .ok (.invokevirtual 96, 3) := by decide +kernel
theorem dX9_lastBytes_37 : decode cX9_lastBytes 37 = .ok (.sipush 165, 3) := by decide +kernel
theorem dX9_lastBytes_40 : decode cX9_lastBytes 40 = .ok (.if_icmp .eq 20, 3) := by decide +kernel
theorem dX9_lastBytes_43 : decode cX9_lastBytes 43 = .ok (.aload_n 0, 1) := by decide +kernel
theorem dX9_lastBytes_44 : decode cX9_lastBytes 44 = .ok (.iload_n 2, 1) := by decide +kernel
theorem dX9_lastBytes_45 : decode cX9_lastBytes 45 = .ok (.invokevirtual 160, 3) := by decide +kernel
theorem dX9_lastBytes_48 : decode cX9_lastBytes 48 = .ok (.iconst 1, 1) := by decide +kernel
theorem dX9_lastBytes_49 : decode cX9_lastBytes 49 = .ok (.if_icmp .ne 11, 3) := by decide +kernel
theorem dX9_lastBytes_52 : decode cX9_lastBytes 52 = .ok (.aload_n 0, 1) := by decide +kernel
theorem dX9_lastBytes_53 : decode cX9_lastBytes 53 = .ok (.iload_n 3, 1) := by decide +kernel
theorem dX9_lastBytes_54 : decode cX9_lastBytes 54 = .ok (.sipush 165, 3) := by decide +kernel
theorem dX9_lastBytes_57 : decode cX9_lastBytes 57 = .ok (.invokevirtual 128, 3) := by decide +kernel
theorem dX9_lastBytes_60 : decode cX9_lastBytes 60 = .ok (.iinc 2 1, 3) := by decide +kernel
theorem dX9_lastBytes_63 : decode cX9_lastBytes 63 = .ok (.goto (-56), 3) := by decide +kernel
theorem dX9_lastBytes_66 : decode cX9_lastBytes 66 = .ok (.iconst 0, 1) := by decide +kernel
theorem dX9_lastBytes_67 : decode cX9_lastBytes 67 = .ok (.istore_n 2, 1) := by decide +kernel
theorem dX9_lastBytes_68 : decode cX9_lastBytes 68 = .ok (.iload_n 2, 1) := by decide +kernel
theorem dX9_lastBytes_69 : decode cX9_lastBytes 69 = .ok (.aload_n 0, 1) := by decide +kernel
theorem dX9_lastBytes_70 : decode cX9_lastBytes 70 = .ok (.getfield 62, 3) := by decide +kernel
theorem dX9_lastBytes_73 : decode cX9_lastBytes 73 = .ok (.if_icmp .ge 53, 3) := by decide +kernel
theorem dX9_lastBytes_76 : decode cX9_lastBytes 76 = .ok (.aload_n 0, 1) := by decide +kernel
theorem dX9_lastBytes_77 : decode cX9_lastBytes 77 = .ok (.getfield 108, 3) := by decide +kernel
theorem dX9_lastBytes_80 : decode cX9_lastBytes 80 = .ok (.ifCond .ne 46, 3) := by decide +kernel
theorem dX9_lastBytes_83 : decode cX9_lastBytes 83 = .ok (.aload_n 0, 1) := by decide +kernel
theorem dX9_lastBytes_84 : decode cX9_lastBytes 84 = .ok (.iload_n 2, 1) := by decide +kernel
theorem dX9_lastBytes_85 : decode cX9_lastBytes 85 = .ok (.invokevirtual 154, 3) := by decide +kernel
theorem dX9_lastBytes_88 : decode cX9_lastBytes 88 = .ok (.bipush 25, 2) := by decide +kernel
theorem dX9_lastBytes_90 : decode cX9_lastBytes 90 = .ok (.iadd, 1) := by decide +kernel
theorem dX9_lastBytes_91 : decode cX9_lastBytes 91 = .ok (.istore_n 3, 1) := by decide +kernel
theorem dX9_lastBytes_92 : decode cX9_lastBytes 92 = .ok (.aload_n 0, 1) := by decide +kernel
theorem dX9_lastBytes_93 : decode cX9_lastBytes 93 = .ok (.iload_n 3, 1) := by decide +kernel
theorem dX9_lastBytes_94 : decode cX9_lastBytes 94 = .ok (.invokevirtual 96, 3) := by decide +kernel
theorem dX9_lastBytes_97 : decode cX9_lastBytes 97 = .ok (.sipush 165, 3) := by decide +kernel
theorem dX9_lastBytes_100 : decode cX9_lastBytes 100 = .ok (.if_icmp .eq 20, 3) := by decide +kernel
theorem dX9_lastBytes_103 : decode cX9_lastBytes 103 = .ok (.aload_n 0, 1) := by decide +kernel
theorem dX9_lastBytes_104 : decode cX9_lastBytes 104 = .ok (.iload_n 2, 1) := by decide +kernel
theorem dX9_lastBytes_105 : decode cX9_lastBytes 105 = .ok (.invokevirtual 238, 3) := by decide +kernel
theorem dX9_lastBytes_108 : decode cX9_lastBytes 108 = .ok (.iconst 1, 1) := by decide +kernel
theorem dX9_lastBytes_109 : decode cX9_lastBytes 109 = .ok (.if_icmp .ne 11, 3) := by decide +kernel
theorem dX9_lastBytes_112 : decode cX9_lastBytes 112 = .ok (.aload_n 0, 1) := by decide +kernel
theorem dX9_lastBytes_113 : decode cX9_lastBytes 113 = .ok (.iload_n 3, 1) := by decide +kernel
theorem dX9_lastBytes_114 : decode cX9_lastBytes 114 = .ok (.sipush 165, 3) := by decide +kernel
theorem dX9_lastBytes_117 : decode cX9_lastBytes 117 = .ok (.invokevirtual 128, 3) := by decide +kernel
theorem dX9_lastBytes_120 : decode cX9_lastBytes 120 = .ok (.iinc 2 1, 3) := by decide +kernel
theorem dX9_lastBytes_123 : decode cX9_lastBytes 123 = .ok (.goto (-55), 3) := by decide +kernel
theorem dX9_lastBytes_126 : decode cX9_lastBytes 126 = .ok (.return_, 1) := by decide +kernel
theorem dX9_badPages_0 : decode cX9_badPages 0 = .ok (.iconst 0, 1) := by decide +kernel
theorem dX9_badPages_1 : decode cX9_badPages 1 = .ok (.istore_n 1, 1) := by decide +kernel
theorem dX9_badPages_2 : decode cX9_badPages 2 = .ok (.iconst 0, 1) := by decide +kernel
theorem dX9_badPages_3 : decode cX9_badPages 3 = .ok (.istore_n 2, 1) := by decide +kernel
theorem dX9_badPages_4 : decode cX9_badPages 4 = .ok (.iload_n 2, 1) := by decide +kernel
theorem dX9_badPages_5 : decode cX9_badPages 5 = .ok (.aload_n 0, 1) := by decide +kernel
theorem dX9_badPages_6 : decode cX9_badPages 6 = .ok (.getfield 62, 3) := by decide +kernel
theorem dX9_badPages_9 : decode cX9_badPages 9 = .ok (.if_icmp .ge 26, 3) := by decide +kernel
theorem dX9_badPages_12 : decode cX9_badPages 12 = .ok (.iload_n 1, 1) := by decide +kernel
theorem dX9_badPages_13 : decode cX9_badPages 13 = .ok (.aload_n 0, 1) := by decide +kernel
theorem dX9_badPages_14 : decode cX9_badPages 14 = .ok (.iload_n 2, 1) := by decide +kernel
theorem dX9_badPages_15 : decode cX9_badPages 15 = .ok (.invokevirtual 238, 3) := by decide +kernel
theorem dX9_badPages_18 : decode cX9_badPages 18 = .ok (.iconst 3, 1) := by decide +kernel
theorem dX9_badPages_19 : decode cX9_badPages 19 = .ok (.if_icmp .ne 7, 3) := by decide +kernel
theorem dX9_badPages_22 : decode cX9_badPages 22 = .ok (.iconst 1, 1) := by decide +kernel
theorem dX9_badPages_23 : decode cX9_badPages 23 = .ok (.goto 4, 3) := by decide +kernel
theorem dX9_badPages_26 : decode cX9_badPages 26 = .ok (.iconst 0, 1) := by decide +kernel
theorem dX9_badPages_27 : decode cX9_badPages 27 = .ok (.iadd, 1) := by decide +kernel
theorem dX9_badPages_28 : decode cX9_badPages 28 = .ok (.istore_n 1, 1) := by decide +kernel
theorem dX9_badPages_29 : decode cX9_badPages 29 = .ok (.iinc 2 1, 3) := by decide +kernel
theorem dX9_badPages_32 : decode cX9_badPages 32 = .ok (.goto (-28), 3) := by decide +kernel
theorem dX9_badPages_35 : decode cX9_badPages 35 = .ok (.iload_n 1, 1) := by decide +kernel
theorem dX9_badPages_36 : decode cX9_badPages 36 = .ok (.ireturn, 1) := by decide +kernel
theorem dX9_asked_0 : decode cX9_asked 0 = .ok (.aload_n 0, 1) := by decide +kernel
theorem dX9_asked_1 : decode cX9_asked 1 = .ok (.aload_n 0, 1) := by decide +kernel
theorem dX9_asked_2 : decode cX9_asked 2 = .ok (.getfield 72, 3) := by decide +kernel
theorem dX9_asked_5 : decode cX9_asked 5 = .ok (.ifCond .eq 7, 3) := by decide +kernel
theorem dX9_asked_8 : decode cX9_asked 8 = .ok (.iconst 0, 1) := by decide +kernel
theorem dX9_asked_9 : decode cX9_asked 9 = .ok (.goto 4, 3) := by decide +kernel
theorem dX9_asked_12 : decode cX9_asked 12 = .ok (.iconst 1, 1) := by decide +kernel
theorem dX9_asked_13 : decode cX9_asked 13 = .ok (.putfield 91, 3) := by decide +kernel
theorem dX9_asked_16 : decode cX9_asked 16 = .ok (.aload_n 0, 1) := by decide +kernel
theorem dX9_asked_17 : decode cX9_asked 17 = .ok (.getfield 72, 3) := by decide +kernel
theorem dX9_asked_20 : decode cX9_asked 20 = .ok (.ifCond .eq 7, 3) := by decide +kernel
theorem dX9_asked_23 : decode cX9_asked 23 = .ok (.iload_n 1, 1) := by decide +kernel
theorem dX9_asked_24 : decode cX9_asked 24 = .ok (.ifCond .ge 5, 3) := by decide +kernel
theorem dX9_asked_27 : decode cX9_asked 27 = .ok (.iconst (-1), 1) := by decide +kernel
theorem dX9_asked_28 : decode cX9_asked 28 = .ok (.ireturn, 1) := by decide +kernel
theorem dX9_asked_29 : decode cX9_asked 29 = .ok (.iload_n 1, 1) := by decide +kernel
theorem dX9_asked_30 : decode cX9_asked 30 = .ok (.istore_n 2, 1) := by decide +kernel
theorem dX9_asked_31 : decode cX9_asked 31 = .ok (.aload_n 0, 1) := by decide +kernel
theorem dX9_asked_32 : decode cX9_asked 32 = .ok (.invokevirtual 163, 3) := by decide +kernel
theorem dX9_asked_35 : decode cX9_asked 35 = .ok (.istore_n 3, 1) := by decide +kernel
theorem dX9_asked_36 : decode cX9_asked 36 = .ok (.iconst 0, 1) := by decide +kernel
theorem dX9_asked_37 : decode cX9_asked 37 = .ok (.istore 4, 2) := by decide +kernel
theorem dX9_asked_39 : decode cX9_asked 39 = .ok (.iload 4, 2) := by decide +kernel
theorem dX9_asked_41 : decode cX9_asked 41 = .ok (.iload_n 3, 1) := by decide +kernel
theorem dX9_asked_42 : decode cX9_asked 42 = .ok (.if_icmp .ge 29, 3) := by decide +kernel
theorem dX9_asked_45 : decode cX9_asked 45 = .ok (.aload_n 0, 1) := by decide +kernel
theorem dX9_asked_46 : decode cX9_asked 46 = .ok (.iload 4, 2) := by decide +kernel
theorem dX9_asked_48 : decode cX9_asked 48 = .ok (.invokevirtual 160, 3) := by decide +kernel
theorem dX9_asked_51 : decode cX9_asked 51 = .ok (.iconst 3, 1) := by decide +kernel
theorem dX9_asked_52 : decode cX9_asked 52 = .ok (.if_icmp .ne 13, 3) := by decide +kernel
theorem dX9_asked_55 : decode cX9_asked 55 = .ok (.iload_n 2, 1) := by decide +kernel
theorem dX9_asked_56 : decode cX9_asked 56 = .ok (.ifCond .ne 6, 3) := by decide +kernel
theorem dX9_asked_59 : decode cX9_asked 59 = .ok (.iload 4, 2) := by decide +kernel
theorem dX9_asked_61 : decode cX9_asked 61 = .ok (.ireturn, 1) := by decide +kernel
theorem dX9_asked_62 : decode cX9_asked 62 = .ok (.iinc 2 (-1), 3) := by decide +kernel
theorem dX9_asked_65 : decode cX9_asked 65 = .ok (.iinc 4 1, 3) := by decide +kernel
theorem dX9_asked_68 : decode cX9_asked 68 = .ok (.goto (-29), 3) := by decide +kernel
theorem dX9_asked_71 : decode cX9_asked 71 = .ok (.iconst 0, 1) := by decide +kernel
theorem dX9_asked_72 : decode cX9_asked 72 = .ok (.istore 4, 2) := by decide +kernel
theorem dX9_asked_74 : decode cX9_asked 74 = .ok (.iload 4, 2) := by decide +kernel
theorem dX9_asked_76 : decode cX9_asked 76 = .ok (.aload_n 0, 1) := by decide +kernel
theorem dX9_asked_77 : decode cX9_asked 77 = .ok (.getfield 62, 3) := by decide +kernel
theorem dX9_asked_80 : decode cX9_asked 80 = .ok (.if_icmp .ge 33, 3) := by decide +kernel
theorem dX9_asked_83 : decode cX9_asked 83 = .ok (.aload_n 0, 1) := by decide +kernel
theorem dX9_asked_84 : decode cX9_asked 84 = .ok (.iload 4, 2) := by decide +kernel
theorem dX9_asked_86 : decode cX9_asked 86 = .ok (.invokevirtual 238, 3) := by decide +kernel
theorem dX9_asked_89 : decode cX9_asked 89 = .ok (.iconst 3, 1) := by decide +kernel
theorem dX9_asked_90 : decode cX9_asked 90 = .ok (.if_icmp .ne 17, 3) := by decide +kernel
theorem dX9_asked_93 : decode cX9_asked 93 = .ok (.iload_n 2, 1) := by decide +kernel
theorem dX9_asked_94 : decode cX9_asked 94 = .ok (.ifCond .ne 10, 3) := by decide +kernel
theorem dX9_asked_97 : decode cX9_asked 97 = .ok (.sipush 128, 3) := by decide +kernel
theorem dX9_asked_100 : decode cX9_asked 100 = .ok (.iload 4, 2) := by decide +kernel
theorem dX9_asked_102 : decode cX9_asked 102 = .ok (.iadd, 1) := by decide +kernel
theorem dX9_asked_103 : decode cX9_asked 103 = .ok (.ireturn, 1) := by decide +kernel
theorem dX9_asked_104 : decode cX9_asked 104 = .ok (.iinc 2 (-1), 3) := by decide +kernel
theorem dX9_asked_107 : decode cX9_asked 107 = .ok (.iinc 4 1, 3) := by decide +kernel
theorem dX9_asked_110 : decode cX9_asked 110 = .ok (.goto (-36), 3) := by decide +kernel
theorem dX9_asked_113 : decode cX9_asked 113 = .ok (.iconst (-1), 1) := by decide +kernel
theorem dX9_asked_114 : decode cX9_asked 114 = .ok (.ireturn, 1) := by decide +kernel
theorem dX9_isAsked_0 : decode cX9_isAsked 0 = .ok (.iload_n 1, 1) := by decide +kernel
theorem dX9_isAsked_1 : decode cX9_isAsked 1 = .ok (.ifCond .lt 15, 3) := by decide +kernel
theorem dX9_isAsked_4 : decode cX9_isAsked 4 = .ok (.iload_n 1, 1) := by decide +kernel
theorem dX9_isAsked_5 : decode cX9_isAsked 5 = .ok (.sipush 128, 3) := by decide +kernel
theorem dX9_isAsked_8 : decode cX9_isAsked 8 = .ok (.aload_n 0, 1) := by decide +kernel
theorem dX9_isAsked_9 : decode cX9_isAsked 9 = .ok (.getfield 62, 3) := by decide +kernel
theorem dX9_isAsked_12 : decode cX9_isAsked 12 = .ok (.iadd, 1) := by decide +kernel
theorem dX9_isAsked_13 : decode cX9_isAsked 13 = .ok (.if_icmp .lt 5, 3) := by decide +kernel
theorem dX9_isAsked_16 : decode cX9_isAsked 16 = .ok (.iconst 0, 1) := by decide +kernel
theorem dX9_isAsked_17 : decode cX9_isAsked 17 = .ok (.ireturn, 1) := by decide +kernel
theorem dX9_isAsked_18 : decode cX9_isAsked 18 = .ok (.iload_n 1, 1) := by decide +kernel
theorem dX9_isAsked_19 : decode cX9_isAsked 19 = .ok (.sipush 128, 3) := by decide +kernel
theorem dX9_isAsked_22 : decode cX9_isAsked 22 = .ok (.if_icmp .ge 28, 3) := by decide +kernel
theorem dX9_isAsked_25 : decode cX9_isAsked 25 = .ok (.iload_n 1, 1) := by decide +kernel
theorem dX9_isAsked_26 : decode cX9_isAsked 26 = .ok (.aload_n 0, 1) := by decide +kernel
theorem dX9_isAsked_27 : decode cX9_isAsked 27 = .ok (.invokevirtual 163, 3) := by decide +kernel
theorem dX9_isAsked_30 : decode cX9_isAsked 30 = .ok (.if_icmp .ge 16, 3) := by decide +kernel
theorem dX9_isAsked_33 : decode cX9_isAsked 33 = .ok (.aload_n 0, 1) := by decide +kernel
theorem dX9_isAsked_34 : decode cX9_isAsked 34 = .ok (.iload_n 1, 1) := by decide +kernel
theorem dX9_isAsked_35 : decode cX9_isAsked 35 = .ok (.invokevirtual 160, 3) := by decide +kernel
theorem dX9_isAsked_38 : decode cX9_isAsked 38 = .ok (.iconst 3, 1) := by decide +kernel
theorem dX9_isAsked_39 : decode cX9_isAsked 39 = .ok (.if_icmp .ne 7, 3) := by decide +kernel
theorem dX9_isAsked_42 : decode cX9_isAsked 42 = .ok (.iconst 1, 1) := by decide +kernel
theorem dX9_isAsked_43 : decode cX9_isAsked 43 = .ok (.goto 25, 3) := by decide +kernel
theorem dX9_isAsked_46 : decode cX9_isAsked 46 = .ok (.iconst 0, 1) := by decide +kernel
theorem dX9_isAsked_47 : decode cX9_isAsked 47 = .ok (.goto 21, 3) := by decide +kernel
theorem dX9_isAsked_50 : decode cX9_isAsked 50 = .ok (.aload_n 0, 1) := by decide +kernel
theorem dX9_isAsked_51 : decode cX9_isAsked 51 = .ok (.iload_n 1, 1) := by decide +kernel
theorem dX9_isAsked_52 : decode cX9_isAsked 52 = .ok (.sipush 128, 3) := by decide +kernel
theorem dX9_isAsked_55 : decode cX9_isAsked 55 = .ok (.isub, 1) := by decide +kernel
theorem dX9_isAsked_56 : decode cX9_isAsked 56 = .ok (.invokevirtual 238, 3) := by decide +kernel
theorem dX9_isAsked_59 : decode cX9_isAsked 59 = .ok (.iconst 3, 1) := by decide +kernel
theorem dX9_isAsked_60 : decode cX9_isAsked 60 = .ok (.if_icmp .ne 7, 3) := by decide +kernel
theorem dX9_isAsked_63 : decode cX9_isAsked 63 = .ok (.iconst 1, 1) := by decide +kernel
theorem dX9_isAsked_64 : decode cX9_isAsked 64 = .ok (.goto 4, 3) := by decide +kernel
theorem dX9_isAsked_67 : decode cX9_isAsked 67 = .ok (.iconst 0, 1) := by decide +kernel
theorem dX9_isAsked_68 : decode cX9_isAsked 68 = .ok (.ireturn, 1) := by decide +kernel
theorem dX9_layLeaf_0 : decode cX9_layLeaf 0 = .ok (.aload_n 0, 1) := by decide +kernel
theorem dX9_layLeaf_1 : decode cX9_layLeaf 1 = .ok (.getfield 24, 3) := by decide +kernel
theorem dX9_layLeaf_4 : decode cX9_layLeaf 4 = .ok (.iconst 0, 1) := by decide +kernel
theorem dX9_layLeaf_5 : decode cX9_layLeaf 5 = .ok (.aload_n 0, 1) := by decide +kernel
theorem dX9_layLeaf_6 : decode cX9_layLeaf 6 = .ok (.getfield 271, 3) := by decide +kernel
theorem dX9_layLeaf_9 : decode cX9_layLeaf 9 = .ok (.iastore, 1) := by decide +kernel
theorem dX9_layLeaf_10 : decode cX9_layLeaf 10 = .ok (.iconst 0, 1) := by decide +kernel
theorem dX9_layLeaf_11 : decode cX9_layLeaf 11 = .ok (.istore_n 1, 1) := by decide +kernel
theorem dX9_layLeaf_12 : decode cX9_layLeaf 12 = .ok (.iload_n 1, 1) := by decide +kernel
theorem dX9_layLeaf_13 : decode cX9_layLeaf 13 = .ok (.bipush 16, 2) := by decide +kernel
theorem dX9_layLeaf_15 : decode cX9_layLeaf 15 = .ok (.if_icmp .ge 35, 3) := by decide +kernel
theorem dX9_layLeaf_18 : decode cX9_layLeaf 18 = .ok (.aload_n 0, 1) := by decide +kernel
theorem dX9_layLeaf_19 : decode cX9_layLeaf 19 = .ok (.getfield 24, 3) := by decide +kernel
theorem dX9_layLeaf_22 : decode cX9_layLeaf 22 = .ok (.iconst 1, 1) := by decide +kernel
theorem dX9_layLeaf_23 : decode cX9_layLeaf 23 = .ok (.iload_n 1, 1) := by decide +kernel
theorem dX9_layLeaf_24 : decode cX9_layLeaf 24 = .ok (.iadd, 1) := by decide +kernel
theorem dX9_layLeaf_25 : decode cX9_layLeaf 25 = .ok (.iload_n 1, 1) := by decide +kernel
theorem dX9_layLeaf_26 : decode cX9_layLeaf 26 = .ok (.aload_n 0, 1) := by decide +kernel
theorem dX9_layLeaf_27 : decode cX9_layLeaf 27 = .ok (.getfield 271, 3) := by decide +kernel
theorem dX9_layLeaf_30 : decode cX9_layLeaf 30 = .ok (.if_icmp .ge 12, 3) := by decide +kernel
theorem dX9_layLeaf_33 : decode cX9_layLeaf 33 = .ok (.aload_n 0, 1) := by decide +kernel
theorem dX9_layLeaf_34 : decode cX9_layLeaf 34 = .ok (.getfield 14, 3) := by decide +kernel
theorem dX9_layLeaf_37 : decode cX9_layLeaf 37 = .ok (.iload_n 1, 1) := by decide +kernel
theorem dX9_layLeaf_38 : decode cX9_layLeaf 38 = .ok (.iaload, 1) := by decide +kernel
theorem dX9_layLeaf_39 : decode cX9_layLeaf 39 = .ok (.goto 4, 3) := by decide +kernel
theorem dX9_layLeaf_42 : decode cX9_layLeaf 42 = .ok (.iconst 0, 1) := by decide +kernel
theorem dX9_layLeaf_43 : decode cX9_layLeaf 43 = .ok (.iastore, 1) := by decide +kernel
theorem dX9_layLeaf_44 : decode cX9_layLeaf 44 = .ok (.iinc 1 1, 3) := by decide +kernel
theorem dX9_layLeaf_47 : decode cX9_layLeaf 47 = .ok (.goto (-35), 3) := by decide +kernel
theorem dX9_layLeaf_50 : decode cX9_layLeaf 50 = .ok (.aload_n 0, 1) := by decide +kernel
theorem dX9_layLeaf_51 : decode cX9_layLeaf 51 = .ok (.bipush 17, 2) := by decide +kernel
theorem dX9_layLeaf_53 : decode cX9_layLeaf 53 = .ok (.aload_n 0, 1) := by decide +kernel
theorem dX9_layLeaf_54 : decode cX9_layLeaf 54 = .ok (.iconst 3, 1) := by decide +kernel
theorem dX9_layLeaf_55 : decode cX9_layLeaf 55 = .ok (.bipush 17, 2) := by decide +kernel
theorem dX9_layLeaf_57 : decode cX9_layLeaf 57 = .ok (.invokevirtual 124, 3) := by decide +kernel
theorem dX9_layLeaf_60 : decode cX9_layLeaf 60 = .ok (.bipush 8, 2) := by decide +kernel
theorem dX9_layLeaf_62 : decode cX9_layLeaf 62 = .ok (.invokevirtual 121, 3) := by decide +kernel
theorem dX9_layLeaf_65 : decode cX9_layLeaf 65 = .ok (.aload_n 0, 1) := by decide +kernel
theorem dX9_layLeaf_66 : decode cX9_layLeaf 66 = .ok (.getfield 24, 3) := by decide +kernel
theorem dX9_layLeaf_69 : decode cX9_layLeaf 69 = .ok (.bipush 25, 2) := by decide +kernel
theorem dX9_layLeaf_71 : decode cX9_layLeaf 71 = .ok (.sipush 165, 3) := by decide +kernel
theorem dX9_layLeaf_74 : decode cX9_layLeaf 74 = .ok (.iastore, 1) := by decide +kernel
theorem dX9_layLeaf_75 : decode cX9_layLeaf 75 = .ok (.return_, 1) := by decide +kernel
theorem dX9_feed_0 : decode cX9_feed 0 = .ok (.aload_n 0, 1) := by decide +kernel
theorem dX9_feed_1 : decode cX9_feed 1 = .ok (.iload_n 3, 1) := by decide +kernel
theorem dX9_feed_2 : decode cX9_feed 2 = .ok (.iconst 1, 1) := by decide +kernel
theorem dX9_feed_3 : decode cX9_feed 3 = .ok (.bipush 8, 2) := by decide +kernel
theorem dX9_feed_5 : decode cX9_feed 5 = .ok (.invokestatic 138, 3) := by decide +kernel
theorem dX9_feed_8 : decode cX9_feed 8 = .ok (.ifCond .eq 15, 3) := by decide +kernel
theorem dX9_feed_11 : decode cX9_feed 11 = .ok (.aload_n 0, 1) := by decide +kernel
theorem dX9_feed_12 : decode cX9_feed 12 = .ok (.getfield 271, 3) := by decide +kernel
theorem dX9_feed_15 : decode cX9_feed 15 = .ok (.iload_n 3, 1) := by decide +kernel
theorem dX9_feed_16 : decode cX9_feed 16 = .ok (.iadd, 1) := by decide +kernel
theorem dX9_feed_17 : decode cX9_feed 17 = .ok (.sipush 400, 3) := by decide +kernel
theorem dX9_feed_20 : decode cX9_feed 20 = .ok (.if_icmp .le 7, 3) := by decide +kernel
theorem dX9_feed_23 : decode cX9_feed 23 = .ok (.iconst 1, 1) := by decide +kernel
theorem dX9_feed_24 : decode cX9_feed 24 = .ok (.goto 4, 3) := by decide +kernel
theorem dX9_feed_27 : decode cX9_feed 27 = .ok (.iconst 0, 1) := by decide +kernel
theorem dX9_feed_28 : decode cX9_feed 28 = .ok (.putfield 91, 3) := by decide +kernel
theorem dX9_feed_31 : decode cX9_feed 31 = .ok (.aload_n 0, 1) := by decide +kernel
theorem dX9_feed_32 : decode cX9_feed 32 = .ok (.getfield 91, 3) := by decide +kernel
theorem dX9_feed_35 : decode cX9_feed 35 = .ok (.ifCond .le 5, 3) := by decide +kernel
theorem dX9_feed_38 : decode cX9_feed 38 = .ok (.iconst 0, 1) := by decide +kernel
theorem dX9_feed_39 : decode cX9_feed 39 = .ok (.ireturn, 1) := by decide +kernel
theorem dX9_feed_40 : decode cX9_feed 40 = .ok (.iload_n 3, 1) := by decide +kernel
theorem dX9_feed_41 : decode cX9_feed 41 = .ok (.iconst 1, 1) := by decide +kernel
theorem dX9_feed_42 : decode cX9_feed 42 = .ok (.isub, 1) := by decide +kernel
theorem dX9_feed_43 : decode cX9_feed 43 = .ok (.istore 4, 2) := by decide +kernel
theorem dX9_feed_45 : decode cX9_feed 45 = .ok (.iload 4, 2) := by decide +kernel
theorem dX9_feed_47 : decode cX9_feed 47 = .ok (.ifCond .lt 37, 3) := by decide +kernel
theorem dX9_feed_50 : decode cX9_feed 50 = .ok (.aload_n 0, 1) := by decide +kernel
theorem dX9_feed_51 : decode cX9_feed 51 = .ok (.getfield 14, 3) := by decide +kernel
theorem dX9_feed_54 : decode cX9_feed 54 = .ok (.aload_n 0, 1) := by decide +kernel
theorem dX9_feed_55 : decode cX9_feed 55 = .ok (.dup, 1) := by decide +kernel
theorem dX9_feed_56 : decode cX9_feed 56 = .ok (.getfield 271, 3) := by decide +kernel
theorem dX9_feed_59 : decode cX9_feed 59 = .ok (.dup_x1, 1) := by decide +kernel
theorem dX9_feed_60 : decode cX9_feed 60 = .ok (.iconst 1, 1) := by decide +kernel
theorem dX9_feed_61 : decode cX9_feed 61 = .ok (.iadd, 1) := by decide +kernel
theorem dX9_feed_62 : decode cX9_feed 62 = .ok (.putfield 271, 3) := by decide +kernel
theorem dX9_feed_65 : decode cX9_feed 65 = .ok (.lload_n 1, 1) := by decide +kernel
theorem dX9_feed_66 : decode cX9_feed 66 = .ok (.bipush 8, 2) := by decide +kernel
theorem dX9_feed_68 : decode cX9_feed 68 = .ok (.iload 4, 2) := by decide +kernel
theorem dX9_feed_70 : decode cX9_feed 70 = .ok (.imul, 1) := by decide +kernel
