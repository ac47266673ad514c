theorem dX1_read_0 : decode cX1_read 0 = .ok (.iload_n 1, 1) := by decide +kernel
theorem dX1_read_1 : decode cX1_read 1 = .ok (.sipush 8224, 3) := by decide +kernel
theorem dX1_read_4 : decode cX1_read 4 = .ok (.if_icmp .ge 14, 3) := by decide +kernel
theorem dX1_read_7 : decode cX1_read 7 = .ok (.aload_n 0, 1) := by decide +kernel
theorem dX1_read_8 : decode cX1_read 8 = .ok (.getfield 15, 3) := by decide +kernel
theorem dX1_read_11 : decode cX1_read 11 = .ok (.iload_n 1, 1) := by decide +kernel
theorem dX1_read_12 : decode cX1_read 12 = .ok (.baload, 1) := by decide +kernel
theorem dX1_read_13 : decode cX1_read 13 = .ok (.sipush 255, 3) := by decide +kernel
theorem dX1_read_16 : decode cX1_read 16 = .ok (.iand, 1) := by decide +kernel
theorem dX1_read_17 : decode cX1_read 17 = .ok (.ireturn, 1) := by decide +kernel
theorem dX1_read_18 : decode cX1_read 18 = .ok (.aload_n 0, 1) := by decide +kernel
theorem dX1_read_19 : decode cX1_read 19 = .ok (.iload_n 1, 1) := by decide +kernel
theorem dX1_read_20 : decode cX1_read 20 = .ok (.sipush 8224, 3) := by decide +kernel
theorem dX1_read_23 : decode cX1_read 23 = .ok (.isub, 1) := by decide +kernel
theorem dX1_read_24 : decode cX1_read 24 = .ok (.bipush 26, 2) := by decide +kernel
theorem dX1_read_26 : decode cX1_read 26 = .ok (.idiv, 1) := by decide +kernel
theorem dX1_read_27 : decode cX1_read 27 = .ok (.invokevirtual 39, 3) := by decide +kernel
theorem dX1_read_30 : decode cX1_read 30 = .ok (.astore_n 2, 1) := by decide +kernel
theorem dX1_read_31 : decode cX1_read 31 = .ok (.aload_n 2, 1) := by decide +kernel
theorem dX1_read_32 : decode cX1_read 32 = .ok (.ifnonnull 7, 3) := by decide +kernel
theorem dX1_read_35 : decode cX1_read 35 = .ok (.iconst 0, 1) := by decide +kernel
theorem dX1_read_36 : decode cX1_read 36 = .ok (.goto 20, 3) := by decide +kernel
theorem dX1_read_39 : decode cX1_read 39 = .ok (.aload_n 2, 1) := by decide +kernel
theorem dX1_read_40 : decode cX1_read 40 = .ok (.getfield 43, 3) := by decide +kernel
theorem dX1_read_43 : decode cX1_read 43 = .ok (.iload_n 1, 1) := by decide +kernel
theorem dX1_read_44 : decode cX1_read 44 = .ok (.sipush 8224, 3) := by decide +kernel
theorem dX1_read_47 : decode cX1_read 47 = .ok (.isub, 1) := by decide +kernel
theorem dX1_read_48 : decode cX1_read 48 = .ok (.bipush 26, 2) := by decide +kernel
theorem dX1_read_50 : decode cX1_read 50 = .ok (.irem, 1) := by decide +kernel
theorem dX1_read_51 : decode cX1_read 51 = .ok (.baload, 1) := by decide +kernel
theorem dX1_read_52 : decode cX1_read 52 = .ok (.sipush 255, 3) := by decide +kernel
theorem dX1_read_55 : decode cX1_read 55 = .ok (.iand, 1) := by decide +kernel
theorem dX1_read_56 : decode cX1_read 56 = .ok (.ireturn, 1) := by decide +kernel
theorem dX1_erasePage_0 : decode cX1_erasePage 0 = .ok (.aload_n 0, 1) := by decide +kernel
theorem dX1_erasePage_1 : decode cX1_erasePage 1 = .ok (.invokevirtual 58, 3) := by decide +kernel
theorem dX1_erasePage_4 : decode cX1_erasePage 4 = .ok (.ifCond .ne 5, 3) := by decide +kernel
theorem dX1_erasePage_7 : decode cX1_erasePage 7 = .ok (.iconst 0, 1) := by decide +kernel
theorem dX1_erasePage_8 : decode cX1_erasePage 8 = .ok (.ireturn, 1) := by decide +kernel
theorem dX1_erasePage_9 : decode cX1_erasePage 9 = .ok (.iconst 0, 1) := by decide +kernel
theorem dX1_erasePage_10 : decode cX1_erasePage 10 = .ok (.istore_n 2, 1) := by decide +kernel
theorem dX1_erasePage_11 : decode cX1_erasePage 11 = .ok (.iload_n 2, 1) := by decide +kernel
theorem dX1_erasePage_12 : decode cX1_erasePage 12 = .ok (.bipush 26, 2) := by decide +kernel
theorem dX1_erasePage_14 : decode cX1_erasePage 14 = .ok (.if_icmp .ge 16, 3) := by decide +kernel
theorem dX1_erasePage_17 : decode cX1_erasePage 17 = .ok (.aload_n 1, 1) := by decide +kernel
theorem dX1_erasePage_18 : decode cX1_erasePage 18 = .ok (.getfield 43, 3) := by decide +kernel
theorem dX1_erasePage_21 : decode cX1_erasePage 21 = .ok (.iload_n 2, 1) := by decide +kernel
theorem dX1_erasePage_22 : decode cX1_erasePage 22 = .ok (.iconst 0, 1) := by decide +kernel
theorem dX1_erasePage_23 : decode cX1_erasePage 23 = .ok (.bastore, 1) := by decide +kernel
theorem dX1_erasePage_24 : decode cX1_erasePage 24 = .ok (.iinc 2 1, 3) := by decide +kernel
theorem dX1_erasePage_27 : decode cX1_erasePage 27 = .ok (.goto (-16), 3) := by decide +kernel
theorem dX1_erasePage_30 : decode cX1_erasePage 30 = .ok (.aload_n 1, 1) := by decide +kernel
theorem dX1_erasePage_31 : decode cX1_erasePage 31 = .ok (.iconst 1, 1) := by decide +kernel
theorem dX1_erasePage_32 : decode cX1_erasePage 32 = .ok (.putfield 55, 3) := by decide +kernel
theorem dX1_erasePage_35 : decode cX1_erasePage 35 = .ok (.iconst 1, 1) := by decide +kernel
theorem dX1_erasePage_36 : decode cX1_erasePage 36 = .ok (.ireturn, 1) := by decide +kernel
theorem dX1_position_0 : decode cX1_position 0 = .ok (.iconst 0, 1) := by decide +kernel
theorem dX1_position_1 : decode cX1_position 1 = .ok (.istore_n 2, 1) := by decide +kernel
theorem dX1_position_2 : decode cX1_position 2 = .ok (.aload_n 0, 1) := by decide +kernel
theorem dX1_position_3 : decode cX1_position 3 = .ok (.getfield 25, 3) := by decide +kernel
theorem dX1_position_6 : decode cX1_position 6 = .ok (.invokevirtual 68, 3) := by decide +kernel
theorem dX1_position_9 : decode cX1_position 9 = .ok (.istore_n 3, 1) := by decide +kernel
theorem dX1_position_10 : decode cX1_position 10 = .ok (.iconst 0, 1) := by decide +kernel
theorem dX1_position_11 : decode cX1_position 11 = .ok (.istore 4, 2) := by decide +kernel
theorem dX1_position_13 : decode cX1_position 13 = .ok (.iload 4, 2) := by decide +kernel
theorem dX1_position_15 : decode cX1_position 15 = .ok (.bipush 32, 2) := by decide +kernel
theorem dX1_position_17 : decode cX1_position 17 = .ok (.if_icmp .ge 51, 3) := by decide +kernel
theorem dX1_position_20 : decode cX1_position 20 = .ok (.iload_n 2, 1) := by decide +kernel
theorem dX1_position_21 : decode cX1_position 21 = .ok (.iload_n 3, 1) := by decide +kernel
theorem dX1_position_22 : decode cX1_position 22 = .ok (.if_icmp .ge 46, 3) := by decide +kernel
theorem dX1_position_25 : decode cX1_position 25 = .ok (.iload_n 2, 1) := by decide +kernel
theorem dX1_position_26 : decode cX1_position 26 = .ok (.iload_n 3, 1) := by decide +kernel
theorem dX1_position_27 : decode cX1_position 27 = .ok (.iadd, 1) := by decide +kernel
theorem dX1_position_28 : decode cX1_position 28 = .ok (.iconst 1, 1) := by decide +kernel
theorem dX1_position_29 : decode cX1_position 29 = .ok (.iushr, 1) := by decide +kernel
theorem dX1_position_30 : decode cX1_position 30 = .ok (.istore 5, 2) := by decide +kernel
theorem dX1_position_32 : decode cX1_position 32 = .ok (.aload_n 0, 1) := by decide +kernel
theorem dX1_position_33 : decode cX1_position 33 = .ok (.getfield 25, 3) := by decide +kernel
theorem dX1_position_36 : decode cX1_position 36 = .ok (.iload 5, 2) := by decide +kernel
theorem dX1_position_38 : decode cX1_position 38 = .ok (.invokevirtual 72, 3) := by decide +kernel
theorem dX1_position_41 : decode cX1_position 41 = .ok (.checkcast 44, 3) := by decide +kernel
theorem dX1_position_44 : decode cX1_position 44 = .ok (.getfield 76, 3) := by decide +kernel
theorem dX1_position_47 : decode cX1_position 47 = .ok (.iload_n 1, 1) := by decide +kernel
theorem dX1_position_48 : decode cX1_position 48 = .ok (.if_icmp .ge 11, 3) := by decide +kernel
theorem dX1_position_51 : decode cX1_position 51 = .ok (.iload 5, 2) := by decide +kernel
theorem dX1_position_53 : decode cX1_position 53 = .ok (.iconst 1, 1) := by decide +kernel
theorem dX1_position_54 : decode cX1_position 54 = .ok (.iadd, 1) := by decide +kernel
theorem dX1_position_55 : decode cX1_position 55 = .ok (.istore_n 2, 1) := by decide +kernel
theorem dX1_position_56 : decode cX1_position 56 = .ok (.goto 6, 3) := by decide +kernel
theorem dX1_position_59 : decode cX1_position 59 = .ok (.iload 5, 2) := by decide +kernel
theorem dX1_position_61 : decode cX1_position 61 = .ok (.istore_n 3, 1) := by decide +kernel
theorem dX1_position_62 : decode cX1_position 62 = .ok (.iinc 4 1, 3) := by decide +kernel
theorem dX1_position_65 : decode cX1_position 65 = .ok (.goto (-52), 3) := by decide +kernel
theorem dX1_position_68 : decode cX1_position 68 = .ok (.iload_n 2, 1) := by decide +kernel
theorem dX1_position_69 : decode cX1_position 69 = .ok (.ireturn, 1) := by decide +kernel
theorem dX1_find_0 : decode cX1_find 0 = .ok (.aload_n 0, 1) := by decide +kernel
theorem dX1_find_1 : decode cX1_find 1 = .ok (.iload_n 1, 1) := by decide +kernel
theorem dX1_find_2 : decode cX1_find 2 = .ok (.invokevirtual 79, 3) := by decide +kernel
theorem dX1_find_5 : decode cX1_find 5 = .ok (.istore_n 2, 1) := by decide +kernel
theorem dX1_find_6 : decode cX1_find 6 = .ok (.iload_n 2, 1) := by decide +kernel
theorem dX1_find_7 : decode cX1_find 7 = .ok (.aload_n 0, 1) := by decide +kernel
theorem dX1_find_8 : decode cX1_find 8 = .ok (.getfield 25, 3) := by decide +kernel
theorem dX1_find_11 : decode cX1_find 11 = .ok (.invokevirtual 68, 3) := by decide +kernel
theorem dX1_find_14 : decode cX1_find 14 = .ok (.if_icmp .ge 35, 3) := by decide +kernel
theorem dX1_find_17 : decode cX1_find 17 = .ok (.aload_n 0, 1) := by decide +kernel
theorem dX1_find_18 : decode cX1_find 18 = .ok (.getfield 25, 3) := by decide +kernel
theorem dX1_find_21 : decode cX1_find 21 = .ok (.iload_n 2, 1) := by decide +kernel
theorem dX1_find_22 : decode cX1_find 22 = .ok (.invokevirtual 72, 3) := by decide +kernel
theorem dX1_find_25 : decode cX1_find 25 = .ok (.checkcast 44, 3) := by decide +kernel
theorem dX1_find_28 : decode cX1_find 28 = .ok (.getfield 76, 3) := by decide +kernel
theorem dX1_find_31 : decode cX1_find 31 = .ok (.iload_n 1, 1) := by decide +kernel
theorem dX1_find_32 : decode cX1_find 32 = .ok (.if_icmp .ne 17, 3) := by decide +kernel
theorem dX1_find_35 : decode cX1_find 35 = .ok (.aload_n 0, 1) := by decide +kernel
theorem dX1_find_36 : decode cX1_find 36 = .ok (.getfield 25, 3) := by decide +kernel
theorem dX1_find_39 : decode cX1_find 39 = .ok (.iload_n 2, 1) := by decide +kernel
theorem dX1_find_40 : decode cX1_find 40 = .ok (.invokevirtual 72, 3) := by decide +kernel
theorem dX1_find_43 : decode cX1_find 43 = .ok (.checkcast 44, 3) := by decide +kernel
theorem dX1_find_46 : decode cX1_find 46 = .ok (.goto 4, 3) := by decide +kernel
theorem dX1_find_49 : decode cX1_find 49 = .ok (.aconst_null, 1) := by decide +kernel
theorem dX1_find_50 : decode cX1_find 50 = .ok (.areturn, 1) := by decide +kernel
theorem dX1_rightPage_0 : decode cX1_rightPage 0 = .ok (.aload_n 0, 1) := by decide +kernel
theorem dX1_rightPage_1 : decode cX1_rightPage 1 = .ok (.iload_n 1, 1) := by decide +kernel
theorem dX1_rightPage_2 : decode cX1_rightPage 2 = .ok (.invokevirtual 39, 3) := by decide +kernel
theorem dX1_rightPage_5 : decode cX1_rightPage 5 = .ok (.astore_n 2, 1) := by decide +kernel
theorem dX1_rightPage_6 : decode cX1_rightPage 6 = .ok (.aload_n 2, 1) := by decide +kernel
theorem dX1_rightPage_7 : decode cX1_rightPage 7 = .ok (.ifnull 15, 3) := by decide +kernel
theorem dX1_rightPage_10 : decode cX1_rightPage 10 = .ok (.aload_n 2, 1) := by decide +kernel
theorem dX1_rightPage_11 : decode cX1_rightPage 11 = .ok (.invokevirtual 90, 3) := by decide +kernel
theorem dX1_rightPage_14 : decode cX1_rightPage 14 = .ok (.iconst 2, 1) := by decide +kernel
theorem dX1_rightPage_15 : decode cX1_rightPage 15 = .ok (.if_icmp .ne 7, 3) := by decide +kernel
theorem dX1_rightPage_18 : decode cX1_rightPage 18 = .ok (.aload_n 2, 1) := by decide +kernel
theorem dX1_rightPage_19 : decode cX1_rightPage 19 = .ok (.goto 4, 3) := by decide +kernel
theorem dX1_rightPage_22 : decode cX1_rightPage 22 = .ok (.aconst_null, 1) := by decide +kernel
theorem dX1_rightPage_23 : decode cX1_rightPage 23 = .ok (.areturn, 1) := by decide +kernel
theorem dX1_pageOf_0 : decode cX1_pageOf 0 = .ok (.iconst 0, 1) := by decide +kernel
theorem dX1_pageOf_1 : decode cX1_pageOf 1 = .ok (.istore_n 3, 1) := by decide +kernel
theorem dX1_pageOf_2 : decode cX1_pageOf 2 = .ok (.iload_n 3, 1) := by decide +kernel
theorem dX1_pageOf_3 : decode cX1_pageOf 3 = .ok (.aload_n 0, 1) := by decide +kernel
theorem dX1_pageOf_4 : decode cX1_pageOf 4 = .ok (.getfield 25, 3) := by decide +kernel
theorem dX1_pageOf_7 : decode cX1_pageOf 7 = .ok (.invokevirtual 68, 3) := by decide +kernel
theorem dX1_pageOf_10 : decode cX1_pageOf 10 = .ok (.if_icmp .ge 44, 3) := by decide +kernel
theorem dX1_pageOf_13 : decode cX1_pageOf 13 = .ok (.aload_n 0, 1) := by decide +kernel
theorem dX1_pageOf_14 : decode cX1_pageOf 14 = .ok (.getfield 25, 3) := by decide +kernel
theorem dX1_pageOf_17 : decode cX1_pageOf 17 = .ok (.iload_n 3, 1) := by decide +kernel
theorem dX1_pageOf_18 : decode cX1_pageOf 18 = .ok (.invokevirtual 72, 3) := by decide +kernel
theorem dX1_pageOf_21 : decode cX1_pageOf 21 = .ok (.checkcast 44, 3) := by decide +kernel
theorem dX1_pageOf_24 : decode cX1_pageOf 24 = .ok (.astore 4, 2) := by decide +kernel
theorem dX1_pageOf_26 : decode cX1_pageOf 26 = .ok (.aload 4, 2) := by decide +kernel
theorem dX1_pageOf_28 : decode cX1_pageOf 28 = .ok (.invokevirtual 90, 3) := by decide +kernel
theorem dX1_pageOf_31 : decode cX1_pageOf 31 = .ok (.iconst 2, 1) := by decide +kernel
theorem dX1_pageOf_32 : decode cX1_pageOf 32 = .ok (.if_icmp .ne 16, 3) := by decide +kernel
theorem dX1_pageOf_35 : decode cX1_pageOf 35 = .ok (.aload 4, 2) := by decide +kernel
theorem dX1_pageOf_37 : decode cX1_pageOf 37 = .ok (.invokevirtual 93, 3) := by decide +kernel
theorem dX1_pageOf_40 : decode cX1_pageOf 40 = .ok (.lload_n 1, 1) := by decide +kernel
theorem dX1_pageOf_41 : decode cX1_pageOf 41 = .ok (.lcmp, 1) := by decide +kernel
theorem dX1_pageOf_42 : decode cX1_pageOf 42 = .ok (.ifCond .ne 6, 3) := by decide +kernel
theorem dX1_pageOf_45 : decode cX1_pageOf 45 = .ok (.aload 4, 2) := by decide +kernel
theorem dX1_pageOf_47 : decode cX1_pageOf 47 = .ok (.areturn, 1) := by decide +kernel
theorem dX1_pageOf_48 : decode cX1_pageOf 48 = .ok (.iinc 3 1, 3) := by decide +kernel
theorem dX1_pageOf_51 : decode cX1_pageOf 51 = .ok (.goto (-49), 3) := by decide +kernel
theorem dX1_pageOf_54 : decode cX1_pageOf 54 = .ok (.aconst_null, 1) := by decide +kernel
theorem dX1_pageOf_55 : decode cX1_pageOf 55 = .ok (.areturn, 1) := by decide +kernel
theorem dX1_sameLeaf_0 : decode cX1_sameLeaf 0 = .ok (.iconst 0, 1) := by decide +kernel
theorem dX1_sameLeaf_1 : decode cX1_sameLeaf 1 = .ok (.istore_n 2, 1) := by decide +kernel
theorem dX1_sameLeaf_2 : decode cX1_sameLeaf 2 = .ok (.iload_n 2, 1) := by decide +kernel
theorem dX1_sameLeaf_3 : decode cX1_sameLeaf 3 = .ok (.aload_n 0, 1) := by decide +kernel
theorem dX1_sameLeaf_4 : decode cX1_sameLeaf 4 = .ok (.getfield 25, 3) := by decide +kernel
theorem dX1_sameLeaf_7 : decode cX1_sameLeaf 7 = .ok (.invokevirtual 68, 3) := by decide +kernel
theorem dX1_sameLeaf_10 : decode cX1_sameLeaf 10 = .ok (.if_icmp .ge 48, 3) := by decide +kernel
theorem dX1_sameLeaf_13 : decode cX1_sameLeaf 13 = .ok (.aload_n 0, 1) := by decide +kernel
theorem dX1_sameLeaf_14 : decode cX1_sameLeaf 14 = .ok (.getfield 25, 3) := by decide +kernel
theorem dX1_sameLeaf_17 : decode cX1_sameLeaf 17 = .ok (.iload_n 2, 1) := by decide +kernel
theorem dX1_sameLeaf_18 : decode cX1_sameLeaf 18 = .ok (.invokevirtual 72, 3) := by decide +kernel
theorem dX1_sameLeaf_21 : decode cX1_sameLeaf 21 = .ok (.checkcast 44, 3) := by decide +kernel
theorem dX1_sameLeaf_24 : decode cX1_sameLeaf 24 = .ok (.astore_n 3, 1) := by decide +kernel
theorem dX1_sameLeaf_25 : decode cX1_sameLeaf 25 = .ok (.aload_n 3, 1) := by decide +kernel
theorem dX1_sameLeaf_26 : decode cX1_sameLeaf 26 = .ok (.invokevirtual 90, 3) := by decide +kernel
theorem dX1_sameLeaf_29 : decode cX1_sameLeaf 29 = .ok (.iconst 2, 1) := by decide +kernel
theorem dX1_sameLeaf_30 : decode cX1_sameLeaf 30 = .ok (.if_icmp .ne 22, 3) := by decide +kernel
theorem dX1_sameLeaf_33 : decode cX1_sameLeaf 33 = .ok (.aload_n 1, 1) := by decide +kernel
theorem dX1_sameLeaf_34 : decode cX1_sameLeaf 34 = .ok (.aload_n 3, 1) := by decide +kernel
theorem dX1_sameLeaf_35 : decode cX1_sameLeaf 35 = .ok (.getfield 43, 3) := by decide +kernel
theorem dX1_sameLeaf_38 : decode cX1_sameLeaf 38 = .ok (.iconst 0, 1) := by decide +kernel
theorem dX1_sameLeaf_39 : decode cX1_sameLeaf 39 = .ok (.bipush 17, 2) := by decide +kernel
theorem dX1_sameLeaf_41 : decode cX1_sameLeaf 41 = .ok (.invokestatic 97, 3) := by decide +kernel
theorem dX1_sameLeaf_44 : decode cX1_sameLeaf 44 = .ok (.ifCond .eq 8, 3) := by decide +kernel
theorem dX1_sameLeaf_47 : decode cX1_sameLeaf 47 = .ok (.aload_n 3, 1) := by decide +kernel
theorem dX1_sameLeaf_48 : decode cX1_sameLeaf 48 = .ok (.getfield 76, 3) := by decide +kernel
theorem dX1_sameLeaf_51 : decode cX1_sameLeaf 51 = .ok (.ireturn, 1) := by decide +kernel
theorem dX1_sameLeaf_52 : decode cX1_sameLeaf 52 = .ok (.iinc 2 1, 3) := by decide +kernel
theorem dX1_sameLeaf_55 : decode cX1_sameLeaf 55 = .ok (.goto (-53), 3) := by decide +kernel
theorem dX1_sameLeaf_58 : decode cX1_sameLeaf 58 = .ok (.iconst (-1), 1) := by decide +kernel
theorem dX1_sameLeaf_59 : decode cX1_sameLeaf 59 = .ok (.ireturn, 1) := by decide +kernel
theorem dX1_firstFree_0 : decode cX1_firstFree 0 = .ok (.iconst 0, 1) := by decide +kernel
theorem dX1_firstFree_1 : decode cX1_firstFree 1 = .ok (.istore_n 1, 1) := by decide +kernel
theorem dX1_firstFree_2 : decode cX1_firstFree 2 = .ok (.iconst 0, 1) := by decide +kernel
theorem dX1_firstFree_3 : decode cX1_firstFree 3 = .ok (.istore_n 2, 1) := by decide +kernel
theorem dX1_firstFree_4 : decode cX1_firstFree 4 = .ok (.iload_n 2, 1) := by decide +kernel
theorem dX1_firstFree_5 : decode cX1_firstFree 5 = .ok (.aload_n 0, 1) := by decide +kernel
theorem dX1_firstFree_6 : decode cX1_firstFree 6 = .ok (.getfield 25, 3) := by decide +kernel
theorem dX1_firstFree_9 : decode cX1_firstFree 9 = .ok (.invokevirtual 68, 3) := by decide +kernel
theorem dX1_firstFree_12 : decode cX1_firstFree 12 = .ok (.if_icmp .ge 42, 3) := by decide +kernel
theorem dX1_firstFree_15 : decode cX1_firstFree 15 = .ok (.aload_n 0, 1) := by decide +kernel
theorem dX1_firstFree_16 : decode cX1_firstFree 16 = .ok (.getfield 25, 3) := by decide +kernel
theorem dX1_firstFree_19 : decode cX1_firstFree 19 = .ok (.iload_n 2, 1) := by decide +kernel
theorem dX1_firstFree_20 : decode cX1_firstFree 20 = .ok (.invokevirtual 72, 3) := by decide +kernel
theorem dX1_firstFree_23 : decode cX1_firstFree 23 = .ok (.checkcast 44, 3) := by decide +kernel
theorem dX1_firstFree_26 : decode cX1_firstFree 26 = .ok (.astore_n 3, 1) := by decide +kernel
theorem dX1_firstFree_27 : decode cX1_firstFree 27 = .ok (.aload_n 3, 1) := by decide +kernel
theorem dX1_firstFree_28 : decode cX1_firstFree 28 = .ok (.getfield 76, 3) := by decide +kernel
theorem dX1_firstFree_31 : decode cX1_firstFree 31 = .ok (.iload_n 1, 1) := by decide +kernel
theorem dX1_firstFree_32 : decode cX1_firstFree 32 = .ok (.if_icmp .ne 11, 3) := by decide +kernel
theorem dX1_firstFree_35 : decode cX1_firstFree 35 = .ok (.aload_n 3, 1) := by decide +kernel
theorem dX1_firstFree_36 : decode cX1_firstFree 36 = .ok (.invokevirtual 90, 3) := by decide +kernel
theorem dX1_firstFree_39 : decode cX1_firstFree 39 = .ok (.iconst 1, 1) := by decide +kernel
theorem dX1_firstFree_40 : decode cX1_firstFree 40 = .ok (.if_icmp .ne 5, 3) := by decide +kernel
theorem dX1_firstFree_43 : decode cX1_firstFree 43 = .ok (.iload_n 1, 1) := by decide +kernel
theorem dX1_firstFree_44 : decode cX1_firstFree 44 = .ok (.ireturn, 1) := by decide +kernel
theorem dX1_firstFree_45 : decode cX1_firstFree 45 = .ok (.iinc 1 1, 3) := by decide +kernel
theorem dX1_firstFree_48 : decode cX1_firstFree 48 = .ok (.iinc 2 1, 3) := by decide +kernel
theorem dX1_firstFree_51 : decode cX1_firstFree 51 = .ok (.goto (-47), 3) := by decide +kernel
theorem dX1_firstFree_54 : decode cX1_firstFree 54 = .ok (.iload_n 1, 1) := by decide +kernel
theorem dX1_firstFree_55 : decode cX1_firstFree 55 = .ok (.aload_n 0, 1) := by decide +kernel
theorem dX1_firstFree_56 : decode cX1_firstFree 56 = .ok (.getfield 9, 3) := by decide +kernel
theorem dX1_firstFree_59 : decode cX1_firstFree 59 = .ok (.if_icmp .ge 7, 3) := by decide +kernel
theorem dX1_firstFree_62 : decode cX1_firstFree 62 = .ok (.iload_n 1, 1) := by decide +kernel
theorem dX1_firstFree_63 : decode cX1_firstFree 63 = .ok (.goto 4, 3) := by decide +kernel
theorem dX1_firstFree_66 : decode cX1_firstFree 66 = .ok (.iconst (-1), 1) := by decide +kernel
theorem dX1_firstFree_67 : decode cX1_firstFree 67 = .ok (.ireturn, 1) := by decide +kernel
theorem dX1_countPages_0 : decode cX1_countPages 0 = .ok (.iconst 0, 1) := by decide +kernel
theorem dX1_countPages_1 : decode cX1_countPages 1 = .ok (.istore_n 2, 1) := by decide +kernel
theorem dX1_countPages_2 : decode cX1_countPages 2 = .ok (.iconst 0, 1) := by decide +kernel
theorem dX1_countPages_3 : decode cX1_countPages 3 = .ok (.istore_n 3, 1) := by decide +kernel
theorem dX1_countPages_4 : decode cX1_countPages 4 = .ok (.iload_n 3, 1) := by decide +kernel
theorem dX1_countPages_5 : decode cX1_countPages 5 = .ok (.aload_n 0, 1) := by decide +kernel
theorem dX1_countPages_6 : decode cX1_countPages 6 = .ok (.getfield 25, 3) := by decide +kernel
theorem dX1_countPages_9 : decode cX1_countPages 9 = .ok (.invokevirtual 68, 3) := by decide +kernel
theorem dX1_countPages_12 : decode cX1_countPages 12 = .ok (.if_icmp .ge 30, 3) := by decide +kernel
theorem dX1_countPages_15 : decode cX1_countPages 15 = .ok (.aload_n 0, 1) := by decide +kernel
theorem dX1_countPages_16 : decode cX1_countPages 16 = .ok (.getfield 25, 3) := by decide +kernel
theorem dX1_countPages_19 : decode cX1_countPages 19 = .ok (.iload_n 3, 1) := by decide +kernel
theorem dX1_countPages_20 : decode cX1_countPages 20 = .ok (.invokevirtual 72, 3) := by decide +kernel
theorem dX1_countPages_23 : decode cX1_countPages 23 = .ok (.checkcast 44, 3) := by decide +kernel
theorem dX1_countPages_26 : decode cX1_countPages 26 = .ok (.invokevirtual 90, 3) := by decide +kernel
theorem dX1_countPages_29 : decode cX1_countPages 29 = .ok (.iload_n 1, 1) := by decide +kernel
theorem dX1_countPages_30 : decode cX1_countPages 30 = .ok (.if_icmp .ne 6, 3) := by decide +kernel
theorem dX1_countPages_33 : decode cX1_countPages 33 = .ok (.iinc 2 1, 3) := by decide +kernel
theorem dX1_countPages_36 : decode cX1_countPages 36 = .ok (.iinc 3 1, 3) := by decide +kernel
theorem dX1_countPages_39 : decode cX1_countPages 39 = .ok (.goto (-35), 3) := by decide +kernel
theorem dX1_countPages_42 : decode cX1_countPages 42 = .ok (.iload_n 2, 1) := by decide +kernel
theorem dX1_countPages_43 : decode cX1_countPages 43 = .ok (.ireturn, 1) := by decide +kernel
theorem dX1_freePages_0 : decode cX1_freePages 0 = .ok (.aload_n 0, 1) := by decide +kernel
theorem dX1_freePages_1 : decode cX1_freePages 1 = .ok (.getfield 9, 3) := by decide +kernel
theorem dX1_freePages_4 : decode cX1_freePages 4 = .ok (.aload_n 0, 1) := by decide +kernel
theorem dX1_freePages_5 : decode cX1_freePages 5 = .ok (.getfield 25, 3) := by decide +kernel
theorem dX1_freePages_8 : decode cX1_freePages 8 = .ok (.invokevirtual 68, 3) := by decide +kernel
theorem dX1_freePages_11 : decode cX1_freePages 11 = .ok (.isub, 1) := by decide +kernel
theorem dX1_freePages_12 : decode cX1_freePages 12 = .ok (.aload_n 0, 1) := by decide +kernel
theorem dX1_freePages_13 : decode cX1_freePages 13 = .ok (.iconst 1, 1) := by decide +kernel
theorem dX1_freePages_14 : decode cX1_freePages 14 = .ok (.invokevirtual 101, 3) := by decide +kernel
theorem dX1_freePages_17 : decode cX1_freePages 17 = .ok (.iadd, 1) := by decide +kernel
theorem dX1_freePages_18 : decode cX1_freePages 18 = .ok (.ireturn, 1) := by decide +kernel
theorem dX1_badPages_0 : decode cX1_badPages 0 = .ok (.aload_n 0, 1) := by decide +kernel
theorem dX1_badPages_1 : decode cX1_badPages 1 = .ok (.iconst 4, 1) := by decide +kernel
theorem dX1_badPages_2 : decode cX1_badPages 2 = .ok (.invokevirtual 101, 3) := by decide +kernel
theorem dX1_badPages_5 : decode cX1_badPages 5 = .ok (.ireturn, 1) := by decide +kernel
theorem dX1_badPage_0 : decode cX1_badPage 0 = .ok (.iconst 0, 1) := by decide +kernel
theorem dX1_badPage_1 : decode cX1_badPage 1 = .ok (.istore_n 2, 1) := by decide +kernel
theorem dX1_badPage_2 : decode cX1_badPage 2 = .ok (.iconst 0, 1) := by decide +kernel
theorem dX1_badPage_3 : decode cX1_badPage 3 = .ok (.istore_n 3, 1) := by decide +kernel
theorem dX1_badPage_4 : decode cX1_badPage 4 = .ok (.iload_n 3, 1) := by decide +kernel
theorem dX1_badPage_5 : decode cX1_badPage 5 = .ok (.aload_n 0, 1) := by decide +kernel
theorem dX1_badPage_6 : decode cX1_badPage 6 = .ok (.getfield 25, 3) := by decide +kernel
theorem dX1_badPage_9 : decode cX1_badPage 9 = .ok (.invokevirtual 68, 3) := by decide +kernel
theorem dX1_badPage_12 : decode cX1_badPage 12 = .ok (.if_icmp .ge 42, 3) := by decide +kernel
theorem dX1_badPage_15 : decode cX1_badPage 15 = .ok (.aload_n 0, 1) := by decide +kernel
theorem dX1_badPage_16 : decode cX1_badPage 16 = .ok (.getfield 25, 3) := by decide +kernel
theorem dX1_badPage_19 : decode cX1_badPage 19 = .ok (.iload_n 3, 1) := by decide +kernel
theorem dX1_badPage_20 : decode cX1_badPage 20 = .ok (.invokevirtual 72, 3) := by decide +kernel
theorem dX1_badPage_23 : decode cX1_badPage 23 = .ok (.checkcast 44, 3) := by decide +kernel
theorem dX1_badPage_26 : decode cX1_badPage 26 = .ok (.astore 4, 2) := by decide +kernel
theorem dX1_badPage_28 : decode cX1_badPage 28 = .ok (.aload 4, 2) := by decide +kernel
theorem dX1_badPage_30 : decode cX1_badPage 30 = .ok (.invokevirtual 90, 3) := by decide +kernel
theorem dX1_badPage_33 : decode cX1_badPage 33 = .ok (.iconst 4, 1) := by decide +kernel
theorem dX1_badPage_34 : decode cX1_badPage 34 = .ok (.if_icmp .ne 14, 3) := by decide +kernel
theorem dX1_badPage_37 : decode cX1_badPage 37 = .ok (.iload_n 2, 1) := by decide +kernel
theorem dX1_badPage_38 : decode cX1_badPage 38 = .ok (.iload_n 1, 1) := by decide +kernel
theorem dX1_badPage_39 : decode cX1_badPage 39 = .ok (.if_icmp .ne 6, 3) := by decide +kernel
theorem dX1_badPage_42 : decode cX1_badPage 42 = .ok (.aload 4, 2) := by decide +kernel
theorem dX1_badPage_44 : decode cX1_badPage 44 = .ok (.areturn, 1) := by decide +kernel
theorem dX1_badPage_45 : decode cX1_badPage 45 = .ok (.iinc 2 1, 3) := by decide +kernel
theorem dX1_badPage_48 : decode cX1_badPage 48 = .ok (.iinc 3 1, 3) := by decide +kernel
theorem dX1_badPage_51 : decode cX1_badPage 51 = .ok (.goto (-47), 3) := by decide +kernel
theorem dX1_badPage_54 : decode cX1_badPage 54 = .ok (.aconst_null, 1) := by decide +kernel
theorem dX1_badPage_55 : decode cX1_badPage 55 = .ok (.areturn, 1) := by decide +kernel
theorem dX1_eraseTornPages_0 : decode cX1_eraseTornPages 0 = .ok (.iconst 0, 1) := by decide +kernel
theorem dX1_eraseTornPages_1 : decode cX1_eraseTornPages 1 = .ok (.istore_n 1, 1) := by decide +kernel
theorem dX1_eraseTornPages_2 : decode cX1_eraseTornPages 2 = .ok (.iload_n 1, 1) := by decide +kernel
theorem dX1_eraseTornPages_3 : decode cX1_eraseTornPages 3 = .ok (.aload_n 0, 1) := by decide +kernel
theorem dX1_eraseTornPages_4 : decode cX1_eraseTornPages 4 = .ok (.getfield 25, 3) := by decide +kernel
theorem dX1_eraseTornPages_7 : decode cX1_eraseTornPages 7 = .ok (.invokevirtual 68, 3) := by decide +kernel
theorem dX1_eraseTornPages_10 : decode cX1_eraseTornPages 10 = .ok (.if_icmp .ge 39, 3) := by decide +kernel
theorem dX1_eraseTornPages_13 : decode cX1_eraseTornPages 13 = .ok (.aload_n 0, 1) := by decide +kernel
theorem dX1_eraseTornPages_14 : decode cX1_eraseTornPages 14 = .ok (.getfield 25, 3) := by decide +kernel
theorem dX1_eraseTornPages_17 : decode cX1_eraseTornPages 17 = .ok (.iload_n 1, 1) := by decide +kernel
theorem dX1_eraseTornPages_18 : decode cX1_eraseTornPages 18 = .ok (.invokevirtual 72, 3) := by decide +kernel
theorem dX1_eraseTornPages_21 : decode cX1_eraseTornPages 21 = .ok (.checkcast 44, 3) := by decide +kernel
theorem dX1_eraseTornPages_24 : decode cX1_eraseTornPages 24 = .ok (.astore_n 2, 1) := by decide +kernel
theorem dX1_eraseTornPages_25 : decode cX1_eraseTornPages 25 = .ok (.aload_n 2, 1) := by decide +kernel
theorem dX1_eraseTornPages_26 : decode cX1_eraseTornPages 26 = .ok (.invokevirtual 90, 3) := by decide +kernel
theorem dX1_eraseTornPages_29 : decode cX1_eraseTornPages 29 = .ok (.iconst 3, 1) := by decide +kernel
theorem dX1_eraseTornPages_30 : decode cX1_eraseTornPages 30 = .ok (.if_icmp .ne 13, 3) := by decide +kernel
theorem dX1_eraseTornPages_33 : decode cX1_eraseTornPages 33 = .ok (.aload_n 0, 1) := by decide +kernel
theorem dX1_eraseTornPages_34 : decode cX1_eraseTornPages 34 = .ok (.aload_n 2, 1) := by decide +kernel
theorem dX1_eraseTornPages_35 : decode cX1_eraseTornPages 35 = .ok (.invokevirtual 104, 3) := by decide +kernel
theorem dX1_eraseTornPages_38 : decode cX1_eraseTornPages 38 = .ok (.ifCond .ne 5, 3) := by decide +kernel
theorem dX1_eraseTornPages_41 : decode cX1_eraseTornPages 41 = .ok (.iconst 0, 1) := by decide +kernel
theorem dX1_eraseTornPages_42 : decode cX1_eraseTornPages 42 = .ok (.ireturn, 1) := by decide +kernel
theorem dX1_eraseTornPages_43 : decode cX1_eraseTornPages 43 = .ok (.iinc 1 1, 3) := by decide +kernel
theorem dX1_eraseTornPages_46 : decode cX1_eraseTornPages 46 = .ok (.goto (-44), 3) := by decide +kernel
theorem dX1_eraseTornPages_49 : decode cX1_eraseTornPages 49 = .ok (.iconst 1, 1) := by decide +kernel
theorem dX1_eraseTornPages_50 : decode cX1_eraseTornPages 50 = .ok (.ireturn, 1) := by decide +kernel
theorem dX1_sealPages_0 : decode cX1_sealPages 0 = .ok (.iconst 0, 1) := by decide +kernel
theorem dX1_sealPages_1 : decode cX1_sealPages 1 = .ok (.istore_n 1, 1) := by decide +kernel
theorem dX1_sealPages_2 : decode cX1_sealPages 2 = .ok (.iload_n 1, 1) := by decide +kernel
theorem dX1_sealPages_3 : decode cX1_sealPages 3 = .ok (.aload_n 0, 1) := by decide +kernel
theorem dX1_sealPages_4 : decode cX1_sealPages 4 = .ok (.getfield 25, 3) := by decide +kernel
theorem dX1_sealPages_7 : decode cX1_sealPages 7 = .ok (.invokevirtual 68, 3) := by decide +kernel
theorem dX1_sealPages_10 : decode cX1_sealPages 10 = .ok (.if_icmp .ge 64, 3) := by decide +kernel
theorem dX1_sealPages_13 : decode cX1_sealPages 13 = .ok (.aload_n 0, 1) := by decide +kernel
theorem dX1_sealPages_14 : decode cX1_sealPages 14 = .ok (.getfield 25, 3) := by decide +kernel
theorem dX1_sealPages_17 : decode cX1_sealPages 17 = .ok (.iload_n 1, 1) := by decide +kernel
theorem dX1_sealPages_18 : decode cX1_sealPages 18 = .ok (.invokevirtual 72, 3) := by decide +kernel
theorem dX1_sealPages_21 : decode cX1_sealPages 21 = .ok (.checkcast 44, 3) := by decide +kernel
theorem dX1_sealPages_24 : decode cX1_sealPages 24 = .ok (.astore_n 2, 1) := by decide +kernel
theorem dX1_sealPages_25 : decode cX1_sealPages 25 = .ok (.aload_n 2, 1) := by decide +kernel
theorem dX1_sealPages_26 : decode cX1_sealPages 26 = .ok (.invokevirtual 90, 3) := by decide +kernel
theorem dX1_sealPages_29 : decode cX1_sealPages 29 = .ok (.iconst 2, 1) := by decide +kernel
theorem dX1_sealPages_30 : decode cX1_sealPages 30 = .ok (.if_icmp .ne 38, 3) := by decide +kernel
theorem dX1_sealPages_33 : decode cX1_sealPages 33 = .ok (.aload_n 2, 1) := by decide +kernel
theorem dX1_sealPages_34 : decode cX1_sealPages 34 = .ok (.getfield 43, 3) := by decide +kernel
theorem dX1_sealPages_37 : decode cX1_sealPages 37 = .ok (.bipush 25, 2) := by decide +kernel
theorem dX1_sealPages_39 : decode cX1_sealPages 39 = .ok (.baload, 1) := by decide +kernel
theorem dX1_sealPages_40 : decode cX1_sealPages 40 = .ok (.sipush 255, 3) := by decide +kernel
theorem dX1_sealPages_43 : decode cX1_sealPages 43 = .ok (.iand, 1) := by decide +kernel
theorem dX1_sealPages_44 : decode cX1_sealPages 44 = .ok (.sipush 165, 3) := by decide +kernel
theorem dX1_sealPages_47 : decode cX1_sealPages 47 = .ok (.if_icmp .eq 21, 3) := by decide +kernel
theorem dX1_sealPages_50 : decode cX1_sealPages 50 = .ok (.aload_n 0, 1) := by decide +kernel
theorem dX1_sealPages_51 : decode cX1_sealPages 51 = .ok (.invokevirtual 58, 3) := by decide +kernel
theorem dX1_sealPages_54 : decode cX1_sealPages 54 = .ok (.ifCond .ne 5, 3) := by decide +kernel
theorem dX1_sealPages_57 : decode cX1_sealPages 57 = .ok (.iconst 0, 1) := by decide +kernel
theorem dX1_sealPages_58 : decode cX1_sealPages 58 = .ok (.ireturn, 1) := by decide +kernel
theorem dX1_sealPages_59 : decode cX1_sealPages 59 = .ok (.aload_n 2, 1) := by decide +kernel
theorem dX1_sealPages_60 : decode cX1_sealPages 60 = .ok (.getfield 43, 3) := by decide +kernel
theorem dX1_sealPages_63 : decode cX1_sealPages 63 = .ok (.bipush 25, 2) := by decide +kernel
theorem dX1_sealPages_65 : decode cX1_sealPages 65 = .ok (.bipush (-91), 2) := by decide +kernel
theorem dX1_sealPages_67 : decode cX1_sealPages 67 = .ok (.bastore, 1) := by decide +kernel
theorem dX1_sealPages_68 : decode cX1_sealPages 68 = .ok (.iinc 1 1, 3) := by decide +kernel
theorem dX1_sealPages_71 : decode cX1_sealPages 71 = .ok (.goto (-69), 3) := by decide +kernel
theorem dX1_sealPages_74 : decode cX1_sealPages 74 = .ok (.iconst 1, 1) := by decide +kernel
theorem dX1_sealPages_75 : decode cX1_sealPages 75 = .ok (.ireturn, 1) := by decide +kernel
theorem dX2_size_0 : decode cX2_size 0 = .ok (.aload_n 0, 1) := by decide +kernel
theorem dX2_size_1 : decode cX2_size 1 = .ok (.getfield 15, 3) := by decide +kernel
theorem dX2_size_4 : decode cX2_size 4 = .ok (.iconst 0, 1) := by decide +kernel
theorem dX2_size_5 : decode cX2_size 5 = .ok (.baload, 1) := by decide +kernel
theorem dX2_size_6 : decode cX2_size 6 = .ok (.ireturn, 1) := by decide +kernel
theorem dX2_sum_0 : decode cX2_sum 0 = .ok (.aload_n 0, 1) := by decide +kernel
theorem dX2_sum_1 : decode cX2_sum 1 = .ok (.getfield 15, 3) := by decide +kernel
theorem dX2_sum_4 : decode cX2_sum 4 = .ok (.bipush 17, 2) := by decide +kernel
theorem dX2_sum_6 : decode cX2_sum 6 = .ok (.invokestatic 22, 3) := by decide +kernel
theorem dX2_sum_9 : decode cX2_sum 9 = .ok (.lreturn, 1) := by decide +kernel
theorem dX2_state_0 : decode cX2_state 0 = .ok (.aload_n 0, 1) := by decide +kernel
theorem dX2_state_1 : decode cX2_state 1 = .ok (.getfield 19, 3) := by decide +kernel
theorem dX2_state_4 : decode cX2_state 4 = .ok (.ifCond .ne 52, 3) := by decide +kernel
theorem dX2_state_7 : decode cX2_state 7 = .ok (.aload_n 0, 1) := by decide +kernel
theorem dX2_state_8 : decode cX2_state 8 = .ok (.aload_n 0, 1) := by decide +kernel
theorem dX2_state_9 : decode cX2_state 9 = .ok (.getfield 15, 3) := by decide +kernel
theorem dX2_state_12 : decode cX2_state 12 = .ok (.iconst 0, 1) := by decide +kernel
theorem dX2_state_13 : decode cX2_state 13 = .ok (.bipush 17, 2) := by decide +kernel
theorem dX2_state_15 : decode cX2_state 15 = .ok (.iconst 3, 1) := by decide +kernel
theorem dX2_state_16 : decode cX2_state 16 = .ok (.invokestatic 28, 3) := by decide +kernel
theorem dX2_state_19 : decode cX2_state 19 = .ok (.putfield 19, 3) := by decide +kernel
theorem dX2_state_22 : decode cX2_state 22 = .ok (.aload_n 0, 1) := by decide +kernel
theorem dX2_state_23 : decode cX2_state 23 = .ok (.getfield 19, 3) := by decide +kernel
theorem dX2_state_26 : decode cX2_state 26 = .ok (.iconst 2, 1) := by decide +kernel
theorem dX2_state_27 : decode cX2_state 27 = .ok (.if_icmp .ne 29, 3) := by decide +kernel
theorem dX2_state_30 : decode cX2_state 30 = .ok (.aload_n 0, 1) := by decide +kernel
theorem dX2_state_31 : decode cX2_state 31 = .ok (.invokevirtual 32, 3) := by decide +kernel
theorem dX2_state_34 : decode cX2_state 34 = .ok (.ifCond .ne 22, 3) := by decide +kernel
theorem dX2_state_37 : decode cX2_state 37 = .ok (.aload_n 0, 1) := by decide +kernel
theorem dX2_state_38 : decode cX2_state 38 = .ok (.aload_n 0, 1) := by decide +kernel
theorem dX2_state_39 : decode cX2_state 39 = .ok (.getfield 15, 3) := by decide +kernel
theorem dX2_state_42 : decode cX2_state 42 = .ok (.bipush 25, 2) := by decide +kernel
theorem dX2_state_44 : decode cX2_state 44 = .ok (.baload, 1) := by decide +kernel
theorem dX2_state_45 : decode cX2_state 45 = .ok (.ifCond .ne 7, 3) := by decide +kernel
theorem dX2_state_48 : decode cX2_state 48 = .ok (.iconst 3, 1) := by decide +kernel
theorem dX2_state_49 : decode cX2_state 49 = .ok (.goto 4, 3) := by decide +kernel
theorem dX2_state_52 : decode cX2_state 52 = .ok (.iconst 4, 1) := by decide +kernel
theorem dX2_state_53 : decode cX2_state 53 = .ok (.putfield 19, 3) := by decide +kernel
theorem dX2_state_56 : decode cX2_state 56 = .ok (.aload_n 0, 1) := by decide +kernel
theorem dX2_state_57 : decode cX2_state 57 = .ok (.getfield 19, 3) := by decide +kernel
theorem dX2_state_60 : decode cX2_state 60 = .ok (.ireturn, 1) := by decide +kernel
theorem dX2_hasForm_0 : decode cX2_hasForm 0 = .ok (.aload_n 0, 1) := by decide +kernel
theorem dX2_hasForm_1 : decode cX2_hasForm 1 = .ok (.invokevirtual 36, 3) := by decide +kernel
theorem dX2_hasForm_4 : decode cX2_hasForm 4 = .ok (.istore_n 1, 1) := by decide +kernel
theorem dX2_hasForm_5 : decode cX2_hasForm 5 = .ok (.iload_n 1, 1) := by decide +kernel
theorem dX2_hasForm_6 : decode cX2_hasForm 6 = .ok (.iconst 1, 1) := by decide +kernel
theorem dX2_hasForm_7 : decode cX2_hasForm 7 = .ok (.if_icmp .lt 30, 3) := by decide +kernel
theorem dX2_hasForm_10 : decode cX2_hasForm 10 = .ok (.iload_n 1, 1) := by decide +kernel
theorem dX2_hasForm_11 : decode cX2_hasForm 11 = .ok (.bipush 16, 2) := by decide +kernel
theorem dX2_hasForm_13 : decode cX2_hasForm 13 = .ok (.if_icmp .gt 24, 3) := by decide +kernel
theorem dX2_hasForm_16 : decode cX2_hasForm 16 = .ok (.aload_n 0, 1) := by decide +kernel
theorem dX2_hasForm_17 : decode cX2_hasForm 17 = .ok (.getfield 15, 3) := by decide +kernel
theorem dX2_hasForm_20 : decode cX2_hasForm 20 = .ok (.iconst 1, 1) := by decide +kernel
theorem dX2_hasForm_21 : decode cX2_hasForm 21 = .ok (.iload_n 1, 1) := by decide +kernel
theorem dX2_hasForm_22 : decode cX2_hasForm 22 = .ok (.iadd, 1) := by decide +kernel
theorem dX2_hasForm_23 : decode cX2_hasForm 23 = .ok (.bipush 16, 2) := by decide +kernel
theorem dX2_hasForm_25 : decode cX2_hasForm 25 = .ok (.iload_n 1, 1) := by decide +kernel
theorem dX2_hasForm_26 : decode cX2_hasForm 26 = .ok (.isub, 1) := by decide +kernel
theorem dX2_hasForm_27 : decode cX2_hasForm 27 = .ok (.invokestatic 40, 3) := by decide +kernel
theorem dX2_hasForm_30 : decode cX2_hasForm 30 = .ok (.ifCond .eq 7, 3) := by decide +kernel
theorem dX2_hasForm_33 : decode cX2_hasForm 33 = .ok (.iconst 1, 1) := by decide +kernel
theorem dX2_hasForm_34 : decode cX2_hasForm 34 = .ok (.goto 4, 3) := by decide +kernel
theorem dX2_hasForm_37 : decode cX2_hasForm 37 = .ok (.iconst 0, 1) := by decide +kernel
theorem dX2_hasForm_38 : decode cX2_hasForm 38 = .ok (.ireturn, 1) := by decide +kernel
theorem dJx4a65c_size_8abf5_0 : decode cJx4a65c_size_8abf5 0 = .ok (.aload_n 0, 1) := by decide +kernel
theorem dJx4a65c_size_8abf5_1 : decode cJx4a65c_size_8abf5 1 = .ok (.getfield 48, 3) := by decide +kernel
theorem dJx4a65c_size_8abf5_4 : decode cJx4a65c_size_8abf5 4 = .ok (.ireturn, 1) := by decide +kernel
theorem dJx4a65c_elementData_915e3_0 : decode cJx4a65c_elementData_915e3 0 = .ok (.aload_n 0, 1) := by decide +kernel
theorem dJx4a65c_elementData_915e3_1 : decode cJx4a65c_elementData_915e3 1 = .ok (.getfield 9, 3) := by decide +kernel
theorem dJx4a65c_elementData_915e3_4 : decode cJx4a65c_elementData_915e3 4 = .ok (.iload_n 1, 1) := by decide +kernel
theorem dJx4a65c_elementData_915e3_5 : decode cJx4a65c_elementData_915e3 5 = .ok (.aaload, 1) := by decide +kernel
theorem dJx4a65c_elementData_915e3_6 : decode cJx4a65c_elementData_915e3 6 = .ok (.areturn, 1) := by decide +kernel
theorem dJx4a65c_get_915e3_0 : decode cJx4a65c_get_915e3 0 = .ok (.iload_n 1, 1) := by decide +kernel
theorem dJx4a65c_get_915e3_1 : decode cJx4a65c_get_915e3 1 = .ok (.aload_n 0, 1) := by decide +kernel
theorem dJx4a65c_get_915e3_2 : decode cJx4a65c_get_915e3 2 = .ok (.getfield 48, 3) := by decide +kernel
theorem dJx4a65c_get_915e3_5 : decode cJx4a65c_get_915e3 5 = .ok (.invokestatic 118, 3) := by decide +kernel
theorem dJx4a65c_get_915e3_8 : decode cJx4a65c_get_915e3 8 = .ok (.pop, 1) := by decide +kernel
theorem dJx4a65c_get_915e3_9 : decode cJx4a65c_get_915e3 9 = .ok (.aload_n 0, 1) := by decide +kernel
theorem dJx4a65c_get_915e3_10 : decode cJx4a65c_get_915e3 10 = .ok (.iload_n 1, 1) := by decide +kernel
theorem dJx4a65c_get_915e3_11 : decode cJx4a65c_get_915e3 11 = .ok (.invokevirtual 123, 3) := by decide +kernel
theorem dJx4a65c_get_915e3_14 : decode cJx4a65c_get_915e3 14 = .ok (.areturn, 1) := by decide +kernel
theorem dJ15_checkIndex_7cf53_0 : decode cJ15_checkIndex_7cf53 0 = .ok (.iload_n 0, 1) := by decide +kernel
theorem dJ15_checkIndex_7cf53_1 : decode cJ15_checkIndex_7cf53 1 = .ok (.iload_n 1, 1) := by decide +kernel
theorem dJ15_checkIndex_7cf53_2 : decode cJ15_checkIndex_7cf53 2 = .ok (.aconst_null, 1) := by decide +kernel
theorem dJ15_checkIndex_7cf53_3 : decode cJ15_checkIndex_7cf53 3 = .ok (.invokestatic 105, 3) := by decide +kernel
theorem dJ15_checkIndex_7cf53_6 : decode cJ15_checkIndex_7cf53 6 = .ok (.ireturn, 1) := by decide +kernel
theorem dJ3_checkIndex_8e157_0 : decode cJ3_checkIndex_8e157 0 = .ok (.iload_n 0, 1) := by decide +kernel
theorem dJ3_checkIndex_8e157_1 : decode cJ3_checkIndex_8e157 1 = .ok (.ifCond .lt 8, 3) := by decide +kernel
theorem dJ3_checkIndex_8e157_4 : decode cJ3_checkIndex_8e157 4 = .ok (.iload_n 0, 1) := by decide +kernel
theorem dJ3_checkIndex_8e157_5 : decode cJ3_checkIndex_8e157 5 = .ok (.iload_n 1, 1) := by decide +kernel
theorem dJ3_checkIndex_8e157_6 : decode cJ3_checkIndex_8e157 6 = .ok (.if_icmp .lt 10, 3) := by decide +kernel
theorem dJ3_checkIndex_8e157_16 : decode cJ3_checkIndex_8e157 16 = .ok (.iload_n 0, 1) := by decide +kernel
theorem dJ3_checkIndex_8e157_17 : decode cJ3_checkIndex_8e157 17 = .ok (.ireturn, 1) := by decide +kernel
