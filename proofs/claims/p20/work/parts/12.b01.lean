theorem dX9_feed_71 : decode cX9_feed 71 = .ok (.lushr, 1) := by decide +kernel
theorem dX9_feed_72 : decode cX9_feed 72 = .ok (.ldc2_w 94, 3) := by decide +kernel
theorem dX9_feed_75 : decode cX9_feed 75 = .ok (.land, 1) := by decide +kernel
theorem dX9_feed_76 : decode cX9_feed 76 = .ok (.l2i, 1) := by decide +kernel
theorem dX9_feed_77 : decode cX9_feed 77 = .ok (.iastore, 1) := by decide +kernel
theorem dX9_feed_78 : decode cX9_feed 78 = .ok (.iinc 4 (-1), 3) := by decide +kernel
theorem dX9_feed_81 : decode cX9_feed 81 = .ok (.goto (-36), 3) := by decide +kernel
theorem dX9_feed_84 : decode cX9_feed 84 = .ok (.aload_n 0, 1) := by decide +kernel
theorem dX9_feed_85 : decode cX9_feed 85 = .ok (.getfield 271, 3) := by decide +kernel
theorem dX9_feed_88 : decode cX9_feed 88 = .ok (.ireturn, 1) := by decide +kernel
theorem dX9_wipe_0 : decode cX9_wipe 0 = .ok (.aload_n 0, 1) := by decide +kernel
theorem dX9_wipe_1 : decode cX9_wipe 1 = .ok (.iconst 0, 1) := by decide +kernel
theorem dX9_wipe_2 : decode cX9_wipe 2 = .ok (.putfield 91, 3) := by decide +kernel
theorem dX9_wipe_5 : decode cX9_wipe 5 = .ok (.aload_n 0, 1) := by decide +kernel
theorem dX9_wipe_6 : decode cX9_wipe 6 = .ok (.getfield 271, 3) := by decide +kernel
theorem dX9_wipe_9 : decode cX9_wipe 9 = .ok (.istore_n 1, 1) := by decide +kernel
theorem dX9_wipe_10 : decode cX9_wipe 10 = .ok (.aload_n 0, 1) := by decide +kernel
theorem dX9_wipe_11 : decode cX9_wipe 11 = .ok (.iconst 0, 1) := by decide +kernel
theorem dX9_wipe_12 : decode cX9_wipe 12 = .ok (.putfield 271, 3) := by decide +kernel
theorem dX9_wipe_15 : decode cX9_wipe 15 = .ok (.iload_n 1, 1) := by decide +kernel
theorem dX9_wipe_16 : decode cX9_wipe 16 = .ok (.ireturn, 1) := by decide +kernel
theorem dX9_at_0 : decode cX9_at 0 = .ok (.aload_n 0, 1) := by decide +kernel
theorem dX9_at_1 : decode cX9_at 1 = .ok (.iload_n 1, 1) := by decide +kernel
theorem dX9_at_2 : decode cX9_at 2 = .ok (.iconst 0, 1) := by decide +kernel
theorem dX9_at_3 : decode cX9_at 3 = .ok (.aload_n 0, 1) := by decide +kernel
theorem dX9_at_4 : decode cX9_at 4 = .ok (.getfield 271, 3) := by decide +kernel
theorem dX9_at_7 : decode cX9_at 7 = .ok (.iconst 1, 1) := by decide +kernel
theorem dX9_at_8 : decode cX9_at 8 = .ok (.isub, 1) := by decide +kernel
theorem dX9_at_9 : decode cX9_at 9 = .ok (.invokestatic 138, 3) := by decide +kernel
theorem dX9_at_12 : decode cX9_at 12 = .ok (.ifCond .eq 7, 3) := by decide +kernel
theorem dX9_at_15 : decode cX9_at 15 = .ok (.iconst 0, 1) := by decide +kernel
theorem dX9_at_16 : decode cX9_at 16 = .ok (.goto 4, 3) := by decide +kernel
theorem dX9_at_19 : decode cX9_at 19 = .ok (.iconst 1, 1) := by decide +kernel
theorem dX9_at_20 : decode cX9_at 20 = .ok (.putfield 91, 3) := by decide +kernel
theorem dX9_at_23 : decode cX9_at 23 = .ok (.aload_n 0, 1) := by decide +kernel
theorem dX9_at_24 : decode cX9_at 24 = .ok (.getfield 91, 3) := by decide +kernel
theorem dX9_at_27 : decode cX9_at 27 = .ok (.ifCond .le 7, 3) := by decide +kernel
theorem dX9_at_30 : decode cX9_at 30 = .ok (.iconst 0, 1) := by decide +kernel
theorem dX9_at_31 : decode cX9_at 31 = .ok (.goto 9, 3) := by decide +kernel
theorem dX9_at_34 : decode cX9_at 34 = .ok (.aload_n 0, 1) := by decide +kernel
theorem dX9_at_35 : decode cX9_at 35 = .ok (.getfield 14, 3) := by decide +kernel
theorem dX9_at_38 : decode cX9_at 38 = .ok (.iload_n 1, 1) := by decide +kernel
theorem dX9_at_39 : decode cX9_at 39 = .ok (.iaload, 1) := by decide +kernel
theorem dX9_at_40 : decode cX9_at 40 = .ok (.ireturn, 1) := by decide +kernel
theorem dX9_sameLeaf_0 : decode cX9_sameLeaf 0 = .ok (.aload_n 0, 1) := by decide +kernel
theorem dX9_sameLeaf_1 : decode cX9_sameLeaf 1 = .ok (.iconst 3, 1) := by decide +kernel
theorem dX9_sameLeaf_2 : decode cX9_sameLeaf 2 = .ok (.bipush 17, 2) := by decide +kernel
theorem dX9_sameLeaf_4 : decode cX9_sameLeaf 4 = .ok (.invokevirtual 124, 3) := by decide +kernel
theorem dX9_sameLeaf_7 : decode cX9_sameLeaf 7 = .ok (.lstore_n 1, 1) := by decide +kernel
theorem dX9_sameLeaf_8 : decode cX9_sameLeaf 8 = .ok (.iconst 0, 1) := by decide +kernel
theorem dX9_sameLeaf_9 : decode cX9_sameLeaf 9 = .ok (.istore_n 3, 1) := by decide +kernel
theorem dX9_sameLeaf_10 : decode cX9_sameLeaf 10 = .ok (.iload_n 3, 1) := by decide +kernel
theorem dX9_sameLeaf_11 : decode cX9_sameLeaf 11 = .ok (.aload_n 0, 1) := by decide +kernel
theorem dX9_sameLeaf_12 : decode cX9_sameLeaf 12 = .ok (.getfield 62, 3) := by decide +kernel
theorem dX9_sameLeaf_15 : decode cX9_sameLeaf 15 = .ok (.if_icmp .ge 86, 3) := by decide +kernel
theorem dX9_sameLeaf_18 : decode cX9_sameLeaf 18 = .ok (.aload_n 0, 1) := by decide +kernel
theorem dX9_sameLeaf_19 : decode cX9_sameLeaf 19 = .ok (.iload_n 3, 1) := by decide +kernel
theorem dX9_sameLeaf_20 : decode cX9_sameLeaf 20 = .ok (.invokevirtual 287, 3) := by decide +kernel
theorem dX9_sameLeaf_23 : decode cX9_sameLeaf 23 = .ok (.lload_n 1, 1) := by decide +kernel
theorem dX9_sameLeaf_24 : decode cX9_sameLeaf 24 = .ok (.lcmp, 1) := by decide +kernel
theorem dX9_sameLeaf_25 : decode cX9_sameLeaf 25 = .ok (.ifCond .ne 70, 3) := by decide +kernel
theorem dX9_sameLeaf_28 : decode cX9_sameLeaf 28 = .ok (.aload_n 0, 1) := by decide +kernel
theorem dX9_sameLeaf_29 : decode cX9_sameLeaf 29 = .ok (.iload_n 3, 1) := by decide +kernel
theorem dX9_sameLeaf_30 : decode cX9_sameLeaf 30 = .ok (.invokevirtual 238, 3) := by decide +kernel
theorem dX9_sameLeaf_33 : decode cX9_sameLeaf 33 = .ok (.iconst 1, 1) := by decide +kernel
theorem dX9_sameLeaf_34 : decode cX9_sameLeaf 34 = .ok (.if_icmp .ne 61, 3) := by decide +kernel
theorem dX9_sameLeaf_37 : decode cX9_sameLeaf 37 = .ok (.iconst 1, 1) := by decide +kernel
theorem dX9_sameLeaf_38 : decode cX9_sameLeaf 38 = .ok (.istore 4, 2) := by decide +kernel
theorem dX9_sameLeaf_40 : decode cX9_sameLeaf 40 = .ok (.iconst 0, 1) := by decide +kernel
theorem dX9_sameLeaf_41 : decode cX9_sameLeaf 41 = .ok (.istore 5, 2) := by decide +kernel
theorem dX9_sameLeaf_43 : decode cX9_sameLeaf 43 = .ok (.iload 5, 2) := by decide +kernel
theorem dX9_sameLeaf_45 : decode cX9_sameLeaf 45 = .ok (.bipush 17, 2) := by decide +kernel
theorem dX9_sameLeaf_47 : decode cX9_sameLeaf 47 = .ok (.if_icmp .ge 41, 3) := by decide +kernel
theorem dX9_sameLeaf_50 : decode cX9_sameLeaf 50 = .ok (.iload 4, 2) := by decide +kernel
theorem dX9_sameLeaf_52 : decode cX9_sameLeaf 52 = .ok (.aload_n 0, 1) := by decide +kernel
theorem dX9_sameLeaf_53 : decode cX9_sameLeaf 53 = .ok (.aload_n 0, 1) := by decide +kernel
theorem dX9_sameLeaf_54 : decode cX9_sameLeaf 54 = .ok (.iload_n 3, 1) := by decide +kernel
theorem dX9_sameLeaf_55 : decode cX9_sameLeaf 55 = .ok (.invokevirtual 154, 3) := by decide +kernel
theorem dX9_sameLeaf_58 : decode cX9_sameLeaf 58 = .ok (.iload 5, 2) := by decide +kernel
theorem dX9_sameLeaf_60 : decode cX9_sameLeaf 60 = .ok (.iadd, 1) := by decide +kernel
theorem dX9_sameLeaf_61 : decode cX9_sameLeaf 61 = .ok (.invokevirtual 96, 3) := by decide +kernel
theorem dX9_sameLeaf_64 : decode cX9_sameLeaf 64 = .ok (.aload_n 0, 1) := by decide +kernel
theorem dX9_sameLeaf_65 : decode cX9_sameLeaf 65 = .ok (.getfield 24, 3) := by decide +kernel
theorem dX9_sameLeaf_68 : decode cX9_sameLeaf 68 = .ok (.iload 5, 2) := by decide +kernel
theorem dX9_sameLeaf_70 : decode cX9_sameLeaf 70 = .ok (.iaload, 1) := by decide +kernel
theorem dX9_sameLeaf_71 : decode cX9_sameLeaf 71 = .ok (.if_icmp .ne 7, 3) := by decide +kernel
theorem dX9_sameLeaf_74 : decode cX9_sameLeaf 74 = .ok (.iconst 1, 1) := by decide +kernel
theorem dX9_sameLeaf_75 : decode cX9_sameLeaf 75 = .ok (.goto 4, 3) := by decide +kernel
theorem dX9_sameLeaf_78 : decode cX9_sameLeaf 78 = .ok (.iconst 0, 1) := by decide +kernel
theorem dX9_sameLeaf_79 : decode cX9_sameLeaf 79 = .ok (.iand, 1) := by decide +kernel
theorem dX9_sameLeaf_80 : decode cX9_sameLeaf 80 = .ok (.istore 4, 2) := by decide +kernel
theorem dX9_sameLeaf_82 : decode cX9_sameLeaf 82 = .ok (.iinc 5 1, 3) := by decide +kernel
theorem dX9_sameLeaf_85 : decode cX9_sameLeaf 85 = .ok (.goto (-42), 3) := by decide +kernel
theorem dX9_sameLeaf_88 : decode cX9_sameLeaf 88 = .ok (.iload 4, 2) := by decide +kernel
theorem dX9_sameLeaf_90 : decode cX9_sameLeaf 90 = .ok (.ifCond .eq 5, 3) := by decide +kernel
theorem dX9_sameLeaf_93 : decode cX9_sameLeaf 93 = .ok (.iload_n 3, 1) := by decide +kernel
theorem dX9_sameLeaf_94 : decode cX9_sameLeaf 94 = .ok (.ireturn, 1) := by decide +kernel
theorem dX9_sameLeaf_95 : decode cX9_sameLeaf 95 = .ok (.iinc 3 1, 3) := by decide +kernel
theorem dX9_sameLeaf_98 : decode cX9_sameLeaf 98 = .ok (.goto (-88), 3) := by decide +kernel
theorem dX9_sameLeaf_101 : decode cX9_sameLeaf 101 = .ok (.iconst (-1), 1) := by decide +kernel
theorem dX9_sameLeaf_102 : decode cX9_sameLeaf 102 = .ok (.ireturn, 1) := by decide +kernel
theorem dX9_leaf_0 : decode cX9_leaf 0 = .ok (.aload_n 0, 1) := by decide +kernel
theorem dX9_leaf_1 : decode cX9_leaf 1 = .ok (.aload_n 0, 1) := by decide +kernel
theorem dX9_leaf_2 : decode cX9_leaf 2 = .ok (.getfield 72, 3) := by decide +kernel
theorem dX9_leaf_5 : decode cX9_leaf 5 = .ok (.ifCond .ne 7, 3) := by decide +kernel
theorem dX9_leaf_8 : decode cX9_leaf 8 = .ok (.iconst 1, 1) := by decide +kernel
theorem dX9_leaf_9 : decode cX9_leaf 9 = .ok (.goto 21, 3) := by decide +kernel
theorem dX9_leaf_12 : decode cX9_leaf 12 = .ok (.aload_n 0, 1) := by decide +kernel
theorem dX9_leaf_13 : decode cX9_leaf 13 = .ok (.getfield 271, 3) := by decide +kernel
theorem dX9_leaf_16 : decode cX9_leaf 16 = .ok (.iconst 1, 1) := by decide +kernel
theorem dX9_leaf_17 : decode cX9_leaf 17 = .ok (.bipush 16, 2) := by decide +kernel
theorem dX9_leaf_19 : decode cX9_leaf 19 = .ok (.invokestatic 138, 3) := by decide +kernel
theorem dX9_leaf_22 : decode cX9_leaf 22 = .ok (.ifCond .ne 7, 3) := by decide +kernel
theorem dX9_leaf_25 : decode cX9_leaf 25 = .ok (.iconst 2, 1) := by decide +kernel
theorem dX9_leaf_26 : decode cX9_leaf 26 = .ok (.goto 4, 3) := by decide +kernel
theorem dX9_leaf_29 : decode cX9_leaf 29 = .ok (.iconst 0, 1) := by decide +kernel
theorem dX9_leaf_30 : decode cX9_leaf 30 = .ok (.putfield 91, 3) := by decide +kernel
theorem dX9_leaf_33 : decode cX9_leaf 33 = .ok (.aload_n 0, 1) := by decide +kernel
theorem dX9_leaf_34 : decode cX9_leaf 34 = .ok (.getfield 91, 3) := by decide +kernel
theorem dX9_leaf_37 : decode cX9_leaf 37 = .ok (.ifCond .le 5, 3) := by decide +kernel
theorem dX9_leaf_40 : decode cX9_leaf 40 = .ok (.iconst 0, 1) := by decide +kernel
theorem dX9_leaf_41 : decode cX9_leaf 41 = .ok (.ireturn, 1) := by decide +kernel
theorem dX9_leaf_42 : decode cX9_leaf 42 = .ok (.aload_n 0, 1) := by decide +kernel
theorem dX9_leaf_43 : decode cX9_leaf 43 = .ok (.invokevirtual 173, 3) := by decide +kernel
theorem dX9_leaf_46 : decode cX9_leaf 46 = .ok (.ifCond .le 6, 3) := by decide +kernel
theorem dX9_leaf_49 : decode cX9_leaf 49 = .ok (.bipush (-3), 2) := by decide +kernel
theorem dX9_leaf_51 : decode cX9_leaf 51 = .ok (.ireturn, 1) := by decide +kernel
theorem dX9_leaf_52 : decode cX9_leaf 52 = .ok (.aload_n 0, 1) := by decide +kernel
theorem dX9_leaf_53 : decode cX9_leaf 53 = .ok (.invokevirtual 274, 3) := by decide +kernel
theorem dX9_leaf_56 : decode cX9_leaf 56 = .ok (.aload_n 0, 1) := by decide +kernel
theorem dX9_leaf_57 : decode cX9_leaf 57 = .ok (.invokevirtual 290, 3) := by decide +kernel
theorem dX9_leaf_60 : decode cX9_leaf 60 = .ok (.istore_n 1, 1) := by decide +kernel
theorem dX9_leaf_61 : decode cX9_leaf 61 = .ok (.iload_n 1, 1) := by decide +kernel
theorem dX9_leaf_62 : decode cX9_leaf 62 = .ok (.iconst (-1), 1) := by decide +kernel
theorem dX9_leaf_63 : decode cX9_leaf 63 = .ok (.if_icmp .ne 27, 3) := by decide +kernel
theorem dX9_leaf_66 : decode cX9_leaf 66 = .ok (.aload_n 0, 1) := by decide +kernel
theorem dX9_leaf_67 : decode cX9_leaf 67 = .ok (.invokevirtual 293, 3) := by decide +kernel
theorem dX9_leaf_70 : decode cX9_leaf 70 = .ok (.istore_n 1, 1) := by decide +kernel
theorem dX9_leaf_71 : decode cX9_leaf 71 = .ok (.iload_n 1, 1) := by decide +kernel
theorem dX9_leaf_72 : decode cX9_leaf 72 = .ok (.iconst (-1), 1) := by decide +kernel
theorem dX9_leaf_73 : decode cX9_leaf 73 = .ok (.if_icmp .ne 6, 3) := by decide +kernel
theorem dX9_leaf_76 : decode cX9_leaf 76 = .ok (.bipush (-2), 2) := by decide +kernel
theorem dX9_leaf_78 : decode cX9_leaf 78 = .ok (.ireturn, 1) := by decide +kernel
theorem dX9_leaf_79 : decode cX9_leaf 79 = .ok (.aload_n 0, 1) := by decide +kernel
theorem dX9_leaf_80 : decode cX9_leaf 80 = .ok (.aload_n 0, 1) := by decide +kernel
theorem dX9_leaf_81 : decode cX9_leaf 81 = .ok (.iload_n 1, 1) := by decide +kernel
theorem dX9_leaf_82 : decode cX9_leaf 82 = .ok (.invokevirtual 154, 3) := by decide +kernel
theorem dX9_leaf_85 : decode cX9_leaf 85 = .ok (.bipush 26, 2) := by decide +kernel
theorem dX9_leaf_87 : decode cX9_leaf 87 = .ok (.invokevirtual 281, 3) := by decide +kernel
theorem dX9_leaf_90 : decode cX9_leaf 90 = .ok (.aload_n 0, 1) := by decide +kernel
theorem dX9_leaf_91 : decode cX9_leaf 91 = .ok (.iconst 0, 1) := by decide +kernel
theorem dX9_leaf_92 : decode cX9_leaf 92 = .ok (.putfield 271, 3) := by decide +kernel
theorem dX9_leaf_95 : decode cX9_leaf 95 = .ok (.aload_n 0, 1) := by decide +kernel
theorem dX9_leaf_96 : decode cX9_leaf 96 = .ok (.getfield 108, 3) := by decide +kernel
theorem dX9_leaf_99 : decode cX9_leaf 99 = .ok (.ifCond .eq 8, 3) := by decide +kernel
theorem dX9_leaf_102 : decode cX9_leaf 102 = .ok (.bipush (-4), 2) := by decide +kernel
theorem dX9_leaf_104 : decode cX9_leaf 104 = .ok (.goto 4, 3) := by decide +kernel
theorem dX9_leaf_107 : decode cX9_leaf 107 = .ok (.iload_n 1, 1) := by decide +kernel
theorem dX9_leaf_108 : decode cX9_leaf 108 = .ok (.ireturn, 1) := by decide +kernel
theorem dX9_change_0 : decode cX9_change 0 = .ok (.aload_n 0, 1) := by decide +kernel
theorem dX9_change_1 : decode cX9_change 1 = .ok (.aload_n 0, 1) := by decide +kernel
theorem dX9_change_2 : decode cX9_change 2 = .ok (.getfield 72, 3) := by decide +kernel
theorem dX9_change_5 : decode cX9_change 5 = .ok (.ifCond .ne 7, 3) := by decide +kernel
theorem dX9_change_8 : decode cX9_change 8 = .ok (.iconst 1, 1) := by decide +kernel
theorem dX9_change_9 : decode cX9_change 9 = .ok (.goto 32, 3) := by decide +kernel
theorem dX9_change_12 : decode cX9_change 12 = .ok (.iload_n 1, 1) := by decide +kernel
theorem dX9_change_13 : decode cX9_change 13 = .ok (.iconst 0, 1) := by decide +kernel
theorem dX9_change_14 : decode cX9_change 14 = .ok (.bipush 15, 2) := by decide +kernel
theorem dX9_change_16 : decode cX9_change 16 = .ok (.invokestatic 138, 3) := by decide +kernel
theorem dX9_change_19 : decode cX9_change 19 = .ok (.ifCond .eq 17, 3) := by decide +kernel
theorem dX9_change_22 : decode cX9_change 22 = .ok (.iload_n 2, 1) := by decide +kernel
theorem dX9_change_23 : decode cX9_change 23 = .ok (.iconst (-1), 1) := by decide +kernel
theorem dX9_change_24 : decode cX9_change 24 = .ok (.aload_n 0, 1) := by decide +kernel
theorem dX9_change_25 : decode cX9_change 25 = .ok (.getfield 62, 3) := by decide +kernel
theorem dX9_change_28 : decode cX9_change 28 = .ok (.iconst 1, 1) := by decide +kernel
theorem dX9_change_29 : decode cX9_change 29 = .ok (.isub, 1) := by decide +kernel
theorem dX9_change_30 : decode cX9_change 30 = .ok (.invokestatic 138, 3) := by decide +kernel
theorem dX9_change_33 : decode cX9_change 33 = .ok (.ifCond .ne 7, 3) := by decide +kernel
theorem dX9_change_36 : decode cX9_change 36 = .ok (.iconst 2, 1) := by decide +kernel
theorem dX9_change_37 : decode cX9_change 37 = .ok (.goto 4, 3) := by decide +kernel
theorem dX9_change_40 : decode cX9_change 40 = .ok (.iconst 0, 1) := by decide +kernel
theorem dX9_change_41 : decode cX9_change 41 = .ok (.putfield 91, 3) := by decide +kernel
theorem dX9_change_44 : decode cX9_change 44 = .ok (.aload_n 0, 1) := by decide +kernel
theorem dX9_change_45 : decode cX9_change 45 = .ok (.getfield 91, 3) := by decide +kernel
theorem dX9_change_48 : decode cX9_change 48 = .ok (.ifCond .le 5, 3) := by decide +kernel
theorem dX9_change_51 : decode cX9_change 51 = .ok (.iconst 0, 1) := by decide +kernel
theorem dX9_change_52 : decode cX9_change 52 = .ok (.ireturn, 1) := by decide +kernel
theorem dX9_change_53 : decode cX9_change 53 = .ok (.iload_n 2, 1) := by decide +kernel
theorem dX9_change_54 : decode cX9_change 54 = .ok (.iconst (-1), 1) := by decide +kernel
theorem dX9_change_55 : decode cX9_change 55 = .ok (.if_icmp .eq 15, 3) := by decide +kernel
theorem dX9_change_58 : decode cX9_change 58 = .ok (.aload_n 0, 1) := by decide +kernel
theorem dX9_change_59 : decode cX9_change 59 = .ok (.iload_n 2, 1) := by decide +kernel
theorem dX9_change_60 : decode cX9_change 60 = .ok (.invokevirtual 238, 3) := by decide +kernel
theorem dX9_change_63 : decode cX9_change 63 = .ok (.iconst 1, 1) := by decide +kernel
theorem dX9_change_64 : decode cX9_change 64 = .ok (.if_icmp .eq 6, 3) := by decide +kernel
theorem dX9_change_67 : decode cX9_change 67 = .ok (.bipush (-6), 2) := by decide +kernel
theorem dX9_change_69 : decode cX9_change 69 = .ok (.ireturn, 1) := by decide +kernel
theorem dX9_change_70 : decode cX9_change 70 = .ok (.aload_n 0, 1) := by decide +kernel
theorem dX9_change_71 : decode cX9_change 71 = .ok (.getfield 111, 3) := by decide +kernel
theorem dX9_change_74 : decode cX9_change 74 = .ok (.bipush 8, 2) := by decide +kernel
theorem dX9_change_76 : decode cX9_change 76 = .ok (.if_icmp .ne 6, 3) := by decide +kernel
theorem dX9_change_79 : decode cX9_change 79 = .ok (.bipush (-2), 2) := by decide +kernel
theorem dX9_change_81 : decode cX9_change 81 = .ok (.ireturn, 1) := by decide +kernel
theorem dX9_change_82 : decode cX9_change 82 = .ok (.aload_n 0, 1) := by decide +kernel
theorem dX9_change_83 : decode cX9_change 83 = .ok (.getfield 17, 3) := by decide +kernel
theorem dX9_change_86 : decode cX9_change 86 = .ok (.aload_n 0, 1) := by decide +kernel
theorem dX9_change_87 : decode cX9_change 87 = .ok (.getfield 111, 3) := by decide +kernel
theorem dX9_change_90 : decode cX9_change 90 = .ok (.iload_n 1, 1) := by decide +kernel
theorem dX9_change_91 : decode cX9_change 91 = .ok (.iastore, 1) := by decide +kernel
theorem dX9_change_92 : decode cX9_change 92 = .ok (.aload_n 0, 1) := by decide +kernel
theorem dX9_change_93 : decode cX9_change 93 = .ok (.getfield 20, 3) := by decide +kernel
theorem dX9_change_96 : decode cX9_change 96 = .ok (.aload_n 0, 1) := by decide +kernel
theorem dX9_change_97 : decode cX9_change 97 = .ok (.getfield 111, 3) := by decide +kernel
theorem dX9_change_100 : decode cX9_change 100 = .ok (.iload_n 2, 1) := by decide +kernel
theorem dX9_change_101 : decode cX9_change 101 = .ok (.iconst (-1), 1) := by decide +kernel
theorem dX9_change_102 : decode cX9_change 102 = .ok (.if_icmp .ne 7, 3) := by decide +kernel
theorem dX9_change_105 : decode cX9_change 105 = .ok (.lconst 0, 1) := by decide +kernel
theorem dX9_change_106 : decode cX9_change 106 = .ok (.goto 8, 3) := by decide +kernel
theorem dX9_change_109 : decode cX9_change 109 = .ok (.aload_n 0, 1) := by decide +kernel
theorem dX9_change_110 : decode cX9_change 110 = .ok (.iload_n 2, 1) := by decide +kernel
theorem dX9_change_111 : decode cX9_change 111 = .ok (.invokevirtual 287, 3) := by decide +kernel
theorem dX9_change_114 : decode cX9_change 114 = .ok (.lastore, 1) := by decide +kernel
theorem dX9_change_115 : decode cX9_change 115 = .ok (.aload_n 0, 1) := by decide +kernel
theorem dX9_change_116 : decode cX9_change 116 = .ok (.dup, 1) := by decide +kernel
theorem dX9_change_117 : decode cX9_change 117 = .ok (.getfield 111, 3) := by decide +kernel
theorem dX9_change_120 : decode cX9_change 120 = .ok (.iconst 1, 1) := by decide +kernel
theorem dX9_change_121 : decode cX9_change 121 = .ok (.iadd, 1) := by decide +kernel
theorem dX9_change_122 : decode cX9_change 122 = .ok (.putfield 111, 3) := by decide +kernel
theorem dX9_change_125 : decode cX9_change 125 = .ok (.aload_n 0, 1) := by decide +kernel
theorem dX9_change_126 : decode cX9_change 126 = .ok (.getfield 111, 3) := by decide +kernel
theorem dX9_change_129 : decode cX9_change 129 = .ok (.ireturn, 1) := by decide +kernel
theorem dX9_isRow_0 : decode cX9_isRow 0 = .ok (.iload_n 1, 1) := by decide +kernel
theorem dX9_isRow_1 : decode cX9_isRow 1 = .ok (.ifCond .lt 28, 3) := by decide +kernel
theorem dX9_isRow_4 : decode cX9_isRow 4 = .ok (.iload_n 1, 1) := by decide +kernel
theorem dX9_isRow_5 : decode cX9_isRow 5 = .ok (.aload_n 0, 1) := by decide +kernel
theorem dX9_isRow_6 : decode cX9_isRow 6 = .ok (.getfield 72, 3) := by decide +kernel
theorem dX9_isRow_9 : decode cX9_isRow 9 = .ok (.ifCond .eq 10, 3) := by decide +kernel
theorem dX9_isRow_12 : decode cX9_isRow 12 = .ok (.aload_n 0, 1) := by decide +kernel
theorem dX9_isRow_13 : decode cX9_isRow 13 = .ok (.invokevirtual 163, 3) := by decide +kernel
theorem dX9_isRow_16 : decode cX9_isRow 16 = .ok (.goto 6, 3) := by decide +kernel
theorem dX9_isRow_19 : decode cX9_isRow 19 = .ok (.sipush 128, 3) := by decide +kernel
theorem dX9_isRow_22 : decode cX9_isRow 22 = .ok (.if_icmp .ge 7, 3) := by decide +kernel
theorem dX9_isRow_25 : decode cX9_isRow 25 = .ok (.iconst 1, 1) := by decide +kernel
theorem dX9_isRow_26 : decode cX9_isRow 26 = .ok (.goto 4, 3) := by decide +kernel
theorem dX9_isRow_29 : decode cX9_isRow 29 = .ok (.iconst 0, 1) := by decide +kernel
theorem dX9_isRow_30 : decode cX9_isRow 30 = .ok (.ireturn, 1) := by decide +kernel
theorem dX9_sent_0 : decode cX9_sent 0 = .ok (.aload_n 0, 1) := by decide +kernel
theorem dX9_sent_1 : decode cX9_sent 1 = .ok (.aload_n 0, 1) := by decide +kernel
theorem dX9_sent_2 : decode cX9_sent 2 = .ok (.iload_n 1, 1) := by decide +kernel
theorem dX9_sent_3 : decode cX9_sent 3 = .ok (.invokevirtual 311, 3) := by decide +kernel
theorem dX9_sent_6 : decode cX9_sent 6 = .ok (.ifCond .ne 7, 3) := by decide +kernel
theorem dX9_sent_9 : decode cX9_sent 9 = .ok (.iconst 1, 1) := by decide +kernel
theorem dX9_sent_10 : decode cX9_sent 10 = .ok (.goto 15, 3) := by decide +kernel
theorem dX9_sent_13 : decode cX9_sent 13 = .ok (.aload_n 0, 1) := by decide +kernel
theorem dX9_sent_14 : decode cX9_sent 14 = .ok (.getfield 72, 3) := by decide +kernel
theorem dX9_sent_17 : decode cX9_sent 17 = .ok (.ifCond .ne 7, 3) := by decide +kernel
theorem dX9_sent_20 : decode cX9_sent 20 = .ok (.iconst 2, 1) := by decide +kernel
theorem dX9_sent_21 : decode cX9_sent 21 = .ok (.goto 4, 3) := by decide +kernel
theorem dX9_sent_24 : decode cX9_sent 24 = .ok (.iconst 0, 1) := by decide +kernel
theorem dX9_sent_25 : decode cX9_sent 25 = .ok (.putfield 91, 3) := by decide +kernel
theorem dX9_sent_28 : decode cX9_sent 28 = .ok (.aload_n 0, 1) := by decide +kernel
theorem dX9_sent_29 : decode cX9_sent 29 = .ok (.getfield 91, 3) := by decide +kernel
theorem dX9_sent_32 : decode cX9_sent 32 = .ok (.ifCond .ne 25, 3) := by decide +kernel
theorem dX9_sent_35 : decode cX9_sent 35 = .ok (.aload_n 0, 1) := by decide +kernel
theorem dX9_sent_36 : decode cX9_sent 36 = .ok (.iload_n 1, 1) := by decide +kernel
theorem dX9_sent_37 : decode cX9_sent 37 = .ok (.invokevirtual 170, 3) := by decide +kernel
theorem dX9_sent_40 : decode cX9_sent 40 = .ok (.iconst 1, 1) := by decide +kernel
theorem dX9_sent_41 : decode cX9_sent 41 = .ok (.if_icmp .ne 16, 3) := by decide +kernel
theorem dX9_sent_44 : decode cX9_sent 44 = .ok (.aload_n 0, 1) := by decide +kernel
theorem dX9_sent_45 : decode cX9_sent 45 = .ok (.iload_n 1, 1) := by decide +kernel
theorem dX9_sent_46 : decode cX9_sent 46 = .ok (.invokevirtual 160, 3) := by decide +kernel
theorem dX9_sent_49 : decode cX9_sent 49 = .ok (.iconst 1, 1) := by decide +kernel
theorem dX9_sent_50 : decode cX9_sent 50 = .ok (.if_icmp .ne 7, 3) := by decide +kernel
theorem dX9_sent_53 : decode cX9_sent 53 = .ok (.iconst 1, 1) := by decide +kernel
theorem dX9_sent_54 : decode cX9_sent 54 = .ok (.goto 4, 3) := by decide +kernel
theorem dX9_sent_57 : decode cX9_sent 57 = .ok (.iconst 0, 1) := by decide +kernel
theorem dX9_sent_58 : decode cX9_sent 58 = .ok (.ireturn, 1) := by decide +kernel
theorem dX9_page_0 : decode cX9_page 0 = .ok (.aload_n 0, 1) := by decide +kernel
theorem dX9_page_1 : decode cX9_page 1 = .ok (.aload_n 0, 1) := by decide +kernel
theorem dX9_page_2 : decode cX9_page 2 = .ok (.getfield 72, 3) := by decide +kernel
theorem dX9_page_5 : decode cX9_page 5 = .ok (.ifCond .eq 7, 3) := by decide +kernel
theorem dX9_page_8 : decode cX9_page 8 = .ok (.iconst 0, 1) := by decide +kernel
theorem dX9_page_9 : decode cX9_page 9 = .ok (.goto 4, 3) := by decide +kernel
theorem dX9_page_12 : decode cX9_page 12 = .ok (.iconst 1, 1) := by decide +kernel
theorem dX9_page_13 : decode cX9_page 13 = .ok (.putfield 91, 3) := by decide +kernel
theorem dX9_page_16 : decode cX9_page 16 = .ok (.aload_n 0, 1) := by decide +kernel
theorem dX9_page_17 : decode cX9_page 17 = .ok (.getfield 72, 3) := by decide +kernel
theorem dX9_page_20 : decode cX9_page 20 = .ok (.ifCond .eq 11, 3) := by decide +kernel
theorem dX9_page_23 : decode cX9_page 23 = .ok (.aload_n 0, 1) := by decide +kernel
theorem dX9_page_24 : decode cX9_page 24 = .ok (.lload_n 1, 1) := by decide +kernel
theorem dX9_page_25 : decode cX9_page 25 = .ok (.invokevirtual 317, 3) := by decide +kernel
theorem dX9_page_28 : decode cX9_page 28 = .ok (.goto 4, 3) := by decide +kernel
theorem dX9_page_31 : decode cX9_page 31 = .ok (.iconst 0, 1) := by decide +kernel
theorem dX9_page_32 : decode cX9_page 32 = .ok (.ireturn, 1) := by decide +kernel
theorem dX9_byteOf_0 : decode cX9_byteOf 0 = .ok (.aload_n 0, 1) := by decide +kernel
theorem dX9_byteOf_1 : decode cX9_byteOf 1 = .ok (.iload_n 1, 1) := by decide +kernel
theorem dX9_byteOf_2 : decode cX9_byteOf 2 = .ok (.iconst 0, 1) := by decide +kernel
theorem dX9_byteOf_3 : decode cX9_byteOf 3 = .ok (.aload_n 0, 1) := by decide +kernel
theorem dX9_byteOf_4 : decode cX9_byteOf 4 = .ok (.getfield 62, 3) := by decide +kernel
theorem dX9_byteOf_7 : decode cX9_byteOf 7 = .ok (.iconst 1, 1) := by decide +kernel
theorem dX9_byteOf_8 : decode cX9_byteOf 8 = .ok (.isub, 1) := by decide +kernel
theorem dX9_byteOf_9 : decode cX9_byteOf 9 = .ok (.invokestatic 138, 3) := by decide +kernel
theorem dX9_byteOf_12 : decode cX9_byteOf 12 = .ok (.ifCond .eq 13, 3) := by decide +kernel
theorem dX9_byteOf_15 : decode cX9_byteOf 15 = .ok (.iload_n 2, 1) := by decide +kernel
theorem dX9_byteOf_16 : decode cX9_byteOf 16 = .ok (.iconst 0, 1) := by decide +kernel
theorem dX9_byteOf_17 : decode cX9_byteOf 17 = .ok (.bipush 15, 2) := by decide +kernel
theorem dX9_byteOf_19 : decode cX9_byteOf 19 = .ok (.invokestatic 138, 3) := by decide +kernel
theorem dX9_byteOf_22 : decode cX9_byteOf 22 = .ok (.ifCond .ne 7, 3) := by decide +kernel
theorem dX9_byteOf_25 : decode cX9_byteOf 25 = .ok (.iconst 1, 1) := by decide +kernel
theorem dX9_byteOf_26 : decode cX9_byteOf 26 = .ok (.goto 15, 3) := by decide +kernel
theorem dX9_byteOf_29 : decode cX9_byteOf 29 = .ok (.aload_n 0, 1) := by decide +kernel
theorem dX9_byteOf_30 : decode cX9_byteOf 30 = .ok (.getfield 72, 3) := by decide +kernel
theorem dX9_byteOf_33 : decode cX9_byteOf 33 = .ok (.ifCond .ne 7, 3) := by decide +kernel
theorem dX9_byteOf_36 : decode cX9_byteOf 36 = .ok (.iconst 2, 1) := by decide +kernel
theorem dX9_byteOf_37 : decode cX9_byteOf 37 = .ok (.goto 4, 3) := by decide +kernel
theorem dX9_byteOf_40 : decode cX9_byteOf 40 = .ok (.iconst 0, 1) := by decide +kernel
theorem dX9_byteOf_41 : decode cX9_byteOf 41 = .ok (.putfield 91, 3) := by decide +kernel
theorem dX9_byteOf_44 : decode cX9_byteOf 44 = .ok (.aload_n 0, 1) := by decide +kernel
theorem dX9_byteOf_45 : decode cX9_byteOf 45 = .ok (.getfield 91, 3) := by decide +kernel
theorem dX9_byteOf_48 : decode cX9_byteOf 48 = .ok (.ifCond .le 5, 3) := by decide +kernel
theorem dX9_byteOf_51 : decode cX9_byteOf 51 = .ok (.iconst 0, 1) := by decide +kernel
theorem dX9_byteOf_52 : decode cX9_byteOf 52 = .ok (.ireturn, 1) := by decide +kernel
theorem dX9_byteOf_53 : decode cX9_byteOf 53 = .ok (.aload_n 0, 1) := by decide +kernel
theorem dX9_byteOf_54 : decode cX9_byteOf 54 = .ok (.iload_n 1, 1) := by decide +kernel
theorem dX9_byteOf_55 : decode cX9_byteOf 55 = .ok (.invokevirtual 154, 3) := by decide +kernel
theorem dX9_byteOf_58 : decode cX9_byteOf 58 = .ok (.istore_n 3, 1) := by decide +kernel
theorem dX9_byteOf_59 : decode cX9_byteOf 59 = .ok (.aload_n 0, 1) := by decide +kernel
theorem dX9_byteOf_60 : decode cX9_byteOf 60 = .ok (.iload_n 1, 1) := by decide +kernel
theorem dX9_byteOf_61 : decode cX9_byteOf 61 = .ok (.invokevirtual 238, 3) := by decide +kernel
theorem dX9_byteOf_64 : decode cX9_byteOf 64 = .ok (.iconst 1, 1) := by decide +kernel
theorem dX9_byteOf_65 : decode cX9_byteOf 65 = .ok (.if_icmp .ne 12, 3) := by decide +kernel
theorem dX9_byteOf_68 : decode cX9_byteOf 68 = .ok (.iload_n 2, 1) := by decide +kernel
theorem dX9_byteOf_69 : decode cX9_byteOf 69 = .ok (.aload_n 0, 1) := by decide +kernel
theorem dX9_byteOf_70 : decode cX9_byteOf 70 = .ok (.iload_n 3, 1) := by decide +kernel
theorem dX9_byteOf_71 : decode cX9_byteOf 71 = .ok (.invokevirtual 96, 3) := by decide +kernel
theorem dX9_byteOf_74 : decode cX9_byteOf 74 = .ok (.if_icmp .lt 7, 3) := by decide +kernel
theorem dX9_byteOf_77 : decode cX9_byteOf 77 = .ok (.iconst (-1), 1) := by decide +kernel
theorem dX9_byteOf_78 : decode cX9_byteOf 78 = .ok (.goto 12, 3) := by decide +kernel
theorem dX9_byteOf_81 : decode cX9_byteOf 81 = .ok (.aload_n 0, 1) := by decide +kernel
theorem dX9_byteOf_82 : decode cX9_byteOf 82 = .ok (.iload_n 3, 1) := by decide +kernel
theorem dX9_byteOf_83 : decode cX9_byteOf 83 = .ok (.iconst 1, 1) := by decide +kernel
theorem dX9_byteOf_84 : decode cX9_byteOf 84 = .ok (.iadd, 1) := by decide +kernel
theorem dX9_byteOf_85 : decode cX9_byteOf 85 = .ok (.iload_n 2, 1) := by decide +kernel
theorem dX9_byteOf_86 : decode cX9_byteOf 86 = .ok (.iadd, 1) := by decide +kernel
theorem dX9_byteOf_87 : decode cX9_byteOf 87 = .ok (.invokevirtual 96, 3) := by decide +kernel
theorem dX9_byteOf_90 : decode cX9_byteOf 90 = .ok (.ireturn, 1) := by decide +kernel
theorem dX9_slotsWithLeaf_0 : decode cX9_slotsWithLeaf 0 = .ok (.iconst 0, 1) := by decide +kernel
theorem dX9_slotsWithLeaf_1 : decode cX9_slotsWithLeaf 1 = .ok (.istore_n 1, 1) := by decide +kernel
theorem dX9_slotsWithLeaf_2 : decode cX9_slotsWithLeaf 2 = .ok (.iconst 0, 1) := by decide +kernel
theorem dX9_slotsWithLeaf_3 : decode cX9_slotsWithLeaf 3 = .ok (.istore_n 2, 1) := by decide +kernel
theorem dX9_slotsWithLeaf_4 : decode cX9_slotsWithLeaf 4 = .ok (.iload_n 2, 1) := by decide +kernel
theorem dX9_slotsWithLeaf_5 : decode cX9_slotsWithLeaf 5 = .ok (.bipush 16, 2) := by decide +kernel
theorem dX9_slotsWithLeaf_7 : decode cX9_slotsWithLeaf 7 = .ok (.if_icmp .ge 28, 3) := by decide +kernel
theorem dX9_slotsWithLeaf_10 : decode cX9_slotsWithLeaf 10 = .ok (.iload_n 1, 1) := by decide +kernel
theorem dX9_slotsWithLeaf_11 : decode cX9_slotsWithLeaf 11 = .ok (.aload_n 0, 1) := by decide +kernel
theorem dX9_slotsWithLeaf_12 : decode cX9_slotsWithLeaf 12 = .ok (.getfield 40, 3) := by decide +kernel
theorem dX9_slotsWithLeaf_15 : decode cX9_slotsWithLeaf 15 = .ok (.iload_n 2, 1) := by decide +kernel
theorem dX9_slotsWithLeaf_16 : decode cX9_slotsWithLeaf 16 = .ok (.laload, 1) := by decide +kernel
theorem dX9_slotsWithLeaf_17 : decode cX9_slotsWithLeaf 17 = .ok (.lconst 0, 1) := by decide +kernel
theorem dX9_slotsWithLeaf_18 : decode cX9_slotsWithLeaf 18 = .ok (.lcmp, 1) := by decide +kernel
theorem dX9_slotsWithLeaf_19 : decode cX9_slotsWithLeaf 19 = .ok (.ifCond .eq 7, 3) := by decide +kernel
theorem dX9_slotsWithLeaf_22 : decode cX9_slotsWithLeaf 22 = .ok (.iconst 1, 1) := by decide +kernel
theorem dX9_slotsWithLeaf_23 : decode cX9_slotsWithLeaf 23 = .ok (.goto 4, 3) := by decide +kernel
theorem dX9_slotsWithLeaf_26 : decode cX9_slotsWithLeaf 26 = .ok (.iconst 0, 1) := by decide +kernel
theorem dX9_slotsWithLeaf_27 : decode cX9_slotsWithLeaf 27 = .ok (.iadd, 1) := by decide +kernel
theorem dX9_slotsWithLeaf_28 : decode cX9_slotsWithLeaf 28 = .ok (.istore_n 1, 1) := by decide +kernel
theorem dX9_slotsWithLeaf_29 : decode cX9_slotsWithLeaf 29 = .ok (.iinc 2 1, 3) := by decide +kernel
theorem dX9_slotsWithLeaf_32 : decode cX9_slotsWithLeaf 32 = .ok (.goto (-28), 3) := by decide +kernel
theorem dX9_slotsWithLeaf_35 : decode cX9_slotsWithLeaf 35 = .ok (.iload_n 1, 1) := by decide +kernel
theorem dX9_slotsWithLeaf_36 : decode cX9_slotsWithLeaf 36 = .ok (.ireturn, 1) := by decide +kernel
theorem dX9_head_0 : decode cX9_head 0 = .ok (.aload_n 0, 1) := by decide +kernel
theorem dX9_head_1 : decode cX9_head 1 = .ok (.iconst 0, 1) := by decide +kernel
theorem dX9_head_2 : decode cX9_head 2 = .ok (.aload_n 0, 1) := by decide +kernel
theorem dX9_head_3 : decode cX9_head 3 = .ok (.bipush 16, 2) := by decide +kernel
theorem dX9_head_5 : decode cX9_head 5 = .ok (.iconst 1, 1) := by decide +kernel
theorem dX9_head_6 : decode cX9_head 6 = .ok (.iload_n 1, 1) := by decide +kernel
theorem dX9_head_7 : decode cX9_head 7 = .ok (.isub, 1) := by decide +kernel
theorem dX9_head_8 : decode cX9_head 8 = .ok (.imul, 1) := by decide +kernel
theorem dX9_head_9 : decode cX9_head 9 = .ok (.iconst 4, 1) := by decide +kernel
theorem dX9_head_10 : decode cX9_head 10 = .ok (.invokevirtual 131, 3) := by decide +kernel
theorem dX9_head_13 : decode cX9_head 13 = .ok (.lconst 1, 1) := by decide +kernel
theorem dX9_head_14 : decode cX9_head 14 = .ok (.ladd, 1) := by decide +kernel
theorem dX9_head_15 : decode cX9_head 15 = .ok (.iconst 4, 1) := by decide +kernel
theorem dX9_head_16 : decode cX9_head 16 = .ok (.invokevirtual 121, 3) := by decide +kernel
theorem dX9_head_19 : decode cX9_head 19 = .ok (.aload_n 0, 1) := by decide +kernel
theorem dX9_head_20 : decode cX9_head 20 = .ok (.iconst 4, 1) := by decide +kernel
theorem dX9_head_21 : decode cX9_head 21 = .ok (.ldc2_w 251, 3) := by decide +kernel
theorem dX9_head_24 : decode cX9_head 24 = .ok (.iconst 4, 1) := by decide +kernel
theorem dX9_head_25 : decode cX9_head 25 = .ok (.invokevirtual 121, 3) := by decide +kernel
theorem dX9_head_28 : decode cX9_head 28 = .ok (.aload_n 0, 1) := by decide +kernel
theorem dX9_head_29 : decode cX9_head 29 = .ok (.bipush 8, 2) := by decide +kernel
theorem dX9_head_31 : decode cX9_head 31 = .ok (.aload_n 0, 1) := by decide +kernel
theorem dX9_head_32 : decode cX9_head 32 = .ok (.iconst 1, 1) := by decide +kernel
theorem dX9_head_33 : decode cX9_head 33 = .ok (.bipush 8, 2) := by decide +kernel
theorem dX9_head_35 : decode cX9_head 35 = .ok (.invokevirtual 124, 3) := by decide +kernel
theorem dX9_head_38 : decode cX9_head 38 = .ok (.bipush 8, 2) := by decide +kernel
theorem dX9_head_40 : decode cX9_head 40 = .ok (.invokevirtual 121, 3) := by decide +kernel
theorem dX9_head_43 : decode cX9_head 43 = .ok (.aload_n 0, 1) := by decide +kernel
theorem dX9_head_44 : decode cX9_head 44 = .ok (.bipush 16, 2) := by decide +kernel
theorem dX9_head_46 : decode cX9_head 46 = .ok (.iload_n 1, 1) := by decide +kernel
theorem dX9_head_47 : decode cX9_head 47 = .ok (.imul, 1) := by decide +kernel
theorem dX9_head_48 : decode cX9_head 48 = .ok (.bipush 16, 2) := by decide +kernel
theorem dX9_head_50 : decode cX9_head 50 = .ok (.invokevirtual 281, 3) := by decide +kernel
theorem dX9_head_53 : decode cX9_head 53 = .ok (.return_, 1) := by decide +kernel
theorem dX9_toTape_0 : decode cX9_toTape 0 = .ok (.iload_n 3, 1) := by decide +kernel
theorem dX9_toTape_1 : decode cX9_toTape 1 = .ok (.iconst 1, 1) := by decide +kernel
theorem dX9_toTape_2 : decode cX9_toTape 2 = .ok (.isub, 1) := by decide +kernel
theorem dX9_toTape_3 : decode cX9_toTape 3 = .ok (.istore 4, 2) := by decide +kernel
theorem dX9_toTape_5 : decode cX9_toTape 5 = .ok (.iload 4, 2) := by decide +kernel
theorem dX9_toTape_7 : decode cX9_toTape 7 = .ok (.ifCond .lt 37, 3) := by decide +kernel
theorem dX9_toTape_10 : decode cX9_toTape 10 = .ok (.aload_n 0, 1) := by decide +kernel
theorem dX9_toTape_11 : decode cX9_toTape 11 = .ok (.getfield 14, 3) := by decide +kernel
theorem dX9_toTape_14 : decode cX9_toTape 14 = .ok (.aload_n 0, 1) := by decide +kernel
theorem dX9_toTape_15 : decode cX9_toTape 15 = .ok (.dup, 1) := by decide +kernel
theorem dX9_toTape_16 : decode cX9_toTape 16 = .ok (.getfield 271, 3) := by decide +kernel
theorem dX9_toTape_19 : decode cX9_toTape 19 = .ok (.dup_x1, 1) := by decide +kernel
theorem dX9_toTape_20 : decode cX9_toTape 20 = .ok (.iconst 1, 1) := by decide +kernel
theorem dX9_toTape_21 : decode cX9_toTape 21 = .ok (.iadd, 1) := by decide +kernel
theorem dX9_toTape_22 : decode cX9_toTape 22 = .ok (.putfield 271, 3) := by decide +kernel
theorem dX9_toTape_25 : decode cX9_toTape 25 = .ok (.lload_n 1, 1) := by decide +kernel
theorem dX9_toTape_26 : decode cX9_toTape 26 = .ok (.bipush 8, 2) := by decide +kernel
theorem dX9_toTape_28 : decode cX9_toTape 28 = .ok (.iload 4, 2) := by decide +kernel
theorem dX9_toTape_30 : decode cX9_toTape 30 = .ok (.imul, 1) := by decide +kernel
theorem dX9_toTape_31 : decode cX9_toTape 31 = .ok (.lushr, 1) := by decide +kernel
theorem dX9_toTape_32 : decode cX9_toTape 32 = .ok (.ldc2_w 94, 3) := by decide +kernel
theorem dX9_toTape_35 : decode cX9_toTape 35 = .ok (.land, 1) := by decide +kernel
theorem dX9_toTape_36 : decode cX9_toTape 36 = .ok (.l2i, 1) := by decide +kernel
theorem dX9_toTape_37 : decode cX9_toTape 37 = .ok (.iastore, 1) := by decide +kernel
theorem dX9_toTape_38 : decode cX9_toTape 38 = .ok (.iinc 4 (-1), 3) := by decide +kernel
theorem dX9_toTape_41 : decode cX9_toTape 41 = .ok (.goto (-36), 3) := by decide +kernel
theorem dX9_toTape_44 : decode cX9_toTape 44 = .ok (.return_, 1) := by decide +kernel
theorem dX9_tapeSum_0 : decode cX9_tapeSum 0 = .ok (.ldc2_w 350, 3) := by decide +kernel
theorem dX9_tapeSum_3 : decode cX9_tapeSum 3 = .ok (.lstore_n 2, 1) := by decide +kernel
theorem dX9_tapeSum_4 : decode cX9_tapeSum 4 = .ok (.iconst 0, 1) := by decide +kernel
theorem dX9_tapeSum_5 : decode cX9_tapeSum 5 = .ok (.istore 4, 2) := by decide +kernel
theorem dX9_tapeSum_7 : decode cX9_tapeSum 7 = .ok (.iload 4, 2) := by decide +kernel
theorem dX9_tapeSum_9 : decode cX9_tapeSum 9 = .ok (.iload_n 1, 1) := by decide +kernel
theorem dX9_tapeSum_10 : decode cX9_tapeSum 10 = .ok (.if_icmp .ge 21, 3) := by decide +kernel
theorem dX9_tapeSum_13 : decode cX9_tapeSum 13 = .ok (.lload_n 2, 1) := by decide +kernel
theorem dX9_tapeSum_14 : decode cX9_tapeSum 14 = .ok (.aload_n 0, 1) := by decide +kernel
theorem dX9_tapeSum_15 : decode cX9_tapeSum 15 = .ok (.getfield 14, 3) := by decide +kernel
theorem dX9_tapeSum_18 : decode cX9_tapeSum 18 = .ok (.iload 4, 2) := by decide +kernel
theorem dX9_tapeSum_20 : decode cX9_tapeSum 20 = .ok (.iaload, 1) := by decide +kernel
theorem dX9_tapeSum_21 : decode cX9_tapeSum 21 = .ok (.invokestatic 104, 3) := by decide +kernel
theorem dX9_tapeSum_24 : decode cX9_tapeSum 24 = .ok (.lstore_n 2, 1) := by decide +kernel
theorem dX9_tapeSum_25 : decode cX9_tapeSum 25 = .ok (.iinc 4 1, 3) := by decide +kernel
theorem dX9_tapeSum_28 : decode cX9_tapeSum 28 = .ok (.goto (-21), 3) := by decide +kernel
theorem dX9_tapeSum_31 : decode cX9_tapeSum 31 = .ok (.lload_n 2, 1) := by decide +kernel
theorem dX9_tapeSum_32 : decode cX9_tapeSum 32 = .ok (.lreturn, 1) := by decide +kernel
theorem dX9_fromTape_0 : decode cX9_fromTape 0 = .ok (.lconst 0, 1) := by decide +kernel
theorem dX9_fromTape_1 : decode cX9_fromTape 1 = .ok (.lstore_n 3, 1) := by decide +kernel
theorem dX9_fromTape_2 : decode cX9_fromTape 2 = .ok (.iconst 0, 1) := by decide +kernel
theorem dX9_fromTape_3 : decode cX9_fromTape 3 = .ok (.istore 5, 2) := by decide +kernel
theorem dX9_fromTape_5 : decode cX9_fromTape 5 = .ok (.iload 5, 2) := by decide +kernel
theorem dX9_fromTape_7 : decode cX9_fromTape 7 = .ok (.iload_n 2, 1) := by decide +kernel
theorem dX9_fromTape_8 : decode cX9_fromTape 8 = .ok (.if_icmp .ge 25, 3) := by decide +kernel
theorem dX9_fromTape_11 : decode cX9_fromTape 11 = .ok (.lload_n 3, 1) := by decide +kernel
theorem dX9_fromTape_12 : decode cX9_fromTape 12 = .ok (.bipush 8, 2) := by decide +kernel
theorem dX9_fromTape_14 : decode cX9_fromTape 14 = .ok (.lshl, 1) := by decide +kernel
theorem dX9_fromTape_15 : decode cX9_fromTape 15 = .ok (.aload_n 0, 1) := by decide +kernel
theorem dX9_fromTape_16 : decode cX9_fromTape 16 = .ok (.getfield 14, 3) := by decide +kernel
theorem dX9_fromTape_19 : decode cX9_fromTape 19 = .ok (.iload_n 1, 1) := by decide +kernel
theorem dX9_fromTape_20 : decode cX9_fromTape 20 = .ok (.iload 5, 2) := by decide +kernel
theorem dX9_fromTape_22 : decode cX9_fromTape 22 = .ok (.iadd, 1) := by decide +kernel
theorem dX9_fromTape_23 : decode cX9_fromTape 23 = .ok (.iaload, 1) := by decide +kernel
theorem dX9_fromTape_24 : decode cX9_fromTape 24 = .ok (.i2l, 1) := by decide +kernel
theorem dX9_fromTape_25 : decode cX9_fromTape 25 = .ok (.lor, 1) := by decide +kernel
theorem dX9_fromTape_26 : decode cX9_fromTape 26 = .ok (.lstore_n 3, 1) := by decide +kernel
theorem dX9_fromTape_27 : decode cX9_fromTape 27 = .ok (.iinc 5 1, 3) := by decide +kernel
theorem dX9_fromTape_30 : decode cX9_fromTape 30 = .ok (.goto (-25), 3) := by decide +kernel
theorem dX9_fromTape_33 : decode cX9_fromTape 33 = .ok (.lload_n 3, 1) := by decide +kernel
theorem dX9_fromTape_34 : decode cX9_fromTape 34 = .ok (.lreturn, 1) := by decide +kernel
theorem dX9_freePages_0 : decode cX9_freePages 0 = .ok (.iconst 0, 1) := by decide +kernel
theorem dX9_freePages_1 : decode cX9_freePages 1 = .ok (.istore_n 1, 1) := by decide +kernel
theorem dX9_freePages_2 : decode cX9_freePages 2 = .ok (.iconst 0, 1) := by decide +kernel
theorem dX9_freePages_3 : decode cX9_freePages 3 = .ok (.istore_n 2, 1) := by decide +kernel
theorem dX9_freePages_4 : decode cX9_freePages 4 = .ok (.iload_n 2, 1) := by decide +kernel
theorem dX9_freePages_5 : decode cX9_freePages 5 = .ok (.aload_n 0, 1) := by decide +kernel
theorem dX9_freePages_6 : decode cX9_freePages 6 = .ok (.getfield 62, 3) := by decide +kernel
theorem dX9_freePages_9 : decode cX9_freePages 9 = .ok (.if_icmp .ge 25, 3) := by decide +kernel
theorem dX9_freePages_12 : decode cX9_freePages 12 = .ok (.iload_n 1, 1) := by decide +kernel
theorem dX9_freePages_13 : decode cX9_freePages 13 = .ok (.aload_n 0, 1) := by decide +kernel
theorem dX9_freePages_14 : decode cX9_freePages 14 = .ok (.iload_n 2, 1) := by decide +kernel
theorem dX9_freePages_15 : decode cX9_freePages 15 = .ok (.invokevirtual 238, 3) := by decide +kernel
theorem dX9_freePages_18 : decode cX9_freePages 18 = .ok (.ifCond .ne 7, 3) := by decide +kernel
theorem dX9_freePages_21 : decode cX9_freePages 21 = .ok (.iconst 1, 1) := by decide +kernel
theorem dX9_freePages_22 : decode cX9_freePages 22 = .ok (.goto 4, 3) := by decide +kernel
theorem dX9_freePages_25 : decode cX9_freePages 25 = .ok (.iconst 0, 1) := by decide +kernel
theorem dX9_freePages_26 : decode cX9_freePages 26 = .ok (.iadd, 1) := by decide +kernel
theorem dX9_freePages_27 : decode cX9_freePages 27 = .ok (.istore_n 1, 1) := by decide +kernel
theorem dX9_freePages_28 : decode cX9_freePages 28 = .ok (.iinc 2 1, 3) := by decide +kernel
theorem dX9_freePages_31 : decode cX9_freePages 31 = .ok (.goto (-27), 3) := by decide +kernel
theorem dX9_freePages_34 : decode cX9_freePages 34 = .ok (.iload_n 1, 1) := by decide +kernel
theorem dX9_freePages_35 : decode cX9_freePages 35 = .ok (.ireturn, 1) := by decide +kernel
theorem dX9_cut_0 : decode cX9_cut 0 = .ok (.aload_n 0, 1) := by decide +kernel
theorem dX9_cut_1 : decode cX9_cut 1 = .ok (.iload_n 1, 1) := by decide +kernel
theorem dX9_cut_2 : decode cX9_cut 2 = .ok (.iconst (-1), 1) := by decide +kernel
theorem dX9_cut_3 : decode cX9_cut 3 = .ok (.sipush 5000, 3) := by decide +kernel
theorem dX9_cut_6 : decode cX9_cut 6 = .ok (.invokestatic 138, 3) := by decide +kernel
theorem dX9_cut_9 : decode cX9_cut 9 = .ok (.ifCond .eq 7, 3) := by decide +kernel
