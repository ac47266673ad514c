theorem dX9_open_16 : decode cX9_open 16 = .ok (.ireturn, 1) := by decide +kernel
theorem dX9_badPages_0 : decode cX9_badPages 0 = .ok (.iconst 0, 1) := by decide +kernel
theorem dX9_badPages_1 : decode cX9_badPages 1 = .ok (.istore_n 1, 1) := by decide +kernel
theorem dX9_badPages_2 : decode cX9_badPages 2 = .ok (.iconst 0, 1) := by decide +kernel
theorem dX9_badPages_3 : decode cX9_badPages 3 = .ok (.istore_n 2, 1) := by decide +kernel
theorem dX9_badPages_4 : decode cX9_badPages 4 = .ok (.iload_n 2, 1) := by decide +kernel
theorem dX9_badPages_5 : decode cX9_badPages 5 = .ok (.aload_n 0, 1) := by decide +kernel
theorem dX9_badPages_6 : decode cX9_badPages 6 = .ok (.getfield 62, 3) := by decide +kernel
theorem dX9_badPages_9 : decode cX9_badPages 9 = .ok (.if_icmp .ge 26, 3) := by decide +kernel
theorem dX9_badPages_12 : decode cX9_badPages 12 = .ok (.iload_n 1, 1) := by decide +kernel
theorem dX9_badPages_13 : decode cX9_badPages 13 = .ok (.aload_n 0, 1) := by decide +kernel
theorem dX9_badPages_14 : decode cX9_badPages 14 = .ok (.iload_n 2, 1) := by decide +kernel
theorem dX9_badPages_15 : decode cX9_badPages 15 = .ok (.invokevirtual 238, 3) := by decide +kernel
theorem dX9_badPages_18 : decode cX9_badPages 18 = .ok (.iconst 3, 1) := by decide +kernel
theorem dX9_badPages_19 : decode cX9_badPages 19 = .ok (.if_icmp .ne 7, 3) := by decide +kernel
theorem dX9_badPages_26 : decode cX9_badPages 26 = .ok (.iconst 0, 1) := by decide +kernel
theorem dX9_badPages_27 : decode cX9_badPages 27 = .ok (.iadd, 1) := by decide +kernel
theorem dX9_badPages_28 : decode cX9_badPages 28 = .ok (.istore_n 1, 1) := by decide +kernel
theorem dX9_badPages_29 : decode cX9_badPages 29 = .ok (.iinc 2 1, 3) := by decide +kernel
theorem dX9_badPages_32 : decode cX9_badPages 32 = .ok (.goto (-28), 3) := by decide +kernel
theorem dX9_badPages_35 : decode cX9_badPages 35 = .ok (.iload_n 1, 1) := by decide +kernel
theorem dX9_badPages_36 : decode cX9_badPages 36 = .ok (.ireturn, 1) := by decide +kernel
theorem dX9_asked_0 : decode cX9_asked 0 = .ok (.aload_n 0, 1) := by decide +kernel
theorem dX9_asked_1 : decode cX9_asked 1 = .ok (.aload_n 0, 1) := by decide +kernel
theorem dX9_asked_2 : decode cX9_asked 2 = .ok (.getfield 72, 3) := by decide +kernel
theorem dX9_asked_5 : decode cX9_asked 5 = .ok (.ifCond .eq 7, 3) := by decide +kernel
theorem dX9_asked_8 : decode cX9_asked 8 = .ok (.iconst 0, 1) := by decide +kernel
theorem dX9_asked_9 : decode cX9_asked 9 = .ok (.goto 4, 3) := by decide +kernel
theorem dX9_asked_13 : decode cX9_asked 13 = .ok (.putfield 91, 3) := by decide +kernel
theorem dX9_asked_16 : decode cX9_asked 16 = .ok (.aload_n 0, 1) := by decide +kernel
theorem dX9_asked_17 : decode cX9_asked 17 = .ok (.getfield 72, 3) := by decide +kernel
theorem dX9_asked_20 : decode cX9_asked 20 = .ok (.ifCond .eq 7, 3) := by decide +kernel
theorem dX9_asked_23 : decode cX9_asked 23 = .ok (.iload_n 1, 1) := by decide +kernel
theorem dX9_asked_24 : decode cX9_asked 24 = .ok (.ifCond .ge 5, 3) := by decide +kernel
theorem dX9_asked_27 : decode cX9_asked 27 = .ok (.iconst (-1), 1) := by decide +kernel
theorem dX9_asked_28 : decode cX9_asked 28 = .ok (.ireturn, 1) := by decide +kernel
theorem dX9_asked_29 : decode cX9_asked 29 = .ok (.iload_n 1, 1) := by decide +kernel
theorem dX9_asked_30 : decode cX9_asked 30 = .ok (.istore_n 2, 1) := by decide +kernel
theorem dX9_asked_31 : decode cX9_asked 31 = .ok (.aload_n 0, 1) := by decide +kernel
theorem dX9_asked_32 : decode cX9_asked 32 = .ok (.invokevirtual 163, 3) := by decide +kernel
theorem dX9_asked_35 : decode cX9_asked 35 = .ok (.istore_n 3, 1) := by decide +kernel
theorem dX9_asked_36 : decode cX9_asked 36 = .ok (.iconst 0, 1) := by decide +kernel
theorem dX9_asked_37 : decode cX9_asked 37 = .ok (.istore 4, 2) := by decide +kernel
theorem dX9_asked_39 : decode cX9_asked 39 = .ok (.iload 4, 2) := by decide +kernel
theorem dX9_asked_41 : decode cX9_asked 41 = .ok (.iload_n 3, 1) := by decide +kernel
theorem dX9_asked_42 : decode cX9_asked 42 = .ok (.if_icmp .ge 29, 3) := by decide +kernel
theorem dX9_asked_71 : decode cX9_asked 71 = .ok (.iconst 0, 1) := by decide +kernel
theorem dX9_asked_72 : decode cX9_asked 72 = .ok (.istore 4, 2) := by decide +kernel
theorem dX9_asked_74 : decode cX9_asked 74 = .ok (.iload 4, 2) := by decide +kernel
theorem dX9_asked_76 : decode cX9_asked 76 = .ok (.aload_n 0, 1) := by decide +kernel
theorem dX9_asked_77 : decode cX9_asked 77 = .ok (.getfield 62, 3) := by decide +kernel
theorem dX9_asked_80 : decode cX9_asked 80 = .ok (.if_icmp .ge 33, 3) := by decide +kernel
theorem dX9_asked_83 : decode cX9_asked 83 = .ok (.aload_n 0, 1) := by decide +kernel
theorem dX9_asked_84 : decode cX9_asked 84 = .ok (.iload 4, 2) := by decide +kernel
theorem dX9_asked_86 : decode cX9_asked 86 = .ok (.invokevirtual 238, 3) := by decide +kernel
theorem dX9_asked_89 : decode cX9_asked 89 = .ok (.iconst 3, 1) := by decide +kernel
theorem dX9_asked_90 : decode cX9_asked 90 = .ok (.if_icmp .ne 17, 3) := by decide +kernel
theorem dX9_asked_107 : decode cX9_asked 107 = .ok (.iinc 4 1, 3) := by decide +kernel
theorem dX9_asked_110 : decode cX9_asked 110 = .ok (.goto (-36), 3) := by decide +kernel
theorem dX9_asked_113 : decode cX9_asked 113 = .ok (.iconst (-1), 1) := by decide +kernel
theorem dX9_asked_114 : decode cX9_asked 114 = .ok (.ireturn, 1) := by decide +kernel
theorem dX9_isAsked_0 : decode cX9_isAsked 0 = .ok (.iload_n 1, 1) := by decide +kernel
theorem dX9_isAsked_1 : decode cX9_isAsked 1 = .ok (.ifCond .lt 15, 3) := by decide +kernel
theorem dX9_isAsked_4 : decode cX9_isAsked 4 = .ok (.iload_n 1, 1) := by decide +kernel
theorem dX9_isAsked_5 : decode cX9_isAsked 5 = .ok (.sipush 128, 3) := by decide +kernel
theorem dX9_isAsked_8 : decode cX9_isAsked 8 = .ok (.aload_n 0, 1) := by decide +kernel
theorem dX9_isAsked_9 : decode cX9_isAsked 9 = .ok (.getfield 62, 3) := by decide +kernel
theorem dX9_isAsked_12 : decode cX9_isAsked 12 = .ok (.iadd, 1) := by decide +kernel
theorem dX9_isAsked_13 : decode cX9_isAsked 13 = .ok (.if_icmp .lt 5, 3) := by decide +kernel
theorem dX9_isAsked_16 : decode cX9_isAsked 16 = .ok (.iconst 0, 1) := by decide +kernel
theorem dX9_isAsked_17 : decode cX9_isAsked 17 = .ok (.ireturn, 1) := by decide +kernel
theorem dX9_isAsked_18 : decode cX9_isAsked 18 = .ok (.iload_n 1, 1) := by decide +kernel
theorem dX9_isAsked_19 : decode cX9_isAsked 19 = .ok (.sipush 128, 3) := by decide +kernel
theorem dX9_isAsked_22 : decode cX9_isAsked 22 = .ok (.if_icmp .ge 28, 3) := by decide +kernel
theorem dX9_isAsked_25 : decode cX9_isAsked 25 = .ok (.iload_n 1, 1) := by decide +kernel
theorem dX9_isAsked_26 : decode cX9_isAsked 26 = .ok (.aload_n 0, 1) := by decide +kernel
theorem dX9_isAsked_27 : decode cX9_isAsked 27 = .ok (.invokevirtual 163, 3) := by decide +kernel
theorem dX9_isAsked_30 : decode cX9_isAsked 30 = .ok (.if_icmp .ge 16, 3) := by decide +kernel
theorem dX9_isAsked_46 : decode cX9_isAsked 46 = .ok (.iconst 0, 1) := by decide +kernel
theorem dX9_isAsked_47 : decode cX9_isAsked 47 = .ok (.goto 21, 3) := by decide +kernel
theorem dX9_isAsked_50 : decode cX9_isAsked 50 = .ok (.aload_n 0, 1) := by decide +kernel
theorem dX9_isAsked_51 : decode cX9_isAsked 51 = .ok (.iload_n 1, 1) := by decide +kernel
theorem dX9_isAsked_52 : decode cX9_isAsked 52 = .ok (.sipush 128, 3) := by decide +kernel
theorem dX9_isAsked_55 : decode cX9_isAsked 55 = .ok (.isub, 1) := by decide +kernel
theorem dX9_isAsked_56 : decode cX9_isAsked 56 = .ok (.invokevirtual 238, 3) := by decide +kernel
theorem dX9_isAsked_59 : decode cX9_isAsked 59 = .ok (.iconst 3, 1) := by decide +kernel
theorem dX9_isAsked_60 : decode cX9_isAsked 60 = .ok (.if_icmp .ne 7, 3) := by decide +kernel
theorem dX9_isAsked_67 : decode cX9_isAsked 67 = .ok (.iconst 0, 1) := by decide +kernel
theorem dX9_isAsked_68 : decode cX9_isAsked 68 = .ok (.ireturn, 1) := by decide +kernel
theorem dX9_mend_0 : decode cX9_mend 0 = .ok (.aload_n 0, 1) := by decide +kernel
theorem dX9_mend_1 : decode cX9_mend 1 = .ok (.aload_n 0, 1) := by decide +kernel
theorem dX9_mend_2 : decode cX9_mend 2 = .ok (.getfield 72, 3) := by decide +kernel
theorem dX9_mend_5 : decode cX9_mend 5 = .ok (.ifCond .ne 7, 3) := by decide +kernel
theorem dX9_mend_12 : decode cX9_mend 12 = .ok (.aload_n 0, 1) := by decide +kernel
theorem dX9_mend_13 : decode cX9_mend 13 = .ok (.iload_n 1, 1) := by decide +kernel
theorem dX9_mend_14 : decode cX9_mend 14 = .ok (.invokevirtual 268, 3) := by decide +kernel
theorem dX9_mend_17 : decode cX9_mend 17 = .ok (.ifCond .ne 7, 3) := by decide +kernel
theorem dX9_mend_20 : decode cX9_mend 20 = .ok (.iconst 2, 1) := by decide +kernel
theorem dX9_mend_21 : decode cX9_mend 21 = .ok (.goto 4, 3) := by decide +kernel
theorem dX9_mend_25 : decode cX9_mend 25 = .ok (.putfield 91, 3) := by decide +kernel
theorem dX9_mend_28 : decode cX9_mend 28 = .ok (.aload_n 0, 1) := by decide +kernel
theorem dX9_mend_29 : decode cX9_mend 29 = .ok (.getfield 91, 3) := by decide +kernel
theorem dX9_mend_32 : decode cX9_mend 32 = .ok (.ifCond .le 5, 3) := by decide +kernel
theorem dX9_mend_35 : decode cX9_mend 35 = .ok (.iconst 0, 1) := by decide +kernel
theorem dX9_mend_36 : decode cX9_mend 36 = .ok (.ireturn, 1) := by decide +kernel
theorem dX9_feed_0 : decode cX9_feed 0 = .ok (.aload_n 0, 1) := by decide +kernel
theorem dX9_feed_1 : decode cX9_feed 1 = .ok (.iload_n 3, 1) := by decide +kernel
theorem dX9_feed_2 : decode cX9_feed 2 = .ok (.iconst 1, 1) := by decide +kernel
theorem dX9_feed_3 : decode cX9_feed 3 = .ok (.bipush 8, 2) := by decide +kernel
theorem dX9_feed_5 : decode cX9_feed 5 = .ok (.invokestatic 138, 3) := by decide +kernel
theorem dX9_feed_8 : decode cX9_feed 8 = .ok (.ifCond .eq 15, 3) := by decide +kernel
theorem dX9_feed_11 : decode cX9_feed 11 = .ok (.aload_n 0, 1) := by decide +kernel
theorem dX9_feed_12 : decode cX9_feed 12 = .ok (.getfield 271, 3) := by decide +kernel
theorem dX9_feed_15 : decode cX9_feed 15 = .ok (.iload_n 3, 1) := by decide +kernel
theorem dX9_feed_16 : decode cX9_feed 16 = .ok (.iadd, 1) := by decide +kernel
theorem dX9_feed_17 : decode cX9_feed 17 = .ok (.sipush 400, 3) := by decide +kernel
theorem dX9_feed_20 : decode cX9_feed 20 = .ok (.if_icmp .le 7, 3) := by decide +kernel
theorem dX9_feed_23 : decode cX9_feed 23 = .ok (.iconst 1, 1) := by decide +kernel
theorem dX9_feed_24 : decode cX9_feed 24 = .ok (.goto 4, 3) := by decide +kernel
theorem dX9_feed_27 : decode cX9_feed 27 = .ok (.iconst 0, 1) := by decide +kernel
theorem dX9_feed_28 : decode cX9_feed 28 = .ok (.putfield 91, 3) := by decide +kernel
theorem dX9_feed_31 : decode cX9_feed 31 = .ok (.aload_n 0, 1) := by decide +kernel
theorem dX9_feed_32 : decode cX9_feed 32 = .ok (.getfield 91, 3) := by decide +kernel
theorem dX9_feed_35 : decode cX9_feed 35 = .ok (.ifCond .le 5, 3) := by decide +kernel
theorem dX9_feed_38 : decode cX9_feed 38 = .ok (.iconst 0, 1) := by decide +kernel
theorem dX9_feed_39 : decode cX9_feed 39 = .ok (.ireturn, 1) := by decide +kernel
theorem dX9_feed_40 : decode cX9_feed 40 = .ok (.iload_n 3, 1) := by decide +kernel
theorem dX9_feed_41 : decode cX9_feed 41 = .ok (.iconst 1, 1) := by decide +kernel
theorem dX9_feed_42 : decode cX9_feed 42 = .ok (.isub, 1) := by decide +kernel
theorem dX9_feed_43 : decode cX9_feed 43 = .ok (.istore 4, 2) := by decide +kernel
theorem dX9_feed_45 : decode cX9_feed 45 = .ok (.iload 4, 2) := by decide +kernel
theorem dX9_feed_47 : decode cX9_feed 47 = .ok (.ifCond .lt 37, 3) := by decide +kernel
theorem dX9_feed_50 : decode cX9_feed 50 = .ok (.aload_n 0, 1) := by decide +kernel
theorem dX9_feed_51 : decode cX9_feed 51 = .ok (.getfield 14, 3) := by decide +kernel
theorem dX9_feed_54 : decode cX9_feed 54 = .ok (.aload_n 0, 1) := by decide +kernel
theorem dX9_feed_55 : decode cX9_feed 55 = .ok (.dup, 1) := by decide +kernel
theorem dX9_feed_56 : decode cX9_feed 56 = .ok (.getfield 271, 3) := by decide +kernel
theorem dX9_feed_59 : decode cX9_feed 59 = .ok (.dup_x1, 1) := by decide +kernel
theorem dX9_feed_60 : decode cX9_feed 60 = .ok (.iconst 1, 1) := by decide +kernel
theorem dX9_feed_61 : decode cX9_feed 61 = .ok (.iadd, 1) := by decide +kernel
theorem dX9_feed_62 : decode cX9_feed 62 = .ok (.putfield 271, 3) := by decide +kernel
theorem dX9_feed_65 : decode cX9_feed 65 = .ok (.lload_n 1, 1) := by decide +kernel
theorem dX9_feed_66 : decode cX9_feed 66 = .ok (.bipush 8, 2) := by decide +kernel
theorem dX9_feed_68 : decode cX9_feed 68 = .ok (.iload 4, 2) := by decide +kernel
theorem dX9_feed_70 : decode cX9_feed 70 = .ok (.imul, 1) := by decide +kernel
theorem dX9_feed_71 : decode cX9_feed 71 = .ok (.lushr, 1) := by decide +kernel
theorem dX9_feed_72 : decode cX9_feed 72 = .ok (.ldc2_w 94, 3) := by decide +kernel
theorem dX9_feed_75 : decode cX9_feed 75 = .ok (.land, 1) := by decide +kernel
theorem dX9_feed_76 : decode cX9_feed 76 = .ok (.l2i, 1) := by decide +kernel
theorem dX9_feed_77 : decode cX9_feed 77 = .ok (.iastore, 1) := by decide +kernel
theorem dX9_feed_78 : decode cX9_feed 78 = .ok (.iinc 4 (-1), 3) := by decide +kernel
theorem dX9_feed_81 : decode cX9_feed 81 = .ok (.goto (-36), 3) := by decide +kernel
theorem dX9_feed_84 : decode cX9_feed 84 = .ok (.aload_n 0, 1) := by decide +kernel
theorem dX9_feed_85 : decode cX9_feed 85 = .ok (.getfield 271, 3) := by decide +kernel
theorem dX9_feed_88 : decode cX9_feed 88 = .ok (.ireturn, 1) := by decide +kernel
theorem dX9_wipe_0 : decode cX9_wipe 0 = .ok (.aload_n 0, 1) := by decide +kernel
theorem dX9_wipe_1 : decode cX9_wipe 1 = .ok (.iconst 0, 1) := by decide +kernel
theorem dX9_wipe_2 : decode cX9_wipe 2 = .ok (.putfield 91, 3) := by decide +kernel
theorem dX9_wipe_5 : decode cX9_wipe 5 = .ok (.aload_n 0, 1) := by decide +kernel
theorem dX9_wipe_6 : decode cX9_wipe 6 = .ok (.getfield 271, 3) := by decide +kernel
theorem dX9_wipe_9 : decode cX9_wipe 9 = .ok (.istore_n 1, 1) := by decide +kernel
theorem dX9_wipe_10 : decode cX9_wipe 10 = .ok (.aload_n 0, 1) := by decide +kernel
theorem dX9_wipe_11 : decode cX9_wipe 11 = .ok (.iconst 0, 1) := by decide +kernel
theorem dX9_wipe_12 : decode cX9_wipe 12 = .ok (.putfield 271, 3) := by decide +kernel
theorem dX9_wipe_15 : decode cX9_wipe 15 = .ok (.iload_n 1, 1) := by decide +kernel
theorem dX9_wipe_16 : decode cX9_wipe 16 = .ok (.ireturn, 1) := by decide +kernel
theorem dX9_at_0 : decode cX9_at 0 = .ok (.aload_n 0, 1) := by decide +kernel
theorem dX9_at_1 : decode cX9_at 1 = .ok (.iload_n 1, 1) := by decide +kernel
theorem dX9_at_2 : decode cX9_at 2 = .ok (.iconst 0, 1) := by decide +kernel
theorem dX9_at_3 : decode cX9_at 3 = .ok (.aload_n 0, 1) := by decide +kernel
theorem dX9_at_4 : decode cX9_at 4 = .ok (.getfield 271, 3) := by decide +kernel
theorem dX9_at_7 : decode cX9_at 7 = .ok (.iconst 1, 1) := by decide +kernel
theorem dX9_at_8 : decode cX9_at 8 = .ok (.isub, 1) := by decide +kernel
theorem dX9_at_9 : decode cX9_at 9 = .ok (.invokestatic 138, 3) := by decide +kernel
theorem dX9_at_12 : decode cX9_at 12 = .ok (.ifCond .eq 7, 3) := by decide +kernel
theorem dX9_at_19 : decode cX9_at 19 = .ok (.iconst 1, 1) := by decide +kernel
theorem dX9_at_20 : decode cX9_at 20 = .ok (.putfield 91, 3) := by decide +kernel
theorem dX9_at_23 : decode cX9_at 23 = .ok (.aload_n 0, 1) := by decide +kernel
theorem dX9_at_24 : decode cX9_at 24 = .ok (.getfield 91, 3) := by decide +kernel
theorem dX9_at_27 : decode cX9_at 27 = .ok (.ifCond .le 7, 3) := by decide +kernel
theorem dX9_at_30 : decode cX9_at 30 = .ok (.iconst 0, 1) := by decide +kernel
theorem dX9_at_31 : decode cX9_at 31 = .ok (.goto 9, 3) := by decide +kernel
theorem dX9_at_40 : decode cX9_at 40 = .ok (.ireturn, 1) := by decide +kernel
theorem dX9_leaf_0 : decode cX9_leaf 0 = .ok (.aload_n 0, 1) := by decide +kernel
theorem dX9_leaf_1 : decode cX9_leaf 1 = .ok (.aload_n 0, 1) := by decide +kernel
theorem dX9_leaf_2 : decode cX9_leaf 2 = .ok (.getfield 72, 3) := by decide +kernel
theorem dX9_leaf_5 : decode cX9_leaf 5 = .ok (.ifCond .ne 7, 3) := by decide +kernel
theorem dX9_leaf_12 : decode cX9_leaf 12 = .ok (.aload_n 0, 1) := by decide +kernel
theorem dX9_leaf_13 : decode cX9_leaf 13 = .ok (.getfield 271, 3) := by decide +kernel
theorem dX9_leaf_16 : decode cX9_leaf 16 = .ok (.iconst 1, 1) := by decide +kernel
theorem dX9_leaf_17 : decode cX9_leaf 17 = .ok (.bipush 16, 2) := by decide +kernel
theorem dX9_leaf_19 : decode cX9_leaf 19 = .ok (.invokestatic 138, 3) := by decide +kernel
theorem dX9_leaf_22 : decode cX9_leaf 22 = .ok (.ifCond .ne 7, 3) := by decide +kernel
theorem dX9_leaf_25 : decode cX9_leaf 25 = .ok (.iconst 2, 1) := by decide +kernel
theorem dX9_leaf_26 : decode cX9_leaf 26 = .ok (.goto 4, 3) := by decide +kernel
theorem dX9_leaf_30 : decode cX9_leaf 30 = .ok (.putfield 91, 3) := by decide +kernel
theorem dX9_leaf_33 : decode cX9_leaf 33 = .ok (.aload_n 0, 1) := by decide +kernel
theorem dX9_leaf_34 : decode cX9_leaf 34 = .ok (.getfield 91, 3) := by decide +kernel
theorem dX9_leaf_37 : decode cX9_leaf 37 = .ok (.ifCond .le 5, 3) := by decide +kernel
theorem dX9_leaf_40 : decode cX9_leaf 40 = .ok (.iconst 0, 1) := by decide +kernel
theorem dX9_leaf_41 : decode cX9_leaf 41 = .ok (.ireturn, 1) := by decide +kernel
theorem dX9_change_0 : decode cX9_change 0 = .ok (.aload_n 0, 1) := by decide +kernel
theorem dX9_change_1 : decode cX9_change 1 = .ok (.aload_n 0, 1) := by decide +kernel
theorem dX9_change_2 : decode cX9_change 2 = .ok (.getfield 72, 3) := by decide +kernel
theorem dX9_change_5 : decode cX9_change 5 = .ok (.ifCond .ne 7, 3) := by decide +kernel
theorem dX9_change_12 : decode cX9_change 12 = .ok (.iload_n 1, 1) := by decide +kernel
theorem dX9_change_13 : decode cX9_change 13 = .ok (.iconst 0, 1) := by decide +kernel
theorem dX9_change_14 : decode cX9_change 14 = .ok (.bipush 15, 2) := by decide +kernel
theorem dX9_change_16 : decode cX9_change 16 = .ok (.invokestatic 138, 3) := by decide +kernel
theorem dX9_change_19 : decode cX9_change 19 = .ok (.ifCond .eq 17, 3) := by decide +kernel
theorem dX9_change_22 : decode cX9_change 22 = .ok (.iload_n 2, 1) := by decide +kernel
theorem dX9_change_23 : decode cX9_change 23 = .ok (.iconst (-1), 1) := by decide +kernel
theorem dX9_change_24 : decode cX9_change 24 = .ok (.aload_n 0, 1) := by decide +kernel
theorem dX9_change_25 : decode cX9_change 25 = .ok (.getfield 62, 3) := by decide +kernel
theorem dX9_change_28 : decode cX9_change 28 = .ok (.iconst 1, 1) := by decide +kernel
theorem dX9_change_29 : decode cX9_change 29 = .ok (.isub, 1) := by decide +kernel
theorem dX9_change_30 : decode cX9_change 30 = .ok (.invokestatic 138, 3) := by decide +kernel
theorem dX9_change_33 : decode cX9_change 33 = .ok (.ifCond .ne 7, 3) := by decide +kernel
theorem dX9_change_36 : decode cX9_change 36 = .ok (.iconst 2, 1) := by decide +kernel
theorem dX9_change_37 : decode cX9_change 37 = .ok (.goto 4, 3) := by decide +kernel
theorem dX9_change_40 : decode cX9_change 40 = .ok (.iconst 0, 1) := by decide +kernel
theorem dX9_change_41 : decode cX9_change 41 = .ok (.putfield 91, 3) := by decide +kernel
theorem dX9_change_44 : decode cX9_change 44 = .ok (.aload_n 0, 1) := by decide +kernel
theorem dX9_change_45 : decode cX9_change 45 = .ok (.getfield 91, 3) := by decide +kernel
theorem dX9_change_48 : decode cX9_change 48 = .ok (.ifCond .le 5, 3) := by decide +kernel
theorem dX9_change_51 : decode cX9_change 51 = .ok (.iconst 0, 1) := by decide +kernel
theorem dX9_change_52 : decode cX9_change 52 = .ok (.ireturn, 1) := by decide +kernel
theorem dX9_change_53 : decode cX9_change 53 = .ok (.iload_n 2, 1) := by decide +kernel
theorem dX9_change_54 : decode cX9_change 54 = .ok (.iconst (-1), 1) := by decide +kernel
theorem dX9_change_55 : decode cX9_change 55 = .ok (.if_icmp .eq 15, 3) := by decide +kernel
theorem dX9_change_58 : decode cX9_change 58 = .ok (.aload_n 0, 1) := by decide +kernel
theorem dX9_change_59 : decode cX9_change 59 = .ok (.iload_n 2, 1) := by decide +kernel
theorem dX9_change_60 : decode cX9_change 60 = .ok (.invokevirtual 238, 3) := by decide +kernel
theorem dX9_change_63 : decode cX9_change 63 = .ok (.iconst 1, 1) := by decide +kernel
theorem dX9_change_64 : decode cX9_change 64 = .ok (.if_icmp .eq 6, 3) := by decide +kernel
theorem dX9_change_67 : decode cX9_change 67 = .ok (.bipush (-6), 2) := by decide +kernel
theorem dX9_change_69 : decode cX9_change 69 = .ok (.ireturn, 1) := by decide +kernel
theorem dX9_change_70 : decode cX9_change 70 = .ok (.aload_n 0, 1) := by decide +kernel
theorem dX9_change_71 : decode cX9_change 71 = .ok (.getfield 111, 3) := by decide +kernel
theorem dX9_change_74 : decode cX9_change 74 = .ok (.bipush 8, 2) := by decide +kernel
theorem dX9_change_76 : decode cX9_change 76 = .ok (.if_icmp .ne 6, 3) := by decide +kernel
theorem dX9_change_82 : decode cX9_change 82 = .ok (.aload_n 0, 1) := by decide +kernel
theorem dX9_change_83 : decode cX9_change 83 = .ok (.getfield 17, 3) := by decide +kernel
theorem dX9_change_86 : decode cX9_change 86 = .ok (.aload_n 0, 1) := by decide +kernel
theorem dX9_change_87 : decode cX9_change 87 = .ok (.getfield 111, 3) := by decide +kernel
theorem dX9_change_90 : decode cX9_change 90 = .ok (.iload_n 1, 1) := by decide +kernel
theorem dX9_change_91 : decode cX9_change 91 = .ok (.iastore, 1) := by decide +kernel
theorem dX9_change_92 : decode cX9_change 92 = .ok (.aload_n 0, 1) := by decide +kernel
theorem dX9_change_93 : decode cX9_change 93 = .ok (.getfield 20, 3) := by decide +kernel
theorem dX9_change_96 : decode cX9_change 96 = .ok (.aload_n 0, 1) := by decide +kernel
theorem dX9_change_97 : decode cX9_change 97 = .ok (.getfield 111, 3) := by decide +kernel
theorem dX9_change_100 : decode cX9_change 100 = .ok (.iload_n 2, 1) := by decide +kernel
theorem dX9_change_101 : decode cX9_change 101 = .ok (.iconst (-1), 1) := by decide +kernel
theorem dX9_change_102 : decode cX9_change 102 = .ok (.if_icmp .ne 7, 3) := by decide +kernel
theorem dX9_change_105 : decode cX9_change 105 = .ok (.lconst 0, 1) := by decide +kernel
theorem dX9_change_106 : decode cX9_change 106 = .ok (.goto 8, 3) := by decide +kernel
theorem dX9_change_114 : decode cX9_change 114 = .ok (.lastore, 1) := by decide +kernel
theorem dX9_change_115 : decode cX9_change 115 = .ok (.aload_n 0, 1) := by decide +kernel
theorem dX9_change_116 : decode cX9_change 116 = .ok (.dup, 1) := by decide +kernel
theorem dX9_change_117 : decode cX9_change 117 = .ok (.getfield 111, 3) := by decide +kernel
theorem dX9_change_120 : decode cX9_change 120 = .ok (.iconst 1, 1) := by decide +kernel
theorem dX9_change_121 : decode cX9_change 121 = .ok (.iadd, 1) := by decide +kernel
theorem dX9_change_122 : decode cX9_change 122 = .ok (.putfield 111, 3) := by decide +kernel
theorem dX9_change_125 : decode cX9_change 125 = .ok (.aload_n 0, 1) := by decide +kernel
theorem dX9_change_126 : decode cX9_change 126 = .ok (.getfield 111, 3) := by decide +kernel
theorem dX9_change_129 : decode cX9_change 129 = .ok (.ireturn, 1) := by decide +kernel
theorem dX9_meant_0 : decode cX9_meant 0 = .ok (.lload_n 1, 1) := by decide +kernel
theorem dX9_meant_1 : decode cX9_meant 1 = .ok (.ldc2_w 296, 3) := by decide +kernel
theorem dX9_meant_4 : decode cX9_meant 4 = .ok (.lcmp, 1) := by decide +kernel
theorem dX9_meant_5 : decode cX9_meant 5 = .ok (.ifCond .lt 46, 3) := by decide +kernel
theorem dX9_meant_8 : decode cX9_meant 8 = .ok (.lload_n 1, 1) := by decide +kernel
theorem dX9_meant_9 : decode cX9_meant 9 = .ok (.ldc2_w 298, 3) := by decide +kernel
theorem dX9_meant_12 : decode cX9_meant 12 = .ok (.lcmp, 1) := by decide +kernel
theorem dX9_meant_13 : decode cX9_meant 13 = .ok (.ifCond .gt 38, 3) := by decide +kernel
theorem dX9_meant_16 : decode cX9_meant 16 = .ok (.ldc2_w 298, 3) := by decide +kernel
theorem dX9_meant_19 : decode cX9_meant 19 = .ok (.lload_n 1, 1) := by decide +kernel
theorem dX9_meant_20 : decode cX9_meant 20 = .ok (.lsub, 1) := by decide +kernel
theorem dX9_meant_21 : decode cX9_meant 21 = .ok (.l2i, 1) := by decide +kernel
theorem dX9_meant_22 : decode cX9_meant 22 = .ok (.istore_n 3, 1) := by decide +kernel
theorem dX9_meant_23 : decode cX9_meant 23 = .ok (.iload_n 3, 1) := by decide +kernel
theorem dX9_meant_24 : decode cX9_meant 24 = .ok (.aload_n 0, 1) := by decide +kernel
theorem dX9_meant_25 : decode cX9_meant 25 = .ok (.getfield 167, 3) := by decide +kernel
theorem dX9_meant_28 : decode cX9_meant 28 = .ok (.if_icmp .ge 21, 3) := by decide +kernel
theorem dX9_meant_49 : decode cX9_meant 49 = .ok (.lconst 0, 1) := by decide +kernel
theorem dX9_meant_50 : decode cX9_meant 50 = .ok (.lreturn, 1) := by decide +kernel
theorem dX9_meant_51 : decode cX9_meant 51 = .ok (.lload_n 1, 1) := by decide +kernel
theorem dX9_meant_52 : decode cX9_meant 52 = .ok (.lreturn, 1) := by decide +kernel
theorem dX9_block_0 : decode cX9_block 0 = .ok (.aload_n 0, 1) := by decide +kernel
theorem dX9_block_1 : decode cX9_block 1 = .ok (.aload_n 0, 1) := by decide +kernel
theorem dX9_block_2 : decode cX9_block 2 = .ok (.getfield 72, 3) := by decide +kernel
theorem dX9_block_5 : decode cX9_block 5 = .ok (.ifCond .ne 7, 3) := by decide +kernel
theorem dX9_block_12 : decode cX9_block 12 = .ok (.iload_n 1, 1) := by decide +kernel
theorem dX9_block_13 : decode cX9_block 13 = .ok (.iconst 1, 1) := by decide +kernel
theorem dX9_block_14 : decode cX9_block 14 = .ok (.ldc 208, 2) := by decide +kernel
theorem dX9_block_16 : decode cX9_block 16 = .ok (.invokestatic 138, 3) := by decide +kernel
theorem dX9_block_19 : decode cX9_block 19 = .ok (.ifCond .ne 7, 3) := by decide +kernel
theorem dX9_block_22 : decode cX9_block 22 = .ok (.iconst 2, 1) := by decide +kernel
theorem dX9_block_23 : decode cX9_block 23 = .ok (.goto 4, 3) := by decide +kernel
theorem dX9_block_26 : decode cX9_block 26 = .ok (.iconst 0, 1) := by decide +kernel
theorem dX9_block_27 : decode cX9_block 27 = .ok (.putfield 91, 3) := by decide +kernel
theorem dX9_block_30 : decode cX9_block 30 = .ok (.aload_n 0, 1) := by decide +kernel
theorem dX9_block_31 : decode cX9_block 31 = .ok (.getfield 91, 3) := by decide +kernel
theorem dX9_block_34 : decode cX9_block 34 = .ok (.ifCond .le 5, 3) := by decide +kernel
theorem dX9_block_37 : decode cX9_block 37 = .ok (.iconst 0, 1) := by decide +kernel
theorem dX9_block_38 : decode cX9_block 38 = .ok (.ireturn, 1) := by decide +kernel
theorem dX9_block_39 : decode cX9_block 39 = .ok (.aload_n 0, 1) := by decide +kernel
theorem dX9_block_40 : decode cX9_block 40 = .ok (.invokevirtual 300, 3) := by decide +kernel
theorem dX9_block_43 : decode cX9_block 43 = .ok (.aload_n 0, 1) := by decide +kernel
theorem dX9_block_44 : decode cX9_block 44 = .ok (.getfield 176, 3) := by decide +kernel
theorem dX9_block_47 : decode cX9_block 47 = .ok (.ifCond .eq 6, 3) := by decide +kernel
theorem dX9_block_53 : decode cX9_block 53 = .ok (.aload_n 0, 1) := by decide +kernel
theorem dX9_block_54 : decode cX9_block 54 = .ok (.lload_n 2, 1) := by decide +kernel
theorem dX9_block_55 : decode cX9_block 55 = .ok (.invokevirtual 303, 3) := by decide +kernel
theorem dX9_block_58 : decode cX9_block 58 = .ok (.lstore 4, 2) := by decide +kernel
theorem dX9_block_60 : decode cX9_block 60 = .ok (.lload 4, 2) := by decide +kernel
theorem dX9_block_62 : decode cX9_block 62 = .ok (.lconst 0, 1) := by decide +kernel
theorem dX9_block_63 : decode cX9_block 63 = .ok (.lcmp, 1) := by decide +kernel
theorem dX9_block_64 : decode cX9_block 64 = .ok (.ifCond .ne 7, 3) := by decide +kernel
theorem dX9_block_67 : decode cX9_block 67 = .ok (.iconst (-1), 1) := by decide +kernel
theorem dX9_block_68 : decode cX9_block 68 = .ok (.goto 13, 3) := by decide +kernel
theorem dX9_block_71 : decode cX9_block 71 = .ok (.aload_n 0, 1) := by decide +kernel
theorem dX9_block_72 : decode cX9_block 72 = .ok (.lload 4, 2) := by decide +kernel
theorem dX9_block_74 : decode cX9_block 74 = .ok (.aload_n 0, 1) := by decide +kernel
theorem dX9_block_75 : decode cX9_block 75 = .ok (.getfield 167, 3) := by decide +kernel
theorem dX9_block_78 : decode cX9_block 78 = .ok (.invokevirtual 228, 3) := by decide +kernel
theorem dX9_block_81 : decode cX9_block 81 = .ok (.istore 6, 2) := by decide +kernel
theorem dX9_block_83 : decode cX9_block 83 = .ok (.iload 6, 2) := by decide +kernel
theorem dX9_block_85 : decode cX9_block 85 = .ok (.iconst (-1), 1) := by decide +kernel
theorem dX9_block_86 : decode cX9_block 86 = .ok (.if_icmp .ne 24, 3) := by decide +kernel
theorem dX9_block_89 : decode cX9_block 89 = .ok (.aload_n 0, 1) := by decide +kernel
theorem dX9_block_90 : decode cX9_block 90 = .ok (.getfield 189, 3) := by decide +kernel
theorem dX9_block_93 : decode cX9_block 93 = .ok (.ifCond .eq 17, 3) := by decide +kernel
theorem dX9_block_110 : decode cX9_block 110 = .ok (.iconst 0, 1) := by decide +kernel
theorem dX9_block_111 : decode cX9_block 111 = .ok (.istore 7, 2) := by decide +kernel
theorem dX9_block_113 : decode cX9_block 113 = .ok (.lload 4, 2) := by decide +kernel
theorem dX9_block_115 : decode cX9_block 115 = .ok (.lconst 0, 1) := by decide +kernel
theorem dX9_block_116 : decode cX9_block 116 = .ok (.lcmp, 1) := by decide +kernel
theorem dX9_block_117 : decode cX9_block 117 = .ok (.ifCond .ne 14, 3) := by decide +kernel
theorem dX9_block_120 : decode cX9_block 120 = .ok (.aload_n 0, 1) := by decide +kernel
theorem dX9_block_121 : decode cX9_block 121 = .ok (.getfield 189, 3) := by decide +kernel
theorem dX9_block_124 : decode cX9_block 124 = .ok (.ifCond .ne 7, 3) := by decide +kernel
theorem dX9_block_127 : decode cX9_block 127 = .ok (.iconst 1, 1) := by decide +kernel
theorem dX9_block_128 : decode cX9_block 128 = .ok (.goto 4, 3) := by decide +kernel
theorem dX9_block_131 : decode cX9_block 131 = .ok (.iconst 0, 1) := by decide +kernel
theorem dX9_block_132 : decode cX9_block 132 = .ok (.istore 8, 2) := by decide +kernel
theorem dX9_block_134 : decode cX9_block 134 = .ok (.iload 6, 2) := by decide +kernel
theorem dX9_block_136 : decode cX9_block 136 = .ok (.iconst (-1), 1) := by decide +kernel
theorem dX9_block_137 : decode cX9_block 137 = .ok (.if_icmp .ne 16, 3) := by decide +kernel
theorem dX9_block_140 : decode cX9_block 140 = .ok (.iload 7, 2) := by decide +kernel
theorem dX9_block_142 : decode cX9_block 142 = .ok (.ifCond .ne 11, 3) := by decide +kernel
theorem dX9_block_145 : decode cX9_block 145 = .ok (.iload 8, 2) := by decide +kernel
theorem dX9_block_147 : decode cX9_block 147 = .ok (.ifCond .ne 6, 3) := by decide +kernel
theorem dX9_block_150 : decode cX9_block 150 = .ok (.bipush (-6), 2) := by decide +kernel
theorem dX9_block_152 : decode cX9_block 152 = .ok (.ireturn, 1) := by decide +kernel
theorem dX9_block_153 : decode cX9_block 153 = .ok (.iload 6, 2) := by decide +kernel
theorem dX9_block_155 : decode cX9_block 155 = .ok (.iconst (-1), 1) := by decide +kernel
theorem dX9_block_156 : decode cX9_block 156 = .ok (.if_icmp .eq 12, 3) := by decide +kernel
theorem dX9_block_168 : decode cX9_block 168 = .ok (.iload 7, 2) := by decide +kernel
theorem dX9_block_170 : decode cX9_block 170 = .ok (.ifCond .eq 10, 3) := by decide +kernel
theorem dX9_block_180 : decode cX9_block 180 = .ok (.iconst 0, 1) := by decide +kernel
theorem dX9_block_181 : decode cX9_block 181 = .ok (.istore 9, 2) := by decide +kernel
theorem dX9_block_183 : decode cX9_block 183 = .ok (.iload_n 1, 1) := by decide +kernel
theorem dX9_block_184 : decode cX9_block 184 = .ok (.iload 9, 2) := by decide +kernel
theorem dX9_block_186 : decode cX9_block 186 = .ok (.iconst 1, 1) := by decide +kernel
theorem dX9_block_187 : decode cX9_block 187 = .ok (.iadd, 1) := by decide +kernel
theorem dX9_block_188 : decode cX9_block 188 = .ok (.if_icmp .eq 6, 3) := by decide +kernel
theorem dX9_block_191 : decode cX9_block 191 = .ok (.bipush (-10), 2) := by decide +kernel
theorem dX9_block_193 : decode cX9_block 193 = .ok (.ireturn, 1) := by decide +kernel
theorem dX9_block_194 : decode cX9_block 194 = .ok (.aload_n 0, 1) := by decide +kernel
theorem dX9_block_195 : decode cX9_block 195 = .ok (.aload_n 0, 1) := by decide +kernel
theorem dX9_block_196 : decode cX9_block 196 = .ok (.ldc2_w 222, 3) := by decide +kernel
theorem dX9_block_199 : decode cX9_block 199 = .ok (.iload_n 1, 1) := by decide +kernel
theorem dX9_block_200 : decode cX9_block 200 = .ok (.i2l, 1) := by decide +kernel
theorem dX9_block_201 : decode cX9_block 201 = .ok (.iconst 4, 1) := by decide +kernel
theorem dX9_block_202 : decode cX9_block 202 = .ok (.invokevirtual 224, 3) := by decide +kernel
theorem dX9_block_205 : decode cX9_block 205 = .ok (.lload 4, 2) := by decide +kernel
theorem dX9_block_207 : decode cX9_block 207 = .ok (.bipush 8, 2) := by decide +kernel
theorem dX9_block_209 : decode cX9_block 209 = .ok (.invokevirtual 224, 3) := by decide +kernel
theorem dX9_block_212 : decode cX9_block 212 = .ok (.lstore 10, 2) := by decide +kernel
theorem dX9_block_214 : decode cX9_block 214 = .ok (.iconst 0, 1) := by decide +kernel
theorem dX9_block_215 : decode cX9_block 215 = .ok (.istore 12, 2) := by decide +kernel
theorem dX9_block_217 : decode cX9_block 217 = .ok (.iload 12, 2) := by decide +kernel
theorem dX9_block_219 : decode cX9_block 219 = .ok (.aload_n 0, 1) := by decide +kernel
theorem dX9_block_220 : decode cX9_block 220 = .ok (.getfield 111, 3) := by decide +kernel
theorem dX9_block_223 : decode cX9_block 223 = .ok (.if_icmp .ge 39, 3) := by decide +kernel
theorem dX9_block_262 : decode cX9_block 262 = .ok (.aload_n 0, 1) := by decide +kernel
theorem dX9_block_263 : decode cX9_block 263 = .ok (.lload 10, 2) := by decide +kernel
theorem dX9_block_265 : decode cX9_block 265 = .ok (.aload_n 0, 1) := by decide +kernel
theorem dX9_block_266 : decode cX9_block 266 = .ok (.getfield 167, 3) := by decide +kernel
theorem dX9_block_269 : decode cX9_block 269 = .ok (.invokevirtual 228, 3) := by decide +kernel
theorem dX9_block_272 : decode cX9_block 272 = .ok (.istore 12, 2) := by decide +kernel
theorem dX9_block_274 : decode cX9_block 274 = .ok (.iload 12, 2) := by decide +kernel
theorem dX9_block_276 : decode cX9_block 276 = .ok (.iconst (-1), 1) := by decide +kernel
theorem dX9_block_277 : decode cX9_block 277 = .ok (.if_icmp .eq 11, 3) := by decide +kernel
theorem dX9_block_288 : decode cX9_block 288 = .ok (.aload_n 0, 1) := by decide +kernel
theorem dX9_block_289 : decode cX9_block 289 = .ok (.getfield 167, 3) := by decide +kernel
theorem dX9_block_292 : decode cX9_block 292 = .ok (.iconst 1, 1) := by decide +kernel
theorem dX9_block_293 : decode cX9_block 293 = .ok (.iadd, 1) := by decide +kernel
theorem dX9_block_294 : decode cX9_block 294 = .ok (.aload_n 0, 1) := by decide +kernel
theorem dX9_block_295 : decode cX9_block 295 = .ok (.getfield 111, 3) := by decide +kernel
theorem dX9_block_298 : decode cX9_block 298 = .ok (.iadd, 1) := by decide +kernel
theorem dX9_block_299 : decode cX9_block 299 = .ok (.sipush 128, 3) := by decide +kernel
theorem dX9_block_302 : decode cX9_block 302 = .ok (.if_icmp .le 6, 3) := by decide +kernel
theorem dX9_block_308 : decode cX9_block 308 = .ok (.aload_n 0, 1) := by decide +kernel
theorem dX9_block_309 : decode cX9_block 309 = .ok (.getfield 111, 3) := by decide +kernel
theorem dX9_block_312 : decode cX9_block 312 = .ok (.istore 13, 2) := by decide +kernel
theorem dX9_block_314 : decode cX9_block 314 = .ok (.aload_n 0, 1) := by decide +kernel
theorem dX9_block_315 : decode cX9_block 315 = .ok (.iconst 2, 1) := by decide +kernel
theorem dX9_block_316 : decode cX9_block 316 = .ok (.iload_n 1, 1) := by decide +kernel
theorem dX9_block_317 : decode cX9_block 317 = .ok (.iload 13, 2) := by decide +kernel
theorem dX9_block_319 : decode cX9_block 319 = .ok (.lload 4, 2) := by decide +kernel
theorem dX9_block_321 : decode cX9_block 321 = .ok (.invokevirtual 307, 3) := by decide +kernel
theorem dX9_block_324 : decode cX9_block 324 = .ok (.aload_n 0, 1) := by decide +kernel
theorem dX9_block_325 : decode cX9_block 325 = .ok (.aload_n 0, 1) := by decide +kernel
theorem dX9_block_326 : decode cX9_block 326 = .ok (.aload_n 0, 1) := by decide +kernel
theorem dX9_block_327 : decode cX9_block 327 = .ok (.getfield 76, 3) := by decide +kernel
theorem dX9_block_330 : decode cX9_block 330 = .ok (.aload_n 0, 1) := by decide +kernel
theorem dX9_block_331 : decode cX9_block 331 = .ok (.getfield 167, 3) := by decide +kernel
theorem dX9_block_334 : decode cX9_block 334 = .ok (.invokevirtual 146, 3) := by decide +kernel
theorem dX9_block_337 : decode cX9_block 337 = .ok (.bipush 32, 2) := by decide +kernel
theorem dX9_block_339 : decode cX9_block 339 = .ok (.invokevirtual 281, 3) := by decide +kernel
theorem dX9_block_342 : decode cX9_block 342 = .ok (.iconst 0, 1) := by decide +kernel
theorem dX9_block_343 : decode cX9_block 343 = .ok (.istore 14, 2) := by decide +kernel
theorem dX9_block_345 : decode cX9_block 345 = .ok (.iload 14, 2) := by decide +kernel
theorem dX9_block_347 : decode cX9_block 347 = .ok (.iload 13, 2) := by decide +kernel
theorem dX9_block_349 : decode cX9_block 349 = .ok (.if_icmp .ge 52, 3) := by decide +kernel
theorem dX9_block_401 : decode cX9_block 401 = .ok (.aload_n 0, 1) := by decide +kernel
theorem dX9_block_402 : decode cX9_block 402 = .ok (.iconst 0, 1) := by decide +kernel
theorem dX9_block_403 : decode cX9_block 403 = .ok (.putfield 111, 3) := by decide +kernel
theorem dX9_block_406 : decode cX9_block 406 = .ok (.aload_n 0, 1) := by decide +kernel
theorem dX9_block_407 : decode cX9_block 407 = .ok (.aload_n 0, 1) := by decide +kernel
theorem dX9_block_408 : decode cX9_block 408 = .ok (.getfield 167, 3) := by decide +kernel
theorem dX9_block_411 : decode cX9_block 411 = .ok (.iconst 1, 1) := by decide +kernel
theorem dX9_block_412 : decode cX9_block 412 = .ok (.iadd, 1) := by decide +kernel
theorem dX9_block_413 : decode cX9_block 413 = .ok (.iload 13, 2) := by decide +kernel
theorem dX9_block_415 : decode cX9_block 415 = .ok (.iadd, 1) := by decide +kernel
theorem dX9_block_416 : decode cX9_block 416 = .ok (.putfield 157, 3) := by decide +kernel
theorem dX9_block_419 : decode cX9_block 419 = .ok (.aload_n 0, 1) := by decide +kernel
theorem dX9_block_420 : decode cX9_block 420 = .ok (.getfield 108, 3) := by decide +kernel
theorem dX9_block_423 : decode cX9_block 423 = .ok (.ifCond .eq 8, 3) := by decide +kernel
theorem dX9_block_431 : decode cX9_block 431 = .ok (.aload_n 0, 1) := by decide +kernel
theorem dX9_block_432 : decode cX9_block 432 = .ok (.getfield 167, 3) := by decide +kernel
theorem dX9_block_435 : decode cX9_block 435 = .ok (.ireturn, 1) := by decide +kernel
theorem dX9_isRow_0 : decode cX9_isRow 0 = .ok (.iload_n 1, 1) := by decide +kernel
theorem dX9_isRow_1 : decode cX9_isRow 1 = .ok (.ifCond .lt 28, 3) := by decide +kernel
theorem dX9_isRow_4 : decode cX9_isRow 4 = .ok (.iload_n 1, 1) := by decide +kernel
theorem dX9_isRow_5 : decode cX9_isRow 5 = .ok (.aload_n 0, 1) := by decide +kernel
theorem dX9_isRow_6 : decode cX9_isRow 6 = .ok (.getfield 72, 3) := by decide +kernel
theorem dX9_isRow_9 : decode cX9_isRow 9 = .ok (.ifCond .eq 10, 3) := by decide +kernel
theorem dX9_isRow_12 : decode cX9_isRow 12 = .ok (.aload_n 0, 1) := by decide +kernel
theorem dX9_isRow_13 : decode cX9_isRow 13 = .ok (.invokevirtual 163, 3) := by decide +kernel
theorem dX9_isRow_16 : decode cX9_isRow 16 = .ok (.goto 6, 3) := by decide +kernel
theorem dX9_isRow_22 : decode cX9_isRow 22 = .ok (.if_icmp .ge 7, 3) := by decide +kernel
theorem dX9_isRow_29 : decode cX9_isRow 29 = .ok (.iconst 0, 1) := by decide +kernel
theorem dX9_isRow_30 : decode cX9_isRow 30 = .ok (.ireturn, 1) := by decide +kernel
theorem dX9_digest_0 : decode cX9_digest 0 = .ok (.aload_n 0, 1) := by decide +kernel
theorem dX9_digest_1 : decode cX9_digest 1 = .ok (.aload_n 0, 1) := by decide +kernel
theorem dX9_digest_2 : decode cX9_digest 2 = .ok (.iload_n 1, 1) := by decide +kernel
theorem dX9_digest_3 : decode cX9_digest 3 = .ok (.invokevirtual 311, 3) := by decide +kernel
theorem dX9_digest_6 : decode cX9_digest 6 = .ok (.ifCond .ne 7, 3) := by decide +kernel
theorem dX9_digest_9 : decode cX9_digest 9 = .ok (.iconst 1, 1) := by decide +kernel
theorem dX9_digest_10 : decode cX9_digest 10 = .ok (.goto 15, 3) := by decide +kernel
theorem dX9_digest_25 : decode cX9_digest 25 = .ok (.putfield 91, 3) := by decide +kernel
theorem dX9_digest_28 : decode cX9_digest 28 = .ok (.aload_n 0, 1) := by decide +kernel
theorem dX9_digest_29 : decode cX9_digest 29 = .ok (.getfield 91, 3) := by decide +kernel
theorem dX9_digest_32 : decode cX9_digest 32 = .ok (.ifCond .le 5, 3) := by decide +kernel
theorem dX9_digest_35 : decode cX9_digest 35 = .ok (.lconst 0, 1) := by decide +kernel
theorem dX9_digest_36 : decode cX9_digest 36 = .ok (.lreturn, 1) := by decide +kernel
theorem dX9_vote_0 : decode cX9_vote 0 = .ok (.aload_n 0, 1) := by decide +kernel
theorem dX9_vote_1 : decode cX9_vote 1 = .ok (.aload_n 0, 1) := by decide +kernel
theorem dX9_vote_2 : decode cX9_vote 2 = .ok (.getfield 72, 3) := by decide +kernel
theorem dX9_vote_5 : decode cX9_vote 5 = .ok (.ifCond .ne 7, 3) := by decide +kernel
theorem dX9_vote_12 : decode cX9_vote 12 = .ok (.iload_n 1, 1) := by decide +kernel
theorem dX9_vote_13 : decode cX9_vote 13 = .ok (.iconst 1, 1) := by decide +kernel
theorem dX9_vote_14 : decode cX9_vote 14 = .ok (.ldc 208, 2) := by decide +kernel
theorem dX9_vote_16 : decode cX9_vote 16 = .ok (.invokestatic 138, 3) := by decide +kernel
theorem dX9_vote_19 : decode cX9_vote 19 = .ok (.ifCond .eq 13, 3) := by decide +kernel
theorem dX9_vote_22 : decode cX9_vote 22 = .ok (.iload_n 2, 1) := by decide +kernel
theorem dX9_vote_23 : decode cX9_vote 23 = .ok (.iconst 0, 1) := by decide +kernel
theorem dX9_vote_24 : decode cX9_vote 24 = .ok (.ldc 208, 2) := by decide +kernel
theorem dX9_vote_26 : decode cX9_vote 26 = .ok (.invokestatic 138, 3) := by decide +kernel
theorem dX9_vote_29 : decode cX9_vote 29 = .ok (.ifCond .ne 7, 3) := by decide +kernel
theorem dX9_vote_32 : decode cX9_vote 32 = .ok (.iconst 2, 1) := by decide +kernel
theorem dX9_vote_33 : decode cX9_vote 33 = .ok (.goto 4, 3) := by decide +kernel
theorem dX9_vote_36 : decode cX9_vote 36 = .ok (.iconst 0, 1) := by decide +kernel
theorem dX9_vote_37 : decode cX9_vote 37 = .ok (.putfield 91, 3) := by decide +kernel
theorem dX9_vote_40 : decode cX9_vote 40 = .ok (.aload_n 0, 1) := by decide +kernel
theorem dX9_vote_41 : decode cX9_vote 41 = .ok (.getfield 91, 3) := by decide +kernel
theorem dX9_vote_44 : decode cX9_vote 44 = .ok (.ifCond .le 5, 3) := by decide +kernel
theorem dX9_vote_47 : decode cX9_vote 47 = .ok (.iconst 0, 1) := by decide +kernel
theorem dX9_vote_48 : decode cX9_vote 48 = .ok (.ireturn, 1) := by decide +kernel
theorem dX9_vote_49 : decode cX9_vote 49 = .ok (.aload_n 0, 1) := by decide +kernel
theorem dX9_vote_50 : decode cX9_vote 50 = .ok (.invokevirtual 300, 3) := by decide +kernel
theorem dX9_vote_53 : decode cX9_vote 53 = .ok (.aload_n 0, 1) := by decide +kernel
theorem dX9_vote_54 : decode cX9_vote 54 = .ok (.getfield 176, 3) := by decide +kernel
theorem dX9_vote_57 : decode cX9_vote 57 = .ok (.ifCond .eq 6, 3) := by decide +kernel
theorem dX9_vote_63 : decode cX9_vote 63 = .ok (.aload_n 0, 1) := by decide +kernel
theorem dX9_vote_64 : decode cX9_vote 64 = .ok (.lload_n 3, 1) := by decide +kernel
theorem dX9_vote_65 : decode cX9_vote 65 = .ok (.invokevirtual 303, 3) := by decide +kernel
theorem dX9_vote_68 : decode cX9_vote 68 = .ok (.lstore 5, 2) := by decide +kernel
