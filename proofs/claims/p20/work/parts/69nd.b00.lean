theorem dX3_mark_0 : decode cX3_mark 0 = .ok (.aload_n 0, 1) := by decide +kernel
theorem dX3_mark_1 : decode cX3_mark 1 = .ok (.getfield 19, 3) := by decide +kernel
theorem dX3_mark_4 : decode cX3_mark 4 = .ok (.iload_n 1, 1) := by decide +kernel
theorem dX3_mark_5 : decode cX3_mark 5 = .ok (.invokevirtual 27, 3) := by decide +kernel
theorem dX3_mark_8 : decode cX3_mark 8 = .ok (.iconst 0, 1) := by decide +kernel
theorem dX3_mark_9 : decode cX3_mark 9 = .ok (.istore_n 2, 1) := by decide +kernel
theorem dX3_mark_10 : decode cX3_mark 10 = .ok (.iload_n 2, 1) := by decide +kernel
theorem dX3_mark_11 : decode cX3_mark 11 = .ok (.aload_n 0, 1) := by decide +kernel
theorem dX3_mark_12 : decode cX3_mark 12 = .ok (.getfield 15, 3) := by decide +kernel
theorem dX3_mark_15 : decode cX3_mark 15 = .ok (.getfield 33, 3) := by decide +kernel
theorem dX3_mark_18 : decode cX3_mark 18 = .ok (.if_icmp .ge 52, 3) := by decide +kernel
theorem dX3_mark_21 : decode cX3_mark 21 = .ok (.aload_n 0, 1) := by decide +kernel
theorem dX3_mark_22 : decode cX3_mark 22 = .ok (.getfield 23, 3) := by decide +kernel
theorem dX3_mark_25 : decode cX3_mark 25 = .ok (.iload_n 2, 1) := by decide +kernel
theorem dX3_mark_26 : decode cX3_mark 26 = .ok (.iload_n 2, 1) := by decide +kernel
theorem dX3_mark_27 : decode cX3_mark 27 = .ok (.aload_n 0, 1) := by decide +kernel
theorem dX3_mark_28 : decode cX3_mark 28 = .ok (.getfield 19, 3) := by decide +kernel
theorem dX3_mark_31 : decode cX3_mark 31 = .ok (.getfield 39, 3) := by decide +kernel
theorem dX3_mark_34 : decode cX3_mark 34 = .ok (.if_icmp .eq 24, 3) := by decide +kernel
theorem dX3_mark_37 : decode cX3_mark 37 = .ok (.aload_n 0, 1) := by decide +kernel
theorem dX3_mark_38 : decode cX3_mark 38 = .ok (.getfield 19, 3) := by decide +kernel
theorem dX3_mark_41 : decode cX3_mark 41 = .ok (.getfield 42, 3) := by decide +kernel
theorem dX3_mark_44 : decode cX3_mark 44 = .ok (.iload_n 2, 1) := by decide +kernel
theorem dX3_mark_45 : decode cX3_mark 45 = .ok (.baload, 1) := by decide +kernel
theorem dX3_mark_46 : decode cX3_mark 46 = .ok (.ifCond .eq 16, 3) := by decide +kernel
theorem dX3_mark_49 : decode cX3_mark 49 = .ok (.aload_n 0, 1) := by decide +kernel
theorem dX3_mark_50 : decode cX3_mark 50 = .ok (.iload_n 2, 1) := by decide +kernel
theorem dX3_mark_51 : decode cX3_mark 51 = .ok (.iload_n 1, 1) := by decide +kernel
theorem dX3_mark_52 : decode cX3_mark 52 = .ok (.invokevirtual 45, 3) := by decide +kernel
theorem dX3_mark_55 : decode cX3_mark 55 = .ok (.ifCond .eq 7, 3) := by decide +kernel
theorem dX3_mark_58 : decode cX3_mark 58 = .ok (.iconst 1, 1) := by decide +kernel
theorem dX3_mark_59 : decode cX3_mark 59 = .ok (.goto 4, 3) := by decide +kernel
theorem dX3_mark_62 : decode cX3_mark 62 = .ok (.iconst 0, 1) := by decide +kernel
theorem dX3_mark_63 : decode cX3_mark 63 = .ok (.bastore, 1) := by decide +kernel
theorem dX3_mark_64 : decode cX3_mark 64 = .ok (.iinc 2 1, 3) := by decide +kernel
theorem dX3_mark_67 : decode cX3_mark 67 = .ok (.goto (-57), 3) := by decide +kernel
theorem dX3_mark_70 : decode cX3_mark 70 = .ok (.aload_n 0, 1) := by decide +kernel
theorem dX3_mark_71 : decode cX3_mark 71 = .ok (.iload_n 1, 1) := by decide +kernel
theorem dX3_mark_72 : decode cX3_mark 72 = .ok (.aload_n 0, 1) := by decide +kernel
theorem dX3_mark_73 : decode cX3_mark 73 = .ok (.getfield 19, 3) := by decide +kernel
theorem dX3_mark_76 : decode cX3_mark 76 = .ok (.iload_n 1, 1) := by decide +kernel
theorem dX3_mark_77 : decode cX3_mark 77 = .ok (.invokevirtual 49, 3) := by decide +kernel
theorem dX3_mark_80 : decode cX3_mark 80 = .ok (.invokevirtual 53, 3) := by decide +kernel
theorem dX3_mark_83 : decode cX3_mark 83 = .ok (.iconst 1, 1) := by decide +kernel
theorem dX3_mark_84 : decode cX3_mark 84 = .ok (.aload_n 0, 1) := by decide +kernel
theorem dX3_mark_85 : decode cX3_mark 85 = .ok (.getfield 19, 3) := by decide +kernel
theorem dX3_mark_88 : decode cX3_mark 88 = .ok (.invokevirtual 57, 3) := by decide +kernel
theorem dX3_mark_91 : decode cX3_mark 91 = .ok (.iadd, 1) := by decide +kernel
theorem dX3_mark_92 : decode cX3_mark 92 = .ok (.istore_n 2, 1) := by decide +kernel
theorem dX3_mark_93 : decode cX3_mark 93 = .ok (.iconst 0, 1) := by decide +kernel
theorem dX3_mark_94 : decode cX3_mark 94 = .ok (.istore_n 3, 1) := by decide +kernel
theorem dX3_mark_95 : decode cX3_mark 95 = .ok (.iload_n 3, 1) := by decide +kernel
theorem dX3_mark_96 : decode cX3_mark 96 = .ok (.aload_n 0, 1) := by decide +kernel
theorem dX3_mark_97 : decode cX3_mark 97 = .ok (.getfield 15, 3) := by decide +kernel
theorem dX3_mark_100 : decode cX3_mark 100 = .ok (.getfield 33, 3) := by decide +kernel
theorem dX3_mark_103 : decode cX3_mark 103 = .ok (.if_icmp .ge 21, 3) := by decide +kernel
theorem dX3_mark_106 : decode cX3_mark 106 = .ok (.aload_n 0, 1) := by decide +kernel
theorem dX3_mark_107 : decode cX3_mark 107 = .ok (.getfield 23, 3) := by decide +kernel
theorem dX3_mark_110 : decode cX3_mark 110 = .ok (.iload_n 3, 1) := by decide +kernel
theorem dX3_mark_111 : decode cX3_mark 111 = .ok (.baload, 1) := by decide +kernel
theorem dX3_mark_112 : decode cX3_mark 112 = .ok (.ifCond .eq 6, 3) := by decide +kernel
theorem dX3_mark_115 : decode cX3_mark 115 = .ok (.iinc 2 1, 3) := by decide +kernel
theorem dX3_mark_118 : decode cX3_mark 118 = .ok (.iinc 3 1, 3) := by decide +kernel
theorem dX3_mark_121 : decode cX3_mark 121 = .ok (.goto (-26), 3) := by decide +kernel
theorem dX3_mark_124 : decode cX3_mark 124 = .ok (.iload_n 2, 1) := by decide +kernel
theorem dX3_mark_125 : decode cX3_mark 125 = .ok (.ireturn, 1) := by decide +kernel
theorem dX3_isAbove_0 : decode cX3_isAbove 0 = .ok (.aload_n 0, 1) := by decide +kernel
theorem dX3_isAbove_1 : decode cX3_isAbove 1 = .ok (.getfield 19, 3) := by decide +kernel
theorem dX3_isAbove_4 : decode cX3_isAbove 4 = .ok (.aload_n 0, 1) := by decide +kernel
theorem dX3_isAbove_5 : decode cX3_isAbove 5 = .ok (.getfield 15, 3) := by decide +kernel
theorem dX3_isAbove_8 : decode cX3_isAbove 8 = .ok (.iload_n 1, 1) := by decide +kernel
theorem dX3_isAbove_9 : decode cX3_isAbove 9 = .ok (.invokevirtual 61, 3) := by decide +kernel
theorem dX3_isAbove_12 : decode cX3_isAbove 12 = .ok (.invokevirtual 64, 3) := by decide +kernel
theorem dX3_isAbove_15 : decode cX3_isAbove 15 = .ok (.istore_n 3, 1) := by decide +kernel
theorem dX3_isAbove_16 : decode cX3_isAbove 16 = .ok (.iload_n 3, 1) := by decide +kernel
theorem dX3_isAbove_17 : decode cX3_isAbove 17 = .ok (.iconst (-1), 1) := by decide +kernel
theorem dX3_isAbove_18 : decode cX3_isAbove 18 = .ok (.if_icmp .eq 19, 3) := by decide +kernel
theorem dX3_isAbove_21 : decode cX3_isAbove 21 = .ok (.aload_n 0, 1) := by decide +kernel
theorem dX3_isAbove_22 : decode cX3_isAbove 22 = .ok (.getfield 15, 3) := by decide +kernel
theorem dX3_isAbove_25 : decode cX3_isAbove 25 = .ok (.iload_n 3, 1) := by decide +kernel
theorem dX3_isAbove_26 : decode cX3_isAbove 26 = .ok (.invokevirtual 68, 3) := by decide +kernel
theorem dX3_isAbove_29 : decode cX3_isAbove 29 = .ok (.iload_n 2, 1) := by decide +kernel
theorem dX3_isAbove_30 : decode cX3_isAbove 30 = .ok (.if_icmp .le 7, 3) := by decide +kernel
theorem dX3_isAbove_33 : decode cX3_isAbove 33 = .ok (.iconst 1, 1) := by decide +kernel
theorem dX3_isAbove_34 : decode cX3_isAbove 34 = .ok (.goto 4, 3) := by decide +kernel
theorem dX3_isAbove_37 : decode cX3_isAbove 37 = .ok (.iconst 0, 1) := by decide +kernel
theorem dX3_isAbove_38 : decode cX3_isAbove 38 = .ok (.ireturn, 1) := by decide +kernel
theorem dX3_markBlocks_0 : decode cX3_markBlocks 0 = .ok (.iconst 1, 1) := by decide +kernel
theorem dX3_markBlocks_1 : decode cX3_markBlocks 1 = .ok (.istore 4, 2) := by decide +kernel
theorem dX3_markBlocks_3 : decode cX3_markBlocks 3 = .ok (.iconst 0, 1) := by decide +kernel
theorem dX3_markBlocks_4 : decode cX3_markBlocks 4 = .ok (.istore 5, 2) := by decide +kernel
theorem dX3_markBlocks_6 : decode cX3_markBlocks 6 = .ok (.iload 4, 2) := by decide +kernel
theorem dX3_markBlocks_8 : decode cX3_markBlocks 8 = .ok (.ifCond .eq 96, 3) := by decide +kernel
theorem dX3_markBlocks_11 : decode cX3_markBlocks 11 = .ok (.iload 5, 2) := by decide +kernel
theorem dX3_markBlocks_13 : decode cX3_markBlocks 13 = .ok (.sipush 128, 3) := by decide +kernel
theorem dX3_markBlocks_16 : decode cX3_markBlocks 16 = .ok (.if_icmp .ge 88, 3) := by decide +kernel
theorem dX3_markBlocks_19 : decode cX3_markBlocks 19 = .ok (.iconst 0, 1) := by decide +kernel
theorem dX3_markBlocks_20 : decode cX3_markBlocks 20 = .ok (.istore 4, 2) := by decide +kernel
theorem dX3_markBlocks_22 : decode cX3_markBlocks 22 = .ok (.iconst 0, 1) := by decide +kernel
theorem dX3_markBlocks_23 : decode cX3_markBlocks 23 = .ok (.istore 6, 2) := by decide +kernel
theorem dX3_markBlocks_25 : decode cX3_markBlocks 25 = .ok (.iload 6, 2) := by decide +kernel
theorem dX3_markBlocks_27 : decode cX3_markBlocks 27 = .ok (.aload_n 0, 1) := by decide +kernel
theorem dX3_markBlocks_28 : decode cX3_markBlocks 28 = .ok (.getfield 15, 3) := by decide +kernel
theorem dX3_markBlocks_31 : decode cX3_markBlocks 31 = .ok (.getfield 33, 3) := by decide +kernel
theorem dX3_markBlocks_34 : decode cX3_markBlocks 34 = .ok (.if_icmp .ge 64, 3) := by decide +kernel
theorem dX3_markBlocks_37 : decode cX3_markBlocks 37 = .ok (.aload_n 0, 1) := by decide +kernel
theorem dX3_markBlocks_38 : decode cX3_markBlocks 38 = .ok (.getfield 19, 3) := by decide +kernel
theorem dX3_markBlocks_41 : decode cX3_markBlocks 41 = .ok (.getfield 72, 3) := by decide +kernel
theorem dX3_markBlocks_44 : decode cX3_markBlocks 44 = .ok (.iload 6, 2) := by decide +kernel
theorem dX3_markBlocks_46 : decode cX3_markBlocks 46 = .ok (.baload, 1) := by decide +kernel
theorem dX3_markBlocks_47 : decode cX3_markBlocks 47 = .ok (.ifCond .eq 45, 3) := by decide +kernel
theorem dX3_markBlocks_50 : decode cX3_markBlocks 50 = .ok (.aload_n 0, 1) := by decide +kernel
theorem dX3_markBlocks_51 : decode cX3_markBlocks 51 = .ok (.getfield 23, 3) := by decide +kernel
theorem dX3_markBlocks_54 : decode cX3_markBlocks 54 = .ok (.iload 6, 2) := by decide +kernel
theorem dX3_markBlocks_56 : decode cX3_markBlocks 56 = .ok (.baload, 1) := by decide +kernel
theorem dX3_markBlocks_57 : decode cX3_markBlocks 57 = .ok (.ifCond .ne 35, 3) := by decide +kernel
theorem dX3_markBlocks_60 : decode cX3_markBlocks 60 = .ok (.aload_n 0, 1) := by decide +kernel
theorem dX3_markBlocks_61 : decode cX3_markBlocks 61 = .ok (.getfield 15, 3) := by decide +kernel
theorem dX3_markBlocks_64 : decode cX3_markBlocks 64 = .ok (.iload 6, 2) := by decide +kernel
theorem dX3_markBlocks_66 : decode cX3_markBlocks 66 = .ok (.invokevirtual 68, 3) := by decide +kernel
theorem dX3_markBlocks_69 : decode cX3_markBlocks 69 = .ok (.iload_n 1, 1) := by decide +kernel
theorem dX3_markBlocks_70 : decode cX3_markBlocks 70 = .ok (.if_icmp .le 22, 3) := by decide +kernel
theorem dX3_markBlocks_73 : decode cX3_markBlocks 73 = .ok (.aload_n 0, 1) := by decide +kernel
theorem dX3_markBlocks_74 : decode cX3_markBlocks 74 = .ok (.iload 6, 2) := by decide +kernel
theorem dX3_markBlocks_76 : decode cX3_markBlocks 76 = .ok (.lload_n 2, 1) := by decide +kernel
theorem dX3_markBlocks_77 : decode cX3_markBlocks 77 = .ok (.invokevirtual 75, 3) := by decide +kernel
theorem dX3_markBlocks_80 : decode cX3_markBlocks 80 = .ok (.ifCond .eq 12, 3) := by decide +kernel
theorem dX3_markBlocks_83 : decode cX3_markBlocks 83 = .ok (.aload_n 0, 1) := by decide +kernel
theorem dX3_markBlocks_84 : decode cX3_markBlocks 84 = .ok (.iload 6, 2) := by decide +kernel
theorem dX3_markBlocks_86 : decode cX3_markBlocks 86 = .ok (.invokevirtual 79, 3) := by decide +kernel
theorem dX3_markBlocks_89 : decode cX3_markBlocks 89 = .ok (.iconst 1, 1) := by decide +kernel
theorem dX3_markBlocks_90 : decode cX3_markBlocks 90 = .ok (.istore 4, 2) := by decide +kernel
theorem dX3_markBlocks_92 : decode cX3_markBlocks 92 = .ok (.iinc 6 1, 3) := by decide +kernel
theorem dX3_markBlocks_95 : decode cX3_markBlocks 95 = .ok (.goto (-70), 3) := by decide +kernel
theorem dX3_markBlocks_98 : decode cX3_markBlocks 98 = .ok (.iinc 5 1, 3) := by decide +kernel
theorem dX3_markBlocks_101 : decode cX3_markBlocks 101 = .ok (.goto (-95), 3) := by decide +kernel
theorem dX3_markBlocks_104 : decode cX3_markBlocks 104 = .ok (.return_, 1) := by decide +kernel
theorem dX3_hasKeptParent_0 : decode cX3_hasKeptParent 0 = .ok (.aload_n 0, 1) := by decide +kernel
theorem dX3_hasKeptParent_1 : decode cX3_hasKeptParent 1 = .ok (.getfield 15, 3) := by decide +kernel
theorem dX3_hasKeptParent_4 : decode cX3_hasKeptParent 4 = .ok (.iload_n 1, 1) := by decide +kernel
theorem dX3_hasKeptParent_5 : decode cX3_hasKeptParent 5 = .ok (.invokevirtual 61, 3) := by decide +kernel
theorem dX3_hasKeptParent_8 : decode cX3_hasKeptParent 8 = .ok (.lstore 4, 2) := by decide +kernel
theorem dX3_hasKeptParent_10 : decode cX3_hasKeptParent 10 = .ok (.aload_n 0, 1) := by decide +kernel
theorem dX3_hasKeptParent_11 : decode cX3_hasKeptParent 11 = .ok (.getfield 19, 3) := by decide +kernel
theorem dX3_hasKeptParent_14 : decode cX3_hasKeptParent 14 = .ok (.lload 4, 2) := by decide +kernel
theorem dX3_hasKeptParent_16 : decode cX3_hasKeptParent 16 = .ok (.invokevirtual 64, 3) := by decide +kernel
theorem dX3_hasKeptParent_19 : decode cX3_hasKeptParent 19 = .ok (.istore 6, 2) := by decide +kernel
theorem dX3_hasKeptParent_21 : decode cX3_hasKeptParent 21 = .ok (.lload 4, 2) := by decide +kernel
theorem dX3_hasKeptParent_23 : decode cX3_hasKeptParent 23 = .ok (.lload_n 2, 1) := by decide +kernel
theorem dX3_hasKeptParent_24 : decode cX3_hasKeptParent 24 = .ok (.lcmp, 1) := by decide +kernel
theorem dX3_hasKeptParent_25 : decode cX3_hasKeptParent 25 = .ok (.ifCond .eq 19, 3) := by decide +kernel
theorem dX3_hasKeptParent_28 : decode cX3_hasKeptParent 28 = .ok (.iload 6, 2) := by decide +kernel
theorem dX3_hasKeptParent_30 : decode cX3_hasKeptParent 30 = .ok (.iconst (-1), 1) := by decide +kernel
theorem dX3_hasKeptParent_31 : decode cX3_hasKeptParent 31 = .ok (.if_icmp .eq 17, 3) := by decide +kernel
theorem dX3_hasKeptParent_34 : decode cX3_hasKeptParent 34 = .ok (.aload_n 0, 1) := by decide +kernel
theorem dX3_hasKeptParent_35 : decode cX3_hasKeptParent 35 = .ok (.getfield 23, 3) := by decide +kernel
theorem dX3_hasKeptParent_38 : decode cX3_hasKeptParent 38 = .ok (.iload 6, 2) := by decide +kernel
theorem dX3_hasKeptParent_40 : decode cX3_hasKeptParent 40 = .ok (.baload, 1) := by decide +kernel
theorem dX3_hasKeptParent_41 : decode cX3_hasKeptParent 41 = .ok (.ifCond .eq 7, 3) := by decide +kernel
theorem dX3_hasKeptParent_44 : decode cX3_hasKeptParent 44 = .ok (.iconst 1, 1) := by decide +kernel
theorem dX3_hasKeptParent_45 : decode cX3_hasKeptParent 45 = .ok (.goto 4, 3) := by decide +kernel
theorem dX3_hasKeptParent_48 : decode cX3_hasKeptParent 48 = .ok (.iconst 0, 1) := by decide +kernel
theorem dX3_hasKeptParent_49 : decode cX3_hasKeptParent 49 = .ok (.ireturn, 1) := by decide +kernel
theorem dX3_markGroup_0 : decode cX3_markGroup 0 = .ok (.iload_n 1, 1) := by decide +kernel
theorem dX3_markGroup_1 : decode cX3_markGroup 1 = .ok (.aload_n 0, 1) := by decide +kernel
theorem dX3_markGroup_2 : decode cX3_markGroup 2 = .ok (.getfield 15, 3) := by decide +kernel
theorem dX3_markGroup_5 : decode cX3_markGroup 5 = .ok (.iload_n 1, 1) := by decide +kernel
theorem dX3_markGroup_6 : decode cX3_markGroup 6 = .ok (.invokevirtual 82, 3) := by decide +kernel
theorem dX3_markGroup_9 : decode cX3_markGroup 9 = .ok (.iadd, 1) := by decide +kernel
theorem dX3_markGroup_10 : decode cX3_markGroup 10 = .ok (.istore_n 2, 1) := by decide +kernel
theorem dX3_markGroup_11 : decode cX3_markGroup 11 = .ok (.iload_n 1, 1) := by decide +kernel
theorem dX3_markGroup_12 : decode cX3_markGroup 12 = .ok (.istore_n 3, 1) := by decide +kernel
theorem dX3_markGroup_13 : decode cX3_markGroup 13 = .ok (.iload_n 3, 1) := by decide +kernel
theorem dX3_markGroup_14 : decode cX3_markGroup 14 = .ok (.iload_n 2, 1) := by decide +kernel
theorem dX3_markGroup_15 : decode cX3_markGroup 15 = .ok (.if_icmp .gt 23, 3) := by decide +kernel
theorem dX3_markGroup_18 : decode cX3_markGroup 18 = .ok (.iload_n 3, 1) := by decide +kernel
theorem dX3_markGroup_19 : decode cX3_markGroup 19 = .ok (.sipush 128, 3) := by decide +kernel
theorem dX3_markGroup_22 : decode cX3_markGroup 22 = .ok (.if_icmp .ge 16, 3) := by decide +kernel
theorem dX3_markGroup_25 : decode cX3_markGroup 25 = .ok (.aload_n 0, 1) := by decide +kernel
theorem dX3_markGroup_26 : decode cX3_markGroup 26 = .ok (.getfield 23, 3) := by decide +kernel
theorem dX3_markGroup_29 : decode cX3_markGroup 29 = .ok (.iload_n 3, 1) := by decide +kernel
theorem dX3_markGroup_30 : decode cX3_markGroup 30 = .ok (.iconst 1, 1) := by decide +kernel
theorem dX3_markGroup_31 : decode cX3_markGroup 31 = .ok (.bastore, 1) := by decide +kernel
theorem dX3_markGroup_32 : decode cX3_markGroup 32 = .ok (.iinc 3 1, 3) := by decide +kernel
theorem dX3_markGroup_35 : decode cX3_markGroup 35 = .ok (.goto (-22), 3) := by decide +kernel
theorem dX3_markGroup_38 : decode cX3_markGroup 38 = .ok (.return_, 1) := by decide +kernel
theorem dX3_move_0 : decode cX3_move 0 = .ok (.iconst 1, 1) := by decide +kernel
theorem dX3_move_1 : decode cX3_move 1 = .ok (.aload_n 0, 1) := by decide +kernel
theorem dX3_move_2 : decode cX3_move 2 = .ok (.getfield 15, 3) := by decide +kernel
theorem dX3_move_5 : decode cX3_move 5 = .ok (.getfield 85, 3) := by decide +kernel
theorem dX3_move_8 : decode cX3_move 8 = .ok (.isub, 1) := by decide +kernel
theorem dX3_move_9 : decode cX3_move 9 = .ok (.istore_n 2, 1) := by decide +kernel
theorem dX3_move_10 : decode cX3_move 10 = .ok (.aload_n 0, 1) := by decide +kernel
theorem dX3_move_11 : decode cX3_move 11 = .ok (.getfield 9, 3) := by decide +kernel
theorem dX3_move_14 : decode cX3_move 14 = .ok (.iload_n 2, 1) := by decide +kernel
theorem dX3_move_15 : decode cX3_move 15 = .ok (.iconst 0, 1) := by decide +kernel
theorem dX3_move_16 : decode cX3_move 16 = .ok (.sipush 128, 3) := by decide +kernel
theorem dX3_move_19 : decode cX3_move 19 = .ok (.invokevirtual 88, 3) := by decide +kernel
theorem dX3_move_22 : decode cX3_move 22 = .ok (.ifCond .ne 5, 3) := by decide +kernel
theorem dX3_move_25 : decode cX3_move 25 = .ok (.iconst 0, 1) := by decide +kernel
theorem dX3_move_26 : decode cX3_move 26 = .ok (.ireturn, 1) := by decide +kernel
theorem dX3_move_27 : decode cX3_move 27 = .ok (.aload_n 0, 1) := by decide +kernel
theorem dX3_move_28 : decode cX3_move 28 = .ok (.iload_n 1, 1) := by decide +kernel
theorem dX3_move_29 : decode cX3_move 29 = .ok (.iload_n 2, 1) := by decide +kernel
theorem dX3_move_30 : decode cX3_move 30 = .ok (.invokevirtual 94, 3) := by decide +kernel
theorem dX3_move_33 : decode cX3_move 33 = .ok (.istore_n 3, 1) := by decide +kernel
theorem dX3_move_34 : decode cX3_move 34 = .ok (.iload_n 3, 1) := by decide +kernel
theorem dX3_move_35 : decode cX3_move 35 = .ok (.bipush (-4), 2) := by decide +kernel
theorem dX3_move_37 : decode cX3_move 37 = .ok (.if_icmp .ne 8, 3) := by decide +kernel
theorem dX3_move_40 : decode cX3_move 40 = .ok (.bipush (-4), 2) := by decide +kernel
theorem dX3_move_42 : decode cX3_move 42 = .ok (.goto 9, 3) := by decide +kernel
theorem dX3_move_45 : decode cX3_move 45 = .ok (.aload_n 0, 1) := by decide +kernel
theorem dX3_move_46 : decode cX3_move 46 = .ok (.iload_n 3, 1) := by decide +kernel
theorem dX3_move_47 : decode cX3_move 47 = .ok (.iload_n 2, 1) := by decide +kernel
theorem dX3_move_48 : decode cX3_move 48 = .ok (.invokevirtual 98, 3) := by decide +kernel
theorem dX3_move_51 : decode cX3_move 51 = .ok (.istore 4, 2) := by decide +kernel
theorem dX3_move_53 : decode cX3_move 53 = .ok (.iload 4, 2) := by decide +kernel
theorem dX3_move_55 : decode cX3_move 55 = .ok (.bipush (-4), 2) := by decide +kernel
theorem dX3_move_57 : decode cX3_move 57 = .ok (.if_icmp .ne 5, 3) := by decide +kernel
theorem dX3_move_60 : decode cX3_move 60 = .ok (.iconst 0, 1) := by decide +kernel
theorem dX3_move_61 : decode cX3_move 61 = .ok (.ireturn, 1) := by decide +kernel
theorem dX3_move_62 : decode cX3_move 62 = .ok (.aload_n 0, 1) := by decide +kernel
theorem dX3_move_63 : decode cX3_move 63 = .ok (.getfield 15, 3) := by decide +kernel
theorem dX3_move_66 : decode cX3_move 66 = .ok (.getfield 101, 3) := by decide +kernel
theorem dX3_move_69 : decode cX3_move 69 = .ok (.iconst 1, 1) := by decide +kernel
theorem dX3_move_70 : decode cX3_move 70 = .ok (.iadd, 1) := by decide +kernel
theorem dX3_move_71 : decode cX3_move 71 = .ok (.istore 5, 2) := by decide +kernel
theorem dX3_move_73 : decode cX3_move 73 = .ok (.aload_n 0, 1) := by decide +kernel
theorem dX3_move_74 : decode cX3_move 74 = .ok (.getfield 15, 3) := by decide +kernel
theorem dX3_move_77 : decode cX3_move 77 = .ok (.iload 5, 2) := by decide +kernel
theorem dX3_move_79 : decode cX3_move 79 = .ok (.invokevirtual 104, 3) := by decide +kernel
theorem dX3_move_82 : decode cX3_move 82 = .ok (.aload_n 0, 1) := by decide +kernel
theorem dX3_move_83 : decode cX3_move 83 = .ok (.getfield 9, 3) := by decide +kernel
theorem dX3_move_86 : decode cX3_move 86 = .ok (.bipush 16, 2) := by decide +kernel
theorem dX3_move_88 : decode cX3_move 88 = .ok (.iload_n 2, 1) := by decide +kernel
theorem dX3_move_89 : decode cX3_move 89 = .ok (.imul, 1) := by decide +kernel
theorem dX3_move_90 : decode cX3_move 90 = .ok (.aload_n 0, 1) := by decide +kernel
theorem dX3_move_91 : decode cX3_move 91 = .ok (.getfield 15, 3) := by decide +kernel
theorem dX3_move_94 : decode cX3_move 94 = .ok (.getfield 107, 3) := by decide +kernel
theorem dX3_move_97 : decode cX3_move 97 = .ok (.bipush 16, 2) := by decide +kernel
theorem dX3_move_99 : decode cX3_move 99 = .ok (.invokevirtual 111, 3) := by decide +kernel
theorem dX3_move_102 : decode cX3_move 102 = .ok (.ifCond .ne 5, 3) := by decide +kernel
theorem dX3_move_105 : decode cX3_move 105 = .ok (.iconst 0, 1) := by decide +kernel
theorem dX3_move_106 : decode cX3_move 106 = .ok (.ireturn, 1) := by decide +kernel
theorem dX3_move_107 : decode cX3_move 107 = .ok (.aload_n 0, 1) := by decide +kernel
theorem dX3_move_108 : decode cX3_move 108 = .ok (.getfield 15, 3) := by decide +kernel
theorem dX3_move_111 : decode cX3_move 111 = .ok (.iload_n 2, 1) := by decide +kernel
theorem dX3_move_112 : decode cX3_move 112 = .ok (.putfield 85, 3) := by decide +kernel
theorem dX3_move_115 : decode cX3_move 115 = .ok (.aload_n 0, 1) := by decide +kernel
theorem dX3_move_116 : decode cX3_move 116 = .ok (.getfield 15, 3) := by decide +kernel
theorem dX3_move_119 : decode cX3_move 119 = .ok (.iload 5, 2) := by decide +kernel
theorem dX3_move_121 : decode cX3_move 121 = .ok (.putfield 101, 3) := by decide +kernel
theorem dX3_move_124 : decode cX3_move 124 = .ok (.aload_n 0, 1) := by decide +kernel
theorem dX3_move_125 : decode cX3_move 125 = .ok (.getfield 15, 3) := by decide +kernel
theorem dX3_move_128 : decode cX3_move 128 = .ok (.iload 4, 2) := by decide +kernel
theorem dX3_move_130 : decode cX3_move 130 = .ok (.putfield 33, 3) := by decide +kernel
theorem dX3_move_133 : decode cX3_move 133 = .ok (.iconst 1, 1) := by decide +kernel
theorem dX3_move_134 : decode cX3_move 134 = .ok (.ireturn, 1) := by decide +kernel
theorem dX3_writeVersion_0 : decode cX3_writeVersion 0 = .ok (.aload_n 0, 1) := by decide +kernel
theorem dX3_writeVersion_1 : decode cX3_writeVersion 1 = .ok (.getfield 15, 3) := by decide +kernel
theorem dX3_writeVersion_4 : decode cX3_writeVersion 4 = .ok (.iconst 5, 1) := by decide +kernel
theorem dX3_writeVersion_5 : decode cX3_writeVersion 5 = .ok (.iload_n 1, 1) := by decide +kernel
theorem dX3_writeVersion_6 : decode cX3_writeVersion 6 = .ok (.aload_n 0, 1) := by decide +kernel
theorem dX3_writeVersion_7 : decode cX3_writeVersion 7 = .ok (.getfield 19, 3) := by decide +kernel
theorem dX3_writeVersion_10 : decode cX3_writeVersion 10 = .ok (.invokevirtual 57, 3) := by decide +kernel
theorem dX3_writeVersion_13 : decode cX3_writeVersion 13 = .ok (.aload_n 0, 1) := by decide +kernel
theorem dX3_writeVersion_14 : decode cX3_writeVersion 14 = .ok (.getfield 19, 3) := by decide +kernel
theorem dX3_writeVersion_17 : decode cX3_writeVersion 17 = .ok (.iload_n 1, 1) := by decide +kernel
theorem dX3_writeVersion_18 : decode cX3_writeVersion 18 = .ok (.invokevirtual 49, 3) := by decide +kernel
theorem dX3_writeVersion_21 : decode cX3_writeVersion 21 = .ok (.invokevirtual 115, 3) := by decide +kernel
theorem dX3_writeVersion_24 : decode cX3_writeVersion 24 = .ok (.aload_n 0, 1) := by decide +kernel
theorem dX3_writeVersion_25 : decode cX3_writeVersion 25 = .ok (.getfield 15, 3) := by decide +kernel
theorem dX3_writeVersion_28 : decode cX3_writeVersion 28 = .ok (.iload_n 2, 1) := by decide +kernel
theorem dX3_writeVersion_29 : decode cX3_writeVersion 29 = .ok (.iconst 0, 1) := by decide +kernel
theorem dX3_writeVersion_30 : decode cX3_writeVersion 30 = .ok (.invokevirtual 119, 3) := by decide +kernel
theorem dX3_writeVersion_33 : decode cX3_writeVersion 33 = .ok (.ifCond .ne 6, 3) := by decide +kernel
theorem dX3_writeVersion_36 : decode cX3_writeVersion 36 = .ok (.bipush (-4), 2) := by decide +kernel
theorem dX3_writeVersion_38 : decode cX3_writeVersion 38 = .ok (.ireturn, 1) := by decide +kernel
theorem dX3_writeVersion_39 : decode cX3_writeVersion 39 = .ok (.iconst 1, 1) := by decide +kernel
theorem dX3_writeVersion_40 : decode cX3_writeVersion 40 = .ok (.istore_n 3, 1) := by decide +kernel
theorem dX3_writeVersion_41 : decode cX3_writeVersion 41 = .ok (.iconst 0, 1) := by decide +kernel
theorem dX3_writeVersion_42 : decode cX3_writeVersion 42 = .ok (.istore 4, 2) := by decide +kernel
theorem dX3_writeVersion_44 : decode cX3_writeVersion 44 = .ok (.iload 4, 2) := by decide +kernel
theorem dX3_writeVersion_46 : decode cX3_writeVersion 46 = .ok (.bipush 16, 2) := by decide +kernel
theorem dX3_writeVersion_48 : decode cX3_writeVersion 48 = .ok (.if_icmp .ge 63, 3) := by decide +kernel
theorem dX3_writeVersion_51 : decode cX3_writeVersion 51 = .ok (.aload_n 0, 1) := by decide +kernel
theorem dX3_writeVersion_52 : decode cX3_writeVersion 52 = .ok (.getfield 19, 3) := by decide +kernel
theorem dX3_writeVersion_55 : decode cX3_writeVersion 55 = .ok (.getfield 122, 3) := by decide +kernel
theorem dX3_writeVersion_58 : decode cX3_writeVersion 58 = .ok (.iload 4, 2) := by decide +kernel
theorem dX3_writeVersion_60 : decode cX3_writeVersion 60 = .ok (.laload, 1) := by decide +kernel
theorem dX3_writeVersion_61 : decode cX3_writeVersion 61 = .ok (.lconst 0, 1) := by decide +kernel
theorem dX3_writeVersion_62 : decode cX3_writeVersion 62 = .ok (.lcmp, 1) := by decide +kernel
theorem dX3_writeVersion_63 : decode cX3_writeVersion 63 = .ok (.ifCond .eq 42, 3) := by decide +kernel
theorem dX3_writeVersion_66 : decode cX3_writeVersion 66 = .ok (.aload_n 0, 1) := by decide +kernel
theorem dX3_writeVersion_67 : decode cX3_writeVersion 67 = .ok (.getfield 15, 3) := by decide +kernel
theorem dX3_writeVersion_70 : decode cX3_writeVersion 70 = .ok (.iconst 3, 1) := by decide +kernel
theorem dX3_writeVersion_71 : decode cX3_writeVersion 71 = .ok (.iload 4, 2) := by decide +kernel
theorem dX3_writeVersion_73 : decode cX3_writeVersion 73 = .ok (.iconst 0, 1) := by decide +kernel
theorem dX3_writeVersion_74 : decode cX3_writeVersion 74 = .ok (.aload_n 0, 1) := by decide +kernel
theorem dX3_writeVersion_75 : decode cX3_writeVersion 75 = .ok (.getfield 19, 3) := by decide +kernel
theorem dX3_writeVersion_78 : decode cX3_writeVersion 78 = .ok (.getfield 122, 3) := by decide +kernel
theorem dX3_writeVersion_81 : decode cX3_writeVersion 81 = .ok (.iload 4, 2) := by decide +kernel
theorem dX3_writeVersion_83 : decode cX3_writeVersion 83 = .ok (.laload, 1) := by decide +kernel
theorem dX3_writeVersion_84 : decode cX3_writeVersion 84 = .ok (.invokevirtual 115, 3) := by decide +kernel
theorem dX3_writeVersion_87 : decode cX3_writeVersion 87 = .ok (.aload_n 0, 1) := by decide +kernel
theorem dX3_writeVersion_88 : decode cX3_writeVersion 88 = .ok (.getfield 15, 3) := by decide +kernel
theorem dX3_writeVersion_91 : decode cX3_writeVersion 91 = .ok (.iload_n 2, 1) := by decide +kernel
theorem dX3_writeVersion_92 : decode cX3_writeVersion 92 = .ok (.iload_n 3, 1) := by decide +kernel
theorem dX3_writeVersion_93 : decode cX3_writeVersion 93 = .ok (.invokevirtual 119, 3) := by decide +kernel
theorem dX3_writeVersion_96 : decode cX3_writeVersion 96 = .ok (.ifCond .ne 6, 3) := by decide +kernel
theorem dX3_writeVersion_99 : decode cX3_writeVersion 99 = .ok (.bipush (-4), 2) := by decide +kernel
theorem dX3_writeVersion_101 : decode cX3_writeVersion 101 = .ok (.ireturn, 1) := by decide +kernel
theorem dX3_writeVersion_102 : decode cX3_writeVersion 102 = .ok (.iinc 3 1, 3) := by decide +kernel
theorem dX3_writeVersion_105 : decode cX3_writeVersion 105 = .ok (.iinc 4 1, 3) := by decide +kernel
theorem dX3_writeVersion_108 : decode cX3_writeVersion 108 = .ok (.goto (-64), 3) := by decide +kernel
theorem dX3_writeVersion_111 : decode cX3_writeVersion 111 = .ok (.iload_n 3, 1) := by decide +kernel
theorem dX3_writeVersion_112 : decode cX3_writeVersion 112 = .ok (.ireturn, 1) := by decide +kernel
theorem dX3_copyKept_0 : decode cX3_copyKept 0 = .ok (.iload_n 1, 1) := by decide +kernel
theorem dX3_copyKept_1 : decode cX3_copyKept 1 = .ok (.istore_n 3, 1) := by decide +kernel
theorem dX3_copyKept_2 : decode cX3_copyKept 2 = .ok (.iconst 0, 1) := by decide +kernel
theorem dX3_copyKept_3 : decode cX3_copyKept 3 = .ok (.istore 4, 2) := by decide +kernel
theorem dX3_copyKept_5 : decode cX3_copyKept 5 = .ok (.iload 4, 2) := by decide +kernel
theorem dX3_copyKept_7 : decode cX3_copyKept 7 = .ok (.aload_n 0, 1) := by decide +kernel
theorem dX3_copyKept_8 : decode cX3_copyKept 8 = .ok (.getfield 15, 3) := by decide +kernel
theorem dX3_copyKept_11 : decode cX3_copyKept 11 = .ok (.getfield 33, 3) := by decide +kernel
theorem dX3_copyKept_14 : decode cX3_copyKept 14 = .ok (.if_icmp .ge 46, 3) := by decide +kernel
theorem dX3_copyKept_17 : decode cX3_copyKept 17 = .ok (.aload_n 0, 1) := by decide +kernel
theorem dX3_copyKept_18 : decode cX3_copyKept 18 = .ok (.getfield 23, 3) := by decide +kernel
theorem dX3_copyKept_21 : decode cX3_copyKept 21 = .ok (.iload 4, 2) := by decide +kernel
theorem dX3_copyKept_23 : decode cX3_copyKept 23 = .ok (.baload, 1) := by decide +kernel
theorem dX3_copyKept_24 : decode cX3_copyKept 24 = .ok (.ifCond .eq 30, 3) := by decide +kernel
theorem dX3_copyKept_27 : decode cX3_copyKept 27 = .ok (.aload_n 0, 1) := by decide +kernel
theorem dX3_copyKept_28 : decode cX3_copyKept 28 = .ok (.getfield 15, 3) := by decide +kernel
theorem dX3_copyKept_31 : decode cX3_copyKept 31 = .ok (.iload 4, 2) := by decide +kernel
theorem dX3_copyKept_33 : decode cX3_copyKept 33 = .ok (.invokevirtual 126, 3) := by decide +kernel
theorem dX3_copyKept_36 : decode cX3_copyKept 36 = .ok (.aload_n 0, 1) := by decide +kernel
theorem dX3_copyKept_37 : decode cX3_copyKept 37 = .ok (.getfield 15, 3) := by decide +kernel
theorem dX3_copyKept_40 : decode cX3_copyKept 40 = .ok (.iload_n 2, 1) := by decide +kernel
theorem dX3_copyKept_41 : decode cX3_copyKept 41 = .ok (.iload_n 3, 1) := by decide +kernel
theorem dX3_copyKept_42 : decode cX3_copyKept 42 = .ok (.invokevirtual 119, 3) := by decide +kernel
theorem dX3_copyKept_45 : decode cX3_copyKept 45 = .ok (.ifCond .ne 6, 3) := by decide +kernel
theorem dX3_copyKept_48 : decode cX3_copyKept 48 = .ok (.bipush (-4), 2) := by decide +kernel
theorem dX3_copyKept_50 : decode cX3_copyKept 50 = .ok (.ireturn, 1) := by decide +kernel
theorem dX3_copyKept_51 : decode cX3_copyKept 51 = .ok (.iinc 3 1, 3) := by decide +kernel
theorem dX3_copyKept_54 : decode cX3_copyKept 54 = .ok (.iinc 4 1, 3) := by decide +kernel
theorem dX3_copyKept_57 : decode cX3_copyKept 57 = .ok (.goto (-52), 3) := by decide +kernel
theorem dX3_copyKept_60 : decode cX3_copyKept 60 = .ok (.iload_n 3, 1) := by decide +kernel
theorem dX3_copyKept_61 : decode cX3_copyKept 61 = .ok (.ireturn, 1) := by decide +kernel
theorem dX5_read_0 : decode cX5_read 0 = .ok (.aload_n 1, 1) := by decide +kernel
theorem dX5_read_1 : decode cX5_read 1 = .ok (.getfield 36, 3) := by decide +kernel
theorem dX5_read_4 : decode cX5_read 4 = .ok (.bipush 8, 2) := by decide +kernel
theorem dX5_read_6 : decode cX5_read 6 = .ok (.isub, 1) := by decide +kernel
theorem dX5_read_7 : decode cX5_read 7 = .ok (.istore_n 2, 1) := by decide +kernel
theorem dX5_read_8 : decode cX5_read 8 = .ok (.iload_n 2, 1) := by decide +kernel
theorem dX5_read_9 : decode cX5_read 9 = .ok (.bipush 13, 2) := by decide +kernel
theorem dX5_read_11 : decode cX5_read 11 = .ok (.if_icmp .ge 5, 3) := by decide +kernel
theorem dX5_read_14 : decode cX5_read 14 = .ok (.iconst 0, 1) := by decide +kernel
theorem dX5_read_15 : decode cX5_read 15 = .ok (.ireturn, 1) := by decide +kernel
theorem dX5_read_16 : decode cX5_read 16 = .ok (.aload_n 0, 1) := by decide +kernel
theorem dX5_read_17 : decode cX5_read 17 = .ok (.aload_n 1, 1) := by decide +kernel
theorem dX5_read_18 : decode cX5_read 18 = .ok (.getfield 39, 3) := by decide +kernel
theorem dX5_read_21 : decode cX5_read 21 = .ok (.iconst 0, 1) := by decide +kernel
theorem dX5_read_22 : decode cX5_read 22 = .ok (.invokestatic 43, 3) := by decide +kernel
theorem dX5_read_25 : decode cX5_read 25 = .ok (.putfield 25, 3) := by decide +kernel
theorem dX5_read_28 : decode cX5_read 28 = .ok (.aload_n 0, 1) := by decide +kernel
theorem dX5_read_29 : decode cX5_read 29 = .ok (.aload_n 1, 1) := by decide +kernel
theorem dX5_read_30 : decode cX5_read 30 = .ok (.getfield 39, 3) := by decide +kernel
theorem dX5_read_33 : decode cX5_read 33 = .ok (.iconst 4, 1) := by decide +kernel
theorem dX5_read_34 : decode cX5_read 34 = .ok (.invokestatic 49, 3) := by decide +kernel
theorem dX5_read_37 : decode cX5_read 37 = .ok (.putfield 29, 3) := by decide +kernel
theorem dX5_read_40 : decode cX5_read 40 = .ok (.aload_n 0, 1) := by decide +kernel
theorem dX5_read_41 : decode cX5_read 41 = .ok (.aload_n 1, 1) := by decide +kernel
theorem dX5_read_42 : decode cX5_read 42 = .ok (.getfield 39, 3) := by decide +kernel
theorem dX5_read_45 : decode cX5_read 45 = .ok (.bipush 12, 2) := by decide +kernel
theorem dX5_read_47 : decode cX5_read 47 = .ok (.baload, 1) := by decide +kernel
theorem dX5_read_48 : decode cX5_read 48 = .ok (.sipush 255, 3) := by decide +kernel
theorem dX5_read_51 : decode cX5_read 51 = .ok (.iand, 1) := by decide +kernel
theorem dX5_read_52 : decode cX5_read 52 = .ok (.putfield 33, 3) := by decide +kernel
theorem dX5_read_55 : decode cX5_read 55 = .ok (.aload_n 0, 1) := by decide +kernel
theorem dX5_read_56 : decode cX5_read 56 = .ok (.getfield 25, 3) := by decide +kernel
theorem dX5_read_59 : decode cX5_read 59 = .ok (.invokestatic 53, 3) := by decide +kernel
theorem dX5_read_62 : decode cX5_read 62 = .ok (.ifCond .eq 56, 3) := by decide +kernel
theorem dX5_read_65 : decode cX5_read 65 = .ok (.aload_n 0, 1) := by decide +kernel
theorem dX5_read_66 : decode cX5_read 66 = .ok (.getfield 29, 3) := by decide +kernel
theorem dX5_read_69 : decode cX5_read 69 = .ok (.lconst 0, 1) := by decide +kernel
theorem dX5_read_70 : decode cX5_read 70 = .ok (.lcmp, 1) := by decide +kernel
theorem dX5_read_71 : decode cX5_read 71 = .ok (.ifCond .eq 47, 3) := by decide +kernel
theorem dX5_read_74 : decode cX5_read 74 = .ok (.aload_n 0, 1) := by decide +kernel
theorem dX5_read_75 : decode cX5_read 75 = .ok (.getfield 33, 3) := by decide +kernel
theorem dX5_read_78 : decode cX5_read 78 = .ok (.bipush 16, 2) := by decide +kernel
theorem dX5_read_80 : decode cX5_read 80 = .ok (.if_icmp .gt 38, 3) := by decide +kernel
theorem dX5_read_83 : decode cX5_read 83 = .ok (.aload_n 0, 1) := by decide +kernel
theorem dX5_read_84 : decode cX5_read 84 = .ok (.aload_n 1, 1) := by decide +kernel
theorem dX5_read_85 : decode cX5_read 85 = .ok (.iload_n 2, 1) := by decide +kernel
theorem dX5_read_86 : decode cX5_read 86 = .ok (.invokevirtual 57, 3) := by decide +kernel
theorem dX5_read_89 : decode cX5_read 89 = .ok (.ifCond .eq 29, 3) := by decide +kernel
theorem dX5_read_92 : decode cX5_read 92 = .ok (.aload_n 1, 1) := by decide +kernel
theorem dX5_read_93 : decode cX5_read 93 = .ok (.getfield 39, 3) := by decide +kernel
theorem dX5_read_96 : decode cX5_read 96 = .ok (.iload_n 2, 1) := by decide +kernel
theorem dX5_read_97 : decode cX5_read 97 = .ok (.invokestatic 49, 3) := by decide +kernel
theorem dX5_read_100 : decode cX5_read 100 = .ok (.aload_n 1, 1) := by decide +kernel
theorem dX5_read_101 : decode cX5_read 101 = .ok (.getfield 39, 3) := by decide +kernel
theorem dX5_read_104 : decode cX5_read 104 = .ok (.iconst 0, 1) := by decide +kernel
theorem dX5_read_105 : decode cX5_read 105 = .ok (.iload_n 2, 1) := by decide +kernel
theorem dX5_read_106 : decode cX5_read 106 = .ok (.iconst 5, 1) := by decide +kernel
theorem dX5_read_107 : decode cX5_read 107 = .ok (.invokestatic 61, 3) := by decide +kernel
theorem dX5_read_110 : decode cX5_read 110 = .ok (.lcmp, 1) := by decide +kernel
theorem dX5_read_111 : decode cX5_read 111 = .ok (.ifCond .ne 7, 3) := by decide +kernel
theorem dX5_read_114 : decode cX5_read 114 = .ok (.iconst 1, 1) := by decide +kernel
theorem dX5_read_115 : decode cX5_read 115 = .ok (.goto 4, 3) := by decide +kernel
theorem dX5_read_118 : decode cX5_read 118 = .ok (.iconst 0, 1) := by decide +kernel
theorem dX5_read_119 : decode cX5_read 119 = .ok (.ireturn, 1) := by decide +kernel
theorem dX5_readLeaves_0 : decode cX5_readLeaves 0 = .ok (.bipush 13, 2) := by decide +kernel
theorem dX5_readLeaves_2 : decode cX5_readLeaves 2 = .ok (.istore_n 3, 1) := by decide +kernel
theorem dX5_readLeaves_3 : decode cX5_readLeaves 3 = .ok (.iconst 0, 1) := by decide +kernel
theorem dX5_readLeaves_4 : decode cX5_readLeaves 4 = .ok (.istore 4, 2) := by decide +kernel
theorem dX5_readLeaves_6 : decode cX5_readLeaves 6 = .ok (.iconst 0, 1) := by decide +kernel
theorem dX5_readLeaves_7 : decode cX5_readLeaves 7 = .ok (.istore 5, 2) := by decide +kernel
theorem dX5_readLeaves_9 : decode cX5_readLeaves 9 = .ok (.iload 5, 2) := by decide +kernel
theorem dX5_readLeaves_11 : decode cX5_readLeaves 11 = .ok (.aload_n 0, 1) := by decide +kernel
theorem dX5_readLeaves_12 : decode cX5_readLeaves 12 = .ok (.getfield 33, 3) := by decide +kernel
theorem dX5_readLeaves_15 : decode cX5_readLeaves 15 = .ok (.if_icmp .ge 141, 3) := by decide +kernel
theorem dX5_readLeaves_18 : decode cX5_readLeaves 18 = .ok (.iload_n 3, 1) := by decide +kernel
theorem dX5_readLeaves_19 : decode cX5_readLeaves 19 = .ok (.iconst 2, 1) := by decide +kernel
theorem dX5_readLeaves_20 : decode cX5_readLeaves 20 = .ok (.iadd, 1) := by decide +kernel
theorem dX5_readLeaves_21 : decode cX5_readLeaves 21 = .ok (.iload_n 2, 1) := by decide +kernel
theorem dX5_readLeaves_22 : decode cX5_readLeaves 22 = .ok (.if_icmp .le 5, 3) := by decide +kernel
theorem dX5_readLeaves_25 : decode cX5_readLeaves 25 = .ok (.iconst 0, 1) := by decide +kernel
theorem dX5_readLeaves_26 : decode cX5_readLeaves 26 = .ok (.ireturn, 1) := by decide +kernel
theorem dX5_readLeaves_27 : decode cX5_readLeaves 27 = .ok (.aload_n 0, 1) := by decide +kernel
theorem dX5_readLeaves_28 : decode cX5_readLeaves 28 = .ok (.getfield 9, 3) := by decide +kernel
theorem dX5_readLeaves_31 : decode cX5_readLeaves 31 = .ok (.iload 5, 2) := by decide +kernel
theorem dX5_readLeaves_33 : decode cX5_readLeaves 33 = .ok (.aload_n 1, 1) := by decide +kernel
theorem dX5_readLeaves_34 : decode cX5_readLeaves 34 = .ok (.getfield 39, 3) := by decide +kernel
theorem dX5_readLeaves_37 : decode cX5_readLeaves 37 = .ok (.iload_n 3, 1) := by decide +kernel
theorem dX5_readLeaves_38 : decode cX5_readLeaves 38 = .ok (.baload, 1) := by decide +kernel
theorem dX5_readLeaves_39 : decode cX5_readLeaves 39 = .ok (.sipush 255, 3) := by decide +kernel
theorem dX5_readLeaves_42 : decode cX5_readLeaves 42 = .ok (.iand, 1) := by decide +kernel
theorem dX5_readLeaves_43 : decode cX5_readLeaves 43 = .ok (.iastore, 1) := by decide +kernel
theorem dX5_readLeaves_44 : decode cX5_readLeaves 44 = .ok (.aload_n 0, 1) := by decide +kernel
theorem dX5_readLeaves_45 : decode cX5_readLeaves 45 = .ok (.getfield 18, 3) := by decide +kernel
theorem dX5_readLeaves_48 : decode cX5_readLeaves 48 = .ok (.iload 5, 2) := by decide +kernel
theorem dX5_readLeaves_50 : decode cX5_readLeaves 50 = .ok (.aload_n 1, 1) := by decide +kernel
theorem dX5_readLeaves_51 : decode cX5_readLeaves 51 = .ok (.getfield 39, 3) := by decide +kernel
theorem dX5_readLeaves_54 : decode cX5_readLeaves 54 = .ok (.iload_n 3, 1) := by decide +kernel
theorem dX5_readLeaves_55 : decode cX5_readLeaves 55 = .ok (.iconst 1, 1) := by decide +kernel
theorem dX5_readLeaves_56 : decode cX5_readLeaves 56 = .ok (.iadd, 1) := by decide +kernel
theorem dX5_readLeaves_57 : decode cX5_readLeaves 57 = .ok (.baload, 1) := by decide +kernel
theorem dX5_readLeaves_58 : decode cX5_readLeaves 58 = .ok (.sipush 255, 3) := by decide +kernel
theorem dX5_readLeaves_61 : decode cX5_readLeaves 61 = .ok (.iand, 1) := by decide +kernel
theorem dX5_readLeaves_62 : decode cX5_readLeaves 62 = .ok (.iastore, 1) := by decide +kernel
theorem dX5_readLeaves_63 : decode cX5_readLeaves 63 = .ok (.aload_n 0, 1) := by decide +kernel
theorem dX5_readLeaves_64 : decode cX5_readLeaves 64 = .ok (.getfield 15, 3) := by decide +kernel
theorem dX5_readLeaves_67 : decode cX5_readLeaves 67 = .ok (.iload 5, 2) := by decide +kernel
theorem dX5_readLeaves_69 : decode cX5_readLeaves 69 = .ok (.iload_n 3, 1) := by decide +kernel
theorem dX5_readLeaves_70 : decode cX5_readLeaves 70 = .ok (.iconst 2, 1) := by decide +kernel
theorem dX5_readLeaves_71 : decode cX5_readLeaves 71 = .ok (.iadd, 1) := by decide +kernel
theorem dX5_readLeaves_72 : decode cX5_readLeaves 72 = .ok (.iastore, 1) := by decide +kernel
theorem dX5_readLeaves_73 : decode cX5_readLeaves 73 = .ok (.iload_n 3, 1) := by decide +kernel
theorem dX5_readLeaves_74 : decode cX5_readLeaves 74 = .ok (.iconst 2, 1) := by decide +kernel
theorem dX5_readLeaves_75 : decode cX5_readLeaves 75 = .ok (.aload_n 0, 1) := by decide +kernel
theorem dX5_readLeaves_76 : decode cX5_readLeaves 76 = .ok (.getfield 18, 3) := by decide +kernel
theorem dX5_readLeaves_79 : decode cX5_readLeaves 79 = .ok (.iload 5, 2) := by decide +kernel
theorem dX5_readLeaves_81 : decode cX5_readLeaves 81 = .ok (.iaload, 1) := by decide +kernel
theorem dX5_readLeaves_82 : decode cX5_readLeaves 82 = .ok (.iadd, 1) := by decide +kernel
theorem dX5_readLeaves_83 : decode cX5_readLeaves 83 = .ok (.iadd, 1) := by decide +kernel
theorem dX5_readLeaves_84 : decode cX5_readLeaves 84 = .ok (.istore_n 3, 1) := by decide +kernel
theorem dX5_readLeaves_85 : decode cX5_readLeaves 85 = .ok (.aload_n 0, 1) := by decide +kernel
theorem dX5_readLeaves_86 : decode cX5_readLeaves 86 = .ok (.getfield 9, 3) := by decide +kernel
theorem dX5_readLeaves_89 : decode cX5_readLeaves 89 = .ok (.iload 5, 2) := by decide +kernel
theorem dX5_readLeaves_91 : decode cX5_readLeaves 91 = .ok (.iaload, 1) := by decide +kernel
theorem dX5_readLeaves_92 : decode cX5_readLeaves 92 = .ok (.iload 4, 2) := by decide +kernel
theorem dX5_readLeaves_94 : decode cX5_readLeaves 94 = .ok (.if_icmp .lt 43, 3) := by decide +kernel
theorem dX5_readLeaves_97 : decode cX5_readLeaves 97 = .ok (.aload_n 0, 1) := by decide +kernel
theorem dX5_readLeaves_98 : decode cX5_readLeaves 98 = .ok (.getfield 9, 3) := by decide +kernel
theorem dX5_readLeaves_101 : decode cX5_readLeaves 101 = .ok (.iload 5, 2) := by decide +kernel
theorem dX5_readLeaves_103 : decode cX5_readLeaves 103 = .ok (.iaload, 1) := by decide +kernel
theorem dX5_readLeaves_104 : decode cX5_readLeaves 104 = .ok (.bipush 16, 2) := by decide +kernel
theorem dX5_readLeaves_106 : decode cX5_readLeaves 106 = .ok (.if_icmp .ge 31, 3) := by decide +kernel
theorem dX5_readLeaves_109 : decode cX5_readLeaves 109 = .ok (.aload_n 0, 1) := by decide +kernel
theorem dX5_readLeaves_110 : decode cX5_readLeaves 110 = .ok (.getfield 18, 3) := by decide +kernel
theorem dX5_readLeaves_113 : decode cX5_readLeaves 113 = .ok (.iload 5, 2) := by decide +kernel
theorem dX5_readLeaves_115 : decode cX5_readLeaves 115 = .ok (.iaload, 1) := by decide +kernel
theorem dX5_readLeaves_116 : decode cX5_readLeaves 116 = .ok (.iconst 1, 1) := by decide +kernel
theorem dX5_readLeaves_117 : decode cX5_readLeaves 117 = .ok (.if_icmp .lt 20, 3) := by decide +kernel
theorem dX5_readLeaves_120 : decode cX5_readLeaves 120 = .ok (.aload_n 0, 1) := by decide +kernel
theorem dX5_readLeaves_121 : decode cX5_readLeaves 121 = .ok (.getfield 18, 3) := by decide +kernel
theorem dX5_readLeaves_124 : decode cX5_readLeaves 124 = .ok (.iload 5, 2) := by decide +kernel
theorem dX5_readLeaves_126 : decode cX5_readLeaves 126 = .ok (.iaload, 1) := by decide +kernel
theorem dX5_readLeaves_127 : decode cX5_readLeaves 127 = .ok (.bipush 16, 2) := by decide +kernel
theorem dX5_readLeaves_129 : decode cX5_readLeaves 129 = .ok (.if_icmp .gt 8, 3) := by decide +kernel
theorem dX5_readLeaves_132 : decode cX5_readLeaves 132 = .ok (.iload_n 3, 1) := by decide +kernel
theorem dX5_readLeaves_133 : decode cX5_readLeaves 133 = .ok (.iload_n 2, 1) := by decide +kernel
theorem dX5_readLeaves_134 : decode cX5_readLeaves 134 = .ok (.if_icmp .le 5, 3) := by decide +kernel
theorem dX5_readLeaves_137 : decode cX5_readLeaves 137 = .ok (.iconst 0, 1) := by decide +kernel
theorem dX5_readLeaves_138 : decode cX5_readLeaves 138 = .ok (.ireturn, 1) := by decide +kernel
theorem dX5_readLeaves_139 : decode cX5_readLeaves 139 = .ok (.aload_n 0, 1) := by decide +kernel
theorem dX5_readLeaves_140 : decode cX5_readLeaves 140 = .ok (.getfield 9, 3) := by decide +kernel
theorem dX5_readLeaves_143 : decode cX5_readLeaves 143 = .ok (.iload 5, 2) := by decide +kernel
theorem dX5_readLeaves_145 : decode cX5_readLeaves 145 = .ok (.iaload, 1) := by decide +kernel
