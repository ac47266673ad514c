theorem dX8_feed_0 : decode cX8_feed 0 = .ok (.iload_n 3, 1) := by decide +kernel
theorem dX8_feed_1 : decode cX8_feed 1 = .ok (.iconst 1, 1) := by decide +kernel
theorem dX8_feed_2 : decode cX8_feed 2 = .ok (.if_icmp .lt 9, 3) := by decide +kernel
theorem dX8_feed_5 : decode cX8_feed 5 = .ok (.iload_n 3, 1) := by decide +kernel
theorem dX8_feed_6 : decode cX8_feed 6 = .ok (.bipush 8, 2) := by decide +kernel
theorem dX8_feed_8 : decode cX8_feed 8 = .ok (.if_icmp .le 13, 3) := by decide +kernel
theorem dX8_feed_11 : decode cX8_feed 11 = .ok (.new 76, 3) := by decide +kernel
theorem dX8_feed_14 : decode cX8_feed 14 = .ok (.dup, 1) := by decide +kernel
theorem dX8_feed_15 : decode cX8_feed 15 = .ok (.ldc 78, 2) := by decide +kernel
theorem dX8_feed_17 : decode cX8_feed 17 = .ok (.invokespecial 80, 3) := by decide +kernel
theorem dX8_feed_20 : decode cX8_feed 20 = .ok (.athrow, 1) := by decide +kernel
theorem dX8_feed_21 : decode cX8_feed 21 = .ok (.aload_n 0, 1) := by decide +kernel
theorem dX8_feed_22 : decode cX8_feed 22 = .ok (.getfield 13, 3) := by decide +kernel
theorem dX8_feed_25 : decode cX8_feed 25 = .ok (.getfield 83, 3) := by decide +kernel
theorem dX8_feed_28 : decode cX8_feed 28 = .ok (.iload_n 3, 1) := by decide +kernel
theorem dX8_feed_29 : decode cX8_feed 29 = .ok (.iadd, 1) := by decide +kernel
theorem dX8_feed_30 : decode cX8_feed 30 = .ok (.sipush 400, 3) := by decide +kernel
theorem dX8_feed_33 : decode cX8_feed 33 = .ok (.if_icmp .le 13, 3) := by decide +kernel
theorem dX8_feed_36 : decode cX8_feed 36 = .ok (.new 76, 3) := by decide +kernel
theorem dX8_feed_39 : decode cX8_feed 39 = .ok (.dup, 1) := by decide +kernel
theorem dX8_feed_40 : decode cX8_feed 40 = .ok (.ldc 86, 2) := by decide +kernel
theorem dX8_feed_42 : decode cX8_feed 42 = .ok (.invokespecial 80, 3) := by decide +kernel
theorem dX8_feed_45 : decode cX8_feed 45 = .ok (.athrow, 1) := by decide +kernel
theorem dX8_feed_46 : decode cX8_feed 46 = .ok (.iload_n 3, 1) := by decide +kernel
theorem dX8_feed_47 : decode cX8_feed 47 = .ok (.iconst 1, 1) := by decide +kernel
theorem dX8_feed_48 : decode cX8_feed 48 = .ok (.isub, 1) := by decide +kernel
theorem dX8_feed_49 : decode cX8_feed 49 = .ok (.istore 4, 2) := by decide +kernel
theorem dX8_feed_51 : decode cX8_feed 51 = .ok (.iload 4, 2) := by decide +kernel
theorem dX8_feed_53 : decode cX8_feed 53 = .ok (.ifCond .lt 24, 3) := by decide +kernel
theorem dX8_feed_56 : decode cX8_feed 56 = .ok (.aload_n 0, 1) := by decide +kernel
theorem dX8_feed_57 : decode cX8_feed 57 = .ok (.getfield 13, 3) := by decide +kernel
theorem dX8_feed_60 : decode cX8_feed 60 = .ok (.lload_n 1, 1) := by decide +kernel
theorem dX8_feed_61 : decode cX8_feed 61 = .ok (.bipush 8, 2) := by decide +kernel
theorem dX8_feed_63 : decode cX8_feed 63 = .ok (.iload 4, 2) := by decide +kernel
theorem dX8_feed_65 : decode cX8_feed 65 = .ok (.imul, 1) := by decide +kernel
theorem dX8_feed_66 : decode cX8_feed 66 = .ok (.lushr, 1) := by decide +kernel
theorem dX8_feed_67 : decode cX8_feed 67 = .ok (.l2i, 1) := by decide +kernel
theorem dX8_feed_68 : decode cX8_feed 68 = .ok (.invokevirtual 88, 3) := by decide +kernel
theorem dX8_feed_71 : decode cX8_feed 71 = .ok (.iinc 4 (-1), 3) := by decide +kernel
theorem dX8_feed_74 : decode cX8_feed 74 = .ok (.goto (-23), 3) := by decide +kernel
theorem dX8_feed_77 : decode cX8_feed 77 = .ok (.aload_n 0, 1) := by decide +kernel
theorem dX8_feed_78 : decode cX8_feed 78 = .ok (.getfield 13, 3) := by decide +kernel
theorem dX8_feed_81 : decode cX8_feed 81 = .ok (.getfield 83, 3) := by decide +kernel
theorem dX8_feed_84 : decode cX8_feed 84 = .ok (.ireturn, 1) := by decide +kernel
theorem dX8_at_0 : decode cX8_at 0 = .ok (.iload_n 1, 1) := by decide +kernel
theorem dX8_at_1 : decode cX8_at 1 = .ok (.ifCond .lt 14, 3) := by decide +kernel
theorem dX8_at_4 : decode cX8_at 4 = .ok (.iload_n 1, 1) := by decide +kernel
theorem dX8_at_5 : decode cX8_at 5 = .ok (.aload_n 0, 1) := by decide +kernel
theorem dX8_at_6 : decode cX8_at 6 = .ok (.getfield 13, 3) := by decide +kernel
theorem dX8_at_9 : decode cX8_at 9 = .ok (.getfield 83, 3) := by decide +kernel
theorem dX8_at_12 : decode cX8_at 12 = .ok (.if_icmp .lt 13, 3) := by decide +kernel
theorem dX8_at_15 : decode cX8_at 15 = .ok (.new 91, 3) := by decide +kernel
theorem dX8_at_18 : decode cX8_at 18 = .ok (.dup, 1) := by decide +kernel
theorem dX8_at_19 : decode cX8_at 19 = .ok (.ldc 93, 2) := by decide +kernel
theorem dX8_at_21 : decode cX8_at 21 = .ok (.invokespecial 95, 3) := by decide +kernel
theorem dX8_at_24 : decode cX8_at 24 = .ok (.athrow, 1) := by decide +kernel
theorem dX8_at_25 : decode cX8_at 25 = .ok (.aload_n 0, 1) := by decide +kernel
theorem dX8_at_26 : decode cX8_at 26 = .ok (.getfield 13, 3) := by decide +kernel
theorem dX8_at_29 : decode cX8_at 29 = .ok (.getfield 96, 3) := by decide +kernel
theorem dX8_at_32 : decode cX8_at 32 = .ok (.iload_n 1, 1) := by decide +kernel
theorem dX8_at_33 : decode cX8_at 33 = .ok (.baload, 1) := by decide +kernel
theorem dX8_at_34 : decode cX8_at 34 = .ok (.sipush 255, 3) := by decide +kernel
theorem dX8_at_37 : decode cX8_at 37 = .ok (.iand, 1) := by decide +kernel
theorem dX8_at_38 : decode cX8_at 38 = .ok (.ireturn, 1) := by decide +kernel
theorem dX8_block_0 : decode cX8_block 0 = .ok (.aload_n 0, 1) := by decide +kernel
theorem dX8_block_1 : decode cX8_block 1 = .ok (.invokevirtual 99, 3) := by decide +kernel
theorem dX8_block_4 : decode cX8_block 4 = .ok (.iload_n 1, 1) := by decide +kernel
theorem dX8_block_5 : decode cX8_block 5 = .ok (.invokestatic 133, 3) := by decide +kernel
theorem dX8_block_8 : decode cX8_block 8 = .ok (.aload_n 0, 1) := by decide +kernel
theorem dX8_block_9 : decode cX8_block 9 = .ok (.getfield 31, 3) := by decide +kernel
theorem dX8_block_12 : decode cX8_block 12 = .ok (.invokevirtual 104, 3) := by decide +kernel
theorem dX8_block_15 : decode cX8_block 15 = .ok (.ifCond .eq 6, 3) := by decide +kernel
theorem dX8_block_18 : decode cX8_block 18 = .ok (.bipush (-3), 2) := by decide +kernel
theorem dX8_block_20 : decode cX8_block 20 = .ok (.ireturn, 1) := by decide +kernel
theorem dX8_block_21 : decode cX8_block 21 = .ok (.aload_n 0, 1) := by decide +kernel
theorem dX8_block_22 : decode cX8_block 22 = .ok (.getfield 40, 3) := by decide +kernel
theorem dX8_block_25 : decode cX8_block 25 = .ok (.lload_n 2, 1) := by decide +kernel
theorem dX8_block_26 : decode cX8_block 26 = .ok (.invokevirtual 136, 3) := by decide +kernel
theorem dX8_block_29 : decode cX8_block 29 = .ok (.lstore 4, 2) := by decide +kernel
theorem dX8_block_31 : decode cX8_block 31 = .ok (.aload_n 0, 1) := by decide +kernel
theorem dX8_block_32 : decode cX8_block 32 = .ok (.getfield 40, 3) := by decide +kernel
theorem dX8_block_35 : decode cX8_block 35 = .ok (.lload 4, 2) := by decide +kernel
theorem dX8_block_37 : decode cX8_block 37 = .ok (.invokevirtual 140, 3) := by decide +kernel
theorem dX8_block_40 : decode cX8_block 40 = .ok (.istore 6, 2) := by decide +kernel
theorem dX8_block_42 : decode cX8_block 42 = .ok (.iload 6, 2) := by decide +kernel
theorem dX8_block_44 : decode cX8_block 44 = .ok (.iconst (-1), 1) := by decide +kernel
theorem dX8_block_45 : decode cX8_block 45 = .ok (.if_icmp .ne 6, 3) := by decide +kernel
theorem dX8_block_48 : decode cX8_block 48 = .ok (.bipush (-6), 2) := by decide +kernel
theorem dX8_block_50 : decode cX8_block 50 = .ok (.ireturn, 1) := by decide +kernel
theorem dX8_block_51 : decode cX8_block 51 = .ok (.iload_n 1, 1) := by decide +kernel
theorem dX8_block_52 : decode cX8_block 52 = .ok (.iload 6, 2) := by decide +kernel
theorem dX8_block_54 : decode cX8_block 54 = .ok (.iconst 1, 1) := by decide +kernel
theorem dX8_block_55 : decode cX8_block 55 = .ok (.iadd, 1) := by decide +kernel
theorem dX8_block_56 : decode cX8_block 56 = .ok (.if_icmp .eq 6, 3) := by decide +kernel
theorem dX8_block_59 : decode cX8_block 59 = .ok (.bipush (-10), 2) := by decide +kernel
theorem dX8_block_61 : decode cX8_block 61 = .ok (.ireturn, 1) := by decide +kernel
theorem dX8_block_62 : decode cX8_block 62 = .ok (.aload_n 0, 1) := by decide +kernel
theorem dX8_block_63 : decode cX8_block 63 = .ok (.getfield 40, 3) := by decide +kernel
theorem dX8_block_66 : decode cX8_block 66 = .ok (.aload_n 0, 1) := by decide +kernel
theorem dX8_block_67 : decode cX8_block 67 = .ok (.iload_n 1, 1) := by decide +kernel
theorem dX8_block_68 : decode cX8_block 68 = .ok (.lload 4, 2) := by decide +kernel
theorem dX8_block_70 : decode cX8_block 70 = .ok (.invokevirtual 144, 3) := by decide +kernel
theorem dX8_block_73 : decode cX8_block 73 = .ok (.invokevirtual 148, 3) := by decide +kernel
theorem dX8_block_76 : decode cX8_block 76 = .ok (.istore 7, 2) := by decide +kernel
theorem dX8_block_78 : decode cX8_block 78 = .ok (.iload 7, 2) := by decide +kernel
theorem dX8_block_80 : decode cX8_block 80 = .ok (.iconst (-1), 1) := by decide +kernel
theorem dX8_block_81 : decode cX8_block 81 = .ok (.if_icmp .ne 26, 3) := by decide +kernel
theorem dX8_block_84 : decode cX8_block 84 = .ok (.aload_n 0, 1) := by decide +kernel
theorem dX8_block_85 : decode cX8_block 85 = .ok (.getfield 31, 3) := by decide +kernel
theorem dX8_block_88 : decode cX8_block 88 = .ok (.getfield 151, 3) := by decide +kernel
theorem dX8_block_91 : decode cX8_block 91 = .ok (.iconst 1, 1) := by decide +kernel
theorem dX8_block_92 : decode cX8_block 92 = .ok (.iadd, 1) := by decide +kernel
theorem dX8_block_93 : decode cX8_block 93 = .ok (.aload_n 0, 1) := by decide +kernel
theorem dX8_block_94 : decode cX8_block 94 = .ok (.getfield 72, 3) := by decide +kernel
theorem dX8_block_97 : decode cX8_block 97 = .ok (.iadd, 1) := by decide +kernel
theorem dX8_block_98 : decode cX8_block 98 = .ok (.sipush 128, 3) := by decide +kernel
theorem dX8_block_101 : decode cX8_block 101 = .ok (.if_icmp .le 6, 3) := by decide +kernel
theorem dX8_block_104 : decode cX8_block 104 = .ok (.bipush (-2), 2) := by decide +kernel
theorem dX8_block_106 : decode cX8_block 106 = .ok (.ireturn, 1) := by decide +kernel
theorem dX8_block_107 : decode cX8_block 107 = .ok (.aload_n 0, 1) := by decide +kernel
theorem dX8_block_108 : decode cX8_block 108 = .ok (.getfield 72, 3) := by decide +kernel
theorem dX8_block_111 : decode cX8_block 111 = .ok (.istore 8, 2) := by decide +kernel
theorem dX8_block_113 : decode cX8_block 113 = .ok (.aload_n 0, 1) := by decide +kernel
theorem dX8_block_114 : decode cX8_block 114 = .ok (.iconst 0, 1) := by decide +kernel
theorem dX8_block_115 : decode cX8_block 115 = .ok (.putfield 72, 3) := by decide +kernel
theorem dX8_block_118 : decode cX8_block 118 = .ok (.iload 7, 2) := by decide +kernel
theorem dX8_block_120 : decode cX8_block 120 = .ok (.iconst (-1), 1) := by decide +kernel
theorem dX8_block_121 : decode cX8_block 121 = .ok (.if_icmp .eq 8, 3) := by decide +kernel
theorem dX8_block_124 : decode cX8_block 124 = .ok (.iload 7, 2) := by decide +kernel
theorem dX8_block_126 : decode cX8_block 126 = .ok (.goto 12, 3) := by decide +kernel
theorem dX8_block_129 : decode cX8_block 129 = .ok (.aload_n 0, 1) := by decide +kernel
theorem dX8_block_130 : decode cX8_block 130 = .ok (.iload_n 1, 1) := by decide +kernel
theorem dX8_block_131 : decode cX8_block 131 = .ok (.lload 4, 2) := by decide +kernel
theorem dX8_block_133 : decode cX8_block 133 = .ok (.iload 8, 2) := by decide +kernel
theorem dX8_block_135 : decode cX8_block 135 = .ok (.invokevirtual 152, 3) := by decide +kernel
theorem dX8_block_138 : decode cX8_block 138 = .ok (.ireturn, 1) := by decide +kernel
theorem dX8_digest_0 : decode cX8_digest 0 = .ok (.aload_n 0, 1) := by decide +kernel
theorem dX8_digest_1 : decode cX8_digest 1 = .ok (.iload_n 1, 1) := by decide +kernel
theorem dX8_digest_2 : decode cX8_digest 2 = .ok (.invokevirtual 156, 3) := by decide +kernel
theorem dX8_digest_5 : decode cX8_digest 5 = .ok (.aload_n 0, 1) := by decide +kernel
theorem dX8_digest_6 : decode cX8_digest 6 = .ok (.invokevirtual 99, 3) := by decide +kernel
theorem dX8_digest_9 : decode cX8_digest 9 = .ok (.aload_n 0, 1) := by decide +kernel
theorem dX8_digest_10 : decode cX8_digest 10 = .ok (.getfield 40, 3) := by decide +kernel
theorem dX8_digest_13 : decode cX8_digest 13 = .ok (.iload_n 1, 1) := by decide +kernel
theorem dX8_digest_14 : decode cX8_digest 14 = .ok (.invokevirtual 159, 3) := by decide +kernel
theorem dX8_digest_17 : decode cX8_digest 17 = .ok (.lreturn, 1) := by decide +kernel
theorem dX8_vote_0 : decode cX8_vote 0 = .ok (.aload_n 0, 1) := by decide +kernel
theorem dX8_vote_1 : decode cX8_vote 1 = .ok (.invokevirtual 99, 3) := by decide +kernel
theorem dX8_vote_4 : decode cX8_vote 4 = .ok (.iload_n 1, 1) := by decide +kernel
theorem dX8_vote_5 : decode cX8_vote 5 = .ok (.invokestatic 133, 3) := by decide +kernel
theorem dX8_vote_8 : decode cX8_vote 8 = .ok (.iload_n 2, 1) := by decide +kernel
theorem dX8_vote_9 : decode cX8_vote 9 = .ok (.ifCond .lt 9, 3) := by decide +kernel
theorem dX8_vote_12 : decode cX8_vote 12 = .ok (.iload_n 2, 1) := by decide +kernel
theorem dX8_vote_13 : decode cX8_vote 13 = .ok (.ldc 163, 2) := by decide +kernel
theorem dX8_vote_15 : decode cX8_vote 15 = .ok (.if_icmp .le 13, 3) := by decide +kernel
theorem dX8_vote_18 : decode cX8_vote 18 = .ok (.new 76, 3) := by decide +kernel
theorem dX8_vote_21 : decode cX8_vote 21 = .ok (.dup, 1) := by decide +kernel
theorem dX8_vote_22 : decode cX8_vote 22 = .ok (.ldc 164, 2) := by decide +kernel
theorem dX8_vote_24 : decode cX8_vote 24 = .ok (.invokespecial 80, 3) := by decide +kernel
theorem dX8_vote_27 : decode cX8_vote 27 = .ok (.athrow, 1) := by decide +kernel
theorem dX8_vote_28 : decode cX8_vote 28 = .ok (.aload_n 0, 1) := by decide +kernel
theorem dX8_vote_29 : decode cX8_vote 29 = .ok (.getfield 31, 3) := by decide +kernel
theorem dX8_vote_32 : decode cX8_vote 32 = .ok (.invokevirtual 104, 3) := by decide +kernel
theorem dX8_vote_35 : decode cX8_vote 35 = .ok (.ifCond .eq 6, 3) := by decide +kernel
theorem dX8_vote_38 : decode cX8_vote 38 = .ok (.bipush (-3), 2) := by decide +kernel
theorem dX8_vote_40 : decode cX8_vote 40 = .ok (.ireturn, 1) := by decide +kernel
theorem dX8_vote_41 : decode cX8_vote 41 = .ok (.aload_n 0, 1) := by decide +kernel
theorem dX8_vote_42 : decode cX8_vote 42 = .ok (.getfield 40, 3) := by decide +kernel
theorem dX8_vote_45 : decode cX8_vote 45 = .ok (.lload_n 3, 1) := by decide +kernel
theorem dX8_vote_46 : decode cX8_vote 46 = .ok (.invokevirtual 136, 3) := by decide +kernel
theorem dX8_vote_49 : decode cX8_vote 49 = .ok (.lstore 5, 2) := by decide +kernel
theorem dX8_vote_51 : decode cX8_vote 51 = .ok (.aload_n 0, 1) := by decide +kernel
theorem dX8_vote_52 : decode cX8_vote 52 = .ok (.getfield 40, 3) := by decide +kernel
theorem dX8_vote_55 : decode cX8_vote 55 = .ok (.lload 5, 2) := by decide +kernel
theorem dX8_vote_57 : decode cX8_vote 57 = .ok (.invokevirtual 148, 3) := by decide +kernel
theorem dX8_vote_60 : decode cX8_vote 60 = .ok (.istore 7, 2) := by decide +kernel
theorem dX8_vote_62 : decode cX8_vote 62 = .ok (.iload 7, 2) := by decide +kernel
theorem dX8_vote_64 : decode cX8_vote 64 = .ok (.iconst (-1), 1) := by decide +kernel
theorem dX8_vote_65 : decode cX8_vote 65 = .ok (.if_icmp .eq 16, 3) := by decide +kernel
theorem dX8_vote_68 : decode cX8_vote 68 = .ok (.aload_n 0, 1) := by decide +kernel
theorem dX8_vote_69 : decode cX8_vote 69 = .ok (.getfield 31, 3) := by decide +kernel
theorem dX8_vote_72 : decode cX8_vote 72 = .ok (.iload 7, 2) := by decide +kernel
theorem dX8_vote_74 : decode cX8_vote 74 = .ok (.invokevirtual 166, 3) := by decide +kernel
theorem dX8_vote_77 : decode cX8_vote 77 = .ok (.iload_n 1, 1) := by decide +kernel
theorem dX8_vote_78 : decode cX8_vote 78 = .ok (.if_icmp .eq 6, 3) := by decide +kernel
theorem dX8_vote_81 : decode cX8_vote 81 = .ok (.bipush (-6), 2) := by decide +kernel
theorem dX8_vote_83 : decode cX8_vote 83 = .ok (.ireturn, 1) := by decide +kernel
theorem dX8_vote_84 : decode cX8_vote 84 = .ok (.aload_n 0, 1) := by decide +kernel
theorem dX8_vote_85 : decode cX8_vote 85 = .ok (.getfield 40, 3) := by decide +kernel
theorem dX8_vote_88 : decode cX8_vote 88 = .ok (.getfield 170, 3) := by decide +kernel
theorem dX8_vote_91 : decode cX8_vote 91 = .ok (.istore 8, 2) := by decide +kernel
theorem dX8_vote_93 : decode cX8_vote 93 = .ok (.iload 8, 2) := by decide +kernel
theorem dX8_vote_95 : decode cX8_vote 95 = .ok (.iconst (-1), 1) := by decide +kernel
theorem dX8_vote_96 : decode cX8_vote 96 = .ok (.if_icmp .eq 76, 3) := by decide +kernel
theorem dX8_vote_99 : decode cX8_vote 99 = .ok (.aload_n 0, 1) := by decide +kernel
theorem dX8_vote_100 : decode cX8_vote 100 = .ok (.getfield 31, 3) := by decide +kernel
theorem dX8_vote_103 : decode cX8_vote 103 = .ok (.iload 8, 2) := by decide +kernel
theorem dX8_vote_105 : decode cX8_vote 105 = .ok (.invokevirtual 166, 3) := by decide +kernel
theorem dX8_vote_108 : decode cX8_vote 108 = .ok (.istore 9, 2) := by decide +kernel
theorem dX8_vote_110 : decode cX8_vote 110 = .ok (.aload_n 0, 1) := by decide +kernel
theorem dX8_vote_111 : decode cX8_vote 111 = .ok (.getfield 31, 3) := by decide +kernel
theorem dX8_vote_114 : decode cX8_vote 114 = .ok (.iload 8, 2) := by decide +kernel
theorem dX8_vote_116 : decode cX8_vote 116 = .ok (.invokevirtual 173, 3) := by decide +kernel
theorem dX8_vote_119 : decode cX8_vote 119 = .ok (.istore 10, 2) := by decide +kernel
theorem dX8_vote_121 : decode cX8_vote 121 = .ok (.iload 9, 2) := by decide +kernel
theorem dX8_vote_123 : decode cX8_vote 123 = .ok (.iload_n 1, 1) := by decide +kernel
theorem dX8_vote_124 : decode cX8_vote 124 = .ok (.if_icmp .ne 27, 3) := by decide +kernel
theorem dX8_vote_127 : decode cX8_vote 127 = .ok (.iload 10, 2) := by decide +kernel
theorem dX8_vote_129 : decode cX8_vote 129 = .ok (.iload_n 2, 1) := by decide +kernel
theorem dX8_vote_130 : decode cX8_vote 130 = .ok (.if_icmp .ne 21, 3) := by decide +kernel
theorem dX8_vote_133 : decode cX8_vote 133 = .ok (.aload_n 0, 1) := by decide +kernel
theorem dX8_vote_134 : decode cX8_vote 134 = .ok (.getfield 31, 3) := by decide +kernel
theorem dX8_vote_137 : decode cX8_vote 137 = .ok (.iload 8, 2) := by decide +kernel
theorem dX8_vote_139 : decode cX8_vote 139 = .ok (.invokevirtual 176, 3) := by decide +kernel
theorem dX8_vote_142 : decode cX8_vote 142 = .ok (.lload 5, 2) := by decide +kernel
theorem dX8_vote_144 : decode cX8_vote 144 = .ok (.lcmp, 1) := by decide +kernel
theorem dX8_vote_145 : decode cX8_vote 145 = .ok (.ifCond .ne 6, 3) := by decide +kernel
theorem dX8_vote_148 : decode cX8_vote 148 = .ok (.iload 8, 2) := by decide +kernel
theorem dX8_vote_150 : decode cX8_vote 150 = .ok (.ireturn, 1) := by decide +kernel
theorem dX8_vote_151 : decode cX8_vote 151 = .ok (.iload 9, 2) := by decide +kernel
theorem dX8_vote_153 : decode cX8_vote 153 = .ok (.iload_n 1, 1) := by decide +kernel
theorem dX8_vote_154 : decode cX8_vote 154 = .ok (.if_icmp .gt 15, 3) := by decide +kernel
theorem dX8_vote_157 : decode cX8_vote 157 = .ok (.iload 9, 2) := by decide +kernel
theorem dX8_vote_159 : decode cX8_vote 159 = .ok (.iload_n 1, 1) := by decide +kernel
theorem dX8_vote_160 : decode cX8_vote 160 = .ok (.if_icmp .ne 12, 3) := by decide +kernel
theorem dX8_vote_163 : decode cX8_vote 163 = .ok (.iload 10, 2) := by decide +kernel
theorem dX8_vote_165 : decode cX8_vote 165 = .ok (.iload_n 2, 1) := by decide +kernel
theorem dX8_vote_166 : decode cX8_vote 166 = .ok (.if_icmp .lt 6, 3) := by decide +kernel
theorem dX8_vote_169 : decode cX8_vote 169 = .ok (.bipush (-7), 2) := by decide +kernel
theorem dX8_vote_171 : decode cX8_vote 171 = .ok (.ireturn, 1) := by decide +kernel
theorem dX8_vote_172 : decode cX8_vote 172 = .ok (.aload_n 0, 1) := by decide +kernel
theorem dX8_vote_173 : decode cX8_vote 173 = .ok (.getfield 31, 3) := by decide +kernel
theorem dX8_vote_176 : decode cX8_vote 176 = .ok (.getfield 151, 3) := by decide +kernel
theorem dX8_vote_179 : decode cX8_vote 179 = .ok (.sipush 128, 3) := by decide +kernel
theorem dX8_vote_182 : decode cX8_vote 182 = .ok (.if_icmp .lt 6, 3) := by decide +kernel
theorem dX8_vote_185 : decode cX8_vote 185 = .ok (.bipush (-2), 2) := by decide +kernel
theorem dX8_vote_187 : decode cX8_vote 187 = .ok (.ireturn, 1) := by decide +kernel
theorem dX8_vote_188 : decode cX8_vote 188 = .ok (.aload_n 0, 1) := by decide +kernel
theorem dX8_vote_189 : decode cX8_vote 189 = .ok (.iconst 1, 1) := by decide +kernel
theorem dX8_vote_190 : decode cX8_vote 190 = .ok (.iload_n 1, 1) := by decide +kernel
theorem dX8_vote_191 : decode cX8_vote 191 = .ok (.iload_n 2, 1) := by decide +kernel
theorem dX8_vote_192 : decode cX8_vote 192 = .ok (.lload 5, 2) := by decide +kernel
theorem dX8_vote_194 : decode cX8_vote 194 = .ok (.invokevirtual 179, 3) := by decide +kernel
theorem dX8_vote_197 : decode cX8_vote 197 = .ok (.ifCond .eq 15, 3) := by decide +kernel
theorem dX8_vote_200 : decode cX8_vote 200 = .ok (.aload_n 0, 1) := by decide +kernel
theorem dX8_vote_201 : decode cX8_vote 201 = .ok (.getfield 31, 3) := by decide +kernel
theorem dX8_vote_204 : decode cX8_vote 204 = .ok (.getfield 151, 3) := by decide +kernel
theorem dX8_vote_207 : decode cX8_vote 207 = .ok (.iconst 1, 1) := by decide +kernel
theorem dX8_vote_208 : decode cX8_vote 208 = .ok (.isub, 1) := by decide +kernel
theorem dX8_vote_209 : decode cX8_vote 209 = .ok (.goto 5, 3) := by decide +kernel
theorem dX8_vote_212 : decode cX8_vote 212 = .ok (.bipush (-4), 2) := by decide +kernel
theorem dX8_vote_214 : decode cX8_vote 214 = .ok (.ireturn, 1) := by decide +kernel
theorem dX8_sent_0 : decode cX8_sent 0 = .ok (.aload_n 0, 1) := by decide +kernel
theorem dX8_sent_1 : decode cX8_sent 1 = .ok (.iload_n 1, 1) := by decide +kernel
theorem dX8_sent_2 : decode cX8_sent 2 = .ok (.invokevirtual 156, 3) := by decide +kernel
theorem dX8_sent_5 : decode cX8_sent 5 = .ok (.aload_n 0, 1) := by decide +kernel
theorem dX8_sent_6 : decode cX8_sent 6 = .ok (.invokevirtual 99, 3) := by decide +kernel
theorem dX8_sent_9 : decode cX8_sent 9 = .ok (.aload_n 0, 1) := by decide +kernel
theorem dX8_sent_10 : decode cX8_sent 10 = .ok (.getfield 31, 3) := by decide +kernel
theorem dX8_sent_13 : decode cX8_sent 13 = .ok (.iload_n 1, 1) := by decide +kernel
theorem dX8_sent_14 : decode cX8_sent 14 = .ok (.invokevirtual 182, 3) := by decide +kernel
theorem dX8_sent_17 : decode cX8_sent 17 = .ok (.iconst 2, 1) := by decide +kernel
theorem dX8_sent_18 : decode cX8_sent 18 = .ok (.if_icmp .ne 19, 3) := by decide +kernel
theorem dX8_sent_21 : decode cX8_sent 21 = .ok (.aload_n 0, 1) := by decide +kernel
theorem dX8_sent_22 : decode cX8_sent 22 = .ok (.getfield 31, 3) := by decide +kernel
theorem dX8_sent_25 : decode cX8_sent 25 = .ok (.iload_n 1, 1) := by decide +kernel
theorem dX8_sent_26 : decode cX8_sent 26 = .ok (.invokevirtual 185, 3) := by decide +kernel
theorem dX8_sent_29 : decode cX8_sent 29 = .ok (.iconst 1, 1) := by decide +kernel
theorem dX8_sent_30 : decode cX8_sent 30 = .ok (.if_icmp .ne 7, 3) := by decide +kernel
theorem dX8_sent_33 : decode cX8_sent 33 = .ok (.iconst 1, 1) := by decide +kernel
theorem dX8_sent_34 : decode cX8_sent 34 = .ok (.goto 4, 3) := by decide +kernel
theorem dX8_sent_37 : decode cX8_sent 37 = .ok (.iconst 0, 1) := by decide +kernel
theorem dX8_sent_38 : decode cX8_sent 38 = .ok (.ireturn, 1) := by decide +kernel
theorem dX8_certify_0 : decode cX8_certify 0 = .ok (.aload_n 0, 1) := by decide +kernel
theorem dX8_certify_1 : decode cX8_certify 1 = .ok (.invokevirtual 99, 3) := by decide +kernel
theorem dX8_certify_4 : decode cX8_certify 4 = .ok (.iload_n 3, 1) := by decide +kernel
theorem dX8_certify_5 : decode cX8_certify 5 = .ok (.ifCond .lt 9, 3) := by decide +kernel
theorem dX8_certify_8 : decode cX8_certify 8 = .ok (.iload_n 3, 1) := by decide +kernel
theorem dX8_certify_9 : decode cX8_certify 9 = .ok (.bipush 15, 2) := by decide +kernel
theorem dX8_certify_11 : decode cX8_certify 11 = .ok (.if_icmp .le 13, 3) := by decide +kernel
theorem dX8_certify_14 : decode cX8_certify 14 = .ok (.new 76, 3) := by decide +kernel
theorem dX8_certify_17 : decode cX8_certify 17 = .ok (.dup, 1) := by decide +kernel
theorem dX8_certify_18 : decode cX8_certify 18 = .ok (.ldc 188, 2) := by decide +kernel
theorem dX8_certify_20 : decode cX8_certify 20 = .ok (.invokespecial 80, 3) := by decide +kernel
theorem dX8_certify_23 : decode cX8_certify 23 = .ok (.athrow, 1) := by decide +kernel
theorem dX8_certify_24 : decode cX8_certify 24 = .ok (.aload_n 0, 1) := by decide +kernel
theorem dX8_certify_25 : decode cX8_certify 25 = .ok (.getfield 31, 3) := by decide +kernel
theorem dX8_certify_28 : decode cX8_certify 28 = .ok (.invokevirtual 104, 3) := by decide +kernel
theorem dX8_certify_31 : decode cX8_certify 31 = .ok (.ifCond .eq 6, 3) := by decide +kernel
theorem dX8_certify_34 : decode cX8_certify 34 = .ok (.bipush (-3), 2) := by decide +kernel
theorem dX8_certify_36 : decode cX8_certify 36 = .ok (.ireturn, 1) := by decide +kernel
theorem dX8_certify_37 : decode cX8_certify 37 = .ok (.aload_n 0, 1) := by decide +kernel
theorem dX8_certify_38 : decode cX8_certify 38 = .ok (.getfield 40, 3) := by decide +kernel
theorem dX8_certify_41 : decode cX8_certify 41 = .ok (.lload_n 1, 1) := by decide +kernel
theorem dX8_certify_42 : decode cX8_certify 42 = .ok (.invokevirtual 136, 3) := by decide +kernel
theorem dX8_certify_45 : decode cX8_certify 45 = .ok (.lstore 4, 2) := by decide +kernel
theorem dX8_certify_47 : decode cX8_certify 47 = .ok (.aload_n 0, 1) := by decide +kernel
theorem dX8_certify_48 : decode cX8_certify 48 = .ok (.getfield 40, 3) := by decide +kernel
theorem dX8_certify_51 : decode cX8_certify 51 = .ok (.lload 4, 2) := by decide +kernel
theorem dX8_certify_53 : decode cX8_certify 53 = .ok (.invokevirtual 148, 3) := by decide +kernel
theorem dX8_certify_56 : decode cX8_certify 56 = .ok (.istore 6, 2) := by decide +kernel
theorem dX8_certify_58 : decode cX8_certify 58 = .ok (.iload 6, 2) := by decide +kernel
theorem dX8_certify_60 : decode cX8_certify 60 = .ok (.iconst (-1), 1) := by decide +kernel
theorem dX8_certify_61 : decode cX8_certify 61 = .ok (.if_icmp .ne 6, 3) := by decide +kernel
theorem dX8_certify_64 : decode cX8_certify 64 = .ok (.bipush (-6), 2) := by decide +kernel
theorem dX8_certify_66 : decode cX8_certify 66 = .ok (.ireturn, 1) := by decide +kernel
theorem dX8_certify_67 : decode cX8_certify 67 = .ok (.iload_n 3, 1) := by decide +kernel
theorem dX8_certify_68 : decode cX8_certify 68 = .ok (.invokestatic 190, 3) := by decide +kernel
theorem dX8_certify_71 : decode cX8_certify 71 = .ok (.iconst 3, 1) := by decide +kernel
theorem dX8_certify_72 : decode cX8_certify 72 = .ok (.if_icmp .ge 6, 3) := by decide +kernel
theorem dX8_certify_75 : decode cX8_certify 75 = .ok (.bipush (-8), 2) := by decide +kernel
theorem dX8_certify_77 : decode cX8_certify 77 = .ok (.ireturn, 1) := by decide +kernel
theorem dX8_certify_78 : decode cX8_certify 78 = .ok (.aload_n 0, 1) := by decide +kernel
theorem dX8_certify_79 : decode cX8_certify 79 = .ok (.getfield 31, 3) := by decide +kernel
theorem dX8_certify_82 : decode cX8_certify 82 = .ok (.iload 6, 2) := by decide +kernel
theorem dX8_certify_84 : decode cX8_certify 84 = .ok (.invokevirtual 166, 3) := by decide +kernel
theorem dX8_certify_87 : decode cX8_certify 87 = .ok (.istore 7, 2) := by decide +kernel
theorem dX8_certify_89 : decode cX8_certify 89 = .ok (.aload_n 0, 1) := by decide +kernel
theorem dX8_certify_90 : decode cX8_certify 90 = .ok (.getfield 40, 3) := by decide +kernel
theorem dX8_certify_93 : decode cX8_certify 93 = .ok (.iload 6, 2) := by decide +kernel
theorem dX8_certify_95 : decode cX8_certify 95 = .ok (.invokevirtual 195, 3) := by decide +kernel
theorem dX8_certify_98 : decode cX8_certify 98 = .ok (.ifCond .eq 6, 3) := by decide +kernel
theorem dX8_certify_101 : decode cX8_certify 101 = .ok (.iload 7, 2) := by decide +kernel
theorem dX8_certify_103 : decode cX8_certify 103 = .ok (.ireturn, 1) := by decide +kernel
theorem dX8_certify_104 : decode cX8_certify 104 = .ok (.aload_n 0, 1) := by decide +kernel
theorem dX8_certify_105 : decode cX8_certify 105 = .ok (.getfield 40, 3) := by decide +kernel
theorem dX8_certify_108 : decode cX8_certify 108 = .ok (.iload 6, 2) := by decide +kernel
theorem dX8_certify_110 : decode cX8_certify 110 = .ok (.invokevirtual 199, 3) := by decide +kernel
theorem dX8_certify_113 : decode cX8_certify 113 = .ok (.ifCond .ne 6, 3) := by decide +kernel
theorem dX8_certify_116 : decode cX8_certify 116 = .ok (.bipush (-9), 2) := by decide +kernel
theorem dX8_certify_118 : decode cX8_certify 118 = .ok (.ireturn, 1) := by decide +kernel
theorem dX8_certify_119 : decode cX8_certify 119 = .ok (.aload_n 0, 1) := by decide +kernel
theorem dX8_certify_120 : decode cX8_certify 120 = .ok (.getfield 31, 3) := by decide +kernel
theorem dX8_certify_123 : decode cX8_certify 123 = .ok (.getfield 151, 3) := by decide +kernel
theorem dX8_certify_126 : decode cX8_certify 126 = .ok (.sipush 128, 3) := by decide +kernel
theorem dX8_certify_129 : decode cX8_certify 129 = .ok (.if_icmp .lt 6, 3) := by decide +kernel
theorem dX8_certify_132 : decode cX8_certify 132 = .ok (.bipush (-2), 2) := by decide +kernel
theorem dX8_certify_134 : decode cX8_certify 134 = .ok (.ireturn, 1) := by decide +kernel
theorem dX8_certify_135 : decode cX8_certify 135 = .ok (.aload_n 0, 1) := by decide +kernel
theorem dX8_certify_136 : decode cX8_certify 136 = .ok (.iconst 4, 1) := by decide +kernel
theorem dX8_certify_137 : decode cX8_certify 137 = .ok (.iload 7, 2) := by decide +kernel
theorem dX8_certify_139 : decode cX8_certify 139 = .ok (.iload_n 3, 1) := by decide +kernel
theorem dX8_certify_140 : decode cX8_certify 140 = .ok (.lload 4, 2) := by decide +kernel
theorem dX8_certify_142 : decode cX8_certify 142 = .ok (.invokevirtual 179, 3) := by decide +kernel
theorem dX8_certify_145 : decode cX8_certify 145 = .ok (.ifCond .eq 8, 3) := by decide +kernel
theorem dX8_certify_148 : decode cX8_certify 148 = .ok (.iload 7, 2) := by decide +kernel
theorem dX8_certify_150 : decode cX8_certify 150 = .ok (.goto 5, 3) := by decide +kernel
theorem dX8_certify_153 : decode cX8_certify 153 = .ok (.bipush (-4), 2) := by decide +kernel
theorem dX8_certify_155 : decode cX8_certify 155 = .ok (.ireturn, 1) := by decide +kernel
theorem dX8_version_0 : decode cX8_version 0 = .ok (.aload_n 0, 1) := by decide +kernel
theorem dX8_version_1 : decode cX8_version 1 = .ok (.invokevirtual 99, 3) := by decide +kernel
theorem dX8_version_4 : decode cX8_version 4 = .ok (.iload_n 1, 1) := by decide +kernel
theorem dX8_version_5 : decode cX8_version 5 = .ok (.ifCond .eq 18, 3) := by decide +kernel
theorem dX8_version_8 : decode cX8_version 8 = .ok (.iload_n 1, 1) := by decide +kernel
theorem dX8_version_9 : decode cX8_version 9 = .ok (.iconst 1, 1) := by decide +kernel
theorem dX8_version_10 : decode cX8_version 10 = .ok (.if_icmp .eq 13, 3) := by decide +kernel
theorem dX8_version_13 : decode cX8_version 13 = .ok (.new 76, 3) := by decide +kernel
theorem dX8_version_16 : decode cX8_version 16 = .ok (.dup, 1) := by decide +kernel
theorem dX8_version_17 : decode cX8_version 17 = .ok (.ldc 202, 2) := by decide +kernel
theorem dX8_version_19 : decode cX8_version 19 = .ok (.invokespecial 80, 3) := by decide +kernel
theorem dX8_version_22 : decode cX8_version 22 = .ok (.athrow, 1) := by decide +kernel
theorem dX8_version_23 : decode cX8_version 23 = .ok (.iload_n 1, 1) := by decide +kernel
theorem dX8_version_24 : decode cX8_version 24 = .ok (.ifCond .ne 13, 3) := by decide +kernel
theorem dX8_version_27 : decode cX8_version 27 = .ok (.aload_n 0, 1) := by decide +kernel
theorem dX8_version_28 : decode cX8_version 28 = .ok (.getfield 40, 3) := by decide +kernel
theorem dX8_version_31 : decode cX8_version 31 = .ok (.invokevirtual 204, 3) := by decide +kernel
theorem dX8_version_34 : decode cX8_version 34 = .ok (.goto 10, 3) := by decide +kernel
theorem dX8_version_37 : decode cX8_version 37 = .ok (.aload_n 0, 1) := by decide +kernel
theorem dX8_version_38 : decode cX8_version 38 = .ok (.getfield 40, 3) := by decide +kernel
theorem dX8_version_41 : decode cX8_version 41 = .ok (.getfield 207, 3) := by decide +kernel
theorem dX8_version_44 : decode cX8_version 44 = .ok (.ireturn, 1) := by decide +kernel
theorem dX8_slot_0 : decode cX8_slot 0 = .ok (.aload_n 0, 1) := by decide +kernel
theorem dX8_slot_1 : decode cX8_slot 1 = .ok (.invokevirtual 99, 3) := by decide +kernel
theorem dX8_slot_4 : decode cX8_slot 4 = .ok (.iload_n 2, 1) := by decide +kernel
theorem dX8_slot_5 : decode cX8_slot 5 = .ok (.ifCond .lt 9, 3) := by decide +kernel
theorem dX8_slot_8 : decode cX8_slot 8 = .ok (.iload_n 2, 1) := by decide +kernel
theorem dX8_slot_9 : decode cX8_slot 9 = .ok (.bipush 16, 2) := by decide +kernel
theorem dX8_slot_11 : decode cX8_slot 11 = .ok (.if_icmp .lt 13, 3) := by decide +kernel
theorem dX8_slot_14 : decode cX8_slot 14 = .ok (.new 76, 3) := by decide +kernel
theorem dX8_slot_17 : decode cX8_slot 17 = .ok (.dup, 1) := by decide +kernel
theorem dX8_slot_18 : decode cX8_slot 18 = .ok (.ldc 116, 2) := by decide +kernel
theorem dX8_slot_20 : decode cX8_slot 20 = .ok (.invokespecial 80, 3) := by decide +kernel
theorem dX8_slot_23 : decode cX8_slot 23 = .ok (.athrow, 1) := by decide +kernel
theorem dX8_slot_24 : decode cX8_slot 24 = .ok (.aload_n 0, 1) := by decide +kernel
theorem dX8_slot_25 : decode cX8_slot 25 = .ok (.getfield 40, 3) := by decide +kernel
theorem dX8_slot_28 : decode cX8_slot 28 = .ok (.iload_n 1, 1) := by decide +kernel
theorem dX8_slot_29 : decode cX8_slot 29 = .ok (.invokevirtual 210, 3) := by decide +kernel
theorem dX8_slot_32 : decode cX8_slot 32 = .ok (.ifCond .ne 13, 3) := by decide +kernel
theorem dX8_slot_35 : decode cX8_slot 35 = .ok (.new 76, 3) := by decide +kernel
theorem dX8_slot_38 : decode cX8_slot 38 = .ok (.dup, 1) := by decide +kernel
theorem dX8_slot_39 : decode cX8_slot 39 = .ok (.ldc 213, 2) := by decide +kernel
theorem dX8_slot_41 : decode cX8_slot 41 = .ok (.invokespecial 80, 3) := by decide +kernel
theorem dX8_slot_44 : decode cX8_slot 44 = .ok (.athrow, 1) := by decide +kernel
theorem dX8_slot_45 : decode cX8_slot 45 = .ok (.aload_n 0, 1) := by decide +kernel
theorem dX8_slot_46 : decode cX8_slot 46 = .ok (.getfield 40, 3) := by decide +kernel
theorem dX8_slot_49 : decode cX8_slot 49 = .ok (.iload_n 1, 1) := by decide +kernel
theorem dX8_slot_50 : decode cX8_slot 50 = .ok (.invokevirtual 215, 3) := by decide +kernel
theorem dX8_slot_53 : decode cX8_slot 53 = .ok (.aload_n 0, 1) := by decide +kernel
theorem dX8_slot_54 : decode cX8_slot 54 = .ok (.getfield 40, 3) := by decide +kernel
theorem dX8_slot_57 : decode cX8_slot 57 = .ok (.getfield 218, 3) := by decide +kernel
theorem dX8_slot_60 : decode cX8_slot 60 = .ok (.iload_n 2, 1) := by decide +kernel
theorem dX8_slot_61 : decode cX8_slot 61 = .ok (.laload, 1) := by decide +kernel
theorem dX8_slot_62 : decode cX8_slot 62 = .ok (.lreturn, 1) := by decide +kernel
theorem dX8_cut_0 : decode cX8_cut 0 = .ok (.iload_n 1, 1) := by decide +kernel
theorem dX8_cut_1 : decode cX8_cut 1 = .ok (.iconst (-1), 1) := by decide +kernel
theorem dX8_cut_2 : decode cX8_cut 2 = .ok (.if_icmp .lt 10, 3) := by decide +kernel
theorem dX8_cut_5 : decode cX8_cut 5 = .ok (.iload_n 1, 1) := by decide +kernel
theorem dX8_cut_6 : decode cX8_cut 6 = .ok (.sipush 5000, 3) := by decide +kernel
theorem dX8_cut_9 : decode cX8_cut 9 = .ok (.if_icmp .le 14, 3) := by decide +kernel
theorem dX8_cut_12 : decode cX8_cut 12 = .ok (.new 76, 3) := by decide +kernel
theorem dX8_cut_15 : decode cX8_cut 15 = .ok (.dup, 1) := by decide +kernel
theorem dX8_cut_16 : decode cX8_cut 16 = .ok (.ldc_w 282, 3) := by decide +kernel
theorem dX8_cut_19 : decode cX8_cut 19 = .ok (.invokespecial 80, 3) := by decide +kernel
theorem dX8_cut_22 : decode cX8_cut 22 = .ok (.athrow, 1) := by decide +kernel
theorem dX8_cut_23 : decode cX8_cut 23 = .ok (.aload_n 0, 1) := by decide +kernel
theorem dX8_cut_24 : decode cX8_cut 24 = .ok (.getfield 22, 3) := by decide +kernel
theorem dX8_cut_27 : decode cX8_cut 27 = .ok (.iload_n 1, 1) := by decide +kernel
theorem dX8_cut_28 : decode cX8_cut 28 = .ok (.putfield 284, 3) := by decide +kernel
theorem dX8_cut_31 : decode cX8_cut 31 = .ok (.return_, 1) := by decide +kernel
theorem dX8_demandPower_0 : decode cX8_demandPower 0 = .ok (.aload_n 0, 1) := by decide +kernel
theorem dX8_demandPower_1 : decode cX8_demandPower 1 = .ok (.getfield 22, 3) := by decide +kernel
theorem dX8_demandPower_4 : decode cX8_demandPower 4 = .ok (.getfield 287, 3) := by decide +kernel
theorem dX8_demandPower_7 : decode cX8_demandPower 7 = .ok (.ifCond .ne 14, 3) := by decide +kernel
theorem dX8_demandPower_10 : decode cX8_demandPower 10 = .ok (.new 300, 3) := by decide +kernel
theorem dX8_demandPower_13 : decode cX8_demandPower 13 = .ok (.dup, 1) := by decide +kernel
theorem dX8_demandPower_14 : decode cX8_demandPower 14 = .ok (.ldc_w 351, 3) := by decide +kernel
theorem dX8_demandPower_17 : decode cX8_demandPower 17 = .ok (.invokespecial 304, 3) := by decide +kernel
theorem dX8_demandPower_20 : decode cX8_demandPower 20 = .ok (.athrow, 1) := by decide +kernel
theorem dX8_demandPower_21 : decode cX8_demandPower 21 = .ok (.return_, 1) := by decide +kernel
theorem dX8_demandHeight_0 : decode cX8_demandHeight 0 = .ok (.iload_n 0, 1) := by decide +kernel
theorem dX8_demandHeight_1 : decode cX8_demandHeight 1 = .ok (.invokestatic 353, 3) := by decide +kernel
theorem dX8_demandHeight_4 : decode cX8_demandHeight 4 = .ok (.ifCond .ne 14, 3) := by decide +kernel
theorem dX8_demandHeight_7 : decode cX8_demandHeight 7 = .ok (.new 76, 3) := by decide +kernel
theorem dX8_demandHeight_10 : decode cX8_demandHeight 10 = .ok (.dup, 1) := by decide +kernel
theorem dX8_demandHeight_11 : decode cX8_demandHeight 11 = .ok (.ldc_w 356, 3) := by decide +kernel
theorem dX8_demandHeight_14 : decode cX8_demandHeight 14 = .ok (.invokespecial 80, 3) := by decide +kernel
theorem dX8_demandHeight_17 : decode cX8_demandHeight 17 = .ok (.athrow, 1) := by decide +kernel
theorem dX8_demandHeight_18 : decode cX8_demandHeight 18 = .ok (.return_, 1) := by decide +kernel
theorem dX8_demandRow_0 : decode cX8_demandRow 0 = .ok (.aload_n 0, 1) := by decide +kernel
theorem dX8_demandRow_1 : decode cX8_demandRow 1 = .ok (.getfield 22, 3) := by decide +kernel
theorem dX8_demandRow_4 : decode cX8_demandRow 4 = .ok (.getfield 287, 3) := by decide +kernel
theorem dX8_demandRow_7 : decode cX8_demandRow 7 = .ok (.ifCond .eq 13, 3) := by decide +kernel
theorem dX8_demandRow_10 : decode cX8_demandRow 10 = .ok (.aload_n 0, 1) := by decide +kernel
theorem dX8_demandRow_11 : decode cX8_demandRow 11 = .ok (.getfield 31, 3) := by decide +kernel
theorem dX8_demandRow_14 : decode cX8_demandRow 14 = .ok (.getfield 151, 3) := by decide +kernel
theorem dX8_demandRow_17 : decode cX8_demandRow 17 = .ok (.goto 6, 3) := by decide +kernel
theorem dX8_demandRow_20 : decode cX8_demandRow 20 = .ok (.sipush 128, 3) := by decide +kernel
theorem dX8_demandRow_23 : decode cX8_demandRow 23 = .ok (.istore_n 2, 1) := by decide +kernel
theorem dX8_demandRow_24 : decode cX8_demandRow 24 = .ok (.iload_n 1, 1) := by decide +kernel
theorem dX8_demandRow_25 : decode cX8_demandRow 25 = .ok (.ifCond .lt 8, 3) := by decide +kernel
theorem dX8_demandRow_28 : decode cX8_demandRow 28 = .ok (.iload_n 1, 1) := by decide +kernel
theorem dX8_demandRow_29 : decode cX8_demandRow 29 = .ok (.iload_n 2, 1) := by decide +kernel
theorem dX8_demandRow_30 : decode cX8_demandRow 30 = .ok (.if_icmp .lt 14, 3) := by decide +kernel
theorem dX8_demandRow_33 : decode cX8_demandRow 33 = .ok (.new 91, 3) := by decide +kernel
theorem dX8_demandRow_36 : decode cX8_demandRow 36 = .ok (.dup, 1) := by decide +kernel
theorem dX8_demandRow_37 : decode cX8_demandRow 37 = .ok (.ldc_w 358, 3) := by decide +kernel
theorem dX8_demandRow_40 : decode cX8_demandRow 40 = .ok (.invokespecial 95, 3) := by decide +kernel
theorem dX8_demandRow_43 : decode cX8_demandRow 43 = .ok (.athrow, 1) := by decide +kernel
theorem dX8_demandRow_44 : decode cX8_demandRow 44 = .ok (.return_, 1) := by decide +kernel
theorem dX8_demandPage_0 : decode cX8_demandPage 0 = .ok (.iload_n 1, 1) := by decide +kernel
theorem dX8_demandPage_1 : decode cX8_demandPage 1 = .ok (.ifCond .lt 14, 3) := by decide +kernel
theorem dX8_demandPage_4 : decode cX8_demandPage 4 = .ok (.iload_n 1, 1) := by decide +kernel
theorem dX8_demandPage_5 : decode cX8_demandPage 5 = .ok (.aload_n 0, 1) := by decide +kernel
theorem dX8_demandPage_6 : decode cX8_demandPage 6 = .ok (.getfield 22, 3) := by decide +kernel
theorem dX8_demandPage_9 : decode cX8_demandPage 9 = .ok (.getfield 118, 3) := by decide +kernel
theorem dX8_demandPage_12 : decode cX8_demandPage 12 = .ok (.if_icmp .lt 13, 3) := by decide +kernel
theorem dX8_demandPage_15 : decode cX8_demandPage 15 = .ok (.new 91, 3) := by decide +kernel
theorem dX8_demandPage_18 : decode cX8_demandPage 18 = .ok (.dup, 1) := by decide +kernel
theorem dX8_demandPage_19 : decode cX8_demandPage 19 = .ok (.ldc 121, 2) := by decide +kernel
theorem dX8_demandPage_21 : decode cX8_demandPage 21 = .ok (.invokespecial 95, 3) := by decide +kernel
theorem dX8_demandPage_24 : decode cX8_demandPage 24 = .ok (.athrow, 1) := by decide +kernel
theorem dX8_demandPage_25 : decode cX8_demandPage 25 = .ok (.return_, 1) := by decide +kernel
theorem dX8_demandPlace_0 : decode cX8_demandPlace 0 = .ok (.iload_n 1, 1) := by decide +kernel
theorem dX8_demandPlace_1 : decode cX8_demandPlace 1 = .ok (.ifCond .lt 21, 3) := by decide +kernel
theorem dX8_demandPlace_4 : decode cX8_demandPlace 4 = .ok (.iload_n 1, 1) := by decide +kernel
theorem dX8_demandPlace_5 : decode cX8_demandPlace 5 = .ok (.sipush 8224, 3) := by decide +kernel
theorem dX8_demandPlace_8 : decode cX8_demandPlace 8 = .ok (.bipush 26, 2) := by decide +kernel
theorem dX8_demandPlace_10 : decode cX8_demandPlace 10 = .ok (.aload_n 0, 1) := by decide +kernel
theorem dX8_demandPlace_11 : decode cX8_demandPlace 11 = .ok (.getfield 22, 3) := by decide +kernel
theorem dX8_demandPlace_14 : decode cX8_demandPlace 14 = .ok (.getfield 118, 3) := by decide +kernel
theorem dX8_demandPlace_17 : decode cX8_demandPlace 17 = .ok (.imul, 1) := by decide +kernel
theorem dX8_demandPlace_18 : decode cX8_demandPlace 18 = .ok (.iadd, 1) := by decide +kernel
theorem dX8_demandPlace_19 : decode cX8_demandPlace 19 = .ok (.if_icmp .lt 14, 3) := by decide +kernel
theorem dX8_demandPlace_22 : decode cX8_demandPlace 22 = .ok (.new 91, 3) := by decide +kernel
theorem dX8_demandPlace_25 : decode cX8_demandPlace 25 = .ok (.dup, 1) := by decide +kernel
theorem dX8_demandPlace_26 : decode cX8_demandPlace 26 = .ok (.ldc_w 360, 3) := by decide +kernel
theorem dX8_demandPlace_29 : decode cX8_demandPlace 29 = .ok (.invokespecial 95, 3) := by decide +kernel
theorem dX8_demandPlace_32 : decode cX8_demandPlace 32 = .ok (.athrow, 1) := by decide +kernel
theorem dX8_demandPlace_33 : decode cX8_demandPlace 33 = .ok (.return_, 1) := by decide +kernel
theorem dJ6_bitCount_0f7a4_0 : decode cJ6_bitCount_0f7a4 0 = .ok (.iload_n 0, 1) := by decide +kernel
theorem dJ6_bitCount_0f7a4_1 : decode cJ6_bitCount_0f7a4 1 = .ok (.iload_n 0, 1) := by decide +kernel
theorem dJ6_bitCount_0f7a4_2 : decode cJ6_bitCount_0f7a4 2 = .ok (.iconst 1, 1) := by decide +kernel
theorem dJ6_bitCount_0f7a4_3 : decode cJ6_bitCount_0f7a4 3 = .ok (.iushr, 1) := by decide +kernel
theorem dJ6_bitCount_0f7a4_4 : decode cJ6_bitCount_0f7a4 4 = .ok (.ldc_w 265, 3) := by decide +kernel
theorem dJ6_bitCount_0f7a4_7 : decode cJ6_bitCount_0f7a4 7 = .ok (.iand, 1) := by decide +kernel
theorem dJ6_bitCount_0f7a4_8 : decode cJ6_bitCount_0f7a4 8 = .ok (.isub, 1) := by decide +kernel
theorem dJ6_bitCount_0f7a4_9 : decode cJ6_bitCount_0f7a4 9 = .ok (.istore_n 0, 1) := by decide +kernel
theorem dJ6_bitCount_0f7a4_10 : decode cJ6_bitCount_0f7a4 10 = .ok (.iload_n 0, 1) := by decide +kernel
theorem dJ6_bitCount_0f7a4_11 : decode cJ6_bitCount_0f7a4 11 = .ok (.ldc_w 266, 3) := by decide +kernel
theorem dJ6_bitCount_0f7a4_14 : decode cJ6_bitCount_0f7a4 14 = .ok (.iand, 1) := by decide +kernel
