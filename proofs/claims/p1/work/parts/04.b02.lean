theorem dX8_change_58 : decode cX8_change 58 = .ok (.if_icmp .eq 27, 3) := by decide +kernel
theorem dX8_change_61 : decode cX8_change 61 = .ok (.aload_n 0, 1) := by decide +kernel
theorem dX8_change_62 : decode cX8_change 62 = .ok (.getfield 22, 3) := by decide +kernel
theorem dX8_change_65 : decode cX8_change 65 = .ok (.iload_n 2, 1) := by decide +kernel
theorem dX8_change_66 : decode cX8_change 66 = .ok (.invokevirtual 123, 3) := by decide +kernel
theorem dX8_change_69 : decode cX8_change 69 = .ok (.astore 5, 2) := by decide +kernel
theorem dX8_change_71 : decode cX8_change 71 = .ok (.aload 5, 2) := by decide +kernel
theorem dX8_change_73 : decode cX8_change 73 = .ok (.ifnonnull 6, 3) := by decide +kernel
theorem dX8_change_76 : decode cX8_change 76 = .ok (.bipush (-6), 2) := by decide +kernel
theorem dX8_change_78 : decode cX8_change 78 = .ok (.ireturn, 1) := by decide +kernel
theorem dX8_change_85 : decode cX8_change 85 = .ok (.aload_n 0, 1) := by decide +kernel
theorem dX8_change_86 : decode cX8_change 86 = .ok (.getfield 72, 3) := by decide +kernel
theorem dX8_change_89 : decode cX8_change 89 = .ok (.bipush 8, 2) := by decide +kernel
theorem dX8_change_91 : decode cX8_change 91 = .ok (.if_icmp .lt 6, 3) := by decide +kernel
theorem dX8_change_97 : decode cX8_change 97 = .ok (.aload_n 0, 1) := by decide +kernel
theorem dX8_change_98 : decode cX8_change 98 = .ok (.getfield 64, 3) := by decide +kernel
theorem dX8_change_101 : decode cX8_change 101 = .ok (.aload_n 0, 1) := by decide +kernel
theorem dX8_change_102 : decode cX8_change 102 = .ok (.getfield 72, 3) := by decide +kernel
theorem dX8_change_105 : decode cX8_change 105 = .ok (.iload_n 1, 1) := by decide +kernel
theorem dX8_change_106 : decode cX8_change 106 = .ok (.iastore, 1) := by decide +kernel
theorem dX8_change_107 : decode cX8_change 107 = .ok (.aload_n 0, 1) := by decide +kernel
theorem dX8_change_108 : decode cX8_change 108 = .ok (.getfield 68, 3) := by decide +kernel
theorem dX8_change_111 : decode cX8_change 111 = .ok (.aload_n 0, 1) := by decide +kernel
theorem dX8_change_112 : decode cX8_change 112 = .ok (.getfield 72, 3) := by decide +kernel
theorem dX8_change_115 : decode cX8_change 115 = .ok (.lload_n 3, 1) := by decide +kernel
theorem dX8_change_116 : decode cX8_change 116 = .ok (.lastore, 1) := by decide +kernel
theorem dX8_change_117 : decode cX8_change 117 = .ok (.aload_n 0, 1) := by decide +kernel
theorem dX8_change_118 : decode cX8_change 118 = .ok (.dup, 1) := by decide +kernel
theorem dX8_change_119 : decode cX8_change 119 = .ok (.getfield 72, 3) := by decide +kernel
theorem dX8_change_122 : decode cX8_change 122 = .ok (.iconst 1, 1) := by decide +kernel
theorem dX8_change_123 : decode cX8_change 123 = .ok (.iadd, 1) := by decide +kernel
theorem dX8_change_124 : decode cX8_change 124 = .ok (.putfield 72, 3) := by decide +kernel
theorem dX8_change_127 : decode cX8_change 127 = .ok (.aload_n 0, 1) := by decide +kernel
theorem dX8_change_128 : decode cX8_change 128 = .ok (.getfield 72, 3) := by decide +kernel
theorem dX8_change_131 : decode cX8_change 131 = .ok (.ireturn, 1) := by decide +kernel
theorem dX8_block_0 : decode cX8_block 0 = .ok (.aload_n 0, 1) := by decide +kernel
theorem dX8_block_1 : decode cX8_block 1 = .ok (.invokevirtual 99, 3) := by decide +kernel
theorem dX8_block_4 : decode cX8_block 4 = .ok (.iload_n 1, 1) := by decide +kernel
theorem dX8_block_5 : decode cX8_block 5 = .ok (.invokestatic 133, 3) := by decide +kernel
theorem dX8_block_8 : decode cX8_block 8 = .ok (.aload_n 0, 1) := by decide +kernel
theorem dX8_block_9 : decode cX8_block 9 = .ok (.getfield 31, 3) := by decide +kernel
theorem dX8_block_12 : decode cX8_block 12 = .ok (.invokevirtual 104, 3) := by decide +kernel
theorem dX8_block_15 : decode cX8_block 15 = .ok (.ifCond .eq 6, 3) := by decide +kernel
theorem dX8_block_21 : decode cX8_block 21 = .ok (.aload_n 0, 1) := by decide +kernel
theorem dX8_block_22 : decode cX8_block 22 = .ok (.getfield 40, 3) := by decide +kernel
theorem dX8_block_25 : decode cX8_block 25 = .ok (.lload_n 2, 1) := by decide +kernel
theorem dX8_block_26 : decode cX8_block 26 = .ok (.invokevirtual 136, 3) := by decide +kernel
theorem dX8_block_29 : decode cX8_block 29 = .ok (.lstore 4, 2) := by decide +kernel
theorem dX8_block_31 : decode cX8_block 31 = .ok (.aload_n 0, 1) := by decide +kernel
theorem dX8_block_32 : decode cX8_block 32 = .ok (.getfield 40, 3) := by decide +kernel
theorem dX8_block_35 : decode cX8_block 35 = .ok (.lload 4, 2) := by decide +kernel
theorem dX8_block_37 : decode cX8_block 37 = .ok (.invokevirtual 140, 3) := by decide +kernel
theorem dX8_block_40 : decode cX8_block 40 = .ok (.istore 6, 2) := by decide +kernel
theorem dX8_block_42 : decode cX8_block 42 = .ok (.iload 6, 2) := by decide +kernel
theorem dX8_block_44 : decode cX8_block 44 = .ok (.iconst (-1), 1) := by decide +kernel
theorem dX8_block_45 : decode cX8_block 45 = .ok (.if_icmp .ne 6, 3) := by decide +kernel
theorem dX8_block_48 : decode cX8_block 48 = .ok (.bipush (-6), 2) := by decide +kernel
theorem dX8_block_50 : decode cX8_block 50 = .ok (.ireturn, 1) := by decide +kernel
theorem dX8_block_51 : decode cX8_block 51 = .ok (.iload_n 1, 1) := by decide +kernel
theorem dX8_block_52 : decode cX8_block 52 = .ok (.iload 6, 2) := by decide +kernel
theorem dX8_block_54 : decode cX8_block 54 = .ok (.iconst 1, 1) := by decide +kernel
theorem dX8_block_55 : decode cX8_block 55 = .ok (.iadd, 1) := by decide +kernel
theorem dX8_block_56 : decode cX8_block 56 = .ok (.if_icmp .eq 6, 3) := by decide +kernel
theorem dX8_block_59 : decode cX8_block 59 = .ok (.bipush (-10), 2) := by decide +kernel
theorem dX8_block_61 : decode cX8_block 61 = .ok (.ireturn, 1) := by decide +kernel
theorem dX8_block_62 : decode cX8_block 62 = .ok (.aload_n 0, 1) := by decide +kernel
theorem dX8_block_63 : decode cX8_block 63 = .ok (.getfield 40, 3) := by decide +kernel
theorem dX8_block_66 : decode cX8_block 66 = .ok (.aload_n 0, 1) := by decide +kernel
theorem dX8_block_67 : decode cX8_block 67 = .ok (.iload_n 1, 1) := by decide +kernel
theorem dX8_block_68 : decode cX8_block 68 = .ok (.lload 4, 2) := by decide +kernel
theorem dX8_block_70 : decode cX8_block 70 = .ok (.invokevirtual 144, 3) := by decide +kernel
theorem dX8_block_73 : decode cX8_block 73 = .ok (.invokevirtual 148, 3) := by decide +kernel
theorem dX8_block_76 : decode cX8_block 76 = .ok (.istore 7, 2) := by decide +kernel
theorem dX8_block_78 : decode cX8_block 78 = .ok (.iload 7, 2) := by decide +kernel
theorem dX8_block_80 : decode cX8_block 80 = .ok (.iconst (-1), 1) := by decide +kernel
theorem dX8_block_81 : decode cX8_block 81 = .ok (.if_icmp .ne 26, 3) := by decide +kernel
theorem dX8_block_84 : decode cX8_block 84 = .ok (.aload_n 0, 1) := by decide +kernel
theorem dX8_block_85 : decode cX8_block 85 = .ok (.getfield 31, 3) := by decide +kernel
theorem dX8_block_88 : decode cX8_block 88 = .ok (.getfield 151, 3) := by decide +kernel
theorem dX8_block_91 : decode cX8_block 91 = .ok (.iconst 1, 1) := by decide +kernel
theorem dX8_block_92 : decode cX8_block 92 = .ok (.iadd, 1) := by decide +kernel
theorem dX8_block_93 : decode cX8_block 93 = .ok (.aload_n 0, 1) := by decide +kernel
theorem dX8_block_94 : decode cX8_block 94 = .ok (.getfield 72, 3) := by decide +kernel
theorem dX8_block_97 : decode cX8_block 97 = .ok (.iadd, 1) := by decide +kernel
theorem dX8_block_98 : decode cX8_block 98 = .ok (.sipush 128, 3) := by decide +kernel
theorem dX8_block_101 : decode cX8_block 101 = .ok (.if_icmp .le 6, 3) := by decide +kernel
theorem dX8_block_107 : decode cX8_block 107 = .ok (.aload_n 0, 1) := by decide +kernel
theorem dX8_block_108 : decode cX8_block 108 = .ok (.getfield 72, 3) := by decide +kernel
theorem dX8_block_111 : decode cX8_block 111 = .ok (.istore 8, 2) := by decide +kernel
theorem dX8_block_113 : decode cX8_block 113 = .ok (.aload_n 0, 1) := by decide +kernel
theorem dX8_block_114 : decode cX8_block 114 = .ok (.iconst 0, 1) := by decide +kernel
theorem dX8_block_115 : decode cX8_block 115 = .ok (.putfield 72, 3) := by decide +kernel
theorem dX8_block_118 : decode cX8_block 118 = .ok (.iload 7, 2) := by decide +kernel
theorem dX8_block_120 : decode cX8_block 120 = .ok (.iconst (-1), 1) := by decide +kernel
theorem dX8_block_121 : decode cX8_block 121 = .ok (.if_icmp .eq 8, 3) := by decide +kernel
theorem dX8_block_129 : decode cX8_block 129 = .ok (.aload_n 0, 1) := by decide +kernel
theorem dX8_block_130 : decode cX8_block 130 = .ok (.iload_n 1, 1) := by decide +kernel
theorem dX8_block_131 : decode cX8_block 131 = .ok (.lload 4, 2) := by decide +kernel
theorem dX8_block_133 : decode cX8_block 133 = .ok (.iload 8, 2) := by decide +kernel
theorem dX8_block_135 : decode cX8_block 135 = .ok (.invokevirtual 152, 3) := by decide +kernel
theorem dX8_block_138 : decode cX8_block 138 = .ok (.ireturn, 1) := by decide +kernel
theorem dX8_digest_0 : decode cX8_digest 0 = .ok (.aload_n 0, 1) := by decide +kernel
theorem dX8_digest_1 : decode cX8_digest 1 = .ok (.iload_n 1, 1) := by decide +kernel
theorem dX8_digest_2 : decode cX8_digest 2 = .ok (.invokevirtual 156, 3) := by decide +kernel
theorem dX8_vote_0 : decode cX8_vote 0 = .ok (.aload_n 0, 1) := by decide +kernel
theorem dX8_vote_1 : decode cX8_vote 1 = .ok (.invokevirtual 99, 3) := by decide +kernel
theorem dX8_vote_4 : decode cX8_vote 4 = .ok (.iload_n 1, 1) := by decide +kernel
theorem dX8_vote_5 : decode cX8_vote 5 = .ok (.invokestatic 133, 3) := by decide +kernel
theorem dX8_vote_8 : decode cX8_vote 8 = .ok (.iload_n 2, 1) := by decide +kernel
theorem dX8_vote_9 : decode cX8_vote 9 = .ok (.ifCond .lt 9, 3) := by decide +kernel
theorem dX8_vote_12 : decode cX8_vote 12 = .ok (.iload_n 2, 1) := by decide +kernel
theorem dX8_vote_13 : decode cX8_vote 13 = .ok (.ldc 163, 2) := by decide +kernel
theorem dX8_vote_15 : decode cX8_vote 15 = .ok (.if_icmp .le 13, 3) := by decide +kernel
theorem dX8_vote_18 : decode cX8_vote 18 = .ok (.new 76, 3) := by decide +kernel
theorem dX8_vote_21 : decode cX8_vote 21 = .ok (.dup, 1) := by decide +kernel
theorem dX8_vote_22 : decode cX8_vote 22 = .ok (.ldc 164, 2) := by decide +kernel
theorem dX8_vote_24 : decode cX8_vote 24 = .ok (.invokespecial 80, 3) := by decide +kernel
theorem dX8_vote_27 : decode cX8_vote 27 = .ok (.athrow, 1) := by decide +kernel
theorem dX8_vote_28 : decode cX8_vote 28 = .ok (.aload_n 0, 1) := by decide +kernel
theorem dX8_vote_29 : decode cX8_vote 29 = .ok (.getfield 31, 3) := by decide +kernel
theorem dX8_vote_32 : decode cX8_vote 32 = .ok (.invokevirtual 104, 3) := by decide +kernel
theorem dX8_vote_35 : decode cX8_vote 35 = .ok (.ifCond .eq 6, 3) := by decide +kernel
theorem dX8_vote_41 : decode cX8_vote 41 = .ok (.aload_n 0, 1) := by decide +kernel
theorem dX8_vote_42 : decode cX8_vote 42 = .ok (.getfield 40, 3) := by decide +kernel
theorem dX8_vote_45 : decode cX8_vote 45 = .ok (.lload_n 3, 1) := by decide +kernel
theorem dX8_vote_46 : decode cX8_vote 46 = .ok (.invokevirtual 136, 3) := by decide +kernel
theorem dX8_vote_49 : decode cX8_vote 49 = .ok (.lstore 5, 2) := by decide +kernel
theorem dX8_vote_51 : decode cX8_vote 51 = .ok (.aload_n 0, 1) := by decide +kernel
theorem dX8_vote_52 : decode cX8_vote 52 = .ok (.getfield 40, 3) := by decide +kernel
theorem dX8_vote_55 : decode cX8_vote 55 = .ok (.lload 5, 2) := by decide +kernel
theorem dX8_vote_57 : decode cX8_vote 57 = .ok (.invokevirtual 148, 3) := by decide +kernel
theorem dX8_vote_60 : decode cX8_vote 60 = .ok (.istore 7, 2) := by decide +kernel
theorem dX8_vote_62 : decode cX8_vote 62 = .ok (.iload 7, 2) := by decide +kernel
theorem dX8_vote_64 : decode cX8_vote 64 = .ok (.iconst (-1), 1) := by decide +kernel
theorem dX8_vote_65 : decode cX8_vote 65 = .ok (.if_icmp .eq 16, 3) := by decide +kernel
theorem dX8_vote_81 : decode cX8_vote 81 = .ok (.bipush (-6), 2) := by decide +kernel
theorem dX8_vote_83 : decode cX8_vote 83 = .ok (.ireturn, 1) := by decide +kernel
theorem dX8_sent_0 : decode cX8_sent 0 = .ok (.aload_n 0, 1) := by decide +kernel
theorem dX8_sent_1 : decode cX8_sent 1 = .ok (.iload_n 1, 1) := by decide +kernel
theorem dX8_sent_2 : decode cX8_sent 2 = .ok (.invokevirtual 156, 3) := by decide +kernel
theorem dX8_certify_0 : decode cX8_certify 0 = .ok (.aload_n 0, 1) := by decide +kernel
theorem dX8_certify_1 : decode cX8_certify 1 = .ok (.invokevirtual 99, 3) := by decide +kernel
theorem dX8_certify_4 : decode cX8_certify 4 = .ok (.iload_n 3, 1) := by decide +kernel
theorem dX8_certify_5 : decode cX8_certify 5 = .ok (.ifCond .lt 9, 3) := by decide +kernel
theorem dX8_certify_8 : decode cX8_certify 8 = .ok (.iload_n 3, 1) := by decide +kernel
theorem dX8_certify_9 : decode cX8_certify 9 = .ok (.bipush 15, 2) := by decide +kernel
theorem dX8_certify_11 : decode cX8_certify 11 = .ok (.if_icmp .le 13, 3) := by decide +kernel
theorem dX8_certify_14 : decode cX8_certify 14 = .ok (.new 76, 3) := by decide +kernel
theorem dX8_certify_17 : decode cX8_certify 17 = .ok (.dup, 1) := by decide +kernel
theorem dX8_certify_18 : decode cX8_certify 18 = .ok (.ldc 188, 2) := by decide +kernel
theorem dX8_certify_20 : decode cX8_certify 20 = .ok (.invokespecial 80, 3) := by decide +kernel
theorem dX8_certify_23 : decode cX8_certify 23 = .ok (.athrow, 1) := by decide +kernel
theorem dX8_certify_24 : decode cX8_certify 24 = .ok (.aload_n 0, 1) := by decide +kernel
theorem dX8_certify_25 : decode cX8_certify 25 = .ok (.getfield 31, 3) := by decide +kernel
theorem dX8_certify_28 : decode cX8_certify 28 = .ok (.invokevirtual 104, 3) := by decide +kernel
theorem dX8_certify_31 : decode cX8_certify 31 = .ok (.ifCond .eq 6, 3) := by decide +kernel
theorem dX8_certify_37 : decode cX8_certify 37 = .ok (.aload_n 0, 1) := by decide +kernel
theorem dX8_certify_38 : decode cX8_certify 38 = .ok (.getfield 40, 3) := by decide +kernel
theorem dX8_certify_41 : decode cX8_certify 41 = .ok (.lload_n 1, 1) := by decide +kernel
theorem dX8_certify_42 : decode cX8_certify 42 = .ok (.invokevirtual 136, 3) := by decide +kernel
theorem dX8_certify_45 : decode cX8_certify 45 = .ok (.lstore 4, 2) := by decide +kernel
theorem dX8_certify_47 : decode cX8_certify 47 = .ok (.aload_n 0, 1) := by decide +kernel
theorem dX8_certify_48 : decode cX8_certify 48 = .ok (.getfield 40, 3) := by decide +kernel
theorem dX8_certify_51 : decode cX8_certify 51 = .ok (.lload 4, 2) := by decide +kernel
theorem dX8_certify_53 : decode cX8_certify 53 = .ok (.invokevirtual 148, 3) := by decide +kernel
theorem dX8_certify_56 : decode cX8_certify 56 = .ok (.istore 6, 2) := by decide +kernel
theorem dX8_certify_58 : decode cX8_certify 58 = .ok (.iload 6, 2) := by decide +kernel
theorem dX8_certify_60 : decode cX8_certify 60 = .ok (.iconst (-1), 1) := by decide +kernel
theorem dX8_certify_61 : decode cX8_certify 61 = .ok (.if_icmp .ne 6, 3) := by decide +kernel
theorem dX8_certify_64 : decode cX8_certify 64 = .ok (.bipush (-6), 2) := by decide +kernel
theorem dX8_certify_66 : decode cX8_certify 66 = .ok (.ireturn, 1) := by decide +kernel
theorem dX8_version_0 : decode cX8_version 0 = .ok (.aload_n 0, 1) := by decide +kernel
theorem dX8_version_1 : decode cX8_version 1 = .ok (.invokevirtual 99, 3) := by decide +kernel
theorem dX8_version_4 : decode cX8_version 4 = .ok (.iload_n 1, 1) := by decide +kernel
theorem dX8_version_5 : decode cX8_version 5 = .ok (.ifCond .eq 18, 3) := by decide +kernel
theorem dX8_version_8 : decode cX8_version 8 = .ok (.iload_n 1, 1) := by decide +kernel
theorem dX8_version_9 : decode cX8_version 9 = .ok (.iconst 1, 1) := by decide +kernel
theorem dX8_version_10 : decode cX8_version 10 = .ok (.if_icmp .eq 13, 3) := by decide +kernel
theorem dX8_version_13 : decode cX8_version 13 = .ok (.new 76, 3) := by decide +kernel
theorem dX8_version_16 : decode cX8_version 16 = .ok (.dup, 1) := by decide +kernel
theorem dX8_version_17 : decode cX8_version 17 = .ok (.ldc 202, 2) := by decide +kernel
theorem dX8_version_19 : decode cX8_version 19 = .ok (.invokespecial 80, 3) := by decide +kernel
theorem dX8_version_22 : decode cX8_version 22 = .ok (.athrow, 1) := by decide +kernel
theorem dX8_version_23 : decode cX8_version 23 = .ok (.iload_n 1, 1) := by decide +kernel
theorem dX8_version_24 : decode cX8_version 24 = .ok (.ifCond .ne 13, 3) := by decide +kernel
theorem dX8_version_27 : decode cX8_version 27 = .ok (.aload_n 0, 1) := by decide +kernel
theorem dX8_version_28 : decode cX8_version 28 = .ok (.getfield 40, 3) := by decide +kernel
theorem dX8_version_31 : decode cX8_version 31 = .ok (.invokevirtual 204, 3) := by decide +kernel
theorem dX8_version_34 : decode cX8_version 34 = .ok (.goto 10, 3) := by decide +kernel
theorem dX8_version_37 : decode cX8_version 37 = .ok (.aload_n 0, 1) := by decide +kernel
theorem dX8_version_38 : decode cX8_version 38 = .ok (.getfield 40, 3) := by decide +kernel
theorem dX8_version_41 : decode cX8_version 41 = .ok (.getfield 207, 3) := by decide +kernel
theorem dX8_version_44 : decode cX8_version 44 = .ok (.ireturn, 1) := by decide +kernel
theorem dX8_slot_0 : decode cX8_slot 0 = .ok (.aload_n 0, 1) := by decide +kernel
theorem dX8_slot_1 : decode cX8_slot 1 = .ok (.invokevirtual 99, 3) := by decide +kernel
theorem dX8_slot_4 : decode cX8_slot 4 = .ok (.iload_n 2, 1) := by decide +kernel
theorem dX8_slot_5 : decode cX8_slot 5 = .ok (.ifCond .lt 9, 3) := by decide +kernel
theorem dX8_slot_8 : decode cX8_slot 8 = .ok (.iload_n 2, 1) := by decide +kernel
theorem dX8_slot_9 : decode cX8_slot 9 = .ok (.bipush 16, 2) := by decide +kernel
theorem dX8_slot_11 : decode cX8_slot 11 = .ok (.if_icmp .lt 13, 3) := by decide +kernel
theorem dX8_slot_14 : decode cX8_slot 14 = .ok (.new 76, 3) := by decide +kernel
theorem dX8_slot_17 : decode cX8_slot 17 = .ok (.dup, 1) := by decide +kernel
theorem dX8_slot_18 : decode cX8_slot 18 = .ok (.ldc 116, 2) := by decide +kernel
theorem dX8_slot_20 : decode cX8_slot 20 = .ok (.invokespecial 80, 3) := by decide +kernel
theorem dX8_slot_23 : decode cX8_slot 23 = .ok (.athrow, 1) := by decide +kernel
theorem dX8_slot_24 : decode cX8_slot 24 = .ok (.aload_n 0, 1) := by decide +kernel
theorem dX8_slot_25 : decode cX8_slot 25 = .ok (.getfield 40, 3) := by decide +kernel
theorem dX8_slot_28 : decode cX8_slot 28 = .ok (.iload_n 1, 1) := by decide +kernel
theorem dX8_slot_29 : decode cX8_slot 29 = .ok (.invokevirtual 210, 3) := by decide +kernel
theorem dX8_slot_32 : decode cX8_slot 32 = .ok (.ifCond .ne 13, 3) := by decide +kernel
theorem dX8_slot_35 : decode cX8_slot 35 = .ok (.new 76, 3) := by decide +kernel
theorem dX8_slot_38 : decode cX8_slot 38 = .ok (.dup, 1) := by decide +kernel
theorem dX8_slot_39 : decode cX8_slot 39 = .ok (.ldc 213, 2) := by decide +kernel
theorem dX8_slot_41 : decode cX8_slot 41 = .ok (.invokespecial 80, 3) := by decide +kernel
theorem dX8_slot_44 : decode cX8_slot 44 = .ok (.athrow, 1) := by decide +kernel
theorem dX8_slot_45 : decode cX8_slot 45 = .ok (.aload_n 0, 1) := by decide +kernel
theorem dX8_slot_46 : decode cX8_slot 46 = .ok (.getfield 40, 3) := by decide +kernel
theorem dX8_slot_49 : decode cX8_slot 49 = .ok (.iload_n 1, 1) := by decide +kernel
theorem dX8_slot_50 : decode cX8_slot 50 = .ok (.invokevirtual 215, 3) := by decide +kernel
theorem dX8_slot_53 : decode cX8_slot 53 = .ok (.aload_n 0, 1) := by decide +kernel
theorem dX8_slot_54 : decode cX8_slot 54 = .ok (.getfield 40, 3) := by decide +kernel
theorem dX8_slot_57 : decode cX8_slot 57 = .ok (.getfield 218, 3) := by decide +kernel
theorem dX8_slot_60 : decode cX8_slot 60 = .ok (.iload_n 2, 1) := by decide +kernel
theorem dX8_slot_61 : decode cX8_slot 61 = .ok (.laload, 1) := by decide +kernel
theorem dX8_slot_62 : decode cX8_slot 62 = .ok (.lreturn, 1) := by decide +kernel
theorem dX8_page_0 : decode cX8_page 0 = .ok (.aload_n 0, 1) := by decide +kernel
theorem dX8_page_1 : decode cX8_page 1 = .ok (.invokevirtual 99, 3) := by decide +kernel
theorem dX8_page_4 : decode cX8_page 4 = .ok (.aload_n 0, 1) := by decide +kernel
theorem dX8_page_5 : decode cX8_page 5 = .ok (.getfield 22, 3) := by decide +kernel
theorem dX8_page_8 : decode cX8_page 8 = .ok (.lload_n 1, 1) := by decide +kernel
theorem dX8_page_9 : decode cX8_page 9 = .ok (.invokevirtual 221, 3) := by decide +kernel
theorem dX8_page_12 : decode cX8_page 12 = .ok (.astore_n 3, 1) := by decide +kernel
theorem dX8_page_13 : decode cX8_page 13 = .ok (.aload_n 3, 1) := by decide +kernel
theorem dX8_page_14 : decode cX8_page 14 = .ok (.ifnonnull 7, 3) := by decide +kernel
theorem dX8_page_17 : decode cX8_page 17 = .ok (.iconst (-1), 1) := by decide +kernel
theorem dX8_page_18 : decode cX8_page 18 = .ok (.goto 7, 3) := by decide +kernel
theorem dX8_page_25 : decode cX8_page 25 = .ok (.ireturn, 1) := by decide +kernel
theorem dX8_byteOf_0 : decode cX8_byteOf 0 = .ok (.aload_n 0, 1) := by decide +kernel
theorem dX8_byteOf_1 : decode cX8_byteOf 1 = .ok (.iload_n 1, 1) := by decide +kernel
theorem dX8_byteOf_2 : decode cX8_byteOf 2 = .ok (.invokevirtual 228, 3) := by decide +kernel
theorem dX8_byteOf_5 : decode cX8_byteOf 5 = .ok (.iload_n 2, 1) := by decide +kernel
theorem dX8_byteOf_6 : decode cX8_byteOf 6 = .ok (.ifCond .lt 9, 3) := by decide +kernel
theorem dX8_byteOf_9 : decode cX8_byteOf 9 = .ok (.iload_n 2, 1) := by decide +kernel
theorem dX8_byteOf_10 : decode cX8_byteOf 10 = .ok (.bipush 16, 2) := by decide +kernel
theorem dX8_byteOf_12 : decode cX8_byteOf 12 = .ok (.if_icmp .lt 13, 3) := by decide +kernel
theorem dX8_byteOf_15 : decode cX8_byteOf 15 = .ok (.new 91, 3) := by decide +kernel
theorem dX8_byteOf_18 : decode cX8_byteOf 18 = .ok (.dup, 1) := by decide +kernel
theorem dX8_byteOf_19 : decode cX8_byteOf 19 = .ok (.ldc 231, 2) := by decide +kernel
theorem dX8_byteOf_21 : decode cX8_byteOf 21 = .ok (.invokespecial 95, 3) := by decide +kernel
theorem dX8_byteOf_24 : decode cX8_byteOf 24 = .ok (.athrow, 1) := by decide +kernel
theorem dX8_byteOf_25 : decode cX8_byteOf 25 = .ok (.aload_n 0, 1) := by decide +kernel
theorem dX8_byteOf_26 : decode cX8_byteOf 26 = .ok (.invokevirtual 99, 3) := by decide +kernel
theorem dX8_byteOf_29 : decode cX8_byteOf 29 = .ok (.aload_n 0, 1) := by decide +kernel
theorem dX8_byteOf_30 : decode cX8_byteOf 30 = .ok (.getfield 22, 3) := by decide +kernel
theorem dX8_byteOf_33 : decode cX8_byteOf 33 = .ok (.iload_n 1, 1) := by decide +kernel
theorem dX8_byteOf_34 : decode cX8_byteOf 34 = .ok (.invokevirtual 123, 3) := by decide +kernel
theorem dX8_byteOf_37 : decode cX8_byteOf 37 = .ok (.astore_n 3, 1) := by decide +kernel
theorem dX8_byteOf_38 : decode cX8_byteOf 38 = .ok (.aload_n 3, 1) := by decide +kernel
theorem dX8_byteOf_39 : decode cX8_byteOf 39 = .ok (.ifnull 11, 3) := by decide +kernel
theorem dX8_byteOf_50 : decode cX8_byteOf 50 = .ok (.iconst (-1), 1) := by decide +kernel
theorem dX8_byteOf_51 : decode cX8_byteOf 51 = .ok (.goto 15, 3) := by decide +kernel
theorem dX8_byteOf_66 : decode cX8_byteOf 66 = .ok (.ireturn, 1) := by decide +kernel
theorem dX8_named_0 : decode cX8_named 0 = .ok (.aload_n 0, 1) := by decide +kernel
theorem dX8_named_1 : decode cX8_named 1 = .ok (.iload_n 1, 1) := by decide +kernel
theorem dX8_named_2 : decode cX8_named 2 = .ok (.invokevirtual 228, 3) := by decide +kernel
theorem dX8_named_5 : decode cX8_named 5 = .ok (.aload_n 0, 1) := by decide +kernel
theorem dX8_named_6 : decode cX8_named 6 = .ok (.invokevirtual 99, 3) := by decide +kernel
theorem dX8_named_9 : decode cX8_named 9 = .ok (.aload_n 0, 1) := by decide +kernel
theorem dX8_named_10 : decode cX8_named 10 = .ok (.getfield 22, 3) := by decide +kernel
theorem dX8_named_13 : decode cX8_named 13 = .ok (.iload_n 1, 1) := by decide +kernel
theorem dX8_named_14 : decode cX8_named 14 = .ok (.invokevirtual 123, 3) := by decide +kernel
theorem dX8_named_17 : decode cX8_named 17 = .ok (.astore_n 2, 1) := by decide +kernel
theorem dX8_named_18 : decode cX8_named 18 = .ok (.aload_n 2, 1) := by decide +kernel
theorem dX8_named_19 : decode cX8_named 19 = .ok (.ifnull 21, 3) := by decide +kernel
theorem dX8_named_40 : decode cX8_named 40 = .ok (.iconst 0, 1) := by decide +kernel
theorem dX8_named_41 : decode cX8_named 41 = .ok (.ireturn, 1) := by decide +kernel
theorem dX8_prune_0 : decode cX8_prune 0 = .ok (.aload_n 0, 1) := by decide +kernel
theorem dX8_prune_1 : decode cX8_prune 1 = .ok (.invokevirtual 99, 3) := by decide +kernel
theorem dX8_prune_4 : decode cX8_prune 4 = .ok (.aload_n 0, 1) := by decide +kernel
theorem dX8_prune_5 : decode cX8_prune 5 = .ok (.getfield 31, 3) := by decide +kernel
theorem dX8_prune_8 : decode cX8_prune 8 = .ok (.invokevirtual 104, 3) := by decide +kernel
theorem dX8_prune_11 : decode cX8_prune 11 = .ok (.ifCond .eq 6, 3) := by decide +kernel
theorem dX8_prune_17 : decode cX8_prune 17 = .ok (.iload_n 1, 1) := by decide +kernel
theorem dX8_prune_18 : decode cX8_prune 18 = .ok (.aload_n 0, 1) := by decide +kernel
theorem dX8_prune_19 : decode cX8_prune 19 = .ok (.getfield 40, 3) := by decide +kernel
theorem dX8_prune_22 : decode cX8_prune 22 = .ok (.getfield 207, 3) := by decide +kernel
theorem dX8_prune_25 : decode cX8_prune 25 = .ok (.if_icmp .le 14, 3) := by decide +kernel
theorem dX8_prune_28 : decode cX8_prune 28 = .ok (.iload_n 1, 1) := by decide +kernel
theorem dX8_prune_29 : decode cX8_prune 29 = .ok (.aload_n 0, 1) := by decide +kernel
theorem dX8_prune_30 : decode cX8_prune 30 = .ok (.getfield 40, 3) := by decide +kernel
theorem dX8_prune_33 : decode cX8_prune 33 = .ok (.invokevirtual 204, 3) := by decide +kernel
theorem dX8_prune_36 : decode cX8_prune 36 = .ok (.if_icmp .le 13, 3) := by decide +kernel
theorem dX8_prune_39 : decode cX8_prune 39 = .ok (.new 76, 3) := by decide +kernel
theorem dX8_prune_42 : decode cX8_prune 42 = .ok (.dup, 1) := by decide +kernel
theorem dX8_prune_43 : decode cX8_prune 43 = .ok (.ldc 241, 2) := by decide +kernel
theorem dX8_prune_45 : decode cX8_prune 45 = .ok (.invokespecial 80, 3) := by decide +kernel
theorem dX8_prune_48 : decode cX8_prune 48 = .ok (.athrow, 1) := by decide +kernel
theorem dX8_out_0 : decode cX8_out 0 = .ok (.aload_n 0, 1) := by decide +kernel
theorem dX8_out_1 : decode cX8_out 1 = .ok (.invokevirtual 99, 3) := by decide +kernel
theorem dX8_out_4 : decode cX8_out 4 = .ok (.iload_n 1, 1) := by decide +kernel
theorem dX8_out_5 : decode cX8_out 5 = .ok (.ifCond .eq 14, 3) := by decide +kernel
theorem dX8_out_8 : decode cX8_out 8 = .ok (.aload_n 0, 1) := by decide +kernel
theorem dX8_out_9 : decode cX8_out 9 = .ok (.getfield 40, 3) := by decide +kernel
theorem dX8_out_12 : decode cX8_out 12 = .ok (.iload_n 1, 1) := by decide +kernel
theorem dX8_out_13 : decode cX8_out 13 = .ok (.invokevirtual 210, 3) := by decide +kernel
theorem dX8_out_16 : decode cX8_out 16 = .ok (.ifCond .ne 14, 3) := by decide +kernel
theorem dX8_out_19 : decode cX8_out 19 = .ok (.new 76, 3) := by decide +kernel
theorem dX8_out_22 : decode cX8_out 22 = .ok (.dup, 1) := by decide +kernel
theorem dX8_out_23 : decode cX8_out 23 = .ok (.ldc_w 261, 3) := by decide +kernel
theorem dX8_out_26 : decode cX8_out 26 = .ok (.invokespecial 80, 3) := by decide +kernel
theorem dX8_out_29 : decode cX8_out 29 = .ok (.athrow, 1) := by decide +kernel
theorem dX8_in_0 : decode cX8_in 0 = .ok (.aload_n 0, 1) := by decide +kernel
theorem dX8_in_1 : decode cX8_in 1 = .ok (.invokevirtual 99, 3) := by decide +kernel
theorem dX8_in_4 : decode cX8_in 4 = .ok (.aload_n 0, 1) := by decide +kernel
theorem dX8_in_5 : decode cX8_in 5 = .ok (.getfield 31, 3) := by decide +kernel
theorem dX8_in_8 : decode cX8_in 8 = .ok (.invokevirtual 104, 3) := by decide +kernel
theorem dX8_in_11 : decode cX8_in 11 = .ok (.ifCond .eq 6, 3) := by decide +kernel
theorem dX8_in_17 : decode cX8_in 17 = .ok (.aload_n 0, 1) := by decide +kernel
theorem dX8_in_18 : decode cX8_in 18 = .ok (.getfield 31, 3) := by decide +kernel
theorem dX8_in_21 : decode cX8_in 21 = .ok (.getfield 151, 3) := by decide +kernel
theorem dX8_in_24 : decode cX8_in 24 = .ok (.ifCond .le 6, 3) := by decide +kernel
theorem dX8_in_30 : decode cX8_in 30 = .ok (.aload_n 0, 1) := by decide +kernel
theorem dX8_in_31 : decode cX8_in 31 = .ok (.getfield 56, 3) := by decide +kernel
theorem dX8_in_34 : decode cX8_in 34 = .ok (.aload_n 0, 1) := by decide +kernel
theorem dX8_in_35 : decode cX8_in 35 = .ok (.getfield 13, 3) := by decide +kernel
theorem dX8_in_38 : decode cX8_in 38 = .ok (.invokevirtual 266, 3) := by decide +kernel
theorem dX8_in_41 : decode cX8_in 41 = .ok (.ifCond .ne 6, 3) := by decide +kernel
theorem dX8_in_44 : decode cX8_in 44 = .ok (.bipush (-10), 2) := by decide +kernel
theorem dX8_in_46 : decode cX8_in 46 = .ok (.ireturn, 1) := by decide +kernel
theorem dX8_cut_0 : decode cX8_cut 0 = .ok (.iload_n 1, 1) := by decide +kernel
theorem dX8_cut_1 : decode cX8_cut 1 = .ok (.iconst (-1), 1) := by decide +kernel
theorem dX8_cut_2 : decode cX8_cut 2 = .ok (.if_icmp .lt 10, 3) := by decide +kernel
theorem dX8_cut_5 : decode cX8_cut 5 = .ok (.iload_n 1, 1) := by decide +kernel
theorem dX8_cut_6 : decode cX8_cut 6 = .ok (.sipush 5000, 3) := by decide +kernel
theorem dX8_cut_9 : decode cX8_cut 9 = .ok (.if_icmp .le 14, 3) := by decide +kernel
theorem dX8_cut_12 : decode cX8_cut 12 = .ok (.new 76, 3) := by decide +kernel
theorem dX8_cut_15 : decode cX8_cut 15 = .ok (.dup, 1) := by decide +kernel
theorem dX8_cut_16 : decode cX8_cut 16 = .ok (.ldc_w 282, 3) := by decide +kernel
theorem dX8_cut_19 : decode cX8_cut 19 = .ok (.invokespecial 80, 3) := by decide +kernel
theorem dX8_cut_22 : decode cX8_cut 22 = .ok (.athrow, 1) := by decide +kernel
theorem dX8_cut_23 : decode cX8_cut 23 = .ok (.aload_n 0, 1) := by decide +kernel
theorem dX8_cut_24 : decode cX8_cut 24 = .ok (.getfield 22, 3) := by decide +kernel
theorem dX8_cut_27 : decode cX8_cut 27 = .ok (.iload_n 1, 1) := by decide +kernel
theorem dX8_cut_28 : decode cX8_cut 28 = .ok (.putfield 284, 3) := by decide +kernel
theorem dX8_cut_31 : decode cX8_cut 31 = .ok (.return_, 1) := by decide +kernel
theorem dX8_off_0 : decode cX8_off 0 = .ok (.aload_n 0, 1) := by decide +kernel
theorem dX8_off_1 : decode cX8_off 1 = .ok (.getfield 22, 3) := by decide +kernel
theorem dX8_off_4 : decode cX8_off 4 = .ok (.getfield 287, 3) := by decide +kernel
theorem dX8_off_7 : decode cX8_off 7 = .ok (.istore_n 1, 1) := by decide +kernel
theorem dX8_off_8 : decode cX8_off 8 = .ok (.aload_n 0, 1) := by decide +kernel
theorem dX8_off_9 : decode cX8_off 9 = .ok (.getfield 22, 3) := by decide +kernel
theorem dX8_off_12 : decode cX8_off 12 = .ok (.iconst 0, 1) := by decide +kernel
theorem dX8_off_13 : decode cX8_off 13 = .ok (.putfield 287, 3) := by decide +kernel
theorem dX8_off_16 : decode cX8_off 16 = .ok (.aload_n 0, 1) := by decide +kernel
theorem dX8_off_17 : decode cX8_off 17 = .ok (.iconst 0, 1) := by decide +kernel
theorem dX8_off_18 : decode cX8_off 18 = .ok (.putfield 72, 3) := by decide +kernel
theorem dX8_off_21 : decode cX8_off 21 = .ok (.iload_n 1, 1) := by decide +kernel
theorem dX8_off_22 : decode cX8_off 22 = .ok (.ireturn, 1) := by decide +kernel
theorem dX8_open_0 : decode cX8_open 0 = .ok (.aload_n 0, 1) := by decide +kernel
theorem dX8_open_1 : decode cX8_open 1 = .ok (.getfield 22, 3) := by decide +kernel
theorem dX8_open_4 : decode cX8_open 4 = .ok (.getfield 287, 3) := by decide +kernel
theorem dX8_open_7 : decode cX8_open 7 = .ok (.ifCond .eq 11, 3) := by decide +kernel
theorem dX8_open_10 : decode cX8_open 10 = .ok (.aload_n 0, 1) := by decide +kernel
theorem dX8_open_11 : decode cX8_open 11 = .ok (.getfield 31, 3) := by decide +kernel
theorem dX8_open_14 : decode cX8_open 14 = .ok (.getfield 151, 3) := by decide +kernel
theorem dX8_open_17 : decode cX8_open 17 = .ok (.ireturn, 1) := by decide +kernel
theorem dX8_poke_0 : decode cX8_poke 0 = .ok (.aload_n 0, 1) := by decide +kernel
theorem dX8_poke_1 : decode cX8_poke 1 = .ok (.iload_n 1, 1) := by decide +kernel
theorem dX8_poke_2 : decode cX8_poke 2 = .ok (.invokevirtual 297, 3) := by decide +kernel
theorem dX8_poke_5 : decode cX8_poke 5 = .ok (.aload_n 0, 1) := by decide +kernel
theorem dX8_poke_6 : decode cX8_poke 6 = .ok (.getfield 22, 3) := by decide +kernel
theorem dX8_poke_9 : decode cX8_poke 9 = .ok (.getfield 287, 3) := by decide +kernel
theorem dX8_poke_12 : decode cX8_poke 12 = .ok (.ifCond .eq 14, 3) := by decide +kernel
theorem dX8_poke_15 : decode cX8_poke 15 = .ok (.new 300, 3) := by decide +kernel
theorem dX8_poke_18 : decode cX8_poke 18 = .ok (.dup, 1) := by decide +kernel
theorem dX8_poke_19 : decode cX8_poke 19 = .ok (.ldc_w 302, 3) := by decide +kernel
theorem dX8_poke_22 : decode cX8_poke 22 = .ok (.invokespecial 304, 3) := by decide +kernel
theorem dX8_poke_25 : decode cX8_poke 25 = .ok (.athrow, 1) := by decide +kernel
theorem dX8_byteAt_0 : decode cX8_byteAt 0 = .ok (.aload_n 0, 1) := by decide +kernel
theorem dX8_byteAt_1 : decode cX8_byteAt 1 = .ok (.iload_n 1, 1) := by decide +kernel
theorem dX8_byteAt_2 : decode cX8_byteAt 2 = .ok (.invokevirtual 297, 3) := by decide +kernel
theorem dX8_byteAt_5 : decode cX8_byteAt 5 = .ok (.aload_n 0, 1) := by decide +kernel
theorem dX8_byteAt_6 : decode cX8_byteAt 6 = .ok (.getfield 22, 3) := by decide +kernel
theorem dX8_byteAt_9 : decode cX8_byteAt 9 = .ok (.iload_n 1, 1) := by decide +kernel
theorem dX8_byteAt_10 : decode cX8_byteAt 10 = .ok (.invokevirtual 307, 3) := by decide +kernel
theorem dX8_byteAt_13 : decode cX8_byteAt 13 = .ok (.ireturn, 1) := by decide +kernel
theorem dX8_asked_0 : decode cX8_asked 0 = .ok (.aload_n 0, 1) := by decide +kernel
theorem dX8_asked_1 : decode cX8_asked 1 = .ok (.invokevirtual 99, 3) := by decide +kernel
theorem dX8_asked_4 : decode cX8_asked 4 = .ok (.iload_n 1, 1) := by decide +kernel
theorem dX8_asked_5 : decode cX8_asked 5 = .ok (.ifCond .ge 5, 3) := by decide +kernel
theorem dX8_asked_8 : decode cX8_asked 8 = .ok (.iconst (-1), 1) := by decide +kernel
theorem dX8_asked_9 : decode cX8_asked 9 = .ok (.ireturn, 1) := by decide +kernel
theorem dX8_asked_10 : decode cX8_asked 10 = .ok (.iload_n 1, 1) := by decide +kernel
theorem dX8_asked_11 : decode cX8_asked 11 = .ok (.aload_n 0, 1) := by decide +kernel
theorem dX8_asked_12 : decode cX8_asked 12 = .ok (.getfield 31, 3) := by decide +kernel
theorem dX8_asked_15 : decode cX8_asked 15 = .ok (.getfield 312, 3) := by decide +kernel
theorem dX8_asked_18 : decode cX8_asked 18 = .ok (.if_icmp .ge 12, 3) := by decide +kernel
theorem dX8_asked_30 : decode cX8_asked 30 = .ok (.aload_n 0, 1) := by decide +kernel
theorem dX8_asked_31 : decode cX8_asked 31 = .ok (.getfield 22, 3) := by decide +kernel
theorem dX8_asked_34 : decode cX8_asked 34 = .ok (.iload_n 1, 1) := by decide +kernel
theorem dX8_asked_35 : decode cX8_asked 35 = .ok (.aload_n 0, 1) := by decide +kernel
theorem dX8_asked_36 : decode cX8_asked 36 = .ok (.getfield 31, 3) := by decide +kernel
theorem dX8_asked_39 : decode cX8_asked 39 = .ok (.getfield 312, 3) := by decide +kernel
theorem dX8_asked_42 : decode cX8_asked 42 = .ok (.isub, 1) := by decide +kernel
theorem dX8_asked_43 : decode cX8_asked 43 = .ok (.invokevirtual 318, 3) := by decide +kernel
theorem dX8_asked_46 : decode cX8_asked 46 = .ok (.astore_n 2, 1) := by decide +kernel
theorem dX8_asked_47 : decode cX8_asked 47 = .ok (.aload_n 2, 1) := by decide +kernel
theorem dX8_asked_48 : decode cX8_asked 48 = .ok (.ifnonnull 7, 3) := by decide +kernel
theorem dX8_asked_51 : decode cX8_asked 51 = .ok (.iconst (-1), 1) := by decide +kernel
theorem dX8_asked_52 : decode cX8_asked 52 = .ok (.goto 11, 3) := by decide +kernel
theorem dX8_asked_63 : decode cX8_asked 63 = .ok (.ireturn, 1) := by decide +kernel
theorem dX8_mend_0 : decode cX8_mend 0 = .ok (.aload_n 0, 1) := by decide +kernel
theorem dX8_mend_1 : decode cX8_mend 1 = .ok (.invokevirtual 99, 3) := by decide +kernel
theorem dX8_mend_4 : decode cX8_mend 4 = .ok (.aload_n 0, 1) := by decide +kernel
theorem dX8_mend_5 : decode cX8_mend 5 = .ok (.iload_n 1, 1) := by decide +kernel
theorem dX8_mend_6 : decode cX8_mend 6 = .ok (.invokevirtual 321, 3) := by decide +kernel
theorem dX8_mend_9 : decode cX8_mend 9 = .ok (.ifCond .ne 14, 3) := by decide +kernel
theorem dX8_mend_12 : decode cX8_mend 12 = .ok (.new 76, 3) := by decide +kernel
theorem dX8_mend_15 : decode cX8_mend 15 = .ok (.dup, 1) := by decide +kernel
theorem dX8_mend_16 : decode cX8_mend 16 = .ok (.ldc_w 324, 3) := by decide +kernel
theorem dX8_mend_19 : decode cX8_mend 19 = .ok (.invokespecial 80, 3) := by decide +kernel
theorem dX8_mend_22 : decode cX8_mend 22 = .ok (.athrow, 1) := by decide +kernel
theorem dX8_told_0 : decode cX8_told 0 = .ok (.iload_n 1, 1) := by decide +kernel
theorem dX8_told_1 : decode cX8_told 1 = .ok (.ifCond .lt 9, 3) := by decide +kernel
theorem dX8_told_4 : decode cX8_told 4 = .ok (.iload_n 1, 1) := by decide +kernel
theorem dX8_told_5 : decode cX8_told 5 = .ok (.bipush 8, 2) := by decide +kernel
theorem dX8_told_7 : decode cX8_told 7 = .ok (.if_icmp .le 14, 3) := by decide +kernel
theorem dX8_told_10 : decode cX8_told 10 = .ok (.new 76, 3) := by decide +kernel
theorem dX8_told_13 : decode cX8_told 13 = .ok (.dup, 1) := by decide +kernel
theorem dX8_told_14 : decode cX8_told 14 = .ok (.ldc_w 343, 3) := by decide +kernel
theorem dX8_told_17 : decode cX8_told 17 = .ok (.invokespecial 80, 3) := by decide +kernel
theorem dX8_told_20 : decode cX8_told 20 = .ok (.athrow, 1) := by decide +kernel
theorem dX8_told_21 : decode cX8_told 21 = .ok (.iload_n 1, 1) := by decide +kernel
theorem dX8_told_22 : decode cX8_told 22 = .ok (.iconst 1, 1) := by decide +kernel
theorem dX8_told_23 : decode cX8_told 23 = .ok (.if_icmp .ne 11, 3) := by decide +kernel
theorem dX8_told_26 : decode cX8_told 26 = .ok (.aload_n 0, 1) := by decide +kernel
theorem dX8_told_27 : decode cX8_told 27 = .ok (.getfield 22, 3) := by decide +kernel
theorem dX8_told_30 : decode cX8_told 30 = .ok (.getfield 345, 3) := by decide +kernel
theorem dX8_told_33 : decode cX8_told 33 = .ok (.ireturn, 1) := by decide +kernel
theorem dX8_told_34 : decode cX8_told 34 = .ok (.aload_n 0, 1) := by decide +kernel
theorem dX8_told_35 : decode cX8_told 35 = .ok (.getfield 22, 3) := by decide +kernel
theorem dX8_told_38 : decode cX8_told 38 = .ok (.getfield 287, 3) := by decide +kernel
theorem dX8_told_41 : decode cX8_told 41 = .ok (.ifCond .ne 5, 3) := by decide +kernel
theorem dX8_told_46 : decode cX8_told 46 = .ok (.iload_n 1, 1) := by decide +kernel
theorem dX8_told_47 : decode cX8_told 47 = .ok (.tableswitch 94 2 8 #[41, 49, 57, 65, 73, 81, 89], 41) := by decide +kernel
theorem dX8_told_88 : decode cX8_told 88 = .ok (.aload_n 0, 1) := by decide +kernel
theorem dX8_told_89 : decode cX8_told 89 = .ok (.getfield 31, 3) := by decide +kernel
theorem dX8_told_92 : decode cX8_told 92 = .ok (.getfield 252, 3) := by decide +kernel
theorem dX8_told_95 : decode cX8_told 95 = .ok (.ireturn, 1) := by decide +kernel
theorem dX8_told_96 : decode cX8_told 96 = .ok (.aload_n 0, 1) := by decide +kernel
theorem dX8_told_97 : decode cX8_told 97 = .ok (.getfield 31, 3) := by decide +kernel
theorem dX8_told_100 : decode cX8_told 100 = .ok (.getfield 348, 3) := by decide +kernel
theorem dX8_told_103 : decode cX8_told 103 = .ok (.ireturn, 1) := by decide +kernel
theorem dX8_told_104 : decode cX8_told 104 = .ok (.aload_n 0, 1) := by decide +kernel
theorem dX8_told_105 : decode cX8_told 105 = .ok (.getfield 31, 3) := by decide +kernel
theorem dX8_told_108 : decode cX8_told 108 = .ok (.getfield 151, 3) := by decide +kernel
theorem dX8_told_111 : decode cX8_told 111 = .ok (.ireturn, 1) := by decide +kernel
theorem dX8_told_112 : decode cX8_told 112 = .ok (.aload_n 0, 1) := by decide +kernel
theorem dX8_told_113 : decode cX8_told 113 = .ok (.getfield 22, 3) := by decide +kernel
theorem dX8_told_116 : decode cX8_told 116 = .ok (.invokevirtual 273, 3) := by decide +kernel
theorem dX8_told_119 : decode cX8_told 119 = .ok (.ireturn, 1) := by decide +kernel
theorem dX8_told_120 : decode cX8_told 120 = .ok (.aload_n 0, 1) := by decide +kernel
theorem dX8_told_121 : decode cX8_told 121 = .ok (.getfield 31, 3) := by decide +kernel
theorem dX8_told_124 : decode cX8_told 124 = .ok (.getfield 312, 3) := by decide +kernel
theorem dX8_told_127 : decode cX8_told 127 = .ok (.ireturn, 1) := by decide +kernel
theorem dX8_told_128 : decode cX8_told 128 = .ok (.aload_n 0, 1) := by decide +kernel
theorem dX8_told_129 : decode cX8_told 129 = .ok (.getfield 22, 3) := by decide +kernel
theorem dX8_told_132 : decode cX8_told 132 = .ok (.invokevirtual 340, 3) := by decide +kernel
theorem dX8_told_135 : decode cX8_told 135 = .ok (.ireturn, 1) := by decide +kernel
theorem dX8_told_136 : decode cX8_told 136 = .ok (.aload_n 0, 1) := by decide +kernel
theorem dX8_told_137 : decode cX8_told 137 = .ok (.getfield 72, 3) := by decide +kernel
theorem dX8_told_140 : decode cX8_told 140 = .ok (.ireturn, 1) := by decide +kernel
theorem dX8_told_141 : decode cX8_told 141 = .ok (.iconst 1, 1) := by decide +kernel
theorem dX8_told_142 : decode cX8_told 142 = .ok (.ireturn, 1) := by decide +kernel
theorem dX8_demandPower_0 : decode cX8_demandPower 0 = .ok (.aload_n 0, 1) := by decide +kernel
theorem dX8_demandPower_1 : decode cX8_demandPower 1 = .ok (.getfield 22, 3) := by decide +kernel
theorem dX8_demandPower_4 : decode cX8_demandPower 4 = .ok (.getfield 287, 3) := by decide +kernel
theorem dX8_demandPower_7 : decode cX8_demandPower 7 = .ok (.ifCond .ne 14, 3) := by decide +kernel
theorem dX8_demandPower_21 : decode cX8_demandPower 21 = .ok (.return_, 1) := by decide +kernel
theorem dX8_demandHeight_0 : decode cX8_demandHeight 0 = .ok (.iload_n 0, 1) := by decide +kernel
theorem dX8_demandHeight_1 : decode cX8_demandHeight 1 = .ok (.invokestatic 353, 3) := by decide +kernel
theorem dX8_demandHeight_4 : decode cX8_demandHeight 4 = .ok (.ifCond .ne 14, 3) := by decide +kernel
theorem dX8_demandHeight_7 : decode cX8_demandHeight 7 = .ok (.new 76, 3) := by decide +kernel
theorem dX8_demandHeight_10 : decode cX8_demandHeight 10 = .ok (.dup, 1) := by decide +kernel
theorem dX8_demandHeight_11 : decode cX8_demandHeight 11 = .ok (.ldc_w 356, 3) := by decide +kernel
theorem dX8_demandHeight_14 : decode cX8_demandHeight 14 = .ok (.invokespecial 80, 3) := by decide +kernel
theorem dX8_demandHeight_17 : decode cX8_demandHeight 17 = .ok (.athrow, 1) := by decide +kernel
theorem dX8_demandHeight_18 : decode cX8_demandHeight 18 = .ok (.return_, 1) := by decide +kernel
theorem dX8_demandRow_0 : decode cX8_demandRow 0 = .ok (.aload_n 0, 1) := by decide +kernel
theorem dX8_demandRow_1 : decode cX8_demandRow 1 = .ok (.getfield 22, 3) := by decide +kernel
theorem dX8_demandRow_4 : decode cX8_demandRow 4 = .ok (.getfield 287, 3) := by decide +kernel
theorem dX8_demandRow_7 : decode cX8_demandRow 7 = .ok (.ifCond .eq 13, 3) := by decide +kernel
theorem dX8_demandRow_10 : decode cX8_demandRow 10 = .ok (.aload_n 0, 1) := by decide +kernel
theorem dX8_demandRow_11 : decode cX8_demandRow 11 = .ok (.getfield 31, 3) := by decide +kernel
theorem dX8_demandRow_14 : decode cX8_demandRow 14 = .ok (.getfield 151, 3) := by decide +kernel
theorem dX8_demandRow_17 : decode cX8_demandRow 17 = .ok (.goto 6, 3) := by decide +kernel
theorem dX8_demandRow_23 : decode cX8_demandRow 23 = .ok (.istore_n 2, 1) := by decide +kernel
theorem dX8_demandRow_24 : decode cX8_demandRow 24 = .ok (.iload_n 1, 1) := by decide +kernel
theorem dX8_demandRow_25 : decode cX8_demandRow 25 = .ok (.ifCond .lt 8, 3) := by decide +kernel
theorem dX8_demandRow_28 : decode cX8_demandRow 28 = .ok (.iload_n 1, 1) := by decide +kernel
