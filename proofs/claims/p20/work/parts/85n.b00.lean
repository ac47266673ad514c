theorem dX8_change_0 : decode cX8_change 0 = .ok (.aload_n 0, 1) := by decide +kernel
theorem dX8_change_1 : decode cX8_change 1 = .ok (.invokevirtual 99, 3) := by decide +kernel
theorem dX8_change_4 : decode cX8_change 4 = .ok (.iload_n 1, 1) := by decide +kernel
theorem dX8_change_5 : decode cX8_change 5 = .ok (.ifCond .lt 9, 3) := by decide +kernel
theorem dX8_change_8 : decode cX8_change 8 = .ok (.iload_n 1, 1) := by decide +kernel
theorem dX8_change_9 : decode cX8_change 9 = .ok (.bipush 16, 2) := by decide +kernel
theorem dX8_change_11 : decode cX8_change 11 = .ok (.if_icmp .lt 13, 3) := by decide +kernel
theorem dX8_change_14 : decode cX8_change 14 = .ok (.new 76, 3) := by decide +kernel
theorem dX8_change_17 : decode cX8_change 17 = .ok (.dup, 1) := by decide +kernel
theorem dX8_change_18 : decode cX8_change 18 = .ok (.ldc 116, 2) := by decide +kernel
theorem dX8_change_20 : decode cX8_change 20 = .ok (.invokespecial 80, 3) := by decide +kernel
theorem dX8_change_23 : decode cX8_change 23 = .ok (.athrow, 1) := by decide +kernel
theorem dX8_change_24 : decode cX8_change 24 = .ok (.iload_n 2, 1) := by decide +kernel
theorem dX8_change_25 : decode cX8_change 25 = .ok (.iconst (-1), 1) := by decide +kernel
theorem dX8_change_26 : decode cX8_change 26 = .ok (.if_icmp .eq 28, 3) := by decide +kernel
theorem dX8_change_29 : decode cX8_change 29 = .ok (.iload_n 2, 1) := by decide +kernel
theorem dX8_change_30 : decode cX8_change 30 = .ok (.ifCond .lt 14, 3) := by decide +kernel
theorem dX8_change_33 : decode cX8_change 33 = .ok (.iload_n 2, 1) := by decide +kernel
theorem dX8_change_34 : decode cX8_change 34 = .ok (.aload_n 0, 1) := by decide +kernel
theorem dX8_change_35 : decode cX8_change 35 = .ok (.getfield 22, 3) := by decide +kernel
theorem dX8_change_38 : decode cX8_change 38 = .ok (.getfield 118, 3) := by decide +kernel
theorem dX8_change_41 : decode cX8_change 41 = .ok (.if_icmp .lt 13, 3) := by decide +kernel
theorem dX8_change_44 : decode cX8_change 44 = .ok (.new 76, 3) := by decide +kernel
theorem dX8_change_47 : decode cX8_change 47 = .ok (.dup, 1) := by decide +kernel
theorem dX8_change_48 : decode cX8_change 48 = .ok (.ldc 121, 2) := by decide +kernel
theorem dX8_change_50 : decode cX8_change 50 = .ok (.invokespecial 80, 3) := by decide +kernel
theorem dX8_change_53 : decode cX8_change 53 = .ok (.athrow, 1) := by decide +kernel
theorem dX8_change_54 : decode cX8_change 54 = .ok (.lconst 0, 1) := by decide +kernel
theorem dX8_change_55 : decode cX8_change 55 = .ok (.lstore_n 3, 1) := by decide +kernel
theorem dX8_change_56 : decode cX8_change 56 = .ok (.iload_n 2, 1) := by decide +kernel
theorem dX8_change_57 : decode cX8_change 57 = .ok (.iconst (-1), 1) := by decide +kernel
theorem dX8_change_58 : decode cX8_change 58 = .ok (.if_icmp .eq 27, 3) := by decide +kernel
theorem dX8_change_61 : decode cX8_change 61 = .ok (.aload_n 0, 1) := by decide +kernel
theorem dX8_change_62 : decode cX8_change 62 = .ok (.getfield 22, 3) := by decide +kernel
theorem dX8_change_65 : decode cX8_change 65 = .ok (.iload_n 2, 1) := by decide +kernel
theorem dX8_change_66 : decode cX8_change 66 = .ok (.invokevirtual 123, 3) := by decide +kernel
theorem dX8_change_69 : decode cX8_change 69 = .ok (.astore 5, 2) := by decide +kernel
theorem dX8_change_71 : decode cX8_change 71 = .ok (.aload 5, 2) := by decide +kernel
theorem dX8_change_73 : decode cX8_change 73 = .ok (.ifnonnull 6, 3) := by decide +kernel
theorem dX8_change_76 : decode cX8_change 76 = .ok (.bipush (-6), 2) := by decide +kernel
theorem dX8_change_78 : decode cX8_change 78 = .ok (.ireturn, 1) := by decide +kernel
theorem dX8_change_79 : decode cX8_change 79 = .ok (.aload 5, 2) := by decide +kernel
theorem dX8_change_81 : decode cX8_change 81 = .ok (.invokevirtual 127, 3) := by decide +kernel
theorem dX8_change_84 : decode cX8_change 84 = .ok (.lstore_n 3, 1) := by decide +kernel
theorem dX8_change_85 : decode cX8_change 85 = .ok (.aload_n 0, 1) := by decide +kernel
theorem dX8_change_86 : decode cX8_change 86 = .ok (.getfield 72, 3) := by decide +kernel
theorem dX8_change_89 : decode cX8_change 89 = .ok (.bipush 8, 2) := by decide +kernel
theorem dX8_change_91 : decode cX8_change 91 = .ok (.if_icmp .lt 6, 3) := by decide +kernel
theorem dX8_change_94 : decode cX8_change 94 = .ok (.bipush (-2), 2) := by decide +kernel
theorem dX8_change_96 : decode cX8_change 96 = .ok (.ireturn, 1) := by decide +kernel
theorem dX8_change_97 : decode cX8_change 97 = .ok (.aload_n 0, 1) := by decide +kernel
theorem dX8_change_98 : decode cX8_change 98 = .ok (.getfield 64, 3) := by decide +kernel
theorem dX8_change_101 : decode cX8_change 101 = .ok (.aload_n 0, 1) := by decide +kernel
theorem dX8_change_102 : decode cX8_change 102 = .ok (.getfield 72, 3) := by decide +kernel
theorem dX8_change_105 : decode cX8_change 105 = .ok (.iload_n 1, 1) := by decide +kernel
theorem dX8_change_106 : decode cX8_change 106 = .ok (.iastore, 1) := by decide +kernel
theorem dX8_change_107 : decode cX8_change 107 = .ok (.aload_n 0, 1) := by decide +kernel
theorem dX8_change_108 : decode cX8_change 108 = .ok (.getfield 68, 3) := by decide +kernel
theorem dX8_change_111 : decode cX8_change 111 = .ok (.aload_n 0, 1) := by decide +kernel
theorem dX8_change_112 : decode cX8_change 112 = .ok (.getfield 72, 3) := by decide +kernel
theorem dX8_change_115 : decode cX8_change 115 = .ok (.lload_n 3, 1) := by decide +kernel
theorem dX8_change_116 : decode cX8_change 116 = .ok (.lastore, 1) := by decide +kernel
theorem dX8_change_117 : decode cX8_change 117 = .ok (.aload_n 0, 1) := by decide +kernel
theorem dX8_change_118 : decode cX8_change 118 = .ok (.dup, 1) := by decide +kernel
theorem dX8_change_119 : decode cX8_change 119 = .ok (.getfield 72, 3) := by decide +kernel
theorem dX8_change_122 : decode cX8_change 122 = .ok (.iconst 1, 1) := by decide +kernel
theorem dX8_change_123 : decode cX8_change 123 = .ok (.iadd, 1) := by decide +kernel
theorem dX8_change_124 : decode cX8_change 124 = .ok (.putfield 72, 3) := by decide +kernel
theorem dX8_change_127 : decode cX8_change 127 = .ok (.aload_n 0, 1) := by decide +kernel
theorem dX8_change_128 : decode cX8_change 128 = .ok (.getfield 72, 3) := by decide +kernel
theorem dX8_change_131 : decode cX8_change 131 = .ok (.ireturn, 1) := by decide +kernel
theorem dX8_page_0 : decode cX8_page 0 = .ok (.aload_n 0, 1) := by decide +kernel
theorem dX8_page_1 : decode cX8_page 1 = .ok (.invokevirtual 99, 3) := by decide +kernel
theorem dX8_page_4 : decode cX8_page 4 = .ok (.aload_n 0, 1) := by decide +kernel
theorem dX8_page_5 : decode cX8_page 5 = .ok (.getfield 22, 3) := by decide +kernel
theorem dX8_page_8 : decode cX8_page 8 = .ok (.lload_n 1, 1) := by decide +kernel
theorem dX8_page_9 : decode cX8_page 9 = .ok (.invokevirtual 221, 3) := by decide +kernel
theorem dX8_page_12 : decode cX8_page 12 = .ok (.astore_n 3, 1) := by decide +kernel
theorem dX8_page_13 : decode cX8_page 13 = .ok (.aload_n 3, 1) := by decide +kernel
theorem dX8_page_14 : decode cX8_page 14 = .ok (.ifnonnull 7, 3) := by decide +kernel
theorem dX8_page_17 : decode cX8_page 17 = .ok (.iconst (-1), 1) := by decide +kernel
theorem dX8_page_18 : decode cX8_page 18 = .ok (.goto 7, 3) := by decide +kernel
theorem dX8_page_21 : decode cX8_page 21 = .ok (.aload_n 3, 1) := by decide +kernel
theorem dX8_page_22 : decode cX8_page 22 = .ok (.getfield 225, 3) := by decide +kernel
theorem dX8_page_25 : decode cX8_page 25 = .ok (.ireturn, 1) := by decide +kernel
theorem dX8_byteOf_0 : decode cX8_byteOf 0 = .ok (.aload_n 0, 1) := by decide +kernel
theorem dX8_byteOf_1 : decode cX8_byteOf 1 = .ok (.iload_n 1, 1) := by decide +kernel
theorem dX8_byteOf_2 : decode cX8_byteOf 2 = .ok (.invokevirtual 228, 3) := by decide +kernel
theorem dX8_byteOf_5 : decode cX8_byteOf 5 = .ok (.iload_n 2, 1) := by decide +kernel
theorem dX8_byteOf_6 : decode cX8_byteOf 6 = .ok (.ifCond .lt 9, 3) := by decide +kernel
theorem dX8_byteOf_9 : decode cX8_byteOf 9 = .ok (.iload_n 2, 1) := by decide +kernel
theorem dX8_byteOf_10 : decode cX8_byteOf 10 = .ok (.bipush 16, 2) := by decide +kernel
theorem dX8_byteOf_12 : decode cX8_byteOf 12 = .ok (.if_icmp .lt 13, 3) := by decide +kernel
theorem dX8_byteOf_15 : decode cX8_byteOf 15 = .ok (.new 91, 3) := by decide +kernel
theorem dX8_byteOf_18 : decode cX8_byteOf 18 = .ok (.dup, 1) := by decide +kernel
theorem dX8_byteOf_19 : decode cX8_byteOf 19 = .ok (.ldc 231, 2) := by decide +kernel
theorem dX8_byteOf_21 : decode cX8_byteOf 21 = .ok (.invokespecial 95, 3) := by decide +kernel
theorem dX8_byteOf_24 : decode cX8_byteOf 24 = .ok (.athrow, 1) := by decide +kernel
theorem dX8_byteOf_25 : decode cX8_byteOf 25 = .ok (.aload_n 0, 1) := by decide +kernel
theorem dX8_byteOf_26 : decode cX8_byteOf 26 = .ok (.invokevirtual 99, 3) := by decide +kernel
theorem dX8_byteOf_29 : decode cX8_byteOf 29 = .ok (.aload_n 0, 1) := by decide +kernel
theorem dX8_byteOf_30 : decode cX8_byteOf 30 = .ok (.getfield 22, 3) := by decide +kernel
theorem dX8_byteOf_33 : decode cX8_byteOf 33 = .ok (.iload_n 1, 1) := by decide +kernel
theorem dX8_byteOf_34 : decode cX8_byteOf 34 = .ok (.invokevirtual 123, 3) := by decide +kernel
theorem dX8_byteOf_37 : decode cX8_byteOf 37 = .ok (.astore_n 3, 1) := by decide +kernel
theorem dX8_byteOf_38 : decode cX8_byteOf 38 = .ok (.aload_n 3, 1) := by decide +kernel
theorem dX8_byteOf_39 : decode cX8_byteOf 39 = .ok (.ifnull 11, 3) := by decide +kernel
theorem dX8_byteOf_42 : decode cX8_byteOf 42 = .ok (.iload_n 2, 1) := by decide +kernel
theorem dX8_byteOf_43 : decode cX8_byteOf 43 = .ok (.aload_n 3, 1) := by decide +kernel
theorem dX8_byteOf_44 : decode cX8_byteOf 44 = .ok (.invokevirtual 233, 3) := by decide +kernel
theorem dX8_byteOf_47 : decode cX8_byteOf 47 = .ok (.if_icmp .lt 7, 3) := by decide +kernel
theorem dX8_byteOf_50 : decode cX8_byteOf 50 = .ok (.iconst (-1), 1) := by decide +kernel
theorem dX8_byteOf_51 : decode cX8_byteOf 51 = .ok (.goto 15, 3) := by decide +kernel
theorem dX8_byteOf_54 : decode cX8_byteOf 54 = .ok (.aload_n 3, 1) := by decide +kernel
theorem dX8_byteOf_55 : decode cX8_byteOf 55 = .ok (.getfield 236, 3) := by decide +kernel
theorem dX8_byteOf_58 : decode cX8_byteOf 58 = .ok (.iconst 1, 1) := by decide +kernel
theorem dX8_byteOf_59 : decode cX8_byteOf 59 = .ok (.iload_n 2, 1) := by decide +kernel
theorem dX8_byteOf_60 : decode cX8_byteOf 60 = .ok (.iadd, 1) := by decide +kernel
theorem dX8_byteOf_61 : decode cX8_byteOf 61 = .ok (.baload, 1) := by decide +kernel
theorem dX8_byteOf_62 : decode cX8_byteOf 62 = .ok (.sipush 255, 3) := by decide +kernel
theorem dX8_byteOf_65 : decode cX8_byteOf 65 = .ok (.iand, 1) := by decide +kernel
theorem dX8_byteOf_66 : decode cX8_byteOf 66 = .ok (.ireturn, 1) := by decide +kernel
theorem dX8_named_0 : decode cX8_named 0 = .ok (.aload_n 0, 1) := by decide +kernel
theorem dX8_named_1 : decode cX8_named 1 = .ok (.iload_n 1, 1) := by decide +kernel
theorem dX8_named_2 : decode cX8_named 2 = .ok (.invokevirtual 228, 3) := by decide +kernel
theorem dX8_named_5 : decode cX8_named 5 = .ok (.aload_n 0, 1) := by decide +kernel
theorem dX8_named_6 : decode cX8_named 6 = .ok (.invokevirtual 99, 3) := by decide +kernel
theorem dX8_named_9 : decode cX8_named 9 = .ok (.aload_n 0, 1) := by decide +kernel
theorem dX8_named_10 : decode cX8_named 10 = .ok (.getfield 22, 3) := by decide +kernel
theorem dX8_named_13 : decode cX8_named 13 = .ok (.iload_n 1, 1) := by decide +kernel
theorem dX8_named_14 : decode cX8_named 14 = .ok (.invokevirtual 123, 3) := by decide +kernel
theorem dX8_named_17 : decode cX8_named 17 = .ok (.astore_n 2, 1) := by decide +kernel
theorem dX8_named_18 : decode cX8_named 18 = .ok (.aload_n 2, 1) := by decide +kernel
theorem dX8_named_19 : decode cX8_named 19 = .ok (.ifnull 21, 3) := by decide +kernel
theorem dX8_named_22 : decode cX8_named 22 = .ok (.aload_n 0, 1) := by decide +kernel
theorem dX8_named_23 : decode cX8_named 23 = .ok (.getfield 40, 3) := by decide +kernel
theorem dX8_named_26 : decode cX8_named 26 = .ok (.aload_n 2, 1) := by decide +kernel
theorem dX8_named_27 : decode cX8_named 27 = .ok (.invokevirtual 127, 3) := by decide +kernel
theorem dX8_named_30 : decode cX8_named 30 = .ok (.invokevirtual 237, 3) := by decide +kernel
theorem dX8_named_33 : decode cX8_named 33 = .ok (.ifCond .eq 7, 3) := by decide +kernel
theorem dX8_named_36 : decode cX8_named 36 = .ok (.iconst 1, 1) := by decide +kernel
theorem dX8_named_37 : decode cX8_named 37 = .ok (.goto 4, 3) := by decide +kernel
theorem dX8_named_40 : decode cX8_named 40 = .ok (.iconst 0, 1) := by decide +kernel
theorem dX8_named_41 : decode cX8_named 41 = .ok (.ireturn, 1) := by decide +kernel
theorem dX8_prune_0 : decode cX8_prune 0 = .ok (.aload_n 0, 1) := by decide +kernel
theorem dX8_prune_1 : decode cX8_prune 1 = .ok (.invokevirtual 99, 3) := by decide +kernel
theorem dX8_prune_4 : decode cX8_prune 4 = .ok (.aload_n 0, 1) := by decide +kernel
theorem dX8_prune_5 : decode cX8_prune 5 = .ok (.getfield 31, 3) := by decide +kernel
theorem dX8_prune_8 : decode cX8_prune 8 = .ok (.invokevirtual 104, 3) := by decide +kernel
theorem dX8_prune_11 : decode cX8_prune 11 = .ok (.ifCond .eq 6, 3) := by decide +kernel
theorem dX8_prune_14 : decode cX8_prune 14 = .ok (.bipush (-3), 2) := by decide +kernel
theorem dX8_prune_16 : decode cX8_prune 16 = .ok (.ireturn, 1) := by decide +kernel
theorem dX8_prune_17 : decode cX8_prune 17 = .ok (.iload_n 1, 1) := by decide +kernel
theorem dX8_prune_18 : decode cX8_prune 18 = .ok (.aload_n 0, 1) := by decide +kernel
theorem dX8_prune_19 : decode cX8_prune 19 = .ok (.getfield 40, 3) := by decide +kernel
theorem dX8_prune_22 : decode cX8_prune 22 = .ok (.getfield 207, 3) := by decide +kernel
theorem dX8_prune_25 : decode cX8_prune 25 = .ok (.if_icmp .le 14, 3) := by decide +kernel
theorem dX8_prune_28 : decode cX8_prune 28 = .ok (.iload_n 1, 1) := by decide +kernel
theorem dX8_prune_29 : decode cX8_prune 29 = .ok (.aload_n 0, 1) := by decide +kernel
theorem dX8_prune_30 : decode cX8_prune 30 = .ok (.getfield 40, 3) := by decide +kernel
theorem dX8_prune_33 : decode cX8_prune 33 = .ok (.invokevirtual 204, 3) := by decide +kernel
theorem dX8_prune_36 : decode cX8_prune 36 = .ok (.if_icmp .le 13, 3) := by decide +kernel
theorem dX8_prune_39 : decode cX8_prune 39 = .ok (.new 76, 3) := by decide +kernel
theorem dX8_prune_42 : decode cX8_prune 42 = .ok (.dup, 1) := by decide +kernel
theorem dX8_prune_43 : decode cX8_prune 43 = .ok (.ldc 241, 2) := by decide +kernel
theorem dX8_prune_45 : decode cX8_prune 45 = .ok (.invokespecial 80, 3) := by decide +kernel
theorem dX8_prune_48 : decode cX8_prune 48 = .ok (.athrow, 1) := by decide +kernel
theorem dX8_prune_49 : decode cX8_prune 49 = .ok (.aload_n 0, 1) := by decide +kernel
theorem dX8_prune_50 : decode cX8_prune 50 = .ok (.getfield 49, 3) := by decide +kernel
theorem dX8_prune_53 : decode cX8_prune 53 = .ok (.iload_n 1, 1) := by decide +kernel
theorem dX8_prune_54 : decode cX8_prune 54 = .ok (.invokevirtual 243, 3) := by decide +kernel
theorem dX8_prune_57 : decode cX8_prune 57 = .ok (.sipush 128, 3) := by decide +kernel
theorem dX8_prune_60 : decode cX8_prune 60 = .ok (.if_icmp .le 6, 3) := by decide +kernel
theorem dX8_prune_63 : decode cX8_prune 63 = .ok (.bipush (-2), 2) := by decide +kernel
theorem dX8_prune_65 : decode cX8_prune 65 = .ok (.ireturn, 1) := by decide +kernel
theorem dX8_prune_66 : decode cX8_prune 66 = .ok (.aload_n 0, 1) := by decide +kernel
theorem dX8_prune_67 : decode cX8_prune 67 = .ok (.getfield 49, 3) := by decide +kernel
theorem dX8_prune_70 : decode cX8_prune 70 = .ok (.iload_n 1, 1) := by decide +kernel
theorem dX8_prune_71 : decode cX8_prune 71 = .ok (.invokevirtual 246, 3) := by decide +kernel
theorem dX8_prune_74 : decode cX8_prune 74 = .ok (.ifCond .ne 6, 3) := by decide +kernel
theorem dX8_prune_77 : decode cX8_prune 77 = .ok (.bipush (-4), 2) := by decide +kernel
theorem dX8_prune_79 : decode cX8_prune 79 = .ok (.ireturn, 1) := by decide +kernel
theorem dX8_prune_80 : decode cX8_prune 80 = .ok (.aload_n 0, 1) := by decide +kernel
theorem dX8_prune_81 : decode cX8_prune 81 = .ok (.getfield 40, 3) := by decide +kernel
theorem dX8_prune_84 : decode cX8_prune 84 = .ok (.invokevirtual 249, 3) := by decide +kernel
theorem dX8_prune_87 : decode cX8_prune 87 = .ok (.aload_n 0, 1) := by decide +kernel
theorem dX8_prune_88 : decode cX8_prune 88 = .ok (.getfield 22, 3) := by decide +kernel
theorem dX8_prune_91 : decode cX8_prune 91 = .ok (.iconst 1, 1) := by decide +kernel
theorem dX8_prune_92 : decode cX8_prune 92 = .ok (.aload_n 0, 1) := by decide +kernel
theorem dX8_prune_93 : decode cX8_prune 93 = .ok (.getfield 31, 3) := by decide +kernel
theorem dX8_prune_96 : decode cX8_prune 96 = .ok (.getfield 252, 3) := by decide +kernel
theorem dX8_prune_99 : decode cX8_prune 99 = .ok (.isub, 1) := by decide +kernel
theorem dX8_prune_100 : decode cX8_prune 100 = .ok (.invokevirtual 255, 3) := by decide +kernel
theorem dX8_prune_103 : decode cX8_prune 103 = .ok (.ifCond .eq 10, 3) := by decide +kernel
theorem dX8_prune_106 : decode cX8_prune 106 = .ok (.aload_n 0, 1) := by decide +kernel
theorem dX8_prune_107 : decode cX8_prune 107 = .ok (.invokevirtual 258, 3) := by decide +kernel
theorem dX8_prune_110 : decode cX8_prune 110 = .ok (.goto 5, 3) := by decide +kernel
theorem dX8_prune_113 : decode cX8_prune 113 = .ok (.bipush (-4), 2) := by decide +kernel
theorem dX8_prune_115 : decode cX8_prune 115 = .ok (.ireturn, 1) := by decide +kernel
theorem dX8_out_0 : decode cX8_out 0 = .ok (.aload_n 0, 1) := by decide +kernel
theorem dX8_out_1 : decode cX8_out 1 = .ok (.invokevirtual 99, 3) := by decide +kernel
theorem dX8_out_4 : decode cX8_out 4 = .ok (.iload_n 1, 1) := by decide +kernel
theorem dX8_out_5 : decode cX8_out 5 = .ok (.ifCond .eq 14, 3) := by decide +kernel
theorem dX8_out_8 : decode cX8_out 8 = .ok (.aload_n 0, 1) := by decide +kernel
theorem dX8_out_9 : decode cX8_out 9 = .ok (.getfield 40, 3) := by decide +kernel
theorem dX8_out_12 : decode cX8_out 12 = .ok (.iload_n 1, 1) := by decide +kernel
theorem dX8_out_13 : decode cX8_out 13 = .ok (.invokevirtual 210, 3) := by decide +kernel
theorem dX8_out_16 : decode cX8_out 16 = .ok (.ifCond .ne 14, 3) := by decide +kernel
theorem dX8_out_19 : decode cX8_out 19 = .ok (.new 76, 3) := by decide +kernel
theorem dX8_out_22 : decode cX8_out 22 = .ok (.dup, 1) := by decide +kernel
theorem dX8_out_23 : decode cX8_out 23 = .ok (.ldc_w 261, 3) := by decide +kernel
theorem dX8_out_26 : decode cX8_out 26 = .ok (.invokespecial 80, 3) := by decide +kernel
theorem dX8_out_29 : decode cX8_out 29 = .ok (.athrow, 1) := by decide +kernel
theorem dX8_out_30 : decode cX8_out 30 = .ok (.aload_n 0, 1) := by decide +kernel
theorem dX8_out_31 : decode cX8_out 31 = .ok (.getfield 40, 3) := by decide +kernel
theorem dX8_out_34 : decode cX8_out 34 = .ok (.iload_n 1, 1) := by decide +kernel
theorem dX8_out_35 : decode cX8_out 35 = .ok (.invokevirtual 215, 3) := by decide +kernel
theorem dX8_out_38 : decode cX8_out 38 = .ok (.iconst 0, 1) := by decide +kernel
theorem dX8_out_39 : decode cX8_out 39 = .ok (.istore_n 2, 1) := by decide +kernel
theorem dX8_out_40 : decode cX8_out 40 = .ok (.iload_n 2, 1) := by decide +kernel
theorem dX8_out_41 : decode cX8_out 41 = .ok (.bipush 16, 2) := by decide +kernel
theorem dX8_out_43 : decode cX8_out 43 = .ok (.if_icmp .ge 45, 3) := by decide +kernel
theorem dX8_out_46 : decode cX8_out 46 = .ok (.aload_n 0, 1) := by decide +kernel
theorem dX8_out_47 : decode cX8_out 47 = .ok (.getfield 40, 3) := by decide +kernel
theorem dX8_out_50 : decode cX8_out 50 = .ok (.getfield 218, 3) := by decide +kernel
theorem dX8_out_53 : decode cX8_out 53 = .ok (.iload_n 2, 1) := by decide +kernel
theorem dX8_out_54 : decode cX8_out 54 = .ok (.laload, 1) := by decide +kernel
theorem dX8_out_55 : decode cX8_out 55 = .ok (.lconst 0, 1) := by decide +kernel
theorem dX8_out_56 : decode cX8_out 56 = .ok (.lcmp, 1) := by decide +kernel
theorem dX8_out_57 : decode cX8_out 57 = .ok (.ifCond .eq 25, 3) := by decide +kernel
theorem dX8_out_60 : decode cX8_out 60 = .ok (.aload_n 0, 1) := by decide +kernel
theorem dX8_out_61 : decode cX8_out 61 = .ok (.getfield 22, 3) := by decide +kernel
theorem dX8_out_64 : decode cX8_out 64 = .ok (.aload_n 0, 1) := by decide +kernel
theorem dX8_out_65 : decode cX8_out 65 = .ok (.getfield 40, 3) := by decide +kernel
theorem dX8_out_68 : decode cX8_out 68 = .ok (.getfield 218, 3) := by decide +kernel
theorem dX8_out_71 : decode cX8_out 71 = .ok (.iload_n 2, 1) := by decide +kernel
theorem dX8_out_72 : decode cX8_out 72 = .ok (.laload, 1) := by decide +kernel
theorem dX8_out_73 : decode cX8_out 73 = .ok (.invokevirtual 221, 3) := by decide +kernel
theorem dX8_out_76 : decode cX8_out 76 = .ok (.ifnonnull 6, 3) := by decide +kernel
theorem dX8_out_79 : decode cX8_out 79 = .ok (.bipush (-6), 2) := by decide +kernel
theorem dX8_out_81 : decode cX8_out 81 = .ok (.ireturn, 1) := by decide +kernel
theorem dX8_out_82 : decode cX8_out 82 = .ok (.iinc 2 1, 3) := by decide +kernel
theorem dX8_out_85 : decode cX8_out 85 = .ok (.goto (-45), 3) := by decide +kernel
theorem dX8_out_88 : decode cX8_out 88 = .ok (.aload_n 0, 1) := by decide +kernel
theorem dX8_out_89 : decode cX8_out 89 = .ok (.iload_n 1, 1) := by decide +kernel
theorem dX8_out_90 : decode cX8_out 90 = .ok (.invokevirtual 263, 3) := by decide +kernel
theorem dX8_out_93 : decode cX8_out 93 = .ok (.aload_n 0, 1) := by decide +kernel
theorem dX8_out_94 : decode cX8_out 94 = .ok (.getfield 13, 3) := by decide +kernel
theorem dX8_out_97 : decode cX8_out 97 = .ok (.getfield 83, 3) := by decide +kernel
theorem dX8_out_100 : decode cX8_out 100 = .ok (.ireturn, 1) := by decide +kernel
theorem dX8_open_0 : decode cX8_open 0 = .ok (.aload_n 0, 1) := by decide +kernel
theorem dX8_open_1 : decode cX8_open 1 = .ok (.getfield 22, 3) := by decide +kernel
theorem dX8_open_4 : decode cX8_open 4 = .ok (.getfield 287, 3) := by decide +kernel
theorem dX8_open_7 : decode cX8_open 7 = .ok (.ifCond .eq 11, 3) := by decide +kernel
theorem dX8_open_10 : decode cX8_open 10 = .ok (.aload_n 0, 1) := by decide +kernel
theorem dX8_open_11 : decode cX8_open 11 = .ok (.getfield 31, 3) := by decide +kernel
theorem dX8_open_14 : decode cX8_open 14 = .ok (.getfield 151, 3) := by decide +kernel
theorem dX8_open_17 : decode cX8_open 17 = .ok (.ireturn, 1) := by decide +kernel
theorem dX8_open_18 : decode cX8_open 18 = .ok (.aload_n 0, 1) := by decide +kernel
theorem dX8_open_19 : decode cX8_open 19 = .ok (.getfield 31, 3) := by decide +kernel
theorem dX8_open_22 : decode cX8_open 22 = .ok (.invokevirtual 291, 3) := by decide +kernel
theorem dX8_open_25 : decode cX8_open 25 = .ok (.ifCond .ne 6, 3) := by decide +kernel
theorem dX8_open_28 : decode cX8_open 28 = .ok (.bipush (-5), 2) := by decide +kernel
theorem dX8_open_30 : decode cX8_open 30 = .ok (.ireturn, 1) := by decide +kernel
theorem dX8_open_31 : decode cX8_open 31 = .ok (.aload_n 0, 1) := by decide +kernel
theorem dX8_open_32 : decode cX8_open 32 = .ok (.getfield 22, 3) := by decide +kernel
theorem dX8_open_35 : decode cX8_open 35 = .ok (.iconst 1, 1) := by decide +kernel
theorem dX8_open_36 : decode cX8_open 36 = .ok (.putfield 287, 3) := by decide +kernel
theorem dX8_open_39 : decode cX8_open 39 = .ok (.aload_n 0, 1) := by decide +kernel
theorem dX8_open_40 : decode cX8_open 40 = .ok (.invokevirtual 294, 3) := by decide +kernel
theorem dX8_open_43 : decode cX8_open 43 = .ok (.ifCond .ne 6, 3) := by decide +kernel
theorem dX8_open_46 : decode cX8_open 46 = .ok (.bipush (-4), 2) := by decide +kernel
theorem dX8_open_48 : decode cX8_open 48 = .ok (.ireturn, 1) := by decide +kernel
theorem dX8_open_49 : decode cX8_open 49 = .ok (.aload_n 0, 1) := by decide +kernel
theorem dX8_open_50 : decode cX8_open 50 = .ok (.getfield 40, 3) := by decide +kernel
theorem dX8_open_53 : decode cX8_open 53 = .ok (.invokevirtual 249, 3) := by decide +kernel
theorem dX8_open_56 : decode cX8_open 56 = .ok (.aload_n 0, 1) := by decide +kernel
theorem dX8_open_57 : decode cX8_open 57 = .ok (.getfield 31, 3) := by decide +kernel
theorem dX8_open_60 : decode cX8_open 60 = .ok (.getfield 151, 3) := by decide +kernel
theorem dX8_open_63 : decode cX8_open 63 = .ok (.ireturn, 1) := by decide +kernel
theorem dX8_byteAt_0 : decode cX8_byteAt 0 = .ok (.aload_n 0, 1) := by decide +kernel
theorem dX8_byteAt_1 : decode cX8_byteAt 1 = .ok (.iload_n 1, 1) := by decide +kernel
theorem dX8_byteAt_2 : decode cX8_byteAt 2 = .ok (.invokevirtual 297, 3) := by decide +kernel
theorem dX8_byteAt_5 : decode cX8_byteAt 5 = .ok (.aload_n 0, 1) := by decide +kernel
theorem dX8_byteAt_6 : decode cX8_byteAt 6 = .ok (.getfield 22, 3) := by decide +kernel
theorem dX8_byteAt_9 : decode cX8_byteAt 9 = .ok (.iload_n 1, 1) := by decide +kernel
theorem dX8_byteAt_10 : decode cX8_byteAt 10 = .ok (.invokevirtual 307, 3) := by decide +kernel
theorem dX8_byteAt_13 : decode cX8_byteAt 13 = .ok (.ireturn, 1) := by decide +kernel
theorem dX8_asked_0 : decode cX8_asked 0 = .ok (.aload_n 0, 1) := by decide +kernel
theorem dX8_asked_1 : decode cX8_asked 1 = .ok (.invokevirtual 99, 3) := by decide +kernel
theorem dX8_asked_4 : decode cX8_asked 4 = .ok (.iload_n 1, 1) := by decide +kernel
theorem dX8_asked_5 : decode cX8_asked 5 = .ok (.ifCond .ge 5, 3) := by decide +kernel
theorem dX8_asked_8 : decode cX8_asked 8 = .ok (.iconst (-1), 1) := by decide +kernel
theorem dX8_asked_9 : decode cX8_asked 9 = .ok (.ireturn, 1) := by decide +kernel
theorem dX8_asked_10 : decode cX8_asked 10 = .ok (.iload_n 1, 1) := by decide +kernel
theorem dX8_asked_11 : decode cX8_asked 11 = .ok (.aload_n 0, 1) := by decide +kernel
theorem dX8_asked_12 : decode cX8_asked 12 = .ok (.getfield 31, 3) := by decide +kernel
theorem dX8_asked_15 : decode cX8_asked 15 = .ok (.getfield 312, 3) := by decide +kernel
theorem dX8_asked_18 : decode cX8_asked 18 = .ok (.if_icmp .ge 12, 3) := by decide +kernel
theorem dX8_asked_21 : decode cX8_asked 21 = .ok (.aload_n 0, 1) := by decide +kernel
theorem dX8_asked_22 : decode cX8_asked 22 = .ok (.getfield 31, 3) := by decide +kernel
theorem dX8_asked_25 : decode cX8_asked 25 = .ok (.iload_n 1, 1) := by decide +kernel
theorem dX8_asked_26 : decode cX8_asked 26 = .ok (.invokevirtual 315, 3) := by decide +kernel
theorem dX8_asked_29 : decode cX8_asked 29 = .ok (.ireturn, 1) := by decide +kernel
theorem dX8_asked_30 : decode cX8_asked 30 = .ok (.aload_n 0, 1) := by decide +kernel
theorem dX8_asked_31 : decode cX8_asked 31 = .ok (.getfield 22, 3) := by decide +kernel
theorem dX8_asked_34 : decode cX8_asked 34 = .ok (.iload_n 1, 1) := by decide +kernel
theorem dX8_asked_35 : decode cX8_asked 35 = .ok (.aload_n 0, 1) := by decide +kernel
theorem dX8_asked_36 : decode cX8_asked 36 = .ok (.getfield 31, 3) := by decide +kernel
theorem dX8_asked_39 : decode cX8_asked 39 = .ok (.getfield 312, 3) := by decide +kernel
theorem dX8_asked_42 : decode cX8_asked 42 = .ok (.isub, 1) := by decide +kernel
theorem dX8_asked_43 : decode cX8_asked 43 = .ok (.invokevirtual 318, 3) := by decide +kernel
theorem dX8_asked_46 : decode cX8_asked 46 = .ok (.astore_n 2, 1) := by decide +kernel
theorem dX8_asked_47 : decode cX8_asked 47 = .ok (.aload_n 2, 1) := by decide +kernel
theorem dX8_asked_48 : decode cX8_asked 48 = .ok (.ifnonnull 7, 3) := by decide +kernel
theorem dX8_asked_51 : decode cX8_asked 51 = .ok (.iconst (-1), 1) := by decide +kernel
theorem dX8_asked_52 : decode cX8_asked 52 = .ok (.goto 11, 3) := by decide +kernel
theorem dX8_asked_55 : decode cX8_asked 55 = .ok (.sipush 128, 3) := by decide +kernel
theorem dX8_asked_58 : decode cX8_asked 58 = .ok (.aload_n 2, 1) := by decide +kernel
theorem dX8_asked_59 : decode cX8_asked 59 = .ok (.getfield 225, 3) := by decide +kernel
theorem dX8_asked_62 : decode cX8_asked 62 = .ok (.iadd, 1) := by decide +kernel
theorem dX8_asked_63 : decode cX8_asked 63 = .ok (.ireturn, 1) := by decide +kernel
theorem dX8_told_0 : decode cX8_told 0 = .ok (.iload_n 1, 1) := by decide +kernel
theorem dX8_told_1 : decode cX8_told 1 = .ok (.ifCond .lt 9, 3) := by decide +kernel
theorem dX8_told_4 : decode cX8_told 4 = .ok (.iload_n 1, 1) := by decide +kernel
theorem dX8_told_5 : decode cX8_told 5 = .ok (.bipush 8, 2) := by decide +kernel
theorem dX8_told_7 : decode cX8_told 7 = .ok (.if_icmp .le 14, 3) := by decide +kernel
theorem dX8_told_10 : decode cX8_told 10 = .ok (.new 76, 3) := by decide +kernel
theorem dX8_told_13 : decode cX8_told 13 = .ok (.dup, 1) := by decide +kernel
theorem dX8_told_14 : decode cX8_told 14 = .ok (.ldc_w 343, 3) := by decide +kernel
theorem dX8_told_17 : decode cX8_told 17 = .ok (.invokespecial 80, 3) := by decide +kernel
theorem dX8_told_20 : decode cX8_told 20 = .ok (.athrow, 1) := by decide +kernel
theorem dX8_told_21 : decode cX8_told 21 = .ok (.iload_n 1, 1) := by decide +kernel
theorem dX8_told_22 : decode cX8_told 22 = .ok (.iconst 1, 1) := by decide +kernel
theorem dX8_told_23 : decode cX8_told 23 = .ok (.if_icmp .ne 11, 3) := by decide +kernel
theorem dX8_told_26 : decode cX8_told 26 = .ok (.aload_n 0, 1) := by decide +kernel
theorem dX8_told_27 : decode cX8_told 27 = .ok (.getfield 22, 3) := by decide +kernel
theorem dX8_told_30 : decode cX8_told 30 = .ok (.getfield 345, 3) := by decide +kernel
theorem dX8_told_33 : decode cX8_told 33 = .ok (.ireturn, 1) := by decide +kernel
theorem dX8_told_34 : decode cX8_told 34 = .ok (.aload_n 0, 1) := by decide +kernel
theorem dX8_told_35 : decode cX8_told 35 = .ok (.getfield 22, 3) := by decide +kernel
theorem dX8_told_38 : decode cX8_told 38 = .ok (.getfield 287, 3) := by decide +kernel
theorem dX8_told_41 : decode cX8_told 41 = .ok (.ifCond .ne 5, 3) := by decide +kernel
theorem dX8_told_44 : decode cX8_told 44 = .ok (.iconst 0, 1) := by decide +kernel
theorem dX8_told_45 : decode cX8_told 45 = .ok (.ireturn, 1) := by decide +kernel
theorem dX8_told_46 : decode cX8_told 46 = .ok (.iload_n 1, 1) := by decide +kernel
theorem dX8_told_47 : decode cX8_told 47 = .ok (.tableswitch 94 2 8 #[41, 49, 57, 65, 73, 81, 89], 41) := by decide +kernel
theorem dX8_told_88 : decode cX8_told 88 = .ok (.aload_n 0, 1) := by decide +kernel
theorem dX8_told_89 : decode cX8_told 89 = .ok (.getfield 31, 3) := by decide +kernel
theorem dX8_told_92 : decode cX8_told 92 = .ok (.getfield 252, 3) := by decide +kernel
theorem dX8_told_95 : decode cX8_told 95 = .ok (.ireturn, 1) := by decide +kernel
theorem dX8_told_96 : decode cX8_told 96 = .ok (.aload_n 0, 1) := by decide +kernel
theorem dX8_told_97 : decode cX8_told 97 = .ok (.getfield 31, 3) := by decide +kernel
theorem dX8_told_100 : decode cX8_told 100 = .ok (.getfield 348, 3) := by decide +kernel
theorem dX8_told_103 : decode cX8_told 103 = .ok (.ireturn, 1) := by decide +kernel
theorem dX8_told_104 : decode cX8_told 104 = .ok (.aload_n 0, 1) := by decide +kernel
theorem dX8_told_105 : decode cX8_told 105 = .ok (.getfield 31, 3) := by decide +kernel
theorem dX8_told_108 : decode cX8_told 108 = .ok (.getfield 151, 3) := by decide +kernel
theorem dX8_told_111 : decode cX8_told 111 = .ok (.ireturn, 1) := by decide +kernel
theorem dX8_told_112 : decode cX8_told 112 = .ok (.aload_n 0, 1) := by decide +kernel
theorem dX8_told_113 : decode cX8_told 113 = .ok (.getfield 22, 3) := by decide +kernel
theorem dX8_told_116 : decode cX8_told 116 = .ok (.invokevirtual 273, 3) := by decide +kernel
theorem dX8_told_119 : decode cX8_told 119 = .ok (.ireturn, 1) := by decide +kernel
theorem dX8_told_120 : decode cX8_told 120 = .ok (.aload_n 0, 1) := by decide +kernel
theorem dX8_told_121 : decode cX8_told 121 = .ok (.getfield 31, 3) := by decide +kernel
theorem dX8_told_124 : decode cX8_told 124 = .ok (.getfield 312, 3) := by decide +kernel
theorem dX8_told_127 : decode cX8_told 127 = .ok (.ireturn, 1) := by decide +kernel
theorem dX8_told_128 : decode cX8_told 128 = .ok (.aload_n 0, 1) := by decide +kernel
theorem dX8_told_129 : decode cX8_told 129 = .ok (.getfield 22, 3) := by decide +kernel
theorem dX8_told_132 : decode cX8_told 132 = .ok (.invokevirtual 340, 3) := by decide +kernel
theorem dX8_told_135 : decode cX8_told 135 = .ok (.ireturn, 1) := by decide +kernel
theorem dX8_told_136 : decode cX8_told 136 = .ok (.aload_n 0, 1) := by decide +kernel
theorem dX8_told_137 : decode cX8_told 137 = .ok (.getfield 72, 3) := by decide +kernel
theorem dX8_told_140 : decode cX8_told 140 = .ok (.ireturn, 1) := by decide +kernel
theorem dX8_told_141 : decode cX8_told 141 = .ok (.iconst 1, 1) := by decide +kernel
theorem dX8_told_142 : decode cX8_told 142 = .ok (.ireturn, 1) := by decide +kernel
theorem dX8_recover_0 : decode cX8_recover 0 = .ok (.aload_n 0, 1) := by decide +kernel
theorem dX8_recover_1 : decode cX8_recover 1 = .ok (.getfield 31, 3) := by decide +kernel
theorem dX8_recover_4 : decode cX8_recover 4 = .ok (.invokevirtual 362, 3) := by decide +kernel
theorem dX8_recover_7 : decode cX8_recover 7 = .ok (.ifCond .eq 23, 3) := by decide +kernel
theorem dX8_recover_10 : decode cX8_recover 10 = .ok (.aload_n 0, 1) := by decide +kernel
theorem dX8_recover_11 : decode cX8_recover 11 = .ok (.getfield 31, 3) := by decide +kernel
theorem dX8_recover_14 : decode cX8_recover 14 = .ok (.invokevirtual 104, 3) := by decide +kernel
theorem dX8_recover_17 : decode cX8_recover 17 = .ok (.ifCond .ne 15, 3) := by decide +kernel
theorem dX8_recover_20 : decode cX8_recover 20 = .ok (.aload_n 0, 1) := by decide +kernel
theorem dX8_recover_21 : decode cX8_recover 21 = .ok (.getfield 31, 3) := by decide +kernel
theorem dX8_recover_24 : decode cX8_recover 24 = .ok (.invokevirtual 365, 3) := by decide +kernel
theorem dX8_recover_27 : decode cX8_recover 27 = .ok (.ifCond .ne 5, 3) := by decide +kernel
theorem dX8_recover_30 : decode cX8_recover 30 = .ok (.iconst 0, 1) := by decide +kernel
theorem dX8_recover_31 : decode cX8_recover 31 = .ok (.ireturn, 1) := by decide +kernel
theorem dX8_recover_32 : decode cX8_recover 32 = .ok (.aload_n 0, 1) := by decide +kernel
theorem dX8_recover_33 : decode cX8_recover 33 = .ok (.getfield 22, 3) := by decide +kernel
theorem dX8_recover_36 : decode cX8_recover 36 = .ok (.invokevirtual 368, 3) := by decide +kernel
theorem dX8_recover_39 : decode cX8_recover 39 = .ok (.ifCond .eq 27, 3) := by decide +kernel
theorem dX8_recover_42 : decode cX8_recover 42 = .ok (.aload_n 0, 1) := by decide +kernel
theorem dX8_recover_43 : decode cX8_recover 43 = .ok (.getfield 31, 3) := by decide +kernel
theorem dX8_recover_46 : decode cX8_recover 46 = .ok (.invokevirtual 371, 3) := by decide +kernel
theorem dX8_recover_49 : decode cX8_recover 49 = .ok (.ifCond .eq 17, 3) := by decide +kernel
theorem dX8_recover_52 : decode cX8_recover 52 = .ok (.aload_n 0, 1) := by decide +kernel
theorem dX8_recover_53 : decode cX8_recover 53 = .ok (.getfield 22, 3) := by decide +kernel
theorem dX8_recover_56 : decode cX8_recover 56 = .ok (.invokevirtual 374, 3) := by decide +kernel
theorem dX8_recover_59 : decode cX8_recover 59 = .ok (.ifCond .eq 7, 3) := by decide +kernel
theorem dX8_recover_62 : decode cX8_recover 62 = .ok (.iconst 1, 1) := by decide +kernel
theorem dX8_recover_63 : decode cX8_recover 63 = .ok (.goto 4, 3) := by decide +kernel
theorem dX8_recover_66 : decode cX8_recover 66 = .ok (.iconst 0, 1) := by decide +kernel
theorem dX8_recover_67 : decode cX8_recover 67 = .ok (.ireturn, 1) := by decide +kernel
theorem dX8_eraseUnnamed_0 : decode cX8_eraseUnnamed 0 = .ok (.iconst 0, 1) := by decide +kernel
theorem dX8_eraseUnnamed_1 : decode cX8_eraseUnnamed 1 = .ok (.istore_n 1, 1) := by decide +kernel
theorem dX8_eraseUnnamed_2 : decode cX8_eraseUnnamed 2 = .ok (.iconst 0, 1) := by decide +kernel
theorem dX8_eraseUnnamed_3 : decode cX8_eraseUnnamed 3 = .ok (.istore_n 2, 1) := by decide +kernel
theorem dX8_eraseUnnamed_4 : decode cX8_eraseUnnamed 4 = .ok (.iload_n 2, 1) := by decide +kernel
theorem dX8_eraseUnnamed_5 : decode cX8_eraseUnnamed 5 = .ok (.aload_n 0, 1) := by decide +kernel
theorem dX8_eraseUnnamed_6 : decode cX8_eraseUnnamed 6 = .ok (.getfield 22, 3) := by decide +kernel
theorem dX8_eraseUnnamed_9 : decode cX8_eraseUnnamed 9 = .ok (.getfield 407, 3) := by decide +kernel
theorem dX8_eraseUnnamed_12 : decode cX8_eraseUnnamed 12 = .ok (.invokevirtual 411, 3) := by decide +kernel
theorem dX8_eraseUnnamed_15 : decode cX8_eraseUnnamed 15 = .ok (.if_icmp .ge 63, 3) := by decide +kernel
theorem dX8_eraseUnnamed_18 : decode cX8_eraseUnnamed 18 = .ok (.aload_n 0, 1) := by decide +kernel
theorem dX8_eraseUnnamed_19 : decode cX8_eraseUnnamed 19 = .ok (.getfield 22, 3) := by decide +kernel
theorem dX8_eraseUnnamed_22 : decode cX8_eraseUnnamed 22 = .ok (.getfield 407, 3) := by decide +kernel
theorem dX8_eraseUnnamed_25 : decode cX8_eraseUnnamed 25 = .ok (.iload_n 2, 1) := by decide +kernel
theorem dX8_eraseUnnamed_26 : decode cX8_eraseUnnamed 26 = .ok (.invokevirtual 414, 3) := by decide +kernel
theorem dX8_eraseUnnamed_29 : decode cX8_eraseUnnamed 29 = .ok (.checkcast 128, 3) := by decide +kernel
theorem dX8_eraseUnnamed_32 : decode cX8_eraseUnnamed 32 = .ok (.astore_n 3, 1) := by decide +kernel
theorem dX8_eraseUnnamed_33 : decode cX8_eraseUnnamed 33 = .ok (.aload_n 3, 1) := by decide +kernel
theorem dX8_eraseUnnamed_34 : decode cX8_eraseUnnamed 34 = .ok (.invokevirtual 418, 3) := by decide +kernel
theorem dX8_eraseUnnamed_37 : decode cX8_eraseUnnamed 37 = .ok (.iconst 2, 1) := by decide +kernel
theorem dX8_eraseUnnamed_38 : decode cX8_eraseUnnamed 38 = .ok (.if_icmp .ne 34, 3) := by decide +kernel
theorem dX8_eraseUnnamed_41 : decode cX8_eraseUnnamed 41 = .ok (.aload_n 0, 1) := by decide +kernel
theorem dX8_eraseUnnamed_42 : decode cX8_eraseUnnamed 42 = .ok (.getfield 40, 3) := by decide +kernel
theorem dX8_eraseUnnamed_45 : decode cX8_eraseUnnamed 45 = .ok (.aload_n 3, 1) := by decide +kernel
theorem dX8_eraseUnnamed_46 : decode cX8_eraseUnnamed 46 = .ok (.invokevirtual 127, 3) := by decide +kernel
theorem dX8_eraseUnnamed_49 : decode cX8_eraseUnnamed 49 = .ok (.invokevirtual 237, 3) := by decide +kernel
theorem dX8_eraseUnnamed_52 : decode cX8_eraseUnnamed 52 = .ok (.ifCond .ne 20, 3) := by decide +kernel
theorem dX8_eraseUnnamed_55 : decode cX8_eraseUnnamed 55 = .ok (.aload_n 0, 1) := by decide +kernel
theorem dX8_eraseUnnamed_56 : decode cX8_eraseUnnamed 56 = .ok (.getfield 22, 3) := by decide +kernel
theorem dX8_eraseUnnamed_59 : decode cX8_eraseUnnamed 59 = .ok (.aload_n 3, 1) := by decide +kernel
theorem dX8_eraseUnnamed_60 : decode cX8_eraseUnnamed 60 = .ok (.invokevirtual 420, 3) := by decide +kernel
theorem dX8_eraseUnnamed_63 : decode cX8_eraseUnnamed 63 = .ok (.ifCond .ne 6, 3) := by decide +kernel
theorem dX8_eraseUnnamed_66 : decode cX8_eraseUnnamed 66 = .ok (.bipush (-4), 2) := by decide +kernel
theorem dX8_eraseUnnamed_68 : decode cX8_eraseUnnamed 68 = .ok (.ireturn, 1) := by decide +kernel
theorem dX8_eraseUnnamed_69 : decode cX8_eraseUnnamed 69 = .ok (.iinc 1 1, 3) := by decide +kernel
theorem dX8_eraseUnnamed_72 : decode cX8_eraseUnnamed 72 = .ok (.iinc 2 1, 3) := by decide +kernel
theorem dX8_eraseUnnamed_75 : decode cX8_eraseUnnamed 75 = .ok (.goto (-71), 3) := by decide +kernel
theorem dX8_eraseUnnamed_78 : decode cX8_eraseUnnamed 78 = .ok (.iload_n 1, 1) := by decide +kernel
theorem dX8_eraseUnnamed_79 : decode cX8_eraseUnnamed 79 = .ok (.ireturn, 1) := by decide +kernel
theorem dX8_writeSnapshot_0 : decode cX8_writeSnapshot 0 = .ok (.aload_n 0, 1) := by decide +kernel
theorem dX8_writeSnapshot_1 : decode cX8_writeSnapshot 1 = .ok (.getfield 13, 3) := by decide +kernel
theorem dX8_writeSnapshot_4 : decode cX8_writeSnapshot 4 = .ok (.iconst 0, 1) := by decide +kernel
theorem dX8_writeSnapshot_5 : decode cX8_writeSnapshot 5 = .ok (.putfield 83, 3) := by decide +kernel
theorem dX8_writeSnapshot_8 : decode cX8_writeSnapshot 8 = .ok (.aload_n 0, 1) := by decide +kernel
theorem dX8_writeSnapshot_9 : decode cX8_writeSnapshot 9 = .ok (.getfield 13, 3) := by decide +kernel
theorem dX8_writeSnapshot_12 : decode cX8_writeSnapshot 12 = .ok (.iload_n 1, 1) := by decide +kernel
theorem dX8_writeSnapshot_13 : decode cX8_writeSnapshot 13 = .ok (.invokevirtual 424, 3) := by decide +kernel
theorem dX8_writeSnapshot_16 : decode cX8_writeSnapshot 16 = .ok (.aload_n 0, 1) := by decide +kernel
theorem dX8_writeSnapshot_17 : decode cX8_writeSnapshot 17 = .ok (.getfield 13, 3) := by decide +kernel
theorem dX8_writeSnapshot_20 : decode cX8_writeSnapshot 20 = .ok (.aload_n 0, 1) := by decide +kernel
theorem dX8_writeSnapshot_21 : decode cX8_writeSnapshot 21 = .ok (.getfield 40, 3) := by decide +kernel
theorem dX8_writeSnapshot_24 : decode cX8_writeSnapshot 24 = .ok (.iload_n 1, 1) := by decide +kernel
theorem dX8_writeSnapshot_25 : decode cX8_writeSnapshot 25 = .ok (.invokevirtual 427, 3) := by decide +kernel
theorem dX8_writeSnapshot_28 : decode cX8_writeSnapshot 28 = .ok (.invokevirtual 430, 3) := by decide +kernel
theorem dX8_writeSnapshot_31 : decode cX8_writeSnapshot 31 = .ok (.aload_n 0, 1) := by decide +kernel
theorem dX8_writeSnapshot_32 : decode cX8_writeSnapshot 32 = .ok (.getfield 13, 3) := by decide +kernel
theorem dX8_writeSnapshot_35 : decode cX8_writeSnapshot 35 = .ok (.aload_n 0, 1) := by decide +kernel
theorem dX8_writeSnapshot_36 : decode cX8_writeSnapshot 36 = .ok (.getfield 40, 3) := by decide +kernel
theorem dX8_writeSnapshot_39 : decode cX8_writeSnapshot 39 = .ok (.invokevirtual 434, 3) := by decide +kernel
theorem dX8_writeSnapshot_42 : decode cX8_writeSnapshot 42 = .ok (.invokevirtual 88, 3) := by decide +kernel
theorem dX8_writeSnapshot_45 : decode cX8_writeSnapshot 45 = .ok (.iconst 0, 1) := by decide +kernel
theorem dX8_writeSnapshot_46 : decode cX8_writeSnapshot 46 = .ok (.istore_n 2, 1) := by decide +kernel
theorem dX8_writeSnapshot_47 : decode cX8_writeSnapshot 47 = .ok (.iload_n 2, 1) := by decide +kernel
theorem dX8_writeSnapshot_48 : decode cX8_writeSnapshot 48 = .ok (.bipush 16, 2) := by decide +kernel
theorem dX8_writeSnapshot_50 : decode cX8_writeSnapshot 50 = .ok (.if_icmp .ge 88, 3) := by decide +kernel
theorem dX8_writeSnapshot_53 : decode cX8_writeSnapshot 53 = .ok (.aload_n 0, 1) := by decide +kernel
theorem dX8_writeSnapshot_54 : decode cX8_writeSnapshot 54 = .ok (.getfield 40, 3) := by decide +kernel
theorem dX8_writeSnapshot_57 : decode cX8_writeSnapshot 57 = .ok (.getfield 218, 3) := by decide +kernel
theorem dX8_writeSnapshot_60 : decode cX8_writeSnapshot 60 = .ok (.iload_n 2, 1) := by decide +kernel
theorem dX8_writeSnapshot_61 : decode cX8_writeSnapshot 61 = .ok (.laload, 1) := by decide +kernel
theorem dX8_writeSnapshot_62 : decode cX8_writeSnapshot 62 = .ok (.lconst 0, 1) := by decide +kernel
theorem dX8_writeSnapshot_63 : decode cX8_writeSnapshot 63 = .ok (.lcmp, 1) := by decide +kernel
theorem dX8_writeSnapshot_64 : decode cX8_writeSnapshot 64 = .ok (.ifCond .ne 7, 3) := by decide +kernel
theorem dX8_writeSnapshot_67 : decode cX8_writeSnapshot 67 = .ok (.aconst_null, 1) := by decide +kernel
theorem dX8_writeSnapshot_68 : decode cX8_writeSnapshot 68 = .ok (.goto 19, 3) := by decide +kernel
theorem dX8_writeSnapshot_71 : decode cX8_writeSnapshot 71 = .ok (.aload_n 0, 1) := by decide +kernel
theorem dX8_writeSnapshot_72 : decode cX8_writeSnapshot 72 = .ok (.getfield 22, 3) := by decide +kernel
theorem dX8_writeSnapshot_75 : decode cX8_writeSnapshot 75 = .ok (.aload_n 0, 1) := by decide +kernel
theorem dX8_writeSnapshot_76 : decode cX8_writeSnapshot 76 = .ok (.getfield 40, 3) := by decide +kernel
theorem dX8_writeSnapshot_79 : decode cX8_writeSnapshot 79 = .ok (.getfield 218, 3) := by decide +kernel
theorem dX8_writeSnapshot_82 : decode cX8_writeSnapshot 82 = .ok (.iload_n 2, 1) := by decide +kernel
theorem dX8_writeSnapshot_83 : decode cX8_writeSnapshot 83 = .ok (.laload, 1) := by decide +kernel
theorem dX8_writeSnapshot_84 : decode cX8_writeSnapshot 84 = .ok (.invokevirtual 221, 3) := by decide +kernel
theorem dX8_writeSnapshot_87 : decode cX8_writeSnapshot 87 = .ok (.astore_n 3, 1) := by decide +kernel
theorem dX8_writeSnapshot_88 : decode cX8_writeSnapshot 88 = .ok (.aload_n 3, 1) := by decide +kernel
theorem dX8_writeSnapshot_89 : decode cX8_writeSnapshot 89 = .ok (.ifnull 43, 3) := by decide +kernel
theorem dX8_writeSnapshot_92 : decode cX8_writeSnapshot 92 = .ok (.aload_n 0, 1) := by decide +kernel
theorem dX8_writeSnapshot_93 : decode cX8_writeSnapshot 93 = .ok (.getfield 13, 3) := by decide +kernel
theorem dX8_writeSnapshot_96 : decode cX8_writeSnapshot 96 = .ok (.iload_n 2, 1) := by decide +kernel
theorem dX8_writeSnapshot_97 : decode cX8_writeSnapshot 97 = .ok (.invokevirtual 88, 3) := by decide +kernel
theorem dX8_writeSnapshot_100 : decode cX8_writeSnapshot 100 = .ok (.iconst 0, 1) := by decide +kernel
theorem dX8_writeSnapshot_101 : decode cX8_writeSnapshot 101 = .ok (.istore 4, 2) := by decide +kernel
theorem dX8_writeSnapshot_103 : decode cX8_writeSnapshot 103 = .ok (.iload 4, 2) := by decide +kernel
theorem dX8_writeSnapshot_105 : decode cX8_writeSnapshot 105 = .ok (.aload_n 3, 1) := by decide +kernel
