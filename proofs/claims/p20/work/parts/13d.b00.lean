theorem dX9_changesBehind_0 : decode cX9_changesBehind 0 = .ok (.iload_n 2, 1) := by decide +kernel
theorem dX9_changesBehind_1 : decode cX9_changesBehind 1 = .ok (.iconst 0, 1) := by decide +kernel
theorem dX9_changesBehind_2 : decode cX9_changesBehind 2 = .ok (.bipush 16, 2) := by decide +kernel
theorem dX9_changesBehind_4 : decode cX9_changesBehind 4 = .ok (.invokestatic 138, 3) := by decide +kernel
theorem dX9_changesBehind_7 : decode cX9_changesBehind 7 = .ok (.ifCond .eq 17, 3) := by decide +kernel
theorem dX9_changesBehind_10 : decode cX9_changesBehind 10 = .ok (.iload_n 1, 1) := by decide +kernel
theorem dX9_changesBehind_11 : decode cX9_changesBehind 11 = .ok (.iload_n 2, 1) := by decide +kernel
theorem dX9_changesBehind_12 : decode cX9_changesBehind 12 = .ok (.iadd, 1) := by decide +kernel
theorem dX9_changesBehind_13 : decode cX9_changesBehind 13 = .ok (.aload_n 0, 1) := by decide +kernel
theorem dX9_changesBehind_14 : decode cX9_changesBehind 14 = .ok (.getfield 167, 3) := by decide +kernel
theorem dX9_changesBehind_17 : decode cX9_changesBehind 17 = .ok (.if_icmp .ge 7, 3) := by decide +kernel
theorem dX9_changesBehind_20 : decode cX9_changesBehind 20 = .ok (.iconst 1, 1) := by decide +kernel
theorem dX9_changesBehind_21 : decode cX9_changesBehind 21 = .ok (.goto 4, 3) := by decide +kernel
theorem dX9_changesBehind_24 : decode cX9_changesBehind 24 = .ok (.iconst 0, 1) := by decide +kernel
theorem dX9_changesBehind_25 : decode cX9_changesBehind 25 = .ok (.istore_n 3, 1) := by decide +kernel
theorem dX9_changesBehind_26 : decode cX9_changesBehind 26 = .ok (.iconst 1, 1) := by decide +kernel
theorem dX9_changesBehind_27 : decode cX9_changesBehind 27 = .ok (.istore 4, 2) := by decide +kernel
theorem dX9_changesBehind_29 : decode cX9_changesBehind 29 = .ok (.iload_n 3, 1) := by decide +kernel
theorem dX9_changesBehind_30 : decode cX9_changesBehind 30 = .ok (.ifCond .eq 33, 3) := by decide +kernel
theorem dX9_changesBehind_33 : decode cX9_changesBehind 33 = .ok (.iload 4, 2) := by decide +kernel
theorem dX9_changesBehind_35 : decode cX9_changesBehind 35 = .ok (.iload_n 2, 1) := by decide +kernel
theorem dX9_changesBehind_36 : decode cX9_changesBehind 36 = .ok (.if_icmp .gt 27, 3) := by decide +kernel
theorem dX9_changesBehind_39 : decode cX9_changesBehind 39 = .ok (.aload_n 0, 1) := by decide +kernel
theorem dX9_changesBehind_40 : decode cX9_changesBehind 40 = .ok (.iload_n 1, 1) := by decide +kernel
theorem dX9_changesBehind_41 : decode cX9_changesBehind 41 = .ok (.iload 4, 2) := by decide +kernel
theorem dX9_changesBehind_43 : decode cX9_changesBehind 43 = .ok (.iadd, 1) := by decide +kernel
theorem dX9_changesBehind_44 : decode cX9_changesBehind 44 = .ok (.invokevirtual 170, 3) := by decide +kernel
theorem dX9_changesBehind_47 : decode cX9_changesBehind 47 = .ok (.iconst 3, 1) := by decide +kernel
theorem dX9_changesBehind_48 : decode cX9_changesBehind 48 = .ok (.if_icmp .ne 7, 3) := by decide +kernel
theorem dX9_changesBehind_51 : decode cX9_changesBehind 51 = .ok (.iconst 1, 1) := by decide +kernel
theorem dX9_changesBehind_52 : decode cX9_changesBehind 52 = .ok (.goto 4, 3) := by decide +kernel
theorem dX9_changesBehind_55 : decode cX9_changesBehind 55 = .ok (.iconst 0, 1) := by decide +kernel
theorem dX9_changesBehind_56 : decode cX9_changesBehind 56 = .ok (.istore_n 3, 1) := by decide +kernel
theorem dX9_changesBehind_57 : decode cX9_changesBehind 57 = .ok (.iinc 4 1, 3) := by decide +kernel
theorem dX9_changesBehind_60 : decode cX9_changesBehind 60 = .ok (.goto (-31), 3) := by decide +kernel
theorem dX9_changesBehind_63 : decode cX9_changesBehind 63 = .ok (.iload_n 3, 1) := by decide +kernel
theorem dX9_changesBehind_64 : decode cX9_changesBehind 64 = .ok (.ireturn, 1) := by decide +kernel
theorem dX9_read_0 : decode cX9_read 0 = .ok (.aload_n 0, 1) := by decide +kernel
theorem dX9_read_1 : decode cX9_read 1 = .ok (.aload_n 0, 1) := by decide +kernel
theorem dX9_read_2 : decode cX9_read 2 = .ok (.invokevirtual 163, 3) := by decide +kernel
theorem dX9_read_5 : decode cX9_read 5 = .ok (.putfield 167, 3) := by decide +kernel
theorem dX9_read_8 : decode cX9_read 8 = .ok (.aload_n 0, 1) := by decide +kernel
theorem dX9_read_9 : decode cX9_read 9 = .ok (.aload_n 0, 1) := by decide +kernel
theorem dX9_read_10 : decode cX9_read 10 = .ok (.invokevirtual 173, 3) := by decide +kernel
theorem dX9_read_13 : decode cX9_read 13 = .ok (.ifCond .le 7, 3) := by decide +kernel
theorem dX9_read_16 : decode cX9_read 16 = .ok (.iconst 1, 1) := by decide +kernel
theorem dX9_read_17 : decode cX9_read 17 = .ok (.goto 4, 3) := by decide +kernel
theorem dX9_read_20 : decode cX9_read 20 = .ok (.iconst 0, 1) := by decide +kernel
theorem dX9_read_21 : decode cX9_read 21 = .ok (.putfield 176, 3) := by decide +kernel
theorem dX9_read_24 : decode cX9_read 24 = .ok (.aload_n 0, 1) := by decide +kernel
theorem dX9_read_25 : decode cX9_read 25 = .ok (.iconst (-1), 1) := by decide +kernel
theorem dX9_read_26 : decode cX9_read 26 = .ok (.putfield 179, 3) := by decide +kernel
theorem dX9_read_29 : decode cX9_read 29 = .ok (.aload_n 0, 1) := by decide +kernel
theorem dX9_read_30 : decode cX9_read 30 = .ok (.iconst 0, 1) := by decide +kernel
theorem dX9_read_31 : decode cX9_read 31 = .ok (.putfield 182, 3) := by decide +kernel
theorem dX9_read_34 : decode cX9_read 34 = .ok (.aload_n 0, 1) := by decide +kernel
theorem dX9_read_35 : decode cX9_read 35 = .ok (.lconst 0, 1) := by decide +kernel
theorem dX9_read_36 : decode cX9_read 36 = .ok (.putfield 185, 3) := by decide +kernel
theorem dX9_read_39 : decode cX9_read 39 = .ok (.aload_n 0, 1) := by decide +kernel
theorem dX9_read_40 : decode cX9_read 40 = .ok (.iconst 0, 1) := by decide +kernel
theorem dX9_read_41 : decode cX9_read 41 = .ok (.putfield 189, 3) := by decide +kernel
theorem dX9_read_44 : decode cX9_read 44 = .ok (.aload_n 0, 1) := by decide +kernel
theorem dX9_read_45 : decode cX9_read 45 = .ok (.iconst 0, 1) := by decide +kernel
theorem dX9_read_46 : decode cX9_read 46 = .ok (.putfield 192, 3) := by decide +kernel
theorem dX9_read_49 : decode cX9_read 49 = .ok (.aload_n 0, 1) := by decide +kernel
theorem dX9_read_50 : decode cX9_read 50 = .ok (.lconst 0, 1) := by decide +kernel
theorem dX9_read_51 : decode cX9_read 51 = .ok (.putfield 195, 3) := by decide +kernel
theorem dX9_read_54 : decode cX9_read 54 = .ok (.iconst 0, 1) := by decide +kernel
theorem dX9_read_55 : decode cX9_read 55 = .ok (.istore_n 1, 1) := by decide +kernel
theorem dX9_read_56 : decode cX9_read 56 = .ok (.iload_n 1, 1) := by decide +kernel
theorem dX9_read_57 : decode cX9_read 57 = .ok (.sipush 128, 3) := by decide +kernel
theorem dX9_read_60 : decode cX9_read 60 = .ok (.if_icmp .ge 30, 3) := by decide +kernel
theorem dX9_read_63 : decode cX9_read 63 = .ok (.aload_n 0, 1) := by decide +kernel
theorem dX9_read_64 : decode cX9_read 64 = .ok (.getfield 27, 3) := by decide +kernel
theorem dX9_read_67 : decode cX9_read 67 = .ok (.iload_n 1, 1) := by decide +kernel
theorem dX9_read_68 : decode cX9_read 68 = .ok (.lconst 0, 1) := by decide +kernel
theorem dX9_read_69 : decode cX9_read 69 = .ok (.lastore, 1) := by decide +kernel
theorem dX9_read_70 : decode cX9_read 70 = .ok (.aload_n 0, 1) := by decide +kernel
theorem dX9_read_71 : decode cX9_read 71 = .ok (.getfield 30, 3) := by decide +kernel
theorem dX9_read_74 : decode cX9_read 74 = .ok (.iload_n 1, 1) := by decide +kernel
theorem dX9_read_75 : decode cX9_read 75 = .ok (.iconst 0, 1) := by decide +kernel
theorem dX9_read_76 : decode cX9_read 76 = .ok (.bastore, 1) := by decide +kernel
theorem dX9_read_77 : decode cX9_read 77 = .ok (.aload_n 0, 1) := by decide +kernel
theorem dX9_read_78 : decode cX9_read 78 = .ok (.getfield 34, 3) := by decide +kernel
theorem dX9_read_81 : decode cX9_read 81 = .ok (.iload_n 1, 1) := by decide +kernel
theorem dX9_read_82 : decode cX9_read 82 = .ok (.iconst 0, 1) := by decide +kernel
theorem dX9_read_83 : decode cX9_read 83 = .ok (.bastore, 1) := by decide +kernel
theorem dX9_read_84 : decode cX9_read 84 = .ok (.iinc 1 1, 3) := by decide +kernel
theorem dX9_read_87 : decode cX9_read 87 = .ok (.goto (-31), 3) := by decide +kernel
theorem dX9_read_90 : decode cX9_read 90 = .ok (.iconst 0, 1) := by decide +kernel
theorem dX9_read_91 : decode cX9_read 91 = .ok (.istore_n 1, 1) := by decide +kernel
theorem dX9_read_92 : decode cX9_read 92 = .ok (.iload_n 1, 1) := by decide +kernel
theorem dX9_read_93 : decode cX9_read 93 = .ok (.aload_n 0, 1) := by decide +kernel
theorem dX9_read_94 : decode cX9_read 94 = .ok (.getfield 167, 3) := by decide +kernel
theorem dX9_read_97 : decode cX9_read 97 = .ok (.if_icmp .ge 64, 3) := by decide +kernel
theorem dX9_read_100 : decode cX9_read 100 = .ok (.aload_n 0, 1) := by decide +kernel
theorem dX9_read_101 : decode cX9_read 101 = .ok (.getfield 176, 3) := by decide +kernel
theorem dX9_read_104 : decode cX9_read 104 = .ok (.ifCond .ne 57, 3) := by decide +kernel
theorem dX9_read_107 : decode cX9_read 107 = .ok (.aload_n 0, 1) := by decide +kernel
theorem dX9_read_108 : decode cX9_read 108 = .ok (.iload_n 1, 1) := by decide +kernel
theorem dX9_read_109 : decode cX9_read 109 = .ok (.invokevirtual 170, 3) := by decide +kernel
theorem dX9_read_112 : decode cX9_read 112 = .ok (.istore_n 2, 1) := by decide +kernel
theorem dX9_read_113 : decode cX9_read 113 = .ok (.iload_n 2, 1) := by decide +kernel
theorem dX9_read_114 : decode cX9_read 114 = .ok (.iconst 1, 1) := by decide +kernel
theorem dX9_read_115 : decode cX9_read 115 = .ok (.if_icmp .ne 11, 3) := by decide +kernel
theorem dX9_read_118 : decode cX9_read 118 = .ok (.aload_n 0, 1) := by decide +kernel
theorem dX9_read_119 : decode cX9_read 119 = .ok (.iload_n 1, 1) := by decide +kernel
theorem dX9_read_120 : decode cX9_read 120 = .ok (.putfield 179, 3) := by decide +kernel
theorem dX9_read_123 : decode cX9_read 123 = .ok (.goto 32, 3) := by decide +kernel
theorem dX9_read_126 : decode cX9_read 126 = .ok (.iload_n 2, 1) := by decide +kernel
theorem dX9_read_127 : decode cX9_read 127 = .ok (.iconst 2, 1) := by decide +kernel
theorem dX9_read_128 : decode cX9_read 128 = .ok (.if_icmp .eq 8, 3) := by decide +kernel
theorem dX9_read_131 : decode cX9_read 131 = .ok (.iload_n 2, 1) := by decide +kernel
theorem dX9_read_132 : decode cX9_read 132 = .ok (.iconst 5, 1) := by decide +kernel
theorem dX9_read_133 : decode cX9_read 133 = .ok (.if_icmp .ne 12, 3) := by decide +kernel
theorem dX9_read_136 : decode cX9_read 136 = .ok (.aload_n 0, 1) := by decide +kernel
theorem dX9_read_137 : decode cX9_read 137 = .ok (.iload_n 1, 1) := by decide +kernel
theorem dX9_read_138 : decode cX9_read 138 = .ok (.iload_n 2, 1) := by decide +kernel
theorem dX9_read_139 : decode cX9_read 139 = .ok (.invokevirtual 198, 3) := by decide +kernel
theorem dX9_read_142 : decode cX9_read 142 = .ok (.goto 13, 3) := by decide +kernel
theorem dX9_read_145 : decode cX9_read 145 = .ok (.iload_n 2, 1) := by decide +kernel
theorem dX9_read_146 : decode cX9_read 146 = .ok (.iconst 4, 1) := by decide +kernel
theorem dX9_read_147 : decode cX9_read 147 = .ok (.if_icmp .ne 8, 3) := by decide +kernel
theorem dX9_read_150 : decode cX9_read 150 = .ok (.aload_n 0, 1) := by decide +kernel
theorem dX9_read_151 : decode cX9_read 151 = .ok (.iload_n 1, 1) := by decide +kernel
theorem dX9_read_152 : decode cX9_read 152 = .ok (.invokevirtual 201, 3) := by decide +kernel
theorem dX9_read_155 : decode cX9_read 155 = .ok (.iinc 1 1, 3) := by decide +kernel
theorem dX9_read_158 : decode cX9_read 158 = .ok (.goto (-66), 3) := by decide +kernel
theorem dX9_read_161 : decode cX9_read 161 = .ok (.return_, 1) := by decide +kernel
theorem dX9_group_0 : decode cX9_group 0 = .ok (.iload_n 2, 1) := by decide +kernel
theorem dX9_group_1 : decode cX9_group 1 = .ok (.iconst 5, 1) := by decide +kernel
theorem dX9_group_2 : decode cX9_group 2 = .ok (.if_icmp .ne 7, 3) := by decide +kernel
theorem dX9_group_5 : decode cX9_group 5 = .ok (.iload_n 1, 1) := by decide +kernel
theorem dX9_group_6 : decode cX9_group 6 = .ok (.ifCond .gt 30, 3) := by decide +kernel
theorem dX9_group_9 : decode cX9_group 9 = .ok (.aload_n 0, 1) := by decide +kernel
theorem dX9_group_10 : decode cX9_group 10 = .ok (.iload_n 1, 1) := by decide +kernel
theorem dX9_group_11 : decode cX9_group 11 = .ok (.invokevirtual 205, 3) := by decide +kernel
theorem dX9_group_14 : decode cX9_group 14 = .ok (.iconst 1, 1) := by decide +kernel
theorem dX9_group_15 : decode cX9_group 15 = .ok (.ldc 208, 2) := by decide +kernel
theorem dX9_group_17 : decode cX9_group 17 = .ok (.invokestatic 138, 3) := by decide +kernel
theorem dX9_group_20 : decode cX9_group 20 = .ok (.ifCond .eq 16, 3) := by decide +kernel
theorem dX9_group_23 : decode cX9_group 23 = .ok (.aload_n 0, 1) := by decide +kernel
theorem dX9_group_24 : decode cX9_group 24 = .ok (.iload_n 1, 1) := by decide +kernel
theorem dX9_group_25 : decode cX9_group 25 = .ok (.aload_n 0, 1) := by decide +kernel
theorem dX9_group_26 : decode cX9_group 26 = .ok (.iload_n 1, 1) := by decide +kernel
theorem dX9_group_27 : decode cX9_group 27 = .ok (.invokevirtual 209, 3) := by decide +kernel
theorem dX9_group_30 : decode cX9_group 30 = .ok (.invokevirtual 212, 3) := by decide +kernel
theorem dX9_group_33 : decode cX9_group 33 = .ok (.ifCond .ne 4, 3) := by decide +kernel
theorem dX9_group_36 : decode cX9_group 36 = .ok (.return_, 1) := by decide +kernel
theorem dX9_group_37 : decode cX9_group 37 = .ok (.aload_n 0, 1) := by decide +kernel
theorem dX9_group_38 : decode cX9_group 38 = .ok (.getfield 27, 3) := by decide +kernel
theorem dX9_group_41 : decode cX9_group 41 = .ok (.iload_n 1, 1) := by decide +kernel
theorem dX9_group_42 : decode cX9_group 42 = .ok (.iload_n 2, 1) := by decide +kernel
theorem dX9_group_43 : decode cX9_group 43 = .ok (.iconst 5, 1) := by decide +kernel
theorem dX9_group_44 : decode cX9_group 44 = .ok (.if_icmp .ne 11, 3) := by decide +kernel
theorem dX9_group_47 : decode cX9_group 47 = .ok (.aload_n 0, 1) := by decide +kernel
theorem dX9_group_48 : decode cX9_group 48 = .ok (.iload_n 1, 1) := by decide +kernel
theorem dX9_group_49 : decode cX9_group 49 = .ok (.invokevirtual 215, 3) := by decide +kernel
theorem dX9_group_52 : decode cX9_group 52 = .ok (.goto 8, 3) := by decide +kernel
theorem dX9_group_55 : decode cX9_group 55 = .ok (.aload_n 0, 1) := by decide +kernel
theorem dX9_group_56 : decode cX9_group 56 = .ok (.iload_n 1, 1) := by decide +kernel
theorem dX9_group_57 : decode cX9_group 57 = .ok (.invokevirtual 219, 3) := by decide +kernel
theorem dX9_group_60 : decode cX9_group 60 = .ok (.lastore, 1) := by decide +kernel
theorem dX9_group_61 : decode cX9_group 61 = .ok (.aload_n 0, 1) := by decide +kernel
theorem dX9_group_62 : decode cX9_group 62 = .ok (.getfield 27, 3) := by decide +kernel
theorem dX9_group_65 : decode cX9_group 65 = .ok (.iload_n 1, 1) := by decide +kernel
theorem dX9_group_66 : decode cX9_group 66 = .ok (.laload, 1) := by decide +kernel
theorem dX9_group_67 : decode cX9_group 67 = .ok (.lconst 0, 1) := by decide +kernel
theorem dX9_group_68 : decode cX9_group 68 = .ok (.lcmp, 1) := by decide +kernel
theorem dX9_group_69 : decode cX9_group 69 = .ok (.ifCond .ne 4, 3) := by decide +kernel
theorem dX9_group_72 : decode cX9_group 72 = .ok (.return_, 1) := by decide +kernel
theorem dX9_group_73 : decode cX9_group 73 = .ok (.aload_n 0, 1) := by decide +kernel
theorem dX9_group_74 : decode cX9_group 74 = .ok (.getfield 30, 3) := by decide +kernel
theorem dX9_group_77 : decode cX9_group 77 = .ok (.iload_n 1, 1) := by decide +kernel
theorem dX9_group_78 : decode cX9_group 78 = .ok (.iconst 1, 1) := by decide +kernel
theorem dX9_group_79 : decode cX9_group 79 = .ok (.bastore, 1) := by decide +kernel
theorem dX9_group_80 : decode cX9_group 80 = .ok (.iconst 1, 1) := by decide +kernel
theorem dX9_group_81 : decode cX9_group 81 = .ok (.istore_n 3, 1) := by decide +kernel
theorem dX9_group_82 : decode cX9_group 82 = .ok (.iconst 0, 1) := by decide +kernel
theorem dX9_group_83 : decode cX9_group 83 = .ok (.istore 4, 2) := by decide +kernel
theorem dX9_group_85 : decode cX9_group 85 = .ok (.iload 4, 2) := by decide +kernel
theorem dX9_group_87 : decode cX9_group 87 = .ok (.iload_n 1, 1) := by decide +kernel
theorem dX9_group_88 : decode cX9_group 88 = .ok (.if_icmp .ge 44, 3) := by decide +kernel
theorem dX9_group_91 : decode cX9_group 91 = .ok (.iload_n 3, 1) := by decide +kernel
theorem dX9_group_92 : decode cX9_group 92 = .ok (.aload_n 0, 1) := by decide +kernel
theorem dX9_group_93 : decode cX9_group 93 = .ok (.getfield 34, 3) := by decide +kernel
theorem dX9_group_96 : decode cX9_group 96 = .ok (.iload 4, 2) := by decide +kernel
theorem dX9_group_98 : decode cX9_group 98 = .ok (.baload, 1) := by decide +kernel
theorem dX9_group_99 : decode cX9_group 99 = .ok (.ifCond .eq 20, 3) := by decide +kernel
theorem dX9_group_102 : decode cX9_group 102 = .ok (.aload_n 0, 1) := by decide +kernel
theorem dX9_group_103 : decode cX9_group 103 = .ok (.getfield 27, 3) := by decide +kernel
theorem dX9_group_106 : decode cX9_group 106 = .ok (.iload 4, 2) := by decide +kernel
theorem dX9_group_108 : decode cX9_group 108 = .ok (.laload, 1) := by decide +kernel
theorem dX9_group_109 : decode cX9_group 109 = .ok (.aload_n 0, 1) := by decide +kernel
theorem dX9_group_110 : decode cX9_group 110 = .ok (.getfield 27, 3) := by decide +kernel
theorem dX9_group_113 : decode cX9_group 113 = .ok (.iload_n 1, 1) := by decide +kernel
theorem dX9_group_114 : decode cX9_group 114 = .ok (.laload, 1) := by decide +kernel
theorem dX9_group_115 : decode cX9_group 115 = .ok (.lcmp, 1) := by decide +kernel
theorem dX9_group_116 : decode cX9_group 116 = .ok (.ifCond .eq 7, 3) := by decide +kernel
theorem dX9_group_119 : decode cX9_group 119 = .ok (.iconst 1, 1) := by decide +kernel
theorem dX9_group_120 : decode cX9_group 120 = .ok (.goto 4, 3) := by decide +kernel
theorem dX9_group_123 : decode cX9_group 123 = .ok (.iconst 0, 1) := by decide +kernel
theorem dX9_group_124 : decode cX9_group 124 = .ok (.iand, 1) := by decide +kernel
theorem dX9_group_125 : decode cX9_group 125 = .ok (.istore_n 3, 1) := by decide +kernel
theorem dX9_group_126 : decode cX9_group 126 = .ok (.iinc 4 1, 3) := by decide +kernel
theorem dX9_group_129 : decode cX9_group 129 = .ok (.goto (-44), 3) := by decide +kernel
theorem dX9_group_132 : decode cX9_group 132 = .ok (.aload_n 0, 1) := by decide +kernel
theorem dX9_group_133 : decode cX9_group 133 = .ok (.getfield 34, 3) := by decide +kernel
theorem dX9_group_136 : decode cX9_group 136 = .ok (.iload_n 1, 1) := by decide +kernel
theorem dX9_group_137 : decode cX9_group 137 = .ok (.iload_n 3, 1) := by decide +kernel
theorem dX9_group_138 : decode cX9_group 138 = .ok (.bastore, 1) := by decide +kernel
theorem dX9_group_139 : decode cX9_group 139 = .ok (.iload_n 2, 1) := by decide +kernel
theorem dX9_group_140 : decode cX9_group 140 = .ok (.iconst 5, 1) := by decide +kernel
theorem dX9_group_141 : decode cX9_group 141 = .ok (.if_icmp .ne 42, 3) := by decide +kernel
theorem dX9_group_144 : decode cX9_group 144 = .ok (.aload_n 0, 1) := by decide +kernel
theorem dX9_group_145 : decode cX9_group 145 = .ok (.iconst 1, 1) := by decide +kernel
theorem dX9_group_146 : decode cX9_group 146 = .ok (.putfield 189, 3) := by decide +kernel
theorem dX9_group_149 : decode cX9_group 149 = .ok (.aload_n 0, 1) := by decide +kernel
theorem dX9_group_150 : decode cX9_group 150 = .ok (.aload_n 0, 1) := by decide +kernel
theorem dX9_group_151 : decode cX9_group 151 = .ok (.iload_n 1, 1) := by decide +kernel
theorem dX9_group_152 : decode cX9_group 152 = .ok (.invokevirtual 205, 3) := by decide +kernel
theorem dX9_group_155 : decode cX9_group 155 = .ok (.putfield 182, 3) := by decide +kernel
theorem dX9_group_158 : decode cX9_group 158 = .ok (.aload_n 0, 1) := by decide +kernel
theorem dX9_group_159 : decode cX9_group 159 = .ok (.aload_n 0, 1) := by decide +kernel
theorem dX9_group_160 : decode cX9_group 160 = .ok (.iload_n 1, 1) := by decide +kernel
theorem dX9_group_161 : decode cX9_group 161 = .ok (.invokevirtual 215, 3) := by decide +kernel
theorem dX9_group_164 : decode cX9_group 164 = .ok (.putfield 185, 3) := by decide +kernel
theorem dX9_group_167 : decode cX9_group 167 = .ok (.aload_n 0, 1) := by decide +kernel
theorem dX9_group_168 : decode cX9_group 168 = .ok (.aload_n 0, 1) := by decide +kernel
theorem dX9_group_169 : decode cX9_group 169 = .ok (.getfield 182, 3) := by decide +kernel
theorem dX9_group_172 : decode cX9_group 172 = .ok (.putfield 192, 3) := by decide +kernel
theorem dX9_group_175 : decode cX9_group 175 = .ok (.aload_n 0, 1) := by decide +kernel
theorem dX9_group_176 : decode cX9_group 176 = .ok (.aload_n 0, 1) := by decide +kernel
theorem dX9_group_177 : decode cX9_group 177 = .ok (.getfield 185, 3) := by decide +kernel
theorem dX9_group_180 : decode cX9_group 180 = .ok (.putfield 195, 3) := by decide +kernel
theorem dX9_group_183 : decode cX9_group 183 = .ok (.return_, 1) := by decide +kernel
theorem dX9_blockDigest_0 : decode cX9_blockDigest 0 = .ok (.aload_n 0, 1) := by decide +kernel
theorem dX9_blockDigest_1 : decode cX9_blockDigest 1 = .ok (.aload_n 0, 1) := by decide +kernel
theorem dX9_blockDigest_2 : decode cX9_blockDigest 2 = .ok (.ldc2_w 222, 3) := by decide +kernel
theorem dX9_blockDigest_5 : decode cX9_blockDigest 5 = .ok (.aload_n 0, 1) := by decide +kernel
theorem dX9_blockDigest_6 : decode cX9_blockDigest 6 = .ok (.iload_n 1, 1) := by decide +kernel
theorem dX9_blockDigest_7 : decode cX9_blockDigest 7 = .ok (.invokevirtual 205, 3) := by decide +kernel
theorem dX9_blockDigest_10 : decode cX9_blockDigest 10 = .ok (.i2l, 1) := by decide +kernel
theorem dX9_blockDigest_11 : decode cX9_blockDigest 11 = .ok (.iconst 4, 1) := by decide +kernel
theorem dX9_blockDigest_12 : decode cX9_blockDigest 12 = .ok (.invokevirtual 224, 3) := by decide +kernel
theorem dX9_blockDigest_15 : decode cX9_blockDigest 15 = .ok (.aload_n 0, 1) := by decide +kernel
theorem dX9_blockDigest_16 : decode cX9_blockDigest 16 = .ok (.iload_n 1, 1) := by decide +kernel
theorem dX9_blockDigest_17 : decode cX9_blockDigest 17 = .ok (.invokevirtual 215, 3) := by decide +kernel
theorem dX9_blockDigest_20 : decode cX9_blockDigest 20 = .ok (.bipush 8, 2) := by decide +kernel
theorem dX9_blockDigest_22 : decode cX9_blockDigest 22 = .ok (.invokevirtual 224, 3) := by decide +kernel
theorem dX9_blockDigest_25 : decode cX9_blockDigest 25 = .ok (.lstore_n 2, 1) := by decide +kernel
theorem dX9_blockDigest_26 : decode cX9_blockDigest 26 = .ok (.aload_n 0, 1) := by decide +kernel
theorem dX9_blockDigest_27 : decode cX9_blockDigest 27 = .ok (.iload_n 1, 1) := by decide +kernel
theorem dX9_blockDigest_28 : decode cX9_blockDigest 28 = .ok (.invokevirtual 209, 3) := by decide +kernel
theorem dX9_blockDigest_31 : decode cX9_blockDigest 31 = .ok (.istore 4, 2) := by decide +kernel
theorem dX9_blockDigest_33 : decode cX9_blockDigest 33 = .ok (.iconst 1, 1) := by decide +kernel
theorem dX9_blockDigest_34 : decode cX9_blockDigest 34 = .ok (.istore 5, 2) := by decide +kernel
theorem dX9_blockDigest_36 : decode cX9_blockDigest 36 = .ok (.iload 5, 2) := by decide +kernel
theorem dX9_blockDigest_38 : decode cX9_blockDigest 38 = .ok (.iload 4, 2) := by decide +kernel
theorem dX9_blockDigest_40 : decode cX9_blockDigest 40 = .ok (.if_icmp .gt 39, 3) := by decide +kernel
theorem dX9_blockDigest_43 : decode cX9_blockDigest 43 = .ok (.aload_n 0, 1) := by decide +kernel
theorem dX9_blockDigest_44 : decode cX9_blockDigest 44 = .ok (.aload_n 0, 1) := by decide +kernel
theorem dX9_blockDigest_45 : decode cX9_blockDigest 45 = .ok (.lload_n 2, 1) := by decide +kernel
theorem dX9_blockDigest_46 : decode cX9_blockDigest 46 = .ok (.aload_n 0, 1) := by decide +kernel
theorem dX9_blockDigest_47 : decode cX9_blockDigest 47 = .ok (.iload_n 1, 1) := by decide +kernel
theorem dX9_blockDigest_48 : decode cX9_blockDigest 48 = .ok (.iload 5, 2) := by decide +kernel
theorem dX9_blockDigest_50 : decode cX9_blockDigest 50 = .ok (.iadd, 1) := by decide +kernel
theorem dX9_blockDigest_51 : decode cX9_blockDigest 51 = .ok (.invokevirtual 205, 3) := by decide +kernel
theorem dX9_blockDigest_54 : decode cX9_blockDigest 54 = .ok (.i2l, 1) := by decide +kernel
theorem dX9_blockDigest_55 : decode cX9_blockDigest 55 = .ok (.iconst 4, 1) := by decide +kernel
theorem dX9_blockDigest_56 : decode cX9_blockDigest 56 = .ok (.invokevirtual 224, 3) := by decide +kernel
theorem dX9_blockDigest_59 : decode cX9_blockDigest 59 = .ok (.aload_n 0, 1) := by decide +kernel
theorem dX9_blockDigest_60 : decode cX9_blockDigest 60 = .ok (.iload_n 1, 1) := by decide +kernel
theorem dX9_blockDigest_61 : decode cX9_blockDigest 61 = .ok (.iload 5, 2) := by decide +kernel
theorem dX9_blockDigest_63 : decode cX9_blockDigest 63 = .ok (.iadd, 1) := by decide +kernel
theorem dX9_blockDigest_64 : decode cX9_blockDigest 64 = .ok (.invokevirtual 215, 3) := by decide +kernel
theorem dX9_blockDigest_67 : decode cX9_blockDigest 67 = .ok (.bipush 8, 2) := by decide +kernel
theorem dX9_blockDigest_69 : decode cX9_blockDigest 69 = .ok (.invokevirtual 224, 3) := by decide +kernel
theorem dX9_blockDigest_72 : decode cX9_blockDigest 72 = .ok (.lstore_n 2, 1) := by decide +kernel
theorem dX9_blockDigest_73 : decode cX9_blockDigest 73 = .ok (.iinc 5 1, 3) := by decide +kernel
theorem dX9_blockDigest_76 : decode cX9_blockDigest 76 = .ok (.goto (-40), 3) := by decide +kernel
theorem dX9_blockDigest_79 : decode cX9_blockDigest 79 = .ok (.lload_n 2, 1) := by decide +kernel
theorem dX9_blockDigest_80 : decode cX9_blockDigest 80 = .ok (.lreturn, 1) := by decide +kernel
theorem dX9_certificate_0 : decode cX9_certificate 0 = .ok (.aload_n 0, 1) := by decide +kernel
theorem dX9_certificate_1 : decode cX9_certificate 1 = .ok (.aload_n 0, 1) := by decide +kernel
theorem dX9_certificate_2 : decode cX9_certificate 2 = .ok (.iload_n 1, 1) := by decide +kernel
theorem dX9_certificate_3 : decode cX9_certificate 3 = .ok (.invokevirtual 215, 3) := by decide +kernel
theorem dX9_certificate_6 : decode cX9_certificate 6 = .ok (.iload_n 1, 1) := by decide +kernel
theorem dX9_certificate_7 : decode cX9_certificate 7 = .ok (.invokevirtual 228, 3) := by decide +kernel
theorem dX9_certificate_10 : decode cX9_certificate 10 = .ok (.istore_n 2, 1) := by decide +kernel
theorem dX9_certificate_11 : decode cX9_certificate 11 = .ok (.iload_n 2, 1) := by decide +kernel
theorem dX9_certificate_12 : decode cX9_certificate 12 = .ok (.iconst (-1), 1) := by decide +kernel
theorem dX9_certificate_13 : decode cX9_certificate 13 = .ok (.if_icmp .eq 11, 3) := by decide +kernel
theorem dX9_certificate_16 : decode cX9_certificate 16 = .ok (.aload_n 0, 1) := by decide +kernel
theorem dX9_certificate_17 : decode cX9_certificate 17 = .ok (.iload_n 2, 1) := by decide +kernel
theorem dX9_certificate_18 : decode cX9_certificate 18 = .ok (.invokevirtual 232, 3) := by decide +kernel
theorem dX9_certificate_21 : decode cX9_certificate 21 = .ok (.ifCond .ne 4, 3) := by decide +kernel
theorem dX9_certificate_24 : decode cX9_certificate 24 = .ok (.return_, 1) := by decide +kernel
theorem dX9_certificate_25 : decode cX9_certificate 25 = .ok (.aload_n 0, 1) := by decide +kernel
theorem dX9_certificate_26 : decode cX9_certificate 26 = .ok (.getfield 34, 3) := by decide +kernel
theorem dX9_certificate_29 : decode cX9_certificate 29 = .ok (.iload_n 1, 1) := by decide +kernel
theorem dX9_certificate_30 : decode cX9_certificate 30 = .ok (.iconst 1, 1) := by decide +kernel
theorem dX9_certificate_31 : decode cX9_certificate 31 = .ok (.bastore, 1) := by decide +kernel
theorem dX9_certificate_32 : decode cX9_certificate 32 = .ok (.aload_n 0, 1) := by decide +kernel
theorem dX9_certificate_33 : decode cX9_certificate 33 = .ok (.aload_n 0, 1) := by decide +kernel
theorem dX9_certificate_34 : decode cX9_certificate 34 = .ok (.iload_n 2, 1) := by decide +kernel
theorem dX9_certificate_35 : decode cX9_certificate 35 = .ok (.invokevirtual 205, 3) := by decide +kernel
theorem dX9_certificate_38 : decode cX9_certificate 38 = .ok (.putfield 192, 3) := by decide +kernel
theorem dX9_certificate_41 : decode cX9_certificate 41 = .ok (.aload_n 0, 1) := by decide +kernel
theorem dX9_certificate_42 : decode cX9_certificate 42 = .ok (.aload_n 0, 1) := by decide +kernel
theorem dX9_certificate_43 : decode cX9_certificate 43 = .ok (.getfield 27, 3) := by decide +kernel
theorem dX9_certificate_46 : decode cX9_certificate 46 = .ok (.iload_n 2, 1) := by decide +kernel
theorem dX9_certificate_47 : decode cX9_certificate 47 = .ok (.laload, 1) := by decide +kernel
theorem dX9_certificate_48 : decode cX9_certificate 48 = .ok (.putfield 195, 3) := by decide +kernel
theorem dX9_certificate_51 : decode cX9_certificate 51 = .ok (.aload_n 0, 1) := by decide +kernel
theorem dX9_certificate_52 : decode cX9_certificate 52 = .ok (.getfield 37, 3) := by decide +kernel
theorem dX9_certificate_55 : decode cX9_certificate 55 = .ok (.aload_n 0, 1) := by decide +kernel
theorem dX9_certificate_56 : decode cX9_certificate 56 = .ok (.getfield 192, 3) := by decide +kernel
theorem dX9_certificate_59 : decode cX9_certificate 59 = .ok (.aload_n 0, 1) := by decide +kernel
theorem dX9_certificate_60 : decode cX9_certificate 60 = .ok (.getfield 182, 3) := by decide +kernel
theorem dX9_certificate_63 : decode cX9_certificate 63 = .ok (.isub, 1) := by decide +kernel
theorem dX9_certificate_64 : decode cX9_certificate 64 = .ok (.iload_n 2, 1) := by decide +kernel
theorem dX9_certificate_65 : decode cX9_certificate 65 = .ok (.iastore, 1) := by decide +kernel
theorem dX9_certificate_66 : decode cX9_certificate 66 = .ok (.return_, 1) := by decide +kernel
theorem dX9_isNext_0 : decode cX9_isNext 0 = .ok (.aload_n 0, 1) := by decide +kernel
theorem dX9_isNext_1 : decode cX9_isNext 1 = .ok (.iload_n 1, 1) := by decide +kernel
theorem dX9_isNext_2 : decode cX9_isNext 2 = .ok (.invokevirtual 205, 3) := by decide +kernel
theorem dX9_isNext_5 : decode cX9_isNext 5 = .ok (.aload_n 0, 1) := by decide +kernel
theorem dX9_isNext_6 : decode cX9_isNext 6 = .ok (.getfield 192, 3) := by decide +kernel
theorem dX9_isNext_9 : decode cX9_isNext 9 = .ok (.iconst 1, 1) := by decide +kernel
theorem dX9_isNext_10 : decode cX9_isNext 10 = .ok (.iadd, 1) := by decide +kernel
theorem dX9_isNext_11 : decode cX9_isNext 11 = .ok (.if_icmp .ne 20, 3) := by decide +kernel
theorem dX9_isNext_14 : decode cX9_isNext 14 = .ok (.aload_n 0, 1) := by decide +kernel
theorem dX9_isNext_15 : decode cX9_isNext 15 = .ok (.iload_n 1, 1) := by decide +kernel
theorem dX9_isNext_16 : decode cX9_isNext 16 = .ok (.invokevirtual 215, 3) := by decide +kernel
theorem dX9_isNext_19 : decode cX9_isNext 19 = .ok (.aload_n 0, 1) := by decide +kernel
theorem dX9_isNext_20 : decode cX9_isNext 20 = .ok (.getfield 195, 3) := by decide +kernel
theorem dX9_isNext_23 : decode cX9_isNext 23 = .ok (.lcmp, 1) := by decide +kernel
theorem dX9_isNext_24 : decode cX9_isNext 24 = .ok (.ifCond .ne 7, 3) := by decide +kernel
theorem dX9_isNext_27 : decode cX9_isNext 27 = .ok (.iconst 1, 1) := by decide +kernel
theorem dX9_isNext_28 : decode cX9_isNext 28 = .ok (.goto 4, 3) := by decide +kernel
theorem dX9_isNext_31 : decode cX9_isNext 31 = .ok (.iconst 0, 1) := by decide +kernel
theorem dX9_isNext_32 : decode cX9_isNext 32 = .ok (.ireturn, 1) := by decide +kernel
theorem dX9_versionState_0 : decode cX9_versionState 0 = .ok (.iconst 0, 1) := by decide +kernel
theorem dX9_versionState_1 : decode cX9_versionState 1 = .ok (.istore_n 2, 1) := by decide +kernel
theorem dX9_versionState_2 : decode cX9_versionState 2 = .ok (.iload_n 2, 1) := by decide +kernel
theorem dX9_versionState_3 : decode cX9_versionState 3 = .ok (.bipush 16, 2) := by decide +kernel
theorem dX9_versionState_5 : decode cX9_versionState 5 = .ok (.if_icmp .ge 16, 3) := by decide +kernel
theorem dX9_versionState_8 : decode cX9_versionState 8 = .ok (.aload_n 0, 1) := by decide +kernel
theorem dX9_versionState_9 : decode cX9_versionState 9 = .ok (.getfield 40, 3) := by decide +kernel
theorem dX9_versionState_12 : decode cX9_versionState 12 = .ok (.iload_n 2, 1) := by decide +kernel
theorem dX9_versionState_13 : decode cX9_versionState 13 = .ok (.lconst 0, 1) := by decide +kernel
theorem dX9_versionState_14 : decode cX9_versionState 14 = .ok (.lastore, 1) := by decide +kernel
theorem dX9_versionState_15 : decode cX9_versionState 15 = .ok (.iinc 2 1, 3) := by decide +kernel
theorem dX9_versionState_18 : decode cX9_versionState 18 = .ok (.goto (-16), 3) := by decide +kernel
theorem dX9_versionState_21 : decode cX9_versionState 21 = .ok (.aload_n 0, 1) := by decide +kernel
theorem dX9_versionState_22 : decode cX9_versionState 22 = .ok (.getfield 189, 3) := by decide +kernel
theorem dX9_versionState_25 : decode cX9_versionState 25 = .ok (.ifCond .eq 8, 3) := by decide +kernel
theorem dX9_versionState_28 : decode cX9_versionState 28 = .ok (.aload_n 0, 1) := by decide +kernel
theorem dX9_versionState_29 : decode cX9_versionState 29 = .ok (.iconst 0, 1) := by decide +kernel
theorem dX9_versionState_30 : decode cX9_versionState 30 = .ok (.invokevirtual 235, 3) := by decide +kernel
theorem dX9_versionState_33 : decode cX9_versionState 33 = .ok (.iconst 1, 1) := by decide +kernel
theorem dX9_versionState_34 : decode cX9_versionState 34 = .ok (.istore_n 2, 1) := by decide +kernel
theorem dX9_versionState_35 : decode cX9_versionState 35 = .ok (.iload_n 2, 1) := by decide +kernel
theorem dX9_versionState_36 : decode cX9_versionState 36 = .ok (.iload_n 1, 1) := by decide +kernel
theorem dX9_versionState_37 : decode cX9_versionState 37 = .ok (.aload_n 0, 1) := by decide +kernel
theorem dX9_versionState_38 : decode cX9_versionState 38 = .ok (.getfield 182, 3) := by decide +kernel
theorem dX9_versionState_41 : decode cX9_versionState 41 = .ok (.isub, 1) := by decide +kernel
theorem dX9_versionState_42 : decode cX9_versionState 42 = .ok (.if_icmp .gt 19, 3) := by decide +kernel
theorem dX9_versionState_45 : decode cX9_versionState 45 = .ok (.aload_n 0, 1) := by decide +kernel
theorem dX9_versionState_46 : decode cX9_versionState 46 = .ok (.aload_n 0, 1) := by decide +kernel
theorem dX9_versionState_47 : decode cX9_versionState 47 = .ok (.getfield 37, 3) := by decide +kernel
theorem dX9_versionState_50 : decode cX9_versionState 50 = .ok (.iload_n 2, 1) := by decide +kernel
theorem dX9_versionState_51 : decode cX9_versionState 51 = .ok (.iaload, 1) := by decide +kernel
theorem dX9_versionState_52 : decode cX9_versionState 52 = .ok (.invokevirtual 235, 3) := by decide +kernel
theorem dX9_versionState_55 : decode cX9_versionState 55 = .ok (.iinc 2 1, 3) := by decide +kernel
theorem dX9_versionState_58 : decode cX9_versionState 58 = .ok (.goto (-23), 3) := by decide +kernel
theorem dX9_versionState_61 : decode cX9_versionState 61 = .ok (.return_, 1) := by decide +kernel
theorem dX9_changes_0 : decode cX9_changes 0 = .ok (.aload_n 0, 1) := by decide +kernel
theorem dX9_changes_1 : decode cX9_changes 1 = .ok (.iload_n 1, 1) := by decide +kernel
theorem dX9_changes_2 : decode cX9_changes 2 = .ok (.invokevirtual 209, 3) := by decide +kernel
theorem dX9_changes_5 : decode cX9_changes 5 = .ok (.istore_n 2, 1) := by decide +kernel
theorem dX9_changes_6 : decode cX9_changes 6 = .ok (.iconst 1, 1) := by decide +kernel
theorem dX9_changes_7 : decode cX9_changes 7 = .ok (.istore_n 3, 1) := by decide +kernel
theorem dX9_changes_8 : decode cX9_changes 8 = .ok (.iload_n 3, 1) := by decide +kernel
theorem dX9_changes_9 : decode cX9_changes 9 = .ok (.iload_n 2, 1) := by decide +kernel
theorem dX9_changes_10 : decode cX9_changes 10 = .ok (.if_icmp .gt 43, 3) := by decide +kernel
theorem dX9_changes_13 : decode cX9_changes 13 = .ok (.aload_n 0, 1) := by decide +kernel
theorem dX9_changes_14 : decode cX9_changes 14 = .ok (.iload_n 1, 1) := by decide +kernel
theorem dX9_changes_15 : decode cX9_changes 15 = .ok (.iload_n 3, 1) := by decide +kernel
theorem dX9_changes_16 : decode cX9_changes 16 = .ok (.iadd, 1) := by decide +kernel
theorem dX9_changes_17 : decode cX9_changes 17 = .ok (.invokevirtual 205, 3) := by decide +kernel
theorem dX9_changes_20 : decode cX9_changes 20 = .ok (.istore 4, 2) := by decide +kernel
theorem dX9_changes_22 : decode cX9_changes 22 = .ok (.iload 4, 2) := by decide +kernel
theorem dX9_changes_24 : decode cX9_changes 24 = .ok (.iconst 0, 1) := by decide +kernel
theorem dX9_changes_25 : decode cX9_changes 25 = .ok (.bipush 15, 2) := by decide +kernel
theorem dX9_changes_27 : decode cX9_changes 27 = .ok (.invokestatic 138, 3) := by decide +kernel
theorem dX9_changes_30 : decode cX9_changes 30 = .ok (.ifCond .eq 17, 3) := by decide +kernel
theorem dX9_changes_33 : decode cX9_changes 33 = .ok (.aload_n 0, 1) := by decide +kernel
theorem dX9_changes_34 : decode cX9_changes 34 = .ok (.getfield 40, 3) := by decide +kernel
theorem dX9_changes_37 : decode cX9_changes 37 = .ok (.iload 4, 2) := by decide +kernel
theorem dX9_changes_39 : decode cX9_changes 39 = .ok (.aload_n 0, 1) := by decide +kernel
theorem dX9_changes_40 : decode cX9_changes 40 = .ok (.iload_n 1, 1) := by decide +kernel
theorem dX9_changes_41 : decode cX9_changes 41 = .ok (.iload_n 3, 1) := by decide +kernel
theorem dX9_changes_42 : decode cX9_changes 42 = .ok (.iadd, 1) := by decide +kernel
theorem dX9_changes_43 : decode cX9_changes 43 = .ok (.invokevirtual 215, 3) := by decide +kernel
theorem dX9_changes_46 : decode cX9_changes 46 = .ok (.lastore, 1) := by decide +kernel
theorem dX9_changes_47 : decode cX9_changes 47 = .ok (.iinc 3 1, 3) := by decide +kernel
theorem dX9_changes_50 : decode cX9_changes 50 = .ok (.goto (-42), 3) := by decide +kernel
theorem dX9_changes_53 : decode cX9_changes 53 = .ok (.return_, 1) := by decide +kernel
theorem dX9_isKept_0 : decode cX9_isKept 0 = .ok (.aload_n 0, 1) := by decide +kernel
theorem dX9_isKept_1 : decode cX9_isKept 1 = .ok (.getfield 176, 3) := by decide +kernel
theorem dX9_isKept_4 : decode cX9_isKept 4 = .ok (.ifCond .ne 23, 3) := by decide +kernel
theorem dX9_isKept_7 : decode cX9_isKept 7 = .ok (.iload_n 1, 1) := by decide +kernel
theorem dX9_isKept_8 : decode cX9_isKept 8 = .ok (.aload_n 0, 1) := by decide +kernel
theorem dX9_isKept_9 : decode cX9_isKept 9 = .ok (.getfield 182, 3) := by decide +kernel
theorem dX9_isKept_12 : decode cX9_isKept 12 = .ok (.if_icmp .lt 15, 3) := by decide +kernel
theorem dX9_isKept_15 : decode cX9_isKept 15 = .ok (.iload_n 1, 1) := by decide +kernel
theorem dX9_isKept_16 : decode cX9_isKept 16 = .ok (.aload_n 0, 1) := by decide +kernel
theorem dX9_isKept_17 : decode cX9_isKept 17 = .ok (.getfield 192, 3) := by decide +kernel
theorem dX9_isKept_20 : decode cX9_isKept 20 = .ok (.if_icmp .gt 7, 3) := by decide +kernel
theorem dX9_isKept_23 : decode cX9_isKept 23 = .ok (.iconst 1, 1) := by decide +kernel
theorem dX9_isKept_24 : decode cX9_isKept 24 = .ok (.goto 4, 3) := by decide +kernel
theorem dX9_isKept_27 : decode cX9_isKept 27 = .ok (.iconst 0, 1) := by decide +kernel
theorem dX9_isKept_28 : decode cX9_isKept 28 = .ok (.ireturn, 1) := by decide +kernel
theorem dX9_versionDigest_0 : decode cX9_versionDigest 0 = .ok (.iload_n 1, 1) := by decide +kernel
theorem dX9_versionDigest_1 : decode cX9_versionDigest 1 = .ok (.aload_n 0, 1) := by decide +kernel
theorem dX9_versionDigest_2 : decode cX9_versionDigest 2 = .ok (.getfield 182, 3) := by decide +kernel
theorem dX9_versionDigest_5 : decode cX9_versionDigest 5 = .ok (.if_icmp .ne 10, 3) := by decide +kernel
theorem dX9_versionDigest_8 : decode cX9_versionDigest 8 = .ok (.aload_n 0, 1) := by decide +kernel
theorem dX9_versionDigest_9 : decode cX9_versionDigest 9 = .ok (.getfield 185, 3) := by decide +kernel
theorem dX9_versionDigest_12 : decode cX9_versionDigest 12 = .ok (.goto 19, 3) := by decide +kernel
theorem dX9_versionDigest_15 : decode cX9_versionDigest 15 = .ok (.aload_n 0, 1) := by decide +kernel
theorem dX9_versionDigest_16 : decode cX9_versionDigest 16 = .ok (.getfield 27, 3) := by decide +kernel
theorem dX9_versionDigest_19 : decode cX9_versionDigest 19 = .ok (.aload_n 0, 1) := by decide +kernel
theorem dX9_versionDigest_20 : decode cX9_versionDigest 20 = .ok (.getfield 37, 3) := by decide +kernel
theorem dX9_versionDigest_23 : decode cX9_versionDigest 23 = .ok (.iload_n 1, 1) := by decide +kernel
theorem dX9_versionDigest_24 : decode cX9_versionDigest 24 = .ok (.aload_n 0, 1) := by decide +kernel
theorem dX9_versionDigest_25 : decode cX9_versionDigest 25 = .ok (.getfield 182, 3) := by decide +kernel
theorem dX9_versionDigest_28 : decode cX9_versionDigest 28 = .ok (.isub, 1) := by decide +kernel
theorem dX9_versionDigest_29 : decode cX9_versionDigest 29 = .ok (.iaload, 1) := by decide +kernel
theorem dX9_versionDigest_30 : decode cX9_versionDigest 30 = .ok (.laload, 1) := by decide +kernel
theorem dX9_versionDigest_31 : decode cX9_versionDigest 31 = .ok (.lreturn, 1) := by decide +kernel
theorem dX9_name_0 : decode cX9_name 0 = .ok (.lload_n 1, 1) := by decide +kernel
theorem dX9_name_1 : decode cX9_name 1 = .ok (.lconst 0, 1) := by decide +kernel
theorem dX9_name_2 : decode cX9_name 2 = .ok (.lcmp, 1) := by decide +kernel
theorem dX9_name_3 : decode cX9_name 3 = .ok (.ifCond .ne 7, 3) := by decide +kernel
theorem dX9_name_6 : decode cX9_name 6 = .ok (.iconst 1, 1) := by decide +kernel
theorem dX9_name_7 : decode cX9_name 7 = .ok (.goto 4, 3) := by decide +kernel
theorem dX9_name_10 : decode cX9_name 10 = .ok (.iconst 0, 1) := by decide +kernel
theorem dX9_name_11 : decode cX9_name 11 = .ok (.istore_n 3, 1) := by decide +kernel
theorem dX9_name_12 : decode cX9_name 12 = .ok (.iconst 0, 1) := by decide +kernel
theorem dX9_name_13 : decode cX9_name 13 = .ok (.istore 4, 2) := by decide +kernel
theorem dX9_name_15 : decode cX9_name 15 = .ok (.iload 4, 2) := by decide +kernel
theorem dX9_name_17 : decode cX9_name 17 = .ok (.aload_n 0, 1) := by decide +kernel
theorem dX9_name_18 : decode cX9_name 18 = .ok (.getfield 241, 3) := by decide +kernel
theorem dX9_name_21 : decode cX9_name 21 = .ok (.if_icmp .ge 29, 3) := by decide +kernel
theorem dX9_name_24 : decode cX9_name 24 = .ok (.iload_n 3, 1) := by decide +kernel
theorem dX9_name_25 : decode cX9_name 25 = .ok (.aload_n 0, 1) := by decide +kernel
theorem dX9_name_26 : decode cX9_name 26 = .ok (.getfield 43, 3) := by decide +kernel
theorem dX9_name_29 : decode cX9_name 29 = .ok (.iload 4, 2) := by decide +kernel
theorem dX9_name_31 : decode cX9_name 31 = .ok (.laload, 1) := by decide +kernel
theorem dX9_name_32 : decode cX9_name 32 = .ok (.lload_n 1, 1) := by decide +kernel
theorem dX9_name_33 : decode cX9_name 33 = .ok (.lcmp, 1) := by decide +kernel
theorem dX9_name_34 : decode cX9_name 34 = .ok (.ifCond .ne 7, 3) := by decide +kernel
theorem dX9_name_37 : decode cX9_name 37 = .ok (.iconst 1, 1) := by decide +kernel
theorem dX9_name_38 : decode cX9_name 38 = .ok (.goto 4, 3) := by decide +kernel
theorem dX9_name_41 : decode cX9_name 41 = .ok (.iconst 0, 1) := by decide +kernel
theorem dX9_name_42 : decode cX9_name 42 = .ok (.ior, 1) := by decide +kernel
theorem dX9_name_43 : decode cX9_name 43 = .ok (.istore_n 3, 1) := by decide +kernel
theorem dX9_name_44 : decode cX9_name 44 = .ok (.iinc 4 1, 3) := by decide +kernel
theorem dX9_name_47 : decode cX9_name 47 = .ok (.goto (-32), 3) := by decide +kernel
theorem dX9_name_50 : decode cX9_name 50 = .ok (.iload_n 3, 1) := by decide +kernel
theorem dX9_name_51 : decode cX9_name 51 = .ok (.ifCond .ne 20, 3) := by decide +kernel
theorem dX9_name_54 : decode cX9_name 54 = .ok (.aload_n 0, 1) := by decide +kernel
theorem dX9_name_55 : decode cX9_name 55 = .ok (.getfield 43, 3) := by decide +kernel
theorem dX9_name_58 : decode cX9_name 58 = .ok (.aload_n 0, 1) := by decide +kernel
theorem dX9_name_59 : decode cX9_name 59 = .ok (.dup, 1) := by decide +kernel
theorem dX9_name_60 : decode cX9_name 60 = .ok (.getfield 241, 3) := by decide +kernel
theorem dX9_name_63 : decode cX9_name 63 = .ok (.dup_x1, 1) := by decide +kernel
theorem dX9_name_64 : decode cX9_name 64 = .ok (.iconst 1, 1) := by decide +kernel
theorem dX9_name_65 : decode cX9_name 65 = .ok (.iadd, 1) := by decide +kernel
theorem dX9_name_66 : decode cX9_name 66 = .ok (.putfield 241, 3) := by decide +kernel
theorem dX9_name_69 : decode cX9_name 69 = .ok (.lload_n 1, 1) := by decide +kernel
theorem dX9_name_70 : decode cX9_name 70 = .ok (.lastore, 1) := by decide +kernel
theorem dX9_name_71 : decode cX9_name 71 = .ok (.return_, 1) := by decide +kernel
theorem dX9_nameAll_0 : decode cX9_nameAll 0 = .ok (.aload_n 0, 1) := by decide +kernel
theorem dX9_nameAll_1 : decode cX9_nameAll 1 = .ok (.iconst 0, 1) := by decide +kernel
theorem dX9_nameAll_2 : decode cX9_nameAll 2 = .ok (.putfield 241, 3) := by decide +kernel
theorem dX9_nameAll_5 : decode cX9_nameAll 5 = .ok (.aload_n 0, 1) := by decide +kernel
theorem dX9_nameAll_6 : decode cX9_nameAll 6 = .ok (.getfield 182, 3) := by decide +kernel
theorem dX9_nameAll_9 : decode cX9_nameAll 9 = .ok (.istore_n 1, 1) := by decide +kernel
theorem dX9_nameAll_10 : decode cX9_nameAll 10 = .ok (.iload_n 1, 1) := by decide +kernel
theorem dX9_nameAll_11 : decode cX9_nameAll 11 = .ok (.aload_n 0, 1) := by decide +kernel
theorem dX9_nameAll_12 : decode cX9_nameAll 12 = .ok (.getfield 192, 3) := by decide +kernel
theorem dX9_nameAll_15 : decode cX9_nameAll 15 = .ok (.if_icmp .gt 38, 3) := by decide +kernel
theorem dX9_nameAll_18 : decode cX9_nameAll 18 = .ok (.aload_n 0, 1) := by decide +kernel
theorem dX9_nameAll_19 : decode cX9_nameAll 19 = .ok (.iload_n 1, 1) := by decide +kernel
theorem dX9_nameAll_20 : decode cX9_nameAll 20 = .ok (.invokevirtual 244, 3) := by decide +kernel
theorem dX9_nameAll_23 : decode cX9_nameAll 23 = .ok (.iconst 0, 1) := by decide +kernel
