theorem dX9_nameAll_24 : decode cX9_nameAll 24 = .ok (.istore_n 2, 1) := by decide +kernel
theorem dX9_nameAll_25 : decode cX9_nameAll 25 = .ok (.iload_n 2, 1) := by decide +kernel
theorem dX9_nameAll_26 : decode cX9_nameAll 26 = .ok (.bipush 16, 2) := by decide +kernel
theorem dX9_nameAll_28 : decode cX9_nameAll 28 = .ok (.if_icmp .ge 19, 3) := by decide +kernel
theorem dX9_nameAll_31 : decode cX9_nameAll 31 = .ok (.aload_n 0, 1) := by decide +kernel
theorem dX9_nameAll_32 : decode cX9_nameAll 32 = .ok (.aload_n 0, 1) := by decide +kernel
theorem dX9_nameAll_33 : decode cX9_nameAll 33 = .ok (.getfield 40, 3) := by decide +kernel
theorem dX9_nameAll_36 : decode cX9_nameAll 36 = .ok (.iload_n 2, 1) := by decide +kernel
theorem dX9_nameAll_37 : decode cX9_nameAll 37 = .ok (.laload, 1) := by decide +kernel
theorem dX9_nameAll_38 : decode cX9_nameAll 38 = .ok (.invokevirtual 247, 3) := by decide +kernel
theorem dX9_nameAll_41 : decode cX9_nameAll 41 = .ok (.iinc 2 1, 3) := by decide +kernel
theorem dX9_nameAll_44 : decode cX9_nameAll 44 = .ok (.goto (-19), 3) := by decide +kernel
theorem dX9_nameAll_47 : decode cX9_nameAll 47 = .ok (.iinc 1 1, 3) := by decide +kernel
theorem dX9_nameAll_50 : decode cX9_nameAll 50 = .ok (.goto (-40), 3) := by decide +kernel
theorem dX9_nameAll_53 : decode cX9_nameAll 53 = .ok (.iconst 0, 1) := by decide +kernel
theorem dX9_nameAll_54 : decode cX9_nameAll 54 = .ok (.istore_n 1, 1) := by decide +kernel
theorem dX9_nameAll_55 : decode cX9_nameAll 55 = .ok (.iload_n 1, 1) := by decide +kernel
theorem dX9_nameAll_56 : decode cX9_nameAll 56 = .ok (.aload_n 0, 1) := by decide +kernel
theorem dX9_nameAll_57 : decode cX9_nameAll 57 = .ok (.getfield 167, 3) := by decide +kernel
theorem dX9_nameAll_60 : decode cX9_nameAll 60 = .ok (.if_icmp .ge 55, 3) := by decide +kernel
theorem dX9_nameAll_63 : decode cX9_nameAll 63 = .ok (.aload_n 0, 1) := by decide +kernel
theorem dX9_nameAll_64 : decode cX9_nameAll 64 = .ok (.getfield 30, 3) := by decide +kernel
theorem dX9_nameAll_67 : decode cX9_nameAll 67 = .ok (.iload_n 1, 1) := by decide +kernel
theorem dX9_nameAll_68 : decode cX9_nameAll 68 = .ok (.baload, 1) := by decide +kernel
theorem dX9_nameAll_69 : decode cX9_nameAll 69 = .ok (.ifCond .eq 40, 3) := by decide +kernel
theorem dX9_nameAll_72 : decode cX9_nameAll 72 = .ok (.aload_n 0, 1) := by decide +kernel
theorem dX9_nameAll_73 : decode cX9_nameAll 73 = .ok (.iload_n 1, 1) := by decide +kernel
theorem dX9_nameAll_74 : decode cX9_nameAll 74 = .ok (.invokevirtual 170, 3) := by decide +kernel
theorem dX9_nameAll_77 : decode cX9_nameAll 77 = .ok (.iconst 2, 1) := by decide +kernel
theorem dX9_nameAll_78 : decode cX9_nameAll 78 = .ok (.if_icmp .ne 31, 3) := by decide +kernel
theorem dX9_nameAll_81 : decode cX9_nameAll 81 = .ok (.iconst 1, 1) := by decide +kernel
theorem dX9_nameAll_82 : decode cX9_nameAll 82 = .ok (.istore_n 2, 1) := by decide +kernel
theorem dX9_nameAll_83 : decode cX9_nameAll 83 = .ok (.iload_n 2, 1) := by decide +kernel
theorem dX9_nameAll_84 : decode cX9_nameAll 84 = .ok (.aload_n 0, 1) := by decide +kernel
theorem dX9_nameAll_85 : decode cX9_nameAll 85 = .ok (.iload_n 1, 1) := by decide +kernel
theorem dX9_nameAll_86 : decode cX9_nameAll 86 = .ok (.invokevirtual 209, 3) := by decide +kernel
theorem dX9_nameAll_89 : decode cX9_nameAll 89 = .ok (.if_icmp .gt 20, 3) := by decide +kernel
theorem dX9_nameAll_92 : decode cX9_nameAll 92 = .ok (.aload_n 0, 1) := by decide +kernel
theorem dX9_nameAll_93 : decode cX9_nameAll 93 = .ok (.aload_n 0, 1) := by decide +kernel
theorem dX9_nameAll_94 : decode cX9_nameAll 94 = .ok (.iload_n 1, 1) := by decide +kernel
theorem dX9_nameAll_95 : decode cX9_nameAll 95 = .ok (.iload_n 2, 1) := by decide +kernel
theorem dX9_nameAll_96 : decode cX9_nameAll 96 = .ok (.iadd, 1) := by decide +kernel
theorem dX9_nameAll_97 : decode cX9_nameAll 97 = .ok (.invokevirtual 215, 3) := by decide +kernel
theorem dX9_nameAll_100 : decode cX9_nameAll 100 = .ok (.invokevirtual 247, 3) := by decide +kernel
theorem dX9_nameAll_103 : decode cX9_nameAll 103 = .ok (.iinc 2 1, 3) := by decide +kernel
theorem dX9_nameAll_106 : decode cX9_nameAll 106 = .ok (.goto (-23), 3) := by decide +kernel
theorem dX9_nameAll_109 : decode cX9_nameAll 109 = .ok (.iinc 1 1, 3) := by decide +kernel
theorem dX9_nameAll_112 : decode cX9_nameAll 112 = .ok (.goto (-57), 3) := by decide +kernel
theorem dX9_nameAll_115 : decode cX9_nameAll 115 = .ok (.return_, 1) := by decide +kernel
theorem dX9_meant_0 : decode cX9_meant 0 = .ok (.lload_n 1, 1) := by decide +kernel
theorem dX9_meant_1 : decode cX9_meant 1 = .ok (.ldc2_w 296, 3) := by decide +kernel
theorem dX9_meant_4 : decode cX9_meant 4 = .ok (.lcmp, 1) := by decide +kernel
theorem dX9_meant_5 : decode cX9_meant 5 = .ok (.ifCond .lt 46, 3) := by decide +kernel
theorem dX9_meant_8 : decode cX9_meant 8 = .ok (.lload_n 1, 1) := by decide +kernel
theorem dX9_meant_9 : decode cX9_meant 9 = .ok (.ldc2_w 298, 3) := by decide +kernel
theorem dX9_meant_12 : decode cX9_meant 12 = .ok (.lcmp, 1) := by decide +kernel
theorem dX9_meant_13 : decode cX9_meant 13 = .ok (.ifCond .gt 38, 3) := by decide +kernel
theorem dX9_meant_16 : decode cX9_meant 16 = .ok (.ldc2_w 298, 3) := by decide +kernel
theorem dX9_meant_19 : decode cX9_meant 19 = .ok (.lload_n 1, 1) := by decide +kernel
theorem dX9_meant_20 : decode cX9_meant 20 = .ok (.lsub, 1) := by decide +kernel
theorem dX9_meant_21 : decode cX9_meant 21 = .ok (.l2i, 1) := by decide +kernel
theorem dX9_meant_22 : decode cX9_meant 22 = .ok (.istore_n 3, 1) := by decide +kernel
theorem dX9_meant_23 : decode cX9_meant 23 = .ok (.iload_n 3, 1) := by decide +kernel
theorem dX9_meant_24 : decode cX9_meant 24 = .ok (.aload_n 0, 1) := by decide +kernel
theorem dX9_meant_25 : decode cX9_meant 25 = .ok (.getfield 167, 3) := by decide +kernel
theorem dX9_meant_28 : decode cX9_meant 28 = .ok (.if_icmp .ge 21, 3) := by decide +kernel
theorem dX9_meant_31 : decode cX9_meant 31 = .ok (.aload_n 0, 1) := by decide +kernel
theorem dX9_meant_32 : decode cX9_meant 32 = .ok (.getfield 30, 3) := by decide +kernel
theorem dX9_meant_35 : decode cX9_meant 35 = .ok (.iload_n 3, 1) := by decide +kernel
theorem dX9_meant_36 : decode cX9_meant 36 = .ok (.baload, 1) := by decide +kernel
theorem dX9_meant_37 : decode cX9_meant 37 = .ok (.ifCond .eq 12, 3) := by decide +kernel
theorem dX9_meant_40 : decode cX9_meant 40 = .ok (.aload_n 0, 1) := by decide +kernel
theorem dX9_meant_41 : decode cX9_meant 41 = .ok (.getfield 27, 3) := by decide +kernel
theorem dX9_meant_44 : decode cX9_meant 44 = .ok (.iload_n 3, 1) := by decide +kernel
theorem dX9_meant_45 : decode cX9_meant 45 = .ok (.laload, 1) := by decide +kernel
theorem dX9_meant_46 : decode cX9_meant 46 = .ok (.goto 4, 3) := by decide +kernel
theorem dX9_meant_49 : decode cX9_meant 49 = .ok (.lconst 0, 1) := by decide +kernel
theorem dX9_meant_50 : decode cX9_meant 50 = .ok (.lreturn, 1) := by decide +kernel
theorem dX9_meant_51 : decode cX9_meant 51 = .ok (.lload_n 1, 1) := by decide +kernel
theorem dX9_meant_52 : decode cX9_meant 52 = .ok (.lreturn, 1) := by decide +kernel
theorem dX9_isKeptBlock_0 : decode cX9_isKeptBlock 0 = .ok (.iconst 0, 1) := by decide +kernel
theorem dX9_isKeptBlock_1 : decode cX9_isKeptBlock 1 = .ok (.istore_n 3, 1) := by decide +kernel
theorem dX9_isKeptBlock_2 : decode cX9_isKeptBlock 2 = .ok (.iload_n 3, 1) := by decide +kernel
theorem dX9_isKeptBlock_3 : decode cX9_isKeptBlock 3 = .ok (.aload_n 0, 1) := by decide +kernel
theorem dX9_isKeptBlock_4 : decode cX9_isKeptBlock 4 = .ok (.getfield 328, 3) := by decide +kernel
theorem dX9_isKeptBlock_7 : decode cX9_isKeptBlock 7 = .ok (.if_icmp .ge 41, 3) := by decide +kernel
theorem dX9_isKeptBlock_10 : decode cX9_isKeptBlock 10 = .ok (.aload_n 0, 1) := by decide +kernel
theorem dX9_isKeptBlock_11 : decode cX9_isKeptBlock 11 = .ok (.aload_n 0, 1) := by decide +kernel
theorem dX9_isKeptBlock_12 : decode cX9_isKeptBlock 12 = .ok (.getfield 46, 3) := by decide +kernel
theorem dX9_isKeptBlock_15 : decode cX9_isKeptBlock 15 = .ok (.iload_n 3, 1) := by decide +kernel
theorem dX9_isKeptBlock_16 : decode cX9_isKeptBlock 16 = .ok (.iaload, 1) := by decide +kernel
theorem dX9_isKeptBlock_17 : decode cX9_isKeptBlock 17 = .ok (.invokevirtual 170, 3) := by decide +kernel
theorem dX9_isKeptBlock_20 : decode cX9_isKeptBlock 20 = .ok (.iconst 2, 1) := by decide +kernel
theorem dX9_isKeptBlock_21 : decode cX9_isKeptBlock 21 = .ok (.if_icmp .ne 21, 3) := by decide +kernel
theorem dX9_isKeptBlock_24 : decode cX9_isKeptBlock 24 = .ok (.aload_n 0, 1) := by decide +kernel
theorem dX9_isKeptBlock_25 : decode cX9_isKeptBlock 25 = .ok (.getfield 27, 3) := by decide +kernel
theorem dX9_isKeptBlock_28 : decode cX9_isKeptBlock 28 = .ok (.aload_n 0, 1) := by decide +kernel
theorem dX9_isKeptBlock_29 : decode cX9_isKeptBlock 29 = .ok (.getfield 46, 3) := by decide +kernel
theorem dX9_isKeptBlock_32 : decode cX9_isKeptBlock 32 = .ok (.iload_n 3, 1) := by decide +kernel
theorem dX9_isKeptBlock_33 : decode cX9_isKeptBlock 33 = .ok (.iaload, 1) := by decide +kernel
theorem dX9_isKeptBlock_34 : decode cX9_isKeptBlock 34 = .ok (.laload, 1) := by decide +kernel
theorem dX9_isKeptBlock_35 : decode cX9_isKeptBlock 35 = .ok (.lload_n 1, 1) := by decide +kernel
theorem dX9_isKeptBlock_36 : decode cX9_isKeptBlock 36 = .ok (.lcmp, 1) := by decide +kernel
theorem dX9_isKeptBlock_37 : decode cX9_isKeptBlock 37 = .ok (.ifCond .ne 5, 3) := by decide +kernel
theorem dX9_isKeptBlock_40 : decode cX9_isKeptBlock 40 = .ok (.iconst 1, 1) := by decide +kernel
theorem dX9_isKeptBlock_41 : decode cX9_isKeptBlock 41 = .ok (.ireturn, 1) := by decide +kernel
theorem dX9_isKeptBlock_42 : decode cX9_isKeptBlock 42 = .ok (.iinc 3 1, 3) := by decide +kernel
theorem dX9_isKeptBlock_45 : decode cX9_isKeptBlock 45 = .ok (.goto (-43), 3) := by decide +kernel
theorem dX9_isKeptBlock_48 : decode cX9_isKeptBlock 48 = .ok (.iconst 0, 1) := by decide +kernel
theorem dX9_isKeptBlock_49 : decode cX9_isKeptBlock 49 = .ok (.ireturn, 1) := by decide +kernel
theorem dX9_keepRows_0 : decode cX9_keepRows 0 = .ok (.aload_n 0, 1) := by decide +kernel
theorem dX9_keepRows_1 : decode cX9_keepRows 1 = .ok (.iconst 0, 1) := by decide +kernel
theorem dX9_keepRows_2 : decode cX9_keepRows 2 = .ok (.putfield 328, 3) := by decide +kernel
theorem dX9_keepRows_5 : decode cX9_keepRows 5 = .ok (.iconst 0, 1) := by decide +kernel
theorem dX9_keepRows_6 : decode cX9_keepRows 6 = .ok (.istore 4, 2) := by decide +kernel
theorem dX9_keepRows_8 : decode cX9_keepRows 8 = .ok (.iload 4, 2) := by decide +kernel
theorem dX9_keepRows_10 : decode cX9_keepRows 10 = .ok (.aload_n 0, 1) := by decide +kernel
theorem dX9_keepRows_11 : decode cX9_keepRows 11 = .ok (.getfield 167, 3) := by decide +kernel
theorem dX9_keepRows_14 : decode cX9_keepRows 14 = .ok (.if_icmp .ge 180, 3) := by decide +kernel
theorem dX9_keepRows_17 : decode cX9_keepRows 17 = .ok (.aload_n 0, 1) := by decide +kernel
theorem dX9_keepRows_18 : decode cX9_keepRows 18 = .ok (.iload 4, 2) := by decide +kernel
theorem dX9_keepRows_20 : decode cX9_keepRows 20 = .ok (.invokevirtual 170, 3) := by decide +kernel
theorem dX9_keepRows_23 : decode cX9_keepRows 23 = .ok (.istore 5, 2) := by decide +kernel
theorem dX9_keepRows_25 : decode cX9_keepRows 25 = .ok (.iload 5, 2) := by decide +kernel
theorem dX9_keepRows_27 : decode cX9_keepRows 27 = .ok (.iconst 2, 1) := by decide +kernel
theorem dX9_keepRows_28 : decode cX9_keepRows 28 = .ok (.if_icmp .ne 95, 3) := by decide +kernel
theorem dX9_keepRows_31 : decode cX9_keepRows 31 = .ok (.aload_n 0, 1) := by decide +kernel
theorem dX9_keepRows_32 : decode cX9_keepRows 32 = .ok (.getfield 34, 3) := by decide +kernel
theorem dX9_keepRows_35 : decode cX9_keepRows 35 = .ok (.iload 4, 2) := by decide +kernel
theorem dX9_keepRows_37 : decode cX9_keepRows 37 = .ok (.baload, 1) := by decide +kernel
theorem dX9_keepRows_38 : decode cX9_keepRows 38 = .ok (.ifCond .eq 85, 3) := by decide +kernel
theorem dX9_keepRows_41 : decode cX9_keepRows 41 = .ok (.aload_n 0, 1) := by decide +kernel
theorem dX9_keepRows_42 : decode cX9_keepRows 42 = .ok (.iload 4, 2) := by decide +kernel
theorem dX9_keepRows_44 : decode cX9_keepRows 44 = .ok (.invokevirtual 205, 3) := by decide +kernel
theorem dX9_keepRows_47 : decode cX9_keepRows 47 = .ok (.iload_n 1, 1) := by decide +kernel
theorem dX9_keepRows_48 : decode cX9_keepRows 48 = .ok (.if_icmp .le 75, 3) := by decide +kernel
theorem dX9_keepRows_51 : decode cX9_keepRows 51 = .ok (.aload_n 0, 1) := by decide +kernel
theorem dX9_keepRows_52 : decode cX9_keepRows 52 = .ok (.iload 4, 2) := by decide +kernel
theorem dX9_keepRows_54 : decode cX9_keepRows 54 = .ok (.invokevirtual 215, 3) := by decide +kernel
theorem dX9_keepRows_57 : decode cX9_keepRows 57 = .ok (.lload_n 2, 1) := by decide +kernel
theorem dX9_keepRows_58 : decode cX9_keepRows 58 = .ok (.lcmp, 1) := by decide +kernel
theorem dX9_keepRows_59 : decode cX9_keepRows 59 = .ok (.ifCond .eq 16, 3) := by decide +kernel
theorem dX9_keepRows_62 : decode cX9_keepRows 62 = .ok (.aload_n 0, 1) := by decide +kernel
theorem dX9_keepRows_63 : decode cX9_keepRows 63 = .ok (.aload_n 0, 1) := by decide +kernel
theorem dX9_keepRows_64 : decode cX9_keepRows 64 = .ok (.iload 4, 2) := by decide +kernel
theorem dX9_keepRows_66 : decode cX9_keepRows 66 = .ok (.invokevirtual 215, 3) := by decide +kernel
theorem dX9_keepRows_69 : decode cX9_keepRows 69 = .ok (.invokevirtual 331, 3) := by decide +kernel
theorem dX9_keepRows_72 : decode cX9_keepRows 72 = .ok (.ifCond .eq 51, 3) := by decide +kernel
theorem dX9_keepRows_75 : decode cX9_keepRows 75 = .ok (.aload_n 0, 1) := by decide +kernel
theorem dX9_keepRows_76 : decode cX9_keepRows 76 = .ok (.iload 4, 2) := by decide +kernel
theorem dX9_keepRows_78 : decode cX9_keepRows 78 = .ok (.invokevirtual 209, 3) := by decide +kernel
theorem dX9_keepRows_81 : decode cX9_keepRows 81 = .ok (.istore 6, 2) := by decide +kernel
theorem dX9_keepRows_83 : decode cX9_keepRows 83 = .ok (.iconst 0, 1) := by decide +kernel
theorem dX9_keepRows_84 : decode cX9_keepRows 84 = .ok (.istore 7, 2) := by decide +kernel
theorem dX9_keepRows_86 : decode cX9_keepRows 86 = .ok (.iload 7, 2) := by decide +kernel
theorem dX9_keepRows_88 : decode cX9_keepRows 88 = .ok (.iload 6, 2) := by decide +kernel
theorem dX9_keepRows_90 : decode cX9_keepRows 90 = .ok (.if_icmp .gt 30, 3) := by decide +kernel
theorem dX9_keepRows_93 : decode cX9_keepRows 93 = .ok (.aload_n 0, 1) := by decide +kernel
theorem dX9_keepRows_94 : decode cX9_keepRows 94 = .ok (.getfield 46, 3) := by decide +kernel
theorem dX9_keepRows_97 : decode cX9_keepRows 97 = .ok (.aload_n 0, 1) := by decide +kernel
theorem dX9_keepRows_98 : decode cX9_keepRows 98 = .ok (.dup, 1) := by decide +kernel
theorem dX9_keepRows_99 : decode cX9_keepRows 99 = .ok (.getfield 328, 3) := by decide +kernel
theorem dX9_keepRows_102 : decode cX9_keepRows 102 = .ok (.dup_x1, 1) := by decide +kernel
theorem dX9_keepRows_103 : decode cX9_keepRows 103 = .ok (.iconst 1, 1) := by decide +kernel
theorem dX9_keepRows_104 : decode cX9_keepRows 104 = .ok (.iadd, 1) := by decide +kernel
theorem dX9_keepRows_105 : decode cX9_keepRows 105 = .ok (.putfield 328, 3) := by decide +kernel
theorem dX9_keepRows_108 : decode cX9_keepRows 108 = .ok (.iload 4, 2) := by decide +kernel
theorem dX9_keepRows_110 : decode cX9_keepRows 110 = .ok (.iload 7, 2) := by decide +kernel
theorem dX9_keepRows_112 : decode cX9_keepRows 112 = .ok (.iadd, 1) := by decide +kernel
theorem dX9_keepRows_113 : decode cX9_keepRows 113 = .ok (.iastore, 1) := by decide +kernel
theorem dX9_keepRows_114 : decode cX9_keepRows 114 = .ok (.iinc 7 1, 3) := by decide +kernel
theorem dX9_keepRows_117 : decode cX9_keepRows 117 = .ok (.goto (-31), 3) := by decide +kernel
theorem dX9_keepRows_120 : decode cX9_keepRows 120 = .ok (.goto 68, 3) := by decide +kernel
theorem dX9_keepRows_123 : decode cX9_keepRows 123 = .ok (.iload 5, 2) := by decide +kernel
theorem dX9_keepRows_125 : decode cX9_keepRows 125 = .ok (.iconst 4, 1) := by decide +kernel
theorem dX9_keepRows_126 : decode cX9_keepRows 126 = .ok (.if_icmp .ne 35, 3) := by decide +kernel
theorem dX9_keepRows_129 : decode cX9_keepRows 129 = .ok (.aload_n 0, 1) := by decide +kernel
theorem dX9_keepRows_130 : decode cX9_keepRows 130 = .ok (.getfield 34, 3) := by decide +kernel
theorem dX9_keepRows_133 : decode cX9_keepRows 133 = .ok (.iload 4, 2) := by decide +kernel
theorem dX9_keepRows_135 : decode cX9_keepRows 135 = .ok (.baload, 1) := by decide +kernel
theorem dX9_keepRows_136 : decode cX9_keepRows 136 = .ok (.ifCond .eq 25, 3) := by decide +kernel
theorem dX9_keepRows_139 : decode cX9_keepRows 139 = .ok (.aload_n 0, 1) := by decide +kernel
theorem dX9_keepRows_140 : decode cX9_keepRows 140 = .ok (.aload_n 0, 1) := by decide +kernel
theorem dX9_keepRows_141 : decode cX9_keepRows 141 = .ok (.aload_n 0, 1) := by decide +kernel
theorem dX9_keepRows_142 : decode cX9_keepRows 142 = .ok (.iload 4, 2) := by decide +kernel
theorem dX9_keepRows_144 : decode cX9_keepRows 144 = .ok (.invokevirtual 215, 3) := by decide +kernel
theorem dX9_keepRows_147 : decode cX9_keepRows 147 = .ok (.aload_n 0, 1) := by decide +kernel
theorem dX9_keepRows_148 : decode cX9_keepRows 148 = .ok (.getfield 167, 3) := by decide +kernel
theorem dX9_keepRows_151 : decode cX9_keepRows 151 = .ok (.invokevirtual 228, 3) := by decide +kernel
theorem dX9_keepRows_154 : decode cX9_keepRows 154 = .ok (.invokevirtual 205, 3) := by decide +kernel
theorem dX9_keepRows_157 : decode cX9_keepRows 157 = .ok (.iload_n 1, 1) := by decide +kernel
theorem dX9_keepRows_158 : decode cX9_keepRows 158 = .ok (.if_icmp .gt 12, 3) := by decide +kernel
theorem dX9_keepRows_161 : decode cX9_keepRows 161 = .ok (.iload 4, 2) := by decide +kernel
theorem dX9_keepRows_163 : decode cX9_keepRows 163 = .ok (.aload_n 0, 1) := by decide +kernel
theorem dX9_keepRows_164 : decode cX9_keepRows 164 = .ok (.getfield 179, 3) := by decide +kernel
theorem dX9_keepRows_167 : decode cX9_keepRows 167 = .ok (.if_icmp .ne 21, 3) := by decide +kernel
theorem dX9_keepRows_170 : decode cX9_keepRows 170 = .ok (.aload_n 0, 1) := by decide +kernel
theorem dX9_keepRows_171 : decode cX9_keepRows 171 = .ok (.getfield 46, 3) := by decide +kernel
theorem dX9_keepRows_174 : decode cX9_keepRows 174 = .ok (.aload_n 0, 1) := by decide +kernel
theorem dX9_keepRows_175 : decode cX9_keepRows 175 = .ok (.dup, 1) := by decide +kernel
theorem dX9_keepRows_176 : decode cX9_keepRows 176 = .ok (.getfield 328, 3) := by decide +kernel
theorem dX9_keepRows_179 : decode cX9_keepRows 179 = .ok (.dup_x1, 1) := by decide +kernel
theorem dX9_keepRows_180 : decode cX9_keepRows 180 = .ok (.iconst 1, 1) := by decide +kernel
theorem dX9_keepRows_181 : decode cX9_keepRows 181 = .ok (.iadd, 1) := by decide +kernel
theorem dX9_keepRows_182 : decode cX9_keepRows 182 = .ok (.putfield 328, 3) := by decide +kernel
theorem dX9_keepRows_185 : decode cX9_keepRows 185 = .ok (.iload 4, 2) := by decide +kernel
theorem dX9_keepRows_187 : decode cX9_keepRows 187 = .ok (.iastore, 1) := by decide +kernel
theorem dX9_keepRows_188 : decode cX9_keepRows 188 = .ok (.iinc 4 1, 3) := by decide +kernel
theorem dX9_keepRows_191 : decode cX9_keepRows 191 = .ok (.goto (-183), 3) := by decide +kernel
theorem dX9_keepRows_194 : decode cX9_keepRows 194 = .ok (.return_, 1) := by decide +kernel
