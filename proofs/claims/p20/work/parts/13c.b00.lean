theorem dX9_open_0 : decode cX9_open 0 = .ok (.aload_n 0, 1) := by decide +kernel
theorem dX9_open_1 : decode cX9_open 1 = .ok (.iconst 0, 1) := by decide +kernel
theorem dX9_open_2 : decode cX9_open 2 = .ok (.putfield 91, 3) := by decide +kernel
theorem dX9_open_5 : decode cX9_open 5 = .ok (.aload_n 0, 1) := by decide +kernel
theorem dX9_open_6 : decode cX9_open 6 = .ok (.getfield 72, 3) := by decide +kernel
theorem dX9_open_9 : decode cX9_open 9 = .ok (.ifCond .eq 8, 3) := by decide +kernel
theorem dX9_open_12 : decode cX9_open 12 = .ok (.aload_n 0, 1) := by decide +kernel
theorem dX9_open_13 : decode cX9_open 13 = .ok (.invokevirtual 163, 3) := by decide +kernel
theorem dX9_open_16 : decode cX9_open 16 = .ok (.ireturn, 1) := by decide +kernel
theorem dX9_open_17 : decode cX9_open 17 = .ok (.aload_n 0, 1) := by decide +kernel
theorem dX9_open_18 : decode cX9_open 18 = .ok (.iconst 0, 1) := by decide +kernel
theorem dX9_open_19 : decode cX9_open 19 = .ok (.invokevirtual 253, 3) := by decide +kernel
theorem dX9_open_22 : decode cX9_open 22 = .ok (.istore_n 1, 1) := by decide +kernel
theorem dX9_open_23 : decode cX9_open 23 = .ok (.aload_n 0, 1) := by decide +kernel
theorem dX9_open_24 : decode cX9_open 24 = .ok (.iconst 1, 1) := by decide +kernel
theorem dX9_open_25 : decode cX9_open 25 = .ok (.invokevirtual 253, 3) := by decide +kernel
theorem dX9_open_28 : decode cX9_open 28 = .ok (.istore_n 2, 1) := by decide +kernel
theorem dX9_open_29 : decode cX9_open 29 = .ok (.iload_n 1, 1) := by decide +kernel
theorem dX9_open_30 : decode cX9_open 30 = .ok (.ifCond .ne 10, 3) := by decide +kernel
theorem dX9_open_33 : decode cX9_open 33 = .ok (.iload_n 2, 1) := by decide +kernel
theorem dX9_open_34 : decode cX9_open 34 = .ok (.ifCond .ne 6, 3) := by decide +kernel
theorem dX9_open_37 : decode cX9_open 37 = .ok (.bipush (-5), 2) := by decide +kernel
theorem dX9_open_39 : decode cX9_open 39 = .ok (.ireturn, 1) := by decide +kernel
theorem dX9_open_40 : decode cX9_open 40 = .ok (.aload_n 0, 1) := by decide +kernel
theorem dX9_open_41 : decode cX9_open 41 = .ok (.iconst 1, 1) := by decide +kernel
theorem dX9_open_42 : decode cX9_open 42 = .ok (.putfield 72, 3) := by decide +kernel
theorem dX9_open_45 : decode cX9_open 45 = .ok (.aload_n 0, 1) := by decide +kernel
theorem dX9_open_46 : decode cX9_open 46 = .ok (.iconst 0, 1) := by decide +kernel
theorem dX9_open_47 : decode cX9_open 47 = .ok (.putfield 108, 3) := by decide +kernel
theorem dX9_open_50 : decode cX9_open 50 = .ok (.aload_n 0, 1) := by decide +kernel
theorem dX9_open_51 : decode cX9_open 51 = .ok (.iload_n 2, 1) := by decide +kernel
theorem dX9_open_52 : decode cX9_open 52 = .ok (.ifCond .eq 28, 3) := by decide +kernel
theorem dX9_open_55 : decode cX9_open 55 = .ok (.iload_n 1, 1) := by decide +kernel
theorem dX9_open_56 : decode cX9_open 56 = .ok (.ifCond .eq 20, 3) := by decide +kernel
theorem dX9_open_59 : decode cX9_open 59 = .ok (.aload_n 0, 1) := by decide +kernel
theorem dX9_open_60 : decode cX9_open 60 = .ok (.bipush 16, 2) := by decide +kernel
theorem dX9_open_62 : decode cX9_open 62 = .ok (.iconst 4, 1) := by decide +kernel
theorem dX9_open_63 : decode cX9_open 63 = .ok (.invokevirtual 131, 3) := by decide +kernel
theorem dX9_open_66 : decode cX9_open 66 = .ok (.aload_n 0, 1) := by decide +kernel
theorem dX9_open_67 : decode cX9_open 67 = .ok (.iconst 0, 1) := by decide +kernel
theorem dX9_open_68 : decode cX9_open 68 = .ok (.iconst 4, 1) := by decide +kernel
theorem dX9_open_69 : decode cX9_open 69 = .ok (.invokevirtual 131, 3) := by decide +kernel
theorem dX9_open_72 : decode cX9_open 72 = .ok (.lcmp, 1) := by decide +kernel
theorem dX9_open_73 : decode cX9_open 73 = .ok (.ifCond .lt 7, 3) := by decide +kernel
theorem dX9_open_76 : decode cX9_open 76 = .ok (.iconst 1, 1) := by decide +kernel
theorem dX9_open_77 : decode cX9_open 77 = .ok (.goto 4, 3) := by decide +kernel
theorem dX9_open_80 : decode cX9_open 80 = .ok (.iconst 0, 1) := by decide +kernel
theorem dX9_open_81 : decode cX9_open 81 = .ok (.putfield 76, 3) := by decide +kernel
theorem dX9_open_84 : decode cX9_open 84 = .ok (.aload_n 0, 1) := by decide +kernel
theorem dX9_open_85 : decode cX9_open 85 = .ok (.bipush 16, 2) := by decide +kernel
theorem dX9_open_87 : decode cX9_open 87 = .ok (.iconst 1, 1) := by decide +kernel
theorem dX9_open_88 : decode cX9_open 88 = .ok (.aload_n 0, 1) := by decide +kernel
theorem dX9_open_89 : decode cX9_open 89 = .ok (.getfield 76, 3) := by decide +kernel
theorem dX9_open_92 : decode cX9_open 92 = .ok (.isub, 1) := by decide +kernel
theorem dX9_open_93 : decode cX9_open 93 = .ok (.imul, 1) := by decide +kernel
theorem dX9_open_94 : decode cX9_open 94 = .ok (.bipush 16, 2) := by decide +kernel
theorem dX9_open_96 : decode cX9_open 96 = .ok (.invokevirtual 142, 3) := by decide +kernel
theorem dX9_open_99 : decode cX9_open 99 = .ok (.ifCond .ne 18, 3) := by decide +kernel
theorem dX9_open_102 : decode cX9_open 102 = .ok (.aload_n 0, 1) := by decide +kernel
theorem dX9_open_103 : decode cX9_open 103 = .ok (.bipush 16, 2) := by decide +kernel
theorem dX9_open_105 : decode cX9_open 105 = .ok (.iconst 1, 1) := by decide +kernel
theorem dX9_open_106 : decode cX9_open 106 = .ok (.aload_n 0, 1) := by decide +kernel
theorem dX9_open_107 : decode cX9_open 107 = .ok (.getfield 76, 3) := by decide +kernel
theorem dX9_open_110 : decode cX9_open 110 = .ok (.isub, 1) := by decide +kernel
theorem dX9_open_111 : decode cX9_open 111 = .ok (.imul, 1) := by decide +kernel
theorem dX9_open_112 : decode cX9_open 112 = .ok (.bipush 16, 2) := by decide +kernel
theorem dX9_open_114 : decode cX9_open 114 = .ok (.invokevirtual 256, 3) := by decide +kernel
theorem dX9_open_117 : decode cX9_open 117 = .ok (.aload_n 0, 1) := by decide +kernel
theorem dX9_open_118 : decode cX9_open 118 = .ok (.invokevirtual 259, 3) := by decide +kernel
theorem dX9_open_121 : decode cX9_open 121 = .ok (.istore_n 3, 1) := by decide +kernel
theorem dX9_open_122 : decode cX9_open 122 = .ok (.aload_n 0, 1) := by decide +kernel
theorem dX9_open_123 : decode cX9_open 123 = .ok (.iload_n 3, 1) := by decide +kernel
theorem dX9_open_124 : decode cX9_open 124 = .ok (.putfield 157, 3) := by decide +kernel
theorem dX9_open_127 : decode cX9_open 127 = .ok (.iload_n 3, 1) := by decide +kernel
theorem dX9_open_128 : decode cX9_open 128 = .ok (.sipush 128, 3) := by decide +kernel
theorem dX9_open_131 : decode cX9_open 131 = .ok (.if_icmp .ge 27, 3) := by decide +kernel
theorem dX9_open_134 : decode cX9_open 134 = .ok (.aload_n 0, 1) := by decide +kernel
theorem dX9_open_135 : decode cX9_open 135 = .ok (.iload_n 3, 1) := by decide +kernel
theorem dX9_open_136 : decode cX9_open 136 = .ok (.invokevirtual 160, 3) := by decide +kernel
theorem dX9_open_139 : decode cX9_open 139 = .ok (.iconst 2, 1) := by decide +kernel
theorem dX9_open_140 : decode cX9_open 140 = .ok (.if_icmp .ne 18, 3) := by decide +kernel
theorem dX9_open_143 : decode cX9_open 143 = .ok (.aload_n 0, 1) := by decide +kernel
theorem dX9_open_144 : decode cX9_open 144 = .ok (.aload_n 0, 1) := by decide +kernel
theorem dX9_open_145 : decode cX9_open 145 = .ok (.aload_n 0, 1) := by decide +kernel
theorem dX9_open_146 : decode cX9_open 146 = .ok (.getfield 76, 3) := by decide +kernel
theorem dX9_open_149 : decode cX9_open 149 = .ok (.iload_n 3, 1) := by decide +kernel
theorem dX9_open_150 : decode cX9_open 150 = .ok (.invokevirtual 146, 3) := by decide +kernel
theorem dX9_open_153 : decode cX9_open 153 = .ok (.bipush 32, 2) := by decide +kernel
theorem dX9_open_155 : decode cX9_open 155 = .ok (.invokevirtual 256, 3) := by decide +kernel
theorem dX9_open_158 : decode cX9_open 158 = .ok (.aload_n 0, 1) := by decide +kernel
theorem dX9_open_159 : decode cX9_open 159 = .ok (.invokevirtual 262, 3) := by decide +kernel
theorem dX9_open_162 : decode cX9_open 162 = .ok (.iconst 0, 1) := by decide +kernel
theorem dX9_open_163 : decode cX9_open 163 = .ok (.istore 4, 2) := by decide +kernel
theorem dX9_open_165 : decode cX9_open 165 = .ok (.iload 4, 2) := by decide +kernel
theorem dX9_open_167 : decode cX9_open 167 = .ok (.aload_n 0, 1) := by decide +kernel
theorem dX9_open_168 : decode cX9_open 168 = .ok (.getfield 62, 3) := by decide +kernel
theorem dX9_open_171 : decode cX9_open 171 = .ok (.if_icmp .ge 38, 3) := by decide +kernel
theorem dX9_open_174 : decode cX9_open 174 = .ok (.aload_n 0, 1) := by decide +kernel
theorem dX9_open_175 : decode cX9_open 175 = .ok (.getfield 108, 3) := by decide +kernel
theorem dX9_open_178 : decode cX9_open 178 = .ok (.ifCond .ne 31, 3) := by decide +kernel
theorem dX9_open_181 : decode cX9_open 181 = .ok (.aload_n 0, 1) := by decide +kernel
theorem dX9_open_182 : decode cX9_open 182 = .ok (.iload 4, 2) := by decide +kernel
theorem dX9_open_184 : decode cX9_open 184 = .ok (.invokevirtual 238, 3) := by decide +kernel
theorem dX9_open_187 : decode cX9_open 187 = .ok (.iconst 2, 1) := by decide +kernel
theorem dX9_open_188 : decode cX9_open 188 = .ok (.if_icmp .ne 15, 3) := by decide +kernel
theorem dX9_open_191 : decode cX9_open 191 = .ok (.aload_n 0, 1) := by decide +kernel
theorem dX9_open_192 : decode cX9_open 192 = .ok (.aload_n 0, 1) := by decide +kernel
theorem dX9_open_193 : decode cX9_open 193 = .ok (.iload 4, 2) := by decide +kernel
theorem dX9_open_195 : decode cX9_open 195 = .ok (.invokevirtual 154, 3) := by decide +kernel
theorem dX9_open_198 : decode cX9_open 198 = .ok (.bipush 26, 2) := by decide +kernel
theorem dX9_open_200 : decode cX9_open 200 = .ok (.invokevirtual 256, 3) := by decide +kernel
theorem dX9_open_203 : decode cX9_open 203 = .ok (.iinc 4 1, 3) := by decide +kernel
theorem dX9_open_206 : decode cX9_open 206 = .ok (.goto (-41), 3) := by decide +kernel
theorem dX9_open_209 : decode cX9_open 209 = .ok (.aload_n 0, 1) := by decide +kernel
theorem dX9_open_210 : decode cX9_open 210 = .ok (.invokevirtual 265, 3) := by decide +kernel
theorem dX9_open_213 : decode cX9_open 213 = .ok (.aload_n 0, 1) := by decide +kernel
theorem dX9_open_214 : decode cX9_open 214 = .ok (.getfield 108, 3) := by decide +kernel
theorem dX9_open_217 : decode cX9_open 217 = .ok (.ifCond .eq 6, 3) := by decide +kernel
theorem dX9_open_220 : decode cX9_open 220 = .ok (.bipush (-4), 2) := by decide +kernel
theorem dX9_open_222 : decode cX9_open 222 = .ok (.ireturn, 1) := by decide +kernel
theorem dX9_open_223 : decode cX9_open 223 = .ok (.aload_n 0, 1) := by decide +kernel
theorem dX9_open_224 : decode cX9_open 224 = .ok (.invokevirtual 163, 3) := by decide +kernel
theorem dX9_open_227 : decode cX9_open 227 = .ok (.ireturn, 1) := by decide +kernel
theorem dX9_mend_0 : decode cX9_mend 0 = .ok (.aload_n 0, 1) := by decide +kernel
theorem dX9_mend_1 : decode cX9_mend 1 = .ok (.aload_n 0, 1) := by decide +kernel
theorem dX9_mend_2 : decode cX9_mend 2 = .ok (.getfield 72, 3) := by decide +kernel
theorem dX9_mend_5 : decode cX9_mend 5 = .ok (.ifCond .ne 7, 3) := by decide +kernel
theorem dX9_mend_8 : decode cX9_mend 8 = .ok (.iconst 1, 1) := by decide +kernel
theorem dX9_mend_9 : decode cX9_mend 9 = .ok (.goto 16, 3) := by decide +kernel
theorem dX9_mend_12 : decode cX9_mend 12 = .ok (.aload_n 0, 1) := by decide +kernel
theorem dX9_mend_13 : decode cX9_mend 13 = .ok (.iload_n 1, 1) := by decide +kernel
theorem dX9_mend_14 : decode cX9_mend 14 = .ok (.invokevirtual 268, 3) := by decide +kernel
theorem dX9_mend_17 : decode cX9_mend 17 = .ok (.ifCond .ne 7, 3) := by decide +kernel
theorem dX9_mend_20 : decode cX9_mend 20 = .ok (.iconst 2, 1) := by decide +kernel
theorem dX9_mend_21 : decode cX9_mend 21 = .ok (.goto 4, 3) := by decide +kernel
theorem dX9_mend_24 : decode cX9_mend 24 = .ok (.iconst 0, 1) := by decide +kernel
theorem dX9_mend_25 : decode cX9_mend 25 = .ok (.putfield 91, 3) := by decide +kernel
theorem dX9_mend_28 : decode cX9_mend 28 = .ok (.aload_n 0, 1) := by decide +kernel
theorem dX9_mend_29 : decode cX9_mend 29 = .ok (.getfield 91, 3) := by decide +kernel
theorem dX9_mend_32 : decode cX9_mend 32 = .ok (.ifCond .le 5, 3) := by decide +kernel
theorem dX9_mend_35 : decode cX9_mend 35 = .ok (.iconst 0, 1) := by decide +kernel
theorem dX9_mend_36 : decode cX9_mend 36 = .ok (.ireturn, 1) := by decide +kernel
theorem dX9_mend_37 : decode cX9_mend 37 = .ok (.iload_n 1, 1) := by decide +kernel
theorem dX9_mend_38 : decode cX9_mend 38 = .ok (.sipush 128, 3) := by decide +kernel
theorem dX9_mend_41 : decode cX9_mend 41 = .ok (.if_icmp .ge 7, 3) := by decide +kernel
theorem dX9_mend_44 : decode cX9_mend 44 = .ok (.iconst 1, 1) := by decide +kernel
theorem dX9_mend_45 : decode cX9_mend 45 = .ok (.goto 4, 3) := by decide +kernel
theorem dX9_mend_48 : decode cX9_mend 48 = .ok (.iconst 0, 1) := by decide +kernel
theorem dX9_mend_49 : decode cX9_mend 49 = .ok (.istore_n 2, 1) := by decide +kernel
theorem dX9_mend_50 : decode cX9_mend 50 = .ok (.iload_n 2, 1) := by decide +kernel
theorem dX9_mend_51 : decode cX9_mend 51 = .ok (.ifCond .eq 15, 3) := by decide +kernel
theorem dX9_mend_54 : decode cX9_mend 54 = .ok (.aload_n 0, 1) := by decide +kernel
theorem dX9_mend_55 : decode cX9_mend 55 = .ok (.aload_n 0, 1) := by decide +kernel
theorem dX9_mend_56 : decode cX9_mend 56 = .ok (.getfield 76, 3) := by decide +kernel
theorem dX9_mend_59 : decode cX9_mend 59 = .ok (.iload_n 1, 1) := by decide +kernel
theorem dX9_mend_60 : decode cX9_mend 60 = .ok (.invokevirtual 146, 3) := by decide +kernel
theorem dX9_mend_63 : decode cX9_mend 63 = .ok (.goto 12, 3) := by decide +kernel
theorem dX9_mend_66 : decode cX9_mend 66 = .ok (.aload_n 0, 1) := by decide +kernel
theorem dX9_mend_67 : decode cX9_mend 67 = .ok (.iload_n 1, 1) := by decide +kernel
theorem dX9_mend_68 : decode cX9_mend 68 = .ok (.sipush 128, 3) := by decide +kernel
theorem dX9_mend_71 : decode cX9_mend 71 = .ok (.isub, 1) := by decide +kernel
theorem dX9_mend_72 : decode cX9_mend 72 = .ok (.invokevirtual 154, 3) := by decide +kernel
theorem dX9_mend_75 : decode cX9_mend 75 = .ok (.istore_n 3, 1) := by decide +kernel
theorem dX9_mend_76 : decode cX9_mend 76 = .ok (.iload_n 2, 1) := by decide +kernel
theorem dX9_mend_77 : decode cX9_mend 77 = .ok (.ifCond .eq 8, 3) := by decide +kernel
theorem dX9_mend_80 : decode cX9_mend 80 = .ok (.bipush 23, 2) := by decide +kernel
theorem dX9_mend_82 : decode cX9_mend 82 = .ok (.goto 5, 3) := by decide +kernel
theorem dX9_mend_85 : decode cX9_mend 85 = .ok (.bipush 17, 2) := by decide +kernel
theorem dX9_mend_87 : decode cX9_mend 87 = .ok (.istore 4, 2) := by decide +kernel
theorem dX9_mend_89 : decode cX9_mend 89 = .ok (.iload_n 2, 1) := by decide +kernel
theorem dX9_mend_90 : decode cX9_mend 90 = .ok (.ifCond .eq 15, 3) := by decide +kernel
theorem dX9_mend_93 : decode cX9_mend 93 = .ok (.aload_n 0, 1) := by decide +kernel
theorem dX9_mend_94 : decode cX9_mend 94 = .ok (.getfield 271, 3) := by decide +kernel
theorem dX9_mend_97 : decode cX9_mend 97 = .ok (.bipush 23, 2) := by decide +kernel
theorem dX9_mend_99 : decode cX9_mend 99 = .ok (.if_icmp .eq 22, 3) := by decide +kernel
theorem dX9_mend_102 : decode cX9_mend 102 = .ok (.goto 16, 3) := by decide +kernel
theorem dX9_mend_105 : decode cX9_mend 105 = .ok (.aload_n 0, 1) := by decide +kernel
theorem dX9_mend_106 : decode cX9_mend 106 = .ok (.getfield 271, 3) := by decide +kernel
theorem dX9_mend_109 : decode cX9_mend 109 = .ok (.iconst 1, 1) := by decide +kernel
theorem dX9_mend_110 : decode cX9_mend 110 = .ok (.bipush 16, 2) := by decide +kernel
theorem dX9_mend_112 : decode cX9_mend 112 = .ok (.invokestatic 138, 3) := by decide +kernel
theorem dX9_mend_115 : decode cX9_mend 115 = .ok (.ifCond .ne 6, 3) := by decide +kernel
theorem dX9_mend_118 : decode cX9_mend 118 = .ok (.bipush (-10), 2) := by decide +kernel
theorem dX9_mend_120 : decode cX9_mend 120 = .ok (.ireturn, 1) := by decide +kernel
theorem dX9_mend_121 : decode cX9_mend 121 = .ok (.iload_n 2, 1) := by decide +kernel
theorem dX9_mend_122 : decode cX9_mend 122 = .ok (.ifCond .eq 36, 3) := by decide +kernel
theorem dX9_mend_125 : decode cX9_mend 125 = .ok (.iconst 0, 1) := by decide +kernel
theorem dX9_mend_126 : decode cX9_mend 126 = .ok (.istore 5, 2) := by decide +kernel
theorem dX9_mend_128 : decode cX9_mend 128 = .ok (.iload 5, 2) := by decide +kernel
theorem dX9_mend_130 : decode cX9_mend 130 = .ok (.bipush 23, 2) := by decide +kernel
theorem dX9_mend_132 : decode cX9_mend 132 = .ok (.if_icmp .ge 23, 3) := by decide +kernel
theorem dX9_mend_135 : decode cX9_mend 135 = .ok (.aload_n 0, 1) := by decide +kernel
theorem dX9_mend_136 : decode cX9_mend 136 = .ok (.getfield 24, 3) := by decide +kernel
theorem dX9_mend_139 : decode cX9_mend 139 = .ok (.iload 5, 2) := by decide +kernel
theorem dX9_mend_141 : decode cX9_mend 141 = .ok (.aload_n 0, 1) := by decide +kernel
theorem dX9_mend_142 : decode cX9_mend 142 = .ok (.getfield 14, 3) := by decide +kernel
theorem dX9_mend_145 : decode cX9_mend 145 = .ok (.iload 5, 2) := by decide +kernel
theorem dX9_mend_147 : decode cX9_mend 147 = .ok (.iaload, 1) := by decide +kernel
theorem dX9_mend_148 : decode cX9_mend 148 = .ok (.iastore, 1) := by decide +kernel
theorem dX9_mend_149 : decode cX9_mend 149 = .ok (.iinc 5 1, 3) := by decide +kernel
theorem dX9_mend_152 : decode cX9_mend 152 = .ok (.goto (-24), 3) := by decide +kernel
theorem dX9_mend_155 : decode cX9_mend 155 = .ok (.goto 7, 3) := by decide +kernel
theorem dX9_mend_158 : decode cX9_mend 158 = .ok (.aload_n 0, 1) := by decide +kernel
theorem dX9_mend_159 : decode cX9_mend 159 = .ok (.invokevirtual 274, 3) := by decide +kernel
theorem dX9_mend_162 : decode cX9_mend 162 = .ok (.aload_n 0, 1) := by decide +kernel
theorem dX9_mend_163 : decode cX9_mend 163 = .ok (.iload_n 2, 1) := by decide +kernel
theorem dX9_mend_164 : decode cX9_mend 164 = .ok (.ifCond .eq 7, 3) := by decide +kernel
theorem dX9_mend_167 : decode cX9_mend 167 = .ok (.iconst 2, 1) := by decide +kernel
theorem dX9_mend_168 : decode cX9_mend 168 = .ok (.goto 4, 3) := by decide +kernel
theorem dX9_mend_171 : decode cX9_mend 171 = .ok (.iconst 3, 1) := by decide +kernel
theorem dX9_mend_172 : decode cX9_mend 172 = .ok (.iload 4, 2) := by decide +kernel
theorem dX9_mend_174 : decode cX9_mend 174 = .ok (.invokevirtual 124, 3) := by decide +kernel
theorem dX9_mend_177 : decode cX9_mend 177 = .ok (.lstore 5, 2) := by decide +kernel
theorem dX9_mend_179 : decode cX9_mend 179 = .ok (.iconst 1, 1) := by decide +kernel
theorem dX9_mend_180 : decode cX9_mend 180 = .ok (.istore 7, 2) := by decide +kernel
theorem dX9_mend_182 : decode cX9_mend 182 = .ok (.iconst 0, 1) := by decide +kernel
theorem dX9_mend_183 : decode cX9_mend 183 = .ok (.istore 8, 2) := by decide +kernel
theorem dX9_mend_185 : decode cX9_mend 185 = .ok (.iload 8, 2) := by decide +kernel
theorem dX9_mend_187 : decode cX9_mend 187 = .ok (.iload 4, 2) := by decide +kernel
theorem dX9_mend_189 : decode cX9_mend 189 = .ok (.if_icmp .ge 37, 3) := by decide +kernel
theorem dX9_mend_192 : decode cX9_mend 192 = .ok (.iload 7, 2) := by decide +kernel
theorem dX9_mend_194 : decode cX9_mend 194 = .ok (.aload_n 0, 1) := by decide +kernel
theorem dX9_mend_195 : decode cX9_mend 195 = .ok (.getfield 24, 3) := by decide +kernel
theorem dX9_mend_198 : decode cX9_mend 198 = .ok (.iload 8, 2) := by decide +kernel
theorem dX9_mend_200 : decode cX9_mend 200 = .ok (.iaload, 1) := by decide +kernel
theorem dX9_mend_201 : decode cX9_mend 201 = .ok (.aload_n 0, 1) := by decide +kernel
theorem dX9_mend_202 : decode cX9_mend 202 = .ok (.iload_n 3, 1) := by decide +kernel
theorem dX9_mend_203 : decode cX9_mend 203 = .ok (.iload 8, 2) := by decide +kernel
theorem dX9_mend_205 : decode cX9_mend 205 = .ok (.iadd, 1) := by decide +kernel
theorem dX9_mend_206 : decode cX9_mend 206 = .ok (.invokevirtual 96, 3) := by decide +kernel
theorem dX9_mend_209 : decode cX9_mend 209 = .ok (.if_icmp .ne 7, 3) := by decide +kernel
theorem dX9_mend_212 : decode cX9_mend 212 = .ok (.iconst 1, 1) := by decide +kernel
theorem dX9_mend_213 : decode cX9_mend 213 = .ok (.goto 4, 3) := by decide +kernel
theorem dX9_mend_216 : decode cX9_mend 216 = .ok (.iconst 0, 1) := by decide +kernel
theorem dX9_mend_217 : decode cX9_mend 217 = .ok (.iand, 1) := by decide +kernel
theorem dX9_mend_218 : decode cX9_mend 218 = .ok (.istore 7, 2) := by decide +kernel
theorem dX9_mend_220 : decode cX9_mend 220 = .ok (.iinc 8 1, 3) := by decide +kernel
theorem dX9_mend_223 : decode cX9_mend 223 = .ok (.goto (-38), 3) := by decide +kernel
theorem dX9_mend_226 : decode cX9_mend 226 = .ok (.aload_n 0, 1) := by decide +kernel
theorem dX9_mend_227 : decode cX9_mend 227 = .ok (.iload_n 3, 1) := by decide +kernel
theorem dX9_mend_228 : decode cX9_mend 228 = .ok (.iload 4, 2) := by decide +kernel
theorem dX9_mend_230 : decode cX9_mend 230 = .ok (.iadd, 1) := by decide +kernel
theorem dX9_mend_231 : decode cX9_mend 231 = .ok (.bipush 8, 2) := by decide +kernel
theorem dX9_mend_233 : decode cX9_mend 233 = .ok (.invokevirtual 131, 3) := by decide +kernel
theorem dX9_mend_236 : decode cX9_mend 236 = .ok (.lstore 8, 2) := by decide +kernel
theorem dX9_mend_238 : decode cX9_mend 238 = .ok (.lload 5, 2) := by decide +kernel
theorem dX9_mend_240 : decode cX9_mend 240 = .ok (.lload 8, 2) := by decide +kernel
theorem dX9_mend_242 : decode cX9_mend 242 = .ok (.lcmp, 1) := by decide +kernel
theorem dX9_mend_243 : decode cX9_mend 243 = .ok (.ifCond .eq 22, 3) := by decide +kernel
theorem dX9_mend_246 : decode cX9_mend 246 = .ok (.iload 7, 2) := by decide +kernel
theorem dX9_mend_248 : decode cX9_mend 248 = .ok (.ifCond .eq 14, 3) := by decide +kernel
theorem dX9_mend_251 : decode cX9_mend 251 = .ok (.lload 5, 2) := by decide +kernel
theorem dX9_mend_253 : decode cX9_mend 253 = .ok (.lload 8, 2) := by decide +kernel
theorem dX9_mend_255 : decode cX9_mend 255 = .ok (.invokestatic 277, 3) := by decide +kernel
theorem dX9_mend_258 : decode cX9_mend 258 = .ok (.iconst 1, 1) := by decide +kernel
theorem dX9_mend_259 : decode cX9_mend 259 = .ok (.if_icmp .eq 6, 3) := by decide +kernel
theorem dX9_mend_262 : decode cX9_mend 262 = .ok (.bipush (-10), 2) := by decide +kernel
theorem dX9_mend_264 : decode cX9_mend 264 = .ok (.ireturn, 1) := by decide +kernel
theorem dX9_mend_265 : decode cX9_mend 265 = .ok (.aload_n 0, 1) := by decide +kernel
theorem dX9_mend_266 : decode cX9_mend 266 = .ok (.iload 4, 2) := by decide +kernel
theorem dX9_mend_268 : decode cX9_mend 268 = .ok (.lload 5, 2) := by decide +kernel
theorem dX9_mend_270 : decode cX9_mend 270 = .ok (.bipush 8, 2) := by decide +kernel
theorem dX9_mend_272 : decode cX9_mend 272 = .ok (.invokevirtual 121, 3) := by decide +kernel
theorem dX9_mend_275 : decode cX9_mend 275 = .ok (.aload_n 0, 1) := by decide +kernel
theorem dX9_mend_276 : decode cX9_mend 276 = .ok (.getfield 24, 3) := by decide +kernel
theorem dX9_mend_279 : decode cX9_mend 279 = .ok (.iload 4, 2) := by decide +kernel
theorem dX9_mend_281 : decode cX9_mend 281 = .ok (.bipush 8, 2) := by decide +kernel
theorem dX9_mend_283 : decode cX9_mend 283 = .ok (.iadd, 1) := by decide +kernel
theorem dX9_mend_284 : decode cX9_mend 284 = .ok (.sipush 165, 3) := by decide +kernel
theorem dX9_mend_287 : decode cX9_mend 287 = .ok (.iastore, 1) := by decide +kernel
theorem dX9_mend_288 : decode cX9_mend 288 = .ok (.aload_n 0, 1) := by decide +kernel
theorem dX9_mend_289 : decode cX9_mend 289 = .ok (.iconst 0, 1) := by decide +kernel
theorem dX9_mend_290 : decode cX9_mend 290 = .ok (.putfield 271, 3) := by decide +kernel
theorem dX9_mend_293 : decode cX9_mend 293 = .ok (.aload_n 0, 1) := by decide +kernel
theorem dX9_mend_294 : decode cX9_mend 294 = .ok (.iload_n 3, 1) := by decide +kernel
theorem dX9_mend_295 : decode cX9_mend 295 = .ok (.iload 4, 2) := by decide +kernel
theorem dX9_mend_297 : decode cX9_mend 297 = .ok (.bipush 9, 2) := by decide +kernel
theorem dX9_mend_299 : decode cX9_mend 299 = .ok (.iadd, 1) := by decide +kernel
theorem dX9_mend_300 : decode cX9_mend 300 = .ok (.invokevirtual 281, 3) := by decide +kernel
theorem dX9_mend_303 : decode cX9_mend 303 = .ok (.iload_n 2, 1) := by decide +kernel
theorem dX9_mend_304 : decode cX9_mend 304 = .ok (.ifCond .eq 7, 3) := by decide +kernel
theorem dX9_mend_307 : decode cX9_mend 307 = .ok (.aload_n 0, 1) := by decide +kernel
theorem dX9_mend_308 : decode cX9_mend 308 = .ok (.invokevirtual 262, 3) := by decide +kernel
theorem dX9_mend_311 : decode cX9_mend 311 = .ok (.aload_n 0, 1) := by decide +kernel
theorem dX9_mend_312 : decode cX9_mend 312 = .ok (.getfield 108, 3) := by decide +kernel
theorem dX9_mend_315 : decode cX9_mend 315 = .ok (.ifCond .eq 8, 3) := by decide +kernel
theorem dX9_mend_318 : decode cX9_mend 318 = .ok (.bipush (-4), 2) := by decide +kernel
theorem dX9_mend_320 : decode cX9_mend 320 = .ok (.goto 12, 3) := by decide +kernel
theorem dX9_mend_323 : decode cX9_mend 323 = .ok (.aload_n 0, 1) := by decide +kernel
theorem dX9_mend_324 : decode cX9_mend 324 = .ok (.invokevirtual 173, 3) := by decide +kernel
theorem dX9_mend_327 : decode cX9_mend 327 = .ok (.aload_n 0, 1) := by decide +kernel
theorem dX9_mend_328 : decode cX9_mend 328 = .ok (.invokevirtual 284, 3) := by decide +kernel
theorem dX9_mend_331 : decode cX9_mend 331 = .ok (.iadd, 1) := by decide +kernel
theorem dX9_mend_332 : decode cX9_mend 332 = .ok (.ireturn, 1) := by decide +kernel
theorem dX9_differing_0 : decode cX9_differing 0 = .ok (.iconst 0, 1) := by decide +kernel
theorem dX9_differing_1 : decode cX9_differing 1 = .ok (.istore 4, 2) := by decide +kernel
theorem dX9_differing_3 : decode cX9_differing 3 = .ok (.lload_n 0, 1) := by decide +kernel
theorem dX9_differing_4 : decode cX9_differing 4 = .ok (.lload_n 2, 1) := by decide +kernel
theorem dX9_differing_5 : decode cX9_differing 5 = .ok (.lxor, 1) := by decide +kernel
theorem dX9_differing_6 : decode cX9_differing 6 = .ok (.lstore 5, 2) := by decide +kernel
theorem dX9_differing_8 : decode cX9_differing 8 = .ok (.lload 5, 2) := by decide +kernel
theorem dX9_differing_10 : decode cX9_differing 10 = .ok (.lconst 0, 1) := by decide +kernel
theorem dX9_differing_11 : decode cX9_differing 11 = .ok (.lcmp, 1) := by decide +kernel
theorem dX9_differing_12 : decode cX9_differing 12 = .ok (.ifCond .eq 34, 3) := by decide +kernel
theorem dX9_differing_15 : decode cX9_differing 15 = .ok (.iload 4, 2) := by decide +kernel
theorem dX9_differing_17 : decode cX9_differing 17 = .ok (.lload 5, 2) := by decide +kernel
theorem dX9_differing_19 : decode cX9_differing 19 = .ok (.ldc2_w 94, 3) := by decide +kernel
theorem dX9_differing_22 : decode cX9_differing 22 = .ok (.land, 1) := by decide +kernel
theorem dX9_differing_23 : decode cX9_differing 23 = .ok (.lconst 0, 1) := by decide +kernel
theorem dX9_differing_24 : decode cX9_differing 24 = .ok (.lcmp, 1) := by decide +kernel
theorem dX9_differing_25 : decode cX9_differing 25 = .ok (.ifCond .eq 7, 3) := by decide +kernel
theorem dX9_differing_28 : decode cX9_differing 28 = .ok (.iconst 1, 1) := by decide +kernel
theorem dX9_differing_29 : decode cX9_differing 29 = .ok (.goto 4, 3) := by decide +kernel
theorem dX9_differing_32 : decode cX9_differing 32 = .ok (.iconst 0, 1) := by decide +kernel
theorem dX9_differing_33 : decode cX9_differing 33 = .ok (.iadd, 1) := by decide +kernel
theorem dX9_differing_34 : decode cX9_differing 34 = .ok (.istore 4, 2) := by decide +kernel
theorem dX9_differing_36 : decode cX9_differing 36 = .ok (.lload 5, 2) := by decide +kernel
theorem dX9_differing_38 : decode cX9_differing 38 = .ok (.bipush 8, 2) := by decide +kernel
theorem dX9_differing_40 : decode cX9_differing 40 = .ok (.lushr, 1) := by decide +kernel
theorem dX9_differing_41 : decode cX9_differing 41 = .ok (.lstore 5, 2) := by decide +kernel
theorem dX9_differing_43 : decode cX9_differing 43 = .ok (.goto (-35), 3) := by decide +kernel
theorem dX9_differing_46 : decode cX9_differing 46 = .ok (.iload 4, 2) := by decide +kernel
theorem dX9_differing_48 : decode cX9_differing 48 = .ok (.ireturn, 1) := by decide +kernel
