theorem dX9_open_0 : decode cX9_open 0 = .ok (.aload_n 0, 1) := by decide +kernel
theorem dX9_open_1 : decode cX9_open 1 = .ok (.iconst 0, 1) := by decide +kernel
theorem dX9_open_2 : decode cX9_open 2 = .ok (.putfield 91, 3) := by decide +kernel
theorem dX9_open_5 : decode cX9_open 5 = .ok (.aload_n 0, 1) := by decide +kernel
theorem dX9_open_6 : decode cX9_open 6 = .ok (.getfield 72, 3) := by decide +kernel
theorem dX9_open_9 : decode cX9_open 9 = .ok (.ifCond .eq 8, 3) := by decide +kernel
theorem dX9_open_12 : decode cX9_open 12 = .ok (.aload_n 0, 1) := by decide +kernel
theorem dX9_open_13 : decode cX9_open 13 = .ok (.invokevirtual 163, 3) := by decide +kernel
theorem dX9_open_16 : decode cX9_open 16 = .ok (.ireturn, 1) := by decide +kernel
theorem dX9_open_17 : decode cX9_open 17 = .ok (.aload_n 0, 1) := by decide +kernel
theorem dX9_open_18 : decode cX9_open 18 = .ok (.iconst 0, 1) := by decide +kernel
theorem dX9_open_19 : decode cX9_open 19 = .ok (.invokevirtual 253, 3) := by decide +kernel
theorem dX9_open_22 : decode cX9_open 22 = .ok (.istore_n 1, 1) := by decide +kernel
theorem dX9_open_23 : decode cX9_open 23 = .ok (.aload_n 0, 1) := by decide +kernel
theorem dX9_open_24 : decode cX9_open 24 = .ok (.iconst 1, 1) := by decide +kernel
theorem dX9_open_25 : decode cX9_open 25 = .ok (.invokevirtual 253, 3) := by decide +kernel
theorem dX9_open_28 : decode cX9_open 28 = .ok (.istore_n 2, 1) := by decide +kernel
theorem dX9_open_29 : decode cX9_open 29 = .ok (.iload_n 1, 1) := by decide +kernel
theorem dX9_open_30 : decode cX9_open 30 = .ok (.ifCond .ne 10, 3) := by decide +kernel
theorem dX9_open_33 : decode cX9_open 33 = .ok (.iload_n 2, 1) := by decide +kernel
theorem dX9_open_34 : decode cX9_open 34 = .ok (.ifCond .ne 6, 3) := by decide +kernel
theorem dX9_open_37 : decode cX9_open 37 = .ok (.bipush (-5), 2) := by decide +kernel
theorem dX9_open_39 : decode cX9_open 39 = .ok (.ireturn, 1) := by decide +kernel
theorem dX9_open_40 : decode cX9_open 40 = .ok (.aload_n 0, 1) := by decide +kernel
theorem dX9_open_41 : decode cX9_open 41 = .ok (.iconst 1, 1) := by decide +kernel
theorem dX9_open_42 : decode cX9_open 42 = .ok (.putfield 72, 3) := by decide +kernel
theorem dX9_open_45 : decode cX9_open 45 = .ok (.aload_n 0, 1) := by decide +kernel
theorem dX9_open_46 : decode cX9_open 46 = .ok (.iconst 0, 1) := by decide +kernel
theorem dX9_open_47 : decode cX9_open 47 = .ok (.putfield 108, 3) := by decide +kernel
theorem dX9_open_50 : decode cX9_open 50 = .ok (.aload_n 0, 1) := by decide +kernel
theorem dX9_open_51 : decode cX9_open 51 = .ok (.iload_n 2, 1) := by decide +kernel
theorem dX9_open_52 : decode cX9_open 52 = .ok (.ifCond .eq 28, 3) := by decide +kernel
theorem dX9_open_55 : decode cX9_open 55 = .ok (.iload_n 1, 1) := by decide +kernel
theorem dX9_open_56 : decode cX9_open 56 = .ok (.ifCond .eq 20, 3) := by decide +kernel
theorem dX9_open_59 : decode cX9_open 59 = .ok (.aload_n 0, 1) := by decide +kernel
theorem dX9_open_60 : decode cX9_open 60 = .ok (.bipush 16, 2) := by decide +kernel
theorem dX9_open_62 : decode cX9_open 62 = .ok (.iconst 4, 1) := by decide +kernel
theorem dX9_open_63 : decode cX9_open 63 = .ok (.invokevirtual 131, 3) := by decide +kernel
theorem dX9_open_66 : decode cX9_open 66 = .ok (.aload_n 0, 1) := by decide +kernel
theorem dX9_open_67 : decode cX9_open 67 = .ok (.iconst 0, 1) := by decide +kernel
theorem dX9_open_68 : decode cX9_open 68 = .ok (.iconst 4, 1) := by decide +kernel
theorem dX9_open_69 : decode cX9_open 69 = .ok (.invokevirtual 131, 3) := by decide +kernel
theorem dX9_open_72 : decode cX9_open 72 = .ok (.lcmp, 1) := by decide +kernel
theorem dX9_open_73 : decode cX9_open 73 = .ok (.ifCond .lt 7, 3) := by decide +kernel
theorem dX9_open_76 : decode cX9_open 76 = .ok (.iconst 1, 1) := by decide +kernel
theorem dX9_open_77 : decode cX9_open 77 = .ok (.goto 4, 3) := by decide +kernel
theorem dX9_open_80 : decode cX9_open 80 = .ok (.iconst 0, 1) := by decide +kernel
theorem dX9_open_81 : decode cX9_open 81 = .ok (.putfield 76, 3) := by decide +kernel
theorem dX9_open_84 : decode cX9_open 84 = .ok (.aload_n 0, 1) := by decide +kernel
theorem dX9_open_85 : decode cX9_open 85 = .ok (.bipush 16, 2) := by decide +kernel
theorem dX9_open_87 : decode cX9_open 87 = .ok (.iconst 1, 1) := by decide +kernel
theorem dX9_open_88 : decode cX9_open 88 = .ok (.aload_n 0, 1) := by decide +kernel
theorem dX9_open_89 : decode cX9_open 89 = .ok (.getfield 76, 3) := by decide +kernel
theorem dX9_open_92 : decode cX9_open 92 = .ok (.isub, 1) := by decide +kernel
theorem dX9_open_93 : decode cX9_open 93 = .ok (.imul, 1) := by decide +kernel
theorem dX9_open_94 : decode cX9_open 94 = .ok (.bipush 16, 2) := by decide +kernel
theorem dX9_open_96 : decode cX9_open 96 = .ok (.invokevirtual 142, 3) := by decide +kernel
theorem dX9_open_99 : decode cX9_open 99 = .ok (.ifCond .ne 18, 3) := by decide +kernel
theorem dX9_open_102 : decode cX9_open 102 = .ok (.aload_n 0, 1) := by decide +kernel
theorem dX9_open_103 : decode cX9_open 103 = .ok (.bipush 16, 2) := by decide +kernel
theorem dX9_open_105 : decode cX9_open 105 = .ok (.iconst 1, 1) := by decide +kernel
theorem dX9_open_106 : decode cX9_open 106 = .ok (.aload_n 0, 1) := by decide +kernel
theorem dX9_open_107 : decode cX9_open 107 = .ok (.getfield 76, 3) := by decide +kernel
theorem dX9_open_110 : decode cX9_open 110 = .ok (.isub, 1) := by decide +kernel
theorem dX9_open_111 : decode cX9_open 111 = .ok (.imul, 1) := by decide +kernel
theorem dX9_open_112 : decode cX9_open 112 = .ok (.bipush 16, 2) := by decide +kernel
theorem dX9_open_114 : decode cX9_open 114 = .ok (.invokevirtual 256, 3) := by decide +kernel
theorem dX9_open_117 : decode cX9_open 117 = .ok (.aload_n 0, 1) := by decide +kernel
theorem dX9_open_118 : decode cX9_open 118 = .ok (.invokevirtual 259, 3) := by decide +kernel
theorem dX9_open_121 : decode cX9_open 121 = .ok (.istore_n 3, 1) := by decide +kernel
theorem dX9_open_122 : decode cX9_open 122 = .ok (.aload_n 0, 1) := by decide +kernel
theorem dX9_open_123 : decode cX9_open 123 = .ok (.iload_n 3, 1) := by decide +kernel
theorem dX9_open_124 : decode cX9_open 124 = .ok (.putfield 157, 3) := by decide +kernel
theorem dX9_open_127 : decode cX9_open 127 = .ok (.iload_n 3, 1) := by decide +kernel
theorem dX9_open_128 : decode cX9_open 128 = .ok (.sipush 128, 3) := by decide +kernel
theorem dX9_open_131 : decode cX9_open 131 = .ok (.if_icmp .ge 27, 3) := by decide +kernel
theorem dX9_open_134 : decode cX9_open 134 = .ok (.aload_n 0, 1) := by decide +kernel
theorem dX9_open_135 : decode cX9_open 135 = .ok (.iload_n 3, 1) := by decide +kernel
theorem dX9_open_136 : decode cX9_open 136 = .ok (.invokevirtual 160, 3) := by decide +kernel
theorem dX9_open_139 : decode cX9_open 139 = .ok (.iconst 2, 1) := by decide +kernel
theorem dX9_open_140 : decode cX9_open 140 = .ok (.if_icmp .ne 18, 3) := by decide +kernel
theorem dX9_open_143 : decode cX9_open 143 = .ok (.aload_n 0, 1) := by decide +kernel
theorem dX9_open_144 : decode cX9_open 144 = .ok (.aload_n 0, 1) := by decide +kernel
theorem dX9_open_145 : decode cX9_open 145 = .ok (.aload_n 0, 1) := by decide +kernel
theorem dX9_open_146 : decode cX9_open 146 = .ok (.getfield 76, 3) := by decide +kernel
theorem dX9_open_149 : decode cX9_open 149 = .ok (.iload_n 3, 1) := by decide +kernel
theorem dX9_open_150 : decode cX9_open 150 = .ok (.invokevirtual 146, 3) := by decide +kernel
theorem dX9_open_153 : decode cX9_open 153 = .ok (.bipush 32, 2) := by decide +kernel
theorem dX9_open_155 : decode cX9_open 155 = .ok (.invokevirtual 256, 3) := by decide +kernel
theorem dX9_open_158 : decode cX9_open 158 = .ok (.aload_n 0, 1) := by decide +kernel
theorem dX9_open_159 : decode cX9_open 159 = .ok (.invokevirtual 262, 3) := by decide +kernel
theorem dX9_open_162 : decode cX9_open 162 = .ok (.iconst 0, 1) := by decide +kernel
theorem dX9_open_163 : decode cX9_open 163 = .ok (.istore 4, 2) := by decide +kernel
theorem dX9_open_165 : decode cX9_open 165 = .ok (.iload 4, 2) := by decide +kernel
theorem dX9_open_167 : decode cX9_open 167 = .ok (.aload_n 0, 1) := by decide +kernel
theorem dX9_open_168 : decode cX9_open 168 = .ok (.getfield 62, 3) := by decide +kernel
theorem dX9_open_171 : decode cX9_open 171 = .ok (.if_icmp .ge 38, 3) := by decide +kernel
theorem dX9_open_174 : decode cX9_open 174 = .ok (.aload_n 0, 1) := by decide +kernel
theorem dX9_open_175 : decode cX9_open 175 = .ok (.getfield 108, 3) := by decide +kernel
theorem dX9_open_178 : decode cX9_open 178 = .ok (.ifCond .ne 31, 3) := by decide +kernel
theorem dX9_open_181 : decode cX9_open 181 = .ok (.aload_n 0, 1) := by decide +kernel
theorem dX9_open_182 : decode cX9_open 182 = .ok (.iload 4, 2) := by decide +kernel
theorem dX9_open_184 : decode cX9_open 184 = .ok (.invokevirtual 238, 3) := by decide +kernel
theorem dX9_open_187 : decode cX9_open 187 = .ok (.iconst 2, 1) := by decide +kernel
theorem dX9_open_188 : decode cX9_open 188 = .ok (.if_icmp .ne 15, 3) := by decide +kernel
theorem dX9_open_191 : decode cX9_open 191 = .ok (.aload_n 0, 1) := by decide +kernel
theorem dX9_open_192 : decode cX9_open 192 = .ok (.aload_n 0, 1) := by decide +kernel
theorem dX9_open_193 : decode cX9_open 193 = .ok (.iload 4, 2) := by decide +kernel
theorem dX9_open_195 : decode cX9_open 195 = .ok (.invokevirtual 154, 3) := by decide +kernel
theorem dX9_open_198 : decode cX9_open 198 = .ok (.bipush 26, 2) := by decide +kernel
theorem dX9_open_200 : decode cX9_open 200 = .ok (.invokevirtual 256, 3) := by decide +kernel
theorem dX9_open_203 : decode cX9_open 203 = .ok (.iinc 4 1, 3) := by decide +kernel
theorem dX9_open_206 : decode cX9_open 206 = .ok (.goto (-41), 3) := by decide +kernel
theorem dX9_open_209 : decode cX9_open 209 = .ok (.aload_n 0, 1) := by decide +kernel
theorem dX9_open_210 : decode cX9_open 210 = .ok (.invokevirtual 265, 3) := by decide +kernel
theorem dX9_open_213 : decode cX9_open 213 = .ok (.aload_n 0, 1) := by decide +kernel
theorem dX9_open_214 : decode cX9_open 214 = .ok (.getfield 108, 3) := by decide +kernel
theorem dX9_open_217 : decode cX9_open 217 = .ok (.ifCond .eq 6, 3) := by decide +kernel
theorem dX9_open_220 : decode cX9_open 220 = .ok (.bipush (-4), 2) := by decide +kernel
theorem dX9_open_222 : decode cX9_open 222 = .ok (.ireturn, 1) := by decide +kernel
theorem dX9_open_223 : decode cX9_open 223 = .ok (.aload_n 0, 1) := by decide +kernel
theorem dX9_open_224 : decode cX9_open 224 = .ok (.invokevirtual 163, 3) := by decide +kernel
theorem dX9_open_227 : decode cX9_open 227 = .ok (.ireturn, 1) := by decide +kernel
