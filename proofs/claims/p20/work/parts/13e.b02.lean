theorem dX9_out_195 : decode cX9_out 195 = .ok (.iconst 0, 1) := by decide +kernel
theorem dX9_out_196 : decode cX9_out 196 = .ok (.istore 5, 2) := by decide +kernel
theorem dX9_out_198 : decode cX9_out 198 = .ok (.iload 5, 2) := by decide +kernel
theorem dX9_out_200 : decode cX9_out 200 = .ok (.iload 4, 2) := by decide +kernel
theorem dX9_out_202 : decode cX9_out 202 = .ok (.if_icmp .ge 25, 3) := by decide +kernel
theorem dX9_out_205 : decode cX9_out 205 = .ok (.aload_n 0, 1) := by decide +kernel
theorem dX9_out_206 : decode cX9_out 206 = .ok (.aload_n 0, 1) := by decide +kernel
theorem dX9_out_207 : decode cX9_out 207 = .ok (.iload_n 3, 1) := by decide +kernel
theorem dX9_out_208 : decode cX9_out 208 = .ok (.iconst 1, 1) := by decide +kernel
theorem dX9_out_209 : decode cX9_out 209 = .ok (.iadd, 1) := by decide +kernel
theorem dX9_out_210 : decode cX9_out 210 = .ok (.iload 5, 2) := by decide +kernel
theorem dX9_out_212 : decode cX9_out 212 = .ok (.iadd, 1) := by decide +kernel
theorem dX9_out_213 : decode cX9_out 213 = .ok (.invokevirtual 96, 3) := by decide +kernel
theorem dX9_out_216 : decode cX9_out 216 = .ok (.i2l, 1) := by decide +kernel
theorem dX9_out_217 : decode cX9_out 217 = .ok (.iconst 1, 1) := by decide +kernel
theorem dX9_out_218 : decode cX9_out 218 = .ok (.invokevirtual 352, 3) := by decide +kernel
theorem dX9_out_221 : decode cX9_out 221 = .ok (.iinc 5 1, 3) := by decide +kernel
theorem dX9_out_224 : decode cX9_out 224 = .ok (.goto (-26), 3) := by decide +kernel
theorem dX9_out_227 : decode cX9_out 227 = .ok (.iinc 2 1, 3) := by decide +kernel
theorem dX9_out_230 : decode cX9_out 230 = .ok (.goto (-89), 3) := by decide +kernel
theorem dX9_out_233 : decode cX9_out 233 = .ok (.aload_n 0, 1) := by decide +kernel
theorem dX9_out_234 : decode cX9_out 234 = .ok (.aload_n 0, 1) := by decide +kernel
theorem dX9_out_235 : decode cX9_out 235 = .ok (.aload_n 0, 1) := by decide +kernel
theorem dX9_out_236 : decode cX9_out 236 = .ok (.getfield 271, 3) := by decide +kernel
theorem dX9_out_239 : decode cX9_out 239 = .ok (.invokevirtual 356, 3) := by decide +kernel
theorem dX9_out_242 : decode cX9_out 242 = .ok (.bipush 8, 2) := by decide +kernel
theorem dX9_out_244 : decode cX9_out 244 = .ok (.invokevirtual 352, 3) := by decide +kernel
theorem dX9_out_247 : decode cX9_out 247 = .ok (.aload_n 0, 1) := by decide +kernel
theorem dX9_out_248 : decode cX9_out 248 = .ok (.getfield 271, 3) := by decide +kernel
theorem dX9_out_251 : decode cX9_out 251 = .ok (.ireturn, 1) := by decide +kernel
theorem dX9_isSnapshot_0 : decode cX9_isSnapshot 0 = .ok (.aload_n 0, 1) := by decide +kernel
theorem dX9_isSnapshot_1 : decode cX9_isSnapshot 1 = .ok (.getfield 271, 3) := by decide +kernel
theorem dX9_isSnapshot_4 : decode cX9_isSnapshot 4 = .ok (.bipush 21, 2) := by decide +kernel
theorem dX9_isSnapshot_6 : decode cX9_isSnapshot 6 = .ok (.if_icmp .ge 5, 3) := by decide +kernel
theorem dX9_isSnapshot_9 : decode cX9_isSnapshot 9 = .ok (.iconst 0, 1) := by decide +kernel
theorem dX9_isSnapshot_10 : decode cX9_isSnapshot 10 = .ok (.ireturn, 1) := by decide +kernel
theorem dX9_isSnapshot_11 : decode cX9_isSnapshot 11 = .ok (.aload_n 0, 1) := by decide +kernel
theorem dX9_isSnapshot_12 : decode cX9_isSnapshot 12 = .ok (.iconst 0, 1) := by decide +kernel
theorem dX9_isSnapshot_13 : decode cX9_isSnapshot 13 = .ok (.iconst 4, 1) := by decide +kernel
theorem dX9_isSnapshot_14 : decode cX9_isSnapshot 14 = .ok (.invokevirtual 359, 3) := by decide +kernel
theorem dX9_isSnapshot_17 : decode cX9_isSnapshot 17 = .ok (.l2i, 1) := by decide +kernel
theorem dX9_isSnapshot_18 : decode cX9_isSnapshot 18 = .ok (.istore_n 1, 1) := by decide +kernel
theorem dX9_isSnapshot_19 : decode cX9_isSnapshot 19 = .ok (.aload_n 0, 1) := by decide +kernel
theorem dX9_isSnapshot_20 : decode cX9_isSnapshot 20 = .ok (.aload_n 0, 1) := by decide +kernel
theorem dX9_isSnapshot_21 : decode cX9_isSnapshot 21 = .ok (.getfield 14, 3) := by decide +kernel
theorem dX9_isSnapshot_24 : decode cX9_isSnapshot 24 = .ok (.bipush 12, 2) := by decide +kernel
theorem dX9_isSnapshot_26 : decode cX9_isSnapshot 26 = .ok (.iaload, 1) := by decide +kernel
theorem dX9_isSnapshot_27 : decode cX9_isSnapshot 27 = .ok (.putfield 362, 3) := by decide +kernel
theorem dX9_isSnapshot_30 : decode cX9_isSnapshot 30 = .ok (.iload_n 1, 1) := by decide +kernel
theorem dX9_isSnapshot_31 : decode cX9_isSnapshot 31 = .ok (.iconst 1, 1) := by decide +kernel
theorem dX9_isSnapshot_32 : decode cX9_isSnapshot 32 = .ok (.ldc 208, 2) := by decide +kernel
theorem dX9_isSnapshot_34 : decode cX9_isSnapshot 34 = .ok (.invokestatic 138, 3) := by decide +kernel
theorem dX9_isSnapshot_37 : decode cX9_isSnapshot 37 = .ok (.ifCond .eq 24, 3) := by decide +kernel
theorem dX9_isSnapshot_40 : decode cX9_isSnapshot 40 = .ok (.aload_n 0, 1) := by decide +kernel
theorem dX9_isSnapshot_41 : decode cX9_isSnapshot 41 = .ok (.getfield 362, 3) := by decide +kernel
theorem dX9_isSnapshot_44 : decode cX9_isSnapshot 44 = .ok (.bipush 16, 2) := by decide +kernel
theorem dX9_isSnapshot_46 : decode cX9_isSnapshot 46 = .ok (.if_icmp .gt 15, 3) := by decide +kernel
theorem dX9_isSnapshot_49 : decode cX9_isSnapshot 49 = .ok (.aload_n 0, 1) := by decide +kernel
theorem dX9_isSnapshot_50 : decode cX9_isSnapshot 50 = .ok (.iconst 4, 1) := by decide +kernel
theorem dX9_isSnapshot_51 : decode cX9_isSnapshot 51 = .ok (.bipush 8, 2) := by decide +kernel
theorem dX9_isSnapshot_53 : decode cX9_isSnapshot 53 = .ok (.invokevirtual 359, 3) := by decide +kernel
theorem dX9_isSnapshot_56 : decode cX9_isSnapshot 56 = .ok (.lconst 0, 1) := by decide +kernel
theorem dX9_isSnapshot_57 : decode cX9_isSnapshot 57 = .ok (.lcmp, 1) := by decide +kernel
theorem dX9_isSnapshot_58 : decode cX9_isSnapshot 58 = .ok (.ifCond .ne 5, 3) := by decide +kernel
theorem dX9_isSnapshot_61 : decode cX9_isSnapshot 61 = .ok (.iconst 0, 1) := by decide +kernel
theorem dX9_isSnapshot_62 : decode cX9_isSnapshot 62 = .ok (.ireturn, 1) := by decide +kernel
theorem dX9_isSnapshot_63 : decode cX9_isSnapshot 63 = .ok (.bipush 13, 2) := by decide +kernel
theorem dX9_isSnapshot_65 : decode cX9_isSnapshot 65 = .ok (.istore_n 2, 1) := by decide +kernel
theorem dX9_isSnapshot_66 : decode cX9_isSnapshot 66 = .ok (.iconst (-1), 1) := by decide +kernel
theorem dX9_isSnapshot_67 : decode cX9_isSnapshot 67 = .ok (.istore_n 3, 1) := by decide +kernel
theorem dX9_isSnapshot_68 : decode cX9_isSnapshot 68 = .ok (.iconst 0, 1) := by decide +kernel
theorem dX9_isSnapshot_69 : decode cX9_isSnapshot 69 = .ok (.istore 4, 2) := by decide +kernel
theorem dX9_isSnapshot_71 : decode cX9_isSnapshot 71 = .ok (.iload 4, 2) := by decide +kernel
theorem dX9_isSnapshot_73 : decode cX9_isSnapshot 73 = .ok (.aload_n 0, 1) := by decide +kernel
theorem dX9_isSnapshot_74 : decode cX9_isSnapshot 74 = .ok (.getfield 362, 3) := by decide +kernel
theorem dX9_isSnapshot_77 : decode cX9_isSnapshot 77 = .ok (.if_icmp .ge 134, 3) := by decide +kernel
theorem dX9_isSnapshot_80 : decode cX9_isSnapshot 80 = .ok (.iload_n 2, 1) := by decide +kernel
theorem dX9_isSnapshot_81 : decode cX9_isSnapshot 81 = .ok (.iconst 2, 1) := by decide +kernel
theorem dX9_isSnapshot_82 : decode cX9_isSnapshot 82 = .ok (.iadd, 1) := by decide +kernel
theorem dX9_isSnapshot_83 : decode cX9_isSnapshot 83 = .ok (.aload_n 0, 1) := by decide +kernel
theorem dX9_isSnapshot_84 : decode cX9_isSnapshot 84 = .ok (.getfield 271, 3) := by decide +kernel
theorem dX9_isSnapshot_87 : decode cX9_isSnapshot 87 = .ok (.bipush 8, 2) := by decide +kernel
theorem dX9_isSnapshot_89 : decode cX9_isSnapshot 89 = .ok (.isub, 1) := by decide +kernel
theorem dX9_isSnapshot_90 : decode cX9_isSnapshot 90 = .ok (.if_icmp .le 5, 3) := by decide +kernel
theorem dX9_isSnapshot_93 : decode cX9_isSnapshot 93 = .ok (.iconst 0, 1) := by decide +kernel
theorem dX9_isSnapshot_94 : decode cX9_isSnapshot 94 = .ok (.ireturn, 1) := by decide +kernel
theorem dX9_isSnapshot_95 : decode cX9_isSnapshot 95 = .ok (.aload_n 0, 1) := by decide +kernel
theorem dX9_isSnapshot_96 : decode cX9_isSnapshot 96 = .ok (.getfield 49, 3) := by decide +kernel
theorem dX9_isSnapshot_99 : decode cX9_isSnapshot 99 = .ok (.iload 4, 2) := by decide +kernel
theorem dX9_isSnapshot_101 : decode cX9_isSnapshot 101 = .ok (.aload_n 0, 1) := by decide +kernel
theorem dX9_isSnapshot_102 : decode cX9_isSnapshot 102 = .ok (.getfield 14, 3) := by decide +kernel
theorem dX9_isSnapshot_105 : decode cX9_isSnapshot 105 = .ok (.iload_n 2, 1) := by decide +kernel
theorem dX9_isSnapshot_106 : decode cX9_isSnapshot 106 = .ok (.iaload, 1) := by decide +kernel
theorem dX9_isSnapshot_107 : decode cX9_isSnapshot 107 = .ok (.iastore, 1) := by decide +kernel
theorem dX9_isSnapshot_108 : decode cX9_isSnapshot 108 = .ok (.aload_n 0, 1) := by decide +kernel
theorem dX9_isSnapshot_109 : decode cX9_isSnapshot 109 = .ok (.getfield 55, 3) := by decide +kernel
theorem dX9_isSnapshot_112 : decode cX9_isSnapshot 112 = .ok (.iload 4, 2) := by decide +kernel
theorem dX9_isSnapshot_114 : decode cX9_isSnapshot 114 = .ok (.aload_n 0, 1) := by decide +kernel
theorem dX9_isSnapshot_115 : decode cX9_isSnapshot 115 = .ok (.getfield 14, 3) := by decide +kernel
theorem dX9_isSnapshot_118 : decode cX9_isSnapshot 118 = .ok (.iload_n 2, 1) := by decide +kernel
theorem dX9_isSnapshot_119 : decode cX9_isSnapshot 119 = .ok (.iconst 1, 1) := by decide +kernel
theorem dX9_isSnapshot_120 : decode cX9_isSnapshot 120 = .ok (.iadd, 1) := by decide +kernel
theorem dX9_isSnapshot_121 : decode cX9_isSnapshot 121 = .ok (.iaload, 1) := by decide +kernel
theorem dX9_isSnapshot_122 : decode cX9_isSnapshot 122 = .ok (.iastore, 1) := by decide +kernel
theorem dX9_isSnapshot_123 : decode cX9_isSnapshot 123 = .ok (.aload_n 0, 1) := by decide +kernel
theorem dX9_isSnapshot_124 : decode cX9_isSnapshot 124 = .ok (.getfield 52, 3) := by decide +kernel
theorem dX9_isSnapshot_127 : decode cX9_isSnapshot 127 = .ok (.iload 4, 2) := by decide +kernel
theorem dX9_isSnapshot_129 : decode cX9_isSnapshot 129 = .ok (.iload_n 2, 1) := by decide +kernel
theorem dX9_isSnapshot_130 : decode cX9_isSnapshot 130 = .ok (.iconst 2, 1) := by decide +kernel
theorem dX9_isSnapshot_131 : decode cX9_isSnapshot 131 = .ok (.iadd, 1) := by decide +kernel
theorem dX9_isSnapshot_132 : decode cX9_isSnapshot 132 = .ok (.iastore, 1) := by decide +kernel
theorem dX9_isSnapshot_133 : decode cX9_isSnapshot 133 = .ok (.iload_n 2, 1) := by decide +kernel
theorem dX9_isSnapshot_134 : decode cX9_isSnapshot 134 = .ok (.iconst 2, 1) := by decide +kernel
theorem dX9_isSnapshot_135 : decode cX9_isSnapshot 135 = .ok (.aload_n 0, 1) := by decide +kernel
theorem dX9_isSnapshot_136 : decode cX9_isSnapshot 136 = .ok (.getfield 55, 3) := by decide +kernel
theorem dX9_isSnapshot_139 : decode cX9_isSnapshot 139 = .ok (.iload 4, 2) := by decide +kernel
theorem dX9_isSnapshot_141 : decode cX9_isSnapshot 141 = .ok (.iaload, 1) := by decide +kernel
theorem dX9_isSnapshot_142 : decode cX9_isSnapshot 142 = .ok (.iadd, 1) := by decide +kernel
theorem dX9_isSnapshot_143 : decode cX9_isSnapshot 143 = .ok (.iadd, 1) := by decide +kernel
theorem dX9_isSnapshot_144 : decode cX9_isSnapshot 144 = .ok (.istore_n 2, 1) := by decide +kernel
theorem dX9_isSnapshot_145 : decode cX9_isSnapshot 145 = .ok (.aload_n 0, 1) := by decide +kernel
theorem dX9_isSnapshot_146 : decode cX9_isSnapshot 146 = .ok (.getfield 49, 3) := by decide +kernel
theorem dX9_isSnapshot_149 : decode cX9_isSnapshot 149 = .ok (.iload 4, 2) := by decide +kernel
theorem dX9_isSnapshot_151 : decode cX9_isSnapshot 151 = .ok (.iaload, 1) := by decide +kernel
theorem dX9_isSnapshot_152 : decode cX9_isSnapshot 152 = .ok (.iload_n 3, 1) := by decide +kernel
theorem dX9_isSnapshot_153 : decode cX9_isSnapshot 153 = .ok (.if_icmp .le 42, 3) := by decide +kernel
theorem dX9_isSnapshot_156 : decode cX9_isSnapshot 156 = .ok (.aload_n 0, 1) := by decide +kernel
theorem dX9_isSnapshot_157 : decode cX9_isSnapshot 157 = .ok (.getfield 49, 3) := by decide +kernel
theorem dX9_isSnapshot_160 : decode cX9_isSnapshot 160 = .ok (.iload 4, 2) := by decide +kernel
theorem dX9_isSnapshot_162 : decode cX9_isSnapshot 162 = .ok (.iaload, 1) := by decide +kernel
theorem dX9_isSnapshot_163 : decode cX9_isSnapshot 163 = .ok (.bipush 15, 2) := by decide +kernel
theorem dX9_isSnapshot_165 : decode cX9_isSnapshot 165 = .ok (.if_icmp .gt 30, 3) := by decide +kernel
theorem dX9_isSnapshot_168 : decode cX9_isSnapshot 168 = .ok (.aload_n 0, 1) := by decide +kernel
theorem dX9_isSnapshot_169 : decode cX9_isSnapshot 169 = .ok (.getfield 55, 3) := by decide +kernel
theorem dX9_isSnapshot_172 : decode cX9_isSnapshot 172 = .ok (.iload 4, 2) := by decide +kernel
theorem dX9_isSnapshot_174 : decode cX9_isSnapshot 174 = .ok (.iaload, 1) := by decide +kernel
theorem dX9_isSnapshot_175 : decode cX9_isSnapshot 175 = .ok (.iconst 1, 1) := by decide +kernel
theorem dX9_isSnapshot_176 : decode cX9_isSnapshot 176 = .ok (.bipush 16, 2) := by decide +kernel
theorem dX9_isSnapshot_178 : decode cX9_isSnapshot 178 = .ok (.invokestatic 138, 3) := by decide +kernel
theorem dX9_isSnapshot_181 : decode cX9_isSnapshot 181 = .ok (.ifCond .eq 14, 3) := by decide +kernel
theorem dX9_isSnapshot_184 : decode cX9_isSnapshot 184 = .ok (.iload_n 2, 1) := by decide +kernel
theorem dX9_isSnapshot_185 : decode cX9_isSnapshot 185 = .ok (.aload_n 0, 1) := by decide +kernel
theorem dX9_isSnapshot_186 : decode cX9_isSnapshot 186 = .ok (.getfield 271, 3) := by decide +kernel
theorem dX9_isSnapshot_189 : decode cX9_isSnapshot 189 = .ok (.bipush 8, 2) := by decide +kernel
theorem dX9_isSnapshot_191 : decode cX9_isSnapshot 191 = .ok (.isub, 1) := by decide +kernel
theorem dX9_isSnapshot_192 : decode cX9_isSnapshot 192 = .ok (.if_icmp .le 5, 3) := by decide +kernel
theorem dX9_isSnapshot_195 : decode cX9_isSnapshot 195 = .ok (.iconst 0, 1) := by decide +kernel
theorem dX9_isSnapshot_196 : decode cX9_isSnapshot 196 = .ok (.ireturn, 1) := by decide +kernel
theorem dX9_isSnapshot_197 : decode cX9_isSnapshot 197 = .ok (.aload_n 0, 1) := by decide +kernel
theorem dX9_isSnapshot_198 : decode cX9_isSnapshot 198 = .ok (.getfield 49, 3) := by decide +kernel
theorem dX9_isSnapshot_201 : decode cX9_isSnapshot 201 = .ok (.iload 4, 2) := by decide +kernel
theorem dX9_isSnapshot_203 : decode cX9_isSnapshot 203 = .ok (.iaload, 1) := by decide +kernel
theorem dX9_isSnapshot_204 : decode cX9_isSnapshot 204 = .ok (.istore_n 3, 1) := by decide +kernel
theorem dX9_isSnapshot_205 : decode cX9_isSnapshot 205 = .ok (.iinc 4 1, 3) := by decide +kernel
theorem dX9_isSnapshot_208 : decode cX9_isSnapshot 208 = .ok (.goto (-137), 3) := by decide +kernel
theorem dX9_isSnapshot_211 : decode cX9_isSnapshot 211 = .ok (.iload_n 2, 1) := by decide +kernel
theorem dX9_isSnapshot_212 : decode cX9_isSnapshot 212 = .ok (.aload_n 0, 1) := by decide +kernel
theorem dX9_isSnapshot_213 : decode cX9_isSnapshot 213 = .ok (.getfield 271, 3) := by decide +kernel
theorem dX9_isSnapshot_216 : decode cX9_isSnapshot 216 = .ok (.bipush 8, 2) := by decide +kernel
theorem dX9_isSnapshot_218 : decode cX9_isSnapshot 218 = .ok (.isub, 1) := by decide +kernel
theorem dX9_isSnapshot_219 : decode cX9_isSnapshot 219 = .ok (.if_icmp .ne 23, 3) := by decide +kernel
theorem dX9_isSnapshot_222 : decode cX9_isSnapshot 222 = .ok (.aload_n 0, 1) := by decide +kernel
theorem dX9_isSnapshot_223 : decode cX9_isSnapshot 223 = .ok (.iload_n 2, 1) := by decide +kernel
theorem dX9_isSnapshot_224 : decode cX9_isSnapshot 224 = .ok (.bipush 8, 2) := by decide +kernel
theorem dX9_isSnapshot_226 : decode cX9_isSnapshot 226 = .ok (.invokevirtual 359, 3) := by decide +kernel
theorem dX9_isSnapshot_229 : decode cX9_isSnapshot 229 = .ok (.aload_n 0, 1) := by decide +kernel
theorem dX9_isSnapshot_230 : decode cX9_isSnapshot 230 = .ok (.iload_n 2, 1) := by decide +kernel
theorem dX9_isSnapshot_231 : decode cX9_isSnapshot 231 = .ok (.invokevirtual 356, 3) := by decide +kernel
theorem dX9_isSnapshot_234 : decode cX9_isSnapshot 234 = .ok (.lcmp, 1) := by decide +kernel
theorem dX9_isSnapshot_235 : decode cX9_isSnapshot 235 = .ok (.ifCond .ne 7, 3) := by decide +kernel
theorem dX9_isSnapshot_238 : decode cX9_isSnapshot 238 = .ok (.iconst 1, 1) := by decide +kernel
theorem dX9_isSnapshot_239 : decode cX9_isSnapshot 239 = .ok (.goto 4, 3) := by decide +kernel
theorem dX9_isSnapshot_242 : decode cX9_isSnapshot 242 = .ok (.iconst 0, 1) := by decide +kernel
theorem dX9_isSnapshot_243 : decode cX9_isSnapshot 243 = .ok (.ireturn, 1) := by decide +kernel
theorem dX9_layIn_0 : decode cX9_layIn 0 = .ok (.aload_n 0, 1) := by decide +kernel
theorem dX9_layIn_1 : decode cX9_layIn 1 = .ok (.getfield 24, 3) := by decide +kernel
theorem dX9_layIn_4 : decode cX9_layIn 4 = .ok (.iconst 0, 1) := by decide +kernel
theorem dX9_layIn_5 : decode cX9_layIn 5 = .ok (.aload_n 0, 1) := by decide +kernel
theorem dX9_layIn_6 : decode cX9_layIn 6 = .ok (.getfield 55, 3) := by decide +kernel
theorem dX9_layIn_9 : decode cX9_layIn 9 = .ok (.iload_n 1, 1) := by decide +kernel
theorem dX9_layIn_10 : decode cX9_layIn 10 = .ok (.iaload, 1) := by decide +kernel
theorem dX9_layIn_11 : decode cX9_layIn 11 = .ok (.iastore, 1) := by decide +kernel
theorem dX9_layIn_12 : decode cX9_layIn 12 = .ok (.iconst 0, 1) := by decide +kernel
theorem dX9_layIn_13 : decode cX9_layIn 13 = .ok (.istore_n 2, 1) := by decide +kernel
theorem dX9_layIn_14 : decode cX9_layIn 14 = .ok (.iload_n 2, 1) := by decide +kernel
theorem dX9_layIn_15 : decode cX9_layIn 15 = .ok (.bipush 16, 2) := by decide +kernel
theorem dX9_layIn_17 : decode cX9_layIn 17 = .ok (.if_icmp .ge 44, 3) := by decide +kernel
theorem dX9_layIn_20 : decode cX9_layIn 20 = .ok (.aload_n 0, 1) := by decide +kernel
theorem dX9_layIn_21 : decode cX9_layIn 21 = .ok (.getfield 24, 3) := by decide +kernel
theorem dX9_layIn_24 : decode cX9_layIn 24 = .ok (.iconst 1, 1) := by decide +kernel
theorem dX9_layIn_25 : decode cX9_layIn 25 = .ok (.iload_n 2, 1) := by decide +kernel
theorem dX9_layIn_26 : decode cX9_layIn 26 = .ok (.iadd, 1) := by decide +kernel
theorem dX9_layIn_27 : decode cX9_layIn 27 = .ok (.iload_n 2, 1) := by decide +kernel
theorem dX9_layIn_28 : decode cX9_layIn 28 = .ok (.aload_n 0, 1) := by decide +kernel
theorem dX9_layIn_29 : decode cX9_layIn 29 = .ok (.getfield 55, 3) := by decide +kernel
theorem dX9_layIn_32 : decode cX9_layIn 32 = .ok (.iload_n 1, 1) := by decide +kernel
theorem dX9_layIn_33 : decode cX9_layIn 33 = .ok (.iaload, 1) := by decide +kernel
theorem dX9_layIn_34 : decode cX9_layIn 34 = .ok (.if_icmp .ge 19, 3) := by decide +kernel
theorem dX9_layIn_37 : decode cX9_layIn 37 = .ok (.aload_n 0, 1) := by decide +kernel
theorem dX9_layIn_38 : decode cX9_layIn 38 = .ok (.getfield 14, 3) := by decide +kernel
theorem dX9_layIn_41 : decode cX9_layIn 41 = .ok (.aload_n 0, 1) := by decide +kernel
theorem dX9_layIn_42 : decode cX9_layIn 42 = .ok (.getfield 52, 3) := by decide +kernel
theorem dX9_layIn_45 : decode cX9_layIn 45 = .ok (.iload_n 1, 1) := by decide +kernel
theorem dX9_layIn_46 : decode cX9_layIn 46 = .ok (.iaload, 1) := by decide +kernel
theorem dX9_layIn_47 : decode cX9_layIn 47 = .ok (.iload_n 2, 1) := by decide +kernel
theorem dX9_layIn_48 : decode cX9_layIn 48 = .ok (.iadd, 1) := by decide +kernel
theorem dX9_layIn_49 : decode cX9_layIn 49 = .ok (.iaload, 1) := by decide +kernel
theorem dX9_layIn_50 : decode cX9_layIn 50 = .ok (.goto 4, 3) := by decide +kernel
theorem dX9_layIn_53 : decode cX9_layIn 53 = .ok (.iconst 0, 1) := by decide +kernel
theorem dX9_layIn_54 : decode cX9_layIn 54 = .ok (.iastore, 1) := by decide +kernel
theorem dX9_layIn_55 : decode cX9_layIn 55 = .ok (.iinc 2 1, 3) := by decide +kernel
theorem dX9_layIn_58 : decode cX9_layIn 58 = .ok (.goto (-44), 3) := by decide +kernel
theorem dX9_layIn_61 : decode cX9_layIn 61 = .ok (.aload_n 0, 1) := by decide +kernel
theorem dX9_layIn_62 : decode cX9_layIn 62 = .ok (.getfield 58, 3) := by decide +kernel
theorem dX9_layIn_65 : decode cX9_layIn 65 = .ok (.iload_n 1, 1) := by decide +kernel
theorem dX9_layIn_66 : decode cX9_layIn 66 = .ok (.aload_n 0, 1) := by decide +kernel
theorem dX9_layIn_67 : decode cX9_layIn 67 = .ok (.iconst 3, 1) := by decide +kernel
theorem dX9_layIn_68 : decode cX9_layIn 68 = .ok (.bipush 17, 2) := by decide +kernel
theorem dX9_layIn_70 : decode cX9_layIn 70 = .ok (.invokevirtual 124, 3) := by decide +kernel
theorem dX9_layIn_73 : decode cX9_layIn 73 = .ok (.lastore, 1) := by decide +kernel
theorem dX9_layIn_74 : decode cX9_layIn 74 = .ok (.aload_n 0, 1) := by decide +kernel
theorem dX9_layIn_75 : decode cX9_layIn 75 = .ok (.bipush 17, 2) := by decide +kernel
theorem dX9_layIn_77 : decode cX9_layIn 77 = .ok (.aload_n 0, 1) := by decide +kernel
theorem dX9_layIn_78 : decode cX9_layIn 78 = .ok (.getfield 58, 3) := by decide +kernel
theorem dX9_layIn_81 : decode cX9_layIn 81 = .ok (.iload_n 1, 1) := by decide +kernel
theorem dX9_layIn_82 : decode cX9_layIn 82 = .ok (.laload, 1) := by decide +kernel
theorem dX9_layIn_83 : decode cX9_layIn 83 = .ok (.bipush 8, 2) := by decide +kernel
theorem dX9_layIn_85 : decode cX9_layIn 85 = .ok (.invokevirtual 121, 3) := by decide +kernel
theorem dX9_layIn_88 : decode cX9_layIn 88 = .ok (.aload_n 0, 1) := by decide +kernel
theorem dX9_layIn_89 : decode cX9_layIn 89 = .ok (.getfield 24, 3) := by decide +kernel
theorem dX9_layIn_92 : decode cX9_layIn 92 = .ok (.bipush 25, 2) := by decide +kernel
theorem dX9_layIn_94 : decode cX9_layIn 94 = .ok (.sipush 165, 3) := by decide +kernel
theorem dX9_layIn_97 : decode cX9_layIn 97 = .ok (.iastore, 1) := by decide +kernel
theorem dX9_layIn_98 : decode cX9_layIn 98 = .ok (.return_, 1) := by decide +kernel
theorem dX9_isSameIn_0 : decode cX9_isSameIn 0 = .ok (.aload_n 0, 1) := by decide +kernel
theorem dX9_isSameIn_1 : decode cX9_isSameIn 1 = .ok (.getfield 55, 3) := by decide +kernel
theorem dX9_isSameIn_4 : decode cX9_isSameIn 4 = .ok (.iload_n 1, 1) := by decide +kernel
theorem dX9_isSameIn_5 : decode cX9_isSameIn 5 = .ok (.iaload, 1) := by decide +kernel
theorem dX9_isSameIn_6 : decode cX9_isSameIn 6 = .ok (.aload_n 0, 1) := by decide +kernel
theorem dX9_isSameIn_7 : decode cX9_isSameIn 7 = .ok (.getfield 55, 3) := by decide +kernel
theorem dX9_isSameIn_10 : decode cX9_isSameIn 10 = .ok (.iload_n 2, 1) := by decide +kernel
theorem dX9_isSameIn_11 : decode cX9_isSameIn 11 = .ok (.iaload, 1) := by decide +kernel
theorem dX9_isSameIn_12 : decode cX9_isSameIn 12 = .ok (.if_icmp .eq 5, 3) := by decide +kernel
theorem dX9_isSameIn_15 : decode cX9_isSameIn 15 = .ok (.iconst 0, 1) := by decide +kernel
theorem dX9_isSameIn_16 : decode cX9_isSameIn 16 = .ok (.ireturn, 1) := by decide +kernel
theorem dX9_isSameIn_17 : decode cX9_isSameIn 17 = .ok (.iconst 0, 1) := by decide +kernel
theorem dX9_isSameIn_18 : decode cX9_isSameIn 18 = .ok (.istore_n 3, 1) := by decide +kernel
theorem dX9_isSameIn_19 : decode cX9_isSameIn 19 = .ok (.iload_n 3, 1) := by decide +kernel
theorem dX9_isSameIn_20 : decode cX9_isSameIn 20 = .ok (.aload_n 0, 1) := by decide +kernel
theorem dX9_isSameIn_21 : decode cX9_isSameIn 21 = .ok (.getfield 55, 3) := by decide +kernel
theorem dX9_isSameIn_24 : decode cX9_isSameIn 24 = .ok (.iload_n 1, 1) := by decide +kernel
theorem dX9_isSameIn_25 : decode cX9_isSameIn 25 = .ok (.iaload, 1) := by decide +kernel
theorem dX9_isSameIn_26 : decode cX9_isSameIn 26 = .ok (.if_icmp .ge 40, 3) := by decide +kernel
theorem dX9_isSameIn_29 : decode cX9_isSameIn 29 = .ok (.aload_n 0, 1) := by decide +kernel
theorem dX9_isSameIn_30 : decode cX9_isSameIn 30 = .ok (.getfield 14, 3) := by decide +kernel
theorem dX9_isSameIn_33 : decode cX9_isSameIn 33 = .ok (.aload_n 0, 1) := by decide +kernel
theorem dX9_isSameIn_34 : decode cX9_isSameIn 34 = .ok (.getfield 52, 3) := by decide +kernel
theorem dX9_isSameIn_37 : decode cX9_isSameIn 37 = .ok (.iload_n 1, 1) := by decide +kernel
theorem dX9_isSameIn_38 : decode cX9_isSameIn 38 = .ok (.iaload, 1) := by decide +kernel
theorem dX9_isSameIn_39 : decode cX9_isSameIn 39 = .ok (.iload_n 3, 1) := by decide +kernel
theorem dX9_isSameIn_40 : decode cX9_isSameIn 40 = .ok (.iadd, 1) := by decide +kernel
theorem dX9_isSameIn_41 : decode cX9_isSameIn 41 = .ok (.iaload, 1) := by decide +kernel
theorem dX9_isSameIn_42 : decode cX9_isSameIn 42 = .ok (.aload_n 0, 1) := by decide +kernel
theorem dX9_isSameIn_43 : decode cX9_isSameIn 43 = .ok (.getfield 14, 3) := by decide +kernel
theorem dX9_isSameIn_46 : decode cX9_isSameIn 46 = .ok (.aload_n 0, 1) := by decide +kernel
theorem dX9_isSameIn_47 : decode cX9_isSameIn 47 = .ok (.getfield 52, 3) := by decide +kernel
theorem dX9_isSameIn_50 : decode cX9_isSameIn 50 = .ok (.iload_n 2, 1) := by decide +kernel
theorem dX9_isSameIn_51 : decode cX9_isSameIn 51 = .ok (.iaload, 1) := by decide +kernel
theorem dX9_isSameIn_52 : decode cX9_isSameIn 52 = .ok (.iload_n 3, 1) := by decide +kernel
theorem dX9_isSameIn_53 : decode cX9_isSameIn 53 = .ok (.iadd, 1) := by decide +kernel
theorem dX9_isSameIn_54 : decode cX9_isSameIn 54 = .ok (.iaload, 1) := by decide +kernel
theorem dX9_isSameIn_55 : decode cX9_isSameIn 55 = .ok (.if_icmp .eq 5, 3) := by decide +kernel
theorem dX9_isSameIn_58 : decode cX9_isSameIn 58 = .ok (.iconst 0, 1) := by decide +kernel
theorem dX9_isSameIn_59 : decode cX9_isSameIn 59 = .ok (.ireturn, 1) := by decide +kernel
theorem dX9_isSameIn_60 : decode cX9_isSameIn 60 = .ok (.iinc 3 1, 3) := by decide +kernel
theorem dX9_isSameIn_63 : decode cX9_isSameIn 63 = .ok (.goto (-44), 3) := by decide +kernel
theorem dX9_isSameIn_66 : decode cX9_isSameIn 66 = .ok (.iconst 1, 1) := by decide +kernel
theorem dX9_isSameIn_67 : decode cX9_isSameIn 67 = .ok (.ireturn, 1) := by decide +kernel
theorem dX9_in_0 : decode cX9_in 0 = .ok (.aload_n 0, 1) := by decide +kernel
theorem dX9_in_1 : decode cX9_in 1 = .ok (.aload_n 0, 1) := by decide +kernel
theorem dX9_in_2 : decode cX9_in 2 = .ok (.getfield 72, 3) := by decide +kernel
theorem dX9_in_5 : decode cX9_in 5 = .ok (.ifCond .eq 7, 3) := by decide +kernel
theorem dX9_in_8 : decode cX9_in 8 = .ok (.iconst 0, 1) := by decide +kernel
theorem dX9_in_9 : decode cX9_in 9 = .ok (.goto 4, 3) := by decide +kernel
theorem dX9_in_12 : decode cX9_in 12 = .ok (.iconst 1, 1) := by decide +kernel
theorem dX9_in_13 : decode cX9_in 13 = .ok (.putfield 91, 3) := by decide +kernel
theorem dX9_in_16 : decode cX9_in 16 = .ok (.aload_n 0, 1) := by decide +kernel
theorem dX9_in_17 : decode cX9_in 17 = .ok (.getfield 91, 3) := by decide +kernel
theorem dX9_in_20 : decode cX9_in 20 = .ok (.ifCond .le 5, 3) := by decide +kernel
theorem dX9_in_23 : decode cX9_in 23 = .ok (.iconst 0, 1) := by decide +kernel
theorem dX9_in_24 : decode cX9_in 24 = .ok (.ireturn, 1) := by decide +kernel
theorem dX9_in_25 : decode cX9_in 25 = .ok (.aload_n 0, 1) := by decide +kernel
theorem dX9_in_26 : decode cX9_in 26 = .ok (.invokevirtual 173, 3) := by decide +kernel
theorem dX9_in_29 : decode cX9_in 29 = .ok (.ifCond .le 6, 3) := by decide +kernel
theorem dX9_in_32 : decode cX9_in 32 = .ok (.bipush (-3), 2) := by decide +kernel
theorem dX9_in_34 : decode cX9_in 34 = .ok (.ireturn, 1) := by decide +kernel
theorem dX9_in_35 : decode cX9_in 35 = .ok (.aload_n 0, 1) := by decide +kernel
theorem dX9_in_36 : decode cX9_in 36 = .ok (.invokevirtual 163, 3) := by decide +kernel
theorem dX9_in_39 : decode cX9_in 39 = .ok (.ifCond .le 6, 3) := by decide +kernel
theorem dX9_in_42 : decode cX9_in 42 = .ok (.bipush (-9), 2) := by decide +kernel
theorem dX9_in_44 : decode cX9_in 44 = .ok (.ireturn, 1) := by decide +kernel
theorem dX9_in_45 : decode cX9_in 45 = .ok (.aload_n 0, 1) := by decide +kernel
theorem dX9_in_46 : decode cX9_in 46 = .ok (.invokevirtual 365, 3) := by decide +kernel
theorem dX9_in_49 : decode cX9_in 49 = .ok (.ifCond .ne 6, 3) := by decide +kernel
theorem dX9_in_52 : decode cX9_in 52 = .ok (.bipush (-10), 2) := by decide +kernel
theorem dX9_in_54 : decode cX9_in 54 = .ok (.ireturn, 1) := by decide +kernel
theorem dX9_in_55 : decode cX9_in 55 = .ok (.iconst 0, 1) := by decide +kernel
theorem dX9_in_56 : decode cX9_in 56 = .ok (.istore_n 1, 1) := by decide +kernel
theorem dX9_in_57 : decode cX9_in 57 = .ok (.iconst 0, 1) := by decide +kernel
theorem dX9_in_58 : decode cX9_in 58 = .ok (.istore_n 2, 1) := by decide +kernel
theorem dX9_in_59 : decode cX9_in 59 = .ok (.iload_n 2, 1) := by decide +kernel
theorem dX9_in_60 : decode cX9_in 60 = .ok (.aload_n 0, 1) := by decide +kernel
theorem dX9_in_61 : decode cX9_in 61 = .ok (.getfield 362, 3) := by decide +kernel
theorem dX9_in_64 : decode cX9_in 64 = .ok (.if_icmp .ge 61, 3) := by decide +kernel
theorem dX9_in_67 : decode cX9_in 67 = .ok (.iconst 0, 1) := by decide +kernel
theorem dX9_in_68 : decode cX9_in 68 = .ok (.istore_n 3, 1) := by decide +kernel
theorem dX9_in_69 : decode cX9_in 69 = .ok (.iconst 0, 1) := by decide +kernel
theorem dX9_in_70 : decode cX9_in 70 = .ok (.istore 4, 2) := by decide +kernel
theorem dX9_in_72 : decode cX9_in 72 = .ok (.iload 4, 2) := by decide +kernel
theorem dX9_in_74 : decode cX9_in 74 = .ok (.iload_n 2, 1) := by decide +kernel
theorem dX9_in_75 : decode cX9_in 75 = .ok (.if_icmp .ge 19, 3) := by decide +kernel
theorem dX9_in_78 : decode cX9_in 78 = .ok (.iload_n 3, 1) := by decide +kernel
theorem dX9_in_79 : decode cX9_in 79 = .ok (.aload_n 0, 1) := by decide +kernel
theorem dX9_in_80 : decode cX9_in 80 = .ok (.iload 4, 2) := by decide +kernel
theorem dX9_in_82 : decode cX9_in 82 = .ok (.iload_n 2, 1) := by decide +kernel
theorem dX9_in_83 : decode cX9_in 83 = .ok (.invokevirtual 368, 3) := by decide +kernel
theorem dX9_in_86 : decode cX9_in 86 = .ok (.ior, 1) := by decide +kernel
theorem dX9_in_87 : decode cX9_in 87 = .ok (.istore_n 3, 1) := by decide +kernel
theorem dX9_in_88 : decode cX9_in 88 = .ok (.iinc 4 1, 3) := by decide +kernel
theorem dX9_in_91 : decode cX9_in 91 = .ok (.goto (-19), 3) := by decide +kernel
theorem dX9_in_94 : decode cX9_in 94 = .ok (.aload_n 0, 1) := by decide +kernel
theorem dX9_in_95 : decode cX9_in 95 = .ok (.iload_n 2, 1) := by decide +kernel
theorem dX9_in_96 : decode cX9_in 96 = .ok (.invokevirtual 371, 3) := by decide +kernel
theorem dX9_in_99 : decode cX9_in 99 = .ok (.iload_n 1, 1) := by decide +kernel
theorem dX9_in_100 : decode cX9_in 100 = .ok (.iload_n 3, 1) := by decide +kernel
theorem dX9_in_101 : decode cX9_in 101 = .ok (.ifCond .ne 11, 3) := by decide +kernel
theorem dX9_in_104 : decode cX9_in 104 = .ok (.aload_n 0, 1) := by decide +kernel
theorem dX9_in_105 : decode cX9_in 105 = .ok (.invokevirtual 290, 3) := by decide +kernel
theorem dX9_in_108 : decode cX9_in 108 = .ok (.iconst (-1), 1) := by decide +kernel
theorem dX9_in_109 : decode cX9_in 109 = .ok (.if_icmp .eq 7, 3) := by decide +kernel
theorem dX9_in_112 : decode cX9_in 112 = .ok (.iconst 0, 1) := by decide +kernel
theorem dX9_in_113 : decode cX9_in 113 = .ok (.goto 4, 3) := by decide +kernel
theorem dX9_in_116 : decode cX9_in 116 = .ok (.iconst 1, 1) := by decide +kernel
theorem dX9_in_117 : decode cX9_in 117 = .ok (.iadd, 1) := by decide +kernel
theorem dX9_in_118 : decode cX9_in 118 = .ok (.istore_n 1, 1) := by decide +kernel
theorem dX9_in_119 : decode cX9_in 119 = .ok (.iinc 2 1, 3) := by decide +kernel
theorem dX9_in_122 : decode cX9_in 122 = .ok (.goto (-63), 3) := by decide +kernel
theorem dX9_in_125 : decode cX9_in 125 = .ok (.iload_n 1, 1) := by decide +kernel
theorem dX9_in_126 : decode cX9_in 126 = .ok (.aload_n 0, 1) := by decide +kernel
theorem dX9_in_127 : decode cX9_in 127 = .ok (.invokevirtual 374, 3) := by decide +kernel
theorem dX9_in_130 : decode cX9_in 130 = .ok (.if_icmp .le 6, 3) := by decide +kernel
theorem dX9_in_133 : decode cX9_in 133 = .ok (.bipush (-2), 2) := by decide +kernel
theorem dX9_in_135 : decode cX9_in 135 = .ok (.ireturn, 1) := by decide +kernel
theorem dX9_in_136 : decode cX9_in 136 = .ok (.aload_n 0, 1) := by decide +kernel
theorem dX9_in_137 : decode cX9_in 137 = .ok (.iconst 0, 1) := by decide +kernel
theorem dX9_in_138 : decode cX9_in 138 = .ok (.iconst 4, 1) := by decide +kernel
theorem dX9_in_139 : decode cX9_in 139 = .ok (.invokevirtual 359, 3) := by decide +kernel
theorem dX9_in_142 : decode cX9_in 142 = .ok (.l2i, 1) := by decide +kernel
theorem dX9_in_143 : decode cX9_in 143 = .ok (.istore_n 2, 1) := by decide +kernel
theorem dX9_in_144 : decode cX9_in 144 = .ok (.aload_n 0, 1) := by decide +kernel
theorem dX9_in_145 : decode cX9_in 145 = .ok (.iconst 4, 1) := by decide +kernel
theorem dX9_in_146 : decode cX9_in 146 = .ok (.bipush 8, 2) := by decide +kernel
theorem dX9_in_148 : decode cX9_in 148 = .ok (.invokevirtual 359, 3) := by decide +kernel
theorem dX9_in_151 : decode cX9_in 151 = .ok (.lstore_n 3, 1) := by decide +kernel
theorem dX9_in_152 : decode cX9_in 152 = .ok (.iconst 0, 1) := by decide +kernel
theorem dX9_in_153 : decode cX9_in 153 = .ok (.istore 5, 2) := by decide +kernel
theorem dX9_in_155 : decode cX9_in 155 = .ok (.iload 5, 2) := by decide +kernel
theorem dX9_in_157 : decode cX9_in 157 = .ok (.aload_n 0, 1) := by decide +kernel
theorem dX9_in_158 : decode cX9_in 158 = .ok (.getfield 362, 3) := by decide +kernel
theorem dX9_in_161 : decode cX9_in 161 = .ok (.if_icmp .ge 44, 3) := by decide +kernel
theorem dX9_in_164 : decode cX9_in 164 = .ok (.aload_n 0, 1) := by decide +kernel
theorem dX9_in_165 : decode cX9_in 165 = .ok (.getfield 108, 3) := by decide +kernel
theorem dX9_in_168 : decode cX9_in 168 = .ok (.ifCond .ne 37, 3) := by decide +kernel
theorem dX9_in_171 : decode cX9_in 171 = .ok (.aload_n 0, 1) := by decide +kernel
theorem dX9_in_172 : decode cX9_in 172 = .ok (.iload 5, 2) := by decide +kernel
theorem dX9_in_174 : decode cX9_in 174 = .ok (.invokevirtual 371, 3) := by decide +kernel
theorem dX9_in_177 : decode cX9_in 177 = .ok (.aload_n 0, 1) := by decide +kernel
theorem dX9_in_178 : decode cX9_in 178 = .ok (.invokevirtual 290, 3) := by decide +kernel
theorem dX9_in_181 : decode cX9_in 181 = .ok (.iconst (-1), 1) := by decide +kernel
theorem dX9_in_182 : decode cX9_in 182 = .ok (.if_icmp .ne 17, 3) := by decide +kernel
theorem dX9_in_185 : decode cX9_in 185 = .ok (.aload_n 0, 1) := by decide +kernel
theorem dX9_in_186 : decode cX9_in 186 = .ok (.aload_n 0, 1) := by decide +kernel
theorem dX9_in_187 : decode cX9_in 187 = .ok (.aload_n 0, 1) := by decide +kernel
theorem dX9_in_188 : decode cX9_in 188 = .ok (.invokevirtual 293, 3) := by decide +kernel
theorem dX9_in_191 : decode cX9_in 191 = .ok (.invokevirtual 154, 3) := by decide +kernel
theorem dX9_in_194 : decode cX9_in 194 = .ok (.bipush 26, 2) := by decide +kernel
theorem dX9_in_196 : decode cX9_in 196 = .ok (.invokevirtual 281, 3) := by decide +kernel
theorem dX9_in_199 : decode cX9_in 199 = .ok (.iinc 5 1, 3) := by decide +kernel
theorem dX9_in_202 : decode cX9_in 202 = .ok (.goto (-47), 3) := by decide +kernel
theorem dX9_in_205 : decode cX9_in 205 = .ok (.aload_n 0, 1) := by decide +kernel
theorem dX9_in_206 : decode cX9_in 206 = .ok (.iconst 0, 1) := by decide +kernel
theorem dX9_in_207 : decode cX9_in 207 = .ok (.putfield 271, 3) := by decide +kernel
theorem dX9_in_210 : decode cX9_in 210 = .ok (.aload_n 0, 1) := by decide +kernel
theorem dX9_in_211 : decode cX9_in 211 = .ok (.iconst 5, 1) := by decide +kernel
theorem dX9_in_212 : decode cX9_in 212 = .ok (.iload_n 2, 1) := by decide +kernel
theorem dX9_in_213 : decode cX9_in 213 = .ok (.aload_n 0, 1) := by decide +kernel
theorem dX9_in_214 : decode cX9_in 214 = .ok (.getfield 362, 3) := by decide +kernel
theorem dX9_in_217 : decode cX9_in 217 = .ok (.lload_n 3, 1) := by decide +kernel
theorem dX9_in_218 : decode cX9_in 218 = .ok (.invokevirtual 307, 3) := by decide +kernel
theorem dX9_in_221 : decode cX9_in 221 = .ok (.aload_n 0, 1) := by decide +kernel
theorem dX9_in_222 : decode cX9_in 222 = .ok (.aload_n 0, 1) := by decide +kernel
theorem dX9_in_223 : decode cX9_in 223 = .ok (.aload_n 0, 1) := by decide +kernel
theorem dX9_in_224 : decode cX9_in 224 = .ok (.getfield 76, 3) := by decide +kernel
theorem dX9_in_227 : decode cX9_in 227 = .ok (.iconst 0, 1) := by decide +kernel
theorem dX9_in_228 : decode cX9_in 228 = .ok (.invokevirtual 146, 3) := by decide +kernel
theorem dX9_in_231 : decode cX9_in 231 = .ok (.bipush 32, 2) := by decide +kernel
theorem dX9_in_233 : decode cX9_in 233 = .ok (.invokevirtual 281, 3) := by decide +kernel
theorem dX9_in_236 : decode cX9_in 236 = .ok (.iconst 0, 1) := by decide +kernel
theorem dX9_in_237 : decode cX9_in 237 = .ok (.istore 5, 2) := by decide +kernel
theorem dX9_in_239 : decode cX9_in 239 = .ok (.iload 5, 2) := by decide +kernel
theorem dX9_in_241 : decode cX9_in 241 = .ok (.aload_n 0, 1) := by decide +kernel
theorem dX9_in_242 : decode cX9_in 242 = .ok (.getfield 362, 3) := by decide +kernel
theorem dX9_in_245 : decode cX9_in 245 = .ok (.if_icmp .ge 47, 3) := by decide +kernel
theorem dX9_in_248 : decode cX9_in 248 = .ok (.aload_n 0, 1) := by decide +kernel
theorem dX9_in_249 : decode cX9_in 249 = .ok (.iconst 3, 1) := by decide +kernel
theorem dX9_in_250 : decode cX9_in 250 = .ok (.aload_n 0, 1) := by decide +kernel
theorem dX9_in_251 : decode cX9_in 251 = .ok (.getfield 49, 3) := by decide +kernel
theorem dX9_in_254 : decode cX9_in 254 = .ok (.iload 5, 2) := by decide +kernel
theorem dX9_in_256 : decode cX9_in 256 = .ok (.iaload, 1) := by decide +kernel
theorem dX9_in_257 : decode cX9_in 257 = .ok (.iconst 0, 1) := by decide +kernel
theorem dX9_in_258 : decode cX9_in 258 = .ok (.aload_n 0, 1) := by decide +kernel
theorem dX9_in_259 : decode cX9_in 259 = .ok (.getfield 58, 3) := by decide +kernel
theorem dX9_in_262 : decode cX9_in 262 = .ok (.iload 5, 2) := by decide +kernel
theorem dX9_in_264 : decode cX9_in 264 = .ok (.laload, 1) := by decide +kernel
theorem dX9_in_265 : decode cX9_in 265 = .ok (.invokevirtual 307, 3) := by decide +kernel
theorem dX9_in_268 : decode cX9_in 268 = .ok (.aload_n 0, 1) := by decide +kernel
theorem dX9_in_269 : decode cX9_in 269 = .ok (.aload_n 0, 1) := by decide +kernel
theorem dX9_in_270 : decode cX9_in 270 = .ok (.aload_n 0, 1) := by decide +kernel
theorem dX9_in_271 : decode cX9_in 271 = .ok (.getfield 76, 3) := by decide +kernel
theorem dX9_in_274 : decode cX9_in 274 = .ok (.iconst 1, 1) := by decide +kernel
theorem dX9_in_275 : decode cX9_in 275 = .ok (.iload 5, 2) := by decide +kernel
theorem dX9_in_277 : decode cX9_in 277 = .ok (.iadd, 1) := by decide +kernel
theorem dX9_in_278 : decode cX9_in 278 = .ok (.invokevirtual 146, 3) := by decide +kernel
theorem dX9_in_281 : decode cX9_in 281 = .ok (.bipush 32, 2) := by decide +kernel
theorem dX9_in_283 : decode cX9_in 283 = .ok (.invokevirtual 281, 3) := by decide +kernel
theorem dX9_in_286 : decode cX9_in 286 = .ok (.iinc 5 1, 3) := by decide +kernel
theorem dX9_in_289 : decode cX9_in 289 = .ok (.goto (-50), 3) := by decide +kernel
theorem dX9_in_292 : decode cX9_in 292 = .ok (.aload_n 0, 1) := by decide +kernel
theorem dX9_in_293 : decode cX9_in 293 = .ok (.iconst 1, 1) := by decide +kernel
theorem dX9_in_294 : decode cX9_in 294 = .ok (.aload_n 0, 1) := by decide +kernel
theorem dX9_in_295 : decode cX9_in 295 = .ok (.getfield 362, 3) := by decide +kernel
theorem dX9_in_298 : decode cX9_in 298 = .ok (.iadd, 1) := by decide +kernel
theorem dX9_in_299 : decode cX9_in 299 = .ok (.putfield 157, 3) := by decide +kernel
theorem dX9_in_302 : decode cX9_in 302 = .ok (.aload_n 0, 1) := by decide +kernel
theorem dX9_in_303 : decode cX9_in 303 = .ok (.getfield 108, 3) := by decide +kernel
theorem dX9_in_306 : decode cX9_in 306 = .ok (.ifCond .eq 8, 3) := by decide +kernel
theorem dX9_in_309 : decode cX9_in 309 = .ok (.bipush (-4), 2) := by decide +kernel
theorem dX9_in_311 : decode cX9_in 311 = .ok (.goto 4, 3) := by decide +kernel
theorem dX9_in_314 : decode cX9_in 314 = .ok (.iload_n 2, 1) := by decide +kernel
theorem dX9_in_315 : decode cX9_in 315 = .ok (.ireturn, 1) := by decide +kernel
