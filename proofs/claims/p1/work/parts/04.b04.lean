theorem dX9_leaf_37 : decode cX9_leaf 37 = .ok (.ifCond .le 5, 3) := by decide +kernel
theorem dX9_leaf_40 : decode cX9_leaf 40 = .ok (.iconst 0, 1) := by decide +kernel
theorem dX9_leaf_41 : decode cX9_leaf 41 = .ok (.ireturn, 1) := by decide +kernel
theorem dX9_change_0 : decode cX9_change 0 = .ok (.aload_n 0, 1) := by decide +kernel
theorem dX9_change_1 : decode cX9_change 1 = .ok (.aload_n 0, 1) := by decide +kernel
theorem dX9_change_2 : decode cX9_change 2 = .ok (.getfield 72, 3) := by decide +kernel
theorem dX9_change_5 : decode cX9_change 5 = .ok (.ifCond .ne 7, 3) := by decide +kernel
theorem dX9_change_12 : decode cX9_change 12 = .ok (.iload_n 1, 1) := by decide +kernel
theorem dX9_change_13 : decode cX9_change 13 = .ok (.iconst 0, 1) := by decide +kernel
theorem dX9_change_14 : decode cX9_change 14 = .ok (.bipush 15, 2) := by decide +kernel
theorem dX9_change_16 : decode cX9_change 16 = .ok (.invokestatic 138, 3) := by decide +kernel
theorem dX9_change_19 : decode cX9_change 19 = .ok (.ifCond .eq 17, 3) := by decide +kernel
theorem dX9_change_22 : decode cX9_change 22 = .ok (.iload_n 2, 1) := by decide +kernel
theorem dX9_change_23 : decode cX9_change 23 = .ok (.iconst (-1), 1) := by decide +kernel
theorem dX9_change_24 : decode cX9_change 24 = .ok (.aload_n 0, 1) := by decide +kernel
theorem dX9_change_25 : decode cX9_change 25 = .ok (.getfield 62, 3) := by decide +kernel
theorem dX9_change_28 : decode cX9_change 28 = .ok (.iconst 1, 1) := by decide +kernel
theorem dX9_change_29 : decode cX9_change 29 = .ok (.isub, 1) := by decide +kernel
theorem dX9_change_30 : decode cX9_change 30 = .ok (.invokestatic 138, 3) := by decide +kernel
theorem dX9_change_33 : decode cX9_change 33 = .ok (.ifCond .ne 7, 3) := by decide +kernel
theorem dX9_change_36 : decode cX9_change 36 = .ok (.iconst 2, 1) := by decide +kernel
theorem dX9_change_37 : decode cX9_change 37 = .ok (.goto 4, 3) := by decide +kernel
theorem dX9_change_40 : decode cX9_change 40 = .ok (.iconst 0, 1) := by decide +kernel
theorem dX9_change_41 : decode cX9_change 41 = .ok (.putfield 91, 3) := by decide +kernel
theorem dX9_change_44 : decode cX9_change 44 = .ok (.aload_n 0, 1) := by decide +kernel
theorem dX9_change_45 : decode cX9_change 45 = .ok (.getfield 91, 3) := by decide +kernel
theorem dX9_change_48 : decode cX9_change 48 = .ok (.ifCond .le 5, 3) := by decide +kernel
theorem dX9_change_51 : decode cX9_change 51 = .ok (.iconst 0, 1) := by decide +kernel
theorem dX9_change_52 : decode cX9_change 52 = .ok (.ireturn, 1) := by decide +kernel
theorem dX9_change_53 : decode cX9_change 53 = .ok (.iload_n 2, 1) := by decide +kernel
theorem dX9_change_54 : decode cX9_change 54 = .ok (.iconst (-1), 1) := by decide +kernel
theorem dX9_change_55 : decode cX9_change 55 = .ok (.if_icmp .eq 15, 3) := by decide +kernel
theorem dX9_change_58 : decode cX9_change 58 = .ok (.aload_n 0, 1) := by decide +kernel
theorem dX9_change_59 : decode cX9_change 59 = .ok (.iload_n 2, 1) := by decide +kernel
theorem dX9_change_60 : decode cX9_change 60 = .ok (.invokevirtual 238, 3) := by decide +kernel
theorem dX9_change_63 : decode cX9_change 63 = .ok (.iconst 1, 1) := by decide +kernel
theorem dX9_change_64 : decode cX9_change 64 = .ok (.if_icmp .eq 6, 3) := by decide +kernel
theorem dX9_change_67 : decode cX9_change 67 = .ok (.bipush (-6), 2) := by decide +kernel
theorem dX9_change_69 : decode cX9_change 69 = .ok (.ireturn, 1) := by decide +kernel
theorem dX9_change_70 : decode cX9_change 70 = .ok (.aload_n 0, 1) := by decide +kernel
theorem dX9_change_71 : decode cX9_change 71 = .ok (.getfield 111, 3) := by decide +kernel
theorem dX9_change_74 : decode cX9_change 74 = .ok (.bipush 8, 2) := by decide +kernel
theorem dX9_change_76 : decode cX9_change 76 = .ok (.if_icmp .ne 6, 3) := by decide +kernel
theorem dX9_change_82 : decode cX9_change 82 = .ok (.aload_n 0, 1) := by decide +kernel
theorem dX9_change_83 : decode cX9_change 83 = .ok (.getfield 17, 3) := by decide +kernel
theorem dX9_change_86 : decode cX9_change 86 = .ok (.aload_n 0, 1) := by decide +kernel
theorem dX9_change_87 : decode cX9_change 87 = .ok (.getfield 111, 3) := by decide +kernel
theorem dX9_change_90 : decode cX9_change 90 = .ok (.iload_n 1, 1) := by decide +kernel
theorem dX9_change_91 : decode cX9_change 91 = .ok (.iastore, 1) := by decide +kernel
theorem dX9_change_92 : decode cX9_change 92 = .ok (.aload_n 0, 1) := by decide +kernel
theorem dX9_change_93 : decode cX9_change 93 = .ok (.getfield 20, 3) := by decide +kernel
theorem dX9_change_96 : decode cX9_change 96 = .ok (.aload_n 0, 1) := by decide +kernel
theorem dX9_change_97 : decode cX9_change 97 = .ok (.getfield 111, 3) := by decide +kernel
theorem dX9_change_100 : decode cX9_change 100 = .ok (.iload_n 2, 1) := by decide +kernel
theorem dX9_change_101 : decode cX9_change 101 = .ok (.iconst (-1), 1) := by decide +kernel
theorem dX9_change_102 : decode cX9_change 102 = .ok (.if_icmp .ne 7, 3) := by decide +kernel
theorem dX9_change_105 : decode cX9_change 105 = .ok (.lconst 0, 1) := by decide +kernel
theorem dX9_change_106 : decode cX9_change 106 = .ok (.goto 8, 3) := by decide +kernel
theorem dX9_change_114 : decode cX9_change 114 = .ok (.lastore, 1) := by decide +kernel
theorem dX9_change_115 : decode cX9_change 115 = .ok (.aload_n 0, 1) := by decide +kernel
theorem dX9_change_116 : decode cX9_change 116 = .ok (.dup, 1) := by decide +kernel
theorem dX9_change_117 : decode cX9_change 117 = .ok (.getfield 111, 3) := by decide +kernel
theorem dX9_change_120 : decode cX9_change 120 = .ok (.iconst 1, 1) := by decide +kernel
theorem dX9_change_121 : decode cX9_change 121 = .ok (.iadd, 1) := by decide +kernel
theorem dX9_change_122 : decode cX9_change 122 = .ok (.putfield 111, 3) := by decide +kernel
theorem dX9_change_125 : decode cX9_change 125 = .ok (.aload_n 0, 1) := by decide +kernel
theorem dX9_change_126 : decode cX9_change 126 = .ok (.getfield 111, 3) := by decide +kernel
theorem dX9_change_129 : decode cX9_change 129 = .ok (.ireturn, 1) := by decide +kernel
theorem dX9_meant_0 : decode cX9_meant 0 = .ok (.lload_n 1, 1) := by decide +kernel
theorem dX9_meant_1 : decode cX9_meant 1 = .ok (.ldc2_w 296, 3) := by decide +kernel
theorem dX9_meant_4 : decode cX9_meant 4 = .ok (.lcmp, 1) := by decide +kernel
theorem dX9_meant_5 : decode cX9_meant 5 = .ok (.ifCond .lt 46, 3) := by decide +kernel
theorem dX9_meant_8 : decode cX9_meant 8 = .ok (.lload_n 1, 1) := by decide +kernel
theorem dX9_meant_9 : decode cX9_meant 9 = .ok (.ldc2_w 298, 3) := by decide +kernel
theorem dX9_meant_12 : decode cX9_meant 12 = .ok (.lcmp, 1) := by decide +kernel
theorem dX9_meant_13 : decode cX9_meant 13 = .ok (.ifCond .gt 38, 3) := by decide +kernel
theorem dX9_meant_16 : decode cX9_meant 16 = .ok (.ldc2_w 298, 3) := by decide +kernel
theorem dX9_meant_19 : decode cX9_meant 19 = .ok (.lload_n 1, 1) := by decide +kernel
theorem dX9_meant_20 : decode cX9_meant 20 = .ok (.lsub, 1) := by decide +kernel
theorem dX9_meant_21 : decode cX9_meant 21 = .ok (.l2i, 1) := by decide +kernel
theorem dX9_meant_22 : decode cX9_meant 22 = .ok (.istore_n 3, 1) := by decide +kernel
theorem dX9_meant_23 : decode cX9_meant 23 = .ok (.iload_n 3, 1) := by decide +kernel
theorem dX9_meant_24 : decode cX9_meant 24 = .ok (.aload_n 0, 1) := by decide +kernel
theorem dX9_meant_25 : decode cX9_meant 25 = .ok (.getfield 167, 3) := by decide +kernel
theorem dX9_meant_28 : decode cX9_meant 28 = .ok (.if_icmp .ge 21, 3) := by decide +kernel
theorem dX9_meant_49 : decode cX9_meant 49 = .ok (.lconst 0, 1) := by decide +kernel
theorem dX9_meant_50 : decode cX9_meant 50 = .ok (.lreturn, 1) := by decide +kernel
theorem dX9_meant_51 : decode cX9_meant 51 = .ok (.lload_n 1, 1) := by decide +kernel
theorem dX9_meant_52 : decode cX9_meant 52 = .ok (.lreturn, 1) := by decide +kernel
theorem dX9_block_0 : decode cX9_block 0 = .ok (.aload_n 0, 1) := by decide +kernel
theorem dX9_block_1 : decode cX9_block 1 = .ok (.aload_n 0, 1) := by decide +kernel
theorem dX9_block_2 : decode cX9_block 2 = .ok (.getfield 72, 3) := by decide +kernel
theorem dX9_block_5 : decode cX9_block 5 = .ok (.ifCond .ne 7, 3) := by decide +kernel
theorem dX9_block_12 : decode cX9_block 12 = .ok (.iload_n 1, 1) := by decide +kernel
theorem dX9_block_13 : decode cX9_block 13 = .ok (.iconst 1, 1) := by decide +kernel
theorem dX9_block_14 : decode cX9_block 14 = .ok (.ldc 208, 2) := by decide +kernel
theorem dX9_block_16 : decode cX9_block 16 = .ok (.invokestatic 138, 3) := by decide +kernel
theorem dX9_block_19 : decode cX9_block 19 = .ok (.ifCond .ne 7, 3) := by decide +kernel
theorem dX9_block_22 : decode cX9_block 22 = .ok (.iconst 2, 1) := by decide +kernel
theorem dX9_block_23 : decode cX9_block 23 = .ok (.goto 4, 3) := by decide +kernel
theorem dX9_block_26 : decode cX9_block 26 = .ok (.iconst 0, 1) := by decide +kernel
theorem dX9_block_27 : decode cX9_block 27 = .ok (.putfield 91, 3) := by decide +kernel
theorem dX9_block_30 : decode cX9_block 30 = .ok (.aload_n 0, 1) := by decide +kernel
theorem dX9_block_31 : decode cX9_block 31 = .ok (.getfield 91, 3) := by decide +kernel
theorem dX9_block_34 : decode cX9_block 34 = .ok (.ifCond .le 5, 3) := by decide +kernel
theorem dX9_block_37 : decode cX9_block 37 = .ok (.iconst 0, 1) := by decide +kernel
theorem dX9_block_38 : decode cX9_block 38 = .ok (.ireturn, 1) := by decide +kernel
theorem dX9_block_39 : decode cX9_block 39 = .ok (.aload_n 0, 1) := by decide +kernel
theorem dX9_block_40 : decode cX9_block 40 = .ok (.invokevirtual 300, 3) := by decide +kernel
theorem dX9_block_43 : decode cX9_block 43 = .ok (.aload_n 0, 1) := by decide +kernel
theorem dX9_block_44 : decode cX9_block 44 = .ok (.getfield 176, 3) := by decide +kernel
theorem dX9_block_47 : decode cX9_block 47 = .ok (.ifCond .eq 6, 3) := by decide +kernel
theorem dX9_block_53 : decode cX9_block 53 = .ok (.aload_n 0, 1) := by decide +kernel
theorem dX9_block_54 : decode cX9_block 54 = .ok (.lload_n 2, 1) := by decide +kernel
theorem dX9_block_55 : decode cX9_block 55 = .ok (.invokevirtual 303, 3) := by decide +kernel
theorem dX9_block_58 : decode cX9_block 58 = .ok (.lstore 4, 2) := by decide +kernel
theorem dX9_block_60 : decode cX9_block 60 = .ok (.lload 4, 2) := by decide +kernel
theorem dX9_block_62 : decode cX9_block 62 = .ok (.lconst 0, 1) := by decide +kernel
theorem dX9_block_63 : decode cX9_block 63 = .ok (.lcmp, 1) := by decide +kernel
theorem dX9_block_64 : decode cX9_block 64 = .ok (.ifCond .ne 7, 3) := by decide +kernel
theorem dX9_block_67 : decode cX9_block 67 = .ok (.iconst (-1), 1) := by decide +kernel
theorem dX9_block_68 : decode cX9_block 68 = .ok (.goto 13, 3) := by decide +kernel
theorem dX9_block_71 : decode cX9_block 71 = .ok (.aload_n 0, 1) := by decide +kernel
theorem dX9_block_72 : decode cX9_block 72 = .ok (.lload 4, 2) := by decide +kernel
theorem dX9_block_74 : decode cX9_block 74 = .ok (.aload_n 0, 1) := by decide +kernel
theorem dX9_block_75 : decode cX9_block 75 = .ok (.getfield 167, 3) := by decide +kernel
theorem dX9_block_78 : decode cX9_block 78 = .ok (.invokevirtual 228, 3) := by decide +kernel
theorem dX9_block_81 : decode cX9_block 81 = .ok (.istore 6, 2) := by decide +kernel
theorem dX9_block_83 : decode cX9_block 83 = .ok (.iload 6, 2) := by decide +kernel
theorem dX9_block_85 : decode cX9_block 85 = .ok (.iconst (-1), 1) := by decide +kernel
theorem dX9_block_86 : decode cX9_block 86 = .ok (.if_icmp .ne 24, 3) := by decide +kernel
theorem dX9_block_89 : decode cX9_block 89 = .ok (.aload_n 0, 1) := by decide +kernel
theorem dX9_block_90 : decode cX9_block 90 = .ok (.getfield 189, 3) := by decide +kernel
theorem dX9_block_93 : decode cX9_block 93 = .ok (.ifCond .eq 17, 3) := by decide +kernel
theorem dX9_block_110 : decode cX9_block 110 = .ok (.iconst 0, 1) := by decide +kernel
theorem dX9_block_111 : decode cX9_block 111 = .ok (.istore 7, 2) := by decide +kernel
theorem dX9_block_113 : decode cX9_block 113 = .ok (.lload 4, 2) := by decide +kernel
theorem dX9_block_115 : decode cX9_block 115 = .ok (.lconst 0, 1) := by decide +kernel
theorem dX9_block_116 : decode cX9_block 116 = .ok (.lcmp, 1) := by decide +kernel
theorem dX9_block_117 : decode cX9_block 117 = .ok (.ifCond .ne 14, 3) := by decide +kernel
theorem dX9_block_120 : decode cX9_block 120 = .ok (.aload_n 0, 1) := by decide +kernel
theorem dX9_block_121 : decode cX9_block 121 = .ok (.getfield 189, 3) := by decide +kernel
theorem dX9_block_124 : decode cX9_block 124 = .ok (.ifCond .ne 7, 3) := by decide +kernel
theorem dX9_block_127 : decode cX9_block 127 = .ok (.iconst 1, 1) := by decide +kernel
theorem dX9_block_128 : decode cX9_block 128 = .ok (.goto 4, 3) := by decide +kernel
theorem dX9_block_131 : decode cX9_block 131 = .ok (.iconst 0, 1) := by decide +kernel
theorem dX9_block_132 : decode cX9_block 132 = .ok (.istore 8, 2) := by decide +kernel
theorem dX9_block_134 : decode cX9_block 134 = .ok (.iload 6, 2) := by decide +kernel
theorem dX9_block_136 : decode cX9_block 136 = .ok (.iconst (-1), 1) := by decide +kernel
theorem dX9_block_137 : decode cX9_block 137 = .ok (.if_icmp .ne 16, 3) := by decide +kernel
theorem dX9_block_140 : decode cX9_block 140 = .ok (.iload 7, 2) := by decide +kernel
theorem dX9_block_142 : decode cX9_block 142 = .ok (.ifCond .ne 11, 3) := by decide +kernel
theorem dX9_block_145 : decode cX9_block 145 = .ok (.iload 8, 2) := by decide +kernel
theorem dX9_block_147 : decode cX9_block 147 = .ok (.ifCond .ne 6, 3) := by decide +kernel
theorem dX9_block_150 : decode cX9_block 150 = .ok (.bipush (-6), 2) := by decide +kernel
theorem dX9_block_152 : decode cX9_block 152 = .ok (.ireturn, 1) := by decide +kernel
theorem dX9_block_153 : decode cX9_block 153 = .ok (.iload 6, 2) := by decide +kernel
theorem dX9_block_155 : decode cX9_block 155 = .ok (.iconst (-1), 1) := by decide +kernel
theorem dX9_block_156 : decode cX9_block 156 = .ok (.if_icmp .eq 12, 3) := by decide +kernel
theorem dX9_block_168 : decode cX9_block 168 = .ok (.iload 7, 2) := by decide +kernel
theorem dX9_block_170 : decode cX9_block 170 = .ok (.ifCond .eq 10, 3) := by decide +kernel
theorem dX9_block_180 : decode cX9_block 180 = .ok (.iconst 0, 1) := by decide +kernel
theorem dX9_block_181 : decode cX9_block 181 = .ok (.istore 9, 2) := by decide +kernel
theorem dX9_block_183 : decode cX9_block 183 = .ok (.iload_n 1, 1) := by decide +kernel
theorem dX9_block_184 : decode cX9_block 184 = .ok (.iload 9, 2) := by decide +kernel
theorem dX9_block_186 : decode cX9_block 186 = .ok (.iconst 1, 1) := by decide +kernel
theorem dX9_block_187 : decode cX9_block 187 = .ok (.iadd, 1) := by decide +kernel
theorem dX9_block_188 : decode cX9_block 188 = .ok (.if_icmp .eq 6, 3) := by decide +kernel
theorem dX9_block_191 : decode cX9_block 191 = .ok (.bipush (-10), 2) := by decide +kernel
theorem dX9_block_193 : decode cX9_block 193 = .ok (.ireturn, 1) := by decide +kernel
theorem dX9_block_194 : decode cX9_block 194 = .ok (.aload_n 0, 1) := by decide +kernel
theorem dX9_block_195 : decode cX9_block 195 = .ok (.aload_n 0, 1) := by decide +kernel
theorem dX9_block_196 : decode cX9_block 196 = .ok (.ldc2_w 222, 3) := by decide +kernel
theorem dX9_block_199 : decode cX9_block 199 = .ok (.iload_n 1, 1) := by decide +kernel
theorem dX9_block_200 : decode cX9_block 200 = .ok (.i2l, 1) := by decide +kernel
theorem dX9_block_201 : decode cX9_block 201 = .ok (.iconst 4, 1) := by decide +kernel
theorem dX9_block_202 : decode cX9_block 202 = .ok (.invokevirtual 224, 3) := by decide +kernel
theorem dX9_block_205 : decode cX9_block 205 = .ok (.lload 4, 2) := by decide +kernel
theorem dX9_block_207 : decode cX9_block 207 = .ok (.bipush 8, 2) := by decide +kernel
theorem dX9_block_209 : decode cX9_block 209 = .ok (.invokevirtual 224, 3) := by decide +kernel
theorem dX9_block_212 : decode cX9_block 212 = .ok (.lstore 10, 2) := by decide +kernel
theorem dX9_block_214 : decode cX9_block 214 = .ok (.iconst 0, 1) := by decide +kernel
theorem dX9_block_215 : decode cX9_block 215 = .ok (.istore 12, 2) := by decide +kernel
theorem dX9_block_217 : decode cX9_block 217 = .ok (.iload 12, 2) := by decide +kernel
theorem dX9_block_219 : decode cX9_block 219 = .ok (.aload_n 0, 1) := by decide +kernel
theorem dX9_block_220 : decode cX9_block 220 = .ok (.getfield 111, 3) := by decide +kernel
theorem dX9_block_223 : decode cX9_block 223 = .ok (.if_icmp .ge 39, 3) := by decide +kernel
theorem dX9_block_262 : decode cX9_block 262 = .ok (.aload_n 0, 1) := by decide +kernel
theorem dX9_block_263 : decode cX9_block 263 = .ok (.lload 10, 2) := by decide +kernel
theorem dX9_block_265 : decode cX9_block 265 = .ok (.aload_n 0, 1) := by decide +kernel
theorem dX9_block_266 : decode cX9_block 266 = .ok (.getfield 167, 3) := by decide +kernel
theorem dX9_block_269 : decode cX9_block 269 = .ok (.invokevirtual 228, 3) := by decide +kernel
theorem dX9_block_272 : decode cX9_block 272 = .ok (.istore 12, 2) := by decide +kernel
theorem dX9_block_274 : decode cX9_block 274 = .ok (.iload 12, 2) := by decide +kernel
theorem dX9_block_276 : decode cX9_block 276 = .ok (.iconst (-1), 1) := by decide +kernel
theorem dX9_block_277 : decode cX9_block 277 = .ok (.if_icmp .eq 11, 3) := by decide +kernel
theorem dX9_block_288 : decode cX9_block 288 = .ok (.aload_n 0, 1) := by decide +kernel
theorem dX9_block_289 : decode cX9_block 289 = .ok (.getfield 167, 3) := by decide +kernel
theorem dX9_block_292 : decode cX9_block 292 = .ok (.iconst 1, 1) := by decide +kernel
theorem dX9_block_293 : decode cX9_block 293 = .ok (.iadd, 1) := by decide +kernel
theorem dX9_block_294 : decode cX9_block 294 = .ok (.aload_n 0, 1) := by decide +kernel
theorem dX9_block_295 : decode cX9_block 295 = .ok (.getfield 111, 3) := by decide +kernel
theorem dX9_block_298 : decode cX9_block 298 = .ok (.iadd, 1) := by decide +kernel
theorem dX9_block_299 : decode cX9_block 299 = .ok (.sipush 128, 3) := by decide +kernel
theorem dX9_block_302 : decode cX9_block 302 = .ok (.if_icmp .le 6, 3) := by decide +kernel
theorem dX9_block_308 : decode cX9_block 308 = .ok (.aload_n 0, 1) := by decide +kernel
theorem dX9_block_309 : decode cX9_block 309 = .ok (.getfield 111, 3) := by decide +kernel
theorem dX9_block_312 : decode cX9_block 312 = .ok (.istore 13, 2) := by decide +kernel
theorem dX9_block_314 : decode cX9_block 314 = .ok (.aload_n 0, 1) := by decide +kernel
theorem dX9_block_315 : decode cX9_block 315 = .ok (.iconst 2, 1) := by decide +kernel
theorem dX9_block_316 : decode cX9_block 316 = .ok (.iload_n 1, 1) := by decide +kernel
theorem dX9_block_317 : decode cX9_block 317 = .ok (.iload 13, 2) := by decide +kernel
theorem dX9_block_319 : decode cX9_block 319 = .ok (.lload 4, 2) := by decide +kernel
theorem dX9_block_321 : decode cX9_block 321 = .ok (.invokevirtual 307, 3) := by decide +kernel
theorem dX9_block_324 : decode cX9_block 324 = .ok (.aload_n 0, 1) := by decide +kernel
theorem dX9_block_325 : decode cX9_block 325 = .ok (.aload_n 0, 1) := by decide +kernel
theorem dX9_block_326 : decode cX9_block 326 = .ok (.aload_n 0, 1) := by decide +kernel
theorem dX9_block_327 : decode cX9_block 327 = .ok (.getfield 76, 3) := by decide +kernel
theorem dX9_block_330 : decode cX9_block 330 = .ok (.aload_n 0, 1) := by decide +kernel
theorem dX9_block_331 : decode cX9_block 331 = .ok (.getfield 167, 3) := by decide +kernel
theorem dX9_block_334 : decode cX9_block 334 = .ok (.invokevirtual 146, 3) := by decide +kernel
theorem dX9_block_337 : decode cX9_block 337 = .ok (.bipush 32, 2) := by decide +kernel
theorem dX9_block_339 : decode cX9_block 339 = .ok (.invokevirtual 281, 3) := by decide +kernel
theorem dX9_block_342 : decode cX9_block 342 = .ok (.iconst 0, 1) := by decide +kernel
theorem dX9_block_343 : decode cX9_block 343 = .ok (.istore 14, 2) := by decide +kernel
theorem dX9_block_345 : decode cX9_block 345 = .ok (.iload 14, 2) := by decide +kernel
theorem dX9_block_347 : decode cX9_block 347 = .ok (.iload 13, 2) := by decide +kernel
theorem dX9_block_349 : decode cX9_block 349 = .ok (.if_icmp .ge 52, 3) := by decide +kernel
theorem dX9_block_401 : decode cX9_block 401 = .ok (.aload_n 0, 1) := by decide +kernel
theorem dX9_block_402 : decode cX9_block 402 = .ok (.iconst 0, 1) := by decide +kernel
theorem dX9_block_403 : decode cX9_block 403 = .ok (.putfield 111, 3) := by decide +kernel
theorem dX9_block_406 : decode cX9_block 406 = .ok (.aload_n 0, 1) := by decide +kernel
theorem dX9_block_407 : decode cX9_block 407 = .ok (.aload_n 0, 1) := by decide +kernel
theorem dX9_block_408 : decode cX9_block 408 = .ok (.getfield 167, 3) := by decide +kernel
theorem dX9_block_411 : decode cX9_block 411 = .ok (.iconst 1, 1) := by decide +kernel
theorem dX9_block_412 : decode cX9_block 412 = .ok (.iadd, 1) := by decide +kernel
theorem dX9_block_413 : decode cX9_block 413 = .ok (.iload 13, 2) := by decide +kernel
theorem dX9_block_415 : decode cX9_block 415 = .ok (.iadd, 1) := by decide +kernel
theorem dX9_block_416 : decode cX9_block 416 = .ok (.putfield 157, 3) := by decide +kernel
theorem dX9_block_419 : decode cX9_block 419 = .ok (.aload_n 0, 1) := by decide +kernel
theorem dX9_block_420 : decode cX9_block 420 = .ok (.getfield 108, 3) := by decide +kernel
theorem dX9_block_423 : decode cX9_block 423 = .ok (.ifCond .eq 8, 3) := by decide +kernel
theorem dX9_block_431 : decode cX9_block 431 = .ok (.aload_n 0, 1) := by decide +kernel
theorem dX9_block_432 : decode cX9_block 432 = .ok (.getfield 167, 3) := by decide +kernel
theorem dX9_block_435 : decode cX9_block 435 = .ok (.ireturn, 1) := by decide +kernel
theorem dX9_isRow_0 : decode cX9_isRow 0 = .ok (.iload_n 1, 1) := by decide +kernel
theorem dX9_isRow_1 : decode cX9_isRow 1 = .ok (.ifCond .lt 28, 3) := by decide +kernel
theorem dX9_isRow_4 : decode cX9_isRow 4 = .ok (.iload_n 1, 1) := by decide +kernel
theorem dX9_isRow_5 : decode cX9_isRow 5 = .ok (.aload_n 0, 1) := by decide +kernel
theorem dX9_isRow_6 : decode cX9_isRow 6 = .ok (.getfield 72, 3) := by decide +kernel
theorem dX9_isRow_9 : decode cX9_isRow 9 = .ok (.ifCond .eq 10, 3) := by decide +kernel
theorem dX9_isRow_12 : decode cX9_isRow 12 = .ok (.aload_n 0, 1) := by decide +kernel
theorem dX9_isRow_13 : decode cX9_isRow 13 = .ok (.invokevirtual 163, 3) := by decide +kernel
theorem dX9_isRow_16 : decode cX9_isRow 16 = .ok (.goto 6, 3) := by decide +kernel
theorem dX9_isRow_22 : decode cX9_isRow 22 = .ok (.if_icmp .ge 7, 3) := by decide +kernel
theorem dX9_isRow_29 : decode cX9_isRow 29 = .ok (.iconst 0, 1) := by decide +kernel
theorem dX9_isRow_30 : decode cX9_isRow 30 = .ok (.ireturn, 1) := by decide +kernel
theorem dX9_digest_0 : decode cX9_digest 0 = .ok (.aload_n 0, 1) := by decide +kernel
theorem dX9_digest_1 : decode cX9_digest 1 = .ok (.aload_n 0, 1) := by decide +kernel
theorem dX9_digest_2 : decode cX9_digest 2 = .ok (.iload_n 1, 1) := by decide +kernel
theorem dX9_digest_3 : decode cX9_digest 3 = .ok (.invokevirtual 311, 3) := by decide +kernel
theorem dX9_digest_6 : decode cX9_digest 6 = .ok (.ifCond .ne 7, 3) := by decide +kernel
theorem dX9_digest_9 : decode cX9_digest 9 = .ok (.iconst 1, 1) := by decide +kernel
theorem dX9_digest_10 : decode cX9_digest 10 = .ok (.goto 15, 3) := by decide +kernel
theorem dX9_digest_25 : decode cX9_digest 25 = .ok (.putfield 91, 3) := by decide +kernel
theorem dX9_digest_28 : decode cX9_digest 28 = .ok (.aload_n 0, 1) := by decide +kernel
theorem dX9_digest_29 : decode cX9_digest 29 = .ok (.getfield 91, 3) := by decide +kernel
theorem dX9_digest_32 : decode cX9_digest 32 = .ok (.ifCond .le 5, 3) := by decide +kernel
theorem dX9_digest_35 : decode cX9_digest 35 = .ok (.lconst 0, 1) := by decide +kernel
theorem dX9_digest_36 : decode cX9_digest 36 = .ok (.lreturn, 1) := by decide +kernel
theorem dX9_vote_0 : decode cX9_vote 0 = .ok (.aload_n 0, 1) := by decide +kernel
theorem dX9_vote_1 : decode cX9_vote 1 = .ok (.aload_n 0, 1) := by decide +kernel
theorem dX9_vote_2 : decode cX9_vote 2 = .ok (.getfield 72, 3) := by decide +kernel
theorem dX9_vote_5 : decode cX9_vote 5 = .ok (.ifCond .ne 7, 3) := by decide +kernel
theorem dX9_vote_12 : decode cX9_vote 12 = .ok (.iload_n 1, 1) := by decide +kernel
theorem dX9_vote_13 : decode cX9_vote 13 = .ok (.iconst 1, 1) := by decide +kernel
theorem dX9_vote_14 : decode cX9_vote 14 = .ok (.ldc 208, 2) := by decide +kernel
theorem dX9_vote_16 : decode cX9_vote 16 = .ok (.invokestatic 138, 3) := by decide +kernel
theorem dX9_vote_19 : decode cX9_vote 19 = .ok (.ifCond .eq 13, 3) := by decide +kernel
theorem dX9_vote_22 : decode cX9_vote 22 = .ok (.iload_n 2, 1) := by decide +kernel
theorem dX9_vote_23 : decode cX9_vote 23 = .ok (.iconst 0, 1) := by decide +kernel
theorem dX9_vote_24 : decode cX9_vote 24 = .ok (.ldc 208, 2) := by decide +kernel
theorem dX9_vote_26 : decode cX9_vote 26 = .ok (.invokestatic 138, 3) := by decide +kernel
theorem dX9_vote_29 : decode cX9_vote 29 = .ok (.ifCond .ne 7, 3) := by decide +kernel
theorem dX9_vote_32 : decode cX9_vote 32 = .ok (.iconst 2, 1) := by decide +kernel
theorem dX9_vote_33 : decode cX9_vote 33 = .ok (.goto 4, 3) := by decide +kernel
theorem dX9_vote_36 : decode cX9_vote 36 = .ok (.iconst 0, 1) := by decide +kernel
theorem dX9_vote_37 : decode cX9_vote 37 = .ok (.putfield 91, 3) := by decide +kernel
theorem dX9_vote_40 : decode cX9_vote 40 = .ok (.aload_n 0, 1) := by decide +kernel
theorem dX9_vote_41 : decode cX9_vote 41 = .ok (.getfield 91, 3) := by decide +kernel
theorem dX9_vote_44 : decode cX9_vote 44 = .ok (.ifCond .le 5, 3) := by decide +kernel
theorem dX9_vote_47 : decode cX9_vote 47 = .ok (.iconst 0, 1) := by decide +kernel
theorem dX9_vote_48 : decode cX9_vote 48 = .ok (.ireturn, 1) := by decide +kernel
theorem dX9_vote_49 : decode cX9_vote 49 = .ok (.aload_n 0, 1) := by decide +kernel
theorem dX9_vote_50 : decode cX9_vote 50 = .ok (.invokevirtual 300, 3) := by decide +kernel
theorem dX9_vote_53 : decode cX9_vote 53 = .ok (.aload_n 0, 1) := by decide +kernel
theorem dX9_vote_54 : decode cX9_vote 54 = .ok (.getfield 176, 3) := by decide +kernel
theorem dX9_vote_57 : decode cX9_vote 57 = .ok (.ifCond .eq 6, 3) := by decide +kernel
theorem dX9_vote_63 : decode cX9_vote 63 = .ok (.aload_n 0, 1) := by decide +kernel
theorem dX9_vote_64 : decode cX9_vote 64 = .ok (.lload_n 3, 1) := by decide +kernel
theorem dX9_vote_65 : decode cX9_vote 65 = .ok (.invokevirtual 303, 3) := by decide +kernel
theorem dX9_vote_68 : decode cX9_vote 68 = .ok (.lstore 5, 2) := by decide +kernel
theorem dX9_vote_70 : decode cX9_vote 70 = .ok (.aload_n 0, 1) := by decide +kernel
theorem dX9_vote_71 : decode cX9_vote 71 = .ok (.lload 5, 2) := by decide +kernel
theorem dX9_vote_73 : decode cX9_vote 73 = .ok (.aload_n 0, 1) := by decide +kernel
theorem dX9_vote_74 : decode cX9_vote 74 = .ok (.getfield 167, 3) := by decide +kernel
theorem dX9_vote_77 : decode cX9_vote 77 = .ok (.invokevirtual 228, 3) := by decide +kernel
theorem dX9_vote_80 : decode cX9_vote 80 = .ok (.istore 7, 2) := by decide +kernel
theorem dX9_vote_82 : decode cX9_vote 82 = .ok (.iload 7, 2) := by decide +kernel
theorem dX9_vote_84 : decode cX9_vote 84 = .ok (.iconst (-1), 1) := by decide +kernel
theorem dX9_vote_85 : decode cX9_vote 85 = .ok (.if_icmp .eq 13, 3) := by decide +kernel
theorem dX9_vote_98 : decode cX9_vote 98 = .ok (.bipush (-6), 2) := by decide +kernel
theorem dX9_vote_100 : decode cX9_vote 100 = .ok (.ireturn, 1) := by decide +kernel
theorem dX9_sent_0 : decode cX9_sent 0 = .ok (.aload_n 0, 1) := by decide +kernel
theorem dX9_sent_1 : decode cX9_sent 1 = .ok (.aload_n 0, 1) := by decide +kernel
theorem dX9_sent_2 : decode cX9_sent 2 = .ok (.iload_n 1, 1) := by decide +kernel
theorem dX9_sent_3 : decode cX9_sent 3 = .ok (.invokevirtual 311, 3) := by decide +kernel
theorem dX9_sent_6 : decode cX9_sent 6 = .ok (.ifCond .ne 7, 3) := by decide +kernel
theorem dX9_sent_9 : decode cX9_sent 9 = .ok (.iconst 1, 1) := by decide +kernel
theorem dX9_sent_10 : decode cX9_sent 10 = .ok (.goto 15, 3) := by decide +kernel
theorem dX9_sent_25 : decode cX9_sent 25 = .ok (.putfield 91, 3) := by decide +kernel
theorem dX9_sent_28 : decode cX9_sent 28 = .ok (.aload_n 0, 1) := by decide +kernel
theorem dX9_sent_29 : decode cX9_sent 29 = .ok (.getfield 91, 3) := by decide +kernel
theorem dX9_sent_32 : decode cX9_sent 32 = .ok (.ifCond .ne 25, 3) := by decide +kernel
theorem dX9_sent_57 : decode cX9_sent 57 = .ok (.iconst 0, 1) := by decide +kernel
theorem dX9_sent_58 : decode cX9_sent 58 = .ok (.ireturn, 1) := by decide +kernel
theorem dX9_certify_0 : decode cX9_certify 0 = .ok (.aload_n 0, 1) := by decide +kernel
theorem dX9_certify_1 : decode cX9_certify 1 = .ok (.aload_n 0, 1) := by decide +kernel
theorem dX9_certify_2 : decode cX9_certify 2 = .ok (.getfield 72, 3) := by decide +kernel
theorem dX9_certify_5 : decode cX9_certify 5 = .ok (.ifCond .ne 7, 3) := by decide +kernel
theorem dX9_certify_12 : decode cX9_certify 12 = .ok (.iload_n 3, 1) := by decide +kernel
theorem dX9_certify_13 : decode cX9_certify 13 = .ok (.iconst 0, 1) := by decide +kernel
theorem dX9_certify_14 : decode cX9_certify 14 = .ok (.bipush 15, 2) := by decide +kernel
theorem dX9_certify_16 : decode cX9_certify 16 = .ok (.invokestatic 138, 3) := by decide +kernel
theorem dX9_certify_19 : decode cX9_certify 19 = .ok (.ifCond .ne 7, 3) := by decide +kernel
theorem dX9_certify_22 : decode cX9_certify 22 = .ok (.iconst 2, 1) := by decide +kernel
theorem dX9_certify_23 : decode cX9_certify 23 = .ok (.goto 4, 3) := by decide +kernel
theorem dX9_certify_26 : decode cX9_certify 26 = .ok (.iconst 0, 1) := by decide +kernel
theorem dX9_certify_27 : decode cX9_certify 27 = .ok (.putfield 91, 3) := by decide +kernel
theorem dX9_certify_30 : decode cX9_certify 30 = .ok (.aload_n 0, 1) := by decide +kernel
theorem dX9_certify_31 : decode cX9_certify 31 = .ok (.getfield 91, 3) := by decide +kernel
theorem dX9_certify_34 : decode cX9_certify 34 = .ok (.ifCond .le 5, 3) := by decide +kernel
theorem dX9_certify_37 : decode cX9_certify 37 = .ok (.iconst 0, 1) := by decide +kernel
theorem dX9_certify_38 : decode cX9_certify 38 = .ok (.ireturn, 1) := by decide +kernel
theorem dX9_certify_39 : decode cX9_certify 39 = .ok (.aload_n 0, 1) := by decide +kernel
theorem dX9_certify_40 : decode cX9_certify 40 = .ok (.invokevirtual 300, 3) := by decide +kernel
theorem dX9_certify_43 : decode cX9_certify 43 = .ok (.aload_n 0, 1) := by decide +kernel
theorem dX9_certify_44 : decode cX9_certify 44 = .ok (.getfield 176, 3) := by decide +kernel
theorem dX9_certify_47 : decode cX9_certify 47 = .ok (.ifCond .eq 6, 3) := by decide +kernel
theorem dX9_certify_53 : decode cX9_certify 53 = .ok (.aload_n 0, 1) := by decide +kernel
theorem dX9_certify_54 : decode cX9_certify 54 = .ok (.aload_n 0, 1) := by decide +kernel
theorem dX9_certify_55 : decode cX9_certify 55 = .ok (.lload_n 1, 1) := by decide +kernel
theorem dX9_certify_56 : decode cX9_certify 56 = .ok (.invokevirtual 303, 3) := by decide +kernel
theorem dX9_certify_59 : decode cX9_certify 59 = .ok (.aload_n 0, 1) := by decide +kernel
theorem dX9_certify_60 : decode cX9_certify 60 = .ok (.getfield 167, 3) := by decide +kernel
theorem dX9_certify_63 : decode cX9_certify 63 = .ok (.invokevirtual 228, 3) := by decide +kernel
theorem dX9_certify_66 : decode cX9_certify 66 = .ok (.istore 4, 2) := by decide +kernel
theorem dX9_certify_68 : decode cX9_certify 68 = .ok (.iload 4, 2) := by decide +kernel
theorem dX9_certify_70 : decode cX9_certify 70 = .ok (.iconst (-1), 1) := by decide +kernel
theorem dX9_certify_71 : decode cX9_certify 71 = .ok (.if_icmp .ne 6, 3) := by decide +kernel
theorem dX9_certify_74 : decode cX9_certify 74 = .ok (.bipush (-6), 2) := by decide +kernel
theorem dX9_certify_76 : decode cX9_certify 76 = .ok (.ireturn, 1) := by decide +kernel
theorem dX9_version_0 : decode cX9_version 0 = .ok (.aload_n 0, 1) := by decide +kernel
theorem dX9_version_1 : decode cX9_version 1 = .ok (.aload_n 0, 1) := by decide +kernel
theorem dX9_version_2 : decode cX9_version 2 = .ok (.getfield 72, 3) := by decide +kernel
theorem dX9_version_5 : decode cX9_version 5 = .ok (.ifCond .ne 7, 3) := by decide +kernel
theorem dX9_version_12 : decode cX9_version 12 = .ok (.iload_n 1, 1) := by decide +kernel
theorem dX9_version_13 : decode cX9_version 13 = .ok (.iconst 0, 1) := by decide +kernel
theorem dX9_version_14 : decode cX9_version 14 = .ok (.iconst 1, 1) := by decide +kernel
theorem dX9_version_15 : decode cX9_version 15 = .ok (.invokestatic 138, 3) := by decide +kernel
theorem dX9_version_18 : decode cX9_version 18 = .ok (.ifCond .ne 7, 3) := by decide +kernel
theorem dX9_version_21 : decode cX9_version 21 = .ok (.iconst 2, 1) := by decide +kernel
theorem dX9_version_22 : decode cX9_version 22 = .ok (.goto 4, 3) := by decide +kernel
theorem dX9_version_25 : decode cX9_version 25 = .ok (.iconst 0, 1) := by decide +kernel
theorem dX9_version_26 : decode cX9_version 26 = .ok (.putfield 91, 3) := by decide +kernel
theorem dX9_version_29 : decode cX9_version 29 = .ok (.aload_n 0, 1) := by decide +kernel
theorem dX9_version_30 : decode cX9_version 30 = .ok (.getfield 91, 3) := by decide +kernel
theorem dX9_version_33 : decode cX9_version 33 = .ok (.ifCond .le 5, 3) := by decide +kernel
theorem dX9_version_36 : decode cX9_version 36 = .ok (.iconst 0, 1) := by decide +kernel
theorem dX9_version_37 : decode cX9_version 37 = .ok (.ireturn, 1) := by decide +kernel
theorem dX9_version_38 : decode cX9_version 38 = .ok (.aload_n 0, 1) := by decide +kernel
theorem dX9_version_39 : decode cX9_version 39 = .ok (.invokevirtual 300, 3) := by decide +kernel
theorem dX9_version_42 : decode cX9_version 42 = .ok (.aload_n 0, 1) := by decide +kernel
theorem dX9_version_43 : decode cX9_version 43 = .ok (.getfield 176, 3) := by decide +kernel
theorem dX9_version_46 : decode cX9_version 46 = .ok (.ifCond .eq 7, 3) := by decide +kernel
theorem dX9_version_53 : decode cX9_version 53 = .ok (.iload_n 1, 1) := by decide +kernel
theorem dX9_version_54 : decode cX9_version 54 = .ok (.ifCond .ne 10, 3) := by decide +kernel
theorem dX9_version_57 : decode cX9_version 57 = .ok (.aload_n 0, 1) := by decide +kernel
theorem dX9_version_58 : decode cX9_version 58 = .ok (.getfield 192, 3) := by decide +kernel
theorem dX9_version_61 : decode cX9_version 61 = .ok (.goto 7, 3) := by decide +kernel
theorem dX9_version_64 : decode cX9_version 64 = .ok (.aload_n 0, 1) := by decide +kernel
theorem dX9_version_65 : decode cX9_version 65 = .ok (.getfield 182, 3) := by decide +kernel
theorem dX9_version_68 : decode cX9_version 68 = .ok (.ireturn, 1) := by decide +kernel
theorem dX9_slot_0 : decode cX9_slot 0 = .ok (.aload_n 0, 1) := by decide +kernel
theorem dX9_slot_1 : decode cX9_slot 1 = .ok (.aload_n 0, 1) := by decide +kernel
theorem dX9_slot_2 : decode cX9_slot 2 = .ok (.getfield 72, 3) := by decide +kernel
theorem dX9_slot_5 : decode cX9_slot 5 = .ok (.ifCond .eq 7, 3) := by decide +kernel
theorem dX9_slot_8 : decode cX9_slot 8 = .ok (.iconst 0, 1) := by decide +kernel
theorem dX9_slot_9 : decode cX9_slot 9 = .ok (.goto 4, 3) := by decide +kernel
theorem dX9_slot_13 : decode cX9_slot 13 = .ok (.putfield 91, 3) := by decide +kernel
theorem dX9_slot_16 : decode cX9_slot 16 = .ok (.aload_n 0, 1) := by decide +kernel
theorem dX9_slot_17 : decode cX9_slot 17 = .ok (.getfield 91, 3) := by decide +kernel
theorem dX9_slot_20 : decode cX9_slot 20 = .ok (.ifCond .le 5, 3) := by decide +kernel
theorem dX9_slot_25 : decode cX9_slot 25 = .ok (.aload_n 0, 1) := by decide +kernel
theorem dX9_slot_26 : decode cX9_slot 26 = .ok (.invokevirtual 300, 3) := by decide +kernel
theorem dX9_slot_29 : decode cX9_slot 29 = .ok (.aload_n 0, 1) := by decide +kernel
theorem dX9_slot_30 : decode cX9_slot 30 = .ok (.iload_n 2, 1) := by decide +kernel
theorem dX9_slot_31 : decode cX9_slot 31 = .ok (.iconst 0, 1) := by decide +kernel
theorem dX9_slot_32 : decode cX9_slot 32 = .ok (.bipush 15, 2) := by decide +kernel
theorem dX9_slot_34 : decode cX9_slot 34 = .ok (.invokestatic 138, 3) := by decide +kernel
theorem dX9_slot_37 : decode cX9_slot 37 = .ok (.ifCond .eq 11, 3) := by decide +kernel
theorem dX9_slot_40 : decode cX9_slot 40 = .ok (.aload_n 0, 1) := by decide +kernel
theorem dX9_slot_41 : decode cX9_slot 41 = .ok (.iload_n 1, 1) := by decide +kernel
theorem dX9_slot_42 : decode cX9_slot 42 = .ok (.invokevirtual 314, 3) := by decide +kernel
theorem dX9_slot_45 : decode cX9_slot 45 = .ok (.ifCond .ne 7, 3) := by decide +kernel
theorem dX9_slot_48 : decode cX9_slot 48 = .ok (.iconst 2, 1) := by decide +kernel
theorem dX9_slot_49 : decode cX9_slot 49 = .ok (.goto 4, 3) := by decide +kernel
theorem dX9_slot_52 : decode cX9_slot 52 = .ok (.iconst 0, 1) := by decide +kernel
theorem dX9_slot_53 : decode cX9_slot 53 = .ok (.putfield 91, 3) := by decide +kernel
theorem dX9_slot_56 : decode cX9_slot 56 = .ok (.aload_n 0, 1) := by decide +kernel
theorem dX9_slot_57 : decode cX9_slot 57 = .ok (.getfield 91, 3) := by decide +kernel
theorem dX9_slot_60 : decode cX9_slot 60 = .ok (.ifCond .le 5, 3) := by decide +kernel
theorem dX9_slot_63 : decode cX9_slot 63 = .ok (.lconst 0, 1) := by decide +kernel
theorem dX9_slot_64 : decode cX9_slot 64 = .ok (.lreturn, 1) := by decide +kernel
theorem dX9_slot_65 : decode cX9_slot 65 = .ok (.aload_n 0, 1) := by decide +kernel
theorem dX9_slot_66 : decode cX9_slot 66 = .ok (.iload_n 1, 1) := by decide +kernel
theorem dX9_slot_67 : decode cX9_slot 67 = .ok (.invokevirtual 244, 3) := by decide +kernel
theorem dX9_slot_70 : decode cX9_slot 70 = .ok (.aload_n 0, 1) := by decide +kernel
theorem dX9_slot_71 : decode cX9_slot 71 = .ok (.getfield 40, 3) := by decide +kernel
theorem dX9_slot_74 : decode cX9_slot 74 = .ok (.iload_n 2, 1) := by decide +kernel
theorem dX9_slot_75 : decode cX9_slot 75 = .ok (.laload, 1) := by decide +kernel
theorem dX9_slot_76 : decode cX9_slot 76 = .ok (.lreturn, 1) := by decide +kernel
theorem dX9_page_0 : decode cX9_page 0 = .ok (.aload_n 0, 1) := by decide +kernel
theorem dX9_page_1 : decode cX9_page 1 = .ok (.aload_n 0, 1) := by decide +kernel
theorem dX9_page_2 : decode cX9_page 2 = .ok (.getfield 72, 3) := by decide +kernel
theorem dX9_page_5 : decode cX9_page 5 = .ok (.ifCond .eq 7, 3) := by decide +kernel
theorem dX9_page_8 : decode cX9_page 8 = .ok (.iconst 0, 1) := by decide +kernel
theorem dX9_page_9 : decode cX9_page 9 = .ok (.goto 4, 3) := by decide +kernel
theorem dX9_page_13 : decode cX9_page 13 = .ok (.putfield 91, 3) := by decide +kernel
theorem dX9_page_16 : decode cX9_page 16 = .ok (.aload_n 0, 1) := by decide +kernel
theorem dX9_page_17 : decode cX9_page 17 = .ok (.getfield 72, 3) := by decide +kernel
theorem dX9_page_20 : decode cX9_page 20 = .ok (.ifCond .eq 11, 3) := by decide +kernel
theorem dX9_page_23 : decode cX9_page 23 = .ok (.aload_n 0, 1) := by decide +kernel
theorem dX9_page_24 : decode cX9_page 24 = .ok (.lload_n 1, 1) := by decide +kernel
theorem dX9_page_25 : decode cX9_page 25 = .ok (.invokevirtual 317, 3) := by decide +kernel
theorem dX9_page_28 : decode cX9_page 28 = .ok (.goto 4, 3) := by decide +kernel
theorem dX9_page_32 : decode cX9_page 32 = .ok (.ireturn, 1) := by decide +kernel
theorem dX9_byteOf_0 : decode cX9_byteOf 0 = .ok (.aload_n 0, 1) := by decide +kernel
theorem dX9_byteOf_1 : decode cX9_byteOf 1 = .ok (.iload_n 1, 1) := by decide +kernel
theorem dX9_byteOf_2 : decode cX9_byteOf 2 = .ok (.iconst 0, 1) := by decide +kernel
theorem dX9_byteOf_3 : decode cX9_byteOf 3 = .ok (.aload_n 0, 1) := by decide +kernel
theorem dX9_byteOf_4 : decode cX9_byteOf 4 = .ok (.getfield 62, 3) := by decide +kernel
theorem dX9_byteOf_7 : decode cX9_byteOf 7 = .ok (.iconst 1, 1) := by decide +kernel
theorem dX9_byteOf_8 : decode cX9_byteOf 8 = .ok (.isub, 1) := by decide +kernel
theorem dX9_byteOf_9 : decode cX9_byteOf 9 = .ok (.invokestatic 138, 3) := by decide +kernel
theorem dX9_byteOf_12 : decode cX9_byteOf 12 = .ok (.ifCond .eq 13, 3) := by decide +kernel
theorem dX9_byteOf_15 : decode cX9_byteOf 15 = .ok (.iload_n 2, 1) := by decide +kernel
theorem dX9_byteOf_16 : decode cX9_byteOf 16 = .ok (.iconst 0, 1) := by decide +kernel
theorem dX9_byteOf_17 : decode cX9_byteOf 17 = .ok (.bipush 15, 2) := by decide +kernel
theorem dX9_byteOf_19 : decode cX9_byteOf 19 = .ok (.invokestatic 138, 3) := by decide +kernel
theorem dX9_byteOf_22 : decode cX9_byteOf 22 = .ok (.ifCond .ne 7, 3) := by decide +kernel
theorem dX9_byteOf_25 : decode cX9_byteOf 25 = .ok (.iconst 1, 1) := by decide +kernel
theorem dX9_byteOf_26 : decode cX9_byteOf 26 = .ok (.goto 15, 3) := by decide +kernel
theorem dX9_byteOf_29 : decode cX9_byteOf 29 = .ok (.aload_n 0, 1) := by decide +kernel
theorem dX9_byteOf_30 : decode cX9_byteOf 30 = .ok (.getfield 72, 3) := by decide +kernel
theorem dX9_byteOf_33 : decode cX9_byteOf 33 = .ok (.ifCond .ne 7, 3) := by decide +kernel
theorem dX9_byteOf_40 : decode cX9_byteOf 40 = .ok (.iconst 0, 1) := by decide +kernel
theorem dX9_byteOf_41 : decode cX9_byteOf 41 = .ok (.putfield 91, 3) := by decide +kernel
theorem dX9_byteOf_44 : decode cX9_byteOf 44 = .ok (.aload_n 0, 1) := by decide +kernel
theorem dX9_byteOf_45 : decode cX9_byteOf 45 = .ok (.getfield 91, 3) := by decide +kernel
theorem dX9_byteOf_48 : decode cX9_byteOf 48 = .ok (.ifCond .le 5, 3) := by decide +kernel
theorem dX9_byteOf_51 : decode cX9_byteOf 51 = .ok (.iconst 0, 1) := by decide +kernel
theorem dX9_byteOf_52 : decode cX9_byteOf 52 = .ok (.ireturn, 1) := by decide +kernel
theorem dX9_byteOf_53 : decode cX9_byteOf 53 = .ok (.aload_n 0, 1) := by decide +kernel
theorem dX9_byteOf_54 : decode cX9_byteOf 54 = .ok (.iload_n 1, 1) := by decide +kernel
theorem dX9_byteOf_55 : decode cX9_byteOf 55 = .ok (.invokevirtual 154, 3) := by decide +kernel
theorem dX9_byteOf_58 : decode cX9_byteOf 58 = .ok (.istore_n 3, 1) := by decide +kernel
theorem dX9_byteOf_59 : decode cX9_byteOf 59 = .ok (.aload_n 0, 1) := by decide +kernel
theorem dX9_byteOf_60 : decode cX9_byteOf 60 = .ok (.iload_n 1, 1) := by decide +kernel
theorem dX9_byteOf_61 : decode cX9_byteOf 61 = .ok (.invokevirtual 238, 3) := by decide +kernel
theorem dX9_byteOf_64 : decode cX9_byteOf 64 = .ok (.iconst 1, 1) := by decide +kernel
theorem dX9_byteOf_65 : decode cX9_byteOf 65 = .ok (.if_icmp .ne 12, 3) := by decide +kernel
theorem dX9_byteOf_77 : decode cX9_byteOf 77 = .ok (.iconst (-1), 1) := by decide +kernel
theorem dX9_byteOf_78 : decode cX9_byteOf 78 = .ok (.goto 12, 3) := by decide +kernel
theorem dX9_byteOf_90 : decode cX9_byteOf 90 = .ok (.ireturn, 1) := by decide +kernel
theorem dX9_named_0 : decode cX9_named 0 = .ok (.aload_n 0, 1) := by decide +kernel
theorem dX9_named_1 : decode cX9_named 1 = .ok (.iload_n 1, 1) := by decide +kernel
theorem dX9_named_2 : decode cX9_named 2 = .ok (.iconst 0, 1) := by decide +kernel
theorem dX9_named_3 : decode cX9_named 3 = .ok (.aload_n 0, 1) := by decide +kernel
theorem dX9_named_4 : decode cX9_named 4 = .ok (.getfield 62, 3) := by decide +kernel
theorem dX9_named_7 : decode cX9_named 7 = .ok (.iconst 1, 1) := by decide +kernel
theorem dX9_named_8 : decode cX9_named 8 = .ok (.isub, 1) := by decide +kernel
theorem dX9_named_9 : decode cX9_named 9 = .ok (.invokestatic 138, 3) := by decide +kernel
theorem dX9_named_12 : decode cX9_named 12 = .ok (.ifCond .ne 7, 3) := by decide +kernel
theorem dX9_named_15 : decode cX9_named 15 = .ok (.iconst 1, 1) := by decide +kernel
theorem dX9_named_16 : decode cX9_named 16 = .ok (.goto 15, 3) := by decide +kernel
theorem dX9_named_19 : decode cX9_named 19 = .ok (.aload_n 0, 1) := by decide +kernel
theorem dX9_named_20 : decode cX9_named 20 = .ok (.getfield 72, 3) := by decide +kernel
theorem dX9_named_23 : decode cX9_named 23 = .ok (.ifCond .ne 7, 3) := by decide +kernel
theorem dX9_named_30 : decode cX9_named 30 = .ok (.iconst 0, 1) := by decide +kernel
