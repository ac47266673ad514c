theorem dX8_writeSnapshot_106 : decode cX8_writeSnapshot 106 = .ok (.invokevirtual 233, 3) := by decide +kernel
theorem dX8_writeSnapshot_109 : decode cX8_writeSnapshot 109 = .ok (.if_icmp .gt 23, 3) := by decide +kernel
theorem dX8_writeSnapshot_112 : decode cX8_writeSnapshot 112 = .ok (.aload_n 0, 1) := by decide +kernel
theorem dX8_writeSnapshot_113 : decode cX8_writeSnapshot 113 = .ok (.getfield 13, 3) := by decide +kernel
theorem dX8_writeSnapshot_116 : decode cX8_writeSnapshot 116 = .ok (.aload_n 3, 1) := by decide +kernel
theorem dX8_writeSnapshot_117 : decode cX8_writeSnapshot 117 = .ok (.getfield 236, 3) := by decide +kernel
theorem dX8_writeSnapshot_120 : decode cX8_writeSnapshot 120 = .ok (.iload 4, 2) := by decide +kernel
theorem dX8_writeSnapshot_122 : decode cX8_writeSnapshot 122 = .ok (.baload, 1) := by decide +kernel
theorem dX8_writeSnapshot_123 : decode cX8_writeSnapshot 123 = .ok (.invokevirtual 88, 3) := by decide +kernel
theorem dX8_writeSnapshot_126 : decode cX8_writeSnapshot 126 = .ok (.iinc 4 1, 3) := by decide +kernel
theorem dX8_writeSnapshot_129 : decode cX8_writeSnapshot 129 = .ok (.goto (-26), 3) := by decide +kernel
theorem dX8_writeSnapshot_132 : decode cX8_writeSnapshot 132 = .ok (.iinc 2 1, 3) := by decide +kernel
theorem dX8_writeSnapshot_135 : decode cX8_writeSnapshot 135 = .ok (.goto (-88), 3) := by decide +kernel
theorem dX8_writeSnapshot_138 : decode cX8_writeSnapshot 138 = .ok (.aload_n 0, 1) := by decide +kernel
theorem dX8_writeSnapshot_139 : decode cX8_writeSnapshot 139 = .ok (.getfield 13, 3) := by decide +kernel
theorem dX8_writeSnapshot_142 : decode cX8_writeSnapshot 142 = .ok (.aload_n 0, 1) := by decide +kernel
theorem dX8_writeSnapshot_143 : decode cX8_writeSnapshot 143 = .ok (.getfield 13, 3) := by decide +kernel
theorem dX8_writeSnapshot_146 : decode cX8_writeSnapshot 146 = .ok (.getfield 96, 3) := by decide +kernel
theorem dX8_writeSnapshot_149 : decode cX8_writeSnapshot 149 = .ok (.iconst 0, 1) := by decide +kernel
theorem dX8_writeSnapshot_150 : decode cX8_writeSnapshot 150 = .ok (.aload_n 0, 1) := by decide +kernel
theorem dX8_writeSnapshot_151 : decode cX8_writeSnapshot 151 = .ok (.getfield 13, 3) := by decide +kernel
theorem dX8_writeSnapshot_154 : decode cX8_writeSnapshot 154 = .ok (.getfield 83, 3) := by decide +kernel
theorem dX8_writeSnapshot_157 : decode cX8_writeSnapshot 157 = .ok (.iconst 5, 1) := by decide +kernel
theorem dX8_writeSnapshot_158 : decode cX8_writeSnapshot 158 = .ok (.invokestatic 437, 3) := by decide +kernel
theorem dX8_writeSnapshot_161 : decode cX8_writeSnapshot 161 = .ok (.invokevirtual 430, 3) := by decide +kernel
theorem dX8_writeSnapshot_164 : decode cX8_writeSnapshot 164 = .ok (.return_, 1) := by decide +kernel
theorem dX8_newLeaves_0 : decode cX8_newLeaves 0 = .ok (.iconst 0, 1) := by decide +kernel
theorem dX8_newLeaves_1 : decode cX8_newLeaves 1 = .ok (.istore_n 1, 1) := by decide +kernel
theorem dX8_newLeaves_2 : decode cX8_newLeaves 2 = .ok (.iconst 0, 1) := by decide +kernel
theorem dX8_newLeaves_3 : decode cX8_newLeaves 3 = .ok (.istore_n 2, 1) := by decide +kernel
theorem dX8_newLeaves_4 : decode cX8_newLeaves 4 = .ok (.iload_n 2, 1) := by decide +kernel
theorem dX8_newLeaves_5 : decode cX8_newLeaves 5 = .ok (.aload_n 0, 1) := by decide +kernel
theorem dX8_newLeaves_6 : decode cX8_newLeaves 6 = .ok (.getfield 56, 3) := by decide +kernel
theorem dX8_newLeaves_9 : decode cX8_newLeaves 9 = .ok (.getfield 440, 3) := by decide +kernel
theorem dX8_newLeaves_12 : decode cX8_newLeaves 12 = .ok (.if_icmp .ge 64, 3) := by decide +kernel
theorem dX8_newLeaves_15 : decode cX8_newLeaves 15 = .ok (.aload_n 0, 1) := by decide +kernel
theorem dX8_newLeaves_16 : decode cX8_newLeaves 16 = .ok (.aload_n 0, 1) := by decide +kernel
theorem dX8_newLeaves_17 : decode cX8_newLeaves 17 = .ok (.getfield 56, 3) := by decide +kernel
theorem dX8_newLeaves_20 : decode cX8_newLeaves 20 = .ok (.getfield 441, 3) := by decide +kernel
theorem dX8_newLeaves_23 : decode cX8_newLeaves 23 = .ok (.iload_n 2, 1) := by decide +kernel
theorem dX8_newLeaves_24 : decode cX8_newLeaves 24 = .ok (.iaload, 1) := by decide +kernel
theorem dX8_newLeaves_25 : decode cX8_newLeaves 25 = .ok (.aload_n 0, 1) := by decide +kernel
theorem dX8_newLeaves_26 : decode cX8_newLeaves 26 = .ok (.getfield 56, 3) := by decide +kernel
theorem dX8_newLeaves_29 : decode cX8_newLeaves 29 = .ok (.getfield 444, 3) := by decide +kernel
theorem dX8_newLeaves_32 : decode cX8_newLeaves 32 = .ok (.iload_n 2, 1) := by decide +kernel
theorem dX8_newLeaves_33 : decode cX8_newLeaves 33 = .ok (.iaload, 1) := by decide +kernel
theorem dX8_newLeaves_34 : decode cX8_newLeaves 34 = .ok (.invokevirtual 108, 3) := by decide +kernel
theorem dX8_newLeaves_37 : decode cX8_newLeaves 37 = .ok (.aload_n 0, 1) := by decide +kernel
theorem dX8_newLeaves_38 : decode cX8_newLeaves 38 = .ok (.getfield 22, 3) := by decide +kernel
theorem dX8_newLeaves_41 : decode cX8_newLeaves 41 = .ok (.aload_n 0, 1) := by decide +kernel
theorem dX8_newLeaves_42 : decode cX8_newLeaves 42 = .ok (.getfield 60, 3) := by decide +kernel
theorem dX8_newLeaves_45 : decode cX8_newLeaves 45 = .ok (.invokevirtual 389, 3) := by decide +kernel
theorem dX8_newLeaves_48 : decode cX8_newLeaves 48 = .ok (.iconst (-1), 1) := by decide +kernel
theorem dX8_newLeaves_49 : decode cX8_newLeaves 49 = .ok (.if_icmp .ne 21, 3) := by decide +kernel
theorem dX8_newLeaves_52 : decode cX8_newLeaves 52 = .ok (.aload_n 0, 1) := by decide +kernel
theorem dX8_newLeaves_53 : decode cX8_newLeaves 53 = .ok (.getfield 56, 3) := by decide +kernel
theorem dX8_newLeaves_56 : decode cX8_newLeaves 56 = .ok (.iload_n 2, 1) := by decide +kernel
theorem dX8_newLeaves_57 : decode cX8_newLeaves 57 = .ok (.aload_n 0, 1) := by decide +kernel
theorem dX8_newLeaves_58 : decode cX8_newLeaves 58 = .ok (.getfield 13, 3) := by decide +kernel
theorem dX8_newLeaves_61 : decode cX8_newLeaves 61 = .ok (.invokevirtual 447, 3) := by decide +kernel
theorem dX8_newLeaves_64 : decode cX8_newLeaves 64 = .ok (.ifCond .ne 6, 3) := by decide +kernel
theorem dX8_newLeaves_67 : decode cX8_newLeaves 67 = .ok (.iinc 1 1, 3) := by decide +kernel
theorem dX8_newLeaves_70 : decode cX8_newLeaves 70 = .ok (.iinc 2 1, 3) := by decide +kernel
theorem dX8_newLeaves_73 : decode cX8_newLeaves 73 = .ok (.goto (-69), 3) := by decide +kernel
theorem dX8_newLeaves_76 : decode cX8_newLeaves 76 = .ok (.iload_n 1, 1) := by decide +kernel
theorem dX8_newLeaves_77 : decode cX8_newLeaves 77 = .ok (.ireturn, 1) := by decide +kernel
theorem dX8_isAsked_0 : decode cX8_isAsked 0 = .ok (.iload_n 1, 1) := by decide +kernel
theorem dX8_isAsked_1 : decode cX8_isAsked 1 = .ok (.ifCond .ge 5, 3) := by decide +kernel
theorem dX8_isAsked_4 : decode cX8_isAsked 4 = .ok (.iconst 0, 1) := by decide +kernel
theorem dX8_isAsked_5 : decode cX8_isAsked 5 = .ok (.ireturn, 1) := by decide +kernel
theorem dX8_isAsked_6 : decode cX8_isAsked 6 = .ok (.iload_n 1, 1) := by decide +kernel
theorem dX8_isAsked_7 : decode cX8_isAsked 7 = .ok (.sipush 128, 3) := by decide +kernel
theorem dX8_isAsked_10 : decode cX8_isAsked 10 = .ok (.if_icmp .ge 32, 3) := by decide +kernel
theorem dX8_isAsked_13 : decode cX8_isAsked 13 = .ok (.iload_n 1, 1) := by decide +kernel
theorem dX8_isAsked_14 : decode cX8_isAsked 14 = .ok (.aload_n 0, 1) := by decide +kernel
theorem dX8_isAsked_15 : decode cX8_isAsked 15 = .ok (.getfield 31, 3) := by decide +kernel
theorem dX8_isAsked_18 : decode cX8_isAsked 18 = .ok (.getfield 151, 3) := by decide +kernel
theorem dX8_isAsked_21 : decode cX8_isAsked 21 = .ok (.if_icmp .ge 19, 3) := by decide +kernel
theorem dX8_isAsked_24 : decode cX8_isAsked 24 = .ok (.aload_n 0, 1) := by decide +kernel
theorem dX8_isAsked_25 : decode cX8_isAsked 25 = .ok (.getfield 31, 3) := by decide +kernel
theorem dX8_isAsked_28 : decode cX8_isAsked 28 = .ok (.iload_n 1, 1) := by decide +kernel
theorem dX8_isAsked_29 : decode cX8_isAsked 29 = .ok (.invokevirtual 182, 3) := by decide +kernel
theorem dX8_isAsked_32 : decode cX8_isAsked 32 = .ok (.iconst 4, 1) := by decide +kernel
theorem dX8_isAsked_33 : decode cX8_isAsked 33 = .ok (.if_icmp .ne 7, 3) := by decide +kernel
theorem dX8_isAsked_36 : decode cX8_isAsked 36 = .ok (.iconst 1, 1) := by decide +kernel
theorem dX8_isAsked_37 : decode cX8_isAsked 37 = .ok (.goto 4, 3) := by decide +kernel
theorem dX8_isAsked_40 : decode cX8_isAsked 40 = .ok (.iconst 0, 1) := by decide +kernel
theorem dX8_isAsked_41 : decode cX8_isAsked 41 = .ok (.ireturn, 1) := by decide +kernel
theorem dX8_isAsked_42 : decode cX8_isAsked 42 = .ok (.aload_n 0, 1) := by decide +kernel
theorem dX8_isAsked_43 : decode cX8_isAsked 43 = .ok (.getfield 22, 3) := by decide +kernel
theorem dX8_isAsked_46 : decode cX8_isAsked 46 = .ok (.iload_n 1, 1) := by decide +kernel
theorem dX8_isAsked_47 : decode cX8_isAsked 47 = .ok (.sipush 128, 3) := by decide +kernel
theorem dX8_isAsked_50 : decode cX8_isAsked 50 = .ok (.isub, 1) := by decide +kernel
theorem dX8_isAsked_51 : decode cX8_isAsked 51 = .ok (.invokevirtual 463, 3) := by decide +kernel
theorem dX8_isAsked_54 : decode cX8_isAsked 54 = .ok (.astore_n 2, 1) := by decide +kernel
theorem dX8_isAsked_55 : decode cX8_isAsked 55 = .ok (.aload_n 2, 1) := by decide +kernel
theorem dX8_isAsked_56 : decode cX8_isAsked 56 = .ok (.ifnull 15, 3) := by decide +kernel
theorem dX8_isAsked_59 : decode cX8_isAsked 59 = .ok (.aload_n 2, 1) := by decide +kernel
theorem dX8_isAsked_60 : decode cX8_isAsked 60 = .ok (.invokevirtual 418, 3) := by decide +kernel
theorem dX8_isAsked_63 : decode cX8_isAsked 63 = .ok (.iconst 4, 1) := by decide +kernel
theorem dX8_isAsked_64 : decode cX8_isAsked 64 = .ok (.if_icmp .ne 7, 3) := by decide +kernel
theorem dX8_isAsked_67 : decode cX8_isAsked 67 = .ok (.iconst 1, 1) := by decide +kernel
theorem dX8_isAsked_68 : decode cX8_isAsked 68 = .ok (.goto 4, 3) := by decide +kernel
theorem dX8_isAsked_71 : decode cX8_isAsked 71 = .ok (.iconst 0, 1) := by decide +kernel
theorem dX8_isAsked_72 : decode cX8_isAsked 72 = .ok (.ireturn, 1) := by decide +kernel
theorem dX8_drawMendedPage_0 : decode cX8_drawMendedPage 0 = .ok (.aload_n 0, 1) := by decide +kernel
theorem dX8_drawMendedPage_1 : decode cX8_drawMendedPage 1 = .ok (.getfield 13, 3) := by decide +kernel
theorem dX8_drawMendedPage_4 : decode cX8_drawMendedPage 4 = .ok (.getfield 83, 3) := by decide +kernel
theorem dX8_drawMendedPage_7 : decode cX8_drawMendedPage 7 = .ok (.istore_n 2, 1) := by decide +kernel
theorem dX8_drawMendedPage_8 : decode cX8_drawMendedPage 8 = .ok (.aload_n 0, 1) := by decide +kernel
theorem dX8_drawMendedPage_9 : decode cX8_drawMendedPage 9 = .ok (.getfield 22, 3) := by decide +kernel
theorem dX8_drawMendedPage_12 : decode cX8_drawMendedPage 12 = .ok (.iload_n 1, 1) := by decide +kernel
theorem dX8_drawMendedPage_13 : decode cX8_drawMendedPage 13 = .ok (.invokevirtual 463, 3) := by decide +kernel
theorem dX8_drawMendedPage_16 : decode cX8_drawMendedPage 16 = .ok (.astore_n 3, 1) := by decide +kernel
theorem dX8_drawMendedPage_17 : decode cX8_drawMendedPage 17 = .ok (.iload_n 2, 1) := by decide +kernel
theorem dX8_drawMendedPage_18 : decode cX8_drawMendedPage 18 = .ok (.iconst 1, 1) := by decide +kernel
theorem dX8_drawMendedPage_19 : decode cX8_drawMendedPage 19 = .ok (.if_icmp .lt 13, 3) := by decide +kernel
theorem dX8_drawMendedPage_22 : decode cX8_drawMendedPage 22 = .ok (.iload_n 2, 1) := by decide +kernel
theorem dX8_drawMendedPage_23 : decode cX8_drawMendedPage 23 = .ok (.bipush 16, 2) := by decide +kernel
theorem dX8_drawMendedPage_25 : decode cX8_drawMendedPage 25 = .ok (.if_icmp .gt 7, 3) := by decide +kernel
theorem dX8_drawMendedPage_28 : decode cX8_drawMendedPage 28 = .ok (.aload_n 3, 1) := by decide +kernel
theorem dX8_drawMendedPage_29 : decode cX8_drawMendedPage 29 = .ok (.ifnonnull 5, 3) := by decide +kernel
theorem dX8_drawMendedPage_32 : decode cX8_drawMendedPage 32 = .ok (.iconst 0, 1) := by decide +kernel
theorem dX8_drawMendedPage_33 : decode cX8_drawMendedPage 33 = .ok (.ireturn, 1) := by decide +kernel
theorem dX8_drawMendedPage_34 : decode cX8_drawMendedPage 34 = .ok (.aload_n 0, 1) := by decide +kernel
theorem dX8_drawMendedPage_35 : decode cX8_drawMendedPage 35 = .ok (.iconst 0, 1) := by decide +kernel
theorem dX8_drawMendedPage_36 : decode cX8_drawMendedPage 36 = .ok (.iload_n 2, 1) := by decide +kernel
theorem dX8_drawMendedPage_37 : decode cX8_drawMendedPage 37 = .ok (.invokevirtual 108, 3) := by decide +kernel
theorem dX8_drawMendedPage_40 : decode cX8_drawMendedPage 40 = .ok (.aload_n 0, 1) := by decide +kernel
theorem dX8_drawMendedPage_41 : decode cX8_drawMendedPage 41 = .ok (.getfield 60, 3) := by decide +kernel
theorem dX8_drawMendedPage_44 : decode cX8_drawMendedPage 44 = .ok (.aload_n 3, 1) := by decide +kernel
theorem dX8_drawMendedPage_45 : decode cX8_drawMendedPage 45 = .ok (.getfield 236, 3) := by decide +kernel
theorem dX8_drawMendedPage_48 : decode cX8_drawMendedPage 48 = .ok (.iconst 0, 1) := by decide +kernel
theorem dX8_drawMendedPage_49 : decode cX8_drawMendedPage 49 = .ok (.bipush 17, 2) := by decide +kernel
theorem dX8_drawMendedPage_51 : decode cX8_drawMendedPage 51 = .ok (.invokestatic 466, 3) := by decide +kernel
theorem dX8_drawMendedPage_54 : decode cX8_drawMendedPage 54 = .ok (.ireturn, 1) := by decide +kernel
