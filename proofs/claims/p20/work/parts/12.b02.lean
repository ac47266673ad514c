theorem dX9_cut_12 : decode cX9_cut 12 = .ok (.iconst 0, 1) := by decide +kernel
theorem dX9_cut_13 : decode cX9_cut 13 = .ok (.goto 4, 3) := by decide +kernel
theorem dX9_cut_16 : decode cX9_cut 16 = .ok (.iconst 1, 1) := by decide +kernel
theorem dX9_cut_17 : decode cX9_cut 17 = .ok (.putfield 91, 3) := by decide +kernel
theorem dX9_cut_20 : decode cX9_cut 20 = .ok (.aload_n 0, 1) := by decide +kernel
theorem dX9_cut_21 : decode cX9_cut 21 = .ok (.aload_n 0, 1) := by decide +kernel
theorem dX9_cut_22 : decode cX9_cut 22 = .ok (.getfield 91, 3) := by decide +kernel
theorem dX9_cut_25 : decode cX9_cut 25 = .ok (.ifCond .le 10, 3) := by decide +kernel
theorem dX9_cut_28 : decode cX9_cut 28 = .ok (.aload_n 0, 1) := by decide +kernel
theorem dX9_cut_29 : decode cX9_cut 29 = .ok (.getfield 69, 3) := by decide +kernel
theorem dX9_cut_32 : decode cX9_cut 32 = .ok (.goto 4, 3) := by decide +kernel
theorem dX9_cut_35 : decode cX9_cut 35 = .ok (.iload_n 1, 1) := by decide +kernel
theorem dX9_cut_36 : decode cX9_cut 36 = .ok (.putfield 69, 3) := by decide +kernel
theorem dX9_cut_39 : decode cX9_cut 39 = .ok (.return_, 1) := by decide +kernel
theorem dX9_off_0 : decode cX9_off 0 = .ok (.aload_n 0, 1) := by decide +kernel
theorem dX9_off_1 : decode cX9_off 1 = .ok (.iconst 0, 1) := by decide +kernel
theorem dX9_off_2 : decode cX9_off 2 = .ok (.putfield 91, 3) := by decide +kernel
theorem dX9_off_5 : decode cX9_off 5 = .ok (.aload_n 0, 1) := by decide +kernel
theorem dX9_off_6 : decode cX9_off 6 = .ok (.getfield 72, 3) := by decide +kernel
theorem dX9_off_9 : decode cX9_off 9 = .ok (.istore_n 1, 1) := by decide +kernel
theorem dX9_off_10 : decode cX9_off 10 = .ok (.aload_n 0, 1) := by decide +kernel
theorem dX9_off_11 : decode cX9_off 11 = .ok (.iconst 0, 1) := by decide +kernel
theorem dX9_off_12 : decode cX9_off 12 = .ok (.putfield 72, 3) := by decide +kernel
theorem dX9_off_15 : decode cX9_off 15 = .ok (.aload_n 0, 1) := by decide +kernel
theorem dX9_off_16 : decode cX9_off 16 = .ok (.iconst 0, 1) := by decide +kernel
theorem dX9_off_17 : decode cX9_off 17 = .ok (.putfield 111, 3) := by decide +kernel
theorem dX9_off_20 : decode cX9_off 20 = .ok (.iload_n 1, 1) := by decide +kernel
theorem dX9_off_21 : decode cX9_off 21 = .ok (.ireturn, 1) := by decide +kernel
theorem dX9_poke_0 : decode cX9_poke 0 = .ok (.aload_n 0, 1) := by decide +kernel
theorem dX9_poke_1 : decode cX9_poke 1 = .ok (.iload_n 1, 1) := by decide +kernel
theorem dX9_poke_2 : decode cX9_poke 2 = .ok (.iconst 0, 1) := by decide +kernel
theorem dX9_poke_3 : decode cX9_poke 3 = .ok (.aload_n 0, 1) := by decide +kernel
theorem dX9_poke_4 : decode cX9_poke 4 = .ok (.getfield 66, 3) := by decide +kernel
theorem dX9_poke_7 : decode cX9_poke 7 = .ok (.iconst 1, 1) := by decide +kernel
theorem dX9_poke_8 : decode cX9_poke 8 = .ok (.isub, 1) := by decide +kernel
theorem dX9_poke_9 : decode cX9_poke 9 = .ok (.invokestatic 138, 3) := by decide +kernel
theorem dX9_poke_12 : decode cX9_poke 12 = .ok (.ifCond .ne 7, 3) := by decide +kernel
theorem dX9_poke_15 : decode cX9_poke 15 = .ok (.iconst 1, 1) := by decide +kernel
theorem dX9_poke_16 : decode cX9_poke 16 = .ok (.goto 30, 3) := by decide +kernel
theorem dX9_poke_19 : decode cX9_poke 19 = .ok (.aload_n 0, 1) := by decide +kernel
theorem dX9_poke_20 : decode cX9_poke 20 = .ok (.getfield 72, 3) := by decide +kernel
theorem dX9_poke_23 : decode cX9_poke 23 = .ok (.ifCond .eq 7, 3) := by decide +kernel
theorem dX9_poke_26 : decode cX9_poke 26 = .ok (.iconst 2, 1) := by decide +kernel
theorem dX9_poke_27 : decode cX9_poke 27 = .ok (.goto 19, 3) := by decide +kernel
theorem dX9_poke_30 : decode cX9_poke 30 = .ok (.iload_n 2, 1) := by decide +kernel
theorem dX9_poke_31 : decode cX9_poke 31 = .ok (.iconst 0, 1) := by decide +kernel
theorem dX9_poke_32 : decode cX9_poke 32 = .ok (.sipush 255, 3) := by decide +kernel
theorem dX9_poke_35 : decode cX9_poke 35 = .ok (.invokestatic 138, 3) := by decide +kernel
theorem dX9_poke_38 : decode cX9_poke 38 = .ok (.ifCond .ne 7, 3) := by decide +kernel
theorem dX9_poke_41 : decode cX9_poke 41 = .ok (.iconst 3, 1) := by decide +kernel
theorem dX9_poke_42 : decode cX9_poke 42 = .ok (.goto 4, 3) := by decide +kernel
theorem dX9_poke_45 : decode cX9_poke 45 = .ok (.iconst 0, 1) := by decide +kernel
theorem dX9_poke_46 : decode cX9_poke 46 = .ok (.putfield 91, 3) := by decide +kernel
theorem dX9_poke_49 : decode cX9_poke 49 = .ok (.aload_n 0, 1) := by decide +kernel
theorem dX9_poke_50 : decode cX9_poke 50 = .ok (.getfield 91, 3) := by decide +kernel
theorem dX9_poke_53 : decode cX9_poke 53 = .ok (.ifCond .le 5, 3) := by decide +kernel
theorem dX9_poke_56 : decode cX9_poke 56 = .ok (.iconst 0, 1) := by decide +kernel
theorem dX9_poke_57 : decode cX9_poke 57 = .ok (.ireturn, 1) := by decide +kernel
theorem dX9_poke_58 : decode cX9_poke 58 = .ok (.aload_n 0, 1) := by decide +kernel
theorem dX9_poke_59 : decode cX9_poke 59 = .ok (.iload_n 1, 1) := by decide +kernel
theorem dX9_poke_60 : decode cX9_poke 60 = .ok (.aload_n 0, 1) := by decide +kernel
theorem dX9_poke_61 : decode cX9_poke 61 = .ok (.iload_n 1, 1) := by decide +kernel
theorem dX9_poke_62 : decode cX9_poke 62 = .ok (.invokevirtual 96, 3) := by decide +kernel
theorem dX9_poke_65 : decode cX9_poke 65 = .ok (.iload_n 2, 1) := by decide +kernel
theorem dX9_poke_66 : decode cX9_poke 66 = .ok (.ixor, 1) := by decide +kernel
theorem dX9_poke_67 : decode cX9_poke 67 = .ok (.invokevirtual 83, 3) := by decide +kernel
theorem dX9_poke_70 : decode cX9_poke 70 = .ok (.aload_n 0, 1) := by decide +kernel
theorem dX9_poke_71 : decode cX9_poke 71 = .ok (.iload_n 1, 1) := by decide +kernel
theorem dX9_poke_72 : decode cX9_poke 72 = .ok (.invokevirtual 96, 3) := by decide +kernel
theorem dX9_poke_75 : decode cX9_poke 75 = .ok (.ireturn, 1) := by decide +kernel
theorem dX9_byteAt_0 : decode cX9_byteAt 0 = .ok (.aload_n 0, 1) := by decide +kernel
theorem dX9_byteAt_1 : decode cX9_byteAt 1 = .ok (.iload_n 1, 1) := by decide +kernel
theorem dX9_byteAt_2 : decode cX9_byteAt 2 = .ok (.iconst 0, 1) := by decide +kernel
theorem dX9_byteAt_3 : decode cX9_byteAt 3 = .ok (.aload_n 0, 1) := by decide +kernel
theorem dX9_byteAt_4 : decode cX9_byteAt 4 = .ok (.getfield 66, 3) := by decide +kernel
theorem dX9_byteAt_7 : decode cX9_byteAt 7 = .ok (.iconst 1, 1) := by decide +kernel
theorem dX9_byteAt_8 : decode cX9_byteAt 8 = .ok (.isub, 1) := by decide +kernel
theorem dX9_byteAt_9 : decode cX9_byteAt 9 = .ok (.invokestatic 138, 3) := by decide +kernel
theorem dX9_byteAt_12 : decode cX9_byteAt 12 = .ok (.ifCond .eq 7, 3) := by decide +kernel
theorem dX9_byteAt_15 : decode cX9_byteAt 15 = .ok (.iconst 0, 1) := by decide +kernel
theorem dX9_byteAt_16 : decode cX9_byteAt 16 = .ok (.goto 4, 3) := by decide +kernel
theorem dX9_byteAt_19 : decode cX9_byteAt 19 = .ok (.iconst 1, 1) := by decide +kernel
theorem dX9_byteAt_20 : decode cX9_byteAt 20 = .ok (.putfield 91, 3) := by decide +kernel
theorem dX9_byteAt_23 : decode cX9_byteAt 23 = .ok (.aload_n 0, 1) := by decide +kernel
theorem dX9_byteAt_24 : decode cX9_byteAt 24 = .ok (.getfield 91, 3) := by decide +kernel
theorem dX9_byteAt_27 : decode cX9_byteAt 27 = .ok (.ifCond .le 7, 3) := by decide +kernel
theorem dX9_byteAt_30 : decode cX9_byteAt 30 = .ok (.iconst 0, 1) := by decide +kernel
theorem dX9_byteAt_31 : decode cX9_byteAt 31 = .ok (.goto 8, 3) := by decide +kernel
theorem dX9_byteAt_34 : decode cX9_byteAt 34 = .ok (.aload_n 0, 1) := by decide +kernel
theorem dX9_byteAt_35 : decode cX9_byteAt 35 = .ok (.iload_n 1, 1) := by decide +kernel
theorem dX9_byteAt_36 : decode cX9_byteAt 36 = .ok (.invokevirtual 96, 3) := by decide +kernel
theorem dX9_byteAt_39 : decode cX9_byteAt 39 = .ok (.ireturn, 1) := by decide +kernel
theorem dX9_told_0 : decode cX9_told 0 = .ok (.aload_n 0, 1) := by decide +kernel
theorem dX9_told_1 : decode cX9_told 1 = .ok (.iload_n 1, 1) := by decide +kernel
theorem dX9_told_2 : decode cX9_told 2 = .ok (.iconst 0, 1) := by decide +kernel
theorem dX9_told_3 : decode cX9_told 3 = .ok (.bipush 8, 2) := by decide +kernel
theorem dX9_told_5 : decode cX9_told 5 = .ok (.invokestatic 138, 3) := by decide +kernel
theorem dX9_told_8 : decode cX9_told 8 = .ok (.ifCond .eq 7, 3) := by decide +kernel
theorem dX9_told_11 : decode cX9_told 11 = .ok (.iconst 0, 1) := by decide +kernel
theorem dX9_told_12 : decode cX9_told 12 = .ok (.goto 4, 3) := by decide +kernel
theorem dX9_told_15 : decode cX9_told 15 = .ok (.iconst 1, 1) := by decide +kernel
theorem dX9_told_16 : decode cX9_told 16 = .ok (.putfield 91, 3) := by decide +kernel
theorem dX9_told_19 : decode cX9_told 19 = .ok (.aload_n 0, 1) := by decide +kernel
theorem dX9_told_20 : decode cX9_told 20 = .ok (.getfield 91, 3) := by decide +kernel
theorem dX9_told_23 : decode cX9_told 23 = .ok (.ifCond .le 5, 3) := by decide +kernel
theorem dX9_told_26 : decode cX9_told 26 = .ok (.iconst 0, 1) := by decide +kernel
theorem dX9_told_27 : decode cX9_told 27 = .ok (.ireturn, 1) := by decide +kernel
theorem dX9_told_28 : decode cX9_told 28 = .ok (.iload_n 1, 1) := by decide +kernel
theorem dX9_told_29 : decode cX9_told 29 = .ok (.ifCond .ne 16, 3) := by decide +kernel
theorem dX9_told_32 : decode cX9_told 32 = .ok (.aload_n 0, 1) := by decide +kernel
theorem dX9_told_33 : decode cX9_told 33 = .ok (.getfield 72, 3) := by decide +kernel
theorem dX9_told_36 : decode cX9_told 36 = .ok (.ifCond .eq 7, 3) := by decide +kernel
theorem dX9_told_39 : decode cX9_told 39 = .ok (.iconst 1, 1) := by decide +kernel
theorem dX9_told_40 : decode cX9_told 40 = .ok (.goto 4, 3) := by decide +kernel
theorem dX9_told_43 : decode cX9_told 43 = .ok (.iconst 0, 1) := by decide +kernel
theorem dX9_told_44 : decode cX9_told 44 = .ok (.ireturn, 1) := by decide +kernel
theorem dX9_told_45 : decode cX9_told 45 = .ok (.iload_n 1, 1) := by decide +kernel
theorem dX9_told_46 : decode cX9_told 46 = .ok (.iconst 1, 1) := by decide +kernel
theorem dX9_told_47 : decode cX9_told 47 = .ok (.if_icmp .ne 8, 3) := by decide +kernel
theorem dX9_told_50 : decode cX9_told 50 = .ok (.aload_n 0, 1) := by decide +kernel
theorem dX9_told_51 : decode cX9_told 51 = .ok (.getfield 114, 3) := by decide +kernel
theorem dX9_told_54 : decode cX9_told 54 = .ok (.ireturn, 1) := by decide +kernel
theorem dX9_told_55 : decode cX9_told 55 = .ok (.aload_n 0, 1) := by decide +kernel
theorem dX9_told_56 : decode cX9_told 56 = .ok (.getfield 72, 3) := by decide +kernel
theorem dX9_told_59 : decode cX9_told 59 = .ok (.ifCond .ne 5, 3) := by decide +kernel
theorem dX9_told_62 : decode cX9_told 62 = .ok (.iconst 0, 1) := by decide +kernel
theorem dX9_told_63 : decode cX9_told 63 = .ok (.ireturn, 1) := by decide +kernel
theorem dX9_told_64 : decode cX9_told 64 = .ok (.iload_n 1, 1) := by decide +kernel
theorem dX9_told_65 : decode cX9_told 65 = .ok (.tableswitch 78 2 7 #[39, 44, 58, 63, 68, 73], 39) := by decide +kernel
theorem dX9_told_104 : decode cX9_told 104 = .ok (.aload_n 0, 1) := by decide +kernel
theorem dX9_told_105 : decode cX9_told 105 = .ok (.getfield 76, 3) := by decide +kernel
theorem dX9_told_108 : decode cX9_told 108 = .ok (.ireturn, 1) := by decide +kernel
theorem dX9_told_109 : decode cX9_told 109 = .ok (.aload_n 0, 1) := by decide +kernel
theorem dX9_told_110 : decode cX9_told 110 = .ok (.bipush 16, 2) := by decide +kernel
theorem dX9_told_112 : decode cX9_told 112 = .ok (.aload_n 0, 1) := by decide +kernel
theorem dX9_told_113 : decode cX9_told 113 = .ok (.getfield 76, 3) := by decide +kernel
theorem dX9_told_116 : decode cX9_told 116 = .ok (.imul, 1) := by decide +kernel
theorem dX9_told_117 : decode cX9_told 117 = .ok (.iconst 4, 1) := by decide +kernel
theorem dX9_told_118 : decode cX9_told 118 = .ok (.invokevirtual 131, 3) := by decide +kernel
theorem dX9_told_121 : decode cX9_told 121 = .ok (.l2i, 1) := by decide +kernel
theorem dX9_told_122 : decode cX9_told 122 = .ok (.ireturn, 1) := by decide +kernel
theorem dX9_told_123 : decode cX9_told 123 = .ok (.aload_n 0, 1) := by decide +kernel
theorem dX9_told_124 : decode cX9_told 124 = .ok (.invokevirtual 163, 3) := by decide +kernel
theorem dX9_told_127 : decode cX9_told 127 = .ok (.ireturn, 1) := by decide +kernel
theorem dX9_told_128 : decode cX9_told 128 = .ok (.aload_n 0, 1) := by decide +kernel
theorem dX9_told_129 : decode cX9_told 129 = .ok (.invokevirtual 374, 3) := by decide +kernel
theorem dX9_told_132 : decode cX9_told 132 = .ok (.ireturn, 1) := by decide +kernel
theorem dX9_told_133 : decode cX9_told 133 = .ok (.aload_n 0, 1) := by decide +kernel
theorem dX9_told_134 : decode cX9_told 134 = .ok (.invokevirtual 173, 3) := by decide +kernel
theorem dX9_told_137 : decode cX9_told 137 = .ok (.ireturn, 1) := by decide +kernel
theorem dX9_told_138 : decode cX9_told 138 = .ok (.aload_n 0, 1) := by decide +kernel
theorem dX9_told_139 : decode cX9_told 139 = .ok (.invokevirtual 284, 3) := by decide +kernel
theorem dX9_told_142 : decode cX9_told 142 = .ok (.ireturn, 1) := by decide +kernel
theorem dX9_told_143 : decode cX9_told 143 = .ok (.aload_n 0, 1) := by decide +kernel
theorem dX9_told_144 : decode cX9_told 144 = .ok (.getfield 111, 3) := by decide +kernel
theorem dX9_told_147 : decode cX9_told 147 = .ok (.ireturn, 1) := by decide +kernel
