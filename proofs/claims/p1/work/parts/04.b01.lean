theorem dX6_init_57 : decode cX6_init 57 = .ok (.newarray .long, 2) := by decide +kernel
theorem dX6_init_59 : decode cX6_init 59 = .ok (.putfield 33, 3) := by decide +kernel
theorem dX6_init_62 : decode cX6_init 62 = .ok (.aload_n 0, 1) := by decide +kernel
theorem dX6_init_63 : decode cX6_init 63 = .ok (.iconst 0, 1) := by decide +kernel
theorem dX6_init_64 : decode cX6_init 64 = .ok (.putfield 36, 3) := by decide +kernel
theorem dX6_init_67 : decode cX6_init 67 = .ok (.aload_n 0, 1) := by decide +kernel
theorem dX6_init_68 : decode cX6_init 68 = .ok (.iconst 0, 1) := by decide +kernel
theorem dX6_init_69 : decode cX6_init 69 = .ok (.putfield 40, 3) := by decide +kernel
theorem dX6_init_72 : decode cX6_init 72 = .ok (.aload_n 0, 1) := by decide +kernel
theorem dX6_init_73 : decode cX6_init 73 = .ok (.iconst (-1), 1) := by decide +kernel
theorem dX6_init_74 : decode cX6_init 74 = .ok (.putfield 43, 3) := by decide +kernel
theorem dX6_init_77 : decode cX6_init 77 = .ok (.aload_n 0, 1) := by decide +kernel
theorem dX6_init_78 : decode cX6_init 78 = .ok (.iconst 0, 1) := by decide +kernel
theorem dX6_init_79 : decode cX6_init 79 = .ok (.putfield 46, 3) := by decide +kernel
theorem dX6_init_82 : decode cX6_init 82 = .ok (.aload_n 0, 1) := by decide +kernel
theorem dX6_init_83 : decode cX6_init 83 = .ok (.iconst 0, 1) := by decide +kernel
theorem dX6_init_84 : decode cX6_init 84 = .ok (.putfield 50, 3) := by decide +kernel
theorem dX6_init_87 : decode cX6_init 87 = .ok (.return_, 1) := by decide +kernel
theorem dX6_hear_0 : decode cX6_hear 0 = .ok (.aload_n 0, 1) := by decide +kernel
theorem dX6_hear_1 : decode cX6_hear 1 = .ok (.getfield 36, 3) := by decide +kernel
theorem dX6_hear_4 : decode cX6_hear 4 = .ok (.istore_n 1, 1) := by decide +kernel
theorem dX6_hear_5 : decode cX6_hear 5 = .ok (.iload_n 1, 1) := by decide +kernel
theorem dX6_hear_6 : decode cX6_hear 6 = .ok (.aload_n 0, 1) := by decide +kernel
theorem dX6_hear_7 : decode cX6_hear 7 = .ok (.getfield 9, 3) := by decide +kernel
theorem dX6_hear_10 : decode cX6_hear 10 = .ok (.getfield 62, 3) := by decide +kernel
theorem dX6_hear_13 : decode cX6_hear 13 = .ok (.if_icmp .ge 37, 3) := by decide +kernel
theorem dX6_hear_16 : decode cX6_hear 16 = .ok (.aload_n 0, 1) := by decide +kernel
theorem dX6_hear_17 : decode cX6_hear 17 = .ok (.getfield 15, 3) := by decide +kernel
theorem dX6_hear_20 : decode cX6_hear 20 = .ok (.iload_n 1, 1) := by decide +kernel
theorem dX6_hear_21 : decode cX6_hear 21 = .ok (.lconst 0, 1) := by decide +kernel
theorem dX6_hear_22 : decode cX6_hear 22 = .ok (.lastore, 1) := by decide +kernel
theorem dX6_hear_23 : decode cX6_hear 23 = .ok (.aload_n 0, 1) := by decide +kernel
theorem dX6_hear_24 : decode cX6_hear 24 = .ok (.getfield 19, 3) := by decide +kernel
theorem dX6_hear_27 : decode cX6_hear 27 = .ok (.iload_n 1, 1) := by decide +kernel
theorem dX6_hear_28 : decode cX6_hear 28 = .ok (.iconst 0, 1) := by decide +kernel
theorem dX6_hear_29 : decode cX6_hear 29 = .ok (.bastore, 1) := by decide +kernel
theorem dX6_hear_30 : decode cX6_hear 30 = .ok (.aload_n 0, 1) := by decide +kernel
theorem dX6_hear_31 : decode cX6_hear 31 = .ok (.getfield 23, 3) := by decide +kernel
theorem dX6_hear_34 : decode cX6_hear 34 = .ok (.iload_n 1, 1) := by decide +kernel
theorem dX6_hear_35 : decode cX6_hear 35 = .ok (.iconst 0, 1) := by decide +kernel
theorem dX6_hear_36 : decode cX6_hear 36 = .ok (.bastore, 1) := by decide +kernel
theorem dX6_hear_37 : decode cX6_hear 37 = .ok (.aload_n 0, 1) := by decide +kernel
theorem dX6_hear_38 : decode cX6_hear 38 = .ok (.getfield 26, 3) := by decide +kernel
theorem dX6_hear_41 : decode cX6_hear 41 = .ok (.iload_n 1, 1) := by decide +kernel
theorem dX6_hear_42 : decode cX6_hear 42 = .ok (.iconst 0, 1) := by decide +kernel
theorem dX6_hear_43 : decode cX6_hear 43 = .ok (.bastore, 1) := by decide +kernel
theorem dX6_hear_44 : decode cX6_hear 44 = .ok (.iinc 1 1, 3) := by decide +kernel
theorem dX6_hear_47 : decode cX6_hear 47 = .ok (.goto (-42), 3) := by decide +kernel
theorem dX6_hear_50 : decode cX6_hear 50 = .ok (.aload_n 0, 1) := by decide +kernel
theorem dX6_hear_51 : decode cX6_hear 51 = .ok (.getfield 36, 3) := by decide +kernel
theorem dX6_hear_54 : decode cX6_hear 54 = .ok (.istore_n 1, 1) := by decide +kernel
theorem dX6_hear_55 : decode cX6_hear 55 = .ok (.aload_n 0, 1) := by decide +kernel
theorem dX6_hear_56 : decode cX6_hear 56 = .ok (.aload_n 0, 1) := by decide +kernel
theorem dX6_hear_57 : decode cX6_hear 57 = .ok (.getfield 9, 3) := by decide +kernel
theorem dX6_hear_60 : decode cX6_hear 60 = .ok (.getfield 62, 3) := by decide +kernel
theorem dX6_hear_63 : decode cX6_hear 63 = .ok (.putfield 36, 3) := by decide +kernel
theorem dX6_hear_66 : decode cX6_hear 66 = .ok (.iload_n 1, 1) := by decide +kernel
theorem dX6_hear_67 : decode cX6_hear 67 = .ok (.istore_n 2, 1) := by decide +kernel
theorem dX6_hear_68 : decode cX6_hear 68 = .ok (.iload_n 2, 1) := by decide +kernel
theorem dX6_hear_69 : decode cX6_hear 69 = .ok (.aload_n 0, 1) := by decide +kernel
theorem dX6_hear_70 : decode cX6_hear 70 = .ok (.getfield 36, 3) := by decide +kernel
theorem dX6_hear_73 : decode cX6_hear 73 = .ok (.if_icmp .ge 85, 3) := by decide +kernel
theorem dX6_hear_76 : decode cX6_hear 76 = .ok (.aload_n 0, 1) := by decide +kernel
theorem dX6_hear_77 : decode cX6_hear 77 = .ok (.getfield 9, 3) := by decide +kernel
theorem dX6_hear_80 : decode cX6_hear 80 = .ok (.iload_n 2, 1) := by decide +kernel
theorem dX6_hear_81 : decode cX6_hear 81 = .ok (.invokevirtual 65, 3) := by decide +kernel
theorem dX6_hear_84 : decode cX6_hear 84 = .ok (.tableswitch 68 1 5 #[36, 44, 68, 52, 60], 36) := by decide +kernel
theorem dX6_hear_128 : decode cX6_hear 128 = .ok (.aload_n 0, 1) := by decide +kernel
theorem dX6_hear_129 : decode cX6_hear 129 = .ok (.iload_n 2, 1) := by decide +kernel
theorem dX6_hear_130 : decode cX6_hear 130 = .ok (.invokevirtual 69, 3) := by decide +kernel
theorem dX6_hear_133 : decode cX6_hear 133 = .ok (.goto 19, 3) := by decide +kernel
theorem dX6_hear_152 : decode cX6_hear 152 = .ok (.iinc 2 1, 3) := by decide +kernel
theorem dX6_hear_155 : decode cX6_hear 155 = .ok (.goto (-87), 3) := by decide +kernel
theorem dX6_hear_158 : decode cX6_hear 158 = .ok (.return_, 1) := by decide +kernel
theorem dX6_hearBlock_0 : decode cX6_hearBlock 0 = .ok (.aload_n 0, 1) := by decide +kernel
theorem dX6_hearBlock_1 : decode cX6_hearBlock 1 = .ok (.iload_n 1, 1) := by decide +kernel
theorem dX6_hearBlock_2 : decode cX6_hearBlock 2 = .ok (.invokevirtual 79, 3) := by decide +kernel
theorem dX6_hearBlock_5 : decode cX6_hearBlock 5 = .ok (.ifCond .eq 11, 3) := by decide +kernel
theorem dX6_hearBlock_8 : decode cX6_hearBlock 8 = .ok (.aload_n 0, 1) := by decide +kernel
theorem dX6_hearBlock_9 : decode cX6_hearBlock 9 = .ok (.iload_n 1, 1) := by decide +kernel
theorem dX6_hearBlock_10 : decode cX6_hearBlock 10 = .ok (.invokevirtual 90, 3) := by decide +kernel
theorem dX6_hearBlock_13 : decode cX6_hearBlock 13 = .ok (.goto 4, 3) := by decide +kernel
theorem dX6_hearBlock_17 : decode cX6_hearBlock 17 = .ok (.lstore_n 2, 1) := by decide +kernel
theorem dX6_hearBlock_18 : decode cX6_hearBlock 18 = .ok (.lload_n 2, 1) := by decide +kernel
theorem dX6_hearBlock_19 : decode cX6_hearBlock 19 = .ok (.lconst 0, 1) := by decide +kernel
theorem dX6_hearBlock_20 : decode cX6_hearBlock 20 = .ok (.lcmp, 1) := by decide +kernel
theorem dX6_hearBlock_21 : decode cX6_hearBlock 21 = .ok (.ifCond .ne 4, 3) := by decide +kernel
theorem dX6_hearBlock_24 : decode cX6_hearBlock 24 = .ok (.return_, 1) := by decide +kernel
theorem dX6_hearBlock_25 : decode cX6_hearBlock 25 = .ok (.aload_n 0, 1) := by decide +kernel
theorem dX6_hearBlock_26 : decode cX6_hearBlock 26 = .ok (.getfield 19, 3) := by decide +kernel
theorem dX6_hearBlock_29 : decode cX6_hearBlock 29 = .ok (.iload_n 1, 1) := by decide +kernel
theorem dX6_hearBlock_30 : decode cX6_hearBlock 30 = .ok (.aload_n 0, 1) := by decide +kernel
theorem dX6_hearBlock_31 : decode cX6_hearBlock 31 = .ok (.lload_n 2, 1) := by decide +kernel
theorem dX6_hearBlock_32 : decode cX6_hearBlock 32 = .ok (.invokevirtual 93, 3) := by decide +kernel
theorem dX6_hearBlock_35 : decode cX6_hearBlock 35 = .ok (.iconst (-1), 1) := by decide +kernel
theorem dX6_hearBlock_36 : decode cX6_hearBlock 36 = .ok (.if_icmp .ne 25, 3) := by decide +kernel
theorem dX6_hearBlock_39 : decode cX6_hearBlock 39 = .ok (.aload_n 0, 1) := by decide +kernel
theorem dX6_hearBlock_40 : decode cX6_hearBlock 40 = .ok (.getfield 46, 3) := by decide +kernel
theorem dX6_hearBlock_43 : decode cX6_hearBlock 43 = .ok (.ifCond .eq 14, 3) := by decide +kernel
theorem dX6_hearBlock_57 : decode cX6_hearBlock 57 = .ok (.iconst 1, 1) := by decide +kernel
theorem dX6_hearBlock_58 : decode cX6_hearBlock 58 = .ok (.goto 4, 3) := by decide +kernel
theorem dX6_hearBlock_62 : decode cX6_hearBlock 62 = .ok (.bastore, 1) := by decide +kernel
theorem dX6_hearBlock_63 : decode cX6_hearBlock 63 = .ok (.aload_n 0, 1) := by decide +kernel
theorem dX6_hearBlock_64 : decode cX6_hearBlock 64 = .ok (.getfield 15, 3) := by decide +kernel
theorem dX6_hearBlock_67 : decode cX6_hearBlock 67 = .ok (.iload_n 1, 1) := by decide +kernel
theorem dX6_hearBlock_68 : decode cX6_hearBlock 68 = .ok (.lload_n 2, 1) := by decide +kernel
theorem dX6_hearBlock_69 : decode cX6_hearBlock 69 = .ok (.lastore, 1) := by decide +kernel
theorem dX6_hearBlock_70 : decode cX6_hearBlock 70 = .ok (.iload_n 1, 1) := by decide +kernel
theorem dX6_hearBlock_71 : decode cX6_hearBlock 71 = .ok (.aload_n 0, 1) := by decide +kernel
theorem dX6_hearBlock_72 : decode cX6_hearBlock 72 = .ok (.getfield 9, 3) := by decide +kernel
theorem dX6_hearBlock_75 : decode cX6_hearBlock 75 = .ok (.iload_n 1, 1) := by decide +kernel
theorem dX6_hearBlock_76 : decode cX6_hearBlock 76 = .ok (.invokevirtual 97, 3) := by decide +kernel
theorem dX6_hearBlock_79 : decode cX6_hearBlock 79 = .ok (.iadd, 1) := by decide +kernel
theorem dX6_hearBlock_80 : decode cX6_hearBlock 80 = .ok (.istore 4, 2) := by decide +kernel
theorem dX6_hearBlock_82 : decode cX6_hearBlock 82 = .ok (.iload_n 1, 1) := by decide +kernel
theorem dX6_hearBlock_83 : decode cX6_hearBlock 83 = .ok (.iconst 1, 1) := by decide +kernel
theorem dX6_hearBlock_84 : decode cX6_hearBlock 84 = .ok (.iadd, 1) := by decide +kernel
theorem dX6_hearBlock_85 : decode cX6_hearBlock 85 = .ok (.istore 5, 2) := by decide +kernel
theorem dX6_hearBlock_87 : decode cX6_hearBlock 87 = .ok (.iload 5, 2) := by decide +kernel
theorem dX6_hearBlock_89 : decode cX6_hearBlock 89 = .ok (.iload 4, 2) := by decide +kernel
theorem dX6_hearBlock_91 : decode cX6_hearBlock 91 = .ok (.if_icmp .gt 17, 3) := by decide +kernel
theorem dX6_hearBlock_108 : decode cX6_hearBlock 108 = .ok (.return_, 1) := by decide +kernel
theorem dX6_isWhole_0 : decode cX6_isWhole 0 = .ok (.aload_n 0, 1) := by decide +kernel
theorem dX6_isWhole_1 : decode cX6_isWhole 1 = .ok (.getfield 9, 3) := by decide +kernel
theorem dX6_isWhole_4 : decode cX6_isWhole 4 = .ok (.iload_n 1, 1) := by decide +kernel
theorem dX6_isWhole_5 : decode cX6_isWhole 5 = .ok (.invokevirtual 97, 3) := by decide +kernel
theorem dX6_isWhole_8 : decode cX6_isWhole 8 = .ok (.istore_n 2, 1) := by decide +kernel
theorem dX6_isWhole_9 : decode cX6_isWhole 9 = .ok (.aload_n 0, 1) := by decide +kernel
theorem dX6_isWhole_10 : decode cX6_isWhole 10 = .ok (.getfield 9, 3) := by decide +kernel
theorem dX6_isWhole_13 : decode cX6_isWhole 13 = .ok (.iload_n 1, 1) := by decide +kernel
theorem dX6_isWhole_14 : decode cX6_isWhole 14 = .ok (.invokevirtual 87, 3) := by decide +kernel
theorem dX6_isWhole_17 : decode cX6_isWhole 17 = .ok (.invokestatic 103, 3) := by decide +kernel
theorem dX6_isWhole_20 : decode cX6_isWhole 20 = .ok (.ifCond .eq 23, 3) := by decide +kernel
theorem dX6_isWhole_23 : decode cX6_isWhole 23 = .ok (.iload_n 2, 1) := by decide +kernel
theorem dX6_isWhole_24 : decode cX6_isWhole 24 = .ok (.ifCond .lt 19, 3) := by decide +kernel
theorem dX6_isWhole_27 : decode cX6_isWhole 27 = .ok (.iload_n 2, 1) := by decide +kernel
theorem dX6_isWhole_28 : decode cX6_isWhole 28 = .ok (.bipush 16, 2) := by decide +kernel
theorem dX6_isWhole_30 : decode cX6_isWhole 30 = .ok (.if_icmp .gt 13, 3) := by decide +kernel
theorem dX6_isWhole_33 : decode cX6_isWhole 33 = .ok (.iload_n 1, 1) := by decide +kernel
theorem dX6_isWhole_34 : decode cX6_isWhole 34 = .ok (.iload_n 2, 1) := by decide +kernel
theorem dX6_isWhole_35 : decode cX6_isWhole 35 = .ok (.iadd, 1) := by decide +kernel
theorem dX6_isWhole_36 : decode cX6_isWhole 36 = .ok (.aload_n 0, 1) := by decide +kernel
theorem dX6_isWhole_37 : decode cX6_isWhole 37 = .ok (.getfield 36, 3) := by decide +kernel
theorem dX6_isWhole_40 : decode cX6_isWhole 40 = .ok (.if_icmp .lt 5, 3) := by decide +kernel
theorem dX6_isWhole_45 : decode cX6_isWhole 45 = .ok (.iload_n 1, 1) := by decide +kernel
theorem dX6_isWhole_46 : decode cX6_isWhole 46 = .ok (.iconst 1, 1) := by decide +kernel
theorem dX6_isWhole_47 : decode cX6_isWhole 47 = .ok (.iadd, 1) := by decide +kernel
theorem dX6_isWhole_48 : decode cX6_isWhole 48 = .ok (.istore_n 3, 1) := by decide +kernel
theorem dX6_isWhole_49 : decode cX6_isWhole 49 = .ok (.iload_n 3, 1) := by decide +kernel
theorem dX6_isWhole_50 : decode cX6_isWhole 50 = .ok (.iload_n 1, 1) := by decide +kernel
theorem dX6_isWhole_51 : decode cX6_isWhole 51 = .ok (.iload_n 2, 1) := by decide +kernel
theorem dX6_isWhole_52 : decode cX6_isWhole 52 = .ok (.iadd, 1) := by decide +kernel
theorem dX6_isWhole_53 : decode cX6_isWhole 53 = .ok (.if_icmp .gt 45, 3) := by decide +kernel
theorem dX6_isWhole_98 : decode cX6_isWhole 98 = .ok (.iconst 1, 1) := by decide +kernel
theorem dX6_isWhole_99 : decode cX6_isWhole 99 = .ok (.ireturn, 1) := by decide +kernel
theorem dX6_sumOfBlock_0 : decode cX6_sumOfBlock 0 = .ok (.iconst 4, 1) := by decide +kernel
theorem dX6_sumOfBlock_1 : decode cX6_sumOfBlock 1 = .ok (.invokestatic 106, 3) := by decide +kernel
theorem dX6_sumOfBlock_4 : decode cX6_sumOfBlock 4 = .ok (.aload_n 0, 1) := by decide +kernel
theorem dX6_sumOfBlock_5 : decode cX6_sumOfBlock 5 = .ok (.getfield 9, 3) := by decide +kernel
theorem dX6_sumOfBlock_8 : decode cX6_sumOfBlock 8 = .ok (.iload_n 1, 1) := by decide +kernel
theorem dX6_sumOfBlock_9 : decode cX6_sumOfBlock 9 = .ok (.invokevirtual 87, 3) := by decide +kernel
theorem dX6_sumOfBlock_12 : decode cX6_sumOfBlock 12 = .ok (.invokestatic 111, 3) := by decide +kernel
theorem dX6_sumOfBlock_15 : decode cX6_sumOfBlock 15 = .ok (.aload_n 0, 1) := by decide +kernel
theorem dX6_sumOfBlock_16 : decode cX6_sumOfBlock 16 = .ok (.getfield 9, 3) := by decide +kernel
theorem dX6_sumOfBlock_19 : decode cX6_sumOfBlock 19 = .ok (.iload_n 1, 1) := by decide +kernel
theorem dX6_sumOfBlock_20 : decode cX6_sumOfBlock 20 = .ok (.invokevirtual 83, 3) := by decide +kernel
theorem dX6_sumOfBlock_23 : decode cX6_sumOfBlock 23 = .ok (.invokestatic 115, 3) := by decide +kernel
theorem dX6_sumOfBlock_26 : decode cX6_sumOfBlock 26 = .ok (.lstore_n 2, 1) := by decide +kernel
theorem dX6_sumOfBlock_27 : decode cX6_sumOfBlock 27 = .ok (.iload_n 1, 1) := by decide +kernel
theorem dX6_sumOfBlock_28 : decode cX6_sumOfBlock 28 = .ok (.aload_n 0, 1) := by decide +kernel
theorem dX6_sumOfBlock_29 : decode cX6_sumOfBlock 29 = .ok (.getfield 9, 3) := by decide +kernel
theorem dX6_sumOfBlock_32 : decode cX6_sumOfBlock 32 = .ok (.iload_n 1, 1) := by decide +kernel
theorem dX6_sumOfBlock_33 : decode cX6_sumOfBlock 33 = .ok (.invokevirtual 97, 3) := by decide +kernel
theorem dX6_sumOfBlock_36 : decode cX6_sumOfBlock 36 = .ok (.iadd, 1) := by decide +kernel
theorem dX6_sumOfBlock_37 : decode cX6_sumOfBlock 37 = .ok (.istore 4, 2) := by decide +kernel
theorem dX6_sumOfBlock_39 : decode cX6_sumOfBlock 39 = .ok (.iload_n 1, 1) := by decide +kernel
theorem dX6_sumOfBlock_40 : decode cX6_sumOfBlock 40 = .ok (.iconst 1, 1) := by decide +kernel
theorem dX6_sumOfBlock_41 : decode cX6_sumOfBlock 41 = .ok (.iadd, 1) := by decide +kernel
theorem dX6_sumOfBlock_42 : decode cX6_sumOfBlock 42 = .ok (.istore 5, 2) := by decide +kernel
theorem dX6_sumOfBlock_44 : decode cX6_sumOfBlock 44 = .ok (.iload 5, 2) := by decide +kernel
theorem dX6_sumOfBlock_46 : decode cX6_sumOfBlock 46 = .ok (.iload 4, 2) := by decide +kernel
theorem dX6_sumOfBlock_48 : decode cX6_sumOfBlock 48 = .ok (.if_icmp .gt 35, 3) := by decide +kernel
theorem dX6_sumOfBlock_83 : decode cX6_sumOfBlock 83 = .ok (.lload_n 2, 1) := by decide +kernel
theorem dX6_sumOfBlock_84 : decode cX6_sumOfBlock 84 = .ok (.lreturn, 1) := by decide +kernel
theorem dX6_blockRow_0 : decode cX6_blockRow 0 = .ok (.lload_n 1, 1) := by decide +kernel
theorem dX6_blockRow_1 : decode cX6_blockRow 1 = .ok (.lconst 0, 1) := by decide +kernel
theorem dX6_blockRow_2 : decode cX6_blockRow 2 = .ok (.lcmp, 1) := by decide +kernel
theorem dX6_blockRow_3 : decode cX6_blockRow 3 = .ok (.ifCond .ne 5, 3) := by decide +kernel
theorem dX6_blockRow_6 : decode cX6_blockRow 6 = .ok (.iconst (-1), 1) := by decide +kernel
theorem dX6_blockRow_7 : decode cX6_blockRow 7 = .ok (.ireturn, 1) := by decide +kernel
theorem dX6_blockRow_8 : decode cX6_blockRow 8 = .ok (.iconst 0, 1) := by decide +kernel
theorem dX6_blockRow_9 : decode cX6_blockRow 9 = .ok (.istore_n 3, 1) := by decide +kernel
theorem dX6_blockRow_10 : decode cX6_blockRow 10 = .ok (.iload_n 3, 1) := by decide +kernel
theorem dX6_blockRow_11 : decode cX6_blockRow 11 = .ok (.aload_n 0, 1) := by decide +kernel
theorem dX6_blockRow_12 : decode cX6_blockRow 12 = .ok (.getfield 36, 3) := by decide +kernel
theorem dX6_blockRow_15 : decode cX6_blockRow 15 = .ok (.if_icmp .ge 31, 3) := by decide +kernel
theorem dX6_blockRow_18 : decode cX6_blockRow 18 = .ok (.aload_n 0, 1) := by decide +kernel
theorem dX6_blockRow_19 : decode cX6_blockRow 19 = .ok (.getfield 19, 3) := by decide +kernel
theorem dX6_blockRow_22 : decode cX6_blockRow 22 = .ok (.iload_n 3, 1) := by decide +kernel
theorem dX6_blockRow_23 : decode cX6_blockRow 23 = .ok (.baload, 1) := by decide +kernel
theorem dX6_blockRow_24 : decode cX6_blockRow 24 = .ok (.ifCond .eq 16, 3) := by decide +kernel
theorem dX6_blockRow_40 : decode cX6_blockRow 40 = .ok (.iinc 3 1, 3) := by decide +kernel
theorem dX6_blockRow_43 : decode cX6_blockRow 43 = .ok (.goto (-33), 3) := by decide +kernel
theorem dX6_blockRow_46 : decode cX6_blockRow 46 = .ok (.iconst (-1), 1) := by decide +kernel
theorem dX6_blockRow_47 : decode cX6_blockRow 47 = .ok (.ireturn, 1) := by decide +kernel
theorem dX6_digestAt_0 : decode cX6_digestAt 0 = .ok (.iload_n 1, 1) := by decide +kernel
theorem dX6_digestAt_1 : decode cX6_digestAt 1 = .ok (.ifCond .lt 11, 3) := by decide +kernel
theorem dX6_digestAt_4 : decode cX6_digestAt 4 = .ok (.iload_n 1, 1) := by decide +kernel
theorem dX6_digestAt_5 : decode cX6_digestAt 5 = .ok (.aload_n 0, 1) := by decide +kernel
theorem dX6_digestAt_6 : decode cX6_digestAt 6 = .ok (.getfield 36, 3) := by decide +kernel
theorem dX6_digestAt_9 : decode cX6_digestAt 9 = .ok (.if_icmp .lt 7, 3) := by decide +kernel
theorem dX6_digestAt_12 : decode cX6_digestAt 12 = .ok (.lconst 0, 1) := by decide +kernel
theorem dX6_digestAt_13 : decode cX6_digestAt 13 = .ok (.goto 9, 3) := by decide +kernel
theorem dX6_digestAt_22 : decode cX6_digestAt 22 = .ok (.lreturn, 1) := by decide +kernel
theorem dX6_meant_0 : decode cX6_meant 0 = .ok (.lload_n 1, 1) := by decide +kernel
theorem dX6_meant_1 : decode cX6_meant 1 = .ok (.lconst 0, 1) := by decide +kernel
theorem dX6_meant_2 : decode cX6_meant 2 = .ok (.lcmp, 1) := by decide +kernel
theorem dX6_meant_3 : decode cX6_meant 3 = .ok (.ifCond .ge 24, 3) := by decide +kernel
theorem dX6_meant_6 : decode cX6_meant 6 = .ok (.lload_n 1, 1) := by decide +kernel
theorem dX6_meant_7 : decode cX6_meant 7 = .ok (.ldc2_w 119, 3) := by decide +kernel
theorem dX6_meant_10 : decode cX6_meant 10 = .ok (.lcmp, 1) := by decide +kernel
theorem dX6_meant_11 : decode cX6_meant 11 = .ok (.ifCond .lt 16, 3) := by decide +kernel
theorem dX6_meant_14 : decode cX6_meant 14 = .ok (.aload_n 0, 1) := by decide +kernel
theorem dX6_meant_15 : decode cX6_meant 15 = .ok (.ldc2_w 121, 3) := by decide +kernel
theorem dX6_meant_18 : decode cX6_meant 18 = .ok (.lload_n 1, 1) := by decide +kernel
theorem dX6_meant_19 : decode cX6_meant 19 = .ok (.lsub, 1) := by decide +kernel
theorem dX6_meant_20 : decode cX6_meant 20 = .ok (.l2i, 1) := by decide +kernel
theorem dX6_meant_21 : decode cX6_meant 21 = .ok (.invokevirtual 123, 3) := by decide +kernel
theorem dX6_meant_24 : decode cX6_meant 24 = .ok (.goto 4, 3) := by decide +kernel
theorem dX6_meant_27 : decode cX6_meant 27 = .ok (.lload_n 1, 1) := by decide +kernel
theorem dX6_meant_28 : decode cX6_meant 28 = .ok (.lreturn, 1) := by decide +kernel
theorem dX6_heightOfParent_0 : decode cX6_heightOfParent 0 = .ok (.lload_n 1, 1) := by decide +kernel
theorem dX6_heightOfParent_1 : decode cX6_heightOfParent 1 = .ok (.aload_n 0, 1) := by decide +kernel
theorem dX6_heightOfParent_2 : decode cX6_heightOfParent 2 = .ok (.getfield 46, 3) := by decide +kernel
theorem dX6_heightOfParent_5 : decode cX6_heightOfParent 5 = .ok (.ifCond .eq 12, 3) := by decide +kernel
theorem dX6_heightOfParent_17 : decode cX6_heightOfParent 17 = .ok (.lconst 0, 1) := by decide +kernel
theorem dX6_heightOfParent_18 : decode cX6_heightOfParent 18 = .ok (.lcmp, 1) := by decide +kernel
theorem dX6_heightOfParent_19 : decode cX6_heightOfParent 19 = .ok (.ifCond .ne 8, 3) := by decide +kernel
theorem dX6_heightOfParent_22 : decode cX6_heightOfParent 22 = .ok (.aload_n 0, 1) := by decide +kernel
theorem dX6_heightOfParent_23 : decode cX6_heightOfParent 23 = .ok (.getfield 50, 3) := by decide +kernel
theorem dX6_heightOfParent_26 : decode cX6_heightOfParent 26 = .ok (.ireturn, 1) := by decide +kernel
theorem dX6_heightOfParent_27 : decode cX6_heightOfParent 27 = .ok (.aload_n 0, 1) := by decide +kernel
theorem dX6_heightOfParent_28 : decode cX6_heightOfParent 28 = .ok (.lload_n 1, 1) := by decide +kernel
theorem dX6_heightOfParent_29 : decode cX6_heightOfParent 29 = .ok (.invokevirtual 93, 3) := by decide +kernel
theorem dX6_heightOfParent_32 : decode cX6_heightOfParent 32 = .ok (.istore_n 3, 1) := by decide +kernel
theorem dX6_heightOfParent_33 : decode cX6_heightOfParent 33 = .ok (.iload_n 3, 1) := by decide +kernel
theorem dX6_heightOfParent_34 : decode cX6_heightOfParent 34 = .ok (.iconst (-1), 1) := by decide +kernel
theorem dX6_heightOfParent_35 : decode cX6_heightOfParent 35 = .ok (.if_icmp .ne 7, 3) := by decide +kernel
theorem dX6_heightOfParent_38 : decode cX6_heightOfParent 38 = .ok (.iconst (-1), 1) := by decide +kernel
theorem dX6_heightOfParent_39 : decode cX6_heightOfParent 39 = .ok (.goto 11, 3) := by decide +kernel
theorem dX6_heightOfParent_50 : decode cX6_heightOfParent 50 = .ok (.ireturn, 1) := by decide +kernel
theorem dX6_lastVersion_0 : decode cX6_lastVersion 0 = .ok (.aload_n 0, 1) := by decide +kernel
theorem dX6_lastVersion_1 : decode cX6_lastVersion 1 = .ok (.getfield 50, 3) := by decide +kernel
theorem dX6_lastVersion_4 : decode cX6_lastVersion 4 = .ok (.aload_n 0, 1) := by decide +kernel
theorem dX6_lastVersion_5 : decode cX6_lastVersion 5 = .ok (.getfield 40, 3) := by decide +kernel
theorem dX6_lastVersion_8 : decode cX6_lastVersion 8 = .ok (.iadd, 1) := by decide +kernel
theorem dX6_lastVersion_9 : decode cX6_lastVersion 9 = .ok (.ireturn, 1) := by decide +kernel
theorem dX6_isKept_0 : decode cX6_isKept 0 = .ok (.aload_n 0, 1) := by decide +kernel
theorem dX6_isKept_1 : decode cX6_isKept 1 = .ok (.getfield 9, 3) := by decide +kernel
theorem dX6_isKept_4 : decode cX6_isKept 4 = .ok (.invokevirtual 53, 3) := by decide +kernel
theorem dX6_isKept_7 : decode cX6_isKept 7 = .ok (.ifCond .ne 23, 3) := by decide +kernel
theorem dX6_isKept_10 : decode cX6_isKept 10 = .ok (.iload_n 1, 1) := by decide +kernel
theorem dX6_isKept_11 : decode cX6_isKept 11 = .ok (.aload_n 0, 1) := by decide +kernel
theorem dX6_isKept_12 : decode cX6_isKept 12 = .ok (.getfield 50, 3) := by decide +kernel
theorem dX6_isKept_15 : decode cX6_isKept 15 = .ok (.if_icmp .lt 15, 3) := by decide +kernel
theorem dX6_isKept_18 : decode cX6_isKept 18 = .ok (.iload_n 1, 1) := by decide +kernel
theorem dX6_isKept_19 : decode cX6_isKept 19 = .ok (.aload_n 0, 1) := by decide +kernel
theorem dX6_isKept_20 : decode cX6_isKept 20 = .ok (.invokevirtual 126, 3) := by decide +kernel
theorem dX6_isKept_23 : decode cX6_isKept 23 = .ok (.if_icmp .gt 7, 3) := by decide +kernel
theorem dX6_isKept_26 : decode cX6_isKept 26 = .ok (.iconst 1, 1) := by decide +kernel
theorem dX6_isKept_27 : decode cX6_isKept 27 = .ok (.goto 4, 3) := by decide +kernel
theorem dX6_isKept_30 : decode cX6_isKept 30 = .ok (.iconst 0, 1) := by decide +kernel
theorem dX6_isKept_31 : decode cX6_isKept 31 = .ok (.ireturn, 1) := by decide +kernel
theorem dX6_drawVersion_0 : decode cX6_drawVersion 0 = .ok (.iconst 0, 1) := by decide +kernel
theorem dX6_drawVersion_1 : decode cX6_drawVersion 1 = .ok (.istore_n 2, 1) := by decide +kernel
theorem dX6_drawVersion_2 : decode cX6_drawVersion 2 = .ok (.iload_n 2, 1) := by decide +kernel
theorem dX6_drawVersion_3 : decode cX6_drawVersion 3 = .ok (.bipush 16, 2) := by decide +kernel
theorem dX6_drawVersion_5 : decode cX6_drawVersion 5 = .ok (.if_icmp .ge 16, 3) := by decide +kernel
theorem dX6_drawVersion_8 : decode cX6_drawVersion 8 = .ok (.aload_n 0, 1) := by decide +kernel
theorem dX6_drawVersion_9 : decode cX6_drawVersion 9 = .ok (.getfield 33, 3) := by decide +kernel
theorem dX6_drawVersion_12 : decode cX6_drawVersion 12 = .ok (.iload_n 2, 1) := by decide +kernel
theorem dX6_drawVersion_13 : decode cX6_drawVersion 13 = .ok (.lconst 0, 1) := by decide +kernel
theorem dX6_drawVersion_14 : decode cX6_drawVersion 14 = .ok (.lastore, 1) := by decide +kernel
theorem dX6_drawVersion_15 : decode cX6_drawVersion 15 = .ok (.iinc 2 1, 3) := by decide +kernel
theorem dX6_drawVersion_18 : decode cX6_drawVersion 18 = .ok (.goto (-16), 3) := by decide +kernel
theorem dX6_drawVersion_21 : decode cX6_drawVersion 21 = .ok (.aload_n 0, 1) := by decide +kernel
theorem dX6_drawVersion_22 : decode cX6_drawVersion 22 = .ok (.getfield 46, 3) := by decide +kernel
theorem dX6_drawVersion_25 : decode cX6_drawVersion 25 = .ok (.ifCond .eq 8, 3) := by decide +kernel
theorem dX6_drawVersion_33 : decode cX6_drawVersion 33 = .ok (.iconst 0, 1) := by decide +kernel
theorem dX6_drawVersion_34 : decode cX6_drawVersion 34 = .ok (.istore_n 2, 1) := by decide +kernel
theorem dX6_drawVersion_35 : decode cX6_drawVersion 35 = .ok (.iload_n 2, 1) := by decide +kernel
theorem dX6_drawVersion_36 : decode cX6_drawVersion 36 = .ok (.aload_n 0, 1) := by decide +kernel
theorem dX6_drawVersion_37 : decode cX6_drawVersion 37 = .ok (.getfield 40, 3) := by decide +kernel
theorem dX6_drawVersion_40 : decode cX6_drawVersion 40 = .ok (.if_icmp .ge 29, 3) := by decide +kernel
theorem dX6_drawVersion_69 : decode cX6_drawVersion 69 = .ok (.return_, 1) := by decide +kernel
theorem dX7_init_0 : decode cX7_init 0 = .ok (.aload_n 0, 1) := by decide +kernel
theorem dX7_init_1 : decode cX7_init 1 = .ok (.invokespecial 3, 3) := by decide +kernel
theorem dX7_init_4 : decode cX7_init 4 = .ok (.aload_n 0, 1) := by decide +kernel
theorem dX7_init_5 : decode cX7_init 5 = .ok (.sipush 400, 3) := by decide +kernel
theorem dX7_init_8 : decode cX7_init 8 = .ok (.newarray .byte, 2) := by decide +kernel
theorem dX7_init_10 : decode cX7_init 10 = .ok (.putfield 9, 3) := by decide +kernel
theorem dX7_init_13 : decode cX7_init 13 = .ok (.aload_n 0, 1) := by decide +kernel
theorem dX7_init_14 : decode cX7_init 14 = .ok (.iconst 0, 1) := by decide +kernel
theorem dX7_init_15 : decode cX7_init 15 = .ok (.putfield 15, 3) := by decide +kernel
theorem dX7_init_18 : decode cX7_init 18 = .ok (.return_, 1) := by decide +kernel
theorem dX7_append_0 : decode cX7_append 0 = .ok (.aload_n 0, 1) := by decide +kernel
theorem dX7_append_1 : decode cX7_append 1 = .ok (.getfield 15, 3) := by decide +kernel
theorem dX7_append_4 : decode cX7_append 4 = .ok (.sipush 400, 3) := by decide +kernel
theorem dX7_append_7 : decode cX7_append 7 = .ok (.if_icmp .ge 24, 3) := by decide +kernel
theorem dX7_append_10 : decode cX7_append 10 = .ok (.aload_n 0, 1) := by decide +kernel
theorem dX7_append_11 : decode cX7_append 11 = .ok (.getfield 9, 3) := by decide +kernel
theorem dX7_append_14 : decode cX7_append 14 = .ok (.aload_n 0, 1) := by decide +kernel
theorem dX7_append_15 : decode cX7_append 15 = .ok (.getfield 15, 3) := by decide +kernel
theorem dX7_append_18 : decode cX7_append 18 = .ok (.iload_n 1, 1) := by decide +kernel
theorem dX7_append_19 : decode cX7_append 19 = .ok (.i2b, 1) := by decide +kernel
theorem dX7_append_20 : decode cX7_append 20 = .ok (.bastore, 1) := by decide +kernel
theorem dX7_append_21 : decode cX7_append 21 = .ok (.aload_n 0, 1) := by decide +kernel
theorem dX7_append_22 : decode cX7_append 22 = .ok (.dup, 1) := by decide +kernel
theorem dX7_append_23 : decode cX7_append 23 = .ok (.getfield 15, 3) := by decide +kernel
theorem dX7_append_26 : decode cX7_append 26 = .ok (.iconst 1, 1) := by decide +kernel
theorem dX7_append_27 : decode cX7_append 27 = .ok (.iadd, 1) := by decide +kernel
theorem dX7_append_28 : decode cX7_append 28 = .ok (.putfield 15, 3) := by decide +kernel
theorem dX7_append_31 : decode cX7_append 31 = .ok (.return_, 1) := by decide +kernel
theorem dX8_init_0 : decode cX8_init 0 = .ok (.aload_n 0, 1) := by decide +kernel
theorem dX8_init_1 : decode cX8_init 1 = .ok (.invokespecial 1, 3) := by decide +kernel
theorem dX8_init_4 : decode cX8_init 4 = .ok (.iload_n 1, 1) := by decide +kernel
theorem dX8_init_5 : decode cX8_init 5 = .ok (.iconst 1, 1) := by decide +kernel
theorem dX8_init_6 : decode cX8_init 6 = .ok (.if_icmp .ge 7, 3) := by decide +kernel
theorem dX8_init_9 : decode cX8_init 9 = .ok (.iconst 1, 1) := by decide +kernel
theorem dX8_init_10 : decode cX8_init 10 = .ok (.goto 15, 3) := by decide +kernel
theorem dX8_init_13 : decode cX8_init 13 = .ok (.iload_n 1, 1) := by decide +kernel
theorem dX8_init_14 : decode cX8_init 14 = .ok (.ldc 9, 2) := by decide +kernel
theorem dX8_init_16 : decode cX8_init 16 = .ok (.if_icmp .le 8, 3) := by decide +kernel
theorem dX8_init_19 : decode cX8_init 19 = .ok (.ldc 9, 2) := by decide +kernel
theorem dX8_init_21 : decode cX8_init 21 = .ok (.goto 4, 3) := by decide +kernel
theorem dX8_init_24 : decode cX8_init 24 = .ok (.iload_n 1, 1) := by decide +kernel
theorem dX8_init_25 : decode cX8_init 25 = .ok (.istore_n 2, 1) := by decide +kernel
theorem dX8_init_26 : decode cX8_init 26 = .ok (.aload_n 0, 1) := by decide +kernel
theorem dX8_init_27 : decode cX8_init 27 = .ok (.new 10, 3) := by decide +kernel
theorem dX8_init_30 : decode cX8_init 30 = .ok (.dup, 1) := by decide +kernel
theorem dX8_init_31 : decode cX8_init 31 = .ok (.invokespecial 12, 3) := by decide +kernel
theorem dX8_init_34 : decode cX8_init 34 = .ok (.putfield 13, 3) := by decide +kernel
theorem dX8_init_37 : decode cX8_init 37 = .ok (.aload_n 0, 1) := by decide +kernel
theorem dX8_init_38 : decode cX8_init 38 = .ok (.new 17, 3) := by decide +kernel
theorem dX8_init_41 : decode cX8_init 41 = .ok (.dup, 1) := by decide +kernel
theorem dX8_init_42 : decode cX8_init 42 = .ok (.iload_n 2, 1) := by decide +kernel
theorem dX8_init_43 : decode cX8_init 43 = .ok (.invokespecial 19, 3) := by decide +kernel
theorem dX8_init_46 : decode cX8_init 46 = .ok (.putfield 22, 3) := by decide +kernel
theorem dX8_init_49 : decode cX8_init 49 = .ok (.aload_n 0, 1) := by decide +kernel
theorem dX8_init_50 : decode cX8_init 50 = .ok (.new 26, 3) := by decide +kernel
theorem dX8_init_53 : decode cX8_init 53 = .ok (.dup, 1) := by decide +kernel
theorem dX8_init_54 : decode cX8_init 54 = .ok (.aload_n 0, 1) := by decide +kernel
theorem dX8_init_55 : decode cX8_init 55 = .ok (.getfield 22, 3) := by decide +kernel
theorem dX8_init_58 : decode cX8_init 58 = .ok (.invokespecial 28, 3) := by decide +kernel
theorem dX8_init_61 : decode cX8_init 61 = .ok (.putfield 31, 3) := by decide +kernel
theorem dX8_init_64 : decode cX8_init 64 = .ok (.aload_n 0, 1) := by decide +kernel
theorem dX8_init_65 : decode cX8_init 65 = .ok (.new 35, 3) := by decide +kernel
theorem dX8_init_68 : decode cX8_init 68 = .ok (.dup, 1) := by decide +kernel
theorem dX8_init_69 : decode cX8_init 69 = .ok (.aload_n 0, 1) := by decide +kernel
theorem dX8_init_70 : decode cX8_init 70 = .ok (.getfield 31, 3) := by decide +kernel
theorem dX8_init_73 : decode cX8_init 73 = .ok (.invokespecial 37, 3) := by decide +kernel
theorem dX8_init_76 : decode cX8_init 76 = .ok (.putfield 40, 3) := by decide +kernel
theorem dX8_init_79 : decode cX8_init 79 = .ok (.aload_n 0, 1) := by decide +kernel
theorem dX8_init_80 : decode cX8_init 80 = .ok (.new 44, 3) := by decide +kernel
theorem dX8_init_83 : decode cX8_init 83 = .ok (.dup, 1) := by decide +kernel
theorem dX8_init_84 : decode cX8_init 84 = .ok (.aload_n 0, 1) := by decide +kernel
theorem dX8_init_85 : decode cX8_init 85 = .ok (.getfield 22, 3) := by decide +kernel
theorem dX8_init_88 : decode cX8_init 88 = .ok (.aload_n 0, 1) := by decide +kernel
theorem dX8_init_89 : decode cX8_init 89 = .ok (.getfield 31, 3) := by decide +kernel
theorem dX8_init_92 : decode cX8_init 92 = .ok (.aload_n 0, 1) := by decide +kernel
theorem dX8_init_93 : decode cX8_init 93 = .ok (.getfield 40, 3) := by decide +kernel
theorem dX8_init_96 : decode cX8_init 96 = .ok (.invokespecial 46, 3) := by decide +kernel
theorem dX8_init_99 : decode cX8_init 99 = .ok (.putfield 49, 3) := by decide +kernel
theorem dX8_init_102 : decode cX8_init 102 = .ok (.aload_n 0, 1) := by decide +kernel
theorem dX8_init_103 : decode cX8_init 103 = .ok (.new 53, 3) := by decide +kernel
theorem dX8_init_106 : decode cX8_init 106 = .ok (.dup, 1) := by decide +kernel
theorem dX8_init_107 : decode cX8_init 107 = .ok (.invokespecial 55, 3) := by decide +kernel
theorem dX8_init_110 : decode cX8_init 110 = .ok (.putfield 56, 3) := by decide +kernel
theorem dX8_init_113 : decode cX8_init 113 = .ok (.aload_n 0, 1) := by decide +kernel
theorem dX8_init_114 : decode cX8_init 114 = .ok (.bipush 26, 2) := by decide +kernel
theorem dX8_init_116 : decode cX8_init 116 = .ok (.newarray .byte, 2) := by decide +kernel
theorem dX8_init_118 : decode cX8_init 118 = .ok (.putfield 60, 3) := by decide +kernel
theorem dX8_init_121 : decode cX8_init 121 = .ok (.aload_n 0, 1) := by decide +kernel
theorem dX8_init_122 : decode cX8_init 122 = .ok (.bipush 8, 2) := by decide +kernel
theorem dX8_init_124 : decode cX8_init 124 = .ok (.newarray .int, 2) := by decide +kernel
theorem dX8_init_126 : decode cX8_init 126 = .ok (.putfield 64, 3) := by decide +kernel
theorem dX8_init_129 : decode cX8_init 129 = .ok (.aload_n 0, 1) := by decide +kernel
theorem dX8_init_130 : decode cX8_init 130 = .ok (.bipush 8, 2) := by decide +kernel
theorem dX8_init_132 : decode cX8_init 132 = .ok (.newarray .long, 2) := by decide +kernel
theorem dX8_init_134 : decode cX8_init 134 = .ok (.putfield 68, 3) := by decide +kernel
theorem dX8_init_137 : decode cX8_init 137 = .ok (.aload_n 0, 1) := by decide +kernel
theorem dX8_init_138 : decode cX8_init 138 = .ok (.iconst 0, 1) := by decide +kernel
theorem dX8_init_139 : decode cX8_init 139 = .ok (.putfield 72, 3) := by decide +kernel
theorem dX8_init_142 : decode cX8_init 142 = .ok (.return_, 1) := by decide +kernel
theorem dX8_feed_0 : decode cX8_feed 0 = .ok (.iload_n 3, 1) := by decide +kernel
theorem dX8_feed_1 : decode cX8_feed 1 = .ok (.iconst 1, 1) := by decide +kernel
theorem dX8_feed_2 : decode cX8_feed 2 = .ok (.if_icmp .lt 9, 3) := by decide +kernel
theorem dX8_feed_5 : decode cX8_feed 5 = .ok (.iload_n 3, 1) := by decide +kernel
theorem dX8_feed_6 : decode cX8_feed 6 = .ok (.bipush 8, 2) := by decide +kernel
theorem dX8_feed_8 : decode cX8_feed 8 = .ok (.if_icmp .le 13, 3) := by decide +kernel
theorem dX8_feed_11 : decode cX8_feed 11 = .ok (.new 76, 3) := by decide +kernel
theorem dX8_feed_14 : decode cX8_feed 14 = .ok (.dup, 1) := by decide +kernel
theorem dX8_feed_15 : decode cX8_feed 15 = .ok (.ldc 78, 2) := by decide +kernel
theorem dX8_feed_17 : decode cX8_feed 17 = .ok (.invokespecial 80, 3) := by decide +kernel
theorem dX8_feed_20 : decode cX8_feed 20 = .ok (.athrow, 1) := by decide +kernel
theorem dX8_feed_21 : decode cX8_feed 21 = .ok (.aload_n 0, 1) := by decide +kernel
theorem dX8_feed_22 : decode cX8_feed 22 = .ok (.getfield 13, 3) := by decide +kernel
theorem dX8_feed_25 : decode cX8_feed 25 = .ok (.getfield 83, 3) := by decide +kernel
theorem dX8_feed_28 : decode cX8_feed 28 = .ok (.iload_n 3, 1) := by decide +kernel
theorem dX8_feed_29 : decode cX8_feed 29 = .ok (.iadd, 1) := by decide +kernel
theorem dX8_feed_30 : decode cX8_feed 30 = .ok (.sipush 400, 3) := by decide +kernel
theorem dX8_feed_33 : decode cX8_feed 33 = .ok (.if_icmp .le 13, 3) := by decide +kernel
theorem dX8_feed_46 : decode cX8_feed 46 = .ok (.iload_n 3, 1) := by decide +kernel
theorem dX8_feed_47 : decode cX8_feed 47 = .ok (.iconst 1, 1) := by decide +kernel
theorem dX8_feed_48 : decode cX8_feed 48 = .ok (.isub, 1) := by decide +kernel
theorem dX8_feed_49 : decode cX8_feed 49 = .ok (.istore 4, 2) := by decide +kernel
theorem dX8_feed_51 : decode cX8_feed 51 = .ok (.iload 4, 2) := by decide +kernel
theorem dX8_feed_53 : decode cX8_feed 53 = .ok (.ifCond .lt 24, 3) := by decide +kernel
theorem dX8_feed_56 : decode cX8_feed 56 = .ok (.aload_n 0, 1) := by decide +kernel
theorem dX8_feed_57 : decode cX8_feed 57 = .ok (.getfield 13, 3) := by decide +kernel
theorem dX8_feed_60 : decode cX8_feed 60 = .ok (.lload_n 1, 1) := by decide +kernel
theorem dX8_feed_61 : decode cX8_feed 61 = .ok (.bipush 8, 2) := by decide +kernel
theorem dX8_feed_63 : decode cX8_feed 63 = .ok (.iload 4, 2) := by decide +kernel
theorem dX8_feed_65 : decode cX8_feed 65 = .ok (.imul, 1) := by decide +kernel
theorem dX8_feed_66 : decode cX8_feed 66 = .ok (.lushr, 1) := by decide +kernel
theorem dX8_feed_67 : decode cX8_feed 67 = .ok (.l2i, 1) := by decide +kernel
theorem dX8_feed_68 : decode cX8_feed 68 = .ok (.invokevirtual 88, 3) := by decide +kernel
theorem dX8_feed_71 : decode cX8_feed 71 = .ok (.iinc 4 (-1), 3) := by decide +kernel
theorem dX8_feed_74 : decode cX8_feed 74 = .ok (.goto (-23), 3) := by decide +kernel
theorem dX8_feed_77 : decode cX8_feed 77 = .ok (.aload_n 0, 1) := by decide +kernel
theorem dX8_feed_78 : decode cX8_feed 78 = .ok (.getfield 13, 3) := by decide +kernel
theorem dX8_feed_81 : decode cX8_feed 81 = .ok (.getfield 83, 3) := by decide +kernel
theorem dX8_feed_84 : decode cX8_feed 84 = .ok (.ireturn, 1) := by decide +kernel
theorem dX8_wipe_0 : decode cX8_wipe 0 = .ok (.aload_n 0, 1) := by decide +kernel
theorem dX8_wipe_1 : decode cX8_wipe 1 = .ok (.getfield 13, 3) := by decide +kernel
theorem dX8_wipe_4 : decode cX8_wipe 4 = .ok (.getfield 83, 3) := by decide +kernel
theorem dX8_wipe_7 : decode cX8_wipe 7 = .ok (.istore_n 1, 1) := by decide +kernel
theorem dX8_wipe_8 : decode cX8_wipe 8 = .ok (.aload_n 0, 1) := by decide +kernel
theorem dX8_wipe_9 : decode cX8_wipe 9 = .ok (.getfield 13, 3) := by decide +kernel
theorem dX8_wipe_12 : decode cX8_wipe 12 = .ok (.iconst 0, 1) := by decide +kernel
theorem dX8_wipe_13 : decode cX8_wipe 13 = .ok (.putfield 83, 3) := by decide +kernel
theorem dX8_wipe_16 : decode cX8_wipe 16 = .ok (.iload_n 1, 1) := by decide +kernel
theorem dX8_wipe_17 : decode cX8_wipe 17 = .ok (.ireturn, 1) := by decide +kernel
theorem dX8_at_0 : decode cX8_at 0 = .ok (.iload_n 1, 1) := by decide +kernel
theorem dX8_at_1 : decode cX8_at 1 = .ok (.ifCond .lt 14, 3) := by decide +kernel
theorem dX8_at_4 : decode cX8_at 4 = .ok (.iload_n 1, 1) := by decide +kernel
theorem dX8_at_5 : decode cX8_at 5 = .ok (.aload_n 0, 1) := by decide +kernel
theorem dX8_at_6 : decode cX8_at 6 = .ok (.getfield 13, 3) := by decide +kernel
theorem dX8_at_9 : decode cX8_at 9 = .ok (.getfield 83, 3) := by decide +kernel
theorem dX8_at_12 : decode cX8_at 12 = .ok (.if_icmp .lt 13, 3) := by decide +kernel
theorem dX8_at_15 : decode cX8_at 15 = .ok (.new 91, 3) := by decide +kernel
theorem dX8_at_18 : decode cX8_at 18 = .ok (.dup, 1) := by decide +kernel
theorem dX8_at_19 : decode cX8_at 19 = .ok (.ldc 93, 2) := by decide +kernel
theorem dX8_at_21 : decode cX8_at 21 = .ok (.invokespecial 95, 3) := by decide +kernel
theorem dX8_at_24 : decode cX8_at 24 = .ok (.athrow, 1) := by decide +kernel
theorem dX8_leaf_0 : decode cX8_leaf 0 = .ok (.aload_n 0, 1) := by decide +kernel
theorem dX8_leaf_1 : decode cX8_leaf 1 = .ok (.invokevirtual 99, 3) := by decide +kernel
theorem dX8_leaf_4 : decode cX8_leaf 4 = .ok (.aload_n 0, 1) := by decide +kernel
theorem dX8_leaf_5 : decode cX8_leaf 5 = .ok (.getfield 13, 3) := by decide +kernel
theorem dX8_leaf_8 : decode cX8_leaf 8 = .ok (.getfield 83, 3) := by decide +kernel
theorem dX8_leaf_11 : decode cX8_leaf 11 = .ok (.istore_n 1, 1) := by decide +kernel
theorem dX8_leaf_12 : decode cX8_leaf 12 = .ok (.iload_n 1, 1) := by decide +kernel
theorem dX8_leaf_13 : decode cX8_leaf 13 = .ok (.iconst 1, 1) := by decide +kernel
theorem dX8_leaf_14 : decode cX8_leaf 14 = .ok (.if_icmp .lt 9, 3) := by decide +kernel
theorem dX8_leaf_23 : decode cX8_leaf 23 = .ok (.new 76, 3) := by decide +kernel
theorem dX8_leaf_26 : decode cX8_leaf 26 = .ok (.dup, 1) := by decide +kernel
theorem dX8_leaf_27 : decode cX8_leaf 27 = .ok (.ldc 102, 2) := by decide +kernel
theorem dX8_leaf_29 : decode cX8_leaf 29 = .ok (.invokespecial 80, 3) := by decide +kernel
theorem dX8_leaf_32 : decode cX8_leaf 32 = .ok (.athrow, 1) := by decide +kernel
theorem dX8_change_0 : decode cX8_change 0 = .ok (.aload_n 0, 1) := by decide +kernel
theorem dX8_change_1 : decode cX8_change 1 = .ok (.invokevirtual 99, 3) := by decide +kernel
theorem dX8_change_4 : decode cX8_change 4 = .ok (.iload_n 1, 1) := by decide +kernel
theorem dX8_change_5 : decode cX8_change 5 = .ok (.ifCond .lt 9, 3) := by decide +kernel
theorem dX8_change_8 : decode cX8_change 8 = .ok (.iload_n 1, 1) := by decide +kernel
theorem dX8_change_9 : decode cX8_change 9 = .ok (.bipush 16, 2) := by decide +kernel
theorem dX8_change_11 : decode cX8_change 11 = .ok (.if_icmp .lt 13, 3) := by decide +kernel
theorem dX8_change_14 : decode cX8_change 14 = .ok (.new 76, 3) := by decide +kernel
theorem dX8_change_17 : decode cX8_change 17 = .ok (.dup, 1) := by decide +kernel
theorem dX8_change_18 : decode cX8_change 18 = .ok (.ldc 116, 2) := by decide +kernel
theorem dX8_change_20 : decode cX8_change 20 = .ok (.invokespecial 80, 3) := by decide +kernel
theorem dX8_change_23 : decode cX8_change 23 = .ok (.athrow, 1) := by decide +kernel
theorem dX8_change_24 : decode cX8_change 24 = .ok (.iload_n 2, 1) := by decide +kernel
theorem dX8_change_25 : decode cX8_change 25 = .ok (.iconst (-1), 1) := by decide +kernel
theorem dX8_change_26 : decode cX8_change 26 = .ok (.if_icmp .eq 28, 3) := by decide +kernel
theorem dX8_change_29 : decode cX8_change 29 = .ok (.iload_n 2, 1) := by decide +kernel
theorem dX8_change_30 : decode cX8_change 30 = .ok (.ifCond .lt 14, 3) := by decide +kernel
theorem dX8_change_33 : decode cX8_change 33 = .ok (.iload_n 2, 1) := by decide +kernel
theorem dX8_change_34 : decode cX8_change 34 = .ok (.aload_n 0, 1) := by decide +kernel
theorem dX8_change_35 : decode cX8_change 35 = .ok (.getfield 22, 3) := by decide +kernel
theorem dX8_change_38 : decode cX8_change 38 = .ok (.getfield 118, 3) := by decide +kernel
theorem dX8_change_41 : decode cX8_change 41 = .ok (.if_icmp .lt 13, 3) := by decide +kernel
theorem dX8_change_44 : decode cX8_change 44 = .ok (.new 76, 3) := by decide +kernel
theorem dX8_change_47 : decode cX8_change 47 = .ok (.dup, 1) := by decide +kernel
theorem dX8_change_48 : decode cX8_change 48 = .ok (.ldc 121, 2) := by decide +kernel
theorem dX8_change_50 : decode cX8_change 50 = .ok (.invokespecial 80, 3) := by decide +kernel
theorem dX8_change_53 : decode cX8_change 53 = .ok (.athrow, 1) := by decide +kernel
theorem dX8_change_54 : decode cX8_change 54 = .ok (.lconst 0, 1) := by decide +kernel
theorem dX8_change_55 : decode cX8_change 55 = .ok (.lstore_n 3, 1) := by decide +kernel
theorem dX8_change_56 : decode cX8_change 56 = .ok (.iload_n 2, 1) := by decide +kernel
theorem dX8_change_57 : decode cX8_change 57 = .ok (.iconst (-1), 1) := by decide +kernel
