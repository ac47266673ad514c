theorem dX6_hearAnew_0 : decode cX6_hearAnew 0 = .ok (.aload_n 0, 1) := by decide +kernel
theorem dX6_hearAnew_1 : decode cX6_hearAnew 1 = .ok (.iconst 0, 1) := by decide +kernel
theorem dX6_hearAnew_2 : decode cX6_hearAnew 2 = .ok (.putfield 36, 3) := by decide +kernel
theorem dX6_hearAnew_5 : decode cX6_hearAnew 5 = .ok (.aload_n 0, 1) := by decide +kernel
theorem dX6_hearAnew_6 : decode cX6_hearAnew 6 = .ok (.iconst 0, 1) := by decide +kernel
theorem dX6_hearAnew_7 : decode cX6_hearAnew 7 = .ok (.putfield 40, 3) := by decide +kernel
theorem dX6_hearAnew_10 : decode cX6_hearAnew 10 = .ok (.aload_n 0, 1) := by decide +kernel
theorem dX6_hearAnew_11 : decode cX6_hearAnew 11 = .ok (.iconst (-1), 1) := by decide +kernel
theorem dX6_hearAnew_12 : decode cX6_hearAnew 12 = .ok (.putfield 43, 3) := by decide +kernel
theorem dX6_hearAnew_15 : decode cX6_hearAnew 15 = .ok (.aload_n 0, 1) := by decide +kernel
theorem dX6_hearAnew_16 : decode cX6_hearAnew 16 = .ok (.iconst 0, 1) := by decide +kernel
theorem dX6_hearAnew_17 : decode cX6_hearAnew 17 = .ok (.putfield 46, 3) := by decide +kernel
theorem dX6_hearAnew_20 : decode cX6_hearAnew 20 = .ok (.aload_n 0, 1) := by decide +kernel
theorem dX6_hearAnew_21 : decode cX6_hearAnew 21 = .ok (.iconst 0, 1) := by decide +kernel
theorem dX6_hearAnew_22 : decode cX6_hearAnew 22 = .ok (.putfield 50, 3) := by decide +kernel
theorem dX6_hearAnew_25 : decode cX6_hearAnew 25 = .ok (.aload_n 0, 1) := by decide +kernel
theorem dX6_hearAnew_26 : decode cX6_hearAnew 26 = .ok (.getfield 9, 3) := by decide +kernel
theorem dX6_hearAnew_29 : decode cX6_hearAnew 29 = .ok (.invokevirtual 53, 3) := by decide +kernel
theorem dX6_hearAnew_32 : decode cX6_hearAnew 32 = .ok (.ifCond .ne 7, 3) := by decide +kernel
theorem dX6_hearAnew_35 : decode cX6_hearAnew 35 = .ok (.aload_n 0, 1) := by decide +kernel
theorem dX6_hearAnew_36 : decode cX6_hearAnew 36 = .ok (.invokevirtual 59, 3) := by decide +kernel
theorem dX6_hearAnew_39 : decode cX6_hearAnew 39 = .ok (.return_, 1) := by decide +kernel
theorem dX6_hear_0 : decode cX6_hear 0 = .ok (.aload_n 0, 1) := by decide +kernel
theorem dX6_hear_1 : decode cX6_hear 1 = .ok (.getfield 36, 3) := by decide +kernel
theorem dX6_hear_4 : decode cX6_hear 4 = .ok (.istore_n 1, 1) := by decide +kernel
theorem dX6_hear_5 : decode cX6_hear 5 = .ok (.iload_n 1, 1) := by decide +kernel
theorem dX6_hear_6 : decode cX6_hear 6 = .ok (.aload_n 0, 1) := by decide +kernel
theorem dX6_hear_7 : decode cX6_hear 7 = .ok (.getfield 9, 3) := by decide +kernel
theorem dX6_hear_10 : decode cX6_hear 10 = .ok (.getfield 62, 3) := by decide +kernel
theorem dX6_hear_13 : decode cX6_hear 13 = .ok (.if_icmp .ge 37, 3) := by decide +kernel
theorem dX6_hear_16 : decode cX6_hear 16 = .ok (.aload_n 0, 1) := by decide +kernel
theorem dX6_hear_17 : decode cX6_hear 17 = .ok (.getfield 15, 3) := by decide +kernel
theorem dX6_hear_20 : decode cX6_hear 20 = .ok (.iload_n 1, 1) := by decide +kernel
theorem dX6_hear_21 : decode cX6_hear 21 = .ok (.lconst 0, 1) := by decide +kernel
theorem dX6_hear_22 : decode cX6_hear 22 = .ok (.lastore, 1) := by decide +kernel
theorem dX6_hear_23 : decode cX6_hear 23 = .ok (.aload_n 0, 1) := by decide +kernel
theorem dX6_hear_24 : decode cX6_hear 24 = .ok (.getfield 19, 3) := by decide +kernel
theorem dX6_hear_27 : decode cX6_hear 27 = .ok (.iload_n 1, 1) := by decide +kernel
theorem dX6_hear_28 : decode cX6_hear 28 = .ok (.iconst 0, 1) := by decide +kernel
theorem dX6_hear_29 : decode cX6_hear 29 = .ok (.bastore, 1) := by decide +kernel
theorem dX6_hear_30 : decode cX6_hear 30 = .ok (.aload_n 0, 1) := by decide +kernel
theorem dX6_hear_31 : decode cX6_hear 31 = .ok (.getfield 23, 3) := by decide +kernel
theorem dX6_hear_34 : decode cX6_hear 34 = .ok (.iload_n 1, 1) := by decide +kernel
theorem dX6_hear_35 : decode cX6_hear 35 = .ok (.iconst 0, 1) := by decide +kernel
theorem dX6_hear_36 : decode cX6_hear 36 = .ok (.bastore, 1) := by decide +kernel
theorem dX6_hear_37 : decode cX6_hear 37 = .ok (.aload_n 0, 1) := by decide +kernel
theorem dX6_hear_38 : decode cX6_hear 38 = .ok (.getfield 26, 3) := by decide +kernel
theorem dX6_hear_41 : decode cX6_hear 41 = .ok (.iload_n 1, 1) := by decide +kernel
theorem dX6_hear_42 : decode cX6_hear 42 = .ok (.iconst 0, 1) := by decide +kernel
theorem dX6_hear_43 : decode cX6_hear 43 = .ok (.bastore, 1) := by decide +kernel
theorem dX6_hear_44 : decode cX6_hear 44 = .ok (.iinc 1 1, 3) := by decide +kernel
theorem dX6_hear_47 : decode cX6_hear 47 = .ok (.goto (-42), 3) := by decide +kernel
theorem dX6_hear_50 : decode cX6_hear 50 = .ok (.aload_n 0, 1) := by decide +kernel
theorem dX6_hear_51 : decode cX6_hear 51 = .ok (.getfield 36, 3) := by decide +kernel
theorem dX6_hear_54 : decode cX6_hear 54 = .ok (.istore_n 1, 1) := by decide +kernel
theorem dX6_hear_55 : decode cX6_hear 55 = .ok (.aload_n 0, 1) := by decide +kernel
theorem dX6_hear_56 : decode cX6_hear 56 = .ok (.aload_n 0, 1) := by decide +kernel
theorem dX6_hear_57 : decode cX6_hear 57 = .ok (.getfield 9, 3) := by decide +kernel
theorem dX6_hear_60 : decode cX6_hear 60 = .ok (.getfield 62, 3) := by decide +kernel
theorem dX6_hear_63 : decode cX6_hear 63 = .ok (.putfield 36, 3) := by decide +kernel
theorem dX6_hear_66 : decode cX6_hear 66 = .ok (.iload_n 1, 1) := by decide +kernel
theorem dX6_hear_67 : decode cX6_hear 67 = .ok (.istore_n 2, 1) := by decide +kernel
theorem dX6_hear_68 : decode cX6_hear 68 = .ok (.iload_n 2, 1) := by decide +kernel
theorem dX6_hear_69 : decode cX6_hear 69 = .ok (.aload_n 0, 1) := by decide +kernel
theorem dX6_hear_70 : decode cX6_hear 70 = .ok (.getfield 36, 3) := by decide +kernel
theorem dX6_hear_73 : decode cX6_hear 73 = .ok (.if_icmp .ge 85, 3) := by decide +kernel
theorem dX6_hear_76 : decode cX6_hear 76 = .ok (.aload_n 0, 1) := by decide +kernel
theorem dX6_hear_77 : decode cX6_hear 77 = .ok (.getfield 9, 3) := by decide +kernel
theorem dX6_hear_80 : decode cX6_hear 80 = .ok (.iload_n 2, 1) := by decide +kernel
theorem dX6_hear_81 : decode cX6_hear 81 = .ok (.invokevirtual 65, 3) := by decide +kernel
theorem dX6_hear_84 : decode cX6_hear 84 = .ok (.tableswitch 68 1 5 #[36, 44, 68, 52, 60], 36) := by decide +kernel
theorem dX6_hear_120 : decode cX6_hear 120 = .ok (.aload_n 0, 1) := by decide +kernel
theorem dX6_hear_121 : decode cX6_hear 121 = .ok (.iload_n 2, 1) := by decide +kernel
theorem dX6_hear_122 : decode cX6_hear 122 = .ok (.putfield 43, 3) := by decide +kernel
theorem dX6_hear_125 : decode cX6_hear 125 = .ok (.goto 27, 3) := by decide +kernel
theorem dX6_hear_128 : decode cX6_hear 128 = .ok (.aload_n 0, 1) := by decide +kernel
theorem dX6_hear_129 : decode cX6_hear 129 = .ok (.iload_n 2, 1) := by decide +kernel
theorem dX6_hear_130 : decode cX6_hear 130 = .ok (.invokevirtual 69, 3) := by decide +kernel
theorem dX6_hear_133 : decode cX6_hear 133 = .ok (.goto 19, 3) := by decide +kernel
theorem dX6_hear_136 : decode cX6_hear 136 = .ok (.aload_n 0, 1) := by decide +kernel
theorem dX6_hear_137 : decode cX6_hear 137 = .ok (.iload_n 2, 1) := by decide +kernel
theorem dX6_hear_138 : decode cX6_hear 138 = .ok (.invokevirtual 73, 3) := by decide +kernel
theorem dX6_hear_141 : decode cX6_hear 141 = .ok (.goto 11, 3) := by decide +kernel
theorem dX6_hear_144 : decode cX6_hear 144 = .ok (.aload_n 0, 1) := by decide +kernel
theorem dX6_hear_145 : decode cX6_hear 145 = .ok (.iload_n 2, 1) := by decide +kernel
theorem dX6_hear_146 : decode cX6_hear 146 = .ok (.invokevirtual 76, 3) := by decide +kernel
theorem dX6_hear_149 : decode cX6_hear 149 = .ok (.goto 3, 3) := by decide +kernel
theorem dX6_hear_152 : decode cX6_hear 152 = .ok (.iinc 2 1, 3) := by decide +kernel
theorem dX6_hear_155 : decode cX6_hear 155 = .ok (.goto (-87), 3) := by decide +kernel
theorem dX6_hear_158 : decode cX6_hear 158 = .ok (.return_, 1) := by decide +kernel
theorem dX6_hearBase_0 : decode cX6_hearBase 0 = .ok (.iload_n 1, 1) := by decide +kernel
theorem dX6_hearBase_1 : decode cX6_hearBase 1 = .ok (.ifCond .ne 55, 3) := by decide +kernel
theorem dX6_hearBase_4 : decode cX6_hearBase 4 = .ok (.aload_n 0, 1) := by decide +kernel
theorem dX6_hearBase_5 : decode cX6_hearBase 5 = .ok (.iload_n 1, 1) := by decide +kernel
theorem dX6_hearBase_6 : decode cX6_hearBase 6 = .ok (.invokevirtual 79, 3) := by decide +kernel
theorem dX6_hearBase_9 : decode cX6_hearBase 9 = .ok (.ifCond .eq 47, 3) := by decide +kernel
theorem dX6_hearBase_12 : decode cX6_hearBase 12 = .ok (.aload_n 0, 1) := by decide +kernel
theorem dX6_hearBase_13 : decode cX6_hearBase 13 = .ok (.getfield 9, 3) := by decide +kernel
theorem dX6_hearBase_16 : decode cX6_hearBase 16 = .ok (.iload_n 1, 1) := by decide +kernel
theorem dX6_hearBase_17 : decode cX6_hearBase 17 = .ok (.invokevirtual 83, 3) := by decide +kernel
theorem dX6_hearBase_20 : decode cX6_hearBase 20 = .ok (.lconst 0, 1) := by decide +kernel
theorem dX6_hearBase_21 : decode cX6_hearBase 21 = .ok (.lcmp, 1) := by decide +kernel
theorem dX6_hearBase_22 : decode cX6_hearBase 22 = .ok (.ifCond .eq 34, 3) := by decide +kernel
theorem dX6_hearBase_25 : decode cX6_hearBase 25 = .ok (.aload_n 0, 1) := by decide +kernel
theorem dX6_hearBase_26 : decode cX6_hearBase 26 = .ok (.getfield 15, 3) := by decide +kernel
theorem dX6_hearBase_29 : decode cX6_hearBase 29 = .ok (.iload_n 1, 1) := by decide +kernel
theorem dX6_hearBase_30 : decode cX6_hearBase 30 = .ok (.aload_n 0, 1) := by decide +kernel
theorem dX6_hearBase_31 : decode cX6_hearBase 31 = .ok (.getfield 9, 3) := by decide +kernel
theorem dX6_hearBase_34 : decode cX6_hearBase 34 = .ok (.iload_n 1, 1) := by decide +kernel
theorem dX6_hearBase_35 : decode cX6_hearBase 35 = .ok (.invokevirtual 83, 3) := by decide +kernel
theorem dX6_hearBase_38 : decode cX6_hearBase 38 = .ok (.lastore, 1) := by decide +kernel
theorem dX6_hearBase_39 : decode cX6_hearBase 39 = .ok (.aload_n 0, 1) := by decide +kernel
theorem dX6_hearBase_40 : decode cX6_hearBase 40 = .ok (.iconst 1, 1) := by decide +kernel
theorem dX6_hearBase_41 : decode cX6_hearBase 41 = .ok (.putfield 46, 3) := by decide +kernel
theorem dX6_hearBase_44 : decode cX6_hearBase 44 = .ok (.aload_n 0, 1) := by decide +kernel
theorem dX6_hearBase_45 : decode cX6_hearBase 45 = .ok (.aload_n 0, 1) := by decide +kernel
theorem dX6_hearBase_46 : decode cX6_hearBase 46 = .ok (.getfield 9, 3) := by decide +kernel
theorem dX6_hearBase_49 : decode cX6_hearBase 49 = .ok (.iload_n 1, 1) := by decide +kernel
theorem dX6_hearBase_50 : decode cX6_hearBase 50 = .ok (.invokevirtual 87, 3) := by decide +kernel
theorem dX6_hearBase_53 : decode cX6_hearBase 53 = .ok (.putfield 50, 3) := by decide +kernel
theorem dX6_hearBase_56 : decode cX6_hearBase 56 = .ok (.return_, 1) := by decide +kernel
theorem dX6_hearBlock_0 : decode cX6_hearBlock 0 = .ok (.aload_n 0, 1) := by decide +kernel
theorem dX6_hearBlock_1 : decode cX6_hearBlock 1 = .ok (.iload_n 1, 1) := by decide +kernel
theorem dX6_hearBlock_2 : decode cX6_hearBlock 2 = .ok (.invokevirtual 79, 3) := by decide +kernel
theorem dX6_hearBlock_5 : decode cX6_hearBlock 5 = .ok (.ifCond .eq 11, 3) := by decide +kernel
theorem dX6_hearBlock_8 : decode cX6_hearBlock 8 = .ok (.aload_n 0, 1) := by decide +kernel
theorem dX6_hearBlock_9 : decode cX6_hearBlock 9 = .ok (.iload_n 1, 1) := by decide +kernel
theorem dX6_hearBlock_10 : decode cX6_hearBlock 10 = .ok (.invokevirtual 90, 3) := by decide +kernel
theorem dX6_hearBlock_13 : decode cX6_hearBlock 13 = .ok (.goto 4, 3) := by decide +kernel
theorem dX6_hearBlock_16 : decode cX6_hearBlock 16 = .ok (.lconst 0, 1) := by decide +kernel
theorem dX6_hearBlock_17 : decode cX6_hearBlock 17 = .ok (.lstore_n 2, 1) := by decide +kernel
theorem dX6_hearBlock_18 : decode cX6_hearBlock 18 = .ok (.lload_n 2, 1) := by decide +kernel
theorem dX6_hearBlock_19 : decode cX6_hearBlock 19 = .ok (.lconst 0, 1) := by decide +kernel
theorem dX6_hearBlock_20 : decode cX6_hearBlock 20 = .ok (.lcmp, 1) := by decide +kernel
theorem dX6_hearBlock_21 : decode cX6_hearBlock 21 = .ok (.ifCond .ne 4, 3) := by decide +kernel
theorem dX6_hearBlock_24 : decode cX6_hearBlock 24 = .ok (.return_, 1) := by decide +kernel
theorem dX6_hearBlock_25 : decode cX6_hearBlock 25 = .ok (.aload_n 0, 1) := by decide +kernel
theorem dX6_hearBlock_26 : decode cX6_hearBlock 26 = .ok (.getfield 19, 3) := by decide +kernel
theorem dX6_hearBlock_29 : decode cX6_hearBlock 29 = .ok (.iload_n 1, 1) := by decide +kernel
theorem dX6_hearBlock_30 : decode cX6_hearBlock 30 = .ok (.aload_n 0, 1) := by decide +kernel
theorem dX6_hearBlock_31 : decode cX6_hearBlock 31 = .ok (.lload_n 2, 1) := by decide +kernel
theorem dX6_hearBlock_32 : decode cX6_hearBlock 32 = .ok (.invokevirtual 93, 3) := by decide +kernel
theorem dX6_hearBlock_35 : decode cX6_hearBlock 35 = .ok (.iconst (-1), 1) := by decide +kernel
theorem dX6_hearBlock_36 : decode cX6_hearBlock 36 = .ok (.if_icmp .ne 25, 3) := by decide +kernel
theorem dX6_hearBlock_39 : decode cX6_hearBlock 39 = .ok (.aload_n 0, 1) := by decide +kernel
theorem dX6_hearBlock_40 : decode cX6_hearBlock 40 = .ok (.getfield 46, 3) := by decide +kernel
theorem dX6_hearBlock_43 : decode cX6_hearBlock 43 = .ok (.ifCond .eq 14, 3) := by decide +kernel
theorem dX6_hearBlock_46 : decode cX6_hearBlock 46 = .ok (.lload_n 2, 1) := by decide +kernel
theorem dX6_hearBlock_47 : decode cX6_hearBlock 47 = .ok (.aload_n 0, 1) := by decide +kernel
theorem dX6_hearBlock_48 : decode cX6_hearBlock 48 = .ok (.getfield 15, 3) := by decide +kernel
theorem dX6_hearBlock_51 : decode cX6_hearBlock 51 = .ok (.iconst 0, 1) := by decide +kernel
theorem dX6_hearBlock_52 : decode cX6_hearBlock 52 = .ok (.laload, 1) := by decide +kernel
theorem dX6_hearBlock_53 : decode cX6_hearBlock 53 = .ok (.lcmp, 1) := by decide +kernel
theorem dX6_hearBlock_54 : decode cX6_hearBlock 54 = .ok (.ifCond .eq 7, 3) := by decide +kernel
theorem dX6_hearBlock_57 : decode cX6_hearBlock 57 = .ok (.iconst 1, 1) := by decide +kernel
theorem dX6_hearBlock_58 : decode cX6_hearBlock 58 = .ok (.goto 4, 3) := by decide +kernel
theorem dX6_hearBlock_61 : decode cX6_hearBlock 61 = .ok (.iconst 0, 1) := by decide +kernel
theorem dX6_hearBlock_62 : decode cX6_hearBlock 62 = .ok (.bastore, 1) := by decide +kernel
theorem dX6_hearBlock_63 : decode cX6_hearBlock 63 = .ok (.aload_n 0, 1) := by decide +kernel
theorem dX6_hearBlock_64 : decode cX6_hearBlock 64 = .ok (.getfield 15, 3) := by decide +kernel
theorem dX6_hearBlock_67 : decode cX6_hearBlock 67 = .ok (.iload_n 1, 1) := by decide +kernel
theorem dX6_hearBlock_68 : decode cX6_hearBlock 68 = .ok (.lload_n 2, 1) := by decide +kernel
theorem dX6_hearBlock_69 : decode cX6_hearBlock 69 = .ok (.lastore, 1) := by decide +kernel
theorem dX6_hearBlock_70 : decode cX6_hearBlock 70 = .ok (.iload_n 1, 1) := by decide +kernel
theorem dX6_hearBlock_71 : decode cX6_hearBlock 71 = .ok (.aload_n 0, 1) := by decide +kernel
theorem dX6_hearBlock_72 : decode cX6_hearBlock 72 = .ok (.getfield 9, 3) := by decide +kernel
theorem dX6_hearBlock_75 : decode cX6_hearBlock 75 = .ok (.iload_n 1, 1) := by decide +kernel
theorem dX6_hearBlock_76 : decode cX6_hearBlock 76 = .ok (.invokevirtual 97, 3) := by decide +kernel
theorem dX6_hearBlock_79 : decode cX6_hearBlock 79 = .ok (.iadd, 1) := by decide +kernel
theorem dX6_hearBlock_80 : decode cX6_hearBlock 80 = .ok (.istore 4, 2) := by decide +kernel
theorem dX6_hearBlock_82 : decode cX6_hearBlock 82 = .ok (.iload_n 1, 1) := by decide +kernel
theorem dX6_hearBlock_83 : decode cX6_hearBlock 83 = .ok (.iconst 1, 1) := by decide +kernel
theorem dX6_hearBlock_84 : decode cX6_hearBlock 84 = .ok (.iadd, 1) := by decide +kernel
theorem dX6_hearBlock_85 : decode cX6_hearBlock 85 = .ok (.istore 5, 2) := by decide +kernel
theorem dX6_hearBlock_87 : decode cX6_hearBlock 87 = .ok (.iload 5, 2) := by decide +kernel
theorem dX6_hearBlock_89 : decode cX6_hearBlock 89 = .ok (.iload 4, 2) := by decide +kernel
theorem dX6_hearBlock_91 : decode cX6_hearBlock 91 = .ok (.if_icmp .gt 17, 3) := by decide +kernel
theorem dX6_hearBlock_94 : decode cX6_hearBlock 94 = .ok (.aload_n 0, 1) := by decide +kernel
theorem dX6_hearBlock_95 : decode cX6_hearBlock 95 = .ok (.getfield 23, 3) := by decide +kernel
theorem dX6_hearBlock_98 : decode cX6_hearBlock 98 = .ok (.iload 5, 2) := by decide +kernel
theorem dX6_hearBlock_100 : decode cX6_hearBlock 100 = .ok (.iconst 1, 1) := by decide +kernel
theorem dX6_hearBlock_101 : decode cX6_hearBlock 101 = .ok (.bastore, 1) := by decide +kernel
theorem dX6_hearBlock_102 : decode cX6_hearBlock 102 = .ok (.iinc 5 1, 3) := by decide +kernel
theorem dX6_hearBlock_105 : decode cX6_hearBlock 105 = .ok (.goto (-18), 3) := by decide +kernel
theorem dX6_hearBlock_108 : decode cX6_hearBlock 108 = .ok (.return_, 1) := by decide +kernel
theorem dX6_hearCertificate_0 : decode cX6_hearCertificate 0 = .ok (.aload_n 0, 1) := by decide +kernel
theorem dX6_hearCertificate_1 : decode cX6_hearCertificate 1 = .ok (.aload_n 0, 1) := by decide +kernel
theorem dX6_hearCertificate_2 : decode cX6_hearCertificate 2 = .ok (.getfield 9, 3) := by decide +kernel
theorem dX6_hearCertificate_5 : decode cX6_hearCertificate 5 = .ok (.iload_n 1, 1) := by decide +kernel
theorem dX6_hearCertificate_6 : decode cX6_hearCertificate 6 = .ok (.invokevirtual 83, 3) := by decide +kernel
theorem dX6_hearCertificate_9 : decode cX6_hearCertificate 9 = .ok (.invokevirtual 93, 3) := by decide +kernel
theorem dX6_hearCertificate_12 : decode cX6_hearCertificate 12 = .ok (.istore_n 2, 1) := by decide +kernel
theorem dX6_hearCertificate_13 : decode cX6_hearCertificate 13 = .ok (.iload_n 2, 1) := by decide +kernel
theorem dX6_hearCertificate_14 : decode cX6_hearCertificate 14 = .ok (.iconst (-1), 1) := by decide +kernel
theorem dX6_hearCertificate_15 : decode cX6_hearCertificate 15 = .ok (.if_icmp .eq 48, 3) := by decide +kernel
theorem dX6_hearCertificate_18 : decode cX6_hearCertificate 18 = .ok (.aload_n 0, 1) := by decide +kernel
theorem dX6_hearCertificate_19 : decode cX6_hearCertificate 19 = .ok (.iload_n 2, 1) := by decide +kernel
theorem dX6_hearCertificate_20 : decode cX6_hearCertificate 20 = .ok (.invokevirtual 100, 3) := by decide +kernel
theorem dX6_hearCertificate_23 : decode cX6_hearCertificate 23 = .ok (.ifCond .eq 40, 3) := by decide +kernel
theorem dX6_hearCertificate_26 : decode cX6_hearCertificate 26 = .ok (.aload_n 0, 1) := by decide +kernel
theorem dX6_hearCertificate_27 : decode cX6_hearCertificate 27 = .ok (.getfield 40, 3) := by decide +kernel
theorem dX6_hearCertificate_30 : decode cX6_hearCertificate 30 = .ok (.sipush 128, 3) := by decide +kernel
theorem dX6_hearCertificate_33 : decode cX6_hearCertificate 33 = .ok (.if_icmp .ge 30, 3) := by decide +kernel
theorem dX6_hearCertificate_36 : decode cX6_hearCertificate 36 = .ok (.aload_n 0, 1) := by decide +kernel
theorem dX6_hearCertificate_37 : decode cX6_hearCertificate 37 = .ok (.getfield 26, 3) := by decide +kernel
theorem dX6_hearCertificate_40 : decode cX6_hearCertificate 40 = .ok (.iload_n 1, 1) := by decide +kernel
theorem dX6_hearCertificate_41 : decode cX6_hearCertificate 41 = .ok (.iconst 1, 1) := by decide +kernel
theorem dX6_hearCertificate_42 : decode cX6_hearCertificate 42 = .ok (.bastore, 1) := by decide +kernel
theorem dX6_hearCertificate_43 : decode cX6_hearCertificate 43 = .ok (.aload_n 0, 1) := by decide +kernel
theorem dX6_hearCertificate_44 : decode cX6_hearCertificate 44 = .ok (.getfield 29, 3) := by decide +kernel
theorem dX6_hearCertificate_47 : decode cX6_hearCertificate 47 = .ok (.aload_n 0, 1) := by decide +kernel
theorem dX6_hearCertificate_48 : decode cX6_hearCertificate 48 = .ok (.getfield 40, 3) := by decide +kernel
theorem dX6_hearCertificate_51 : decode cX6_hearCertificate 51 = .ok (.iload_n 2, 1) := by decide +kernel
theorem dX6_hearCertificate_52 : decode cX6_hearCertificate 52 = .ok (.iastore, 1) := by decide +kernel
theorem dX6_hearCertificate_53 : decode cX6_hearCertificate 53 = .ok (.aload_n 0, 1) := by decide +kernel
theorem dX6_hearCertificate_54 : decode cX6_hearCertificate 54 = .ok (.dup, 1) := by decide +kernel
theorem dX6_hearCertificate_55 : decode cX6_hearCertificate 55 = .ok (.getfield 40, 3) := by decide +kernel
theorem dX6_hearCertificate_58 : decode cX6_hearCertificate 58 = .ok (.iconst 1, 1) := by decide +kernel
theorem dX6_hearCertificate_59 : decode cX6_hearCertificate 59 = .ok (.iadd, 1) := by decide +kernel
theorem dX6_hearCertificate_60 : decode cX6_hearCertificate 60 = .ok (.putfield 40, 3) := by decide +kernel
theorem dX6_hearCertificate_63 : decode cX6_hearCertificate 63 = .ok (.return_, 1) := by decide +kernel
theorem dX6_isWhole_0 : decode cX6_isWhole 0 = .ok (.aload_n 0, 1) := by decide +kernel
theorem dX6_isWhole_1 : decode cX6_isWhole 1 = .ok (.getfield 9, 3) := by decide +kernel
theorem dX6_isWhole_4 : decode cX6_isWhole 4 = .ok (.iload_n 1, 1) := by decide +kernel
theorem dX6_isWhole_5 : decode cX6_isWhole 5 = .ok (.invokevirtual 97, 3) := by decide +kernel
theorem dX6_isWhole_8 : decode cX6_isWhole 8 = .ok (.istore_n 2, 1) := by decide +kernel
theorem dX6_isWhole_9 : decode cX6_isWhole 9 = .ok (.aload_n 0, 1) := by decide +kernel
theorem dX6_isWhole_10 : decode cX6_isWhole 10 = .ok (.getfield 9, 3) := by decide +kernel
theorem dX6_isWhole_13 : decode cX6_isWhole 13 = .ok (.iload_n 1, 1) := by decide +kernel
theorem dX6_isWhole_14 : decode cX6_isWhole 14 = .ok (.invokevirtual 87, 3) := by decide +kernel
theorem dX6_isWhole_17 : decode cX6_isWhole 17 = .ok (.invokestatic 103, 3) := by decide +kernel
theorem dX6_isWhole_20 : decode cX6_isWhole 20 = .ok (.ifCond .eq 23, 3) := by decide +kernel
theorem dX6_isWhole_23 : decode cX6_isWhole 23 = .ok (.iload_n 2, 1) := by decide +kernel
theorem dX6_isWhole_24 : decode cX6_isWhole 24 = .ok (.ifCond .lt 19, 3) := by decide +kernel
theorem dX6_isWhole_27 : decode cX6_isWhole 27 = .ok (.iload_n 2, 1) := by decide +kernel
theorem dX6_isWhole_28 : decode cX6_isWhole 28 = .ok (.bipush 16, 2) := by decide +kernel
theorem dX6_isWhole_30 : decode cX6_isWhole 30 = .ok (.if_icmp .gt 13, 3) := by decide +kernel
theorem dX6_isWhole_33 : decode cX6_isWhole 33 = .ok (.iload_n 1, 1) := by decide +kernel
theorem dX6_isWhole_34 : decode cX6_isWhole 34 = .ok (.iload_n 2, 1) := by decide +kernel
theorem dX6_isWhole_35 : decode cX6_isWhole 35 = .ok (.iadd, 1) := by decide +kernel
theorem dX6_isWhole_36 : decode cX6_isWhole 36 = .ok (.aload_n 0, 1) := by decide +kernel
theorem dX6_isWhole_37 : decode cX6_isWhole 37 = .ok (.getfield 36, 3) := by decide +kernel
theorem dX6_isWhole_40 : decode cX6_isWhole 40 = .ok (.if_icmp .lt 5, 3) := by decide +kernel
theorem dX6_isWhole_43 : decode cX6_isWhole 43 = .ok (.iconst 0, 1) := by decide +kernel
theorem dX6_isWhole_44 : decode cX6_isWhole 44 = .ok (.ireturn, 1) := by decide +kernel
theorem dX6_isWhole_45 : decode cX6_isWhole 45 = .ok (.iload_n 1, 1) := by decide +kernel
theorem dX6_isWhole_46 : decode cX6_isWhole 46 = .ok (.iconst 1, 1) := by decide +kernel
theorem dX6_isWhole_47 : decode cX6_isWhole 47 = .ok (.iadd, 1) := by decide +kernel
theorem dX6_isWhole_48 : decode cX6_isWhole 48 = .ok (.istore_n 3, 1) := by decide +kernel
theorem dX6_isWhole_49 : decode cX6_isWhole 49 = .ok (.iload_n 3, 1) := by decide +kernel
theorem dX6_isWhole_50 : decode cX6_isWhole 50 = .ok (.iload_n 1, 1) := by decide +kernel
theorem dX6_isWhole_51 : decode cX6_isWhole 51 = .ok (.iload_n 2, 1) := by decide +kernel
theorem dX6_isWhole_52 : decode cX6_isWhole 52 = .ok (.iadd, 1) := by decide +kernel
theorem dX6_isWhole_53 : decode cX6_isWhole 53 = .ok (.if_icmp .gt 45, 3) := by decide +kernel
theorem dX6_isWhole_56 : decode cX6_isWhole 56 = .ok (.aload_n 0, 1) := by decide +kernel
theorem dX6_isWhole_57 : decode cX6_isWhole 57 = .ok (.getfield 9, 3) := by decide +kernel
theorem dX6_isWhole_60 : decode cX6_isWhole 60 = .ok (.iload_n 3, 1) := by decide +kernel
theorem dX6_isWhole_61 : decode cX6_isWhole 61 = .ok (.invokevirtual 87, 3) := by decide +kernel
theorem dX6_isWhole_64 : decode cX6_isWhole 64 = .ok (.istore 4, 2) := by decide +kernel
theorem dX6_isWhole_66 : decode cX6_isWhole 66 = .ok (.aload_n 0, 1) := by decide +kernel
theorem dX6_isWhole_67 : decode cX6_isWhole 67 = .ok (.getfield 9, 3) := by decide +kernel
theorem dX6_isWhole_70 : decode cX6_isWhole 70 = .ok (.iload_n 3, 1) := by decide +kernel
theorem dX6_isWhole_71 : decode cX6_isWhole 71 = .ok (.invokevirtual 65, 3) := by decide +kernel
theorem dX6_isWhole_74 : decode cX6_isWhole 74 = .ok (.iconst 3, 1) := by decide +kernel
theorem dX6_isWhole_75 : decode cX6_isWhole 75 = .ok (.if_icmp .ne 15, 3) := by decide +kernel
theorem dX6_isWhole_78 : decode cX6_isWhole 78 = .ok (.iload 4, 2) := by decide +kernel
theorem dX6_isWhole_80 : decode cX6_isWhole 80 = .ok (.ifCond .lt 10, 3) := by decide +kernel
theorem dX6_isWhole_83 : decode cX6_isWhole 83 = .ok (.iload 4, 2) := by decide +kernel
theorem dX6_isWhole_85 : decode cX6_isWhole 85 = .ok (.bipush 16, 2) := by decide +kernel
theorem dX6_isWhole_87 : decode cX6_isWhole 87 = .ok (.if_icmp .lt 5, 3) := by decide +kernel
theorem dX6_isWhole_90 : decode cX6_isWhole 90 = .ok (.iconst 0, 1) := by decide +kernel
theorem dX6_isWhole_91 : decode cX6_isWhole 91 = .ok (.ireturn, 1) := by decide +kernel
theorem dX6_isWhole_92 : decode cX6_isWhole 92 = .ok (.iinc 3 1, 3) := by decide +kernel
theorem dX6_isWhole_95 : decode cX6_isWhole 95 = .ok (.goto (-46), 3) := by decide +kernel
theorem dX6_isWhole_98 : decode cX6_isWhole 98 = .ok (.iconst 1, 1) := by decide +kernel
theorem dX6_isWhole_99 : decode cX6_isWhole 99 = .ok (.ireturn, 1) := by decide +kernel
theorem dX6_sumOfBlock_0 : decode cX6_sumOfBlock 0 = .ok (.iconst 4, 1) := by decide +kernel
theorem dX6_sumOfBlock_1 : decode cX6_sumOfBlock 1 = .ok (.invokestatic 106, 3) := by decide +kernel
theorem dX6_sumOfBlock_4 : decode cX6_sumOfBlock 4 = .ok (.aload_n 0, 1) := by decide +kernel
theorem dX6_sumOfBlock_5 : decode cX6_sumOfBlock 5 = .ok (.getfield 9, 3) := by decide +kernel
theorem dX6_sumOfBlock_8 : decode cX6_sumOfBlock 8 = .ok (.iload_n 1, 1) := by decide +kernel
theorem dX6_sumOfBlock_9 : decode cX6_sumOfBlock 9 = .ok (.invokevirtual 87, 3) := by decide +kernel
theorem dX6_sumOfBlock_12 : decode cX6_sumOfBlock 12 = .ok (.invokestatic 111, 3) := by decide +kernel
theorem dX6_sumOfBlock_15 : decode cX6_sumOfBlock 15 = .ok (.aload_n 0, 1) := by decide +kernel
theorem dX6_sumOfBlock_16 : decode cX6_sumOfBlock 16 = .ok (.getfield 9, 3) := by decide +kernel
theorem dX6_sumOfBlock_19 : decode cX6_sumOfBlock 19 = .ok (.iload_n 1, 1) := by decide +kernel
theorem dX6_sumOfBlock_20 : decode cX6_sumOfBlock 20 = .ok (.invokevirtual 83, 3) := by decide +kernel
theorem dX6_sumOfBlock_23 : decode cX6_sumOfBlock 23 = .ok (.invokestatic 115, 3) := by decide +kernel
theorem dX6_sumOfBlock_26 : decode cX6_sumOfBlock 26 = .ok (.lstore_n 2, 1) := by decide +kernel
theorem dX6_sumOfBlock_27 : decode cX6_sumOfBlock 27 = .ok (.iload_n 1, 1) := by decide +kernel
theorem dX6_sumOfBlock_28 : decode cX6_sumOfBlock 28 = .ok (.aload_n 0, 1) := by decide +kernel
theorem dX6_sumOfBlock_29 : decode cX6_sumOfBlock 29 = .ok (.getfield 9, 3) := by decide +kernel
theorem dX6_sumOfBlock_32 : decode cX6_sumOfBlock 32 = .ok (.iload_n 1, 1) := by decide +kernel
theorem dX6_sumOfBlock_33 : decode cX6_sumOfBlock 33 = .ok (.invokevirtual 97, 3) := by decide +kernel
theorem dX6_sumOfBlock_36 : decode cX6_sumOfBlock 36 = .ok (.iadd, 1) := by decide +kernel
theorem dX6_sumOfBlock_37 : decode cX6_sumOfBlock 37 = .ok (.istore 4, 2) := by decide +kernel
theorem dX6_sumOfBlock_39 : decode cX6_sumOfBlock 39 = .ok (.iload_n 1, 1) := by decide +kernel
theorem dX6_sumOfBlock_40 : decode cX6_sumOfBlock 40 = .ok (.iconst 1, 1) := by decide +kernel
theorem dX6_sumOfBlock_41 : decode cX6_sumOfBlock 41 = .ok (.iadd, 1) := by decide +kernel
theorem dX6_sumOfBlock_42 : decode cX6_sumOfBlock 42 = .ok (.istore 5, 2) := by decide +kernel
theorem dX6_sumOfBlock_44 : decode cX6_sumOfBlock 44 = .ok (.iload 5, 2) := by decide +kernel
theorem dX6_sumOfBlock_46 : decode cX6_sumOfBlock 46 = .ok (.iload 4, 2) := by decide +kernel
theorem dX6_sumOfBlock_48 : decode cX6_sumOfBlock 48 = .ok (.if_icmp .gt 35, 3) := by decide +kernel
theorem dX6_sumOfBlock_51 : decode cX6_sumOfBlock 51 = .ok (.lload_n 2, 1) := by decide +kernel
theorem dX6_sumOfBlock_52 : decode cX6_sumOfBlock 52 = .ok (.aload_n 0, 1) := by decide +kernel
theorem dX6_sumOfBlock_53 : decode cX6_sumOfBlock 53 = .ok (.getfield 9, 3) := by decide +kernel
theorem dX6_sumOfBlock_56 : decode cX6_sumOfBlock 56 = .ok (.iload 5, 2) := by decide +kernel
theorem dX6_sumOfBlock_58 : decode cX6_sumOfBlock 58 = .ok (.invokevirtual 87, 3) := by decide +kernel
theorem dX6_sumOfBlock_61 : decode cX6_sumOfBlock 61 = .ok (.invokestatic 111, 3) := by decide +kernel
theorem dX6_sumOfBlock_64 : decode cX6_sumOfBlock 64 = .ok (.aload_n 0, 1) := by decide +kernel
theorem dX6_sumOfBlock_65 : decode cX6_sumOfBlock 65 = .ok (.getfield 9, 3) := by decide +kernel
theorem dX6_sumOfBlock_68 : decode cX6_sumOfBlock 68 = .ok (.iload 5, 2) := by decide +kernel
theorem dX6_sumOfBlock_70 : decode cX6_sumOfBlock 70 = .ok (.invokevirtual 83, 3) := by decide +kernel
theorem dX6_sumOfBlock_73 : decode cX6_sumOfBlock 73 = .ok (.invokestatic 115, 3) := by decide +kernel
theorem dX6_sumOfBlock_76 : decode cX6_sumOfBlock 76 = .ok (.lstore_n 2, 1) := by decide +kernel
theorem dX6_sumOfBlock_77 : decode cX6_sumOfBlock 77 = .ok (.iinc 5 1, 3) := by decide +kernel
theorem dX6_sumOfBlock_80 : decode cX6_sumOfBlock 80 = .ok (.goto (-36), 3) := by decide +kernel
theorem dX6_sumOfBlock_83 : decode cX6_sumOfBlock 83 = .ok (.lload_n 2, 1) := by decide +kernel
theorem dX6_sumOfBlock_84 : decode cX6_sumOfBlock 84 = .ok (.lreturn, 1) := by decide +kernel
theorem dX6_blockRow_0 : decode cX6_blockRow 0 = .ok (.lload_n 1, 1) := by decide +kernel
theorem dX6_blockRow_1 : decode cX6_blockRow 1 = .ok (.lconst 0, 1) := by decide +kernel
theorem dX6_blockRow_2 : decode cX6_blockRow 2 = .ok (.lcmp, 1) := by decide +kernel
theorem dX6_blockRow_3 : decode cX6_blockRow 3 = .ok (.ifCond .ne 5, 3) := by decide +kernel
theorem dX6_blockRow_6 : decode cX6_blockRow 6 = .ok (.iconst (-1), 1) := by decide +kernel
theorem dX6_blockRow_7 : decode cX6_blockRow 7 = .ok (.ireturn, 1) := by decide +kernel
theorem dX6_blockRow_8 : decode cX6_blockRow 8 = .ok (.iconst 0, 1) := by decide +kernel
theorem dX6_blockRow_9 : decode cX6_blockRow 9 = .ok (.istore_n 3, 1) := by decide +kernel
theorem dX6_blockRow_10 : decode cX6_blockRow 10 = .ok (.iload_n 3, 1) := by decide +kernel
theorem dX6_blockRow_11 : decode cX6_blockRow 11 = .ok (.aload_n 0, 1) := by decide +kernel
theorem dX6_blockRow_12 : decode cX6_blockRow 12 = .ok (.getfield 36, 3) := by decide +kernel
theorem dX6_blockRow_15 : decode cX6_blockRow 15 = .ok (.if_icmp .ge 31, 3) := by decide +kernel
theorem dX6_blockRow_18 : decode cX6_blockRow 18 = .ok (.aload_n 0, 1) := by decide +kernel
theorem dX6_blockRow_19 : decode cX6_blockRow 19 = .ok (.getfield 19, 3) := by decide +kernel
theorem dX6_blockRow_22 : decode cX6_blockRow 22 = .ok (.iload_n 3, 1) := by decide +kernel
theorem dX6_blockRow_23 : decode cX6_blockRow 23 = .ok (.baload, 1) := by decide +kernel
theorem dX6_blockRow_24 : decode cX6_blockRow 24 = .ok (.ifCond .eq 16, 3) := by decide +kernel
theorem dX6_blockRow_27 : decode cX6_blockRow 27 = .ok (.aload_n 0, 1) := by decide +kernel
theorem dX6_blockRow_28 : decode cX6_blockRow 28 = .ok (.getfield 15, 3) := by decide +kernel
theorem dX6_blockRow_31 : decode cX6_blockRow 31 = .ok (.iload_n 3, 1) := by decide +kernel
theorem dX6_blockRow_32 : decode cX6_blockRow 32 = .ok (.laload, 1) := by decide +kernel
theorem dX6_blockRow_33 : decode cX6_blockRow 33 = .ok (.lload_n 1, 1) := by decide +kernel
theorem dX6_blockRow_34 : decode cX6_blockRow 34 = .ok (.lcmp, 1) := by decide +kernel
theorem dX6_blockRow_35 : decode cX6_blockRow 35 = .ok (.ifCond .ne 5, 3) := by decide +kernel
theorem dX6_blockRow_38 : decode cX6_blockRow 38 = .ok (.iload_n 3, 1) := by decide +kernel
theorem dX6_blockRow_39 : decode cX6_blockRow 39 = .ok (.ireturn, 1) := by decide +kernel
theorem dX6_blockRow_40 : decode cX6_blockRow 40 = .ok (.iinc 3 1, 3) := by decide +kernel
theorem dX6_blockRow_43 : decode cX6_blockRow 43 = .ok (.goto (-33), 3) := by decide +kernel
theorem dX6_blockRow_46 : decode cX6_blockRow 46 = .ok (.iconst (-1), 1) := by decide +kernel
theorem dX6_blockRow_47 : decode cX6_blockRow 47 = .ok (.ireturn, 1) := by decide +kernel
theorem dX6_digestAt_0 : decode cX6_digestAt 0 = .ok (.iload_n 1, 1) := by decide +kernel
theorem dX6_digestAt_1 : decode cX6_digestAt 1 = .ok (.ifCond .lt 11, 3) := by decide +kernel
theorem dX6_digestAt_4 : decode cX6_digestAt 4 = .ok (.iload_n 1, 1) := by decide +kernel
theorem dX6_digestAt_5 : decode cX6_digestAt 5 = .ok (.aload_n 0, 1) := by decide +kernel
theorem dX6_digestAt_6 : decode cX6_digestAt 6 = .ok (.getfield 36, 3) := by decide +kernel
theorem dX6_digestAt_9 : decode cX6_digestAt 9 = .ok (.if_icmp .lt 7, 3) := by decide +kernel
theorem dX6_digestAt_12 : decode cX6_digestAt 12 = .ok (.lconst 0, 1) := by decide +kernel
theorem dX6_digestAt_13 : decode cX6_digestAt 13 = .ok (.goto 9, 3) := by decide +kernel
theorem dX6_digestAt_16 : decode cX6_digestAt 16 = .ok (.aload_n 0, 1) := by decide +kernel
theorem dX6_digestAt_17 : decode cX6_digestAt 17 = .ok (.getfield 15, 3) := by decide +kernel
theorem dX6_digestAt_20 : decode cX6_digestAt 20 = .ok (.iload_n 1, 1) := by decide +kernel
theorem dX6_digestAt_21 : decode cX6_digestAt 21 = .ok (.laload, 1) := by decide +kernel
theorem dX6_digestAt_22 : decode cX6_digestAt 22 = .ok (.lreturn, 1) := by decide +kernel
theorem dX6_meant_0 : decode cX6_meant 0 = .ok (.lload_n 1, 1) := by decide +kernel
theorem dX6_meant_1 : decode cX6_meant 1 = .ok (.lconst 0, 1) := by decide +kernel
theorem dX6_meant_2 : decode cX6_meant 2 = .ok (.lcmp, 1) := by decide +kernel
theorem dX6_meant_3 : decode cX6_meant 3 = .ok (.ifCond .ge 24, 3) := by decide +kernel
theorem dX6_meant_6 : decode cX6_meant 6 = .ok (.lload_n 1, 1) := by decide +kernel
theorem dX6_meant_7 : decode cX6_meant 7 = .ok (.ldc2_w 119, 3) := by decide +kernel
theorem dX6_meant_10 : decode cX6_meant 10 = .ok (.lcmp, 1) := by decide +kernel
theorem dX6_meant_11 : decode cX6_meant 11 = .ok (.ifCond .lt 16, 3) := by decide +kernel
theorem dX6_meant_14 : decode cX6_meant 14 = .ok (.aload_n 0, 1) := by decide +kernel
theorem dX6_meant_15 : decode cX6_meant 15 = .ok (.ldc2_w 121, 3) := by decide +kernel
theorem dX6_meant_18 : decode cX6_meant 18 = .ok (.lload_n 1, 1) := by decide +kernel
theorem dX6_meant_19 : decode cX6_meant 19 = .ok (.lsub, 1) := by decide +kernel
theorem dX6_meant_20 : decode cX6_meant 20 = .ok (.l2i, 1) := by decide +kernel
theorem dX6_meant_21 : decode cX6_meant 21 = .ok (.invokevirtual 123, 3) := by decide +kernel
theorem dX6_meant_24 : decode cX6_meant 24 = .ok (.goto 4, 3) := by decide +kernel
theorem dX6_meant_27 : decode cX6_meant 27 = .ok (.lload_n 1, 1) := by decide +kernel
theorem dX6_meant_28 : decode cX6_meant 28 = .ok (.lreturn, 1) := by decide +kernel
theorem dX6_heightOfParent_0 : decode cX6_heightOfParent 0 = .ok (.lload_n 1, 1) := by decide +kernel
theorem dX6_heightOfParent_1 : decode cX6_heightOfParent 1 = .ok (.aload_n 0, 1) := by decide +kernel
theorem dX6_heightOfParent_2 : decode cX6_heightOfParent 2 = .ok (.getfield 46, 3) := by decide +kernel
theorem dX6_heightOfParent_5 : decode cX6_heightOfParent 5 = .ok (.ifCond .eq 12, 3) := by decide +kernel
theorem dX6_heightOfParent_8 : decode cX6_heightOfParent 8 = .ok (.aload_n 0, 1) := by decide +kernel
theorem dX6_heightOfParent_9 : decode cX6_heightOfParent 9 = .ok (.getfield 15, 3) := by decide +kernel
theorem dX6_heightOfParent_12 : decode cX6_heightOfParent 12 = .ok (.iconst 0, 1) := by decide +kernel
theorem dX6_heightOfParent_13 : decode cX6_heightOfParent 13 = .ok (.laload, 1) := by decide +kernel
theorem dX6_heightOfParent_14 : decode cX6_heightOfParent 14 = .ok (.goto 4, 3) := by decide +kernel
theorem dX6_heightOfParent_17 : decode cX6_heightOfParent 17 = .ok (.lconst 0, 1) := by decide +kernel
theorem dX6_heightOfParent_18 : decode cX6_heightOfParent 18 = .ok (.lcmp, 1) := by decide +kernel
theorem dX6_heightOfParent_19 : decode cX6_heightOfParent 19 = .ok (.ifCond .ne 8, 3) := by decide +kernel
theorem dX6_heightOfParent_22 : decode cX6_heightOfParent 22 = .ok (.aload_n 0, 1) := by decide +kernel
theorem dX6_heightOfParent_23 : decode cX6_heightOfParent 23 = .ok (.getfield 50, 3) := by decide +kernel
theorem dX6_heightOfParent_26 : decode cX6_heightOfParent 26 = .ok (.ireturn, 1) := by decide +kernel
theorem dX6_heightOfParent_27 : decode cX6_heightOfParent 27 = .ok (.aload_n 0, 1) := by decide +kernel
theorem dX6_heightOfParent_28 : decode cX6_heightOfParent 28 = .ok (.lload_n 1, 1) := by decide +kernel
theorem dX6_heightOfParent_29 : decode cX6_heightOfParent 29 = .ok (.invokevirtual 93, 3) := by decide +kernel
theorem dX6_heightOfParent_32 : decode cX6_heightOfParent 32 = .ok (.istore_n 3, 1) := by decide +kernel
theorem dX6_heightOfParent_33 : decode cX6_heightOfParent 33 = .ok (.iload_n 3, 1) := by decide +kernel
theorem dX6_heightOfParent_34 : decode cX6_heightOfParent 34 = .ok (.iconst (-1), 1) := by decide +kernel
theorem dX6_heightOfParent_35 : decode cX6_heightOfParent 35 = .ok (.if_icmp .ne 7, 3) := by decide +kernel
theorem dX6_heightOfParent_38 : decode cX6_heightOfParent 38 = .ok (.iconst (-1), 1) := by decide +kernel
theorem dX6_heightOfParent_39 : decode cX6_heightOfParent 39 = .ok (.goto 11, 3) := by decide +kernel
theorem dX6_heightOfParent_42 : decode cX6_heightOfParent 42 = .ok (.aload_n 0, 1) := by decide +kernel
theorem dX6_heightOfParent_43 : decode cX6_heightOfParent 43 = .ok (.getfield 9, 3) := by decide +kernel
theorem dX6_heightOfParent_46 : decode cX6_heightOfParent 46 = .ok (.iload_n 3, 1) := by decide +kernel
theorem dX6_heightOfParent_47 : decode cX6_heightOfParent 47 = .ok (.invokevirtual 87, 3) := by decide +kernel
theorem dX6_heightOfParent_50 : decode cX6_heightOfParent 50 = .ok (.ireturn, 1) := by decide +kernel
theorem dX6_lastVersion_0 : decode cX6_lastVersion 0 = .ok (.aload_n 0, 1) := by decide +kernel
theorem dX6_lastVersion_1 : decode cX6_lastVersion 1 = .ok (.getfield 50, 3) := by decide +kernel
theorem dX6_lastVersion_4 : decode cX6_lastVersion 4 = .ok (.aload_n 0, 1) := by decide +kernel
theorem dX6_lastVersion_5 : decode cX6_lastVersion 5 = .ok (.getfield 40, 3) := by decide +kernel
theorem dX6_lastVersion_8 : decode cX6_lastVersion 8 = .ok (.iadd, 1) := by decide +kernel
theorem dX6_lastVersion_9 : decode cX6_lastVersion 9 = .ok (.ireturn, 1) := by decide +kernel
theorem dX6_isKept_0 : decode cX6_isKept 0 = .ok (.aload_n 0, 1) := by decide +kernel
theorem dX6_isKept_1 : decode cX6_isKept 1 = .ok (.getfield 9, 3) := by decide +kernel
theorem dX6_isKept_4 : decode cX6_isKept 4 = .ok (.invokevirtual 53, 3) := by decide +kernel
theorem dX6_isKept_7 : decode cX6_isKept 7 = .ok (.ifCond .ne 23, 3) := by decide +kernel
theorem dX6_isKept_10 : decode cX6_isKept 10 = .ok (.iload_n 1, 1) := by decide +kernel
theorem dX6_isKept_11 : decode cX6_isKept 11 = .ok (.aload_n 0, 1) := by decide +kernel
theorem dX6_isKept_12 : decode cX6_isKept 12 = .ok (.getfield 50, 3) := by decide +kernel
theorem dX6_isKept_15 : decode cX6_isKept 15 = .ok (.if_icmp .lt 15, 3) := by decide +kernel
theorem dX6_isKept_18 : decode cX6_isKept 18 = .ok (.iload_n 1, 1) := by decide +kernel
theorem dX6_isKept_19 : decode cX6_isKept 19 = .ok (.aload_n 0, 1) := by decide +kernel
theorem dX6_isKept_20 : decode cX6_isKept 20 = .ok (.invokevirtual 126, 3) := by decide +kernel
theorem dX6_isKept_23 : decode cX6_isKept 23 = .ok (.if_icmp .gt 7, 3) := by decide +kernel
theorem dX6_isKept_26 : decode cX6_isKept 26 = .ok (.iconst 1, 1) := by decide +kernel
theorem dX6_isKept_27 : decode cX6_isKept 27 = .ok (.goto 4, 3) := by decide +kernel
theorem dX6_isKept_30 : decode cX6_isKept 30 = .ok (.iconst 0, 1) := by decide +kernel
theorem dX6_isKept_31 : decode cX6_isKept 31 = .ok (.ireturn, 1) := by decide +kernel
theorem dX6_blockOf_0 : decode cX6_blockOf 0 = .ok (.iload_n 1, 1) := by decide +kernel
theorem dX6_blockOf_1 : decode cX6_blockOf 1 = .ok (.aload_n 0, 1) := by decide +kernel
theorem dX6_blockOf_2 : decode cX6_blockOf 2 = .ok (.getfield 50, 3) := by decide +kernel
theorem dX6_blockOf_5 : decode cX6_blockOf 5 = .ok (.isub, 1) := by decide +kernel
theorem dX6_blockOf_6 : decode cX6_blockOf 6 = .ok (.iconst 1, 1) := by decide +kernel
theorem dX6_blockOf_7 : decode cX6_blockOf 7 = .ok (.isub, 1) := by decide +kernel
theorem dX6_blockOf_8 : decode cX6_blockOf 8 = .ok (.istore_n 2, 1) := by decide +kernel
theorem dX6_blockOf_9 : decode cX6_blockOf 9 = .ok (.iload_n 2, 1) := by decide +kernel
theorem dX6_blockOf_10 : decode cX6_blockOf 10 = .ok (.ifCond .lt 23, 3) := by decide +kernel
theorem dX6_blockOf_13 : decode cX6_blockOf 13 = .ok (.iload_n 2, 1) := by decide +kernel
theorem dX6_blockOf_14 : decode cX6_blockOf 14 = .ok (.aload_n 0, 1) := by decide +kernel
theorem dX6_blockOf_15 : decode cX6_blockOf 15 = .ok (.getfield 40, 3) := by decide +kernel
theorem dX6_blockOf_18 : decode cX6_blockOf 18 = .ok (.if_icmp .ge 15, 3) := by decide +kernel
theorem dX6_blockOf_21 : decode cX6_blockOf 21 = .ok (.aload_n 0, 1) := by decide +kernel
theorem dX6_blockOf_22 : decode cX6_blockOf 22 = .ok (.getfield 15, 3) := by decide +kernel
theorem dX6_blockOf_25 : decode cX6_blockOf 25 = .ok (.aload_n 0, 1) := by decide +kernel
theorem dX6_blockOf_26 : decode cX6_blockOf 26 = .ok (.getfield 29, 3) := by decide +kernel
theorem dX6_blockOf_29 : decode cX6_blockOf 29 = .ok (.iload_n 2, 1) := by decide +kernel
theorem dX6_blockOf_30 : decode cX6_blockOf 30 = .ok (.iaload, 1) := by decide +kernel
theorem dX6_blockOf_31 : decode cX6_blockOf 31 = .ok (.laload, 1) := by decide +kernel
theorem dX6_blockOf_32 : decode cX6_blockOf 32 = .ok (.lreturn, 1) := by decide +kernel
theorem dX6_blockOf_33 : decode cX6_blockOf 33 = .ok (.aload_n 0, 1) := by decide +kernel
theorem dX6_blockOf_34 : decode cX6_blockOf 34 = .ok (.getfield 46, 3) := by decide +kernel
theorem dX6_blockOf_37 : decode cX6_blockOf 37 = .ok (.ifCond .eq 12, 3) := by decide +kernel
theorem dX6_blockOf_40 : decode cX6_blockOf 40 = .ok (.aload_n 0, 1) := by decide +kernel
theorem dX6_blockOf_41 : decode cX6_blockOf 41 = .ok (.getfield 15, 3) := by decide +kernel
theorem dX6_blockOf_44 : decode cX6_blockOf 44 = .ok (.iconst 0, 1) := by decide +kernel
theorem dX6_blockOf_45 : decode cX6_blockOf 45 = .ok (.laload, 1) := by decide +kernel
theorem dX6_blockOf_46 : decode cX6_blockOf 46 = .ok (.goto 4, 3) := by decide +kernel
theorem dX6_blockOf_49 : decode cX6_blockOf 49 = .ok (.lconst 0, 1) := by decide +kernel
theorem dX6_blockOf_50 : decode cX6_blockOf 50 = .ok (.lreturn, 1) := by decide +kernel
theorem dX6_isNext_0 : decode cX6_isNext 0 = .ok (.aload_n 0, 1) := by decide +kernel
theorem dX6_isNext_1 : decode cX6_isNext 1 = .ok (.getfield 9, 3) := by decide +kernel
theorem dX6_isNext_4 : decode cX6_isNext 4 = .ok (.iload_n 1, 1) := by decide +kernel
theorem dX6_isNext_5 : decode cX6_isNext 5 = .ok (.invokevirtual 87, 3) := by decide +kernel
theorem dX6_isNext_8 : decode cX6_isNext 8 = .ok (.aload_n 0, 1) := by decide +kernel
theorem dX6_isNext_9 : decode cX6_isNext 9 = .ok (.invokevirtual 126, 3) := by decide +kernel
theorem dX6_isNext_12 : decode cX6_isNext 12 = .ok (.iconst 1, 1) := by decide +kernel
theorem dX6_isNext_13 : decode cX6_isNext 13 = .ok (.iadd, 1) := by decide +kernel
theorem dX6_isNext_14 : decode cX6_isNext 14 = .ok (.if_icmp .ne 27, 3) := by decide +kernel
theorem dX6_isNext_17 : decode cX6_isNext 17 = .ok (.aload_n 0, 1) := by decide +kernel
theorem dX6_isNext_18 : decode cX6_isNext 18 = .ok (.getfield 9, 3) := by decide +kernel
theorem dX6_isNext_21 : decode cX6_isNext 21 = .ok (.iload_n 1, 1) := by decide +kernel
theorem dX6_isNext_22 : decode cX6_isNext 22 = .ok (.invokevirtual 83, 3) := by decide +kernel
theorem dX6_isNext_25 : decode cX6_isNext 25 = .ok (.aload_n 0, 1) := by decide +kernel
theorem dX6_isNext_26 : decode cX6_isNext 26 = .ok (.aload_n 0, 1) := by decide +kernel
theorem dX6_isNext_27 : decode cX6_isNext 27 = .ok (.invokevirtual 126, 3) := by decide +kernel
theorem dX6_isNext_30 : decode cX6_isNext 30 = .ok (.invokevirtual 130, 3) := by decide +kernel
theorem dX6_isNext_33 : decode cX6_isNext 33 = .ok (.lcmp, 1) := by decide +kernel
theorem dX6_isNext_34 : decode cX6_isNext 34 = .ok (.ifCond .ne 7, 3) := by decide +kernel
theorem dX6_isNext_37 : decode cX6_isNext 37 = .ok (.iconst 1, 1) := by decide +kernel
theorem dX6_isNext_38 : decode cX6_isNext 38 = .ok (.goto 4, 3) := by decide +kernel
theorem dX6_isNext_41 : decode cX6_isNext 41 = .ok (.iconst 0, 1) := by decide +kernel
theorem dX6_isNext_42 : decode cX6_isNext 42 = .ok (.ireturn, 1) := by decide +kernel
theorem dX6_isCertified_0 : decode cX6_isCertified 0 = .ok (.iconst 0, 1) := by decide +kernel
theorem dX6_isCertified_1 : decode cX6_isCertified 1 = .ok (.istore_n 2, 1) := by decide +kernel
theorem dX6_isCertified_2 : decode cX6_isCertified 2 = .ok (.iload_n 2, 1) := by decide +kernel
theorem dX6_isCertified_3 : decode cX6_isCertified 3 = .ok (.aload_n 0, 1) := by decide +kernel
theorem dX6_isCertified_4 : decode cX6_isCertified 4 = .ok (.getfield 40, 3) := by decide +kernel
theorem dX6_isCertified_7 : decode cX6_isCertified 7 = .ok (.if_icmp .ge 21, 3) := by decide +kernel
theorem dX6_isCertified_10 : decode cX6_isCertified 10 = .ok (.aload_n 0, 1) := by decide +kernel
theorem dX6_isCertified_11 : decode cX6_isCertified 11 = .ok (.getfield 29, 3) := by decide +kernel
theorem dX6_isCertified_14 : decode cX6_isCertified 14 = .ok (.iload_n 2, 1) := by decide +kernel
theorem dX6_isCertified_15 : decode cX6_isCertified 15 = .ok (.iaload, 1) := by decide +kernel
theorem dX6_isCertified_16 : decode cX6_isCertified 16 = .ok (.iload_n 1, 1) := by decide +kernel
theorem dX6_isCertified_17 : decode cX6_isCertified 17 = .ok (.if_icmp .ne 5, 3) := by decide +kernel
theorem dX6_isCertified_20 : decode cX6_isCertified 20 = .ok (.iconst 1, 1) := by decide +kernel
theorem dX6_isCertified_21 : decode cX6_isCertified 21 = .ok (.ireturn, 1) := by decide +kernel
theorem dX6_isCertified_22 : decode cX6_isCertified 22 = .ok (.iinc 2 1, 3) := by decide +kernel
theorem dX6_isCertified_25 : decode cX6_isCertified 25 = .ok (.goto (-23), 3) := by decide +kernel
