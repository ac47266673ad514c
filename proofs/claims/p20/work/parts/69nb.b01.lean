theorem dX4_clear_69 : decode cX4_clear 69 = .ok (.iconst 3, 1) := by decide +kernel
theorem dX4_clear_70 : decode cX4_clear 70 = .ok (.if_icmp .ne 20, 3) := by decide +kernel
theorem dX4_clear_73 : decode cX4_clear 73 = .ok (.aload_n 0, 1) := by decide +kernel
theorem dX4_clear_74 : decode cX4_clear 74 = .ok (.getfield 9, 3) := by decide +kernel
theorem dX4_clear_77 : decode cX4_clear 77 = .ok (.aload_n 0, 1) := by decide +kernel
theorem dX4_clear_78 : decode cX4_clear 78 = .ok (.getfield 19, 3) := by decide +kernel
theorem dX4_clear_81 : decode cX4_clear 81 = .ok (.aload_n 0, 1) := by decide +kernel
theorem dX4_clear_82 : decode cX4_clear 82 = .ok (.getfield 26, 3) := by decide +kernel
theorem dX4_clear_85 : decode cX4_clear 85 = .ok (.iconst 1, 1) := by decide +kernel
theorem dX4_clear_86 : decode cX4_clear 86 = .ok (.invokevirtual 112, 3) := by decide +kernel
theorem dX4_clear_89 : decode cX4_clear 89 = .ok (.ireturn, 1) := by decide +kernel
theorem dX4_clear_90 : decode cX4_clear 90 = .ok (.iload_n 2, 1) := by decide +kernel
theorem dX4_clear_91 : decode cX4_clear 91 = .ok (.iconst 1, 1) := by decide +kernel
theorem dX4_clear_92 : decode cX4_clear 92 = .ok (.if_icmp .ne 5, 3) := by decide +kernel
theorem dX4_clear_95 : decode cX4_clear 95 = .ok (.iconst 1, 1) := by decide +kernel
theorem dX4_clear_96 : decode cX4_clear 96 = .ok (.ireturn, 1) := by decide +kernel
theorem dX4_clear_97 : decode cX4_clear 97 = .ok (.iload_n 2, 1) := by decide +kernel
theorem dX4_clear_98 : decode cX4_clear 98 = .ok (.iconst 4, 1) := by decide +kernel
theorem dX4_clear_99 : decode cX4_clear 99 = .ok (.if_icmp .ne 13, 3) := by decide +kernel
theorem dX4_clear_102 : decode cX4_clear 102 = .ok (.aload_n 0, 1) := by decide +kernel
theorem dX4_clear_103 : decode cX4_clear 103 = .ok (.dup, 1) := by decide +kernel
theorem dX4_clear_104 : decode cX4_clear 104 = .ok (.getfield 29, 3) := by decide +kernel
theorem dX4_clear_107 : decode cX4_clear 107 = .ok (.iconst 1, 1) := by decide +kernel
theorem dX4_clear_108 : decode cX4_clear 108 = .ok (.iadd, 1) := by decide +kernel
theorem dX4_clear_109 : decode cX4_clear 109 = .ok (.putfield 29, 3) := by decide +kernel
theorem dX4_clear_112 : decode cX4_clear 112 = .ok (.aload_n 0, 1) := by decide +kernel
theorem dX4_clear_113 : decode cX4_clear 113 = .ok (.dup, 1) := by decide +kernel
theorem dX4_clear_114 : decode cX4_clear 114 = .ok (.getfield 26, 3) := by decide +kernel
theorem dX4_clear_117 : decode cX4_clear 117 = .ok (.iconst 1, 1) := by decide +kernel
theorem dX4_clear_118 : decode cX4_clear 118 = .ok (.iadd, 1) := by decide +kernel
theorem dX4_clear_119 : decode cX4_clear 119 = .ok (.putfield 26, 3) := by decide +kernel
theorem dX4_clear_122 : decode cX4_clear 122 = .ok (.goto (-73), 3) := by decide +kernel
theorem dX4_clear_125 : decode cX4_clear 125 = .ok (.iconst 1, 1) := by decide +kernel
theorem dX4_clear_126 : decode cX4_clear 126 = .ok (.ireturn, 1) := by decide +kernel
theorem dX4_countBad_0 : decode cX4_countBad 0 = .ok (.iconst 0, 1) := by decide +kernel
theorem dX4_countBad_1 : decode cX4_countBad 1 = .ok (.istore_n 1, 1) := by decide +kernel
theorem dX4_countBad_2 : decode cX4_countBad 2 = .ok (.iconst 0, 1) := by decide +kernel
theorem dX4_countBad_3 : decode cX4_countBad 3 = .ok (.istore_n 2, 1) := by decide +kernel
theorem dX4_countBad_4 : decode cX4_countBad 4 = .ok (.iload_n 2, 1) := by decide +kernel
theorem dX4_countBad_5 : decode cX4_countBad 5 = .ok (.aload_n 0, 1) := by decide +kernel
theorem dX4_countBad_6 : decode cX4_countBad 6 = .ok (.getfield 26, 3) := by decide +kernel
theorem dX4_countBad_9 : decode cX4_countBad 9 = .ok (.if_icmp .ge 21, 3) := by decide +kernel
theorem dX4_countBad_12 : decode cX4_countBad 12 = .ok (.aload_n 0, 1) := by decide +kernel
theorem dX4_countBad_13 : decode cX4_countBad 13 = .ok (.iload_n 2, 1) := by decide +kernel
theorem dX4_countBad_14 : decode cX4_countBad 14 = .ok (.invokevirtual 109, 3) := by decide +kernel
theorem dX4_countBad_17 : decode cX4_countBad 17 = .ok (.iconst 4, 1) := by decide +kernel
theorem dX4_countBad_18 : decode cX4_countBad 18 = .ok (.if_icmp .ne 6, 3) := by decide +kernel
theorem dX4_countBad_21 : decode cX4_countBad 21 = .ok (.iinc 1 1, 3) := by decide +kernel
theorem dX4_countBad_24 : decode cX4_countBad 24 = .ok (.iinc 2 1, 3) := by decide +kernel
theorem dX4_countBad_27 : decode cX4_countBad 27 = .ok (.goto (-23), 3) := by decide +kernel
theorem dX4_countBad_30 : decode cX4_countBad 30 = .ok (.iload_n 1, 1) := by decide +kernel
theorem dX4_countBad_31 : decode cX4_countBad 31 = .ok (.ireturn, 1) := by decide +kernel
theorem dX4_badRow_0 : decode cX4_badRow 0 = .ok (.iconst 0, 1) := by decide +kernel
theorem dX4_badRow_1 : decode cX4_badRow 1 = .ok (.istore_n 2, 1) := by decide +kernel
theorem dX4_badRow_2 : decode cX4_badRow 2 = .ok (.iconst 0, 1) := by decide +kernel
theorem dX4_badRow_3 : decode cX4_badRow 3 = .ok (.istore_n 3, 1) := by decide +kernel
theorem dX4_badRow_4 : decode cX4_badRow 4 = .ok (.iload_n 3, 1) := by decide +kernel
theorem dX4_badRow_5 : decode cX4_badRow 5 = .ok (.aload_n 0, 1) := by decide +kernel
theorem dX4_badRow_6 : decode cX4_badRow 6 = .ok (.getfield 26, 3) := by decide +kernel
theorem dX4_badRow_9 : decode cX4_badRow 9 = .ok (.if_icmp .ge 28, 3) := by decide +kernel
theorem dX4_badRow_12 : decode cX4_badRow 12 = .ok (.aload_n 0, 1) := by decide +kernel
theorem dX4_badRow_13 : decode cX4_badRow 13 = .ok (.iload_n 3, 1) := by decide +kernel
theorem dX4_badRow_14 : decode cX4_badRow 14 = .ok (.invokevirtual 109, 3) := by decide +kernel
theorem dX4_badRow_17 : decode cX4_badRow 17 = .ok (.iconst 4, 1) := by decide +kernel
theorem dX4_badRow_18 : decode cX4_badRow 18 = .ok (.if_icmp .ne 13, 3) := by decide +kernel
theorem dX4_badRow_21 : decode cX4_badRow 21 = .ok (.iload_n 2, 1) := by decide +kernel
theorem dX4_badRow_22 : decode cX4_badRow 22 = .ok (.iload_n 1, 1) := by decide +kernel
theorem dX4_badRow_23 : decode cX4_badRow 23 = .ok (.if_icmp .ne 5, 3) := by decide +kernel
theorem dX4_badRow_26 : decode cX4_badRow 26 = .ok (.iload_n 3, 1) := by decide +kernel
theorem dX4_badRow_27 : decode cX4_badRow 27 = .ok (.ireturn, 1) := by decide +kernel
theorem dX4_badRow_28 : decode cX4_badRow 28 = .ok (.iinc 2 1, 3) := by decide +kernel
theorem dX4_badRow_31 : decode cX4_badRow 31 = .ok (.iinc 3 1, 3) := by decide +kernel
theorem dX4_badRow_34 : decode cX4_badRow 34 = .ok (.goto (-30), 3) := by decide +kernel
theorem dX4_badRow_37 : decode cX4_badRow 37 = .ok (.iconst (-1), 1) := by decide +kernel
theorem dX4_badRow_38 : decode cX4_badRow 38 = .ok (.ireturn, 1) := by decide +kernel
theorem dX4_dropLacking_0 : decode cX4_dropLacking 0 = .ok (.aload_n 0, 1) := by decide +kernel
theorem dX4_dropLacking_1 : decode cX4_dropLacking 1 = .ok (.getfield 26, 3) := by decide +kernel
theorem dX4_dropLacking_4 : decode cX4_dropLacking 4 = .ok (.iconst 1, 1) := by decide +kernel
theorem dX4_dropLacking_5 : decode cX4_dropLacking 5 = .ok (.isub, 1) := by decide +kernel
theorem dX4_dropLacking_6 : decode cX4_dropLacking 6 = .ok (.istore_n 1, 1) := by decide +kernel
theorem dX4_dropLacking_7 : decode cX4_dropLacking 7 = .ok (.iload_n 1, 1) := by decide +kernel
theorem dX4_dropLacking_8 : decode cX4_dropLacking 8 = .ok (.ifCond .lt 27, 3) := by decide +kernel
theorem dX4_dropLacking_11 : decode cX4_dropLacking 11 = .ok (.aload_n 0, 1) := by decide +kernel
theorem dX4_dropLacking_12 : decode cX4_dropLacking 12 = .ok (.iload_n 1, 1) := by decide +kernel
theorem dX4_dropLacking_13 : decode cX4_dropLacking 13 = .ok (.invokevirtual 116, 3) := by decide +kernel
theorem dX4_dropLacking_16 : decode cX4_dropLacking 16 = .ok (.iconst 2, 1) := by decide +kernel
theorem dX4_dropLacking_17 : decode cX4_dropLacking 17 = .ok (.if_icmp .eq 18, 3) := by decide +kernel
theorem dX4_dropLacking_20 : decode cX4_dropLacking 20 = .ok (.aload_n 0, 1) := by decide +kernel
theorem dX4_dropLacking_21 : decode cX4_dropLacking 21 = .ok (.iload_n 1, 1) := by decide +kernel
theorem dX4_dropLacking_22 : decode cX4_dropLacking 22 = .ok (.invokevirtual 116, 3) := by decide +kernel
theorem dX4_dropLacking_25 : decode cX4_dropLacking 25 = .ok (.iconst 5, 1) := by decide +kernel
theorem dX4_dropLacking_26 : decode cX4_dropLacking 26 = .ok (.if_icmp .eq 9, 3) := by decide +kernel
theorem dX4_dropLacking_29 : decode cX4_dropLacking 29 = .ok (.iinc 1 (-1), 3) := by decide +kernel
theorem dX4_dropLacking_32 : decode cX4_dropLacking 32 = .ok (.goto (-25), 3) := by decide +kernel
theorem dX4_dropLacking_35 : decode cX4_dropLacking 35 = .ok (.iload_n 1, 1) := by decide +kernel
theorem dX4_dropLacking_36 : decode cX4_dropLacking 36 = .ok (.ifCond .ge 5, 3) := by decide +kernel
theorem dX4_dropLacking_39 : decode cX4_dropLacking 39 = .ok (.iconst 1, 1) := by decide +kernel
theorem dX4_dropLacking_40 : decode cX4_dropLacking 40 = .ok (.ireturn, 1) := by decide +kernel
theorem dX4_dropLacking_41 : decode cX4_dropLacking 41 = .ok (.aload_n 0, 1) := by decide +kernel
theorem dX4_dropLacking_42 : decode cX4_dropLacking 42 = .ok (.iload_n 1, 1) := by decide +kernel
theorem dX4_dropLacking_43 : decode cX4_dropLacking 43 = .ok (.invokevirtual 119, 3) := by decide +kernel
theorem dX4_dropLacking_46 : decode cX4_dropLacking 46 = .ok (.istore_n 2, 1) := by decide +kernel
theorem dX4_dropLacking_47 : decode cX4_dropLacking 47 = .ok (.iload_n 2, 1) := by decide +kernel
theorem dX4_dropLacking_48 : decode cX4_dropLacking 48 = .ok (.ifCond .lt 21, 3) := by decide +kernel
theorem dX4_dropLacking_51 : decode cX4_dropLacking 51 = .ok (.iload_n 2, 1) := by decide +kernel
theorem dX4_dropLacking_52 : decode cX4_dropLacking 52 = .ok (.bipush 16, 2) := by decide +kernel
theorem dX4_dropLacking_54 : decode cX4_dropLacking 54 = .ok (.if_icmp .gt 15, 3) := by decide +kernel
theorem dX4_dropLacking_57 : decode cX4_dropLacking 57 = .ok (.aload_n 0, 1) := by decide +kernel
theorem dX4_dropLacking_58 : decode cX4_dropLacking 58 = .ok (.getfield 26, 3) := by decide +kernel
theorem dX4_dropLacking_61 : decode cX4_dropLacking 61 = .ok (.iconst 1, 1) := by decide +kernel
theorem dX4_dropLacking_62 : decode cX4_dropLacking 62 = .ok (.isub, 1) := by decide +kernel
theorem dX4_dropLacking_63 : decode cX4_dropLacking 63 = .ok (.iload_n 1, 1) := by decide +kernel
theorem dX4_dropLacking_64 : decode cX4_dropLacking 64 = .ok (.isub, 1) := by decide +kernel
theorem dX4_dropLacking_65 : decode cX4_dropLacking 65 = .ok (.iload_n 2, 1) := by decide +kernel
theorem dX4_dropLacking_66 : decode cX4_dropLacking 66 = .ok (.if_icmp .lt 5, 3) := by decide +kernel
theorem dX4_dropLacking_69 : decode cX4_dropLacking 69 = .ok (.iconst 1, 1) := by decide +kernel
theorem dX4_dropLacking_70 : decode cX4_dropLacking 70 = .ok (.ireturn, 1) := by decide +kernel
theorem dX4_dropLacking_71 : decode cX4_dropLacking 71 = .ok (.aload_n 0, 1) := by decide +kernel
theorem dX4_dropLacking_72 : decode cX4_dropLacking 72 = .ok (.getfield 26, 3) := by decide +kernel
theorem dX4_dropLacking_75 : decode cX4_dropLacking 75 = .ok (.iconst 1, 1) := by decide +kernel
theorem dX4_dropLacking_76 : decode cX4_dropLacking 76 = .ok (.isub, 1) := by decide +kernel
theorem dX4_dropLacking_77 : decode cX4_dropLacking 77 = .ok (.istore_n 3, 1) := by decide +kernel
theorem dX4_dropLacking_78 : decode cX4_dropLacking 78 = .ok (.iload_n 3, 1) := by decide +kernel
theorem dX4_dropLacking_79 : decode cX4_dropLacking 79 = .ok (.iload_n 1, 1) := by decide +kernel
theorem dX4_dropLacking_80 : decode cX4_dropLacking 80 = .ok (.if_icmp .lt 27, 3) := by decide +kernel
theorem dX4_dropLacking_83 : decode cX4_dropLacking 83 = .ok (.aload_n 0, 1) := by decide +kernel
theorem dX4_dropLacking_84 : decode cX4_dropLacking 84 = .ok (.getfield 9, 3) := by decide +kernel
theorem dX4_dropLacking_87 : decode cX4_dropLacking 87 = .ok (.aload_n 0, 1) := by decide +kernel
theorem dX4_dropLacking_88 : decode cX4_dropLacking 88 = .ok (.getfield 19, 3) := by decide +kernel
theorem dX4_dropLacking_91 : decode cX4_dropLacking 91 = .ok (.iload_n 3, 1) := by decide +kernel
theorem dX4_dropLacking_92 : decode cX4_dropLacking 92 = .ok (.iconst 1, 1) := by decide +kernel
theorem dX4_dropLacking_93 : decode cX4_dropLacking 93 = .ok (.invokevirtual 112, 3) := by decide +kernel
theorem dX4_dropLacking_96 : decode cX4_dropLacking 96 = .ok (.ifCond .ne 5, 3) := by decide +kernel
theorem dX4_dropLacking_99 : decode cX4_dropLacking 99 = .ok (.iconst 0, 1) := by decide +kernel
theorem dX4_dropLacking_100 : decode cX4_dropLacking 100 = .ok (.ireturn, 1) := by decide +kernel
theorem dX4_dropLacking_101 : decode cX4_dropLacking 101 = .ok (.iinc 3 (-1), 3) := by decide +kernel
theorem dX4_dropLacking_104 : decode cX4_dropLacking 104 = .ok (.goto (-26), 3) := by decide +kernel
theorem dX4_dropLacking_107 : decode cX4_dropLacking 107 = .ok (.aload_n 0, 1) := by decide +kernel
theorem dX4_dropLacking_108 : decode cX4_dropLacking 108 = .ok (.iload_n 1, 1) := by decide +kernel
theorem dX4_dropLacking_109 : decode cX4_dropLacking 109 = .ok (.putfield 26, 3) := by decide +kernel
theorem dX4_dropLacking_112 : decode cX4_dropLacking 112 = .ok (.iconst 1, 1) := by decide +kernel
theorem dX4_dropLacking_113 : decode cX4_dropLacking 113 = .ok (.ireturn, 1) := by decide +kernel
theorem dX4_seal_0 : decode cX4_seal 0 = .ok (.iconst 0, 1) := by decide +kernel
theorem dX4_seal_1 : decode cX4_seal 1 = .ok (.istore_n 1, 1) := by decide +kernel
theorem dX4_seal_2 : decode cX4_seal 2 = .ok (.iload_n 1, 1) := by decide +kernel
theorem dX4_seal_3 : decode cX4_seal 3 = .ok (.aload_n 0, 1) := by decide +kernel
theorem dX4_seal_4 : decode cX4_seal 4 = .ok (.getfield 26, 3) := by decide +kernel
theorem dX4_seal_7 : decode cX4_seal 7 = .ok (.if_icmp .ge 71, 3) := by decide +kernel
theorem dX4_seal_10 : decode cX4_seal 10 = .ok (.aload_n 0, 1) := by decide +kernel
theorem dX4_seal_11 : decode cX4_seal 11 = .ok (.iload_n 1, 1) := by decide +kernel
theorem dX4_seal_12 : decode cX4_seal 12 = .ok (.invokevirtual 47, 3) := by decide +kernel
theorem dX4_seal_15 : decode cX4_seal 15 = .ok (.bipush 32, 2) := by decide +kernel
theorem dX4_seal_17 : decode cX4_seal 17 = .ok (.iadd, 1) := by decide +kernel
theorem dX4_seal_18 : decode cX4_seal 18 = .ok (.iconst 1, 1) := by decide +kernel
theorem dX4_seal_19 : decode cX4_seal 19 = .ok (.isub, 1) := by decide +kernel
theorem dX4_seal_20 : decode cX4_seal 20 = .ok (.istore_n 2, 1) := by decide +kernel
theorem dX4_seal_21 : decode cX4_seal 21 = .ok (.aload_n 0, 1) := by decide +kernel
theorem dX4_seal_22 : decode cX4_seal 22 = .ok (.iload_n 1, 1) := by decide +kernel
theorem dX4_seal_23 : decode cX4_seal 23 = .ok (.invokevirtual 109, 3) := by decide +kernel
theorem dX4_seal_26 : decode cX4_seal 26 = .ok (.iconst 2, 1) := by decide +kernel
theorem dX4_seal_27 : decode cX4_seal 27 = .ok (.if_icmp .ne 26, 3) := by decide +kernel
theorem dX4_seal_30 : decode cX4_seal 30 = .ok (.aload_n 0, 1) := by decide +kernel
theorem dX4_seal_31 : decode cX4_seal 31 = .ok (.getfield 9, 3) := by decide +kernel
theorem dX4_seal_34 : decode cX4_seal 34 = .ok (.getfield 36, 3) := by decide +kernel
theorem dX4_seal_37 : decode cX4_seal 37 = .ok (.iload_n 2, 1) := by decide +kernel
theorem dX4_seal_38 : decode cX4_seal 38 = .ok (.baload, 1) := by decide +kernel
theorem dX4_seal_39 : decode cX4_seal 39 = .ok (.sipush 255, 3) := by decide +kernel
theorem dX4_seal_42 : decode cX4_seal 42 = .ok (.iand, 1) := by decide +kernel
theorem dX4_seal_43 : decode cX4_seal 43 = .ok (.sipush 165, 3) := by decide +kernel
theorem dX4_seal_46 : decode cX4_seal 46 = .ok (.if_icmp .eq 7, 3) := by decide +kernel
theorem dX4_seal_49 : decode cX4_seal 49 = .ok (.iconst 1, 1) := by decide +kernel
theorem dX4_seal_50 : decode cX4_seal 50 = .ok (.goto 4, 3) := by decide +kernel
theorem dX4_seal_53 : decode cX4_seal 53 = .ok (.iconst 0, 1) := by decide +kernel
theorem dX4_seal_54 : decode cX4_seal 54 = .ok (.istore_n 3, 1) := by decide +kernel
theorem dX4_seal_55 : decode cX4_seal 55 = .ok (.iload_n 3, 1) := by decide +kernel
theorem dX4_seal_56 : decode cX4_seal 56 = .ok (.ifCond .eq 16, 3) := by decide +kernel
theorem dX4_seal_59 : decode cX4_seal 59 = .ok (.aload_n 0, 1) := by decide +kernel
theorem dX4_seal_60 : decode cX4_seal 60 = .ok (.getfield 9, 3) := by decide +kernel
theorem dX4_seal_63 : decode cX4_seal 63 = .ok (.iload_n 2, 1) := by decide +kernel
theorem dX4_seal_64 : decode cX4_seal 64 = .ok (.invokevirtual 122, 3) := by decide +kernel
theorem dX4_seal_67 : decode cX4_seal 67 = .ok (.ifCond .ne 5, 3) := by decide +kernel
theorem dX4_seal_70 : decode cX4_seal 70 = .ok (.iconst 0, 1) := by decide +kernel
theorem dX4_seal_71 : decode cX4_seal 71 = .ok (.ireturn, 1) := by decide +kernel
theorem dX4_seal_72 : decode cX4_seal 72 = .ok (.iinc 1 1, 3) := by decide +kernel
theorem dX4_seal_75 : decode cX4_seal 75 = .ok (.goto (-73), 3) := by decide +kernel
theorem dX4_seal_78 : decode cX4_seal 78 = .ok (.iconst 1, 1) := by decide +kernel
theorem dX4_seal_79 : decode cX4_seal 79 = .ok (.ireturn, 1) := by decide +kernel
theorem dX4_drawMended_0 : decode cX4_drawMended 0 = .ok (.aload_n 2, 1) := by decide +kernel
theorem dX4_drawMended_1 : decode cX4_drawMended 1 = .ok (.getfield 125, 3) := by decide +kernel
theorem dX4_drawMended_4 : decode cX4_drawMended 4 = .ok (.bipush 23, 2) := by decide +kernel
theorem dX4_drawMended_6 : decode cX4_drawMended 6 = .ok (.if_icmp .eq 5, 3) := by decide +kernel
theorem dX4_drawMended_9 : decode cX4_drawMended 9 = .ok (.iconst 0, 1) := by decide +kernel
theorem dX4_drawMended_10 : decode cX4_drawMended 10 = .ok (.ireturn, 1) := by decide +kernel
theorem dX4_drawMended_11 : decode cX4_drawMended 11 = .ok (.aload_n 2, 1) := by decide +kernel
theorem dX4_drawMended_12 : decode cX4_drawMended 12 = .ok (.getfield 128, 3) := by decide +kernel
theorem dX4_drawMended_15 : decode cX4_drawMended 15 = .ok (.iconst 0, 1) := by decide +kernel
theorem dX4_drawMended_16 : decode cX4_drawMended 16 = .ok (.aload_n 0, 1) := by decide +kernel
theorem dX4_drawMended_17 : decode cX4_drawMended 17 = .ok (.getfield 15, 3) := by decide +kernel
theorem dX4_drawMended_20 : decode cX4_drawMended 20 = .ok (.iconst 0, 1) := by decide +kernel
theorem dX4_drawMended_21 : decode cX4_drawMended 21 = .ok (.bipush 23, 2) := by decide +kernel
theorem dX4_drawMended_23 : decode cX4_drawMended 23 = .ok (.invokestatic 41, 3) := by decide +kernel
theorem dX4_drawMended_26 : decode cX4_drawMended 26 = .ok (.aload_n 0, 1) := by decide +kernel
theorem dX4_drawMended_27 : decode cX4_drawMended 27 = .ok (.getfield 15, 3) := by decide +kernel
theorem dX4_drawMended_30 : decode cX4_drawMended 30 = .ok (.bipush 23, 2) := by decide +kernel
theorem dX4_drawMended_32 : decode cX4_drawMended 32 = .ok (.iconst 2, 1) := by decide +kernel
theorem dX4_drawMended_33 : decode cX4_drawMended 33 = .ok (.invokestatic 73, 3) := by decide +kernel
theorem dX4_drawMended_36 : decode cX4_drawMended 36 = .ok (.aload_n 0, 1) := by decide +kernel
theorem dX4_drawMended_37 : decode cX4_drawMended 37 = .ok (.getfield 15, 3) := by decide +kernel
theorem dX4_drawMended_40 : decode cX4_drawMended 40 = .ok (.aload_n 0, 1) := by decide +kernel
theorem dX4_drawMended_41 : decode cX4_drawMended 41 = .ok (.getfield 9, 3) := by decide +kernel
theorem dX4_drawMended_44 : decode cX4_drawMended 44 = .ok (.getfield 36, 3) := by decide +kernel
theorem dX4_drawMended_47 : decode cX4_drawMended 47 = .ok (.aload_n 0, 1) := by decide +kernel
theorem dX4_drawMended_48 : decode cX4_drawMended 48 = .ok (.iload_n 1, 1) := by decide +kernel
theorem dX4_drawMended_49 : decode cX4_drawMended 49 = .ok (.invokevirtual 47, 3) := by decide +kernel
theorem dX4_drawMended_52 : decode cX4_drawMended 52 = .ok (.bipush 23, 2) := by decide +kernel
theorem dX4_drawMended_54 : decode cX4_drawMended 54 = .ok (.invokestatic 131, 3) := by decide +kernel
theorem dX4_drawMended_57 : decode cX4_drawMended 57 = .ok (.ireturn, 1) := by decide +kernel
theorem dX4_rewrite_0 : decode cX4_rewrite 0 = .ok (.aload_n 0, 1) := by decide +kernel
theorem dX4_rewrite_1 : decode cX4_rewrite 1 = .ok (.aload_n 0, 1) := by decide +kernel
theorem dX4_rewrite_2 : decode cX4_rewrite 2 = .ok (.getfield 19, 3) := by decide +kernel
theorem dX4_rewrite_5 : decode cX4_rewrite 5 = .ok (.iload_n 1, 1) := by decide +kernel
theorem dX4_rewrite_6 : decode cX4_rewrite 6 = .ok (.invokevirtual 88, 3) := by decide +kernel
theorem dX4_rewrite_9 : decode cX4_rewrite 9 = .ok (.ifCond .ne 5, 3) := by decide +kernel
theorem dX4_rewrite_12 : decode cX4_rewrite 12 = .ok (.iconst 0, 1) := by decide +kernel
theorem dX4_rewrite_13 : decode cX4_rewrite 13 = .ok (.ireturn, 1) := by decide +kernel
theorem dX4_rewrite_14 : decode cX4_rewrite 14 = .ok (.aload_n 0, 1) := by decide +kernel
theorem dX4_rewrite_15 : decode cX4_rewrite 15 = .ok (.aload_n 0, 1) := by decide +kernel
theorem dX4_rewrite_16 : decode cX4_rewrite 16 = .ok (.invokevirtual 135, 3) := by decide +kernel
theorem dX4_rewrite_19 : decode cX4_rewrite 19 = .ok (.putfield 29, 3) := by decide +kernel
theorem dX4_rewrite_22 : decode cX4_rewrite 22 = .ok (.aload_n 0, 1) := by decide +kernel
theorem dX4_rewrite_23 : decode cX4_rewrite 23 = .ok (.invokevirtual 139, 3) := by decide +kernel
theorem dX4_rewrite_26 : decode cX4_rewrite 26 = .ok (.ifCond .ne 10, 3) := by decide +kernel
theorem dX4_rewrite_29 : decode cX4_rewrite 29 = .ok (.aload_n 0, 1) := by decide +kernel
theorem dX4_rewrite_30 : decode cX4_rewrite 30 = .ok (.invokevirtual 143, 3) := by decide +kernel
theorem dX4_rewrite_33 : decode cX4_rewrite 33 = .ok (.ifCond .eq 7, 3) := by decide +kernel
theorem dX4_rewrite_36 : decode cX4_rewrite 36 = .ok (.iconst 1, 1) := by decide +kernel
theorem dX4_rewrite_37 : decode cX4_rewrite 37 = .ok (.goto 4, 3) := by decide +kernel
theorem dX4_rewrite_40 : decode cX4_rewrite 40 = .ok (.iconst 0, 1) := by decide +kernel
theorem dX4_rewrite_41 : decode cX4_rewrite 41 = .ok (.ireturn, 1) := by decide +kernel
theorem dX7_append_0 : decode cX7_append 0 = .ok (.aload_n 0, 1) := by decide +kernel
theorem dX7_append_1 : decode cX7_append 1 = .ok (.getfield 15, 3) := by decide +kernel
theorem dX7_append_4 : decode cX7_append 4 = .ok (.sipush 400, 3) := by decide +kernel
theorem dX7_append_7 : decode cX7_append 7 = .ok (.if_icmp .ge 24, 3) := by decide +kernel
theorem dX7_append_10 : decode cX7_append 10 = .ok (.aload_n 0, 1) := by decide +kernel
theorem dX7_append_11 : decode cX7_append 11 = .ok (.getfield 9, 3) := by decide +kernel
theorem dX7_append_14 : decode cX7_append 14 = .ok (.aload_n 0, 1) := by decide +kernel
theorem dX7_append_15 : decode cX7_append 15 = .ok (.getfield 15, 3) := by decide +kernel
theorem dX7_append_18 : decode cX7_append 18 = .ok (.iload_n 1, 1) := by decide +kernel
theorem dX7_append_19 : decode cX7_append 19 = .ok (.i2b, 1) := by decide +kernel
theorem dX7_append_20 : decode cX7_append 20 = .ok (.bastore, 1) := by decide +kernel
theorem dX7_append_21 : decode cX7_append 21 = .ok (.aload_n 0, 1) := by decide +kernel
theorem dX7_append_22 : decode cX7_append 22 = .ok (.dup, 1) := by decide +kernel
theorem dX7_append_23 : decode cX7_append 23 = .ok (.getfield 15, 3) := by decide +kernel
theorem dX7_append_26 : decode cX7_append 26 = .ok (.iconst 1, 1) := by decide +kernel
theorem dX7_append_27 : decode cX7_append 27 = .ok (.iadd, 1) := by decide +kernel
theorem dX7_append_28 : decode cX7_append 28 = .ok (.putfield 15, 3) := by decide +kernel
theorem dX7_append_31 : decode cX7_append 31 = .ok (.return_, 1) := by decide +kernel
theorem dX7_appendInt_0 : decode cX7_appendInt 0 = .ok (.bipush 24, 2) := by decide +kernel
theorem dX7_appendInt_2 : decode cX7_appendInt 2 = .ok (.istore_n 2, 1) := by decide +kernel
theorem dX7_appendInt_3 : decode cX7_appendInt 3 = .ok (.iload_n 2, 1) := by decide +kernel
theorem dX7_appendInt_4 : decode cX7_appendInt 4 = .ok (.ifCond .lt 16, 3) := by decide +kernel
theorem dX7_appendInt_7 : decode cX7_appendInt 7 = .ok (.aload_n 0, 1) := by decide +kernel
theorem dX7_appendInt_8 : decode cX7_appendInt 8 = .ok (.iload_n 1, 1) := by decide +kernel
theorem dX7_appendInt_9 : decode cX7_appendInt 9 = .ok (.iload_n 2, 1) := by decide +kernel
theorem dX7_appendInt_10 : decode cX7_appendInt 10 = .ok (.iushr, 1) := by decide +kernel
theorem dX7_appendInt_11 : decode cX7_appendInt 11 = .ok (.invokevirtual 19, 3) := by decide +kernel
theorem dX7_appendInt_14 : decode cX7_appendInt 14 = .ok (.iinc 2 (-8), 3) := by decide +kernel
theorem dX7_appendInt_17 : decode cX7_appendInt 17 = .ok (.goto (-14), 3) := by decide +kernel
theorem dX7_appendInt_20 : decode cX7_appendInt 20 = .ok (.return_, 1) := by decide +kernel
theorem dX7_appendLong_0 : decode cX7_appendLong 0 = .ok (.aload_n 0, 1) := by decide +kernel
theorem dX7_appendLong_1 : decode cX7_appendLong 1 = .ok (.lload_n 1, 1) := by decide +kernel
theorem dX7_appendLong_2 : decode cX7_appendLong 2 = .ok (.bipush 32, 2) := by decide +kernel
theorem dX7_appendLong_4 : decode cX7_appendLong 4 = .ok (.lushr, 1) := by decide +kernel
theorem dX7_appendLong_5 : decode cX7_appendLong 5 = .ok (.l2i, 1) := by decide +kernel
theorem dX7_appendLong_6 : decode cX7_appendLong 6 = .ok (.invokevirtual 23, 3) := by decide +kernel
theorem dX7_appendLong_9 : decode cX7_appendLong 9 = .ok (.aload_n 0, 1) := by decide +kernel
theorem dX7_appendLong_10 : decode cX7_appendLong 10 = .ok (.lload_n 1, 1) := by decide +kernel
theorem dX7_appendLong_11 : decode cX7_appendLong 11 = .ok (.l2i, 1) := by decide +kernel
theorem dX7_appendLong_12 : decode cX7_appendLong 12 = .ok (.invokevirtual 23, 3) := by decide +kernel
theorem dX7_appendLong_15 : decode cX7_appendLong 15 = .ok (.return_, 1) := by decide +kernel
