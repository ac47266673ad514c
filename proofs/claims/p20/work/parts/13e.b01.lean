theorem dX9_certify_187 : decode cX9_certify 187 = .ok (.iload 6, 2) := by decide +kernel
theorem dX9_certify_189 : decode cX9_certify 189 = .ok (.iload_n 3, 1) := by decide +kernel
theorem dX9_certify_190 : decode cX9_certify 190 = .ok (.aload_n 0, 1) := by decide +kernel
theorem dX9_certify_191 : decode cX9_certify 191 = .ok (.getfield 27, 3) := by decide +kernel
theorem dX9_certify_194 : decode cX9_certify 194 = .ok (.iload 4, 2) := by decide +kernel
theorem dX9_certify_196 : decode cX9_certify 196 = .ok (.laload, 1) := by decide +kernel
theorem dX9_certify_197 : decode cX9_certify 197 = .ok (.invokevirtual 307, 3) := by decide +kernel
theorem dX9_certify_200 : decode cX9_certify 200 = .ok (.aload_n 0, 1) := by decide +kernel
theorem dX9_certify_201 : decode cX9_certify 201 = .ok (.aload_n 0, 1) := by decide +kernel
theorem dX9_certify_202 : decode cX9_certify 202 = .ok (.aload_n 0, 1) := by decide +kernel
theorem dX9_certify_203 : decode cX9_certify 203 = .ok (.getfield 76, 3) := by decide +kernel
theorem dX9_certify_206 : decode cX9_certify 206 = .ok (.aload_n 0, 1) := by decide +kernel
theorem dX9_certify_207 : decode cX9_certify 207 = .ok (.getfield 167, 3) := by decide +kernel
theorem dX9_certify_210 : decode cX9_certify 210 = .ok (.invokevirtual 146, 3) := by decide +kernel
theorem dX9_certify_213 : decode cX9_certify 213 = .ok (.bipush 32, 2) := by decide +kernel
theorem dX9_certify_215 : decode cX9_certify 215 = .ok (.invokevirtual 281, 3) := by decide +kernel
theorem dX9_certify_218 : decode cX9_certify 218 = .ok (.aload_n 0, 1) := by decide +kernel
theorem dX9_certify_219 : decode cX9_certify 219 = .ok (.dup, 1) := by decide +kernel
theorem dX9_certify_220 : decode cX9_certify 220 = .ok (.getfield 157, 3) := by decide +kernel
theorem dX9_certify_223 : decode cX9_certify 223 = .ok (.iconst 1, 1) := by decide +kernel
theorem dX9_certify_224 : decode cX9_certify 224 = .ok (.iadd, 1) := by decide +kernel
theorem dX9_certify_225 : decode cX9_certify 225 = .ok (.putfield 157, 3) := by decide +kernel
theorem dX9_certify_228 : decode cX9_certify 228 = .ok (.aload_n 0, 1) := by decide +kernel
theorem dX9_certify_229 : decode cX9_certify 229 = .ok (.getfield 108, 3) := by decide +kernel
theorem dX9_certify_232 : decode cX9_certify 232 = .ok (.ifCond .eq 8, 3) := by decide +kernel
theorem dX9_certify_235 : decode cX9_certify 235 = .ok (.bipush (-4), 2) := by decide +kernel
theorem dX9_certify_237 : decode cX9_certify 237 = .ok (.goto 5, 3) := by decide +kernel
theorem dX9_certify_240 : decode cX9_certify 240 = .ok (.iload 6, 2) := by decide +kernel
theorem dX9_certify_242 : decode cX9_certify 242 = .ok (.ireturn, 1) := by decide +kernel
theorem dX9_version_0 : decode cX9_version 0 = .ok (.aload_n 0, 1) := by decide +kernel
theorem dX9_version_1 : decode cX9_version 1 = .ok (.aload_n 0, 1) := by decide +kernel
theorem dX9_version_2 : decode cX9_version 2 = .ok (.getfield 72, 3) := by decide +kernel
theorem dX9_version_5 : decode cX9_version 5 = .ok (.ifCond .ne 7, 3) := by decide +kernel
theorem dX9_version_8 : decode cX9_version 8 = .ok (.iconst 1, 1) := by decide +kernel
theorem dX9_version_9 : decode cX9_version 9 = .ok (.goto 17, 3) := by decide +kernel
theorem dX9_version_12 : decode cX9_version 12 = .ok (.iload_n 1, 1) := by decide +kernel
theorem dX9_version_13 : decode cX9_version 13 = .ok (.iconst 0, 1) := by decide +kernel
theorem dX9_version_14 : decode cX9_version 14 = .ok (.iconst 1, 1) := by decide +kernel
theorem dX9_version_15 : decode cX9_version 15 = .ok (.invokestatic 138, 3) := by decide +kernel
theorem dX9_version_18 : decode cX9_version 18 = .ok (.ifCond .ne 7, 3) := by decide +kernel
theorem dX9_version_21 : decode cX9_version 21 = .ok (.iconst 2, 1) := by decide +kernel
theorem dX9_version_22 : decode cX9_version 22 = .ok (.goto 4, 3) := by decide +kernel
theorem dX9_version_25 : decode cX9_version 25 = .ok (.iconst 0, 1) := by decide +kernel
theorem dX9_version_26 : decode cX9_version 26 = .ok (.putfield 91, 3) := by decide +kernel
theorem dX9_version_29 : decode cX9_version 29 = .ok (.aload_n 0, 1) := by decide +kernel
theorem dX9_version_30 : decode cX9_version 30 = .ok (.getfield 91, 3) := by decide +kernel
theorem dX9_version_33 : decode cX9_version 33 = .ok (.ifCond .le 5, 3) := by decide +kernel
theorem dX9_version_36 : decode cX9_version 36 = .ok (.iconst 0, 1) := by decide +kernel
theorem dX9_version_37 : decode cX9_version 37 = .ok (.ireturn, 1) := by decide +kernel
theorem dX9_version_38 : decode cX9_version 38 = .ok (.aload_n 0, 1) := by decide +kernel
theorem dX9_version_39 : decode cX9_version 39 = .ok (.invokevirtual 300, 3) := by decide +kernel
theorem dX9_version_42 : decode cX9_version 42 = .ok (.aload_n 0, 1) := by decide +kernel
theorem dX9_version_43 : decode cX9_version 43 = .ok (.getfield 176, 3) := by decide +kernel
theorem dX9_version_46 : decode cX9_version 46 = .ok (.ifCond .eq 7, 3) := by decide +kernel
theorem dX9_version_49 : decode cX9_version 49 = .ok (.iconst 0, 1) := by decide +kernel
theorem dX9_version_50 : decode cX9_version 50 = .ok (.goto 18, 3) := by decide +kernel
theorem dX9_version_53 : decode cX9_version 53 = .ok (.iload_n 1, 1) := by decide +kernel
theorem dX9_version_54 : decode cX9_version 54 = .ok (.ifCond .ne 10, 3) := by decide +kernel
theorem dX9_version_57 : decode cX9_version 57 = .ok (.aload_n 0, 1) := by decide +kernel
theorem dX9_version_58 : decode cX9_version 58 = .ok (.getfield 192, 3) := by decide +kernel
theorem dX9_version_61 : decode cX9_version 61 = .ok (.goto 7, 3) := by decide +kernel
theorem dX9_version_64 : decode cX9_version 64 = .ok (.aload_n 0, 1) := by decide +kernel
theorem dX9_version_65 : decode cX9_version 65 = .ok (.getfield 182, 3) := by decide +kernel
theorem dX9_version_68 : decode cX9_version 68 = .ok (.ireturn, 1) := by decide +kernel
theorem dX9_slot_0 : decode cX9_slot 0 = .ok (.aload_n 0, 1) := by decide +kernel
theorem dX9_slot_1 : decode cX9_slot 1 = .ok (.aload_n 0, 1) := by decide +kernel
theorem dX9_slot_2 : decode cX9_slot 2 = .ok (.getfield 72, 3) := by decide +kernel
theorem dX9_slot_5 : decode cX9_slot 5 = .ok (.ifCond .eq 7, 3) := by decide +kernel
theorem dX9_slot_8 : decode cX9_slot 8 = .ok (.iconst 0, 1) := by decide +kernel
theorem dX9_slot_9 : decode cX9_slot 9 = .ok (.goto 4, 3) := by decide +kernel
theorem dX9_slot_12 : decode cX9_slot 12 = .ok (.iconst 1, 1) := by decide +kernel
theorem dX9_slot_13 : decode cX9_slot 13 = .ok (.putfield 91, 3) := by decide +kernel
theorem dX9_slot_16 : decode cX9_slot 16 = .ok (.aload_n 0, 1) := by decide +kernel
theorem dX9_slot_17 : decode cX9_slot 17 = .ok (.getfield 91, 3) := by decide +kernel
theorem dX9_slot_20 : decode cX9_slot 20 = .ok (.ifCond .le 5, 3) := by decide +kernel
theorem dX9_slot_23 : decode cX9_slot 23 = .ok (.lconst 0, 1) := by decide +kernel
theorem dX9_slot_24 : decode cX9_slot 24 = .ok (.lreturn, 1) := by decide +kernel
theorem dX9_slot_25 : decode cX9_slot 25 = .ok (.aload_n 0, 1) := by decide +kernel
theorem dX9_slot_26 : decode cX9_slot 26 = .ok (.invokevirtual 300, 3) := by decide +kernel
theorem dX9_slot_29 : decode cX9_slot 29 = .ok (.aload_n 0, 1) := by decide +kernel
theorem dX9_slot_30 : decode cX9_slot 30 = .ok (.iload_n 2, 1) := by decide +kernel
theorem dX9_slot_31 : decode cX9_slot 31 = .ok (.iconst 0, 1) := by decide +kernel
theorem dX9_slot_32 : decode cX9_slot 32 = .ok (.bipush 15, 2) := by decide +kernel
theorem dX9_slot_34 : decode cX9_slot 34 = .ok (.invokestatic 138, 3) := by decide +kernel
theorem dX9_slot_37 : decode cX9_slot 37 = .ok (.ifCond .eq 11, 3) := by decide +kernel
theorem dX9_slot_40 : decode cX9_slot 40 = .ok (.aload_n 0, 1) := by decide +kernel
theorem dX9_slot_41 : decode cX9_slot 41 = .ok (.iload_n 1, 1) := by decide +kernel
theorem dX9_slot_42 : decode cX9_slot 42 = .ok (.invokevirtual 314, 3) := by decide +kernel
theorem dX9_slot_45 : decode cX9_slot 45 = .ok (.ifCond .ne 7, 3) := by decide +kernel
theorem dX9_slot_48 : decode cX9_slot 48 = .ok (.iconst 2, 1) := by decide +kernel
theorem dX9_slot_49 : decode cX9_slot 49 = .ok (.goto 4, 3) := by decide +kernel
theorem dX9_slot_52 : decode cX9_slot 52 = .ok (.iconst 0, 1) := by decide +kernel
theorem dX9_slot_53 : decode cX9_slot 53 = .ok (.putfield 91, 3) := by decide +kernel
theorem dX9_slot_56 : decode cX9_slot 56 = .ok (.aload_n 0, 1) := by decide +kernel
theorem dX9_slot_57 : decode cX9_slot 57 = .ok (.getfield 91, 3) := by decide +kernel
theorem dX9_slot_60 : decode cX9_slot 60 = .ok (.ifCond .le 5, 3) := by decide +kernel
theorem dX9_slot_63 : decode cX9_slot 63 = .ok (.lconst 0, 1) := by decide +kernel
theorem dX9_slot_64 : decode cX9_slot 64 = .ok (.lreturn, 1) := by decide +kernel
theorem dX9_slot_65 : decode cX9_slot 65 = .ok (.aload_n 0, 1) := by decide +kernel
theorem dX9_slot_66 : decode cX9_slot 66 = .ok (.iload_n 1, 1) := by decide +kernel
theorem dX9_slot_67 : decode cX9_slot 67 = .ok (.invokevirtual 244, 3) := by decide +kernel
theorem dX9_slot_70 : decode cX9_slot 70 = .ok (.aload_n 0, 1) := by decide +kernel
theorem dX9_slot_71 : decode cX9_slot 71 = .ok (.getfield 40, 3) := by decide +kernel
theorem dX9_slot_74 : decode cX9_slot 74 = .ok (.iload_n 2, 1) := by decide +kernel
theorem dX9_slot_75 : decode cX9_slot 75 = .ok (.laload, 1) := by decide +kernel
theorem dX9_slot_76 : decode cX9_slot 76 = .ok (.lreturn, 1) := by decide +kernel
theorem dX9_named_0 : decode cX9_named 0 = .ok (.aload_n 0, 1) := by decide +kernel
theorem dX9_named_1 : decode cX9_named 1 = .ok (.iload_n 1, 1) := by decide +kernel
theorem dX9_named_2 : decode cX9_named 2 = .ok (.iconst 0, 1) := by decide +kernel
theorem dX9_named_3 : decode cX9_named 3 = .ok (.aload_n 0, 1) := by decide +kernel
theorem dX9_named_4 : decode cX9_named 4 = .ok (.getfield 62, 3) := by decide +kernel
theorem dX9_named_7 : decode cX9_named 7 = .ok (.iconst 1, 1) := by decide +kernel
theorem dX9_named_8 : decode cX9_named 8 = .ok (.isub, 1) := by decide +kernel
theorem dX9_named_9 : decode cX9_named 9 = .ok (.invokestatic 138, 3) := by decide +kernel
theorem dX9_named_12 : decode cX9_named 12 = .ok (.ifCond .ne 7, 3) := by decide +kernel
theorem dX9_named_15 : decode cX9_named 15 = .ok (.iconst 1, 1) := by decide +kernel
theorem dX9_named_16 : decode cX9_named 16 = .ok (.goto 15, 3) := by decide +kernel
theorem dX9_named_19 : decode cX9_named 19 = .ok (.aload_n 0, 1) := by decide +kernel
theorem dX9_named_20 : decode cX9_named 20 = .ok (.getfield 72, 3) := by decide +kernel
theorem dX9_named_23 : decode cX9_named 23 = .ok (.ifCond .ne 7, 3) := by decide +kernel
theorem dX9_named_26 : decode cX9_named 26 = .ok (.iconst 2, 1) := by decide +kernel
theorem dX9_named_27 : decode cX9_named 27 = .ok (.goto 4, 3) := by decide +kernel
theorem dX9_named_30 : decode cX9_named 30 = .ok (.iconst 0, 1) := by decide +kernel
theorem dX9_named_31 : decode cX9_named 31 = .ok (.putfield 91, 3) := by decide +kernel
theorem dX9_named_34 : decode cX9_named 34 = .ok (.aload_n 0, 1) := by decide +kernel
theorem dX9_named_35 : decode cX9_named 35 = .ok (.getfield 91, 3) := by decide +kernel
theorem dX9_named_38 : decode cX9_named 38 = .ok (.ifCond .gt 12, 3) := by decide +kernel
theorem dX9_named_41 : decode cX9_named 41 = .ok (.aload_n 0, 1) := by decide +kernel
theorem dX9_named_42 : decode cX9_named 42 = .ok (.iload_n 1, 1) := by decide +kernel
theorem dX9_named_43 : decode cX9_named 43 = .ok (.invokevirtual 238, 3) := by decide +kernel
theorem dX9_named_46 : decode cX9_named 46 = .ok (.iconst 1, 1) := by decide +kernel
theorem dX9_named_47 : decode cX9_named 47 = .ok (.if_icmp .eq 5, 3) := by decide +kernel
theorem dX9_named_50 : decode cX9_named 50 = .ok (.iconst 0, 1) := by decide +kernel
theorem dX9_named_51 : decode cX9_named 51 = .ok (.ireturn, 1) := by decide +kernel
theorem dX9_named_52 : decode cX9_named 52 = .ok (.aload_n 0, 1) := by decide +kernel
theorem dX9_named_53 : decode cX9_named 53 = .ok (.invokevirtual 300, 3) := by decide +kernel
theorem dX9_named_56 : decode cX9_named 56 = .ok (.aload_n 0, 1) := by decide +kernel
theorem dX9_named_57 : decode cX9_named 57 = .ok (.getfield 176, 3) := by decide +kernel
theorem dX9_named_60 : decode cX9_named 60 = .ok (.ifCond .eq 5, 3) := by decide +kernel
theorem dX9_named_63 : decode cX9_named 63 = .ok (.iconst 0, 1) := by decide +kernel
theorem dX9_named_64 : decode cX9_named 64 = .ok (.ireturn, 1) := by decide +kernel
theorem dX9_named_65 : decode cX9_named 65 = .ok (.aload_n 0, 1) := by decide +kernel
theorem dX9_named_66 : decode cX9_named 66 = .ok (.invokevirtual 321, 3) := by decide +kernel
theorem dX9_named_69 : decode cX9_named 69 = .ok (.aload_n 0, 1) := by decide +kernel
theorem dX9_named_70 : decode cX9_named 70 = .ok (.aload_n 0, 1) := by decide +kernel
theorem dX9_named_71 : decode cX9_named 71 = .ok (.iload_n 1, 1) := by decide +kernel
theorem dX9_named_72 : decode cX9_named 72 = .ok (.invokevirtual 287, 3) := by decide +kernel
theorem dX9_named_75 : decode cX9_named 75 = .ok (.invokevirtual 324, 3) := by decide +kernel
theorem dX9_named_78 : decode cX9_named 78 = .ok (.ireturn, 1) := by decide +kernel
theorem dX9_prune_0 : decode cX9_prune 0 = .ok (.aload_n 0, 1) := by decide +kernel
theorem dX9_prune_1 : decode cX9_prune 1 = .ok (.aload_n 0, 1) := by decide +kernel
theorem dX9_prune_2 : decode cX9_prune 2 = .ok (.getfield 72, 3) := by decide +kernel
theorem dX9_prune_5 : decode cX9_prune 5 = .ok (.ifCond .eq 7, 3) := by decide +kernel
theorem dX9_prune_8 : decode cX9_prune 8 = .ok (.iconst 0, 1) := by decide +kernel
theorem dX9_prune_9 : decode cX9_prune 9 = .ok (.goto 4, 3) := by decide +kernel
theorem dX9_prune_12 : decode cX9_prune 12 = .ok (.iconst 1, 1) := by decide +kernel
theorem dX9_prune_13 : decode cX9_prune 13 = .ok (.putfield 91, 3) := by decide +kernel
theorem dX9_prune_16 : decode cX9_prune 16 = .ok (.aload_n 0, 1) := by decide +kernel
theorem dX9_prune_17 : decode cX9_prune 17 = .ok (.getfield 91, 3) := by decide +kernel
theorem dX9_prune_20 : decode cX9_prune 20 = .ok (.ifCond .le 5, 3) := by decide +kernel
theorem dX9_prune_23 : decode cX9_prune 23 = .ok (.iconst 0, 1) := by decide +kernel
theorem dX9_prune_24 : decode cX9_prune 24 = .ok (.ireturn, 1) := by decide +kernel
theorem dX9_prune_25 : decode cX9_prune 25 = .ok (.aload_n 0, 1) := by decide +kernel
theorem dX9_prune_26 : decode cX9_prune 26 = .ok (.invokevirtual 300, 3) := by decide +kernel
theorem dX9_prune_29 : decode cX9_prune 29 = .ok (.aload_n 0, 1) := by decide +kernel
theorem dX9_prune_30 : decode cX9_prune 30 = .ok (.getfield 176, 3) := by decide +kernel
theorem dX9_prune_33 : decode cX9_prune 33 = .ok (.ifCond .eq 6, 3) := by decide +kernel
theorem dX9_prune_36 : decode cX9_prune 36 = .ok (.bipush (-3), 2) := by decide +kernel
theorem dX9_prune_38 : decode cX9_prune 38 = .ok (.ireturn, 1) := by decide +kernel
theorem dX9_prune_39 : decode cX9_prune 39 = .ok (.aload_n 0, 1) := by decide +kernel
theorem dX9_prune_40 : decode cX9_prune 40 = .ok (.iload_n 1, 1) := by decide +kernel
theorem dX9_prune_41 : decode cX9_prune 41 = .ok (.aload_n 0, 1) := by decide +kernel
theorem dX9_prune_42 : decode cX9_prune 42 = .ok (.getfield 182, 3) := by decide +kernel
theorem dX9_prune_45 : decode cX9_prune 45 = .ok (.if_icmp .le 11, 3) := by decide +kernel
theorem dX9_prune_48 : decode cX9_prune 48 = .ok (.iload_n 1, 1) := by decide +kernel
theorem dX9_prune_49 : decode cX9_prune 49 = .ok (.aload_n 0, 1) := by decide +kernel
theorem dX9_prune_50 : decode cX9_prune 50 = .ok (.getfield 192, 3) := by decide +kernel
theorem dX9_prune_53 : decode cX9_prune 53 = .ok (.if_icmp .le 7, 3) := by decide +kernel
theorem dX9_prune_56 : decode cX9_prune 56 = .ok (.iconst 2, 1) := by decide +kernel
theorem dX9_prune_57 : decode cX9_prune 57 = .ok (.goto 4, 3) := by decide +kernel
theorem dX9_prune_60 : decode cX9_prune 60 = .ok (.iconst 0, 1) := by decide +kernel
theorem dX9_prune_61 : decode cX9_prune 61 = .ok (.putfield 91, 3) := by decide +kernel
theorem dX9_prune_64 : decode cX9_prune 64 = .ok (.aload_n 0, 1) := by decide +kernel
theorem dX9_prune_65 : decode cX9_prune 65 = .ok (.getfield 91, 3) := by decide +kernel
theorem dX9_prune_68 : decode cX9_prune 68 = .ok (.ifCond .le 5, 3) := by decide +kernel
theorem dX9_prune_71 : decode cX9_prune 71 = .ok (.iconst 0, 1) := by decide +kernel
theorem dX9_prune_72 : decode cX9_prune 72 = .ok (.ireturn, 1) := by decide +kernel
theorem dX9_prune_73 : decode cX9_prune 73 = .ok (.aload_n 0, 1) := by decide +kernel
theorem dX9_prune_74 : decode cX9_prune 74 = .ok (.iload_n 1, 1) := by decide +kernel
theorem dX9_prune_75 : decode cX9_prune 75 = .ok (.invokevirtual 244, 3) := by decide +kernel
theorem dX9_prune_78 : decode cX9_prune 78 = .ok (.aload_n 0, 1) := by decide +kernel
theorem dX9_prune_79 : decode cX9_prune 79 = .ok (.iload_n 1, 1) := by decide +kernel
theorem dX9_prune_80 : decode cX9_prune 80 = .ok (.invokevirtual 334, 3) := by decide +kernel
theorem dX9_prune_83 : decode cX9_prune 83 = .ok (.lstore_n 2, 1) := by decide +kernel
theorem dX9_prune_84 : decode cX9_prune 84 = .ok (.aload_n 0, 1) := by decide +kernel
theorem dX9_prune_85 : decode cX9_prune 85 = .ok (.iload_n 1, 1) := by decide +kernel
theorem dX9_prune_86 : decode cX9_prune 86 = .ok (.lload_n 2, 1) := by decide +kernel
theorem dX9_prune_87 : decode cX9_prune 87 = .ok (.invokevirtual 337, 3) := by decide +kernel
theorem dX9_prune_90 : decode cX9_prune 90 = .ok (.aload_n 0, 1) := by decide +kernel
theorem dX9_prune_91 : decode cX9_prune 91 = .ok (.invokevirtual 341, 3) := by decide +kernel
theorem dX9_prune_94 : decode cX9_prune 94 = .ok (.istore 4, 2) := by decide +kernel
theorem dX9_prune_96 : decode cX9_prune 96 = .ok (.iconst 1, 1) := by decide +kernel
theorem dX9_prune_97 : decode cX9_prune 97 = .ok (.iload 4, 2) := by decide +kernel
theorem dX9_prune_99 : decode cX9_prune 99 = .ok (.iadd, 1) := by decide +kernel
theorem dX9_prune_100 : decode cX9_prune 100 = .ok (.aload_n 0, 1) := by decide +kernel
theorem dX9_prune_101 : decode cX9_prune 101 = .ok (.getfield 328, 3) := by decide +kernel
theorem dX9_prune_104 : decode cX9_prune 104 = .ok (.iadd, 1) := by decide +kernel
theorem dX9_prune_105 : decode cX9_prune 105 = .ok (.sipush 128, 3) := by decide +kernel
theorem dX9_prune_108 : decode cX9_prune 108 = .ok (.if_icmp .le 6, 3) := by decide +kernel
theorem dX9_prune_111 : decode cX9_prune 111 = .ok (.bipush (-2), 2) := by decide +kernel
theorem dX9_prune_113 : decode cX9_prune 113 = .ok (.ireturn, 1) := by decide +kernel
theorem dX9_prune_114 : decode cX9_prune 114 = .ok (.iconst 1, 1) := by decide +kernel
theorem dX9_prune_115 : decode cX9_prune 115 = .ok (.aload_n 0, 1) := by decide +kernel
theorem dX9_prune_116 : decode cX9_prune 116 = .ok (.getfield 76, 3) := by decide +kernel
theorem dX9_prune_119 : decode cX9_prune 119 = .ok (.isub, 1) := by decide +kernel
theorem dX9_prune_120 : decode cX9_prune 120 = .ok (.istore 5, 2) := by decide +kernel
theorem dX9_prune_122 : decode cX9_prune 122 = .ok (.aload_n 0, 1) := by decide +kernel
theorem dX9_prune_123 : decode cX9_prune 123 = .ok (.bipush 32, 2) := by decide +kernel
theorem dX9_prune_125 : decode cX9_prune 125 = .ok (.sipush 4096, 3) := by decide +kernel
theorem dX9_prune_128 : decode cX9_prune 128 = .ok (.iload 5, 2) := by decide +kernel
theorem dX9_prune_130 : decode cX9_prune 130 = .ok (.imul, 1) := by decide +kernel
theorem dX9_prune_131 : decode cX9_prune 131 = .ok (.iadd, 1) := by decide +kernel
theorem dX9_prune_132 : decode cX9_prune 132 = .ok (.sipush 4096, 3) := by decide +kernel
theorem dX9_prune_135 : decode cX9_prune 135 = .ok (.invokevirtual 256, 3) := by decide +kernel
theorem dX9_prune_138 : decode cX9_prune 138 = .ok (.iconst 0, 1) := by decide +kernel
theorem dX9_prune_139 : decode cX9_prune 139 = .ok (.istore 6, 2) := by decide +kernel
theorem dX9_prune_141 : decode cX9_prune 141 = .ok (.aload_n 0, 1) := by decide +kernel
theorem dX9_prune_142 : decode cX9_prune 142 = .ok (.iconst 5, 1) := by decide +kernel
theorem dX9_prune_143 : decode cX9_prune 143 = .ok (.iload_n 1, 1) := by decide +kernel
theorem dX9_prune_144 : decode cX9_prune 144 = .ok (.iload 4, 2) := by decide +kernel
theorem dX9_prune_146 : decode cX9_prune 146 = .ok (.lload_n 2, 1) := by decide +kernel
theorem dX9_prune_147 : decode cX9_prune 147 = .ok (.invokevirtual 307, 3) := by decide +kernel
theorem dX9_prune_150 : decode cX9_prune 150 = .ok (.aload_n 0, 1) := by decide +kernel
theorem dX9_prune_151 : decode cX9_prune 151 = .ok (.aload_n 0, 1) := by decide +kernel
theorem dX9_prune_152 : decode cX9_prune 152 = .ok (.iload 5, 2) := by decide +kernel
theorem dX9_prune_154 : decode cX9_prune 154 = .ok (.iload 6, 2) := by decide +kernel
theorem dX9_prune_156 : decode cX9_prune 156 = .ok (.iinc 6 1, 3) := by decide +kernel
theorem dX9_prune_159 : decode cX9_prune 159 = .ok (.invokevirtual 146, 3) := by decide +kernel
theorem dX9_prune_162 : decode cX9_prune 162 = .ok (.bipush 32, 2) := by decide +kernel
theorem dX9_prune_164 : decode cX9_prune 164 = .ok (.invokevirtual 281, 3) := by decide +kernel
theorem dX9_prune_167 : decode cX9_prune 167 = .ok (.iconst 0, 1) := by decide +kernel
theorem dX9_prune_168 : decode cX9_prune 168 = .ok (.istore 7, 2) := by decide +kernel
theorem dX9_prune_170 : decode cX9_prune 170 = .ok (.iload 7, 2) := by decide +kernel
theorem dX9_prune_172 : decode cX9_prune 172 = .ok (.bipush 16, 2) := by decide +kernel
theorem dX9_prune_174 : decode cX9_prune 174 = .ok (.if_icmp .ge 53, 3) := by decide +kernel
theorem dX9_prune_177 : decode cX9_prune 177 = .ok (.aload_n 0, 1) := by decide +kernel
theorem dX9_prune_178 : decode cX9_prune 178 = .ok (.getfield 40, 3) := by decide +kernel
theorem dX9_prune_181 : decode cX9_prune 181 = .ok (.iload 7, 2) := by decide +kernel
theorem dX9_prune_183 : decode cX9_prune 183 = .ok (.laload, 1) := by decide +kernel
theorem dX9_prune_184 : decode cX9_prune 184 = .ok (.lconst 0, 1) := by decide +kernel
theorem dX9_prune_185 : decode cX9_prune 185 = .ok (.lcmp, 1) := by decide +kernel
theorem dX9_prune_186 : decode cX9_prune 186 = .ok (.ifCond .eq 35, 3) := by decide +kernel
theorem dX9_prune_189 : decode cX9_prune 189 = .ok (.aload_n 0, 1) := by decide +kernel
theorem dX9_prune_190 : decode cX9_prune 190 = .ok (.iconst 3, 1) := by decide +kernel
theorem dX9_prune_191 : decode cX9_prune 191 = .ok (.iload 7, 2) := by decide +kernel
theorem dX9_prune_193 : decode cX9_prune 193 = .ok (.iconst 0, 1) := by decide +kernel
theorem dX9_prune_194 : decode cX9_prune 194 = .ok (.aload_n 0, 1) := by decide +kernel
theorem dX9_prune_195 : decode cX9_prune 195 = .ok (.getfield 40, 3) := by decide +kernel
theorem dX9_prune_198 : decode cX9_prune 198 = .ok (.iload 7, 2) := by decide +kernel
theorem dX9_prune_200 : decode cX9_prune 200 = .ok (.laload, 1) := by decide +kernel
theorem dX9_prune_201 : decode cX9_prune 201 = .ok (.invokevirtual 307, 3) := by decide +kernel
theorem dX9_prune_204 : decode cX9_prune 204 = .ok (.aload_n 0, 1) := by decide +kernel
theorem dX9_prune_205 : decode cX9_prune 205 = .ok (.aload_n 0, 1) := by decide +kernel
theorem dX9_prune_206 : decode cX9_prune 206 = .ok (.iload 5, 2) := by decide +kernel
theorem dX9_prune_208 : decode cX9_prune 208 = .ok (.iload 6, 2) := by decide +kernel
theorem dX9_prune_210 : decode cX9_prune 210 = .ok (.iinc 6 1, 3) := by decide +kernel
theorem dX9_prune_213 : decode cX9_prune 213 = .ok (.invokevirtual 146, 3) := by decide +kernel
theorem dX9_prune_216 : decode cX9_prune 216 = .ok (.bipush 32, 2) := by decide +kernel
theorem dX9_prune_218 : decode cX9_prune 218 = .ok (.invokevirtual 281, 3) := by decide +kernel
theorem dX9_prune_221 : decode cX9_prune 221 = .ok (.iinc 7 1, 3) := by decide +kernel
theorem dX9_prune_224 : decode cX9_prune 224 = .ok (.goto (-54), 3) := by decide +kernel
theorem dX9_prune_227 : decode cX9_prune 227 = .ok (.iconst 0, 1) := by decide +kernel
theorem dX9_prune_228 : decode cX9_prune 228 = .ok (.istore 7, 2) := by decide +kernel
theorem dX9_prune_230 : decode cX9_prune 230 = .ok (.iload 7, 2) := by decide +kernel
theorem dX9_prune_232 : decode cX9_prune 232 = .ok (.aload_n 0, 1) := by decide +kernel
theorem dX9_prune_233 : decode cX9_prune 233 = .ok (.getfield 328, 3) := by decide +kernel
theorem dX9_prune_236 : decode cX9_prune 236 = .ok (.if_icmp .ge 85, 3) := by decide +kernel
theorem dX9_prune_239 : decode cX9_prune 239 = .ok (.aload_n 0, 1) := by decide +kernel
theorem dX9_prune_240 : decode cX9_prune 240 = .ok (.aload_n 0, 1) := by decide +kernel
theorem dX9_prune_241 : decode cX9_prune 241 = .ok (.getfield 76, 3) := by decide +kernel
theorem dX9_prune_244 : decode cX9_prune 244 = .ok (.aload_n 0, 1) := by decide +kernel
theorem dX9_prune_245 : decode cX9_prune 245 = .ok (.getfield 46, 3) := by decide +kernel
theorem dX9_prune_248 : decode cX9_prune 248 = .ok (.iload 7, 2) := by decide +kernel
theorem dX9_prune_250 : decode cX9_prune 250 = .ok (.iaload, 1) := by decide +kernel
theorem dX9_prune_251 : decode cX9_prune 251 = .ok (.invokevirtual 146, 3) := by decide +kernel
theorem dX9_prune_254 : decode cX9_prune 254 = .ok (.istore 8, 2) := by decide +kernel
theorem dX9_prune_256 : decode cX9_prune 256 = .ok (.iconst 0, 1) := by decide +kernel
theorem dX9_prune_257 : decode cX9_prune 257 = .ok (.istore 9, 2) := by decide +kernel
theorem dX9_prune_259 : decode cX9_prune 259 = .ok (.iload 9, 2) := by decide +kernel
theorem dX9_prune_261 : decode cX9_prune 261 = .ok (.bipush 31, 2) := by decide +kernel
theorem dX9_prune_263 : decode cX9_prune 263 = .ok (.if_icmp .ge 25, 3) := by decide +kernel
theorem dX9_prune_266 : decode cX9_prune 266 = .ok (.aload_n 0, 1) := by decide +kernel
theorem dX9_prune_267 : decode cX9_prune 267 = .ok (.getfield 24, 3) := by decide +kernel
theorem dX9_prune_270 : decode cX9_prune 270 = .ok (.iload 9, 2) := by decide +kernel
theorem dX9_prune_272 : decode cX9_prune 272 = .ok (.aload_n 0, 1) := by decide +kernel
theorem dX9_prune_273 : decode cX9_prune 273 = .ok (.iload 8, 2) := by decide +kernel
theorem dX9_prune_275 : decode cX9_prune 275 = .ok (.iload 9, 2) := by decide +kernel
theorem dX9_prune_277 : decode cX9_prune 277 = .ok (.iadd, 1) := by decide +kernel
theorem dX9_prune_278 : decode cX9_prune 278 = .ok (.invokevirtual 96, 3) := by decide +kernel
theorem dX9_prune_281 : decode cX9_prune 281 = .ok (.iastore, 1) := by decide +kernel
theorem dX9_prune_282 : decode cX9_prune 282 = .ok (.iinc 9 1, 3) := by decide +kernel
theorem dX9_prune_285 : decode cX9_prune 285 = .ok (.goto (-26), 3) := by decide +kernel
theorem dX9_prune_288 : decode cX9_prune 288 = .ok (.aload_n 0, 1) := by decide +kernel
theorem dX9_prune_289 : decode cX9_prune 289 = .ok (.getfield 24, 3) := by decide +kernel
theorem dX9_prune_292 : decode cX9_prune 292 = .ok (.bipush 31, 2) := by decide +kernel
theorem dX9_prune_294 : decode cX9_prune 294 = .ok (.sipush 165, 3) := by decide +kernel
theorem dX9_prune_297 : decode cX9_prune 297 = .ok (.iastore, 1) := by decide +kernel
theorem dX9_prune_298 : decode cX9_prune 298 = .ok (.aload_n 0, 1) := by decide +kernel
theorem dX9_prune_299 : decode cX9_prune 299 = .ok (.aload_n 0, 1) := by decide +kernel
theorem dX9_prune_300 : decode cX9_prune 300 = .ok (.iload 5, 2) := by decide +kernel
theorem dX9_prune_302 : decode cX9_prune 302 = .ok (.iload 6, 2) := by decide +kernel
theorem dX9_prune_304 : decode cX9_prune 304 = .ok (.iinc 6 1, 3) := by decide +kernel
theorem dX9_prune_307 : decode cX9_prune 307 = .ok (.invokevirtual 146, 3) := by decide +kernel
theorem dX9_prune_310 : decode cX9_prune 310 = .ok (.bipush 32, 2) := by decide +kernel
theorem dX9_prune_312 : decode cX9_prune 312 = .ok (.invokevirtual 281, 3) := by decide +kernel
theorem dX9_prune_315 : decode cX9_prune 315 = .ok (.iinc 7 1, 3) := by decide +kernel
theorem dX9_prune_318 : decode cX9_prune 318 = .ok (.goto (-88), 3) := by decide +kernel
theorem dX9_prune_321 : decode cX9_prune 321 = .ok (.aload_n 0, 1) := by decide +kernel
theorem dX9_prune_322 : decode cX9_prune 322 = .ok (.iload 5, 2) := by decide +kernel
theorem dX9_prune_324 : decode cX9_prune 324 = .ok (.invokevirtual 344, 3) := by decide +kernel
theorem dX9_prune_327 : decode cX9_prune 327 = .ok (.aload_n 0, 1) := by decide +kernel
theorem dX9_prune_328 : decode cX9_prune 328 = .ok (.getfield 108, 3) := by decide +kernel
theorem dX9_prune_331 : decode cX9_prune 331 = .ok (.ifCond .ne 15, 3) := by decide +kernel
theorem dX9_prune_334 : decode cX9_prune 334 = .ok (.aload_n 0, 1) := by decide +kernel
theorem dX9_prune_335 : decode cX9_prune 335 = .ok (.iload 5, 2) := by decide +kernel
theorem dX9_prune_337 : decode cX9_prune 337 = .ok (.putfield 76, 3) := by decide +kernel
theorem dX9_prune_340 : decode cX9_prune 340 = .ok (.aload_n 0, 1) := by decide +kernel
theorem dX9_prune_341 : decode cX9_prune 341 = .ok (.iload 6, 2) := by decide +kernel
theorem dX9_prune_343 : decode cX9_prune 343 = .ok (.putfield 157, 3) := by decide +kernel
theorem dX9_prune_346 : decode cX9_prune 346 = .ok (.aload_n 0, 1) := by decide +kernel
theorem dX9_prune_347 : decode cX9_prune 347 = .ok (.bipush 16, 2) := by decide +kernel
theorem dX9_prune_349 : decode cX9_prune 349 = .ok (.iconst 1, 1) := by decide +kernel
theorem dX9_prune_350 : decode cX9_prune 350 = .ok (.iload 5, 2) := by decide +kernel
theorem dX9_prune_352 : decode cX9_prune 352 = .ok (.isub, 1) := by decide +kernel
theorem dX9_prune_353 : decode cX9_prune 353 = .ok (.imul, 1) := by decide +kernel
theorem dX9_prune_354 : decode cX9_prune 354 = .ok (.bipush 16, 2) := by decide +kernel
theorem dX9_prune_356 : decode cX9_prune 356 = .ok (.invokevirtual 256, 3) := by decide +kernel
theorem dX9_prune_359 : decode cX9_prune 359 = .ok (.aload_n 0, 1) := by decide +kernel
theorem dX9_prune_360 : decode cX9_prune 360 = .ok (.getfield 108, 3) := by decide +kernel
theorem dX9_prune_363 : decode cX9_prune 363 = .ok (.ifCond .eq 8, 3) := by decide +kernel
theorem dX9_prune_366 : decode cX9_prune 366 = .ok (.bipush (-4), 2) := by decide +kernel
theorem dX9_prune_368 : decode cX9_prune 368 = .ok (.goto 7, 3) := by decide +kernel
theorem dX9_prune_371 : decode cX9_prune 371 = .ok (.aload_n 0, 1) := by decide +kernel
theorem dX9_prune_372 : decode cX9_prune 372 = .ok (.invokevirtual 347, 3) := by decide +kernel
theorem dX9_prune_375 : decode cX9_prune 375 = .ok (.ireturn, 1) := by decide +kernel
theorem dX9_sweep_0 : decode cX9_sweep 0 = .ok (.aload_n 0, 1) := by decide +kernel
theorem dX9_sweep_1 : decode cX9_sweep 1 = .ok (.invokevirtual 300, 3) := by decide +kernel
theorem dX9_sweep_4 : decode cX9_sweep 4 = .ok (.aload_n 0, 1) := by decide +kernel
theorem dX9_sweep_5 : decode cX9_sweep 5 = .ok (.invokevirtual 321, 3) := by decide +kernel
theorem dX9_sweep_8 : decode cX9_sweep 8 = .ok (.iconst 0, 1) := by decide +kernel
theorem dX9_sweep_9 : decode cX9_sweep 9 = .ok (.istore_n 1, 1) := by decide +kernel
theorem dX9_sweep_10 : decode cX9_sweep 10 = .ok (.iconst 0, 1) := by decide +kernel
theorem dX9_sweep_11 : decode cX9_sweep 11 = .ok (.istore_n 2, 1) := by decide +kernel
theorem dX9_sweep_12 : decode cX9_sweep 12 = .ok (.iload_n 2, 1) := by decide +kernel
theorem dX9_sweep_13 : decode cX9_sweep 13 = .ok (.aload_n 0, 1) := by decide +kernel
theorem dX9_sweep_14 : decode cX9_sweep 14 = .ok (.getfield 62, 3) := by decide +kernel
theorem dX9_sweep_17 : decode cX9_sweep 17 = .ok (.if_icmp .ge 51, 3) := by decide +kernel
theorem dX9_sweep_20 : decode cX9_sweep 20 = .ok (.aload_n 0, 1) := by decide +kernel
theorem dX9_sweep_21 : decode cX9_sweep 21 = .ok (.getfield 108, 3) := by decide +kernel
theorem dX9_sweep_24 : decode cX9_sweep 24 = .ok (.ifCond .ne 44, 3) := by decide +kernel
theorem dX9_sweep_27 : decode cX9_sweep 27 = .ok (.aload_n 0, 1) := by decide +kernel
theorem dX9_sweep_28 : decode cX9_sweep 28 = .ok (.iload_n 2, 1) := by decide +kernel
theorem dX9_sweep_29 : decode cX9_sweep 29 = .ok (.invokevirtual 238, 3) := by decide +kernel
theorem dX9_sweep_32 : decode cX9_sweep 32 = .ok (.iconst 1, 1) := by decide +kernel
theorem dX9_sweep_33 : decode cX9_sweep 33 = .ok (.if_icmp .ne 29, 3) := by decide +kernel
theorem dX9_sweep_36 : decode cX9_sweep 36 = .ok (.aload_n 0, 1) := by decide +kernel
theorem dX9_sweep_37 : decode cX9_sweep 37 = .ok (.aload_n 0, 1) := by decide +kernel
theorem dX9_sweep_38 : decode cX9_sweep 38 = .ok (.iload_n 2, 1) := by decide +kernel
theorem dX9_sweep_39 : decode cX9_sweep 39 = .ok (.invokevirtual 287, 3) := by decide +kernel
theorem dX9_sweep_42 : decode cX9_sweep 42 = .ok (.invokevirtual 324, 3) := by decide +kernel
theorem dX9_sweep_45 : decode cX9_sweep 45 = .ok (.ifCond .ne 17, 3) := by decide +kernel
theorem dX9_sweep_48 : decode cX9_sweep 48 = .ok (.aload_n 0, 1) := by decide +kernel
theorem dX9_sweep_49 : decode cX9_sweep 49 = .ok (.aload_n 0, 1) := by decide +kernel
theorem dX9_sweep_50 : decode cX9_sweep 50 = .ok (.iload_n 2, 1) := by decide +kernel
theorem dX9_sweep_51 : decode cX9_sweep 51 = .ok (.invokevirtual 154, 3) := by decide +kernel
theorem dX9_sweep_54 : decode cX9_sweep 54 = .ok (.bipush 26, 2) := by decide +kernel
theorem dX9_sweep_56 : decode cX9_sweep 56 = .ok (.invokevirtual 256, 3) := by decide +kernel
theorem dX9_sweep_59 : decode cX9_sweep 59 = .ok (.iinc 1 1, 3) := by decide +kernel
theorem dX9_sweep_62 : decode cX9_sweep 62 = .ok (.iinc 2 1, 3) := by decide +kernel
theorem dX9_sweep_65 : decode cX9_sweep 65 = .ok (.goto (-53), 3) := by decide +kernel
theorem dX9_sweep_68 : decode cX9_sweep 68 = .ok (.aload_n 0, 1) := by decide +kernel
theorem dX9_sweep_69 : decode cX9_sweep 69 = .ok (.getfield 108, 3) := by decide +kernel
theorem dX9_sweep_72 : decode cX9_sweep 72 = .ok (.ifCond .eq 8, 3) := by decide +kernel
theorem dX9_sweep_75 : decode cX9_sweep 75 = .ok (.bipush (-4), 2) := by decide +kernel
theorem dX9_sweep_77 : decode cX9_sweep 77 = .ok (.goto 4, 3) := by decide +kernel
theorem dX9_sweep_80 : decode cX9_sweep 80 = .ok (.iload_n 1, 1) := by decide +kernel
theorem dX9_sweep_81 : decode cX9_sweep 81 = .ok (.ireturn, 1) := by decide +kernel
theorem dX9_out_0 : decode cX9_out 0 = .ok (.aload_n 0, 1) := by decide +kernel
theorem dX9_out_1 : decode cX9_out 1 = .ok (.aload_n 0, 1) := by decide +kernel
theorem dX9_out_2 : decode cX9_out 2 = .ok (.getfield 72, 3) := by decide +kernel
theorem dX9_out_5 : decode cX9_out 5 = .ok (.ifCond .eq 7, 3) := by decide +kernel
theorem dX9_out_8 : decode cX9_out 8 = .ok (.iconst 0, 1) := by decide +kernel
theorem dX9_out_9 : decode cX9_out 9 = .ok (.goto 4, 3) := by decide +kernel
theorem dX9_out_12 : decode cX9_out 12 = .ok (.iconst 1, 1) := by decide +kernel
theorem dX9_out_13 : decode cX9_out 13 = .ok (.putfield 91, 3) := by decide +kernel
theorem dX9_out_16 : decode cX9_out 16 = .ok (.aload_n 0, 1) := by decide +kernel
theorem dX9_out_17 : decode cX9_out 17 = .ok (.getfield 91, 3) := by decide +kernel
theorem dX9_out_20 : decode cX9_out 20 = .ok (.ifCond .le 5, 3) := by decide +kernel
theorem dX9_out_23 : decode cX9_out 23 = .ok (.iconst 0, 1) := by decide +kernel
theorem dX9_out_24 : decode cX9_out 24 = .ok (.ireturn, 1) := by decide +kernel
theorem dX9_out_25 : decode cX9_out 25 = .ok (.aload_n 0, 1) := by decide +kernel
theorem dX9_out_26 : decode cX9_out 26 = .ok (.invokevirtual 300, 3) := by decide +kernel
theorem dX9_out_29 : decode cX9_out 29 = .ok (.aload_n 0, 1) := by decide +kernel
theorem dX9_out_30 : decode cX9_out 30 = .ok (.iload_n 1, 1) := by decide +kernel
theorem dX9_out_31 : decode cX9_out 31 = .ok (.ifCond .eq 11, 3) := by decide +kernel
theorem dX9_out_34 : decode cX9_out 34 = .ok (.aload_n 0, 1) := by decide +kernel
theorem dX9_out_35 : decode cX9_out 35 = .ok (.iload_n 1, 1) := by decide +kernel
theorem dX9_out_36 : decode cX9_out 36 = .ok (.invokevirtual 314, 3) := by decide +kernel
theorem dX9_out_39 : decode cX9_out 39 = .ok (.ifCond .ne 7, 3) := by decide +kernel
theorem dX9_out_42 : decode cX9_out 42 = .ok (.iconst 2, 1) := by decide +kernel
theorem dX9_out_43 : decode cX9_out 43 = .ok (.goto 4, 3) := by decide +kernel
theorem dX9_out_46 : decode cX9_out 46 = .ok (.iconst 0, 1) := by decide +kernel
theorem dX9_out_47 : decode cX9_out 47 = .ok (.putfield 91, 3) := by decide +kernel
theorem dX9_out_50 : decode cX9_out 50 = .ok (.aload_n 0, 1) := by decide +kernel
theorem dX9_out_51 : decode cX9_out 51 = .ok (.getfield 91, 3) := by decide +kernel
theorem dX9_out_54 : decode cX9_out 54 = .ok (.ifCond .le 5, 3) := by decide +kernel
theorem dX9_out_57 : decode cX9_out 57 = .ok (.iconst 0, 1) := by decide +kernel
theorem dX9_out_58 : decode cX9_out 58 = .ok (.ireturn, 1) := by decide +kernel
theorem dX9_out_59 : decode cX9_out 59 = .ok (.aload_n 0, 1) := by decide +kernel
theorem dX9_out_60 : decode cX9_out 60 = .ok (.iload_n 1, 1) := by decide +kernel
theorem dX9_out_61 : decode cX9_out 61 = .ok (.invokevirtual 244, 3) := by decide +kernel
theorem dX9_out_64 : decode cX9_out 64 = .ok (.iconst 0, 1) := by decide +kernel
theorem dX9_out_65 : decode cX9_out 65 = .ok (.istore_n 2, 1) := by decide +kernel
theorem dX9_out_66 : decode cX9_out 66 = .ok (.iload_n 2, 1) := by decide +kernel
theorem dX9_out_67 : decode cX9_out 67 = .ok (.bipush 16, 2) := by decide +kernel
theorem dX9_out_69 : decode cX9_out 69 = .ok (.if_icmp .ge 37, 3) := by decide +kernel
theorem dX9_out_72 : decode cX9_out 72 = .ok (.aload_n 0, 1) := by decide +kernel
theorem dX9_out_73 : decode cX9_out 73 = .ok (.getfield 40, 3) := by decide +kernel
theorem dX9_out_76 : decode cX9_out 76 = .ok (.iload_n 2, 1) := by decide +kernel
theorem dX9_out_77 : decode cX9_out 77 = .ok (.laload, 1) := by decide +kernel
theorem dX9_out_78 : decode cX9_out 78 = .ok (.lconst 0, 1) := by decide +kernel
theorem dX9_out_79 : decode cX9_out 79 = .ok (.lcmp, 1) := by decide +kernel
theorem dX9_out_80 : decode cX9_out 80 = .ok (.ifCond .eq 20, 3) := by decide +kernel
theorem dX9_out_83 : decode cX9_out 83 = .ok (.aload_n 0, 1) := by decide +kernel
theorem dX9_out_84 : decode cX9_out 84 = .ok (.aload_n 0, 1) := by decide +kernel
theorem dX9_out_85 : decode cX9_out 85 = .ok (.getfield 40, 3) := by decide +kernel
theorem dX9_out_88 : decode cX9_out 88 = .ok (.iload_n 2, 1) := by decide +kernel
theorem dX9_out_89 : decode cX9_out 89 = .ok (.laload, 1) := by decide +kernel
theorem dX9_out_90 : decode cX9_out 90 = .ok (.invokevirtual 317, 3) := by decide +kernel
theorem dX9_out_93 : decode cX9_out 93 = .ok (.iconst (-1), 1) := by decide +kernel
theorem dX9_out_94 : decode cX9_out 94 = .ok (.if_icmp .ne 6, 3) := by decide +kernel
theorem dX9_out_97 : decode cX9_out 97 = .ok (.bipush (-6), 2) := by decide +kernel
theorem dX9_out_99 : decode cX9_out 99 = .ok (.ireturn, 1) := by decide +kernel
theorem dX9_out_100 : decode cX9_out 100 = .ok (.iinc 2 1, 3) := by decide +kernel
theorem dX9_out_103 : decode cX9_out 103 = .ok (.goto (-37), 3) := by decide +kernel
theorem dX9_out_106 : decode cX9_out 106 = .ok (.aload_n 0, 1) := by decide +kernel
theorem dX9_out_107 : decode cX9_out 107 = .ok (.iconst 0, 1) := by decide +kernel
theorem dX9_out_108 : decode cX9_out 108 = .ok (.putfield 271, 3) := by decide +kernel
theorem dX9_out_111 : decode cX9_out 111 = .ok (.aload_n 0, 1) := by decide +kernel
theorem dX9_out_112 : decode cX9_out 112 = .ok (.iload_n 1, 1) := by decide +kernel
theorem dX9_out_113 : decode cX9_out 113 = .ok (.i2l, 1) := by decide +kernel
theorem dX9_out_114 : decode cX9_out 114 = .ok (.iconst 4, 1) := by decide +kernel
theorem dX9_out_115 : decode cX9_out 115 = .ok (.invokevirtual 352, 3) := by decide +kernel
theorem dX9_out_118 : decode cX9_out 118 = .ok (.aload_n 0, 1) := by decide +kernel
theorem dX9_out_119 : decode cX9_out 119 = .ok (.aload_n 0, 1) := by decide +kernel
theorem dX9_out_120 : decode cX9_out 120 = .ok (.iload_n 1, 1) := by decide +kernel
theorem dX9_out_121 : decode cX9_out 121 = .ok (.invokevirtual 334, 3) := by decide +kernel
theorem dX9_out_124 : decode cX9_out 124 = .ok (.bipush 8, 2) := by decide +kernel
theorem dX9_out_126 : decode cX9_out 126 = .ok (.invokevirtual 352, 3) := by decide +kernel
theorem dX9_out_129 : decode cX9_out 129 = .ok (.aload_n 0, 1) := by decide +kernel
theorem dX9_out_130 : decode cX9_out 130 = .ok (.aload_n 0, 1) := by decide +kernel
theorem dX9_out_131 : decode cX9_out 131 = .ok (.invokevirtual 341, 3) := by decide +kernel
theorem dX9_out_134 : decode cX9_out 134 = .ok (.i2l, 1) := by decide +kernel
theorem dX9_out_135 : decode cX9_out 135 = .ok (.iconst 1, 1) := by decide +kernel
theorem dX9_out_136 : decode cX9_out 136 = .ok (.invokevirtual 352, 3) := by decide +kernel
theorem dX9_out_139 : decode cX9_out 139 = .ok (.iconst 0, 1) := by decide +kernel
theorem dX9_out_140 : decode cX9_out 140 = .ok (.istore_n 2, 1) := by decide +kernel
theorem dX9_out_141 : decode cX9_out 141 = .ok (.iload_n 2, 1) := by decide +kernel
theorem dX9_out_142 : decode cX9_out 142 = .ok (.bipush 16, 2) := by decide +kernel
theorem dX9_out_144 : decode cX9_out 144 = .ok (.if_icmp .ge 89, 3) := by decide +kernel
theorem dX9_out_147 : decode cX9_out 147 = .ok (.aload_n 0, 1) := by decide +kernel
theorem dX9_out_148 : decode cX9_out 148 = .ok (.getfield 40, 3) := by decide +kernel
theorem dX9_out_151 : decode cX9_out 151 = .ok (.iload_n 2, 1) := by decide +kernel
theorem dX9_out_152 : decode cX9_out 152 = .ok (.laload, 1) := by decide +kernel
theorem dX9_out_153 : decode cX9_out 153 = .ok (.lconst 0, 1) := by decide +kernel
theorem dX9_out_154 : decode cX9_out 154 = .ok (.lcmp, 1) := by decide +kernel
theorem dX9_out_155 : decode cX9_out 155 = .ok (.ifCond .eq 72, 3) := by decide +kernel
theorem dX9_out_158 : decode cX9_out 158 = .ok (.aload_n 0, 1) := by decide +kernel
theorem dX9_out_159 : decode cX9_out 159 = .ok (.aload_n 0, 1) := by decide +kernel
theorem dX9_out_160 : decode cX9_out 160 = .ok (.aload_n 0, 1) := by decide +kernel
theorem dX9_out_161 : decode cX9_out 161 = .ok (.getfield 40, 3) := by decide +kernel
theorem dX9_out_164 : decode cX9_out 164 = .ok (.iload_n 2, 1) := by decide +kernel
theorem dX9_out_165 : decode cX9_out 165 = .ok (.laload, 1) := by decide +kernel
theorem dX9_out_166 : decode cX9_out 166 = .ok (.invokevirtual 317, 3) := by decide +kernel
theorem dX9_out_169 : decode cX9_out 169 = .ok (.invokevirtual 154, 3) := by decide +kernel
theorem dX9_out_172 : decode cX9_out 172 = .ok (.istore_n 3, 1) := by decide +kernel
theorem dX9_out_173 : decode cX9_out 173 = .ok (.aload_n 0, 1) := by decide +kernel
theorem dX9_out_174 : decode cX9_out 174 = .ok (.iload_n 3, 1) := by decide +kernel
theorem dX9_out_175 : decode cX9_out 175 = .ok (.invokevirtual 96, 3) := by decide +kernel
theorem dX9_out_178 : decode cX9_out 178 = .ok (.istore 4, 2) := by decide +kernel
theorem dX9_out_180 : decode cX9_out 180 = .ok (.aload_n 0, 1) := by decide +kernel
theorem dX9_out_181 : decode cX9_out 181 = .ok (.iload_n 2, 1) := by decide +kernel
theorem dX9_out_182 : decode cX9_out 182 = .ok (.i2l, 1) := by decide +kernel
theorem dX9_out_183 : decode cX9_out 183 = .ok (.iconst 1, 1) := by decide +kernel
theorem dX9_out_184 : decode cX9_out 184 = .ok (.invokevirtual 352, 3) := by decide +kernel
theorem dX9_out_187 : decode cX9_out 187 = .ok (.aload_n 0, 1) := by decide +kernel
theorem dX9_out_188 : decode cX9_out 188 = .ok (.iload 4, 2) := by decide +kernel
theorem dX9_out_190 : decode cX9_out 190 = .ok (.i2l, 1) := by decide +kernel
theorem dX9_out_191 : decode cX9_out 191 = .ok (.iconst 1, 1) := by decide +kernel
theorem dX9_out_192 : decode cX9_out 192 = .ok (.invokevirtual 352, 3) := by decide +kernel
