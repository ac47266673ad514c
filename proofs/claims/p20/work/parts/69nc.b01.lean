theorem dX6_isCertified_28 : decode cX6_isCertified 28 = .ok (.iconst 0, 1) := by decide +kernel
theorem dX6_isCertified_29 : decode cX6_isCertified 29 = .ok (.ireturn, 1) := by decide +kernel
theorem dX6_drawVersion_0 : decode cX6_drawVersion 0 = .ok (.iconst 0, 1) := by decide +kernel
theorem dX6_drawVersion_1 : decode cX6_drawVersion 1 = .ok (.istore_n 2, 1) := by decide +kernel
theorem dX6_drawVersion_2 : decode cX6_drawVersion 2 = .ok (.iload_n 2, 1) := by decide +kernel
theorem dX6_drawVersion_3 : decode cX6_drawVersion 3 = .ok (.bipush 16, 2) := by decide +kernel
theorem dX6_drawVersion_5 : decode cX6_drawVersion 5 = .ok (.if_icmp .ge 16, 3) := by decide +kernel
theorem dX6_drawVersion_8 : decode cX6_drawVersion 8 = .ok (.aload_n 0, 1) := by decide +kernel
theorem dX6_drawVersion_9 : decode cX6_drawVersion 9 = .ok (.getfield 33, 3) := by decide +kernel
theorem dX6_drawVersion_12 : decode cX6_drawVersion 12 = .ok (.iload_n 2, 1) := by decide +kernel
theorem dX6_drawVersion_13 : decode cX6_drawVersion 13 = .ok (.lconst 0, 1) := by decide +kernel
theorem dX6_drawVersion_14 : decode cX6_drawVersion 14 = .ok (.lastore, 1) := by decide +kernel
theorem dX6_drawVersion_15 : decode cX6_drawVersion 15 = .ok (.iinc 2 1, 3) := by decide +kernel
theorem dX6_drawVersion_18 : decode cX6_drawVersion 18 = .ok (.goto (-16), 3) := by decide +kernel
theorem dX6_drawVersion_21 : decode cX6_drawVersion 21 = .ok (.aload_n 0, 1) := by decide +kernel
theorem dX6_drawVersion_22 : decode cX6_drawVersion 22 = .ok (.getfield 46, 3) := by decide +kernel
theorem dX6_drawVersion_25 : decode cX6_drawVersion 25 = .ok (.ifCond .eq 8, 3) := by decide +kernel
theorem dX6_drawVersion_28 : decode cX6_drawVersion 28 = .ok (.aload_n 0, 1) := by decide +kernel
theorem dX6_drawVersion_29 : decode cX6_drawVersion 29 = .ok (.iconst 0, 1) := by decide +kernel
theorem dX6_drawVersion_30 : decode cX6_drawVersion 30 = .ok (.invokevirtual 133, 3) := by decide +kernel
theorem dX6_drawVersion_33 : decode cX6_drawVersion 33 = .ok (.iconst 0, 1) := by decide +kernel
theorem dX6_drawVersion_34 : decode cX6_drawVersion 34 = .ok (.istore_n 2, 1) := by decide +kernel
theorem dX6_drawVersion_35 : decode cX6_drawVersion 35 = .ok (.iload_n 2, 1) := by decide +kernel
theorem dX6_drawVersion_36 : decode cX6_drawVersion 36 = .ok (.aload_n 0, 1) := by decide +kernel
theorem dX6_drawVersion_37 : decode cX6_drawVersion 37 = .ok (.getfield 40, 3) := by decide +kernel
theorem dX6_drawVersion_40 : decode cX6_drawVersion 40 = .ok (.if_icmp .ge 29, 3) := by decide +kernel
theorem dX6_drawVersion_43 : decode cX6_drawVersion 43 = .ok (.iload_n 2, 1) := by decide +kernel
theorem dX6_drawVersion_44 : decode cX6_drawVersion 44 = .ok (.iload_n 1, 1) := by decide +kernel
theorem dX6_drawVersion_45 : decode cX6_drawVersion 45 = .ok (.aload_n 0, 1) := by decide +kernel
theorem dX6_drawVersion_46 : decode cX6_drawVersion 46 = .ok (.getfield 50, 3) := by decide +kernel
theorem dX6_drawVersion_49 : decode cX6_drawVersion 49 = .ok (.isub, 1) := by decide +kernel
theorem dX6_drawVersion_50 : decode cX6_drawVersion 50 = .ok (.if_icmp .ge 19, 3) := by decide +kernel
theorem dX6_drawVersion_53 : decode cX6_drawVersion 53 = .ok (.aload_n 0, 1) := by decide +kernel
theorem dX6_drawVersion_54 : decode cX6_drawVersion 54 = .ok (.aload_n 0, 1) := by decide +kernel
theorem dX6_drawVersion_55 : decode cX6_drawVersion 55 = .ok (.getfield 29, 3) := by decide +kernel
theorem dX6_drawVersion_58 : decode cX6_drawVersion 58 = .ok (.iload_n 2, 1) := by decide +kernel
theorem dX6_drawVersion_59 : decode cX6_drawVersion 59 = .ok (.iaload, 1) := by decide +kernel
theorem dX6_drawVersion_60 : decode cX6_drawVersion 60 = .ok (.invokevirtual 133, 3) := by decide +kernel
theorem dX6_drawVersion_63 : decode cX6_drawVersion 63 = .ok (.iinc 2 1, 3) := by decide +kernel
theorem dX6_drawVersion_66 : decode cX6_drawVersion 66 = .ok (.goto (-31), 3) := by decide +kernel
theorem dX6_drawVersion_69 : decode cX6_drawVersion 69 = .ok (.return_, 1) := by decide +kernel
theorem dX6_drawChanges_0 : decode cX6_drawChanges 0 = .ok (.iload_n 1, 1) := by decide +kernel
theorem dX6_drawChanges_1 : decode cX6_drawChanges 1 = .ok (.aload_n 0, 1) := by decide +kernel
theorem dX6_drawChanges_2 : decode cX6_drawChanges 2 = .ok (.getfield 9, 3) := by decide +kernel
theorem dX6_drawChanges_5 : decode cX6_drawChanges 5 = .ok (.iload_n 1, 1) := by decide +kernel
theorem dX6_drawChanges_6 : decode cX6_drawChanges 6 = .ok (.invokevirtual 97, 3) := by decide +kernel
theorem dX6_drawChanges_9 : decode cX6_drawChanges 9 = .ok (.iadd, 1) := by decide +kernel
theorem dX6_drawChanges_10 : decode cX6_drawChanges 10 = .ok (.istore_n 2, 1) := by decide +kernel
theorem dX6_drawChanges_11 : decode cX6_drawChanges 11 = .ok (.iload_n 1, 1) := by decide +kernel
theorem dX6_drawChanges_12 : decode cX6_drawChanges 12 = .ok (.iconst 1, 1) := by decide +kernel
theorem dX6_drawChanges_13 : decode cX6_drawChanges 13 = .ok (.iadd, 1) := by decide +kernel
theorem dX6_drawChanges_14 : decode cX6_drawChanges 14 = .ok (.istore_n 3, 1) := by decide +kernel
theorem dX6_drawChanges_15 : decode cX6_drawChanges 15 = .ok (.iload_n 3, 1) := by decide +kernel
theorem dX6_drawChanges_16 : decode cX6_drawChanges 16 = .ok (.iload_n 2, 1) := by decide +kernel
theorem dX6_drawChanges_17 : decode cX6_drawChanges 17 = .ok (.if_icmp .gt 54, 3) := by decide +kernel
theorem dX6_drawChanges_20 : decode cX6_drawChanges 20 = .ok (.iload_n 3, 1) := by decide +kernel
theorem dX6_drawChanges_21 : decode cX6_drawChanges 21 = .ok (.aload_n 0, 1) := by decide +kernel
theorem dX6_drawChanges_22 : decode cX6_drawChanges 22 = .ok (.getfield 36, 3) := by decide +kernel
theorem dX6_drawChanges_25 : decode cX6_drawChanges 25 = .ok (.if_icmp .ge 46, 3) := by decide +kernel
theorem dX6_drawChanges_28 : decode cX6_drawChanges 28 = .ok (.aload_n 0, 1) := by decide +kernel
theorem dX6_drawChanges_29 : decode cX6_drawChanges 29 = .ok (.getfield 9, 3) := by decide +kernel
theorem dX6_drawChanges_32 : decode cX6_drawChanges 32 = .ok (.iload_n 3, 1) := by decide +kernel
theorem dX6_drawChanges_33 : decode cX6_drawChanges 33 = .ok (.invokevirtual 87, 3) := by decide +kernel
theorem dX6_drawChanges_36 : decode cX6_drawChanges 36 = .ok (.istore 4, 2) := by decide +kernel
theorem dX6_drawChanges_38 : decode cX6_drawChanges 38 = .ok (.iload 4, 2) := by decide +kernel
theorem dX6_drawChanges_40 : decode cX6_drawChanges 40 = .ok (.ifCond .lt 25, 3) := by decide +kernel
theorem dX6_drawChanges_43 : decode cX6_drawChanges 43 = .ok (.iload 4, 2) := by decide +kernel
theorem dX6_drawChanges_45 : decode cX6_drawChanges 45 = .ok (.bipush 16, 2) := by decide +kernel
theorem dX6_drawChanges_47 : decode cX6_drawChanges 47 = .ok (.if_icmp .ge 18, 3) := by decide +kernel
theorem dX6_drawChanges_50 : decode cX6_drawChanges 50 = .ok (.aload_n 0, 1) := by decide +kernel
theorem dX6_drawChanges_51 : decode cX6_drawChanges 51 = .ok (.getfield 33, 3) := by decide +kernel
theorem dX6_drawChanges_54 : decode cX6_drawChanges 54 = .ok (.iload 4, 2) := by decide +kernel
theorem dX6_drawChanges_56 : decode cX6_drawChanges 56 = .ok (.aload_n 0, 1) := by decide +kernel
theorem dX6_drawChanges_57 : decode cX6_drawChanges 57 = .ok (.getfield 9, 3) := by decide +kernel
theorem dX6_drawChanges_60 : decode cX6_drawChanges 60 = .ok (.iload_n 3, 1) := by decide +kernel
theorem dX6_drawChanges_61 : decode cX6_drawChanges 61 = .ok (.invokevirtual 83, 3) := by decide +kernel
theorem dX6_drawChanges_64 : decode cX6_drawChanges 64 = .ok (.lastore, 1) := by decide +kernel
theorem dX6_drawChanges_65 : decode cX6_drawChanges 65 = .ok (.iinc 3 1, 3) := by decide +kernel
theorem dX6_drawChanges_68 : decode cX6_drawChanges 68 = .ok (.goto (-53), 3) := by decide +kernel
theorem dX6_drawChanges_71 : decode cX6_drawChanges 71 = .ok (.return_, 1) := by decide +kernel
theorem dX6_filledSlots_0 : decode cX6_filledSlots 0 = .ok (.iconst 0, 1) := by decide +kernel
theorem dX6_filledSlots_1 : decode cX6_filledSlots 1 = .ok (.istore_n 1, 1) := by decide +kernel
theorem dX6_filledSlots_2 : decode cX6_filledSlots 2 = .ok (.iconst 0, 1) := by decide +kernel
theorem dX6_filledSlots_3 : decode cX6_filledSlots 3 = .ok (.istore_n 2, 1) := by decide +kernel
theorem dX6_filledSlots_4 : decode cX6_filledSlots 4 = .ok (.iload_n 2, 1) := by decide +kernel
theorem dX6_filledSlots_5 : decode cX6_filledSlots 5 = .ok (.bipush 16, 2) := by decide +kernel
theorem dX6_filledSlots_7 : decode cX6_filledSlots 7 = .ok (.if_icmp .ge 23, 3) := by decide +kernel
theorem dX6_filledSlots_10 : decode cX6_filledSlots 10 = .ok (.aload_n 0, 1) := by decide +kernel
theorem dX6_filledSlots_11 : decode cX6_filledSlots 11 = .ok (.getfield 33, 3) := by decide +kernel
theorem dX6_filledSlots_14 : decode cX6_filledSlots 14 = .ok (.iload_n 2, 1) := by decide +kernel
theorem dX6_filledSlots_15 : decode cX6_filledSlots 15 = .ok (.laload, 1) := by decide +kernel
theorem dX6_filledSlots_16 : decode cX6_filledSlots 16 = .ok (.lconst 0, 1) := by decide +kernel
theorem dX6_filledSlots_17 : decode cX6_filledSlots 17 = .ok (.lcmp, 1) := by decide +kernel
theorem dX6_filledSlots_18 : decode cX6_filledSlots 18 = .ok (.ifCond .eq 6, 3) := by decide +kernel
theorem dX6_filledSlots_21 : decode cX6_filledSlots 21 = .ok (.iinc 1 1, 3) := by decide +kernel
theorem dX6_filledSlots_24 : decode cX6_filledSlots 24 = .ok (.iinc 2 1, 3) := by decide +kernel
theorem dX6_filledSlots_27 : decode cX6_filledSlots 27 = .ok (.goto (-23), 3) := by decide +kernel
theorem dX6_filledSlots_30 : decode cX6_filledSlots 30 = .ok (.iload_n 1, 1) := by decide +kernel
theorem dX6_filledSlots_31 : decode cX6_filledSlots 31 = .ok (.ireturn, 1) := by decide +kernel
theorem dX6_names_0 : decode cX6_names 0 = .ok (.lload_n 1, 1) := by decide +kernel
theorem dX6_names_1 : decode cX6_names 1 = .ok (.lconst 0, 1) := by decide +kernel
theorem dX6_names_2 : decode cX6_names 2 = .ok (.lcmp, 1) := by decide +kernel
theorem dX6_names_3 : decode cX6_names 3 = .ok (.ifCond .ne 5, 3) := by decide +kernel
theorem dX6_names_6 : decode cX6_names 6 = .ok (.iconst 0, 1) := by decide +kernel
theorem dX6_names_7 : decode cX6_names 7 = .ok (.ireturn, 1) := by decide +kernel
theorem dX6_names_8 : decode cX6_names 8 = .ok (.iconst 0, 1) := by decide +kernel
theorem dX6_names_9 : decode cX6_names 9 = .ok (.istore_n 3, 1) := by decide +kernel
theorem dX6_names_10 : decode cX6_names 10 = .ok (.iload_n 3, 1) := by decide +kernel
theorem dX6_names_11 : decode cX6_names 11 = .ok (.aload_n 0, 1) := by decide +kernel
theorem dX6_names_12 : decode cX6_names 12 = .ok (.getfield 36, 3) := by decide +kernel
theorem dX6_names_15 : decode cX6_names 15 = .ok (.if_icmp .ge 33, 3) := by decide +kernel
theorem dX6_names_18 : decode cX6_names 18 = .ok (.aload_n 0, 1) := by decide +kernel
theorem dX6_names_19 : decode cX6_names 19 = .ok (.getfield 23, 3) := by decide +kernel
theorem dX6_names_22 : decode cX6_names 22 = .ok (.iload_n 3, 1) := by decide +kernel
theorem dX6_names_23 : decode cX6_names 23 = .ok (.baload, 1) := by decide +kernel
theorem dX6_names_24 : decode cX6_names 24 = .ok (.ifCond .eq 18, 3) := by decide +kernel
theorem dX6_names_27 : decode cX6_names 27 = .ok (.aload_n 0, 1) := by decide +kernel
theorem dX6_names_28 : decode cX6_names 28 = .ok (.getfield 9, 3) := by decide +kernel
theorem dX6_names_31 : decode cX6_names 31 = .ok (.iload_n 3, 1) := by decide +kernel
theorem dX6_names_32 : decode cX6_names 32 = .ok (.invokevirtual 83, 3) := by decide +kernel
theorem dX6_names_35 : decode cX6_names 35 = .ok (.lload_n 1, 1) := by decide +kernel
theorem dX6_names_36 : decode cX6_names 36 = .ok (.lcmp, 1) := by decide +kernel
theorem dX6_names_37 : decode cX6_names 37 = .ok (.ifCond .ne 5, 3) := by decide +kernel
theorem dX6_names_40 : decode cX6_names 40 = .ok (.iconst 1, 1) := by decide +kernel
theorem dX6_names_41 : decode cX6_names 41 = .ok (.ireturn, 1) := by decide +kernel
theorem dX6_names_42 : decode cX6_names 42 = .ok (.iinc 3 1, 3) := by decide +kernel
theorem dX6_names_45 : decode cX6_names 45 = .ok (.goto (-35), 3) := by decide +kernel
theorem dX6_names_48 : decode cX6_names 48 = .ok (.aload_n 0, 1) := by decide +kernel
theorem dX6_names_49 : decode cX6_names 49 = .ok (.aload_n 0, 1) := by decide +kernel
theorem dX6_names_50 : decode cX6_names 50 = .ok (.getfield 50, 3) := by decide +kernel
theorem dX6_names_53 : decode cX6_names 53 = .ok (.invokevirtual 136, 3) := by decide +kernel
theorem dX6_names_56 : decode cX6_names 56 = .ok (.iconst 0, 1) := by decide +kernel
theorem dX6_names_57 : decode cX6_names 57 = .ok (.istore_n 3, 1) := by decide +kernel
theorem dX6_names_58 : decode cX6_names 58 = .ok (.iload_n 3, 1) := by decide +kernel
theorem dX6_names_59 : decode cX6_names 59 = .ok (.bipush 16, 2) := by decide +kernel
theorem dX6_names_61 : decode cX6_names 61 = .ok (.if_icmp .ge 22, 3) := by decide +kernel
theorem dX6_names_64 : decode cX6_names 64 = .ok (.aload_n 0, 1) := by decide +kernel
theorem dX6_names_65 : decode cX6_names 65 = .ok (.getfield 33, 3) := by decide +kernel
theorem dX6_names_68 : decode cX6_names 68 = .ok (.iload_n 3, 1) := by decide +kernel
theorem dX6_names_69 : decode cX6_names 69 = .ok (.laload, 1) := by decide +kernel
theorem dX6_names_70 : decode cX6_names 70 = .ok (.lload_n 1, 1) := by decide +kernel
theorem dX6_names_71 : decode cX6_names 71 = .ok (.lcmp, 1) := by decide +kernel
theorem dX6_names_72 : decode cX6_names 72 = .ok (.ifCond .ne 5, 3) := by decide +kernel
theorem dX6_names_75 : decode cX6_names 75 = .ok (.iconst 1, 1) := by decide +kernel
theorem dX6_names_76 : decode cX6_names 76 = .ok (.ireturn, 1) := by decide +kernel
theorem dX6_names_77 : decode cX6_names 77 = .ok (.iinc 3 1, 3) := by decide +kernel
theorem dX6_names_80 : decode cX6_names 80 = .ok (.goto (-22), 3) := by decide +kernel
theorem dX6_names_83 : decode cX6_names 83 = .ok (.iconst 0, 1) := by decide +kernel
theorem dX6_names_84 : decode cX6_names 84 = .ok (.ireturn, 1) := by decide +kernel
theorem dX8_isHeight_0 : decode cX8_isHeight 0 = .ok (.iload_n 0, 1) := by decide +kernel
theorem dX8_isHeight_1 : decode cX8_isHeight 1 = .ok (.iconst 1, 1) := by decide +kernel
theorem dX8_isHeight_2 : decode cX8_isHeight 2 = .ok (.if_icmp .lt 13, 3) := by decide +kernel
theorem dX8_isHeight_5 : decode cX8_isHeight 5 = .ok (.iload_n 0, 1) := by decide +kernel
theorem dX8_isHeight_6 : decode cX8_isHeight 6 = .ok (.ldc 163, 2) := by decide +kernel
theorem dX8_isHeight_8 : decode cX8_isHeight 8 = .ok (.if_icmp .gt 7, 3) := by decide +kernel
theorem dX8_isHeight_11 : decode cX8_isHeight 11 = .ok (.iconst 1, 1) := by decide +kernel
theorem dX8_isHeight_12 : decode cX8_isHeight 12 = .ok (.goto 4, 3) := by decide +kernel
theorem dX8_isHeight_15 : decode cX8_isHeight 15 = .ok (.iconst 0, 1) := by decide +kernel
theorem dX8_isHeight_16 : decode cX8_isHeight 16 = .ok (.ireturn, 1) := by decide +kernel
