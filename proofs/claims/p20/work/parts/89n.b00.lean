theorem dX1_set_0 : decode cX1_set 0 = .ok (.iload_n 1, 1) := by decide +kernel
theorem dX1_set_1 : decode cX1_set 1 = .ok (.sipush 8224, 3) := by decide +kernel
theorem dX1_set_4 : decode cX1_set 4 = .ok (.if_icmp .ge 10, 3) := by decide +kernel
theorem dX1_set_7 : decode cX1_set 7 = .ok (.aload_n 0, 1) := by decide +kernel
theorem dX1_set_8 : decode cX1_set 8 = .ok (.iload_n 1, 1) := by decide +kernel
theorem dX1_set_9 : decode cX1_set 9 = .ok (.iload_n 2, 1) := by decide +kernel
theorem dX1_set_10 : decode cX1_set 10 = .ok (.invokevirtual 48, 3) := by decide +kernel
theorem dX1_set_13 : decode cX1_set 13 = .ok (.return_, 1) := by decide +kernel
theorem dX1_set_14 : decode cX1_set 14 = .ok (.aload_n 0, 1) := by decide +kernel
theorem dX1_set_15 : decode cX1_set 15 = .ok (.iload_n 1, 1) := by decide +kernel
theorem dX1_set_16 : decode cX1_set 16 = .ok (.sipush 8224, 3) := by decide +kernel
theorem dX1_set_19 : decode cX1_set 19 = .ok (.isub, 1) := by decide +kernel
theorem dX1_set_20 : decode cX1_set 20 = .ok (.bipush 26, 2) := by decide +kernel
theorem dX1_set_22 : decode cX1_set 22 = .ok (.idiv, 1) := by decide +kernel
theorem dX1_set_23 : decode cX1_set 23 = .ok (.invokevirtual 52, 3) := by decide +kernel
theorem dX1_set_26 : decode cX1_set 26 = .ok (.astore_n 3, 1) := by decide +kernel
theorem dX1_set_27 : decode cX1_set 27 = .ok (.aload_n 3, 1) := by decide +kernel
theorem dX1_set_28 : decode cX1_set 28 = .ok (.getfield 43, 3) := by decide +kernel
theorem dX1_set_31 : decode cX1_set 31 = .ok (.iload_n 1, 1) := by decide +kernel
theorem dX1_set_32 : decode cX1_set 32 = .ok (.sipush 8224, 3) := by decide +kernel
theorem dX1_set_35 : decode cX1_set 35 = .ok (.isub, 1) := by decide +kernel
theorem dX1_set_36 : decode cX1_set 36 = .ok (.bipush 26, 2) := by decide +kernel
theorem dX1_set_38 : decode cX1_set 38 = .ok (.irem, 1) := by decide +kernel
theorem dX1_set_39 : decode cX1_set 39 = .ok (.iload_n 2, 1) := by decide +kernel
theorem dX1_set_40 : decode cX1_set 40 = .ok (.i2b, 1) := by decide +kernel
theorem dX1_set_41 : decode cX1_set 41 = .ok (.bastore, 1) := by decide +kernel
theorem dX1_set_42 : decode cX1_set 42 = .ok (.aload_n 3, 1) := by decide +kernel
theorem dX1_set_43 : decode cX1_set 43 = .ok (.iconst 0, 1) := by decide +kernel
theorem dX1_set_44 : decode cX1_set 44 = .ok (.putfield 55, 3) := by decide +kernel
theorem dX1_set_47 : decode cX1_set 47 = .ok (.return_, 1) := by decide +kernel
theorem dX1_writePage_0 : decode cX1_writePage 0 = .ok (.iconst 0, 1) := by decide +kernel
theorem dX1_writePage_1 : decode cX1_writePage 1 = .ok (.istore_n 3, 1) := by decide +kernel
theorem dX1_writePage_2 : decode cX1_writePage 2 = .ok (.iload_n 3, 1) := by decide +kernel
theorem dX1_writePage_3 : decode cX1_writePage 3 = .ok (.bipush 26, 2) := by decide +kernel
theorem dX1_writePage_5 : decode cX1_writePage 5 = .ok (.if_icmp .ge 41, 3) := by decide +kernel
theorem dX1_writePage_8 : decode cX1_writePage 8 = .ok (.aload_n 0, 1) := by decide +kernel
theorem dX1_writePage_9 : decode cX1_writePage 9 = .ok (.invokevirtual 58, 3) := by decide +kernel
theorem dX1_writePage_12 : decode cX1_writePage 12 = .ok (.ifCond .ne 5, 3) := by decide +kernel
theorem dX1_writePage_15 : decode cX1_writePage 15 = .ok (.iconst 0, 1) := by decide +kernel
theorem dX1_writePage_16 : decode cX1_writePage 16 = .ok (.ireturn, 1) := by decide +kernel
theorem dX1_writePage_17 : decode cX1_writePage 17 = .ok (.aload_n 0, 1) := by decide +kernel
theorem dX1_writePage_18 : decode cX1_writePage 18 = .ok (.iload_n 1, 1) := by decide +kernel
theorem dX1_writePage_19 : decode cX1_writePage 19 = .ok (.invokevirtual 52, 3) := by decide +kernel
theorem dX1_writePage_22 : decode cX1_writePage 22 = .ok (.astore 4, 2) := by decide +kernel
theorem dX1_writePage_24 : decode cX1_writePage 24 = .ok (.aload 4, 2) := by decide +kernel
theorem dX1_writePage_26 : decode cX1_writePage 26 = .ok (.getfield 43, 3) := by decide +kernel
theorem dX1_writePage_29 : decode cX1_writePage 29 = .ok (.iload_n 3, 1) := by decide +kernel
theorem dX1_writePage_30 : decode cX1_writePage 30 = .ok (.aload_n 2, 1) := by decide +kernel
theorem dX1_writePage_31 : decode cX1_writePage 31 = .ok (.iload_n 3, 1) := by decide +kernel
theorem dX1_writePage_32 : decode cX1_writePage 32 = .ok (.baload, 1) := by decide +kernel
theorem dX1_writePage_33 : decode cX1_writePage 33 = .ok (.bastore, 1) := by decide +kernel
theorem dX1_writePage_34 : decode cX1_writePage 34 = .ok (.aload 4, 2) := by decide +kernel
theorem dX1_writePage_36 : decode cX1_writePage 36 = .ok (.iconst 0, 1) := by decide +kernel
theorem dX1_writePage_37 : decode cX1_writePage 37 = .ok (.putfield 55, 3) := by decide +kernel
theorem dX1_writePage_40 : decode cX1_writePage 40 = .ok (.iinc 3 1, 3) := by decide +kernel
theorem dX1_writePage_43 : decode cX1_writePage 43 = .ok (.goto (-41), 3) := by decide +kernel
theorem dX1_writePage_46 : decode cX1_writePage 46 = .ok (.iconst 1, 1) := by decide +kernel
theorem dX1_writePage_47 : decode cX1_writePage 47 = .ok (.ireturn, 1) := by decide +kernel
theorem dX1_touch_0 : decode cX1_touch 0 = .ok (.aload_n 0, 1) := by decide +kernel
theorem dX1_touch_1 : decode cX1_touch 1 = .ok (.iload_n 1, 1) := by decide +kernel
theorem dX1_touch_2 : decode cX1_touch 2 = .ok (.invokevirtual 79, 3) := by decide +kernel
theorem dX1_touch_5 : decode cX1_touch 5 = .ok (.istore_n 2, 1) := by decide +kernel
theorem dX1_touch_6 : decode cX1_touch 6 = .ok (.iload_n 2, 1) := by decide +kernel
theorem dX1_touch_7 : decode cX1_touch 7 = .ok (.aload_n 0, 1) := by decide +kernel
theorem dX1_touch_8 : decode cX1_touch 8 = .ok (.getfield 25, 3) := by decide +kernel
theorem dX1_touch_11 : decode cX1_touch 11 = .ok (.invokevirtual 68, 3) := by decide +kernel
theorem dX1_touch_14 : decode cX1_touch 14 = .ok (.if_icmp .ge 33, 3) := by decide +kernel
theorem dX1_touch_17 : decode cX1_touch 17 = .ok (.aload_n 0, 1) := by decide +kernel
theorem dX1_touch_18 : decode cX1_touch 18 = .ok (.getfield 25, 3) := by decide +kernel
theorem dX1_touch_21 : decode cX1_touch 21 = .ok (.iload_n 2, 1) := by decide +kernel
theorem dX1_touch_22 : decode cX1_touch 22 = .ok (.invokevirtual 72, 3) := by decide +kernel
theorem dX1_touch_25 : decode cX1_touch 25 = .ok (.checkcast 44, 3) := by decide +kernel
theorem dX1_touch_28 : decode cX1_touch 28 = .ok (.getfield 76, 3) := by decide +kernel
theorem dX1_touch_31 : decode cX1_touch 31 = .ok (.iload_n 1, 1) := by decide +kernel
theorem dX1_touch_32 : decode cX1_touch 32 = .ok (.if_icmp .ne 15, 3) := by decide +kernel
theorem dX1_touch_35 : decode cX1_touch 35 = .ok (.aload_n 0, 1) := by decide +kernel
theorem dX1_touch_36 : decode cX1_touch 36 = .ok (.getfield 25, 3) := by decide +kernel
theorem dX1_touch_39 : decode cX1_touch 39 = .ok (.iload_n 2, 1) := by decide +kernel
theorem dX1_touch_40 : decode cX1_touch 40 = .ok (.invokevirtual 72, 3) := by decide +kernel
theorem dX1_touch_43 : decode cX1_touch 43 = .ok (.checkcast 44, 3) := by decide +kernel
theorem dX1_touch_46 : decode cX1_touch 46 = .ok (.areturn, 1) := by decide +kernel
theorem dX1_touch_47 : decode cX1_touch 47 = .ok (.new 44, 3) := by decide +kernel
theorem dX1_touch_50 : decode cX1_touch 50 = .ok (.dup, 1) := by decide +kernel
theorem dX1_touch_51 : decode cX1_touch 51 = .ok (.iload_n 1, 1) := by decide +kernel
theorem dX1_touch_52 : decode cX1_touch 52 = .ok (.invokespecial 83, 3) := by decide +kernel
theorem dX1_touch_55 : decode cX1_touch 55 = .ok (.astore_n 3, 1) := by decide +kernel
theorem dX1_touch_56 : decode cX1_touch 56 = .ok (.aload_n 0, 1) := by decide +kernel
theorem dX1_touch_57 : decode cX1_touch 57 = .ok (.getfield 25, 3) := by decide +kernel
theorem dX1_touch_60 : decode cX1_touch 60 = .ok (.iload_n 2, 1) := by decide +kernel
theorem dX1_touch_61 : decode cX1_touch 61 = .ok (.aload_n 3, 1) := by decide +kernel
theorem dX1_touch_62 : decode cX1_touch 62 = .ok (.invokevirtual 86, 3) := by decide +kernel
theorem dX1_touch_65 : decode cX1_touch 65 = .ok (.aload_n 3, 1) := by decide +kernel
theorem dX1_touch_66 : decode cX1_touch 66 = .ok (.areturn, 1) := by decide +kernel
theorem dX8_leaf_0 : decode cX8_leaf 0 = .ok (.aload_n 0, 1) := by decide +kernel
theorem dX8_leaf_1 : decode cX8_leaf 1 = .ok (.invokevirtual 99, 3) := by decide +kernel
theorem dX8_leaf_4 : decode cX8_leaf 4 = .ok (.aload_n 0, 1) := by decide +kernel
theorem dX8_leaf_5 : decode cX8_leaf 5 = .ok (.getfield 13, 3) := by decide +kernel
theorem dX8_leaf_8 : decode cX8_leaf 8 = .ok (.getfield 83, 3) := by decide +kernel
theorem dX8_leaf_11 : decode cX8_leaf 11 = .ok (.istore_n 1, 1) := by decide +kernel
theorem dX8_leaf_12 : decode cX8_leaf 12 = .ok (.iload_n 1, 1) := by decide +kernel
theorem dX8_leaf_13 : decode cX8_leaf 13 = .ok (.iconst 1, 1) := by decide +kernel
theorem dX8_leaf_14 : decode cX8_leaf 14 = .ok (.if_icmp .lt 9, 3) := by decide +kernel
theorem dX8_leaf_17 : decode cX8_leaf 17 = .ok (.iload_n 1, 1) := by decide +kernel
theorem dX8_leaf_18 : decode cX8_leaf 18 = .ok (.bipush 16, 2) := by decide +kernel
theorem dX8_leaf_20 : decode cX8_leaf 20 = .ok (.if_icmp .le 13, 3) := by decide +kernel
theorem dX8_leaf_23 : decode cX8_leaf 23 = .ok (.new 76, 3) := by decide +kernel
theorem dX8_leaf_26 : decode cX8_leaf 26 = .ok (.dup, 1) := by decide +kernel
theorem dX8_leaf_27 : decode cX8_leaf 27 = .ok (.ldc 102, 2) := by decide +kernel
theorem dX8_leaf_29 : decode cX8_leaf 29 = .ok (.invokespecial 80, 3) := by decide +kernel
theorem dX8_leaf_32 : decode cX8_leaf 32 = .ok (.athrow, 1) := by decide +kernel
theorem dX8_leaf_33 : decode cX8_leaf 33 = .ok (.aload_n 0, 1) := by decide +kernel
theorem dX8_leaf_34 : decode cX8_leaf 34 = .ok (.getfield 31, 3) := by decide +kernel
theorem dX8_leaf_37 : decode cX8_leaf 37 = .ok (.invokevirtual 104, 3) := by decide +kernel
theorem dX8_leaf_40 : decode cX8_leaf 40 = .ok (.ifCond .eq 6, 3) := by decide +kernel
theorem dX8_leaf_43 : decode cX8_leaf 43 = .ok (.bipush (-3), 2) := by decide +kernel
theorem dX8_leaf_45 : decode cX8_leaf 45 = .ok (.ireturn, 1) := by decide +kernel
theorem dX8_leaf_46 : decode cX8_leaf 46 = .ok (.aload_n 0, 1) := by decide +kernel
theorem dX8_leaf_47 : decode cX8_leaf 47 = .ok (.iconst 0, 1) := by decide +kernel
theorem dX8_leaf_48 : decode cX8_leaf 48 = .ok (.iload_n 1, 1) := by decide +kernel
theorem dX8_leaf_49 : decode cX8_leaf 49 = .ok (.invokevirtual 108, 3) := by decide +kernel
theorem dX8_leaf_52 : decode cX8_leaf 52 = .ok (.aload_n 0, 1) := by decide +kernel
theorem dX8_leaf_53 : decode cX8_leaf 53 = .ok (.invokevirtual 112, 3) := by decide +kernel
theorem dX8_leaf_56 : decode cX8_leaf 56 = .ok (.istore_n 2, 1) := by decide +kernel
theorem dX8_leaf_57 : decode cX8_leaf 57 = .ok (.iload_n 2, 1) := by decide +kernel
theorem dX8_leaf_58 : decode cX8_leaf 58 = .ok (.bipush (-2), 2) := by decide +kernel
theorem dX8_leaf_60 : decode cX8_leaf 60 = .ok (.if_icmp .eq 11, 3) := by decide +kernel
theorem dX8_leaf_63 : decode cX8_leaf 63 = .ok (.aload_n 0, 1) := by decide +kernel
theorem dX8_leaf_64 : decode cX8_leaf 64 = .ok (.getfield 13, 3) := by decide +kernel
theorem dX8_leaf_67 : decode cX8_leaf 67 = .ok (.iconst 0, 1) := by decide +kernel
theorem dX8_leaf_68 : decode cX8_leaf 68 = .ok (.putfield 83, 3) := by decide +kernel
theorem dX8_leaf_71 : decode cX8_leaf 71 = .ok (.iload_n 2, 1) := by decide +kernel
theorem dX8_leaf_72 : decode cX8_leaf 72 = .ok (.ireturn, 1) := by decide +kernel
theorem dX8_in_0 : decode cX8_in 0 = .ok (.aload_n 0, 1) := by decide +kernel
theorem dX8_in_1 : decode cX8_in 1 = .ok (.invokevirtual 99, 3) := by decide +kernel
theorem dX8_in_4 : decode cX8_in 4 = .ok (.aload_n 0, 1) := by decide +kernel
theorem dX8_in_5 : decode cX8_in 5 = .ok (.getfield 31, 3) := by decide +kernel
theorem dX8_in_8 : decode cX8_in 8 = .ok (.invokevirtual 104, 3) := by decide +kernel
theorem dX8_in_11 : decode cX8_in 11 = .ok (.ifCond .eq 6, 3) := by decide +kernel
theorem dX8_in_14 : decode cX8_in 14 = .ok (.bipush (-3), 2) := by decide +kernel
theorem dX8_in_16 : decode cX8_in 16 = .ok (.ireturn, 1) := by decide +kernel
theorem dX8_in_17 : decode cX8_in 17 = .ok (.aload_n 0, 1) := by decide +kernel
theorem dX8_in_18 : decode cX8_in 18 = .ok (.getfield 31, 3) := by decide +kernel
theorem dX8_in_21 : decode cX8_in 21 = .ok (.getfield 151, 3) := by decide +kernel
theorem dX8_in_24 : decode cX8_in 24 = .ok (.ifCond .le 6, 3) := by decide +kernel
theorem dX8_in_27 : decode cX8_in 27 = .ok (.bipush (-9), 2) := by decide +kernel
theorem dX8_in_29 : decode cX8_in 29 = .ok (.ireturn, 1) := by decide +kernel
theorem dX8_in_30 : decode cX8_in 30 = .ok (.aload_n 0, 1) := by decide +kernel
theorem dX8_in_31 : decode cX8_in 31 = .ok (.getfield 56, 3) := by decide +kernel
theorem dX8_in_34 : decode cX8_in 34 = .ok (.aload_n 0, 1) := by decide +kernel
theorem dX8_in_35 : decode cX8_in 35 = .ok (.getfield 13, 3) := by decide +kernel
theorem dX8_in_38 : decode cX8_in 38 = .ok (.invokevirtual 266, 3) := by decide +kernel
theorem dX8_in_41 : decode cX8_in 41 = .ok (.ifCond .ne 6, 3) := by decide +kernel
theorem dX8_in_44 : decode cX8_in 44 = .ok (.bipush (-10), 2) := by decide +kernel
theorem dX8_in_46 : decode cX8_in 46 = .ok (.ireturn, 1) := by decide +kernel
theorem dX8_in_47 : decode cX8_in 47 = .ok (.aload_n 0, 1) := by decide +kernel
theorem dX8_in_48 : decode cX8_in 48 = .ok (.invokevirtual 270, 3) := by decide +kernel
theorem dX8_in_51 : decode cX8_in 51 = .ok (.aload_n 0, 1) := by decide +kernel
theorem dX8_in_52 : decode cX8_in 52 = .ok (.getfield 22, 3) := by decide +kernel
theorem dX8_in_55 : decode cX8_in 55 = .ok (.invokevirtual 273, 3) := by decide +kernel
theorem dX8_in_58 : decode cX8_in 58 = .ok (.if_icmp .le 6, 3) := by decide +kernel
theorem dX8_in_61 : decode cX8_in 61 = .ok (.bipush (-2), 2) := by decide +kernel
theorem dX8_in_63 : decode cX8_in 63 = .ok (.ireturn, 1) := by decide +kernel
theorem dX8_in_64 : decode cX8_in 64 = .ok (.aload_n 0, 1) := by decide +kernel
theorem dX8_in_65 : decode cX8_in 65 = .ok (.getfield 13, 3) := by decide +kernel
theorem dX8_in_68 : decode cX8_in 68 = .ok (.iconst 0, 1) := by decide +kernel
theorem dX8_in_69 : decode cX8_in 69 = .ok (.putfield 83, 3) := by decide +kernel
theorem dX8_in_72 : decode cX8_in 72 = .ok (.aload_n 0, 1) := by decide +kernel
theorem dX8_in_73 : decode cX8_in 73 = .ok (.invokevirtual 276, 3) := by decide +kernel
theorem dX8_in_76 : decode cX8_in 76 = .ok (.ifCond .eq 13, 3) := by decide +kernel
theorem dX8_in_79 : decode cX8_in 79 = .ok (.aload_n 0, 1) := by decide +kernel
theorem dX8_in_80 : decode cX8_in 80 = .ok (.getfield 56, 3) := by decide +kernel
theorem dX8_in_83 : decode cX8_in 83 = .ok (.getfield 279, 3) := by decide +kernel
theorem dX8_in_86 : decode cX8_in 86 = .ok (.goto 5, 3) := by decide +kernel
theorem dX8_in_89 : decode cX8_in 89 = .ok (.bipush (-4), 2) := by decide +kernel
theorem dX8_in_91 : decode cX8_in 91 = .ok (.ireturn, 1) := by decide +kernel
theorem dX8_poke_0 : decode cX8_poke 0 = .ok (.aload_n 0, 1) := by decide +kernel
theorem dX8_poke_1 : decode cX8_poke 1 = .ok (.iload_n 1, 1) := by decide +kernel
theorem dX8_poke_2 : decode cX8_poke 2 = .ok (.invokevirtual 297, 3) := by decide +kernel
theorem dX8_poke_5 : decode cX8_poke 5 = .ok (.aload_n 0, 1) := by decide +kernel
theorem dX8_poke_6 : decode cX8_poke 6 = .ok (.getfield 22, 3) := by decide +kernel
theorem dX8_poke_9 : decode cX8_poke 9 = .ok (.getfield 287, 3) := by decide +kernel
theorem dX8_poke_12 : decode cX8_poke 12 = .ok (.ifCond .eq 14, 3) := by decide +kernel
theorem dX8_poke_15 : decode cX8_poke 15 = .ok (.new 300, 3) := by decide +kernel
theorem dX8_poke_18 : decode cX8_poke 18 = .ok (.dup, 1) := by decide +kernel
theorem dX8_poke_19 : decode cX8_poke 19 = .ok (.ldc_w 302, 3) := by decide +kernel
theorem dX8_poke_22 : decode cX8_poke 22 = .ok (.invokespecial 304, 3) := by decide +kernel
theorem dX8_poke_25 : decode cX8_poke 25 = .ok (.athrow, 1) := by decide +kernel
theorem dX8_poke_26 : decode cX8_poke 26 = .ok (.iload_n 2, 1) := by decide +kernel
theorem dX8_poke_27 : decode cX8_poke 27 = .ok (.ifCond .lt 10, 3) := by decide +kernel
theorem dX8_poke_30 : decode cX8_poke 30 = .ok (.iload_n 2, 1) := by decide +kernel
theorem dX8_poke_31 : decode cX8_poke 31 = .ok (.sipush 255, 3) := by decide +kernel
theorem dX8_poke_34 : decode cX8_poke 34 = .ok (.if_icmp .le 14, 3) := by decide +kernel
theorem dX8_poke_37 : decode cX8_poke 37 = .ok (.new 76, 3) := by decide +kernel
theorem dX8_poke_40 : decode cX8_poke 40 = .ok (.dup, 1) := by decide +kernel
theorem dX8_poke_41 : decode cX8_poke 41 = .ok (.ldc_w 305, 3) := by decide +kernel
theorem dX8_poke_44 : decode cX8_poke 44 = .ok (.invokespecial 80, 3) := by decide +kernel
theorem dX8_poke_47 : decode cX8_poke 47 = .ok (.athrow, 1) := by decide +kernel
theorem dX8_poke_48 : decode cX8_poke 48 = .ok (.aload_n 0, 1) := by decide +kernel
theorem dX8_poke_49 : decode cX8_poke 49 = .ok (.getfield 22, 3) := by decide +kernel
theorem dX8_poke_52 : decode cX8_poke 52 = .ok (.iload_n 1, 1) := by decide +kernel
theorem dX8_poke_53 : decode cX8_poke 53 = .ok (.invokevirtual 307, 3) := by decide +kernel
theorem dX8_poke_56 : decode cX8_poke 56 = .ok (.iload_n 2, 1) := by decide +kernel
theorem dX8_poke_57 : decode cX8_poke 57 = .ok (.ixor, 1) := by decide +kernel
theorem dX8_poke_58 : decode cX8_poke 58 = .ok (.istore_n 3, 1) := by decide +kernel
theorem dX8_poke_59 : decode cX8_poke 59 = .ok (.aload_n 0, 1) := by decide +kernel
theorem dX8_poke_60 : decode cX8_poke 60 = .ok (.getfield 22, 3) := by decide +kernel
theorem dX8_poke_63 : decode cX8_poke 63 = .ok (.iload_n 1, 1) := by decide +kernel
theorem dX8_poke_64 : decode cX8_poke 64 = .ok (.iload_n 3, 1) := by decide +kernel
theorem dX8_poke_65 : decode cX8_poke 65 = .ok (.invokevirtual 309, 3) := by decide +kernel
theorem dX8_poke_68 : decode cX8_poke 68 = .ok (.iload_n 3, 1) := by decide +kernel
theorem dX8_poke_69 : decode cX8_poke 69 = .ok (.ireturn, 1) := by decide +kernel
theorem dX8_mend_0 : decode cX8_mend 0 = .ok (.aload_n 0, 1) := by decide +kernel
theorem dX8_mend_1 : decode cX8_mend 1 = .ok (.invokevirtual 99, 3) := by decide +kernel
theorem dX8_mend_4 : decode cX8_mend 4 = .ok (.aload_n 0, 1) := by decide +kernel
theorem dX8_mend_5 : decode cX8_mend 5 = .ok (.iload_n 1, 1) := by decide +kernel
theorem dX8_mend_6 : decode cX8_mend 6 = .ok (.invokevirtual 321, 3) := by decide +kernel
theorem dX8_mend_9 : decode cX8_mend 9 = .ok (.ifCond .ne 14, 3) := by decide +kernel
theorem dX8_mend_12 : decode cX8_mend 12 = .ok (.new 76, 3) := by decide +kernel
theorem dX8_mend_15 : decode cX8_mend 15 = .ok (.dup, 1) := by decide +kernel
theorem dX8_mend_16 : decode cX8_mend 16 = .ok (.ldc_w 324, 3) := by decide +kernel
theorem dX8_mend_19 : decode cX8_mend 19 = .ok (.invokespecial 80, 3) := by decide +kernel
theorem dX8_mend_22 : decode cX8_mend 22 = .ok (.athrow, 1) := by decide +kernel
theorem dX8_mend_23 : decode cX8_mend 23 = .ok (.iload_n 1, 1) := by decide +kernel
theorem dX8_mend_24 : decode cX8_mend 24 = .ok (.sipush 128, 3) := by decide +kernel
theorem dX8_mend_27 : decode cX8_mend 27 = .ok (.if_icmp .ge 7, 3) := by decide +kernel
theorem dX8_mend_30 : decode cX8_mend 30 = .ok (.iconst 1, 1) := by decide +kernel
theorem dX8_mend_31 : decode cX8_mend 31 = .ok (.goto 4, 3) := by decide +kernel
theorem dX8_mend_34 : decode cX8_mend 34 = .ok (.iconst 0, 1) := by decide +kernel
theorem dX8_mend_35 : decode cX8_mend 35 = .ok (.istore_n 2, 1) := by decide +kernel
theorem dX8_mend_36 : decode cX8_mend 36 = .ok (.iload_n 2, 1) := by decide +kernel
theorem dX8_mend_37 : decode cX8_mend 37 = .ok (.ifCond .eq 18, 3) := by decide +kernel
theorem dX8_mend_40 : decode cX8_mend 40 = .ok (.aload_n 0, 1) := by decide +kernel
theorem dX8_mend_41 : decode cX8_mend 41 = .ok (.getfield 31, 3) := by decide +kernel
theorem dX8_mend_44 : decode cX8_mend 44 = .ok (.iload_n 1, 1) := by decide +kernel
theorem dX8_mend_45 : decode cX8_mend 45 = .ok (.aload_n 0, 1) := by decide +kernel
theorem dX8_mend_46 : decode cX8_mend 46 = .ok (.getfield 13, 3) := by decide +kernel
theorem dX8_mend_49 : decode cX8_mend 49 = .ok (.invokevirtual 326, 3) := by decide +kernel
theorem dX8_mend_52 : decode cX8_mend 52 = .ok (.goto 12, 3) := by decide +kernel
theorem dX8_mend_55 : decode cX8_mend 55 = .ok (.aload_n 0, 1) := by decide +kernel
theorem dX8_mend_56 : decode cX8_mend 56 = .ok (.iload_n 1, 1) := by decide +kernel
theorem dX8_mend_57 : decode cX8_mend 57 = .ok (.sipush 128, 3) := by decide +kernel
theorem dX8_mend_60 : decode cX8_mend 60 = .ok (.isub, 1) := by decide +kernel
theorem dX8_mend_61 : decode cX8_mend 61 = .ok (.invokevirtual 330, 3) := by decide +kernel
theorem dX8_mend_64 : decode cX8_mend 64 = .ok (.istore_n 3, 1) := by decide +kernel
theorem dX8_mend_65 : decode cX8_mend 65 = .ok (.iload_n 3, 1) := by decide +kernel
theorem dX8_mend_66 : decode cX8_mend 66 = .ok (.ifCond .ne 6, 3) := by decide +kernel
theorem dX8_mend_69 : decode cX8_mend 69 = .ok (.bipush (-10), 2) := by decide +kernel
theorem dX8_mend_71 : decode cX8_mend 71 = .ok (.ireturn, 1) := by decide +kernel
theorem dX8_mend_72 : decode cX8_mend 72 = .ok (.aload_n 0, 1) := by decide +kernel
theorem dX8_mend_73 : decode cX8_mend 73 = .ok (.getfield 13, 3) := by decide +kernel
theorem dX8_mend_76 : decode cX8_mend 76 = .ok (.iconst 0, 1) := by decide +kernel
theorem dX8_mend_77 : decode cX8_mend 77 = .ok (.putfield 83, 3) := by decide +kernel
theorem dX8_mend_80 : decode cX8_mend 80 = .ok (.iload_n 2, 1) := by decide +kernel
theorem dX8_mend_81 : decode cX8_mend 81 = .ok (.ifCond .eq 14, 3) := by decide +kernel
theorem dX8_mend_84 : decode cX8_mend 84 = .ok (.aload_n 0, 1) := by decide +kernel
theorem dX8_mend_85 : decode cX8_mend 85 = .ok (.getfield 31, 3) := by decide +kernel
theorem dX8_mend_88 : decode cX8_mend 88 = .ok (.iload_n 1, 1) := by decide +kernel
theorem dX8_mend_89 : decode cX8_mend 89 = .ok (.invokevirtual 333, 3) := by decide +kernel
theorem dX8_mend_92 : decode cX8_mend 92 = .ok (.goto 19, 3) := by decide +kernel
theorem dX8_mend_95 : decode cX8_mend 95 = .ok (.aload_n 0, 1) := by decide +kernel
theorem dX8_mend_96 : decode cX8_mend 96 = .ok (.getfield 22, 3) := by decide +kernel
theorem dX8_mend_99 : decode cX8_mend 99 = .ok (.iload_n 1, 1) := by decide +kernel
theorem dX8_mend_100 : decode cX8_mend 100 = .ok (.sipush 128, 3) := by decide +kernel
theorem dX8_mend_103 : decode cX8_mend 103 = .ok (.isub, 1) := by decide +kernel
theorem dX8_mend_104 : decode cX8_mend 104 = .ok (.aload_n 0, 1) := by decide +kernel
theorem dX8_mend_105 : decode cX8_mend 105 = .ok (.getfield 60, 3) := by decide +kernel
theorem dX8_mend_108 : decode cX8_mend 108 = .ok (.invokevirtual 336, 3) := by decide +kernel
theorem dX8_mend_111 : decode cX8_mend 111 = .ok (.istore 4, 2) := by decide +kernel
theorem dX8_mend_113 : decode cX8_mend 113 = .ok (.iload 4, 2) := by decide +kernel
theorem dX8_mend_115 : decode cX8_mend 115 = .ok (.ifCond .ne 6, 3) := by decide +kernel
theorem dX8_mend_118 : decode cX8_mend 118 = .ok (.bipush (-4), 2) := by decide +kernel
theorem dX8_mend_120 : decode cX8_mend 120 = .ok (.ireturn, 1) := by decide +kernel
theorem dX8_mend_121 : decode cX8_mend 121 = .ok (.iload_n 2, 1) := by decide +kernel
theorem dX8_mend_122 : decode cX8_mend 122 = .ok (.ifCond .eq 10, 3) := by decide +kernel
theorem dX8_mend_125 : decode cX8_mend 125 = .ok (.aload_n 0, 1) := by decide +kernel
theorem dX8_mend_126 : decode cX8_mend 126 = .ok (.getfield 40, 3) := by decide +kernel
theorem dX8_mend_129 : decode cX8_mend 129 = .ok (.invokevirtual 249, 3) := by decide +kernel
theorem dX8_mend_132 : decode cX8_mend 132 = .ok (.aload_n 0, 1) := by decide +kernel
theorem dX8_mend_133 : decode cX8_mend 133 = .ok (.getfield 31, 3) := by decide +kernel
theorem dX8_mend_136 : decode cX8_mend 136 = .ok (.getfield 312, 3) := by decide +kernel
theorem dX8_mend_139 : decode cX8_mend 139 = .ok (.aload_n 0, 1) := by decide +kernel
theorem dX8_mend_140 : decode cX8_mend 140 = .ok (.getfield 22, 3) := by decide +kernel
theorem dX8_mend_143 : decode cX8_mend 143 = .ok (.invokevirtual 340, 3) := by decide +kernel
theorem dX8_mend_146 : decode cX8_mend 146 = .ok (.iadd, 1) := by decide +kernel
theorem dX8_mend_147 : decode cX8_mend 147 = .ok (.ireturn, 1) := by decide +kernel
theorem dX8_putLeaf_0 : decode cX8_putLeaf 0 = .ok (.aload_n 0, 1) := by decide +kernel
theorem dX8_putLeaf_1 : decode cX8_putLeaf 1 = .ok (.getfield 22, 3) := by decide +kernel
theorem dX8_putLeaf_4 : decode cX8_putLeaf 4 = .ok (.aload_n 0, 1) := by decide +kernel
theorem dX8_putLeaf_5 : decode cX8_putLeaf 5 = .ok (.getfield 60, 3) := by decide +kernel
theorem dX8_putLeaf_8 : decode cX8_putLeaf 8 = .ok (.invokevirtual 389, 3) := by decide +kernel
theorem dX8_putLeaf_11 : decode cX8_putLeaf 11 = .ok (.istore_n 1, 1) := by decide +kernel
theorem dX8_putLeaf_12 : decode cX8_putLeaf 12 = .ok (.iload_n 1, 1) := by decide +kernel
theorem dX8_putLeaf_13 : decode cX8_putLeaf 13 = .ok (.iconst (-1), 1) := by decide +kernel
theorem dX8_putLeaf_14 : decode cX8_putLeaf 14 = .ok (.if_icmp .eq 5, 3) := by decide +kernel
theorem dX8_putLeaf_17 : decode cX8_putLeaf 17 = .ok (.iload_n 1, 1) := by decide +kernel
theorem dX8_putLeaf_18 : decode cX8_putLeaf 18 = .ok (.ireturn, 1) := by decide +kernel
theorem dX8_putLeaf_19 : decode cX8_putLeaf 19 = .ok (.aload_n 0, 1) := by decide +kernel
theorem dX8_putLeaf_20 : decode cX8_putLeaf 20 = .ok (.getfield 22, 3) := by decide +kernel
theorem dX8_putLeaf_23 : decode cX8_putLeaf 23 = .ok (.invokevirtual 393, 3) := by decide +kernel
theorem dX8_putLeaf_26 : decode cX8_putLeaf 26 = .ok (.istore_n 2, 1) := by decide +kernel
theorem dX8_putLeaf_27 : decode cX8_putLeaf 27 = .ok (.iload_n 2, 1) := by decide +kernel
theorem dX8_putLeaf_28 : decode cX8_putLeaf 28 = .ok (.iconst (-1), 1) := by decide +kernel
theorem dX8_putLeaf_29 : decode cX8_putLeaf 29 = .ok (.if_icmp .ne 6, 3) := by decide +kernel
theorem dX8_putLeaf_32 : decode cX8_putLeaf 32 = .ok (.bipush (-2), 2) := by decide +kernel
theorem dX8_putLeaf_34 : decode cX8_putLeaf 34 = .ok (.ireturn, 1) := by decide +kernel
theorem dX8_putLeaf_35 : decode cX8_putLeaf 35 = .ok (.aload_n 0, 1) := by decide +kernel
theorem dX8_putLeaf_36 : decode cX8_putLeaf 36 = .ok (.getfield 22, 3) := by decide +kernel
theorem dX8_putLeaf_39 : decode cX8_putLeaf 39 = .ok (.iload_n 2, 1) := by decide +kernel
theorem dX8_putLeaf_40 : decode cX8_putLeaf 40 = .ok (.aload_n 0, 1) := by decide +kernel
theorem dX8_putLeaf_41 : decode cX8_putLeaf 41 = .ok (.getfield 60, 3) := by decide +kernel
theorem dX8_putLeaf_44 : decode cX8_putLeaf 44 = .ok (.invokevirtual 336, 3) := by decide +kernel
theorem dX8_putLeaf_47 : decode cX8_putLeaf 47 = .ok (.ifCond .eq 7, 3) := by decide +kernel
theorem dX8_putLeaf_50 : decode cX8_putLeaf 50 = .ok (.iload_n 2, 1) := by decide +kernel
theorem dX8_putLeaf_51 : decode cX8_putLeaf 51 = .ok (.goto 5, 3) := by decide +kernel
theorem dX8_putLeaf_54 : decode cX8_putLeaf 54 = .ok (.bipush (-4), 2) := by decide +kernel
theorem dX8_putLeaf_56 : decode cX8_putLeaf 56 = .ok (.ireturn, 1) := by decide +kernel
theorem dX8_putSnapshot_0 : decode cX8_putSnapshot 0 = .ok (.iconst 0, 1) := by decide +kernel
theorem dX8_putSnapshot_1 : decode cX8_putSnapshot 1 = .ok (.istore_n 1, 1) := by decide +kernel
theorem dX8_putSnapshot_2 : decode cX8_putSnapshot 2 = .ok (.iload_n 1, 1) := by decide +kernel
theorem dX8_putSnapshot_3 : decode cX8_putSnapshot 3 = .ok (.aload_n 0, 1) := by decide +kernel
theorem dX8_putSnapshot_4 : decode cX8_putSnapshot 4 = .ok (.getfield 56, 3) := by decide +kernel
theorem dX8_putSnapshot_7 : decode cX8_putSnapshot 7 = .ok (.getfield 440, 3) := by decide +kernel
theorem dX8_putSnapshot_10 : decode cX8_putSnapshot 10 = .ok (.if_icmp .ge 58, 3) := by decide +kernel
theorem dX8_putSnapshot_13 : decode cX8_putSnapshot 13 = .ok (.aload_n 0, 1) := by decide +kernel
theorem dX8_putSnapshot_14 : decode cX8_putSnapshot 14 = .ok (.aload_n 0, 1) := by decide +kernel
theorem dX8_putSnapshot_15 : decode cX8_putSnapshot 15 = .ok (.getfield 56, 3) := by decide +kernel
theorem dX8_putSnapshot_18 : decode cX8_putSnapshot 18 = .ok (.getfield 441, 3) := by decide +kernel
theorem dX8_putSnapshot_21 : decode cX8_putSnapshot 21 = .ok (.iload_n 1, 1) := by decide +kernel
theorem dX8_putSnapshot_22 : decode cX8_putSnapshot 22 = .ok (.iaload, 1) := by decide +kernel
theorem dX8_putSnapshot_23 : decode cX8_putSnapshot 23 = .ok (.aload_n 0, 1) := by decide +kernel
theorem dX8_putSnapshot_24 : decode cX8_putSnapshot 24 = .ok (.getfield 56, 3) := by decide +kernel
theorem dX8_putSnapshot_27 : decode cX8_putSnapshot 27 = .ok (.getfield 444, 3) := by decide +kernel
theorem dX8_putSnapshot_30 : decode cX8_putSnapshot 30 = .ok (.iload_n 1, 1) := by decide +kernel
theorem dX8_putSnapshot_31 : decode cX8_putSnapshot 31 = .ok (.iaload, 1) := by decide +kernel
theorem dX8_putSnapshot_32 : decode cX8_putSnapshot 32 = .ok (.invokevirtual 108, 3) := by decide +kernel
theorem dX8_putSnapshot_35 : decode cX8_putSnapshot 35 = .ok (.aload_n 0, 1) := by decide +kernel
theorem dX8_putSnapshot_36 : decode cX8_putSnapshot 36 = .ok (.getfield 56, 3) := by decide +kernel
theorem dX8_putSnapshot_39 : decode cX8_putSnapshot 39 = .ok (.getfield 450, 3) := by decide +kernel
theorem dX8_putSnapshot_42 : decode cX8_putSnapshot 42 = .ok (.iload_n 1, 1) := by decide +kernel
theorem dX8_putSnapshot_43 : decode cX8_putSnapshot 43 = .ok (.aload_n 0, 1) := by decide +kernel
theorem dX8_putSnapshot_44 : decode cX8_putSnapshot 44 = .ok (.getfield 60, 3) := by decide +kernel
theorem dX8_putSnapshot_47 : decode cX8_putSnapshot 47 = .ok (.bipush 17, 2) := by decide +kernel
theorem dX8_putSnapshot_49 : decode cX8_putSnapshot 49 = .ok (.invokestatic 453, 3) := by decide +kernel
theorem dX8_putSnapshot_52 : decode cX8_putSnapshot 52 = .ok (.lastore, 1) := by decide +kernel
theorem dX8_putSnapshot_53 : decode cX8_putSnapshot 53 = .ok (.aload_n 0, 1) := by decide +kernel
theorem dX8_putSnapshot_54 : decode cX8_putSnapshot 54 = .ok (.invokevirtual 112, 3) := by decide +kernel
theorem dX8_putSnapshot_57 : decode cX8_putSnapshot 57 = .ok (.ifCond .ge 5, 3) := by decide +kernel
theorem dX8_putSnapshot_60 : decode cX8_putSnapshot 60 = .ok (.iconst 0, 1) := by decide +kernel
theorem dX8_putSnapshot_61 : decode cX8_putSnapshot 61 = .ok (.ireturn, 1) := by decide +kernel
theorem dX8_putSnapshot_62 : decode cX8_putSnapshot 62 = .ok (.iinc 1 1, 3) := by decide +kernel
theorem dX8_putSnapshot_65 : decode cX8_putSnapshot 65 = .ok (.goto (-63), 3) := by decide +kernel
theorem dX8_putSnapshot_68 : decode cX8_putSnapshot 68 = .ok (.aload_n 0, 1) := by decide +kernel
theorem dX8_putSnapshot_69 : decode cX8_putSnapshot 69 = .ok (.getfield 31, 3) := by decide +kernel
theorem dX8_putSnapshot_72 : decode cX8_putSnapshot 72 = .ok (.iconst 5, 1) := by decide +kernel
theorem dX8_putSnapshot_73 : decode cX8_putSnapshot 73 = .ok (.aload_n 0, 1) := by decide +kernel
theorem dX8_putSnapshot_74 : decode cX8_putSnapshot 74 = .ok (.getfield 56, 3) := by decide +kernel
theorem dX8_putSnapshot_77 : decode cX8_putSnapshot 77 = .ok (.getfield 279, 3) := by decide +kernel
theorem dX8_putSnapshot_80 : decode cX8_putSnapshot 80 = .ok (.aload_n 0, 1) := by decide +kernel
theorem dX8_putSnapshot_81 : decode cX8_putSnapshot 81 = .ok (.getfield 56, 3) := by decide +kernel
theorem dX8_putSnapshot_84 : decode cX8_putSnapshot 84 = .ok (.getfield 440, 3) := by decide +kernel
theorem dX8_putSnapshot_87 : decode cX8_putSnapshot 87 = .ok (.aload_n 0, 1) := by decide +kernel
theorem dX8_putSnapshot_88 : decode cX8_putSnapshot 88 = .ok (.getfield 56, 3) := by decide +kernel
theorem dX8_putSnapshot_91 : decode cX8_putSnapshot 91 = .ok (.getfield 457, 3) := by decide +kernel
theorem dX8_putSnapshot_94 : decode cX8_putSnapshot 94 = .ok (.invokevirtual 377, 3) := by decide +kernel
theorem dX8_putSnapshot_97 : decode cX8_putSnapshot 97 = .ok (.ifCond .ne 5, 3) := by decide +kernel
theorem dX8_putSnapshot_100 : decode cX8_putSnapshot 100 = .ok (.iconst 0, 1) := by decide +kernel
theorem dX8_putSnapshot_101 : decode cX8_putSnapshot 101 = .ok (.ireturn, 1) := by decide +kernel
theorem dX8_putSnapshot_102 : decode cX8_putSnapshot 102 = .ok (.iconst 0, 1) := by decide +kernel
theorem dX8_putSnapshot_103 : decode cX8_putSnapshot 103 = .ok (.istore_n 1, 1) := by decide +kernel
theorem dX8_putSnapshot_104 : decode cX8_putSnapshot 104 = .ok (.iload_n 1, 1) := by decide +kernel
theorem dX8_putSnapshot_105 : decode cX8_putSnapshot 105 = .ok (.aload_n 0, 1) := by decide +kernel
theorem dX8_putSnapshot_106 : decode cX8_putSnapshot 106 = .ok (.getfield 56, 3) := by decide +kernel
theorem dX8_putSnapshot_109 : decode cX8_putSnapshot 109 = .ok (.getfield 440, 3) := by decide +kernel
theorem dX8_putSnapshot_112 : decode cX8_putSnapshot 112 = .ok (.if_icmp .ge 41, 3) := by decide +kernel
theorem dX8_putSnapshot_115 : decode cX8_putSnapshot 115 = .ok (.aload_n 0, 1) := by decide +kernel
theorem dX8_putSnapshot_116 : decode cX8_putSnapshot 116 = .ok (.getfield 31, 3) := by decide +kernel
theorem dX8_putSnapshot_119 : decode cX8_putSnapshot 119 = .ok (.iconst 3, 1) := by decide +kernel
theorem dX8_putSnapshot_120 : decode cX8_putSnapshot 120 = .ok (.aload_n 0, 1) := by decide +kernel
theorem dX8_putSnapshot_121 : decode cX8_putSnapshot 121 = .ok (.getfield 56, 3) := by decide +kernel
theorem dX8_putSnapshot_124 : decode cX8_putSnapshot 124 = .ok (.getfield 461, 3) := by decide +kernel
theorem dX8_putSnapshot_127 : decode cX8_putSnapshot 127 = .ok (.iload_n 1, 1) := by decide +kernel
theorem dX8_putSnapshot_128 : decode cX8_putSnapshot 128 = .ok (.iaload, 1) := by decide +kernel
theorem dX8_putSnapshot_129 : decode cX8_putSnapshot 129 = .ok (.iconst 0, 1) := by decide +kernel
theorem dX8_putSnapshot_130 : decode cX8_putSnapshot 130 = .ok (.aload_n 0, 1) := by decide +kernel
theorem dX8_putSnapshot_131 : decode cX8_putSnapshot 131 = .ok (.getfield 56, 3) := by decide +kernel
theorem dX8_putSnapshot_134 : decode cX8_putSnapshot 134 = .ok (.getfield 450, 3) := by decide +kernel
theorem dX8_putSnapshot_137 : decode cX8_putSnapshot 137 = .ok (.iload_n 1, 1) := by decide +kernel
theorem dX8_putSnapshot_138 : decode cX8_putSnapshot 138 = .ok (.laload, 1) := by decide +kernel
theorem dX8_putSnapshot_139 : decode cX8_putSnapshot 139 = .ok (.invokevirtual 377, 3) := by decide +kernel
theorem dX8_putSnapshot_142 : decode cX8_putSnapshot 142 = .ok (.ifCond .ne 5, 3) := by decide +kernel
theorem dX8_putSnapshot_145 : decode cX8_putSnapshot 145 = .ok (.iconst 0, 1) := by decide +kernel
theorem dX8_putSnapshot_146 : decode cX8_putSnapshot 146 = .ok (.ireturn, 1) := by decide +kernel
theorem dX8_putSnapshot_147 : decode cX8_putSnapshot 147 = .ok (.iinc 1 1, 3) := by decide +kernel
theorem dX8_putSnapshot_150 : decode cX8_putSnapshot 150 = .ok (.goto (-46), 3) := by decide +kernel
theorem dX8_putSnapshot_153 : decode cX8_putSnapshot 153 = .ok (.aload_n 0, 1) := by decide +kernel
theorem dX8_putSnapshot_154 : decode cX8_putSnapshot 154 = .ok (.getfield 40, 3) := by decide +kernel
theorem dX8_putSnapshot_157 : decode cX8_putSnapshot 157 = .ok (.invokevirtual 380, 3) := by decide +kernel
theorem dX8_putSnapshot_160 : decode cX8_putSnapshot 160 = .ok (.iconst 1, 1) := by decide +kernel
theorem dX8_putSnapshot_161 : decode cX8_putSnapshot 161 = .ok (.ireturn, 1) := by decide +kernel
