theorem dX1_setLow_0 : decode cX1_setLow 0 = .ok (.aload_n 0, 1) := by decide +kernel
theorem dX1_setLow_1 : decode cX1_setLow 1 = .ok (.getfield 15, 3) := by decide +kernel
theorem dX1_setLow_4 : decode cX1_setLow 4 = .ok (.iload_n 1, 1) := by decide +kernel
theorem dX1_setLow_5 : decode cX1_setLow 5 = .ok (.iload_n 2, 1) := by decide +kernel
theorem dX1_setLow_6 : decode cX1_setLow 6 = .ok (.i2b, 1) := by decide +kernel
theorem dX1_setLow_7 : decode cX1_setLow 7 = .ok (.bastore, 1) := by decide +kernel
theorem dX1_setLow_8 : decode cX1_setLow 8 = .ok (.iload_n 1, 1) := by decide +kernel
theorem dX1_setLow_9 : decode cX1_setLow 9 = .ok (.bipush 32, 2) := by decide +kernel
theorem dX1_setLow_11 : decode cX1_setLow 11 = .ok (.if_icmp .lt 16, 3) := by decide +kernel
theorem dX1_setLow_14 : decode cX1_setLow 14 = .ok (.aload_n 0, 1) := by decide +kernel
theorem dX1_setLow_15 : decode cX1_setLow 15 = .ok (.getfield 19, 3) := by decide +kernel
theorem dX1_setLow_18 : decode cX1_setLow 18 = .ok (.iload_n 1, 1) := by decide +kernel
theorem dX1_setLow_19 : decode cX1_setLow 19 = .ok (.bipush 32, 2) := by decide +kernel
theorem dX1_setLow_21 : decode cX1_setLow 21 = .ok (.isub, 1) := by decide +kernel
theorem dX1_setLow_22 : decode cX1_setLow 22 = .ok (.bipush 32, 2) := by decide +kernel
theorem dX1_setLow_24 : decode cX1_setLow 24 = .ok (.idiv, 1) := by decide +kernel
theorem dX1_setLow_25 : decode cX1_setLow 25 = .ok (.iconst 0, 1) := by decide +kernel
theorem dX1_setLow_26 : decode cX1_setLow 26 = .ok (.bastore, 1) := by decide +kernel
theorem dX1_setLow_27 : decode cX1_setLow 27 = .ok (.return_, 1) := by decide +kernel
theorem dX1_act_0 : decode cX1_act 0 = .ok (.aload_n 0, 1) := by decide +kernel
theorem dX1_act_1 : decode cX1_act 1 = .ok (.getfield 29, 3) := by decide +kernel
theorem dX1_act_4 : decode cX1_act 4 = .ok (.ifCond .ne 5, 3) := by decide +kernel
theorem dX1_act_7 : decode cX1_act 7 = .ok (.iconst 0, 1) := by decide +kernel
theorem dX1_act_8 : decode cX1_act 8 = .ok (.ireturn, 1) := by decide +kernel
theorem dX1_act_9 : decode cX1_act 9 = .ok (.aload_n 0, 1) := by decide +kernel
theorem dX1_act_10 : decode cX1_act 10 = .ok (.getfield 33, 3) := by decide +kernel
theorem dX1_act_13 : decode cX1_act 13 = .ok (.ifCond .ne 15, 3) := by decide +kernel
theorem dX1_act_16 : decode cX1_act 16 = .ok (.aload_n 0, 1) := by decide +kernel
theorem dX1_act_17 : decode cX1_act 17 = .ok (.iconst 0, 1) := by decide +kernel
theorem dX1_act_18 : decode cX1_act 18 = .ok (.putfield 29, 3) := by decide +kernel
theorem dX1_act_21 : decode cX1_act 21 = .ok (.aload_n 0, 1) := by decide +kernel
theorem dX1_act_22 : decode cX1_act 22 = .ok (.iconst (-1), 1) := by decide +kernel
theorem dX1_act_23 : decode cX1_act 23 = .ok (.putfield 33, 3) := by decide +kernel
theorem dX1_act_26 : decode cX1_act 26 = .ok (.iconst 0, 1) := by decide +kernel
theorem dX1_act_27 : decode cX1_act 27 = .ok (.ireturn, 1) := by decide +kernel
theorem dX1_act_28 : decode cX1_act 28 = .ok (.aload_n 0, 1) := by decide +kernel
theorem dX1_act_29 : decode cX1_act 29 = .ok (.getfield 33, 3) := by decide +kernel
theorem dX1_act_32 : decode cX1_act 32 = .ok (.ifCond .le 13, 3) := by decide +kernel
theorem dX1_act_35 : decode cX1_act 35 = .ok (.aload_n 0, 1) := by decide +kernel
theorem dX1_act_36 : decode cX1_act 36 = .ok (.dup, 1) := by decide +kernel
theorem dX1_act_37 : decode cX1_act 37 = .ok (.getfield 33, 3) := by decide +kernel
theorem dX1_act_40 : decode cX1_act 40 = .ok (.iconst 1, 1) := by decide +kernel
theorem dX1_act_41 : decode cX1_act 41 = .ok (.isub, 1) := by decide +kernel
theorem dX1_act_42 : decode cX1_act 42 = .ok (.putfield 33, 3) := by decide +kernel
theorem dX1_act_45 : decode cX1_act 45 = .ok (.aload_n 0, 1) := by decide +kernel
theorem dX1_act_46 : decode cX1_act 46 = .ok (.dup, 1) := by decide +kernel
theorem dX1_act_47 : decode cX1_act 47 = .ok (.getfield 36, 3) := by decide +kernel
theorem dX1_act_50 : decode cX1_act 50 = .ok (.iconst 1, 1) := by decide +kernel
theorem dX1_act_51 : decode cX1_act 51 = .ok (.iadd, 1) := by decide +kernel
theorem dX1_act_52 : decode cX1_act 52 = .ok (.putfield 36, 3) := by decide +kernel
theorem dX1_act_55 : decode cX1_act 55 = .ok (.iconst 1, 1) := by decide +kernel
theorem dX1_act_56 : decode cX1_act 56 = .ok (.ireturn, 1) := by decide +kernel
theorem dX1_writeLow_0 : decode cX1_writeLow 0 = .ok (.iconst 0, 1) := by decide +kernel
theorem dX1_writeLow_1 : decode cX1_writeLow 1 = .ok (.istore 4, 2) := by decide +kernel
theorem dX1_writeLow_3 : decode cX1_writeLow 3 = .ok (.iload 4, 2) := by decide +kernel
theorem dX1_writeLow_5 : decode cX1_writeLow 5 = .ok (.iload_n 3, 1) := by decide +kernel
theorem dX1_writeLow_6 : decode cX1_writeLow 6 = .ok (.if_icmp .ge 30, 3) := by decide +kernel
theorem dX1_writeLow_9 : decode cX1_writeLow 9 = .ok (.aload_n 0, 1) := by decide +kernel
theorem dX1_writeLow_10 : decode cX1_writeLow 10 = .ok (.invokevirtual 58, 3) := by decide +kernel
theorem dX1_writeLow_13 : decode cX1_writeLow 13 = .ok (.ifCond .ne 5, 3) := by decide +kernel
theorem dX1_writeLow_16 : decode cX1_writeLow 16 = .ok (.iconst 0, 1) := by decide +kernel
theorem dX1_writeLow_17 : decode cX1_writeLow 17 = .ok (.ireturn, 1) := by decide +kernel
theorem dX1_writeLow_18 : decode cX1_writeLow 18 = .ok (.aload_n 0, 1) := by decide +kernel
theorem dX1_writeLow_19 : decode cX1_writeLow 19 = .ok (.iload_n 1, 1) := by decide +kernel
theorem dX1_writeLow_20 : decode cX1_writeLow 20 = .ok (.iload 4, 2) := by decide +kernel
theorem dX1_writeLow_22 : decode cX1_writeLow 22 = .ok (.iadd, 1) := by decide +kernel
theorem dX1_writeLow_23 : decode cX1_writeLow 23 = .ok (.aload_n 2, 1) := by decide +kernel
theorem dX1_writeLow_24 : decode cX1_writeLow 24 = .ok (.iload 4, 2) := by decide +kernel
theorem dX1_writeLow_26 : decode cX1_writeLow 26 = .ok (.baload, 1) := by decide +kernel
theorem dX1_writeLow_27 : decode cX1_writeLow 27 = .ok (.invokevirtual 48, 3) := by decide +kernel
theorem dX1_writeLow_30 : decode cX1_writeLow 30 = .ok (.iinc 4 1, 3) := by decide +kernel
theorem dX1_writeLow_33 : decode cX1_writeLow 33 = .ok (.goto (-30), 3) := by decide +kernel
theorem dX1_writeLow_36 : decode cX1_writeLow 36 = .ok (.iconst 1, 1) := by decide +kernel
theorem dX1_writeLow_37 : decode cX1_writeLow 37 = .ok (.ireturn, 1) := by decide +kernel
theorem dX1_sealLow_0 : decode cX1_sealLow 0 = .ok (.aload_n 0, 1) := by decide +kernel
theorem dX1_sealLow_1 : decode cX1_sealLow 1 = .ok (.invokevirtual 58, 3) := by decide +kernel
theorem dX1_sealLow_4 : decode cX1_sealLow 4 = .ok (.ifCond .ne 5, 3) := by decide +kernel
theorem dX1_sealLow_7 : decode cX1_sealLow 7 = .ok (.iconst 0, 1) := by decide +kernel
theorem dX1_sealLow_8 : decode cX1_sealLow 8 = .ok (.ireturn, 1) := by decide +kernel
theorem dX1_sealLow_9 : decode cX1_sealLow 9 = .ok (.aload_n 0, 1) := by decide +kernel
theorem dX1_sealLow_10 : decode cX1_sealLow 10 = .ok (.iload_n 1, 1) := by decide +kernel
theorem dX1_sealLow_11 : decode cX1_sealLow 11 = .ok (.sipush 165, 3) := by decide +kernel
theorem dX1_sealLow_14 : decode cX1_sealLow 14 = .ok (.invokevirtual 48, 3) := by decide +kernel
theorem dX1_sealLow_17 : decode cX1_sealLow 17 = .ok (.iconst 1, 1) := by decide +kernel
theorem dX1_sealLow_18 : decode cX1_sealLow 18 = .ok (.ireturn, 1) := by decide +kernel
theorem dX1_eraseHead_0 : decode cX1_eraseHead 0 = .ok (.aload_n 0, 1) := by decide +kernel
theorem dX1_eraseHead_1 : decode cX1_eraseHead 1 = .ok (.invokevirtual 58, 3) := by decide +kernel
theorem dX1_eraseHead_4 : decode cX1_eraseHead 4 = .ok (.ifCond .ne 5, 3) := by decide +kernel
theorem dX1_eraseHead_7 : decode cX1_eraseHead 7 = .ok (.iconst 0, 1) := by decide +kernel
theorem dX1_eraseHead_8 : decode cX1_eraseHead 8 = .ok (.ireturn, 1) := by decide +kernel
theorem dX1_eraseHead_9 : decode cX1_eraseHead 9 = .ok (.iconst 0, 1) := by decide +kernel
theorem dX1_eraseHead_10 : decode cX1_eraseHead 10 = .ok (.istore_n 2, 1) := by decide +kernel
theorem dX1_eraseHead_11 : decode cX1_eraseHead 11 = .ok (.iload_n 2, 1) := by decide +kernel
theorem dX1_eraseHead_12 : decode cX1_eraseHead 12 = .ok (.bipush 16, 2) := by decide +kernel
theorem dX1_eraseHead_14 : decode cX1_eraseHead 14 = .ok (.if_icmp .ge 21, 3) := by decide +kernel
theorem dX1_eraseHead_17 : decode cX1_eraseHead 17 = .ok (.aload_n 0, 1) := by decide +kernel
theorem dX1_eraseHead_18 : decode cX1_eraseHead 18 = .ok (.getfield 15, 3) := by decide +kernel
theorem dX1_eraseHead_21 : decode cX1_eraseHead 21 = .ok (.bipush 16, 2) := by decide +kernel
theorem dX1_eraseHead_23 : decode cX1_eraseHead 23 = .ok (.iload_n 1, 1) := by decide +kernel
theorem dX1_eraseHead_24 : decode cX1_eraseHead 24 = .ok (.imul, 1) := by decide +kernel
theorem dX1_eraseHead_25 : decode cX1_eraseHead 25 = .ok (.iload_n 2, 1) := by decide +kernel
theorem dX1_eraseHead_26 : decode cX1_eraseHead 26 = .ok (.iadd, 1) := by decide +kernel
theorem dX1_eraseHead_27 : decode cX1_eraseHead 27 = .ok (.iconst 0, 1) := by decide +kernel
theorem dX1_eraseHead_28 : decode cX1_eraseHead 28 = .ok (.bastore, 1) := by decide +kernel
theorem dX1_eraseHead_29 : decode cX1_eraseHead 29 = .ok (.iinc 2 1, 3) := by decide +kernel
theorem dX1_eraseHead_32 : decode cX1_eraseHead 32 = .ok (.goto (-21), 3) := by decide +kernel
theorem dX1_eraseHead_35 : decode cX1_eraseHead 35 = .ok (.iconst 1, 1) := by decide +kernel
theorem dX1_eraseHead_36 : decode cX1_eraseHead 36 = .ok (.ireturn, 1) := by decide +kernel
theorem dX1_eraseRows_0 : decode cX1_eraseRows 0 = .ok (.aload_n 0, 1) := by decide +kernel
theorem dX1_eraseRows_1 : decode cX1_eraseRows 1 = .ok (.invokevirtual 58, 3) := by decide +kernel
theorem dX1_eraseRows_4 : decode cX1_eraseRows 4 = .ok (.ifCond .ne 5, 3) := by decide +kernel
theorem dX1_eraseRows_7 : decode cX1_eraseRows 7 = .ok (.iconst 0, 1) := by decide +kernel
theorem dX1_eraseRows_8 : decode cX1_eraseRows 8 = .ok (.ireturn, 1) := by decide +kernel
theorem dX1_eraseRows_9 : decode cX1_eraseRows 9 = .ok (.sipush 128, 3) := by decide +kernel
theorem dX1_eraseRows_12 : decode cX1_eraseRows 12 = .ok (.iload_n 1, 1) := by decide +kernel
theorem dX1_eraseRows_13 : decode cX1_eraseRows 13 = .ok (.imul, 1) := by decide +kernel
theorem dX1_eraseRows_14 : decode cX1_eraseRows 14 = .ok (.iload_n 2, 1) := by decide +kernel
theorem dX1_eraseRows_15 : decode cX1_eraseRows 15 = .ok (.iadd, 1) := by decide +kernel
theorem dX1_eraseRows_16 : decode cX1_eraseRows 16 = .ok (.istore 4, 2) := by decide +kernel
theorem dX1_eraseRows_18 : decode cX1_eraseRows 18 = .ok (.bipush 32, 2) := by decide +kernel
theorem dX1_eraseRows_20 : decode cX1_eraseRows 20 = .ok (.bipush 32, 2) := by decide +kernel
theorem dX1_eraseRows_22 : decode cX1_eraseRows 22 = .ok (.iload 4, 2) := by decide +kernel
theorem dX1_eraseRows_24 : decode cX1_eraseRows 24 = .ok (.imul, 1) := by decide +kernel
theorem dX1_eraseRows_25 : decode cX1_eraseRows 25 = .ok (.iadd, 1) := by decide +kernel
theorem dX1_eraseRows_26 : decode cX1_eraseRows 26 = .ok (.istore 5, 2) := by decide +kernel
theorem dX1_eraseRows_28 : decode cX1_eraseRows 28 = .ok (.iconst 0, 1) := by decide +kernel
theorem dX1_eraseRows_29 : decode cX1_eraseRows 29 = .ok (.istore 6, 2) := by decide +kernel
theorem dX1_eraseRows_31 : decode cX1_eraseRows 31 = .ok (.iload 6, 2) := by decide +kernel
theorem dX1_eraseRows_33 : decode cX1_eraseRows 33 = .ok (.bipush 32, 2) := by decide +kernel
theorem dX1_eraseRows_35 : decode cX1_eraseRows 35 = .ok (.iload_n 3, 1) := by decide +kernel
theorem dX1_eraseRows_36 : decode cX1_eraseRows 36 = .ok (.imul, 1) := by decide +kernel
theorem dX1_eraseRows_37 : decode cX1_eraseRows 37 = .ok (.if_icmp .ge 20, 3) := by decide +kernel
theorem dX1_eraseRows_40 : decode cX1_eraseRows 40 = .ok (.aload_n 0, 1) := by decide +kernel
theorem dX1_eraseRows_41 : decode cX1_eraseRows 41 = .ok (.getfield 15, 3) := by decide +kernel
theorem dX1_eraseRows_44 : decode cX1_eraseRows 44 = .ok (.iload 5, 2) := by decide +kernel
theorem dX1_eraseRows_46 : decode cX1_eraseRows 46 = .ok (.iload 6, 2) := by decide +kernel
theorem dX1_eraseRows_48 : decode cX1_eraseRows 48 = .ok (.iadd, 1) := by decide +kernel
theorem dX1_eraseRows_49 : decode cX1_eraseRows 49 = .ok (.iconst 0, 1) := by decide +kernel
theorem dX1_eraseRows_50 : decode cX1_eraseRows 50 = .ok (.bastore, 1) := by decide +kernel
theorem dX1_eraseRows_51 : decode cX1_eraseRows 51 = .ok (.iinc 6 1, 3) := by decide +kernel
theorem dX1_eraseRows_54 : decode cX1_eraseRows 54 = .ok (.goto (-23), 3) := by decide +kernel
theorem dX1_eraseRows_57 : decode cX1_eraseRows 57 = .ok (.iconst 0, 1) := by decide +kernel
theorem dX1_eraseRows_58 : decode cX1_eraseRows 58 = .ok (.istore 6, 2) := by decide +kernel
theorem dX1_eraseRows_60 : decode cX1_eraseRows 60 = .ok (.iload 6, 2) := by decide +kernel
theorem dX1_eraseRows_62 : decode cX1_eraseRows 62 = .ok (.iload_n 3, 1) := by decide +kernel
theorem dX1_eraseRows_63 : decode cX1_eraseRows 63 = .ok (.if_icmp .ge 20, 3) := by decide +kernel
theorem dX1_eraseRows_66 : decode cX1_eraseRows 66 = .ok (.aload_n 0, 1) := by decide +kernel
theorem dX1_eraseRows_67 : decode cX1_eraseRows 67 = .ok (.getfield 19, 3) := by decide +kernel
theorem dX1_eraseRows_70 : decode cX1_eraseRows 70 = .ok (.iload 4, 2) := by decide +kernel
theorem dX1_eraseRows_72 : decode cX1_eraseRows 72 = .ok (.iload 6, 2) := by decide +kernel
theorem dX1_eraseRows_74 : decode cX1_eraseRows 74 = .ok (.iadd, 1) := by decide +kernel
theorem dX1_eraseRows_75 : decode cX1_eraseRows 75 = .ok (.iconst 1, 1) := by decide +kernel
theorem dX1_eraseRows_76 : decode cX1_eraseRows 76 = .ok (.bastore, 1) := by decide +kernel
theorem dX1_eraseRows_77 : decode cX1_eraseRows 77 = .ok (.iinc 6 1, 3) := by decide +kernel
theorem dX1_eraseRows_80 : decode cX1_eraseRows 80 = .ok (.goto (-20), 3) := by decide +kernel
theorem dX1_eraseRows_83 : decode cX1_eraseRows 83 = .ok (.iconst 1, 1) := by decide +kernel
theorem dX1_eraseRows_84 : decode cX1_eraseRows 84 = .ok (.ireturn, 1) := by decide +kernel
theorem dX1_rowState_0 : decode cX1_rowState 0 = .ok (.sipush 128, 3) := by decide +kernel
theorem dX1_rowState_3 : decode cX1_rowState 3 = .ok (.iload_n 1, 1) := by decide +kernel
theorem dX1_rowState_4 : decode cX1_rowState 4 = .ok (.imul, 1) := by decide +kernel
theorem dX1_rowState_5 : decode cX1_rowState 5 = .ok (.iload_n 2, 1) := by decide +kernel
theorem dX1_rowState_6 : decode cX1_rowState 6 = .ok (.iadd, 1) := by decide +kernel
theorem dX1_rowState_7 : decode cX1_rowState 7 = .ok (.istore_n 3, 1) := by decide +kernel
theorem dX1_rowState_8 : decode cX1_rowState 8 = .ok (.aload_n 0, 1) := by decide +kernel
theorem dX1_rowState_9 : decode cX1_rowState 9 = .ok (.getfield 19, 3) := by decide +kernel
theorem dX1_rowState_12 : decode cX1_rowState 12 = .ok (.iload_n 3, 1) := by decide +kernel
theorem dX1_rowState_13 : decode cX1_rowState 13 = .ok (.baload, 1) := by decide +kernel
theorem dX1_rowState_14 : decode cX1_rowState 14 = .ok (.ifCond .ne 27, 3) := by decide +kernel
theorem dX1_rowState_17 : decode cX1_rowState 17 = .ok (.aload_n 0, 1) := by decide +kernel
theorem dX1_rowState_18 : decode cX1_rowState 18 = .ok (.getfield 19, 3) := by decide +kernel
theorem dX1_rowState_21 : decode cX1_rowState 21 = .ok (.iload_n 3, 1) := by decide +kernel
theorem dX1_rowState_22 : decode cX1_rowState 22 = .ok (.aload_n 0, 1) := by decide +kernel
theorem dX1_rowState_23 : decode cX1_rowState 23 = .ok (.getfield 15, 3) := by decide +kernel
theorem dX1_rowState_26 : decode cX1_rowState 26 = .ok (.bipush 32, 2) := by decide +kernel
theorem dX1_rowState_28 : decode cX1_rowState 28 = .ok (.bipush 32, 2) := by decide +kernel
theorem dX1_rowState_30 : decode cX1_rowState 30 = .ok (.iload_n 3, 1) := by decide +kernel
theorem dX1_rowState_31 : decode cX1_rowState 31 = .ok (.imul, 1) := by decide +kernel
theorem dX1_rowState_32 : decode cX1_rowState 32 = .ok (.iadd, 1) := by decide +kernel
theorem dX1_rowState_33 : decode cX1_rowState 33 = .ok (.bipush 23, 2) := by decide +kernel
theorem dX1_rowState_35 : decode cX1_rowState 35 = .ok (.iconst 2, 1) := by decide +kernel
theorem dX1_rowState_36 : decode cX1_rowState 36 = .ok (.invokestatic 62, 3) := by decide +kernel
theorem dX1_rowState_39 : decode cX1_rowState 39 = .ok (.i2b, 1) := by decide +kernel
theorem dX1_rowState_40 : decode cX1_rowState 40 = .ok (.bastore, 1) := by decide +kernel
theorem dX1_rowState_41 : decode cX1_rowState 41 = .ok (.aload_n 0, 1) := by decide +kernel
theorem dX1_rowState_42 : decode cX1_rowState 42 = .ok (.getfield 19, 3) := by decide +kernel
theorem dX1_rowState_45 : decode cX1_rowState 45 = .ok (.iload_n 3, 1) := by decide +kernel
theorem dX1_rowState_46 : decode cX1_rowState 46 = .ok (.baload, 1) := by decide +kernel
theorem dX1_rowState_47 : decode cX1_rowState 47 = .ok (.ireturn, 1) := by decide +kernel
theorem dX4_place_0 : decode cX4_place 0 = .ok (.bipush 32, 2) := by decide +kernel
theorem dX4_place_2 : decode cX4_place 2 = .ok (.sipush 4096, 3) := by decide +kernel
theorem dX4_place_5 : decode cX4_place 5 = .ok (.aload_n 0, 1) := by decide +kernel
theorem dX4_place_6 : decode cX4_place 6 = .ok (.getfield 19, 3) := by decide +kernel
theorem dX4_place_9 : decode cX4_place 9 = .ok (.imul, 1) := by decide +kernel
theorem dX4_place_10 : decode cX4_place 10 = .ok (.iadd, 1) := by decide +kernel
theorem dX4_place_11 : decode cX4_place 11 = .ok (.bipush 32, 2) := by decide +kernel
theorem dX4_place_13 : decode cX4_place 13 = .ok (.iload_n 1, 1) := by decide +kernel
theorem dX4_place_14 : decode cX4_place 14 = .ok (.imul, 1) := by decide +kernel
theorem dX4_place_15 : decode cX4_place 15 = .ok (.iadd, 1) := by decide +kernel
theorem dX4_place_16 : decode cX4_place 16 = .ok (.ireturn, 1) := by decide +kernel
theorem dX4_kind_0 : decode cX4_kind 0 = .ok (.aload_n 0, 1) := by decide +kernel
theorem dX4_kind_1 : decode cX4_kind 1 = .ok (.getfield 9, 3) := by decide +kernel
theorem dX4_kind_4 : decode cX4_kind 4 = .ok (.getfield 36, 3) := by decide +kernel
theorem dX4_kind_7 : decode cX4_kind 7 = .ok (.aload_n 0, 1) := by decide +kernel
theorem dX4_kind_8 : decode cX4_kind 8 = .ok (.iload_n 1, 1) := by decide +kernel
theorem dX4_kind_9 : decode cX4_kind 9 = .ok (.invokevirtual 47, 3) := by decide +kernel
theorem dX4_kind_12 : decode cX4_kind 12 = .ok (.baload, 1) := by decide +kernel
theorem dX4_kind_13 : decode cX4_kind 13 = .ok (.sipush 255, 3) := by decide +kernel
theorem dX4_kind_16 : decode cX4_kind 16 = .ok (.iand, 1) := by decide +kernel
theorem dX4_kind_17 : decode cX4_kind 17 = .ok (.ireturn, 1) := by decide +kernel
theorem dX4_a_0 : decode cX4_a 0 = .ok (.aload_n 0, 1) := by decide +kernel
theorem dX4_a_1 : decode cX4_a 1 = .ok (.getfield 9, 3) := by decide +kernel
theorem dX4_a_4 : decode cX4_a 4 = .ok (.getfield 36, 3) := by decide +kernel
theorem dX4_a_7 : decode cX4_a 7 = .ok (.aload_n 0, 1) := by decide +kernel
theorem dX4_a_8 : decode cX4_a 8 = .ok (.iload_n 1, 1) := by decide +kernel
theorem dX4_a_9 : decode cX4_a 9 = .ok (.invokevirtual 47, 3) := by decide +kernel
theorem dX4_a_12 : decode cX4_a 12 = .ok (.iconst 1, 1) := by decide +kernel
theorem dX4_a_13 : decode cX4_a 13 = .ok (.iadd, 1) := by decide +kernel
theorem dX4_a_14 : decode cX4_a 14 = .ok (.invokestatic 51, 3) := by decide +kernel
theorem dX4_a_17 : decode cX4_a 17 = .ok (.ireturn, 1) := by decide +kernel
theorem dX4_b_0 : decode cX4_b 0 = .ok (.aload_n 0, 1) := by decide +kernel
theorem dX4_b_1 : decode cX4_b 1 = .ok (.getfield 9, 3) := by decide +kernel
theorem dX4_b_4 : decode cX4_b 4 = .ok (.getfield 36, 3) := by decide +kernel
theorem dX4_b_7 : decode cX4_b 7 = .ok (.aload_n 0, 1) := by decide +kernel
theorem dX4_b_8 : decode cX4_b 8 = .ok (.iload_n 1, 1) := by decide +kernel
theorem dX4_b_9 : decode cX4_b 9 = .ok (.invokevirtual 47, 3) := by decide +kernel
theorem dX4_b_12 : decode cX4_b 12 = .ok (.iconst 5, 1) := by decide +kernel
theorem dX4_b_13 : decode cX4_b 13 = .ok (.iadd, 1) := by decide +kernel
theorem dX4_b_14 : decode cX4_b 14 = .ok (.invokestatic 51, 3) := by decide +kernel
theorem dX4_b_17 : decode cX4_b 17 = .ok (.ireturn, 1) := by decide +kernel
theorem dX4_c_0 : decode cX4_c 0 = .ok (.aload_n 0, 1) := by decide +kernel
theorem dX4_c_1 : decode cX4_c 1 = .ok (.getfield 9, 3) := by decide +kernel
theorem dX4_c_4 : decode cX4_c 4 = .ok (.getfield 36, 3) := by decide +kernel
theorem dX4_c_7 : decode cX4_c 7 = .ok (.aload_n 0, 1) := by decide +kernel
theorem dX4_c_8 : decode cX4_c 8 = .ok (.iload_n 1, 1) := by decide +kernel
theorem dX4_c_9 : decode cX4_c 9 = .ok (.invokevirtual 47, 3) := by decide +kernel
theorem dX4_c_12 : decode cX4_c 12 = .ok (.bipush 9, 2) := by decide +kernel
theorem dX4_c_14 : decode cX4_c 14 = .ok (.iadd, 1) := by decide +kernel
theorem dX4_c_15 : decode cX4_c 15 = .ok (.invokestatic 57, 3) := by decide +kernel
theorem dX4_c_18 : decode cX4_c 18 = .ok (.lreturn, 1) := by decide +kernel
theorem dX4_state_0 : decode cX4_state 0 = .ok (.aload_n 0, 1) := by decide +kernel
theorem dX4_state_1 : decode cX4_state 1 = .ok (.getfield 9, 3) := by decide +kernel
theorem dX4_state_4 : decode cX4_state 4 = .ok (.aload_n 0, 1) := by decide +kernel
theorem dX4_state_5 : decode cX4_state 5 = .ok (.getfield 19, 3) := by decide +kernel
theorem dX4_state_8 : decode cX4_state 8 = .ok (.iload_n 1, 1) := by decide +kernel
theorem dX4_state_9 : decode cX4_state 9 = .ok (.invokevirtual 61, 3) := by decide +kernel
theorem dX4_state_12 : decode cX4_state 12 = .ok (.ireturn, 1) := by decide +kernel
theorem dX4_inNeed_0 : decode cX4_inNeed 0 = .ok (.aload_n 0, 1) := by decide +kernel
theorem dX4_inNeed_1 : decode cX4_inNeed 1 = .ok (.getfield 29, 3) := by decide +kernel
theorem dX4_inNeed_4 : decode cX4_inNeed 4 = .ok (.ifCond .le 7, 3) := by decide +kernel
theorem dX4_inNeed_7 : decode cX4_inNeed 7 = .ok (.iconst 1, 1) := by decide +kernel
theorem dX4_inNeed_8 : decode cX4_inNeed 8 = .ok (.goto 4, 3) := by decide +kernel
theorem dX4_inNeed_11 : decode cX4_inNeed 11 = .ok (.iconst 0, 1) := by decide +kernel
theorem dX4_inNeed_12 : decode cX4_inNeed 12 = .ok (.ireturn, 1) := by decide +kernel
theorem dX4_draw_0 : decode cX4_draw 0 = .ok (.iconst 0, 1) := by decide +kernel
theorem dX4_draw_1 : decode cX4_draw 1 = .ok (.istore 6, 2) := by decide +kernel
theorem dX4_draw_3 : decode cX4_draw 3 = .ok (.iload 6, 2) := by decide +kernel
theorem dX4_draw_5 : decode cX4_draw 5 = .ok (.bipush 23, 2) := by decide +kernel
theorem dX4_draw_7 : decode cX4_draw 7 = .ok (.if_icmp .ge 17, 3) := by decide +kernel
theorem dX4_draw_10 : decode cX4_draw 10 = .ok (.aload_n 0, 1) := by decide +kernel
theorem dX4_draw_11 : decode cX4_draw 11 = .ok (.getfield 15, 3) := by decide +kernel
theorem dX4_draw_14 : decode cX4_draw 14 = .ok (.iload 6, 2) := by decide +kernel
theorem dX4_draw_16 : decode cX4_draw 16 = .ok (.iconst 0, 1) := by decide +kernel
theorem dX4_draw_17 : decode cX4_draw 17 = .ok (.bastore, 1) := by decide +kernel
theorem dX4_draw_18 : decode cX4_draw 18 = .ok (.iinc 6 1, 3) := by decide +kernel
theorem dX4_draw_21 : decode cX4_draw 21 = .ok (.goto (-18), 3) := by decide +kernel
theorem dX4_draw_24 : decode cX4_draw 24 = .ok (.aload_n 0, 1) := by decide +kernel
theorem dX4_draw_25 : decode cX4_draw 25 = .ok (.getfield 15, 3) := by decide +kernel
theorem dX4_draw_28 : decode cX4_draw 28 = .ok (.iconst 0, 1) := by decide +kernel
theorem dX4_draw_29 : decode cX4_draw 29 = .ok (.iload_n 1, 1) := by decide +kernel
theorem dX4_draw_30 : decode cX4_draw 30 = .ok (.i2b, 1) := by decide +kernel
theorem dX4_draw_31 : decode cX4_draw 31 = .ok (.bastore, 1) := by decide +kernel
theorem dX4_draw_32 : decode cX4_draw 32 = .ok (.aload_n 0, 1) := by decide +kernel
theorem dX4_draw_33 : decode cX4_draw 33 = .ok (.getfield 15, 3) := by decide +kernel
theorem dX4_draw_36 : decode cX4_draw 36 = .ok (.iconst 1, 1) := by decide +kernel
theorem dX4_draw_37 : decode cX4_draw 37 = .ok (.iload_n 2, 1) := by decide +kernel
theorem dX4_draw_38 : decode cX4_draw 38 = .ok (.invokestatic 65, 3) := by decide +kernel
theorem dX4_draw_41 : decode cX4_draw 41 = .ok (.aload_n 0, 1) := by decide +kernel
theorem dX4_draw_42 : decode cX4_draw 42 = .ok (.getfield 15, 3) := by decide +kernel
theorem dX4_draw_45 : decode cX4_draw 45 = .ok (.iconst 5, 1) := by decide +kernel
theorem dX4_draw_46 : decode cX4_draw 46 = .ok (.iload_n 3, 1) := by decide +kernel
theorem dX4_draw_47 : decode cX4_draw 47 = .ok (.invokestatic 65, 3) := by decide +kernel
theorem dX4_draw_50 : decode cX4_draw 50 = .ok (.aload_n 0, 1) := by decide +kernel
theorem dX4_draw_51 : decode cX4_draw 51 = .ok (.getfield 15, 3) := by decide +kernel
theorem dX4_draw_54 : decode cX4_draw 54 = .ok (.bipush 9, 2) := by decide +kernel
theorem dX4_draw_56 : decode cX4_draw 56 = .ok (.lload 4, 2) := by decide +kernel
theorem dX4_draw_58 : decode cX4_draw 58 = .ok (.invokestatic 69, 3) := by decide +kernel
theorem dX4_draw_61 : decode cX4_draw 61 = .ok (.aload_n 0, 1) := by decide +kernel
theorem dX4_draw_62 : decode cX4_draw 62 = .ok (.getfield 15, 3) := by decide +kernel
theorem dX4_draw_65 : decode cX4_draw 65 = .ok (.bipush 23, 2) := by decide +kernel
theorem dX4_draw_67 : decode cX4_draw 67 = .ok (.iconst 2, 1) := by decide +kernel
theorem dX4_draw_68 : decode cX4_draw 68 = .ok (.invokestatic 73, 3) := by decide +kernel
theorem dX4_draw_71 : decode cX4_draw 71 = .ok (.return_, 1) := by decide +kernel
theorem dX4_drawHead_0 : decode cX4_drawHead 0 = .ok (.aload_n 0, 1) := by decide +kernel
theorem dX4_drawHead_1 : decode cX4_drawHead 1 = .ok (.getfield 15, 3) := by decide +kernel
theorem dX4_drawHead_4 : decode cX4_drawHead 4 = .ok (.iconst 0, 1) := by decide +kernel
theorem dX4_drawHead_5 : decode cX4_drawHead 5 = .ok (.iload_n 1, 1) := by decide +kernel
theorem dX4_drawHead_6 : decode cX4_drawHead 6 = .ok (.invokestatic 65, 3) := by decide +kernel
theorem dX4_drawHead_9 : decode cX4_drawHead 9 = .ok (.aload_n 0, 1) := by decide +kernel
theorem dX4_drawHead_10 : decode cX4_drawHead 10 = .ok (.getfield 15, 3) := by decide +kernel
theorem dX4_drawHead_13 : decode cX4_drawHead 13 = .ok (.iconst 4, 1) := by decide +kernel
theorem dX4_drawHead_14 : decode cX4_drawHead 14 = .ok (.sipush 165, 3) := by decide +kernel
theorem dX4_drawHead_17 : decode cX4_drawHead 17 = .ok (.invokestatic 65, 3) := by decide +kernel
theorem dX4_drawHead_20 : decode cX4_drawHead 20 = .ok (.aload_n 0, 1) := by decide +kernel
theorem dX4_drawHead_21 : decode cX4_drawHead 21 = .ok (.getfield 15, 3) := by decide +kernel
theorem dX4_drawHead_24 : decode cX4_drawHead 24 = .ok (.bipush 8, 2) := by decide +kernel
theorem dX4_drawHead_26 : decode cX4_drawHead 26 = .ok (.aload_n 0, 1) := by decide +kernel
theorem dX4_drawHead_27 : decode cX4_drawHead 27 = .ok (.getfield 15, 3) := by decide +kernel
theorem dX4_drawHead_30 : decode cX4_drawHead 30 = .ok (.iconst 0, 1) := by decide +kernel
theorem dX4_drawHead_31 : decode cX4_drawHead 31 = .ok (.bipush 8, 2) := by decide +kernel
theorem dX4_drawHead_33 : decode cX4_drawHead 33 = .ok (.iconst 1, 1) := by decide +kernel
theorem dX4_drawHead_34 : decode cX4_drawHead 34 = .ok (.invokestatic 76, 3) := by decide +kernel
theorem dX4_drawHead_37 : decode cX4_drawHead 37 = .ok (.invokestatic 69, 3) := by decide +kernel
theorem dX4_drawHead_40 : decode cX4_drawHead 40 = .ok (.return_, 1) := by decide +kernel
theorem dX4_drawCopy_0 : decode cX4_drawCopy 0 = .ok (.aload_n 0, 1) := by decide +kernel
theorem dX4_drawCopy_1 : decode cX4_drawCopy 1 = .ok (.getfield 9, 3) := by decide +kernel
theorem dX4_drawCopy_4 : decode cX4_drawCopy 4 = .ok (.getfield 36, 3) := by decide +kernel
theorem dX4_drawCopy_7 : decode cX4_drawCopy 7 = .ok (.aload_n 0, 1) := by decide +kernel
theorem dX4_drawCopy_8 : decode cX4_drawCopy 8 = .ok (.iload_n 1, 1) := by decide +kernel
theorem dX4_drawCopy_9 : decode cX4_drawCopy 9 = .ok (.invokevirtual 47, 3) := by decide +kernel
theorem dX4_drawCopy_12 : decode cX4_drawCopy 12 = .ok (.aload_n 0, 1) := by decide +kernel
theorem dX4_drawCopy_13 : decode cX4_drawCopy 13 = .ok (.getfield 15, 3) := by decide +kernel
theorem dX4_drawCopy_16 : decode cX4_drawCopy 16 = .ok (.iconst 0, 1) := by decide +kernel
theorem dX4_drawCopy_17 : decode cX4_drawCopy 17 = .ok (.bipush 32, 2) := by decide +kernel
theorem dX4_drawCopy_19 : decode cX4_drawCopy 19 = .ok (.invokestatic 41, 3) := by decide +kernel
theorem dX4_drawCopy_22 : decode cX4_drawCopy 22 = .ok (.aload_n 0, 1) := by decide +kernel
theorem dX4_drawCopy_23 : decode cX4_drawCopy 23 = .ok (.getfield 15, 3) := by decide +kernel
theorem dX4_drawCopy_26 : decode cX4_drawCopy 26 = .ok (.bipush 31, 2) := by decide +kernel
theorem dX4_drawCopy_28 : decode cX4_drawCopy 28 = .ok (.bipush (-91), 2) := by decide +kernel
theorem dX4_drawCopy_30 : decode cX4_drawCopy 30 = .ok (.bastore, 1) := by decide +kernel
theorem dX4_drawCopy_31 : decode cX4_drawCopy 31 = .ok (.return_, 1) := by decide +kernel
theorem dX4_writeImage_0 : decode cX4_writeImage 0 = .ok (.aload_n 0, 1) := by decide +kernel
theorem dX4_writeImage_1 : decode cX4_writeImage 1 = .ok (.getfield 9, 3) := by decide +kernel
theorem dX4_writeImage_4 : decode cX4_writeImage 4 = .ok (.bipush 32, 2) := by decide +kernel
theorem dX4_writeImage_6 : decode cX4_writeImage 6 = .ok (.sipush 4096, 3) := by decide +kernel
theorem dX4_writeImage_9 : decode cX4_writeImage 9 = .ok (.iload_n 1, 1) := by decide +kernel
theorem dX4_writeImage_10 : decode cX4_writeImage 10 = .ok (.imul, 1) := by decide +kernel
theorem dX4_writeImage_11 : decode cX4_writeImage 11 = .ok (.iadd, 1) := by decide +kernel
theorem dX4_writeImage_12 : decode cX4_writeImage 12 = .ok (.bipush 32, 2) := by decide +kernel
theorem dX4_writeImage_14 : decode cX4_writeImage 14 = .ok (.iload_n 2, 1) := by decide +kernel
theorem dX4_writeImage_15 : decode cX4_writeImage 15 = .ok (.imul, 1) := by decide +kernel
theorem dX4_writeImage_16 : decode cX4_writeImage 16 = .ok (.iadd, 1) := by decide +kernel
theorem dX4_writeImage_17 : decode cX4_writeImage 17 = .ok (.aload_n 0, 1) := by decide +kernel
theorem dX4_writeImage_18 : decode cX4_writeImage 18 = .ok (.getfield 15, 3) := by decide +kernel
theorem dX4_writeImage_21 : decode cX4_writeImage 21 = .ok (.bipush 32, 2) := by decide +kernel
theorem dX4_writeImage_23 : decode cX4_writeImage 23 = .ok (.invokevirtual 80, 3) := by decide +kernel
theorem dX4_writeImage_26 : decode cX4_writeImage 26 = .ok (.ireturn, 1) := by decide +kernel
theorem dX4_write_0 : decode cX4_write 0 = .ok (.aload_n 0, 1) := by decide +kernel
theorem dX4_write_1 : decode cX4_write 1 = .ok (.iload_n 1, 1) := by decide +kernel
theorem dX4_write_2 : decode cX4_write 2 = .ok (.iload_n 2, 1) := by decide +kernel
theorem dX4_write_3 : decode cX4_write 3 = .ok (.iload_n 3, 1) := by decide +kernel
theorem dX4_write_4 : decode cX4_write 4 = .ok (.lload 4, 2) := by decide +kernel
theorem dX4_write_6 : decode cX4_write 6 = .ok (.invokevirtual 84, 3) := by decide +kernel
theorem dX4_write_9 : decode cX4_write 9 = .ok (.aload_n 0, 1) := by decide +kernel
theorem dX4_write_10 : decode cX4_write 10 = .ok (.getfield 26, 3) := by decide +kernel
theorem dX4_write_13 : decode cX4_write 13 = .ok (.sipush 128, 3) := by decide +kernel
theorem dX4_write_16 : decode cX4_write 16 = .ok (.if_icmp .ge 18, 3) := by decide +kernel
theorem dX4_write_19 : decode cX4_write 19 = .ok (.aload_n 0, 1) := by decide +kernel
theorem dX4_write_20 : decode cX4_write 20 = .ok (.aload_n 0, 1) := by decide +kernel
theorem dX4_write_21 : decode cX4_write 21 = .ok (.getfield 19, 3) := by decide +kernel
theorem dX4_write_24 : decode cX4_write 24 = .ok (.aload_n 0, 1) := by decide +kernel
theorem dX4_write_25 : decode cX4_write 25 = .ok (.getfield 26, 3) := by decide +kernel
theorem dX4_write_28 : decode cX4_write 28 = .ok (.invokevirtual 88, 3) := by decide +kernel
theorem dX4_write_31 : decode cX4_write 31 = .ok (.ifCond .ne 5, 3) := by decide +kernel
theorem dX4_write_34 : decode cX4_write 34 = .ok (.iconst 0, 1) := by decide +kernel
theorem dX4_write_35 : decode cX4_write 35 = .ok (.ireturn, 1) := by decide +kernel
theorem dX4_write_36 : decode cX4_write 36 = .ok (.aload_n 0, 1) := by decide +kernel
theorem dX4_write_37 : decode cX4_write 37 = .ok (.dup, 1) := by decide +kernel
theorem dX4_write_38 : decode cX4_write 38 = .ok (.getfield 26, 3) := by decide +kernel
theorem dX4_write_41 : decode cX4_write 41 = .ok (.iconst 1, 1) := by decide +kernel
theorem dX4_write_42 : decode cX4_write 42 = .ok (.iadd, 1) := by decide +kernel
theorem dX4_write_43 : decode cX4_write 43 = .ok (.putfield 26, 3) := by decide +kernel
theorem dX4_write_46 : decode cX4_write 46 = .ok (.iconst 1, 1) := by decide +kernel
theorem dX4_write_47 : decode cX4_write 47 = .ok (.ireturn, 1) := by decide +kernel
theorem dX4_isHead_0 : decode cX4_isHead 0 = .ok (.bipush 16, 2) := by decide +kernel
theorem dX4_isHead_2 : decode cX4_isHead 2 = .ok (.iload_n 1, 1) := by decide +kernel
theorem dX4_isHead_3 : decode cX4_isHead 3 = .ok (.imul, 1) := by decide +kernel
theorem dX4_isHead_4 : decode cX4_isHead 4 = .ok (.istore_n 2, 1) := by decide +kernel
theorem dX4_isHead_5 : decode cX4_isHead 5 = .ok (.aload_n 0, 1) := by decide +kernel
theorem dX4_isHead_6 : decode cX4_isHead 6 = .ok (.getfield 9, 3) := by decide +kernel
theorem dX4_isHead_9 : decode cX4_isHead 9 = .ok (.getfield 36, 3) := by decide +kernel
theorem dX4_isHead_12 : decode cX4_isHead 12 = .ok (.iload_n 2, 1) := by decide +kernel
theorem dX4_isHead_13 : decode cX4_isHead 13 = .ok (.bipush 8, 2) := by decide +kernel
theorem dX4_isHead_15 : decode cX4_isHead 15 = .ok (.iadd, 1) := by decide +kernel
theorem dX4_isHead_16 : decode cX4_isHead 16 = .ok (.invokestatic 57, 3) := by decide +kernel
theorem dX4_isHead_19 : decode cX4_isHead 19 = .ok (.lstore_n 3, 1) := by decide +kernel
theorem dX4_isHead_20 : decode cX4_isHead 20 = .ok (.aload_n 0, 1) := by decide +kernel
theorem dX4_isHead_21 : decode cX4_isHead 21 = .ok (.getfield 9, 3) := by decide +kernel
theorem dX4_isHead_24 : decode cX4_isHead 24 = .ok (.getfield 36, 3) := by decide +kernel
theorem dX4_isHead_27 : decode cX4_isHead 27 = .ok (.iload_n 2, 1) := by decide +kernel
theorem dX4_isHead_28 : decode cX4_isHead 28 = .ok (.iconst 4, 1) := by decide +kernel
theorem dX4_isHead_29 : decode cX4_isHead 29 = .ok (.iadd, 1) := by decide +kernel
theorem dX4_isHead_30 : decode cX4_isHead 30 = .ok (.invokestatic 51, 3) := by decide +kernel
theorem dX4_isHead_33 : decode cX4_isHead 33 = .ok (.sipush 165, 3) := by decide +kernel
theorem dX4_isHead_36 : decode cX4_isHead 36 = .ok (.if_icmp .ne 32, 3) := by decide +kernel
theorem dX4_isHead_39 : decode cX4_isHead 39 = .ok (.lload_n 3, 1) := by decide +kernel
theorem dX4_isHead_40 : decode cX4_isHead 40 = .ok (.lconst 0, 1) := by decide +kernel
theorem dX4_isHead_41 : decode cX4_isHead 41 = .ok (.lcmp, 1) := by decide +kernel
theorem dX4_isHead_42 : decode cX4_isHead 42 = .ok (.ifCond .eq 26, 3) := by decide +kernel
theorem dX4_isHead_45 : decode cX4_isHead 45 = .ok (.lload_n 3, 1) := by decide +kernel
theorem dX4_isHead_46 : decode cX4_isHead 46 = .ok (.aload_n 0, 1) := by decide +kernel
theorem dX4_isHead_47 : decode cX4_isHead 47 = .ok (.getfield 9, 3) := by decide +kernel
theorem dX4_isHead_50 : decode cX4_isHead 50 = .ok (.getfield 36, 3) := by decide +kernel
theorem dX4_isHead_53 : decode cX4_isHead 53 = .ok (.iload_n 2, 1) := by decide +kernel
theorem dX4_isHead_54 : decode cX4_isHead 54 = .ok (.bipush 8, 2) := by decide +kernel
theorem dX4_isHead_56 : decode cX4_isHead 56 = .ok (.iconst 1, 1) := by decide +kernel
theorem dX4_isHead_57 : decode cX4_isHead 57 = .ok (.invokestatic 76, 3) := by decide +kernel
theorem dX4_isHead_60 : decode cX4_isHead 60 = .ok (.lcmp, 1) := by decide +kernel
theorem dX4_isHead_61 : decode cX4_isHead 61 = .ok (.ifCond .ne 7, 3) := by decide +kernel
theorem dX4_isHead_64 : decode cX4_isHead 64 = .ok (.iconst 1, 1) := by decide +kernel
theorem dX4_isHead_65 : decode cX4_isHead 65 = .ok (.goto 4, 3) := by decide +kernel
theorem dX4_isHead_68 : decode cX4_isHead 68 = .ok (.iconst 0, 1) := by decide +kernel
theorem dX4_isHead_69 : decode cX4_isHead 69 = .ok (.ireturn, 1) := by decide +kernel
theorem dX4_generationOf_0 : decode cX4_generationOf 0 = .ok (.aload_n 0, 1) := by decide +kernel
theorem dX4_generationOf_1 : decode cX4_generationOf 1 = .ok (.getfield 9, 3) := by decide +kernel
theorem dX4_generationOf_4 : decode cX4_generationOf 4 = .ok (.getfield 36, 3) := by decide +kernel
theorem dX4_generationOf_7 : decode cX4_generationOf 7 = .ok (.bipush 16, 2) := by decide +kernel
theorem dX4_generationOf_9 : decode cX4_generationOf 9 = .ok (.iload_n 1, 1) := by decide +kernel
theorem dX4_generationOf_10 : decode cX4_generationOf 10 = .ok (.imul, 1) := by decide +kernel
theorem dX4_generationOf_11 : decode cX4_generationOf 11 = .ok (.invokestatic 51, 3) := by decide +kernel
theorem dX4_generationOf_14 : decode cX4_generationOf 14 = .ok (.i2l, 1) := by decide +kernel
theorem dX4_generationOf_15 : decode cX4_generationOf 15 = .ok (.ldc2_w 92, 3) := by decide +kernel
theorem dX4_generationOf_18 : decode cX4_generationOf 18 = .ok (.land, 1) := by decide +kernel
theorem dX4_generationOf_19 : decode cX4_generationOf 19 = .ok (.lreturn, 1) := by decide +kernel
theorem dX4_choose_0 : decode cX4_choose 0 = .ok (.aload_n 0, 1) := by decide +kernel
theorem dX4_choose_1 : decode cX4_choose 1 = .ok (.iconst 0, 1) := by decide +kernel
theorem dX4_choose_2 : decode cX4_choose 2 = .ok (.invokevirtual 94, 3) := by decide +kernel
theorem dX4_choose_5 : decode cX4_choose 5 = .ok (.istore_n 1, 1) := by decide +kernel
theorem dX4_choose_6 : decode cX4_choose 6 = .ok (.aload_n 0, 1) := by decide +kernel
theorem dX4_choose_7 : decode cX4_choose 7 = .ok (.iconst 1, 1) := by decide +kernel
theorem dX4_choose_8 : decode cX4_choose 8 = .ok (.invokevirtual 94, 3) := by decide +kernel
theorem dX4_choose_11 : decode cX4_choose 11 = .ok (.istore_n 2, 1) := by decide +kernel
theorem dX4_choose_12 : decode cX4_choose 12 = .ok (.iload_n 1, 1) := by decide +kernel
theorem dX4_choose_13 : decode cX4_choose 13 = .ok (.ifCond .ne 9, 3) := by decide +kernel
theorem dX4_choose_16 : decode cX4_choose 16 = .ok (.iload_n 2, 1) := by decide +kernel
theorem dX4_choose_17 : decode cX4_choose 17 = .ok (.ifCond .ne 5, 3) := by decide +kernel
theorem dX4_choose_20 : decode cX4_choose 20 = .ok (.iconst 0, 1) := by decide +kernel
theorem dX4_choose_21 : decode cX4_choose 21 = .ok (.ireturn, 1) := by decide +kernel
theorem dX4_choose_22 : decode cX4_choose 22 = .ok (.aload_n 0, 1) := by decide +kernel
theorem dX4_choose_23 : decode cX4_choose 23 = .ok (.iload_n 2, 1) := by decide +kernel
theorem dX4_choose_24 : decode cX4_choose 24 = .ok (.ifCond .eq 25, 3) := by decide +kernel
theorem dX4_choose_27 : decode cX4_choose 27 = .ok (.iload_n 1, 1) := by decide +kernel
theorem dX4_choose_28 : decode cX4_choose 28 = .ok (.ifCond .eq 17, 3) := by decide +kernel
theorem dX4_choose_31 : decode cX4_choose 31 = .ok (.aload_n 0, 1) := by decide +kernel
theorem dX4_choose_32 : decode cX4_choose 32 = .ok (.iconst 1, 1) := by decide +kernel
theorem dX4_choose_33 : decode cX4_choose 33 = .ok (.invokevirtual 98, 3) := by decide +kernel
theorem dX4_choose_36 : decode cX4_choose 36 = .ok (.aload_n 0, 1) := by decide +kernel
theorem dX4_choose_37 : decode cX4_choose 37 = .ok (.iconst 0, 1) := by decide +kernel
theorem dX4_choose_38 : decode cX4_choose 38 = .ok (.invokevirtual 98, 3) := by decide +kernel
theorem dX4_choose_41 : decode cX4_choose 41 = .ok (.lcmp, 1) := by decide +kernel
theorem dX4_choose_42 : decode cX4_choose 42 = .ok (.ifCond .lt 7, 3) := by decide +kernel
theorem dX4_choose_45 : decode cX4_choose 45 = .ok (.iconst 1, 1) := by decide +kernel
theorem dX4_choose_46 : decode cX4_choose 46 = .ok (.goto 4, 3) := by decide +kernel
theorem dX4_choose_49 : decode cX4_choose 49 = .ok (.iconst 0, 1) := by decide +kernel
theorem dX4_choose_50 : decode cX4_choose 50 = .ok (.putfield 19, 3) := by decide +kernel
theorem dX4_choose_53 : decode cX4_choose 53 = .ok (.aload_n 0, 1) := by decide +kernel
theorem dX4_choose_54 : decode cX4_choose 54 = .ok (.aload_n 0, 1) := by decide +kernel
theorem dX4_choose_55 : decode cX4_choose 55 = .ok (.aload_n 0, 1) := by decide +kernel
theorem dX4_choose_56 : decode cX4_choose 56 = .ok (.getfield 19, 3) := by decide +kernel
theorem dX4_choose_59 : decode cX4_choose 59 = .ok (.invokevirtual 98, 3) := by decide +kernel
theorem dX4_choose_62 : decode cX4_choose 62 = .ok (.l2i, 1) := by decide +kernel
theorem dX4_choose_63 : decode cX4_choose 63 = .ok (.putfield 23, 3) := by decide +kernel
theorem dX4_choose_66 : decode cX4_choose 66 = .ok (.iconst 1, 1) := by decide +kernel
theorem dX4_choose_67 : decode cX4_choose 67 = .ok (.ireturn, 1) := by decide +kernel
theorem dX4_clear_0 : decode cX4_clear 0 = .ok (.iconst 1, 1) := by decide +kernel
theorem dX4_clear_1 : decode cX4_clear 1 = .ok (.aload_n 0, 1) := by decide +kernel
theorem dX4_clear_2 : decode cX4_clear 2 = .ok (.getfield 19, 3) := by decide +kernel
theorem dX4_clear_5 : decode cX4_clear 5 = .ok (.isub, 1) := by decide +kernel
theorem dX4_clear_6 : decode cX4_clear 6 = .ok (.istore_n 1, 1) := by decide +kernel
theorem dX4_clear_7 : decode cX4_clear 7 = .ok (.aload_n 0, 1) := by decide +kernel
theorem dX4_clear_8 : decode cX4_clear 8 = .ok (.getfield 9, 3) := by decide +kernel
theorem dX4_clear_11 : decode cX4_clear 11 = .ok (.getfield 36, 3) := by decide +kernel
theorem dX4_clear_14 : decode cX4_clear 14 = .ok (.bipush 16, 2) := by decide +kernel
theorem dX4_clear_16 : decode cX4_clear 16 = .ok (.iload_n 1, 1) := by decide +kernel
theorem dX4_clear_17 : decode cX4_clear 17 = .ok (.imul, 1) := by decide +kernel
theorem dX4_clear_18 : decode cX4_clear 18 = .ok (.bipush 16, 2) := by decide +kernel
theorem dX4_clear_20 : decode cX4_clear 20 = .ok (.invokestatic 102, 3) := by decide +kernel
theorem dX4_clear_23 : decode cX4_clear 23 = .ok (.ifCond .ne 16, 3) := by decide +kernel
theorem dX4_clear_26 : decode cX4_clear 26 = .ok (.aload_n 0, 1) := by decide +kernel
theorem dX4_clear_27 : decode cX4_clear 27 = .ok (.getfield 9, 3) := by decide +kernel
theorem dX4_clear_30 : decode cX4_clear 30 = .ok (.iload_n 1, 1) := by decide +kernel
theorem dX4_clear_31 : decode cX4_clear 31 = .ok (.invokevirtual 106, 3) := by decide +kernel
theorem dX4_clear_34 : decode cX4_clear 34 = .ok (.ifCond .ne 5, 3) := by decide +kernel
theorem dX4_clear_37 : decode cX4_clear 37 = .ok (.iconst 0, 1) := by decide +kernel
theorem dX4_clear_38 : decode cX4_clear 38 = .ok (.ireturn, 1) := by decide +kernel
theorem dX4_clear_39 : decode cX4_clear 39 = .ok (.aload_n 0, 1) := by decide +kernel
theorem dX4_clear_40 : decode cX4_clear 40 = .ok (.iconst 0, 1) := by decide +kernel
theorem dX4_clear_41 : decode cX4_clear 41 = .ok (.putfield 29, 3) := by decide +kernel
theorem dX4_clear_44 : decode cX4_clear 44 = .ok (.aload_n 0, 1) := by decide +kernel
theorem dX4_clear_45 : decode cX4_clear 45 = .ok (.iconst 0, 1) := by decide +kernel
theorem dX4_clear_46 : decode cX4_clear 46 = .ok (.putfield 26, 3) := by decide +kernel
theorem dX4_clear_49 : decode cX4_clear 49 = .ok (.aload_n 0, 1) := by decide +kernel
theorem dX4_clear_50 : decode cX4_clear 50 = .ok (.getfield 26, 3) := by decide +kernel
theorem dX4_clear_53 : decode cX4_clear 53 = .ok (.sipush 128, 3) := by decide +kernel
theorem dX4_clear_56 : decode cX4_clear 56 = .ok (.if_icmp .ge 69, 3) := by decide +kernel
theorem dX4_clear_59 : decode cX4_clear 59 = .ok (.aload_n 0, 1) := by decide +kernel
theorem dX4_clear_60 : decode cX4_clear 60 = .ok (.aload_n 0, 1) := by decide +kernel
theorem dX4_clear_61 : decode cX4_clear 61 = .ok (.getfield 26, 3) := by decide +kernel
theorem dX4_clear_64 : decode cX4_clear 64 = .ok (.invokevirtual 109, 3) := by decide +kernel
theorem dX4_clear_67 : decode cX4_clear 67 = .ok (.istore_n 2, 1) := by decide +kernel
theorem dX4_clear_68 : decode cX4_clear 68 = .ok (.iload_n 2, 1) := by decide +kernel
