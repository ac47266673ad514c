theorem dX2_init_0 : decode cX2_init 0 = .ok (.aload_n 0, 1) := by decide +kernel
theorem dX2_init_1 : decode cX2_init 1 = .ok (.invokespecial 3, 3) := by decide +kernel
theorem dX2_init_4 : decode cX2_init 4 = .ok (.aload_n 0, 1) := by decide +kernel
theorem dX2_init_5 : decode cX2_init 5 = .ok (.iload_n 1, 1) := by decide +kernel
theorem dX2_init_6 : decode cX2_init 6 = .ok (.putfield 9, 3) := by decide +kernel
theorem dX2_init_9 : decode cX2_init 9 = .ok (.aload_n 0, 1) := by decide +kernel
theorem dX2_init_10 : decode cX2_init 10 = .ok (.bipush 26, 2) := by decide +kernel
theorem dX2_init_12 : decode cX2_init 12 = .ok (.newarray .byte, 2) := by decide +kernel
theorem dX2_init_14 : decode cX2_init 14 = .ok (.putfield 15, 3) := by decide +kernel
theorem dX2_init_17 : decode cX2_init 17 = .ok (.aload_n 0, 1) := by decide +kernel
theorem dX2_init_18 : decode cX2_init 18 = .ok (.iconst 1, 1) := by decide +kernel
theorem dX2_init_19 : decode cX2_init 19 = .ok (.putfield 19, 3) := by decide +kernel
theorem dX2_init_22 : decode cX2_init 22 = .ok (.return_, 1) := by decide +kernel
theorem dJx4a65c_grow_92f84_0 : decode cJx4a65c_grow_92f84 0 = .ok (.aload_n 0, 1) := by decide +kernel
theorem dJx4a65c_grow_92f84_1 : decode cJx4a65c_grow_92f84 1 = .ok (.getfield 9, 3) := by decide +kernel
theorem dJx4a65c_grow_92f84_4 : decode cJx4a65c_grow_92f84 4 = .ok (.arraylength, 1) := by decide +kernel
theorem dJx4a65c_grow_92f84_5 : decode cJx4a65c_grow_92f84 5 = .ok (.istore_n 2, 1) := by decide +kernel
theorem dJx4a65c_grow_92f84_6 : decode cJx4a65c_grow_92f84 6 = .ok (.iload_n 2, 1) := by decide +kernel
theorem dJx4a65c_grow_92f84_7 : decode cJx4a65c_grow_92f84 7 = .ok (.ifCond .gt 13, 3) := by decide +kernel
theorem dJx4a65c_grow_92f84_10 : decode cJx4a65c_grow_92f84 10 = .ok (.aload_n 0, 1) := by decide +kernel
theorem dJx4a65c_grow_92f84_11 : decode cJx4a65c_grow_92f84 11 = .ok (.getfield 9, 3) := by decide +kernel
theorem dJx4a65c_grow_92f84_14 : decode cJx4a65c_grow_92f84 14 = .ok (.getstatic 39, 3) := by decide +kernel
theorem dJx4a65c_grow_92f84_17 : decode cJx4a65c_grow_92f84 17 = .ok (.if_acmp .eq 28, 3) := by decide +kernel
theorem dJx4a65c_grow_92f84_20 : decode cJx4a65c_grow_92f84 20 = .ok (.iload_n 2, 1) := by decide +kernel
theorem dJx4a65c_grow_92f84_21 : decode cJx4a65c_grow_92f84 21 = .ok (.iload_n 1, 1) := by decide +kernel
theorem dJx4a65c_grow_92f84_22 : decode cJx4a65c_grow_92f84 22 = .ok (.iload_n 2, 1) := by decide +kernel
theorem dJx4a65c_grow_92f84_23 : decode cJx4a65c_grow_92f84 23 = .ok (.isub, 1) := by decide +kernel
theorem dJx4a65c_grow_92f84_24 : decode cJx4a65c_grow_92f84 24 = .ok (.iload_n 2, 1) := by decide +kernel
theorem dJx4a65c_grow_92f84_25 : decode cJx4a65c_grow_92f84 25 = .ok (.iconst 1, 1) := by decide +kernel
theorem dJx4a65c_grow_92f84_26 : decode cJx4a65c_grow_92f84 26 = .ok (.ishr, 1) := by decide +kernel
theorem dJx4a65c_grow_92f84_27 : decode cJx4a65c_grow_92f84 27 = .ok (.invokestatic 73, 3) := by decide +kernel
theorem dJx4a65c_grow_92f84_30 : decode cJx4a65c_grow_92f84 30 = .ok (.istore_n 3, 1) := by decide +kernel
theorem dJx4a65c_grow_92f84_31 : decode cJx4a65c_grow_92f84 31 = .ok (.aload_n 0, 1) := by decide +kernel
theorem dJx4a65c_grow_92f84_32 : decode cJx4a65c_grow_92f84 32 = .ok (.aload_n 0, 1) := by decide +kernel
theorem dJx4a65c_grow_92f84_33 : decode cJx4a65c_grow_92f84 33 = .ok (.getfield 9, 3) := by decide +kernel
theorem dJx4a65c_grow_92f84_36 : decode cJx4a65c_grow_92f84 36 = .ok (.iload_n 3, 1) := by decide +kernel
theorem dJx4a65c_grow_92f84_37 : decode cJx4a65c_grow_92f84 37 = .ok (.invokestatic 66, 3) := by decide +kernel
theorem dJx4a65c_grow_92f84_40 : decode cJx4a65c_grow_92f84 40 = .ok (.dup_x1, 1) := by decide +kernel
theorem dJx4a65c_grow_92f84_41 : decode cJx4a65c_grow_92f84 41 = .ok (.putfield 9, 3) := by decide +kernel
theorem dJx4a65c_grow_92f84_44 : decode cJx4a65c_grow_92f84 44 = .ok (.areturn, 1) := by decide +kernel
theorem dJx4a65c_grow_92f84_45 : decode cJx4a65c_grow_92f84 45 = .ok (.aload_n 0, 1) := by decide +kernel
theorem dJx4a65c_grow_92f84_46 : decode cJx4a65c_grow_92f84 46 = .ok (.bipush 10, 2) := by decide +kernel
theorem dJx4a65c_grow_92f84_48 : decode cJx4a65c_grow_92f84 48 = .ok (.iload_n 1, 1) := by decide +kernel
theorem dJx4a65c_grow_92f84_49 : decode cJx4a65c_grow_92f84 49 = .ok (.invokestatic 79, 3) := by decide +kernel
theorem dJx4a65c_grow_92f84_52 : decode cJx4a65c_grow_92f84 52 = .ok (.anewarray 7, 3) := by decide +kernel
theorem dJx4a65c_grow_92f84_55 : decode cJx4a65c_grow_92f84 55 = .ok (.dup_x1, 1) := by decide +kernel
theorem dJx4a65c_grow_92f84_56 : decode cJx4a65c_grow_92f84 56 = .ok (.putfield 9, 3) := by decide +kernel
theorem dJx4a65c_grow_92f84_59 : decode cJx4a65c_grow_92f84 59 = .ok (.areturn, 1) := by decide +kernel
theorem dJx4a65c_grow_d5877_0 : decode cJx4a65c_grow_d5877 0 = .ok (.aload_n 0, 1) := by decide +kernel
theorem dJx4a65c_grow_d5877_1 : decode cJx4a65c_grow_d5877 1 = .ok (.aload_n 0, 1) := by decide +kernel
theorem dJx4a65c_grow_d5877_2 : decode cJx4a65c_grow_d5877 2 = .ok (.getfield 48, 3) := by decide +kernel
theorem dJx4a65c_grow_d5877_5 : decode cJx4a65c_grow_d5877 5 = .ok (.iconst 1, 1) := by decide +kernel
theorem dJx4a65c_grow_d5877_6 : decode cJx4a65c_grow_d5877 6 = .ok (.iadd, 1) := by decide +kernel
theorem dJx4a65c_grow_d5877_7 : decode cJx4a65c_grow_d5877 7 = .ok (.invokevirtual 69, 3) := by decide +kernel
theorem dJx4a65c_grow_d5877_10 : decode cJx4a65c_grow_d5877 10 = .ok (.areturn, 1) := by decide +kernel
theorem dJx4a65c_add_7a177_0 : decode cJx4a65c_add_7a177 0 = .ok (.aload_n 0, 1) := by decide +kernel
theorem dJx4a65c_add_7a177_1 : decode cJx4a65c_add_7a177 1 = .ok (.iload_n 1, 1) := by decide +kernel
theorem dJx4a65c_add_7a177_2 : decode cJx4a65c_add_7a177 2 = .ok (.invokevirtual 135, 3) := by decide +kernel
theorem dJx4a65c_add_7a177_5 : decode cJx4a65c_add_7a177 5 = .ok (.aload_n 0, 1) := by decide +kernel
theorem dJx4a65c_add_7a177_6 : decode cJx4a65c_add_7a177 6 = .ok (.dup, 1) := by decide +kernel
theorem dJx4a65c_add_7a177_7 : decode cJx4a65c_add_7a177 7 = .ok (.getfield 63, 3) := by decide +kernel
theorem dJx4a65c_add_7a177_10 : decode cJx4a65c_add_7a177 10 = .ok (.iconst 1, 1) := by decide +kernel
theorem dJx4a65c_add_7a177_11 : decode cJx4a65c_add_7a177 11 = .ok (.iadd, 1) := by decide +kernel
theorem dJx4a65c_add_7a177_12 : decode cJx4a65c_add_7a177 12 = .ok (.putfield 63, 3) := by decide +kernel
theorem dJx4a65c_add_7a177_15 : decode cJx4a65c_add_7a177 15 = .ok (.aload_n 0, 1) := by decide +kernel
theorem dJx4a65c_add_7a177_16 : decode cJx4a65c_add_7a177 16 = .ok (.getfield 48, 3) := by decide +kernel
theorem dJx4a65c_add_7a177_19 : decode cJx4a65c_add_7a177 19 = .ok (.dup, 1) := by decide +kernel
theorem dJx4a65c_add_7a177_20 : decode cJx4a65c_add_7a177 20 = .ok (.istore_n 3, 1) := by decide +kernel
theorem dJx4a65c_add_7a177_21 : decode cJx4a65c_add_7a177 21 = .ok (.aload_n 0, 1) := by decide +kernel
theorem dJx4a65c_add_7a177_22 : decode cJx4a65c_add_7a177 22 = .ok (.getfield 9, 3) := by decide +kernel
theorem dJx4a65c_add_7a177_25 : decode cJx4a65c_add_7a177 25 = .ok (.dup, 1) := by decide +kernel
theorem dJx4a65c_add_7a177_26 : decode cJx4a65c_add_7a177 26 = .ok (.astore 4, 2) := by decide +kernel
theorem dJx4a65c_add_7a177_28 : decode cJx4a65c_add_7a177 28 = .ok (.arraylength, 1) := by decide +kernel
theorem dJx4a65c_add_7a177_29 : decode cJx4a65c_add_7a177 29 = .ok (.if_icmp .ne 9, 3) := by decide +kernel
theorem dJx4a65c_add_7a177_32 : decode cJx4a65c_add_7a177 32 = .ok (.aload_n 0, 1) := by decide +kernel
theorem dJx4a65c_add_7a177_33 : decode cJx4a65c_add_7a177 33 = .ok (.invokevirtual 129, 3) := by decide +kernel
theorem dJx4a65c_add_7a177_36 : decode cJx4a65c_add_7a177 36 = .ok (.astore 4, 2) := by decide +kernel
theorem dJx4a65c_add_7a177_38 : decode cJx4a65c_add_7a177 38 = .ok (.aload 4, 2) := by decide +kernel
theorem dJx4a65c_add_7a177_40 : decode cJx4a65c_add_7a177 40 = .ok (.iload_n 1, 1) := by decide +kernel
theorem dJx4a65c_add_7a177_41 : decode cJx4a65c_add_7a177 41 = .ok (.aload 4, 2) := by decide +kernel
theorem dJx4a65c_add_7a177_43 : decode cJx4a65c_add_7a177 43 = .ok (.iload_n 1, 1) := by decide +kernel
theorem dJx4a65c_add_7a177_44 : decode cJx4a65c_add_7a177 44 = .ok (.iconst 1, 1) := by decide +kernel
theorem dJx4a65c_add_7a177_45 : decode cJx4a65c_add_7a177 45 = .ok (.iadd, 1) := by decide +kernel
theorem dJx4a65c_add_7a177_46 : decode cJx4a65c_add_7a177 46 = .ok (.iload_n 3, 1) := by decide +kernel
theorem dJx4a65c_add_7a177_47 : decode cJx4a65c_add_7a177 47 = .ok (.iload_n 1, 1) := by decide +kernel
theorem dJx4a65c_add_7a177_48 : decode cJx4a65c_add_7a177 48 = .ok (.isub, 1) := by decide +kernel
theorem dJx4a65c_add_7a177_49 : decode cJx4a65c_add_7a177 49 = .ok (.invokestatic 112, 3) := by decide +kernel
theorem dJx4a65c_add_7a177_52 : decode cJx4a65c_add_7a177 52 = .ok (.aload 4, 2) := by decide +kernel
theorem dJx4a65c_add_7a177_54 : decode cJx4a65c_add_7a177 54 = .ok (.iload_n 1, 1) := by decide +kernel
theorem dJx4a65c_add_7a177_55 : decode cJx4a65c_add_7a177 55 = .ok (.aload_n 2, 1) := by decide +kernel
theorem dJx4a65c_add_7a177_56 : decode cJx4a65c_add_7a177 56 = .ok (.aastore, 1) := by decide +kernel
theorem dJx4a65c_add_7a177_57 : decode cJx4a65c_add_7a177 57 = .ok (.aload_n 0, 1) := by decide +kernel
theorem dJx4a65c_add_7a177_58 : decode cJx4a65c_add_7a177 58 = .ok (.iload_n 3, 1) := by decide +kernel
theorem dJx4a65c_add_7a177_59 : decode cJx4a65c_add_7a177 59 = .ok (.iconst 1, 1) := by decide +kernel
theorem dJx4a65c_add_7a177_60 : decode cJx4a65c_add_7a177 60 = .ok (.iadd, 1) := by decide +kernel
theorem dJx4a65c_add_7a177_61 : decode cJx4a65c_add_7a177 61 = .ok (.putfield 48, 3) := by decide +kernel
theorem dJx4a65c_add_7a177_64 : decode cJx4a65c_add_7a177 64 = .ok (.return_, 1) := by decide +kernel
theorem dJx4a65c_rangeCheckForAdd_d00df_0 : decode cJx4a65c_rangeCheckForAdd_d00df 0 = .ok (.iload_n 1, 1) := by decide +kernel
theorem dJx4a65c_rangeCheckForAdd_d00df_1 : decode cJx4a65c_rangeCheckForAdd_d00df 1 = .ok (.aload_n 0, 1) := by decide +kernel
theorem dJx4a65c_rangeCheckForAdd_d00df_2 : decode cJx4a65c_rangeCheckForAdd_d00df 2 = .ok (.getfield 48, 3) := by decide +kernel
theorem dJx4a65c_rangeCheckForAdd_d00df_5 : decode cJx4a65c_rangeCheckForAdd_d00df 5 = .ok (.if_icmp .gt 7, 3) := by decide +kernel
theorem dJx4a65c_rangeCheckForAdd_d00df_8 : decode cJx4a65c_rangeCheckForAdd_d00df 8 = .ok (.iload_n 1, 1) := by decide +kernel
theorem dJx4a65c_rangeCheckForAdd_d00df_9 : decode cJx4a65c_rangeCheckForAdd_d00df 9 = .ok (.ifCond .ge 16, 3) := by decide +kernel
theorem dJx4a65c_rangeCheckForAdd_d00df_25 : decode cJx4a65c_rangeCheckForAdd_d00df 25 = .ok (.return_, 1) := by decide +kernel
theorem dJ7_copyOf_1904c_0 : decode cJ7_copyOf_1904c 0 = .ok (.aload_n 0, 1) := by decide +kernel
theorem dJ7_copyOf_1904c_1 : decode cJ7_copyOf_1904c 1 = .ok (.iload_n 1, 1) := by decide +kernel
theorem dJ7_copyOf_1904c_2 : decode cJ7_copyOf_1904c 2 = .ok (.aload_n 0, 1) := by decide +kernel
theorem dJ7_copyOf_1904c_3 : decode cJ7_copyOf_1904c 3 = .ok (.invokevirtual 86, 3) := by decide +kernel
theorem dJ7_copyOf_1904c_6 : decode cJ7_copyOf_1904c 6 = .ok (.invokestatic 300, 3) := by decide +kernel
theorem dJ7_copyOf_1904c_9 : decode cJ7_copyOf_1904c 9 = .ok (.areturn, 1) := by decide +kernel
theorem dJ7_copyOf_6403c_0 : decode cJ7_copyOf_6403c 0 = .ok (.aload_n 2, 1) := by decide +kernel
theorem dJ7_copyOf_6403c_1 : decode cJ7_copyOf_6403c 1 = .ok (.ldc 110, 2) := by decide +kernel
theorem dJ7_copyOf_6403c_3 : decode cJ7_copyOf_6403c 3 = .ok (.if_acmp .ne 10, 3) := by decide +kernel
theorem dJ7_copyOf_6403c_6 : decode cJ7_copyOf_6403c 6 = .ok (.iload_n 1, 1) := by decide +kernel
theorem dJ7_copyOf_6403c_7 : decode cJ7_copyOf_6403c 7 = .ok (.anewarray 2, 3) := by decide +kernel
theorem dJ7_copyOf_6403c_10 : decode cJ7_copyOf_6403c 10 = .ok (.goto 14, 3) := by decide +kernel
theorem dJ7_copyOf_6403c_24 : decode cJ7_copyOf_6403c 24 = .ok (.astore_n 3, 1) := by decide +kernel
theorem dJ7_copyOf_6403c_25 : decode cJ7_copyOf_6403c 25 = .ok (.aload_n 0, 1) := by decide +kernel
theorem dJ7_copyOf_6403c_26 : decode cJ7_copyOf_6403c 26 = .ok (.iconst 0, 1) := by decide +kernel
theorem dJ7_copyOf_6403c_27 : decode cJ7_copyOf_6403c 27 = .ok (.aload_n 3, 1) := by decide +kernel
theorem dJ7_copyOf_6403c_28 : decode cJ7_copyOf_6403c 28 = .ok (.iconst 0, 1) := by decide +kernel
theorem dJ7_copyOf_6403c_29 : decode cJ7_copyOf_6403c 29 = .ok (.aload_n 0, 1) := by decide +kernel
theorem dJ7_copyOf_6403c_30 : decode cJ7_copyOf_6403c 30 = .ok (.arraylength, 1) := by decide +kernel
theorem dJ7_copyOf_6403c_31 : decode cJ7_copyOf_6403c 31 = .ok (.iload_n 1, 1) := by decide +kernel
theorem dJ7_copyOf_6403c_32 : decode cJ7_copyOf_6403c 32 = .ok (.invokestatic 304, 3) := by decide +kernel
theorem dJ7_copyOf_6403c_35 : decode cJ7_copyOf_6403c 35 = .ok (.invokestatic 150, 3) := by decide +kernel
theorem dJ7_copyOf_6403c_38 : decode cJ7_copyOf_6403c 38 = .ok (.aload_n 3, 1) := by decide +kernel
theorem dJ7_copyOf_6403c_39 : decode cJ7_copyOf_6403c 39 = .ok (.areturn, 1) := by decide +kernel
theorem dJ8_newLength_cabcc_0 : decode cJ8_newLength_cabcc 0 = .ok (.iload_n 0, 1) := by decide +kernel
theorem dJ8_newLength_cabcc_1 : decode cJ8_newLength_cabcc 1 = .ok (.iload_n 1, 1) := by decide +kernel
theorem dJ8_newLength_cabcc_2 : decode cJ8_newLength_cabcc 2 = .ok (.iload_n 2, 1) := by decide +kernel
theorem dJ8_newLength_cabcc_3 : decode cJ8_newLength_cabcc 3 = .ok (.invokestatic 194, 3) := by decide +kernel
theorem dJ8_newLength_cabcc_6 : decode cJ8_newLength_cabcc 6 = .ok (.iadd, 1) := by decide +kernel
theorem dJ8_newLength_cabcc_7 : decode cJ8_newLength_cabcc 7 = .ok (.istore_n 3, 1) := by decide +kernel
theorem dJ8_newLength_cabcc_8 : decode cJ8_newLength_cabcc 8 = .ok (.iconst 0, 1) := by decide +kernel
theorem dJ8_newLength_cabcc_9 : decode cJ8_newLength_cabcc 9 = .ok (.iload_n 3, 1) := by decide +kernel
theorem dJ8_newLength_cabcc_10 : decode cJ8_newLength_cabcc 10 = .ok (.if_icmp .ge 11, 3) := by decide +kernel
theorem dJ8_newLength_cabcc_13 : decode cJ8_newLength_cabcc 13 = .ok (.iload_n 3, 1) := by decide +kernel
theorem dJ8_newLength_cabcc_14 : decode cJ8_newLength_cabcc 14 = .ok (.ldc 200, 2) := by decide +kernel
theorem dJ8_newLength_cabcc_16 : decode cJ8_newLength_cabcc 16 = .ok (.if_icmp .gt 5, 3) := by decide +kernel
theorem dJ8_newLength_cabcc_19 : decode cJ8_newLength_cabcc 19 = .ok (.iload_n 3, 1) := by decide +kernel
theorem dJ8_newLength_cabcc_20 : decode cJ8_newLength_cabcc 20 = .ok (.ireturn, 1) := by decide +kernel
