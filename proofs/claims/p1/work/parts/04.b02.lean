theorem dX8_slot_9 : decode cX8_slot 9 = .ok (.bipush 16, 2) := by decide +kernel
theorem dX8_slot_11 : decode cX8_slot 11 = .ok (.if_icmp .lt 13, 3) := by decide +kernel
theorem dX8_slot_14 : decode cX8_slot 14 = .ok (.new 76, 3) := by decide +kernel
theorem dX8_slot_17 : decode cX8_slot 17 = .ok (.dup, 1) := by decide +kernel
theorem dX8_slot_18 : decode cX8_slot 18 = .ok (.ldc 116, 2) := by decide +kernel
theorem dX8_slot_20 : decode cX8_slot 20 = .ok (.invokespecial 80, 3) := by decide +kernel
theorem dX8_slot_23 : decode cX8_slot 23 = .ok (.athrow, 1) := by decide +kernel
theorem dX8_slot_24 : decode cX8_slot 24 = .ok (.aload_n 0, 1) := by decide +kernel
theorem dX8_slot_25 : decode cX8_slot 25 = .ok (.getfield 40, 3) := by decide +kernel
theorem dX8_slot_28 : decode cX8_slot 28 = .ok (.iload_n 1, 1) := by decide +kernel
theorem dX8_slot_29 : decode cX8_slot 29 = .ok (.invokevirtual 210, 3) := by decide +kernel
theorem dX8_slot_32 : decode cX8_slot 32 = .ok (.ifCond .ne 13, 3) := by decide +kernel
theorem dX8_slot_35 : decode cX8_slot 35 = .ok (.new 76, 3) := by decide +kernel
theorem dX8_slot_38 : decode cX8_slot 38 = .ok (.dup, 1) := by decide +kernel
theorem dX8_slot_39 : decode cX8_slot 39 = .ok (.ldc 213, 2) := by decide +kernel
theorem dX8_slot_41 : decode cX8_slot 41 = .ok (.invokespecial 80, 3) := by decide +kernel
theorem dX8_slot_44 : decode cX8_slot 44 = .ok (.athrow, 1) := by decide +kernel
theorem dX8_slot_45 : decode cX8_slot 45 = .ok (.aload_n 0, 1) := by decide +kernel
theorem dX8_slot_46 : decode cX8_slot 46 = .ok (.getfield 40, 3) := by decide +kernel
theorem dX8_slot_49 : decode cX8_slot 49 = .ok (.iload_n 1, 1) := by decide +kernel
theorem dX8_slot_50 : decode cX8_slot 50 = .ok (.invokevirtual 215, 3) := by decide +kernel
theorem dX8_slot_53 : decode cX8_slot 53 = .ok (.aload_n 0, 1) := by decide +kernel
theorem dX8_slot_54 : decode cX8_slot 54 = .ok (.getfield 40, 3) := by decide +kernel
theorem dX8_slot_57 : decode cX8_slot 57 = .ok (.getfield 218, 3) := by decide +kernel
theorem dX8_slot_60 : decode cX8_slot 60 = .ok (.iload_n 2, 1) := by decide +kernel
theorem dX8_slot_61 : decode cX8_slot 61 = .ok (.laload, 1) := by decide +kernel
theorem dX8_slot_62 : decode cX8_slot 62 = .ok (.lreturn, 1) := by decide +kernel
theorem dX8_page_0 : decode cX8_page 0 = .ok (.aload_n 0, 1) := by decide +kernel
theorem dX8_page_1 : decode cX8_page 1 = .ok (.invokevirtual 99, 3) := by decide +kernel
theorem dX8_page_4 : decode cX8_page 4 = .ok (.aload_n 0, 1) := by decide +kernel
theorem dX8_page_5 : decode cX8_page 5 = .ok (.getfield 22, 3) := by decide +kernel
theorem dX8_page_8 : decode cX8_page 8 = .ok (.lload_n 1, 1) := by decide +kernel
theorem dX8_page_9 : decode cX8_page 9 = .ok (.invokevirtual 221, 3) := by decide +kernel
theorem dX8_page_12 : decode cX8_page 12 = .ok (.astore_n 3, 1) := by decide +kernel
theorem dX8_page_13 : decode cX8_page 13 = .ok (.aload_n 3, 1) := by decide +kernel
theorem dX8_page_14 : decode cX8_page 14 = .ok (.ifnonnull 7, 3) := by decide +kernel
theorem dX8_page_17 : decode cX8_page 17 = .ok (.iconst (-1), 1) := by decide +kernel
theorem dX8_page_18 : decode cX8_page 18 = .ok (.goto 7, 3) := by decide +kernel
theorem dX8_page_25 : decode cX8_page 25 = .ok (.ireturn, 1) := by decide +kernel
theorem dX8_byteOf_0 : decode cX8_byteOf 0 = .ok (.aload_n 0, 1) := by decide +kernel
theorem dX8_byteOf_1 : decode cX8_byteOf 1 = .ok (.iload_n 1, 1) := by decide +kernel
theorem dX8_byteOf_2 : decode cX8_byteOf 2 = .ok (.invokevirtual 228, 3) := by decide +kernel
theorem dX8_byteOf_5 : decode cX8_byteOf 5 = .ok (.iload_n 2, 1) := by decide +kernel
theorem dX8_byteOf_6 : decode cX8_byteOf 6 = .ok (.ifCond .lt 9, 3) := by decide +kernel
theorem dX8_byteOf_9 : decode cX8_byteOf 9 = .ok (.iload_n 2, 1) := by decide +kernel
theorem dX8_byteOf_10 : decode cX8_byteOf 10 = .ok (.bipush 16, 2) := by decide +kernel
theorem dX8_byteOf_12 : decode cX8_byteOf 12 = .ok (.if_icmp .lt 13, 3) := by decide +kernel
theorem dX8_byteOf_15 : decode cX8_byteOf 15 = .ok (.new 91, 3) := by decide +kernel
theorem dX8_byteOf_18 : decode cX8_byteOf 18 = .ok (.dup, 1) := by decide +kernel
theorem dX8_byteOf_19 : decode cX8_byteOf 19 = .ok (.ldc 231, 2) := by decide +kernel
theorem dX8_byteOf_21 : decode cX8_byteOf 21 = .ok (.invokespecial 95, 3) := by decide +kernel
theorem dX8_byteOf_24 : decode cX8_byteOf 24 = .ok (.athrow, 1) := by decide +kernel
theorem dX8_byteOf_25 : decode cX8_byteOf 25 = .ok (.aload_n 0, 1) := by decide +kernel
theorem dX8_byteOf_26 : decode cX8_byteOf 26 = .ok (.invokevirtual 99, 3) := by decide +kernel
theorem dX8_byteOf_29 : decode cX8_byteOf 29 = .ok (.aload_n 0, 1) := by decide +kernel
theorem dX8_byteOf_30 : decode cX8_byteOf 30 = .ok (.getfield 22, 3) := by decide +kernel
theorem dX8_byteOf_33 : decode cX8_byteOf 33 = .ok (.iload_n 1, 1) := by decide +kernel
theorem dX8_byteOf_34 : decode cX8_byteOf 34 = .ok (.invokevirtual 123, 3) := by decide +kernel
theorem dX8_byteOf_37 : decode cX8_byteOf 37 = .ok (.astore_n 3, 1) := by decide +kernel
theorem dX8_byteOf_38 : decode cX8_byteOf 38 = .ok (.aload_n 3, 1) := by decide +kernel
theorem dX8_byteOf_39 : decode cX8_byteOf 39 = .ok (.ifnull 11, 3) := by decide +kernel
theorem dX8_byteOf_50 : decode cX8_byteOf 50 = .ok (.iconst (-1), 1) := by decide +kernel
theorem dX8_byteOf_51 : decode cX8_byteOf 51 = .ok (.goto 15, 3) := by decide +kernel
theorem dX8_byteOf_66 : decode cX8_byteOf 66 = .ok (.ireturn, 1) := by decide +kernel
theorem dX8_named_0 : decode cX8_named 0 = .ok (.aload_n 0, 1) := by decide +kernel
theorem dX8_named_1 : decode cX8_named 1 = .ok (.iload_n 1, 1) := by decide +kernel
theorem dX8_named_2 : decode cX8_named 2 = .ok (.invokevirtual 228, 3) := by decide +kernel
theorem dX8_named_5 : decode cX8_named 5 = .ok (.aload_n 0, 1) := by decide +kernel
theorem dX8_named_6 : decode cX8_named 6 = .ok (.invokevirtual 99, 3) := by decide +kernel
theorem dX8_named_9 : decode cX8_named 9 = .ok (.aload_n 0, 1) := by decide +kernel
theorem dX8_named_10 : decode cX8_named 10 = .ok (.getfield 22, 3) := by decide +kernel
theorem dX8_named_13 : decode cX8_named 13 = .ok (.iload_n 1, 1) := by decide +kernel
theorem dX8_named_14 : decode cX8_named 14 = .ok (.invokevirtual 123, 3) := by decide +kernel
theorem dX8_named_17 : decode cX8_named 17 = .ok (.astore_n 2, 1) := by decide +kernel
theorem dX8_named_18 : decode cX8_named 18 = .ok (.aload_n 2, 1) := by decide +kernel
theorem dX8_named_19 : decode cX8_named 19 = .ok (.ifnull 21, 3) := by decide +kernel
theorem dX8_named_40 : decode cX8_named 40 = .ok (.iconst 0, 1) := by decide +kernel
theorem dX8_named_41 : decode cX8_named 41 = .ok (.ireturn, 1) := by decide +kernel
theorem dX8_prune_0 : decode cX8_prune 0 = .ok (.aload_n 0, 1) := by decide +kernel
theorem dX8_prune_1 : decode cX8_prune 1 = .ok (.invokevirtual 99, 3) := by decide +kernel
theorem dX8_prune_4 : decode cX8_prune 4 = .ok (.aload_n 0, 1) := by decide +kernel
theorem dX8_prune_5 : decode cX8_prune 5 = .ok (.getfield 31, 3) := by decide +kernel
theorem dX8_prune_8 : decode cX8_prune 8 = .ok (.invokevirtual 104, 3) := by decide +kernel
theorem dX8_prune_11 : decode cX8_prune 11 = .ok (.ifCond .eq 6, 3) := by decide +kernel
theorem dX8_prune_17 : decode cX8_prune 17 = .ok (.iload_n 1, 1) := by decide +kernel
theorem dX8_prune_18 : decode cX8_prune 18 = .ok (.aload_n 0, 1) := by decide +kernel
theorem dX8_prune_19 : decode cX8_prune 19 = .ok (.getfield 40, 3) := by decide +kernel
theorem dX8_prune_22 : decode cX8_prune 22 = .ok (.getfield 207, 3) := by decide +kernel
theorem dX8_prune_25 : decode cX8_prune 25 = .ok (.if_icmp .le 14, 3) := by decide +kernel
theorem dX8_prune_28 : decode cX8_prune 28 = .ok (.iload_n 1, 1) := by decide +kernel
theorem dX8_prune_29 : decode cX8_prune 29 = .ok (.aload_n 0, 1) := by decide +kernel
theorem dX8_prune_30 : decode cX8_prune 30 = .ok (.getfield 40, 3) := by decide +kernel
theorem dX8_prune_33 : decode cX8_prune 33 = .ok (.invokevirtual 204, 3) := by decide +kernel
theorem dX8_prune_36 : decode cX8_prune 36 = .ok (.if_icmp .le 13, 3) := by decide +kernel
theorem dX8_prune_39 : decode cX8_prune 39 = .ok (.new 76, 3) := by decide +kernel
theorem dX8_prune_42 : decode cX8_prune 42 = .ok (.dup, 1) := by decide +kernel
theorem dX8_prune_43 : decode cX8_prune 43 = .ok (.ldc 241, 2) := by decide +kernel
theorem dX8_prune_45 : decode cX8_prune 45 = .ok (.invokespecial 80, 3) := by decide +kernel
theorem dX8_prune_48 : decode cX8_prune 48 = .ok (.athrow, 1) := by decide +kernel
theorem dX8_out_0 : decode cX8_out 0 = .ok (.aload_n 0, 1) := by decide +kernel
theorem dX8_out_1 : decode cX8_out 1 = .ok (.invokevirtual 99, 3) := by decide +kernel
theorem dX8_out_4 : decode cX8_out 4 = .ok (.iload_n 1, 1) := by decide +kernel
theorem dX8_out_5 : decode cX8_out 5 = .ok (.ifCond .eq 14, 3) := by decide +kernel
theorem dX8_out_8 : decode cX8_out 8 = .ok (.aload_n 0, 1) := by decide +kernel
theorem dX8_out_9 : decode cX8_out 9 = .ok (.getfield 40, 3) := by decide +kernel
theorem dX8_out_12 : decode cX8_out 12 = .ok (.iload_n 1, 1) := by decide +kernel
theorem dX8_out_13 : decode cX8_out 13 = .ok (.invokevirtual 210, 3) := by decide +kernel
theorem dX8_out_16 : decode cX8_out 16 = .ok (.ifCond .ne 14, 3) := by decide +kernel
theorem dX8_out_19 : decode cX8_out 19 = .ok (.new 76, 3) := by decide +kernel
theorem dX8_out_22 : decode cX8_out 22 = .ok (.dup, 1) := by decide +kernel
theorem dX8_out_23 : decode cX8_out 23 = .ok (.ldc_w 261, 3) := by decide +kernel
theorem dX8_out_26 : decode cX8_out 26 = .ok (.invokespecial 80, 3) := by decide +kernel
theorem dX8_out_29 : decode cX8_out 29 = .ok (.athrow, 1) := by decide +kernel
theorem dX8_in_0 : decode cX8_in 0 = .ok (.aload_n 0, 1) := by decide +kernel
theorem dX8_in_1 : decode cX8_in 1 = .ok (.invokevirtual 99, 3) := by decide +kernel
theorem dX8_in_4 : decode cX8_in 4 = .ok (.aload_n 0, 1) := by decide +kernel
theorem dX8_in_5 : decode cX8_in 5 = .ok (.getfield 31, 3) := by decide +kernel
theorem dX8_in_8 : decode cX8_in 8 = .ok (.invokevirtual 104, 3) := by decide +kernel
theorem dX8_in_11 : decode cX8_in 11 = .ok (.ifCond .eq 6, 3) := by decide +kernel
theorem dX8_in_17 : decode cX8_in 17 = .ok (.aload_n 0, 1) := by decide +kernel
theorem dX8_in_18 : decode cX8_in 18 = .ok (.getfield 31, 3) := by decide +kernel
theorem dX8_in_21 : decode cX8_in 21 = .ok (.getfield 151, 3) := by decide +kernel
theorem dX8_in_24 : decode cX8_in 24 = .ok (.ifCond .le 6, 3) := by decide +kernel
theorem dX8_in_30 : decode cX8_in 30 = .ok (.aload_n 0, 1) := by decide +kernel
theorem dX8_in_31 : decode cX8_in 31 = .ok (.getfield 56, 3) := by decide +kernel
theorem dX8_in_34 : decode cX8_in 34 = .ok (.aload_n 0, 1) := by decide +kernel
theorem dX8_in_35 : decode cX8_in 35 = .ok (.getfield 13, 3) := by decide +kernel
theorem dX8_in_38 : decode cX8_in 38 = .ok (.invokevirtual 266, 3) := by decide +kernel
theorem dX8_in_41 : decode cX8_in 41 = .ok (.ifCond .ne 6, 3) := by decide +kernel
theorem dX8_in_44 : decode cX8_in 44 = .ok (.bipush (-10), 2) := by decide +kernel
theorem dX8_in_46 : decode cX8_in 46 = .ok (.ireturn, 1) := by decide +kernel
theorem dX8_cut_0 : decode cX8_cut 0 = .ok (.iload_n 1, 1) := by decide +kernel
theorem dX8_cut_1 : decode cX8_cut 1 = .ok (.iconst (-1), 1) := by decide +kernel
theorem dX8_cut_2 : decode cX8_cut 2 = .ok (.if_icmp .lt 10, 3) := by decide +kernel
theorem dX8_cut_5 : decode cX8_cut 5 = .ok (.iload_n 1, 1) := by decide +kernel
theorem dX8_cut_6 : decode cX8_cut 6 = .ok (.sipush 5000, 3) := by decide +kernel
theorem dX8_cut_9 : decode cX8_cut 9 = .ok (.if_icmp .le 14, 3) := by decide +kernel
theorem dX8_cut_12 : decode cX8_cut 12 = .ok (.new 76, 3) := by decide +kernel
theorem dX8_cut_15 : decode cX8_cut 15 = .ok (.dup, 1) := by decide +kernel
theorem dX8_cut_16 : decode cX8_cut 16 = .ok (.ldc_w 282, 3) := by decide +kernel
theorem dX8_cut_19 : decode cX8_cut 19 = .ok (.invokespecial 80, 3) := by decide +kernel
theorem dX8_cut_22 : decode cX8_cut 22 = .ok (.athrow, 1) := by decide +kernel
theorem dX8_cut_23 : decode cX8_cut 23 = .ok (.aload_n 0, 1) := by decide +kernel
theorem dX8_cut_24 : decode cX8_cut 24 = .ok (.getfield 22, 3) := by decide +kernel
theorem dX8_cut_27 : decode cX8_cut 27 = .ok (.iload_n 1, 1) := by decide +kernel
theorem dX8_cut_28 : decode cX8_cut 28 = .ok (.putfield 284, 3) := by decide +kernel
theorem dX8_cut_31 : decode cX8_cut 31 = .ok (.return_, 1) := by decide +kernel
theorem dX8_off_0 : decode cX8_off 0 = .ok (.aload_n 0, 1) := by decide +kernel
theorem dX8_off_1 : decode cX8_off 1 = .ok (.getfield 22, 3) := by decide +kernel
theorem dX8_off_4 : decode cX8_off 4 = .ok (.getfield 287, 3) := by decide +kernel
theorem dX8_off_7 : decode cX8_off 7 = .ok (.istore_n 1, 1) := by decide +kernel
theorem dX8_off_8 : decode cX8_off 8 = .ok (.aload_n 0, 1) := by decide +kernel
theorem dX8_off_9 : decode cX8_off 9 = .ok (.getfield 22, 3) := by decide +kernel
theorem dX8_off_12 : decode cX8_off 12 = .ok (.iconst 0, 1) := by decide +kernel
theorem dX8_off_13 : decode cX8_off 13 = .ok (.putfield 287, 3) := by decide +kernel
theorem dX8_off_16 : decode cX8_off 16 = .ok (.aload_n 0, 1) := by decide +kernel
theorem dX8_off_17 : decode cX8_off 17 = .ok (.iconst 0, 1) := by decide +kernel
theorem dX8_off_18 : decode cX8_off 18 = .ok (.putfield 72, 3) := by decide +kernel
theorem dX8_off_21 : decode cX8_off 21 = .ok (.iload_n 1, 1) := by decide +kernel
theorem dX8_off_22 : decode cX8_off 22 = .ok (.ireturn, 1) := by decide +kernel
theorem dX8_open_0 : decode cX8_open 0 = .ok (.aload_n 0, 1) := by decide +kernel
theorem dX8_open_1 : decode cX8_open 1 = .ok (.getfield 22, 3) := by decide +kernel
theorem dX8_open_4 : decode cX8_open 4 = .ok (.getfield 287, 3) := by decide +kernel
theorem dX8_open_7 : decode cX8_open 7 = .ok (.ifCond .eq 11, 3) := by decide +kernel
theorem dX8_open_10 : decode cX8_open 10 = .ok (.aload_n 0, 1) := by decide +kernel
theorem dX8_open_11 : decode cX8_open 11 = .ok (.getfield 31, 3) := by decide +kernel
theorem dX8_open_14 : decode cX8_open 14 = .ok (.getfield 151, 3) := by decide +kernel
theorem dX8_open_17 : decode cX8_open 17 = .ok (.ireturn, 1) := by decide +kernel
theorem dX8_poke_0 : decode cX8_poke 0 = .ok (.aload_n 0, 1) := by decide +kernel
theorem dX8_poke_1 : decode cX8_poke 1 = .ok (.iload_n 1, 1) := by decide +kernel
theorem dX8_poke_2 : decode cX8_poke 2 = .ok (.invokevirtual 297, 3) := by decide +kernel
theorem dX8_poke_5 : decode cX8_poke 5 = .ok (.aload_n 0, 1) := by decide +kernel
theorem dX8_poke_6 : decode cX8_poke 6 = .ok (.getfield 22, 3) := by decide +kernel
theorem dX8_poke_9 : decode cX8_poke 9 = .ok (.getfield 287, 3) := by decide +kernel
theorem dX8_poke_12 : decode cX8_poke 12 = .ok (.ifCond .eq 14, 3) := by decide +kernel
theorem dX8_poke_15 : decode cX8_poke 15 = .ok (.new 300, 3) := by decide +kernel
theorem dX8_poke_18 : decode cX8_poke 18 = .ok (.dup, 1) := by decide +kernel
theorem dX8_poke_19 : decode cX8_poke 19 = .ok (.ldc_w 302, 3) := by decide +kernel
theorem dX8_poke_22 : decode cX8_poke 22 = .ok (.invokespecial 304, 3) := by decide +kernel
theorem dX8_poke_25 : decode cX8_poke 25 = .ok (.athrow, 1) := by decide +kernel
theorem dX8_byteAt_0 : decode cX8_byteAt 0 = .ok (.aload_n 0, 1) := by decide +kernel
theorem dX8_byteAt_1 : decode cX8_byteAt 1 = .ok (.iload_n 1, 1) := by decide +kernel
theorem dX8_byteAt_2 : decode cX8_byteAt 2 = .ok (.invokevirtual 297, 3) := by decide +kernel
theorem dX8_byteAt_5 : decode cX8_byteAt 5 = .ok (.aload_n 0, 1) := by decide +kernel
theorem dX8_byteAt_6 : decode cX8_byteAt 6 = .ok (.getfield 22, 3) := by decide +kernel
theorem dX8_byteAt_9 : decode cX8_byteAt 9 = .ok (.iload_n 1, 1) := by decide +kernel
theorem dX8_byteAt_10 : decode cX8_byteAt 10 = .ok (.invokevirtual 307, 3) := by decide +kernel
theorem dX8_byteAt_13 : decode cX8_byteAt 13 = .ok (.ireturn, 1) := by decide +kernel
theorem dX8_asked_0 : decode cX8_asked 0 = .ok (.aload_n 0, 1) := by decide +kernel
theorem dX8_asked_1 : decode cX8_asked 1 = .ok (.invokevirtual 99, 3) := by decide +kernel
theorem dX8_asked_4 : decode cX8_asked 4 = .ok (.iload_n 1, 1) := by decide +kernel
theorem dX8_asked_5 : decode cX8_asked 5 = .ok (.ifCond .ge 5, 3) := by decide +kernel
theorem dX8_asked_8 : decode cX8_asked 8 = .ok (.iconst (-1), 1) := by decide +kernel
theorem dX8_asked_9 : decode cX8_asked 9 = .ok (.ireturn, 1) := by decide +kernel
theorem dX8_asked_10 : decode cX8_asked 10 = .ok (.iload_n 1, 1) := by decide +kernel
theorem dX8_asked_11 : decode cX8_asked 11 = .ok (.aload_n 0, 1) := by decide +kernel
theorem dX8_asked_12 : decode cX8_asked 12 = .ok (.getfield 31, 3) := by decide +kernel
theorem dX8_asked_15 : decode cX8_asked 15 = .ok (.getfield 312, 3) := by decide +kernel
theorem dX8_asked_18 : decode cX8_asked 18 = .ok (.if_icmp .ge 12, 3) := by decide +kernel
theorem dX8_asked_30 : decode cX8_asked 30 = .ok (.aload_n 0, 1) := by decide +kernel
theorem dX8_asked_31 : decode cX8_asked 31 = .ok (.getfield 22, 3) := by decide +kernel
theorem dX8_asked_34 : decode cX8_asked 34 = .ok (.iload_n 1, 1) := by decide +kernel
theorem dX8_asked_35 : decode cX8_asked 35 = .ok (.aload_n 0, 1) := by decide +kernel
theorem dX8_asked_36 : decode cX8_asked 36 = .ok (.getfield 31, 3) := by decide +kernel
theorem dX8_asked_39 : decode cX8_asked 39 = .ok (.getfield 312, 3) := by decide +kernel
theorem dX8_asked_42 : decode cX8_asked 42 = .ok (.isub, 1) := by decide +kernel
theorem dX8_asked_43 : decode cX8_asked 43 = .ok (.invokevirtual 318, 3) := by decide +kernel
theorem dX8_asked_46 : decode cX8_asked 46 = .ok (.astore_n 2, 1) := by decide +kernel
theorem dX8_asked_47 : decode cX8_asked 47 = .ok (.aload_n 2, 1) := by decide +kernel
theorem dX8_asked_48 : decode cX8_asked 48 = .ok (.ifnonnull 7, 3) := by decide +kernel
theorem dX8_asked_51 : decode cX8_asked 51 = .ok (.iconst (-1), 1) := by decide +kernel
theorem dX8_asked_52 : decode cX8_asked 52 = .ok (.goto 11, 3) := by decide +kernel
theorem dX8_asked_63 : decode cX8_asked 63 = .ok (.ireturn, 1) := by decide +kernel
theorem dX8_mend_0 : decode cX8_mend 0 = .ok (.aload_n 0, 1) := by decide +kernel
theorem dX8_mend_1 : decode cX8_mend 1 = .ok (.invokevirtual 99, 3) := by decide +kernel
theorem dX8_mend_4 : decode cX8_mend 4 = .ok (.aload_n 0, 1) := by decide +kernel
theorem dX8_mend_5 : decode cX8_mend 5 = .ok (.iload_n 1, 1) := by decide +kernel
theorem dX8_mend_6 : decode cX8_mend 6 = .ok (.invokevirtual 321, 3) := by decide +kernel
theorem dX8_mend_9 : decode cX8_mend 9 = .ok (.ifCond .ne 14, 3) := by decide +kernel
theorem dX8_mend_12 : decode cX8_mend 12 = .ok (.new 76, 3) := by decide +kernel
theorem dX8_mend_15 : decode cX8_mend 15 = .ok (.dup, 1) := by decide +kernel
theorem dX8_mend_16 : decode cX8_mend 16 = .ok (.ldc_w 324, 3) := by decide +kernel
theorem dX8_mend_19 : decode cX8_mend 19 = .ok (.invokespecial 80, 3) := by decide +kernel
theorem dX8_mend_22 : decode cX8_mend 22 = .ok (.athrow, 1) := by decide +kernel
theorem dX8_told_0 : decode cX8_told 0 = .ok (.iload_n 1, 1) := by decide +kernel
theorem dX8_told_1 : decode cX8_told 1 = .ok (.ifCond .lt 9, 3) := by decide +kernel
theorem dX8_told_4 : decode cX8_told 4 = .ok (.iload_n 1, 1) := by decide +kernel
theorem dX8_told_5 : decode cX8_told 5 = .ok (.bipush 8, 2) := by decide +kernel
theorem dX8_told_7 : decode cX8_told 7 = .ok (.if_icmp .le 14, 3) := by decide +kernel
theorem dX8_told_10 : decode cX8_told 10 = .ok (.new 76, 3) := by decide +kernel
theorem dX8_told_13 : decode cX8_told 13 = .ok (.dup, 1) := by decide +kernel
theorem dX8_told_14 : decode cX8_told 14 = .ok (.ldc_w 343, 3) := by decide +kernel
theorem dX8_told_17 : decode cX8_told 17 = .ok (.invokespecial 80, 3) := by decide +kernel
theorem dX8_told_20 : decode cX8_told 20 = .ok (.athrow, 1) := by decide +kernel
theorem dX8_told_21 : decode cX8_told 21 = .ok (.iload_n 1, 1) := by decide +kernel
theorem dX8_told_22 : decode cX8_told 22 = .ok (.iconst 1, 1) := by decide +kernel
theorem dX8_told_23 : decode cX8_told 23 = .ok (.if_icmp .ne 11, 3) := by decide +kernel
theorem dX8_told_26 : decode cX8_told 26 = .ok (.aload_n 0, 1) := by decide +kernel
theorem dX8_told_27 : decode cX8_told 27 = .ok (.getfield 22, 3) := by decide +kernel
theorem dX8_told_30 : decode cX8_told 30 = .ok (.getfield 345, 3) := by decide +kernel
theorem dX8_told_33 : decode cX8_told 33 = .ok (.ireturn, 1) := by decide +kernel
theorem dX8_told_34 : decode cX8_told 34 = .ok (.aload_n 0, 1) := by decide +kernel
theorem dX8_told_35 : decode cX8_told 35 = .ok (.getfield 22, 3) := by decide +kernel
theorem dX8_told_38 : decode cX8_told 38 = .ok (.getfield 287, 3) := by decide +kernel
theorem dX8_told_41 : decode cX8_told 41 = .ok (.ifCond .ne 5, 3) := by decide +kernel
theorem dX8_told_46 : decode cX8_told 46 = .ok (.iload_n 1, 1) := by decide +kernel
theorem dX8_told_47 : decode cX8_told 47 = .ok (.tableswitch 94 2 8 #[41, 49, 57, 65, 73, 81, 89], 41) := by decide +kernel
theorem dX8_told_88 : decode cX8_told 88 = .ok (.aload_n 0, 1) := by decide +kernel
theorem dX8_told_89 : decode cX8_told 89 = .ok (.getfield 31, 3) := by decide +kernel
theorem dX8_told_92 : decode cX8_told 92 = .ok (.getfield 252, 3) := by decide +kernel
theorem dX8_told_95 : decode cX8_told 95 = .ok (.ireturn, 1) := by decide +kernel
theorem dX8_told_96 : decode cX8_told 96 = .ok (.aload_n 0, 1) := by decide +kernel
theorem dX8_told_97 : decode cX8_told 97 = .ok (.getfield 31, 3) := by decide +kernel
theorem dX8_told_100 : decode cX8_told 100 = .ok (.getfield 348, 3) := by decide +kernel
theorem dX8_told_103 : decode cX8_told 103 = .ok (.ireturn, 1) := by decide +kernel
theorem dX8_told_104 : decode cX8_told 104 = .ok (.aload_n 0, 1) := by decide +kernel
theorem dX8_told_105 : decode cX8_told 105 = .ok (.getfield 31, 3) := by decide +kernel
theorem dX8_told_108 : decode cX8_told 108 = .ok (.getfield 151, 3) := by decide +kernel
theorem dX8_told_111 : decode cX8_told 111 = .ok (.ireturn, 1) := by decide +kernel
theorem dX8_told_112 : decode cX8_told 112 = .ok (.aload_n 0, 1) := by decide +kernel
theorem dX8_told_113 : decode cX8_told 113 = .ok (.getfield 22, 3) := by decide +kernel
theorem dX8_told_116 : decode cX8_told 116 = .ok (.invokevirtual 273, 3) := by decide +kernel
theorem dX8_told_119 : decode cX8_told 119 = .ok (.ireturn, 1) := by decide +kernel
theorem dX8_told_120 : decode cX8_told 120 = .ok (.aload_n 0, 1) := by decide +kernel
theorem dX8_told_121 : decode cX8_told 121 = .ok (.getfield 31, 3) := by decide +kernel
theorem dX8_told_124 : decode cX8_told 124 = .ok (.getfield 312, 3) := by decide +kernel
theorem dX8_told_127 : decode cX8_told 127 = .ok (.ireturn, 1) := by decide +kernel
theorem dX8_told_128 : decode cX8_told 128 = .ok (.aload_n 0, 1) := by decide +kernel
theorem dX8_told_129 : decode cX8_told 129 = .ok (.getfield 22, 3) := by decide +kernel
theorem dX8_told_132 : decode cX8_told 132 = .ok (.invokevirtual 340, 3) := by decide +kernel
theorem dX8_told_135 : decode cX8_told 135 = .ok (.ireturn, 1) := by decide +kernel
theorem dX8_told_136 : decode cX8_told 136 = .ok (.aload_n 0, 1) := by decide +kernel
theorem dX8_told_137 : decode cX8_told 137 = .ok (.getfield 72, 3) := by decide +kernel
theorem dX8_told_140 : decode cX8_told 140 = .ok (.ireturn, 1) := by decide +kernel
theorem dX8_told_141 : decode cX8_told 141 = .ok (.iconst 1, 1) := by decide +kernel
theorem dX8_told_142 : decode cX8_told 142 = .ok (.ireturn, 1) := by decide +kernel
theorem dX8_demandPower_0 : decode cX8_demandPower 0 = .ok (.aload_n 0, 1) := by decide +kernel
theorem dX8_demandPower_1 : decode cX8_demandPower 1 = .ok (.getfield 22, 3) := by decide +kernel
theorem dX8_demandPower_4 : decode cX8_demandPower 4 = .ok (.getfield 287, 3) := by decide +kernel
theorem dX8_demandPower_7 : decode cX8_demandPower 7 = .ok (.ifCond .ne 14, 3) := by decide +kernel
theorem dX8_demandPower_21 : decode cX8_demandPower 21 = .ok (.return_, 1) := by decide +kernel
theorem dX8_demandHeight_0 : decode cX8_demandHeight 0 = .ok (.iload_n 0, 1) := by decide +kernel
theorem dX8_demandHeight_1 : decode cX8_demandHeight 1 = .ok (.invokestatic 353, 3) := by decide +kernel
theorem dX8_demandHeight_4 : decode cX8_demandHeight 4 = .ok (.ifCond .ne 14, 3) := by decide +kernel
theorem dX8_demandHeight_7 : decode cX8_demandHeight 7 = .ok (.new 76, 3) := by decide +kernel
theorem dX8_demandHeight_10 : decode cX8_demandHeight 10 = .ok (.dup, 1) := by decide +kernel
theorem dX8_demandHeight_11 : decode cX8_demandHeight 11 = .ok (.ldc_w 356, 3) := by decide +kernel
theorem dX8_demandHeight_14 : decode cX8_demandHeight 14 = .ok (.invokespecial 80, 3) := by decide +kernel
theorem dX8_demandHeight_17 : decode cX8_demandHeight 17 = .ok (.athrow, 1) := by decide +kernel
theorem dX8_demandHeight_18 : decode cX8_demandHeight 18 = .ok (.return_, 1) := by decide +kernel
theorem dX8_demandRow_0 : decode cX8_demandRow 0 = .ok (.aload_n 0, 1) := by decide +kernel
theorem dX8_demandRow_1 : decode cX8_demandRow 1 = .ok (.getfield 22, 3) := by decide +kernel
theorem dX8_demandRow_4 : decode cX8_demandRow 4 = .ok (.getfield 287, 3) := by decide +kernel
theorem dX8_demandRow_7 : decode cX8_demandRow 7 = .ok (.ifCond .eq 13, 3) := by decide +kernel
theorem dX8_demandRow_10 : decode cX8_demandRow 10 = .ok (.aload_n 0, 1) := by decide +kernel
theorem dX8_demandRow_11 : decode cX8_demandRow 11 = .ok (.getfield 31, 3) := by decide +kernel
theorem dX8_demandRow_14 : decode cX8_demandRow 14 = .ok (.getfield 151, 3) := by decide +kernel
theorem dX8_demandRow_17 : decode cX8_demandRow 17 = .ok (.goto 6, 3) := by decide +kernel
theorem dX8_demandRow_23 : decode cX8_demandRow 23 = .ok (.istore_n 2, 1) := by decide +kernel
theorem dX8_demandRow_24 : decode cX8_demandRow 24 = .ok (.iload_n 1, 1) := by decide +kernel
theorem dX8_demandRow_25 : decode cX8_demandRow 25 = .ok (.ifCond .lt 8, 3) := by decide +kernel
theorem dX8_demandRow_28 : decode cX8_demandRow 28 = .ok (.iload_n 1, 1) := by decide +kernel
theorem dX8_demandRow_29 : decode cX8_demandRow 29 = .ok (.iload_n 2, 1) := by decide +kernel
theorem dX8_demandRow_30 : decode cX8_demandRow 30 = .ok (.if_icmp .lt 14, 3) := by decide +kernel
theorem dX8_demandRow_33 : decode cX8_demandRow 33 = .ok (.new 91, 3) := by decide +kernel
theorem dX8_demandRow_36 : decode cX8_demandRow 36 = .ok (.dup, 1) := by decide +kernel
theorem dX8_demandRow_37 : decode cX8_demandRow 37 = .ok (.ldc_w 358, 3) := by decide +kernel
theorem dX8_demandRow_40 : decode cX8_demandRow 40 = .ok (.invokespecial 95, 3) := by decide +kernel
theorem dX8_demandRow_43 : decode cX8_demandRow 43 = .ok (.athrow, 1) := by decide +kernel
theorem dX8_demandPage_0 : decode cX8_demandPage 0 = .ok (.iload_n 1, 1) := by decide +kernel
theorem dX8_demandPage_1 : decode cX8_demandPage 1 = .ok (.ifCond .lt 14, 3) := by decide +kernel
theorem dX8_demandPage_4 : decode cX8_demandPage 4 = .ok (.iload_n 1, 1) := by decide +kernel
theorem dX8_demandPage_5 : decode cX8_demandPage 5 = .ok (.aload_n 0, 1) := by decide +kernel
theorem dX8_demandPage_6 : decode cX8_demandPage 6 = .ok (.getfield 22, 3) := by decide +kernel
theorem dX8_demandPage_9 : decode cX8_demandPage 9 = .ok (.getfield 118, 3) := by decide +kernel
theorem dX8_demandPage_12 : decode cX8_demandPage 12 = .ok (.if_icmp .lt 13, 3) := by decide +kernel
theorem dX8_demandPage_15 : decode cX8_demandPage 15 = .ok (.new 91, 3) := by decide +kernel
theorem dX8_demandPage_18 : decode cX8_demandPage 18 = .ok (.dup, 1) := by decide +kernel
theorem dX8_demandPage_19 : decode cX8_demandPage 19 = .ok (.ldc 121, 2) := by decide +kernel
theorem dX8_demandPage_21 : decode cX8_demandPage 21 = .ok (.invokespecial 95, 3) := by decide +kernel
theorem dX8_demandPage_24 : decode cX8_demandPage 24 = .ok (.athrow, 1) := by decide +kernel
theorem dX8_demandPage_25 : decode cX8_demandPage 25 = .ok (.return_, 1) := by decide +kernel
theorem dX8_demandPlace_0 : decode cX8_demandPlace 0 = .ok (.iload_n 1, 1) := by decide +kernel
theorem dX8_demandPlace_1 : decode cX8_demandPlace 1 = .ok (.ifCond .lt 21, 3) := by decide +kernel
theorem dX8_demandPlace_4 : decode cX8_demandPlace 4 = .ok (.iload_n 1, 1) := by decide +kernel
theorem dX8_demandPlace_5 : decode cX8_demandPlace 5 = .ok (.sipush 8224, 3) := by decide +kernel
theorem dX8_demandPlace_8 : decode cX8_demandPlace 8 = .ok (.bipush 26, 2) := by decide +kernel
theorem dX8_demandPlace_10 : decode cX8_demandPlace 10 = .ok (.aload_n 0, 1) := by decide +kernel
theorem dX8_demandPlace_11 : decode cX8_demandPlace 11 = .ok (.getfield 22, 3) := by decide +kernel
theorem dX8_demandPlace_14 : decode cX8_demandPlace 14 = .ok (.getfield 118, 3) := by decide +kernel
theorem dX8_demandPlace_17 : decode cX8_demandPlace 17 = .ok (.imul, 1) := by decide +kernel
theorem dX8_demandPlace_18 : decode cX8_demandPlace 18 = .ok (.iadd, 1) := by decide +kernel
theorem dX8_demandPlace_19 : decode cX8_demandPlace 19 = .ok (.if_icmp .lt 14, 3) := by decide +kernel
theorem dX8_demandPlace_22 : decode cX8_demandPlace 22 = .ok (.new 91, 3) := by decide +kernel
theorem dX8_demandPlace_25 : decode cX8_demandPlace 25 = .ok (.dup, 1) := by decide +kernel
theorem dX8_demandPlace_26 : decode cX8_demandPlace 26 = .ok (.ldc_w 360, 3) := by decide +kernel
theorem dX8_demandPlace_29 : decode cX8_demandPlace 29 = .ok (.invokespecial 95, 3) := by decide +kernel
theorem dX8_demandPlace_32 : decode cX8_demandPlace 32 = .ok (.athrow, 1) := by decide +kernel
theorem dX8_demandPlace_33 : decode cX8_demandPlace 33 = .ok (.return_, 1) := by decide +kernel
theorem dX8_isHeight_0 : decode cX8_isHeight 0 = .ok (.iload_n 0, 1) := by decide +kernel
theorem dX8_isHeight_1 : decode cX8_isHeight 1 = .ok (.iconst 1, 1) := by decide +kernel
theorem dX8_isHeight_2 : decode cX8_isHeight 2 = .ok (.if_icmp .lt 13, 3) := by decide +kernel
theorem dX8_isHeight_5 : decode cX8_isHeight 5 = .ok (.iload_n 0, 1) := by decide +kernel
theorem dX8_isHeight_6 : decode cX8_isHeight 6 = .ok (.ldc 163, 2) := by decide +kernel
theorem dX8_isHeight_8 : decode cX8_isHeight 8 = .ok (.if_icmp .gt 7, 3) := by decide +kernel
theorem dX8_isHeight_11 : decode cX8_isHeight 11 = .ok (.iconst 1, 1) := by decide +kernel
theorem dX8_isHeight_12 : decode cX8_isHeight 12 = .ok (.goto 4, 3) := by decide +kernel
theorem dX8_isHeight_15 : decode cX8_isHeight 15 = .ok (.iconst 0, 1) := by decide +kernel
theorem dX8_isHeight_16 : decode cX8_isHeight 16 = .ok (.ireturn, 1) := by decide +kernel
theorem dX8_collectedDigest_0 : decode cX8_collectedDigest 0 = .ok (.iconst 4, 1) := by decide +kernel
theorem dX8_collectedDigest_1 : decode cX8_collectedDigest 1 = .ok (.invokestatic 396, 3) := by decide +kernel
theorem dX8_collectedDigest_4 : decode cX8_collectedDigest 4 = .ok (.iload_n 1, 1) := by decide +kernel
theorem dX8_collectedDigest_5 : decode cX8_collectedDigest 5 = .ok (.invokestatic 399, 3) := by decide +kernel
theorem dX8_collectedDigest_8 : decode cX8_collectedDigest 8 = .ok (.lload_n 2, 1) := by decide +kernel
theorem dX8_collectedDigest_9 : decode cX8_collectedDigest 9 = .ok (.invokestatic 403, 3) := by decide +kernel
theorem dX8_collectedDigest_12 : decode cX8_collectedDigest 12 = .ok (.lstore 4, 2) := by decide +kernel
theorem dX8_collectedDigest_14 : decode cX8_collectedDigest 14 = .ok (.iconst 0, 1) := by decide +kernel
theorem dX8_collectedDigest_15 : decode cX8_collectedDigest 15 = .ok (.istore 6, 2) := by decide +kernel
theorem dX8_collectedDigest_17 : decode cX8_collectedDigest 17 = .ok (.iload 6, 2) := by decide +kernel
theorem dX8_collectedDigest_19 : decode cX8_collectedDigest 19 = .ok (.aload_n 0, 1) := by decide +kernel
theorem dX8_collectedDigest_20 : decode cX8_collectedDigest 20 = .ok (.getfield 72, 3) := by decide +kernel
theorem dX8_collectedDigest_23 : decode cX8_collectedDigest 23 = .ok (.if_icmp .ge 33, 3) := by decide +kernel
theorem dX8_collectedDigest_56 : decode cX8_collectedDigest 56 = .ok (.lload 4, 2) := by decide +kernel
theorem dX8_collectedDigest_58 : decode cX8_collectedDigest 58 = .ok (.lreturn, 1) := by decide +kernel
theorem dX8_writeBlock_0 : decode cX8_writeBlock 0 = .ok (.aload_n 0, 1) := by decide +kernel
theorem dX8_writeBlock_1 : decode cX8_writeBlock 1 = .ok (.getfield 31, 3) := by decide +kernel
theorem dX8_writeBlock_4 : decode cX8_writeBlock 4 = .ok (.getfield 151, 3) := by decide +kernel
theorem dX8_writeBlock_7 : decode cX8_writeBlock 7 = .ok (.istore 5, 2) := by decide +kernel
theorem dX8_writeBlock_9 : decode cX8_writeBlock 9 = .ok (.aload_n 0, 1) := by decide +kernel
theorem dX8_writeBlock_10 : decode cX8_writeBlock 10 = .ok (.getfield 31, 3) := by decide +kernel
theorem dX8_writeBlock_13 : decode cX8_writeBlock 13 = .ok (.iconst 2, 1) := by decide +kernel
theorem dX8_writeBlock_14 : decode cX8_writeBlock 14 = .ok (.iload_n 1, 1) := by decide +kernel
theorem dX8_writeBlock_15 : decode cX8_writeBlock 15 = .ok (.iload 4, 2) := by decide +kernel
theorem dX8_writeBlock_17 : decode cX8_writeBlock 17 = .ok (.lload_n 2, 1) := by decide +kernel
theorem dX8_writeBlock_18 : decode cX8_writeBlock 18 = .ok (.invokevirtual 377, 3) := by decide +kernel
theorem dX8_writeBlock_21 : decode cX8_writeBlock 21 = .ok (.ifCond .ne 6, 3) := by decide +kernel
theorem dX8_writeBlock_27 : decode cX8_writeBlock 27 = .ok (.iconst 0, 1) := by decide +kernel
theorem dX8_writeBlock_28 : decode cX8_writeBlock 28 = .ok (.istore 6, 2) := by decide +kernel
theorem dX8_writeBlock_30 : decode cX8_writeBlock 30 = .ok (.iload 6, 2) := by decide +kernel
theorem dX8_writeBlock_32 : decode cX8_writeBlock 32 = .ok (.iload 4, 2) := by decide +kernel
theorem dX8_writeBlock_34 : decode cX8_writeBlock 34 = .ok (.if_icmp .ge 38, 3) := by decide +kernel
theorem dX8_writeBlock_72 : decode cX8_writeBlock 72 = .ok (.aload_n 0, 1) := by decide +kernel
theorem dX8_writeBlock_73 : decode cX8_writeBlock 73 = .ok (.getfield 40, 3) := by decide +kernel
theorem dX8_writeBlock_76 : decode cX8_writeBlock 76 = .ok (.invokevirtual 380, 3) := by decide +kernel
theorem dX8_writeBlock_79 : decode cX8_writeBlock 79 = .ok (.iload 5, 2) := by decide +kernel
theorem dX8_writeBlock_81 : decode cX8_writeBlock 81 = .ok (.ireturn, 1) := by decide +kernel
theorem dX8_isAsked_0 : decode cX8_isAsked 0 = .ok (.iload_n 1, 1) := by decide +kernel
theorem dX8_isAsked_1 : decode cX8_isAsked 1 = .ok (.ifCond .ge 5, 3) := by decide +kernel
theorem dX8_isAsked_4 : decode cX8_isAsked 4 = .ok (.iconst 0, 1) := by decide +kernel
theorem dX8_isAsked_5 : decode cX8_isAsked 5 = .ok (.ireturn, 1) := by decide +kernel
theorem dX8_isAsked_6 : decode cX8_isAsked 6 = .ok (.iload_n 1, 1) := by decide +kernel
theorem dX8_isAsked_7 : decode cX8_isAsked 7 = .ok (.sipush 128, 3) := by decide +kernel
theorem dX8_isAsked_10 : decode cX8_isAsked 10 = .ok (.if_icmp .ge 32, 3) := by decide +kernel
theorem dX8_isAsked_13 : decode cX8_isAsked 13 = .ok (.iload_n 1, 1) := by decide +kernel
theorem dX8_isAsked_14 : decode cX8_isAsked 14 = .ok (.aload_n 0, 1) := by decide +kernel
theorem dX8_isAsked_15 : decode cX8_isAsked 15 = .ok (.getfield 31, 3) := by decide +kernel
theorem dX8_isAsked_18 : decode cX8_isAsked 18 = .ok (.getfield 151, 3) := by decide +kernel
theorem dX8_isAsked_21 : decode cX8_isAsked 21 = .ok (.if_icmp .ge 19, 3) := by decide +kernel
theorem dX8_isAsked_40 : decode cX8_isAsked 40 = .ok (.iconst 0, 1) := by decide +kernel
theorem dX8_isAsked_41 : decode cX8_isAsked 41 = .ok (.ireturn, 1) := by decide +kernel
theorem dX8_isAsked_42 : decode cX8_isAsked 42 = .ok (.aload_n 0, 1) := by decide +kernel
theorem dX8_isAsked_43 : decode cX8_isAsked 43 = .ok (.getfield 22, 3) := by decide +kernel
theorem dX8_isAsked_46 : decode cX8_isAsked 46 = .ok (.iload_n 1, 1) := by decide +kernel
theorem dX8_isAsked_47 : decode cX8_isAsked 47 = .ok (.sipush 128, 3) := by decide +kernel
theorem dX8_isAsked_50 : decode cX8_isAsked 50 = .ok (.isub, 1) := by decide +kernel
theorem dX8_isAsked_51 : decode cX8_isAsked 51 = .ok (.invokevirtual 463, 3) := by decide +kernel
theorem dX8_isAsked_54 : decode cX8_isAsked 54 = .ok (.astore_n 2, 1) := by decide +kernel
theorem dX8_isAsked_55 : decode cX8_isAsked 55 = .ok (.aload_n 2, 1) := by decide +kernel
theorem dX8_isAsked_56 : decode cX8_isAsked 56 = .ok (.ifnull 15, 3) := by decide +kernel
theorem dX8_isAsked_71 : decode cX8_isAsked 71 = .ok (.iconst 0, 1) := by decide +kernel
theorem dX8_isAsked_72 : decode cX8_isAsked 72 = .ok (.ireturn, 1) := by decide +kernel
theorem dX9_thrown_0 : decode cX9_thrown 0 = .ok (.aload_n 0, 1) := by decide +kernel
theorem dX9_thrown_1 : decode cX9_thrown 1 = .ok (.getfield 91, 3) := by decide +kernel
theorem dX9_thrown_4 : decode cX9_thrown 4 = .ok (.ireturn, 1) := by decide +kernel
theorem dX9_within_0 : decode cX9_within 0 = .ok (.iload_n 0, 1) := by decide +kernel
theorem dX9_within_1 : decode cX9_within 1 = .ok (.iload_n 1, 1) := by decide +kernel
theorem dX9_within_2 : decode cX9_within 2 = .ok (.if_icmp .lt 12, 3) := by decide +kernel
theorem dX9_within_5 : decode cX9_within 5 = .ok (.iload_n 0, 1) := by decide +kernel
theorem dX9_within_6 : decode cX9_within 6 = .ok (.iload_n 2, 1) := by decide +kernel
theorem dX9_within_7 : decode cX9_within 7 = .ok (.if_icmp .gt 7, 3) := by decide +kernel
theorem dX9_within_10 : decode cX9_within 10 = .ok (.iconst 1, 1) := by decide +kernel
theorem dX9_within_11 : decode cX9_within 11 = .ok (.goto 4, 3) := by decide +kernel
theorem dX9_within_14 : decode cX9_within 14 = .ok (.iconst 0, 1) := by decide +kernel
theorem dX9_within_15 : decode cX9_within 15 = .ok (.ireturn, 1) := by decide +kernel
theorem dX9_act_0 : decode cX9_act 0 = .ok (.aload_n 0, 1) := by decide +kernel
theorem dX9_act_1 : decode cX9_act 1 = .ok (.getfield 108, 3) := by decide +kernel
theorem dX9_act_4 : decode cX9_act 4 = .ok (.ifCond .eq 5, 3) := by decide +kernel
theorem dX9_act_9 : decode cX9_act 9 = .ok (.aload_n 0, 1) := by decide +kernel
theorem dX9_act_10 : decode cX9_act 10 = .ok (.getfield 69, 3) := by decide +kernel
theorem dX9_act_13 : decode cX9_act 13 = .ok (.ifCond .ne 25, 3) := by decide +kernel
theorem dX9_act_38 : decode cX9_act 38 = .ok (.aload_n 0, 1) := by decide +kernel
theorem dX9_act_39 : decode cX9_act 39 = .ok (.dup, 1) := by decide +kernel
theorem dX9_act_40 : decode cX9_act 40 = .ok (.getfield 69, 3) := by decide +kernel
theorem dX9_act_43 : decode cX9_act 43 = .ok (.aload_n 0, 1) := by decide +kernel
theorem dX9_act_44 : decode cX9_act 44 = .ok (.getfield 69, 3) := by decide +kernel
theorem dX9_act_47 : decode cX9_act 47 = .ok (.ifCond .le 7, 3) := by decide +kernel
theorem dX9_act_54 : decode cX9_act 54 = .ok (.iconst 0, 1) := by decide +kernel
theorem dX9_act_55 : decode cX9_act 55 = .ok (.isub, 1) := by decide +kernel
theorem dX9_act_56 : decode cX9_act 56 = .ok (.putfield 69, 3) := by decide +kernel
theorem dX9_act_59 : decode cX9_act 59 = .ok (.aload_n 0, 1) := by decide +kernel
theorem dX9_act_60 : decode cX9_act 60 = .ok (.dup, 1) := by decide +kernel
theorem dX9_act_61 : decode cX9_act 61 = .ok (.getfield 114, 3) := by decide +kernel
theorem dX9_act_64 : decode cX9_act 64 = .ok (.iconst 1, 1) := by decide +kernel
theorem dX9_act_65 : decode cX9_act 65 = .ok (.iadd, 1) := by decide +kernel
theorem dX9_act_66 : decode cX9_act 66 = .ok (.putfield 114, 3) := by decide +kernel
theorem dX9_act_69 : decode cX9_act 69 = .ok (.iconst 1, 1) := by decide +kernel
theorem dX9_act_70 : decode cX9_act 70 = .ok (.ireturn, 1) := by decide +kernel
theorem dX9_write_0 : decode cX9_write 0 = .ok (.aload_n 0, 1) := by decide +kernel
theorem dX9_write_1 : decode cX9_write 1 = .ok (.invokevirtual 117, 3) := by decide +kernel
theorem dX9_write_4 : decode cX9_write 4 = .ok (.ifCond .eq 9, 3) := by decide +kernel
theorem dX9_write_7 : decode cX9_write 7 = .ok (.aload_n 0, 1) := by decide +kernel
theorem dX9_write_8 : decode cX9_write 8 = .ok (.iload_n 1, 1) := by decide +kernel
theorem dX9_write_9 : decode cX9_write 9 = .ok (.iload_n 2, 1) := by decide +kernel
theorem dX9_write_10 : decode cX9_write 10 = .ok (.invokevirtual 83, 3) := by decide +kernel
theorem dX9_write_13 : decode cX9_write 13 = .ok (.return_, 1) := by decide +kernel
theorem dX9_put_0 : decode cX9_put 0 = .ok (.iconst 0, 1) := by decide +kernel
theorem dX9_put_1 : decode cX9_put 1 = .ok (.istore 5, 2) := by decide +kernel
theorem dX9_put_3 : decode cX9_put 3 = .ok (.iload 5, 2) := by decide +kernel
theorem dX9_put_5 : decode cX9_put 5 = .ok (.iload 4, 2) := by decide +kernel
theorem dX9_put_7 : decode cX9_put 7 = .ok (.if_icmp .ge 35, 3) := by decide +kernel
theorem dX9_put_10 : decode cX9_put 10 = .ok (.aload_n 0, 1) := by decide +kernel
theorem dX9_put_11 : decode cX9_put 11 = .ok (.getfield 24, 3) := by decide +kernel
theorem dX9_put_14 : decode cX9_put 14 = .ok (.iload_n 1, 1) := by decide +kernel
theorem dX9_put_15 : decode cX9_put 15 = .ok (.iload 5, 2) := by decide +kernel
theorem dX9_put_17 : decode cX9_put 17 = .ok (.iadd, 1) := by decide +kernel
theorem dX9_put_18 : decode cX9_put 18 = .ok (.lload_n 2, 1) := by decide +kernel
theorem dX9_put_19 : decode cX9_put 19 = .ok (.bipush 8, 2) := by decide +kernel
theorem dX9_put_21 : decode cX9_put 21 = .ok (.iload 4, 2) := by decide +kernel
theorem dX9_put_23 : decode cX9_put 23 = .ok (.iconst 1, 1) := by decide +kernel
theorem dX9_put_24 : decode cX9_put 24 = .ok (.isub, 1) := by decide +kernel
theorem dX9_put_25 : decode cX9_put 25 = .ok (.iload 5, 2) := by decide +kernel
theorem dX9_put_27 : decode cX9_put 27 = .ok (.isub, 1) := by decide +kernel
theorem dX9_put_28 : decode cX9_put 28 = .ok (.imul, 1) := by decide +kernel
theorem dX9_put_29 : decode cX9_put 29 = .ok (.lushr, 1) := by decide +kernel
theorem dX9_put_30 : decode cX9_put 30 = .ok (.ldc2_w 94, 3) := by decide +kernel
theorem dX9_put_33 : decode cX9_put 33 = .ok (.land, 1) := by decide +kernel
theorem dX9_put_34 : decode cX9_put 34 = .ok (.l2i, 1) := by decide +kernel
theorem dX9_put_35 : decode cX9_put 35 = .ok (.iastore, 1) := by decide +kernel
theorem dX9_put_36 : decode cX9_put 36 = .ok (.iinc 5 1, 3) := by decide +kernel
theorem dX9_put_39 : decode cX9_put 39 = .ok (.goto (-36), 3) := by decide +kernel
theorem dX9_put_42 : decode cX9_put 42 = .ok (.return_, 1) := by decide +kernel
theorem dX9_freshSum_0 : decode cX9_freshSum 0 = .ok (.ldc2_w 102, 3) := by decide +kernel
theorem dX9_freshSum_3 : decode cX9_freshSum 3 = .ok (.iload_n 1, 1) := by decide +kernel
theorem dX9_freshSum_4 : decode cX9_freshSum 4 = .ok (.i2l, 1) := by decide +kernel
theorem dX9_freshSum_5 : decode cX9_freshSum 5 = .ok (.lmul, 1) := by decide +kernel
theorem dX9_freshSum_6 : decode cX9_freshSum 6 = .ok (.lstore_n 3, 1) := by decide +kernel
theorem dX9_freshSum_7 : decode cX9_freshSum 7 = .ok (.iconst 0, 1) := by decide +kernel
theorem dX9_freshSum_8 : decode cX9_freshSum 8 = .ok (.istore 5, 2) := by decide +kernel
theorem dX9_freshSum_10 : decode cX9_freshSum 10 = .ok (.iload 5, 2) := by decide +kernel
theorem dX9_freshSum_12 : decode cX9_freshSum 12 = .ok (.iload_n 2, 1) := by decide +kernel
theorem dX9_freshSum_13 : decode cX9_freshSum 13 = .ok (.if_icmp .ge 21, 3) := by decide +kernel
theorem dX9_freshSum_16 : decode cX9_freshSum 16 = .ok (.lload_n 3, 1) := by decide +kernel
theorem dX9_freshSum_17 : decode cX9_freshSum 17 = .ok (.aload_n 0, 1) := by decide +kernel
theorem dX9_freshSum_18 : decode cX9_freshSum 18 = .ok (.getfield 24, 3) := by decide +kernel
theorem dX9_freshSum_21 : decode cX9_freshSum 21 = .ok (.iload 5, 2) := by decide +kernel
theorem dX9_freshSum_23 : decode cX9_freshSum 23 = .ok (.iaload, 1) := by decide +kernel
theorem dX9_freshSum_24 : decode cX9_freshSum 24 = .ok (.invokestatic 104, 3) := by decide +kernel
theorem dX9_freshSum_27 : decode cX9_freshSum 27 = .ok (.lstore_n 3, 1) := by decide +kernel
theorem dX9_freshSum_28 : decode cX9_freshSum 28 = .ok (.iinc 5 1, 3) := by decide +kernel
theorem dX9_freshSum_31 : decode cX9_freshSum 31 = .ok (.goto (-21), 3) := by decide +kernel
