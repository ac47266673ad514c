theorem dX9_kindOf_1 : decode cX9_kindOf 1 = .ok (.aload_n 0, 1) := by decide +kernel
theorem dX9_kindOf_2 : decode cX9_kindOf 2 = .ok (.aload_n 0, 1) := by decide +kernel
theorem dX9_kindOf_3 : decode cX9_kindOf 3 = .ok (.getfield 76, 3) := by decide +kernel
theorem dX9_kindOf_6 : decode cX9_kindOf 6 = .ok (.iload_n 1, 1) := by decide +kernel
theorem dX9_kindOf_7 : decode cX9_kindOf 7 = .ok (.invokevirtual 146, 3) := by decide +kernel
theorem dX9_kindOf_10 : decode cX9_kindOf 10 = .ok (.invokevirtual 96, 3) := by decide +kernel
theorem dX9_kindOf_13 : decode cX9_kindOf 13 = .ok (.ireturn, 1) := by decide +kernel
theorem dX9_aOf_0 : decode cX9_aOf 0 = .ok (.aload_n 0, 1) := by decide +kernel
theorem dX9_aOf_1 : decode cX9_aOf 1 = .ok (.aload_n 0, 1) := by decide +kernel
theorem dX9_aOf_2 : decode cX9_aOf 2 = .ok (.aload_n 0, 1) := by decide +kernel
theorem dX9_aOf_3 : decode cX9_aOf 3 = .ok (.getfield 76, 3) := by decide +kernel
theorem dX9_aOf_6 : decode cX9_aOf 6 = .ok (.iload_n 1, 1) := by decide +kernel
theorem dX9_aOf_7 : decode cX9_aOf 7 = .ok (.invokevirtual 146, 3) := by decide +kernel
theorem dX9_aOf_10 : decode cX9_aOf 10 = .ok (.iconst 1, 1) := by decide +kernel
theorem dX9_aOf_11 : decode cX9_aOf 11 = .ok (.iadd, 1) := by decide +kernel
theorem dX9_aOf_12 : decode cX9_aOf 12 = .ok (.iconst 4, 1) := by decide +kernel
theorem dX9_aOf_13 : decode cX9_aOf 13 = .ok (.invokevirtual 131, 3) := by decide +kernel
theorem dX9_aOf_16 : decode cX9_aOf 16 = .ok (.l2i, 1) := by decide +kernel
theorem dX9_aOf_17 : decode cX9_aOf 17 = .ok (.ireturn, 1) := by decide +kernel
theorem dX9_bOf_0 : decode cX9_bOf 0 = .ok (.aload_n 0, 1) := by decide +kernel
theorem dX9_bOf_1 : decode cX9_bOf 1 = .ok (.aload_n 0, 1) := by decide +kernel
theorem dX9_bOf_2 : decode cX9_bOf 2 = .ok (.aload_n 0, 1) := by decide +kernel
theorem dX9_bOf_3 : decode cX9_bOf 3 = .ok (.getfield 76, 3) := by decide +kernel
theorem dX9_bOf_6 : decode cX9_bOf 6 = .ok (.iload_n 1, 1) := by decide +kernel
theorem dX9_bOf_7 : decode cX9_bOf 7 = .ok (.invokevirtual 146, 3) := by decide +kernel
theorem dX9_bOf_10 : decode cX9_bOf 10 = .ok (.iconst 5, 1) := by decide +kernel
theorem dX9_bOf_11 : decode cX9_bOf 11 = .ok (.iadd, 1) := by decide +kernel
theorem dX9_bOf_12 : decode cX9_bOf 12 = .ok (.iconst 4, 1) := by decide +kernel
theorem dX9_bOf_13 : decode cX9_bOf 13 = .ok (.invokevirtual 131, 3) := by decide +kernel
theorem dX9_bOf_16 : decode cX9_bOf 16 = .ok (.l2i, 1) := by decide +kernel
theorem dX9_bOf_17 : decode cX9_bOf 17 = .ok (.ireturn, 1) := by decide +kernel
theorem dX9_cOf_0 : decode cX9_cOf 0 = .ok (.aload_n 0, 1) := by decide +kernel
theorem dX9_cOf_1 : decode cX9_cOf 1 = .ok (.aload_n 0, 1) := by decide +kernel
theorem dX9_cOf_2 : decode cX9_cOf 2 = .ok (.aload_n 0, 1) := by decide +kernel
theorem dX9_cOf_3 : decode cX9_cOf 3 = .ok (.getfield 76, 3) := by decide +kernel
theorem dX9_cOf_6 : decode cX9_cOf 6 = .ok (.iload_n 1, 1) := by decide +kernel
theorem dX9_cOf_7 : decode cX9_cOf 7 = .ok (.invokevirtual 146, 3) := by decide +kernel
theorem dX9_cOf_10 : decode cX9_cOf 10 = .ok (.bipush 9, 2) := by decide +kernel
theorem dX9_cOf_12 : decode cX9_cOf 12 = .ok (.iadd, 1) := by decide +kernel
theorem dX9_cOf_13 : decode cX9_cOf 13 = .ok (.bipush 8, 2) := by decide +kernel
theorem dX9_cOf_15 : decode cX9_cOf 15 = .ok (.invokevirtual 131, 3) := by decide +kernel
theorem dX9_cOf_18 : decode cX9_cOf 18 = .ok (.lreturn, 1) := by decide +kernel
theorem dX9_isEmpty_0 : decode cX9_isEmpty 0 = .ok (.iconst 0, 1) := by decide +kernel
theorem dX9_isEmpty_1 : decode cX9_isEmpty 1 = .ok (.istore_n 3, 1) := by decide +kernel
theorem dX9_isEmpty_2 : decode cX9_isEmpty 2 = .ok (.iload_n 3, 1) := by decide +kernel
theorem dX9_isEmpty_3 : decode cX9_isEmpty 3 = .ok (.iload_n 2, 1) := by decide +kernel
theorem dX9_isEmpty_4 : decode cX9_isEmpty 4 = .ok (.if_icmp .ge 21, 3) := by decide +kernel
theorem dX9_isEmpty_7 : decode cX9_isEmpty 7 = .ok (.aload_n 0, 1) := by decide +kernel
theorem dX9_isEmpty_8 : decode cX9_isEmpty 8 = .ok (.iload_n 1, 1) := by decide +kernel
theorem dX9_isEmpty_9 : decode cX9_isEmpty 9 = .ok (.iload_n 3, 1) := by decide +kernel
theorem dX9_isEmpty_10 : decode cX9_isEmpty 10 = .ok (.iadd, 1) := by decide +kernel
theorem dX9_isEmpty_11 : decode cX9_isEmpty 11 = .ok (.invokevirtual 96, 3) := by decide +kernel
theorem dX9_isEmpty_14 : decode cX9_isEmpty 14 = .ok (.ifCond .eq 5, 3) := by decide +kernel
theorem dX9_isEmpty_17 : decode cX9_isEmpty 17 = .ok (.iconst 0, 1) := by decide +kernel
theorem dX9_isEmpty_18 : decode cX9_isEmpty 18 = .ok (.ireturn, 1) := by decide +kernel
theorem dX9_isEmpty_19 : decode cX9_isEmpty 19 = .ok (.iinc 3 1, 3) := by decide +kernel
theorem dX9_isEmpty_22 : decode cX9_isEmpty 22 = .ok (.goto (-20), 3) := by decide +kernel
theorem dX9_isEmpty_25 : decode cX9_isEmpty 25 = .ok (.iconst 1, 1) := by decide +kernel
theorem dX9_isEmpty_26 : decode cX9_isEmpty 26 = .ok (.ireturn, 1) := by decide +kernel
