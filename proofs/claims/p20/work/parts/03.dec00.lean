theorem dX9_more_0 : decode cX9_more 0 = .ok (.lload_n 0, 1) := by decide +kernel
theorem dX9_more_1 : decode cX9_more 1 = .ok (.iload_n 2, 1) := by decide +kernel
theorem dX9_more_2 : decode cX9_more 2 = .ok (.i2l, 1) := by decide +kernel
theorem dX9_more_3 : decode cX9_more 3 = .ok (.lxor, 1) := by decide +kernel
theorem dX9_more_4 : decode cX9_more 4 = .ok (.lstore_n 3, 1) := by decide +kernel
theorem dX9_more_5 : decode cX9_more 5 = .ok (.lload_n 3, 1) := by decide +kernel
theorem dX9_more_6 : decode cX9_more 6 = .ok (.bipush 21, 2) := by decide +kernel
theorem dX9_more_8 : decode cX9_more 8 = .ok (.lshl, 1) := by decide +kernel
theorem dX9_more_9 : decode cX9_more 9 = .ok (.lload_n 3, 1) := by decide +kernel
theorem dX9_more_10 : decode cX9_more 10 = .ok (.bipush 43, 2) := by decide +kernel
theorem dX9_more_12 : decode cX9_more 12 = .ok (.lushr, 1) := by decide +kernel
theorem dX9_more_13 : decode cX9_more 13 = .ok (.lor, 1) := by decide +kernel
theorem dX9_more_14 : decode cX9_more 14 = .ok (.ldc2_w 100, 3) := by decide +kernel
theorem dX9_more_17 : decode cX9_more 17 = .ok (.lmul, 1) := by decide +kernel
theorem dX9_more_18 : decode cX9_more 18 = .ok (.lreturn, 1) := by decide +kernel
