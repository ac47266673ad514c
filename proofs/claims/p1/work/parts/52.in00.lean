set_option maxRecDepth 20000 in
theorem lw_in_1 : ∀ w ∈ wsL_law0_r1, w ∈ lw_tbl := fun w h => (goodIn_p wsL_law0_r1 [645, 150, 153] (by decide +kernel) (by decide +kernel) w h).1
set_option maxRecDepth 20000 in
theorem lw_in_2 : ∀ w ∈ wsL_law0_r2, w ∈ lw_tbl := fun w h => (goodIn_p wsL_law0_r2 [] (by decide +kernel) (by decide +kernel) w h).1
set_option maxRecDepth 20000 in
theorem lw_in_3 : ∀ w ∈ wsL_law0_r3, w ∈ lw_tbl := fun w h => (goodIn_p wsL_law0_r3 [159, 179, 185] (by decide +kernel) (by decide +kernel) w h).1
set_option maxRecDepth 20000 in
theorem lw_in_4 : ∀ w ∈ wsL_law0_r4, w ∈ lw_tbl := fun w h => (goodIn_p wsL_law0_r4 [188, 191, 239] (by decide +kernel) (by decide +kernel) w h).1
set_option maxRecDepth 20000 in
theorem lw_in_5 : ∀ w ∈ wsL_law0_r5, w ∈ lw_tbl := fun w h => (goodIn_p wsL_law0_r5 [244, 247, 250, 253, 257, 261] (by decide +kernel) (by decide +kernel) w h).1
set_option maxRecDepth 20000 in
theorem lw_in_6 : ∀ w ∈ wsL_law0_r6, w ∈ lw_tbl := fun w h => (goodIn_p wsL_law0_r6 [297, 350] (by decide +kernel) (by decide +kernel) w h).1
set_option maxRecDepth 20000 in
theorem lw_in_7 : ∀ w ∈ wsL_law0_r7, w ∈ lw_tbl := fun w h => (goodIn_p wsL_law0_r7 [369, 1573] (by decide +kernel) (by decide +kernel) w h).1
set_option maxRecDepth 20000 in
theorem lw_in_8 : ∀ w ∈ wsL_law0_r8, w ∈ lw_tbl := fun w h => (goodIn_p wsL_law0_r8 [1580, 1585] (by decide +kernel) (by decide +kernel) w h).1
set_option maxRecDepth 20000 in
theorem lw_in_9 : ∀ w ∈ wsL_law0_r9, w ∈ lw_tbl := fun w h => (goodIn_p wsL_law0_r9 [1589, 1594, 1597, 653] (by decide +kernel) (by decide +kernel) w h).1
set_option maxRecDepth 20000 in
theorem lw_in_10 : ∀ w ∈ wsL_law0_r10, w ∈ lw_tbl := fun w h => (goodIn_p wsL_law0_r10 [725, 1840, 1769, 1717, 434, 1844] (by decide +kernel) (by decide +kernel) w h).1
set_option maxRecDepth 20000 in
theorem lw_in_11 : ∀ w ∈ wsL_law0_r11, w ∈ lw_tbl := fun w h => (goodIn_p wsL_law0_r11 [733, 1848, 757] (by decide +kernel) (by decide +kernel) w h).1
set_option maxRecDepth 20000 in
theorem lw_in_12 : ∀ w ∈ wsL_law0_r12, w ∈ lw_tbl := fun w h => (goodIn_p wsL_law0_r12 [761, 502, 782, 785, 790] (by decide +kernel) (by decide +kernel) w h).1
set_option maxRecDepth 20000 in
theorem lw_in_13 : ∀ w ∈ wsL_law0_r13, w ∈ lw_tbl := fun w h => (goodIn_p wsL_law0_r13 [794, 526, 530, 533, 536, 540] (by decide +kernel) (by decide +kernel) w h).1
set_option maxRecDepth 20000 in
theorem lw_in_14 : ∀ w ∈ wsL_law0_r14, w ∈ lw_tbl := fun w h => (goodIn_p wsL_law0_r14 [545, 491, 472, 453, 551, 555] (by decide +kernel) (by decide +kernel) w h).1
set_option maxRecDepth 20000 in
theorem lw_in_15 : ∀ w ∈ wsL_law0_r15, w ∈ lw_tbl := fun w h => (goodIn_p wsL_law0_r15 [797, 801, 805, 480, 809] (by decide +kernel) (by decide +kernel) w h).1
set_option maxRecDepth 20000 in
theorem lw_in_16 : ∀ w ∈ wsL_law0_r16, w ∈ lw_tbl := fun w h => (goodIn_p wsL_law0_r16 [813, 816, 836, 840, 1094] (by decide +kernel) (by decide +kernel) w h).1
set_option maxRecDepth 20000 in
theorem lw_in_17 : ∀ w ∈ wsL_law0_r17, w ∈ lw_tbl := fun w h => (goodIn_p wsL_law0_r17 [1098, 902, 899, 906, 1102] (by decide +kernel) (by decide +kernel) w h).1
set_option maxRecDepth 20000 in
theorem lw_in_18 : ∀ w ∈ wsL_law0_r18, w ∈ lw_tbl := fun w h => (goodIn_p wsL_law0_r18 [1124, 920, 1852, 1777, 1725] (by decide +kernel) (by decide +kernel) w h).1
set_option maxRecDepth 20000 in
theorem lw_in_19 : ∀ w ∈ wsL_law0_r19, w ∈ lw_tbl := fun w h => (goodIn_p wsL_law0_r19 [1754, 1758, 1762, 1733, 1766, 1738] (by decide +kernel) (by decide +kernel) w h).1
set_option maxRecDepth 20000 in
theorem lw_in_20 : ∀ w ∈ wsL_law0_r20, w ∈ lw_tbl := fun w h => (goodIn_p wsL_law0_r20 [1817, 1821, 1825, 1856, 1860, 1793] (by decide +kernel) (by decide +kernel) w h).1
set_option maxRecDepth 20000 in
theorem lw_in_21 : ∀ w ∈ wsL_law0_r21, w ∈ lw_tbl := fun w h => (goodIn_p wsL_law0_r21 [1789, 1864, 1832, 1801, 1746] (by decide +kernel) (by decide +kernel) w h).1
set_option maxRecDepth 20000 in
theorem lw_in_22 : ∀ w ∈ wsL_law0_r22, w ∈ lw_tbl := fun w h => (goodIn_p wsL_law0_r22 [1137, 1143, 1147, 1151, 1868] (by decide +kernel) (by decide +kernel) w h).1
set_option maxRecDepth 20000 in
theorem lw_in_23 : ∀ w ∈ wsL_law0_r23, w ∈ lw_tbl := fun w h => (goodIn_p wsL_law0_r23 [1159, 1162, 602, 1168, 1174, 1178] (by decide +kernel) (by decide +kernel) w h).1
set_option maxRecDepth 20000 in
theorem lw_in_24 : ∀ w ∈ wsL_law0_r24, w ∈ lw_tbl := fun w h => (goodIn_p wsL_law0_r24 [622, 599, 514, 456, 1182, 611] (by decide +kernel) (by decide +kernel) w h).1
set_option maxRecDepth 20000 in
theorem lw_in_25 : ∀ w ∈ wsL_law0_r25, w ∈ lw_tbl := fun w h => (goodIn_p wsL_law0_r25 [618, 1190, 1194, 1198, 1203, 1207] (by decide +kernel) (by decide +kernel) w h).1
set_option maxRecDepth 20000 in
theorem lw_in_26 : ∀ w ∈ wsL_law0_r26, w ∈ lw_tbl := fun w h => (goodIn_p wsL_law0_r26 [572, 585, 510, 590, 594, 518] (by decide +kernel) (by decide +kernel) w h).1
set_option maxRecDepth 20000 in
theorem lw_in_27 : ∀ w ∈ wsL_law0_r27, w ∈ lw_tbl := fun w h => (goodIn_p wsL_law0_r27 [607, 615, 626, 630, 634] (by decide +kernel) (by decide +kernel) w h).1
set_option maxRecDepth 20000 in
theorem lw_in_28 : ∀ w ∈ wsL_law0_r28, w ∈ lw_tbl := fun w h => (goodIn_p wsL_law0_r28 [638, 642, 1872, 1877] (by decide +kernel) (by decide +kernel) w h).1
set_option maxRecDepth 20000 in
theorem lw_in_29 : ∀ w ∈ wsL_law0_r29, w ∈ lw_tbl := fun w h => (goodIn_p wsL_law0_r29 [1781, 1881, 1885, 1785, 1889] (by decide +kernel) (by decide +kernel) w h).1
set_option maxRecDepth 20000 in
theorem lw_in_30 : ∀ w ∈ wsL_law0_r30, w ∈ lw_tbl := fun w h => (goodIn_p wsL_law0_r30 [1893, 1897, 1902, 1906, 1910, 1914] (by decide +kernel) (by decide +kernel) w h).1
set_option maxRecDepth 20000 in
theorem lw_in_31 : ∀ w ∈ wsL_law0_r31, w ∈ lw_tbl := fun w h => (goodIn_p wsL_law0_r31 [1918, 1924, 1215, 1219, 1928] (by decide +kernel) (by decide +kernel) w h).1
