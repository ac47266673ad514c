set_option maxRecDepth 20000 in
theorem gX8_digest_X8_demandRow : GoodIn wsX8_digest (wsV RX8 156 RX8 yX8_demandRow wsX8_demandRow) := goodIn_app (goodIn_of _ (by decide +kernel)) ggX8_digest_X8_demandRow
set_option maxRecDepth 20000 in
theorem ggX8_vote_X8_demandPower : GoodIn wsX8_vote wsX8_demandPower := goodIn_ca (goodIn_r _ [10, 11, 12, 13, 185, 186, 187, 188, 189, 190, 191, 192, 193, 194, 213, 214, 215, 216, 217, 218, 219] (by decide +kernel) (by decide +kernel)) (goodIn_sub (fun _ h => List.mem_cons_of_mem _ (List.mem_append_right _ h)) (by decide +kernel))
set_option maxRecDepth 20000 in
theorem gX8_vote_X8_demandPower : GoodIn wsX8_vote (wsV RX8 99 RX8 yX8_demandPower wsX8_demandPower) := goodIn_app (goodIn_of _ (by decide +kernel)) ggX8_vote_X8_demandPower
set_option maxRecDepth 20000 in
theorem ggX8_vote_X8_demandHeight : GoodIn wsX8_vote wsX8_demandHeight := goodIn_ca (goodIn_r _ [16, 1, 2, 17, 18, 9, 19, 3] (by decide +kernel) (by decide +kernel)) (goodIn_sub (fun _ h => List.mem_cons_of_mem _ (List.mem_append_left _ (List.mem_append_right _ h))) (by decide +kernel))
set_option maxRecDepth 20000 in
theorem gX8_vote_X8_demandHeight : GoodIn wsX8_vote (va_wsS RX8 133 yX8_demandHeight wsX8_demandHeight) := goodIn_app (goodIn_of _ (by decide +kernel)) ggX8_vote_X8_demandHeight
set_option maxRecDepth 20000 in
theorem ggX8_vote_X4_inNeed : GoodIn wsX8_vote wsX4_inNeed := goodIn_r _ [24, 25, 207, 208, 209, 210, 211, 212] (by decide +kernel) (by decide +kernel)
set_option maxRecDepth 20000 in
theorem gX8_vote_X4_inNeed : GoodIn wsX8_vote (wsV RX8 104 RX4 yX4_inNeed wsX4_inNeed) := goodIn_app (goodIn_of _ (by decide +kernel)) ggX8_vote_X4_inNeed
set_option maxRecDepth 20000 in
theorem ggX8_vote_X6_meant : GoodIn wsX8_vote wsX6_meant := goodIn_r _ [30, 31, 32, 33, 34, 35, 29, 36, 37, 38, 195, 196, 197, 198, 199, 200, 201, 202, 203, 204, 205, 206] (by decide +kernel) (by decide +kernel)
set_option maxRecDepth 20000 in
theorem gX8_vote_X6_meant : GoodIn wsX8_vote (wsV RX8 136 RX6 yX6_meant wsX6_meant) := goodIn_app (goodIn_of _ (by decide +kernel)) ggX8_vote_X6_meant
set_option maxRecDepth 20000 in
theorem ggX8_vote_X6_blockRow : GoodIn wsX8_vote wsX6_blockRow := goodIn_r _ [42, 37, 43, 38, 195, 196, 197, 198, 199, 200, 201, 202, 203, 204, 205, 206] (by decide +kernel) (by decide +kernel)
set_option maxRecDepth 20000 in
theorem gX8_vote_X6_blockRow : GoodIn wsX8_vote (wsV RX8 148 RX6 yX6_blockRow wsX6_blockRow) := goodIn_app (goodIn_of _ (by decide +kernel)) ggX8_vote_X6_blockRow
set_option maxRecDepth 20000 in
theorem ggX8_sent_X8_demandRow : GoodIn wsX8_sent wsX8_demandRow := goodIn_ca (goodIn_r _ [6, 7, 8, 9, 1, 59, 60, 61, 62, 63, 64, 65, 66, 67, 68, 69, 70, 71, 72, 73, 74, 75, 76, 77, 78, 79, 80, 81] (by decide +kernel) (by decide +kernel)) (goodIn_sub (fun _ h => List.mem_cons_of_mem _ (List.mem_append_left _ (List.mem_append_right _ h))) (by decide +kernel))
set_option maxRecDepth 20000 in
theorem gX8_sent_X8_demandRow : GoodIn wsX8_sent (wsV RX8 156 RX8 yX8_demandRow wsX8_demandRow) := goodIn_app (goodIn_of _ (by decide +kernel)) ggX8_sent_X8_demandRow
set_option maxRecDepth 20000 in
theorem ggX8_certify_X8_demandPower : GoodIn wsX8_certify wsX8_demandPower := goodIn_ca (goodIn_r _ [9, 10, 11, 12, 191, 192, 193, 194, 195, 196, 197, 198, 199, 200, 207, 208, 209, 210, 211, 212, 213] (by decide +kernel) (by decide +kernel)) (goodIn_sub (fun _ h => List.mem_cons_of_mem _ (List.mem_append_right _ h)) (by decide +kernel))
set_option maxRecDepth 20000 in
theorem gX8_certify_X8_demandPower : GoodIn wsX8_certify (wsV RX8 99 RX8 yX8_demandPower wsX8_demandPower) := goodIn_app (goodIn_of _ (by decide +kernel)) ggX8_certify_X8_demandPower
set_option maxRecDepth 20000 in
theorem ggX8_certify_X4_inNeed : GoodIn wsX8_certify wsX4_inNeed := goodIn_r _ [17, 18, 201, 202, 203, 204, 205, 206] (by decide +kernel) (by decide +kernel)
set_option maxRecDepth 20000 in
theorem gX8_certify_X4_inNeed : GoodIn wsX8_certify (wsV RX8 104 RX4 yX4_inNeed wsX4_inNeed) := goodIn_app (goodIn_of _ (by decide +kernel)) ggX8_certify_X4_inNeed
set_option maxRecDepth 20000 in
theorem ggX8_certify_X6_meant : GoodIn wsX8_certify wsX6_meant := goodIn_r _ [23, 24, 25, 26, 27, 28, 22, 29, 30, 31, 214, 215, 216, 217, 218, 219, 220, 221, 222, 223, 224, 225] (by decide +kernel) (by decide +kernel)
set_option maxRecDepth 20000 in
theorem gX8_certify_X6_meant : GoodIn wsX8_certify (wsV RX8 136 RX6 yX6_meant wsX6_meant) := goodIn_app (goodIn_of _ (by decide +kernel)) ggX8_certify_X6_meant
set_option maxRecDepth 20000 in
theorem ggX8_certify_X6_blockRow : GoodIn wsX8_certify wsX6_blockRow := goodIn_r _ [35, 30, 36, 31, 214, 215, 216, 217, 218, 219, 220, 221, 222, 223, 224, 225] (by decide +kernel) (by decide +kernel)
set_option maxRecDepth 20000 in
theorem gX8_certify_X6_blockRow : GoodIn wsX8_certify (wsV RX8 148 RX6 yX6_blockRow wsX6_blockRow) := goodIn_app (goodIn_of _ (by decide +kernel)) ggX8_certify_X6_blockRow
set_option maxRecDepth 20000 in
theorem ggX8_version_X8_demandPower : GoodIn wsX8_version wsX8_demandPower := goodIn_ca (goodIn_r _ [8, 9, 10, 11, 19, 20, 21, 22, 23, 24, 25, 26, 27, 28, 41, 42, 43, 44, 45, 46, 47] (by decide +kernel) (by decide +kernel)) (goodIn_sub (fun _ h => List.mem_cons_of_mem _ (List.mem_append_right _ h)) (by decide +kernel))
set_option maxRecDepth 20000 in
theorem gX8_version_X8_demandPower : GoodIn wsX8_version (wsV RX8 99 RX8 yX8_demandPower wsX8_demandPower) := goodIn_app (goodIn_of _ (by decide +kernel)) ggX8_version_X8_demandPower
set_option maxRecDepth 20000 in
theorem ggX8_version_X6_lastVersion : GoodIn wsX8_version wsX6_lastVersion := goodIn_r _ [16, 17, 18, 29, 30, 31, 32, 33, 34, 35, 36, 37, 38, 39, 40] (by decide +kernel) (by decide +kernel)
set_option maxRecDepth 20000 in
theorem gX8_version_X6_lastVersion : GoodIn wsX8_version (wsV RX8 204 RX6 yX6_lastVersion wsX6_lastVersion) := goodIn_app (goodIn_of _ (by decide +kernel)) ggX8_version_X6_lastVersion
set_option maxRecDepth 20000 in
theorem ggX8_slot_X8_demandPower : GoodIn wsX8_slot wsX8_demandPower := goodIn_ca (goodIn_r _ [8, 9, 10, 11, 67, 68, 69, 70, 71, 72, 73, 74, 75, 76, 89, 90, 91, 92, 93, 94, 95] (by decide +kernel) (by decide +kernel)) (goodIn_sub (fun _ h => List.mem_cons_of_mem _ (List.mem_append_right _ h)) (by decide +kernel))
set_option maxRecDepth 20000 in
theorem gX8_slot_X8_demandPower : GoodIn wsX8_slot (wsV RX8 99 RX8 yX8_demandPower wsX8_demandPower) := goodIn_app (goodIn_of _ (by decide +kernel)) ggX8_slot_X8_demandPower
set_option maxRecDepth 20000 in
theorem ggX8_slot_X6_isKept : GoodIn wsX8_slot wsX6_isKept := goodIn_r _ [16, 17, 18, 19, 20, 21, 22, 23, 24, 25, 26, 27, 15, 28, 29, 77, 78, 79, 80, 81, 82, 83, 84, 85, 86, 87, 88, 96, 97, 98, 99, 100, 101] (by decide +kernel) (by decide +kernel)
set_option maxRecDepth 20000 in
theorem gX8_slot_X6_isKept : GoodIn wsX8_slot (wsV RX8 210 RX6 yX6_isKept wsX6_isKept) := goodIn_app (goodIn_of _ (by decide +kernel)) ggX8_slot_X6_isKept
set_option maxRecDepth 20000 in
theorem ggX8_slot_X6_drawVersion : GoodIn wsX8_slot wsX6_drawVersion := goodIn_r _ [33, 34, 35, 29, 18, 36, 37, 38, 39, 15, 40, 17, 41, 42, 43, 44, 22, 45, 46, 47, 48, 49, 50, 51, 52, 53, 54, 55, 56, 57, 58, 59, 60, 61, 62, 63, 64, 65, 66, 77, 78, 79, 80, 81, 82, 83, 84, 85, 86, 87, 88, 96, 97, 98, 99, 100, 101, 89, 90, 91, 92, 93, 94, 95] (by decide +kernel) (by decide +kernel)
set_option maxRecDepth 20000 in
theorem gX8_slot_X6_drawVersion : GoodIn wsX8_slot (wsV RX8 215 RX6 yX6_drawVersion wsX6_drawVersion) := goodIn_app (goodIn_of _ (by decide +kernel)) ggX8_slot_X6_drawVersion
set_option maxRecDepth 20000 in
theorem ggX8_page_X8_demandPower : GoodIn wsX8_page wsX8_demandPower := goodIn_ca (goodIn_r _ [6, 7, 8, 1, 81, 82, 83, 84, 85, 86, 87, 88, 89, 90, 94, 95, 96, 97, 98, 99, 100] (by decide +kernel) (by decide +kernel)) (goodIn_sub (fun _ h => List.mem_cons_of_mem _ (List.mem_append_right _ h)) (by decide +kernel))
set_option maxRecDepth 20000 in
theorem gX8_page_X8_demandPower : GoodIn wsX8_page (wsV RX8 99 RX8 yX8_demandPower wsX8_demandPower) := goodIn_app (goodIn_of _ (by decide +kernel)) ggX8_page_X8_demandPower
set_option maxRecDepth 20000 in
theorem ggX8_page_X1_pageOf : GoodIn wsX8_page wsX1_pageOf := goodIn_r _ [13, 14, 15, 16, 17, 18, 19, 20, 21, 22, 23, 24, 25, 26, 27, 28, 29, 30, 31, 32, 33, 34, 35, 36, 37, 38, 39, 40, 41, 42, 43, 44, 45, 46, 47, 48, 49, 50, 51, 52, 53, 54, 55, 56, 57, 58, 59, 60, 61, 62, 63, 64, 65, 66, 67, 68, 69, 70, 71, 72, 73, 74, 75, 76, 77, 78, 79, 80, 94, 95, 96, 97, 98, 99, 100, 101, 102, 103, 91, 92, 93] (by decide +kernel) (by decide +kernel)
set_option maxRecDepth 20000 in
theorem gX8_page_X1_pageOf : GoodIn wsX8_page (wsV RX8 221 RX1 yX1_pageOf wsX1_pageOf) := goodIn_app (goodIn_of _ (by decide +kernel)) ggX8_page_X1_pageOf
set_option maxRecDepth 20000 in
theorem ggX8_byteOf_X8_demandPage : GoodIn wsX8_byteOf wsX8_demandPage := goodIn_ca (goodIn_r _ [8, 1, 2, 3, 91, 92, 93, 94, 95, 96, 97, 98, 99, 100, 104, 105, 106, 107, 108, 109, 110] (by decide +kernel) (by decide +kernel)) (goodIn_sub (fun _ h => List.mem_cons_of_mem _ (List.mem_append_left _ (List.mem_append_right _ h))) (by decide +kernel))
set_option maxRecDepth 20000 in
theorem gX8_byteOf_X8_demandPage : GoodIn wsX8_byteOf (wsV RX8 228 RX8 yX8_demandPage wsX8_demandPage) := goodIn_app (goodIn_of _ (by decide +kernel)) ggX8_byteOf_X8_demandPage
set_option maxRecDepth 20000 in
theorem ggX8_byteOf_X8_demandPower : GoodIn wsX8_byteOf wsX8_demandPower := goodIn_ca (goodIn_r _ [12, 13, 14, 3, 91, 92, 93, 94, 95, 96, 97, 98, 99, 100, 104, 105, 106, 107, 108, 109, 110] (by decide +kernel) (by decide +kernel)) (goodIn_sub (fun _ h => List.mem_cons_of_mem _ (List.mem_append_right _ h)) (by decide +kernel))
set_option maxRecDepth 20000 in
theorem gX8_byteOf_X8_demandPower : GoodIn wsX8_byteOf (wsV RX8 99 RX8 yX8_demandPower wsX8_demandPower) := goodIn_app (goodIn_of _ (by decide +kernel)) ggX8_byteOf_X8_demandPower
set_option maxRecDepth 20000 in
theorem ggX8_byteOf_X1_rightPage : GoodIn wsX8_byteOf wsX1_rightPage := goodIn_r _ [19, 20, 21, 22, 18, 23, 24, 25, 26, 27, 28, 29, 30, 31, 32, 33, 34, 35, 36, 37, 38, 39, 40, 41, 42, 43, 44, 45, 46, 47, 48, 49, 50, 51, 52, 53, 54, 55, 56, 57, 58, 59, 60, 61, 62, 63, 64, 65, 66, 67, 68, 69, 70, 71, 72, 73, 74, 75, 76, 77, 78, 79, 80, 81, 82, 83, 84, 85, 86, 87, 88, 89, 104, 105, 106, 107, 108, 109, 110, 101, 102, 103, 111, 112, 113] (by decide +kernel) (by decide +kernel)
set_option maxRecDepth 20000 in
theorem gX8_byteOf_X1_rightPage : GoodIn wsX8_byteOf (wsV RX8 123 RX1 yX1_rightPage wsX1_rightPage) := goodIn_app (goodIn_of _ (by decide +kernel)) ggX8_byteOf_X1_rightPage
set_option maxRecDepth 20000 in
theorem ggX8_named_X8_demandPage : GoodIn wsX8_named wsX8_demandPage := goodIn_ca (goodIn_r _ [7, 8, 9, 1, 140, 141, 142, 143, 144, 145, 146, 147, 148, 149, 150, 151, 152, 153, 154, 155, 156] (by decide +kernel) (by decide +kernel)) (goodIn_sub (fun _ h => List.mem_cons_of_mem _ (List.mem_append_left _ (List.mem_append_right _ h))) (by decide +kernel))
set_option maxRecDepth 20000 in
theorem gX8_named_X8_demandPage : GoodIn wsX8_named (wsV RX8 228 RX8 yX8_demandPage wsX8_demandPage) := goodIn_app (goodIn_of _ (by decide +kernel)) ggX8_named_X8_demandPage
set_option maxRecDepth 20000 in
theorem ggX8_named_X8_demandPower : GoodIn wsX8_named wsX8_demandPower := goodIn_ca (goodIn_r _ [13, 14, 15, 1, 140, 141, 142, 143, 144, 145, 146, 147, 148, 149, 150, 151, 152, 153, 154, 155, 156] (by decide +kernel) (by decide +kernel)) (goodIn_sub (fun _ h => List.mem_cons_of_mem _ (List.mem_append_right _ h)) (by decide +kernel))
set_option maxRecDepth 20000 in
theorem gX8_named_X8_demandPower : GoodIn wsX8_named (wsV RX8 99 RX8 yX8_demandPower wsX8_demandPower) := goodIn_app (goodIn_of _ (by decide +kernel)) ggX8_named_X8_demandPower
set_option maxRecDepth 20000 in
theorem ggX8_named_X1_rightPage : GoodIn wsX8_named wsX1_rightPage := goodIn_r _ [20, 21, 22, 23, 19, 24, 25, 26, 27, 28, 29, 30, 31, 32, 33, 34, 35, 36, 37, 38, 39, 40, 41, 42, 43, 44, 45, 46, 47, 48, 49, 50, 51, 52, 53, 54, 55, 56, 57, 58, 59, 60, 61, 62, 63, 64, 65, 66, 67, 68, 69, 70, 71, 72, 73, 74, 75, 76, 77, 78, 79, 80, 81, 82, 83, 84, 85, 86, 87, 88, 89, 90, 150, 151, 152, 153, 154, 155, 156, 157, 158, 159, 160, 161, 162] (by decide +kernel) (by decide +kernel)
set_option maxRecDepth 20000 in
theorem gX8_named_X1_rightPage : GoodIn wsX8_named (wsV RX8 123 RX1 yX1_rightPage wsX1_rightPage) := goodIn_app (goodIn_of _ (by decide +kernel)) ggX8_named_X1_rightPage
set_option maxRecDepth 20000 in
theorem ggX8_prune_X8_demandPower : GoodIn wsX8_prune wsX8_demandPower := goodIn_ca (goodIn_r _ [11, 12, 13, 6, 307, 308, 309, 310, 311, 312, 313, 314, 315, 316, 335, 336, 337, 338, 339, 340, 341] (by decide +kernel) (by decide +kernel)) (goodIn_sub (fun _ h => List.mem_cons_of_mem _ (List.mem_append_right _ h)) (by decide +kernel))
set_option maxRecDepth 20000 in
theorem gX8_prune_X8_demandPower : GoodIn wsX8_prune (wsV RX8 99 RX8 yX8_demandPower wsX8_demandPower) := goodIn_app (goodIn_of _ (by decide +kernel)) ggX8_prune_X8_demandPower
set_option maxRecDepth 20000 in
theorem ggX8_prune_X4_inNeed : GoodIn wsX8_prune wsX4_inNeed := goodIn_r _ [18, 19, 329, 330, 331, 332, 333, 334] (by decide +kernel) (by decide +kernel)
set_option maxRecDepth 20000 in
theorem gX8_prune_X4_inNeed : GoodIn wsX8_prune (wsV RX8 104 RX4 yX4_inNeed wsX4_inNeed) := goodIn_app (goodIn_of _ (by decide +kernel)) ggX8_prune_X4_inNeed
set_option maxRecDepth 20000 in
theorem ggX8_prune_X6_lastVersion : GoodIn wsX8_prune wsX6_lastVersion := goodIn_r _ [24, 25, 26, 317, 318, 319, 320, 321, 322, 323, 324, 325, 326, 327, 328] (by decide +kernel) (by decide +kernel)
set_option maxRecDepth 20000 in
theorem gX8_prune_X6_lastVersion : GoodIn wsX8_prune (wsV RX8 204 RX6 yX6_lastVersion wsX6_lastVersion) := goodIn_app (goodIn_of _ (by decide +kernel)) ggX8_prune_X6_lastVersion
set_option maxRecDepth 20000 in
theorem ggX8_out_X8_demandPower : GoodIn wsX8_out wsX8_demandPower := goodIn_ca (goodIn_r _ [10, 11, 12, 4, 169, 170, 171, 172, 173, 174, 175, 176, 177, 178, 193, 194, 195, 196, 197, 198, 199] (by decide +kernel) (by decide +kernel)) (goodIn_sub (fun _ h => List.mem_cons_of_mem _ (List.mem_append_right _ h)) (by decide +kernel))
set_option maxRecDepth 20000 in
theorem gX8_out_X8_demandPower : GoodIn wsX8_out (wsV RX8 99 RX8 yX8_demandPower wsX8_demandPower) := goodIn_app (goodIn_of _ (by decide +kernel)) ggX8_out_X8_demandPower
set_option maxRecDepth 20000 in
theorem ggX8_out_X6_isKept : GoodIn wsX8_out wsX6_isKept := goodIn_r _ [17, 18, 19, 20, 21, 22, 23, 24, 25, 26, 27, 28, 16, 29, 30, 179, 180, 181, 182, 183, 184, 185, 186, 187, 188, 189, 190, 200, 201, 202, 203, 204, 205] (by decide +kernel) (by decide +kernel)
set_option maxRecDepth 20000 in
theorem gX8_out_X6_isKept : GoodIn wsX8_out (wsV RX8 210 RX6 yX6_isKept wsX6_isKept) := goodIn_app (goodIn_of _ (by decide +kernel)) ggX8_out_X6_isKept
set_option maxRecDepth 20000 in
theorem ggX8_in_X8_demandPower : GoodIn wsX8_in wsX8_demandPower := goodIn_ca (goodIn_r _ [9, 10, 11, 4, 352, 353, 354, 355, 356, 357, 358, 359, 360, 361, 377, 378, 379, 380, 381, 382, 383] (by decide +kernel) (by decide +kernel)) (goodIn_sub (fun _ h => List.mem_cons_of_mem _ (List.mem_append_right _ h)) (by decide +kernel))
set_option maxRecDepth 20000 in
theorem gX8_in_X8_demandPower : GoodIn wsX8_in (wsV RX8 99 RX8 yX8_demandPower wsX8_demandPower) := goodIn_app (goodIn_of _ (by decide +kernel)) ggX8_in_X8_demandPower
set_option maxRecDepth 20000 in
theorem ggX8_in_X4_inNeed : GoodIn wsX8_in wsX4_inNeed := goodIn_r _ [16, 17, 362, 363, 364, 365, 366, 367] (by decide +kernel) (by decide +kernel)
set_option maxRecDepth 20000 in
theorem gX8_in_X4_inNeed : GoodIn wsX8_in (wsV RX8 104 RX4 yX4_inNeed wsX4_inNeed) := goodIn_app (goodIn_of _ (by decide +kernel)) ggX8_in_X4_inNeed
set_option maxRecDepth 20000 in
theorem ggX8_in_X5_read : GoodIn wsX8_in wsX5_read := goodIn_r _ [22, 23, 24, 25, 26, 27, 28, 29, 30, 31, 32, 33, 8, 34, 35, 36, 37, 38, 21, 39, 40, 41, 42, 43, 44, 45, 46, 47, 48, 49, 50, 51, 52, 53, 368, 369, 370, 371, 372, 373, 374, 375, 376] (by decide +kernel) (by decide +kernel)
set_option maxRecDepth 20000 in
theorem gX8_in_X5_read : GoodIn wsX8_in (wsV RX8 266 RX5 yX5_read wsX5_read) := goodIn_app (goodIn_of _ (by decide +kernel)) ggX8_in_X5_read
set_option maxRecDepth 20000 in
theorem ggX8_poke_X8_demandPlace : GoodIn wsX8_poke wsX8_demandPlace := goodIn_ca (goodIn_r _ [10, 11, 12, 5, 132, 133, 134, 135, 136, 137, 138, 139, 140, 141, 142, 143, 144, 145, 146, 147, 148] (by decide +kernel) (by decide +kernel)) (goodIn_sub (fun _ h => List.mem_cons_of_mem _ (List.mem_append_right _ h)) (by decide +kernel))
set_option maxRecDepth 20000 in
theorem gX8_poke_X8_demandPlace : GoodIn wsX8_poke (wsV RX8 297 RX8 yX8_demandPlace wsX8_demandPlace) := goodIn_app (goodIn_of _ (by decide +kernel)) ggX8_poke_X8_demandPlace
set_option maxRecDepth 20000 in
theorem ggX8_byteAt_X8_demandPlace : GoodIn wsX8_byteAt wsX8_demandPlace := goodIn_ca (goodIn_r _ [6, 7, 8, 1, 48, 49, 50, 51, 52, 53, 54, 55, 56, 57, 58, 59, 60, 61, 62, 63, 64] (by decide +kernel) (by decide +kernel)) (goodIn_sub (fun _ h => List.mem_cons_of_mem _ (List.mem_append_right _ h)) (by decide +kernel))
set_option maxRecDepth 20000 in
theorem gX8_byteAt_X8_demandPlace : GoodIn wsX8_byteAt (wsV RX8 297 RX8 yX8_demandPlace wsX8_demandPlace) := goodIn_app (goodIn_of _ (by decide +kernel)) ggX8_byteAt_X8_demandPlace
set_option maxRecDepth 20000 in
theorem ggX8_byteAt_X1_read : GoodIn wsX8_byteAt wsX1_read := goodIn_r _ [13, 14, 15, 16, 17, 12, 18, 19, 20, 21, 22, 23, 24, 25, 26, 27, 28, 29, 30, 31, 32, 33, 34, 35, 36, 37, 38, 39, 40, 41, 42, 43, 44, 45, 46, 47, 58, 59, 60, 61, 62, 63, 64, 65, 66, 67, 68, 69, 70] (by decide +kernel) (by decide +kernel)
set_option maxRecDepth 20000 in
theorem gX8_byteAt_X1_read : GoodIn wsX8_byteAt (wsV RX8 307 RX1 yX1_read wsX1_read) := goodIn_app (goodIn_of _ (by decide +kernel)) ggX8_byteAt_X1_read
set_option maxRecDepth 20000 in
theorem ggX8_asked_X8_demandPower : GoodIn wsX8_asked wsX8_demandPower := goodIn_ca (goodIn_r _ [7, 8, 9, 2, 96, 97, 98, 99, 100, 101, 102, 103, 104, 105, 115, 116, 117, 118, 119, 120, 121] (by decide +kernel) (by decide +kernel)) (goodIn_sub (fun _ h => List.mem_cons_of_mem _ (List.mem_append_right _ h)) (by decide +kernel))
set_option maxRecDepth 20000 in
theorem gX8_asked_X8_demandPower : GoodIn wsX8_asked (wsV RX8 99 RX8 yX8_demandPower wsX8_demandPower) := goodIn_app (goodIn_of _ (by decide +kernel)) ggX8_asked_X8_demandPower
set_option maxRecDepth 20000 in
theorem ggX8_asked_X1_badPage : GoodIn wsX8_asked wsX1_badPage := goodIn_r _ [53, 54, 55, 56, 57, 58, 59, 60, 61, 62, 63, 64, 65, 66, 67, 68, 69, 70, 71, 72, 73, 74, 75, 76, 77, 78, 79, 80, 81, 82, 83, 84, 85, 86, 30, 31, 32, 33, 34, 35, 36, 37, 38, 39, 40, 41, 42, 43, 44, 45, 46, 47, 48, 49, 87, 88, 89, 90, 91, 92, 93, 94, 95, 115, 116, 117, 118, 119, 120, 121, 122, 123, 124, 112, 113, 114] (by decide +kernel) (by decide +kernel)
set_option maxRecDepth 20000 in
theorem gX8_asked_X1_badPage : GoodIn wsX8_asked (wsV RX8 318 RX1 yX1_badPage wsX1_badPage) := goodIn_app (goodIn_of _ (by decide +kernel)) ggX8_asked_X1_badPage
set_option maxRecDepth 20000 in
theorem ggX8_mend_X8_demandPower : GoodIn wsX8_mend wsX8_demandPower := goodIn_ca (goodIn_r _ [12, 13, 14, 5, 348, 349, 350, 351, 352, 353, 354, 355, 356, 357, 366, 367, 368, 369, 370, 371, 372] (by decide +kernel) (by decide +kernel)) (goodIn_sub (fun _ h => List.mem_cons_of_mem _ (List.mem_append_right _ h)) (by decide +kernel))
set_option maxRecDepth 20000 in
theorem gX8_mend_X8_demandPower : GoodIn wsX8_mend (wsV RX8 99 RX8 yX8_demandPower wsX8_demandPower) := goodIn_app (goodIn_of _ (by decide +kernel)) ggX8_mend_X8_demandPower
set_option maxRecDepth 20000 in
theorem ggX8_mend_X8_isAsked : GoodIn wsX8_mend wsX8_isAsked := goodIn_r _ [18, 3, 5, 19, 20, 21, 22, 23, 24, 25, 26, 27, 28, 29, 30, 31, 32, 33, 34, 35, 36, 37, 38, 39, 40, 41, 42, 43, 44, 45, 46, 47, 48, 49, 50, 51, 52, 53, 54, 55, 56, 57, 58, 59, 60, 61, 62, 63, 64, 65, 66, 67, 68, 69, 70, 71, 72, 73, 74, 75, 76, 77, 78, 79, 80, 81, 82, 83, 84, 85, 86, 87, 88, 89, 90, 91, 92, 93, 94, 95, 96, 97, 98, 99, 100, 101, 102, 103, 348, 349, 350, 351, 352, 353, 354, 355, 356, 357, 360, 361, 362, 363, 364, 365, 366, 367, 368, 369, 370, 371, 372, 373, 374, 375, 376, 377, 378] (by decide +kernel) (by decide +kernel)
set_option maxRecDepth 20000 in
theorem gX8_mend_X8_isAsked : GoodIn wsX8_mend (wsV RX8 321 RX8 yX8_isAsked wsX8_isAsked) := goodIn_app (goodIn_of _ (by decide +kernel)) ggX8_mend_X8_isAsked
set_option maxRecDepth 20000 in
theorem ggX8_told_X1_freePages : GoodIn wsX8_told wsX1_freePages := goodIn_r _ [10, 11, 12, 13, 14, 15, 16, 17, 18, 19, 20, 21, 9, 22, 23, 24, 25, 26, 27, 28, 29, 30, 31, 32, 33, 34, 35, 36, 37, 38, 39, 40, 41, 42, 43, 44, 45, 46, 47, 48, 49, 50, 51, 52, 53, 54, 55, 56, 57, 58, 59, 60, 61, 62, 63, 64, 65, 66, 67, 68, 69, 70, 71, 72, 73, 74, 75, 76, 77, 92, 93, 94, 95, 96, 97, 98, 105, 106, 107, 108, 109, 110] (by decide +kernel) (by decide +kernel)
set_option maxRecDepth 20000 in
theorem gX8_told_X1_freePages : GoodIn wsX8_told (wsV RX8 273 RX1 yX1_freePages wsX1_freePages) := goodIn_app (goodIn_of _ (by decide +kernel)) ggX8_told_X1_freePages
set_option maxRecDepth 20000 in
theorem ggX8_told_X1_badPages : GoodIn wsX8_told wsX1_badPages := goodIn_r _ [81, 19, 20, 21, 9, 22, 12, 23, 13, 14, 15, 16, 17, 18, 24, 25, 26, 27, 28, 29, 30, 31, 32, 33, 34, 35, 36, 37, 38, 39, 40, 41, 42, 43, 44, 45, 46, 47, 48, 49, 50, 51, 52, 53, 54, 55, 56, 57, 58, 59, 60, 61, 62, 63, 64, 65, 66, 67, 68, 69, 70, 71, 72, 73, 74, 75, 76, 77, 92, 93, 94, 95, 96, 97, 98, 105, 106, 107, 108, 109, 110] (by decide +kernel) (by decide +kernel)
set_option maxRecDepth 20000 in
theorem gX8_told_X1_badPages : GoodIn wsX8_told (wsV RX8 340 RX1 yX1_badPages wsX1_badPages) := goodIn_app (goodIn_of _ (by decide +kernel)) ggX8_told_X1_badPages
set_option maxRecDepth 20000 in
theorem ggX8_demandHeight_X8_isHeight : GoodIn wsX8_demandHeight wsX8_isHeight := goodIn_r _ [6, 7] (by decide +kernel) (by decide +kernel)
set_option maxRecDepth 20000 in
theorem gX8_demandHeight_X8_isHeight : GoodIn wsX8_demandHeight (va_wsS RX8 353 yX8_isHeight wsX8_isHeight) := goodIn_app (goodIn_of _ (by decide +kernel)) ggX8_demandHeight_X8_isHeight
set_option maxRecDepth 20000 in
theorem ggX8_collectedDigest_X0_start : GoodIn wsX8_collectedDigest wsX0_start := goodIn_r _ [7, 8] (by decide +kernel) (by decide +kernel)
set_option maxRecDepth 20000 in
theorem gX8_collectedDigest_X0_start : GoodIn wsX8_collectedDigest (va_wsS RX8 396 yX0_start wsX0_start) := goodIn_app (goodIn_of _ (by decide +kernel)) ggX8_collectedDigest_X0_start
set_option maxRecDepth 20000 in
theorem ggX8_collectedDigest_X0_addInt : GoodIn wsX8_collectedDigest wsX0_addInt := goodIn_r _ [11, 12, 13, 6, 14, 15] (by decide +kernel) (by decide +kernel)
set_option maxRecDepth 20000 in
theorem gX8_collectedDigest_X0_addInt : GoodIn wsX8_collectedDigest (va_wsS RX8 399 yX0_addInt wsX0_addInt) := goodIn_app (goodIn_of _ (by decide +kernel)) ggX8_collectedDigest_X0_addInt
set_option maxRecDepth 20000 in
theorem ggX8_collectedDigest_X0_addLong : GoodIn wsX8_collectedDigest wsX0_addLong := goodIn_r _ [18, 12, 13, 6, 14, 15] (by decide +kernel) (by decide +kernel)
set_option maxRecDepth 20000 in
theorem gX8_collectedDigest_X0_addLong : GoodIn wsX8_collectedDigest (va_wsS RX8 403 yX0_addLong wsX0_addLong) := goodIn_app (goodIn_of _ (by decide +kernel)) ggX8_collectedDigest_X0_addLong
set_option maxRecDepth 20000 in
theorem ggX8_writeBlock_X4_write : GoodIn wsX8_writeBlock wsX4_write := goodIn_r _ [9, 10, 11, 12, 13, 14, 8, 15, 16, 17, 18, 19, 20, 21, 22, 23, 24, 25, 26, 27, 28, 29, 30, 31, 32, 33, 34, 35, 36, 37, 38, 39, 40, 41, 42, 43, 44, 45, 46, 47, 48, 49, 50, 51, 52, 53, 54, 55, 56, 57, 58, 59, 60, 61, 161, 162, 163, 164, 165, 166, 167, 168, 169, 170, 171, 172, 173] (by decide +kernel) (by decide +kernel)
set_option maxRecDepth 20000 in
theorem gX8_writeBlock_X4_write : GoodIn wsX8_writeBlock (wsV RX8 377 RX4 yX4_write wsX4_write) := goodIn_app (goodIn_of _ (by decide +kernel)) ggX8_writeBlock_X4_write
set_option maxRecDepth 20000 in
theorem ggX8_writeBlock_X6_hear : GoodIn wsX8_writeBlock wsX6_hear := goodIn_r _ [66, 67, 68, 69, 70, 71, 72, 73, 74, 75, 76, 8, 77, 43, 78, 79, 80, 81, 11, 82, 83, 84, 65, 85, 86, 87, 88, 89, 90, 91, 92, 93, 94, 95, 96, 19, 97, 98, 99, 100, 101, 102, 103, 104, 105, 106, 107, 108, 109, 110, 31, 32, 33, 111, 112, 113, 34, 35, 36, 37, 114, 115, 116, 117, 118, 119, 120, 121, 122, 123, 124, 125, 126, 127, 128, 129, 130, 131, 132, 133, 134, 135, 136, 137, 138, 139, 140, 141, 142, 143, 144, 145, 146, 147, 148, 149, 150, 174, 175, 176, 177, 178, 179, 180, 181, 182, 183, 184, 185, 161, 162, 163, 164, 165, 166, 167, 168, 169, 170, 171, 172, 173] (by decide +kernel) (by decide +kernel)
set_option maxRecDepth 20000 in
theorem gX8_writeBlock_X6_hear : GoodIn wsX8_writeBlock (wsV RX8 380 RX6 yX6_hear wsX6_hear) := goodIn_app (goodIn_of _ (by decide +kernel)) ggX8_writeBlock_X6_hear
set_option maxRecDepth 20000 in
theorem ggX8_isAsked_X1_find : GoodIn wsX8_isAsked wsX1_find := goodIn_r _ [41, 42, 43, 44, 45, 46, 13, 47, 48, 49, 50, 51, 52, 53, 54, 55, 56, 57, 58, 59, 60, 61, 62, 63, 64, 65, 66, 67, 68, 69, 70, 104, 105, 106, 107, 108, 109, 110, 111, 112, 113, 114, 115, 116] (by decide +kernel) (by decide +kernel)
set_option maxRecDepth 20000 in
theorem gX8_isAsked_X1_find : GoodIn wsX8_isAsked (wsV RX8 463 RX1 yX1_find wsX1_find) := goodIn_app (goodIn_of _ (by decide +kernel)) ggX8_isAsked_X1_find
set_option maxRecDepth 20000 in
theorem ggX9_write_X9_act : GoodIn wsX9_write wsX9_act := goodIn_r _ [5, 6, 7, 8, 9, 10, 16, 17, 18, 19, 20, 21, 22, 23, 24, 25, 26, 27, 28, 29, 30, 31, 32, 33, 34, 35, 36, 37, 38, 39, 40, 41, 42, 43, 44, 45, 46, 47, 48, 49, 50, 51, 52, 53] (by decide +kernel) (by decide +kernel)
set_option maxRecDepth 20000 in
theorem gX9_write_X9_act : GoodIn wsX9_write (wsV RX9 117 RX9 yX9_act wsX9_act) := goodIn_app (goodIn_of _ (by decide +kernel)) ggX9_write_X9_act
set_option maxRecDepth 20000 in
theorem ggX9_write_X9_set : GoodIn wsX9_write wsX9_set := goodIn_r _ [14, 15, 16, 17, 18, 19, 20, 21, 22, 23, 24, 25, 26, 27, 28, 29, 30, 31, 32, 33, 34, 35, 36, 37, 38, 39, 40, 41, 42, 43, 44, 45, 46, 47, 48, 49, 50, 51, 52, 53] (by decide +kernel) (by decide +kernel)
set_option maxRecDepth 20000 in
theorem gX9_write_X9_set : GoodIn wsX9_write (wsV RX9 83 RX9 yX9_set wsX9_set) := goodIn_app (goodIn_of _ (by decide +kernel)) ggX9_write_X9_set
set_option maxRecDepth 20000 in
theorem ggX9_freshSum_X9_more : GoodIn wsX9_freshSum wsX9_more := goodIn_r _ [6, 7] (by decide +kernel) (by decide +kernel)
set_option maxRecDepth 20000 in
theorem gX9_freshSum_X9_more : GoodIn wsX9_freshSum (va_wsS RX9 104 yX9_more wsX9_more) := goodIn_app (goodIn_of _ (by decide +kernel)) ggX9_freshSum_X9_more
set_option maxRecDepth 20000 in
theorem ggX9_layRow_X9_put : GoodIn wsX9_layRow wsX9_put := goodIn_r _ [6, 1, 7, 17, 18, 19, 20, 21, 22, 23, 24, 25, 26, 27, 28, 29, 30, 31, 32, 33, 34, 35, 36, 37, 38, 39, 40, 41, 42, 43, 44, 45, 46, 47, 48, 49, 50, 51, 52, 53, 54] (by decide +kernel) (by decide +kernel)
set_option maxRecDepth 20000 in
theorem gX9_layRow_X9_put : GoodIn wsX9_layRow (wsV RX9 121 RX9 yX9_put wsX9_put) := goodIn_app (goodIn_of _ (by decide +kernel)) ggX9_layRow_X9_put
set_option maxRecDepth 20000 in
theorem ggX9_layRow_X9_freshSum : GoodIn wsX9_layRow wsX9_freshSum := goodIn_r _ [11, 12, 1, 13, 14, 5, 15, 16, 17, 18, 19, 20, 21, 22, 23, 24, 25, 26, 27, 28, 29, 30, 31, 32, 33, 34, 35, 36, 37, 38, 39, 40, 41, 42, 43, 44, 45, 46, 47, 48, 49, 50, 51, 52, 53, 54] (by decide +kernel) (by decide +kernel)
set_option maxRecDepth 20000 in
theorem gX9_layRow_X9_freshSum : GoodIn wsX9_layRow (wsV RX9 124 RX9 yX9_freshSum wsX9_freshSum) := goodIn_app (goodIn_of _ (by decide +kernel)) ggX9_layRow_X9_freshSum
set_option maxRecDepth 20000 in
theorem ggX9_writeFresh_X9_write : GoodIn wsX9_writeFresh wsX9_write := goodIn_r _ [6, 7, 8, 9, 5, 10, 11, 12, 13, 14, 15, 16, 17, 18, 19, 20, 21, 22, 23, 24, 25, 26, 27, 28, 29, 30, 31, 32, 33, 34, 35, 36, 37, 38, 39, 40, 41, 42, 43, 44, 45, 46, 47, 48, 49, 50, 51, 52, 53, 54, 55, 56, 57, 58] (by decide +kernel) (by decide +kernel)
set_option maxRecDepth 20000 in
theorem gX9_writeFresh_X9_write : GoodIn wsX9_writeFresh (wsV RX9 128 RX9 yX9_write wsX9_write) := goodIn_app (goodIn_of _ (by decide +kernel)) ggX9_writeFresh_X9_write
set_option maxRecDepth 20000 in
theorem ggX9_stateOf_X9_byteIn : GoodIn wsX9_stateOf wsX9_byteIn := goodIn_r _ [5, 6, 31, 32, 33, 34, 35, 36, 37, 38, 39, 40, 41, 42, 43, 44, 45, 46, 47, 48, 49, 50, 51, 52, 53, 54, 55, 56, 57, 58, 59, 60, 61, 62, 63, 64, 65, 66, 67, 68] (by decide +kernel) (by decide +kernel)
set_option maxRecDepth 20000 in
theorem gX9_stateOf_X9_byteIn : GoodIn wsX9_stateOf (wsV RX9 96 RX9 yX9_byteIn wsX9_byteIn) := goodIn_app (goodIn_of _ (by decide +kernel)) ggX9_stateOf_X9_byteIn
set_option maxRecDepth 20000 in
theorem ggX9_pageState_X9_pagePlace : GoodIn wsX9_pageState wsX9_pagePlace := goodIn_r _ [5] (by decide +kernel) (by decide +kernel)
set_option maxRecDepth 20000 in
theorem gX9_pageState_X9_pagePlace : GoodIn wsX9_pageState (wsV RX9 154 RX9 yX9_pagePlace wsX9_pagePlace) := goodIn_app (goodIn_of _ (by decide +kernel)) ggX9_pageState_X9_pagePlace
set_option maxRecDepth 20000 in
theorem ggX9_pageState_X9_stateOf : GoodIn wsX9_pageState wsX9_stateOf := goodIn_r _ [9, 10, 11, 12, 4, 13, 14, 15, 16, 17, 18, 19, 20, 21, 22, 23, 24, 25, 26, 27, 28, 29, 30, 31, 32, 33, 34, 35, 36, 37, 38, 39, 40, 41, 42, 43, 44, 45, 46, 47, 48, 49, 50, 51, 52, 53, 54, 55, 56, 57, 58, 59, 60, 61, 62, 63, 64, 65, 66, 67, 68, 69, 70, 71, 72, 73, 74, 75, 76] (by decide +kernel) (by decide +kernel)
set_option maxRecDepth 20000 in
theorem gX9_pageState_X9_stateOf : GoodIn wsX9_pageState (wsV RX9 150 RX9 yX9_stateOf wsX9_stateOf) := goodIn_app (goodIn_of _ (by decide +kernel)) ggX9_pageState_X9_stateOf
set_option maxRecDepth 20000 in
theorem ggX9_badRows_X9_rows : GoodIn wsX9_badRows wsX9_rows := goodIn_r _ [5, 6, 49, 50, 51, 52, 53, 54, 55, 56, 57, 58, 59, 60, 61, 62, 63, 64, 65, 66, 67, 68, 69, 70, 71, 72, 73, 74, 75, 76, 77, 78, 79, 80, 81, 82, 83, 84, 85, 86] (by decide +kernel) (by decide +kernel)
set_option maxRecDepth 20000 in
theorem gX9_badRows_X9_rows : GoodIn wsX9_badRows (wsV RX9 163 RX9 yX9_rows wsX9_rows) := goodIn_app (goodIn_of _ (by decide +kernel)) ggX9_badRows_X9_rows
set_option maxRecDepth 20000 in
theorem ggX9_read_X9_rows : GoodIn wsX9_read wsX9_rows := goodIn_r _ [16, 17, 112, 113, 114, 115, 116, 117, 118, 119, 120, 121, 122, 123, 124, 125, 126, 127, 128, 129, 130, 131, 132, 133, 134, 135, 136, 137, 138, 139, 140, 141, 142, 143, 144, 145, 146, 147, 148, 149] (by decide +kernel) (by decide +kernel)
set_option maxRecDepth 20000 in
theorem gX9_read_X9_rows : GoodIn wsX9_read (wsV RX9 163 RX9 yX9_rows wsX9_rows) := goodIn_app (goodIn_of _ (by decide +kernel)) ggX9_read_X9_rows
set_option maxRecDepth 20000 in
theorem ggX9_read_X9_badRows : GoodIn wsX9_read wsX9_badRows := goodIn_r _ [21, 12, 13, 14, 15, 16, 17, 22, 23, 24, 25, 26, 27, 28, 29, 30, 31, 32, 33, 34, 35, 36, 37, 38, 39, 40, 41, 42, 43, 44, 45, 46, 47, 48, 49, 50, 51, 52, 53, 54, 55, 56, 57, 58, 59, 60, 61, 62, 63, 112, 113, 114, 115, 116, 117, 118, 119, 120, 121, 122, 123, 124, 125, 126, 127, 128, 129, 130, 131, 132, 133, 134, 135, 136, 137, 138, 139, 140, 141, 142, 143, 144, 145, 146, 147, 148, 149] (by decide +kernel) (by decide +kernel)
set_option maxRecDepth 20000 in
theorem gX9_read_X9_badRows : GoodIn wsX9_read (wsV RX9 173 RX9 yX9_badRows wsX9_badRows) := goodIn_app (goodIn_of _ (by decide +kernel)) ggX9_read_X9_badRows
set_option maxRecDepth 20000 in
theorem ggX9_numberSum_X9_more : GoodIn wsX9_numberSum wsX9_more := goodIn_r _ [5, 6] (by decide +kernel) (by decide +kernel)
set_option maxRecDepth 20000 in
theorem gX9_numberSum_X9_more : GoodIn wsX9_numberSum (va_wsS RX9 104 yX9_more wsX9_more) := goodIn_app (goodIn_of _ (by decide +kernel)) ggX9_numberSum_X9_more
set_option maxRecDepth 20000 in
theorem ggX9_pageOf_X9_pagePlace : GoodIn wsX9_pageOf wsX9_pagePlace := goodIn_r _ [6] (by decide +kernel) (by decide +kernel)
set_option maxRecDepth 20000 in
theorem gX9_pageOf_X9_pagePlace : GoodIn wsX9_pageOf (wsV RX9 154 RX9 yX9_pagePlace wsX9_pagePlace) := goodIn_app (goodIn_of _ (by decide +kernel)) ggX9_pageOf_X9_pagePlace
set_option maxRecDepth 20000 in
theorem ggX9_pageOf_X9_number : GoodIn wsX9_pageOf wsX9_number := goodIn_r _ [10, 11, 12, 13, 5, 14, 15, 44, 45, 46, 47, 48, 49, 50, 51, 52, 53, 54, 55, 56, 57, 58, 59, 60, 61, 62, 63, 64, 65, 66, 67, 68, 69, 70, 71, 72, 73, 74, 75, 76, 77, 78, 79, 80, 81] (by decide +kernel) (by decide +kernel)
set_option maxRecDepth 20000 in
theorem gX9_pageOf_X9_number : GoodIn wsX9_pageOf (wsV RX9 131 RX9 yX9_number wsX9_number) := goodIn_app (goodIn_of _ (by decide +kernel)) ggX9_pageOf_X9_number
set_option maxRecDepth 20000 in
theorem ggX9_pageOf_X9_pageState : GoodIn wsX9_pageOf wsX9_pageState := goodIn_r _ [19, 2, 3, 4, 5, 6, 20, 21, 22, 23, 11, 12, 13, 14, 15, 7, 8, 9, 10, 24, 25, 26, 27, 28, 29, 30, 31, 32, 33, 34, 35, 36, 37, 38, 39, 40, 41, 42, 43, 44, 45, 46, 47, 48, 49, 50, 51, 52, 53, 54, 55, 56, 57, 58, 59, 60, 61, 62, 63, 64, 65, 66, 67, 68, 69, 70, 71, 72, 73, 74, 75, 76, 77, 78, 79, 80, 81] (by decide +kernel) (by decide +kernel)
set_option maxRecDepth 20000 in
theorem gX9_pageOf_X9_pageState : GoodIn wsX9_pageOf (wsV RX9 238 RX9 yX9_pageState wsX9_pageState) := goodIn_app (goodIn_of _ (by decide +kernel)) ggX9_pageOf_X9_pageState
set_option maxRecDepth 20000 in
theorem ggX9_open_X9_rows : GoodIn wsX9_open wsX9_rows := goodIn_r _ [11, 5, 109, 110, 111, 112, 113, 114, 115, 116, 117, 118, 119, 120, 121, 122, 123, 124, 125, 126, 127, 128, 129, 130, 131, 132, 133, 134, 135, 136, 137, 138, 139, 140, 141, 142, 143, 144, 145, 146] (by decide +kernel) (by decide +kernel)
set_option maxRecDepth 20000 in
theorem gX9_open_X9_rows : GoodIn wsX9_open (wsV RX9 163 RX9 yX9_rows wsX9_rows) := goodIn_app (goodIn_of _ (by decide +kernel)) ggX9_open_X9_rows
set_option maxRecDepth 20000 in
theorem ggX9_badPages_X9_pageState : GoodIn wsX9_badPages wsX9_pageState := goodIn_r _ [6, 7, 8, 9, 5, 10, 11, 12, 13, 14, 15, 16, 17, 18, 19, 20, 21, 22, 23, 24, 25, 26, 27, 28, 29, 30, 31, 32, 33, 34, 35, 36, 37, 38, 39, 40, 41, 42, 43, 44, 45, 46, 47, 48, 49, 50, 51, 52, 53, 54, 55, 56, 57, 58, 59, 60, 61, 62, 63, 64, 65, 66, 67, 68, 69, 70, 71, 72, 73, 74, 75, 76, 77, 78, 79, 80, 81] (by decide +kernel) (by decide +kernel)
set_option maxRecDepth 20000 in
theorem gX9_badPages_X9_pageState : GoodIn wsX9_badPages (wsV RX9 238 RX9 yX9_pageState wsX9_pageState) := goodIn_app (goodIn_of _ (by decide +kernel)) ggX9_badPages_X9_pageState
set_option maxRecDepth 20000 in
theorem ggX9_asked_X9_rows : GoodIn wsX9_asked wsX9_rows := goodIn_r _ [8, 9, 60, 61, 62, 63, 64, 65, 66, 67, 68, 69, 70, 71, 72, 73, 74, 75, 76, 77, 78, 79, 80, 81, 82, 83, 84, 85, 86, 87, 88, 89, 90, 91, 92, 93, 94, 95, 96, 97] (by decide +kernel) (by decide +kernel)
set_option maxRecDepth 20000 in
theorem gX9_asked_X9_rows : GoodIn wsX9_asked (wsV RX9 163 RX9 yX9_rows wsX9_rows) := goodIn_app (goodIn_of _ (by decide +kernel)) ggX9_asked_X9_rows
set_option maxRecDepth 20000 in
theorem ggX9_asked_X9_pageState : GoodIn wsX9_asked wsX9_pageState := goodIn_r _ [55, 56, 57, 58, 7, 59, 19, 20, 21, 22, 23, 24, 25, 26, 27, 28, 29, 30, 31, 32, 33, 34, 35, 36, 37, 38, 39, 40, 41, 42, 43, 44, 45, 46, 47, 48, 49, 50, 51, 60, 61, 62, 63, 64, 65, 66, 67, 68, 69, 70, 71, 72, 73, 74, 75, 76, 77, 78, 79, 80, 81, 82, 83, 84, 85, 86, 87, 88, 89, 90, 91, 92, 93, 94, 95, 96, 97] (by decide +kernel) (by decide +kernel)
set_option maxRecDepth 20000 in
theorem gX9_asked_X9_pageState : GoodIn wsX9_asked (wsV RX9 238 RX9 yX9_pageState wsX9_pageState) := goodIn_app (goodIn_of _ (by decide +kernel)) ggX9_asked_X9_pageState
set_option maxRecDepth 20000 in
theorem ggX9_isAsked_X9_rows : GoodIn wsX9_isAsked wsX9_rows := goodIn_r _ [6, 7, 58, 59, 60, 61, 62, 63, 64, 65, 66, 67, 68, 69, 70, 71, 72, 73, 74, 75, 76, 77, 78, 79, 80, 81, 82, 83, 84, 85, 86, 87, 88, 89, 90, 91, 92, 93, 94, 95] (by decide +kernel) (by decide +kernel)
set_option maxRecDepth 20000 in
theorem gX9_isAsked_X9_rows : GoodIn wsX9_isAsked (wsV RX9 163 RX9 yX9_rows wsX9_rows) := goodIn_app (goodIn_of _ (by decide +kernel)) ggX9_isAsked_X9_rows
set_option maxRecDepth 20000 in
theorem ggX9_isAsked_X9_pageState : GoodIn wsX9_isAsked wsX9_pageState := goodIn_r _ [53, 54, 55, 56, 5, 57, 17, 18, 19, 20, 21, 22, 23, 24, 25, 26, 27, 28, 29, 30, 31, 32, 33, 34, 35, 36, 37, 38, 39, 40, 41, 42, 43, 44, 45, 46, 47, 48, 49, 58, 59, 60, 61, 62, 63, 64, 65, 66, 67, 68, 69, 70, 71, 72, 73, 74, 75, 76, 77, 78, 79, 80, 81, 82, 83, 84, 85, 86, 87, 88, 89, 90, 91, 92, 93, 94, 95] (by decide +kernel) (by decide +kernel)
set_option maxRecDepth 20000 in
theorem gX9_isAsked_X9_pageState : GoodIn wsX9_isAsked (wsV RX9 238 RX9 yX9_pageState wsX9_pageState) := goodIn_app (goodIn_of _ (by decide +kernel)) ggX9_isAsked_X9_pageState
set_option maxRecDepth 20000 in
theorem ggX9_mend_X9_isAsked : GoodIn wsX9_mend wsX9_isAsked := goodIn_r _ [12, 13, 14, 15, 16, 11, 17, 18, 19, 20, 21, 22, 3, 23, 24, 25, 26, 27, 28, 29, 30, 31, 32, 33, 34, 35, 36, 37, 38, 39, 40, 41, 42, 43, 44, 45, 46, 47, 48, 49, 50, 51, 52, 53, 54, 55, 56, 57, 58, 59, 60, 61, 62, 63, 64, 65, 66, 67, 127, 128, 129, 130, 131, 132, 133, 134, 135, 136, 137, 138, 139, 140, 141, 142, 143, 144, 145, 146, 147, 148, 149, 150, 151, 152, 153, 154, 155, 156, 157, 158, 159, 160, 161, 162, 163, 164] (by decide +kernel) (by decide +kernel)
set_option maxRecDepth 20000 in
theorem gX9_mend_X9_isAsked : GoodIn wsX9_mend (wsV RX9 268 RX9 yX9_isAsked wsX9_isAsked) := goodIn_app (goodIn_of _ (by decide +kernel)) ggX9_mend_X9_isAsked
set_option maxRecDepth 20000 in
theorem ggX9_feed_X9_within : GoodIn wsX9_feed wsX9_within := goodIn_r _ [8] (by decide +kernel) (by decide +kernel)
set_option maxRecDepth 20000 in
theorem gX9_feed_X9_within : GoodIn wsX9_feed (va_wsS RX9 138 yX9_within wsX9_within) := goodIn_app (goodIn_of _ (by decide +kernel)) ggX9_feed_X9_within
set_option maxRecDepth 20000 in
theorem ggX9_at_X9_within : GoodIn wsX9_at wsX9_within := goodIn_r _ [7] (by decide +kernel) (by decide +kernel)
set_option maxRecDepth 20000 in
theorem gX9_at_X9_within : GoodIn wsX9_at (va_wsS RX9 138 yX9_within wsX9_within) := goodIn_app (goodIn_of _ (by decide +kernel)) ggX9_at_X9_within
set_option maxRecDepth 20000 in
theorem ggX9_leaf_X9_within : GoodIn wsX9_leaf wsX9_within := goodIn_r _ [8] (by decide +kernel) (by decide +kernel)
set_option maxRecDepth 20000 in
theorem gX9_leaf_X9_within : GoodIn wsX9_leaf (va_wsS RX9 138 yX9_within wsX9_within) := goodIn_app (goodIn_of _ (by decide +kernel)) ggX9_leaf_X9_within
set_option maxRecDepth 20000 in
theorem ggX9_change_X9_within : GoodIn wsX9_change wsX9_within := goodIn_r _ [10] (by decide +kernel) (by decide +kernel)
set_option maxRecDepth 20000 in
theorem gX9_change_X9_within : GoodIn wsX9_change (va_wsS RX9 138 yX9_within wsX9_within) := goodIn_app (goodIn_of _ (by decide +kernel)) ggX9_change_X9_within
set_option maxRecDepth 20000 in
theorem ggX9_change_X9_pageState : GoodIn wsX9_change wsX9_pageState := goodIn_r _ [14, 15, 16, 17, 9, 18, 19, 20, 21, 22, 23, 24, 25, 26, 27, 28, 29, 30, 31, 32, 33, 34, 35, 7, 8, 10, 36, 37, 38, 39, 40, 41, 42, 43, 44, 45, 46, 47, 48, 53, 54, 55, 56, 57, 58, 59, 60, 61, 62, 63, 64, 65, 66, 67, 68, 69, 70, 71, 72, 73, 74, 75, 76, 77, 78, 79, 80, 81, 82, 83, 84, 85, 86, 87, 88, 89, 90] (by decide +kernel) (by decide +kernel)
set_option maxRecDepth 20000 in
theorem gX9_change_X9_pageState : GoodIn wsX9_change (wsV RX9 238 RX9 yX9_pageState wsX9_pageState) := goodIn_app (goodIn_of _ (by decide +kernel)) ggX9_change_X9_pageState
set_option maxRecDepth 20000 in
theorem ggX9_block_X9_within : GoodIn wsX9_block wsX9_within := goodIn_r _ [19] (by decide +kernel) (by decide +kernel)
set_option maxRecDepth 20000 in
theorem gX9_block_X9_within : GoodIn wsX9_block (va_wsS RX9 138 yX9_within wsX9_within) := goodIn_app (goodIn_of _ (by decide +kernel)) ggX9_block_X9_within
set_option maxRecDepth 20000 in
theorem ggX9_block_X9_read : GoodIn wsX9_block wsX9_read := goodIn_r _ [23, 5, 4, 24, 8, 7, 6, 25, 26, 27, 28, 29, 30, 31, 32, 18, 33, 14, 34, 35, 36, 37, 38, 39, 40, 41, 13, 42, 43, 44, 45, 46, 47, 48, 49, 50, 51, 52, 53, 54, 55, 56, 57, 58, 59, 60, 61, 62, 16, 17, 19, 63, 64, 65, 66, 67, 68, 69, 70, 71, 72, 73, 74, 75, 76, 77, 78, 79, 80, 81, 82, 83, 2, 84, 85, 86, 87, 88, 89, 90, 91, 92, 93, 94, 95, 96, 97, 98, 99, 100, 101, 102, 103, 9, 104, 105, 106, 107, 108, 109, 110, 111, 112, 113, 114, 115, 116, 117, 118, 119, 120, 121, 159, 160, 161, 162, 163, 164, 165, 166, 167, 168, 169, 170, 171, 172, 173, 174, 175, 176, 177, 178, 179, 180, 181, 182, 183, 184, 185, 186, 187, 188, 189, 190, 191, 192, 193, 194, 195, 196] (by decide +kernel) (by decide +kernel)
set_option maxRecDepth 20000 in
theorem gX9_block_X9_read : GoodIn wsX9_block (wsV RX9 300 RX9 yX9_read wsX9_read) := goodIn_app (goodIn_of _ (by decide +kernel)) ggX9_block_X9_read
set_option maxRecDepth 20000 in
theorem ggX9_block_X9_meant : GoodIn wsX9_block wsX9_meant := goodIn_r _ [125, 126, 127, 5, 28, 27, 159, 160, 161, 162, 163, 164, 165, 166, 167, 168, 169, 170, 171, 172, 173, 174, 175, 176, 177, 178, 179, 180, 181, 182, 183, 184, 185, 186, 187, 188, 189, 190, 191, 192, 193, 194, 195, 196] (by decide +kernel) (by decide +kernel)
set_option maxRecDepth 20000 in
theorem gX9_block_X9_meant : GoodIn wsX9_block (wsV RX9 303 RX9 yX9_meant wsX9_meant) := goodIn_app (goodIn_of _ (by decide +kernel)) ggX9_block_X9_meant
set_option maxRecDepth 20000 in
theorem ggX9_block_X9_blockRow : GoodIn wsX9_block wsX9_blockRow := goodIn_r _ [117, 29, 27, 76, 77, 78, 18, 79, 13, 42, 43, 44, 45, 50, 51, 52, 53, 54, 159, 160, 161, 162, 163, 164, 165, 166, 167, 168, 169, 170, 171, 172, 173, 174, 175, 176, 177, 178, 179, 180, 181, 182, 183, 184, 185, 186, 187, 188, 189, 190, 191, 192, 193, 194, 195, 196] (by decide +kernel) (by decide +kernel)
set_option maxRecDepth 20000 in
theorem gX9_block_X9_blockRow : GoodIn wsX9_block (wsV RX9 228 RX9 yX9_blockRow wsX9_blockRow) := goodIn_app (goodIn_of _ (by decide +kernel)) ggX9_block_X9_blockRow
set_option maxRecDepth 20000 in
theorem ggX9_block_X9_numberSum : GoodIn wsX9_block wsX9_numberSum := goodIn_r _ [107, 108, 72, 73, 18, 74, 75] (by decide +kernel) (by decide +kernel)
set_option maxRecDepth 20000 in
theorem gX9_block_X9_numberSum : GoodIn wsX9_block (wsV RX9 224 RX9 yX9_numberSum wsX9_numberSum) := goodIn_app (goodIn_of _ (by decide +kernel)) ggX9_block_X9_numberSum
set_option maxRecDepth 20000 in
theorem ggX9_block_X9_layRow : GoodIn wsX9_block wsX9_layRow := goodIn_r _ [131, 132, 133, 134, 135, 18, 136, 108, 137, 138, 139, 140, 71, 72, 73, 74, 75, 159, 160, 161, 162, 163, 164, 165, 166, 167, 168, 169, 170, 171, 172, 173, 174, 175, 176, 177, 178, 179, 180, 181, 182, 183, 184, 185, 186, 187, 188, 189, 190, 191, 192, 193, 194, 195, 196] (by decide +kernel) (by decide +kernel)
set_option maxRecDepth 20000 in
theorem gX9_block_X9_layRow : GoodIn wsX9_block (wsV RX9 307 RX9 yX9_layRow wsX9_layRow) := goodIn_app (goodIn_of _ (by decide +kernel)) ggX9_block_X9_layRow
set_option maxRecDepth 20000 in
theorem ggX9_block_X9_rowPlace : GoodIn wsX9_block wsX9_rowPlace := goodIn_r _ [45] (by decide +kernel) (by decide +kernel)
set_option maxRecDepth 20000 in
theorem gX9_block_X9_rowPlace : GoodIn wsX9_block (wsV RX9 146 RX9 yX9_rowPlace wsX9_rowPlace) := goodIn_app (goodIn_of _ (by decide +kernel)) ggX9_block_X9_rowPlace
set_option maxRecDepth 20000 in
theorem ggX9_block_X9_writeFresh : GoodIn wsX9_block wsX9_writeFresh := goodIn_r _ [144, 132, 145, 146, 147, 18, 148, 149, 150, 151, 152, 15, 153, 1, 10, 154, 155, 156, 157, 158, 54, 159, 160, 161, 162, 163, 164, 165, 166, 167, 168, 169, 170, 171, 172, 173, 174, 175, 176, 177, 178, 179, 180, 181, 182, 183, 184, 185, 186, 187, 188, 189, 190, 191, 192, 193, 194, 195, 196] (by decide +kernel) (by decide +kernel)
set_option maxRecDepth 20000 in
theorem gX9_block_X9_writeFresh : GoodIn wsX9_block (wsV RX9 281 RX9 yX9_writeFresh wsX9_writeFresh) := goodIn_app (goodIn_of _ (by decide +kernel)) ggX9_block_X9_writeFresh
set_option maxRecDepth 20000 in
theorem ggX9_isRow_X9_rows : GoodIn wsX9_isRow wsX9_rows := goodIn_r _ [6, 7, 8, 9, 10, 11, 12, 13, 14, 15, 16, 17, 18, 19, 20, 21, 22, 23, 24, 25, 26, 27, 28, 29, 30, 31, 32, 33, 34, 35, 36, 37, 38, 39, 40, 41, 42, 43, 44, 45] (by decide +kernel) (by decide +kernel)
set_option maxRecDepth 20000 in
theorem gX9_isRow_X9_rows : GoodIn wsX9_isRow (wsV RX9 163 RX9 yX9_rows wsX9_rows) := goodIn_app (goodIn_of _ (by decide +kernel)) ggX9_isRow_X9_rows
set_option maxRecDepth 20000 in
theorem ggX9_digest_X9_isRow : GoodIn wsX9_digest wsX9_isRow := goodIn_r _ [10, 1, 11, 12, 13, 9, 14, 15, 122, 123, 124, 125, 126, 127, 128, 129, 130, 131, 132, 133, 134, 135, 136, 137, 138, 139, 140, 141, 142, 143, 144, 145, 146, 147, 148, 149, 150, 151, 152, 153, 154, 155, 156, 157, 158, 159] (by decide +kernel) (by decide +kernel)
set_option maxRecDepth 20000 in
theorem gX9_digest_X9_isRow : GoodIn wsX9_digest (wsV RX9 311 RX9 yX9_isRow wsX9_isRow) := goodIn_app (goodIn_of _ (by decide +kernel)) ggX9_digest_X9_isRow
set_option maxRecDepth 20000 in
theorem ggX9_vote_X9_within : GoodIn wsX9_vote wsX9_within := goodIn_r _ [13] (by decide +kernel) (by decide +kernel)
set_option maxRecDepth 20000 in
theorem gX9_vote_X9_within : GoodIn wsX9_vote (va_wsS RX9 138 yX9_within wsX9_within) := goodIn_app (goodIn_of _ (by decide +kernel)) ggX9_vote_X9_within
set_option maxRecDepth 20000 in
theorem ggX9_vote_X9_read : GoodIn wsX9_vote wsX9_read := goodIn_r _ [17, 5, 4, 6, 18, 19, 20, 21, 22, 23, 24, 25, 26, 27, 28, 12, 29, 8, 30, 31, 32, 33, 34, 35, 36, 37, 7, 38, 39, 40, 41, 42, 43, 44, 45, 46, 47, 48, 49, 50, 51, 52, 53, 54, 55, 56, 57, 58, 10, 11, 13, 59, 60, 61, 62, 63, 64, 65, 66, 67, 68, 69, 70, 71, 72, 73, 74, 75, 76, 77, 78, 79, 2, 80, 81, 82, 83, 84, 85, 86, 87, 88, 89, 90, 91, 92, 93, 94, 95, 96, 97, 98, 99, 100, 101, 102, 103, 104, 105, 106, 107, 108, 109, 110, 111, 112, 113, 114, 115, 116, 117, 118, 157, 158, 159, 160, 161, 162, 163, 164, 165, 166, 167, 168, 169, 170, 171, 172, 173, 174, 175, 176, 177, 178, 179, 180, 181, 182, 183, 184, 185, 186, 187, 188, 189, 190, 191, 192, 193, 194] (by decide +kernel) (by decide +kernel)
set_option maxRecDepth 20000 in
theorem gX9_vote_X9_read : GoodIn wsX9_vote (wsV RX9 300 RX9 yX9_read wsX9_read) := goodIn_app (goodIn_of _ (by decide +kernel)) ggX9_vote_X9_read
set_option maxRecDepth 20000 in
theorem ggX9_vote_X9_meant : GoodIn wsX9_vote wsX9_meant := goodIn_r _ [122, 123, 124, 5, 24, 23, 157, 158, 159, 160, 161, 162, 163, 164, 165, 166, 167, 168, 169, 170, 171, 172, 173, 174, 175, 176, 177, 178, 179, 180, 181, 182, 183, 184, 185, 186, 187, 188, 189, 190, 191, 192, 193, 194] (by decide +kernel) (by decide +kernel)
set_option maxRecDepth 20000 in
theorem gX9_vote_X9_meant : GoodIn wsX9_vote (wsV RX9 303 RX9 yX9_meant wsX9_meant) := goodIn_app (goodIn_of _ (by decide +kernel)) ggX9_vote_X9_meant
set_option maxRecDepth 20000 in
theorem ggX9_vote_X9_blockRow : GoodIn wsX9_vote wsX9_blockRow := goodIn_r _ [114, 25, 23, 72, 73, 74, 12, 75, 7, 38, 39, 40, 41, 46, 47, 48, 49, 50, 157, 158, 159, 160, 161, 162, 163, 164, 165, 166, 167, 168, 169, 170, 171, 172, 173, 174, 175, 176, 177, 178, 179, 180, 181, 182, 183, 184, 185, 186, 187, 188, 189, 190, 191, 192, 193, 194] (by decide +kernel) (by decide +kernel)
set_option maxRecDepth 20000 in
theorem gX9_vote_X9_blockRow : GoodIn wsX9_vote (wsV RX9 228 RX9 yX9_blockRow wsX9_blockRow) := goodIn_app (goodIn_of _ (by decide +kernel)) ggX9_vote_X9_blockRow
set_option maxRecDepth 20000 in
theorem ggX9_sent_X9_isRow : GoodIn wsX9_sent wsX9_isRow := goodIn_r _ [7, 1, 8, 9, 10, 6, 11, 12, 59, 60, 61, 62, 63, 64, 65, 66, 67, 68, 69, 70, 71, 72, 73, 74, 75, 76, 77, 78, 79, 80, 81, 82, 83, 84, 85, 86, 87, 88, 89, 90, 91, 92, 93, 94, 95, 96] (by decide +kernel) (by decide +kernel)
set_option maxRecDepth 20000 in
theorem gX9_sent_X9_isRow : GoodIn wsX9_sent (wsV RX9 311 RX9 yX9_isRow wsX9_isRow) := goodIn_app (goodIn_of _ (by decide +kernel)) ggX9_sent_X9_isRow
set_option maxRecDepth 20000 in
theorem ggX9_certify_X9_within : GoodIn wsX9_certify wsX9_within := goodIn_r _ [15] (by decide +kernel) (by decide +kernel)
set_option maxRecDepth 20000 in
theorem gX9_certify_X9_within : GoodIn wsX9_certify (va_wsS RX9 138 yX9_within wsX9_within) := goodIn_app (goodIn_of _ (by decide +kernel)) ggX9_certify_X9_within
set_option maxRecDepth 20000 in
theorem ggX9_certify_X9_read : GoodIn wsX9_certify wsX9_read := goodIn_r _ [19, 4, 3, 20, 5, 21, 22, 6, 23, 8, 24, 25, 26, 27, 28, 14, 29, 10, 30, 31, 32, 33, 34, 35, 36, 37, 9, 38, 39, 40, 41, 42, 43, 44, 45, 46, 47, 48, 49, 50, 51, 52, 53, 54, 55, 56, 57, 58, 12, 13, 15, 59, 60, 61, 62, 63, 64, 65, 66, 67, 68, 69, 70, 71, 72, 73, 74, 75, 76, 77, 78, 79, 80, 81, 82, 83, 84, 85, 86, 87, 88, 89, 90, 91, 92, 93, 94, 95, 96, 97, 98, 99, 100, 101, 102, 103, 104, 105, 106, 107, 108, 109, 110, 7, 111, 112, 113, 114, 115, 116, 117, 118, 157, 158, 159, 160, 161, 162, 163, 164, 165, 166, 167, 168, 169, 170, 171, 172, 173, 174, 175, 176, 177, 178, 179, 180, 181, 182, 183, 184, 185, 186, 187, 188, 189, 190, 191, 192, 193, 194] (by decide +kernel) (by decide +kernel)
set_option maxRecDepth 20000 in
theorem gX9_certify_X9_read : GoodIn wsX9_certify (wsV RX9 300 RX9 yX9_read wsX9_read) := goodIn_app (goodIn_of _ (by decide +kernel)) ggX9_certify_X9_read
set_option maxRecDepth 20000 in
theorem ggX9_certify_X9_meant : GoodIn wsX9_certify wsX9_meant := goodIn_r _ [122, 123, 124, 4, 24, 8, 157, 158, 159, 160, 161, 162, 163, 164, 165, 166, 167, 168, 169, 170, 171, 172, 173, 174, 175, 176, 177, 178, 179, 180, 181, 182, 183, 184, 185, 186, 187, 188, 189, 190, 191, 192, 193, 194] (by decide +kernel) (by decide +kernel)
set_option maxRecDepth 20000 in
theorem gX9_certify_X9_meant : GoodIn wsX9_certify (wsV RX9 303 RX9 yX9_meant wsX9_meant) := goodIn_app (goodIn_of _ (by decide +kernel)) ggX9_certify_X9_meant
set_option maxRecDepth 20000 in
theorem ggX9_certify_X9_blockRow : GoodIn wsX9_certify wsX9_blockRow := goodIn_r _ [114, 25, 8, 72, 73, 74, 14, 75, 9, 38, 39, 40, 41, 46, 47, 48, 49, 50, 157, 158, 159, 160, 161, 162, 163, 164, 165, 166, 167, 168, 169, 170, 171, 172, 173, 174, 175, 176, 177, 178, 179, 180, 181, 182, 183, 184, 185, 186, 187, 188, 189, 190, 191, 192, 193, 194] (by decide +kernel) (by decide +kernel)
set_option maxRecDepth 20000 in
theorem gX9_certify_X9_blockRow : GoodIn wsX9_certify (wsV RX9 228 RX9 yX9_blockRow wsX9_blockRow) := goodIn_app (goodIn_of _ (by decide +kernel)) ggX9_certify_X9_blockRow
set_option maxRecDepth 20000 in
theorem ggX9_version_X9_within : GoodIn wsX9_version wsX9_within := goodIn_r _ [9] (by decide +kernel) (by decide +kernel)
set_option maxRecDepth 20000 in
theorem gX9_version_X9_within : GoodIn wsX9_version (va_wsS RX9 138 yX9_within wsX9_within) := goodIn_app (goodIn_of _ (by decide +kernel)) ggX9_version_X9_within
set_option maxRecDepth 20000 in
theorem ggX9_version_X9_read : GoodIn wsX9_version wsX9_read := goodIn_r _ [13, 14, 3, 15, 5, 16, 17, 4, 18, 19, 20, 21, 22, 23, 24, 8, 25, 26, 27, 28, 29, 30, 31, 32, 33, 34, 35, 36, 37, 38, 39, 40, 41, 42, 43, 44, 45, 46, 47, 48, 49, 50, 51, 52, 53, 54, 55, 56, 6, 7, 9, 57, 58, 59, 60, 61, 62, 63, 64, 65, 66, 67, 68, 69, 70, 71, 72, 73, 74, 75, 76, 77, 78, 79, 80, 81, 82, 83, 84, 85, 86, 87, 88, 89, 90, 91, 92, 93, 94, 95, 96, 97, 98, 99, 100, 101, 102, 103, 104, 105, 106, 107, 108, 109, 110, 111, 112, 113, 114, 115, 116, 117, 118, 119, 120, 121, 122, 123, 124, 125, 126, 127, 128, 129, 130, 131, 132, 133, 134, 135, 136, 137, 138, 139, 140, 141, 142, 143, 144, 145, 146, 147, 148, 149, 150, 151, 152, 153, 154, 155] (by decide +kernel) (by decide +kernel)
set_option maxRecDepth 20000 in
theorem gX9_version_X9_read : GoodIn wsX9_version (wsV RX9 300 RX9 yX9_read wsX9_read) := goodIn_app (goodIn_of _ (by decide +kernel)) ggX9_version_X9_read
set_option maxRecDepth 20000 in
theorem ggX9_slot_X9_read : GoodIn wsX9_slot wsX9_read := goodIn_r _ [8, 9, 10, 11, 12, 13, 14, 15, 16, 17, 18, 19, 20, 21, 22, 7, 23, 24, 25, 26, 27, 28, 29, 30, 31, 32, 33, 34, 35, 36, 37, 38, 39, 40, 41, 42, 43, 44, 45, 46, 47, 48, 49, 50, 51, 52, 53, 54, 55, 56, 57, 58, 59, 60, 61, 62, 63, 64, 65, 66, 67, 68, 69, 70, 71, 72, 73, 74, 75, 76, 77, 78, 79, 80, 81, 82, 83, 84, 85, 86, 87, 88, 89, 90, 91, 92, 93, 94, 95, 96, 97, 98, 99, 100, 101, 102, 103, 104, 105, 106, 107, 108, 109, 110, 111, 112, 113, 114, 115, 116, 117, 118, 131, 132, 133, 134, 135, 136, 137, 138, 139, 140, 141, 142, 143, 144, 145, 146, 147, 148, 149, 150, 151, 152, 153, 154, 155, 156, 157, 158, 159, 160, 161, 162, 163, 164, 165, 166, 167, 168] (by decide +kernel) (by decide +kernel)
set_option maxRecDepth 20000 in
theorem gX9_slot_X9_read : GoodIn wsX9_slot (wsV RX9 300 RX9 yX9_read wsX9_read) := goodIn_app (goodIn_of _ (by decide +kernel)) ggX9_slot_X9_read
set_option maxRecDepth 20000 in
theorem ggX9_slot_X9_within : GoodIn wsX9_slot wsX9_within := goodIn_r _ [57] (by decide +kernel) (by decide +kernel)
set_option maxRecDepth 20000 in
theorem gX9_slot_X9_within : GoodIn wsX9_slot (va_wsS RX9 138 yX9_within wsX9_within) := goodIn_app (goodIn_of _ (by decide +kernel)) ggX9_slot_X9_within
set_option maxRecDepth 20000 in
theorem ggX9_slot_X9_isKept : GoodIn wsX9_slot wsX9_isKept := goodIn_r _ [122, 10, 12, 15, 131, 132, 133, 134, 135, 136, 137, 138, 139, 140, 141, 142, 143, 144, 145, 146, 147, 148, 149, 150, 151, 152, 153, 154, 155, 156, 157, 158, 159, 160, 161, 162, 163, 164, 165, 166, 167, 168] (by decide +kernel) (by decide +kernel)
set_option maxRecDepth 20000 in
theorem gX9_slot_X9_isKept : GoodIn wsX9_slot (wsV RX9 314 RX9 yX9_isKept wsX9_isKept) := goodIn_app (goodIn_of _ (by decide +kernel)) ggX9_slot_X9_isKept
set_option maxRecDepth 20000 in
theorem ggX9_slot_X9_versionState : GoodIn wsX9_slot wsX9_versionState := goodIn_r _ [126, 3, 14, 12, 110, 127, 128, 129, 7, 130, 84, 85, 86, 87, 33, 34, 35, 36, 37, 47, 48, 49, 50, 42, 43, 44, 45, 46, 80, 81, 82, 83, 55, 56, 57, 92, 93, 94, 95, 131, 132, 133, 134, 135, 136, 137, 138, 139, 140, 141, 142, 143, 144, 145, 146, 147, 148, 149, 150, 151, 152, 153, 154, 155, 156, 157, 158, 159, 160, 161, 162, 163, 164, 165, 166, 167, 168] (by decide +kernel) (by decide +kernel)
set_option maxRecDepth 20000 in
theorem gX9_slot_X9_versionState : GoodIn wsX9_slot (wsV RX9 244 RX9 yX9_versionState wsX9_versionState) := goodIn_app (goodIn_of _ (by decide +kernel)) ggX9_slot_X9_versionState
set_option maxRecDepth 20000 in
theorem ggX9_page_X9_pageOf : GoodIn wsX9_page wsX9_pageOf := goodIn_r _ [7, 8, 9, 10, 11, 6, 12, 13, 14, 15, 16, 17, 18, 19, 20, 21, 22, 23, 24, 25, 26, 27, 28, 29, 30, 31, 32, 33, 34, 35, 36, 37, 38, 39, 40, 41, 42, 43, 44, 45, 46, 47, 48, 49, 50, 51, 52, 53, 54, 55, 56, 57, 58, 59, 60, 61, 62, 63, 64, 65, 66, 67, 68, 69, 70, 71, 72, 73, 74, 75, 76, 77, 78, 79, 80, 81, 82, 83, 84, 85, 86, 87] (by decide +kernel) (by decide +kernel)
set_option maxRecDepth 20000 in
theorem gX9_page_X9_pageOf : GoodIn wsX9_page (wsV RX9 317 RX9 yX9_pageOf wsX9_pageOf) := goodIn_app (goodIn_of _ (by decide +kernel)) ggX9_page_X9_pageOf
set_option maxRecDepth 20000 in
theorem ggX9_byteOf_X9_within : GoodIn wsX9_byteOf wsX9_within := goodIn_r _ [7] (by decide +kernel) (by decide +kernel)
set_option maxRecDepth 20000 in
theorem gX9_byteOf_X9_within : GoodIn wsX9_byteOf (va_wsS RX9 138 yX9_within wsX9_within) := goodIn_app (goodIn_of _ (by decide +kernel)) ggX9_byteOf_X9_within
set_option maxRecDepth 20000 in
theorem ggX9_byteOf_X9_pagePlace : GoodIn wsX9_byteOf wsX9_pagePlace := goodIn_r _ [11] (by decide +kernel) (by decide +kernel)
set_option maxRecDepth 20000 in
theorem gX9_byteOf_X9_pagePlace : GoodIn wsX9_byteOf (wsV RX9 154 RX9 yX9_pagePlace wsX9_pagePlace) := goodIn_app (goodIn_of _ (by decide +kernel)) ggX9_byteOf_X9_pagePlace
set_option maxRecDepth 20000 in
theorem ggX9_byteOf_X9_pageState : GoodIn wsX9_byteOf wsX9_pageState := goodIn_r _ [15, 8, 9, 10, 6, 11, 16, 17, 18, 19, 20, 21, 22, 23, 24, 25, 26, 27, 28, 29, 30, 31, 32, 4, 5, 7, 33, 34, 35, 36, 37, 38, 39, 40, 41, 42, 43, 44, 45, 46, 47, 48, 49, 50, 51, 52, 53, 54, 55, 56, 57, 58, 59, 60, 61, 62, 63, 64, 65, 66, 67, 68, 69, 70, 71, 72, 73, 74, 75, 76, 77, 78, 79, 80, 81, 82, 83] (by decide +kernel) (by decide +kernel)
set_option maxRecDepth 20000 in
theorem gX9_byteOf_X9_pageState : GoodIn wsX9_byteOf (wsV RX9 238 RX9 yX9_pageState wsX9_pageState) := goodIn_app (goodIn_of _ (by decide +kernel)) ggX9_byteOf_X9_pageState
set_option maxRecDepth 20000 in
theorem ggX9_named_X9_within : GoodIn wsX9_named wsX9_within := goodIn_r _ [8] (by decide +kernel) (by decide +kernel)
set_option maxRecDepth 20000 in
theorem gX9_named_X9_within : GoodIn wsX9_named (va_wsS RX9 138 yX9_within wsX9_within) := goodIn_app (goodIn_of _ (by decide +kernel)) ggX9_named_X9_within
set_option maxRecDepth 20000 in
theorem ggX9_named_X9_pageState : GoodIn wsX9_named wsX9_pageState := goodIn_r _ [12, 13, 14, 15, 7, 16, 17, 18, 19, 20, 21, 22, 23, 24, 25, 26, 27, 28, 29, 30, 31, 32, 33, 5, 6, 8, 34, 35, 36, 37, 38, 39, 40, 41, 42, 43, 44, 45, 46, 154, 155, 156, 157, 158, 159, 160, 161, 162, 163, 164, 165, 166, 167, 168, 169, 170, 171, 172, 173, 174, 175, 176, 177, 178, 179, 180, 181, 182, 183, 184, 185, 186, 187, 188, 189, 190, 191] (by decide +kernel) (by decide +kernel)
set_option maxRecDepth 20000 in
theorem gX9_named_X9_pageState : GoodIn wsX9_named (wsV RX9 238 RX9 yX9_pageState wsX9_pageState) := goodIn_app (goodIn_of _ (by decide +kernel)) ggX9_named_X9_pageState
set_option maxRecDepth 20000 in
theorem ggX9_prune_X9_read : GoodIn wsX9_prune wsX9_read := goodIn_r _ [17, 18, 3, 19, 4, 20, 21, 5, 22, 23, 24, 25, 26, 27, 28, 16, 29, 12, 30, 31, 32, 33, 34, 35, 36, 37, 7, 38, 39, 40, 41, 42, 43, 44, 45, 46, 47, 48, 49, 50, 51, 52, 53, 54, 55, 56, 57, 58, 59, 60, 61, 62, 63, 64, 65, 66, 67, 68, 69, 70, 71, 72, 73, 74, 75, 76, 77, 78, 79, 80, 81, 82, 83, 84, 85, 86, 87, 88, 89, 90, 91, 92, 93, 94, 95, 96, 97, 98, 99, 100, 101, 102, 103, 104, 105, 106, 107, 108, 109, 110, 111, 112, 113, 114, 115, 116, 117, 118, 119, 120, 121, 122, 218, 219, 220, 221, 222, 223, 224, 225, 226, 227, 228, 229, 230, 231, 232, 233, 234, 235, 236, 237, 238, 239, 240, 241, 242, 243, 244, 245, 246, 247, 248, 249, 250, 251, 252, 253, 254, 255] (by decide +kernel) (by decide +kernel)
set_option maxRecDepth 20000 in
theorem gX9_prune_X9_read : GoodIn wsX9_prune (wsV RX9 300 RX9 yX9_read wsX9_read) := goodIn_app (goodIn_of _ (by decide +kernel)) ggX9_prune_X9_read
set_option maxRecDepth 20000 in
theorem ggX9_out_X9_read : GoodIn wsX9_out wsX9_read := goodIn_r _ [9, 10, 11, 12, 13, 14, 15, 16, 17, 18, 19, 20, 21, 22, 23, 8, 24, 25, 26, 27, 28, 29, 30, 31, 32, 33, 34, 35, 36, 37, 38, 39, 40, 41, 42, 43, 44, 45, 46, 47, 48, 49, 50, 51, 52, 53, 54, 55, 56, 57, 58, 59, 60, 61, 62, 63, 64, 65, 66, 67, 68, 69, 70, 71, 72, 73, 74, 75, 76, 77, 78, 79, 80, 81, 82, 83, 84, 85, 86, 87, 88, 89, 90, 91, 92, 93, 94, 95, 96, 97, 98, 99, 100, 101, 102, 103, 104, 105, 106, 107, 108, 109, 110, 111, 112, 113, 114, 115, 116, 117, 118, 119, 163, 164, 165, 166, 167, 168, 169, 170, 171, 172, 173, 174, 175, 176, 177, 178, 179, 180, 181, 182, 183, 184, 185, 186, 187, 188, 189, 190, 191, 192, 193, 194, 195, 196, 197, 198, 199, 200] (by decide +kernel) (by decide +kernel)
set_option maxRecDepth 20000 in
theorem gX9_out_X9_read : GoodIn wsX9_out (wsV RX9 300 RX9 yX9_read wsX9_read) := goodIn_app (goodIn_of _ (by decide +kernel)) ggX9_out_X9_read
set_option maxRecDepth 20000 in
theorem ggX9_out_X9_isKept : GoodIn wsX9_out wsX9_isKept := goodIn_r _ [123, 11, 13, 16, 163, 164, 165, 166, 167, 168, 169, 170, 171, 172, 173, 174, 175, 176, 177, 178, 179, 180, 181, 182, 183, 184, 185, 186, 187, 188, 189, 190, 191, 192, 193, 194, 195, 196, 197, 198, 199, 200] (by decide +kernel) (by decide +kernel)
set_option maxRecDepth 20000 in
theorem gX9_out_X9_isKept : GoodIn wsX9_out (wsV RX9 314 RX9 yX9_isKept wsX9_isKept) := goodIn_app (goodIn_of _ (by decide +kernel)) ggX9_out_X9_isKept
set_option maxRecDepth 20000 in
theorem ggX9_freePages_X9_pageState : GoodIn wsX9_freePages wsX9_pageState := goodIn_r _ [6, 7, 8, 9, 5, 10, 11, 12, 13, 14, 15, 16, 17, 18, 19, 20, 21, 22, 23, 24, 25, 26, 27, 28, 29, 30, 31, 32, 33, 34, 35, 36, 37, 38, 39, 40, 41, 42, 43, 44, 45, 46, 47, 48, 49, 50, 51, 52, 53, 54, 55, 56, 57, 58, 59, 60, 61, 62, 63, 64, 65, 66, 67, 68, 69, 70, 71, 72, 73, 74, 75, 76, 77, 78, 79, 80, 81] (by decide +kernel) (by decide +kernel)
set_option maxRecDepth 20000 in
theorem gX9_freePages_X9_pageState : GoodIn wsX9_freePages (wsV RX9 238 RX9 yX9_pageState wsX9_pageState) := goodIn_app (goodIn_of _ (by decide +kernel)) ggX9_freePages_X9_pageState
set_option maxRecDepth 20000 in
theorem ggX9_in_X9_badRows : GoodIn wsX9_in wsX9_badRows := goodIn_r _ [14, 15, 16, 17, 13, 18, 9, 19, 20, 21, 22, 6, 23, 24, 25, 26, 27, 28, 29, 30, 31, 32, 33, 34, 35, 36, 37, 38, 39, 40, 41, 42, 43, 44, 45, 46, 47, 48, 49, 50, 51, 52, 53, 54, 55, 56, 57, 58, 59, 143, 144, 145, 146, 147, 148, 149, 150, 151, 152, 153, 154, 155, 156, 157, 158, 159, 160, 161, 162, 163, 164, 165, 166, 167, 168, 169, 170, 171, 172, 173, 174, 175, 176, 177, 178, 179, 180] (by decide +kernel) (by decide +kernel)
set_option maxRecDepth 20000 in
theorem gX9_in_X9_badRows : GoodIn wsX9_in (wsV RX9 173 RX9 yX9_badRows wsX9_badRows) := goodIn_app (goodIn_of _ (by decide +kernel)) ggX9_in_X9_badRows
set_option maxRecDepth 20000 in
theorem ggX9_in_X9_rows : GoodIn wsX9_in wsX9_rows := goodIn_r _ [18, 9, 143, 144, 145, 146, 147, 148, 149, 150, 151, 152, 153, 154, 155, 156, 157, 158, 159, 160, 161, 162, 163, 164, 165, 166, 167, 168, 169, 170, 171, 172, 173, 174, 175, 176, 177, 178, 179, 180] (by decide +kernel) (by decide +kernel)
set_option maxRecDepth 20000 in
theorem gX9_in_X9_rows : GoodIn wsX9_in (wsV RX9 163 RX9 yX9_rows wsX9_rows) := goodIn_app (goodIn_of _ (by decide +kernel)) ggX9_in_X9_rows
set_option maxRecDepth 20000 in
theorem ggX9_in_X9_isSnapshot : GoodIn wsX9_in wsX9_isSnapshot := goodIn_r _ [63, 5, 64, 3, 65, 7, 66, 67, 68, 69, 70, 13, 71, 44, 45, 46, 72, 73, 74, 75, 76, 56, 57, 58, 59, 143, 144, 145, 146, 147, 148, 149, 150, 151, 152, 153, 154, 155, 156, 157, 158, 159, 160, 161, 162, 163, 164, 165, 166, 167, 168, 169, 170, 171, 172, 173, 174, 175, 176, 177, 178, 179, 180] (by decide +kernel) (by decide +kernel)
set_option maxRecDepth 20000 in
theorem gX9_in_X9_isSnapshot : GoodIn wsX9_in (wsV RX9 365 RX9 yX9_isSnapshot wsX9_isSnapshot) := goodIn_app (goodIn_of _ (by decide +kernel)) ggX9_in_X9_isSnapshot
set_option maxRecDepth 20000 in
theorem ggX9_cut_X9_within : GoodIn wsX9_cut wsX9_within := goodIn_r _ [6] (by decide +kernel) (by decide +kernel)
set_option maxRecDepth 20000 in
theorem gX9_cut_X9_within : GoodIn wsX9_cut (va_wsS RX9 138 yX9_within wsX9_within) := goodIn_app (goodIn_of _ (by decide +kernel)) ggX9_cut_X9_within
set_option maxRecDepth 20000 in
theorem ggX9_poke_X9_within : GoodIn wsX9_poke wsX9_within := goodIn_r _ [7] (by decide +kernel) (by decide +kernel)
set_option maxRecDepth 20000 in
theorem gX9_poke_X9_within : GoodIn wsX9_poke (va_wsS RX9 138 yX9_within wsX9_within) := goodIn_app (goodIn_of _ (by decide +kernel)) ggX9_poke_X9_within
set_option maxRecDepth 20000 in
theorem ggX9_byteAt_X9_within : GoodIn wsX9_byteAt wsX9_within := goodIn_r _ [6] (by decide +kernel) (by decide +kernel)
set_option maxRecDepth 20000 in
theorem gX9_byteAt_X9_within : GoodIn wsX9_byteAt (va_wsS RX9 138 yX9_within wsX9_within) := goodIn_app (goodIn_of _ (by decide +kernel)) ggX9_byteAt_X9_within
set_option maxRecDepth 20000 in
theorem ggX9_byteAt_X9_byteIn : GoodIn wsX9_byteAt wsX9_byteIn := goodIn_r _ [10, 11, 12, 13, 14, 15, 16, 17, 18, 19, 20, 21, 22, 23, 24, 25, 26, 27, 28, 29, 30, 31, 32, 33, 34, 35, 36, 37, 38, 39, 40, 41, 42, 43, 44, 45, 46, 47, 48, 49] (by decide +kernel) (by decide +kernel)
set_option maxRecDepth 20000 in
theorem gX9_byteAt_X9_byteIn : GoodIn wsX9_byteAt (wsV RX9 96 RX9 yX9_byteIn wsX9_byteIn) := goodIn_app (goodIn_of _ (by decide +kernel)) ggX9_byteAt_X9_byteIn
set_option maxRecDepth 20000 in
theorem ggX9_told_X9_within : GoodIn wsX9_told wsX9_within := goodIn_r _ [9] (by decide +kernel) (by decide +kernel)
set_option maxRecDepth 20000 in
theorem gX9_told_X9_within : GoodIn wsX9_told (va_wsS RX9 138 yX9_within wsX9_within) := goodIn_app (goodIn_of _ (by decide +kernel)) ggX9_told_X9_within
set_option maxRecDepth 20000 in
theorem ggX9_told_X9_number : GoodIn wsX9_told wsX9_number := goodIn_r _ [13, 14, 15, 16, 8, 17, 18, 74, 75, 76, 77, 78, 79, 80, 81, 82, 83, 84, 85, 86, 87, 88, 89, 90, 91, 92, 93, 94, 95, 96, 97, 98, 99, 100, 101, 102, 103, 104, 105, 106, 107, 108, 109, 110, 111] (by decide +kernel) (by decide +kernel)
set_option maxRecDepth 20000 in
theorem gX9_told_X9_number : GoodIn wsX9_told (wsV RX9 131 RX9 yX9_number wsX9_number) := goodIn_app (goodIn_of _ (by decide +kernel)) ggX9_told_X9_number
set_option maxRecDepth 20000 in
theorem ggX9_told_X9_rows : GoodIn wsX9_told wsX9_rows := goodIn_r _ [22, 23, 74, 75, 76, 77, 78, 79, 80, 81, 82, 83, 84, 85, 86, 87, 88, 89, 90, 91, 92, 93, 94, 95, 96, 97, 98, 99, 100, 101, 102, 103, 104, 105, 106, 107, 108, 109, 110, 111] (by decide +kernel) (by decide +kernel)
set_option maxRecDepth 20000 in
theorem gX9_told_X9_rows : GoodIn wsX9_told (wsV RX9 163 RX9 yX9_rows wsX9_rows) := goodIn_app (goodIn_of _ (by decide +kernel)) ggX9_told_X9_rows
set_option maxRecDepth 20000 in
theorem ggX9_told_X9_freePages : GoodIn wsX9_told wsX9_freePages := goodIn_r _ [27, 28, 29, 30, 31, 8, 32, 33, 34, 35, 36, 37, 38, 39, 40, 14, 15, 16, 17, 18, 10, 11, 12, 13, 41, 42, 43, 44, 6, 7, 9, 45, 46, 47, 48, 49, 50, 51, 52, 53, 54, 55, 56, 57, 74, 75, 76, 77, 78, 79, 80, 81, 82, 83, 84, 85, 86, 87, 88, 89, 90, 91, 92, 93, 94, 95, 96, 97, 98, 99, 100, 101, 102, 103, 104, 105, 106, 107, 108, 109, 110, 111] (by decide +kernel) (by decide +kernel)
set_option maxRecDepth 20000 in
theorem gX9_told_X9_freePages : GoodIn wsX9_told (wsV RX9 374 RX9 yX9_freePages wsX9_freePages) := goodIn_app (goodIn_of _ (by decide +kernel)) ggX9_told_X9_freePages
set_option maxRecDepth 20000 in
theorem ggX9_told_X9_badRows : GoodIn wsX9_told wsX9_badRows := goodIn_r _ [61, 19, 20, 21, 8, 22, 23, 62, 63, 64, 65, 4, 66, 67, 68, 69, 37, 38, 39, 40, 14, 15, 16, 17, 18, 10, 11, 12, 13, 41, 42, 43, 44, 6, 7, 9, 45, 46, 47, 48, 49, 50, 51, 52, 53, 54, 55, 56, 57, 74, 75, 76, 77, 78, 79, 80, 81, 82, 83, 84, 85, 86, 87, 88, 89, 90, 91, 92, 93, 94, 95, 96, 97, 98, 99, 100, 101, 102, 103, 104, 105, 106, 107, 108, 109, 110, 111] (by decide +kernel) (by decide +kernel)
set_option maxRecDepth 20000 in
theorem gX9_told_X9_badRows : GoodIn wsX9_told (wsV RX9 173 RX9 yX9_badRows wsX9_badRows) := goodIn_app (goodIn_of _ (by decide +kernel)) ggX9_told_X9_badRows
set_option maxRecDepth 20000 in
theorem ggX9_told_X9_badPages : GoodIn wsX9_told wsX9_badPages := goodIn_r _ [73, 28, 29, 30, 31, 8, 32, 33, 34, 35, 36, 37, 38, 39, 40, 14, 15, 16, 17, 18, 10, 11, 12, 13, 41, 42, 43, 44, 6, 7, 9, 45, 46, 47, 48, 49, 50, 51, 52, 53, 54, 55, 56, 57, 74, 75, 76, 77, 78, 79, 80, 81, 82, 83, 84, 85, 86, 87, 88, 89, 90, 91, 92, 93, 94, 95, 96, 97, 98, 99, 100, 101, 102, 103, 104, 105, 106, 107, 108, 109, 110, 111] (by decide +kernel) (by decide +kernel)
set_option maxRecDepth 20000 in
theorem gX9_told_X9_badPages : GoodIn wsX9_told (wsV RX9 284 RX9 yX9_badPages wsX9_badPages) := goodIn_app (goodIn_of _ (by decide +kernel)) ggX9_told_X9_badPages
set_option maxRecDepth 20000 in
theorem ggJxc12de_init_da8c8_Jxa1e45_init_da8c8 : GoodIn wsJxc12de_init_da8c8 wsJxa1e45_init_da8c8 := goodIn_r _ [5, 6, 7, 8] (by decide +kernel) (by decide +kernel)
set_option maxRecDepth 20000 in
theorem gJxc12de_init_da8c8_Jxa1e45_init_da8c8 : GoodIn wsJxc12de_init_da8c8 (wsJxa1e45_init_da8c8) := ggJxc12de_init_da8c8_Jxa1e45_init_da8c8
set_option maxRecDepth 20000 in
theorem ggJx4a65c_init_da8c8_Jxc12de_init_da8c8 : GoodIn wsJx4a65c_init_da8c8 wsJxc12de_init_da8c8 := goodIn_r _ [6, 7, 8, 9, 10, 11, 12, 13, 14, 15, 16, 17] (by decide +kernel) (by decide +kernel)
set_option maxRecDepth 20000 in
theorem gJx4a65c_init_da8c8_Jxc12de_init_da8c8 : GoodIn wsJx4a65c_init_da8c8 (wsJxc12de_init_da8c8) := ggJx4a65c_init_da8c8_Jxc12de_init_da8c8
set_option maxRecDepth 20000 in
theorem ggL_feed_X8_feed : GoodIn wsL_feed wsX8_feed := goodIn_ca (goodIn_r _ [6, 7, 8, 9, 10, 11, 12, 13, 14, 15, 16, 17, 18, 19, 20, 21, 22, 23, 24, 25, 26, 27, 28] (by decide +kernel) (by decide +kernel)) (goodIn_sub (fun _ h => List.mem_cons_of_mem _ (List.mem_append_right _ h)) (by decide +kernel))
set_option maxRecDepth 20000 in
theorem gL_feed_X8_feed : GoodIn wsL_feed (wsV RL 7 RX8 yX8_feed wsX8_feed) := goodIn_app (goodIn_of _ (by decide +kernel)) ggL_feed_X8_feed
set_option maxRecDepth 20000 in
theorem ggL_at_X8_at : GoodIn wsL_at wsX8_at := goodIn_ca (goodIn_r _ [6, 7, 8, 9, 10, 11, 12, 13, 14, 15, 16, 17, 18, 19, 20, 21] (by decide +kernel) (by decide +kernel)) (goodIn_sub (fun _ h => List.mem_cons_of_mem _ (List.mem_append_right _ h)) (by decide +kernel))
set_option maxRecDepth 20000 in
theorem gL_at_X8_at : GoodIn wsL_at (wsV RL 15 RX8 yX8_at wsX8_at) := goodIn_app (goodIn_of _ (by decide +kernel)) ggL_at_X8_at
set_option maxRecDepth 20000 in
theorem ggL_leaf_X8_leaf : GoodIn wsL_leaf wsX8_leaf := goodIn_ca (goodIn_ca (goodIn_r _ [6, 7, 8, 9, 10, 11, 12, 13, 5, 14, 15, 16, 17, 18, 19, 20, 21, 22, 23, 24, 25, 26, 27, 28, 29, 30, 31, 32, 33, 34, 35, 36, 37, 38, 39, 40, 41, 42, 43, 44, 45, 46, 47, 48, 49, 50, 51, 52, 53, 54, 55, 56, 57, 58, 59, 60, 61, 62, 63, 64, 65, 66, 67, 68, 69, 70, 71, 72, 73, 74, 75, 76, 77, 78, 79, 80, 81, 82, 83, 84, 85, 86, 87, 88, 89, 90, 91, 92, 93, 94, 95, 96, 97, 98, 99, 100, 101, 102, 103, 104, 105, 106, 107, 108, 109, 110, 111, 112, 113, 114, 115, 116, 117, 118, 119, 120, 121, 122, 123, 124, 125, 126, 127, 128, 129, 130, 131, 132, 133, 134, 135, 136, 137, 138, 139, 140, 141, 142, 143, 144, 145, 146, 147, 148, 149, 150, 151, 152, 153, 154, 155, 156, 157, 158, 159, 160, 161, 162, 163, 164, 165, 166, 167, 168, 169, 170, 171, 172, 173, 174, 175, 176, 177, 178, 179, 180, 181, 182, 183, 184, 185, 186, 187, 188, 189, 190, 191, 192, 193, 194, 195, 196, 197, 198, 199, 200, 201, 202, 203, 204, 205, 206, 207, 208, 209, 210, 211, 212, 213, 214, 215, 216, 217, 218, 219, 220, 221, 222, 223, 224, 225, 226, 227] (by decide +kernel) (by decide +kernel)) (goodIn_sub (fun _ h => List.mem_cons_of_mem _ (List.mem_append_left _ (List.mem_append_right _ h))) (by decide +kernel))) (goodIn_sub (fun _ h => List.mem_cons_of_mem _ (List.mem_append_right _ h)) (by decide +kernel))
set_option maxRecDepth 20000 in
theorem gL_leaf_X8_leaf : GoodIn wsL_leaf (wsV RL 21 RX8 yX8_leaf wsX8_leaf) := goodIn_app (goodIn_of _ (by decide +kernel)) ggL_leaf_X8_leaf
set_option maxRecDepth 20000 in
theorem ggL_change_X8_change : GoodIn wsL_change wsX8_change := goodIn_ca (goodIn_ca (goodIn_r _ [6, 7, 8, 9, 10, 11, 12, 13, 14, 15, 5, 16, 17, 18, 19, 20, 21, 22, 23, 24, 25, 26, 27, 28, 29, 30, 31, 32, 33, 34, 35, 36, 37, 38, 39, 40, 41, 42, 43, 44, 45, 46, 47, 48, 49, 50, 51, 52, 53, 54, 55, 56, 57, 58, 59, 60, 61, 62, 63, 64, 65, 66, 67, 68, 69, 70, 71, 72, 73, 74, 75, 76, 77, 78, 79, 80, 81, 82, 83, 84, 85, 86, 87, 88, 89, 90, 91, 92, 93, 94, 95, 96, 97, 98, 99, 100, 101, 102, 103, 104, 105, 106, 107, 108, 109, 110, 111, 112, 113, 114, 115, 116, 117, 118, 119, 120, 121] (by decide +kernel) (by decide +kernel)) (goodIn_sub (fun _ h => List.mem_cons_of_mem _ (List.mem_append_left _ (List.mem_append_right _ h))) (by decide +kernel))) (goodIn_sub (fun _ h => List.mem_cons_of_mem _ (List.mem_append_right _ h)) (by decide +kernel))
set_option maxRecDepth 20000 in
theorem gL_change_X8_change : GoodIn wsL_change (wsV RL 27 RX8 yX8_change wsX8_change) := goodIn_app (goodIn_of _ (by decide +kernel)) ggL_change_X8_change
set_option maxRecDepth 20000 in
theorem ggL_block_X8_block : GoodIn wsL_block wsX8_block := goodIn_ca (goodIn_ca (goodIn_r _ [6, 7, 8, 9, 10, 11, 12, 5, 13, 14, 15, 16, 17, 18, 19, 20, 21, 22, 23, 24, 25, 26, 27, 28, 29, 30, 31, 32, 33, 34, 35, 36, 37, 38, 39, 40, 41, 42, 43, 44, 45, 46, 47, 48, 49, 50, 51, 52, 53, 54, 55, 56, 57, 58, 59, 60, 61, 62, 63, 64, 65, 66, 67, 68, 69, 70, 71, 72, 73, 74, 75, 76, 77, 78, 79, 80, 81, 82, 83, 84, 85, 86, 87, 88, 89, 90, 91, 92, 93, 94, 95, 96, 97, 98, 99, 100, 101, 102, 103, 104, 105, 106, 107, 108, 109, 110, 111, 112, 113, 114, 115, 116, 117, 118, 119, 120, 121, 122, 123, 124, 125, 126, 127, 128, 129, 130, 131, 132, 133, 134, 135, 136, 137, 138, 139, 140, 141, 142, 143, 144, 145, 146, 147, 148, 149, 150, 151, 152, 153, 154, 155, 156, 157, 158, 159, 160, 161, 162, 163, 164, 165, 166, 167, 168, 169, 170, 171, 172, 173, 174, 175, 176, 177, 178, 179, 180, 181, 182, 183, 184, 185, 186, 187, 188, 189, 190, 191, 192, 193, 194, 195, 196, 197, 198, 199, 200, 201, 202, 203, 204, 205, 206, 207, 208, 209, 210, 211, 212, 213, 214, 215, 216, 217, 218, 219, 220, 221, 222, 223, 224, 225, 226, 227, 228, 229, 230, 231, 232, 233, 234, 235] (by decide +kernel) (by decide +kernel)) (goodIn_sub (fun _ h => List.mem_cons_of_mem _ (List.mem_append_left _ (List.mem_append_right _ h))) (by decide +kernel))) (goodIn_sub (fun _ h => List.mem_cons_of_mem _ (List.mem_append_right _ h)) (by decide +kernel))
set_option maxRecDepth 20000 in
theorem gL_block_X8_block : GoodIn wsL_block (wsV RL 31 RX8 yX8_block wsX8_block) := goodIn_app (goodIn_of _ (by decide +kernel)) ggL_block_X8_block
set_option maxRecDepth 20000 in
theorem ggL_digest_X8_digest : GoodIn wsL_digest wsX8_digest := goodIn_ca (goodIn_ca (goodIn_r _ [6, 7, 8, 9, 10, 5, 11, 12, 13, 14, 15, 16, 17, 18, 19, 20, 21, 22, 23, 24, 25, 26, 27, 28, 29, 30, 31, 32, 33, 34, 35, 36, 37, 38, 39, 40, 41, 42, 43, 44, 45, 46, 47, 48, 49, 50, 51, 52, 53, 54, 55, 56, 57, 58, 59, 60, 61, 62, 63] (by decide +kernel) (by decide +kernel)) (goodIn_sub (fun _ h => List.mem_cons_of_mem _ (List.mem_append_left _ (List.mem_append_right _ h))) (by decide +kernel))) (goodIn_sub (fun _ h => List.mem_cons_of_mem _ (List.mem_append_right _ h)) (by decide +kernel))
set_option maxRecDepth 20000 in
theorem gL_digest_X8_digest : GoodIn wsL_digest (wsV RL 35 RX8 yX8_digest wsX8_digest) := goodIn_app (goodIn_of _ (by decide +kernel)) ggL_digest_X8_digest
set_option maxRecDepth 20000 in
theorem ggL_vote_X8_vote : GoodIn wsL_vote wsX8_vote := goodIn_ca (goodIn_ca (goodIn_r _ [6, 7, 8, 9, 10, 11, 12, 13, 14, 5, 15, 16, 17, 18, 19, 20, 21, 22, 23, 24, 25, 26, 27, 28, 29, 30, 31, 32, 33, 34, 35, 36, 37, 38, 39, 40, 41, 42, 43, 44, 45, 46, 47, 48, 49, 50, 51, 52, 53, 54, 55, 56, 57, 58, 59, 60, 61, 62, 63, 64, 65, 66, 67, 68, 69, 70, 71, 72, 73, 74, 75, 76, 77, 78, 79, 80, 81, 82, 83, 84, 85, 86, 87, 88, 89, 90, 91, 92, 93, 94, 95, 96, 97, 98, 99, 100, 101, 102, 103, 104, 105, 106, 107, 108, 109, 110, 111, 112, 113, 114, 115, 116, 117, 118, 119, 120, 121, 122, 123, 124, 125, 126, 127, 128, 129, 130, 131, 132, 133, 134, 135, 136, 137, 138, 139, 140, 141, 142, 143, 144, 145, 146, 147, 148, 149, 150, 151, 152, 153, 154, 155, 156, 157, 158, 159, 160, 161, 162, 163, 164, 165, 166, 167, 168, 169, 170, 171, 172, 173, 174, 175, 176, 177, 178, 179, 180, 181, 182, 183, 184, 185, 186, 187, 188, 189, 190, 191, 192, 193, 194, 195, 196, 197, 198, 199, 200, 201, 202, 203, 204, 205, 206, 207, 208, 209, 210, 211, 212, 213, 214, 215, 216, 217, 218, 219, 220, 221, 222, 223, 224] (by decide +kernel) (by decide +kernel)) (goodIn_sub (fun _ h => List.mem_cons_of_mem _ (List.mem_append_left _ (List.mem_append_right _ h))) (by decide +kernel))) (goodIn_sub (fun _ h => List.mem_cons_of_mem _ (List.mem_append_right _ h)) (by decide +kernel))
set_option maxRecDepth 20000 in
theorem gL_vote_X8_vote : GoodIn wsL_vote (wsV RL 39 RX8 yX8_vote wsX8_vote) := goodIn_app (goodIn_of _ (by decide +kernel)) ggL_vote_X8_vote
set_option maxRecDepth 20000 in
theorem ggL_sent_X8_sent : GoodIn wsL_sent wsX8_sent := goodIn_ca (goodIn_ca (goodIn_r _ [6, 7, 8, 9, 10, 5, 11, 12, 13, 14, 15, 16, 17, 18, 19, 20, 21, 22, 23, 24, 25, 26, 27, 28, 29, 30, 31, 32, 33, 34, 35, 36, 37, 38, 39, 40, 41, 42, 43, 44, 45, 46, 47, 48, 49, 50, 51, 52, 53, 54, 55, 56, 57, 58, 59, 60, 61, 62, 63, 64, 65, 66, 67, 68, 69, 70, 71, 72, 73, 74, 75, 76, 77, 78, 79, 80, 81, 82, 83, 84, 85, 86] (by decide +kernel) (by decide +kernel)) (goodIn_sub (fun _ h => List.mem_cons_of_mem _ (List.mem_append_left _ (List.mem_append_right _ h))) (by decide +kernel))) (goodIn_sub (fun _ h => List.mem_cons_of_mem _ (List.mem_append_right _ h)) (by decide +kernel))
set_option maxRecDepth 20000 in
theorem gL_sent_X8_sent : GoodIn wsL_sent (wsV RL 43 RX8 yX8_sent wsX8_sent) := goodIn_app (goodIn_of _ (by decide +kernel)) ggL_sent_X8_sent
set_option maxRecDepth 20000 in
theorem ggL_certify_X8_certify : GoodIn wsL_certify wsX8_certify := goodIn_ca (goodIn_ca (goodIn_r _ [6, 7, 8, 9, 10, 11, 12, 13, 5, 14, 15, 16, 17, 18, 19, 20, 21, 22, 23, 24, 25, 26, 27, 28, 29, 30, 31, 32, 33, 34, 35, 36, 37, 38, 39, 40, 41, 42, 43, 44, 45, 46, 47, 48, 49, 50, 51, 52, 53, 54, 55, 56, 57, 58, 59, 60, 61, 62, 63, 64, 65, 66, 67, 68, 69, 70, 71, 72, 73, 74, 75, 76, 77, 78, 79, 80, 81, 82, 83, 84, 85, 86, 87, 88, 89, 90, 91, 92, 93, 94, 95, 96, 97, 98, 99, 100, 101, 102, 103, 104, 105, 106, 107, 108, 109, 110, 111, 112, 113, 114, 115, 116, 117, 118, 119, 120, 121, 122, 123, 124, 125, 126, 127, 128, 129, 130, 131, 132, 133, 134, 135, 136, 137, 138, 139, 140, 141, 142, 143, 144, 145, 146, 147, 148, 149, 150, 151, 152, 153, 154, 155, 156, 157, 158, 159, 160, 161, 162, 163, 164, 165, 166, 167, 168, 169, 170, 171, 172, 173, 174, 175, 176, 177, 178, 179, 180, 181, 182, 183, 184, 185, 186, 187, 188, 189, 190, 191, 192, 193, 194, 195, 196, 197, 198, 199, 200, 201, 202, 203, 204, 205, 206, 207, 208, 209, 210, 211, 212, 213, 214, 215, 216, 217, 218, 219, 220, 221, 222, 223, 224, 225, 226, 227, 228, 229, 230] (by decide +kernel) (by decide +kernel)) (goodIn_sub (fun _ h => List.mem_cons_of_mem _ (List.mem_append_left _ (List.mem_append_right _ h))) (by decide +kernel))) (goodIn_sub (fun _ h => List.mem_cons_of_mem _ (List.mem_append_right _ h)) (by decide +kernel))
set_option maxRecDepth 20000 in
theorem gL_certify_X8_certify : GoodIn wsL_certify (wsV RL 47 RX8 yX8_certify wsX8_certify) := goodIn_app (goodIn_of _ (by decide +kernel)) ggL_certify_X8_certify
set_option maxRecDepth 20000 in
theorem ggL_version_X8_version : GoodIn wsL_version wsX8_version := goodIn_ca (goodIn_ca (goodIn_r _ [6, 7, 8, 9, 10, 11, 12, 5, 13, 14, 15, 16, 17, 18, 19, 20, 21, 22, 23, 24, 25, 26, 27, 28, 29, 30, 31, 32, 33, 34, 35, 36, 37, 38, 39, 40, 41, 42, 43, 44, 45, 46, 47, 48, 49, 50, 51, 52] (by decide +kernel) (by decide +kernel)) (goodIn_sub (fun _ h => List.mem_cons_of_mem _ (List.mem_append_left _ (List.mem_append_right _ h))) (by decide +kernel))) (goodIn_sub (fun _ h => List.mem_cons_of_mem _ (List.mem_append_right _ h)) (by decide +kernel))
set_option maxRecDepth 20000 in
theorem gL_version_X8_version : GoodIn wsL_version (wsV RL 50 RX8 yX8_version wsX8_version) := goodIn_app (goodIn_of _ (by decide +kernel)) ggL_version_X8_version
set_option maxRecDepth 20000 in
theorem ggL_slot_X8_slot : GoodIn wsL_slot wsX8_slot := goodIn_ca (goodIn_ca (goodIn_r _ [6, 7, 8, 9, 10, 11, 12, 5, 13, 14, 15, 16, 17, 18, 19, 20, 21, 22, 23, 24, 25, 26, 27, 28, 29, 30, 31, 32, 33, 34, 35, 36, 37, 38, 39, 40, 41, 42, 43, 44, 45, 46, 47, 48, 49, 50, 51, 52, 53, 54, 55, 56, 57, 58, 59, 60, 61, 62, 63, 64, 65, 66, 67, 68, 69, 70, 71, 72, 73, 74, 75, 76, 77, 78, 79, 80, 81, 82, 83, 84, 85, 86, 87, 88, 89, 90, 91, 92, 93, 94, 95, 96, 97, 98, 99, 100, 101, 102, 103, 104, 105, 106] (by decide +kernel) (by decide +kernel)) (goodIn_sub (fun _ h => List.mem_cons_of_mem _ (List.mem_append_left _ (List.mem_append_right _ h))) (by decide +kernel))) (goodIn_sub (fun _ h => List.mem_cons_of_mem _ (List.mem_append_right _ h)) (by decide +kernel))
set_option maxRecDepth 20000 in
theorem gL_slot_X8_slot : GoodIn wsL_slot (wsV RL 53 RX8 yX8_slot wsX8_slot) := goodIn_app (goodIn_of _ (by decide +kernel)) ggL_slot_X8_slot
set_option maxRecDepth 20000 in
theorem ggL_page_X8_page : GoodIn wsL_page wsX8_page := goodIn_ca (goodIn_r _ [6, 7, 8, 9, 10, 5, 11, 12, 13, 14, 15, 16, 17, 18, 19, 20, 21, 22, 23, 24, 25, 26, 27, 28, 29, 30, 31, 32, 33, 34, 35, 36, 37, 38, 39, 40, 41, 42, 43, 44, 45, 46, 47, 48, 49, 50, 51, 52, 53, 54, 55, 56, 57, 58, 59, 60, 61, 62, 63, 64, 65, 66, 67, 68, 69, 70, 71, 72, 73, 74, 75, 76, 77, 78, 79, 80, 81, 82, 83, 84, 85, 86, 87, 88, 89, 90, 91, 92, 93, 94, 95, 96, 97, 98, 99, 100, 101, 102, 103, 104, 105, 106, 107, 108] (by decide +kernel) (by decide +kernel)) (goodIn_sub (fun _ h => List.mem_cons_of_mem _ (List.mem_append_right _ h)) (by decide +kernel))
set_option maxRecDepth 20000 in
theorem gL_page_X8_page : GoodIn wsL_page (wsV RL 57 RX8 yX8_page wsX8_page) := goodIn_app (goodIn_of _ (by decide +kernel)) ggL_page_X8_page
set_option maxRecDepth 20000 in
theorem ggL_byteOf_X8_byteOf : GoodIn wsL_byteOf wsX8_byteOf := goodIn_ca (goodIn_ca (goodIn_r _ [6, 7, 8, 9, 10, 11, 12, 5, 13, 14, 15, 16, 17, 18, 19, 20, 21, 22, 23, 24, 25, 26, 27, 28, 29, 30, 31, 32, 33, 34, 35, 36, 37, 38, 39, 40, 41, 42, 43, 44, 45, 46, 47, 48, 49, 50, 51, 52, 53, 54, 55, 56, 57, 58, 59, 60, 61, 62, 63, 64, 65, 66, 67, 68, 69, 70, 71, 72, 73, 74, 75, 76, 77, 78, 79, 80, 81, 82, 83, 84, 85, 86, 87, 88, 89, 90, 91, 92, 93, 94, 95, 96, 97, 98, 99, 100, 101, 102, 103, 104, 105, 106, 107, 108, 109, 110, 111, 112, 113, 114, 115, 116, 117, 118] (by decide +kernel) (by decide +kernel)) (goodIn_sub (fun _ h => List.mem_cons_of_mem _ (List.mem_append_left _ (List.mem_append_right _ h))) (by decide +kernel))) (goodIn_sub (fun _ h => List.mem_cons_of_mem _ (List.mem_append_right _ h)) (by decide +kernel))
set_option maxRecDepth 20000 in
theorem gL_byteOf_X8_byteOf : GoodIn wsL_byteOf (wsV RL 61 RX8 yX8_byteOf wsX8_byteOf) := goodIn_app (goodIn_of _ (by decide +kernel)) ggL_byteOf_X8_byteOf
set_option maxRecDepth 20000 in
theorem ggL_named_X8_named : GoodIn wsL_named wsX8_named := goodIn_ca (goodIn_ca (goodIn_r _ [6, 7, 8, 9, 10, 11, 5, 12, 13, 14, 15, 16, 17, 18, 19, 20, 21, 22, 23, 24, 25, 26, 27, 28, 29, 30, 31, 32, 33, 34, 35, 36, 37, 38, 39, 40, 41, 42, 43, 44, 45, 46, 47, 48, 49, 50, 51, 52, 53, 54, 55, 56, 57, 58, 59, 60, 61, 62, 63, 64, 65, 66, 67, 68, 69, 70, 71, 72, 73, 74, 75, 76, 77, 78, 79, 80, 81, 82, 83, 84, 85, 86, 87, 88, 89, 90, 91, 92, 93, 94, 95, 96, 97, 98, 99, 100, 101, 102, 103, 104, 105, 106, 107, 108, 109, 110, 111, 112, 113, 114, 115, 116, 117, 118, 119, 120, 121, 122, 123, 124, 125, 126, 127, 128, 129, 130, 131, 132, 133, 134, 135, 136, 137, 138, 139, 140, 141, 142, 143, 144, 145, 146, 147, 148, 149, 150, 151, 152, 153, 154, 155, 156, 157, 158, 159, 160, 161, 162, 163, 164, 165, 166, 167, 168, 169, 170, 171, 172, 173, 174, 175, 176, 177, 178, 179, 180, 181, 182, 183, 184, 185] (by decide +kernel) (by decide +kernel)) (goodIn_sub (fun _ h => List.mem_cons_of_mem _ (List.mem_append_left _ (List.mem_append_right _ h))) (by decide +kernel))) (goodIn_sub (fun _ h => List.mem_cons_of_mem _ (List.mem_append_right _ h)) (by decide +kernel))
set_option maxRecDepth 20000 in
theorem gL_named_X8_named : GoodIn wsL_named (wsV RL 64 RX8 yX8_named wsX8_named) := goodIn_app (goodIn_of _ (by decide +kernel)) ggL_named_X8_named
set_option maxRecDepth 20000 in
theorem ggL_prune_X8_prune : GoodIn wsL_prune wsX8_prune := goodIn_ca (goodIn_ca (goodIn_r _ [6, 7, 8, 9, 10, 11, 12, 13, 14, 15, 5, 16, 17, 18, 19, 20, 21, 22, 23, 24, 25, 26, 27, 28, 29, 30, 31, 32, 33, 34, 35, 36, 37, 38, 39, 40, 41, 42, 43, 44, 45, 46, 47, 48, 49, 50, 51, 52, 53, 54, 55, 56, 57, 58, 59, 60, 61, 62, 63, 64, 65, 66, 67, 68, 69, 70, 71, 72, 73, 74, 75, 76, 77, 78, 79, 80, 81, 82, 83, 84, 85, 86, 87, 88, 89, 90, 91, 92, 93, 94, 95, 96, 97, 98, 99, 100, 101, 102, 103, 104, 105, 106, 107, 108, 109, 110, 111, 112, 113, 114, 115, 116, 117, 118, 119, 120, 121, 122, 123, 124, 125, 126, 127, 128, 129, 130, 131, 132, 133, 134, 135, 136, 137, 138, 139, 140, 141, 142, 143, 144, 145, 146, 147, 148, 149, 150, 151, 152, 153, 154, 155, 156, 157, 158, 159, 160, 161, 162, 163, 164, 165, 166, 167, 168, 169, 170, 171, 172, 173, 174, 175, 176, 177, 178, 179, 180, 181, 182, 183, 184, 185, 186, 187, 188, 189, 190, 191, 192, 193, 194, 195, 196, 197, 198, 199, 200, 201, 202, 203, 204, 205, 206, 207, 208, 209, 210, 211, 212, 213, 214, 215, 216, 217, 218, 219, 220, 221, 222, 223, 224, 225, 226, 227, 228, 229, 230, 231, 232, 233, 234, 235, 236, 237, 238, 239, 240, 241, 242, 243, 244, 245, 246, 247, 248, 249, 250, 251, 252, 253, 254, 255, 256, 257, 258, 259, 260, 261, 262, 263, 264, 265, 266, 267, 268, 269, 270, 271, 272, 273, 274, 275, 276, 277, 278, 279, 280, 281, 282, 283, 284, 285, 286, 287, 288, 289, 290, 291, 292, 293, 294, 295, 296, 297, 298, 299, 300, 301, 302, 303, 304, 305, 306, 307, 308, 309, 310, 311, 312, 313, 314, 315, 316, 317, 318, 319, 320, 321, 322, 323, 324, 325, 326, 327, 328, 329, 330, 331, 332, 333, 334, 335, 336, 337, 338, 339, 340, 341, 342, 343, 344, 345, 346, 347, 348, 349, 350, 351, 352, 353, 354, 355, 356] (by decide +kernel) (by decide +kernel)) (goodIn_sub (fun _ h => List.mem_cons_of_mem _ (List.mem_append_left _ (List.mem_append_right _ h))) (by decide +kernel))) (goodIn_sub (fun _ h => List.mem_cons_of_mem _ (List.mem_append_right _ h)) (by decide +kernel))
set_option maxRecDepth 20000 in
theorem gL_prune_X8_prune : GoodIn wsL_prune (wsV RL 67 RX8 yX8_prune wsX8_prune) := goodIn_app (goodIn_of _ (by decide +kernel)) ggL_prune_X8_prune
set_option maxRecDepth 20000 in
theorem ggL_out_X8_out : GoodIn wsL_out wsX8_out := goodIn_ca (goodIn_ca (goodIn_r _ [6, 7, 8, 9, 10, 11, 12, 13, 14, 5, 15, 16, 17, 18, 19, 20, 21, 22, 23, 24, 25, 26, 27, 28, 29, 30, 31, 32, 33, 34, 35, 36, 37, 38, 39, 40, 41, 42, 43, 44, 45, 46, 47, 48, 49, 50, 51, 52, 53, 54, 55, 56, 57, 58, 59, 60, 61, 62, 63, 64, 65, 66, 67, 68, 69, 70, 71, 72, 73, 74, 75, 76, 77, 78, 79, 80, 81, 82, 83, 84, 85, 86, 87, 88, 89, 90, 91, 92, 93, 94, 95, 96, 97, 98, 99, 100, 101, 102, 103, 104, 105, 106, 107, 108, 109, 110, 111, 112, 113, 114, 115, 116, 117, 118, 119, 120, 121, 122, 123, 124, 125, 126, 127, 128, 129, 130, 131, 132, 133, 134, 135, 136, 137, 138, 139, 140, 141, 142, 143, 144, 145, 146, 147, 148, 149, 150, 151, 152, 153, 154, 155, 156, 157, 158, 159, 160, 161, 162, 163, 164, 165, 166, 167, 168, 169, 170, 171, 172, 173, 174, 175, 176, 177, 178, 179, 180, 181, 182, 183, 184, 185, 186, 187, 188, 189, 190, 191, 192, 193, 194, 195, 196, 197, 198, 199, 200, 201, 202, 203, 204, 205, 206, 207, 208, 209, 210, 211, 212, 213, 214, 215, 216] (by decide +kernel) (by decide +kernel)) (goodIn_sub (fun _ h => List.mem_cons_of_mem _ (List.mem_append_left _ (List.mem_append_right _ h))) (by decide +kernel))) (goodIn_sub (fun _ h => List.mem_cons_of_mem _ (List.mem_append_right _ h)) (by decide +kernel))
set_option maxRecDepth 20000 in
theorem gL_out_X8_out : GoodIn wsL_out (wsV RL 70 RX8 yX8_out wsX8_out) := goodIn_app (goodIn_of _ (by decide +kernel)) ggL_out_X8_out
set_option maxRecDepth 20000 in
theorem ggL_in_X8_in : GoodIn wsL_in wsX8_in := goodIn_ca (goodIn_r _ [6, 7, 8, 9, 10, 11, 12, 13, 5, 14, 15, 16, 17, 18, 19, 20, 21, 22, 23, 24, 25, 26, 27, 28, 29, 30, 31, 32, 33, 34, 35, 36, 37, 38, 39, 40, 41, 42, 43, 44, 45, 46, 47, 48, 49, 50, 51, 52, 53, 54, 55, 56, 57, 58, 59, 60, 61, 62, 63, 64, 65, 66, 67, 68, 69, 70, 71, 72, 73, 74, 75, 76, 77, 78, 79, 80, 81, 82, 83, 84, 85, 86, 87, 88, 89, 90, 91, 92, 93, 94, 95, 96, 97, 98, 99, 100, 101, 102, 103, 104, 105, 106, 107, 108, 109, 110, 111, 112, 113, 114, 115, 116, 117, 118, 119, 120, 121, 122, 123, 124, 125, 126, 127, 128, 129, 130, 131, 132, 133, 134, 135, 136, 137, 138, 139, 140, 141, 142, 143, 144, 145, 146, 147, 148, 149, 150, 151, 152, 153, 154, 155, 156, 157, 158, 159, 160, 161, 162, 163, 164, 165, 166, 167, 168, 169, 170, 171, 172, 173, 174, 175, 176, 177, 178, 179, 180, 181, 182, 183, 184, 185, 186, 187, 188, 189, 190, 191, 192, 193, 194, 195, 196, 197, 198, 199, 200, 201, 202, 203, 204, 205, 206, 207, 208, 209, 210, 211, 212, 213, 214, 215, 216, 217, 218, 219, 220, 221, 222, 223, 224, 225, 226, 227, 228, 229, 230, 231, 232, 233, 234, 235, 236, 237, 238, 239, 240, 241, 242, 243, 244, 245, 246, 247, 248, 249, 250, 251, 252, 253, 254, 255, 256, 257, 258, 259, 260, 261, 262, 263, 264, 265, 266, 267, 268, 269, 270, 271, 272, 273, 274, 275, 276, 277, 278, 279, 280, 281, 282, 283, 284, 285, 286, 287, 288, 289, 290, 291, 292, 293, 294, 295, 296, 297, 298, 299, 300, 301, 302, 303, 304, 305, 306, 307, 308, 309, 310, 311, 312, 313, 314, 315, 316, 317, 318, 319, 320, 321, 322, 323, 324, 325, 326, 327, 328, 329, 330, 331, 332, 333, 334, 335, 336, 337, 338, 339, 340, 341, 342, 343, 344, 345, 346, 347, 348, 349, 350, 351, 352, 353, 354, 355, 356, 357, 358, 359, 360, 361, 362, 363, 364, 365, 366, 367, 368, 369, 370, 371, 372, 373, 374, 375, 376, 377, 378, 379, 380, 381, 382, 383, 384, 385, 386, 387, 388, 389, 390, 391, 392, 393, 394, 395, 396, 397, 398, 399, 400, 401, 402, 403, 404, 405, 406] (by decide +kernel) (by decide +kernel)) (goodIn_sub (fun _ h => List.mem_cons_of_mem _ (List.mem_append_right _ h)) (by decide +kernel))
set_option maxRecDepth 20000 in
theorem gL_in_X8_in : GoodIn wsL_in (wsV RL 73 RX8 yX8_in wsX8_in) := goodIn_app (goodIn_of _ (by decide +kernel)) ggL_in_X8_in
set_option maxRecDepth 20000 in
theorem ggL_cut_X8_cut : GoodIn wsL_cut wsX8_cut := goodIn_ca (goodIn_r _ [6, 7, 8, 9, 10, 11, 12, 13, 14, 15, 16, 17, 18, 19, 20, 21, 22, 23, 24, 25, 26] (by decide +kernel) (by decide +kernel)) (goodIn_sub (fun _ h => List.mem_cons_of_mem _ (List.mem_append_right _ h)) (by decide +kernel))
set_option maxRecDepth 20000 in
theorem gL_cut_X8_cut : GoodIn wsL_cut (wsV RL 76 RX8 yX8_cut wsX8_cut) := goodIn_app (goodIn_of _ (by decide +kernel)) ggL_cut_X8_cut
set_option maxRecDepth 20000 in
theorem ggL_poke_X8_poke : GoodIn wsL_poke wsX8_poke := goodIn_ca (goodIn_ca (goodIn_ca (goodIn_r _ [6, 7, 8, 9, 10, 11, 12, 13, 14, 5, 15, 16, 17, 18, 19, 20, 21, 22, 23, 24, 25, 26, 27, 28, 29, 30, 31, 32, 33, 34, 35, 36, 37, 38, 39, 40, 41, 42, 43, 44, 45, 46, 47, 48, 49, 50, 51, 52, 53, 54, 55, 56, 57, 58, 59, 60, 61, 62, 63, 64, 65, 66, 67, 68, 69, 70, 71, 72, 73, 74, 75, 76, 77, 78, 79, 80, 81, 82, 83, 84, 85, 86, 87, 88, 89, 90, 91, 92, 93, 94, 95, 96, 97, 98, 99, 100, 101, 102, 103, 104, 105, 106, 107, 108, 109, 110, 111, 112, 113, 114, 115, 116, 117, 118, 119, 120, 121, 122, 123, 124, 125, 126, 127, 128, 129, 130, 131, 132, 133, 134, 135, 136, 137, 138, 139, 140, 141, 142, 143, 144, 145, 146, 147, 148, 149, 150, 151, 152, 153, 154, 155, 156, 157, 158, 159] (by decide +kernel) (by decide +kernel)) (goodIn_sub (fun _ h => List.mem_cons_of_mem _ (List.mem_append_left _ (List.mem_append_left _ (List.mem_append_right _ h)))) (by decide +kernel))) (goodIn_sub (fun _ h => List.mem_cons_of_mem _ (List.mem_append_left _ (List.mem_append_right _ h))) (by decide +kernel))) (goodIn_sub (fun _ h => List.mem_cons_of_mem _ (List.mem_append_right _ h)) (by decide +kernel))
set_option maxRecDepth 20000 in
theorem gL_poke_X8_poke : GoodIn wsL_poke (wsV RL 80 RX8 yX8_poke wsX8_poke) := goodIn_app (goodIn_of _ (by decide +kernel)) ggL_poke_X8_poke
set_option maxRecDepth 20000 in
theorem ggL_byteAt_X8_byteAt : GoodIn wsL_byteAt wsX8_byteAt := goodIn_ca (goodIn_r _ [6, 7, 8, 9, 10, 5, 11, 12, 13, 14, 15, 16, 17, 18, 19, 20, 21, 22, 23, 24, 25, 26, 27, 28, 29, 30, 31, 32, 33, 34, 35, 36, 37, 38, 39, 40, 41, 42, 43, 44, 45, 46, 47, 48, 49, 50, 51, 52, 53, 54, 55, 56, 57, 58, 59, 60, 61, 62, 63, 64, 65, 66, 67, 68, 69, 70, 71, 72, 73, 74, 75] (by decide +kernel) (by decide +kernel)) (goodIn_sub (fun _ h => List.mem_cons_of_mem _ (List.mem_append_right _ h)) (by decide +kernel))
set_option maxRecDepth 20000 in
theorem gL_byteAt_X8_byteAt : GoodIn wsL_byteAt (wsV RL 83 RX8 yX8_byteAt wsX8_byteAt) := goodIn_app (goodIn_of _ (by decide +kernel)) ggL_byteAt_X8_byteAt
set_option maxRecDepth 20000 in
theorem ggL_asked_X8_asked : GoodIn wsL_asked wsX8_asked := goodIn_ca (goodIn_r _ [6, 7, 8, 9, 10, 11, 5, 12, 13, 14, 15, 16, 17, 18, 19, 20, 21, 22, 23, 24, 25, 26, 27, 28, 29, 30, 31, 32, 33, 34, 35, 36, 37, 38, 39, 40, 41, 42, 43, 44, 45, 46, 47, 48, 49, 50, 51, 52, 53, 54, 55, 56, 57, 58, 59, 60, 61, 62, 63, 64, 65, 66, 67, 68, 69, 70, 71, 72, 73, 74, 75, 76, 77, 78, 79, 80, 81, 82, 83, 84, 85, 86, 87, 88, 89, 90, 91, 92, 93, 94, 95, 96, 97, 98, 99, 100, 101, 102, 103, 104, 105, 106, 107, 108, 109, 110, 111, 112, 113, 114, 115, 116, 117, 118, 119, 120, 121, 122, 123, 124, 125, 126, 127, 128, 129] (by decide +kernel) (by decide +kernel)) (goodIn_sub (fun _ h => List.mem_cons_of_mem _ (List.mem_append_right _ h)) (by decide +kernel))
set_option maxRecDepth 20000 in
theorem gL_asked_X8_asked : GoodIn wsL_asked (wsV RL 86 RX8 yX8_asked wsX8_asked) := goodIn_app (goodIn_of _ (by decide +kernel)) ggL_asked_X8_asked
set_option maxRecDepth 20000 in
theorem ggL_mend_X8_mend : GoodIn wsL_mend wsX8_mend := goodIn_ca (goodIn_ca (goodIn_r _ [6, 7, 8, 9, 10, 11, 12, 13, 14, 15, 16, 5, 17, 18, 19, 20, 21, 22, 23, 24, 25, 26, 27, 28, 29, 30, 31, 32, 33, 34, 35, 36, 37, 38, 39, 40, 41, 42, 43, 44, 45, 46, 47, 48, 49, 50, 51, 52, 53, 54, 55, 56, 57, 58, 59, 60, 61, 62, 63, 64, 65, 66, 67, 68, 69, 70, 71, 72, 73, 74, 75, 76, 77, 78, 79, 80, 81, 82, 83, 84, 85, 86, 87, 88, 89, 90, 91, 92, 93, 94, 95, 96, 97, 98, 99, 100, 101, 102, 103, 104, 105, 106, 107, 108, 109, 110, 111, 112, 113, 114, 115, 116, 117, 118, 119, 120, 121, 122, 123, 124, 125, 126, 127, 128, 129, 130, 131, 132, 133, 134, 135, 136, 137, 138, 139, 140, 141, 142, 143, 144, 145, 146, 147, 148, 149, 150, 151, 152, 153, 154, 155, 156, 157, 158, 159, 160, 161, 162, 163, 164, 165, 166, 167, 168, 169, 170, 171, 172, 173, 174, 175, 176, 177, 178, 179, 180, 181, 182, 183, 184, 185, 186, 187, 188, 189, 190, 191, 192, 193, 194, 195, 196, 197, 198, 199, 200, 201, 202, 203, 204, 205, 206, 207, 208, 209, 210, 211, 212, 213, 214, 215, 216, 217, 218, 219, 220, 221, 222, 223, 224, 225, 226, 227, 228, 229, 230, 231, 232, 233, 234, 235, 236, 237, 238, 239, 240, 241, 242, 243, 244, 245, 246, 247, 248, 249, 250, 251, 252, 253, 254, 255, 256, 257, 258, 259, 260, 261, 262, 263, 264, 265, 266, 267, 268, 269, 270, 271, 272, 273, 274, 275, 276, 277, 278, 279, 280, 281, 282, 283, 284, 285, 286, 287, 288, 289, 290, 291, 292, 293, 294, 295, 296, 297, 298, 299, 300, 301, 302, 303, 304, 305, 306, 307, 308, 309, 310, 311, 312, 313, 314, 315, 316, 317, 318, 319, 320, 321, 322, 323, 324, 325, 326, 327, 328, 329, 330, 331, 332, 333, 334, 335, 336, 337, 338, 339, 340, 341, 342, 343, 344, 345, 346, 347, 348, 349, 350, 351, 352, 353, 354, 355, 356, 357, 358, 359, 360, 361, 362, 363, 364, 365, 366, 367, 368, 369, 370, 371, 372, 373, 374, 375, 376, 377, 378, 379, 380, 381, 382, 383, 384, 385, 386, 387, 388, 389, 390, 391, 392, 393, 394, 395] (by decide +kernel) (by decide +kernel)) (goodIn_sub (fun _ h => List.mem_cons_of_mem _ (List.mem_append_left _ (List.mem_append_right _ h))) (by decide +kernel))) (goodIn_sub (fun _ h => List.mem_cons_of_mem _ (List.mem_append_right _ h)) (by decide +kernel))
set_option maxRecDepth 20000 in
theorem gL_mend_X8_mend : GoodIn wsL_mend (wsV RL 89 RX8 yX8_mend wsX8_mend) := goodIn_app (goodIn_of _ (by decide +kernel)) ggL_mend_X8_mend
set_option maxRecDepth 20000 in
theorem ggL_told_X8_told : GoodIn wsL_told wsX8_told := goodIn_ca (goodIn_r _ [6, 7, 8, 9, 10, 11, 12, 13, 14, 15, 16, 17, 18, 19, 20, 21, 22, 23, 24, 25, 26, 27, 28, 29, 30, 31, 32, 33, 34, 35, 36, 37, 38, 39, 40, 41, 42, 43, 44, 45, 46, 47, 48, 49, 50, 51, 52, 53, 54, 55, 56, 57, 58, 59, 60, 61, 62, 63, 64, 65, 66, 67, 68, 69, 70, 71, 72, 73, 74, 75, 76, 77, 78, 79, 80, 81, 82, 83, 84, 85, 86, 87, 88, 89, 90, 91, 92, 93, 94, 95, 96, 97, 98, 99, 100, 101, 102, 103, 104, 105, 106, 107, 108, 109, 110, 111, 112, 113, 114, 115, 116] (by decide +kernel) (by decide +kernel)) (goodIn_sub (fun _ h => List.mem_cons_of_mem _ (List.mem_append_right _ h)) (by decide +kernel))
set_option maxRecDepth 20000 in
theorem gL_told_X8_told : GoodIn wsL_told (wsV RL 92 RX8 yX8_told wsX8_told) := goodIn_app (goodIn_of _ (by decide +kernel)) ggL_told_X8_told
