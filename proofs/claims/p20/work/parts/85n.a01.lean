set_option maxRecDepth 20000 in
theorem ggX8_out_X1_pageOf : GoodIn wsX8_out wsX1_pageOf := goodIn_r _ [72, 73, 74, 75, 76, 77, 78, 79, 80, 81, 82, 83, 84, 85, 86, 87, 88, 89, 90, 91, 92, 93, 94, 95, 96, 97, 98, 99, 100, 101, 102, 103, 104, 105, 106, 55, 107, 108, 109, 110, 111, 66, 67, 112, 113, 114, 115, 116, 117, 118, 119, 120, 121, 122, 123, 124, 125, 126, 127, 128, 129, 130, 131, 132, 133, 134, 135, 136, 193, 194, 195, 196, 197, 198, 199, 206, 207, 208, 209, 210, 211] (by decide +kernel) (by decide +kernel)
set_option maxRecDepth 20000 in
theorem gX8_out_X1_pageOf : GoodIn wsX8_out (wsV RX8 221 RX1 yX1_pageOf wsX1_pageOf) := goodIn_app (goodIn_of _ (by decide +kernel)) ggX8_out_X1_pageOf
set_option maxRecDepth 20000 in
theorem ggX8_out_X8_writeSnapshot : GoodIn wsX8_out wsX8_writeSnapshot := goodIn_r _ [140, 5, 3, 4, 141, 142, 143, 144, 145, 146, 147, 148, 149, 150, 151, 152, 153, 154, 16, 155, 19, 30, 156, 37, 36, 157, 158, 159, 160, 161, 162, 163, 164, 165, 35, 166, 68, 69, 70, 71, 72, 73, 74, 75, 76, 77, 78, 79, 80, 81, 82, 83, 84, 85, 86, 87, 88, 89, 90, 91, 92, 93, 94, 95, 96, 97, 98, 99, 100, 101, 102, 103, 104, 105, 106, 55, 107, 108, 109, 110, 111, 66, 67, 112, 113, 114, 115, 116, 117, 118, 119, 120, 121, 122, 123, 124, 125, 126, 127, 128, 129, 130, 131, 132, 133, 134, 135, 136, 167, 168, 169, 170, 171, 172, 173, 174, 175, 176, 177, 178, 191, 192, 179, 180, 181, 182, 183, 184, 185, 186, 187, 188, 189, 190, 209, 210, 211, 193, 194, 195, 196, 197, 198, 199, 206, 207, 208] (by decide +kernel) (by decide +kernel)
set_option maxRecDepth 20000 in
theorem gX8_out_X8_writeSnapshot : GoodIn wsX8_out (wsV RX8 263 RX8 yX8_writeSnapshot wsX8_writeSnapshot) := goodIn_app (goodIn_of _ (by decide +kernel)) ggX8_out_X8_writeSnapshot
set_option maxRecDepth 20000 in
theorem ggX8_open_X4_choose : GoodIn wsX8_open wsX4_choose := goodIn_r _ [8, 9, 10, 11, 12, 13, 7, 14, 15, 16, 17, 18, 19, 20, 21, 22, 23, 24, 25, 26, 27, 28, 29, 30, 31, 32, 33, 34, 35, 36, 37, 38, 265, 266, 267, 268, 269, 270, 258, 259, 260, 261, 262, 263, 264] (by decide +kernel) (by decide +kernel)
set_option maxRecDepth 20000 in
theorem gX8_open_X4_choose : GoodIn wsX8_open (wsV RX8 291 RX4 yX4_choose wsX4_choose) := goodIn_app (goodIn_of _ (by decide +kernel)) ggX8_open_X4_choose
set_option maxRecDepth 20000 in
theorem ggX8_open_X8_recover : GoodIn wsX8_open wsX8_recover := goodIn_r _ [43, 2, 1, 44, 45, 46, 7, 47, 9, 15, 48, 49, 50, 51, 18, 52, 53, 54, 55, 56, 57, 58, 59, 60, 61, 62, 63, 64, 65, 66, 67, 68, 69, 70, 71, 72, 73, 74, 75, 76, 77, 78, 79, 17, 19, 80, 24, 25, 26, 27, 28, 29, 30, 31, 32, 33, 81, 82, 83, 84, 85, 86, 87, 88, 89, 90, 91, 92, 93, 94, 95, 96, 97, 98, 99, 100, 101, 102, 103, 104, 20, 21, 22, 105, 106, 107, 108, 109, 110, 111, 112, 113, 114, 115, 116, 117, 118, 119, 120, 121, 122, 123, 124, 125, 126, 127, 128, 129, 130, 131, 132, 133, 134, 135, 136, 137, 138, 139, 140, 141, 142, 143, 144, 145, 146, 147, 148, 149, 150, 151, 152, 153, 154, 155, 156, 157, 158, 159, 160, 161, 162, 163, 164, 165, 166, 167, 168, 169, 170, 248, 249, 250, 251, 252, 253, 254, 255, 256, 257, 265, 266, 267, 268, 269, 270, 258, 259, 260, 261, 262, 263, 264, 271, 272, 273, 274, 275, 276] (by decide +kernel) (by decide +kernel)
set_option maxRecDepth 20000 in
theorem gX8_open_X8_recover : GoodIn wsX8_open (wsV RX8 294 RX8 yX8_recover wsX8_recover) := goodIn_app (goodIn_of _ (by decide +kernel)) ggX8_open_X8_recover
set_option maxRecDepth 20000 in
theorem ggX8_open_X6_hearAnew : GoodIn wsX8_open wsX6_hearAnew := goodIn_r _ [175, 176, 177, 178, 179, 180, 181, 182, 86, 87, 7, 88, 48, 183, 184, 185, 174, 186, 187, 188, 189, 190, 191, 94, 95, 96, 15, 97, 98, 99, 100, 9, 192, 193, 194, 195, 196, 197, 198, 199, 200, 102, 103, 104, 20, 21, 18, 22, 201, 202, 203, 204, 205, 42, 206, 207, 208, 209, 210, 211, 212, 27, 28, 29, 213, 214, 215, 30, 31, 32, 33, 216, 217, 218, 219, 16, 17, 19, 220, 221, 222, 223, 224, 225, 226, 227, 228, 229, 230, 231, 232, 233, 234, 235, 236, 237, 238, 239, 240, 241, 242, 243, 244, 245, 246, 247, 277, 278, 279, 280, 281, 282, 283, 284, 285, 286, 287, 288, 265, 266, 267, 268, 269, 270, 258, 259, 260, 261, 262, 263, 264] (by decide +kernel) (by decide +kernel)
set_option maxRecDepth 20000 in
theorem gX8_open_X6_hearAnew : GoodIn wsX8_open (wsV RX8 249 RX6 yX6_hearAnew wsX6_hearAnew) := goodIn_app (goodIn_of _ (by decide +kernel)) ggX8_open_X6_hearAnew
set_option maxRecDepth 20000 in
theorem ggX8_byteAt_X8_demandPlace : GoodIn wsX8_byteAt wsX8_demandPlace := goodIn_ca (goodIn_r _ [6, 7, 8, 1, 48, 49, 50, 51, 52, 53, 54, 55, 56, 57, 58, 59, 60, 61, 62, 63, 64] (by decide +kernel) (by decide +kernel)) (goodIn_sub (fun _ h => List.mem_cons_of_mem _ (List.mem_append_right _ h)) (by decide +kernel))
set_option maxRecDepth 20000 in
theorem gX8_byteAt_X8_demandPlace : GoodIn wsX8_byteAt (wsV RX8 297 RX8 yX8_demandPlace wsX8_demandPlace) := goodIn_app (goodIn_of _ (by decide +kernel)) ggX8_byteAt_X8_demandPlace
set_option maxRecDepth 20000 in
theorem ggX8_byteAt_X1_read : GoodIn wsX8_byteAt wsX1_read := goodIn_r _ [13, 14, 15, 16, 17, 12, 18, 19, 20, 21, 22, 23, 24, 25, 26, 27, 28, 29, 30, 31, 32, 33, 34, 35, 36, 37, 38, 39, 40, 41, 42, 43, 44, 45, 46, 47, 58, 59, 60, 61, 62, 63, 64, 65, 66, 67, 68, 69, 70] (by decide +kernel) (by decide +kernel)
set_option maxRecDepth 20000 in
theorem gX8_byteAt_X1_read : GoodIn wsX8_byteAt (wsV RX8 307 RX1 yX1_read wsX1_read) := goodIn_app (goodIn_of _ (by decide +kernel)) ggX8_byteAt_X1_read
set_option maxRecDepth 20000 in
theorem ggX8_asked_X8_demandPower : GoodIn wsX8_asked wsX8_demandPower := goodIn_ca (goodIn_r _ [7, 8, 9, 2, 96, 97, 98, 99, 100, 101, 102, 103, 104, 105, 115, 116, 117, 118, 119, 120, 121] (by decide +kernel) (by decide +kernel)) (goodIn_sub (fun _ h => List.mem_cons_of_mem _ (List.mem_append_right _ h)) (by decide +kernel))
set_option maxRecDepth 20000 in
theorem gX8_asked_X8_demandPower : GoodIn wsX8_asked (wsV RX8 99 RX8 yX8_demandPower wsX8_demandPower) := goodIn_app (goodIn_of _ (by decide +kernel)) ggX8_asked_X8_demandPower
set_option maxRecDepth 20000 in
theorem ggX8_asked_X4_badRow : GoodIn wsX8_asked wsX4_badRow := goodIn_r _ [14, 15, 16, 17, 18, 13, 19, 20, 21, 22, 23, 24, 25, 26, 27, 28, 29, 30, 31, 32, 33, 34, 35, 36, 37, 38, 39, 40, 41, 42, 43, 44, 45, 46, 47, 48, 49, 106, 107, 108, 109, 110, 111, 115, 116, 117, 118, 119, 120, 121] (by decide +kernel) (by decide +kernel)
set_option maxRecDepth 20000 in
theorem gX8_asked_X4_badRow : GoodIn wsX8_asked (wsV RX8 315 RX4 yX4_badRow wsX4_badRow) := goodIn_app (goodIn_of _ (by decide +kernel)) ggX8_asked_X4_badRow
set_option maxRecDepth 20000 in
theorem ggX8_asked_X1_badPage : GoodIn wsX8_asked wsX1_badPage := goodIn_r _ [53, 54, 55, 56, 57, 58, 59, 60, 61, 62, 63, 64, 65, 66, 67, 68, 69, 70, 71, 72, 73, 74, 75, 76, 77, 78, 79, 80, 81, 82, 83, 84, 85, 86, 30, 31, 32, 33, 34, 35, 36, 37, 38, 39, 40, 41, 42, 43, 44, 45, 46, 47, 48, 49, 87, 88, 89, 90, 91, 92, 93, 94, 95, 115, 116, 117, 118, 119, 120, 121, 122, 123, 124, 112, 113, 114] (by decide +kernel) (by decide +kernel)
set_option maxRecDepth 20000 in
theorem gX8_asked_X1_badPage : GoodIn wsX8_asked (wsV RX8 318 RX1 yX1_badPage wsX1_badPage) := goodIn_app (goodIn_of _ (by decide +kernel)) ggX8_asked_X1_badPage
set_option maxRecDepth 20000 in
theorem ggX8_told_X1_freePages : GoodIn wsX8_told wsX1_freePages := goodIn_r _ [10, 11, 12, 13, 14, 15, 16, 17, 18, 19, 20, 21, 9, 22, 23, 24, 25, 26, 27, 28, 29, 30, 31, 32, 33, 34, 35, 36, 37, 38, 39, 40, 41, 42, 43, 44, 45, 46, 47, 48, 49, 50, 51, 52, 53, 54, 55, 56, 57, 58, 59, 60, 61, 62, 63, 64, 65, 66, 67, 68, 69, 70, 71, 72, 73, 74, 75, 76, 77, 92, 93, 94, 95, 96, 97, 98, 105, 106, 107, 108, 109, 110] (by decide +kernel) (by decide +kernel)
set_option maxRecDepth 20000 in
theorem gX8_told_X1_freePages : GoodIn wsX8_told (wsV RX8 273 RX1 yX1_freePages wsX1_freePages) := goodIn_app (goodIn_of _ (by decide +kernel)) ggX8_told_X1_freePages
set_option maxRecDepth 20000 in
theorem ggX8_told_X1_badPages : GoodIn wsX8_told wsX1_badPages := goodIn_r _ [81, 19, 20, 21, 9, 22, 12, 23, 13, 14, 15, 16, 17, 18, 24, 25, 26, 27, 28, 29, 30, 31, 32, 33, 34, 35, 36, 37, 38, 39, 40, 41, 42, 43, 44, 45, 46, 47, 48, 49, 50, 51, 52, 53, 54, 55, 56, 57, 58, 59, 60, 61, 62, 63, 64, 65, 66, 67, 68, 69, 70, 71, 72, 73, 74, 75, 76, 77, 92, 93, 94, 95, 96, 97, 98, 105, 106, 107, 108, 109, 110] (by decide +kernel) (by decide +kernel)
set_option maxRecDepth 20000 in
theorem gX8_told_X1_badPages : GoodIn wsX8_told (wsV RX8 340 RX1 yX1_badPages wsX1_badPages) := goodIn_app (goodIn_of _ (by decide +kernel)) ggX8_told_X1_badPages
set_option maxRecDepth 20000 in
theorem ggX8_recover_X4_clear : GoodIn wsX8_recover wsX4_clear := goodIn_r _ [7, 8, 9, 10, 11, 12, 13, 14, 15, 16, 17, 18, 19, 20, 21, 22, 23, 24, 25, 26, 27, 28, 29, 30, 31, 6, 32, 33, 34, 35, 36, 37, 38, 39, 40, 41, 42, 43, 44, 45, 46, 47, 48, 49, 50, 51, 52, 53, 54, 55, 56, 57, 58, 59, 159, 160, 161, 162, 163, 164, 165, 166, 167, 168, 169, 170, 171] (by decide +kernel) (by decide +kernel)
set_option maxRecDepth 20000 in
theorem gX8_recover_X4_clear : GoodIn wsX8_recover (wsV RX8 362 RX4 yX4_clear wsX4_clear) := goodIn_app (goodIn_of _ (by decide +kernel)) ggX8_recover_X4_clear
set_option maxRecDepth 20000 in
theorem ggX8_recover_X4_inNeed : GoodIn wsX8_recover wsX4_inNeed := goodIn_r _ [63, 10, 159, 160, 161, 162, 163, 164] (by decide +kernel) (by decide +kernel)
set_option maxRecDepth 20000 in
theorem gX8_recover_X4_inNeed : GoodIn wsX8_recover (wsV RX8 104 RX4 yX4_inNeed wsX4_inNeed) := goodIn_app (goodIn_of _ (by decide +kernel)) ggX8_recover_X4_inNeed
set_option maxRecDepth 20000 in
theorem ggX8_recover_X4_dropLacking : GoodIn wsX8_recover wsX4_dropLacking := goodIn_r _ [67, 11, 9, 8, 68, 69, 70, 6, 71, 72, 73, 74, 75, 76, 77, 78, 79, 80, 81, 14, 82, 56, 57, 58, 19, 59, 21, 37, 22, 23, 24, 25, 26, 27, 28, 159, 160, 161, 162, 163, 164, 165, 166, 167, 168, 169, 170, 171] (by decide +kernel) (by decide +kernel)
set_option maxRecDepth 20000 in
theorem gX8_recover_X4_dropLacking : GoodIn wsX8_recover (wsV RX8 365 RX4 yX4_dropLacking wsX4_dropLacking) := goodIn_app (goodIn_of _ (by decide +kernel)) ggX8_recover_X4_dropLacking
set_option maxRecDepth 20000 in
theorem ggX8_recover_X1_eraseTornPages : GoodIn wsX8_recover wsX1_eraseTornPages := goodIn_r _ [86, 87, 88, 89, 90, 91, 92, 93, 94, 95, 96, 97, 98, 99, 100, 101, 102, 103, 104, 105, 106, 107, 108, 109, 110, 111, 112, 113, 114, 115, 116, 117, 118, 119, 39, 14, 40, 41, 13, 15, 42, 43, 44, 45, 46, 47, 48, 49, 50, 51, 52, 53, 54, 55, 120, 121, 122, 123, 124, 125, 126, 127, 128, 129, 130, 131, 19, 132, 22, 23, 24, 25, 26, 27, 28, 165, 166, 167, 168, 169, 170, 171, 172, 173, 174, 175, 176, 177] (by decide +kernel) (by decide +kernel)
set_option maxRecDepth 20000 in
theorem gX8_recover_X1_eraseTornPages : GoodIn wsX8_recover (wsV RX8 368 RX1 yX1_eraseTornPages wsX1_eraseTornPages) := goodIn_app (goodIn_of _ (by decide +kernel)) ggX8_recover_X1_eraseTornPages
set_option maxRecDepth 20000 in
theorem ggX8_recover_X4_seal : GoodIn wsX8_recover wsX4_seal := goodIn_r _ [136, 11, 9, 72, 73, 74, 6, 75, 8, 29, 30, 31, 32, 33, 34, 35, 19, 36, 37, 21, 38, 39, 14, 40, 41, 13, 15, 42, 43, 44, 45, 46, 47, 48, 49, 50, 51, 52, 53, 54, 55, 137, 138, 139, 140, 22, 23, 24, 25, 26, 27, 28, 141, 142, 143, 144, 159, 160, 161, 162, 163, 164, 165, 166, 167, 168, 169, 170, 171] (by decide +kernel) (by decide +kernel)
set_option maxRecDepth 20000 in
theorem gX8_recover_X4_seal : GoodIn wsX8_recover (wsV RX8 371 RX4 yX4_seal wsX4_seal) := goodIn_app (goodIn_of _ (by decide +kernel)) ggX8_recover_X4_seal
set_option maxRecDepth 20000 in
theorem ggX8_recover_X1_sealPages : GoodIn wsX8_recover wsX1_sealPages := goodIn_r _ [148, 87, 88, 89, 90, 91, 92, 93, 94, 95, 96, 97, 98, 99, 100, 101, 102, 103, 104, 105, 106, 107, 108, 109, 110, 111, 112, 113, 114, 115, 116, 117, 118, 119, 39, 14, 40, 41, 13, 15, 42, 43, 44, 45, 46, 47, 48, 49, 50, 51, 52, 53, 54, 55, 120, 121, 122, 123, 124, 125, 126, 127, 128, 22, 23, 24, 19, 25, 26, 27, 28, 165, 166, 167, 168, 169, 170, 171, 175, 176, 177, 172, 173, 174] (by decide +kernel) (by decide +kernel)
set_option maxRecDepth 20000 in
theorem gX8_recover_X1_sealPages : GoodIn wsX8_recover (wsV RX8 374 RX1 yX1_sealPages wsX1_sealPages) := goodIn_app (goodIn_of _ (by decide +kernel)) ggX8_recover_X1_sealPages
set_option maxRecDepth 20000 in
theorem ggX8_eraseUnnamed_Jx4a65c_size_8abf5 : GoodIn wsX8_eraseUnnamed wsJx4a65c_size_8abf5 := goodIn_r _ [8, 9, 142, 143, 144] (by decide +kernel) (by decide +kernel)
set_option maxRecDepth 20000 in
theorem gX8_eraseUnnamed_Jx4a65c_size_8abf5 : GoodIn wsX8_eraseUnnamed (wsV RX8 411 RJx4a65c yJx4a65c_size_8abf5 wsJx4a65c_size_8abf5) := goodIn_app (goodIn_of _ (by decide +kernel)) ggX8_eraseUnnamed_Jx4a65c_size_8abf5
set_option maxRecDepth 20000 in
theorem ggX8_eraseUnnamed_Jx4a65c_get_915e3 : GoodIn wsX8_eraseUnnamed wsJx4a65c_get_915e3 := goodIn_r _ [13, 9, 14, 15, 16, 17, 18, 19, 20, 21, 22, 23, 24, 7, 25, 26, 142, 143, 144] (by decide +kernel) (by decide +kernel)
set_option maxRecDepth 20000 in
theorem gX8_eraseUnnamed_Jx4a65c_get_915e3 : GoodIn wsX8_eraseUnnamed (wsV RX8 414 RJx4a65c yJx4a65c_get_915e3 wsJx4a65c_get_915e3) := goodIn_app (goodIn_of _ (by decide +kernel)) ggX8_eraseUnnamed_Jx4a65c_get_915e3
set_option maxRecDepth 20000 in
theorem ggX8_eraseUnnamed_X2_state : GoodIn wsX8_eraseUnnamed wsX2_state := goodIn_r _ [31, 32, 33, 34, 35, 36, 37, 38, 39, 40, 41, 42, 43, 44, 45, 46, 47, 48, 49, 50, 51, 52, 53, 54, 55, 56, 57, 30, 58, 59, 60, 61, 62, 63, 145, 146, 147] (by decide +kernel) (by decide +kernel)
set_option maxRecDepth 20000 in
theorem gX8_eraseUnnamed_X2_state : GoodIn wsX8_eraseUnnamed (wsV RX8 418 RX2 yX2_state wsX2_state) := goodIn_app (goodIn_of _ (by decide +kernel)) ggX8_eraseUnnamed_X2_state
set_option maxRecDepth 20000 in
theorem ggX8_eraseUnnamed_X2_sum : GoodIn wsX8_eraseUnnamed wsX2_sum := goodIn_r _ [67, 33, 68, 42, 36, 43, 145, 146, 147] (by decide +kernel) (by decide +kernel)
set_option maxRecDepth 20000 in
theorem gX8_eraseUnnamed_X2_sum : GoodIn wsX8_eraseUnnamed (wsV RX8 127 RX2 yX2_sum wsX2_sum) := goodIn_app (goodIn_of _ (by decide +kernel)) ggX8_eraseUnnamed_X2_sum
set_option maxRecDepth 20000 in
theorem ggX8_eraseUnnamed_X6_names : GoodIn wsX8_eraseUnnamed wsX6_names := goodIn_r _ [73, 74, 75, 76, 77, 78, 79, 80, 81, 82, 83, 84, 85, 86, 87, 88, 89, 90, 42, 36, 43, 91, 92, 93, 72, 94, 95, 96, 97, 98, 99, 100, 101, 102, 103, 104, 105, 106, 107, 108, 109, 110, 111, 112, 148, 149, 150, 151, 152, 153, 154, 155, 156, 157, 158, 159, 160, 161, 162, 163, 164, 165, 135, 136, 137, 138, 139, 140, 141] (by decide +kernel) (by decide +kernel)
set_option maxRecDepth 20000 in
theorem gX8_eraseUnnamed_X6_names : GoodIn wsX8_eraseUnnamed (wsV RX8 237 RX6 yX6_names wsX6_names) := goodIn_app (goodIn_of _ (by decide +kernel)) ggX8_eraseUnnamed_X6_names
set_option maxRecDepth 20000 in
theorem ggX8_eraseUnnamed_X1_erasePage : GoodIn wsX8_eraseUnnamed wsX1_erasePage := goodIn_r _ [117, 118, 119, 120, 116, 121, 122, 123, 124, 145, 146, 147, 135, 136, 137, 138, 139, 140, 141] (by decide +kernel) (by decide +kernel)
set_option maxRecDepth 20000 in
theorem gX8_eraseUnnamed_X1_erasePage : GoodIn wsX8_eraseUnnamed (wsV RX8 420 RX1 yX1_erasePage wsX1_erasePage) := goodIn_app (goodIn_of _ (by decide +kernel)) ggX8_eraseUnnamed_X1_erasePage
set_option maxRecDepth 20000 in
theorem ggX8_writeSnapshot_X7_appendInt : GoodIn wsX8_writeSnapshot wsX7_appendInt := goodIn_r _ [8, 9, 10, 11, 7, 12, 13, 14, 120, 121] (by decide +kernel) (by decide +kernel)
set_option maxRecDepth 20000 in
theorem gX8_writeSnapshot_X7_appendInt : GoodIn wsX8_writeSnapshot (wsV RX8 424 RX7 yX7_appendInt wsX7_appendInt) := goodIn_app (goodIn_of _ (by decide +kernel)) ggX8_writeSnapshot_X7_appendInt
set_option maxRecDepth 20000 in
theorem ggX8_writeSnapshot_X6_blockOf : GoodIn wsX8_writeSnapshot wsX6_blockOf := goodIn_r _ [19, 20, 21, 22, 23, 24, 122, 123, 124, 125, 126, 127, 128, 129, 130, 131, 132, 133] (by decide +kernel) (by decide +kernel)
set_option maxRecDepth 20000 in
theorem gX8_writeSnapshot_X6_blockOf : GoodIn wsX8_writeSnapshot (wsV RX8 427 RX6 yX6_blockOf wsX6_blockOf) := goodIn_app (goodIn_of _ (by decide +kernel)) ggX8_writeSnapshot_X6_blockOf
set_option maxRecDepth 20000 in
theorem ggX8_writeSnapshot_X7_appendLong : GoodIn wsX8_writeSnapshot wsX7_appendLong := goodIn_r _ [28, 29, 5, 6, 7, 8, 9, 10, 11, 12, 13, 14, 120, 121] (by decide +kernel) (by decide +kernel)
set_option maxRecDepth 20000 in
theorem gX8_writeSnapshot_X7_appendLong : GoodIn wsX8_writeSnapshot (wsV RX8 430 RX7 yX7_appendLong wsX7_appendLong) := goodIn_app (goodIn_of _ (by decide +kernel)) ggX8_writeSnapshot_X7_appendLong
set_option maxRecDepth 20000 in
theorem ggX8_writeSnapshot_X6_filledSlots : GoodIn wsX8_writeSnapshot wsX6_filledSlots := goodIn_r _ [33, 34, 122, 123, 124, 125, 126, 127, 128, 129, 130, 131, 132, 133] (by decide +kernel) (by decide +kernel)
set_option maxRecDepth 20000 in
theorem gX8_writeSnapshot_X6_filledSlots : GoodIn wsX8_writeSnapshot (wsV RX8 434 RX6 yX6_filledSlots wsX6_filledSlots) := goodIn_app (goodIn_of _ (by decide +kernel)) ggX8_writeSnapshot_X6_filledSlots
set_option maxRecDepth 20000 in
theorem ggX8_writeSnapshot_X7_append : GoodIn wsX8_writeSnapshot wsX7_append := goodIn_r _ [12, 13, 14, 120, 121] (by decide +kernel) (by decide +kernel)
set_option maxRecDepth 20000 in
theorem gX8_writeSnapshot_X7_append : GoodIn wsX8_writeSnapshot (wsV RX8 88 RX7 yX7_append wsX7_append) := goodIn_app (goodIn_of _ (by decide +kernel)) ggX8_writeSnapshot_X7_append
set_option maxRecDepth 20000 in
theorem ggX8_writeSnapshot_X1_pageOf : GoodIn wsX8_writeSnapshot wsX1_pageOf := goodIn_r _ [40, 41, 42, 43, 44, 45, 46, 47, 48, 49, 50, 51, 52, 53, 54, 55, 56, 57, 58, 59, 60, 61, 62, 63, 64, 65, 66, 67, 68, 69, 70, 71, 72, 73, 74, 75, 76, 77, 78, 79, 80, 81, 82, 83, 84, 85, 86, 87, 88, 89, 90, 91, 92, 93, 94, 95, 96, 97, 98, 99, 100, 101, 102, 103, 104, 105, 106, 107, 137, 138, 139, 140, 141, 142, 143, 144, 145, 146, 134, 135, 136] (by decide +kernel) (by decide +kernel)
set_option maxRecDepth 20000 in
theorem gX8_writeSnapshot_X1_pageOf : GoodIn wsX8_writeSnapshot (wsV RX8 221 RX1 yX1_pageOf wsX1_pageOf) := goodIn_app (goodIn_of _ (by decide +kernel)) ggX8_writeSnapshot_X1_pageOf
set_option maxRecDepth 20000 in
theorem ggX8_writeSnapshot_X2_size : GoodIn wsX8_writeSnapshot wsX2_size := goodIn_r _ [101, 72, 134, 135, 136] (by decide +kernel) (by decide +kernel)
set_option maxRecDepth 20000 in
theorem gX8_writeSnapshot_X2_size : GoodIn wsX8_writeSnapshot (wsV RX8 233 RX2 yX2_size wsX2_size) := goodIn_app (goodIn_of _ (by decide +kernel)) ggX8_writeSnapshot_X2_size
set_option maxRecDepth 20000 in
theorem ggX8_writeSnapshot_X0_sum : GoodIn wsX8_writeSnapshot wsX0_sum := goodIn_r _ [85, 86, 87, 75, 88, 89, 90, 91, 92, 93] (by decide +kernel) (by decide +kernel)
set_option maxRecDepth 20000 in
theorem gX8_writeSnapshot_X0_sum : GoodIn wsX8_writeSnapshot (va_wsS RX8 437 yX0_sum wsX0_sum) := goodIn_app (goodIn_of _ (by decide +kernel)) ggX8_writeSnapshot_X0_sum
set_option maxRecDepth 20000 in
theorem ggX8_newLeaves_X8_drawPage : GoodIn wsX8_newLeaves wsX8_drawPage := goodIn_r _ [9, 3, 4, 10, 11, 12, 13, 14, 15, 16, 17, 18, 19, 20, 21, 22, 23, 24, 25, 26, 27, 97, 98, 99, 100, 101, 102, 103, 104, 105, 106, 114, 115] (by decide +kernel) (by decide +kernel)
set_option maxRecDepth 20000 in
theorem gX8_newLeaves_X8_drawPage : GoodIn wsX8_newLeaves (wsV RX8 108 RX8 yX8_drawPage wsX8_drawPage) := goodIn_app (goodIn_of _ (by decide +kernel)) ggX8_newLeaves_X8_drawPage
set_option maxRecDepth 20000 in
theorem ggX8_newLeaves_X1_sameLeaf : GoodIn wsX8_newLeaves wsX1_sameLeaf := goodIn_r _ [32, 33, 34, 35, 36, 37, 38, 39, 40, 41, 42, 43, 44, 45, 46, 47, 48, 49, 50, 51, 52, 53, 54, 55, 56, 57, 58, 59, 60, 61, 62, 63, 64, 65, 66, 12, 67, 68, 69, 70, 71, 72, 73, 14, 15, 16, 17, 18, 19, 20, 21, 22, 23, 24, 74, 75, 76, 77, 78, 79, 80, 81, 82, 83, 84, 85, 116, 117, 118, 119, 120, 121, 122, 123, 124, 125, 126, 127, 128] (by decide +kernel) (by decide +kernel)
set_option maxRecDepth 20000 in
theorem gX8_newLeaves_X1_sameLeaf : GoodIn wsX8_newLeaves (wsV RX8 389 RX1 yX1_sameLeaf wsX1_sameLeaf) := goodIn_app (goodIn_of _ (by decide +kernel)) ggX8_newLeaves_X1_sameLeaf
set_option maxRecDepth 20000 in
theorem ggX8_newLeaves_X5_hasAhead : GoodIn wsX8_newLeaves wsX5_hasAhead := goodIn_r _ [90, 91, 92, 93, 94, 89, 95, 96, 107, 108, 109, 110, 111, 112, 113, 114, 115] (by decide +kernel) (by decide +kernel)
set_option maxRecDepth 20000 in
theorem gX8_newLeaves_X5_hasAhead : GoodIn wsX8_newLeaves (wsV RX8 447 RX5 yX5_hasAhead wsX5_hasAhead) := goodIn_app (goodIn_of _ (by decide +kernel)) ggX8_newLeaves_X5_hasAhead
set_option maxRecDepth 20000 in
theorem ggX8_isAsked_X4_state : GoodIn wsX8_isAsked wsX4_state := goodIn_r _ [7, 8, 9, 10, 11, 12, 13, 14, 15, 16, 17, 18, 19, 20, 21, 22, 23, 24, 25, 26, 27, 28, 29, 30, 31, 32, 33, 34, 35, 36, 37, 98, 99, 100, 101, 102, 103, 104, 105, 106, 107, 108, 109, 110] (by decide +kernel) (by decide +kernel)
set_option maxRecDepth 20000 in
theorem gX8_isAsked_X4_state : GoodIn wsX8_isAsked (wsV RX8 182 RX4 yX4_state wsX4_state) := goodIn_app (goodIn_of _ (by decide +kernel)) ggX8_isAsked_X4_state
set_option maxRecDepth 20000 in
theorem ggX8_isAsked_X1_find : GoodIn wsX8_isAsked wsX1_find := goodIn_r _ [41, 42, 43, 44, 45, 46, 13, 47, 48, 49, 50, 51, 52, 53, 54, 55, 56, 57, 58, 59, 60, 61, 62, 63, 64, 65, 66, 67, 68, 69, 70, 104, 105, 106, 107, 108, 109, 110, 111, 112, 113, 114, 115, 116] (by decide +kernel) (by decide +kernel)
set_option maxRecDepth 20000 in
theorem gX8_isAsked_X1_find : GoodIn wsX8_isAsked (wsV RX8 463 RX1 yX1_find wsX1_find) := goodIn_app (goodIn_of _ (by decide +kernel)) ggX8_isAsked_X1_find
set_option maxRecDepth 20000 in
theorem ggX8_isAsked_X2_state : GoodIn wsX8_isAsked wsX2_state := goodIn_r _ [75, 76, 77, 78, 18, 19, 20, 21, 22, 23, 24, 25, 26, 27, 28, 29, 30, 31, 32, 33, 34, 35, 36, 37, 79, 80, 81, 74, 82, 83, 84, 85, 86, 87, 111, 112, 113] (by decide +kernel) (by decide +kernel)
set_option maxRecDepth 20000 in
theorem gX8_isAsked_X2_state : GoodIn wsX8_isAsked (wsV RX8 418 RX2 yX2_state wsX2_state) := goodIn_app (goodIn_of _ (by decide +kernel)) ggX8_isAsked_X2_state
set_option maxRecDepth 20000 in
theorem ggX8_drawMendedPage_X1_find : GoodIn wsX8_drawMendedPage wsX1_find := goodIn_r _ [8, 9, 10, 11, 12, 13, 7, 14, 15, 16, 17, 18, 19, 20, 21, 22, 23, 24, 25, 26, 27, 28, 29, 30, 31, 32, 33, 34, 35, 36, 37, 82, 83, 84, 85, 86, 87, 88, 79, 80, 81, 89, 90, 91] (by decide +kernel) (by decide +kernel)
set_option maxRecDepth 20000 in
theorem gX8_drawMendedPage_X1_find : GoodIn wsX8_drawMendedPage (wsV RX8 463 RX1 yX1_find wsX1_find) := goodIn_app (goodIn_of _ (by decide +kernel)) ggX8_drawMendedPage_X1_find
set_option maxRecDepth 20000 in
theorem ggX8_drawMendedPage_X8_drawPage : GoodIn wsX8_drawMendedPage wsX8_drawPage := goodIn_r _ [42, 3, 1, 43, 44, 45, 46, 47, 48, 49, 50, 51, 52, 53, 54, 55, 56, 57, 58, 59, 60, 67, 68, 69, 70, 71, 72, 73, 74, 75, 76, 77, 78] (by decide +kernel) (by decide +kernel)
set_option maxRecDepth 20000 in
theorem gX8_drawMendedPage_X8_drawPage : GoodIn wsX8_drawMendedPage (wsV RX8 108 RX8 yX8_drawPage wsX8_drawPage) := goodIn_app (goodIn_of _ (by decide +kernel)) ggX8_drawMendedPage_X8_drawPage
set_option maxRecDepth 20000 in
theorem ggX8_drawMendedPage_X0_mends : GoodIn wsX8_drawMendedPage wsX0_mends := goodIn_r _ [63, 64, 65, 45, 66] (by decide +kernel) (by decide +kernel)
set_option maxRecDepth 20000 in
theorem gX8_drawMendedPage_X0_mends : GoodIn wsX8_drawMendedPage (va_wsS RX8 466 yX0_mends wsX0_mends) := goodIn_app (goodIn_of _ (by decide +kernel)) ggX8_drawMendedPage_X0_mends
