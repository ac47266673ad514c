set_option maxRecDepth 20000 in
theorem ggX9_prune_X9_sweep : GoodIn wsX9_prune wsX9_sweep := goodIn_r _ [190, 191, 11, 13, 14, 15, 16, 17, 18, 3, 19, 4, 20, 21, 5, 22, 23, 24, 25, 26, 27, 28, 29, 12, 30, 31, 32, 33, 34, 35, 36, 37, 7, 38, 39, 40, 41, 42, 43, 44, 45, 46, 47, 48, 49, 50, 51, 52, 53, 54, 55, 56, 57, 58, 59, 60, 61, 62, 63, 64, 65, 66, 67, 68, 69, 70, 71, 72, 73, 74, 75, 76, 77, 78, 79, 80, 81, 82, 83, 84, 85, 86, 87, 88, 89, 90, 91, 92, 93, 94, 95, 96, 97, 98, 99, 100, 101, 102, 103, 104, 105, 106, 107, 108, 109, 110, 111, 112, 113, 114, 115, 116, 117, 118, 119, 120, 121, 122, 192, 193, 194, 195, 196, 8, 123, 124, 125, 126, 127, 128, 129, 130, 197, 198, 199, 200, 201, 202, 203, 204, 205, 206, 207, 208, 209, 210, 211, 212, 213, 214, 215, 216, 217, 147, 148, 149, 150, 151, 152, 153, 154, 155, 1, 156, 157, 158, 159, 160, 161, 218, 219, 220, 221, 222, 223, 224, 225, 226, 227, 228, 229, 230, 231, 232, 233, 234, 235, 236, 237, 238, 239, 240, 241, 242, 243, 244, 245, 246, 247, 248, 249, 250, 251, 252, 253, 254, 255] (by decide +kernel) (by decide +kernel)
set_option maxRecDepth 20000 in
theorem gX9_prune_X9_sweep : GoodIn wsX9_prune (wsV RX9 347 RX9 yX9_sweep wsX9_sweep) := goodIn_app (goodIn_of _ (by decide +kernel)) ggX9_prune_X9_sweep
set_option maxRecDepth 20000 in
theorem ggX9_sweep_X9_read : GoodIn wsX9_sweep wsX9_read := goodIn_r _ [7, 8, 9, 10, 11, 12, 13, 14, 15, 16, 17, 18, 19, 20, 21, 6, 22, 23, 24, 25, 26, 27, 28, 29, 30, 31, 32, 33, 34, 35, 36, 37, 38, 39, 40, 41, 42, 43, 44, 45, 46, 47, 48, 49, 50, 51, 52, 53, 54, 55, 56, 57, 58, 59, 60, 61, 62, 63, 64, 65, 66, 67, 68, 69, 70, 71, 72, 73, 74, 75, 76, 77, 78, 79, 80, 81, 82, 83, 84, 85, 86, 87, 88, 89, 90, 91, 92, 93, 94, 95, 96, 97, 98, 99, 100, 101, 102, 103, 104, 105, 106, 107, 108, 109, 110, 111, 112, 113, 114, 115, 116, 117, 169, 170, 171, 172, 173, 174, 175, 176, 177, 178, 179, 180, 181, 182, 183, 184, 185, 186, 187, 188, 189, 190, 191, 192, 193, 194, 195, 196, 197, 198, 199, 200, 201, 202, 203, 204, 205, 206] (by decide +kernel) (by decide +kernel)
set_option maxRecDepth 20000 in
theorem gX9_sweep_X9_read : GoodIn wsX9_sweep (wsV RX9 300 RX9 yX9_read wsX9_read) := goodIn_app (goodIn_of _ (by decide +kernel)) ggX9_sweep_X9_read
set_option maxRecDepth 20000 in
theorem ggX9_sweep_X9_nameAll : GoodIn wsX9_sweep wsX9_nameAll := goodIn_r _ [121, 122, 11, 14, 123, 8, 17, 124, 125, 126, 6, 127, 13, 109, 128, 129, 130, 131, 83, 84, 85, 86, 32, 33, 34, 35, 36, 46, 47, 48, 49, 41, 42, 43, 44, 45, 79, 80, 81, 82, 54, 55, 56, 91, 92, 93, 94, 132, 133, 134, 135, 136, 70, 71, 72, 73, 169, 170, 171, 172, 173, 174, 175, 176, 177, 178, 179, 180, 181, 182, 183, 184, 185, 186, 187, 188, 189, 190, 191, 192, 193, 194, 195, 196, 197, 198, 199, 200, 201, 202, 203, 204, 205, 206] (by decide +kernel) (by decide +kernel)
set_option maxRecDepth 20000 in
theorem gX9_sweep_X9_nameAll : GoodIn wsX9_sweep (wsV RX9 321 RX9 yX9_nameAll wsX9_nameAll) := goodIn_app (goodIn_of _ (by decide +kernel)) ggX9_sweep_X9_nameAll
set_option maxRecDepth 20000 in
theorem ggX9_sweep_X9_pageState : GoodIn wsX9_sweep wsX9_pageState := goodIn_r _ [140, 141, 142, 143, 6, 144, 37, 38, 39, 40, 41, 42, 43, 44, 45, 46, 47, 48, 49, 50, 51, 52, 53, 54, 55, 56, 57, 58, 59, 60, 61, 62, 63, 64, 65, 66, 67, 68, 69, 169, 170, 171, 172, 173, 174, 175, 176, 177, 178, 179, 180, 181, 182, 183, 184, 185, 186, 187, 188, 189, 190, 191, 192, 193, 194, 195, 196, 197, 198, 199, 200, 201, 202, 203, 204, 205, 206] (by decide +kernel) (by decide +kernel)
set_option maxRecDepth 20000 in
theorem gX9_sweep_X9_pageState : GoodIn wsX9_sweep (wsV RX9 238 RX9 yX9_pageState wsX9_pageState) := goodIn_app (goodIn_of _ (by decide +kernel)) ggX9_sweep_X9_pageState
set_option maxRecDepth 20000 in
theorem ggX9_sweep_X9_leafDigest : GoodIn wsX9_sweep wsX9_leafDigest := goodIn_r _ [148, 141, 142, 143, 6, 144, 46, 47, 48, 49, 41, 42, 43, 44, 45, 169, 170, 171, 172, 173, 174, 175, 176, 177, 178, 179, 180, 181, 182, 183, 184, 185, 186, 187, 188, 189, 190, 191, 192, 193, 194, 195, 196, 197, 198, 199, 200, 201, 202, 203, 204, 205, 206] (by decide +kernel) (by decide +kernel)
set_option maxRecDepth 20000 in
theorem gX9_sweep_X9_leafDigest : GoodIn wsX9_sweep (wsV RX9 287 RX9 yX9_leafDigest wsX9_leafDigest) := goodIn_app (goodIn_of _ (by decide +kernel)) ggX9_sweep_X9_leafDigest
set_option maxRecDepth 20000 in
theorem ggX9_sweep_X9_isNamed : GoodIn wsX9_sweep wsX9_isNamed := goodIn_r _ [152, 122, 136, 169, 170, 171, 172, 173, 174, 175, 176, 177, 178, 179, 180, 181, 182, 183, 184, 185, 186, 187, 188, 189, 190, 191, 192, 193, 194, 195, 196, 197, 198, 199, 200, 201, 202, 203, 204, 205, 206] (by decide +kernel) (by decide +kernel)
set_option maxRecDepth 20000 in
theorem gX9_sweep_X9_isNamed : GoodIn wsX9_sweep (wsV RX9 324 RX9 yX9_isNamed wsX9_isNamed) := goodIn_app (goodIn_of _ (by decide +kernel)) ggX9_sweep_X9_isNamed
set_option maxRecDepth 20000 in
theorem ggX9_sweep_X9_pagePlace : GoodIn wsX9_sweep wsX9_pagePlace := goodIn_r _ [144] (by decide +kernel) (by decide +kernel)
set_option maxRecDepth 20000 in
theorem gX9_sweep_X9_pagePlace : GoodIn wsX9_sweep (wsV RX9 154 RX9 yX9_pagePlace wsX9_pagePlace) := goodIn_app (goodIn_of _ (by decide +kernel)) ggX9_sweep_X9_pagePlace
set_option maxRecDepth 20000 in
theorem ggX9_sweep_X9_erase : GoodIn wsX9_sweep wsX9_erase := goodIn_r _ [156, 157, 158, 159, 6, 160, 2, 161, 162, 163, 164, 165, 166, 167, 168, 45, 169, 170, 171, 172, 173, 174, 175, 176, 177, 178, 179, 180, 181, 182, 183, 184, 185, 186, 187, 188, 189, 190, 191, 192, 193, 194, 195, 196, 197, 198, 199, 200, 201, 202, 203, 204, 205, 206] (by decide +kernel) (by decide +kernel)
set_option maxRecDepth 20000 in
theorem gX9_sweep_X9_erase : GoodIn wsX9_sweep (wsV RX9 256 RX9 yX9_erase wsX9_erase) := goodIn_app (goodIn_of _ (by decide +kernel)) ggX9_sweep_X9_erase
set_option maxRecDepth 20000 in
theorem ggX9_out_X9_read : GoodIn wsX9_out wsX9_read := goodIn_r _ [9, 10, 11, 12, 13, 14, 15, 16, 17, 18, 19, 20, 21, 22, 23, 8, 24, 25, 26, 27, 28, 29, 30, 31, 32, 33, 34, 35, 36, 37, 38, 39, 40, 41, 42, 43, 44, 45, 46, 47, 48, 49, 50, 51, 52, 53, 54, 55, 56, 57, 58, 59, 60, 61, 62, 63, 64, 65, 66, 67, 68, 69, 70, 71, 72, 73, 74, 75, 76, 77, 78, 79, 80, 81, 82, 83, 84, 85, 86, 87, 88, 89, 90, 91, 92, 93, 94, 95, 96, 97, 98, 99, 100, 101, 102, 103, 104, 105, 106, 107, 108, 109, 110, 111, 112, 113, 114, 115, 116, 117, 118, 119, 163, 164, 165, 166, 167, 168, 169, 170, 171, 172, 173, 174, 175, 176, 177, 178, 179, 180, 181, 182, 183, 184, 185, 186, 187, 188, 189, 190, 191, 192, 193, 194, 195, 196, 197, 198, 199, 200] (by decide +kernel) (by decide +kernel)
set_option maxRecDepth 20000 in
theorem gX9_out_X9_read : GoodIn wsX9_out (wsV RX9 300 RX9 yX9_read wsX9_read) := goodIn_app (goodIn_of _ (by decide +kernel)) ggX9_out_X9_read
set_option maxRecDepth 20000 in
theorem ggX9_out_X9_isKept : GoodIn wsX9_out wsX9_isKept := goodIn_r _ [123, 11, 13, 16, 163, 164, 165, 166, 167, 168, 169, 170, 171, 172, 173, 174, 175, 176, 177, 178, 179, 180, 181, 182, 183, 184, 185, 186, 187, 188, 189, 190, 191, 192, 193, 194, 195, 196, 197, 198, 199, 200] (by decide +kernel) (by decide +kernel)
set_option maxRecDepth 20000 in
theorem gX9_out_X9_isKept : GoodIn wsX9_out (wsV RX9 314 RX9 yX9_isKept wsX9_isKept) := goodIn_app (goodIn_of _ (by decide +kernel)) ggX9_out_X9_isKept
set_option maxRecDepth 20000 in
theorem ggX9_out_X9_versionState : GoodIn wsX9_out wsX9_versionState := goodIn_r _ [127, 3, 15, 13, 111, 128, 129, 130, 8, 131, 85, 86, 87, 88, 34, 35, 36, 37, 38, 48, 49, 50, 51, 43, 44, 45, 46, 47, 81, 82, 83, 84, 56, 57, 58, 93, 94, 95, 96, 163, 164, 165, 166, 167, 168, 169, 170, 171, 172, 173, 174, 175, 176, 177, 178, 179, 180, 181, 182, 183, 184, 185, 186, 187, 188, 189, 190, 191, 192, 193, 194, 195, 196, 197, 198, 199, 200] (by decide +kernel) (by decide +kernel)
set_option maxRecDepth 20000 in
theorem gX9_out_X9_versionState : GoodIn wsX9_out (wsV RX9 244 RX9 yX9_versionState wsX9_versionState) := goodIn_app (goodIn_of _ (by decide +kernel)) ggX9_out_X9_versionState
set_option maxRecDepth 20000 in
theorem ggX9_out_X9_pageOf : GoodIn wsX9_out wsX9_pageOf := goodIn_r _ [135, 136, 137, 138, 139, 8, 140, 48, 49, 50, 51, 43, 44, 45, 46, 47, 141, 142, 143, 144, 39, 40, 41, 42, 52, 53, 54, 55, 56, 57, 58, 59, 60, 61, 62, 63, 64, 65, 66, 67, 68, 69, 70, 71, 163, 164, 165, 166, 167, 168, 169, 170, 171, 172, 173, 174, 175, 176, 177, 178, 179, 180, 181, 182, 183, 184, 185, 186, 187, 188, 189, 190, 191, 192, 193, 194, 195, 196, 197, 198, 199, 200] (by decide +kernel) (by decide +kernel)
set_option maxRecDepth 20000 in
theorem gX9_out_X9_pageOf : GoodIn wsX9_out (wsV RX9 317 RX9 yX9_pageOf wsX9_pageOf) := goodIn_app (goodIn_of _ (by decide +kernel)) ggX9_out_X9_pageOf
set_option maxRecDepth 20000 in
theorem ggX9_out_X9_toTape : GoodIn wsX9_out wsX9_toTape := goodIn_r _ [148, 149, 4, 106, 163, 164, 165, 166, 167, 168, 169, 170, 171, 172, 173, 174, 175, 176, 177, 178, 179, 180, 181, 182, 183, 184, 185, 186, 187, 188, 189, 190, 191, 192, 193, 194, 195, 196, 197, 198, 199, 200] (by decide +kernel) (by decide +kernel)
set_option maxRecDepth 20000 in
theorem gX9_out_X9_toTape : GoodIn wsX9_out (wsV RX9 352 RX9 yX9_toTape wsX9_toTape) := goodIn_app (goodIn_of _ (by decide +kernel)) ggX9_out_X9_toTape
set_option maxRecDepth 20000 in
theorem ggX9_out_X9_versionDigest : GoodIn wsX9_out wsX9_versionDigest := goodIn_r _ [153, 13, 14, 18, 111, 163, 164, 165, 166, 167, 168, 169, 170, 171, 172, 173, 174, 175, 176, 177, 178, 179, 180, 181, 182, 183, 184, 185, 186, 187, 188, 189, 190, 191, 192, 193, 194, 195, 196, 197, 198, 199, 200] (by decide +kernel) (by decide +kernel)
set_option maxRecDepth 20000 in
theorem gX9_out_X9_versionDigest : GoodIn wsX9_out (wsV RX9 334 RX9 yX9_versionDigest wsX9_versionDigest) := goodIn_app (goodIn_of _ (by decide +kernel)) ggX9_out_X9_versionDigest
set_option maxRecDepth 20000 in
theorem ggX9_out_X9_slotsWithLeaf : GoodIn wsX9_out wsX9_slotsWithLeaf := goodIn_r _ [157, 3, 163, 164, 165, 166, 167, 168, 169, 170, 171, 172, 173, 174, 175, 176, 177, 178, 179, 180, 181, 182, 183, 184, 185, 186, 187, 188, 189, 190, 191, 192, 193, 194, 195, 196, 197, 198, 199, 200] (by decide +kernel) (by decide +kernel)
set_option maxRecDepth 20000 in
theorem gX9_out_X9_slotsWithLeaf : GoodIn wsX9_out (wsV RX9 341 RX9 yX9_slotsWithLeaf wsX9_slotsWithLeaf) := goodIn_app (goodIn_of _ (by decide +kernel)) ggX9_out_X9_slotsWithLeaf
set_option maxRecDepth 20000 in
theorem ggX9_out_X9_pagePlace : GoodIn wsX9_out wsX9_pagePlace := goodIn_r _ [140] (by decide +kernel) (by decide +kernel)
set_option maxRecDepth 20000 in
theorem gX9_out_X9_pagePlace : GoodIn wsX9_out (wsV RX9 154 RX9 yX9_pagePlace wsX9_pagePlace) := goodIn_app (goodIn_of _ (by decide +kernel)) ggX9_out_X9_pagePlace
set_option maxRecDepth 20000 in
theorem ggX9_out_X9_byteIn : GoodIn wsX9_out wsX9_byteIn := goodIn_r _ [46, 47, 163, 164, 165, 166, 167, 168, 169, 170, 171, 172, 173, 174, 175, 176, 177, 178, 179, 180, 181, 182, 183, 184, 185, 186, 187, 188, 189, 190, 191, 192, 193, 194, 195, 196, 197, 198, 199, 200] (by decide +kernel) (by decide +kernel)
set_option maxRecDepth 20000 in
theorem gX9_out_X9_byteIn : GoodIn wsX9_out (wsV RX9 96 RX9 yX9_byteIn wsX9_byteIn) := goodIn_app (goodIn_of _ (by decide +kernel)) ggX9_out_X9_byteIn
set_option maxRecDepth 20000 in
theorem ggX9_out_X9_tapeSum : GoodIn wsX9_out wsX9_tapeSum := goodIn_r _ [161, 162, 149, 68, 69, 8, 70, 71, 163, 164, 165, 166, 167, 168, 169, 170, 171, 172, 173, 174, 175, 176, 177, 178, 179, 180, 181, 182, 183, 184, 185, 186, 187, 188, 189, 190, 191, 192, 193, 194, 195, 196, 197, 198, 199, 200] (by decide +kernel) (by decide +kernel)
set_option maxRecDepth 20000 in
theorem gX9_out_X9_tapeSum : GoodIn wsX9_out (wsV RX9 356 RX9 yX9_tapeSum wsX9_tapeSum) := goodIn_app (goodIn_of _ (by decide +kernel)) ggX9_out_X9_tapeSum
set_option maxRecDepth 20000 in
theorem ggX9_isSnapshot_X9_fromTape : GoodIn wsX9_isSnapshot wsX9_fromTape := goodIn_r _ [12, 2, 25, 26, 27, 28, 29, 30, 31, 32, 33, 34, 35, 36, 37, 38, 39, 40, 41, 42, 43, 44, 45, 46, 47, 48, 49, 50, 51, 52, 53, 54, 55, 56, 57, 58, 59, 60, 61, 62] (by decide +kernel) (by decide +kernel)
set_option maxRecDepth 20000 in
theorem gX9_isSnapshot_X9_fromTape : GoodIn wsX9_isSnapshot (wsV RX9 359 RX9 yX9_fromTape wsX9_fromTape) := goodIn_app (goodIn_of _ (by decide +kernel)) ggX9_isSnapshot_X9_fromTape
set_option maxRecDepth 20000 in
theorem ggX9_isSnapshot_X9_within : GoodIn wsX9_isSnapshot wsX9_within := goodIn_r _ [15] (by decide +kernel) (by decide +kernel)
set_option maxRecDepth 20000 in
theorem gX9_isSnapshot_X9_within : GoodIn wsX9_isSnapshot (va_wsS RX9 138 yX9_within wsX9_within) := goodIn_app (goodIn_of _ (by decide +kernel)) ggX9_isSnapshot_X9_within
set_option maxRecDepth 20000 in
theorem ggX9_isSnapshot_X9_tapeSum : GoodIn wsX9_isSnapshot wsX9_tapeSum := goodIn_r _ [19, 20, 2, 21, 22, 11, 23, 24, 25, 26, 27, 28, 29, 30, 31, 32, 33, 34, 35, 36, 37, 38, 39, 40, 41, 42, 43, 44, 45, 46, 47, 48, 49, 50, 51, 52, 53, 54, 55, 56, 57, 58, 59, 60, 61, 62] (by decide +kernel) (by decide +kernel)
set_option maxRecDepth 20000 in
theorem gX9_isSnapshot_X9_tapeSum : GoodIn wsX9_isSnapshot (wsV RX9 356 RX9 yX9_tapeSum wsX9_tapeSum) := goodIn_app (goodIn_of _ (by decide +kernel)) ggX9_isSnapshot_X9_tapeSum
set_option maxRecDepth 20000 in
theorem ggX9_layIn_X9_freshSum : GoodIn wsX9_layIn wsX9_freshSum := goodIn_r _ [10, 11, 1, 12, 13, 9, 14, 15, 21, 22, 23, 24, 25, 26, 27, 28, 29, 30, 31, 32, 33, 34, 35, 36, 37, 38, 39, 40, 41, 42, 43, 44, 45, 46, 47, 48, 49, 50, 51, 52, 53, 54, 55, 56, 57, 58] (by decide +kernel) (by decide +kernel)
set_option maxRecDepth 20000 in
theorem gX9_layIn_X9_freshSum : GoodIn wsX9_layIn (wsV RX9 124 RX9 yX9_freshSum wsX9_freshSum) := goodIn_app (goodIn_of _ (by decide +kernel)) ggX9_layIn_X9_freshSum
set_option maxRecDepth 20000 in
theorem ggX9_layIn_X9_put : GoodIn wsX9_layIn wsX9_put := goodIn_r _ [19, 1, 20, 21, 22, 23, 24, 25, 26, 27, 28, 29, 30, 31, 32, 33, 34, 35, 36, 37, 38, 39, 40, 41, 42, 43, 44, 45, 46, 47, 48, 49, 50, 51, 52, 53, 54, 55, 56, 57, 58] (by decide +kernel) (by decide +kernel)
set_option maxRecDepth 20000 in
theorem gX9_layIn_X9_put : GoodIn wsX9_layIn (wsV RX9 121 RX9 yX9_put wsX9_put) := goodIn_app (goodIn_of _ (by decide +kernel)) ggX9_layIn_X9_put
set_option maxRecDepth 20000 in
theorem ggX9_in_X9_badRows : GoodIn wsX9_in wsX9_badRows := goodIn_r _ [14, 15, 16, 17, 13, 18, 9, 19, 20, 21, 22, 6, 23, 24, 25, 26, 27, 28, 29, 30, 31, 32, 33, 34, 35, 36, 37, 38, 39, 40, 41, 42, 43, 44, 45, 46, 47, 48, 49, 50, 51, 52, 53, 54, 55, 56, 57, 58, 59, 143, 144, 145, 146, 147, 148, 149, 150, 151, 152, 153, 154, 155, 156, 157, 158, 159, 160, 161, 162, 163, 164, 165, 166, 167, 168, 169, 170, 171, 172, 173, 174, 175, 176, 177, 178, 179, 180] (by decide +kernel) (by decide +kernel)
set_option maxRecDepth 20000 in
theorem gX9_in_X9_badRows : GoodIn wsX9_in (wsV RX9 173 RX9 yX9_badRows wsX9_badRows) := goodIn_app (goodIn_of _ (by decide +kernel)) ggX9_in_X9_badRows
set_option maxRecDepth 20000 in
theorem ggX9_in_X9_rows : GoodIn wsX9_in wsX9_rows := goodIn_r _ [18, 9, 143, 144, 145, 146, 147, 148, 149, 150, 151, 152, 153, 154, 155, 156, 157, 158, 159, 160, 161, 162, 163, 164, 165, 166, 167, 168, 169, 170, 171, 172, 173, 174, 175, 176, 177, 178, 179, 180] (by decide +kernel) (by decide +kernel)
set_option maxRecDepth 20000 in
theorem gX9_in_X9_rows : GoodIn wsX9_in (wsV RX9 163 RX9 yX9_rows wsX9_rows) := goodIn_app (goodIn_of _ (by decide +kernel)) ggX9_in_X9_rows
set_option maxRecDepth 20000 in
theorem ggX9_in_X9_isSnapshot : GoodIn wsX9_in wsX9_isSnapshot := goodIn_r _ [63, 5, 64, 3, 65, 7, 66, 67, 68, 69, 70, 13, 71, 44, 45, 46, 72, 73, 74, 75, 76, 56, 57, 58, 59, 143, 144, 145, 146, 147, 148, 149, 150, 151, 152, 153, 154, 155, 156, 157, 158, 159, 160, 161, 162, 163, 164, 165, 166, 167, 168, 169, 170, 171, 172, 173, 174, 175, 176, 177, 178, 179, 180] (by decide +kernel) (by decide +kernel)
set_option maxRecDepth 20000 in
theorem gX9_in_X9_isSnapshot : GoodIn wsX9_in (wsV RX9 365 RX9 yX9_isSnapshot wsX9_isSnapshot) := goodIn_app (goodIn_of _ (by decide +kernel)) ggX9_in_X9_isSnapshot
set_option maxRecDepth 20000 in
theorem ggX9_in_X9_isSameIn : GoodIn wsX9_in wsX9_isSameIn := goodIn_r _ [80, 66, 64, 67, 143, 144, 145, 146, 147, 148, 149, 150, 151, 152, 153, 154, 155, 156, 157, 158, 159, 160, 161, 162, 163, 164, 165, 166, 167, 168, 169, 170, 171, 172, 173, 174, 175, 176, 177, 178, 179, 180] (by decide +kernel) (by decide +kernel)
set_option maxRecDepth 20000 in
theorem gX9_in_X9_isSameIn : GoodIn wsX9_in (wsV RX9 368 RX9 yX9_isSameIn wsX9_isSameIn) := goodIn_app (goodIn_of _ (by decide +kernel)) ggX9_in_X9_isSameIn
set_option maxRecDepth 20000 in
theorem ggX9_in_X9_layIn : GoodIn wsX9_in wsX9_layIn := goodIn_r _ [84, 85, 66, 64, 67, 8, 86, 87, 88, 13, 89, 55, 56, 57, 58, 59, 90, 91, 92, 93, 94, 143, 144, 145, 146, 147, 148, 149, 150, 151, 152, 153, 154, 155, 156, 157, 158, 159, 160, 161, 162, 163, 164, 165, 166, 167, 168, 169, 170, 171, 172, 173, 174, 175, 176, 177, 178, 179, 180] (by decide +kernel) (by decide +kernel)
set_option maxRecDepth 20000 in
theorem gX9_in_X9_layIn : GoodIn wsX9_in (wsV RX9 371 RX9 yX9_layIn wsX9_layIn) := goodIn_app (goodIn_of _ (by decide +kernel)) ggX9_in_X9_layIn
set_option maxRecDepth 20000 in
theorem ggX9_in_X9_sameLeaf : GoodIn wsX9_in wsX9_sameLeaf := goodIn_r _ [98, 99, 85, 86, 87, 88, 13, 89, 55, 56, 57, 58, 59, 100, 101, 102, 103, 104, 105, 106, 107, 36, 37, 38, 39, 31, 32, 33, 34, 35, 108, 109, 110, 111, 27, 28, 29, 30, 40, 41, 42, 43, 44, 45, 46, 47, 48, 49, 50, 51, 52, 53, 54, 143, 144, 145, 146, 147, 148, 149, 150, 151, 152, 153, 154, 155, 156, 157, 158, 159, 160, 161, 162, 163, 164, 165, 166, 167, 168, 169, 170, 171, 172, 173, 174, 175, 176, 177, 178, 179, 180] (by decide +kernel) (by decide +kernel)
set_option maxRecDepth 20000 in
theorem gX9_in_X9_sameLeaf : GoodIn wsX9_in (wsV RX9 290 RX9 yX9_sameLeaf wsX9_sameLeaf) := goodIn_app (goodIn_of _ (by decide +kernel)) ggX9_in_X9_sameLeaf
set_option maxRecDepth 20000 in
theorem ggX9_in_X9_freePages : GoodIn wsX9_in wsX9_freePages := goodIn_r _ [115, 99, 108, 109, 110, 13, 111, 104, 105, 106, 107, 27, 28, 29, 30, 31, 32, 33, 34, 35, 36, 37, 38, 39, 40, 41, 42, 43, 44, 45, 46, 47, 48, 49, 50, 51, 52, 53, 54, 55, 56, 57, 58, 59, 143, 144, 145, 146, 147, 148, 149, 150, 151, 152, 153, 154, 155, 156, 157, 158, 159, 160, 161, 162, 163, 164, 165, 166, 167, 168, 169, 170, 171, 172, 173, 174, 175, 176, 177, 178, 179, 180] (by decide +kernel) (by decide +kernel)
set_option maxRecDepth 20000 in
theorem gX9_in_X9_freePages : GoodIn wsX9_in (wsV RX9 374 RX9 yX9_freePages wsX9_freePages) := goodIn_app (goodIn_of _ (by decide +kernel)) ggX9_in_X9_freePages
set_option maxRecDepth 20000 in
theorem ggX9_in_X9_fromTape : GoodIn wsX9_in wsX9_fromTape := goodIn_r _ [71, 64, 143, 144, 145, 146, 147, 148, 149, 150, 151, 152, 153, 154, 155, 156, 157, 158, 159, 160, 161, 162, 163, 164, 165, 166, 167, 168, 169, 170, 171, 172, 173, 174, 175, 176, 177, 178, 179, 180] (by decide +kernel) (by decide +kernel)
set_option maxRecDepth 20000 in
theorem gX9_in_X9_fromTape : GoodIn wsX9_in (wsV RX9 359 RX9 yX9_fromTape wsX9_fromTape) := goodIn_app (goodIn_of _ (by decide +kernel)) ggX9_in_X9_fromTape
set_option maxRecDepth 20000 in
theorem ggX9_in_X9_freePage : GoodIn wsX9_in wsX9_freePage := goodIn_r _ [119, 99, 108, 109, 110, 13, 111, 104, 105, 106, 107, 27, 28, 29, 30, 31, 32, 33, 34, 35, 36, 37, 38, 39, 40, 41, 42, 43, 44, 45, 46, 47, 48, 49, 50, 51, 52, 53, 54, 55, 56, 57, 58, 59, 143, 144, 145, 146, 147, 148, 149, 150, 151, 152, 153, 154, 155, 156, 157, 158, 159, 160, 161, 162, 163, 164, 165, 166, 167, 168, 169, 170, 171, 172, 173, 174, 175, 176, 177, 178, 179, 180] (by decide +kernel) (by decide +kernel)
set_option maxRecDepth 20000 in
theorem gX9_in_X9_freePage : GoodIn wsX9_in (wsV RX9 293 RX9 yX9_freePage wsX9_freePage) := goodIn_app (goodIn_of _ (by decide +kernel)) ggX9_in_X9_freePage
set_option maxRecDepth 20000 in
theorem ggX9_in_X9_pagePlace : GoodIn wsX9_in wsX9_pagePlace := goodIn_r _ [107] (by decide +kernel) (by decide +kernel)
set_option maxRecDepth 20000 in
theorem gX9_in_X9_pagePlace : GoodIn wsX9_in (wsV RX9 154 RX9 yX9_pagePlace wsX9_pagePlace) := goodIn_app (goodIn_of _ (by decide +kernel)) ggX9_in_X9_pagePlace
set_option maxRecDepth 20000 in
theorem ggX9_in_X9_writeFresh : GoodIn wsX9_in wsX9_writeFresh := goodIn_r _ [123, 85, 124, 125, 126, 13, 127, 128, 129, 130, 131, 4, 132, 1, 133, 134, 135, 136, 137, 138, 35, 143, 144, 145, 146, 147, 148, 149, 150, 151, 152, 153, 154, 155, 156, 157, 158, 159, 160, 161, 162, 163, 164, 165, 166, 167, 168, 169, 170, 171, 172, 173, 174, 175, 176, 177, 178, 179, 180] (by decide +kernel) (by decide +kernel)
set_option maxRecDepth 20000 in
theorem gX9_in_X9_writeFresh : GoodIn wsX9_in (wsV RX9 281 RX9 yX9_writeFresh wsX9_writeFresh) := goodIn_app (goodIn_of _ (by decide +kernel)) ggX9_in_X9_writeFresh
set_option maxRecDepth 20000 in
theorem ggX9_in_X9_layRow : GoodIn wsX9_in wsX9_layRow := goodIn_r _ [142, 85, 90, 91, 92, 13, 93, 94, 86, 87, 88, 89, 55, 56, 57, 58, 59, 143, 144, 145, 146, 147, 148, 149, 150, 151, 152, 153, 154, 155, 156, 157, 158, 159, 160, 161, 162, 163, 164, 165, 166, 167, 168, 169, 170, 171, 172, 173, 174, 175, 176, 177, 178, 179, 180] (by decide +kernel) (by decide +kernel)
set_option maxRecDepth 20000 in
theorem gX9_in_X9_layRow : GoodIn wsX9_in (wsV RX9 307 RX9 yX9_layRow wsX9_layRow) := goodIn_app (goodIn_of _ (by decide +kernel)) ggX9_in_X9_layRow
set_option maxRecDepth 20000 in
theorem ggX9_in_X9_rowPlace : GoodIn wsX9_in wsX9_rowPlace := goodIn_r _ [26] (by decide +kernel) (by decide +kernel)
set_option maxRecDepth 20000 in
theorem gX9_in_X9_rowPlace : GoodIn wsX9_in (wsV RX9 146 RX9 yX9_rowPlace wsX9_rowPlace) := goodIn_app (goodIn_of _ (by decide +kernel)) ggX9_in_X9_rowPlace
