set_option maxRecDepth 20000 in
theorem gX8_putLeaf_X1_sameLeaf : GoodIn wsX8_putLeaf (wsV RX8 389 RX1 yX1_sameLeaf wsX1_sameLeaf) := goodIn_app (goodIn_of _ (by decide +kernel)) ggX8_putLeaf_X1_sameLeaf
set_option maxRecDepth 20000 in
theorem ggX8_putLeaf_X1_firstFree : GoodIn wsX8_putLeaf wsX1_firstFree := goodIn_r _ [76, 8, 9, 77, 10, 11, 12, 13, 14, 15, 16, 17, 18, 19, 20, 21, 22, 23, 24, 25, 26, 27, 28, 29, 30, 31, 32, 33, 34, 35, 36, 37, 38, 39, 40, 41, 42, 43, 44, 45, 46, 47, 48, 49, 50, 51, 52, 53, 54, 55, 56, 57, 58, 59, 60, 61, 62, 63, 64, 65, 66, 67, 68, 69, 171, 172, 173, 174, 175, 176, 177, 178, 179, 180, 181, 182, 183] (by decide +kernel) (by decide +kernel)
set_option maxRecDepth 20000 in
theorem gX8_putLeaf_X1_firstFree : GoodIn wsX8_putLeaf (wsV RX8 393 RX1 yX1_firstFree wsX1_firstFree) := goodIn_app (goodIn_of _ (by decide +kernel)) ggX8_putLeaf_X1_firstFree
set_option maxRecDepth 20000 in
theorem ggX8_putLeaf_X1_writePage : GoodIn wsX8_putLeaf wsX1_writePage := goodIn_r _ [81, 82, 83, 84, 6, 85, 86, 87, 88, 89, 90, 91, 92, 8, 9, 93, 94, 36, 95, 96, 97, 98, 10, 11, 12, 13, 14, 15, 16, 17, 18, 19, 20, 21, 22, 23, 24, 25, 26, 27, 28, 29, 30, 31, 32, 99, 100, 101, 102, 103, 104, 105, 106, 39, 38, 107, 108, 109, 110, 111, 112, 113, 114, 115, 116, 117, 118, 119, 120, 121, 122, 123, 124, 125, 126, 127, 128, 129, 130, 131, 132, 133, 134, 135, 136, 137, 138, 139, 140, 141, 142, 143, 144, 145, 146, 147, 148, 149, 150, 151, 152, 153, 154, 155, 156, 157, 158, 159, 160, 178, 179, 180, 171, 172, 173, 174, 175, 176, 177, 181, 182, 183] (by decide +kernel) (by decide +kernel)
set_option maxRecDepth 20000 in
theorem gX8_putLeaf_X1_writePage : GoodIn wsX8_putLeaf (wsV RX8 336 RX1 yX1_writePage wsX1_writePage) := goodIn_app (goodIn_of _ (by decide +kernel)) ggX8_putLeaf_X1_writePage
set_option maxRecDepth 20000 in
theorem ggX8_putSnapshot_X8_drawPage : GoodIn wsX8_putSnapshot wsX8_drawPage := goodIn_r _ [9, 2, 10, 11, 12, 13, 14, 15, 16, 17, 18, 19, 20, 21, 22, 23, 24, 25, 26, 27, 28, 299, 300, 301, 302, 303, 304, 305, 306, 307, 308, 316, 317] (by decide +kernel) (by decide +kernel)
set_option maxRecDepth 20000 in
theorem gX8_putSnapshot_X8_drawPage : GoodIn wsX8_putSnapshot (wsV RX8 108 RX8 yX8_drawPage wsX8_drawPage) := goodIn_app (goodIn_of _ (by decide +kernel)) ggX8_putSnapshot_X8_drawPage
set_option maxRecDepth 20000 in
theorem ggX8_putSnapshot_X0_longAt : GoodIn wsX8_putSnapshot wsX0_longAt := goodIn_r _ [31] (by decide +kernel) (by decide +kernel)
set_option maxRecDepth 20000 in
theorem gX8_putSnapshot_X0_longAt : GoodIn wsX8_putSnapshot (va_wsS RX8 453 yX0_longAt wsX0_longAt) := goodIn_app (goodIn_of _ (by decide +kernel)) ggX8_putSnapshot_X0_longAt
set_option maxRecDepth 20000 in
theorem ggX8_putSnapshot_X8_putLeaf : GoodIn wsX8_putSnapshot wsX8_putLeaf := goodIn_r _ [35, 36, 2, 37, 38, 39, 40, 41, 42, 43, 44, 45, 46, 47, 48, 49, 50, 51, 52, 53, 54, 55, 56, 57, 58, 59, 60, 61, 62, 63, 64, 65, 66, 67, 68, 69, 70, 71, 72, 73, 74, 75, 13, 76, 77, 78, 79, 80, 30, 31, 15, 16, 17, 18, 19, 20, 21, 22, 23, 24, 25, 81, 82, 83, 84, 85, 86, 87, 88, 89, 90, 91, 92, 93, 94, 95, 96, 97, 98, 99, 100, 101, 102, 103, 104, 105, 106, 107, 108, 109, 110, 111, 112, 113, 114, 115, 116, 117, 118, 119, 120, 121, 122, 123, 124, 125, 126, 127, 128, 129, 130, 131, 132, 133, 134, 135, 136, 137, 138, 139, 140, 141, 142, 143, 144, 145, 146, 147, 148, 149, 150, 151, 152, 153, 154, 155, 156, 157, 158, 159, 160, 161, 162, 163, 164, 165, 166, 167, 168, 169, 170, 171, 172, 173, 174, 175, 176, 177, 178, 179, 180, 299, 300, 301, 302, 303, 304, 305, 306, 307, 308, 318, 319, 320, 321, 322, 323, 324, 325, 326, 327, 328, 329, 330] (by decide +kernel) (by decide +kernel)
set_option maxRecDepth 20000 in
theorem gX8_putSnapshot_X8_putLeaf : GoodIn wsX8_putSnapshot (wsV RX8 112 RX8 yX8_putLeaf wsX8_putLeaf) := goodIn_app (goodIn_of _ (by decide +kernel)) ggX8_putSnapshot_X8_putLeaf
set_option maxRecDepth 20000 in
theorem ggX8_putSnapshot_X4_write : GoodIn wsX8_putSnapshot wsX4_write := goodIn_r _ [185, 186, 187, 188, 189, 190, 184, 191, 192, 193, 194, 13, 195, 196, 27, 28, 197, 12, 14, 15, 16, 17, 18, 19, 20, 21, 22, 23, 24, 25, 26, 198, 199, 200, 201, 202, 203, 204, 205, 40, 206, 102, 103, 104, 105, 106, 107, 108, 207, 208, 209, 210, 211, 212, 331, 332, 333, 334, 335, 336, 318, 319, 320, 321, 322, 323, 324] (by decide +kernel) (by decide +kernel)
set_option maxRecDepth 20000 in
theorem gX8_putSnapshot_X4_write : GoodIn wsX8_putSnapshot (wsV RX8 377 RX4 yX4_write wsX4_write) := goodIn_app (goodIn_of _ (by decide +kernel)) ggX8_putSnapshot_X4_write
set_option maxRecDepth 20000 in
theorem ggX8_putSnapshot_X6_hear : GoodIn wsX8_putSnapshot wsX6_hear := goodIn_r _ [217, 218, 219, 220, 221, 222, 223, 224, 225, 226, 227, 184, 228, 202, 229, 230, 231, 232, 187, 233, 234, 235, 216, 236, 237, 238, 239, 240, 241, 242, 243, 244, 245, 246, 247, 13, 248, 249, 250, 251, 252, 253, 8, 254, 255, 256, 257, 258, 259, 260, 19, 20, 21, 261, 262, 263, 22, 23, 24, 25, 264, 265, 266, 267, 268, 30, 31, 269, 270, 271, 272, 273, 274, 275, 276, 277, 278, 279, 280, 281, 282, 283, 284, 285, 286, 287, 288, 289, 290, 291, 292, 293, 294, 295, 296, 297, 298, 337, 338, 339, 340, 341, 342, 343, 344, 345, 346, 347, 348, 331, 332, 333, 334, 335, 336, 318, 319, 320, 321, 322, 323, 324] (by decide +kernel) (by decide +kernel)
set_option maxRecDepth 20000 in
theorem gX8_putSnapshot_X6_hear : GoodIn wsX8_putSnapshot (wsV RX8 380 RX6 yX6_hear wsX6_hear) := goodIn_app (goodIn_of _ (by decide +kernel)) ggX8_putSnapshot_X6_hear
