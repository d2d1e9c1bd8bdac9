set_option maxRecDepth 20000 in
theorem ggX8_init_X7_init : GoodIn wsX8_init wsX7_init := goodIn_r _ [33, 34, 2, 3, 35, 36, 37, 28, 38, 104, 105, 106, 107, 108, 109, 110] (by decide +kernel) (by decide +kernel)
set_option maxRecDepth 20000 in
theorem gX8_init_X7_init_n11 : GoodIn wsX8_init (wsX7_init) := ggX8_init_X7_init
set_option maxRecDepth 20000 in
theorem ggX8_init_X6_init : GoodIn wsX8_init wsX6_init := goodIn_r _ [40, 41, 2, 3, 42, 35, 43, 28, 44, 45, 46, 120, 121, 122, 123, 124] (by decide +kernel) (by decide +kernel)
set_option maxRecDepth 20000 in
theorem gX8_init_X6_init_n18 : GoodIn wsX8_init (wsX6_init) := ggX8_init_X6_init
set_option maxRecDepth 20000 in
theorem ggX8_init_X4_init : GoodIn wsX8_init wsX4_init := goodIn_r _ [49, 50, 2, 3, 28, 51, 52, 53, 54, 55, 125, 126, 127, 128, 129, 130, 131] (by decide +kernel) (by decide +kernel)
set_option maxRecDepth 20000 in
theorem gX8_init_X4_init : GoodIn wsX8_init (wsX4_init) := ggX8_init_X4_init
set_option maxRecDepth 20000 in
theorem ggX8_init_X5_init : GoodIn wsX8_init wsX5_init := goodIn_r _ [57, 58, 2, 3, 59, 60, 61, 62, 63, 64, 65, 66, 67, 68, 69, 70, 71, 72, 73, 74, 75, 76, 77, 78, 79, 148, 149, 150, 132, 133, 134, 135] (by decide +kernel) (by decide +kernel)
set_option maxRecDepth 20000 in
theorem gX8_init_X5_init_n32 : GoodIn wsX8_init (wsX5_init) := ggX8_init_X5_init
set_option maxRecDepth 20000 in
theorem ggX8_init_X2_init : GoodIn wsX8_init wsX2_init := goodIn_r _ [81, 82, 2, 3, 83, 84, 85, 86, 136, 137, 138, 139] (by decide +kernel) (by decide +kernel)
set_option maxRecDepth 20000 in
theorem gX8_init_X2_init_n39 : GoodIn wsX8_init (wsX2_init) := ggX8_init_X2_init
set_option maxRecDepth 20000 in
theorem ggX8_init_X1_init : GoodIn wsX8_init wsX1_init := goodIn_r _ [88, 89, 2, 3, 90, 91, 92, 93, 94, 28, 95, 96, 97, 98, 99, 100, 101, 102, 103, 151, 152, 153, 140, 141, 142, 143, 144, 145, 146, 147] (by decide +kernel) (by decide +kernel)
set_option maxRecDepth 20000 in
theorem gX8_init_X1_init_n46 : GoodIn wsX8_init (wsX1_init) := ggX8_init_X1_init
set_option maxRecDepth 20000 in
theorem ggX8_feed_X7_putFour : GoodIn wsX8_feed wsX7_putFour := goodIn_r _ [7, 8, 9, 19, 20, 21, 22, 23, 24, 25] (by decide +kernel) (by decide +kernel)
set_option maxRecDepth 20000 in
theorem gX8_feed_X7_putFour : GoodIn wsX8_feed (wsV RX8 65 RX7 yX7_putFour wsX7_putFour) := goodIn_app (goodIn_of _ (by decide +kernel)) ggX8_feed_X7_putFour
set_option maxRecDepth 20000 in
theorem ggX8_end_X7_cutTo : GoodIn wsX8_end wsX7_cutTo := goodIn_r _ [6, 7, 17, 18, 19, 20, 21, 22, 23] (by decide +kernel) (by decide +kernel)
set_option maxRecDepth 20000 in
theorem gX8_end_X7_cutTo : GoodIn wsX8_end (wsV RX8 69 RX7 yX7_cutTo wsX7_cutTo) := goodIn_app (goodIn_of _ (by decide +kernel)) ggX8_end_X7_cutTo
set_option maxRecDepth 20000 in
theorem ggX8_add_X7_makePlain : GoodIn wsX8_add wsX7_makePlain := goodIn_r _ [16, 17, 18, 19, 20, 21, 15, 22, 23, 24, 25, 26, 27, 279, 280, 281, 282, 283, 284, 285] (by decide +kernel) (by decide +kernel)
set_option maxRecDepth 20000 in
theorem gX8_add_X7_makePlain : GoodIn wsX8_add (wsV RX8 73 RX7 yX7_makePlain wsX7_makePlain) := goodIn_app (goodIn_of _ (by decide +kernel)) ggX8_add_X7_makePlain
set_option maxRecDepth 20000 in
theorem ggX8_add_X7_cutTo : GoodIn wsX8_add wsX7_cutTo := goodIn_r _ [31, 18, 279, 280, 281, 282, 283, 284, 285] (by decide +kernel) (by decide +kernel)
set_option maxRecDepth 20000 in
theorem gX8_add_X7_cutTo : GoodIn wsX8_add (wsV RX8 69 RX7 yX7_cutTo wsX7_cutTo) := goodIn_app (goodIn_of _ (by decide +kernel)) ggX8_add_X7_cutTo
set_option maxRecDepth 20000 in
theorem ggX8_add_X5_isFull : GoodIn wsX8_add wsX5_isFull := goodIn_r _ [36, 37, 38, 39, 40, 41, 42, 43, 44, 286, 287, 288, 289, 290, 291, 292] (by decide +kernel) (by decide +kernel)
set_option maxRecDepth 20000 in
theorem gX8_add_X5_isFull : GoodIn wsX8_add (wsV RX8 77 RX5 yX5_isFull wsX5_isFull) := goodIn_app (goodIn_of _ (by decide +kernel)) ggX8_add_X5_isFull
set_option maxRecDepth 20000 in
theorem ggX8_add_X7_markPieces : GoodIn wsX8_add wsX7_markPieces := goodIn_r _ [48, 49, 50, 17, 27, 51, 279, 280, 281, 282, 283, 284, 285] (by decide +kernel) (by decide +kernel)
set_option maxRecDepth 20000 in
theorem gX8_add_X7_markPieces : GoodIn wsX8_add (wsV RX8 81 RX7 yX7_markPieces wsX7_markPieces) := goodIn_app (goodIn_of _ (by decide +kernel)) ggX8_add_X7_markPieces
set_option maxRecDepth 20000 in
theorem ggX8_add_X8_numberAlongText : GoodIn wsX8_add wsX8_numberAlongText := goodIn_r _ [56, 1, 57, 58, 59, 60, 61, 62, 4, 63, 64, 65, 6, 66, 67, 68, 69, 70, 71, 72, 73, 74, 75, 76, 77, 78, 79, 80, 81, 82, 83, 84, 85, 86, 87, 250, 251, 252, 253, 254, 255, 256, 257, 258, 279, 280, 281, 282, 283, 284, 285, 259, 260, 261, 262, 263] (by decide +kernel) (by decide +kernel)
set_option maxRecDepth 20000 in
theorem gX8_add_X8_numberAlongText : GoodIn wsX8_add (wsV RX8 88 RX8 yX8_numberAlongText wsX8_numberAlongText) := goodIn_app (goodIn_of _ (by decide +kernel)) ggX8_add_X8_numberAlongText
set_option maxRecDepth 20000 in
theorem ggX8_add_X6_forgetFrom : GoodIn wsX8_add wsX6_forgetFrom := goodIn_r _ [91, 80, 71, 83, 259, 260, 261, 262, 263] (by decide +kernel) (by decide +kernel)
set_option maxRecDepth 20000 in
theorem gX8_add_X6_forgetFrom : GoodIn wsX8_add (wsV RX8 91 RX6 yX6_forgetFrom wsX6_forgetFrom) := goodIn_app (goodIn_of _ (by decide +kernel)) ggX8_add_X6_forgetFrom
set_option maxRecDepth 20000 in
theorem ggX8_add_X5_takeNext : GoodIn wsX8_add wsX5_takeNext := goodIn_r _ [95, 96, 97, 98, 99, 37, 100, 38, 101, 102, 103, 104, 42, 105, 44, 39, 40, 41, 43, 106, 107, 108, 109, 110, 111, 112, 113, 114, 115, 116, 117, 118, 119, 120, 121, 122, 123, 124, 125, 126, 127, 128, 129, 130, 131, 132, 133, 134, 135, 136, 137, 138, 139, 140, 141, 142, 143, 144, 145, 146, 147, 148, 149, 150, 151, 152, 153, 154, 155, 156, 157, 158, 159, 60, 61, 62, 160, 161, 162, 163, 164, 165, 166, 167, 168, 169, 170, 171, 172, 173, 174, 175, 176, 177, 178, 179, 180, 181, 182, 183, 184, 185, 186, 286, 287, 288, 289, 264, 265, 266, 267, 268, 269, 270, 290, 291, 292] (by decide +kernel) (by decide +kernel)
set_option maxRecDepth 20000 in
theorem gX8_add_X5_takeNext : GoodIn wsX8_add (wsV RX8 94 RX5 yX5_takeNext wsX5_takeNext) := goodIn_app (goodIn_of _ (by decide +kernel)) ggX8_add_X5_takeNext
set_option maxRecDepth 20000 in
theorem ggX8_add_X0_fillWith : GoodIn wsX8_add wsX0_fillWith := goodIn_r _ [190, 113, 191, 115, 264, 265, 266, 267, 268, 269, 270] (by decide +kernel) (by decide +kernel)
set_option maxRecDepth 20000 in
theorem gX8_add_X0_fillWith : GoodIn wsX8_add (wsV RX8 98 RX0 yX0_fillWith wsX0_fillWith) := goodIn_app (goodIn_of _ (by decide +kernel)) ggX8_add_X0_fillWith
set_option maxRecDepth 20000 in
theorem ggX8_add_X4_leastOf : GoodIn wsX8_add wsX4_leastOf := goodIn_r _ [196, 197, 198, 199, 200, 184, 61, 185, 201, 202, 203, 195, 204, 205, 206, 207, 208, 209, 210, 211, 212, 213, 214, 215, 216, 217, 218, 219, 220, 221, 222, 223, 224, 264, 265, 266, 267, 268, 269, 270, 293, 294, 295, 296, 297, 298, 299] (by decide +kernel) (by decide +kernel)
set_option maxRecDepth 20000 in
theorem gX8_add_X4_leastOf : GoodIn wsX8_add (wsV RX8 107 RX4 yX4_leastOf wsX4_leastOf) := goodIn_app (goodIn_of _ (by decide +kernel)) ggX8_add_X4_leastOf
set_option maxRecDepth 20000 in
theorem ggX8_add_X5_shareWithAll : GoodIn wsX8_add wsX5_shareWithAll := goodIn_r _ [228, 37, 100, 229, 230, 39, 40, 41, 42, 43, 44, 231, 232, 233, 234, 124, 125, 126, 127, 128, 129, 130, 131, 235, 236, 237, 238, 123, 239, 240, 241, 99, 242, 113, 243, 244, 245, 246, 247, 248, 249, 286, 287, 288, 289, 264, 265, 266, 267, 268, 269, 270, 290, 291, 292] (by decide +kernel) (by decide +kernel)
set_option maxRecDepth 20000 in
theorem gX8_add_X5_shareWithAll : GoodIn wsX8_add (wsV RX8 111 RX5 yX5_shareWithAll wsX5_shareWithAll) := goodIn_app (goodIn_of _ (by decide +kernel)) ggX8_add_X5_shareWithAll
set_option maxRecDepth 20000 in
theorem ggX8_remove_X5_putAway : GoodIn wsX8_remove wsX5_putAway := goodIn_r _ [8, 9, 10, 11, 12, 13, 14, 7, 15, 16, 17, 18, 19, 20, 21, 22, 23, 24, 25, 26, 27, 28, 29, 30, 31, 32, 33, 34, 35, 36, 37, 38, 39, 40, 41, 42, 43, 44, 45, 46, 47, 48, 49, 50, 51, 52, 53, 54, 55, 56, 57, 58, 59, 60, 61, 62, 63, 64, 65, 66, 67, 68, 69, 70, 71, 72, 73, 74, 75, 76, 77, 78, 79, 80, 81, 82, 83, 84, 85, 86, 87, 88, 89, 90, 91, 92, 93, 94, 95, 96, 97, 98, 99, 100, 101, 119, 120, 121, 122, 123, 124, 125, 126, 127, 128, 129, 130, 131, 132] (by decide +kernel) (by decide +kernel)
set_option maxRecDepth 20000 in
theorem gX8_remove_X5_putAway : GoodIn wsX8_remove (wsV RX8 122 RX5 yX5_putAway wsX5_putAway) := goodIn_app (goodIn_of _ (by decide +kernel)) ggX8_remove_X5_putAway
set_option maxRecDepth 20000 in
theorem ggX8_mode_X6_forgetFrom : GoodIn wsX8_mode wsX6_forgetFrom := goodIn_r _ [13, 14, 15, 16, 123, 124, 125, 126, 127] (by decide +kernel) (by decide +kernel)
set_option maxRecDepth 20000 in
theorem gX8_mode_X6_forgetFrom : GoodIn wsX8_mode (wsV RX8 91 RX6 yX6_forgetFrom wsX6_forgetFrom) := goodIn_app (goodIn_of _ (by decide +kernel)) ggX8_mode_X6_forgetFrom
set_option maxRecDepth 20000 in
theorem ggX8_mode_X5_putAllAway : GoodIn wsX8_mode wsX5_putAllAway := goodIn_r _ [21, 22, 23, 24, 25, 26, 27, 28, 29, 30, 31, 32, 33, 34, 35, 36, 37, 38, 39, 40, 41, 42, 43, 44, 45, 46, 47, 48, 49, 50, 51, 52, 53, 54, 55, 56, 57, 58, 59, 60, 61, 62, 63, 64, 65, 66, 67, 68, 69, 70, 71, 72, 73, 74, 75, 76, 77, 78, 79, 80, 81, 82, 83, 84, 85, 86, 87, 88, 89, 90, 91, 92, 93, 94, 95, 96, 97, 98, 99, 100, 101, 102, 103, 104, 105, 128, 129, 130, 131, 132, 133, 134] (by decide +kernel) (by decide +kernel)
set_option maxRecDepth 20000 in
theorem gX8_mode_X5_putAllAway : GoodIn wsX8_mode (wsV RX8 132 RX5 yX5_putAllAway wsX5_putAllAway) := goodIn_app (goodIn_of _ (by decide +kernel)) ggX8_mode_X5_putAllAway
set_option maxRecDepth 20000 in
theorem ggX8_tell_X4_become : GoodIn wsX8_tell wsX4_become := goodIn_r _ [6, 7, 8, 9, 10, 11, 12, 5, 13, 14, 15, 16, 17, 18, 19, 20, 21, 22, 23, 24, 90, 91, 92, 93, 94, 95, 96] (by decide +kernel) (by decide +kernel)
set_option maxRecDepth 20000 in
theorem gX8_tell_X4_become : GoodIn wsX8_tell (wsV RX8 135 RX4 yX4_become wsX4_become) := goodIn_app (goodIn_of _ (by decide +kernel)) ggX8_tell_X4_become
set_option maxRecDepth 20000 in
theorem ggX8_tell_X8_renewImages : GoodIn wsX8_tell wsX8_renewImages := goodIn_r _ [29, 30, 31, 32, 33, 1, 34, 35, 36, 37, 38, 39, 40, 41, 42, 43, 44, 45, 46, 47, 48, 49, 50, 51, 52, 53, 54, 55, 56, 57, 58, 59, 60, 61, 5, 62, 17, 63, 64, 65, 66, 67, 68, 69, 70, 71, 72, 10, 22, 23, 24, 7, 8, 73, 11, 12, 13, 14, 15, 16, 74, 75, 76, 77, 78, 79, 80, 81, 82, 83, 84, 85, 86, 87, 88, 89, 97, 98, 99, 100, 101, 102, 103, 104, 105, 106, 107, 108, 109, 110, 111, 112, 113, 114, 115, 116, 117, 118, 90, 91, 92, 93, 94, 95, 96] (by decide +kernel) (by decide +kernel)
set_option maxRecDepth 20000 in
theorem gX8_tell_X8_renewImages : GoodIn wsX8_tell (wsV RX8 139 RX8 yX8_renewImages wsX8_renewImages) := goodIn_app (goodIn_of _ (by decide +kernel)) ggX8_tell_X8_renewImages
set_option maxRecDepth 20000 in
theorem ggX8_exchange_X4_swap : GoodIn wsX8_exchange wsX4_swap := goodIn_r _ [7, 8, 9, 10, 11, 6, 12, 13, 14, 15, 16, 17, 18, 19, 20, 21, 22, 23, 24, 25, 26, 27, 28, 29, 30, 31, 32, 33, 34, 35, 36, 37, 91, 92, 93, 94, 95, 96, 97] (by decide +kernel) (by decide +kernel)
set_option maxRecDepth 20000 in
theorem gX8_exchange_X4_swap : GoodIn wsX8_exchange (wsV RX8 142 RX4 yX4_swap wsX4_swap) := goodIn_app (goodIn_of _ (by decide +kernel)) ggX8_exchange_X4_swap
set_option maxRecDepth 20000 in
theorem ggX8_exchange_X8_renewImages : GoodIn wsX8_exchange wsX8_renewImages := goodIn_r _ [42, 43, 44, 45, 46, 1, 47, 48, 49, 50, 51, 52, 53, 54, 55, 56, 57, 58, 59, 60, 61, 62, 63, 64, 65, 66, 67, 68, 69, 70, 71, 72, 73, 74, 6, 75, 16, 76, 77, 78, 79, 80, 81, 17, 18, 19, 20, 9, 21, 22, 23, 24, 25, 26, 10, 11, 12, 13, 14, 15, 27, 28, 29, 30, 31, 32, 33, 82, 83, 84, 85, 86, 87, 88, 89, 90, 98, 99, 100, 101, 102, 103, 104, 105, 106, 107, 108, 109, 110, 111, 112, 113, 114, 115, 116, 117, 118, 119, 91, 92, 93, 94, 95, 96, 97] (by decide +kernel) (by decide +kernel)
set_option maxRecDepth 20000 in
theorem gX8_exchange_X8_renewImages : GoodIn wsX8_exchange (wsV RX8 139 RX8 yX8_renewImages wsX8_renewImages) := goodIn_app (goodIn_of _ (by decide +kernel)) ggX8_exchange_X8_renewImages
set_option maxRecDepth 20000 in
theorem ggX8_image_X4_imageOf : GoodIn wsX8_image wsX4_imageOf := goodIn_r _ [6, 7, 8, 9, 10, 11, 12, 13, 14, 15, 5, 16, 17, 18, 19, 20, 21, 22, 23, 24, 25, 26, 27, 37, 38, 39, 40, 41, 42, 43] (by decide +kernel) (by decide +kernel)
set_option maxRecDepth 20000 in
theorem gX8_image_X4_imageOf : GoodIn wsX8_image (wsV RX8 148 RX4 yX4_imageOf wsX4_imageOf) := goodIn_app (goodIn_of _ (by decide +kernel)) ggX8_image_X4_imageOf
set_option maxRecDepth 20000 in
theorem ggX8_bands_X2_takeBands : GoodIn wsX8_bands wsX2_takeBands := goodIn_r _ [8, 9, 10, 28, 29, 30, 31] (by decide +kernel) (by decide +kernel)
set_option maxRecDepth 20000 in
theorem gX8_bands_X2_takeBands : GoodIn wsX8_bands (wsV RX8 152 RX2 yX2_takeBands wsX2_takeBands) := goodIn_app (goodIn_of _ (by decide +kernel)) ggX8_bands_X2_takeBands
set_option maxRecDepth 20000 in
theorem ggX8_threshold_X2_takeThreshold : GoodIn wsX8_threshold wsX2_takeThreshold := goodIn_r _ [8, 9, 10, 28, 29, 30, 31] (by decide +kernel) (by decide +kernel)
set_option maxRecDepth 20000 in
theorem gX8_threshold_X2_takeThreshold : GoodIn wsX8_threshold (wsV RX8 156 RX2 yX2_takeThreshold wsX2_takeThreshold) := goodIn_app (goodIn_of _ (by decide +kernel)) ggX8_threshold_X2_takeThreshold
set_option maxRecDepth 20000 in
theorem ggX8_document_X5_placeOf : GoodIn wsX8_document wsX5_placeOf := goodIn_r _ [13, 14, 15, 16, 17, 18, 19, 20, 21, 22, 23, 24, 25, 26, 27, 28, 29, 30, 31, 32, 33, 34, 35, 36, 37, 38, 39, 136, 137, 138, 139, 140, 141, 142, 143, 144, 145, 146, 147, 148, 149] (by decide +kernel) (by decide +kernel)
set_option maxRecDepth 20000 in
theorem gX8_document_X5_placeOf : GoodIn wsX8_document (wsV RX8 159 RX5 yX5_placeOf wsX5_placeOf) := goodIn_app (goodIn_of _ (by decide +kernel)) ggX8_document_X5_placeOf
set_option maxRecDepth 20000 in
theorem ggX8_document_Jx4a65c_get_915e3 : GoodIn wsX8_document wsJx4a65c_get_915e3 := goodIn_r _ [26, 22, 27, 28, 29, 30, 31, 32, 33, 34, 35, 36, 37, 20, 38, 39, 147, 148, 149] (by decide +kernel) (by decide +kernel)
set_option maxRecDepth 20000 in
theorem gX8_document_Jx4a65c_get_915e3 : GoodIn wsX8_document (wsV RX8 172 RJx4a65c yJx4a65c_get_915e3 wsJx4a65c_get_915e3) := goodIn_app (goodIn_of _ (by decide +kernel)) ggX8_document_Jx4a65c_get_915e3
set_option maxRecDepth 20000 in
theorem ggX8_document_X1_learn : GoodIn wsX8_document wsX1_learn := goodIn_r _ [45, 46, 47, 48, 49, 50, 51, 52, 53, 44, 54, 55, 56, 57, 58, 59, 60, 61, 62, 63, 64, 65, 18, 19, 20, 21, 22, 66, 24, 25, 26, 27, 28, 29, 30, 31, 32, 33, 34, 35, 36, 37, 38, 39, 67, 68, 69, 70, 71, 72, 73, 74, 75, 76, 77, 78, 79, 80, 81, 82, 83, 84, 85, 86, 87, 88, 89, 90, 91, 92, 93, 94, 95, 96, 97, 98, 99, 100, 101, 102, 103, 104, 105, 106, 107, 108, 109, 110, 111, 112, 113, 114, 150, 151, 152, 153, 154, 155, 156, 157, 158, 159, 160, 140, 141, 142, 143, 144, 145, 146, 147, 148, 149, 161, 162, 163, 164] (by decide +kernel) (by decide +kernel)
set_option maxRecDepth 20000 in
theorem gX8_document_X1_learn : GoodIn wsX8_document (wsV RX8 181 RX1 yX1_learn wsX1_learn) := goodIn_app (goodIn_of _ (by decide +kernel)) ggX8_document_X1_learn
set_option maxRecDepth 20000 in
theorem ggX8_document_X1_familyOf : GoodIn wsX8_document wsX1_familyOf := goodIn_r _ [118, 47, 62, 50, 150, 151, 152, 153, 154, 155, 156, 157] (by decide +kernel) (by decide +kernel)
set_option maxRecDepth 20000 in
theorem gX8_document_X1_familyOf : GoodIn wsX8_document (wsV RX8 185 RX1 yX1_familyOf wsX1_familyOf) := goodIn_app (goodIn_of _ (by decide +kernel)) ggX8_document_X1_familyOf
set_option maxRecDepth 20000 in
theorem ggX8_document_X1_membersWith : GoodIn wsX8_document wsX1_membersWith := goodIn_r _ [122, 47, 49, 50, 150, 151, 152, 153, 154, 155, 156, 157] (by decide +kernel) (by decide +kernel)
set_option maxRecDepth 20000 in
theorem gX8_document_X1_membersWith : GoodIn wsX8_document (wsV RX8 188 RX1 yX1_membersWith wsX1_membersWith) := goodIn_app (goodIn_of _ (by decide +kernel)) ggX8_document_X1_membersWith
set_option maxRecDepth 20000 in
theorem ggX8_document_X1_twinsOf : GoodIn wsX8_document wsX1_twinsOf := goodIn_r _ [126, 47, 64, 150, 151, 152, 153, 154, 155, 156, 157] (by decide +kernel) (by decide +kernel)
set_option maxRecDepth 20000 in
theorem gX8_document_X1_twinsOf : GoodIn wsX8_document (wsV RX8 191 RX1 yX1_twinsOf wsX1_twinsOf) := goodIn_app (goodIn_of _ (by decide +kernel)) ggX8_document_X1_twinsOf
set_option maxRecDepth 20000 in
theorem ggX8_shingle_X8_documentThere : GoodIn wsX8_shingle wsX8_documentThere := goodIn_ca (goodIn_r _ [7, 8, 9, 10, 11, 12, 13, 14, 15, 16, 17, 18, 19, 20, 21, 22, 23, 24, 25, 26, 27, 28, 29, 30, 31, 32, 33, 34, 35, 36, 37, 38, 39, 40, 41, 42, 43, 44, 52, 53, 54, 55, 56, 57, 58, 59, 60, 61, 62, 63, 64, 45, 46, 47, 48, 49, 50, 51, 65, 66, 67] (by decide +kernel) (by decide +kernel)) (goodIn_sub (fun _ h => List.mem_cons_of_mem _ (List.mem_append_right _ h)) (by decide +kernel))
set_option maxRecDepth 20000 in
theorem gX8_shingle_X8_documentThere : GoodIn wsX8_shingle (wsV RX8 194 RX8 yX8_documentThere wsX8_documentThere) := goodIn_app (goodIn_of _ (by decide +kernel)) ggX8_shingle_X8_documentThere
set_option maxRecDepth 20000 in
theorem ggX8_letter_X6_byteOf : GoodIn wsX8_letter wsX6_byteOf := goodIn_r _ [6, 7, 8, 9, 19, 20, 21, 22, 23] (by decide +kernel) (by decide +kernel)
set_option maxRecDepth 20000 in
theorem gX8_letter_X6_byteOf : GoodIn wsX8_letter (wsV RX8 201 RX6 yX6_byteOf wsX6_byteOf) := goodIn_app (goodIn_of _ (by decide +kernel)) ggX8_letter_X6_byteOf
set_option maxRecDepth 20000 in
theorem ggX8_signature_X8_documentThere : GoodIn wsX8_signature wsX8_documentThere := goodIn_ca (goodIn_r _ [8, 1, 2, 9, 10, 11, 12, 13, 14, 15, 16, 17, 18, 19, 20, 21, 22, 23, 24, 25, 26, 27, 28, 29, 30, 31, 32, 33, 34, 35, 36, 37, 38, 39, 40, 41, 42, 43, 51, 52, 53, 54, 55, 56, 57, 58, 59, 60, 61, 62, 63, 44, 45, 46, 47, 48, 49, 50, 64, 65, 66] (by decide +kernel) (by decide +kernel)) (goodIn_sub (fun _ h => List.mem_cons_of_mem _ (List.mem_append_right _ h)) (by decide +kernel))
set_option maxRecDepth 20000 in
theorem gX8_signature_X8_documentThere : GoodIn wsX8_signature (wsV RX8 194 RX8 yX8_documentThere wsX8_documentThere) := goodIn_app (goodIn_of _ (by decide +kernel)) ggX8_signature_X8_documentThere
set_option maxRecDepth 20000 in
theorem ggX8_both_X8_documentThere : GoodIn wsX8_both wsX8_documentThere := goodIn_ca (goodIn_r _ [8, 1, 2, 9, 10, 11, 12, 13, 14, 15, 16, 17, 18, 19, 20, 21, 22, 23, 24, 25, 26, 27, 28, 29, 30, 31, 32, 33, 34, 35, 36, 37, 38, 39, 40, 41, 42, 43, 84, 85, 86, 87, 88, 89, 90, 91, 92, 93, 94, 95, 96, 97, 98, 99, 100, 101, 102, 103, 104, 105, 106] (by decide +kernel) (by decide +kernel)) (goodIn_sub (fun _ h => List.mem_cons_of_mem _ (List.mem_append_right _ h)) (by decide +kernel))
set_option maxRecDepth 20000 in
theorem gX8_both_X8_documentThere : GoodIn wsX8_both (wsV RX8 194 RX8 yX8_documentThere wsX8_documentThere) := goodIn_app (goodIn_of _ (by decide +kernel)) ggX8_both_X8_documentThere
set_option maxRecDepth 20000 in
theorem ggX8_both_X2_common : GoodIn wsX8_both wsX2_common := goodIn_r _ [48, 49, 50, 97, 98, 99, 100, 101, 102, 103] (by decide +kernel) (by decide +kernel)
set_option maxRecDepth 20000 in
theorem gX8_both_X2_common : GoodIn wsX8_both (wsV RX8 208 RX2 yX2_common wsX2_common) := goodIn_app (goodIn_of _ (by decide +kernel)) ggX8_both_X2_common
set_option maxRecDepth 20000 in
theorem ggX8_both_X2_all : GoodIn wsX8_both wsX2_all := goodIn_r _ [54, 55, 56, 45, 46, 47, 48, 49, 50, 97, 98, 99, 100, 101, 102, 103] (by decide +kernel) (by decide +kernel)
set_option maxRecDepth 20000 in
theorem gX8_both_X2_all : GoodIn wsX8_both (wsV RX8 212 RX2 yX2_all wsX2_all) := goodIn_app (goodIn_of _ (by decide +kernel)) ggX8_both_X2_all
set_option maxRecDepth 20000 in
theorem ggX8_both_X2_sameImages : GoodIn wsX8_both wsX2_sameImages := goodIn_r _ [60, 61, 62, 63, 107, 108, 109, 110, 97, 98, 99, 100, 101, 102, 103] (by decide +kernel) (by decide +kernel)
set_option maxRecDepth 20000 in
theorem gX8_both_X2_sameImages : GoodIn wsX8_both (wsV RX8 215 RX2 yX2_sameImages wsX2_sameImages) := goodIn_app (goodIn_of _ (by decide +kernel)) ggX8_both_X2_sameImages
set_option maxRecDepth 20000 in
theorem ggX8_both_X2_firstBand : GoodIn wsX8_both wsX2_firstBand := goodIn_r _ [67, 55, 61, 62, 68, 69, 70, 47, 71, 63, 97, 98, 99, 100, 101, 102, 103, 107, 108, 109, 110] (by decide +kernel) (by decide +kernel)
set_option maxRecDepth 20000 in
theorem gX8_both_X2_firstBand : GoodIn wsX8_both (wsV RX8 218 RX2 yX2_firstBand wsX2_firstBand) := goodIn_app (goodIn_of _ (by decide +kernel)) ggX8_both_X2_firstBand
set_option maxRecDepth 20000 in
theorem ggX8_both_X2_areTwins : GoodIn wsX8_both wsX2_areTwins := goodIn_r _ [75, 76, 65, 66, 47, 67, 55, 61, 62, 68, 69, 70, 71, 63, 77, 78, 79, 80, 81, 82, 56, 45, 46, 48, 49, 50, 83, 52, 53, 54, 97, 98, 99, 100, 101, 102, 103, 107, 108, 109, 110] (by decide +kernel) (by decide +kernel)
set_option maxRecDepth 20000 in
theorem gX8_both_X2_areTwins : GoodIn wsX8_both (wsV RX8 221 RX2 yX2_areTwins wsX2_areTwins) := goodIn_app (goodIn_of _ (by decide +kernel)) ggX8_both_X2_areTwins
set_option maxRecDepth 20000 in
theorem ggX8_pairs_X1_learn : GoodIn wsX8_pairs wsX1_learn := goodIn_r _ [12, 13, 14, 15, 16, 17, 18, 19, 20, 11, 21, 22, 23, 24, 25, 26, 27, 28, 29, 30, 31, 32, 33, 34, 35, 36, 37, 38, 39, 40, 41, 42, 43, 44, 45, 46, 47, 48, 49, 50, 51, 52, 53, 54, 55, 56, 57, 58, 59, 60, 61, 62, 63, 64, 65, 66, 67, 68, 69, 70, 71, 72, 73, 74, 75, 76, 77, 78, 79, 80, 81, 82, 83, 84, 85, 86, 87, 88, 89, 90, 91, 92, 93, 94, 95, 96, 97, 98, 99, 100, 101, 102, 120, 121, 122, 123, 124, 125, 126, 127, 128, 129, 130, 131, 132, 133, 134, 135, 136, 137, 138, 139, 140, 141, 142, 143, 144] (by decide +kernel) (by decide +kernel)
set_option maxRecDepth 20000 in
theorem gX8_pairs_X1_learn : GoodIn wsX8_pairs (wsV RX8 181 RX1 yX1_learn wsX1_learn) := goodIn_app (goodIn_of _ (by decide +kernel)) ggX8_pairs_X1_learn
set_option maxRecDepth 20000 in
theorem ggX8_pairs_X1_families : GoodIn wsX8_pairs wsX1_families := goodIn_r _ [106, 14, 16, 120, 121, 122, 123, 124, 125, 126, 127] (by decide +kernel) (by decide +kernel)
set_option maxRecDepth 20000 in
theorem gX8_pairs_X1_families : GoodIn wsX8_pairs (wsV RX8 235 RX1 yX1_families wsX1_families) := goodIn_app (goodIn_of _ (by decide +kernel)) ggX8_pairs_X1_families
set_option maxRecDepth 20000 in
theorem ggX8_pair_X1_learn : GoodIn wsX8_pair wsX1_learn := goodIn_r _ [11, 12, 13, 14, 15, 16, 17, 18, 19, 10, 20, 21, 22, 23, 24, 25, 26, 27, 28, 29, 30, 31, 32, 33, 34, 35, 36, 37, 38, 39, 40, 41, 42, 43, 44, 45, 46, 47, 48, 49, 50, 51, 52, 53, 54, 55, 56, 57, 58, 59, 60, 61, 62, 63, 64, 65, 66, 67, 68, 69, 70, 71, 72, 73, 74, 75, 76, 77, 78, 79, 80, 81, 82, 83, 84, 85, 86, 87, 88, 89, 90, 91, 92, 93, 94, 95, 96, 97, 98, 99, 100, 101, 123, 124, 125, 126, 127, 128, 129, 130, 131, 132, 133, 134, 135, 136, 137, 138, 139, 140, 141, 142, 143, 144, 145, 146, 147] (by decide +kernel) (by decide +kernel)
set_option maxRecDepth 20000 in
theorem gX8_pair_X1_learn : GoodIn wsX8_pair (wsV RX8 181 RX1 yX1_learn wsX1_learn) := goodIn_app (goodIn_of _ (by decide +kernel)) ggX8_pair_X1_learn
set_option maxRecDepth 20000 in
theorem ggX8_pair_X3_side : GoodIn wsX8_pair wsX3_side := goodIn_r _ [105, 76, 77, 78, 131, 132, 133] (by decide +kernel) (by decide +kernel)
set_option maxRecDepth 20000 in
theorem gX8_pair_X3_side : GoodIn wsX8_pair (wsV RX8 238 RX3 yX3_side wsX3_side) := goodIn_app (goodIn_of _ (by decide +kernel)) ggX8_pair_X3_side
set_option maxRecDepth 20000 in
theorem ggX8_pair_X1_familyAt : GoodIn wsX8_pair wsX1_familyAt := goodIn_r _ [109, 13, 15, 28, 123, 124, 125, 126, 127, 128, 129, 130] (by decide +kernel) (by decide +kernel)
set_option maxRecDepth 20000 in
theorem gX8_pair_X1_familyAt : GoodIn wsX8_pair (wsV RX8 241 RX1 yX1_familyAt wsX1_familyAt) := goodIn_app (goodIn_of _ (by decide +kernel)) ggX8_pair_X1_familyAt
set_option maxRecDepth 20000 in
theorem ggX8_nearest_X8_documentThere : GoodIn wsX8_nearest wsX8_documentThere := goodIn_ca (goodIn_r _ [9, 10, 11, 1, 12, 3, 13, 14, 15, 16, 17, 18, 19, 20, 21, 22, 23, 24, 25, 26, 27, 28, 29, 30, 31, 32, 33, 34, 35, 36, 37, 38, 39, 40, 41, 42, 43, 44, 130, 131, 132, 133, 134, 135, 136, 137, 138, 146, 147, 148, 149, 139, 140, 141, 142, 143, 144, 145, 150, 151, 152] (by decide +kernel) (by decide +kernel)) (goodIn_sub (fun _ h => List.mem_cons_of_mem _ (List.mem_append_right _ h)) (by decide +kernel))
set_option maxRecDepth 20000 in
theorem gX8_nearest_X8_documentThere : GoodIn wsX8_nearest (wsV RX8 194 RX8 yX8_documentThere wsX8_documentThere) := goodIn_app (goodIn_of _ (by decide +kernel)) ggX8_nearest_X8_documentThere
set_option maxRecDepth 20000 in
theorem ggX8_nearest_X5_othersByNearness : GoodIn wsX8_nearest wsX5_othersByNearness := goodIn_r _ [48, 49, 18, 19, 50, 51, 52, 24, 53, 54, 55, 43, 26, 21, 22, 23, 25, 27, 28, 29, 30, 31, 32, 33, 34, 35, 36, 37, 38, 39, 40, 41, 42, 56, 57, 58, 16, 59, 60, 61, 62, 63, 64, 65, 66, 67, 68, 69, 70, 71, 72, 73, 74, 75, 76, 77, 78, 79, 80, 81, 82, 83, 84, 85, 86, 87, 88, 89, 90, 91, 92, 93, 94, 95, 96, 97, 98, 99, 100, 101, 102, 103, 104, 105, 106, 107, 108, 109, 110, 111, 112, 113, 114, 115, 116, 117, 118, 119, 120, 121, 122, 123, 124, 125, 126, 127, 128, 146, 147, 148, 149, 150, 151, 152, 139, 140, 141, 142, 143, 144, 145] (by decide +kernel) (by decide +kernel)
set_option maxRecDepth 20000 in
theorem gX8_nearest_X5_othersByNearness : GoodIn wsX8_nearest (wsV RX8 244 RX5 yX5_othersByNearness wsX5_othersByNearness) := goodIn_app (goodIn_of _ (by decide +kernel)) ggX8_nearest_X5_othersByNearness
set_option maxRecDepth 20000 in
theorem ggX8_nearest_Jx4a65c_size_8abf5 : GoodIn wsX8_nearest wsJx4a65c_size_8abf5 := goodIn_r _ [25, 26, 150, 151, 152] (by decide +kernel) (by decide +kernel)
set_option maxRecDepth 20000 in
theorem gX8_nearest_Jx4a65c_size_8abf5 : GoodIn wsX8_nearest (wsV RX8 248 RJx4a65c yJx4a65c_size_8abf5 wsJx4a65c_size_8abf5) := goodIn_app (goodIn_of _ (by decide +kernel)) ggX8_nearest_Jx4a65c_size_8abf5
set_option maxRecDepth 20000 in
theorem ggX8_nearest_Jx4a65c_get_915e3 : GoodIn wsX8_nearest wsJx4a65c_get_915e3 := goodIn_r _ [30, 26, 31, 32, 33, 34, 35, 36, 37, 38, 39, 40, 41, 24, 42, 43, 150, 151, 152] (by decide +kernel) (by decide +kernel)
set_option maxRecDepth 20000 in
theorem gX8_nearest_Jx4a65c_get_915e3 : GoodIn wsX8_nearest (wsV RX8 172 RJx4a65c yJx4a65c_get_915e3 wsJx4a65c_get_915e3) := goodIn_app (goodIn_of _ (by decide +kernel)) ggX8_nearest_Jx4a65c_get_915e3
set_option maxRecDepth 20000 in
theorem ggX8_count_X7_makePlain : GoodIn wsX8_count wsX7_makePlain := goodIn_r _ [21, 22, 23, 24, 25, 26, 20, 27, 28, 29, 30, 31, 32, 55, 56, 57, 58, 59, 60, 61] (by decide +kernel) (by decide +kernel)
set_option maxRecDepth 20000 in
theorem gX8_count_X7_makePlain : GoodIn wsX8_count (wsV RX8 73 RX7 yX7_makePlain wsX7_makePlain) := goodIn_app (goodIn_of _ (by decide +kernel)) ggX8_count_X7_makePlain
set_option maxRecDepth 20000 in
theorem ggX8_count_Jx4a65c_size_8abf5 : GoodIn wsX8_count wsJx4a65c_size_8abf5 := goodIn_r _ [37, 38, 82, 83, 84] (by decide +kernel) (by decide +kernel)
set_option maxRecDepth 20000 in
theorem gX8_count_Jx4a65c_size_8abf5 : GoodIn wsX8_count (wsV RX8 248 RJx4a65c yJx4a65c_size_8abf5 wsJx4a65c_size_8abf5) := goodIn_app (goodIn_of _ (by decide +kernel)) ggX8_count_Jx4a65c_size_8abf5
set_option maxRecDepth 20000 in
theorem ggX8_count_X6_bytesUsed : GoodIn wsX8_count wsX6_bytesUsed := goodIn_r _ [43, 44, 45, 66, 67, 68, 69, 70] (by decide +kernel) (by decide +kernel)
set_option maxRecDepth 20000 in
theorem gX8_count_X6_bytesUsed : GoodIn wsX8_count (wsV RX8 253 RX6 yX6_bytesUsed wsX6_bytesUsed) := goodIn_app (goodIn_of _ (by decide +kernel)) ggX8_count_X6_bytesUsed
set_option maxRecDepth 20000 in
theorem ggX8_documentThere_X5_placeOf : GoodIn wsX8_documentThere wsX5_placeOf := goodIn_r _ [10, 11, 12, 13, 14, 15, 16, 17, 18, 19, 20, 21, 22, 23, 24, 25, 26, 27, 28, 29, 30, 31, 32, 33, 34, 35, 36, 47, 48, 49, 50, 51, 52, 53, 54, 55, 56, 57, 58, 59, 60] (by decide +kernel) (by decide +kernel)
set_option maxRecDepth 20000 in
theorem gX8_documentThere_X5_placeOf : GoodIn wsX8_documentThere (wsV RX8 159 RX5 yX5_placeOf wsX5_placeOf) := goodIn_app (goodIn_of _ (by decide +kernel)) ggX8_documentThere_X5_placeOf
set_option maxRecDepth 20000 in
theorem ggX8_documentThere_Jx4a65c_get_915e3 : GoodIn wsX8_documentThere wsJx4a65c_get_915e3 := goodIn_r _ [23, 19, 24, 25, 26, 27, 28, 29, 30, 31, 32, 33, 34, 17, 35, 36, 58, 59, 60] (by decide +kernel) (by decide +kernel)
set_option maxRecDepth 20000 in
theorem gX8_documentThere_Jx4a65c_get_915e3 : GoodIn wsX8_documentThere (wsV RX8 172 RJx4a65c yJx4a65c_get_915e3 wsJx4a65c_get_915e3) := goodIn_app (goodIn_of _ (by decide +kernel)) ggX8_documentThere_Jx4a65c_get_915e3
set_option maxRecDepth 20000 in
theorem ggX8_numberAlongText_X6_numberOf : GoodIn wsX8_numberAlongText wsX6_numberOf := goodIn_r _ [17, 18, 19, 20, 16, 21, 22, 23, 24, 25, 26, 27, 28, 29, 30, 31, 32, 33, 34, 51, 52, 53, 54, 55] (by decide +kernel) (by decide +kernel)
set_option maxRecDepth 20000 in
theorem gX8_numberAlongText_X6_numberOf : GoodIn wsX8_numberAlongText (wsV RX8 288 RX6 yX6_numberOf wsX6_numberOf) := goodIn_app (goodIn_of _ (by decide +kernel)) ggX8_numberAlongText_X6_numberOf
set_option maxRecDepth 20000 in
theorem ggX8_renewImages_Jx4a65c_size_8abf5 : GoodIn wsX8_renewImages wsJx4a65c_size_8abf5 := goodIn_r _ [12, 13, 95, 96, 97] (by decide +kernel) (by decide +kernel)
set_option maxRecDepth 20000 in
theorem gX8_renewImages_Jx4a65c_size_8abf5 : GoodIn wsX8_renewImages (wsV RX8 248 RJx4a65c yJx4a65c_size_8abf5 wsJx4a65c_size_8abf5) := goodIn_app (goodIn_of _ (by decide +kernel)) ggX8_renewImages_Jx4a65c_size_8abf5
set_option maxRecDepth 20000 in
theorem ggX8_renewImages_Jx4a65c_get_915e3 : GoodIn wsX8_renewImages wsJx4a65c_get_915e3 := goodIn_r _ [17, 13, 18, 19, 20, 21, 22, 23, 24, 25, 26, 27, 28, 11, 29, 30, 95, 96, 97] (by decide +kernel) (by decide +kernel)
set_option maxRecDepth 20000 in
theorem gX8_renewImages_Jx4a65c_get_915e3 : GoodIn wsX8_renewImages (wsV RX8 172 RJx4a65c yJx4a65c_get_915e3 wsJx4a65c_get_915e3) := goodIn_app (goodIn_of _ (by decide +kernel)) ggX8_renewImages_Jx4a65c_get_915e3
set_option maxRecDepth 20000 in
theorem ggX8_renewImages_X4_leastOf : GoodIn wsX8_renewImages wsX4_leastOf := goodIn_r _ [35, 36, 37, 38, 39, 40, 41, 42, 43, 44, 45, 34, 46, 47, 48, 49, 50, 51, 52, 53, 54, 55, 56, 57, 58, 59, 60, 61, 62, 63, 64, 65, 66, 80, 81, 82, 83, 84, 85, 86, 98, 99, 100, 101, 102, 103, 104] (by decide +kernel) (by decide +kernel)
set_option maxRecDepth 20000 in
theorem gX8_renewImages_X4_leastOf : GoodIn wsX8_renewImages (wsV RX8 107 RX4 yX4_leastOf wsX4_leastOf) := goodIn_app (goodIn_of _ (by decide +kernel)) ggX8_renewImages_X4_leastOf
set_option maxRecDepth 20000 in
theorem ggL_mode_X8_mode : GoodIn wsL_mode wsX8_mode := goodIn_ca (goodIn_r _ [6, 7, 8, 9, 10, 11, 12, 13, 14, 15, 16, 17, 18, 19, 20, 21, 22, 23, 24, 25, 26, 27, 28, 29, 30, 31, 32, 33, 34, 35, 36, 37, 38, 39, 40, 41, 42, 43, 44, 45, 46, 47, 48, 49, 50, 51, 52, 53, 54, 55, 56, 57, 58, 59, 60, 61, 62, 63, 64, 65, 66, 67, 68, 69, 70, 71, 72, 73, 74, 75, 76, 77, 78, 79, 80, 81, 82, 83, 84, 85, 86, 87, 88, 89, 90, 91, 92, 93, 94, 95, 96, 97, 98, 99, 100, 101, 102, 103, 104, 105, 106, 107, 108, 109, 110, 111, 112, 113, 114, 115, 116, 117, 118, 119, 120, 121, 122, 123, 124, 125, 126, 127, 128, 129, 130, 131, 132, 133, 134, 135, 136, 137, 138, 139, 140] (by decide +kernel) (by decide +kernel)) (goodIn_sub (fun _ h => List.mem_cons_of_mem _ (List.mem_append_right _ h)) (by decide +kernel))
set_option maxRecDepth 20000 in
theorem gL_mode_X8_mode : GoodIn wsL_mode (wsV RL 7 RX8 yX8_mode wsX8_mode) := goodIn_app (goodIn_of _ (by decide +kernel)) ggL_mode_X8_mode
set_option maxRecDepth 20000 in
theorem ggL_document_X8_document : GoodIn wsL_document wsX8_document := goodIn_ca (goodIn_r _ [6, 7, 8, 9, 10, 11, 12, 13, 14, 15, 16, 17, 18, 19, 20, 21, 22, 23, 24, 25, 26, 27, 28, 29, 30, 31, 32, 33, 34, 35, 36, 37, 38, 39, 40, 41, 42, 43, 44, 45, 46, 47, 48, 49, 50, 51, 52, 53, 54, 55, 56, 57, 58, 59, 60, 61, 62, 63, 64, 65, 66, 67, 68, 69, 70, 71, 72, 73, 74, 75, 76, 77, 78, 79, 80, 81, 82, 83, 84, 85, 86, 87, 88, 89, 90, 91, 92, 93, 94, 95, 96, 97, 98, 99, 100, 101, 102, 103, 104, 105, 106, 107, 108, 109, 110, 111, 112, 113, 114, 115, 116, 117, 118, 119, 120, 121, 122, 123, 124, 125, 126, 127, 128, 129, 130, 131, 132, 133, 134, 135, 136, 137, 138, 139, 140, 141, 142, 143, 144, 145, 146, 147, 148, 149, 150, 151, 152, 153, 154, 155, 156, 157, 158, 159, 160, 161, 162, 163, 164, 165, 166, 167, 168, 169, 170] (by decide +kernel) (by decide +kernel)) (goodIn_sub (fun _ h => List.mem_cons_of_mem _ (List.mem_append_right _ h)) (by decide +kernel))
set_option maxRecDepth 20000 in
theorem gL_document_X8_document : GoodIn wsL_document (wsV RL 15 RX8 yX8_document wsX8_document) := goodIn_app (goodIn_of _ (by decide +kernel)) ggL_document_X8_document
set_option maxRecDepth 20000 in
theorem ggL_shingle_X8_shingle : GoodIn wsL_shingle wsX8_shingle := goodIn_ca (goodIn_r _ [6, 7, 8, 9, 10, 11, 5, 12, 13, 14, 15, 16, 17, 18, 19, 20, 21, 22, 23, 24, 25, 26, 27, 28, 29, 30, 31, 32, 33, 34, 35, 36, 37, 38, 39, 40, 41, 42, 43, 44, 45, 46, 47, 48, 49, 50, 51, 52, 53, 54, 55, 56, 57, 58, 59, 60, 61, 62, 63, 64, 65, 66, 67, 68, 69, 70, 71, 72] (by decide +kernel) (by decide +kernel)) (goodIn_sub (fun _ h => List.mem_cons_of_mem _ (List.mem_append_right _ h)) (by decide +kernel))
set_option maxRecDepth 20000 in
theorem gL_shingle_X8_shingle : GoodIn wsL_shingle (wsV RL 20 RX8 yX8_shingle wsX8_shingle) := goodIn_app (goodIn_of _ (by decide +kernel)) ggL_shingle_X8_shingle
set_option maxRecDepth 20000 in
theorem ggL_signature_X8_signature : GoodIn wsL_signature wsX8_signature := goodIn_ca (goodIn_r _ [6, 7, 8, 9, 10, 11, 12, 5, 13, 14, 15, 16, 17, 18, 19, 20, 21, 22, 23, 24, 25, 26, 27, 28, 29, 30, 31, 32, 33, 34, 35, 36, 37, 38, 39, 40, 41, 42, 43, 44, 45, 46, 47, 48, 49, 50, 51, 52, 53, 54, 55, 56, 57, 58, 59, 60, 61, 62, 63, 64, 65, 66, 67, 68, 69, 70, 71] (by decide +kernel) (by decide +kernel)) (goodIn_sub (fun _ h => List.mem_cons_of_mem _ (List.mem_append_right _ h)) (by decide +kernel))
set_option maxRecDepth 20000 in
theorem gL_signature_X8_signature : GoodIn wsL_signature (wsV RL 23 RX8 yX8_signature wsX8_signature) := goodIn_app (goodIn_of _ (by decide +kernel)) ggL_signature_X8_signature
set_option maxRecDepth 20000 in
theorem ggL_both_X8_both : GoodIn wsL_both wsX8_both := goodIn_ca (goodIn_r _ [6, 7, 8, 9, 10, 11, 12, 5, 13, 14, 15, 16, 17, 18, 19, 20, 21, 22, 23, 24, 25, 26, 27, 28, 29, 30, 31, 32, 33, 34, 35, 36, 37, 38, 39, 40, 41, 42, 43, 44, 45, 46, 47, 48, 49, 50, 51, 52, 53, 54, 55, 56, 57, 58, 59, 60, 61, 62, 63, 64, 65, 66, 67, 68, 69, 70, 71, 72, 73, 74, 75, 76, 77, 78, 79, 80, 81, 82, 83, 84, 85, 86, 87, 88, 89, 90, 91, 92, 93, 94, 95, 96, 97, 98, 99, 100, 101, 102, 103, 104, 105, 106, 107, 108, 109, 110, 111, 112, 113, 114, 115] (by decide +kernel) (by decide +kernel)) (goodIn_sub (fun _ h => List.mem_cons_of_mem _ (List.mem_append_right _ h)) (by decide +kernel))
set_option maxRecDepth 20000 in
theorem gL_both_X8_both : GoodIn wsL_both (wsV RL 26 RX8 yX8_both wsX8_both) := goodIn_app (goodIn_of _ (by decide +kernel)) ggL_both_X8_both
set_option maxRecDepth 20000 in
theorem ggL_nearest_X8_nearest : GoodIn wsL_nearest wsX8_nearest := goodIn_ca (goodIn_r _ [6, 7, 8, 9, 10, 11, 12, 13, 5, 14, 15, 16, 17, 18, 19, 20, 21, 22, 23, 24, 25, 26, 27, 28, 29, 30, 31, 32, 33, 34, 35, 36, 37, 38, 39, 40, 41, 42, 43, 44, 45, 46, 47, 48, 49, 50, 51, 52, 53, 54, 55, 56, 57, 58, 59, 60, 61, 62, 63, 64, 65, 66, 67, 68, 69, 70, 71, 72, 73, 74, 75, 76, 77, 78, 79, 80, 81, 82, 83, 84, 85, 86, 87, 88, 89, 90, 91, 92, 93, 94, 95, 96, 97, 98, 99, 100, 101, 102, 103, 104, 105, 106, 107, 108, 109, 110, 111, 112, 113, 114, 115, 116, 117, 118, 119, 120, 121, 122, 123, 124, 125, 126, 127, 128, 129, 130, 131, 132, 133, 134, 135, 136, 137, 138, 139, 140, 141, 142, 143, 144, 145, 146, 147, 148, 149, 150, 151, 152, 153, 154, 155, 156, 157] (by decide +kernel) (by decide +kernel)) (goodIn_sub (fun _ h => List.mem_cons_of_mem _ (List.mem_append_right _ h)) (by decide +kernel))
set_option maxRecDepth 20000 in
theorem gL_nearest_X8_nearest : GoodIn wsL_nearest (wsV RL 30 RX8 yX8_nearest wsX8_nearest) := goodIn_app (goodIn_of _ (by decide +kernel)) ggL_nearest_X8_nearest
