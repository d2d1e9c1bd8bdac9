set_option maxRecDepth 20000 in
theorem ggX9_feed_X9_four : GoodIn wsX9_feed wsX9_four := goodIn_r _ [7, 8, 2, 9, 10, 11, 12, 13, 14, 15, 16, 17, 18, 19, 20, 21, 22, 23, 24, 25, 26, 27, 28, 29, 30, 31, 32, 33, 34, 35, 36, 37, 38, 39, 40] (by decide +kernel) (by decide +kernel)
set_option maxRecDepth 20000 in
theorem gX9_feed_X9_four : GoodIn wsX9_feed (wsV RX9 10 RX9 yX9_four wsX9_four) := goodIn_app (goodIn_of _ (by decide +kernel)) ggX9_feed_X9_four
set_option maxRecDepth 20000 in
theorem ggX9_comes_X9_numberOf : GoodIn wsX9_comes wsX9_numberOf := goodIn_r _ [14, 1, 5, 6, 4, 7, 15, 16, 17, 18, 19, 20, 21, 22, 23, 24, 25, 26, 27, 28, 29, 30, 31, 32, 33, 34, 35, 36, 37, 38, 39, 40, 41, 42, 43, 44, 45, 46] (by decide +kernel) (by decide +kernel)
set_option maxRecDepth 20000 in
theorem gX9_comes_X9_numberOf : GoodIn wsX9_comes (wsV RX9 37 RX9 yX9_numberOf wsX9_numberOf) := goodIn_app (goodIn_of _ (by decide +kernel)) ggX9_comes_X9_numberOf
set_option maxRecDepth 20000 in
theorem ggX9_all_X9_comes : GoodIn wsX9_all wsX9_comes := goodIn_r _ [10, 11, 12, 13, 14, 15, 16, 5, 1, 17, 18, 19, 20, 9, 21, 22, 23, 24, 25, 26, 27, 28, 29, 30, 31, 32, 33, 34, 35, 36, 37, 38, 39, 40, 41, 42, 43, 44, 45, 46, 47, 48, 49, 50, 51, 52, 53] (by decide +kernel) (by decide +kernel)
set_option maxRecDepth 20000 in
theorem gX9_all_X9_comes : GoodIn wsX9_all (wsV RX9 57 RX9 yX9_comes wsX9_comes) := goodIn_app (goodIn_of _ (by decide +kernel)) ggX9_all_X9_comes
set_option maxRecDepth 20000 in
theorem ggX9_add_X9_makePlain : GoodIn wsX9_add wsX9_makePlain := goodIn_r _ [17, 18, 2, 19, 20, 39, 40, 41, 42, 43, 44, 45, 46, 47, 48, 49, 50, 51, 52, 53, 54, 55, 56, 57, 58, 59, 60, 61, 62, 63, 64, 65, 66, 67, 68, 69, 70] (by decide +kernel) (by decide +kernel)
set_option maxRecDepth 20000 in
theorem gX9_add_X9_makePlain : GoodIn wsX9_add (wsV RX9 61 RX9 yX9_makePlain wsX9_makePlain) := goodIn_app (goodIn_of _ (by decide +kernel)) ggX9_add_X9_makePlain
set_option maxRecDepth 20000 in
theorem ggX9_add_X9_all : GoodIn wsX9_add wsX9_all := goodIn_r _ [24, 7, 25, 26, 18, 20, 27, 28, 29, 16, 30, 5, 6, 31, 32, 33, 34, 9, 35, 36, 37, 38, 39, 40, 41, 42, 43, 44, 45, 46, 47, 48, 49, 50, 51, 52, 53, 54, 55, 56, 57, 58, 59, 60, 61, 62, 63, 64, 65, 66, 67, 68, 69, 70] (by decide +kernel) (by decide +kernel)
set_option maxRecDepth 20000 in
theorem gX9_add_X9_all : GoodIn wsX9_add (wsV RX9 71 RX9 yX9_all wsX9_all) := goodIn_app (goodIn_of _ (by decide +kernel)) ggX9_add_X9_all
set_option maxRecDepth 20000 in
theorem ggX9_remove_X9_slot : GoodIn wsX9_remove wsX9_slot := goodIn_r _ [11, 2, 3, 12, 13, 14, 15, 16, 17, 18, 19, 20, 21, 22, 23, 24, 25, 26, 27, 28, 29, 30, 31, 32, 33, 34, 35, 36, 37, 38, 39, 40, 41, 42, 43] (by decide +kernel) (by decide +kernel)
set_option maxRecDepth 20000 in
theorem gX9_remove_X9_slot : GoodIn wsX9_remove (wsV RX9 88 RX9 yX9_slot wsX9_slot) := goodIn_app (goodIn_of _ (by decide +kernel)) ggX9_remove_X9_slot
set_option maxRecDepth 20000 in
theorem ggX9_mode_X9_throwsIf : GoodIn wsX9_mode wsX9_throwsIf := goodIn_r _ [12, 13, 14, 15, 16, 17, 18, 19, 20, 21, 22, 23, 24, 25, 26, 27, 28, 29, 30, 31, 32, 33, 34, 35, 36, 37, 38, 39, 40, 41, 42, 43, 44, 45] (by decide +kernel) (by decide +kernel)
set_option maxRecDepth 20000 in
theorem gX9_mode_X9_throwsIf : GoodIn wsX9_mode (wsV RX9 92 RX9 yX9_throwsIf wsX9_throwsIf) := goodIn_app (goodIn_of _ (by decide +kernel)) ggX9_mode_X9_throwsIf
set_option maxRecDepth 20000 in
theorem ggX9_tell_X9_isNone : GoodIn wsX9_tell wsX9_isNone := goodIn_r _ [13] (by decide +kernel) (by decide +kernel)
set_option maxRecDepth 20000 in
theorem gX9_tell_X9_isNone : GoodIn wsX9_tell (va_wsS RX9 136 yX9_isNone wsX9_isNone) := goodIn_app (goodIn_of _ (by decide +kernel)) ggX9_tell_X9_isNone
set_option maxRecDepth 20000 in
theorem ggX9_exchange_X9_isNone : GoodIn wsX9_exchange wsX9_isNone := goodIn_r _ [11] (by decide +kernel) (by decide +kernel)
set_option maxRecDepth 20000 in
theorem gX9_exchange_X9_isNone : GoodIn wsX9_exchange (va_wsS RX9 136 yX9_isNone wsX9_isNone) := goodIn_app (goodIn_of _ (by decide +kernel)) ggX9_exchange_X9_isNone
set_option maxRecDepth 20000 in
theorem ggX9_image_X9_isNone : GoodIn wsX9_image wsX9_isNone := goodIn_r _ [6] (by decide +kernel) (by decide +kernel)
set_option maxRecDepth 20000 in
theorem gX9_image_X9_isNone : GoodIn wsX9_image (va_wsS RX9 136 yX9_isNone wsX9_isNone) := goodIn_app (goodIn_of _ (by decide +kernel)) ggX9_image_X9_isNone
set_option maxRecDepth 20000 in
theorem ggX9_image_X9_imageOf : GoodIn wsX9_image wsX9_imageOf := goodIn_r _ [10, 11, 12, 13, 14, 15, 16, 17, 18, 19, 20, 21, 22, 23, 24, 25, 26, 27, 28, 29, 30, 31, 32, 33, 34, 35, 36, 37, 38, 39, 40, 41, 42, 43, 44, 45, 46, 47, 48, 49] (by decide +kernel) (by decide +kernel)
set_option maxRecDepth 20000 in
theorem gX9_image_X9_imageOf : GoodIn wsX9_image (wsV RX9 146 RX9 yX9_imageOf wsX9_imageOf) := goodIn_app (goodIn_of _ (by decide +kernel)) ggX9_image_X9_imageOf
set_option maxRecDepth 20000 in
theorem ggX9_sign_X9_imageOf : GoodIn wsX9_sign wsX9_imageOf := goodIn_r _ [16, 2, 3, 17, 18, 8, 9, 10, 19, 20, 21, 22, 23, 24, 25, 26, 27, 28, 29, 30, 31, 32, 33, 34, 35, 36, 37, 38, 39, 40, 41, 42, 43, 44, 45, 46, 47, 48, 49, 50] (by decide +kernel) (by decide +kernel)
set_option maxRecDepth 20000 in
theorem gX9_sign_X9_imageOf : GoodIn wsX9_sign (wsV RX9 146 RX9 yX9_imageOf wsX9_imageOf) := goodIn_app (goodIn_of _ (by decide +kernel)) ggX9_sign_X9_imageOf
set_option maxRecDepth 20000 in
theorem ggX9_band_X9_sign : GoodIn wsX9_band wsX9_sign := goodIn_r _ [9, 10, 11, 12, 13, 14, 1, 15, 16, 17, 18, 4, 19, 20, 21, 8, 22, 23, 24, 25, 26, 27, 28, 29, 30, 31, 32, 33, 34, 35, 36, 37, 38, 39, 40, 41, 42, 43, 44, 45, 46, 47, 48, 49, 50, 51, 52, 53, 54, 55, 56] (by decide +kernel) (by decide +kernel)
set_option maxRecDepth 20000 in
theorem gX9_band_X9_sign : GoodIn wsX9_band (wsV RX9 150 RX9 yX9_sign wsX9_sign) := goodIn_app (goodIn_of _ (by decide +kernel)) ggX9_band_X9_sign
set_option maxRecDepth 20000 in
theorem ggX9_areTwins_X9_band : GoodIn wsX9_areTwins wsX9_band := goodIn_r _ [8, 2, 9, 10, 11, 12, 13, 14, 7, 15, 16, 17, 18, 19, 20, 21, 22, 23, 24, 25, 26, 27, 28, 29, 30, 35, 36, 37, 38, 39, 40, 41, 42, 43, 44, 45, 46, 47, 48, 49, 50, 51, 52, 53, 54, 55, 56, 57, 58, 59, 60, 61, 62, 63, 64, 65, 66] (by decide +kernel) (by decide +kernel)
set_option maxRecDepth 20000 in
theorem gX9_areTwins_X9_band : GoodIn wsX9_areTwins (wsV RX9 153 RX9 yX9_band wsX9_band) := goodIn_app (goodIn_of _ (by decide +kernel)) ggX9_areTwins_X9_band
set_option maxRecDepth 20000 in
theorem ggX9_areTwins_X9_common : GoodIn wsX9_areTwins wsX9_common := goodIn_r _ [34, 2, 21, 35, 36, 37, 38, 39, 40, 41, 42, 43, 44, 45, 46, 47, 48, 49, 50, 51, 52, 53, 54, 55, 56, 57, 58, 59, 60, 61, 62, 63, 64, 65, 66] (by decide +kernel) (by decide +kernel)
set_option maxRecDepth 20000 in
theorem gX9_areTwins_X9_common : GoodIn wsX9_areTwins (wsV RX9 156 RX9 yX9_common wsX9_common) := goodIn_app (goodIn_of _ (by decide +kernel)) ggX9_areTwins_X9_common
set_option maxRecDepth 20000 in
theorem ggX9_families_X9_areTwins : GoodIn wsX9_families wsX9_areTwins := goodIn_r _ [7, 8, 9, 10, 11, 12, 13, 6, 14, 15, 16, 17, 18, 19, 20, 21, 22, 23, 24, 1, 25, 26, 27, 28, 29, 30, 31, 32, 33, 34, 35, 36, 37, 38, 39, 40, 41, 42, 43, 44, 45, 46, 47, 48, 49, 50, 51, 52, 53, 54, 55, 56, 57, 58, 59, 60, 61, 62, 63, 64, 65, 66, 67, 68, 69, 70, 71] (by decide +kernel) (by decide +kernel)
set_option maxRecDepth 20000 in
theorem gX9_families_X9_areTwins : GoodIn wsX9_families (wsV RX9 159 RX9 yX9_areTwins wsX9_areTwins) := goodIn_app (goodIn_of _ (by decide +kernel)) ggX9_families_X9_areTwins
set_option maxRecDepth 20000 in
theorem ggX9_document_X9_slot : GoodIn wsX9_document wsX9_slot := goodIn_r _ [9, 2, 3, 58, 59, 60, 61, 62, 63, 64, 65, 66, 67, 68, 69, 70, 71, 72, 73, 74, 75, 76, 77, 78, 79, 80, 81, 82, 83, 84, 85, 86, 87, 88, 89] (by decide +kernel) (by decide +kernel)
set_option maxRecDepth 20000 in
theorem gX9_document_X9_slot : GoodIn wsX9_document (wsV RX9 88 RX9 yX9_slot wsX9_slot) := goodIn_app (goodIn_of _ (by decide +kernel)) ggX9_document_X9_slot
set_option maxRecDepth 20000 in
theorem ggX9_document_X9_throwsIf : GoodIn wsX9_document wsX9_throwsIf := goodIn_r _ [13, 14, 58, 59, 60, 61, 62, 63, 64, 65, 66, 67, 68, 69, 70, 71, 72, 73, 74, 75, 76, 77, 78, 79, 80, 81, 82, 83, 84, 85, 86, 87, 88, 89] (by decide +kernel) (by decide +kernel)
set_option maxRecDepth 20000 in
theorem gX9_document_X9_throwsIf : GoodIn wsX9_document (wsV RX9 92 RX9 yX9_throwsIf wsX9_throwsIf) := goodIn_app (goodIn_of _ (by decide +kernel)) ggX9_document_X9_throwsIf
set_option maxRecDepth 20000 in
theorem ggX9_document_X9_areTwins : GoodIn wsX9_document wsX9_areTwins := goodIn_r _ [18, 19, 1, 20, 21, 22, 23, 8, 24, 25, 26, 27, 28, 29, 30, 31, 32, 33, 34, 2, 35, 36, 37, 38, 39, 40, 41, 42, 43, 44, 45, 46, 47, 48, 49, 58, 59, 60, 61, 62, 63, 64, 65, 66, 67, 68, 69, 70, 71, 72, 73, 74, 75, 76, 77, 78, 79, 80, 81, 82, 83, 84, 85, 86, 87, 88, 89] (by decide +kernel) (by decide +kernel)
set_option maxRecDepth 20000 in
theorem gX9_document_X9_areTwins : GoodIn wsX9_document (wsV RX9 159 RX9 yX9_areTwins wsX9_areTwins) := goodIn_app (goodIn_of _ (by decide +kernel)) ggX9_document_X9_areTwins
set_option maxRecDepth 20000 in
theorem ggX9_document_X9_families : GoodIn wsX9_document wsX9_families := goodIn_r _ [53, 2, 4, 15, 16, 17, 8, 18, 19, 1, 20, 21, 22, 23, 24, 25, 26, 27, 28, 29, 30, 31, 32, 33, 34, 35, 36, 37, 38, 39, 40, 41, 42, 43, 44, 45, 46, 47, 48, 49, 58, 59, 60, 61, 62, 63, 64, 65, 66, 67, 68, 69, 70, 71, 72, 73, 74, 75, 76, 77, 78, 79, 80, 81, 82, 83, 84, 85, 86, 87, 88, 89] (by decide +kernel) (by decide +kernel)
set_option maxRecDepth 20000 in
theorem gX9_document_X9_families : GoodIn wsX9_document (wsV RX9 162 RX9 yX9_families wsX9_families) := goodIn_app (goodIn_of _ (by decide +kernel)) ggX9_document_X9_families
set_option maxRecDepth 20000 in
theorem ggX9_document_X9_inFamily : GoodIn wsX9_document wsX9_inFamily := goodIn_r _ [57, 2, 4, 58, 59, 60, 61, 62, 63, 64, 65, 66, 67, 68, 69, 70, 71, 72, 73, 74, 75, 76, 77, 78, 79, 80, 81, 82, 83, 84, 85, 86, 87, 88, 89] (by decide +kernel) (by decide +kernel)
set_option maxRecDepth 20000 in
theorem gX9_document_X9_inFamily : GoodIn wsX9_document (wsV RX9 165 RX9 yX9_inFamily wsX9_inFamily) := goodIn_app (goodIn_of _ (by decide +kernel)) ggX9_document_X9_inFamily
set_option maxRecDepth 20000 in
theorem ggX9_shingle_X9_slot : GoodIn wsX9_shingle wsX9_slot := goodIn_r _ [7, 8, 9, 15, 16, 17, 18, 19, 20, 21, 22, 23, 24, 25, 26, 27, 28, 29, 30, 31, 32, 33, 34, 35, 36, 37, 38, 39, 40, 41, 42, 43, 44, 45, 46] (by decide +kernel) (by decide +kernel)
set_option maxRecDepth 20000 in
theorem gX9_shingle_X9_slot : GoodIn wsX9_shingle (wsV RX9 88 RX9 yX9_slot wsX9_slot) := goodIn_app (goodIn_of _ (by decide +kernel)) ggX9_shingle_X9_slot
set_option maxRecDepth 20000 in
theorem ggX9_shingle_X9_throwsIf : GoodIn wsX9_shingle wsX9_throwsIf := goodIn_r _ [13, 14, 15, 16, 17, 18, 19, 20, 21, 22, 23, 24, 25, 26, 27, 28, 29, 30, 31, 32, 33, 34, 35, 36, 37, 38, 39, 40, 41, 42, 43, 44, 45, 46] (by decide +kernel) (by decide +kernel)
set_option maxRecDepth 20000 in
theorem gX9_shingle_X9_throwsIf : GoodIn wsX9_shingle (wsV RX9 92 RX9 yX9_throwsIf wsX9_throwsIf) := goodIn_app (goodIn_of _ (by decide +kernel)) ggX9_shingle_X9_throwsIf
set_option maxRecDepth 20000 in
theorem ggX9_signature_X9_slot : GoodIn wsX9_signature wsX9_slot := goodIn_r _ [6, 7, 8, 36, 37, 38, 39, 40, 41, 42, 43, 44, 45, 46, 47, 48, 49, 50, 51, 52, 53, 54, 55, 56, 57, 58, 59, 60, 61, 62, 63, 64, 65, 66, 67] (by decide +kernel) (by decide +kernel)
set_option maxRecDepth 20000 in
theorem gX9_signature_X9_slot : GoodIn wsX9_signature (wsV RX9 88 RX9 yX9_slot wsX9_slot) := goodIn_app (goodIn_of _ (by decide +kernel)) ggX9_signature_X9_slot
set_option maxRecDepth 20000 in
theorem ggX9_signature_X9_isNone : GoodIn wsX9_signature wsX9_isNone := goodIn_r _ [11] (by decide +kernel) (by decide +kernel)
set_option maxRecDepth 20000 in
theorem gX9_signature_X9_isNone : GoodIn wsX9_signature (va_wsS RX9 136 yX9_isNone wsX9_isNone) := goodIn_app (goodIn_of _ (by decide +kernel)) ggX9_signature_X9_isNone
set_option maxRecDepth 20000 in
theorem ggX9_signature_X9_throwsIf : GoodIn wsX9_signature wsX9_throwsIf := goodIn_r _ [15, 16, 36, 37, 38, 39, 40, 41, 42, 43, 44, 45, 46, 47, 48, 49, 50, 51, 52, 53, 54, 55, 56, 57, 58, 59, 60, 61, 62, 63, 64, 65, 66, 67] (by decide +kernel) (by decide +kernel)
set_option maxRecDepth 20000 in
theorem gX9_signature_X9_throwsIf : GoodIn wsX9_signature (wsV RX9 92 RX9 yX9_throwsIf wsX9_throwsIf) := goodIn_app (goodIn_of _ (by decide +kernel)) ggX9_signature_X9_throwsIf
set_option maxRecDepth 20000 in
theorem ggX9_signature_X9_sign : GoodIn wsX9_signature wsX9_sign := goodIn_r _ [20, 21, 22, 23, 7, 24, 25, 26, 27, 28, 29, 1, 30, 31, 32, 5, 33, 34, 35, 36, 37, 38, 39, 40, 41, 42, 43, 44, 45, 46, 47, 48, 49, 50, 51, 52, 53, 54, 55, 56, 57, 58, 59, 60, 61, 62, 63, 64, 65, 66, 67] (by decide +kernel) (by decide +kernel)
set_option maxRecDepth 20000 in
theorem gX9_signature_X9_sign : GoodIn wsX9_signature (wsV RX9 150 RX9 yX9_sign wsX9_sign) := goodIn_app (goodIn_of _ (by decide +kernel)) ggX9_signature_X9_sign
set_option maxRecDepth 20000 in
theorem ggX9_both_X9_slot : GoodIn wsX9_both wsX9_slot := goodIn_r _ [9, 10, 11, 49, 50, 51, 52, 53, 54, 55, 56, 57, 58, 59, 60, 61, 62, 63, 64, 65, 66, 67, 68, 69, 70, 71, 72, 73, 74, 75, 76, 77, 78, 79, 80] (by decide +kernel) (by decide +kernel)
set_option maxRecDepth 20000 in
theorem gX9_both_X9_slot : GoodIn wsX9_both (wsV RX9 88 RX9 yX9_slot wsX9_slot) := goodIn_app (goodIn_of _ (by decide +kernel)) ggX9_both_X9_slot
set_option maxRecDepth 20000 in
theorem ggX9_both_X9_throwsIf : GoodIn wsX9_both wsX9_throwsIf := goodIn_r _ [15, 16, 49, 50, 51, 52, 53, 54, 55, 56, 57, 58, 59, 60, 61, 62, 63, 64, 65, 66, 67, 68, 69, 70, 71, 72, 73, 74, 75, 76, 77, 78, 79, 80] (by decide +kernel) (by decide +kernel)
set_option maxRecDepth 20000 in
theorem gX9_both_X9_throwsIf : GoodIn wsX9_both (wsV RX9 92 RX9 yX9_throwsIf wsX9_throwsIf) := goodIn_app (goodIn_of _ (by decide +kernel)) ggX9_both_X9_throwsIf
set_option maxRecDepth 20000 in
theorem ggX9_both_X9_common : GoodIn wsX9_both wsX9_common := goodIn_r _ [20, 1, 21, 49, 50, 51, 52, 53, 54, 55, 56, 57, 58, 59, 60, 61, 62, 63, 64, 65, 66, 67, 68, 69, 70, 71, 72, 73, 74, 75, 76, 77, 78, 79, 80] (by decide +kernel) (by decide +kernel)
set_option maxRecDepth 20000 in
theorem gX9_both_X9_common : GoodIn wsX9_both (wsV RX9 156 RX9 yX9_common wsX9_common) := goodIn_app (goodIn_of _ (by decide +kernel)) ggX9_both_X9_common
set_option maxRecDepth 20000 in
theorem ggX9_both_X9_band : GoodIn wsX9_both wsX9_band := goodIn_r _ [25, 1, 2, 3, 4, 26, 27, 28, 8, 29, 30, 31, 32, 10, 33, 21, 34, 35, 36, 37, 38, 39, 40, 41, 42, 49, 50, 51, 52, 53, 54, 55, 56, 57, 58, 59, 60, 61, 62, 63, 64, 65, 66, 67, 68, 69, 70, 71, 72, 73, 74, 75, 76, 77, 78, 79, 80] (by decide +kernel) (by decide +kernel)
set_option maxRecDepth 20000 in
theorem gX9_both_X9_band : GoodIn wsX9_both (wsV RX9 153 RX9 yX9_band wsX9_band) := goodIn_app (goodIn_of _ (by decide +kernel)) ggX9_both_X9_band
set_option maxRecDepth 20000 in
theorem ggX9_both_X9_areTwins : GoodIn wsX9_both wsX9_areTwins := goodIn_r _ [46, 47, 1, 48, 22, 23, 24, 8, 25, 2, 3, 4, 26, 27, 28, 29, 30, 31, 32, 10, 33, 21, 34, 35, 36, 37, 38, 39, 40, 41, 42, 17, 18, 19, 20, 49, 50, 51, 52, 53, 54, 55, 56, 57, 58, 59, 60, 61, 62, 63, 64, 65, 66, 67, 68, 69, 70, 71, 72, 73, 74, 75, 76, 77, 78, 79, 80] (by decide +kernel) (by decide +kernel)
set_option maxRecDepth 20000 in
theorem gX9_both_X9_areTwins : GoodIn wsX9_both (wsV RX9 159 RX9 yX9_areTwins wsX9_areTwins) := goodIn_app (goodIn_of _ (by decide +kernel)) ggX9_both_X9_areTwins
set_option maxRecDepth 20000 in
theorem ggX9_both_X9_sign : GoodIn wsX9_both wsX9_sign := goodIn_r _ [29, 30, 31, 32, 10, 33, 1, 21, 34, 35, 36, 4, 37, 38, 39, 8, 40, 41, 42, 49, 50, 51, 52, 53, 54, 55, 56, 57, 58, 59, 60, 61, 62, 63, 64, 65, 66, 67, 68, 69, 70, 71, 72, 73, 74, 75, 76, 77, 78, 79, 80] (by decide +kernel) (by decide +kernel)
set_option maxRecDepth 20000 in
theorem gX9_both_X9_sign : GoodIn wsX9_both (wsV RX9 150 RX9 yX9_sign wsX9_sign) := goodIn_app (goodIn_of _ (by decide +kernel)) ggX9_both_X9_sign
set_option maxRecDepth 20000 in
theorem ggX9_isPair_X9_band : GoodIn wsX9_isPair wsX9_band := goodIn_r _ [5, 6, 7, 8, 9, 10, 11, 12, 4, 13, 14, 15, 16, 17, 18, 19, 20, 21, 22, 23, 24, 25, 26, 27, 28, 39, 40, 41, 42, 43, 44, 45, 46, 47, 48, 49, 50, 51, 52, 53, 54, 55, 56, 57, 58, 59, 60, 61, 62, 63, 64, 65, 66, 67, 68, 69, 70] (by decide +kernel) (by decide +kernel)
set_option maxRecDepth 20000 in
theorem gX9_isPair_X9_band : GoodIn wsX9_isPair (wsV RX9 153 RX9 yX9_band wsX9_band) := goodIn_app (goodIn_of _ (by decide +kernel)) ggX9_isPair_X9_band
set_option maxRecDepth 20000 in
theorem ggX9_isPair_X9_areTwins : GoodIn wsX9_isPair wsX9_areTwins := goodIn_r _ [32, 33, 6, 34, 1, 2, 3, 4, 5, 7, 8, 9, 10, 11, 12, 13, 14, 15, 16, 17, 18, 19, 20, 21, 22, 23, 24, 25, 26, 27, 28, 35, 36, 37, 38, 39, 40, 41, 42, 43, 44, 45, 46, 47, 48, 49, 50, 51, 52, 53, 54, 55, 56, 57, 58, 59, 60, 61, 62, 63, 64, 65, 66, 67, 68, 69, 70] (by decide +kernel) (by decide +kernel)
set_option maxRecDepth 20000 in
theorem gX9_isPair_X9_areTwins : GoodIn wsX9_isPair (wsV RX9 159 RX9 yX9_areTwins wsX9_areTwins) := goodIn_app (goodIn_of _ (by decide +kernel)) ggX9_isPair_X9_areTwins
set_option maxRecDepth 20000 in
theorem ggX9_isTold_X9_inFamily : GoodIn wsX9_isTold wsX9_inFamily := goodIn_r _ [6, 7, 1, 8, 9, 10, 11, 12, 13, 14, 15, 16, 17, 18, 19, 20, 21, 22, 23, 24, 25, 26, 27, 28, 29, 30, 31, 32, 33, 34, 35, 36, 37, 38, 39] (by decide +kernel) (by decide +kernel)
set_option maxRecDepth 20000 in
theorem gX9_isTold_X9_inFamily : GoodIn wsX9_isTold (wsV RX9 165 RX9 yX9_inFamily wsX9_inFamily) := goodIn_app (goodIn_of _ (by decide +kernel)) ggX9_isTold_X9_inFamily
set_option maxRecDepth 20000 in
theorem ggX9_pairs_X9_families : GoodIn wsX9_pairs wsX9_families := goodIn_r _ [7, 2, 8, 9, 10, 11, 6, 12, 13, 14, 15, 16, 17, 18, 19, 20, 21, 22, 23, 24, 25, 26, 27, 28, 29, 30, 31, 32, 33, 34, 35, 36, 37, 38, 39, 40, 41, 42, 43, 44, 57, 58, 59, 60, 61, 62, 63, 64, 65, 66, 67, 68, 69, 70, 71, 72, 73, 74, 75, 76, 77, 78, 79, 80, 81, 82, 83, 84, 85, 86, 87, 88] (by decide +kernel) (by decide +kernel)
set_option maxRecDepth 20000 in
theorem gX9_pairs_X9_families : GoodIn wsX9_pairs (wsV RX9 162 RX9 yX9_families wsX9_families) := goodIn_app (goodIn_of _ (by decide +kernel)) ggX9_pairs_X9_families
set_option maxRecDepth 20000 in
theorem ggX9_pairs_X9_isTold : GoodIn wsX9_pairs wsX9_isTold := goodIn_r _ [48, 8, 49, 50, 51, 6, 52, 2, 57, 58, 59, 60, 61, 62, 63, 64, 65, 66, 67, 68, 69, 70, 71, 72, 73, 74, 75, 76, 77, 78, 79, 80, 81, 82, 83, 84, 85, 86, 87, 88] (by decide +kernel) (by decide +kernel)
set_option maxRecDepth 20000 in
theorem gX9_pairs_X9_isTold : GoodIn wsX9_pairs (wsV RX9 168 RX9 yX9_isTold wsX9_isTold) := goodIn_app (goodIn_of _ (by decide +kernel)) ggX9_pairs_X9_isTold
set_option maxRecDepth 20000 in
theorem ggX9_pairs_X9_isPair : GoodIn wsX9_pairs wsX9_isPair := goodIn_r _ [56, 16, 17, 18, 6, 19, 14, 20, 21, 22, 23, 24, 25, 26, 27, 28, 29, 2, 30, 31, 32, 33, 34, 35, 36, 37, 38, 39, 40, 9, 10, 11, 12, 13, 15, 41, 42, 43, 44, 57, 58, 59, 60, 61, 62, 63, 64, 65, 66, 67, 68, 69, 70, 71, 72, 73, 74, 75, 76, 77, 78, 79, 80, 81, 82, 83, 84, 85, 86, 87, 88] (by decide +kernel) (by decide +kernel)
set_option maxRecDepth 20000 in
theorem gX9_pairs_X9_isPair : GoodIn wsX9_pairs (wsV RX9 171 RX9 yX9_isPair wsX9_isPair) := goodIn_app (goodIn_of _ (by decide +kernel)) ggX9_pairs_X9_isPair
set_option maxRecDepth 20000 in
theorem ggX9_pair_X9_families : GoodIn wsX9_pair wsX9_families := goodIn_r _ [8, 2, 9, 10, 11, 12, 7, 13, 14, 15, 16, 17, 18, 19, 20, 21, 22, 23, 24, 25, 26, 27, 28, 29, 30, 31, 32, 33, 34, 35, 36, 37, 38, 39, 40, 41, 42, 43, 44, 45, 58, 59, 60, 61, 62, 63, 64, 65, 66, 67, 68, 69, 70, 71, 72, 73, 74, 75, 76, 77, 78, 79, 80, 81, 82, 83, 84, 85, 86, 87, 88, 89] (by decide +kernel) (by decide +kernel)
set_option maxRecDepth 20000 in
theorem gX9_pair_X9_families : GoodIn wsX9_pair (wsV RX9 162 RX9 yX9_families wsX9_families) := goodIn_app (goodIn_of _ (by decide +kernel)) ggX9_pair_X9_families
set_option maxRecDepth 20000 in
theorem ggX9_pair_X9_isTold : GoodIn wsX9_pair wsX9_isTold := goodIn_r _ [49, 9, 50, 51, 52, 7, 53, 2, 58, 59, 60, 61, 62, 63, 64, 65, 66, 67, 68, 69, 70, 71, 72, 73, 74, 75, 76, 77, 78, 79, 80, 81, 82, 83, 84, 85, 86, 87, 88, 89] (by decide +kernel) (by decide +kernel)
set_option maxRecDepth 20000 in
theorem gX9_pair_X9_isTold : GoodIn wsX9_pair (wsV RX9 168 RX9 yX9_isTold wsX9_isTold) := goodIn_app (goodIn_of _ (by decide +kernel)) ggX9_pair_X9_isTold
set_option maxRecDepth 20000 in
theorem ggX9_pair_X9_isPair : GoodIn wsX9_pair wsX9_isPair := goodIn_r _ [57, 17, 18, 19, 7, 20, 15, 21, 22, 23, 24, 25, 26, 27, 28, 29, 30, 2, 31, 32, 33, 34, 35, 36, 37, 38, 39, 40, 41, 10, 11, 12, 13, 14, 16, 42, 43, 44, 45, 58, 59, 60, 61, 62, 63, 64, 65, 66, 67, 68, 69, 70, 71, 72, 73, 74, 75, 76, 77, 78, 79, 80, 81, 82, 83, 84, 85, 86, 87, 88, 89] (by decide +kernel) (by decide +kernel)
set_option maxRecDepth 20000 in
theorem gX9_pair_X9_isPair : GoodIn wsX9_pair (wsV RX9 171 RX9 yX9_isPair wsX9_isPair) := goodIn_app (goodIn_of _ (by decide +kernel)) ggX9_pair_X9_isPair
set_option maxRecDepth 20000 in
theorem ggX9_isNearer_X9_common : GoodIn wsX9_isNearer wsX9_common := goodIn_r _ [6, 1, 7, 8, 9, 10, 11, 12, 13, 14, 15, 16, 17, 18, 19, 20, 21, 22, 23, 24, 25, 26, 27, 28, 29, 30, 31, 32, 33, 34, 35, 36, 37, 38, 39] (by decide +kernel) (by decide +kernel)
set_option maxRecDepth 20000 in
theorem gX9_isNearer_X9_common : GoodIn wsX9_isNearer (wsV RX9 156 RX9 yX9_common wsX9_common) := goodIn_app (goodIn_of _ (by decide +kernel)) ggX9_isNearer_X9_common
set_option maxRecDepth 20000 in
theorem ggX9_nearest_X9_slot : GoodIn wsX9_nearest wsX9_slot := goodIn_r _ [7, 1, 2, 23, 24, 25, 26, 27, 28, 29, 30, 31, 32, 33, 34, 35, 36, 37, 38, 39, 40, 41, 42, 43, 44, 45, 46, 47, 48, 49, 50, 51, 52, 53, 54] (by decide +kernel) (by decide +kernel)
set_option maxRecDepth 20000 in
theorem gX9_nearest_X9_slot : GoodIn wsX9_nearest (wsV RX9 88 RX9 yX9_slot wsX9_slot) := goodIn_app (goodIn_of _ (by decide +kernel)) ggX9_nearest_X9_slot
set_option maxRecDepth 20000 in
theorem ggX9_nearest_X9_throwsIf : GoodIn wsX9_nearest wsX9_throwsIf := goodIn_r _ [11, 12, 23, 24, 25, 26, 27, 28, 29, 30, 31, 32, 33, 34, 35, 36, 37, 38, 39, 40, 41, 42, 43, 44, 45, 46, 47, 48, 49, 50, 51, 52, 53, 54] (by decide +kernel) (by decide +kernel)
set_option maxRecDepth 20000 in
theorem gX9_nearest_X9_throwsIf : GoodIn wsX9_nearest (wsV RX9 92 RX9 yX9_throwsIf wsX9_throwsIf) := goodIn_app (goodIn_of _ (by decide +kernel)) ggX9_nearest_X9_throwsIf
set_option maxRecDepth 20000 in
theorem ggX9_nearest_X9_isNearer : GoodIn wsX9_nearest wsX9_isNearer := goodIn_r _ [16, 17, 18, 19, 20, 6, 21, 22, 23, 24, 25, 26, 27, 28, 29, 30, 31, 32, 33, 34, 35, 36, 37, 38, 39, 40, 41, 42, 43, 44, 45, 46, 47, 48, 49, 50, 51, 52, 53, 54] (by decide +kernel) (by decide +kernel)
set_option maxRecDepth 20000 in
theorem gX9_nearest_X9_isNearer : GoodIn wsX9_nearest (wsV RX9 174 RX9 yX9_isNearer wsX9_isNearer) := goodIn_app (goodIn_of _ (by decide +kernel)) ggX9_nearest_X9_isNearer
set_option maxRecDepth 20000 in
theorem ggX9_count_X9_makePlain : GoodIn wsX9_count wsX9_makePlain := goodIn_r _ [19, 3, 2, 20, 21, 22, 23, 24, 25, 26, 27, 28, 29, 30, 31, 32, 33, 34, 35, 36, 37, 38, 39, 40, 41, 42, 43, 44, 45, 46, 47, 48, 49, 50, 51, 52, 53] (by decide +kernel) (by decide +kernel)
set_option maxRecDepth 20000 in
theorem gX9_count_X9_makePlain : GoodIn wsX9_count (wsV RX9 61 RX9 yX9_makePlain wsX9_makePlain) := goodIn_app (goodIn_of _ (by decide +kernel)) ggX9_count_X9_makePlain
