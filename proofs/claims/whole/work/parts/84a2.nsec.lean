set_option maxRecDepth 20000 in
theorem ggX8_documentN_X5_placeOf : GoodIn wsX8_documentN wsX5_placeOf := goodIn_r _ [13, 14, 15, 16, 17, 18, 19, 20, 21, 22, 23, 24, 25, 26, 27, 28, 29, 30, 31, 32, 33, 34, 35, 36, 37, 38, 39, 136, 137, 138, 139, 140, 141, 142, 143, 144, 145, 146, 147, 148, 149] (by decide +kernel) (by decide +kernel)
set_option maxRecDepth 20000 in
theorem gX8_documentN_X5_placeOf : GoodIn wsX8_documentN (wsV RX8 159 RX5 yX5_placeOf wsX5_placeOf) := goodIn_app (goodIn_of _ (by decide +kernel)) ggX8_documentN_X5_placeOf
set_option maxRecDepth 20000 in
theorem ggX8_documentN_Jx4a65c_get_915e3 : GoodIn wsX8_documentN wsJx4a65c_get_915e3 := goodIn_r _ [26, 22, 27, 28, 29, 30, 31, 32, 33, 34, 35, 36, 37, 20, 38, 39, 147, 148, 149] (by decide +kernel) (by decide +kernel)
set_option maxRecDepth 20000 in
theorem gX8_documentN_Jx4a65c_get_915e3 : GoodIn wsX8_documentN (wsV RX8 172 RJx4a65c yJx4a65c_get_915e3 wsJx4a65c_get_915e3) := goodIn_app (goodIn_of _ (by decide +kernel)) ggX8_documentN_Jx4a65c_get_915e3
set_option maxRecDepth 20000 in
theorem ggX8_documentN_X1_learn : GoodIn wsX8_documentN wsX1_learn := goodIn_r _ [45, 46, 47, 48, 49, 50, 51, 52, 53, 44, 54, 55, 56, 57, 58, 59, 60, 61, 62, 63, 64, 65, 18, 19, 20, 21, 22, 66, 24, 25, 26, 27, 28, 29, 30, 31, 32, 33, 34, 35, 36, 37, 38, 39, 67, 68, 69, 70, 71, 72, 73, 74, 75, 76, 77, 78, 79, 80, 81, 82, 83, 84, 85, 86, 87, 88, 89, 90, 91, 92, 93, 94, 95, 96, 97, 98, 99, 100, 101, 102, 103, 104, 105, 106, 107, 108, 109, 110, 111, 112, 113, 114, 150, 151, 152, 153, 154, 155, 156, 157, 158, 159, 160, 140, 141, 142, 143, 144, 145, 146, 147, 148, 149, 161, 162, 163, 164] (by decide +kernel) (by decide +kernel)
set_option maxRecDepth 20000 in
theorem gX8_documentN_X1_learn : GoodIn wsX8_documentN (wsV RX8 181 RX1 yX1_learn wsX1_learn) := goodIn_app (goodIn_of _ (by decide +kernel)) ggX8_documentN_X1_learn
set_option maxRecDepth 20000 in
theorem ggX8_documentN_X1_familyOf : GoodIn wsX8_documentN wsX1_familyOf := goodIn_r _ [118, 47, 62, 50, 150, 151, 152, 153, 154, 155, 156, 157] (by decide +kernel) (by decide +kernel)
set_option maxRecDepth 20000 in
theorem gX8_documentN_X1_familyOf : GoodIn wsX8_documentN (wsV RX8 185 RX1 yX1_familyOf wsX1_familyOf) := goodIn_app (goodIn_of _ (by decide +kernel)) ggX8_documentN_X1_familyOf
set_option maxRecDepth 20000 in
theorem ggX8_documentN_X1_membersWith : GoodIn wsX8_documentN wsX1_membersWith := goodIn_r _ [122, 47, 49, 50, 150, 151, 152, 153, 154, 155, 156, 157] (by decide +kernel) (by decide +kernel)
set_option maxRecDepth 20000 in
theorem gX8_documentN_X1_membersWith : GoodIn wsX8_documentN (wsV RX8 188 RX1 yX1_membersWith wsX1_membersWith) := goodIn_app (goodIn_of _ (by decide +kernel)) ggX8_documentN_X1_membersWith
set_option maxRecDepth 20000 in
theorem ggX8_documentN_X1_twinsOf : GoodIn wsX8_documentN wsX1_twinsOf := goodIn_r _ [126, 47, 64, 150, 151, 152, 153, 154, 155, 156, 157] (by decide +kernel) (by decide +kernel)
set_option maxRecDepth 20000 in
theorem gX8_documentN_X1_twinsOf : GoodIn wsX8_documentN (wsV RX8 191 RX1 yX1_twinsOf wsX1_twinsOf) := goodIn_app (goodIn_of _ (by decide +kernel)) ggX8_documentN_X1_twinsOf
set_option maxRecDepth 20000 in
theorem ggX8_shingleN_X8_documentThereN : GoodIn wsX8_shingleN wsX8_documentThereN := goodIn_ca (goodIn_r _ [7, 8, 9, 10, 11, 12, 13, 14, 15, 16, 17, 18, 19, 20, 21, 22, 23, 24, 25, 26, 27, 28, 29, 30, 31, 32, 33, 34, 35, 36, 37, 38, 39, 40, 41, 42, 43, 44, 52, 53, 54, 55, 56, 57, 58, 59, 60, 61, 62, 63, 64, 45, 46, 47, 48, 49, 50, 51, 65, 66, 67] (by decide +kernel) (by decide +kernel)) (goodIn_sub (fun _ h => List.mem_cons_of_mem _ (List.mem_append_right _ h)) (by decide +kernel))
set_option maxRecDepth 20000 in
theorem gX8_shingleN_X8_documentThereN : GoodIn wsX8_shingleN (wsV RX8 194 RX8 yX8_documentThere wsX8_documentThereN) := goodIn_app (goodIn_of _ (by decide +kernel)) ggX8_shingleN_X8_documentThereN
set_option maxRecDepth 20000 in
theorem ggX8_signatureN_X8_documentThereN : GoodIn wsX8_signatureN wsX8_documentThereN := goodIn_ca (goodIn_r _ [8, 1, 2, 9, 10, 11, 12, 13, 14, 15, 16, 17, 18, 19, 20, 21, 22, 23, 24, 25, 26, 27, 28, 29, 30, 31, 32, 33, 34, 35, 36, 37, 38, 39, 40, 41, 42, 43, 51, 52, 53, 54, 55, 56, 57, 58, 59, 60, 61, 62, 63, 44, 45, 46, 47, 48, 49, 50, 64, 65, 66] (by decide +kernel) (by decide +kernel)) (goodIn_sub (fun _ h => List.mem_cons_of_mem _ (List.mem_append_right _ h)) (by decide +kernel))
set_option maxRecDepth 20000 in
theorem gX8_signatureN_X8_documentThereN : GoodIn wsX8_signatureN (wsV RX8 194 RX8 yX8_documentThere wsX8_documentThereN) := goodIn_app (goodIn_of _ (by decide +kernel)) ggX8_signatureN_X8_documentThereN
set_option maxRecDepth 20000 in
theorem ggX8_bothN_X8_documentThereN : GoodIn wsX8_bothN wsX8_documentThereN := goodIn_ca (goodIn_r _ [8, 1, 2, 9, 10, 11, 12, 13, 14, 15, 16, 17, 18, 19, 20, 21, 22, 23, 24, 25, 26, 27, 28, 29, 30, 31, 32, 33, 34, 35, 36, 37, 38, 39, 40, 41, 42, 43, 84, 85, 86, 87, 88, 89, 90, 91, 92, 93, 94, 95, 96, 97, 98, 99, 100, 101, 102, 103, 104, 105, 106] (by decide +kernel) (by decide +kernel)) (goodIn_sub (fun _ h => List.mem_cons_of_mem _ (List.mem_append_right _ h)) (by decide +kernel))
set_option maxRecDepth 20000 in
theorem gX8_bothN_X8_documentThereN : GoodIn wsX8_bothN (wsV RX8 194 RX8 yX8_documentThere wsX8_documentThereN) := goodIn_app (goodIn_of _ (by decide +kernel)) ggX8_bothN_X8_documentThereN
set_option maxRecDepth 20000 in
theorem ggX8_bothN_X2_common : GoodIn wsX8_bothN wsX2_common := goodIn_r _ [48, 49, 50, 97, 98, 99, 100, 101, 102, 103] (by decide +kernel) (by decide +kernel)
set_option maxRecDepth 20000 in
theorem gX8_bothN_X2_common : GoodIn wsX8_bothN (wsV RX8 208 RX2 yX2_common wsX2_common) := goodIn_app (goodIn_of _ (by decide +kernel)) ggX8_bothN_X2_common
set_option maxRecDepth 20000 in
theorem ggX8_bothN_X2_all : GoodIn wsX8_bothN wsX2_all := goodIn_r _ [54, 55, 56, 45, 46, 47, 48, 49, 50, 97, 98, 99, 100, 101, 102, 103] (by decide +kernel) (by decide +kernel)
set_option maxRecDepth 20000 in
theorem gX8_bothN_X2_all : GoodIn wsX8_bothN (wsV RX8 212 RX2 yX2_all wsX2_all) := goodIn_app (goodIn_of _ (by decide +kernel)) ggX8_bothN_X2_all
set_option maxRecDepth 20000 in
theorem ggX8_bothN_X2_sameImages : GoodIn wsX8_bothN wsX2_sameImages := goodIn_r _ [60, 61, 62, 63, 107, 108, 109, 110, 97, 98, 99, 100, 101, 102, 103] (by decide +kernel) (by decide +kernel)
set_option maxRecDepth 20000 in
theorem gX8_bothN_X2_sameImages : GoodIn wsX8_bothN (wsV RX8 215 RX2 yX2_sameImages wsX2_sameImages) := goodIn_app (goodIn_of _ (by decide +kernel)) ggX8_bothN_X2_sameImages
set_option maxRecDepth 20000 in
theorem ggX8_bothN_X2_firstBand : GoodIn wsX8_bothN wsX2_firstBand := goodIn_r _ [67, 55, 61, 62, 68, 69, 70, 47, 71, 63, 97, 98, 99, 100, 101, 102, 103, 107, 108, 109, 110] (by decide +kernel) (by decide +kernel)
set_option maxRecDepth 20000 in
theorem gX8_bothN_X2_firstBand : GoodIn wsX8_bothN (wsV RX8 218 RX2 yX2_firstBand wsX2_firstBand) := goodIn_app (goodIn_of _ (by decide +kernel)) ggX8_bothN_X2_firstBand
set_option maxRecDepth 20000 in
theorem ggX8_bothN_X2_areTwins : GoodIn wsX8_bothN wsX2_areTwins := goodIn_r _ [75, 76, 65, 66, 47, 67, 55, 61, 62, 68, 69, 70, 71, 63, 77, 78, 79, 80, 81, 82, 56, 45, 46, 48, 49, 50, 83, 52, 53, 54, 97, 98, 99, 100, 101, 102, 103, 107, 108, 109, 110] (by decide +kernel) (by decide +kernel)
set_option maxRecDepth 20000 in
theorem gX8_bothN_X2_areTwins : GoodIn wsX8_bothN (wsV RX8 221 RX2 yX2_areTwins wsX2_areTwins) := goodIn_app (goodIn_of _ (by decide +kernel)) ggX8_bothN_X2_areTwins
set_option maxRecDepth 20000 in
theorem ggX8_nearestN_X8_documentThereN : GoodIn wsX8_nearestN wsX8_documentThereN := goodIn_ca (goodIn_r _ [9, 10, 11, 1, 12, 3, 13, 14, 15, 16, 17, 18, 19, 20, 21, 22, 23, 24, 25, 26, 27, 28, 29, 30, 31, 32, 33, 34, 35, 36, 37, 38, 39, 40, 41, 42, 43, 44, 130, 131, 132, 133, 134, 135, 136, 137, 138, 146, 147, 148, 149, 139, 140, 141, 142, 143, 144, 145, 150, 151, 152] (by decide +kernel) (by decide +kernel)) (goodIn_sub (fun _ h => List.mem_cons_of_mem _ (List.mem_append_right _ h)) (by decide +kernel))
set_option maxRecDepth 20000 in
theorem gX8_nearestN_X8_documentThereN : GoodIn wsX8_nearestN (wsV RX8 194 RX8 yX8_documentThere wsX8_documentThereN) := goodIn_app (goodIn_of _ (by decide +kernel)) ggX8_nearestN_X8_documentThereN
set_option maxRecDepth 20000 in
theorem ggX8_nearestN_X5_othersByNearness : GoodIn wsX8_nearestN wsX5_othersByNearness := goodIn_r _ [48, 49, 18, 19, 50, 51, 52, 24, 53, 54, 55, 43, 26, 21, 22, 23, 25, 27, 28, 29, 30, 31, 32, 33, 34, 35, 36, 37, 38, 39, 40, 41, 42, 56, 57, 58, 16, 59, 60, 61, 62, 63, 64, 65, 66, 67, 68, 69, 70, 71, 72, 73, 74, 75, 76, 77, 78, 79, 80, 81, 82, 83, 84, 85, 86, 87, 88, 89, 90, 91, 92, 93, 94, 95, 96, 97, 98, 99, 100, 101, 102, 103, 104, 105, 106, 107, 108, 109, 110, 111, 112, 113, 114, 115, 116, 117, 118, 119, 120, 121, 122, 123, 124, 125, 126, 127, 128, 146, 147, 148, 149, 150, 151, 152, 139, 140, 141, 142, 143, 144, 145] (by decide +kernel) (by decide +kernel)
set_option maxRecDepth 20000 in
theorem gX8_nearestN_X5_othersByNearness : GoodIn wsX8_nearestN (wsV RX8 244 RX5 yX5_othersByNearness wsX5_othersByNearness) := goodIn_app (goodIn_of _ (by decide +kernel)) ggX8_nearestN_X5_othersByNearness
set_option maxRecDepth 20000 in
theorem ggX8_nearestN_Jx4a65c_size_8abf5 : GoodIn wsX8_nearestN wsJx4a65c_size_8abf5 := goodIn_r _ [25, 26, 150, 151, 152] (by decide +kernel) (by decide +kernel)
set_option maxRecDepth 20000 in
theorem gX8_nearestN_Jx4a65c_size_8abf5 : GoodIn wsX8_nearestN (wsV RX8 248 RJx4a65c yJx4a65c_size_8abf5 wsJx4a65c_size_8abf5) := goodIn_app (goodIn_of _ (by decide +kernel)) ggX8_nearestN_Jx4a65c_size_8abf5
set_option maxRecDepth 20000 in
theorem ggX8_nearestN_Jx4a65c_get_915e3 : GoodIn wsX8_nearestN wsJx4a65c_get_915e3 := goodIn_r _ [30, 26, 31, 32, 33, 34, 35, 36, 37, 38, 39, 40, 41, 24, 42, 43, 150, 151, 152] (by decide +kernel) (by decide +kernel)
set_option maxRecDepth 20000 in
theorem gX8_nearestN_Jx4a65c_get_915e3 : GoodIn wsX8_nearestN (wsV RX8 172 RJx4a65c yJx4a65c_get_915e3 wsJx4a65c_get_915e3) := goodIn_app (goodIn_of _ (by decide +kernel)) ggX8_nearestN_Jx4a65c_get_915e3
set_option maxRecDepth 20000 in
theorem ggX8_documentThereN_X5_placeOf : GoodIn wsX8_documentThereN wsX5_placeOf := goodIn_r _ [10, 11, 12, 13, 14, 15, 16, 17, 18, 19, 20, 21, 22, 23, 24, 25, 26, 27, 28, 29, 30, 31, 32, 33, 34, 35, 36, 47, 48, 49, 50, 51, 52, 53, 54, 55, 56, 57, 58, 59, 60] (by decide +kernel) (by decide +kernel)
set_option maxRecDepth 20000 in
theorem gX8_documentThereN_X5_placeOf : GoodIn wsX8_documentThereN (wsV RX8 159 RX5 yX5_placeOf wsX5_placeOf) := goodIn_app (goodIn_of _ (by decide +kernel)) ggX8_documentThereN_X5_placeOf
set_option maxRecDepth 20000 in
theorem ggX8_documentThereN_Jx4a65c_get_915e3 : GoodIn wsX8_documentThereN wsJx4a65c_get_915e3 := goodIn_r _ [23, 19, 24, 25, 26, 27, 28, 29, 30, 31, 32, 33, 34, 17, 35, 36, 58, 59, 60] (by decide +kernel) (by decide +kernel)
set_option maxRecDepth 20000 in
theorem gX8_documentThereN_Jx4a65c_get_915e3 : GoodIn wsX8_documentThereN (wsV RX8 172 RJx4a65c yJx4a65c_get_915e3 wsJx4a65c_get_915e3) := goodIn_app (goodIn_of _ (by decide +kernel)) ggX8_documentThereN_Jx4a65c_get_915e3
set_option maxRecDepth 20000 in
theorem ggL_documentN_X8_documentN : GoodIn wsL_documentN wsX8_documentN := goodIn_ca (goodIn_r _ [6, 7, 8, 9, 10, 11, 12, 13, 14, 15, 16, 17, 18, 19, 20, 21, 22, 23, 24, 25, 26, 27, 28, 29, 30, 31, 32, 33, 34, 35, 36, 37, 38, 39, 40, 41, 42, 43, 44, 45, 46, 47, 48, 49, 50, 51, 52, 53, 54, 55, 56, 57, 58, 59, 60, 61, 62, 63, 64, 65, 66, 67, 68, 69, 70, 71, 72, 73, 74, 75, 76, 77, 78, 79, 80, 81, 82, 83, 84, 85, 86, 87, 88, 89, 90, 91, 92, 93, 94, 95, 96, 97, 98, 99, 100, 101, 102, 103, 104, 105, 106, 107, 108, 109, 110, 111, 112, 113, 114, 115, 116, 117, 118, 119, 120, 121, 122, 123, 124, 125, 126, 127, 128, 129, 130, 131, 132, 133, 134, 135, 136, 137, 138, 139, 140, 141, 142, 143, 144, 145, 146, 147, 148, 149, 150, 151, 152, 153, 154, 155, 156, 157, 158, 159, 160, 161, 162, 163, 164, 165, 166, 167, 168, 169, 170] (by decide +kernel) (by decide +kernel)) (goodIn_sub (fun _ h => List.mem_cons_of_mem _ (List.mem_append_right _ h)) (by decide +kernel))
set_option maxRecDepth 20000 in
theorem gL_documentN_X8_documentN : GoodIn wsL_documentN (wsV RL 15 RX8 yX8_document wsX8_documentN) := goodIn_app (goodIn_of _ (by decide +kernel)) ggL_documentN_X8_documentN
set_option maxRecDepth 20000 in
theorem ggL_shingleN_X8_shingleN : GoodIn wsL_shingleN wsX8_shingleN := goodIn_ca (goodIn_r _ [6, 7, 8, 9, 10, 11, 5, 12, 13, 14, 15, 16, 17, 18, 19, 20, 21, 22, 23, 24, 25, 26, 27, 28, 29, 30, 31, 32, 33, 34, 35, 36, 37, 38, 39, 40, 41, 42, 43, 44, 45, 46, 47, 48, 49, 50, 51, 52, 53, 54, 55, 56, 57, 58, 59, 60, 61, 62, 63, 64, 65, 66, 67, 68, 69, 70, 71, 72] (by decide +kernel) (by decide +kernel)) (goodIn_sub (fun _ h => List.mem_cons_of_mem _ (List.mem_append_right _ h)) (by decide +kernel))
set_option maxRecDepth 20000 in
theorem gL_shingleN_X8_shingleN : GoodIn wsL_shingleN (wsV RL 20 RX8 yX8_shingle wsX8_shingleN) := goodIn_app (goodIn_of _ (by decide +kernel)) ggL_shingleN_X8_shingleN
set_option maxRecDepth 20000 in
theorem ggL_signatureN_X8_signatureN : GoodIn wsL_signatureN wsX8_signatureN := goodIn_ca (goodIn_r _ [6, 7, 8, 9, 10, 11, 12, 5, 13, 14, 15, 16, 17, 18, 19, 20, 21, 22, 23, 24, 25, 26, 27, 28, 29, 30, 31, 32, 33, 34, 35, 36, 37, 38, 39, 40, 41, 42, 43, 44, 45, 46, 47, 48, 49, 50, 51, 52, 53, 54, 55, 56, 57, 58, 59, 60, 61, 62, 63, 64, 65, 66, 67, 68, 69, 70, 71] (by decide +kernel) (by decide +kernel)) (goodIn_sub (fun _ h => List.mem_cons_of_mem _ (List.mem_append_right _ h)) (by decide +kernel))
set_option maxRecDepth 20000 in
theorem gL_signatureN_X8_signatureN : GoodIn wsL_signatureN (wsV RL 23 RX8 yX8_signature wsX8_signatureN) := goodIn_app (goodIn_of _ (by decide +kernel)) ggL_signatureN_X8_signatureN
set_option maxRecDepth 20000 in
theorem ggL_bothN_X8_bothN : GoodIn wsL_bothN wsX8_bothN := goodIn_ca (goodIn_r _ [6, 7, 8, 9, 10, 11, 12, 5, 13, 14, 15, 16, 17, 18, 19, 20, 21, 22, 23, 24, 25, 26, 27, 28, 29, 30, 31, 32, 33, 34, 35, 36, 37, 38, 39, 40, 41, 42, 43, 44, 45, 46, 47, 48, 49, 50, 51, 52, 53, 54, 55, 56, 57, 58, 59, 60, 61, 62, 63, 64, 65, 66, 67, 68, 69, 70, 71, 72, 73, 74, 75, 76, 77, 78, 79, 80, 81, 82, 83, 84, 85, 86, 87, 88, 89, 90, 91, 92, 93, 94, 95, 96, 97, 98, 99, 100, 101, 102, 103, 104, 105, 106, 107, 108, 109, 110, 111, 112, 113, 114, 115] (by decide +kernel) (by decide +kernel)) (goodIn_sub (fun _ h => List.mem_cons_of_mem _ (List.mem_append_right _ h)) (by decide +kernel))
set_option maxRecDepth 20000 in
theorem gL_bothN_X8_bothN : GoodIn wsL_bothN (wsV RL 26 RX8 yX8_both wsX8_bothN) := goodIn_app (goodIn_of _ (by decide +kernel)) ggL_bothN_X8_bothN
set_option maxRecDepth 20000 in
theorem ggL_nearestN_X8_nearestN : GoodIn wsL_nearestN wsX8_nearestN := goodIn_ca (goodIn_r _ [6, 7, 8, 9, 10, 11, 12, 13, 5, 14, 15, 16, 17, 18, 19, 20, 21, 22, 23, 24, 25, 26, 27, 28, 29, 30, 31, 32, 33, 34, 35, 36, 37, 38, 39, 40, 41, 42, 43, 44, 45, 46, 47, 48, 49, 50, 51, 52, 53, 54, 55, 56, 57, 58, 59, 60, 61, 62, 63, 64, 65, 66, 67, 68, 69, 70, 71, 72, 73, 74, 75, 76, 77, 78, 79, 80, 81, 82, 83, 84, 85, 86, 87, 88, 89, 90, 91, 92, 93, 94, 95, 96, 97, 98, 99, 100, 101, 102, 103, 104, 105, 106, 107, 108, 109, 110, 111, 112, 113, 114, 115, 116, 117, 118, 119, 120, 121, 122, 123, 124, 125, 126, 127, 128, 129, 130, 131, 132, 133, 134, 135, 136, 137, 138, 139, 140, 141, 142, 143, 144, 145, 146, 147, 148, 149, 150, 151, 152, 153, 154, 155, 156, 157] (by decide +kernel) (by decide +kernel)) (goodIn_sub (fun _ h => List.mem_cons_of_mem _ (List.mem_append_right _ h)) (by decide +kernel))
set_option maxRecDepth 20000 in
theorem gL_nearestN_X8_nearestN : GoodIn wsL_nearestN (wsV RL 30 RX8 yX8_nearest wsX8_nearestN) := goodIn_app (goodIn_of _ (by decide +kernel)) ggL_nearestN_X8_nearestN
