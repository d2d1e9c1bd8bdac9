set_option maxRecDepth 20000 in
theorem ggX0_countShared_J13_bitCount_95d88 : GoodIn wsX0_countShared wsJ13_bitCount_95d88 := goodIn_r _ [5, 6, 7, 8] (by decide +kernel) (by decide +kernel)
set_option maxRecDepth 20000 in
theorem gX0_countShared_J13_bitCount_95d88 : GoodIn wsX0_countShared (va_wsS RX0 32 yJ13_bitCount_95d88 wsJ13_bitCount_95d88) := goodIn_app (goodIn_of _ (by decide +kernel)) ggX0_countShared_J13_bitCount_95d88
set_option maxRecDepth 20000 in
theorem ggX1_init_X3_init : GoodIn wsX1_init wsX3_init := goodIn_r _ [15, 16, 2, 3, 9, 17, 18, 19, 20, 21] (by decide +kernel) (by decide +kernel)
set_option maxRecDepth 20000 in
theorem gX1_init_X3_init_n11 : GoodIn wsX1_init (wsX3_init) := ggX1_init_X3_init
set_option maxRecDepth 20000 in
theorem ggX1_learn_X1_begin : GoodIn wsX1_learn wsX1_begin := goodIn_r _ [10, 11, 12, 13, 14, 2, 15, 16, 17, 18, 3, 19, 20, 5, 4, 21, 22, 23, 24, 25, 26, 27, 28, 29, 30, 31, 32, 33, 34, 35, 36, 37, 38, 39, 40, 41, 42, 43, 92, 93, 94, 95, 96, 97, 98, 99, 100, 101, 102, 103, 104, 105, 106, 107, 108, 109, 110, 111, 112] (by decide +kernel) (by decide +kernel)
set_option maxRecDepth 20000 in
theorem gX1_learn_X1_begin : GoodIn wsX1_learn (wsV RX1 38 RX1 yX1_begin wsX1_begin) := goodIn_app (goodIn_of _ (by decide +kernel)) ggX1_learn_X1_begin
set_option maxRecDepth 20000 in
theorem ggX1_learn_Jx4a65c_get_915e3 : GoodIn wsX1_learn wsJx4a65c_get_915e3 := goodIn_r _ [30, 26, 31, 32, 33, 34, 35, 36, 37, 38, 39, 40, 41, 24, 42, 43, 110, 111, 112] (by decide +kernel) (by decide +kernel)
set_option maxRecDepth 20000 in
theorem gX1_learn_Jx4a65c_get_915e3 : GoodIn wsX1_learn (wsV RX1 46 RJx4a65c yJx4a65c_get_915e3 wsJx4a65c_get_915e3) := goodIn_app (goodIn_of _ (by decide +kernel)) ggX1_learn_Jx4a65c_get_915e3
set_option maxRecDepth 20000 in
theorem ggX1_learn_X1_compare : GoodIn wsX1_learn wsX1_compare := goodIn_r _ [47, 15, 19, 17, 20, 5, 48, 49, 50, 51, 52, 53, 54, 55, 56, 57, 58, 59, 60, 61, 62, 63, 64, 65, 66, 67, 68, 69, 70, 71, 72, 73, 74, 75, 76, 77, 78, 79, 80, 81, 82, 83, 84, 85, 86, 87, 9, 88, 11, 12, 13, 14, 89, 90, 91, 2, 92, 93, 94, 95, 96, 97, 98, 99, 103, 104, 105, 106, 107, 108, 109, 113, 114, 115, 116, 100, 101, 102] (by decide +kernel) (by decide +kernel)
set_option maxRecDepth 20000 in
theorem gX1_learn_X1_compare : GoodIn wsX1_learn (wsV RX1 54 RX1 yX1_compare wsX1_compare) := goodIn_app (goodIn_of _ (by decide +kernel)) ggX1_learn_X1_compare
set_option maxRecDepth 20000 in
theorem ggX1_begin_Jx4a65c_size_8abf5 : GoodIn wsX1_begin wsJx4a65c_size_8abf5 := goodIn_r _ [19, 20, 56, 57, 58] (by decide +kernel) (by decide +kernel)
set_option maxRecDepth 20000 in
theorem gX1_begin_Jx4a65c_size_8abf5 : GoodIn wsX1_begin (wsV RX1 58 RJx4a65c yJx4a65c_size_8abf5 wsJx4a65c_size_8abf5) := goodIn_app (goodIn_of _ (by decide +kernel)) ggX1_begin_Jx4a65c_size_8abf5
set_option maxRecDepth 20000 in
theorem ggX1_begin_Jx4a65c_get_915e3 : GoodIn wsX1_begin wsJx4a65c_get_915e3 := goodIn_r _ [24, 20, 25, 26, 27, 28, 29, 30, 31, 32, 33, 34, 35, 18, 36, 37, 56, 57, 58] (by decide +kernel) (by decide +kernel)
set_option maxRecDepth 20000 in
theorem gX1_begin_Jx4a65c_get_915e3 : GoodIn wsX1_begin (wsV RX1 46 RJx4a65c yJx4a65c_get_915e3 wsJx4a65c_get_915e3) := goodIn_app (goodIn_of _ (by decide +kernel)) ggX1_begin_Jx4a65c_get_915e3
set_option maxRecDepth 20000 in
theorem ggX1_compare_X2_firstBand : GoodIn wsX1_compare wsX2_firstBand := goodIn_r _ [10, 11, 12, 13, 14, 15, 16, 9, 17, 18, 64, 65, 66, 67, 68, 69, 70, 71, 72, 73, 74] (by decide +kernel) (by decide +kernel)
set_option maxRecDepth 20000 in
theorem gX1_compare_X2_firstBand : GoodIn wsX1_compare (wsV RX1 72 RX2 yX2_firstBand wsX2_firstBand) := goodIn_app (goodIn_of _ (by decide +kernel)) ggX1_compare_X2_firstBand
set_option maxRecDepth 20000 in
theorem ggX1_compare_X3_put : GoodIn wsX1_compare wsX3_put := goodIn_r _ [23, 24, 25, 26, 75, 76, 77] (by decide +kernel) (by decide +kernel)
set_option maxRecDepth 20000 in
theorem gX1_compare_X3_put : GoodIn wsX1_compare (wsV RX1 78 RX3 yX3_put wsX3_put) := goodIn_app (goodIn_of _ (by decide +kernel)) ggX1_compare_X3_put
set_option maxRecDepth 20000 in
theorem ggX1_compare_X2_areNear : GoodIn wsX1_compare wsX2_areNear := goodIn_r _ [30, 31, 32, 33, 34, 35, 9, 36, 37, 38, 39, 40, 41, 42, 11, 71, 72, 73, 74, 64, 65, 66, 67, 68, 69, 70] (by decide +kernel) (by decide +kernel)
set_option maxRecDepth 20000 in
theorem gX1_compare_X2_areNear : GoodIn wsX1_compare (wsV RX1 82 RX2 yX2_areNear wsX2_areNear) := goodIn_app (goodIn_of _ (by decide +kernel)) ggX1_compare_X2_areNear
set_option maxRecDepth 20000 in
theorem ggX1_compare_X1_join : GoodIn wsX1_compare wsX1_join := goodIn_r _ [47, 48, 49, 50, 51, 52, 53, 54, 55, 5, 56, 57, 58, 59, 60, 61, 62, 63] (by decide +kernel) (by decide +kernel)
set_option maxRecDepth 20000 in
theorem gX1_compare_X1_join : GoodIn wsX1_compare (wsV RX1 86 RX1 yX1_join wsX1_join) := goodIn_app (goodIn_of _ (by decide +kernel)) ggX1_compare_X1_join
set_option maxRecDepth 20000 in
theorem ggX5_init_Jx4a65c_init_da8c8 : GoodIn wsX5_init wsJx4a65c_init_da8c8 := goodIn_r _ [12, 13, 14, 15, 16, 17, 18, 19, 20, 21, 22, 23, 24, 2, 3, 25, 26, 27] (by decide +kernel) (by decide +kernel)
set_option maxRecDepth 20000 in
theorem gX5_init_Jx4a65c_init_da8c8 : GoodIn wsX5_init (wsJx4a65c_init_da8c8) := ggX5_init_Jx4a65c_init_da8c8
set_option maxRecDepth 20000 in
theorem ggX5_isFull_Jx4a65c_size_8abf5 : GoodIn wsX5_isFull wsJx4a65c_size_8abf5 := goodIn_r _ [7, 8, 13, 14, 15] (by decide +kernel) (by decide +kernel)
set_option maxRecDepth 20000 in
theorem gX5_isFull_Jx4a65c_size_8abf5 : GoodIn wsX5_isFull (wsV RX5 24 RJx4a65c yJx4a65c_size_8abf5 wsJx4a65c_size_8abf5) := goodIn_app (goodIn_of _ (by decide +kernel)) ggX5_isFull_Jx4a65c_size_8abf5
set_option maxRecDepth 20000 in
theorem ggX5_placeOf_Jx4a65c_size_8abf5 : GoodIn wsX5_placeOf wsJx4a65c_size_8abf5 := goodIn_r _ [8, 9, 38, 39, 40] (by decide +kernel) (by decide +kernel)
set_option maxRecDepth 20000 in
theorem gX5_placeOf_Jx4a65c_size_8abf5 : GoodIn wsX5_placeOf (wsV RX5 24 RJx4a65c yJx4a65c_size_8abf5 wsJx4a65c_size_8abf5) := goodIn_app (goodIn_of _ (by decide +kernel)) ggX5_placeOf_Jx4a65c_size_8abf5
set_option maxRecDepth 20000 in
theorem ggX5_placeOf_Jx4a65c_get_915e3 : GoodIn wsX5_placeOf wsJx4a65c_get_915e3 := goodIn_r _ [13, 9, 14, 15, 16, 17, 18, 19, 20, 21, 22, 23, 24, 7, 25, 26, 38, 39, 40] (by decide +kernel) (by decide +kernel)
set_option maxRecDepth 20000 in
theorem gX5_placeOf_Jx4a65c_get_915e3 : GoodIn wsX5_placeOf (wsV RX5 32 RJx4a65c yJx4a65c_get_915e3 wsJx4a65c_get_915e3) := goodIn_app (goodIn_of _ (by decide +kernel)) ggX5_placeOf_Jx4a65c_get_915e3
set_option maxRecDepth 20000 in
theorem ggX5_takeNext_Jx4a65c_isEmpty_aae02 : GoodIn wsX5_takeNext wsJx4a65c_isEmpty_aae02 := goodIn_r _ [13, 14, 114, 115, 116] (by decide +kernel) (by decide +kernel)
set_option maxRecDepth 20000 in
theorem gX5_takeNext_Jx4a65c_isEmpty_aae02 : GoodIn wsX5_takeNext (wsV RX5 41 RJx4a65c yJx4a65c_isEmpty_aae02 wsJx4a65c_isEmpty_aae02) := goodIn_app (goodIn_of _ (by decide +kernel)) ggX5_takeNext_Jx4a65c_isEmpty_aae02
set_option maxRecDepth 20000 in
theorem ggX5_takeNext_Jx4a65c_size_8abf5 : GoodIn wsX5_takeNext wsJx4a65c_size_8abf5 := goodIn_r _ [18, 14, 114, 115, 116] (by decide +kernel) (by decide +kernel)
set_option maxRecDepth 20000 in
theorem gX5_takeNext_Jx4a65c_size_8abf5 : GoodIn wsX5_takeNext (wsV RX5 24 RJx4a65c yJx4a65c_size_8abf5 wsJx4a65c_size_8abf5) := goodIn_app (goodIn_of _ (by decide +kernel)) ggX5_takeNext_Jx4a65c_size_8abf5
set_option maxRecDepth 20000 in
theorem ggX5_takeNext_X0_init : GoodIn wsX5_takeNext wsX0_init := goodIn_r _ [21, 22, 23, 24, 25, 26, 27, 28, 29, 30, 31, 107, 108, 109, 110, 111, 112, 113] (by decide +kernel) (by decide +kernel)
set_option maxRecDepth 20000 in
theorem gX5_takeNext_X0_init : GoodIn wsX5_takeNext (wsX0_init) := ggX5_takeNext_X0_init
set_option maxRecDepth 20000 in
theorem ggX5_takeNext_Jx4a65c_remove_915e3 : GoodIn wsX5_takeNext wsJx4a65c_remove_915e3 := goodIn_r _ [35, 14, 36, 37, 38, 39, 40, 41, 42, 43, 44, 45, 46, 47, 12, 48, 49, 50, 51, 52, 53, 54, 114, 115, 116] (by decide +kernel) (by decide +kernel)
set_option maxRecDepth 20000 in
theorem gX5_takeNext_Jx4a65c_remove_915e3 : GoodIn wsX5_takeNext (wsV RX5 48 RJx4a65c yJx4a65c_remove_915e3 wsJx4a65c_remove_915e3) := goodIn_app (goodIn_of _ (by decide +kernel)) ggX5_takeNext_Jx4a65c_remove_915e3
set_option maxRecDepth 20000 in
theorem ggX5_takeNext_Jx4a65c_add_9ea2d : GoodIn wsX5_takeNext wsJx4a65c_add_9ea2d := goodIn_r _ [58, 49, 50, 36, 14, 59, 60, 61, 12, 62, 63, 64, 65, 66, 67, 68, 69, 70, 71, 72, 73, 74, 75, 76, 77, 78, 79, 80, 81, 82, 83, 84, 85, 86, 87, 88, 89, 90, 91, 92, 93, 94, 95, 96, 97, 98, 99, 100, 101, 102, 52, 53, 54, 114, 115, 116] (by decide +kernel) (by decide +kernel)
set_option maxRecDepth 20000 in
theorem gX5_takeNext_Jx4a65c_add_9ea2d : GoodIn wsX5_takeNext (wsV RX5 51 RJx4a65c yJx4a65c_add_9ea2d wsJx4a65c_add_9ea2d) := goodIn_app (goodIn_of _ (by decide +kernel)) ggX5_takeNext_Jx4a65c_add_9ea2d
set_option maxRecDepth 20000 in
theorem ggX5_shareWithAll_Jx4a65c_size_8abf5 : GoodIn wsX5_shareWithAll wsJx4a65c_size_8abf5 := goodIn_r _ [9, 10, 52, 53, 54] (by decide +kernel) (by decide +kernel)
set_option maxRecDepth 20000 in
theorem gX5_shareWithAll_Jx4a65c_size_8abf5 : GoodIn wsX5_shareWithAll (wsV RX5 24 RJx4a65c yJx4a65c_size_8abf5 wsJx4a65c_size_8abf5) := goodIn_app (goodIn_of _ (by decide +kernel)) ggX5_shareWithAll_Jx4a65c_size_8abf5
set_option maxRecDepth 20000 in
theorem ggX5_shareWithAll_Jx4a65c_get_915e3 : GoodIn wsX5_shareWithAll wsJx4a65c_get_915e3 := goodIn_r _ [14, 10, 15, 16, 17, 18, 19, 20, 21, 22, 23, 24, 25, 8, 26, 27, 52, 53, 54] (by decide +kernel) (by decide +kernel)
set_option maxRecDepth 20000 in
theorem gX5_shareWithAll_Jx4a65c_get_915e3 : GoodIn wsX5_shareWithAll (wsV RX5 32 RJx4a65c yJx4a65c_get_915e3 wsJx4a65c_get_915e3) := goodIn_app (goodIn_of _ (by decide +kernel)) ggX5_shareWithAll_Jx4a65c_get_915e3
set_option maxRecDepth 20000 in
theorem ggX5_shareWithAll_X0_countShared : GoodIn wsX5_shareWithAll wsX0_countShared := goodIn_r _ [32, 33, 34, 35, 36, 37, 38, 39, 40, 45, 46, 47, 48, 49, 50, 51] (by decide +kernel) (by decide +kernel)
set_option maxRecDepth 20000 in
theorem gX5_shareWithAll_X0_countShared : GoodIn wsX5_shareWithAll (wsV RX5 55 RX0 yX0_countShared wsX0_countShared) := goodIn_app (goodIn_of _ (by decide +kernel)) ggX5_shareWithAll_X0_countShared
set_option maxRecDepth 20000 in
theorem ggX5_putAway_X5_placeOf : GoodIn wsX5_putAway wsX5_placeOf := goodIn_r _ [8, 2, 3, 9, 10, 11, 12, 13, 14, 15, 16, 17, 18, 19, 20, 21, 22, 23, 24, 25, 26, 27, 28, 29, 30, 31, 32, 95, 96, 97, 98, 99, 100, 101, 102, 103, 104, 105, 106, 107, 108] (by decide +kernel) (by decide +kernel)
set_option maxRecDepth 20000 in
theorem gX5_putAway_X5_placeOf : GoodIn wsX5_putAway (wsV RX5 66 RX5 yX5_placeOf wsX5_placeOf) := goodIn_app (goodIn_of _ (by decide +kernel)) ggX5_putAway_X5_placeOf
set_option maxRecDepth 20000 in
theorem ggX5_putAway_Jx4a65c_remove_915e3 : GoodIn wsX5_putAway wsJx4a65c_remove_915e3 := goodIn_r _ [36, 15, 32, 20, 21, 22, 23, 24, 25, 26, 27, 37, 38, 39, 13, 40, 41, 42, 43, 44, 45, 46, 106, 107, 108] (by decide +kernel) (by decide +kernel)
set_option maxRecDepth 20000 in
theorem gX5_putAway_Jx4a65c_remove_915e3 : GoodIn wsX5_putAway (wsV RX5 48 RJx4a65c yJx4a65c_remove_915e3 wsJx4a65c_remove_915e3) := goodIn_app (goodIn_of _ (by decide +kernel)) ggX5_putAway_Jx4a65c_remove_915e3
set_option maxRecDepth 20000 in
theorem ggX5_putAway_Jx4a65c_add_9ea2d : GoodIn wsX5_putAway wsJx4a65c_add_9ea2d := goodIn_r _ [50, 41, 42, 32, 15, 51, 52, 53, 13, 54, 55, 56, 57, 58, 59, 60, 61, 62, 63, 64, 65, 66, 67, 68, 69, 70, 71, 72, 73, 74, 75, 76, 77, 78, 79, 80, 81, 82, 83, 84, 85, 86, 87, 88, 89, 90, 91, 92, 93, 94, 44, 45, 46, 106, 107, 108] (by decide +kernel) (by decide +kernel)
set_option maxRecDepth 20000 in
theorem gX5_putAway_Jx4a65c_add_9ea2d : GoodIn wsX5_putAway (wsV RX5 51 RJx4a65c yJx4a65c_add_9ea2d wsJx4a65c_add_9ea2d) := goodIn_app (goodIn_of _ (by decide +kernel)) ggX5_putAway_Jx4a65c_add_9ea2d
set_option maxRecDepth 20000 in
theorem ggX5_putAllAway_Jx4a65c_size_8abf5 : GoodIn wsX5_putAllAway wsJx4a65c_size_8abf5 := goodIn_r _ [9, 10, 89, 90, 91] (by decide +kernel) (by decide +kernel)
set_option maxRecDepth 20000 in
theorem gX5_putAllAway_Jx4a65c_size_8abf5 : GoodIn wsX5_putAllAway (wsV RX5 24 RJx4a65c yJx4a65c_size_8abf5 wsJx4a65c_size_8abf5) := goodIn_app (goodIn_of _ (by decide +kernel)) ggX5_putAllAway_Jx4a65c_size_8abf5
set_option maxRecDepth 20000 in
theorem ggX5_putAllAway_Jx4a65c_get_915e3 : GoodIn wsX5_putAllAway wsJx4a65c_get_915e3 := goodIn_r _ [14, 10, 15, 16, 17, 18, 19, 20, 21, 22, 23, 24, 25, 8, 26, 27, 89, 90, 91] (by decide +kernel) (by decide +kernel)
set_option maxRecDepth 20000 in
theorem gX5_putAllAway_Jx4a65c_get_915e3 : GoodIn wsX5_putAllAway (wsV RX5 32 RJx4a65c yJx4a65c_get_915e3 wsJx4a65c_get_915e3) := goodIn_app (goodIn_of _ (by decide +kernel)) ggX5_putAllAway_Jx4a65c_get_915e3
set_option maxRecDepth 20000 in
theorem ggX5_putAllAway_Jx4a65c_add_9ea2d : GoodIn wsX5_putAllAway wsJx4a65c_add_9ea2d := goodIn_r _ [31, 32, 33, 27, 10, 34, 35, 36, 8, 37, 38, 39, 40, 41, 42, 43, 44, 45, 46, 47, 48, 49, 50, 51, 52, 53, 54, 55, 56, 57, 58, 59, 60, 61, 62, 63, 64, 65, 66, 67, 68, 69, 70, 71, 72, 73, 74, 75, 76, 77, 78, 79, 80, 89, 90, 91] (by decide +kernel) (by decide +kernel)
set_option maxRecDepth 20000 in
theorem gX5_putAllAway_Jx4a65c_add_9ea2d : GoodIn wsX5_putAllAway (wsV RX5 51 RJx4a65c yJx4a65c_add_9ea2d wsJx4a65c_add_9ea2d) := goodIn_app (goodIn_of _ (by decide +kernel)) ggX5_putAllAway_Jx4a65c_add_9ea2d
set_option maxRecDepth 20000 in
theorem ggX5_putAllAway_Jx4a65c_clear_da8c8 : GoodIn wsX5_putAllAway wsJx4a65c_clear_da8c8 := goodIn_r _ [84, 32, 33, 27, 10, 89, 90, 91] (by decide +kernel) (by decide +kernel)
set_option maxRecDepth 20000 in
theorem gX5_putAllAway_Jx4a65c_clear_da8c8 : GoodIn wsX5_putAllAway (wsV RX5 70 RJx4a65c yJx4a65c_clear_da8c8 wsJx4a65c_clear_da8c8) := goodIn_app (goodIn_of _ (by decide +kernel)) ggX5_putAllAway_Jx4a65c_clear_da8c8
set_option maxRecDepth 20000 in
theorem ggX5_othersByNearness_Jx4a65c_clear_da8c8 : GoodIn wsX5_othersByNearness wsJx4a65c_clear_da8c8 := goodIn_r _ [8, 9, 10, 11, 12, 111, 112, 113] (by decide +kernel) (by decide +kernel)
set_option maxRecDepth 20000 in
theorem gX5_othersByNearness_Jx4a65c_clear_da8c8 : GoodIn wsX5_othersByNearness (wsV RX5 70 RJx4a65c yJx4a65c_clear_da8c8 wsJx4a65c_clear_da8c8) := goodIn_app (goodIn_of _ (by decide +kernel)) ggX5_othersByNearness_Jx4a65c_clear_da8c8
set_option maxRecDepth 20000 in
theorem ggX5_othersByNearness_Jx4a65c_size_8abf5 : GoodIn wsX5_othersByNearness wsJx4a65c_size_8abf5 := goodIn_r _ [16, 12, 111, 112, 113] (by decide +kernel) (by decide +kernel)
set_option maxRecDepth 20000 in
theorem gX5_othersByNearness_Jx4a65c_size_8abf5 : GoodIn wsX5_othersByNearness (wsV RX5 24 RJx4a65c yJx4a65c_size_8abf5 wsJx4a65c_size_8abf5) := goodIn_app (goodIn_of _ (by decide +kernel)) ggX5_othersByNearness_Jx4a65c_size_8abf5
set_option maxRecDepth 20000 in
theorem ggX5_othersByNearness_Jx4a65c_get_915e3 : GoodIn wsX5_othersByNearness wsJx4a65c_get_915e3 := goodIn_r _ [20, 12, 21, 22, 23, 24, 25, 26, 27, 28, 29, 30, 31, 7, 32, 11, 111, 112, 113] (by decide +kernel) (by decide +kernel)
set_option maxRecDepth 20000 in
theorem gX5_othersByNearness_Jx4a65c_get_915e3 : GoodIn wsX5_othersByNearness (wsV RX5 32 RJx4a65c yJx4a65c_get_915e3 wsJx4a65c_get_915e3) := goodIn_app (goodIn_of _ (by decide +kernel)) ggX5_othersByNearness_Jx4a65c_get_915e3
set_option maxRecDepth 20000 in
theorem ggX5_othersByNearness_X5_rankOf : GoodIn wsX5_othersByNearness wsX5_rankOf := goodIn_r _ [37, 1, 3, 13, 14, 15, 7, 16, 12, 17, 18, 19, 20, 21, 22, 23, 24, 25, 26, 27, 28, 29, 30, 31, 32, 11, 38, 39, 40, 41, 42, 43, 44, 45, 46, 47, 48, 49, 50, 51, 52, 53, 54, 55, 56, 57, 107, 108, 109, 110, 111, 112, 113, 114, 115, 116, 117, 118, 119, 120] (by decide +kernel) (by decide +kernel)
set_option maxRecDepth 20000 in
theorem gX5_othersByNearness_X5_rankOf : GoodIn wsX5_othersByNearness (wsV RX5 73 RX5 yX5_rankOf wsX5_rankOf) := goodIn_app (goodIn_of _ (by decide +kernel)) ggX5_othersByNearness_X5_rankOf
set_option maxRecDepth 20000 in
theorem ggX5_othersByNearness_Jx4a65c_add_7a177 : GoodIn wsX5_othersByNearness wsJx4a65c_add_7a177 := goodIn_r _ [61, 9, 10, 12, 11, 62, 63, 64, 65, 66, 67, 68, 7, 69, 70, 71, 72, 73, 74, 75, 76, 77, 78, 79, 44, 45, 46, 80, 81, 82, 83, 84, 85, 86, 87, 88, 89, 90, 91, 92, 93, 94, 95, 96, 97, 98, 99, 100, 101, 102, 103, 104, 105, 106, 111, 112, 113] (by decide +kernel) (by decide +kernel)
set_option maxRecDepth 20000 in
theorem gX5_othersByNearness_Jx4a65c_add_7a177 : GoodIn wsX5_othersByNearness (wsV RX5 77 RJx4a65c yJx4a65c_add_7a177 wsJx4a65c_add_7a177) := goodIn_app (goodIn_of _ (by decide +kernel)) ggX5_othersByNearness_Jx4a65c_add_7a177
set_option maxRecDepth 20000 in
theorem ggX5_rankOf_Jx4a65c_size_8abf5 : GoodIn wsX5_rankOf wsJx4a65c_size_8abf5 := goodIn_r _ [7, 8, 50, 51, 52] (by decide +kernel) (by decide +kernel)
set_option maxRecDepth 20000 in
theorem gX5_rankOf_Jx4a65c_size_8abf5 : GoodIn wsX5_rankOf (wsV RX5 24 RJx4a65c yJx4a65c_size_8abf5 wsJx4a65c_size_8abf5) := goodIn_app (goodIn_of _ (by decide +kernel)) ggX5_rankOf_Jx4a65c_size_8abf5
set_option maxRecDepth 20000 in
theorem ggX5_rankOf_Jx4a65c_get_915e3 : GoodIn wsX5_rankOf wsJx4a65c_get_915e3 := goodIn_r _ [12, 8, 13, 14, 15, 16, 17, 18, 19, 20, 21, 22, 23, 6, 24, 25, 50, 51, 52] (by decide +kernel) (by decide +kernel)
set_option maxRecDepth 20000 in
theorem gX5_rankOf_Jx4a65c_get_915e3 : GoodIn wsX5_rankOf (wsV RX5 32 RJx4a65c yJx4a65c_get_915e3 wsJx4a65c_get_915e3) := goodIn_app (goodIn_of _ (by decide +kernel)) ggX5_rankOf_Jx4a65c_get_915e3
set_option maxRecDepth 20000 in
theorem ggX5_rankOf_X2_isNearer : GoodIn wsX5_rankOf wsX2_isNearer := goodIn_r _ [30, 31, 32, 33, 34, 35, 36, 37, 29, 38, 39, 40, 41, 42, 43, 44, 45, 53, 54, 55, 56, 57, 58, 59] (by decide +kernel) (by decide +kernel)
set_option maxRecDepth 20000 in
theorem gX5_rankOf_X2_isNearer : GoodIn wsX5_rankOf (wsV RX5 80 RX2 yX2_isNearer wsX2_isNearer) := goodIn_app (goodIn_of _ (by decide +kernel)) ggX5_rankOf_X2_isNearer
set_option maxRecDepth 20000 in
theorem ggJxc12de_init_da8c8_Jxa1e45_init_da8c8 : GoodIn wsJxc12de_init_da8c8 wsJxa1e45_init_da8c8 := goodIn_r _ [5, 6, 7, 8] (by decide +kernel) (by decide +kernel)
set_option maxRecDepth 20000 in
theorem gJxc12de_init_da8c8_Jxa1e45_init_da8c8 : GoodIn wsJxc12de_init_da8c8 (wsJxa1e45_init_da8c8) := ggJxc12de_init_da8c8_Jxa1e45_init_da8c8
set_option maxRecDepth 20000 in
theorem ggJx4a65c_init_da8c8_Jxc12de_init_da8c8 : GoodIn wsJx4a65c_init_da8c8 wsJxc12de_init_da8c8 := goodIn_r _ [6, 7, 8, 9, 10, 11, 12, 13, 14, 15, 16, 17] (by decide +kernel) (by decide +kernel)
set_option maxRecDepth 20000 in
theorem gJx4a65c_init_da8c8_Jxc12de_init_da8c8 : GoodIn wsJx4a65c_init_da8c8 (wsJxc12de_init_da8c8) := ggJx4a65c_init_da8c8_Jxc12de_init_da8c8
set_option maxRecDepth 20000 in
theorem ggJx4a65c_grow_92f84_J8_newLength_cabcc : GoodIn wsJx4a65c_grow_92f84 wsJ8_newLength_cabcc := goodIn_r _ [11, 12, 4, 5, 6, 13, 14, 15, 10, 16] (by decide +kernel) (by decide +kernel)
set_option maxRecDepth 20000 in
theorem gJx4a65c_grow_92f84_J8_newLength_cabcc : GoodIn wsJx4a65c_grow_92f84 (va_wsS RJx4a65c 73 yJ8_newLength_cabcc wsJ8_newLength_cabcc) := goodIn_app (goodIn_of _ (by decide +kernel)) ggJx4a65c_grow_92f84_J8_newLength_cabcc
set_option maxRecDepth 20000 in
theorem ggJx4a65c_grow_92f84_J7_copyOf_1904c : GoodIn wsJx4a65c_grow_92f84 wsJ7_copyOf_1904c := goodIn_r _ [20, 21, 22, 23, 24, 25, 26, 19, 27, 28, 29, 30, 31, 5, 32, 33, 34, 35, 36] (by decide +kernel) (by decide +kernel)
set_option maxRecDepth 20000 in
theorem gJx4a65c_grow_92f84_J7_copyOf_1904c : GoodIn wsJx4a65c_grow_92f84 (va_wsS RJx4a65c 66 yJ7_copyOf_1904c wsJ7_copyOf_1904c) := goodIn_app (goodIn_of _ (by decide +kernel)) ggJx4a65c_grow_92f84_J7_copyOf_1904c
set_option maxRecDepth 20000 in
theorem ggJx4a65c_grow_d5877_Jx4a65c_grow_92f84 : GoodIn wsJx4a65c_grow_d5877 wsJx4a65c_grow_92f84 := goodIn_r _ [6, 7, 8, 9, 10, 11, 12, 13, 14, 15, 16, 17, 18, 19, 20, 21, 22, 23, 24, 25, 26, 27, 28, 29, 30, 31, 32, 33, 34, 35, 36, 37, 38, 39, 40, 41, 42, 43, 44, 45] (by decide +kernel) (by decide +kernel)
set_option maxRecDepth 20000 in
theorem gJx4a65c_grow_d5877_Jx4a65c_grow_92f84 : GoodIn wsJx4a65c_grow_d5877 (wsV RJx4a65c 69 RJx4a65c yJx4a65c_grow_92f84 wsJx4a65c_grow_92f84) := goodIn_app (goodIn_of _ (by decide +kernel)) ggJx4a65c_grow_d5877_Jx4a65c_grow_92f84
set_option maxRecDepth 20000 in
theorem ggJx4a65c_get_915e3_J15_checkIndex_7cf53 : GoodIn wsJx4a65c_get_915e3 wsJ15_checkIndex_7cf53 := goodIn_r _ [5, 6, 7, 8, 9] (by decide +kernel) (by decide +kernel)
set_option maxRecDepth 20000 in
theorem gJx4a65c_get_915e3_J15_checkIndex_7cf53 : GoodIn wsJx4a65c_get_915e3 (va_wsS RJx4a65c 118 yJ15_checkIndex_7cf53 wsJ15_checkIndex_7cf53) := goodIn_app (goodIn_of _ (by decide +kernel)) ggJx4a65c_get_915e3_J15_checkIndex_7cf53
set_option maxRecDepth 20000 in
theorem ggJx4a65c_get_915e3_Jx4a65c_elementData_915e3 : GoodIn wsJx4a65c_get_915e3 wsJx4a65c_elementData_915e3 := goodIn_r _ [14, 15, 16, 17, 18] (by decide +kernel) (by decide +kernel)
set_option maxRecDepth 20000 in
theorem gJx4a65c_get_915e3_Jx4a65c_elementData_915e3 : GoodIn wsJx4a65c_get_915e3 (wsV RJx4a65c 123 RJx4a65c yJx4a65c_elementData_915e3 wsJx4a65c_elementData_915e3) := goodIn_app (goodIn_of _ (by decide +kernel)) ggJx4a65c_get_915e3_Jx4a65c_elementData_915e3
set_option maxRecDepth 20000 in
theorem ggJx4a65c_add_72be8_Jx4a65c_grow_d5877 : GoodIn wsJx4a65c_add_72be8 wsJx4a65c_grow_d5877 := goodIn_r _ [6, 1, 7, 8, 9, 5, 10, 11, 12, 13, 14, 15, 16, 17, 18, 19, 20, 21, 22, 23, 24, 25, 26, 27, 28, 29, 30, 31, 32, 33, 34, 35, 36, 37, 38, 39, 40, 41, 42, 43, 44, 45, 46, 47, 48, 49] (by decide +kernel) (by decide +kernel)
set_option maxRecDepth 20000 in
theorem gJx4a65c_add_72be8_Jx4a65c_grow_d5877 : GoodIn wsJx4a65c_add_72be8 (wsV RJx4a65c 129 RJx4a65c yJx4a65c_grow_d5877 wsJx4a65c_grow_d5877) := goodIn_app (goodIn_of _ (by decide +kernel)) ggJx4a65c_add_72be8_Jx4a65c_grow_d5877
set_option maxRecDepth 20000 in
theorem ggJx4a65c_add_9ea2d_Jx4a65c_add_72be8 : GoodIn wsJx4a65c_add_9ea2d wsJx4a65c_add_72be8 := goodIn_r _ [9, 4, 10, 11, 12, 8, 13, 14, 15, 16, 17, 3, 18, 19, 20, 21, 22, 23, 24, 25, 26, 27, 28, 29, 30, 31, 32, 33, 34, 35, 36, 37, 38, 39, 40, 41, 42, 43, 44, 45, 46, 47, 48, 49, 50, 51, 52, 53, 54, 55] (by decide +kernel) (by decide +kernel)
set_option maxRecDepth 20000 in
theorem gJx4a65c_add_9ea2d_Jx4a65c_add_72be8 : GoodIn wsJx4a65c_add_9ea2d (wsV RJx4a65c 131 RJx4a65c yJx4a65c_add_72be8 wsJx4a65c_add_72be8) := goodIn_app (goodIn_of _ (by decide +kernel)) ggJx4a65c_add_9ea2d_Jx4a65c_add_72be8
set_option maxRecDepth 20000 in
theorem ggJx4a65c_add_7a177_Jx4a65c_rangeCheckForAdd_d00df : GoodIn wsJx4a65c_add_7a177 wsJx4a65c_rangeCheckForAdd_d00df := goodIn_r _ [13, 3, 54, 55, 56] (by decide +kernel) (by decide +kernel)
set_option maxRecDepth 20000 in
theorem gJx4a65c_add_7a177_Jx4a65c_rangeCheckForAdd_d00df : GoodIn wsJx4a65c_add_7a177 (wsV RJx4a65c 135 RJx4a65c yJx4a65c_rangeCheckForAdd_d00df wsJx4a65c_rangeCheckForAdd_d00df) := goodIn_app (goodIn_of _ (by decide +kernel)) ggJx4a65c_add_7a177_Jx4a65c_rangeCheckForAdd_d00df
set_option maxRecDepth 20000 in
theorem ggJx4a65c_add_7a177_Jx4a65c_grow_d5877 : GoodIn wsJx4a65c_add_7a177 wsJx4a65c_grow_d5877 := goodIn_r _ [17, 3, 18, 19, 20, 12, 21, 4, 22, 23, 24, 25, 26, 27, 28, 29, 30, 31, 32, 33, 34, 35, 36, 37, 38, 39, 40, 41, 42, 43, 44, 45, 46, 47, 48, 49, 50, 51, 52, 53, 6, 7, 8, 54, 55, 56] (by decide +kernel) (by decide +kernel)
set_option maxRecDepth 20000 in
theorem gJx4a65c_add_7a177_Jx4a65c_grow_d5877 : GoodIn wsJx4a65c_add_7a177 (wsV RJx4a65c 129 RJx4a65c yJx4a65c_grow_d5877 wsJx4a65c_grow_d5877) := goodIn_app (goodIn_of _ (by decide +kernel)) ggJx4a65c_add_7a177_Jx4a65c_grow_d5877
set_option maxRecDepth 20000 in
theorem ggJx4a65c_remove_915e3_J15_checkIndex_7cf53 : GoodIn wsJx4a65c_remove_915e3 wsJ15_checkIndex_7cf53 := goodIn_r _ [6, 7, 8, 9, 10] (by decide +kernel) (by decide +kernel)
set_option maxRecDepth 20000 in
theorem gJx4a65c_remove_915e3_J15_checkIndex_7cf53 : GoodIn wsJx4a65c_remove_915e3 (va_wsS RJx4a65c 118 yJ15_checkIndex_7cf53 wsJ15_checkIndex_7cf53) := goodIn_app (goodIn_of _ (by decide +kernel)) ggJx4a65c_remove_915e3_J15_checkIndex_7cf53
set_option maxRecDepth 20000 in
theorem ggJx4a65c_remove_915e3_Jx4a65c_fastRemove_b59b0 : GoodIn wsJx4a65c_remove_915e3 wsJx4a65c_fastRemove_b59b0 := goodIn_r _ [15, 16, 17, 1, 18, 19, 20, 21, 22, 23, 24] (by decide +kernel) (by decide +kernel)
set_option maxRecDepth 20000 in
theorem gJx4a65c_remove_915e3_Jx4a65c_fastRemove_b59b0 : GoodIn wsJx4a65c_remove_915e3 (wsV RJx4a65c 144 RJx4a65c yJx4a65c_fastRemove_b59b0 wsJx4a65c_fastRemove_b59b0) := goodIn_app (goodIn_of _ (by decide +kernel)) ggJx4a65c_remove_915e3_Jx4a65c_fastRemove_b59b0
set_option maxRecDepth 20000 in
theorem ggJ7_copyOf_1904c_J7_copyOf_6403c : GoodIn wsJ7_copyOf_1904c wsJ7_copyOf_6403c := goodIn_r _ [8, 9, 10, 11, 12, 13, 14, 15, 16, 17, 18] (by decide +kernel) (by decide +kernel)
set_option maxRecDepth 20000 in
theorem gJ7_copyOf_1904c_J7_copyOf_6403c : GoodIn wsJ7_copyOf_1904c (va_wsS RJ7 300 yJ7_copyOf_6403c wsJ7_copyOf_6403c) := goodIn_app (goodIn_of _ (by decide +kernel)) ggJ7_copyOf_1904c_J7_copyOf_6403c
set_option maxRecDepth 20000 in
theorem ggJ15_checkIndex_7cf53_J3_checkIndex_8e157 : GoodIn wsJ15_checkIndex_7cf53 wsJ3_checkIndex_8e157 := goodIn_r _ [4] (by decide +kernel) (by decide +kernel)
set_option maxRecDepth 20000 in
theorem gJ15_checkIndex_7cf53_J3_checkIndex_8e157 : GoodIn wsJ15_checkIndex_7cf53 (va_wsS RJ15 105 yJ3_checkIndex_8e157 wsJ3_checkIndex_8e157) := goodIn_app (goodIn_of _ (by decide +kernel)) ggJ15_checkIndex_7cf53_J3_checkIndex_8e157
set_option maxRecDepth 20000 in
theorem ggJ8_newLength_cabcc_J8_hugeLength_7cf53 : GoodIn wsJ8_newLength_cabcc wsJ8_hugeLength_7cf53 := goodIn_r _ [9, 5] (by decide +kernel) (by decide +kernel)
set_option maxRecDepth 20000 in
theorem gJ8_newLength_cabcc_J8_hugeLength_7cf53 : GoodIn wsJ8_newLength_cabcc (va_wsS RJ8 201 yJ8_hugeLength_7cf53 wsJ8_hugeLength_7cf53) := goodIn_app (goodIn_of _ (by decide +kernel)) ggJ8_newLength_cabcc_J8_hugeLength_7cf53
