set_option maxRecDepth 20000 in
theorem ggX0_countShared_J13_bitCount_95d88 : GoodIn wsX0_countShared wsJ13_bitCount_95d88 := goodIn_r _ [5, 6, 7, 8] (by decide +kernel) (by decide +kernel)
set_option maxRecDepth 20000 in
theorem gX0_countShared_J13_bitCount_95d88 : GoodIn wsX0_countShared (va_wsS RX0 32 yJ13_bitCount_95d88 wsJ13_bitCount_95d88) := goodIn_app (goodIn_of _ (by decide +kernel)) ggX0_countShared_J13_bitCount_95d88
set_option maxRecDepth 20000 in
theorem ggX1_init_X3_init : GoodIn wsX1_init wsX3_init := goodIn_r _ [15, 16, 2, 3, 9, 17, 18, 19, 20, 21] (by decide +kernel) (by decide +kernel)
set_option maxRecDepth 20000 in
theorem gX1_init_X3_init_n11 : GoodIn wsX1_init (wsX3_init) := ggX1_init_X3_init
set_option maxRecDepth 20000 in
theorem ggX1_learn_X1_begin : GoodIn wsX1_learn wsX1_begin := goodIn_r _ [10, 11, 12, 13, 14, 2, 15, 16, 17, 18, 3, 19, 20, 5, 4, 21, 22, 23, 24, 25, 26, 27, 28, 29, 30, 31, 32, 33, 34, 35, 36, 37, 38, 39, 40, 41, 42, 43, 92, 93, 94, 95, 96, 97, 98, 99, 100, 101, 102, 103, 104, 105, 106, 107, 108, 109, 110, 111, 112] (by decide +kernel) (by decide +kernel)
set_option maxRecDepth 20000 in
theorem gX1_learn_X1_begin : GoodIn wsX1_learn (wsV RX1 38 RX1 yX1_begin wsX1_begin) := goodIn_app (goodIn_of _ (by decide +kernel)) ggX1_learn_X1_begin
set_option maxRecDepth 20000 in
theorem ggX1_learn_Jx4a65c_get_915e3 : GoodIn wsX1_learn wsJx4a65c_get_915e3 := goodIn_r _ [30, 26, 31, 32, 33, 34, 35, 36, 37, 38, 39, 40, 41, 24, 42, 43, 110, 111, 112] (by decide +kernel) (by decide +kernel)
set_option maxRecDepth 20000 in
theorem gX1_learn_Jx4a65c_get_915e3 : GoodIn wsX1_learn (wsV RX1 46 RJx4a65c yJx4a65c_get_915e3 wsJx4a65c_get_915e3) := goodIn_app (goodIn_of _ (by decide +kernel)) ggX1_learn_Jx4a65c_get_915e3
set_option maxRecDepth 20000 in
theorem ggX1_learn_X1_compare : GoodIn wsX1_learn wsX1_compare := goodIn_r _ [47, 15, 19, 17, 20, 5, 48, 49, 50, 51, 52, 53, 54, 55, 56, 57, 58, 59, 60, 61, 62, 63, 64, 65, 66, 67, 68, 69, 70, 71, 72, 73, 74, 75, 76, 77, 78, 79, 80, 81, 82, 83, 84, 85, 86, 87, 9, 88, 11, 12, 13, 14, 89, 90, 91, 2, 92, 93, 94, 95, 96, 97, 98, 99, 103, 104, 105, 106, 107, 108, 109, 113, 114, 115, 116, 100, 101, 102] (by decide +kernel) (by decide +kernel)
set_option maxRecDepth 20000 in
theorem gX1_learn_X1_compare : GoodIn wsX1_learn (wsV RX1 54 RX1 yX1_compare wsX1_compare) := goodIn_app (goodIn_of _ (by decide +kernel)) ggX1_learn_X1_compare
set_option maxRecDepth 20000 in
theorem ggX1_begin_Jx4a65c_size_8abf5 : GoodIn wsX1_begin wsJx4a65c_size_8abf5 := goodIn_r _ [19, 20, 56, 57, 58] (by decide +kernel) (by decide +kernel)
set_option maxRecDepth 20000 in
theorem gX1_begin_Jx4a65c_size_8abf5 : GoodIn wsX1_begin (wsV RX1 58 RJx4a65c yJx4a65c_size_8abf5 wsJx4a65c_size_8abf5) := goodIn_app (goodIn_of _ (by decide +kernel)) ggX1_begin_Jx4a65c_size_8abf5
set_option maxRecDepth 20000 in
theorem ggX1_begin_Jx4a65c_get_915e3 : GoodIn wsX1_begin wsJx4a65c_get_915e3 := goodIn_r _ [24, 20, 25, 26, 27, 28, 29, 30, 31, 32, 33, 34, 35, 18, 36, 37, 56, 57, 58] (by decide +kernel) (by decide +kernel)
set_option maxRecDepth 20000 in
theorem gX1_begin_Jx4a65c_get_915e3 : GoodIn wsX1_begin (wsV RX1 46 RJx4a65c yJx4a65c_get_915e3 wsJx4a65c_get_915e3) := goodIn_app (goodIn_of _ (by decide +kernel)) ggX1_begin_Jx4a65c_get_915e3
set_option maxRecDepth 20000 in
theorem ggX1_compare_X2_firstBand : GoodIn wsX1_compare wsX2_firstBand := goodIn_r _ [10, 11, 12, 13, 14, 15, 16, 9, 17, 18, 64, 65, 66, 67, 68, 69, 70, 71, 72, 73, 74] (by decide +kernel) (by decide +kernel)
set_option maxRecDepth 20000 in
theorem gX1_compare_X2_firstBand : GoodIn wsX1_compare (wsV RX1 72 RX2 yX2_firstBand wsX2_firstBand) := goodIn_app (goodIn_of _ (by decide +kernel)) ggX1_compare_X2_firstBand
set_option maxRecDepth 20000 in
theorem ggX1_compare_X3_put : GoodIn wsX1_compare wsX3_put := goodIn_r _ [23, 24, 25, 26, 75, 76, 77] (by decide +kernel) (by decide +kernel)
set_option maxRecDepth 20000 in
theorem gX1_compare_X3_put : GoodIn wsX1_compare (wsV RX1 78 RX3 yX3_put wsX3_put) := goodIn_app (goodIn_of _ (by decide +kernel)) ggX1_compare_X3_put
set_option maxRecDepth 20000 in
theorem ggX1_compare_X2_areNear : GoodIn wsX1_compare wsX2_areNear := goodIn_r _ [30, 31, 32, 33, 34, 35, 9, 36, 37, 38, 39, 40, 41, 42, 11, 71, 72, 73, 74, 64, 65, 66, 67, 68, 69, 70] (by decide +kernel) (by decide +kernel)
set_option maxRecDepth 20000 in
theorem gX1_compare_X2_areNear : GoodIn wsX1_compare (wsV RX1 82 RX2 yX2_areNear wsX2_areNear) := goodIn_app (goodIn_of _ (by decide +kernel)) ggX1_compare_X2_areNear
set_option maxRecDepth 20000 in
theorem ggX1_compare_X1_join : GoodIn wsX1_compare wsX1_join := goodIn_r _ [47, 48, 49, 50, 51, 52, 53, 54, 55, 5, 56, 57, 58, 59, 60, 61, 62, 63] (by decide +kernel) (by decide +kernel)
set_option maxRecDepth 20000 in
theorem gX1_compare_X1_join : GoodIn wsX1_compare (wsV RX1 86 RX1 yX1_join wsX1_join) := goodIn_app (goodIn_of _ (by decide +kernel)) ggX1_compare_X1_join
set_option maxRecDepth 20000 in
theorem ggX2_all_X2_common : GoodIn wsX2_all wsX2_common := goodIn_r _ [6, 7, 8, 9, 10, 11, 12, 13, 14, 15] (by decide +kernel) (by decide +kernel)
set_option maxRecDepth 20000 in
theorem gX2_all_X2_common : GoodIn wsX2_all (wsV RX2 36 RX2 yX2_common wsX2_common) := goodIn_app (goodIn_of _ (by decide +kernel)) ggX2_all_X2_common
set_option maxRecDepth 20000 in
theorem ggX2_firstBand_X2_agree : GoodIn wsX2_firstBand wsX2_agree := goodIn_r _ [8, 3, 9, 17, 18, 19, 20, 10, 11, 12, 13, 14, 15, 16] (by decide +kernel) (by decide +kernel)
set_option maxRecDepth 20000 in
theorem gX2_firstBand_X2_agree : GoodIn wsX2_firstBand (wsV RX2 43 RX2 yX2_agree wsX2_agree) := goodIn_app (goodIn_of _ (by decide +kernel)) ggX2_firstBand_X2_agree
set_option maxRecDepth 20000 in
theorem ggX2_areTwins_X2_firstBand : GoodIn wsX2_areTwins wsX2_firstBand := goodIn_r _ [5, 6, 7, 8, 9, 10, 11, 4, 12, 13, 30, 31, 32, 33, 34, 35, 36, 37, 38, 39, 40] (by decide +kernel) (by decide +kernel)
set_option maxRecDepth 20000 in
theorem gX2_areTwins_X2_firstBand : GoodIn wsX2_areTwins (wsV RX2 47 RX2 yX2_firstBand wsX2_firstBand) := goodIn_app (goodIn_of _ (by decide +kernel)) ggX2_areTwins_X2_firstBand
set_option maxRecDepth 20000 in
theorem ggX2_areTwins_X2_areNear : GoodIn wsX2_areTwins wsX2_areNear := goodIn_r _ [17, 18, 19, 20, 21, 22, 4, 23, 24, 25, 26, 27, 28, 29, 6, 37, 38, 39, 40, 30, 31, 32, 33, 34, 35, 36] (by decide +kernel) (by decide +kernel)
set_option maxRecDepth 20000 in
theorem gX2_areTwins_X2_areNear : GoodIn wsX2_areTwins (wsV RX2 50 RX2 yX2_areNear wsX2_areNear) := goodIn_app (goodIn_of _ (by decide +kernel)) ggX2_areTwins_X2_areNear
set_option maxRecDepth 20000 in
theorem ggX2_areNear_X2_common : GoodIn wsX2_areNear wsX2_common := goodIn_r _ [7, 8, 9, 19, 20, 21, 22, 23, 24, 25] (by decide +kernel) (by decide +kernel)
set_option maxRecDepth 20000 in
theorem gX2_areNear_X2_common : GoodIn wsX2_areNear (wsV RX2 36 RX2 yX2_common wsX2_common) := goodIn_app (goodIn_of _ (by decide +kernel)) ggX2_areNear_X2_common
set_option maxRecDepth 20000 in
theorem ggX2_areNear_X2_all : GoodIn wsX2_areNear wsX2_all := goodIn_r _ [13, 14, 3, 4, 5, 6, 7, 8, 9, 19, 20, 21, 22, 23, 24, 25] (by decide +kernel) (by decide +kernel)
set_option maxRecDepth 20000 in
theorem gX2_areNear_X2_all : GoodIn wsX2_areNear (wsV RX2 54 RX2 yX2_all wsX2_all) := goodIn_app (goodIn_of _ (by decide +kernel)) ggX2_areNear_X2_all
set_option maxRecDepth 20000 in
theorem ggX2_isNearer_X2_common : GoodIn wsX2_isNearer wsX2_common := goodIn_r _ [9, 10, 11, 17, 18, 19, 20, 21, 22, 23] (by decide +kernel) (by decide +kernel)
set_option maxRecDepth 20000 in
theorem gX2_isNearer_X2_common : GoodIn wsX2_isNearer (wsV RX2 36 RX2 yX2_common wsX2_common) := goodIn_app (goodIn_of _ (by decide +kernel)) ggX2_isNearer_X2_common
set_option maxRecDepth 20000 in
theorem ggX2_isNearer_X2_all : GoodIn wsX2_isNearer wsX2_all := goodIn_r _ [15, 16, 5, 6, 7, 8, 9, 10, 11, 17, 18, 19, 20, 21, 22, 23] (by decide +kernel) (by decide +kernel)
set_option maxRecDepth 20000 in
theorem gX2_isNearer_X2_all : GoodIn wsX2_isNearer (wsV RX2 54 RX2 yX2_all wsX2_all) := goodIn_app (goodIn_of _ (by decide +kernel)) ggX2_isNearer_X2_all
set_option maxRecDepth 20000 in
theorem ggX4_become_X4_isOne : GoodIn wsX4_become wsX4_isOne := goodIn_r _ [8] (by decide +kernel) (by decide +kernel)
set_option maxRecDepth 20000 in
theorem gX4_become_X4_isOne : GoodIn wsX4_become (va_wsS RX4 28 yX4_isOne wsX4_isOne) := goodIn_app (goodIn_of _ (by decide +kernel)) ggX4_become_X4_isOne
set_option maxRecDepth 20000 in
theorem ggX4_become_X4_isNumber : GoodIn wsX4_become wsX4_isNumber := goodIn_r _ [11, 12] (by decide +kernel) (by decide +kernel)
set_option maxRecDepth 20000 in
theorem gX4_become_X4_isNumber : GoodIn wsX4_become (va_wsS RX4 32 yX4_isNumber wsX4_isNumber) := goodIn_app (goodIn_of _ (by decide +kernel)) ggX4_become_X4_isNumber
set_option maxRecDepth 20000 in
theorem ggX4_become_X4_dropMoved : GoodIn wsX4_become wsX4_dropMoved := goodIn_r _ [16, 17, 18, 19, 20, 21, 22, 23, 24, 25, 26] (by decide +kernel) (by decide +kernel)
set_option maxRecDepth 20000 in
theorem gX4_become_X4_dropMoved : GoodIn wsX4_become (wsV RX4 39 RX4 yX4_dropMoved wsX4_dropMoved) := goodIn_app (goodIn_of _ (by decide +kernel)) ggX4_become_X4_dropMoved
set_option maxRecDepth 20000 in
theorem ggX4_swap_X4_isOne : GoodIn wsX4_swap wsX4_isOne := goodIn_r _ [6] (by decide +kernel) (by decide +kernel)
set_option maxRecDepth 20000 in
theorem gX4_swap_X4_isOne : GoodIn wsX4_swap (va_wsS RX4 28 yX4_isOne wsX4_isOne) := goodIn_app (goodIn_of _ (by decide +kernel)) ggX4_swap_X4_isOne
set_option maxRecDepth 20000 in
theorem ggX4_swap_X4_isNumber : GoodIn wsX4_swap wsX4_isNumber := goodIn_r _ [9, 10] (by decide +kernel) (by decide +kernel)
set_option maxRecDepth 20000 in
theorem gX4_swap_X4_isNumber : GoodIn wsX4_swap (va_wsS RX4 32 yX4_isNumber wsX4_isNumber) := goodIn_app (goodIn_of _ (by decide +kernel)) ggX4_swap_X4_isNumber
set_option maxRecDepth 20000 in
theorem ggX4_swap_X4_imageOf : GoodIn wsX4_swap wsX4_imageOf := goodIn_r _ [14, 2, 15, 16, 17, 18, 19, 20, 3, 4, 5, 6, 7, 8, 9, 10, 21, 22, 23, 24, 25, 26, 27, 32, 33, 34, 35, 36, 37, 38] (by decide +kernel) (by decide +kernel)
set_option maxRecDepth 20000 in
theorem gX4_swap_X4_imageOf : GoodIn wsX4_swap (wsV RX4 43 RX4 yX4_imageOf wsX4_imageOf) := goodIn_app (goodIn_of _ (by decide +kernel)) ggX4_swap_X4_imageOf
set_option maxRecDepth 20000 in
theorem ggX4_swap_X4_keyOf : GoodIn wsX4_swap wsX4_keyOf := goodIn_r _ [23] (by decide +kernel) (by decide +kernel)
set_option maxRecDepth 20000 in
theorem gX4_swap_X4_keyOf : GoodIn wsX4_swap (va_wsS RX4 47 yX4_keyOf wsX4_keyOf) := goodIn_app (goodIn_of _ (by decide +kernel)) ggX4_swap_X4_keyOf
set_option maxRecDepth 20000 in
theorem ggX4_swap_X4_move : GoodIn wsX4_swap wsX4_move := goodIn_r _ [31, 15, 16, 17, 24, 25, 26, 5, 27, 32, 33, 34, 35, 36, 37, 38] (by decide +kernel) (by decide +kernel)
set_option maxRecDepth 20000 in
theorem gX4_swap_X4_move : GoodIn wsX4_swap (wsV RX4 50 RX4 yX4_move wsX4_move) := goodIn_app (goodIn_of _ (by decide +kernel)) ggX4_swap_X4_move
set_option maxRecDepth 20000 in
theorem ggX4_imageOf_X4_isOne : GoodIn wsX4_imageOf wsX4_isOne := goodIn_r _ [11] (by decide +kernel) (by decide +kernel)
set_option maxRecDepth 20000 in
theorem gX4_imageOf_X4_isOne : GoodIn wsX4_imageOf (va_wsS RX4 28 yX4_isOne wsX4_isOne) := goodIn_app (goodIn_of _ (by decide +kernel)) ggX4_imageOf_X4_isOne
set_option maxRecDepth 20000 in
theorem ggX4_imageOf_X4_isNumber : GoodIn wsX4_imageOf wsX4_isNumber := goodIn_r _ [14, 15] (by decide +kernel) (by decide +kernel)
set_option maxRecDepth 20000 in
theorem gX4_imageOf_X4_isNumber : GoodIn wsX4_imageOf (va_wsS RX4 32 yX4_isNumber wsX4_isNumber) := goodIn_app (goodIn_of _ (by decide +kernel)) ggX4_imageOf_X4_isNumber
set_option maxRecDepth 20000 in
theorem ggX4_imageOf_X4_keyOf : GoodIn wsX4_imageOf wsX4_keyOf := goodIn_r _ [18] (by decide +kernel) (by decide +kernel)
set_option maxRecDepth 20000 in
theorem gX4_imageOf_X4_keyOf : GoodIn wsX4_imageOf (va_wsS RX4 47 yX4_keyOf wsX4_keyOf) := goodIn_app (goodIn_of _ (by decide +kernel)) ggX4_imageOf_X4_keyOf
set_option maxRecDepth 20000 in
theorem ggX4_imageOf_X4_placeFor : GoodIn wsX4_imageOf wsX4_placeFor := goodIn_r _ [22, 2, 3, 23, 24, 25, 26, 27, 28, 29] (by decide +kernel) (by decide +kernel)
set_option maxRecDepth 20000 in
theorem gX4_imageOf_X4_placeFor : GoodIn wsX4_imageOf (wsV RX4 54 RX4 yX4_placeFor wsX4_placeFor) := goodIn_app (goodIn_of _ (by decide +kernel)) ggX4_imageOf_X4_placeFor
set_option maxRecDepth 20000 in
theorem ggX4_leastOf_X4_imageOf : GoodIn wsX4_leastOf wsX4_imageOf := goodIn_r _ [12, 13, 14, 15, 16, 17, 18, 19, 20, 21, 11, 22, 23, 24, 25, 1, 26, 27, 28, 29, 30, 31, 32, 40, 41, 42, 43, 44, 45, 46] (by decide +kernel) (by decide +kernel)
set_option maxRecDepth 20000 in
theorem gX4_leastOf_X4_imageOf : GoodIn wsX4_leastOf (wsV RX4 43 RX4 yX4_imageOf wsX4_imageOf) := goodIn_app (goodIn_of _ (by decide +kernel)) ggX4_leastOf_X4_imageOf
set_option maxRecDepth 20000 in
theorem ggX4_move_X4_placeFor : GoodIn wsX4_move wsX4_placeFor := goodIn_r _ [8, 1, 2, 9, 10, 11, 12, 13, 14, 15] (by decide +kernel) (by decide +kernel)
set_option maxRecDepth 20000 in
theorem gX4_move_X4_placeFor : GoodIn wsX4_move (wsV RX4 54 RX4 yX4_placeFor wsX4_placeFor) := goodIn_app (goodIn_of _ (by decide +kernel)) ggX4_move_X4_placeFor
set_option maxRecDepth 20000 in
theorem ggX5_init_Jx4a65c_init_da8c8 : GoodIn wsX5_init wsJx4a65c_init_da8c8 := goodIn_r _ [12, 13, 14, 15, 16, 17, 18, 19, 20, 21, 22, 23, 24, 2, 3, 25, 26, 27] (by decide +kernel) (by decide +kernel)
set_option maxRecDepth 20000 in
theorem gX5_init_Jx4a65c_init_da8c8 : GoodIn wsX5_init (wsJx4a65c_init_da8c8) := ggX5_init_Jx4a65c_init_da8c8
set_option maxRecDepth 20000 in
theorem ggX5_isFull_Jx4a65c_size_8abf5 : GoodIn wsX5_isFull wsJx4a65c_size_8abf5 := goodIn_r _ [7, 8, 13, 14, 15] (by decide +kernel) (by decide +kernel)
set_option maxRecDepth 20000 in
theorem gX5_isFull_Jx4a65c_size_8abf5 : GoodIn wsX5_isFull (wsV RX5 24 RJx4a65c yJx4a65c_size_8abf5 wsJx4a65c_size_8abf5) := goodIn_app (goodIn_of _ (by decide +kernel)) ggX5_isFull_Jx4a65c_size_8abf5
set_option maxRecDepth 20000 in
theorem ggX5_placeOf_Jx4a65c_size_8abf5 : GoodIn wsX5_placeOf wsJx4a65c_size_8abf5 := goodIn_r _ [8, 9, 38, 39, 40] (by decide +kernel) (by decide +kernel)
set_option maxRecDepth 20000 in
theorem gX5_placeOf_Jx4a65c_size_8abf5 : GoodIn wsX5_placeOf (wsV RX5 24 RJx4a65c yJx4a65c_size_8abf5 wsJx4a65c_size_8abf5) := goodIn_app (goodIn_of _ (by decide +kernel)) ggX5_placeOf_Jx4a65c_size_8abf5
set_option maxRecDepth 20000 in
theorem ggX5_placeOf_Jx4a65c_get_915e3 : GoodIn wsX5_placeOf wsJx4a65c_get_915e3 := goodIn_r _ [13, 9, 14, 15, 16, 17, 18, 19, 20, 21, 22, 23, 24, 7, 25, 26, 38, 39, 40] (by decide +kernel) (by decide +kernel)
set_option maxRecDepth 20000 in
theorem gX5_placeOf_Jx4a65c_get_915e3 : GoodIn wsX5_placeOf (wsV RX5 32 RJx4a65c yJx4a65c_get_915e3 wsJx4a65c_get_915e3) := goodIn_app (goodIn_of _ (by decide +kernel)) ggX5_placeOf_Jx4a65c_get_915e3
set_option maxRecDepth 20000 in
theorem ggX5_takeNext_Jx4a65c_isEmpty_aae02 : GoodIn wsX5_takeNext wsJx4a65c_isEmpty_aae02 := goodIn_r _ [13, 14, 114, 115, 116] (by decide +kernel) (by decide +kernel)
set_option maxRecDepth 20000 in
theorem gX5_takeNext_Jx4a65c_isEmpty_aae02 : GoodIn wsX5_takeNext (wsV RX5 41 RJx4a65c yJx4a65c_isEmpty_aae02 wsJx4a65c_isEmpty_aae02) := goodIn_app (goodIn_of _ (by decide +kernel)) ggX5_takeNext_Jx4a65c_isEmpty_aae02
set_option maxRecDepth 20000 in
theorem ggX5_takeNext_Jx4a65c_size_8abf5 : GoodIn wsX5_takeNext wsJx4a65c_size_8abf5 := goodIn_r _ [18, 14, 114, 115, 116] (by decide +kernel) (by decide +kernel)
set_option maxRecDepth 20000 in
theorem gX5_takeNext_Jx4a65c_size_8abf5 : GoodIn wsX5_takeNext (wsV RX5 24 RJx4a65c yJx4a65c_size_8abf5 wsJx4a65c_size_8abf5) := goodIn_app (goodIn_of _ (by decide +kernel)) ggX5_takeNext_Jx4a65c_size_8abf5
set_option maxRecDepth 20000 in
theorem ggX5_takeNext_X0_init : GoodIn wsX5_takeNext wsX0_init := goodIn_r _ [21, 22, 23, 24, 25, 26, 27, 28, 29, 30, 31, 107, 108, 109, 110, 111, 112, 113] (by decide +kernel) (by decide +kernel)
set_option maxRecDepth 20000 in
theorem gX5_takeNext_X0_init : GoodIn wsX5_takeNext (wsX0_init) := ggX5_takeNext_X0_init
set_option maxRecDepth 20000 in
theorem ggX5_takeNext_Jx4a65c_remove_915e3 : GoodIn wsX5_takeNext wsJx4a65c_remove_915e3 := goodIn_r _ [35, 14, 36, 37, 38, 39, 40, 41, 42, 43, 44, 45, 46, 47, 12, 48, 49, 50, 51, 52, 53, 54, 114, 115, 116] (by decide +kernel) (by decide +kernel)
set_option maxRecDepth 20000 in
theorem gX5_takeNext_Jx4a65c_remove_915e3 : GoodIn wsX5_takeNext (wsV RX5 48 RJx4a65c yJx4a65c_remove_915e3 wsJx4a65c_remove_915e3) := goodIn_app (goodIn_of _ (by decide +kernel)) ggX5_takeNext_Jx4a65c_remove_915e3
set_option maxRecDepth 20000 in
theorem ggX5_takeNext_Jx4a65c_add_9ea2d : GoodIn wsX5_takeNext wsJx4a65c_add_9ea2d := goodIn_r _ [58, 49, 50, 36, 14, 59, 60, 61, 12, 62, 63, 64, 65, 66, 67, 68, 69, 70, 71, 72, 73, 74, 75, 76, 77, 78, 79, 80, 81, 82, 83, 84, 85, 86, 87, 88, 89, 90, 91, 92, 93, 94, 95, 96, 97, 98, 99, 100, 101, 102, 52, 53, 54, 114, 115, 116] (by decide +kernel) (by decide +kernel)
set_option maxRecDepth 20000 in
theorem gX5_takeNext_Jx4a65c_add_9ea2d : GoodIn wsX5_takeNext (wsV RX5 51 RJx4a65c yJx4a65c_add_9ea2d wsJx4a65c_add_9ea2d) := goodIn_app (goodIn_of _ (by decide +kernel)) ggX5_takeNext_Jx4a65c_add_9ea2d
set_option maxRecDepth 20000 in
theorem ggX5_shareWithAll_Jx4a65c_size_8abf5 : GoodIn wsX5_shareWithAll wsJx4a65c_size_8abf5 := goodIn_r _ [9, 10, 52, 53, 54] (by decide +kernel) (by decide +kernel)
set_option maxRecDepth 20000 in
theorem gX5_shareWithAll_Jx4a65c_size_8abf5 : GoodIn wsX5_shareWithAll (wsV RX5 24 RJx4a65c yJx4a65c_size_8abf5 wsJx4a65c_size_8abf5) := goodIn_app (goodIn_of _ (by decide +kernel)) ggX5_shareWithAll_Jx4a65c_size_8abf5
set_option maxRecDepth 20000 in
theorem ggX5_shareWithAll_Jx4a65c_get_915e3 : GoodIn wsX5_shareWithAll wsJx4a65c_get_915e3 := goodIn_r _ [14, 10, 15, 16, 17, 18, 19, 20, 21, 22, 23, 24, 25, 8, 26, 27, 52, 53, 54] (by decide +kernel) (by decide +kernel)
set_option maxRecDepth 20000 in
theorem gX5_shareWithAll_Jx4a65c_get_915e3 : GoodIn wsX5_shareWithAll (wsV RX5 32 RJx4a65c yJx4a65c_get_915e3 wsJx4a65c_get_915e3) := goodIn_app (goodIn_of _ (by decide +kernel)) ggX5_shareWithAll_Jx4a65c_get_915e3
set_option maxRecDepth 20000 in
theorem ggX5_shareWithAll_X0_countShared : GoodIn wsX5_shareWithAll wsX0_countShared := goodIn_r _ [32, 33, 34, 35, 36, 37, 38, 39, 40, 45, 46, 47, 48, 49, 50, 51] (by decide +kernel) (by decide +kernel)
set_option maxRecDepth 20000 in
theorem gX5_shareWithAll_X0_countShared : GoodIn wsX5_shareWithAll (wsV RX5 55 RX0 yX0_countShared wsX0_countShared) := goodIn_app (goodIn_of _ (by decide +kernel)) ggX5_shareWithAll_X0_countShared
set_option maxRecDepth 20000 in
theorem ggX5_putAway_X5_placeOf : GoodIn wsX5_putAway wsX5_placeOf := goodIn_r _ [8, 2, 3, 9, 10, 11, 12, 13, 14, 15, 16, 17, 18, 19, 20, 21, 22, 23, 24, 25, 26, 27, 28, 29, 30, 31, 32, 95, 96, 97, 98, 99, 100, 101, 102, 103, 104, 105, 106, 107, 108] (by decide +kernel) (by decide +kernel)
set_option maxRecDepth 20000 in
theorem gX5_putAway_X5_placeOf : GoodIn wsX5_putAway (wsV RX5 66 RX5 yX5_placeOf wsX5_placeOf) := goodIn_app (goodIn_of _ (by decide +kernel)) ggX5_putAway_X5_placeOf
set_option maxRecDepth 20000 in
theorem ggX5_putAway_Jx4a65c_remove_915e3 : GoodIn wsX5_putAway wsJx4a65c_remove_915e3 := goodIn_r _ [36, 15, 32, 20, 21, 22, 23, 24, 25, 26, 27, 37, 38, 39, 13, 40, 41, 42, 43, 44, 45, 46, 106, 107, 108] (by decide +kernel) (by decide +kernel)
set_option maxRecDepth 20000 in
theorem gX5_putAway_Jx4a65c_remove_915e3 : GoodIn wsX5_putAway (wsV RX5 48 RJx4a65c yJx4a65c_remove_915e3 wsJx4a65c_remove_915e3) := goodIn_app (goodIn_of _ (by decide +kernel)) ggX5_putAway_Jx4a65c_remove_915e3
set_option maxRecDepth 20000 in
theorem ggX5_putAway_Jx4a65c_add_9ea2d : GoodIn wsX5_putAway wsJx4a65c_add_9ea2d := goodIn_r _ [50, 41, 42, 32, 15, 51, 52, 53, 13, 54, 55, 56, 57, 58, 59, 60, 61, 62, 63, 64, 65, 66, 67, 68, 69, 70, 71, 72, 73, 74, 75, 76, 77, 78, 79, 80, 81, 82, 83, 84, 85, 86, 87, 88, 89, 90, 91, 92, 93, 94, 44, 45, 46, 106, 107, 108] (by decide +kernel) (by decide +kernel)
set_option maxRecDepth 20000 in
theorem gX5_putAway_Jx4a65c_add_9ea2d : GoodIn wsX5_putAway (wsV RX5 51 RJx4a65c yJx4a65c_add_9ea2d wsJx4a65c_add_9ea2d) := goodIn_app (goodIn_of _ (by decide +kernel)) ggX5_putAway_Jx4a65c_add_9ea2d
set_option maxRecDepth 20000 in
theorem ggX5_putAllAway_Jx4a65c_size_8abf5 : GoodIn wsX5_putAllAway wsJx4a65c_size_8abf5 := goodIn_r _ [9, 10, 89, 90, 91] (by decide +kernel) (by decide +kernel)
set_option maxRecDepth 20000 in
theorem gX5_putAllAway_Jx4a65c_size_8abf5 : GoodIn wsX5_putAllAway (wsV RX5 24 RJx4a65c yJx4a65c_size_8abf5 wsJx4a65c_size_8abf5) := goodIn_app (goodIn_of _ (by decide +kernel)) ggX5_putAllAway_Jx4a65c_size_8abf5
set_option maxRecDepth 20000 in
theorem ggX5_putAllAway_Jx4a65c_get_915e3 : GoodIn wsX5_putAllAway wsJx4a65c_get_915e3 := goodIn_r _ [14, 10, 15, 16, 17, 18, 19, 20, 21, 22, 23, 24, 25, 8, 26, 27, 89, 90, 91] (by decide +kernel) (by decide +kernel)
set_option maxRecDepth 20000 in
theorem gX5_putAllAway_Jx4a65c_get_915e3 : GoodIn wsX5_putAllAway (wsV RX5 32 RJx4a65c yJx4a65c_get_915e3 wsJx4a65c_get_915e3) := goodIn_app (goodIn_of _ (by decide +kernel)) ggX5_putAllAway_Jx4a65c_get_915e3
set_option maxRecDepth 20000 in
theorem ggX5_putAllAway_Jx4a65c_add_9ea2d : GoodIn wsX5_putAllAway wsJx4a65c_add_9ea2d := goodIn_r _ [31, 32, 33, 27, 10, 34, 35, 36, 8, 37, 38, 39, 40, 41, 42, 43, 44, 45, 46, 47, 48, 49, 50, 51, 52, 53, 54, 55, 56, 57, 58, 59, 60, 61, 62, 63, 64, 65, 66, 67, 68, 69, 70, 71, 72, 73, 74, 75, 76, 77, 78, 79, 80, 89, 90, 91] (by decide +kernel) (by decide +kernel)
set_option maxRecDepth 20000 in
theorem gX5_putAllAway_Jx4a65c_add_9ea2d : GoodIn wsX5_putAllAway (wsV RX5 51 RJx4a65c yJx4a65c_add_9ea2d wsJx4a65c_add_9ea2d) := goodIn_app (goodIn_of _ (by decide +kernel)) ggX5_putAllAway_Jx4a65c_add_9ea2d
set_option maxRecDepth 20000 in
theorem ggX5_putAllAway_Jx4a65c_clear_da8c8 : GoodIn wsX5_putAllAway wsJx4a65c_clear_da8c8 := goodIn_r _ [84, 32, 33, 27, 10, 89, 90, 91] (by decide +kernel) (by decide +kernel)
set_option maxRecDepth 20000 in
theorem gX5_putAllAway_Jx4a65c_clear_da8c8 : GoodIn wsX5_putAllAway (wsV RX5 70 RJx4a65c yJx4a65c_clear_da8c8 wsJx4a65c_clear_da8c8) := goodIn_app (goodIn_of _ (by decide +kernel)) ggX5_putAllAway_Jx4a65c_clear_da8c8
set_option maxRecDepth 20000 in
theorem ggX5_othersByNearness_Jx4a65c_clear_da8c8 : GoodIn wsX5_othersByNearness wsJx4a65c_clear_da8c8 := goodIn_r _ [8, 9, 10, 11, 12, 111, 112, 113] (by decide +kernel) (by decide +kernel)
set_option maxRecDepth 20000 in
theorem gX5_othersByNearness_Jx4a65c_clear_da8c8 : GoodIn wsX5_othersByNearness (wsV RX5 70 RJx4a65c yJx4a65c_clear_da8c8 wsJx4a65c_clear_da8c8) := goodIn_app (goodIn_of _ (by decide +kernel)) ggX5_othersByNearness_Jx4a65c_clear_da8c8
set_option maxRecDepth 20000 in
theorem ggX5_othersByNearness_Jx4a65c_size_8abf5 : GoodIn wsX5_othersByNearness wsJx4a65c_size_8abf5 := goodIn_r _ [16, 12, 111, 112, 113] (by decide +kernel) (by decide +kernel)
set_option maxRecDepth 20000 in
theorem gX5_othersByNearness_Jx4a65c_size_8abf5 : GoodIn wsX5_othersByNearness (wsV RX5 24 RJx4a65c yJx4a65c_size_8abf5 wsJx4a65c_size_8abf5) := goodIn_app (goodIn_of _ (by decide +kernel)) ggX5_othersByNearness_Jx4a65c_size_8abf5
set_option maxRecDepth 20000 in
theorem ggX5_othersByNearness_Jx4a65c_get_915e3 : GoodIn wsX5_othersByNearness wsJx4a65c_get_915e3 := goodIn_r _ [20, 12, 21, 22, 23, 24, 25, 26, 27, 28, 29, 30, 31, 7, 32, 11, 111, 112, 113] (by decide +kernel) (by decide +kernel)
set_option maxRecDepth 20000 in
theorem gX5_othersByNearness_Jx4a65c_get_915e3 : GoodIn wsX5_othersByNearness (wsV RX5 32 RJx4a65c yJx4a65c_get_915e3 wsJx4a65c_get_915e3) := goodIn_app (goodIn_of _ (by decide +kernel)) ggX5_othersByNearness_Jx4a65c_get_915e3
set_option maxRecDepth 20000 in
theorem ggX5_othersByNearness_X5_rankOf : GoodIn wsX5_othersByNearness wsX5_rankOf := goodIn_r _ [37, 1, 3, 13, 14, 15, 7, 16, 12, 17, 18, 19, 20, 21, 22, 23, 24, 25, 26, 27, 28, 29, 30, 31, 32, 11, 38, 39, 40, 41, 42, 43, 44, 45, 46, 47, 48, 49, 50, 51, 52, 53, 54, 55, 56, 57, 107, 108, 109, 110, 111, 112, 113, 114, 115, 116, 117, 118, 119, 120] (by decide +kernel) (by decide +kernel)
set_option maxRecDepth 20000 in
theorem gX5_othersByNearness_X5_rankOf : GoodIn wsX5_othersByNearness (wsV RX5 73 RX5 yX5_rankOf wsX5_rankOf) := goodIn_app (goodIn_of _ (by decide +kernel)) ggX5_othersByNearness_X5_rankOf
set_option maxRecDepth 20000 in
theorem ggX5_othersByNearness_Jx4a65c_add_7a177 : GoodIn wsX5_othersByNearness wsJx4a65c_add_7a177 := goodIn_r _ [61, 9, 10, 12, 11, 62, 63, 64, 65, 66, 67, 68, 7, 69, 70, 71, 72, 73, 74, 75, 76, 77, 78, 79, 44, 45, 46, 80, 81, 82, 83, 84, 85, 86, 87, 88, 89, 90, 91, 92, 93, 94, 95, 96, 97, 98, 99, 100, 101, 102, 103, 104, 105, 106, 111, 112, 113] (by decide +kernel) (by decide +kernel)
set_option maxRecDepth 20000 in
theorem gX5_othersByNearness_Jx4a65c_add_7a177 : GoodIn wsX5_othersByNearness (wsV RX5 77 RJx4a65c yJx4a65c_add_7a177 wsJx4a65c_add_7a177) := goodIn_app (goodIn_of _ (by decide +kernel)) ggX5_othersByNearness_Jx4a65c_add_7a177
set_option maxRecDepth 20000 in
theorem ggX5_rankOf_Jx4a65c_size_8abf5 : GoodIn wsX5_rankOf wsJx4a65c_size_8abf5 := goodIn_r _ [7, 8, 50, 51, 52] (by decide +kernel) (by decide +kernel)
set_option maxRecDepth 20000 in
theorem gX5_rankOf_Jx4a65c_size_8abf5 : GoodIn wsX5_rankOf (wsV RX5 24 RJx4a65c yJx4a65c_size_8abf5 wsJx4a65c_size_8abf5) := goodIn_app (goodIn_of _ (by decide +kernel)) ggX5_rankOf_Jx4a65c_size_8abf5
set_option maxRecDepth 20000 in
theorem ggX5_rankOf_Jx4a65c_get_915e3 : GoodIn wsX5_rankOf wsJx4a65c_get_915e3 := goodIn_r _ [12, 8, 13, 14, 15, 16, 17, 18, 19, 20, 21, 22, 23, 6, 24, 25, 50, 51, 52] (by decide +kernel) (by decide +kernel)
set_option maxRecDepth 20000 in
theorem gX5_rankOf_Jx4a65c_get_915e3 : GoodIn wsX5_rankOf (wsV RX5 32 RJx4a65c yJx4a65c_get_915e3 wsJx4a65c_get_915e3) := goodIn_app (goodIn_of _ (by decide +kernel)) ggX5_rankOf_Jx4a65c_get_915e3
set_option maxRecDepth 20000 in
theorem ggX5_rankOf_X2_isNearer : GoodIn wsX5_rankOf wsX2_isNearer := goodIn_r _ [30, 31, 32, 33, 34, 35, 36, 37, 29, 38, 39, 40, 41, 42, 43, 44, 45, 53, 54, 55, 56, 57, 58, 59] (by decide +kernel) (by decide +kernel)
set_option maxRecDepth 20000 in
theorem gX5_rankOf_X2_isNearer : GoodIn wsX5_rankOf (wsV RX5 80 RX2 yX2_isNearer wsX2_isNearer) := goodIn_app (goodIn_of _ (by decide +kernel)) ggX5_rankOf_X2_isNearer
set_option maxRecDepth 20000 in
theorem ggX6_numberOf_X6_firstSeat : GoodIn wsX6_numberOf wsX6_firstSeat := goodIn_r _ [5] (by decide +kernel) (by decide +kernel)
set_option maxRecDepth 20000 in
theorem gX6_numberOf_X6_firstSeat : GoodIn wsX6_numberOf (va_wsS RX6 30 yX6_firstSeat wsX6_firstSeat) := goodIn_app (goodIn_of _ (by decide +kernel)) ggX6_numberOf_X6_firstSeat
set_option maxRecDepth 20000 in
theorem ggX6_numberOf_X6_enter : GoodIn wsX6_numberOf wsX6_enter := goodIn_r _ [9, 10, 11, 12, 13, 1, 14, 19, 20, 21, 22, 23] (by decide +kernel) (by decide +kernel)
set_option maxRecDepth 20000 in
theorem gX6_numberOf_X6_enter : GoodIn wsX6_numberOf (wsV RX6 34 RX6 yX6_enter wsX6_enter) := goodIn_app (goodIn_of _ (by decide +kernel)) ggX6_numberOf_X6_enter
set_option maxRecDepth 20000 in
theorem ggX6_numberOf_X6_isThere : GoodIn wsX6_numberOf wsX6_isThere := goodIn_r _ [18, 10, 13, 19, 20, 21, 22, 23] (by decide +kernel) (by decide +kernel)
set_option maxRecDepth 20000 in
theorem gX6_numberOf_X6_isThere : GoodIn wsX6_numberOf (wsV RX6 38 RX6 yX6_isThere wsX6_isThere) := goodIn_app (goodIn_of _ (by decide +kernel)) ggX6_numberOf_X6_isThere
set_option maxRecDepth 20000 in
theorem ggX7_makePlain_X7_plainSign : GoodIn wsX7_makePlain wsX7_plainSign := goodIn_r _ [7] (by decide +kernel) (by decide +kernel)
set_option maxRecDepth 20000 in
theorem gX7_makePlain_X7_plainSign : GoodIn wsX7_makePlain (va_wsS RX7 29 yX7_plainSign wsX7_plainSign) := goodIn_app (goodIn_of _ (by decide +kernel)) ggX7_makePlain_X7_plainSign
set_option maxRecDepth 20000 in
theorem ggX7_makePlain_X7_putPlain : GoodIn wsX7_makePlain wsX7_putPlain := goodIn_r _ [11, 1, 12, 13, 14, 15, 16, 17, 18, 19] (by decide +kernel) (by decide +kernel)
set_option maxRecDepth 20000 in
theorem gX7_makePlain_X7_putPlain : GoodIn wsX7_makePlain (wsV RX7 33 RX7 yX7_putPlain wsX7_putPlain) := goodIn_app (goodIn_of _ (by decide +kernel)) ggX7_makePlain_X7_putPlain
set_option maxRecDepth 20000 in
theorem ggX8_init_X7_init : GoodIn wsX8_init wsX7_init := goodIn_r _ [33, 34, 2, 3, 35, 36, 37, 28, 38, 104, 105, 106, 107, 108, 109, 110] (by decide +kernel) (by decide +kernel)
set_option maxRecDepth 20000 in
theorem gX8_init_X7_init_n11 : GoodIn wsX8_init (wsX7_init) := ggX8_init_X7_init
set_option maxRecDepth 20000 in
theorem ggX8_init_X6_init : GoodIn wsX8_init wsX6_init := goodIn_r _ [40, 41, 2, 3, 42, 35, 43, 28, 44, 45, 46, 120, 121, 122, 123, 124] (by decide +kernel) (by decide +kernel)
set_option maxRecDepth 20000 in
theorem gX8_init_X6_init_n18 : GoodIn wsX8_init (wsX6_init) := ggX8_init_X6_init
set_option maxRecDepth 20000 in
theorem ggX8_init_X4_init : GoodIn wsX8_init wsX4_init := goodIn_r _ [49, 50, 2, 3, 28, 51, 52, 53, 54, 55, 125, 126, 127, 128, 129, 130, 131] (by decide +kernel) (by decide +kernel)
set_option maxRecDepth 20000 in
theorem gX8_init_X4_init : GoodIn wsX8_init (wsX4_init) := ggX8_init_X4_init
set_option maxRecDepth 20000 in
theorem ggX8_init_X5_init : GoodIn wsX8_init wsX5_init := goodIn_r _ [57, 58, 2, 3, 59, 60, 61, 62, 63, 64, 65, 66, 67, 68, 69, 70, 71, 72, 73, 74, 75, 76, 77, 78, 79, 148, 149, 150, 132, 133, 134, 135] (by decide +kernel) (by decide +kernel)
set_option maxRecDepth 20000 in
theorem gX8_init_X5_init_n32 : GoodIn wsX8_init (wsX5_init) := ggX8_init_X5_init
set_option maxRecDepth 20000 in
theorem ggX8_init_X2_init : GoodIn wsX8_init wsX2_init := goodIn_r _ [81, 82, 2, 3, 83, 84, 85, 86, 136, 137, 138, 139] (by decide +kernel) (by decide +kernel)
set_option maxRecDepth 20000 in
theorem gX8_init_X2_init_n39 : GoodIn wsX8_init (wsX2_init) := ggX8_init_X2_init
set_option maxRecDepth 20000 in
theorem ggX8_init_X1_init : GoodIn wsX8_init wsX1_init := goodIn_r _ [88, 89, 2, 3, 90, 91, 92, 93, 94, 28, 95, 96, 97, 98, 99, 100, 101, 102, 103, 151, 152, 153, 140, 141, 142, 143, 144, 145, 146, 147] (by decide +kernel) (by decide +kernel)
set_option maxRecDepth 20000 in
theorem gX8_init_X1_init_n46 : GoodIn wsX8_init (wsX1_init) := ggX8_init_X1_init
set_option maxRecDepth 20000 in
theorem ggX8_feed_X7_putFour : GoodIn wsX8_feed wsX7_putFour := goodIn_r _ [7, 8, 9, 19, 20, 21, 22, 23, 24, 25] (by decide +kernel) (by decide +kernel)
set_option maxRecDepth 20000 in
theorem gX8_feed_X7_putFour : GoodIn wsX8_feed (wsV RX8 65 RX7 yX7_putFour wsX7_putFour) := goodIn_app (goodIn_of _ (by decide +kernel)) ggX8_feed_X7_putFour
set_option maxRecDepth 20000 in
theorem ggX8_end_X7_cutTo : GoodIn wsX8_end wsX7_cutTo := goodIn_r _ [6, 7, 17, 18, 19, 20, 21, 22, 23] (by decide +kernel) (by decide +kernel)
set_option maxRecDepth 20000 in
theorem gX8_end_X7_cutTo : GoodIn wsX8_end (wsV RX8 69 RX7 yX7_cutTo wsX7_cutTo) := goodIn_app (goodIn_of _ (by decide +kernel)) ggX8_end_X7_cutTo
set_option maxRecDepth 20000 in
theorem ggX8_add_X7_makePlain : GoodIn wsX8_add wsX7_makePlain := goodIn_r _ [16, 17, 18, 19, 20, 21, 15, 22, 23, 24, 25, 26, 27, 279, 280, 281, 282, 283, 284, 285] (by decide +kernel) (by decide +kernel)
set_option maxRecDepth 20000 in
theorem gX8_add_X7_makePlain : GoodIn wsX8_add (wsV RX8 73 RX7 yX7_makePlain wsX7_makePlain) := goodIn_app (goodIn_of _ (by decide +kernel)) ggX8_add_X7_makePlain
set_option maxRecDepth 20000 in
theorem ggX8_add_X7_cutTo : GoodIn wsX8_add wsX7_cutTo := goodIn_r _ [31, 18, 279, 280, 281, 282, 283, 284, 285] (by decide +kernel) (by decide +kernel)
set_option maxRecDepth 20000 in
theorem gX8_add_X7_cutTo : GoodIn wsX8_add (wsV RX8 69 RX7 yX7_cutTo wsX7_cutTo) := goodIn_app (goodIn_of _ (by decide +kernel)) ggX8_add_X7_cutTo
set_option maxRecDepth 20000 in
theorem ggX8_add_X5_isFull : GoodIn wsX8_add wsX5_isFull := goodIn_r _ [36, 37, 38, 39, 40, 41, 42, 43, 44, 286, 287, 288, 289, 290, 291, 292] (by decide +kernel) (by decide +kernel)
set_option maxRecDepth 20000 in
theorem gX8_add_X5_isFull : GoodIn wsX8_add (wsV RX8 77 RX5 yX5_isFull wsX5_isFull) := goodIn_app (goodIn_of _ (by decide +kernel)) ggX8_add_X5_isFull
set_option maxRecDepth 20000 in
theorem ggX8_add_X7_markPieces : GoodIn wsX8_add wsX7_markPieces := goodIn_r _ [48, 49, 50, 17, 27, 51, 279, 280, 281, 282, 283, 284, 285] (by decide +kernel) (by decide +kernel)
set_option maxRecDepth 20000 in
theorem gX8_add_X7_markPieces : GoodIn wsX8_add (wsV RX8 81 RX7 yX7_markPieces wsX7_markPieces) := goodIn_app (goodIn_of _ (by decide +kernel)) ggX8_add_X7_markPieces
set_option maxRecDepth 20000 in
theorem ggX8_add_X8_numberAlongText : GoodIn wsX8_add wsX8_numberAlongText := goodIn_r _ [56, 1, 57, 58, 59, 60, 61, 62, 4, 63, 64, 65, 6, 66, 67, 68, 69, 70, 71, 72, 73, 74, 75, 76, 77, 78, 79, 80, 81, 82, 83, 84, 85, 86, 87, 250, 251, 252, 253, 254, 255, 256, 257, 258, 279, 280, 281, 282, 283, 284, 285, 259, 260, 261, 262, 263] (by decide +kernel) (by decide +kernel)
set_option maxRecDepth 20000 in
theorem gX8_add_X8_numberAlongText : GoodIn wsX8_add (wsV RX8 88 RX8 yX8_numberAlongText wsX8_numberAlongText) := goodIn_app (goodIn_of _ (by decide +kernel)) ggX8_add_X8_numberAlongText
set_option maxRecDepth 20000 in
theorem ggX8_add_X6_forgetFrom : GoodIn wsX8_add wsX6_forgetFrom := goodIn_r _ [91, 80, 71, 83, 259, 260, 261, 262, 263] (by decide +kernel) (by decide +kernel)
set_option maxRecDepth 20000 in
theorem gX8_add_X6_forgetFrom : GoodIn wsX8_add (wsV RX8 91 RX6 yX6_forgetFrom wsX6_forgetFrom) := goodIn_app (goodIn_of _ (by decide +kernel)) ggX8_add_X6_forgetFrom
set_option maxRecDepth 20000 in
theorem ggX8_add_X5_takeNext : GoodIn wsX8_add wsX5_takeNext := goodIn_r _ [95, 96, 97, 98, 99, 37, 100, 38, 101, 102, 103, 104, 42, 105, 44, 39, 40, 41, 43, 106, 107, 108, 109, 110, 111, 112, 113, 114, 115, 116, 117, 118, 119, 120, 121, 122, 123, 124, 125, 126, 127, 128, 129, 130, 131, 132, 133, 134, 135, 136, 137, 138, 139, 140, 141, 142, 143, 144, 145, 146, 147, 148, 149, 150, 151, 152, 153, 154, 155, 156, 157, 158, 159, 60, 61, 62, 160, 161, 162, 163, 164, 165, 166, 167, 168, 169, 170, 171, 172, 173, 174, 175, 176, 177, 178, 179, 180, 181, 182, 183, 184, 185, 186, 286, 287, 288, 289, 264, 265, 266, 267, 268, 269, 270, 290, 291, 292] (by decide +kernel) (by decide +kernel)
set_option maxRecDepth 20000 in
theorem gX8_add_X5_takeNext : GoodIn wsX8_add (wsV RX8 94 RX5 yX5_takeNext wsX5_takeNext) := goodIn_app (goodIn_of _ (by decide +kernel)) ggX8_add_X5_takeNext
set_option maxRecDepth 20000 in
theorem ggX8_add_X0_fillWith : GoodIn wsX8_add wsX0_fillWith := goodIn_r _ [190, 113, 191, 115, 264, 265, 266, 267, 268, 269, 270] (by decide +kernel) (by decide +kernel)
set_option maxRecDepth 20000 in
theorem gX8_add_X0_fillWith : GoodIn wsX8_add (wsV RX8 98 RX0 yX0_fillWith wsX0_fillWith) := goodIn_app (goodIn_of _ (by decide +kernel)) ggX8_add_X0_fillWith
set_option maxRecDepth 20000 in
theorem ggX8_add_X4_leastOf : GoodIn wsX8_add wsX4_leastOf := goodIn_r _ [196, 197, 198, 199, 200, 184, 61, 185, 201, 202, 203, 195, 204, 205, 206, 207, 208, 209, 210, 211, 212, 213, 214, 215, 216, 217, 218, 219, 220, 221, 222, 223, 224, 264, 265, 266, 267, 268, 269, 270, 293, 294, 295, 296, 297, 298, 299] (by decide +kernel) (by decide +kernel)
set_option maxRecDepth 20000 in
theorem gX8_add_X4_leastOf : GoodIn wsX8_add (wsV RX8 107 RX4 yX4_leastOf wsX4_leastOf) := goodIn_app (goodIn_of _ (by decide +kernel)) ggX8_add_X4_leastOf
set_option maxRecDepth 20000 in
theorem ggX8_add_X5_shareWithAll : GoodIn wsX8_add wsX5_shareWithAll := goodIn_r _ [228, 37, 100, 229, 230, 39, 40, 41, 42, 43, 44, 231, 232, 233, 234, 124, 125, 126, 127, 128, 129, 130, 131, 235, 236, 237, 238, 123, 239, 240, 241, 99, 242, 113, 243, 244, 245, 246, 247, 248, 249, 286, 287, 288, 289, 264, 265, 266, 267, 268, 269, 270, 290, 291, 292] (by decide +kernel) (by decide +kernel)
set_option maxRecDepth 20000 in
theorem gX8_add_X5_shareWithAll : GoodIn wsX8_add (wsV RX8 111 RX5 yX5_shareWithAll wsX5_shareWithAll) := goodIn_app (goodIn_of _ (by decide +kernel)) ggX8_add_X5_shareWithAll
set_option maxRecDepth 20000 in
theorem ggX8_remove_X5_putAway : GoodIn wsX8_remove wsX5_putAway := goodIn_r _ [8, 9, 10, 11, 12, 13, 14, 7, 15, 16, 17, 18, 19, 20, 21, 22, 23, 24, 25, 26, 27, 28, 29, 30, 31, 32, 33, 34, 35, 36, 37, 38, 39, 40, 41, 42, 43, 44, 45, 46, 47, 48, 49, 50, 51, 52, 53, 54, 55, 56, 57, 58, 59, 60, 61, 62, 63, 64, 65, 66, 67, 68, 69, 70, 71, 72, 73, 74, 75, 76, 77, 78, 79, 80, 81, 82, 83, 84, 85, 86, 87, 88, 89, 90, 91, 92, 93, 94, 95, 96, 97, 98, 99, 100, 101, 119, 120, 121, 122, 123, 124, 125, 126, 127, 128, 129, 130, 131, 132] (by decide +kernel) (by decide +kernel)
set_option maxRecDepth 20000 in
theorem gX8_remove_X5_putAway : GoodIn wsX8_remove (wsV RX8 122 RX5 yX5_putAway wsX5_putAway) := goodIn_app (goodIn_of _ (by decide +kernel)) ggX8_remove_X5_putAway
set_option maxRecDepth 20000 in
theorem ggX8_mode_X6_forgetFrom : GoodIn wsX8_mode wsX6_forgetFrom := goodIn_r _ [13, 14, 15, 16, 123, 124, 125, 126, 127] (by decide +kernel) (by decide +kernel)
set_option maxRecDepth 20000 in
theorem gX8_mode_X6_forgetFrom : GoodIn wsX8_mode (wsV RX8 91 RX6 yX6_forgetFrom wsX6_forgetFrom) := goodIn_app (goodIn_of _ (by decide +kernel)) ggX8_mode_X6_forgetFrom
set_option maxRecDepth 20000 in
theorem ggX8_mode_X5_putAllAway : GoodIn wsX8_mode wsX5_putAllAway := goodIn_r _ [21, 22, 23, 24, 25, 26, 27, 28, 29, 30, 31, 32, 33, 34, 35, 36, 37, 38, 39, 40, 41, 42, 43, 44, 45, 46, 47, 48, 49, 50, 51, 52, 53, 54, 55, 56, 57, 58, 59, 60, 61, 62, 63, 64, 65, 66, 67, 68, 69, 70, 71, 72, 73, 74, 75, 76, 77, 78, 79, 80, 81, 82, 83, 84, 85, 86, 87, 88, 89, 90, 91, 92, 93, 94, 95, 96, 97, 98, 99, 100, 101, 102, 103, 104, 105, 128, 129, 130, 131, 132, 133, 134] (by decide +kernel) (by decide +kernel)
set_option maxRecDepth 20000 in
theorem gX8_mode_X5_putAllAway : GoodIn wsX8_mode (wsV RX8 132 RX5 yX5_putAllAway wsX5_putAllAway) := goodIn_app (goodIn_of _ (by decide +kernel)) ggX8_mode_X5_putAllAway
set_option maxRecDepth 20000 in
theorem ggX8_tell_X4_become : GoodIn wsX8_tell wsX4_become := goodIn_r _ [6, 7, 8, 9, 10, 11, 12, 5, 13, 14, 15, 16, 17, 18, 19, 20, 21, 22, 23, 24, 90, 91, 92, 93, 94, 95, 96] (by decide +kernel) (by decide +kernel)
set_option maxRecDepth 20000 in
theorem gX8_tell_X4_become : GoodIn wsX8_tell (wsV RX8 135 RX4 yX4_become wsX4_become) := goodIn_app (goodIn_of _ (by decide +kernel)) ggX8_tell_X4_become
set_option maxRecDepth 20000 in
theorem ggX8_tell_X8_renewImages : GoodIn wsX8_tell wsX8_renewImages := goodIn_r _ [29, 30, 31, 32, 33, 1, 34, 35, 36, 37, 38, 39, 40, 41, 42, 43, 44, 45, 46, 47, 48, 49, 50, 51, 52, 53, 54, 55, 56, 57, 58, 59, 60, 61, 5, 62, 17, 63, 64, 65, 66, 67, 68, 69, 70, 71, 72, 10, 22, 23, 24, 7, 8, 73, 11, 12, 13, 14, 15, 16, 74, 75, 76, 77, 78, 79, 80, 81, 82, 83, 84, 85, 86, 87, 88, 89, 97, 98, 99, 100, 101, 102, 103, 104, 105, 106, 107, 108, 109, 110, 111, 112, 113, 114, 115, 116, 117, 118, 90, 91, 92, 93, 94, 95, 96] (by decide +kernel) (by decide +kernel)
set_option maxRecDepth 20000 in
theorem gX8_tell_X8_renewImages : GoodIn wsX8_tell (wsV RX8 139 RX8 yX8_renewImages wsX8_renewImages) := goodIn_app (goodIn_of _ (by decide +kernel)) ggX8_tell_X8_renewImages
set_option maxRecDepth 20000 in
theorem ggX8_exchange_X4_swap : GoodIn wsX8_exchange wsX4_swap := goodIn_r _ [7, 8, 9, 10, 11, 6, 12, 13, 14, 15, 16, 17, 18, 19, 20, 21, 22, 23, 24, 25, 26, 27, 28, 29, 30, 31, 32, 33, 34, 35, 36, 37, 91, 92, 93, 94, 95, 96, 97] (by decide +kernel) (by decide +kernel)
set_option maxRecDepth 20000 in
theorem gX8_exchange_X4_swap : GoodIn wsX8_exchange (wsV RX8 142 RX4 yX4_swap wsX4_swap) := goodIn_app (goodIn_of _ (by decide +kernel)) ggX8_exchange_X4_swap
set_option maxRecDepth 20000 in
theorem ggX8_exchange_X8_renewImages : GoodIn wsX8_exchange wsX8_renewImages := goodIn_r _ [42, 43, 44, 45, 46, 1, 47, 48, 49, 50, 51, 52, 53, 54, 55, 56, 57, 58, 59, 60, 61, 62, 63, 64, 65, 66, 67, 68, 69, 70, 71, 72, 73, 74, 6, 75, 16, 76, 77, 78, 79, 80, 81, 17, 18, 19, 20, 9, 21, 22, 23, 24, 25, 26, 10, 11, 12, 13, 14, 15, 27, 28, 29, 30, 31, 32, 33, 82, 83, 84, 85, 86, 87, 88, 89, 90, 98, 99, 100, 101, 102, 103, 104, 105, 106, 107, 108, 109, 110, 111, 112, 113, 114, 115, 116, 117, 118, 119, 91, 92, 93, 94, 95, 96, 97] (by decide +kernel) (by decide +kernel)
set_option maxRecDepth 20000 in
theorem gX8_exchange_X8_renewImages : GoodIn wsX8_exchange (wsV RX8 139 RX8 yX8_renewImages wsX8_renewImages) := goodIn_app (goodIn_of _ (by decide +kernel)) ggX8_exchange_X8_renewImages
set_option maxRecDepth 20000 in
theorem ggX8_image_X4_imageOf : GoodIn wsX8_image wsX4_imageOf := goodIn_r _ [6, 7, 8, 9, 10, 11, 12, 13, 14, 15, 5, 16, 17, 18, 19, 20, 21, 22, 23, 24, 25, 26, 27, 37, 38, 39, 40, 41, 42, 43] (by decide +kernel) (by decide +kernel)
set_option maxRecDepth 20000 in
theorem gX8_image_X4_imageOf : GoodIn wsX8_image (wsV RX8 148 RX4 yX4_imageOf wsX4_imageOf) := goodIn_app (goodIn_of _ (by decide +kernel)) ggX8_image_X4_imageOf
set_option maxRecDepth 20000 in
theorem ggX8_bands_X2_takeBands : GoodIn wsX8_bands wsX2_takeBands := goodIn_r _ [8, 9, 10, 28, 29, 30, 31] (by decide +kernel) (by decide +kernel)
set_option maxRecDepth 20000 in
theorem gX8_bands_X2_takeBands : GoodIn wsX8_bands (wsV RX8 152 RX2 yX2_takeBands wsX2_takeBands) := goodIn_app (goodIn_of _ (by decide +kernel)) ggX8_bands_X2_takeBands
set_option maxRecDepth 20000 in
theorem ggX8_threshold_X2_takeThreshold : GoodIn wsX8_threshold wsX2_takeThreshold := goodIn_r _ [8, 9, 10, 28, 29, 30, 31] (by decide +kernel) (by decide +kernel)
set_option maxRecDepth 20000 in
theorem gX8_threshold_X2_takeThreshold : GoodIn wsX8_threshold (wsV RX8 156 RX2 yX2_takeThreshold wsX2_takeThreshold) := goodIn_app (goodIn_of _ (by decide +kernel)) ggX8_threshold_X2_takeThreshold
set_option maxRecDepth 20000 in
theorem ggX8_document_X5_placeOf : GoodIn wsX8_document wsX5_placeOf := goodIn_r _ [13, 14, 15, 16, 17, 18, 19, 20, 21, 22, 23, 24, 25, 26, 27, 28, 29, 30, 31, 32, 33, 34, 35, 36, 37, 38, 39, 136, 137, 138, 139, 140, 141, 142, 143, 144, 145, 146, 147, 148, 149] (by decide +kernel) (by decide +kernel)
set_option maxRecDepth 20000 in
theorem gX8_document_X5_placeOf : GoodIn wsX8_document (wsV RX8 159 RX5 yX5_placeOf wsX5_placeOf) := goodIn_app (goodIn_of _ (by decide +kernel)) ggX8_document_X5_placeOf
set_option maxRecDepth 20000 in
theorem ggX8_document_Jx4a65c_get_915e3 : GoodIn wsX8_document wsJx4a65c_get_915e3 := goodIn_r _ [26, 22, 27, 28, 29, 30, 31, 32, 33, 34, 35, 36, 37, 20, 38, 39, 147, 148, 149] (by decide +kernel) (by decide +kernel)
set_option maxRecDepth 20000 in
theorem gX8_document_Jx4a65c_get_915e3 : GoodIn wsX8_document (wsV RX8 172 RJx4a65c yJx4a65c_get_915e3 wsJx4a65c_get_915e3) := goodIn_app (goodIn_of _ (by decide +kernel)) ggX8_document_Jx4a65c_get_915e3
set_option maxRecDepth 20000 in
theorem ggX8_document_X1_learn : GoodIn wsX8_document wsX1_learn := goodIn_r _ [45, 46, 47, 48, 49, 50, 51, 52, 53, 44, 54, 55, 56, 57, 58, 59, 60, 61, 62, 63, 64, 65, 18, 19, 20, 21, 22, 66, 24, 25, 26, 27, 28, 29, 30, 31, 32, 33, 34, 35, 36, 37, 38, 39, 67, 68, 69, 70, 71, 72, 73, 74, 75, 76, 77, 78, 79, 80, 81, 82, 83, 84, 85, 86, 87, 88, 89, 90, 91, 92, 93, 94, 95, 96, 97, 98, 99, 100, 101, 102, 103, 104, 105, 106, 107, 108, 109, 110, 111, 112, 113, 114, 150, 151, 152, 153, 154, 155, 156, 157, 158, 159, 160, 140, 141, 142, 143, 144, 145, 146, 147, 148, 149, 161, 162, 163, 164] (by decide +kernel) (by decide +kernel)
set_option maxRecDepth 20000 in
theorem gX8_document_X1_learn : GoodIn wsX8_document (wsV RX8 181 RX1 yX1_learn wsX1_learn) := goodIn_app (goodIn_of _ (by decide +kernel)) ggX8_document_X1_learn
set_option maxRecDepth 20000 in
theorem ggX8_document_X1_familyOf : GoodIn wsX8_document wsX1_familyOf := goodIn_r _ [118, 47, 62, 50, 150, 151, 152, 153, 154, 155, 156, 157] (by decide +kernel) (by decide +kernel)
set_option maxRecDepth 20000 in
theorem gX8_document_X1_familyOf : GoodIn wsX8_document (wsV RX8 185 RX1 yX1_familyOf wsX1_familyOf) := goodIn_app (goodIn_of _ (by decide +kernel)) ggX8_document_X1_familyOf
set_option maxRecDepth 20000 in
theorem ggX8_document_X1_membersWith : GoodIn wsX8_document wsX1_membersWith := goodIn_r _ [122, 47, 49, 50, 150, 151, 152, 153, 154, 155, 156, 157] (by decide +kernel) (by decide +kernel)
set_option maxRecDepth 20000 in
theorem gX8_document_X1_membersWith : GoodIn wsX8_document (wsV RX8 188 RX1 yX1_membersWith wsX1_membersWith) := goodIn_app (goodIn_of _ (by decide +kernel)) ggX8_document_X1_membersWith
set_option maxRecDepth 20000 in
theorem ggX8_document_X1_twinsOf : GoodIn wsX8_document wsX1_twinsOf := goodIn_r _ [126, 47, 64, 150, 151, 152, 153, 154, 155, 156, 157] (by decide +kernel) (by decide +kernel)
set_option maxRecDepth 20000 in
theorem gX8_document_X1_twinsOf : GoodIn wsX8_document (wsV RX8 191 RX1 yX1_twinsOf wsX1_twinsOf) := goodIn_app (goodIn_of _ (by decide +kernel)) ggX8_document_X1_twinsOf
set_option maxRecDepth 20000 in
theorem ggX8_shingle_X8_documentThere : GoodIn wsX8_shingle wsX8_documentThere := goodIn_ca (goodIn_r _ [7, 8, 9, 10, 11, 12, 13, 14, 15, 16, 17, 18, 19, 20, 21, 22, 23, 24, 25, 26, 27, 28, 29, 30, 31, 32, 33, 34, 35, 36, 37, 38, 39, 40, 41, 42, 43, 44, 52, 53, 54, 55, 56, 57, 58, 59, 60, 61, 62, 63, 64, 45, 46, 47, 48, 49, 50, 51, 65, 66, 67] (by decide +kernel) (by decide +kernel)) (goodIn_sub (fun _ h => List.mem_cons_of_mem _ (List.mem_append_right _ h)) (by decide +kernel))
set_option maxRecDepth 20000 in
theorem gX8_shingle_X8_documentThere : GoodIn wsX8_shingle (wsV RX8 194 RX8 yX8_documentThere wsX8_documentThere) := goodIn_app (goodIn_of _ (by decide +kernel)) ggX8_shingle_X8_documentThere
set_option maxRecDepth 20000 in
theorem ggX8_letter_X6_byteOf : GoodIn wsX8_letter wsX6_byteOf := goodIn_r _ [6, 7, 8, 9, 19, 20, 21, 22, 23] (by decide +kernel) (by decide +kernel)
set_option maxRecDepth 20000 in
theorem gX8_letter_X6_byteOf : GoodIn wsX8_letter (wsV RX8 201 RX6 yX6_byteOf wsX6_byteOf) := goodIn_app (goodIn_of _ (by decide +kernel)) ggX8_letter_X6_byteOf
set_option maxRecDepth 20000 in
theorem ggX8_signature_X8_documentThere : GoodIn wsX8_signature wsX8_documentThere := goodIn_ca (goodIn_r _ [8, 1, 2, 9, 10, 11, 12, 13, 14, 15, 16, 17, 18, 19, 20, 21, 22, 23, 24, 25, 26, 27, 28, 29, 30, 31, 32, 33, 34, 35, 36, 37, 38, 39, 40, 41, 42, 43, 51, 52, 53, 54, 55, 56, 57, 58, 59, 60, 61, 62, 63, 44, 45, 46, 47, 48, 49, 50, 64, 65, 66] (by decide +kernel) (by decide +kernel)) (goodIn_sub (fun _ h => List.mem_cons_of_mem _ (List.mem_append_right _ h)) (by decide +kernel))
set_option maxRecDepth 20000 in
theorem gX8_signature_X8_documentThere : GoodIn wsX8_signature (wsV RX8 194 RX8 yX8_documentThere wsX8_documentThere) := goodIn_app (goodIn_of _ (by decide +kernel)) ggX8_signature_X8_documentThere
set_option maxRecDepth 20000 in
theorem ggX8_both_X8_documentThere : GoodIn wsX8_both wsX8_documentThere := goodIn_ca (goodIn_r _ [8, 1, 2, 9, 10, 11, 12, 13, 14, 15, 16, 17, 18, 19, 20, 21, 22, 23, 24, 25, 26, 27, 28, 29, 30, 31, 32, 33, 34, 35, 36, 37, 38, 39, 40, 41, 42, 43, 84, 85, 86, 87, 88, 89, 90, 91, 92, 93, 94, 95, 96, 97, 98, 99, 100, 101, 102, 103, 104, 105, 106] (by decide +kernel) (by decide +kernel)) (goodIn_sub (fun _ h => List.mem_cons_of_mem _ (List.mem_append_right _ h)) (by decide +kernel))
set_option maxRecDepth 20000 in
theorem gX8_both_X8_documentThere : GoodIn wsX8_both (wsV RX8 194 RX8 yX8_documentThere wsX8_documentThere) := goodIn_app (goodIn_of _ (by decide +kernel)) ggX8_both_X8_documentThere
set_option maxRecDepth 20000 in
theorem ggX8_both_X2_common : GoodIn wsX8_both wsX2_common := goodIn_r _ [48, 49, 50, 97, 98, 99, 100, 101, 102, 103] (by decide +kernel) (by decide +kernel)
set_option maxRecDepth 20000 in
theorem gX8_both_X2_common : GoodIn wsX8_both (wsV RX8 208 RX2 yX2_common wsX2_common) := goodIn_app (goodIn_of _ (by decide +kernel)) ggX8_both_X2_common
set_option maxRecDepth 20000 in
theorem ggX8_both_X2_all : GoodIn wsX8_both wsX2_all := goodIn_r _ [54, 55, 56, 45, 46, 47, 48, 49, 50, 97, 98, 99, 100, 101, 102, 103] (by decide +kernel) (by decide +kernel)
set_option maxRecDepth 20000 in
theorem gX8_both_X2_all : GoodIn wsX8_both (wsV RX8 212 RX2 yX2_all wsX2_all) := goodIn_app (goodIn_of _ (by decide +kernel)) ggX8_both_X2_all
set_option maxRecDepth 20000 in
theorem ggX8_both_X2_sameImages : GoodIn wsX8_both wsX2_sameImages := goodIn_r _ [60, 61, 62, 63, 107, 108, 109, 110, 97, 98, 99, 100, 101, 102, 103] (by decide +kernel) (by decide +kernel)
set_option maxRecDepth 20000 in
theorem gX8_both_X2_sameImages : GoodIn wsX8_both (wsV RX8 215 RX2 yX2_sameImages wsX2_sameImages) := goodIn_app (goodIn_of _ (by decide +kernel)) ggX8_both_X2_sameImages
set_option maxRecDepth 20000 in
theorem ggX8_both_X2_firstBand : GoodIn wsX8_both wsX2_firstBand := goodIn_r _ [67, 55, 61, 62, 68, 69, 70, 47, 71, 63, 97, 98, 99, 100, 101, 102, 103, 107, 108, 109, 110] (by decide +kernel) (by decide +kernel)
set_option maxRecDepth 20000 in
theorem gX8_both_X2_firstBand : GoodIn wsX8_both (wsV RX8 218 RX2 yX2_firstBand wsX2_firstBand) := goodIn_app (goodIn_of _ (by decide +kernel)) ggX8_both_X2_firstBand
set_option maxRecDepth 20000 in
theorem ggX8_both_X2_areTwins : GoodIn wsX8_both wsX2_areTwins := goodIn_r _ [75, 76, 65, 66, 47, 67, 55, 61, 62, 68, 69, 70, 71, 63, 77, 78, 79, 80, 81, 82, 56, 45, 46, 48, 49, 50, 83, 52, 53, 54, 97, 98, 99, 100, 101, 102, 103, 107, 108, 109, 110] (by decide +kernel) (by decide +kernel)
set_option maxRecDepth 20000 in
theorem gX8_both_X2_areTwins : GoodIn wsX8_both (wsV RX8 221 RX2 yX2_areTwins wsX2_areTwins) := goodIn_app (goodIn_of _ (by decide +kernel)) ggX8_both_X2_areTwins
set_option maxRecDepth 20000 in
theorem ggX8_pairs_X1_learn : GoodIn wsX8_pairs wsX1_learn := goodIn_r _ [12, 13, 14, 15, 16, 17, 18, 19, 20, 11, 21, 22, 23, 24, 25, 26, 27, 28, 29, 30, 31, 32, 33, 34, 35, 36, 37, 38, 39, 40, 41, 42, 43, 44, 45, 46, 47, 48, 49, 50, 51, 52, 53, 54, 55, 56, 57, 58, 59, 60, 61, 62, 63, 64, 65, 66, 67, 68, 69, 70, 71, 72, 73, 74, 75, 76, 77, 78, 79, 80, 81, 82, 83, 84, 85, 86, 87, 88, 89, 90, 91, 92, 93, 94, 95, 96, 97, 98, 99, 100, 101, 102, 120, 121, 122, 123, 124, 125, 126, 127, 128, 129, 130, 131, 132, 133, 134, 135, 136, 137, 138, 139, 140, 141, 142, 143, 144] (by decide +kernel) (by decide +kernel)
set_option maxRecDepth 20000 in
theorem gX8_pairs_X1_learn : GoodIn wsX8_pairs (wsV RX8 181 RX1 yX1_learn wsX1_learn) := goodIn_app (goodIn_of _ (by decide +kernel)) ggX8_pairs_X1_learn
set_option maxRecDepth 20000 in
theorem ggX8_pairs_X1_families : GoodIn wsX8_pairs wsX1_families := goodIn_r _ [106, 14, 16, 120, 121, 122, 123, 124, 125, 126, 127] (by decide +kernel) (by decide +kernel)
set_option maxRecDepth 20000 in
theorem gX8_pairs_X1_families : GoodIn wsX8_pairs (wsV RX8 235 RX1 yX1_families wsX1_families) := goodIn_app (goodIn_of _ (by decide +kernel)) ggX8_pairs_X1_families
set_option maxRecDepth 20000 in
theorem ggX8_pair_X1_learn : GoodIn wsX8_pair wsX1_learn := goodIn_r _ [11, 12, 13, 14, 15, 16, 17, 18, 19, 10, 20, 21, 22, 23, 24, 25, 26, 27, 28, 29, 30, 31, 32, 33, 34, 35, 36, 37, 38, 39, 40, 41, 42, 43, 44, 45, 46, 47, 48, 49, 50, 51, 52, 53, 54, 55, 56, 57, 58, 59, 60, 61, 62, 63, 64, 65, 66, 67, 68, 69, 70, 71, 72, 73, 74, 75, 76, 77, 78, 79, 80, 81, 82, 83, 84, 85, 86, 87, 88, 89, 90, 91, 92, 93, 94, 95, 96, 97, 98, 99, 100, 101, 123, 124, 125, 126, 127, 128, 129, 130, 131, 132, 133, 134, 135, 136, 137, 138, 139, 140, 141, 142, 143, 144, 145, 146, 147] (by decide +kernel) (by decide +kernel)
set_option maxRecDepth 20000 in
theorem gX8_pair_X1_learn : GoodIn wsX8_pair (wsV RX8 181 RX1 yX1_learn wsX1_learn) := goodIn_app (goodIn_of _ (by decide +kernel)) ggX8_pair_X1_learn
set_option maxRecDepth 20000 in
theorem ggX8_pair_X3_side : GoodIn wsX8_pair wsX3_side := goodIn_r _ [105, 76, 77, 78, 131, 132, 133] (by decide +kernel) (by decide +kernel)
set_option maxRecDepth 20000 in
theorem gX8_pair_X3_side : GoodIn wsX8_pair (wsV RX8 238 RX3 yX3_side wsX3_side) := goodIn_app (goodIn_of _ (by decide +kernel)) ggX8_pair_X3_side
set_option maxRecDepth 20000 in
theorem ggX8_pair_X1_familyAt : GoodIn wsX8_pair wsX1_familyAt := goodIn_r _ [109, 13, 15, 28, 123, 124, 125, 126, 127, 128, 129, 130] (by decide +kernel) (by decide +kernel)
set_option maxRecDepth 20000 in
theorem gX8_pair_X1_familyAt : GoodIn wsX8_pair (wsV RX8 241 RX1 yX1_familyAt wsX1_familyAt) := goodIn_app (goodIn_of _ (by decide +kernel)) ggX8_pair_X1_familyAt
set_option maxRecDepth 20000 in
theorem ggX8_nearest_X8_documentThere : GoodIn wsX8_nearest wsX8_documentThere := goodIn_ca (goodIn_r _ [9, 10, 11, 1, 12, 3, 13, 14, 15, 16, 17, 18, 19, 20, 21, 22, 23, 24, 25, 26, 27, 28, 29, 30, 31, 32, 33, 34, 35, 36, 37, 38, 39, 40, 41, 42, 43, 44, 130, 131, 132, 133, 134, 135, 136, 137, 138, 146, 147, 148, 149, 139, 140, 141, 142, 143, 144, 145, 150, 151, 152] (by decide +kernel) (by decide +kernel)) (goodIn_sub (fun _ h => List.mem_cons_of_mem _ (List.mem_append_right _ h)) (by decide +kernel))
set_option maxRecDepth 20000 in
theorem gX8_nearest_X8_documentThere : GoodIn wsX8_nearest (wsV RX8 194 RX8 yX8_documentThere wsX8_documentThere) := goodIn_app (goodIn_of _ (by decide +kernel)) ggX8_nearest_X8_documentThere
set_option maxRecDepth 20000 in
theorem ggX8_nearest_X5_othersByNearness : GoodIn wsX8_nearest wsX5_othersByNearness := goodIn_r _ [48, 49, 18, 19, 50, 51, 52, 24, 53, 54, 55, 43, 26, 21, 22, 23, 25, 27, 28, 29, 30, 31, 32, 33, 34, 35, 36, 37, 38, 39, 40, 41, 42, 56, 57, 58, 16, 59, 60, 61, 62, 63, 64, 65, 66, 67, 68, 69, 70, 71, 72, 73, 74, 75, 76, 77, 78, 79, 80, 81, 82, 83, 84, 85, 86, 87, 88, 89, 90, 91, 92, 93, 94, 95, 96, 97, 98, 99, 100, 101, 102, 103, 104, 105, 106, 107, 108, 109, 110, 111, 112, 113, 114, 115, 116, 117, 118, 119, 120, 121, 122, 123, 124, 125, 126, 127, 128, 146, 147, 148, 149, 150, 151, 152, 139, 140, 141, 142, 143, 144, 145] (by decide +kernel) (by decide +kernel)
set_option maxRecDepth 20000 in
theorem gX8_nearest_X5_othersByNearness : GoodIn wsX8_nearest (wsV RX8 244 RX5 yX5_othersByNearness wsX5_othersByNearness) := goodIn_app (goodIn_of _ (by decide +kernel)) ggX8_nearest_X5_othersByNearness
set_option maxRecDepth 20000 in
theorem ggX8_nearest_Jx4a65c_size_8abf5 : GoodIn wsX8_nearest wsJx4a65c_size_8abf5 := goodIn_r _ [25, 26, 150, 151, 152] (by decide +kernel) (by decide +kernel)
set_option maxRecDepth 20000 in
theorem gX8_nearest_Jx4a65c_size_8abf5 : GoodIn wsX8_nearest (wsV RX8 248 RJx4a65c yJx4a65c_size_8abf5 wsJx4a65c_size_8abf5) := goodIn_app (goodIn_of _ (by decide +kernel)) ggX8_nearest_Jx4a65c_size_8abf5
set_option maxRecDepth 20000 in
theorem ggX8_nearest_Jx4a65c_get_915e3 : GoodIn wsX8_nearest wsJx4a65c_get_915e3 := goodIn_r _ [30, 26, 31, 32, 33, 34, 35, 36, 37, 38, 39, 40, 41, 24, 42, 43, 150, 151, 152] (by decide +kernel) (by decide +kernel)
set_option maxRecDepth 20000 in
theorem gX8_nearest_Jx4a65c_get_915e3 : GoodIn wsX8_nearest (wsV RX8 172 RJx4a65c yJx4a65c_get_915e3 wsJx4a65c_get_915e3) := goodIn_app (goodIn_of _ (by decide +kernel)) ggX8_nearest_Jx4a65c_get_915e3
set_option maxRecDepth 20000 in
theorem ggX8_count_X7_makePlain : GoodIn wsX8_count wsX7_makePlain := goodIn_r _ [21, 22, 23, 24, 25, 26, 20, 27, 28, 29, 30, 31, 32, 55, 56, 57, 58, 59, 60, 61] (by decide +kernel) (by decide +kernel)
set_option maxRecDepth 20000 in
theorem gX8_count_X7_makePlain : GoodIn wsX8_count (wsV RX8 73 RX7 yX7_makePlain wsX7_makePlain) := goodIn_app (goodIn_of _ (by decide +kernel)) ggX8_count_X7_makePlain
set_option maxRecDepth 20000 in
theorem ggX8_count_Jx4a65c_size_8abf5 : GoodIn wsX8_count wsJx4a65c_size_8abf5 := goodIn_r _ [37, 38, 82, 83, 84] (by decide +kernel) (by decide +kernel)
set_option maxRecDepth 20000 in
theorem gX8_count_Jx4a65c_size_8abf5 : GoodIn wsX8_count (wsV RX8 248 RJx4a65c yJx4a65c_size_8abf5 wsJx4a65c_size_8abf5) := goodIn_app (goodIn_of _ (by decide +kernel)) ggX8_count_Jx4a65c_size_8abf5
set_option maxRecDepth 20000 in
theorem ggX8_count_X6_bytesUsed : GoodIn wsX8_count wsX6_bytesUsed := goodIn_r _ [43, 44, 45, 66, 67, 68, 69, 70] (by decide +kernel) (by decide +kernel)
set_option maxRecDepth 20000 in
theorem gX8_count_X6_bytesUsed : GoodIn wsX8_count (wsV RX8 253 RX6 yX6_bytesUsed wsX6_bytesUsed) := goodIn_app (goodIn_of _ (by decide +kernel)) ggX8_count_X6_bytesUsed
set_option maxRecDepth 20000 in
theorem ggX8_documentThere_X5_placeOf : GoodIn wsX8_documentThere wsX5_placeOf := goodIn_r _ [10, 11, 12, 13, 14, 15, 16, 17, 18, 19, 20, 21, 22, 23, 24, 25, 26, 27, 28, 29, 30, 31, 32, 33, 34, 35, 36, 47, 48, 49, 50, 51, 52, 53, 54, 55, 56, 57, 58, 59, 60] (by decide +kernel) (by decide +kernel)
set_option maxRecDepth 20000 in
theorem gX8_documentThere_X5_placeOf : GoodIn wsX8_documentThere (wsV RX8 159 RX5 yX5_placeOf wsX5_placeOf) := goodIn_app (goodIn_of _ (by decide +kernel)) ggX8_documentThere_X5_placeOf
set_option maxRecDepth 20000 in
theorem ggX8_documentThere_Jx4a65c_get_915e3 : GoodIn wsX8_documentThere wsJx4a65c_get_915e3 := goodIn_r _ [23, 19, 24, 25, 26, 27, 28, 29, 30, 31, 32, 33, 34, 17, 35, 36, 58, 59, 60] (by decide +kernel) (by decide +kernel)
set_option maxRecDepth 20000 in
theorem gX8_documentThere_Jx4a65c_get_915e3 : GoodIn wsX8_documentThere (wsV RX8 172 RJx4a65c yJx4a65c_get_915e3 wsJx4a65c_get_915e3) := goodIn_app (goodIn_of _ (by decide +kernel)) ggX8_documentThere_Jx4a65c_get_915e3
set_option maxRecDepth 20000 in
theorem ggX8_numberAlongText_X6_numberOf : GoodIn wsX8_numberAlongText wsX6_numberOf := goodIn_r _ [17, 18, 19, 20, 16, 21, 22, 23, 24, 25, 26, 27, 28, 29, 30, 31, 32, 33, 34, 51, 52, 53, 54, 55] (by decide +kernel) (by decide +kernel)
set_option maxRecDepth 20000 in
theorem gX8_numberAlongText_X6_numberOf : GoodIn wsX8_numberAlongText (wsV RX8 288 RX6 yX6_numberOf wsX6_numberOf) := goodIn_app (goodIn_of _ (by decide +kernel)) ggX8_numberAlongText_X6_numberOf
set_option maxRecDepth 20000 in
theorem ggX8_renewImages_Jx4a65c_size_8abf5 : GoodIn wsX8_renewImages wsJx4a65c_size_8abf5 := goodIn_r _ [12, 13, 95, 96, 97] (by decide +kernel) (by decide +kernel)
set_option maxRecDepth 20000 in
theorem gX8_renewImages_Jx4a65c_size_8abf5 : GoodIn wsX8_renewImages (wsV RX8 248 RJx4a65c yJx4a65c_size_8abf5 wsJx4a65c_size_8abf5) := goodIn_app (goodIn_of _ (by decide +kernel)) ggX8_renewImages_Jx4a65c_size_8abf5
set_option maxRecDepth 20000 in
theorem ggX8_renewImages_Jx4a65c_get_915e3 : GoodIn wsX8_renewImages wsJx4a65c_get_915e3 := goodIn_r _ [17, 13, 18, 19, 20, 21, 22, 23, 24, 25, 26, 27, 28, 11, 29, 30, 95, 96, 97] (by decide +kernel) (by decide +kernel)
set_option maxRecDepth 20000 in
theorem gX8_renewImages_Jx4a65c_get_915e3 : GoodIn wsX8_renewImages (wsV RX8 172 RJx4a65c yJx4a65c_get_915e3 wsJx4a65c_get_915e3) := goodIn_app (goodIn_of _ (by decide +kernel)) ggX8_renewImages_Jx4a65c_get_915e3
set_option maxRecDepth 20000 in
theorem ggX8_renewImages_X4_leastOf : GoodIn wsX8_renewImages wsX4_leastOf := goodIn_r _ [35, 36, 37, 38, 39, 40, 41, 42, 43, 44, 45, 34, 46, 47, 48, 49, 50, 51, 52, 53, 54, 55, 56, 57, 58, 59, 60, 61, 62, 63, 64, 65, 66, 80, 81, 82, 83, 84, 85, 86, 98, 99, 100, 101, 102, 103, 104] (by decide +kernel) (by decide +kernel)
set_option maxRecDepth 20000 in
theorem gX8_renewImages_X4_leastOf : GoodIn wsX8_renewImages (wsV RX8 107 RX4 yX4_leastOf wsX4_leastOf) := goodIn_app (goodIn_of _ (by decide +kernel)) ggX8_renewImages_X4_leastOf
set_option maxRecDepth 20000 in
theorem ggX9_feed_X9_four : GoodIn wsX9_feed wsX9_four := goodIn_r _ [7, 8, 2, 9, 10, 11, 12, 13, 14, 15, 16, 17, 18, 19, 20, 21, 22, 23, 24, 25, 26, 27, 28, 29, 30, 31, 32, 33, 34, 35, 36, 37, 38, 39, 40] (by decide +kernel) (by decide +kernel)
set_option maxRecDepth 20000 in
theorem gX9_feed_X9_four : GoodIn wsX9_feed (wsV RX9 10 RX9 yX9_four wsX9_four) := goodIn_app (goodIn_of _ (by decide +kernel)) ggX9_feed_X9_four
set_option maxRecDepth 20000 in
theorem ggX9_comes_X9_numberOf : GoodIn wsX9_comes wsX9_numberOf := goodIn_r _ [14, 1, 5, 6, 4, 7, 15, 16, 17, 18, 19, 20, 21, 22, 23, 24, 25, 26, 27, 28, 29, 30, 31, 32, 33, 34, 35, 36, 37, 38, 39, 40, 41, 42, 43, 44, 45, 46] (by decide +kernel) (by decide +kernel)
set_option maxRecDepth 20000 in
theorem gX9_comes_X9_numberOf : GoodIn wsX9_comes (wsV RX9 37 RX9 yX9_numberOf wsX9_numberOf) := goodIn_app (goodIn_of _ (by decide +kernel)) ggX9_comes_X9_numberOf
set_option maxRecDepth 20000 in
theorem ggX9_all_X9_comes : GoodIn wsX9_all wsX9_comes := goodIn_r _ [10, 11, 12, 13, 14, 15, 16, 5, 1, 17, 18, 19, 20, 9, 21, 22, 23, 24, 25, 26, 27, 28, 29, 30, 31, 32, 33, 34, 35, 36, 37, 38, 39, 40, 41, 42, 43, 44, 45, 46, 47, 48, 49, 50, 51, 52, 53] (by decide +kernel) (by decide +kernel)
set_option maxRecDepth 20000 in
theorem gX9_all_X9_comes : GoodIn wsX9_all (wsV RX9 57 RX9 yX9_comes wsX9_comes) := goodIn_app (goodIn_of _ (by decide +kernel)) ggX9_all_X9_comes
set_option maxRecDepth 20000 in
theorem ggX9_add_X9_makePlain : GoodIn wsX9_add wsX9_makePlain := goodIn_r _ [17, 18, 2, 19, 20, 39, 40, 41, 42, 43, 44, 45, 46, 47, 48, 49, 50, 51, 52, 53, 54, 55, 56, 57, 58, 59, 60, 61, 62, 63, 64, 65, 66, 67, 68, 69, 70] (by decide +kernel) (by decide +kernel)
set_option maxRecDepth 20000 in
theorem gX9_add_X9_makePlain : GoodIn wsX9_add (wsV RX9 61 RX9 yX9_makePlain wsX9_makePlain) := goodIn_app (goodIn_of _ (by decide +kernel)) ggX9_add_X9_makePlain
set_option maxRecDepth 20000 in
theorem ggX9_add_X9_all : GoodIn wsX9_add wsX9_all := goodIn_r _ [24, 7, 25, 26, 18, 20, 27, 28, 29, 16, 30, 5, 6, 31, 32, 33, 34, 9, 35, 36, 37, 38, 39, 40, 41, 42, 43, 44, 45, 46, 47, 48, 49, 50, 51, 52, 53, 54, 55, 56, 57, 58, 59, 60, 61, 62, 63, 64, 65, 66, 67, 68, 69, 70] (by decide +kernel) (by decide +kernel)
set_option maxRecDepth 20000 in
theorem gX9_add_X9_all : GoodIn wsX9_add (wsV RX9 71 RX9 yX9_all wsX9_all) := goodIn_app (goodIn_of _ (by decide +kernel)) ggX9_add_X9_all
set_option maxRecDepth 20000 in
theorem ggX9_remove_X9_slot : GoodIn wsX9_remove wsX9_slot := goodIn_r _ [11, 2, 3, 12, 13, 14, 15, 16, 17, 18, 19, 20, 21, 22, 23, 24, 25, 26, 27, 28, 29, 30, 31, 32, 33, 34, 35, 36, 37, 38, 39, 40, 41, 42, 43] (by decide +kernel) (by decide +kernel)
set_option maxRecDepth 20000 in
theorem gX9_remove_X9_slot : GoodIn wsX9_remove (wsV RX9 88 RX9 yX9_slot wsX9_slot) := goodIn_app (goodIn_of _ (by decide +kernel)) ggX9_remove_X9_slot
set_option maxRecDepth 20000 in
theorem ggX9_mode_X9_throwsIf : GoodIn wsX9_mode wsX9_throwsIf := goodIn_r _ [12, 13, 14, 15, 16, 17, 18, 19, 20, 21, 22, 23, 24, 25, 26, 27, 28, 29, 30, 31, 32, 33, 34, 35, 36, 37, 38, 39, 40, 41, 42, 43, 44, 45] (by decide +kernel) (by decide +kernel)
set_option maxRecDepth 20000 in
theorem gX9_mode_X9_throwsIf : GoodIn wsX9_mode (wsV RX9 92 RX9 yX9_throwsIf wsX9_throwsIf) := goodIn_app (goodIn_of _ (by decide +kernel)) ggX9_mode_X9_throwsIf
set_option maxRecDepth 20000 in
theorem ggX9_tell_X9_isNone : GoodIn wsX9_tell wsX9_isNone := goodIn_r _ [13] (by decide +kernel) (by decide +kernel)
set_option maxRecDepth 20000 in
theorem gX9_tell_X9_isNone : GoodIn wsX9_tell (va_wsS RX9 136 yX9_isNone wsX9_isNone) := goodIn_app (goodIn_of _ (by decide +kernel)) ggX9_tell_X9_isNone
set_option maxRecDepth 20000 in
theorem ggX9_exchange_X9_isNone : GoodIn wsX9_exchange wsX9_isNone := goodIn_r _ [11] (by decide +kernel) (by decide +kernel)
set_option maxRecDepth 20000 in
theorem gX9_exchange_X9_isNone : GoodIn wsX9_exchange (va_wsS RX9 136 yX9_isNone wsX9_isNone) := goodIn_app (goodIn_of _ (by decide +kernel)) ggX9_exchange_X9_isNone
set_option maxRecDepth 20000 in
theorem ggX9_image_X9_isNone : GoodIn wsX9_image wsX9_isNone := goodIn_r _ [6] (by decide +kernel) (by decide +kernel)
set_option maxRecDepth 20000 in
theorem gX9_image_X9_isNone : GoodIn wsX9_image (va_wsS RX9 136 yX9_isNone wsX9_isNone) := goodIn_app (goodIn_of _ (by decide +kernel)) ggX9_image_X9_isNone
set_option maxRecDepth 20000 in
theorem ggX9_image_X9_imageOf : GoodIn wsX9_image wsX9_imageOf := goodIn_r _ [10, 11, 12, 13, 14, 15, 16, 17, 18, 19, 20, 21, 22, 23, 24, 25, 26, 27, 28, 29, 30, 31, 32, 33, 34, 35, 36, 37, 38, 39, 40, 41, 42, 43, 44, 45, 46, 47, 48, 49] (by decide +kernel) (by decide +kernel)
set_option maxRecDepth 20000 in
theorem gX9_image_X9_imageOf : GoodIn wsX9_image (wsV RX9 146 RX9 yX9_imageOf wsX9_imageOf) := goodIn_app (goodIn_of _ (by decide +kernel)) ggX9_image_X9_imageOf
set_option maxRecDepth 20000 in
theorem ggX9_sign_X9_imageOf : GoodIn wsX9_sign wsX9_imageOf := goodIn_r _ [16, 2, 3, 17, 18, 8, 9, 10, 19, 20, 21, 22, 23, 24, 25, 26, 27, 28, 29, 30, 31, 32, 33, 34, 35, 36, 37, 38, 39, 40, 41, 42, 43, 44, 45, 46, 47, 48, 49, 50] (by decide +kernel) (by decide +kernel)
set_option maxRecDepth 20000 in
theorem gX9_sign_X9_imageOf : GoodIn wsX9_sign (wsV RX9 146 RX9 yX9_imageOf wsX9_imageOf) := goodIn_app (goodIn_of _ (by decide +kernel)) ggX9_sign_X9_imageOf
set_option maxRecDepth 20000 in
theorem ggX9_band_X9_sign : GoodIn wsX9_band wsX9_sign := goodIn_r _ [9, 10, 11, 12, 13, 14, 1, 15, 16, 17, 18, 4, 19, 20, 21, 8, 22, 23, 24, 25, 26, 27, 28, 29, 30, 31, 32, 33, 34, 35, 36, 37, 38, 39, 40, 41, 42, 43, 44, 45, 46, 47, 48, 49, 50, 51, 52, 53, 54, 55, 56] (by decide +kernel) (by decide +kernel)
set_option maxRecDepth 20000 in
theorem gX9_band_X9_sign : GoodIn wsX9_band (wsV RX9 150 RX9 yX9_sign wsX9_sign) := goodIn_app (goodIn_of _ (by decide +kernel)) ggX9_band_X9_sign
set_option maxRecDepth 20000 in
theorem ggX9_areTwins_X9_band : GoodIn wsX9_areTwins wsX9_band := goodIn_r _ [8, 2, 9, 10, 11, 12, 13, 14, 7, 15, 16, 17, 18, 19, 20, 21, 22, 23, 24, 25, 26, 27, 28, 29, 30, 35, 36, 37, 38, 39, 40, 41, 42, 43, 44, 45, 46, 47, 48, 49, 50, 51, 52, 53, 54, 55, 56, 57, 58, 59, 60, 61, 62, 63, 64, 65, 66] (by decide +kernel) (by decide +kernel)
set_option maxRecDepth 20000 in
theorem gX9_areTwins_X9_band : GoodIn wsX9_areTwins (wsV RX9 153 RX9 yX9_band wsX9_band) := goodIn_app (goodIn_of _ (by decide +kernel)) ggX9_areTwins_X9_band
set_option maxRecDepth 20000 in
theorem ggX9_areTwins_X9_common : GoodIn wsX9_areTwins wsX9_common := goodIn_r _ [34, 2, 21, 35, 36, 37, 38, 39, 40, 41, 42, 43, 44, 45, 46, 47, 48, 49, 50, 51, 52, 53, 54, 55, 56, 57, 58, 59, 60, 61, 62, 63, 64, 65, 66] (by decide +kernel) (by decide +kernel)
set_option maxRecDepth 20000 in
theorem gX9_areTwins_X9_common : GoodIn wsX9_areTwins (wsV RX9 156 RX9 yX9_common wsX9_common) := goodIn_app (goodIn_of _ (by decide +kernel)) ggX9_areTwins_X9_common
set_option maxRecDepth 20000 in
theorem ggX9_families_X9_areTwins : GoodIn wsX9_families wsX9_areTwins := goodIn_r _ [7, 8, 9, 10, 11, 12, 13, 6, 14, 15, 16, 17, 18, 19, 20, 21, 22, 23, 24, 1, 25, 26, 27, 28, 29, 30, 31, 32, 33, 34, 35, 36, 37, 38, 39, 40, 41, 42, 43, 44, 45, 46, 47, 48, 49, 50, 51, 52, 53, 54, 55, 56, 57, 58, 59, 60, 61, 62, 63, 64, 65, 66, 67, 68, 69, 70, 71] (by decide +kernel) (by decide +kernel)
set_option maxRecDepth 20000 in
theorem gX9_families_X9_areTwins : GoodIn wsX9_families (wsV RX9 159 RX9 yX9_areTwins wsX9_areTwins) := goodIn_app (goodIn_of _ (by decide +kernel)) ggX9_families_X9_areTwins
set_option maxRecDepth 20000 in
theorem ggX9_document_X9_slot : GoodIn wsX9_document wsX9_slot := goodIn_r _ [9, 2, 3, 58, 59, 60, 61, 62, 63, 64, 65, 66, 67, 68, 69, 70, 71, 72, 73, 74, 75, 76, 77, 78, 79, 80, 81, 82, 83, 84, 85, 86, 87, 88, 89] (by decide +kernel) (by decide +kernel)
set_option maxRecDepth 20000 in
theorem gX9_document_X9_slot : GoodIn wsX9_document (wsV RX9 88 RX9 yX9_slot wsX9_slot) := goodIn_app (goodIn_of _ (by decide +kernel)) ggX9_document_X9_slot
set_option maxRecDepth 20000 in
theorem ggX9_document_X9_throwsIf : GoodIn wsX9_document wsX9_throwsIf := goodIn_r _ [13, 14, 58, 59, 60, 61, 62, 63, 64, 65, 66, 67, 68, 69, 70, 71, 72, 73, 74, 75, 76, 77, 78, 79, 80, 81, 82, 83, 84, 85, 86, 87, 88, 89] (by decide +kernel) (by decide +kernel)
set_option maxRecDepth 20000 in
theorem gX9_document_X9_throwsIf : GoodIn wsX9_document (wsV RX9 92 RX9 yX9_throwsIf wsX9_throwsIf) := goodIn_app (goodIn_of _ (by decide +kernel)) ggX9_document_X9_throwsIf
set_option maxRecDepth 20000 in
theorem ggX9_document_X9_areTwins : GoodIn wsX9_document wsX9_areTwins := goodIn_r _ [18, 19, 1, 20, 21, 22, 23, 8, 24, 25, 26, 27, 28, 29, 30, 31, 32, 33, 34, 2, 35, 36, 37, 38, 39, 40, 41, 42, 43, 44, 45, 46, 47, 48, 49, 58, 59, 60, 61, 62, 63, 64, 65, 66, 67, 68, 69, 70, 71, 72, 73, 74, 75, 76, 77, 78, 79, 80, 81, 82, 83, 84, 85, 86, 87, 88, 89] (by decide +kernel) (by decide +kernel)
set_option maxRecDepth 20000 in
theorem gX9_document_X9_areTwins : GoodIn wsX9_document (wsV RX9 159 RX9 yX9_areTwins wsX9_areTwins) := goodIn_app (goodIn_of _ (by decide +kernel)) ggX9_document_X9_areTwins
set_option maxRecDepth 20000 in
theorem ggX9_document_X9_families : GoodIn wsX9_document wsX9_families := goodIn_r _ [53, 2, 4, 15, 16, 17, 8, 18, 19, 1, 20, 21, 22, 23, 24, 25, 26, 27, 28, 29, 30, 31, 32, 33, 34, 35, 36, 37, 38, 39, 40, 41, 42, 43, 44, 45, 46, 47, 48, 49, 58, 59, 60, 61, 62, 63, 64, 65, 66, 67, 68, 69, 70, 71, 72, 73, 74, 75, 76, 77, 78, 79, 80, 81, 82, 83, 84, 85, 86, 87, 88, 89] (by decide +kernel) (by decide +kernel)
set_option maxRecDepth 20000 in
theorem gX9_document_X9_families : GoodIn wsX9_document (wsV RX9 162 RX9 yX9_families wsX9_families) := goodIn_app (goodIn_of _ (by decide +kernel)) ggX9_document_X9_families
set_option maxRecDepth 20000 in
theorem ggX9_document_X9_inFamily : GoodIn wsX9_document wsX9_inFamily := goodIn_r _ [57, 2, 4, 58, 59, 60, 61, 62, 63, 64, 65, 66, 67, 68, 69, 70, 71, 72, 73, 74, 75, 76, 77, 78, 79, 80, 81, 82, 83, 84, 85, 86, 87, 88, 89] (by decide +kernel) (by decide +kernel)
set_option maxRecDepth 20000 in
theorem gX9_document_X9_inFamily : GoodIn wsX9_document (wsV RX9 165 RX9 yX9_inFamily wsX9_inFamily) := goodIn_app (goodIn_of _ (by decide +kernel)) ggX9_document_X9_inFamily
set_option maxRecDepth 20000 in
theorem ggX9_shingle_X9_slot : GoodIn wsX9_shingle wsX9_slot := goodIn_r _ [7, 8, 9, 15, 16, 17, 18, 19, 20, 21, 22, 23, 24, 25, 26, 27, 28, 29, 30, 31, 32, 33, 34, 35, 36, 37, 38, 39, 40, 41, 42, 43, 44, 45, 46] (by decide +kernel) (by decide +kernel)
set_option maxRecDepth 20000 in
theorem gX9_shingle_X9_slot : GoodIn wsX9_shingle (wsV RX9 88 RX9 yX9_slot wsX9_slot) := goodIn_app (goodIn_of _ (by decide +kernel)) ggX9_shingle_X9_slot
set_option maxRecDepth 20000 in
theorem ggX9_shingle_X9_throwsIf : GoodIn wsX9_shingle wsX9_throwsIf := goodIn_r _ [13, 14, 15, 16, 17, 18, 19, 20, 21, 22, 23, 24, 25, 26, 27, 28, 29, 30, 31, 32, 33, 34, 35, 36, 37, 38, 39, 40, 41, 42, 43, 44, 45, 46] (by decide +kernel) (by decide +kernel)
set_option maxRecDepth 20000 in
theorem gX9_shingle_X9_throwsIf : GoodIn wsX9_shingle (wsV RX9 92 RX9 yX9_throwsIf wsX9_throwsIf) := goodIn_app (goodIn_of _ (by decide +kernel)) ggX9_shingle_X9_throwsIf
set_option maxRecDepth 20000 in
theorem ggX9_signature_X9_slot : GoodIn wsX9_signature wsX9_slot := goodIn_r _ [6, 7, 8, 36, 37, 38, 39, 40, 41, 42, 43, 44, 45, 46, 47, 48, 49, 50, 51, 52, 53, 54, 55, 56, 57, 58, 59, 60, 61, 62, 63, 64, 65, 66, 67] (by decide +kernel) (by decide +kernel)
set_option maxRecDepth 20000 in
theorem gX9_signature_X9_slot : GoodIn wsX9_signature (wsV RX9 88 RX9 yX9_slot wsX9_slot) := goodIn_app (goodIn_of _ (by decide +kernel)) ggX9_signature_X9_slot
set_option maxRecDepth 20000 in
theorem ggX9_signature_X9_isNone : GoodIn wsX9_signature wsX9_isNone := goodIn_r _ [11] (by decide +kernel) (by decide +kernel)
set_option maxRecDepth 20000 in
theorem gX9_signature_X9_isNone : GoodIn wsX9_signature (va_wsS RX9 136 yX9_isNone wsX9_isNone) := goodIn_app (goodIn_of _ (by decide +kernel)) ggX9_signature_X9_isNone
set_option maxRecDepth 20000 in
theorem ggX9_signature_X9_throwsIf : GoodIn wsX9_signature wsX9_throwsIf := goodIn_r _ [15, 16, 36, 37, 38, 39, 40, 41, 42, 43, 44, 45, 46, 47, 48, 49, 50, 51, 52, 53, 54, 55, 56, 57, 58, 59, 60, 61, 62, 63, 64, 65, 66, 67] (by decide +kernel) (by decide +kernel)
set_option maxRecDepth 20000 in
theorem gX9_signature_X9_throwsIf : GoodIn wsX9_signature (wsV RX9 92 RX9 yX9_throwsIf wsX9_throwsIf) := goodIn_app (goodIn_of _ (by decide +kernel)) ggX9_signature_X9_throwsIf
set_option maxRecDepth 20000 in
theorem ggX9_signature_X9_sign : GoodIn wsX9_signature wsX9_sign := goodIn_r _ [20, 21, 22, 23, 7, 24, 25, 26, 27, 28, 29, 1, 30, 31, 32, 5, 33, 34, 35, 36, 37, 38, 39, 40, 41, 42, 43, 44, 45, 46, 47, 48, 49, 50, 51, 52, 53, 54, 55, 56, 57, 58, 59, 60, 61, 62, 63, 64, 65, 66, 67] (by decide +kernel) (by decide +kernel)
set_option maxRecDepth 20000 in
theorem gX9_signature_X9_sign : GoodIn wsX9_signature (wsV RX9 150 RX9 yX9_sign wsX9_sign) := goodIn_app (goodIn_of _ (by decide +kernel)) ggX9_signature_X9_sign
set_option maxRecDepth 20000 in
theorem ggX9_both_X9_slot : GoodIn wsX9_both wsX9_slot := goodIn_r _ [9, 10, 11, 49, 50, 51, 52, 53, 54, 55, 56, 57, 58, 59, 60, 61, 62, 63, 64, 65, 66, 67, 68, 69, 70, 71, 72, 73, 74, 75, 76, 77, 78, 79, 80] (by decide +kernel) (by decide +kernel)
set_option maxRecDepth 20000 in
theorem gX9_both_X9_slot : GoodIn wsX9_both (wsV RX9 88 RX9 yX9_slot wsX9_slot) := goodIn_app (goodIn_of _ (by decide +kernel)) ggX9_both_X9_slot
set_option maxRecDepth 20000 in
theorem ggX9_both_X9_throwsIf : GoodIn wsX9_both wsX9_throwsIf := goodIn_r _ [15, 16, 49, 50, 51, 52, 53, 54, 55, 56, 57, 58, 59, 60, 61, 62, 63, 64, 65, 66, 67, 68, 69, 70, 71, 72, 73, 74, 75, 76, 77, 78, 79, 80] (by decide +kernel) (by decide +kernel)
set_option maxRecDepth 20000 in
theorem gX9_both_X9_throwsIf : GoodIn wsX9_both (wsV RX9 92 RX9 yX9_throwsIf wsX9_throwsIf) := goodIn_app (goodIn_of _ (by decide +kernel)) ggX9_both_X9_throwsIf
set_option maxRecDepth 20000 in
theorem ggX9_both_X9_common : GoodIn wsX9_both wsX9_common := goodIn_r _ [20, 1, 21, 49, 50, 51, 52, 53, 54, 55, 56, 57, 58, 59, 60, 61, 62, 63, 64, 65, 66, 67, 68, 69, 70, 71, 72, 73, 74, 75, 76, 77, 78, 79, 80] (by decide +kernel) (by decide +kernel)
set_option maxRecDepth 20000 in
theorem gX9_both_X9_common : GoodIn wsX9_both (wsV RX9 156 RX9 yX9_common wsX9_common) := goodIn_app (goodIn_of _ (by decide +kernel)) ggX9_both_X9_common
set_option maxRecDepth 20000 in
theorem ggX9_both_X9_band : GoodIn wsX9_both wsX9_band := goodIn_r _ [25, 1, 2, 3, 4, 26, 27, 28, 8, 29, 30, 31, 32, 10, 33, 21, 34, 35, 36, 37, 38, 39, 40, 41, 42, 49, 50, 51, 52, 53, 54, 55, 56, 57, 58, 59, 60, 61, 62, 63, 64, 65, 66, 67, 68, 69, 70, 71, 72, 73, 74, 75, 76, 77, 78, 79, 80] (by decide +kernel) (by decide +kernel)
set_option maxRecDepth 20000 in
theorem gX9_both_X9_band : GoodIn wsX9_both (wsV RX9 153 RX9 yX9_band wsX9_band) := goodIn_app (goodIn_of _ (by decide +kernel)) ggX9_both_X9_band
set_option maxRecDepth 20000 in
theorem ggX9_both_X9_areTwins : GoodIn wsX9_both wsX9_areTwins := goodIn_r _ [46, 47, 1, 48, 22, 23, 24, 8, 25, 2, 3, 4, 26, 27, 28, 29, 30, 31, 32, 10, 33, 21, 34, 35, 36, 37, 38, 39, 40, 41, 42, 17, 18, 19, 20, 49, 50, 51, 52, 53, 54, 55, 56, 57, 58, 59, 60, 61, 62, 63, 64, 65, 66, 67, 68, 69, 70, 71, 72, 73, 74, 75, 76, 77, 78, 79, 80] (by decide +kernel) (by decide +kernel)
set_option maxRecDepth 20000 in
theorem gX9_both_X9_areTwins : GoodIn wsX9_both (wsV RX9 159 RX9 yX9_areTwins wsX9_areTwins) := goodIn_app (goodIn_of _ (by decide +kernel)) ggX9_both_X9_areTwins
set_option maxRecDepth 20000 in
theorem ggX9_both_X9_sign : GoodIn wsX9_both wsX9_sign := goodIn_r _ [29, 30, 31, 32, 10, 33, 1, 21, 34, 35, 36, 4, 37, 38, 39, 8, 40, 41, 42, 49, 50, 51, 52, 53, 54, 55, 56, 57, 58, 59, 60, 61, 62, 63, 64, 65, 66, 67, 68, 69, 70, 71, 72, 73, 74, 75, 76, 77, 78, 79, 80] (by decide +kernel) (by decide +kernel)
set_option maxRecDepth 20000 in
theorem gX9_both_X9_sign : GoodIn wsX9_both (wsV RX9 150 RX9 yX9_sign wsX9_sign) := goodIn_app (goodIn_of _ (by decide +kernel)) ggX9_both_X9_sign
set_option maxRecDepth 20000 in
theorem ggX9_isPair_X9_band : GoodIn wsX9_isPair wsX9_band := goodIn_r _ [5, 6, 7, 8, 9, 10, 11, 12, 4, 13, 14, 15, 16, 17, 18, 19, 20, 21, 22, 23, 24, 25, 26, 27, 28, 39, 40, 41, 42, 43, 44, 45, 46, 47, 48, 49, 50, 51, 52, 53, 54, 55, 56, 57, 58, 59, 60, 61, 62, 63, 64, 65, 66, 67, 68, 69, 70] (by decide +kernel) (by decide +kernel)
set_option maxRecDepth 20000 in
theorem gX9_isPair_X9_band : GoodIn wsX9_isPair (wsV RX9 153 RX9 yX9_band wsX9_band) := goodIn_app (goodIn_of _ (by decide +kernel)) ggX9_isPair_X9_band
set_option maxRecDepth 20000 in
theorem ggX9_isPair_X9_areTwins : GoodIn wsX9_isPair wsX9_areTwins := goodIn_r _ [32, 33, 6, 34, 1, 2, 3, 4, 5, 7, 8, 9, 10, 11, 12, 13, 14, 15, 16, 17, 18, 19, 20, 21, 22, 23, 24, 25, 26, 27, 28, 35, 36, 37, 38, 39, 40, 41, 42, 43, 44, 45, 46, 47, 48, 49, 50, 51, 52, 53, 54, 55, 56, 57, 58, 59, 60, 61, 62, 63, 64, 65, 66, 67, 68, 69, 70] (by decide +kernel) (by decide +kernel)
set_option maxRecDepth 20000 in
theorem gX9_isPair_X9_areTwins : GoodIn wsX9_isPair (wsV RX9 159 RX9 yX9_areTwins wsX9_areTwins) := goodIn_app (goodIn_of _ (by decide +kernel)) ggX9_isPair_X9_areTwins
set_option maxRecDepth 20000 in
theorem ggX9_isTold_X9_inFamily : GoodIn wsX9_isTold wsX9_inFamily := goodIn_r _ [6, 7, 1, 8, 9, 10, 11, 12, 13, 14, 15, 16, 17, 18, 19, 20, 21, 22, 23, 24, 25, 26, 27, 28, 29, 30, 31, 32, 33, 34, 35, 36, 37, 38, 39] (by decide +kernel) (by decide +kernel)
set_option maxRecDepth 20000 in
theorem gX9_isTold_X9_inFamily : GoodIn wsX9_isTold (wsV RX9 165 RX9 yX9_inFamily wsX9_inFamily) := goodIn_app (goodIn_of _ (by decide +kernel)) ggX9_isTold_X9_inFamily
set_option maxRecDepth 20000 in
theorem ggX9_pairs_X9_families : GoodIn wsX9_pairs wsX9_families := goodIn_r _ [7, 2, 8, 9, 10, 11, 6, 12, 13, 14, 15, 16, 17, 18, 19, 20, 21, 22, 23, 24, 25, 26, 27, 28, 29, 30, 31, 32, 33, 34, 35, 36, 37, 38, 39, 40, 41, 42, 43, 44, 57, 58, 59, 60, 61, 62, 63, 64, 65, 66, 67, 68, 69, 70, 71, 72, 73, 74, 75, 76, 77, 78, 79, 80, 81, 82, 83, 84, 85, 86, 87, 88] (by decide +kernel) (by decide +kernel)
set_option maxRecDepth 20000 in
theorem gX9_pairs_X9_families : GoodIn wsX9_pairs (wsV RX9 162 RX9 yX9_families wsX9_families) := goodIn_app (goodIn_of _ (by decide +kernel)) ggX9_pairs_X9_families
set_option maxRecDepth 20000 in
theorem ggX9_pairs_X9_isTold : GoodIn wsX9_pairs wsX9_isTold := goodIn_r _ [48, 8, 49, 50, 51, 6, 52, 2, 57, 58, 59, 60, 61, 62, 63, 64, 65, 66, 67, 68, 69, 70, 71, 72, 73, 74, 75, 76, 77, 78, 79, 80, 81, 82, 83, 84, 85, 86, 87, 88] (by decide +kernel) (by decide +kernel)
set_option maxRecDepth 20000 in
theorem gX9_pairs_X9_isTold : GoodIn wsX9_pairs (wsV RX9 168 RX9 yX9_isTold wsX9_isTold) := goodIn_app (goodIn_of _ (by decide +kernel)) ggX9_pairs_X9_isTold
set_option maxRecDepth 20000 in
theorem ggX9_pairs_X9_isPair : GoodIn wsX9_pairs wsX9_isPair := goodIn_r _ [56, 16, 17, 18, 6, 19, 14, 20, 21, 22, 23, 24, 25, 26, 27, 28, 29, 2, 30, 31, 32, 33, 34, 35, 36, 37, 38, 39, 40, 9, 10, 11, 12, 13, 15, 41, 42, 43, 44, 57, 58, 59, 60, 61, 62, 63, 64, 65, 66, 67, 68, 69, 70, 71, 72, 73, 74, 75, 76, 77, 78, 79, 80, 81, 82, 83, 84, 85, 86, 87, 88] (by decide +kernel) (by decide +kernel)
set_option maxRecDepth 20000 in
theorem gX9_pairs_X9_isPair : GoodIn wsX9_pairs (wsV RX9 171 RX9 yX9_isPair wsX9_isPair) := goodIn_app (goodIn_of _ (by decide +kernel)) ggX9_pairs_X9_isPair
set_option maxRecDepth 20000 in
theorem ggX9_pair_X9_families : GoodIn wsX9_pair wsX9_families := goodIn_r _ [8, 2, 9, 10, 11, 12, 7, 13, 14, 15, 16, 17, 18, 19, 20, 21, 22, 23, 24, 25, 26, 27, 28, 29, 30, 31, 32, 33, 34, 35, 36, 37, 38, 39, 40, 41, 42, 43, 44, 45, 58, 59, 60, 61, 62, 63, 64, 65, 66, 67, 68, 69, 70, 71, 72, 73, 74, 75, 76, 77, 78, 79, 80, 81, 82, 83, 84, 85, 86, 87, 88, 89] (by decide +kernel) (by decide +kernel)
set_option maxRecDepth 20000 in
theorem gX9_pair_X9_families : GoodIn wsX9_pair (wsV RX9 162 RX9 yX9_families wsX9_families) := goodIn_app (goodIn_of _ (by decide +kernel)) ggX9_pair_X9_families
set_option maxRecDepth 20000 in
theorem ggX9_pair_X9_isTold : GoodIn wsX9_pair wsX9_isTold := goodIn_r _ [49, 9, 50, 51, 52, 7, 53, 2, 58, 59, 60, 61, 62, 63, 64, 65, 66, 67, 68, 69, 70, 71, 72, 73, 74, 75, 76, 77, 78, 79, 80, 81, 82, 83, 84, 85, 86, 87, 88, 89] (by decide +kernel) (by decide +kernel)
set_option maxRecDepth 20000 in
theorem gX9_pair_X9_isTold : GoodIn wsX9_pair (wsV RX9 168 RX9 yX9_isTold wsX9_isTold) := goodIn_app (goodIn_of _ (by decide +kernel)) ggX9_pair_X9_isTold
set_option maxRecDepth 20000 in
theorem ggX9_pair_X9_isPair : GoodIn wsX9_pair wsX9_isPair := goodIn_r _ [57, 17, 18, 19, 7, 20, 15, 21, 22, 23, 24, 25, 26, 27, 28, 29, 30, 2, 31, 32, 33, 34, 35, 36, 37, 38, 39, 40, 41, 10, 11, 12, 13, 14, 16, 42, 43, 44, 45, 58, 59, 60, 61, 62, 63, 64, 65, 66, 67, 68, 69, 70, 71, 72, 73, 74, 75, 76, 77, 78, 79, 80, 81, 82, 83, 84, 85, 86, 87, 88, 89] (by decide +kernel) (by decide +kernel)
set_option maxRecDepth 20000 in
theorem gX9_pair_X9_isPair : GoodIn wsX9_pair (wsV RX9 171 RX9 yX9_isPair wsX9_isPair) := goodIn_app (goodIn_of _ (by decide +kernel)) ggX9_pair_X9_isPair
set_option maxRecDepth 20000 in
theorem ggX9_isNearer_X9_common : GoodIn wsX9_isNearer wsX9_common := goodIn_r _ [6, 1, 7, 8, 9, 10, 11, 12, 13, 14, 15, 16, 17, 18, 19, 20, 21, 22, 23, 24, 25, 26, 27, 28, 29, 30, 31, 32, 33, 34, 35, 36, 37, 38, 39] (by decide +kernel) (by decide +kernel)
set_option maxRecDepth 20000 in
theorem gX9_isNearer_X9_common : GoodIn wsX9_isNearer (wsV RX9 156 RX9 yX9_common wsX9_common) := goodIn_app (goodIn_of _ (by decide +kernel)) ggX9_isNearer_X9_common
set_option maxRecDepth 20000 in
theorem ggX9_nearest_X9_slot : GoodIn wsX9_nearest wsX9_slot := goodIn_r _ [7, 1, 2, 23, 24, 25, 26, 27, 28, 29, 30, 31, 32, 33, 34, 35, 36, 37, 38, 39, 40, 41, 42, 43, 44, 45, 46, 47, 48, 49, 50, 51, 52, 53, 54] (by decide +kernel) (by decide +kernel)
set_option maxRecDepth 20000 in
theorem gX9_nearest_X9_slot : GoodIn wsX9_nearest (wsV RX9 88 RX9 yX9_slot wsX9_slot) := goodIn_app (goodIn_of _ (by decide +kernel)) ggX9_nearest_X9_slot
set_option maxRecDepth 20000 in
theorem ggX9_nearest_X9_throwsIf : GoodIn wsX9_nearest wsX9_throwsIf := goodIn_r _ [11, 12, 23, 24, 25, 26, 27, 28, 29, 30, 31, 32, 33, 34, 35, 36, 37, 38, 39, 40, 41, 42, 43, 44, 45, 46, 47, 48, 49, 50, 51, 52, 53, 54] (by decide +kernel) (by decide +kernel)
set_option maxRecDepth 20000 in
theorem gX9_nearest_X9_throwsIf : GoodIn wsX9_nearest (wsV RX9 92 RX9 yX9_throwsIf wsX9_throwsIf) := goodIn_app (goodIn_of _ (by decide +kernel)) ggX9_nearest_X9_throwsIf
set_option maxRecDepth 20000 in
theorem ggX9_nearest_X9_isNearer : GoodIn wsX9_nearest wsX9_isNearer := goodIn_r _ [16, 17, 18, 19, 20, 6, 21, 22, 23, 24, 25, 26, 27, 28, 29, 30, 31, 32, 33, 34, 35, 36, 37, 38, 39, 40, 41, 42, 43, 44, 45, 46, 47, 48, 49, 50, 51, 52, 53, 54] (by decide +kernel) (by decide +kernel)
set_option maxRecDepth 20000 in
theorem gX9_nearest_X9_isNearer : GoodIn wsX9_nearest (wsV RX9 174 RX9 yX9_isNearer wsX9_isNearer) := goodIn_app (goodIn_of _ (by decide +kernel)) ggX9_nearest_X9_isNearer
set_option maxRecDepth 20000 in
theorem ggX9_count_X9_makePlain : GoodIn wsX9_count wsX9_makePlain := goodIn_r _ [19, 3, 2, 20, 21, 22, 23, 24, 25, 26, 27, 28, 29, 30, 31, 32, 33, 34, 35, 36, 37, 38, 39, 40, 41, 42, 43, 44, 45, 46, 47, 48, 49, 50, 51, 52, 53] (by decide +kernel) (by decide +kernel)
set_option maxRecDepth 20000 in
theorem gX9_count_X9_makePlain : GoodIn wsX9_count (wsV RX9 61 RX9 yX9_makePlain wsX9_makePlain) := goodIn_app (goodIn_of _ (by decide +kernel)) ggX9_count_X9_makePlain
set_option maxRecDepth 20000 in
theorem ggJxc12de_init_da8c8_Jxa1e45_init_da8c8 : GoodIn wsJxc12de_init_da8c8 wsJxa1e45_init_da8c8 := goodIn_r _ [5, 6, 7, 8] (by decide +kernel) (by decide +kernel)
set_option maxRecDepth 20000 in
theorem gJxc12de_init_da8c8_Jxa1e45_init_da8c8 : GoodIn wsJxc12de_init_da8c8 (wsJxa1e45_init_da8c8) := ggJxc12de_init_da8c8_Jxa1e45_init_da8c8
set_option maxRecDepth 20000 in
theorem ggJx4a65c_init_da8c8_Jxc12de_init_da8c8 : GoodIn wsJx4a65c_init_da8c8 wsJxc12de_init_da8c8 := goodIn_r _ [6, 7, 8, 9, 10, 11, 12, 13, 14, 15, 16, 17] (by decide +kernel) (by decide +kernel)
set_option maxRecDepth 20000 in
theorem gJx4a65c_init_da8c8_Jxc12de_init_da8c8 : GoodIn wsJx4a65c_init_da8c8 (wsJxc12de_init_da8c8) := ggJx4a65c_init_da8c8_Jxc12de_init_da8c8
set_option maxRecDepth 20000 in
theorem ggJx4a65c_grow_92f84_J8_newLength_cabcc : GoodIn wsJx4a65c_grow_92f84 wsJ8_newLength_cabcc := goodIn_r _ [11, 12, 4, 5, 6, 13, 14, 15, 10, 16] (by decide +kernel) (by decide +kernel)
set_option maxRecDepth 20000 in
theorem gJx4a65c_grow_92f84_J8_newLength_cabcc : GoodIn wsJx4a65c_grow_92f84 (va_wsS RJx4a65c 73 yJ8_newLength_cabcc wsJ8_newLength_cabcc) := goodIn_app (goodIn_of _ (by decide +kernel)) ggJx4a65c_grow_92f84_J8_newLength_cabcc
set_option maxRecDepth 20000 in
theorem ggJx4a65c_grow_92f84_J7_copyOf_1904c : GoodIn wsJx4a65c_grow_92f84 wsJ7_copyOf_1904c := goodIn_r _ [20, 21, 22, 23, 24, 25, 26, 19, 27, 28, 29, 30, 31, 5, 32, 33, 34, 35, 36] (by decide +kernel) (by decide +kernel)
set_option maxRecDepth 20000 in
theorem gJx4a65c_grow_92f84_J7_copyOf_1904c : GoodIn wsJx4a65c_grow_92f84 (va_wsS RJx4a65c 66 yJ7_copyOf_1904c wsJ7_copyOf_1904c) := goodIn_app (goodIn_of _ (by decide +kernel)) ggJx4a65c_grow_92f84_J7_copyOf_1904c
set_option maxRecDepth 20000 in
theorem ggJx4a65c_grow_d5877_Jx4a65c_grow_92f84 : GoodIn wsJx4a65c_grow_d5877 wsJx4a65c_grow_92f84 := goodIn_r _ [6, 7, 8, 9, 10, 11, 12, 13, 14, 15, 16, 17, 18, 19, 20, 21, 22, 23, 24, 25, 26, 27, 28, 29, 30, 31, 32, 33, 34, 35, 36, 37, 38, 39, 40, 41, 42, 43, 44, 45] (by decide +kernel) (by decide +kernel)
set_option maxRecDepth 20000 in
theorem gJx4a65c_grow_d5877_Jx4a65c_grow_92f84 : GoodIn wsJx4a65c_grow_d5877 (wsV RJx4a65c 69 RJx4a65c yJx4a65c_grow_92f84 wsJx4a65c_grow_92f84) := goodIn_app (goodIn_of _ (by decide +kernel)) ggJx4a65c_grow_d5877_Jx4a65c_grow_92f84
set_option maxRecDepth 20000 in
theorem ggJx4a65c_get_915e3_J15_checkIndex_7cf53 : GoodIn wsJx4a65c_get_915e3 wsJ15_checkIndex_7cf53 := goodIn_r _ [5, 6, 7, 8, 9] (by decide +kernel) (by decide +kernel)
set_option maxRecDepth 20000 in
theorem gJx4a65c_get_915e3_J15_checkIndex_7cf53 : GoodIn wsJx4a65c_get_915e3 (va_wsS RJx4a65c 118 yJ15_checkIndex_7cf53 wsJ15_checkIndex_7cf53) := goodIn_app (goodIn_of _ (by decide +kernel)) ggJx4a65c_get_915e3_J15_checkIndex_7cf53
set_option maxRecDepth 20000 in
theorem ggJx4a65c_get_915e3_Jx4a65c_elementData_915e3 : GoodIn wsJx4a65c_get_915e3 wsJx4a65c_elementData_915e3 := goodIn_r _ [14, 15, 16, 17, 18] (by decide +kernel) (by decide +kernel)
set_option maxRecDepth 20000 in
theorem gJx4a65c_get_915e3_Jx4a65c_elementData_915e3 : GoodIn wsJx4a65c_get_915e3 (wsV RJx4a65c 123 RJx4a65c yJx4a65c_elementData_915e3 wsJx4a65c_elementData_915e3) := goodIn_app (goodIn_of _ (by decide +kernel)) ggJx4a65c_get_915e3_Jx4a65c_elementData_915e3
set_option maxRecDepth 20000 in
theorem ggJx4a65c_add_72be8_Jx4a65c_grow_d5877 : GoodIn wsJx4a65c_add_72be8 wsJx4a65c_grow_d5877 := goodIn_r _ [6, 1, 7, 8, 9, 5, 10, 11, 12, 13, 14, 15, 16, 17, 18, 19, 20, 21, 22, 23, 24, 25, 26, 27, 28, 29, 30, 31, 32, 33, 34, 35, 36, 37, 38, 39, 40, 41, 42, 43, 44, 45, 46, 47, 48, 49] (by decide +kernel) (by decide +kernel)
set_option maxRecDepth 20000 in
theorem gJx4a65c_add_72be8_Jx4a65c_grow_d5877 : GoodIn wsJx4a65c_add_72be8 (wsV RJx4a65c 129 RJx4a65c yJx4a65c_grow_d5877 wsJx4a65c_grow_d5877) := goodIn_app (goodIn_of _ (by decide +kernel)) ggJx4a65c_add_72be8_Jx4a65c_grow_d5877
set_option maxRecDepth 20000 in
theorem ggJx4a65c_add_9ea2d_Jx4a65c_add_72be8 : GoodIn wsJx4a65c_add_9ea2d wsJx4a65c_add_72be8 := goodIn_r _ [9, 4, 10, 11, 12, 8, 13, 14, 15, 16, 17, 3, 18, 19, 20, 21, 22, 23, 24, 25, 26, 27, 28, 29, 30, 31, 32, 33, 34, 35, 36, 37, 38, 39, 40, 41, 42, 43, 44, 45, 46, 47, 48, 49, 50, 51, 52, 53, 54, 55] (by decide +kernel) (by decide +kernel)
set_option maxRecDepth 20000 in
theorem gJx4a65c_add_9ea2d_Jx4a65c_add_72be8 : GoodIn wsJx4a65c_add_9ea2d (wsV RJx4a65c 131 RJx4a65c yJx4a65c_add_72be8 wsJx4a65c_add_72be8) := goodIn_app (goodIn_of _ (by decide +kernel)) ggJx4a65c_add_9ea2d_Jx4a65c_add_72be8
set_option maxRecDepth 20000 in
theorem ggJx4a65c_add_7a177_Jx4a65c_rangeCheckForAdd_d00df : GoodIn wsJx4a65c_add_7a177 wsJx4a65c_rangeCheckForAdd_d00df := goodIn_r _ [13, 3, 54, 55, 56] (by decide +kernel) (by decide +kernel)
set_option maxRecDepth 20000 in
theorem gJx4a65c_add_7a177_Jx4a65c_rangeCheckForAdd_d00df : GoodIn wsJx4a65c_add_7a177 (wsV RJx4a65c 135 RJx4a65c yJx4a65c_rangeCheckForAdd_d00df wsJx4a65c_rangeCheckForAdd_d00df) := goodIn_app (goodIn_of _ (by decide +kernel)) ggJx4a65c_add_7a177_Jx4a65c_rangeCheckForAdd_d00df
set_option maxRecDepth 20000 in
theorem ggJx4a65c_add_7a177_Jx4a65c_grow_d5877 : GoodIn wsJx4a65c_add_7a177 wsJx4a65c_grow_d5877 := goodIn_r _ [17, 3, 18, 19, 20, 12, 21, 4, 22, 23, 24, 25, 26, 27, 28, 29, 30, 31, 32, 33, 34, 35, 36, 37, 38, 39, 40, 41, 42, 43, 44, 45, 46, 47, 48, 49, 50, 51, 52, 53, 6, 7, 8, 54, 55, 56] (by decide +kernel) (by decide +kernel)
set_option maxRecDepth 20000 in
theorem gJx4a65c_add_7a177_Jx4a65c_grow_d5877 : GoodIn wsJx4a65c_add_7a177 (wsV RJx4a65c 129 RJx4a65c yJx4a65c_grow_d5877 wsJx4a65c_grow_d5877) := goodIn_app (goodIn_of _ (by decide +kernel)) ggJx4a65c_add_7a177_Jx4a65c_grow_d5877
set_option maxRecDepth 20000 in
theorem ggJx4a65c_remove_915e3_J15_checkIndex_7cf53 : GoodIn wsJx4a65c_remove_915e3 wsJ15_checkIndex_7cf53 := goodIn_r _ [6, 7, 8, 9, 10] (by decide +kernel) (by decide +kernel)
set_option maxRecDepth 20000 in
theorem gJx4a65c_remove_915e3_J15_checkIndex_7cf53 : GoodIn wsJx4a65c_remove_915e3 (va_wsS RJx4a65c 118 yJ15_checkIndex_7cf53 wsJ15_checkIndex_7cf53) := goodIn_app (goodIn_of _ (by decide +kernel)) ggJx4a65c_remove_915e3_J15_checkIndex_7cf53
set_option maxRecDepth 20000 in
theorem ggJx4a65c_remove_915e3_Jx4a65c_fastRemove_b59b0 : GoodIn wsJx4a65c_remove_915e3 wsJx4a65c_fastRemove_b59b0 := goodIn_r _ [15, 16, 17, 1, 18, 19, 20, 21, 22, 23, 24] (by decide +kernel) (by decide +kernel)
set_option maxRecDepth 20000 in
theorem gJx4a65c_remove_915e3_Jx4a65c_fastRemove_b59b0 : GoodIn wsJx4a65c_remove_915e3 (wsV RJx4a65c 144 RJx4a65c yJx4a65c_fastRemove_b59b0 wsJx4a65c_fastRemove_b59b0) := goodIn_app (goodIn_of _ (by decide +kernel)) ggJx4a65c_remove_915e3_Jx4a65c_fastRemove_b59b0
set_option maxRecDepth 20000 in
theorem ggJ7_copyOf_1904c_J7_copyOf_6403c : GoodIn wsJ7_copyOf_1904c wsJ7_copyOf_6403c := goodIn_r _ [8, 9, 10, 11, 12, 13, 14, 15, 16, 17, 18] (by decide +kernel) (by decide +kernel)
set_option maxRecDepth 20000 in
theorem gJ7_copyOf_1904c_J7_copyOf_6403c : GoodIn wsJ7_copyOf_1904c (va_wsS RJ7 300 yJ7_copyOf_6403c wsJ7_copyOf_6403c) := goodIn_app (goodIn_of _ (by decide +kernel)) ggJ7_copyOf_1904c_J7_copyOf_6403c
set_option maxRecDepth 20000 in
theorem ggJ15_checkIndex_7cf53_J3_checkIndex_8e157 : GoodIn wsJ15_checkIndex_7cf53 wsJ3_checkIndex_8e157 := goodIn_r _ [4] (by decide +kernel) (by decide +kernel)
set_option maxRecDepth 20000 in
theorem gJ15_checkIndex_7cf53_J3_checkIndex_8e157 : GoodIn wsJ15_checkIndex_7cf53 (va_wsS RJ15 105 yJ3_checkIndex_8e157 wsJ3_checkIndex_8e157) := goodIn_app (goodIn_of _ (by decide +kernel)) ggJ15_checkIndex_7cf53_J3_checkIndex_8e157
set_option maxRecDepth 20000 in
theorem ggJ8_newLength_cabcc_J8_hugeLength_7cf53 : GoodIn wsJ8_newLength_cabcc wsJ8_hugeLength_7cf53 := goodIn_r _ [9, 5] (by decide +kernel) (by decide +kernel)
set_option maxRecDepth 20000 in
theorem gJ8_newLength_cabcc_J8_hugeLength_7cf53 : GoodIn wsJ8_newLength_cabcc (va_wsS RJ8 201 yJ8_hugeLength_7cf53 wsJ8_hugeLength_7cf53) := goodIn_app (goodIn_of _ (by decide +kernel)) ggJ8_newLength_cabcc_J8_hugeLength_7cf53
set_option maxRecDepth 20000 in
theorem ggL_mode_X8_mode : GoodIn wsL_mode wsX8_mode := goodIn_ca (goodIn_r _ [6, 7, 8, 9, 10, 11, 12, 13, 14, 15, 16, 17, 18, 19, 20, 21, 22, 23, 24, 25, 26, 27, 28, 29, 30, 31, 32, 33, 34, 35, 36, 37, 38, 39, 40, 41, 42, 43, 44, 45, 46, 47, 48, 49, 50, 51, 52, 53, 54, 55, 56, 57, 58, 59, 60, 61, 62, 63, 64, 65, 66, 67, 68, 69, 70, 71, 72, 73, 74, 75, 76, 77, 78, 79, 80, 81, 82, 83, 84, 85, 86, 87, 88, 89, 90, 91, 92, 93, 94, 95, 96, 97, 98, 99, 100, 101, 102, 103, 104, 105, 106, 107, 108, 109, 110, 111, 112, 113, 114, 115, 116, 117, 118, 119, 120, 121, 122, 123, 124, 125, 126, 127, 128, 129, 130, 131, 132, 133, 134, 135, 136, 137, 138, 139, 140] (by decide +kernel) (by decide +kernel)) (goodIn_sub (fun _ h => List.mem_cons_of_mem _ (List.mem_append_right _ h)) (by decide +kernel))
set_option maxRecDepth 20000 in
theorem gL_mode_X8_mode : GoodIn wsL_mode (wsV RL 7 RX8 yX8_mode wsX8_mode) := goodIn_app (goodIn_of _ (by decide +kernel)) ggL_mode_X8_mode
set_option maxRecDepth 20000 in
theorem ggL_document_X8_document : GoodIn wsL_document wsX8_document := goodIn_ca (goodIn_r _ [6, 7, 8, 9, 10, 11, 12, 13, 14, 15, 16, 17, 18, 19, 20, 21, 22, 23, 24, 25, 26, 27, 28, 29, 30, 31, 32, 33, 34, 35, 36, 37, 38, 39, 40, 41, 42, 43, 44, 45, 46, 47, 48, 49, 50, 51, 52, 53, 54, 55, 56, 57, 58, 59, 60, 61, 62, 63, 64, 65, 66, 67, 68, 69, 70, 71, 72, 73, 74, 75, 76, 77, 78, 79, 80, 81, 82, 83, 84, 85, 86, 87, 88, 89, 90, 91, 92, 93, 94, 95, 96, 97, 98, 99, 100, 101, 102, 103, 104, 105, 106, 107, 108, 109, 110, 111, 112, 113, 114, 115, 116, 117, 118, 119, 120, 121, 122, 123, 124, 125, 126, 127, 128, 129, 130, 131, 132, 133, 134, 135, 136, 137, 138, 139, 140, 141, 142, 143, 144, 145, 146, 147, 148, 149, 150, 151, 152, 153, 154, 155, 156, 157, 158, 159, 160, 161, 162, 163, 164, 165, 166, 167, 168, 169, 170] (by decide +kernel) (by decide +kernel)) (goodIn_sub (fun _ h => List.mem_cons_of_mem _ (List.mem_append_right _ h)) (by decide +kernel))
set_option maxRecDepth 20000 in
theorem gL_document_X8_document : GoodIn wsL_document (wsV RL 15 RX8 yX8_document wsX8_document) := goodIn_app (goodIn_of _ (by decide +kernel)) ggL_document_X8_document
set_option maxRecDepth 20000 in
theorem ggL_shingle_X8_shingle : GoodIn wsL_shingle wsX8_shingle := goodIn_ca (goodIn_r _ [6, 7, 8, 9, 10, 11, 5, 12, 13, 14, 15, 16, 17, 18, 19, 20, 21, 22, 23, 24, 25, 26, 27, 28, 29, 30, 31, 32, 33, 34, 35, 36, 37, 38, 39, 40, 41, 42, 43, 44, 45, 46, 47, 48, 49, 50, 51, 52, 53, 54, 55, 56, 57, 58, 59, 60, 61, 62, 63, 64, 65, 66, 67, 68, 69, 70, 71, 72] (by decide +kernel) (by decide +kernel)) (goodIn_sub (fun _ h => List.mem_cons_of_mem _ (List.mem_append_right _ h)) (by decide +kernel))
set_option maxRecDepth 20000 in
theorem gL_shingle_X8_shingle : GoodIn wsL_shingle (wsV RL 20 RX8 yX8_shingle wsX8_shingle) := goodIn_app (goodIn_of _ (by decide +kernel)) ggL_shingle_X8_shingle
set_option maxRecDepth 20000 in
theorem ggL_signature_X8_signature : GoodIn wsL_signature wsX8_signature := goodIn_ca (goodIn_r _ [6, 7, 8, 9, 10, 11, 12, 5, 13, 14, 15, 16, 17, 18, 19, 20, 21, 22, 23, 24, 25, 26, 27, 28, 29, 30, 31, 32, 33, 34, 35, 36, 37, 38, 39, 40, 41, 42, 43, 44, 45, 46, 47, 48, 49, 50, 51, 52, 53, 54, 55, 56, 57, 58, 59, 60, 61, 62, 63, 64, 65, 66, 67, 68, 69, 70, 71] (by decide +kernel) (by decide +kernel)) (goodIn_sub (fun _ h => List.mem_cons_of_mem _ (List.mem_append_right _ h)) (by decide +kernel))
set_option maxRecDepth 20000 in
theorem gL_signature_X8_signature : GoodIn wsL_signature (wsV RL 23 RX8 yX8_signature wsX8_signature) := goodIn_app (goodIn_of _ (by decide +kernel)) ggL_signature_X8_signature
set_option maxRecDepth 20000 in
theorem ggL_both_X8_both : GoodIn wsL_both wsX8_both := goodIn_ca (goodIn_r _ [6, 7, 8, 9, 10, 11, 12, 5, 13, 14, 15, 16, 17, 18, 19, 20, 21, 22, 23, 24, 25, 26, 27, 28, 29, 30, 31, 32, 33, 34, 35, 36, 37, 38, 39, 40, 41, 42, 43, 44, 45, 46, 47, 48, 49, 50, 51, 52, 53, 54, 55, 56, 57, 58, 59, 60, 61, 62, 63, 64, 65, 66, 67, 68, 69, 70, 71, 72, 73, 74, 75, 76, 77, 78, 79, 80, 81, 82, 83, 84, 85, 86, 87, 88, 89, 90, 91, 92, 93, 94, 95, 96, 97, 98, 99, 100, 101, 102, 103, 104, 105, 106, 107, 108, 109, 110, 111, 112, 113, 114, 115] (by decide +kernel) (by decide +kernel)) (goodIn_sub (fun _ h => List.mem_cons_of_mem _ (List.mem_append_right _ h)) (by decide +kernel))
set_option maxRecDepth 20000 in
theorem gL_both_X8_both : GoodIn wsL_both (wsV RL 26 RX8 yX8_both wsX8_both) := goodIn_app (goodIn_of _ (by decide +kernel)) ggL_both_X8_both
set_option maxRecDepth 20000 in
theorem ggL_nearest_X8_nearest : GoodIn wsL_nearest wsX8_nearest := goodIn_ca (goodIn_r _ [6, 7, 8, 9, 10, 11, 12, 13, 5, 14, 15, 16, 17, 18, 19, 20, 21, 22, 23, 24, 25, 26, 27, 28, 29, 30, 31, 32, 33, 34, 35, 36, 37, 38, 39, 40, 41, 42, 43, 44, 45, 46, 47, 48, 49, 50, 51, 52, 53, 54, 55, 56, 57, 58, 59, 60, 61, 62, 63, 64, 65, 66, 67, 68, 69, 70, 71, 72, 73, 74, 75, 76, 77, 78, 79, 80, 81, 82, 83, 84, 85, 86, 87, 88, 89, 90, 91, 92, 93, 94, 95, 96, 97, 98, 99, 100, 101, 102, 103, 104, 105, 106, 107, 108, 109, 110, 111, 112, 113, 114, 115, 116, 117, 118, 119, 120, 121, 122, 123, 124, 125, 126, 127, 128, 129, 130, 131, 132, 133, 134, 135, 136, 137, 138, 139, 140, 141, 142, 143, 144, 145, 146, 147, 148, 149, 150, 151, 152, 153, 154, 155, 156, 157] (by decide +kernel) (by decide +kernel)) (goodIn_sub (fun _ h => List.mem_cons_of_mem _ (List.mem_append_right _ h)) (by decide +kernel))
set_option maxRecDepth 20000 in
theorem gL_nearest_X8_nearest : GoodIn wsL_nearest (wsV RL 30 RX8 yX8_nearest wsX8_nearest) := goodIn_app (goodIn_of _ (by decide +kernel)) ggL_nearest_X8_nearest

