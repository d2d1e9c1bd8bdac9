set_option maxRecDepth 20000 in
theorem ggX2_all_X2_common : GoodIn wsX2_all wsX2_common := goodIn_r _ [6, 7, 8, 9, 10, 11, 12, 13, 14, 15] (by decide +kernel) (by decide +kernel)
set_option maxRecDepth 20000 in
theorem gX2_all_X2_common : GoodIn wsX2_all (wsV RX2 36 RX2 yX2_common wsX2_common) := goodIn_app (goodIn_of _ (by decide +kernel)) ggX2_all_X2_common
set_option maxRecDepth 20000 in
theorem ggX2_firstBand_X2_agree : GoodIn wsX2_firstBand wsX2_agree := goodIn_r _ [8, 3, 9, 17, 18, 19, 20, 10, 11, 12, 13, 14, 15, 16] (by decide +kernel) (by decide +kernel)
set_option maxRecDepth 20000 in
theorem gX2_firstBand_X2_agree : GoodIn wsX2_firstBand (wsV RX2 43 RX2 yX2_agree wsX2_agree) := goodIn_app (goodIn_of _ (by decide +kernel)) ggX2_firstBand_X2_agree
set_option maxRecDepth 20000 in
theorem ggX2_areTwins_X2_firstBand : GoodIn wsX2_areTwins wsX2_firstBand := goodIn_r _ [5, 6, 7, 8, 9, 10, 11, 4, 12, 13, 30, 31, 32, 33, 34, 35, 36, 37, 38, 39, 40] (by decide +kernel) (by decide +kernel)
set_option maxRecDepth 20000 in
theorem gX2_areTwins_X2_firstBand : GoodIn wsX2_areTwins (wsV RX2 47 RX2 yX2_firstBand wsX2_firstBand) := goodIn_app (goodIn_of _ (by decide +kernel)) ggX2_areTwins_X2_firstBand
set_option maxRecDepth 20000 in
theorem ggX2_areTwins_X2_areNear : GoodIn wsX2_areTwins wsX2_areNear := goodIn_r _ [17, 18, 19, 20, 21, 22, 4, 23, 24, 25, 26, 27, 28, 29, 6, 37, 38, 39, 40, 30, 31, 32, 33, 34, 35, 36] (by decide +kernel) (by decide +kernel)
set_option maxRecDepth 20000 in
theorem gX2_areTwins_X2_areNear : GoodIn wsX2_areTwins (wsV RX2 50 RX2 yX2_areNear wsX2_areNear) := goodIn_app (goodIn_of _ (by decide +kernel)) ggX2_areTwins_X2_areNear
set_option maxRecDepth 20000 in
theorem ggX2_areNear_X2_common : GoodIn wsX2_areNear wsX2_common := goodIn_r _ [7, 8, 9, 19, 20, 21, 22, 23, 24, 25] (by decide +kernel) (by decide +kernel)
set_option maxRecDepth 20000 in
theorem gX2_areNear_X2_common : GoodIn wsX2_areNear (wsV RX2 36 RX2 yX2_common wsX2_common) := goodIn_app (goodIn_of _ (by decide +kernel)) ggX2_areNear_X2_common
set_option maxRecDepth 20000 in
theorem ggX2_areNear_X2_all : GoodIn wsX2_areNear wsX2_all := goodIn_r _ [13, 14, 3, 4, 5, 6, 7, 8, 9, 19, 20, 21, 22, 23, 24, 25] (by decide +kernel) (by decide +kernel)
set_option maxRecDepth 20000 in
theorem gX2_areNear_X2_all : GoodIn wsX2_areNear (wsV RX2 54 RX2 yX2_all wsX2_all) := goodIn_app (goodIn_of _ (by decide +kernel)) ggX2_areNear_X2_all
set_option maxRecDepth 20000 in
theorem ggX2_isNearer_X2_common : GoodIn wsX2_isNearer wsX2_common := goodIn_r _ [9, 10, 11, 17, 18, 19, 20, 21, 22, 23] (by decide +kernel) (by decide +kernel)
set_option maxRecDepth 20000 in
theorem gX2_isNearer_X2_common : GoodIn wsX2_isNearer (wsV RX2 36 RX2 yX2_common wsX2_common) := goodIn_app (goodIn_of _ (by decide +kernel)) ggX2_isNearer_X2_common
set_option maxRecDepth 20000 in
theorem ggX2_isNearer_X2_all : GoodIn wsX2_isNearer wsX2_all := goodIn_r _ [15, 16, 5, 6, 7, 8, 9, 10, 11, 17, 18, 19, 20, 21, 22, 23] (by decide +kernel) (by decide +kernel)
set_option maxRecDepth 20000 in
theorem gX2_isNearer_X2_all : GoodIn wsX2_isNearer (wsV RX2 54 RX2 yX2_all wsX2_all) := goodIn_app (goodIn_of _ (by decide +kernel)) ggX2_isNearer_X2_all
set_option maxRecDepth 20000 in
theorem ggX4_become_X4_isOne : GoodIn wsX4_become wsX4_isOne := goodIn_r _ [8] (by decide +kernel) (by decide +kernel)
set_option maxRecDepth 20000 in
theorem gX4_become_X4_isOne : GoodIn wsX4_become (va_wsS RX4 28 yX4_isOne wsX4_isOne) := goodIn_app (goodIn_of _ (by decide +kernel)) ggX4_become_X4_isOne
set_option maxRecDepth 20000 in
theorem ggX4_become_X4_isNumber : GoodIn wsX4_become wsX4_isNumber := goodIn_r _ [11, 12] (by decide +kernel) (by decide +kernel)
set_option maxRecDepth 20000 in
theorem gX4_become_X4_isNumber : GoodIn wsX4_become (va_wsS RX4 32 yX4_isNumber wsX4_isNumber) := goodIn_app (goodIn_of _ (by decide +kernel)) ggX4_become_X4_isNumber
set_option maxRecDepth 20000 in
theorem ggX4_become_X4_dropMoved : GoodIn wsX4_become wsX4_dropMoved := goodIn_r _ [16, 17, 18, 19, 20, 21, 22, 23, 24, 25, 26] (by decide +kernel) (by decide +kernel)
set_option maxRecDepth 20000 in
theorem gX4_become_X4_dropMoved : GoodIn wsX4_become (wsV RX4 39 RX4 yX4_dropMoved wsX4_dropMoved) := goodIn_app (goodIn_of _ (by decide +kernel)) ggX4_become_X4_dropMoved
set_option maxRecDepth 20000 in
theorem ggX4_swap_X4_isOne : GoodIn wsX4_swap wsX4_isOne := goodIn_r _ [6] (by decide +kernel) (by decide +kernel)
set_option maxRecDepth 20000 in
theorem gX4_swap_X4_isOne : GoodIn wsX4_swap (va_wsS RX4 28 yX4_isOne wsX4_isOne) := goodIn_app (goodIn_of _ (by decide +kernel)) ggX4_swap_X4_isOne
set_option maxRecDepth 20000 in
theorem ggX4_swap_X4_isNumber : GoodIn wsX4_swap wsX4_isNumber := goodIn_r _ [9, 10] (by decide +kernel) (by decide +kernel)
set_option maxRecDepth 20000 in
theorem gX4_swap_X4_isNumber : GoodIn wsX4_swap (va_wsS RX4 32 yX4_isNumber wsX4_isNumber) := goodIn_app (goodIn_of _ (by decide +kernel)) ggX4_swap_X4_isNumber
set_option maxRecDepth 20000 in
theorem ggX4_swap_X4_imageOf : GoodIn wsX4_swap wsX4_imageOf := goodIn_r _ [14, 2, 15, 16, 17, 18, 19, 20, 3, 4, 5, 6, 7, 8, 9, 10, 21, 22, 23, 24, 25, 26, 27, 32, 33, 34, 35, 36, 37, 38] (by decide +kernel) (by decide +kernel)
set_option maxRecDepth 20000 in
theorem gX4_swap_X4_imageOf : GoodIn wsX4_swap (wsV RX4 43 RX4 yX4_imageOf wsX4_imageOf) := goodIn_app (goodIn_of _ (by decide +kernel)) ggX4_swap_X4_imageOf
set_option maxRecDepth 20000 in
theorem ggX4_swap_X4_keyOf : GoodIn wsX4_swap wsX4_keyOf := goodIn_r _ [23] (by decide +kernel) (by decide +kernel)
set_option maxRecDepth 20000 in
theorem gX4_swap_X4_keyOf : GoodIn wsX4_swap (va_wsS RX4 47 yX4_keyOf wsX4_keyOf) := goodIn_app (goodIn_of _ (by decide +kernel)) ggX4_swap_X4_keyOf
set_option maxRecDepth 20000 in
theorem ggX4_swap_X4_move : GoodIn wsX4_swap wsX4_move := goodIn_r _ [31, 15, 16, 17, 24, 25, 26, 5, 27, 32, 33, 34, 35, 36, 37, 38] (by decide +kernel) (by decide +kernel)
set_option maxRecDepth 20000 in
theorem gX4_swap_X4_move : GoodIn wsX4_swap (wsV RX4 50 RX4 yX4_move wsX4_move) := goodIn_app (goodIn_of _ (by decide +kernel)) ggX4_swap_X4_move
set_option maxRecDepth 20000 in
theorem ggX4_imageOf_X4_isOne : GoodIn wsX4_imageOf wsX4_isOne := goodIn_r _ [11] (by decide +kernel) (by decide +kernel)
set_option maxRecDepth 20000 in
theorem gX4_imageOf_X4_isOne : GoodIn wsX4_imageOf (va_wsS RX4 28 yX4_isOne wsX4_isOne) := goodIn_app (goodIn_of _ (by decide +kernel)) ggX4_imageOf_X4_isOne
set_option maxRecDepth 20000 in
theorem ggX4_imageOf_X4_isNumber : GoodIn wsX4_imageOf wsX4_isNumber := goodIn_r _ [14, 15] (by decide +kernel) (by decide +kernel)
set_option maxRecDepth 20000 in
theorem gX4_imageOf_X4_isNumber : GoodIn wsX4_imageOf (va_wsS RX4 32 yX4_isNumber wsX4_isNumber) := goodIn_app (goodIn_of _ (by decide +kernel)) ggX4_imageOf_X4_isNumber
set_option maxRecDepth 20000 in
theorem ggX4_imageOf_X4_keyOf : GoodIn wsX4_imageOf wsX4_keyOf := goodIn_r _ [18] (by decide +kernel) (by decide +kernel)
set_option maxRecDepth 20000 in
theorem gX4_imageOf_X4_keyOf : GoodIn wsX4_imageOf (va_wsS RX4 47 yX4_keyOf wsX4_keyOf) := goodIn_app (goodIn_of _ (by decide +kernel)) ggX4_imageOf_X4_keyOf
set_option maxRecDepth 20000 in
theorem ggX4_imageOf_X4_placeFor : GoodIn wsX4_imageOf wsX4_placeFor := goodIn_r _ [22, 2, 3, 23, 24, 25, 26, 27, 28, 29] (by decide +kernel) (by decide +kernel)
set_option maxRecDepth 20000 in
theorem gX4_imageOf_X4_placeFor : GoodIn wsX4_imageOf (wsV RX4 54 RX4 yX4_placeFor wsX4_placeFor) := goodIn_app (goodIn_of _ (by decide +kernel)) ggX4_imageOf_X4_placeFor
set_option maxRecDepth 20000 in
theorem ggX4_leastOf_X4_imageOf : GoodIn wsX4_leastOf wsX4_imageOf := goodIn_r _ [12, 13, 14, 15, 16, 17, 18, 19, 20, 21, 11, 22, 23, 24, 25, 1, 26, 27, 28, 29, 30, 31, 32, 40, 41, 42, 43, 44, 45, 46] (by decide +kernel) (by decide +kernel)
set_option maxRecDepth 20000 in
theorem gX4_leastOf_X4_imageOf : GoodIn wsX4_leastOf (wsV RX4 43 RX4 yX4_imageOf wsX4_imageOf) := goodIn_app (goodIn_of _ (by decide +kernel)) ggX4_leastOf_X4_imageOf
set_option maxRecDepth 20000 in
theorem ggX4_move_X4_placeFor : GoodIn wsX4_move wsX4_placeFor := goodIn_r _ [8, 1, 2, 9, 10, 11, 12, 13, 14, 15] (by decide +kernel) (by decide +kernel)
set_option maxRecDepth 20000 in
theorem gX4_move_X4_placeFor : GoodIn wsX4_move (wsV RX4 54 RX4 yX4_placeFor wsX4_placeFor) := goodIn_app (goodIn_of _ (by decide +kernel)) ggX4_move_X4_placeFor
set_option maxRecDepth 20000 in
theorem ggX6_numberOf_X6_firstSeat : GoodIn wsX6_numberOf wsX6_firstSeat := goodIn_r _ [5] (by decide +kernel) (by decide +kernel)
set_option maxRecDepth 20000 in
theorem gX6_numberOf_X6_firstSeat : GoodIn wsX6_numberOf (va_wsS RX6 30 yX6_firstSeat wsX6_firstSeat) := goodIn_app (goodIn_of _ (by decide +kernel)) ggX6_numberOf_X6_firstSeat
set_option maxRecDepth 20000 in
theorem ggX6_numberOf_X6_enter : GoodIn wsX6_numberOf wsX6_enter := goodIn_r _ [9, 10, 11, 12, 13, 1, 14, 19, 20, 21, 22, 23] (by decide +kernel) (by decide +kernel)
set_option maxRecDepth 20000 in
theorem gX6_numberOf_X6_enter : GoodIn wsX6_numberOf (wsV RX6 34 RX6 yX6_enter wsX6_enter) := goodIn_app (goodIn_of _ (by decide +kernel)) ggX6_numberOf_X6_enter
set_option maxRecDepth 20000 in
theorem ggX6_numberOf_X6_isThere : GoodIn wsX6_numberOf wsX6_isThere := goodIn_r _ [18, 10, 13, 19, 20, 21, 22, 23] (by decide +kernel) (by decide +kernel)
set_option maxRecDepth 20000 in
theorem gX6_numberOf_X6_isThere : GoodIn wsX6_numberOf (wsV RX6 38 RX6 yX6_isThere wsX6_isThere) := goodIn_app (goodIn_of _ (by decide +kernel)) ggX6_numberOf_X6_isThere
set_option maxRecDepth 20000 in
theorem ggX7_makePlain_X7_plainSign : GoodIn wsX7_makePlain wsX7_plainSign := goodIn_r _ [7] (by decide +kernel) (by decide +kernel)
set_option maxRecDepth 20000 in
theorem gX7_makePlain_X7_plainSign : GoodIn wsX7_makePlain (va_wsS RX7 29 yX7_plainSign wsX7_plainSign) := goodIn_app (goodIn_of _ (by decide +kernel)) ggX7_makePlain_X7_plainSign
set_option maxRecDepth 20000 in
theorem ggX7_makePlain_X7_putPlain : GoodIn wsX7_makePlain wsX7_putPlain := goodIn_r _ [11, 1, 12, 13, 14, 15, 16, 17, 18, 19] (by decide +kernel) (by decide +kernel)
set_option maxRecDepth 20000 in
theorem gX7_makePlain_X7_putPlain : GoodIn wsX7_makePlain (wsV RX7 33 RX7 yX7_putPlain wsX7_putPlain) := goodIn_app (goodIn_of _ (by decide +kernel)) ggX7_makePlain_X7_putPlain
