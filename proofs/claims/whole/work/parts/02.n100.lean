set_option maxRecDepth 20000 in
theorem ggX0_bestShift_X0_squaresApart : GoodIn wsX0_bestShift wsX0_squaresApart := goodIn_r _ [5, 6, 7, 8] (by decide +kernel) (by decide +kernel)
set_option maxRecDepth 20000 in
theorem gX0_bestShift_X0_squaresApart : GoodIn wsX0_bestShift (wsV RX0 20 RX0 yX0_squaresApart wsX0_squaresApart) := goodIn_app (goodIn_of _ (by decide +kernel)) ggX0_bestShift_X0_squaresApart
set_option maxRecDepth 20000 in
theorem ggX0_steepest_X0_stepAfter : GoodIn wsX0_steepest wsX0_stepAfter := goodIn_r _ [5, 6, 7, 8, 9, 10, 11, 12] (by decide +kernel) (by decide +kernel)
set_option maxRecDepth 20000 in
theorem gX0_steepest_X0_stepAfter : GoodIn wsX0_steepest (wsV RX0 24 RX0 yX0_stepAfter wsX0_stepAfter) := goodIn_app (goodIn_of _ (by decide +kernel)) ggX0_steepest_X0_stepAfter
set_option maxRecDepth 20000 in
theorem ggX1_init_X1_renew : GoodIn wsX1_init wsX1_renew := goodIn_r _ [17, 18, 5, 6, 7, 8, 9, 11, 12, 19, 20, 21, 22, 23, 24, 25, 26] (by decide +kernel) (by decide +kernel)
set_option maxRecDepth 20000 in
theorem gX1_init_X1_renew : GoodIn wsX1_init (wsV RX1 34 RX1 yX1_renew wsX1_renew) := goodIn_app (goodIn_of _ (by decide +kernel)) ggX1_init_X1_renew
set_option maxRecDepth 20000 in
theorem ggX1_stands_X1_has : GoodIn wsX1_stands wsX1_has := goodIn_r _ [6, 7, 8, 9, 10, 11, 12, 13, 14, 15] (by decide +kernel) (by decide +kernel)
set_option maxRecDepth 20000 in
theorem gX1_stands_X1_has : GoodIn wsX1_stands (wsV RX1 42 RX1 yX1_has wsX1_has) := goodIn_app (goodIn_of _ (by decide +kernel)) ggX1_stands_X1_has
set_option maxRecDepth 20000 in
theorem ggX1_setLost_X1_forgetHanging : GoodIn wsX1_setLost wsX1_forgetHanging := goodIn_r _ [6, 7, 8, 9, 10, 11, 12, 13, 14, 15, 16, 17, 18, 19, 20, 21, 22, 23] (by decide +kernel) (by decide +kernel)
set_option maxRecDepth 20000 in
theorem gX1_setLost_X1_forgetHanging : GoodIn wsX1_setLost (wsV RX1 46 RX1 yX1_forgetHanging wsX1_forgetHanging) := goodIn_app (goodIn_of _ (by decide +kernel)) ggX1_setLost_X1_forgetHanging
set_option maxRecDepth 20000 in
theorem ggX1_setBed_X1_forgetHanging : GoodIn wsX1_setBed wsX1_forgetHanging := goodIn_r _ [6, 7, 8, 9, 10, 11, 12, 13, 14, 15, 16, 17, 18, 19, 20, 21, 22, 23] (by decide +kernel) (by decide +kernel)
set_option maxRecDepth 20000 in
theorem gX1_setBed_X1_forgetHanging : GoodIn wsX1_setBed (wsV RX1 46 RX1 yX1_forgetHanging wsX1_forgetHanging) := goodIn_app (goodIn_of _ (by decide +kernel)) ggX1_setBed_X1_forgetHanging
set_option maxRecDepth 20000 in
theorem ggX1_height_X1_stands : GoodIn wsX1_height wsX1_stands := goodIn_r _ [16, 11, 17, 18, 19, 15, 20, 7, 36, 37, 38, 39, 40, 41, 42, 43] (by decide +kernel) (by decide +kernel)
set_option maxRecDepth 20000 in
theorem gX1_height_X1_stands : GoodIn wsX1_height (wsV RX1 58 RX1 yX1_stands wsX1_stands) := goodIn_app (goodIn_of _ (by decide +kernel)) ggX1_height_X1_stands
set_option maxRecDepth 20000 in
theorem ggX1_height_X1_lineAt : GoodIn wsX1_height wsX1_lineAt := goodIn_r _ [24, 1, 25, 26, 27, 28, 29, 30, 31, 36, 37, 38, 39, 40, 41, 42, 43] (by decide +kernel) (by decide +kernel)
set_option maxRecDepth 20000 in
theorem gX1_height_X1_lineAt : GoodIn wsX1_height (wsV RX1 62 RX1 yX1_lineAt wsX1_lineAt) := goodIn_app (goodIn_of _ (by decide +kernel)) ggX1_height_X1_lineAt
set_option maxRecDepth 20000 in
theorem ggX1_height_X1_nearestBed : GoodIn wsX1_height wsX1_nearestBed := goodIn_r _ [35, 7, 1, 12, 13, 14, 15, 16, 11, 17, 18, 19, 20, 36, 37, 38, 39, 40, 41, 42, 43] (by decide +kernel) (by decide +kernel)
set_option maxRecDepth 20000 in
theorem gX1_height_X1_nearestBed : GoodIn wsX1_height (wsV RX1 66 RX1 yX1_nearestBed wsX1_nearestBed) := goodIn_app (goodIn_of _ (by decide +kernel)) ggX1_height_X1_nearestBed
set_option maxRecDepth 20000 in
theorem ggX1_lineAt_X4_floorShare : GoodIn wsX1_lineAt wsX4_floorShare := goodIn_r _ [4, 5, 6, 7, 8] (by decide +kernel) (by decide +kernel)
set_option maxRecDepth 20000 in
theorem gX1_lineAt_X4_floorShare_n70 : GoodIn wsX1_lineAt (wsX4_floorShare) := ggX1_lineAt_X4_floorShare
set_option maxRecDepth 20000 in
theorem ggX1_nearestBed_X1_stands : GoodIn wsX1_nearestBed wsX1_stands := goodIn_r _ [7, 8, 9, 10, 11, 6, 12, 1, 13, 14, 15, 16, 17, 18, 19, 20] (by decide +kernel) (by decide +kernel)
set_option maxRecDepth 20000 in
theorem gX1_nearestBed_X1_stands : GoodIn wsX1_nearestBed (wsV RX1 58 RX1 yX1_stands wsX1_stands) := goodIn_app (goodIn_of _ (by decide +kernel)) ggX1_nearestBed_X1_stands
set_option maxRecDepth 20000 in
theorem ggX1_bears_X1_stands : GoodIn wsX1_bears wsX1_stands := goodIn_r _ [7, 8, 9, 10, 11, 6, 12, 13, 41, 42, 43, 44, 45, 46, 47, 48] (by decide +kernel) (by decide +kernel)
set_option maxRecDepth 20000 in
theorem gX1_bears_X1_stands : GoodIn wsX1_bears (wsV RX1 58 RX1 yX1_stands wsX1_stands) := goodIn_app (goodIn_of _ (by decide +kernel)) ggX1_bears_X1_stands
set_option maxRecDepth 20000 in
theorem ggX1_bears_X1_height : GoodIn wsX1_bears wsX1_height := goodIn_r _ [17, 2, 18, 19, 20, 21, 22, 13, 23, 24, 25, 8, 3, 4, 5, 6, 7, 9, 10, 11, 12, 26, 27, 28, 29, 30, 31, 32, 33, 34, 35, 36, 37, 38, 39, 40, 41, 42, 43, 44, 45, 46, 47, 48] (by decide +kernel) (by decide +kernel)
set_option maxRecDepth 20000 in
theorem gX1_bears_X1_height : GoodIn wsX1_bears (wsV RX1 73 RX1 yX1_height wsX1_height) := goodIn_app (goodIn_of _ (by decide +kernel)) ggX1_bears_X1_height
set_option maxRecDepth 20000 in
theorem ggX1_jointAt_X1_stands : GoodIn wsX1_jointAt wsX1_stands := goodIn_r _ [6, 7, 8, 9, 10, 5, 11, 12, 13, 14, 15, 16, 17, 18, 19, 20] (by decide +kernel) (by decide +kernel)
set_option maxRecDepth 20000 in
theorem gX1_jointAt_X1_stands : GoodIn wsX1_jointAt (wsV RX1 58 RX1 yX1_stands wsX1_stands) := goodIn_app (goodIn_of _ (by decide +kernel)) ggX1_jointAt_X1_stands
set_option maxRecDepth 20000 in
theorem ggX1_sink_X1_setBed : GoodIn wsX1_sink wsX1_setBed := goodIn_r _ [7, 2, 8, 9, 10, 6, 11, 12, 13, 14, 15, 16, 17, 18, 19, 20, 21, 22, 23, 24, 25, 26, 27, 28] (by decide +kernel) (by decide +kernel)
set_option maxRecDepth 20000 in
theorem gX1_sink_X1_setBed : GoodIn wsX1_sink (wsV RX1 76 RX1 yX1_setBed wsX1_setBed) := goodIn_app (goodIn_of _ (by decide +kernel)) ggX1_sink_X1_setBed
set_option maxRecDepth 20000 in
theorem ggX1_raise_X1_stands : GoodIn wsX1_raise wsX1_stands := goodIn_r _ [12, 13, 14, 15, 16, 11, 17, 18, 31, 32, 33, 34, 35, 36, 37, 38] (by decide +kernel) (by decide +kernel)
set_option maxRecDepth 20000 in
theorem gX1_raise_X1_stands : GoodIn wsX1_raise (wsV RX1 58 RX1 yX1_stands wsX1_stands) := goodIn_app (goodIn_of _ (by decide +kernel)) ggX1_raise_X1_stands
set_option maxRecDepth 20000 in
theorem ggX1_raise_X1_setBed : GoodIn wsX1_raise wsX1_setBed := goodIn_r _ [22, 1, 23, 24, 25, 11, 26, 18, 27, 28, 6, 29, 4, 5, 7, 30, 31, 32, 33, 34, 35, 36, 37, 38] (by decide +kernel) (by decide +kernel)
set_option maxRecDepth 20000 in
theorem gX1_raise_X1_setBed : GoodIn wsX1_raise (wsV RX1 76 RX1 yX1_setBed wsX1_setBed) := goodIn_app (goodIn_of _ (by decide +kernel)) ggX1_raise_X1_setBed
set_option maxRecDepth 20000 in
theorem ggX1_chord_X1_has : GoodIn wsX1_chord wsX1_has := goodIn_r _ [5, 6, 40, 41, 42, 43, 44, 45, 46, 47] (by decide +kernel) (by decide +kernel)
set_option maxRecDepth 20000 in
theorem gX1_chord_X1_has : GoodIn wsX1_chord (wsV RX1 42 RX1 yX1_has wsX1_has) := goodIn_app (goodIn_of _ (by decide +kernel)) ggX1_chord_X1_has
set_option maxRecDepth 20000 in
theorem ggX1_chord_X1_height : GoodIn wsX1_chord wsX1_height := goodIn_r _ [10, 11, 12, 13, 14, 15, 16, 6, 17, 18, 19, 20, 21, 22, 23, 4, 24, 1, 2, 3, 5, 25, 26, 27, 28, 29, 30, 31, 32, 33, 34, 35, 36, 37, 38, 39, 40, 41, 42, 43, 44, 45, 46, 47] (by decide +kernel) (by decide +kernel)
set_option maxRecDepth 20000 in
theorem gX1_chord_X1_height : GoodIn wsX1_chord (wsV RX1 73 RX1 yX1_height wsX1_height) := goodIn_app (goodIn_of _ (by decide +kernel)) ggX1_chord_X1_height
set_option maxRecDepth 20000 in
theorem ggX1_greatestChord_X1_chord : GoodIn wsX1_greatestChord wsX1_chord := goodIn_r _ [12, 13, 14, 15, 11, 16, 17, 18, 19, 20, 21, 22, 23, 5, 6, 3, 7, 24, 25, 26, 27, 28, 29, 30, 31, 32, 33, 34, 35, 36, 37, 38, 39, 40, 41, 42, 43, 44, 45, 46, 47, 48, 49, 50, 51, 52, 53, 54] (by decide +kernel) (by decide +kernel)
set_option maxRecDepth 20000 in
theorem gX1_greatestChord_X1_chord : GoodIn wsX1_greatestChord (wsV RX1 80 RX1 yX1_chord wsX1_chord) := goodIn_app (goodIn_of _ (by decide +kernel)) ggX1_greatestChord_X1_chord
set_option maxRecDepth 20000 in
theorem ggX1_standing_X1_stands : GoodIn wsX1_standing wsX1_stands := goodIn_r _ [5, 6, 7, 8, 9, 4, 10, 11, 12, 13, 14, 15, 16, 17, 18, 19] (by decide +kernel) (by decide +kernel)
set_option maxRecDepth 20000 in
theorem gX1_standing_X1_stands : GoodIn wsX1_standing (wsV RX1 58 RX1 yX1_stands wsX1_stands) := goodIn_app (goodIn_of _ (by decide +kernel)) ggX1_standing_X1_stands
set_option maxRecDepth 20000 in
theorem ggX1_sumOfStones_X1_stands : GoodIn wsX1_sumOfStones wsX1_stands := goodIn_r _ [6, 7, 8, 9, 10, 5, 11, 12, 13, 14, 15, 16, 17, 18, 19, 20] (by decide +kernel) (by decide +kernel)
set_option maxRecDepth 20000 in
theorem gX1_sumOfStones_X1_stands : GoodIn wsX1_sumOfStones (wsV RX1 58 RX1 yX1_stands wsX1_stands) := goodIn_app (goodIn_of _ (by decide +kernel)) ggX1_sumOfStones_X1_stands
set_option maxRecDepth 20000 in
theorem ggX2_roll_X2_pressAt : GoodIn wsX2_roll wsX2_pressAt := goodIn_r _ [7, 8, 9, 10, 11, 12, 13, 14, 15, 16, 17, 18, 19, 20, 21, 22, 23, 24, 25, 26, 27, 28, 29, 30, 31, 32, 33, 34, 35, 36, 37, 38, 39, 40, 41, 42, 43, 44, 45, 46, 47, 48, 49, 50, 51, 52, 53, 54, 55, 56, 57, 6, 58, 59, 60, 61, 62, 63, 64, 65, 66, 67, 68, 69, 70, 71, 72, 73, 74, 75, 76, 77, 78, 79, 80, 81, 82, 83, 84, 85, 86, 87, 88, 89] (by decide +kernel) (by decide +kernel)
set_option maxRecDepth 20000 in
theorem gX2_roll_X2_pressAt : GoodIn wsX2_roll (wsV RX2 28 RX2 yX2_pressAt wsX2_pressAt) := goodIn_app (goodIn_of _ (by decide +kernel)) ggX2_roll_X2_pressAt
set_option maxRecDepth 20000 in
theorem ggX2_pressAt_X1_jointAt : GoodIn wsX2_pressAt wsX1_jointAt := goodIn_r _ [4, 5, 6, 7, 8, 2, 9, 10, 11, 12, 13, 14, 15, 73, 74, 75, 76, 77, 78, 79, 80] (by decide +kernel) (by decide +kernel)
set_option maxRecDepth 20000 in
theorem gX2_pressAt_X1_jointAt_n32 : GoodIn wsX2_pressAt (wsX1_jointAt) := ggX2_pressAt_X1_jointAt
set_option maxRecDepth 20000 in
theorem ggX2_pressAt_X1_bears : GoodIn wsX2_pressAt wsX1_bears := goodIn_r _ [18, 19, 20, 6, 7, 8, 2, 9, 10, 11, 12, 13, 14, 15, 21, 22, 23, 24, 25, 26, 27, 28, 29, 30, 31, 32, 33, 34, 35, 36, 37, 38, 39, 40, 41, 42, 43, 44, 45, 46, 47, 73, 74, 75, 76, 77, 78, 79, 80] (by decide +kernel) (by decide +kernel)
set_option maxRecDepth 20000 in
theorem gX2_pressAt_X1_bears_n39 : GoodIn wsX2_pressAt (wsX1_bears) := ggX2_pressAt_X1_bears
set_option maxRecDepth 20000 in
theorem ggX2_pressAt_X2_settle : GoodIn wsX2_pressAt wsX2_settle := goodIn_r _ [52, 53, 31, 28, 32, 54, 55, 27, 29, 12, 2, 13, 14, 15, 56, 38, 57, 58, 59, 60, 5, 61, 62, 63, 64, 20, 65, 66, 67, 68, 69, 70, 71, 72, 30, 26, 19, 73, 74, 75, 76, 77, 78, 79, 80, 81, 82, 83] (by decide +kernel) (by decide +kernel)
set_option maxRecDepth 20000 in
theorem gX2_pressAt_X2_settle : GoodIn wsX2_pressAt (wsV RX2 42 RX2 yX2_settle wsX2_settle) := goodIn_app (goodIn_of _ (by decide +kernel)) ggX2_pressAt_X2_settle
set_option maxRecDepth 20000 in
theorem ggX2_settle_X1_has : GoodIn wsX2_settle wsX1_has := goodIn_r _ [12, 13, 37, 38, 39, 40, 41, 42, 43, 44] (by decide +kernel) (by decide +kernel)
set_option maxRecDepth 20000 in
theorem gX2_settle_X1_has_n46 : GoodIn wsX2_settle (wsX1_has) := ggX2_settle_X1_has
set_option maxRecDepth 20000 in
theorem ggX2_settle_X4_cutShare : GoodIn wsX2_settle wsX4_cutShare := goodIn_r _ [16] (by decide +kernel) (by decide +kernel)
set_option maxRecDepth 20000 in
theorem gX2_settle_X4_cutShare_n49 : GoodIn wsX2_settle (wsX4_cutShare) := ggX2_settle_X4_cutShare
set_option maxRecDepth 20000 in
theorem ggX2_settle_X1_isOf : GoodIn wsX2_settle wsX1_isOf := goodIn_r _ [19, 20, 37, 38, 39, 40, 41, 42, 43, 44] (by decide +kernel) (by decide +kernel)
set_option maxRecDepth 20000 in
theorem gX2_settle_X1_isOf_n64 : GoodIn wsX2_settle (wsX1_isOf) := ggX2_settle_X1_isOf
set_option maxRecDepth 20000 in
theorem ggX2_settle_X1_sink : GoodIn wsX2_settle wsX1_sink := goodIn_r _ [23, 24, 25, 26, 27, 28, 10, 29, 30, 31, 32, 33, 13, 34, 2, 3, 4, 35, 7, 8, 36, 37, 38, 39, 40, 41, 42, 43, 44] (by decide +kernel) (by decide +kernel)
set_option maxRecDepth 20000 in
theorem gX2_settle_X1_sink_n68 : GoodIn wsX2_settle (wsX1_sink) := ggX2_settle_X1_sink
set_option maxRecDepth 20000 in
theorem ggX3_add_X3_isWorse : GoodIn wsX3_add wsX3_isWorse := goodIn_r _ [11, 3, 2, 12, 13, 14, 15, 16, 17] (by decide +kernel) (by decide +kernel)
set_option maxRecDepth 20000 in
theorem gX3_add_X3_isWorse : GoodIn wsX3_add (wsV RX3 31 RX3 yX3_isWorse wsX3_isWorse) := goodIn_app (goodIn_of _ (by decide +kernel)) ggX3_add_X3_isWorse
set_option maxRecDepth 20000 in
theorem ggX3_bestSet_J6_bitCount_0f7a4 : GoodIn wsX3_bestSet wsJ6_bitCount_0f7a4 := goodIn_r _ [9, 10, 11, 12] (by decide +kernel) (by decide +kernel)
set_option maxRecDepth 20000 in
theorem gX3_bestSet_J6_bitCount_0f7a4 : GoodIn wsX3_bestSet (va_wsS RX3 35 yJ6_bitCount_0f7a4 wsJ6_bitCount_0f7a4) := goodIn_app (goodIn_of _ (by decide +kernel)) ggX3_bestSet_J6_bitCount_0f7a4
set_option maxRecDepth 20000 in
theorem ggX4_init_X1_init : GoodIn wsX4_init wsX1_init := goodIn_r _ [26, 27, 2, 3, 20, 28, 29, 30, 31, 32, 33, 34, 35, 36, 37, 38, 6, 39, 40, 63, 64, 65, 66, 67, 68, 69, 70] (by decide +kernel) (by decide +kernel)
set_option maxRecDepth 20000 in
theorem gX4_init_X1_init_n9 : GoodIn wsX4_init (wsX1_init) := ggX4_init_X1_init
set_option maxRecDepth 20000 in
theorem ggX4_init_X2_init : GoodIn wsX4_init wsX2_init := goodIn_r _ [42, 43, 2, 3, 20, 44, 45, 46, 47, 79, 80, 81] (by decide +kernel) (by decide +kernel)
set_option maxRecDepth 20000 in
theorem gX4_init_X2_init_n18 : GoodIn wsX4_init (wsX2_init) := ggX4_init_X2_init
set_option maxRecDepth 20000 in
theorem ggX4_init_X0_init : GoodIn wsX4_init wsX0_init := goodIn_r _ [49, 50, 2, 3, 51, 20, 52, 33, 53, 82, 83] (by decide +kernel) (by decide +kernel)
set_option maxRecDepth 20000 in
theorem gX4_init_X0_init_n25 : GoodIn wsX4_init (wsX0_init) := ggX4_init_X0_init
set_option maxRecDepth 20000 in
theorem ggX4_init_X3_init : GoodIn wsX4_init wsX3_init := goodIn_r _ [55, 56, 2, 3, 20, 57, 58, 59, 60, 61, 62, 84, 85, 86, 87, 88, 89] (by decide +kernel) (by decide +kernel)
set_option maxRecDepth 20000 in
theorem gX4_init_X3_init_n32 : GoodIn wsX4_init (wsX3_init) := ggX4_init_X3_init
set_option maxRecDepth 20000 in
theorem ggX4_line_X4_within : GoodIn wsX4_line wsX4_within := goodIn_r _ [5] (by decide +kernel) (by decide +kernel)
set_option maxRecDepth 20000 in
theorem gX4_line_X4_within : GoodIn wsX4_line (va_wsS RX4 52 yX4_within wsX4_within) := goodIn_app (goodIn_of _ (by decide +kernel)) ggX4_line_X4_within
set_option maxRecDepth 20000 in
theorem ggX4_line_X1_renew : GoodIn wsX4_line wsX1_renew := goodIn_r _ [9, 10, 11, 12, 13, 14, 15, 16, 17, 26, 27, 28, 29, 30, 31, 32, 33] (by decide +kernel) (by decide +kernel)
set_option maxRecDepth 20000 in
theorem gX4_line_X1_renew_n56 : GoodIn wsX4_line (wsX1_renew) := ggX4_line_X1_renew
set_option maxRecDepth 20000 in
theorem ggX4_sleeper_X1_has : GoodIn wsX4_sleeper wsX1_has := goodIn_r _ [5, 6, 35, 36, 37, 38, 39, 40, 41, 42] (by decide +kernel) (by decide +kernel)
set_option maxRecDepth 20000 in
theorem gX4_sleeper_X1_has_n60 : GoodIn wsX4_sleeper (wsX1_has) := ggX4_sleeper_X1_has
set_option maxRecDepth 20000 in
theorem ggX4_sleeper_X4_within : GoodIn wsX4_sleeper wsX4_within := goodIn_r _ [10] (by decide +kernel) (by decide +kernel)
set_option maxRecDepth 20000 in
theorem gX4_sleeper_X4_within : GoodIn wsX4_sleeper (va_wsS RX4 52 yX4_within wsX4_within) := goodIn_app (goodIn_of _ (by decide +kernel)) ggX4_sleeper_X4_within
set_option maxRecDepth 20000 in
theorem ggX4_sleeper_X1_setLost : GoodIn wsX4_sleeper wsX1_setLost := goodIn_r _ [13, 14, 15, 16, 17, 3, 18, 6, 19, 20, 21, 22, 23, 24, 25, 26, 35, 36, 37, 38, 39, 40, 41, 42] (by decide +kernel) (by decide +kernel)
set_option maxRecDepth 20000 in
theorem gX4_sleeper_X1_setLost_n67 : GoodIn wsX4_sleeper (wsX1_setLost) := ggX4_sleeper_X1_setLost
set_option maxRecDepth 20000 in
theorem ggX4_lose_X1_has : GoodIn wsX4_lose wsX1_has := goodIn_r _ [5, 6, 31, 32, 33, 34, 35, 36, 37, 38] (by decide +kernel) (by decide +kernel)
set_option maxRecDepth 20000 in
theorem gX4_lose_X1_has_n60 : GoodIn wsX4_lose (wsX1_has) := ggX4_lose_X1_has
set_option maxRecDepth 20000 in
theorem ggX4_lose_X1_setLost : GoodIn wsX4_lose wsX1_setLost := goodIn_r _ [9, 10, 11, 12, 13, 3, 14, 6, 15, 16, 17, 18, 19, 20, 21, 22, 31, 32, 33, 34, 35, 36, 37, 38] (by decide +kernel) (by decide +kernel)
set_option maxRecDepth 20000 in
theorem gX4_lose_X1_setLost_n67 : GoodIn wsX4_lose (wsX1_setLost) := ggX4_lose_X1_setLost
set_option maxRecDepth 20000 in
theorem ggX4_bed_X1_has : GoodIn wsX4_bed wsX1_has := goodIn_r _ [5, 6, 46, 47, 48, 49, 50, 51, 52, 53] (by decide +kernel) (by decide +kernel)
set_option maxRecDepth 20000 in
theorem gX4_bed_X1_has_n60 : GoodIn wsX4_bed (wsX1_has) := ggX4_bed_X1_has
set_option maxRecDepth 20000 in
theorem ggX4_bed_X4_within : GoodIn wsX4_bed wsX4_within := goodIn_r _ [10] (by decide +kernel) (by decide +kernel)
set_option maxRecDepth 20000 in
theorem gX4_bed_X4_within : GoodIn wsX4_bed (va_wsS RX4 52 yX4_within wsX4_within) := goodIn_app (goodIn_of _ (by decide +kernel)) ggX4_bed_X4_within
set_option maxRecDepth 20000 in
theorem ggX4_bed_X4_found : GoodIn wsX4_bed wsX4_found := goodIn_r _ [14, 15, 16, 38, 39, 40, 41, 42, 43, 44, 45] (by decide +kernel) (by decide +kernel)
set_option maxRecDepth 20000 in
theorem gX4_bed_X4_found : GoodIn wsX4_bed (wsV RX4 75 RX4 yX4_found wsX4_found) := goodIn_app (goodIn_of _ (by decide +kernel)) ggX4_bed_X4_found
set_option maxRecDepth 20000 in
theorem ggX4_bed_X1_setBed : GoodIn wsX4_bed wsX1_setBed := goodIn_r _ [19, 20, 21, 22, 23, 3, 24, 6, 25, 26, 27, 28, 29, 30, 31, 32, 46, 47, 48, 49, 50, 51, 52, 53] (by decide +kernel) (by decide +kernel)
set_option maxRecDepth 20000 in
theorem gX4_bed_X1_setBed_n82 : GoodIn wsX4_bed (wsX1_setBed) := ggX4_bed_X1_setBed
set_option maxRecDepth 20000 in
theorem ggX4_bed_X4_tell : GoodIn wsX4_bed wsX4_tell := goodIn_r _ [36, 37, 38, 39, 40, 41, 42, 43, 44, 45] (by decide +kernel) (by decide +kernel)
set_option maxRecDepth 20000 in
theorem gX4_bed_X4_tell : GoodIn wsX4_bed (wsV RX4 86 RX4 yX4_tell wsX4_tell) := goodIn_app (goodIn_of _ (by decide +kernel)) ggX4_bed_X4_tell
set_option maxRecDepth 20000 in
theorem ggX4_stones_X1_has : GoodIn wsX4_stones wsX1_has := goodIn_r _ [5, 6, 25, 26, 27, 28, 29, 30, 31, 32] (by decide +kernel) (by decide +kernel)
set_option maxRecDepth 20000 in
theorem gX4_stones_X1_has_n60 : GoodIn wsX4_stones (wsX1_has) := ggX4_stones_X1_has
set_option maxRecDepth 20000 in
theorem ggX4_stones_X4_within : GoodIn wsX4_stones wsX4_within := goodIn_r _ [10] (by decide +kernel) (by decide +kernel)
set_option maxRecDepth 20000 in
theorem gX4_stones_X4_within : GoodIn wsX4_stones (va_wsS RX4 52 yX4_within wsX4_within) := goodIn_app (goodIn_of _ (by decide +kernel)) ggX4_stones_X4_within
set_option maxRecDepth 20000 in
theorem ggX4_stones_X4_found : GoodIn wsX4_stones wsX4_found := goodIn_r _ [14, 15, 16, 17, 18, 19, 20, 21, 22, 23, 24] (by decide +kernel) (by decide +kernel)
set_option maxRecDepth 20000 in
theorem gX4_stones_X4_found : GoodIn wsX4_stones (wsV RX4 75 RX4 yX4_found wsX4_found) := goodIn_app (goodIn_of _ (by decide +kernel)) ggX4_stones_X4_found
set_option maxRecDepth 20000 in
theorem ggX4_told_X1_has : GoodIn wsX4_told wsX1_has := goodIn_r _ [5, 6, 15, 16, 17, 18, 19, 20, 21, 22] (by decide +kernel) (by decide +kernel)
set_option maxRecDepth 20000 in
theorem gX4_told_X1_has_n60 : GoodIn wsX4_told (wsX1_has) := ggX4_told_X1_has
set_option maxRecDepth 20000 in
theorem ggX4_mark_X1_has : GoodIn wsX4_mark wsX1_has := goodIn_r _ [5, 6, 29, 30, 31, 32, 33, 34, 35, 36] (by decide +kernel) (by decide +kernel)
set_option maxRecDepth 20000 in
theorem gX4_mark_X1_has_n60 : GoodIn wsX4_mark (wsX1_has) := ggX4_mark_X1_has
set_option maxRecDepth 20000 in
theorem ggX4_mark_X4_within : GoodIn wsX4_mark wsX4_within := goodIn_r _ [10] (by decide +kernel) (by decide +kernel)
set_option maxRecDepth 20000 in
theorem gX4_mark_X4_within : GoodIn wsX4_mark (va_wsS RX4 52 yX4_within wsX4_within) := goodIn_app (goodIn_of _ (by decide +kernel)) ggX4_mark_X4_within
set_option maxRecDepth 20000 in
theorem ggX4_mark_X4_found : GoodIn wsX4_mark wsX4_found := goodIn_r _ [14, 15, 16, 21, 22, 23, 24, 25, 26, 27, 28] (by decide +kernel) (by decide +kernel)
set_option maxRecDepth 20000 in
theorem gX4_mark_X4_found : GoodIn wsX4_mark (wsV RX4 75 RX4 yX4_found wsX4_found) := goodIn_app (goodIn_of _ (by decide +kernel)) ggX4_mark_X4_found
set_option maxRecDepth 20000 in
theorem ggX4_mark_X1_isOf : GoodIn wsX4_mark wsX1_isOf := goodIn_r _ [19, 20, 29, 30, 31, 32, 33, 34, 35, 36] (by decide +kernel) (by decide +kernel)
set_option maxRecDepth 20000 in
theorem gX4_mark_X1_isOf_n96 : GoodIn wsX4_mark (wsX1_isOf) := ggX4_mark_X1_isOf
set_option maxRecDepth 20000 in
theorem ggX4_rail_X1_has : GoodIn wsX4_rail wsX1_has := goodIn_r _ [5, 6, 53, 54, 55, 56, 57, 58, 59, 60] (by decide +kernel) (by decide +kernel)
set_option maxRecDepth 20000 in
theorem gX4_rail_X1_has_n60 : GoodIn wsX4_rail (wsX1_has) := ggX4_rail_X1_has
set_option maxRecDepth 20000 in
theorem ggX4_rail_X1_height : GoodIn wsX4_rail wsX1_height := goodIn_r _ [9, 10, 11, 12, 13, 14, 15, 6, 16, 17, 18, 19, 20, 21, 22, 3, 23, 24, 2, 4, 5, 25, 26, 27, 28, 29, 30, 31, 32, 33, 34, 35, 36, 37, 38, 39, 53, 54, 55, 56, 57, 58, 59, 60] (by decide +kernel) (by decide +kernel)
set_option maxRecDepth 20000 in
theorem gX4_rail_X1_height_n103 : GoodIn wsX4_rail (wsX1_height) := ggX4_rail_X1_height
set_option maxRecDepth 20000 in
theorem ggX4_rail_X4_tell : GoodIn wsX4_rail wsX4_tell := goodIn_r _ [43, 44, 45, 46, 47, 48, 49, 50, 51, 52] (by decide +kernel) (by decide +kernel)
set_option maxRecDepth 20000 in
theorem gX4_rail_X4_tell : GoodIn wsX4_rail (wsV RX4 86 RX4 yX4_tell wsX4_tell) := goodIn_app (goodIn_of _ (by decide +kernel)) ggX4_rail_X4_tell
set_option maxRecDepth 20000 in
theorem ggX4_gap_X1_has : GoodIn wsX4_gap wsX1_has := goodIn_r _ [5, 6, 54, 55, 56, 57, 58, 59, 60, 61] (by decide +kernel) (by decide +kernel)
set_option maxRecDepth 20000 in
theorem gX4_gap_X1_has_n60 : GoodIn wsX4_gap (wsX1_has) := ggX4_gap_X1_has
