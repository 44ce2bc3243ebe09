set_option maxRecDepth 20000 in
theorem ggX4_gap_X4_found : GoodIn wsX4_gap wsX4_found := goodIn_r _ [11, 12, 13, 46, 47, 48, 49, 50, 51, 52, 53] (by decide +kernel) (by decide +kernel)
set_option maxRecDepth 20000 in
theorem gX4_gap_X4_found : GoodIn wsX4_gap (wsV RX4 75 RX4 yX4_found wsX4_found) := goodIn_app (goodIn_of _ (by decide +kernel)) ggX4_gap_X4_found
set_option maxRecDepth 20000 in
theorem ggX4_gap_X1_height : GoodIn wsX4_gap wsX1_height := goodIn_r _ [16, 17, 18, 19, 20, 21, 22, 6, 23, 24, 25, 26, 27, 28, 29, 3, 30, 31, 2, 4, 5, 32, 33, 34, 35, 36, 10, 37, 38, 39, 40, 41, 42, 43, 44, 45, 54, 55, 56, 57, 58, 59, 60, 61] (by decide +kernel) (by decide +kernel)
set_option maxRecDepth 20000 in
theorem gX4_gap_X1_height_n103 : GoodIn wsX4_gap (wsX1_height) := ggX4_gap_X1_height
set_option maxRecDepth 20000 in
theorem ggX4_axle_X4_within : GoodIn wsX4_axle wsX4_within := goodIn_r _ [5] (by decide +kernel) (by decide +kernel)
set_option maxRecDepth 20000 in
theorem gX4_axle_X4_within : GoodIn wsX4_axle (va_wsS RX4 52 yX4_within wsX4_within) := goodIn_app (goodIn_of _ (by decide +kernel)) ggX4_axle_X4_within
set_option maxRecDepth 20000 in
theorem ggX4_table_X4_within : GoodIn wsX4_table wsX4_within := goodIn_r _ [5] (by decide +kernel) (by decide +kernel)
set_option maxRecDepth 20000 in
theorem gX4_table_X4_within : GoodIn wsX4_table (va_wsS RX4 52 yX4_within wsX4_within) := goodIn_app (goodIn_of _ (by decide +kernel)) ggX4_table_X4_within
set_option maxRecDepth 20000 in
theorem ggX4_pass_X4_within : GoodIn wsX4_pass wsX4_within := goodIn_r _ [6] (by decide +kernel) (by decide +kernel)
set_option maxRecDepth 20000 in
theorem gX4_pass_X4_within : GoodIn wsX4_pass (va_wsS RX4 52 yX4_within wsX4_within) := goodIn_app (goodIn_of _ (by decide +kernel)) ggX4_pass_X4_within
set_option maxRecDepth 20000 in
theorem ggX4_pass_X2_roll : GoodIn wsX4_pass wsX2_roll := goodIn_r _ [10, 11, 12, 13, 14, 15, 8, 16, 17, 18, 19, 20, 21, 22, 23, 24, 25, 26, 27, 28, 29, 30, 31, 32, 33, 34, 35, 36, 37, 38, 39, 40, 41, 42, 43, 44, 45, 46, 47, 48, 49, 50, 51, 52, 53, 5, 54, 55, 56, 57, 58, 59, 60, 61, 62, 63, 64, 65, 66, 67, 68, 69, 70, 71, 72, 73, 74, 75, 76, 77, 78, 79, 80, 81, 82, 83, 84, 85, 86, 98, 99, 100, 101, 102, 103, 104, 105, 95, 96, 97] (by decide +kernel) (by decide +kernel)
set_option maxRecDepth 20000 in
theorem gX4_pass_X2_roll_n116 : GoodIn wsX4_pass (wsX2_roll) := ggX4_pass_X2_roll
set_option maxRecDepth 20000 in
theorem ggX4_mean_X1_standing : GoodIn wsX4_mean wsX1_standing := goodIn_r _ [5, 6, 7, 8, 3, 9, 10, 11, 12, 13, 14, 15, 47, 48, 49, 50, 51, 52, 53, 54] (by decide +kernel) (by decide +kernel)
set_option maxRecDepth 20000 in
theorem gX4_mean_X1_standing_n123 : GoodIn wsX4_mean (wsX1_standing) := ggX4_mean_X1_standing
set_option maxRecDepth 20000 in
theorem ggX4_mean_X4_found : GoodIn wsX4_mean wsX4_found := goodIn_r _ [20, 21, 22, 39, 40, 41, 42, 43, 44, 45, 46] (by decide +kernel) (by decide +kernel)
set_option maxRecDepth 20000 in
theorem gX4_mean_X4_found : GoodIn wsX4_mean (wsV RX4 75 RX4 yX4_found wsX4_found) := goodIn_app (goodIn_of _ (by decide +kernel)) ggX4_mean_X4_found
set_option maxRecDepth 20000 in
theorem ggX4_mean_X1_sumOfBeds : GoodIn wsX4_mean wsX1_sumOfBeds := goodIn_r _ [25, 15, 10, 26, 47, 48, 49, 50, 51, 52, 53, 54] (by decide +kernel) (by decide +kernel)
set_option maxRecDepth 20000 in
theorem gX4_mean_X1_sumOfBeds_n127 : GoodIn wsX4_mean (wsX1_sumOfBeds) := ggX4_mean_X1_sumOfBeds
set_option maxRecDepth 20000 in
theorem ggX4_mean_X4_floorShare : GoodIn wsX4_mean wsX4_floorShare := goodIn_r _ [29, 30, 31, 32, 33] (by decide +kernel) (by decide +kernel)
set_option maxRecDepth 20000 in
theorem gX4_mean_X4_floorShare : GoodIn wsX4_mean (va_wsS RX4 131 yX4_floorShare wsX4_floorShare) := goodIn_app (goodIn_of _ (by decide +kernel)) ggX4_mean_X4_floorShare
set_option maxRecDepth 20000 in
theorem ggX4_mean_X4_tell : GoodIn wsX4_mean wsX4_tell := goodIn_r _ [37, 38, 39, 40, 41, 42, 43, 44, 45, 46] (by decide +kernel) (by decide +kernel)
set_option maxRecDepth 20000 in
theorem gX4_mean_X4_tell : GoodIn wsX4_mean (wsV RX4 86 RX4 yX4_tell wsX4_tell) := goodIn_app (goodIn_of _ (by decide +kernel)) ggX4_mean_X4_tell
set_option maxRecDepth 20000 in
theorem ggX4_lift_X1_has : GoodIn wsX4_lift wsX1_has := goodIn_r _ [5, 6, 47, 48, 49, 50, 51, 52, 53, 54] (by decide +kernel) (by decide +kernel)
set_option maxRecDepth 20000 in
theorem gX4_lift_X1_has_n60 : GoodIn wsX4_lift (wsX1_has) := ggX4_lift_X1_has
set_option maxRecDepth 20000 in
theorem ggX4_lift_X4_within : GoodIn wsX4_lift wsX4_within := goodIn_r _ [10] (by decide +kernel) (by decide +kernel)
set_option maxRecDepth 20000 in
theorem gX4_lift_X4_within : GoodIn wsX4_lift (va_wsS RX4 52 yX4_within wsX4_within) := goodIn_app (goodIn_of _ (by decide +kernel)) ggX4_lift_X4_within
set_option maxRecDepth 20000 in
theorem ggX4_lift_X1_raise : GoodIn wsX4_lift wsX1_raise := goodIn_r _ [13, 14, 15, 16, 17, 18, 19, 20, 21, 22, 23, 3, 24, 25, 26, 2, 4, 5, 6, 27, 28, 29, 30, 31, 32, 33, 34, 35, 36, 37, 38, 47, 48, 49, 50, 51, 52, 53, 54] (by decide +kernel) (by decide +kernel)
set_option maxRecDepth 20000 in
theorem gX4_lift_X1_raise_n134 : GoodIn wsX4_lift (wsX1_raise) := ggX4_lift_X1_raise
set_option maxRecDepth 20000 in
theorem ggX4_measure_X4_isRun : GoodIn wsX4_measure wsX4_isRun := goodIn_r _ [6, 7, 8, 5, 9] (by decide +kernel) (by decide +kernel)
set_option maxRecDepth 20000 in
theorem gX4_measure_X4_isRun : GoodIn wsX4_measure (va_wsS RX4 137 yX4_isRun wsX4_isRun) := goodIn_app (goodIn_of _ (by decide +kernel)) ggX4_measure_X4_isRun
set_option maxRecDepth 20000 in
theorem ggX4_measure_X4_within : GoodIn wsX4_measure wsX4_within := goodIn_r _ [9] (by decide +kernel) (by decide +kernel)
set_option maxRecDepth 20000 in
theorem gX4_measure_X4_within : GoodIn wsX4_measure (va_wsS RX4 52 yX4_within wsX4_within) := goodIn_app (goodIn_of _ (by decide +kernel)) ggX4_measure_X4_within
set_option maxRecDepth 20000 in
theorem ggX4_measure_X0_open : GoodIn wsX4_measure wsX0_open := goodIn_r _ [13, 14, 64, 65] (by decide +kernel) (by decide +kernel)
set_option maxRecDepth 20000 in
theorem gX4_measure_X0_open_n140 : GoodIn wsX4_measure (wsX0_open) := ggX4_measure_X0_open
set_option maxRecDepth 20000 in
theorem ggX4_measure_X1_chord : GoodIn wsX4_measure wsX1_chord := goodIn_r _ [18, 19, 20, 21, 16, 22, 23, 24, 25, 26, 27, 28, 29, 30, 31, 32, 33, 34, 35, 36, 37, 38, 39, 40, 41, 42, 43, 44, 45, 46, 5, 47, 48, 49, 50, 51, 52, 53, 54, 55, 66, 67, 68, 69, 70, 71, 72, 73] (by decide +kernel) (by decide +kernel)
set_option maxRecDepth 20000 in
theorem gX4_measure_X1_chord_n147 : GoodIn wsX4_measure (wsX1_chord) := ggX4_measure_X1_chord
set_option maxRecDepth 20000 in
theorem ggX4_level_X4_isRun : GoodIn wsX4_level wsX4_isRun := goodIn_r _ [6, 7, 8, 5, 9] (by decide +kernel) (by decide +kernel)
set_option maxRecDepth 20000 in
theorem gX4_level_X4_isRun : GoodIn wsX4_level (va_wsS RX4 137 yX4_isRun wsX4_isRun) := goodIn_app (goodIn_of _ (by decide +kernel)) ggX4_level_X4_isRun
set_option maxRecDepth 20000 in
theorem ggX4_level_X0_open : GoodIn wsX4_level wsX0_open := goodIn_r _ [13, 14, 60, 61] (by decide +kernel) (by decide +kernel)
set_option maxRecDepth 20000 in
theorem gX4_level_X0_open_n140 : GoodIn wsX4_level (wsX0_open) := ggX4_level_X0_open
set_option maxRecDepth 20000 in
theorem ggX4_level_X1_has : GoodIn wsX4_level wsX1_has := goodIn_r _ [18, 19, 62, 63, 64, 65, 66, 67, 68, 69] (by decide +kernel) (by decide +kernel)
set_option maxRecDepth 20000 in
theorem gX4_level_X1_has_n60 : GoodIn wsX4_level (wsX1_has) := ggX4_level_X1_has
set_option maxRecDepth 20000 in
theorem ggX4_level_X1_height : GoodIn wsX4_level wsX1_height := goodIn_r _ [22, 23, 24, 25, 26, 27, 28, 19, 29, 30, 31, 32, 33, 34, 35, 16, 36, 37, 15, 17, 18, 38, 39, 40, 41, 42, 5, 43, 44, 45, 46, 47, 48, 49, 50, 51, 62, 63, 64, 65, 66, 67, 68, 69] (by decide +kernel) (by decide +kernel)
set_option maxRecDepth 20000 in
theorem gX4_level_X1_height_n103 : GoodIn wsX4_level (wsX1_height) := ggX4_level_X1_height
set_option maxRecDepth 20000 in
theorem ggX4_lay_X4_isRun : GoodIn wsX4_lay wsX4_isRun := goodIn_r _ [7, 8, 9, 6, 10] (by decide +kernel) (by decide +kernel)
set_option maxRecDepth 20000 in
theorem gX4_lay_X4_isRun : GoodIn wsX4_lay (va_wsS RX4 137 yX4_isRun wsX4_isRun) := goodIn_app (goodIn_of _ (by decide +kernel)) ggX4_lay_X4_isRun
set_option maxRecDepth 20000 in
theorem ggX4_lay_X4_within : GoodIn wsX4_lay wsX4_within := goodIn_r _ [10] (by decide +kernel) (by decide +kernel)
set_option maxRecDepth 20000 in
theorem gX4_lay_X4_within : GoodIn wsX4_lay (va_wsS RX4 52 yX4_within wsX4_within) := goodIn_app (goodIn_of _ (by decide +kernel)) ggX4_lay_X4_within
set_option maxRecDepth 20000 in
theorem ggX4_lay_X4_found : GoodIn wsX4_lay wsX4_found := goodIn_r _ [14, 15, 16, 22, 23, 24, 25, 26, 27, 28, 29] (by decide +kernel) (by decide +kernel)
set_option maxRecDepth 20000 in
theorem gX4_lay_X4_found : GoodIn wsX4_lay (wsV RX4 75 RX4 yX4_found wsX4_found) := goodIn_app (goodIn_of _ (by decide +kernel)) ggX4_lay_X4_found
set_option maxRecDepth 20000 in
theorem ggX4_lay_X4_tell : GoodIn wsX4_lay wsX4_tell := goodIn_r _ [20, 21, 22, 23, 24, 25, 26, 27, 28, 29] (by decide +kernel) (by decide +kernel)
set_option maxRecDepth 20000 in
theorem gX4_lay_X4_tell : GoodIn wsX4_lay (wsV RX4 86 RX4 yX4_tell wsX4_tell) := goodIn_app (goodIn_of _ (by decide +kernel)) ggX4_lay_X4_tell
set_option maxRecDepth 20000 in
theorem ggX4_at_X4_isRun : GoodIn wsX4_at wsX4_isRun := goodIn_r _ [5, 6, 7, 4, 8] (by decide +kernel) (by decide +kernel)
set_option maxRecDepth 20000 in
theorem gX4_at_X4_isRun : GoodIn wsX4_at (va_wsS RX4 137 yX4_isRun wsX4_isRun) := goodIn_app (goodIn_of _ (by decide +kernel)) ggX4_at_X4_isRun
set_option maxRecDepth 20000 in
theorem ggX4_at_X4_found : GoodIn wsX4_at wsX4_found := goodIn_r _ [12, 13, 14, 20, 21, 22, 23, 24, 25, 26, 27] (by decide +kernel) (by decide +kernel)
set_option maxRecDepth 20000 in
theorem gX4_at_X4_found : GoodIn wsX4_at (wsV RX4 75 RX4 yX4_found wsX4_found) := goodIn_app (goodIn_of _ (by decide +kernel)) ggX4_at_X4_found
set_option maxRecDepth 20000 in
theorem ggX4_at_X4_within : GoodIn wsX4_at wsX4_within := goodIn_r _ [8] (by decide +kernel) (by decide +kernel)
set_option maxRecDepth 20000 in
theorem gX4_at_X4_within : GoodIn wsX4_at (va_wsS RX4 52 yX4_within wsX4_within) := goodIn_app (goodIn_of _ (by decide +kernel)) ggX4_at_X4_within
set_option maxRecDepth 20000 in
theorem ggX4_at_X4_tell : GoodIn wsX4_at wsX4_tell := goodIn_r _ [18, 19, 20, 21, 22, 23, 24, 25, 26, 27] (by decide +kernel) (by decide +kernel)
set_option maxRecDepth 20000 in
theorem gX4_at_X4_tell : GoodIn wsX4_at (wsV RX4 86 RX4 yX4_tell wsX4_tell) := goodIn_app (goodIn_of _ (by decide +kernel)) ggX4_at_X4_tell
set_option maxRecDepth 20000 in
theorem ggX4_shape_X4_isRun : GoodIn wsX4_shape wsX4_isRun := goodIn_r _ [6, 7, 8, 5, 9] (by decide +kernel) (by decide +kernel)
set_option maxRecDepth 20000 in
theorem gX4_shape_X4_isRun : GoodIn wsX4_shape (va_wsS RX4 137 yX4_isRun wsX4_isRun) := goodIn_app (goodIn_of _ (by decide +kernel)) ggX4_shape_X4_isRun
set_option maxRecDepth 20000 in
theorem ggX4_shape_X4_within : GoodIn wsX4_shape wsX4_within := goodIn_r _ [9] (by decide +kernel) (by decide +kernel)
set_option maxRecDepth 20000 in
theorem gX4_shape_X4_within : GoodIn wsX4_shape (va_wsS RX4 52 yX4_within wsX4_within) := goodIn_app (goodIn_of _ (by decide +kernel)) ggX4_shape_X4_within
set_option maxRecDepth 20000 in
theorem ggX4_shape_X4_found : GoodIn wsX4_shape wsX4_found := goodIn_r _ [13, 14, 15, 21, 22, 23, 24, 25, 26, 27, 28] (by decide +kernel) (by decide +kernel)
set_option maxRecDepth 20000 in
theorem gX4_shape_X4_found : GoodIn wsX4_shape (wsV RX4 75 RX4 yX4_found wsX4_found) := goodIn_app (goodIn_of _ (by decide +kernel)) ggX4_shape_X4_found
set_option maxRecDepth 20000 in
theorem ggX4_shape_X0_unbend : GoodIn wsX4_shape wsX0_unbend := goodIn_r _ [19, 20, 29, 30] (by decide +kernel) (by decide +kernel)
set_option maxRecDepth 20000 in
theorem gX4_shape_X0_unbend_n155 : GoodIn wsX4_shape (wsX0_unbend) := ggX4_shape_X0_unbend
set_option maxRecDepth 20000 in
theorem ggX4_tear_X4_isRun : GoodIn wsX4_tear wsX4_isRun := goodIn_r _ [5, 6, 7, 4, 8] (by decide +kernel) (by decide +kernel)
set_option maxRecDepth 20000 in
theorem gX4_tear_X4_isRun : GoodIn wsX4_tear (va_wsS RX4 137 yX4_isRun wsX4_isRun) := goodIn_app (goodIn_of _ (by decide +kernel)) ggX4_tear_X4_isRun
set_option maxRecDepth 20000 in
theorem ggX4_tear_X4_found : GoodIn wsX4_tear wsX4_found := goodIn_r _ [12, 13, 14, 15, 16, 17, 18, 19, 20, 21, 22] (by decide +kernel) (by decide +kernel)
set_option maxRecDepth 20000 in
theorem gX4_tear_X4_found : GoodIn wsX4_tear (wsV RX4 75 RX4 yX4_found wsX4_found) := goodIn_app (goodIn_of _ (by decide +kernel)) ggX4_tear_X4_found
set_option maxRecDepth 20000 in
theorem ggX4_copy_X4_isRun : GoodIn wsX4_copy wsX4_isRun := goodIn_r _ [9, 10, 11, 8, 12] (by decide +kernel) (by decide +kernel)
set_option maxRecDepth 20000 in
theorem gX4_copy_X4_isRun : GoodIn wsX4_copy (va_wsS RX4 137 yX4_isRun wsX4_isRun) := goodIn_app (goodIn_of _ (by decide +kernel)) ggX4_copy_X4_isRun
set_option maxRecDepth 20000 in
theorem ggX4_copy_X4_found : GoodIn wsX4_copy wsX4_found := goodIn_r _ [16, 17, 18, 22, 23, 24, 25, 26, 27, 28, 29] (by decide +kernel) (by decide +kernel)
set_option maxRecDepth 20000 in
theorem gX4_copy_X4_found : GoodIn wsX4_copy (wsV RX4 75 RX4 yX4_found wsX4_found) := goodIn_app (goodIn_of _ (by decide +kernel)) ggX4_copy_X4_found
set_option maxRecDepth 20000 in
theorem ggX4_copy_X4_holdsPlaces : GoodIn wsX4_copy wsX4_holdsPlaces := goodIn_r _ [21, 10, 11, 8, 12] (by decide +kernel) (by decide +kernel)
set_option maxRecDepth 20000 in
theorem gX4_copy_X4_holdsPlaces : GoodIn wsX4_copy (va_wsS RX4 159 yX4_holdsPlaces wsX4_holdsPlaces) := goodIn_app (goodIn_of _ (by decide +kernel)) ggX4_copy_X4_holdsPlaces
set_option maxRecDepth 20000 in
theorem ggX4_fit_X4_isRun : GoodIn wsX4_fit wsX4_isRun := goodIn_r _ [6, 7, 8, 5, 9] (by decide +kernel) (by decide +kernel)
set_option maxRecDepth 20000 in
theorem gX4_fit_X4_isRun : GoodIn wsX4_fit (va_wsS RX4 137 yX4_isRun wsX4_isRun) := goodIn_app (goodIn_of _ (by decide +kernel)) ggX4_fit_X4_isRun
set_option maxRecDepth 20000 in
theorem ggX4_fit_X4_found : GoodIn wsX4_fit wsX4_found := goodIn_r _ [13, 14, 15, 30, 31, 32, 33, 34, 35, 36, 37] (by decide +kernel) (by decide +kernel)
set_option maxRecDepth 20000 in
theorem gX4_fit_X4_found : GoodIn wsX4_fit (wsV RX4 75 RX4 yX4_found wsX4_found) := goodIn_app (goodIn_of _ (by decide +kernel)) ggX4_fit_X4_found
set_option maxRecDepth 20000 in
theorem ggX4_fit_X0_bestShift : GoodIn wsX4_fit wsX0_bestShift := goodIn_r _ [19, 20, 21, 22, 17, 23, 24, 46, 47] (by decide +kernel) (by decide +kernel)
set_option maxRecDepth 20000 in
theorem gX4_fit_X0_bestShift_n168 : GoodIn wsX4_fit (wsX0_bestShift) := ggX4_fit_X0_bestShift
set_option maxRecDepth 20000 in
theorem ggX4_fit_X0_squaresApart : GoodIn wsX4_fit wsX0_squaresApart := goodIn_r _ [23, 24, 46, 47] (by decide +kernel) (by decide +kernel)
set_option maxRecDepth 20000 in
theorem gX4_fit_X0_squaresApart_n172 : GoodIn wsX4_fit (wsX0_squaresApart) := ggX4_fit_X0_squaresApart
set_option maxRecDepth 20000 in
theorem ggX4_fit_X4_tell : GoodIn wsX4_fit wsX4_tell := goodIn_r _ [28, 29, 30, 31, 32, 33, 34, 35, 36, 37] (by decide +kernel) (by decide +kernel)
set_option maxRecDepth 20000 in
theorem gX4_fit_X4_tell : GoodIn wsX4_fit (wsV RX4 86 RX4 yX4_tell wsX4_tell) := goodIn_app (goodIn_of _ (by decide +kernel)) ggX4_fit_X4_tell
set_option maxRecDepth 20000 in
theorem ggX4_worst_X4_isRun : GoodIn wsX4_worst wsX4_isRun := goodIn_r _ [6, 7, 8, 5, 9] (by decide +kernel) (by decide +kernel)
set_option maxRecDepth 20000 in
theorem gX4_worst_X4_isRun : GoodIn wsX4_worst (va_wsS RX4 137 yX4_isRun wsX4_isRun) := goodIn_app (goodIn_of _ (by decide +kernel)) ggX4_worst_X4_isRun
set_option maxRecDepth 20000 in
theorem ggX4_worst_X4_found : GoodIn wsX4_worst wsX4_found := goodIn_r _ [13, 14, 15, 34, 35, 36, 37, 38, 39, 40, 41] (by decide +kernel) (by decide +kernel)
set_option maxRecDepth 20000 in
theorem gX4_worst_X4_found : GoodIn wsX4_worst (wsV RX4 75 RX4 yX4_found wsX4_found) := goodIn_app (goodIn_of _ (by decide +kernel)) ggX4_worst_X4_found
set_option maxRecDepth 20000 in
theorem ggX4_worst_X0_steepest : GoodIn wsX4_worst wsX0_steepest := goodIn_r _ [19, 20, 21, 22, 17, 23, 24, 25, 26, 27, 28, 42, 43] (by decide +kernel) (by decide +kernel)
set_option maxRecDepth 20000 in
theorem gX4_worst_X0_steepest_n176 : GoodIn wsX4_worst (wsX0_steepest) := ggX4_worst_X0_steepest
set_option maxRecDepth 20000 in
theorem ggX4_worst_X0_stepAfter : GoodIn wsX4_worst wsX0_stepAfter := goodIn_r _ [23, 24, 25, 26, 27, 28, 42, 43] (by decide +kernel) (by decide +kernel)
set_option maxRecDepth 20000 in
theorem gX4_worst_X0_stepAfter_n179 : GoodIn wsX4_worst (wsX0_stepAfter) := ggX4_worst_X0_stepAfter
set_option maxRecDepth 20000 in
theorem ggX4_worst_X4_tell : GoodIn wsX4_worst wsX4_tell := goodIn_r _ [32, 33, 34, 35, 36, 37, 38, 39, 40, 41] (by decide +kernel) (by decide +kernel)
set_option maxRecDepth 20000 in
theorem gX4_worst_X4_tell : GoodIn wsX4_worst (wsV RX4 86 RX4 yX4_tell wsX4_tell) := goodIn_app (goodIn_of _ (by decide +kernel)) ggX4_worst_X4_tell
set_option maxRecDepth 20000 in
theorem ggX4_pull_X4_isStretch : GoodIn wsX4_pull wsX4_isStretch := goodIn_r _ [5, 6, 7, 4, 8] (by decide +kernel) (by decide +kernel)
set_option maxRecDepth 20000 in
theorem gX4_pull_X4_isStretch : GoodIn wsX4_pull (va_wsS RX4 183 yX4_isStretch wsX4_isStretch) := goodIn_app (goodIn_of _ (by decide +kernel)) ggX4_pull_X4_isStretch
set_option maxRecDepth 20000 in
theorem ggX4_pull_X4_within : GoodIn wsX4_pull wsX4_within := goodIn_r _ [8] (by decide +kernel) (by decide +kernel)
set_option maxRecDepth 20000 in
theorem gX4_pull_X4_within : GoodIn wsX4_pull (va_wsS RX4 52 yX4_within wsX4_within) := goodIn_app (goodIn_of _ (by decide +kernel)) ggX4_pull_X4_within
set_option maxRecDepth 20000 in
theorem ggX4_cut_X4_isStretch : GoodIn wsX4_cut wsX4_isStretch := goodIn_r _ [5, 6, 7, 4, 8] (by decide +kernel) (by decide +kernel)
set_option maxRecDepth 20000 in
theorem gX4_cut_X4_isStretch : GoodIn wsX4_cut (va_wsS RX4 183 yX4_isStretch wsX4_isStretch) := goodIn_app (goodIn_of _ (by decide +kernel)) ggX4_cut_X4_isStretch
set_option maxRecDepth 20000 in
theorem ggX4_cut_X4_isTemperature : GoodIn wsX4_cut wsX4_isTemperature := goodIn_r _ [11, 6, 7, 4, 8] (by decide +kernel) (by decide +kernel)
set_option maxRecDepth 20000 in
theorem gX4_cut_X4_isTemperature : GoodIn wsX4_cut (va_wsS RX4 186 yX4_isTemperature wsX4_isTemperature) := goodIn_app (goodIn_of _ (by decide +kernel)) ggX4_cut_X4_isTemperature
set_option maxRecDepth 20000 in
theorem ggX4_cut_X4_tell : GoodIn wsX4_cut wsX4_tell := goodIn_r _ [15, 16, 17, 18, 19, 20, 21, 22, 23, 24] (by decide +kernel) (by decide +kernel)
set_option maxRecDepth 20000 in
theorem gX4_cut_X4_tell : GoodIn wsX4_cut (wsV RX4 86 RX4 yX4_tell wsX4_tell) := goodIn_app (goodIn_of _ (by decide +kernel)) ggX4_cut_X4_tell
set_option maxRecDepth 20000 in
theorem ggX4_press_X4_isStretch : GoodIn wsX4_press wsX4_isStretch := goodIn_r _ [4, 5, 6, 3, 7] (by decide +kernel) (by decide +kernel)
set_option maxRecDepth 20000 in
theorem gX4_press_X4_isStretch : GoodIn wsX4_press (va_wsS RX4 183 yX4_isStretch wsX4_isStretch) := goodIn_app (goodIn_of _ (by decide +kernel)) ggX4_press_X4_isStretch
set_option maxRecDepth 20000 in
theorem ggX4_press_X4_isTemperature : GoodIn wsX4_press wsX4_isTemperature := goodIn_r _ [10, 5, 6, 3, 7] (by decide +kernel) (by decide +kernel)
set_option maxRecDepth 20000 in
theorem gX4_press_X4_isTemperature : GoodIn wsX4_press (va_wsS RX4 186 yX4_isTemperature wsX4_isTemperature) := goodIn_app (goodIn_of _ (by decide +kernel)) ggX4_press_X4_isTemperature
set_option maxRecDepth 20000 in
theorem ggX4_press_X4_pressOf : GoodIn wsX4_press wsX4_pressOf := goodIn_r _ [14, 15, 21, 22, 23, 24, 25, 26, 27, 28] (by decide +kernel) (by decide +kernel)
set_option maxRecDepth 20000 in
theorem gX4_press_X4_pressOf : GoodIn wsX4_press (wsV RX4 189 RX4 yX4_pressOf wsX4_pressOf) := goodIn_app (goodIn_of _ (by decide +kernel)) ggX4_press_X4_pressOf
set_option maxRecDepth 20000 in
theorem ggX4_press_X4_tell : GoodIn wsX4_press wsX4_tell := goodIn_r _ [19, 20, 21, 22, 23, 24, 25, 26, 27, 28] (by decide +kernel) (by decide +kernel)
set_option maxRecDepth 20000 in
theorem gX4_press_X4_tell : GoodIn wsX4_press (wsV RX4 86 RX4 yX4_tell wsX4_tell) := goodIn_app (goodIn_of _ (by decide +kernel)) ggX4_press_X4_tell
set_option maxRecDepth 20000 in
theorem ggX4_margin_X4_isStretch : GoodIn wsX4_margin wsX4_isStretch := goodIn_r _ [8, 9, 10, 7, 11] (by decide +kernel) (by decide +kernel)
set_option maxRecDepth 20000 in
theorem gX4_margin_X4_isStretch : GoodIn wsX4_margin (va_wsS RX4 183 yX4_isStretch wsX4_isStretch) := goodIn_app (goodIn_of _ (by decide +kernel)) ggX4_margin_X4_isStretch
set_option maxRecDepth 20000 in
theorem ggX4_margin_X4_isTemperature : GoodIn wsX4_margin wsX4_isTemperature := goodIn_r _ [14, 9, 10, 7, 11] (by decide +kernel) (by decide +kernel)
set_option maxRecDepth 20000 in
theorem gX4_margin_X4_isTemperature : GoodIn wsX4_margin (va_wsS RX4 186 yX4_isTemperature wsX4_isTemperature) := goodIn_app (goodIn_of _ (by decide +kernel)) ggX4_margin_X4_isTemperature
