set_option maxRecDepth 20000 in
theorem ggX5_pass_X5_rolls : GoodIn wsX5_pass wsX5_rolls := goodIn_r _ [11, 12, 13, 14, 15, 16, 17, 6, 18, 19, 20, 21, 22, 23, 2, 4, 5, 7, 24, 25, 26, 27, 28, 29, 30, 31, 32, 33, 34, 35, 36, 37, 38, 39, 40, 41, 42, 43, 44, 45, 46, 47, 48, 49, 50, 51, 52, 53, 54, 55, 56, 57] (by decide +kernel) (by decide +kernel)
set_option maxRecDepth 20000 in
theorem gX5_pass_X5_rolls : GoodIn wsX5_pass (wsV RX5 108 RX5 yX5_rolls wsX5_rolls) := goodIn_app (goodIn_of _ (by decide +kernel)) ggX5_pass_X5_rolls
set_option maxRecDepth 20000 in
theorem ggX5_mean_X5_meets : GoodIn wsX5_mean wsX5_meets := goodIn_r _ [8, 9, 10, 19, 20, 21, 22, 23, 24, 25, 26, 27, 28, 29, 30, 31, 32, 33, 34, 35, 36, 37, 38] (by decide +kernel) (by decide +kernel)
set_option maxRecDepth 20000 in
theorem gX5_mean_X5_meets : GoodIn wsX5_mean (wsV RX5 79 RX5 yX5_meets wsX5_meets) := goodIn_app (goodIn_of _ (by decide +kernel)) ggX5_mean_X5_meets
set_option maxRecDepth 20000 in
theorem ggX5_mean_X5_floor : GoodIn wsX5_mean wsX5_floor := goodIn_r _ [13] (by decide +kernel) (by decide +kernel)
set_option maxRecDepth 20000 in
theorem gX5_mean_X5_floor : GoodIn wsX5_mean (va_wsS RX5 89 yX5_floor wsX5_floor) := goodIn_app (goodIn_of _ (by decide +kernel)) ggX5_mean_X5_floor
set_option maxRecDepth 20000 in
theorem ggX5_mean_X5_tell : GoodIn wsX5_mean wsX5_tell := goodIn_r _ [17, 18, 19, 20, 21, 22, 23, 24, 25, 26, 27, 28, 29, 30, 31, 32, 33, 34, 35, 36, 37, 38] (by decide +kernel) (by decide +kernel)
set_option maxRecDepth 20000 in
theorem gX5_mean_X5_tell : GoodIn wsX5_mean (wsV RX5 96 RX5 yX5_tell wsX5_tell) := goodIn_app (goodIn_of _ (by decide +kernel)) ggX5_mean_X5_tell
set_option maxRecDepth 20000 in
theorem ggX5_lift_X5_isSleeper : GoodIn wsX5_lift wsX5_isSleeper := goodIn_r _ [9, 10, 11, 12, 8, 13, 14, 15, 16, 17, 18, 19, 20, 21, 22, 23, 24, 25, 26, 27, 28, 29, 30, 31, 32, 33] (by decide +kernel) (by decide +kernel)
set_option maxRecDepth 20000 in
theorem gX5_lift_X5_isSleeper : GoodIn wsX5_lift (wsV RX5 75 RX5 yX5_isSleeper wsX5_isSleeper) := goodIn_app (goodIn_of _ (by decide +kernel)) ggX5_lift_X5_isSleeper
set_option maxRecDepth 20000 in
theorem ggX5_lift_X5_in : GoodIn wsX5_lift wsX5_in := goodIn_r _ [13] (by decide +kernel) (by decide +kernel)
set_option maxRecDepth 20000 in
theorem gX5_lift_X5_in : GoodIn wsX5_lift (va_wsS RX5 68 yX5_in wsX5_in) := goodIn_app (goodIn_of _ (by decide +kernel)) ggX5_lift_X5_in
set_option maxRecDepth 20000 in
theorem ggX5_isNumber_X5_in : GoodIn wsX5_isNumber wsX5_in := goodIn_r _ [4] (by decide +kernel) (by decide +kernel)
set_option maxRecDepth 20000 in
theorem gX5_isNumber_X5_in : GoodIn wsX5_isNumber (va_wsS RX5 68 yX5_in wsX5_in) := goodIn_app (goodIn_of _ (by decide +kernel)) ggX5_isNumber_X5_in
set_option maxRecDepth 20000 in
theorem ggX5_chordAt_X5_isSleeper : GoodIn wsX5_chordAt wsX5_isSleeper := goodIn_r _ [5, 6, 7, 8, 4, 9, 19, 20, 21, 22, 23, 24, 25, 26, 27, 28, 29, 30, 31, 32, 33, 34, 35, 36, 37, 38] (by decide +kernel) (by decide +kernel)
set_option maxRecDepth 20000 in
theorem gX5_chordAt_X5_isSleeper : GoodIn wsX5_chordAt (wsV RX5 75 RX5 yX5_isSleeper wsX5_isSleeper) := goodIn_app (goodIn_of _ (by decide +kernel)) ggX5_chordAt_X5_isSleeper
set_option maxRecDepth 20000 in
theorem ggX5_chordAt_X5_railAt : GoodIn wsX5_chordAt wsX5_railAt := goodIn_r _ [13, 6, 14, 15, 16, 17, 4, 18, 1, 2, 3, 5, 7, 8, 9, 19, 20, 21, 22, 23, 24, 25, 26, 27, 28, 29, 30, 31, 32, 33, 34, 35, 36, 37, 38] (by decide +kernel) (by decide +kernel)
set_option maxRecDepth 20000 in
theorem gX5_chordAt_X5_railAt : GoodIn wsX5_chordAt (wsV RX5 93 RX5 yX5_railAt wsX5_railAt) := goodIn_app (goodIn_of _ (by decide +kernel)) ggX5_chordAt_X5_railAt
set_option maxRecDepth 20000 in
theorem ggX5_measure_X5_isNumber : GoodIn wsX5_measure wsX5_isNumber := goodIn_r _ [7, 8, 9, 6, 10] (by decide +kernel) (by decide +kernel)
set_option maxRecDepth 20000 in
theorem gX5_measure_X5_isNumber : GoodIn wsX5_measure (va_wsS RX5 111 yX5_isNumber wsX5_isNumber) := goodIn_app (goodIn_of _ (by decide +kernel)) ggX5_measure_X5_isNumber
set_option maxRecDepth 20000 in
theorem ggX5_measure_X5_in : GoodIn wsX5_measure wsX5_in := goodIn_r _ [10] (by decide +kernel) (by decide +kernel)
set_option maxRecDepth 20000 in
theorem gX5_measure_X5_in : GoodIn wsX5_measure (va_wsS RX5 68 yX5_in wsX5_in) := goodIn_app (goodIn_of _ (by decide +kernel)) ggX5_measure_X5_in
set_option maxRecDepth 20000 in
theorem ggX5_measure_X5_chordAt : GoodIn wsX5_measure wsX5_chordAt := goodIn_r _ [14, 15, 16, 17, 6, 18, 3, 8, 9, 10, 19, 20, 21, 22, 23, 24, 25, 26, 27, 28, 29, 30, 31, 32, 33, 34, 35, 36, 37, 38, 39, 40, 41, 42, 43, 44, 45, 46, 47] (by decide +kernel) (by decide +kernel)
set_option maxRecDepth 20000 in
theorem gX5_measure_X5_chordAt : GoodIn wsX5_measure (wsV RX5 114 RX5 yX5_chordAt wsX5_chordAt) := goodIn_app (goodIn_of _ (by decide +kernel)) ggX5_measure_X5_chordAt
set_option maxRecDepth 20000 in
theorem ggX5_level_X5_isNumber : GoodIn wsX5_level wsX5_isNumber := goodIn_r _ [7, 8, 9, 6, 10] (by decide +kernel) (by decide +kernel)
set_option maxRecDepth 20000 in
theorem gX5_level_X5_isNumber : GoodIn wsX5_level (va_wsS RX5 111 yX5_isNumber wsX5_isNumber) := goodIn_app (goodIn_of _ (by decide +kernel)) ggX5_level_X5_isNumber
set_option maxRecDepth 20000 in
theorem ggX5_level_X5_railAt : GoodIn wsX5_level wsX5_railAt := goodIn_r _ [14, 3, 15, 16, 17, 18, 6, 19, 20, 21, 22, 23, 8, 9, 10, 24, 25, 26, 27, 28, 29, 30, 31, 32, 33, 34, 35, 36, 37, 38, 39, 40, 41, 42, 43] (by decide +kernel) (by decide +kernel)
set_option maxRecDepth 20000 in
theorem gX5_level_X5_railAt : GoodIn wsX5_level (wsV RX5 93 RX5 yX5_railAt wsX5_railAt) := goodIn_app (goodIn_of _ (by decide +kernel)) ggX5_level_X5_railAt
set_option maxRecDepth 20000 in
theorem ggX5_askedFor_X5_isNumber : GoodIn wsX5_askedFor wsX5_isNumber := goodIn_r _ [5, 6, 7, 4, 8] (by decide +kernel) (by decide +kernel)
set_option maxRecDepth 20000 in
theorem gX5_askedFor_X5_isNumber : GoodIn wsX5_askedFor (va_wsS RX5 111 yX5_isNumber wsX5_isNumber) := goodIn_app (goodIn_of _ (by decide +kernel)) ggX5_askedFor_X5_isNumber
set_option maxRecDepth 20000 in
theorem ggX5_askedFor_X5_meets : GoodIn wsX5_askedFor wsX5_meets := goodIn_r _ [12, 13, 14, 15, 16, 17, 18, 19, 20, 21, 22, 23, 24, 25, 26, 27, 28, 29, 30, 31, 32, 33, 34] (by decide +kernel) (by decide +kernel)
set_option maxRecDepth 20000 in
theorem gX5_askedFor_X5_meets : GoodIn wsX5_askedFor (wsV RX5 79 RX5 yX5_meets wsX5_meets) := goodIn_app (goodIn_of _ (by decide +kernel)) ggX5_askedFor_X5_meets
set_option maxRecDepth 20000 in
theorem ggX5_lay_X5_in : GoodIn wsX5_lay wsX5_in := goodIn_r _ [8] (by decide +kernel) (by decide +kernel)
set_option maxRecDepth 20000 in
theorem gX5_lay_X5_in : GoodIn wsX5_lay (va_wsS RX5 68 yX5_in wsX5_in) := goodIn_app (goodIn_of _ (by decide +kernel)) ggX5_lay_X5_in
set_option maxRecDepth 20000 in
theorem ggX5_lay_X5_askedFor : GoodIn wsX5_lay wsX5_askedFor := goodIn_r _ [12, 13, 14, 15, 7, 16, 5, 6, 8, 17, 18, 19, 20, 21, 22, 23, 24, 25, 26, 27, 28, 29, 30, 31, 32, 33, 34, 35, 36, 37, 38, 39, 40, 41, 42] (by decide +kernel) (by decide +kernel)
set_option maxRecDepth 20000 in
theorem gX5_lay_X5_askedFor : GoodIn wsX5_lay (wsV RX5 119 RX5 yX5_askedFor wsX5_askedFor) := goodIn_app (goodIn_of _ (by decide +kernel)) ggX5_lay_X5_askedFor
set_option maxRecDepth 20000 in
theorem ggX5_lay_X5_meets : GoodIn wsX5_lay wsX5_meets := goodIn_r _ [20, 21, 22, 23, 24, 25, 26, 27, 28, 29, 30, 31, 32, 33, 34, 35, 36, 37, 38, 39, 40, 41, 42] (by decide +kernel) (by decide +kernel)
set_option maxRecDepth 20000 in
theorem gX5_lay_X5_meets : GoodIn wsX5_lay (wsV RX5 79 RX5 yX5_meets wsX5_meets) := goodIn_app (goodIn_of _ (by decide +kernel)) ggX5_lay_X5_meets
set_option maxRecDepth 20000 in
theorem ggX5_at_X5_askedFor : GoodIn wsX5_at wsX5_askedFor := goodIn_r _ [6, 7, 8, 9, 5, 10, 11, 12, 13, 14, 15, 16, 17, 18, 19, 25, 26, 27, 28, 29, 30, 31, 32, 33, 34, 35, 36, 37, 38, 39, 40, 41, 42, 43, 44] (by decide +kernel) (by decide +kernel)
set_option maxRecDepth 20000 in
theorem gX5_at_X5_askedFor : GoodIn wsX5_at (wsV RX5 119 RX5 yX5_askedFor wsX5_askedFor) := goodIn_app (goodIn_of _ (by decide +kernel)) ggX5_at_X5_askedFor
set_option maxRecDepth 20000 in
theorem ggX5_at_X5_in : GoodIn wsX5_at wsX5_in := goodIn_r _ [13] (by decide +kernel) (by decide +kernel)
set_option maxRecDepth 20000 in
theorem gX5_at_X5_in : GoodIn wsX5_at (va_wsS RX5 68 yX5_in wsX5_in) := goodIn_app (goodIn_of _ (by decide +kernel)) ggX5_at_X5_in
set_option maxRecDepth 20000 in
theorem ggX5_at_X5_tell : GoodIn wsX5_at wsX5_tell := goodIn_r _ [23, 24, 25, 26, 27, 28, 29, 30, 31, 32, 33, 34, 35, 36, 37, 38, 39, 40, 41, 42, 43, 44] (by decide +kernel) (by decide +kernel)
set_option maxRecDepth 20000 in
theorem gX5_at_X5_tell : GoodIn wsX5_at (wsV RX5 96 RX5 yX5_tell wsX5_tell) := goodIn_app (goodIn_of _ (by decide +kernel)) ggX5_at_X5_tell
set_option maxRecDepth 20000 in
theorem ggX5_at_X5_meets : GoodIn wsX5_at wsX5_meets := goodIn_r _ [17, 18, 19, 25, 26, 27, 28, 29, 30, 31, 32, 33, 34, 35, 36, 37, 38, 39, 40, 41, 42, 43, 44] (by decide +kernel) (by decide +kernel)
set_option maxRecDepth 20000 in
theorem gX5_at_X5_meets : GoodIn wsX5_at (wsV RX5 79 RX5 yX5_meets wsX5_meets) := goodIn_app (goodIn_of _ (by decide +kernel)) ggX5_at_X5_meets
set_option maxRecDepth 20000 in
theorem ggX5_shape_X5_in : GoodIn wsX5_shape wsX5_in := goodIn_r _ [7] (by decide +kernel) (by decide +kernel)
set_option maxRecDepth 20000 in
theorem gX5_shape_X5_in : GoodIn wsX5_shape (va_wsS RX5 68 yX5_in wsX5_in) := goodIn_app (goodIn_of _ (by decide +kernel)) ggX5_shape_X5_in
set_option maxRecDepth 20000 in
theorem ggX5_shape_X5_askedFor : GoodIn wsX5_shape wsX5_askedFor := goodIn_r _ [11, 12, 13, 14, 6, 15, 4, 5, 7, 16, 17, 18, 19, 20, 21, 22, 23, 24, 25, 26, 27, 28, 29, 30, 31, 32, 33, 34, 35, 36, 37, 38, 39, 40, 41] (by decide +kernel) (by decide +kernel)
set_option maxRecDepth 20000 in
theorem gX5_shape_X5_askedFor : GoodIn wsX5_shape (wsV RX5 119 RX5 yX5_askedFor wsX5_askedFor) := goodIn_app (goodIn_of _ (by decide +kernel)) ggX5_shape_X5_askedFor
set_option maxRecDepth 20000 in
theorem ggX5_tear_X5_askedFor : GoodIn wsX5_tear wsX5_askedFor := goodIn_r _ [6, 1, 7, 8, 5, 9, 10, 11, 12, 13, 14, 15, 16, 17, 18, 19, 20, 21, 22, 23, 24, 25, 26, 27, 28, 29, 30, 31, 32, 33, 34, 35, 36, 37, 38] (by decide +kernel) (by decide +kernel)
set_option maxRecDepth 20000 in
theorem gX5_tear_X5_askedFor : GoodIn wsX5_tear (wsV RX5 119 RX5 yX5_askedFor wsX5_askedFor) := goodIn_app (goodIn_of _ (by decide +kernel)) ggX5_tear_X5_askedFor
set_option maxRecDepth 20000 in
theorem ggX5_copy_X5_isNumber : GoodIn wsX5_copy wsX5_isNumber := goodIn_r _ [8, 9, 10, 7, 11] (by decide +kernel) (by decide +kernel)
set_option maxRecDepth 20000 in
theorem gX5_copy_X5_isNumber : GoodIn wsX5_copy (va_wsS RX5 111 yX5_isNumber wsX5_isNumber) := goodIn_app (goodIn_of _ (by decide +kernel)) ggX5_copy_X5_isNumber
set_option maxRecDepth 20000 in
theorem ggX5_copy_X5_meets : GoodIn wsX5_copy wsX5_meets := goodIn_r _ [15, 16, 17, 18, 19, 20, 21, 22, 23, 24, 25, 26, 27, 28, 29, 30, 31, 32, 33, 34, 35, 36, 37] (by decide +kernel) (by decide +kernel)
set_option maxRecDepth 20000 in
theorem gX5_copy_X5_meets : GoodIn wsX5_copy (wsV RX5 79 RX5 yX5_meets wsX5_meets) := goodIn_app (goodIn_of _ (by decide +kernel)) ggX5_copy_X5_meets
set_option maxRecDepth 20000 in
theorem ggX5_fit_X5_isNumber : GoodIn wsX5_fit wsX5_isNumber := goodIn_r _ [6, 7, 8, 5, 9] (by decide +kernel) (by decide +kernel)
set_option maxRecDepth 20000 in
theorem gX5_fit_X5_isNumber : GoodIn wsX5_fit (va_wsS RX5 111 yX5_isNumber wsX5_isNumber) := goodIn_app (goodIn_of _ (by decide +kernel)) ggX5_fit_X5_isNumber
set_option maxRecDepth 20000 in
theorem ggX5_fit_X5_meets : GoodIn wsX5_fit wsX5_meets := goodIn_r _ [13, 14, 15, 26, 27, 28, 29, 30, 31, 32, 33, 34, 35, 36, 37, 38, 39, 40, 41, 42, 43, 44, 45] (by decide +kernel) (by decide +kernel)
set_option maxRecDepth 20000 in
theorem gX5_fit_X5_meets : GoodIn wsX5_fit (wsV RX5 79 RX5 yX5_meets wsX5_meets) := goodIn_app (goodIn_of _ (by decide +kernel)) ggX5_fit_X5_meets
set_option maxRecDepth 20000 in
theorem ggX5_fit_X5_apart : GoodIn wsX5_fit wsX5_apart := goodIn_r _ [19, 1, 20, 26, 27, 28, 29, 30, 31, 32, 33, 34, 35, 36, 37, 38, 39, 40, 41, 42, 43, 44, 45] (by decide +kernel) (by decide +kernel)
set_option maxRecDepth 20000 in
theorem gX5_fit_X5_apart : GoodIn wsX5_fit (wsV RX5 124 RX5 yX5_apart wsX5_apart) := goodIn_app (goodIn_of _ (by decide +kernel)) ggX5_fit_X5_apart
set_option maxRecDepth 20000 in
theorem ggX5_fit_X5_tell : GoodIn wsX5_fit wsX5_tell := goodIn_r _ [24, 25, 26, 27, 28, 29, 30, 31, 32, 33, 34, 35, 36, 37, 38, 39, 40, 41, 42, 43, 44, 45] (by decide +kernel) (by decide +kernel)
set_option maxRecDepth 20000 in
theorem gX5_fit_X5_tell : GoodIn wsX5_fit (wsV RX5 96 RX5 yX5_tell wsX5_tell) := goodIn_app (goodIn_of _ (by decide +kernel)) ggX5_fit_X5_tell
set_option maxRecDepth 20000 in
theorem ggX5_worst_X5_askedFor : GoodIn wsX5_worst wsX5_askedFor := goodIn_r _ [8, 9, 10, 11, 7, 12, 13, 14, 15, 16, 17, 18, 19, 20, 21, 27, 28, 29, 30, 31, 32, 33, 34, 35, 36, 37, 38, 39, 40, 41, 42, 43, 44, 45, 46] (by decide +kernel) (by decide +kernel)
set_option maxRecDepth 20000 in
theorem gX5_worst_X5_askedFor : GoodIn wsX5_worst (wsV RX5 119 RX5 yX5_askedFor wsX5_askedFor) := goodIn_app (goodIn_of _ (by decide +kernel)) ggX5_worst_X5_askedFor
set_option maxRecDepth 20000 in
theorem ggX5_worst_X5_tell : GoodIn wsX5_worst wsX5_tell := goodIn_r _ [25, 26, 27, 28, 29, 30, 31, 32, 33, 34, 35, 36, 37, 38, 39, 40, 41, 42, 43, 44, 45, 46] (by decide +kernel) (by decide +kernel)
set_option maxRecDepth 20000 in
theorem gX5_worst_X5_tell : GoodIn wsX5_worst (wsV RX5 96 RX5 yX5_tell wsX5_tell) := goodIn_app (goodIn_of _ (by decide +kernel)) ggX5_worst_X5_tell
set_option maxRecDepth 20000 in
theorem ggX5_isStretch_X5_in : GoodIn wsX5_isStretch wsX5_in := goodIn_r _ [4] (by decide +kernel) (by decide +kernel)
set_option maxRecDepth 20000 in
theorem gX5_isStretch_X5_in : GoodIn wsX5_isStretch (va_wsS RX5 68 yX5_in wsX5_in) := goodIn_app (goodIn_of _ (by decide +kernel)) ggX5_isStretch_X5_in
set_option maxRecDepth 20000 in
theorem ggX5_isWarmth_X5_in : GoodIn wsX5_isWarmth wsX5_in := goodIn_r _ [4] (by decide +kernel) (by decide +kernel)
set_option maxRecDepth 20000 in
theorem gX5_isWarmth_X5_in : GoodIn wsX5_isWarmth (va_wsS RX5 68 yX5_in wsX5_in) := goodIn_app (goodIn_of _ (by decide +kernel)) ggX5_isWarmth_X5_in
set_option maxRecDepth 20000 in
theorem ggX5_pull_X5_isStretch : GoodIn wsX5_pull wsX5_isStretch := goodIn_r _ [5, 6, 7, 4, 8] (by decide +kernel) (by decide +kernel)
set_option maxRecDepth 20000 in
theorem gX5_pull_X5_isStretch : GoodIn wsX5_pull (va_wsS RX5 130 yX5_isStretch wsX5_isStretch) := goodIn_app (goodIn_of _ (by decide +kernel)) ggX5_pull_X5_isStretch
set_option maxRecDepth 20000 in
theorem ggX5_pull_X5_in : GoodIn wsX5_pull wsX5_in := goodIn_r _ [8] (by decide +kernel) (by decide +kernel)
set_option maxRecDepth 20000 in
theorem gX5_pull_X5_in : GoodIn wsX5_pull (va_wsS RX5 68 yX5_in wsX5_in) := goodIn_app (goodIn_of _ (by decide +kernel)) ggX5_pull_X5_in
set_option maxRecDepth 20000 in
theorem ggX5_cut_X5_isStretch : GoodIn wsX5_cut wsX5_isStretch := goodIn_r _ [6, 7, 8, 5, 9] (by decide +kernel) (by decide +kernel)
set_option maxRecDepth 20000 in
theorem gX5_cut_X5_isStretch : GoodIn wsX5_cut (va_wsS RX5 130 yX5_isStretch wsX5_isStretch) := goodIn_app (goodIn_of _ (by decide +kernel)) ggX5_cut_X5_isStretch
set_option maxRecDepth 20000 in
theorem ggX5_cut_X5_isWarmth : GoodIn wsX5_cut wsX5_isWarmth := goodIn_r _ [12, 7, 8, 5, 9] (by decide +kernel) (by decide +kernel)
set_option maxRecDepth 20000 in
theorem gX5_cut_X5_isWarmth : GoodIn wsX5_cut (va_wsS RX5 133 yX5_isWarmth wsX5_isWarmth) := goodIn_app (goodIn_of _ (by decide +kernel)) ggX5_cut_X5_isWarmth
set_option maxRecDepth 20000 in
theorem ggX5_press_X5_isStretch : GoodIn wsX5_press wsX5_isStretch := goodIn_r _ [4, 5, 6, 3, 7] (by decide +kernel) (by decide +kernel)
set_option maxRecDepth 20000 in
theorem gX5_press_X5_isStretch : GoodIn wsX5_press (va_wsS RX5 130 yX5_isStretch wsX5_isStretch) := goodIn_app (goodIn_of _ (by decide +kernel)) ggX5_press_X5_isStretch
set_option maxRecDepth 20000 in
theorem ggX5_press_X5_isWarmth : GoodIn wsX5_press wsX5_isWarmth := goodIn_r _ [10, 5, 6, 3, 7] (by decide +kernel) (by decide +kernel)
set_option maxRecDepth 20000 in
theorem gX5_press_X5_isWarmth : GoodIn wsX5_press (va_wsS RX5 133 yX5_isWarmth wsX5_isWarmth) := goodIn_app (goodIn_of _ (by decide +kernel)) ggX5_press_X5_isWarmth
set_option maxRecDepth 20000 in
theorem ggX5_press_X5_pressOf : GoodIn wsX5_press wsX5_pressOf := goodIn_r _ [14, 15, 16, 22, 23, 24, 25, 26, 27, 28, 29, 30, 31, 32, 33, 34, 35, 36, 37, 38, 39, 40, 41] (by decide +kernel) (by decide +kernel)
set_option maxRecDepth 20000 in
theorem gX5_press_X5_pressOf : GoodIn wsX5_press (wsV RX5 138 RX5 yX5_pressOf wsX5_pressOf) := goodIn_app (goodIn_of _ (by decide +kernel)) ggX5_press_X5_pressOf
set_option maxRecDepth 20000 in
theorem ggX5_press_X5_tell : GoodIn wsX5_press wsX5_tell := goodIn_r _ [20, 21, 22, 23, 24, 25, 26, 27, 28, 29, 30, 31, 32, 33, 34, 35, 36, 37, 38, 39, 40, 41] (by decide +kernel) (by decide +kernel)
set_option maxRecDepth 20000 in
theorem gX5_press_X5_tell : GoodIn wsX5_press (wsV RX5 96 RX5 yX5_tell wsX5_tell) := goodIn_app (goodIn_of _ (by decide +kernel)) ggX5_press_X5_tell
set_option maxRecDepth 20000 in
theorem ggX5_margin_X5_isStretch : GoodIn wsX5_margin wsX5_isStretch := goodIn_r _ [10, 11, 12, 9, 13] (by decide +kernel) (by decide +kernel)
set_option maxRecDepth 20000 in
theorem gX5_margin_X5_isStretch : GoodIn wsX5_margin (va_wsS RX5 130 yX5_isStretch wsX5_isStretch) := goodIn_app (goodIn_of _ (by decide +kernel)) ggX5_margin_X5_isStretch
set_option maxRecDepth 20000 in
theorem ggX5_margin_X5_isWarmth : GoodIn wsX5_margin wsX5_isWarmth := goodIn_r _ [16, 11, 12, 9, 13] (by decide +kernel) (by decide +kernel)
set_option maxRecDepth 20000 in
theorem gX5_margin_X5_isWarmth : GoodIn wsX5_margin (va_wsS RX5 133 yX5_isWarmth wsX5_isWarmth) := goodIn_app (goodIn_of _ (by decide +kernel)) ggX5_margin_X5_isWarmth
set_option maxRecDepth 20000 in
theorem ggX5_margin_X5_chordAt : GoodIn wsX5_margin wsX5_chordAt := goodIn_r _ [20, 21, 22, 23, 9, 24, 1, 11, 12, 13, 25, 26, 27, 28, 2, 29, 30, 31, 32, 50, 51, 52, 53, 54, 55, 56, 57, 58, 59, 60, 61, 62, 63, 64, 65, 66, 67, 68, 69] (by decide +kernel) (by decide +kernel)
set_option maxRecDepth 20000 in
theorem gX5_margin_X5_chordAt : GoodIn wsX5_margin (wsV RX5 114 RX5 yX5_chordAt wsX5_chordAt) := goodIn_app (goodIn_of _ (by decide +kernel)) ggX5_margin_X5_chordAt
set_option maxRecDepth 20000 in
theorem ggX5_margin_X5_meets : GoodIn wsX5_margin wsX5_meets := goodIn_r _ [36, 37, 38, 50, 51, 52, 53, 54, 55, 56, 57, 58, 59, 60, 61, 62, 63, 64, 65, 66, 67, 68, 69] (by decide +kernel) (by decide +kernel)
set_option maxRecDepth 20000 in
theorem gX5_margin_X5_meets : GoodIn wsX5_margin (wsV RX5 79 RX5 yX5_meets wsX5_meets) := goodIn_app (goodIn_of _ (by decide +kernel)) ggX5_margin_X5_meets
set_option maxRecDepth 20000 in
theorem ggX5_margin_X5_pressOf : GoodIn wsX5_margin wsX5_pressOf := goodIn_r _ [42, 43, 44, 50, 51, 52, 53, 54, 55, 56, 57, 58, 59, 60, 61, 62, 63, 64, 65, 66, 67, 68, 69] (by decide +kernel) (by decide +kernel)
set_option maxRecDepth 20000 in
theorem gX5_margin_X5_pressOf : GoodIn wsX5_margin (wsV RX5 138 RX5 yX5_pressOf wsX5_pressOf) := goodIn_app (goodIn_of _ (by decide +kernel)) ggX5_margin_X5_pressOf
set_option maxRecDepth 20000 in
theorem ggX5_margin_X5_tell : GoodIn wsX5_margin wsX5_tell := goodIn_r _ [48, 49, 50, 51, 52, 53, 54, 55, 56, 57, 58, 59, 60, 61, 62, 63, 64, 65, 66, 67, 68, 69] (by decide +kernel) (by decide +kernel)
set_option maxRecDepth 20000 in
theorem gX5_margin_X5_tell : GoodIn wsX5_margin (wsV RX5 96 RX5 yX5_tell wsX5_tell) := goodIn_app (goodIn_of _ (by decide +kernel)) ggX5_margin_X5_tell
set_option maxRecDepth 20000 in
theorem ggX5_work_X5_in : GoodIn wsX5_work wsX5_in := goodIn_r _ [7] (by decide +kernel) (by decide +kernel)
set_option maxRecDepth 20000 in
theorem gX5_work_X5_in : GoodIn wsX5_work (va_wsS RX5 68 yX5_in wsX5_in) := goodIn_app (goodIn_of _ (by decide +kernel)) ggX5_work_X5_in
set_option maxRecDepth 20000 in
theorem ggX5_best_X5_in : GoodIn wsX5_best wsX5_in := goodIn_r _ [5] (by decide +kernel) (by decide +kernel)
set_option maxRecDepth 20000 in
theorem gX5_best_X5_in : GoodIn wsX5_best (va_wsS RX5 68 yX5_in wsX5_in) := goodIn_app (goodIn_of _ (by decide +kernel)) ggX5_best_X5_in
set_option maxRecDepth 20000 in
theorem ggX5_best_X5_sumOf : GoodIn wsX5_best wsX5_sumOf := goodIn_r _ [9, 1, 10, 11, 17, 18, 19, 20, 21, 22, 23, 24, 25, 26, 27, 28, 29, 30, 31, 32, 33, 34, 35, 36] (by decide +kernel) (by decide +kernel)
set_option maxRecDepth 20000 in
theorem gX5_best_X5_sumOf : GoodIn wsX5_best (wsV RX5 151 RX5 yX5_sumOf wsX5_sumOf) := goodIn_app (goodIn_of _ (by decide +kernel)) ggX5_best_X5_sumOf
set_option maxRecDepth 20000 in
theorem ggX5_best_X5_tell : GoodIn wsX5_best wsX5_tell := goodIn_r _ [15, 16, 17, 18, 19, 20, 21, 22, 23, 24, 25, 26, 27, 28, 29, 30, 31, 32, 33, 34, 35, 36] (by decide +kernel) (by decide +kernel)
set_option maxRecDepth 20000 in
theorem gX5_best_X5_tell : GoodIn wsX5_best (wsV RX5 96 RX5 yX5_tell wsX5_tell) := goodIn_app (goodIn_of _ (by decide +kernel)) ggX5_best_X5_tell
set_option maxRecDepth 20000 in
theorem ggX5_first_X5_in : GoodIn wsX5_first wsX5_in := goodIn_r _ [7] (by decide +kernel) (by decide +kernel)
set_option maxRecDepth 20000 in
theorem gX5_first_X5_in : GoodIn wsX5_first (va_wsS RX5 68 yX5_in wsX5_in) := goodIn_app (goodIn_of _ (by decide +kernel)) ggX5_first_X5_in
set_option maxRecDepth 20000 in
theorem ggX5_first_X5_sumOf : GoodIn wsX5_first wsX5_sumOf := goodIn_r _ [11, 1, 3, 2, 17, 18, 19, 20, 21, 22, 23, 24, 25, 26, 27, 28, 29, 30, 31, 32, 33, 34, 35, 36] (by decide +kernel) (by decide +kernel)
set_option maxRecDepth 20000 in
theorem gX5_first_X5_sumOf : GoodIn wsX5_first (wsV RX5 151 RX5 yX5_sumOf wsX5_sumOf) := goodIn_app (goodIn_of _ (by decide +kernel)) ggX5_first_X5_sumOf
set_option maxRecDepth 20000 in
theorem ggX5_first_X5_tell : GoodIn wsX5_first wsX5_tell := goodIn_r _ [15, 16, 17, 18, 19, 20, 21, 22, 23, 24, 25, 26, 27, 28, 29, 30, 31, 32, 33, 34, 35, 36] (by decide +kernel) (by decide +kernel)
set_option maxRecDepth 20000 in
theorem gX5_first_X5_tell : GoodIn wsX5_first (wsV RX5 96 RX5 yX5_tell wsX5_tell) := goodIn_app (goodIn_of _ (by decide +kernel)) ggX5_first_X5_tell
set_option maxRecDepth 20000 in
theorem ggX5_count_X5_in : GoodIn wsX5_count wsX5_in := goodIn_r _ [4] (by decide +kernel) (by decide +kernel)
set_option maxRecDepth 20000 in
theorem gX5_count_X5_in : GoodIn wsX5_count (va_wsS RX5 68 yX5_in wsX5_in) := goodIn_app (goodIn_of _ (by decide +kernel)) ggX5_count_X5_in
set_option maxRecDepth 20000 in
theorem ggX5_count_X5_tellsCount : GoodIn wsX5_count wsX5_tellsCount := goodIn_r _ [8, 9, 10, 11, 12, 13, 14, 15, 16, 17, 18, 19, 20, 21, 22, 23, 24, 25, 26, 27, 28, 29, 30, 31, 32, 33] (by decide +kernel) (by decide +kernel)
set_option maxRecDepth 20000 in
theorem gX5_count_X5_tellsCount : GoodIn wsX5_count (wsV RX5 155 RX5 yX5_tellsCount wsX5_tellsCount) := goodIn_app (goodIn_of _ (by decide +kernel)) ggX5_count_X5_tellsCount
set_option maxRecDepth 20000 in
theorem ggX5_findings_X5_in : GoodIn wsX5_findings wsX5_in := goodIn_r _ [5] (by decide +kernel) (by decide +kernel)
set_option maxRecDepth 20000 in
theorem gX5_findings_X5_in : GoodIn wsX5_findings (va_wsS RX5 68 yX5_in wsX5_in) := goodIn_app (goodIn_of _ (by decide +kernel)) ggX5_findings_X5_in
