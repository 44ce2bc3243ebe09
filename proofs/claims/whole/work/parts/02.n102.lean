set_option maxRecDepth 20000 in
theorem ggX4_margin_X1_standing : GoodIn wsX4_margin wsX1_standing := goodIn_r _ [18, 19, 20, 21, 16, 22, 23, 24, 25, 26, 27, 28, 97, 98, 99, 100, 101, 102, 103, 104] (by decide +kernel) (by decide +kernel)
set_option maxRecDepth 20000 in
theorem gX4_margin_X1_standing_n123 : GoodIn wsX4_margin (wsX1_standing) := ggX4_margin_X1_standing
set_option maxRecDepth 20000 in
theorem ggX4_margin_X4_found : GoodIn wsX4_margin wsX4_found := goodIn_r _ [32, 33, 34, 89, 90, 91, 92, 93, 94, 95, 96] (by decide +kernel) (by decide +kernel)
set_option maxRecDepth 20000 in
theorem gX4_margin_X4_found : GoodIn wsX4_margin (wsV RX4 75 RX4 yX4_found wsX4_found) := goodIn_app (goodIn_of _ (by decide +kernel)) ggX4_margin_X4_found
set_option maxRecDepth 20000 in
theorem ggX4_margin_X1_sumOfStones : GoodIn wsX4_margin wsX1_sumOfStones := goodIn_r _ [37, 38, 19, 20, 21, 16, 22, 23, 24, 25, 26, 27, 28, 97, 98, 99, 100, 101, 102, 103, 104] (by decide +kernel) (by decide +kernel)
set_option maxRecDepth 20000 in
theorem gX4_margin_X1_sumOfStones_n192 : GoodIn wsX4_margin (wsX1_sumOfStones) := ggX4_margin_X1_sumOfStones
set_option maxRecDepth 20000 in
theorem ggX4_margin_X4_cutShare : GoodIn wsX4_margin wsX4_cutShare := goodIn_r _ [41] (by decide +kernel) (by decide +kernel)
set_option maxRecDepth 20000 in
theorem gX4_margin_X4_cutShare : GoodIn wsX4_margin (va_wsS RX4 195 yX4_cutShare wsX4_cutShare) := goodIn_app (goodIn_of _ (by decide +kernel)) ggX4_margin_X4_cutShare
set_option maxRecDepth 20000 in
theorem ggX4_margin_X1_greatestChord : GoodIn wsX4_margin wsX1_greatestChord := goodIn_r _ [44, 45, 46, 47, 48, 49, 50, 51, 52, 53, 54, 16, 55, 24, 25, 26, 27, 28, 56, 57, 58, 59, 60, 61, 62, 63, 64, 23, 19, 20, 21, 22, 65, 66, 67, 68, 69, 7, 70, 71, 72, 73, 74, 75, 76, 77, 78, 97, 98, 99, 100, 101, 102, 103, 104] (by decide +kernel) (by decide +kernel)
set_option maxRecDepth 20000 in
theorem gX4_margin_X1_greatestChord_n204 : GoodIn wsX4_margin (wsX1_greatestChord) := ggX4_margin_X1_greatestChord
set_option maxRecDepth 20000 in
theorem ggX4_margin_X4_pressOf : GoodIn wsX4_margin wsX4_pressOf := goodIn_r _ [82, 83, 89, 90, 91, 92, 93, 94, 95, 96] (by decide +kernel) (by decide +kernel)
set_option maxRecDepth 20000 in
theorem gX4_margin_X4_pressOf : GoodIn wsX4_margin (wsV RX4 189 RX4 yX4_pressOf wsX4_pressOf) := goodIn_app (goodIn_of _ (by decide +kernel)) ggX4_margin_X4_pressOf
set_option maxRecDepth 20000 in
theorem ggX4_margin_X4_tell : GoodIn wsX4_margin wsX4_tell := goodIn_r _ [87, 88, 89, 90, 91, 92, 93, 94, 95, 96] (by decide +kernel) (by decide +kernel)
set_option maxRecDepth 20000 in
theorem gX4_margin_X4_tell : GoodIn wsX4_margin (wsV RX4 86 RX4 yX4_tell wsX4_tell) := goodIn_app (goodIn_of _ (by decide +kernel)) ggX4_margin_X4_tell
set_option maxRecDepth 20000 in
theorem ggX4_work_X4_within : GoodIn wsX4_work wsX4_within := goodIn_r _ [5] (by decide +kernel) (by decide +kernel)
set_option maxRecDepth 20000 in
theorem gX4_work_X4_within : GoodIn wsX4_work (va_wsS RX4 52 yX4_within wsX4_within) := goodIn_app (goodIn_of _ (by decide +kernel)) ggX4_work_X4_within
set_option maxRecDepth 20000 in
theorem ggX4_work_X3_add : GoodIn wsX4_work wsX3_add := goodIn_r _ [9, 10, 11, 12, 13, 14, 15, 16, 17, 18, 7, 19, 28, 29, 30, 31, 32, 33] (by decide +kernel) (by decide +kernel)
set_option maxRecDepth 20000 in
theorem gX4_work_X3_add_n208 : GoodIn wsX4_work (wsX3_add) := ggX4_work_X3_add
set_option maxRecDepth 20000 in
theorem ggX4_best_X4_within : GoodIn wsX4_best wsX4_within := goodIn_r _ [5] (by decide +kernel) (by decide +kernel)
set_option maxRecDepth 20000 in
theorem gX4_best_X4_within : GoodIn wsX4_best (va_wsS RX4 52 yX4_within wsX4_within) := goodIn_app (goodIn_of _ (by decide +kernel)) ggX4_best_X4_within
set_option maxRecDepth 20000 in
theorem ggX4_best_X3_bestSet : GoodIn wsX4_best wsX3_bestSet := goodIn_r _ [9, 10, 11, 12, 13, 14, 15, 16, 17, 18, 19, 20, 21, 38, 39, 40, 41, 42, 43] (by decide +kernel) (by decide +kernel)
set_option maxRecDepth 20000 in
theorem gX4_best_X3_bestSet_n211 : GoodIn wsX4_best (wsX3_bestSet) := ggX4_best_X3_bestSet
set_option maxRecDepth 20000 in
theorem ggX4_best_X4_tell : GoodIn wsX4_best wsX4_tell := goodIn_r _ [25, 26, 30, 31, 32, 33, 34, 35, 36, 37] (by decide +kernel) (by decide +kernel)
set_option maxRecDepth 20000 in
theorem gX4_best_X4_tell : GoodIn wsX4_best (wsV RX4 86 RX4 yX4_tell wsX4_tell) := goodIn_app (goodIn_of _ (by decide +kernel)) ggX4_best_X4_tell
set_option maxRecDepth 20000 in
theorem ggX4_best_X3_gainOf : GoodIn wsX4_best wsX3_gainOf := goodIn_r _ [29, 10, 13, 38, 39, 40, 41, 42, 43] (by decide +kernel) (by decide +kernel)
set_option maxRecDepth 20000 in
theorem gX4_best_X3_gainOf_n214 : GoodIn wsX4_best (wsX3_gainOf) := ggX4_best_X3_gainOf
set_option maxRecDepth 20000 in
theorem ggX4_first_X4_within : GoodIn wsX4_first wsX4_within := goodIn_r _ [5] (by decide +kernel) (by decide +kernel)
set_option maxRecDepth 20000 in
theorem gX4_first_X4_within : GoodIn wsX4_first (va_wsS RX4 52 yX4_within wsX4_within) := goodIn_app (goodIn_of _ (by decide +kernel)) ggX4_first_X4_within
set_option maxRecDepth 20000 in
theorem ggX4_first_X3_worstFirst : GoodIn wsX4_first wsX3_worstFirst := goodIn_r _ [9, 10, 11, 12, 30, 31, 32, 33, 34, 35] (by decide +kernel) (by decide +kernel)
set_option maxRecDepth 20000 in
theorem gX4_first_X3_worstFirst_n217 : GoodIn wsX4_first (wsX3_worstFirst) := ggX4_first_X3_worstFirst
set_option maxRecDepth 20000 in
theorem ggX4_first_X4_tell : GoodIn wsX4_first wsX4_tell := goodIn_r _ [16, 17, 22, 23, 24, 25, 26, 27, 28, 29] (by decide +kernel) (by decide +kernel)
set_option maxRecDepth 20000 in
theorem gX4_first_X4_tell : GoodIn wsX4_first (wsV RX4 86 RX4 yX4_tell wsX4_tell) := goodIn_app (goodIn_of _ (by decide +kernel)) ggX4_first_X4_tell
set_option maxRecDepth 20000 in
theorem ggX4_first_X3_gainOf : GoodIn wsX4_first wsX3_gainOf := goodIn_r _ [20, 10, 21, 30, 31, 32, 33, 34, 35] (by decide +kernel) (by decide +kernel)
set_option maxRecDepth 20000 in
theorem gX4_first_X3_gainOf_n214 : GoodIn wsX4_first (wsX3_gainOf) := ggX4_first_X3_gainOf
set_option maxRecDepth 20000 in
theorem ggX4_count_X1_standing : GoodIn wsX4_count wsX1_standing := goodIn_r _ [8, 9, 10, 11, 6, 12, 13, 14, 15, 16, 17, 18, 32, 33, 34, 35, 36, 37, 38, 39] (by decide +kernel) (by decide +kernel)
set_option maxRecDepth 20000 in
theorem gX4_count_X1_standing_n123 : GoodIn wsX4_count (wsX1_standing) := ggX4_count_X1_standing
set_option maxRecDepth 20000 in
theorem ggX4_count_X0_howMany : GoodIn wsX4_count wsX0_howMany := goodIn_r _ [22, 23, 49, 50] (by decide +kernel) (by decide +kernel)
set_option maxRecDepth 20000 in
theorem gX4_count_X0_howMany_n220 : GoodIn wsX4_count (wsX0_howMany) := ggX4_count_X0_howMany
set_option maxRecDepth 20000 in
theorem ggX4_findings_X4_within : GoodIn wsX4_findings wsX4_within := goodIn_r _ [5] (by decide +kernel) (by decide +kernel)
set_option maxRecDepth 20000 in
theorem gX4_findings_X4_within : GoodIn wsX4_findings (va_wsS RX4 52 yX4_within wsX4_within) := goodIn_app (goodIn_of _ (by decide +kernel)) ggX4_findings_X4_within
set_option maxRecDepth 20000 in
theorem ggX4_digest_X4_count : GoodIn wsX4_digest wsX4_count := goodIn_r _ [10, 3, 11, 5, 12, 13, 14, 15, 16, 17, 18, 19, 20, 21, 22, 23, 24, 25, 26, 27, 28, 29, 30, 31, 41, 42, 43, 44, 45, 46, 47, 48, 49, 50, 51, 52, 53, 54, 55, 56, 57, 58, 59, 60, 61, 62, 63, 64, 65, 66, 67] (by decide +kernel) (by decide +kernel)
set_option maxRecDepth 20000 in
theorem gX4_digest_X4_count : GoodIn wsX4_digest (wsV RX4 227 RX4 yX4_count wsX4_count) := goodIn_app (goodIn_of _ (by decide +kernel)) ggX4_digest_X4_count
set_option maxRecDepth 20000 in
theorem ggX4_digest_X4_told : GoodIn wsX4_digest wsX4_told := goodIn_r _ [35, 3, 23, 14, 24, 25, 26, 41, 42, 43, 44, 45, 46, 47, 48, 49, 50, 51, 52, 53, 54, 55, 56] (by decide +kernel) (by decide +kernel)
set_option maxRecDepth 20000 in
theorem gX4_digest_X4_told : GoodIn wsX4_digest (wsV RX4 230 RX4 yX4_told wsX4_told) := goodIn_app (goodIn_of _ (by decide +kernel)) ggX4_digest_X4_told
set_option maxRecDepth 20000 in
theorem ggX4_digest_X0_digestOn : GoodIn wsX4_digest wsX0_digestOn := goodIn_r _ [38, 31, 39, 40, 66, 67] (by decide +kernel) (by decide +kernel)
set_option maxRecDepth 20000 in
theorem gX4_digest_X0_digestOn_n233 : GoodIn wsX4_digest (wsX0_digestOn) := ggX4_digest_X0_digestOn
set_option maxRecDepth 20000 in
theorem ggX4_isRun_X4_within : GoodIn wsX4_isRun wsX4_within := goodIn_r _ [4] (by decide +kernel) (by decide +kernel)
set_option maxRecDepth 20000 in
theorem gX4_isRun_X4_within : GoodIn wsX4_isRun (va_wsS RX4 52 yX4_within wsX4_within) := goodIn_app (goodIn_of _ (by decide +kernel)) ggX4_isRun_X4_within
set_option maxRecDepth 20000 in
theorem ggX4_isStretch_X4_within : GoodIn wsX4_isStretch wsX4_within := goodIn_r _ [4] (by decide +kernel) (by decide +kernel)
set_option maxRecDepth 20000 in
theorem gX4_isStretch_X4_within : GoodIn wsX4_isStretch (va_wsS RX4 52 yX4_within wsX4_within) := goodIn_app (goodIn_of _ (by decide +kernel)) ggX4_isStretch_X4_within
set_option maxRecDepth 20000 in
theorem ggX4_isTemperature_X4_within : GoodIn wsX4_isTemperature wsX4_within := goodIn_r _ [4] (by decide +kernel) (by decide +kernel)
set_option maxRecDepth 20000 in
theorem gX4_isTemperature_X4_within : GoodIn wsX4_isTemperature (va_wsS RX4 52 yX4_within wsX4_within) := goodIn_app (goodIn_of _ (by decide +kernel)) ggX4_isTemperature_X4_within
set_option maxRecDepth 20000 in
theorem ggX4_holdsPlaces_X4_within : GoodIn wsX4_holdsPlaces wsX4_within := goodIn_r _ [4] (by decide +kernel) (by decide +kernel)
set_option maxRecDepth 20000 in
theorem gX4_holdsPlaces_X4_within : GoodIn wsX4_holdsPlaces (va_wsS RX4 52 yX4_within wsX4_within) := goodIn_app (goodIn_of _ (by decide +kernel)) ggX4_holdsPlaces_X4_within
set_option maxRecDepth 20000 in
theorem ggX4_floorShare_J9_floorDiv_7cf53 : GoodIn wsX4_floorShare wsJ9_floorDiv_7cf53 := goodIn_r _ [4] (by decide +kernel) (by decide +kernel)
set_option maxRecDepth 20000 in
theorem gX4_floorShare_J9_floorDiv_7cf53 : GoodIn wsX4_floorShare (va_wsS RX4 237 yJ9_floorDiv_7cf53 wsJ9_floorDiv_7cf53) := goodIn_app (goodIn_of _ (by decide +kernel)) ggX4_floorShare_J9_floorDiv_7cf53
set_option maxRecDepth 20000 in
theorem ggX5_init_X5_line : GoodIn wsX5_init wsX5_line := goodIn_r _ [25, 26, 6, 7, 8, 9, 10, 12, 27, 28, 24, 29, 30, 31, 32, 33, 34, 35, 36, 37, 38, 39, 40, 41, 42, 43, 44, 45, 46, 47, 48, 49] (by decide +kernel) (by decide +kernel)
set_option maxRecDepth 20000 in
theorem gX5_init_X5_line : GoodIn wsX5_init (wsV RX5 56 RX5 yX5_line wsX5_line) := goodIn_app (goodIn_of _ (by decide +kernel)) ggX5_init_X5_line
set_option maxRecDepth 20000 in
theorem ggX5_line_X5_in : GoodIn wsX5_line wsX5_in := goodIn_r _ [11] (by decide +kernel) (by decide +kernel)
set_option maxRecDepth 20000 in
theorem gX5_line_X5_in : GoodIn wsX5_line (va_wsS RX5 68 yX5_in wsX5_in) := goodIn_app (goodIn_of _ (by decide +kernel)) ggX5_line_X5_in
set_option maxRecDepth 20000 in
theorem ggX5_isSleeper_X5_in : GoodIn wsX5_isSleeper wsX5_in := goodIn_r _ [5] (by decide +kernel) (by decide +kernel)
set_option maxRecDepth 20000 in
theorem gX5_isSleeper_X5_in : GoodIn wsX5_isSleeper (va_wsS RX5 68 yX5_in wsX5_in) := goodIn_app (goodIn_of _ (by decide +kernel)) ggX5_isSleeper_X5_in
set_option maxRecDepth 20000 in
theorem ggX5_looked_X5_isSleeper : GoodIn wsX5_looked wsX5_isSleeper := goodIn_r _ [6, 7, 8, 9, 5, 10, 17, 18, 19, 20, 21, 22, 23, 24, 25, 26, 27, 28, 29, 30, 31, 32, 33, 34, 35, 36] (by decide +kernel) (by decide +kernel)
set_option maxRecDepth 20000 in
theorem gX5_looked_X5_isSleeper : GoodIn wsX5_looked (wsV RX5 75 RX5 yX5_isSleeper wsX5_isSleeper) := goodIn_app (goodIn_of _ (by decide +kernel)) ggX5_looked_X5_isSleeper
set_option maxRecDepth 20000 in
theorem ggX5_looked_X5_meets : GoodIn wsX5_looked wsX5_meets := goodIn_r _ [14, 15, 16, 17, 18, 19, 20, 21, 22, 23, 24, 25, 26, 27, 28, 29, 30, 31, 32, 33, 34, 35, 36] (by decide +kernel) (by decide +kernel)
set_option maxRecDepth 20000 in
theorem gX5_looked_X5_meets : GoodIn wsX5_looked (wsV RX5 79 RX5 yX5_meets wsX5_meets) := goodIn_app (goodIn_of _ (by decide +kernel)) ggX5_looked_X5_meets
set_option maxRecDepth 20000 in
theorem ggX5_sleeper_X5_isSleeper : GoodIn wsX5_sleeper wsX5_isSleeper := goodIn_r _ [7, 8, 9, 10, 6, 11, 12, 13, 14, 15, 16, 17, 18, 19, 20, 21, 22, 23, 24, 25, 26, 27, 28, 29, 30, 31] (by decide +kernel) (by decide +kernel)
set_option maxRecDepth 20000 in
theorem gX5_sleeper_X5_isSleeper : GoodIn wsX5_sleeper (wsV RX5 75 RX5 yX5_isSleeper wsX5_isSleeper) := goodIn_app (goodIn_of _ (by decide +kernel)) ggX5_sleeper_X5_isSleeper
set_option maxRecDepth 20000 in
theorem ggX5_sleeper_X5_in : GoodIn wsX5_sleeper wsX5_in := goodIn_r _ [11] (by decide +kernel) (by decide +kernel)
set_option maxRecDepth 20000 in
theorem gX5_sleeper_X5_in : GoodIn wsX5_sleeper (va_wsS RX5 68 yX5_in wsX5_in) := goodIn_app (goodIn_of _ (by decide +kernel)) ggX5_sleeper_X5_in
set_option maxRecDepth 20000 in
theorem ggX5_lose_X5_isSleeper : GoodIn wsX5_lose wsX5_isSleeper := goodIn_r _ [6, 7, 8, 9, 5, 10, 11, 12, 13, 14, 15, 16, 17, 18, 19, 20, 21, 22, 23, 24, 25, 26, 27, 28, 29, 30] (by decide +kernel) (by decide +kernel)
set_option maxRecDepth 20000 in
theorem gX5_lose_X5_isSleeper : GoodIn wsX5_lose (wsV RX5 75 RX5 yX5_isSleeper wsX5_isSleeper) := goodIn_app (goodIn_of _ (by decide +kernel)) ggX5_lose_X5_isSleeper
set_option maxRecDepth 20000 in
theorem ggX5_bed_X5_in : GoodIn wsX5_bed wsX5_in := goodIn_r _ [6] (by decide +kernel) (by decide +kernel)
set_option maxRecDepth 20000 in
theorem gX5_bed_X5_in : GoodIn wsX5_bed (va_wsS RX5 68 yX5_in wsX5_in) := goodIn_app (goodIn_of _ (by decide +kernel)) ggX5_bed_X5_in
set_option maxRecDepth 20000 in
theorem ggX5_bed_X5_looked : GoodIn wsX5_bed wsX5_looked := goodIn_r _ [10, 11, 12, 13, 14, 5, 15, 16, 3, 4, 6, 17, 18, 19, 20, 21, 22, 23, 24, 25, 26, 27, 28, 29, 30, 31, 32, 33, 34, 35, 36, 37, 38, 39, 40, 41, 42] (by decide +kernel) (by decide +kernel)
set_option maxRecDepth 20000 in
theorem gX5_bed_X5_looked : GoodIn wsX5_bed (wsV RX5 82 RX5 yX5_looked wsX5_looked) := goodIn_app (goodIn_of _ (by decide +kernel)) ggX5_bed_X5_looked
set_option maxRecDepth 20000 in
theorem ggX5_stones_X5_in : GoodIn wsX5_stones wsX5_in := goodIn_r _ [5] (by decide +kernel) (by decide +kernel)
set_option maxRecDepth 20000 in
theorem gX5_stones_X5_in : GoodIn wsX5_stones (va_wsS RX5 68 yX5_in wsX5_in) := goodIn_app (goodIn_of _ (by decide +kernel)) ggX5_stones_X5_in
set_option maxRecDepth 20000 in
theorem ggX5_stones_X5_looked : GoodIn wsX5_stones wsX5_looked := goodIn_r _ [9, 10, 11, 12, 13, 4, 14, 15, 2, 3, 5, 16, 17, 18, 19, 20, 21, 22, 23, 24, 25, 26, 27, 28, 29, 30, 31, 32, 33, 34, 35, 36, 37, 38, 39, 40, 41] (by decide +kernel) (by decide +kernel)
set_option maxRecDepth 20000 in
theorem gX5_stones_X5_looked : GoodIn wsX5_stones (wsV RX5 82 RX5 yX5_looked wsX5_looked) := goodIn_app (goodIn_of _ (by decide +kernel)) ggX5_stones_X5_looked
set_option maxRecDepth 20000 in
theorem ggX5_told_X5_isSleeper : GoodIn wsX5_told wsX5_isSleeper := goodIn_r _ [5, 6, 7, 8, 4, 9, 18, 19, 20, 21, 22, 23, 24, 25, 26, 27, 28, 29, 30, 31, 32, 33, 34, 35, 36, 37] (by decide +kernel) (by decide +kernel)
set_option maxRecDepth 20000 in
theorem gX5_told_X5_isSleeper : GoodIn wsX5_told (wsV RX5 75 RX5 yX5_isSleeper wsX5_isSleeper) := goodIn_app (goodIn_of _ (by decide +kernel)) ggX5_told_X5_isSleeper
set_option maxRecDepth 20000 in
theorem ggX5_told_X5_in : GoodIn wsX5_told wsX5_in := goodIn_r _ [9] (by decide +kernel) (by decide +kernel)
set_option maxRecDepth 20000 in
theorem gX5_told_X5_in : GoodIn wsX5_told (va_wsS RX5 68 yX5_in wsX5_in) := goodIn_app (goodIn_of _ (by decide +kernel)) ggX5_told_X5_in
set_option maxRecDepth 20000 in
theorem ggX5_told_X5_tells : GoodIn wsX5_told wsX5_tells := goodIn_r _ [13, 14, 15, 16, 17, 18, 19, 20, 21, 22, 23, 24, 25, 26, 27, 28, 29, 30, 31, 32, 33, 34, 35, 36, 37] (by decide +kernel) (by decide +kernel)
set_option maxRecDepth 20000 in
theorem gX5_told_X5_tells : GoodIn wsX5_told (wsV RX5 85 RX5 yX5_tells wsX5_tells) := goodIn_app (goodIn_of _ (by decide +kernel)) ggX5_told_X5_tells
set_option maxRecDepth 20000 in
theorem ggX5_mark_X5_in : GoodIn wsX5_mark wsX5_in := goodIn_r _ [8] (by decide +kernel) (by decide +kernel)
set_option maxRecDepth 20000 in
theorem gX5_mark_X5_in : GoodIn wsX5_mark (va_wsS RX5 68 yX5_in wsX5_in) := goodIn_app (goodIn_of _ (by decide +kernel)) ggX5_mark_X5_in
set_option maxRecDepth 20000 in
theorem ggX5_mark_X5_looked : GoodIn wsX5_mark wsX5_looked := goodIn_r _ [12, 13, 14, 15, 16, 7, 17, 18, 5, 6, 8, 19, 20, 21, 22, 23, 24, 25, 26, 27, 28, 29, 30, 31, 32, 33, 34, 35, 36, 37, 38, 39, 40, 41, 42, 43, 44] (by decide +kernel) (by decide +kernel)
set_option maxRecDepth 20000 in
theorem gX5_mark_X5_looked : GoodIn wsX5_mark (wsV RX5 82 RX5 yX5_looked wsX5_looked) := goodIn_app (goodIn_of _ (by decide +kernel)) ggX5_mark_X5_looked
set_option maxRecDepth 20000 in
theorem ggX5_mark_X5_meets : GoodIn wsX5_mark wsX5_meets := goodIn_r _ [22, 23, 24, 25, 26, 27, 28, 29, 30, 31, 32, 33, 34, 35, 36, 37, 38, 39, 40, 41, 42, 43, 44] (by decide +kernel) (by decide +kernel)
set_option maxRecDepth 20000 in
theorem gX5_mark_X5_meets : GoodIn wsX5_mark (wsV RX5 79 RX5 yX5_meets wsX5_meets) := goodIn_app (goodIn_of _ (by decide +kernel)) ggX5_mark_X5_meets
set_option maxRecDepth 20000 in
theorem ggX5_railAt_X5_floor : GoodIn wsX5_railAt wsX5_floor := goodIn_r _ [7] (by decide +kernel) (by decide +kernel)
set_option maxRecDepth 20000 in
theorem gX5_railAt_X5_floor : GoodIn wsX5_railAt (va_wsS RX5 89 yX5_floor wsX5_floor) := goodIn_app (goodIn_of _ (by decide +kernel)) ggX5_railAt_X5_floor
set_option maxRecDepth 20000 in
theorem ggX5_railAt_X5_isSleeper : GoodIn wsX5_railAt wsX5_isSleeper := goodIn_r _ [11, 1, 12, 13, 6, 14, 15, 16, 17, 18, 19, 20, 21, 22, 23, 24, 25, 26, 27, 28, 29, 30, 31, 32, 33, 34] (by decide +kernel) (by decide +kernel)
set_option maxRecDepth 20000 in
theorem gX5_railAt_X5_isSleeper : GoodIn wsX5_railAt (wsV RX5 75 RX5 yX5_isSleeper wsX5_isSleeper) := goodIn_app (goodIn_of _ (by decide +kernel)) ggX5_railAt_X5_isSleeper
set_option maxRecDepth 20000 in
theorem ggX5_rail_X5_isSleeper : GoodIn wsX5_rail wsX5_isSleeper := goodIn_r _ [5, 6, 7, 8, 4, 9, 24, 25, 26, 27, 28, 29, 30, 31, 32, 33, 34, 35, 36, 37, 38, 39, 40, 41, 42, 43] (by decide +kernel) (by decide +kernel)
set_option maxRecDepth 20000 in
theorem gX5_rail_X5_isSleeper : GoodIn wsX5_rail (wsV RX5 75 RX5 yX5_isSleeper wsX5_isSleeper) := goodIn_app (goodIn_of _ (by decide +kernel)) ggX5_rail_X5_isSleeper
set_option maxRecDepth 20000 in
theorem ggX5_rail_X5_railAt : GoodIn wsX5_rail wsX5_railAt := goodIn_r _ [13, 6, 14, 15, 16, 17, 4, 18, 1, 2, 3, 5, 7, 8, 9, 24, 25, 26, 27, 28, 29, 30, 31, 32, 33, 34, 35, 36, 37, 38, 39, 40, 41, 42, 43] (by decide +kernel) (by decide +kernel)
set_option maxRecDepth 20000 in
theorem gX5_rail_X5_railAt : GoodIn wsX5_rail (wsV RX5 93 RX5 yX5_railAt wsX5_railAt) := goodIn_app (goodIn_of _ (by decide +kernel)) ggX5_rail_X5_railAt
set_option maxRecDepth 20000 in
theorem ggX5_rail_X5_tell : GoodIn wsX5_rail wsX5_tell := goodIn_r _ [22, 23, 24, 25, 26, 27, 28, 29, 30, 31, 32, 33, 34, 35, 36, 37, 38, 39, 40, 41, 42, 43] (by decide +kernel) (by decide +kernel)
set_option maxRecDepth 20000 in
theorem gX5_rail_X5_tell : GoodIn wsX5_rail (wsV RX5 96 RX5 yX5_tell wsX5_tell) := goodIn_app (goodIn_of _ (by decide +kernel)) ggX5_rail_X5_tell
set_option maxRecDepth 20000 in
theorem ggX5_gap_X5_looked : GoodIn wsX5_gap wsX5_looked := goodIn_r _ [6, 7, 8, 9, 10, 5, 11, 12, 13, 14, 15, 16, 17, 18, 19, 20, 21, 29, 30, 31, 32, 33, 34, 35, 36, 37, 38, 39, 40, 41, 42, 43, 44, 45, 46, 47, 48] (by decide +kernel) (by decide +kernel)
set_option maxRecDepth 20000 in
theorem gX5_gap_X5_looked : GoodIn wsX5_gap (wsV RX5 82 RX5 yX5_looked wsX5_looked) := goodIn_app (goodIn_of _ (by decide +kernel)) ggX5_gap_X5_looked
set_option maxRecDepth 20000 in
theorem ggX5_gap_X5_railAt : GoodIn wsX5_gap wsX5_railAt := goodIn_r _ [25, 12, 7, 1, 26, 27, 5, 28, 8, 9, 10, 11, 13, 14, 15, 29, 30, 31, 32, 33, 34, 35, 36, 37, 38, 39, 40, 41, 42, 43, 44, 45, 46, 47, 48] (by decide +kernel) (by decide +kernel)
set_option maxRecDepth 20000 in
theorem gX5_gap_X5_railAt : GoodIn wsX5_gap (wsV RX5 93 RX5 yX5_railAt wsX5_railAt) := goodIn_app (goodIn_of _ (by decide +kernel)) ggX5_gap_X5_railAt
set_option maxRecDepth 20000 in
theorem ggX5_axle_X5_in : GoodIn wsX5_axle wsX5_in := goodIn_r _ [6] (by decide +kernel) (by decide +kernel)
set_option maxRecDepth 20000 in
theorem gX5_axle_X5_in : GoodIn wsX5_axle (va_wsS RX5 68 yX5_in wsX5_in) := goodIn_app (goodIn_of _ (by decide +kernel)) ggX5_axle_X5_in
set_option maxRecDepth 20000 in
theorem ggX5_table_X5_in : GoodIn wsX5_table wsX5_in := goodIn_r _ [5] (by decide +kernel) (by decide +kernel)
set_option maxRecDepth 20000 in
theorem gX5_table_X5_in : GoodIn wsX5_table (va_wsS RX5 68 yX5_in wsX5_in) := goodIn_app (goodIn_of _ (by decide +kernel)) ggX5_table_X5_in
set_option maxRecDepth 20000 in
theorem ggX5_bears_X5_isSleeper : GoodIn wsX5_bears wsX5_isSleeper := goodIn_r _ [7, 8, 9, 10, 6, 11, 19, 20, 21, 22, 23, 24, 25, 26, 27, 28, 29, 30, 31, 32, 33, 34, 35, 36, 37, 38] (by decide +kernel) (by decide +kernel)
set_option maxRecDepth 20000 in
theorem gX5_bears_X5_isSleeper : GoodIn wsX5_bears (wsV RX5 75 RX5 yX5_isSleeper wsX5_isSleeper) := goodIn_app (goodIn_of _ (by decide +kernel)) ggX5_bears_X5_isSleeper
set_option maxRecDepth 20000 in
theorem ggX5_bears_X5_railAt : GoodIn wsX5_bears wsX5_railAt := goodIn_r _ [15, 8, 1, 2, 16, 17, 6, 18, 3, 4, 5, 7, 9, 10, 11, 19, 20, 21, 22, 23, 24, 25, 26, 27, 28, 29, 30, 31, 32, 33, 34, 35, 36, 37, 38] (by decide +kernel) (by decide +kernel)
set_option maxRecDepth 20000 in
theorem gX5_bears_X5_railAt : GoodIn wsX5_bears (wsV RX5 93 RX5 yX5_railAt wsX5_railAt) := goodIn_app (goodIn_of _ (by decide +kernel)) ggX5_bears_X5_railAt
set_option maxRecDepth 20000 in
theorem ggX5_rolls_X5_bears : GoodIn wsX5_rolls wsX5_bears := goodIn_r _ [8, 2, 9, 10, 11, 12, 7, 13, 14, 15, 16, 17, 18, 19, 20, 21, 22, 23, 24, 32, 33, 34, 35, 36, 37, 38, 39, 40, 41, 42, 43, 44, 45, 46, 47, 48, 49, 50, 51] (by decide +kernel) (by decide +kernel)
set_option maxRecDepth 20000 in
theorem gX5_rolls_X5_bears : GoodIn wsX5_rolls (wsV RX5 102 RX5 yX5_bears wsX5_bears) := goodIn_app (goodIn_of _ (by decide +kernel)) ggX5_rolls_X5_bears
set_option maxRecDepth 20000 in
theorem ggX5_rolls_X5_sink : GoodIn wsX5_rolls wsX5_sink := goodIn_r _ [28, 29, 30, 1, 31, 9, 32, 33, 34, 35, 36, 37, 38, 39, 40, 41, 42, 43, 44, 45, 46, 47, 48, 49, 50, 51] (by decide +kernel) (by decide +kernel)
set_option maxRecDepth 20000 in
theorem gX5_rolls_X5_sink : GoodIn wsX5_rolls (wsV RX5 105 RX5 yX5_sink wsX5_sink) := goodIn_app (goodIn_of _ (by decide +kernel)) ggX5_rolls_X5_sink
set_option maxRecDepth 20000 in
theorem ggX5_pass_X5_in : GoodIn wsX5_pass wsX5_in := goodIn_r _ [7] (by decide +kernel) (by decide +kernel)
set_option maxRecDepth 20000 in
theorem gX5_pass_X5_in : GoodIn wsX5_pass (va_wsS RX5 68 yX5_in wsX5_in) := goodIn_app (goodIn_of _ (by decide +kernel)) ggX5_pass_X5_in
