set_option maxRecDepth 20000 in
theorem ggL_law_X4_init : GoodIn wsL_law wsX4_init := goodIn_r _ [8, 9, 10, 11, 12, 13, 14, 15, 16, 17, 18, 19, 20, 21, 22, 23, 24, 25, 26, 27, 28, 29, 30, 31, 32, 33, 34, 35, 36, 37, 38, 39, 40, 41, 42, 43, 44, 45, 46, 47, 48, 49, 50, 51, 52, 53, 54, 55, 56, 57, 58, 59, 60, 61, 62, 63, 64, 65, 66, 67, 68, 69, 70, 686, 687, 688, 689, 690, 691, 692, 693, 658, 659, 660, 661, 662, 663, 664, 665, 694, 695, 696, 697, 698, 699, 700, 701, 702, 703, 704] (by decide +kernel) (by decide +kernel)
set_option maxRecDepth 20000 in
theorem gL_law_X4_init : GoodIn wsL_law (wsX4_init) := ggL_law_X4_init
set_option maxRecDepth 20000 in
theorem ggL_law_X5_init : GoodIn wsL_law wsX5_init := goodIn_r _ [73, 74, 10, 11, 28, 75, 76, 77, 78, 79, 80, 41, 81, 82, 83, 84, 85, 86, 87, 88, 89, 90, 91, 92, 5, 93, 94, 95, 96, 97, 666, 667, 668, 669, 670, 671, 672, 673, 674, 675, 676, 677, 678, 679, 680, 681, 682, 683, 684, 685] (by decide +kernel) (by decide +kernel)
set_option maxRecDepth 20000 in
theorem gL_law_X5_init : GoodIn wsL_law (wsX5_init) := ggL_law_X5_init
set_option maxRecDepth 20000 in
theorem ggL_law_X4_line : GoodIn wsL_law wsX4_line := goodIn_r _ [101, 15, 102, 103, 2, 104, 45, 14, 46, 47, 48, 36, 37, 38, 39, 40, 42, 43, 658, 659, 660, 661, 662, 663, 664, 665, 686, 687, 688, 689, 690, 691, 692, 693] (by decide +kernel) (by decide +kernel)
set_option maxRecDepth 20000 in
theorem gL_law_X4_line : GoodIn wsL_law (wsV RL 13 RX4 yX4_line wsX4_line) := goodIn_app (goodIn_of _ (by decide +kernel)) ggL_law_X4_line
set_option maxRecDepth 20000 in
theorem ggL_law_X5_line : GoodIn wsL_law wsX5_line := goodIn_r _ [93, 94, 76, 77, 78, 79, 80, 81, 95, 96, 5, 97, 666, 667, 668, 669, 670, 671, 672, 673, 674, 675, 676, 677, 678, 679, 680, 681, 682, 683, 684, 685] (by decide +kernel) (by decide +kernel)
set_option maxRecDepth 20000 in
theorem gL_law_X5_line : GoodIn wsL_law (wsV RL 17 RX5 yX5_line wsX5_line) := goodIn_app (goodIn_of _ (by decide +kernel)) ggL_law_X5_line
set_option maxRecDepth 20000 in
theorem ggL_law_X4_sleeper : GoodIn wsL_law wsX4_sleeper := goodIn_r _ [109, 15, 110, 14, 111, 112, 48, 102, 103, 2, 104, 113, 114, 115, 42, 116, 117, 118, 119, 120, 121, 122, 123, 124, 125, 126, 43, 658, 659, 660, 661, 662, 663, 664, 665, 686, 687, 688, 689, 690, 691, 692, 693] (by decide +kernel) (by decide +kernel)
set_option maxRecDepth 20000 in
theorem gL_law_X4_sleeper : GoodIn wsL_law (wsV RL 18 RX4 yX4_sleeper wsX4_sleeper) := goodIn_app (goodIn_of _ (by decide +kernel)) ggL_law_X4_sleeper
set_option maxRecDepth 20000 in
theorem ggL_law_X5_sleeper : GoodIn wsL_law wsX5_sleeper := goodIn_r _ [130, 76, 81, 131, 132, 133, 5, 134, 94, 95, 96, 97, 666, 667, 668, 669, 670, 671, 672, 673, 674, 675, 676, 677, 678, 679, 680, 681, 682, 683, 684, 685] (by decide +kernel) (by decide +kernel)
set_option maxRecDepth 20000 in
theorem gL_law_X5_sleeper : GoodIn wsL_law (wsV RL 22 RX5 yX5_sleeper wsX5_sleeper) := goodIn_app (goodIn_of _ (by decide +kernel)) ggL_law_X5_sleeper
set_option maxRecDepth 20000 in
theorem ggL_law_X4_lose : GoodIn wsL_law wsX4_lose := goodIn_r _ [138, 15, 110, 14, 111, 112, 48, 113, 114, 115, 42, 116, 117, 118, 119, 120, 121, 122, 123, 124, 125, 126, 43, 658, 659, 660, 661, 662, 663, 664, 665, 686, 687, 688, 689, 690, 691, 692, 693] (by decide +kernel) (by decide +kernel)
set_option maxRecDepth 20000 in
theorem gL_law_X4_lose : GoodIn wsL_law (wsV RL 23 RX4 yX4_lose wsX4_lose) := goodIn_app (goodIn_of _ (by decide +kernel)) ggL_law_X4_lose
set_option maxRecDepth 20000 in
theorem ggL_law_X5_lose : GoodIn wsL_law wsX5_lose := goodIn_r _ [142, 81, 131, 132, 133, 5, 134, 94, 95, 96, 97, 666, 667, 668, 669, 670, 671, 672, 673, 674, 675, 676, 677, 678, 679, 680, 681, 682, 683, 684, 685] (by decide +kernel) (by decide +kernel)
set_option maxRecDepth 20000 in
theorem gL_law_X5_lose : GoodIn wsL_law (wsV RL 27 RX5 yX5_lose wsX5_lose) := goodIn_app (goodIn_of _ (by decide +kernel)) ggL_law_X5_lose
set_option maxRecDepth 20000 in
theorem ggL_law_X4_bed : GoodIn wsL_law wsX4_bed := goodIn_r _ [146, 15, 110, 14, 111, 112, 48, 102, 103, 2, 104, 147, 148, 149, 150, 31, 30, 151, 152, 153, 37, 116, 117, 118, 119, 120, 121, 122, 123, 124, 125, 126, 43, 154, 155, 156, 157, 32, 658, 659, 660, 661, 662, 663, 664, 665, 686, 687, 688, 689, 690, 691, 692, 693] (by decide +kernel) (by decide +kernel)
set_option maxRecDepth 20000 in
theorem gL_law_X4_bed : GoodIn wsL_law (wsV RL 28 RX4 yX4_bed wsX4_bed) := goodIn_app (goodIn_of _ (by decide +kernel)) ggL_law_X4_bed
set_option maxRecDepth 20000 in
theorem ggL_law_X5_bed : GoodIn wsL_law wsX5_bed := goodIn_r _ [161, 77, 162, 95, 96, 5, 97, 163, 164, 165, 166, 81, 131, 132, 133, 134, 94, 167, 168, 169, 170, 171, 75, 666, 667, 668, 669, 670, 671, 672, 673, 674, 675, 676, 677, 678, 679, 680, 681, 682, 683, 684, 685] (by decide +kernel) (by decide +kernel)
set_option maxRecDepth 20000 in
theorem gL_law_X5_bed : GoodIn wsL_law (wsV RL 31 RX5 yX5_bed wsX5_bed) := goodIn_app (goodIn_of _ (by decide +kernel)) ggL_law_X5_bed
set_option maxRecDepth 20000 in
theorem ggL_law_X4_stones : GoodIn wsL_law wsX4_stones := goodIn_r _ [175, 15, 110, 14, 111, 112, 48, 102, 103, 2, 104, 147, 148, 149, 150, 31, 30, 658, 659, 660, 661, 662, 663, 664, 665, 686, 687, 688, 689, 690, 691, 692, 693] (by decide +kernel) (by decide +kernel)
set_option maxRecDepth 20000 in
theorem gL_law_X4_stones : GoodIn wsL_law (wsV RL 32 RX4 yX4_stones wsX4_stones) := goodIn_app (goodIn_of _ (by decide +kernel)) ggL_law_X4_stones
set_option maxRecDepth 20000 in
theorem ggL_law_X5_stones : GoodIn wsL_law wsX5_stones := goodIn_r _ [179, 78, 95, 96, 5, 97, 163, 164, 165, 166, 81, 131, 132, 133, 134, 94, 167, 168, 169, 170, 171, 75, 666, 667, 668, 669, 670, 671, 672, 673, 674, 675, 676, 677, 678, 679, 680, 681, 682, 683, 684, 685] (by decide +kernel) (by decide +kernel)
set_option maxRecDepth 20000 in
theorem gL_law_X5_stones : GoodIn wsL_law (wsV RL 35 RX5 yX5_stones wsX5_stones) := goodIn_app (goodIn_of _ (by decide +kernel)) ggL_law_X5_stones
set_option maxRecDepth 20000 in
theorem ggL_law_X4_told : GoodIn wsL_law wsX4_told := goodIn_r _ [183, 15, 110, 14, 111, 112, 48, 658, 659, 660, 661, 662, 663, 664, 665, 686, 687, 688, 689, 690, 691, 692, 693] (by decide +kernel) (by decide +kernel)
set_option maxRecDepth 20000 in
theorem gL_law_X4_told : GoodIn wsL_law (wsV RL 36 RX4 yX4_told wsX4_told) := goodIn_app (goodIn_of _ (by decide +kernel)) ggL_law_X4_told
set_option maxRecDepth 20000 in
theorem ggL_law_X5_told : GoodIn wsL_law wsX5_told := goodIn_r _ [187, 131, 132, 133, 5, 134, 94, 95, 96, 97, 188, 189, 190, 191, 76, 78, 79, 81, 666, 667, 668, 669, 670, 671, 672, 673, 674, 675, 676, 677, 678, 679, 680, 681, 682, 683, 684, 685] (by decide +kernel) (by decide +kernel)
set_option maxRecDepth 20000 in
theorem gL_law_X5_told : GoodIn wsL_law (wsV RL 39 RX5 yX5_told wsX5_told) := goodIn_app (goodIn_of _ (by decide +kernel)) ggL_law_X5_told
set_option maxRecDepth 20000 in
theorem ggL_law_X4_mark : GoodIn wsL_law wsX4_mark := goodIn_r _ [195, 15, 110, 14, 111, 112, 48, 102, 103, 2, 104, 147, 148, 149, 150, 31, 30, 196, 197, 198, 36, 658, 659, 660, 661, 662, 663, 664, 665, 686, 687, 688, 689, 690, 691, 692, 693] (by decide +kernel) (by decide +kernel)
set_option maxRecDepth 20000 in
theorem gL_law_X4_mark : GoodIn wsL_law (wsV RL 40 RX4 yX4_mark wsX4_mark) := goodIn_app (goodIn_of _ (by decide +kernel)) ggL_law_X4_mark
set_option maxRecDepth 20000 in
theorem ggL_law_X5_mark : GoodIn wsL_law wsX5_mark := goodIn_r _ [202, 76, 79, 78, 80, 95, 96, 5, 97, 163, 164, 165, 166, 81, 131, 132, 133, 134, 94, 167, 168, 169, 170, 171, 75, 666, 667, 668, 669, 670, 671, 672, 673, 674, 675, 676, 677, 678, 679, 680, 681, 682, 683, 684, 685] (by decide +kernel) (by decide +kernel)
set_option maxRecDepth 20000 in
theorem gL_law_X5_mark : GoodIn wsL_law (wsV RL 43 RX5 yX5_mark wsX5_mark) := goodIn_app (goodIn_of _ (by decide +kernel)) ggL_law_X5_mark
set_option maxRecDepth 20000 in
theorem ggL_law_X4_rail : GoodIn wsL_law wsX4_rail := goodIn_r _ [206, 15, 110, 14, 111, 112, 48, 207, 208, 209, 37, 210, 124, 125, 122, 126, 120, 121, 123, 42, 211, 212, 213, 214, 215, 216, 217, 218, 219, 220, 2, 221, 222, 223, 224, 225, 226, 227, 228, 229, 154, 155, 156, 157, 32, 658, 659, 660, 661, 662, 663, 664, 665, 686, 687, 688, 689, 690, 691, 692, 693] (by decide +kernel) (by decide +kernel)
set_option maxRecDepth 20000 in
theorem gL_law_X4_rail : GoodIn wsL_law (wsV RL 44 RX4 yX4_rail wsX4_rail) := goodIn_app (goodIn_of _ (by decide +kernel)) ggL_law_X4_rail
set_option maxRecDepth 20000 in
theorem ggL_law_X5_rail : GoodIn wsL_law wsX5_rail := goodIn_r _ [233, 131, 132, 133, 5, 134, 94, 95, 96, 97, 234, 235, 236, 237, 81, 77, 238, 239, 240, 241, 242, 243, 244, 162, 666, 667, 668, 669, 670, 671, 672, 673, 674, 675, 676, 677, 678, 679, 680, 681, 682, 683, 684, 685] (by decide +kernel) (by decide +kernel)
set_option maxRecDepth 20000 in
theorem gL_law_X5_rail : GoodIn wsL_law (wsV RL 47 RX5 yX5_rail wsX5_rail) := goodIn_app (goodIn_of _ (by decide +kernel)) ggL_law_X5_rail
set_option maxRecDepth 20000 in
theorem ggL_law_X4_gap : GoodIn wsL_law wsX4_gap := goodIn_r _ [248, 15, 110, 14, 111, 112, 48, 147, 148, 149, 2, 150, 31, 30, 207, 208, 209, 37, 210, 124, 125, 122, 126, 120, 121, 123, 42, 211, 212, 213, 214, 215, 216, 217, 218, 219, 220, 221, 222, 223, 224, 225, 226, 227, 228, 229, 658, 659, 660, 661, 662, 663, 664, 665, 686, 687, 688, 689, 690, 691, 692, 693] (by decide +kernel) (by decide +kernel)
set_option maxRecDepth 20000 in
theorem gL_law_X4_gap : GoodIn wsL_law (wsV RL 48 RX4 yX4_gap wsX4_gap) := goodIn_app (goodIn_of _ (by decide +kernel)) ggL_law_X4_gap
set_option maxRecDepth 20000 in
theorem ggL_law_X5_gap : GoodIn wsL_law wsX5_gap := goodIn_r _ [252, 77, 163, 164, 165, 5, 166, 81, 131, 132, 133, 134, 94, 95, 96, 97, 167, 168, 169, 170, 171, 75, 234, 235, 236, 237, 238, 239, 240, 666, 667, 668, 669, 670, 671, 672, 673, 674, 675, 676, 677, 678, 679, 680, 681, 682, 683, 684, 685] (by decide +kernel) (by decide +kernel)
set_option maxRecDepth 20000 in
theorem gL_law_X5_gap : GoodIn wsL_law (wsV RL 51 RX5 yX5_gap wsX5_gap) := goodIn_app (goodIn_of _ (by decide +kernel)) ggL_law_X5_gap
set_option maxRecDepth 20000 in
theorem ggL_law_X4_axle : GoodIn wsL_law wsX4_axle := goodIn_r _ [256, 19, 102, 103, 2, 104, 658, 659, 660, 661, 662, 663, 664, 665, 694, 695, 696] (by decide +kernel) (by decide +kernel)
set_option maxRecDepth 20000 in
theorem gL_law_X4_axle : GoodIn wsL_law (wsV RL 52 RX4 yX4_axle wsX4_axle) := goodIn_app (goodIn_of _ (by decide +kernel)) ggL_law_X4_axle
set_option maxRecDepth 20000 in
theorem ggL_law_X5_axle : GoodIn wsL_law wsX5_axle := goodIn_r _ [260, 261, 83, 95, 96, 5, 97, 666, 667, 668, 669, 670, 671, 672, 673, 674, 675, 676, 677, 678, 679, 680, 681, 682, 683, 684, 685] (by decide +kernel) (by decide +kernel)
set_option maxRecDepth 20000 in
theorem gL_law_X5_axle : GoodIn wsL_law (wsV RL 55 RX5 yX5_axle wsX5_axle) := goodIn_app (goodIn_of _ (by decide +kernel)) ggL_law_X5_axle
set_option maxRecDepth 20000 in
theorem ggL_law_X4_uncouple : GoodIn wsL_law wsX4_uncouple := goodIn_r _ [265, 19, 658, 659, 660, 661, 662, 663, 664, 665, 694, 695, 696] (by decide +kernel) (by decide +kernel)
set_option maxRecDepth 20000 in
theorem gL_law_X4_uncouple : GoodIn wsL_law (wsV RL 56 RX4 yX4_uncouple wsX4_uncouple) := goodIn_app (goodIn_of _ (by decide +kernel)) ggL_law_X4_uncouple
set_option maxRecDepth 20000 in
theorem ggL_law_X5_uncouple : GoodIn wsL_law wsX5_uncouple := goodIn_r _ [269, 261, 666, 667, 668, 669, 670, 671, 672, 673, 674, 675, 676, 677, 678, 679, 680, 681, 682, 683, 684, 685] (by decide +kernel) (by decide +kernel)
set_option maxRecDepth 20000 in
theorem gL_law_X5_uncouple : GoodIn wsL_law (wsV RL 60 RX5 yX5_uncouple wsX5_uncouple) := goodIn_app (goodIn_of _ (by decide +kernel)) ggL_law_X5_uncouple
set_option maxRecDepth 20000 in
theorem ggL_law_X4_table : GoodIn wsL_law wsX4_table := goodIn_r _ [273, 19, 102, 103, 2, 104, 658, 659, 660, 661, 662, 663, 664, 665, 694, 695, 696] (by decide +kernel) (by decide +kernel)
set_option maxRecDepth 20000 in
theorem gL_law_X4_table : GoodIn wsL_law (wsV RL 61 RX4 yX4_table wsX4_table) := goodIn_app (goodIn_of _ (by decide +kernel)) ggL_law_X4_table
