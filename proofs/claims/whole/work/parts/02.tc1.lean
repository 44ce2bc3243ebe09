set_option maxRecDepth 20000 in
theorem ggL_law_X5_table : GoodIn wsL_law wsX5_table := goodIn_r _ [277, 84, 95, 96, 5, 97, 666, 667, 668, 669, 670, 671, 672, 673, 674, 675, 676, 677, 678, 679, 680, 681, 682, 683, 684, 685] (by decide +kernel) (by decide +kernel)
set_option maxRecDepth 20000 in
theorem gL_law_X5_table : GoodIn wsL_law (wsV RL 64 RX5 yX5_table wsX5_table) := goodIn_app (goodIn_of _ (by decide +kernel)) ggL_law_X5_table
set_option maxRecDepth 20000 in
theorem ggL_law_X4_pass : GoodIn wsL_law wsX4_pass := goodIn_r _ [281, 19, 15, 102, 103, 2, 104, 282, 18, 283, 284, 55, 52, 285, 286, 287, 288, 289, 14, 290, 291, 36, 211, 212, 213, 214, 42, 215, 110, 111, 112, 48, 292, 293, 294, 43, 37, 295, 207, 208, 209, 210, 124, 125, 122, 126, 120, 121, 123, 216, 217, 218, 219, 220, 221, 222, 223, 224, 225, 226, 227, 228, 229, 296, 297, 298, 299, 300, 54, 301, 302, 303, 196, 197, 198, 304, 305, 306, 39, 307, 151, 152, 153, 116, 117, 118, 119, 658, 659, 660, 661, 662, 663, 664, 665, 694, 695, 696, 686, 687, 688, 689, 690, 691, 692, 693] (by decide +kernel) (by decide +kernel)
set_option maxRecDepth 20000 in
theorem gL_law_X4_pass : GoodIn wsL_law (wsV RL 65 RX4 yX4_pass wsX4_pass) := goodIn_app (goodIn_of _ (by decide +kernel)) ggL_law_X4_pass
set_option maxRecDepth 20000 in
theorem ggL_law_X5_pass : GoodIn wsL_law wsX5_pass := goodIn_r _ [311, 261, 94, 83, 95, 96, 5, 97, 312, 313, 314, 315, 76, 81, 80, 316, 317, 318, 319, 77, 131, 132, 133, 134, 234, 235, 236, 237, 238, 239, 240, 320, 321, 322, 323, 78, 84, 79, 666, 667, 668, 669, 670, 671, 672, 673, 674, 675, 676, 677, 678, 679, 680, 681, 682, 683, 684, 685] (by decide +kernel) (by decide +kernel)
set_option maxRecDepth 20000 in
theorem gL_law_X5_pass : GoodIn wsL_law (wsV RL 68 RX5 yX5_pass wsX5_pass) := goodIn_app (goodIn_of _ (by decide +kernel)) ggL_law_X5_pass
set_option maxRecDepth 20000 in
theorem ggL_law_X4_mean : GoodIn wsL_law wsX4_mean := goodIn_r _ [327, 15, 328, 14, 329, 330, 211, 212, 213, 214, 42, 215, 110, 111, 112, 48, 147, 148, 149, 2, 150, 31, 30, 331, 332, 333, 37, 334, 220, 221, 222, 223, 224, 225, 154, 155, 156, 157, 32, 658, 659, 660, 661, 662, 663, 664, 665, 686, 687, 688, 689, 690, 691, 692, 693] (by decide +kernel) (by decide +kernel)
set_option maxRecDepth 20000 in
theorem gL_law_X4_mean : GoodIn wsL_law (wsV RL 69 RX4 yX4_mean wsX4_mean) := goodIn_app (goodIn_of _ (by decide +kernel)) ggL_law_X4_mean
set_option maxRecDepth 20000 in
theorem ggL_law_X5_mean : GoodIn wsL_law wsX5_mean := goodIn_r _ [338, 94, 81, 77, 167, 168, 169, 5, 170, 171, 75, 238, 239, 240, 241, 242, 243, 244, 162, 666, 667, 668, 669, 670, 671, 672, 673, 674, 675, 676, 677, 678, 679, 680, 681, 682, 683, 684, 685] (by decide +kernel) (by decide +kernel)
set_option maxRecDepth 20000 in
theorem gL_law_X5_mean : GoodIn wsL_law (wsV RL 72 RX5 yX5_mean wsX5_mean) := goodIn_app (goodIn_of _ (by decide +kernel)) ggL_law_X5_mean
set_option maxRecDepth 20000 in
theorem ggL_law_X4_lift : GoodIn wsL_law wsX4_lift := goodIn_r _ [342, 15, 110, 14, 111, 112, 48, 102, 103, 2, 104, 343, 344, 345, 37, 39, 38, 124, 125, 122, 126, 211, 212, 213, 214, 42, 215, 307, 151, 152, 153, 116, 117, 118, 119, 120, 121, 123, 43, 658, 659, 660, 661, 662, 663, 664, 665, 686, 687, 688, 689, 690, 691, 692, 693] (by decide +kernel) (by decide +kernel)
set_option maxRecDepth 20000 in
theorem gL_law_X4_lift : GoodIn wsL_law (wsV RL 73 RX4 yX4_lift wsX4_lift) := goodIn_app (goodIn_of _ (by decide +kernel)) ggL_law_X4_lift
set_option maxRecDepth 20000 in
theorem ggL_law_X5_lift : GoodIn wsL_law wsX5_lift := goodIn_r _ [349, 81, 77, 79, 78, 131, 132, 133, 5, 134, 94, 95, 96, 97, 666, 667, 668, 669, 670, 671, 672, 673, 674, 675, 676, 677, 678, 679, 680, 681, 682, 683, 684, 685] (by decide +kernel) (by decide +kernel)
set_option maxRecDepth 20000 in
theorem gL_law_X5_lift : GoodIn wsL_law (wsV RL 77 RX5 yX5_lift wsX5_lift) := goodIn_app (goodIn_of _ (by decide +kernel)) ggL_law_X5_lift
set_option maxRecDepth 20000 in
theorem ggL_law_X4_measure : GoodIn wsL_law wsX4_measure := goodIn_r _ [353, 23, 15, 354, 355, 2, 356, 102, 103, 104, 357, 22, 358, 359, 61, 360, 14, 361, 362, 215, 110, 111, 112, 48, 295, 207, 208, 209, 37, 210, 124, 125, 122, 126, 120, 121, 123, 42, 211, 212, 213, 214, 216, 217, 218, 219, 220, 221, 222, 223, 224, 225, 226, 227, 228, 229, 658, 659, 660, 661, 662, 663, 664, 665, 697, 698, 686, 687, 688, 689, 690, 691, 692, 693] (by decide +kernel) (by decide +kernel)
set_option maxRecDepth 20000 in
theorem gL_law_X4_measure : GoodIn wsL_law (wsV RL 78 RX4 yX4_measure wsX4_measure) := goodIn_app (goodIn_of _ (by decide +kernel)) ggL_law_X4_measure
set_option maxRecDepth 20000 in
theorem ggL_law_X5_measure : GoodIn wsL_law wsX5_measure := goodIn_r _ [366, 85, 86, 94, 367, 368, 5, 369, 95, 96, 97, 370, 371, 372, 373, 131, 132, 133, 134, 234, 235, 236, 237, 81, 77, 238, 239, 240, 666, 667, 668, 669, 670, 671, 672, 673, 674, 675, 676, 677, 678, 679, 680, 681, 682, 683, 684, 685] (by decide +kernel) (by decide +kernel)
set_option maxRecDepth 20000 in
theorem gL_law_X5_measure : GoodIn wsL_law (wsV RL 81 RX5 yX5_measure wsX5_measure) := goodIn_app (goodIn_of _ (by decide +kernel)) ggL_law_X5_measure
set_option maxRecDepth 20000 in
theorem ggL_law_X4_level : GoodIn wsL_law wsX4_level := goodIn_r _ [377, 23, 15, 354, 355, 2, 356, 102, 103, 104, 357, 22, 358, 359, 61, 110, 14, 111, 112, 48, 207, 208, 209, 37, 210, 124, 125, 122, 126, 120, 121, 123, 42, 211, 212, 213, 214, 215, 216, 217, 218, 219, 220, 221, 222, 223, 224, 225, 226, 227, 228, 229, 658, 659, 660, 661, 662, 663, 664, 665, 697, 698, 686, 687, 688, 689, 690, 691, 692, 693] (by decide +kernel) (by decide +kernel)
set_option maxRecDepth 20000 in
theorem gL_law_X4_level : GoodIn wsL_law (wsV RL 82 RX4 yX4_level wsX4_level) := goodIn_app (goodIn_of _ (by decide +kernel)) ggL_law_X4_level
set_option maxRecDepth 20000 in
theorem ggL_law_X5_level : GoodIn wsL_law wsX5_level := goodIn_r _ [381, 85, 86, 94, 367, 368, 5, 369, 95, 96, 97, 234, 235, 236, 237, 81, 77, 238, 239, 240, 131, 132, 133, 134, 666, 667, 668, 669, 670, 671, 672, 673, 674, 675, 676, 677, 678, 679, 680, 681, 682, 683, 684, 685] (by decide +kernel) (by decide +kernel)
set_option maxRecDepth 20000 in
theorem gL_law_X5_level : GoodIn wsL_law (wsV RL 85 RX5 yX5_level wsX5_level) := goodIn_app (goodIn_of _ (by decide +kernel)) ggL_law_X5_level
set_option maxRecDepth 20000 in
theorem ggL_law_X4_lay : GoodIn wsL_law wsX4_lay := goodIn_r _ [385, 386, 387, 23, 354, 355, 2, 356, 102, 103, 104, 147, 148, 149, 150, 31, 30, 154, 155, 156, 157, 32, 658, 659, 660, 661, 662, 663, 664, 665, 697, 698] (by decide +kernel) (by decide +kernel)
set_option maxRecDepth 20000 in
theorem gL_law_X4_lay : GoodIn wsL_law (wsV RL 86 RX4 yX4_lay wsX4_lay) := goodIn_app (goodIn_of _ (by decide +kernel)) ggL_law_X4_lay
set_option maxRecDepth 20000 in
theorem ggL_law_X5_lay : GoodIn wsL_law wsX5_lay := goodIn_r _ [391, 392, 393, 86, 162, 95, 96, 5, 97, 394, 395, 396, 397, 85, 367, 368, 369, 167, 168, 169, 170, 171, 75, 666, 667, 668, 669, 670, 671, 672, 673, 674, 675, 676, 677, 678, 679, 680, 681, 682, 683, 684, 685] (by decide +kernel) (by decide +kernel)
set_option maxRecDepth 20000 in
theorem gL_law_X5_lay : GoodIn wsL_law (wsV RL 89 RX5 yX5_lay wsX5_lay) := goodIn_app (goodIn_of _ (by decide +kernel)) ggL_law_X5_lay
set_option maxRecDepth 20000 in
theorem ggL_law_X4_at : GoodIn wsL_law wsX4_at := goodIn_r _ [401, 23, 354, 355, 2, 356, 102, 103, 104, 147, 148, 149, 150, 31, 30, 154, 155, 156, 157, 32, 658, 659, 660, 661, 662, 663, 664, 665, 697, 698] (by decide +kernel) (by decide +kernel)
set_option maxRecDepth 20000 in
theorem gL_law_X4_at : GoodIn wsL_law (wsV RL 90 RX4 yX4_at wsX4_at) := goodIn_app (goodIn_of _ (by decide +kernel)) ggL_law_X4_at
set_option maxRecDepth 20000 in
theorem ggL_law_X5_at : GoodIn wsL_law wsX5_at := goodIn_r _ [405, 86, 394, 395, 396, 5, 397, 85, 367, 368, 369, 95, 96, 97, 167, 168, 169, 170, 171, 75, 241, 242, 243, 244, 162, 666, 667, 668, 669, 670, 671, 672, 673, 674, 675, 676, 677, 678, 679, 680, 681, 682, 683, 684, 685] (by decide +kernel) (by decide +kernel)
set_option maxRecDepth 20000 in
theorem gL_law_X5_at : GoodIn wsL_law (wsV RL 93 RX5 yX5_at wsX5_at) := goodIn_app (goodIn_of _ (by decide +kernel)) ggL_law_X5_at
set_option maxRecDepth 20000 in
theorem ggL_law_X4_shape : GoodIn wsL_law wsX4_shape := goodIn_r _ [409, 23, 15, 354, 355, 2, 356, 102, 103, 104, 147, 148, 149, 150, 31, 30, 410, 22, 411, 412, 60, 658, 659, 660, 661, 662, 663, 664, 665, 697, 698, 686, 687, 688, 689, 690, 691, 692, 693] (by decide +kernel) (by decide +kernel)
set_option maxRecDepth 20000 in
theorem gL_law_X4_shape : GoodIn wsL_law (wsV RL 94 RX4 yX4_shape wsX4_shape) := goodIn_app (goodIn_of _ (by decide +kernel)) ggL_law_X4_shape
set_option maxRecDepth 20000 in
theorem ggL_law_X5_shape : GoodIn wsL_law wsX5_shape := goodIn_r _ [416, 87, 94, 86, 95, 96, 5, 97, 394, 395, 396, 397, 85, 367, 368, 369, 167, 168, 169, 170, 171, 75, 666, 667, 668, 669, 670, 671, 672, 673, 674, 675, 676, 677, 678, 679, 680, 681, 682, 683, 684, 685] (by decide +kernel) (by decide +kernel)
set_option maxRecDepth 20000 in
theorem gL_law_X5_shape : GoodIn wsL_law (wsV RL 97 RX5 yX5_shape wsX5_shape) := goodIn_app (goodIn_of _ (by decide +kernel)) ggL_law_X5_shape
set_option maxRecDepth 20000 in
theorem ggL_law_X4_tear : GoodIn wsL_law wsX4_tear := goodIn_r _ [420, 23, 354, 355, 2, 356, 102, 103, 104, 147, 148, 149, 150, 31, 30, 658, 659, 660, 661, 662, 663, 664, 665, 697, 698] (by decide +kernel) (by decide +kernel)
set_option maxRecDepth 20000 in
theorem gL_law_X4_tear : GoodIn wsL_law (wsV RL 98 RX4 yX4_tear wsX4_tear) := goodIn_app (goodIn_of _ (by decide +kernel)) ggL_law_X4_tear
set_option maxRecDepth 20000 in
theorem ggL_law_X5_tear : GoodIn wsL_law wsX5_tear := goodIn_r _ [424, 85, 394, 395, 396, 5, 397, 367, 368, 369, 95, 96, 97, 167, 168, 169, 170, 171, 75, 666, 667, 668, 669, 670, 671, 672, 673, 674, 675, 676, 677, 678, 679, 680, 681, 682, 683, 684, 685] (by decide +kernel) (by decide +kernel)
set_option maxRecDepth 20000 in
theorem gL_law_X5_tear : GoodIn wsL_law (wsV RL 101 RX5 yX5_tear wsX5_tear) := goodIn_app (goodIn_of _ (by decide +kernel)) ggL_law_X5_tear
set_option maxRecDepth 20000 in
theorem ggL_law_X4_copy : GoodIn wsL_law wsX4_copy := goodIn_r _ [428, 23, 429, 430, 431, 432, 354, 355, 2, 356, 102, 103, 104, 147, 148, 149, 150, 31, 30, 433, 434, 435, 658, 659, 660, 661, 662, 663, 664, 665, 697, 698] (by decide +kernel) (by decide +kernel)
set_option maxRecDepth 20000 in
theorem gL_law_X4_copy : GoodIn wsL_law (wsV RL 102 RX4 yX4_copy wsX4_copy) := goodIn_app (goodIn_of _ (by decide +kernel)) ggL_law_X4_copy
set_option maxRecDepth 20000 in
theorem ggL_law_X5_copy : GoodIn wsL_law wsX5_copy := goodIn_r _ [439, 85, 440, 87, 86, 367, 368, 5, 369, 95, 96, 97, 167, 168, 169, 170, 171, 75, 666, 667, 668, 669, 670, 671, 672, 673, 674, 675, 676, 677, 678, 679, 680, 681, 682, 683, 684, 685] (by decide +kernel) (by decide +kernel)
set_option maxRecDepth 20000 in
theorem gL_law_X5_copy : GoodIn wsL_law (wsV RL 106 RX5 yX5_copy wsX5_copy) := goodIn_app (goodIn_of _ (by decide +kernel)) ggL_law_X5_copy
set_option maxRecDepth 20000 in
theorem ggL_law_X4_fit : GoodIn wsL_law wsX4_fit := goodIn_r _ [444, 15, 23, 354, 355, 2, 356, 102, 103, 104, 147, 148, 149, 150, 31, 30, 445, 22, 446, 447, 448, 449, 450, 451, 60, 154, 155, 156, 157, 32, 658, 659, 660, 661, 662, 663, 664, 665, 686, 687, 688, 689, 690, 691, 692, 693, 697, 698] (by decide +kernel) (by decide +kernel)
set_option maxRecDepth 20000 in
theorem gL_law_X4_fit : GoodIn wsL_law (wsV RL 107 RX4 yX4_fit wsX4_fit) := goodIn_app (goodIn_of _ (by decide +kernel)) ggL_law_X4_fit
set_option maxRecDepth 20000 in
theorem ggL_law_X5_fit : GoodIn wsL_law wsX5_fit := goodIn_r _ [455, 94, 85, 367, 368, 5, 369, 95, 96, 97, 167, 168, 169, 170, 171, 75, 456, 457, 458, 459, 86, 241, 242, 243, 244, 162, 666, 667, 668, 669, 670, 671, 672, 673, 674, 675, 676, 677, 678, 679, 680, 681, 682, 683, 684, 685] (by decide +kernel) (by decide +kernel)
set_option maxRecDepth 20000 in
theorem gL_law_X5_fit : GoodIn wsL_law (wsV RL 110 RX5 yX5_fit wsX5_fit) := goodIn_app (goodIn_of _ (by decide +kernel)) ggL_law_X5_fit
set_option maxRecDepth 20000 in
theorem ggL_law_X4_worst : GoodIn wsL_law wsX4_worst := goodIn_r _ [463, 23, 15, 354, 355, 2, 356, 102, 103, 104, 147, 148, 149, 150, 31, 30, 464, 22, 465, 466, 467, 468, 469, 470, 60, 471, 472, 122, 473, 154, 155, 156, 157, 32, 658, 659, 660, 661, 662, 663, 664, 665, 697, 698, 686, 687, 688, 689, 690, 691, 692, 693] (by decide +kernel) (by decide +kernel)
set_option maxRecDepth 20000 in
theorem gL_law_X4_worst : GoodIn wsL_law (wsV RL 111 RX4 yX4_worst wsX4_worst) := goodIn_app (goodIn_of _ (by decide +kernel)) ggL_law_X4_worst
set_option maxRecDepth 20000 in
theorem ggL_law_X5_worst : GoodIn wsL_law wsX5_worst := goodIn_r _ [477, 478, 94, 86, 394, 395, 396, 5, 397, 85, 367, 368, 369, 95, 96, 97, 167, 168, 169, 170, 171, 75, 241, 242, 243, 244, 162, 666, 667, 668, 669, 670, 671, 672, 673, 674, 675, 676, 677, 678, 679, 680, 681, 682, 683, 684, 685] (by decide +kernel) (by decide +kernel)
set_option maxRecDepth 20000 in
theorem gL_law_X5_worst : GoodIn wsL_law (wsV RL 114 RX5 yX5_worst wsX5_worst) := goodIn_app (goodIn_of _ (by decide +kernel)) ggL_law_X5_worst
