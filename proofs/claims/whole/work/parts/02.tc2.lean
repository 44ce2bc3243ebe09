set_option maxRecDepth 20000 in
theorem ggL_law_X4_pull : GoodIn wsL_law wsX4_pull := goodIn_r _ [482, 29, 483, 484, 2, 485, 102, 103, 104, 658, 659, 660, 661, 662, 663, 664, 665] (by decide +kernel) (by decide +kernel)
set_option maxRecDepth 20000 in
theorem gL_law_X4_pull : GoodIn wsL_law (wsV RL 115 RX4 yX4_pull wsX4_pull) := goodIn_app (goodIn_of _ (by decide +kernel)) ggL_law_X4_pull
set_option maxRecDepth 20000 in
theorem ggL_law_X5_pull : GoodIn wsL_law wsX5_pull := goodIn_r _ [489, 82, 490, 491, 5, 492, 95, 96, 97, 666, 667, 668, 669, 670, 671, 672, 673, 674, 675, 676, 677, 678, 679, 680, 681, 682, 683, 684, 685] (by decide +kernel) (by decide +kernel)
set_option maxRecDepth 20000 in
theorem gL_law_X5_pull : GoodIn wsL_law (wsV RL 118 RX5 yX5_pull wsX5_pull) := goodIn_app (goodIn_of _ (by decide +kernel)) ggL_law_X5_pull
set_option maxRecDepth 20000 in
theorem ggL_law_X4_cut : GoodIn wsL_law wsX4_cut := goodIn_r _ [496, 29, 483, 484, 2, 485, 102, 103, 104, 497, 498, 499, 154, 155, 156, 157, 32, 658, 659, 660, 661, 662, 663, 664, 665] (by decide +kernel) (by decide +kernel)
set_option maxRecDepth 20000 in
theorem gL_law_X4_cut : GoodIn wsL_law (wsV RL 119 RX4 yX4_cut wsX4_cut) := goodIn_app (goodIn_of _ (by decide +kernel)) ggL_law_X4_cut
set_option maxRecDepth 20000 in
theorem ggL_law_X5_cut : GoodIn wsL_law wsX5_cut := goodIn_r _ [503, 82, 162, 490, 491, 5, 492, 95, 96, 97, 504, 505, 506, 666, 667, 668, 669, 670, 671, 672, 673, 674, 675, 676, 677, 678, 679, 680, 681, 682, 683, 684, 685] (by decide +kernel) (by decide +kernel)
set_option maxRecDepth 20000 in
theorem gL_law_X5_cut : GoodIn wsL_law (wsV RL 122 RX5 yX5_cut wsX5_cut) := goodIn_app (goodIn_of _ (by decide +kernel)) ggL_law_X5_cut
set_option maxRecDepth 20000 in
theorem ggL_law_X4_press : GoodIn wsL_law wsX4_press := goodIn_r _ [510, 483, 484, 2, 485, 102, 103, 104, 497, 498, 499, 511, 512, 513, 514, 29, 154, 155, 156, 157, 32, 658, 659, 660, 661, 662, 663, 664, 665] (by decide +kernel) (by decide +kernel)
set_option maxRecDepth 20000 in
theorem gL_law_X4_press : GoodIn wsL_law (wsV RL 123 RX4 yX4_press wsX4_press) := goodIn_app (goodIn_of _ (by decide +kernel)) ggL_law_X4_press
set_option maxRecDepth 20000 in
theorem ggL_law_X5_press : GoodIn wsL_law wsX5_press := goodIn_r _ [518, 490, 491, 5, 492, 95, 96, 97, 504, 505, 506, 519, 520, 521, 522, 523, 82, 241, 242, 243, 244, 162, 666, 667, 668, 669, 670, 671, 672, 673, 674, 675, 676, 677, 678, 679, 680, 681, 682, 683, 684, 685] (by decide +kernel) (by decide +kernel)
set_option maxRecDepth 20000 in
theorem gL_law_X5_press : GoodIn wsL_law (wsV RL 126 RX5 yX5_press wsX5_press) := goodIn_app (goodIn_of _ (by decide +kernel)) ggL_law_X5_press
set_option maxRecDepth 20000 in
theorem ggL_law_X4_margin : GoodIn wsL_law wsX4_margin := goodIn_r _ [527, 15, 528, 529, 530, 483, 484, 2, 485, 102, 103, 104, 497, 498, 499, 328, 14, 329, 330, 211, 212, 213, 214, 42, 215, 110, 111, 112, 48, 147, 148, 149, 150, 31, 30, 531, 532, 533, 38, 534, 302, 303, 535, 536, 537, 538, 539, 122, 540, 124, 125, 126, 541, 360, 361, 362, 295, 207, 208, 209, 37, 210, 120, 121, 123, 216, 217, 218, 219, 220, 221, 222, 223, 224, 225, 226, 227, 228, 229, 511, 512, 513, 514, 29, 154, 155, 156, 157, 32, 658, 659, 660, 661, 662, 663, 664, 665, 686, 687, 688, 689, 690, 691, 692, 693] (by decide +kernel) (by decide +kernel)
set_option maxRecDepth 20000 in
theorem gL_law_X4_margin : GoodIn wsL_law (wsV RL 127 RX4 yX4_margin wsX4_margin) := goodIn_app (goodIn_of _ (by decide +kernel)) ggL_law_X4_margin
set_option maxRecDepth 20000 in
theorem ggL_law_X5_margin : GoodIn wsL_law wsX5_margin := goodIn_r _ [545, 94, 81, 78, 546, 547, 548, 490, 491, 5, 492, 95, 96, 97, 504, 505, 506, 370, 371, 372, 373, 131, 132, 133, 134, 234, 235, 236, 237, 77, 238, 239, 240, 167, 168, 169, 170, 171, 75, 519, 520, 521, 522, 523, 82, 241, 242, 243, 244, 162, 666, 667, 668, 669, 670, 671, 672, 673, 674, 675, 676, 677, 678, 679, 680, 681, 682, 683, 684, 685] (by decide +kernel) (by decide +kernel)
set_option maxRecDepth 20000 in
theorem gL_law_X5_margin : GoodIn wsL_law (wsV RL 130 RX5 yX5_margin wsX5_margin) := goodIn_app (goodIn_of _ (by decide +kernel)) ggL_law_X5_margin
set_option maxRecDepth 20000 in
theorem ggL_law_X4_work : GoodIn wsL_law wsX4_work := goodIn_r _ [552, 27, 102, 103, 2, 104, 553, 26, 554, 555, 70, 65, 66, 67, 68, 69, 556, 557, 558, 559, 658, 659, 660, 661, 662, 663, 664, 665, 699, 700, 701, 702, 703, 704] (by decide +kernel) (by decide +kernel)
set_option maxRecDepth 20000 in
theorem gL_law_X4_work : GoodIn wsL_law (wsV RL 131 RX4 yX4_work wsX4_work) := goodIn_app (goodIn_of _ (by decide +kernel)) ggL_law_X4_work
set_option maxRecDepth 20000 in
theorem ggL_law_X5_work : GoodIn wsL_law wsX5_work := goodIn_r _ [563, 564, 88, 89, 95, 96, 5, 97, 666, 667, 668, 669, 670, 671, 672, 673, 674, 675, 676, 677, 678, 679, 680, 681, 682, 683, 684, 685] (by decide +kernel) (by decide +kernel)
set_option maxRecDepth 20000 in
theorem gL_law_X5_work : GoodIn wsL_law (wsV RL 134 RX5 yX5_work wsX5_work) := goodIn_app (goodIn_of _ (by decide +kernel)) ggL_law_X5_work
set_option maxRecDepth 20000 in
theorem ggL_law_X4_best : GoodIn wsL_law wsX4_best := goodIn_r _ [568, 27, 102, 103, 2, 104, 569, 26, 570, 571, 70, 65, 67, 66, 68, 572, 573, 574, 575, 576, 577, 578, 154, 155, 156, 157, 32, 579, 580, 581, 658, 659, 660, 661, 662, 663, 664, 665, 699, 700, 701, 702, 703, 704] (by decide +kernel) (by decide +kernel)
set_option maxRecDepth 20000 in
theorem gL_law_X4_best : GoodIn wsL_law (wsV RL 135 RX4 yX4_best wsX4_best) := goodIn_app (goodIn_of _ (by decide +kernel)) ggL_law_X4_best
set_option maxRecDepth 20000 in
theorem ggL_law_X5_best : GoodIn wsL_law wsX5_best := goodIn_r _ [585, 564, 95, 96, 5, 97, 586, 587, 588, 589, 88, 89, 241, 242, 243, 244, 162, 666, 667, 668, 669, 670, 671, 672, 673, 674, 675, 676, 677, 678, 679, 680, 681, 682, 683, 684, 685] (by decide +kernel) (by decide +kernel)
set_option maxRecDepth 20000 in
theorem gL_law_X5_best : GoodIn wsL_law (wsV RL 138 RX5 yX5_best wsX5_best) := goodIn_app (goodIn_of _ (by decide +kernel)) ggL_law_X5_best
set_option maxRecDepth 20000 in
theorem ggL_law_X4_first : GoodIn wsL_law wsX4_first := goodIn_r _ [593, 27, 102, 103, 2, 104, 594, 26, 595, 596, 70, 69, 65, 154, 155, 156, 157, 32, 579, 580, 581, 66, 658, 659, 660, 661, 662, 663, 664, 665, 699, 700, 701, 702, 703, 704] (by decide +kernel) (by decide +kernel)
set_option maxRecDepth 20000 in
theorem gL_law_X4_first : GoodIn wsL_law (wsV RL 139 RX4 yX4_first wsX4_first) := goodIn_app (goodIn_of _ (by decide +kernel)) ggL_law_X4_first
set_option maxRecDepth 20000 in
theorem ggL_law_X5_first : GoodIn wsL_law wsX5_first := goodIn_r _ [600, 564, 89, 88, 95, 96, 5, 97, 586, 587, 588, 589, 241, 242, 243, 244, 162, 666, 667, 668, 669, 670, 671, 672, 673, 674, 675, 676, 677, 678, 679, 680, 681, 682, 683, 684, 685] (by decide +kernel) (by decide +kernel)
set_option maxRecDepth 20000 in
theorem gL_law_X5_first : GoodIn wsL_law (wsV RL 142 RX5 yX5_first wsX5_first) := goodIn_app (goodIn_of _ (by decide +kernel)) ggL_law_X5_first
set_option maxRecDepth 20000 in
theorem ggL_law_X4_asked : GoodIn wsL_law wsX4_asked := goodIn_r _ [604, 32, 658, 659, 660, 661, 662, 663, 664, 665] (by decide +kernel) (by decide +kernel)
set_option maxRecDepth 20000 in
theorem gL_law_X4_asked : GoodIn wsL_law (wsV RL 143 RX4 yX4_asked wsX4_asked) := goodIn_app (goodIn_of _ (by decide +kernel)) ggL_law_X4_asked
set_option maxRecDepth 20000 in
theorem ggL_law_X5_asked : GoodIn wsL_law wsX5_asked := goodIn_r _ [608, 162, 666, 667, 668, 669, 670, 671, 672, 673, 674, 675, 676, 677, 678, 679, 680, 681, 682, 683, 684, 685] (by decide +kernel) (by decide +kernel)
set_option maxRecDepth 20000 in
theorem gL_law_X5_asked : GoodIn wsL_law (wsV RL 147 RX5 yX5_asked wsX5_asked) := goodIn_app (goodIn_of _ (by decide +kernel)) ggL_law_X5_asked
set_option maxRecDepth 20000 in
theorem ggL_law_X4_count : GoodIn wsL_law wsX4_count := goodIn_r _ [612, 15, 19, 23, 27, 328, 14, 329, 330, 211, 212, 213, 214, 42, 215, 110, 111, 112, 48, 613, 22, 614, 615, 61, 658, 659, 660, 661, 662, 663, 664, 665, 686, 687, 688, 689, 690, 691, 692, 693, 694, 695, 696, 699, 700, 701, 702, 703, 704, 697, 698] (by decide +kernel) (by decide +kernel)
set_option maxRecDepth 20000 in
theorem gL_law_X4_count : GoodIn wsL_law (wsV RL 148 RX4 yX4_count wsX4_count) := goodIn_app (goodIn_of _ (by decide +kernel)) ggL_law_X4_count
set_option maxRecDepth 20000 in
theorem ggL_law_X5_count : GoodIn wsL_law wsX5_count := goodIn_r _ [619, 95, 96, 5, 97, 620, 621, 622, 623, 94, 81, 85, 261, 564, 666, 667, 668, 669, 670, 671, 672, 673, 674, 675, 676, 677, 678, 679, 680, 681, 682, 683, 684, 685] (by decide +kernel) (by decide +kernel)
set_option maxRecDepth 20000 in
theorem gL_law_X5_count : GoodIn wsL_law (wsV RL 151 RX5 yX5_count wsX5_count) := goodIn_app (goodIn_of _ (by decide +kernel)) ggL_law_X5_count
set_option maxRecDepth 20000 in
theorem ggL_law_X4_finding : GoodIn wsL_law wsX4_finding := goodIn_r _ [627, 31, 658, 659, 660, 661, 662, 663, 664, 665] (by decide +kernel) (by decide +kernel)
set_option maxRecDepth 20000 in
theorem gL_law_X4_finding : GoodIn wsL_law (wsV RL 152 RX4 yX4_finding wsX4_finding) := goodIn_app (goodIn_of _ (by decide +kernel)) ggL_law_X4_finding
set_option maxRecDepth 20000 in
theorem ggL_law_X5_finding : GoodIn wsL_law wsX5_finding := goodIn_r _ [631, 171, 666, 667, 668, 669, 670, 671, 672, 673, 674, 675, 676, 677, 678, 679, 680, 681, 682, 683, 684, 685] (by decide +kernel) (by decide +kernel)
set_option maxRecDepth 20000 in
theorem gL_law_X5_finding : GoodIn wsL_law (wsV RL 155 RX5 yX5_finding wsX5_finding) := goodIn_app (goodIn_of _ (by decide +kernel)) ggL_law_X5_finding
set_option maxRecDepth 20000 in
theorem ggL_law_X4_findings : GoodIn wsL_law wsX4_findings := goodIn_r _ [635, 30, 102, 103, 2, 104, 658, 659, 660, 661, 662, 663, 664, 665] (by decide +kernel) (by decide +kernel)
set_option maxRecDepth 20000 in
theorem gL_law_X4_findings : GoodIn wsL_law (wsV RL 156 RX4 yX4_findings wsX4_findings) := goodIn_app (goodIn_of _ (by decide +kernel)) ggL_law_X4_findings
set_option maxRecDepth 20000 in
theorem ggL_law_X5_findings : GoodIn wsL_law wsX5_findings := goodIn_r _ [639, 75, 95, 96, 5, 97, 666, 667, 668, 669, 670, 671, 672, 673, 674, 675, 676, 677, 678, 679, 680, 681, 682, 683, 684, 685] (by decide +kernel) (by decide +kernel)
set_option maxRecDepth 20000 in
theorem gL_law_X5_findings : GoodIn wsL_law (wsV RL 159 RX5 yX5_findings wsX5_findings) := goodIn_app (goodIn_of _ (by decide +kernel)) ggL_law_X5_findings
set_option maxRecDepth 20000 in
theorem ggL_law_X4_digest : GoodIn wsL_law wsX4_digest := goodIn_r _ [643, 644, 645, 15, 29, 23, 646, 610, 611, 2, 612, 19, 27, 328, 14, 329, 330, 211, 212, 213, 214, 42, 215, 110, 111, 112, 48, 613, 22, 614, 615, 61, 647, 181, 182, 183, 648, 649, 650, 651, 60, 658, 659, 660, 661, 662, 663, 664, 665, 686, 687, 688, 689, 690, 691, 692, 693, 694, 695, 696, 699, 700, 701, 702, 703, 704, 697, 698] (by decide +kernel) (by decide +kernel)
set_option maxRecDepth 20000 in
theorem gL_law_X4_digest : GoodIn wsL_law (wsV RL 160 RX4 yX4_digest wsX4_digest) := goodIn_app (goodIn_of _ (by decide +kernel)) ggL_law_X4_digest
set_option maxRecDepth 20000 in
theorem ggL_law_X5_digest : GoodIn wsL_law wsX5_digest := goodIn_r _ [655, 656, 657, 94, 77, 82, 85, 86, 620, 621, 622, 5, 623, 81, 261, 564, 188, 189, 190, 191, 76, 78, 79, 666, 667, 668, 669, 670, 671, 672, 673, 674, 675, 676, 677, 678, 679, 680, 681, 682, 683, 684, 685] (by decide +kernel) (by decide +kernel)
set_option maxRecDepth 20000 in
theorem gL_law_X5_digest : GoodIn wsL_law (wsV RL 163 RX5 yX5_digest wsX5_digest) := goodIn_app (goodIn_of _ (by decide +kernel)) ggL_law_X5_digest
