set_option maxRecDepth 20000 in
theorem gL_law_X6_fanAt : GoodIn wsL_law (wsV RL 97 RX6 yX6_fanAt wsX6_fanAt) := goodIn_app (goodIn_of _ (by decide +kernel)) ggL_law_X6_fanAt
set_option maxRecDepth 20000 in
theorem ggL_law_X7_fanAt : GoodIn wsL_law wsX7_fanAt := goodIn_r _ [592, 577, 578, 123, 416, 157, 158, 5, 159, 684, 685, 686, 687, 688, 689, 690, 691, 692, 693, 694, 695, 696, 697, 698, 699, 700, 701, 702, 703, 704, 705, 706, 707, 708, 709, 710, 711] (by decide +kernel) (by decide +kernel)
set_option maxRecDepth 20000 in
theorem gL_law_X7_fanAt : GoodIn wsL_law (wsV RL 100 RX7 yX7_fanAt wsX7_fanAt) := goodIn_app (goodIn_of _ (by decide +kernel)) ggL_law_X7_fanAt
set_option maxRecDepth 20000 in
theorem ggL_law_X6_board : GoodIn wsL_law wsX6_board := goodIn_r _ [596, 403, 31, 597, 129, 130, 2, 131, 598, 599, 600, 30, 601, 91, 554, 555, 560, 561, 562, 563, 602, 586, 587, 588, 90, 568, 569, 570, 571, 678, 679, 680, 681, 682, 683, 739, 740, 741, 742] (by decide +kernel) (by decide +kernel)
set_option maxRecDepth 20000 in
theorem gL_law_X6_board : GoodIn wsL_law (wsV RL 101 RX6 yX6_board wsX6_board) := goodIn_app (goodIn_of _ (by decide +kernel)) ggL_law_X6_board
set_option maxRecDepth 20000 in
theorem ggL_law_X7_board : GoodIn wsL_law wsX7_board := goodIn_r _ [606, 149, 607, 472, 577, 416, 579, 578, 608, 157, 158, 5, 159, 609, 610, 611, 612, 123, 684, 685, 686, 687, 688, 689, 690, 691, 692, 693, 694, 695, 696, 697, 698, 699, 700, 701, 702, 703, 704, 705, 706, 707, 708, 709, 710, 711] (by decide +kernel) (by decide +kernel)
set_option maxRecDepth 20000 in
theorem gL_law_X7_board : GoodIn wsL_law (wsV RL 104 RX7 yX7_board wsX7_board) := goodIn_app (goodIn_of _ (by decide +kernel)) ggL_law_X7_board
set_option maxRecDepth 20000 in
theorem ggL_law_X6_caliper : GoodIn wsL_law wsX6_caliper := goodIn_r _ [616, 617, 216, 56, 217, 202, 203, 2, 204, 129, 130, 131, 618, 218, 219, 220] (by decide +kernel) (by decide +kernel)
set_option maxRecDepth 20000 in
theorem gL_law_X6_caliper : GoodIn wsL_law (wsV RL 105 RX6 yX6_caliper wsX6_caliper) := goodIn_app (goodIn_of _ (by decide +kernel)) ggL_law_X6_caliper
set_option maxRecDepth 20000 in
theorem ggL_law_X7_caliper : GoodIn wsL_law wsX7_caliper := goodIn_r _ [622, 225, 226, 5, 227, 152, 153, 228, 157, 158, 159, 234, 235, 236, 237, 149] (by decide +kernel) (by decide +kernel)
set_option maxRecDepth 20000 in
theorem gL_law_X7_caliper : GoodIn wsL_law (wsV RL 108 RX7 yX7_caliper wsX7_caliper) := goodIn_app (goodIn_of _ (by decide +kernel)) ggL_law_X7_caliper
set_option maxRecDepth 20000 in
theorem ggL_law_X6_cap : GoodIn wsL_law wsX6_cap := goodIn_r _ [626, 627, 35, 283, 129, 130, 2, 131, 678, 679, 680, 681, 682, 683, 743, 744] (by decide +kernel) (by decide +kernel)
set_option maxRecDepth 20000 in
theorem gL_law_X6_cap : GoodIn wsL_law (wsV RL 109 RX6 yX6_cap wsX6_cap) := goodIn_app (goodIn_of _ (by decide +kernel)) ggL_law_X6_cap
set_option maxRecDepth 20000 in
theorem ggL_law_X7_cap : GoodIn wsL_law wsX7_cap := goodIn_r _ [631, 632, 110, 157, 158, 5, 159, 684, 685, 686, 687, 688, 689, 690, 691, 692, 693, 694, 695, 696, 697, 698, 699, 700, 701, 702, 703, 704, 705, 706, 707, 708, 709, 710, 711] (by decide +kernel) (by decide +kernel)
set_option maxRecDepth 20000 in
theorem gL_law_X7_cap : GoodIn wsL_law (wsV RL 112 RX7 yX7_cap wsX7_cap) := goodIn_app (goodIn_of _ (by decide +kernel)) ggL_law_X7_cap
set_option maxRecDepth 20000 in
theorem ggL_law_X6_tick : GoodIn wsL_law wsX6_tick := goodIn_r _ [636, 35, 128, 129, 130, 2, 131, 637, 638, 639, 34, 640, 96, 678, 679, 680, 681, 682, 683, 743, 744] (by decide +kernel) (by decide +kernel)
set_option maxRecDepth 20000 in
theorem gL_law_X6_tick : GoodIn wsL_law (wsV RL 113 RX6 yX6_tick wsX6_tick) := goodIn_app (goodIn_of _ (by decide +kernel)) ggL_law_X6_tick
set_option maxRecDepth 20000 in
theorem ggL_law_X7_tick : GoodIn wsL_law wsX7_tick := goodIn_r _ [644, 171, 156, 157, 158, 5, 159, 684, 685, 686, 687, 688, 689, 690, 691, 692, 693, 694, 695, 696, 697, 698, 699, 700, 701, 702, 703, 704, 705, 706, 707, 708, 709, 710, 711] (by decide +kernel) (by decide +kernel)
set_option maxRecDepth 20000 in
theorem gL_law_X7_tick : GoodIn wsL_law (wsV RL 116 RX7 yX7_tick wsX7_tick) := goodIn_app (goodIn_of _ (by decide +kernel)) ggL_law_X7_tick
set_option maxRecDepth 20000 in
theorem ggL_law_X6_count : GoodIn wsL_law wsX6_count := goodIn_r _ [648, 15, 301, 176, 19, 242, 23, 164, 27, 450, 35, 128, 649, 678, 679, 680, 681, 682, 683, 712, 713, 714, 715, 716, 717, 718, 719, 720, 721, 722, 723, 724, 725, 726, 727, 728, 729, 730, 731, 732, 733, 734, 735, 736, 737, 738, 743, 744] (by decide +kernel) (by decide +kernel)
set_option maxRecDepth 20000 in
theorem gL_law_X6_count : GoodIn wsL_law (wsV RL 117 RX6 yX6_count wsX6_count) := goodIn_app (goodIn_of _ (by decide +kernel)) ggL_law_X6_count
set_option maxRecDepth 20000 in
theorem ggL_law_X7_count : GoodIn wsL_law wsX7_count := goodIn_r _ [653, 103, 255, 154, 155, 156, 339, 194, 195, 196, 5, 197, 105, 684, 685, 686, 687, 688, 689, 690, 691, 692, 693, 694, 695, 696, 697, 698, 699, 700, 701, 702, 703, 704, 705, 706, 707, 708, 709, 710, 711] (by decide +kernel) (by decide +kernel)
set_option maxRecDepth 20000 in
theorem gL_law_X7_count : GoodIn wsL_law (wsV RL 120 RX7 yX7_count wsX7_count) := goodIn_app (goodIn_of _ (by decide +kernel)) ggL_law_X7_count
set_option maxRecDepth 20000 in
theorem ggL_law_X6_digest : GoodIn wsL_law wsX6_digest := goodIn_r _ [657, 658, 659, 19, 242, 23, 164, 15, 301, 27, 660, 646, 647, 2, 648, 176, 450, 35, 128, 649, 661, 265, 266, 267, 268, 269, 270, 271, 272, 273, 18, 274, 247, 313, 314, 315, 22, 316, 78, 289, 290, 291, 292, 137, 293, 294, 295, 296, 662, 663, 664, 665, 77, 325, 326, 327, 328, 666, 667, 668, 26, 669, 144, 670, 455, 456, 457, 458, 143, 459, 514, 487, 488, 489, 84, 464, 465, 466, 467, 515, 491, 492, 493, 85, 516, 495, 496, 497, 83, 678, 679, 680, 681, 682, 683, 723, 724, 725, 726, 727, 728, 729, 730, 731, 732, 733, 712, 713, 714, 715, 716, 717, 718, 719, 720, 721, 722, 734, 735, 736, 737, 738, 743, 744] (by decide +kernel) (by decide +kernel)
set_option maxRecDepth 20000 in
theorem gL_law_X6_digest : GoodIn wsL_law (wsV RL 121 RX6 yX6_digest wsX6_digest) := goodIn_app (goodIn_of _ (by decide +kernel)) ggL_law_X6_digest
set_option maxRecDepth 20000 in
theorem ggL_law_X7_digest : GoodIn wsL_law wsX7_digest := goodIn_r _ [674, 675, 676, 255, 111, 112, 154, 116, 103, 155, 119, 120, 121, 677, 651, 652, 5, 653, 156, 339, 194, 195, 196, 197, 105, 370, 371, 372, 373, 344, 118, 157, 158, 159, 684, 685, 686, 687, 688, 689, 690, 691, 692, 693, 694, 695, 696, 697, 698, 699, 700, 701, 702, 703, 704, 705, 706, 707, 708, 709, 710, 711] (by decide +kernel) (by decide +kernel)
set_option maxRecDepth 20000 in
theorem gL_law_X7_digest : GoodIn wsL_law (wsV RL 125 RX7 yX7_digest wsX7_digest) := goodIn_app (goodIn_of _ (by decide +kernel)) ggL_law_X7_digest
