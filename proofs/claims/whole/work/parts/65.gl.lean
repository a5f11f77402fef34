set_option maxRecDepth 20000 in
theorem ggL_law_X6_init : GoodIn wsL_law wsX6_init := goodIn_r _ [8, 9, 10, 11, 12, 13, 14, 15, 16, 17, 18, 19, 20, 21, 22, 23, 24, 25, 26, 27, 28, 29, 30, 31, 32, 33, 34, 35, 36, 37, 38, 39, 40, 41, 42, 43, 44, 45, 46, 47, 48, 49, 50, 51, 52, 53, 54, 55, 56, 57, 58, 59, 60, 61, 62, 63, 64, 65, 66, 67, 68, 69, 70, 71, 72, 73, 74, 75, 76, 77, 78, 79, 80, 81, 82, 83, 84, 85, 86, 87, 88, 89, 90, 91, 92, 93, 94, 95, 96, 97, 98, 712, 713, 714, 715, 716, 717, 718, 719, 720, 721, 722, 678, 679, 680, 681, 682, 683, 723, 724, 725, 726, 727, 728, 729, 730, 731, 732, 733, 734, 735, 736, 737, 738, 739, 740, 741, 742, 743, 744] (by decide +kernel) (by decide +kernel)
set_option maxRecDepth 20000 in
theorem gL_law_X6_init : GoodIn wsL_law (wsX6_init) := ggL_law_X6_init
set_option maxRecDepth 20000 in
theorem ggL_law_X7_init : GoodIn wsL_law wsX7_init := goodIn_r _ [101, 102, 10, 11, 103, 40, 104, 42, 105, 106, 107, 108, 109, 110, 111, 112, 113, 114, 115, 116, 117, 118, 119, 120, 121, 122, 123, 684, 685, 686, 687, 688, 689, 690, 691, 692, 693, 694, 695, 696, 697, 698, 699, 700, 701, 702, 703, 704, 705, 706, 707, 708, 709, 710, 711] (by decide +kernel) (by decide +kernel)
set_option maxRecDepth 20000 in
theorem gL_law_X7_init : GoodIn wsL_law (wsX7_init) := ggL_law_X7_init
set_option maxRecDepth 20000 in
theorem ggL_law_X6_probe : GoodIn wsL_law wsX6_probe := goodIn_r _ [127, 15, 23, 27, 35, 128, 129, 130, 2, 131, 132, 51, 52, 14, 53, 54, 55, 56, 57, 58, 59, 60, 61, 62, 41, 43, 133, 134, 135, 22, 136, 137, 138, 139, 140, 141, 26, 142, 143, 144, 678, 679, 680, 681, 682, 683, 743, 744, 712, 713, 714, 715, 716, 717, 718, 719, 720, 721, 722, 729, 730, 731, 732, 733, 734, 735, 736, 737, 738] (by decide +kernel) (by decide +kernel)
set_option maxRecDepth 20000 in
theorem gL_law_X6_probe : GoodIn wsL_law (wsV RL 13 RX6 yX6_probe wsX6_probe) := goodIn_app (goodIn_of _ (by decide +kernel)) ggL_law_X6_probe
set_option maxRecDepth 20000 in
theorem ggL_law_X7_probe : GoodIn wsL_law wsX7_probe := goodIn_r _ [148, 149, 150, 151, 152, 153, 103, 104, 105, 154, 155, 156, 157, 158, 5, 159, 684, 685, 686, 687, 688, 689, 690, 691, 692, 693, 694, 695, 696, 697, 698, 699, 700, 701, 702, 703, 704, 705, 706, 707, 708, 709, 710, 711] (by decide +kernel) (by decide +kernel)
set_option maxRecDepth 20000 in
theorem gL_law_X7_probe : GoodIn wsL_law (wsV RL 17 RX7 yX7_probe wsX7_probe) := goodIn_app (goodIn_of _ (by decide +kernel)) ggL_law_X7_probe
set_option maxRecDepth 20000 in
theorem ggL_law_X6_pace : GoodIn wsL_law wsX6_pace := goodIn_r _ [163, 23, 164, 15, 165, 166, 129, 130, 2, 131, 678, 679, 680, 681, 682, 683, 729, 730, 731, 732, 733, 712, 713, 714, 715, 716, 717, 718, 719, 720, 721, 722] (by decide +kernel) (by decide +kernel)
set_option maxRecDepth 20000 in
theorem gL_law_X6_pace : GoodIn wsL_law (wsV RL 18 RX6 yX6_pace wsX6_pace) := goodIn_app (goodIn_of _ (by decide +kernel)) ggL_law_X6_pace
set_option maxRecDepth 20000 in
theorem ggL_law_X7_pace : GoodIn wsL_law wsX7_pace := goodIn_r _ [170, 171, 154, 106, 107, 157, 158, 5, 159, 684, 685, 686, 687, 688, 689, 690, 691, 692, 693, 694, 695, 696, 697, 698, 699, 700, 701, 702, 703, 704, 705, 706, 707, 708, 709, 710, 711] (by decide +kernel) (by decide +kernel)
set_option maxRecDepth 20000 in
theorem gL_law_X7_pace : GoodIn wsL_law (wsV RL 22 RX7 yX7_pace wsX7_pace) := goodIn_app (goodIn_of _ (by decide +kernel)) ggL_law_X7_pace
set_option maxRecDepth 20000 in
theorem ggL_law_X6_dead : GoodIn wsL_law wsX6_dead := goodIn_r _ [175, 15, 176, 177, 178, 179, 14, 180, 61, 181, 182, 183, 184, 43, 185, 186, 187, 188, 189, 62, 678, 679, 680, 681, 682, 683, 712, 713, 714, 715, 716, 717, 718, 719, 720, 721, 722] (by decide +kernel) (by decide +kernel)
set_option maxRecDepth 20000 in
theorem gL_law_X6_dead : GoodIn wsL_law (wsV RL 23 RX6 yX6_dead wsX6_dead) := goodIn_app (goodIn_of _ (by decide +kernel)) ggL_law_X6_dead
set_option maxRecDepth 20000 in
theorem ggL_law_X7_dead : GoodIn wsL_law wsX7_dead := goodIn_r _ [193, 103, 105, 157, 158, 5, 159, 194, 195, 196, 197, 684, 685, 686, 687, 688, 689, 690, 691, 692, 693, 694, 695, 696, 697, 698, 699, 700, 701, 702, 703, 704, 705, 706, 707, 708, 709, 710, 711] (by decide +kernel) (by decide +kernel)
set_option maxRecDepth 20000 in
theorem gL_law_X7_dead : GoodIn wsL_law (wsV RL 27 RX7 yX7_dead wsX7_dead) := goodIn_app (goodIn_of _ (by decide +kernel)) ggL_law_X7_dead
set_option maxRecDepth 20000 in
theorem ggL_law_X6_delay : GoodIn wsL_law wsX6_delay := goodIn_r _ [201, 15, 177, 178, 179, 14, 180, 61, 202, 203, 2, 204, 129, 130, 131, 205, 206, 207, 208, 46, 209, 47, 210, 211, 212, 213, 214, 41, 215, 216, 56, 217, 185, 218, 219, 220, 678, 679, 680, 681, 682, 683, 712, 713, 714, 715, 716, 717, 718, 719, 720, 721, 722] (by decide +kernel) (by decide +kernel)
set_option maxRecDepth 20000 in
theorem gL_law_X6_delay : GoodIn wsL_law (wsV RL 28 RX6 yX6_delay wsX6_delay) := goodIn_app (goodIn_of _ (by decide +kernel)) ggL_law_X6_delay
set_option maxRecDepth 20000 in
theorem ggL_law_X7_delay : GoodIn wsL_law wsX7_delay := goodIn_r _ [224, 103, 157, 158, 5, 159, 225, 226, 227, 152, 153, 228, 229, 230, 231, 232, 104, 233, 107, 106, 149, 234, 235, 236, 237, 684, 685, 686, 687, 688, 689, 690, 691, 692, 693, 694, 695, 696, 697, 698, 699, 700, 701, 702, 703, 704, 705, 706, 707, 708, 709, 710, 711] (by decide +kernel) (by decide +kernel)
set_option maxRecDepth 20000 in
theorem gL_law_X7_delay : GoodIn wsL_law (wsV RL 31 RX7 yX7_delay wsX7_delay) := goodIn_app (goodIn_of _ (by decide +kernel)) ggL_law_X7_delay
set_option maxRecDepth 20000 in
theorem ggL_law_X6_point : GoodIn wsL_law wsX6_point := goodIn_r _ [241, 19, 242, 202, 203, 2, 204, 129, 130, 131, 243, 244, 245, 18, 246, 247, 67, 68, 69, 70, 71, 678, 679, 680, 681, 682, 683, 723, 724, 725, 726, 727, 728] (by decide +kernel) (by decide +kernel)
set_option maxRecDepth 20000 in
theorem gL_law_X6_point : GoodIn wsL_law (wsV RL 32 RX6 yX6_point wsX6_point) := goodIn_app (goodIn_of _ (by decide +kernel)) ggL_law_X6_point
set_option maxRecDepth 20000 in
theorem ggL_law_X7_point : GoodIn wsL_law wsX7_point := goodIn_r _ [251, 252, 253, 254, 151, 255, 111, 112, 113, 114, 115, 225, 226, 5, 227, 152, 153, 228, 157, 158, 159, 684, 685, 686, 687, 688, 689, 690, 691, 692, 693, 694, 695, 696, 697, 698, 699, 700, 701, 702, 703, 704, 705, 706, 707, 708, 709, 710, 711] (by decide +kernel) (by decide +kernel)
set_option maxRecDepth 20000 in
theorem gL_law_X7_point : GoodIn wsL_law (wsV RL 36 RX7 yX7_point wsX7_point) := goodIn_app (goodIn_of _ (by decide +kernel)) ggL_law_X7_point
set_option maxRecDepth 20000 in
theorem ggL_law_X6_clear : GoodIn wsL_law wsX6_clear := goodIn_r _ [259, 19, 242, 678, 679, 680, 681, 682, 683, 723, 724, 725, 726, 727, 728] (by decide +kernel) (by decide +kernel)
set_option maxRecDepth 20000 in
theorem gL_law_X6_clear : GoodIn wsL_law (wsV RL 37 RX6 yX6_clear wsX6_clear) := goodIn_app (goodIn_of _ (by decide +kernel)) ggL_law_X6_clear
set_option maxRecDepth 20000 in
theorem ggL_law_X7_clear : GoodIn wsL_law wsX7_clear := goodIn_r _ [263, 255, 684, 685, 686, 687, 688, 689, 690, 691, 692, 693, 694, 695, 696, 697, 698, 699, 700, 701, 702, 703, 704, 705, 706, 707, 708, 709, 710, 711] (by decide +kernel) (by decide +kernel)
