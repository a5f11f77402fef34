set_option maxRecDepth 20000 in
theorem wsL_law_in : ∀ w ∈ wsL_law, w ∈ lw_tbl := fun w h => (goodIn_p wsL_law [32, 35, 40, 45, 48, 51, 99, 128, 153, 176, 196, 557, 230, 233, 238, 242, 649, 654, 246, 661, 250, 254, 258, 263, 666, 670, 267, 270, 274, 278, 281, 286, 674, 677, 682, 686, 291, 295, 691, 299, 698, 303, 307, 702, 311, 315, 319, 322, 326, 330, 335, 340, 344, 348, 352, 356, 706, 710, 714, 362, 366, 371, 718, 722, 726, 375, 731, 379, 736, 740, 384, 389, 393, 744, 748, 397, 401, 405, 753, 757, 761, 409, 413, 417, 422, 426, 765, 770, 430, 434, 439, 443, 447, 774, 778, 451, 455, 782, 462, 787, 466, 470, 791, 795, 474, 478, 482, 486, 490, 494, 799, 498, 503, 804, 507, 511, 808, 813, 516, 818, 522, 822, 527, 531, 827, 535, 831, 539, 547, 551, 835] (by decide +kernel) (by decide +kernel) w h).1
theorem inlX0 : ∀ w ∈ wsX00, w ∈ wsL_law := fun _ h => List.mem_append_left _ (List.mem_append_left _ (List.mem_append_right _ h))
theorem inX0 : ∀ w ∈ wsX00, w ∈ lw_tbl := fun w h => wsL_law_in w (inlX0 w h)
theorem inlX1 : ∀ w ∈ wsX10, w ∈ wsL_law := fun _ h => List.mem_append_left _ (List.mem_append_left _ (List.mem_append_left _ (List.mem_append_left _ (List.mem_append_right _ h))))
theorem inX1 : ∀ w ∈ wsX10, w ∈ lw_tbl := fun w h => wsL_law_in w (inlX1 w h)
theorem inlX2 : ∀ w ∈ wsX20, w ∈ wsL_law := fun _ h => List.mem_append_left _ (List.mem_append_right _ h)
theorem inX2 : ∀ w ∈ wsX20, w ∈ lw_tbl := fun w h => wsL_law_in w (inlX2 w h)
theorem inlX3 : ∀ w ∈ wsX30, w ∈ wsL_law := fun _ h => List.mem_append_left _ (List.mem_append_left _ (List.mem_append_left _ (List.mem_append_left _ (List.mem_append_left _ (List.mem_append_left _ (List.mem_append_right _ h))))))
theorem inX3 : ∀ w ∈ wsX30, w ∈ lw_tbl := fun w h => wsL_law_in w (inlX3 w h)
theorem inlX4 : ∀ w ∈ wsX40, w ∈ wsL_law := fun _ h => List.mem_append_left _ (List.mem_append_left _ (List.mem_append_left _ (List.mem_append_right _ h)))
theorem inX4 : ∀ w ∈ wsX40, w ∈ lw_tbl := fun w h => wsL_law_in w (inlX4 w h)
theorem inlX5 : ∀ w ∈ wsX50, w ∈ wsL_law := fun _ h => List.mem_append_left _ (List.mem_append_left _ (List.mem_append_left _ (List.mem_append_left _ (List.mem_append_left _ (List.mem_append_right _ h)))))
theorem inX5 : ∀ w ∈ wsX50, w ∈ lw_tbl := fun w h => wsL_law_in w (inlX5 w h)
theorem inlX6 : ∀ w ∈ wsX60, w ∈ wsL_law := fun _ h => List.mem_append_left _ (List.mem_append_left _ (List.mem_append_left _ (List.mem_append_left _ (List.mem_append_left _ (List.mem_append_left _ (List.mem_append_left _ (List.mem_append_left _ (List.mem_append_right _ h))))))))
theorem inX6 : ∀ w ∈ wsX60, w ∈ lw_tbl := fun w h => wsL_law_in w (inlX6 w h)
theorem inlX7 : ∀ w ∈ wsX70, w ∈ wsL_law := fun _ h => List.mem_append_left _ (List.mem_append_left _ (List.mem_append_left _ (List.mem_append_left _ (List.mem_append_left _ (List.mem_append_left _ (List.mem_append_left _ (List.mem_append_right _ h)))))))
theorem inX7 : ∀ w ∈ wsX70, w ∈ lw_tbl := fun w h => wsL_law_in w (inlX7 w h)
theorem inJ9 : ∀ w ∈ wsJ90, w ∈ lw_tbl := by decide +kernel
set_option maxRecDepth 20000 in
theorem ggL_law_X6_init : GoodIn wsL_law wsX6_init := goodIn_r _ [8, 9, 10, 11, 12, 13, 14, 15, 16, 17, 18, 19, 20, 21, 22, 23, 24, 25, 26, 27, 28, 29, 30, 31, 32, 33, 34, 35, 36, 37, 38, 39, 40, 41, 42, 43, 44, 45, 46, 47, 48, 49, 50, 51, 52, 53, 54, 55, 56, 57, 58, 59, 60, 61, 62, 63, 64, 65, 66, 67, 68, 69, 70, 71, 72, 73, 74, 75, 76, 77, 78, 79, 80, 81, 82, 83, 84, 85, 86, 87, 88, 89, 90, 91, 92, 93, 94, 95, 96, 97, 98, 712, 713, 714, 715, 716, 717, 718, 719, 720, 721, 722, 678, 679, 680, 681, 682, 683, 723, 724, 725, 726, 727, 728, 729, 730, 731, 732, 733, 734, 735, 736, 737, 738, 739, 740, 741, 742, 743, 744] (by decide +kernel) (by decide +kernel)
set_option maxRecDepth 20000 in
theorem gL_law_X6_init : GoodIn wsL_law (wsX6_init) := ggL_law_X6_init
set_option maxRecDepth 20000 in
theorem ggL_law_X7_init : GoodIn wsL_law wsX7_init := goodIn_r _ [101, 102, 10, 11, 103, 40, 104, 42, 105, 106, 107, 108, 109, 110, 111, 112, 113, 114, 115, 116, 117, 118, 119, 120, 121, 122, 123, 684, 685, 686, 687, 688, 689, 690, 691, 692, 693, 694, 695, 696, 697, 698, 699, 700, 701, 702, 703, 704, 705, 706, 707, 708, 709, 710, 711] (by decide +kernel) (by decide +kernel)
set_option maxRecDepth 20000 in
theorem gL_law_X7_init : GoodIn wsL_law (wsX7_init) := ggL_law_X7_init
set_option maxRecDepth 20000 in
theorem ggL_law_X6_probe : GoodIn wsL_law wsX6_probe := goodIn_r _ [127, 15, 23, 27, 35, 128, 129, 130, 2, 131, 132, 51, 52, 14, 53, 54, 55, 56, 57, 58, 59, 60, 61, 62, 41, 43, 133, 134, 135, 22, 136, 137, 138, 139, 140, 141, 26, 142, 143, 144, 678, 679, 680, 681, 682, 683, 743, 744, 712, 713, 714, 715, 716, 717, 718, 719, 720, 721, 722, 729, 730, 731, 732, 733, 734, 735, 736, 737, 738] (by decide +kernel) (by decide +kernel)
set_option maxRecDepth 20000 in
theorem gL_law_X6_probe : GoodIn wsL_law (wsV RL 13 RX6 yX6_probe wsX6_probe) := goodIn_app (goodIn_of _ (by decide +kernel)) ggL_law_X6_probe
set_option maxRecDepth 20000 in
theorem ggL_law_X7_probe : GoodIn wsL_law wsX7_probe := goodIn_r _ [148, 149, 150, 151, 152, 153, 103, 104, 105, 154, 155, 156, 157, 158, 5, 159, 684, 685, 686, 687, 688, 689, 690, 691, 692, 693, 694, 695, 696, 697, 698, 699, 700, 701, 702, 703, 704, 705, 706, 707, 708, 709, 710, 711] (by decide +kernel) (by decide +kernel)
set_option maxRecDepth 20000 in
theorem gL_law_X7_probe : GoodIn wsL_law (wsV RL 17 RX7 yX7_probe wsX7_probe) := goodIn_app (goodIn_of _ (by decide +kernel)) ggL_law_X7_probe
set_option maxRecDepth 20000 in
theorem ggL_law_X6_pace : GoodIn wsL_law wsX6_pace := goodIn_r _ [163, 23, 164, 15, 165, 166, 129, 130, 2, 131, 678, 679, 680, 681, 682, 683, 729, 730, 731, 732, 733, 712, 713, 714, 715, 716, 717, 718, 719, 720, 721, 722] (by decide +kernel) (by decide +kernel)
set_option maxRecDepth 20000 in
theorem gL_law_X6_pace : GoodIn wsL_law (wsV RL 18 RX6 yX6_pace wsX6_pace) := goodIn_app (goodIn_of _ (by decide +kernel)) ggL_law_X6_pace
set_option maxRecDepth 20000 in
theorem ggL_law_X7_pace : GoodIn wsL_law wsX7_pace := goodIn_r _ [170, 171, 154, 106, 107, 157, 158, 5, 159, 684, 685, 686, 687, 688, 689, 690, 691, 692, 693, 694, 695, 696, 697, 698, 699, 700, 701, 702, 703, 704, 705, 706, 707, 708, 709, 710, 711] (by decide +kernel) (by decide +kernel)
set_option maxRecDepth 20000 in
theorem gL_law_X7_pace : GoodIn wsL_law (wsV RL 22 RX7 yX7_pace wsX7_pace) := goodIn_app (goodIn_of _ (by decide +kernel)) ggL_law_X7_pace
set_option maxRecDepth 20000 in
theorem ggL_law_X6_dead : GoodIn wsL_law wsX6_dead := goodIn_r _ [175, 15, 176, 177, 178, 179, 14, 180, 61, 181, 182, 183, 184, 43, 185, 186, 187, 188, 189, 62, 678, 679, 680, 681, 682, 683, 712, 713, 714, 715, 716, 717, 718, 719, 720, 721, 722] (by decide +kernel) (by decide +kernel)
set_option maxRecDepth 20000 in
theorem gL_law_X6_dead : GoodIn wsL_law (wsV RL 23 RX6 yX6_dead wsX6_dead) := goodIn_app (goodIn_of _ (by decide +kernel)) ggL_law_X6_dead
set_option maxRecDepth 20000 in
theorem ggL_law_X7_dead : GoodIn wsL_law wsX7_dead := goodIn_r _ [193, 103, 105, 157, 158, 5, 159, 194, 195, 196, 197, 684, 685, 686, 687, 688, 689, 690, 691, 692, 693, 694, 695, 696, 697, 698, 699, 700, 701, 702, 703, 704, 705, 706, 707, 708, 709, 710, 711] (by decide +kernel) (by decide +kernel)
set_option maxRecDepth 20000 in
theorem gL_law_X7_dead : GoodIn wsL_law (wsV RL 27 RX7 yX7_dead wsX7_dead) := goodIn_app (goodIn_of _ (by decide +kernel)) ggL_law_X7_dead
set_option maxRecDepth 20000 in
theorem ggL_law_X6_delay : GoodIn wsL_law wsX6_delay := goodIn_r _ [201, 15, 177, 178, 179, 14, 180, 61, 202, 203, 2, 204, 129, 130, 131, 205, 206, 207, 208, 46, 209, 47, 210, 211, 212, 213, 214, 41, 215, 216, 56, 217, 185, 218, 219, 220, 678, 679, 680, 681, 682, 683, 712, 713, 714, 715, 716, 717, 718, 719, 720, 721, 722] (by decide +kernel) (by decide +kernel)
set_option maxRecDepth 20000 in
theorem gL_law_X6_delay : GoodIn wsL_law (wsV RL 28 RX6 yX6_delay wsX6_delay) := goodIn_app (goodIn_of _ (by decide +kernel)) ggL_law_X6_delay
set_option maxRecDepth 20000 in
theorem ggL_law_X7_delay : GoodIn wsL_law wsX7_delay := goodIn_r _ [224, 103, 157, 158, 5, 159, 225, 226, 227, 152, 153, 228, 229, 230, 231, 232, 104, 233, 107, 106, 149, 234, 235, 236, 237, 684, 685, 686, 687, 688, 689, 690, 691, 692, 693, 694, 695, 696, 697, 698, 699, 700, 701, 702, 703, 704, 705, 706, 707, 708, 709, 710, 711] (by decide +kernel) (by decide +kernel)
set_option maxRecDepth 20000 in
theorem gL_law_X7_delay : GoodIn wsL_law (wsV RL 31 RX7 yX7_delay wsX7_delay) := goodIn_app (goodIn_of _ (by decide +kernel)) ggL_law_X7_delay
set_option maxRecDepth 20000 in
theorem ggL_law_X6_point : GoodIn wsL_law wsX6_point := goodIn_r _ [241, 19, 242, 202, 203, 2, 204, 129, 130, 131, 243, 244, 245, 18, 246, 247, 67, 68, 69, 70, 71, 678, 679, 680, 681, 682, 683, 723, 724, 725, 726, 727, 728] (by decide +kernel) (by decide +kernel)
set_option maxRecDepth 20000 in
theorem gL_law_X6_point : GoodIn wsL_law (wsV RL 32 RX6 yX6_point wsX6_point) := goodIn_app (goodIn_of _ (by decide +kernel)) ggL_law_X6_point
set_option maxRecDepth 20000 in
theorem ggL_law_X7_point : GoodIn wsL_law wsX7_point := goodIn_r _ [251, 252, 253, 254, 151, 255, 111, 112, 113, 114, 115, 225, 226, 5, 227, 152, 153, 228, 157, 158, 159, 684, 685, 686, 687, 688, 689, 690, 691, 692, 693, 694, 695, 696, 697, 698, 699, 700, 701, 702, 703, 704, 705, 706, 707, 708, 709, 710, 711] (by decide +kernel) (by decide +kernel)
set_option maxRecDepth 20000 in
theorem gL_law_X7_point : GoodIn wsL_law (wsV RL 36 RX7 yX7_point wsX7_point) := goodIn_app (goodIn_of _ (by decide +kernel)) ggL_law_X7_point
set_option maxRecDepth 20000 in
theorem ggL_law_X6_clear : GoodIn wsL_law wsX6_clear := goodIn_r _ [259, 19, 242, 678, 679, 680, 681, 682, 683, 723, 724, 725, 726, 727, 728] (by decide +kernel) (by decide +kernel)
set_option maxRecDepth 20000 in
theorem gL_law_X6_clear : GoodIn wsL_law (wsV RL 37 RX6 yX6_clear wsX6_clear) := goodIn_app (goodIn_of _ (by decide +kernel)) ggL_law_X6_clear
set_option maxRecDepth 20000 in
theorem ggL_law_X7_clear : GoodIn wsL_law wsX7_clear := goodIn_r _ [263, 255, 684, 685, 686, 687, 688, 689, 690, 691, 692, 693, 694, 695, 696, 697, 698, 699, 700, 701, 702, 703, 704, 705, 706, 707, 708, 709, 710, 711] (by decide +kernel) (by decide +kernel)
set_option maxRecDepth 20000 in
theorem gL_law_X7_clear : GoodIn wsL_law (wsV RL 41 RX7 yX7_clear wsX7_clear) := goodIn_app (goodIn_of _ (by decide +kernel)) ggL_law_X7_clear
set_option maxRecDepth 20000 in
theorem ggL_law_X6_pointAt : GoodIn wsL_law wsX6_pointAt := goodIn_r _ [267, 19, 268, 269, 270, 271, 272, 273, 18, 274, 247, 678, 679, 680, 681, 682, 683, 723, 724, 725, 726, 727, 728] (by decide +kernel) (by decide +kernel)
set_option maxRecDepth 20000 in
theorem gL_law_X6_pointAt : GoodIn wsL_law (wsV RL 42 RX6 yX6_pointAt wsX6_pointAt) := goodIn_app (goodIn_of _ (by decide +kernel)) ggL_law_X6_pointAt
set_option maxRecDepth 20000 in
theorem ggL_law_X7_pointAt : GoodIn wsL_law wsX7_pointAt := goodIn_r _ [278, 255, 149, 111, 112, 113, 157, 158, 5, 159, 684, 685, 686, 687, 688, 689, 690, 691, 692, 693, 694, 695, 696, 697, 698, 699, 700, 701, 702, 703, 704, 705, 706, 707, 708, 709, 710, 711] (by decide +kernel) (by decide +kernel)
set_option maxRecDepth 20000 in
theorem gL_law_X7_pointAt : GoodIn wsL_law (wsV RL 45 RX7 yX7_pointAt wsX7_pointAt) := goodIn_app (goodIn_of _ (by decide +kernel)) ggL_law_X7_pointAt
set_option maxRecDepth 20000 in
theorem ggL_law_X6_look : GoodIn wsL_law wsX6_look := goodIn_r _ [282, 15, 176, 35, 128, 283, 23, 19, 242, 164, 177, 178, 179, 14, 180, 61, 181, 182, 183, 184, 43, 185, 284, 285, 286, 22, 287, 138, 137, 288, 78, 77, 289, 290, 291, 292, 293, 294, 295, 296, 297, 298, 299, 2, 300, 270, 268, 269, 301, 271, 272, 273, 18, 274, 247, 302, 303, 304, 305, 306, 44, 45, 307, 206, 207, 208, 46, 209, 47, 210, 211, 212, 213, 214, 41, 215, 216, 56, 217, 218, 219, 220, 308, 309, 310, 311, 48, 49, 312, 313, 314, 315, 316, 317, 318, 319, 320, 321, 322, 323, 324, 325, 326, 327, 328, 329, 330, 331, 332, 67, 70, 333, 55, 57, 334, 59, 60, 68, 71, 678, 679, 680, 681, 682, 683, 712, 713, 714, 715, 716, 717, 718, 719, 720, 721, 722, 743, 744, 723, 724, 725, 726, 727, 728, 729, 730, 731, 732, 733] (by decide +kernel) (by decide +kernel)
set_option maxRecDepth 20000 in
theorem gL_law_X6_look : GoodIn wsL_law (wsV RL 46 RX6 yX6_look wsX6_look) := goodIn_app (goodIn_of _ (by decide +kernel)) ggL_law_X6_look
set_option maxRecDepth 20000 in
theorem ggL_law_X7_look : GoodIn wsL_law wsX7_look := goodIn_r _ [338, 103, 105, 156, 110, 154, 118, 116, 255, 111, 112, 113, 114, 115, 339, 157, 158, 5, 159, 194, 195, 196, 197, 229, 230, 231, 232, 104, 233, 107, 106, 149, 234, 235, 236, 237, 340, 341, 342, 343, 344, 345, 346, 347, 684, 685, 686, 687, 688, 689, 690, 691, 692, 693, 694, 695, 696, 697, 698, 699, 700, 701, 702, 703, 704, 705, 706, 707, 708, 709, 710, 711] (by decide +kernel) (by decide +kernel)
set_option maxRecDepth 20000 in
theorem gL_law_X7_look : GoodIn wsL_law (wsV RL 50 RX7 yX7_look wsX7_look) := goodIn_app (goodIn_of _ (by decide +kernel)) ggL_law_X7_look
set_option maxRecDepth 20000 in
theorem ggL_law_X6_sample : GoodIn wsL_law wsX6_sample := goodIn_r _ [351, 23, 15, 352, 353, 354, 355, 22, 356, 138, 177, 178, 179, 14, 180, 61, 129, 130, 2, 131, 357, 358, 359, 360, 77, 325, 326, 327, 328, 289, 290, 291, 292, 137, 293, 294, 295, 296, 678, 679, 680, 681, 682, 683, 729, 730, 731, 732, 733, 712, 713, 714, 715, 716, 717, 718, 719, 720, 721, 722] (by decide +kernel) (by decide +kernel)
set_option maxRecDepth 20000 in
theorem gL_law_X6_sample : GoodIn wsL_law (wsV RL 51 RX6 yX6_sample wsX6_sample) := goodIn_app (goodIn_of _ (by decide +kernel)) ggL_law_X6_sample
set_option maxRecDepth 20000 in
theorem ggL_law_X7_sample : GoodIn wsL_law wsX7_sample := goodIn_r _ [364, 103, 344, 365, 366, 367, 368, 5, 369, 154, 157, 158, 159, 370, 371, 372, 373, 118, 684, 685, 686, 687, 688, 689, 690, 691, 692, 693, 694, 695, 696, 697, 698, 699, 700, 701, 702, 703, 704, 705, 706, 707, 708, 709, 710, 711] (by decide +kernel) (by decide +kernel)
set_option maxRecDepth 20000 in
theorem gL_law_X7_sample : GoodIn wsL_law (wsV RL 54 RX7 yX7_sample wsX7_sample) := goodIn_app (goodIn_of _ (by decide +kernel)) ggL_law_X7_sample
set_option maxRecDepth 20000 in
theorem ggL_law_X6_window : GoodIn wsL_law wsX6_window := goodIn_r _ [377, 15, 378, 379, 129, 130, 2, 131, 678, 679, 680, 681, 682, 683, 712, 713, 714, 715, 716, 717, 718, 719, 720, 721, 722] (by decide +kernel) (by decide +kernel)
set_option maxRecDepth 20000 in
theorem gL_law_X6_window : GoodIn wsL_law (wsV RL 55 RX6 yX6_window wsX6_window) := goodIn_app (goodIn_of _ (by decide +kernel)) ggL_law_X6_window
set_option maxRecDepth 20000 in
theorem ggL_law_X7_window : GoodIn wsL_law wsX7_window := goodIn_r _ [383, 149, 384, 385, 108, 157, 158, 5, 159, 684, 685, 686, 687, 688, 689, 690, 691, 692, 693, 694, 695, 696, 697, 698, 699, 700, 701, 702, 703, 704, 705, 706, 707, 708, 709, 710, 711] (by decide +kernel) (by decide +kernel)
set_option maxRecDepth 20000 in
theorem gL_law_X7_window : GoodIn wsL_law (wsV RL 58 RX7 yX7_window wsX7_window) := goodIn_app (goodIn_of _ (by decide +kernel)) ggL_law_X7_window
set_option maxRecDepth 20000 in
theorem ggL_law_X6_weight : GoodIn wsL_law wsX6_weight := goodIn_r _ [389, 15, 177, 178, 179, 14, 180, 61, 202, 203, 2, 204, 129, 130, 131, 390, 309, 310, 311, 48, 49, 185, 312, 182, 183, 184, 43, 211, 212, 213, 214, 41, 215, 216, 56, 217, 678, 679, 680, 681, 682, 683, 712, 713, 714, 715, 716, 717, 718, 719, 720, 721, 722] (by decide +kernel) (by decide +kernel)
set_option maxRecDepth 20000 in
theorem gL_law_X6_weight : GoodIn wsL_law (wsV RL 59 RX6 yX6_weight wsX6_weight) := goodIn_app (goodIn_of _ (by decide +kernel)) ggL_law_X6_weight
set_option maxRecDepth 20000 in
theorem ggL_law_X7_weight : GoodIn wsL_law wsX7_weight := goodIn_r _ [394, 103, 157, 158, 5, 159, 225, 226, 227, 152, 153, 228, 395, 396, 397, 398, 105, 104, 108, 385, 684, 685, 686, 687, 688, 689, 690, 691, 692, 693, 694, 695, 696, 697, 698, 699, 700, 701, 702, 703, 704, 705, 706, 707, 708, 709, 710, 711] (by decide +kernel) (by decide +kernel)
set_option maxRecDepth 20000 in
theorem gL_law_X7_weight : GoodIn wsL_law (wsV RL 62 RX7 yX7_weight wsX7_weight) := goodIn_app (goodIn_of _ (by decide +kernel)) ggL_law_X7_weight
set_option maxRecDepth 20000 in
theorem ggL_law_X6_sum : GoodIn wsL_law wsX6_sum := goodIn_r _ [402, 23, 403, 15, 353, 354, 355, 22, 356, 138, 202, 203, 2, 204, 129, 130, 131, 302, 303, 304, 14, 305, 306, 61, 44, 45, 307, 206, 207, 208, 46, 209, 47, 210, 211, 212, 213, 214, 41, 215, 216, 56, 217, 185, 178, 179, 180, 218, 219, 220, 308, 309, 310, 311, 48, 49, 312, 182, 183, 184, 43, 404, 405, 406, 407, 301, 313, 314, 315, 316, 78, 289, 290, 291, 292, 137, 293, 294, 295, 296, 317, 318, 319, 320, 408, 409, 410, 411, 357, 358, 359, 360, 77, 325, 326, 327, 328, 678, 679, 680, 681, 682, 683, 729, 730, 731, 732, 733, 712, 713, 714, 715, 716, 717, 718, 719, 720, 721, 722] (by decide +kernel) (by decide +kernel)
set_option maxRecDepth 20000 in
theorem gL_law_X6_sum : GoodIn wsL_law (wsV RL 63 RX6 yX6_sum wsX6_sum) := goodIn_app (goodIn_of _ (by decide +kernel)) ggL_law_X6_sum
set_option maxRecDepth 20000 in
theorem ggL_law_X7_sum : GoodIn wsL_law wsX7_sum := goodIn_r _ [415, 416, 366, 367, 368, 5, 369, 154, 157, 158, 159, 225, 226, 227, 152, 153, 228, 417, 418, 419, 420, 116, 103, 229, 230, 231, 232, 104, 233, 107, 106, 149, 234, 235, 236, 237, 370, 371, 372, 373, 344, 118, 395, 396, 397, 398, 105, 108, 385, 684, 685, 686, 687, 688, 689, 690, 691, 692, 693, 694, 695, 696, 697, 698, 699, 700, 701, 702, 703, 704, 705, 706, 707, 708, 709, 710, 711] (by decide +kernel) (by decide +kernel)
set_option maxRecDepth 20000 in
theorem gL_law_X7_sum : GoodIn wsL_law (wsV RL 66 RX7 yX7_sum wsX7_sum) := goodIn_app (goodIn_of _ (by decide +kernel)) ggL_law_X7_sum
set_option maxRecDepth 20000 in
theorem ggL_law_X6_mean : GoodIn wsL_law wsX6_mean := goodIn_r _ [424, 403, 425, 426, 427, 2, 428, 23, 164, 202, 203, 204, 129, 130, 131, 429, 430, 431, 432, 15, 433, 302, 303, 304, 14, 305, 306, 61, 44, 45, 307, 206, 207, 208, 46, 209, 47, 210, 211, 212, 213, 214, 41, 215, 216, 56, 217, 185, 178, 179, 180, 218, 219, 220, 308, 309, 310, 311, 48, 49, 312, 182, 183, 184, 43, 404, 405, 406, 407, 301, 313, 314, 315, 22, 316, 78, 289, 290, 291, 292, 137, 293, 294, 295, 296, 317, 318, 319, 320, 408, 409, 410, 411, 357, 358, 359, 360, 77, 325, 326, 327, 328, 678, 679, 680, 681, 682, 683, 729, 730, 731, 732, 733, 712, 713, 714, 715, 716, 717, 718, 719, 720, 721, 722] (by decide +kernel) (by decide +kernel)
set_option maxRecDepth 20000 in
theorem gL_law_X6_mean : GoodIn wsL_law (wsV RL 67 RX6 yX6_mean wsX6_mean) := goodIn_app (goodIn_of _ (by decide +kernel)) ggL_law_X6_mean
set_option maxRecDepth 20000 in
theorem ggL_law_X7_mean : GoodIn wsL_law wsX7_mean := goodIn_r _ [437, 416, 438, 439, 440, 5, 441, 154, 225, 226, 227, 152, 153, 228, 157, 158, 159, 442, 443, 444, 445, 103, 417, 418, 419, 420, 116, 229, 230, 231, 232, 104, 233, 107, 106, 149, 234, 235, 236, 237, 370, 371, 372, 373, 344, 118, 395, 396, 397, 398, 105, 108, 385, 684, 685, 686, 687, 688, 689, 690, 691, 692, 693, 694, 695, 696, 697, 698, 699, 700, 701, 702, 703, 704, 705, 706, 707, 708, 709, 710, 711] (by decide +kernel) (by decide +kernel)
set_option maxRecDepth 20000 in
theorem gL_law_X7_mean : GoodIn wsL_law (wsV RL 70 RX7 yX7_mean wsX7_mean) := goodIn_app (goodIn_of _ (by decide +kernel)) ggL_law_X7_mean
set_option maxRecDepth 20000 in
theorem ggL_law_X6_picture : GoodIn wsL_law wsX6_picture := goodIn_r _ [449, 27, 450, 425, 426, 427, 2, 428, 23, 164, 202, 203, 204, 129, 130, 131, 451, 452, 453, 26, 454, 144, 143, 84, 85, 455, 456, 457, 458, 459, 294, 295, 296, 429, 430, 431, 432, 15, 433, 302, 303, 304, 14, 305, 306, 61, 44, 45, 307, 206, 207, 208, 46, 209, 47, 210, 211, 212, 213, 214, 41, 215, 216, 56, 217, 185, 178, 179, 180, 218, 219, 220, 308, 309, 310, 311, 48, 49, 312, 182, 183, 184, 43, 404, 405, 406, 407, 301, 313, 314, 315, 22, 316, 78, 289, 290, 291, 292, 137, 293, 317, 318, 319, 320, 408, 409, 410, 411, 357, 358, 359, 360, 77, 325, 326, 327, 328, 460, 461, 462, 463, 83, 464, 465, 466, 467, 678, 679, 680, 681, 682, 683, 734, 735, 736, 737, 738, 729, 730, 731, 732, 733, 712, 713, 714, 715, 716, 717, 718, 719, 720, 721, 722] (by decide +kernel) (by decide +kernel)
set_option maxRecDepth 20000 in
theorem gL_law_X6_picture : GoodIn wsL_law (wsV RL 71 RX6 yX6_picture wsX6_picture) := goodIn_app (goodIn_of _ (by decide +kernel)) ggL_law_X6_picture
set_option maxRecDepth 20000 in
theorem ggL_law_X7_picture : GoodIn wsL_law wsX7_picture := goodIn_r _ [471, 472, 150, 119, 120, 121, 155, 438, 439, 440, 5, 441, 154, 225, 226, 227, 152, 153, 228, 157, 158, 159, 473, 474, 475, 476, 442, 443, 444, 445, 103, 417, 418, 419, 420, 116, 229, 230, 231, 232, 104, 233, 107, 106, 149, 234, 235, 236, 237, 370, 371, 372, 373, 344, 118, 395, 396, 397, 398, 105, 108, 385, 684, 685, 686, 687, 688, 689, 690, 691, 692, 693, 694, 695, 696, 697, 698, 699, 700, 701, 702, 703, 704, 705, 706, 707, 708, 709, 710, 711] (by decide +kernel) (by decide +kernel)
set_option maxRecDepth 20000 in
theorem gL_law_X7_picture : GoodIn wsL_law (wsV RL 75 RX7 yX7_picture wsX7_picture) := goodIn_app (goodIn_of _ (by decide +kernel)) ggL_law_X7_picture
set_option maxRecDepth 20000 in
theorem ggL_law_X6_pixel : GoodIn wsL_law wsX6_pixel := goodIn_r _ [480, 27, 403, 481, 482, 483, 26, 484, 144, 485, 456, 457, 458, 143, 459, 294, 295, 296, 486, 487, 488, 489, 84, 464, 465, 466, 467, 129, 130, 2, 131, 490, 491, 492, 493, 85, 494, 495, 496, 497, 83, 678, 679, 680, 681, 682, 683, 734, 735, 736, 737, 738] (by decide +kernel) (by decide +kernel)
set_option maxRecDepth 20000 in
theorem gL_law_X6_pixel : GoodIn wsL_law (wsV RL 76 RX6 yX6_pixel wsX6_pixel) := goodIn_app (goodIn_of _ (by decide +kernel)) ggL_law_X6_pixel
set_option maxRecDepth 20000 in
theorem ggL_law_X7_pixel : GoodIn wsL_law wsX7_pixel := goodIn_r _ [501, 119, 120, 121, 416, 502, 503, 504, 5, 505, 155, 157, 158, 159, 684, 685, 686, 687, 688, 689, 690, 691, 692, 693, 694, 695, 696, 697, 698, 699, 700, 701, 702, 703, 704, 705, 706, 707, 708, 709, 710, 711] (by decide +kernel) (by decide +kernel)
set_option maxRecDepth 20000 in
theorem gL_law_X7_pixel : GoodIn wsL_law (wsV RL 79 RX7 yX7_pixel wsX7_pixel) := goodIn_app (goodIn_of _ (by decide +kernel)) ggL_law_X7_pixel
set_option maxRecDepth 20000 in
theorem ggL_law_X6_about : GoodIn wsL_law wsX6_about := goodIn_r _ [509, 27, 481, 482, 483, 26, 484, 144, 485, 456, 457, 458, 143, 459, 294, 295, 296, 486, 487, 488, 489, 84, 464, 465, 466, 467, 490, 491, 492, 493, 85, 510, 511, 512, 513, 514, 515, 516, 495, 496, 497, 83, 494, 678, 679, 680, 681, 682, 683, 734, 735, 736, 737, 738] (by decide +kernel) (by decide +kernel)
set_option maxRecDepth 20000 in
theorem gL_law_X6_about : GoodIn wsL_law (wsV RL 80 RX6 yX6_about wsX6_about) := goodIn_app (goodIn_of _ (by decide +kernel)) ggL_law_X6_about
set_option maxRecDepth 20000 in
theorem ggL_law_X7_about : GoodIn wsL_law wsX7_about := goodIn_r _ [520, 521, 119, 120, 121, 502, 503, 504, 5, 505, 155, 157, 158, 159, 684, 685, 686, 687, 688, 689, 690, 691, 692, 693, 694, 695, 696, 697, 698, 699, 700, 701, 702, 703, 704, 705, 706, 707, 708, 709, 710, 711] (by decide +kernel) (by decide +kernel)
set_option maxRecDepth 20000 in
theorem gL_law_X7_about : GoodIn wsL_law (wsV RL 83 RX7 yX7_about wsX7_about) := goodIn_app (goodIn_of _ (by decide +kernel)) ggL_law_X7_about
set_option maxRecDepth 20000 in
theorem ggL_law_X6_differ : GoodIn wsL_law wsX6_differ := goodIn_r _ [525, 27, 450, 481, 482, 483, 26, 484, 144, 485, 456, 457, 458, 143, 459, 294, 295, 296, 486, 487, 488, 489, 84, 464, 465, 466, 467, 490, 491, 492, 493, 85, 451, 452, 453, 454, 455, 494, 495, 496, 497, 83, 460, 461, 462, 463, 678, 679, 680, 681, 682, 683, 734, 735, 736, 737, 738] (by decide +kernel) (by decide +kernel)
set_option maxRecDepth 20000 in
theorem gL_law_X6_differ : GoodIn wsL_law (wsV RL 84 RX6 yX6_differ wsX6_differ) := goodIn_app (goodIn_of _ (by decide +kernel)) ggL_law_X6_differ
set_option maxRecDepth 20000 in
theorem ggL_law_X7_differ : GoodIn wsL_law wsX7_differ := goodIn_r _ [529, 119, 120, 122, 121, 155, 502, 503, 504, 5, 505, 157, 158, 159, 473, 474, 475, 476, 684, 685, 686, 687, 688, 689, 690, 691, 692, 693, 694, 695, 696, 697, 698, 699, 700, 701, 702, 703, 704, 705, 706, 707, 708, 709, 710, 711] (by decide +kernel) (by decide +kernel)
set_option maxRecDepth 20000 in
theorem gL_law_X7_differ : GoodIn wsL_law (wsV RL 87 RX7 yX7_differ wsX7_differ) := goodIn_app (goodIn_of _ (by decide +kernel)) ggL_law_X7_differ
set_option maxRecDepth 20000 in
theorem ggL_law_X6_turn : GoodIn wsL_law wsX6_turn := goodIn_r _ [533, 23, 15, 353, 354, 355, 22, 356, 138, 202, 203, 2, 204, 129, 130, 131, 313, 314, 315, 316, 78, 289, 290, 291, 292, 137, 293, 294, 295, 296, 302, 303, 304, 14, 305, 306, 61, 44, 45, 307, 206, 207, 208, 46, 209, 47, 210, 211, 212, 213, 214, 41, 215, 216, 56, 217, 185, 178, 179, 180, 218, 219, 220, 308, 309, 310, 311, 48, 49, 312, 182, 183, 184, 43, 534, 535, 536, 537, 301, 317, 318, 319, 320, 357, 358, 359, 360, 77, 325, 326, 327, 328, 678, 679, 680, 681, 682, 683, 729, 730, 731, 732, 733, 712, 713, 714, 715, 716, 717, 718, 719, 720, 721, 722] (by decide +kernel) (by decide +kernel)
set_option maxRecDepth 20000 in
theorem gL_law_X6_turn : GoodIn wsL_law (wsV RL 88 RX6 yX6_turn wsX6_turn) := goodIn_app (goodIn_of _ (by decide +kernel)) ggL_law_X6_turn
set_option maxRecDepth 20000 in
theorem ggL_law_X7_turn : GoodIn wsL_law wsX7_turn := goodIn_r _ [541, 116, 366, 367, 368, 5, 369, 154, 157, 158, 159, 225, 226, 227, 152, 153, 228, 542, 543, 544, 545, 103, 229, 230, 231, 232, 104, 233, 107, 106, 149, 234, 235, 236, 237, 370, 371, 372, 373, 344, 118, 684, 685, 686, 687, 688, 689, 690, 691, 692, 693, 694, 695, 696, 697, 698, 699, 700, 701, 702, 703, 704, 705, 706, 707, 708, 709, 710, 711] (by decide +kernel) (by decide +kernel)
set_option maxRecDepth 20000 in
theorem gL_law_X7_turn : GoodIn wsL_law (wsV RL 92 RX7 yX7_turn wsX7_turn) := goodIn_app (goodIn_of _ (by decide +kernel)) ggL_law_X7_turn
set_option maxRecDepth 20000 in
theorem ggL_law_X6_fan : GoodIn wsL_law wsX6_fan := goodIn_r _ [549, 23, 31, 353, 354, 355, 22, 356, 138, 129, 130, 2, 131, 550, 551, 552, 30, 553, 554, 555, 91, 556, 557, 558, 559, 560, 561, 562, 563, 429, 430, 431, 432, 15, 164, 433, 202, 203, 204, 302, 303, 304, 14, 305, 306, 61, 44, 45, 307, 206, 207, 208, 46, 209, 47, 210, 211, 212, 213, 214, 41, 215, 216, 56, 217, 185, 178, 179, 180, 218, 219, 220, 308, 309, 310, 311, 48, 49, 312, 182, 183, 184, 43, 404, 405, 406, 407, 301, 313, 314, 315, 316, 78, 289, 290, 291, 292, 137, 293, 294, 295, 296, 317, 318, 319, 320, 408, 409, 410, 411, 357, 358, 359, 360, 77, 325, 326, 327, 328, 564, 565, 566, 567, 90, 568, 569, 570, 571, 678, 679, 680, 681, 682, 683, 729, 730, 731, 732, 733, 739, 740, 741, 742, 712, 713, 714, 715, 716, 717, 718, 719, 720, 721, 722] (by decide +kernel) (by decide +kernel)
set_option maxRecDepth 20000 in
theorem gL_law_X6_fan : GoodIn wsL_law (wsV RL 93 RX6 yX6_fan wsX6_fan) := goodIn_app (goodIn_of _ (by decide +kernel)) ggL_law_X6_fan
set_option maxRecDepth 20000 in
theorem ggL_law_X7_fan : GoodIn wsL_law wsX7_fan := goodIn_r _ [575, 149, 384, 150, 576, 577, 578, 579, 123, 366, 367, 368, 5, 369, 154, 157, 158, 159, 225, 226, 227, 152, 153, 228, 442, 443, 444, 445, 103, 417, 418, 419, 420, 116, 229, 230, 231, 232, 104, 233, 107, 106, 234, 235, 236, 237, 370, 371, 372, 373, 344, 118, 395, 396, 397, 398, 105, 108, 385, 684, 685, 686, 687, 688, 689, 690, 691, 692, 693, 694, 695, 696, 697, 698, 699, 700, 701, 702, 703, 704, 705, 706, 707, 708, 709, 710, 711] (by decide +kernel) (by decide +kernel)
set_option maxRecDepth 20000 in
theorem gL_law_X7_fan : GoodIn wsL_law (wsV RL 96 RX7 yX7_fan wsX7_fan) := goodIn_app (goodIn_of _ (by decide +kernel)) ggL_law_X7_fan
set_option maxRecDepth 20000 in
theorem ggL_law_X6_fanAt : GoodIn wsL_law wsX6_fanAt := goodIn_r _ [583, 31, 403, 584, 569, 570, 30, 571, 554, 555, 585, 586, 587, 588, 90, 568, 678, 679, 680, 681, 682, 683, 739, 740, 741, 742] (by decide +kernel) (by decide +kernel)
set_option maxRecDepth 20000 in
theorem gL_law_X6_fanAt : GoodIn wsL_law (wsV RL 97 RX6 yX6_fanAt wsX6_fanAt) := goodIn_app (goodIn_of _ (by decide +kernel)) ggL_law_X6_fanAt
set_option maxRecDepth 20000 in
theorem ggL_law_X7_fanAt : GoodIn wsL_law wsX7_fanAt := goodIn_r _ [592, 577, 578, 123, 416, 157, 158, 5, 159, 684, 685, 686, 687, 688, 689, 690, 691, 692, 693, 694, 695, 696, 697, 698, 699, 700, 701, 702, 703, 704, 705, 706, 707, 708, 709, 710, 711] (by decide +kernel) (by decide +kernel)
set_option maxRecDepth 20000 in
theorem gL_law_X7_fanAt : GoodIn wsL_law (wsV RL 100 RX7 yX7_fanAt wsX7_fanAt) := goodIn_app (goodIn_of _ (by decide +kernel)) ggL_law_X7_fanAt
set_option maxRecDepth 20000 in
theorem ggL_law_X6_board : GoodIn wsL_law wsX6_board := goodIn_r _ [596, 403, 31, 597, 129, 130, 2, 131, 598, 599, 600, 30, 601, 91, 554, 555, 560, 561, 562, 563, 602, 586, 587, 588, 90, 568, 569, 570, 571, 678, 679, 680, 681, 682, 683, 739, 740, 741, 742] (by decide +kernel) (by decide +kernel)
set_option maxRecDepth 20000 in
theorem gL_law_X6_board : GoodIn wsL_law (wsV RL 101 RX6 yX6_board wsX6_board) := goodIn_app (goodIn_of _ (by decide +kernel)) ggL_law_X6_board
set_option maxRecDepth 20000 in
theorem ggL_law_X7_board : GoodIn wsL_law wsX7_board := goodIn_r _ [606, 149, 607, 472, 577, 416, 579, 578, 608, 157, 158, 5, 159, 609, 610, 611, 612, 123, 684, 685, 686, 687, 688, 689, 690, 691, 692, 693, 694, 695, 696, 697, 698, 699, 700, 701, 702, 703, 704, 705, 706, 707, 708, 709, 710, 711] (by decide +kernel) (by decide +kernel)
set_option maxRecDepth 20000 in
theorem gL_law_X7_board : GoodIn wsL_law (wsV RL 104 RX7 yX7_board wsX7_board) := goodIn_app (goodIn_of _ (by decide +kernel)) ggL_law_X7_board
set_option maxRecDepth 20000 in
theorem ggL_law_X6_caliper : GoodIn wsL_law wsX6_caliper := goodIn_r _ [616, 617, 216, 56, 217, 202, 203, 2, 204, 129, 130, 131, 618, 218, 219, 220] (by decide +kernel) (by decide +kernel)
set_option maxRecDepth 20000 in
theorem gL_law_X6_caliper : GoodIn wsL_law (wsV RL 105 RX6 yX6_caliper wsX6_caliper) := goodIn_app (goodIn_of _ (by decide +kernel)) ggL_law_X6_caliper
set_option maxRecDepth 20000 in
theorem ggL_law_X7_caliper : GoodIn wsL_law wsX7_caliper := goodIn_r _ [622, 225, 226, 5, 227, 152, 153, 228, 157, 158, 159, 234, 235, 236, 237, 149] (by decide +kernel) (by decide +kernel)
set_option maxRecDepth 20000 in
theorem gL_law_X7_caliper : GoodIn wsL_law (wsV RL 108 RX7 yX7_caliper wsX7_caliper) := goodIn_app (goodIn_of _ (by decide +kernel)) ggL_law_X7_caliper
set_option maxRecDepth 20000 in
theorem ggL_law_X6_cap : GoodIn wsL_law wsX6_cap := goodIn_r _ [626, 627, 35, 283, 129, 130, 2, 131, 678, 679, 680, 681, 682, 683, 743, 744] (by decide +kernel) (by decide +kernel)
set_option maxRecDepth 20000 in
theorem gL_law_X6_cap : GoodIn wsL_law (wsV RL 109 RX6 yX6_cap wsX6_cap) := goodIn_app (goodIn_of _ (by decide +kernel)) ggL_law_X6_cap
set_option maxRecDepth 20000 in
theorem ggL_law_X7_cap : GoodIn wsL_law wsX7_cap := goodIn_r _ [631, 632, 110, 157, 158, 5, 159, 684, 685, 686, 687, 688, 689, 690, 691, 692, 693, 694, 695, 696, 697, 698, 699, 700, 701, 702, 703, 704, 705, 706, 707, 708, 709, 710, 711] (by decide +kernel) (by decide +kernel)
set_option maxRecDepth 20000 in
theorem gL_law_X7_cap : GoodIn wsL_law (wsV RL 112 RX7 yX7_cap wsX7_cap) := goodIn_app (goodIn_of _ (by decide +kernel)) ggL_law_X7_cap
set_option maxRecDepth 20000 in
theorem ggL_law_X6_tick : GoodIn wsL_law wsX6_tick := goodIn_r _ [636, 35, 128, 129, 130, 2, 131, 637, 638, 639, 34, 640, 96, 678, 679, 680, 681, 682, 683, 743, 744] (by decide +kernel) (by decide +kernel)
set_option maxRecDepth 20000 in
theorem gL_law_X6_tick : GoodIn wsL_law (wsV RL 113 RX6 yX6_tick wsX6_tick) := goodIn_app (goodIn_of _ (by decide +kernel)) ggL_law_X6_tick
set_option maxRecDepth 20000 in
theorem ggL_law_X7_tick : GoodIn wsL_law wsX7_tick := goodIn_r _ [644, 171, 156, 157, 158, 5, 159, 684, 685, 686, 687, 688, 689, 690, 691, 692, 693, 694, 695, 696, 697, 698, 699, 700, 701, 702, 703, 704, 705, 706, 707, 708, 709, 710, 711] (by decide +kernel) (by decide +kernel)
set_option maxRecDepth 20000 in
theorem gL_law_X7_tick : GoodIn wsL_law (wsV RL 116 RX7 yX7_tick wsX7_tick) := goodIn_app (goodIn_of _ (by decide +kernel)) ggL_law_X7_tick
set_option maxRecDepth 20000 in
theorem ggL_law_X6_count : GoodIn wsL_law wsX6_count := goodIn_r _ [648, 15, 301, 176, 19, 242, 23, 164, 27, 450, 35, 128, 649, 678, 679, 680, 681, 682, 683, 712, 713, 714, 715, 716, 717, 718, 719, 720, 721, 722, 723, 724, 725, 726, 727, 728, 729, 730, 731, 732, 733, 734, 735, 736, 737, 738, 743, 744] (by decide +kernel) (by decide +kernel)
set_option maxRecDepth 20000 in
theorem gL_law_X6_count : GoodIn wsL_law (wsV RL 117 RX6 yX6_count wsX6_count) := goodIn_app (goodIn_of _ (by decide +kernel)) ggL_law_X6_count
set_option maxRecDepth 20000 in
theorem ggL_law_X7_count : GoodIn wsL_law wsX7_count := goodIn_r _ [653, 103, 255, 154, 155, 156, 339, 194, 195, 196, 5, 197, 105, 684, 685, 686, 687, 688, 689, 690, 691, 692, 693, 694, 695, 696, 697, 698, 699, 700, 701, 702, 703, 704, 705, 706, 707, 708, 709, 710, 711] (by decide +kernel) (by decide +kernel)
set_option maxRecDepth 20000 in
theorem gL_law_X7_count : GoodIn wsL_law (wsV RL 120 RX7 yX7_count wsX7_count) := goodIn_app (goodIn_of _ (by decide +kernel)) ggL_law_X7_count
set_option maxRecDepth 20000 in
theorem ggL_law_X6_digest : GoodIn wsL_law wsX6_digest := goodIn_r _ [657, 658, 659, 19, 242, 23, 164, 15, 301, 27, 660, 646, 647, 2, 648, 176, 450, 35, 128, 649, 661, 265, 266, 267, 268, 269, 270, 271, 272, 273, 18, 274, 247, 313, 314, 315, 22, 316, 78, 289, 290, 291, 292, 137, 293, 294, 295, 296, 662, 663, 664, 665, 77, 325, 326, 327, 328, 666, 667, 668, 26, 669, 144, 670, 455, 456, 457, 458, 143, 459, 514, 487, 488, 489, 84, 464, 465, 466, 467, 515, 491, 492, 493, 85, 516, 495, 496, 497, 83, 678, 679, 680, 681, 682, 683, 723, 724, 725, 726, 727, 728, 729, 730, 731, 732, 733, 712, 713, 714, 715, 716, 717, 718, 719, 720, 721, 722, 734, 735, 736, 737, 738, 743, 744] (by decide +kernel) (by decide +kernel)
set_option maxRecDepth 20000 in
theorem gL_law_X6_digest : GoodIn wsL_law (wsV RL 121 RX6 yX6_digest wsX6_digest) := goodIn_app (goodIn_of _ (by decide +kernel)) ggL_law_X6_digest
set_option maxRecDepth 20000 in
theorem ggL_law_X7_digest : GoodIn wsL_law wsX7_digest := goodIn_r _ [674, 675, 676, 255, 111, 112, 154, 116, 103, 155, 119, 120, 121, 677, 651, 652, 5, 653, 156, 339, 194, 195, 196, 197, 105, 370, 371, 372, 373, 344, 118, 157, 158, 159, 684, 685, 686, 687, 688, 689, 690, 691, 692, 693, 694, 695, 696, 697, 698, 699, 700, 701, 702, 703, 704, 705, 706, 707, 708, 709, 710, 711] (by decide +kernel) (by decide +kernel)
set_option maxRecDepth 20000 in
theorem gL_law_X7_digest : GoodIn wsL_law (wsV RL 125 RX7 yX7_digest wsX7_digest) := goodIn_app (goodIn_of _ (by decide +kernel)) ggL_law_X7_digest
