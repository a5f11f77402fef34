set_option maxRecDepth 20000 in
theorem gL_law_X7_clear : GoodIn wsL_law (wsV RL 41 RX7 yX7_clear wsX7_clear) := goodIn_app (goodIn_of _ (by decide +kernel)) ggL_law_X7_clear
set_option maxRecDepth 20000 in
theorem ggL_law_X6_pointAt : GoodIn wsL_law wsX6_pointAt := goodIn_r _ [267, 19, 268, 269, 270, 271, 272, 273, 18, 274, 247, 678, 679, 680, 681, 682, 683, 723, 724, 725, 726, 727, 728] (by decide +kernel) (by decide +kernel)
set_option maxRecDepth 20000 in
theorem gL_law_X6_pointAt : GoodIn wsL_law (wsV RL 42 RX6 yX6_pointAt wsX6_pointAt) := goodIn_app (goodIn_of _ (by decide +kernel)) ggL_law_X6_pointAt
set_option maxRecDepth 20000 in
theorem ggL_law_X7_pointAt : GoodIn wsL_law wsX7_pointAt := goodIn_r _ [278, 255, 149, 111, 112, 113, 157, 158, 5, 159, 684, 685, 686, 687, 688, 689, 690, 691, 692, 693, 694, 695, 696, 697, 698, 699, 700, 701, 702, 703, 704, 705, 706, 707, 708, 709, 710, 711] (by decide +kernel) (by decide +kernel)
set_option maxRecDepth 20000 in
theorem gL_law_X7_pointAt : GoodIn wsL_law (wsV RL 45 RX7 yX7_pointAt wsX7_pointAt) := goodIn_app (goodIn_of _ (by decide +kernel)) ggL_law_X7_pointAt
set_option maxRecDepth 20000 in
theorem ggL_law_X6_look : GoodIn wsL_law wsX6_look := goodIn_r _ [282, 15, 176, 35, 128, 283, 23, 19, 242, 164, 177, 178, 179, 14, 180, 61, 181, 182, 183, 184, 43, 185, 284, 285, 286, 22, 287, 138, 137, 288, 78, 77, 289, 290, 291, 292, 293, 294, 295, 296, 297, 298, 299, 2, 300, 270, 268, 269, 301, 271, 272, 273, 18, 274, 247, 302, 303, 304, 305, 306, 44, 45, 307, 206, 207, 208, 46, 209, 47, 210, 211, 212, 213, 214, 41, 215, 216, 56, 217, 218, 219, 220, 308, 309, 310, 311, 48, 49, 312, 313, 314, 315, 316, 317, 318, 319, 320, 321, 322, 323, 324, 325, 326, 327, 328, 329, 330, 331, 332, 67, 70, 333, 55, 57, 334, 59, 60, 68, 71, 678, 679, 680, 681, 682, 683, 712, 713, 714, 715, 716, 717, 718, 719, 720, 721, 722, 743, 744, 723, 724, 725, 726, 727, 728, 729, 730, 731, 732, 733] (by decide +kernel) (by decide +kernel)
set_option maxRecDepth 20000 in
theorem gL_law_X6_look : GoodIn wsL_law (wsV RL 46 RX6 yX6_look wsX6_look) := goodIn_app (goodIn_of _ (by decide +kernel)) ggL_law_X6_look
set_option maxRecDepth 20000 in
theorem ggL_law_X7_look : GoodIn wsL_law wsX7_look := goodIn_r _ [338, 103, 105, 156, 110, 154, 118, 116, 255, 111, 112, 113, 114, 115, 339, 157, 158, 5, 159, 194, 195, 196, 197, 229, 230, 231, 232, 104, 233, 107, 106, 149, 234, 235, 236, 237, 340, 341, 342, 343, 344, 345, 346, 347, 684, 685, 686, 687, 688, 689, 690, 691, 692, 693, 694, 695, 696, 697, 698, 699, 700, 701, 702, 703, 704, 705, 706, 707, 708, 709, 710, 711] (by decide +kernel) (by decide +kernel)
set_option maxRecDepth 20000 in
theorem gL_law_X7_look : GoodIn wsL_law (wsV RL 50 RX7 yX7_look wsX7_look) := goodIn_app (goodIn_of _ (by decide +kernel)) ggL_law_X7_look
set_option maxRecDepth 20000 in
theorem ggL_law_X6_sample : GoodIn wsL_law wsX6_sample := goodIn_r _ [351, 23, 15, 352, 353, 354, 355, 22, 356, 138, 177, 178, 179, 14, 180, 61, 129, 130, 2, 131, 357, 358, 359, 360, 77, 325, 326, 327, 328, 289, 290, 291, 292, 137, 293, 294, 295, 296, 678, 679, 680, 681, 682, 683, 729, 730, 731, 732, 733, 712, 713, 714, 715, 716, 717, 718, 719, 720, 721, 722] (by decide +kernel) (by decide +kernel)
set_option maxRecDepth 20000 in
theorem gL_law_X6_sample : GoodIn wsL_law (wsV RL 51 RX6 yX6_sample wsX6_sample) := goodIn_app (goodIn_of _ (by decide +kernel)) ggL_law_X6_sample
set_option maxRecDepth 20000 in
theorem ggL_law_X7_sample : GoodIn wsL_law wsX7_sample := goodIn_r _ [364, 103, 344, 365, 366, 367, 368, 5, 369, 154, 157, 158, 159, 370, 371, 372, 373, 118, 684, 685, 686, 687, 688, 689, 690, 691, 692, 693, 694, 695, 696, 697, 698, 699, 700, 701, 702, 703, 704, 705, 706, 707, 708, 709, 710, 711] (by decide +kernel) (by decide +kernel)
set_option maxRecDepth 20000 in
theorem gL_law_X7_sample : GoodIn wsL_law (wsV RL 54 RX7 yX7_sample wsX7_sample) := goodIn_app (goodIn_of _ (by decide +kernel)) ggL_law_X7_sample
set_option maxRecDepth 20000 in
theorem ggL_law_X6_window : GoodIn wsL_law wsX6_window := goodIn_r _ [377, 15, 378, 379, 129, 130, 2, 131, 678, 679, 680, 681, 682, 683, 712, 713, 714, 715, 716, 717, 718, 719, 720, 721, 722] (by decide +kernel) (by decide +kernel)
set_option maxRecDepth 20000 in
theorem gL_law_X6_window : GoodIn wsL_law (wsV RL 55 RX6 yX6_window wsX6_window) := goodIn_app (goodIn_of _ (by decide +kernel)) ggL_law_X6_window
set_option maxRecDepth 20000 in
theorem ggL_law_X7_window : GoodIn wsL_law wsX7_window := goodIn_r _ [383, 149, 384, 385, 108, 157, 158, 5, 159, 684, 685, 686, 687, 688, 689, 690, 691, 692, 693, 694, 695, 696, 697, 698, 699, 700, 701, 702, 703, 704, 705, 706, 707, 708, 709, 710, 711] (by decide +kernel) (by decide +kernel)
set_option maxRecDepth 20000 in
theorem gL_law_X7_window : GoodIn wsL_law (wsV RL 58 RX7 yX7_window wsX7_window) := goodIn_app (goodIn_of _ (by decide +kernel)) ggL_law_X7_window
set_option maxRecDepth 20000 in
theorem ggL_law_X6_weight : GoodIn wsL_law wsX6_weight := goodIn_r _ [389, 15, 177, 178, 179, 14, 180, 61, 202, 203, 2, 204, 129, 130, 131, 390, 309, 310, 311, 48, 49, 185, 312, 182, 183, 184, 43, 211, 212, 213, 214, 41, 215, 216, 56, 217, 678, 679, 680, 681, 682, 683, 712, 713, 714, 715, 716, 717, 718, 719, 720, 721, 722] (by decide +kernel) (by decide +kernel)
set_option maxRecDepth 20000 in
theorem gL_law_X6_weight : GoodIn wsL_law (wsV RL 59 RX6 yX6_weight wsX6_weight) := goodIn_app (goodIn_of _ (by decide +kernel)) ggL_law_X6_weight
set_option maxRecDepth 20000 in
theorem ggL_law_X7_weight : GoodIn wsL_law wsX7_weight := goodIn_r _ [394, 103, 157, 158, 5, 159, 225, 226, 227, 152, 153, 228, 395, 396, 397, 398, 105, 104, 108, 385, 684, 685, 686, 687, 688, 689, 690, 691, 692, 693, 694, 695, 696, 697, 698, 699, 700, 701, 702, 703, 704, 705, 706, 707, 708, 709, 710, 711] (by decide +kernel) (by decide +kernel)
set_option maxRecDepth 20000 in
theorem gL_law_X7_weight : GoodIn wsL_law (wsV RL 62 RX7 yX7_weight wsX7_weight) := goodIn_app (goodIn_of _ (by decide +kernel)) ggL_law_X7_weight
set_option maxRecDepth 20000 in
theorem ggL_law_X6_sum : GoodIn wsL_law wsX6_sum := goodIn_r _ [402, 23, 403, 15, 353, 354, 355, 22, 356, 138, 202, 203, 2, 204, 129, 130, 131, 302, 303, 304, 14, 305, 306, 61, 44, 45, 307, 206, 207, 208, 46, 209, 47, 210, 211, 212, 213, 214, 41, 215, 216, 56, 217, 185, 178, 179, 180, 218, 219, 220, 308, 309, 310, 311, 48, 49, 312, 182, 183, 184, 43, 404, 405, 406, 407, 301, 313, 314, 315, 316, 78, 289, 290, 291, 292, 137, 293, 294, 295, 296, 317, 318, 319, 320, 408, 409, 410, 411, 357, 358, 359, 360, 77, 325, 326, 327, 328, 678, 679, 680, 681, 682, 683, 729, 730, 731, 732, 733, 712, 713, 714, 715, 716, 717, 718, 719, 720, 721, 722] (by decide +kernel) (by decide +kernel)
set_option maxRecDepth 20000 in
theorem gL_law_X6_sum : GoodIn wsL_law (wsV RL 63 RX6 yX6_sum wsX6_sum) := goodIn_app (goodIn_of _ (by decide +kernel)) ggL_law_X6_sum
set_option maxRecDepth 20000 in
theorem ggL_law_X7_sum : GoodIn wsL_law wsX7_sum := goodIn_r _ [415, 416, 366, 367, 368, 5, 369, 154, 157, 158, 159, 225, 226, 227, 152, 153, 228, 417, 418, 419, 420, 116, 103, 229, 230, 231, 232, 104, 233, 107, 106, 149, 234, 235, 236, 237, 370, 371, 372, 373, 344, 118, 395, 396, 397, 398, 105, 108, 385, 684, 685, 686, 687, 688, 689, 690, 691, 692, 693, 694, 695, 696, 697, 698, 699, 700, 701, 702, 703, 704, 705, 706, 707, 708, 709, 710, 711] (by decide +kernel) (by decide +kernel)
set_option maxRecDepth 20000 in
theorem gL_law_X7_sum : GoodIn wsL_law (wsV RL 66 RX7 yX7_sum wsX7_sum) := goodIn_app (goodIn_of _ (by decide +kernel)) ggL_law_X7_sum
set_option maxRecDepth 20000 in
theorem ggL_law_X6_mean : GoodIn wsL_law wsX6_mean := goodIn_r _ [424, 403, 425, 426, 427, 2, 428, 23, 164, 202, 203, 204, 129, 130, 131, 429, 430, 431, 432, 15, 433, 302, 303, 304, 14, 305, 306, 61, 44, 45, 307, 206, 207, 208, 46, 209, 47, 210, 211, 212, 213, 214, 41, 215, 216, 56, 217, 185, 178, 179, 180, 218, 219, 220, 308, 309, 310, 311, 48, 49, 312, 182, 183, 184, 43, 404, 405, 406, 407, 301, 313, 314, 315, 22, 316, 78, 289, 290, 291, 292, 137, 293, 294, 295, 296, 317, 318, 319, 320, 408, 409, 410, 411, 357, 358, 359, 360, 77, 325, 326, 327, 328, 678, 679, 680, 681, 682, 683, 729, 730, 731, 732, 733, 712, 713, 714, 715, 716, 717, 718, 719, 720, 721, 722] (by decide +kernel) (by decide +kernel)
set_option maxRecDepth 20000 in
theorem gL_law_X6_mean : GoodIn wsL_law (wsV RL 67 RX6 yX6_mean wsX6_mean) := goodIn_app (goodIn_of _ (by decide +kernel)) ggL_law_X6_mean
