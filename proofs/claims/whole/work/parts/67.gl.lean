set_option maxRecDepth 20000 in
theorem ggL_law_X7_mean : GoodIn wsL_law wsX7_mean := goodIn_r _ [437, 416, 438, 439, 440, 5, 441, 154, 225, 226, 227, 152, 153, 228, 157, 158, 159, 442, 443, 444, 445, 103, 417, 418, 419, 420, 116, 229, 230, 231, 232, 104, 233, 107, 106, 149, 234, 235, 236, 237, 370, 371, 372, 373, 344, 118, 395, 396, 397, 398, 105, 108, 385, 684, 685, 686, 687, 688, 689, 690, 691, 692, 693, 694, 695, 696, 697, 698, 699, 700, 701, 702, 703, 704, 705, 706, 707, 708, 709, 710, 711] (by decide +kernel) (by decide +kernel)
set_option maxRecDepth 20000 in
theorem gL_law_X7_mean : GoodIn wsL_law (wsV RL 70 RX7 yX7_mean wsX7_mean) := goodIn_app (goodIn_of _ (by decide +kernel)) ggL_law_X7_mean
set_option maxRecDepth 20000 in
theorem ggL_law_X6_picture : GoodIn wsL_law wsX6_picture := goodIn_r _ [449, 27, 450, 425, 426, 427, 2, 428, 23, 164, 202, 203, 204, 129, 130, 131, 451, 452, 453, 26, 454, 144, 143, 84, 85, 455, 456, 457, 458, 459, 294, 295, 296, 429, 430, 431, 432, 15, 433, 302, 303, 304, 14, 305, 306, 61, 44, 45, 307, 206, 207, 208, 46, 209, 47, 210, 211, 212, 213, 214, 41, 215, 216, 56, 217, 185, 178, 179, 180, 218, 219, 220, 308, 309, 310, 311, 48, 49, 312, 182, 183, 184, 43, 404, 405, 406, 407, 301, 313, 314, 315, 22, 316, 78, 289, 290, 291, 292, 137, 293, 317, 318, 319, 320, 408, 409, 410, 411, 357, 358, 359, 360, 77, 325, 326, 327, 328, 460, 461, 462, 463, 83, 464, 465, 466, 467, 678, 679, 680, 681, 682, 683, 734, 735, 736, 737, 738, 729, 730, 731, 732, 733, 712, 713, 714, 715, 716, 717, 718, 719, 720, 721, 722] (by decide +kernel) (by decide +kernel)
set_option maxRecDepth 20000 in
theorem gL_law_X6_picture : GoodIn wsL_law (wsV RL 71 RX6 yX6_picture wsX6_picture) := goodIn_app (goodIn_of _ (by decide +kernel)) ggL_law_X6_picture
set_option maxRecDepth 20000 in
theorem ggL_law_X7_picture : GoodIn wsL_law wsX7_picture := goodIn_r _ [471, 472, 150, 119, 120, 121, 155, 438, 439, 440, 5, 441, 154, 225, 226, 227, 152, 153, 228, 157, 158, 159, 473, 474, 475, 476, 442, 443, 444, 445, 103, 417, 418, 419, 420, 116, 229, 230, 231, 232, 104, 233, 107, 106, 149, 234, 235, 236, 237, 370, 371, 372, 373, 344, 118, 395, 396, 397, 398, 105, 108, 385, 684, 685, 686, 687, 688, 689, 690, 691, 692, 693, 694, 695, 696, 697, 698, 699, 700, 701, 702, 703, 704, 705, 706, 707, 708, 709, 710, 711] (by decide +kernel) (by decide +kernel)
set_option maxRecDepth 20000 in
theorem gL_law_X7_picture : GoodIn wsL_law (wsV RL 75 RX7 yX7_picture wsX7_picture) := goodIn_app (goodIn_of _ (by decide +kernel)) ggL_law_X7_picture
set_option maxRecDepth 20000 in
theorem ggL_law_X6_pixel : GoodIn wsL_law wsX6_pixel := goodIn_r _ [480, 27, 403, 481, 482, 483, 26, 484, 144, 485, 456, 457, 458, 143, 459, 294, 295, 296, 486, 487, 488, 489, 84, 464, 465, 466, 467, 129, 130, 2, 131, 490, 491, 492, 493, 85, 494, 495, 496, 497, 83, 678, 679, 680, 681, 682, 683, 734, 735, 736, 737, 738] (by decide +kernel) (by decide +kernel)
set_option maxRecDepth 20000 in
theorem gL_law_X6_pixel : GoodIn wsL_law (wsV RL 76 RX6 yX6_pixel wsX6_pixel) := goodIn_app (goodIn_of _ (by decide +kernel)) ggL_law_X6_pixel
set_option maxRecDepth 20000 in
theorem ggL_law_X7_pixel : GoodIn wsL_law wsX7_pixel := goodIn_r _ [501, 119, 120, 121, 416, 502, 503, 504, 5, 505, 155, 157, 158, 159, 684, 685, 686, 687, 688, 689, 690, 691, 692, 693, 694, 695, 696, 697, 698, 699, 700, 701, 702, 703, 704, 705, 706, 707, 708, 709, 710, 711] (by decide +kernel) (by decide +kernel)
set_option maxRecDepth 20000 in
theorem gL_law_X7_pixel : GoodIn wsL_law (wsV RL 79 RX7 yX7_pixel wsX7_pixel) := goodIn_app (goodIn_of _ (by decide +kernel)) ggL_law_X7_pixel
set_option maxRecDepth 20000 in
theorem ggL_law_X6_about : GoodIn wsL_law wsX6_about := goodIn_r _ [509, 27, 481, 482, 483, 26, 484, 144, 485, 456, 457, 458, 143, 459, 294, 295, 296, 486, 487, 488, 489, 84, 464, 465, 466, 467, 490, 491, 492, 493, 85, 510, 511, 512, 513, 514, 515, 516, 495, 496, 497, 83, 494, 678, 679, 680, 681, 682, 683, 734, 735, 736, 737, 738] (by decide +kernel) (by decide +kernel)
set_option maxRecDepth 20000 in
theorem gL_law_X6_about : GoodIn wsL_law (wsV RL 80 RX6 yX6_about wsX6_about) := goodIn_app (goodIn_of _ (by decide +kernel)) ggL_law_X6_about
set_option maxRecDepth 20000 in
theorem ggL_law_X7_about : GoodIn wsL_law wsX7_about := goodIn_r _ [520, 521, 119, 120, 121, 502, 503, 504, 5, 505, 155, 157, 158, 159, 684, 685, 686, 687, 688, 689, 690, 691, 692, 693, 694, 695, 696, 697, 698, 699, 700, 701, 702, 703, 704, 705, 706, 707, 708, 709, 710, 711] (by decide +kernel) (by decide +kernel)
set_option maxRecDepth 20000 in
theorem gL_law_X7_about : GoodIn wsL_law (wsV RL 83 RX7 yX7_about wsX7_about) := goodIn_app (goodIn_of _ (by decide +kernel)) ggL_law_X7_about
set_option maxRecDepth 20000 in
theorem ggL_law_X6_differ : GoodIn wsL_law wsX6_differ := goodIn_r _ [525, 27, 450, 481, 482, 483, 26, 484, 144, 485, 456, 457, 458, 143, 459, 294, 295, 296, 486, 487, 488, 489, 84, 464, 465, 466, 467, 490, 491, 492, 493, 85, 451, 452, 453, 454, 455, 494, 495, 496, 497, 83, 460, 461, 462, 463, 678, 679, 680, 681, 682, 683, 734, 735, 736, 737, 738] (by decide +kernel) (by decide +kernel)
set_option maxRecDepth 20000 in
theorem gL_law_X6_differ : GoodIn wsL_law (wsV RL 84 RX6 yX6_differ wsX6_differ) := goodIn_app (goodIn_of _ (by decide +kernel)) ggL_law_X6_differ
set_option maxRecDepth 20000 in
theorem ggL_law_X7_differ : GoodIn wsL_law wsX7_differ := goodIn_r _ [529, 119, 120, 122, 121, 155, 502, 503, 504, 5, 505, 157, 158, 159, 473, 474, 475, 476, 684, 685, 686, 687, 688, 689, 690, 691, 692, 693, 694, 695, 696, 697, 698, 699, 700, 701, 702, 703, 704, 705, 706, 707, 708, 709, 710, 711] (by decide +kernel) (by decide +kernel)
set_option maxRecDepth 20000 in
theorem gL_law_X7_differ : GoodIn wsL_law (wsV RL 87 RX7 yX7_differ wsX7_differ) := goodIn_app (goodIn_of _ (by decide +kernel)) ggL_law_X7_differ
set_option maxRecDepth 20000 in
theorem ggL_law_X6_turn : GoodIn wsL_law wsX6_turn := goodIn_r _ [533, 23, 15, 353, 354, 355, 22, 356, 138, 202, 203, 2, 204, 129, 130, 131, 313, 314, 315, 316, 78, 289, 290, 291, 292, 137, 293, 294, 295, 296, 302, 303, 304, 14, 305, 306, 61, 44, 45, 307, 206, 207, 208, 46, 209, 47, 210, 211, 212, 213, 214, 41, 215, 216, 56, 217, 185, 178, 179, 180, 218, 219, 220, 308, 309, 310, 311, 48, 49, 312, 182, 183, 184, 43, 534, 535, 536, 537, 301, 317, 318, 319, 320, 357, 358, 359, 360, 77, 325, 326, 327, 328, 678, 679, 680, 681, 682, 683, 729, 730, 731, 732, 733, 712, 713, 714, 715, 716, 717, 718, 719, 720, 721, 722] (by decide +kernel) (by decide +kernel)
set_option maxRecDepth 20000 in
theorem gL_law_X6_turn : GoodIn wsL_law (wsV RL 88 RX6 yX6_turn wsX6_turn) := goodIn_app (goodIn_of _ (by decide +kernel)) ggL_law_X6_turn
set_option maxRecDepth 20000 in
theorem ggL_law_X7_turn : GoodIn wsL_law wsX7_turn := goodIn_r _ [541, 116, 366, 367, 368, 5, 369, 154, 157, 158, 159, 225, 226, 227, 152, 153, 228, 542, 543, 544, 545, 103, 229, 230, 231, 232, 104, 233, 107, 106, 149, 234, 235, 236, 237, 370, 371, 372, 373, 344, 118, 684, 685, 686, 687, 688, 689, 690, 691, 692, 693, 694, 695, 696, 697, 698, 699, 700, 701, 702, 703, 704, 705, 706, 707, 708, 709, 710, 711] (by decide +kernel) (by decide +kernel)
set_option maxRecDepth 20000 in
theorem gL_law_X7_turn : GoodIn wsL_law (wsV RL 92 RX7 yX7_turn wsX7_turn) := goodIn_app (goodIn_of _ (by decide +kernel)) ggL_law_X7_turn
set_option maxRecDepth 20000 in
theorem ggL_law_X6_fan : GoodIn wsL_law wsX6_fan := goodIn_r _ [549, 23, 31, 353, 354, 355, 22, 356, 138, 129, 130, 2, 131, 550, 551, 552, 30, 553, 554, 555, 91, 556, 557, 558, 559, 560, 561, 562, 563, 429, 430, 431, 432, 15, 164, 433, 202, 203, 204, 302, 303, 304, 14, 305, 306, 61, 44, 45, 307, 206, 207, 208, 46, 209, 47, 210, 211, 212, 213, 214, 41, 215, 216, 56, 217, 185, 178, 179, 180, 218, 219, 220, 308, 309, 310, 311, 48, 49, 312, 182, 183, 184, 43, 404, 405, 406, 407, 301, 313, 314, 315, 316, 78, 289, 290, 291, 292, 137, 293, 294, 295, 296, 317, 318, 319, 320, 408, 409, 410, 411, 357, 358, 359, 360, 77, 325, 326, 327, 328, 564, 565, 566, 567, 90, 568, 569, 570, 571, 678, 679, 680, 681, 682, 683, 729, 730, 731, 732, 733, 739, 740, 741, 742, 712, 713, 714, 715, 716, 717, 718, 719, 720, 721, 722] (by decide +kernel) (by decide +kernel)
set_option maxRecDepth 20000 in
theorem gL_law_X6_fan : GoodIn wsL_law (wsV RL 93 RX6 yX6_fan wsX6_fan) := goodIn_app (goodIn_of _ (by decide +kernel)) ggL_law_X6_fan
set_option maxRecDepth 20000 in
theorem ggL_law_X7_fan : GoodIn wsL_law wsX7_fan := goodIn_r _ [575, 149, 384, 150, 576, 577, 578, 579, 123, 366, 367, 368, 5, 369, 154, 157, 158, 159, 225, 226, 227, 152, 153, 228, 442, 443, 444, 445, 103, 417, 418, 419, 420, 116, 229, 230, 231, 232, 104, 233, 107, 106, 234, 235, 236, 237, 370, 371, 372, 373, 344, 118, 395, 396, 397, 398, 105, 108, 385, 684, 685, 686, 687, 688, 689, 690, 691, 692, 693, 694, 695, 696, 697, 698, 699, 700, 701, 702, 703, 704, 705, 706, 707, 708, 709, 710, 711] (by decide +kernel) (by decide +kernel)
set_option maxRecDepth 20000 in
theorem gL_law_X7_fan : GoodIn wsL_law (wsV RL 96 RX7 yX7_fan wsX7_fan) := goodIn_app (goodIn_of _ (by decide +kernel)) ggL_law_X7_fan
set_option maxRecDepth 20000 in
theorem ggL_law_X6_fanAt : GoodIn wsL_law wsX6_fanAt := goodIn_r _ [583, 31, 403, 584, 569, 570, 30, 571, 554, 555, 585, 586, 587, 588, 90, 568, 678, 679, 680, 681, 682, 683, 739, 740, 741, 742] (by decide +kernel) (by decide +kernel)
