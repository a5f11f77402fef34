/-! the law's words among the tables', by their places -/
theorem lz_mem {big ws : List Cond} (ps : List Nat) (hp : ws = ps.filterMap (fun i => big[i]?)) : ∀ w ∈ ws, w ∈ big := by
  intro w h
  rw [hp] at h
  obtain ⟨i, -, hi⟩ := List.mem_filterMap.mp h
  exact List.mem_of_getElem? hi
set_option maxRecDepth 20000 in
theorem lz_in_r1 : ∀ w ∈ wsL_law_r1, w ∈ lw_tbl := lz_mem [28, 29, 19, 553, 554, 27, 30, 31, 32, 33, 34, 35, 36, 37, 20, 208, 95, 96, 22, 209, 124, 125, 23, 210] (by decide +kernel)
set_option maxRecDepth 20000 in
theorem lz_in_r2 : ∀ w ∈ wsL_law_r2, w ∈ lw_tbl := lz_mem [149, 150, 24, 211, 172, 173, 25, 212, 192, 193, 26, 213, 38, 39, 40, 41, 93, 52, 94, 53, 54, 55, 62, 64] (by decide +kernel)
set_option maxRecDepth 20000 in
theorem lz_in_r3 : ∀ w ∈ wsL_law_r3, w ∈ lw_tbl := lz_mem [66, 68, 42, 43, 44, 45, 46, 47, 21, 48, 49, 50, 51, 58, 60, 97, 98, 99, 100, 101, 103, 105, 107, 108] (by decide +kernel)
set_option maxRecDepth 20000 in
theorem lz_in_r4 : ∀ w ∈ wsL_law_r4, w ∈ lw_tbl := lz_mem [126, 127, 128, 129, 130, 131, 132, 151, 152, 153, 154, 155, 156, 157, 174, 175, 176, 177, 178, 182, 194, 195, 196, 197] (by decide +kernel)
set_option maxRecDepth 20000 in
theorem lz_in_r5 : ∀ w ∈ wsL_law_r5, w ∈ lw_tbl := lz_mem [199, 198, 201, 555, 556, 557, 558, 561, 562, 563, 564, 565, 567, 559, 568, 572, 573, 574, 575, 576, 578, 560, 579, 581] (by decide +kernel)
set_option maxRecDepth 20000 in
theorem lz_in_r6 : ∀ w ∈ wsL_law_r6, w ∈ lw_tbl := lz_mem [582, 583, 584, 588, 227, 228, 229, 230, 200, 231, 232, 233, 234, 235, 236, 237, 238, 133, 134, 239, 240, 241, 242, 158] (by decide +kernel)
set_option maxRecDepth 20000 in
theorem lz_in_r7 : ∀ w ∈ wsL_law_r7, w ∈ lw_tbl := lz_mem [159, 646, 647, 648, 649, 650, 651, 655, 656, 657, 577, 580, 569, 652, 653, 654, 243, 244, 245, 246, 135, 63, 65, 658] (by decide +kernel)
set_option maxRecDepth 20000 in
theorem lz_in_r8 : ∀ w ∈ wsL_law_r8, w ∈ lw_tbl := lz_mem [659, 660, 661, 662, 247, 248, 249, 250, 61, 251, 252, 253, 254, 255, 256, 257, 258, 259, 260, 261, 262, 263, 663, 664] (by decide +kernel)
set_option maxRecDepth 20000 in
theorem lz_in_r9 : ∀ w ∈ wsL_law_r9, w ∈ lw_tbl := lz_mem [665, 666, 667, 669, 5, 670, 264, 265, 266, 267, 268, 269, 270, 271, 272, 273, 274, 282, 283, 275, 276, 277, 278, 279] (by decide +kernel)
set_option maxRecDepth 20000 in
theorem lz_in_r10 : ∀ w ∈ wsL_law_r10, w ∈ lw_tbl := lz_mem [280, 281, 285, 286, 287, 671, 672, 673, 674, 675, 676, 677, 678, 679, 681, 6, 682, 683, 684, 685, 686, 687, 288, 289] (by decide +kernel)
set_option maxRecDepth 20000 in
theorem lz_in_r11 : ∀ w ∈ wsL_law_r11, w ∈ lw_tbl := lz_mem [290, 291, 110, 292, 293, 294, 295, 109, 688, 689, 690, 691, 692, 693, 694, 571, 296, 297, 298, 299, 695, 696, 697, 698] (by decide +kernel)
set_option maxRecDepth 20000 in
theorem lz_in_r12 : ∀ w ∈ wsL_law_r12, w ∈ lw_tbl := lz_mem [300, 301, 302, 303, 102, 104, 106, 304, 305, 306, 307, 699, 700, 701, 702, 308, 309, 310, 311, 202, 312, 313, 314, 315] (by decide +kernel)
set_option maxRecDepth 20000 in
theorem lz_in_r13 : ∀ w ∈ wsL_law_r13, w ∈ lw_tbl := lz_mem [136, 316, 317, 318, 319, 320, 321, 21, 322, 323, 325, 0, 326, 59, 327, 328, 329, 330, 56, 331, 332, 333, 334, 335] (by decide +kernel)
set_option maxRecDepth 20000 in
theorem lz_in_r14 : ∀ w ∈ wsL_law_r14, w ∈ lw_tbl := lz_mem [336, 337, 338, 339, 340, 341, 342, 343, 344, 345, 346, 347, 348, 349, 350, 351, 352, 353, 354, 355, 356, 357, 358, 703] (by decide +kernel)
set_option maxRecDepth 20000 in
theorem lz_in_r15 : ∀ w ∈ wsL_law_r15, w ∈ lw_tbl := lz_mem [704, 705, 706, 570, 707, 709, 7, 710, 711, 712, 713, 714, 359, 360, 361, 362, 367, 363, 364, 365, 366, 368, 369, 370] (by decide +kernel)
set_option maxRecDepth 20000 in
theorem lz_in_r16 : ∀ w ∈ wsL_law_r16, w ∈ lw_tbl := lz_mem [371, 715, 716, 717, 718, 727, 719, 721, 8, 722, 723, 725, 9, 726, 372, 373, 374, 375, 67, 69, 728, 729, 730, 731] (by decide +kernel)
set_option maxRecDepth 20000 in
theorem lz_in_r17 : ∀ w ∈ wsL_law_r17, w ∈ lw_tbl := lz_mem [732, 566, 376, 377, 378, 379, 380, 733, 734, 735, 736, 737, 739, 10, 740, 381, 382, 383, 384, 385, 386, 388, 1, 389] (by decide +kernel)
set_option maxRecDepth 20000 in
theorem lz_in_r18 : ∀ w ∈ wsL_law_r18, w ∈ lw_tbl := lz_mem [390, 391, 392, 393, 741, 742, 743, 744, 749, 745, 747, 11, 748, 394, 395, 396, 397, 398, 400, 2, 401, 402, 404, 3] (by decide +kernel)
set_option maxRecDepth 20000 in
theorem lz_in_r19 : ∀ w ∈ wsL_law_r19, w ∈ lw_tbl := lz_mem [405, 57, 750, 751, 752, 753, 754, 756, 12, 757, 758, 760, 13, 761, 406, 407, 408, 409, 160, 410, 411, 412, 413, 414] (by decide +kernel)
set_option maxRecDepth 20000 in
theorem lz_in_r20 : ∀ w ∈ wsL_law_r20, w ∈ lw_tbl := lz_mem [415, 416, 417, 418, 419, 420, 421, 422, 423, 424, 425, 426, 762, 763, 764, 765, 766, 767, 769, 14, 770, 427, 428, 429] (by decide +kernel)
set_option maxRecDepth 20000 in
theorem lz_in_r21 : ∀ w ∈ wsL_law_r21, w ∈ lw_tbl := lz_mem [430, 431, 432, 433, 434, 435, 436, 437, 438, 439, 440, 441, 442, 443, 444, 445, 446, 447, 771, 772, 773, 774, 775, 777] (by decide +kernel)
set_option maxRecDepth 20000 in
theorem lz_in_r22 : ∀ w ∈ wsL_law_r22, w ∈ lw_tbl := lz_mem [15, 778, 448, 449, 450, 451, 452, 453, 454, 455, 456, 457, 458, 779, 780, 781, 782, 783, 459, 460, 461, 462, 784, 785] (by decide +kernel)
set_option maxRecDepth 20000 in
theorem lz_in_r23 : ∀ w ∈ wsL_law_r23, w ∈ lw_tbl := lz_mem [786, 787, 463, 464, 465, 466, 467, 469, 4, 470, 788, 789, 790, 791, 792, 794, 16, 795, 471, 472, 473, 474, 475, 476] (by decide +kernel)
set_option maxRecDepth 20000 in
theorem lz_in_r24 : ∀ w ∈ wsL_law_r24, w ∈ lw_tbl := lz_mem [477, 478, 179, 181, 479, 480, 481, 482, 483, 484, 485, 486, 487, 488, 489, 490, 491, 492, 493, 494, 796, 797, 798, 799] (by decide +kernel)
set_option maxRecDepth 20000 in
theorem lz_in_r25 : ∀ w ∈ wsL_law_r25, w ∈ lw_tbl := lz_mem [800, 585, 586, 587, 495, 496, 497, 498, 499, 500, 501, 502, 503, 801, 802, 803, 804, 504, 505, 506, 507, 180, 508, 509] (by decide +kernel)
set_option maxRecDepth 20000 in
theorem lz_in_r26 : ∀ w ∈ wsL_law_r26, w ∈ lw_tbl := lz_mem [510, 511, 512, 805, 806, 807, 808, 809, 814, 810, 812, 17, 813, 513, 514, 515, 516, 517, 518, 815, 816, 817, 818, 519] (by decide +kernel)
set_option maxRecDepth 20000 in
theorem lz_in_r27 : ∀ w ∈ wsL_law_r27, w ∈ lw_tbl := lz_mem [520, 521, 522, 523, 819, 820, 821, 822, 823, 524, 525, 526, 527, 528, 529, 530, 531, 824, 825, 826, 827, 532, 533, 534] (by decide +kernel)
set_option maxRecDepth 20000 in
theorem lz_in_r28 : ∀ w ∈ wsL_law_r28, w ∈ lw_tbl := lz_mem [535, 137, 828, 829, 830, 831, 536, 537, 538, 539, 540, 541, 542, 543, 544, 545, 546, 547, 548, 549, 550, 551, 552, 832] (by decide +kernel)
set_option maxRecDepth 20000 in
theorem lz_in_r29 : ∀ w ∈ wsL_law_r29, w ∈ lw_tbl := lz_mem [833, 834, 835, 836, 837, 838] (by decide +kernel)
set_option maxRecDepth 20000 in
theorem lz_in_x0 : ∀ w ∈ wsX00, w ∈ lw_tbl := lz_mem [183, 185, 187, 189] (by decide +kernel)
set_option maxRecDepth 20000 in
theorem lz_in_x1 : ∀ w ∈ wsX10, w ∈ lw_tbl := lz_mem [138, 140, 142, 144, 146] (by decide +kernel)
set_option maxRecDepth 20000 in
theorem lz_in_x2 : ∀ w ∈ wsX20, w ∈ lw_tbl := lz_mem [203, 205] (by decide +kernel)
set_option maxRecDepth 20000 in
theorem lz_in_x3 : ∀ w ∈ wsX30, w ∈ lw_tbl := lz_mem [70, 72, 74, 76, 78, 80, 82, 84, 86, 88, 90] (by decide +kernel)
set_option maxRecDepth 20000 in
theorem lz_in_x4 : ∀ w ∈ wsX40, w ∈ lw_tbl := lz_mem [161, 163, 165, 167, 169] (by decide +kernel)
set_option maxRecDepth 20000 in
theorem lz_in_x5 : ∀ w ∈ wsX50, w ∈ lw_tbl := lz_mem [111, 113, 115, 117, 119, 121] (by decide +kernel)
set_option maxRecDepth 20000 in
theorem lz_in_x6 : ∀ w ∈ wsX60, w ∈ lw_tbl := lz_mem [214, 216, 218, 220, 222, 224] (by decide +kernel)
set_option maxRecDepth 20000 in
theorem lz_in_x7 : ∀ w ∈ wsX70, w ∈ lw_tbl := lz_mem [589, 591, 593, 595, 597, 599, 601, 603, 605, 607, 609, 611, 613, 615, 617, 619, 621, 623, 625, 627, 629, 631, 633, 635, 637, 639, 641, 643] (by decide +kernel)
theorem lz_in_nw : kb_nw ∈ lw_tbl := lz_mem (ws := [kb_nw]) [284] (by decide +kernel) _ (List.mem_singleton.mpr rfl)
theorem lz_app {big a b : List Cond} (ha : ∀ w ∈ a, w ∈ big) (hb : ∀ w ∈ b, w ∈ big) : ∀ w ∈ a ++ b, w ∈ big := fun w h => (List.mem_append.mp h).elim (ha w) (hb w)
theorem wsL_law_in : ∀ w ∈ wsL_law, w ∈ lw_tbl := lz_app (lz_app (lz_app (lz_app (lz_app (lz_app (lz_app (lz_app (lz_app (lz_app lz_in_r1 (lz_app lz_in_r2 (lz_app lz_in_r3 (lz_app lz_in_r4 (lz_app lz_in_r5 (lz_app lz_in_r6 (lz_app lz_in_r7 (lz_app lz_in_r8 (lz_app lz_in_r9 (lz_app lz_in_r10 (lz_app lz_in_r11 (lz_app lz_in_r12 (lz_app lz_in_r13 (lz_app lz_in_r14 (lz_app lz_in_r15 (lz_app lz_in_r16 (lz_app lz_in_r17 (lz_app lz_in_r18 (lz_app lz_in_r19 (lz_app lz_in_r20 (lz_app lz_in_r21 (lz_app lz_in_r22 (lz_app lz_in_r23 (lz_app lz_in_r24 (lz_app lz_in_r25 (lz_app lz_in_r26 (lz_app lz_in_r27 (lz_app lz_in_r28 lz_in_r29)))))))))))))))))))))))))))) lz_in_x6) lz_in_x7) lz_in_x3) lz_in_x5) lz_in_x1) lz_in_x4) lz_in_x0) lz_in_x2) (fun w h => absurd h List.not_mem_nil)
theorem inlX0 : ∀ w ∈ wsX00, w ∈ wsL_law := fun _ h => List.mem_append_left _ (List.mem_append_left _ (List.mem_append_right _ h))
theorem inX0 : ∀ w ∈ wsX00, w ∈ lw_tbl := fun w h => wsL_law_in w (inlX0 w h)
theorem inlX1 : ∀ w ∈ wsX10, w ∈ wsL_law := fun _ h => List.mem_append_left _ (List.mem_append_left _ (List.mem_append_left _ (List.mem_append_left _ (List.mem_append_right _ h))))
theorem inX1 : ∀ w ∈ wsX10, w ∈ lw_tbl := fun w h => wsL_law_in w (inlX1 w h)
theorem inlX2 : ∀ w ∈ wsX20, w ∈ wsL_law := fun _ h => List.mem_append_left _ (List.mem_append_right _ h)
theorem inX2 : ∀ w ∈ wsX20, w ∈ lw_tbl := fun w h => wsL_law_in w (inlX2 w h)
theorem inlX3 : ∀ w ∈ wsX30, w ∈ wsL_law := fun _ h => List.mem_append_left _ (List.mem_append_left _ (List.mem_append_left _ (List.mem_append_left _ (List.mem_append_left _ (List.mem_append_left _ (List.mem_append_right _ h))))))
theorem inX3 : ∀ w ∈ wsX30, w ∈ lw_tbl := fun w h => wsL_law_in w (inlX3 w h)
theorem inlX4 : ∀ w ∈ wsX40, w ∈ wsL_law := fun _ h => List.mem_append_left _ (List.mem_append_left _ (List.mem_append_left _ (List.mem_append_right _ h)))
theorem inX4 : ∀ w ∈ wsX40, w ∈ lw_tbl := fun w h => wsL_law_in w (inlX4 w h)
theorem inlX5 : ∀ w ∈ wsX50, w ∈ wsL_law := fun _ h => List.mem_append_left _ (List.mem_append_left _ (List.mem_append_left _ (List.mem_append_left _ (List.mem_append_left _ (List.mem_append_right _ h)))))
theorem inX5 : ∀ w ∈ wsX50, w ∈ lw_tbl := fun w h => wsL_law_in w (inlX5 w h)
theorem inlX6 : ∀ w ∈ wsX60, w ∈ wsL_law := fun _ h => List.mem_append_left _ (List.mem_append_left _ (List.mem_append_left _ (List.mem_append_left _ (List.mem_append_left _ (List.mem_append_left _ (List.mem_append_left _ (List.mem_append_left _ (List.mem_append_right _ h))))))))
theorem inX6 : ∀ w ∈ wsX60, w ∈ lw_tbl := fun w h => wsL_law_in w (inlX6 w h)
theorem inlX7 : ∀ w ∈ wsX70, w ∈ wsL_law := fun _ h => List.mem_append_left _ (List.mem_append_left _ (List.mem_append_left _ (List.mem_append_left _ (List.mem_append_left _ (List.mem_append_left _ (List.mem_append_left _ (List.mem_append_right _ h)))))))
theorem inX7 : ∀ w ∈ wsX70, w ∈ lw_tbl := fun w h => wsL_law_in w (inlX7 w h)
