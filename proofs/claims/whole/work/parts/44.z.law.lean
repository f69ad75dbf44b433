theorem sub_p {big : List Cond} (ws : List Cond) (ps : List Nat) (hp : ws = ps.filterMap (fun i => big[i]?)) : ∀ w ∈ ws, w ∈ big := by
  intro w hw
  rw [hp] at hw
  obtain ⟨i, -, hi⟩ := List.mem_filterMap.mp hw
  exact List.mem_of_getElem? hi
theorem fa_app {big a b : List Cond} (h1 : ∀ w ∈ a, w ∈ big) (h2 : ∀ w ∈ b, w ∈ big) : ∀ w ∈ a ++ b, w ∈ big := List.forall_mem_append.mpr ⟨h1, h2⟩
set_option maxRecDepth 20000 in
theorem law_r1 : ∀ w ∈ wsL_law0_r1, w ∈ lw_tbl := sub_p _ [46, 47, 30, 654, 655, 39, 715, 860, 48, 49, 50, 51, 52, 53, 54, 55, 31, 213, 214, 68, 69, 32, 215, 89] (by decide +kernel)
set_option maxRecDepth 20000 in
theorem law_r2 : ∀ w ∈ wsL_law0_r2, w ∈ lw_tbl := sub_p _ [90, 33, 216, 116, 117, 34, 217, 178, 179, 37, 218, 196, 197, 38, 219, 57, 58, 59, 67, 60, 61, 71, 72, 73] (by decide +kernel)
set_option maxRecDepth 20000 in
theorem law_r3 : ∀ w ∈ wsL_law0_r3, w ∈ lw_tbl := sub_p _ [74, 76, 77, 78, 79, 92, 93, 94, 95, 97, 98, 99, 100, 101, 102, 118, 119, 120, 121, 122, 153, 154, 124, 35] (by decide +kernel)
set_option maxRecDepth 20000 in
theorem law_r4 : ∀ w ∈ wsL_law0_r4, w ∈ lw_tbl := sub_p _ [155, 140, 156, 157, 158, 159, 160, 126, 127, 128, 129, 131, 133, 142, 143, 144, 145, 146, 147, 36, 148, 149, 151, 0] (by decide +kernel)
set_option maxRecDepth 20000 in
theorem law_r5 : ∀ w ∈ wsL_law0_r5, w ∈ lw_tbl := sub_p _ [152, 181, 182, 183, 184, 186, 187, 188, 198, 199, 200, 201, 202, 203, 209, 210, 211, 212, 656, 657, 658, 659, 661, 662] (by decide +kernel)
set_option maxRecDepth 20000 in
theorem law_r6 : ∀ w ∈ wsL_law0_r6, w ∈ lw_tbl := sub_p _ [663, 664, 665, 666, 668, 669, 670, 671, 672, 673, 674, 675, 676, 677, 277, 278, 29, 279, 280, 281, 282, 283, 284, 361] (by decide +kernel)
set_option maxRecDepth 20000 in
theorem law_r7 : ∀ w ∈ wsL_law0_r7, w ∈ lw_tbl := sub_p _ [285, 287, 2, 288, 289, 43, 357, 359, 4, 360, 362, 363, 36, 364, 365, 250, 251, 252, 366, 253, 255, 1, 256, 257] (by decide +kernel)
set_option maxRecDepth 20000 in
theorem law_r8 : ∀ w ∈ wsL_law0_r8, w ∈ lw_tbl := sub_p _ [258, 259, 260, 261, 262, 263, 264, 265, 266, 267, 268, 269, 270, 271, 272, 720, 721, 722, 723, 724, 726, 15, 727, 728] (by decide +kernel)
set_option maxRecDepth 20000 in
theorem law_r9 : ∀ w ∈ wsL_law0_r9, w ∈ lw_tbl := sub_p _ [660, 729, 730, 731, 732, 733, 734, 735, 716, 717, 718, 719, 367, 368, 369, 370, 371, 372, 373, 736, 737, 738, 739, 374] (by decide +kernel)
set_option maxRecDepth 20000 in
theorem law_r10 : ∀ w ∈ wsL_law0_r10, w ∈ lw_tbl := sub_p _ [375, 376, 377, 378, 379, 380, 381, 382, 407, 45, 383, 385, 5, 386, 391, 44, 387, 388, 389, 390, 423, 424, 425, 426] (by decide +kernel)
set_option maxRecDepth 20000 in
theorem law_r11 : ∀ w ∈ wsL_law0_r11, w ∈ lw_tbl := sub_p _ [427, 428, 429, 430, 249, 431, 432, 243, 244, 245, 246, 247, 248, 433, 434, 435, 436, 437, 438, 439, 440, 441, 442, 443] (by decide +kernel)
set_option maxRecDepth 20000 in
theorem law_r12 : ∀ w ∈ wsL_law0_r12, w ∈ lw_tbl := sub_p _ [444, 445, 446, 447, 448, 450, 451, 452, 454, 455, 456, 457, 458, 459, 460, 462, 463, 464, 465, 466, 467, 468, 469, 470] (by decide +kernel)
set_option maxRecDepth 20000 in
theorem law_r13 : ∀ w ∈ wsL_law0_r13, w ∈ lw_tbl := sub_p _ [471, 472, 473, 474, 475, 476, 477, 478, 479, 480, 481, 757, 758, 759, 760, 765, 761, 763, 16, 764, 747, 748, 749, 766] (by decide +kernel)
set_option maxRecDepth 20000 in
theorem law_r14 : ∀ w ∈ wsL_law0_r14, w ∈ lw_tbl := sub_p _ [768, 17, 769, 784, 770, 771, 772, 754, 755, 756, 744, 745, 746, 773, 775, 18, 776, 777, 779, 19, 780, 781, 782, 783] (by decide +kernel)
set_option maxRecDepth 20000 in
theorem law_r15 : ∀ w ∈ wsL_law0_r15, w ∈ lw_tbl := sub_p _ [785, 787, 20, 788, 482, 483, 484, 485, 486, 487, 488, 489, 491, 6, 492, 494, 495, 496, 497, 498, 789, 790, 791, 792] (by decide +kernel)
set_option maxRecDepth 20000 in
theorem law_r16 : ∀ w ∈ wsL_law0_r16, w ∈ lw_tbl := sub_p _ [793, 795, 21, 796, 797, 499, 500, 501, 502, 503, 504, 505, 798, 799, 800, 801, 802, 506, 507, 508, 509, 510, 511, 512] (by decide +kernel)
set_option maxRecDepth 20000 in
theorem law_r17 : ∀ w ∈ wsL_law0_r17, w ∈ lw_tbl := sub_p _ [513, 514, 515, 516, 132, 517, 519, 7, 520, 134, 521, 522, 523, 524, 525, 527, 8, 528, 529, 531, 9, 532, 533, 534] (by decide +kernel)
set_option maxRecDepth 20000 in
theorem law_r18 : ∀ w ∈ wsL_law0_r18, w ∈ lw_tbl := sub_p _ [535, 537, 10, 538, 540, 539, 541, 543, 545, 11, 546, 547, 549, 550, 551, 552, 553, 554, 803, 804, 805, 806, 807, 809] (by decide +kernel)
set_option maxRecDepth 20000 in
theorem law_r19 : ∀ w ∈ wsL_law0_r19, w ∈ lw_tbl := sub_p _ [22, 810, 811, 813, 23, 814, 815, 817, 24, 818, 555, 556, 557, 558, 559, 560, 561, 562, 564, 12, 565, 567, 568, 569] (by decide +kernel)
set_option maxRecDepth 20000 in
theorem law_r20 : ∀ w ∈ wsL_law0_r20, w ∈ lw_tbl := sub_p _ [570, 819, 820, 821, 822, 827, 823, 825, 25, 826, 667, 571, 572, 573, 574, 575, 576, 577, 578, 579, 580, 581, 582, 583] (by decide +kernel)
set_option maxRecDepth 20000 in
theorem law_r21 : ∀ w ∈ wsL_law0_r21, w ∈ lw_tbl := sub_p _ [584, 585, 586, 587, 588, 589, 590, 591, 592, 593, 594, 595, 596, 597, 598, 599, 828, 829, 830, 831, 832, 834, 26, 835] (by decide +kernel)
set_option maxRecDepth 20000 in
theorem law_r22 : ∀ w ∈ wsL_law0_r22, w ∈ lw_tbl := sub_p _ [600, 601, 602, 603, 604, 605, 606, 607, 608, 609, 610, 611, 612, 613, 614, 836, 837, 838, 839, 840, 841, 842, 616, 617] (by decide +kernel)
set_option maxRecDepth 20000 in
theorem law_r23 : ∀ w ∈ wsL_law0_r23, w ∈ lw_tbl := sub_p _ [618, 619, 620, 621, 622, 623, 625, 13, 626, 628, 630, 14, 631, 632, 633, 634, 635, 636, 639, 640, 641, 642, 843, 844] (by decide +kernel)
set_option maxRecDepth 20000 in
theorem law_r24 : ∀ w ∈ wsL_law0_r24, w ∈ lw_tbl := sub_p _ [845, 846, 847, 848, 850, 27, 851, 852, 854, 28, 855, 643, 644, 645, 646, 647, 648, 649, 650, 651, 652, 653, 856, 857] (by decide +kernel)
set_option maxRecDepth 20000 in
theorem law_r25 : ∀ w ∈ wsL_law0_r25, w ∈ lw_tbl := sub_p _ [858, 859, 235, 236, 237, 238, 239, 240, 241, 242, 740, 741, 742, 743, 273, 274, 275, 276, 750, 751, 752, 753] (by decide +kernel)
theorem law_x0 : ∀ w ∈ wsX00, w ∈ lw_tbl := sub_p _ [80, 82, 84, 86] (by decide +kernel)
theorem law_x1 : ∀ w ∈ wsX10, w ∈ lw_tbl := sub_p _ [161, 163, 165, 167, 169, 171, 173, 175] (by decide +kernel)
theorem law_x2 : ∀ w ∈ wsX20, w ∈ lw_tbl := sub_p _ [189, 191, 193] (by decide +kernel)
theorem law_x3 : ∀ w ∈ wsX30, w ∈ lw_tbl := sub_p _ [135, 137] (by decide +kernel)
theorem law_x4 : ∀ w ∈ wsX40, w ∈ lw_tbl := sub_p _ [62, 64] (by decide +kernel)
theorem law_x5 : ∀ w ∈ wsX50, w ∈ lw_tbl := sub_p _ [204, 206] (by decide +kernel)
theorem law_x6 : ∀ w ∈ wsX60, w ∈ lw_tbl := sub_p _ [103, 105, 107, 109, 111, 113] (by decide +kernel)
theorem law_x7 : ∀ w ∈ wsX70, w ∈ lw_tbl := sub_p _ [220, 222, 224, 226, 228, 230, 232] (by decide +kernel)
theorem law_x8 : ∀ w ∈ wsX80, w ∈ lw_tbl := sub_p _ [678, 680, 682, 684, 686, 688, 690, 692, 694, 696, 698, 700, 702, 704, 706, 708, 710, 712] (by decide +kernel)
theorem wsL_law_in0 : ∀ w ∈ wsL_law0, w ∈ lw_tbl := by
  unfold wsL_law0
  exact fa_app (fa_app (fa_app (fa_app (fa_app (fa_app (fa_app (fa_app (fa_app (fa_app (fa_app law_r1 (fa_app law_r2 (fa_app law_r3 (fa_app law_r4 (fa_app law_r5 (fa_app law_r6 (fa_app law_r7 (fa_app law_r8 (fa_app law_r9 (fa_app law_r10 (fa_app law_r11 (fa_app law_r12 (fa_app law_r13 (fa_app law_r14 (fa_app law_r15 (fa_app law_r16 (fa_app law_r17 (fa_app law_r18 (fa_app law_r19 (fa_app law_r20 (fa_app law_r21 (fa_app law_r22 (fa_app law_r23 (fa_app law_r24 law_r25)))))))))))))))))))))))) law_x7) law_x8) law_x4) law_x0) law_x6) law_x1) law_x2) law_x5) law_x3) (fun _ h => absurd h List.not_mem_nil)
theorem wsL_law_x0 : ∀ w ∈ (vx_atS RX7 163 "java/lang/IndexOutOfBoundsException" ["java/lang/RuntimeException", "java/lang/Exception"]).filter goodWord, w ∈ lw_tbl := by decide +kernel
theorem wsL_law_x1 : ∀ w ∈ (vx_atS RX7 91 "java/lang/IllegalArgumentException" ["java/lang/RuntimeException", "java/lang/Exception"]).filter goodWord, w ∈ lw_tbl := by decide +kernel
theorem wsL_law_x2 : ∀ w ∈ (vx_atS RX7 176 "java/lang/IllegalStateException" ["java/lang/RuntimeException", "java/lang/Exception"]).filter goodWord, w ∈ lw_tbl := by decide +kernel
theorem wsL_law_in : ∀ w ∈ wsL_law, w ∈ lw_tbl := fun w h => (List.mem_append.mp h).elim (fun h => (List.mem_append.mp h).elim (fun h => (List.mem_append.mp h).elim (fun h => wsL_law_in0 w h) (fun h => wsL_law_x0 w h)) (fun h => wsL_law_x1 w h)) (fun h => wsL_law_x2 w h)
theorem inlX0 : ∀ w ∈ wsX00, w ∈ wsL_law := fun _ h => List.mem_append_left _ (List.mem_append_left _ (List.mem_append_left _ (List.mem_append_left _ (List.mem_append_left _ (List.mem_append_left _ (List.mem_append_left _ (List.mem_append_left _ (List.mem_append_left _ (List.mem_append_right _ h)))))))))
theorem inX0 : ∀ w ∈ wsX00, w ∈ lw_tbl := fun w h => wsL_law_in w (inlX0 w h)
theorem inlX1 : ∀ w ∈ wsX10, w ∈ wsL_law := fun _ h => List.mem_append_left _ (List.mem_append_left _ (List.mem_append_left _ (List.mem_append_left _ (List.mem_append_left _ (List.mem_append_left _ (List.mem_append_left _ (List.mem_append_right _ h)))))))
theorem inX1 : ∀ w ∈ wsX10, w ∈ lw_tbl := fun w h => wsL_law_in w (inlX1 w h)
theorem inlX2 : ∀ w ∈ wsX20, w ∈ wsL_law := fun _ h => List.mem_append_left _ (List.mem_append_left _ (List.mem_append_left _ (List.mem_append_left _ (List.mem_append_left _ (List.mem_append_left _ (List.mem_append_right _ h))))))
theorem inX2 : ∀ w ∈ wsX20, w ∈ lw_tbl := fun w h => wsL_law_in w (inlX2 w h)
theorem inlX3 : ∀ w ∈ wsX30, w ∈ wsL_law := fun _ h => List.mem_append_left _ (List.mem_append_left _ (List.mem_append_left _ (List.mem_append_left _ (List.mem_append_right _ h))))
theorem inX3 : ∀ w ∈ wsX30, w ∈ lw_tbl := fun w h => wsL_law_in w (inlX3 w h)
theorem inlX4 : ∀ w ∈ wsX40, w ∈ wsL_law := fun _ h => List.mem_append_left _ (List.mem_append_left _ (List.mem_append_left _ (List.mem_append_left _ (List.mem_append_left _ (List.mem_append_left _ (List.mem_append_left _ (List.mem_append_left _ (List.mem_append_left _ (List.mem_append_left _ (List.mem_append_right _ h))))))))))
theorem inX4 : ∀ w ∈ wsX40, w ∈ lw_tbl := fun w h => wsL_law_in w (inlX4 w h)
theorem inlX5 : ∀ w ∈ wsX50, w ∈ wsL_law := fun _ h => List.mem_append_left _ (List.mem_append_left _ (List.mem_append_left _ (List.mem_append_left _ (List.mem_append_left _ (List.mem_append_right _ h)))))
theorem inX5 : ∀ w ∈ wsX50, w ∈ lw_tbl := fun w h => wsL_law_in w (inlX5 w h)
theorem inlX6 : ∀ w ∈ wsX60, w ∈ wsL_law := fun _ h => List.mem_append_left _ (List.mem_append_left _ (List.mem_append_left _ (List.mem_append_left _ (List.mem_append_left _ (List.mem_append_left _ (List.mem_append_left _ (List.mem_append_left _ (List.mem_append_right _ h))))))))
theorem inX6 : ∀ w ∈ wsX60, w ∈ lw_tbl := fun w h => wsL_law_in w (inlX6 w h)
theorem inlX7 : ∀ w ∈ wsX70, w ∈ wsL_law := fun _ h => List.mem_append_left _ (List.mem_append_left _ (List.mem_append_left _ (List.mem_append_left _ (List.mem_append_left _ (List.mem_append_left _ (List.mem_append_left _ (List.mem_append_left _ (List.mem_append_left _ (List.mem_append_left _ (List.mem_append_left _ (List.mem_append_left _ (List.mem_append_right _ h))))))))))))
theorem inX7 : ∀ w ∈ wsX70, w ∈ lw_tbl := fun w h => wsL_law_in w (inlX7 w h)
theorem inlX8 : ∀ w ∈ wsX80, w ∈ wsL_law := fun _ h => List.mem_append_left _ (List.mem_append_left _ (List.mem_append_left _ (List.mem_append_left _ (List.mem_append_left _ (List.mem_append_left _ (List.mem_append_left _ (List.mem_append_left _ (List.mem_append_left _ (List.mem_append_left _ (List.mem_append_left _ (List.mem_append_right _ h)))))))))))
theorem inX8 : ∀ w ∈ wsX80, w ∈ lw_tbl := fun w h => wsL_law_in w (inlX8 w h)
theorem inJ9 : ∀ w ∈ wsJ90, w ∈ lw_tbl := by decide +kernel
theorem inJ0 : ∀ w ∈ wsJ00, w ∈ lw_tbl := by decide +kernel
