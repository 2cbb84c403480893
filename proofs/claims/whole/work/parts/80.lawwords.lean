theorem lw_r (ws : List Cond) (ps : List Nat) (hp : ws = ps.filterMap (fun i => lw_tbl[i]?)) : ∀ w ∈ ws, w ∈ lw_tbl := fun w hw => by
  rw [hp] at hw
  obtain ⟨i, -, hi⟩ := List.mem_filterMap.mp hw
  exact List.mem_of_getElem? hi
theorem lw_ap {a b : List Cond} (ha : ∀ w ∈ a, w ∈ lw_tbl) (hb : ∀ w ∈ b, w ∈ lw_tbl) : ∀ w ∈ a ++ b, w ∈ lw_tbl := fun w h => (List.mem_append.mp h).elim (ha w) (hb w)
set_option maxRecDepth 20000 in
theorem in_wsL_law0_r1 : ∀ w ∈ wsL_law0_r1, w ∈ lw_tbl := lw_r wsL_law0_r1 [58, 59, 42, 637, 638, 46, 873, 60, 61, 62, 63, 64, 65, 96, 172, 66, 67, 43, 173, 98, 99, 44, 174, 126] (by decide +kernel)
set_option maxRecDepth 20000 in
theorem in_wsL_law0_r2 : ∀ w ∈ wsL_law0_r2, w ∈ lw_tbl := lw_r wsL_law0_r2 [175, 127, 128, 45, 176, 177, 178, 179, 180, 181, 182, 183, 69, 70, 71, 97, 72, 73, 74, 75, 76, 77, 79, 101] (by decide +kernel)
set_option maxRecDepth 20000 in
theorem in_wsL_law0_r3 : ∀ w ∈ wsL_law0_r3, w ∈ lw_tbl := lw_r wsL_law0_r3 [102, 103, 104, 106, 107, 109, 111, 113, 130, 131, 132, 133, 134, 135, 136, 137, 171, 138, 139, 140, 141, 142, 143, 144] (by decide +kernel)
set_option maxRecDepth 20000 in
theorem in_wsL_law0_r4 : ∀ w ∈ wsL_law0_r4, w ∈ lw_tbl := lw_r wsL_law0_r4 [639, 640, 641, 642, 644, 646, 648, 653, 654, 655, 659, 660, 661, 662, 663, 664, 665, 666, 667, 668, 305, 306, 41, 307] (by decide +kernel)
set_option maxRecDepth 20000 in
theorem in_wsL_law0_r5 : ∀ w ∈ wsL_law0_r5, w ∈ lw_tbl := lw_r wsL_law0_r5 [308, 309, 310, 311, 312, 313, 50, 732, 733, 734, 735, 643, 645, 736, 738, 26, 739, 728, 729, 730, 731, 380, 381, 382] (by decide +kernel)
set_option maxRecDepth 20000 in
theorem in_wsL_law0_r6 : ∀ w ∈ wsL_law0_r6, w ∈ lw_tbl := lw_r wsL_law0_r6 [383, 384, 385, 386, 387, 388, 51, 114, 404, 405, 406, 407, 740, 741, 742, 743, 647, 209, 210, 211, 212, 80, 213, 214] (by decide +kernel)
set_option maxRecDepth 20000 in
theorem in_wsL_law0_r7 : ∀ w ∈ wsL_law0_r7, w ∈ lw_tbl := lw_r wsL_law0_r7 [215, 216, 756, 757, 758, 759, 649, 408, 409, 410, 411, 412, 413, 414, 78, 415, 417, 10, 418, 420, 423, 424, 425, 426] (by decide +kernel)
set_option maxRecDepth 20000 in
theorem in_wsL_law0_r8 : ∀ w ∈ wsL_law0_r8, w ∈ lw_tbl := lw_r wsL_law0_r8 [427, 429, 11, 430, 431, 433, 12, 434, 517, 519, 435, 437, 13, 438, 439, 441, 14, 442, 443, 445, 15, 446, 447, 448] (by decide +kernel)
set_option maxRecDepth 20000 in
theorem in_wsL_law0_r9 : ∀ w ∈ wsL_law0_r9, w ∈ lw_tbl := lw_r wsL_law0_r9 [449, 454, 456, 16, 457, 458, 459, 460, 52, 461, 875, 462, 463, 464, 465, 466, 876, 468, 469, 470, 471, 472, 473, 474] (by decide +kernel)
set_option maxRecDepth 20000 in
theorem in_wsL_law0_r10 : ∀ w ∈ wsL_law0_r10, w ∈ lw_tbl := lw_r wsL_law0_r10 [475, 476, 477, 53, 478, 479, 480, 481, 482, 484, 485, 54, 486, 487, 488, 55, 489, 490, 491, 492, 493, 494, 495, 496] (by decide +kernel)
set_option maxRecDepth 20000 in
theorem in_wsL_law0_r11 : ∀ w ∈ wsL_law0_r11, w ∈ lw_tbl := lw_r wsL_law0_r11 [497, 498, 499, 500, 502, 504, 506, 508, 17, 509, 510, 512, 18, 513, 514, 515, 56, 516, 521, 523, 19, 524, 525, 527] (by decide +kernel)
set_option maxRecDepth 20000 in
theorem in_wsL_law0_r12 : ∀ w ∈ wsL_law0_r12, w ∈ lw_tbl := lw_r wsL_law0_r12 [20, 528, 529, 530, 531, 532, 533, 534, 535, 536, 537, 538, 539, 540, 541, 542, 544, 21, 545, 546, 547, 548, 549, 550] (by decide +kernel)
set_option maxRecDepth 20000 in
theorem in_wsL_law0_r13 : ∀ w ∈ wsL_law0_r13, w ∈ lw_tbl := lw_r wsL_law0_r13 [551, 552, 553, 760, 761, 762, 763, 764, 657, 650, 652, 765, 767, 29, 768, 651, 769, 771, 30, 772, 773, 775, 31, 776] (by decide +kernel)
set_option maxRecDepth 20000 in
theorem in_wsL_law0_r14 : ∀ w ∈ wsL_law0_r14, w ∈ lw_tbl := lw_r wsL_law0_r14 [777, 779, 32, 780, 781, 782, 783, 788, 790, 33, 791, 792, 793, 794, 795, 796, 797, 799, 34, 800, 801, 802, 803, 752] (by decide +kernel)
set_option maxRecDepth 20000 in
theorem in_wsL_law0_r15 : ∀ w ∈ wsL_law0_r15, w ∈ lw_tbl := lw_r wsL_law0_r15 [754, 28, 755, 217, 218, 219, 220, 804, 805, 806, 807, 554, 555, 556, 557, 558, 559, 560, 561, 562, 564, 22, 565, 566] (by decide +kernel)
set_option maxRecDepth 20000 in
theorem in_wsL_law0_r16 : ∀ w ∈ wsL_law0_r16, w ∈ lw_tbl := lw_r wsL_law0_r16 [57, 583, 744, 745, 746, 747, 748, 750, 27, 751, 584, 585, 586, 587, 588, 589, 590, 591, 593, 23, 594, 597, 599, 24] (by decide +kernel)
set_option maxRecDepth 20000 in
theorem in_wsL_law0_r17 : ∀ w ∈ wsL_law0_r17, w ∈ lw_tbl := lw_r wsL_law0_r17 [600, 233, 235, 1, 236, 601, 603, 25, 604, 808, 809, 810, 811, 656, 812, 814, 35, 815, 605, 606, 607, 608, 609, 610] (by decide +kernel)
set_option maxRecDepth 20000 in
theorem in_wsL_law0_r18 : ∀ w ∈ wsL_law0_r18, w ∈ lw_tbl := lw_r wsL_law0_r18 [611, 280, 282, 5, 283, 110, 112, 108, 284, 259, 260, 261, 262, 263, 285, 287, 6, 288, 816, 817, 818, 819, 820, 822] (by decide +kernel)
set_option maxRecDepth 20000 in
theorem in_wsL_law0_r19 : ∀ w ∈ wsL_law0_r19, w ∈ lw_tbl := lw_r wsL_law0_r19 [36, 823, 824, 826, 37, 827, 658, 612, 613, 614, 615, 616, 617, 618, 828, 829, 830, 831, 221, 222, 223, 224, 225, 227] (by decide +kernel)
set_option maxRecDepth 20000 in
theorem in_wsL_law0_r20 : ∀ w ∈ wsL_law0_r20, w ∈ lw_tbl := lw_r wsL_law0_r20 [0, 228, 145, 229, 230, 231, 232, 237, 238, 239, 240, 241, 242, 243, 244, 245, 246, 248, 2, 249, 250, 252, 3, 253] (by decide +kernel)
set_option maxRecDepth 20000 in
theorem in_wsL_law0_r21 : ∀ w ∈ wsL_law0_r21, w ∈ lw_tbl := lw_r wsL_law0_r21 [254, 256, 4, 257, 264, 265, 266, 267, 832, 833, 834, 835, 669, 670, 836, 838, 38, 839, 840, 841, 843, 39, 844, 845] (by decide +kernel)
set_option maxRecDepth 20000 in
theorem in_wsL_law0_r22 : ∀ w ∈ wsL_law0_r22, w ∈ lw_tbl := lw_r wsL_law0_r22 [847, 40, 848, 268, 269, 270, 271, 272, 273, 274, 275, 849, 850, 851, 852, 276, 277, 278, 279, 853, 854, 855, 856, 289] (by decide +kernel)
set_option maxRecDepth 20000 in
theorem in_wsL_law0_r23 : ∀ w ∈ wsL_law0_r23, w ∈ lw_tbl := lw_r wsL_law0_r23 [290, 291, 292, 293, 295, 7, 296, 857, 858, 859, 860, 621, 622, 623, 624, 625, 626, 627, 861, 862, 863, 864, 629, 630] (by decide +kernel)
set_option maxRecDepth 20000 in
theorem in_wsL_law0_r24 : ∀ w ∈ wsL_law0_r24, w ∈ lw_tbl := lw_r wsL_law0_r24 [631, 632, 633, 634, 635, 865, 866, 867, 868, 297, 298, 299, 300, 301, 303, 8, 304, 869, 870, 871, 872] (by decide +kernel)
theorem in_wsX00 : ∀ w ∈ wsX00, w ∈ lw_tbl := by decide +kernel
theorem in_wsX10 : ∀ w ∈ wsX10, w ∈ lw_tbl := by decide +kernel
theorem in_wsX20 : ∀ w ∈ wsX20, w ∈ lw_tbl := by decide +kernel
theorem in_wsX30 : ∀ w ∈ wsX30, w ∈ lw_tbl := by decide +kernel
theorem in_wsX40 : ∀ w ∈ wsX40, w ∈ lw_tbl := by decide +kernel
theorem wsL_law_in0 : ∀ w ∈ wsL_law0, w ∈ lw_tbl := lw_ap (lw_ap (lw_ap (lw_ap (lw_ap (lw_ap (lw_ap in_wsL_law0_r1 (lw_ap in_wsL_law0_r2 (lw_ap in_wsL_law0_r3 (lw_ap in_wsL_law0_r4 (lw_ap in_wsL_law0_r5 (lw_ap in_wsL_law0_r6 (lw_ap in_wsL_law0_r7 (lw_ap in_wsL_law0_r8 (lw_ap in_wsL_law0_r9 (lw_ap in_wsL_law0_r10 (lw_ap in_wsL_law0_r11 (lw_ap in_wsL_law0_r12 (lw_ap in_wsL_law0_r13 (lw_ap in_wsL_law0_r14 (lw_ap in_wsL_law0_r15 (lw_ap in_wsL_law0_r16 (lw_ap in_wsL_law0_r17 (lw_ap in_wsL_law0_r18 (lw_ap in_wsL_law0_r19 (lw_ap in_wsL_law0_r20 (lw_ap in_wsL_law0_r21 (lw_ap in_wsL_law0_r22 (lw_ap in_wsL_law0_r23 (in_wsL_law0_r24)))))))))))))))))))))))) in_wsX30) in_wsX40) in_wsX20) in_wsX00) in_wsX10) (fun _ h => absurd h List.not_mem_nil)
theorem wsL_law_x0 : ∀ w ∈ (vx_atS RX3 66 "java/lang/IllegalArgumentException" ["java/lang/RuntimeException", "java/lang/Exception"]).filter goodWord, w ∈ lw_tbl := by decide +kernel
theorem wsL_law_x1 : ∀ w ∈ (vx_atS RX3 76 "java/lang/IllegalStateException" ["java/lang/RuntimeException", "java/lang/Exception"]).filter goodWord, w ∈ lw_tbl := by decide +kernel
theorem wsL_law_x2 : ∀ w ∈ (vx_atS RX3 160 "java/lang/IndexOutOfBoundsException" ["java/lang/RuntimeException", "java/lang/Exception"]).filter goodWord, w ∈ lw_tbl := by decide +kernel
theorem wsL_law_in : ∀ w ∈ wsL_law, w ∈ lw_tbl := fun w h => (List.mem_append.mp h).elim (fun h => (List.mem_append.mp h).elim (fun h => (List.mem_append.mp h).elim (fun h => wsL_law_in0 w h) (fun h => wsL_law_x0 w h)) (fun h => wsL_law_x1 w h)) (fun h => wsL_law_x2 w h)
theorem inlX0 : ∀ w ∈ wsX00, w ∈ wsL_law := fun _ h => List.mem_append_left _ (List.mem_append_left _ (List.mem_append_left _ (List.mem_append_left _ (List.mem_append_left _ (List.mem_append_right _ h)))))
theorem inX0 : ∀ w ∈ wsX00, w ∈ lw_tbl := fun w h => wsL_law_in w (inlX0 w h)
theorem inlX1 : ∀ w ∈ wsX10, w ∈ wsL_law := fun _ h => List.mem_append_left _ (List.mem_append_left _ (List.mem_append_left _ (List.mem_append_left _ (List.mem_append_right _ h))))
theorem inX1 : ∀ w ∈ wsX10, w ∈ lw_tbl := fun w h => wsL_law_in w (inlX1 w h)
theorem inlX2 : ∀ w ∈ wsX20, w ∈ wsL_law := fun _ h => List.mem_append_left _ (List.mem_append_left _ (List.mem_append_left _ (List.mem_append_left _ (List.mem_append_left _ (List.mem_append_left _ (List.mem_append_right _ h))))))
theorem inX2 : ∀ w ∈ wsX20, w ∈ lw_tbl := fun w h => wsL_law_in w (inlX2 w h)
theorem inlX3 : ∀ w ∈ wsX30, w ∈ wsL_law := fun _ h => List.mem_append_left _ (List.mem_append_left _ (List.mem_append_left _ (List.mem_append_left _ (List.mem_append_left _ (List.mem_append_left _ (List.mem_append_left _ (List.mem_append_left _ (List.mem_append_right _ h))))))))
theorem inX3 : ∀ w ∈ wsX30, w ∈ lw_tbl := fun w h => wsL_law_in w (inlX3 w h)
theorem inlX4 : ∀ w ∈ wsX40, w ∈ wsL_law := fun _ h => List.mem_append_left _ (List.mem_append_left _ (List.mem_append_left _ (List.mem_append_left _ (List.mem_append_left _ (List.mem_append_left _ (List.mem_append_left _ (List.mem_append_right _ h)))))))
theorem inX4 : ∀ w ∈ wsX40, w ∈ lw_tbl := fun w h => wsL_law_in w (inlX4 w h)
theorem inJ9 : ∀ w ∈ wsJ90, w ∈ lw_tbl := by decide +kernel
theorem inJ0 : ∀ w ∈ wsJ00, w ∈ lw_tbl := by decide +kernel
theorem inJ1 : ∀ w ∈ wsJ10, w ∈ lw_tbl := by decide +kernel
theorem inJ2 : ∀ w ∈ wsJ20, w ∈ lw_tbl := by decide +kernel
theorem inJ3 : ∀ w ∈ wsJ30, w ∈ lw_tbl := by decide +kernel
