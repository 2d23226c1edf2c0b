set_option maxRecDepth 20000 in
theorem gb_lw_1 : ∀ w ∈ wsL_law0_r1, w ∈ lw_tbl := fun w h => (goodIn_r wsL_law0_r1 [58, 59, 36, 640, 641, 47, 871, 60, 61, 62, 63, 64, 65, 66, 67, 39, 207, 208, 209, 210, 92, 93, 40, 211] (by decide +kernel) (by decide +kernel) w h).1
set_option maxRecDepth 20000 in
theorem gb_lw_2 : ∀ w ∈ wsL_law0_r2, w ∈ lw_tbl := fun w h => (goodIn_r wsL_law0_r2 [212, 213, 105, 106, 41, 185, 186, 46, 68, 69, 70, 78, 80, 71, 72, 38, 73, 82, 74, 75, 37, 76, 77, 95] (by decide +kernel) (by decide +kernel) w h).1
set_option maxRecDepth 20000 in
theorem gb_lw_3 : ∀ w ∈ wsL_law0_r3, w ∈ lw_tbl := fun w h => (goodIn_r wsL_law0_r3 [96, 97, 98, 99, 107, 108, 109, 110, 111, 116, 113, 118, 127, 128, 129, 130, 83, 84, 81, 131, 133, 0, 134, 135] (by decide +kernel) (by decide +kernel) w h).1
set_option maxRecDepth 20000 in
theorem gb_lw_4 : ∀ w ∈ wsL_law0_r4, w ∈ lw_tbl := fun w h => (goodIn_r wsL_law0_r4 [137, 1, 138, 139, 141, 2, 142, 183, 147, 43, 148, 184, 143, 144, 42, 145, 146, 149, 150, 151, 152, 153, 154, 44] (by decide +kernel) (by decide +kernel) w h).1
set_option maxRecDepth 20000 in
theorem gb_lw_5 : ∀ w ∈ wsL_law0_r5, w ∈ lw_tbl := fun w h => (goodIn_r wsL_law0_r5 [155, 156, 887, 157, 170, 171, 172, 173, 174, 176, 177, 178, 179, 180, 182, 181, 45, 187, 188, 189, 190, 192, 194, 196] (by decide +kernel) (by decide +kernel) w h).1
set_option maxRecDepth 20000 in
theorem gb_lw_6 : ∀ w ∈ wsL_law0_r6, w ∈ lw_tbl := fun w h => (goodIn_r wsL_law0_r6 [191, 642, 643, 644, 645, 713, 649, 714, 650, 651, 653, 655, 656, 657, 658, 659, 660, 662, 663, 664, 665, 666, 667, 280] (by decide +kernel) (by decide +kernel) w h).1
set_option maxRecDepth 20000 in
theorem gb_lw_7 : ∀ w ∈ wsL_law0_r7, w ∈ lw_tbl := fun w h => (goodIn_r wsL_law0_r7 [281, 35, 282, 283, 284, 285, 286, 287, 288, 105, 117, 289, 291, 5, 292, 237, 238, 239, 240, 293, 294, 295, 296, 51] (by decide +kernel) (by decide +kernel) w h).1
set_option maxRecDepth 20000 in
theorem gb_lw_8 : ∀ w ∈ wsL_law0_r8, w ∈ lw_tbl := fun w h => (goodIn_r wsL_law0_r8 [364, 365, 366, 367, 368, 369, 370, 52, 249, 250, 251, 252, 253, 254, 53, 255, 256, 257, 54, 258, 259, 260, 261, 262] (by decide +kernel) (by decide +kernel) w h).1
set_option maxRecDepth 20000 in
theorem gb_lw_9 : ∀ w ∈ wsL_law0_r9, w ∈ lw_tbl := fun w h => (goodIn_r wsL_law0_r9 [386, 387, 388, 389, 390, 391, 392, 393, 719, 720, 721, 722, 646, 723, 724, 725, 726, 727, 728, 729, 730, 731, 732, 734] (by decide +kernel) (by decide +kernel) w h).1
set_option maxRecDepth 20000 in
theorem gb_lw_10 : ∀ w ∈ wsL_law0_r10, w ∈ lw_tbl := fun w h => (goodIn_r wsL_law0_r10 [21, 735, 647, 715, 716, 717, 718, 394, 395, 396, 397, 398, 399, 400, 119, 736, 737, 738, 739, 401, 402, 403, 404, 405] (by decide +kernel) (by decide +kernel) w h).1
set_option maxRecDepth 20000 in
theorem gb_lw_11 : ∀ w ∈ wsL_law0_r11, w ∈ lw_tbl := fun w h => (goodIn_r wsL_law0_r11 [406, 407, 740, 741, 742, 743, 652, 744, 746, 22, 747, 408, 409, 410, 411, 412, 413, 414, 415, 271, 440, 56, 416, 418] (by decide +kernel) (by decide +kernel) w h).1
set_option maxRecDepth 20000 in
theorem gb_lw_12 : ∀ w ∈ wsL_law0_r12, w ∈ lw_tbl := fun w h => (goodIn_r wsL_law0_r12 [7, 419, 420, 422, 8, 423, 424, 55, 441, 442, 443, 444, 453, 445, 447, 449, 451, 466, 468, 9, 469, 446, 470, 472] (by decide +kernel) (by decide +kernel) w h).1
set_option maxRecDepth 20000 in
theorem gb_lw_13 : ∀ w ∈ wsL_law0_r13, w ∈ lw_tbl := fun w h => (goodIn_r wsL_law0_r13 [10, 473, 454, 474, 475, 476, 57, 477, 478, 479, 480, 481, 483, 485, 487, 748, 749, 750, 751, 654, 752, 753, 754, 755] (by decide +kernel) (by decide +kernel) w h).1
set_option maxRecDepth 20000 in
theorem gb_lw_14 : ∀ w ∈ wsL_law0_r14, w ∈ lw_tbl := fun w h => (goodIn_r wsL_law0_r14 [757, 23, 758, 759, 761, 24, 762, 661, 648, 498, 499, 500, 501, 502, 503, 504, 271, 448, 450, 452, 505, 507, 11, 508] (by decide +kernel) (by decide +kernel) w h).1
set_option maxRecDepth 20000 in
theorem gb_lw_15 : ∀ w ∈ wsL_law0_r15, w ∈ lw_tbl := fun w h => (goodIn_r wsL_law0_r15 [510, 512, 12, 513, 763, 764, 765, 766, 767, 769, 25, 770, 516, 517, 518, 519, 520, 521, 522, 771, 772, 773, 774, 523] (by decide +kernel) (by decide +kernel) w h).1
set_option maxRecDepth 20000 in
theorem gb_lw_16 : ∀ w ∈ wsL_law0_r16, w ∈ lw_tbl := fun w h => (goodIn_r wsL_law0_r16 [524, 525, 526, 527, 528, 529, 185, 193, 530, 532, 13, 533, 775, 776, 777, 778, 534, 535, 536, 537, 538, 539, 540, 542] (by decide +kernel) (by decide +kernel) w h).1
set_option maxRecDepth 20000 in
theorem gb_lw_17 : ∀ w ∈ wsL_law0_r17, w ∈ lw_tbl := fun w h => (goodIn_r wsL_law0_r17 [544, 14, 545, 546, 548, 15, 549, 550, 552, 16, 553, 558, 267, 269, 4, 270, 272, 273, 274, 275, 114, 245, 247, 3] (by decide +kernel) (by decide +kernel) w h).1
set_option maxRecDepth 20000 in
theorem gb_lw_18 : ∀ w ∈ wsL_law0_r18, w ∈ lw_tbl := fun w h => (goodIn_r wsL_law0_r18 [248, 263, 264, 265, 266, 554, 556, 17, 557, 195, 197, 559, 561, 18, 562, 563, 565, 19, 566, 779, 780, 781, 782, 783] (by decide +kernel) (by decide +kernel) w h).1
set_option maxRecDepth 20000 in
theorem gb_lw_19 : ∀ w ∈ wsL_law0_r19, w ∈ lw_tbl := fun w h => (goodIn_r wsL_law0_r19 [785, 26, 786, 787, 789, 27, 790, 791, 793, 28, 794, 795, 797, 29, 798, 799, 801, 30, 802, 803, 805, 31, 806, 807] (by decide +kernel) (by decide +kernel) w h).1
set_option maxRecDepth 20000 in
theorem gb_lw_20 : ∀ w ∈ wsL_law0_r20, w ∈ lw_tbl := fun w h => (goodIn_r wsL_law0_r20 [809, 32, 810, 567, 568, 569, 570, 571, 572, 573, 811, 812, 813, 814, 229, 230, 231, 232, 815, 816, 817, 818, 575, 576] (by decide +kernel) (by decide +kernel) w h).1
set_option maxRecDepth 20000 in
theorem gb_lw_21 : ∀ w ∈ wsL_law0_r21, w ∈ lw_tbl := fun w h => (goodIn_r wsL_law0_r21 [577, 578, 579, 580, 581, 819, 820, 821, 822, 233, 234, 235, 236, 823, 824, 825, 826, 582, 583, 584, 585, 586, 587, 588] (by decide +kernel) (by decide +kernel) w h).1
set_option maxRecDepth 20000 in
theorem gb_lw_22 : ∀ w ∈ wsL_law0_r22, w ∈ lw_tbl := fun w h => (goodIn_r wsL_law0_r22 [827, 828, 829, 830, 831, 833, 33, 834, 589, 590, 591, 592, 593, 594, 595, 115, 835, 836, 837, 838, 596, 597, 598, 599] (by decide +kernel) (by decide +kernel) w h).1
set_option maxRecDepth 20000 in
theorem gb_lw_23 : ∀ w ∈ wsL_law0_r23, w ∈ lw_tbl := fun w h => (goodIn_r wsL_law0_r23 [600, 601, 602, 603, 604, 605, 606, 839, 840, 841, 842, 607, 608, 609, 610, 611, 612, 613, 475, 484, 486, 843, 844, 845] (by decide +kernel) (by decide +kernel) w h).1
set_option maxRecDepth 20000 in
theorem gb_lw_24 : ∀ w ∈ wsL_law0_r24, w ∈ lw_tbl := fun w h => (goodIn_r wsL_law0_r24 [846, 241, 242, 243, 244, 847, 848, 849, 850, 276, 277, 278, 279, 851, 852, 853, 854, 614, 615, 616, 617, 618, 619, 620] (by decide +kernel) (by decide +kernel) w h).1
set_option maxRecDepth 20000 in
theorem gb_lw_25 : ∀ w ∈ wsL_law0_r25, w ∈ lw_tbl := fun w h => (goodIn_r wsL_law0_r25 [621, 623, 20, 624, 855, 856, 857, 858, 859, 861, 34, 862, 625, 626, 627, 628, 629, 630, 631, 488, 863, 864, 865, 866] (by decide +kernel) (by decide +kernel) w h).1
set_option maxRecDepth 20000 in
theorem gb_lw_26 : ∀ w ∈ wsL_law0_r26, w ∈ lw_tbl := fun w h => (goodIn_r wsL_law0_r26 [632, 633, 634, 635, 636, 637, 638, 482, 867, 868, 869, 870] (by decide +kernel) (by decide +kernel) w h).1
set_option maxRecDepth 20000 in
theorem gb_lw_X5 : ∀ w ∈ wsX50, w ∈ lw_tbl := by decide +kernel
set_option maxRecDepth 20000 in
theorem gb_lw_X6 : ∀ w ∈ wsX60, w ∈ lw_tbl := by decide +kernel
set_option maxRecDepth 20000 in
theorem gb_lw_Jx4a65c : ∀ w ∈ wsJx4a65c0, w ∈ lw_tbl := by decide +kernel
set_option maxRecDepth 20000 in
theorem gb_lw_X0 : ∀ w ∈ wsX00, w ∈ lw_tbl := by decide +kernel
set_option maxRecDepth 20000 in
theorem gb_lw_X1 : ∀ w ∈ wsX10, w ∈ lw_tbl := by decide +kernel
set_option maxRecDepth 20000 in
theorem gb_lw_X4 : ∀ w ∈ wsX40, w ∈ lw_tbl := by decide +kernel
set_option maxRecDepth 20000 in
theorem gb_lw_X3 : ∀ w ∈ wsX30, w ∈ lw_tbl := by decide +kernel
set_option maxRecDepth 20000 in
theorem gb_lw_X2 : ∀ w ∈ wsX20, w ∈ lw_tbl := by decide +kernel
set_option maxRecDepth 20000 in
theorem wsL_law_in0 : ∀ w ∈ wsL_law0, w ∈ lw_tbl := List.forall_mem_append.mpr ⟨List.forall_mem_append.mpr ⟨List.forall_mem_append.mpr ⟨List.forall_mem_append.mpr ⟨List.forall_mem_append.mpr ⟨List.forall_mem_append.mpr ⟨List.forall_mem_append.mpr ⟨List.forall_mem_append.mpr ⟨List.forall_mem_append.mpr ⟨List.forall_mem_append.mpr ⟨gb_lw_1, List.forall_mem_append.mpr ⟨gb_lw_2, List.forall_mem_append.mpr ⟨gb_lw_3, List.forall_mem_append.mpr ⟨gb_lw_4, List.forall_mem_append.mpr ⟨gb_lw_5, List.forall_mem_append.mpr ⟨gb_lw_6, List.forall_mem_append.mpr ⟨gb_lw_7, List.forall_mem_append.mpr ⟨gb_lw_8, List.forall_mem_append.mpr ⟨gb_lw_9, List.forall_mem_append.mpr ⟨gb_lw_10, List.forall_mem_append.mpr ⟨gb_lw_11, List.forall_mem_append.mpr ⟨gb_lw_12, List.forall_mem_append.mpr ⟨gb_lw_13, List.forall_mem_append.mpr ⟨gb_lw_14, List.forall_mem_append.mpr ⟨gb_lw_15, List.forall_mem_append.mpr ⟨gb_lw_16, List.forall_mem_append.mpr ⟨gb_lw_17, List.forall_mem_append.mpr ⟨gb_lw_18, List.forall_mem_append.mpr ⟨gb_lw_19, List.forall_mem_append.mpr ⟨gb_lw_20, List.forall_mem_append.mpr ⟨gb_lw_21, List.forall_mem_append.mpr ⟨gb_lw_22, List.forall_mem_append.mpr ⟨gb_lw_23, List.forall_mem_append.mpr ⟨gb_lw_24, List.forall_mem_append.mpr ⟨gb_lw_25, gb_lw_26⟩⟩⟩⟩⟩⟩⟩⟩⟩⟩⟩⟩⟩⟩⟩⟩⟩⟩⟩⟩⟩⟩⟩⟩⟩, gb_lw_X5⟩, gb_lw_X6⟩, gb_lw_Jx4a65c⟩, gb_lw_X0⟩, gb_lw_X1⟩, gb_lw_X4⟩, gb_lw_X3⟩, gb_lw_X2⟩, fun _ h => absurd h List.not_mem_nil⟩
theorem wsL_law_x0 : ∀ w ∈ (vx_atS RX5 198 "java/lang/IndexOutOfBoundsException" ["java/lang/RuntimeException", "java/lang/Exception"]).filter goodWord, w ∈ lw_tbl := by decide +kernel
theorem wsL_law_x1 : ∀ w ∈ (vx_atS RX5 112 "java/lang/IllegalArgumentException" ["java/lang/RuntimeException", "java/lang/Exception"]).filter goodWord, w ∈ lw_tbl := by decide +kernel
theorem wsL_law_x2 : ∀ w ∈ (vx_atS RX5 126 "java/lang/IllegalStateException" ["java/lang/RuntimeException", "java/lang/Exception"]).filter goodWord, w ∈ lw_tbl := by decide +kernel
theorem wsL_law_in : ∀ w ∈ wsL_law, w ∈ lw_tbl := fun w h => (List.mem_append.mp h).elim (fun h => (List.mem_append.mp h).elim (fun h => (List.mem_append.mp h).elim (fun h => wsL_law_in0 w h) (fun h => wsL_law_x0 w h)) (fun h => wsL_law_x1 w h)) (fun h => wsL_law_x2 w h)
theorem inlX0 : ∀ w ∈ wsX00, w ∈ wsL_law := fun _ h => List.mem_append_left _ (List.mem_append_left _ (List.mem_append_left _ (List.mem_append_left _ (List.mem_append_left _ (List.mem_append_left _ (List.mem_append_left _ (List.mem_append_left _ (List.mem_append_right _ h))))))))
theorem inX0 : ∀ w ∈ wsX00, w ∈ lw_tbl := fun w h => wsL_law_in w (inlX0 w h)
theorem inlX1 : ∀ w ∈ wsX10, w ∈ wsL_law := fun _ h => List.mem_append_left _ (List.mem_append_left _ (List.mem_append_left _ (List.mem_append_left _ (List.mem_append_left _ (List.mem_append_left _ (List.mem_append_left _ (List.mem_append_right _ h)))))))
theorem inX1 : ∀ w ∈ wsX10, w ∈ lw_tbl := fun w h => wsL_law_in w (inlX1 w h)
theorem inlX2 : ∀ w ∈ wsX20, w ∈ wsL_law := fun _ h => List.mem_append_left _ (List.mem_append_left _ (List.mem_append_left _ (List.mem_append_left _ (List.mem_append_right _ h))))
theorem inX2 : ∀ w ∈ wsX20, w ∈ lw_tbl := fun w h => wsL_law_in w (inlX2 w h)
theorem inlX3 : ∀ w ∈ wsX30, w ∈ wsL_law := fun _ h => List.mem_append_left _ (List.mem_append_left _ (List.mem_append_left _ (List.mem_append_left _ (List.mem_append_left _ (List.mem_append_right _ h)))))
theorem inX3 : ∀ w ∈ wsX30, w ∈ lw_tbl := fun w h => wsL_law_in w (inlX3 w h)
theorem inlX4 : ∀ w ∈ wsX40, w ∈ wsL_law := fun _ h => List.mem_append_left _ (List.mem_append_left _ (List.mem_append_left _ (List.mem_append_left _ (List.mem_append_left _ (List.mem_append_left _ (List.mem_append_right _ h))))))
theorem inX4 : ∀ w ∈ wsX40, w ∈ lw_tbl := fun w h => wsL_law_in w (inlX4 w h)
theorem inlX5 : ∀ w ∈ wsX50, w ∈ wsL_law := fun _ h => List.mem_append_left _ (List.mem_append_left _ (List.mem_append_left _ (List.mem_append_left _ (List.mem_append_left _ (List.mem_append_left _ (List.mem_append_left _ (List.mem_append_left _ (List.mem_append_left _ (List.mem_append_left _ (List.mem_append_left _ (List.mem_append_right _ h)))))))))))
theorem inX5 : ∀ w ∈ wsX50, w ∈ lw_tbl := fun w h => wsL_law_in w (inlX5 w h)
theorem inlX6 : ∀ w ∈ wsX60, w ∈ wsL_law := fun _ h => List.mem_append_left _ (List.mem_append_left _ (List.mem_append_left _ (List.mem_append_left _ (List.mem_append_left _ (List.mem_append_left _ (List.mem_append_left _ (List.mem_append_left _ (List.mem_append_left _ (List.mem_append_left _ (List.mem_append_right _ h))))))))))
theorem inX6 : ∀ w ∈ wsX60, w ∈ lw_tbl := fun w h => wsL_law_in w (inlX6 w h)
theorem inJx145de : ∀ w ∈ wsJx145de0, w ∈ lw_tbl := by decide +kernel
theorem inJx8e188 : ∀ w ∈ wsJx8e1880, w ∈ lw_tbl := by decide +kernel
theorem inJxab1ab : ∀ w ∈ wsJxab1ab0, w ∈ lw_tbl := by decide +kernel
theorem inJ9 : ∀ w ∈ wsJ90, w ∈ lw_tbl := by decide +kernel
theorem inJ0 : ∀ w ∈ wsJ00, w ∈ lw_tbl := by decide +kernel
theorem inJ10 : ∀ w ∈ wsJ100, w ∈ lw_tbl := by decide +kernel
theorem inJxa1e45 : ∀ w ∈ wsJxa1e450, w ∈ lw_tbl := by decide +kernel
theorem inJxc12de : ∀ w ∈ wsJxc12de0, w ∈ lw_tbl := by decide +kernel
theorem inlJx4a65c : ∀ w ∈ wsJx4a65c0, w ∈ wsL_law := fun _ h => List.mem_append_left _ (List.mem_append_left _ (List.mem_append_left _ (List.mem_append_left _ (List.mem_append_left _ (List.mem_append_left _ (List.mem_append_left _ (List.mem_append_left _ (List.mem_append_left _ (List.mem_append_right _ h)))))))))
theorem inJx4a65c : ∀ w ∈ wsJx4a65c0, w ∈ lw_tbl := fun w h => wsL_law_in w (inlJx4a65c w h)
theorem inJ7 : ∀ w ∈ wsJ70, w ∈ lw_tbl := by decide +kernel
theorem inJx5ef63 : ∀ w ∈ wsJx5ef630, w ∈ lw_tbl := by decide +kernel
theorem inJxbd725 : ∀ w ∈ wsJxbd7250, w ∈ lw_tbl := by decide +kernel
theorem inJ15 : ∀ w ∈ wsJ150, w ∈ lw_tbl := by decide +kernel
theorem inJxf0a74 : ∀ w ∈ wsJxf0a740, w ∈ lw_tbl := by decide +kernel
theorem inJxa66e6 : ∀ w ∈ wsJxa66e60, w ∈ lw_tbl := by decide +kernel
theorem inJ8 : ∀ w ∈ wsJ80, w ∈ lw_tbl := by decide +kernel
theorem inJ3 : ∀ w ∈ wsJ30, w ∈ lw_tbl := by decide +kernel
