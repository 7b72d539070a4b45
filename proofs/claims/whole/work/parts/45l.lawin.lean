theorem mem_pl {big ws : List Cond} (ps : List Nat) (h : ps.map (fun i => big[i]?) = ws.map some) : ∀ w ∈ ws, w ∈ big := by
  intro w hw
  have h1 : some w ∈ ws.map some := List.mem_map.mpr ⟨w, hw, rfl⟩
  rw [← h] at h1
  obtain ⟨i, -, hi⟩ := List.mem_map.mp h1
  exact List.mem_of_getElem? hi
theorem mem_al {big ws : List Cond} (h : ws.all (fun w => decide (w ∈ big)) = true) : ∀ w ∈ ws, w ∈ big := fun w hw => of_decide_eq_true (List.all_eq_true.mp h w hw)
theorem mem_ap {big a b : List Cond} (h1 : ∀ w ∈ a, w ∈ big) (h2 : ∀ w ∈ b, w ∈ big) : ∀ w ∈ a ++ b, w ∈ big := fun w hw => (List.mem_append.mp hw).elim (h1 w) (h2 w)
set_option maxRecDepth 20000 in
theorem lin_1 : ∀ w ∈ wsL_law_r1, w ∈ lw_tbl := mem_pl [110, 111, 100, 698, 699, 104, 112, 113, 114, 115, 116, 117, 118, 119, 101, 220, 221, 222, 223, 224, 163, 164, 102, 225] (by decide +kernel)
set_option maxRecDepth 20000 in
theorem lin_2 : ∀ w ∈ wsL_law_r2, w ∈ lw_tbl := mem_pl [183, 184, 103, 226, 227, 228, 121, 122, 123, 161, 124, 125, 126, 162, 127, 128, 129, 130, 131, 132, 133, 134, 135, 166] (by decide +kernel)
set_option maxRecDepth 20000 in
theorem lin_3 : ∀ w ∈ wsL_law_r3, w ∈ lw_tbl := mem_pl [167, 168, 169, 172, 173, 174, 186, 187, 188, 219, 189, 190, 192, 193, 194, 195, 197, 198, 199, 700, 701, 702, 703, 704] (by decide +kernel)
set_option maxRecDepth 20000 in
theorem lin_4 : ∀ w ∈ wsL_law_r4, w ∈ lw_tbl := mem_pl [705, 706, 707, 709, 711, 712, 713, 248, 249, 250, 251, 254, 0, 255, 258, 1, 259, 261, 262, 264, 265, 266, 268, 2] (by decide +kernel)
set_option maxRecDepth 20000 in
theorem lin_5 : ∀ w ∈ wsL_law_r5, w ∈ lw_tbl := mem_pl [269, 270, 272, 3, 273, 274, 276, 4, 277, 278, 279, 280, 283, 5, 284, 290, 291, 105, 292, 285, 287, 6, 288, 753] (by decide +kernel)
set_option maxRecDepth 20000 in
theorem lin_6 : ∀ w ∈ wsL_law_r6, w ∈ lw_tbl := mem_pl [754, 755, 756, 757, 758, 759, 760, 761, 762, 763, 764, 765, 766, 767, 768, 769, 771, 64, 772, 773, 774, 775, 776, 778] (by decide +kernel)
set_option maxRecDepth 20000 in
theorem lin_7 : ∀ w ∈ wsL_law_r7, w ∈ lw_tbl := mem_pl [65, 779, 780, 782, 66, 783, 784, 786, 67, 787, 788, 790, 68, 791, 792, 794, 69, 795, 796, 798, 70, 799, 708, 293] (by decide +kernel)
set_option maxRecDepth 20000 in
theorem lin_8 : ∀ w ∈ wsL_law_r8, w ∈ lw_tbl := mem_pl [294, 295, 296, 299, 7, 300, 301, 303, 8, 304, 800, 801, 802, 803, 804, 806, 71, 807, 808, 305, 306, 307, 308, 311] (by decide +kernel)
set_option maxRecDepth 20000 in
theorem lin_9 : ∀ w ∈ wsL_law_r9, w ∈ lw_tbl := mem_pl [9, 312, 313, 315, 10, 316, 317, 318, 105, 319, 320, 322, 11, 323, 324, 326, 12, 327, 328, 329, 330, 809, 810, 811] (by decide +kernel)
set_option maxRecDepth 20000 in
theorem lin_10 : ∀ w ∈ wsL_law_r10, w ∈ lw_tbl := mem_pl [812, 813, 815, 72, 816, 817, 819, 73, 820, 821, 823, 74, 824, 331, 332, 333, 334, 337, 13, 338, 825, 826, 827, 828] (by decide +kernel)
set_option maxRecDepth 20000 in
theorem lin_11 : ∀ w ∈ wsL_law_r11, w ∈ lw_tbl := mem_pl [829, 831, 75, 832, 339, 340, 341, 342, 345, 14, 346, 833, 834, 835, 836, 347, 348, 349, 350, 353, 15, 354, 355, 357] (by decide +kernel)
set_option maxRecDepth 20000 in
theorem lin_12 : ∀ w ∈ wsL_law_r12, w ∈ lw_tbl := mem_pl [16, 358, 364, 365, 366, 359, 361, 17, 362, 363, 367, 369, 18, 370, 371, 373, 19, 374, 837, 838, 839, 840, 841, 842] (by decide +kernel)
set_option maxRecDepth 20000 in
theorem lin_13 : ∀ w ∈ wsL_law_r13, w ∈ lw_tbl := mem_pl [844, 76, 845, 846, 848, 77, 849, 850, 852, 78, 853, 375, 376, 377, 378, 381, 20, 382, 384, 385, 854, 855, 856, 857] (by decide +kernel)
set_option maxRecDepth 20000 in
theorem lin_14 : ∀ w ∈ wsL_law_r14, w ∈ lw_tbl := mem_pl [862, 858, 859, 860, 861, 386, 387, 388, 389, 392, 21, 393, 394, 396, 22, 397, 398, 400, 23, 401, 863, 864, 865, 866] (by decide +kernel)
set_option maxRecDepth 20000 in
theorem lin_15 : ∀ w ∈ wsL_law_r15, w ∈ lw_tbl := mem_pl [867, 868, 402, 403, 404, 405, 408, 24, 409, 869, 870, 871, 872, 714, 410, 411, 412, 413, 416, 25, 417, 873, 874, 875] (by decide +kernel)
set_option maxRecDepth 20000 in
theorem lin_16 : ∀ w ∈ wsL_law_r16, w ∈ lw_tbl := mem_pl [876, 418, 419, 420, 421, 424, 26, 425, 426, 428, 27, 429, 430, 432, 28, 433, 498, 434, 435, 436, 442, 444, 29, 445] (by decide +kernel)
set_option maxRecDepth 20000 in
theorem lin_17 : ∀ w ∈ wsL_law_r17, w ∈ lw_tbl := mem_pl [446, 447, 448, 106, 449, 1028, 450, 451, 452, 453, 454, 1029, 456, 458, 30, 459, 460, 461, 462, 463, 464, 465, 466, 467] (by decide +kernel)
set_option maxRecDepth 20000 in
theorem lin_18 : ∀ w ∈ wsL_law_r18, w ∈ lw_tbl := mem_pl [468, 469, 107, 470, 471, 472, 473, 474, 476, 477, 108, 478, 479, 480, 109, 481, 482, 483, 484, 485, 486, 487, 488, 489] (by decide +kernel)
set_option maxRecDepth 20000 in
theorem lin_19 : ∀ w ∈ wsL_law_r19, w ∈ lw_tbl := mem_pl [490, 491, 492, 494, 496, 499, 501, 31, 502, 503, 505, 32, 506, 507, 509, 33, 510, 511, 513, 34, 514, 515, 517, 35] (by decide +kernel)
set_option maxRecDepth 20000 in
theorem lin_20 : ∀ w ∈ wsL_law_r20, w ∈ lw_tbl := mem_pl [518, 521, 36, 522, 523, 525, 37, 526, 529, 38, 530, 533, 39, 534, 537, 40, 538, 539, 540, 541, 542, 543, 877, 878] (by decide +kernel)
set_option maxRecDepth 20000 in
theorem lin_21 : ∀ w ∈ wsL_law_r21, w ∈ lw_tbl := mem_pl [879, 880, 715, 881, 883, 79, 884, 885, 887, 80, 888, 717, 897, 911, 912, 913, 914, 889, 891, 81, 892, 893, 895, 82] (by decide +kernel)
set_option maxRecDepth 20000 in
theorem lin_22 : ∀ w ∈ wsL_law_r22, w ∈ lw_tbl := mem_pl [896, 898, 900, 83, 901, 902, 903, 905, 84, 906, 716, 718, 719, 907, 909, 85, 910, 915, 917, 86, 918, 545, 546, 547] (by decide +kernel)
set_option maxRecDepth 20000 in
theorem lin_23 : ∀ w ∈ wsL_law_r23, w ∈ lw_tbl := mem_pl [548, 919, 920, 921, 922, 549, 550, 551, 552, 555, 41, 556, 923, 924, 925, 926, 557, 558, 559, 560, 563, 42, 564, 927] (by decide +kernel)
set_option maxRecDepth 20000 in
theorem lin_24 : ∀ w ∈ wsL_law_r24, w ∈ lw_tbl := mem_pl [928, 929, 930, 710, 931, 933, 87, 934, 935, 937, 88, 938, 565, 566, 567, 568, 939, 940, 941, 942, 569, 570, 571, 572] (by decide +kernel)
set_option maxRecDepth 20000 in
theorem lin_25 : ∀ w ∈ wsL_law_r25, w ∈ lw_tbl := mem_pl [575, 43, 576, 577, 579, 44, 580, 581, 583, 45, 584, 943, 944, 945, 946, 947, 949, 89, 950, 585, 586, 587, 588, 591] (by decide +kernel)
set_option maxRecDepth 20000 in
theorem lin_26 : ∀ w ∈ wsL_law_r26, w ∈ lw_tbl := mem_pl [46, 592, 593, 595, 47, 596, 597, 599, 48, 600, 951, 952, 953, 954, 955, 957, 90, 958, 959, 961, 91, 962, 963, 965] (by decide +kernel)
set_option maxRecDepth 20000 in
theorem lin_27 : ∀ w ∈ wsL_law_r27, w ∈ lw_tbl := mem_pl [92, 966, 967, 969, 93, 970, 601, 602, 603, 604, 607, 49, 608, 971, 972, 973, 974, 609, 610, 611, 612, 615, 50, 616] (by decide +kernel)
set_option maxRecDepth 20000 in
theorem lin_28 : ∀ w ∈ wsL_law_r28, w ∈ lw_tbl := mem_pl [975, 976, 977, 978, 617, 618, 619, 620, 623, 51, 624, 979, 980, 981, 982, 625, 626, 627, 628, 631, 52, 632, 983, 984] (by decide +kernel)
set_option maxRecDepth 20000 in
theorem lin_29 : ∀ w ∈ wsL_law_r29, w ∈ lw_tbl := mem_pl [985, 986, 987, 989, 94, 990, 633, 634, 635, 636, 639, 53, 640, 991, 992, 993, 994, 641, 642, 643, 644, 647, 54, 648] (by decide +kernel)
set_option maxRecDepth 20000 in
theorem lin_30 : ∀ w ∈ wsL_law_r30, w ∈ lw_tbl := mem_pl [995, 996, 997, 998, 999, 649, 650, 651, 652, 655, 55, 656, 657, 659, 56, 660, 1000, 1001, 1002, 1003, 1004, 1006, 95, 1007] (by decide +kernel)
set_option maxRecDepth 20000 in
theorem lin_31 : ∀ w ∈ wsL_law_r31, w ∈ lw_tbl := mem_pl [661, 662, 663, 664, 667, 57, 668, 669, 671, 58, 672, 1008, 1009, 1010, 1011, 673, 674, 675, 676, 679, 59, 680, 681, 682] (by decide +kernel)
set_option maxRecDepth 20000 in
theorem lin_32 : ∀ w ∈ wsL_law_r32, w ∈ lw_tbl := mem_pl [684, 60, 685, 686, 688, 61, 689, 690, 692, 62, 693, 694, 696, 63, 697, 1012, 1013, 1014, 1015, 1016, 1018, 96, 1019, 1020] (by decide +kernel)
set_option maxRecDepth 20000 in
theorem lin_33 : ∀ w ∈ wsL_law_r33, w ∈ lw_tbl := mem_pl [1022, 97, 1023, 1024, 1026, 98, 1027] (by decide +kernel)
set_option maxRecDepth 20000 in
theorem lin_wsX30 : ∀ w ∈ wsX30, w ∈ lw_tbl := mem_al (by decide +kernel)
set_option maxRecDepth 20000 in
theorem lin_wsX40 : ∀ w ∈ wsX40, w ∈ lw_tbl := mem_al (by decide +kernel)
set_option maxRecDepth 20000 in
theorem lin_wsX20 : ∀ w ∈ wsX20, w ∈ lw_tbl := mem_al (by decide +kernel)
set_option maxRecDepth 20000 in
theorem lin_wsX00 : ∀ w ∈ wsX00, w ∈ lw_tbl := mem_al (by decide +kernel)
set_option maxRecDepth 20000 in
theorem lin_wsX10 : ∀ w ∈ wsX10, w ∈ lw_tbl := mem_al (by decide +kernel)
theorem wsL_law_in : ∀ w ∈ wsL_law, w ∈ lw_tbl := mem_ap (mem_ap (mem_ap (mem_ap (mem_ap (mem_ap (mem_ap lin_1 (mem_ap lin_2 (mem_ap lin_3 (mem_ap lin_4 (mem_ap lin_5 (mem_ap lin_6 (mem_ap lin_7 (mem_ap lin_8 (mem_ap lin_9 (mem_ap lin_10 (mem_ap lin_11 (mem_ap lin_12 (mem_ap lin_13 (mem_ap lin_14 (mem_ap lin_15 (mem_ap lin_16 (mem_ap lin_17 (mem_ap lin_18 (mem_ap lin_19 (mem_ap lin_20 (mem_ap lin_21 (mem_ap lin_22 (mem_ap lin_23 (mem_ap lin_24 (mem_ap lin_25 (mem_ap lin_26 (mem_ap lin_27 (mem_ap lin_28 (mem_ap lin_29 (mem_ap lin_30 (mem_ap lin_31 (mem_ap lin_32 (lin_33))))))))))))))))))))))))))))))))) lin_wsX30) lin_wsX40) lin_wsX20) lin_wsX00) lin_wsX10) (fun _ h => absurd h List.not_mem_nil)
theorem inlX0 : ∀ w ∈ wsX00, w ∈ wsL_law := fun _ h => List.mem_append_left _ (List.mem_append_left _ (List.mem_append_right _ h))
theorem inX0 : ∀ w ∈ wsX00, w ∈ lw_tbl := fun w h => wsL_law_in w (inlX0 w h)
theorem inlX1 : ∀ w ∈ wsX10, w ∈ wsL_law := fun _ h => List.mem_append_left _ (List.mem_append_right _ h)
theorem inX1 : ∀ w ∈ wsX10, w ∈ lw_tbl := fun w h => wsL_law_in w (inlX1 w h)
theorem inlX2 : ∀ w ∈ wsX20, w ∈ wsL_law := fun _ h => List.mem_append_left _ (List.mem_append_left _ (List.mem_append_left _ (List.mem_append_right _ h)))
theorem inX2 : ∀ w ∈ wsX20, w ∈ lw_tbl := fun w h => wsL_law_in w (inlX2 w h)
theorem inlX3 : ∀ w ∈ wsX30, w ∈ wsL_law := fun _ h => List.mem_append_left _ (List.mem_append_left _ (List.mem_append_left _ (List.mem_append_left _ (List.mem_append_left _ (List.mem_append_right _ h)))))
theorem inX3 : ∀ w ∈ wsX30, w ∈ lw_tbl := fun w h => wsL_law_in w (inlX3 w h)
theorem inlX4 : ∀ w ∈ wsX40, w ∈ wsL_law := fun _ h => List.mem_append_left _ (List.mem_append_left _ (List.mem_append_left _ (List.mem_append_left _ (List.mem_append_right _ h))))
theorem inX4 : ∀ w ∈ wsX40, w ∈ lw_tbl := fun w h => wsL_law_in w (inlX4 w h)
theorem inJ9 : ∀ w ∈ wsJ90, w ∈ lw_tbl := by decide +kernel
theorem inJ0 : ∀ w ∈ wsJ00, w ∈ lw_tbl := by decide +kernel
theorem inJ1 : ∀ w ∈ wsJ10, w ∈ lw_tbl := by decide +kernel
theorem inJ2 : ∀ w ∈ wsJ20, w ∈ lw_tbl := by decide +kernel
theorem inJ3 : ∀ w ∈ wsJ30, w ∈ lw_tbl := by decide +kernel
set_option maxRecDepth 20000 in
theorem ggX0_init_X2_init : GoodIn wsX0_init wsX2_init := goodIn_r _ [11, 12, 2, 3, 13, 14, 15, 16, 17, 18, 19, 20, 21, 22, 23, 24, 25, 26, 30, 31, 32, 33, 34, 35, 36, 37, 38, 39, 40, 41] (by decide +kernel) (by decide +kernel)
set_option maxRecDepth 20000 in
theorem gX0_init_X2_init_n24 : GoodIn wsX0_init (wsX2_init) := ggX0_init_X2_init
