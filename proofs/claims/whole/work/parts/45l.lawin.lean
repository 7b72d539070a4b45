theorem mem_pl {big ws : List Cond} (ps : List Nat) (h : ps.map (fun i => big[i]?) = ws.map some) : ∀ w ∈ ws, w ∈ big := by
  intro w hw
  have h1 : some w ∈ ws.map some := List.mem_map.mpr ⟨w, hw, rfl⟩
  rw [← h] at h1
  obtain ⟨i, -, hi⟩ := List.mem_map.mp h1
  exact List.mem_of_getElem? hi
theorem mem_al {big ws : List Cond} (h : ws.all (fun w => decide (w ∈ big)) = true) : ∀ w ∈ ws, w ∈ big := fun w hw => of_decide_eq_true (List.all_eq_true.mp h w hw)
theorem mem_ap {big a b : List Cond} (h1 : ∀ w ∈ a, w ∈ big) (h2 : ∀ w ∈ b, w ∈ big) : ∀ w ∈ a ++ b, w ∈ big := fun w hw => (List.mem_append.mp hw).elim (h1 w) (h2 w)
set_option maxRecDepth 20000 in
theorem lin_1 : ∀ w ∈ wsL_law_r1, w ∈ lw_tbl := mem_pl [110, 111, 100, 699, 700, 104, 112, 113, 114, 115, 116, 117, 118, 119, 101, 220, 221, 222, 223, 224, 163, 164, 102, 225] (by decide +kernel)
set_option maxRecDepth 20000 in
theorem lin_2 : ∀ w ∈ wsL_law_r2, w ∈ lw_tbl := mem_pl [183, 184, 103, 226, 227, 228, 121, 122, 123, 161, 124, 125, 126, 162, 127, 128, 129, 130, 131, 132, 133, 134, 135, 166] (by decide +kernel)
set_option maxRecDepth 20000 in
theorem lin_3 : ∀ w ∈ wsL_law_r3, w ∈ lw_tbl := mem_pl [167, 168, 169, 172, 173, 174, 186, 187, 188, 219, 189, 190, 192, 193, 194, 195, 197, 198, 199, 701, 702, 703, 704, 705] (by decide +kernel)
set_option maxRecDepth 20000 in
theorem lin_4 : ∀ w ∈ wsL_law_r4, w ∈ lw_tbl := mem_pl [706, 707, 708, 710, 712, 713, 714, 248, 249, 250, 251, 254, 0, 255, 258, 1, 259, 261, 262, 264, 265, 266, 268, 2] (by decide +kernel)
set_option maxRecDepth 20000 in
theorem lin_5 : ∀ w ∈ wsL_law_r5, w ∈ lw_tbl := mem_pl [269, 270, 272, 3, 273, 274, 276, 4, 277, 278, 279, 280, 283, 5, 284, 290, 291, 105, 292, 285, 287, 6, 288, 754] (by decide +kernel)
set_option maxRecDepth 20000 in
theorem lin_6 : ∀ w ∈ wsL_law_r6, w ∈ lw_tbl := mem_pl [755, 756, 757, 758, 759, 760, 761, 762, 763, 764, 765, 766, 767, 768, 769, 770, 772, 64, 773, 774, 775, 776, 777, 779] (by decide +kernel)
set_option maxRecDepth 20000 in
theorem lin_7 : ∀ w ∈ wsL_law_r7, w ∈ lw_tbl := mem_pl [65, 780, 781, 783, 66, 784, 785, 787, 67, 788, 789, 791, 68, 792, 793, 795, 69, 796, 797, 799, 70, 800, 709, 293] (by decide +kernel)
set_option maxRecDepth 20000 in
theorem lin_8 : ∀ w ∈ wsL_law_r8, w ∈ lw_tbl := mem_pl [294, 295, 296, 299, 7, 300, 301, 303, 8, 304, 801, 802, 803, 804, 805, 807, 71, 808, 809, 305, 306, 307, 308, 311] (by decide +kernel)
set_option maxRecDepth 20000 in
theorem lin_9 : ∀ w ∈ wsL_law_r9, w ∈ lw_tbl := mem_pl [9, 312, 313, 315, 10, 316, 317, 319, 11, 320, 321, 322, 105, 323, 324, 326, 12, 327, 329, 330, 331, 333, 13, 334] (by decide +kernel)
set_option maxRecDepth 20000 in
theorem lin_10 : ∀ w ∈ wsL_law_r10, w ∈ lw_tbl := mem_pl [335, 337, 14, 338, 339, 340, 341, 810, 811, 812, 813, 814, 816, 72, 817, 818, 820, 73, 821, 822, 824, 74, 825, 342] (by decide +kernel)
set_option maxRecDepth 20000 in
theorem lin_11 : ∀ w ∈ wsL_law_r11, w ∈ lw_tbl := mem_pl [343, 344, 345, 348, 15, 349, 826, 827, 828, 829, 830, 832, 75, 833, 350, 351, 352, 353, 356, 16, 357, 834, 835, 836] (by decide +kernel)
set_option maxRecDepth 20000 in
theorem lin_12 : ∀ w ∈ wsL_law_r12, w ∈ lw_tbl := mem_pl [837, 358, 359, 360, 361, 364, 17, 365, 366, 368, 18, 369, 375, 376, 377, 370, 372, 19, 373, 374, 378, 380, 20, 381] (by decide +kernel)
set_option maxRecDepth 20000 in
theorem lin_13 : ∀ w ∈ wsL_law_r13, w ∈ lw_tbl := mem_pl [838, 839, 840, 841, 842, 843, 845, 76, 846, 847, 849, 77, 850, 851, 853, 78, 854, 382, 383, 384, 385, 388, 21, 389] (by decide +kernel)
set_option maxRecDepth 20000 in
theorem lin_14 : ∀ w ∈ wsL_law_r14, w ∈ lw_tbl := mem_pl [855, 856, 857, 858, 863, 859, 860, 861, 862, 390, 391, 392, 393, 396, 22, 397, 398, 400, 23, 401, 402, 404, 24, 405] (by decide +kernel)
set_option maxRecDepth 20000 in
theorem lin_15 : ∀ w ∈ wsL_law_r15, w ∈ lw_tbl := mem_pl [864, 865, 866, 867, 868, 869, 406, 407, 408, 409, 412, 25, 413, 870, 871, 872, 873, 715, 414, 415, 416, 417, 420, 26] (by decide +kernel)
set_option maxRecDepth 20000 in
theorem lin_16 : ∀ w ∈ wsL_law_r16, w ∈ lw_tbl := mem_pl [421, 874, 875, 876, 877, 422, 423, 424, 425, 428, 27, 429, 430, 432, 28, 433, 434, 436, 29, 437, 502, 438, 439, 440] (by decide +kernel)
set_option maxRecDepth 20000 in
theorem lin_17 : ∀ w ∈ wsL_law_r17, w ∈ lw_tbl := mem_pl [446, 448, 30, 449, 450, 451, 452, 106, 453, 1029, 454, 455, 456, 457, 458, 1030, 460, 462, 31, 463, 464, 465, 466, 467] (by decide +kernel)
set_option maxRecDepth 20000 in
theorem lin_18 : ∀ w ∈ wsL_law_r18, w ∈ lw_tbl := mem_pl [468, 469, 470, 471, 472, 473, 107, 474, 475, 476, 477, 478, 480, 481, 108, 482, 483, 484, 109, 485, 486, 487, 488, 489] (by decide +kernel)
set_option maxRecDepth 20000 in
theorem lin_19 : ∀ w ∈ wsL_law_r19, w ∈ lw_tbl := mem_pl [490, 491, 492, 493, 494, 495, 496, 498, 500, 503, 505, 32, 506, 507, 509, 33, 510, 511, 513, 34, 514, 515, 517, 35] (by decide +kernel)
set_option maxRecDepth 20000 in
theorem lin_20 : ∀ w ∈ wsL_law_r20, w ∈ lw_tbl := mem_pl [518, 519, 521, 36, 522, 525, 37, 526, 527, 529, 38, 530, 533, 39, 534, 537, 40, 538, 541, 41, 542, 543, 544, 545] (by decide +kernel)
set_option maxRecDepth 20000 in
theorem lin_21 : ∀ w ∈ wsL_law_r21, w ∈ lw_tbl := mem_pl [546, 547, 878, 879, 880, 881, 716, 882, 884, 79, 885, 886, 888, 80, 889, 718, 898, 912, 913, 914, 915, 890, 892, 81] (by decide +kernel)
set_option maxRecDepth 20000 in
theorem lin_22 : ∀ w ∈ wsL_law_r22, w ∈ lw_tbl := mem_pl [893, 894, 896, 82, 897, 899, 901, 83, 902, 903, 904, 906, 84, 907, 717, 719, 720, 908, 910, 85, 911, 916, 918, 86] (by decide +kernel)
set_option maxRecDepth 20000 in
theorem lin_23 : ∀ w ∈ wsL_law_r23, w ∈ lw_tbl := mem_pl [919, 549, 550, 551, 552, 920, 921, 922, 923, 553, 554, 555, 556, 559, 42, 560, 924, 925, 926, 927, 561, 562, 563, 564] (by decide +kernel)
set_option maxRecDepth 20000 in
theorem lin_24 : ∀ w ∈ wsL_law_r24, w ∈ lw_tbl := mem_pl [567, 43, 568, 928, 929, 930, 931, 711, 932, 934, 87, 935, 936, 938, 88, 939, 569, 570, 571, 572, 940, 941, 942, 943] (by decide +kernel)
set_option maxRecDepth 20000 in
theorem lin_25 : ∀ w ∈ wsL_law_r25, w ∈ lw_tbl := mem_pl [573, 574, 575, 576, 579, 44, 580, 581, 583, 45, 584, 585, 587, 46, 588, 944, 945, 946, 947, 948, 950, 89, 951, 589] (by decide +kernel)
set_option maxRecDepth 20000 in
theorem lin_26 : ∀ w ∈ wsL_law_r26, w ∈ lw_tbl := mem_pl [590, 591, 592, 595, 47, 596, 597, 599, 48, 600, 601, 603, 49, 604, 952, 953, 954, 955, 956, 958, 90, 959, 960, 962] (by decide +kernel)
set_option maxRecDepth 20000 in
theorem lin_27 : ∀ w ∈ wsL_law_r27, w ∈ lw_tbl := mem_pl [91, 963, 964, 966, 92, 967, 968, 970, 93, 971, 605, 606, 607, 608, 611, 50, 612, 972, 973, 974, 975, 613, 614, 615] (by decide +kernel)
set_option maxRecDepth 20000 in
theorem lin_28 : ∀ w ∈ wsL_law_r28, w ∈ lw_tbl := mem_pl [616, 619, 51, 620, 976, 977, 978, 979, 621, 622, 623, 624, 980, 981, 982, 983, 626, 627, 628, 629, 632, 52, 633, 984] (by decide +kernel)
set_option maxRecDepth 20000 in
theorem lin_29 : ∀ w ∈ wsL_law_r29, w ∈ lw_tbl := mem_pl [985, 986, 987, 988, 990, 94, 991, 634, 635, 636, 637, 640, 53, 641, 992, 993, 994, 995, 642, 643, 644, 645, 648, 54] (by decide +kernel)
set_option maxRecDepth 20000 in
theorem lin_30 : ∀ w ∈ wsL_law_r30, w ∈ lw_tbl := mem_pl [649, 996, 997, 998, 999, 1000, 650, 651, 652, 653, 656, 55, 657, 658, 660, 56, 661, 1001, 1002, 1003, 1004, 1005, 1007, 95] (by decide +kernel)
set_option maxRecDepth 20000 in
theorem lin_31 : ∀ w ∈ wsL_law_r31, w ∈ lw_tbl := mem_pl [1008, 662, 663, 664, 665, 668, 57, 669, 670, 672, 58, 673, 1009, 1010, 1011, 1012, 674, 675, 676, 677, 680, 59, 681, 682] (by decide +kernel)
set_option maxRecDepth 20000 in
theorem lin_32 : ∀ w ∈ wsL_law_r32, w ∈ lw_tbl := mem_pl [683, 685, 60, 686, 687, 689, 61, 690, 691, 693, 62, 694, 695, 697, 63, 698, 1013, 1014, 1015, 1016, 1017, 1019, 96, 1020] (by decide +kernel)
set_option maxRecDepth 20000 in
theorem lin_33 : ∀ w ∈ wsL_law_r33, w ∈ lw_tbl := mem_pl [1021, 1023, 97, 1024, 1025, 1027, 98, 1028] (by decide +kernel)
set_option maxRecDepth 20000 in
theorem lin_wsX30 : ∀ w ∈ wsX30, w ∈ lw_tbl := mem_al (by decide +kernel)
set_option maxRecDepth 20000 in
theorem lin_wsX40 : ∀ w ∈ wsX40, w ∈ lw_tbl := mem_al (by decide +kernel)
set_option maxRecDepth 20000 in
theorem lin_wsX20 : ∀ w ∈ wsX20, w ∈ lw_tbl := mem_al (by decide +kernel)
set_option maxRecDepth 20000 in
theorem lin_wsX00 : ∀ w ∈ wsX00, w ∈ lw_tbl := mem_al (by decide +kernel)
set_option maxRecDepth 20000 in
theorem lin_wsX10 : ∀ w ∈ wsX10, w ∈ lw_tbl := mem_al (by decide +kernel)
theorem wsL_law_in : ∀ w ∈ wsL_law, w ∈ lw_tbl := mem_ap (mem_ap (mem_ap (mem_ap (mem_ap (mem_ap (mem_ap lin_1 (mem_ap lin_2 (mem_ap lin_3 (mem_ap lin_4 (mem_ap lin_5 (mem_ap lin_6 (mem_ap lin_7 (mem_ap lin_8 (mem_ap lin_9 (mem_ap lin_10 (mem_ap lin_11 (mem_ap lin_12 (mem_ap lin_13 (mem_ap lin_14 (mem_ap lin_15 (mem_ap lin_16 (mem_ap lin_17 (mem_ap lin_18 (mem_ap lin_19 (mem_ap lin_20 (mem_ap lin_21 (mem_ap lin_22 (mem_ap lin_23 (mem_ap lin_24 (mem_ap lin_25 (mem_ap lin_26 (mem_ap lin_27 (mem_ap lin_28 (mem_ap lin_29 (mem_ap lin_30 (mem_ap lin_31 (mem_ap lin_32 (lin_33))))))))))))))))))))))))))))))))) lin_wsX30) lin_wsX40) lin_wsX20) lin_wsX00) lin_wsX10) (fun _ h => absurd h List.not_mem_nil)
theorem inlX0 : ∀ w ∈ wsX00, w ∈ wsL_law := fun _ h => List.mem_append_left _ (List.mem_append_left _ (List.mem_append_right _ h))
theorem inX0 : ∀ w ∈ wsX00, w ∈ lw_tbl := fun w h => wsL_law_in w (inlX0 w h)
theorem inlX1 : ∀ w ∈ wsX10, w ∈ wsL_law := fun _ h => List.mem_append_left _ (List.mem_append_right _ h)
theorem inX1 : ∀ w ∈ wsX10, w ∈ lw_tbl := fun w h => wsL_law_in w (inlX1 w h)
theorem inlX2 : ∀ w ∈ wsX20, w ∈ wsL_law := fun _ h => List.mem_append_left _ (List.mem_append_left _ (List.mem_append_left _ (List.mem_append_right _ h)))
theorem inX2 : ∀ w ∈ wsX20, w ∈ lw_tbl := fun w h => wsL_law_in w (inlX2 w h)
theorem inlX3 : ∀ w ∈ wsX30, w ∈ wsL_law := fun _ h => List.mem_append_left _ (List.mem_append_left _ (List.mem_append_left _ (List.mem_append_left _ (List.mem_append_left _ (List.mem_append_right _ h)))))
theorem inX3 : ∀ w ∈ wsX30, w ∈ lw_tbl := fun w h => wsL_law_in w (inlX3 w h)
theorem inlX4 : ∀ w ∈ wsX40, w ∈ wsL_law := fun _ h => List.mem_append_left _ (List.mem_append_left _ (List.mem_append_left _ (List.mem_append_left _ (List.mem_append_right _ h))))
theorem inX4 : ∀ w ∈ wsX40, w ∈ lw_tbl := fun w h => wsL_law_in w (inlX4 w h)
theorem inJ9 : ∀ w ∈ wsJ90, w ∈ lw_tbl := by decide +kernel
theorem inJ0 : ∀ w ∈ wsJ00, w ∈ lw_tbl := by decide +kernel
theorem inJ1 : ∀ w ∈ wsJ10, w ∈ lw_tbl := by decide +kernel
theorem inJ2 : ∀ w ∈ wsJ20, w ∈ lw_tbl := by decide +kernel
theorem inJ3 : ∀ w ∈ wsJ30, w ∈ lw_tbl := by decide +kernel
set_option maxRecDepth 20000 in
theorem ggX0_init_X2_init : GoodIn wsX0_init wsX2_init := goodIn_r _ [11, 12, 2, 3, 13, 14, 15, 16, 17, 18, 19, 20, 21, 22, 23, 24, 25, 26, 30, 31, 32, 33, 34, 35, 36, 37, 38, 39, 40, 41] (by decide +kernel) (by decide +kernel)
set_option maxRecDepth 20000 in
theorem gX0_init_X2_init_n24 : GoodIn wsX0_init (wsX2_init) := ggX0_init_X2_init
