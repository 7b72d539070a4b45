theorem mem_pl {big ws : List Cond} (ps : List Nat) (h : ps.map (fun i => big[i]?) = ws.map some) : ∀ w ∈ ws, w ∈ big := by
  intro w hw
  have h1 : some w ∈ ws.map some := List.mem_map.mpr ⟨w, hw, rfl⟩
  rw [← h] at h1
  obtain ⟨i, -, hi⟩ := List.mem_map.mp h1
  exact List.mem_of_getElem? hi
theorem mem_al {big ws : List Cond} (h : ws.all (fun w => decide (w ∈ big)) = true) : ∀ w ∈ ws, w ∈ big := fun w hw => of_decide_eq_true (List.all_eq_true.mp h w hw)
theorem mem_ap {big a b : List Cond} (h1 : ∀ w ∈ a, w ∈ big) (h2 : ∀ w ∈ b, w ∈ big) : ∀ w ∈ a ++ b, w ∈ big := fun w hw => (List.mem_append.mp hw).elim (h1 w) (h2 w)
set_option maxRecDepth 20000 in
theorem lin_1 : ∀ w ∈ wsL_law_r1, w ∈ lw_tbl := mem_pl [71, 72, 62, 73, 74, 75, 76, 77, 78, 79, 80, 63, 181, 182, 183, 184, 185, 124, 125, 64, 186, 144, 145, 65] (by decide +kernel)
set_option maxRecDepth 20000 in
theorem lin_2 : ∀ w ∈ wsL_law_r2, w ∈ lw_tbl := mem_pl [187, 188, 189, 82, 83, 84, 122, 85, 86, 87, 123, 88, 89, 90, 91, 92, 93, 94, 95, 96, 127, 128, 129, 130] (by decide +kernel)
set_option maxRecDepth 20000 in
theorem lin_3 : ∀ w ∈ wsL_law_r3, w ∈ lw_tbl := mem_pl [133, 134, 135, 147, 148, 149, 180, 150, 151, 153, 154, 155, 156, 158, 159, 160, 209, 210, 61, 211, 212, 213, 214, 215] (by decide +kernel)
set_option maxRecDepth 20000 in
theorem lin_4 : ∀ w ∈ wsL_law_r4, w ∈ lw_tbl := mem_pl [336, 548, 554, 568, 574, 216, 217, 218, 219, 220, 221, 222, 223, 226, 0, 227, 232, 228, 230, 1, 231, 233, 235, 2] (by decide +kernel)
set_option maxRecDepth 20000 in
theorem lin_5 : ∀ w ∈ wsL_law_r5, w ∈ lw_tbl := mem_pl [236, 237, 239, 3, 240, 241, 243, 4, 244, 245, 246, 247, 248, 251, 5, 252, 253, 255, 6, 256, 257, 259, 7, 260] (by decide +kernel)
set_option maxRecDepth 20000 in
theorem lin_6 : ∀ w ∈ wsL_law_r6, w ∈ lw_tbl := mem_pl [261, 262, 66, 263, 264, 266, 8, 267, 268, 270, 9, 271, 272, 274, 10, 275, 276, 278, 11, 279, 280, 281, 66, 282] (by decide +kernel)
set_option maxRecDepth 20000 in
theorem lin_7 : ∀ w ∈ wsL_law_r7, w ∈ lw_tbl := mem_pl [283, 285, 12, 286, 287, 289, 13, 290, 291, 292, 293, 294, 297, 14, 298, 301, 15, 302, 304, 305, 307, 308, 309, 311] (by decide +kernel)
set_option maxRecDepth 20000 in
theorem lin_8 : ∀ w ∈ wsL_law_r8, w ∈ lw_tbl := mem_pl [16, 312, 313, 315, 17, 316, 317, 319, 18, 320, 321, 322, 323, 326, 19, 327, 333, 334, 335, 328, 330, 20, 331, 337] (by decide +kernel)
set_option maxRecDepth 20000 in
theorem lin_9 : ∀ w ∈ wsL_law_r9, w ∈ lw_tbl := mem_pl [338, 339, 348, 340, 341, 342, 343, 346, 21, 347, 349, 350, 351, 352, 355, 22, 356, 357, 358, 359, 360, 361, 362, 363] (by decide +kernel)
set_option maxRecDepth 20000 in
theorem lin_10 : ∀ w ∈ wsL_law_r10, w ∈ lw_tbl := mem_pl [364, 365, 366, 369, 23, 370, 371, 373, 24, 374, 375, 377, 25, 378, 443, 379, 380, 381, 387, 389, 26, 390, 391, 392] (by decide +kernel)
set_option maxRecDepth 20000 in
theorem lin_11 : ∀ w ∈ wsL_law_r11, w ∈ lw_tbl := mem_pl [393, 67, 394, 662, 395, 396, 397, 398, 399, 663, 401, 403, 27, 404, 405, 406, 407, 408, 409, 410, 411, 412, 413, 414] (by decide +kernel)
set_option maxRecDepth 20000 in
theorem lin_12 : ∀ w ∈ wsL_law_r12, w ∈ lw_tbl := mem_pl [68, 415, 416, 417, 418, 419, 421, 422, 69, 423, 424, 425, 70, 426, 427, 428, 429, 430, 431, 432, 433, 434, 435, 436] (by decide +kernel)
set_option maxRecDepth 20000 in
theorem lin_13 : ∀ w ∈ wsL_law_r13, w ∈ lw_tbl := mem_pl [437, 439, 441, 444, 446, 28, 447, 448, 450, 29, 451, 452, 454, 30, 455, 456, 458, 31, 459, 460, 462, 32, 463, 466] (by decide +kernel)
set_option maxRecDepth 20000 in
theorem lin_14 : ∀ w ∈ wsL_law_r14, w ∈ lw_tbl := mem_pl [33, 467, 468, 470, 34, 471, 474, 35, 475, 478, 36, 479, 482, 37, 483, 484, 485, 487, 38, 488, 489, 491, 39, 492] (by decide +kernel)
set_option maxRecDepth 20000 in
theorem lin_15 : ∀ w ∈ wsL_law_r15, w ∈ lw_tbl := mem_pl [493, 495, 40, 496, 497, 498, 499, 500, 502, 41, 503, 504, 506, 42, 507, 508, 510, 43, 511, 512, 514, 44, 515, 516] (by decide +kernel)
set_option maxRecDepth 20000 in
theorem lin_16 : ∀ w ∈ wsL_law_r16, w ∈ lw_tbl := mem_pl [518, 45, 519, 521, 522, 523, 524, 525, 526, 527, 528, 529, 530, 533, 46, 534, 535, 536, 537, 538, 541, 47, 542, 543] (by decide +kernel)
set_option maxRecDepth 20000 in
theorem lin_17 : ∀ w ∈ wsL_law_r17, w ∈ lw_tbl := mem_pl [544, 545, 546, 549, 550, 551, 552, 555, 556, 557, 558, 561, 48, 562, 563, 564, 565, 566, 569, 570, 571, 572, 575, 576] (by decide +kernel)
set_option maxRecDepth 20000 in
theorem lin_18 : ∀ w ∈ wsL_law_r18, w ∈ lw_tbl := mem_pl [577, 578, 581, 49, 582, 583, 584, 585, 586, 589, 50, 590, 591, 593, 51, 594, 595, 597, 52, 598, 659, 660, 661, 639] (by decide +kernel)
set_option maxRecDepth 20000 in
theorem lin_19 : ∀ w ∈ wsL_law_r19, w ∈ lw_tbl := mem_pl [640, 641, 642, 645, 58, 646, 647, 649, 59, 650, 615, 616, 617, 618, 621, 55, 622, 623, 624, 625, 626, 629, 56, 630] (by decide +kernel)
set_option maxRecDepth 20000 in
theorem lin_20 : ∀ w ∈ wsL_law_r20, w ∈ lw_tbl := mem_pl [600, 601, 602, 603, 604, 605, 606, 609, 53, 610, 611, 613, 54, 614, 631, 632, 633, 634, 637, 57, 638, 651, 652, 653] (by decide +kernel)
set_option maxRecDepth 20000 in
theorem lin_21 : ∀ w ∈ wsL_law_r21, w ∈ lw_tbl := mem_pl [654, 657, 60, 658] (by decide +kernel)
set_option maxRecDepth 20000 in
theorem lin_wsX30 : ∀ w ∈ wsX30, w ∈ lw_tbl := mem_al (by decide +kernel)
set_option maxRecDepth 20000 in
theorem lin_wsX20 : ∀ w ∈ wsX20, w ∈ lw_tbl := mem_al (by decide +kernel)
set_option maxRecDepth 20000 in
theorem lin_wsX00 : ∀ w ∈ wsX00, w ∈ lw_tbl := mem_al (by decide +kernel)
set_option maxRecDepth 20000 in
theorem lin_wsX10 : ∀ w ∈ wsX10, w ∈ lw_tbl := mem_al (by decide +kernel)
theorem wsL_law_in : ∀ w ∈ wsL_law, w ∈ lw_tbl := mem_ap (mem_ap (mem_ap (mem_ap (mem_ap (mem_ap lin_1 (mem_ap lin_2 (mem_ap lin_3 (mem_ap lin_4 (mem_ap lin_5 (mem_ap lin_6 (mem_ap lin_7 (mem_ap lin_8 (mem_ap lin_9 (mem_ap lin_10 (mem_ap lin_11 (mem_ap lin_12 (mem_ap lin_13 (mem_ap lin_14 (mem_ap lin_15 (mem_ap lin_16 (mem_ap lin_17 (mem_ap lin_18 (mem_ap lin_19 (mem_ap lin_20 (lin_21))))))))))))))))))))) lin_wsX30) lin_wsX20) lin_wsX00) lin_wsX10) (fun _ h => absurd h List.not_mem_nil)
theorem inlX0 : ∀ w ∈ wsX00, w ∈ wsL_law := fun _ h => List.mem_append_left _ (List.mem_append_left _ (List.mem_append_right _ h))
theorem inX0 : ∀ w ∈ wsX00, w ∈ lw_tbl := fun w h => wsL_law_in w (inlX0 w h)
theorem inlX1 : ∀ w ∈ wsX10, w ∈ wsL_law := fun _ h => List.mem_append_left _ (List.mem_append_right _ h)
theorem inX1 : ∀ w ∈ wsX10, w ∈ lw_tbl := fun w h => wsL_law_in w (inlX1 w h)
theorem inlX2 : ∀ w ∈ wsX20, w ∈ wsL_law := fun _ h => List.mem_append_left _ (List.mem_append_left _ (List.mem_append_left _ (List.mem_append_right _ h)))
theorem inX2 : ∀ w ∈ wsX20, w ∈ lw_tbl := fun w h => wsL_law_in w (inlX2 w h)
theorem inlX3 : ∀ w ∈ wsX30, w ∈ wsL_law := fun _ h => List.mem_append_left _ (List.mem_append_left _ (List.mem_append_left _ (List.mem_append_left _ (List.mem_append_right _ h))))
theorem inX3 : ∀ w ∈ wsX30, w ∈ lw_tbl := fun w h => wsL_law_in w (inlX3 w h)
theorem inX4 : ∀ w ∈ wsX40, w ∈ lw_tbl := by decide +kernel
theorem inJ9 : ∀ w ∈ wsJ90, w ∈ lw_tbl := by decide +kernel
theorem inJ0 : ∀ w ∈ wsJ00, w ∈ lw_tbl := by decide +kernel
theorem inJ1 : ∀ w ∈ wsJ10, w ∈ lw_tbl := by decide +kernel
theorem inJ2 : ∀ w ∈ wsJ20, w ∈ lw_tbl := by decide +kernel
theorem inJ3 : ∀ w ∈ wsJ30, w ∈ lw_tbl := by decide +kernel
set_option maxRecDepth 20000 in
theorem ggX0_init_X2_init : GoodIn wsX0_init wsX2_init := goodIn_r _ [11, 12, 2, 3, 13, 14, 15, 16, 17, 18, 19, 20, 21, 22, 23, 24, 25, 26, 30, 31, 32, 33, 34, 35, 36, 37, 38, 39, 40, 41] (by decide +kernel) (by decide +kernel)
set_option maxRecDepth 20000 in
theorem gX0_init_X2_init_n24 : GoodIn wsX0_init (wsX2_init) := ggX0_init_X2_init
