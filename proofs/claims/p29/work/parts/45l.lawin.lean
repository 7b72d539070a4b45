theorem mem_pl {big ws : List Cond} (ps : List Nat) (h : ps.map (fun i => big[i]?) = ws.map some) : ∀ w ∈ ws, w ∈ big := by
  intro w hw
  have h1 : some w ∈ ws.map some := List.mem_map.mpr ⟨w, hw, rfl⟩
  rw [← h] at h1
  obtain ⟨i, -, hi⟩ := List.mem_map.mp h1
  exact List.mem_of_getElem? hi
theorem mem_al {big ws : List Cond} (h : ws.all (fun w => decide (w ∈ big)) = true) : ∀ w ∈ ws, w ∈ big := fun w hw => of_decide_eq_true (List.all_eq_true.mp h w hw)
theorem mem_ap {big a b : List Cond} (h1 : ∀ w ∈ a, w ∈ big) (h2 : ∀ w ∈ b, w ∈ big) : ∀ w ∈ a ++ b, w ∈ big := fun w hw => (List.mem_append.mp hw).elim (h1 w) (h2 w)
set_option maxRecDepth 20000 in
theorem lin_1 : ∀ w ∈ wsL_law_r1, w ∈ lw_tbl := mem_pl [71, 72, 62, 73, 74, 75, 76, 77, 78, 79, 80, 63, 181, 182, 183, 184, 185, 124, 125, 64, 186, 144, 145, 65] (by decide +kernel)
set_option maxRecDepth 20000 in
theorem lin_2 : ∀ w ∈ wsL_law_r2, w ∈ lw_tbl := mem_pl [187, 188, 189, 82, 83, 84, 122, 85, 86, 87, 123, 88, 89, 90, 91, 92, 93, 94, 95, 96, 127, 128, 129, 130] (by decide +kernel)
set_option maxRecDepth 100000 in
theorem hvy_3 : Cond.code yL_isStep cL_isStep 13 (some .boolean) ∈ lw_tbl := List.mem_of_getElem? (i := 215) rfl
set_option maxRecDepth 20000 in
theorem lin_3 : ∀ w ∈ wsL_law_r3, w ∈ lw_tbl := by
  intro w hw
  rw [← List.take_append_drop 23 wsL_law_r3] at hw
  rcases List.mem_append.mp hw with h | h
  · exact mem_pl (ws := wsL_law_r3.take 23) [133, 134, 135, 147, 148, 149, 180, 150, 151, 153, 154, 155, 156, 158, 159, 160, 209, 210, 61, 211, 212, 213, 214] (by decide +kernel) w h
  · have h9 : w ∈ [Cond.code yL_isStep cL_isStep 13 (some .boolean)] := h
    rw [List.mem_singleton.mp h9]
    exact hvy_3
set_option maxRecDepth 20000 in
theorem lin_4 : ∀ w ∈ wsL_law_r4, w ∈ lw_tbl := mem_pl [343, 552, 558, 572, 578, 216, 217, 218, 219, 220, 221, 222, 223, 226, 0, 227, 232, 228, 230, 1, 231, 233, 235, 2] (by decide +kernel)
set_option maxRecDepth 20000 in
theorem lin_5 : ∀ w ∈ wsL_law_r5, w ∈ lw_tbl := mem_pl [236, 237, 239, 3, 240, 241, 243, 4, 244, 245, 246, 247, 248, 251, 5, 252, 253, 255, 6, 256, 257, 259, 7, 260] (by decide +kernel)
set_option maxRecDepth 20000 in
theorem lin_6 : ∀ w ∈ wsL_law_r6, w ∈ lw_tbl := mem_pl [261, 262, 66, 263, 264, 266, 8, 267, 268, 270, 9, 271, 273, 274, 275, 277, 10, 278, 279, 281, 11, 282, 283, 285] (by decide +kernel)
set_option maxRecDepth 20000 in
theorem lin_7 : ∀ w ∈ wsL_law_r7, w ∈ lw_tbl := mem_pl [12, 286, 287, 288, 66, 289, 290, 292, 13, 293, 294, 296, 14, 297, 298, 299, 300, 301, 304, 15, 305, 308, 16, 309] (by decide +kernel)
set_option maxRecDepth 20000 in
theorem lin_8 : ∀ w ∈ wsL_law_r8, w ∈ lw_tbl := mem_pl [311, 312, 314, 315, 316, 318, 17, 319, 320, 322, 18, 323, 324, 326, 19, 327, 328, 329, 330, 333, 20, 334, 340, 341] (by decide +kernel)
set_option maxRecDepth 20000 in
theorem lin_9 : ∀ w ∈ wsL_law_r9, w ∈ lw_tbl := mem_pl [342, 335, 337, 21, 338, 344, 345, 346, 355, 347, 348, 349, 350, 353, 22, 354, 356, 357, 358, 359, 362, 23, 363, 364] (by decide +kernel)
set_option maxRecDepth 20000 in
theorem lin_10 : ∀ w ∈ wsL_law_r10, w ∈ lw_tbl := mem_pl [365, 366, 367, 368, 369, 370, 371, 372, 373, 376, 24, 377, 378, 380, 25, 381, 382, 384, 26, 385, 450, 386, 387, 388] (by decide +kernel)
set_option maxRecDepth 20000 in
theorem lin_11 : ∀ w ∈ wsL_law_r11, w ∈ lw_tbl := mem_pl [394, 396, 27, 397, 398, 399, 400, 67, 401, 663, 402, 403, 404, 405, 406, 664, 408, 410, 28, 411, 412, 413, 414, 415] (by decide +kernel)
set_option maxRecDepth 20000 in
theorem lin_12 : ∀ w ∈ wsL_law_r12, w ∈ lw_tbl := mem_pl [416, 417, 418, 419, 420, 421, 68, 422, 423, 424, 425, 426, 428, 429, 69, 430, 431, 432, 70, 433, 434, 435, 436, 437] (by decide +kernel)
set_option maxRecDepth 20000 in
theorem lin_13 : ∀ w ∈ wsL_law_r13, w ∈ lw_tbl := mem_pl [438, 439, 440, 441, 442, 443, 444, 446, 448, 451, 453, 29, 454, 455, 457, 30, 458, 459, 461, 31, 462, 463, 465, 32] (by decide +kernel)
set_option maxRecDepth 20000 in
theorem lin_14 : ∀ w ∈ wsL_law_r14, w ∈ lw_tbl := mem_pl [466, 467, 469, 33, 470, 473, 34, 474, 475, 477, 35, 478, 481, 36, 482, 485, 37, 486, 489, 38, 490, 491, 492, 494] (by decide +kernel)
set_option maxRecDepth 20000 in
theorem lin_15 : ∀ w ∈ wsL_law_r15, w ∈ lw_tbl := mem_pl [39, 495, 496, 498, 40, 499, 500, 502, 41, 503, 504, 505, 506, 507, 509, 42, 510, 511, 513, 43, 514, 515, 517, 44] (by decide +kernel)
set_option maxRecDepth 20000 in
theorem lin_16 : ∀ w ∈ wsL_law_r16, w ∈ lw_tbl := mem_pl [518, 519, 521, 45, 522, 523, 525, 46, 526, 527, 528, 529, 530, 531, 532, 533, 534, 537, 47, 538, 539, 540, 541, 542] (by decide +kernel)
set_option maxRecDepth 20000 in
theorem lin_17 : ∀ w ∈ wsL_law_r17, w ∈ lw_tbl := mem_pl [545, 48, 546, 547, 548, 549, 550, 553, 554, 555, 556, 559, 560, 561, 562, 565, 49, 566, 567, 568, 569, 570, 573, 574] (by decide +kernel)
set_option maxRecDepth 100000 in
theorem hvy_18 : Cond.code yL_isWell cL_isWell 12 (some .boolean) ∈ lw_tbl := List.mem_of_getElem? (i := 662) rfl
set_option maxRecDepth 20000 in
theorem lin_18 : ∀ w ∈ wsL_law_r18, w ∈ lw_tbl := by
  intro w hw
  rw [← List.take_append_drop 23 wsL_law_r18] at hw
  rcases List.mem_append.mp hw with h | h
  · exact mem_pl (ws := wsL_law_r18.take 23) [575, 576, 579, 580, 581, 582, 584, 585, 586, 587, 590, 50, 591, 592, 594, 51, 595, 596, 598, 52, 599, 660, 661] (by decide +kernel) w h
  · have h9 : w ∈ [Cond.code yL_isWell cL_isWell 12 (some .boolean)] := h
    rw [List.mem_singleton.mp h9]
    exact hvy_18
set_option maxRecDepth 20000 in
theorem lin_19 : ∀ w ∈ wsL_law_r19, w ∈ lw_tbl := mem_pl [640, 641, 642, 643, 646, 58, 647, 648, 650, 59, 651, 616, 617, 618, 619, 622, 55, 623, 624, 625, 626, 627, 630, 56] (by decide +kernel)
set_option maxRecDepth 20000 in
theorem lin_20 : ∀ w ∈ wsL_law_r20, w ∈ lw_tbl := mem_pl [631, 601, 602, 603, 604, 605, 606, 607, 610, 53, 611, 612, 614, 54, 615, 632, 633, 634, 635, 638, 57, 639, 652, 653] (by decide +kernel)
set_option maxRecDepth 20000 in
theorem lin_21 : ∀ w ∈ wsL_law_r21, w ∈ lw_tbl := mem_pl [654, 655, 658, 60, 659] (by decide +kernel)
set_option maxRecDepth 20000 in
theorem lin_wsX30 : ∀ w ∈ wsX30, w ∈ lw_tbl := mem_al (by decide +kernel)
set_option maxRecDepth 20000 in
theorem lin_wsX20 : ∀ w ∈ wsX20, w ∈ lw_tbl := mem_al (by decide +kernel)
set_option maxRecDepth 20000 in
theorem lin_wsX00 : ∀ w ∈ wsX00, w ∈ lw_tbl := mem_al (by decide +kernel)
set_option maxRecDepth 20000 in
theorem lin_wsX10 : ∀ w ∈ wsX10, w ∈ lw_tbl := mem_al (by decide +kernel)
theorem wsL_law_in : ∀ w ∈ wsL_law, w ∈ lw_tbl := mem_ap (mem_ap (mem_ap (mem_ap (mem_ap (mem_ap lin_1 (mem_ap lin_2 (mem_ap lin_3 (mem_ap lin_4 (mem_ap lin_5 (mem_ap lin_6 (mem_ap lin_7 (mem_ap lin_8 (mem_ap lin_9 (mem_ap lin_10 (mem_ap lin_11 (mem_ap lin_12 (mem_ap lin_13 (mem_ap lin_14 (mem_ap lin_15 (mem_ap lin_16 (mem_ap lin_17 (mem_ap lin_18 (mem_ap lin_19 (mem_ap lin_20 (lin_21))))))))))))))))))))) lin_wsX30) lin_wsX20) lin_wsX00) lin_wsX10) (fun _ h => absurd h List.not_mem_nil)
theorem inlX0 : ∀ w ∈ wsX00, w ∈ wsL_law := fun _ h => List.mem_append_left _ (List.mem_append_left _ (List.mem_append_right _ h))
theorem inX0 : ∀ w ∈ wsX00, w ∈ lw_tbl := fun w h => wsL_law_in w (inlX0 w h)
theorem inlX1 : ∀ w ∈ wsX10, w ∈ wsL_law := fun _ h => List.mem_append_left _ (List.mem_append_right _ h)
theorem inX1 : ∀ w ∈ wsX10, w ∈ lw_tbl := fun w h => wsL_law_in w (inlX1 w h)
theorem inlX2 : ∀ w ∈ wsX20, w ∈ wsL_law := fun _ h => List.mem_append_left _ (List.mem_append_left _ (List.mem_append_left _ (List.mem_append_right _ h)))
theorem inX2 : ∀ w ∈ wsX20, w ∈ lw_tbl := fun w h => wsL_law_in w (inlX2 w h)
theorem inlX3 : ∀ w ∈ wsX30, w ∈ wsL_law := fun _ h => List.mem_append_left _ (List.mem_append_left _ (List.mem_append_left _ (List.mem_append_left _ (List.mem_append_right _ h))))
theorem inX3 : ∀ w ∈ wsX30, w ∈ lw_tbl := fun w h => wsL_law_in w (inlX3 w h)
theorem inX4 : ∀ w ∈ wsX40, w ∈ lw_tbl := by decide +kernel
theorem inJ9 : ∀ w ∈ wsJ90, w ∈ lw_tbl := by decide +kernel
theorem inJ0 : ∀ w ∈ wsJ00, w ∈ lw_tbl := by decide +kernel
theorem inJ1 : ∀ w ∈ wsJ10, w ∈ lw_tbl := by decide +kernel
theorem inJ2 : ∀ w ∈ wsJ20, w ∈ lw_tbl := by decide +kernel
theorem inJ3 : ∀ w ∈ wsJ30, w ∈ lw_tbl := by decide +kernel
set_option maxRecDepth 20000 in
theorem ggX0_init_X2_init : GoodIn wsX0_init wsX2_init := goodIn_r _ [11, 12, 2, 3, 13, 14, 15, 16, 17, 18, 19, 20, 21, 22, 23, 24, 25, 26, 30, 31, 32, 33, 34, 35, 36, 37, 38, 39, 40, 41] (by decide +kernel) (by decide +kernel)
set_option maxRecDepth 20000 in
theorem gX0_init_X2_init_n24 : GoodIn wsX0_init (wsX2_init) := ggX0_init_X2_init
