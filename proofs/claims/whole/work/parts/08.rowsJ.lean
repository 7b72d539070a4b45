theorem dJ2_getChar_3b067_0 : decode cJ2_getChar_3b067 0 = .ok (.getstatic 44, 3) := by decide +kernel
theorem dJ2_getChar_3b067_3 : decode cJ2_getChar_3b067 3 = .ok (.ifCond .ne 25, 3) := by decide +kernel
theorem dJ2_getChar_3b067_6 : decode cJ2_getChar_3b067 6 = .ok (.iload_n 1, 1) := by decide +kernel
theorem dJ2_getChar_3b067_7 : decode cJ2_getChar_3b067 7 = .ok (.ifCond .lt 11, 3) := by decide +kernel
theorem dJ2_getChar_3b067_10 : decode cJ2_getChar_3b067 10 = .ok (.iload_n 1, 1) := by decide +kernel
theorem dJ2_getChar_3b067_11 : decode cJ2_getChar_3b067 11 = .ok (.aload_n 0, 1) := by decide +kernel
theorem dJ2_getChar_3b067_12 : decode cJ2_getChar_3b067 12 = .ok (.invokestatic 48, 3) := by decide +kernel
theorem dJ2_getChar_3b067_15 : decode cJ2_getChar_3b067 15 = .ok (.if_icmp .lt 13, 3) := by decide +kernel
theorem dJ2_getChar_3b067_18 : decode cJ2_getChar_3b067 18 = .ok (.new 52, 3) := by decide +kernel
theorem dJ2_getChar_3b067_21 : decode cJ2_getChar_3b067 21 = .ok (.dup, 1) := by decide +kernel
theorem dJ2_getChar_3b067_22 : decode cJ2_getChar_3b067 22 = .ok (.ldc 54, 2) := by decide +kernel
theorem dJ2_getChar_3b067_24 : decode cJ2_getChar_3b067 24 = .ok (.invokespecial 56, 3) := by decide +kernel
theorem dJ2_getChar_3b067_27 : decode cJ2_getChar_3b067 27 = .ok (.athrow, 1) := by decide +kernel
theorem dJ2_getChar_3b067_28 : decode cJ2_getChar_3b067 28 = .ok (.iload_n 1, 1) := by decide +kernel
theorem dJ2_getChar_3b067_29 : decode cJ2_getChar_3b067 29 = .ok (.iconst 1, 1) := by decide +kernel
theorem dJ2_getChar_3b067_30 : decode cJ2_getChar_3b067 30 = .ok (.ishl, 1) := by decide +kernel
theorem dJ2_getChar_3b067_31 : decode cJ2_getChar_3b067 31 = .ok (.istore_n 1, 1) := by decide +kernel
theorem dJ2_getChar_3b067_32 : decode cJ2_getChar_3b067 32 = .ok (.aload_n 0, 1) := by decide +kernel
theorem dJ2_getChar_3b067_33 : decode cJ2_getChar_3b067 33 = .ok (.iload_n 1, 1) := by decide +kernel
theorem dJ2_getChar_3b067_34 : decode cJ2_getChar_3b067 34 = .ok (.iinc 1 1, 3) := by decide +kernel
theorem dJ2_getChar_3b067_37 : decode cJ2_getChar_3b067 37 = .ok (.baload, 1) := by decide +kernel
theorem dJ2_getChar_3b067_38 : decode cJ2_getChar_3b067 38 = .ok (.sipush 255, 3) := by decide +kernel
theorem dJ2_getChar_3b067_41 : decode cJ2_getChar_3b067 41 = .ok (.iand, 1) := by decide +kernel
theorem dJ2_getChar_3b067_42 : decode cJ2_getChar_3b067 42 = .ok (.getstatic 59, 3) := by decide +kernel
theorem dJ2_getChar_3b067_45 : decode cJ2_getChar_3b067 45 = .ok (.ishl, 1) := by decide +kernel
theorem dJ2_getChar_3b067_46 : decode cJ2_getChar_3b067 46 = .ok (.aload_n 0, 1) := by decide +kernel
theorem dJ2_getChar_3b067_47 : decode cJ2_getChar_3b067 47 = .ok (.iload_n 1, 1) := by decide +kernel
theorem dJ2_getChar_3b067_48 : decode cJ2_getChar_3b067 48 = .ok (.baload, 1) := by decide +kernel
theorem dJ2_getChar_3b067_49 : decode cJ2_getChar_3b067 49 = .ok (.sipush 255, 3) := by decide +kernel
theorem dJ2_getChar_3b067_52 : decode cJ2_getChar_3b067 52 = .ok (.iand, 1) := by decide +kernel
theorem dJ2_getChar_3b067_53 : decode cJ2_getChar_3b067 53 = .ok (.getstatic 63, 3) := by decide +kernel
theorem dJ2_getChar_3b067_56 : decode cJ2_getChar_3b067 56 = .ok (.ishl, 1) := by decide +kernel
theorem dJ2_getChar_3b067_57 : decode cJ2_getChar_3b067 57 = .ok (.ior, 1) := by decide +kernel
theorem dJ2_getChar_3b067_58 : decode cJ2_getChar_3b067 58 = .ok (.i2c, 1) := by decide +kernel
theorem dJ2_getChar_3b067_59 : decode cJ2_getChar_3b067 59 = .ok (.ireturn, 1) := by decide +kernel
theorem dJ2_length_9d52b_0 : decode cJ2_length_9d52b 0 = .ok (.aload_n 0, 1) := by decide +kernel
theorem dJ2_length_9d52b_1 : decode cJ2_length_9d52b 1 = .ok (.arraylength, 1) := by decide +kernel
theorem dJ2_length_9d52b_2 : decode cJ2_length_9d52b 2 = .ok (.iconst 1, 1) := by decide +kernel
theorem dJ2_length_9d52b_3 : decode cJ2_length_9d52b 3 = .ok (.ishr, 1) := by decide +kernel
theorem dJ2_length_9d52b_4 : decode cJ2_length_9d52b 4 = .ok (.ireturn, 1) := by decide +kernel
set_option maxRecDepth 20000 in
theorem ggJ2_charAt_3b067_J2_checkIndex_2214a : GoodIn wsJ2_charAt_3b067 wsJ2_checkIndex_2214a := goodIn_r _ [4, 5, 6, 3, 7, 8, 9, 10, 11, 12, 13, 14, 15, 16] (by decide +kernel) (by decide +kernel)
set_option maxRecDepth 20000 in
theorem gJ2_charAt_3b067_J2_checkIndex_2214a : GoodIn wsJ2_charAt_3b067 (va_wsS RJ2 67 yJ2_checkIndex_2214a wsJ2_checkIndex_2214a) := goodIn_app (goodIn_of _ (by decide +kernel)) ggJ2_charAt_3b067_J2_checkIndex_2214a
set_option maxRecDepth 20000 in
theorem ggJ2_charAt_3b067_J2_getChar_3b067 : GoodIn wsJ2_charAt_3b067 wsJ2_getChar_3b067 := goodIn_r _ [19, 20, 21, 22, 5, 6, 3, 7] (by decide +kernel) (by decide +kernel)
set_option maxRecDepth 20000 in
theorem gJ2_charAt_3b067_J2_getChar_3b067 : GoodIn wsJ2_charAt_3b067 (va_wsS RJ2 71 yJ2_getChar_3b067 wsJ2_getChar_3b067) := goodIn_app (goodIn_of _ (by decide +kernel)) ggJ2_charAt_3b067_J2_getChar_3b067
theorem dJ2_charAt_3b067_0 : decode cJ2_charAt_3b067 0 = .ok (.iload_n 1, 1) := by decide +kernel
theorem dJ2_charAt_3b067_1 : decode cJ2_charAt_3b067 1 = .ok (.aload_n 0, 1) := by decide +kernel
theorem dJ2_charAt_3b067_2 : decode cJ2_charAt_3b067 2 = .ok (.invokestatic 67, 3) := by decide +kernel
theorem dJ2_charAt_3b067_5 : decode cJ2_charAt_3b067 5 = .ok (.aload_n 0, 1) := by decide +kernel
theorem dJ2_charAt_3b067_6 : decode cJ2_charAt_3b067 6 = .ok (.iload_n 1, 1) := by decide +kernel
theorem dJ2_charAt_3b067_7 : decode cJ2_charAt_3b067 7 = .ok (.invokestatic 71, 3) := by decide +kernel
theorem dJ2_charAt_3b067_10 : decode cJ2_charAt_3b067 10 = .ok (.ireturn, 1) := by decide +kernel
set_option maxRecDepth 20000 in
theorem ggJ2_checkIndex_2214a_J2_length_9d52b : GoodIn wsJ2_checkIndex_2214a wsJ2_length_9d52b := goodIn_r _ [4] (by decide +kernel) (by decide +kernel)
set_option maxRecDepth 20000 in
theorem gJ2_checkIndex_2214a_J2_length_9d52b : GoodIn wsJ2_checkIndex_2214a (va_wsS RJ2 48 yJ2_length_9d52b wsJ2_length_9d52b) := goodIn_app (goodIn_of _ (by decide +kernel)) ggJ2_checkIndex_2214a_J2_length_9d52b
set_option maxRecDepth 20000 in
theorem ggJ2_checkIndex_2214a_J0_checkIndex_df160 : GoodIn wsJ2_checkIndex_2214a wsJ0_checkIndex_df160 := goodIn_r _ [8, 9, 10, 11, 12, 13] (by decide +kernel) (by decide +kernel)
set_option maxRecDepth 20000 in
theorem gJ2_checkIndex_2214a_J0_checkIndex_df160 : GoodIn wsJ2_checkIndex_2214a (va_wsS RJ2 414 yJ0_checkIndex_df160 wsJ0_checkIndex_df160) := goodIn_app (goodIn_of _ (by decide +kernel)) ggJ2_checkIndex_2214a_J0_checkIndex_df160
theorem dJ2_checkIndex_2214a_0 : decode cJ2_checkIndex_2214a 0 = .ok (.iload_n 0, 1) := by decide +kernel
theorem dJ2_checkIndex_2214a_1 : decode cJ2_checkIndex_2214a 1 = .ok (.aload_n 1, 1) := by decide +kernel
theorem dJ2_checkIndex_2214a_2 : decode cJ2_checkIndex_2214a 2 = .ok (.invokestatic 48, 3) := by decide +kernel
theorem dJ2_checkIndex_2214a_5 : decode cJ2_checkIndex_2214a 5 = .ok (.invokestatic 414, 3) := by decide +kernel
theorem dJ2_checkIndex_2214a_8 : decode cJ2_checkIndex_2214a 8 = .ok (.return_, 1) := by decide +kernel
theorem dJ3_checkIndex_8e157_0 : decode cJ3_checkIndex_8e157 0 = .ok (.iload_n 0, 1) := by decide +kernel
theorem dJ3_checkIndex_8e157_1 : decode cJ3_checkIndex_8e157 1 = .ok (.ifCond .lt 8, 3) := by decide +kernel
theorem dJ3_checkIndex_8e157_4 : decode cJ3_checkIndex_8e157 4 = .ok (.iload_n 0, 1) := by decide +kernel
theorem dJ3_checkIndex_8e157_5 : decode cJ3_checkIndex_8e157 5 = .ok (.iload_n 1, 1) := by decide +kernel
theorem dJ3_checkIndex_8e157_6 : decode cJ3_checkIndex_8e157 6 = .ok (.if_icmp .lt 10, 3) := by decide +kernel
theorem dJ3_checkIndex_8e157_9 : decode cJ3_checkIndex_8e157 9 = .ok (.aload_n 2, 1) := by decide +kernel
theorem dJ3_checkIndex_8e157_10 : decode cJ3_checkIndex_8e157 10 = .ok (.iload_n 0, 1) := by decide +kernel
theorem dJ3_checkIndex_8e157_11 : decode cJ3_checkIndex_8e157 11 = .ok (.iload_n 1, 1) := by decide +kernel
theorem dJ3_checkIndex_8e157_12 : decode cJ3_checkIndex_8e157 12 = .ok (.invokestatic 95, 3) := by decide +kernel
theorem dJ3_checkIndex_8e157_15 : decode cJ3_checkIndex_8e157 15 = .ok (.athrow, 1) := by decide +kernel
theorem dJ3_checkIndex_8e157_16 : decode cJ3_checkIndex_8e157 16 = .ok (.iload_n 0, 1) := by decide +kernel
theorem dJ3_checkIndex_8e157_17 : decode cJ3_checkIndex_8e157 17 = .ok (.ireturn, 1) := by decide +kernel
set_option maxRecDepth 20000 in
theorem ggL_law_X3_init : GoodIn wsL_law wsX3_init := goodIn_r _ [8, 9, 10, 11, 12, 13, 14, 15, 16, 17, 18, 19, 20, 21, 22, 23, 24, 25, 26, 27, 28, 29, 30, 31, 32, 33, 34, 35, 36, 37, 38, 39, 40, 41, 42, 43, 44, 45, 46, 47, 48, 49, 50, 51, 52, 53, 54, 55, 56, 57, 58, 59, 60, 61, 62, 63, 64, 65, 66, 801, 802, 803, 804, 805, 806, 807, 808, 809, 810, 811, 812, 776, 777, 778, 779, 780, 781, 782, 783, 784, 813, 814, 815, 816, 817, 818, 819, 820, 821, 822, 823, 824] (by decide +kernel) (by decide +kernel)
set_option maxRecDepth 20000 in
theorem gL_law_X3_init : GoodIn wsL_law (wsX3_init) := ggL_law_X3_init
set_option maxRecDepth 20000 in
theorem ggL_law_X4_init : GoodIn wsL_law wsX4_init := goodIn_r _ [69, 70, 10, 11, 33, 71, 72, 73, 74, 75, 76, 77, 78, 785, 786, 787, 788, 789, 790, 791, 792, 793, 794, 795, 796, 797, 798, 799, 800] (by decide +kernel) (by decide +kernel)
set_option maxRecDepth 20000 in
theorem gL_law_X4_init : GoodIn wsL_law (wsX4_init) := ggL_law_X4_init
set_option maxRecDepth 20000 in
theorem ggL_law_X3_fly : GoodIn wsL_law wsX3_fly := goodIn_r _ [82, 16, 15, 83, 14, 84, 85, 34, 35, 36, 38, 39, 40, 41, 42, 43, 44, 45, 46, 86, 87, 88, 89, 2, 90, 91, 92, 93, 94, 95, 96, 97, 98, 99, 100, 101, 102, 103, 104, 23, 105, 106, 107, 108, 22, 109, 110, 52, 53, 111, 112, 113, 114, 115, 116, 117, 118, 51, 776, 777, 778, 779, 780, 781, 782, 783, 784, 801, 802, 803, 804, 805, 806, 807, 808, 809, 810, 811, 812, 813, 814, 815] (by decide +kernel) (by decide +kernel)
set_option maxRecDepth 20000 in
theorem gL_law_X3_fly : GoodIn wsL_law (wsV RL 13 RX3 yX3_fly wsX3_fly) := goodIn_app (goodIn_of _ (by decide +kernel)) ggL_law_X3_fly
set_option maxRecDepth 20000 in
theorem ggL_law_X4_fly : GoodIn wsL_law wsX4_fly := goodIn_r _ [122, 123, 124, 5, 125, 126, 127, 128, 129, 130, 131, 132, 133, 134, 135, 136, 137, 138, 71, 72, 139, 140, 141, 142, 143, 144, 145, 146, 147, 148, 149, 150, 151, 152, 153, 154, 155, 156, 157, 158, 159, 160, 161, 162, 163, 164, 165, 166, 74, 785, 786, 787, 788, 789, 790, 791, 792, 793, 794, 795, 796, 797, 798, 799, 800] (by decide +kernel) (by decide +kernel)
set_option maxRecDepth 20000 in
theorem gL_law_X4_fly : GoodIn wsL_law (wsV RL 17 RX4 yX4_fly wsX4_fly) := goodIn_app (goodIn_of _ (by decide +kernel)) ggL_law_X4_fly
set_option maxRecDepth 20000 in
theorem ggL_law_X3_takeDown : GoodIn wsL_law wsX3_takeDown := goodIn_r _ [170, 16, 15, 83, 14, 84, 85, 34, 35, 36, 38, 39, 40, 41, 42, 43, 44, 45, 46, 171, 172, 173, 174, 175, 176, 177, 101, 102, 103, 2, 104, 23, 105, 106, 107, 108, 22, 109, 110, 52, 53, 111, 112, 113, 114, 115, 116, 117, 118, 51, 776, 777, 778, 779, 780, 781, 782, 783, 784, 801, 802, 803, 804, 805, 806, 807, 808, 809, 810, 811, 812, 813, 814, 815] (by decide +kernel) (by decide +kernel)
set_option maxRecDepth 20000 in
theorem gL_law_X3_takeDown : GoodIn wsL_law (wsV RL 18 RX3 yX3_takeDown wsX3_takeDown) := goodIn_app (goodIn_of _ (by decide +kernel)) ggL_law_X3_takeDown
set_option maxRecDepth 20000 in
theorem ggL_law_X4_takeDown : GoodIn wsL_law wsX4_takeDown := goodIn_r _ [181, 71, 182, 183, 184, 5, 185, 186, 127, 128, 129, 135, 136, 137, 138, 72, 139, 140, 141, 162, 163, 164, 165, 166, 74, 785, 786, 787, 788, 789, 790, 791, 792, 793, 794, 795, 796, 797, 798, 799, 800] (by decide +kernel) (by decide +kernel)
set_option maxRecDepth 20000 in
theorem gL_law_X4_takeDown : GoodIn wsL_law (wsV RL 22 RX4 yX4_takeDown wsX4_takeDown) := goodIn_app (goodIn_of _ (by decide +kernel)) ggL_law_X4_takeDown
set_option maxRecDepth 20000 in
theorem ggL_law_X3_read : GoodIn wsL_law wsX3_read := goodIn_r _ [190, 16, 15, 83, 14, 84, 85, 34, 35, 36, 38, 39, 40, 41, 42, 43, 44, 45, 46, 191, 192, 193, 174, 175, 176, 177, 194, 195, 196, 197, 198, 199, 200, 201, 202, 203, 204, 205, 206, 207, 208, 209, 210, 2, 211, 212, 213, 214, 215, 93, 94, 95, 96, 97, 98, 99, 100, 216, 217, 218, 219, 89, 90, 220, 221, 222, 101, 102, 103, 104, 23, 105, 106, 107, 108, 22, 109, 110, 52, 53, 111, 112, 113, 114, 115, 116, 117, 118, 51, 776, 777, 778, 779, 780, 781, 782, 783, 784, 801, 802, 803, 804, 805, 806, 807, 808, 809, 810, 811, 812, 813, 814, 815] (by decide +kernel) (by decide +kernel)
set_option maxRecDepth 20000 in
theorem gL_law_X3_read : GoodIn wsL_law (wsV RL 23 RX3 yX3_read wsX3_read) := goodIn_app (goodIn_of _ (by decide +kernel)) ggL_law_X3_read
set_option maxRecDepth 20000 in
theorem ggL_law_X4_read : GoodIn wsL_law wsX4_read := goodIn_r _ [226, 182, 183, 184, 5, 185, 186, 71, 127, 128, 129, 135, 136, 137, 138, 72, 139, 140, 141, 227, 228, 229, 230, 231, 232, 233, 234, 235, 236, 237, 238, 158, 159, 160, 161, 146, 147, 148, 149, 150, 151, 152, 153, 154, 155, 156, 157, 162, 163, 164, 165, 166, 74, 785, 786, 787, 788, 789, 790, 791, 792, 793, 794, 795, 796, 797, 798, 799, 800] (by decide +kernel) (by decide +kernel)
set_option maxRecDepth 20000 in
theorem gL_law_X4_read : GoodIn wsL_law (wsV RL 26 RX4 yX4_read wsX4_read) := goodIn_app (goodIn_of _ (by decide +kernel)) ggL_law_X4_read
set_option maxRecDepth 20000 in
theorem ggL_law_X3_write : GoodIn wsL_law wsX3_write := goodIn_r _ [242, 16, 15, 83, 14, 84, 85, 34, 35, 36, 38, 39, 40, 41, 42, 43, 44, 45, 46, 243, 244, 245, 174, 175, 176, 177, 91, 2, 92, 101, 102, 103, 104, 23, 105, 106, 107, 108, 22, 109, 110, 52, 53, 111, 112, 113, 114, 115, 116, 117, 118, 51, 776, 777, 778, 779, 780, 781, 782, 783, 784, 801, 802, 803, 804, 805, 806, 807, 808, 809, 810, 811, 812, 813, 814, 815] (by decide +kernel) (by decide +kernel)
set_option maxRecDepth 20000 in
theorem gL_law_X3_write : GoodIn wsL_law (wsV RL 27 RX3 yX3_write wsX3_write) := goodIn_app (goodIn_of _ (by decide +kernel)) ggL_law_X3_write
set_option maxRecDepth 20000 in
theorem ggL_law_X4_write : GoodIn wsL_law wsX4_write := goodIn_r _ [249, 182, 183, 184, 5, 185, 186, 71, 127, 128, 129, 130, 131, 132, 133, 134, 135, 136, 137, 138, 72, 139, 140, 141, 250, 251, 252, 253, 162, 163, 164, 165, 166, 74, 785, 786, 787, 788, 789, 790, 791, 792, 793, 794, 795, 796, 797, 798, 799, 800] (by decide +kernel) (by decide +kernel)
set_option maxRecDepth 20000 in
theorem gL_law_X4_write : GoodIn wsL_law (wsV RL 30 RX4 yX4_write wsX4_write) := goodIn_app (goodIn_of _ (by decide +kernel)) ggL_law_X4_write
set_option maxRecDepth 20000 in
theorem ggL_law_X3_move : GoodIn wsL_law wsX3_move := goodIn_r _ [257, 16, 15, 83, 14, 84, 85, 34, 35, 36, 38, 39, 40, 41, 42, 43, 44, 45, 46, 258, 259, 260, 174, 175, 176, 177, 89, 2, 90, 93, 94, 95, 96, 97, 98, 99, 100, 101, 102, 103, 104, 23, 105, 106, 107, 108, 22, 109, 110, 52, 53, 111, 112, 113, 114, 115, 116, 117, 118, 51, 776, 777, 778, 779, 780, 781, 782, 783, 784, 801, 802, 803, 804, 805, 806, 807, 808, 809, 810, 811, 812, 813, 814, 815] (by decide +kernel) (by decide +kernel)
set_option maxRecDepth 20000 in
theorem gL_law_X3_move : GoodIn wsL_law (wsV RL 31 RX3 yX3_move wsX3_move) := goodIn_app (goodIn_of _ (by decide +kernel)) ggL_law_X3_move
set_option maxRecDepth 20000 in
theorem ggL_law_X4_move : GoodIn wsL_law wsX4_move := goodIn_r _ [264, 71, 182, 183, 184, 5, 185, 186, 127, 128, 129, 123, 124, 125, 126, 135, 136, 137, 138, 72, 139, 140, 141, 158, 159, 160, 161, 146, 147, 148, 149, 150, 151, 152, 153, 154, 155, 156, 157, 162, 163, 164, 165, 166, 74, 785, 786, 787, 788, 789, 790, 791, 792, 793, 794, 795, 796, 797, 798, 799, 800] (by decide +kernel) (by decide +kernel)
set_option maxRecDepth 20000 in
theorem gL_law_X4_move : GoodIn wsL_law (wsV RL 34 RX4 yX4_move wsX4_move) := goodIn_app (goodIn_of _ (by decide +kernel)) ggL_law_X4_move
set_option maxRecDepth 20000 in
theorem ggL_law_X3_beat : GoodIn wsL_law wsX3_beat := goodIn_r _ [268, 16, 15, 83, 14, 84, 85, 34, 35, 36, 38, 39, 40, 41, 42, 43, 44, 45, 46, 269, 270, 271, 272, 273, 274, 275, 276, 277, 113, 278, 279, 280, 281, 282, 283, 174, 175, 176, 177, 284, 285, 286, 287, 198, 199, 200, 201, 202, 203, 204, 205, 101, 102, 103, 2, 104, 23, 105, 106, 107, 108, 22, 109, 110, 52, 53, 111, 112, 114, 115, 116, 117, 118, 51, 776, 777, 778, 779, 780, 781, 782, 783, 784, 801, 802, 803, 804, 805, 806, 807, 808, 809, 810, 811, 812, 813, 814, 815] (by decide +kernel) (by decide +kernel)
set_option maxRecDepth 20000 in
theorem gL_law_X3_beat : GoodIn wsL_law (wsV RL 35 RX3 yX3_beat wsX3_beat) := goodIn_app (goodIn_of _ (by decide +kernel)) ggL_law_X3_beat
set_option maxRecDepth 20000 in
theorem ggL_law_X4_beat : GoodIn wsL_law wsX4_beat := goodIn_r _ [291, 292, 71, 127, 128, 5, 129, 135, 136, 137, 138, 72, 139, 140, 141, 293, 294, 295, 296, 297, 298, 299, 300, 301, 302, 303, 304, 158, 159, 160, 161, 162, 163, 164, 165, 166, 74, 785, 786, 787, 788, 789, 790, 791, 792, 793, 794, 795, 796, 797, 798, 799, 800] (by decide +kernel) (by decide +kernel)
set_option maxRecDepth 20000 in
theorem gL_law_X4_beat : GoodIn wsL_law (wsV RL 38 RX4 yX4_beat wsX4_beat) := goodIn_app (goodIn_of _ (by decide +kernel)) ggL_law_X4_beat
set_option maxRecDepth 20000 in
theorem ggL_law_X3_wind : GoodIn wsL_law wsX3_wind := goodIn_r _ [308, 16, 15, 83, 14, 84, 85, 34, 35, 36, 38, 39, 40, 41, 42, 43, 44, 45, 46, 309, 310, 311, 210, 2, 211, 101, 102, 103, 104, 23, 105, 106, 107, 108, 22, 109, 110, 52, 53, 111, 112, 113, 114, 115, 116, 117, 118, 51, 776, 777, 778, 779, 780, 781, 782, 783, 784, 801, 802, 803, 804, 805, 806, 807, 808, 809, 810, 811, 812, 813, 814, 815] (by decide +kernel) (by decide +kernel)
set_option maxRecDepth 20000 in
theorem gL_law_X3_wind : GoodIn wsL_law (wsV RL 39 RX3 yX3_wind wsX3_wind) := goodIn_app (goodIn_of _ (by decide +kernel)) ggL_law_X3_wind
set_option maxRecDepth 20000 in
theorem ggL_law_X4_wind : GoodIn wsL_law wsX4_wind := goodIn_r _ [315, 316, 71, 317, 318, 5, 319, 320, 127, 128, 129, 135, 136, 137, 138, 72, 139, 140, 141, 162, 163, 164, 165, 166, 74, 785, 786, 787, 788, 789, 790, 791, 792, 793, 794, 795, 796, 797, 798, 799, 800] (by decide +kernel) (by decide +kernel)
set_option maxRecDepth 20000 in
theorem gL_law_X4_wind : GoodIn wsL_law (wsV RL 42 RX4 yX4_wind wsX4_wind) := goodIn_app (goodIn_of _ (by decide +kernel)) ggL_law_X4_wind
set_option maxRecDepth 20000 in
theorem ggL_law_X3_set : GoodIn wsL_law wsX3_set := goodIn_r _ [324, 16, 15, 83, 14, 84, 85, 34, 35, 36, 38, 39, 40, 41, 42, 43, 44, 45, 46, 325, 326, 327, 328, 329, 330, 331, 332, 333, 334, 335, 101, 102, 103, 2, 104, 23, 105, 106, 107, 108, 22, 109, 110, 52, 53, 111, 112, 113, 114, 115, 116, 117, 118, 51, 776, 777, 778, 779, 780, 781, 782, 783, 784, 801, 802, 803, 804, 805, 806, 807, 808, 809, 810, 811, 812, 813, 814, 815] (by decide +kernel) (by decide +kernel)
set_option maxRecDepth 20000 in
theorem gL_law_X3_set : GoodIn wsL_law (wsV RL 43 RX3 yX3_set wsX3_set) := goodIn_app (goodIn_of _ (by decide +kernel)) ggL_law_X3_set
set_option maxRecDepth 20000 in
theorem ggL_law_X4_set : GoodIn wsL_law wsX4_set := goodIn_r _ [339, 340, 341, 316, 71, 127, 128, 5, 129, 135, 136, 137, 138, 72, 139, 140, 141, 162, 163, 164, 165, 166, 74, 785, 786, 787, 788, 789, 790, 791, 792, 793, 794, 795, 796, 797, 798, 799, 800] (by decide +kernel) (by decide +kernel)
set_option maxRecDepth 20000 in
theorem gL_law_X4_set : GoodIn wsL_law (wsV RL 46 RX4 yX4_set wsX4_set) := goodIn_app (goodIn_of _ (by decide +kernel)) ggL_law_X4_set
set_option maxRecDepth 20000 in
theorem ggL_law_X3_type : GoodIn wsL_law wsX3_type := goodIn_r _ [345, 27, 346, 26, 347, 348, 59, 58, 776, 777, 778, 779, 780, 781, 782, 783, 784, 816, 817, 818, 819, 820, 821, 822, 823, 824] (by decide +kernel) (by decide +kernel)
set_option maxRecDepth 20000 in
theorem gL_law_X3_type : GoodIn wsL_law (wsV RL 47 RX3 yX3_type wsX3_type) := goodIn_app (goodIn_of _ (by decide +kernel)) ggL_law_X3_type
set_option maxRecDepth 20000 in
theorem ggL_law_X4_type : GoodIn wsL_law wsX4_type := goodIn_r _ [352, 353, 78, 785, 786, 787, 788, 789, 790, 791, 792, 793, 794, 795, 796, 797, 798, 799, 800] (by decide +kernel) (by decide +kernel)
set_option maxRecDepth 20000 in
theorem gL_law_X4_type : GoodIn wsL_law (wsV RL 51 RX4 yX4_type wsX4_type) := goodIn_app (goodIn_of _ (by decide +kernel)) ggL_law_X4_type
set_option maxRecDepth 20000 in
theorem ggL_law_X3_clearText : GoodIn wsL_law wsX3_clearText := goodIn_r _ [357, 27, 358, 26, 359, 360, 59, 776, 777, 778, 779, 780, 781, 782, 783, 784, 816, 817, 818, 819, 820, 821, 822, 823, 824] (by decide +kernel) (by decide +kernel)
set_option maxRecDepth 20000 in
theorem gL_law_X3_clearText : GoodIn wsL_law (wsV RL 52 RX3 yX3_clearText wsX3_clearText) := goodIn_app (goodIn_of _ (by decide +kernel)) ggL_law_X3_clearText
set_option maxRecDepth 20000 in
theorem ggL_law_X4_clearText : GoodIn wsL_law wsX4_clearText := goodIn_r _ [364, 353, 785, 786, 787, 788, 789, 790, 791, 792, 793, 794, 795, 796, 797, 798, 799, 800] (by decide +kernel) (by decide +kernel)
set_option maxRecDepth 20000 in
theorem gL_law_X4_clearText : GoodIn wsL_law (wsV RL 56 RX4 yX4_clearText wsX4_clearText) := goodIn_app (goodIn_of _ (by decide +kernel)) ggL_law_X4_clearText
set_option maxRecDepth 20000 in
theorem ggL_law_X3_perform : GoodIn wsL_law wsX3_perform := goodIn_r _ [368, 27, 16, 15, 28, 29, 369, 26, 370, 371, 64, 63, 372, 373, 374, 375, 60, 65, 61, 66, 62, 376, 377, 378, 379, 380, 277, 113, 278, 381, 382, 383, 384, 385, 386, 387, 388, 389, 390, 391, 392, 393, 394, 395, 396, 397, 398, 399, 400, 401, 402, 403, 59, 58, 404, 405, 406, 407, 408, 409, 410, 411, 412, 413, 414, 415, 416, 417, 418, 419, 420, 421, 422, 423, 424, 425, 426, 427, 428, 429, 430, 431, 432, 433, 434, 435, 436, 437, 438, 439, 440, 441, 442, 443, 444, 445, 446, 447, 448, 449, 450, 451, 452, 453, 454, 455, 456, 457, 458, 459, 460, 83, 14, 84, 85, 34, 35, 36, 38, 39, 40, 41, 42, 43, 44, 45, 46, 461, 462, 463, 464, 465, 466, 467, 468, 469, 470, 471, 472, 473, 474, 475, 476, 477, 86, 87, 88, 89, 2, 90, 91, 92, 93, 94, 95, 96, 97, 98, 99, 100, 478, 191, 192, 193, 174, 175, 176, 177, 194, 195, 196, 197, 198, 199, 200, 201, 202, 203, 204, 205, 206, 207, 208, 209, 210, 211, 212, 213, 214, 215, 216, 217, 218, 219, 220, 221, 222, 479, 243, 244, 245, 480, 269, 270, 271, 272, 273, 274, 275, 276, 279, 280, 281, 282, 283, 284, 285, 286, 287, 481, 309, 310, 311, 105, 106, 107, 101, 102, 103, 104, 23, 108, 22, 109, 110, 52, 53, 111, 112, 114, 115, 116, 117, 118, 51, 776, 777, 778, 779, 780, 781, 782, 783, 784, 816, 817, 818, 819, 820, 821, 822, 823, 824, 801, 802, 803, 804, 805, 806, 807, 808, 809, 810, 811, 812, 813, 814, 815] (by decide +kernel) (by decide +kernel)
set_option maxRecDepth 20000 in
theorem gL_law_X3_perform : GoodIn wsL_law (wsV RL 57 RX3 yX3_perform wsX3_perform) := goodIn_app (goodIn_of _ (by decide +kernel)) ggL_law_X3_perform
set_option maxRecDepth 20000 in
theorem ggL_law_X4_perform : GoodIn wsL_law wsX4_perform := goodIn_r _ [485, 486, 72, 71, 76, 77, 487, 488, 489, 5, 490, 353, 491, 492, 493, 494, 495, 496, 497, 498, 499, 500, 501, 502, 503, 504, 505, 506, 507, 508, 78, 127, 128, 129, 509, 510, 511, 512, 513, 514, 515, 516, 517, 518, 519, 520, 521, 522, 523, 524, 135, 136, 137, 138, 139, 140, 141, 525, 526, 527, 528, 142, 143, 144, 145, 146, 147, 148, 149, 150, 151, 152, 153, 154, 155, 156, 157, 158, 159, 160, 161, 182, 183, 184, 185, 186, 227, 228, 229, 230, 231, 232, 233, 234, 235, 236, 237, 238, 250, 251, 252, 253, 293, 294, 295, 296, 297, 298, 299, 300, 301, 302, 303, 304, 162, 163, 164, 165, 166, 74, 785, 786, 787, 788, 789, 790, 791, 792, 793, 794, 795, 796, 797, 798, 799, 800] (by decide +kernel) (by decide +kernel)
set_option maxRecDepth 20000 in
theorem gL_law_X4_perform : GoodIn wsL_law (wsV RL 60 RX4 yX4_perform wsX4_perform) := goodIn_app (goodIn_of _ (by decide +kernel)) ggL_law_X4_perform
set_option maxRecDepth 20000 in
theorem ggL_law_X3_stopped : GoodIn wsL_law wsX3_stopped := goodIn_r _ [532, 28, 29, 776, 777, 778, 779, 780, 781, 782, 783, 784] (by decide +kernel) (by decide +kernel)
set_option maxRecDepth 20000 in
theorem gL_law_X3_stopped : GoodIn wsL_law (wsV RL 61 RX3 yX3_stopped wsX3_stopped) := goodIn_app (goodIn_of _ (by decide +kernel)) ggL_law_X3_stopped
set_option maxRecDepth 20000 in
theorem ggL_law_X4_stopped : GoodIn wsL_law wsX4_stopped := goodIn_r _ [536, 76, 77, 785, 786, 787, 788, 789, 790, 791, 792, 793, 794, 795, 796, 797, 798, 799, 800] (by decide +kernel) (by decide +kernel)
set_option maxRecDepth 20000 in
theorem gL_law_X4_stopped : GoodIn wsL_law (wsV RL 64 RX4 yX4_stopped wsX4_stopped) := goodIn_app (goodIn_of _ (by decide +kernel)) ggL_law_X4_stopped
set_option maxRecDepth 20000 in
theorem ggL_law_X3_undo : GoodIn wsL_law wsX3_undo := goodIn_r _ [540, 23, 15, 541, 22, 542, 543, 53, 52, 115, 116, 117, 118, 51, 83, 14, 84, 85, 34, 35, 36, 38, 39, 40, 41, 42, 43, 44, 45, 46, 776, 777, 778, 779, 780, 781, 782, 783, 784, 813, 814, 815, 801, 802, 803, 804, 805, 806, 807, 808, 809, 810, 811, 812] (by decide +kernel) (by decide +kernel)
set_option maxRecDepth 20000 in
theorem gL_law_X3_undo : GoodIn wsL_law (wsV RL 65 RX3 yX3_undo wsX3_undo) := goodIn_app (goodIn_of _ (by decide +kernel)) ggL_law_X3_undo
set_option maxRecDepth 20000 in
theorem ggL_law_X4_undo : GoodIn wsL_law wsX4_undo := goodIn_r _ [547, 166, 71, 74, 785, 786, 787, 788, 789, 790, 791, 792, 793, 794, 795, 796, 797, 798, 799, 800] (by decide +kernel) (by decide +kernel)
set_option maxRecDepth 20000 in
theorem gL_law_X4_undo : GoodIn wsL_law (wsV RL 68 RX4 yX4_undo wsX4_undo) := goodIn_app (goodIn_of _ (by decide +kernel)) ggL_law_X4_undo
set_option maxRecDepth 20000 in
theorem ggL_law_X3_keep : GoodIn wsL_law wsX3_keep := goodIn_r _ [551, 18, 15, 19, 83, 14, 84, 85, 34, 35, 36, 38, 39, 40, 41, 42, 43, 44, 45, 46, 552, 553, 554, 776, 777, 778, 779, 780, 781, 782, 783, 784, 801, 802, 803, 804, 805, 806, 807, 808, 809, 810, 811, 812] (by decide +kernel) (by decide +kernel)
set_option maxRecDepth 20000 in
theorem gL_law_X3_keep : GoodIn wsL_law (wsV RL 69 RX3 yX3_keep wsX3_keep) := goodIn_app (goodIn_of _ (by decide +kernel)) ggL_law_X3_keep
set_option maxRecDepth 20000 in
theorem ggL_law_X4_keep : GoodIn wsL_law wsX4_keep := goodIn_r _ [558, 71, 75, 559, 139, 140, 5, 141, 560, 561, 562, 563, 564, 565, 566, 567, 785, 786, 787, 788, 789, 790, 791, 792, 793, 794, 795, 796, 797, 798, 799, 800] (by decide +kernel) (by decide +kernel)
set_option maxRecDepth 20000 in
theorem gL_law_X4_keep : GoodIn wsL_law (wsV RL 72 RX4 yX4_keep wsX4_keep) := goodIn_app (goodIn_of _ (by decide +kernel)) ggL_law_X4_keep
set_option maxRecDepth 20000 in
theorem ggL_law_X3_restore : GoodIn wsL_law wsX3_restore := goodIn_r _ [571, 19, 16, 15, 18, 83, 14, 84, 85, 34, 35, 36, 38, 39, 40, 41, 42, 43, 44, 45, 46, 552, 553, 554, 101, 102, 103, 2, 104, 23, 105, 106, 107, 108, 22, 109, 110, 52, 53, 111, 112, 113, 114, 115, 116, 117, 118, 51, 776, 777, 778, 779, 780, 781, 782, 783, 784, 801, 802, 803, 804, 805, 806, 807, 808, 809, 810, 811, 812, 813, 814, 815] (by decide +kernel) (by decide +kernel)
set_option maxRecDepth 20000 in
theorem gL_law_X3_restore : GoodIn wsL_law (wsV RL 73 RX3 yX3_restore wsX3_restore) := goodIn_app (goodIn_of _ (by decide +kernel)) ggL_law_X3_restore
set_option maxRecDepth 20000 in
theorem ggL_law_X4_restore : GoodIn wsL_law wsX4_restore := goodIn_r _ [575, 559, 75, 71, 135, 136, 137, 5, 138, 72, 139, 140, 141, 560, 561, 562, 563, 564, 565, 566, 567, 162, 163, 164, 165, 166, 74, 785, 786, 787, 788, 789, 790, 791, 792, 793, 794, 795, 796, 797, 798, 799, 800] (by decide +kernel) (by decide +kernel)
set_option maxRecDepth 20000 in
theorem gL_law_X4_restore : GoodIn wsL_law (wsV RL 76 RX4 yX4_restore wsX4_restore) := goodIn_app (goodIn_of _ (by decide +kernel)) ggL_law_X4_restore
set_option maxRecDepth 20000 in
theorem ggL_law_X3_kite : GoodIn wsL_law wsX3_kite := goodIn_r _ [579, 15, 580, 14, 581, 582, 34, 35, 36, 38, 39, 40, 283, 174, 175, 176, 177, 583, 584, 585, 586, 279, 280, 281, 282, 587, 588, 589, 590, 776, 777, 778, 779, 780, 781, 782, 783, 784, 801, 802, 803, 804, 805, 806, 807, 808, 809, 810, 811, 812] (by decide +kernel) (by decide +kernel)
set_option maxRecDepth 20000 in
theorem gL_law_X3_kite : GoodIn wsL_law (wsV RL 77 RX3 yX3_kite wsX3_kite) := goodIn_app (goodIn_of _ (by decide +kernel)) ggL_law_X3_kite
set_option maxRecDepth 20000 in
theorem ggL_law_X4_kite : GoodIn wsL_law wsX4_kite := goodIn_r _ [594, 71, 182, 183, 184, 5, 185, 186, 127, 128, 129, 158, 159, 160, 161, 595, 596, 597, 598, 301, 302, 303, 304, 785, 786, 787, 788, 789, 790, 791, 792, 793, 794, 795, 796, 797, 798, 799, 800] (by decide +kernel) (by decide +kernel)
set_option maxRecDepth 20000 in
theorem gL_law_X4_kite : GoodIn wsL_law (wsV RL 80 RX4 yX4_kite wsX4_kite) := goodIn_app (goodIn_of _ (by decide +kernel)) ggL_law_X4_kite
set_option maxRecDepth 20000 in
theorem ggL_law_X3_string : GoodIn wsL_law wsX3_string := goodIn_r _ [602, 15, 603, 14, 604, 605, 283, 42, 89, 2, 90, 583, 584, 585, 586, 35, 36, 606, 607, 608, 609, 587, 588, 589, 590, 279, 280, 281, 282, 610, 611, 612, 613, 34, 776, 777, 778, 779, 780, 781, 782, 783, 784, 801, 802, 803, 804, 805, 806, 807, 808, 809, 810, 811, 812] (by decide +kernel) (by decide +kernel)
set_option maxRecDepth 20000 in
theorem gL_law_X3_string : GoodIn wsL_law (wsV RL 81 RX3 yX3_string wsX3_string) := goodIn_app (goodIn_of _ (by decide +kernel)) ggL_law_X3_string
set_option maxRecDepth 20000 in
theorem ggL_law_X4_string : GoodIn wsL_law wsX4_string := goodIn_r _ [617, 71, 123, 124, 5, 125, 126, 127, 128, 129, 564, 565, 566, 567, 618, 619, 620, 621, 622, 623, 624, 625, 158, 159, 160, 161, 626, 627, 628, 629, 301, 302, 303, 304, 630, 631, 632, 633, 785, 786, 787, 788, 789, 790, 791, 792, 793, 794, 795, 796, 797, 798, 799, 800] (by decide +kernel) (by decide +kernel)
set_option maxRecDepth 20000 in
theorem gL_law_X4_string : GoodIn wsL_law (wsV RL 84 RX4 yX4_string wsX4_string) := goodIn_app (goodIn_of _ (by decide +kernel)) ggL_law_X4_string
set_option maxRecDepth 20000 in
theorem ggL_law_X3_drawn : GoodIn wsL_law wsX3_drawn := goodIn_r _ [637, 15, 638, 14, 639, 640, 35, 36, 89, 2, 90, 776, 777, 778, 779, 780, 781, 782, 783, 784, 801, 802, 803, 804, 805, 806, 807, 808, 809, 810, 811, 812] (by decide +kernel) (by decide +kernel)
set_option maxRecDepth 20000 in
theorem gL_law_X3_drawn : GoodIn wsL_law (wsV RL 85 RX3 yX3_drawn wsX3_drawn) := goodIn_app (goodIn_of _ (by decide +kernel)) ggL_law_X3_drawn
set_option maxRecDepth 20000 in
theorem ggL_law_X4_drawn : GoodIn wsL_law wsX4_drawn := goodIn_r _ [644, 71, 123, 124, 5, 125, 126, 127, 128, 129, 618, 619, 620, 621, 622, 623, 624, 625, 158, 159, 160, 161, 785, 786, 787, 788, 789, 790, 791, 792, 793, 794, 795, 796, 797, 798, 799, 800] (by decide +kernel) (by decide +kernel)
set_option maxRecDepth 20000 in
theorem gL_law_X4_drawn : GoodIn wsL_law (wsV RL 88 RX4 yX4_drawn wsX4_drawn) := goodIn_app (goodIn_of _ (by decide +kernel)) ggL_law_X4_drawn
set_option maxRecDepth 20000 in
theorem ggL_law_X3_share : GoodIn wsL_law wsX3_share := goodIn_r _ [648, 15, 649, 14, 650, 651, 35, 36, 174, 175, 176, 177, 606, 607, 608, 609, 776, 777, 778, 779, 780, 781, 782, 783, 784, 801, 802, 803, 804, 805, 806, 807, 808, 809, 810, 811, 812] (by decide +kernel) (by decide +kernel)
set_option maxRecDepth 20000 in
theorem gL_law_X3_share : GoodIn wsL_law (wsV RL 89 RX3 yX3_share wsX3_share) := goodIn_app (goodIn_of _ (by decide +kernel)) ggL_law_X3_share
set_option maxRecDepth 20000 in
theorem ggL_law_X4_share : GoodIn wsL_law wsX4_share := goodIn_r _ [655, 71, 182, 183, 184, 5, 185, 186, 127, 128, 129, 622, 623, 624, 625, 158, 159, 160, 161, 618, 619, 620, 621, 785, 786, 787, 788, 789, 790, 791, 792, 793, 794, 795, 796, 797, 798, 799, 800] (by decide +kernel) (by decide +kernel)
set_option maxRecDepth 20000 in
theorem gL_law_X4_share : GoodIn wsL_law (wsV RL 92 RX4 yX4_share wsX4_share) := goodIn_app (goodIn_of _ (by decide +kernel)) ggL_law_X4_share
set_option maxRecDepth 20000 in
theorem ggL_law_X3_windOf : GoodIn wsL_law wsX3_windOf := goodIn_r _ [659, 15, 207, 14, 208, 209, 41, 210, 2, 211, 776, 777, 778, 779, 780, 781, 782, 783, 784, 801, 802, 803, 804, 805, 806, 807, 808, 809, 810, 811, 812] (by decide +kernel) (by decide +kernel)
set_option maxRecDepth 20000 in
theorem gL_law_X3_windOf : GoodIn wsL_law (wsV RL 93 RX3 yX3_windOf wsX3_windOf) := goodIn_app (goodIn_of _ (by decide +kernel)) ggL_law_X3_windOf
set_option maxRecDepth 20000 in
theorem ggL_law_X4_windOf : GoodIn wsL_law wsX4_windOf := goodIn_r _ [663, 71, 317, 318, 5, 319, 320, 127, 128, 129, 785, 786, 787, 788, 789, 790, 791, 792, 793, 794, 795, 796, 797, 798, 799, 800] (by decide +kernel) (by decide +kernel)
set_option maxRecDepth 20000 in
theorem gL_law_X4_windOf : GoodIn wsL_law (wsV RL 96 RX4 yX4_windOf wsX4_windOf) := goodIn_app (goodIn_of _ (by decide +kernel)) ggL_law_X4_windOf
set_option maxRecDepth 20000 in
theorem ggL_law_X3_ifRead : GoodIn wsL_law wsX3_ifRead := goodIn_r _ [667, 15, 668, 14, 669, 670, 35, 36, 45, 174, 175, 176, 177, 194, 195, 196, 197, 198, 199, 200, 201, 43, 202, 203, 204, 205, 206, 207, 208, 209, 41, 210, 2, 211, 212, 213, 214, 215, 93, 94, 95, 96, 97, 98, 99, 100, 220, 221, 222, 583, 584, 585, 586, 776, 777, 778, 779, 780, 781, 782, 783, 784, 801, 802, 803, 804, 805, 806, 807, 808, 809, 810, 811, 812] (by decide +kernel) (by decide +kernel)
set_option maxRecDepth 20000 in
theorem gL_law_X3_ifRead : GoodIn wsL_law (wsV RL 97 RX3 yX3_ifRead wsX3_ifRead) := goodIn_app (goodIn_of _ (by decide +kernel)) ggL_law_X3_ifRead
set_option maxRecDepth 20000 in
theorem ggL_law_X4_ifRead : GoodIn wsL_law wsX4_ifRead := goodIn_r _ [674, 126, 71, 73, 182, 183, 184, 5, 185, 186, 127, 128, 129, 139, 140, 141, 158, 159, 160, 161, 231, 232, 233, 234, 235, 236, 237, 238, 146, 147, 148, 149, 150, 151, 152, 153, 154, 155, 156, 157, 675, 676, 677, 678, 785, 786, 787, 788, 789, 790, 791, 792, 793, 794, 795, 796, 797, 798, 799, 800] (by decide +kernel) (by decide +kernel)
set_option maxRecDepth 20000 in
theorem gL_law_X4_ifRead : GoodIn wsL_law (wsV RL 100 RX4 yX4_ifRead wsX4_ifRead) := goodIn_app (goodIn_of _ (by decide +kernel)) ggL_law_X4_ifRead
set_option maxRecDepth 20000 in
theorem ggL_law_X3_readsToCut : GoodIn wsL_law wsX3_readsToCut := goodIn_r _ [682, 15, 683, 14, 684, 685, 36, 35, 45, 174, 175, 176, 177, 194, 195, 196, 197, 198, 199, 200, 201, 43, 202, 203, 204, 205, 206, 207, 208, 209, 41, 210, 2, 211, 212, 213, 214, 215, 93, 94, 95, 96, 97, 98, 99, 100, 776, 777, 778, 779, 780, 781, 782, 783, 784, 801, 802, 803, 804, 805, 806, 807, 808, 809, 810, 811, 812] (by decide +kernel) (by decide +kernel)
set_option maxRecDepth 20000 in
theorem gL_law_X3_readsToCut : GoodIn wsL_law (wsV RL 101 RX3 yX3_readsToCut wsX3_readsToCut) := goodIn_app (goodIn_of _ (by decide +kernel)) ggL_law_X3_readsToCut
set_option maxRecDepth 20000 in
theorem ggL_law_X4_readsToCut : GoodIn wsL_law wsX4_readsToCut := goodIn_r _ [689, 71, 73, 182, 183, 184, 5, 185, 186, 127, 128, 129, 139, 140, 141, 231, 232, 233, 234, 235, 236, 237, 238, 158, 159, 160, 161, 146, 147, 148, 149, 150, 151, 152, 153, 154, 155, 156, 157, 785, 786, 787, 788, 789, 790, 791, 792, 793, 794, 795, 796, 797, 798, 799, 800] (by decide +kernel) (by decide +kernel)
set_option maxRecDepth 20000 in
theorem gL_law_X4_readsToCut : GoodIn wsL_law (wsV RL 104 RX4 yX4_readsToCut wsX4_readsToCut) := goodIn_app (goodIn_of _ (by decide +kernel)) ggL_law_X4_readsToCut
set_option maxRecDepth 20000 in
theorem ggL_law_X3_downIn : GoodIn wsL_law wsX3_downIn := goodIn_r _ [693, 17, 15, 83, 14, 84, 85, 34, 35, 36, 38, 39, 40, 41, 42, 43, 44, 45, 46, 694, 695, 696, 174, 175, 176, 177, 272, 273, 274, 275, 276, 277, 113, 278, 279, 280, 281, 282, 283, 284, 285, 286, 287, 776, 777, 778, 779, 780, 781, 782, 783, 784, 801, 802, 803, 804, 805, 806, 807, 808, 809, 810, 811, 812] (by decide +kernel) (by decide +kernel)
set_option maxRecDepth 20000 in
theorem gL_law_X3_downIn : GoodIn wsL_law (wsV RL 105 RX3 yX3_downIn wsX3_downIn) := goodIn_app (goodIn_of _ (by decide +kernel)) ggL_law_X3_downIn
set_option maxRecDepth 20000 in
theorem ggL_law_X4_downIn : GoodIn wsL_law wsX4_downIn := goodIn_r _ [700, 701, 71, 73, 182, 183, 184, 5, 185, 186, 127, 128, 129, 139, 140, 141, 158, 159, 160, 161, 293, 294, 295, 296, 297, 298, 299, 300, 301, 302, 303, 304, 785, 786, 787, 788, 789, 790, 791, 792, 793, 794, 795, 796, 797, 798, 799, 800] (by decide +kernel) (by decide +kernel)
set_option maxRecDepth 20000 in
theorem gL_law_X4_downIn : GoodIn wsL_law (wsV RL 108 RX4 yX4_downIn wsX4_downIn) := goodIn_app (goodIn_of _ (by decide +kernel)) ggL_law_X4_downIn
set_option maxRecDepth 20000 in
theorem ggL_law_X3_safeWind : GoodIn wsL_law wsX3_safeWind := goodIn_r _ [705, 15, 706, 14, 707, 708, 709, 710, 711, 712, 35, 36, 45, 212, 213, 214, 215, 93, 94, 95, 96, 97, 98, 99, 100, 776, 777, 778, 779, 780, 781, 782, 783, 784, 801, 802, 803, 804, 805, 806, 807, 808, 809, 810, 811, 812] (by decide +kernel) (by decide +kernel)
set_option maxRecDepth 20000 in
theorem gL_law_X3_safeWind : GoodIn wsL_law (wsV RL 109 RX3 yX3_safeWind wsX3_safeWind) := goodIn_app (goodIn_of _ (by decide +kernel)) ggL_law_X3_safeWind
set_option maxRecDepth 20000 in
theorem ggL_law_X4_safeWind : GoodIn wsL_law wsX4_safeWind := goodIn_r _ [716, 717, 718, 719, 5, 720, 71, 73, 182, 183, 184, 185, 186, 127, 128, 129, 139, 140, 141, 235, 236, 237, 238, 158, 159, 160, 161, 146, 147, 148, 149, 150, 151, 152, 153, 154, 155, 156, 157, 785, 786, 787, 788, 789, 790, 791, 792, 793, 794, 795, 796, 797, 798, 799, 800] (by decide +kernel) (by decide +kernel)
set_option maxRecDepth 20000 in
theorem gL_law_X4_safeWind : GoodIn wsL_law (wsV RL 112 RX4 yX4_safeWind wsX4_safeWind) := goodIn_app (goodIn_of _ (by decide +kernel)) ggL_law_X4_safeWind
set_option maxRecDepth 20000 in
theorem ggL_law_X3_calmest : GoodIn wsL_law wsX3_calmest := goodIn_r _ [724, 15, 725, 14, 726, 727, 728, 729, 730, 731, 93, 94, 95, 96, 97, 98, 99, 100, 35, 36, 606, 607, 608, 609, 776, 777, 778, 779, 780, 781, 782, 783, 784, 801, 802, 803, 804, 805, 806, 807, 808, 809, 810, 811, 812] (by decide +kernel) (by decide +kernel)
set_option maxRecDepth 20000 in
theorem gL_law_X3_calmest : GoodIn wsL_law (wsV RL 113 RX3 yX3_calmest wsX3_calmest) := goodIn_app (goodIn_of _ (by decide +kernel)) ggL_law_X3_calmest
set_option maxRecDepth 20000 in
theorem ggL_law_X4_calmest : GoodIn wsL_law wsX4_calmest := goodIn_r _ [735, 150, 151, 152, 5, 153, 154, 155, 156, 157, 71, 158, 159, 160, 161, 618, 619, 620, 621, 622, 623, 624, 625, 785, 786, 787, 788, 789, 790, 791, 792, 793, 794, 795, 796, 797, 798, 799, 800] (by decide +kernel) (by decide +kernel)
set_option maxRecDepth 20000 in
theorem gL_law_X4_calmest : GoodIn wsL_law (wsV RL 116 RX4 yX4_calmest wsX4_calmest) := goodIn_app (goodIn_of _ (by decide +kernel)) ggL_law_X4_calmest
set_option maxRecDepth 20000 in
theorem ggL_law_X3_count : GoodIn wsL_law wsX3_count := goodIn_r _ [739, 23, 27, 15, 740, 14, 741, 742, 44, 45, 46, 43, 743, 552, 553, 554, 35, 198, 199, 200, 201, 202, 203, 204, 205, 194, 195, 196, 197, 206, 207, 208, 209, 41, 210, 2, 211, 744, 745, 746, 747, 42, 748, 749, 750, 751, 38, 752, 753, 754, 755, 36, 276, 277, 113, 278, 756, 757, 758, 759, 606, 607, 608, 609, 776, 777, 778, 779, 780, 781, 782, 783, 784, 813, 814, 815, 816, 817, 818, 819, 820, 821, 822, 823, 824, 801, 802, 803, 804, 805, 806, 807, 808, 809, 810, 811, 812] (by decide +kernel) (by decide +kernel)
set_option maxRecDepth 20000 in
theorem gL_law_X3_count : GoodIn wsL_law (wsV RL 117 RX3 yX3_count wsX3_count) := goodIn_app (goodIn_of _ (by decide +kernel)) ggL_law_X3_count
set_option maxRecDepth 20000 in
theorem ggL_law_X4_count : GoodIn wsL_law wsX4_count := goodIn_r _ [763, 71, 166, 353, 560, 561, 562, 5, 563, 564, 565, 566, 567, 231, 232, 233, 234, 764, 765, 766, 767, 182, 183, 184, 185, 186, 127, 128, 129, 768, 769, 770, 771, 158, 159, 160, 161, 772, 773, 774, 775, 618, 619, 620, 621, 622, 623, 624, 625, 785, 786, 787, 788, 789, 790, 791, 792, 793, 794, 795, 796, 797, 798, 799, 800] (by decide +kernel) (by decide +kernel)
set_option maxRecDepth 20000 in
theorem gL_law_X4_count : GoodIn wsL_law (wsV RL 120 RX4 yX4_count wsX4_count) := goodIn_app (goodIn_of _ (by decide +kernel)) ggL_law_X4_count
