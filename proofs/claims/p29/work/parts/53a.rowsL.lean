theorem dL_cell_0 : decode cL_cell 0 = .ok (.iload_n 1, 1) := by decide +kernel
theorem dL_cell_1 : decode cL_cell 1 = .ok (.aload_n 0, 1) := by decide +kernel
theorem dL_cell_2 : decode cL_cell 2 = .ok (.arraylength, 1) := by decide +kernel
theorem dL_cell_3 : decode cL_cell 3 = .ok (.if_icmp .ge 9, 3) := by decide +kernel
theorem dL_cell_6 : decode cL_cell 6 = .ok (.aload_n 0, 1) := by decide +kernel
theorem dL_cell_7 : decode cL_cell 7 = .ok (.iload_n 1, 1) := by decide +kernel
theorem dL_cell_8 : decode cL_cell 8 = .ok (.iaload, 1) := by decide +kernel
theorem dL_cell_9 : decode cL_cell 9 = .ok (.goto 11, 3) := by decide +kernel
theorem dL_cell_12 : decode cL_cell 12 = .ok (.ldc 7, 2) := by decide +kernel
theorem dL_cell_14 : decode cL_cell 14 = .ok (.iload_n 1, 1) := by decide +kernel
theorem dL_cell_15 : decode cL_cell 15 = .ok (.sipush 1283, 3) := by decide +kernel
theorem dL_cell_18 : decode cL_cell 18 = .ok (.iadd, 1) := by decide +kernel
theorem dL_cell_19 : decode cL_cell 19 = .ok (.imul, 1) := by decide +kernel
theorem dL_cell_20 : decode cL_cell 20 = .ok (.ireturn, 1) := by decide +kernel
theorem dL_up_0 : decode cL_up 0 = .ok (.iload_n 0, 1) := by decide +kernel
theorem dL_up_1 : decode cL_up 1 = .ok (.ldc 8, 2) := by decide +kernel
theorem dL_up_3 : decode cL_up 3 = .ok (.iand, 1) := by decide +kernel
theorem dL_up_4 : decode cL_up 4 = .ok (.iload_n 1, 1) := by decide +kernel
theorem dL_up_5 : decode cL_up 5 = .ok (.irem, 1) := by decide +kernel
theorem dL_up_6 : decode cL_up 6 = .ok (.ireturn, 1) := by decide +kernel
theorem dL_there_0 : decode cL_there 0 = .ok (.iload_n 0, 1) := by decide +kernel
theorem dL_there_1 : decode cL_there 1 = .ok (.ifCond .ge 7, 3) := by decide +kernel
theorem dL_there_4 : decode cL_there 4 = .ok (.iload_n 0, 1) := by decide +kernel
theorem dL_there_5 : decode cL_there 5 = .ok (.goto 8, 3) := by decide +kernel
theorem dL_there_8 : decode cL_there 8 = .ok (.iload_n 0, 1) := by decide +kernel
theorem dL_there_9 : decode cL_there 9 = .ok (.iconst 1, 1) := by decide +kernel
theorem dL_there_10 : decode cL_there 10 = .ok (.iadd, 1) := by decide +kernel
theorem dL_there_11 : decode cL_there 11 = .ok (.iconst 4, 1) := by decide +kernel
theorem dL_there_12 : decode cL_there 12 = .ok (.irem, 1) := by decide +kernel
theorem dL_there_13 : decode cL_there 13 = .ok (.ireturn, 1) := by decide +kernel
set_option maxRecDepth 20000 in
theorem ggL_number_X3_type : GoodIn wsL_number wsX3_type := goodIn_r _ [5, 6, 7, 8, 9, 10, 11, 12, 13, 14, 15, 16, 17, 18, 19, 20, 21, 22, 23, 24, 25, 26, 27, 28, 29, 30] (by decide +kernel) (by decide +kernel)
set_option maxRecDepth 20000 in
theorem gL_number_X3_type : GoodIn wsL_number (wsV RL 9 RX3 yX3_type wsX3_type) := goodIn_app (goodIn_of _ (by decide +kernel)) ggL_number_X3_type
theorem dL_number_0 : decode cL_number 0 = .ok (.aload_n 0, 1) := by decide +kernel
theorem dL_number_1 : decode cL_number 1 = .ok (.bipush 32, 2) := by decide +kernel
theorem dL_number_3 : decode cL_number 3 = .ok (.invokevirtual 9, 3) := by decide +kernel
theorem dL_number_6 : decode cL_number 6 = .ok (.ifCond .le 20, 3) := by decide +kernel
theorem dL_number_9 : decode cL_number 9 = .ok (.iload_n 1, 1) := by decide +kernel
theorem dL_number_10 : decode cL_number 10 = .ok (.ifCond .ge 12, 3) := by decide +kernel
theorem dL_number_13 : decode cL_number 13 = .ok (.aload_n 0, 1) := by decide +kernel
theorem dL_number_14 : decode cL_number 14 = .ok (.bipush 45, 2) := by decide +kernel
theorem dL_number_16 : decode cL_number 16 = .ok (.invokevirtual 9, 3) := by decide +kernel
theorem dL_number_19 : decode cL_number 19 = .ok (.ifCond .le 7, 3) := by decide +kernel
theorem dL_number_22 : decode cL_number 22 = .ok (.iconst 1, 1) := by decide +kernel
theorem dL_number_23 : decode cL_number 23 = .ok (.goto 4, 3) := by decide +kernel
theorem dL_number_26 : decode cL_number 26 = .ok (.iconst 0, 1) := by decide +kernel
theorem dL_number_27 : decode cL_number 27 = .ok (.istore_n 2, 1) := by decide +kernel
theorem dL_number_28 : decode cL_number 28 = .ok (.iload_n 1, 1) := by decide +kernel
theorem dL_number_29 : decode cL_number 29 = .ok (.ifCond .ge 8, 3) := by decide +kernel
theorem dL_number_32 : decode cL_number 32 = .ok (.iload_n 1, 1) := by decide +kernel
theorem dL_number_33 : decode cL_number 33 = .ok (.ineg, 1) := by decide +kernel
theorem dL_number_34 : decode cL_number 34 = .ok (.goto 4, 3) := by decide +kernel
theorem dL_number_37 : decode cL_number 37 = .ok (.iload_n 1, 1) := by decide +kernel
theorem dL_number_38 : decode cL_number 38 = .ok (.istore_n 3, 1) := by decide +kernel
theorem dL_number_39 : decode cL_number 39 = .ok (.iload_n 2, 1) := by decide +kernel
theorem dL_number_40 : decode cL_number 40 = .ok (.ifCond .eq 67, 3) := by decide +kernel
theorem dL_number_43 : decode cL_number 43 = .ok (.iload_n 3, 1) := by decide +kernel
theorem dL_number_44 : decode cL_number 44 = .ok (.bipush 100, 2) := by decide +kernel
theorem dL_number_46 : decode cL_number 46 = .ok (.if_icmp .lt 18, 3) := by decide +kernel
theorem dL_number_49 : decode cL_number 49 = .ok (.aload_n 0, 1) := by decide +kernel
theorem dL_number_50 : decode cL_number 50 = .ok (.bipush 48, 2) := by decide +kernel
theorem dL_number_52 : decode cL_number 52 = .ok (.iload_n 3, 1) := by decide +kernel
theorem dL_number_53 : decode cL_number 53 = .ok (.bipush 100, 2) := by decide +kernel
theorem dL_number_55 : decode cL_number 55 = .ok (.idiv, 1) := by decide +kernel
theorem dL_number_56 : decode cL_number 56 = .ok (.iadd, 1) := by decide +kernel
theorem dL_number_57 : decode cL_number 57 = .ok (.i2c, 1) := by decide +kernel
theorem dL_number_58 : decode cL_number 58 = .ok (.invokevirtual 9, 3) := by decide +kernel
theorem dL_number_61 : decode cL_number 61 = .ok (.ifCond .le 46, 3) := by decide +kernel
theorem dL_number_64 : decode cL_number 64 = .ok (.iload_n 3, 1) := by decide +kernel
theorem dL_number_65 : decode cL_number 65 = .ok (.bipush 10, 2) := by decide +kernel
theorem dL_number_67 : decode cL_number 67 = .ok (.if_icmp .lt 21, 3) := by decide +kernel
theorem dL_number_70 : decode cL_number 70 = .ok (.aload_n 0, 1) := by decide +kernel
theorem dL_number_71 : decode cL_number 71 = .ok (.bipush 48, 2) := by decide +kernel
theorem dL_number_73 : decode cL_number 73 = .ok (.iload_n 3, 1) := by decide +kernel
theorem dL_number_74 : decode cL_number 74 = .ok (.bipush 10, 2) := by decide +kernel
theorem dL_number_76 : decode cL_number 76 = .ok (.idiv, 1) := by decide +kernel
theorem dL_number_77 : decode cL_number 77 = .ok (.bipush 10, 2) := by decide +kernel
theorem dL_number_79 : decode cL_number 79 = .ok (.irem, 1) := by decide +kernel
theorem dL_number_80 : decode cL_number 80 = .ok (.iadd, 1) := by decide +kernel
theorem dL_number_81 : decode cL_number 81 = .ok (.i2c, 1) := by decide +kernel
theorem dL_number_82 : decode cL_number 82 = .ok (.invokevirtual 9, 3) := by decide +kernel
theorem dL_number_85 : decode cL_number 85 = .ok (.ifCond .le 22, 3) := by decide +kernel
theorem dL_number_88 : decode cL_number 88 = .ok (.aload_n 0, 1) := by decide +kernel
theorem dL_number_89 : decode cL_number 89 = .ok (.bipush 48, 2) := by decide +kernel
theorem dL_number_91 : decode cL_number 91 = .ok (.iload_n 3, 1) := by decide +kernel
theorem dL_number_92 : decode cL_number 92 = .ok (.bipush 10, 2) := by decide +kernel
theorem dL_number_94 : decode cL_number 94 = .ok (.irem, 1) := by decide +kernel
theorem dL_number_95 : decode cL_number 95 = .ok (.iadd, 1) := by decide +kernel
theorem dL_number_96 : decode cL_number 96 = .ok (.i2c, 1) := by decide +kernel
theorem dL_number_97 : decode cL_number 97 = .ok (.invokevirtual 9, 3) := by decide +kernel
theorem dL_number_100 : decode cL_number 100 = .ok (.ifCond .le 7, 3) := by decide +kernel
theorem dL_number_103 : decode cL_number 103 = .ok (.iconst 1, 1) := by decide +kernel
theorem dL_number_104 : decode cL_number 104 = .ok (.goto 4, 3) := by decide +kernel
theorem dL_number_107 : decode cL_number 107 = .ok (.iconst 0, 1) := by decide +kernel
theorem dL_number_108 : decode cL_number 108 = .ok (.ireturn, 1) := by decide +kernel
set_option maxRecDepth 20000 in
theorem ggL_types_X3_clearText : GoodIn wsL_types wsX3_clearText := goodIn_r _ [6, 7, 8, 9, 10, 11, 12, 21, 22, 23, 24, 25, 26, 27, 28, 29, 30, 31, 32, 33, 34, 35, 36, 37, 38] (by decide +kernel) (by decide +kernel)
set_option maxRecDepth 20000 in
theorem gL_types_X3_clearText : GoodIn wsL_types (wsV RL 15 RX3 yX3_clearText wsX3_clearText) := goodIn_app (goodIn_of _ (by decide +kernel)) ggL_types_X3_clearText
set_option maxRecDepth 20000 in
theorem ggL_types_X3_type : GoodIn wsL_types wsX3_type := goodIn_r _ [16, 7, 17, 9, 18, 19, 12, 20, 21, 22, 23, 24, 25, 26, 27, 28, 29, 30, 31, 32, 33, 34, 35, 36, 37, 38] (by decide +kernel) (by decide +kernel)
set_option maxRecDepth 20000 in
theorem gL_types_X3_type : GoodIn wsL_types (wsV RL 9 RX3 yX3_type wsX3_type) := goodIn_app (goodIn_of _ (by decide +kernel)) ggL_types_X3_type
theorem dL_types_0 : decode cL_types 0 = .ok (.aload_n 0, 1) := by decide +kernel
theorem dL_types_1 : decode cL_types 1 = .ok (.invokevirtual 15, 3) := by decide +kernel
theorem dL_types_4 : decode cL_types 4 = .ok (.ifCond .lt 7, 3) := by decide +kernel
theorem dL_types_7 : decode cL_types 7 = .ok (.iconst 1, 1) := by decide +kernel
theorem dL_types_8 : decode cL_types 8 = .ok (.goto 4, 3) := by decide +kernel
theorem dL_types_11 : decode cL_types 11 = .ok (.iconst 0, 1) := by decide +kernel
theorem dL_types_12 : decode cL_types 12 = .ok (.istore_n 3, 1) := by decide +kernel
theorem dL_types_13 : decode cL_types 13 = .ok (.bipush 56, 2) := by decide +kernel
theorem dL_types_15 : decode cL_types 15 = .ok (.istore 4, 2) := by decide +kernel
theorem dL_types_17 : decode cL_types 17 = .ok (.iload 4, 2) := by decide +kernel
theorem dL_types_19 : decode cL_types 19 = .ok (.ifCond .lt 45, 3) := by decide +kernel
theorem dL_types_22 : decode cL_types 22 = .ok (.lload_n 1, 1) := by decide +kernel
theorem dL_types_23 : decode cL_types 23 = .ok (.iload 4, 2) := by decide +kernel
theorem dL_types_25 : decode cL_types 25 = .ok (.lshr, 1) := by decide +kernel
theorem dL_types_26 : decode cL_types 26 = .ok (.ldc2_w 19, 3) := by decide +kernel
theorem dL_types_29 : decode cL_types 29 = .ok (.land, 1) := by decide +kernel
theorem dL_types_30 : decode cL_types 30 = .ok (.l2i, 1) := by decide +kernel
theorem dL_types_31 : decode cL_types 31 = .ok (.istore 5, 2) := by decide +kernel
theorem dL_types_33 : decode cL_types 33 = .ok (.iload_n 3, 1) := by decide +kernel
theorem dL_types_34 : decode cL_types 34 = .ok (.ifCond .eq 22, 3) := by decide +kernel
theorem dL_types_37 : decode cL_types 37 = .ok (.iload 5, 2) := by decide +kernel
theorem dL_types_39 : decode cL_types 39 = .ok (.ifCond .eq 13, 3) := by decide +kernel
theorem dL_types_42 : decode cL_types 42 = .ok (.aload_n 0, 1) := by decide +kernel
theorem dL_types_43 : decode cL_types 43 = .ok (.iload 5, 2) := by decide +kernel
theorem dL_types_45 : decode cL_types 45 = .ok (.i2c, 1) := by decide +kernel
theorem dL_types_46 : decode cL_types 46 = .ok (.invokevirtual 9, 3) := by decide +kernel
theorem dL_types_49 : decode cL_types 49 = .ok (.ifCond .le 7, 3) := by decide +kernel
theorem dL_types_52 : decode cL_types 52 = .ok (.iconst 1, 1) := by decide +kernel
theorem dL_types_53 : decode cL_types 53 = .ok (.goto 4, 3) := by decide +kernel
theorem dL_types_56 : decode cL_types 56 = .ok (.iconst 0, 1) := by decide +kernel
theorem dL_types_57 : decode cL_types 57 = .ok (.istore_n 3, 1) := by decide +kernel
theorem dL_types_58 : decode cL_types 58 = .ok (.iinc 4 (-8), 3) := by decide +kernel
theorem dL_types_61 : decode cL_types 61 = .ok (.goto (-44), 3) := by decide +kernel
theorem dL_types_64 : decode cL_types 64 = .ok (.iload_n 3, 1) := by decide +kernel
theorem dL_types_65 : decode cL_types 65 = .ok (.ireturn, 1) := by decide +kernel
set_option maxRecDepth 20000 in
theorem ggL_isStep_L_up : GoodIn wsL_isStep wsL_up := goodIn_r _ [9, 10] (by decide +kernel) (by decide +kernel)
set_option maxRecDepth 20000 in
theorem gL_isStep_L_up : GoodIn wsL_isStep (va_wsS RL 21 yL_up wsL_up) := goodIn_app (goodIn_of _ (by decide +kernel)) ggL_isStep_L_up
set_option maxRecDepth 20000 in
theorem ggL_isStep_X3_kite : GoodIn wsL_isStep wsX3_kite := goodIn_r _ [15, 16, 17, 18, 19, 20, 21, 22, 23, 24, 25, 26, 27, 28, 29, 30, 31, 32, 33, 34, 35, 36, 37, 38, 39, 40, 41, 42, 43, 393, 394, 395, 396, 397, 398, 399, 400, 401, 402, 403, 404, 405, 406, 407, 408, 409, 410, 411, 412, 413] (by decide +kernel) (by decide +kernel)
set_option maxRecDepth 20000 in
theorem gL_isStep_X3_kite : GoodIn wsL_isStep (wsV RL 27 RX3 yX3_kite wsX3_kite) := goodIn_app (goodIn_of _ (by decide +kernel)) ggL_isStep_X3_kite
set_option maxRecDepth 20000 in
theorem ggL_isStep_X3_count : GoodIn wsL_isStep wsX3_count := goodIn_r _ [47, 48, 49, 16, 50, 18, 51, 52, 53, 54, 55, 56, 57, 58, 59, 60, 22, 61, 62, 63, 64, 65, 66, 67, 68, 69, 70, 71, 72, 73, 74, 75, 76, 77, 78, 14, 79, 80, 81, 82, 83, 84, 85, 86, 87, 88, 24, 89, 90, 91, 92, 23, 93, 94, 95, 96, 97, 98, 99, 100, 101, 102, 103, 104, 393, 394, 395, 396, 397, 398, 399, 400, 401, 414, 415, 416, 417, 418, 419, 420, 421, 422, 423, 424, 425, 402, 403, 404, 405, 406, 407, 408, 409, 410, 411, 412, 413] (by decide +kernel) (by decide +kernel)
set_option maxRecDepth 20000 in
theorem gL_isStep_X3_count : GoodIn wsL_isStep (wsV RL 30 RX3 yX3_count wsX3_count) := goodIn_app (goodIn_of _ (by decide +kernel)) ggL_isStep_X3_count
set_option maxRecDepth 20000 in
theorem ggL_isStep_X3_fly : GoodIn wsL_isStep wsX3_fly := goodIn_r _ [108, 109, 16, 110, 18, 111, 112, 21, 22, 23, 24, 25, 26, 77, 84, 56, 53, 54, 55, 113, 114, 115, 116, 14, 117, 118, 119, 120, 121, 122, 123, 124, 125, 126, 127, 128, 129, 130, 131, 48, 132, 133, 134, 135, 136, 137, 138, 139, 140, 141, 142, 95, 143, 144, 145, 146, 147, 148, 393, 394, 395, 396, 397, 398, 399, 400, 401, 402, 403, 404, 405, 406, 407, 408, 409, 410, 411, 412, 413, 414, 415, 416] (by decide +kernel) (by decide +kernel)
set_option maxRecDepth 20000 in
theorem gL_isStep_X3_fly : GoodIn wsL_isStep (wsV RL 34 RX3 yX3_fly wsX3_fly) := goodIn_app (goodIn_of _ (by decide +kernel)) ggL_isStep_X3_fly
set_option maxRecDepth 20000 in
theorem ggL_isStep_L_types : GoodIn wsL_isStep wsL_types := goodIn_r _ [151, 152, 153, 154, 155, 14, 156, 49, 157, 158, 159, 160, 161, 162, 163, 164, 165, 166, 167, 168, 169, 393, 394, 395, 396, 397, 398, 399, 400, 401, 417, 418, 419, 420, 421, 422, 423, 424, 425] (by decide +kernel) (by decide +kernel)
set_option maxRecDepth 20000 in
theorem gL_isStep_L_types : GoodIn wsL_isStep (va_wsS RL 39 yL_types wsL_types) := goodIn_app (goodIn_of _ (by decide +kernel)) ggL_isStep_L_types
set_option maxRecDepth 20000 in
theorem ggL_isStep_L_there : GoodIn wsL_isStep wsL_there := goodIn_r _ [172] (by decide +kernel) (by decide +kernel)
set_option maxRecDepth 20000 in
theorem gL_isStep_L_there : GoodIn wsL_isStep (va_wsS RL 43 yL_there wsL_there) := goodIn_app (goodIn_of _ (by decide +kernel)) ggL_isStep_L_there
set_option maxRecDepth 20000 in
theorem ggL_isStep_L_number : GoodIn wsL_isStep wsL_number := goodIn_r _ [175, 162, 163, 164, 14, 165, 49, 166, 158, 167, 168, 161, 169, 393, 394, 395, 396, 397, 398, 399, 400, 401, 417, 418, 419, 420, 421, 422, 423, 424, 425] (by decide +kernel) (by decide +kernel)
set_option maxRecDepth 20000 in
theorem gL_isStep_L_number : GoodIn wsL_isStep (va_wsS RL 46 yL_number wsL_number) := goodIn_app (goodIn_of _ (by decide +kernel)) ggL_isStep_L_number
set_option maxRecDepth 20000 in
theorem ggL_isStep_X3_perform : GoodIn wsL_isStep wsX3_perform := goodIn_r _ [179, 49, 109, 16, 180, 181, 182, 158, 183, 184, 185, 186, 187, 188, 189, 190, 191, 192, 193, 194, 195, 196, 197, 198, 199, 200, 94, 95, 96, 201, 202, 203, 204, 205, 206, 207, 208, 209, 210, 211, 212, 213, 214, 215, 216, 217, 218, 219, 220, 221, 222, 223, 161, 169, 224, 225, 226, 227, 228, 229, 230, 231, 232, 233, 234, 235, 236, 237, 238, 239, 240, 241, 242, 243, 244, 245, 246, 247, 248, 249, 250, 251, 252, 253, 254, 255, 256, 257, 258, 259, 260, 261, 262, 263, 264, 265, 266, 267, 268, 269, 270, 271, 272, 273, 274, 275, 276, 277, 278, 279, 280, 110, 18, 111, 112, 21, 22, 23, 24, 25, 26, 77, 84, 56, 53, 54, 55, 281, 282, 283, 284, 285, 286, 287, 288, 289, 290, 291, 292, 293, 294, 295, 296, 297, 113, 114, 115, 116, 14, 117, 118, 119, 120, 121, 122, 123, 124, 125, 126, 127, 298, 299, 300, 301, 28, 29, 30, 31, 69, 70, 71, 72, 61, 62, 63, 64, 65, 66, 67, 68, 73, 74, 75, 76, 78, 79, 302, 303, 304, 305, 306, 307, 308, 309, 310, 311, 312, 313, 314, 315, 316, 317, 318, 319, 320, 321, 322, 323, 324, 93, 36, 37, 38, 39, 27, 325, 326, 327, 328, 329, 330, 331, 332, 132, 133, 134, 128, 129, 130, 131, 48, 135, 136, 137, 138, 139, 140, 141, 142, 143, 144, 145, 146, 147, 148, 393, 394, 395, 396, 397, 398, 399, 400, 401, 417, 418, 419, 420, 421, 422, 423, 424, 425, 402, 403, 404, 405, 406, 407, 408, 409, 410, 411, 412, 413, 414, 415, 416] (by decide +kernel) (by decide +kernel)
set_option maxRecDepth 20000 in
theorem gL_isStep_X3_perform : GoodIn wsL_isStep (wsV RL 50 RX3 yX3_perform wsX3_perform) := goodIn_app (goodIn_of _ (by decide +kernel)) ggL_isStep_X3_perform
set_option maxRecDepth 20000 in
theorem ggL_isStep_X3_stopped : GoodIn wsL_isStep wsX3_stopped := goodIn_r _ [336, 180, 181, 393, 394, 395, 396, 397, 398, 399, 400, 401] (by decide +kernel) (by decide +kernel)
set_option maxRecDepth 20000 in
theorem gL_isStep_X3_stopped : GoodIn wsL_isStep (wsV RL 53 RX3 yX3_stopped wsX3_stopped) := goodIn_app (goodIn_of _ (by decide +kernel)) ggL_isStep_X3_stopped
set_option maxRecDepth 20000 in
theorem ggL_isStep_X3_takeDown : GoodIn wsL_isStep wsX3_takeDown := goodIn_r _ [340, 109, 16, 110, 18, 111, 112, 21, 22, 23, 24, 25, 26, 77, 84, 56, 53, 54, 55, 341, 342, 343, 28, 29, 30, 31, 128, 129, 130, 14, 131, 48, 132, 133, 134, 135, 136, 137, 138, 139, 140, 141, 142, 95, 143, 144, 145, 146, 147, 148, 393, 394, 395, 396, 397, 398, 399, 400, 401, 402, 403, 404, 405, 406, 407, 408, 409, 410, 411, 412, 413, 414, 415, 416] (by decide +kernel) (by decide +kernel)
set_option maxRecDepth 20000 in
theorem gL_isStep_X3_takeDown : GoodIn wsL_isStep (wsV RL 56 RX3 yX3_takeDown wsX3_takeDown) := goodIn_app (goodIn_of _ (by decide +kernel)) ggL_isStep_X3_takeDown
set_option maxRecDepth 20000 in
theorem ggL_isStep_X3_ifRead : GoodIn wsL_isStep wsX3_ifRead := goodIn_r _ [347, 16, 348, 18, 349, 350, 22, 23, 54, 28, 29, 30, 31, 69, 70, 71, 72, 61, 62, 63, 64, 56, 65, 66, 67, 68, 73, 74, 75, 76, 77, 78, 14, 79, 302, 303, 304, 305, 120, 121, 122, 123, 124, 125, 126, 127, 310, 311, 312, 32, 33, 34, 35, 393, 394, 395, 396, 397, 398, 399, 400, 401, 402, 403, 404, 405, 406, 407, 408, 409, 410, 411, 412, 413] (by decide +kernel) (by decide +kernel)
set_option maxRecDepth 20000 in
theorem gL_isStep_X3_ifRead : GoodIn wsL_isStep (wsV RL 59 RX3 yX3_ifRead wsX3_ifRead) := goodIn_app (goodIn_of _ (by decide +kernel)) ggL_isStep_X3_ifRead
set_option maxRecDepth 20000 in
theorem ggL_isStep_X3_read : GoodIn wsL_isStep wsX3_read := goodIn_r _ [354, 109, 16, 110, 18, 111, 112, 21, 22, 23, 24, 25, 26, 77, 84, 56, 53, 54, 55, 299, 300, 301, 28, 29, 30, 31, 69, 70, 71, 72, 61, 62, 63, 64, 65, 66, 67, 68, 73, 74, 75, 76, 78, 14, 79, 302, 303, 304, 305, 120, 121, 122, 123, 124, 125, 126, 127, 306, 307, 308, 309, 116, 117, 310, 311, 312, 128, 129, 130, 131, 48, 132, 133, 134, 135, 136, 137, 138, 139, 140, 141, 142, 95, 143, 144, 145, 146, 147, 148, 393, 394, 395, 396, 397, 398, 399, 400, 401, 402, 403, 404, 405, 406, 407, 408, 409, 410, 411, 412, 413, 414, 415, 416] (by decide +kernel) (by decide +kernel)
set_option maxRecDepth 20000 in
theorem gL_isStep_X3_read : GoodIn wsL_isStep (wsV RL 62 RX3 yX3_read wsX3_read) := goodIn_app (goodIn_of _ (by decide +kernel)) ggL_isStep_X3_read
set_option maxRecDepth 20000 in
theorem ggL_isStep_X3_write : GoodIn wsL_isStep wsX3_write := goodIn_r _ [358, 109, 16, 110, 18, 111, 112, 21, 22, 23, 24, 25, 26, 77, 84, 56, 53, 54, 55, 314, 315, 316, 28, 29, 30, 31, 118, 14, 119, 128, 129, 130, 131, 48, 132, 133, 134, 135, 136, 137, 138, 139, 140, 141, 142, 95, 143, 144, 145, 146, 147, 148, 393, 394, 395, 396, 397, 398, 399, 400, 401, 402, 403, 404, 405, 406, 407, 408, 409, 410, 411, 412, 413, 414, 415, 416] (by decide +kernel) (by decide +kernel)
set_option maxRecDepth 20000 in
theorem gL_isStep_X3_write : GoodIn wsL_isStep (wsV RL 67 RX3 yX3_write wsX3_write) := goodIn_app (goodIn_of _ (by decide +kernel)) ggL_isStep_X3_write
set_option maxRecDepth 20000 in
theorem ggL_isStep_X3_move : GoodIn wsL_isStep wsX3_move := goodIn_r _ [362, 109, 16, 110, 18, 111, 112, 21, 22, 23, 24, 25, 26, 77, 84, 56, 53, 54, 55, 363, 364, 365, 28, 29, 30, 31, 116, 14, 117, 120, 121, 122, 123, 124, 125, 126, 127, 128, 129, 130, 131, 48, 132, 133, 134, 135, 136, 137, 138, 139, 140, 141, 142, 95, 143, 144, 145, 146, 147, 148, 393, 394, 395, 396, 397, 398, 399, 400, 401, 402, 403, 404, 405, 406, 407, 408, 409, 410, 411, 412, 413, 414, 415, 416] (by decide +kernel) (by decide +kernel)
set_option maxRecDepth 20000 in
theorem gL_isStep_X3_move : GoodIn wsL_isStep (wsV RL 72 RX3 yX3_move wsX3_move) := goodIn_app (goodIn_of _ (by decide +kernel)) ggL_isStep_X3_move
set_option maxRecDepth 20000 in
theorem ggL_isStep_X3_beat : GoodIn wsL_isStep wsX3_beat := goodIn_r _ [369, 109, 16, 110, 18, 111, 112, 21, 22, 23, 24, 25, 26, 77, 84, 56, 53, 54, 55, 318, 319, 320, 321, 322, 323, 324, 93, 94, 95, 96, 36, 37, 38, 39, 27, 28, 29, 30, 31, 325, 326, 327, 328, 61, 62, 63, 64, 65, 66, 67, 68, 128, 129, 130, 14, 131, 48, 132, 133, 134, 135, 136, 137, 138, 139, 140, 141, 142, 143, 144, 145, 146, 147, 148, 393, 394, 395, 396, 397, 398, 399, 400, 401, 402, 403, 404, 405, 406, 407, 408, 409, 410, 411, 412, 413, 414, 415, 416] (by decide +kernel) (by decide +kernel)
set_option maxRecDepth 20000 in
theorem gL_isStep_X3_beat : GoodIn wsL_isStep (wsV RL 75 RX3 yX3_beat wsX3_beat) := goodIn_app (goodIn_of _ (by decide +kernel)) ggL_isStep_X3_beat
set_option maxRecDepth 20000 in
theorem ggL_isStep_X3_wind : GoodIn wsL_isStep wsX3_wind := goodIn_r _ [373, 109, 16, 110, 18, 111, 112, 21, 22, 23, 24, 25, 26, 77, 84, 56, 53, 54, 55, 330, 331, 332, 78, 14, 79, 128, 129, 130, 131, 48, 132, 133, 134, 135, 136, 137, 138, 139, 140, 141, 142, 95, 143, 144, 145, 146, 147, 148, 393, 394, 395, 396, 397, 398, 399, 400, 401, 402, 403, 404, 405, 406, 407, 408, 409, 410, 411, 412, 413, 414, 415, 416] (by decide +kernel) (by decide +kernel)
set_option maxRecDepth 20000 in
theorem gL_isStep_X3_wind : GoodIn wsL_isStep (wsV RL 80 RX3 yX3_wind wsX3_wind) := goodIn_app (goodIn_of _ (by decide +kernel)) ggL_isStep_X3_wind
set_option maxRecDepth 20000 in
theorem ggL_isStep_X3_windOf : GoodIn wsL_isStep wsX3_windOf := goodIn_r _ [377, 16, 74, 18, 75, 76, 77, 78, 14, 79, 393, 394, 395, 396, 397, 398, 399, 400, 401, 402, 403, 404, 405, 406, 407, 408, 409, 410, 411, 412, 413] (by decide +kernel) (by decide +kernel)
set_option maxRecDepth 20000 in
theorem gL_isStep_X3_windOf : GoodIn wsL_isStep (wsV RL 85 RX3 yX3_windOf wsX3_windOf) := goodIn_app (goodIn_of _ (by decide +kernel)) ggL_isStep_X3_windOf
set_option maxRecDepth 20000 in
theorem ggL_isStep_X3_set : GoodIn wsL_isStep wsX3_set := goodIn_r _ [381, 109, 16, 110, 18, 111, 112, 21, 22, 23, 24, 25, 26, 77, 84, 56, 53, 54, 55, 382, 383, 384, 385, 386, 387, 388, 389, 390, 391, 392, 128, 129, 130, 14, 131, 48, 132, 133, 134, 135, 136, 137, 138, 139, 140, 141, 142, 95, 143, 144, 145, 146, 147, 148, 393, 394, 395, 396, 397, 398, 399, 400, 401, 402, 403, 404, 405, 406, 407, 408, 409, 410, 411, 412, 413, 414, 415, 416] (by decide +kernel) (by decide +kernel)
set_option maxRecDepth 20000 in
theorem gL_isStep_X3_set : GoodIn wsL_isStep (wsV RL 88 RX3 yX3_set wsX3_set) := goodIn_app (goodIn_of _ (by decide +kernel)) ggL_isStep_X3_set
