theorem dX4_init_0 : decode cX4_init 0 = .ok (.aload_n 0, 1) := by decide +kernel
theorem dX4_init_1 : decode cX4_init 1 = .ok (.invokespecial 1, 3) := by decide +kernel
theorem dX4_init_4 : decode cX4_init 4 = .ok (.aload_n 0, 1) := by decide +kernel
theorem dX4_init_5 : decode cX4_init 5 = .ok (.bipush 92, 2) := by decide +kernel
theorem dX4_init_7 : decode cX4_init 7 = .ok (.newarray .int, 2) := by decide +kernel
theorem dX4_init_9 : decode cX4_init 9 = .ok (.putfield 7, 3) := by decide +kernel
theorem dX4_init_12 : decode cX4_init 12 = .ok (.aload_n 0, 1) := by decide +kernel
theorem dX4_init_13 : decode cX4_init 13 = .ok (.bipush 92, 2) := by decide +kernel
theorem dX4_init_15 : decode cX4_init 15 = .ok (.newarray .int, 2) := by decide +kernel
theorem dX4_init_17 : decode cX4_init 17 = .ok (.putfield 13, 3) := by decide +kernel
theorem dX4_init_20 : decode cX4_init 20 = .ok (.aload_n 0, 1) := by decide +kernel
theorem dX4_init_21 : decode cX4_init 21 = .ok (.bipush 92, 2) := by decide +kernel
theorem dX4_init_23 : decode cX4_init 23 = .ok (.newarray .int, 2) := by decide +kernel
theorem dX4_init_25 : decode cX4_init 25 = .ok (.putfield 16, 3) := by decide +kernel
theorem dX4_init_28 : decode cX4_init 28 = .ok (.aload_n 0, 1) := by decide +kernel
theorem dX4_init_29 : decode cX4_init 29 = .ok (.sipush 368, 3) := by decide +kernel
theorem dX4_init_32 : decode cX4_init 32 = .ok (.newarray .int, 2) := by decide +kernel
theorem dX4_init_34 : decode cX4_init 34 = .ok (.putfield 19, 3) := by decide +kernel
theorem dX4_init_37 : decode cX4_init 37 = .ok (.aload_n 0, 1) := by decide +kernel
theorem dX4_init_38 : decode cX4_init 38 = .ok (.bipush 92, 2) := by decide +kernel
theorem dX4_init_40 : decode cX4_init 40 = .ok (.newarray .int, 2) := by decide +kernel
theorem dX4_init_42 : decode cX4_init 42 = .ok (.putfield 22, 3) := by decide +kernel
theorem dX4_init_45 : decode cX4_init 45 = .ok (.aload_n 0, 1) := by decide +kernel
theorem dX4_init_46 : decode cX4_init 46 = .ok (.sipush (-10005), 3) := by decide +kernel
theorem dX4_init_49 : decode cX4_init 49 = .ok (.putfield 25, 3) := by decide +kernel
theorem dX4_init_52 : decode cX4_init 52 = .ok (.aload_n 0, 1) := by decide +kernel
theorem dX4_init_53 : decode cX4_init 53 = .ok (.sipush (-10005), 3) := by decide +kernel
theorem dX4_init_56 : decode cX4_init 56 = .ok (.putfield 29, 3) := by decide +kernel
theorem dX4_init_59 : decode cX4_init 59 = .ok (.aload_n 0, 1) := by decide +kernel
theorem dX4_init_60 : decode cX4_init 60 = .ok (.bipush 80, 2) := by decide +kernel
theorem dX4_init_62 : decode cX4_init 62 = .ok (.newarray .int, 2) := by decide +kernel
theorem dX4_init_64 : decode cX4_init 64 = .ok (.putfield 32, 3) := by decide +kernel
theorem dX4_init_67 : decode cX4_init 67 = .ok (.aload_n 0, 1) := by decide +kernel
theorem dX4_init_68 : decode cX4_init 68 = .ok (.getfield 7, 3) := by decide +kernel
theorem dX4_init_71 : decode cX4_init 71 = .ok (.iconst 0, 1) := by decide +kernel
theorem dX4_init_72 : decode cX4_init 72 = .ok (.bipush 30, 2) := by decide +kernel
theorem dX4_init_74 : decode cX4_init 74 = .ok (.iastore, 1) := by decide +kernel
theorem dX4_init_75 : decode cX4_init 75 = .ok (.aload_n 0, 1) := by decide +kernel
theorem dX4_init_76 : decode cX4_init 76 = .ok (.getfield 7, 3) := by decide +kernel
theorem dX4_init_79 : decode cX4_init 79 = .ok (.iconst 1, 1) := by decide +kernel
theorem dX4_init_80 : decode cX4_init 80 = .ok (.iconst 1, 1) := by decide +kernel
theorem dX4_init_81 : decode cX4_init 81 = .ok (.iastore, 1) := by decide +kernel
theorem dX4_init_82 : decode cX4_init 82 = .ok (.iconst 0, 1) := by decide +kernel
theorem dX4_init_83 : decode cX4_init 83 = .ok (.istore_n 1, 1) := by decide +kernel
theorem dX4_init_84 : decode cX4_init 84 = .ok (.iload_n 1, 1) := by decide +kernel
theorem dX4_init_85 : decode cX4_init 85 = .ok (.bipush 8, 2) := by decide +kernel
theorem dX4_init_87 : decode cX4_init 87 = .ok (.if_icmp .ge 19, 3) := by decide +kernel
theorem dX4_init_90 : decode cX4_init 90 = .ok (.aload_n 0, 1) := by decide +kernel
theorem dX4_init_91 : decode cX4_init 91 = .ok (.getfield 7, 3) := by decide +kernel
theorem dX4_init_94 : decode cX4_init 94 = .ok (.bipush 6, 2) := by decide +kernel
theorem dX4_init_96 : decode cX4_init 96 = .ok (.iload_n 1, 1) := by decide +kernel
theorem dX4_init_97 : decode cX4_init 97 = .ok (.iadd, 1) := by decide +kernel
theorem dX4_init_98 : decode cX4_init 98 = .ok (.iconst 2, 1) := by decide +kernel
theorem dX4_init_99 : decode cX4_init 99 = .ok (.iastore, 1) := by decide +kernel
theorem dX4_init_100 : decode cX4_init 100 = .ok (.iinc 1 1, 3) := by decide +kernel
theorem dX4_init_103 : decode cX4_init 103 = .ok (.goto (-19), 3) := by decide +kernel
theorem dX4_init_106 : decode cX4_init 106 = .ok (.iconst 0, 1) := by decide +kernel
theorem dX4_init_107 : decode cX4_init 107 = .ok (.istore_n 1, 1) := by decide +kernel
theorem dX4_init_108 : decode cX4_init 108 = .ok (.iload_n 1, 1) := by decide +kernel
theorem dX4_init_109 : decode cX4_init 109 = .ok (.bipush 12, 2) := by decide +kernel
theorem dX4_init_111 : decode cX4_init 111 = .ok (.if_icmp .ge 21, 3) := by decide +kernel
theorem dX4_init_114 : decode cX4_init 114 = .ok (.aload_n 0, 1) := by decide +kernel
theorem dX4_init_115 : decode cX4_init 115 = .ok (.getfield 7, 3) := by decide +kernel
theorem dX4_init_118 : decode cX4_init 118 = .ok (.bipush 18, 2) := by decide +kernel
theorem dX4_init_120 : decode cX4_init 120 = .ok (.iload_n 1, 1) := by decide +kernel
theorem dX4_init_121 : decode cX4_init 121 = .ok (.iadd, 1) := by decide +kernel
theorem dX4_init_122 : decode cX4_init 122 = .ok (.sipush (-10005), 3) := by decide +kernel
theorem dX4_init_125 : decode cX4_init 125 = .ok (.iastore, 1) := by decide +kernel
theorem dX4_init_126 : decode cX4_init 126 = .ok (.iinc 1 1, 3) := by decide +kernel
theorem dX4_init_129 : decode cX4_init 129 = .ok (.goto (-21), 3) := by decide +kernel
theorem dX4_init_132 : decode cX4_init 132 = .ok (.return_, 1) := by decide +kernel
theorem dX4_in_0 : decode cX4_in 0 = .ok (.lload_n 0, 1) := by decide +kernel
theorem dX4_in_1 : decode cX4_in 1 = .ok (.lload_n 2, 1) := by decide +kernel
theorem dX4_in_2 : decode cX4_in 2 = .ok (.lcmp, 1) := by decide +kernel
theorem dX4_in_3 : decode cX4_in 3 = .ok (.ifCond .lt 14, 3) := by decide +kernel
theorem dX4_in_6 : decode cX4_in 6 = .ok (.lload_n 0, 1) := by decide +kernel
theorem dX4_in_7 : decode cX4_in 7 = .ok (.lload 4, 2) := by decide +kernel
theorem dX4_in_9 : decode cX4_in 9 = .ok (.lcmp, 1) := by decide +kernel
theorem dX4_in_10 : decode cX4_in 10 = .ok (.ifCond .gt 7, 3) := by decide +kernel
theorem dX4_in_13 : decode cX4_in 13 = .ok (.iconst 1, 1) := by decide +kernel
theorem dX4_in_14 : decode cX4_in 14 = .ok (.goto 4, 3) := by decide +kernel
theorem dX4_in_17 : decode cX4_in 17 = .ok (.iconst 0, 1) := by decide +kernel
theorem dX4_in_18 : decode cX4_in 18 = .ok (.ireturn, 1) := by decide +kernel
theorem dX4_copy_0 : decode cX4_copy 0 = .ok (.iconst 0, 1) := by decide +kernel
theorem dX4_copy_1 : decode cX4_copy 1 = .ok (.istore_n 2, 1) := by decide +kernel
theorem dX4_copy_2 : decode cX4_copy 2 = .ok (.iload_n 2, 1) := by decide +kernel
theorem dX4_copy_3 : decode cX4_copy 3 = .ok (.bipush 92, 2) := by decide +kernel
theorem dX4_copy_5 : decode cX4_copy 5 = .ok (.if_icmp .ge 15, 3) := by decide +kernel
theorem dX4_copy_8 : decode cX4_copy 8 = .ok (.aload_n 1, 1) := by decide +kernel
theorem dX4_copy_9 : decode cX4_copy 9 = .ok (.iload_n 2, 1) := by decide +kernel
theorem dX4_copy_10 : decode cX4_copy 10 = .ok (.aload_n 0, 1) := by decide +kernel
theorem dX4_copy_11 : decode cX4_copy 11 = .ok (.iload_n 2, 1) := by decide +kernel
theorem dX4_copy_12 : decode cX4_copy 12 = .ok (.iaload, 1) := by decide +kernel
theorem dX4_copy_13 : decode cX4_copy 13 = .ok (.iastore, 1) := by decide +kernel
theorem dX4_copy_14 : decode cX4_copy 14 = .ok (.iinc 2 1, 3) := by decide +kernel
theorem dX4_copy_17 : decode cX4_copy 17 = .ok (.goto (-15), 3) := by decide +kernel
theorem dX4_copy_20 : decode cX4_copy 20 = .ok (.return_, 1) := by decide +kernel
set_option maxRecDepth 20000 in
theorem ggX4_remember_X4_copy : GoodIn wsX4_remember wsX4_copy := goodIn_r _ [6] (by decide +kernel) (by decide +kernel)
set_option maxRecDepth 20000 in
theorem gX4_remember_X4_copy : GoodIn wsX4_remember (va_wsS RX4 35 yX4_copy wsX4_copy) := goodIn_app (goodIn_of _ (by decide +kernel)) ggX4_remember_X4_copy
theorem dX4_remember_0 : decode cX4_remember 0 = .ok (.aload_n 0, 1) := by decide +kernel
theorem dX4_remember_1 : decode cX4_remember 1 = .ok (.getfield 7, 3) := by decide +kernel
theorem dX4_remember_4 : decode cX4_remember 4 = .ok (.aload_n 0, 1) := by decide +kernel
theorem dX4_remember_5 : decode cX4_remember 5 = .ok (.getfield 13, 3) := by decide +kernel
theorem dX4_remember_8 : decode cX4_remember 8 = .ok (.invokestatic 35, 3) := by decide +kernel
theorem dX4_remember_11 : decode cX4_remember 11 = .ok (.return_, 1) := by decide +kernel
theorem dX4_acted_0 : decode cX4_acted 0 = .ok (.aload_n 0, 1) := by decide +kernel
theorem dX4_acted_1 : decode cX4_acted 1 = .ok (.getfield 39, 3) := by decide +kernel
theorem dX4_acted_4 : decode cX4_acted 4 = .ok (.iconst 4, 1) := by decide +kernel
theorem dX4_acted_5 : decode cX4_acted 5 = .ok (.if_icmp .ne 43, 3) := by decide +kernel
theorem dX4_acted_8 : decode cX4_acted 8 = .ok (.iconst 0, 1) := by decide +kernel
theorem dX4_acted_9 : decode cX4_acted 9 = .ok (.istore_n 2, 1) := by decide +kernel
theorem dX4_acted_10 : decode cX4_acted 10 = .ok (.iload_n 2, 1) := by decide +kernel
theorem dX4_acted_11 : decode cX4_acted 11 = .ok (.sipush 276, 3) := by decide +kernel
theorem dX4_acted_14 : decode cX4_acted 14 = .ok (.if_icmp .ge 24, 3) := by decide +kernel
theorem dX4_acted_17 : decode cX4_acted 17 = .ok (.aload_n 0, 1) := by decide +kernel
theorem dX4_acted_18 : decode cX4_acted 18 = .ok (.getfield 19, 3) := by decide +kernel
theorem dX4_acted_21 : decode cX4_acted 21 = .ok (.iload_n 2, 1) := by decide +kernel
theorem dX4_acted_22 : decode cX4_acted 22 = .ok (.aload_n 0, 1) := by decide +kernel
theorem dX4_acted_23 : decode cX4_acted 23 = .ok (.getfield 19, 3) := by decide +kernel
theorem dX4_acted_26 : decode cX4_acted 26 = .ok (.iload_n 2, 1) := by decide +kernel
theorem dX4_acted_27 : decode cX4_acted 27 = .ok (.bipush 92, 2) := by decide +kernel
theorem dX4_acted_29 : decode cX4_acted 29 = .ok (.iadd, 1) := by decide +kernel
theorem dX4_acted_30 : decode cX4_acted 30 = .ok (.iaload, 1) := by decide +kernel
theorem dX4_acted_31 : decode cX4_acted 31 = .ok (.iastore, 1) := by decide +kernel
theorem dX4_acted_32 : decode cX4_acted 32 = .ok (.iinc 2 1, 3) := by decide +kernel
theorem dX4_acted_35 : decode cX4_acted 35 = .ok (.goto (-25), 3) := by decide +kernel
theorem dX4_acted_38 : decode cX4_acted 38 = .ok (.aload_n 0, 1) := by decide +kernel
theorem dX4_acted_39 : decode cX4_acted 39 = .ok (.dup, 1) := by decide +kernel
theorem dX4_acted_40 : decode cX4_acted 40 = .ok (.getfield 39, 3) := by decide +kernel
theorem dX4_acted_43 : decode cX4_acted 43 = .ok (.iconst 1, 1) := by decide +kernel
theorem dX4_acted_44 : decode cX4_acted 44 = .ok (.isub, 1) := by decide +kernel
theorem dX4_acted_45 : decode cX4_acted 45 = .ok (.putfield 39, 3) := by decide +kernel
theorem dX4_acted_48 : decode cX4_acted 48 = .ok (.iconst 0, 1) := by decide +kernel
theorem dX4_acted_49 : decode cX4_acted 49 = .ok (.istore_n 2, 1) := by decide +kernel
theorem dX4_acted_50 : decode cX4_acted 50 = .ok (.iload_n 2, 1) := by decide +kernel
theorem dX4_acted_51 : decode cX4_acted 51 = .ok (.bipush 92, 2) := by decide +kernel
theorem dX4_acted_53 : decode cX4_acted 53 = .ok (.if_icmp .ge 29, 3) := by decide +kernel
theorem dX4_acted_56 : decode cX4_acted 56 = .ok (.aload_n 0, 1) := by decide +kernel
theorem dX4_acted_57 : decode cX4_acted 57 = .ok (.getfield 19, 3) := by decide +kernel
theorem dX4_acted_60 : decode cX4_acted 60 = .ok (.bipush 92, 2) := by decide +kernel
theorem dX4_acted_62 : decode cX4_acted 62 = .ok (.aload_n 0, 1) := by decide +kernel
theorem dX4_acted_63 : decode cX4_acted 63 = .ok (.getfield 39, 3) := by decide +kernel
theorem dX4_acted_66 : decode cX4_acted 66 = .ok (.imul, 1) := by decide +kernel
theorem dX4_acted_67 : decode cX4_acted 67 = .ok (.iload_n 2, 1) := by decide +kernel
theorem dX4_acted_68 : decode cX4_acted 68 = .ok (.iadd, 1) := by decide +kernel
theorem dX4_acted_69 : decode cX4_acted 69 = .ok (.aload_n 0, 1) := by decide +kernel
theorem dX4_acted_70 : decode cX4_acted 70 = .ok (.getfield 13, 3) := by decide +kernel
theorem dX4_acted_73 : decode cX4_acted 73 = .ok (.iload_n 2, 1) := by decide +kernel
theorem dX4_acted_74 : decode cX4_acted 74 = .ok (.iaload, 1) := by decide +kernel
theorem dX4_acted_75 : decode cX4_acted 75 = .ok (.iastore, 1) := by decide +kernel
theorem dX4_acted_76 : decode cX4_acted 76 = .ok (.iinc 2 1, 3) := by decide +kernel
theorem dX4_acted_79 : decode cX4_acted 79 = .ok (.goto (-29), 3) := by decide +kernel
theorem dX4_acted_82 : decode cX4_acted 82 = .ok (.aload_n 0, 1) := by decide +kernel
theorem dX4_acted_83 : decode cX4_acted 83 = .ok (.dup, 1) := by decide +kernel
theorem dX4_acted_84 : decode cX4_acted 84 = .ok (.getfield 39, 3) := by decide +kernel
theorem dX4_acted_87 : decode cX4_acted 87 = .ok (.iconst 1, 1) := by decide +kernel
theorem dX4_acted_88 : decode cX4_acted 88 = .ok (.iadd, 1) := by decide +kernel
theorem dX4_acted_89 : decode cX4_acted 89 = .ok (.putfield 39, 3) := by decide +kernel
theorem dX4_acted_92 : decode cX4_acted 92 = .ok (.iload_n 1, 1) := by decide +kernel
theorem dX4_acted_93 : decode cX4_acted 93 = .ok (.ireturn, 1) := by decide +kernel
set_option maxRecDepth 20000 in
theorem ggX4_isString_X4_in : GoodIn wsX4_isString wsX4_in := goodIn_r _ [5] (by decide +kernel) (by decide +kernel)
set_option maxRecDepth 20000 in
theorem gX4_isString_X4_in : GoodIn wsX4_isString (va_wsS RX4 44 yX4_in wsX4_in) := goodIn_app (goodIn_of _ (by decide +kernel)) ggX4_isString_X4_in
theorem dX4_isString_0 : decode cX4_isString 0 = .ok (.iload_n 0, 1) := by decide +kernel
theorem dX4_isString_1 : decode cX4_isString 1 = .ok (.i2l, 1) := by decide +kernel
theorem dX4_isString_2 : decode cX4_isString 2 = .ok (.lconst 0, 1) := by decide +kernel
theorem dX4_isString_3 : decode cX4_isString 3 = .ok (.ldc2_w 42, 3) := by decide +kernel
theorem dX4_isString_6 : decode cX4_isString 6 = .ok (.invokestatic 44, 3) := by decide +kernel
theorem dX4_isString_9 : decode cX4_isString 9 = .ok (.ireturn, 1) := by decide +kernel
set_option maxRecDepth 20000 in
theorem ggX4_isKite_X4_in : GoodIn wsX4_isKite wsX4_in := goodIn_r _ [6] (by decide +kernel) (by decide +kernel)
set_option maxRecDepth 20000 in
theorem gX4_isKite_X4_in : GoodIn wsX4_isKite (va_wsS RX4 44 yX4_in wsX4_in) := goodIn_app (goodIn_of _ (by decide +kernel)) ggX4_isKite_X4_in
theorem dX4_isKite_0 : decode cX4_isKite 0 = .ok (.iload_n 1, 1) := by decide +kernel
theorem dX4_isKite_1 : decode cX4_isKite 1 = .ok (.i2l, 1) := by decide +kernel
theorem dX4_isKite_2 : decode cX4_isKite 2 = .ok (.lconst 0, 1) := by decide +kernel
theorem dX4_isKite_3 : decode cX4_isKite 3 = .ok (.ldc2_w 48, 3) := by decide +kernel
theorem dX4_isKite_6 : decode cX4_isKite 6 = .ok (.invokestatic 44, 3) := by decide +kernel
theorem dX4_isKite_9 : decode cX4_isKite 9 = .ok (.ifCond .eq 22, 3) := by decide +kernel
theorem dX4_isKite_12 : decode cX4_isKite 12 = .ok (.aload_n 0, 1) := by decide +kernel
theorem dX4_isKite_13 : decode cX4_isKite 13 = .ok (.getfield 7, 3) := by decide +kernel
theorem dX4_isKite_16 : decode cX4_isKite 16 = .ok (.bipush 18, 2) := by decide +kernel
theorem dX4_isKite_18 : decode cX4_isKite 18 = .ok (.iload_n 1, 1) := by decide +kernel
theorem dX4_isKite_19 : decode cX4_isKite 19 = .ok (.iadd, 1) := by decide +kernel
theorem dX4_isKite_20 : decode cX4_isKite 20 = .ok (.iaload, 1) := by decide +kernel
theorem dX4_isKite_21 : decode cX4_isKite 21 = .ok (.sipush (-10005), 3) := by decide +kernel
theorem dX4_isKite_24 : decode cX4_isKite 24 = .ok (.if_icmp .eq 7, 3) := by decide +kernel
theorem dX4_isKite_27 : decode cX4_isKite 27 = .ok (.iconst 1, 1) := by decide +kernel
theorem dX4_isKite_28 : decode cX4_isKite 28 = .ok (.goto 4, 3) := by decide +kernel
theorem dX4_isKite_31 : decode cX4_isKite 31 = .ok (.iconst 0, 1) := by decide +kernel
theorem dX4_isKite_32 : decode cX4_isKite 32 = .ok (.ireturn, 1) := by decide +kernel
theorem dX4_heightOf_0 : decode cX4_heightOf 0 = .ok (.aload_n 0, 1) := by decide +kernel
theorem dX4_heightOf_1 : decode cX4_heightOf 1 = .ok (.getfield 7, 3) := by decide +kernel
theorem dX4_heightOf_4 : decode cX4_heightOf 4 = .ok (.bipush 42, 2) := by decide +kernel
theorem dX4_heightOf_6 : decode cX4_heightOf 6 = .ok (.iload_n 1, 1) := by decide +kernel
theorem dX4_heightOf_7 : decode cX4_heightOf 7 = .ok (.iadd, 1) := by decide +kernel
theorem dX4_heightOf_8 : decode cX4_heightOf 8 = .ok (.iaload, 1) := by decide +kernel
theorem dX4_heightOf_9 : decode cX4_heightOf 9 = .ok (.ireturn, 1) := by decide +kernel
set_option maxRecDepth 20000 in
theorem ggX4_weightOf_X4_heightOf : GoodIn wsX4_weightOf wsX4_heightOf := goodIn_r _ [5, 6, 7, 8, 9, 10, 11, 12, 13, 14, 15, 16, 17, 18, 19, 20, 21, 22] (by decide +kernel) (by decide +kernel)
set_option maxRecDepth 20000 in
theorem gX4_weightOf_X4_heightOf : GoodIn wsX4_weightOf (wsV RX4 50 RX4 yX4_heightOf wsX4_heightOf) := goodIn_app (goodIn_of _ (by decide +kernel)) ggX4_weightOf_X4_heightOf
theorem dX4_weightOf_0 : decode cX4_weightOf 0 = .ok (.aload_n 0, 1) := by decide +kernel
theorem dX4_weightOf_1 : decode cX4_weightOf 1 = .ok (.iload_n 1, 1) := by decide +kernel
theorem dX4_weightOf_2 : decode cX4_weightOf 2 = .ok (.invokevirtual 50, 3) := by decide +kernel
theorem dX4_weightOf_5 : decode cX4_weightOf 5 = .ok (.iconst 1, 1) := by decide +kernel
theorem dX4_weightOf_6 : decode cX4_weightOf 6 = .ok (.iadd, 1) := by decide +kernel
theorem dX4_weightOf_7 : decode cX4_weightOf 7 = .ok (.ireturn, 1) := by decide +kernel
set_option maxRecDepth 20000 in
theorem ggX4_kiteAt_X4_heightOf : GoodIn wsX4_kiteAt wsX4_heightOf := goodIn_r _ [6, 1, 7, 8, 9, 10, 11, 12, 13, 14, 15, 16, 17, 18, 19, 20, 21, 22] (by decide +kernel) (by decide +kernel)
set_option maxRecDepth 20000 in
theorem gX4_kiteAt_X4_heightOf : GoodIn wsX4_kiteAt (wsV RX4 50 RX4 yX4_heightOf wsX4_heightOf) := goodIn_app (goodIn_of _ (by decide +kernel)) ggX4_kiteAt_X4_heightOf
theorem dX4_kiteAt_0 : decode cX4_kiteAt 0 = .ok (.iconst 0, 1) := by decide +kernel
theorem dX4_kiteAt_1 : decode cX4_kiteAt 1 = .ok (.istore_n 3, 1) := by decide +kernel
theorem dX4_kiteAt_2 : decode cX4_kiteAt 2 = .ok (.iload_n 3, 1) := by decide +kernel
theorem dX4_kiteAt_3 : decode cX4_kiteAt 3 = .ok (.bipush 12, 2) := by decide +kernel
theorem dX4_kiteAt_5 : decode cX4_kiteAt 5 = .ok (.if_icmp .ge 33, 3) := by decide +kernel
theorem dX4_kiteAt_8 : decode cX4_kiteAt 8 = .ok (.aload_n 0, 1) := by decide +kernel
theorem dX4_kiteAt_9 : decode cX4_kiteAt 9 = .ok (.getfield 7, 3) := by decide +kernel
theorem dX4_kiteAt_12 : decode cX4_kiteAt 12 = .ok (.bipush 18, 2) := by decide +kernel
theorem dX4_kiteAt_14 : decode cX4_kiteAt 14 = .ok (.iload_n 3, 1) := by decide +kernel
theorem dX4_kiteAt_15 : decode cX4_kiteAt 15 = .ok (.iadd, 1) := by decide +kernel
theorem dX4_kiteAt_16 : decode cX4_kiteAt 16 = .ok (.iaload, 1) := by decide +kernel
theorem dX4_kiteAt_17 : decode cX4_kiteAt 17 = .ok (.iload_n 1, 1) := by decide +kernel
theorem dX4_kiteAt_18 : decode cX4_kiteAt 18 = .ok (.if_icmp .ne 14, 3) := by decide +kernel
theorem dX4_kiteAt_21 : decode cX4_kiteAt 21 = .ok (.aload_n 0, 1) := by decide +kernel
theorem dX4_kiteAt_22 : decode cX4_kiteAt 22 = .ok (.iload_n 3, 1) := by decide +kernel
theorem dX4_kiteAt_23 : decode cX4_kiteAt 23 = .ok (.invokevirtual 50, 3) := by decide +kernel
theorem dX4_kiteAt_26 : decode cX4_kiteAt 26 = .ok (.iload_n 2, 1) := by decide +kernel
theorem dX4_kiteAt_27 : decode cX4_kiteAt 27 = .ok (.if_icmp .ne 5, 3) := by decide +kernel
theorem dX4_kiteAt_30 : decode cX4_kiteAt 30 = .ok (.iload_n 3, 1) := by decide +kernel
theorem dX4_kiteAt_31 : decode cX4_kiteAt 31 = .ok (.ireturn, 1) := by decide +kernel
theorem dX4_kiteAt_32 : decode cX4_kiteAt 32 = .ok (.iinc 3 1, 3) := by decide +kernel
theorem dX4_kiteAt_35 : decode cX4_kiteAt 35 = .ok (.goto (-33), 3) := by decide +kernel
theorem dX4_kiteAt_38 : decode cX4_kiteAt 38 = .ok (.sipush (-10005), 3) := by decide +kernel
theorem dX4_kiteAt_41 : decode cX4_kiteAt 41 = .ok (.ireturn, 1) := by decide +kernel
set_option maxRecDepth 20000 in
theorem ggX4_landing_X4_kiteAt : GoodIn wsX4_landing wsX4_kiteAt := goodIn_r _ [5, 6, 7, 8, 9, 4, 10, 11, 12, 13, 14, 15, 16, 17, 18, 19, 20, 21, 22, 23, 24, 25, 26] (by decide +kernel) (by decide +kernel)
set_option maxRecDepth 20000 in
theorem gX4_landing_X4_kiteAt : GoodIn wsX4_landing (wsV RX4 54 RX4 yX4_kiteAt wsX4_kiteAt) := goodIn_app (goodIn_of _ (by decide +kernel)) ggX4_landing_X4_kiteAt
theorem dX4_landing_0 : decode cX4_landing 0 = .ok (.iload_n 2, 1) := by decide +kernel
theorem dX4_landing_1 : decode cX4_landing 1 = .ok (.istore_n 3, 1) := by decide +kernel
theorem dX4_landing_2 : decode cX4_landing 2 = .ok (.aload_n 0, 1) := by decide +kernel
theorem dX4_landing_3 : decode cX4_landing 3 = .ok (.iload_n 1, 1) := by decide +kernel
theorem dX4_landing_4 : decode cX4_landing 4 = .ok (.iload_n 3, 1) := by decide +kernel
theorem dX4_landing_5 : decode cX4_landing 5 = .ok (.invokevirtual 54, 3) := by decide +kernel
theorem dX4_landing_8 : decode cX4_landing 8 = .ok (.sipush (-10005), 3) := by decide +kernel
theorem dX4_landing_11 : decode cX4_landing 11 = .ok (.if_icmp .eq 9, 3) := by decide +kernel
theorem dX4_landing_14 : decode cX4_landing 14 = .ok (.iinc 3 1, 3) := by decide +kernel
theorem dX4_landing_17 : decode cX4_landing 17 = .ok (.goto (-15), 3) := by decide +kernel
theorem dX4_landing_20 : decode cX4_landing 20 = .ok (.iload_n 3, 1) := by decide +kernel
theorem dX4_landing_21 : decode cX4_landing 21 = .ok (.ireturn, 1) := by decide +kernel
set_option maxRecDepth 20000 in
theorem ggX4_lands_X4_landing : GoodIn wsX4_lands wsX4_landing := goodIn_r _ [6, 7, 8, 9, 5, 10, 1, 11, 12, 13, 14, 15, 16, 17, 18, 19, 20, 21, 22, 23, 24, 25, 26, 27, 28, 29, 30] (by decide +kernel) (by decide +kernel)
set_option maxRecDepth 20000 in
theorem gX4_lands_X4_landing : GoodIn wsX4_lands (wsV RX4 58 RX4 yX4_landing wsX4_landing) := goodIn_app (goodIn_of _ (by decide +kernel)) ggX4_lands_X4_landing
theorem dX4_lands_0 : decode cX4_lands 0 = .ok (.aload_n 0, 1) := by decide +kernel
theorem dX4_lands_1 : decode cX4_lands 1 = .ok (.getfield 7, 3) := by decide +kernel
theorem dX4_lands_4 : decode cX4_lands 4 = .ok (.bipush 18, 2) := by decide +kernel
theorem dX4_lands_6 : decode cX4_lands 6 = .ok (.iload_n 1, 1) := by decide +kernel
theorem dX4_lands_7 : decode cX4_lands 7 = .ok (.iadd, 1) := by decide +kernel
theorem dX4_lands_8 : decode cX4_lands 8 = .ok (.sipush (-10005), 3) := by decide +kernel
theorem dX4_lands_11 : decode cX4_lands 11 = .ok (.iastore, 1) := by decide +kernel
theorem dX4_lands_12 : decode cX4_lands 12 = .ok (.aload_n 0, 1) := by decide +kernel
theorem dX4_lands_13 : decode cX4_lands 13 = .ok (.iload_n 2, 1) := by decide +kernel
theorem dX4_lands_14 : decode cX4_lands 14 = .ok (.iload_n 3, 1) := by decide +kernel
theorem dX4_lands_15 : decode cX4_lands 15 = .ok (.invokevirtual 58, 3) := by decide +kernel
theorem dX4_lands_18 : decode cX4_lands 18 = .ok (.istore 4, 2) := by decide +kernel
theorem dX4_lands_20 : decode cX4_lands 20 = .ok (.aload_n 0, 1) := by decide +kernel
theorem dX4_lands_21 : decode cX4_lands 21 = .ok (.getfield 7, 3) := by decide +kernel
theorem dX4_lands_24 : decode cX4_lands 24 = .ok (.bipush 18, 2) := by decide +kernel
theorem dX4_lands_26 : decode cX4_lands 26 = .ok (.iload_n 1, 1) := by decide +kernel
theorem dX4_lands_27 : decode cX4_lands 27 = .ok (.iadd, 1) := by decide +kernel
theorem dX4_lands_28 : decode cX4_lands 28 = .ok (.iload_n 2, 1) := by decide +kernel
theorem dX4_lands_29 : decode cX4_lands 29 = .ok (.iastore, 1) := by decide +kernel
theorem dX4_lands_30 : decode cX4_lands 30 = .ok (.aload_n 0, 1) := by decide +kernel
theorem dX4_lands_31 : decode cX4_lands 31 = .ok (.getfield 7, 3) := by decide +kernel
theorem dX4_lands_34 : decode cX4_lands 34 = .ok (.bipush 42, 2) := by decide +kernel
theorem dX4_lands_36 : decode cX4_lands 36 = .ok (.iload_n 1, 1) := by decide +kernel
theorem dX4_lands_37 : decode cX4_lands 37 = .ok (.iadd, 1) := by decide +kernel
theorem dX4_lands_38 : decode cX4_lands 38 = .ok (.iload 4, 2) := by decide +kernel
theorem dX4_lands_40 : decode cX4_lands 40 = .ok (.iastore, 1) := by decide +kernel
theorem dX4_lands_41 : decode cX4_lands 41 = .ok (.return_, 1) := by decide +kernel
set_option maxRecDepth 20000 in
theorem ggX4_nextTo_X4_heightOf : GoodIn wsX4_nextTo wsX4_heightOf := goodIn_r _ [6, 1, 7, 8, 9, 10, 11, 12, 13, 14, 15, 16, 17, 18, 19, 20, 21, 22] (by decide +kernel) (by decide +kernel)
set_option maxRecDepth 20000 in
theorem gX4_nextTo_X4_heightOf : GoodIn wsX4_nextTo (wsV RX4 50 RX4 yX4_heightOf wsX4_heightOf) := goodIn_app (goodIn_of _ (by decide +kernel)) ggX4_nextTo_X4_heightOf
theorem dX4_nextTo_0 : decode cX4_nextTo 0 = .ok (.sipush (-10005), 3) := by decide +kernel
theorem dX4_nextTo_3 : decode cX4_nextTo 3 = .ok (.istore 4, 2) := by decide +kernel
theorem dX4_nextTo_5 : decode cX4_nextTo 5 = .ok (.iconst 0, 1) := by decide +kernel
theorem dX4_nextTo_6 : decode cX4_nextTo 6 = .ok (.istore 5, 2) := by decide +kernel
theorem dX4_nextTo_8 : decode cX4_nextTo 8 = .ok (.iload 5, 2) := by decide +kernel
theorem dX4_nextTo_10 : decode cX4_nextTo 10 = .ok (.bipush 12, 2) := by decide +kernel
theorem dX4_nextTo_12 : decode cX4_nextTo 12 = .ok (.if_icmp .ge 108, 3) := by decide +kernel
theorem dX4_nextTo_15 : decode cX4_nextTo 15 = .ok (.aload_n 0, 1) := by decide +kernel
theorem dX4_nextTo_16 : decode cX4_nextTo 16 = .ok (.getfield 7, 3) := by decide +kernel
theorem dX4_nextTo_19 : decode cX4_nextTo 19 = .ok (.bipush 18, 2) := by decide +kernel
theorem dX4_nextTo_21 : decode cX4_nextTo 21 = .ok (.iload 5, 2) := by decide +kernel
theorem dX4_nextTo_23 : decode cX4_nextTo 23 = .ok (.iadd, 1) := by decide +kernel
theorem dX4_nextTo_24 : decode cX4_nextTo 24 = .ok (.iaload, 1) := by decide +kernel
theorem dX4_nextTo_25 : decode cX4_nextTo 25 = .ok (.iload_n 1, 1) := by decide +kernel
theorem dX4_nextTo_26 : decode cX4_nextTo 26 = .ok (.if_icmp .ne 88, 3) := by decide +kernel
theorem dX4_nextTo_29 : decode cX4_nextTo 29 = .ok (.iload_n 3, 1) := by decide +kernel
theorem dX4_nextTo_30 : decode cX4_nextTo 30 = .ok (.ifCond .eq 14, 3) := by decide +kernel
theorem dX4_nextTo_33 : decode cX4_nextTo 33 = .ok (.aload_n 0, 1) := by decide +kernel
theorem dX4_nextTo_34 : decode cX4_nextTo 34 = .ok (.iload 5, 2) := by decide +kernel
theorem dX4_nextTo_36 : decode cX4_nextTo 36 = .ok (.invokevirtual 50, 3) := by decide +kernel
theorem dX4_nextTo_39 : decode cX4_nextTo 39 = .ok (.iload_n 2, 1) := by decide +kernel
theorem dX4_nextTo_40 : decode cX4_nextTo 40 = .ok (.isub, 1) := by decide +kernel
theorem dX4_nextTo_41 : decode cX4_nextTo 41 = .ok (.goto 11, 3) := by decide +kernel
theorem dX4_nextTo_44 : decode cX4_nextTo 44 = .ok (.iload_n 2, 1) := by decide +kernel
theorem dX4_nextTo_45 : decode cX4_nextTo 45 = .ok (.aload_n 0, 1) := by decide +kernel
theorem dX4_nextTo_46 : decode cX4_nextTo 46 = .ok (.iload 5, 2) := by decide +kernel
theorem dX4_nextTo_48 : decode cX4_nextTo 48 = .ok (.invokevirtual 50, 3) := by decide +kernel
theorem dX4_nextTo_51 : decode cX4_nextTo 51 = .ok (.isub, 1) := by decide +kernel
theorem dX4_nextTo_52 : decode cX4_nextTo 52 = .ok (.istore 6, 2) := by decide +kernel
theorem dX4_nextTo_54 : decode cX4_nextTo 54 = .ok (.iload 4, 2) := by decide +kernel
theorem dX4_nextTo_56 : decode cX4_nextTo 56 = .ok (.sipush (-10005), 3) := by decide +kernel
theorem dX4_nextTo_59 : decode cX4_nextTo 59 = .ok (.if_icmp .ne 9, 3) := by decide +kernel
theorem dX4_nextTo_62 : decode cX4_nextTo 62 = .ok (.sipush 999, 3) := by decide +kernel
theorem dX4_nextTo_65 : decode cX4_nextTo 65 = .ok (.goto 26, 3) := by decide +kernel
theorem dX4_nextTo_68 : decode cX4_nextTo 68 = .ok (.iload_n 3, 1) := by decide +kernel
theorem dX4_nextTo_69 : decode cX4_nextTo 69 = .ok (.ifCond .eq 14, 3) := by decide +kernel
theorem dX4_nextTo_72 : decode cX4_nextTo 72 = .ok (.aload_n 0, 1) := by decide +kernel
theorem dX4_nextTo_73 : decode cX4_nextTo 73 = .ok (.iload 4, 2) := by decide +kernel
theorem dX4_nextTo_75 : decode cX4_nextTo 75 = .ok (.invokevirtual 50, 3) := by decide +kernel
theorem dX4_nextTo_78 : decode cX4_nextTo 78 = .ok (.iload_n 2, 1) := by decide +kernel
theorem dX4_nextTo_79 : decode cX4_nextTo 79 = .ok (.isub, 1) := by decide +kernel
theorem dX4_nextTo_80 : decode cX4_nextTo 80 = .ok (.goto 11, 3) := by decide +kernel
theorem dX4_nextTo_83 : decode cX4_nextTo 83 = .ok (.iload_n 2, 1) := by decide +kernel
theorem dX4_nextTo_84 : decode cX4_nextTo 84 = .ok (.aload_n 0, 1) := by decide +kernel
theorem dX4_nextTo_85 : decode cX4_nextTo 85 = .ok (.iload 4, 2) := by decide +kernel
theorem dX4_nextTo_87 : decode cX4_nextTo 87 = .ok (.invokevirtual 50, 3) := by decide +kernel
theorem dX4_nextTo_90 : decode cX4_nextTo 90 = .ok (.isub, 1) := by decide +kernel
theorem dX4_nextTo_91 : decode cX4_nextTo 91 = .ok (.istore 7, 2) := by decide +kernel
theorem dX4_nextTo_93 : decode cX4_nextTo 93 = .ok (.iload 6, 2) := by decide +kernel
theorem dX4_nextTo_95 : decode cX4_nextTo 95 = .ok (.ifCond .le 15, 3) := by decide +kernel
theorem dX4_nextTo_98 : decode cX4_nextTo 98 = .ok (.iload 6, 2) := by decide +kernel
theorem dX4_nextTo_100 : decode cX4_nextTo 100 = .ok (.iload 7, 2) := by decide +kernel
theorem dX4_nextTo_102 : decode cX4_nextTo 102 = .ok (.if_icmp .ge 8, 3) := by decide +kernel
theorem dX4_nextTo_105 : decode cX4_nextTo 105 = .ok (.iload 5, 2) := by decide +kernel
theorem dX4_nextTo_107 : decode cX4_nextTo 107 = .ok (.goto 5, 3) := by decide +kernel
theorem dX4_nextTo_110 : decode cX4_nextTo 110 = .ok (.iload 4, 2) := by decide +kernel
theorem dX4_nextTo_112 : decode cX4_nextTo 112 = .ok (.istore 4, 2) := by decide +kernel
theorem dX4_nextTo_114 : decode cX4_nextTo 114 = .ok (.iinc 5 1, 3) := by decide +kernel
theorem dX4_nextTo_117 : decode cX4_nextTo 117 = .ok (.goto (-109), 3) := by decide +kernel
theorem dX4_nextTo_120 : decode cX4_nextTo 120 = .ok (.iload 4, 2) := by decide +kernel
theorem dX4_nextTo_122 : decode cX4_nextTo 122 = .ok (.ireturn, 1) := by decide +kernel
theorem dX4_kitesOf_0 : decode cX4_kitesOf 0 = .ok (.iconst 0, 1) := by decide +kernel
theorem dX4_kitesOf_1 : decode cX4_kitesOf 1 = .ok (.istore_n 2, 1) := by decide +kernel
theorem dX4_kitesOf_2 : decode cX4_kitesOf 2 = .ok (.iconst 0, 1) := by decide +kernel
theorem dX4_kitesOf_3 : decode cX4_kitesOf 3 = .ok (.istore_n 3, 1) := by decide +kernel
theorem dX4_kitesOf_4 : decode cX4_kitesOf 4 = .ok (.iload_n 3, 1) := by decide +kernel
theorem dX4_kitesOf_5 : decode cX4_kitesOf 5 = .ok (.bipush 12, 2) := by decide +kernel
theorem dX4_kitesOf_7 : decode cX4_kitesOf 7 = .ok (.if_icmp .ge 30, 3) := by decide +kernel
theorem dX4_kitesOf_10 : decode cX4_kitesOf 10 = .ok (.iload_n 2, 1) := by decide +kernel
theorem dX4_kitesOf_11 : decode cX4_kitesOf 11 = .ok (.aload_n 0, 1) := by decide +kernel
theorem dX4_kitesOf_12 : decode cX4_kitesOf 12 = .ok (.getfield 7, 3) := by decide +kernel
theorem dX4_kitesOf_15 : decode cX4_kitesOf 15 = .ok (.bipush 18, 2) := by decide +kernel
theorem dX4_kitesOf_17 : decode cX4_kitesOf 17 = .ok (.iload_n 3, 1) := by decide +kernel
theorem dX4_kitesOf_18 : decode cX4_kitesOf 18 = .ok (.iadd, 1) := by decide +kernel
theorem dX4_kitesOf_19 : decode cX4_kitesOf 19 = .ok (.iaload, 1) := by decide +kernel
theorem dX4_kitesOf_20 : decode cX4_kitesOf 20 = .ok (.iload_n 1, 1) := by decide +kernel
theorem dX4_kitesOf_21 : decode cX4_kitesOf 21 = .ok (.if_icmp .ne 7, 3) := by decide +kernel
theorem dX4_kitesOf_24 : decode cX4_kitesOf 24 = .ok (.iconst 1, 1) := by decide +kernel
theorem dX4_kitesOf_25 : decode cX4_kitesOf 25 = .ok (.goto 4, 3) := by decide +kernel
theorem dX4_kitesOf_28 : decode cX4_kitesOf 28 = .ok (.iconst 0, 1) := by decide +kernel
theorem dX4_kitesOf_29 : decode cX4_kitesOf 29 = .ok (.iadd, 1) := by decide +kernel
theorem dX4_kitesOf_30 : decode cX4_kitesOf 30 = .ok (.istore_n 2, 1) := by decide +kernel
theorem dX4_kitesOf_31 : decode cX4_kitesOf 31 = .ok (.iinc 3 1, 3) := by decide +kernel
theorem dX4_kitesOf_34 : decode cX4_kitesOf 34 = .ok (.goto (-30), 3) := by decide +kernel
theorem dX4_kitesOf_37 : decode cX4_kitesOf 37 = .ok (.iload_n 2, 1) := by decide +kernel
theorem dX4_kitesOf_38 : decode cX4_kitesOf 38 = .ok (.ireturn, 1) := by decide +kernel
set_option maxRecDepth 20000 in
theorem ggX4_weightsOf_X4_weightOf : GoodIn wsX4_weightsOf wsX4_weightOf := goodIn_r _ [6, 7, 8, 9, 5, 10, 1, 11, 12, 13, 14, 15, 16, 17, 18, 19, 20, 21, 22, 23, 24, 25, 26] (by decide +kernel) (by decide +kernel)
set_option maxRecDepth 20000 in
theorem gX4_weightsOf_X4_weightOf : GoodIn wsX4_weightsOf (wsV RX4 61 RX4 yX4_weightOf wsX4_weightOf) := goodIn_app (goodIn_of _ (by decide +kernel)) ggX4_weightsOf_X4_weightOf
theorem dX4_weightsOf_0 : decode cX4_weightsOf 0 = .ok (.iconst 0, 1) := by decide +kernel
theorem dX4_weightsOf_1 : decode cX4_weightsOf 1 = .ok (.istore_n 2, 1) := by decide +kernel
theorem dX4_weightsOf_2 : decode cX4_weightsOf 2 = .ok (.iconst 0, 1) := by decide +kernel
theorem dX4_weightsOf_3 : decode cX4_weightsOf 3 = .ok (.istore_n 3, 1) := by decide +kernel
theorem dX4_weightsOf_4 : decode cX4_weightsOf 4 = .ok (.iload_n 3, 1) := by decide +kernel
theorem dX4_weightsOf_5 : decode cX4_weightsOf 5 = .ok (.bipush 12, 2) := by decide +kernel
theorem dX4_weightsOf_7 : decode cX4_weightsOf 7 = .ok (.if_icmp .ge 34, 3) := by decide +kernel
theorem dX4_weightsOf_10 : decode cX4_weightsOf 10 = .ok (.iload_n 2, 1) := by decide +kernel
theorem dX4_weightsOf_11 : decode cX4_weightsOf 11 = .ok (.aload_n 0, 1) := by decide +kernel
theorem dX4_weightsOf_12 : decode cX4_weightsOf 12 = .ok (.getfield 7, 3) := by decide +kernel
theorem dX4_weightsOf_15 : decode cX4_weightsOf 15 = .ok (.bipush 18, 2) := by decide +kernel
theorem dX4_weightsOf_17 : decode cX4_weightsOf 17 = .ok (.iload_n 3, 1) := by decide +kernel
theorem dX4_weightsOf_18 : decode cX4_weightsOf 18 = .ok (.iadd, 1) := by decide +kernel
theorem dX4_weightsOf_19 : decode cX4_weightsOf 19 = .ok (.iaload, 1) := by decide +kernel
theorem dX4_weightsOf_20 : decode cX4_weightsOf 20 = .ok (.iload_n 1, 1) := by decide +kernel
theorem dX4_weightsOf_21 : decode cX4_weightsOf 21 = .ok (.if_icmp .ne 11, 3) := by decide +kernel
theorem dX4_weightsOf_24 : decode cX4_weightsOf 24 = .ok (.aload_n 0, 1) := by decide +kernel
theorem dX4_weightsOf_25 : decode cX4_weightsOf 25 = .ok (.iload_n 3, 1) := by decide +kernel
theorem dX4_weightsOf_26 : decode cX4_weightsOf 26 = .ok (.invokevirtual 61, 3) := by decide +kernel
theorem dX4_weightsOf_29 : decode cX4_weightsOf 29 = .ok (.goto 4, 3) := by decide +kernel
theorem dX4_weightsOf_32 : decode cX4_weightsOf 32 = .ok (.iconst 0, 1) := by decide +kernel
theorem dX4_weightsOf_33 : decode cX4_weightsOf 33 = .ok (.iadd, 1) := by decide +kernel
theorem dX4_weightsOf_34 : decode cX4_weightsOf 34 = .ok (.istore_n 2, 1) := by decide +kernel
theorem dX4_weightsOf_35 : decode cX4_weightsOf 35 = .ok (.iinc 3 1, 3) := by decide +kernel
theorem dX4_weightsOf_38 : decode cX4_weightsOf 38 = .ok (.goto (-34), 3) := by decide +kernel
theorem dX4_weightsOf_41 : decode cX4_weightsOf 41 = .ok (.iload_n 2, 1) := by decide +kernel
theorem dX4_weightsOf_42 : decode cX4_weightsOf 42 = .ok (.ireturn, 1) := by decide +kernel
set_option maxRecDepth 20000 in
theorem ggX4_many_X4_kitesOf : GoodIn wsX4_many wsX4_kitesOf := goodIn_r _ [5, 6, 7, 8, 9, 10, 11, 12, 13, 14, 15, 16, 17, 18, 19, 20, 21, 22] (by decide +kernel) (by decide +kernel)
set_option maxRecDepth 20000 in
theorem gX4_many_X4_kitesOf : GoodIn wsX4_many (wsV RX4 64 RX4 yX4_kitesOf wsX4_kitesOf) := goodIn_app (goodIn_of _ (by decide +kernel)) ggX4_many_X4_kitesOf
theorem dX4_many_0 : decode cX4_many 0 = .ok (.iconst 0, 1) := by decide +kernel
theorem dX4_many_1 : decode cX4_many 1 = .ok (.istore_n 1, 1) := by decide +kernel
theorem dX4_many_2 : decode cX4_many 2 = .ok (.iconst 0, 1) := by decide +kernel
theorem dX4_many_3 : decode cX4_many 3 = .ok (.istore_n 2, 1) := by decide +kernel
theorem dX4_many_4 : decode cX4_many 4 = .ok (.iload_n 2, 1) := by decide +kernel
theorem dX4_many_5 : decode cX4_many 5 = .ok (.iconst 4, 1) := by decide +kernel
theorem dX4_many_6 : decode cX4_many 6 = .ok (.if_icmp .ge 17, 3) := by decide +kernel
theorem dX4_many_9 : decode cX4_many 9 = .ok (.iload_n 1, 1) := by decide +kernel
theorem dX4_many_10 : decode cX4_many 10 = .ok (.aload_n 0, 1) := by decide +kernel
theorem dX4_many_11 : decode cX4_many 11 = .ok (.iload_n 2, 1) := by decide +kernel
theorem dX4_many_12 : decode cX4_many 12 = .ok (.invokevirtual 64, 3) := by decide +kernel
theorem dX4_many_15 : decode cX4_many 15 = .ok (.iadd, 1) := by decide +kernel
theorem dX4_many_16 : decode cX4_many 16 = .ok (.istore_n 1, 1) := by decide +kernel
theorem dX4_many_17 : decode cX4_many 17 = .ok (.iinc 2 1, 3) := by decide +kernel
theorem dX4_many_20 : decode cX4_many 20 = .ok (.goto (-16), 3) := by decide +kernel
theorem dX4_many_23 : decode cX4_many 23 = .ok (.iload_n 1, 1) := by decide +kernel
theorem dX4_many_24 : decode cX4_many 24 = .ok (.ireturn, 1) := by decide +kernel
theorem dX4_windNow_0 : decode cX4_windNow 0 = .ok (.aload_n 0, 1) := by decide +kernel
theorem dX4_windNow_1 : decode cX4_windNow 1 = .ok (.getfield 7, 3) := by decide +kernel
theorem dX4_windNow_4 : decode cX4_windNow 4 = .ok (.bipush 6, 2) := by decide +kernel
theorem dX4_windNow_6 : decode cX4_windNow 6 = .ok (.aload_n 0, 1) := by decide +kernel
theorem dX4_windNow_7 : decode cX4_windNow 7 = .ok (.getfield 7, 3) := by decide +kernel
theorem dX4_windNow_10 : decode cX4_windNow 10 = .ok (.iconst 2, 1) := by decide +kernel
theorem dX4_windNow_11 : decode cX4_windNow 11 = .ok (.iaload, 1) := by decide +kernel
theorem dX4_windNow_12 : decode cX4_windNow 12 = .ok (.iadd, 1) := by decide +kernel
theorem dX4_windNow_13 : decode cX4_windNow 13 = .ok (.iaload, 1) := by decide +kernel
theorem dX4_windNow_14 : decode cX4_windNow 14 = .ok (.ireturn, 1) := by decide +kernel
set_option maxRecDepth 20000 in
theorem ggX4_doFly_X4_lands : GoodIn wsX4_doFly wsX4_lands := goodIn_r _ [6, 1, 7, 8, 9, 5, 10, 11, 12, 13, 14, 15, 16, 17, 18, 19, 20, 21, 22, 23, 24, 25, 26, 27, 28, 29, 30, 31, 32, 33, 34] (by decide +kernel) (by decide +kernel)
set_option maxRecDepth 20000 in
theorem gX4_doFly_X4_lands : GoodIn wsX4_doFly (wsV RX4 67 RX4 yX4_lands wsX4_lands) := goodIn_app (goodIn_of _ (by decide +kernel)) ggX4_doFly_X4_lands
theorem dX4_doFly_0 : decode cX4_doFly 0 = .ok (.iconst 0, 1) := by decide +kernel
theorem dX4_doFly_1 : decode cX4_doFly 1 = .ok (.istore_n 3, 1) := by decide +kernel
theorem dX4_doFly_2 : decode cX4_doFly 2 = .ok (.iload_n 3, 1) := by decide +kernel
theorem dX4_doFly_3 : decode cX4_doFly 3 = .ok (.bipush 12, 2) := by decide +kernel
theorem dX4_doFly_5 : decode cX4_doFly 5 = .ok (.if_icmp .ge 73, 3) := by decide +kernel
theorem dX4_doFly_8 : decode cX4_doFly 8 = .ok (.aload_n 0, 1) := by decide +kernel
theorem dX4_doFly_9 : decode cX4_doFly 9 = .ok (.getfield 7, 3) := by decide +kernel
theorem dX4_doFly_12 : decode cX4_doFly 12 = .ok (.bipush 18, 2) := by decide +kernel
theorem dX4_doFly_14 : decode cX4_doFly 14 = .ok (.iload_n 3, 1) := by decide +kernel
theorem dX4_doFly_15 : decode cX4_doFly 15 = .ok (.iadd, 1) := by decide +kernel
theorem dX4_doFly_16 : decode cX4_doFly 16 = .ok (.iaload, 1) := by decide +kernel
theorem dX4_doFly_17 : decode cX4_doFly 17 = .ok (.sipush (-10005), 3) := by decide +kernel
theorem dX4_doFly_20 : decode cX4_doFly 20 = .ok (.if_icmp .ne 52, 3) := by decide +kernel
theorem dX4_doFly_23 : decode cX4_doFly 23 = .ok (.aload_n 0, 1) := by decide +kernel
theorem dX4_doFly_24 : decode cX4_doFly 24 = .ok (.iload_n 3, 1) := by decide +kernel
theorem dX4_doFly_25 : decode cX4_doFly 25 = .ok (.iload_n 1, 1) := by decide +kernel
theorem dX4_doFly_26 : decode cX4_doFly 26 = .ok (.iconst 0, 1) := by decide +kernel
theorem dX4_doFly_27 : decode cX4_doFly 27 = .ok (.invokevirtual 67, 3) := by decide +kernel
theorem dX4_doFly_30 : decode cX4_doFly 30 = .ok (.aload_n 0, 1) := by decide +kernel
theorem dX4_doFly_31 : decode cX4_doFly 31 = .ok (.getfield 7, 3) := by decide +kernel
theorem dX4_doFly_34 : decode cX4_doFly 34 = .ok (.bipush 30, 2) := by decide +kernel
theorem dX4_doFly_36 : decode cX4_doFly 36 = .ok (.iload_n 3, 1) := by decide +kernel
theorem dX4_doFly_37 : decode cX4_doFly 37 = .ok (.iadd, 1) := by decide +kernel
theorem dX4_doFly_38 : decode cX4_doFly 38 = .ok (.iload_n 2, 1) := by decide +kernel
theorem dX4_doFly_39 : decode cX4_doFly 39 = .ok (.iastore, 1) := by decide +kernel
theorem dX4_doFly_40 : decode cX4_doFly 40 = .ok (.aload_n 0, 1) := by decide +kernel
theorem dX4_doFly_41 : decode cX4_doFly 41 = .ok (.getfield 7, 3) := by decide +kernel
theorem dX4_doFly_44 : decode cX4_doFly 44 = .ok (.bipush 54, 2) := by decide +kernel
theorem dX4_doFly_46 : decode cX4_doFly 46 = .ok (.iload_n 3, 1) := by decide +kernel
theorem dX4_doFly_47 : decode cX4_doFly 47 = .ok (.iadd, 1) := by decide +kernel
theorem dX4_doFly_48 : decode cX4_doFly 48 = .ok (.iconst 0, 1) := by decide +kernel
theorem dX4_doFly_49 : decode cX4_doFly 49 = .ok (.iastore, 1) := by decide +kernel
theorem dX4_doFly_50 : decode cX4_doFly 50 = .ok (.aload_n 0, 1) := by decide +kernel
theorem dX4_doFly_51 : decode cX4_doFly 51 = .ok (.getfield 7, 3) := by decide +kernel
theorem dX4_doFly_54 : decode cX4_doFly 54 = .ok (.bipush 66, 2) := by decide +kernel
theorem dX4_doFly_56 : decode cX4_doFly 56 = .ok (.iload_n 3, 1) := by decide +kernel
theorem dX4_doFly_57 : decode cX4_doFly 57 = .ok (.iadd, 1) := by decide +kernel
theorem dX4_doFly_58 : decode cX4_doFly 58 = .ok (.iconst 0, 1) := by decide +kernel
theorem dX4_doFly_59 : decode cX4_doFly 59 = .ok (.iastore, 1) := by decide +kernel
theorem dX4_doFly_60 : decode cX4_doFly 60 = .ok (.aload_n 0, 1) := by decide +kernel
theorem dX4_doFly_61 : decode cX4_doFly 61 = .ok (.getfield 7, 3) := by decide +kernel
theorem dX4_doFly_64 : decode cX4_doFly 64 = .ok (.bipush 78, 2) := by decide +kernel
theorem dX4_doFly_66 : decode cX4_doFly 66 = .ok (.iload_n 3, 1) := by decide +kernel
theorem dX4_doFly_67 : decode cX4_doFly 67 = .ok (.iadd, 1) := by decide +kernel
theorem dX4_doFly_68 : decode cX4_doFly 68 = .ok (.iconst 0, 1) := by decide +kernel
theorem dX4_doFly_69 : decode cX4_doFly 69 = .ok (.iastore, 1) := by decide +kernel
theorem dX4_doFly_70 : decode cX4_doFly 70 = .ok (.iload_n 3, 1) := by decide +kernel
theorem dX4_doFly_71 : decode cX4_doFly 71 = .ok (.ireturn, 1) := by decide +kernel
theorem dX4_doFly_72 : decode cX4_doFly 72 = .ok (.iinc 3 1, 3) := by decide +kernel
theorem dX4_doFly_75 : decode cX4_doFly 75 = .ok (.goto (-73), 3) := by decide +kernel
theorem dX4_doFly_78 : decode cX4_doFly 78 = .ok (.sipush (-10003), 3) := by decide +kernel
theorem dX4_doFly_81 : decode cX4_doFly 81 = .ok (.ireturn, 1) := by decide +kernel
set_option maxRecDepth 20000 in
theorem ggX4_rises_X4_heightOf : GoodIn wsX4_rises wsX4_heightOf := goodIn_r _ [6, 1, 19, 20, 21, 22, 23, 24, 25, 26, 27, 28, 29, 30, 31, 32, 33, 34] (by decide +kernel) (by decide +kernel)
set_option maxRecDepth 20000 in
theorem gX4_rises_X4_heightOf : GoodIn wsX4_rises (wsV RX4 50 RX4 yX4_heightOf wsX4_heightOf) := goodIn_app (goodIn_of _ (by decide +kernel)) ggX4_rises_X4_heightOf
set_option maxRecDepth 20000 in
theorem ggX4_rises_X4_lands : GoodIn wsX4_rises wsX4_lands := goodIn_r _ [10, 1, 11, 12, 13, 5, 14, 15, 16, 17, 18, 2, 3, 4, 6, 19, 20, 21, 22, 23, 24, 25, 26, 27, 28, 29, 30, 31, 32, 33, 34] (by decide +kernel) (by decide +kernel)
set_option maxRecDepth 20000 in
theorem gX4_rises_X4_lands : GoodIn wsX4_rises (wsV RX4 67 RX4 yX4_lands wsX4_lands) := goodIn_app (goodIn_of _ (by decide +kernel)) ggX4_rises_X4_lands
theorem dX4_rises_0 : decode cX4_rises 0 = .ok (.aload_n 0, 1) := by decide +kernel
theorem dX4_rises_1 : decode cX4_rises 1 = .ok (.getfield 7, 3) := by decide +kernel
theorem dX4_rises_4 : decode cX4_rises 4 = .ok (.bipush 18, 2) := by decide +kernel
theorem dX4_rises_6 : decode cX4_rises 6 = .ok (.iload_n 1, 1) := by decide +kernel
theorem dX4_rises_7 : decode cX4_rises 7 = .ok (.iadd, 1) := by decide +kernel
theorem dX4_rises_8 : decode cX4_rises 8 = .ok (.iaload, 1) := by decide +kernel
theorem dX4_rises_9 : decode cX4_rises 9 = .ok (.istore_n 3, 1) := by decide +kernel
theorem dX4_rises_10 : decode cX4_rises 10 = .ok (.aload_n 0, 1) := by decide +kernel
theorem dX4_rises_11 : decode cX4_rises 11 = .ok (.iload_n 1, 1) := by decide +kernel
theorem dX4_rises_12 : decode cX4_rises 12 = .ok (.iload_n 3, 1) := by decide +kernel
theorem dX4_rises_13 : decode cX4_rises 13 = .ok (.aload_n 0, 1) := by decide +kernel
theorem dX4_rises_14 : decode cX4_rises 14 = .ok (.iload_n 1, 1) := by decide +kernel
theorem dX4_rises_15 : decode cX4_rises 15 = .ok (.invokevirtual 50, 3) := by decide +kernel
theorem dX4_rises_18 : decode cX4_rises 18 = .ok (.iload_n 2, 1) := by decide +kernel
theorem dX4_rises_19 : decode cX4_rises 19 = .ok (.iadd, 1) := by decide +kernel
theorem dX4_rises_20 : decode cX4_rises 20 = .ok (.iconst 1, 1) := by decide +kernel
theorem dX4_rises_21 : decode cX4_rises 21 = .ok (.iadd, 1) := by decide +kernel
theorem dX4_rises_22 : decode cX4_rises 22 = .ok (.invokevirtual 67, 3) := by decide +kernel
theorem dX4_rises_25 : decode cX4_rises 25 = .ok (.aload_n 0, 1) := by decide +kernel
theorem dX4_rises_26 : decode cX4_rises 26 = .ok (.iload_n 1, 1) := by decide +kernel
theorem dX4_rises_27 : decode cX4_rises 27 = .ok (.invokevirtual 50, 3) := by decide +kernel
theorem dX4_rises_30 : decode cX4_rises 30 = .ok (.aload_n 0, 1) := by decide +kernel
theorem dX4_rises_31 : decode cX4_rises 31 = .ok (.getfield 7, 3) := by decide +kernel
theorem dX4_rises_34 : decode cX4_rises 34 = .ok (.iconst 0, 1) := by decide +kernel
theorem dX4_rises_35 : decode cX4_rises 35 = .ok (.iaload, 1) := by decide +kernel
theorem dX4_rises_36 : decode cX4_rises 36 = .ok (.if_icmp .gt 5, 3) := by decide +kernel
theorem dX4_rises_39 : decode cX4_rises 39 = .ok (.iconst 0, 1) := by decide +kernel
theorem dX4_rises_40 : decode cX4_rises 40 = .ok (.ireturn, 1) := by decide +kernel
theorem dX4_rises_41 : decode cX4_rises 41 = .ok (.aload_n 0, 1) := by decide +kernel
theorem dX4_rises_42 : decode cX4_rises 42 = .ok (.iload_n 1, 1) := by decide +kernel
theorem dX4_rises_43 : decode cX4_rises 43 = .ok (.iload_n 3, 1) := by decide +kernel
theorem dX4_rises_44 : decode cX4_rises 44 = .ok (.iconst 1, 1) := by decide +kernel
theorem dX4_rises_45 : decode cX4_rises 45 = .ok (.iadd, 1) := by decide +kernel
theorem dX4_rises_46 : decode cX4_rises 46 = .ok (.iconst 4, 1) := by decide +kernel
theorem dX4_rises_47 : decode cX4_rises 47 = .ok (.irem, 1) := by decide +kernel
theorem dX4_rises_48 : decode cX4_rises 48 = .ok (.iconst 0, 1) := by decide +kernel
theorem dX4_rises_49 : decode cX4_rises 49 = .ok (.invokevirtual 67, 3) := by decide +kernel
theorem dX4_rises_52 : decode cX4_rises 52 = .ok (.aload_n 0, 1) := by decide +kernel
theorem dX4_rises_53 : decode cX4_rises 53 = .ok (.getfield 7, 3) := by decide +kernel
theorem dX4_rises_56 : decode cX4_rises 56 = .ok (.bipush 78, 2) := by decide +kernel
theorem dX4_rises_58 : decode cX4_rises 58 = .ok (.iload_n 1, 1) := by decide +kernel
theorem dX4_rises_59 : decode cX4_rises 59 = .ok (.iadd, 1) := by decide +kernel
theorem dX4_rises_60 : decode cX4_rises 60 = .ok (.dup2, 1) := by decide +kernel
theorem dX4_rises_61 : decode cX4_rises 61 = .ok (.iaload, 1) := by decide +kernel
theorem dX4_rises_62 : decode cX4_rises 62 = .ok (.iconst 1, 1) := by decide +kernel
theorem dX4_rises_63 : decode cX4_rises 63 = .ok (.iadd, 1) := by decide +kernel
theorem dX4_rises_64 : decode cX4_rises 64 = .ok (.iastore, 1) := by decide +kernel
theorem dX4_rises_65 : decode cX4_rises 65 = .ok (.aload_n 0, 1) := by decide +kernel
theorem dX4_rises_66 : decode cX4_rises 66 = .ok (.getfield 7, 3) := by decide +kernel
theorem dX4_rises_69 : decode cX4_rises 69 = .ok (.iconst 4, 1) := by decide +kernel
theorem dX4_rises_70 : decode cX4_rises 70 = .ok (.dup2, 1) := by decide +kernel
theorem dX4_rises_71 : decode cX4_rises 71 = .ok (.iaload, 1) := by decide +kernel
theorem dX4_rises_72 : decode cX4_rises 72 = .ok (.iconst 1, 1) := by decide +kernel
theorem dX4_rises_73 : decode cX4_rises 73 = .ok (.iadd, 1) := by decide +kernel
theorem dX4_rises_74 : decode cX4_rises 74 = .ok (.iastore, 1) := by decide +kernel
theorem dX4_rises_75 : decode cX4_rises 75 = .ok (.aload_n 0, 1) := by decide +kernel
theorem dX4_rises_76 : decode cX4_rises 76 = .ok (.getfield 7, 3) := by decide +kernel
theorem dX4_rises_79 : decode cX4_rises 79 = .ok (.bipush 14, 2) := by decide +kernel
theorem dX4_rises_81 : decode cX4_rises 81 = .ok (.iload_n 3, 1) := by decide +kernel
theorem dX4_rises_82 : decode cX4_rises 82 = .ok (.iadd, 1) := by decide +kernel
theorem dX4_rises_83 : decode cX4_rises 83 = .ok (.dup2, 1) := by decide +kernel
theorem dX4_rises_84 : decode cX4_rises 84 = .ok (.iaload, 1) := by decide +kernel
theorem dX4_rises_85 : decode cX4_rises 85 = .ok (.iconst 1, 1) := by decide +kernel
theorem dX4_rises_86 : decode cX4_rises 86 = .ok (.iadd, 1) := by decide +kernel
theorem dX4_rises_87 : decode cX4_rises 87 = .ok (.iastore, 1) := by decide +kernel
theorem dX4_rises_88 : decode cX4_rises 88 = .ok (.iconst 1, 1) := by decide +kernel
theorem dX4_rises_89 : decode cX4_rises 89 = .ok (.ireturn, 1) := by decide +kernel
set_option maxRecDepth 20000 in
theorem ggX4_doRead_X4_windNow : GoodIn wsX4_doRead wsX4_windNow := goodIn_r _ [6, 1, 27, 28, 29, 30, 31, 32, 33, 34, 35, 36, 37, 38, 39, 40, 41, 42] (by decide +kernel) (by decide +kernel)
set_option maxRecDepth 20000 in
theorem gX4_doRead_X4_windNow : GoodIn wsX4_doRead (wsV RX4 71 RX4 yX4_windNow wsX4_windNow) := goodIn_app (goodIn_of _ (by decide +kernel)) ggX4_doRead_X4_windNow
set_option maxRecDepth 20000 in
theorem ggX4_doRead_X4_rises : GoodIn wsX4_doRead wsX4_rises := goodIn_r _ [10, 1, 11, 12, 13, 5, 14, 15, 16, 17, 18, 19, 20, 21, 22, 23, 24, 25, 26, 27, 28, 29, 30, 31, 32, 33, 34, 35, 36, 37, 38, 39, 40, 41, 42] (by decide +kernel) (by decide +kernel)
set_option maxRecDepth 20000 in
theorem gX4_doRead_X4_rises : GoodIn wsX4_doRead (wsV RX4 75 RX4 yX4_rises wsX4_rises) := goodIn_app (goodIn_of _ (by decide +kernel)) ggX4_doRead_X4_rises
theorem dX4_doRead_0 : decode cX4_doRead 0 = .ok (.aload_n 0, 1) := by decide +kernel
theorem dX4_doRead_1 : decode cX4_doRead 1 = .ok (.iload_n 1, 1) := by decide +kernel
theorem dX4_doRead_2 : decode cX4_doRead 2 = .ok (.aload_n 0, 1) := by decide +kernel
theorem dX4_doRead_3 : decode cX4_doRead 3 = .ok (.invokevirtual 71, 3) := by decide +kernel
theorem dX4_doRead_6 : decode cX4_doRead 6 = .ok (.invokevirtual 75, 3) := by decide +kernel
theorem dX4_doRead_9 : decode cX4_doRead 9 = .ok (.istore_n 2, 1) := by decide +kernel
theorem dX4_doRead_10 : decode cX4_doRead 10 = .ok (.aload_n 0, 1) := by decide +kernel
theorem dX4_doRead_11 : decode cX4_doRead 11 = .ok (.getfield 7, 3) := by decide +kernel
theorem dX4_doRead_14 : decode cX4_doRead 14 = .ok (.bipush 54, 2) := by decide +kernel
theorem dX4_doRead_16 : decode cX4_doRead 16 = .ok (.iload_n 1, 1) := by decide +kernel
theorem dX4_doRead_17 : decode cX4_doRead 17 = .ok (.iadd, 1) := by decide +kernel
theorem dX4_doRead_18 : decode cX4_doRead 18 = .ok (.iconst 1, 1) := by decide +kernel
theorem dX4_doRead_19 : decode cX4_doRead 19 = .ok (.iastore, 1) := by decide +kernel
theorem dX4_doRead_20 : decode cX4_doRead 20 = .ok (.aload_n 0, 1) := by decide +kernel
theorem dX4_doRead_21 : decode cX4_doRead 21 = .ok (.getfield 7, 3) := by decide +kernel
theorem dX4_doRead_24 : decode cX4_doRead 24 = .ok (.bipush 66, 2) := by decide +kernel
theorem dX4_doRead_26 : decode cX4_doRead 26 = .ok (.iload_n 1, 1) := by decide +kernel
theorem dX4_doRead_27 : decode cX4_doRead 27 = .ok (.iadd, 1) := by decide +kernel
theorem dX4_doRead_28 : decode cX4_doRead 28 = .ok (.dup2, 1) := by decide +kernel
theorem dX4_doRead_29 : decode cX4_doRead 29 = .ok (.iaload, 1) := by decide +kernel
theorem dX4_doRead_30 : decode cX4_doRead 30 = .ok (.iconst 1, 1) := by decide +kernel
theorem dX4_doRead_31 : decode cX4_doRead 31 = .ok (.iadd, 1) := by decide +kernel
theorem dX4_doRead_32 : decode cX4_doRead 32 = .ok (.iastore, 1) := by decide +kernel
theorem dX4_doRead_33 : decode cX4_doRead 33 = .ok (.aload_n 0, 1) := by decide +kernel
theorem dX4_doRead_34 : decode cX4_doRead 34 = .ok (.getfield 7, 3) := by decide +kernel
theorem dX4_doRead_37 : decode cX4_doRead 37 = .ok (.iconst 3, 1) := by decide +kernel
theorem dX4_doRead_38 : decode cX4_doRead 38 = .ok (.dup2, 1) := by decide +kernel
theorem dX4_doRead_39 : decode cX4_doRead 39 = .ok (.iaload, 1) := by decide +kernel
theorem dX4_doRead_40 : decode cX4_doRead 40 = .ok (.iconst 1, 1) := by decide +kernel
theorem dX4_doRead_41 : decode cX4_doRead 41 = .ok (.iadd, 1) := by decide +kernel
theorem dX4_doRead_42 : decode cX4_doRead 42 = .ok (.iastore, 1) := by decide +kernel
theorem dX4_doRead_43 : decode cX4_doRead 43 = .ok (.aload_n 0, 1) := by decide +kernel
theorem dX4_doRead_44 : decode cX4_doRead 44 = .ok (.getfield 7, 3) := by decide +kernel
theorem dX4_doRead_47 : decode cX4_doRead 47 = .ok (.bipush 30, 2) := by decide +kernel
theorem dX4_doRead_49 : decode cX4_doRead 49 = .ok (.iload_n 1, 1) := by decide +kernel
theorem dX4_doRead_50 : decode cX4_doRead 50 = .ok (.iadd, 1) := by decide +kernel
theorem dX4_doRead_51 : decode cX4_doRead 51 = .ok (.iaload, 1) := by decide +kernel
theorem dX4_doRead_52 : decode cX4_doRead 52 = .ok (.ireturn, 1) := by decide +kernel
theorem dX4_doWrite_0 : decode cX4_doWrite 0 = .ok (.aload_n 0, 1) := by decide +kernel
theorem dX4_doWrite_1 : decode cX4_doWrite 1 = .ok (.getfield 7, 3) := by decide +kernel
theorem dX4_doWrite_4 : decode cX4_doWrite 4 = .ok (.bipush 30, 2) := by decide +kernel
theorem dX4_doWrite_6 : decode cX4_doWrite 6 = .ok (.iload_n 1, 1) := by decide +kernel
theorem dX4_doWrite_7 : decode cX4_doWrite 7 = .ok (.iadd, 1) := by decide +kernel
theorem dX4_doWrite_8 : decode cX4_doWrite 8 = .ok (.iaload, 1) := by decide +kernel
theorem dX4_doWrite_9 : decode cX4_doWrite 9 = .ok (.istore_n 3, 1) := by decide +kernel
theorem dX4_doWrite_10 : decode cX4_doWrite 10 = .ok (.aload_n 0, 1) := by decide +kernel
theorem dX4_doWrite_11 : decode cX4_doWrite 11 = .ok (.getfield 7, 3) := by decide +kernel
theorem dX4_doWrite_14 : decode cX4_doWrite 14 = .ok (.bipush 30, 2) := by decide +kernel
theorem dX4_doWrite_16 : decode cX4_doWrite 16 = .ok (.iload_n 1, 1) := by decide +kernel
theorem dX4_doWrite_17 : decode cX4_doWrite 17 = .ok (.iadd, 1) := by decide +kernel
theorem dX4_doWrite_18 : decode cX4_doWrite 18 = .ok (.iload_n 2, 1) := by decide +kernel
theorem dX4_doWrite_19 : decode cX4_doWrite 19 = .ok (.iastore, 1) := by decide +kernel
theorem dX4_doWrite_20 : decode cX4_doWrite 20 = .ok (.aload_n 0, 1) := by decide +kernel
theorem dX4_doWrite_21 : decode cX4_doWrite 21 = .ok (.getfield 7, 3) := by decide +kernel
theorem dX4_doWrite_24 : decode cX4_doWrite 24 = .ok (.bipush 54, 2) := by decide +kernel
theorem dX4_doWrite_26 : decode cX4_doWrite 26 = .ok (.iload_n 1, 1) := by decide +kernel
theorem dX4_doWrite_27 : decode cX4_doWrite 27 = .ok (.iadd, 1) := by decide +kernel
theorem dX4_doWrite_28 : decode cX4_doWrite 28 = .ok (.iconst 1, 1) := by decide +kernel
theorem dX4_doWrite_29 : decode cX4_doWrite 29 = .ok (.iastore, 1) := by decide +kernel
theorem dX4_doWrite_30 : decode cX4_doWrite 30 = .ok (.iload_n 3, 1) := by decide +kernel
theorem dX4_doWrite_31 : decode cX4_doWrite 31 = .ok (.ireturn, 1) := by decide +kernel
set_option maxRecDepth 20000 in
theorem ggX4_sinks_X4_nextTo : GoodIn wsX4_sinks wsX4_nextTo := goodIn_r _ [6, 1, 7, 8, 9, 5, 10, 11, 12, 13, 14, 15, 16, 17, 18, 19, 20, 21, 22, 23, 24, 25, 26] (by decide +kernel) (by decide +kernel)
set_option maxRecDepth 20000 in
theorem gX4_sinks_X4_nextTo : GoodIn wsX4_sinks (wsV RX4 79 RX4 yX4_nextTo wsX4_nextTo) := goodIn_app (goodIn_of _ (by decide +kernel)) ggX4_sinks_X4_nextTo
set_option maxRecDepth 20000 in
theorem ggX4_sinks_X4_heightOf : GoodIn wsX4_sinks wsX4_heightOf := goodIn_r _ [10, 1, 11, 12, 13, 14, 15, 16, 17, 18, 19, 20, 21, 22, 23, 24, 25, 26] (by decide +kernel) (by decide +kernel)
set_option maxRecDepth 20000 in
theorem gX4_sinks_X4_heightOf : GoodIn wsX4_sinks (wsV RX4 50 RX4 yX4_heightOf wsX4_heightOf) := goodIn_app (goodIn_of _ (by decide +kernel)) ggX4_sinks_X4_heightOf
theorem dX4_sinks_0 : decode cX4_sinks 0 = .ok (.iconst (-1), 1) := by decide +kernel
theorem dX4_sinks_1 : decode cX4_sinks 1 = .ok (.istore_n 2, 1) := by decide +kernel
theorem dX4_sinks_2 : decode cX4_sinks 2 = .ok (.aload_n 0, 1) := by decide +kernel
theorem dX4_sinks_3 : decode cX4_sinks 3 = .ok (.iload_n 1, 1) := by decide +kernel
theorem dX4_sinks_4 : decode cX4_sinks 4 = .ok (.iconst (-1), 1) := by decide +kernel
theorem dX4_sinks_5 : decode cX4_sinks 5 = .ok (.iconst 1, 1) := by decide +kernel
theorem dX4_sinks_6 : decode cX4_sinks 6 = .ok (.invokevirtual 79, 3) := by decide +kernel
theorem dX4_sinks_9 : decode cX4_sinks 9 = .ok (.istore_n 3, 1) := by decide +kernel
theorem dX4_sinks_10 : decode cX4_sinks 10 = .ok (.iload_n 3, 1) := by decide +kernel
theorem dX4_sinks_11 : decode cX4_sinks 11 = .ok (.sipush (-10005), 3) := by decide +kernel
theorem dX4_sinks_14 : decode cX4_sinks 14 = .ok (.if_icmp .eq 88, 3) := by decide +kernel
theorem dX4_sinks_17 : decode cX4_sinks 17 = .ok (.aload_n 0, 1) := by decide +kernel
theorem dX4_sinks_18 : decode cX4_sinks 18 = .ok (.iload_n 3, 1) := by decide +kernel
theorem dX4_sinks_19 : decode cX4_sinks 19 = .ok (.invokevirtual 50, 3) := by decide +kernel
theorem dX4_sinks_22 : decode cX4_sinks 22 = .ok (.aload_n 0, 1) := by decide +kernel
theorem dX4_sinks_23 : decode cX4_sinks 23 = .ok (.getfield 7, 3) := by decide +kernel
theorem dX4_sinks_26 : decode cX4_sinks 26 = .ok (.iconst 1, 1) := by decide +kernel
theorem dX4_sinks_27 : decode cX4_sinks 27 = .ok (.iaload, 1) := by decide +kernel
theorem dX4_sinks_28 : decode cX4_sinks 28 = .ok (.isub, 1) := by decide +kernel
theorem dX4_sinks_29 : decode cX4_sinks 29 = .ok (.istore 4, 2) := by decide +kernel
theorem dX4_sinks_31 : decode cX4_sinks 31 = .ok (.iload_n 2, 1) := by decide +kernel
theorem dX4_sinks_32 : decode cX4_sinks 32 = .ok (.iconst 1, 1) := by decide +kernel
theorem dX4_sinks_33 : decode cX4_sinks 33 = .ok (.iadd, 1) := by decide +kernel
theorem dX4_sinks_34 : decode cX4_sinks 34 = .ok (.istore 5, 2) := by decide +kernel
theorem dX4_sinks_36 : decode cX4_sinks 36 = .ok (.aload_n 0, 1) := by decide +kernel
theorem dX4_sinks_37 : decode cX4_sinks 37 = .ok (.iload_n 3, 1) := by decide +kernel
theorem dX4_sinks_38 : decode cX4_sinks 38 = .ok (.invokevirtual 50, 3) := by decide +kernel
theorem dX4_sinks_41 : decode cX4_sinks 41 = .ok (.istore 6, 2) := by decide +kernel
theorem dX4_sinks_43 : decode cX4_sinks 43 = .ok (.aload_n 0, 1) := by decide +kernel
theorem dX4_sinks_44 : decode cX4_sinks 44 = .ok (.getfield 7, 3) := by decide +kernel
theorem dX4_sinks_47 : decode cX4_sinks 47 = .ok (.bipush 42, 2) := by decide +kernel
theorem dX4_sinks_49 : decode cX4_sinks 49 = .ok (.iload_n 3, 1) := by decide +kernel
theorem dX4_sinks_50 : decode cX4_sinks 50 = .ok (.iadd, 1) := by decide +kernel
theorem dX4_sinks_51 : decode cX4_sinks 51 = .ok (.aload_n 0, 1) := by decide +kernel
theorem dX4_sinks_52 : decode cX4_sinks 52 = .ok (.getfield 7, 3) := by decide +kernel
theorem dX4_sinks_55 : decode cX4_sinks 55 = .ok (.bipush 54, 2) := by decide +kernel
theorem dX4_sinks_57 : decode cX4_sinks 57 = .ok (.iload_n 3, 1) := by decide +kernel
theorem dX4_sinks_58 : decode cX4_sinks 58 = .ok (.iadd, 1) := by decide +kernel
theorem dX4_sinks_59 : decode cX4_sinks 59 = .ok (.iaload, 1) := by decide +kernel
theorem dX4_sinks_60 : decode cX4_sinks 60 = .ok (.iconst 1, 1) := by decide +kernel
theorem dX4_sinks_61 : decode cX4_sinks 61 = .ok (.if_icmp .ne 8, 3) := by decide +kernel
theorem dX4_sinks_64 : decode cX4_sinks 64 = .ok (.iload 6, 2) := by decide +kernel
theorem dX4_sinks_66 : decode cX4_sinks 66 = .ok (.goto 17, 3) := by decide +kernel
theorem dX4_sinks_69 : decode cX4_sinks 69 = .ok (.iload 4, 2) := by decide +kernel
theorem dX4_sinks_71 : decode cX4_sinks 71 = .ok (.iload 5, 2) := by decide +kernel
theorem dX4_sinks_73 : decode cX4_sinks 73 = .ok (.if_icmp .ge 8, 3) := by decide +kernel
theorem dX4_sinks_76 : decode cX4_sinks 76 = .ok (.iload 5, 2) := by decide +kernel
theorem dX4_sinks_78 : decode cX4_sinks 78 = .ok (.goto 5, 3) := by decide +kernel
theorem dX4_sinks_81 : decode cX4_sinks 81 = .ok (.iload 4, 2) := by decide +kernel
theorem dX4_sinks_83 : decode cX4_sinks 83 = .ok (.iastore, 1) := by decide +kernel
theorem dX4_sinks_84 : decode cX4_sinks 84 = .ok (.aload_n 0, 1) := by decide +kernel
theorem dX4_sinks_85 : decode cX4_sinks 85 = .ok (.iload_n 3, 1) := by decide +kernel
theorem dX4_sinks_86 : decode cX4_sinks 86 = .ok (.invokevirtual 50, 3) := by decide +kernel
theorem dX4_sinks_89 : decode cX4_sinks 89 = .ok (.istore_n 2, 1) := by decide +kernel
theorem dX4_sinks_90 : decode cX4_sinks 90 = .ok (.aload_n 0, 1) := by decide +kernel
theorem dX4_sinks_91 : decode cX4_sinks 91 = .ok (.iload_n 1, 1) := by decide +kernel
theorem dX4_sinks_92 : decode cX4_sinks 92 = .ok (.iload 6, 2) := by decide +kernel
theorem dX4_sinks_94 : decode cX4_sinks 94 = .ok (.iconst 1, 1) := by decide +kernel
theorem dX4_sinks_95 : decode cX4_sinks 95 = .ok (.invokevirtual 79, 3) := by decide +kernel
theorem dX4_sinks_98 : decode cX4_sinks 98 = .ok (.istore_n 3, 1) := by decide +kernel
theorem dX4_sinks_99 : decode cX4_sinks 99 = .ok (.goto (-89), 3) := by decide +kernel
theorem dX4_sinks_102 : decode cX4_sinks 102 = .ok (.return_, 1) := by decide +kernel
set_option maxRecDepth 20000 in
theorem ggX4_beats_X4_sinks : GoodIn wsX4_beats wsX4_sinks := goodIn_r _ [6, 1, 7, 8, 9, 5, 10, 11, 12, 13, 14, 15, 16, 17, 18, 19, 20, 21, 22, 23, 24, 25, 26, 27, 28, 29, 30] (by decide +kernel) (by decide +kernel)
set_option maxRecDepth 20000 in
theorem gX4_beats_X4_sinks : GoodIn wsX4_beats (wsV RX4 83 RX4 yX4_sinks wsX4_sinks) := goodIn_app (goodIn_of _ (by decide +kernel)) ggX4_beats_X4_sinks
theorem dX4_beats_0 : decode cX4_beats 0 = .ok (.iconst 0, 1) := by decide +kernel
theorem dX4_beats_1 : decode cX4_beats 1 = .ok (.istore_n 2, 1) := by decide +kernel
theorem dX4_beats_2 : decode cX4_beats 2 = .ok (.iload_n 2, 1) := by decide +kernel
theorem dX4_beats_3 : decode cX4_beats 3 = .ok (.iload_n 1, 1) := by decide +kernel
theorem dX4_beats_4 : decode cX4_beats 4 = .ok (.if_icmp .ge 78, 3) := by decide +kernel
theorem dX4_beats_7 : decode cX4_beats 7 = .ok (.iconst 0, 1) := by decide +kernel
theorem dX4_beats_8 : decode cX4_beats 8 = .ok (.istore_n 3, 1) := by decide +kernel
theorem dX4_beats_9 : decode cX4_beats 9 = .ok (.iload_n 3, 1) := by decide +kernel
theorem dX4_beats_10 : decode cX4_beats 10 = .ok (.iconst 4, 1) := by decide +kernel
theorem dX4_beats_11 : decode cX4_beats 11 = .ok (.if_icmp .ge 14, 3) := by decide +kernel
theorem dX4_beats_14 : decode cX4_beats 14 = .ok (.aload_n 0, 1) := by decide +kernel
theorem dX4_beats_15 : decode cX4_beats 15 = .ok (.iload_n 3, 1) := by decide +kernel
theorem dX4_beats_16 : decode cX4_beats 16 = .ok (.invokevirtual 83, 3) := by decide +kernel
theorem dX4_beats_19 : decode cX4_beats 19 = .ok (.iinc 3 1, 3) := by decide +kernel
theorem dX4_beats_22 : decode cX4_beats 22 = .ok (.goto (-13), 3) := by decide +kernel
theorem dX4_beats_25 : decode cX4_beats 25 = .ok (.iconst 0, 1) := by decide +kernel
theorem dX4_beats_26 : decode cX4_beats 26 = .ok (.istore_n 3, 1) := by decide +kernel
theorem dX4_beats_27 : decode cX4_beats 27 = .ok (.iload_n 3, 1) := by decide +kernel
theorem dX4_beats_28 : decode cX4_beats 28 = .ok (.bipush 12, 2) := by decide +kernel
theorem dX4_beats_30 : decode cX4_beats 30 = .ok (.if_icmp .ge 19, 3) := by decide +kernel
theorem dX4_beats_33 : decode cX4_beats 33 = .ok (.aload_n 0, 1) := by decide +kernel
theorem dX4_beats_34 : decode cX4_beats 34 = .ok (.getfield 7, 3) := by decide +kernel
theorem dX4_beats_37 : decode cX4_beats 37 = .ok (.bipush 54, 2) := by decide +kernel
theorem dX4_beats_39 : decode cX4_beats 39 = .ok (.iload_n 3, 1) := by decide +kernel
theorem dX4_beats_40 : decode cX4_beats 40 = .ok (.iadd, 1) := by decide +kernel
theorem dX4_beats_41 : decode cX4_beats 41 = .ok (.iconst 0, 1) := by decide +kernel
theorem dX4_beats_42 : decode cX4_beats 42 = .ok (.iastore, 1) := by decide +kernel
theorem dX4_beats_43 : decode cX4_beats 43 = .ok (.iinc 3 1, 3) := by decide +kernel
theorem dX4_beats_46 : decode cX4_beats 46 = .ok (.goto (-19), 3) := by decide +kernel
theorem dX4_beats_49 : decode cX4_beats 49 = .ok (.aload_n 0, 1) := by decide +kernel
theorem dX4_beats_50 : decode cX4_beats 50 = .ok (.getfield 7, 3) := by decide +kernel
theorem dX4_beats_53 : decode cX4_beats 53 = .ok (.iconst 2, 1) := by decide +kernel
theorem dX4_beats_54 : decode cX4_beats 54 = .ok (.aload_n 0, 1) := by decide +kernel
theorem dX4_beats_55 : decode cX4_beats 55 = .ok (.getfield 7, 3) := by decide +kernel
theorem dX4_beats_58 : decode cX4_beats 58 = .ok (.iconst 2, 1) := by decide +kernel
theorem dX4_beats_59 : decode cX4_beats 59 = .ok (.iaload, 1) := by decide +kernel
theorem dX4_beats_60 : decode cX4_beats 60 = .ok (.iconst 1, 1) := by decide +kernel
theorem dX4_beats_61 : decode cX4_beats 61 = .ok (.iadd, 1) := by decide +kernel
theorem dX4_beats_62 : decode cX4_beats 62 = .ok (.bipush 8, 2) := by decide +kernel
theorem dX4_beats_64 : decode cX4_beats 64 = .ok (.irem, 1) := by decide +kernel
theorem dX4_beats_65 : decode cX4_beats 65 = .ok (.iastore, 1) := by decide +kernel
theorem dX4_beats_66 : decode cX4_beats 66 = .ok (.aload_n 0, 1) := by decide +kernel
theorem dX4_beats_67 : decode cX4_beats 67 = .ok (.getfield 7, 3) := by decide +kernel
theorem dX4_beats_70 : decode cX4_beats 70 = .ok (.iconst 5, 1) := by decide +kernel
theorem dX4_beats_71 : decode cX4_beats 71 = .ok (.dup2, 1) := by decide +kernel
theorem dX4_beats_72 : decode cX4_beats 72 = .ok (.iaload, 1) := by decide +kernel
theorem dX4_beats_73 : decode cX4_beats 73 = .ok (.iconst 1, 1) := by decide +kernel
theorem dX4_beats_74 : decode cX4_beats 74 = .ok (.iadd, 1) := by decide +kernel
theorem dX4_beats_75 : decode cX4_beats 75 = .ok (.iastore, 1) := by decide +kernel
theorem dX4_beats_76 : decode cX4_beats 76 = .ok (.iinc 2 1, 3) := by decide +kernel
theorem dX4_beats_79 : decode cX4_beats 79 = .ok (.goto (-77), 3) := by decide +kernel
theorem dX4_beats_82 : decode cX4_beats 82 = .ok (.return_, 1) := by decide +kernel
set_option maxRecDepth 20000 in
theorem ggX4_isNumber_X4_in : GoodIn wsX4_isNumber wsX4_in := goodIn_r _ [6] (by decide +kernel) (by decide +kernel)
set_option maxRecDepth 20000 in
theorem gX4_isNumber_X4_in : GoodIn wsX4_isNumber (va_wsS RX4 44 yX4_in wsX4_in) := goodIn_app (goodIn_of _ (by decide +kernel)) ggX4_isNumber_X4_in
theorem dX4_isNumber_0 : decode cX4_isNumber 0 = .ok (.iload_n 0, 1) := by decide +kernel
theorem dX4_isNumber_1 : decode cX4_isNumber 1 = .ok (.i2l, 1) := by decide +kernel
theorem dX4_isNumber_2 : decode cX4_isNumber 2 = .ok (.ldc2_w 87, 3) := by decide +kernel
theorem dX4_isNumber_5 : decode cX4_isNumber 5 = .ok (.ldc2_w 89, 3) := by decide +kernel
theorem dX4_isNumber_8 : decode cX4_isNumber 8 = .ok (.invokestatic 44, 3) := by decide +kernel
theorem dX4_isNumber_11 : decode cX4_isNumber 11 = .ok (.ireturn, 1) := by decide +kernel
set_option maxRecDepth 20000 in
theorem ggX4_fly_X4_isString : GoodIn wsX4_fly wsX4_isString := goodIn_r _ [4, 5, 6, 7, 3, 8] (by decide +kernel) (by decide +kernel)
set_option maxRecDepth 20000 in
theorem gX4_fly_X4_isString : GoodIn wsX4_fly (va_wsS RX4 91 yX4_isString wsX4_isString) := goodIn_app (goodIn_of _ (by decide +kernel)) ggX4_fly_X4_isString
set_option maxRecDepth 20000 in
theorem ggX4_fly_X4_isNumber : GoodIn wsX4_fly wsX4_isNumber := goodIn_r _ [11, 12, 13, 6, 7, 3, 8] (by decide +kernel) (by decide +kernel)
set_option maxRecDepth 20000 in
theorem gX4_fly_X4_isNumber : GoodIn wsX4_fly (va_wsS RX4 95 yX4_isNumber wsX4_isNumber) := goodIn_app (goodIn_of _ (by decide +kernel)) ggX4_fly_X4_isNumber
set_option maxRecDepth 20000 in
theorem ggX4_fly_X4_remember : GoodIn wsX4_fly wsX4_remember := goodIn_r _ [17, 18, 19, 20, 21, 3, 22, 49, 50, 51, 52, 53, 54, 55, 56, 57, 58, 59, 60, 61, 62, 63, 64] (by decide +kernel) (by decide +kernel)
set_option maxRecDepth 20000 in
theorem gX4_fly_X4_remember : GoodIn wsX4_fly (wsV RX4 98 RX4 yX4_remember wsX4_remember) := goodIn_app (goodIn_of _ (by decide +kernel)) ggX4_fly_X4_remember
set_option maxRecDepth 20000 in
theorem ggX4_fly_X4_doFly : GoodIn wsX4_fly wsX4_doFly := goodIn_r _ [26, 18, 27, 28, 29, 3, 30, 31, 32, 33, 34, 35, 36, 37, 38, 39, 40, 41, 42, 49, 50, 51, 52, 53, 54, 55, 56, 57, 58, 59, 60, 61, 62, 63, 64] (by decide +kernel) (by decide +kernel)
set_option maxRecDepth 20000 in
theorem gX4_fly_X4_doFly : GoodIn wsX4_fly (wsV RX4 101 RX4 yX4_doFly wsX4_doFly) := goodIn_app (goodIn_of _ (by decide +kernel)) ggX4_fly_X4_doFly
set_option maxRecDepth 20000 in
theorem ggX4_fly_X4_acted : GoodIn wsX4_fly wsX4_acted := goodIn_r _ [46, 47, 48, 19, 49, 50, 51, 52, 53, 54, 55, 56, 57, 58, 59, 60, 61, 62, 63, 64] (by decide +kernel) (by decide +kernel)
set_option maxRecDepth 20000 in
theorem gX4_fly_X4_acted : GoodIn wsX4_fly (wsV RX4 104 RX4 yX4_acted wsX4_acted) := goodIn_app (goodIn_of _ (by decide +kernel)) ggX4_fly_X4_acted
theorem dX4_fly_0 : decode cX4_fly 0 = .ok (.iload_n 1, 1) := by decide +kernel
theorem dX4_fly_1 : decode cX4_fly 1 = .ok (.invokestatic 91, 3) := by decide +kernel
theorem dX4_fly_4 : decode cX4_fly 4 = .ok (.ifCond .ne 7, 3) := by decide +kernel
theorem dX4_fly_7 : decode cX4_fly 7 = .ok (.sipush (-10001), 3) := by decide +kernel
theorem dX4_fly_10 : decode cX4_fly 10 = .ok (.ireturn, 1) := by decide +kernel
theorem dX4_fly_11 : decode cX4_fly 11 = .ok (.iload_n 2, 1) := by decide +kernel
theorem dX4_fly_12 : decode cX4_fly 12 = .ok (.invokestatic 95, 3) := by decide +kernel
theorem dX4_fly_15 : decode cX4_fly 15 = .ok (.ifCond .ne 7, 3) := by decide +kernel
theorem dX4_fly_18 : decode cX4_fly 18 = .ok (.sipush (-10002), 3) := by decide +kernel
theorem dX4_fly_21 : decode cX4_fly 21 = .ok (.ireturn, 1) := by decide +kernel
theorem dX4_fly_22 : decode cX4_fly 22 = .ok (.aload_n 0, 1) := by decide +kernel
theorem dX4_fly_23 : decode cX4_fly 23 = .ok (.invokevirtual 98, 3) := by decide +kernel
theorem dX4_fly_26 : decode cX4_fly 26 = .ok (.aload_n 0, 1) := by decide +kernel
theorem dX4_fly_27 : decode cX4_fly 27 = .ok (.iload_n 1, 1) := by decide +kernel
theorem dX4_fly_28 : decode cX4_fly 28 = .ok (.iload_n 2, 1) := by decide +kernel
theorem dX4_fly_29 : decode cX4_fly 29 = .ok (.invokevirtual 101, 3) := by decide +kernel
theorem dX4_fly_32 : decode cX4_fly 32 = .ok (.istore_n 3, 1) := by decide +kernel
theorem dX4_fly_33 : decode cX4_fly 33 = .ok (.iload_n 3, 1) := by decide +kernel
theorem dX4_fly_34 : decode cX4_fly 34 = .ok (.sipush (-10003), 3) := by decide +kernel
theorem dX4_fly_37 : decode cX4_fly 37 = .ok (.if_icmp .ne 9, 3) := by decide +kernel
theorem dX4_fly_40 : decode cX4_fly 40 = .ok (.sipush (-10003), 3) := by decide +kernel
theorem dX4_fly_43 : decode cX4_fly 43 = .ok (.goto 8, 3) := by decide +kernel
theorem dX4_fly_46 : decode cX4_fly 46 = .ok (.aload_n 0, 1) := by decide +kernel
theorem dX4_fly_47 : decode cX4_fly 47 = .ok (.iload_n 3, 1) := by decide +kernel
theorem dX4_fly_48 : decode cX4_fly 48 = .ok (.invokevirtual 104, 3) := by decide +kernel
theorem dX4_fly_51 : decode cX4_fly 51 = .ok (.ireturn, 1) := by decide +kernel
set_option maxRecDepth 20000 in
theorem ggX4_takeDown_X4_isKite : GoodIn wsX4_takeDown wsX4_isKite := goodIn_r _ [6, 7, 1, 8, 9, 5, 10, 25, 26, 27, 28, 29, 30, 31, 32, 33, 34, 35, 36, 37, 38, 39, 40] (by decide +kernel) (by decide +kernel)
set_option maxRecDepth 20000 in
theorem gX4_takeDown_X4_isKite : GoodIn wsX4_takeDown (wsV RX4 107 RX4 yX4_isKite wsX4_isKite) := goodIn_app (goodIn_of _ (by decide +kernel)) ggX4_takeDown_X4_isKite
set_option maxRecDepth 20000 in
theorem ggX4_takeDown_X4_remember : GoodIn wsX4_takeDown wsX4_remember := goodIn_r _ [14, 1, 15, 16, 17, 5, 18, 25, 26, 27, 28, 29, 30, 31, 32, 33, 34, 35, 36, 37, 38, 39, 40] (by decide +kernel) (by decide +kernel)
set_option maxRecDepth 20000 in
theorem gX4_takeDown_X4_remember : GoodIn wsX4_takeDown (wsV RX4 98 RX4 yX4_remember wsX4_remember) := goodIn_app (goodIn_of _ (by decide +kernel)) ggX4_takeDown_X4_remember
set_option maxRecDepth 20000 in
theorem ggX4_takeDown_X4_acted : GoodIn wsX4_takeDown wsX4_acted := goodIn_r _ [22, 23, 24, 15, 25, 26, 27, 28, 29, 30, 31, 32, 33, 34, 35, 36, 37, 38, 39, 40] (by decide +kernel) (by decide +kernel)
set_option maxRecDepth 20000 in
theorem gX4_takeDown_X4_acted : GoodIn wsX4_takeDown (wsV RX4 104 RX4 yX4_acted wsX4_acted) := goodIn_app (goodIn_of _ (by decide +kernel)) ggX4_takeDown_X4_acted
theorem dX4_takeDown_0 : decode cX4_takeDown 0 = .ok (.aload_n 0, 1) := by decide +kernel
theorem dX4_takeDown_1 : decode cX4_takeDown 1 = .ok (.iload_n 1, 1) := by decide +kernel
theorem dX4_takeDown_2 : decode cX4_takeDown 2 = .ok (.invokevirtual 107, 3) := by decide +kernel
theorem dX4_takeDown_5 : decode cX4_takeDown 5 = .ok (.ifCond .ne 7, 3) := by decide +kernel
theorem dX4_takeDown_8 : decode cX4_takeDown 8 = .ok (.sipush (-10001), 3) := by decide +kernel
theorem dX4_takeDown_11 : decode cX4_takeDown 11 = .ok (.ireturn, 1) := by decide +kernel
theorem dX4_takeDown_12 : decode cX4_takeDown 12 = .ok (.aload_n 0, 1) := by decide +kernel
theorem dX4_takeDown_13 : decode cX4_takeDown 13 = .ok (.invokevirtual 98, 3) := by decide +kernel
theorem dX4_takeDown_16 : decode cX4_takeDown 16 = .ok (.aload_n 0, 1) := by decide +kernel
theorem dX4_takeDown_17 : decode cX4_takeDown 17 = .ok (.getfield 7, 3) := by decide +kernel
theorem dX4_takeDown_20 : decode cX4_takeDown 20 = .ok (.bipush 18, 2) := by decide +kernel
theorem dX4_takeDown_22 : decode cX4_takeDown 22 = .ok (.iload_n 1, 1) := by decide +kernel
theorem dX4_takeDown_23 : decode cX4_takeDown 23 = .ok (.iadd, 1) := by decide +kernel
theorem dX4_takeDown_24 : decode cX4_takeDown 24 = .ok (.sipush (-10005), 3) := by decide +kernel
theorem dX4_takeDown_27 : decode cX4_takeDown 27 = .ok (.iastore, 1) := by decide +kernel
theorem dX4_takeDown_28 : decode cX4_takeDown 28 = .ok (.aload_n 0, 1) := by decide +kernel
theorem dX4_takeDown_29 : decode cX4_takeDown 29 = .ok (.getfield 7, 3) := by decide +kernel
theorem dX4_takeDown_32 : decode cX4_takeDown 32 = .ok (.bipush 54, 2) := by decide +kernel
theorem dX4_takeDown_34 : decode cX4_takeDown 34 = .ok (.iload_n 1, 1) := by decide +kernel
theorem dX4_takeDown_35 : decode cX4_takeDown 35 = .ok (.iadd, 1) := by decide +kernel
theorem dX4_takeDown_36 : decode cX4_takeDown 36 = .ok (.iconst 0, 1) := by decide +kernel
theorem dX4_takeDown_37 : decode cX4_takeDown 37 = .ok (.iastore, 1) := by decide +kernel
theorem dX4_takeDown_38 : decode cX4_takeDown 38 = .ok (.aload_n 0, 1) := by decide +kernel
theorem dX4_takeDown_39 : decode cX4_takeDown 39 = .ok (.aload_n 0, 1) := by decide +kernel
theorem dX4_takeDown_40 : decode cX4_takeDown 40 = .ok (.getfield 7, 3) := by decide +kernel
theorem dX4_takeDown_43 : decode cX4_takeDown 43 = .ok (.bipush 30, 2) := by decide +kernel
theorem dX4_takeDown_45 : decode cX4_takeDown 45 = .ok (.iload_n 1, 1) := by decide +kernel
theorem dX4_takeDown_46 : decode cX4_takeDown 46 = .ok (.iadd, 1) := by decide +kernel
theorem dX4_takeDown_47 : decode cX4_takeDown 47 = .ok (.iaload, 1) := by decide +kernel
theorem dX4_takeDown_48 : decode cX4_takeDown 48 = .ok (.invokevirtual 104, 3) := by decide +kernel
theorem dX4_takeDown_51 : decode cX4_takeDown 51 = .ok (.ireturn, 1) := by decide +kernel
set_option maxRecDepth 20000 in
theorem ggX4_read_X4_isKite : GoodIn wsX4_read wsX4_isKite := goodIn_r _ [5, 6, 7, 8, 9, 4, 10, 53, 54, 55, 56, 57, 58, 59, 60, 61, 62, 63, 64, 65, 66, 67, 68] (by decide +kernel) (by decide +kernel)
set_option maxRecDepth 20000 in
theorem gX4_read_X4_isKite : GoodIn wsX4_read (wsV RX4 107 RX4 yX4_isKite wsX4_isKite) := goodIn_app (goodIn_of _ (by decide +kernel)) ggX4_read_X4_isKite
set_option maxRecDepth 20000 in
theorem ggX4_read_X4_remember : GoodIn wsX4_read wsX4_remember := goodIn_r _ [14, 7, 15, 16, 17, 4, 18, 53, 54, 55, 56, 57, 58, 59, 60, 61, 62, 63, 64, 65, 66, 67, 68] (by decide +kernel) (by decide +kernel)
set_option maxRecDepth 20000 in
theorem gX4_read_X4_remember : GoodIn wsX4_read (wsV RX4 98 RX4 yX4_remember wsX4_remember) := goodIn_app (goodIn_of _ (by decide +kernel)) ggX4_read_X4_remember
set_option maxRecDepth 20000 in
theorem ggX4_read_X4_doRead : GoodIn wsX4_read wsX4_doRead := goodIn_r _ [22, 7, 23, 24, 25, 4, 26, 27, 28, 29, 30, 31, 32, 33, 34, 35, 36, 37, 38, 39, 40, 41, 42, 43, 44, 45, 46, 53, 54, 55, 56, 57, 58, 59, 60, 61, 62, 63, 64, 65, 66, 67, 68] (by decide +kernel) (by decide +kernel)
set_option maxRecDepth 20000 in
theorem gX4_read_X4_doRead : GoodIn wsX4_read (wsV RX4 110 RX4 yX4_doRead wsX4_doRead) := goodIn_app (goodIn_of _ (by decide +kernel)) ggX4_read_X4_doRead
set_option maxRecDepth 20000 in
theorem ggX4_read_X4_acted : GoodIn wsX4_read wsX4_acted := goodIn_r _ [50, 51, 52, 15, 53, 54, 55, 56, 57, 58, 59, 60, 61, 62, 63, 64, 65, 66, 67, 68] (by decide +kernel) (by decide +kernel)
set_option maxRecDepth 20000 in
theorem gX4_read_X4_acted : GoodIn wsX4_read (wsV RX4 104 RX4 yX4_acted wsX4_acted) := goodIn_app (goodIn_of _ (by decide +kernel)) ggX4_read_X4_acted
theorem dX4_read_0 : decode cX4_read 0 = .ok (.aload_n 0, 1) := by decide +kernel
theorem dX4_read_1 : decode cX4_read 1 = .ok (.iload_n 1, 1) := by decide +kernel
theorem dX4_read_2 : decode cX4_read 2 = .ok (.invokevirtual 107, 3) := by decide +kernel
theorem dX4_read_5 : decode cX4_read 5 = .ok (.ifCond .ne 7, 3) := by decide +kernel
theorem dX4_read_8 : decode cX4_read 8 = .ok (.sipush (-10001), 3) := by decide +kernel
theorem dX4_read_11 : decode cX4_read 11 = .ok (.ireturn, 1) := by decide +kernel
theorem dX4_read_12 : decode cX4_read 12 = .ok (.aload_n 0, 1) := by decide +kernel
theorem dX4_read_13 : decode cX4_read 13 = .ok (.invokevirtual 98, 3) := by decide +kernel
theorem dX4_read_16 : decode cX4_read 16 = .ok (.aload_n 0, 1) := by decide +kernel
theorem dX4_read_17 : decode cX4_read 17 = .ok (.aload_n 0, 1) := by decide +kernel
theorem dX4_read_18 : decode cX4_read 18 = .ok (.iload_n 1, 1) := by decide +kernel
theorem dX4_read_19 : decode cX4_read 19 = .ok (.invokevirtual 110, 3) := by decide +kernel
theorem dX4_read_22 : decode cX4_read 22 = .ok (.invokevirtual 104, 3) := by decide +kernel
theorem dX4_read_25 : decode cX4_read 25 = .ok (.ireturn, 1) := by decide +kernel
set_option maxRecDepth 20000 in
theorem ggX4_write_X4_isKite : GoodIn wsX4_write wsX4_isKite := goodIn_r _ [5, 6, 7, 8, 9, 4, 10, 34, 35, 36, 37, 38, 39, 40, 41, 42, 43, 44, 45, 46, 47, 48, 49] (by decide +kernel) (by decide +kernel)
set_option maxRecDepth 20000 in
theorem gX4_write_X4_isKite : GoodIn wsX4_write (wsV RX4 107 RX4 yX4_isKite wsX4_isKite) := goodIn_app (goodIn_of _ (by decide +kernel)) ggX4_write_X4_isKite
set_option maxRecDepth 20000 in
theorem ggX4_write_X4_isNumber : GoodIn wsX4_write wsX4_isNumber := goodIn_r _ [13, 14, 15, 8, 9, 4, 10] (by decide +kernel) (by decide +kernel)
set_option maxRecDepth 20000 in
theorem gX4_write_X4_isNumber : GoodIn wsX4_write (va_wsS RX4 95 yX4_isNumber wsX4_isNumber) := goodIn_app (goodIn_of _ (by decide +kernel)) ggX4_write_X4_isNumber
set_option maxRecDepth 20000 in
theorem ggX4_write_X4_remember : GoodIn wsX4_write wsX4_remember := goodIn_r _ [19, 7, 20, 21, 22, 4, 23, 34, 35, 36, 37, 38, 39, 40, 41, 42, 43, 44, 45, 46, 47, 48, 49] (by decide +kernel) (by decide +kernel)
set_option maxRecDepth 20000 in
theorem gX4_write_X4_remember : GoodIn wsX4_write (wsV RX4 98 RX4 yX4_remember wsX4_remember) := goodIn_app (goodIn_of _ (by decide +kernel)) ggX4_write_X4_remember
set_option maxRecDepth 20000 in
theorem ggX4_write_X4_doWrite : GoodIn wsX4_write wsX4_doWrite := goodIn_r _ [27, 7, 34, 35, 36, 37, 38, 39, 40, 41, 42, 43, 44, 45, 46, 47, 48, 49] (by decide +kernel) (by decide +kernel)
set_option maxRecDepth 20000 in
theorem gX4_write_X4_doWrite : GoodIn wsX4_write (wsV RX4 113 RX4 yX4_doWrite wsX4_doWrite) := goodIn_app (goodIn_of _ (by decide +kernel)) ggX4_write_X4_doWrite
set_option maxRecDepth 20000 in
theorem ggX4_write_X4_acted : GoodIn wsX4_write wsX4_acted := goodIn_r _ [31, 32, 33, 20, 34, 35, 36, 37, 38, 39, 40, 41, 42, 43, 44, 45, 46, 47, 48, 49] (by decide +kernel) (by decide +kernel)
set_option maxRecDepth 20000 in
theorem gX4_write_X4_acted : GoodIn wsX4_write (wsV RX4 104 RX4 yX4_acted wsX4_acted) := goodIn_app (goodIn_of _ (by decide +kernel)) ggX4_write_X4_acted
theorem dX4_write_0 : decode cX4_write 0 = .ok (.aload_n 0, 1) := by decide +kernel
theorem dX4_write_1 : decode cX4_write 1 = .ok (.iload_n 1, 1) := by decide +kernel
theorem dX4_write_2 : decode cX4_write 2 = .ok (.invokevirtual 107, 3) := by decide +kernel
theorem dX4_write_5 : decode cX4_write 5 = .ok (.ifCond .ne 7, 3) := by decide +kernel
theorem dX4_write_8 : decode cX4_write 8 = .ok (.sipush (-10001), 3) := by decide +kernel
theorem dX4_write_11 : decode cX4_write 11 = .ok (.ireturn, 1) := by decide +kernel
theorem dX4_write_12 : decode cX4_write 12 = .ok (.iload_n 2, 1) := by decide +kernel
theorem dX4_write_13 : decode cX4_write 13 = .ok (.invokestatic 95, 3) := by decide +kernel
theorem dX4_write_16 : decode cX4_write 16 = .ok (.ifCond .ne 7, 3) := by decide +kernel
theorem dX4_write_19 : decode cX4_write 19 = .ok (.sipush (-10002), 3) := by decide +kernel
theorem dX4_write_22 : decode cX4_write 22 = .ok (.ireturn, 1) := by decide +kernel
theorem dX4_write_23 : decode cX4_write 23 = .ok (.aload_n 0, 1) := by decide +kernel
theorem dX4_write_24 : decode cX4_write 24 = .ok (.invokevirtual 98, 3) := by decide +kernel
theorem dX4_write_27 : decode cX4_write 27 = .ok (.aload_n 0, 1) := by decide +kernel
theorem dX4_write_28 : decode cX4_write 28 = .ok (.aload_n 0, 1) := by decide +kernel
theorem dX4_write_29 : decode cX4_write 29 = .ok (.iload_n 1, 1) := by decide +kernel
theorem dX4_write_30 : decode cX4_write 30 = .ok (.iload_n 2, 1) := by decide +kernel
theorem dX4_write_31 : decode cX4_write 31 = .ok (.invokevirtual 113, 3) := by decide +kernel
theorem dX4_write_34 : decode cX4_write 34 = .ok (.invokevirtual 104, 3) := by decide +kernel
theorem dX4_write_37 : decode cX4_write 37 = .ok (.ireturn, 1) := by decide +kernel
set_option maxRecDepth 20000 in
theorem ggX4_move_X4_isKite : GoodIn wsX4_move wsX4_isKite := goodIn_r _ [6, 7, 1, 8, 9, 5, 10, 45, 46, 47, 48, 49, 50, 51, 52, 53, 54, 55, 56, 57, 58, 59, 60] (by decide +kernel) (by decide +kernel)
set_option maxRecDepth 20000 in
theorem gX4_move_X4_isKite : GoodIn wsX4_move (wsV RX4 107 RX4 yX4_isKite wsX4_isKite) := goodIn_app (goodIn_of _ (by decide +kernel)) ggX4_move_X4_isKite
set_option maxRecDepth 20000 in
theorem ggX4_move_X4_isString : GoodIn wsX4_move wsX4_isString := goodIn_r _ [13, 14, 8, 9, 5, 10] (by decide +kernel) (by decide +kernel)
set_option maxRecDepth 20000 in
theorem gX4_move_X4_isString : GoodIn wsX4_move (va_wsS RX4 91 yX4_isString wsX4_isString) := goodIn_app (goodIn_of _ (by decide +kernel)) ggX4_move_X4_isString
set_option maxRecDepth 20000 in
theorem ggX4_move_X4_remember : GoodIn wsX4_move wsX4_remember := goodIn_r _ [18, 1, 19, 20, 21, 5, 22, 45, 46, 47, 48, 49, 50, 51, 52, 53, 54, 55, 56, 57, 58, 59, 60] (by decide +kernel) (by decide +kernel)
set_option maxRecDepth 20000 in
theorem gX4_move_X4_remember : GoodIn wsX4_move (wsV RX4 98 RX4 yX4_remember wsX4_remember) := goodIn_app (goodIn_of _ (by decide +kernel)) ggX4_move_X4_remember
set_option maxRecDepth 20000 in
theorem ggX4_move_X4_heightOf : GoodIn wsX4_move wsX4_heightOf := goodIn_r _ [26, 1, 45, 46, 47, 48, 49, 50, 51, 52, 53, 54, 55, 56, 57, 58, 59, 60] (by decide +kernel) (by decide +kernel)
set_option maxRecDepth 20000 in
theorem gX4_move_X4_heightOf : GoodIn wsX4_move (wsV RX4 50 RX4 yX4_heightOf wsX4_heightOf) := goodIn_app (goodIn_of _ (by decide +kernel)) ggX4_move_X4_heightOf
set_option maxRecDepth 20000 in
theorem ggX4_move_X4_lands : GoodIn wsX4_move wsX4_lands := goodIn_r _ [30, 1, 31, 32, 33, 5, 34, 35, 36, 37, 38, 23, 24, 25, 26, 45, 46, 47, 48, 49, 50, 51, 52, 53, 54, 55, 56, 57, 58, 59, 60] (by decide +kernel) (by decide +kernel)
set_option maxRecDepth 20000 in
theorem gX4_move_X4_lands : GoodIn wsX4_move (wsV RX4 67 RX4 yX4_lands wsX4_lands) := goodIn_app (goodIn_of _ (by decide +kernel)) ggX4_move_X4_lands
set_option maxRecDepth 20000 in
theorem ggX4_move_X4_acted : GoodIn wsX4_move wsX4_acted := goodIn_r _ [42, 43, 44, 19, 45, 46, 47, 48, 49, 50, 51, 52, 53, 54, 55, 56, 57, 58, 59, 60] (by decide +kernel) (by decide +kernel)
set_option maxRecDepth 20000 in
theorem gX4_move_X4_acted : GoodIn wsX4_move (wsV RX4 104 RX4 yX4_acted wsX4_acted) := goodIn_app (goodIn_of _ (by decide +kernel)) ggX4_move_X4_acted
theorem dX4_move_0 : decode cX4_move 0 = .ok (.aload_n 0, 1) := by decide +kernel
theorem dX4_move_1 : decode cX4_move 1 = .ok (.iload_n 1, 1) := by decide +kernel
theorem dX4_move_2 : decode cX4_move 2 = .ok (.invokevirtual 107, 3) := by decide +kernel
theorem dX4_move_5 : decode cX4_move 5 = .ok (.ifCond .eq 10, 3) := by decide +kernel
theorem dX4_move_8 : decode cX4_move 8 = .ok (.iload_n 2, 1) := by decide +kernel
theorem dX4_move_9 : decode cX4_move 9 = .ok (.invokestatic 91, 3) := by decide +kernel
theorem dX4_move_12 : decode cX4_move 12 = .ok (.ifCond .ne 7, 3) := by decide +kernel
theorem dX4_move_15 : decode cX4_move 15 = .ok (.sipush (-10001), 3) := by decide +kernel
theorem dX4_move_18 : decode cX4_move 18 = .ok (.ireturn, 1) := by decide +kernel
theorem dX4_move_19 : decode cX4_move 19 = .ok (.aload_n 0, 1) := by decide +kernel
theorem dX4_move_20 : decode cX4_move 20 = .ok (.getfield 7, 3) := by decide +kernel
theorem dX4_move_23 : decode cX4_move 23 = .ok (.bipush 18, 2) := by decide +kernel
theorem dX4_move_25 : decode cX4_move 25 = .ok (.iload_n 1, 1) := by decide +kernel
theorem dX4_move_26 : decode cX4_move 26 = .ok (.iadd, 1) := by decide +kernel
theorem dX4_move_27 : decode cX4_move 27 = .ok (.iaload, 1) := by decide +kernel
theorem dX4_move_28 : decode cX4_move 28 = .ok (.iload_n 2, 1) := by decide +kernel
theorem dX4_move_29 : decode cX4_move 29 = .ok (.if_icmp .ne 7, 3) := by decide +kernel
theorem dX4_move_32 : decode cX4_move 32 = .ok (.sipush (-10005), 3) := by decide +kernel
theorem dX4_move_35 : decode cX4_move 35 = .ok (.ireturn, 1) := by decide +kernel
theorem dX4_move_36 : decode cX4_move 36 = .ok (.aload_n 0, 1) := by decide +kernel
theorem dX4_move_37 : decode cX4_move 37 = .ok (.invokevirtual 98, 3) := by decide +kernel
theorem dX4_move_40 : decode cX4_move 40 = .ok (.aload_n 0, 1) := by decide +kernel
theorem dX4_move_41 : decode cX4_move 41 = .ok (.iload_n 1, 1) := by decide +kernel
theorem dX4_move_42 : decode cX4_move 42 = .ok (.iload_n 2, 1) := by decide +kernel
theorem dX4_move_43 : decode cX4_move 43 = .ok (.aload_n 0, 1) := by decide +kernel
theorem dX4_move_44 : decode cX4_move 44 = .ok (.iload_n 1, 1) := by decide +kernel
theorem dX4_move_45 : decode cX4_move 45 = .ok (.invokevirtual 50, 3) := by decide +kernel
theorem dX4_move_48 : decode cX4_move 48 = .ok (.invokevirtual 67, 3) := by decide +kernel
theorem dX4_move_51 : decode cX4_move 51 = .ok (.aload_n 0, 1) := by decide +kernel
theorem dX4_move_52 : decode cX4_move 52 = .ok (.aload_n 0, 1) := by decide +kernel
theorem dX4_move_53 : decode cX4_move 53 = .ok (.iload_n 1, 1) := by decide +kernel
theorem dX4_move_54 : decode cX4_move 54 = .ok (.invokevirtual 50, 3) := by decide +kernel
theorem dX4_move_57 : decode cX4_move 57 = .ok (.invokevirtual 104, 3) := by decide +kernel
theorem dX4_move_60 : decode cX4_move 60 = .ok (.ireturn, 1) := by decide +kernel
set_option maxRecDepth 20000 in
theorem ggX4_beat_X4_in : GoodIn wsX4_beat wsX4_in := goodIn_r _ [6] (by decide +kernel) (by decide +kernel)
set_option maxRecDepth 20000 in
theorem gX4_beat_X4_in : GoodIn wsX4_beat (va_wsS RX4 44 yX4_in wsX4_in) := goodIn_app (goodIn_of _ (by decide +kernel)) ggX4_beat_X4_in
set_option maxRecDepth 20000 in
theorem ggX4_beat_X4_remember : GoodIn wsX4_beat wsX4_remember := goodIn_r _ [10, 2, 11, 12, 13, 5, 14, 37, 38, 39, 40, 41, 42, 43, 44, 45, 46, 47, 48, 49, 50, 51, 52] (by decide +kernel) (by decide +kernel)
set_option maxRecDepth 20000 in
theorem gX4_beat_X4_remember : GoodIn wsX4_beat (wsV RX4 98 RX4 yX4_remember wsX4_remember) := goodIn_app (goodIn_of _ (by decide +kernel)) ggX4_beat_X4_remember
set_option maxRecDepth 20000 in
theorem ggX4_beat_X4_beats : GoodIn wsX4_beat wsX4_beats := goodIn_r _ [18, 2, 19, 20, 21, 5, 22, 23, 24, 25, 26, 27, 28, 29, 30, 37, 38, 39, 40, 41, 42, 43, 44, 45, 46, 47, 48, 49, 50, 51, 52] (by decide +kernel) (by decide +kernel)
set_option maxRecDepth 20000 in
theorem gX4_beat_X4_beats : GoodIn wsX4_beat (wsV RX4 118 RX4 yX4_beats wsX4_beats) := goodIn_app (goodIn_of _ (by decide +kernel)) ggX4_beat_X4_beats
set_option maxRecDepth 20000 in
theorem ggX4_beat_X4_acted : GoodIn wsX4_beat wsX4_acted := goodIn_r _ [34, 35, 36, 11, 37, 38, 39, 40, 41, 42, 43, 44, 45, 46, 47, 48, 49, 50, 51, 52] (by decide +kernel) (by decide +kernel)
set_option maxRecDepth 20000 in
theorem gX4_beat_X4_acted : GoodIn wsX4_beat (wsV RX4 104 RX4 yX4_acted wsX4_acted) := goodIn_app (goodIn_of _ (by decide +kernel)) ggX4_beat_X4_acted
theorem dX4_beat_0 : decode cX4_beat 0 = .ok (.iload_n 1, 1) := by decide +kernel
theorem dX4_beat_1 : decode cX4_beat 1 = .ok (.i2l, 1) := by decide +kernel
theorem dX4_beat_2 : decode cX4_beat 2 = .ok (.lconst 1, 1) := by decide +kernel
theorem dX4_beat_3 : decode cX4_beat 3 = .ok (.ldc2_w 116, 3) := by decide +kernel
theorem dX4_beat_6 : decode cX4_beat 6 = .ok (.invokestatic 44, 3) := by decide +kernel
theorem dX4_beat_9 : decode cX4_beat 9 = .ok (.ifCond .ne 7, 3) := by decide +kernel
theorem dX4_beat_12 : decode cX4_beat 12 = .ok (.sipush (-10002), 3) := by decide +kernel
theorem dX4_beat_15 : decode cX4_beat 15 = .ok (.ireturn, 1) := by decide +kernel
theorem dX4_beat_16 : decode cX4_beat 16 = .ok (.aload_n 0, 1) := by decide +kernel
theorem dX4_beat_17 : decode cX4_beat 17 = .ok (.invokevirtual 98, 3) := by decide +kernel
theorem dX4_beat_20 : decode cX4_beat 20 = .ok (.aload_n 0, 1) := by decide +kernel
theorem dX4_beat_21 : decode cX4_beat 21 = .ok (.iload_n 1, 1) := by decide +kernel
theorem dX4_beat_22 : decode cX4_beat 22 = .ok (.invokevirtual 118, 3) := by decide +kernel
theorem dX4_beat_25 : decode cX4_beat 25 = .ok (.aload_n 0, 1) := by decide +kernel
theorem dX4_beat_26 : decode cX4_beat 26 = .ok (.aload_n 0, 1) := by decide +kernel
theorem dX4_beat_27 : decode cX4_beat 27 = .ok (.getfield 7, 3) := by decide +kernel
theorem dX4_beat_30 : decode cX4_beat 30 = .ok (.iconst 2, 1) := by decide +kernel
theorem dX4_beat_31 : decode cX4_beat 31 = .ok (.iaload, 1) := by decide +kernel
theorem dX4_beat_32 : decode cX4_beat 32 = .ok (.invokevirtual 104, 3) := by decide +kernel
theorem dX4_beat_35 : decode cX4_beat 35 = .ok (.ireturn, 1) := by decide +kernel
set_option maxRecDepth 20000 in
theorem ggX4_isBeat_X4_in : GoodIn wsX4_isBeat wsX4_in := goodIn_r _ [5] (by decide +kernel) (by decide +kernel)
set_option maxRecDepth 20000 in
theorem gX4_isBeat_X4_in : GoodIn wsX4_isBeat (va_wsS RX4 44 yX4_in wsX4_in) := goodIn_app (goodIn_of _ (by decide +kernel)) ggX4_isBeat_X4_in
theorem dX4_isBeat_0 : decode cX4_isBeat 0 = .ok (.iload_n 0, 1) := by decide +kernel
theorem dX4_isBeat_1 : decode cX4_isBeat 1 = .ok (.i2l, 1) := by decide +kernel
theorem dX4_isBeat_2 : decode cX4_isBeat 2 = .ok (.lconst 0, 1) := by decide +kernel
theorem dX4_isBeat_3 : decode cX4_isBeat 3 = .ok (.ldc2_w 121, 3) := by decide +kernel
theorem dX4_isBeat_6 : decode cX4_isBeat 6 = .ok (.invokestatic 44, 3) := by decide +kernel
theorem dX4_isBeat_9 : decode cX4_isBeat 9 = .ok (.ireturn, 1) := by decide +kernel
set_option maxRecDepth 20000 in
theorem ggX4_wind_X4_isBeat : GoodIn wsX4_wind wsX4_isBeat := goodIn_r _ [6, 7, 8, 9, 5, 10] (by decide +kernel) (by decide +kernel)
set_option maxRecDepth 20000 in
theorem gX4_wind_X4_isBeat : GoodIn wsX4_wind (va_wsS RX4 123 yX4_isBeat wsX4_isBeat) := goodIn_app (goodIn_of _ (by decide +kernel)) ggX4_wind_X4_isBeat
set_option maxRecDepth 20000 in
theorem ggX4_wind_X4_in : GoodIn wsX4_wind wsX4_in := goodIn_r _ [10] (by decide +kernel) (by decide +kernel)
set_option maxRecDepth 20000 in
theorem gX4_wind_X4_in : GoodIn wsX4_wind (va_wsS RX4 44 yX4_in wsX4_in) := goodIn_app (goodIn_of _ (by decide +kernel)) ggX4_wind_X4_in
set_option maxRecDepth 20000 in
theorem ggX4_wind_X4_remember : GoodIn wsX4_wind wsX4_remember := goodIn_r _ [14, 2, 15, 16, 17, 5, 18, 25, 26, 27, 28, 29, 30, 31, 32, 33, 34, 35, 36, 37, 38, 39, 40] (by decide +kernel) (by decide +kernel)
set_option maxRecDepth 20000 in
theorem gX4_wind_X4_remember : GoodIn wsX4_wind (wsV RX4 98 RX4 yX4_remember wsX4_remember) := goodIn_app (goodIn_of _ (by decide +kernel)) ggX4_wind_X4_remember
set_option maxRecDepth 20000 in
theorem ggX4_wind_X4_acted : GoodIn wsX4_wind wsX4_acted := goodIn_r _ [22, 23, 24, 15, 25, 26, 27, 28, 29, 30, 31, 32, 33, 34, 35, 36, 37, 38, 39, 40] (by decide +kernel) (by decide +kernel)
set_option maxRecDepth 20000 in
theorem gX4_wind_X4_acted : GoodIn wsX4_wind (wsV RX4 104 RX4 yX4_acted wsX4_acted) := goodIn_app (goodIn_of _ (by decide +kernel)) ggX4_wind_X4_acted
theorem dX4_wind_0 : decode cX4_wind 0 = .ok (.iload_n 1, 1) := by decide +kernel
theorem dX4_wind_1 : decode cX4_wind 1 = .ok (.invokestatic 123, 3) := by decide +kernel
theorem dX4_wind_4 : decode cX4_wind 4 = .ok (.ifCond .ne 7, 3) := by decide +kernel
theorem dX4_wind_7 : decode cX4_wind 7 = .ok (.sipush (-10001), 3) := by decide +kernel
theorem dX4_wind_10 : decode cX4_wind 10 = .ok (.ireturn, 1) := by decide +kernel
theorem dX4_wind_11 : decode cX4_wind 11 = .ok (.iload_n 2, 1) := by decide +kernel
theorem dX4_wind_12 : decode cX4_wind 12 = .ok (.i2l, 1) := by decide +kernel
theorem dX4_wind_13 : decode cX4_wind 13 = .ok (.lconst 0, 1) := by decide +kernel
theorem dX4_wind_14 : decode cX4_wind 14 = .ok (.ldc2_w 126, 3) := by decide +kernel
theorem dX4_wind_17 : decode cX4_wind 17 = .ok (.invokestatic 44, 3) := by decide +kernel
theorem dX4_wind_20 : decode cX4_wind 20 = .ok (.ifCond .ne 7, 3) := by decide +kernel
theorem dX4_wind_23 : decode cX4_wind 23 = .ok (.sipush (-10002), 3) := by decide +kernel
theorem dX4_wind_26 : decode cX4_wind 26 = .ok (.ireturn, 1) := by decide +kernel
theorem dX4_wind_27 : decode cX4_wind 27 = .ok (.aload_n 0, 1) := by decide +kernel
theorem dX4_wind_28 : decode cX4_wind 28 = .ok (.getfield 7, 3) := by decide +kernel
theorem dX4_wind_31 : decode cX4_wind 31 = .ok (.bipush 6, 2) := by decide +kernel
theorem dX4_wind_33 : decode cX4_wind 33 = .ok (.iload_n 1, 1) := by decide +kernel
theorem dX4_wind_34 : decode cX4_wind 34 = .ok (.iadd, 1) := by decide +kernel
theorem dX4_wind_35 : decode cX4_wind 35 = .ok (.iaload, 1) := by decide +kernel
theorem dX4_wind_36 : decode cX4_wind 36 = .ok (.istore_n 3, 1) := by decide +kernel
theorem dX4_wind_37 : decode cX4_wind 37 = .ok (.iload_n 3, 1) := by decide +kernel
theorem dX4_wind_38 : decode cX4_wind 38 = .ok (.iload_n 2, 1) := by decide +kernel
theorem dX4_wind_39 : decode cX4_wind 39 = .ok (.if_icmp .ne 7, 3) := by decide +kernel
theorem dX4_wind_42 : decode cX4_wind 42 = .ok (.sipush (-10005), 3) := by decide +kernel
theorem dX4_wind_45 : decode cX4_wind 45 = .ok (.ireturn, 1) := by decide +kernel
theorem dX4_wind_46 : decode cX4_wind 46 = .ok (.aload_n 0, 1) := by decide +kernel
theorem dX4_wind_47 : decode cX4_wind 47 = .ok (.invokevirtual 98, 3) := by decide +kernel
theorem dX4_wind_50 : decode cX4_wind 50 = .ok (.aload_n 0, 1) := by decide +kernel
theorem dX4_wind_51 : decode cX4_wind 51 = .ok (.getfield 7, 3) := by decide +kernel
theorem dX4_wind_54 : decode cX4_wind 54 = .ok (.bipush 6, 2) := by decide +kernel
theorem dX4_wind_56 : decode cX4_wind 56 = .ok (.iload_n 1, 1) := by decide +kernel
theorem dX4_wind_57 : decode cX4_wind 57 = .ok (.iadd, 1) := by decide +kernel
theorem dX4_wind_58 : decode cX4_wind 58 = .ok (.iload_n 2, 1) := by decide +kernel
theorem dX4_wind_59 : decode cX4_wind 59 = .ok (.iastore, 1) := by decide +kernel
theorem dX4_wind_60 : decode cX4_wind 60 = .ok (.aload_n 0, 1) := by decide +kernel
theorem dX4_wind_61 : decode cX4_wind 61 = .ok (.iload_n 3, 1) := by decide +kernel
theorem dX4_wind_62 : decode cX4_wind 62 = .ok (.invokevirtual 104, 3) := by decide +kernel
theorem dX4_wind_65 : decode cX4_wind 65 = .ok (.ireturn, 1) := by decide +kernel
set_option maxRecDepth 20000 in
theorem ggX4_set_X4_in : GoodIn wsX4_set wsX4_in := goodIn_r _ [8] (by decide +kernel) (by decide +kernel)
set_option maxRecDepth 20000 in
theorem gX4_set_X4_in : GoodIn wsX4_set (va_wsS RX4 44 yX4_in wsX4_in) := goodIn_app (goodIn_of _ (by decide +kernel)) ggX4_set_X4_in
set_option maxRecDepth 20000 in
theorem ggX4_set_X4_remember : GoodIn wsX4_set wsX4_remember := goodIn_r _ [12, 4, 13, 14, 15, 7, 16, 23, 24, 25, 26, 27, 28, 29, 30, 31, 32, 33, 34, 35, 36, 37, 38] (by decide +kernel) (by decide +kernel)
set_option maxRecDepth 20000 in
theorem gX4_set_X4_remember : GoodIn wsX4_set (wsV RX4 98 RX4 yX4_remember wsX4_remember) := goodIn_app (goodIn_of _ (by decide +kernel)) ggX4_set_X4_remember
set_option maxRecDepth 20000 in
theorem ggX4_set_X4_acted : GoodIn wsX4_set wsX4_acted := goodIn_r _ [20, 21, 22, 13, 23, 24, 25, 26, 27, 28, 29, 30, 31, 32, 33, 34, 35, 36, 37, 38] (by decide +kernel) (by decide +kernel)
set_option maxRecDepth 20000 in
theorem gX4_set_X4_acted : GoodIn wsX4_set (wsV RX4 104 RX4 yX4_acted wsX4_acted) := goodIn_app (goodIn_of _ (by decide +kernel)) ggX4_set_X4_acted
theorem dX4_set_0 : decode cX4_set 0 = .ok (.iload_n 1, 1) := by decide +kernel
theorem dX4_set_1 : decode cX4_set 1 = .ok (.i2l, 1) := by decide +kernel
theorem dX4_set_2 : decode cX4_set 2 = .ok (.lconst 0, 1) := by decide +kernel
theorem dX4_set_3 : decode cX4_set 3 = .ok (.lconst 1, 1) := by decide +kernel
theorem dX4_set_4 : decode cX4_set 4 = .ok (.invokestatic 44, 3) := by decide +kernel
theorem dX4_set_7 : decode cX4_set 7 = .ok (.ifCond .ne 7, 3) := by decide +kernel
theorem dX4_set_10 : decode cX4_set 10 = .ok (.sipush (-10001), 3) := by decide +kernel
theorem dX4_set_13 : decode cX4_set 13 = .ok (.ireturn, 1) := by decide +kernel
theorem dX4_set_14 : decode cX4_set 14 = .ok (.iload_n 1, 1) := by decide +kernel
theorem dX4_set_15 : decode cX4_set 15 = .ok (.ifCond .ne 20, 3) := by decide +kernel
theorem dX4_set_18 : decode cX4_set 18 = .ok (.iload_n 2, 1) := by decide +kernel
theorem dX4_set_19 : decode cX4_set 19 = .ok (.i2l, 1) := by decide +kernel
theorem dX4_set_20 : decode cX4_set 20 = .ok (.ldc2_w 128, 3) := by decide +kernel
theorem dX4_set_23 : decode cX4_set 23 = .ok (.ldc2_w 130, 3) := by decide +kernel
theorem dX4_set_26 : decode cX4_set 26 = .ok (.invokestatic 44, 3) := by decide +kernel
theorem dX4_set_29 : decode cX4_set 29 = .ok (.ifCond .ne 22, 3) := by decide +kernel
theorem dX4_set_32 : decode cX4_set 32 = .ok (.goto 15, 3) := by decide +kernel
theorem dX4_set_35 : decode cX4_set 35 = .ok (.iload_n 2, 1) := by decide +kernel
theorem dX4_set_36 : decode cX4_set 36 = .ok (.i2l, 1) := by decide +kernel
theorem dX4_set_37 : decode cX4_set 37 = .ok (.lconst 0, 1) := by decide +kernel
theorem dX4_set_38 : decode cX4_set 38 = .ok (.ldc2_w 126, 3) := by decide +kernel
theorem dX4_set_41 : decode cX4_set 41 = .ok (.invokestatic 44, 3) := by decide +kernel
theorem dX4_set_44 : decode cX4_set 44 = .ok (.ifCond .ne 7, 3) := by decide +kernel
theorem dX4_set_47 : decode cX4_set 47 = .ok (.sipush (-10002), 3) := by decide +kernel
theorem dX4_set_50 : decode cX4_set 50 = .ok (.ireturn, 1) := by decide +kernel
theorem dX4_set_51 : decode cX4_set 51 = .ok (.aload_n 0, 1) := by decide +kernel
theorem dX4_set_52 : decode cX4_set 52 = .ok (.getfield 7, 3) := by decide +kernel
theorem dX4_set_55 : decode cX4_set 55 = .ok (.iload_n 1, 1) := by decide +kernel
theorem dX4_set_56 : decode cX4_set 56 = .ok (.iaload, 1) := by decide +kernel
theorem dX4_set_57 : decode cX4_set 57 = .ok (.istore_n 3, 1) := by decide +kernel
theorem dX4_set_58 : decode cX4_set 58 = .ok (.iload_n 3, 1) := by decide +kernel
theorem dX4_set_59 : decode cX4_set 59 = .ok (.iload_n 2, 1) := by decide +kernel
theorem dX4_set_60 : decode cX4_set 60 = .ok (.if_icmp .ne 7, 3) := by decide +kernel
theorem dX4_set_63 : decode cX4_set 63 = .ok (.sipush (-10005), 3) := by decide +kernel
theorem dX4_set_66 : decode cX4_set 66 = .ok (.ireturn, 1) := by decide +kernel
theorem dX4_set_67 : decode cX4_set 67 = .ok (.aload_n 0, 1) := by decide +kernel
theorem dX4_set_68 : decode cX4_set 68 = .ok (.invokevirtual 98, 3) := by decide +kernel
theorem dX4_set_71 : decode cX4_set 71 = .ok (.aload_n 0, 1) := by decide +kernel
theorem dX4_set_72 : decode cX4_set 72 = .ok (.getfield 7, 3) := by decide +kernel
theorem dX4_set_75 : decode cX4_set 75 = .ok (.iload_n 1, 1) := by decide +kernel
theorem dX4_set_76 : decode cX4_set 76 = .ok (.iload_n 2, 1) := by decide +kernel
theorem dX4_set_77 : decode cX4_set 77 = .ok (.iastore, 1) := by decide +kernel
theorem dX4_set_78 : decode cX4_set 78 = .ok (.aload_n 0, 1) := by decide +kernel
theorem dX4_set_79 : decode cX4_set 79 = .ok (.iload_n 3, 1) := by decide +kernel
theorem dX4_set_80 : decode cX4_set 80 = .ok (.invokevirtual 104, 3) := by decide +kernel
theorem dX4_set_83 : decode cX4_set 83 = .ok (.ireturn, 1) := by decide +kernel
theorem dX4_type_0 : decode cX4_type 0 = .ok (.aload_n 0, 1) := by decide +kernel
theorem dX4_type_1 : decode cX4_type 1 = .ok (.getfield 132, 3) := by decide +kernel
theorem dX4_type_4 : decode cX4_type 4 = .ok (.bipush 80, 2) := by decide +kernel
theorem dX4_type_6 : decode cX4_type 6 = .ok (.if_icmp .ne 7, 3) := by decide +kernel
theorem dX4_type_9 : decode cX4_type 9 = .ok (.sipush (-10003), 3) := by decide +kernel
theorem dX4_type_12 : decode cX4_type 12 = .ok (.ireturn, 1) := by decide +kernel
theorem dX4_type_13 : decode cX4_type 13 = .ok (.aload_n 0, 1) := by decide +kernel
theorem dX4_type_14 : decode cX4_type 14 = .ok (.getfield 32, 3) := by decide +kernel
theorem dX4_type_17 : decode cX4_type 17 = .ok (.aload_n 0, 1) := by decide +kernel
theorem dX4_type_18 : decode cX4_type 18 = .ok (.getfield 132, 3) := by decide +kernel
theorem dX4_type_21 : decode cX4_type 21 = .ok (.iload_n 1, 1) := by decide +kernel
theorem dX4_type_22 : decode cX4_type 22 = .ok (.iastore, 1) := by decide +kernel
theorem dX4_type_23 : decode cX4_type 23 = .ok (.aload_n 0, 1) := by decide +kernel
theorem dX4_type_24 : decode cX4_type 24 = .ok (.dup, 1) := by decide +kernel
theorem dX4_type_25 : decode cX4_type 25 = .ok (.getfield 132, 3) := by decide +kernel
theorem dX4_type_28 : decode cX4_type 28 = .ok (.iconst 1, 1) := by decide +kernel
theorem dX4_type_29 : decode cX4_type 29 = .ok (.iadd, 1) := by decide +kernel
theorem dX4_type_30 : decode cX4_type 30 = .ok (.putfield 132, 3) := by decide +kernel
theorem dX4_type_33 : decode cX4_type 33 = .ok (.aload_n 0, 1) := by decide +kernel
theorem dX4_type_34 : decode cX4_type 34 = .ok (.getfield 132, 3) := by decide +kernel
theorem dX4_type_37 : decode cX4_type 37 = .ok (.ireturn, 1) := by decide +kernel
theorem dX4_clearText_0 : decode cX4_clearText 0 = .ok (.aload_n 0, 1) := by decide +kernel
theorem dX4_clearText_1 : decode cX4_clearText 1 = .ok (.getfield 132, 3) := by decide +kernel
theorem dX4_clearText_4 : decode cX4_clearText 4 = .ok (.istore_n 1, 1) := by decide +kernel
theorem dX4_clearText_5 : decode cX4_clearText 5 = .ok (.aload_n 0, 1) := by decide +kernel
theorem dX4_clearText_6 : decode cX4_clearText 6 = .ok (.iconst 0, 1) := by decide +kernel
theorem dX4_clearText_7 : decode cX4_clearText 7 = .ok (.putfield 132, 3) := by decide +kernel
theorem dX4_clearText_10 : decode cX4_clearText 10 = .ok (.iload_n 1, 1) := by decide +kernel
theorem dX4_clearText_11 : decode cX4_clearText 11 = .ok (.ireturn, 1) := by decide +kernel
set_option maxRecDepth 20000 in
theorem ggX4_isHere_X4_in : GoodIn wsX4_isHere wsX4_in := goodIn_r _ [7] (by decide +kernel) (by decide +kernel)
set_option maxRecDepth 20000 in
theorem gX4_isHere_X4_in : GoodIn wsX4_isHere (va_wsS RX4 44 yX4_in wsX4_in) := goodIn_app (goodIn_of _ (by decide +kernel)) ggX4_isHere_X4_in
theorem dX4_isHere_0 : decode cX4_isHere 0 = .ok (.aload_n 0, 1) := by decide +kernel
theorem dX4_isHere_1 : decode cX4_isHere 1 = .ok (.getfield 135, 3) := by decide +kernel
theorem dX4_isHere_4 : decode cX4_isHere 4 = .ok (.aload_n 0, 1) := by decide +kernel
theorem dX4_isHere_5 : decode cX4_isHere 5 = .ok (.getfield 132, 3) := by decide +kernel
theorem dX4_isHere_8 : decode cX4_isHere 8 = .ok (.if_icmp .ge 27, 3) := by decide +kernel
theorem dX4_isHere_11 : decode cX4_isHere 11 = .ok (.aload_n 0, 1) := by decide +kernel
theorem dX4_isHere_12 : decode cX4_isHere 12 = .ok (.getfield 32, 3) := by decide +kernel
theorem dX4_isHere_15 : decode cX4_isHere 15 = .ok (.aload_n 0, 1) := by decide +kernel
theorem dX4_isHere_16 : decode cX4_isHere 16 = .ok (.getfield 135, 3) := by decide +kernel
theorem dX4_isHere_19 : decode cX4_isHere 19 = .ok (.iaload, 1) := by decide +kernel
theorem dX4_isHere_20 : decode cX4_isHere 20 = .ok (.i2l, 1) := by decide +kernel
theorem dX4_isHere_21 : decode cX4_isHere 21 = .ok (.iload_n 1, 1) := by decide +kernel
theorem dX4_isHere_22 : decode cX4_isHere 22 = .ok (.i2l, 1) := by decide +kernel
theorem dX4_isHere_23 : decode cX4_isHere 23 = .ok (.iload_n 2, 1) := by decide +kernel
theorem dX4_isHere_24 : decode cX4_isHere 24 = .ok (.i2l, 1) := by decide +kernel
theorem dX4_isHere_25 : decode cX4_isHere 25 = .ok (.invokestatic 44, 3) := by decide +kernel
theorem dX4_isHere_28 : decode cX4_isHere 28 = .ok (.ifCond .eq 7, 3) := by decide +kernel
theorem dX4_isHere_31 : decode cX4_isHere 31 = .ok (.iconst 1, 1) := by decide +kernel
theorem dX4_isHere_32 : decode cX4_isHere 32 = .ok (.goto 4, 3) := by decide +kernel
theorem dX4_isHere_35 : decode cX4_isHere 35 = .ok (.iconst 0, 1) := by decide +kernel
theorem dX4_isHere_36 : decode cX4_isHere 36 = .ok (.ireturn, 1) := by decide +kernel
set_option maxRecDepth 20000 in
theorem ggX4_takes_X4_isHere : GoodIn wsX4_takes wsX4_isHere := goodIn_r _ [6, 1, 7, 8, 9, 10, 5, 11, 12, 13, 14, 15, 16, 17, 18, 19, 20, 21, 22, 23, 24, 25, 26, 27] (by decide +kernel) (by decide +kernel)
set_option maxRecDepth 20000 in
theorem gX4_takes_X4_isHere : GoodIn wsX4_takes (wsV RX4 138 RX4 yX4_isHere wsX4_isHere) := goodIn_app (goodIn_of _ (by decide +kernel)) ggX4_takes_X4_isHere
theorem dX4_takes_0 : decode cX4_takes 0 = .ok (.aload_n 0, 1) := by decide +kernel
theorem dX4_takes_1 : decode cX4_takes 1 = .ok (.iload_n 1, 1) := by decide +kernel
theorem dX4_takes_2 : decode cX4_takes 2 = .ok (.iload_n 1, 1) := by decide +kernel
theorem dX4_takes_3 : decode cX4_takes 3 = .ok (.invokevirtual 138, 3) := by decide +kernel
theorem dX4_takes_6 : decode cX4_takes 6 = .ok (.istore_n 2, 1) := by decide +kernel
theorem dX4_takes_7 : decode cX4_takes 7 = .ok (.aload_n 0, 1) := by decide +kernel
theorem dX4_takes_8 : decode cX4_takes 8 = .ok (.dup, 1) := by decide +kernel
theorem dX4_takes_9 : decode cX4_takes 9 = .ok (.getfield 135, 3) := by decide +kernel
theorem dX4_takes_12 : decode cX4_takes 12 = .ok (.iload_n 2, 1) := by decide +kernel
theorem dX4_takes_13 : decode cX4_takes 13 = .ok (.ifCond .eq 7, 3) := by decide +kernel
theorem dX4_takes_16 : decode cX4_takes 16 = .ok (.iconst 1, 1) := by decide +kernel
theorem dX4_takes_17 : decode cX4_takes 17 = .ok (.goto 4, 3) := by decide +kernel
theorem dX4_takes_20 : decode cX4_takes 20 = .ok (.iconst 0, 1) := by decide +kernel
theorem dX4_takes_21 : decode cX4_takes 21 = .ok (.iadd, 1) := by decide +kernel
theorem dX4_takes_22 : decode cX4_takes 22 = .ok (.putfield 135, 3) := by decide +kernel
theorem dX4_takes_25 : decode cX4_takes 25 = .ok (.iload_n 2, 1) := by decide +kernel
theorem dX4_takes_26 : decode cX4_takes 26 = .ok (.ireturn, 1) := by decide +kernel
set_option maxRecDepth 20000 in
theorem ggX4_readsLetters_X4_takes : GoodIn wsX4_readsLetters wsX4_takes := goodIn_r _ [6, 7, 8, 9, 10, 5, 11, 12, 13, 14, 15, 16, 17, 18, 19, 20, 21, 22, 23, 24, 25, 26, 27, 28, 29, 30, 31, 32] (by decide +kernel) (by decide +kernel)
set_option maxRecDepth 20000 in
theorem gX4_readsLetters_X4_takes : GoodIn wsX4_readsLetters (wsV RX4 143 RX4 yX4_takes wsX4_takes) := goodIn_app (goodIn_of _ (by decide +kernel)) ggX4_readsLetters_X4_takes
theorem dX4_readsLetters_0 : decode cX4_readsLetters 0 = .ok (.iconst 1, 1) := by decide +kernel
theorem dX4_readsLetters_1 : decode cX4_readsLetters 1 = .ok (.istore_n 3, 1) := by decide +kernel
theorem dX4_readsLetters_2 : decode cX4_readsLetters 2 = .ok (.bipush 32, 2) := by decide +kernel
theorem dX4_readsLetters_4 : decode cX4_readsLetters 4 = .ok (.istore 4, 2) := by decide +kernel
theorem dX4_readsLetters_6 : decode cX4_readsLetters 6 = .ok (.iload 4, 2) := by decide +kernel
theorem dX4_readsLetters_8 : decode cX4_readsLetters 8 = .ok (.ifCond .lt 44, 3) := by decide +kernel
theorem dX4_readsLetters_11 : decode cX4_readsLetters 11 = .ok (.iload_n 3, 1) := by decide +kernel
theorem dX4_readsLetters_12 : decode cX4_readsLetters 12 = .ok (.ifCond .eq 40, 3) := by decide +kernel
theorem dX4_readsLetters_15 : decode cX4_readsLetters 15 = .ok (.lload_n 1, 1) := by decide +kernel
theorem dX4_readsLetters_16 : decode cX4_readsLetters 16 = .ok (.iload 4, 2) := by decide +kernel
theorem dX4_readsLetters_18 : decode cX4_readsLetters 18 = .ok (.lshr, 1) := by decide +kernel
theorem dX4_readsLetters_19 : decode cX4_readsLetters 19 = .ok (.ldc2_w 141, 3) := by decide +kernel
theorem dX4_readsLetters_22 : decode cX4_readsLetters 22 = .ok (.land, 1) := by decide +kernel
theorem dX4_readsLetters_23 : decode cX4_readsLetters 23 = .ok (.l2i, 1) := by decide +kernel
theorem dX4_readsLetters_24 : decode cX4_readsLetters 24 = .ok (.istore 5, 2) := by decide +kernel
theorem dX4_readsLetters_26 : decode cX4_readsLetters 26 = .ok (.iload 5, 2) := by decide +kernel
theorem dX4_readsLetters_28 : decode cX4_readsLetters 28 = .ok (.ifCond .eq 12, 3) := by decide +kernel
theorem dX4_readsLetters_31 : decode cX4_readsLetters 31 = .ok (.aload_n 0, 1) := by decide +kernel
theorem dX4_readsLetters_32 : decode cX4_readsLetters 32 = .ok (.iload 5, 2) := by decide +kernel
theorem dX4_readsLetters_34 : decode cX4_readsLetters 34 = .ok (.invokevirtual 143, 3) := by decide +kernel
theorem dX4_readsLetters_37 : decode cX4_readsLetters 37 = .ok (.ifCond .eq 7, 3) := by decide +kernel
theorem dX4_readsLetters_40 : decode cX4_readsLetters 40 = .ok (.iconst 1, 1) := by decide +kernel
theorem dX4_readsLetters_41 : decode cX4_readsLetters 41 = .ok (.goto 4, 3) := by decide +kernel
theorem dX4_readsLetters_44 : decode cX4_readsLetters 44 = .ok (.iconst 0, 1) := by decide +kernel
theorem dX4_readsLetters_45 : decode cX4_readsLetters 45 = .ok (.istore_n 3, 1) := by decide +kernel
theorem dX4_readsLetters_46 : decode cX4_readsLetters 46 = .ok (.iinc 4 (-8), 3) := by decide +kernel
theorem dX4_readsLetters_49 : decode cX4_readsLetters 49 = .ok (.goto (-43), 3) := by decide +kernel
theorem dX4_readsLetters_52 : decode cX4_readsLetters 52 = .ok (.iload_n 3, 1) := by decide +kernel
theorem dX4_readsLetters_53 : decode cX4_readsLetters 53 = .ok (.ireturn, 1) := by decide +kernel
set_option maxRecDepth 20000 in
theorem ggX4_readsNumber_X4_takes : GoodIn wsX4_readsNumber wsX4_takes := goodIn_r _ [8, 2, 9, 10, 11, 7, 12, 13, 1, 14, 15, 16, 17, 18, 19, 20, 21, 22, 23, 24, 25, 26, 27, 28, 29, 30, 31, 32] (by decide +kernel) (by decide +kernel)
set_option maxRecDepth 20000 in
theorem gX4_readsNumber_X4_takes : GoodIn wsX4_readsNumber (wsV RX4 143 RX4 yX4_takes wsX4_takes) := goodIn_app (goodIn_of _ (by decide +kernel)) ggX4_readsNumber_X4_takes
set_option maxRecDepth 20000 in
theorem ggX4_readsNumber_X4_isHere : GoodIn wsX4_readsNumber wsX4_isHere := goodIn_r _ [12, 2, 13, 1, 14, 15, 7, 16, 17, 18, 19, 20, 21, 22, 23, 24, 25, 26, 27, 28, 29, 30, 31, 32] (by decide +kernel) (by decide +kernel)
set_option maxRecDepth 20000 in
theorem gX4_readsNumber_X4_isHere : GoodIn wsX4_readsNumber (wsV RX4 138 RX4 yX4_isHere wsX4_isHere) := goodIn_app (goodIn_of _ (by decide +kernel)) ggX4_readsNumber_X4_isHere
theorem dX4_readsNumber_0 : decode cX4_readsNumber 0 = .ok (.aload_n 0, 1) := by decide +kernel
theorem dX4_readsNumber_1 : decode cX4_readsNumber 1 = .ok (.bipush 32, 2) := by decide +kernel
theorem dX4_readsNumber_3 : decode cX4_readsNumber 3 = .ok (.invokevirtual 143, 3) := by decide +kernel
theorem dX4_readsNumber_6 : decode cX4_readsNumber 6 = .ok (.ifCond .ne 5, 3) := by decide +kernel
theorem dX4_readsNumber_9 : decode cX4_readsNumber 9 = .ok (.iconst 0, 1) := by decide +kernel
theorem dX4_readsNumber_10 : decode cX4_readsNumber 10 = .ok (.ireturn, 1) := by decide +kernel
theorem dX4_readsNumber_11 : decode cX4_readsNumber 11 = .ok (.iload_n 1, 1) := by decide +kernel
theorem dX4_readsNumber_12 : decode cX4_readsNumber 12 = .ok (.ifCond .ge 16, 3) := by decide +kernel
theorem dX4_readsNumber_15 : decode cX4_readsNumber 15 = .ok (.aload_n 0, 1) := by decide +kernel
theorem dX4_readsNumber_16 : decode cX4_readsNumber 16 = .ok (.bipush 45, 2) := by decide +kernel
theorem dX4_readsNumber_18 : decode cX4_readsNumber 18 = .ok (.invokevirtual 143, 3) := by decide +kernel
theorem dX4_readsNumber_21 : decode cX4_readsNumber 21 = .ok (.ifCond .eq 7, 3) := by decide +kernel
theorem dX4_readsNumber_24 : decode cX4_readsNumber 24 = .ok (.iconst 1, 1) := by decide +kernel
theorem dX4_readsNumber_25 : decode cX4_readsNumber 25 = .ok (.goto 4, 3) := by decide +kernel
theorem dX4_readsNumber_28 : decode cX4_readsNumber 28 = .ok (.iconst 0, 1) := by decide +kernel
theorem dX4_readsNumber_29 : decode cX4_readsNumber 29 = .ok (.istore_n 3, 1) := by decide +kernel
theorem dX4_readsNumber_30 : decode cX4_readsNumber 30 = .ok (.aload_n 0, 1) := by decide +kernel
theorem dX4_readsNumber_31 : decode cX4_readsNumber 31 = .ok (.iload_n 3, 1) := by decide +kernel
theorem dX4_readsNumber_32 : decode cX4_readsNumber 32 = .ok (.ifCond .ne 7, 3) := by decide +kernel
theorem dX4_readsNumber_35 : decode cX4_readsNumber 35 = .ok (.iload_n 1, 1) := by decide +kernel
theorem dX4_readsNumber_36 : decode cX4_readsNumber 36 = .ok (.ifCond .le 8, 3) := by decide +kernel
theorem dX4_readsNumber_39 : decode cX4_readsNumber 39 = .ok (.bipush 49, 2) := by decide +kernel
theorem dX4_readsNumber_41 : decode cX4_readsNumber 41 = .ok (.goto 5, 3) := by decide +kernel
theorem dX4_readsNumber_44 : decode cX4_readsNumber 44 = .ok (.bipush 48, 2) := by decide +kernel
theorem dX4_readsNumber_46 : decode cX4_readsNumber 46 = .ok (.bipush 57, 2) := by decide +kernel
theorem dX4_readsNumber_48 : decode cX4_readsNumber 48 = .ok (.invokevirtual 138, 3) := by decide +kernel
theorem dX4_readsNumber_51 : decode cX4_readsNumber 51 = .ok (.ifCond .eq 19, 3) := by decide +kernel
theorem dX4_readsNumber_54 : decode cX4_readsNumber 54 = .ok (.aload_n 0, 1) := by decide +kernel
theorem dX4_readsNumber_55 : decode cX4_readsNumber 55 = .ok (.getfield 32, 3) := by decide +kernel
theorem dX4_readsNumber_58 : decode cX4_readsNumber 58 = .ok (.aload_n 0, 1) := by decide +kernel
theorem dX4_readsNumber_59 : decode cX4_readsNumber 59 = .ok (.getfield 135, 3) := by decide +kernel
theorem dX4_readsNumber_62 : decode cX4_readsNumber 62 = .ok (.iaload, 1) := by decide +kernel
theorem dX4_readsNumber_63 : decode cX4_readsNumber 63 = .ok (.bipush 48, 2) := by decide +kernel
theorem dX4_readsNumber_65 : decode cX4_readsNumber 65 = .ok (.isub, 1) := by decide +kernel
theorem dX4_readsNumber_66 : decode cX4_readsNumber 66 = .ok (.iload_n 2, 1) := by decide +kernel
theorem dX4_readsNumber_67 : decode cX4_readsNumber 67 = .ok (.if_icmp .le 5, 3) := by decide +kernel
theorem dX4_readsNumber_70 : decode cX4_readsNumber 70 = .ok (.iconst 0, 1) := by decide +kernel
theorem dX4_readsNumber_71 : decode cX4_readsNumber 71 = .ok (.ireturn, 1) := by decide +kernel
theorem dX4_readsNumber_72 : decode cX4_readsNumber 72 = .ok (.aload_n 0, 1) := by decide +kernel
theorem dX4_readsNumber_73 : decode cX4_readsNumber 73 = .ok (.aload_n 0, 1) := by decide +kernel
theorem dX4_readsNumber_74 : decode cX4_readsNumber 74 = .ok (.getfield 32, 3) := by decide +kernel
theorem dX4_readsNumber_77 : decode cX4_readsNumber 77 = .ok (.aload_n 0, 1) := by decide +kernel
theorem dX4_readsNumber_78 : decode cX4_readsNumber 78 = .ok (.getfield 135, 3) := by decide +kernel
theorem dX4_readsNumber_81 : decode cX4_readsNumber 81 = .ok (.iaload, 1) := by decide +kernel
theorem dX4_readsNumber_82 : decode cX4_readsNumber 82 = .ok (.bipush 48, 2) := by decide +kernel
theorem dX4_readsNumber_84 : decode cX4_readsNumber 84 = .ok (.isub, 1) := by decide +kernel
theorem dX4_readsNumber_85 : decode cX4_readsNumber 85 = .ok (.putfield 146, 3) := by decide +kernel
theorem dX4_readsNumber_88 : decode cX4_readsNumber 88 = .ok (.aload_n 0, 1) := by decide +kernel
theorem dX4_readsNumber_89 : decode cX4_readsNumber 89 = .ok (.dup, 1) := by decide +kernel
theorem dX4_readsNumber_90 : decode cX4_readsNumber 90 = .ok (.getfield 135, 3) := by decide +kernel
theorem dX4_readsNumber_93 : decode cX4_readsNumber 93 = .ok (.iconst 1, 1) := by decide +kernel
theorem dX4_readsNumber_94 : decode cX4_readsNumber 94 = .ok (.iadd, 1) := by decide +kernel
theorem dX4_readsNumber_95 : decode cX4_readsNumber 95 = .ok (.putfield 135, 3) := by decide +kernel
theorem dX4_readsNumber_98 : decode cX4_readsNumber 98 = .ok (.aload_n 0, 1) := by decide +kernel
theorem dX4_readsNumber_99 : decode cX4_readsNumber 99 = .ok (.getfield 146, 3) := by decide +kernel
theorem dX4_readsNumber_102 : decode cX4_readsNumber 102 = .ok (.ifCond .le 75, 3) := by decide +kernel
theorem dX4_readsNumber_105 : decode cX4_readsNumber 105 = .ok (.aload_n 0, 1) := by decide +kernel
theorem dX4_readsNumber_106 : decode cX4_readsNumber 106 = .ok (.bipush 48, 2) := by decide +kernel
theorem dX4_readsNumber_108 : decode cX4_readsNumber 108 = .ok (.bipush 57, 2) := by decide +kernel
theorem dX4_readsNumber_110 : decode cX4_readsNumber 110 = .ok (.invokevirtual 138, 3) := by decide +kernel
theorem dX4_readsNumber_113 : decode cX4_readsNumber 113 = .ok (.ifCond .eq 64, 3) := by decide +kernel
theorem dX4_readsNumber_116 : decode cX4_readsNumber 116 = .ok (.bipush 10, 2) := by decide +kernel
theorem dX4_readsNumber_118 : decode cX4_readsNumber 118 = .ok (.aload_n 0, 1) := by decide +kernel
theorem dX4_readsNumber_119 : decode cX4_readsNumber 119 = .ok (.getfield 146, 3) := by decide +kernel
theorem dX4_readsNumber_122 : decode cX4_readsNumber 122 = .ok (.imul, 1) := by decide +kernel
theorem dX4_readsNumber_123 : decode cX4_readsNumber 123 = .ok (.aload_n 0, 1) := by decide +kernel
theorem dX4_readsNumber_124 : decode cX4_readsNumber 124 = .ok (.getfield 32, 3) := by decide +kernel
theorem dX4_readsNumber_127 : decode cX4_readsNumber 127 = .ok (.aload_n 0, 1) := by decide +kernel
theorem dX4_readsNumber_128 : decode cX4_readsNumber 128 = .ok (.getfield 135, 3) := by decide +kernel
theorem dX4_readsNumber_131 : decode cX4_readsNumber 131 = .ok (.iaload, 1) := by decide +kernel
theorem dX4_readsNumber_132 : decode cX4_readsNumber 132 = .ok (.iadd, 1) := by decide +kernel
theorem dX4_readsNumber_133 : decode cX4_readsNumber 133 = .ok (.bipush 48, 2) := by decide +kernel
theorem dX4_readsNumber_135 : decode cX4_readsNumber 135 = .ok (.isub, 1) := by decide +kernel
theorem dX4_readsNumber_136 : decode cX4_readsNumber 136 = .ok (.iload_n 2, 1) := by decide +kernel
theorem dX4_readsNumber_137 : decode cX4_readsNumber 137 = .ok (.if_icmp .gt 40, 3) := by decide +kernel
theorem dX4_readsNumber_140 : decode cX4_readsNumber 140 = .ok (.aload_n 0, 1) := by decide +kernel
theorem dX4_readsNumber_141 : decode cX4_readsNumber 141 = .ok (.bipush 10, 2) := by decide +kernel
theorem dX4_readsNumber_143 : decode cX4_readsNumber 143 = .ok (.aload_n 0, 1) := by decide +kernel
theorem dX4_readsNumber_144 : decode cX4_readsNumber 144 = .ok (.getfield 146, 3) := by decide +kernel
theorem dX4_readsNumber_147 : decode cX4_readsNumber 147 = .ok (.imul, 1) := by decide +kernel
theorem dX4_readsNumber_148 : decode cX4_readsNumber 148 = .ok (.aload_n 0, 1) := by decide +kernel
theorem dX4_readsNumber_149 : decode cX4_readsNumber 149 = .ok (.getfield 32, 3) := by decide +kernel
theorem dX4_readsNumber_152 : decode cX4_readsNumber 152 = .ok (.aload_n 0, 1) := by decide +kernel
theorem dX4_readsNumber_153 : decode cX4_readsNumber 153 = .ok (.getfield 135, 3) := by decide +kernel
theorem dX4_readsNumber_156 : decode cX4_readsNumber 156 = .ok (.iaload, 1) := by decide +kernel
theorem dX4_readsNumber_157 : decode cX4_readsNumber 157 = .ok (.iadd, 1) := by decide +kernel
theorem dX4_readsNumber_158 : decode cX4_readsNumber 158 = .ok (.bipush 48, 2) := by decide +kernel
theorem dX4_readsNumber_160 : decode cX4_readsNumber 160 = .ok (.isub, 1) := by decide +kernel
theorem dX4_readsNumber_161 : decode cX4_readsNumber 161 = .ok (.putfield 146, 3) := by decide +kernel
theorem dX4_readsNumber_164 : decode cX4_readsNumber 164 = .ok (.aload_n 0, 1) := by decide +kernel
theorem dX4_readsNumber_165 : decode cX4_readsNumber 165 = .ok (.dup, 1) := by decide +kernel
theorem dX4_readsNumber_166 : decode cX4_readsNumber 166 = .ok (.getfield 135, 3) := by decide +kernel
theorem dX4_readsNumber_169 : decode cX4_readsNumber 169 = .ok (.iconst 1, 1) := by decide +kernel
theorem dX4_readsNumber_170 : decode cX4_readsNumber 170 = .ok (.iadd, 1) := by decide +kernel
theorem dX4_readsNumber_171 : decode cX4_readsNumber 171 = .ok (.putfield 135, 3) := by decide +kernel
theorem dX4_readsNumber_174 : decode cX4_readsNumber 174 = .ok (.goto (-76), 3) := by decide +kernel
theorem dX4_readsNumber_177 : decode cX4_readsNumber 177 = .ok (.aload_n 0, 1) := by decide +kernel
theorem dX4_readsNumber_178 : decode cX4_readsNumber 178 = .ok (.iload_n 3, 1) := by decide +kernel
theorem dX4_readsNumber_179 : decode cX4_readsNumber 179 = .ok (.ifCond .eq 11, 3) := by decide +kernel
theorem dX4_readsNumber_182 : decode cX4_readsNumber 182 = .ok (.aload_n 0, 1) := by decide +kernel
theorem dX4_readsNumber_183 : decode cX4_readsNumber 183 = .ok (.getfield 146, 3) := by decide +kernel
theorem dX4_readsNumber_186 : decode cX4_readsNumber 186 = .ok (.ineg, 1) := by decide +kernel
theorem dX4_readsNumber_187 : decode cX4_readsNumber 187 = .ok (.goto 7, 3) := by decide +kernel
theorem dX4_readsNumber_190 : decode cX4_readsNumber 190 = .ok (.aload_n 0, 1) := by decide +kernel
theorem dX4_readsNumber_191 : decode cX4_readsNumber 191 = .ok (.getfield 146, 3) := by decide +kernel
theorem dX4_readsNumber_194 : decode cX4_readsNumber 194 = .ok (.putfield 146, 3) := by decide +kernel
theorem dX4_readsNumber_197 : decode cX4_readsNumber 197 = .ok (.iconst 1, 1) := by decide +kernel
theorem dX4_readsNumber_198 : decode cX4_readsNumber 198 = .ok (.ireturn, 1) := by decide +kernel
set_option maxRecDepth 20000 in
theorem ggX4_readsNumbers_X4_readsNumber : GoodIn wsX4_readsNumbers wsX4_readsNumber := goodIn_r _ [9, 10, 11, 2, 12, 13, 14, 8, 15, 16, 17, 18, 19, 20, 21, 22, 23, 24, 25, 26, 27, 28, 29, 30, 31, 32, 33, 34, 35, 36, 37, 38, 39] (by decide +kernel) (by decide +kernel)
set_option maxRecDepth 20000 in
theorem gX4_readsNumbers_X4_readsNumber : GoodIn wsX4_readsNumbers (wsV RX4 152 RX4 yX4_readsNumber wsX4_readsNumber) := goodIn_app (goodIn_of _ (by decide +kernel)) ggX4_readsNumbers_X4_readsNumber
theorem dX4_readsNumbers_0 : decode cX4_readsNumbers 0 = .ok (.aload_n 0, 1) := by decide +kernel
theorem dX4_readsNumbers_1 : decode cX4_readsNumbers 1 = .ok (.getfield 149, 3) := by decide +kernel
theorem dX4_readsNumbers_4 : decode cX4_readsNumbers 4 = .ok (.ifCond .ne 12, 3) := by decide +kernel
theorem dX4_readsNumbers_7 : decode cX4_readsNumbers 7 = .ok (.aload_n 0, 1) := by decide +kernel
theorem dX4_readsNumbers_8 : decode cX4_readsNumbers 8 = .ok (.iconst 0, 1) := by decide +kernel
theorem dX4_readsNumbers_9 : decode cX4_readsNumbers 9 = .ok (.iconst 3, 1) := by decide +kernel
theorem dX4_readsNumbers_10 : decode cX4_readsNumbers 10 = .ok (.invokevirtual 152, 3) := by decide +kernel
theorem dX4_readsNumbers_13 : decode cX4_readsNumbers 13 = .ok (.goto 41, 3) := by decide +kernel
theorem dX4_readsNumbers_16 : decode cX4_readsNumbers 16 = .ok (.aload_n 0, 1) := by decide +kernel
theorem dX4_readsNumbers_17 : decode cX4_readsNumbers 17 = .ok (.getfield 149, 3) := by decide +kernel
theorem dX4_readsNumbers_20 : decode cX4_readsNumbers 20 = .ok (.iconst 3, 1) := by decide +kernel
theorem dX4_readsNumbers_21 : decode cX4_readsNumbers 21 = .ok (.if_icmp .ne 13, 3) := by decide +kernel
theorem dX4_readsNumbers_24 : decode cX4_readsNumbers 24 = .ok (.aload_n 0, 1) := by decide +kernel
theorem dX4_readsNumbers_25 : decode cX4_readsNumbers 25 = .ok (.iconst 1, 1) := by decide +kernel
theorem dX4_readsNumbers_26 : decode cX4_readsNumbers 26 = .ok (.bipush 20, 2) := by decide +kernel
theorem dX4_readsNumbers_28 : decode cX4_readsNumbers 28 = .ok (.invokevirtual 152, 3) := by decide +kernel
theorem dX4_readsNumbers_31 : decode cX4_readsNumbers 31 = .ok (.goto 23, 3) := by decide +kernel
theorem dX4_readsNumbers_34 : decode cX4_readsNumbers 34 = .ok (.aload_n 0, 1) := by decide +kernel
theorem dX4_readsNumbers_35 : decode cX4_readsNumbers 35 = .ok (.iconst 0, 1) := by decide +kernel
theorem dX4_readsNumbers_36 : decode cX4_readsNumbers 36 = .ok (.aload_n 0, 1) := by decide +kernel
theorem dX4_readsNumbers_37 : decode cX4_readsNumbers 37 = .ok (.getfield 149, 3) := by decide +kernel
theorem dX4_readsNumbers_40 : decode cX4_readsNumbers 40 = .ok (.iconst 4, 1) := by decide +kernel
theorem dX4_readsNumbers_41 : decode cX4_readsNumbers 41 = .ok (.if_icmp .ne 8, 3) := by decide +kernel
theorem dX4_readsNumbers_44 : decode cX4_readsNumbers 44 = .ok (.bipush 7, 2) := by decide +kernel
theorem dX4_readsNumbers_46 : decode cX4_readsNumbers 46 = .ok (.goto 5, 3) := by decide +kernel
theorem dX4_readsNumbers_49 : decode cX4_readsNumbers 49 = .ok (.bipush 11, 2) := by decide +kernel
theorem dX4_readsNumbers_51 : decode cX4_readsNumbers 51 = .ok (.invokevirtual 152, 3) := by decide +kernel
theorem dX4_readsNumbers_54 : decode cX4_readsNumbers 54 = .ok (.istore_n 1, 1) := by decide +kernel
theorem dX4_readsNumbers_55 : decode cX4_readsNumbers 55 = .ok (.aload_n 0, 1) := by decide +kernel
theorem dX4_readsNumbers_56 : decode cX4_readsNumbers 56 = .ok (.aload_n 0, 1) := by decide +kernel
theorem dX4_readsNumbers_57 : decode cX4_readsNumbers 57 = .ok (.getfield 146, 3) := by decide +kernel
theorem dX4_readsNumbers_60 : decode cX4_readsNumbers 60 = .ok (.putfield 155, 3) := by decide +kernel
theorem dX4_readsNumbers_63 : decode cX4_readsNumbers 63 = .ok (.iload_n 1, 1) := by decide +kernel
theorem dX4_readsNumbers_64 : decode cX4_readsNumbers 64 = .ok (.ifCond .eq 19, 3) := by decide +kernel
theorem dX4_readsNumbers_67 : decode cX4_readsNumbers 67 = .ok (.aload_n 0, 1) := by decide +kernel
theorem dX4_readsNumbers_68 : decode cX4_readsNumbers 68 = .ok (.getfield 149, 3) := by decide +kernel
theorem dX4_readsNumbers_71 : decode cX4_readsNumbers 71 = .ok (.iconst 1, 1) := by decide +kernel
theorem dX4_readsNumbers_72 : decode cX4_readsNumbers 72 = .ok (.if_icmp .eq 11, 3) := by decide +kernel
theorem dX4_readsNumbers_75 : decode cX4_readsNumbers 75 = .ok (.aload_n 0, 1) := by decide +kernel
theorem dX4_readsNumbers_76 : decode cX4_readsNumbers 76 = .ok (.getfield 149, 3) := by decide +kernel
theorem dX4_readsNumbers_79 : decode cX4_readsNumbers 79 = .ok (.iconst 3, 1) := by decide +kernel
theorem dX4_readsNumbers_80 : decode cX4_readsNumbers 80 = .ok (.if_icmp .ne 5, 3) := by decide +kernel
theorem dX4_readsNumbers_83 : decode cX4_readsNumbers 83 = .ok (.iload_n 1, 1) := by decide +kernel
theorem dX4_readsNumbers_84 : decode cX4_readsNumbers 84 = .ok (.ireturn, 1) := by decide +kernel
theorem dX4_readsNumbers_85 : decode cX4_readsNumbers 85 = .ok (.aload_n 0, 1) := by decide +kernel
theorem dX4_readsNumbers_86 : decode cX4_readsNumbers 86 = .ok (.getfield 149, 3) := by decide +kernel
theorem dX4_readsNumbers_89 : decode cX4_readsNumbers 89 = .ok (.iconst 4, 1) := by decide +kernel
theorem dX4_readsNumbers_90 : decode cX4_readsNumbers 90 = .ok (.if_icmp .ne 13, 3) := by decide +kernel
theorem dX4_readsNumbers_93 : decode cX4_readsNumbers 93 = .ok (.aload_n 0, 1) := by decide +kernel
theorem dX4_readsNumbers_94 : decode cX4_readsNumbers 94 = .ok (.iconst 0, 1) := by decide +kernel
theorem dX4_readsNumbers_95 : decode cX4_readsNumbers 95 = .ok (.bipush 9, 2) := by decide +kernel
theorem dX4_readsNumbers_97 : decode cX4_readsNumbers 97 = .ok (.invokevirtual 152, 3) := by decide +kernel
theorem dX4_readsNumbers_100 : decode cX4_readsNumbers 100 = .ok (.goto 13, 3) := by decide +kernel
theorem dX4_readsNumbers_103 : decode cX4_readsNumbers 103 = .ok (.aload_n 0, 1) := by decide +kernel
theorem dX4_readsNumbers_104 : decode cX4_readsNumbers 104 = .ok (.sipush (-999), 3) := by decide +kernel
theorem dX4_readsNumbers_107 : decode cX4_readsNumbers 107 = .ok (.sipush 999, 3) := by decide +kernel
theorem dX4_readsNumbers_110 : decode cX4_readsNumbers 110 = .ok (.invokevirtual 152, 3) := by decide +kernel
theorem dX4_readsNumbers_113 : decode cX4_readsNumbers 113 = .ok (.istore_n 1, 1) := by decide +kernel
theorem dX4_readsNumbers_114 : decode cX4_readsNumbers 114 = .ok (.aload_n 0, 1) := by decide +kernel
theorem dX4_readsNumbers_115 : decode cX4_readsNumbers 115 = .ok (.aload_n 0, 1) := by decide +kernel
theorem dX4_readsNumbers_116 : decode cX4_readsNumbers 116 = .ok (.getfield 146, 3) := by decide +kernel
theorem dX4_readsNumbers_119 : decode cX4_readsNumbers 119 = .ok (.putfield 158, 3) := by decide +kernel
theorem dX4_readsNumbers_122 : decode cX4_readsNumbers 122 = .ok (.iload_n 1, 1) := by decide +kernel
theorem dX4_readsNumbers_123 : decode cX4_readsNumbers 123 = .ok (.ireturn, 1) := by decide +kernel
set_option maxRecDepth 20000 in
theorem ggX4_readsCommand_X4_takes : GoodIn wsX4_readsCommand wsX4_takes := goodIn_r _ [11, 12, 13, 14, 15, 10, 16, 17, 18, 19, 20, 21, 38, 39, 40, 41, 42, 43, 44, 45, 46, 47, 48, 49, 50, 51, 52, 53] (by decide +kernel) (by decide +kernel)
set_option maxRecDepth 20000 in
theorem gX4_readsCommand_X4_takes : GoodIn wsX4_readsCommand (wsV RX4 143 RX4 yX4_takes wsX4_takes) := goodIn_app (goodIn_of _ (by decide +kernel)) ggX4_readsCommand_X4_takes
set_option maxRecDepth 20000 in
theorem ggX4_readsCommand_X4_readsLetters : GoodIn wsX4_readsCommand wsX4_readsLetters := goodIn_r _ [25, 26, 7, 8, 9, 10, 11, 12, 13, 14, 15, 16, 17, 18, 19, 20, 21, 38, 39, 40, 41, 42, 43, 44, 45, 46, 47, 48, 49, 50, 51, 52, 53] (by decide +kernel) (by decide +kernel)
set_option maxRecDepth 20000 in
theorem gX4_readsCommand_X4_readsLetters : GoodIn wsX4_readsCommand (wsV RX4 163 RX4 yX4_readsLetters wsX4_readsLetters) := goodIn_app (goodIn_of _ (by decide +kernel)) ggX4_readsCommand_X4_readsLetters
set_option maxRecDepth 20000 in
theorem ggX4_readsCommand_X4_readsNumbers : GoodIn wsX4_readsCommand wsX4_readsNumbers := goodIn_r _ [30, 1, 31, 32, 33, 34, 35, 36, 10, 37, 18, 12, 7, 8, 9, 11, 13, 14, 15, 16, 17, 19, 20, 21, 38, 39, 40, 41, 42, 43, 44, 45, 46, 47, 48, 49, 50, 51, 52, 53] (by decide +kernel) (by decide +kernel)
set_option maxRecDepth 20000 in
theorem gX4_readsCommand_X4_readsNumbers : GoodIn wsX4_readsCommand (wsV RX4 167 RX4 yX4_readsNumbers wsX4_readsNumbers) := goodIn_app (goodIn_of _ (by decide +kernel)) ggX4_readsCommand_X4_readsNumbers
set_option maxRecDepth 20000 in
theorem ggX4_readsCommand_X4_isHere : GoodIn wsX4_readsCommand wsX4_isHere := goodIn_r _ [16, 12, 17, 18, 19, 20, 10, 21, 38, 39, 40, 41, 42, 43, 44, 45, 46, 47, 48, 49, 50, 51, 52, 53] (by decide +kernel) (by decide +kernel)
set_option maxRecDepth 20000 in
theorem gX4_readsCommand_X4_isHere : GoodIn wsX4_readsCommand (wsV RX4 138 RX4 yX4_isHere wsX4_isHere) := goodIn_app (goodIn_of _ (by decide +kernel)) ggX4_readsCommand_X4_isHere
