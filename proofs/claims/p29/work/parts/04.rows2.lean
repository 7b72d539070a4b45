theorem dX2_init_0 : decode cX2_init 0 = .ok (.aload_n 0, 1) := by decide +kernel
theorem dX2_init_1 : decode cX2_init 1 = .ok (.invokespecial 3, 3) := by decide +kernel
theorem dX2_init_4 : decode cX2_init 4 = .ok (.aload_n 0, 1) := by decide +kernel
theorem dX2_init_5 : decode cX2_init 5 = .ok (.bipush 12, 2) := by decide +kernel
theorem dX2_init_7 : decode cX2_init 7 = .ok (.newarray .int, 2) := by decide +kernel
theorem dX2_init_9 : decode cX2_init 9 = .ok (.putfield 9, 3) := by decide +kernel
theorem dX2_init_12 : decode cX2_init 12 = .ok (.aload_n 0, 1) := by decide +kernel
theorem dX2_init_13 : decode cX2_init 13 = .ok (.bipush 12, 2) := by decide +kernel
theorem dX2_init_15 : decode cX2_init 15 = .ok (.newarray .int, 2) := by decide +kernel
theorem dX2_init_17 : decode cX2_init 17 = .ok (.putfield 15, 3) := by decide +kernel
theorem dX2_init_20 : decode cX2_init 20 = .ok (.aload_n 0, 1) := by decide +kernel
theorem dX2_init_21 : decode cX2_init 21 = .ok (.bipush 12, 2) := by decide +kernel
theorem dX2_init_23 : decode cX2_init 23 = .ok (.newarray .int, 2) := by decide +kernel
theorem dX2_init_25 : decode cX2_init 25 = .ok (.putfield 18, 3) := by decide +kernel
theorem dX2_init_28 : decode cX2_init 28 = .ok (.aload_n 0, 1) := by decide +kernel
theorem dX2_init_29 : decode cX2_init 29 = .ok (.bipush 12, 2) := by decide +kernel
theorem dX2_init_31 : decode cX2_init 31 = .ok (.newarray .boolean, 2) := by decide +kernel
theorem dX2_init_33 : decode cX2_init 33 = .ok (.putfield 21, 3) := by decide +kernel
theorem dX2_init_36 : decode cX2_init 36 = .ok (.aload_n 0, 1) := by decide +kernel
theorem dX2_init_37 : decode cX2_init 37 = .ok (.bipush 12, 2) := by decide +kernel
theorem dX2_init_39 : decode cX2_init 39 = .ok (.newarray .int, 2) := by decide +kernel
theorem dX2_init_41 : decode cX2_init 41 = .ok (.putfield 25, 3) := by decide +kernel
theorem dX2_init_44 : decode cX2_init 44 = .ok (.aload_n 0, 1) := by decide +kernel
theorem dX2_init_45 : decode cX2_init 45 = .ok (.bipush 12, 2) := by decide +kernel
theorem dX2_init_47 : decode cX2_init 47 = .ok (.newarray .int, 2) := by decide +kernel
theorem dX2_init_49 : decode cX2_init 49 = .ok (.putfield 28, 3) := by decide +kernel
theorem dX2_init_52 : decode cX2_init 52 = .ok (.aload_n 0, 1) := by decide +kernel
theorem dX2_init_53 : decode cX2_init 53 = .ok (.bipush 8, 2) := by decide +kernel
theorem dX2_init_55 : decode cX2_init 55 = .ok (.newarray .int, 2) := by decide +kernel
theorem dX2_init_57 : decode cX2_init 57 = .ok (.putfield 31, 3) := by decide +kernel
theorem dX2_init_60 : decode cX2_init 60 = .ok (.aload_n 0, 1) := by decide +kernel
theorem dX2_init_61 : decode cX2_init 61 = .ok (.iconst 4, 1) := by decide +kernel
theorem dX2_init_62 : decode cX2_init 62 = .ok (.newarray .int, 2) := by decide +kernel
theorem dX2_init_64 : decode cX2_init 64 = .ok (.putfield 34, 3) := by decide +kernel
theorem dX2_init_67 : decode cX2_init 67 = .ok (.aload_n 0, 1) := by decide +kernel
theorem dX2_init_68 : decode cX2_init 68 = .ok (.iconst 0, 1) := by decide +kernel
theorem dX2_init_69 : decode cX2_init 69 = .ok (.putfield 37, 3) := by decide +kernel
theorem dX2_init_72 : decode cX2_init 72 = .ok (.aload_n 0, 1) := by decide +kernel
theorem dX2_init_73 : decode cX2_init 73 = .ok (.iconst 0, 1) := by decide +kernel
theorem dX2_init_74 : decode cX2_init 74 = .ok (.putfield 41, 3) := by decide +kernel
theorem dX2_init_77 : decode cX2_init 77 = .ok (.aload_n 0, 1) := by decide +kernel
theorem dX2_init_78 : decode cX2_init 78 = .ok (.bipush 30, 2) := by decide +kernel
theorem dX2_init_80 : decode cX2_init 80 = .ok (.putfield 44, 3) := by decide +kernel
theorem dX2_init_83 : decode cX2_init 83 = .ok (.aload_n 0, 1) := by decide +kernel
theorem dX2_init_84 : decode cX2_init 84 = .ok (.iconst 1, 1) := by decide +kernel
theorem dX2_init_85 : decode cX2_init 85 = .ok (.putfield 47, 3) := by decide +kernel
theorem dX2_init_88 : decode cX2_init 88 = .ok (.iconst 0, 1) := by decide +kernel
theorem dX2_init_89 : decode cX2_init 89 = .ok (.istore_n 1, 1) := by decide +kernel
theorem dX2_init_90 : decode cX2_init 90 = .ok (.iload_n 1, 1) := by decide +kernel
theorem dX2_init_91 : decode cX2_init 91 = .ok (.bipush 12, 2) := by decide +kernel
theorem dX2_init_93 : decode cX2_init 93 = .ok (.if_icmp .ge 16, 3) := by decide +kernel
theorem dX2_init_96 : decode cX2_init 96 = .ok (.aload_n 0, 1) := by decide +kernel
theorem dX2_init_97 : decode cX2_init 97 = .ok (.getfield 15, 3) := by decide +kernel
theorem dX2_init_100 : decode cX2_init 100 = .ok (.iload_n 1, 1) := by decide +kernel
theorem dX2_init_101 : decode cX2_init 101 = .ok (.iconst (-1), 1) := by decide +kernel
theorem dX2_init_102 : decode cX2_init 102 = .ok (.iastore, 1) := by decide +kernel
theorem dX2_init_103 : decode cX2_init 103 = .ok (.iinc 1 1, 3) := by decide +kernel
theorem dX2_init_106 : decode cX2_init 106 = .ok (.goto (-16), 3) := by decide +kernel
theorem dX2_init_109 : decode cX2_init 109 = .ok (.iconst 0, 1) := by decide +kernel
theorem dX2_init_110 : decode cX2_init 110 = .ok (.istore_n 1, 1) := by decide +kernel
theorem dX2_init_111 : decode cX2_init 111 = .ok (.iload_n 1, 1) := by decide +kernel
theorem dX2_init_112 : decode cX2_init 112 = .ok (.bipush 8, 2) := by decide +kernel
theorem dX2_init_114 : decode cX2_init 114 = .ok (.if_icmp .ge 16, 3) := by decide +kernel
theorem dX2_init_117 : decode cX2_init 117 = .ok (.aload_n 0, 1) := by decide +kernel
theorem dX2_init_118 : decode cX2_init 118 = .ok (.getfield 31, 3) := by decide +kernel
theorem dX2_init_121 : decode cX2_init 121 = .ok (.iload_n 1, 1) := by decide +kernel
theorem dX2_init_122 : decode cX2_init 122 = .ok (.iconst 2, 1) := by decide +kernel
theorem dX2_init_123 : decode cX2_init 123 = .ok (.iastore, 1) := by decide +kernel
theorem dX2_init_124 : decode cX2_init 124 = .ok (.iinc 1 1, 3) := by decide +kernel
theorem dX2_init_127 : decode cX2_init 127 = .ok (.goto (-16), 3) := by decide +kernel
theorem dX2_init_130 : decode cX2_init 130 = .ok (.return_, 1) := by decide +kernel
theorem dX2_copyFrom_0 : decode cX2_copyFrom 0 = .ok (.aload_n 1, 1) := by decide +kernel
theorem dX2_copyFrom_1 : decode cX2_copyFrom 1 = .ok (.ifnonnull 4, 3) := by decide +kernel
theorem dX2_copyFrom_4 : decode cX2_copyFrom 4 = .ok (.return_, 1) := by decide +kernel
theorem dX2_copyFrom_5 : decode cX2_copyFrom 5 = .ok (.iconst 0, 1) := by decide +kernel
theorem dX2_copyFrom_6 : decode cX2_copyFrom 6 = .ok (.istore_n 2, 1) := by decide +kernel
theorem dX2_copyFrom_7 : decode cX2_copyFrom 7 = .ok (.iload_n 2, 1) := by decide +kernel
theorem dX2_copyFrom_8 : decode cX2_copyFrom 8 = .ok (.bipush 12, 2) := by decide +kernel
theorem dX2_copyFrom_10 : decode cX2_copyFrom 10 = .ok (.if_icmp .ge 81, 3) := by decide +kernel
theorem dX2_copyFrom_13 : decode cX2_copyFrom 13 = .ok (.aload_n 0, 1) := by decide +kernel
theorem dX2_copyFrom_14 : decode cX2_copyFrom 14 = .ok (.getfield 9, 3) := by decide +kernel
theorem dX2_copyFrom_17 : decode cX2_copyFrom 17 = .ok (.iload_n 2, 1) := by decide +kernel
theorem dX2_copyFrom_18 : decode cX2_copyFrom 18 = .ok (.aload_n 1, 1) := by decide +kernel
theorem dX2_copyFrom_19 : decode cX2_copyFrom 19 = .ok (.getfield 9, 3) := by decide +kernel
theorem dX2_copyFrom_22 : decode cX2_copyFrom 22 = .ok (.iload_n 2, 1) := by decide +kernel
theorem dX2_copyFrom_23 : decode cX2_copyFrom 23 = .ok (.iaload, 1) := by decide +kernel
theorem dX2_copyFrom_24 : decode cX2_copyFrom 24 = .ok (.iastore, 1) := by decide +kernel
theorem dX2_copyFrom_25 : decode cX2_copyFrom 25 = .ok (.aload_n 0, 1) := by decide +kernel
theorem dX2_copyFrom_26 : decode cX2_copyFrom 26 = .ok (.getfield 15, 3) := by decide +kernel
theorem dX2_copyFrom_29 : decode cX2_copyFrom 29 = .ok (.iload_n 2, 1) := by decide +kernel
theorem dX2_copyFrom_30 : decode cX2_copyFrom 30 = .ok (.aload_n 1, 1) := by decide +kernel
theorem dX2_copyFrom_31 : decode cX2_copyFrom 31 = .ok (.getfield 15, 3) := by decide +kernel
theorem dX2_copyFrom_34 : decode cX2_copyFrom 34 = .ok (.iload_n 2, 1) := by decide +kernel
theorem dX2_copyFrom_35 : decode cX2_copyFrom 35 = .ok (.iaload, 1) := by decide +kernel
theorem dX2_copyFrom_36 : decode cX2_copyFrom 36 = .ok (.iastore, 1) := by decide +kernel
theorem dX2_copyFrom_37 : decode cX2_copyFrom 37 = .ok (.aload_n 0, 1) := by decide +kernel
theorem dX2_copyFrom_38 : decode cX2_copyFrom 38 = .ok (.getfield 18, 3) := by decide +kernel
theorem dX2_copyFrom_41 : decode cX2_copyFrom 41 = .ok (.iload_n 2, 1) := by decide +kernel
theorem dX2_copyFrom_42 : decode cX2_copyFrom 42 = .ok (.aload_n 1, 1) := by decide +kernel
theorem dX2_copyFrom_43 : decode cX2_copyFrom 43 = .ok (.getfield 18, 3) := by decide +kernel
theorem dX2_copyFrom_46 : decode cX2_copyFrom 46 = .ok (.iload_n 2, 1) := by decide +kernel
theorem dX2_copyFrom_47 : decode cX2_copyFrom 47 = .ok (.iaload, 1) := by decide +kernel
theorem dX2_copyFrom_48 : decode cX2_copyFrom 48 = .ok (.iastore, 1) := by decide +kernel
theorem dX2_copyFrom_49 : decode cX2_copyFrom 49 = .ok (.aload_n 0, 1) := by decide +kernel
theorem dX2_copyFrom_50 : decode cX2_copyFrom 50 = .ok (.getfield 21, 3) := by decide +kernel
theorem dX2_copyFrom_53 : decode cX2_copyFrom 53 = .ok (.iload_n 2, 1) := by decide +kernel
theorem dX2_copyFrom_54 : decode cX2_copyFrom 54 = .ok (.aload_n 1, 1) := by decide +kernel
theorem dX2_copyFrom_55 : decode cX2_copyFrom 55 = .ok (.getfield 21, 3) := by decide +kernel
theorem dX2_copyFrom_58 : decode cX2_copyFrom 58 = .ok (.iload_n 2, 1) := by decide +kernel
theorem dX2_copyFrom_59 : decode cX2_copyFrom 59 = .ok (.baload, 1) := by decide +kernel
theorem dX2_copyFrom_60 : decode cX2_copyFrom 60 = .ok (.bastore, 1) := by decide +kernel
theorem dX2_copyFrom_61 : decode cX2_copyFrom 61 = .ok (.aload_n 0, 1) := by decide +kernel
theorem dX2_copyFrom_62 : decode cX2_copyFrom 62 = .ok (.getfield 25, 3) := by decide +kernel
theorem dX2_copyFrom_65 : decode cX2_copyFrom 65 = .ok (.iload_n 2, 1) := by decide +kernel
theorem dX2_copyFrom_66 : decode cX2_copyFrom 66 = .ok (.aload_n 1, 1) := by decide +kernel
theorem dX2_copyFrom_67 : decode cX2_copyFrom 67 = .ok (.getfield 25, 3) := by decide +kernel
theorem dX2_copyFrom_70 : decode cX2_copyFrom 70 = .ok (.iload_n 2, 1) := by decide +kernel
theorem dX2_copyFrom_71 : decode cX2_copyFrom 71 = .ok (.iaload, 1) := by decide +kernel
theorem dX2_copyFrom_72 : decode cX2_copyFrom 72 = .ok (.iastore, 1) := by decide +kernel
theorem dX2_copyFrom_73 : decode cX2_copyFrom 73 = .ok (.aload_n 0, 1) := by decide +kernel
theorem dX2_copyFrom_74 : decode cX2_copyFrom 74 = .ok (.getfield 28, 3) := by decide +kernel
theorem dX2_copyFrom_77 : decode cX2_copyFrom 77 = .ok (.iload_n 2, 1) := by decide +kernel
theorem dX2_copyFrom_78 : decode cX2_copyFrom 78 = .ok (.aload_n 1, 1) := by decide +kernel
theorem dX2_copyFrom_79 : decode cX2_copyFrom 79 = .ok (.getfield 28, 3) := by decide +kernel
theorem dX2_copyFrom_82 : decode cX2_copyFrom 82 = .ok (.iload_n 2, 1) := by decide +kernel
theorem dX2_copyFrom_83 : decode cX2_copyFrom 83 = .ok (.iaload, 1) := by decide +kernel
theorem dX2_copyFrom_84 : decode cX2_copyFrom 84 = .ok (.iastore, 1) := by decide +kernel
theorem dX2_copyFrom_85 : decode cX2_copyFrom 85 = .ok (.iinc 2 1, 3) := by decide +kernel
theorem dX2_copyFrom_88 : decode cX2_copyFrom 88 = .ok (.goto (-81), 3) := by decide +kernel
theorem dX2_copyFrom_91 : decode cX2_copyFrom 91 = .ok (.iconst 0, 1) := by decide +kernel
theorem dX2_copyFrom_92 : decode cX2_copyFrom 92 = .ok (.istore_n 2, 1) := by decide +kernel
theorem dX2_copyFrom_93 : decode cX2_copyFrom 93 = .ok (.iload_n 2, 1) := by decide +kernel
theorem dX2_copyFrom_94 : decode cX2_copyFrom 94 = .ok (.bipush 8, 2) := by decide +kernel
theorem dX2_copyFrom_96 : decode cX2_copyFrom 96 = .ok (.if_icmp .ge 21, 3) := by decide +kernel
theorem dX2_copyFrom_99 : decode cX2_copyFrom 99 = .ok (.aload_n 0, 1) := by decide +kernel
theorem dX2_copyFrom_100 : decode cX2_copyFrom 100 = .ok (.getfield 31, 3) := by decide +kernel
theorem dX2_copyFrom_103 : decode cX2_copyFrom 103 = .ok (.iload_n 2, 1) := by decide +kernel
theorem dX2_copyFrom_104 : decode cX2_copyFrom 104 = .ok (.aload_n 1, 1) := by decide +kernel
theorem dX2_copyFrom_105 : decode cX2_copyFrom 105 = .ok (.getfield 31, 3) := by decide +kernel
theorem dX2_copyFrom_108 : decode cX2_copyFrom 108 = .ok (.iload_n 2, 1) := by decide +kernel
theorem dX2_copyFrom_109 : decode cX2_copyFrom 109 = .ok (.iaload, 1) := by decide +kernel
theorem dX2_copyFrom_110 : decode cX2_copyFrom 110 = .ok (.iastore, 1) := by decide +kernel
theorem dX2_copyFrom_111 : decode cX2_copyFrom 111 = .ok (.iinc 2 1, 3) := by decide +kernel
theorem dX2_copyFrom_114 : decode cX2_copyFrom 114 = .ok (.goto (-21), 3) := by decide +kernel
theorem dX2_copyFrom_117 : decode cX2_copyFrom 117 = .ok (.iconst 0, 1) := by decide +kernel
theorem dX2_copyFrom_118 : decode cX2_copyFrom 118 = .ok (.istore_n 2, 1) := by decide +kernel
theorem dX2_copyFrom_119 : decode cX2_copyFrom 119 = .ok (.iload_n 2, 1) := by decide +kernel
theorem dX2_copyFrom_120 : decode cX2_copyFrom 120 = .ok (.iconst 4, 1) := by decide +kernel
theorem dX2_copyFrom_121 : decode cX2_copyFrom 121 = .ok (.if_icmp .ge 21, 3) := by decide +kernel
theorem dX2_copyFrom_124 : decode cX2_copyFrom 124 = .ok (.aload_n 0, 1) := by decide +kernel
theorem dX2_copyFrom_125 : decode cX2_copyFrom 125 = .ok (.getfield 34, 3) := by decide +kernel
theorem dX2_copyFrom_128 : decode cX2_copyFrom 128 = .ok (.iload_n 2, 1) := by decide +kernel
theorem dX2_copyFrom_129 : decode cX2_copyFrom 129 = .ok (.aload_n 1, 1) := by decide +kernel
theorem dX2_copyFrom_130 : decode cX2_copyFrom 130 = .ok (.getfield 34, 3) := by decide +kernel
theorem dX2_copyFrom_133 : decode cX2_copyFrom 133 = .ok (.iload_n 2, 1) := by decide +kernel
theorem dX2_copyFrom_134 : decode cX2_copyFrom 134 = .ok (.iaload, 1) := by decide +kernel
theorem dX2_copyFrom_135 : decode cX2_copyFrom 135 = .ok (.iastore, 1) := by decide +kernel
theorem dX2_copyFrom_136 : decode cX2_copyFrom 136 = .ok (.iinc 2 1, 3) := by decide +kernel
theorem dX2_copyFrom_139 : decode cX2_copyFrom 139 = .ok (.goto (-20), 3) := by decide +kernel
theorem dX2_copyFrom_142 : decode cX2_copyFrom 142 = .ok (.aload_n 0, 1) := by decide +kernel
theorem dX2_copyFrom_143 : decode cX2_copyFrom 143 = .ok (.aload_n 1, 1) := by decide +kernel
theorem dX2_copyFrom_144 : decode cX2_copyFrom 144 = .ok (.getfield 37, 3) := by decide +kernel
theorem dX2_copyFrom_147 : decode cX2_copyFrom 147 = .ok (.putfield 37, 3) := by decide +kernel
theorem dX2_copyFrom_150 : decode cX2_copyFrom 150 = .ok (.aload_n 0, 1) := by decide +kernel
theorem dX2_copyFrom_151 : decode cX2_copyFrom 151 = .ok (.aload_n 1, 1) := by decide +kernel
theorem dX2_copyFrom_152 : decode cX2_copyFrom 152 = .ok (.getfield 41, 3) := by decide +kernel
theorem dX2_copyFrom_155 : decode cX2_copyFrom 155 = .ok (.putfield 41, 3) := by decide +kernel
theorem dX2_copyFrom_158 : decode cX2_copyFrom 158 = .ok (.aload_n 0, 1) := by decide +kernel
theorem dX2_copyFrom_159 : decode cX2_copyFrom 159 = .ok (.aload_n 1, 1) := by decide +kernel
theorem dX2_copyFrom_160 : decode cX2_copyFrom 160 = .ok (.getfield 44, 3) := by decide +kernel
theorem dX2_copyFrom_163 : decode cX2_copyFrom 163 = .ok (.putfield 44, 3) := by decide +kernel
theorem dX2_copyFrom_166 : decode cX2_copyFrom 166 = .ok (.aload_n 0, 1) := by decide +kernel
theorem dX2_copyFrom_167 : decode cX2_copyFrom 167 = .ok (.aload_n 1, 1) := by decide +kernel
theorem dX2_copyFrom_168 : decode cX2_copyFrom 168 = .ok (.getfield 47, 3) := by decide +kernel
theorem dX2_copyFrom_171 : decode cX2_copyFrom 171 = .ok (.putfield 47, 3) := by decide +kernel
theorem dX2_copyFrom_174 : decode cX2_copyFrom 174 = .ok (.return_, 1) := by decide +kernel
set_option maxRecDepth 20000 in
theorem ggX2_launch_X3_isString : GoodIn wsX2_launch wsX3_isString := goodIn_r _ [9] (by decide +kernel) (by decide +kernel)
set_option maxRecDepth 20000 in
theorem gX2_launch_X3_isString_n50 : GoodIn wsX2_launch (wsX3_isString) := ggX2_launch_X3_isString
set_option maxRecDepth 20000 in
theorem ggX2_launch_X3_isNumber : GoodIn wsX2_launch wsX3_isNumber := goodIn_r _ [11] (by decide +kernel) (by decide +kernel)
set_option maxRecDepth 20000 in
theorem gX2_launch_X3_isNumber_n54 : GoodIn wsX2_launch (wsX3_isNumber) := ggX2_launch_X3_isNumber
set_option maxRecDepth 20000 in
theorem ggX2_launch_X2_landing : GoodIn wsX2_launch wsX2_landing := goodIn_r _ [16, 17, 18, 19, 15, 20, 1, 2, 21, 22, 23, 24, 25, 26, 27, 28, 29, 30, 31, 32] (by decide +kernel) (by decide +kernel)
set_option maxRecDepth 20000 in
theorem gX2_launch_X2_landing : GoodIn wsX2_launch (wsV RX2 57 RX2 yX2_landing wsX2_landing) := goodIn_app (goodIn_of _ (by decide +kernel)) ggX2_launch_X2_landing
theorem dX2_launch_0 : decode cX2_launch 0 = .ok (.iload_n 1, 1) := by decide +kernel
theorem dX2_launch_1 : decode cX2_launch 1 = .ok (.invokestatic 50, 3) := by decide +kernel
theorem dX2_launch_4 : decode cX2_launch 4 = .ok (.ifCond .ne 7, 3) := by decide +kernel
theorem dX2_launch_7 : decode cX2_launch 7 = .ok (.sipush (-10001), 3) := by decide +kernel
theorem dX2_launch_10 : decode cX2_launch 10 = .ok (.ireturn, 1) := by decide +kernel
theorem dX2_launch_11 : decode cX2_launch 11 = .ok (.iload_n 2, 1) := by decide +kernel
theorem dX2_launch_12 : decode cX2_launch 12 = .ok (.invokestatic 54, 3) := by decide +kernel
theorem dX2_launch_15 : decode cX2_launch 15 = .ok (.ifCond .ne 7, 3) := by decide +kernel
theorem dX2_launch_18 : decode cX2_launch 18 = .ok (.sipush (-10002), 3) := by decide +kernel
theorem dX2_launch_21 : decode cX2_launch 21 = .ok (.ireturn, 1) := by decide +kernel
theorem dX2_launch_22 : decode cX2_launch 22 = .ok (.iconst 0, 1) := by decide +kernel
theorem dX2_launch_23 : decode cX2_launch 23 = .ok (.istore_n 3, 1) := by decide +kernel
theorem dX2_launch_24 : decode cX2_launch 24 = .ok (.iload_n 3, 1) := by decide +kernel
theorem dX2_launch_25 : decode cX2_launch 25 = .ok (.bipush 12, 2) := by decide +kernel
theorem dX2_launch_27 : decode cX2_launch 27 = .ok (.if_icmp .ge 68, 3) := by decide +kernel
theorem dX2_launch_30 : decode cX2_launch 30 = .ok (.aload_n 0, 1) := by decide +kernel
theorem dX2_launch_31 : decode cX2_launch 31 = .ok (.getfield 15, 3) := by decide +kernel
theorem dX2_launch_34 : decode cX2_launch 34 = .ok (.iload_n 3, 1) := by decide +kernel
theorem dX2_launch_35 : decode cX2_launch 35 = .ok (.iaload, 1) := by decide +kernel
theorem dX2_launch_36 : decode cX2_launch 36 = .ok (.iconst (-1), 1) := by decide +kernel
theorem dX2_launch_37 : decode cX2_launch 37 = .ok (.if_icmp .ne 52, 3) := by decide +kernel
theorem dX2_launch_40 : decode cX2_launch 40 = .ok (.aload_n 0, 1) := by decide +kernel
theorem dX2_launch_41 : decode cX2_launch 41 = .ok (.getfield 18, 3) := by decide +kernel
theorem dX2_launch_44 : decode cX2_launch 44 = .ok (.iload_n 3, 1) := by decide +kernel
theorem dX2_launch_45 : decode cX2_launch 45 = .ok (.aload_n 0, 1) := by decide +kernel
theorem dX2_launch_46 : decode cX2_launch 46 = .ok (.iload_n 1, 1) := by decide +kernel
theorem dX2_launch_47 : decode cX2_launch 47 = .ok (.iconst 0, 1) := by decide +kernel
theorem dX2_launch_48 : decode cX2_launch 48 = .ok (.invokevirtual 57, 3) := by decide +kernel
theorem dX2_launch_51 : decode cX2_launch 51 = .ok (.iastore, 1) := by decide +kernel
theorem dX2_launch_52 : decode cX2_launch 52 = .ok (.aload_n 0, 1) := by decide +kernel
theorem dX2_launch_53 : decode cX2_launch 53 = .ok (.getfield 15, 3) := by decide +kernel
theorem dX2_launch_56 : decode cX2_launch 56 = .ok (.iload_n 3, 1) := by decide +kernel
theorem dX2_launch_57 : decode cX2_launch 57 = .ok (.iload_n 1, 1) := by decide +kernel
theorem dX2_launch_58 : decode cX2_launch 58 = .ok (.iastore, 1) := by decide +kernel
theorem dX2_launch_59 : decode cX2_launch 59 = .ok (.aload_n 0, 1) := by decide +kernel
theorem dX2_launch_60 : decode cX2_launch 60 = .ok (.getfield 9, 3) := by decide +kernel
theorem dX2_launch_63 : decode cX2_launch 63 = .ok (.iload_n 3, 1) := by decide +kernel
theorem dX2_launch_64 : decode cX2_launch 64 = .ok (.iload_n 2, 1) := by decide +kernel
theorem dX2_launch_65 : decode cX2_launch 65 = .ok (.iastore, 1) := by decide +kernel
theorem dX2_launch_66 : decode cX2_launch 66 = .ok (.aload_n 0, 1) := by decide +kernel
theorem dX2_launch_67 : decode cX2_launch 67 = .ok (.getfield 21, 3) := by decide +kernel
theorem dX2_launch_70 : decode cX2_launch 70 = .ok (.iload_n 3, 1) := by decide +kernel
theorem dX2_launch_71 : decode cX2_launch 71 = .ok (.iconst 0, 1) := by decide +kernel
theorem dX2_launch_72 : decode cX2_launch 72 = .ok (.bastore, 1) := by decide +kernel
theorem dX2_launch_73 : decode cX2_launch 73 = .ok (.aload_n 0, 1) := by decide +kernel
theorem dX2_launch_74 : decode cX2_launch 74 = .ok (.getfield 25, 3) := by decide +kernel
theorem dX2_launch_77 : decode cX2_launch 77 = .ok (.iload_n 3, 1) := by decide +kernel
theorem dX2_launch_78 : decode cX2_launch 78 = .ok (.iconst 0, 1) := by decide +kernel
theorem dX2_launch_79 : decode cX2_launch 79 = .ok (.iastore, 1) := by decide +kernel
theorem dX2_launch_80 : decode cX2_launch 80 = .ok (.aload_n 0, 1) := by decide +kernel
theorem dX2_launch_81 : decode cX2_launch 81 = .ok (.getfield 28, 3) := by decide +kernel
theorem dX2_launch_84 : decode cX2_launch 84 = .ok (.iload_n 3, 1) := by decide +kernel
theorem dX2_launch_85 : decode cX2_launch 85 = .ok (.iconst 0, 1) := by decide +kernel
theorem dX2_launch_86 : decode cX2_launch 86 = .ok (.iastore, 1) := by decide +kernel
theorem dX2_launch_87 : decode cX2_launch 87 = .ok (.iload_n 3, 1) := by decide +kernel
theorem dX2_launch_88 : decode cX2_launch 88 = .ok (.ireturn, 1) := by decide +kernel
theorem dX2_launch_89 : decode cX2_launch 89 = .ok (.iinc 3 1, 3) := by decide +kernel
theorem dX2_launch_92 : decode cX2_launch 92 = .ok (.goto (-68), 3) := by decide +kernel
theorem dX2_launch_95 : decode cX2_launch 95 = .ok (.sipush (-10003), 3) := by decide +kernel
theorem dX2_launch_98 : decode cX2_launch 98 = .ok (.ireturn, 1) := by decide +kernel
set_option maxRecDepth 20000 in
theorem ggX2_remove_X2_isKite : GoodIn wsX2_remove wsX2_isKite := goodIn_r _ [7, 1, 8, 9, 10, 11, 12, 13, 14, 15, 16, 17, 18, 19] (by decide +kernel) (by decide +kernel)
set_option maxRecDepth 20000 in
theorem gX2_remove_X2_isKite : GoodIn wsX2_remove (wsV RX2 61 RX2 yX2_isKite wsX2_isKite) := goodIn_app (goodIn_of _ (by decide +kernel)) ggX2_remove_X2_isKite
theorem dX2_remove_0 : decode cX2_remove 0 = .ok (.aload_n 0, 1) := by decide +kernel
theorem dX2_remove_1 : decode cX2_remove 1 = .ok (.iload_n 1, 1) := by decide +kernel
theorem dX2_remove_2 : decode cX2_remove 2 = .ok (.invokevirtual 61, 3) := by decide +kernel
theorem dX2_remove_5 : decode cX2_remove 5 = .ok (.ifCond .ne 7, 3) := by decide +kernel
theorem dX2_remove_8 : decode cX2_remove 8 = .ok (.sipush (-10001), 3) := by decide +kernel
theorem dX2_remove_11 : decode cX2_remove 11 = .ok (.ireturn, 1) := by decide +kernel
theorem dX2_remove_12 : decode cX2_remove 12 = .ok (.aload_n 0, 1) := by decide +kernel
theorem dX2_remove_13 : decode cX2_remove 13 = .ok (.getfield 15, 3) := by decide +kernel
theorem dX2_remove_16 : decode cX2_remove 16 = .ok (.iload_n 1, 1) := by decide +kernel
theorem dX2_remove_17 : decode cX2_remove 17 = .ok (.iconst (-1), 1) := by decide +kernel
theorem dX2_remove_18 : decode cX2_remove 18 = .ok (.iastore, 1) := by decide +kernel
theorem dX2_remove_19 : decode cX2_remove 19 = .ok (.aload_n 0, 1) := by decide +kernel
theorem dX2_remove_20 : decode cX2_remove 20 = .ok (.getfield 9, 3) := by decide +kernel
theorem dX2_remove_23 : decode cX2_remove 23 = .ok (.iload_n 1, 1) := by decide +kernel
theorem dX2_remove_24 : decode cX2_remove 24 = .ok (.iaload, 1) := by decide +kernel
theorem dX2_remove_25 : decode cX2_remove 25 = .ok (.ireturn, 1) := by decide +kernel
set_option maxRecDepth 20000 in
theorem ggX2_raise_X2_isKite : GoodIn wsX2_raise wsX2_isKite := goodIn_r _ [13, 1, 57, 58, 59, 60, 61, 62, 63, 64, 65, 66, 67, 68] (by decide +kernel) (by decide +kernel)
set_option maxRecDepth 20000 in
theorem gX2_raise_X2_isKite : GoodIn wsX2_raise (wsV RX2 61 RX2 yX2_isKite wsX2_isKite) := goodIn_app (goodIn_of _ (by decide +kernel)) ggX2_raise_X2_isKite
set_option maxRecDepth 20000 in
theorem ggX2_raise_X2_windNow : GoodIn wsX2_raise wsX2_windNow := goodIn_r _ [17, 18, 19, 20, 12, 21, 22, 23, 24, 25, 26, 27, 28, 29, 30, 31, 32, 33, 34, 57, 58, 59, 60, 61, 62, 63, 64, 65, 66, 67, 68] (by decide +kernel) (by decide +kernel)
set_option maxRecDepth 20000 in
theorem gX2_raise_X2_windNow : GoodIn wsX2_raise (wsV RX2 64 RX2 yX2_windNow wsX2_windNow) := goodIn_app (goodIn_of _ (by decide +kernel)) ggX2_raise_X2_windNow
set_option maxRecDepth 20000 in
theorem ggX2_raise_X2_risen : GoodIn wsX2_raise wsX2_risen := goodIn_r _ [38, 39, 40, 41, 12, 42, 43, 44, 45, 46, 1, 2, 57, 58, 59, 60, 61, 62, 63, 64, 65, 66, 67, 68] (by decide +kernel) (by decide +kernel)
set_option maxRecDepth 20000 in
theorem gX2_raise_X2_risen : GoodIn wsX2_raise (wsV RX2 68 RX2 yX2_risen wsX2_risen) := goodIn_app (goodIn_of _ (by decide +kernel)) ggX2_raise_X2_risen
set_option maxRecDepth 20000 in
theorem ggX2_raise_X2_countCutFrom : GoodIn wsX2_raise wsX2_countCutFrom := goodIn_r _ [50, 51, 52, 33, 53, 57, 58, 59, 60, 61, 62, 63, 64, 65, 66, 67, 68] (by decide +kernel) (by decide +kernel)
set_option maxRecDepth 20000 in
theorem gX2_raise_X2_countCutFrom : GoodIn wsX2_raise (wsV RX2 72 RX2 yX2_countCutFrom wsX2_countCutFrom) := goodIn_app (goodIn_of _ (by decide +kernel)) ggX2_raise_X2_countCutFrom
set_option maxRecDepth 20000 in
theorem ggX2_raise_X2_behind : GoodIn wsX2_raise wsX2_behind := goodIn_r _ [56] (by decide +kernel) (by decide +kernel)
set_option maxRecDepth 20000 in
theorem gX2_raise_X2_behind : GoodIn wsX2_raise (va_wsS RX2 76 yX2_behind wsX2_behind) := goodIn_app (goodIn_of _ (by decide +kernel)) ggX2_raise_X2_behind
set_option maxRecDepth 20000 in
theorem ggX2_raise_X2_landing : GoodIn wsX2_raise wsX2_landing := goodIn_r _ [42, 43, 44, 45, 12, 46, 1, 2, 57, 58, 59, 60, 61, 62, 63, 64, 65, 66, 67, 68] (by decide +kernel) (by decide +kernel)
set_option maxRecDepth 20000 in
theorem gX2_raise_X2_landing : GoodIn wsX2_raise (wsV RX2 57 RX2 yX2_landing wsX2_landing) := goodIn_app (goodIn_of _ (by decide +kernel)) ggX2_raise_X2_landing
theorem dX2_raise_0 : decode cX2_raise 0 = .ok (.aload_n 0, 1) := by decide +kernel
theorem dX2_raise_1 : decode cX2_raise 1 = .ok (.iload_n 1, 1) := by decide +kernel
theorem dX2_raise_2 : decode cX2_raise 2 = .ok (.invokevirtual 61, 3) := by decide +kernel
theorem dX2_raise_5 : decode cX2_raise 5 = .ok (.ifCond .ne 7, 3) := by decide +kernel
theorem dX2_raise_8 : decode cX2_raise 8 = .ok (.sipush (-10001), 3) := by decide +kernel
theorem dX2_raise_11 : decode cX2_raise 11 = .ok (.ireturn, 1) := by decide +kernel
theorem dX2_raise_12 : decode cX2_raise 12 = .ok (.aload_n 0, 1) := by decide +kernel
theorem dX2_raise_13 : decode cX2_raise 13 = .ok (.getfield 15, 3) := by decide +kernel
theorem dX2_raise_16 : decode cX2_raise 16 = .ok (.iload_n 1, 1) := by decide +kernel
theorem dX2_raise_17 : decode cX2_raise 17 = .ok (.iaload, 1) := by decide +kernel
theorem dX2_raise_18 : decode cX2_raise 18 = .ok (.istore_n 2, 1) := by decide +kernel
theorem dX2_raise_19 : decode cX2_raise 19 = .ok (.aload_n 0, 1) := by decide +kernel
theorem dX2_raise_20 : decode cX2_raise 20 = .ok (.iload_n 2, 1) := by decide +kernel
theorem dX2_raise_21 : decode cX2_raise 21 = .ok (.aload_n 0, 1) := by decide +kernel
theorem dX2_raise_22 : decode cX2_raise 22 = .ok (.getfield 18, 3) := by decide +kernel
theorem dX2_raise_25 : decode cX2_raise 25 = .ok (.iload_n 1, 1) := by decide +kernel
theorem dX2_raise_26 : decode cX2_raise 26 = .ok (.iaload, 1) := by decide +kernel
theorem dX2_raise_27 : decode cX2_raise 27 = .ok (.aload_n 0, 1) := by decide +kernel
theorem dX2_raise_28 : decode cX2_raise 28 = .ok (.invokevirtual 64, 3) := by decide +kernel
theorem dX2_raise_31 : decode cX2_raise 31 = .ok (.invokevirtual 68, 3) := by decide +kernel
theorem dX2_raise_34 : decode cX2_raise 34 = .ok (.istore_n 3, 1) := by decide +kernel
theorem dX2_raise_35 : decode cX2_raise 35 = .ok (.iload_n 3, 1) := by decide +kernel
theorem dX2_raise_36 : decode cX2_raise 36 = .ok (.aload_n 0, 1) := by decide +kernel
theorem dX2_raise_37 : decode cX2_raise 37 = .ok (.getfield 44, 3) := by decide +kernel
theorem dX2_raise_40 : decode cX2_raise 40 = .ok (.if_icmp .le 30, 3) := by decide +kernel
theorem dX2_raise_43 : decode cX2_raise 43 = .ok (.aload_n 0, 1) := by decide +kernel
theorem dX2_raise_44 : decode cX2_raise 44 = .ok (.getfield 28, 3) := by decide +kernel
theorem dX2_raise_47 : decode cX2_raise 47 = .ok (.iload_n 1, 1) := by decide +kernel
theorem dX2_raise_48 : decode cX2_raise 48 = .ok (.dup2, 1) := by decide +kernel
theorem dX2_raise_49 : decode cX2_raise 49 = .ok (.iaload, 1) := by decide +kernel
theorem dX2_raise_50 : decode cX2_raise 50 = .ok (.iconst 1, 1) := by decide +kernel
theorem dX2_raise_51 : decode cX2_raise 51 = .ok (.iadd, 1) := by decide +kernel
theorem dX2_raise_52 : decode cX2_raise 52 = .ok (.iastore, 1) := by decide +kernel
theorem dX2_raise_53 : decode cX2_raise 53 = .ok (.aload_n 0, 1) := by decide +kernel
theorem dX2_raise_54 : decode cX2_raise 54 = .ok (.iload_n 2, 1) := by decide +kernel
theorem dX2_raise_55 : decode cX2_raise 55 = .ok (.invokevirtual 72, 3) := by decide +kernel
theorem dX2_raise_58 : decode cX2_raise 58 = .ok (.iload_n 2, 1) := by decide +kernel
theorem dX2_raise_59 : decode cX2_raise 59 = .ok (.invokestatic 76, 3) := by decide +kernel
theorem dX2_raise_62 : decode cX2_raise 62 = .ok (.istore_n 2, 1) := by decide +kernel
theorem dX2_raise_63 : decode cX2_raise 63 = .ok (.aload_n 0, 1) := by decide +kernel
theorem dX2_raise_64 : decode cX2_raise 64 = .ok (.iload_n 2, 1) := by decide +kernel
theorem dX2_raise_65 : decode cX2_raise 65 = .ok (.iconst 0, 1) := by decide +kernel
theorem dX2_raise_66 : decode cX2_raise 66 = .ok (.invokevirtual 57, 3) := by decide +kernel
theorem dX2_raise_69 : decode cX2_raise 69 = .ok (.istore_n 3, 1) := by decide +kernel
theorem dX2_raise_70 : decode cX2_raise 70 = .ok (.aload_n 0, 1) := by decide +kernel
theorem dX2_raise_71 : decode cX2_raise 71 = .ok (.getfield 15, 3) := by decide +kernel
theorem dX2_raise_74 : decode cX2_raise 74 = .ok (.iload_n 1, 1) := by decide +kernel
theorem dX2_raise_75 : decode cX2_raise 75 = .ok (.iload_n 2, 1) := by decide +kernel
theorem dX2_raise_76 : decode cX2_raise 76 = .ok (.iastore, 1) := by decide +kernel
theorem dX2_raise_77 : decode cX2_raise 77 = .ok (.aload_n 0, 1) := by decide +kernel
theorem dX2_raise_78 : decode cX2_raise 78 = .ok (.getfield 18, 3) := by decide +kernel
theorem dX2_raise_81 : decode cX2_raise 81 = .ok (.iload_n 1, 1) := by decide +kernel
theorem dX2_raise_82 : decode cX2_raise 82 = .ok (.iload_n 3, 1) := by decide +kernel
theorem dX2_raise_83 : decode cX2_raise 83 = .ok (.iastore, 1) := by decide +kernel
theorem dX2_raise_84 : decode cX2_raise 84 = .ok (.aload_n 0, 1) := by decide +kernel
theorem dX2_raise_85 : decode cX2_raise 85 = .ok (.getfield 21, 3) := by decide +kernel
theorem dX2_raise_88 : decode cX2_raise 88 = .ok (.iload_n 1, 1) := by decide +kernel
theorem dX2_raise_89 : decode cX2_raise 89 = .ok (.iconst 1, 1) := by decide +kernel
theorem dX2_raise_90 : decode cX2_raise 90 = .ok (.bastore, 1) := by decide +kernel
theorem dX2_raise_91 : decode cX2_raise 91 = .ok (.aload_n 0, 1) := by decide +kernel
theorem dX2_raise_92 : decode cX2_raise 92 = .ok (.getfield 25, 3) := by decide +kernel
theorem dX2_raise_95 : decode cX2_raise 95 = .ok (.iload_n 1, 1) := by decide +kernel
theorem dX2_raise_96 : decode cX2_raise 96 = .ok (.dup2, 1) := by decide +kernel
theorem dX2_raise_97 : decode cX2_raise 97 = .ok (.iaload, 1) := by decide +kernel
theorem dX2_raise_98 : decode cX2_raise 98 = .ok (.iconst 1, 1) := by decide +kernel
theorem dX2_raise_99 : decode cX2_raise 99 = .ok (.iadd, 1) := by decide +kernel
theorem dX2_raise_100 : decode cX2_raise 100 = .ok (.iastore, 1) := by decide +kernel
theorem dX2_raise_101 : decode cX2_raise 101 = .ok (.aload_n 0, 1) := by decide +kernel
theorem dX2_raise_102 : decode cX2_raise 102 = .ok (.dup, 1) := by decide +kernel
theorem dX2_raise_103 : decode cX2_raise 103 = .ok (.getfield 41, 3) := by decide +kernel
theorem dX2_raise_106 : decode cX2_raise 106 = .ok (.iconst 1, 1) := by decide +kernel
theorem dX2_raise_107 : decode cX2_raise 107 = .ok (.iadd, 1) := by decide +kernel
theorem dX2_raise_108 : decode cX2_raise 108 = .ok (.putfield 41, 3) := by decide +kernel
theorem dX2_raise_111 : decode cX2_raise 111 = .ok (.aload_n 0, 1) := by decide +kernel
theorem dX2_raise_112 : decode cX2_raise 112 = .ok (.getfield 9, 3) := by decide +kernel
theorem dX2_raise_115 : decode cX2_raise 115 = .ok (.iload_n 1, 1) := by decide +kernel
theorem dX2_raise_116 : decode cX2_raise 116 = .ok (.iaload, 1) := by decide +kernel
theorem dX2_raise_117 : decode cX2_raise 117 = .ok (.ireturn, 1) := by decide +kernel
set_option maxRecDepth 20000 in
theorem ggX2_renumber_X2_isKite : GoodIn wsX2_renumber wsX2_isKite := goodIn_r _ [7, 8, 12, 13, 14, 15, 16, 17, 18, 19, 20, 21, 22, 23] (by decide +kernel) (by decide +kernel)
set_option maxRecDepth 20000 in
theorem gX2_renumber_X2_isKite : GoodIn wsX2_renumber (wsV RX2 61 RX2 yX2_isKite wsX2_isKite) := goodIn_app (goodIn_of _ (by decide +kernel)) ggX2_renumber_X2_isKite
set_option maxRecDepth 20000 in
theorem ggX2_renumber_X3_isNumber : GoodIn wsX2_renumber wsX3_isNumber := goodIn_r _ [11] (by decide +kernel) (by decide +kernel)
set_option maxRecDepth 20000 in
theorem gX2_renumber_X3_isNumber_n54 : GoodIn wsX2_renumber (wsX3_isNumber) := ggX2_renumber_X3_isNumber
theorem dX2_renumber_0 : decode cX2_renumber 0 = .ok (.aload_n 0, 1) := by decide +kernel
theorem dX2_renumber_1 : decode cX2_renumber 1 = .ok (.iload_n 1, 1) := by decide +kernel
theorem dX2_renumber_2 : decode cX2_renumber 2 = .ok (.invokevirtual 61, 3) := by decide +kernel
theorem dX2_renumber_5 : decode cX2_renumber 5 = .ok (.ifCond .ne 7, 3) := by decide +kernel
theorem dX2_renumber_8 : decode cX2_renumber 8 = .ok (.sipush (-10001), 3) := by decide +kernel
theorem dX2_renumber_11 : decode cX2_renumber 11 = .ok (.ireturn, 1) := by decide +kernel
theorem dX2_renumber_12 : decode cX2_renumber 12 = .ok (.iload_n 2, 1) := by decide +kernel
theorem dX2_renumber_13 : decode cX2_renumber 13 = .ok (.invokestatic 54, 3) := by decide +kernel
theorem dX2_renumber_16 : decode cX2_renumber 16 = .ok (.ifCond .ne 7, 3) := by decide +kernel
theorem dX2_renumber_19 : decode cX2_renumber 19 = .ok (.sipush (-10002), 3) := by decide +kernel
theorem dX2_renumber_22 : decode cX2_renumber 22 = .ok (.ireturn, 1) := by decide +kernel
theorem dX2_renumber_23 : decode cX2_renumber 23 = .ok (.aload_n 0, 1) := by decide +kernel
theorem dX2_renumber_24 : decode cX2_renumber 24 = .ok (.getfield 9, 3) := by decide +kernel
theorem dX2_renumber_27 : decode cX2_renumber 27 = .ok (.iload_n 1, 1) := by decide +kernel
theorem dX2_renumber_28 : decode cX2_renumber 28 = .ok (.iaload, 1) := by decide +kernel
theorem dX2_renumber_29 : decode cX2_renumber 29 = .ok (.istore_n 3, 1) := by decide +kernel
theorem dX2_renumber_30 : decode cX2_renumber 30 = .ok (.aload_n 0, 1) := by decide +kernel
theorem dX2_renumber_31 : decode cX2_renumber 31 = .ok (.getfield 9, 3) := by decide +kernel
theorem dX2_renumber_34 : decode cX2_renumber 34 = .ok (.iload_n 1, 1) := by decide +kernel
theorem dX2_renumber_35 : decode cX2_renumber 35 = .ok (.iload_n 2, 1) := by decide +kernel
theorem dX2_renumber_36 : decode cX2_renumber 36 = .ok (.iastore, 1) := by decide +kernel
theorem dX2_renumber_37 : decode cX2_renumber 37 = .ok (.aload_n 0, 1) := by decide +kernel
theorem dX2_renumber_38 : decode cX2_renumber 38 = .ok (.getfield 21, 3) := by decide +kernel
theorem dX2_renumber_41 : decode cX2_renumber 41 = .ok (.iload_n 1, 1) := by decide +kernel
theorem dX2_renumber_42 : decode cX2_renumber 42 = .ok (.iconst 1, 1) := by decide +kernel
theorem dX2_renumber_43 : decode cX2_renumber 43 = .ok (.bastore, 1) := by decide +kernel
theorem dX2_renumber_44 : decode cX2_renumber 44 = .ok (.iload_n 3, 1) := by decide +kernel
theorem dX2_renumber_45 : decode cX2_renumber 45 = .ok (.ireturn, 1) := by decide +kernel
set_option maxRecDepth 20000 in
theorem ggX2_shift_X2_isKite : GoodIn wsX2_shift wsX2_isKite := goodIn_r _ [7, 1, 19, 20, 21, 22, 23, 24, 25, 26, 27, 28, 29, 30] (by decide +kernel) (by decide +kernel)
set_option maxRecDepth 20000 in
theorem gX2_shift_X2_isKite : GoodIn wsX2_shift (wsV RX2 61 RX2 yX2_isKite wsX2_isKite) := goodIn_app (goodIn_of _ (by decide +kernel)) ggX2_shift_X2_isKite
set_option maxRecDepth 20000 in
theorem ggX2_shift_X3_isString : GoodIn wsX2_shift wsX3_isString := goodIn_r _ [10] (by decide +kernel) (by decide +kernel)
set_option maxRecDepth 20000 in
theorem gX2_shift_X3_isString_n50 : GoodIn wsX2_shift (wsX3_isString) := ggX2_shift_X3_isString
set_option maxRecDepth 20000 in
theorem ggX2_shift_X2_landing : GoodIn wsX2_shift wsX2_landing := goodIn_r _ [14, 15, 16, 17, 6, 18, 1, 2, 19, 20, 21, 22, 23, 24, 25, 26, 27, 28, 29, 30] (by decide +kernel) (by decide +kernel)
set_option maxRecDepth 20000 in
theorem gX2_shift_X2_landing : GoodIn wsX2_shift (wsV RX2 57 RX2 yX2_landing wsX2_landing) := goodIn_app (goodIn_of _ (by decide +kernel)) ggX2_shift_X2_landing
theorem dX2_shift_0 : decode cX2_shift 0 = .ok (.aload_n 0, 1) := by decide +kernel
theorem dX2_shift_1 : decode cX2_shift 1 = .ok (.iload_n 1, 1) := by decide +kernel
theorem dX2_shift_2 : decode cX2_shift 2 = .ok (.invokevirtual 61, 3) := by decide +kernel
theorem dX2_shift_5 : decode cX2_shift 5 = .ok (.ifCond .eq 10, 3) := by decide +kernel
theorem dX2_shift_8 : decode cX2_shift 8 = .ok (.iload_n 2, 1) := by decide +kernel
theorem dX2_shift_9 : decode cX2_shift 9 = .ok (.invokestatic 50, 3) := by decide +kernel
theorem dX2_shift_12 : decode cX2_shift 12 = .ok (.ifCond .ne 7, 3) := by decide +kernel
theorem dX2_shift_15 : decode cX2_shift 15 = .ok (.sipush (-10001), 3) := by decide +kernel
theorem dX2_shift_18 : decode cX2_shift 18 = .ok (.ireturn, 1) := by decide +kernel
theorem dX2_shift_19 : decode cX2_shift 19 = .ok (.aload_n 0, 1) := by decide +kernel
theorem dX2_shift_20 : decode cX2_shift 20 = .ok (.getfield 15, 3) := by decide +kernel
theorem dX2_shift_23 : decode cX2_shift 23 = .ok (.iload_n 1, 1) := by decide +kernel
theorem dX2_shift_24 : decode cX2_shift 24 = .ok (.iaload, 1) := by decide +kernel
theorem dX2_shift_25 : decode cX2_shift 25 = .ok (.iload_n 2, 1) := by decide +kernel
theorem dX2_shift_26 : decode cX2_shift 26 = .ok (.if_icmp .ne 7, 3) := by decide +kernel
theorem dX2_shift_29 : decode cX2_shift 29 = .ok (.sipush (-10005), 3) := by decide +kernel
theorem dX2_shift_32 : decode cX2_shift 32 = .ok (.ireturn, 1) := by decide +kernel
theorem dX2_shift_33 : decode cX2_shift 33 = .ok (.aload_n 0, 1) := by decide +kernel
theorem dX2_shift_34 : decode cX2_shift 34 = .ok (.getfield 18, 3) := by decide +kernel
theorem dX2_shift_37 : decode cX2_shift 37 = .ok (.iload_n 1, 1) := by decide +kernel
theorem dX2_shift_38 : decode cX2_shift 38 = .ok (.aload_n 0, 1) := by decide +kernel
theorem dX2_shift_39 : decode cX2_shift 39 = .ok (.iload_n 2, 1) := by decide +kernel
theorem dX2_shift_40 : decode cX2_shift 40 = .ok (.aload_n 0, 1) := by decide +kernel
theorem dX2_shift_41 : decode cX2_shift 41 = .ok (.getfield 18, 3) := by decide +kernel
theorem dX2_shift_44 : decode cX2_shift 44 = .ok (.iload_n 1, 1) := by decide +kernel
theorem dX2_shift_45 : decode cX2_shift 45 = .ok (.iaload, 1) := by decide +kernel
theorem dX2_shift_46 : decode cX2_shift 46 = .ok (.invokevirtual 57, 3) := by decide +kernel
theorem dX2_shift_49 : decode cX2_shift 49 = .ok (.iastore, 1) := by decide +kernel
theorem dX2_shift_50 : decode cX2_shift 50 = .ok (.aload_n 0, 1) := by decide +kernel
theorem dX2_shift_51 : decode cX2_shift 51 = .ok (.getfield 15, 3) := by decide +kernel
theorem dX2_shift_54 : decode cX2_shift 54 = .ok (.iload_n 1, 1) := by decide +kernel
theorem dX2_shift_55 : decode cX2_shift 55 = .ok (.iload_n 2, 1) := by decide +kernel
theorem dX2_shift_56 : decode cX2_shift 56 = .ok (.iastore, 1) := by decide +kernel
theorem dX2_shift_57 : decode cX2_shift 57 = .ok (.aload_n 0, 1) := by decide +kernel
theorem dX2_shift_58 : decode cX2_shift 58 = .ok (.getfield 18, 3) := by decide +kernel
theorem dX2_shift_61 : decode cX2_shift 61 = .ok (.iload_n 1, 1) := by decide +kernel
theorem dX2_shift_62 : decode cX2_shift 62 = .ok (.iaload, 1) := by decide +kernel
theorem dX2_shift_63 : decode cX2_shift 63 = .ok (.ireturn, 1) := by decide +kernel
set_option maxRecDepth 20000 in
theorem ggX2_passBeats_X2_sinkString : GoodIn wsX2_passBeats wsX2_sinkString := goodIn_r _ [6, 7, 8, 9, 10, 11, 12, 13, 14, 15, 16, 5, 17, 18, 19, 20, 21, 22, 23, 36, 37, 38, 39, 40, 41, 42, 43, 44, 45, 46, 47] (by decide +kernel) (by decide +kernel)
set_option maxRecDepth 20000 in
theorem gX2_passBeats_X2_sinkString : GoodIn wsX2_passBeats (wsV RX2 80 RX2 yX2_sinkString wsX2_sinkString) := goodIn_app (goodIn_of _ (by decide +kernel)) ggX2_passBeats_X2_sinkString
set_option maxRecDepth 20000 in
theorem ggX2_passBeats_X2_endFreshness : GoodIn wsX2_passBeats wsX2_endFreshness := goodIn_r _ [27, 8, 36, 37, 38, 39, 40, 41, 42, 43, 44, 45, 46, 47] (by decide +kernel) (by decide +kernel)
set_option maxRecDepth 20000 in
theorem gX2_passBeats_X2_endFreshness : GoodIn wsX2_passBeats (wsV RX2 83 RX2 yX2_endFreshness wsX2_endFreshness) := goodIn_app (goodIn_of _ (by decide +kernel)) ggX2_passBeats_X2_endFreshness
set_option maxRecDepth 20000 in
theorem ggX2_passBeats_X2_beatNow : GoodIn wsX2_passBeats wsX2_beatNow := goodIn_r _ [31, 1, 32, 33, 34, 35, 36, 37, 38, 39, 40, 41, 42, 43, 44, 45, 46, 47] (by decide +kernel) (by decide +kernel)
set_option maxRecDepth 20000 in
theorem gX2_passBeats_X2_beatNow : GoodIn wsX2_passBeats (wsV RX2 86 RX2 yX2_beatNow wsX2_beatNow) := goodIn_app (goodIn_of _ (by decide +kernel)) ggX2_passBeats_X2_beatNow
theorem dX2_passBeats_0 : decode cX2_passBeats 0 = .ok (.iload_n 1, 1) := by decide +kernel
theorem dX2_passBeats_1 : decode cX2_passBeats 1 = .ok (.iconst 1, 1) := by decide +kernel
theorem dX2_passBeats_2 : decode cX2_passBeats 2 = .ok (.if_icmp .lt 9, 3) := by decide +kernel
theorem dX2_passBeats_5 : decode cX2_passBeats 5 = .ok (.iload_n 1, 1) := by decide +kernel
theorem dX2_passBeats_6 : decode cX2_passBeats 6 = .ok (.bipush 100, 2) := by decide +kernel
theorem dX2_passBeats_8 : decode cX2_passBeats 8 = .ok (.if_icmp .le 7, 3) := by decide +kernel
theorem dX2_passBeats_11 : decode cX2_passBeats 11 = .ok (.sipush (-10002), 3) := by decide +kernel
theorem dX2_passBeats_14 : decode cX2_passBeats 14 = .ok (.ireturn, 1) := by decide +kernel
theorem dX2_passBeats_15 : decode cX2_passBeats 15 = .ok (.iconst 0, 1) := by decide +kernel
theorem dX2_passBeats_16 : decode cX2_passBeats 16 = .ok (.istore_n 2, 1) := by decide +kernel
theorem dX2_passBeats_17 : decode cX2_passBeats 17 = .ok (.iload_n 2, 1) := by decide +kernel
theorem dX2_passBeats_18 : decode cX2_passBeats 18 = .ok (.iload_n 1, 1) := by decide +kernel
theorem dX2_passBeats_19 : decode cX2_passBeats 19 = .ok (.if_icmp .ge 41, 3) := by decide +kernel
theorem dX2_passBeats_22 : decode cX2_passBeats 22 = .ok (.iconst 0, 1) := by decide +kernel
theorem dX2_passBeats_23 : decode cX2_passBeats 23 = .ok (.istore_n 3, 1) := by decide +kernel
theorem dX2_passBeats_24 : decode cX2_passBeats 24 = .ok (.iload_n 3, 1) := by decide +kernel
theorem dX2_passBeats_25 : decode cX2_passBeats 25 = .ok (.iconst 4, 1) := by decide +kernel
theorem dX2_passBeats_26 : decode cX2_passBeats 26 = .ok (.if_icmp .ge 14, 3) := by decide +kernel
theorem dX2_passBeats_29 : decode cX2_passBeats 29 = .ok (.aload_n 0, 1) := by decide +kernel
theorem dX2_passBeats_30 : decode cX2_passBeats 30 = .ok (.iload_n 3, 1) := by decide +kernel
theorem dX2_passBeats_31 : decode cX2_passBeats 31 = .ok (.invokevirtual 80, 3) := by decide +kernel
theorem dX2_passBeats_34 : decode cX2_passBeats 34 = .ok (.iinc 3 1, 3) := by decide +kernel
theorem dX2_passBeats_37 : decode cX2_passBeats 37 = .ok (.goto (-13), 3) := by decide +kernel
theorem dX2_passBeats_40 : decode cX2_passBeats 40 = .ok (.aload_n 0, 1) := by decide +kernel
theorem dX2_passBeats_41 : decode cX2_passBeats 41 = .ok (.invokevirtual 83, 3) := by decide +kernel
theorem dX2_passBeats_44 : decode cX2_passBeats 44 = .ok (.aload_n 0, 1) := by decide +kernel
theorem dX2_passBeats_45 : decode cX2_passBeats 45 = .ok (.dup, 1) := by decide +kernel
theorem dX2_passBeats_46 : decode cX2_passBeats 46 = .ok (.getfield 37, 3) := by decide +kernel
theorem dX2_passBeats_49 : decode cX2_passBeats 49 = .ok (.iconst 1, 1) := by decide +kernel
theorem dX2_passBeats_50 : decode cX2_passBeats 50 = .ok (.iadd, 1) := by decide +kernel
theorem dX2_passBeats_51 : decode cX2_passBeats 51 = .ok (.putfield 37, 3) := by decide +kernel
theorem dX2_passBeats_54 : decode cX2_passBeats 54 = .ok (.iinc 2 1, 3) := by decide +kernel
theorem dX2_passBeats_57 : decode cX2_passBeats 57 = .ok (.goto (-40), 3) := by decide +kernel
theorem dX2_passBeats_60 : decode cX2_passBeats 60 = .ok (.aload_n 0, 1) := by decide +kernel
theorem dX2_passBeats_61 : decode cX2_passBeats 61 = .ok (.invokevirtual 86, 3) := by decide +kernel
theorem dX2_passBeats_64 : decode cX2_passBeats 64 = .ok (.ireturn, 1) := by decide +kernel
set_option maxRecDepth 20000 in
theorem ggX2_changeWind_X3_isBeat : GoodIn wsX2_changeWind wsX3_isBeat := goodIn_r _ [4] (by decide +kernel) (by decide +kernel)
set_option maxRecDepth 20000 in
theorem gX2_changeWind_X3_isBeat_n89 : GoodIn wsX2_changeWind (wsX3_isBeat) := ggX2_changeWind_X3_isBeat
theorem dX2_changeWind_0 : decode cX2_changeWind 0 = .ok (.iload_n 1, 1) := by decide +kernel
theorem dX2_changeWind_1 : decode cX2_changeWind 1 = .ok (.invokestatic 89, 3) := by decide +kernel
theorem dX2_changeWind_4 : decode cX2_changeWind 4 = .ok (.ifCond .ne 7, 3) := by decide +kernel
theorem dX2_changeWind_7 : decode cX2_changeWind 7 = .ok (.sipush (-10001), 3) := by decide +kernel
theorem dX2_changeWind_10 : decode cX2_changeWind 10 = .ok (.ireturn, 1) := by decide +kernel
theorem dX2_changeWind_11 : decode cX2_changeWind 11 = .ok (.iload_n 2, 1) := by decide +kernel
theorem dX2_changeWind_12 : decode cX2_changeWind 12 = .ok (.ifCond .lt 9, 3) := by decide +kernel
theorem dX2_changeWind_15 : decode cX2_changeWind 15 = .ok (.iload_n 2, 1) := by decide +kernel
theorem dX2_changeWind_16 : decode cX2_changeWind 16 = .ok (.bipush 9, 2) := by decide +kernel
theorem dX2_changeWind_18 : decode cX2_changeWind 18 = .ok (.if_icmp .le 7, 3) := by decide +kernel
theorem dX2_changeWind_21 : decode cX2_changeWind 21 = .ok (.sipush (-10002), 3) := by decide +kernel
theorem dX2_changeWind_24 : decode cX2_changeWind 24 = .ok (.ireturn, 1) := by decide +kernel
theorem dX2_changeWind_25 : decode cX2_changeWind 25 = .ok (.aload_n 0, 1) := by decide +kernel
theorem dX2_changeWind_26 : decode cX2_changeWind 26 = .ok (.getfield 31, 3) := by decide +kernel
theorem dX2_changeWind_29 : decode cX2_changeWind 29 = .ok (.iload_n 1, 1) := by decide +kernel
theorem dX2_changeWind_30 : decode cX2_changeWind 30 = .ok (.iaload, 1) := by decide +kernel
theorem dX2_changeWind_31 : decode cX2_changeWind 31 = .ok (.istore_n 3, 1) := by decide +kernel
theorem dX2_changeWind_32 : decode cX2_changeWind 32 = .ok (.iload_n 3, 1) := by decide +kernel
theorem dX2_changeWind_33 : decode cX2_changeWind 33 = .ok (.iload_n 2, 1) := by decide +kernel
theorem dX2_changeWind_34 : decode cX2_changeWind 34 = .ok (.if_icmp .ne 7, 3) := by decide +kernel
theorem dX2_changeWind_37 : decode cX2_changeWind 37 = .ok (.sipush (-10005), 3) := by decide +kernel
theorem dX2_changeWind_40 : decode cX2_changeWind 40 = .ok (.ireturn, 1) := by decide +kernel
theorem dX2_changeWind_41 : decode cX2_changeWind 41 = .ok (.aload_n 0, 1) := by decide +kernel
theorem dX2_changeWind_42 : decode cX2_changeWind 42 = .ok (.getfield 31, 3) := by decide +kernel
theorem dX2_changeWind_45 : decode cX2_changeWind 45 = .ok (.iload_n 1, 1) := by decide +kernel
theorem dX2_changeWind_46 : decode cX2_changeWind 46 = .ok (.iload_n 2, 1) := by decide +kernel
theorem dX2_changeWind_47 : decode cX2_changeWind 47 = .ok (.iastore, 1) := by decide +kernel
theorem dX2_changeWind_48 : decode cX2_changeWind 48 = .ok (.iload_n 3, 1) := by decide +kernel
theorem dX2_changeWind_49 : decode cX2_changeWind 49 = .ok (.ireturn, 1) := by decide +kernel
set_option maxRecDepth 20000 in
theorem ggX2_changeSetting_X2_changeCut : GoodIn wsX2_changeSetting wsX2_changeCut := goodIn_r _ [5, 6, 12, 13, 14, 15, 16, 17, 18, 19, 20, 21, 22, 23] (by decide +kernel) (by decide +kernel)
set_option maxRecDepth 20000 in
theorem gX2_changeSetting_X2_changeCut : GoodIn wsX2_changeSetting (wsV RX2 92 RX2 yX2_changeCut wsX2_changeCut) := goodIn_app (goodIn_of _ (by decide +kernel)) ggX2_changeSetting_X2_changeCut
set_option maxRecDepth 20000 in
theorem ggX2_changeSetting_X2_changeSinking : GoodIn wsX2_changeSetting wsX2_changeSinking := goodIn_r _ [10, 11, 12, 13, 14, 15, 16, 17, 18, 19, 20, 21, 22, 23] (by decide +kernel) (by decide +kernel)
set_option maxRecDepth 20000 in
theorem gX2_changeSetting_X2_changeSinking : GoodIn wsX2_changeSetting (wsV RX2 95 RX2 yX2_changeSinking wsX2_changeSinking) := goodIn_app (goodIn_of _ (by decide +kernel)) ggX2_changeSetting_X2_changeSinking
theorem dX2_changeSetting_0 : decode cX2_changeSetting 0 = .ok (.iload_n 1, 1) := by decide +kernel
theorem dX2_changeSetting_1 : decode cX2_changeSetting 1 = .ok (.lookupswitch 39 #[(0, 27), (1, 33)], 27) := by decide +kernel
theorem dX2_changeSetting_28 : decode cX2_changeSetting 28 = .ok (.aload_n 0, 1) := by decide +kernel
theorem dX2_changeSetting_29 : decode cX2_changeSetting 29 = .ok (.iload_n 2, 1) := by decide +kernel
theorem dX2_changeSetting_30 : decode cX2_changeSetting 30 = .ok (.invokevirtual 92, 3) := by decide +kernel
theorem dX2_changeSetting_33 : decode cX2_changeSetting 33 = .ok (.ireturn, 1) := by decide +kernel
theorem dX2_changeSetting_34 : decode cX2_changeSetting 34 = .ok (.aload_n 0, 1) := by decide +kernel
theorem dX2_changeSetting_35 : decode cX2_changeSetting 35 = .ok (.iload_n 2, 1) := by decide +kernel
theorem dX2_changeSetting_36 : decode cX2_changeSetting 36 = .ok (.invokevirtual 95, 3) := by decide +kernel
theorem dX2_changeSetting_39 : decode cX2_changeSetting 39 = .ok (.ireturn, 1) := by decide +kernel
theorem dX2_changeSetting_40 : decode cX2_changeSetting 40 = .ok (.sipush (-10001), 3) := by decide +kernel
theorem dX2_changeSetting_43 : decode cX2_changeSetting 43 = .ok (.ireturn, 1) := by decide +kernel
theorem dX2_changeCut_0 : decode cX2_changeCut 0 = .ok (.iload_n 1, 1) := by decide +kernel
theorem dX2_changeCut_1 : decode cX2_changeCut 1 = .ok (.iconst 5, 1) := by decide +kernel
theorem dX2_changeCut_2 : decode cX2_changeCut 2 = .ok (.if_icmp .lt 9, 3) := by decide +kernel
theorem dX2_changeCut_5 : decode cX2_changeCut 5 = .ok (.iload_n 1, 1) := by decide +kernel
theorem dX2_changeCut_6 : decode cX2_changeCut 6 = .ok (.bipush 80, 2) := by decide +kernel
theorem dX2_changeCut_8 : decode cX2_changeCut 8 = .ok (.if_icmp .le 7, 3) := by decide +kernel
theorem dX2_changeCut_11 : decode cX2_changeCut 11 = .ok (.sipush (-10002), 3) := by decide +kernel
theorem dX2_changeCut_14 : decode cX2_changeCut 14 = .ok (.ireturn, 1) := by decide +kernel
theorem dX2_changeCut_15 : decode cX2_changeCut 15 = .ok (.aload_n 0, 1) := by decide +kernel
theorem dX2_changeCut_16 : decode cX2_changeCut 16 = .ok (.getfield 44, 3) := by decide +kernel
theorem dX2_changeCut_19 : decode cX2_changeCut 19 = .ok (.istore_n 2, 1) := by decide +kernel
theorem dX2_changeCut_20 : decode cX2_changeCut 20 = .ok (.iload_n 2, 1) := by decide +kernel
theorem dX2_changeCut_21 : decode cX2_changeCut 21 = .ok (.iload_n 1, 1) := by decide +kernel
theorem dX2_changeCut_22 : decode cX2_changeCut 22 = .ok (.if_icmp .ne 7, 3) := by decide +kernel
theorem dX2_changeCut_25 : decode cX2_changeCut 25 = .ok (.sipush (-10005), 3) := by decide +kernel
theorem dX2_changeCut_28 : decode cX2_changeCut 28 = .ok (.ireturn, 1) := by decide +kernel
theorem dX2_changeCut_29 : decode cX2_changeCut 29 = .ok (.aload_n 0, 1) := by decide +kernel
theorem dX2_changeCut_30 : decode cX2_changeCut 30 = .ok (.iload_n 1, 1) := by decide +kernel
theorem dX2_changeCut_31 : decode cX2_changeCut 31 = .ok (.putfield 44, 3) := by decide +kernel
theorem dX2_changeCut_34 : decode cX2_changeCut 34 = .ok (.iload_n 2, 1) := by decide +kernel
theorem dX2_changeCut_35 : decode cX2_changeCut 35 = .ok (.ireturn, 1) := by decide +kernel
theorem dX2_changeSinking_0 : decode cX2_changeSinking 0 = .ok (.iload_n 1, 1) := by decide +kernel
theorem dX2_changeSinking_1 : decode cX2_changeSinking 1 = .ok (.ifCond .lt 9, 3) := by decide +kernel
theorem dX2_changeSinking_4 : decode cX2_changeSinking 4 = .ok (.iload_n 1, 1) := by decide +kernel
theorem dX2_changeSinking_5 : decode cX2_changeSinking 5 = .ok (.bipush 9, 2) := by decide +kernel
theorem dX2_changeSinking_7 : decode cX2_changeSinking 7 = .ok (.if_icmp .le 7, 3) := by decide +kernel
theorem dX2_changeSinking_10 : decode cX2_changeSinking 10 = .ok (.sipush (-10002), 3) := by decide +kernel
theorem dX2_changeSinking_13 : decode cX2_changeSinking 13 = .ok (.ireturn, 1) := by decide +kernel
theorem dX2_changeSinking_14 : decode cX2_changeSinking 14 = .ok (.aload_n 0, 1) := by decide +kernel
theorem dX2_changeSinking_15 : decode cX2_changeSinking 15 = .ok (.getfield 47, 3) := by decide +kernel
theorem dX2_changeSinking_18 : decode cX2_changeSinking 18 = .ok (.istore_n 2, 1) := by decide +kernel
theorem dX2_changeSinking_19 : decode cX2_changeSinking 19 = .ok (.iload_n 2, 1) := by decide +kernel
theorem dX2_changeSinking_20 : decode cX2_changeSinking 20 = .ok (.iload_n 1, 1) := by decide +kernel
theorem dX2_changeSinking_21 : decode cX2_changeSinking 21 = .ok (.if_icmp .ne 7, 3) := by decide +kernel
theorem dX2_changeSinking_24 : decode cX2_changeSinking 24 = .ok (.sipush (-10005), 3) := by decide +kernel
theorem dX2_changeSinking_27 : decode cX2_changeSinking 27 = .ok (.ireturn, 1) := by decide +kernel
theorem dX2_changeSinking_28 : decode cX2_changeSinking 28 = .ok (.aload_n 0, 1) := by decide +kernel
theorem dX2_changeSinking_29 : decode cX2_changeSinking 29 = .ok (.iload_n 1, 1) := by decide +kernel
theorem dX2_changeSinking_30 : decode cX2_changeSinking 30 = .ok (.putfield 47, 3) := by decide +kernel
theorem dX2_changeSinking_33 : decode cX2_changeSinking 33 = .ok (.iload_n 2, 1) := by decide +kernel
theorem dX2_changeSinking_34 : decode cX2_changeSinking 34 = .ok (.ireturn, 1) := by decide +kernel
set_option maxRecDepth 20000 in
theorem ggX2_carryOut_X2_launch : GoodIn wsX2_carryOut wsX2_launch := goodIn_r _ [5, 6, 7, 8, 9, 10, 11, 12, 13, 14, 15, 16, 17, 18, 19, 4, 20, 21, 22, 23, 24, 97, 98, 99, 100, 101, 102, 103, 104, 105, 106, 107, 108] (by decide +kernel) (by decide +kernel)
set_option maxRecDepth 20000 in
theorem gX2_carryOut_X2_launch : GoodIn wsX2_carryOut (wsV RX2 98 RX2 yX2_launch wsX2_launch) := goodIn_app (goodIn_of _ (by decide +kernel)) ggX2_carryOut_X2_launch
set_option maxRecDepth 20000 in
theorem ggX2_carryOut_X2_raise : GoodIn wsX2_carryOut wsX2_raise := goodIn_r _ [28, 6, 7, 29, 11, 9, 10, 30, 8, 31, 32, 33, 4, 34, 35, 36, 37, 38, 39, 40, 41, 42, 43, 44, 45, 46, 47, 48, 49, 50, 51, 52, 53, 13, 54, 55, 56, 57, 58, 17, 18, 19, 20, 21, 22, 23, 24, 59, 60, 61, 62, 63, 12, 14, 64, 65, 66, 97, 98, 99, 100, 101, 102, 103, 104, 105, 106, 107, 108] (by decide +kernel) (by decide +kernel)
set_option maxRecDepth 20000 in
theorem gX2_carryOut_X2_raise : GoodIn wsX2_carryOut (wsV RX2 101 RX2 yX2_raise wsX2_raise) := goodIn_app (goodIn_of _ (by decide +kernel)) ggX2_carryOut_X2_raise
set_option maxRecDepth 20000 in
theorem ggX2_carryOut_X2_renumber : GoodIn wsX2_carryOut wsX2_renumber := goodIn_r _ [70, 8, 9, 31, 32, 33, 4, 34, 6, 15, 13, 16, 97, 98, 99, 100, 101, 102, 103, 104, 105, 106, 107, 108] (by decide +kernel) (by decide +kernel)
set_option maxRecDepth 20000 in
theorem gX2_carryOut_X2_renumber : GoodIn wsX2_carryOut (wsV RX2 104 RX2 yX2_renumber wsX2_renumber) := goodIn_app (goodIn_of _ (by decide +kernel)) ggX2_carryOut_X2_renumber
set_option maxRecDepth 20000 in
theorem ggX2_carryOut_X2_passBeats : GoodIn wsX2_carryOut wsX2_passBeats := goodIn_r _ [74, 43, 75, 76, 77, 4, 78, 7, 9, 79, 80, 81, 82, 83, 84, 85, 86, 87, 88, 6, 31, 32, 33, 34, 89, 90, 91, 92, 39, 40, 41, 42, 44, 45, 46, 47, 97, 98, 99, 100, 101, 102, 103, 104, 105, 106, 107, 108] (by decide +kernel) (by decide +kernel)
set_option maxRecDepth 20000 in
theorem gX2_carryOut_X2_passBeats : GoodIn wsX2_carryOut (wsV RX2 107 RX2 yX2_passBeats wsX2_passBeats) := goodIn_app (goodIn_of _ (by decide +kernel)) ggX2_carryOut_X2_passBeats
set_option maxRecDepth 20000 in
theorem ggX2_carryOut_X2_changeWind : GoodIn wsX2_carryOut wsX2_changeWind := goodIn_r _ [96, 52, 53, 13, 54, 97, 98, 99, 100, 101, 102, 103, 104, 105, 106, 107, 108] (by decide +kernel) (by decide +kernel)
set_option maxRecDepth 20000 in
theorem gX2_carryOut_X2_changeWind : GoodIn wsX2_carryOut (wsV RX2 110 RX2 yX2_changeWind wsX2_changeWind) := goodIn_app (goodIn_of _ (by decide +kernel)) ggX2_carryOut_X2_changeWind
theorem dX2_carryOut_0 : decode cX2_carryOut 0 = .ok (.iload_n 1, 1) := by decide +kernel
theorem dX2_carryOut_1 : decode cX2_carryOut 1 = .ok (.tableswitch 68 0 4 #[35, 42, 48, 55, 61], 35) := by decide +kernel
theorem dX2_carryOut_36 : decode cX2_carryOut 36 = .ok (.aload_n 0, 1) := by decide +kernel
theorem dX2_carryOut_37 : decode cX2_carryOut 37 = .ok (.iload_n 2, 1) := by decide +kernel
theorem dX2_carryOut_38 : decode cX2_carryOut 38 = .ok (.iload_n 3, 1) := by decide +kernel
theorem dX2_carryOut_39 : decode cX2_carryOut 39 = .ok (.invokevirtual 98, 3) := by decide +kernel
theorem dX2_carryOut_42 : decode cX2_carryOut 42 = .ok (.ireturn, 1) := by decide +kernel
theorem dX2_carryOut_43 : decode cX2_carryOut 43 = .ok (.aload_n 0, 1) := by decide +kernel
theorem dX2_carryOut_44 : decode cX2_carryOut 44 = .ok (.iload_n 2, 1) := by decide +kernel
theorem dX2_carryOut_45 : decode cX2_carryOut 45 = .ok (.invokevirtual 101, 3) := by decide +kernel
theorem dX2_carryOut_48 : decode cX2_carryOut 48 = .ok (.ireturn, 1) := by decide +kernel
theorem dX2_carryOut_49 : decode cX2_carryOut 49 = .ok (.aload_n 0, 1) := by decide +kernel
theorem dX2_carryOut_50 : decode cX2_carryOut 50 = .ok (.iload_n 2, 1) := by decide +kernel
theorem dX2_carryOut_51 : decode cX2_carryOut 51 = .ok (.iload_n 3, 1) := by decide +kernel
theorem dX2_carryOut_52 : decode cX2_carryOut 52 = .ok (.invokevirtual 104, 3) := by decide +kernel
theorem dX2_carryOut_55 : decode cX2_carryOut 55 = .ok (.ireturn, 1) := by decide +kernel
theorem dX2_carryOut_56 : decode cX2_carryOut 56 = .ok (.aload_n 0, 1) := by decide +kernel
theorem dX2_carryOut_57 : decode cX2_carryOut 57 = .ok (.iload_n 2, 1) := by decide +kernel
theorem dX2_carryOut_58 : decode cX2_carryOut 58 = .ok (.invokevirtual 107, 3) := by decide +kernel
theorem dX2_carryOut_61 : decode cX2_carryOut 61 = .ok (.ireturn, 1) := by decide +kernel
theorem dX2_carryOut_62 : decode cX2_carryOut 62 = .ok (.aload_n 0, 1) := by decide +kernel
theorem dX2_carryOut_63 : decode cX2_carryOut 63 = .ok (.iload_n 2, 1) := by decide +kernel
theorem dX2_carryOut_64 : decode cX2_carryOut 64 = .ok (.iload_n 3, 1) := by decide +kernel
theorem dX2_carryOut_65 : decode cX2_carryOut 65 = .ok (.invokevirtual 110, 3) := by decide +kernel
theorem dX2_carryOut_68 : decode cX2_carryOut 68 = .ok (.ireturn, 1) := by decide +kernel
theorem dX2_carryOut_69 : decode cX2_carryOut 69 = .ok (.sipush (-10002), 3) := by decide +kernel
theorem dX2_carryOut_72 : decode cX2_carryOut 72 = .ok (.ireturn, 1) := by decide +kernel
set_option maxRecDepth 20000 in
theorem ggX2_sinkString_X2_lowestAbove : GoodIn wsX2_sinkString wsX2_lowestAbove := goodIn_r _ [12, 13, 14, 1, 19, 20, 21, 22, 23, 24, 25, 26, 27, 28, 29, 30] (by decide +kernel) (by decide +kernel)
set_option maxRecDepth 20000 in
theorem gX2_sinkString_X2_lowestAbove : GoodIn wsX2_sinkString (wsV RX2 113 RX2 yX2_lowestAbove wsX2_lowestAbove) := goodIn_app (goodIn_of _ (by decide +kernel)) ggX2_sinkString_X2_lowestAbove
set_option maxRecDepth 20000 in
theorem ggX2_sinkString_X2_isKite : GoodIn wsX2_sinkString wsX2_isKite := goodIn_r _ [18, 14, 19, 20, 21, 22, 23, 24, 25, 26, 27, 28, 29, 30] (by decide +kernel) (by decide +kernel)
set_option maxRecDepth 20000 in
theorem gX2_sinkString_X2_isKite : GoodIn wsX2_sinkString (wsV RX2 61 RX2 yX2_isKite wsX2_isKite) := goodIn_app (goodIn_of _ (by decide +kernel)) ggX2_sinkString_X2_isKite
theorem dX2_sinkString_0 : decode cX2_sinkString 0 = .ok (.iconst 0, 1) := by decide +kernel
theorem dX2_sinkString_1 : decode cX2_sinkString 1 = .ok (.istore_n 2, 1) := by decide +kernel
theorem dX2_sinkString_2 : decode cX2_sinkString 2 = .ok (.iconst (-1), 1) := by decide +kernel
theorem dX2_sinkString_3 : decode cX2_sinkString 3 = .ok (.istore_n 3, 1) := by decide +kernel
theorem dX2_sinkString_4 : decode cX2_sinkString 4 = .ok (.iconst 0, 1) := by decide +kernel
theorem dX2_sinkString_5 : decode cX2_sinkString 5 = .ok (.istore 4, 2) := by decide +kernel
theorem dX2_sinkString_7 : decode cX2_sinkString 7 = .ok (.iload 4, 2) := by decide +kernel
theorem dX2_sinkString_9 : decode cX2_sinkString 9 = .ok (.bipush 12, 2) := by decide +kernel
theorem dX2_sinkString_11 : decode cX2_sinkString 11 = .ok (.if_icmp .ge 72, 3) := by decide +kernel
theorem dX2_sinkString_14 : decode cX2_sinkString 14 = .ok (.aload_n 0, 1) := by decide +kernel
theorem dX2_sinkString_15 : decode cX2_sinkString 15 = .ok (.iload_n 1, 1) := by decide +kernel
theorem dX2_sinkString_16 : decode cX2_sinkString 16 = .ok (.iload_n 3, 1) := by decide +kernel
theorem dX2_sinkString_17 : decode cX2_sinkString 17 = .ok (.invokevirtual 113, 3) := by decide +kernel
theorem dX2_sinkString_20 : decode cX2_sinkString 20 = .ok (.istore 5, 2) := by decide +kernel
theorem dX2_sinkString_22 : decode cX2_sinkString 22 = .ok (.aload_n 0, 1) := by decide +kernel
theorem dX2_sinkString_23 : decode cX2_sinkString 23 = .ok (.iload 5, 2) := by decide +kernel
theorem dX2_sinkString_25 : decode cX2_sinkString 25 = .ok (.invokevirtual 61, 3) := by decide +kernel
theorem dX2_sinkString_28 : decode cX2_sinkString 28 = .ok (.ifCond .ne 4, 3) := by decide +kernel
theorem dX2_sinkString_31 : decode cX2_sinkString 31 = .ok (.return_, 1) := by decide +kernel
theorem dX2_sinkString_32 : decode cX2_sinkString 32 = .ok (.aload_n 0, 1) := by decide +kernel
theorem dX2_sinkString_33 : decode cX2_sinkString 33 = .ok (.getfield 18, 3) := by decide +kernel
theorem dX2_sinkString_36 : decode cX2_sinkString 36 = .ok (.iload 5, 2) := by decide +kernel
theorem dX2_sinkString_38 : decode cX2_sinkString 38 = .ok (.iaload, 1) := by decide +kernel
theorem dX2_sinkString_39 : decode cX2_sinkString 39 = .ok (.istore_n 3, 1) := by decide +kernel
theorem dX2_sinkString_40 : decode cX2_sinkString 40 = .ok (.aload_n 0, 1) := by decide +kernel
theorem dX2_sinkString_41 : decode cX2_sinkString 41 = .ok (.getfield 21, 3) := by decide +kernel
theorem dX2_sinkString_44 : decode cX2_sinkString 44 = .ok (.iload 5, 2) := by decide +kernel
theorem dX2_sinkString_46 : decode cX2_sinkString 46 = .ok (.baload, 1) := by decide +kernel
theorem dX2_sinkString_47 : decode cX2_sinkString 47 = .ok (.ifCond .ne 20, 3) := by decide +kernel
theorem dX2_sinkString_50 : decode cX2_sinkString 50 = .ok (.aload_n 0, 1) := by decide +kernel
theorem dX2_sinkString_51 : decode cX2_sinkString 51 = .ok (.getfield 18, 3) := by decide +kernel
theorem dX2_sinkString_54 : decode cX2_sinkString 54 = .ok (.iload 5, 2) := by decide +kernel
theorem dX2_sinkString_56 : decode cX2_sinkString 56 = .ok (.iload_n 2, 1) := by decide +kernel
theorem dX2_sinkString_57 : decode cX2_sinkString 57 = .ok (.iload_n 3, 1) := by decide +kernel
theorem dX2_sinkString_58 : decode cX2_sinkString 58 = .ok (.aload_n 0, 1) := by decide +kernel
theorem dX2_sinkString_59 : decode cX2_sinkString 59 = .ok (.getfield 47, 3) := by decide +kernel
theorem dX2_sinkString_62 : decode cX2_sinkString 62 = .ok (.isub, 1) := by decide +kernel
theorem dX2_sinkString_63 : decode cX2_sinkString 63 = .ok (.invokestatic 116, 3) := by decide +kernel
theorem dX2_sinkString_66 : decode cX2_sinkString 66 = .ok (.iastore, 1) := by decide +kernel
theorem dX2_sinkString_67 : decode cX2_sinkString 67 = .ok (.aload_n 0, 1) := by decide +kernel
theorem dX2_sinkString_68 : decode cX2_sinkString 68 = .ok (.getfield 18, 3) := by decide +kernel
theorem dX2_sinkString_71 : decode cX2_sinkString 71 = .ok (.iload 5, 2) := by decide +kernel
theorem dX2_sinkString_73 : decode cX2_sinkString 73 = .ok (.iaload, 1) := by decide +kernel
theorem dX2_sinkString_74 : decode cX2_sinkString 74 = .ok (.iconst 1, 1) := by decide +kernel
theorem dX2_sinkString_75 : decode cX2_sinkString 75 = .ok (.iadd, 1) := by decide +kernel
theorem dX2_sinkString_76 : decode cX2_sinkString 76 = .ok (.istore_n 2, 1) := by decide +kernel
theorem dX2_sinkString_77 : decode cX2_sinkString 77 = .ok (.iinc 4 1, 3) := by decide +kernel
theorem dX2_sinkString_80 : decode cX2_sinkString 80 = .ok (.goto (-73), 3) := by decide +kernel
theorem dX2_sinkString_83 : decode cX2_sinkString 83 = .ok (.return_, 1) := by decide +kernel
theorem dX2_endFreshness_0 : decode cX2_endFreshness 0 = .ok (.iconst 0, 1) := by decide +kernel
theorem dX2_endFreshness_1 : decode cX2_endFreshness 1 = .ok (.istore_n 1, 1) := by decide +kernel
theorem dX2_endFreshness_2 : decode cX2_endFreshness 2 = .ok (.iload_n 1, 1) := by decide +kernel
theorem dX2_endFreshness_3 : decode cX2_endFreshness 3 = .ok (.bipush 12, 2) := by decide +kernel
theorem dX2_endFreshness_5 : decode cX2_endFreshness 5 = .ok (.if_icmp .ge 16, 3) := by decide +kernel
theorem dX2_endFreshness_8 : decode cX2_endFreshness 8 = .ok (.aload_n 0, 1) := by decide +kernel
theorem dX2_endFreshness_9 : decode cX2_endFreshness 9 = .ok (.getfield 21, 3) := by decide +kernel
theorem dX2_endFreshness_12 : decode cX2_endFreshness 12 = .ok (.iload_n 1, 1) := by decide +kernel
theorem dX2_endFreshness_13 : decode cX2_endFreshness 13 = .ok (.iconst 0, 1) := by decide +kernel
theorem dX2_endFreshness_14 : decode cX2_endFreshness 14 = .ok (.bastore, 1) := by decide +kernel
theorem dX2_endFreshness_15 : decode cX2_endFreshness 15 = .ok (.iinc 1 1, 3) := by decide +kernel
theorem dX2_endFreshness_18 : decode cX2_endFreshness 18 = .ok (.goto (-16), 3) := by decide +kernel
theorem dX2_endFreshness_21 : decode cX2_endFreshness 21 = .ok (.return_, 1) := by decide +kernel
set_option maxRecDepth 20000 in
theorem ggX2_sinkUntil_X2_isKite : GoodIn wsX2_sinkUntil wsX2_isKite := goodIn_r _ [7, 2, 27, 28, 29, 30, 31, 32, 33, 34, 35, 36, 37, 38] (by decide +kernel) (by decide +kernel)
set_option maxRecDepth 20000 in
theorem gX2_sinkUntil_X2_isKite : GoodIn wsX2_sinkUntil (wsV RX2 61 RX2 yX2_isKite wsX2_isKite) := goodIn_app (goodIn_of _ (by decide +kernel)) ggX2_sinkUntil_X2_isKite
set_option maxRecDepth 20000 in
theorem ggX2_sinkUntil_X2_sinkString : GoodIn wsX2_sinkUntil wsX2_sinkString := goodIn_r _ [11, 1, 12, 13, 14, 15, 16, 17, 18, 19, 20, 6, 21, 22, 2, 3, 4, 5, 7, 27, 28, 29, 30, 31, 32, 33, 34, 35, 36, 37, 38] (by decide +kernel) (by decide +kernel)
set_option maxRecDepth 20000 in
theorem gX2_sinkUntil_X2_sinkString : GoodIn wsX2_sinkUntil (wsV RX2 80 RX2 yX2_sinkString wsX2_sinkString) := goodIn_app (goodIn_of _ (by decide +kernel)) ggX2_sinkUntil_X2_sinkString
set_option maxRecDepth 20000 in
theorem ggX2_sinkUntil_X2_endFreshness : GoodIn wsX2_sinkUntil wsX2_endFreshness := goodIn_r _ [26, 12, 27, 28, 29, 30, 31, 32, 33, 34, 35, 36, 37, 38] (by decide +kernel) (by decide +kernel)
set_option maxRecDepth 20000 in
theorem gX2_sinkUntil_X2_endFreshness : GoodIn wsX2_sinkUntil (wsV RX2 83 RX2 yX2_endFreshness wsX2_endFreshness) := goodIn_app (goodIn_of _ (by decide +kernel)) ggX2_sinkUntil_X2_endFreshness
theorem dX2_sinkUntil_0 : decode cX2_sinkUntil 0 = .ok (.aload_n 0, 1) := by decide +kernel
theorem dX2_sinkUntil_1 : decode cX2_sinkUntil 1 = .ok (.iload_n 1, 1) := by decide +kernel
theorem dX2_sinkUntil_2 : decode cX2_sinkUntil 2 = .ok (.invokevirtual 61, 3) := by decide +kernel
theorem dX2_sinkUntil_5 : decode cX2_sinkUntil 5 = .ok (.ifCond .ne 7, 3) := by decide +kernel
theorem dX2_sinkUntil_8 : decode cX2_sinkUntil 8 = .ok (.sipush (-10001), 3) := by decide +kernel
theorem dX2_sinkUntil_11 : decode cX2_sinkUntil 11 = .ok (.ireturn, 1) := by decide +kernel
theorem dX2_sinkUntil_12 : decode cX2_sinkUntil 12 = .ok (.iload_n 2, 1) := by decide +kernel
theorem dX2_sinkUntil_13 : decode cX2_sinkUntil 13 = .ok (.ifCond .lt 9, 3) := by decide +kernel
theorem dX2_sinkUntil_16 : decode cX2_sinkUntil 16 = .ok (.iload_n 2, 1) := by decide +kernel
theorem dX2_sinkUntil_17 : decode cX2_sinkUntil 17 = .ok (.bipush 99, 2) := by decide +kernel
theorem dX2_sinkUntil_19 : decode cX2_sinkUntil 19 = .ok (.if_icmp .le 7, 3) := by decide +kernel
theorem dX2_sinkUntil_22 : decode cX2_sinkUntil 22 = .ok (.sipush (-10002), 3) := by decide +kernel
theorem dX2_sinkUntil_25 : decode cX2_sinkUntil 25 = .ok (.ireturn, 1) := by decide +kernel
theorem dX2_sinkUntil_26 : decode cX2_sinkUntil 26 = .ok (.iconst 0, 1) := by decide +kernel
theorem dX2_sinkUntil_27 : decode cX2_sinkUntil 27 = .ok (.istore_n 3, 1) := by decide +kernel
theorem dX2_sinkUntil_28 : decode cX2_sinkUntil 28 = .ok (.iload_n 3, 1) := by decide +kernel
theorem dX2_sinkUntil_29 : decode cX2_sinkUntil 29 = .ok (.sipush 200, 3) := by decide +kernel
theorem dX2_sinkUntil_32 : decode cX2_sinkUntil 32 = .ok (.if_icmp .gt 35, 3) := by decide +kernel
theorem dX2_sinkUntil_35 : decode cX2_sinkUntil 35 = .ok (.aload_n 0, 1) := by decide +kernel
theorem dX2_sinkUntil_36 : decode cX2_sinkUntil 36 = .ok (.getfield 18, 3) := by decide +kernel
theorem dX2_sinkUntil_39 : decode cX2_sinkUntil 39 = .ok (.iload_n 1, 1) := by decide +kernel
theorem dX2_sinkUntil_40 : decode cX2_sinkUntil 40 = .ok (.iaload, 1) := by decide +kernel
theorem dX2_sinkUntil_41 : decode cX2_sinkUntil 41 = .ok (.iload_n 2, 1) := by decide +kernel
theorem dX2_sinkUntil_42 : decode cX2_sinkUntil 42 = .ok (.if_icmp .gt 5, 3) := by decide +kernel
theorem dX2_sinkUntil_45 : decode cX2_sinkUntil 45 = .ok (.iload_n 3, 1) := by decide +kernel
theorem dX2_sinkUntil_46 : decode cX2_sinkUntil 46 = .ok (.ireturn, 1) := by decide +kernel
theorem dX2_sinkUntil_47 : decode cX2_sinkUntil 47 = .ok (.aload_n 0, 1) := by decide +kernel
theorem dX2_sinkUntil_48 : decode cX2_sinkUntil 48 = .ok (.aload_n 0, 1) := by decide +kernel
theorem dX2_sinkUntil_49 : decode cX2_sinkUntil 49 = .ok (.getfield 15, 3) := by decide +kernel
theorem dX2_sinkUntil_52 : decode cX2_sinkUntil 52 = .ok (.iload_n 1, 1) := by decide +kernel
theorem dX2_sinkUntil_53 : decode cX2_sinkUntil 53 = .ok (.iaload, 1) := by decide +kernel
theorem dX2_sinkUntil_54 : decode cX2_sinkUntil 54 = .ok (.invokevirtual 80, 3) := by decide +kernel
theorem dX2_sinkUntil_57 : decode cX2_sinkUntil 57 = .ok (.aload_n 0, 1) := by decide +kernel
theorem dX2_sinkUntil_58 : decode cX2_sinkUntil 58 = .ok (.invokevirtual 83, 3) := by decide +kernel
theorem dX2_sinkUntil_61 : decode cX2_sinkUntil 61 = .ok (.iinc 3 1, 3) := by decide +kernel
theorem dX2_sinkUntil_64 : decode cX2_sinkUntil 64 = .ok (.goto (-36), 3) := by decide +kernel
theorem dX2_sinkUntil_67 : decode cX2_sinkUntil 67 = .ok (.sipush (-10005), 3) := by decide +kernel
theorem dX2_sinkUntil_70 : decode cX2_sinkUntil 70 = .ok (.ireturn, 1) := by decide +kernel
set_option maxRecDepth 20000 in
theorem ggX2_risen_X2_landing : GoodIn wsX2_risen wsX2_landing := goodIn_r _ [5, 6, 7, 8, 4, 9, 10, 11, 12, 13, 14, 15, 16, 17, 18, 19, 20, 21, 22, 23] (by decide +kernel) (by decide +kernel)
set_option maxRecDepth 20000 in
theorem gX2_risen_X2_landing : GoodIn wsX2_risen (wsV RX2 57 RX2 yX2_landing wsX2_landing) := goodIn_app (goodIn_of _ (by decide +kernel)) ggX2_risen_X2_landing
theorem dX2_risen_0 : decode cX2_risen 0 = .ok (.aload_n 0, 1) := by decide +kernel
theorem dX2_risen_1 : decode cX2_risen 1 = .ok (.iload_n 1, 1) := by decide +kernel
theorem dX2_risen_2 : decode cX2_risen 2 = .ok (.iload_n 2, 1) := by decide +kernel
theorem dX2_risen_3 : decode cX2_risen 3 = .ok (.iload_n 3, 1) := by decide +kernel
theorem dX2_risen_4 : decode cX2_risen 4 = .ok (.iadd, 1) := by decide +kernel
theorem dX2_risen_5 : decode cX2_risen 5 = .ok (.iconst 1, 1) := by decide +kernel
theorem dX2_risen_6 : decode cX2_risen 6 = .ok (.iadd, 1) := by decide +kernel
theorem dX2_risen_7 : decode cX2_risen 7 = .ok (.invokevirtual 57, 3) := by decide +kernel
theorem dX2_risen_10 : decode cX2_risen 10 = .ok (.ireturn, 1) := by decide +kernel
set_option maxRecDepth 20000 in
theorem ggX2_landing_X2_isTaken : GoodIn wsX2_landing wsX2_isTaken := goodIn_r _ [5, 6, 7, 8, 9, 10, 11, 12, 13, 14, 15, 16, 17, 18, 19] (by decide +kernel) (by decide +kernel)
set_option maxRecDepth 20000 in
theorem gX2_landing_X2_isTaken : GoodIn wsX2_landing (wsV RX2 121 RX2 yX2_isTaken wsX2_isTaken) := goodIn_app (goodIn_of _ (by decide +kernel)) ggX2_landing_X2_isTaken
theorem dX2_landing_0 : decode cX2_landing 0 = .ok (.iload_n 2, 1) := by decide +kernel
theorem dX2_landing_1 : decode cX2_landing 1 = .ok (.istore_n 3, 1) := by decide +kernel
theorem dX2_landing_2 : decode cX2_landing 2 = .ok (.iconst 0, 1) := by decide +kernel
theorem dX2_landing_3 : decode cX2_landing 3 = .ok (.istore 4, 2) := by decide +kernel
theorem dX2_landing_5 : decode cX2_landing 5 = .ok (.iload 4, 2) := by decide +kernel
theorem dX2_landing_7 : decode cX2_landing 7 = .ok (.bipush 12, 2) := by decide +kernel
theorem dX2_landing_9 : decode cX2_landing 9 = .ok (.if_icmp .ge 21, 3) := by decide +kernel
theorem dX2_landing_12 : decode cX2_landing 12 = .ok (.aload_n 0, 1) := by decide +kernel
theorem dX2_landing_13 : decode cX2_landing 13 = .ok (.iload_n 1, 1) := by decide +kernel
theorem dX2_landing_14 : decode cX2_landing 14 = .ok (.iload_n 3, 1) := by decide +kernel
theorem dX2_landing_15 : decode cX2_landing 15 = .ok (.invokevirtual 121, 3) := by decide +kernel
theorem dX2_landing_18 : decode cX2_landing 18 = .ok (.ifCond .eq 12, 3) := by decide +kernel
theorem dX2_landing_21 : decode cX2_landing 21 = .ok (.iinc 3 1, 3) := by decide +kernel
theorem dX2_landing_24 : decode cX2_landing 24 = .ok (.iinc 4 1, 3) := by decide +kernel
theorem dX2_landing_27 : decode cX2_landing 27 = .ok (.goto (-22), 3) := by decide +kernel
theorem dX2_landing_30 : decode cX2_landing 30 = .ok (.iload_n 3, 1) := by decide +kernel
theorem dX2_landing_31 : decode cX2_landing 31 = .ok (.ireturn, 1) := by decide +kernel
theorem dX2_isTaken_0 : decode cX2_isTaken 0 = .ok (.iconst 0, 1) := by decide +kernel
theorem dX2_isTaken_1 : decode cX2_isTaken 1 = .ok (.istore_n 3, 1) := by decide +kernel
theorem dX2_isTaken_2 : decode cX2_isTaken 2 = .ok (.iload_n 3, 1) := by decide +kernel
theorem dX2_isTaken_3 : decode cX2_isTaken 3 = .ok (.bipush 12, 2) := by decide +kernel
theorem dX2_isTaken_5 : decode cX2_isTaken 5 = .ok (.if_icmp .ge 31, 3) := by decide +kernel
theorem dX2_isTaken_8 : decode cX2_isTaken 8 = .ok (.aload_n 0, 1) := by decide +kernel
theorem dX2_isTaken_9 : decode cX2_isTaken 9 = .ok (.getfield 15, 3) := by decide +kernel
theorem dX2_isTaken_12 : decode cX2_isTaken 12 = .ok (.iload_n 3, 1) := by decide +kernel
theorem dX2_isTaken_13 : decode cX2_isTaken 13 = .ok (.iaload, 1) := by decide +kernel
theorem dX2_isTaken_14 : decode cX2_isTaken 14 = .ok (.iload_n 1, 1) := by decide +kernel
theorem dX2_isTaken_15 : decode cX2_isTaken 15 = .ok (.if_icmp .ne 15, 3) := by decide +kernel
theorem dX2_isTaken_18 : decode cX2_isTaken 18 = .ok (.aload_n 0, 1) := by decide +kernel
theorem dX2_isTaken_19 : decode cX2_isTaken 19 = .ok (.getfield 18, 3) := by decide +kernel
theorem dX2_isTaken_22 : decode cX2_isTaken 22 = .ok (.iload_n 3, 1) := by decide +kernel
theorem dX2_isTaken_23 : decode cX2_isTaken 23 = .ok (.iaload, 1) := by decide +kernel
theorem dX2_isTaken_24 : decode cX2_isTaken 24 = .ok (.iload_n 2, 1) := by decide +kernel
theorem dX2_isTaken_25 : decode cX2_isTaken 25 = .ok (.if_icmp .ne 5, 3) := by decide +kernel
theorem dX2_isTaken_28 : decode cX2_isTaken 28 = .ok (.iconst 1, 1) := by decide +kernel
theorem dX2_isTaken_29 : decode cX2_isTaken 29 = .ok (.ireturn, 1) := by decide +kernel
theorem dX2_isTaken_30 : decode cX2_isTaken 30 = .ok (.iinc 3 1, 3) := by decide +kernel
theorem dX2_isTaken_33 : decode cX2_isTaken 33 = .ok (.goto (-31), 3) := by decide +kernel
theorem dX2_isTaken_36 : decode cX2_isTaken 36 = .ok (.iconst 0, 1) := by decide +kernel
theorem dX2_isTaken_37 : decode cX2_isTaken 37 = .ok (.ireturn, 1) := by decide +kernel
set_option maxRecDepth 20000 in
theorem ggX2_countCutFrom_X3_isString : GoodIn wsX2_countCutFrom wsX3_isString := goodIn_r _ [4] (by decide +kernel) (by decide +kernel)
set_option maxRecDepth 20000 in
theorem gX2_countCutFrom_X3_isString_n50 : GoodIn wsX2_countCutFrom (wsX3_isString) := ggX2_countCutFrom_X3_isString
theorem dX2_countCutFrom_0 : decode cX2_countCutFrom 0 = .ok (.iload_n 1, 1) := by decide +kernel
theorem dX2_countCutFrom_1 : decode cX2_countCutFrom 1 = .ok (.invokestatic 50, 3) := by decide +kernel
theorem dX2_countCutFrom_4 : decode cX2_countCutFrom 4 = .ok (.ifCond .eq 13, 3) := by decide +kernel
theorem dX2_countCutFrom_7 : decode cX2_countCutFrom 7 = .ok (.aload_n 0, 1) := by decide +kernel
theorem dX2_countCutFrom_8 : decode cX2_countCutFrom 8 = .ok (.getfield 34, 3) := by decide +kernel
theorem dX2_countCutFrom_11 : decode cX2_countCutFrom 11 = .ok (.iload_n 1, 1) := by decide +kernel
theorem dX2_countCutFrom_12 : decode cX2_countCutFrom 12 = .ok (.dup2, 1) := by decide +kernel
theorem dX2_countCutFrom_13 : decode cX2_countCutFrom 13 = .ok (.iaload, 1) := by decide +kernel
theorem dX2_countCutFrom_14 : decode cX2_countCutFrom 14 = .ok (.iconst 1, 1) := by decide +kernel
theorem dX2_countCutFrom_15 : decode cX2_countCutFrom 15 = .ok (.iadd, 1) := by decide +kernel
theorem dX2_countCutFrom_16 : decode cX2_countCutFrom 16 = .ok (.iastore, 1) := by decide +kernel
theorem dX2_countCutFrom_17 : decode cX2_countCutFrom 17 = .ok (.return_, 1) := by decide +kernel
theorem dX2_behind_0 : decode cX2_behind 0 = .ok (.iload_n 0, 1) := by decide +kernel
theorem dX2_behind_1 : decode cX2_behind 1 = .ok (.iconst 1, 1) := by decide +kernel
theorem dX2_behind_2 : decode cX2_behind 2 = .ok (.iadd, 1) := by decide +kernel
theorem dX2_behind_3 : decode cX2_behind 3 = .ok (.iconst 4, 1) := by decide +kernel
theorem dX2_behind_4 : decode cX2_behind 4 = .ok (.irem, 1) := by decide +kernel
theorem dX2_behind_5 : decode cX2_behind 5 = .ok (.ireturn, 1) := by decide +kernel
theorem dX2_isKite_0 : decode cX2_isKite 0 = .ok (.iload_n 1, 1) := by decide +kernel
theorem dX2_isKite_1 : decode cX2_isKite 1 = .ok (.ifCond .lt 23, 3) := by decide +kernel
theorem dX2_isKite_4 : decode cX2_isKite 4 = .ok (.iload_n 1, 1) := by decide +kernel
theorem dX2_isKite_5 : decode cX2_isKite 5 = .ok (.bipush 12, 2) := by decide +kernel
theorem dX2_isKite_7 : decode cX2_isKite 7 = .ok (.if_icmp .ge 17, 3) := by decide +kernel
theorem dX2_isKite_10 : decode cX2_isKite 10 = .ok (.aload_n 0, 1) := by decide +kernel
theorem dX2_isKite_11 : decode cX2_isKite 11 = .ok (.getfield 15, 3) := by decide +kernel
theorem dX2_isKite_14 : decode cX2_isKite 14 = .ok (.iload_n 1, 1) := by decide +kernel
theorem dX2_isKite_15 : decode cX2_isKite 15 = .ok (.iaload, 1) := by decide +kernel
theorem dX2_isKite_16 : decode cX2_isKite 16 = .ok (.iconst (-1), 1) := by decide +kernel
theorem dX2_isKite_17 : decode cX2_isKite 17 = .ok (.if_icmp .eq 7, 3) := by decide +kernel
theorem dX2_isKite_20 : decode cX2_isKite 20 = .ok (.iconst 1, 1) := by decide +kernel
theorem dX2_isKite_21 : decode cX2_isKite 21 = .ok (.goto 4, 3) := by decide +kernel
theorem dX2_isKite_24 : decode cX2_isKite 24 = .ok (.iconst 0, 1) := by decide +kernel
theorem dX2_isKite_25 : decode cX2_isKite 25 = .ok (.ireturn, 1) := by decide +kernel
set_option maxRecDepth 20000 in
theorem ggX2_aboutKite_X2_isKite : GoodIn wsX2_aboutKite wsX2_isKite := goodIn_r _ [12, 2, 25, 26, 27, 28, 29, 30, 31, 32, 33, 34, 35, 36] (by decide +kernel) (by decide +kernel)
set_option maxRecDepth 20000 in
theorem gX2_aboutKite_X2_isKite : GoodIn wsX2_aboutKite (wsV RX2 61 RX2 yX2_isKite wsX2_isKite) := goodIn_app (goodIn_of _ (by decide +kernel)) ggX2_aboutKite_X2_isKite
set_option maxRecDepth 20000 in
theorem ggX2_aboutKite_X2_kitesBetween : GoodIn wsX2_aboutKite wsX2_kitesBetween := goodIn_r _ [16, 2, 3, 25, 26, 27, 28, 29, 30, 31, 32, 33, 34, 35, 36] (by decide +kernel) (by decide +kernel)
set_option maxRecDepth 20000 in
theorem gX2_aboutKite_X2_kitesBetween : GoodIn wsX2_aboutKite (wsV RX2 126 RX2 yX2_kitesBetween wsX2_kitesBetween) := goodIn_app (goodIn_of _ (by decide +kernel)) ggX2_aboutKite_X2_kitesBetween
set_option maxRecDepth 20000 in
theorem ggX2_aboutKite_X2_lowestAbove : GoodIn wsX2_aboutKite wsX2_lowestAbove := goodIn_r _ [20, 7, 2, 3, 25, 26, 27, 28, 29, 30, 31, 32, 33, 34, 35, 36] (by decide +kernel) (by decide +kernel)
set_option maxRecDepth 20000 in
theorem gX2_aboutKite_X2_lowestAbove : GoodIn wsX2_aboutKite (wsV RX2 113 RX2 yX2_lowestAbove wsX2_lowestAbove) := goodIn_app (goodIn_of _ (by decide +kernel)) ggX2_aboutKite_X2_lowestAbove
set_option maxRecDepth 20000 in
theorem ggX2_aboutKite_X2_highestBelow : GoodIn wsX2_aboutKite wsX2_highestBelow := goodIn_r _ [24, 2, 3, 25, 26, 27, 28, 29, 30, 31, 32, 33, 34, 35, 36] (by decide +kernel) (by decide +kernel)
set_option maxRecDepth 20000 in
theorem gX2_aboutKite_X2_highestBelow : GoodIn wsX2_aboutKite (wsV RX2 129 RX2 yX2_highestBelow wsX2_highestBelow) := goodIn_app (goodIn_of _ (by decide +kernel)) ggX2_aboutKite_X2_highestBelow
theorem dX2_aboutKite_0 : decode cX2_aboutKite 0 = .ok (.aload_n 0, 1) := by decide +kernel
theorem dX2_aboutKite_1 : decode cX2_aboutKite 1 = .ok (.iload_n 1, 1) := by decide +kernel
theorem dX2_aboutKite_2 : decode cX2_aboutKite 2 = .ok (.invokevirtual 61, 3) := by decide +kernel
theorem dX2_aboutKite_5 : decode cX2_aboutKite 5 = .ok (.ifCond .ne 7, 3) := by decide +kernel
theorem dX2_aboutKite_8 : decode cX2_aboutKite 8 = .ok (.sipush (-10001), 3) := by decide +kernel
theorem dX2_aboutKite_11 : decode cX2_aboutKite 11 = .ok (.ireturn, 1) := by decide +kernel
theorem dX2_aboutKite_12 : decode cX2_aboutKite 12 = .ok (.iload_n 2, 1) := by decide +kernel
theorem dX2_aboutKite_13 : decode cX2_aboutKite 13 = .ok (.tableswitch 154 0 8 #[51, 58, 65, 72, 87, 94, 101, 120, 137], 51) := by decide +kernel
theorem dX2_aboutKite_64 : decode cX2_aboutKite 64 = .ok (.aload_n 0, 1) := by decide +kernel
theorem dX2_aboutKite_65 : decode cX2_aboutKite 65 = .ok (.getfield 9, 3) := by decide +kernel
theorem dX2_aboutKite_68 : decode cX2_aboutKite 68 = .ok (.iload_n 1, 1) := by decide +kernel
theorem dX2_aboutKite_69 : decode cX2_aboutKite 69 = .ok (.iaload, 1) := by decide +kernel
theorem dX2_aboutKite_70 : decode cX2_aboutKite 70 = .ok (.ireturn, 1) := by decide +kernel
theorem dX2_aboutKite_71 : decode cX2_aboutKite 71 = .ok (.aload_n 0, 1) := by decide +kernel
theorem dX2_aboutKite_72 : decode cX2_aboutKite 72 = .ok (.getfield 15, 3) := by decide +kernel
theorem dX2_aboutKite_75 : decode cX2_aboutKite 75 = .ok (.iload_n 1, 1) := by decide +kernel
theorem dX2_aboutKite_76 : decode cX2_aboutKite 76 = .ok (.iaload, 1) := by decide +kernel
theorem dX2_aboutKite_77 : decode cX2_aboutKite 77 = .ok (.ireturn, 1) := by decide +kernel
theorem dX2_aboutKite_78 : decode cX2_aboutKite 78 = .ok (.aload_n 0, 1) := by decide +kernel
theorem dX2_aboutKite_79 : decode cX2_aboutKite 79 = .ok (.getfield 18, 3) := by decide +kernel
theorem dX2_aboutKite_82 : decode cX2_aboutKite 82 = .ok (.iload_n 1, 1) := by decide +kernel
theorem dX2_aboutKite_83 : decode cX2_aboutKite 83 = .ok (.iaload, 1) := by decide +kernel
theorem dX2_aboutKite_84 : decode cX2_aboutKite 84 = .ok (.ireturn, 1) := by decide +kernel
theorem dX2_aboutKite_85 : decode cX2_aboutKite 85 = .ok (.aload_n 0, 1) := by decide +kernel
theorem dX2_aboutKite_86 : decode cX2_aboutKite 86 = .ok (.getfield 21, 3) := by decide +kernel
theorem dX2_aboutKite_89 : decode cX2_aboutKite 89 = .ok (.iload_n 1, 1) := by decide +kernel
theorem dX2_aboutKite_90 : decode cX2_aboutKite 90 = .ok (.baload, 1) := by decide +kernel
theorem dX2_aboutKite_91 : decode cX2_aboutKite 91 = .ok (.ifCond .eq 7, 3) := by decide +kernel
theorem dX2_aboutKite_94 : decode cX2_aboutKite 94 = .ok (.iconst 1, 1) := by decide +kernel
theorem dX2_aboutKite_95 : decode cX2_aboutKite 95 = .ok (.goto 4, 3) := by decide +kernel
theorem dX2_aboutKite_98 : decode cX2_aboutKite 98 = .ok (.iconst 0, 1) := by decide +kernel
theorem dX2_aboutKite_99 : decode cX2_aboutKite 99 = .ok (.ireturn, 1) := by decide +kernel
theorem dX2_aboutKite_100 : decode cX2_aboutKite 100 = .ok (.aload_n 0, 1) := by decide +kernel
theorem dX2_aboutKite_101 : decode cX2_aboutKite 101 = .ok (.getfield 25, 3) := by decide +kernel
theorem dX2_aboutKite_104 : decode cX2_aboutKite 104 = .ok (.iload_n 1, 1) := by decide +kernel
theorem dX2_aboutKite_105 : decode cX2_aboutKite 105 = .ok (.iaload, 1) := by decide +kernel
theorem dX2_aboutKite_106 : decode cX2_aboutKite 106 = .ok (.ireturn, 1) := by decide +kernel
theorem dX2_aboutKite_107 : decode cX2_aboutKite 107 = .ok (.aload_n 0, 1) := by decide +kernel
theorem dX2_aboutKite_108 : decode cX2_aboutKite 108 = .ok (.getfield 28, 3) := by decide +kernel
theorem dX2_aboutKite_111 : decode cX2_aboutKite 111 = .ok (.iload_n 1, 1) := by decide +kernel
theorem dX2_aboutKite_112 : decode cX2_aboutKite 112 = .ok (.iaload, 1) := by decide +kernel
theorem dX2_aboutKite_113 : decode cX2_aboutKite 113 = .ok (.ireturn, 1) := by decide +kernel
theorem dX2_aboutKite_114 : decode cX2_aboutKite 114 = .ok (.aload_n 0, 1) := by decide +kernel
theorem dX2_aboutKite_115 : decode cX2_aboutKite 115 = .ok (.aload_n 0, 1) := by decide +kernel
theorem dX2_aboutKite_116 : decode cX2_aboutKite 116 = .ok (.getfield 15, 3) := by decide +kernel
theorem dX2_aboutKite_119 : decode cX2_aboutKite 119 = .ok (.iload_n 1, 1) := by decide +kernel
theorem dX2_aboutKite_120 : decode cX2_aboutKite 120 = .ok (.iaload, 1) := by decide +kernel
theorem dX2_aboutKite_121 : decode cX2_aboutKite 121 = .ok (.aload_n 0, 1) := by decide +kernel
theorem dX2_aboutKite_122 : decode cX2_aboutKite 122 = .ok (.getfield 18, 3) := by decide +kernel
theorem dX2_aboutKite_125 : decode cX2_aboutKite 125 = .ok (.iload_n 1, 1) := by decide +kernel
theorem dX2_aboutKite_126 : decode cX2_aboutKite 126 = .ok (.iaload, 1) := by decide +kernel
theorem dX2_aboutKite_127 : decode cX2_aboutKite 127 = .ok (.ldc 125, 2) := by decide +kernel
theorem dX2_aboutKite_129 : decode cX2_aboutKite 129 = .ok (.invokevirtual 126, 3) := by decide +kernel
theorem dX2_aboutKite_132 : decode cX2_aboutKite 132 = .ok (.ireturn, 1) := by decide +kernel
theorem dX2_aboutKite_133 : decode cX2_aboutKite 133 = .ok (.aload_n 0, 1) := by decide +kernel
theorem dX2_aboutKite_134 : decode cX2_aboutKite 134 = .ok (.aload_n 0, 1) := by decide +kernel
theorem dX2_aboutKite_135 : decode cX2_aboutKite 135 = .ok (.getfield 15, 3) := by decide +kernel
theorem dX2_aboutKite_138 : decode cX2_aboutKite 138 = .ok (.iload_n 1, 1) := by decide +kernel
theorem dX2_aboutKite_139 : decode cX2_aboutKite 139 = .ok (.iaload, 1) := by decide +kernel
theorem dX2_aboutKite_140 : decode cX2_aboutKite 140 = .ok (.aload_n 0, 1) := by decide +kernel
theorem dX2_aboutKite_141 : decode cX2_aboutKite 141 = .ok (.getfield 18, 3) := by decide +kernel
theorem dX2_aboutKite_144 : decode cX2_aboutKite 144 = .ok (.iload_n 1, 1) := by decide +kernel
theorem dX2_aboutKite_145 : decode cX2_aboutKite 145 = .ok (.iaload, 1) := by decide +kernel
theorem dX2_aboutKite_146 : decode cX2_aboutKite 146 = .ok (.invokevirtual 113, 3) := by decide +kernel
theorem dX2_aboutKite_149 : decode cX2_aboutKite 149 = .ok (.ireturn, 1) := by decide +kernel
theorem dX2_aboutKite_150 : decode cX2_aboutKite 150 = .ok (.aload_n 0, 1) := by decide +kernel
theorem dX2_aboutKite_151 : decode cX2_aboutKite 151 = .ok (.aload_n 0, 1) := by decide +kernel
theorem dX2_aboutKite_152 : decode cX2_aboutKite 152 = .ok (.getfield 15, 3) := by decide +kernel
theorem dX2_aboutKite_155 : decode cX2_aboutKite 155 = .ok (.iload_n 1, 1) := by decide +kernel
theorem dX2_aboutKite_156 : decode cX2_aboutKite 156 = .ok (.iaload, 1) := by decide +kernel
theorem dX2_aboutKite_157 : decode cX2_aboutKite 157 = .ok (.aload_n 0, 1) := by decide +kernel
theorem dX2_aboutKite_158 : decode cX2_aboutKite 158 = .ok (.getfield 18, 3) := by decide +kernel
theorem dX2_aboutKite_161 : decode cX2_aboutKite 161 = .ok (.iload_n 1, 1) := by decide +kernel
theorem dX2_aboutKite_162 : decode cX2_aboutKite 162 = .ok (.iaload, 1) := by decide +kernel
theorem dX2_aboutKite_163 : decode cX2_aboutKite 163 = .ok (.invokevirtual 129, 3) := by decide +kernel
theorem dX2_aboutKite_166 : decode cX2_aboutKite 166 = .ok (.ireturn, 1) := by decide +kernel
theorem dX2_aboutKite_167 : decode cX2_aboutKite 167 = .ok (.sipush (-10002), 3) := by decide +kernel
theorem dX2_aboutKite_170 : decode cX2_aboutKite 170 = .ok (.ireturn, 1) := by decide +kernel
set_option maxRecDepth 20000 in
theorem ggX2_aboutReading_X2_isKite : GoodIn wsX2_aboutReading wsX2_isKite := goodIn_r _ [8, 1, 49, 50, 51, 52, 53, 54, 55, 56, 57, 58, 59, 60] (by decide +kernel) (by decide +kernel)
set_option maxRecDepth 20000 in
theorem gX2_aboutReading_X2_isKite : GoodIn wsX2_aboutReading (wsV RX2 61 RX2 yX2_isKite wsX2_isKite) := goodIn_app (goodIn_of _ (by decide +kernel)) ggX2_aboutReading_X2_isKite
set_option maxRecDepth 20000 in
theorem ggX2_aboutReading_X2_windNow : GoodIn wsX2_aboutReading wsX2_windNow := goodIn_r _ [12, 13, 14, 15, 7, 16, 17, 18, 19, 20, 21, 22, 23, 24, 25, 26, 27, 28, 29, 49, 50, 51, 52, 53, 54, 55, 56, 57, 58, 59, 60] (by decide +kernel) (by decide +kernel)
set_option maxRecDepth 20000 in
theorem gX2_aboutReading_X2_windNow : GoodIn wsX2_aboutReading (wsV RX2 64 RX2 yX2_windNow wsX2_windNow) := goodIn_app (goodIn_of _ (by decide +kernel)) ggX2_aboutReading_X2_windNow
set_option maxRecDepth 20000 in
theorem ggX2_aboutReading_X2_risen : GoodIn wsX2_aboutReading wsX2_risen := goodIn_r _ [33, 34, 35, 36, 7, 37, 38, 39, 40, 41, 1, 2, 49, 50, 51, 52, 53, 54, 55, 56, 57, 58, 59, 60] (by decide +kernel) (by decide +kernel)
set_option maxRecDepth 20000 in
theorem gX2_aboutReading_X2_risen : GoodIn wsX2_aboutReading (wsV RX2 68 RX2 yX2_risen wsX2_risen) := goodIn_app (goodIn_of _ (by decide +kernel)) ggX2_aboutReading_X2_risen
set_option maxRecDepth 20000 in
theorem ggX2_aboutReading_X2_behind : GoodIn wsX2_aboutReading wsX2_behind := goodIn_r _ [44] (by decide +kernel) (by decide +kernel)
set_option maxRecDepth 20000 in
theorem gX2_aboutReading_X2_behind : GoodIn wsX2_aboutReading (va_wsS RX2 76 yX2_behind wsX2_behind) := goodIn_app (goodIn_of _ (by decide +kernel)) ggX2_aboutReading_X2_behind
set_option maxRecDepth 20000 in
theorem ggX2_aboutReading_X2_landing : GoodIn wsX2_aboutReading wsX2_landing := goodIn_r _ [37, 38, 39, 40, 7, 41, 1, 2, 49, 50, 51, 52, 53, 54, 55, 56, 57, 58, 59, 60] (by decide +kernel) (by decide +kernel)
set_option maxRecDepth 20000 in
theorem gX2_aboutReading_X2_landing : GoodIn wsX2_aboutReading (wsV RX2 57 RX2 yX2_landing wsX2_landing) := goodIn_app (goodIn_of _ (by decide +kernel)) ggX2_aboutReading_X2_landing
set_option maxRecDepth 20000 in
theorem ggX2_aboutReading_X2_kitesBetween : GoodIn wsX2_aboutReading wsX2_kitesBetween := goodIn_r _ [48, 1, 2, 49, 50, 51, 52, 53, 54, 55, 56, 57, 58, 59, 60] (by decide +kernel) (by decide +kernel)
set_option maxRecDepth 20000 in
theorem gX2_aboutReading_X2_kitesBetween : GoodIn wsX2_aboutReading (wsV RX2 126 RX2 yX2_kitesBetween wsX2_kitesBetween) := goodIn_app (goodIn_of _ (by decide +kernel)) ggX2_aboutReading_X2_kitesBetween
theorem dX2_aboutReading_0 : decode cX2_aboutReading 0 = .ok (.aload_n 0, 1) := by decide +kernel
theorem dX2_aboutReading_1 : decode cX2_aboutReading 1 = .ok (.iload_n 1, 1) := by decide +kernel
theorem dX2_aboutReading_2 : decode cX2_aboutReading 2 = .ok (.invokevirtual 61, 3) := by decide +kernel
theorem dX2_aboutReading_5 : decode cX2_aboutReading 5 = .ok (.ifCond .ne 7, 3) := by decide +kernel
theorem dX2_aboutReading_8 : decode cX2_aboutReading 8 = .ok (.sipush (-10001), 3) := by decide +kernel
theorem dX2_aboutReading_11 : decode cX2_aboutReading 11 = .ok (.ireturn, 1) := by decide +kernel
theorem dX2_aboutReading_12 : decode cX2_aboutReading 12 = .ok (.aload_n 0, 1) := by decide +kernel
theorem dX2_aboutReading_13 : decode cX2_aboutReading 13 = .ok (.getfield 15, 3) := by decide +kernel
theorem dX2_aboutReading_16 : decode cX2_aboutReading 16 = .ok (.iload_n 1, 1) := by decide +kernel
theorem dX2_aboutReading_17 : decode cX2_aboutReading 17 = .ok (.iaload, 1) := by decide +kernel
theorem dX2_aboutReading_18 : decode cX2_aboutReading 18 = .ok (.istore_n 3, 1) := by decide +kernel
theorem dX2_aboutReading_19 : decode cX2_aboutReading 19 = .ok (.aload_n 0, 1) := by decide +kernel
theorem dX2_aboutReading_20 : decode cX2_aboutReading 20 = .ok (.iload_n 3, 1) := by decide +kernel
theorem dX2_aboutReading_21 : decode cX2_aboutReading 21 = .ok (.aload_n 0, 1) := by decide +kernel
theorem dX2_aboutReading_22 : decode cX2_aboutReading 22 = .ok (.getfield 18, 3) := by decide +kernel
theorem dX2_aboutReading_25 : decode cX2_aboutReading 25 = .ok (.iload_n 1, 1) := by decide +kernel
theorem dX2_aboutReading_26 : decode cX2_aboutReading 26 = .ok (.iaload, 1) := by decide +kernel
theorem dX2_aboutReading_27 : decode cX2_aboutReading 27 = .ok (.aload_n 0, 1) := by decide +kernel
theorem dX2_aboutReading_28 : decode cX2_aboutReading 28 = .ok (.invokevirtual 64, 3) := by decide +kernel
theorem dX2_aboutReading_31 : decode cX2_aboutReading 31 = .ok (.invokevirtual 68, 3) := by decide +kernel
theorem dX2_aboutReading_34 : decode cX2_aboutReading 34 = .ok (.istore 4, 2) := by decide +kernel
theorem dX2_aboutReading_36 : decode cX2_aboutReading 36 = .ok (.iload 4, 2) := by decide +kernel
theorem dX2_aboutReading_38 : decode cX2_aboutReading 38 = .ok (.aload_n 0, 1) := by decide +kernel
theorem dX2_aboutReading_39 : decode cX2_aboutReading 39 = .ok (.getfield 44, 3) := by decide +kernel
theorem dX2_aboutReading_42 : decode cX2_aboutReading 42 = .ok (.if_icmp .le 7, 3) := by decide +kernel
theorem dX2_aboutReading_45 : decode cX2_aboutReading 45 = .ok (.iconst 1, 1) := by decide +kernel
theorem dX2_aboutReading_46 : decode cX2_aboutReading 46 = .ok (.goto 4, 3) := by decide +kernel
theorem dX2_aboutReading_49 : decode cX2_aboutReading 49 = .ok (.iconst 0, 1) := by decide +kernel
theorem dX2_aboutReading_50 : decode cX2_aboutReading 50 = .ok (.istore 5, 2) := by decide +kernel
theorem dX2_aboutReading_52 : decode cX2_aboutReading 52 = .ok (.iload_n 2, 1) := by decide +kernel
theorem dX2_aboutReading_53 : decode cX2_aboutReading 53 = .ok (.tableswitch 99 0 3 #[31, 45, 65, 76], 31) := by decide +kernel
theorem dX2_aboutReading_84 : decode cX2_aboutReading 84 = .ok (.iload 5, 2) := by decide +kernel
theorem dX2_aboutReading_86 : decode cX2_aboutReading 86 = .ok (.ifCond .eq 10, 3) := by decide +kernel
theorem dX2_aboutReading_89 : decode cX2_aboutReading 89 = .ok (.iload_n 3, 1) := by decide +kernel
theorem dX2_aboutReading_90 : decode cX2_aboutReading 90 = .ok (.invokestatic 76, 3) := by decide +kernel
theorem dX2_aboutReading_93 : decode cX2_aboutReading 93 = .ok (.goto 4, 3) := by decide +kernel
theorem dX2_aboutReading_96 : decode cX2_aboutReading 96 = .ok (.iload_n 3, 1) := by decide +kernel
theorem dX2_aboutReading_97 : decode cX2_aboutReading 97 = .ok (.ireturn, 1) := by decide +kernel
theorem dX2_aboutReading_98 : decode cX2_aboutReading 98 = .ok (.iload 5, 2) := by decide +kernel
theorem dX2_aboutReading_100 : decode cX2_aboutReading 100 = .ok (.ifCond .eq 15, 3) := by decide +kernel
theorem dX2_aboutReading_103 : decode cX2_aboutReading 103 = .ok (.aload_n 0, 1) := by decide +kernel
theorem dX2_aboutReading_104 : decode cX2_aboutReading 104 = .ok (.iload_n 3, 1) := by decide +kernel
theorem dX2_aboutReading_105 : decode cX2_aboutReading 105 = .ok (.invokestatic 76, 3) := by decide +kernel
theorem dX2_aboutReading_108 : decode cX2_aboutReading 108 = .ok (.iconst 0, 1) := by decide +kernel
theorem dX2_aboutReading_109 : decode cX2_aboutReading 109 = .ok (.invokevirtual 57, 3) := by decide +kernel
theorem dX2_aboutReading_112 : decode cX2_aboutReading 112 = .ok (.goto 5, 3) := by decide +kernel
theorem dX2_aboutReading_115 : decode cX2_aboutReading 115 = .ok (.iload 4, 2) := by decide +kernel
theorem dX2_aboutReading_117 : decode cX2_aboutReading 117 = .ok (.ireturn, 1) := by decide +kernel
theorem dX2_aboutReading_118 : decode cX2_aboutReading 118 = .ok (.iload 5, 2) := by decide +kernel
theorem dX2_aboutReading_120 : decode cX2_aboutReading 120 = .ok (.ifCond .eq 7, 3) := by decide +kernel
theorem dX2_aboutReading_123 : decode cX2_aboutReading 123 = .ok (.iconst 1, 1) := by decide +kernel
theorem dX2_aboutReading_124 : decode cX2_aboutReading 124 = .ok (.goto 4, 3) := by decide +kernel
theorem dX2_aboutReading_127 : decode cX2_aboutReading 127 = .ok (.iconst 0, 1) := by decide +kernel
theorem dX2_aboutReading_128 : decode cX2_aboutReading 128 = .ok (.ireturn, 1) := by decide +kernel
theorem dX2_aboutReading_129 : decode cX2_aboutReading 129 = .ok (.iload 5, 2) := by decide +kernel
theorem dX2_aboutReading_131 : decode cX2_aboutReading 131 = .ok (.ifCond .eq 7, 3) := by decide +kernel
theorem dX2_aboutReading_134 : decode cX2_aboutReading 134 = .ok (.iconst 0, 1) := by decide +kernel
theorem dX2_aboutReading_135 : decode cX2_aboutReading 135 = .ok (.goto 16, 3) := by decide +kernel
theorem dX2_aboutReading_138 : decode cX2_aboutReading 138 = .ok (.aload_n 0, 1) := by decide +kernel
theorem dX2_aboutReading_139 : decode cX2_aboutReading 139 = .ok (.iload_n 3, 1) := by decide +kernel
theorem dX2_aboutReading_140 : decode cX2_aboutReading 140 = .ok (.aload_n 0, 1) := by decide +kernel
theorem dX2_aboutReading_141 : decode cX2_aboutReading 141 = .ok (.getfield 18, 3) := by decide +kernel
theorem dX2_aboutReading_144 : decode cX2_aboutReading 144 = .ok (.iload_n 1, 1) := by decide +kernel
theorem dX2_aboutReading_145 : decode cX2_aboutReading 145 = .ok (.iaload, 1) := by decide +kernel
theorem dX2_aboutReading_146 : decode cX2_aboutReading 146 = .ok (.iload 4, 2) := by decide +kernel
theorem dX2_aboutReading_148 : decode cX2_aboutReading 148 = .ok (.invokevirtual 126, 3) := by decide +kernel
theorem dX2_aboutReading_151 : decode cX2_aboutReading 151 = .ok (.ireturn, 1) := by decide +kernel
theorem dX2_aboutReading_152 : decode cX2_aboutReading 152 = .ok (.sipush (-10002), 3) := by decide +kernel
theorem dX2_aboutReading_155 : decode cX2_aboutReading 155 = .ok (.ireturn, 1) := by decide +kernel
set_option maxRecDepth 20000 in
theorem ggX2_readingsUntilCut_X2_isKite : GoodIn wsX2_readingsUntilCut wsX2_isKite := goodIn_r _ [8, 2, 42, 43, 44, 45, 46, 47, 48, 49, 50, 51, 52, 53] (by decide +kernel) (by decide +kernel)
set_option maxRecDepth 20000 in
theorem gX2_readingsUntilCut_X2_isKite : GoodIn wsX2_readingsUntilCut (wsV RX2 61 RX2 yX2_isKite wsX2_isKite) := goodIn_app (goodIn_of _ (by decide +kernel)) ggX2_readingsUntilCut_X2_isKite
set_option maxRecDepth 20000 in
theorem ggX2_readingsUntilCut_X2_windNow : GoodIn wsX2_readingsUntilCut wsX2_windNow := goodIn_r _ [12, 13, 14, 15, 7, 16, 17, 18, 19, 20, 21, 22, 23, 24, 25, 26, 27, 28, 29, 42, 43, 44, 45, 46, 47, 48, 49, 50, 51, 52, 53] (by decide +kernel) (by decide +kernel)
set_option maxRecDepth 20000 in
theorem gX2_readingsUntilCut_X2_windNow : GoodIn wsX2_readingsUntilCut (wsV RX2 64 RX2 yX2_windNow wsX2_windNow) := goodIn_app (goodIn_of _ (by decide +kernel)) ggX2_readingsUntilCut_X2_windNow
set_option maxRecDepth 20000 in
theorem ggX2_readingsUntilCut_X2_risen : GoodIn wsX2_readingsUntilCut wsX2_risen := goodIn_r _ [33, 34, 35, 36, 7, 37, 38, 39, 40, 41, 2, 1, 42, 43, 44, 45, 46, 47, 48, 49, 50, 51, 52, 53] (by decide +kernel) (by decide +kernel)
set_option maxRecDepth 20000 in
theorem gX2_readingsUntilCut_X2_risen : GoodIn wsX2_readingsUntilCut (wsV RX2 68 RX2 yX2_risen wsX2_risen) := goodIn_app (goodIn_of _ (by decide +kernel)) ggX2_readingsUntilCut_X2_risen
theorem dX2_readingsUntilCut_0 : decode cX2_readingsUntilCut 0 = .ok (.aload_n 0, 1) := by decide +kernel
theorem dX2_readingsUntilCut_1 : decode cX2_readingsUntilCut 1 = .ok (.iload_n 1, 1) := by decide +kernel
theorem dX2_readingsUntilCut_2 : decode cX2_readingsUntilCut 2 = .ok (.invokevirtual 61, 3) := by decide +kernel
theorem dX2_readingsUntilCut_5 : decode cX2_readingsUntilCut 5 = .ok (.ifCond .ne 7, 3) := by decide +kernel
theorem dX2_readingsUntilCut_8 : decode cX2_readingsUntilCut 8 = .ok (.sipush (-10001), 3) := by decide +kernel
theorem dX2_readingsUntilCut_11 : decode cX2_readingsUntilCut 11 = .ok (.ireturn, 1) := by decide +kernel
theorem dX2_readingsUntilCut_12 : decode cX2_readingsUntilCut 12 = .ok (.aload_n 0, 1) := by decide +kernel
theorem dX2_readingsUntilCut_13 : decode cX2_readingsUntilCut 13 = .ok (.invokevirtual 64, 3) := by decide +kernel
theorem dX2_readingsUntilCut_16 : decode cX2_readingsUntilCut 16 = .ok (.istore_n 2, 1) := by decide +kernel
theorem dX2_readingsUntilCut_17 : decode cX2_readingsUntilCut 17 = .ok (.aload_n 0, 1) := by decide +kernel
theorem dX2_readingsUntilCut_18 : decode cX2_readingsUntilCut 18 = .ok (.getfield 18, 3) := by decide +kernel
theorem dX2_readingsUntilCut_21 : decode cX2_readingsUntilCut 21 = .ok (.iload_n 1, 1) := by decide +kernel
theorem dX2_readingsUntilCut_22 : decode cX2_readingsUntilCut 22 = .ok (.iaload, 1) := by decide +kernel
theorem dX2_readingsUntilCut_23 : decode cX2_readingsUntilCut 23 = .ok (.istore_n 3, 1) := by decide +kernel
theorem dX2_readingsUntilCut_24 : decode cX2_readingsUntilCut 24 = .ok (.iconst 1, 1) := by decide +kernel
theorem dX2_readingsUntilCut_25 : decode cX2_readingsUntilCut 25 = .ok (.istore 4, 2) := by decide +kernel
theorem dX2_readingsUntilCut_27 : decode cX2_readingsUntilCut 27 = .ok (.iload 4, 2) := by decide +kernel
theorem dX2_readingsUntilCut_29 : decode cX2_readingsUntilCut 29 = .ok (.bipush 100, 2) := by decide +kernel
theorem dX2_readingsUntilCut_31 : decode cX2_readingsUntilCut 31 = .ok (.if_icmp .ge 33, 3) := by decide +kernel
theorem dX2_readingsUntilCut_34 : decode cX2_readingsUntilCut 34 = .ok (.aload_n 0, 1) := by decide +kernel
theorem dX2_readingsUntilCut_35 : decode cX2_readingsUntilCut 35 = .ok (.aload_n 0, 1) := by decide +kernel
theorem dX2_readingsUntilCut_36 : decode cX2_readingsUntilCut 36 = .ok (.getfield 15, 3) := by decide +kernel
theorem dX2_readingsUntilCut_39 : decode cX2_readingsUntilCut 39 = .ok (.iload_n 1, 1) := by decide +kernel
theorem dX2_readingsUntilCut_40 : decode cX2_readingsUntilCut 40 = .ok (.iaload, 1) := by decide +kernel
theorem dX2_readingsUntilCut_41 : decode cX2_readingsUntilCut 41 = .ok (.iload_n 3, 1) := by decide +kernel
theorem dX2_readingsUntilCut_42 : decode cX2_readingsUntilCut 42 = .ok (.iload_n 2, 1) := by decide +kernel
theorem dX2_readingsUntilCut_43 : decode cX2_readingsUntilCut 43 = .ok (.invokevirtual 68, 3) := by decide +kernel
theorem dX2_readingsUntilCut_46 : decode cX2_readingsUntilCut 46 = .ok (.istore_n 3, 1) := by decide +kernel
theorem dX2_readingsUntilCut_47 : decode cX2_readingsUntilCut 47 = .ok (.iload_n 3, 1) := by decide +kernel
theorem dX2_readingsUntilCut_48 : decode cX2_readingsUntilCut 48 = .ok (.aload_n 0, 1) := by decide +kernel
theorem dX2_readingsUntilCut_49 : decode cX2_readingsUntilCut 49 = .ok (.getfield 44, 3) := by decide +kernel
theorem dX2_readingsUntilCut_52 : decode cX2_readingsUntilCut 52 = .ok (.if_icmp .le 6, 3) := by decide +kernel
theorem dX2_readingsUntilCut_55 : decode cX2_readingsUntilCut 55 = .ok (.iload 4, 2) := by decide +kernel
theorem dX2_readingsUntilCut_57 : decode cX2_readingsUntilCut 57 = .ok (.ireturn, 1) := by decide +kernel
theorem dX2_readingsUntilCut_58 : decode cX2_readingsUntilCut 58 = .ok (.iinc 4 1, 3) := by decide +kernel
theorem dX2_readingsUntilCut_61 : decode cX2_readingsUntilCut 61 = .ok (.goto (-34), 3) := by decide +kernel
theorem dX2_readingsUntilCut_64 : decode cX2_readingsUntilCut 64 = .ok (.bipush 100, 2) := by decide +kernel
theorem dX2_readingsUntilCut_66 : decode cX2_readingsUntilCut 66 = .ok (.ireturn, 1) := by decide +kernel
set_option maxRecDepth 20000 in
theorem ggX2_thousandthsOf_X2_isKite : GoodIn wsX2_thousandthsOf wsX2_isKite := goodIn_r _ [7, 1, 12, 13, 14, 15, 16, 17, 18, 19, 20, 21, 22, 23] (by decide +kernel) (by decide +kernel)
set_option maxRecDepth 20000 in
theorem gX2_thousandthsOf_X2_isKite : GoodIn wsX2_thousandthsOf (wsV RX2 61 RX2 yX2_isKite wsX2_isKite) := goodIn_app (goodIn_of _ (by decide +kernel)) ggX2_thousandthsOf_X2_isKite
set_option maxRecDepth 20000 in
theorem ggX2_thousandthsOf_X2_weightsOn : GoodIn wsX2_thousandthsOf wsX2_weightsOn := goodIn_r _ [11, 1, 2, 12, 13, 14, 15, 16, 17, 18, 19, 20, 21, 22, 23] (by decide +kernel) (by decide +kernel)
set_option maxRecDepth 20000 in
theorem gX2_thousandthsOf_X2_weightsOn : GoodIn wsX2_thousandthsOf (wsV RX2 132 RX2 yX2_weightsOn wsX2_weightsOn) := goodIn_app (goodIn_of _ (by decide +kernel)) ggX2_thousandthsOf_X2_weightsOn
theorem dX2_thousandthsOf_0 : decode cX2_thousandthsOf 0 = .ok (.aload_n 0, 1) := by decide +kernel
theorem dX2_thousandthsOf_1 : decode cX2_thousandthsOf 1 = .ok (.iload_n 1, 1) := by decide +kernel
theorem dX2_thousandthsOf_2 : decode cX2_thousandthsOf 2 = .ok (.invokevirtual 61, 3) := by decide +kernel
theorem dX2_thousandthsOf_5 : decode cX2_thousandthsOf 5 = .ok (.ifCond .ne 7, 3) := by decide +kernel
theorem dX2_thousandthsOf_8 : decode cX2_thousandthsOf 8 = .ok (.sipush (-10001), 3) := by decide +kernel
theorem dX2_thousandthsOf_11 : decode cX2_thousandthsOf 11 = .ok (.ireturn, 1) := by decide +kernel
theorem dX2_thousandthsOf_12 : decode cX2_thousandthsOf 12 = .ok (.aload_n 0, 1) := by decide +kernel
theorem dX2_thousandthsOf_13 : decode cX2_thousandthsOf 13 = .ok (.aload_n 0, 1) := by decide +kernel
theorem dX2_thousandthsOf_14 : decode cX2_thousandthsOf 14 = .ok (.getfield 15, 3) := by decide +kernel
theorem dX2_thousandthsOf_17 : decode cX2_thousandthsOf 17 = .ok (.iload_n 1, 1) := by decide +kernel
theorem dX2_thousandthsOf_18 : decode cX2_thousandthsOf 18 = .ok (.iaload, 1) := by decide +kernel
theorem dX2_thousandthsOf_19 : decode cX2_thousandthsOf 19 = .ok (.invokevirtual 132, 3) := by decide +kernel
theorem dX2_thousandthsOf_22 : decode cX2_thousandthsOf 22 = .ok (.istore_n 2, 1) := by decide +kernel
theorem dX2_thousandthsOf_23 : decode cX2_thousandthsOf 23 = .ok (.iload_n 2, 1) := by decide +kernel
theorem dX2_thousandthsOf_24 : decode cX2_thousandthsOf 24 = .ok (.ifCond .le 20, 3) := by decide +kernel
theorem dX2_thousandthsOf_27 : decode cX2_thousandthsOf 27 = .ok (.aload_n 0, 1) := by decide +kernel
theorem dX2_thousandthsOf_28 : decode cX2_thousandthsOf 28 = .ok (.getfield 18, 3) := by decide +kernel
theorem dX2_thousandthsOf_31 : decode cX2_thousandthsOf 31 = .ok (.iload_n 1, 1) := by decide +kernel
theorem dX2_thousandthsOf_32 : decode cX2_thousandthsOf 32 = .ok (.iaload, 1) := by decide +kernel
theorem dX2_thousandthsOf_33 : decode cX2_thousandthsOf 33 = .ok (.iconst 1, 1) := by decide +kernel
theorem dX2_thousandthsOf_34 : decode cX2_thousandthsOf 34 = .ok (.iadd, 1) := by decide +kernel
theorem dX2_thousandthsOf_35 : decode cX2_thousandthsOf 35 = .ok (.sipush 1000, 3) := by decide +kernel
theorem dX2_thousandthsOf_38 : decode cX2_thousandthsOf 38 = .ok (.imul, 1) := by decide +kernel
theorem dX2_thousandthsOf_39 : decode cX2_thousandthsOf 39 = .ok (.iload_n 2, 1) := by decide +kernel
theorem dX2_thousandthsOf_40 : decode cX2_thousandthsOf 40 = .ok (.idiv, 1) := by decide +kernel
theorem dX2_thousandthsOf_41 : decode cX2_thousandthsOf 41 = .ok (.goto 4, 3) := by decide +kernel
theorem dX2_thousandthsOf_44 : decode cX2_thousandthsOf 44 = .ok (.iconst 0, 1) := by decide +kernel
theorem dX2_thousandthsOf_45 : decode cX2_thousandthsOf 45 = .ok (.ireturn, 1) := by decide +kernel
set_option maxRecDepth 20000 in
theorem ggX2_aboutString_X3_isString : GoodIn wsX2_aboutString wsX3_isString := goodIn_r _ [5] (by decide +kernel) (by decide +kernel)
set_option maxRecDepth 20000 in
theorem gX2_aboutString_X3_isString_n50 : GoodIn wsX2_aboutString (wsX3_isString) := ggX2_aboutString_X3_isString
set_option maxRecDepth 20000 in
theorem ggX2_aboutString_X2_kitesBetween : GoodIn wsX2_aboutString wsX2_kitesBetween := goodIn_r _ [10, 11, 12, 30, 31, 32, 33, 34, 35, 36, 37, 38, 39, 40, 41] (by decide +kernel) (by decide +kernel)
set_option maxRecDepth 20000 in
theorem gX2_aboutString_X2_kitesBetween : GoodIn wsX2_aboutString (wsV RX2 126 RX2 yX2_kitesBetween wsX2_kitesBetween) := goodIn_app (goodIn_of _ (by decide +kernel)) ggX2_aboutString_X2_kitesBetween
set_option maxRecDepth 20000 in
theorem ggX2_aboutString_X2_weightsOn : GoodIn wsX2_aboutString wsX2_weightsOn := goodIn_r _ [16, 11, 12, 30, 31, 32, 33, 34, 35, 36, 37, 38, 39, 40, 41] (by decide +kernel) (by decide +kernel)
set_option maxRecDepth 20000 in
theorem gX2_aboutString_X2_weightsOn : GoodIn wsX2_aboutString (wsV RX2 132 RX2 yX2_weightsOn wsX2_weightsOn) := goodIn_app (goodIn_of _ (by decide +kernel)) ggX2_aboutString_X2_weightsOn
set_option maxRecDepth 20000 in
theorem ggX2_aboutString_X2_highestBelow : GoodIn wsX2_aboutString wsX2_highestBelow := goodIn_r _ [20, 11, 12, 30, 31, 32, 33, 34, 35, 36, 37, 38, 39, 40, 41] (by decide +kernel) (by decide +kernel)
set_option maxRecDepth 20000 in
theorem gX2_aboutString_X2_highestBelow : GoodIn wsX2_aboutString (wsV RX2 129 RX2 yX2_highestBelow wsX2_highestBelow) := goodIn_app (goodIn_of _ (by decide +kernel)) ggX2_aboutString_X2_highestBelow
set_option maxRecDepth 20000 in
theorem ggX2_aboutString_X2_lowestAbove : GoodIn wsX2_aboutString wsX2_lowestAbove := goodIn_r _ [24, 1, 11, 12, 30, 31, 32, 33, 34, 35, 36, 37, 38, 39, 40, 41] (by decide +kernel) (by decide +kernel)
set_option maxRecDepth 20000 in
theorem gX2_aboutString_X2_lowestAbove : GoodIn wsX2_aboutString (wsV RX2 113 RX2 yX2_lowestAbove wsX2_lowestAbove) := goodIn_app (goodIn_of _ (by decide +kernel)) ggX2_aboutString_X2_lowestAbove
set_option maxRecDepth 20000 in
theorem ggX2_aboutString_X2_numbersOn : GoodIn wsX2_aboutString wsX2_numbersOn := goodIn_r _ [28, 11, 29, 30, 31, 32, 33, 34, 35, 36, 37, 38, 39, 40, 41] (by decide +kernel) (by decide +kernel)
set_option maxRecDepth 20000 in
theorem gX2_aboutString_X2_numbersOn : GoodIn wsX2_aboutString (wsV RX2 135 RX2 yX2_numbersOn wsX2_numbersOn) := goodIn_app (goodIn_of _ (by decide +kernel)) ggX2_aboutString_X2_numbersOn
theorem dX2_aboutString_0 : decode cX2_aboutString 0 = .ok (.iload_n 1, 1) := by decide +kernel
theorem dX2_aboutString_1 : decode cX2_aboutString 1 = .ok (.invokestatic 50, 3) := by decide +kernel
theorem dX2_aboutString_4 : decode cX2_aboutString 4 = .ok (.ifCond .ne 7, 3) := by decide +kernel
theorem dX2_aboutString_7 : decode cX2_aboutString 7 = .ok (.sipush (-10001), 3) := by decide +kernel
theorem dX2_aboutString_10 : decode cX2_aboutString 10 = .ok (.ireturn, 1) := by decide +kernel
theorem dX2_aboutString_11 : decode cX2_aboutString 11 = .ok (.iload_n 2, 1) := by decide +kernel
theorem dX2_aboutString_12 : decode cX2_aboutString 12 = .ok (.tableswitch 83 0 5 #[40, 49, 55, 63, 70, 76], 40) := by decide +kernel
theorem dX2_aboutString_52 : decode cX2_aboutString 52 = .ok (.aload_n 0, 1) := by decide +kernel
theorem dX2_aboutString_53 : decode cX2_aboutString 53 = .ok (.iload_n 1, 1) := by decide +kernel
theorem dX2_aboutString_54 : decode cX2_aboutString 54 = .ok (.iconst (-1), 1) := by decide +kernel
theorem dX2_aboutString_55 : decode cX2_aboutString 55 = .ok (.ldc 125, 2) := by decide +kernel
theorem dX2_aboutString_57 : decode cX2_aboutString 57 = .ok (.invokevirtual 126, 3) := by decide +kernel
theorem dX2_aboutString_60 : decode cX2_aboutString 60 = .ok (.ireturn, 1) := by decide +kernel
theorem dX2_aboutString_61 : decode cX2_aboutString 61 = .ok (.aload_n 0, 1) := by decide +kernel
theorem dX2_aboutString_62 : decode cX2_aboutString 62 = .ok (.iload_n 1, 1) := by decide +kernel
theorem dX2_aboutString_63 : decode cX2_aboutString 63 = .ok (.invokevirtual 132, 3) := by decide +kernel
theorem dX2_aboutString_66 : decode cX2_aboutString 66 = .ok (.ireturn, 1) := by decide +kernel
theorem dX2_aboutString_67 : decode cX2_aboutString 67 = .ok (.aload_n 0, 1) := by decide +kernel
theorem dX2_aboutString_68 : decode cX2_aboutString 68 = .ok (.iload_n 1, 1) := by decide +kernel
theorem dX2_aboutString_69 : decode cX2_aboutString 69 = .ok (.ldc 125, 2) := by decide +kernel
theorem dX2_aboutString_71 : decode cX2_aboutString 71 = .ok (.invokevirtual 129, 3) := by decide +kernel
theorem dX2_aboutString_74 : decode cX2_aboutString 74 = .ok (.ireturn, 1) := by decide +kernel
theorem dX2_aboutString_75 : decode cX2_aboutString 75 = .ok (.aload_n 0, 1) := by decide +kernel
theorem dX2_aboutString_76 : decode cX2_aboutString 76 = .ok (.iload_n 1, 1) := by decide +kernel
theorem dX2_aboutString_77 : decode cX2_aboutString 77 = .ok (.iconst (-1), 1) := by decide +kernel
theorem dX2_aboutString_78 : decode cX2_aboutString 78 = .ok (.invokevirtual 113, 3) := by decide +kernel
theorem dX2_aboutString_81 : decode cX2_aboutString 81 = .ok (.ireturn, 1) := by decide +kernel
theorem dX2_aboutString_82 : decode cX2_aboutString 82 = .ok (.aload_n 0, 1) := by decide +kernel
theorem dX2_aboutString_83 : decode cX2_aboutString 83 = .ok (.iload_n 1, 1) := by decide +kernel
theorem dX2_aboutString_84 : decode cX2_aboutString 84 = .ok (.invokevirtual 135, 3) := by decide +kernel
theorem dX2_aboutString_87 : decode cX2_aboutString 87 = .ok (.ireturn, 1) := by decide +kernel
theorem dX2_aboutString_88 : decode cX2_aboutString 88 = .ok (.aload_n 0, 1) := by decide +kernel
theorem dX2_aboutString_89 : decode cX2_aboutString 89 = .ok (.getfield 34, 3) := by decide +kernel
theorem dX2_aboutString_92 : decode cX2_aboutString 92 = .ok (.iload_n 1, 1) := by decide +kernel
theorem dX2_aboutString_93 : decode cX2_aboutString 93 = .ok (.iaload, 1) := by decide +kernel
theorem dX2_aboutString_94 : decode cX2_aboutString 94 = .ok (.ireturn, 1) := by decide +kernel
theorem dX2_aboutString_95 : decode cX2_aboutString 95 = .ok (.sipush (-10002), 3) := by decide +kernel
theorem dX2_aboutString_98 : decode cX2_aboutString 98 = .ok (.ireturn, 1) := by decide +kernel
theorem dX2_kitesBetween_0 : decode cX2_kitesBetween 0 = .ok (.iconst 0, 1) := by decide +kernel
theorem dX2_kitesBetween_1 : decode cX2_kitesBetween 1 = .ok (.istore 4, 2) := by decide +kernel
theorem dX2_kitesBetween_3 : decode cX2_kitesBetween 3 = .ok (.iconst 0, 1) := by decide +kernel
theorem dX2_kitesBetween_4 : decode cX2_kitesBetween 4 = .ok (.istore 5, 2) := by decide +kernel
theorem dX2_kitesBetween_6 : decode cX2_kitesBetween 6 = .ok (.iload 5, 2) := by decide +kernel
theorem dX2_kitesBetween_8 : decode cX2_kitesBetween 8 = .ok (.bipush 12, 2) := by decide +kernel
theorem dX2_kitesBetween_10 : decode cX2_kitesBetween 10 = .ok (.if_icmp .ge 45, 3) := by decide +kernel
theorem dX2_kitesBetween_13 : decode cX2_kitesBetween 13 = .ok (.aload_n 0, 1) := by decide +kernel
theorem dX2_kitesBetween_14 : decode cX2_kitesBetween 14 = .ok (.getfield 15, 3) := by decide +kernel
theorem dX2_kitesBetween_17 : decode cX2_kitesBetween 17 = .ok (.iload 5, 2) := by decide +kernel
theorem dX2_kitesBetween_19 : decode cX2_kitesBetween 19 = .ok (.iaload, 1) := by decide +kernel
theorem dX2_kitesBetween_20 : decode cX2_kitesBetween 20 = .ok (.iload_n 1, 1) := by decide +kernel
theorem dX2_kitesBetween_21 : decode cX2_kitesBetween 21 = .ok (.if_icmp .ne 28, 3) := by decide +kernel
theorem dX2_kitesBetween_24 : decode cX2_kitesBetween 24 = .ok (.aload_n 0, 1) := by decide +kernel
theorem dX2_kitesBetween_25 : decode cX2_kitesBetween 25 = .ok (.getfield 18, 3) := by decide +kernel
theorem dX2_kitesBetween_28 : decode cX2_kitesBetween 28 = .ok (.iload 5, 2) := by decide +kernel
theorem dX2_kitesBetween_30 : decode cX2_kitesBetween 30 = .ok (.iaload, 1) := by decide +kernel
theorem dX2_kitesBetween_31 : decode cX2_kitesBetween 31 = .ok (.iload_n 2, 1) := by decide +kernel
theorem dX2_kitesBetween_32 : decode cX2_kitesBetween 32 = .ok (.if_icmp .le 17, 3) := by decide +kernel
theorem dX2_kitesBetween_35 : decode cX2_kitesBetween 35 = .ok (.aload_n 0, 1) := by decide +kernel
theorem dX2_kitesBetween_36 : decode cX2_kitesBetween 36 = .ok (.getfield 18, 3) := by decide +kernel
theorem dX2_kitesBetween_39 : decode cX2_kitesBetween 39 = .ok (.iload 5, 2) := by decide +kernel
theorem dX2_kitesBetween_41 : decode cX2_kitesBetween 41 = .ok (.iaload, 1) := by decide +kernel
theorem dX2_kitesBetween_42 : decode cX2_kitesBetween 42 = .ok (.iload_n 3, 1) := by decide +kernel
theorem dX2_kitesBetween_43 : decode cX2_kitesBetween 43 = .ok (.if_icmp .ge 6, 3) := by decide +kernel
theorem dX2_kitesBetween_46 : decode cX2_kitesBetween 46 = .ok (.iinc 4 1, 3) := by decide +kernel
theorem dX2_kitesBetween_49 : decode cX2_kitesBetween 49 = .ok (.iinc 5 1, 3) := by decide +kernel
theorem dX2_kitesBetween_52 : decode cX2_kitesBetween 52 = .ok (.goto (-46), 3) := by decide +kernel
theorem dX2_kitesBetween_55 : decode cX2_kitesBetween 55 = .ok (.iload 4, 2) := by decide +kernel
theorem dX2_kitesBetween_57 : decode cX2_kitesBetween 57 = .ok (.ireturn, 1) := by decide +kernel
theorem dX2_lowestAbove_0 : decode cX2_lowestAbove 0 = .ok (.sipush (-10005), 3) := by decide +kernel
theorem dX2_lowestAbove_3 : decode cX2_lowestAbove 3 = .ok (.istore_n 3, 1) := by decide +kernel
theorem dX2_lowestAbove_4 : decode cX2_lowestAbove 4 = .ok (.ldc 125, 2) := by decide +kernel
theorem dX2_lowestAbove_6 : decode cX2_lowestAbove 6 = .ok (.istore 4, 2) := by decide +kernel
theorem dX2_lowestAbove_8 : decode cX2_lowestAbove 8 = .ok (.iconst 0, 1) := by decide +kernel
theorem dX2_lowestAbove_9 : decode cX2_lowestAbove 9 = .ok (.istore 5, 2) := by decide +kernel
theorem dX2_lowestAbove_11 : decode cX2_lowestAbove 11 = .ok (.iload 5, 2) := by decide +kernel
theorem dX2_lowestAbove_13 : decode cX2_lowestAbove 13 = .ok (.bipush 12, 2) := by decide +kernel
theorem dX2_lowestAbove_15 : decode cX2_lowestAbove 15 = .ok (.if_icmp .ge 55, 3) := by decide +kernel
theorem dX2_lowestAbove_18 : decode cX2_lowestAbove 18 = .ok (.aload_n 0, 1) := by decide +kernel
theorem dX2_lowestAbove_19 : decode cX2_lowestAbove 19 = .ok (.getfield 15, 3) := by decide +kernel
theorem dX2_lowestAbove_22 : decode cX2_lowestAbove 22 = .ok (.iload 5, 2) := by decide +kernel
theorem dX2_lowestAbove_24 : decode cX2_lowestAbove 24 = .ok (.iaload, 1) := by decide +kernel
theorem dX2_lowestAbove_25 : decode cX2_lowestAbove 25 = .ok (.iload_n 1, 1) := by decide +kernel
theorem dX2_lowestAbove_26 : decode cX2_lowestAbove 26 = .ok (.if_icmp .ne 38, 3) := by decide +kernel
theorem dX2_lowestAbove_29 : decode cX2_lowestAbove 29 = .ok (.aload_n 0, 1) := by decide +kernel
theorem dX2_lowestAbove_30 : decode cX2_lowestAbove 30 = .ok (.getfield 18, 3) := by decide +kernel
theorem dX2_lowestAbove_33 : decode cX2_lowestAbove 33 = .ok (.iload 5, 2) := by decide +kernel
theorem dX2_lowestAbove_35 : decode cX2_lowestAbove 35 = .ok (.iaload, 1) := by decide +kernel
theorem dX2_lowestAbove_36 : decode cX2_lowestAbove 36 = .ok (.iload_n 2, 1) := by decide +kernel
theorem dX2_lowestAbove_37 : decode cX2_lowestAbove 37 = .ok (.if_icmp .le 27, 3) := by decide +kernel
theorem dX2_lowestAbove_40 : decode cX2_lowestAbove 40 = .ok (.aload_n 0, 1) := by decide +kernel
theorem dX2_lowestAbove_41 : decode cX2_lowestAbove 41 = .ok (.getfield 18, 3) := by decide +kernel
theorem dX2_lowestAbove_44 : decode cX2_lowestAbove 44 = .ok (.iload 5, 2) := by decide +kernel
theorem dX2_lowestAbove_46 : decode cX2_lowestAbove 46 = .ok (.iaload, 1) := by decide +kernel
theorem dX2_lowestAbove_47 : decode cX2_lowestAbove 47 = .ok (.iload 4, 2) := by decide +kernel
theorem dX2_lowestAbove_49 : decode cX2_lowestAbove 49 = .ok (.if_icmp .ge 15, 3) := by decide +kernel
theorem dX2_lowestAbove_52 : decode cX2_lowestAbove 52 = .ok (.iload 5, 2) := by decide +kernel
theorem dX2_lowestAbove_54 : decode cX2_lowestAbove 54 = .ok (.istore_n 3, 1) := by decide +kernel
theorem dX2_lowestAbove_55 : decode cX2_lowestAbove 55 = .ok (.aload_n 0, 1) := by decide +kernel
theorem dX2_lowestAbove_56 : decode cX2_lowestAbove 56 = .ok (.getfield 18, 3) := by decide +kernel
theorem dX2_lowestAbove_59 : decode cX2_lowestAbove 59 = .ok (.iload 5, 2) := by decide +kernel
theorem dX2_lowestAbove_61 : decode cX2_lowestAbove 61 = .ok (.iaload, 1) := by decide +kernel
theorem dX2_lowestAbove_62 : decode cX2_lowestAbove 62 = .ok (.istore 4, 2) := by decide +kernel
theorem dX2_lowestAbove_64 : decode cX2_lowestAbove 64 = .ok (.iinc 5 1, 3) := by decide +kernel
theorem dX2_lowestAbove_67 : decode cX2_lowestAbove 67 = .ok (.goto (-56), 3) := by decide +kernel
theorem dX2_lowestAbove_70 : decode cX2_lowestAbove 70 = .ok (.iload_n 3, 1) := by decide +kernel
theorem dX2_lowestAbove_71 : decode cX2_lowestAbove 71 = .ok (.ireturn, 1) := by decide +kernel
theorem dX2_highestBelow_0 : decode cX2_highestBelow 0 = .ok (.sipush (-10005), 3) := by decide +kernel
theorem dX2_highestBelow_3 : decode cX2_highestBelow 3 = .ok (.istore_n 3, 1) := by decide +kernel
theorem dX2_highestBelow_4 : decode cX2_highestBelow 4 = .ok (.iconst (-1), 1) := by decide +kernel
theorem dX2_highestBelow_5 : decode cX2_highestBelow 5 = .ok (.istore 4, 2) := by decide +kernel
theorem dX2_highestBelow_7 : decode cX2_highestBelow 7 = .ok (.iconst 0, 1) := by decide +kernel
theorem dX2_highestBelow_8 : decode cX2_highestBelow 8 = .ok (.istore 5, 2) := by decide +kernel
theorem dX2_highestBelow_10 : decode cX2_highestBelow 10 = .ok (.iload 5, 2) := by decide +kernel
theorem dX2_highestBelow_12 : decode cX2_highestBelow 12 = .ok (.bipush 12, 2) := by decide +kernel
theorem dX2_highestBelow_14 : decode cX2_highestBelow 14 = .ok (.if_icmp .ge 55, 3) := by decide +kernel
theorem dX2_highestBelow_17 : decode cX2_highestBelow 17 = .ok (.aload_n 0, 1) := by decide +kernel
theorem dX2_highestBelow_18 : decode cX2_highestBelow 18 = .ok (.getfield 15, 3) := by decide +kernel
theorem dX2_highestBelow_21 : decode cX2_highestBelow 21 = .ok (.iload 5, 2) := by decide +kernel
theorem dX2_highestBelow_23 : decode cX2_highestBelow 23 = .ok (.iaload, 1) := by decide +kernel
theorem dX2_highestBelow_24 : decode cX2_highestBelow 24 = .ok (.iload_n 1, 1) := by decide +kernel
theorem dX2_highestBelow_25 : decode cX2_highestBelow 25 = .ok (.if_icmp .ne 38, 3) := by decide +kernel
theorem dX2_highestBelow_28 : decode cX2_highestBelow 28 = .ok (.aload_n 0, 1) := by decide +kernel
theorem dX2_highestBelow_29 : decode cX2_highestBelow 29 = .ok (.getfield 18, 3) := by decide +kernel
theorem dX2_highestBelow_32 : decode cX2_highestBelow 32 = .ok (.iload 5, 2) := by decide +kernel
theorem dX2_highestBelow_34 : decode cX2_highestBelow 34 = .ok (.iaload, 1) := by decide +kernel
theorem dX2_highestBelow_35 : decode cX2_highestBelow 35 = .ok (.iload_n 2, 1) := by decide +kernel
theorem dX2_highestBelow_36 : decode cX2_highestBelow 36 = .ok (.if_icmp .ge 27, 3) := by decide +kernel
theorem dX2_highestBelow_39 : decode cX2_highestBelow 39 = .ok (.aload_n 0, 1) := by decide +kernel
theorem dX2_highestBelow_40 : decode cX2_highestBelow 40 = .ok (.getfield 18, 3) := by decide +kernel
theorem dX2_highestBelow_43 : decode cX2_highestBelow 43 = .ok (.iload 5, 2) := by decide +kernel
theorem dX2_highestBelow_45 : decode cX2_highestBelow 45 = .ok (.iaload, 1) := by decide +kernel
theorem dX2_highestBelow_46 : decode cX2_highestBelow 46 = .ok (.iload 4, 2) := by decide +kernel
theorem dX2_highestBelow_48 : decode cX2_highestBelow 48 = .ok (.if_icmp .le 15, 3) := by decide +kernel
theorem dX2_highestBelow_51 : decode cX2_highestBelow 51 = .ok (.iload 5, 2) := by decide +kernel
theorem dX2_highestBelow_53 : decode cX2_highestBelow 53 = .ok (.istore_n 3, 1) := by decide +kernel
theorem dX2_highestBelow_54 : decode cX2_highestBelow 54 = .ok (.aload_n 0, 1) := by decide +kernel
theorem dX2_highestBelow_55 : decode cX2_highestBelow 55 = .ok (.getfield 18, 3) := by decide +kernel
theorem dX2_highestBelow_58 : decode cX2_highestBelow 58 = .ok (.iload 5, 2) := by decide +kernel
theorem dX2_highestBelow_60 : decode cX2_highestBelow 60 = .ok (.iaload, 1) := by decide +kernel
theorem dX2_highestBelow_61 : decode cX2_highestBelow 61 = .ok (.istore 4, 2) := by decide +kernel
theorem dX2_highestBelow_63 : decode cX2_highestBelow 63 = .ok (.iinc 5 1, 3) := by decide +kernel
theorem dX2_highestBelow_66 : decode cX2_highestBelow 66 = .ok (.goto (-56), 3) := by decide +kernel
theorem dX2_highestBelow_69 : decode cX2_highestBelow 69 = .ok (.iload_n 3, 1) := by decide +kernel
theorem dX2_highestBelow_70 : decode cX2_highestBelow 70 = .ok (.ireturn, 1) := by decide +kernel
theorem dX2_weightsOn_0 : decode cX2_weightsOn 0 = .ok (.iconst 0, 1) := by decide +kernel
theorem dX2_weightsOn_1 : decode cX2_weightsOn 1 = .ok (.istore_n 2, 1) := by decide +kernel
theorem dX2_weightsOn_2 : decode cX2_weightsOn 2 = .ok (.iconst 0, 1) := by decide +kernel
theorem dX2_weightsOn_3 : decode cX2_weightsOn 3 = .ok (.istore_n 3, 1) := by decide +kernel
theorem dX2_weightsOn_4 : decode cX2_weightsOn 4 = .ok (.iload_n 3, 1) := by decide +kernel
theorem dX2_weightsOn_5 : decode cX2_weightsOn 5 = .ok (.bipush 12, 2) := by decide +kernel
theorem dX2_weightsOn_7 : decode cX2_weightsOn 7 = .ok (.if_icmp .ge 30, 3) := by decide +kernel
theorem dX2_weightsOn_10 : decode cX2_weightsOn 10 = .ok (.aload_n 0, 1) := by decide +kernel
theorem dX2_weightsOn_11 : decode cX2_weightsOn 11 = .ok (.getfield 15, 3) := by decide +kernel
theorem dX2_weightsOn_14 : decode cX2_weightsOn 14 = .ok (.iload_n 3, 1) := by decide +kernel
theorem dX2_weightsOn_15 : decode cX2_weightsOn 15 = .ok (.iaload, 1) := by decide +kernel
theorem dX2_weightsOn_16 : decode cX2_weightsOn 16 = .ok (.iload_n 1, 1) := by decide +kernel
theorem dX2_weightsOn_17 : decode cX2_weightsOn 17 = .ok (.if_icmp .ne 14, 3) := by decide +kernel
theorem dX2_weightsOn_20 : decode cX2_weightsOn 20 = .ok (.iload_n 2, 1) := by decide +kernel
theorem dX2_weightsOn_21 : decode cX2_weightsOn 21 = .ok (.aload_n 0, 1) := by decide +kernel
theorem dX2_weightsOn_22 : decode cX2_weightsOn 22 = .ok (.getfield 18, 3) := by decide +kernel
theorem dX2_weightsOn_25 : decode cX2_weightsOn 25 = .ok (.iload_n 3, 1) := by decide +kernel
theorem dX2_weightsOn_26 : decode cX2_weightsOn 26 = .ok (.iaload, 1) := by decide +kernel
theorem dX2_weightsOn_27 : decode cX2_weightsOn 27 = .ok (.iconst 1, 1) := by decide +kernel
theorem dX2_weightsOn_28 : decode cX2_weightsOn 28 = .ok (.iadd, 1) := by decide +kernel
theorem dX2_weightsOn_29 : decode cX2_weightsOn 29 = .ok (.iadd, 1) := by decide +kernel
theorem dX2_weightsOn_30 : decode cX2_weightsOn 30 = .ok (.istore_n 2, 1) := by decide +kernel
theorem dX2_weightsOn_31 : decode cX2_weightsOn 31 = .ok (.iinc 3 1, 3) := by decide +kernel
theorem dX2_weightsOn_34 : decode cX2_weightsOn 34 = .ok (.goto (-30), 3) := by decide +kernel
theorem dX2_weightsOn_37 : decode cX2_weightsOn 37 = .ok (.iload_n 2, 1) := by decide +kernel
theorem dX2_weightsOn_38 : decode cX2_weightsOn 38 = .ok (.ireturn, 1) := by decide +kernel
theorem dX2_numbersOn_0 : decode cX2_numbersOn 0 = .ok (.iconst 0, 1) := by decide +kernel
theorem dX2_numbersOn_1 : decode cX2_numbersOn 1 = .ok (.istore_n 2, 1) := by decide +kernel
theorem dX2_numbersOn_2 : decode cX2_numbersOn 2 = .ok (.iconst 0, 1) := by decide +kernel
theorem dX2_numbersOn_3 : decode cX2_numbersOn 3 = .ok (.istore_n 3, 1) := by decide +kernel
theorem dX2_numbersOn_4 : decode cX2_numbersOn 4 = .ok (.iload_n 3, 1) := by decide +kernel
theorem dX2_numbersOn_5 : decode cX2_numbersOn 5 = .ok (.bipush 12, 2) := by decide +kernel
theorem dX2_numbersOn_7 : decode cX2_numbersOn 7 = .ok (.if_icmp .ge 28, 3) := by decide +kernel
theorem dX2_numbersOn_10 : decode cX2_numbersOn 10 = .ok (.aload_n 0, 1) := by decide +kernel
theorem dX2_numbersOn_11 : decode cX2_numbersOn 11 = .ok (.getfield 15, 3) := by decide +kernel
theorem dX2_numbersOn_14 : decode cX2_numbersOn 14 = .ok (.iload_n 3, 1) := by decide +kernel
theorem dX2_numbersOn_15 : decode cX2_numbersOn 15 = .ok (.iaload, 1) := by decide +kernel
theorem dX2_numbersOn_16 : decode cX2_numbersOn 16 = .ok (.iload_n 1, 1) := by decide +kernel
theorem dX2_numbersOn_17 : decode cX2_numbersOn 17 = .ok (.if_icmp .ne 12, 3) := by decide +kernel
theorem dX2_numbersOn_20 : decode cX2_numbersOn 20 = .ok (.iload_n 2, 1) := by decide +kernel
theorem dX2_numbersOn_21 : decode cX2_numbersOn 21 = .ok (.aload_n 0, 1) := by decide +kernel
theorem dX2_numbersOn_22 : decode cX2_numbersOn 22 = .ok (.getfield 9, 3) := by decide +kernel
theorem dX2_numbersOn_25 : decode cX2_numbersOn 25 = .ok (.iload_n 3, 1) := by decide +kernel
theorem dX2_numbersOn_26 : decode cX2_numbersOn 26 = .ok (.iaload, 1) := by decide +kernel
theorem dX2_numbersOn_27 : decode cX2_numbersOn 27 = .ok (.iadd, 1) := by decide +kernel
theorem dX2_numbersOn_28 : decode cX2_numbersOn 28 = .ok (.istore_n 2, 1) := by decide +kernel
theorem dX2_numbersOn_29 : decode cX2_numbersOn 29 = .ok (.iinc 3 1, 3) := by decide +kernel
theorem dX2_numbersOn_32 : decode cX2_numbersOn 32 = .ok (.goto (-28), 3) := by decide +kernel
theorem dX2_numbersOn_35 : decode cX2_numbersOn 35 = .ok (.iload_n 2, 1) := by decide +kernel
theorem dX2_numbersOn_36 : decode cX2_numbersOn 36 = .ok (.ireturn, 1) := by decide +kernel
set_option maxRecDepth 20000 in
theorem ggX2_kiteAtPoint_X3_isString : GoodIn wsX2_kiteAtPoint wsX3_isString := goodIn_r _ [5] (by decide +kernel) (by decide +kernel)
set_option maxRecDepth 20000 in
theorem gX2_kiteAtPoint_X3_isString_n50 : GoodIn wsX2_kiteAtPoint (wsX3_isString) := ggX2_kiteAtPoint_X3_isString
theorem dX2_kiteAtPoint_0 : decode cX2_kiteAtPoint 0 = .ok (.iload_n 1, 1) := by decide +kernel
theorem dX2_kiteAtPoint_1 : decode cX2_kiteAtPoint 1 = .ok (.invokestatic 50, 3) := by decide +kernel
theorem dX2_kiteAtPoint_4 : decode cX2_kiteAtPoint 4 = .ok (.ifCond .ne 7, 3) := by decide +kernel
theorem dX2_kiteAtPoint_7 : decode cX2_kiteAtPoint 7 = .ok (.sipush (-10001), 3) := by decide +kernel
theorem dX2_kiteAtPoint_10 : decode cX2_kiteAtPoint 10 = .ok (.ireturn, 1) := by decide +kernel
theorem dX2_kiteAtPoint_11 : decode cX2_kiteAtPoint 11 = .ok (.iload_n 2, 1) := by decide +kernel
theorem dX2_kiteAtPoint_12 : decode cX2_kiteAtPoint 12 = .ok (.ifCond .ge 7, 3) := by decide +kernel
theorem dX2_kiteAtPoint_15 : decode cX2_kiteAtPoint 15 = .ok (.sipush (-10002), 3) := by decide +kernel
theorem dX2_kiteAtPoint_18 : decode cX2_kiteAtPoint 18 = .ok (.ireturn, 1) := by decide +kernel
theorem dX2_kiteAtPoint_19 : decode cX2_kiteAtPoint 19 = .ok (.iconst 0, 1) := by decide +kernel
theorem dX2_kiteAtPoint_20 : decode cX2_kiteAtPoint 20 = .ok (.istore_n 3, 1) := by decide +kernel
theorem dX2_kiteAtPoint_21 : decode cX2_kiteAtPoint 21 = .ok (.iconst 0, 1) := by decide +kernel
theorem dX2_kiteAtPoint_22 : decode cX2_kiteAtPoint 22 = .ok (.istore 4, 2) := by decide +kernel
theorem dX2_kiteAtPoint_24 : decode cX2_kiteAtPoint 24 = .ok (.iload 4, 2) := by decide +kernel
theorem dX2_kiteAtPoint_26 : decode cX2_kiteAtPoint 26 = .ok (.bipush 12, 2) := by decide +kernel
theorem dX2_kiteAtPoint_28 : decode cX2_kiteAtPoint 28 = .ok (.if_icmp .ge 40, 3) := by decide +kernel
theorem dX2_kiteAtPoint_31 : decode cX2_kiteAtPoint 31 = .ok (.aload_n 0, 1) := by decide +kernel
theorem dX2_kiteAtPoint_32 : decode cX2_kiteAtPoint 32 = .ok (.getfield 15, 3) := by decide +kernel
theorem dX2_kiteAtPoint_35 : decode cX2_kiteAtPoint 35 = .ok (.iload 4, 2) := by decide +kernel
theorem dX2_kiteAtPoint_37 : decode cX2_kiteAtPoint 37 = .ok (.iaload, 1) := by decide +kernel
theorem dX2_kiteAtPoint_38 : decode cX2_kiteAtPoint 38 = .ok (.iload_n 1, 1) := by decide +kernel
theorem dX2_kiteAtPoint_39 : decode cX2_kiteAtPoint 39 = .ok (.if_icmp .ne 23, 3) := by decide +kernel
theorem dX2_kiteAtPoint_42 : decode cX2_kiteAtPoint 42 = .ok (.iload_n 3, 1) := by decide +kernel
theorem dX2_kiteAtPoint_43 : decode cX2_kiteAtPoint 43 = .ok (.aload_n 0, 1) := by decide +kernel
theorem dX2_kiteAtPoint_44 : decode cX2_kiteAtPoint 44 = .ok (.getfield 18, 3) := by decide +kernel
theorem dX2_kiteAtPoint_47 : decode cX2_kiteAtPoint 47 = .ok (.iload 4, 2) := by decide +kernel
theorem dX2_kiteAtPoint_49 : decode cX2_kiteAtPoint 49 = .ok (.iaload, 1) := by decide +kernel
theorem dX2_kiteAtPoint_50 : decode cX2_kiteAtPoint 50 = .ok (.iconst 1, 1) := by decide +kernel
theorem dX2_kiteAtPoint_51 : decode cX2_kiteAtPoint 51 = .ok (.iadd, 1) := by decide +kernel
theorem dX2_kiteAtPoint_52 : decode cX2_kiteAtPoint 52 = .ok (.iadd, 1) := by decide +kernel
theorem dX2_kiteAtPoint_53 : decode cX2_kiteAtPoint 53 = .ok (.istore_n 3, 1) := by decide +kernel
theorem dX2_kiteAtPoint_54 : decode cX2_kiteAtPoint 54 = .ok (.iload_n 2, 1) := by decide +kernel
theorem dX2_kiteAtPoint_55 : decode cX2_kiteAtPoint 55 = .ok (.iload_n 3, 1) := by decide +kernel
theorem dX2_kiteAtPoint_56 : decode cX2_kiteAtPoint 56 = .ok (.if_icmp .ge 6, 3) := by decide +kernel
theorem dX2_kiteAtPoint_59 : decode cX2_kiteAtPoint 59 = .ok (.iload 4, 2) := by decide +kernel
theorem dX2_kiteAtPoint_61 : decode cX2_kiteAtPoint 61 = .ok (.ireturn, 1) := by decide +kernel
theorem dX2_kiteAtPoint_62 : decode cX2_kiteAtPoint 62 = .ok (.iinc 4 1, 3) := by decide +kernel
theorem dX2_kiteAtPoint_65 : decode cX2_kiteAtPoint 65 = .ok (.goto (-41), 3) := by decide +kernel
theorem dX2_kiteAtPoint_68 : decode cX2_kiteAtPoint 68 = .ok (.sipush (-10002), 3) := by decide +kernel
theorem dX2_kiteAtPoint_71 : decode cX2_kiteAtPoint 71 = .ok (.ireturn, 1) := by decide +kernel
set_option maxRecDepth 20000 in
theorem ggX2_beatNow_J9_floorMod_7cf53 : GoodIn wsX2_beatNow wsJ9_floorMod_7cf53 := goodIn_r _ [5] (by decide +kernel) (by decide +kernel)
set_option maxRecDepth 20000 in
theorem gX2_beatNow_J9_floorMod_7cf53 : GoodIn wsX2_beatNow (va_wsS RX2 138 yJ9_floorMod_7cf53 wsJ9_floorMod_7cf53) := goodIn_app (goodIn_of _ (by decide +kernel)) ggX2_beatNow_J9_floorMod_7cf53
theorem dX2_beatNow_0 : decode cX2_beatNow 0 = .ok (.aload_n 0, 1) := by decide +kernel
theorem dX2_beatNow_1 : decode cX2_beatNow 1 = .ok (.getfield 37, 3) := by decide +kernel
theorem dX2_beatNow_4 : decode cX2_beatNow 4 = .ok (.bipush 8, 2) := by decide +kernel
theorem dX2_beatNow_6 : decode cX2_beatNow 6 = .ok (.invokestatic 138, 3) := by decide +kernel
theorem dX2_beatNow_9 : decode cX2_beatNow 9 = .ok (.ireturn, 1) := by decide +kernel
set_option maxRecDepth 20000 in
theorem ggX2_windNow_X2_beatNow : GoodIn wsX2_windNow wsX2_beatNow := goodIn_r _ [5, 6, 7, 8, 9, 10, 19, 20, 21, 22, 23, 24, 25, 26, 27, 28, 29, 30] (by decide +kernel) (by decide +kernel)
set_option maxRecDepth 20000 in
theorem gX2_windNow_X2_beatNow : GoodIn wsX2_windNow (wsV RX2 86 RX2 yX2_beatNow wsX2_beatNow) := goodIn_app (goodIn_of _ (by decide +kernel)) ggX2_windNow_X2_beatNow
set_option maxRecDepth 20000 in
theorem ggX2_windNow_X2_windAt : GoodIn wsX2_windNow wsX2_windAt := goodIn_r _ [14, 15, 16, 17, 18, 19, 20, 21, 22, 23, 24, 25, 26, 27, 28, 29, 30] (by decide +kernel) (by decide +kernel)
set_option maxRecDepth 20000 in
theorem gX2_windNow_X2_windAt : GoodIn wsX2_windNow (wsV RX2 141 RX2 yX2_windAt wsX2_windAt) := goodIn_app (goodIn_of _ (by decide +kernel)) ggX2_windNow_X2_windAt
theorem dX2_windNow_0 : decode cX2_windNow 0 = .ok (.aload_n 0, 1) := by decide +kernel
theorem dX2_windNow_1 : decode cX2_windNow 1 = .ok (.aload_n 0, 1) := by decide +kernel
theorem dX2_windNow_2 : decode cX2_windNow 2 = .ok (.invokevirtual 86, 3) := by decide +kernel
theorem dX2_windNow_5 : decode cX2_windNow 5 = .ok (.invokevirtual 141, 3) := by decide +kernel
theorem dX2_windNow_8 : decode cX2_windNow 8 = .ok (.ireturn, 1) := by decide +kernel
set_option maxRecDepth 20000 in
theorem ggX2_windAt_X3_isBeat : GoodIn wsX2_windAt wsX3_isBeat := goodIn_r _ [4] (by decide +kernel) (by decide +kernel)
set_option maxRecDepth 20000 in
theorem gX2_windAt_X3_isBeat_n89 : GoodIn wsX2_windAt (wsX3_isBeat) := ggX2_windAt_X3_isBeat
theorem dX2_windAt_0 : decode cX2_windAt 0 = .ok (.iload_n 1, 1) := by decide +kernel
theorem dX2_windAt_1 : decode cX2_windAt 1 = .ok (.invokestatic 89, 3) := by decide +kernel
theorem dX2_windAt_4 : decode cX2_windAt 4 = .ok (.ifCond .eq 12, 3) := by decide +kernel
theorem dX2_windAt_7 : decode cX2_windAt 7 = .ok (.aload_n 0, 1) := by decide +kernel
theorem dX2_windAt_8 : decode cX2_windAt 8 = .ok (.getfield 31, 3) := by decide +kernel
theorem dX2_windAt_11 : decode cX2_windAt 11 = .ok (.iload_n 1, 1) := by decide +kernel
theorem dX2_windAt_12 : decode cX2_windAt 12 = .ok (.iaload, 1) := by decide +kernel
theorem dX2_windAt_13 : decode cX2_windAt 13 = .ok (.goto 6, 3) := by decide +kernel
theorem dX2_windAt_16 : decode cX2_windAt 16 = .ok (.sipush (-10001), 3) := by decide +kernel
theorem dX2_windAt_19 : decode cX2_windAt 19 = .ok (.ireturn, 1) := by decide +kernel
set_option maxRecDepth 20000 in
theorem ggX2_greatestSafeWind_X2_isSafe : GoodIn wsX2_greatestSafeWind wsX2_isSafe := goodIn_r _ [5, 6, 7, 8, 9, 10, 11, 4, 12, 13, 14, 15, 16, 17, 18, 19, 20, 21, 22, 23, 24, 25, 26, 27, 28, 29, 30, 31, 32] (by decide +kernel) (by decide +kernel)
set_option maxRecDepth 20000 in
theorem gX2_greatestSafeWind_X2_isSafe : GoodIn wsX2_greatestSafeWind (wsV RX2 144 RX2 yX2_isSafe wsX2_isSafe) := goodIn_app (goodIn_of _ (by decide +kernel)) ggX2_greatestSafeWind_X2_isSafe
theorem dX2_greatestSafeWind_0 : decode cX2_greatestSafeWind 0 = .ok (.bipush 9, 2) := by decide +kernel
theorem dX2_greatestSafeWind_2 : decode cX2_greatestSafeWind 2 = .ok (.istore_n 1, 1) := by decide +kernel
theorem dX2_greatestSafeWind_3 : decode cX2_greatestSafeWind 3 = .ok (.iload_n 1, 1) := by decide +kernel
theorem dX2_greatestSafeWind_4 : decode cX2_greatestSafeWind 4 = .ok (.ifCond .lt 19, 3) := by decide +kernel
theorem dX2_greatestSafeWind_7 : decode cX2_greatestSafeWind 7 = .ok (.aload_n 0, 1) := by decide +kernel
theorem dX2_greatestSafeWind_8 : decode cX2_greatestSafeWind 8 = .ok (.iload_n 1, 1) := by decide +kernel
theorem dX2_greatestSafeWind_9 : decode cX2_greatestSafeWind 9 = .ok (.invokevirtual 144, 3) := by decide +kernel
theorem dX2_greatestSafeWind_12 : decode cX2_greatestSafeWind 12 = .ok (.ifCond .eq 5, 3) := by decide +kernel
theorem dX2_greatestSafeWind_15 : decode cX2_greatestSafeWind 15 = .ok (.iload_n 1, 1) := by decide +kernel
theorem dX2_greatestSafeWind_16 : decode cX2_greatestSafeWind 16 = .ok (.ireturn, 1) := by decide +kernel
theorem dX2_greatestSafeWind_17 : decode cX2_greatestSafeWind 17 = .ok (.iinc 1 (-1), 3) := by decide +kernel
theorem dX2_greatestSafeWind_20 : decode cX2_greatestSafeWind 20 = .ok (.goto (-17), 3) := by decide +kernel
theorem dX2_greatestSafeWind_23 : decode cX2_greatestSafeWind 23 = .ok (.sipush (-10005), 3) := by decide +kernel
theorem dX2_greatestSafeWind_26 : decode cX2_greatestSafeWind 26 = .ok (.ireturn, 1) := by decide +kernel
set_option maxRecDepth 20000 in
theorem ggX2_isSafe_X2_risen : GoodIn wsX2_isSafe wsX2_risen := goodIn_r _ [8, 9, 10, 11, 7, 12, 13, 14, 15, 16, 1, 2, 17, 18, 19, 20, 21, 22, 23, 24, 25, 26, 27, 28] (by decide +kernel) (by decide +kernel)
set_option maxRecDepth 20000 in
theorem gX2_isSafe_X2_risen : GoodIn wsX2_isSafe (wsV RX2 68 RX2 yX2_risen wsX2_risen) := goodIn_app (goodIn_of _ (by decide +kernel)) ggX2_isSafe_X2_risen
theorem dX2_isSafe_0 : decode cX2_isSafe 0 = .ok (.iconst 0, 1) := by decide +kernel
theorem dX2_isSafe_1 : decode cX2_isSafe 1 = .ok (.istore_n 2, 1) := by decide +kernel
theorem dX2_isSafe_2 : decode cX2_isSafe 2 = .ok (.iload_n 2, 1) := by decide +kernel
theorem dX2_isSafe_3 : decode cX2_isSafe 3 = .ok (.bipush 12, 2) := by decide +kernel
theorem dX2_isSafe_5 : decode cX2_isSafe 5 = .ok (.if_icmp .ge 45, 3) := by decide +kernel
theorem dX2_isSafe_8 : decode cX2_isSafe 8 = .ok (.aload_n 0, 1) := by decide +kernel
theorem dX2_isSafe_9 : decode cX2_isSafe 9 = .ok (.getfield 15, 3) := by decide +kernel
theorem dX2_isSafe_12 : decode cX2_isSafe 12 = .ok (.iload_n 2, 1) := by decide +kernel
theorem dX2_isSafe_13 : decode cX2_isSafe 13 = .ok (.iaload, 1) := by decide +kernel
theorem dX2_isSafe_14 : decode cX2_isSafe 14 = .ok (.iconst (-1), 1) := by decide +kernel
theorem dX2_isSafe_15 : decode cX2_isSafe 15 = .ok (.if_icmp .eq 29, 3) := by decide +kernel
theorem dX2_isSafe_18 : decode cX2_isSafe 18 = .ok (.aload_n 0, 1) := by decide +kernel
theorem dX2_isSafe_19 : decode cX2_isSafe 19 = .ok (.aload_n 0, 1) := by decide +kernel
theorem dX2_isSafe_20 : decode cX2_isSafe 20 = .ok (.getfield 15, 3) := by decide +kernel
theorem dX2_isSafe_23 : decode cX2_isSafe 23 = .ok (.iload_n 2, 1) := by decide +kernel
theorem dX2_isSafe_24 : decode cX2_isSafe 24 = .ok (.iaload, 1) := by decide +kernel
theorem dX2_isSafe_25 : decode cX2_isSafe 25 = .ok (.aload_n 0, 1) := by decide +kernel
theorem dX2_isSafe_26 : decode cX2_isSafe 26 = .ok (.getfield 18, 3) := by decide +kernel
theorem dX2_isSafe_29 : decode cX2_isSafe 29 = .ok (.iload_n 2, 1) := by decide +kernel
theorem dX2_isSafe_30 : decode cX2_isSafe 30 = .ok (.iaload, 1) := by decide +kernel
theorem dX2_isSafe_31 : decode cX2_isSafe 31 = .ok (.iload_n 1, 1) := by decide +kernel
theorem dX2_isSafe_32 : decode cX2_isSafe 32 = .ok (.invokevirtual 68, 3) := by decide +kernel
theorem dX2_isSafe_35 : decode cX2_isSafe 35 = .ok (.aload_n 0, 1) := by decide +kernel
theorem dX2_isSafe_36 : decode cX2_isSafe 36 = .ok (.getfield 44, 3) := by decide +kernel
theorem dX2_isSafe_39 : decode cX2_isSafe 39 = .ok (.if_icmp .le 5, 3) := by decide +kernel
theorem dX2_isSafe_42 : decode cX2_isSafe 42 = .ok (.iconst 0, 1) := by decide +kernel
theorem dX2_isSafe_43 : decode cX2_isSafe 43 = .ok (.ireturn, 1) := by decide +kernel
theorem dX2_isSafe_44 : decode cX2_isSafe 44 = .ok (.iinc 2 1, 3) := by decide +kernel
theorem dX2_isSafe_47 : decode cX2_isSafe 47 = .ok (.goto (-45), 3) := by decide +kernel
theorem dX2_isSafe_50 : decode cX2_isSafe 50 = .ok (.iconst 1, 1) := by decide +kernel
theorem dX2_isSafe_51 : decode cX2_isSafe 51 = .ok (.ireturn, 1) := by decide +kernel
set_option maxRecDepth 20000 in
theorem ggX2_aboutAll_X2_kitesInAll : GoodIn wsX2_aboutAll wsX2_kitesInAll := goodIn_r _ [9, 10, 58, 59, 60, 61, 62, 63, 64, 65, 66, 67, 68, 69] (by decide +kernel) (by decide +kernel)
set_option maxRecDepth 20000 in
theorem gX2_aboutAll_X2_kitesInAll : GoodIn wsX2_aboutAll (wsV RX2 150 RX2 yX2_kitesInAll wsX2_kitesInAll) := goodIn_app (goodIn_of _ (by decide +kernel)) ggX2_aboutAll_X2_kitesInAll
set_option maxRecDepth 20000 in
theorem ggX2_aboutAll_X2_beatNow : GoodIn wsX2_aboutAll wsX2_beatNow := goodIn_r _ [14, 4, 15, 16, 17, 18, 58, 59, 60, 61, 62, 63, 64, 65, 66, 67, 68, 69] (by decide +kernel) (by decide +kernel)
set_option maxRecDepth 20000 in
theorem gX2_aboutAll_X2_beatNow : GoodIn wsX2_aboutAll (wsV RX2 86 RX2 yX2_beatNow wsX2_beatNow) := goodIn_app (goodIn_of _ (by decide +kernel)) ggX2_aboutAll_X2_beatNow
set_option maxRecDepth 20000 in
theorem ggX2_aboutAll_X2_windNow : GoodIn wsX2_aboutAll wsX2_windNow := goodIn_r _ [22, 11, 12, 13, 8, 14, 4, 15, 16, 17, 18, 23, 24, 25, 26, 27, 28, 29, 30, 58, 59, 60, 61, 62, 63, 64, 65, 66, 67, 68, 69] (by decide +kernel) (by decide +kernel)
set_option maxRecDepth 20000 in
theorem gX2_aboutAll_X2_windNow : GoodIn wsX2_aboutAll (wsV RX2 64 RX2 yX2_windNow wsX2_windNow) := goodIn_app (goodIn_of _ (by decide +kernel)) ggX2_aboutAll_X2_windNow
set_option maxRecDepth 20000 in
theorem ggX2_aboutAll_X2_cutsSoFar : GoodIn wsX2_aboutAll wsX2_cutsSoFar := goodIn_r _ [34, 35, 58, 59, 60, 61, 62, 63, 64, 65, 66, 67, 68, 69] (by decide +kernel) (by decide +kernel)
set_option maxRecDepth 20000 in
theorem gX2_aboutAll_X2_cutsSoFar : GoodIn wsX2_aboutAll (wsV RX2 153 RX2 yX2_cutsSoFar wsX2_cutsSoFar) := goodIn_app (goodIn_of _ (by decide +kernel)) ggX2_aboutAll_X2_cutsSoFar
set_option maxRecDepth 20000 in
theorem ggX2_aboutAll_X2_freshKites : GoodIn wsX2_aboutAll wsX2_freshKites := goodIn_r _ [39, 10, 40, 58, 59, 60, 61, 62, 63, 64, 65, 66, 67, 68, 69] (by decide +kernel) (by decide +kernel)
set_option maxRecDepth 20000 in
theorem gX2_aboutAll_X2_freshKites : GoodIn wsX2_aboutAll (wsV RX2 156 RX2 yX2_freshKites wsX2_freshKites) := goodIn_app (goodIn_of _ (by decide +kernel)) ggX2_aboutAll_X2_freshKites
set_option maxRecDepth 20000 in
theorem ggX2_aboutAll_X2_greatestHeight : GoodIn wsX2_aboutAll wsX2_greatestHeight := goodIn_r _ [44, 10, 45, 46, 47, 48, 49, 58, 59, 60, 61, 62, 63, 64, 65, 66, 67, 68, 69] (by decide +kernel) (by decide +kernel)
set_option maxRecDepth 20000 in
theorem gX2_aboutAll_X2_greatestHeight : GoodIn wsX2_aboutAll (wsV RX2 159 RX2 yX2_greatestHeight wsX2_greatestHeight) := goodIn_app (goodIn_of _ (by decide +kernel)) ggX2_aboutAll_X2_greatestHeight
set_option maxRecDepth 20000 in
theorem ggX2_aboutAll_X2_weightsInAll : GoodIn wsX2_aboutAll wsX2_weightsInAll := goodIn_r _ [53, 54, 55, 56, 8, 57, 10, 45, 58, 59, 60, 61, 62, 63, 64, 65, 66, 67, 68, 69] (by decide +kernel) (by decide +kernel)
set_option maxRecDepth 20000 in
theorem gX2_aboutAll_X2_weightsInAll : GoodIn wsX2_aboutAll (wsV RX2 162 RX2 yX2_weightsInAll wsX2_weightsInAll) := goodIn_app (goodIn_of _ (by decide +kernel)) ggX2_aboutAll_X2_weightsInAll
theorem dX2_aboutAll_0 : decode cX2_aboutAll 0 = .ok (.iload_n 1, 1) := by decide +kernel
theorem dX2_aboutAll_1 : decode cX2_aboutAll 1 = .ok (.tableswitch 114 0 10 #[59, 64, 69, 74, 79, 84, 89, 94, 99, 104, 109], 59) := by decide +kernel
theorem dX2_aboutAll_60 : decode cX2_aboutAll 60 = .ok (.aload_n 0, 1) := by decide +kernel
theorem dX2_aboutAll_61 : decode cX2_aboutAll 61 = .ok (.invokevirtual 150, 3) := by decide +kernel
theorem dX2_aboutAll_64 : decode cX2_aboutAll 64 = .ok (.ireturn, 1) := by decide +kernel
theorem dX2_aboutAll_65 : decode cX2_aboutAll 65 = .ok (.aload_n 0, 1) := by decide +kernel
theorem dX2_aboutAll_66 : decode cX2_aboutAll 66 = .ok (.invokevirtual 86, 3) := by decide +kernel
theorem dX2_aboutAll_69 : decode cX2_aboutAll 69 = .ok (.ireturn, 1) := by decide +kernel
theorem dX2_aboutAll_70 : decode cX2_aboutAll 70 = .ok (.aload_n 0, 1) := by decide +kernel
theorem dX2_aboutAll_71 : decode cX2_aboutAll 71 = .ok (.invokevirtual 64, 3) := by decide +kernel
theorem dX2_aboutAll_74 : decode cX2_aboutAll 74 = .ok (.ireturn, 1) := by decide +kernel
theorem dX2_aboutAll_75 : decode cX2_aboutAll 75 = .ok (.aload_n 0, 1) := by decide +kernel
theorem dX2_aboutAll_76 : decode cX2_aboutAll 76 = .ok (.getfield 41, 3) := by decide +kernel
theorem dX2_aboutAll_79 : decode cX2_aboutAll 79 = .ok (.ireturn, 1) := by decide +kernel
theorem dX2_aboutAll_80 : decode cX2_aboutAll 80 = .ok (.aload_n 0, 1) := by decide +kernel
theorem dX2_aboutAll_81 : decode cX2_aboutAll 81 = .ok (.invokevirtual 153, 3) := by decide +kernel
theorem dX2_aboutAll_84 : decode cX2_aboutAll 84 = .ok (.ireturn, 1) := by decide +kernel
theorem dX2_aboutAll_85 : decode cX2_aboutAll 85 = .ok (.aload_n 0, 1) := by decide +kernel
theorem dX2_aboutAll_86 : decode cX2_aboutAll 86 = .ok (.invokevirtual 156, 3) := by decide +kernel
theorem dX2_aboutAll_89 : decode cX2_aboutAll 89 = .ok (.ireturn, 1) := by decide +kernel
theorem dX2_aboutAll_90 : decode cX2_aboutAll 90 = .ok (.aload_n 0, 1) := by decide +kernel
theorem dX2_aboutAll_91 : decode cX2_aboutAll 91 = .ok (.invokevirtual 159, 3) := by decide +kernel
theorem dX2_aboutAll_94 : decode cX2_aboutAll 94 = .ok (.ireturn, 1) := by decide +kernel
theorem dX2_aboutAll_95 : decode cX2_aboutAll 95 = .ok (.aload_n 0, 1) := by decide +kernel
theorem dX2_aboutAll_96 : decode cX2_aboutAll 96 = .ok (.invokevirtual 162, 3) := by decide +kernel
theorem dX2_aboutAll_99 : decode cX2_aboutAll 99 = .ok (.ireturn, 1) := by decide +kernel
theorem dX2_aboutAll_100 : decode cX2_aboutAll 100 = .ok (.aload_n 0, 1) := by decide +kernel
theorem dX2_aboutAll_101 : decode cX2_aboutAll 101 = .ok (.getfield 44, 3) := by decide +kernel
theorem dX2_aboutAll_104 : decode cX2_aboutAll 104 = .ok (.ireturn, 1) := by decide +kernel
theorem dX2_aboutAll_105 : decode cX2_aboutAll 105 = .ok (.aload_n 0, 1) := by decide +kernel
theorem dX2_aboutAll_106 : decode cX2_aboutAll 106 = .ok (.getfield 47, 3) := by decide +kernel
theorem dX2_aboutAll_109 : decode cX2_aboutAll 109 = .ok (.ireturn, 1) := by decide +kernel
theorem dX2_aboutAll_110 : decode cX2_aboutAll 110 = .ok (.aload_n 0, 1) := by decide +kernel
theorem dX2_aboutAll_111 : decode cX2_aboutAll 111 = .ok (.getfield 37, 3) := by decide +kernel
theorem dX2_aboutAll_114 : decode cX2_aboutAll 114 = .ok (.ireturn, 1) := by decide +kernel
theorem dX2_aboutAll_115 : decode cX2_aboutAll 115 = .ok (.sipush (-10002), 3) := by decide +kernel
theorem dX2_aboutAll_118 : decode cX2_aboutAll 118 = .ok (.ireturn, 1) := by decide +kernel
theorem dX2_kitesInAll_0 : decode cX2_kitesInAll 0 = .ok (.iconst 0, 1) := by decide +kernel
theorem dX2_kitesInAll_1 : decode cX2_kitesInAll 1 = .ok (.istore_n 1, 1) := by decide +kernel
theorem dX2_kitesInAll_2 : decode cX2_kitesInAll 2 = .ok (.iconst 0, 1) := by decide +kernel
theorem dX2_kitesInAll_3 : decode cX2_kitesInAll 3 = .ok (.istore_n 2, 1) := by decide +kernel
theorem dX2_kitesInAll_4 : decode cX2_kitesInAll 4 = .ok (.iload_n 2, 1) := by decide +kernel
theorem dX2_kitesInAll_5 : decode cX2_kitesInAll 5 = .ok (.bipush 12, 2) := by decide +kernel
theorem dX2_kitesInAll_7 : decode cX2_kitesInAll 7 = .ok (.if_icmp .ge 22, 3) := by decide +kernel
theorem dX2_kitesInAll_10 : decode cX2_kitesInAll 10 = .ok (.aload_n 0, 1) := by decide +kernel
theorem dX2_kitesInAll_11 : decode cX2_kitesInAll 11 = .ok (.getfield 15, 3) := by decide +kernel
theorem dX2_kitesInAll_14 : decode cX2_kitesInAll 14 = .ok (.iload_n 2, 1) := by decide +kernel
theorem dX2_kitesInAll_15 : decode cX2_kitesInAll 15 = .ok (.iaload, 1) := by decide +kernel
theorem dX2_kitesInAll_16 : decode cX2_kitesInAll 16 = .ok (.iconst (-1), 1) := by decide +kernel
theorem dX2_kitesInAll_17 : decode cX2_kitesInAll 17 = .ok (.if_icmp .eq 6, 3) := by decide +kernel
theorem dX2_kitesInAll_20 : decode cX2_kitesInAll 20 = .ok (.iinc 1 1, 3) := by decide +kernel
theorem dX2_kitesInAll_23 : decode cX2_kitesInAll 23 = .ok (.iinc 2 1, 3) := by decide +kernel
theorem dX2_kitesInAll_26 : decode cX2_kitesInAll 26 = .ok (.goto (-22), 3) := by decide +kernel
theorem dX2_kitesInAll_29 : decode cX2_kitesInAll 29 = .ok (.iload_n 1, 1) := by decide +kernel
theorem dX2_kitesInAll_30 : decode cX2_kitesInAll 30 = .ok (.ireturn, 1) := by decide +kernel
theorem dX2_cutsSoFar_0 : decode cX2_cutsSoFar 0 = .ok (.iconst 0, 1) := by decide +kernel
theorem dX2_cutsSoFar_1 : decode cX2_cutsSoFar 1 = .ok (.istore_n 1, 1) := by decide +kernel
theorem dX2_cutsSoFar_2 : decode cX2_cutsSoFar 2 = .ok (.iconst 0, 1) := by decide +kernel
theorem dX2_cutsSoFar_3 : decode cX2_cutsSoFar 3 = .ok (.istore_n 2, 1) := by decide +kernel
theorem dX2_cutsSoFar_4 : decode cX2_cutsSoFar 4 = .ok (.iload_n 2, 1) := by decide +kernel
theorem dX2_cutsSoFar_5 : decode cX2_cutsSoFar 5 = .ok (.iconst 4, 1) := by decide +kernel
theorem dX2_cutsSoFar_6 : decode cX2_cutsSoFar 6 = .ok (.if_icmp .ge 18, 3) := by decide +kernel
theorem dX2_cutsSoFar_9 : decode cX2_cutsSoFar 9 = .ok (.iload_n 1, 1) := by decide +kernel
theorem dX2_cutsSoFar_10 : decode cX2_cutsSoFar 10 = .ok (.aload_n 0, 1) := by decide +kernel
theorem dX2_cutsSoFar_11 : decode cX2_cutsSoFar 11 = .ok (.getfield 34, 3) := by decide +kernel
theorem dX2_cutsSoFar_14 : decode cX2_cutsSoFar 14 = .ok (.iload_n 2, 1) := by decide +kernel
theorem dX2_cutsSoFar_15 : decode cX2_cutsSoFar 15 = .ok (.iaload, 1) := by decide +kernel
theorem dX2_cutsSoFar_16 : decode cX2_cutsSoFar 16 = .ok (.iadd, 1) := by decide +kernel
theorem dX2_cutsSoFar_17 : decode cX2_cutsSoFar 17 = .ok (.istore_n 1, 1) := by decide +kernel
theorem dX2_cutsSoFar_18 : decode cX2_cutsSoFar 18 = .ok (.iinc 2 1, 3) := by decide +kernel
theorem dX2_cutsSoFar_21 : decode cX2_cutsSoFar 21 = .ok (.goto (-17), 3) := by decide +kernel
theorem dX2_cutsSoFar_24 : decode cX2_cutsSoFar 24 = .ok (.iload_n 1, 1) := by decide +kernel
theorem dX2_cutsSoFar_25 : decode cX2_cutsSoFar 25 = .ok (.ireturn, 1) := by decide +kernel
theorem dX2_freshKites_0 : decode cX2_freshKites 0 = .ok (.iconst 0, 1) := by decide +kernel
theorem dX2_freshKites_1 : decode cX2_freshKites 1 = .ok (.istore_n 1, 1) := by decide +kernel
theorem dX2_freshKites_2 : decode cX2_freshKites 2 = .ok (.iconst 0, 1) := by decide +kernel
theorem dX2_freshKites_3 : decode cX2_freshKites 3 = .ok (.istore_n 2, 1) := by decide +kernel
theorem dX2_freshKites_4 : decode cX2_freshKites 4 = .ok (.iload_n 2, 1) := by decide +kernel
theorem dX2_freshKites_5 : decode cX2_freshKites 5 = .ok (.bipush 12, 2) := by decide +kernel
theorem dX2_freshKites_7 : decode cX2_freshKites 7 = .ok (.if_icmp .ge 31, 3) := by decide +kernel
theorem dX2_freshKites_10 : decode cX2_freshKites 10 = .ok (.aload_n 0, 1) := by decide +kernel
theorem dX2_freshKites_11 : decode cX2_freshKites 11 = .ok (.getfield 15, 3) := by decide +kernel
theorem dX2_freshKites_14 : decode cX2_freshKites 14 = .ok (.iload_n 2, 1) := by decide +kernel
theorem dX2_freshKites_15 : decode cX2_freshKites 15 = .ok (.iaload, 1) := by decide +kernel
theorem dX2_freshKites_16 : decode cX2_freshKites 16 = .ok (.iconst (-1), 1) := by decide +kernel
theorem dX2_freshKites_17 : decode cX2_freshKites 17 = .ok (.if_icmp .eq 15, 3) := by decide +kernel
theorem dX2_freshKites_20 : decode cX2_freshKites 20 = .ok (.aload_n 0, 1) := by decide +kernel
theorem dX2_freshKites_21 : decode cX2_freshKites 21 = .ok (.getfield 21, 3) := by decide +kernel
theorem dX2_freshKites_24 : decode cX2_freshKites 24 = .ok (.iload_n 2, 1) := by decide +kernel
theorem dX2_freshKites_25 : decode cX2_freshKites 25 = .ok (.baload, 1) := by decide +kernel
theorem dX2_freshKites_26 : decode cX2_freshKites 26 = .ok (.ifCond .eq 6, 3) := by decide +kernel
theorem dX2_freshKites_29 : decode cX2_freshKites 29 = .ok (.iinc 1 1, 3) := by decide +kernel
theorem dX2_freshKites_32 : decode cX2_freshKites 32 = .ok (.iinc 2 1, 3) := by decide +kernel
theorem dX2_freshKites_35 : decode cX2_freshKites 35 = .ok (.goto (-31), 3) := by decide +kernel
theorem dX2_freshKites_38 : decode cX2_freshKites 38 = .ok (.iload_n 1, 1) := by decide +kernel
theorem dX2_freshKites_39 : decode cX2_freshKites 39 = .ok (.ireturn, 1) := by decide +kernel
theorem dX2_greatestHeight_0 : decode cX2_greatestHeight 0 = .ok (.iconst 0, 1) := by decide +kernel
theorem dX2_greatestHeight_1 : decode cX2_greatestHeight 1 = .ok (.istore_n 1, 1) := by decide +kernel
theorem dX2_greatestHeight_2 : decode cX2_greatestHeight 2 = .ok (.iconst 0, 1) := by decide +kernel
theorem dX2_greatestHeight_3 : decode cX2_greatestHeight 3 = .ok (.istore_n 2, 1) := by decide +kernel
theorem dX2_greatestHeight_4 : decode cX2_greatestHeight 4 = .ok (.iload_n 2, 1) := by decide +kernel
theorem dX2_greatestHeight_5 : decode cX2_greatestHeight 5 = .ok (.bipush 12, 2) := by decide +kernel
theorem dX2_greatestHeight_7 : decode cX2_greatestHeight 7 = .ok (.if_icmp .ge 30, 3) := by decide +kernel
theorem dX2_greatestHeight_10 : decode cX2_greatestHeight 10 = .ok (.aload_n 0, 1) := by decide +kernel
theorem dX2_greatestHeight_11 : decode cX2_greatestHeight 11 = .ok (.getfield 15, 3) := by decide +kernel
theorem dX2_greatestHeight_14 : decode cX2_greatestHeight 14 = .ok (.iload_n 2, 1) := by decide +kernel
theorem dX2_greatestHeight_15 : decode cX2_greatestHeight 15 = .ok (.iaload, 1) := by decide +kernel
theorem dX2_greatestHeight_16 : decode cX2_greatestHeight 16 = .ok (.iconst (-1), 1) := by decide +kernel
theorem dX2_greatestHeight_17 : decode cX2_greatestHeight 17 = .ok (.if_icmp .eq 14, 3) := by decide +kernel
theorem dX2_greatestHeight_20 : decode cX2_greatestHeight 20 = .ok (.iload_n 1, 1) := by decide +kernel
theorem dX2_greatestHeight_21 : decode cX2_greatestHeight 21 = .ok (.aload_n 0, 1) := by decide +kernel
theorem dX2_greatestHeight_22 : decode cX2_greatestHeight 22 = .ok (.getfield 18, 3) := by decide +kernel
theorem dX2_greatestHeight_25 : decode cX2_greatestHeight 25 = .ok (.iload_n 2, 1) := by decide +kernel
theorem dX2_greatestHeight_26 : decode cX2_greatestHeight 26 = .ok (.iaload, 1) := by decide +kernel
theorem dX2_greatestHeight_27 : decode cX2_greatestHeight 27 = .ok (.invokestatic 116, 3) := by decide +kernel
theorem dX2_greatestHeight_30 : decode cX2_greatestHeight 30 = .ok (.istore_n 1, 1) := by decide +kernel
theorem dX2_greatestHeight_31 : decode cX2_greatestHeight 31 = .ok (.iinc 2 1, 3) := by decide +kernel
theorem dX2_greatestHeight_34 : decode cX2_greatestHeight 34 = .ok (.goto (-30), 3) := by decide +kernel
theorem dX2_greatestHeight_37 : decode cX2_greatestHeight 37 = .ok (.iload_n 1, 1) := by decide +kernel
theorem dX2_greatestHeight_38 : decode cX2_greatestHeight 38 = .ok (.ireturn, 1) := by decide +kernel
set_option maxRecDepth 20000 in
theorem ggX2_weightsInAll_X2_weightsOn : GoodIn wsX2_weightsInAll wsX2_weightsOn := goodIn_r _ [5, 6, 7, 8, 9, 10, 11, 12, 13, 14, 15, 16, 17, 18, 19] (by decide +kernel) (by decide +kernel)
set_option maxRecDepth 20000 in
theorem gX2_weightsInAll_X2_weightsOn : GoodIn wsX2_weightsInAll (wsV RX2 132 RX2 yX2_weightsOn wsX2_weightsOn) := goodIn_app (goodIn_of _ (by decide +kernel)) ggX2_weightsInAll_X2_weightsOn
theorem dX2_weightsInAll_0 : decode cX2_weightsInAll 0 = .ok (.iconst 0, 1) := by decide +kernel
theorem dX2_weightsInAll_1 : decode cX2_weightsInAll 1 = .ok (.istore_n 1, 1) := by decide +kernel
theorem dX2_weightsInAll_2 : decode cX2_weightsInAll 2 = .ok (.iconst 0, 1) := by decide +kernel
theorem dX2_weightsInAll_3 : decode cX2_weightsInAll 3 = .ok (.istore_n 2, 1) := by decide +kernel
theorem dX2_weightsInAll_4 : decode cX2_weightsInAll 4 = .ok (.iload_n 2, 1) := by decide +kernel
theorem dX2_weightsInAll_5 : decode cX2_weightsInAll 5 = .ok (.iconst 4, 1) := by decide +kernel
theorem dX2_weightsInAll_6 : decode cX2_weightsInAll 6 = .ok (.if_icmp .ge 17, 3) := by decide +kernel
theorem dX2_weightsInAll_9 : decode cX2_weightsInAll 9 = .ok (.iload_n 1, 1) := by decide +kernel
theorem dX2_weightsInAll_10 : decode cX2_weightsInAll 10 = .ok (.aload_n 0, 1) := by decide +kernel
theorem dX2_weightsInAll_11 : decode cX2_weightsInAll 11 = .ok (.iload_n 2, 1) := by decide +kernel
theorem dX2_weightsInAll_12 : decode cX2_weightsInAll 12 = .ok (.invokevirtual 132, 3) := by decide +kernel
theorem dX2_weightsInAll_15 : decode cX2_weightsInAll 15 = .ok (.iadd, 1) := by decide +kernel
theorem dX2_weightsInAll_16 : decode cX2_weightsInAll 16 = .ok (.istore_n 1, 1) := by decide +kernel
theorem dX2_weightsInAll_17 : decode cX2_weightsInAll 17 = .ok (.iinc 2 1, 3) := by decide +kernel
theorem dX2_weightsInAll_20 : decode cX2_weightsInAll 20 = .ok (.goto (-16), 3) := by decide +kernel
theorem dX2_weightsInAll_23 : decode cX2_weightsInAll 23 = .ok (.iload_n 1, 1) := by decide +kernel
theorem dX2_weightsInAll_24 : decode cX2_weightsInAll 24 = .ok (.ireturn, 1) := by decide +kernel
set_option maxRecDepth 20000 in
theorem ggX3_init_X2_init : GoodIn wsX3_init wsX2_init := goodIn_r _ [23, 24, 2, 3, 25, 26, 27, 28, 29, 30, 31, 32, 33, 34, 35, 36, 37, 38, 59, 60, 61, 62, 63, 64, 65, 66, 67, 68, 69, 70] (by decide +kernel) (by decide +kernel)
set_option maxRecDepth 20000 in
theorem gX3_init_X2_init_n9 : GoodIn wsX3_init (wsX2_init) := ggX3_init_X2_init
set_option maxRecDepth 20000 in
theorem ggX3_init_X0_init : GoodIn wsX3_init wsX0_init := goodIn_r _ [40, 41, 2, 3, 42, 43, 44, 45, 5, 6, 22, 23, 24, 25, 26, 27, 28, 29, 30, 31, 32, 33, 34, 35, 36, 37, 38, 80, 81, 82, 59, 60, 61, 62, 63, 64, 65, 66, 67, 68, 69, 70] (by decide +kernel) (by decide +kernel)
set_option maxRecDepth 20000 in
theorem gX3_init_X0_init_n31 : GoodIn wsX3_init (wsX0_init) := ggX3_init_X0_init
set_option maxRecDepth 20000 in
theorem ggX3_init_X1_init : GoodIn wsX3_init wsX1_init := goodIn_r _ [47, 48, 2, 3, 49, 50, 51, 25, 52, 53, 54, 55, 56, 57, 58, 83, 84, 85, 86, 87, 88, 89, 90, 91] (by decide +kernel) (by decide +kernel)
set_option maxRecDepth 20000 in
theorem gX3_init_X1_init_n38 : GoodIn wsX3_init (wsX1_init) := ggX3_init_X1_init
