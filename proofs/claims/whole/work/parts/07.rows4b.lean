theorem dX4_readsCommand_0 : decode cX4_readsCommand 0 = .ok (.aload_n 0, 1) := by decide +kernel
theorem dX4_readsCommand_1 : decode cX4_readsCommand 1 = .ok (.bipush 102, 2) := by decide +kernel
theorem dX4_readsCommand_3 : decode cX4_readsCommand 3 = .ok (.invokevirtual 143, 3) := by decide +kernel
theorem dX4_readsCommand_6 : decode cX4_readsCommand 6 = .ok (.ifCond .eq 31, 3) := by decide +kernel
theorem dX4_readsCommand_9 : decode cX4_readsCommand 9 = .ok (.aload_n 0, 1) := by decide +kernel
theorem dX4_readsCommand_10 : decode cX4_readsCommand 10 = .ok (.iconst 0, 1) := by decide +kernel
theorem dX4_readsCommand_11 : decode cX4_readsCommand 11 = .ok (.putfield 149, 3) := by decide +kernel
theorem dX4_readsCommand_14 : decode cX4_readsCommand 14 = .ok (.aload_n 0, 1) := by decide +kernel
theorem dX4_readsCommand_15 : decode cX4_readsCommand 15 = .ok (.ldc2_w 161, 3) := by decide +kernel
theorem dX4_readsCommand_18 : decode cX4_readsCommand 18 = .ok (.invokevirtual 163, 3) := by decide +kernel
theorem dX4_readsCommand_21 : decode cX4_readsCommand 21 = .ok (.ifCond .eq 14, 3) := by decide +kernel
theorem dX4_readsCommand_24 : decode cX4_readsCommand 24 = .ok (.aload_n 0, 1) := by decide +kernel
theorem dX4_readsCommand_25 : decode cX4_readsCommand 25 = .ok (.invokevirtual 167, 3) := by decide +kernel
theorem dX4_readsCommand_28 : decode cX4_readsCommand 28 = .ok (.ifCond .eq 7, 3) := by decide +kernel
theorem dX4_readsCommand_31 : decode cX4_readsCommand 31 = .ok (.iconst 1, 1) := by decide +kernel
theorem dX4_readsCommand_32 : decode cX4_readsCommand 32 = .ok (.goto 4, 3) := by decide +kernel
theorem dX4_readsCommand_35 : decode cX4_readsCommand 35 = .ok (.iconst 0, 1) := by decide +kernel
theorem dX4_readsCommand_36 : decode cX4_readsCommand 36 = .ok (.ireturn, 1) := by decide +kernel
theorem dX4_readsCommand_37 : decode cX4_readsCommand 37 = .ok (.aload_n 0, 1) := by decide +kernel
theorem dX4_readsCommand_38 : decode cX4_readsCommand 38 = .ok (.bipush 114, 2) := by decide +kernel
theorem dX4_readsCommand_40 : decode cX4_readsCommand 40 = .ok (.invokevirtual 143, 3) := by decide +kernel
theorem dX4_readsCommand_43 : decode cX4_readsCommand 43 = .ok (.ifCond .eq 31, 3) := by decide +kernel
theorem dX4_readsCommand_46 : decode cX4_readsCommand 46 = .ok (.aload_n 0, 1) := by decide +kernel
theorem dX4_readsCommand_47 : decode cX4_readsCommand 47 = .ok (.iconst 1, 1) := by decide +kernel
theorem dX4_readsCommand_48 : decode cX4_readsCommand 48 = .ok (.putfield 149, 3) := by decide +kernel
theorem dX4_readsCommand_51 : decode cX4_readsCommand 51 = .ok (.aload_n 0, 1) := by decide +kernel
theorem dX4_readsCommand_52 : decode cX4_readsCommand 52 = .ok (.ldc2_w 171, 3) := by decide +kernel
theorem dX4_readsCommand_55 : decode cX4_readsCommand 55 = .ok (.invokevirtual 163, 3) := by decide +kernel
theorem dX4_readsCommand_58 : decode cX4_readsCommand 58 = .ok (.ifCond .eq 14, 3) := by decide +kernel
theorem dX4_readsCommand_61 : decode cX4_readsCommand 61 = .ok (.aload_n 0, 1) := by decide +kernel
theorem dX4_readsCommand_62 : decode cX4_readsCommand 62 = .ok (.invokevirtual 167, 3) := by decide +kernel
theorem dX4_readsCommand_65 : decode cX4_readsCommand 65 = .ok (.ifCond .eq 7, 3) := by decide +kernel
theorem dX4_readsCommand_68 : decode cX4_readsCommand 68 = .ok (.iconst 1, 1) := by decide +kernel
theorem dX4_readsCommand_69 : decode cX4_readsCommand 69 = .ok (.goto 4, 3) := by decide +kernel
theorem dX4_readsCommand_72 : decode cX4_readsCommand 72 = .ok (.iconst 0, 1) := by decide +kernel
theorem dX4_readsCommand_73 : decode cX4_readsCommand 73 = .ok (.ireturn, 1) := by decide +kernel
theorem dX4_readsCommand_74 : decode cX4_readsCommand 74 = .ok (.aload_n 0, 1) := by decide +kernel
theorem dX4_readsCommand_75 : decode cX4_readsCommand 75 = .ok (.bipush 98, 2) := by decide +kernel
theorem dX4_readsCommand_77 : decode cX4_readsCommand 77 = .ok (.invokevirtual 143, 3) := by decide +kernel
theorem dX4_readsCommand_80 : decode cX4_readsCommand 80 = .ok (.ifCond .eq 31, 3) := by decide +kernel
theorem dX4_readsCommand_83 : decode cX4_readsCommand 83 = .ok (.aload_n 0, 1) := by decide +kernel
theorem dX4_readsCommand_84 : decode cX4_readsCommand 84 = .ok (.iconst 3, 1) := by decide +kernel
theorem dX4_readsCommand_85 : decode cX4_readsCommand 85 = .ok (.putfield 149, 3) := by decide +kernel
theorem dX4_readsCommand_88 : decode cX4_readsCommand 88 = .ok (.aload_n 0, 1) := by decide +kernel
theorem dX4_readsCommand_89 : decode cX4_readsCommand 89 = .ok (.ldc2_w 173, 3) := by decide +kernel
theorem dX4_readsCommand_92 : decode cX4_readsCommand 92 = .ok (.invokevirtual 163, 3) := by decide +kernel
theorem dX4_readsCommand_95 : decode cX4_readsCommand 95 = .ok (.ifCond .eq 14, 3) := by decide +kernel
theorem dX4_readsCommand_98 : decode cX4_readsCommand 98 = .ok (.aload_n 0, 1) := by decide +kernel
theorem dX4_readsCommand_99 : decode cX4_readsCommand 99 = .ok (.invokevirtual 167, 3) := by decide +kernel
theorem dX4_readsCommand_102 : decode cX4_readsCommand 102 = .ok (.ifCond .eq 7, 3) := by decide +kernel
theorem dX4_readsCommand_105 : decode cX4_readsCommand 105 = .ok (.iconst 1, 1) := by decide +kernel
theorem dX4_readsCommand_106 : decode cX4_readsCommand 106 = .ok (.goto 4, 3) := by decide +kernel
theorem dX4_readsCommand_109 : decode cX4_readsCommand 109 = .ok (.iconst 0, 1) := by decide +kernel
theorem dX4_readsCommand_110 : decode cX4_readsCommand 110 = .ok (.ireturn, 1) := by decide +kernel
theorem dX4_readsCommand_111 : decode cX4_readsCommand 111 = .ok (.aload_n 0, 1) := by decide +kernel
theorem dX4_readsCommand_112 : decode cX4_readsCommand 112 = .ok (.bipush 119, 2) := by decide +kernel
theorem dX4_readsCommand_114 : decode cX4_readsCommand 114 = .ok (.invokevirtual 143, 3) := by decide +kernel
theorem dX4_readsCommand_117 : decode cX4_readsCommand 117 = .ok (.ifCond .ne 5, 3) := by decide +kernel
theorem dX4_readsCommand_120 : decode cX4_readsCommand 120 = .ok (.iconst 0, 1) := by decide +kernel
theorem dX4_readsCommand_121 : decode cX4_readsCommand 121 = .ok (.ireturn, 1) := by decide +kernel
theorem dX4_readsCommand_122 : decode cX4_readsCommand 122 = .ok (.aload_n 0, 1) := by decide +kernel
theorem dX4_readsCommand_123 : decode cX4_readsCommand 123 = .ok (.aload_n 0, 1) := by decide +kernel
theorem dX4_readsCommand_124 : decode cX4_readsCommand 124 = .ok (.bipush 114, 2) := by decide +kernel
theorem dX4_readsCommand_126 : decode cX4_readsCommand 126 = .ok (.bipush 114, 2) := by decide +kernel
theorem dX4_readsCommand_128 : decode cX4_readsCommand 128 = .ok (.invokevirtual 138, 3) := by decide +kernel
theorem dX4_readsCommand_131 : decode cX4_readsCommand 131 = .ok (.ifCond .eq 7, 3) := by decide +kernel
theorem dX4_readsCommand_134 : decode cX4_readsCommand 134 = .ok (.iconst 2, 1) := by decide +kernel
theorem dX4_readsCommand_135 : decode cX4_readsCommand 135 = .ok (.goto 4, 3) := by decide +kernel
theorem dX4_readsCommand_138 : decode cX4_readsCommand 138 = .ok (.iconst 4, 1) := by decide +kernel
theorem dX4_readsCommand_139 : decode cX4_readsCommand 139 = .ok (.putfield 149, 3) := by decide +kernel
theorem dX4_readsCommand_142 : decode cX4_readsCommand 142 = .ok (.aload_n 0, 1) := by decide +kernel
theorem dX4_readsCommand_143 : decode cX4_readsCommand 143 = .ok (.aload_n 0, 1) := by decide +kernel
theorem dX4_readsCommand_144 : decode cX4_readsCommand 144 = .ok (.getfield 149, 3) := by decide +kernel
theorem dX4_readsCommand_147 : decode cX4_readsCommand 147 = .ok (.iconst 2, 1) := by decide +kernel
theorem dX4_readsCommand_148 : decode cX4_readsCommand 148 = .ok (.if_icmp .ne 9, 3) := by decide +kernel
theorem dX4_readsCommand_151 : decode cX4_readsCommand 151 = .ok (.ldc2_w 175, 3) := by decide +kernel
theorem dX4_readsCommand_154 : decode cX4_readsCommand 154 = .ok (.goto 6, 3) := by decide +kernel
theorem dX4_readsCommand_157 : decode cX4_readsCommand 157 = .ok (.ldc2_w 177, 3) := by decide +kernel
theorem dX4_readsCommand_160 : decode cX4_readsCommand 160 = .ok (.invokevirtual 163, 3) := by decide +kernel
theorem dX4_readsCommand_163 : decode cX4_readsCommand 163 = .ok (.ifCond .eq 14, 3) := by decide +kernel
theorem dX4_readsCommand_166 : decode cX4_readsCommand 166 = .ok (.aload_n 0, 1) := by decide +kernel
theorem dX4_readsCommand_167 : decode cX4_readsCommand 167 = .ok (.invokevirtual 167, 3) := by decide +kernel
theorem dX4_readsCommand_170 : decode cX4_readsCommand 170 = .ok (.ifCond .eq 7, 3) := by decide +kernel
theorem dX4_readsCommand_173 : decode cX4_readsCommand 173 = .ok (.iconst 1, 1) := by decide +kernel
theorem dX4_readsCommand_174 : decode cX4_readsCommand 174 = .ok (.goto 4, 3) := by decide +kernel
theorem dX4_readsCommand_177 : decode cX4_readsCommand 177 = .ok (.iconst 0, 1) := by decide +kernel
theorem dX4_readsCommand_178 : decode cX4_readsCommand 178 = .ok (.ireturn, 1) := by decide +kernel
set_option maxRecDepth 20000 in
theorem ggX4_fault_X4_readsCommand : GoodIn wsX4_fault wsX4_readsCommand := goodIn_r _ [7, 8, 9, 10, 11, 12, 13, 14, 15, 16, 6, 17, 1, 18, 19, 20, 21, 2, 22, 23, 24, 25, 26, 27, 28, 29, 30, 31, 32, 33, 34, 35, 36, 37, 38, 39, 40, 41, 42, 43, 44, 45, 46, 47, 48, 49, 50, 51, 52, 53, 54, 55, 56, 57] (by decide +kernel) (by decide +kernel)
set_option maxRecDepth 20000 in
theorem gX4_fault_X4_readsCommand : GoodIn wsX4_fault (wsV RX4 179 RX4 yX4_readsCommand wsX4_readsCommand) := goodIn_app (goodIn_of _ (by decide +kernel)) ggX4_fault_X4_readsCommand
set_option maxRecDepth 20000 in
theorem ggX4_fault_X4_takes : GoodIn wsX4_fault wsX4_takes := goodIn_r _ [17, 1, 18, 19, 20, 6, 21, 2, 22, 23, 24, 25, 42, 43, 44, 45, 46, 47, 48, 49, 50, 51, 52, 53, 54, 55, 56, 57] (by decide +kernel) (by decide +kernel)
set_option maxRecDepth 20000 in
theorem gX4_fault_X4_takes : GoodIn wsX4_fault (wsV RX4 143 RX4 yX4_takes wsX4_takes) := goodIn_app (goodIn_of _ (by decide +kernel)) ggX4_fault_X4_takes
theorem dX4_fault_0 : decode cX4_fault 0 = .ok (.aload_n 0, 1) := by decide +kernel
theorem dX4_fault_1 : decode cX4_fault 1 = .ok (.iconst 0, 1) := by decide +kernel
theorem dX4_fault_2 : decode cX4_fault 2 = .ok (.putfield 135, 3) := by decide +kernel
theorem dX4_fault_5 : decode cX4_fault 5 = .ok (.iconst 1, 1) := by decide +kernel
theorem dX4_fault_6 : decode cX4_fault 6 = .ok (.istore_n 1, 1) := by decide +kernel
theorem dX4_fault_7 : decode cX4_fault 7 = .ok (.iload_n 1, 1) := by decide +kernel
theorem dX4_fault_8 : decode cX4_fault 8 = .ok (.ifCond .eq 25, 3) := by decide +kernel
theorem dX4_fault_11 : decode cX4_fault 11 = .ok (.aload_n 0, 1) := by decide +kernel
theorem dX4_fault_12 : decode cX4_fault 12 = .ok (.invokevirtual 179, 3) := by decide +kernel
theorem dX4_fault_15 : decode cX4_fault 15 = .ok (.ifCond .ne 8, 3) := by decide +kernel
theorem dX4_fault_18 : decode cX4_fault 18 = .ok (.aload_n 0, 1) := by decide +kernel
theorem dX4_fault_19 : decode cX4_fault 19 = .ok (.getfield 135, 3) := by decide +kernel
theorem dX4_fault_22 : decode cX4_fault 22 = .ok (.ireturn, 1) := by decide +kernel
theorem dX4_fault_23 : decode cX4_fault 23 = .ok (.aload_n 0, 1) := by decide +kernel
theorem dX4_fault_24 : decode cX4_fault 24 = .ok (.bipush 59, 2) := by decide +kernel
theorem dX4_fault_26 : decode cX4_fault 26 = .ok (.invokevirtual 143, 3) := by decide +kernel
theorem dX4_fault_29 : decode cX4_fault 29 = .ok (.istore_n 1, 1) := by decide +kernel
theorem dX4_fault_30 : decode cX4_fault 30 = .ok (.goto (-23), 3) := by decide +kernel
theorem dX4_fault_33 : decode cX4_fault 33 = .ok (.aload_n 0, 1) := by decide +kernel
theorem dX4_fault_34 : decode cX4_fault 34 = .ok (.getfield 135, 3) := by decide +kernel
theorem dX4_fault_37 : decode cX4_fault 37 = .ok (.aload_n 0, 1) := by decide +kernel
theorem dX4_fault_38 : decode cX4_fault 38 = .ok (.getfield 132, 3) := by decide +kernel
theorem dX4_fault_41 : decode cX4_fault 41 = .ok (.if_icmp .ne 9, 3) := by decide +kernel
theorem dX4_fault_44 : decode cX4_fault 44 = .ok (.sipush (-10005), 3) := by decide +kernel
theorem dX4_fault_47 : decode cX4_fault 47 = .ok (.goto 7, 3) := by decide +kernel
theorem dX4_fault_50 : decode cX4_fault 50 = .ok (.aload_n 0, 1) := by decide +kernel
theorem dX4_fault_51 : decode cX4_fault 51 = .ok (.getfield 135, 3) := by decide +kernel
theorem dX4_fault_54 : decode cX4_fault 54 = .ok (.ireturn, 1) := by decide +kernel
set_option maxRecDepth 20000 in
theorem ggX4_carriesOut_X4_doFly : GoodIn wsX4_carriesOut wsX4_doFly := goodIn_r _ [9, 4, 10, 11, 12, 8, 13, 14, 15, 16, 17, 18, 19, 20, 21, 22, 23, 24, 25, 62, 63, 64, 65, 66, 67, 68, 69, 70, 71, 72, 73, 74, 75, 76, 77] (by decide +kernel) (by decide +kernel)
set_option maxRecDepth 20000 in
theorem gX4_carriesOut_X4_doFly : GoodIn wsX4_carriesOut (wsV RX4 101 RX4 yX4_doFly wsX4_doFly) := goodIn_app (goodIn_of _ (by decide +kernel)) ggX4_carriesOut_X4_doFly
set_option maxRecDepth 20000 in
theorem ggX4_carriesOut_X4_isKite : GoodIn wsX4_carriesOut wsX4_isKite := goodIn_r _ [29, 30, 4, 31, 32, 8, 33, 62, 63, 64, 65, 66, 67, 68, 69, 70, 71, 72, 73, 74, 75, 76, 77] (by decide +kernel) (by decide +kernel)
set_option maxRecDepth 20000 in
theorem gX4_carriesOut_X4_isKite : GoodIn wsX4_carriesOut (wsV RX4 107 RX4 yX4_isKite wsX4_isKite) := goodIn_app (goodIn_of _ (by decide +kernel)) ggX4_carriesOut_X4_isKite
set_option maxRecDepth 20000 in
theorem ggX4_carriesOut_X4_doRead : GoodIn wsX4_carriesOut wsX4_doRead := goodIn_r _ [37, 4, 38, 39, 40, 8, 41, 42, 43, 44, 45, 22, 23, 24, 25, 10, 11, 12, 13, 14, 15, 16, 17, 18, 19, 20, 21, 62, 63, 64, 65, 66, 67, 68, 69, 70, 71, 72, 73, 74, 75, 76, 77] (by decide +kernel) (by decide +kernel)
set_option maxRecDepth 20000 in
theorem gX4_carriesOut_X4_doRead : GoodIn wsX4_carriesOut (wsV RX4 110 RX4 yX4_doRead wsX4_doRead) := goodIn_app (goodIn_of _ (by decide +kernel)) ggX4_carriesOut_X4_doRead
set_option maxRecDepth 20000 in
theorem ggX4_carriesOut_X4_doWrite : GoodIn wsX4_carriesOut wsX4_doWrite := goodIn_r _ [49, 4, 62, 63, 64, 65, 66, 67, 68, 69, 70, 71, 72, 73, 74, 75, 76, 77] (by decide +kernel) (by decide +kernel)
set_option maxRecDepth 20000 in
theorem gX4_carriesOut_X4_doWrite : GoodIn wsX4_carriesOut (wsV RX4 113 RX4 yX4_doWrite wsX4_doWrite) := goodIn_app (goodIn_of _ (by decide +kernel)) ggX4_carriesOut_X4_doWrite
set_option maxRecDepth 20000 in
theorem ggX4_carriesOut_X4_beats : GoodIn wsX4_carriesOut wsX4_beats := goodIn_r _ [53, 4, 54, 55, 56, 8, 57, 58, 59, 60, 61, 22, 23, 24, 25, 62, 63, 64, 65, 66, 67, 68, 69, 70, 71, 72, 73, 74, 75, 76, 77] (by decide +kernel) (by decide +kernel)
set_option maxRecDepth 20000 in
theorem gX4_carriesOut_X4_beats : GoodIn wsX4_carriesOut (wsV RX4 118 RX4 yX4_beats wsX4_beats) := goodIn_app (goodIn_of _ (by decide +kernel)) ggX4_carriesOut_X4_beats
theorem dX4_carriesOut_0 : decode cX4_carriesOut 0 = .ok (.iconst 0, 1) := by decide +kernel
theorem dX4_carriesOut_1 : decode cX4_carriesOut 1 = .ok (.istore_n 1, 1) := by decide +kernel
theorem dX4_carriesOut_2 : decode cX4_carriesOut 2 = .ok (.aload_n 0, 1) := by decide +kernel
theorem dX4_carriesOut_3 : decode cX4_carriesOut 3 = .ok (.getfield 149, 3) := by decide +kernel
theorem dX4_carriesOut_6 : decode cX4_carriesOut 6 = .ok (.tableswitch 162 0 3 #[30, 58, 103, 152], 30) := by decide +kernel
theorem dX4_carriesOut_36 : decode cX4_carriesOut 36 = .ok (.aload_n 0, 1) := by decide +kernel
theorem dX4_carriesOut_37 : decode cX4_carriesOut 37 = .ok (.aload_n 0, 1) := by decide +kernel
theorem dX4_carriesOut_38 : decode cX4_carriesOut 38 = .ok (.getfield 155, 3) := by decide +kernel
theorem dX4_carriesOut_41 : decode cX4_carriesOut 41 = .ok (.aload_n 0, 1) := by decide +kernel
theorem dX4_carriesOut_42 : decode cX4_carriesOut 42 = .ok (.getfield 158, 3) := by decide +kernel
theorem dX4_carriesOut_45 : decode cX4_carriesOut 45 = .ok (.invokevirtual 101, 3) := by decide +kernel
theorem dX4_carriesOut_48 : decode cX4_carriesOut 48 = .ok (.istore_n 1, 1) := by decide +kernel
theorem dX4_carriesOut_49 : decode cX4_carriesOut 49 = .ok (.iload_n 1, 1) := by decide +kernel
theorem dX4_carriesOut_50 : decode cX4_carriesOut 50 = .ok (.sipush (-10003), 3) := by decide +kernel
theorem dX4_carriesOut_53 : decode cX4_carriesOut 53 = .ok (.if_icmp .ne 9, 3) := by decide +kernel
theorem dX4_carriesOut_56 : decode cX4_carriesOut 56 = .ok (.sipush (-10003), 3) := by decide +kernel
theorem dX4_carriesOut_59 : decode cX4_carriesOut 59 = .ok (.goto 4, 3) := by decide +kernel
theorem dX4_carriesOut_62 : decode cX4_carriesOut 62 = .ok (.iconst 0, 1) := by decide +kernel
theorem dX4_carriesOut_63 : decode cX4_carriesOut 63 = .ok (.ireturn, 1) := by decide +kernel
theorem dX4_carriesOut_64 : decode cX4_carriesOut 64 = .ok (.aload_n 0, 1) := by decide +kernel
theorem dX4_carriesOut_65 : decode cX4_carriesOut 65 = .ok (.aload_n 0, 1) := by decide +kernel
theorem dX4_carriesOut_66 : decode cX4_carriesOut 66 = .ok (.getfield 155, 3) := by decide +kernel
theorem dX4_carriesOut_69 : decode cX4_carriesOut 69 = .ok (.invokevirtual 107, 3) := by decide +kernel
theorem dX4_carriesOut_72 : decode cX4_carriesOut 72 = .ok (.ifCond .eq 14, 3) := by decide +kernel
theorem dX4_carriesOut_75 : decode cX4_carriesOut 75 = .ok (.aload_n 0, 1) := by decide +kernel
theorem dX4_carriesOut_76 : decode cX4_carriesOut 76 = .ok (.aload_n 0, 1) := by decide +kernel
theorem dX4_carriesOut_77 : decode cX4_carriesOut 77 = .ok (.getfield 155, 3) := by decide +kernel
theorem dX4_carriesOut_80 : decode cX4_carriesOut 80 = .ok (.invokevirtual 110, 3) := by decide +kernel
theorem dX4_carriesOut_83 : decode cX4_carriesOut 83 = .ok (.goto 6, 3) := by decide +kernel
theorem dX4_carriesOut_86 : decode cX4_carriesOut 86 = .ok (.sipush (-10001), 3) := by decide +kernel
theorem dX4_carriesOut_89 : decode cX4_carriesOut 89 = .ok (.istore_n 1, 1) := by decide +kernel
theorem dX4_carriesOut_90 : decode cX4_carriesOut 90 = .ok (.aload_n 0, 1) := by decide +kernel
theorem dX4_carriesOut_91 : decode cX4_carriesOut 91 = .ok (.aload_n 0, 1) := by decide +kernel
theorem dX4_carriesOut_92 : decode cX4_carriesOut 92 = .ok (.getfield 155, 3) := by decide +kernel
theorem dX4_carriesOut_95 : decode cX4_carriesOut 95 = .ok (.invokevirtual 107, 3) := by decide +kernel
theorem dX4_carriesOut_98 : decode cX4_carriesOut 98 = .ok (.ifCond .eq 7, 3) := by decide +kernel
theorem dX4_carriesOut_101 : decode cX4_carriesOut 101 = .ok (.iconst 0, 1) := by decide +kernel
theorem dX4_carriesOut_102 : decode cX4_carriesOut 102 = .ok (.goto 6, 3) := by decide +kernel
theorem dX4_carriesOut_105 : decode cX4_carriesOut 105 = .ok (.sipush (-10001), 3) := by decide +kernel
theorem dX4_carriesOut_108 : decode cX4_carriesOut 108 = .ok (.ireturn, 1) := by decide +kernel
theorem dX4_carriesOut_109 : decode cX4_carriesOut 109 = .ok (.aload_n 0, 1) := by decide +kernel
theorem dX4_carriesOut_110 : decode cX4_carriesOut 110 = .ok (.aload_n 0, 1) := by decide +kernel
theorem dX4_carriesOut_111 : decode cX4_carriesOut 111 = .ok (.getfield 155, 3) := by decide +kernel
theorem dX4_carriesOut_114 : decode cX4_carriesOut 114 = .ok (.invokevirtual 107, 3) := by decide +kernel
theorem dX4_carriesOut_117 : decode cX4_carriesOut 117 = .ok (.ifCond .eq 18, 3) := by decide +kernel
theorem dX4_carriesOut_120 : decode cX4_carriesOut 120 = .ok (.aload_n 0, 1) := by decide +kernel
theorem dX4_carriesOut_121 : decode cX4_carriesOut 121 = .ok (.aload_n 0, 1) := by decide +kernel
theorem dX4_carriesOut_122 : decode cX4_carriesOut 122 = .ok (.getfield 155, 3) := by decide +kernel
theorem dX4_carriesOut_125 : decode cX4_carriesOut 125 = .ok (.aload_n 0, 1) := by decide +kernel
theorem dX4_carriesOut_126 : decode cX4_carriesOut 126 = .ok (.getfield 158, 3) := by decide +kernel
theorem dX4_carriesOut_129 : decode cX4_carriesOut 129 = .ok (.invokevirtual 113, 3) := by decide +kernel
theorem dX4_carriesOut_132 : decode cX4_carriesOut 132 = .ok (.goto 6, 3) := by decide +kernel
theorem dX4_carriesOut_135 : decode cX4_carriesOut 135 = .ok (.sipush (-10001), 3) := by decide +kernel
theorem dX4_carriesOut_138 : decode cX4_carriesOut 138 = .ok (.istore_n 1, 1) := by decide +kernel
theorem dX4_carriesOut_139 : decode cX4_carriesOut 139 = .ok (.aload_n 0, 1) := by decide +kernel
theorem dX4_carriesOut_140 : decode cX4_carriesOut 140 = .ok (.aload_n 0, 1) := by decide +kernel
theorem dX4_carriesOut_141 : decode cX4_carriesOut 141 = .ok (.getfield 155, 3) := by decide +kernel
theorem dX4_carriesOut_144 : decode cX4_carriesOut 144 = .ok (.invokevirtual 107, 3) := by decide +kernel
theorem dX4_carriesOut_147 : decode cX4_carriesOut 147 = .ok (.ifCond .eq 7, 3) := by decide +kernel
theorem dX4_carriesOut_150 : decode cX4_carriesOut 150 = .ok (.iconst 0, 1) := by decide +kernel
theorem dX4_carriesOut_151 : decode cX4_carriesOut 151 = .ok (.goto 6, 3) := by decide +kernel
theorem dX4_carriesOut_154 : decode cX4_carriesOut 154 = .ok (.sipush (-10001), 3) := by decide +kernel
theorem dX4_carriesOut_157 : decode cX4_carriesOut 157 = .ok (.ireturn, 1) := by decide +kernel
theorem dX4_carriesOut_158 : decode cX4_carriesOut 158 = .ok (.aload_n 0, 1) := by decide +kernel
theorem dX4_carriesOut_159 : decode cX4_carriesOut 159 = .ok (.aload_n 0, 1) := by decide +kernel
theorem dX4_carriesOut_160 : decode cX4_carriesOut 160 = .ok (.getfield 155, 3) := by decide +kernel
theorem dX4_carriesOut_163 : decode cX4_carriesOut 163 = .ok (.invokevirtual 118, 3) := by decide +kernel
theorem dX4_carriesOut_166 : decode cX4_carriesOut 166 = .ok (.iconst 0, 1) := by decide +kernel
theorem dX4_carriesOut_167 : decode cX4_carriesOut 167 = .ok (.ireturn, 1) := by decide +kernel
theorem dX4_carriesOut_168 : decode cX4_carriesOut 168 = .ok (.aload_n 0, 1) := by decide +kernel
theorem dX4_carriesOut_169 : decode cX4_carriesOut 169 = .ok (.getfield 7, 3) := by decide +kernel
theorem dX4_carriesOut_172 : decode cX4_carriesOut 172 = .ok (.bipush 6, 2) := by decide +kernel
theorem dX4_carriesOut_174 : decode cX4_carriesOut 174 = .ok (.aload_n 0, 1) := by decide +kernel
theorem dX4_carriesOut_175 : decode cX4_carriesOut 175 = .ok (.getfield 155, 3) := by decide +kernel
theorem dX4_carriesOut_178 : decode cX4_carriesOut 178 = .ok (.iadd, 1) := by decide +kernel
theorem dX4_carriesOut_179 : decode cX4_carriesOut 179 = .ok (.aload_n 0, 1) := by decide +kernel
theorem dX4_carriesOut_180 : decode cX4_carriesOut 180 = .ok (.getfield 158, 3) := by decide +kernel
theorem dX4_carriesOut_183 : decode cX4_carriesOut 183 = .ok (.iastore, 1) := by decide +kernel
theorem dX4_carriesOut_184 : decode cX4_carriesOut 184 = .ok (.iconst 0, 1) := by decide +kernel
theorem dX4_carriesOut_185 : decode cX4_carriesOut 185 = .ok (.ireturn, 1) := by decide +kernel
set_option maxRecDepth 20000 in
theorem ggX4_perform_X4_fault : GoodIn wsX4_perform wsX4_fault := goodIn_r _ [10, 1, 11, 12, 13, 14, 9, 15, 16, 17, 18, 19, 20, 21, 22, 23, 24, 25, 26, 27, 28, 29, 30, 31, 32, 33, 34, 35, 36, 37, 38, 39, 40, 41, 42, 43, 44, 45, 46, 47, 48, 49, 120, 121, 122, 123, 124, 125, 126, 127, 128, 129, 130, 131, 132, 133, 134, 135] (by decide +kernel) (by decide +kernel)
set_option maxRecDepth 20000 in
theorem gX4_perform_X4_fault : GoodIn wsX4_perform (wsV RX4 182 RX4 yX4_fault wsX4_fault) := goodIn_app (goodIn_of _ (by decide +kernel)) ggX4_perform_X4_fault
set_option maxRecDepth 20000 in
theorem ggX4_perform_X4_remember : GoodIn wsX4_perform wsX4_remember := goodIn_r _ [53, 3, 2, 54, 55, 9, 56, 120, 121, 122, 123, 124, 125, 126, 127, 128, 129, 130, 131, 132, 133, 134, 135] (by decide +kernel) (by decide +kernel)
set_option maxRecDepth 20000 in
theorem gX4_perform_X4_remember : GoodIn wsX4_perform (wsV RX4 98 RX4 yX4_remember wsX4_remember) := goodIn_app (goodIn_of _ (by decide +kernel)) ggX4_perform_X4_remember
set_option maxRecDepth 20000 in
theorem ggX4_perform_X4_readsCommand : GoodIn wsX4_perform wsX4_readsCommand := goodIn_r _ [15, 16, 17, 18, 19, 20, 21, 22, 23, 24, 9, 25, 1, 26, 27, 28, 29, 11, 30, 31, 32, 33, 34, 35, 36, 37, 38, 39, 40, 41, 42, 43, 44, 45, 46, 47, 48, 49, 120, 121, 122, 123, 124, 125, 126, 127, 128, 129, 130, 131, 132, 133, 134, 135] (by decide +kernel) (by decide +kernel)
set_option maxRecDepth 20000 in
theorem gX4_perform_X4_readsCommand : GoodIn wsX4_perform (wsV RX4 179 RX4 yX4_readsCommand wsX4_readsCommand) := goodIn_app (goodIn_of _ (by decide +kernel)) ggX4_perform_X4_readsCommand
set_option maxRecDepth 20000 in
theorem ggX4_perform_X4_carriesOut : GoodIn wsX4_perform wsX4_carriesOut := goodIn_r _ [60, 16, 44, 45, 3, 61, 62, 63, 9, 64, 65, 66, 67, 68, 69, 70, 71, 72, 73, 74, 75, 76, 77, 78, 79, 80, 81, 82, 83, 84, 85, 31, 32, 33, 86, 87, 88, 89, 90, 91, 92, 93, 94, 95, 96, 97, 98, 99, 100, 101, 102, 103, 104, 105, 106, 107, 108, 109, 110, 111, 112, 113, 120, 121, 122, 123, 124, 125, 126, 127, 128, 129, 130, 131, 132, 133, 134, 135] (by decide +kernel) (by decide +kernel)
set_option maxRecDepth 20000 in
theorem gX4_perform_X4_carriesOut : GoodIn wsX4_perform (wsV RX4 185 RX4 yX4_carriesOut wsX4_carriesOut) := goodIn_app (goodIn_of _ (by decide +kernel)) ggX4_perform_X4_carriesOut
set_option maxRecDepth 20000 in
theorem ggX4_perform_X4_copy : GoodIn wsX4_perform wsX4_copy := goodIn_r _ [56] (by decide +kernel) (by decide +kernel)
set_option maxRecDepth 20000 in
theorem gX4_perform_X4_copy : GoodIn wsX4_perform (va_wsS RX4 35 yX4_copy wsX4_copy) := goodIn_app (goodIn_of _ (by decide +kernel)) ggX4_perform_X4_copy
set_option maxRecDepth 20000 in
theorem ggX4_perform_X4_takes : GoodIn wsX4_perform wsX4_takes := goodIn_r _ [25, 1, 26, 27, 28, 9, 29, 11, 30, 31, 32, 33, 120, 121, 122, 123, 124, 125, 126, 127, 128, 129, 130, 131, 132, 133, 134, 135] (by decide +kernel) (by decide +kernel)
set_option maxRecDepth 20000 in
theorem gX4_perform_X4_takes : GoodIn wsX4_perform (wsV RX4 143 RX4 yX4_takes wsX4_takes) := goodIn_app (goodIn_of _ (by decide +kernel)) ggX4_perform_X4_takes
set_option maxRecDepth 20000 in
theorem ggX4_perform_X4_acted : GoodIn wsX4_perform wsX4_acted := goodIn_r _ [117, 118, 119, 2, 120, 121, 122, 123, 124, 125, 126, 127, 128, 129, 130, 131, 132, 133, 134, 135] (by decide +kernel) (by decide +kernel)
set_option maxRecDepth 20000 in
theorem gX4_perform_X4_acted : GoodIn wsX4_perform (wsV RX4 104 RX4 yX4_acted wsX4_acted) := goodIn_app (goodIn_of _ (by decide +kernel)) ggX4_perform_X4_acted
theorem dX4_perform_0 : decode cX4_perform 0 = .ok (.aload_n 0, 1) := by decide +kernel
theorem dX4_perform_1 : decode cX4_perform 1 = .ok (.invokevirtual 182, 3) := by decide +kernel
theorem dX4_perform_4 : decode cX4_perform 4 = .ok (.istore_n 1, 1) := by decide +kernel
theorem dX4_perform_5 : decode cX4_perform 5 = .ok (.iload_n 1, 1) := by decide +kernel
theorem dX4_perform_6 : decode cX4_perform 6 = .ok (.sipush (-10005), 3) := by decide +kernel
theorem dX4_perform_9 : decode cX4_perform 9 = .ok (.if_icmp .eq 9, 3) := by decide +kernel
theorem dX4_perform_12 : decode cX4_perform 12 = .ok (.sipush (-10100), 3) := by decide +kernel
theorem dX4_perform_15 : decode cX4_perform 15 = .ok (.iload_n 1, 1) := by decide +kernel
theorem dX4_perform_16 : decode cX4_perform 16 = .ok (.isub, 1) := by decide +kernel
theorem dX4_perform_17 : decode cX4_perform 17 = .ok (.ireturn, 1) := by decide +kernel
theorem dX4_perform_18 : decode cX4_perform 18 = .ok (.aload_n 0, 1) := by decide +kernel
theorem dX4_perform_19 : decode cX4_perform 19 = .ok (.invokevirtual 98, 3) := by decide +kernel
theorem dX4_perform_22 : decode cX4_perform 22 = .ok (.aload_n 0, 1) := by decide +kernel
theorem dX4_perform_23 : decode cX4_perform 23 = .ok (.iconst 0, 1) := by decide +kernel
theorem dX4_perform_24 : decode cX4_perform 24 = .ok (.putfield 135, 3) := by decide +kernel
theorem dX4_perform_27 : decode cX4_perform 27 = .ok (.iconst 0, 1) := by decide +kernel
theorem dX4_perform_28 : decode cX4_perform 28 = .ok (.istore_n 2, 1) := by decide +kernel
theorem dX4_perform_29 : decode cX4_perform 29 = .ok (.iconst 1, 1) := by decide +kernel
theorem dX4_perform_30 : decode cX4_perform 30 = .ok (.istore_n 3, 1) := by decide +kernel
theorem dX4_perform_31 : decode cX4_perform 31 = .ok (.iload_n 3, 1) := by decide +kernel
theorem dX4_perform_32 : decode cX4_perform 32 = .ok (.ifCond .eq 59, 3) := by decide +kernel
theorem dX4_perform_35 : decode cX4_perform 35 = .ok (.aload_n 0, 1) := by decide +kernel
theorem dX4_perform_36 : decode cX4_perform 36 = .ok (.invokevirtual 179, 3) := by decide +kernel
theorem dX4_perform_39 : decode cX4_perform 39 = .ok (.istore 4, 2) := by decide +kernel
theorem dX4_perform_41 : decode cX4_perform 41 = .ok (.aload_n 0, 1) := by decide +kernel
theorem dX4_perform_42 : decode cX4_perform 42 = .ok (.invokevirtual 185, 3) := by decide +kernel
theorem dX4_perform_45 : decode cX4_perform 45 = .ok (.istore 5, 2) := by decide +kernel
theorem dX4_perform_47 : decode cX4_perform 47 = .ok (.iload 5, 2) := by decide +kernel
theorem dX4_perform_49 : decode cX4_perform 49 = .ok (.ifCond .ge 29, 3) := by decide +kernel
theorem dX4_perform_52 : decode cX4_perform 52 = .ok (.aload_n 0, 1) := by decide +kernel
theorem dX4_perform_53 : decode cX4_perform 53 = .ok (.getfield 13, 3) := by decide +kernel
theorem dX4_perform_56 : decode cX4_perform 56 = .ok (.aload_n 0, 1) := by decide +kernel
theorem dX4_perform_57 : decode cX4_perform 57 = .ok (.getfield 7, 3) := by decide +kernel
theorem dX4_perform_60 : decode cX4_perform 60 = .ok (.invokestatic 35, 3) := by decide +kernel
theorem dX4_perform_63 : decode cX4_perform 63 = .ok (.aload_n 0, 1) := by decide +kernel
theorem dX4_perform_64 : decode cX4_perform 64 = .ok (.iload_n 2, 1) := by decide +kernel
theorem dX4_perform_65 : decode cX4_perform 65 = .ok (.putfield 25, 3) := by decide +kernel
theorem dX4_perform_68 : decode cX4_perform 68 = .ok (.aload_n 0, 1) := by decide +kernel
theorem dX4_perform_69 : decode cX4_perform 69 = .ok (.iload 5, 2) := by decide +kernel
theorem dX4_perform_71 : decode cX4_perform 71 = .ok (.putfield 29, 3) := by decide +kernel
theorem dX4_perform_74 : decode cX4_perform 74 = .ok (.sipush (-10004), 3) := by decide +kernel
theorem dX4_perform_77 : decode cX4_perform 77 = .ok (.ireturn, 1) := by decide +kernel
theorem dX4_perform_78 : decode cX4_perform 78 = .ok (.iinc 2 1, 3) := by decide +kernel
theorem dX4_perform_81 : decode cX4_perform 81 = .ok (.aload_n 0, 1) := by decide +kernel
theorem dX4_perform_82 : decode cX4_perform 82 = .ok (.bipush 59, 2) := by decide +kernel
theorem dX4_perform_84 : decode cX4_perform 84 = .ok (.invokevirtual 143, 3) := by decide +kernel
theorem dX4_perform_87 : decode cX4_perform 87 = .ok (.istore_n 3, 1) := by decide +kernel
theorem dX4_perform_88 : decode cX4_perform 88 = .ok (.goto (-57), 3) := by decide +kernel
theorem dX4_perform_91 : decode cX4_perform 91 = .ok (.aload_n 0, 1) := by decide +kernel
theorem dX4_perform_92 : decode cX4_perform 92 = .ok (.iload_n 2, 1) := by decide +kernel
theorem dX4_perform_93 : decode cX4_perform 93 = .ok (.invokevirtual 104, 3) := by decide +kernel
theorem dX4_perform_96 : decode cX4_perform 96 = .ok (.ireturn, 1) := by decide +kernel
theorem dX4_stopped_0 : decode cX4_stopped 0 = .ok (.iload_n 1, 1) := by decide +kernel
theorem dX4_stopped_1 : decode cX4_stopped 1 = .ok (.ifCond .ne 10, 3) := by decide +kernel
theorem dX4_stopped_4 : decode cX4_stopped 4 = .ok (.aload_n 0, 1) := by decide +kernel
theorem dX4_stopped_5 : decode cX4_stopped 5 = .ok (.getfield 25, 3) := by decide +kernel
theorem dX4_stopped_8 : decode cX4_stopped 8 = .ok (.goto 18, 3) := by decide +kernel
theorem dX4_stopped_11 : decode cX4_stopped 11 = .ok (.iload_n 1, 1) := by decide +kernel
theorem dX4_stopped_12 : decode cX4_stopped 12 = .ok (.iconst 1, 1) := by decide +kernel
theorem dX4_stopped_13 : decode cX4_stopped 13 = .ok (.if_icmp .ne 10, 3) := by decide +kernel
theorem dX4_stopped_16 : decode cX4_stopped 16 = .ok (.aload_n 0, 1) := by decide +kernel
theorem dX4_stopped_17 : decode cX4_stopped 17 = .ok (.getfield 29, 3) := by decide +kernel
theorem dX4_stopped_20 : decode cX4_stopped 20 = .ok (.goto 6, 3) := by decide +kernel
theorem dX4_stopped_23 : decode cX4_stopped 23 = .ok (.sipush (-10002), 3) := by decide +kernel
theorem dX4_stopped_26 : decode cX4_stopped 26 = .ok (.ireturn, 1) := by decide +kernel
theorem dX4_undo_0 : decode cX4_undo 0 = .ok (.aload_n 0, 1) := by decide +kernel
theorem dX4_undo_1 : decode cX4_undo 1 = .ok (.getfield 39, 3) := by decide +kernel
theorem dX4_undo_4 : decode cX4_undo 4 = .ok (.ifCond .ne 7, 3) := by decide +kernel
theorem dX4_undo_7 : decode cX4_undo 7 = .ok (.sipush (-10005), 3) := by decide +kernel
theorem dX4_undo_10 : decode cX4_undo 10 = .ok (.ireturn, 1) := by decide +kernel
theorem dX4_undo_11 : decode cX4_undo 11 = .ok (.aload_n 0, 1) := by decide +kernel
theorem dX4_undo_12 : decode cX4_undo 12 = .ok (.dup, 1) := by decide +kernel
theorem dX4_undo_13 : decode cX4_undo 13 = .ok (.getfield 39, 3) := by decide +kernel
theorem dX4_undo_16 : decode cX4_undo 16 = .ok (.iconst 1, 1) := by decide +kernel
theorem dX4_undo_17 : decode cX4_undo 17 = .ok (.isub, 1) := by decide +kernel
theorem dX4_undo_18 : decode cX4_undo 18 = .ok (.putfield 39, 3) := by decide +kernel
theorem dX4_undo_21 : decode cX4_undo 21 = .ok (.iconst 0, 1) := by decide +kernel
theorem dX4_undo_22 : decode cX4_undo 22 = .ok (.istore_n 1, 1) := by decide +kernel
theorem dX4_undo_23 : decode cX4_undo 23 = .ok (.iload_n 1, 1) := by decide +kernel
theorem dX4_undo_24 : decode cX4_undo 24 = .ok (.bipush 92, 2) := by decide +kernel
theorem dX4_undo_26 : decode cX4_undo 26 = .ok (.if_icmp .ge 29, 3) := by decide +kernel
theorem dX4_undo_29 : decode cX4_undo 29 = .ok (.aload_n 0, 1) := by decide +kernel
theorem dX4_undo_30 : decode cX4_undo 30 = .ok (.getfield 7, 3) := by decide +kernel
theorem dX4_undo_33 : decode cX4_undo 33 = .ok (.iload_n 1, 1) := by decide +kernel
theorem dX4_undo_34 : decode cX4_undo 34 = .ok (.aload_n 0, 1) := by decide +kernel
theorem dX4_undo_35 : decode cX4_undo 35 = .ok (.getfield 19, 3) := by decide +kernel
theorem dX4_undo_38 : decode cX4_undo 38 = .ok (.bipush 92, 2) := by decide +kernel
theorem dX4_undo_40 : decode cX4_undo 40 = .ok (.aload_n 0, 1) := by decide +kernel
theorem dX4_undo_41 : decode cX4_undo 41 = .ok (.getfield 39, 3) := by decide +kernel
theorem dX4_undo_44 : decode cX4_undo 44 = .ok (.imul, 1) := by decide +kernel
theorem dX4_undo_45 : decode cX4_undo 45 = .ok (.iload_n 1, 1) := by decide +kernel
theorem dX4_undo_46 : decode cX4_undo 46 = .ok (.iadd, 1) := by decide +kernel
theorem dX4_undo_47 : decode cX4_undo 47 = .ok (.iaload, 1) := by decide +kernel
theorem dX4_undo_48 : decode cX4_undo 48 = .ok (.iastore, 1) := by decide +kernel
theorem dX4_undo_49 : decode cX4_undo 49 = .ok (.iinc 1 1, 3) := by decide +kernel
theorem dX4_undo_52 : decode cX4_undo 52 = .ok (.goto (-29), 3) := by decide +kernel
theorem dX4_undo_55 : decode cX4_undo 55 = .ok (.aload_n 0, 1) := by decide +kernel
theorem dX4_undo_56 : decode cX4_undo 56 = .ok (.getfield 39, 3) := by decide +kernel
theorem dX4_undo_59 : decode cX4_undo 59 = .ok (.ireturn, 1) := by decide +kernel
set_option maxRecDepth 20000 in
theorem ggX4_keep_X4_copy : GoodIn wsX4_keep wsX4_copy := goodIn_r _ [7] (by decide +kernel) (by decide +kernel)
set_option maxRecDepth 20000 in
theorem gX4_keep_X4_copy : GoodIn wsX4_keep (va_wsS RX4 35 yX4_copy wsX4_copy) := goodIn_app (goodIn_of _ (by decide +kernel)) ggX4_keep_X4_copy
set_option maxRecDepth 20000 in
theorem ggX4_keep_X4_many : GoodIn wsX4_keep wsX4_many := goodIn_r _ [11, 12, 13, 14, 6, 15, 1, 16, 17, 18, 19, 20, 21, 22, 23, 24, 25, 26, 27, 28, 29, 30, 31] (by decide +kernel) (by decide +kernel)
set_option maxRecDepth 20000 in
theorem gX4_keep_X4_many : GoodIn wsX4_keep (wsV RX4 191 RX4 yX4_many wsX4_many) := goodIn_app (goodIn_of _ (by decide +kernel)) ggX4_keep_X4_many
theorem dX4_keep_0 : decode cX4_keep 0 = .ok (.aload_n 0, 1) := by decide +kernel
theorem dX4_keep_1 : decode cX4_keep 1 = .ok (.getfield 7, 3) := by decide +kernel
theorem dX4_keep_4 : decode cX4_keep 4 = .ok (.aload_n 0, 1) := by decide +kernel
theorem dX4_keep_5 : decode cX4_keep 5 = .ok (.getfield 22, 3) := by decide +kernel
theorem dX4_keep_8 : decode cX4_keep 8 = .ok (.invokestatic 35, 3) := by decide +kernel
theorem dX4_keep_11 : decode cX4_keep 11 = .ok (.aload_n 0, 1) := by decide +kernel
theorem dX4_keep_12 : decode cX4_keep 12 = .ok (.iconst 1, 1) := by decide +kernel
theorem dX4_keep_13 : decode cX4_keep 13 = .ok (.putfield 188, 3) := by decide +kernel
theorem dX4_keep_16 : decode cX4_keep 16 = .ok (.aload_n 0, 1) := by decide +kernel
theorem dX4_keep_17 : decode cX4_keep 17 = .ok (.invokevirtual 191, 3) := by decide +kernel
theorem dX4_keep_20 : decode cX4_keep 20 = .ok (.ireturn, 1) := by decide +kernel
set_option maxRecDepth 20000 in
theorem ggX4_restore_X4_remember : GoodIn wsX4_restore wsX4_remember := goodIn_r _ [8, 3, 9, 10, 11, 7, 12, 27, 28, 29, 30, 31, 32, 33, 34, 35, 36, 37, 38, 39, 40, 41, 42] (by decide +kernel) (by decide +kernel)
set_option maxRecDepth 20000 in
theorem gX4_restore_X4_remember : GoodIn wsX4_restore (wsV RX4 98 RX4 yX4_remember wsX4_remember) := goodIn_app (goodIn_of _ (by decide +kernel)) ggX4_restore_X4_remember
set_option maxRecDepth 20000 in
theorem ggX4_restore_X4_copy : GoodIn wsX4_restore wsX4_copy := goodIn_r _ [12] (by decide +kernel) (by decide +kernel)
set_option maxRecDepth 20000 in
theorem gX4_restore_X4_copy : GoodIn wsX4_restore (va_wsS RX4 35 yX4_copy wsX4_copy) := goodIn_app (goodIn_of _ (by decide +kernel)) ggX4_restore_X4_copy
set_option maxRecDepth 20000 in
theorem ggX4_restore_X4_many : GoodIn wsX4_restore wsX4_many := goodIn_r _ [16, 17, 18, 19, 7, 20, 3, 27, 28, 29, 30, 31, 32, 33, 34, 35, 36, 37, 38, 39, 40, 41, 42] (by decide +kernel) (by decide +kernel)
set_option maxRecDepth 20000 in
theorem gX4_restore_X4_many : GoodIn wsX4_restore (wsV RX4 191 RX4 yX4_many wsX4_many) := goodIn_app (goodIn_of _ (by decide +kernel)) ggX4_restore_X4_many
set_option maxRecDepth 20000 in
theorem ggX4_restore_X4_acted : GoodIn wsX4_restore wsX4_acted := goodIn_r _ [24, 25, 26, 9, 27, 28, 29, 30, 31, 32, 33, 34, 35, 36, 37, 38, 39, 40, 41, 42] (by decide +kernel) (by decide +kernel)
set_option maxRecDepth 20000 in
theorem gX4_restore_X4_acted : GoodIn wsX4_restore (wsV RX4 104 RX4 yX4_acted wsX4_acted) := goodIn_app (goodIn_of _ (by decide +kernel)) ggX4_restore_X4_acted
theorem dX4_restore_0 : decode cX4_restore 0 = .ok (.aload_n 0, 1) := by decide +kernel
theorem dX4_restore_1 : decode cX4_restore 1 = .ok (.getfield 188, 3) := by decide +kernel
theorem dX4_restore_4 : decode cX4_restore 4 = .ok (.ifCond .ne 7, 3) := by decide +kernel
theorem dX4_restore_7 : decode cX4_restore 7 = .ok (.sipush (-10005), 3) := by decide +kernel
theorem dX4_restore_10 : decode cX4_restore 10 = .ok (.ireturn, 1) := by decide +kernel
theorem dX4_restore_11 : decode cX4_restore 11 = .ok (.aload_n 0, 1) := by decide +kernel
theorem dX4_restore_12 : decode cX4_restore 12 = .ok (.invokevirtual 98, 3) := by decide +kernel
theorem dX4_restore_15 : decode cX4_restore 15 = .ok (.aload_n 0, 1) := by decide +kernel
theorem dX4_restore_16 : decode cX4_restore 16 = .ok (.getfield 22, 3) := by decide +kernel
theorem dX4_restore_19 : decode cX4_restore 19 = .ok (.aload_n 0, 1) := by decide +kernel
theorem dX4_restore_20 : decode cX4_restore 20 = .ok (.getfield 7, 3) := by decide +kernel
theorem dX4_restore_23 : decode cX4_restore 23 = .ok (.invokestatic 35, 3) := by decide +kernel
theorem dX4_restore_26 : decode cX4_restore 26 = .ok (.aload_n 0, 1) := by decide +kernel
theorem dX4_restore_27 : decode cX4_restore 27 = .ok (.aload_n 0, 1) := by decide +kernel
theorem dX4_restore_28 : decode cX4_restore 28 = .ok (.invokevirtual 191, 3) := by decide +kernel
theorem dX4_restore_31 : decode cX4_restore 31 = .ok (.invokevirtual 104, 3) := by decide +kernel
theorem dX4_restore_34 : decode cX4_restore 34 = .ok (.ireturn, 1) := by decide +kernel
set_option maxRecDepth 20000 in
theorem ggX4_rankOf_X4_heightOf : GoodIn wsX4_rankOf wsX4_heightOf := goodIn_r _ [6, 1, 7, 8, 9, 10, 11, 12, 13, 14, 15, 16, 17, 18, 19, 20, 21, 22] (by decide +kernel) (by decide +kernel)
set_option maxRecDepth 20000 in
theorem gX4_rankOf_X4_heightOf : GoodIn wsX4_rankOf (wsV RX4 50 RX4 yX4_heightOf wsX4_heightOf) := goodIn_app (goodIn_of _ (by decide +kernel)) ggX4_rankOf_X4_heightOf
theorem dX4_rankOf_0 : decode cX4_rankOf 0 = .ok (.iconst 0, 1) := by decide +kernel
theorem dX4_rankOf_1 : decode cX4_rankOf 1 = .ok (.istore_n 2, 1) := by decide +kernel
theorem dX4_rankOf_2 : decode cX4_rankOf 2 = .ok (.iconst 0, 1) := by decide +kernel
theorem dX4_rankOf_3 : decode cX4_rankOf 3 = .ok (.istore_n 3, 1) := by decide +kernel
theorem dX4_rankOf_4 : decode cX4_rankOf 4 = .ok (.iload_n 3, 1) := by decide +kernel
theorem dX4_rankOf_5 : decode cX4_rankOf 5 = .ok (.bipush 12, 2) := by decide +kernel
theorem dX4_rankOf_7 : decode cX4_rankOf 7 = .ok (.if_icmp .ge 51, 3) := by decide +kernel
theorem dX4_rankOf_10 : decode cX4_rankOf 10 = .ok (.iload_n 2, 1) := by decide +kernel
theorem dX4_rankOf_11 : decode cX4_rankOf 11 = .ok (.aload_n 0, 1) := by decide +kernel
theorem dX4_rankOf_12 : decode cX4_rankOf 12 = .ok (.getfield 7, 3) := by decide +kernel
theorem dX4_rankOf_15 : decode cX4_rankOf 15 = .ok (.bipush 18, 2) := by decide +kernel
theorem dX4_rankOf_17 : decode cX4_rankOf 17 = .ok (.iload_n 3, 1) := by decide +kernel
theorem dX4_rankOf_18 : decode cX4_rankOf 18 = .ok (.iadd, 1) := by decide +kernel
theorem dX4_rankOf_19 : decode cX4_rankOf 19 = .ok (.iaload, 1) := by decide +kernel
theorem dX4_rankOf_20 : decode cX4_rankOf 20 = .ok (.aload_n 0, 1) := by decide +kernel
theorem dX4_rankOf_21 : decode cX4_rankOf 21 = .ok (.getfield 7, 3) := by decide +kernel
theorem dX4_rankOf_24 : decode cX4_rankOf 24 = .ok (.bipush 18, 2) := by decide +kernel
theorem dX4_rankOf_26 : decode cX4_rankOf 26 = .ok (.iload_n 1, 1) := by decide +kernel
theorem dX4_rankOf_27 : decode cX4_rankOf 27 = .ok (.iadd, 1) := by decide +kernel
theorem dX4_rankOf_28 : decode cX4_rankOf 28 = .ok (.iaload, 1) := by decide +kernel
theorem dX4_rankOf_29 : decode cX4_rankOf 29 = .ok (.if_icmp .ne 20, 3) := by decide +kernel
theorem dX4_rankOf_32 : decode cX4_rankOf 32 = .ok (.aload_n 0, 1) := by decide +kernel
theorem dX4_rankOf_33 : decode cX4_rankOf 33 = .ok (.iload_n 3, 1) := by decide +kernel
theorem dX4_rankOf_34 : decode cX4_rankOf 34 = .ok (.invokevirtual 50, 3) := by decide +kernel
theorem dX4_rankOf_37 : decode cX4_rankOf 37 = .ok (.aload_n 0, 1) := by decide +kernel
theorem dX4_rankOf_38 : decode cX4_rankOf 38 = .ok (.iload_n 1, 1) := by decide +kernel
theorem dX4_rankOf_39 : decode cX4_rankOf 39 = .ok (.invokevirtual 50, 3) := by decide +kernel
theorem dX4_rankOf_42 : decode cX4_rankOf 42 = .ok (.if_icmp .le 7, 3) := by decide +kernel
theorem dX4_rankOf_45 : decode cX4_rankOf 45 = .ok (.iconst 1, 1) := by decide +kernel
theorem dX4_rankOf_46 : decode cX4_rankOf 46 = .ok (.goto 4, 3) := by decide +kernel
theorem dX4_rankOf_49 : decode cX4_rankOf 49 = .ok (.iconst 0, 1) := by decide +kernel
theorem dX4_rankOf_50 : decode cX4_rankOf 50 = .ok (.iadd, 1) := by decide +kernel
theorem dX4_rankOf_51 : decode cX4_rankOf 51 = .ok (.istore_n 2, 1) := by decide +kernel
theorem dX4_rankOf_52 : decode cX4_rankOf 52 = .ok (.iinc 3 1, 3) := by decide +kernel
theorem dX4_rankOf_55 : decode cX4_rankOf 55 = .ok (.goto (-51), 3) := by decide +kernel
theorem dX4_rankOf_58 : decode cX4_rankOf 58 = .ok (.iload_n 2, 1) := by decide +kernel
theorem dX4_rankOf_59 : decode cX4_rankOf 59 = .ok (.ireturn, 1) := by decide +kernel
set_option maxRecDepth 20000 in
theorem ggX4_kite_X4_isKite : GoodIn wsX4_kite wsX4_isKite := goodIn_r _ [6, 7, 1, 8, 9, 5, 10, 23, 24, 25, 26, 27, 28, 29, 30, 31, 32, 33, 34, 35, 36, 37, 38] (by decide +kernel) (by decide +kernel)
set_option maxRecDepth 20000 in
theorem gX4_kite_X4_isKite : GoodIn wsX4_kite (wsV RX4 107 RX4 yX4_isKite wsX4_isKite) := goodIn_app (goodIn_of _ (by decide +kernel)) ggX4_kite_X4_isKite
set_option maxRecDepth 20000 in
theorem ggX4_kite_X4_heightOf : GoodIn wsX4_kite wsX4_heightOf := goodIn_r _ [14, 1, 23, 24, 25, 26, 27, 28, 29, 30, 31, 32, 33, 34, 35, 36, 37, 38] (by decide +kernel) (by decide +kernel)
set_option maxRecDepth 20000 in
theorem gX4_kite_X4_heightOf : GoodIn wsX4_kite (wsV RX4 50 RX4 yX4_heightOf wsX4_heightOf) := goodIn_app (goodIn_of _ (by decide +kernel)) ggX4_kite_X4_heightOf
set_option maxRecDepth 20000 in
theorem ggX4_kite_X4_rankOf : GoodIn wsX4_kite wsX4_rankOf := goodIn_r _ [18, 1, 11, 12, 13, 5, 14, 23, 24, 25, 26, 27, 28, 29, 30, 31, 32, 33, 34, 35, 36, 37, 38] (by decide +kernel) (by decide +kernel)
set_option maxRecDepth 20000 in
theorem gX4_kite_X4_rankOf : GoodIn wsX4_kite (wsV RX4 194 RX4 yX4_rankOf wsX4_rankOf) := goodIn_app (goodIn_of _ (by decide +kernel)) ggX4_kite_X4_rankOf
set_option maxRecDepth 20000 in
theorem ggX4_kite_X4_nextTo : GoodIn wsX4_kite wsX4_nextTo := goodIn_r _ [22, 1, 11, 12, 13, 5, 14, 23, 24, 25, 26, 27, 28, 29, 30, 31, 32, 33, 34, 35, 36, 37, 38] (by decide +kernel) (by decide +kernel)
set_option maxRecDepth 20000 in
theorem gX4_kite_X4_nextTo : GoodIn wsX4_kite (wsV RX4 79 RX4 yX4_nextTo wsX4_nextTo) := goodIn_app (goodIn_of _ (by decide +kernel)) ggX4_kite_X4_nextTo
theorem dX4_kite_0 : decode cX4_kite 0 = .ok (.aload_n 0, 1) := by decide +kernel
theorem dX4_kite_1 : decode cX4_kite 1 = .ok (.iload_n 1, 1) := by decide +kernel
theorem dX4_kite_2 : decode cX4_kite 2 = .ok (.invokevirtual 107, 3) := by decide +kernel
theorem dX4_kite_5 : decode cX4_kite 5 = .ok (.ifCond .ne 7, 3) := by decide +kernel
theorem dX4_kite_8 : decode cX4_kite 8 = .ok (.sipush (-10001), 3) := by decide +kernel
theorem dX4_kite_11 : decode cX4_kite 11 = .ok (.ireturn, 1) := by decide +kernel
theorem dX4_kite_12 : decode cX4_kite 12 = .ok (.iload_n 2, 1) := by decide +kernel
theorem dX4_kite_13 : decode cX4_kite 13 = .ok (.tableswitch 143 0 8 #[51, 61, 71, 77, 87, 97, 107, 113, 113], 51) := by decide +kernel
theorem dX4_kite_64 : decode cX4_kite 64 = .ok (.aload_n 0, 1) := by decide +kernel
theorem dX4_kite_65 : decode cX4_kite 65 = .ok (.getfield 7, 3) := by decide +kernel
theorem dX4_kite_68 : decode cX4_kite 68 = .ok (.bipush 30, 2) := by decide +kernel
theorem dX4_kite_70 : decode cX4_kite 70 = .ok (.iload_n 1, 1) := by decide +kernel
theorem dX4_kite_71 : decode cX4_kite 71 = .ok (.iadd, 1) := by decide +kernel
theorem dX4_kite_72 : decode cX4_kite 72 = .ok (.iaload, 1) := by decide +kernel
theorem dX4_kite_73 : decode cX4_kite 73 = .ok (.ireturn, 1) := by decide +kernel
theorem dX4_kite_74 : decode cX4_kite 74 = .ok (.aload_n 0, 1) := by decide +kernel
theorem dX4_kite_75 : decode cX4_kite 75 = .ok (.getfield 7, 3) := by decide +kernel
theorem dX4_kite_78 : decode cX4_kite 78 = .ok (.bipush 18, 2) := by decide +kernel
theorem dX4_kite_80 : decode cX4_kite 80 = .ok (.iload_n 1, 1) := by decide +kernel
theorem dX4_kite_81 : decode cX4_kite 81 = .ok (.iadd, 1) := by decide +kernel
theorem dX4_kite_82 : decode cX4_kite 82 = .ok (.iaload, 1) := by decide +kernel
theorem dX4_kite_83 : decode cX4_kite 83 = .ok (.ireturn, 1) := by decide +kernel
theorem dX4_kite_84 : decode cX4_kite 84 = .ok (.aload_n 0, 1) := by decide +kernel
theorem dX4_kite_85 : decode cX4_kite 85 = .ok (.iload_n 1, 1) := by decide +kernel
theorem dX4_kite_86 : decode cX4_kite 86 = .ok (.invokevirtual 50, 3) := by decide +kernel
theorem dX4_kite_89 : decode cX4_kite 89 = .ok (.ireturn, 1) := by decide +kernel
theorem dX4_kite_90 : decode cX4_kite 90 = .ok (.aload_n 0, 1) := by decide +kernel
theorem dX4_kite_91 : decode cX4_kite 91 = .ok (.getfield 7, 3) := by decide +kernel
theorem dX4_kite_94 : decode cX4_kite 94 = .ok (.bipush 54, 2) := by decide +kernel
theorem dX4_kite_96 : decode cX4_kite 96 = .ok (.iload_n 1, 1) := by decide +kernel
theorem dX4_kite_97 : decode cX4_kite 97 = .ok (.iadd, 1) := by decide +kernel
theorem dX4_kite_98 : decode cX4_kite 98 = .ok (.iaload, 1) := by decide +kernel
theorem dX4_kite_99 : decode cX4_kite 99 = .ok (.ireturn, 1) := by decide +kernel
theorem dX4_kite_100 : decode cX4_kite 100 = .ok (.aload_n 0, 1) := by decide +kernel
theorem dX4_kite_101 : decode cX4_kite 101 = .ok (.getfield 7, 3) := by decide +kernel
theorem dX4_kite_104 : decode cX4_kite 104 = .ok (.bipush 66, 2) := by decide +kernel
theorem dX4_kite_106 : decode cX4_kite 106 = .ok (.iload_n 1, 1) := by decide +kernel
theorem dX4_kite_107 : decode cX4_kite 107 = .ok (.iadd, 1) := by decide +kernel
theorem dX4_kite_108 : decode cX4_kite 108 = .ok (.iaload, 1) := by decide +kernel
theorem dX4_kite_109 : decode cX4_kite 109 = .ok (.ireturn, 1) := by decide +kernel
theorem dX4_kite_110 : decode cX4_kite 110 = .ok (.aload_n 0, 1) := by decide +kernel
theorem dX4_kite_111 : decode cX4_kite 111 = .ok (.getfield 7, 3) := by decide +kernel
theorem dX4_kite_114 : decode cX4_kite 114 = .ok (.bipush 78, 2) := by decide +kernel
theorem dX4_kite_116 : decode cX4_kite 116 = .ok (.iload_n 1, 1) := by decide +kernel
theorem dX4_kite_117 : decode cX4_kite 117 = .ok (.iadd, 1) := by decide +kernel
theorem dX4_kite_118 : decode cX4_kite 118 = .ok (.iaload, 1) := by decide +kernel
theorem dX4_kite_119 : decode cX4_kite 119 = .ok (.ireturn, 1) := by decide +kernel
theorem dX4_kite_120 : decode cX4_kite 120 = .ok (.aload_n 0, 1) := by decide +kernel
theorem dX4_kite_121 : decode cX4_kite 121 = .ok (.iload_n 1, 1) := by decide +kernel
theorem dX4_kite_122 : decode cX4_kite 122 = .ok (.invokevirtual 194, 3) := by decide +kernel
theorem dX4_kite_125 : decode cX4_kite 125 = .ok (.ireturn, 1) := by decide +kernel
theorem dX4_kite_126 : decode cX4_kite 126 = .ok (.aload_n 0, 1) := by decide +kernel
theorem dX4_kite_127 : decode cX4_kite 127 = .ok (.aload_n 0, 1) := by decide +kernel
theorem dX4_kite_128 : decode cX4_kite 128 = .ok (.getfield 7, 3) := by decide +kernel
theorem dX4_kite_131 : decode cX4_kite 131 = .ok (.bipush 18, 2) := by decide +kernel
theorem dX4_kite_133 : decode cX4_kite 133 = .ok (.iload_n 1, 1) := by decide +kernel
theorem dX4_kite_134 : decode cX4_kite 134 = .ok (.iadd, 1) := by decide +kernel
theorem dX4_kite_135 : decode cX4_kite 135 = .ok (.iaload, 1) := by decide +kernel
theorem dX4_kite_136 : decode cX4_kite 136 = .ok (.aload_n 0, 1) := by decide +kernel
theorem dX4_kite_137 : decode cX4_kite 137 = .ok (.iload_n 1, 1) := by decide +kernel
theorem dX4_kite_138 : decode cX4_kite 138 = .ok (.invokevirtual 50, 3) := by decide +kernel
theorem dX4_kite_141 : decode cX4_kite 141 = .ok (.iload_n 2, 1) := by decide +kernel
theorem dX4_kite_142 : decode cX4_kite 142 = .ok (.bipush 7, 2) := by decide +kernel
theorem dX4_kite_144 : decode cX4_kite 144 = .ok (.if_icmp .ne 7, 3) := by decide +kernel
theorem dX4_kite_147 : decode cX4_kite 147 = .ok (.iconst 1, 1) := by decide +kernel
theorem dX4_kite_148 : decode cX4_kite 148 = .ok (.goto 4, 3) := by decide +kernel
theorem dX4_kite_151 : decode cX4_kite 151 = .ok (.iconst 0, 1) := by decide +kernel
theorem dX4_kite_152 : decode cX4_kite 152 = .ok (.invokevirtual 79, 3) := by decide +kernel
theorem dX4_kite_155 : decode cX4_kite 155 = .ok (.ireturn, 1) := by decide +kernel
theorem dX4_kite_156 : decode cX4_kite 156 = .ok (.sipush (-10002), 3) := by decide +kernel
theorem dX4_kite_159 : decode cX4_kite 159 = .ok (.ireturn, 1) := by decide +kernel
theorem dX4_sumOf_0 : decode cX4_sumOf 0 = .ok (.iconst 0, 1) := by decide +kernel
theorem dX4_sumOf_1 : decode cX4_sumOf 1 = .ok (.istore_n 2, 1) := by decide +kernel
theorem dX4_sumOf_2 : decode cX4_sumOf 2 = .ok (.iconst 0, 1) := by decide +kernel
theorem dX4_sumOf_3 : decode cX4_sumOf 3 = .ok (.istore_n 3, 1) := by decide +kernel
theorem dX4_sumOf_4 : decode cX4_sumOf 4 = .ok (.iload_n 3, 1) := by decide +kernel
theorem dX4_sumOf_5 : decode cX4_sumOf 5 = .ok (.bipush 12, 2) := by decide +kernel
theorem dX4_sumOf_7 : decode cX4_sumOf 7 = .ok (.if_icmp .ge 38, 3) := by decide +kernel
theorem dX4_sumOf_10 : decode cX4_sumOf 10 = .ok (.iload_n 2, 1) := by decide +kernel
theorem dX4_sumOf_11 : decode cX4_sumOf 11 = .ok (.aload_n 0, 1) := by decide +kernel
theorem dX4_sumOf_12 : decode cX4_sumOf 12 = .ok (.getfield 7, 3) := by decide +kernel
theorem dX4_sumOf_15 : decode cX4_sumOf 15 = .ok (.bipush 18, 2) := by decide +kernel
theorem dX4_sumOf_17 : decode cX4_sumOf 17 = .ok (.iload_n 3, 1) := by decide +kernel
theorem dX4_sumOf_18 : decode cX4_sumOf 18 = .ok (.iadd, 1) := by decide +kernel
theorem dX4_sumOf_19 : decode cX4_sumOf 19 = .ok (.iaload, 1) := by decide +kernel
theorem dX4_sumOf_20 : decode cX4_sumOf 20 = .ok (.iload_n 1, 1) := by decide +kernel
theorem dX4_sumOf_21 : decode cX4_sumOf 21 = .ok (.if_icmp .ne 15, 3) := by decide +kernel
theorem dX4_sumOf_24 : decode cX4_sumOf 24 = .ok (.aload_n 0, 1) := by decide +kernel
theorem dX4_sumOf_25 : decode cX4_sumOf 25 = .ok (.getfield 7, 3) := by decide +kernel
theorem dX4_sumOf_28 : decode cX4_sumOf 28 = .ok (.bipush 30, 2) := by decide +kernel
theorem dX4_sumOf_30 : decode cX4_sumOf 30 = .ok (.iload_n 3, 1) := by decide +kernel
theorem dX4_sumOf_31 : decode cX4_sumOf 31 = .ok (.iadd, 1) := by decide +kernel
theorem dX4_sumOf_32 : decode cX4_sumOf 32 = .ok (.iaload, 1) := by decide +kernel
theorem dX4_sumOf_33 : decode cX4_sumOf 33 = .ok (.goto 4, 3) := by decide +kernel
theorem dX4_sumOf_36 : decode cX4_sumOf 36 = .ok (.iconst 0, 1) := by decide +kernel
theorem dX4_sumOf_37 : decode cX4_sumOf 37 = .ok (.iadd, 1) := by decide +kernel
theorem dX4_sumOf_38 : decode cX4_sumOf 38 = .ok (.istore_n 2, 1) := by decide +kernel
theorem dX4_sumOf_39 : decode cX4_sumOf 39 = .ok (.iinc 3 1, 3) := by decide +kernel
theorem dX4_sumOf_42 : decode cX4_sumOf 42 = .ok (.goto (-38), 3) := by decide +kernel
theorem dX4_sumOf_45 : decode cX4_sumOf 45 = .ok (.iload_n 2, 1) := by decide +kernel
theorem dX4_sumOf_46 : decode cX4_sumOf 46 = .ok (.ireturn, 1) := by decide +kernel
set_option maxRecDepth 20000 in
theorem ggX4_highestOf_X4_nextTo : GoodIn wsX4_highestOf wsX4_nextTo := goodIn_r _ [5, 6, 7, 8, 9, 4, 10, 11, 12, 13, 14, 15, 16, 17, 18, 19, 20, 21, 22, 23, 24, 25, 26] (by decide +kernel) (by decide +kernel)
set_option maxRecDepth 20000 in
theorem gX4_highestOf_X4_nextTo : GoodIn wsX4_highestOf (wsV RX4 79 RX4 yX4_nextTo wsX4_nextTo) := goodIn_app (goodIn_of _ (by decide +kernel)) ggX4_highestOf_X4_nextTo
set_option maxRecDepth 20000 in
theorem ggX4_highestOf_X4_heightOf : GoodIn wsX4_highestOf wsX4_heightOf := goodIn_r _ [10, 6, 11, 12, 13, 14, 15, 16, 17, 18, 19, 20, 21, 22, 23, 24, 25, 26] (by decide +kernel) (by decide +kernel)
set_option maxRecDepth 20000 in
theorem gX4_highestOf_X4_heightOf : GoodIn wsX4_highestOf (wsV RX4 50 RX4 yX4_heightOf wsX4_heightOf) := goodIn_app (goodIn_of _ (by decide +kernel)) ggX4_highestOf_X4_heightOf
theorem dX4_highestOf_0 : decode cX4_highestOf 0 = .ok (.sipush (-10005), 3) := by decide +kernel
theorem dX4_highestOf_3 : decode cX4_highestOf 3 = .ok (.istore_n 2, 1) := by decide +kernel
theorem dX4_highestOf_4 : decode cX4_highestOf 4 = .ok (.aload_n 0, 1) := by decide +kernel
theorem dX4_highestOf_5 : decode cX4_highestOf 5 = .ok (.iload_n 1, 1) := by decide +kernel
theorem dX4_highestOf_6 : decode cX4_highestOf 6 = .ok (.iconst (-1), 1) := by decide +kernel
theorem dX4_highestOf_7 : decode cX4_highestOf 7 = .ok (.iconst 1, 1) := by decide +kernel
theorem dX4_highestOf_8 : decode cX4_highestOf 8 = .ok (.invokevirtual 79, 3) := by decide +kernel
theorem dX4_highestOf_11 : decode cX4_highestOf 11 = .ok (.istore_n 3, 1) := by decide +kernel
theorem dX4_highestOf_12 : decode cX4_highestOf 12 = .ok (.iload_n 3, 1) := by decide +kernel
theorem dX4_highestOf_13 : decode cX4_highestOf 13 = .ok (.sipush (-10005), 3) := by decide +kernel
theorem dX4_highestOf_16 : decode cX4_highestOf 16 = .ok (.if_icmp .eq 20, 3) := by decide +kernel
theorem dX4_highestOf_19 : decode cX4_highestOf 19 = .ok (.iload_n 3, 1) := by decide +kernel
theorem dX4_highestOf_20 : decode cX4_highestOf 20 = .ok (.istore_n 2, 1) := by decide +kernel
theorem dX4_highestOf_21 : decode cX4_highestOf 21 = .ok (.aload_n 0, 1) := by decide +kernel
theorem dX4_highestOf_22 : decode cX4_highestOf 22 = .ok (.iload_n 1, 1) := by decide +kernel
theorem dX4_highestOf_23 : decode cX4_highestOf 23 = .ok (.aload_n 0, 1) := by decide +kernel
theorem dX4_highestOf_24 : decode cX4_highestOf 24 = .ok (.iload_n 3, 1) := by decide +kernel
theorem dX4_highestOf_25 : decode cX4_highestOf 25 = .ok (.invokevirtual 50, 3) := by decide +kernel
theorem dX4_highestOf_28 : decode cX4_highestOf 28 = .ok (.iconst 1, 1) := by decide +kernel
theorem dX4_highestOf_29 : decode cX4_highestOf 29 = .ok (.invokevirtual 79, 3) := by decide +kernel
theorem dX4_highestOf_32 : decode cX4_highestOf 32 = .ok (.istore_n 3, 1) := by decide +kernel
theorem dX4_highestOf_33 : decode cX4_highestOf 33 = .ok (.goto (-21), 3) := by decide +kernel
theorem dX4_highestOf_36 : decode cX4_highestOf 36 = .ok (.iload_n 2, 1) := by decide +kernel
theorem dX4_highestOf_37 : decode cX4_highestOf 37 = .ok (.ireturn, 1) := by decide +kernel
set_option maxRecDepth 20000 in
theorem ggX4_string_X4_isString : GoodIn wsX4_string wsX4_isString := goodIn_r _ [5, 6, 7, 8, 4, 9] (by decide +kernel) (by decide +kernel)
set_option maxRecDepth 20000 in
theorem gX4_string_X4_isString : GoodIn wsX4_string (va_wsS RX4 91 yX4_isString wsX4_isString) := goodIn_app (goodIn_of _ (by decide +kernel)) ggX4_string_X4_isString
set_option maxRecDepth 20000 in
theorem ggX4_string_X4_kitesOf : GoodIn wsX4_string wsX4_kitesOf := goodIn_r _ [13, 1, 38, 39, 40, 41, 42, 43, 44, 45, 46, 47, 48, 49, 50, 51, 52, 53] (by decide +kernel) (by decide +kernel)
set_option maxRecDepth 20000 in
theorem gX4_string_X4_kitesOf : GoodIn wsX4_string (wsV RX4 64 RX4 yX4_kitesOf wsX4_kitesOf) := goodIn_app (goodIn_of _ (by decide +kernel)) ggX4_string_X4_kitesOf
set_option maxRecDepth 20000 in
theorem ggX4_string_X4_weightsOf : GoodIn wsX4_string wsX4_weightsOf := goodIn_r _ [17, 1, 18, 19, 20, 4, 21, 22, 23, 24, 25, 38, 39, 40, 41, 42, 43, 44, 45, 46, 47, 48, 49, 50, 51, 52, 53] (by decide +kernel) (by decide +kernel)
set_option maxRecDepth 20000 in
theorem gX4_string_X4_weightsOf : GoodIn wsX4_string (wsV RX4 197 RX4 yX4_weightsOf wsX4_weightsOf) := goodIn_app (goodIn_of _ (by decide +kernel)) ggX4_string_X4_weightsOf
set_option maxRecDepth 20000 in
theorem ggX4_string_X4_highestOf : GoodIn wsX4_string wsX4_highestOf := goodIn_r _ [29, 30, 31, 32, 4, 33, 1, 22, 23, 24, 25, 38, 39, 40, 41, 42, 43, 44, 45, 46, 47, 48, 49, 50, 51, 52, 53] (by decide +kernel) (by decide +kernel)
set_option maxRecDepth 20000 in
theorem gX4_string_X4_highestOf : GoodIn wsX4_string (wsV RX4 200 RX4 yX4_highestOf wsX4_highestOf) := goodIn_app (goodIn_of _ (by decide +kernel)) ggX4_string_X4_highestOf
set_option maxRecDepth 20000 in
theorem ggX4_string_X4_nextTo : GoodIn wsX4_string wsX4_nextTo := goodIn_r _ [33, 1, 22, 23, 24, 4, 25, 38, 39, 40, 41, 42, 43, 44, 45, 46, 47, 48, 49, 50, 51, 52, 53] (by decide +kernel) (by decide +kernel)
set_option maxRecDepth 20000 in
theorem gX4_string_X4_nextTo : GoodIn wsX4_string (wsV RX4 79 RX4 yX4_nextTo wsX4_nextTo) := goodIn_app (goodIn_of _ (by decide +kernel)) ggX4_string_X4_nextTo
set_option maxRecDepth 20000 in
theorem ggX4_string_X4_sumOf : GoodIn wsX4_string wsX4_sumOf := goodIn_r _ [37, 1, 38, 39, 40, 41, 42, 43, 44, 45, 46, 47, 48, 49, 50, 51, 52, 53] (by decide +kernel) (by decide +kernel)
set_option maxRecDepth 20000 in
theorem gX4_string_X4_sumOf : GoodIn wsX4_string (wsV RX4 203 RX4 yX4_sumOf wsX4_sumOf) := goodIn_app (goodIn_of _ (by decide +kernel)) ggX4_string_X4_sumOf
theorem dX4_string_0 : decode cX4_string 0 = .ok (.iload_n 1, 1) := by decide +kernel
theorem dX4_string_1 : decode cX4_string 1 = .ok (.invokestatic 91, 3) := by decide +kernel
theorem dX4_string_4 : decode cX4_string 4 = .ok (.ifCond .ne 7, 3) := by decide +kernel
theorem dX4_string_7 : decode cX4_string 7 = .ok (.sipush (-10001), 3) := by decide +kernel
theorem dX4_string_10 : decode cX4_string 10 = .ok (.ireturn, 1) := by decide +kernel
theorem dX4_string_11 : decode cX4_string 11 = .ok (.iload_n 2, 1) := by decide +kernel
theorem dX4_string_12 : decode cX4_string 12 = .ok (.tableswitch 82 0 5 #[40, 46, 52, 58, 66, 72], 40) := by decide +kernel
theorem dX4_string_52 : decode cX4_string 52 = .ok (.aload_n 0, 1) := by decide +kernel
theorem dX4_string_53 : decode cX4_string 53 = .ok (.iload_n 1, 1) := by decide +kernel
theorem dX4_string_54 : decode cX4_string 54 = .ok (.invokevirtual 64, 3) := by decide +kernel
theorem dX4_string_57 : decode cX4_string 57 = .ok (.ireturn, 1) := by decide +kernel
theorem dX4_string_58 : decode cX4_string 58 = .ok (.aload_n 0, 1) := by decide +kernel
theorem dX4_string_59 : decode cX4_string 59 = .ok (.iload_n 1, 1) := by decide +kernel
theorem dX4_string_60 : decode cX4_string 60 = .ok (.invokevirtual 197, 3) := by decide +kernel
theorem dX4_string_63 : decode cX4_string 63 = .ok (.ireturn, 1) := by decide +kernel
theorem dX4_string_64 : decode cX4_string 64 = .ok (.aload_n 0, 1) := by decide +kernel
theorem dX4_string_65 : decode cX4_string 65 = .ok (.iload_n 1, 1) := by decide +kernel
theorem dX4_string_66 : decode cX4_string 66 = .ok (.invokevirtual 200, 3) := by decide +kernel
theorem dX4_string_69 : decode cX4_string 69 = .ok (.ireturn, 1) := by decide +kernel
theorem dX4_string_70 : decode cX4_string 70 = .ok (.aload_n 0, 1) := by decide +kernel
theorem dX4_string_71 : decode cX4_string 71 = .ok (.iload_n 1, 1) := by decide +kernel
theorem dX4_string_72 : decode cX4_string 72 = .ok (.iconst (-1), 1) := by decide +kernel
theorem dX4_string_73 : decode cX4_string 73 = .ok (.iconst 1, 1) := by decide +kernel
theorem dX4_string_74 : decode cX4_string 74 = .ok (.invokevirtual 79, 3) := by decide +kernel
theorem dX4_string_77 : decode cX4_string 77 = .ok (.ireturn, 1) := by decide +kernel
theorem dX4_string_78 : decode cX4_string 78 = .ok (.aload_n 0, 1) := by decide +kernel
theorem dX4_string_79 : decode cX4_string 79 = .ok (.iload_n 1, 1) := by decide +kernel
theorem dX4_string_80 : decode cX4_string 80 = .ok (.invokevirtual 203, 3) := by decide +kernel
theorem dX4_string_83 : decode cX4_string 83 = .ok (.ireturn, 1) := by decide +kernel
theorem dX4_string_84 : decode cX4_string 84 = .ok (.aload_n 0, 1) := by decide +kernel
theorem dX4_string_85 : decode cX4_string 85 = .ok (.getfield 7, 3) := by decide +kernel
theorem dX4_string_88 : decode cX4_string 88 = .ok (.bipush 14, 2) := by decide +kernel
theorem dX4_string_90 : decode cX4_string 90 = .ok (.iload_n 1, 1) := by decide +kernel
theorem dX4_string_91 : decode cX4_string 91 = .ok (.iadd, 1) := by decide +kernel
theorem dX4_string_92 : decode cX4_string 92 = .ok (.iaload, 1) := by decide +kernel
theorem dX4_string_93 : decode cX4_string 93 = .ok (.ireturn, 1) := by decide +kernel
theorem dX4_string_94 : decode cX4_string 94 = .ok (.sipush (-10002), 3) := by decide +kernel
theorem dX4_string_97 : decode cX4_string 97 = .ok (.ireturn, 1) := by decide +kernel
set_option maxRecDepth 20000 in
theorem ggX4_drawn_X4_isString : GoodIn wsX4_drawn wsX4_isString := goodIn_r _ [5, 6, 7, 8, 4, 9] (by decide +kernel) (by decide +kernel)
set_option maxRecDepth 20000 in
theorem gX4_drawn_X4_isString : GoodIn wsX4_drawn (va_wsS RX4 91 yX4_isString wsX4_isString) := goodIn_app (goodIn_of _ (by decide +kernel)) ggX4_drawn_X4_isString
set_option maxRecDepth 20000 in
theorem ggX4_drawn_X4_weightsOf : GoodIn wsX4_drawn wsX4_weightsOf := goodIn_r _ [13, 1, 14, 15, 16, 4, 17, 18, 19, 20, 21, 22, 23, 24, 25, 26, 27, 28, 29, 30, 31, 32, 33, 34, 35, 36, 37] (by decide +kernel) (by decide +kernel)
set_option maxRecDepth 20000 in
theorem gX4_drawn_X4_weightsOf : GoodIn wsX4_drawn (wsV RX4 197 RX4 yX4_weightsOf wsX4_weightsOf) := goodIn_app (goodIn_of _ (by decide +kernel)) ggX4_drawn_X4_weightsOf
set_option maxRecDepth 20000 in
theorem ggX4_drawn_X4_in : GoodIn wsX4_drawn wsX4_in := goodIn_r _ [9] (by decide +kernel) (by decide +kernel)
set_option maxRecDepth 20000 in
theorem gX4_drawn_X4_in : GoodIn wsX4_drawn (va_wsS RX4 44 yX4_in wsX4_in) := goodIn_app (goodIn_of _ (by decide +kernel)) ggX4_drawn_X4_in
set_option maxRecDepth 20000 in
theorem ggX4_drawn_X4_weightOf : GoodIn wsX4_drawn wsX4_weightOf := goodIn_r _ [17, 18, 19, 20, 4, 21, 1, 22, 23, 24, 25, 26, 27, 28, 29, 30, 31, 32, 33, 34, 35, 36, 37] (by decide +kernel) (by decide +kernel)
set_option maxRecDepth 20000 in
theorem gX4_drawn_X4_weightOf : GoodIn wsX4_drawn (wsV RX4 61 RX4 yX4_weightOf wsX4_weightOf) := goodIn_app (goodIn_of _ (by decide +kernel)) ggX4_drawn_X4_weightOf
theorem dX4_drawn_0 : decode cX4_drawn 0 = .ok (.iload_n 1, 1) := by decide +kernel
theorem dX4_drawn_1 : decode cX4_drawn 1 = .ok (.invokestatic 91, 3) := by decide +kernel
theorem dX4_drawn_4 : decode cX4_drawn 4 = .ok (.ifCond .ne 7, 3) := by decide +kernel
theorem dX4_drawn_7 : decode cX4_drawn 7 = .ok (.sipush (-10001), 3) := by decide +kernel
theorem dX4_drawn_10 : decode cX4_drawn 10 = .ok (.ireturn, 1) := by decide +kernel
theorem dX4_drawn_11 : decode cX4_drawn 11 = .ok (.iload_n 2, 1) := by decide +kernel
theorem dX4_drawn_12 : decode cX4_drawn 12 = .ok (.i2l, 1) := by decide +kernel
theorem dX4_drawn_13 : decode cX4_drawn 13 = .ok (.lconst 0, 1) := by decide +kernel
theorem dX4_drawn_14 : decode cX4_drawn 14 = .ok (.aload_n 0, 1) := by decide +kernel
theorem dX4_drawn_15 : decode cX4_drawn 15 = .ok (.iload_n 1, 1) := by decide +kernel
theorem dX4_drawn_16 : decode cX4_drawn 16 = .ok (.invokevirtual 197, 3) := by decide +kernel
theorem dX4_drawn_19 : decode cX4_drawn 19 = .ok (.i2l, 1) := by decide +kernel
theorem dX4_drawn_20 : decode cX4_drawn 20 = .ok (.lconst 1, 1) := by decide +kernel
theorem dX4_drawn_21 : decode cX4_drawn 21 = .ok (.lsub, 1) := by decide +kernel
theorem dX4_drawn_22 : decode cX4_drawn 22 = .ok (.invokestatic 44, 3) := by decide +kernel
theorem dX4_drawn_25 : decode cX4_drawn 25 = .ok (.ifCond .ne 7, 3) := by decide +kernel
theorem dX4_drawn_28 : decode cX4_drawn 28 = .ok (.sipush (-10002), 3) := by decide +kernel
theorem dX4_drawn_31 : decode cX4_drawn 31 = .ok (.ireturn, 1) := by decide +kernel
theorem dX4_drawn_32 : decode cX4_drawn 32 = .ok (.iload_n 2, 1) := by decide +kernel
theorem dX4_drawn_33 : decode cX4_drawn 33 = .ok (.istore_n 3, 1) := by decide +kernel
theorem dX4_drawn_34 : decode cX4_drawn 34 = .ok (.iconst (-1), 1) := by decide +kernel
theorem dX4_drawn_35 : decode cX4_drawn 35 = .ok (.istore 4, 2) := by decide +kernel
theorem dX4_drawn_37 : decode cX4_drawn 37 = .ok (.iload_n 3, 1) := by decide +kernel
theorem dX4_drawn_38 : decode cX4_drawn 38 = .ok (.ifCond .lt 36, 3) := by decide +kernel
theorem dX4_drawn_41 : decode cX4_drawn 41 = .ok (.iinc 4 1, 3) := by decide +kernel
theorem dX4_drawn_44 : decode cX4_drawn 44 = .ok (.iload_n 3, 1) := by decide +kernel
theorem dX4_drawn_45 : decode cX4_drawn 45 = .ok (.aload_n 0, 1) := by decide +kernel
theorem dX4_drawn_46 : decode cX4_drawn 46 = .ok (.getfield 7, 3) := by decide +kernel
theorem dX4_drawn_49 : decode cX4_drawn 49 = .ok (.bipush 18, 2) := by decide +kernel
theorem dX4_drawn_51 : decode cX4_drawn 51 = .ok (.iload 4, 2) := by decide +kernel
theorem dX4_drawn_53 : decode cX4_drawn 53 = .ok (.iadd, 1) := by decide +kernel
theorem dX4_drawn_54 : decode cX4_drawn 54 = .ok (.iaload, 1) := by decide +kernel
theorem dX4_drawn_55 : decode cX4_drawn 55 = .ok (.iload_n 1, 1) := by decide +kernel
theorem dX4_drawn_56 : decode cX4_drawn 56 = .ok (.if_icmp .ne 12, 3) := by decide +kernel
theorem dX4_drawn_59 : decode cX4_drawn 59 = .ok (.aload_n 0, 1) := by decide +kernel
theorem dX4_drawn_60 : decode cX4_drawn 60 = .ok (.iload 4, 2) := by decide +kernel
theorem dX4_drawn_62 : decode cX4_drawn 62 = .ok (.invokevirtual 61, 3) := by decide +kernel
theorem dX4_drawn_65 : decode cX4_drawn 65 = .ok (.goto 4, 3) := by decide +kernel
theorem dX4_drawn_68 : decode cX4_drawn 68 = .ok (.iconst 0, 1) := by decide +kernel
theorem dX4_drawn_69 : decode cX4_drawn 69 = .ok (.isub, 1) := by decide +kernel
theorem dX4_drawn_70 : decode cX4_drawn 70 = .ok (.istore_n 3, 1) := by decide +kernel
theorem dX4_drawn_71 : decode cX4_drawn 71 = .ok (.goto (-34), 3) := by decide +kernel
theorem dX4_drawn_74 : decode cX4_drawn 74 = .ok (.iload 4, 2) := by decide +kernel
theorem dX4_drawn_76 : decode cX4_drawn 76 = .ok (.ireturn, 1) := by decide +kernel
set_option maxRecDepth 20000 in
theorem ggX4_share_X4_isKite : GoodIn wsX4_share wsX4_isKite := goodIn_r _ [6, 7, 1, 8, 9, 5, 10, 23, 24, 25, 26, 27, 28, 29, 30, 31, 32, 33, 34, 35, 36, 37, 38] (by decide +kernel) (by decide +kernel)
set_option maxRecDepth 20000 in
theorem gX4_share_X4_isKite : GoodIn wsX4_share (wsV RX4 107 RX4 yX4_isKite wsX4_isKite) := goodIn_app (goodIn_of _ (by decide +kernel)) ggX4_share_X4_isKite
set_option maxRecDepth 20000 in
theorem ggX4_share_X4_weightOf : GoodIn wsX4_share wsX4_weightOf := goodIn_r _ [14, 15, 16, 17, 5, 18, 1, 23, 24, 25, 26, 27, 28, 29, 30, 31, 32, 33, 34, 35, 36, 37, 38] (by decide +kernel) (by decide +kernel)
set_option maxRecDepth 20000 in
theorem gX4_share_X4_weightOf : GoodIn wsX4_share (wsV RX4 61 RX4 yX4_weightOf wsX4_weightOf) := goodIn_app (goodIn_of _ (by decide +kernel)) ggX4_share_X4_weightOf
set_option maxRecDepth 20000 in
theorem ggX4_share_X4_weightsOf : GoodIn wsX4_share wsX4_weightsOf := goodIn_r _ [22, 1, 11, 12, 13, 5, 14, 15, 16, 17, 18, 23, 24, 25, 26, 27, 28, 29, 30, 31, 32, 33, 34, 35, 36, 37, 38] (by decide +kernel) (by decide +kernel)
set_option maxRecDepth 20000 in
theorem gX4_share_X4_weightsOf : GoodIn wsX4_share (wsV RX4 197 RX4 yX4_weightsOf wsX4_weightsOf) := goodIn_app (goodIn_of _ (by decide +kernel)) ggX4_share_X4_weightsOf
theorem dX4_share_0 : decode cX4_share 0 = .ok (.aload_n 0, 1) := by decide +kernel
theorem dX4_share_1 : decode cX4_share 1 = .ok (.iload_n 1, 1) := by decide +kernel
theorem dX4_share_2 : decode cX4_share 2 = .ok (.invokevirtual 107, 3) := by decide +kernel
theorem dX4_share_5 : decode cX4_share 5 = .ok (.ifCond .eq 29, 3) := by decide +kernel
theorem dX4_share_8 : decode cX4_share 8 = .ok (.sipush 1000, 3) := by decide +kernel
theorem dX4_share_11 : decode cX4_share 11 = .ok (.aload_n 0, 1) := by decide +kernel
theorem dX4_share_12 : decode cX4_share 12 = .ok (.iload_n 1, 1) := by decide +kernel
theorem dX4_share_13 : decode cX4_share 13 = .ok (.invokevirtual 61, 3) := by decide +kernel
theorem dX4_share_16 : decode cX4_share 16 = .ok (.imul, 1) := by decide +kernel
theorem dX4_share_17 : decode cX4_share 17 = .ok (.aload_n 0, 1) := by decide +kernel
theorem dX4_share_18 : decode cX4_share 18 = .ok (.aload_n 0, 1) := by decide +kernel
theorem dX4_share_19 : decode cX4_share 19 = .ok (.getfield 7, 3) := by decide +kernel
theorem dX4_share_22 : decode cX4_share 22 = .ok (.bipush 18, 2) := by decide +kernel
theorem dX4_share_24 : decode cX4_share 24 = .ok (.iload_n 1, 1) := by decide +kernel
theorem dX4_share_25 : decode cX4_share 25 = .ok (.iadd, 1) := by decide +kernel
theorem dX4_share_26 : decode cX4_share 26 = .ok (.iaload, 1) := by decide +kernel
theorem dX4_share_27 : decode cX4_share 27 = .ok (.invokevirtual 197, 3) := by decide +kernel
theorem dX4_share_30 : decode cX4_share 30 = .ok (.idiv, 1) := by decide +kernel
theorem dX4_share_31 : decode cX4_share 31 = .ok (.goto 6, 3) := by decide +kernel
theorem dX4_share_34 : decode cX4_share 34 = .ok (.sipush (-10001), 3) := by decide +kernel
theorem dX4_share_37 : decode cX4_share 37 = .ok (.ireturn, 1) := by decide +kernel
set_option maxRecDepth 20000 in
theorem ggX4_windOf_X4_isBeat : GoodIn wsX4_windOf wsX4_isBeat := goodIn_r _ [5, 6, 7, 8, 4, 9] (by decide +kernel) (by decide +kernel)
set_option maxRecDepth 20000 in
theorem gX4_windOf_X4_isBeat : GoodIn wsX4_windOf (va_wsS RX4 123 yX4_isBeat wsX4_isBeat) := goodIn_app (goodIn_of _ (by decide +kernel)) ggX4_windOf_X4_isBeat
theorem dX4_windOf_0 : decode cX4_windOf 0 = .ok (.iload_n 1, 1) := by decide +kernel
theorem dX4_windOf_1 : decode cX4_windOf 1 = .ok (.invokestatic 123, 3) := by decide +kernel
theorem dX4_windOf_4 : decode cX4_windOf 4 = .ok (.ifCond .eq 15, 3) := by decide +kernel
theorem dX4_windOf_7 : decode cX4_windOf 7 = .ok (.aload_n 0, 1) := by decide +kernel
theorem dX4_windOf_8 : decode cX4_windOf 8 = .ok (.getfield 7, 3) := by decide +kernel
theorem dX4_windOf_11 : decode cX4_windOf 11 = .ok (.bipush 6, 2) := by decide +kernel
theorem dX4_windOf_13 : decode cX4_windOf 13 = .ok (.iload_n 1, 1) := by decide +kernel
theorem dX4_windOf_14 : decode cX4_windOf 14 = .ok (.iadd, 1) := by decide +kernel
theorem dX4_windOf_15 : decode cX4_windOf 15 = .ok (.iaload, 1) := by decide +kernel
theorem dX4_windOf_16 : decode cX4_windOf 16 = .ok (.goto 6, 3) := by decide +kernel
theorem dX4_windOf_19 : decode cX4_windOf 19 = .ok (.sipush (-10001), 3) := by decide +kernel
theorem dX4_windOf_22 : decode cX4_windOf 22 = .ok (.ireturn, 1) := by decide +kernel
set_option maxRecDepth 20000 in
theorem ggX4_passed_X4_heightOf : GoodIn wsX4_passed wsX4_heightOf := goodIn_r _ [6, 1, 7, 8, 9, 10, 11, 12, 13, 14, 15, 16, 17, 18, 19, 20, 21, 22] (by decide +kernel) (by decide +kernel)
set_option maxRecDepth 20000 in
theorem gX4_passed_X4_heightOf : GoodIn wsX4_passed (wsV RX4 50 RX4 yX4_heightOf wsX4_heightOf) := goodIn_app (goodIn_of _ (by decide +kernel)) ggX4_passed_X4_heightOf
theorem dX4_passed_0 : decode cX4_passed 0 = .ok (.iconst 0, 1) := by decide +kernel
theorem dX4_passed_1 : decode cX4_passed 1 = .ok (.istore_n 3, 1) := by decide +kernel
theorem dX4_passed_2 : decode cX4_passed 2 = .ok (.iconst 0, 1) := by decide +kernel
theorem dX4_passed_3 : decode cX4_passed 3 = .ok (.istore 4, 2) := by decide +kernel
theorem dX4_passed_5 : decode cX4_passed 5 = .ok (.iload 4, 2) := by decide +kernel
theorem dX4_passed_7 : decode cX4_passed 7 = .ok (.bipush 12, 2) := by decide +kernel
theorem dX4_passed_9 : decode cX4_passed 9 = .ok (.if_icmp .ge 63, 3) := by decide +kernel
theorem dX4_passed_12 : decode cX4_passed 12 = .ok (.iload_n 3, 1) := by decide +kernel
theorem dX4_passed_13 : decode cX4_passed 13 = .ok (.aload_n 0, 1) := by decide +kernel
theorem dX4_passed_14 : decode cX4_passed 14 = .ok (.getfield 7, 3) := by decide +kernel
theorem dX4_passed_17 : decode cX4_passed 17 = .ok (.bipush 18, 2) := by decide +kernel
theorem dX4_passed_19 : decode cX4_passed 19 = .ok (.iload 4, 2) := by decide +kernel
theorem dX4_passed_21 : decode cX4_passed 21 = .ok (.iadd, 1) := by decide +kernel
theorem dX4_passed_22 : decode cX4_passed 22 = .ok (.iaload, 1) := by decide +kernel
theorem dX4_passed_23 : decode cX4_passed 23 = .ok (.aload_n 0, 1) := by decide +kernel
theorem dX4_passed_24 : decode cX4_passed 24 = .ok (.getfield 7, 3) := by decide +kernel
theorem dX4_passed_27 : decode cX4_passed 27 = .ok (.bipush 18, 2) := by decide +kernel
theorem dX4_passed_29 : decode cX4_passed 29 = .ok (.iload_n 1, 1) := by decide +kernel
theorem dX4_passed_30 : decode cX4_passed 30 = .ok (.iadd, 1) := by decide +kernel
theorem dX4_passed_31 : decode cX4_passed 31 = .ok (.iaload, 1) := by decide +kernel
theorem dX4_passed_32 : decode cX4_passed 32 = .ok (.if_icmp .ne 31, 3) := by decide +kernel
theorem dX4_passed_35 : decode cX4_passed 35 = .ok (.aload_n 0, 1) := by decide +kernel
theorem dX4_passed_36 : decode cX4_passed 36 = .ok (.iload 4, 2) := by decide +kernel
theorem dX4_passed_38 : decode cX4_passed 38 = .ok (.invokevirtual 50, 3) := by decide +kernel
theorem dX4_passed_41 : decode cX4_passed 41 = .ok (.iload_n 2, 1) := by decide +kernel
theorem dX4_passed_42 : decode cX4_passed 42 = .ok (.if_icmp .le 21, 3) := by decide +kernel
theorem dX4_passed_45 : decode cX4_passed 45 = .ok (.aload_n 0, 1) := by decide +kernel
theorem dX4_passed_46 : decode cX4_passed 46 = .ok (.iload 4, 2) := by decide +kernel
theorem dX4_passed_48 : decode cX4_passed 48 = .ok (.invokevirtual 50, 3) := by decide +kernel
theorem dX4_passed_51 : decode cX4_passed 51 = .ok (.aload_n 0, 1) := by decide +kernel
theorem dX4_passed_52 : decode cX4_passed 52 = .ok (.iload_n 1, 1) := by decide +kernel
theorem dX4_passed_53 : decode cX4_passed 53 = .ok (.invokevirtual 50, 3) := by decide +kernel
theorem dX4_passed_56 : decode cX4_passed 56 = .ok (.if_icmp .ge 7, 3) := by decide +kernel
theorem dX4_passed_59 : decode cX4_passed 59 = .ok (.iconst 1, 1) := by decide +kernel
theorem dX4_passed_60 : decode cX4_passed 60 = .ok (.goto 4, 3) := by decide +kernel
theorem dX4_passed_63 : decode cX4_passed 63 = .ok (.iconst 0, 1) := by decide +kernel
theorem dX4_passed_64 : decode cX4_passed 64 = .ok (.iadd, 1) := by decide +kernel
theorem dX4_passed_65 : decode cX4_passed 65 = .ok (.istore_n 3, 1) := by decide +kernel
theorem dX4_passed_66 : decode cX4_passed 66 = .ok (.iinc 4 1, 3) := by decide +kernel
theorem dX4_passed_69 : decode cX4_passed 69 = .ok (.goto (-64), 3) := by decide +kernel
theorem dX4_passed_72 : decode cX4_passed 72 = .ok (.iload_n 3, 1) := by decide +kernel
theorem dX4_passed_73 : decode cX4_passed 73 = .ok (.ireturn, 1) := by decide +kernel
set_option maxRecDepth 20000 in
theorem ggX4_ifRead_X4_isKite : GoodIn wsX4_ifRead wsX4_isKite := goodIn_r _ [8, 9, 2, 10, 11, 7, 12, 44, 45, 46, 47, 48, 49, 50, 51, 52, 53, 54, 55, 56, 57, 58, 59] (by decide +kernel) (by decide +kernel)
set_option maxRecDepth 20000 in
theorem gX4_ifRead_X4_isKite : GoodIn wsX4_ifRead (wsV RX4 107 RX4 yX4_isKite wsX4_isKite) := goodIn_app (goodIn_of _ (by decide +kernel)) ggX4_ifRead_X4_isKite
set_option maxRecDepth 20000 in
theorem ggX4_ifRead_X4_in : GoodIn wsX4_ifRead wsX4_in := goodIn_r _ [12] (by decide +kernel) (by decide +kernel)
set_option maxRecDepth 20000 in
theorem gX4_ifRead_X4_in : GoodIn wsX4_ifRead (va_wsS RX4 44 yX4_in wsX4_in) := goodIn_app (goodIn_of _ (by decide +kernel)) ggX4_ifRead_X4_in
set_option maxRecDepth 20000 in
theorem ggX4_ifRead_X4_copy : GoodIn wsX4_ifRead wsX4_copy := goodIn_r _ [15] (by decide +kernel) (by decide +kernel)
set_option maxRecDepth 20000 in
theorem gX4_ifRead_X4_copy : GoodIn wsX4_ifRead (va_wsS RX4 35 yX4_copy wsX4_copy) := goodIn_app (goodIn_of _ (by decide +kernel)) ggX4_ifRead_X4_copy
set_option maxRecDepth 20000 in
theorem ggX4_ifRead_X4_heightOf : GoodIn wsX4_ifRead wsX4_heightOf := goodIn_r _ [19, 2, 44, 45, 46, 47, 48, 49, 50, 51, 52, 53, 54, 55, 56, 57, 58, 59] (by decide +kernel) (by decide +kernel)
set_option maxRecDepth 20000 in
theorem gX4_ifRead_X4_heightOf : GoodIn wsX4_ifRead (wsV RX4 50 RX4 yX4_heightOf wsX4_heightOf) := goodIn_app (goodIn_of _ (by decide +kernel)) ggX4_ifRead_X4_heightOf
set_option maxRecDepth 20000 in
theorem ggX4_ifRead_X4_windNow : GoodIn wsX4_ifRead wsX4_windNow := goodIn_r _ [23, 2, 44, 45, 46, 47, 48, 49, 50, 51, 52, 53, 54, 55, 56, 57, 58, 59] (by decide +kernel) (by decide +kernel)
set_option maxRecDepth 20000 in
theorem gX4_ifRead_X4_windNow : GoodIn wsX4_ifRead (wsV RX4 71 RX4 yX4_windNow wsX4_windNow) := goodIn_app (goodIn_of _ (by decide +kernel)) ggX4_ifRead_X4_windNow
set_option maxRecDepth 20000 in
theorem ggX4_ifRead_X4_rises : GoodIn wsX4_ifRead wsX4_rises := goodIn_r _ [27, 2, 16, 17, 18, 7, 19, 28, 29, 30, 31, 32, 33, 34, 35, 36, 37, 38, 39, 44, 45, 46, 47, 48, 49, 50, 51, 52, 53, 54, 55, 56, 57, 58, 59] (by decide +kernel) (by decide +kernel)
set_option maxRecDepth 20000 in
theorem gX4_ifRead_X4_rises : GoodIn wsX4_ifRead (wsV RX4 75 RX4 yX4_rises wsX4_rises) := goodIn_app (goodIn_of _ (by decide +kernel)) ggX4_ifRead_X4_rises
set_option maxRecDepth 20000 in
theorem ggX4_ifRead_X4_passed : GoodIn wsX4_ifRead wsX4_passed := goodIn_r _ [43, 2, 16, 17, 18, 7, 19, 44, 45, 46, 47, 48, 49, 50, 51, 52, 53, 54, 55, 56, 57, 58, 59] (by decide +kernel) (by decide +kernel)
set_option maxRecDepth 20000 in
theorem gX4_ifRead_X4_passed : GoodIn wsX4_ifRead (wsV RX4 206 RX4 yX4_passed wsX4_passed) := goodIn_app (goodIn_of _ (by decide +kernel)) ggX4_ifRead_X4_passed
theorem dX4_ifRead_0 : decode cX4_ifRead 0 = .ok (.aload_n 0, 1) := by decide +kernel
theorem dX4_ifRead_1 : decode cX4_ifRead 1 = .ok (.iload_n 1, 1) := by decide +kernel
theorem dX4_ifRead_2 : decode cX4_ifRead 2 = .ok (.invokevirtual 107, 3) := by decide +kernel
theorem dX4_ifRead_5 : decode cX4_ifRead 5 = .ok (.ifCond .ne 7, 3) := by decide +kernel
theorem dX4_ifRead_8 : decode cX4_ifRead 8 = .ok (.sipush (-10001), 3) := by decide +kernel
theorem dX4_ifRead_11 : decode cX4_ifRead 11 = .ok (.ireturn, 1) := by decide +kernel
theorem dX4_ifRead_12 : decode cX4_ifRead 12 = .ok (.iload_n 2, 1) := by decide +kernel
theorem dX4_ifRead_13 : decode cX4_ifRead 13 = .ok (.i2l, 1) := by decide +kernel
theorem dX4_ifRead_14 : decode cX4_ifRead 14 = .ok (.lconst 0, 1) := by decide +kernel
theorem dX4_ifRead_15 : decode cX4_ifRead 15 = .ok (.ldc2_w 42, 3) := by decide +kernel
theorem dX4_ifRead_18 : decode cX4_ifRead 18 = .ok (.invokestatic 44, 3) := by decide +kernel
theorem dX4_ifRead_21 : decode cX4_ifRead 21 = .ok (.ifCond .ne 7, 3) := by decide +kernel
theorem dX4_ifRead_24 : decode cX4_ifRead 24 = .ok (.sipush (-10002), 3) := by decide +kernel
theorem dX4_ifRead_27 : decode cX4_ifRead 27 = .ok (.ireturn, 1) := by decide +kernel
theorem dX4_ifRead_28 : decode cX4_ifRead 28 = .ok (.aload_n 0, 1) := by decide +kernel
theorem dX4_ifRead_29 : decode cX4_ifRead 29 = .ok (.getfield 7, 3) := by decide +kernel
theorem dX4_ifRead_32 : decode cX4_ifRead 32 = .ok (.aload_n 0, 1) := by decide +kernel
theorem dX4_ifRead_33 : decode cX4_ifRead 33 = .ok (.getfield 16, 3) := by decide +kernel
theorem dX4_ifRead_36 : decode cX4_ifRead 36 = .ok (.invokestatic 35, 3) := by decide +kernel
theorem dX4_ifRead_39 : decode cX4_ifRead 39 = .ok (.aload_n 0, 1) := by decide +kernel
theorem dX4_ifRead_40 : decode cX4_ifRead 40 = .ok (.iload_n 1, 1) := by decide +kernel
theorem dX4_ifRead_41 : decode cX4_ifRead 41 = .ok (.invokevirtual 50, 3) := by decide +kernel
theorem dX4_ifRead_44 : decode cX4_ifRead 44 = .ok (.istore_n 3, 1) := by decide +kernel
theorem dX4_ifRead_45 : decode cX4_ifRead 45 = .ok (.aload_n 0, 1) := by decide +kernel
theorem dX4_ifRead_46 : decode cX4_ifRead 46 = .ok (.iload_n 1, 1) := by decide +kernel
theorem dX4_ifRead_47 : decode cX4_ifRead 47 = .ok (.aload_n 0, 1) := by decide +kernel
theorem dX4_ifRead_48 : decode cX4_ifRead 48 = .ok (.invokevirtual 71, 3) := by decide +kernel
theorem dX4_ifRead_51 : decode cX4_ifRead 51 = .ok (.invokevirtual 75, 3) := by decide +kernel
theorem dX4_ifRead_54 : decode cX4_ifRead 54 = .ok (.istore 4, 2) := by decide +kernel
theorem dX4_ifRead_56 : decode cX4_ifRead 56 = .ok (.iload_n 2, 1) := by decide +kernel
theorem dX4_ifRead_57 : decode cX4_ifRead 57 = .ok (.ifCond .ne 15, 3) := by decide +kernel
theorem dX4_ifRead_60 : decode cX4_ifRead 60 = .ok (.aload_n 0, 1) := by decide +kernel
theorem dX4_ifRead_61 : decode cX4_ifRead 61 = .ok (.getfield 7, 3) := by decide +kernel
theorem dX4_ifRead_64 : decode cX4_ifRead 64 = .ok (.bipush 18, 2) := by decide +kernel
theorem dX4_ifRead_66 : decode cX4_ifRead 66 = .ok (.iload_n 1, 1) := by decide +kernel
theorem dX4_ifRead_67 : decode cX4_ifRead 67 = .ok (.iadd, 1) := by decide +kernel
theorem dX4_ifRead_68 : decode cX4_ifRead 68 = .ok (.iaload, 1) := by decide +kernel
theorem dX4_ifRead_69 : decode cX4_ifRead 69 = .ok (.goto 49, 3) := by decide +kernel
theorem dX4_ifRead_72 : decode cX4_ifRead 72 = .ok (.iload_n 2, 1) := by decide +kernel
theorem dX4_ifRead_73 : decode cX4_ifRead 73 = .ok (.iconst 1, 1) := by decide +kernel
theorem dX4_ifRead_74 : decode cX4_ifRead 74 = .ok (.if_icmp .ne 11, 3) := by decide +kernel
theorem dX4_ifRead_77 : decode cX4_ifRead 77 = .ok (.aload_n 0, 1) := by decide +kernel
theorem dX4_ifRead_78 : decode cX4_ifRead 78 = .ok (.iload_n 1, 1) := by decide +kernel
theorem dX4_ifRead_79 : decode cX4_ifRead 79 = .ok (.invokevirtual 50, 3) := by decide +kernel
theorem dX4_ifRead_82 : decode cX4_ifRead 82 = .ok (.goto 36, 3) := by decide +kernel
theorem dX4_ifRead_85 : decode cX4_ifRead 85 = .ok (.iload_n 2, 1) := by decide +kernel
theorem dX4_ifRead_86 : decode cX4_ifRead 86 = .ok (.iconst 2, 1) := by decide +kernel
theorem dX4_ifRead_87 : decode cX4_ifRead 87 = .ok (.if_icmp .ne 16, 3) := by decide +kernel
theorem dX4_ifRead_90 : decode cX4_ifRead 90 = .ok (.iload 4, 2) := by decide +kernel
theorem dX4_ifRead_92 : decode cX4_ifRead 92 = .ok (.ifCond .eq 7, 3) := by decide +kernel
theorem dX4_ifRead_95 : decode cX4_ifRead 95 = .ok (.iconst 1, 1) := by decide +kernel
theorem dX4_ifRead_96 : decode cX4_ifRead 96 = .ok (.goto 22, 3) := by decide +kernel
theorem dX4_ifRead_99 : decode cX4_ifRead 99 = .ok (.iconst 0, 1) := by decide +kernel
theorem dX4_ifRead_100 : decode cX4_ifRead 100 = .ok (.goto 18, 3) := by decide +kernel
theorem dX4_ifRead_103 : decode cX4_ifRead 103 = .ok (.iload 4, 2) := by decide +kernel
theorem dX4_ifRead_105 : decode cX4_ifRead 105 = .ok (.ifCond .eq 7, 3) := by decide +kernel
theorem dX4_ifRead_108 : decode cX4_ifRead 108 = .ok (.iconst 0, 1) := by decide +kernel
theorem dX4_ifRead_109 : decode cX4_ifRead 109 = .ok (.goto 9, 3) := by decide +kernel
theorem dX4_ifRead_112 : decode cX4_ifRead 112 = .ok (.aload_n 0, 1) := by decide +kernel
theorem dX4_ifRead_113 : decode cX4_ifRead 113 = .ok (.iload_n 1, 1) := by decide +kernel
theorem dX4_ifRead_114 : decode cX4_ifRead 114 = .ok (.iload_n 3, 1) := by decide +kernel
theorem dX4_ifRead_115 : decode cX4_ifRead 115 = .ok (.invokevirtual 206, 3) := by decide +kernel
theorem dX4_ifRead_118 : decode cX4_ifRead 118 = .ok (.istore 5, 2) := by decide +kernel
theorem dX4_ifRead_120 : decode cX4_ifRead 120 = .ok (.aload_n 0, 1) := by decide +kernel
theorem dX4_ifRead_121 : decode cX4_ifRead 121 = .ok (.getfield 16, 3) := by decide +kernel
theorem dX4_ifRead_124 : decode cX4_ifRead 124 = .ok (.aload_n 0, 1) := by decide +kernel
theorem dX4_ifRead_125 : decode cX4_ifRead 125 = .ok (.getfield 7, 3) := by decide +kernel
theorem dX4_ifRead_128 : decode cX4_ifRead 128 = .ok (.invokestatic 35, 3) := by decide +kernel
theorem dX4_ifRead_131 : decode cX4_ifRead 131 = .ok (.iload 5, 2) := by decide +kernel
theorem dX4_ifRead_133 : decode cX4_ifRead 133 = .ok (.ireturn, 1) := by decide +kernel
set_option maxRecDepth 20000 in
theorem ggX4_readsToCut_X4_isKite : GoodIn wsX4_readsToCut wsX4_isKite := goodIn_r _ [7, 8, 1, 9, 10, 6, 11, 39, 40, 41, 42, 43, 44, 45, 46, 47, 48, 49, 50, 51, 52, 53, 54] (by decide +kernel) (by decide +kernel)
set_option maxRecDepth 20000 in
theorem gX4_readsToCut_X4_isKite : GoodIn wsX4_readsToCut (wsV RX4 107 RX4 yX4_isKite wsX4_isKite) := goodIn_app (goodIn_of _ (by decide +kernel)) ggX4_readsToCut_X4_isKite
set_option maxRecDepth 20000 in
theorem ggX4_readsToCut_X4_copy : GoodIn wsX4_readsToCut wsX4_copy := goodIn_r _ [14] (by decide +kernel) (by decide +kernel)
set_option maxRecDepth 20000 in
theorem gX4_readsToCut_X4_copy : GoodIn wsX4_readsToCut (va_wsS RX4 35 yX4_copy wsX4_copy) := goodIn_app (goodIn_of _ (by decide +kernel)) ggX4_readsToCut_X4_copy
set_option maxRecDepth 20000 in
theorem ggX4_readsToCut_X4_windNow : GoodIn wsX4_readsToCut wsX4_windNow := goodIn_r _ [18, 1, 39, 40, 41, 42, 43, 44, 45, 46, 47, 48, 49, 50, 51, 52, 53, 54] (by decide +kernel) (by decide +kernel)
set_option maxRecDepth 20000 in
theorem gX4_readsToCut_X4_windNow : GoodIn wsX4_readsToCut (wsV RX4 71 RX4 yX4_windNow wsX4_windNow) := goodIn_app (goodIn_of _ (by decide +kernel)) ggX4_readsToCut_X4_windNow
set_option maxRecDepth 20000 in
theorem ggX4_readsToCut_X4_rises : GoodIn wsX4_readsToCut wsX4_rises := goodIn_r _ [22, 1, 23, 24, 25, 6, 26, 27, 28, 29, 30, 31, 32, 33, 34, 35, 36, 37, 38, 39, 40, 41, 42, 43, 44, 45, 46, 47, 48, 49, 50, 51, 52, 53, 54] (by decide +kernel) (by decide +kernel)
set_option maxRecDepth 20000 in
theorem gX4_readsToCut_X4_rises : GoodIn wsX4_readsToCut (wsV RX4 75 RX4 yX4_rises wsX4_rises) := goodIn_app (goodIn_of _ (by decide +kernel)) ggX4_readsToCut_X4_rises
theorem dX4_readsToCut_0 : decode cX4_readsToCut 0 = .ok (.aload_n 0, 1) := by decide +kernel
theorem dX4_readsToCut_1 : decode cX4_readsToCut 1 = .ok (.iload_n 1, 1) := by decide +kernel
theorem dX4_readsToCut_2 : decode cX4_readsToCut 2 = .ok (.invokevirtual 107, 3) := by decide +kernel
theorem dX4_readsToCut_5 : decode cX4_readsToCut 5 = .ok (.ifCond .ne 7, 3) := by decide +kernel
theorem dX4_readsToCut_8 : decode cX4_readsToCut 8 = .ok (.sipush (-10001), 3) := by decide +kernel
theorem dX4_readsToCut_11 : decode cX4_readsToCut 11 = .ok (.ireturn, 1) := by decide +kernel
theorem dX4_readsToCut_12 : decode cX4_readsToCut 12 = .ok (.aload_n 0, 1) := by decide +kernel
theorem dX4_readsToCut_13 : decode cX4_readsToCut 13 = .ok (.getfield 7, 3) := by decide +kernel
theorem dX4_readsToCut_16 : decode cX4_readsToCut 16 = .ok (.aload_n 0, 1) := by decide +kernel
theorem dX4_readsToCut_17 : decode cX4_readsToCut 17 = .ok (.getfield 16, 3) := by decide +kernel
theorem dX4_readsToCut_20 : decode cX4_readsToCut 20 = .ok (.invokestatic 35, 3) := by decide +kernel
theorem dX4_readsToCut_23 : decode cX4_readsToCut 23 = .ok (.iconst 1, 1) := by decide +kernel
theorem dX4_readsToCut_24 : decode cX4_readsToCut 24 = .ok (.istore_n 2, 1) := by decide +kernel
theorem dX4_readsToCut_25 : decode cX4_readsToCut 25 = .ok (.aload_n 0, 1) := by decide +kernel
theorem dX4_readsToCut_26 : decode cX4_readsToCut 26 = .ok (.iload_n 1, 1) := by decide +kernel
theorem dX4_readsToCut_27 : decode cX4_readsToCut 27 = .ok (.aload_n 0, 1) := by decide +kernel
theorem dX4_readsToCut_28 : decode cX4_readsToCut 28 = .ok (.invokevirtual 71, 3) := by decide +kernel
theorem dX4_readsToCut_31 : decode cX4_readsToCut 31 = .ok (.invokevirtual 75, 3) := by decide +kernel
theorem dX4_readsToCut_34 : decode cX4_readsToCut 34 = .ok (.ifCond .ne 15, 3) := by decide +kernel
theorem dX4_readsToCut_37 : decode cX4_readsToCut 37 = .ok (.iload_n 2, 1) := by decide +kernel
theorem dX4_readsToCut_38 : decode cX4_readsToCut 38 = .ok (.bipush 100, 2) := by decide +kernel
theorem dX4_readsToCut_40 : decode cX4_readsToCut 40 = .ok (.if_icmp .ge 9, 3) := by decide +kernel
theorem dX4_readsToCut_43 : decode cX4_readsToCut 43 = .ok (.iinc 2 1, 3) := by decide +kernel
theorem dX4_readsToCut_46 : decode cX4_readsToCut 46 = .ok (.goto (-21), 3) := by decide +kernel
theorem dX4_readsToCut_49 : decode cX4_readsToCut 49 = .ok (.aload_n 0, 1) := by decide +kernel
theorem dX4_readsToCut_50 : decode cX4_readsToCut 50 = .ok (.getfield 16, 3) := by decide +kernel
theorem dX4_readsToCut_53 : decode cX4_readsToCut 53 = .ok (.aload_n 0, 1) := by decide +kernel
theorem dX4_readsToCut_54 : decode cX4_readsToCut 54 = .ok (.getfield 7, 3) := by decide +kernel
theorem dX4_readsToCut_57 : decode cX4_readsToCut 57 = .ok (.invokestatic 35, 3) := by decide +kernel
theorem dX4_readsToCut_60 : decode cX4_readsToCut 60 = .ok (.iload_n 2, 1) := by decide +kernel
theorem dX4_readsToCut_61 : decode cX4_readsToCut 61 = .ok (.ireturn, 1) := by decide +kernel
set_option maxRecDepth 20000 in
theorem ggX4_downIn_X4_isKite : GoodIn wsX4_downIn wsX4_isKite := goodIn_r _ [8, 9, 2, 10, 11, 7, 12, 32, 33, 34, 35, 36, 37, 38, 39, 40, 41, 42, 43, 44, 45, 46, 47] (by decide +kernel) (by decide +kernel)
set_option maxRecDepth 20000 in
theorem gX4_downIn_X4_isKite : GoodIn wsX4_downIn (wsV RX4 107 RX4 yX4_isKite wsX4_isKite) := goodIn_app (goodIn_of _ (by decide +kernel)) ggX4_downIn_X4_isKite
set_option maxRecDepth 20000 in
theorem ggX4_downIn_X4_in : GoodIn wsX4_downIn wsX4_in := goodIn_r _ [12] (by decide +kernel) (by decide +kernel)
set_option maxRecDepth 20000 in
theorem gX4_downIn_X4_in : GoodIn wsX4_downIn (va_wsS RX4 44 yX4_in wsX4_in) := goodIn_app (goodIn_of _ (by decide +kernel)) ggX4_downIn_X4_in
set_option maxRecDepth 20000 in
theorem ggX4_downIn_X4_copy : GoodIn wsX4_downIn wsX4_copy := goodIn_r _ [15] (by decide +kernel) (by decide +kernel)
set_option maxRecDepth 20000 in
theorem gX4_downIn_X4_copy : GoodIn wsX4_downIn (va_wsS RX4 35 yX4_copy wsX4_copy) := goodIn_app (goodIn_of _ (by decide +kernel)) ggX4_downIn_X4_copy
set_option maxRecDepth 20000 in
theorem ggX4_downIn_X4_heightOf : GoodIn wsX4_downIn wsX4_heightOf := goodIn_r _ [19, 2, 32, 33, 34, 35, 36, 37, 38, 39, 40, 41, 42, 43, 44, 45, 46, 47] (by decide +kernel) (by decide +kernel)
set_option maxRecDepth 20000 in
theorem gX4_downIn_X4_heightOf : GoodIn wsX4_downIn (wsV RX4 50 RX4 yX4_heightOf wsX4_heightOf) := goodIn_app (goodIn_of _ (by decide +kernel)) ggX4_downIn_X4_heightOf
set_option maxRecDepth 20000 in
theorem ggX4_downIn_X4_beats : GoodIn wsX4_downIn wsX4_beats := goodIn_r _ [23, 2, 24, 25, 26, 7, 27, 28, 29, 30, 31, 16, 17, 18, 19, 32, 33, 34, 35, 36, 37, 38, 39, 40, 41, 42, 43, 44, 45, 46, 47] (by decide +kernel) (by decide +kernel)
set_option maxRecDepth 20000 in
theorem gX4_downIn_X4_beats : GoodIn wsX4_downIn (wsV RX4 118 RX4 yX4_beats wsX4_beats) := goodIn_app (goodIn_of _ (by decide +kernel)) ggX4_downIn_X4_beats
theorem dX4_downIn_0 : decode cX4_downIn 0 = .ok (.aload_n 0, 1) := by decide +kernel
theorem dX4_downIn_1 : decode cX4_downIn 1 = .ok (.iload_n 1, 1) := by decide +kernel
theorem dX4_downIn_2 : decode cX4_downIn 2 = .ok (.invokevirtual 107, 3) := by decide +kernel
theorem dX4_downIn_5 : decode cX4_downIn 5 = .ok (.ifCond .ne 7, 3) := by decide +kernel
theorem dX4_downIn_8 : decode cX4_downIn 8 = .ok (.sipush (-10001), 3) := by decide +kernel
theorem dX4_downIn_11 : decode cX4_downIn 11 = .ok (.ireturn, 1) := by decide +kernel
theorem dX4_downIn_12 : decode cX4_downIn 12 = .ok (.iload_n 2, 1) := by decide +kernel
theorem dX4_downIn_13 : decode cX4_downIn 13 = .ok (.i2l, 1) := by decide +kernel
theorem dX4_downIn_14 : decode cX4_downIn 14 = .ok (.lconst 0, 1) := by decide +kernel
theorem dX4_downIn_15 : decode cX4_downIn 15 = .ok (.ldc2_w 209, 3) := by decide +kernel
theorem dX4_downIn_18 : decode cX4_downIn 18 = .ok (.invokestatic 44, 3) := by decide +kernel
theorem dX4_downIn_21 : decode cX4_downIn 21 = .ok (.ifCond .ne 7, 3) := by decide +kernel
theorem dX4_downIn_24 : decode cX4_downIn 24 = .ok (.sipush (-10002), 3) := by decide +kernel
theorem dX4_downIn_27 : decode cX4_downIn 27 = .ok (.ireturn, 1) := by decide +kernel
theorem dX4_downIn_28 : decode cX4_downIn 28 = .ok (.aload_n 0, 1) := by decide +kernel
theorem dX4_downIn_29 : decode cX4_downIn 29 = .ok (.getfield 7, 3) := by decide +kernel
theorem dX4_downIn_32 : decode cX4_downIn 32 = .ok (.aload_n 0, 1) := by decide +kernel
theorem dX4_downIn_33 : decode cX4_downIn 33 = .ok (.getfield 16, 3) := by decide +kernel
theorem dX4_downIn_36 : decode cX4_downIn 36 = .ok (.invokestatic 35, 3) := by decide +kernel
theorem dX4_downIn_39 : decode cX4_downIn 39 = .ok (.iconst 0, 1) := by decide +kernel
theorem dX4_downIn_40 : decode cX4_downIn 40 = .ok (.istore_n 3, 1) := by decide +kernel
theorem dX4_downIn_41 : decode cX4_downIn 41 = .ok (.aload_n 0, 1) := by decide +kernel
theorem dX4_downIn_42 : decode cX4_downIn 42 = .ok (.iload_n 1, 1) := by decide +kernel
theorem dX4_downIn_43 : decode cX4_downIn 43 = .ok (.invokevirtual 50, 3) := by decide +kernel
theorem dX4_downIn_46 : decode cX4_downIn 46 = .ok (.iload_n 2, 1) := by decide +kernel
theorem dX4_downIn_47 : decode cX4_downIn 47 = .ok (.if_icmp .le 21, 3) := by decide +kernel
theorem dX4_downIn_50 : decode cX4_downIn 50 = .ok (.iload_n 3, 1) := by decide +kernel
theorem dX4_downIn_51 : decode cX4_downIn 51 = .ok (.sipush 200, 3) := by decide +kernel
theorem dX4_downIn_54 : decode cX4_downIn 54 = .ok (.if_icmp .gt 14, 3) := by decide +kernel
theorem dX4_downIn_57 : decode cX4_downIn 57 = .ok (.aload_n 0, 1) := by decide +kernel
theorem dX4_downIn_58 : decode cX4_downIn 58 = .ok (.iconst 1, 1) := by decide +kernel
theorem dX4_downIn_59 : decode cX4_downIn 59 = .ok (.invokevirtual 118, 3) := by decide +kernel
theorem dX4_downIn_62 : decode cX4_downIn 62 = .ok (.iinc 3 1, 3) := by decide +kernel
theorem dX4_downIn_65 : decode cX4_downIn 65 = .ok (.goto (-24), 3) := by decide +kernel
theorem dX4_downIn_68 : decode cX4_downIn 68 = .ok (.aload_n 0, 1) := by decide +kernel
theorem dX4_downIn_69 : decode cX4_downIn 69 = .ok (.getfield 16, 3) := by decide +kernel
theorem dX4_downIn_72 : decode cX4_downIn 72 = .ok (.aload_n 0, 1) := by decide +kernel
theorem dX4_downIn_73 : decode cX4_downIn 73 = .ok (.getfield 7, 3) := by decide +kernel
theorem dX4_downIn_76 : decode cX4_downIn 76 = .ok (.invokestatic 35, 3) := by decide +kernel
theorem dX4_downIn_79 : decode cX4_downIn 79 = .ok (.iload_n 3, 1) := by decide +kernel
theorem dX4_downIn_80 : decode cX4_downIn 80 = .ok (.sipush 200, 3) := by decide +kernel
theorem dX4_downIn_83 : decode cX4_downIn 83 = .ok (.if_icmp .le 9, 3) := by decide +kernel
theorem dX4_downIn_86 : decode cX4_downIn 86 = .ok (.sipush (-10005), 3) := by decide +kernel
theorem dX4_downIn_89 : decode cX4_downIn 89 = .ok (.goto 4, 3) := by decide +kernel
theorem dX4_downIn_92 : decode cX4_downIn 92 = .ok (.iload_n 3, 1) := by decide +kernel
theorem dX4_downIn_93 : decode cX4_downIn 93 = .ok (.ireturn, 1) := by decide +kernel
set_option maxRecDepth 20000 in
theorem ggX4_isSafe_X4_isKite : GoodIn wsX4_isSafe wsX4_isKite := goodIn_r _ [7, 8, 1, 9, 10, 6, 11, 35, 36, 37, 38, 39, 40, 41, 42, 43, 44, 45, 46, 47, 48, 49, 50] (by decide +kernel) (by decide +kernel)
set_option maxRecDepth 20000 in
theorem gX4_isSafe_X4_isKite : GoodIn wsX4_isSafe (wsV RX4 107 RX4 yX4_isKite wsX4_isKite) := goodIn_app (goodIn_of _ (by decide +kernel)) ggX4_isSafe_X4_isKite
set_option maxRecDepth 20000 in
theorem ggX4_isSafe_X4_copy : GoodIn wsX4_isSafe wsX4_copy := goodIn_r _ [14] (by decide +kernel) (by decide +kernel)
set_option maxRecDepth 20000 in
theorem gX4_isSafe_X4_copy : GoodIn wsX4_isSafe (va_wsS RX4 35 yX4_copy wsX4_copy) := goodIn_app (goodIn_of _ (by decide +kernel)) ggX4_isSafe_X4_copy
set_option maxRecDepth 20000 in
theorem ggX4_isSafe_X4_rises : GoodIn wsX4_isSafe wsX4_rises := goodIn_r _ [18, 1, 19, 20, 21, 6, 22, 23, 24, 25, 26, 27, 28, 29, 30, 31, 32, 33, 34, 35, 36, 37, 38, 39, 40, 41, 42, 43, 44, 45, 46, 47, 48, 49, 50] (by decide +kernel) (by decide +kernel)
set_option maxRecDepth 20000 in
theorem gX4_isSafe_X4_rises : GoodIn wsX4_isSafe (wsV RX4 75 RX4 yX4_rises wsX4_rises) := goodIn_app (goodIn_of _ (by decide +kernel)) ggX4_isSafe_X4_rises
theorem dX4_isSafe_0 : decode cX4_isSafe 0 = .ok (.iconst 1, 1) := by decide +kernel
theorem dX4_isSafe_1 : decode cX4_isSafe 1 = .ok (.istore_n 2, 1) := by decide +kernel
theorem dX4_isSafe_2 : decode cX4_isSafe 2 = .ok (.iconst 0, 1) := by decide +kernel
theorem dX4_isSafe_3 : decode cX4_isSafe 3 = .ok (.istore_n 3, 1) := by decide +kernel
theorem dX4_isSafe_4 : decode cX4_isSafe 4 = .ok (.iload_n 3, 1) := by decide +kernel
theorem dX4_isSafe_5 : decode cX4_isSafe 5 = .ok (.bipush 12, 2) := by decide +kernel
theorem dX4_isSafe_7 : decode cX4_isSafe 7 = .ok (.if_icmp .ge 58, 3) := by decide +kernel
theorem dX4_isSafe_10 : decode cX4_isSafe 10 = .ok (.iload_n 2, 1) := by decide +kernel
theorem dX4_isSafe_11 : decode cX4_isSafe 11 = .ok (.ifCond .eq 54, 3) := by decide +kernel
theorem dX4_isSafe_14 : decode cX4_isSafe 14 = .ok (.aload_n 0, 1) := by decide +kernel
theorem dX4_isSafe_15 : decode cX4_isSafe 15 = .ok (.iload_n 3, 1) := by decide +kernel
theorem dX4_isSafe_16 : decode cX4_isSafe 16 = .ok (.invokevirtual 107, 3) := by decide +kernel
theorem dX4_isSafe_19 : decode cX4_isSafe 19 = .ok (.ifCond .eq 40, 3) := by decide +kernel
theorem dX4_isSafe_22 : decode cX4_isSafe 22 = .ok (.aload_n 0, 1) := by decide +kernel
theorem dX4_isSafe_23 : decode cX4_isSafe 23 = .ok (.getfield 7, 3) := by decide +kernel
theorem dX4_isSafe_26 : decode cX4_isSafe 26 = .ok (.aload_n 0, 1) := by decide +kernel
theorem dX4_isSafe_27 : decode cX4_isSafe 27 = .ok (.getfield 16, 3) := by decide +kernel
theorem dX4_isSafe_30 : decode cX4_isSafe 30 = .ok (.invokestatic 35, 3) := by decide +kernel
theorem dX4_isSafe_33 : decode cX4_isSafe 33 = .ok (.aload_n 0, 1) := by decide +kernel
theorem dX4_isSafe_34 : decode cX4_isSafe 34 = .ok (.iload_n 3, 1) := by decide +kernel
theorem dX4_isSafe_35 : decode cX4_isSafe 35 = .ok (.iload_n 1, 1) := by decide +kernel
theorem dX4_isSafe_36 : decode cX4_isSafe 36 = .ok (.invokevirtual 75, 3) := by decide +kernel
theorem dX4_isSafe_39 : decode cX4_isSafe 39 = .ok (.ifCond .ne 7, 3) := by decide +kernel
theorem dX4_isSafe_42 : decode cX4_isSafe 42 = .ok (.iconst 1, 1) := by decide +kernel
theorem dX4_isSafe_43 : decode cX4_isSafe 43 = .ok (.goto 4, 3) := by decide +kernel
theorem dX4_isSafe_46 : decode cX4_isSafe 46 = .ok (.iconst 0, 1) := by decide +kernel
theorem dX4_isSafe_47 : decode cX4_isSafe 47 = .ok (.istore_n 2, 1) := by decide +kernel
theorem dX4_isSafe_48 : decode cX4_isSafe 48 = .ok (.aload_n 0, 1) := by decide +kernel
theorem dX4_isSafe_49 : decode cX4_isSafe 49 = .ok (.getfield 16, 3) := by decide +kernel
theorem dX4_isSafe_52 : decode cX4_isSafe 52 = .ok (.aload_n 0, 1) := by decide +kernel
theorem dX4_isSafe_53 : decode cX4_isSafe 53 = .ok (.getfield 7, 3) := by decide +kernel
theorem dX4_isSafe_56 : decode cX4_isSafe 56 = .ok (.invokestatic 35, 3) := by decide +kernel
theorem dX4_isSafe_59 : decode cX4_isSafe 59 = .ok (.iinc 3 1, 3) := by decide +kernel
theorem dX4_isSafe_62 : decode cX4_isSafe 62 = .ok (.goto (-58), 3) := by decide +kernel
theorem dX4_isSafe_65 : decode cX4_isSafe 65 = .ok (.iload_n 2, 1) := by decide +kernel
theorem dX4_isSafe_66 : decode cX4_isSafe 66 = .ok (.ireturn, 1) := by decide +kernel
set_option maxRecDepth 20000 in
theorem ggX4_safeWind_X4_isSafe : GoodIn wsX4_safeWind wsX4_isSafe := goodIn_r _ [5, 6, 7, 8, 9, 10, 4, 11, 12, 13, 14, 15, 16, 17, 18, 19, 20, 21, 22, 23, 24, 25, 26, 27, 28, 29, 30, 31, 32, 33, 34, 35, 36, 37, 38, 39, 40, 41, 42, 43, 44, 45, 46, 47, 48, 49, 50, 51, 52, 53, 54] (by decide +kernel) (by decide +kernel)
set_option maxRecDepth 20000 in
theorem gX4_safeWind_X4_isSafe : GoodIn wsX4_safeWind (wsV RX4 211 RX4 yX4_isSafe wsX4_isSafe) := goodIn_app (goodIn_of _ (by decide +kernel)) ggX4_safeWind_X4_isSafe
theorem dX4_safeWind_0 : decode cX4_safeWind 0 = .ok (.bipush 9, 2) := by decide +kernel
theorem dX4_safeWind_2 : decode cX4_safeWind 2 = .ok (.istore_n 1, 1) := by decide +kernel
theorem dX4_safeWind_3 : decode cX4_safeWind 3 = .ok (.iload_n 1, 1) := by decide +kernel
theorem dX4_safeWind_4 : decode cX4_safeWind 4 = .ok (.ifCond .lt 17, 3) := by decide +kernel
theorem dX4_safeWind_7 : decode cX4_safeWind 7 = .ok (.aload_n 0, 1) := by decide +kernel
theorem dX4_safeWind_8 : decode cX4_safeWind 8 = .ok (.iload_n 1, 1) := by decide +kernel
theorem dX4_safeWind_9 : decode cX4_safeWind 9 = .ok (.invokevirtual 211, 3) := by decide +kernel
theorem dX4_safeWind_12 : decode cX4_safeWind 12 = .ok (.ifCond .ne 9, 3) := by decide +kernel
theorem dX4_safeWind_15 : decode cX4_safeWind 15 = .ok (.iinc 1 (-1), 3) := by decide +kernel
theorem dX4_safeWind_18 : decode cX4_safeWind 18 = .ok (.goto (-15), 3) := by decide +kernel
theorem dX4_safeWind_21 : decode cX4_safeWind 21 = .ok (.iload_n 1, 1) := by decide +kernel
theorem dX4_safeWind_22 : decode cX4_safeWind 22 = .ok (.ifCond .ge 9, 3) := by decide +kernel
theorem dX4_safeWind_25 : decode cX4_safeWind 25 = .ok (.sipush (-10005), 3) := by decide +kernel
theorem dX4_safeWind_28 : decode cX4_safeWind 28 = .ok (.goto 4, 3) := by decide +kernel
theorem dX4_safeWind_31 : decode cX4_safeWind 31 = .ok (.iload_n 1, 1) := by decide +kernel
theorem dX4_safeWind_32 : decode cX4_safeWind 32 = .ok (.ireturn, 1) := by decide +kernel
set_option maxRecDepth 20000 in
theorem ggX4_calmest_X4_landing : GoodIn wsX4_calmest wsX4_landing := goodIn_r _ [5, 6, 7, 8, 4, 9, 10, 11, 12, 13, 14, 23, 24, 25, 26, 27, 28, 29, 30, 31, 32, 33, 34, 35, 36, 37, 38] (by decide +kernel) (by decide +kernel)
set_option maxRecDepth 20000 in
theorem gX4_calmest_X4_landing : GoodIn wsX4_calmest (wsV RX4 58 RX4 yX4_landing wsX4_landing) := goodIn_app (goodIn_of _ (by decide +kernel)) ggX4_calmest_X4_landing
set_option maxRecDepth 20000 in
theorem ggX4_calmest_X4_weightsOf : GoodIn wsX4_calmest wsX4_weightsOf := goodIn_r _ [18, 10, 19, 20, 21, 4, 22, 11, 12, 13, 14, 23, 24, 25, 26, 27, 28, 29, 30, 31, 32, 33, 34, 35, 36, 37, 38] (by decide +kernel) (by decide +kernel)
set_option maxRecDepth 20000 in
theorem gX4_calmest_X4_weightsOf : GoodIn wsX4_calmest (wsV RX4 197 RX4 yX4_weightsOf wsX4_weightsOf) := goodIn_app (goodIn_of _ (by decide +kernel)) ggX4_calmest_X4_weightsOf
theorem dX4_calmest_0 : decode cX4_calmest 0 = .ok (.iconst 0, 1) := by decide +kernel
theorem dX4_calmest_1 : decode cX4_calmest 1 = .ok (.istore_n 1, 1) := by decide +kernel
theorem dX4_calmest_2 : decode cX4_calmest 2 = .ok (.iconst 1, 1) := by decide +kernel
theorem dX4_calmest_3 : decode cX4_calmest 3 = .ok (.istore_n 2, 1) := by decide +kernel
theorem dX4_calmest_4 : decode cX4_calmest 4 = .ok (.iload_n 2, 1) := by decide +kernel
theorem dX4_calmest_5 : decode cX4_calmest 5 = .ok (.iconst 4, 1) := by decide +kernel
theorem dX4_calmest_6 : decode cX4_calmest 6 = .ok (.if_icmp .ge 62, 3) := by decide +kernel
theorem dX4_calmest_9 : decode cX4_calmest 9 = .ok (.aload_n 0, 1) := by decide +kernel
theorem dX4_calmest_10 : decode cX4_calmest 10 = .ok (.iload_n 1, 1) := by decide +kernel
theorem dX4_calmest_11 : decode cX4_calmest 11 = .ok (.iconst 0, 1) := by decide +kernel
theorem dX4_calmest_12 : decode cX4_calmest 12 = .ok (.invokevirtual 58, 3) := by decide +kernel
theorem dX4_calmest_15 : decode cX4_calmest 15 = .ok (.aload_n 0, 1) := by decide +kernel
theorem dX4_calmest_16 : decode cX4_calmest 16 = .ok (.iload_n 2, 1) := by decide +kernel
theorem dX4_calmest_17 : decode cX4_calmest 17 = .ok (.iconst 0, 1) := by decide +kernel
theorem dX4_calmest_18 : decode cX4_calmest 18 = .ok (.invokevirtual 58, 3) := by decide +kernel
theorem dX4_calmest_21 : decode cX4_calmest 21 = .ok (.isub, 1) := by decide +kernel
theorem dX4_calmest_22 : decode cX4_calmest 22 = .ok (.istore_n 3, 1) := by decide +kernel
theorem dX4_calmest_23 : decode cX4_calmest 23 = .ok (.iload_n 3, 1) := by decide +kernel
theorem dX4_calmest_24 : decode cX4_calmest 24 = .ok (.ifCond .gt 20, 3) := by decide +kernel
theorem dX4_calmest_27 : decode cX4_calmest 27 = .ok (.iload_n 3, 1) := by decide +kernel
theorem dX4_calmest_28 : decode cX4_calmest 28 = .ok (.ifCond .ne 20, 3) := by decide +kernel
theorem dX4_calmest_31 : decode cX4_calmest 31 = .ok (.aload_n 0, 1) := by decide +kernel
theorem dX4_calmest_32 : decode cX4_calmest 32 = .ok (.iload_n 2, 1) := by decide +kernel
theorem dX4_calmest_33 : decode cX4_calmest 33 = .ok (.invokevirtual 197, 3) := by decide +kernel
theorem dX4_calmest_36 : decode cX4_calmest 36 = .ok (.aload_n 0, 1) := by decide +kernel
theorem dX4_calmest_37 : decode cX4_calmest 37 = .ok (.iload_n 1, 1) := by decide +kernel
theorem dX4_calmest_38 : decode cX4_calmest 38 = .ok (.invokevirtual 197, 3) := by decide +kernel
theorem dX4_calmest_41 : decode cX4_calmest 41 = .ok (.if_icmp .ge 7, 3) := by decide +kernel
theorem dX4_calmest_44 : decode cX4_calmest 44 = .ok (.iconst 1, 1) := by decide +kernel
theorem dX4_calmest_45 : decode cX4_calmest 45 = .ok (.goto 4, 3) := by decide +kernel
theorem dX4_calmest_48 : decode cX4_calmest 48 = .ok (.iconst 0, 1) := by decide +kernel
theorem dX4_calmest_49 : decode cX4_calmest 49 = .ok (.istore 4, 2) := by decide +kernel
theorem dX4_calmest_51 : decode cX4_calmest 51 = .ok (.iload 4, 2) := by decide +kernel
theorem dX4_calmest_53 : decode cX4_calmest 53 = .ok (.ifCond .eq 7, 3) := by decide +kernel
theorem dX4_calmest_56 : decode cX4_calmest 56 = .ok (.iload_n 2, 1) := by decide +kernel
theorem dX4_calmest_57 : decode cX4_calmest 57 = .ok (.goto 4, 3) := by decide +kernel
theorem dX4_calmest_60 : decode cX4_calmest 60 = .ok (.iload_n 1, 1) := by decide +kernel
theorem dX4_calmest_61 : decode cX4_calmest 61 = .ok (.istore_n 1, 1) := by decide +kernel
theorem dX4_calmest_62 : decode cX4_calmest 62 = .ok (.iinc 2 1, 3) := by decide +kernel
theorem dX4_calmest_65 : decode cX4_calmest 65 = .ok (.goto (-61), 3) := by decide +kernel
theorem dX4_calmest_68 : decode cX4_calmest 68 = .ok (.iload_n 1, 1) := by decide +kernel
theorem dX4_calmest_69 : decode cX4_calmest 69 = .ok (.ireturn, 1) := by decide +kernel
set_option maxRecDepth 20000 in
theorem ggX4_freshOnes_X4_isKite : GoodIn wsX4_freshOnes wsX4_isKite := goodIn_r _ [6, 7, 1, 8, 9, 5, 10, 11, 12, 13, 14, 15, 16, 17, 18, 19, 20, 21, 22, 23, 24, 25, 26] (by decide +kernel) (by decide +kernel)
set_option maxRecDepth 20000 in
theorem gX4_freshOnes_X4_isKite : GoodIn wsX4_freshOnes (wsV RX4 107 RX4 yX4_isKite wsX4_isKite) := goodIn_app (goodIn_of _ (by decide +kernel)) ggX4_freshOnes_X4_isKite
theorem dX4_freshOnes_0 : decode cX4_freshOnes 0 = .ok (.iconst 0, 1) := by decide +kernel
theorem dX4_freshOnes_1 : decode cX4_freshOnes 1 = .ok (.istore_n 1, 1) := by decide +kernel
theorem dX4_freshOnes_2 : decode cX4_freshOnes 2 = .ok (.iconst 0, 1) := by decide +kernel
theorem dX4_freshOnes_3 : decode cX4_freshOnes 3 = .ok (.istore_n 2, 1) := by decide +kernel
theorem dX4_freshOnes_4 : decode cX4_freshOnes 4 = .ok (.iload_n 2, 1) := by decide +kernel
theorem dX4_freshOnes_5 : decode cX4_freshOnes 5 = .ok (.bipush 12, 2) := by decide +kernel
theorem dX4_freshOnes_7 : decode cX4_freshOnes 7 = .ok (.if_icmp .ge 33, 3) := by decide +kernel
theorem dX4_freshOnes_10 : decode cX4_freshOnes 10 = .ok (.iload_n 1, 1) := by decide +kernel
theorem dX4_freshOnes_11 : decode cX4_freshOnes 11 = .ok (.aload_n 0, 1) := by decide +kernel
theorem dX4_freshOnes_12 : decode cX4_freshOnes 12 = .ok (.iload_n 2, 1) := by decide +kernel
theorem dX4_freshOnes_13 : decode cX4_freshOnes 13 = .ok (.invokevirtual 107, 3) := by decide +kernel
theorem dX4_freshOnes_16 : decode cX4_freshOnes 16 = .ok (.ifCond .eq 15, 3) := by decide +kernel
theorem dX4_freshOnes_19 : decode cX4_freshOnes 19 = .ok (.aload_n 0, 1) := by decide +kernel
theorem dX4_freshOnes_20 : decode cX4_freshOnes 20 = .ok (.getfield 7, 3) := by decide +kernel
theorem dX4_freshOnes_23 : decode cX4_freshOnes 23 = .ok (.bipush 54, 2) := by decide +kernel
theorem dX4_freshOnes_25 : decode cX4_freshOnes 25 = .ok (.iload_n 2, 1) := by decide +kernel
theorem dX4_freshOnes_26 : decode cX4_freshOnes 26 = .ok (.iadd, 1) := by decide +kernel
theorem dX4_freshOnes_27 : decode cX4_freshOnes 27 = .ok (.iaload, 1) := by decide +kernel
theorem dX4_freshOnes_28 : decode cX4_freshOnes 28 = .ok (.goto 4, 3) := by decide +kernel
theorem dX4_freshOnes_31 : decode cX4_freshOnes 31 = .ok (.iconst 0, 1) := by decide +kernel
theorem dX4_freshOnes_32 : decode cX4_freshOnes 32 = .ok (.iadd, 1) := by decide +kernel
theorem dX4_freshOnes_33 : decode cX4_freshOnes 33 = .ok (.istore_n 1, 1) := by decide +kernel
theorem dX4_freshOnes_34 : decode cX4_freshOnes 34 = .ok (.iinc 2 1, 3) := by decide +kernel
theorem dX4_freshOnes_37 : decode cX4_freshOnes 37 = .ok (.goto (-33), 3) := by decide +kernel
theorem dX4_freshOnes_40 : decode cX4_freshOnes 40 = .ok (.iload_n 1, 1) := by decide +kernel
theorem dX4_freshOnes_41 : decode cX4_freshOnes 41 = .ok (.ireturn, 1) := by decide +kernel
set_option maxRecDepth 20000 in
theorem ggX4_greatestHeight_X4_isKite : GoodIn wsX4_greatestHeight wsX4_isKite := goodIn_r _ [5, 6, 7, 8, 9, 4, 10, 15, 16, 17, 18, 19, 20, 21, 22, 23, 24, 25, 26, 27, 28, 29, 30] (by decide +kernel) (by decide +kernel)
set_option maxRecDepth 20000 in
theorem gX4_greatestHeight_X4_isKite : GoodIn wsX4_greatestHeight (wsV RX4 107 RX4 yX4_isKite wsX4_isKite) := goodIn_app (goodIn_of _ (by decide +kernel)) ggX4_greatestHeight_X4_isKite
set_option maxRecDepth 20000 in
theorem ggX4_greatestHeight_X4_heightOf : GoodIn wsX4_greatestHeight wsX4_heightOf := goodIn_r _ [14, 7, 15, 16, 17, 18, 19, 20, 21, 22, 23, 24, 25, 26, 27, 28, 29, 30] (by decide +kernel) (by decide +kernel)
set_option maxRecDepth 20000 in
theorem gX4_greatestHeight_X4_heightOf : GoodIn wsX4_greatestHeight (wsV RX4 50 RX4 yX4_heightOf wsX4_heightOf) := goodIn_app (goodIn_of _ (by decide +kernel)) ggX4_greatestHeight_X4_heightOf
theorem dX4_greatestHeight_0 : decode cX4_greatestHeight 0 = .ok (.sipush (-10005), 3) := by decide +kernel
theorem dX4_greatestHeight_3 : decode cX4_greatestHeight 3 = .ok (.istore_n 1, 1) := by decide +kernel
theorem dX4_greatestHeight_4 : decode cX4_greatestHeight 4 = .ok (.iconst 0, 1) := by decide +kernel
theorem dX4_greatestHeight_5 : decode cX4_greatestHeight 5 = .ok (.istore_n 2, 1) := by decide +kernel
theorem dX4_greatestHeight_6 : decode cX4_greatestHeight 6 = .ok (.iload_n 2, 1) := by decide +kernel
theorem dX4_greatestHeight_7 : decode cX4_greatestHeight 7 = .ok (.bipush 12, 2) := by decide +kernel
theorem dX4_greatestHeight_9 : decode cX4_greatestHeight 9 = .ok (.if_icmp .ge 43, 3) := by decide +kernel
theorem dX4_greatestHeight_12 : decode cX4_greatestHeight 12 = .ok (.aload_n 0, 1) := by decide +kernel
theorem dX4_greatestHeight_13 : decode cX4_greatestHeight 13 = .ok (.iload_n 2, 1) := by decide +kernel
theorem dX4_greatestHeight_14 : decode cX4_greatestHeight 14 = .ok (.invokevirtual 107, 3) := by decide +kernel
theorem dX4_greatestHeight_17 : decode cX4_greatestHeight 17 = .ok (.ifCond .eq 27, 3) := by decide +kernel
theorem dX4_greatestHeight_20 : decode cX4_greatestHeight 20 = .ok (.iload_n 1, 1) := by decide +kernel
theorem dX4_greatestHeight_21 : decode cX4_greatestHeight 21 = .ok (.sipush (-10005), 3) := by decide +kernel
theorem dX4_greatestHeight_24 : decode cX4_greatestHeight 24 = .ok (.if_icmp .eq 12, 3) := by decide +kernel
theorem dX4_greatestHeight_27 : decode cX4_greatestHeight 27 = .ok (.aload_n 0, 1) := by decide +kernel
theorem dX4_greatestHeight_28 : decode cX4_greatestHeight 28 = .ok (.iload_n 2, 1) := by decide +kernel
theorem dX4_greatestHeight_29 : decode cX4_greatestHeight 29 = .ok (.invokevirtual 50, 3) := by decide +kernel
theorem dX4_greatestHeight_32 : decode cX4_greatestHeight 32 = .ok (.iload_n 1, 1) := by decide +kernel
theorem dX4_greatestHeight_33 : decode cX4_greatestHeight 33 = .ok (.if_icmp .le 11, 3) := by decide +kernel
theorem dX4_greatestHeight_36 : decode cX4_greatestHeight 36 = .ok (.aload_n 0, 1) := by decide +kernel
theorem dX4_greatestHeight_37 : decode cX4_greatestHeight 37 = .ok (.iload_n 2, 1) := by decide +kernel
theorem dX4_greatestHeight_38 : decode cX4_greatestHeight 38 = .ok (.invokevirtual 50, 3) := by decide +kernel
theorem dX4_greatestHeight_41 : decode cX4_greatestHeight 41 = .ok (.goto 4, 3) := by decide +kernel
theorem dX4_greatestHeight_44 : decode cX4_greatestHeight 44 = .ok (.iload_n 1, 1) := by decide +kernel
theorem dX4_greatestHeight_45 : decode cX4_greatestHeight 45 = .ok (.istore_n 1, 1) := by decide +kernel
theorem dX4_greatestHeight_46 : decode cX4_greatestHeight 46 = .ok (.iinc 2 1, 3) := by decide +kernel
theorem dX4_greatestHeight_49 : decode cX4_greatestHeight 49 = .ok (.goto (-43), 3) := by decide +kernel
theorem dX4_greatestHeight_52 : decode cX4_greatestHeight 52 = .ok (.iload_n 1, 1) := by decide +kernel
theorem dX4_greatestHeight_53 : decode cX4_greatestHeight 53 = .ok (.ireturn, 1) := by decide +kernel
set_option maxRecDepth 20000 in
theorem ggX4_allWeights_X4_weightsOf : GoodIn wsX4_allWeights wsX4_weightsOf := goodIn_r _ [5, 6, 7, 8, 9, 4, 10, 11, 12, 13, 14, 15, 16, 17, 18, 19, 20, 21, 22, 23, 24, 25, 26, 27, 28, 29, 30] (by decide +kernel) (by decide +kernel)
set_option maxRecDepth 20000 in
theorem gX4_allWeights_X4_weightsOf : GoodIn wsX4_allWeights (wsV RX4 197 RX4 yX4_weightsOf wsX4_weightsOf) := goodIn_app (goodIn_of _ (by decide +kernel)) ggX4_allWeights_X4_weightsOf
theorem dX4_allWeights_0 : decode cX4_allWeights 0 = .ok (.iconst 0, 1) := by decide +kernel
theorem dX4_allWeights_1 : decode cX4_allWeights 1 = .ok (.istore_n 1, 1) := by decide +kernel
theorem dX4_allWeights_2 : decode cX4_allWeights 2 = .ok (.iconst 0, 1) := by decide +kernel
theorem dX4_allWeights_3 : decode cX4_allWeights 3 = .ok (.istore_n 2, 1) := by decide +kernel
theorem dX4_allWeights_4 : decode cX4_allWeights 4 = .ok (.iload_n 2, 1) := by decide +kernel
theorem dX4_allWeights_5 : decode cX4_allWeights 5 = .ok (.iconst 4, 1) := by decide +kernel
theorem dX4_allWeights_6 : decode cX4_allWeights 6 = .ok (.if_icmp .ge 17, 3) := by decide +kernel
theorem dX4_allWeights_9 : decode cX4_allWeights 9 = .ok (.iload_n 1, 1) := by decide +kernel
theorem dX4_allWeights_10 : decode cX4_allWeights 10 = .ok (.aload_n 0, 1) := by decide +kernel
theorem dX4_allWeights_11 : decode cX4_allWeights 11 = .ok (.iload_n 2, 1) := by decide +kernel
theorem dX4_allWeights_12 : decode cX4_allWeights 12 = .ok (.invokevirtual 197, 3) := by decide +kernel
theorem dX4_allWeights_15 : decode cX4_allWeights 15 = .ok (.iadd, 1) := by decide +kernel
theorem dX4_allWeights_16 : decode cX4_allWeights 16 = .ok (.istore_n 1, 1) := by decide +kernel
theorem dX4_allWeights_17 : decode cX4_allWeights 17 = .ok (.iinc 2 1, 3) := by decide +kernel
theorem dX4_allWeights_20 : decode cX4_allWeights 20 = .ok (.goto (-16), 3) := by decide +kernel
theorem dX4_allWeights_23 : decode cX4_allWeights 23 = .ok (.iload_n 1, 1) := by decide +kernel
theorem dX4_allWeights_24 : decode cX4_allWeights 24 = .ok (.ireturn, 1) := by decide +kernel
set_option maxRecDepth 20000 in
theorem ggX4_count_X4_many : GoodIn wsX4_count wsX4_many := goodIn_r _ [8, 9, 10, 11, 7, 12, 1, 49, 50, 51, 52, 53, 54, 55, 56, 57, 58, 59, 60, 61, 62, 63, 64] (by decide +kernel) (by decide +kernel)
set_option maxRecDepth 20000 in
theorem gX4_count_X4_many : GoodIn wsX4_count (wsV RX4 191 RX4 yX4_many wsX4_many) := goodIn_app (goodIn_of _ (by decide +kernel)) ggX4_count_X4_many
set_option maxRecDepth 20000 in
theorem ggX4_count_X4_windNow : GoodIn wsX4_count wsX4_windNow := goodIn_r _ [16, 1, 49, 50, 51, 52, 53, 54, 55, 56, 57, 58, 59, 60, 61, 62, 63, 64] (by decide +kernel) (by decide +kernel)
set_option maxRecDepth 20000 in
theorem gX4_count_X4_windNow : GoodIn wsX4_count (wsV RX4 71 RX4 yX4_windNow wsX4_windNow) := goodIn_app (goodIn_of _ (by decide +kernel)) ggX4_count_X4_windNow
set_option maxRecDepth 20000 in
theorem ggX4_count_X4_freshOnes : GoodIn wsX4_count wsX4_freshOnes := goodIn_r _ [20, 1, 21, 22, 23, 7, 24, 25, 26, 27, 28, 49, 50, 51, 52, 53, 54, 55, 56, 57, 58, 59, 60, 61, 62, 63, 64] (by decide +kernel) (by decide +kernel)
set_option maxRecDepth 20000 in
theorem gX4_count_X4_freshOnes : GoodIn wsX4_count (wsV RX4 214 RX4 yX4_freshOnes wsX4_freshOnes) := goodIn_app (goodIn_of _ (by decide +kernel)) ggX4_count_X4_freshOnes
set_option maxRecDepth 20000 in
theorem ggX4_count_X4_greatestHeight : GoodIn wsX4_count wsX4_greatestHeight := goodIn_r _ [32, 21, 22, 23, 7, 24, 25, 1, 26, 27, 28, 33, 34, 35, 36, 49, 50, 51, 52, 53, 54, 55, 56, 57, 58, 59, 60, 61, 62, 63, 64] (by decide +kernel) (by decide +kernel)
set_option maxRecDepth 20000 in
theorem gX4_count_X4_greatestHeight : GoodIn wsX4_count (wsV RX4 217 RX4 yX4_greatestHeight wsX4_greatestHeight) := goodIn_app (goodIn_of _ (by decide +kernel)) ggX4_count_X4_greatestHeight
set_option maxRecDepth 20000 in
theorem ggX4_count_X4_allWeights : GoodIn wsX4_count wsX4_allWeights := goodIn_r _ [40, 41, 42, 43, 7, 44, 1, 45, 46, 47, 48, 33, 34, 35, 36, 49, 50, 51, 52, 53, 54, 55, 56, 57, 58, 59, 60, 61, 62, 63, 64] (by decide +kernel) (by decide +kernel)
set_option maxRecDepth 20000 in
theorem gX4_count_X4_allWeights : GoodIn wsX4_count (wsV RX4 220 RX4 yX4_allWeights wsX4_allWeights) := goodIn_app (goodIn_of _ (by decide +kernel)) ggX4_count_X4_allWeights
theorem dX4_count_0 : decode cX4_count 0 = .ok (.iload_n 1, 1) := by decide +kernel
theorem dX4_count_1 : decode cX4_count 1 = .ok (.tableswitch 150 0 12 #[67, 72, 79, 84, 84, 95, 100, 118, 123, 123, 133, 140, 145], 67) := by decide +kernel
theorem dX4_count_68 : decode cX4_count 68 = .ok (.aload_n 0, 1) := by decide +kernel
theorem dX4_count_69 : decode cX4_count 69 = .ok (.invokevirtual 191, 3) := by decide +kernel
theorem dX4_count_72 : decode cX4_count 72 = .ok (.ireturn, 1) := by decide +kernel
theorem dX4_count_73 : decode cX4_count 73 = .ok (.aload_n 0, 1) := by decide +kernel
theorem dX4_count_74 : decode cX4_count 74 = .ok (.getfield 7, 3) := by decide +kernel
theorem dX4_count_77 : decode cX4_count 77 = .ok (.iconst 2, 1) := by decide +kernel
theorem dX4_count_78 : decode cX4_count 78 = .ok (.iaload, 1) := by decide +kernel
theorem dX4_count_79 : decode cX4_count 79 = .ok (.ireturn, 1) := by decide +kernel
theorem dX4_count_80 : decode cX4_count 80 = .ok (.aload_n 0, 1) := by decide +kernel
theorem dX4_count_81 : decode cX4_count 81 = .ok (.invokevirtual 71, 3) := by decide +kernel
theorem dX4_count_84 : decode cX4_count 84 = .ok (.ireturn, 1) := by decide +kernel
theorem dX4_count_85 : decode cX4_count 85 = .ok (.aload_n 0, 1) := by decide +kernel
theorem dX4_count_86 : decode cX4_count 86 = .ok (.getfield 7, 3) := by decide +kernel
theorem dX4_count_89 : decode cX4_count 89 = .ok (.iconst 3, 1) := by decide +kernel
theorem dX4_count_90 : decode cX4_count 90 = .ok (.iload_n 1, 1) := by decide +kernel
theorem dX4_count_91 : decode cX4_count 91 = .ok (.iadd, 1) := by decide +kernel
theorem dX4_count_92 : decode cX4_count 92 = .ok (.iconst 3, 1) := by decide +kernel
theorem dX4_count_93 : decode cX4_count 93 = .ok (.isub, 1) := by decide +kernel
theorem dX4_count_94 : decode cX4_count 94 = .ok (.iaload, 1) := by decide +kernel
theorem dX4_count_95 : decode cX4_count 95 = .ok (.ireturn, 1) := by decide +kernel
theorem dX4_count_96 : decode cX4_count 96 = .ok (.aload_n 0, 1) := by decide +kernel
theorem dX4_count_97 : decode cX4_count 97 = .ok (.invokevirtual 214, 3) := by decide +kernel
theorem dX4_count_100 : decode cX4_count 100 = .ok (.ireturn, 1) := by decide +kernel
theorem dX4_count_101 : decode cX4_count 101 = .ok (.aload_n 0, 1) := by decide +kernel
theorem dX4_count_102 : decode cX4_count 102 = .ok (.invokevirtual 217, 3) := by decide +kernel
theorem dX4_count_105 : decode cX4_count 105 = .ok (.istore_n 2, 1) := by decide +kernel
theorem dX4_count_106 : decode cX4_count 106 = .ok (.iload_n 2, 1) := by decide +kernel
theorem dX4_count_107 : decode cX4_count 107 = .ok (.sipush (-10005), 3) := by decide +kernel
theorem dX4_count_110 : decode cX4_count 110 = .ok (.if_icmp .ne 7, 3) := by decide +kernel
theorem dX4_count_113 : decode cX4_count 113 = .ok (.iconst 0, 1) := by decide +kernel
theorem dX4_count_114 : decode cX4_count 114 = .ok (.goto 4, 3) := by decide +kernel
theorem dX4_count_117 : decode cX4_count 117 = .ok (.iload_n 2, 1) := by decide +kernel
theorem dX4_count_118 : decode cX4_count 118 = .ok (.ireturn, 1) := by decide +kernel
theorem dX4_count_119 : decode cX4_count 119 = .ok (.aload_n 0, 1) := by decide +kernel
theorem dX4_count_120 : decode cX4_count 120 = .ok (.invokevirtual 220, 3) := by decide +kernel
theorem dX4_count_123 : decode cX4_count 123 = .ok (.ireturn, 1) := by decide +kernel
theorem dX4_count_124 : decode cX4_count 124 = .ok (.aload_n 0, 1) := by decide +kernel
theorem dX4_count_125 : decode cX4_count 125 = .ok (.getfield 7, 3) := by decide +kernel
theorem dX4_count_128 : decode cX4_count 128 = .ok (.iload_n 1, 1) := by decide +kernel
theorem dX4_count_129 : decode cX4_count 129 = .ok (.bipush 8, 2) := by decide +kernel
theorem dX4_count_131 : decode cX4_count 131 = .ok (.isub, 1) := by decide +kernel
theorem dX4_count_132 : decode cX4_count 132 = .ok (.iaload, 1) := by decide +kernel
theorem dX4_count_133 : decode cX4_count 133 = .ok (.ireturn, 1) := by decide +kernel
theorem dX4_count_134 : decode cX4_count 134 = .ok (.aload_n 0, 1) := by decide +kernel
theorem dX4_count_135 : decode cX4_count 135 = .ok (.getfield 7, 3) := by decide +kernel
theorem dX4_count_138 : decode cX4_count 138 = .ok (.iconst 5, 1) := by decide +kernel
theorem dX4_count_139 : decode cX4_count 139 = .ok (.iaload, 1) := by decide +kernel
theorem dX4_count_140 : decode cX4_count 140 = .ok (.ireturn, 1) := by decide +kernel
theorem dX4_count_141 : decode cX4_count 141 = .ok (.aload_n 0, 1) := by decide +kernel
theorem dX4_count_142 : decode cX4_count 142 = .ok (.getfield 39, 3) := by decide +kernel
theorem dX4_count_145 : decode cX4_count 145 = .ok (.ireturn, 1) := by decide +kernel
theorem dX4_count_146 : decode cX4_count 146 = .ok (.aload_n 0, 1) := by decide +kernel
theorem dX4_count_147 : decode cX4_count 147 = .ok (.getfield 132, 3) := by decide +kernel
theorem dX4_count_150 : decode cX4_count 150 = .ok (.ireturn, 1) := by decide +kernel
theorem dX4_count_151 : decode cX4_count 151 = .ok (.sipush (-10002), 3) := by decide +kernel
theorem dX4_count_154 : decode cX4_count 154 = .ok (.ireturn, 1) := by decide +kernel
theorem dJ9_floorMod_7cf53_0 : decode cJ9_floorMod_7cf53 0 = .ok (.iload_n 0, 1) := by decide +kernel
theorem dJ9_floorMod_7cf53_1 : decode cJ9_floorMod_7cf53 1 = .ok (.iload_n 1, 1) := by decide +kernel
theorem dJ9_floorMod_7cf53_2 : decode cJ9_floorMod_7cf53 2 = .ok (.irem, 1) := by decide +kernel
theorem dJ9_floorMod_7cf53_3 : decode cJ9_floorMod_7cf53 3 = .ok (.istore_n 2, 1) := by decide +kernel
theorem dJ9_floorMod_7cf53_4 : decode cJ9_floorMod_7cf53 4 = .ok (.iload_n 0, 1) := by decide +kernel
theorem dJ9_floorMod_7cf53_5 : decode cJ9_floorMod_7cf53 5 = .ok (.iload_n 1, 1) := by decide +kernel
theorem dJ9_floorMod_7cf53_6 : decode cJ9_floorMod_7cf53 6 = .ok (.ixor, 1) := by decide +kernel
theorem dJ9_floorMod_7cf53_7 : decode cJ9_floorMod_7cf53 7 = .ok (.ifCond .ge 11, 3) := by decide +kernel
theorem dJ9_floorMod_7cf53_10 : decode cJ9_floorMod_7cf53 10 = .ok (.iload_n 2, 1) := by decide +kernel
theorem dJ9_floorMod_7cf53_11 : decode cJ9_floorMod_7cf53 11 = .ok (.ifCond .eq 7, 3) := by decide +kernel
theorem dJ9_floorMod_7cf53_14 : decode cJ9_floorMod_7cf53 14 = .ok (.iload_n 2, 1) := by decide +kernel
theorem dJ9_floorMod_7cf53_15 : decode cJ9_floorMod_7cf53 15 = .ok (.iload_n 1, 1) := by decide +kernel
theorem dJ9_floorMod_7cf53_16 : decode cJ9_floorMod_7cf53 16 = .ok (.iadd, 1) := by decide +kernel
theorem dJ9_floorMod_7cf53_17 : decode cJ9_floorMod_7cf53 17 = .ok (.ireturn, 1) := by decide +kernel
theorem dJ9_floorMod_7cf53_18 : decode cJ9_floorMod_7cf53 18 = .ok (.iload_n 2, 1) := by decide +kernel
theorem dJ9_floorMod_7cf53_19 : decode cJ9_floorMod_7cf53 19 = .ok (.ireturn, 1) := by decide +kernel
theorem dJ9_max_7cf53_0 : decode cJ9_max_7cf53 0 = .ok (.iload_n 0, 1) := by decide +kernel
theorem dJ9_max_7cf53_1 : decode cJ9_max_7cf53 1 = .ok (.iload_n 1, 1) := by decide +kernel
theorem dJ9_max_7cf53_2 : decode cJ9_max_7cf53 2 = .ok (.if_icmp .lt 7, 3) := by decide +kernel
theorem dJ9_max_7cf53_5 : decode cJ9_max_7cf53 5 = .ok (.iload_n 0, 1) := by decide +kernel
theorem dJ9_max_7cf53_6 : decode cJ9_max_7cf53 6 = .ok (.goto 4, 3) := by decide +kernel
theorem dJ9_max_7cf53_9 : decode cJ9_max_7cf53 9 = .ok (.iload_n 1, 1) := by decide +kernel
theorem dJ9_max_7cf53_10 : decode cJ9_max_7cf53 10 = .ok (.ireturn, 1) := by decide +kernel
theorem dJ9_min_7cf53_0 : decode cJ9_min_7cf53 0 = .ok (.iload_n 0, 1) := by decide +kernel
theorem dJ9_min_7cf53_1 : decode cJ9_min_7cf53 1 = .ok (.iload_n 1, 1) := by decide +kernel
theorem dJ9_min_7cf53_2 : decode cJ9_min_7cf53 2 = .ok (.if_icmp .gt 7, 3) := by decide +kernel
theorem dJ9_min_7cf53_5 : decode cJ9_min_7cf53 5 = .ok (.iload_n 0, 1) := by decide +kernel
theorem dJ9_min_7cf53_6 : decode cJ9_min_7cf53 6 = .ok (.goto 4, 3) := by decide +kernel
theorem dJ9_min_7cf53_9 : decode cJ9_min_7cf53 9 = .ok (.iload_n 1, 1) := by decide +kernel
theorem dJ9_min_7cf53_10 : decode cJ9_min_7cf53 10 = .ok (.ireturn, 1) := by decide +kernel
set_option maxRecDepth 20000 in
theorem ggJ0_length_8abf5_J0_coder_7d493 : GoodIn wsJ0_length_8abf5 wsJ0_coder_7d493 := goodIn_r _ [6, 7, 8] (by decide +kernel) (by decide +kernel)
set_option maxRecDepth 20000 in
theorem gJ0_length_8abf5_J0_coder_7d493 : GoodIn wsJ0_length_8abf5 (wsV RJ0 335 RJ0 yJ0_coder_7d493 wsJ0_coder_7d493) := goodIn_app (goodIn_of _ (by decide +kernel)) ggJ0_length_8abf5_J0_coder_7d493
theorem dJ0_length_8abf5_0 : decode cJ0_length_8abf5 0 = .ok (.aload_n 0, 1) := by decide +kernel
theorem dJ0_length_8abf5_1 : decode cJ0_length_8abf5 1 = .ok (.getfield 9, 3) := by decide +kernel
theorem dJ0_length_8abf5_4 : decode cJ0_length_8abf5 4 = .ok (.arraylength, 1) := by decide +kernel
theorem dJ0_length_8abf5_5 : decode cJ0_length_8abf5 5 = .ok (.aload_n 0, 1) := by decide +kernel
theorem dJ0_length_8abf5_6 : decode cJ0_length_8abf5 6 = .ok (.invokevirtual 335, 3) := by decide +kernel
theorem dJ0_length_8abf5_9 : decode cJ0_length_8abf5 9 = .ok (.ishr, 1) := by decide +kernel
theorem dJ0_length_8abf5_10 : decode cJ0_length_8abf5 10 = .ok (.ireturn, 1) := by decide +kernel
set_option maxRecDepth 20000 in
theorem ggJ0_charAt_5068e_J0_isLatin1_aae02 : GoodIn wsJ0_charAt_5068e wsJ0_isLatin1_aae02 := goodIn_r _ [6, 7, 8] (by decide +kernel) (by decide +kernel)
set_option maxRecDepth 20000 in
theorem gJ0_charAt_5068e_J0_isLatin1_aae02 : GoodIn wsJ0_charAt_5068e (wsV RJ0 492 RJ0 yJ0_isLatin1_aae02 wsJ0_isLatin1_aae02) := goodIn_app (goodIn_of _ (by decide +kernel)) ggJ0_charAt_5068e_J0_isLatin1_aae02
set_option maxRecDepth 20000 in
theorem ggJ0_charAt_5068e_J1_charAt_3b067 : GoodIn wsJ0_charAt_5068e wsJ1_charAt_3b067 := goodIn_r _ [12, 13, 14, 5, 15, 16, 17, 18, 19, 20] (by decide +kernel) (by decide +kernel)
set_option maxRecDepth 20000 in
theorem gJ0_charAt_5068e_J1_charAt_3b067 : GoodIn wsJ0_charAt_5068e (va_wsS RJ0 495 yJ1_charAt_3b067 wsJ1_charAt_3b067) := goodIn_app (goodIn_of _ (by decide +kernel)) ggJ0_charAt_5068e_J1_charAt_3b067
set_option maxRecDepth 20000 in
theorem ggJ0_charAt_5068e_J2_charAt_3b067 : GoodIn wsJ0_charAt_5068e wsJ2_charAt_3b067 := goodIn_r _ [24, 25, 26, 23, 27, 28, 29, 30, 31, 14, 5, 15, 16, 17, 18, 19, 20, 32, 33, 34, 35, 36, 37] (by decide +kernel) (by decide +kernel)
set_option maxRecDepth 20000 in
theorem gJ0_charAt_5068e_J2_charAt_3b067 : GoodIn wsJ0_charAt_5068e (va_wsS RJ0 498 yJ2_charAt_3b067 wsJ2_charAt_3b067) := goodIn_app (goodIn_of _ (by decide +kernel)) ggJ0_charAt_5068e_J2_charAt_3b067
theorem dJ0_charAt_5068e_0 : decode cJ0_charAt_5068e 0 = .ok (.aload_n 0, 1) := by decide +kernel
theorem dJ0_charAt_5068e_1 : decode cJ0_charAt_5068e 1 = .ok (.invokevirtual 492, 3) := by decide +kernel
theorem dJ0_charAt_5068e_4 : decode cJ0_charAt_5068e 4 = .ok (.ifCond .eq 12, 3) := by decide +kernel
theorem dJ0_charAt_5068e_7 : decode cJ0_charAt_5068e 7 = .ok (.aload_n 0, 1) := by decide +kernel
theorem dJ0_charAt_5068e_8 : decode cJ0_charAt_5068e 8 = .ok (.getfield 9, 3) := by decide +kernel
theorem dJ0_charAt_5068e_11 : decode cJ0_charAt_5068e 11 = .ok (.iload_n 1, 1) := by decide +kernel
theorem dJ0_charAt_5068e_12 : decode cJ0_charAt_5068e 12 = .ok (.invokestatic 495, 3) := by decide +kernel
theorem dJ0_charAt_5068e_15 : decode cJ0_charAt_5068e 15 = .ok (.ireturn, 1) := by decide +kernel
theorem dJ0_charAt_5068e_16 : decode cJ0_charAt_5068e 16 = .ok (.aload_n 0, 1) := by decide +kernel
theorem dJ0_charAt_5068e_17 : decode cJ0_charAt_5068e 17 = .ok (.getfield 9, 3) := by decide +kernel
theorem dJ0_charAt_5068e_20 : decode cJ0_charAt_5068e 20 = .ok (.iload_n 1, 1) := by decide +kernel
theorem dJ0_charAt_5068e_21 : decode cJ0_charAt_5068e 21 = .ok (.invokestatic 498, 3) := by decide +kernel
theorem dJ0_charAt_5068e_24 : decode cJ0_charAt_5068e 24 = .ok (.ireturn, 1) := by decide +kernel
theorem dJ0_coder_7d493_0 : decode cJ0_coder_7d493 0 = .ok (.getstatic 38, 3) := by decide +kernel
theorem dJ0_coder_7d493_3 : decode cJ0_coder_7d493 3 = .ok (.ifCond .eq 10, 3) := by decide +kernel
theorem dJ0_coder_7d493_6 : decode cJ0_coder_7d493 6 = .ok (.aload_n 0, 1) := by decide +kernel
theorem dJ0_coder_7d493_7 : decode cJ0_coder_7d493 7 = .ok (.getfield 15, 3) := by decide +kernel
theorem dJ0_coder_7d493_10 : decode cJ0_coder_7d493 10 = .ok (.goto 4, 3) := by decide +kernel
theorem dJ0_coder_7d493_13 : decode cJ0_coder_7d493 13 = .ok (.iconst 1, 1) := by decide +kernel
theorem dJ0_coder_7d493_14 : decode cJ0_coder_7d493 14 = .ok (.ireturn, 1) := by decide +kernel
theorem dJ0_isLatin1_aae02_0 : decode cJ0_isLatin1_aae02 0 = .ok (.getstatic 38, 3) := by decide +kernel
theorem dJ0_isLatin1_aae02_3 : decode cJ0_isLatin1_aae02 3 = .ok (.ifCond .eq 14, 3) := by decide +kernel
theorem dJ0_isLatin1_aae02_6 : decode cJ0_isLatin1_aae02 6 = .ok (.aload_n 0, 1) := by decide +kernel
theorem dJ0_isLatin1_aae02_7 : decode cJ0_isLatin1_aae02 7 = .ok (.getfield 15, 3) := by decide +kernel
theorem dJ0_isLatin1_aae02_10 : decode cJ0_isLatin1_aae02 10 = .ok (.ifCond .ne 7, 3) := by decide +kernel
theorem dJ0_isLatin1_aae02_13 : decode cJ0_isLatin1_aae02 13 = .ok (.iconst 1, 1) := by decide +kernel
theorem dJ0_isLatin1_aae02_14 : decode cJ0_isLatin1_aae02 14 = .ok (.goto 4, 3) := by decide +kernel
theorem dJ0_isLatin1_aae02_17 : decode cJ0_isLatin1_aae02 17 = .ok (.iconst 0, 1) := by decide +kernel
theorem dJ0_isLatin1_aae02_18 : decode cJ0_isLatin1_aae02 18 = .ok (.ireturn, 1) := by decide +kernel
set_option maxRecDepth 20000 in
theorem ggJ0_checkIndex_df160_J3_checkIndex_8e157 : GoodIn wsJ0_checkIndex_df160 wsJ3_checkIndex_8e157 := goodIn_r _ [5] (by decide +kernel) (by decide +kernel)
set_option maxRecDepth 20000 in
theorem gJ0_checkIndex_df160_J3_checkIndex_8e157 : GoodIn wsJ0_checkIndex_df160 (va_wsS RJ0 1059 yJ3_checkIndex_8e157 wsJ3_checkIndex_8e157) := goodIn_app (goodIn_of _ (by decide +kernel)) ggJ0_checkIndex_df160_J3_checkIndex_8e157
theorem dJ0_checkIndex_df160_0 : decode cJ0_checkIndex_df160 0 = .ok (.iload_n 0, 1) := by decide +kernel
theorem dJ0_checkIndex_df160_1 : decode cJ0_checkIndex_df160 1 = .ok (.iload_n 1, 1) := by decide +kernel
theorem dJ0_checkIndex_df160_2 : decode cJ0_checkIndex_df160 2 = .ok (.getstatic 1053, 3) := by decide +kernel
theorem dJ0_checkIndex_df160_5 : decode cJ0_checkIndex_df160 5 = .ok (.invokestatic 1059, 3) := by decide +kernel
theorem dJ0_checkIndex_df160_8 : decode cJ0_checkIndex_df160 8 = .ok (.pop, 1) := by decide +kernel
theorem dJ0_checkIndex_df160_9 : decode cJ0_checkIndex_df160 9 = .ok (.return_, 1) := by decide +kernel
set_option maxRecDepth 20000 in
theorem ggJ1_charAt_3b067_J0_checkIndex_df160 : GoodIn wsJ1_charAt_3b067 wsJ0_checkIndex_df160 := goodIn_r _ [4, 5, 6, 7, 8, 9] (by decide +kernel) (by decide +kernel)
set_option maxRecDepth 20000 in
theorem gJ1_charAt_3b067_J0_checkIndex_df160 : GoodIn wsJ1_charAt_3b067 (va_wsS RJ1 9 yJ0_checkIndex_df160 wsJ0_checkIndex_df160) := goodIn_app (goodIn_of _ (by decide +kernel)) ggJ1_charAt_3b067_J0_checkIndex_df160
theorem dJ1_charAt_3b067_0 : decode cJ1_charAt_3b067 0 = .ok (.iload_n 1, 1) := by decide +kernel
theorem dJ1_charAt_3b067_1 : decode cJ1_charAt_3b067 1 = .ok (.aload_n 0, 1) := by decide +kernel
theorem dJ1_charAt_3b067_2 : decode cJ1_charAt_3b067 2 = .ok (.arraylength, 1) := by decide +kernel
theorem dJ1_charAt_3b067_3 : decode cJ1_charAt_3b067 3 = .ok (.invokestatic 9, 3) := by decide +kernel
theorem dJ1_charAt_3b067_6 : decode cJ1_charAt_3b067 6 = .ok (.aload_n 0, 1) := by decide +kernel
theorem dJ1_charAt_3b067_7 : decode cJ1_charAt_3b067 7 = .ok (.iload_n 1, 1) := by decide +kernel
theorem dJ1_charAt_3b067_8 : decode cJ1_charAt_3b067 8 = .ok (.baload, 1) := by decide +kernel
theorem dJ1_charAt_3b067_9 : decode cJ1_charAt_3b067 9 = .ok (.sipush 255, 3) := by decide +kernel
theorem dJ1_charAt_3b067_12 : decode cJ1_charAt_3b067 12 = .ok (.iand, 1) := by decide +kernel
theorem dJ1_charAt_3b067_13 : decode cJ1_charAt_3b067 13 = .ok (.i2c, 1) := by decide +kernel
theorem dJ1_charAt_3b067_14 : decode cJ1_charAt_3b067 14 = .ok (.ireturn, 1) := by decide +kernel
set_option maxRecDepth 20000 in
theorem ggJ2_getChar_3b067_J2_length_9d52b : GoodIn wsJ2_getChar_3b067 wsJ2_length_9d52b := goodIn_r _ [7] (by decide +kernel) (by decide +kernel)
set_option maxRecDepth 20000 in
theorem gJ2_getChar_3b067_J2_length_9d52b : GoodIn wsJ2_getChar_3b067 (va_wsS RJ2 48 yJ2_length_9d52b wsJ2_length_9d52b) := goodIn_app (goodIn_of _ (by decide +kernel)) ggJ2_getChar_3b067_J2_length_9d52b
