theorem dX0_init_0 : decode cX0_init 0 = .ok (.aload_n 0, 1) := by decide +kernel
theorem dX0_init_1 : decode cX0_init 1 = .ok (.invokespecial 3, 3) := by decide +kernel
theorem dX0_init_4 : decode cX0_init 4 = .ok (.aload_n 0, 1) := by decide +kernel
theorem dX0_init_5 : decode cX0_init 5 = .ok (.iconst 4, 1) := by decide +kernel
theorem dX0_init_6 : decode cX0_init 6 = .ok (.anewarray 9, 3) := by decide +kernel
theorem dX0_init_9 : decode cX0_init 9 = .ok (.putfield 11, 3) := by decide +kernel
theorem dX0_init_12 : decode cX0_init 12 = .ok (.aload_n 0, 1) := by decide +kernel
theorem dX0_init_13 : decode cX0_init 13 = .ok (.iconst 0, 1) := by decide +kernel
theorem dX0_init_14 : decode cX0_init 14 = .ok (.putfield 17, 3) := by decide +kernel
theorem dX0_init_17 : decode cX0_init 17 = .ok (.aload_n 0, 1) := by decide +kernel
theorem dX0_init_18 : decode cX0_init 18 = .ok (.iconst 0, 1) := by decide +kernel
theorem dX0_init_19 : decode cX0_init 19 = .ok (.putfield 21, 3) := by decide +kernel
theorem dX0_init_22 : decode cX0_init 22 = .ok (.iconst 0, 1) := by decide +kernel
theorem dX0_init_23 : decode cX0_init 23 = .ok (.istore_n 1, 1) := by decide +kernel
theorem dX0_init_24 : decode cX0_init 24 = .ok (.iload_n 1, 1) := by decide +kernel
theorem dX0_init_25 : decode cX0_init 25 = .ok (.iconst 4, 1) := by decide +kernel
theorem dX0_init_26 : decode cX0_init 26 = .ok (.if_icmp .ge 22, 3) := by decide +kernel
theorem dX0_init_29 : decode cX0_init 29 = .ok (.aload_n 0, 1) := by decide +kernel
theorem dX0_init_30 : decode cX0_init 30 = .ok (.getfield 11, 3) := by decide +kernel
theorem dX0_init_33 : decode cX0_init 33 = .ok (.iload_n 1, 1) := by decide +kernel
theorem dX0_init_34 : decode cX0_init 34 = .ok (.new 9, 3) := by decide +kernel
theorem dX0_init_37 : decode cX0_init 37 = .ok (.dup, 1) := by decide +kernel
theorem dX0_init_38 : decode cX0_init 38 = .ok (.invokespecial 24, 3) := by decide +kernel
theorem dX0_init_41 : decode cX0_init 41 = .ok (.aastore, 1) := by decide +kernel
theorem dX0_init_42 : decode cX0_init 42 = .ok (.iinc 1 1, 3) := by decide +kernel
theorem dX0_init_45 : decode cX0_init 45 = .ok (.goto (-21), 3) := by decide +kernel
theorem dX0_init_48 : decode cX0_init 48 = .ok (.return_, 1) := by decide +kernel
set_option maxRecDepth 20000 in
theorem ggX0_add_X0_rowAt : GoodIn wsX0_add wsX0_rowAt := goodIn_r _ [11, 12, 29, 30, 31] (by decide +kernel) (by decide +kernel)
set_option maxRecDepth 20000 in
theorem gX0_add_X0_rowAt : GoodIn wsX0_add (wsV RX0 25 RX0 yX0_rowAt wsX0_rowAt) := goodIn_app (goodIn_of _ (by decide +kernel)) ggX0_add_X0_rowAt
set_option maxRecDepth 20000 in
theorem ggX0_add_X2_copyFrom : GoodIn wsX0_add wsX2_copyFrom := goodIn_r _ [16, 17, 18, 19, 20, 21, 22, 23, 24, 25, 26, 27, 28, 32, 33, 34, 35, 36, 37, 38, 39, 40, 41, 42, 43] (by decide +kernel) (by decide +kernel)
set_option maxRecDepth 20000 in
theorem gX0_add_X2_copyFrom_n29 : GoodIn wsX0_add (wsX2_copyFrom) := ggX0_add_X2_copyFrom
theorem dX0_add_0 : decode cX0_add 0 = .ok (.aload_n 0, 1) := by decide +kernel
theorem dX0_add_1 : decode cX0_add 1 = .ok (.aload_n 0, 1) := by decide +kernel
theorem dX0_add_2 : decode cX0_add 2 = .ok (.getfield 17, 3) := by decide +kernel
theorem dX0_add_5 : decode cX0_add 5 = .ok (.invokevirtual 25, 3) := by decide +kernel
theorem dX0_add_8 : decode cX0_add 8 = .ok (.astore_n 2, 1) := by decide +kernel
theorem dX0_add_9 : decode cX0_add 9 = .ok (.aload_n 2, 1) := by decide +kernel
theorem dX0_add_10 : decode cX0_add 10 = .ok (.ifnonnull 4, 3) := by decide +kernel
theorem dX0_add_13 : decode cX0_add 13 = .ok (.return_, 1) := by decide +kernel
theorem dX0_add_14 : decode cX0_add 14 = .ok (.aload_n 2, 1) := by decide +kernel
theorem dX0_add_15 : decode cX0_add 15 = .ok (.aload_n 1, 1) := by decide +kernel
theorem dX0_add_16 : decode cX0_add 16 = .ok (.invokevirtual 29, 3) := by decide +kernel
theorem dX0_add_19 : decode cX0_add 19 = .ok (.aload_n 0, 1) := by decide +kernel
theorem dX0_add_20 : decode cX0_add 20 = .ok (.aload_n 0, 1) := by decide +kernel
theorem dX0_add_21 : decode cX0_add 21 = .ok (.getfield 17, 3) := by decide +kernel
theorem dX0_add_24 : decode cX0_add 24 = .ok (.iconst 1, 1) := by decide +kernel
theorem dX0_add_25 : decode cX0_add 25 = .ok (.iadd, 1) := by decide +kernel
theorem dX0_add_26 : decode cX0_add 26 = .ok (.iconst 4, 1) := by decide +kernel
theorem dX0_add_27 : decode cX0_add 27 = .ok (.irem, 1) := by decide +kernel
theorem dX0_add_28 : decode cX0_add 28 = .ok (.putfield 17, 3) := by decide +kernel
theorem dX0_add_31 : decode cX0_add 31 = .ok (.aload_n 0, 1) := by decide +kernel
theorem dX0_add_32 : decode cX0_add 32 = .ok (.aload_n 0, 1) := by decide +kernel
theorem dX0_add_33 : decode cX0_add 33 = .ok (.getfield 21, 3) := by decide +kernel
theorem dX0_add_36 : decode cX0_add 36 = .ok (.iconst 1, 1) := by decide +kernel
theorem dX0_add_37 : decode cX0_add 37 = .ok (.iadd, 1) := by decide +kernel
theorem dX0_add_38 : decode cX0_add 38 = .ok (.iconst 4, 1) := by decide +kernel
theorem dX0_add_39 : decode cX0_add 39 = .ok (.invokestatic 33, 3) := by decide +kernel
theorem dX0_add_42 : decode cX0_add 42 = .ok (.putfield 21, 3) := by decide +kernel
theorem dX0_add_45 : decode cX0_add 45 = .ok (.return_, 1) := by decide +kernel
theorem dX0_rowAt_0 : decode cX0_rowAt 0 = .ok (.iload_n 1, 1) := by decide +kernel
theorem dX0_rowAt_1 : decode cX0_rowAt 1 = .ok (.ifCond .lt 17, 3) := by decide +kernel
theorem dX0_rowAt_4 : decode cX0_rowAt 4 = .ok (.iload_n 1, 1) := by decide +kernel
theorem dX0_rowAt_5 : decode cX0_rowAt 5 = .ok (.iconst 4, 1) := by decide +kernel
theorem dX0_rowAt_6 : decode cX0_rowAt 6 = .ok (.if_icmp .ge 12, 3) := by decide +kernel
theorem dX0_rowAt_9 : decode cX0_rowAt 9 = .ok (.aload_n 0, 1) := by decide +kernel
theorem dX0_rowAt_10 : decode cX0_rowAt 10 = .ok (.getfield 11, 3) := by decide +kernel
theorem dX0_rowAt_13 : decode cX0_rowAt 13 = .ok (.iload_n 1, 1) := by decide +kernel
theorem dX0_rowAt_14 : decode cX0_rowAt 14 = .ok (.aaload, 1) := by decide +kernel
theorem dX0_rowAt_15 : decode cX0_rowAt 15 = .ok (.goto 4, 3) := by decide +kernel
theorem dX0_rowAt_18 : decode cX0_rowAt 18 = .ok (.aconst_null, 1) := by decide +kernel
theorem dX0_rowAt_19 : decode cX0_rowAt 19 = .ok (.areturn, 1) := by decide +kernel
theorem dX1_init_0 : decode cX1_init 0 = .ok (.aload_n 0, 1) := by decide +kernel
theorem dX1_init_1 : decode cX1_init 1 = .ok (.invokespecial 3, 3) := by decide +kernel
theorem dX1_init_4 : decode cX1_init 4 = .ok (.aload_n 0, 1) := by decide +kernel
theorem dX1_init_5 : decode cX1_init 5 = .ok (.bipush 80, 2) := by decide +kernel
theorem dX1_init_7 : decode cX1_init 7 = .ok (.newarray .char, 2) := by decide +kernel
theorem dX1_init_9 : decode cX1_init 9 = .ok (.putfield 9, 3) := by decide +kernel
theorem dX1_init_12 : decode cX1_init 12 = .ok (.aload_n 0, 1) := by decide +kernel
theorem dX1_init_13 : decode cX1_init 13 = .ok (.iconst 0, 1) := by decide +kernel
theorem dX1_init_14 : decode cX1_init 14 = .ok (.putfield 15, 3) := by decide +kernel
theorem dX1_init_17 : decode cX1_init 17 = .ok (.aload_n 0, 1) := by decide +kernel
theorem dX1_init_18 : decode cX1_init 18 = .ok (.bipush 80, 2) := by decide +kernel
theorem dX1_init_20 : decode cX1_init 20 = .ok (.newarray .int, 2) := by decide +kernel
theorem dX1_init_22 : decode cX1_init 22 = .ok (.putfield 19, 3) := by decide +kernel
theorem dX1_init_25 : decode cX1_init 25 = .ok (.aload_n 0, 1) := by decide +kernel
theorem dX1_init_26 : decode cX1_init 26 = .ok (.bipush 80, 2) := by decide +kernel
theorem dX1_init_28 : decode cX1_init 28 = .ok (.newarray .int, 2) := by decide +kernel
theorem dX1_init_30 : decode cX1_init 30 = .ok (.putfield 23, 3) := by decide +kernel
theorem dX1_init_33 : decode cX1_init 33 = .ok (.aload_n 0, 1) := by decide +kernel
theorem dX1_init_34 : decode cX1_init 34 = .ok (.bipush 80, 2) := by decide +kernel
theorem dX1_init_36 : decode cX1_init 36 = .ok (.newarray .int, 2) := by decide +kernel
theorem dX1_init_38 : decode cX1_init 38 = .ok (.putfield 26, 3) := by decide +kernel
theorem dX1_init_41 : decode cX1_init 41 = .ok (.aload_n 0, 1) := by decide +kernel
theorem dX1_init_42 : decode cX1_init 42 = .ok (.iconst 0, 1) := by decide +kernel
theorem dX1_init_43 : decode cX1_init 43 = .ok (.putfield 29, 3) := by decide +kernel
theorem dX1_init_46 : decode cX1_init 46 = .ok (.aload_n 0, 1) := by decide +kernel
theorem dX1_init_47 : decode cX1_init 47 = .ok (.iconst 0, 1) := by decide +kernel
theorem dX1_init_48 : decode cX1_init 48 = .ok (.putfield 32, 3) := by decide +kernel
theorem dX1_init_51 : decode cX1_init 51 = .ok (.aload_n 0, 1) := by decide +kernel
theorem dX1_init_52 : decode cX1_init 52 = .ok (.iconst 0, 1) := by decide +kernel
theorem dX1_init_53 : decode cX1_init 53 = .ok (.putfield 35, 3) := by decide +kernel
theorem dX1_init_56 : decode cX1_init 56 = .ok (.aload_n 0, 1) := by decide +kernel
theorem dX1_init_57 : decode cX1_init 57 = .ok (.iconst 0, 1) := by decide +kernel
theorem dX1_init_58 : decode cX1_init 58 = .ok (.putfield 38, 3) := by decide +kernel
theorem dX1_init_61 : decode cX1_init 61 = .ok (.return_, 1) := by decide +kernel
theorem dX1_append_0 : decode cX1_append 0 = .ok (.aload_n 0, 1) := by decide +kernel
theorem dX1_append_1 : decode cX1_append 1 = .ok (.getfield 15, 3) := by decide +kernel
theorem dX1_append_4 : decode cX1_append 4 = .ok (.ifCond .lt 12, 3) := by decide +kernel
theorem dX1_append_7 : decode cX1_append 7 = .ok (.aload_n 0, 1) := by decide +kernel
theorem dX1_append_8 : decode cX1_append 8 = .ok (.getfield 15, 3) := by decide +kernel
theorem dX1_append_11 : decode cX1_append 11 = .ok (.bipush 80, 2) := by decide +kernel
theorem dX1_append_13 : decode cX1_append 13 = .ok (.if_icmp .lt 7, 3) := by decide +kernel
theorem dX1_append_16 : decode cX1_append 16 = .ok (.sipush (-10003), 3) := by decide +kernel
theorem dX1_append_19 : decode cX1_append 19 = .ok (.ireturn, 1) := by decide +kernel
theorem dX1_append_20 : decode cX1_append 20 = .ok (.aload_n 0, 1) := by decide +kernel
theorem dX1_append_21 : decode cX1_append 21 = .ok (.getfield 9, 3) := by decide +kernel
theorem dX1_append_24 : decode cX1_append 24 = .ok (.aload_n 0, 1) := by decide +kernel
theorem dX1_append_25 : decode cX1_append 25 = .ok (.getfield 15, 3) := by decide +kernel
theorem dX1_append_28 : decode cX1_append 28 = .ok (.iload_n 1, 1) := by decide +kernel
theorem dX1_append_29 : decode cX1_append 29 = .ok (.castore, 1) := by decide +kernel
theorem dX1_append_30 : decode cX1_append 30 = .ok (.aload_n 0, 1) := by decide +kernel
theorem dX1_append_31 : decode cX1_append 31 = .ok (.dup, 1) := by decide +kernel
theorem dX1_append_32 : decode cX1_append 32 = .ok (.getfield 15, 3) := by decide +kernel
theorem dX1_append_35 : decode cX1_append 35 = .ok (.iconst 1, 1) := by decide +kernel
theorem dX1_append_36 : decode cX1_append 36 = .ok (.iadd, 1) := by decide +kernel
theorem dX1_append_37 : decode cX1_append 37 = .ok (.putfield 15, 3) := by decide +kernel
theorem dX1_append_40 : decode cX1_append 40 = .ok (.aload_n 0, 1) := by decide +kernel
theorem dX1_append_41 : decode cX1_append 41 = .ok (.getfield 15, 3) := by decide +kernel
theorem dX1_append_44 : decode cX1_append 44 = .ok (.ireturn, 1) := by decide +kernel
theorem dX1_empty_0 : decode cX1_empty 0 = .ok (.aload_n 0, 1) := by decide +kernel
theorem dX1_empty_1 : decode cX1_empty 1 = .ok (.getfield 15, 3) := by decide +kernel
theorem dX1_empty_4 : decode cX1_empty 4 = .ok (.istore_n 1, 1) := by decide +kernel
theorem dX1_empty_5 : decode cX1_empty 5 = .ok (.aload_n 0, 1) := by decide +kernel
theorem dX1_empty_6 : decode cX1_empty 6 = .ok (.iconst 0, 1) := by decide +kernel
theorem dX1_empty_7 : decode cX1_empty 7 = .ok (.putfield 15, 3) := by decide +kernel
theorem dX1_empty_10 : decode cX1_empty 10 = .ok (.iload_n 1, 1) := by decide +kernel
theorem dX1_empty_11 : decode cX1_empty 11 = .ok (.ireturn, 1) := by decide +kernel
set_option maxRecDepth 20000 in
theorem ggX1_verbOf_X1_isCommand : GoodIn wsX1_verbOf wsX1_isCommand := goodIn_r _ [6, 7, 8, 9, 10, 11, 12, 13, 14, 15, 16] (by decide +kernel) (by decide +kernel)
set_option maxRecDepth 20000 in
theorem gX1_verbOf_X1_isCommand : GoodIn wsX1_verbOf (wsV RX1 41 RX1 yX1_isCommand wsX1_isCommand) := goodIn_app (goodIn_of _ (by decide +kernel)) ggX1_verbOf_X1_isCommand
theorem dX1_verbOf_0 : decode cX1_verbOf 0 = .ok (.aload_n 0, 1) := by decide +kernel
theorem dX1_verbOf_1 : decode cX1_verbOf 1 = .ok (.iload_n 1, 1) := by decide +kernel
theorem dX1_verbOf_2 : decode cX1_verbOf 2 = .ok (.invokevirtual 41, 3) := by decide +kernel
theorem dX1_verbOf_5 : decode cX1_verbOf 5 = .ok (.ifCond .eq 12, 3) := by decide +kernel
theorem dX1_verbOf_8 : decode cX1_verbOf 8 = .ok (.aload_n 0, 1) := by decide +kernel
theorem dX1_verbOf_9 : decode cX1_verbOf 9 = .ok (.getfield 19, 3) := by decide +kernel
theorem dX1_verbOf_12 : decode cX1_verbOf 12 = .ok (.iload_n 1, 1) := by decide +kernel
theorem dX1_verbOf_13 : decode cX1_verbOf 13 = .ok (.iaload, 1) := by decide +kernel
theorem dX1_verbOf_14 : decode cX1_verbOf 14 = .ok (.goto 6, 3) := by decide +kernel
theorem dX1_verbOf_17 : decode cX1_verbOf 17 = .ok (.sipush (-10005), 3) := by decide +kernel
theorem dX1_verbOf_20 : decode cX1_verbOf 20 = .ok (.ireturn, 1) := by decide +kernel
set_option maxRecDepth 20000 in
theorem ggX1_firstOf_X1_isCommand : GoodIn wsX1_firstOf wsX1_isCommand := goodIn_r _ [6, 7, 8, 9, 10, 11, 12, 13, 14, 15, 16] (by decide +kernel) (by decide +kernel)
set_option maxRecDepth 20000 in
theorem gX1_firstOf_X1_isCommand : GoodIn wsX1_firstOf (wsV RX1 41 RX1 yX1_isCommand wsX1_isCommand) := goodIn_app (goodIn_of _ (by decide +kernel)) ggX1_firstOf_X1_isCommand
theorem dX1_firstOf_0 : decode cX1_firstOf 0 = .ok (.aload_n 0, 1) := by decide +kernel
theorem dX1_firstOf_1 : decode cX1_firstOf 1 = .ok (.iload_n 1, 1) := by decide +kernel
theorem dX1_firstOf_2 : decode cX1_firstOf 2 = .ok (.invokevirtual 41, 3) := by decide +kernel
theorem dX1_firstOf_5 : decode cX1_firstOf 5 = .ok (.ifCond .eq 12, 3) := by decide +kernel
theorem dX1_firstOf_8 : decode cX1_firstOf 8 = .ok (.aload_n 0, 1) := by decide +kernel
theorem dX1_firstOf_9 : decode cX1_firstOf 9 = .ok (.getfield 23, 3) := by decide +kernel
theorem dX1_firstOf_12 : decode cX1_firstOf 12 = .ok (.iload_n 1, 1) := by decide +kernel
theorem dX1_firstOf_13 : decode cX1_firstOf 13 = .ok (.iaload, 1) := by decide +kernel
theorem dX1_firstOf_14 : decode cX1_firstOf 14 = .ok (.goto 6, 3) := by decide +kernel
theorem dX1_firstOf_17 : decode cX1_firstOf 17 = .ok (.sipush (-10005), 3) := by decide +kernel
theorem dX1_firstOf_20 : decode cX1_firstOf 20 = .ok (.ireturn, 1) := by decide +kernel
set_option maxRecDepth 20000 in
theorem ggX1_secondOf_X1_isCommand : GoodIn wsX1_secondOf wsX1_isCommand := goodIn_r _ [6, 7, 8, 9, 10, 11, 12, 13, 14, 15, 16] (by decide +kernel) (by decide +kernel)
set_option maxRecDepth 20000 in
theorem gX1_secondOf_X1_isCommand : GoodIn wsX1_secondOf (wsV RX1 41 RX1 yX1_isCommand wsX1_isCommand) := goodIn_app (goodIn_of _ (by decide +kernel)) ggX1_secondOf_X1_isCommand
theorem dX1_secondOf_0 : decode cX1_secondOf 0 = .ok (.aload_n 0, 1) := by decide +kernel
theorem dX1_secondOf_1 : decode cX1_secondOf 1 = .ok (.iload_n 1, 1) := by decide +kernel
theorem dX1_secondOf_2 : decode cX1_secondOf 2 = .ok (.invokevirtual 41, 3) := by decide +kernel
theorem dX1_secondOf_5 : decode cX1_secondOf 5 = .ok (.ifCond .eq 12, 3) := by decide +kernel
theorem dX1_secondOf_8 : decode cX1_secondOf 8 = .ok (.aload_n 0, 1) := by decide +kernel
theorem dX1_secondOf_9 : decode cX1_secondOf 9 = .ok (.getfield 26, 3) := by decide +kernel
theorem dX1_secondOf_12 : decode cX1_secondOf 12 = .ok (.iload_n 1, 1) := by decide +kernel
theorem dX1_secondOf_13 : decode cX1_secondOf 13 = .ok (.iaload, 1) := by decide +kernel
theorem dX1_secondOf_14 : decode cX1_secondOf 14 = .ok (.goto 6, 3) := by decide +kernel
theorem dX1_secondOf_17 : decode cX1_secondOf 17 = .ok (.sipush (-10005), 3) := by decide +kernel
theorem dX1_secondOf_20 : decode cX1_secondOf 20 = .ok (.ireturn, 1) := by decide +kernel
theorem dX1_isCommand_0 : decode cX1_isCommand 0 = .ok (.iload_n 1, 1) := by decide +kernel
theorem dX1_isCommand_1 : decode cX1_isCommand 1 = .ok (.ifCond .lt 21, 3) := by decide +kernel
theorem dX1_isCommand_4 : decode cX1_isCommand 4 = .ok (.iload_n 1, 1) := by decide +kernel
theorem dX1_isCommand_5 : decode cX1_isCommand 5 = .ok (.aload_n 0, 1) := by decide +kernel
theorem dX1_isCommand_6 : decode cX1_isCommand 6 = .ok (.getfield 29, 3) := by decide +kernel
theorem dX1_isCommand_9 : decode cX1_isCommand 9 = .ok (.if_icmp .ge 13, 3) := by decide +kernel
theorem dX1_isCommand_12 : decode cX1_isCommand 12 = .ok (.iload_n 1, 1) := by decide +kernel
theorem dX1_isCommand_13 : decode cX1_isCommand 13 = .ok (.bipush 80, 2) := by decide +kernel
theorem dX1_isCommand_15 : decode cX1_isCommand 15 = .ok (.if_icmp .ge 7, 3) := by decide +kernel
theorem dX1_isCommand_18 : decode cX1_isCommand 18 = .ok (.iconst 1, 1) := by decide +kernel
theorem dX1_isCommand_19 : decode cX1_isCommand 19 = .ok (.goto 4, 3) := by decide +kernel
theorem dX1_isCommand_22 : decode cX1_isCommand 22 = .ok (.iconst 0, 1) := by decide +kernel
theorem dX1_isCommand_23 : decode cX1_isCommand 23 = .ok (.ireturn, 1) := by decide +kernel
set_option maxRecDepth 20000 in
theorem ggX1_scan_X1_scanCommand : GoodIn wsX1_scan wsX1_scanCommand := goodIn_r _ [7, 2, 8, 9, 10, 11, 12, 13, 14, 15, 6, 16, 1, 17, 18, 19, 20, 21, 22, 23, 24, 25, 26, 27, 28, 29, 30, 31, 32, 33, 34, 35, 36, 37, 38, 39, 40, 41, 42, 43, 44, 45, 46, 47, 48, 49, 50, 51, 52, 53, 54, 55, 56, 57, 58, 59, 60, 61, 62, 63, 64, 65, 66, 67, 68, 69, 70, 71, 72, 73, 74, 75, 76, 77, 78, 79, 80, 81, 82, 83, 84, 85, 86, 87, 88, 89, 90, 91, 92, 93, 94, 95, 96, 97, 98, 99, 100, 101, 102, 103, 104, 105, 106, 107, 108, 109, 110, 111] (by decide +kernel) (by decide +kernel)
set_option maxRecDepth 20000 in
theorem gX1_scan_X1_scanCommand : GoodIn wsX1_scan (wsV RX1 45 RX1 yX1_scanCommand wsX1_scanCommand) := goodIn_app (goodIn_of _ (by decide +kernel)) ggX1_scan_X1_scanCommand
set_option maxRecDepth 20000 in
theorem ggX1_scan_X1_signAt : GoodIn wsX1_scan wsX1_signAt := goodIn_r _ [43, 44, 45, 103, 104, 105, 106, 107, 108, 109, 110, 111] (by decide +kernel) (by decide +kernel)
set_option maxRecDepth 20000 in
theorem gX1_scan_X1_signAt : GoodIn wsX1_scan (wsV RX1 49 RX1 yX1_signAt wsX1_signAt) := goodIn_app (goodIn_of _ (by decide +kernel)) ggX1_scan_X1_signAt
set_option maxRecDepth 20000 in
theorem ggX1_scan_X1_skip : GoodIn wsX1_scan wsX1_skip := goodIn_r _ [94, 1, 40, 41, 42, 6, 43, 44, 45, 103, 104, 105, 106, 107, 108, 109, 110, 111] (by decide +kernel) (by decide +kernel)
set_option maxRecDepth 20000 in
theorem gX1_scan_X1_skip : GoodIn wsX1_scan (wsV RX1 53 RX1 yX1_skip wsX1_skip) := goodIn_app (goodIn_of _ (by decide +kernel)) ggX1_scan_X1_skip
theorem dX1_scan_0 : decode cX1_scan 0 = .ok (.aload_n 0, 1) := by decide +kernel
theorem dX1_scan_1 : decode cX1_scan 1 = .ok (.iconst 0, 1) := by decide +kernel
theorem dX1_scan_2 : decode cX1_scan 2 = .ok (.putfield 32, 3) := by decide +kernel
theorem dX1_scan_5 : decode cX1_scan 5 = .ok (.aload_n 0, 1) := by decide +kernel
theorem dX1_scan_6 : decode cX1_scan 6 = .ok (.iconst 0, 1) := by decide +kernel
theorem dX1_scan_7 : decode cX1_scan 7 = .ok (.putfield 29, 3) := by decide +kernel
theorem dX1_scan_10 : decode cX1_scan 10 = .ok (.iconst 0, 1) := by decide +kernel
theorem dX1_scan_11 : decode cX1_scan 11 = .ok (.istore_n 1, 1) := by decide +kernel
theorem dX1_scan_12 : decode cX1_scan 12 = .ok (.iload_n 1, 1) := by decide +kernel
theorem dX1_scan_13 : decode cX1_scan 13 = .ok (.bipush 80, 2) := by decide +kernel
theorem dX1_scan_15 : decode cX1_scan 15 = .ok (.if_icmp .ge 51, 3) := by decide +kernel
theorem dX1_scan_18 : decode cX1_scan 18 = .ok (.aload_n 0, 1) := by decide +kernel
theorem dX1_scan_19 : decode cX1_scan 19 = .ok (.invokevirtual 45, 3) := by decide +kernel
theorem dX1_scan_22 : decode cX1_scan 22 = .ok (.ifCond .ne 8, 3) := by decide +kernel
theorem dX1_scan_25 : decode cX1_scan 25 = .ok (.aload_n 0, 1) := by decide +kernel
theorem dX1_scan_26 : decode cX1_scan 26 = .ok (.getfield 32, 3) := by decide +kernel
theorem dX1_scan_29 : decode cX1_scan 29 = .ok (.ireturn, 1) := by decide +kernel
theorem dX1_scan_30 : decode cX1_scan 30 = .ok (.aload_n 0, 1) := by decide +kernel
theorem dX1_scan_31 : decode cX1_scan 31 = .ok (.aload_n 0, 1) := by decide +kernel
theorem dX1_scan_32 : decode cX1_scan 32 = .ok (.getfield 32, 3) := by decide +kernel
theorem dX1_scan_35 : decode cX1_scan 35 = .ok (.invokevirtual 49, 3) := by decide +kernel
theorem dX1_scan_38 : decode cX1_scan 38 = .ok (.iconst (-1), 1) := by decide +kernel
theorem dX1_scan_39 : decode cX1_scan 39 = .ok (.if_icmp .ne 7, 3) := by decide +kernel
theorem dX1_scan_42 : decode cX1_scan 42 = .ok (.sipush (-10005), 3) := by decide +kernel
theorem dX1_scan_45 : decode cX1_scan 45 = .ok (.ireturn, 1) := by decide +kernel
theorem dX1_scan_46 : decode cX1_scan 46 = .ok (.aload_n 0, 1) := by decide +kernel
theorem dX1_scan_47 : decode cX1_scan 47 = .ok (.bipush 59, 2) := by decide +kernel
theorem dX1_scan_49 : decode cX1_scan 49 = .ok (.invokevirtual 53, 3) := by decide +kernel
theorem dX1_scan_52 : decode cX1_scan 52 = .ok (.ifCond .ne 8, 3) := by decide +kernel
theorem dX1_scan_55 : decode cX1_scan 55 = .ok (.aload_n 0, 1) := by decide +kernel
theorem dX1_scan_56 : decode cX1_scan 56 = .ok (.getfield 32, 3) := by decide +kernel
theorem dX1_scan_59 : decode cX1_scan 59 = .ok (.ireturn, 1) := by decide +kernel
theorem dX1_scan_60 : decode cX1_scan 60 = .ok (.iinc 1 1, 3) := by decide +kernel
theorem dX1_scan_63 : decode cX1_scan 63 = .ok (.goto (-51), 3) := by decide +kernel
theorem dX1_scan_66 : decode cX1_scan 66 = .ok (.aload_n 0, 1) := by decide +kernel
theorem dX1_scan_67 : decode cX1_scan 67 = .ok (.getfield 32, 3) := by decide +kernel
theorem dX1_scan_70 : decode cX1_scan 70 = .ok (.ireturn, 1) := by decide +kernel
set_option maxRecDepth 20000 in
theorem ggX1_scanCommand_X1_scanWord : GoodIn wsX1_scanCommand wsX1_scanWord := goodIn_r _ [11, 3, 12, 13, 14, 15, 16, 17, 18, 10, 19, 20, 21, 22, 23, 24, 25, 26, 27, 28, 29, 30, 31, 32, 33, 34, 35, 36, 37, 38, 39, 40, 41, 42, 43, 44, 45, 46, 47, 48, 49, 50, 51, 52, 53, 54, 55, 56, 57, 58, 59, 60, 61, 62, 63, 64, 65, 66, 67, 68, 69, 70, 71, 72, 73, 74, 75, 76, 77, 78, 99, 100, 101, 102, 103, 104, 105, 106, 107] (by decide +kernel) (by decide +kernel)
set_option maxRecDepth 20000 in
theorem gX1_scanCommand_X1_scanWord : GoodIn wsX1_scanCommand (wsV RX1 57 RX1 yX1_scanWord wsX1_scanWord) := goodIn_app (goodIn_of _ (by decide +kernel)) ggX1_scanCommand_X1_scanWord
set_option maxRecDepth 20000 in
theorem ggX1_scanCommand_X1_scanFirst : GoodIn wsX1_scanCommand wsX1_scanFirst := goodIn_r _ [82, 3, 83, 84, 85, 10, 86, 12, 5, 87, 88, 89, 90, 36, 37, 38, 39, 40, 41, 91, 92, 93, 94, 99, 100, 101, 102, 103, 104, 105, 106, 107] (by decide +kernel) (by decide +kernel)
set_option maxRecDepth 20000 in
theorem gX1_scanCommand_X1_scanFirst : GoodIn wsX1_scanCommand (wsV RX1 60 RX1 yX1_scanFirst wsX1_scanFirst) := goodIn_app (goodIn_of _ (by decide +kernel)) ggX1_scanCommand_X1_scanFirst
set_option maxRecDepth 20000 in
theorem ggX1_scanCommand_X1_scanSecond : GoodIn wsX1_scanCommand wsX1_scanSecond := goodIn_r _ [98, 3, 83, 84, 85, 10, 86, 12, 5, 87, 88, 89, 90, 36, 37, 38, 39, 40, 41, 91, 92, 93, 94, 99, 100, 101, 102, 103, 104, 105, 106, 107] (by decide +kernel) (by decide +kernel)
set_option maxRecDepth 20000 in
theorem gX1_scanCommand_X1_scanSecond : GoodIn wsX1_scanCommand (wsV RX1 63 RX1 yX1_scanSecond wsX1_scanSecond) := goodIn_app (goodIn_of _ (by decide +kernel)) ggX1_scanCommand_X1_scanSecond
theorem dX1_scanCommand_0 : decode cX1_scanCommand 0 = .ok (.aload_n 0, 1) := by decide +kernel
theorem dX1_scanCommand_1 : decode cX1_scanCommand 1 = .ok (.invokevirtual 57, 3) := by decide +kernel
theorem dX1_scanCommand_4 : decode cX1_scanCommand 4 = .ok (.ifCond .ne 5, 3) := by decide +kernel
theorem dX1_scanCommand_7 : decode cX1_scanCommand 7 = .ok (.iconst 0, 1) := by decide +kernel
theorem dX1_scanCommand_8 : decode cX1_scanCommand 8 = .ok (.ireturn, 1) := by decide +kernel
theorem dX1_scanCommand_9 : decode cX1_scanCommand 9 = .ok (.aload_n 0, 1) := by decide +kernel
theorem dX1_scanCommand_10 : decode cX1_scanCommand 10 = .ok (.getfield 29, 3) := by decide +kernel
theorem dX1_scanCommand_13 : decode cX1_scanCommand 13 = .ok (.istore_n 1, 1) := by decide +kernel
theorem dX1_scanCommand_14 : decode cX1_scanCommand 14 = .ok (.iload_n 1, 1) := by decide +kernel
theorem dX1_scanCommand_15 : decode cX1_scanCommand 15 = .ok (.ifCond .lt 9, 3) := by decide +kernel
theorem dX1_scanCommand_18 : decode cX1_scanCommand 18 = .ok (.iload_n 1, 1) := by decide +kernel
theorem dX1_scanCommand_19 : decode cX1_scanCommand 19 = .ok (.bipush 80, 2) := by decide +kernel
theorem dX1_scanCommand_21 : decode cX1_scanCommand 21 = .ok (.if_icmp .lt 5, 3) := by decide +kernel
theorem dX1_scanCommand_24 : decode cX1_scanCommand 24 = .ok (.iconst 0, 1) := by decide +kernel
theorem dX1_scanCommand_25 : decode cX1_scanCommand 25 = .ok (.ireturn, 1) := by decide +kernel
theorem dX1_scanCommand_26 : decode cX1_scanCommand 26 = .ok (.aload_n 0, 1) := by decide +kernel
theorem dX1_scanCommand_27 : decode cX1_scanCommand 27 = .ok (.getfield 19, 3) := by decide +kernel
theorem dX1_scanCommand_30 : decode cX1_scanCommand 30 = .ok (.iload_n 1, 1) := by decide +kernel
theorem dX1_scanCommand_31 : decode cX1_scanCommand 31 = .ok (.aload_n 0, 1) := by decide +kernel
theorem dX1_scanCommand_32 : decode cX1_scanCommand 32 = .ok (.getfield 35, 3) := by decide +kernel
theorem dX1_scanCommand_35 : decode cX1_scanCommand 35 = .ok (.iastore, 1) := by decide +kernel
theorem dX1_scanCommand_36 : decode cX1_scanCommand 36 = .ok (.aload_n 0, 1) := by decide +kernel
theorem dX1_scanCommand_37 : decode cX1_scanCommand 37 = .ok (.invokevirtual 60, 3) := by decide +kernel
theorem dX1_scanCommand_40 : decode cX1_scanCommand 40 = .ok (.ifCond .ne 5, 3) := by decide +kernel
theorem dX1_scanCommand_43 : decode cX1_scanCommand 43 = .ok (.iconst 0, 1) := by decide +kernel
theorem dX1_scanCommand_44 : decode cX1_scanCommand 44 = .ok (.ireturn, 1) := by decide +kernel
theorem dX1_scanCommand_45 : decode cX1_scanCommand 45 = .ok (.aload_n 0, 1) := by decide +kernel
theorem dX1_scanCommand_46 : decode cX1_scanCommand 46 = .ok (.getfield 23, 3) := by decide +kernel
theorem dX1_scanCommand_49 : decode cX1_scanCommand 49 = .ok (.iload_n 1, 1) := by decide +kernel
theorem dX1_scanCommand_50 : decode cX1_scanCommand 50 = .ok (.aload_n 0, 1) := by decide +kernel
theorem dX1_scanCommand_51 : decode cX1_scanCommand 51 = .ok (.getfield 38, 3) := by decide +kernel
theorem dX1_scanCommand_54 : decode cX1_scanCommand 54 = .ok (.iastore, 1) := by decide +kernel
theorem dX1_scanCommand_55 : decode cX1_scanCommand 55 = .ok (.aload_n 0, 1) := by decide +kernel
theorem dX1_scanCommand_56 : decode cX1_scanCommand 56 = .ok (.getfield 26, 3) := by decide +kernel
theorem dX1_scanCommand_59 : decode cX1_scanCommand 59 = .ok (.iload_n 1, 1) := by decide +kernel
theorem dX1_scanCommand_60 : decode cX1_scanCommand 60 = .ok (.iconst 0, 1) := by decide +kernel
theorem dX1_scanCommand_61 : decode cX1_scanCommand 61 = .ok (.iastore, 1) := by decide +kernel
theorem dX1_scanCommand_62 : decode cX1_scanCommand 62 = .ok (.aload_n 0, 1) := by decide +kernel
theorem dX1_scanCommand_63 : decode cX1_scanCommand 63 = .ok (.getfield 35, 3) := by decide +kernel
theorem dX1_scanCommand_66 : decode cX1_scanCommand 66 = .ok (.iconst 1, 1) := by decide +kernel
theorem dX1_scanCommand_67 : decode cX1_scanCommand 67 = .ok (.if_icmp .eq 30, 3) := by decide +kernel
theorem dX1_scanCommand_70 : decode cX1_scanCommand 70 = .ok (.aload_n 0, 1) := by decide +kernel
theorem dX1_scanCommand_71 : decode cX1_scanCommand 71 = .ok (.getfield 35, 3) := by decide +kernel
theorem dX1_scanCommand_74 : decode cX1_scanCommand 74 = .ok (.iconst 3, 1) := by decide +kernel
theorem dX1_scanCommand_75 : decode cX1_scanCommand 75 = .ok (.if_icmp .eq 22, 3) := by decide +kernel
theorem dX1_scanCommand_78 : decode cX1_scanCommand 78 = .ok (.aload_n 0, 1) := by decide +kernel
theorem dX1_scanCommand_79 : decode cX1_scanCommand 79 = .ok (.invokevirtual 63, 3) := by decide +kernel
theorem dX1_scanCommand_82 : decode cX1_scanCommand 82 = .ok (.ifCond .ne 5, 3) := by decide +kernel
theorem dX1_scanCommand_85 : decode cX1_scanCommand 85 = .ok (.iconst 0, 1) := by decide +kernel
theorem dX1_scanCommand_86 : decode cX1_scanCommand 86 = .ok (.ireturn, 1) := by decide +kernel
theorem dX1_scanCommand_87 : decode cX1_scanCommand 87 = .ok (.aload_n 0, 1) := by decide +kernel
theorem dX1_scanCommand_88 : decode cX1_scanCommand 88 = .ok (.getfield 26, 3) := by decide +kernel
theorem dX1_scanCommand_91 : decode cX1_scanCommand 91 = .ok (.iload_n 1, 1) := by decide +kernel
theorem dX1_scanCommand_92 : decode cX1_scanCommand 92 = .ok (.aload_n 0, 1) := by decide +kernel
theorem dX1_scanCommand_93 : decode cX1_scanCommand 93 = .ok (.getfield 38, 3) := by decide +kernel
theorem dX1_scanCommand_96 : decode cX1_scanCommand 96 = .ok (.iastore, 1) := by decide +kernel
theorem dX1_scanCommand_97 : decode cX1_scanCommand 97 = .ok (.aload_n 0, 1) := by decide +kernel
theorem dX1_scanCommand_98 : decode cX1_scanCommand 98 = .ok (.dup, 1) := by decide +kernel
theorem dX1_scanCommand_99 : decode cX1_scanCommand 99 = .ok (.getfield 29, 3) := by decide +kernel
theorem dX1_scanCommand_102 : decode cX1_scanCommand 102 = .ok (.iconst 1, 1) := by decide +kernel
theorem dX1_scanCommand_103 : decode cX1_scanCommand 103 = .ok (.iadd, 1) := by decide +kernel
theorem dX1_scanCommand_104 : decode cX1_scanCommand 104 = .ok (.putfield 29, 3) := by decide +kernel
theorem dX1_scanCommand_107 : decode cX1_scanCommand 107 = .ok (.iconst 1, 1) := by decide +kernel
theorem dX1_scanCommand_108 : decode cX1_scanCommand 108 = .ok (.ireturn, 1) := by decide +kernel
set_option maxRecDepth 20000 in
theorem ggX1_scanWord_X1_wordOf : GoodIn wsX1_scanWord wsX1_wordOf := goodIn_r _ [10] (by decide +kernel) (by decide +kernel)
set_option maxRecDepth 20000 in
theorem gX1_scanWord_X1_wordOf : GoodIn wsX1_scanWord (va_wsS RX1 66 yX1_wordOf wsX1_wordOf) := goodIn_app (goodIn_of _ (by decide +kernel)) ggX1_scanWord_X1_wordOf
set_option maxRecDepth 20000 in
theorem ggX1_scanWord_X1_charactersAlike : GoodIn wsX1_scanWord wsX1_charactersAlike := goodIn_r _ [14, 2, 15, 16, 17, 18, 19, 20, 21, 22, 23, 24, 25, 26, 27, 28, 29, 9, 30, 31, 32, 33, 34, 35, 36, 37, 38, 39, 40, 41, 42, 43, 44, 45, 46, 47, 48, 49, 50, 51, 52, 53, 54, 55, 56, 57, 58, 59, 60, 61, 62, 63, 64, 65, 66, 67, 68, 69, 70, 71, 72, 73, 74, 75, 76, 77, 78] (by decide +kernel) (by decide +kernel)
set_option maxRecDepth 20000 in
theorem gX1_scanWord_X1_charactersAlike : GoodIn wsX1_scanWord (wsV RX1 70 RX1 yX1_charactersAlike wsX1_charactersAlike) := goodIn_app (goodIn_of _ (by decide +kernel)) ggX1_scanWord_X1_charactersAlike
set_option maxRecDepth 20000 in
theorem ggX1_scanWord_J0_length_8abf5 : GoodIn wsX1_scanWord wsJ0_length_8abf5 := goodIn_r _ [19, 20, 21, 22, 23, 18, 24, 25, 26] (by decide +kernel) (by decide +kernel)
set_option maxRecDepth 20000 in
theorem gX1_scanWord_J0_length_8abf5 : GoodIn wsX1_scanWord (wsV RX1 74 RJ0 yJ0_length_8abf5 wsJ0_length_8abf5) := goodIn_app (goodIn_of _ (by decide +kernel)) ggX1_scanWord_J0_length_8abf5
theorem dX1_scanWord_0 : decode cX1_scanWord 0 = .ok (.iconst 0, 1) := by decide +kernel
theorem dX1_scanWord_1 : decode cX1_scanWord 1 = .ok (.istore_n 1, 1) := by decide +kernel
theorem dX1_scanWord_2 : decode cX1_scanWord 2 = .ok (.iconst 0, 1) := by decide +kernel
theorem dX1_scanWord_3 : decode cX1_scanWord 3 = .ok (.istore_n 2, 1) := by decide +kernel
theorem dX1_scanWord_4 : decode cX1_scanWord 4 = .ok (.iload_n 2, 1) := by decide +kernel
theorem dX1_scanWord_5 : decode cX1_scanWord 5 = .ok (.iconst 5, 1) := by decide +kernel
theorem dX1_scanWord_6 : decode cX1_scanWord 6 = .ok (.if_icmp .ge 55, 3) := by decide +kernel
theorem dX1_scanWord_9 : decode cX1_scanWord 9 = .ok (.iload_n 2, 1) := by decide +kernel
theorem dX1_scanWord_10 : decode cX1_scanWord 10 = .ok (.invokestatic 66, 3) := by decide +kernel
theorem dX1_scanWord_13 : decode cX1_scanWord 13 = .ok (.astore_n 3, 1) := by decide +kernel
theorem dX1_scanWord_14 : decode cX1_scanWord 14 = .ok (.aload_n 0, 1) := by decide +kernel
theorem dX1_scanWord_15 : decode cX1_scanWord 15 = .ok (.aload_n 3, 1) := by decide +kernel
theorem dX1_scanWord_16 : decode cX1_scanWord 16 = .ok (.invokevirtual 70, 3) := by decide +kernel
theorem dX1_scanWord_19 : decode cX1_scanWord 19 = .ok (.istore 4, 2) := by decide +kernel
theorem dX1_scanWord_21 : decode cX1_scanWord 21 = .ok (.iload 4, 2) := by decide +kernel
theorem dX1_scanWord_23 : decode cX1_scanWord 23 = .ok (.aload_n 3, 1) := by decide +kernel
theorem dX1_scanWord_24 : decode cX1_scanWord 24 = .ok (.invokevirtual 74, 3) := by decide +kernel
theorem dX1_scanWord_27 : decode cX1_scanWord 27 = .ok (.if_icmp .ne 21, 3) := by decide +kernel
theorem dX1_scanWord_30 : decode cX1_scanWord 30 = .ok (.aload_n 0, 1) := by decide +kernel
theorem dX1_scanWord_31 : decode cX1_scanWord 31 = .ok (.iload_n 2, 1) := by decide +kernel
theorem dX1_scanWord_32 : decode cX1_scanWord 32 = .ok (.putfield 35, 3) := by decide +kernel
theorem dX1_scanWord_35 : decode cX1_scanWord 35 = .ok (.aload_n 0, 1) := by decide +kernel
theorem dX1_scanWord_36 : decode cX1_scanWord 36 = .ok (.dup, 1) := by decide +kernel
theorem dX1_scanWord_37 : decode cX1_scanWord 37 = .ok (.getfield 32, 3) := by decide +kernel
theorem dX1_scanWord_40 : decode cX1_scanWord 40 = .ok (.iload 4, 2) := by decide +kernel
theorem dX1_scanWord_42 : decode cX1_scanWord 42 = .ok (.iadd, 1) := by decide +kernel
theorem dX1_scanWord_43 : decode cX1_scanWord 43 = .ok (.putfield 32, 3) := by decide +kernel
theorem dX1_scanWord_46 : decode cX1_scanWord 46 = .ok (.iconst 1, 1) := by decide +kernel
theorem dX1_scanWord_47 : decode cX1_scanWord 47 = .ok (.ireturn, 1) := by decide +kernel
theorem dX1_scanWord_48 : decode cX1_scanWord 48 = .ok (.iload_n 1, 1) := by decide +kernel
theorem dX1_scanWord_49 : decode cX1_scanWord 49 = .ok (.iload 4, 2) := by decide +kernel
theorem dX1_scanWord_51 : decode cX1_scanWord 51 = .ok (.invokestatic 79, 3) := by decide +kernel
theorem dX1_scanWord_54 : decode cX1_scanWord 54 = .ok (.istore_n 1, 1) := by decide +kernel
theorem dX1_scanWord_55 : decode cX1_scanWord 55 = .ok (.iinc 2 1, 3) := by decide +kernel
theorem dX1_scanWord_58 : decode cX1_scanWord 58 = .ok (.goto (-54), 3) := by decide +kernel
theorem dX1_scanWord_61 : decode cX1_scanWord 61 = .ok (.aload_n 0, 1) := by decide +kernel
theorem dX1_scanWord_62 : decode cX1_scanWord 62 = .ok (.dup, 1) := by decide +kernel
theorem dX1_scanWord_63 : decode cX1_scanWord 63 = .ok (.getfield 32, 3) := by decide +kernel
theorem dX1_scanWord_66 : decode cX1_scanWord 66 = .ok (.iload_n 1, 1) := by decide +kernel
theorem dX1_scanWord_67 : decode cX1_scanWord 67 = .ok (.iadd, 1) := by decide +kernel
theorem dX1_scanWord_68 : decode cX1_scanWord 68 = .ok (.putfield 32, 3) := by decide +kernel
theorem dX1_scanWord_71 : decode cX1_scanWord 71 = .ok (.iconst 0, 1) := by decide +kernel
theorem dX1_scanWord_72 : decode cX1_scanWord 72 = .ok (.ireturn, 1) := by decide +kernel
set_option maxRecDepth 20000 in
theorem ggX1_charactersAlike_J0_length_8abf5 : GoodIn wsX1_charactersAlike wsJ0_length_8abf5 := goodIn_r _ [6, 7, 8, 9, 10, 5, 11, 12, 13] (by decide +kernel) (by decide +kernel)
set_option maxRecDepth 20000 in
theorem gX1_charactersAlike_J0_length_8abf5 : GoodIn wsX1_charactersAlike (wsV RX1 74 RJ0 yJ0_length_8abf5 wsJ0_length_8abf5) := goodIn_app (goodIn_of _ (by decide +kernel)) ggX1_charactersAlike_J0_length_8abf5
set_option maxRecDepth 20000 in
theorem ggX1_charactersAlike_X1_signAt : GoodIn wsX1_charactersAlike wsX1_signAt := goodIn_r _ [18, 19, 20, 58, 59, 60, 61, 62, 63, 64, 65, 66] (by decide +kernel) (by decide +kernel)
set_option maxRecDepth 20000 in
theorem gX1_charactersAlike_X1_signAt : GoodIn wsX1_charactersAlike (wsV RX1 49 RX1 yX1_signAt wsX1_signAt) := goodIn_app (goodIn_of _ (by decide +kernel)) ggX1_charactersAlike_X1_signAt
set_option maxRecDepth 20000 in
theorem ggX1_charactersAlike_J0_charAt_5068e : GoodIn wsX1_charactersAlike wsJ0_charAt_5068e := goodIn_r _ [24, 7, 25, 26, 27, 5, 28, 12, 13, 29, 30, 31, 32, 33, 34, 35, 36, 37, 38, 39, 40, 41, 42, 43, 44, 45, 46, 47, 48, 49, 50, 51, 52, 53, 54, 55, 56, 57] (by decide +kernel) (by decide +kernel)
set_option maxRecDepth 20000 in
theorem gX1_charactersAlike_J0_charAt_5068e : GoodIn wsX1_charactersAlike (wsV RX1 85 RJ0 yJ0_charAt_5068e wsJ0_charAt_5068e) := goodIn_app (goodIn_of _ (by decide +kernel)) ggX1_charactersAlike_J0_charAt_5068e
theorem dX1_charactersAlike_0 : decode cX1_charactersAlike 0 = .ok (.iconst 0, 1) := by decide +kernel
theorem dX1_charactersAlike_1 : decode cX1_charactersAlike 1 = .ok (.istore_n 2, 1) := by decide +kernel
theorem dX1_charactersAlike_2 : decode cX1_charactersAlike 2 = .ok (.iload_n 2, 1) := by decide +kernel
theorem dX1_charactersAlike_3 : decode cX1_charactersAlike 3 = .ok (.aload_n 1, 1) := by decide +kernel
theorem dX1_charactersAlike_4 : decode cX1_charactersAlike 4 = .ok (.invokevirtual 74, 3) := by decide +kernel
theorem dX1_charactersAlike_7 : decode cX1_charactersAlike 7 = .ok (.if_icmp .ge 27, 3) := by decide +kernel
theorem dX1_charactersAlike_10 : decode cX1_charactersAlike 10 = .ok (.aload_n 0, 1) := by decide +kernel
theorem dX1_charactersAlike_11 : decode cX1_charactersAlike 11 = .ok (.aload_n 0, 1) := by decide +kernel
theorem dX1_charactersAlike_12 : decode cX1_charactersAlike 12 = .ok (.getfield 32, 3) := by decide +kernel
theorem dX1_charactersAlike_15 : decode cX1_charactersAlike 15 = .ok (.iload_n 2, 1) := by decide +kernel
theorem dX1_charactersAlike_16 : decode cX1_charactersAlike 16 = .ok (.iadd, 1) := by decide +kernel
theorem dX1_charactersAlike_17 : decode cX1_charactersAlike 17 = .ok (.invokevirtual 49, 3) := by decide +kernel
theorem dX1_charactersAlike_20 : decode cX1_charactersAlike 20 = .ok (.aload_n 1, 1) := by decide +kernel
theorem dX1_charactersAlike_21 : decode cX1_charactersAlike 21 = .ok (.iload_n 2, 1) := by decide +kernel
theorem dX1_charactersAlike_22 : decode cX1_charactersAlike 22 = .ok (.invokevirtual 85, 3) := by decide +kernel
theorem dX1_charactersAlike_25 : decode cX1_charactersAlike 25 = .ok (.if_icmp .ne 9, 3) := by decide +kernel
theorem dX1_charactersAlike_28 : decode cX1_charactersAlike 28 = .ok (.iinc 2 1, 3) := by decide +kernel
theorem dX1_charactersAlike_31 : decode cX1_charactersAlike 31 = .ok (.goto (-29), 3) := by decide +kernel
theorem dX1_charactersAlike_34 : decode cX1_charactersAlike 34 = .ok (.iload_n 2, 1) := by decide +kernel
theorem dX1_charactersAlike_35 : decode cX1_charactersAlike 35 = .ok (.ireturn, 1) := by decide +kernel
theorem dX1_wordOf_0 : decode cX1_wordOf 0 = .ok (.iload_n 0, 1) := by decide +kernel
theorem dX1_wordOf_1 : decode cX1_wordOf 1 = .ok (.tableswitch 43 0 3 #[31, 34, 37, 40], 31) := by decide +kernel
theorem dX1_wordOf_32 : decode cX1_wordOf 32 = .ok (.ldc 89, 2) := by decide +kernel
theorem dX1_wordOf_34 : decode cX1_wordOf 34 = .ok (.areturn, 1) := by decide +kernel
theorem dX1_wordOf_35 : decode cX1_wordOf 35 = .ok (.ldc 91, 2) := by decide +kernel
theorem dX1_wordOf_37 : decode cX1_wordOf 37 = .ok (.areturn, 1) := by decide +kernel
theorem dX1_wordOf_38 : decode cX1_wordOf 38 = .ok (.ldc 93, 2) := by decide +kernel
theorem dX1_wordOf_40 : decode cX1_wordOf 40 = .ok (.areturn, 1) := by decide +kernel
theorem dX1_wordOf_41 : decode cX1_wordOf 41 = .ok (.ldc 95, 2) := by decide +kernel
theorem dX1_wordOf_43 : decode cX1_wordOf 43 = .ok (.areturn, 1) := by decide +kernel
theorem dX1_wordOf_44 : decode cX1_wordOf 44 = .ok (.ldc 97, 2) := by decide +kernel
theorem dX1_wordOf_46 : decode cX1_wordOf 46 = .ok (.areturn, 1) := by decide +kernel
set_option maxRecDepth 20000 in
theorem ggX1_scanFirst_X1_scanNumber : GoodIn wsX1_scanFirst wsX1_scanNumber := goodIn_r _ [6, 7, 8, 9, 10, 11, 5, 12, 13, 14, 15, 16, 17, 18, 19, 20, 21, 22, 23, 24, 25, 26, 27, 28, 29, 30, 31] (by decide +kernel) (by decide +kernel)
set_option maxRecDepth 20000 in
theorem gX1_scanFirst_X1_scanNumber : GoodIn wsX1_scanFirst (wsV RX1 99 RX1 yX1_scanNumber wsX1_scanNumber) := goodIn_app (goodIn_of _ (by decide +kernel)) ggX1_scanFirst_X1_scanNumber
theorem dX1_scanFirst_0 : decode cX1_scanFirst 0 = .ok (.aload_n 0, 1) := by decide +kernel
theorem dX1_scanFirst_1 : decode cX1_scanFirst 1 = .ok (.getfield 35, 3) := by decide +kernel
theorem dX1_scanFirst_4 : decode cX1_scanFirst 4 = .ok (.tableswitch 59 0 4 #[36, 59, 59, 43, 51], 36) := by decide +kernel
theorem dX1_scanFirst_40 : decode cX1_scanFirst 40 = .ok (.aload_n 0, 1) := by decide +kernel
theorem dX1_scanFirst_41 : decode cX1_scanFirst 41 = .ok (.iconst 0, 1) := by decide +kernel
theorem dX1_scanFirst_42 : decode cX1_scanFirst 42 = .ok (.iconst 3, 1) := by decide +kernel
theorem dX1_scanFirst_43 : decode cX1_scanFirst 43 = .ok (.invokevirtual 99, 3) := by decide +kernel
theorem dX1_scanFirst_46 : decode cX1_scanFirst 46 = .ok (.ireturn, 1) := by decide +kernel
theorem dX1_scanFirst_47 : decode cX1_scanFirst 47 = .ok (.aload_n 0, 1) := by decide +kernel
theorem dX1_scanFirst_48 : decode cX1_scanFirst 48 = .ok (.iconst 1, 1) := by decide +kernel
theorem dX1_scanFirst_49 : decode cX1_scanFirst 49 = .ok (.bipush 20, 2) := by decide +kernel
theorem dX1_scanFirst_51 : decode cX1_scanFirst 51 = .ok (.invokevirtual 99, 3) := by decide +kernel
theorem dX1_scanFirst_54 : decode cX1_scanFirst 54 = .ok (.ireturn, 1) := by decide +kernel
theorem dX1_scanFirst_55 : decode cX1_scanFirst 55 = .ok (.aload_n 0, 1) := by decide +kernel
theorem dX1_scanFirst_56 : decode cX1_scanFirst 56 = .ok (.iconst 0, 1) := by decide +kernel
theorem dX1_scanFirst_57 : decode cX1_scanFirst 57 = .ok (.bipush 7, 2) := by decide +kernel
theorem dX1_scanFirst_59 : decode cX1_scanFirst 59 = .ok (.invokevirtual 99, 3) := by decide +kernel
theorem dX1_scanFirst_62 : decode cX1_scanFirst 62 = .ok (.ireturn, 1) := by decide +kernel
theorem dX1_scanFirst_63 : decode cX1_scanFirst 63 = .ok (.aload_n 0, 1) := by decide +kernel
theorem dX1_scanFirst_64 : decode cX1_scanFirst 64 = .ok (.iconst 0, 1) := by decide +kernel
theorem dX1_scanFirst_65 : decode cX1_scanFirst 65 = .ok (.bipush 11, 2) := by decide +kernel
theorem dX1_scanFirst_67 : decode cX1_scanFirst 67 = .ok (.invokevirtual 99, 3) := by decide +kernel
theorem dX1_scanFirst_70 : decode cX1_scanFirst 70 = .ok (.ireturn, 1) := by decide +kernel
set_option maxRecDepth 20000 in
theorem ggX1_scanSecond_X1_scanNumber : GoodIn wsX1_scanSecond wsX1_scanNumber := goodIn_r _ [6, 7, 8, 9, 10, 11, 5, 12, 13, 14, 15, 16, 17, 18, 19, 20, 21, 22, 23, 24, 25, 26, 27, 28, 29, 30, 31] (by decide +kernel) (by decide +kernel)
set_option maxRecDepth 20000 in
theorem gX1_scanSecond_X1_scanNumber : GoodIn wsX1_scanSecond (wsV RX1 99 RX1 yX1_scanNumber wsX1_scanNumber) := goodIn_app (goodIn_of _ (by decide +kernel)) ggX1_scanSecond_X1_scanNumber
theorem dX1_scanSecond_0 : decode cX1_scanSecond 0 = .ok (.aload_n 0, 1) := by decide +kernel
theorem dX1_scanSecond_1 : decode cX1_scanSecond 1 = .ok (.getfield 35, 3) := by decide +kernel
theorem dX1_scanSecond_4 : decode cX1_scanSecond 4 = .ok (.iconst 4, 1) := by decide +kernel
theorem dX1_scanSecond_5 : decode cX1_scanSecond 5 = .ok (.if_icmp .ne 13, 3) := by decide +kernel
theorem dX1_scanSecond_8 : decode cX1_scanSecond 8 = .ok (.aload_n 0, 1) := by decide +kernel
theorem dX1_scanSecond_9 : decode cX1_scanSecond 9 = .ok (.iconst 0, 1) := by decide +kernel
theorem dX1_scanSecond_10 : decode cX1_scanSecond 10 = .ok (.bipush 9, 2) := by decide +kernel
theorem dX1_scanSecond_12 : decode cX1_scanSecond 12 = .ok (.invokevirtual 99, 3) := by decide +kernel
theorem dX1_scanSecond_15 : decode cX1_scanSecond 15 = .ok (.goto 13, 3) := by decide +kernel
theorem dX1_scanSecond_18 : decode cX1_scanSecond 18 = .ok (.aload_n 0, 1) := by decide +kernel
theorem dX1_scanSecond_19 : decode cX1_scanSecond 19 = .ok (.sipush (-999), 3) := by decide +kernel
theorem dX1_scanSecond_22 : decode cX1_scanSecond 22 = .ok (.sipush 999, 3) := by decide +kernel
theorem dX1_scanSecond_25 : decode cX1_scanSecond 25 = .ok (.invokevirtual 99, 3) := by decide +kernel
theorem dX1_scanSecond_28 : decode cX1_scanSecond 28 = .ok (.ireturn, 1) := by decide +kernel
set_option maxRecDepth 20000 in
theorem ggX1_scanNumber_X1_skip : GoodIn wsX1_scanNumber wsX1_skip := goodIn_r _ [7, 1, 8, 9, 10, 6, 11, 12, 13, 18, 19, 20, 21, 22, 23, 24, 25, 26] (by decide +kernel) (by decide +kernel)
set_option maxRecDepth 20000 in
theorem gX1_scanNumber_X1_skip : GoodIn wsX1_scanNumber (wsV RX1 53 RX1 yX1_skip wsX1_skip) := goodIn_app (goodIn_of _ (by decide +kernel)) ggX1_scanNumber_X1_skip
set_option maxRecDepth 20000 in
theorem ggX1_scanNumber_X1_digitAt : GoodIn wsX1_scanNumber wsX1_digitAt := goodIn_r _ [17, 8, 9, 10, 6, 11, 12, 13, 18, 19, 20, 21, 22, 23, 24, 25, 26] (by decide +kernel) (by decide +kernel)
set_option maxRecDepth 20000 in
theorem gX1_scanNumber_X1_digitAt : GoodIn wsX1_scanNumber (wsV RX1 103 RX1 yX1_digitAt wsX1_digitAt) := goodIn_app (goodIn_of _ (by decide +kernel)) ggX1_scanNumber_X1_digitAt
theorem dX1_scanNumber_0 : decode cX1_scanNumber 0 = .ok (.aload_n 0, 1) := by decide +kernel
theorem dX1_scanNumber_1 : decode cX1_scanNumber 1 = .ok (.bipush 32, 2) := by decide +kernel
theorem dX1_scanNumber_3 : decode cX1_scanNumber 3 = .ok (.invokevirtual 53, 3) := by decide +kernel
theorem dX1_scanNumber_6 : decode cX1_scanNumber 6 = .ok (.ifCond .ne 5, 3) := by decide +kernel
theorem dX1_scanNumber_9 : decode cX1_scanNumber 9 = .ok (.iconst 0, 1) := by decide +kernel
theorem dX1_scanNumber_10 : decode cX1_scanNumber 10 = .ok (.ireturn, 1) := by decide +kernel
theorem dX1_scanNumber_11 : decode cX1_scanNumber 11 = .ok (.iload_n 1, 1) := by decide +kernel
theorem dX1_scanNumber_12 : decode cX1_scanNumber 12 = .ok (.ifCond .ge 16, 3) := by decide +kernel
theorem dX1_scanNumber_15 : decode cX1_scanNumber 15 = .ok (.aload_n 0, 1) := by decide +kernel
theorem dX1_scanNumber_16 : decode cX1_scanNumber 16 = .ok (.bipush 45, 2) := by decide +kernel
theorem dX1_scanNumber_18 : decode cX1_scanNumber 18 = .ok (.invokevirtual 53, 3) := by decide +kernel
theorem dX1_scanNumber_21 : decode cX1_scanNumber 21 = .ok (.ifCond .eq 7, 3) := by decide +kernel
theorem dX1_scanNumber_24 : decode cX1_scanNumber 24 = .ok (.iconst 1, 1) := by decide +kernel
theorem dX1_scanNumber_25 : decode cX1_scanNumber 25 = .ok (.goto 4, 3) := by decide +kernel
theorem dX1_scanNumber_28 : decode cX1_scanNumber 28 = .ok (.iconst 0, 1) := by decide +kernel
theorem dX1_scanNumber_29 : decode cX1_scanNumber 29 = .ok (.istore_n 3, 1) := by decide +kernel
theorem dX1_scanNumber_30 : decode cX1_scanNumber 30 = .ok (.iload_n 3, 1) := by decide +kernel
theorem dX1_scanNumber_31 : decode cX1_scanNumber 31 = .ok (.ifCond .eq 8, 3) := by decide +kernel
theorem dX1_scanNumber_34 : decode cX1_scanNumber 34 = .ok (.iload_n 1, 1) := by decide +kernel
theorem dX1_scanNumber_35 : decode cX1_scanNumber 35 = .ok (.ineg, 1) := by decide +kernel
theorem dX1_scanNumber_36 : decode cX1_scanNumber 36 = .ok (.goto 4, 3) := by decide +kernel
theorem dX1_scanNumber_39 : decode cX1_scanNumber 39 = .ok (.iload_n 2, 1) := by decide +kernel
theorem dX1_scanNumber_40 : decode cX1_scanNumber 40 = .ok (.istore 4, 2) := by decide +kernel
theorem dX1_scanNumber_42 : decode cX1_scanNumber 42 = .ok (.aload_n 0, 1) := by decide +kernel
theorem dX1_scanNumber_43 : decode cX1_scanNumber 43 = .ok (.aload_n 0, 1) := by decide +kernel
theorem dX1_scanNumber_44 : decode cX1_scanNumber 44 = .ok (.getfield 32, 3) := by decide +kernel
theorem dX1_scanNumber_47 : decode cX1_scanNumber 47 = .ok (.invokevirtual 103, 3) := by decide +kernel
theorem dX1_scanNumber_50 : decode cX1_scanNumber 50 = .ok (.istore 5, 2) := by decide +kernel
theorem dX1_scanNumber_52 : decode cX1_scanNumber 52 = .ok (.iload 5, 2) := by decide +kernel
theorem dX1_scanNumber_54 : decode cX1_scanNumber 54 = .ok (.iconst (-1), 1) := by decide +kernel
theorem dX1_scanNumber_55 : decode cX1_scanNumber 55 = .ok (.if_icmp .eq 25, 3) := by decide +kernel
theorem dX1_scanNumber_58 : decode cX1_scanNumber 58 = .ok (.iload 5, 2) := by decide +kernel
theorem dX1_scanNumber_60 : decode cX1_scanNumber 60 = .ok (.iload_n 1, 1) := by decide +kernel
theorem dX1_scanNumber_61 : decode cX1_scanNumber 61 = .ok (.if_icmp .lt 19, 3) := by decide +kernel
theorem dX1_scanNumber_64 : decode cX1_scanNumber 64 = .ok (.iload 5, 2) := by decide +kernel
theorem dX1_scanNumber_66 : decode cX1_scanNumber 66 = .ok (.iload 4, 2) := by decide +kernel
theorem dX1_scanNumber_68 : decode cX1_scanNumber 68 = .ok (.if_icmp .gt 12, 3) := by decide +kernel
theorem dX1_scanNumber_71 : decode cX1_scanNumber 71 = .ok (.iload_n 3, 1) := by decide +kernel
theorem dX1_scanNumber_72 : decode cX1_scanNumber 72 = .ok (.ifCond .eq 10, 3) := by decide +kernel
theorem dX1_scanNumber_75 : decode cX1_scanNumber 75 = .ok (.iload 5, 2) := by decide +kernel
theorem dX1_scanNumber_77 : decode cX1_scanNumber 77 = .ok (.ifCond .ne 5, 3) := by decide +kernel
theorem dX1_scanNumber_80 : decode cX1_scanNumber 80 = .ok (.iconst 0, 1) := by decide +kernel
theorem dX1_scanNumber_81 : decode cX1_scanNumber 81 = .ok (.ireturn, 1) := by decide +kernel
theorem dX1_scanNumber_82 : decode cX1_scanNumber 82 = .ok (.aload_n 0, 1) := by decide +kernel
theorem dX1_scanNumber_83 : decode cX1_scanNumber 83 = .ok (.dup, 1) := by decide +kernel
theorem dX1_scanNumber_84 : decode cX1_scanNumber 84 = .ok (.getfield 32, 3) := by decide +kernel
theorem dX1_scanNumber_87 : decode cX1_scanNumber 87 = .ok (.iconst 1, 1) := by decide +kernel
theorem dX1_scanNumber_88 : decode cX1_scanNumber 88 = .ok (.iadd, 1) := by decide +kernel
theorem dX1_scanNumber_89 : decode cX1_scanNumber 89 = .ok (.putfield 32, 3) := by decide +kernel
theorem dX1_scanNumber_92 : decode cX1_scanNumber 92 = .ok (.iconst 0, 1) := by decide +kernel
theorem dX1_scanNumber_93 : decode cX1_scanNumber 93 = .ok (.istore 6, 2) := by decide +kernel
theorem dX1_scanNumber_95 : decode cX1_scanNumber 95 = .ok (.iload 6, 2) := by decide +kernel
theorem dX1_scanNumber_97 : decode cX1_scanNumber 97 = .ok (.bipush 80, 2) := by decide +kernel
theorem dX1_scanNumber_99 : decode cX1_scanNumber 99 = .ok (.if_icmp .ge 66, 3) := by decide +kernel
theorem dX1_scanNumber_102 : decode cX1_scanNumber 102 = .ok (.iload 5, 2) := by decide +kernel
theorem dX1_scanNumber_104 : decode cX1_scanNumber 104 = .ok (.ifCond .eq 61, 3) := by decide +kernel
theorem dX1_scanNumber_107 : decode cX1_scanNumber 107 = .ok (.aload_n 0, 1) := by decide +kernel
theorem dX1_scanNumber_108 : decode cX1_scanNumber 108 = .ok (.aload_n 0, 1) := by decide +kernel
theorem dX1_scanNumber_109 : decode cX1_scanNumber 109 = .ok (.getfield 32, 3) := by decide +kernel
theorem dX1_scanNumber_112 : decode cX1_scanNumber 112 = .ok (.invokevirtual 103, 3) := by decide +kernel
theorem dX1_scanNumber_115 : decode cX1_scanNumber 115 = .ok (.istore 7, 2) := by decide +kernel
theorem dX1_scanNumber_117 : decode cX1_scanNumber 117 = .ok (.iload 7, 2) := by decide +kernel
theorem dX1_scanNumber_119 : decode cX1_scanNumber 119 = .ok (.iconst (-1), 1) := by decide +kernel
theorem dX1_scanNumber_120 : decode cX1_scanNumber 120 = .ok (.if_icmp .eq 45, 3) := by decide +kernel
theorem dX1_scanNumber_123 : decode cX1_scanNumber 123 = .ok (.iload 5, 2) := by decide +kernel
theorem dX1_scanNumber_125 : decode cX1_scanNumber 125 = .ok (.bipush 10, 2) := by decide +kernel
theorem dX1_scanNumber_127 : decode cX1_scanNumber 127 = .ok (.imul, 1) := by decide +kernel
theorem dX1_scanNumber_128 : decode cX1_scanNumber 128 = .ok (.iload 7, 2) := by decide +kernel
theorem dX1_scanNumber_130 : decode cX1_scanNumber 130 = .ok (.iadd, 1) := by decide +kernel
theorem dX1_scanNumber_131 : decode cX1_scanNumber 131 = .ok (.iload 4, 2) := by decide +kernel
theorem dX1_scanNumber_133 : decode cX1_scanNumber 133 = .ok (.if_icmp .le 6, 3) := by decide +kernel
theorem dX1_scanNumber_136 : decode cX1_scanNumber 136 = .ok (.goto 29, 3) := by decide +kernel
theorem dX1_scanNumber_139 : decode cX1_scanNumber 139 = .ok (.iload 5, 2) := by decide +kernel
theorem dX1_scanNumber_141 : decode cX1_scanNumber 141 = .ok (.bipush 10, 2) := by decide +kernel
theorem dX1_scanNumber_143 : decode cX1_scanNumber 143 = .ok (.imul, 1) := by decide +kernel
theorem dX1_scanNumber_144 : decode cX1_scanNumber 144 = .ok (.iload 7, 2) := by decide +kernel
theorem dX1_scanNumber_146 : decode cX1_scanNumber 146 = .ok (.iadd, 1) := by decide +kernel
theorem dX1_scanNumber_147 : decode cX1_scanNumber 147 = .ok (.istore 5, 2) := by decide +kernel
theorem dX1_scanNumber_149 : decode cX1_scanNumber 149 = .ok (.aload_n 0, 1) := by decide +kernel
theorem dX1_scanNumber_150 : decode cX1_scanNumber 150 = .ok (.dup, 1) := by decide +kernel
theorem dX1_scanNumber_151 : decode cX1_scanNumber 151 = .ok (.getfield 32, 3) := by decide +kernel
theorem dX1_scanNumber_154 : decode cX1_scanNumber 154 = .ok (.iconst 1, 1) := by decide +kernel
theorem dX1_scanNumber_155 : decode cX1_scanNumber 155 = .ok (.iadd, 1) := by decide +kernel
theorem dX1_scanNumber_156 : decode cX1_scanNumber 156 = .ok (.putfield 32, 3) := by decide +kernel
theorem dX1_scanNumber_159 : decode cX1_scanNumber 159 = .ok (.iinc 6 1, 3) := by decide +kernel
theorem dX1_scanNumber_162 : decode cX1_scanNumber 162 = .ok (.goto (-67), 3) := by decide +kernel
theorem dX1_scanNumber_165 : decode cX1_scanNumber 165 = .ok (.aload_n 0, 1) := by decide +kernel
theorem dX1_scanNumber_166 : decode cX1_scanNumber 166 = .ok (.iload_n 3, 1) := by decide +kernel
theorem dX1_scanNumber_167 : decode cX1_scanNumber 167 = .ok (.ifCond .eq 9, 3) := by decide +kernel
theorem dX1_scanNumber_170 : decode cX1_scanNumber 170 = .ok (.iload 5, 2) := by decide +kernel
theorem dX1_scanNumber_172 : decode cX1_scanNumber 172 = .ok (.ineg, 1) := by decide +kernel
theorem dX1_scanNumber_173 : decode cX1_scanNumber 173 = .ok (.goto 5, 3) := by decide +kernel
theorem dX1_scanNumber_176 : decode cX1_scanNumber 176 = .ok (.iload 5, 2) := by decide +kernel
theorem dX1_scanNumber_178 : decode cX1_scanNumber 178 = .ok (.putfield 38, 3) := by decide +kernel
theorem dX1_scanNumber_181 : decode cX1_scanNumber 181 = .ok (.iconst 1, 1) := by decide +kernel
theorem dX1_scanNumber_182 : decode cX1_scanNumber 182 = .ok (.ireturn, 1) := by decide +kernel
set_option maxRecDepth 20000 in
theorem ggX1_skip_X1_signAt : GoodIn wsX1_skip wsX1_signAt := goodIn_r _ [6, 7, 8, 9, 10, 11, 12, 13, 14, 15, 16, 17] (by decide +kernel) (by decide +kernel)
set_option maxRecDepth 20000 in
theorem gX1_skip_X1_signAt : GoodIn wsX1_skip (wsV RX1 49 RX1 yX1_signAt wsX1_signAt) := goodIn_app (goodIn_of _ (by decide +kernel)) ggX1_skip_X1_signAt
theorem dX1_skip_0 : decode cX1_skip 0 = .ok (.aload_n 0, 1) := by decide +kernel
theorem dX1_skip_1 : decode cX1_skip 1 = .ok (.aload_n 0, 1) := by decide +kernel
theorem dX1_skip_2 : decode cX1_skip 2 = .ok (.getfield 32, 3) := by decide +kernel
theorem dX1_skip_5 : decode cX1_skip 5 = .ok (.invokevirtual 49, 3) := by decide +kernel
theorem dX1_skip_8 : decode cX1_skip 8 = .ok (.iload_n 1, 1) := by decide +kernel
theorem dX1_skip_9 : decode cX1_skip 9 = .ok (.if_icmp .eq 5, 3) := by decide +kernel
theorem dX1_skip_12 : decode cX1_skip 12 = .ok (.iconst 0, 1) := by decide +kernel
theorem dX1_skip_13 : decode cX1_skip 13 = .ok (.ireturn, 1) := by decide +kernel
theorem dX1_skip_14 : decode cX1_skip 14 = .ok (.aload_n 0, 1) := by decide +kernel
theorem dX1_skip_15 : decode cX1_skip 15 = .ok (.dup, 1) := by decide +kernel
theorem dX1_skip_16 : decode cX1_skip 16 = .ok (.getfield 32, 3) := by decide +kernel
theorem dX1_skip_19 : decode cX1_skip 19 = .ok (.iconst 1, 1) := by decide +kernel
theorem dX1_skip_20 : decode cX1_skip 20 = .ok (.iadd, 1) := by decide +kernel
theorem dX1_skip_21 : decode cX1_skip 21 = .ok (.putfield 32, 3) := by decide +kernel
theorem dX1_skip_24 : decode cX1_skip 24 = .ok (.iconst 1, 1) := by decide +kernel
theorem dX1_skip_25 : decode cX1_skip 25 = .ok (.ireturn, 1) := by decide +kernel
set_option maxRecDepth 20000 in
theorem ggX1_digitAt_X1_signAt : GoodIn wsX1_digitAt wsX1_signAt := goodIn_r _ [5, 6, 7, 8, 9, 10, 11, 12, 13, 14, 15, 16] (by decide +kernel) (by decide +kernel)
set_option maxRecDepth 20000 in
theorem gX1_digitAt_X1_signAt : GoodIn wsX1_digitAt (wsV RX1 49 RX1 yX1_signAt wsX1_signAt) := goodIn_app (goodIn_of _ (by decide +kernel)) ggX1_digitAt_X1_signAt
theorem dX1_digitAt_0 : decode cX1_digitAt 0 = .ok (.aload_n 0, 1) := by decide +kernel
theorem dX1_digitAt_1 : decode cX1_digitAt 1 = .ok (.iload_n 1, 1) := by decide +kernel
theorem dX1_digitAt_2 : decode cX1_digitAt 2 = .ok (.invokevirtual 49, 3) := by decide +kernel
theorem dX1_digitAt_5 : decode cX1_digitAt 5 = .ok (.istore_n 2, 1) := by decide +kernel
theorem dX1_digitAt_6 : decode cX1_digitAt 6 = .ok (.iload_n 2, 1) := by decide +kernel
theorem dX1_digitAt_7 : decode cX1_digitAt 7 = .ok (.bipush 48, 2) := by decide +kernel
theorem dX1_digitAt_9 : decode cX1_digitAt 9 = .ok (.if_icmp .lt 16, 3) := by decide +kernel
theorem dX1_digitAt_12 : decode cX1_digitAt 12 = .ok (.iload_n 2, 1) := by decide +kernel
theorem dX1_digitAt_13 : decode cX1_digitAt 13 = .ok (.bipush 57, 2) := by decide +kernel
theorem dX1_digitAt_15 : decode cX1_digitAt 15 = .ok (.if_icmp .gt 10, 3) := by decide +kernel
theorem dX1_digitAt_18 : decode cX1_digitAt 18 = .ok (.iload_n 2, 1) := by decide +kernel
theorem dX1_digitAt_19 : decode cX1_digitAt 19 = .ok (.bipush 48, 2) := by decide +kernel
theorem dX1_digitAt_21 : decode cX1_digitAt 21 = .ok (.isub, 1) := by decide +kernel
theorem dX1_digitAt_22 : decode cX1_digitAt 22 = .ok (.goto 4, 3) := by decide +kernel
theorem dX1_digitAt_25 : decode cX1_digitAt 25 = .ok (.iconst (-1), 1) := by decide +kernel
theorem dX1_digitAt_26 : decode cX1_digitAt 26 = .ok (.ireturn, 1) := by decide +kernel
theorem dX1_signAt_0 : decode cX1_signAt 0 = .ok (.iload_n 1, 1) := by decide +kernel
theorem dX1_signAt_1 : decode cX1_signAt 1 = .ok (.ifCond .lt 26, 3) := by decide +kernel
theorem dX1_signAt_4 : decode cX1_signAt 4 = .ok (.iload_n 1, 1) := by decide +kernel
theorem dX1_signAt_5 : decode cX1_signAt 5 = .ok (.aload_n 0, 1) := by decide +kernel
theorem dX1_signAt_6 : decode cX1_signAt 6 = .ok (.getfield 15, 3) := by decide +kernel
theorem dX1_signAt_9 : decode cX1_signAt 9 = .ok (.if_icmp .ge 18, 3) := by decide +kernel
theorem dX1_signAt_12 : decode cX1_signAt 12 = .ok (.iload_n 1, 1) := by decide +kernel
theorem dX1_signAt_13 : decode cX1_signAt 13 = .ok (.bipush 80, 2) := by decide +kernel
theorem dX1_signAt_15 : decode cX1_signAt 15 = .ok (.if_icmp .ge 12, 3) := by decide +kernel
theorem dX1_signAt_18 : decode cX1_signAt 18 = .ok (.aload_n 0, 1) := by decide +kernel
theorem dX1_signAt_19 : decode cX1_signAt 19 = .ok (.getfield 9, 3) := by decide +kernel
theorem dX1_signAt_22 : decode cX1_signAt 22 = .ok (.iload_n 1, 1) := by decide +kernel
theorem dX1_signAt_23 : decode cX1_signAt 23 = .ok (.caload, 1) := by decide +kernel
theorem dX1_signAt_24 : decode cX1_signAt 24 = .ok (.goto 4, 3) := by decide +kernel
theorem dX1_signAt_27 : decode cX1_signAt 27 = .ok (.iconst (-1), 1) := by decide +kernel
theorem dX1_signAt_28 : decode cX1_signAt 28 = .ok (.ireturn, 1) := by decide +kernel
