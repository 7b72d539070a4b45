theorem dX3_init_0 : decode cX3_init 0 = .ok (.aload_n 0, 1) := by decide +kernel
theorem dX3_init_1 : decode cX3_init 1 = .ok (.invokespecial 1, 3) := by decide +kernel
theorem dX3_init_4 : decode cX3_init 4 = .ok (.aload_n 0, 1) := by decide +kernel
theorem dX3_init_5 : decode cX3_init 5 = .ok (.new 7, 3) := by decide +kernel
theorem dX3_init_8 : decode cX3_init 8 = .ok (.dup, 1) := by decide +kernel
theorem dX3_init_9 : decode cX3_init 9 = .ok (.invokespecial 9, 3) := by decide +kernel
theorem dX3_init_12 : decode cX3_init 12 = .ok (.putfield 10, 3) := by decide +kernel
theorem dX3_init_15 : decode cX3_init 15 = .ok (.aload_n 0, 1) := by decide +kernel
theorem dX3_init_16 : decode cX3_init 16 = .ok (.new 7, 3) := by decide +kernel
theorem dX3_init_19 : decode cX3_init 19 = .ok (.dup, 1) := by decide +kernel
theorem dX3_init_20 : decode cX3_init 20 = .ok (.invokespecial 9, 3) := by decide +kernel
theorem dX3_init_23 : decode cX3_init 23 = .ok (.putfield 16, 3) := by decide +kernel
theorem dX3_init_26 : decode cX3_init 26 = .ok (.aload_n 0, 1) := by decide +kernel
theorem dX3_init_27 : decode cX3_init 27 = .ok (.new 7, 3) := by decide +kernel
theorem dX3_init_30 : decode cX3_init 30 = .ok (.dup, 1) := by decide +kernel
theorem dX3_init_31 : decode cX3_init 31 = .ok (.invokespecial 9, 3) := by decide +kernel
theorem dX3_init_34 : decode cX3_init 34 = .ok (.putfield 19, 3) := by decide +kernel
theorem dX3_init_37 : decode cX3_init 37 = .ok (.aload_n 0, 1) := by decide +kernel
theorem dX3_init_38 : decode cX3_init 38 = .ok (.new 7, 3) := by decide +kernel
theorem dX3_init_41 : decode cX3_init 41 = .ok (.dup, 1) := by decide +kernel
theorem dX3_init_42 : decode cX3_init 42 = .ok (.invokespecial 9, 3) := by decide +kernel
theorem dX3_init_45 : decode cX3_init 45 = .ok (.putfield 22, 3) := by decide +kernel
theorem dX3_init_48 : decode cX3_init 48 = .ok (.aload_n 0, 1) := by decide +kernel
theorem dX3_init_49 : decode cX3_init 49 = .ok (.iconst 0, 1) := by decide +kernel
theorem dX3_init_50 : decode cX3_init 50 = .ok (.putfield 25, 3) := by decide +kernel
theorem dX3_init_53 : decode cX3_init 53 = .ok (.aload_n 0, 1) := by decide +kernel
theorem dX3_init_54 : decode cX3_init 54 = .ok (.new 29, 3) := by decide +kernel
theorem dX3_init_57 : decode cX3_init 57 = .ok (.dup, 1) := by decide +kernel
theorem dX3_init_58 : decode cX3_init 58 = .ok (.invokespecial 31, 3) := by decide +kernel
theorem dX3_init_61 : decode cX3_init 61 = .ok (.putfield 32, 3) := by decide +kernel
theorem dX3_init_64 : decode cX3_init 64 = .ok (.aload_n 0, 1) := by decide +kernel
theorem dX3_init_65 : decode cX3_init 65 = .ok (.new 36, 3) := by decide +kernel
theorem dX3_init_68 : decode cX3_init 68 = .ok (.dup, 1) := by decide +kernel
theorem dX3_init_69 : decode cX3_init 69 = .ok (.invokespecial 38, 3) := by decide +kernel
theorem dX3_init_72 : decode cX3_init 72 = .ok (.putfield 39, 3) := by decide +kernel
theorem dX3_init_75 : decode cX3_init 75 = .ok (.aload_n 0, 1) := by decide +kernel
theorem dX3_init_76 : decode cX3_init 76 = .ok (.sipush (-10005), 3) := by decide +kernel
theorem dX3_init_79 : decode cX3_init 79 = .ok (.putfield 43, 3) := by decide +kernel
theorem dX3_init_82 : decode cX3_init 82 = .ok (.aload_n 0, 1) := by decide +kernel
theorem dX3_init_83 : decode cX3_init 83 = .ok (.sipush (-10005), 3) := by decide +kernel
theorem dX3_init_86 : decode cX3_init 86 = .ok (.putfield 47, 3) := by decide +kernel
theorem dX3_init_89 : decode cX3_init 89 = .ok (.return_, 1) := by decide +kernel
set_option maxRecDepth 20000 in
theorem ggX3_fly_X2_copyFrom : GoodIn wsX3_fly wsX2_copyFrom := goodIn_r _ [6, 7, 8, 9, 10, 11, 12, 13, 14, 15, 16, 17, 18, 67, 68, 69, 70, 71, 72, 73, 74, 75, 76, 77, 78] (by decide +kernel) (by decide +kernel)
set_option maxRecDepth 20000 in
theorem gX3_fly_X2_copyFrom_n50 : GoodIn wsX3_fly (wsX2_copyFrom) := ggX3_fly_X2_copyFrom
set_option maxRecDepth 20000 in
theorem ggX3_fly_X2_launch : GoodIn wsX3_fly wsX2_launch := goodIn_r _ [21, 8, 9, 7, 10, 11, 12, 22, 23, 24, 25, 26, 27, 28, 29, 4, 30, 31, 32, 33, 34, 67, 68, 69, 70, 71, 72, 73, 74, 75, 76, 77, 78] (by decide +kernel) (by decide +kernel)
set_option maxRecDepth 20000 in
theorem gX3_fly_X2_launch_n54 : GoodIn wsX3_fly (wsX2_launch) := ggX3_fly_X2_launch
set_option maxRecDepth 20000 in
theorem ggX3_fly_X3_recorded : GoodIn wsX3_fly wsX3_recorded := goodIn_r _ [38, 39, 1, 40, 41, 23, 42, 43, 44, 45, 46, 47, 48, 49, 50, 51, 52, 53, 54, 55, 56, 57, 3, 4, 5, 6, 7, 8, 9, 10, 11, 12, 13, 14, 15, 16, 17, 18, 58, 59, 60, 61, 62, 63, 64, 65, 66, 79, 80, 81, 67, 68, 69, 70, 71, 72, 73, 74, 75, 76, 77, 78] (by decide +kernel) (by decide +kernel)
set_option maxRecDepth 20000 in
theorem gX3_fly_X3_recorded : GoodIn wsX3_fly (wsV RX3 58 RX3 yX3_recorded wsX3_recorded) := goodIn_app (goodIn_of _ (by decide +kernel)) ggX3_fly_X3_recorded
theorem dX3_fly_0 : decode cX3_fly 0 = .ok (.aload_n 0, 1) := by decide +kernel
theorem dX3_fly_1 : decode cX3_fly 1 = .ok (.getfield 16, 3) := by decide +kernel
theorem dX3_fly_4 : decode cX3_fly 4 = .ok (.aload_n 0, 1) := by decide +kernel
theorem dX3_fly_5 : decode cX3_fly 5 = .ok (.getfield 10, 3) := by decide +kernel
theorem dX3_fly_8 : decode cX3_fly 8 = .ok (.invokevirtual 50, 3) := by decide +kernel
theorem dX3_fly_11 : decode cX3_fly 11 = .ok (.aload_n 0, 1) := by decide +kernel
theorem dX3_fly_12 : decode cX3_fly 12 = .ok (.aload_n 0, 1) := by decide +kernel
theorem dX3_fly_13 : decode cX3_fly 13 = .ok (.getfield 10, 3) := by decide +kernel
theorem dX3_fly_16 : decode cX3_fly 16 = .ok (.iload_n 1, 1) := by decide +kernel
theorem dX3_fly_17 : decode cX3_fly 17 = .ok (.iload_n 2, 1) := by decide +kernel
theorem dX3_fly_18 : decode cX3_fly 18 = .ok (.invokevirtual 54, 3) := by decide +kernel
theorem dX3_fly_21 : decode cX3_fly 21 = .ok (.invokevirtual 58, 3) := by decide +kernel
theorem dX3_fly_24 : decode cX3_fly 24 = .ok (.ireturn, 1) := by decide +kernel
set_option maxRecDepth 20000 in
theorem ggX3_takeDown_X2_copyFrom : GoodIn wsX3_takeDown wsX2_copyFrom := goodIn_r _ [6, 7, 8, 9, 10, 11, 12, 13, 14, 15, 16, 17, 18, 59, 60, 61, 62, 63, 64, 65, 66, 67, 68, 69, 70] (by decide +kernel) (by decide +kernel)
set_option maxRecDepth 20000 in
theorem gX3_takeDown_X2_copyFrom_n50 : GoodIn wsX3_takeDown (wsX2_copyFrom) := ggX3_takeDown_X2_copyFrom
set_option maxRecDepth 20000 in
theorem ggX3_takeDown_X2_remove : GoodIn wsX3_takeDown wsX2_remove := goodIn_r _ [21, 8, 7, 22, 23, 24, 4, 25, 59, 60, 61, 62, 63, 64, 65, 66, 67, 68, 69, 70] (by decide +kernel) (by decide +kernel)
set_option maxRecDepth 20000 in
theorem gX3_takeDown_X2_remove_n62 : GoodIn wsX3_takeDown (wsX2_remove) := ggX3_takeDown_X2_remove
set_option maxRecDepth 20000 in
theorem ggX3_takeDown_X3_recorded : GoodIn wsX3_takeDown wsX3_recorded := goodIn_r _ [30, 31, 1, 32, 33, 29, 34, 35, 36, 37, 38, 39, 40, 41, 42, 43, 44, 45, 46, 47, 48, 49, 3, 4, 5, 6, 7, 8, 9, 10, 11, 12, 13, 14, 15, 16, 17, 18, 50, 51, 52, 53, 54, 55, 56, 57, 58, 71, 72, 73, 59, 60, 61, 62, 63, 64, 65, 66, 67, 68, 69, 70] (by decide +kernel) (by decide +kernel)
set_option maxRecDepth 20000 in
theorem gX3_takeDown_X3_recorded : GoodIn wsX3_takeDown (wsV RX3 58 RX3 yX3_recorded wsX3_recorded) := goodIn_app (goodIn_of _ (by decide +kernel)) ggX3_takeDown_X3_recorded
theorem dX3_takeDown_0 : decode cX3_takeDown 0 = .ok (.aload_n 0, 1) := by decide +kernel
theorem dX3_takeDown_1 : decode cX3_takeDown 1 = .ok (.getfield 16, 3) := by decide +kernel
theorem dX3_takeDown_4 : decode cX3_takeDown 4 = .ok (.aload_n 0, 1) := by decide +kernel
theorem dX3_takeDown_5 : decode cX3_takeDown 5 = .ok (.getfield 10, 3) := by decide +kernel
theorem dX3_takeDown_8 : decode cX3_takeDown 8 = .ok (.invokevirtual 50, 3) := by decide +kernel
theorem dX3_takeDown_11 : decode cX3_takeDown 11 = .ok (.aload_n 0, 1) := by decide +kernel
theorem dX3_takeDown_12 : decode cX3_takeDown 12 = .ok (.aload_n 0, 1) := by decide +kernel
theorem dX3_takeDown_13 : decode cX3_takeDown 13 = .ok (.getfield 10, 3) := by decide +kernel
theorem dX3_takeDown_16 : decode cX3_takeDown 16 = .ok (.iload_n 1, 1) := by decide +kernel
theorem dX3_takeDown_17 : decode cX3_takeDown 17 = .ok (.invokevirtual 62, 3) := by decide +kernel
theorem dX3_takeDown_20 : decode cX3_takeDown 20 = .ok (.invokevirtual 58, 3) := by decide +kernel
theorem dX3_takeDown_23 : decode cX3_takeDown 23 = .ok (.ireturn, 1) := by decide +kernel
set_option maxRecDepth 20000 in
theorem ggX3_read_X2_copyFrom : GoodIn wsX3_read wsX2_copyFrom := goodIn_r _ [6, 7, 8, 9, 10, 11, 12, 13, 14, 15, 16, 17, 18, 98, 99, 100, 101, 102, 103, 104, 105, 106, 107, 108, 109] (by decide +kernel) (by decide +kernel)
set_option maxRecDepth 20000 in
theorem gX3_read_X2_copyFrom_n50 : GoodIn wsX3_read (wsX2_copyFrom) := ggX3_read_X2_copyFrom
set_option maxRecDepth 20000 in
theorem ggX3_read_X2_raise : GoodIn wsX3_read wsX2_raise := goodIn_r _ [21, 8, 9, 17, 12, 10, 11, 16, 7, 22, 23, 24, 4, 25, 26, 27, 28, 29, 30, 31, 32, 33, 15, 34, 35, 36, 37, 38, 39, 40, 41, 13, 42, 43, 44, 45, 46, 47, 48, 49, 50, 51, 52, 53, 54, 55, 56, 57, 58, 59, 60, 14, 61, 62, 63, 64, 65, 98, 99, 100, 101, 102, 103, 104, 105, 106, 107, 108, 109] (by decide +kernel) (by decide +kernel)
set_option maxRecDepth 20000 in
theorem gX3_read_X2_raise_n65 : GoodIn wsX3_read (wsX2_raise) := ggX3_read_X2_raise
set_option maxRecDepth 20000 in
theorem ggX3_read_X3_recorded : GoodIn wsX3_read wsX3_recorded := goodIn_r _ [69, 70, 1, 71, 72, 43, 73, 74, 75, 76, 77, 78, 79, 80, 81, 82, 83, 84, 85, 86, 87, 88, 3, 4, 5, 6, 7, 8, 9, 10, 11, 12, 13, 14, 15, 16, 17, 18, 89, 90, 91, 92, 93, 94, 95, 96, 97, 110, 111, 112, 98, 99, 100, 101, 102, 103, 104, 105, 106, 107, 108, 109] (by decide +kernel) (by decide +kernel)
set_option maxRecDepth 20000 in
theorem gX3_read_X3_recorded : GoodIn wsX3_read (wsV RX3 58 RX3 yX3_recorded wsX3_recorded) := goodIn_app (goodIn_of _ (by decide +kernel)) ggX3_read_X3_recorded
theorem dX3_read_0 : decode cX3_read 0 = .ok (.aload_n 0, 1) := by decide +kernel
theorem dX3_read_1 : decode cX3_read 1 = .ok (.getfield 16, 3) := by decide +kernel
theorem dX3_read_4 : decode cX3_read 4 = .ok (.aload_n 0, 1) := by decide +kernel
theorem dX3_read_5 : decode cX3_read 5 = .ok (.getfield 10, 3) := by decide +kernel
theorem dX3_read_8 : decode cX3_read 8 = .ok (.invokevirtual 50, 3) := by decide +kernel
theorem dX3_read_11 : decode cX3_read 11 = .ok (.aload_n 0, 1) := by decide +kernel
theorem dX3_read_12 : decode cX3_read 12 = .ok (.aload_n 0, 1) := by decide +kernel
theorem dX3_read_13 : decode cX3_read 13 = .ok (.getfield 10, 3) := by decide +kernel
theorem dX3_read_16 : decode cX3_read 16 = .ok (.iload_n 1, 1) := by decide +kernel
theorem dX3_read_17 : decode cX3_read 17 = .ok (.invokevirtual 65, 3) := by decide +kernel
theorem dX3_read_20 : decode cX3_read 20 = .ok (.invokevirtual 58, 3) := by decide +kernel
theorem dX3_read_23 : decode cX3_read 23 = .ok (.ireturn, 1) := by decide +kernel
set_option maxRecDepth 20000 in
theorem ggX3_write_X2_copyFrom : GoodIn wsX3_write wsX2_copyFrom := goodIn_r _ [6, 7, 8, 9, 10, 11, 12, 13, 14, 15, 16, 17, 18, 61, 62, 63, 64, 65, 66, 67, 68, 69, 70, 71, 72] (by decide +kernel) (by decide +kernel)
set_option maxRecDepth 20000 in
theorem gX3_write_X2_copyFrom_n50 : GoodIn wsX3_write (wsX2_copyFrom) := ggX3_write_X2_copyFrom
set_option maxRecDepth 20000 in
theorem ggX3_write_X2_renumber : GoodIn wsX3_write wsX2_renumber := goodIn_r _ [21, 7, 10, 22, 23, 24, 4, 25, 8, 26, 27, 28, 61, 62, 63, 64, 65, 66, 67, 68, 69, 70, 71, 72] (by decide +kernel) (by decide +kernel)
set_option maxRecDepth 20000 in
theorem gX3_write_X2_renumber_n68 : GoodIn wsX3_write (wsX2_renumber) := ggX3_write_X2_renumber
set_option maxRecDepth 20000 in
theorem ggX3_write_X3_recorded : GoodIn wsX3_write wsX3_recorded := goodIn_r _ [32, 33, 1, 34, 35, 27, 36, 37, 38, 39, 40, 41, 42, 43, 44, 45, 46, 47, 48, 49, 50, 51, 3, 4, 5, 6, 7, 8, 9, 10, 11, 12, 13, 14, 15, 16, 17, 18, 52, 53, 54, 55, 56, 57, 58, 59, 60, 73, 74, 75, 61, 62, 63, 64, 65, 66, 67, 68, 69, 70, 71, 72] (by decide +kernel) (by decide +kernel)
set_option maxRecDepth 20000 in
theorem gX3_write_X3_recorded : GoodIn wsX3_write (wsV RX3 58 RX3 yX3_recorded wsX3_recorded) := goodIn_app (goodIn_of _ (by decide +kernel)) ggX3_write_X3_recorded
theorem dX3_write_0 : decode cX3_write 0 = .ok (.aload_n 0, 1) := by decide +kernel
theorem dX3_write_1 : decode cX3_write 1 = .ok (.getfield 16, 3) := by decide +kernel
theorem dX3_write_4 : decode cX3_write 4 = .ok (.aload_n 0, 1) := by decide +kernel
theorem dX3_write_5 : decode cX3_write 5 = .ok (.getfield 10, 3) := by decide +kernel
theorem dX3_write_8 : decode cX3_write 8 = .ok (.invokevirtual 50, 3) := by decide +kernel
theorem dX3_write_11 : decode cX3_write 11 = .ok (.aload_n 0, 1) := by decide +kernel
theorem dX3_write_12 : decode cX3_write 12 = .ok (.aload_n 0, 1) := by decide +kernel
theorem dX3_write_13 : decode cX3_write 13 = .ok (.getfield 10, 3) := by decide +kernel
theorem dX3_write_16 : decode cX3_write 16 = .ok (.iload_n 1, 1) := by decide +kernel
theorem dX3_write_17 : decode cX3_write 17 = .ok (.iload_n 2, 1) := by decide +kernel
theorem dX3_write_18 : decode cX3_write 18 = .ok (.invokevirtual 68, 3) := by decide +kernel
theorem dX3_write_21 : decode cX3_write 21 = .ok (.invokevirtual 58, 3) := by decide +kernel
theorem dX3_write_24 : decode cX3_write 24 = .ok (.ireturn, 1) := by decide +kernel
set_option maxRecDepth 20000 in
theorem ggX3_move_X2_copyFrom : GoodIn wsX3_move wsX2_copyFrom := goodIn_r _ [6, 7, 8, 9, 10, 11, 12, 13, 14, 15, 16, 17, 18, 69, 70, 71, 72, 73, 74, 75, 76, 77, 78, 79, 80] (by decide +kernel) (by decide +kernel)
set_option maxRecDepth 20000 in
theorem gX3_move_X2_copyFrom_n50 : GoodIn wsX3_move (wsX2_copyFrom) := ggX3_move_X2_copyFrom
set_option maxRecDepth 20000 in
theorem ggX3_move_X2_shift : GoodIn wsX3_move wsX2_shift := goodIn_r _ [21, 8, 9, 22, 23, 24, 4, 25, 26, 27, 28, 29, 30, 31, 32, 33, 34, 35, 36, 69, 70, 71, 72, 73, 74, 75, 76, 77, 78, 79, 80] (by decide +kernel) (by decide +kernel)
set_option maxRecDepth 20000 in
theorem gX3_move_X2_shift_n71 : GoodIn wsX3_move (wsX2_shift) := ggX3_move_X2_shift
set_option maxRecDepth 20000 in
theorem ggX3_move_X3_recorded : GoodIn wsX3_move wsX3_recorded := goodIn_r _ [40, 41, 1, 42, 43, 27, 44, 45, 46, 47, 48, 49, 50, 51, 52, 53, 54, 55, 56, 57, 58, 59, 3, 4, 5, 6, 7, 8, 9, 10, 11, 12, 13, 14, 15, 16, 17, 18, 60, 61, 62, 63, 64, 65, 66, 67, 68, 81, 82, 83, 69, 70, 71, 72, 73, 74, 75, 76, 77, 78, 79, 80] (by decide +kernel) (by decide +kernel)
set_option maxRecDepth 20000 in
theorem gX3_move_X3_recorded : GoodIn wsX3_move (wsV RX3 58 RX3 yX3_recorded wsX3_recorded) := goodIn_app (goodIn_of _ (by decide +kernel)) ggX3_move_X3_recorded
theorem dX3_move_0 : decode cX3_move 0 = .ok (.aload_n 0, 1) := by decide +kernel
theorem dX3_move_1 : decode cX3_move 1 = .ok (.getfield 16, 3) := by decide +kernel
theorem dX3_move_4 : decode cX3_move 4 = .ok (.aload_n 0, 1) := by decide +kernel
theorem dX3_move_5 : decode cX3_move 5 = .ok (.getfield 10, 3) := by decide +kernel
theorem dX3_move_8 : decode cX3_move 8 = .ok (.invokevirtual 50, 3) := by decide +kernel
theorem dX3_move_11 : decode cX3_move 11 = .ok (.aload_n 0, 1) := by decide +kernel
theorem dX3_move_12 : decode cX3_move 12 = .ok (.aload_n 0, 1) := by decide +kernel
theorem dX3_move_13 : decode cX3_move 13 = .ok (.getfield 10, 3) := by decide +kernel
theorem dX3_move_16 : decode cX3_move 16 = .ok (.iload_n 1, 1) := by decide +kernel
theorem dX3_move_17 : decode cX3_move 17 = .ok (.iload_n 2, 1) := by decide +kernel
theorem dX3_move_18 : decode cX3_move 18 = .ok (.invokevirtual 71, 3) := by decide +kernel
theorem dX3_move_21 : decode cX3_move 21 = .ok (.invokevirtual 58, 3) := by decide +kernel
theorem dX3_move_24 : decode cX3_move 24 = .ok (.ireturn, 1) := by decide +kernel
set_option maxRecDepth 20000 in
theorem ggX3_beat_X2_copyFrom : GoodIn wsX3_beat wsX2_copyFrom := goodIn_r _ [6, 7, 8, 9, 10, 11, 12, 13, 14, 15, 16, 17, 18, 83, 84, 85, 86, 87, 88, 89, 90, 91, 92, 93, 94] (by decide +kernel) (by decide +kernel)
set_option maxRecDepth 20000 in
theorem gX3_beat_X2_copyFrom_n50 : GoodIn wsX3_beat (wsX2_copyFrom) := ggX3_beat_X2_copyFrom
set_option maxRecDepth 20000 in
theorem ggX3_beat_X2_passBeats : GoodIn wsX3_beat wsX2_passBeats := goodIn_r _ [21, 15, 22, 23, 24, 4, 25, 9, 10, 18, 26, 27, 28, 29, 30, 31, 32, 33, 34, 8, 35, 36, 37, 38, 39, 40, 41, 42, 43, 44, 45, 46, 47, 48, 49, 50, 83, 84, 85, 86, 87, 88, 89, 90, 91, 92, 93, 94] (by decide +kernel) (by decide +kernel)
set_option maxRecDepth 20000 in
theorem gX3_beat_X2_passBeats_n74 : GoodIn wsX3_beat (wsX2_passBeats) := ggX3_beat_X2_passBeats
set_option maxRecDepth 20000 in
theorem ggX3_beat_X3_recorded : GoodIn wsX3_beat wsX3_recorded := goodIn_r _ [55, 56, 1, 57, 58, 54, 59, 60, 61, 62, 63, 64, 65, 66, 67, 28, 68, 69, 70, 71, 72, 73, 3, 4, 5, 6, 7, 8, 9, 10, 11, 12, 13, 14, 15, 16, 17, 18, 74, 75, 76, 77, 78, 79, 80, 81, 82, 95, 96, 97, 83, 84, 85, 86, 87, 88, 89, 90, 91, 92, 93, 94] (by decide +kernel) (by decide +kernel)
set_option maxRecDepth 20000 in
theorem gX3_beat_X3_recorded : GoodIn wsX3_beat (wsV RX3 58 RX3 yX3_recorded wsX3_recorded) := goodIn_app (goodIn_of _ (by decide +kernel)) ggX3_beat_X3_recorded
theorem dX3_beat_0 : decode cX3_beat 0 = .ok (.aload_n 0, 1) := by decide +kernel
theorem dX3_beat_1 : decode cX3_beat 1 = .ok (.getfield 16, 3) := by decide +kernel
theorem dX3_beat_4 : decode cX3_beat 4 = .ok (.aload_n 0, 1) := by decide +kernel
theorem dX3_beat_5 : decode cX3_beat 5 = .ok (.getfield 10, 3) := by decide +kernel
theorem dX3_beat_8 : decode cX3_beat 8 = .ok (.invokevirtual 50, 3) := by decide +kernel
theorem dX3_beat_11 : decode cX3_beat 11 = .ok (.aload_n 0, 1) := by decide +kernel
theorem dX3_beat_12 : decode cX3_beat 12 = .ok (.aload_n 0, 1) := by decide +kernel
theorem dX3_beat_13 : decode cX3_beat 13 = .ok (.getfield 10, 3) := by decide +kernel
theorem dX3_beat_16 : decode cX3_beat 16 = .ok (.iload_n 1, 1) := by decide +kernel
theorem dX3_beat_17 : decode cX3_beat 17 = .ok (.invokevirtual 74, 3) := by decide +kernel
theorem dX3_beat_20 : decode cX3_beat 20 = .ok (.invokevirtual 58, 3) := by decide +kernel
theorem dX3_beat_23 : decode cX3_beat 23 = .ok (.ireturn, 1) := by decide +kernel
set_option maxRecDepth 20000 in
theorem ggX3_wind_X2_copyFrom : GoodIn wsX3_wind wsX2_copyFrom := goodIn_r _ [6, 7, 8, 9, 10, 11, 12, 13, 14, 15, 16, 17, 18, 57, 58, 59, 60, 61, 62, 63, 64, 65, 66, 67, 68] (by decide +kernel) (by decide +kernel)
set_option maxRecDepth 20000 in
theorem gX3_wind_X2_copyFrom_n50 : GoodIn wsX3_wind (wsX2_copyFrom) := ggX3_wind_X2_copyFrom
set_option maxRecDepth 20000 in
theorem ggX3_wind_X2_changeWind : GoodIn wsX3_wind wsX2_changeWind := goodIn_r _ [21, 13, 22, 23, 24, 57, 58, 59, 60, 61, 62, 63, 64, 65, 66, 67, 68] (by decide +kernel) (by decide +kernel)
set_option maxRecDepth 20000 in
theorem gX3_wind_X2_changeWind_n77 : GoodIn wsX3_wind (wsX2_changeWind) := ggX3_wind_X2_changeWind
set_option maxRecDepth 20000 in
theorem ggX3_wind_X3_recorded : GoodIn wsX3_wind wsX3_recorded := goodIn_r _ [28, 29, 1, 30, 31, 23, 32, 33, 34, 35, 36, 37, 38, 39, 40, 41, 42, 43, 44, 45, 46, 47, 3, 4, 5, 6, 7, 8, 9, 10, 11, 12, 13, 14, 15, 16, 17, 18, 48, 49, 50, 51, 52, 53, 54, 55, 56, 69, 70, 71, 57, 58, 59, 60, 61, 62, 63, 64, 65, 66, 67, 68] (by decide +kernel) (by decide +kernel)
set_option maxRecDepth 20000 in
theorem gX3_wind_X3_recorded : GoodIn wsX3_wind (wsV RX3 58 RX3 yX3_recorded wsX3_recorded) := goodIn_app (goodIn_of _ (by decide +kernel)) ggX3_wind_X3_recorded
theorem dX3_wind_0 : decode cX3_wind 0 = .ok (.aload_n 0, 1) := by decide +kernel
theorem dX3_wind_1 : decode cX3_wind 1 = .ok (.getfield 16, 3) := by decide +kernel
theorem dX3_wind_4 : decode cX3_wind 4 = .ok (.aload_n 0, 1) := by decide +kernel
theorem dX3_wind_5 : decode cX3_wind 5 = .ok (.getfield 10, 3) := by decide +kernel
theorem dX3_wind_8 : decode cX3_wind 8 = .ok (.invokevirtual 50, 3) := by decide +kernel
theorem dX3_wind_11 : decode cX3_wind 11 = .ok (.aload_n 0, 1) := by decide +kernel
theorem dX3_wind_12 : decode cX3_wind 12 = .ok (.aload_n 0, 1) := by decide +kernel
theorem dX3_wind_13 : decode cX3_wind 13 = .ok (.getfield 10, 3) := by decide +kernel
theorem dX3_wind_16 : decode cX3_wind 16 = .ok (.iload_n 1, 1) := by decide +kernel
theorem dX3_wind_17 : decode cX3_wind 17 = .ok (.iload_n 2, 1) := by decide +kernel
theorem dX3_wind_18 : decode cX3_wind 18 = .ok (.invokevirtual 77, 3) := by decide +kernel
theorem dX3_wind_21 : decode cX3_wind 21 = .ok (.invokevirtual 58, 3) := by decide +kernel
theorem dX3_wind_24 : decode cX3_wind 24 = .ok (.ireturn, 1) := by decide +kernel
set_option maxRecDepth 20000 in
theorem ggX3_set_X2_copyFrom : GoodIn wsX3_set wsX2_copyFrom := goodIn_r _ [6, 7, 8, 9, 10, 11, 12, 13, 14, 15, 16, 17, 18, 63, 64, 65, 66, 67, 68, 69, 70, 71, 72, 73, 74] (by decide +kernel) (by decide +kernel)
set_option maxRecDepth 20000 in
theorem gX3_set_X2_copyFrom_n50 : GoodIn wsX3_set (wsX2_copyFrom) := ggX3_set_X2_copyFrom
set_option maxRecDepth 20000 in
theorem ggX3_set_X2_changeSetting : GoodIn wsX3_set wsX2_changeSetting := goodIn_r _ [21, 22, 23, 24, 4, 25, 17, 26, 27, 28, 29, 18, 63, 64, 65, 66, 67, 68, 69, 70, 71, 72, 73, 74] (by decide +kernel) (by decide +kernel)
set_option maxRecDepth 20000 in
theorem gX3_set_X2_changeSetting_n80 : GoodIn wsX3_set (wsX2_changeSetting) := ggX3_set_X2_changeSetting
set_option maxRecDepth 20000 in
theorem ggX3_set_X3_recorded : GoodIn wsX3_set wsX3_recorded := goodIn_r _ [34, 35, 1, 36, 37, 33, 38, 39, 40, 41, 42, 43, 44, 45, 46, 47, 48, 49, 50, 51, 52, 53, 3, 4, 5, 6, 7, 8, 9, 10, 11, 12, 13, 14, 15, 16, 17, 18, 54, 55, 56, 57, 58, 59, 60, 61, 62, 75, 76, 77, 63, 64, 65, 66, 67, 68, 69, 70, 71, 72, 73, 74] (by decide +kernel) (by decide +kernel)
set_option maxRecDepth 20000 in
theorem gX3_set_X3_recorded : GoodIn wsX3_set (wsV RX3 58 RX3 yX3_recorded wsX3_recorded) := goodIn_app (goodIn_of _ (by decide +kernel)) ggX3_set_X3_recorded
theorem dX3_set_0 : decode cX3_set 0 = .ok (.aload_n 0, 1) := by decide +kernel
theorem dX3_set_1 : decode cX3_set 1 = .ok (.getfield 16, 3) := by decide +kernel
theorem dX3_set_4 : decode cX3_set 4 = .ok (.aload_n 0, 1) := by decide +kernel
theorem dX3_set_5 : decode cX3_set 5 = .ok (.getfield 10, 3) := by decide +kernel
theorem dX3_set_8 : decode cX3_set 8 = .ok (.invokevirtual 50, 3) := by decide +kernel
theorem dX3_set_11 : decode cX3_set 11 = .ok (.aload_n 0, 1) := by decide +kernel
theorem dX3_set_12 : decode cX3_set 12 = .ok (.aload_n 0, 1) := by decide +kernel
theorem dX3_set_13 : decode cX3_set 13 = .ok (.getfield 10, 3) := by decide +kernel
theorem dX3_set_16 : decode cX3_set 16 = .ok (.iload_n 1, 1) := by decide +kernel
theorem dX3_set_17 : decode cX3_set 17 = .ok (.iload_n 2, 1) := by decide +kernel
theorem dX3_set_18 : decode cX3_set 18 = .ok (.invokevirtual 80, 3) := by decide +kernel
theorem dX3_set_21 : decode cX3_set 21 = .ok (.invokevirtual 58, 3) := by decide +kernel
theorem dX3_set_24 : decode cX3_set 24 = .ok (.ireturn, 1) := by decide +kernel
set_option maxRecDepth 20000 in
theorem ggX3_type_X1_append : GoodIn wsX3_type wsX1_append := goodIn_r _ [5, 6, 7, 17, 18, 19, 20, 21, 22, 23, 24, 25] (by decide +kernel) (by decide +kernel)
set_option maxRecDepth 20000 in
theorem gX3_type_X1_append_n83 : GoodIn wsX3_type (wsX1_append) := ggX3_type_X1_append
theorem dX3_type_0 : decode cX3_type 0 = .ok (.aload_n 0, 1) := by decide +kernel
theorem dX3_type_1 : decode cX3_type 1 = .ok (.getfield 39, 3) := by decide +kernel
theorem dX3_type_4 : decode cX3_type 4 = .ok (.iload_n 1, 1) := by decide +kernel
theorem dX3_type_5 : decode cX3_type 5 = .ok (.invokevirtual 83, 3) := by decide +kernel
theorem dX3_type_8 : decode cX3_type 8 = .ok (.ireturn, 1) := by decide +kernel
set_option maxRecDepth 20000 in
theorem ggX3_clearText_X1_empty : GoodIn wsX3_clearText wsX1_empty := goodIn_r _ [5, 6, 16, 17, 18, 19, 20, 21, 22, 23, 24] (by decide +kernel) (by decide +kernel)
set_option maxRecDepth 20000 in
theorem gX3_clearText_X1_empty_n87 : GoodIn wsX3_clearText (wsX1_empty) := ggX3_clearText_X1_empty
theorem dX3_clearText_0 : decode cX3_clearText 0 = .ok (.aload_n 0, 1) := by decide +kernel
theorem dX3_clearText_1 : decode cX3_clearText 1 = .ok (.getfield 39, 3) := by decide +kernel
theorem dX3_clearText_4 : decode cX3_clearText 4 = .ok (.invokevirtual 87, 3) := by decide +kernel
theorem dX3_clearText_7 : decode cX3_clearText 7 = .ok (.ireturn, 1) := by decide +kernel
set_option maxRecDepth 20000 in
theorem ggX3_perform_X1_scan : GoodIn wsX3_perform wsX1_scan := goodIn_r _ [9, 10, 11, 12, 13, 14, 7, 15, 16, 17, 18, 19, 20, 21, 22, 23, 24, 25, 26, 27, 28, 29, 30, 31, 32, 33, 34, 35, 36, 37, 38, 39, 40, 41, 42, 43, 44, 45, 46, 47, 48, 49, 50, 51, 52, 53, 54, 55, 56, 57, 58, 59, 60, 61, 62, 63, 64, 65, 66, 67, 68, 69, 70, 71, 72, 73, 74, 75, 76, 77, 78, 79, 80, 81, 82, 83, 84, 85, 86, 87, 88, 89, 90, 91, 92, 93, 94, 95, 96, 97, 98, 99, 100, 101, 102, 103, 104, 105, 106, 107, 108, 109, 110, 254, 255, 256, 257, 258, 259, 260, 261, 262] (by decide +kernel) (by decide +kernel)
set_option maxRecDepth 20000 in
theorem gX3_perform_X1_scan_n91 : GoodIn wsX3_perform (wsX1_scan) := ggX3_perform_X1_scan
set_option maxRecDepth 20000 in
theorem ggX3_perform_X2_copyFrom : GoodIn wsX3_perform wsX2_copyFrom := goodIn_r _ [114, 115, 116, 117, 118, 119, 120, 121, 122, 123, 124, 125, 126, 263, 264, 265, 266, 267, 268, 269, 270, 271, 272, 273, 274] (by decide +kernel) (by decide +kernel)
set_option maxRecDepth 20000 in
theorem gX3_perform_X2_copyFrom_n50 : GoodIn wsX3_perform (wsX2_copyFrom) := ggX3_perform_X2_copyFrom
set_option maxRecDepth 20000 in
theorem ggX3_perform_X1_verbOf : GoodIn wsX3_perform wsX1_verbOf := goodIn_r _ [129, 16, 130, 131, 132, 7, 133, 11, 254, 255, 256, 257, 258, 259, 260, 261, 262] (by decide +kernel) (by decide +kernel)
set_option maxRecDepth 20000 in
theorem gX3_perform_X1_verbOf_n97 : GoodIn wsX3_perform (wsX1_verbOf) := ggX3_perform_X1_verbOf
set_option maxRecDepth 20000 in
theorem ggX3_perform_X1_firstOf : GoodIn wsX3_perform wsX1_firstOf := goodIn_r _ [136, 18, 130, 131, 132, 7, 133, 11, 254, 255, 256, 257, 258, 259, 260, 261, 262] (by decide +kernel) (by decide +kernel)
set_option maxRecDepth 20000 in
theorem gX3_perform_X1_firstOf_n100 : GoodIn wsX3_perform (wsX1_firstOf) := ggX3_perform_X1_firstOf
set_option maxRecDepth 20000 in
theorem ggX3_perform_X1_secondOf : GoodIn wsX3_perform wsX1_secondOf := goodIn_r _ [139, 20, 130, 131, 132, 7, 133, 11, 254, 255, 256, 257, 258, 259, 260, 261, 262] (by decide +kernel) (by decide +kernel)
set_option maxRecDepth 20000 in
theorem gX3_perform_X1_secondOf_n103 : GoodIn wsX3_perform (wsX1_secondOf) := ggX3_perform_X1_secondOf
set_option maxRecDepth 20000 in
theorem ggX3_perform_X2_carryOut : GoodIn wsX3_perform wsX2_carryOut := goodIn_r _ [142, 143, 144, 145, 112, 146, 116, 117, 115, 118, 119, 120, 147, 148, 149, 150, 151, 152, 153, 154, 155, 156, 157, 158, 159, 160, 161, 162, 163, 125, 124, 164, 165, 166, 167, 168, 169, 170, 171, 172, 173, 174, 175, 123, 176, 177, 178, 179, 180, 181, 182, 183, 121, 184, 185, 186, 187, 188, 189, 190, 191, 192, 193, 122, 194, 195, 196, 197, 198, 199, 200, 201, 202, 203, 204, 205, 206, 207, 208, 126, 209, 26, 27, 28, 210, 211, 212, 213, 214, 215, 216, 217, 218, 219, 220, 221, 222, 263, 264, 265, 266, 267, 268, 269, 270, 271, 272, 273, 274] (by decide +kernel) (by decide +kernel)
set_option maxRecDepth 20000 in
theorem gX3_perform_X2_carryOut_n106 : GoodIn wsX3_perform (wsX2_carryOut) := ggX3_perform_X2_carryOut
set_option maxRecDepth 20000 in
theorem ggX3_perform_X3_isError : GoodIn wsX3_perform wsX3_isError := goodIn_r _ [225] (by decide +kernel) (by decide +kernel)
set_option maxRecDepth 20000 in
theorem gX3_perform_X3_isError : GoodIn wsX3_perform (va_wsS RX3 110 yX3_isError wsX3_isError) := goodIn_app (goodIn_of _ (by decide +kernel)) ggX3_perform_X3_isError
set_option maxRecDepth 20000 in
theorem ggX3_perform_X3_recorded : GoodIn wsX3_perform wsX3_recorded := goodIn_r _ [229, 230, 2, 223, 224, 148, 225, 231, 232, 233, 234, 235, 236, 237, 238, 27, 239, 240, 241, 242, 243, 244, 111, 112, 113, 114, 115, 116, 117, 118, 119, 120, 121, 122, 123, 124, 125, 126, 245, 246, 247, 248, 249, 250, 251, 252, 253, 275, 276, 277, 263, 264, 265, 266, 267, 268, 269, 270, 271, 272, 273, 274] (by decide +kernel) (by decide +kernel)
set_option maxRecDepth 20000 in
theorem gX3_perform_X3_recorded : GoodIn wsX3_perform (wsV RX3 58 RX3 yX3_recorded wsX3_recorded) := goodIn_app (goodIn_of _ (by decide +kernel)) ggX3_perform_X3_recorded
theorem dX3_perform_0 : decode cX3_perform 0 = .ok (.aload_n 0, 1) := by decide +kernel
theorem dX3_perform_1 : decode cX3_perform 1 = .ok (.getfield 39, 3) := by decide +kernel
theorem dX3_perform_4 : decode cX3_perform 4 = .ok (.invokevirtual 91, 3) := by decide +kernel
theorem dX3_perform_7 : decode cX3_perform 7 = .ok (.istore_n 1, 1) := by decide +kernel
theorem dX3_perform_8 : decode cX3_perform 8 = .ok (.iload_n 1, 1) := by decide +kernel
theorem dX3_perform_9 : decode cX3_perform 9 = .ok (.ifCond .lt 9, 3) := by decide +kernel
theorem dX3_perform_12 : decode cX3_perform 12 = .ok (.sipush (-10100), 3) := by decide +kernel
theorem dX3_perform_15 : decode cX3_perform 15 = .ok (.iload_n 1, 1) := by decide +kernel
theorem dX3_perform_16 : decode cX3_perform 16 = .ok (.isub, 1) := by decide +kernel
theorem dX3_perform_17 : decode cX3_perform 17 = .ok (.ireturn, 1) := by decide +kernel
theorem dX3_perform_18 : decode cX3_perform 18 = .ok (.aload_n 0, 1) := by decide +kernel
theorem dX3_perform_19 : decode cX3_perform 19 = .ok (.getfield 16, 3) := by decide +kernel
theorem dX3_perform_22 : decode cX3_perform 22 = .ok (.aload_n 0, 1) := by decide +kernel
theorem dX3_perform_23 : decode cX3_perform 23 = .ok (.getfield 10, 3) := by decide +kernel
theorem dX3_perform_26 : decode cX3_perform 26 = .ok (.invokevirtual 50, 3) := by decide +kernel
theorem dX3_perform_29 : decode cX3_perform 29 = .ok (.iconst 0, 1) := by decide +kernel
theorem dX3_perform_30 : decode cX3_perform 30 = .ok (.istore_n 2, 1) := by decide +kernel
theorem dX3_perform_31 : decode cX3_perform 31 = .ok (.iload_n 2, 1) := by decide +kernel
theorem dX3_perform_32 : decode cX3_perform 32 = .ok (.aload_n 0, 1) := by decide +kernel
theorem dX3_perform_33 : decode cX3_perform 33 = .ok (.getfield 39, 3) := by decide +kernel
theorem dX3_perform_36 : decode cX3_perform 36 = .ok (.getfield 94, 3) := by decide +kernel
theorem dX3_perform_39 : decode cX3_perform 39 = .ok (.if_icmp .ge 73, 3) := by decide +kernel
theorem dX3_perform_42 : decode cX3_perform 42 = .ok (.aload_n 0, 1) := by decide +kernel
theorem dX3_perform_43 : decode cX3_perform 43 = .ok (.getfield 10, 3) := by decide +kernel
theorem dX3_perform_46 : decode cX3_perform 46 = .ok (.aload_n 0, 1) := by decide +kernel
theorem dX3_perform_47 : decode cX3_perform 47 = .ok (.getfield 39, 3) := by decide +kernel
theorem dX3_perform_50 : decode cX3_perform 50 = .ok (.iload_n 2, 1) := by decide +kernel
theorem dX3_perform_51 : decode cX3_perform 51 = .ok (.invokevirtual 97, 3) := by decide +kernel
theorem dX3_perform_54 : decode cX3_perform 54 = .ok (.aload_n 0, 1) := by decide +kernel
theorem dX3_perform_55 : decode cX3_perform 55 = .ok (.getfield 39, 3) := by decide +kernel
theorem dX3_perform_58 : decode cX3_perform 58 = .ok (.iload_n 2, 1) := by decide +kernel
theorem dX3_perform_59 : decode cX3_perform 59 = .ok (.invokevirtual 100, 3) := by decide +kernel
theorem dX3_perform_62 : decode cX3_perform 62 = .ok (.aload_n 0, 1) := by decide +kernel
theorem dX3_perform_63 : decode cX3_perform 63 = .ok (.getfield 39, 3) := by decide +kernel
theorem dX3_perform_66 : decode cX3_perform 66 = .ok (.iload_n 2, 1) := by decide +kernel
theorem dX3_perform_67 : decode cX3_perform 67 = .ok (.invokevirtual 103, 3) := by decide +kernel
theorem dX3_perform_70 : decode cX3_perform 70 = .ok (.invokevirtual 106, 3) := by decide +kernel
theorem dX3_perform_73 : decode cX3_perform 73 = .ok (.istore_n 3, 1) := by decide +kernel
theorem dX3_perform_74 : decode cX3_perform 74 = .ok (.iload_n 3, 1) := by decide +kernel
theorem dX3_perform_75 : decode cX3_perform 75 = .ok (.invokestatic 110, 3) := by decide +kernel
theorem dX3_perform_78 : decode cX3_perform 78 = .ok (.ifCond .eq 28, 3) := by decide +kernel
theorem dX3_perform_81 : decode cX3_perform 81 = .ok (.aload_n 0, 1) := by decide +kernel
theorem dX3_perform_82 : decode cX3_perform 82 = .ok (.getfield 10, 3) := by decide +kernel
theorem dX3_perform_85 : decode cX3_perform 85 = .ok (.aload_n 0, 1) := by decide +kernel
theorem dX3_perform_86 : decode cX3_perform 86 = .ok (.getfield 16, 3) := by decide +kernel
theorem dX3_perform_89 : decode cX3_perform 89 = .ok (.invokevirtual 50, 3) := by decide +kernel
theorem dX3_perform_92 : decode cX3_perform 92 = .ok (.aload_n 0, 1) := by decide +kernel
theorem dX3_perform_93 : decode cX3_perform 93 = .ok (.iload_n 2, 1) := by decide +kernel
theorem dX3_perform_94 : decode cX3_perform 94 = .ok (.putfield 43, 3) := by decide +kernel
theorem dX3_perform_97 : decode cX3_perform 97 = .ok (.aload_n 0, 1) := by decide +kernel
theorem dX3_perform_98 : decode cX3_perform 98 = .ok (.iload_n 3, 1) := by decide +kernel
theorem dX3_perform_99 : decode cX3_perform 99 = .ok (.putfield 47, 3) := by decide +kernel
theorem dX3_perform_102 : decode cX3_perform 102 = .ok (.sipush (-10004), 3) := by decide +kernel
theorem dX3_perform_105 : decode cX3_perform 105 = .ok (.ireturn, 1) := by decide +kernel
theorem dX3_perform_106 : decode cX3_perform 106 = .ok (.iinc 2 1, 3) := by decide +kernel
theorem dX3_perform_109 : decode cX3_perform 109 = .ok (.goto (-78), 3) := by decide +kernel
theorem dX3_perform_112 : decode cX3_perform 112 = .ok (.aload_n 0, 1) := by decide +kernel
theorem dX3_perform_113 : decode cX3_perform 113 = .ok (.aload_n 0, 1) := by decide +kernel
theorem dX3_perform_114 : decode cX3_perform 114 = .ok (.getfield 39, 3) := by decide +kernel
theorem dX3_perform_117 : decode cX3_perform 117 = .ok (.getfield 94, 3) := by decide +kernel
theorem dX3_perform_120 : decode cX3_perform 120 = .ok (.invokevirtual 58, 3) := by decide +kernel
theorem dX3_perform_123 : decode cX3_perform 123 = .ok (.ireturn, 1) := by decide +kernel
theorem dX3_stopped_0 : decode cX3_stopped 0 = .ok (.iload_n 1, 1) := by decide +kernel
theorem dX3_stopped_1 : decode cX3_stopped 1 = .ok (.lookupswitch 37 #[(0, 27), (1, 32)], 27) := by decide +kernel
theorem dX3_stopped_28 : decode cX3_stopped 28 = .ok (.aload_n 0, 1) := by decide +kernel
theorem dX3_stopped_29 : decode cX3_stopped 29 = .ok (.getfield 43, 3) := by decide +kernel
theorem dX3_stopped_32 : decode cX3_stopped 32 = .ok (.ireturn, 1) := by decide +kernel
theorem dX3_stopped_33 : decode cX3_stopped 33 = .ok (.aload_n 0, 1) := by decide +kernel
theorem dX3_stopped_34 : decode cX3_stopped 34 = .ok (.getfield 47, 3) := by decide +kernel
theorem dX3_stopped_37 : decode cX3_stopped 37 = .ok (.ireturn, 1) := by decide +kernel
theorem dX3_stopped_38 : decode cX3_stopped 38 = .ok (.sipush (-10002), 3) := by decide +kernel
theorem dX3_stopped_41 : decode cX3_stopped 41 = .ok (.ireturn, 1) := by decide +kernel
set_option maxRecDepth 20000 in
theorem ggX3_kite_X2_aboutKite : GoodIn wsX3_kite wsX2_aboutKite := goodIn_r _ [5, 6, 7, 8, 9, 10, 11, 12, 13, 14, 15, 3, 16, 17, 18, 19, 20, 21, 22, 23, 24, 25, 26, 27, 28, 38, 39, 40, 41, 42, 43, 44, 45, 46, 47, 48, 49] (by decide +kernel) (by decide +kernel)
set_option maxRecDepth 20000 in
theorem gX3_kite_X2_aboutKite_n121 : GoodIn wsX3_kite (wsX2_aboutKite) := ggX3_kite_X2_aboutKite
theorem dX3_kite_0 : decode cX3_kite 0 = .ok (.aload_n 0, 1) := by decide +kernel
theorem dX3_kite_1 : decode cX3_kite 1 = .ok (.getfield 10, 3) := by decide +kernel
theorem dX3_kite_4 : decode cX3_kite 4 = .ok (.iload_n 1, 1) := by decide +kernel
theorem dX3_kite_5 : decode cX3_kite 5 = .ok (.iload_n 2, 1) := by decide +kernel
theorem dX3_kite_6 : decode cX3_kite 6 = .ok (.invokevirtual 121, 3) := by decide +kernel
theorem dX3_kite_9 : decode cX3_kite 9 = .ok (.ireturn, 1) := by decide +kernel
set_option maxRecDepth 20000 in
theorem ggX3_string_X2_aboutString : GoodIn wsX3_string wsX2_aboutString := goodIn_r _ [5, 6, 7, 8, 9, 10, 11, 12, 13, 3, 14, 15, 16, 17, 18, 19, 20, 21, 22, 23, 24, 25, 26, 27, 28, 29, 30, 31, 32, 33, 43, 44, 45, 46, 47, 48, 49, 50, 51, 52, 53, 54] (by decide +kernel) (by decide +kernel)
set_option maxRecDepth 20000 in
theorem gX3_string_X2_aboutString_n124 : GoodIn wsX3_string (wsX2_aboutString) := ggX3_string_X2_aboutString
theorem dX3_string_0 : decode cX3_string 0 = .ok (.aload_n 0, 1) := by decide +kernel
theorem dX3_string_1 : decode cX3_string 1 = .ok (.getfield 10, 3) := by decide +kernel
theorem dX3_string_4 : decode cX3_string 4 = .ok (.iload_n 1, 1) := by decide +kernel
theorem dX3_string_5 : decode cX3_string 5 = .ok (.iload_n 2, 1) := by decide +kernel
theorem dX3_string_6 : decode cX3_string 6 = .ok (.invokevirtual 124, 3) := by decide +kernel
theorem dX3_string_9 : decode cX3_string 9 = .ok (.ireturn, 1) := by decide +kernel
set_option maxRecDepth 20000 in
theorem ggX3_drawn_X2_kiteAtPoint : GoodIn wsX3_drawn wsX2_kiteAtPoint := goodIn_r _ [5, 6, 7, 8, 9, 10, 20, 21, 22, 23, 24, 25, 26, 27, 28, 29, 30, 31] (by decide +kernel) (by decide +kernel)
set_option maxRecDepth 20000 in
theorem gX3_drawn_X2_kiteAtPoint_n127 : GoodIn wsX3_drawn (wsX2_kiteAtPoint) := ggX3_drawn_X2_kiteAtPoint
theorem dX3_drawn_0 : decode cX3_drawn 0 = .ok (.aload_n 0, 1) := by decide +kernel
theorem dX3_drawn_1 : decode cX3_drawn 1 = .ok (.getfield 10, 3) := by decide +kernel
theorem dX3_drawn_4 : decode cX3_drawn 4 = .ok (.iload_n 1, 1) := by decide +kernel
theorem dX3_drawn_5 : decode cX3_drawn 5 = .ok (.iload_n 2, 1) := by decide +kernel
theorem dX3_drawn_6 : decode cX3_drawn 6 = .ok (.invokevirtual 127, 3) := by decide +kernel
theorem dX3_drawn_9 : decode cX3_drawn 9 = .ok (.ireturn, 1) := by decide +kernel
set_option maxRecDepth 20000 in
theorem ggX3_share_X2_thousandthsOf : GoodIn wsX3_share wsX2_thousandthsOf := goodIn_r _ [5, 6, 7, 8, 9, 10, 3, 11, 12, 13, 14, 15, 25, 26, 27, 28, 29, 30, 31, 32, 33, 34, 35, 36] (by decide +kernel) (by decide +kernel)
set_option maxRecDepth 20000 in
theorem gX3_share_X2_thousandthsOf_n130 : GoodIn wsX3_share (wsX2_thousandthsOf) := ggX3_share_X2_thousandthsOf
theorem dX3_share_0 : decode cX3_share 0 = .ok (.aload_n 0, 1) := by decide +kernel
theorem dX3_share_1 : decode cX3_share 1 = .ok (.getfield 10, 3) := by decide +kernel
theorem dX3_share_4 : decode cX3_share 4 = .ok (.iload_n 1, 1) := by decide +kernel
theorem dX3_share_5 : decode cX3_share 5 = .ok (.invokevirtual 130, 3) := by decide +kernel
theorem dX3_share_8 : decode cX3_share 8 = .ok (.ireturn, 1) := by decide +kernel
set_option maxRecDepth 20000 in
theorem ggX3_windOf_X2_windAt : GoodIn wsX3_windOf wsX2_windAt := goodIn_r _ [5, 6, 7, 8, 9, 19, 20, 21, 22, 23, 24, 25, 26, 27, 28, 29, 30] (by decide +kernel) (by decide +kernel)
set_option maxRecDepth 20000 in
theorem gX3_windOf_X2_windAt_n133 : GoodIn wsX3_windOf (wsX2_windAt) := ggX3_windOf_X2_windAt
theorem dX3_windOf_0 : decode cX3_windOf 0 = .ok (.aload_n 0, 1) := by decide +kernel
theorem dX3_windOf_1 : decode cX3_windOf 1 = .ok (.getfield 10, 3) := by decide +kernel
theorem dX3_windOf_4 : decode cX3_windOf 4 = .ok (.iload_n 1, 1) := by decide +kernel
theorem dX3_windOf_5 : decode cX3_windOf 5 = .ok (.invokevirtual 133, 3) := by decide +kernel
theorem dX3_windOf_8 : decode cX3_windOf 8 = .ok (.ireturn, 1) := by decide +kernel
set_option maxRecDepth 20000 in
theorem ggX3_ifRead_X2_aboutReading : GoodIn wsX3_ifRead wsX2_aboutReading := goodIn_r _ [5, 6, 7, 8, 9, 10, 11, 3, 12, 13, 14, 15, 16, 17, 18, 19, 20, 21, 22, 23, 24, 25, 26, 27, 28, 29, 30, 31, 32, 33, 34, 35, 36, 37, 38, 39, 40, 41, 42, 43, 44, 45, 46, 47, 48, 49, 50, 51, 52, 62, 63, 64, 65, 66, 67, 68, 69, 70, 71, 72, 73] (by decide +kernel) (by decide +kernel)
set_option maxRecDepth 20000 in
theorem gX3_ifRead_X2_aboutReading_n136 : GoodIn wsX3_ifRead (wsX2_aboutReading) := ggX3_ifRead_X2_aboutReading
theorem dX3_ifRead_0 : decode cX3_ifRead 0 = .ok (.aload_n 0, 1) := by decide +kernel
theorem dX3_ifRead_1 : decode cX3_ifRead 1 = .ok (.getfield 10, 3) := by decide +kernel
theorem dX3_ifRead_4 : decode cX3_ifRead 4 = .ok (.iload_n 1, 1) := by decide +kernel
theorem dX3_ifRead_5 : decode cX3_ifRead 5 = .ok (.iload_n 2, 1) := by decide +kernel
theorem dX3_ifRead_6 : decode cX3_ifRead 6 = .ok (.invokevirtual 136, 3) := by decide +kernel
theorem dX3_ifRead_9 : decode cX3_ifRead 9 = .ok (.ireturn, 1) := by decide +kernel
set_option maxRecDepth 20000 in
theorem ggX3_readsToCut_X2_readingsUntilCut : GoodIn wsX3_readsToCut wsX2_readingsUntilCut := goodIn_r _ [5, 6, 7, 8, 9, 10, 11, 3, 12, 13, 14, 15, 16, 17, 18, 19, 20, 21, 22, 23, 24, 25, 26, 27, 28, 29, 30, 31, 32, 33, 34, 35, 36, 37, 38, 39, 40, 41, 42, 43, 44, 45, 55, 56, 57, 58, 59, 60, 61, 62, 63, 64, 65, 66] (by decide +kernel) (by decide +kernel)
set_option maxRecDepth 20000 in
theorem gX3_readsToCut_X2_readingsUntilCut_n139 : GoodIn wsX3_readsToCut (wsX2_readingsUntilCut) := ggX3_readsToCut_X2_readingsUntilCut
theorem dX3_readsToCut_0 : decode cX3_readsToCut 0 = .ok (.aload_n 0, 1) := by decide +kernel
theorem dX3_readsToCut_1 : decode cX3_readsToCut 1 = .ok (.getfield 10, 3) := by decide +kernel
theorem dX3_readsToCut_4 : decode cX3_readsToCut 4 = .ok (.iload_n 1, 1) := by decide +kernel
theorem dX3_readsToCut_5 : decode cX3_readsToCut 5 = .ok (.invokevirtual 139, 3) := by decide +kernel
theorem dX3_readsToCut_8 : decode cX3_readsToCut 8 = .ok (.ireturn, 1) := by decide +kernel
set_option maxRecDepth 20000 in
theorem ggX3_downIn_X2_copyFrom : GoodIn wsX3_downIn wsX2_copyFrom := goodIn_r _ [6, 7, 8, 9, 10, 11, 12, 13, 14, 15, 16, 17, 18, 52, 53, 54, 55, 56, 57, 58, 59, 60, 61, 62, 63] (by decide +kernel) (by decide +kernel)
set_option maxRecDepth 20000 in
theorem gX3_downIn_X2_copyFrom_n50 : GoodIn wsX3_downIn (wsX2_copyFrom) := ggX3_downIn_X2_copyFrom
set_option maxRecDepth 20000 in
theorem ggX3_downIn_X2_sinkUntil : GoodIn wsX3_downIn wsX2_sinkUntil := goodIn_r _ [21, 9, 8, 22, 23, 24, 4, 25, 26, 27, 28, 29, 10, 18, 30, 31, 32, 33, 34, 35, 36, 37, 38, 39, 40, 41, 42, 52, 53, 54, 55, 56, 57, 58, 59, 60, 61, 62, 63] (by decide +kernel) (by decide +kernel)
set_option maxRecDepth 20000 in
theorem gX3_downIn_X2_sinkUntil_n142 : GoodIn wsX3_downIn (wsX2_sinkUntil) := ggX3_downIn_X2_sinkUntil
theorem dX3_downIn_0 : decode cX3_downIn 0 = .ok (.aload_n 0, 1) := by decide +kernel
theorem dX3_downIn_1 : decode cX3_downIn 1 = .ok (.getfield 19, 3) := by decide +kernel
theorem dX3_downIn_4 : decode cX3_downIn 4 = .ok (.aload_n 0, 1) := by decide +kernel
theorem dX3_downIn_5 : decode cX3_downIn 5 = .ok (.getfield 10, 3) := by decide +kernel
theorem dX3_downIn_8 : decode cX3_downIn 8 = .ok (.invokevirtual 50, 3) := by decide +kernel
theorem dX3_downIn_11 : decode cX3_downIn 11 = .ok (.aload_n 0, 1) := by decide +kernel
theorem dX3_downIn_12 : decode cX3_downIn 12 = .ok (.getfield 19, 3) := by decide +kernel
theorem dX3_downIn_15 : decode cX3_downIn 15 = .ok (.iload_n 1, 1) := by decide +kernel
theorem dX3_downIn_16 : decode cX3_downIn 16 = .ok (.iload_n 2, 1) := by decide +kernel
theorem dX3_downIn_17 : decode cX3_downIn 17 = .ok (.invokevirtual 142, 3) := by decide +kernel
theorem dX3_downIn_20 : decode cX3_downIn 20 = .ok (.ireturn, 1) := by decide +kernel
set_option maxRecDepth 20000 in
theorem ggX3_safeWind_X2_greatestSafeWind : GoodIn wsX3_safeWind wsX2_greatestSafeWind := goodIn_r _ [5, 6, 7, 8, 3, 9, 10, 11, 12, 13, 14, 15, 16, 17, 18, 19, 20, 21, 22, 23, 24, 34, 35, 36, 37, 38, 39, 40, 41, 42, 43, 44, 45] (by decide +kernel) (by decide +kernel)
set_option maxRecDepth 20000 in
theorem gX3_safeWind_X2_greatestSafeWind_n145 : GoodIn wsX3_safeWind (wsX2_greatestSafeWind) := ggX3_safeWind_X2_greatestSafeWind
theorem dX3_safeWind_0 : decode cX3_safeWind 0 = .ok (.aload_n 0, 1) := by decide +kernel
theorem dX3_safeWind_1 : decode cX3_safeWind 1 = .ok (.getfield 10, 3) := by decide +kernel
theorem dX3_safeWind_4 : decode cX3_safeWind 4 = .ok (.invokevirtual 145, 3) := by decide +kernel
theorem dX3_safeWind_7 : decode cX3_safeWind 7 = .ok (.ireturn, 1) := by decide +kernel
set_option maxRecDepth 20000 in
theorem ggX3_count_X2_aboutAll : GoodIn wsX3_count wsX2_aboutAll := goodIn_r _ [7, 8, 9, 10, 11, 12, 13, 14, 5, 15, 16, 17, 18, 19, 20, 21, 22, 23, 24, 25, 26, 27, 28, 29, 30, 31, 32, 33, 34, 35, 36, 37, 38, 39, 40, 41, 42, 43, 44, 45, 46, 47, 48, 49, 50, 51, 52, 53, 54, 55, 56, 57, 58, 59, 60, 61, 62, 63, 85, 86, 87, 88, 89, 90, 91, 92, 93, 94, 95, 96] (by decide +kernel) (by decide +kernel)
set_option maxRecDepth 20000 in
theorem gX3_count_X2_aboutAll_n157 : GoodIn wsX3_count (wsX2_aboutAll) := ggX3_count_X2_aboutAll
theorem dX3_count_0 : decode cX3_count 0 = .ok (.iload_n 1, 1) := by decide +kernel
theorem dX3_count_1 : decode cX3_count 1 = .ok (.lookupswitch 43 #[(11, 27), (12, 35)], 27) := by decide +kernel
theorem dX3_count_28 : decode cX3_count 28 = .ok (.aload_n 0, 1) := by decide +kernel
theorem dX3_count_29 : decode cX3_count 29 = .ok (.getfield 32, 3) := by decide +kernel
theorem dX3_count_32 : decode cX3_count 32 = .ok (.getfield 151, 3) := by decide +kernel
theorem dX3_count_35 : decode cX3_count 35 = .ok (.ireturn, 1) := by decide +kernel
theorem dX3_count_36 : decode cX3_count 36 = .ok (.aload_n 0, 1) := by decide +kernel
theorem dX3_count_37 : decode cX3_count 37 = .ok (.getfield 39, 3) := by decide +kernel
theorem dX3_count_40 : decode cX3_count 40 = .ok (.getfield 154, 3) := by decide +kernel
theorem dX3_count_43 : decode cX3_count 43 = .ok (.ireturn, 1) := by decide +kernel
theorem dX3_count_44 : decode cX3_count 44 = .ok (.aload_n 0, 1) := by decide +kernel
theorem dX3_count_45 : decode cX3_count 45 = .ok (.getfield 10, 3) := by decide +kernel
theorem dX3_count_48 : decode cX3_count 48 = .ok (.iload_n 1, 1) := by decide +kernel
theorem dX3_count_49 : decode cX3_count 49 = .ok (.invokevirtual 157, 3) := by decide +kernel
theorem dX3_count_52 : decode cX3_count 52 = .ok (.ireturn, 1) := by decide +kernel
set_option maxRecDepth 20000 in
theorem ggX3_recorded_X3_isError : GoodIn wsX3_recorded wsX3_isError := goodIn_r _ [6] (by decide +kernel) (by decide +kernel)
set_option maxRecDepth 20000 in
theorem gX3_recorded_X3_isError : GoodIn wsX3_recorded (va_wsS RX3 110 yX3_isError wsX3_isError) := goodIn_app (goodIn_of _ (by decide +kernel)) ggX3_recorded_X3_isError
set_option maxRecDepth 20000 in
theorem ggX3_recorded_X0_add : GoodIn wsX3_recorded wsX0_add := goodIn_r _ [10, 11, 12, 13, 14, 15, 16, 17, 18, 19, 8, 20, 21, 22, 23, 24, 25, 26, 27, 28, 29, 30, 31, 32, 33, 34, 35, 36, 37, 47, 48, 49, 50, 51, 52, 53, 54, 55, 56, 57, 58, 59, 60, 61] (by decide +kernel) (by decide +kernel)
set_option maxRecDepth 20000 in
theorem gX3_recorded_X0_add_n160 : GoodIn wsX3_recorded (wsX0_add) := ggX3_recorded_X0_add
theorem dX3_recorded_0 : decode cX3_recorded 0 = .ok (.iload_n 1, 1) := by decide +kernel
theorem dX3_recorded_1 : decode cX3_recorded 1 = .ok (.sipush (-10005), 3) := by decide +kernel
theorem dX3_recorded_4 : decode cX3_recorded 4 = .ok (.if_icmp .eq 21, 3) := by decide +kernel
theorem dX3_recorded_7 : decode cX3_recorded 7 = .ok (.iload_n 1, 1) := by decide +kernel
theorem dX3_recorded_8 : decode cX3_recorded 8 = .ok (.invokestatic 110, 3) := by decide +kernel
theorem dX3_recorded_11 : decode cX3_recorded 11 = .ok (.ifCond .ne 14, 3) := by decide +kernel
theorem dX3_recorded_14 : decode cX3_recorded 14 = .ok (.aload_n 0, 1) := by decide +kernel
theorem dX3_recorded_15 : decode cX3_recorded 15 = .ok (.getfield 32, 3) := by decide +kernel
theorem dX3_recorded_18 : decode cX3_recorded 18 = .ok (.aload_n 0, 1) := by decide +kernel
theorem dX3_recorded_19 : decode cX3_recorded 19 = .ok (.getfield 16, 3) := by decide +kernel
theorem dX3_recorded_22 : decode cX3_recorded 22 = .ok (.invokevirtual 160, 3) := by decide +kernel
theorem dX3_recorded_25 : decode cX3_recorded 25 = .ok (.iload_n 1, 1) := by decide +kernel
theorem dX3_recorded_26 : decode cX3_recorded 26 = .ok (.ireturn, 1) := by decide +kernel
theorem dX3_isError_0 : decode cX3_isError 0 = .ok (.iload_n 0, 1) := by decide +kernel
theorem dX3_isError_1 : decode cX3_isError 1 = .ok (.sipush (-10001), 3) := by decide +kernel
theorem dX3_isError_4 : decode cX3_isError 4 = .ok (.if_icmp .gt 14, 3) := by decide +kernel
theorem dX3_isError_7 : decode cX3_isError 7 = .ok (.iload_n 0, 1) := by decide +kernel
theorem dX3_isError_8 : decode cX3_isError 8 = .ok (.sipush (-10005), 3) := by decide +kernel
theorem dX3_isError_11 : decode cX3_isError 11 = .ok (.if_icmp .eq 7, 3) := by decide +kernel
theorem dX3_isError_14 : decode cX3_isError 14 = .ok (.iconst 1, 1) := by decide +kernel
theorem dX3_isError_15 : decode cX3_isError 15 = .ok (.goto 4, 3) := by decide +kernel
theorem dX3_isError_18 : decode cX3_isError 18 = .ok (.iconst 0, 1) := by decide +kernel
theorem dX3_isError_19 : decode cX3_isError 19 = .ok (.ireturn, 1) := by decide +kernel
theorem dX3_isString_0 : decode cX3_isString 0 = .ok (.iload_n 0, 1) := by decide +kernel
theorem dX3_isString_1 : decode cX3_isString 1 = .ok (.ifCond .lt 12, 3) := by decide +kernel
theorem dX3_isString_4 : decode cX3_isString 4 = .ok (.iload_n 0, 1) := by decide +kernel
theorem dX3_isString_5 : decode cX3_isString 5 = .ok (.iconst 4, 1) := by decide +kernel
theorem dX3_isString_6 : decode cX3_isString 6 = .ok (.if_icmp .ge 7, 3) := by decide +kernel
theorem dX3_isString_9 : decode cX3_isString 9 = .ok (.iconst 1, 1) := by decide +kernel
theorem dX3_isString_10 : decode cX3_isString 10 = .ok (.goto 4, 3) := by decide +kernel
theorem dX3_isString_13 : decode cX3_isString 13 = .ok (.iconst 0, 1) := by decide +kernel
theorem dX3_isString_14 : decode cX3_isString 14 = .ok (.ireturn, 1) := by decide +kernel
theorem dX3_isBeat_0 : decode cX3_isBeat 0 = .ok (.iload_n 0, 1) := by decide +kernel
theorem dX3_isBeat_1 : decode cX3_isBeat 1 = .ok (.ifCond .lt 13, 3) := by decide +kernel
theorem dX3_isBeat_4 : decode cX3_isBeat 4 = .ok (.iload_n 0, 1) := by decide +kernel
theorem dX3_isBeat_5 : decode cX3_isBeat 5 = .ok (.bipush 8, 2) := by decide +kernel
theorem dX3_isBeat_7 : decode cX3_isBeat 7 = .ok (.if_icmp .ge 7, 3) := by decide +kernel
theorem dX3_isBeat_10 : decode cX3_isBeat 10 = .ok (.iconst 1, 1) := by decide +kernel
theorem dX3_isBeat_11 : decode cX3_isBeat 11 = .ok (.goto 4, 3) := by decide +kernel
theorem dX3_isBeat_14 : decode cX3_isBeat 14 = .ok (.iconst 0, 1) := by decide +kernel
theorem dX3_isBeat_15 : decode cX3_isBeat 15 = .ok (.ireturn, 1) := by decide +kernel
theorem dX3_isNumber_0 : decode cX3_isNumber 0 = .ok (.iload_n 0, 1) := by decide +kernel
theorem dX3_isNumber_1 : decode cX3_isNumber 1 = .ok (.sipush (-999), 3) := by decide +kernel
theorem dX3_isNumber_4 : decode cX3_isNumber 4 = .ok (.if_icmp .lt 14, 3) := by decide +kernel
theorem dX3_isNumber_7 : decode cX3_isNumber 7 = .ok (.iload_n 0, 1) := by decide +kernel
theorem dX3_isNumber_8 : decode cX3_isNumber 8 = .ok (.sipush 999, 3) := by decide +kernel
theorem dX3_isNumber_11 : decode cX3_isNumber 11 = .ok (.if_icmp .gt 7, 3) := by decide +kernel
theorem dX3_isNumber_14 : decode cX3_isNumber 14 = .ok (.iconst 1, 1) := by decide +kernel
theorem dX3_isNumber_15 : decode cX3_isNumber 15 = .ok (.goto 4, 3) := by decide +kernel
theorem dX3_isNumber_18 : decode cX3_isNumber 18 = .ok (.iconst 0, 1) := by decide +kernel
theorem dX3_isNumber_19 : decode cX3_isNumber 19 = .ok (.ireturn, 1) := by decide +kernel
