set_option maxRecDepth 20000 in
theorem ggX3_init_X0_init : GoodIn wsX3_init wsX0_init := goodIn_r _ [14, 15, 2, 3, 16, 17, 18, 19, 20, 39, 40, 41, 42, 43] (by decide +kernel) (by decide +kernel)
set_option maxRecDepth 20000 in
theorem gX3_init_X0_init_n11 : GoodIn wsX3_init (wsX0_init) := ggX3_init_X0_init
set_option maxRecDepth 20000 in
theorem ggX3_init_X1_init : GoodIn wsX3_init wsX1_init := goodIn_r _ [22, 23, 2, 3, 24, 25, 26, 27, 16, 28, 29, 30, 31, 32, 33, 34, 35, 36, 37, 38, 62, 63, 48, 49, 50, 51, 52, 53, 54, 55, 56, 57, 58, 59, 60, 61] (by decide +kernel) (by decide +kernel)
set_option maxRecDepth 20000 in
theorem gX3_init_X1_init_n20 : GoodIn wsX3_init (wsX1_init) := ggX3_init_X1_init
theorem dX3_init_0 : decode cX3_init 0 = .ok (.aload_n 0, 1) := by decide +kernel
theorem dX3_init_1 : decode cX3_init 1 = .ok (.invokespecial 3, 3) := by decide +kernel
theorem dX3_init_4 : decode cX3_init 4 = .ok (.aload_n 0, 1) := by decide +kernel
theorem dX3_init_5 : decode cX3_init 5 = .ok (.new 9, 3) := by decide +kernel
theorem dX3_init_8 : decode cX3_init 8 = .ok (.dup, 1) := by decide +kernel
theorem dX3_init_9 : decode cX3_init 9 = .ok (.invokespecial 11, 3) := by decide +kernel
theorem dX3_init_12 : decode cX3_init 12 = .ok (.putfield 12, 3) := by decide +kernel
theorem dX3_init_15 : decode cX3_init 15 = .ok (.aload_n 0, 1) := by decide +kernel
theorem dX3_init_16 : decode cX3_init 16 = .ok (.new 18, 3) := by decide +kernel
theorem dX3_init_19 : decode cX3_init 19 = .ok (.dup, 1) := by decide +kernel
theorem dX3_init_20 : decode cX3_init 20 = .ok (.invokespecial 20, 3) := by decide +kernel
theorem dX3_init_23 : decode cX3_init 23 = .ok (.putfield 21, 3) := by decide +kernel
theorem dX3_init_26 : decode cX3_init 26 = .ok (.aload_n 0, 1) := by decide +kernel
theorem dX3_init_27 : decode cX3_init 27 = .ok (.aload_n 0, 1) := by decide +kernel
theorem dX3_init_28 : decode cX3_init 28 = .ok (.getfield 21, 3) := by decide +kernel
theorem dX3_init_31 : decode cX3_init 31 = .ok (.getfield 25, 3) := by decide +kernel
theorem dX3_init_34 : decode cX3_init 34 = .ok (.putfield 29, 3) := by decide +kernel
theorem dX3_init_37 : decode cX3_init 37 = .ok (.return_, 1) := by decide +kernel
set_option maxRecDepth 20000 in
theorem ggX3_startAnew_X0_takeAllAway : GoodIn wsX3_startAnew wsX0_takeAllAway := goodIn_r _ [8, 9, 10, 11, 12, 13, 35, 36, 37, 38, 39] (by decide +kernel) (by decide +kernel)
set_option maxRecDepth 20000 in
theorem gX3_startAnew_X0_takeAllAway : GoodIn wsX3_startAnew (wsV RX3 30 RX0 yX0_takeAllAway wsX0_takeAllAway) := goodIn_app (goodIn_of _ (by decide +kernel)) ggX3_startAnew_X0_takeAllAway
set_option maxRecDepth 20000 in
theorem ggX3_startAnew_X1_startAnew : GoodIn wsX3_startAnew wsX1_startAnew := goodIn_r _ [18, 19, 20, 21, 22, 23, 24, 25, 26, 27, 28, 29, 30, 11, 12, 13, 40, 41, 42, 43, 44, 45, 46, 47, 48, 49, 50, 51, 52, 53, 54, 55] (by decide +kernel) (by decide +kernel)
set_option maxRecDepth 20000 in
theorem gX3_startAnew_X1_startAnew : GoodIn wsX3_startAnew (wsV RX3 33 RX1 yX1_startAnew wsX1_startAnew) := goodIn_app (goodIn_of _ (by decide +kernel)) ggX3_startAnew_X1_startAnew
theorem dX3_startAnew_0 : decode cX3_startAnew 0 = .ok (.aload_n 0, 1) := by decide +kernel
theorem dX3_startAnew_1 : decode cX3_startAnew 1 = .ok (.getfield 12, 3) := by decide +kernel
theorem dX3_startAnew_4 : decode cX3_startAnew 4 = .ok (.invokevirtual 30, 3) := by decide +kernel
theorem dX3_startAnew_7 : decode cX3_startAnew 7 = .ok (.aload_n 0, 1) := by decide +kernel
theorem dX3_startAnew_8 : decode cX3_startAnew 8 = .ok (.getfield 21, 3) := by decide +kernel
theorem dX3_startAnew_11 : decode cX3_startAnew 11 = .ok (.iload_n 1, 1) := by decide +kernel
theorem dX3_startAnew_12 : decode cX3_startAnew 12 = .ok (.iload_n 2, 1) := by decide +kernel
theorem dX3_startAnew_13 : decode cX3_startAnew 13 = .ok (.invokevirtual 33, 3) := by decide +kernel
theorem dX3_startAnew_16 : decode cX3_startAnew 16 = .ok (.aload_n 0, 1) := by decide +kernel
theorem dX3_startAnew_17 : decode cX3_startAnew 17 = .ok (.iconst 0, 1) := by decide +kernel
theorem dX3_startAnew_18 : decode cX3_startAnew 18 = .ok (.putfield 37, 3) := by decide +kernel
theorem dX3_startAnew_21 : decode cX3_startAnew 21 = .ok (.return_, 1) := by decide +kernel
set_option maxRecDepth 20000 in
theorem ggX3_copyFrom_X0_copyFrom : GoodIn wsX3_copyFrom wsX0_copyFrom := goodIn_r _ [8, 9, 10, 11, 12, 13, 14, 15, 16, 40, 41, 42, 43, 44] (by decide +kernel) (by decide +kernel)
set_option maxRecDepth 20000 in
theorem gX3_copyFrom_X0_copyFrom : GoodIn wsX3_copyFrom (wsV RX3 41 RX0 yX0_copyFrom wsX0_copyFrom) := goodIn_app (goodIn_of _ (by decide +kernel)) ggX3_copyFrom_X0_copyFrom
set_option maxRecDepth 20000 in
theorem ggX3_copyFrom_X1_copyFrom : GoodIn wsX3_copyFrom wsX1_copyFrom := goodIn_r _ [21, 22, 23, 24, 25, 26, 27, 28, 29, 30, 31, 32, 33, 34, 35, 14, 15, 16, 45, 46, 47, 48, 49, 50, 51, 52, 53, 54, 55, 56, 57, 58, 59, 60] (by decide +kernel) (by decide +kernel)
set_option maxRecDepth 20000 in
theorem gX3_copyFrom_X1_copyFrom : GoodIn wsX3_copyFrom (wsV RX3 45 RX1 yX1_copyFrom wsX1_copyFrom) := goodIn_app (goodIn_of _ (by decide +kernel)) ggX3_copyFrom_X1_copyFrom
theorem dX3_copyFrom_0 : decode cX3_copyFrom 0 = .ok (.aload_n 0, 1) := by decide +kernel
theorem dX3_copyFrom_1 : decode cX3_copyFrom 1 = .ok (.getfield 12, 3) := by decide +kernel
theorem dX3_copyFrom_4 : decode cX3_copyFrom 4 = .ok (.aload_n 1, 1) := by decide +kernel
theorem dX3_copyFrom_5 : decode cX3_copyFrom 5 = .ok (.getfield 12, 3) := by decide +kernel
theorem dX3_copyFrom_8 : decode cX3_copyFrom 8 = .ok (.invokevirtual 41, 3) := by decide +kernel
theorem dX3_copyFrom_11 : decode cX3_copyFrom 11 = .ok (.aload_n 0, 1) := by decide +kernel
theorem dX3_copyFrom_12 : decode cX3_copyFrom 12 = .ok (.getfield 21, 3) := by decide +kernel
theorem dX3_copyFrom_15 : decode cX3_copyFrom 15 = .ok (.aload_n 1, 1) := by decide +kernel
theorem dX3_copyFrom_16 : decode cX3_copyFrom 16 = .ok (.getfield 21, 3) := by decide +kernel
theorem dX3_copyFrom_19 : decode cX3_copyFrom 19 = .ok (.invokevirtual 45, 3) := by decide +kernel
theorem dX3_copyFrom_22 : decode cX3_copyFrom 22 = .ok (.aload_n 0, 1) := by decide +kernel
theorem dX3_copyFrom_23 : decode cX3_copyFrom 23 = .ok (.aload_n 1, 1) := by decide +kernel
theorem dX3_copyFrom_24 : decode cX3_copyFrom 24 = .ok (.getfield 37, 3) := by decide +kernel
theorem dX3_copyFrom_27 : decode cX3_copyFrom 27 = .ok (.putfield 37, 3) := by decide +kernel
theorem dX3_copyFrom_30 : decode cX3_copyFrom 30 = .ok (.return_, 1) := by decide +kernel
set_option maxRecDepth 20000 in
theorem ggX3_passSecond_X1_countTimersDown : GoodIn wsX3_passSecond wsX1_countTimersDown := goodIn_r _ [7, 8, 9, 95, 96, 97, 98, 99, 100, 101, 102, 103, 104, 105, 106, 107, 108, 109, 110] (by decide +kernel) (by decide +kernel)
set_option maxRecDepth 20000 in
theorem gX3_passSecond_X1_countTimersDown : GoodIn wsX3_passSecond (wsV RX3 48 RX1 yX1_countTimersDown wsX1_countTimersDown) := goodIn_app (goodIn_of _ (by decide +kernel)) ggX3_passSecond_X1_countTimersDown
set_option maxRecDepth 20000 in
theorem ggX3_passSecond_X1_run : GoodIn wsX3_passSecond wsX1_run := goodIn_r _ [13, 8, 14, 15, 16, 6, 17, 18, 19, 20, 21, 22, 23, 24, 25, 26, 27, 28, 29, 30, 31, 32, 33, 34, 35, 36, 37, 38, 39, 40, 9, 41, 42, 43, 44, 45, 46, 47, 48, 49, 50, 51, 52, 53, 54, 55, 56, 57, 58, 59, 60, 61, 62, 63, 64, 65, 66, 67, 68, 69, 70, 71, 72, 73, 74, 75, 76, 77, 78, 79, 80, 81, 82, 83, 84, 85, 86, 87, 88, 89, 90, 95, 96, 97, 98, 99, 100, 101, 102, 103, 104, 105, 106, 107, 108, 109, 110] (by decide +kernel) (by decide +kernel)
set_option maxRecDepth 20000 in
theorem gX3_passSecond_X1_run : GoodIn wsX3_passSecond (wsV RX3 51 RX1 yX1_run wsX1_run) := goodIn_app (goodIn_of _ (by decide +kernel)) ggX3_passSecond_X1_run
theorem dX3_passSecond_0 : decode cX3_passSecond 0 = .ok (.aload_n 0, 1) := by decide +kernel
theorem dX3_passSecond_1 : decode cX3_passSecond 1 = .ok (.dup, 1) := by decide +kernel
theorem dX3_passSecond_2 : decode cX3_passSecond 2 = .ok (.getfield 37, 3) := by decide +kernel
theorem dX3_passSecond_5 : decode cX3_passSecond 5 = .ok (.iconst 1, 1) := by decide +kernel
theorem dX3_passSecond_6 : decode cX3_passSecond 6 = .ok (.iadd, 1) := by decide +kernel
theorem dX3_passSecond_7 : decode cX3_passSecond 7 = .ok (.putfield 37, 3) := by decide +kernel
theorem dX3_passSecond_10 : decode cX3_passSecond 10 = .ok (.aload_n 0, 1) := by decide +kernel
theorem dX3_passSecond_11 : decode cX3_passSecond 11 = .ok (.getfield 21, 3) := by decide +kernel
theorem dX3_passSecond_14 : decode cX3_passSecond 14 = .ok (.invokevirtual 48, 3) := by decide +kernel
theorem dX3_passSecond_17 : decode cX3_passSecond 17 = .ok (.aload_n 0, 1) := by decide +kernel
theorem dX3_passSecond_18 : decode cX3_passSecond 18 = .ok (.getfield 21, 3) := by decide +kernel
theorem dX3_passSecond_21 : decode cX3_passSecond 21 = .ok (.invokevirtual 51, 3) := by decide +kernel
theorem dX3_passSecond_24 : decode cX3_passSecond 24 = .ok (.return_, 1) := by decide +kernel
set_option maxRecDepth 20000 in
theorem ggX3_stateOf_X0_isExtra : GoodIn wsX3_stateOf wsX0_isExtra := goodIn_r _ [6, 7, 8, 9, 10, 65, 66, 67, 68, 69] (by decide +kernel) (by decide +kernel)
set_option maxRecDepth 20000 in
theorem gX3_stateOf_X0_isExtra : GoodIn wsX3_stateOf (wsV RX3 54 RX0 yX0_isExtra wsX0_isExtra) := goodIn_app (goodIn_of _ (by decide +kernel)) ggX3_stateOf_X0_isExtra
set_option maxRecDepth 20000 in
theorem ggX3_stateOf_X3_stateOfExtra : GoodIn wsX3_stateOf wsX3_stateOfExtra := goodIn_r _ [15, 1, 16, 17, 18, 19, 5, 20, 21, 22, 23, 24, 25, 61, 62, 63, 64, 70, 71, 72, 73, 74, 75, 76, 77, 78, 79, 80, 81, 82, 83, 65, 66, 67, 68, 69] (by decide +kernel) (by decide +kernel)
set_option maxRecDepth 20000 in
theorem gX3_stateOf_X3_stateOfExtra : GoodIn wsX3_stateOf (wsV RX3 58 RX3 yX3_stateOfExtra wsX3_stateOfExtra) := goodIn_app (goodIn_of _ (by decide +kernel)) ggX3_stateOf_X3_stateOfExtra
set_option maxRecDepth 20000 in
theorem ggX3_stateOf_X3_stateOfNormal : GoodIn wsX3_stateOf wsX3_stateOfNormal := goodIn_r _ [29, 1, 16, 17, 18, 19, 5, 20, 21, 22, 23, 24, 25, 30, 31, 32, 33, 34, 35, 36, 37, 38, 39, 40, 41, 42, 43, 44, 45, 46, 47, 48, 49, 50, 51, 52, 53, 54, 55, 56, 57, 58, 59, 60, 61, 62, 63, 64, 70, 71, 72, 73, 74, 75, 76, 77, 78, 79, 80, 81, 82, 83, 65, 66, 67, 68, 69, 84, 85] (by decide +kernel) (by decide +kernel)
set_option maxRecDepth 20000 in
theorem gX3_stateOf_X3_stateOfNormal : GoodIn wsX3_stateOf (wsV RX3 62 RX3 yX3_stateOfNormal wsX3_stateOfNormal) := goodIn_app (goodIn_of _ (by decide +kernel)) ggX3_stateOf_X3_stateOfNormal
theorem dX3_stateOf_0 : decode cX3_stateOf 0 = .ok (.aload_n 0, 1) := by decide +kernel
theorem dX3_stateOf_1 : decode cX3_stateOf 1 = .ok (.getfield 12, 3) := by decide +kernel
theorem dX3_stateOf_4 : decode cX3_stateOf 4 = .ok (.iload_n 1, 1) := by decide +kernel
theorem dX3_stateOf_5 : decode cX3_stateOf 5 = .ok (.invokevirtual 54, 3) := by decide +kernel
theorem dX3_stateOf_8 : decode cX3_stateOf 8 = .ok (.ifCond .eq 11, 3) := by decide +kernel
theorem dX3_stateOf_11 : decode cX3_stateOf 11 = .ok (.aload_n 0, 1) := by decide +kernel
theorem dX3_stateOf_12 : decode cX3_stateOf 12 = .ok (.iload_n 1, 1) := by decide +kernel
theorem dX3_stateOf_13 : decode cX3_stateOf 13 = .ok (.invokevirtual 58, 3) := by decide +kernel
theorem dX3_stateOf_16 : decode cX3_stateOf 16 = .ok (.goto 8, 3) := by decide +kernel
theorem dX3_stateOf_19 : decode cX3_stateOf 19 = .ok (.aload_n 0, 1) := by decide +kernel
theorem dX3_stateOf_20 : decode cX3_stateOf 20 = .ok (.iload_n 1, 1) := by decide +kernel
theorem dX3_stateOf_21 : decode cX3_stateOf 21 = .ok (.invokevirtual 62, 3) := by decide +kernel
theorem dX3_stateOf_24 : decode cX3_stateOf 24 = .ok (.ireturn, 1) := by decide +kernel
set_option maxRecDepth 20000 in
theorem ggX3_stateOfExtra_X0_pathOf : GoodIn wsX3_stateOfExtra wsX0_pathOf := goodIn_r _ [7, 8, 9, 10, 11, 6, 12, 31, 32, 33, 34, 35] (by decide +kernel) (by decide +kernel)
set_option maxRecDepth 20000 in
theorem gX3_stateOfExtra_X0_pathOf : GoodIn wsX3_stateOfExtra (wsV RX3 65 RX0 yX0_pathOf wsX0_pathOf) := goodIn_app (goodIn_of _ (by decide +kernel)) ggX3_stateOfExtra_X0_pathOf
theorem dX3_stateOfExtra_0 : decode cX3_stateOfExtra 0 = .ok (.aload_n 0, 1) := by decide +kernel
theorem dX3_stateOfExtra_1 : decode cX3_stateOfExtra 1 = .ok (.getfield 12, 3) := by decide +kernel
theorem dX3_stateOfExtra_4 : decode cX3_stateOfExtra 4 = .ok (.iload_n 1, 1) := by decide +kernel
theorem dX3_stateOfExtra_5 : decode cX3_stateOfExtra 5 = .ok (.invokevirtual 65, 3) := by decide +kernel
theorem dX3_stateOfExtra_8 : decode cX3_stateOfExtra 8 = .ok (.istore_n 2, 1) := by decide +kernel
theorem dX3_stateOfExtra_9 : decode cX3_stateOfExtra 9 = .ok (.aload_n 0, 1) := by decide +kernel
theorem dX3_stateOfExtra_10 : decode cX3_stateOfExtra 10 = .ok (.getfield 21, 3) := by decide +kernel
theorem dX3_stateOfExtra_13 : decode cX3_stateOfExtra 13 = .ok (.getfield 68, 3) := by decide +kernel
theorem dX3_stateOfExtra_16 : decode cX3_stateOfExtra 16 = .ok (.ifCond .ne 15, 3) := by decide +kernel
theorem dX3_stateOfExtra_19 : decode cX3_stateOfExtra 19 = .ok (.iload_n 2, 1) := by decide +kernel
theorem dX3_stateOfExtra_20 : decode cX3_stateOfExtra 20 = .ok (.aload_n 0, 1) := by decide +kernel
theorem dX3_stateOfExtra_21 : decode cX3_stateOfExtra 21 = .ok (.getfield 21, 3) := by decide +kernel
theorem dX3_stateOfExtra_24 : decode cX3_stateOfExtra 24 = .ok (.getfield 71, 3) := by decide +kernel
theorem dX3_stateOfExtra_27 : decode cX3_stateOfExtra 27 = .ok (.iand, 1) := by decide +kernel
theorem dX3_stateOfExtra_28 : decode cX3_stateOfExtra 28 = .ok (.ifCond .eq 5, 3) := by decide +kernel
theorem dX3_stateOfExtra_31 : decode cX3_stateOfExtra 31 = .ok (.iconst 5, 1) := by decide +kernel
theorem dX3_stateOfExtra_32 : decode cX3_stateOfExtra 32 = .ok (.ireturn, 1) := by decide +kernel
theorem dX3_stateOfExtra_33 : decode cX3_stateOfExtra 33 = .ok (.iload_n 2, 1) := by decide +kernel
theorem dX3_stateOfExtra_34 : decode cX3_stateOfExtra 34 = .ok (.aload_n 0, 1) := by decide +kernel
theorem dX3_stateOfExtra_35 : decode cX3_stateOfExtra 35 = .ok (.getfield 21, 3) := by decide +kernel
theorem dX3_stateOfExtra_38 : decode cX3_stateOfExtra 38 = .ok (.getfield 74, 3) := by decide +kernel
theorem dX3_stateOfExtra_41 : decode cX3_stateOfExtra 41 = .ok (.iand, 1) := by decide +kernel
theorem dX3_stateOfExtra_42 : decode cX3_stateOfExtra 42 = .ok (.ifCond .eq 7, 3) := by decide +kernel
theorem dX3_stateOfExtra_45 : decode cX3_stateOfExtra 45 = .ok (.iconst 4, 1) := by decide +kernel
theorem dX3_stateOfExtra_46 : decode cX3_stateOfExtra 46 = .ok (.goto 4, 3) := by decide +kernel
theorem dX3_stateOfExtra_49 : decode cX3_stateOfExtra 49 = .ok (.iconst 0, 1) := by decide +kernel
theorem dX3_stateOfExtra_50 : decode cX3_stateOfExtra 50 = .ok (.ireturn, 1) := by decide +kernel
set_option maxRecDepth 20000 in
theorem ggX3_stateOfNormal_X0_pathOf : GoodIn wsX3_stateOfNormal wsX0_pathOf := goodIn_r _ [7, 8, 9, 10, 11, 6, 12, 62, 63, 64, 65, 66] (by decide +kernel) (by decide +kernel)
set_option maxRecDepth 20000 in
theorem gX3_stateOfNormal_X0_pathOf : GoodIn wsX3_stateOfNormal (wsV RX3 65 RX0 yX0_pathOf wsX0_pathOf) := goodIn_app (goodIn_of _ (by decide +kernel)) ggX3_stateOfNormal_X0_pathOf
set_option maxRecDepth 20000 in
theorem ggX3_stateOfNormal_X0_firstEndOf : GoodIn wsX3_stateOfNormal wsX0_firstEndOf := goodIn_r _ [16, 17, 9, 10, 11, 6, 12, 8, 62, 63, 64, 65, 66] (by decide +kernel) (by decide +kernel)
set_option maxRecDepth 20000 in
theorem gX3_stateOfNormal_X0_firstEndOf : GoodIn wsX3_stateOfNormal (wsV RX3 77 RX0 yX0_firstEndOf wsX0_firstEndOf) := goodIn_app (goodIn_of _ (by decide +kernel)) ggX3_stateOfNormal_X0_firstEndOf
set_option maxRecDepth 20000 in
theorem ggX3_stateOfNormal_X1_segmentOf : GoodIn wsX3_stateOfNormal wsX1_segmentOf := goodIn_r _ [22, 23, 24, 25, 26, 27, 28, 29, 30, 48, 49, 50, 51, 52, 53, 54, 55, 56, 57, 58, 59, 60, 61, 67, 68] (by decide +kernel) (by decide +kernel)
set_option maxRecDepth 20000 in
theorem gX3_stateOfNormal_X1_segmentOf : GoodIn wsX3_stateOfNormal (wsV RX3 80 RX1 yX1_segmentOf wsX1_segmentOf) := goodIn_app (goodIn_of _ (by decide +kernel)) ggX3_stateOfNormal_X1_segmentOf
set_option maxRecDepth 20000 in
theorem ggX3_stateOfNormal_X0_secondEndOf : GoodIn wsX3_stateOfNormal wsX0_secondEndOf := goodIn_r _ [34, 35, 9, 10, 11, 6, 12, 8, 62, 63, 64, 65, 66] (by decide +kernel) (by decide +kernel)
set_option maxRecDepth 20000 in
theorem gX3_stateOfNormal_X0_secondEndOf : GoodIn wsX3_stateOfNormal (wsV RX3 83 RX0 yX0_secondEndOf wsX0_secondEndOf) := goodIn_app (goodIn_of _ (by decide +kernel)) ggX3_stateOfNormal_X0_secondEndOf
set_option maxRecDepth 20000 in
theorem ggX3_stateOfNormal_X1_spansInside : GoodIn wsX3_stateOfNormal wsX1_spansInside := goodIn_r _ [39, 23, 24, 40, 41, 42, 28, 43, 30, 48, 49, 50, 51, 52, 53, 54, 55, 56, 57, 58, 59, 60, 61, 67, 68] (by decide +kernel) (by decide +kernel)
set_option maxRecDepth 20000 in
theorem gX3_stateOfNormal_X1_spansInside : GoodIn wsX3_stateOfNormal (wsV RX3 89 RX1 yX1_spansInside wsX1_spansInside) := goodIn_app (goodIn_of _ (by decide +kernel)) ggX3_stateOfNormal_X1_spansInside
theorem dX3_stateOfNormal_0 : decode cX3_stateOfNormal 0 = .ok (.aload_n 0, 1) := by decide +kernel
theorem dX3_stateOfNormal_1 : decode cX3_stateOfNormal 1 = .ok (.getfield 12, 3) := by decide +kernel
theorem dX3_stateOfNormal_4 : decode cX3_stateOfNormal 4 = .ok (.iload_n 1, 1) := by decide +kernel
theorem dX3_stateOfNormal_5 : decode cX3_stateOfNormal 5 = .ok (.invokevirtual 65, 3) := by decide +kernel
theorem dX3_stateOfNormal_8 : decode cX3_stateOfNormal 8 = .ok (.istore_n 2, 1) := by decide +kernel
theorem dX3_stateOfNormal_9 : decode cX3_stateOfNormal 9 = .ok (.aload_n 0, 1) := by decide +kernel
theorem dX3_stateOfNormal_10 : decode cX3_stateOfNormal 10 = .ok (.getfield 21, 3) := by decide +kernel
theorem dX3_stateOfNormal_13 : decode cX3_stateOfNormal 13 = .ok (.aload_n 0, 1) := by decide +kernel
theorem dX3_stateOfNormal_14 : decode cX3_stateOfNormal 14 = .ok (.getfield 12, 3) := by decide +kernel
theorem dX3_stateOfNormal_17 : decode cX3_stateOfNormal 17 = .ok (.iload_n 1, 1) := by decide +kernel
theorem dX3_stateOfNormal_18 : decode cX3_stateOfNormal 18 = .ok (.invokevirtual 77, 3) := by decide +kernel
theorem dX3_stateOfNormal_21 : decode cX3_stateOfNormal 21 = .ok (.invokevirtual 80, 3) := by decide +kernel
theorem dX3_stateOfNormal_24 : decode cX3_stateOfNormal 24 = .ok (.istore_n 3, 1) := by decide +kernel
theorem dX3_stateOfNormal_25 : decode cX3_stateOfNormal 25 = .ok (.aload_n 0, 1) := by decide +kernel
theorem dX3_stateOfNormal_26 : decode cX3_stateOfNormal 26 = .ok (.getfield 21, 3) := by decide +kernel
theorem dX3_stateOfNormal_29 : decode cX3_stateOfNormal 29 = .ok (.aload_n 0, 1) := by decide +kernel
theorem dX3_stateOfNormal_30 : decode cX3_stateOfNormal 30 = .ok (.getfield 12, 3) := by decide +kernel
theorem dX3_stateOfNormal_33 : decode cX3_stateOfNormal 33 = .ok (.iload_n 1, 1) := by decide +kernel
theorem dX3_stateOfNormal_34 : decode cX3_stateOfNormal 34 = .ok (.invokevirtual 83, 3) := by decide +kernel
theorem dX3_stateOfNormal_37 : decode cX3_stateOfNormal 37 = .ok (.invokevirtual 80, 3) := by decide +kernel
theorem dX3_stateOfNormal_40 : decode cX3_stateOfNormal 40 = .ok (.istore 4, 2) := by decide +kernel
theorem dX3_stateOfNormal_42 : decode cX3_stateOfNormal 42 = .ok (.iload_n 2, 1) := by decide +kernel
theorem dX3_stateOfNormal_43 : decode cX3_stateOfNormal 43 = .ok (.aload_n 0, 1) := by decide +kernel
theorem dX3_stateOfNormal_44 : decode cX3_stateOfNormal 44 = .ok (.getfield 21, 3) := by decide +kernel
theorem dX3_stateOfNormal_47 : decode cX3_stateOfNormal 47 = .ok (.getfield 68, 3) := by decide +kernel
theorem dX3_stateOfNormal_50 : decode cX3_stateOfNormal 50 = .ok (.iand, 1) := by decide +kernel
theorem dX3_stateOfNormal_51 : decode cX3_stateOfNormal 51 = .ok (.ifCond .eq 7, 3) := by decide +kernel
theorem dX3_stateOfNormal_54 : decode cX3_stateOfNormal 54 = .ok (.iconst 1, 1) := by decide +kernel
theorem dX3_stateOfNormal_55 : decode cX3_stateOfNormal 55 = .ok (.goto 4, 3) := by decide +kernel
theorem dX3_stateOfNormal_58 : decode cX3_stateOfNormal 58 = .ok (.iconst 0, 1) := by decide +kernel
theorem dX3_stateOfNormal_59 : decode cX3_stateOfNormal 59 = .ok (.istore 5, 2) := by decide +kernel
theorem dX3_stateOfNormal_61 : decode cX3_stateOfNormal 61 = .ok (.iload 5, 2) := by decide +kernel
theorem dX3_stateOfNormal_63 : decode cX3_stateOfNormal 63 = .ok (.ifCond .eq 11, 3) := by decide +kernel
theorem dX3_stateOfNormal_66 : decode cX3_stateOfNormal 66 = .ok (.iload_n 3, 1) := by decide +kernel
theorem dX3_stateOfNormal_67 : decode cX3_stateOfNormal 67 = .ok (.iload 4, 2) := by decide +kernel
theorem dX3_stateOfNormal_69 : decode cX3_stateOfNormal 69 = .ok (.if_icmp .eq 5, 3) := by decide +kernel
theorem dX3_stateOfNormal_72 : decode cX3_stateOfNormal 72 = .ok (.iconst 3, 1) := by decide +kernel
theorem dX3_stateOfNormal_73 : decode cX3_stateOfNormal 73 = .ok (.ireturn, 1) := by decide +kernel
theorem dX3_stateOfNormal_74 : decode cX3_stateOfNormal 74 = .ok (.iload_n 2, 1) := by decide +kernel
theorem dX3_stateOfNormal_75 : decode cX3_stateOfNormal 75 = .ok (.aload_n 0, 1) := by decide +kernel
theorem dX3_stateOfNormal_76 : decode cX3_stateOfNormal 76 = .ok (.getfield 21, 3) := by decide +kernel
theorem dX3_stateOfNormal_79 : decode cX3_stateOfNormal 79 = .ok (.getfield 86, 3) := by decide +kernel
theorem dX3_stateOfNormal_82 : decode cX3_stateOfNormal 82 = .ok (.iand, 1) := by decide +kernel
theorem dX3_stateOfNormal_83 : decode cX3_stateOfNormal 83 = .ok (.aload_n 0, 1) := by decide +kernel
theorem dX3_stateOfNormal_84 : decode cX3_stateOfNormal 84 = .ok (.getfield 21, 3) := by decide +kernel
theorem dX3_stateOfNormal_87 : decode cX3_stateOfNormal 87 = .ok (.getfield 71, 3) := by decide +kernel
theorem dX3_stateOfNormal_90 : decode cX3_stateOfNormal 90 = .ok (.iconst (-1), 1) := by decide +kernel
theorem dX3_stateOfNormal_91 : decode cX3_stateOfNormal 91 = .ok (.ixor, 1) := by decide +kernel
theorem dX3_stateOfNormal_92 : decode cX3_stateOfNormal 92 = .ok (.iand, 1) := by decide +kernel
theorem dX3_stateOfNormal_93 : decode cX3_stateOfNormal 93 = .ok (.aload_n 0, 1) := by decide +kernel
theorem dX3_stateOfNormal_94 : decode cX3_stateOfNormal 94 = .ok (.getfield 21, 3) := by decide +kernel
theorem dX3_stateOfNormal_97 : decode cX3_stateOfNormal 97 = .ok (.getfield 68, 3) := by decide +kernel
theorem dX3_stateOfNormal_100 : decode cX3_stateOfNormal 100 = .ok (.iconst (-1), 1) := by decide +kernel
theorem dX3_stateOfNormal_101 : decode cX3_stateOfNormal 101 = .ok (.ixor, 1) := by decide +kernel
theorem dX3_stateOfNormal_102 : decode cX3_stateOfNormal 102 = .ok (.iand, 1) := by decide +kernel
theorem dX3_stateOfNormal_103 : decode cX3_stateOfNormal 103 = .ok (.istore 6, 2) := by decide +kernel
theorem dX3_stateOfNormal_105 : decode cX3_stateOfNormal 105 = .ok (.iload 5, 2) := by decide +kernel
theorem dX3_stateOfNormal_107 : decode cX3_stateOfNormal 107 = .ok (.ifCond .eq 16, 3) := by decide +kernel
theorem dX3_stateOfNormal_110 : decode cX3_stateOfNormal 110 = .ok (.iload 6, 2) := by decide +kernel
theorem dX3_stateOfNormal_112 : decode cX3_stateOfNormal 112 = .ok (.aload_n 0, 1) := by decide +kernel
theorem dX3_stateOfNormal_113 : decode cX3_stateOfNormal 113 = .ok (.getfield 21, 3) := by decide +kernel
theorem dX3_stateOfNormal_116 : decode cX3_stateOfNormal 116 = .ok (.iload_n 3, 1) := by decide +kernel
theorem dX3_stateOfNormal_117 : decode cX3_stateOfNormal 117 = .ok (.invokevirtual 89, 3) := by decide +kernel
theorem dX3_stateOfNormal_120 : decode cX3_stateOfNormal 120 = .ok (.iand, 1) := by decide +kernel
theorem dX3_stateOfNormal_121 : decode cX3_stateOfNormal 121 = .ok (.istore 6, 2) := by decide +kernel
theorem dX3_stateOfNormal_123 : decode cX3_stateOfNormal 123 = .ok (.iload 6, 2) := by decide +kernel
theorem dX3_stateOfNormal_125 : decode cX3_stateOfNormal 125 = .ok (.ifCond .eq 5, 3) := by decide +kernel
theorem dX3_stateOfNormal_128 : decode cX3_stateOfNormal 128 = .ok (.iconst 4, 1) := by decide +kernel
theorem dX3_stateOfNormal_129 : decode cX3_stateOfNormal 129 = .ok (.ireturn, 1) := by decide +kernel
theorem dX3_stateOfNormal_130 : decode cX3_stateOfNormal 130 = .ok (.iload 5, 2) := by decide +kernel
theorem dX3_stateOfNormal_132 : decode cX3_stateOfNormal 132 = .ok (.ifCond .eq 5, 3) := by decide +kernel
theorem dX3_stateOfNormal_135 : decode cX3_stateOfNormal 135 = .ok (.iconst 2, 1) := by decide +kernel
theorem dX3_stateOfNormal_136 : decode cX3_stateOfNormal 136 = .ok (.ireturn, 1) := by decide +kernel
theorem dX3_stateOfNormal_137 : decode cX3_stateOfNormal 137 = .ok (.iload_n 2, 1) := by decide +kernel
theorem dX3_stateOfNormal_138 : decode cX3_stateOfNormal 138 = .ok (.aload_n 0, 1) := by decide +kernel
theorem dX3_stateOfNormal_139 : decode cX3_stateOfNormal 139 = .ok (.getfield 21, 3) := by decide +kernel
theorem dX3_stateOfNormal_142 : decode cX3_stateOfNormal 142 = .ok (.getfield 71, 3) := by decide +kernel
theorem dX3_stateOfNormal_145 : decode cX3_stateOfNormal 145 = .ok (.iand, 1) := by decide +kernel
theorem dX3_stateOfNormal_146 : decode cX3_stateOfNormal 146 = .ok (.ifCond .eq 7, 3) := by decide +kernel
theorem dX3_stateOfNormal_149 : decode cX3_stateOfNormal 149 = .ok (.iconst 1, 1) := by decide +kernel
theorem dX3_stateOfNormal_150 : decode cX3_stateOfNormal 150 = .ok (.goto 4, 3) := by decide +kernel
theorem dX3_stateOfNormal_153 : decode cX3_stateOfNormal 153 = .ok (.iconst 0, 1) := by decide +kernel
theorem dX3_stateOfNormal_154 : decode cX3_stateOfNormal 154 = .ok (.ireturn, 1) := by decide +kernel
set_option maxRecDepth 20000 in
theorem ggX3_allInState_X0_has : GoodIn wsX3_allInState wsX0_has := goodIn_r _ [6, 7, 70, 71, 72, 73, 74] (by decide +kernel) (by decide +kernel)
set_option maxRecDepth 20000 in
theorem gX3_allInState_X0_has : GoodIn wsX3_allInState (wsV RX3 92 RX0 yX0_has wsX0_has) := goodIn_app (goodIn_of _ (by decide +kernel)) ggX3_allInState_X0_has
set_option maxRecDepth 20000 in
theorem ggX3_allInState_X3_stateOf : GoodIn wsX3_allInState wsX3_stateOf := goodIn_r _ [12, 1, 13, 14, 15, 5, 16, 17, 18, 19, 20, 21, 22, 23, 11, 24, 25, 26, 27, 28, 29, 7, 30, 3, 4, 6, 31, 32, 33, 34, 35, 36, 37, 38, 39, 40, 41, 42, 43, 44, 45, 46, 47, 48, 49, 50, 51, 52, 53, 54, 55, 56, 57, 58, 59, 60, 61, 62, 63, 64, 65, 66, 67, 68, 69, 70, 71, 72, 73, 74, 75, 76, 77, 78, 79, 80, 81, 82, 83, 84, 85, 86, 87, 88, 89, 90] (by decide +kernel) (by decide +kernel)
set_option maxRecDepth 20000 in
theorem gX3_allInState_X3_stateOf : GoodIn wsX3_allInState (wsV RX3 95 RX3 yX3_stateOf wsX3_stateOf) := goodIn_app (goodIn_of _ (by decide +kernel)) ggX3_allInState_X3_stateOf
theorem dX3_allInState_0 : decode cX3_allInState 0 = .ok (.iconst 0, 1) := by decide +kernel
theorem dX3_allInState_1 : decode cX3_allInState 1 = .ok (.istore_n 2, 1) := by decide +kernel
theorem dX3_allInState_2 : decode cX3_allInState 2 = .ok (.iconst 0, 1) := by decide +kernel
theorem dX3_allInState_3 : decode cX3_allInState 3 = .ok (.istore_n 3, 1) := by decide +kernel
theorem dX3_allInState_4 : decode cX3_allInState 4 = .ok (.iload_n 3, 1) := by decide +kernel
theorem dX3_allInState_5 : decode cX3_allInState 5 = .ok (.bipush 16, 2) := by decide +kernel
theorem dX3_allInState_7 : decode cX3_allInState 7 = .ok (.if_icmp .ge 35, 3) := by decide +kernel
theorem dX3_allInState_10 : decode cX3_allInState 10 = .ok (.aload_n 0, 1) := by decide +kernel
theorem dX3_allInState_11 : decode cX3_allInState 11 = .ok (.getfield 12, 3) := by decide +kernel
theorem dX3_allInState_14 : decode cX3_allInState 14 = .ok (.iload_n 3, 1) := by decide +kernel
theorem dX3_allInState_15 : decode cX3_allInState 15 = .ok (.invokevirtual 92, 3) := by decide +kernel
theorem dX3_allInState_18 : decode cX3_allInState 18 = .ok (.ifCond .eq 18, 3) := by decide +kernel
theorem dX3_allInState_21 : decode cX3_allInState 21 = .ok (.aload_n 0, 1) := by decide +kernel
theorem dX3_allInState_22 : decode cX3_allInState 22 = .ok (.iload_n 3, 1) := by decide +kernel
theorem dX3_allInState_23 : decode cX3_allInState 23 = .ok (.invokevirtual 95, 3) := by decide +kernel
theorem dX3_allInState_26 : decode cX3_allInState 26 = .ok (.iload_n 1, 1) := by decide +kernel
theorem dX3_allInState_27 : decode cX3_allInState 27 = .ok (.if_icmp .ne 9, 3) := by decide +kernel
theorem dX3_allInState_30 : decode cX3_allInState 30 = .ok (.iload_n 2, 1) := by decide +kernel
theorem dX3_allInState_31 : decode cX3_allInState 31 = .ok (.iconst 1, 1) := by decide +kernel
theorem dX3_allInState_32 : decode cX3_allInState 32 = .ok (.iload_n 3, 1) := by decide +kernel
theorem dX3_allInState_33 : decode cX3_allInState 33 = .ok (.ishl, 1) := by decide +kernel
theorem dX3_allInState_34 : decode cX3_allInState 34 = .ok (.ior, 1) := by decide +kernel
theorem dX3_allInState_35 : decode cX3_allInState 35 = .ok (.istore_n 2, 1) := by decide +kernel
theorem dX3_allInState_36 : decode cX3_allInState 36 = .ok (.iinc 3 1, 3) := by decide +kernel
theorem dX3_allInState_39 : decode cX3_allInState 39 = .ok (.goto (-35), 3) := by decide +kernel
theorem dX3_allInState_42 : decode cX3_allInState 42 = .ok (.iload_n 2, 1) := by decide +kernel
theorem dX3_allInState_43 : decode cX3_allInState 43 = .ok (.ireturn, 1) := by decide +kernel
set_option maxRecDepth 20000 in
theorem ggX3_countDelivered_X0_has : GoodIn wsX3_countDelivered wsX0_has := goodIn_r _ [6, 7, 72, 73, 74, 75, 76] (by decide +kernel) (by decide +kernel)
set_option maxRecDepth 20000 in
theorem gX3_countDelivered_X0_has : GoodIn wsX3_countDelivered (wsV RX3 92 RX0 yX0_has wsX0_has) := goodIn_app (goodIn_of _ (by decide +kernel)) ggX3_countDelivered_X0_has
set_option maxRecDepth 20000 in
theorem ggX3_countDelivered_X3_stateOf : GoodIn wsX3_countDelivered wsX3_stateOf := goodIn_r _ [12, 1, 13, 14, 15, 5, 16, 17, 18, 19, 20, 21, 22, 23, 11, 24, 25, 26, 27, 28, 29, 7, 30, 3, 4, 6, 31, 32, 33, 34, 35, 36, 37, 38, 39, 40, 41, 42, 43, 44, 45, 46, 47, 48, 49, 50, 51, 52, 53, 54, 55, 56, 57, 58, 59, 60, 61, 62, 63, 64, 65, 68, 69, 70, 71, 72, 73, 74, 75, 76, 77, 78, 79, 80, 81, 82, 83, 84, 85, 86, 87, 88, 89, 90, 91, 92] (by decide +kernel) (by decide +kernel)
set_option maxRecDepth 20000 in
theorem gX3_countDelivered_X3_stateOf : GoodIn wsX3_countDelivered (wsV RX3 95 RX3 yX3_stateOf wsX3_stateOf) := goodIn_app (goodIn_of _ (by decide +kernel)) ggX3_countDelivered_X3_stateOf
set_option maxRecDepth 20000 in
theorem ggX3_countDelivered_X5_isDelivery : GoodIn wsX3_countDelivered wsX5_isDelivery := goodIn_r _ [67] (by decide +kernel) (by decide +kernel)
set_option maxRecDepth 20000 in
theorem gX3_countDelivered_X5_isDelivery_n98 : GoodIn wsX3_countDelivered (wsX5_isDelivery) := ggX3_countDelivered_X5_isDelivery
theorem dX3_countDelivered_0 : decode cX3_countDelivered 0 = .ok (.iconst 0, 1) := by decide +kernel
theorem dX3_countDelivered_1 : decode cX3_countDelivered 1 = .ok (.istore_n 1, 1) := by decide +kernel
theorem dX3_countDelivered_2 : decode cX3_countDelivered 2 = .ok (.iconst 0, 1) := by decide +kernel
theorem dX3_countDelivered_3 : decode cX3_countDelivered 3 = .ok (.istore_n 2, 1) := by decide +kernel
theorem dX3_countDelivered_4 : decode cX3_countDelivered 4 = .ok (.iload_n 2, 1) := by decide +kernel
theorem dX3_countDelivered_5 : decode cX3_countDelivered 5 = .ok (.bipush 16, 2) := by decide +kernel
theorem dX3_countDelivered_7 : decode cX3_countDelivered 7 = .ok (.if_icmp .ge 34, 3) := by decide +kernel
theorem dX3_countDelivered_10 : decode cX3_countDelivered 10 = .ok (.aload_n 0, 1) := by decide +kernel
theorem dX3_countDelivered_11 : decode cX3_countDelivered 11 = .ok (.getfield 12, 3) := by decide +kernel
theorem dX3_countDelivered_14 : decode cX3_countDelivered 14 = .ok (.iload_n 2, 1) := by decide +kernel
theorem dX3_countDelivered_15 : decode cX3_countDelivered 15 = .ok (.invokevirtual 92, 3) := by decide +kernel
theorem dX3_countDelivered_18 : decode cX3_countDelivered 18 = .ok (.ifCond .eq 17, 3) := by decide +kernel
theorem dX3_countDelivered_21 : decode cX3_countDelivered 21 = .ok (.aload_n 0, 1) := by decide +kernel
theorem dX3_countDelivered_22 : decode cX3_countDelivered 22 = .ok (.iload_n 2, 1) := by decide +kernel
theorem dX3_countDelivered_23 : decode cX3_countDelivered 23 = .ok (.invokevirtual 95, 3) := by decide +kernel
theorem dX3_countDelivered_26 : decode cX3_countDelivered 26 = .ok (.invokestatic 98, 3) := by decide +kernel
theorem dX3_countDelivered_29 : decode cX3_countDelivered 29 = .ok (.ifCond .eq 6, 3) := by decide +kernel
theorem dX3_countDelivered_32 : decode cX3_countDelivered 32 = .ok (.iinc 1 1, 3) := by decide +kernel
theorem dX3_countDelivered_35 : decode cX3_countDelivered 35 = .ok (.iinc 2 1, 3) := by decide +kernel
theorem dX3_countDelivered_38 : decode cX3_countDelivered 38 = .ok (.goto (-34), 3) := by decide +kernel
theorem dX3_countDelivered_41 : decode cX3_countDelivered 41 = .ok (.iload_n 1, 1) := by decide +kernel
theorem dX3_countDelivered_42 : decode cX3_countDelivered 42 = .ok (.ireturn, 1) := by decide +kernel
set_option maxRecDepth 20000 in
theorem ggX3_hopsOf_X3_stateOf : GoodIn wsX3_hopsOf wsX3_stateOf := goodIn_r _ [7, 1, 8, 9, 10, 11, 12, 13, 14, 15, 16, 17, 18, 19, 6, 20, 2, 21, 22, 23, 24, 25, 26, 27, 28, 29, 30, 31, 32, 33, 34, 35, 36, 37, 38, 39, 40, 41, 42, 43, 44, 45, 46, 47, 48, 49, 50, 51, 52, 53, 54, 55, 56, 57, 58, 59, 60, 61, 62, 63, 64, 74, 75, 76, 77, 92, 93, 94, 95, 96, 78, 79, 80, 81, 82, 83, 84, 85, 86, 87, 88, 89, 90, 91, 97, 98] (by decide +kernel) (by decide +kernel)
set_option maxRecDepth 20000 in
theorem gX3_hopsOf_X3_stateOf : GoodIn wsX3_hopsOf (wsV RX3 95 RX3 yX3_stateOf wsX3_stateOf) := goodIn_app (goodIn_of _ (by decide +kernel)) ggX3_hopsOf_X3_stateOf
set_option maxRecDepth 20000 in
theorem ggX3_hopsOf_X5_isDelivery : GoodIn wsX3_hopsOf wsX5_isDelivery := goodIn_r _ [66] (by decide +kernel) (by decide +kernel)
set_option maxRecDepth 20000 in
theorem gX3_hopsOf_X5_isDelivery_n98 : GoodIn wsX3_hopsOf (wsX5_isDelivery) := ggX3_hopsOf_X5_isDelivery
set_option maxRecDepth 20000 in
theorem ggX3_hopsOf_X0_pathOf : GoodIn wsX3_hopsOf wsX0_pathOf := goodIn_r _ [24, 25, 26, 27, 28, 11, 29, 92, 93, 94, 95, 96] (by decide +kernel) (by decide +kernel)
set_option maxRecDepth 20000 in
theorem gX3_hopsOf_X0_pathOf : GoodIn wsX3_hopsOf (wsV RX3 65 RX0 yX0_pathOf wsX0_pathOf) := goodIn_app (goodIn_of _ (by decide +kernel)) ggX3_hopsOf_X0_pathOf
set_option maxRecDepth 20000 in
theorem ggX3_hopsOf_J6_bitCount_0f7a4 : GoodIn wsX3_hopsOf wsJ6_bitCount_0f7a4 := goodIn_r _ [70, 71, 72, 73] (by decide +kernel) (by decide +kernel)
set_option maxRecDepth 20000 in
theorem gX3_hopsOf_J6_bitCount_0f7a4 : GoodIn wsX3_hopsOf (va_wsS RX3 101 yJ6_bitCount_0f7a4 wsJ6_bitCount_0f7a4) := goodIn_app (goodIn_of _ (by decide +kernel)) ggX3_hopsOf_J6_bitCount_0f7a4
set_option maxRecDepth 20000 in
theorem ggX3_hopsOf_X0_firstEndOf : GoodIn wsX3_hopsOf wsX0_firstEndOf := goodIn_r _ [37, 38, 26, 27, 28, 11, 29, 25, 92, 93, 94, 95, 96] (by decide +kernel) (by decide +kernel)
set_option maxRecDepth 20000 in
theorem gX3_hopsOf_X0_firstEndOf : GoodIn wsX3_hopsOf (wsV RX3 77 RX0 yX0_firstEndOf wsX0_firstEndOf) := goodIn_app (goodIn_of _ (by decide +kernel)) ggX3_hopsOf_X0_firstEndOf
set_option maxRecDepth 20000 in
theorem ggX3_hopsOf_X1_segmentOf : GoodIn wsX3_hopsOf wsX1_segmentOf := goodIn_r _ [43, 44, 45, 46, 47, 48, 49, 50, 51, 78, 79, 80, 81, 82, 83, 84, 85, 86, 87, 88, 89, 90, 91, 97, 98] (by decide +kernel) (by decide +kernel)
set_option maxRecDepth 20000 in
theorem gX3_hopsOf_X1_segmentOf : GoodIn wsX3_hopsOf (wsV RX3 80 RX1 yX1_segmentOf wsX1_segmentOf) := goodIn_app (goodIn_of _ (by decide +kernel)) ggX3_hopsOf_X1_segmentOf
set_option maxRecDepth 20000 in
theorem ggX3_hopsOf_X1_spansInside : GoodIn wsX3_hopsOf wsX1_spansInside := goodIn_r _ [60, 44, 45, 61, 62, 63, 49, 64, 51, 78, 79, 80, 81, 82, 83, 84, 85, 86, 87, 88, 89, 90, 91, 97, 98] (by decide +kernel) (by decide +kernel)
set_option maxRecDepth 20000 in
theorem gX3_hopsOf_X1_spansInside : GoodIn wsX3_hopsOf (wsV RX3 89 RX1 yX1_spansInside wsX1_spansInside) := goodIn_app (goodIn_of _ (by decide +kernel)) ggX3_hopsOf_X1_spansInside
theorem dX3_hopsOf_0 : decode cX3_hopsOf 0 = .ok (.aload_n 0, 1) := by decide +kernel
theorem dX3_hopsOf_1 : decode cX3_hopsOf 1 = .ok (.iload_n 1, 1) := by decide +kernel
theorem dX3_hopsOf_2 : decode cX3_hopsOf 2 = .ok (.invokevirtual 95, 3) := by decide +kernel
theorem dX3_hopsOf_5 : decode cX3_hopsOf 5 = .ok (.istore_n 2, 1) := by decide +kernel
theorem dX3_hopsOf_6 : decode cX3_hopsOf 6 = .ok (.iload_n 2, 1) := by decide +kernel
theorem dX3_hopsOf_7 : decode cX3_hopsOf 7 = .ok (.invokestatic 98, 3) := by decide +kernel
theorem dX3_hopsOf_10 : decode cX3_hopsOf 10 = .ok (.ifCond .ne 6, 3) := by decide +kernel
theorem dX3_hopsOf_13 : decode cX3_hopsOf 13 = .ok (.bipush (-9), 2) := by decide +kernel
theorem dX3_hopsOf_15 : decode cX3_hopsOf 15 = .ok (.ireturn, 1) := by decide +kernel
theorem dX3_hopsOf_16 : decode cX3_hopsOf 16 = .ok (.aload_n 0, 1) := by decide +kernel
theorem dX3_hopsOf_17 : decode cX3_hopsOf 17 = .ok (.getfield 12, 3) := by decide +kernel
theorem dX3_hopsOf_20 : decode cX3_hopsOf 20 = .ok (.iload_n 1, 1) := by decide +kernel
theorem dX3_hopsOf_21 : decode cX3_hopsOf 21 = .ok (.invokevirtual 65, 3) := by decide +kernel
theorem dX3_hopsOf_24 : decode cX3_hopsOf 24 = .ok (.istore_n 3, 1) := by decide +kernel
theorem dX3_hopsOf_25 : decode cX3_hopsOf 25 = .ok (.iload_n 2, 1) := by decide +kernel
theorem dX3_hopsOf_26 : decode cX3_hopsOf 26 = .ok (.iconst 2, 1) := by decide +kernel
theorem dX3_hopsOf_27 : decode cX3_hopsOf 27 = .ok (.if_icmp .eq 8, 3) := by decide +kernel
theorem dX3_hopsOf_30 : decode cX3_hopsOf 30 = .ok (.iload_n 3, 1) := by decide +kernel
theorem dX3_hopsOf_31 : decode cX3_hopsOf 31 = .ok (.invokestatic 101, 3) := by decide +kernel
theorem dX3_hopsOf_34 : decode cX3_hopsOf 34 = .ok (.ireturn, 1) := by decide +kernel
theorem dX3_hopsOf_35 : decode cX3_hopsOf 35 = .ok (.aload_n 0, 1) := by decide +kernel
theorem dX3_hopsOf_36 : decode cX3_hopsOf 36 = .ok (.getfield 21, 3) := by decide +kernel
theorem dX3_hopsOf_39 : decode cX3_hopsOf 39 = .ok (.aload_n 0, 1) := by decide +kernel
theorem dX3_hopsOf_40 : decode cX3_hopsOf 40 = .ok (.getfield 12, 3) := by decide +kernel
theorem dX3_hopsOf_43 : decode cX3_hopsOf 43 = .ok (.iload_n 1, 1) := by decide +kernel
theorem dX3_hopsOf_44 : decode cX3_hopsOf 44 = .ok (.invokevirtual 77, 3) := by decide +kernel
theorem dX3_hopsOf_47 : decode cX3_hopsOf 47 = .ok (.invokevirtual 80, 3) := by decide +kernel
theorem dX3_hopsOf_50 : decode cX3_hopsOf 50 = .ok (.istore 4, 2) := by decide +kernel
theorem dX3_hopsOf_52 : decode cX3_hopsOf 52 = .ok (.aload_n 0, 1) := by decide +kernel
theorem dX3_hopsOf_53 : decode cX3_hopsOf 53 = .ok (.getfield 21, 3) := by decide +kernel
theorem dX3_hopsOf_56 : decode cX3_hopsOf 56 = .ok (.iload 4, 2) := by decide +kernel
theorem dX3_hopsOf_58 : decode cX3_hopsOf 58 = .ok (.invokevirtual 89, 3) := by decide +kernel
theorem dX3_hopsOf_61 : decode cX3_hopsOf 61 = .ok (.aload_n 0, 1) := by decide +kernel
theorem dX3_hopsOf_62 : decode cX3_hopsOf 62 = .ok (.getfield 21, 3) := by decide +kernel
theorem dX3_hopsOf_65 : decode cX3_hopsOf 65 = .ok (.getfield 68, 3) := by decide +kernel
theorem dX3_hopsOf_68 : decode cX3_hopsOf 68 = .ok (.iconst (-1), 1) := by decide +kernel
theorem dX3_hopsOf_69 : decode cX3_hopsOf 69 = .ok (.ixor, 1) := by decide +kernel
theorem dX3_hopsOf_70 : decode cX3_hopsOf 70 = .ok (.iand, 1) := by decide +kernel
theorem dX3_hopsOf_71 : decode cX3_hopsOf 71 = .ok (.istore 5, 2) := by decide +kernel
theorem dX3_hopsOf_73 : decode cX3_hopsOf 73 = .ok (.iload_n 3, 1) := by decide +kernel
theorem dX3_hopsOf_74 : decode cX3_hopsOf 74 = .ok (.iload 5, 2) := by decide +kernel
theorem dX3_hopsOf_76 : decode cX3_hopsOf 76 = .ok (.iand, 1) := by decide +kernel
theorem dX3_hopsOf_77 : decode cX3_hopsOf 77 = .ok (.invokestatic 101, 3) := by decide +kernel
theorem dX3_hopsOf_80 : decode cX3_hopsOf 80 = .ok (.iload 5, 2) := by decide +kernel
theorem dX3_hopsOf_82 : decode cX3_hopsOf 82 = .ok (.invokestatic 101, 3) := by decide +kernel
theorem dX3_hopsOf_85 : decode cX3_hopsOf 85 = .ok (.iadd, 1) := by decide +kernel
theorem dX3_hopsOf_86 : decode cX3_hopsOf 86 = .ok (.ireturn, 1) := by decide +kernel
set_option maxRecDepth 20000 in
theorem ggX3_sumOfHops_X0_has : GoodIn wsX3_sumOfHops wsX0_has := goodIn_r _ [6, 7, 83, 84, 85, 86, 87] (by decide +kernel) (by decide +kernel)
set_option maxRecDepth 20000 in
theorem gX3_sumOfHops_X0_has : GoodIn wsX3_sumOfHops (wsV RX3 92 RX0 yX0_has wsX0_has) := goodIn_app (goodIn_of _ (by decide +kernel)) ggX3_sumOfHops_X0_has
set_option maxRecDepth 20000 in
theorem ggX3_sumOfHops_X3_hopsOf : GoodIn wsX3_sumOfHops wsX3_hopsOf := goodIn_r _ [12, 1, 13, 14, 15, 16, 11, 17, 18, 19, 20, 5, 21, 22, 23, 24, 25, 26, 27, 28, 29, 30, 31, 32, 33, 7, 34, 3, 4, 6, 35, 36, 37, 38, 39, 40, 41, 42, 43, 44, 45, 46, 47, 48, 49, 50, 51, 52, 53, 54, 55, 56, 57, 58, 59, 60, 61, 62, 63, 64, 65, 66, 67, 68, 69, 70, 71, 72, 73, 74, 75, 76, 77, 78, 79, 80, 81, 82, 88, 89, 90, 91, 92, 93, 94, 95, 96, 97, 98, 99, 100, 101, 83, 84, 85, 86, 87, 102, 103] (by decide +kernel) (by decide +kernel)
set_option maxRecDepth 20000 in
theorem gX3_sumOfHops_X3_hopsOf : GoodIn wsX3_sumOfHops (wsV RX3 106 RX3 yX3_hopsOf wsX3_hopsOf) := goodIn_app (goodIn_of _ (by decide +kernel)) ggX3_sumOfHops_X3_hopsOf
theorem dX3_sumOfHops_0 : decode cX3_sumOfHops 0 = .ok (.iconst 0, 1) := by decide +kernel
theorem dX3_sumOfHops_1 : decode cX3_sumOfHops 1 = .ok (.istore_n 1, 1) := by decide +kernel
theorem dX3_sumOfHops_2 : decode cX3_sumOfHops 2 = .ok (.iconst 0, 1) := by decide +kernel
theorem dX3_sumOfHops_3 : decode cX3_sumOfHops 3 = .ok (.istore_n 2, 1) := by decide +kernel
theorem dX3_sumOfHops_4 : decode cX3_sumOfHops 4 = .ok (.iload_n 2, 1) := by decide +kernel
theorem dX3_sumOfHops_5 : decode cX3_sumOfHops 5 = .ok (.bipush 16, 2) := by decide +kernel
theorem dX3_sumOfHops_7 : decode cX3_sumOfHops 7 = .ok (.if_icmp .ge 41, 3) := by decide +kernel
theorem dX3_sumOfHops_10 : decode cX3_sumOfHops 10 = .ok (.aload_n 0, 1) := by decide +kernel
theorem dX3_sumOfHops_11 : decode cX3_sumOfHops 11 = .ok (.getfield 12, 3) := by decide +kernel
theorem dX3_sumOfHops_14 : decode cX3_sumOfHops 14 = .ok (.iload_n 2, 1) := by decide +kernel
theorem dX3_sumOfHops_15 : decode cX3_sumOfHops 15 = .ok (.invokevirtual 92, 3) := by decide +kernel
theorem dX3_sumOfHops_18 : decode cX3_sumOfHops 18 = .ok (.ifCond .eq 11, 3) := by decide +kernel
theorem dX3_sumOfHops_21 : decode cX3_sumOfHops 21 = .ok (.aload_n 0, 1) := by decide +kernel
theorem dX3_sumOfHops_22 : decode cX3_sumOfHops 22 = .ok (.iload_n 2, 1) := by decide +kernel
theorem dX3_sumOfHops_23 : decode cX3_sumOfHops 23 = .ok (.invokevirtual 106, 3) := by decide +kernel
theorem dX3_sumOfHops_26 : decode cX3_sumOfHops 26 = .ok (.goto 5, 3) := by decide +kernel
theorem dX3_sumOfHops_29 : decode cX3_sumOfHops 29 = .ok (.bipush (-9), 2) := by decide +kernel
theorem dX3_sumOfHops_31 : decode cX3_sumOfHops 31 = .ok (.istore_n 3, 1) := by decide +kernel
theorem dX3_sumOfHops_32 : decode cX3_sumOfHops 32 = .ok (.iload_n 3, 1) := by decide +kernel
theorem dX3_sumOfHops_33 : decode cX3_sumOfHops 33 = .ok (.bipush (-9), 2) := by decide +kernel
theorem dX3_sumOfHops_35 : decode cX3_sumOfHops 35 = .ok (.if_icmp .eq 7, 3) := by decide +kernel
theorem dX3_sumOfHops_38 : decode cX3_sumOfHops 38 = .ok (.iload_n 1, 1) := by decide +kernel
theorem dX3_sumOfHops_39 : decode cX3_sumOfHops 39 = .ok (.iload_n 3, 1) := by decide +kernel
theorem dX3_sumOfHops_40 : decode cX3_sumOfHops 40 = .ok (.iadd, 1) := by decide +kernel
theorem dX3_sumOfHops_41 : decode cX3_sumOfHops 41 = .ok (.istore_n 1, 1) := by decide +kernel
theorem dX3_sumOfHops_42 : decode cX3_sumOfHops 42 = .ok (.iinc 2 1, 3) := by decide +kernel
theorem dX3_sumOfHops_45 : decode cX3_sumOfHops 45 = .ok (.goto (-41), 3) := by decide +kernel
theorem dX3_sumOfHops_48 : decode cX3_sumOfHops 48 = .ok (.iload_n 1, 1) := by decide +kernel
theorem dX3_sumOfHops_49 : decode cX3_sumOfHops 49 = .ok (.ireturn, 1) := by decide +kernel
