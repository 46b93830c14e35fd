set_option maxRecDepth 20000 in
theorem ggX5_init_X3_init : GoodIn wsX5_init wsX3_init := goodIn_r _ [15, 16, 2, 3, 17, 18, 19, 20, 21, 22, 23, 24, 25, 26, 27, 28, 29, 30, 31, 32, 33, 34, 35, 36, 37, 38, 39, 40, 41, 42, 43, 44, 45, 46, 47, 48, 49, 50, 51, 67, 68, 69, 70, 71, 57, 58, 59, 60, 72, 73, 74, 75, 76, 77, 78, 79, 80, 81, 82, 83, 84, 85, 86, 87] (by decide +kernel) (by decide +kernel)
set_option maxRecDepth 20000 in
theorem gX5_init_X3_init_n9 : GoodIn wsX5_init (wsX3_init) := ggX5_init_X3_init
set_option maxRecDepth 20000 in
theorem ggX5_init_X4_init : GoodIn wsX5_init wsX4_init := goodIn_r _ [53, 54, 2, 3, 55, 5, 6, 56, 14, 15, 16, 17, 18, 19, 20, 21, 22, 23, 24, 25, 26, 27, 28, 29, 30, 31, 32, 33, 34, 35, 36, 37, 38, 39, 40, 41, 42, 43, 44, 45, 46, 47, 48, 49, 50, 51, 57, 58, 59, 60, 65, 66, 67, 68, 69, 70, 71, 72, 73, 74, 75, 76, 77, 78, 79, 80, 81, 82, 83, 84, 85, 86, 87] (by decide +kernel) (by decide +kernel)
set_option maxRecDepth 20000 in
theorem gX5_init_X4_init_n21 : GoodIn wsX5_init (wsX4_init) := ggX5_init_X4_init
theorem dX5_init_0 : decode cX5_init 0 = .ok (.aload_n 0, 1) := by decide +kernel
theorem dX5_init_1 : decode cX5_init 1 = .ok (.invokespecial 1, 3) := by decide +kernel
theorem dX5_init_4 : decode cX5_init 4 = .ok (.aload_n 0, 1) := by decide +kernel
theorem dX5_init_5 : decode cX5_init 5 = .ok (.new 7, 3) := by decide +kernel
theorem dX5_init_8 : decode cX5_init 8 = .ok (.dup, 1) := by decide +kernel
theorem dX5_init_9 : decode cX5_init 9 = .ok (.invokespecial 9, 3) := by decide +kernel
theorem dX5_init_12 : decode cX5_init 12 = .ok (.putfield 10, 3) := by decide +kernel
theorem dX5_init_15 : decode cX5_init 15 = .ok (.aload_n 0, 1) := by decide +kernel
theorem dX5_init_16 : decode cX5_init 16 = .ok (.new 7, 3) := by decide +kernel
theorem dX5_init_19 : decode cX5_init 19 = .ok (.dup, 1) := by decide +kernel
theorem dX5_init_20 : decode cX5_init 20 = .ok (.invokespecial 9, 3) := by decide +kernel
theorem dX5_init_23 : decode cX5_init 23 = .ok (.putfield 16, 3) := by decide +kernel
theorem dX5_init_26 : decode cX5_init 26 = .ok (.aload_n 0, 1) := by decide +kernel
theorem dX5_init_27 : decode cX5_init 27 = .ok (.new 19, 3) := by decide +kernel
theorem dX5_init_30 : decode cX5_init 30 = .ok (.dup, 1) := by decide +kernel
theorem dX5_init_31 : decode cX5_init 31 = .ok (.invokespecial 21, 3) := by decide +kernel
theorem dX5_init_34 : decode cX5_init 34 = .ok (.putfield 22, 3) := by decide +kernel
theorem dX5_init_37 : decode cX5_init 37 = .ok (.aload_n 0, 1) := by decide +kernel
theorem dX5_init_38 : decode cX5_init 38 = .ok (.new 19, 3) := by decide +kernel
theorem dX5_init_41 : decode cX5_init 41 = .ok (.dup, 1) := by decide +kernel
theorem dX5_init_42 : decode cX5_init 42 = .ok (.invokespecial 21, 3) := by decide +kernel
theorem dX5_init_45 : decode cX5_init 45 = .ok (.putfield 26, 3) := by decide +kernel
theorem dX5_init_48 : decode cX5_init 48 = .ok (.return_, 1) := by decide +kernel
set_option maxRecDepth 20000 in
theorem ggX5_reset_X3_startAnew : GoodIn wsX5_reset wsX3_startAnew := goodIn_r _ [6, 7, 8, 9, 10, 11, 12, 13, 14, 15, 16, 17, 18, 19, 20, 21, 22, 23, 24, 25, 26, 27, 28, 29, 30, 31, 32, 33, 34, 35, 36, 41, 42, 43, 44, 47, 48, 49, 50, 51, 52, 53, 54, 55, 56, 57, 58, 59, 60, 61, 62, 63, 64, 65, 45, 46] (by decide +kernel) (by decide +kernel)
set_option maxRecDepth 20000 in
theorem gX5_reset_X3_startAnew : GoodIn wsX5_reset (wsV RX5 39 RX3 yX3_startAnew wsX3_startAnew) := goodIn_app (goodIn_of _ (by decide +kernel)) ggX5_reset_X3_startAnew
theorem dX5_reset_0 : decode cX5_reset 0 = .ok (.iload_n 1, 1) := by decide +kernel
theorem dX5_reset_1 : decode cX5_reset 1 = .ok (.iconst 3, 1) := by decide +kernel
theorem dX5_reset_2 : decode cX5_reset 2 = .ok (.if_icmp .lt 19, 3) := by decide +kernel
theorem dX5_reset_5 : decode cX5_reset 5 = .ok (.iload_n 1, 1) := by decide +kernel
theorem dX5_reset_6 : decode cX5_reset 6 = .ok (.bipush 8, 2) := by decide +kernel
theorem dX5_reset_8 : decode cX5_reset 8 = .ok (.if_icmp .gt 13, 3) := by decide +kernel
theorem dX5_reset_11 : decode cX5_reset 11 = .ok (.iload_n 2, 1) := by decide +kernel
theorem dX5_reset_12 : decode cX5_reset 12 = .ok (.iconst 1, 1) := by decide +kernel
theorem dX5_reset_13 : decode cX5_reset 13 = .ok (.if_icmp .lt 8, 3) := by decide +kernel
theorem dX5_reset_16 : decode cX5_reset 16 = .ok (.iload_n 2, 1) := by decide +kernel
theorem dX5_reset_17 : decode cX5_reset 17 = .ok (.iconst 4, 1) := by decide +kernel
theorem dX5_reset_18 : decode cX5_reset 18 = .ok (.if_icmp .le 6, 3) := by decide +kernel
theorem dX5_reset_21 : decode cX5_reset 21 = .ok (.bipush (-4), 2) := by decide +kernel
theorem dX5_reset_23 : decode cX5_reset 23 = .ok (.ireturn, 1) := by decide +kernel
theorem dX5_reset_24 : decode cX5_reset 24 = .ok (.aload_n 0, 1) := by decide +kernel
theorem dX5_reset_25 : decode cX5_reset 25 = .ok (.getfield 10, 3) := by decide +kernel
theorem dX5_reset_28 : decode cX5_reset 28 = .ok (.getfield 29, 3) := by decide +kernel
theorem dX5_reset_31 : decode cX5_reset 31 = .ok (.getfield 33, 3) := by decide +kernel
theorem dX5_reset_34 : decode cX5_reset 34 = .ok (.istore_n 3, 1) := by decide +kernel
theorem dX5_reset_35 : decode cX5_reset 35 = .ok (.aload_n 0, 1) := by decide +kernel
theorem dX5_reset_36 : decode cX5_reset 36 = .ok (.getfield 10, 3) := by decide +kernel
theorem dX5_reset_39 : decode cX5_reset 39 = .ok (.iload_n 1, 1) := by decide +kernel
theorem dX5_reset_40 : decode cX5_reset 40 = .ok (.iload_n 2, 1) := by decide +kernel
theorem dX5_reset_41 : decode cX5_reset 41 = .ok (.invokevirtual 39, 3) := by decide +kernel
theorem dX5_reset_44 : decode cX5_reset 44 = .ok (.iload_n 3, 1) := by decide +kernel
theorem dX5_reset_45 : decode cX5_reset 45 = .ok (.ireturn, 1) := by decide +kernel
set_option maxRecDepth 20000 in
theorem ggX5_addCircuit_X5_faultOfEnds : GoodIn wsX5_addCircuit wsX5_faultOfEnds := goodIn_r _ [6, 1, 7, 8, 9, 10, 11, 12, 56, 57, 58, 59, 60, 61, 62, 63, 64, 65] (by decide +kernel) (by decide +kernel)
set_option maxRecDepth 20000 in
theorem gX5_addCircuit_X5_faultOfEnds : GoodIn wsX5_addCircuit (wsV RX5 43 RX5 yX5_faultOfEnds wsX5_faultOfEnds) := goodIn_app (goodIn_of _ (by decide +kernel)) ggX5_addCircuit_X5_faultOfEnds
set_option maxRecDepth 20000 in
theorem ggX5_addCircuit_X0_smallestFreeNumber : GoodIn wsX5_addCircuit wsX0_smallestFreeNumber := goodIn_r _ [17, 18, 19, 20, 16, 21, 22, 66, 67, 68, 69, 70] (by decide +kernel) (by decide +kernel)
set_option maxRecDepth 20000 in
theorem gX5_addCircuit_X0_smallestFreeNumber : GoodIn wsX5_addCircuit (wsV RX5 54 RX0 yX0_smallestFreeNumber wsX0_smallestFreeNumber) := goodIn_app (goodIn_of _ (by decide +kernel)) ggX5_addCircuit_X0_smallestFreeNumber
set_option maxRecDepth 20000 in
theorem ggX5_addCircuit_X2_route : GoodIn wsX5_addCircuit wsX2_route := goodIn_r _ [26, 12, 27, 28, 29, 10, 30, 64, 65] (by decide +kernel) (by decide +kernel)
set_option maxRecDepth 20000 in
theorem gX5_addCircuit_X2_route : GoodIn wsX5_addCircuit (wsV RX5 60 RX2 yX2_route wsX2_route) := goodIn_app (goodIn_of _ (by decide +kernel)) ggX5_addCircuit_X2_route
set_option maxRecDepth 20000 in
theorem ggX5_addCircuit_X0_slotsUsed : GoodIn wsX5_addCircuit wsX0_slotsUsed := goodIn_r _ [34, 22, 35, 36, 37, 38, 16, 39, 40, 41, 5, 42, 66, 67, 68, 69, 70] (by decide +kernel) (by decide +kernel)
set_option maxRecDepth 20000 in
theorem gX5_addCircuit_X0_slotsUsed : GoodIn wsX5_addCircuit (wsV RX5 64 RX0 yX0_slotsUsed wsX0_slotsUsed) := goodIn_app (goodIn_of _ (by decide +kernel)) ggX5_addCircuit_X0_slotsUsed
set_option maxRecDepth 20000 in
theorem ggX5_addCircuit_X5_contains : GoodIn wsX5_addCircuit wsX5_contains := goodIn_r _ [42] (by decide +kernel) (by decide +kernel)
set_option maxRecDepth 20000 in
theorem gX5_addCircuit_X5_contains : GoodIn wsX5_addCircuit (va_wsS RX5 68 yX5_contains wsX5_contains) := goodIn_app (goodIn_of _ (by decide +kernel)) ggX5_addCircuit_X5_contains
set_option maxRecDepth 20000 in
theorem ggX5_addCircuit_X0_putEnds : GoodIn wsX5_addCircuit wsX0_putEnds := goodIn_r _ [47, 48, 49, 66, 67, 68, 69, 70] (by decide +kernel) (by decide +kernel)
set_option maxRecDepth 20000 in
theorem gX5_addCircuit_X0_putEnds : GoodIn wsX5_addCircuit (wsV RX5 72 RX0 yX0_putEnds wsX0_putEnds) := goodIn_app (goodIn_of _ (by decide +kernel)) ggX5_addCircuit_X0_putEnds
set_option maxRecDepth 20000 in
theorem ggX5_addCircuit_X0_putRoute : GoodIn wsX5_addCircuit wsX0_putRoute := goodIn_r _ [53, 22, 35, 40, 54, 5, 55, 66, 67, 68, 69, 70] (by decide +kernel) (by decide +kernel)
set_option maxRecDepth 20000 in
theorem gX5_addCircuit_X0_putRoute : GoodIn wsX5_addCircuit (wsV RX5 76 RX0 yX0_putRoute wsX0_putRoute) := goodIn_app (goodIn_of _ (by decide +kernel)) ggX5_addCircuit_X0_putRoute
theorem dX5_addCircuit_0 : decode cX5_addCircuit 0 = .ok (.aload_n 0, 1) := by decide +kernel
theorem dX5_addCircuit_1 : decode cX5_addCircuit 1 = .ok (.iload_n 1, 1) := by decide +kernel
theorem dX5_addCircuit_2 : decode cX5_addCircuit 2 = .ok (.iload_n 2, 1) := by decide +kernel
theorem dX5_addCircuit_3 : decode cX5_addCircuit 3 = .ok (.invokevirtual 43, 3) := by decide +kernel
theorem dX5_addCircuit_6 : decode cX5_addCircuit 6 = .ok (.istore 6, 2) := by decide +kernel
theorem dX5_addCircuit_8 : decode cX5_addCircuit 8 = .ok (.iload 6, 2) := by decide +kernel
theorem dX5_addCircuit_10 : decode cX5_addCircuit 10 = .ok (.ifCond .eq 6, 3) := by decide +kernel
theorem dX5_addCircuit_13 : decode cX5_addCircuit 13 = .ok (.iload 6, 2) := by decide +kernel
theorem dX5_addCircuit_15 : decode cX5_addCircuit 15 = .ok (.ireturn, 1) := by decide +kernel
theorem dX5_addCircuit_16 : decode cX5_addCircuit 16 = .ok (.iload 4, 2) := by decide +kernel
theorem dX5_addCircuit_18 : decode cX5_addCircuit 18 = .ok (.ifCond .lt 18, 3) := by decide +kernel
theorem dX5_addCircuit_21 : decode cX5_addCircuit 21 = .ok (.iload 4, 2) := by decide +kernel
theorem dX5_addCircuit_23 : decode cX5_addCircuit 23 = .ok (.aload_n 0, 1) := by decide +kernel
theorem dX5_addCircuit_24 : decode cX5_addCircuit 24 = .ok (.getfield 10, 3) := by decide +kernel
theorem dX5_addCircuit_27 : decode cX5_addCircuit 27 = .ok (.getfield 29, 3) := by decide +kernel
theorem dX5_addCircuit_30 : decode cX5_addCircuit 30 = .ok (.getfield 47, 3) := by decide +kernel
theorem dX5_addCircuit_33 : decode cX5_addCircuit 33 = .ok (.if_icmp .lt 6, 3) := by decide +kernel
theorem dX5_addCircuit_36 : decode cX5_addCircuit 36 = .ok (.bipush (-4), 2) := by decide +kernel
theorem dX5_addCircuit_38 : decode cX5_addCircuit 38 = .ok (.ireturn, 1) := by decide +kernel
theorem dX5_addCircuit_39 : decode cX5_addCircuit 39 = .ok (.aload_n 0, 1) := by decide +kernel
theorem dX5_addCircuit_40 : decode cX5_addCircuit 40 = .ok (.getfield 10, 3) := by decide +kernel
theorem dX5_addCircuit_43 : decode cX5_addCircuit 43 = .ok (.getfield 50, 3) := by decide +kernel
theorem dX5_addCircuit_46 : decode cX5_addCircuit 46 = .ok (.invokevirtual 54, 3) := by decide +kernel
theorem dX5_addCircuit_49 : decode cX5_addCircuit 49 = .ok (.istore 7, 2) := by decide +kernel
theorem dX5_addCircuit_51 : decode cX5_addCircuit 51 = .ok (.iload 7, 2) := by decide +kernel
theorem dX5_addCircuit_53 : decode cX5_addCircuit 53 = .ok (.bipush (-9), 2) := by decide +kernel
theorem dX5_addCircuit_55 : decode cX5_addCircuit 55 = .ok (.if_icmp .ne 6, 3) := by decide +kernel
theorem dX5_addCircuit_58 : decode cX5_addCircuit 58 = .ok (.bipush (-7), 2) := by decide +kernel
theorem dX5_addCircuit_60 : decode cX5_addCircuit 60 = .ok (.ireturn, 1) := by decide +kernel
theorem dX5_addCircuit_61 : decode cX5_addCircuit 61 = .ok (.aload_n 0, 1) := by decide +kernel
theorem dX5_addCircuit_62 : decode cX5_addCircuit 62 = .ok (.getfield 10, 3) := by decide +kernel
theorem dX5_addCircuit_65 : decode cX5_addCircuit 65 = .ok (.getfield 29, 3) := by decide +kernel
theorem dX5_addCircuit_68 : decode cX5_addCircuit 68 = .ok (.iload_n 1, 1) := by decide +kernel
theorem dX5_addCircuit_69 : decode cX5_addCircuit 69 = .ok (.iload_n 2, 1) := by decide +kernel
theorem dX5_addCircuit_70 : decode cX5_addCircuit 70 = .ok (.iload_n 3, 1) := by decide +kernel
theorem dX5_addCircuit_71 : decode cX5_addCircuit 71 = .ok (.invokevirtual 60, 3) := by decide +kernel
theorem dX5_addCircuit_74 : decode cX5_addCircuit 74 = .ok (.istore 8, 2) := by decide +kernel
theorem dX5_addCircuit_76 : decode cX5_addCircuit 76 = .ok (.aload_n 0, 1) := by decide +kernel
theorem dX5_addCircuit_77 : decode cX5_addCircuit 77 = .ok (.getfield 10, 3) := by decide +kernel
theorem dX5_addCircuit_80 : decode cX5_addCircuit 80 = .ok (.getfield 50, 3) := by decide +kernel
theorem dX5_addCircuit_83 : decode cX5_addCircuit 83 = .ok (.iload 8, 2) := by decide +kernel
theorem dX5_addCircuit_85 : decode cX5_addCircuit 85 = .ok (.iload 5, 2) := by decide +kernel
theorem dX5_addCircuit_87 : decode cX5_addCircuit 87 = .ok (.invokevirtual 64, 3) := by decide +kernel
theorem dX5_addCircuit_90 : decode cX5_addCircuit 90 = .ok (.iload 4, 2) := by decide +kernel
theorem dX5_addCircuit_92 : decode cX5_addCircuit 92 = .ok (.invokestatic 68, 3) := by decide +kernel
theorem dX5_addCircuit_95 : decode cX5_addCircuit 95 = .ok (.ifCond .eq 6, 3) := by decide +kernel
theorem dX5_addCircuit_98 : decode cX5_addCircuit 98 = .ok (.bipush (-6), 2) := by decide +kernel
theorem dX5_addCircuit_100 : decode cX5_addCircuit 100 = .ok (.ireturn, 1) := by decide +kernel
theorem dX5_addCircuit_101 : decode cX5_addCircuit 101 = .ok (.aload_n 0, 1) := by decide +kernel
theorem dX5_addCircuit_102 : decode cX5_addCircuit 102 = .ok (.getfield 10, 3) := by decide +kernel
theorem dX5_addCircuit_105 : decode cX5_addCircuit 105 = .ok (.getfield 50, 3) := by decide +kernel
theorem dX5_addCircuit_108 : decode cX5_addCircuit 108 = .ok (.iload 7, 2) := by decide +kernel
theorem dX5_addCircuit_110 : decode cX5_addCircuit 110 = .ok (.iload_n 1, 1) := by decide +kernel
theorem dX5_addCircuit_111 : decode cX5_addCircuit 111 = .ok (.iload_n 2, 1) := by decide +kernel
theorem dX5_addCircuit_112 : decode cX5_addCircuit 112 = .ok (.invokevirtual 72, 3) := by decide +kernel
theorem dX5_addCircuit_115 : decode cX5_addCircuit 115 = .ok (.aload_n 0, 1) := by decide +kernel
theorem dX5_addCircuit_116 : decode cX5_addCircuit 116 = .ok (.getfield 10, 3) := by decide +kernel
theorem dX5_addCircuit_119 : decode cX5_addCircuit 119 = .ok (.getfield 50, 3) := by decide +kernel
theorem dX5_addCircuit_122 : decode cX5_addCircuit 122 = .ok (.iload 7, 2) := by decide +kernel
theorem dX5_addCircuit_124 : decode cX5_addCircuit 124 = .ok (.iload 8, 2) := by decide +kernel
theorem dX5_addCircuit_126 : decode cX5_addCircuit 126 = .ok (.iload 4, 2) := by decide +kernel
theorem dX5_addCircuit_128 : decode cX5_addCircuit 128 = .ok (.iload 5, 2) := by decide +kernel
theorem dX5_addCircuit_130 : decode cX5_addCircuit 130 = .ok (.invokevirtual 76, 3) := by decide +kernel
theorem dX5_addCircuit_133 : decode cX5_addCircuit 133 = .ok (.iload 7, 2) := by decide +kernel
theorem dX5_addCircuit_135 : decode cX5_addCircuit 135 = .ok (.ireturn, 1) := by decide +kernel
set_option maxRecDepth 20000 in
theorem ggX5_removeCircuit_X0_has : GoodIn wsX5_removeCircuit wsX0_has := goodIn_r _ [6, 7, 34, 35, 36, 37, 38] (by decide +kernel) (by decide +kernel)
set_option maxRecDepth 20000 in
theorem gX5_removeCircuit_X0_has : GoodIn wsX5_removeCircuit (wsV RX5 80 RX0 yX0_has wsX0_has) := goodIn_app (goodIn_of _ (by decide +kernel)) ggX5_removeCircuit_X0_has
set_option maxRecDepth 20000 in
theorem ggX5_removeCircuit_X0_takeAway : GoodIn wsX5_removeCircuit wsX0_takeAway := goodIn_r _ [11, 12, 13, 14, 5, 15, 7, 16, 17, 18, 19, 20, 34, 35, 36, 37, 38] (by decide +kernel) (by decide +kernel)
set_option maxRecDepth 20000 in
theorem gX5_removeCircuit_X0_takeAway : GoodIn wsX5_removeCircuit (wsV RX5 84 RX0 yX0_takeAway wsX0_takeAway) := goodIn_app (goodIn_of _ (by decide +kernel)) ggX5_removeCircuit_X0_takeAway
set_option maxRecDepth 20000 in
theorem ggX5_removeCircuit_X0_count : GoodIn wsX5_removeCircuit wsX0_count := goodIn_r _ [24, 25, 3, 4, 5, 6, 7, 34, 35, 36, 37, 38] (by decide +kernel) (by decide +kernel)
set_option maxRecDepth 20000 in
theorem gX5_removeCircuit_X0_count : GoodIn wsX5_removeCircuit (wsV RX5 88 RX0 yX0_count wsX0_count) := goodIn_app (goodIn_of _ (by decide +kernel)) ggX5_removeCircuit_X0_count
theorem dX5_removeCircuit_0 : decode cX5_removeCircuit 0 = .ok (.aload_n 0, 1) := by decide +kernel
theorem dX5_removeCircuit_1 : decode cX5_removeCircuit 1 = .ok (.getfield 10, 3) := by decide +kernel
theorem dX5_removeCircuit_4 : decode cX5_removeCircuit 4 = .ok (.getfield 50, 3) := by decide +kernel
theorem dX5_removeCircuit_7 : decode cX5_removeCircuit 7 = .ok (.iload_n 1, 1) := by decide +kernel
theorem dX5_removeCircuit_8 : decode cX5_removeCircuit 8 = .ok (.invokevirtual 80, 3) := by decide +kernel
theorem dX5_removeCircuit_11 : decode cX5_removeCircuit 11 = .ok (.ifCond .ne 6, 3) := by decide +kernel
theorem dX5_removeCircuit_14 : decode cX5_removeCircuit 14 = .ok (.bipush (-3), 2) := by decide +kernel
theorem dX5_removeCircuit_16 : decode cX5_removeCircuit 16 = .ok (.ireturn, 1) := by decide +kernel
theorem dX5_removeCircuit_17 : decode cX5_removeCircuit 17 = .ok (.aload_n 0, 1) := by decide +kernel
theorem dX5_removeCircuit_18 : decode cX5_removeCircuit 18 = .ok (.getfield 10, 3) := by decide +kernel
theorem dX5_removeCircuit_21 : decode cX5_removeCircuit 21 = .ok (.getfield 50, 3) := by decide +kernel
theorem dX5_removeCircuit_24 : decode cX5_removeCircuit 24 = .ok (.iload_n 1, 1) := by decide +kernel
theorem dX5_removeCircuit_25 : decode cX5_removeCircuit 25 = .ok (.invokevirtual 84, 3) := by decide +kernel
theorem dX5_removeCircuit_28 : decode cX5_removeCircuit 28 = .ok (.aload_n 0, 1) := by decide +kernel
theorem dX5_removeCircuit_29 : decode cX5_removeCircuit 29 = .ok (.getfield 10, 3) := by decide +kernel
theorem dX5_removeCircuit_32 : decode cX5_removeCircuit 32 = .ok (.getfield 50, 3) := by decide +kernel
theorem dX5_removeCircuit_35 : decode cX5_removeCircuit 35 = .ok (.invokevirtual 88, 3) := by decide +kernel
theorem dX5_removeCircuit_38 : decode cX5_removeCircuit 38 = .ok (.ireturn, 1) := by decide +kernel
set_option maxRecDepth 20000 in
theorem ggX5_circuitCount_X0_count : GoodIn wsX5_circuitCount wsX0_count := goodIn_r _ [6, 7, 8, 9, 5, 10, 11, 20, 21, 22, 23, 24] (by decide +kernel) (by decide +kernel)
set_option maxRecDepth 20000 in
theorem gX5_circuitCount_X0_count : GoodIn wsX5_circuitCount (wsV RX5 88 RX0 yX0_count wsX0_count) := goodIn_app (goodIn_of _ (by decide +kernel)) ggX5_circuitCount_X0_count
theorem dX5_circuitCount_0 : decode cX5_circuitCount 0 = .ok (.aload_n 0, 1) := by decide +kernel
theorem dX5_circuitCount_1 : decode cX5_circuitCount 1 = .ok (.getfield 10, 3) := by decide +kernel
theorem dX5_circuitCount_4 : decode cX5_circuitCount 4 = .ok (.getfield 50, 3) := by decide +kernel
theorem dX5_circuitCount_7 : decode cX5_circuitCount 7 = .ok (.invokevirtual 88, 3) := by decide +kernel
theorem dX5_circuitCount_10 : decode cX5_circuitCount 10 = .ok (.ireturn, 1) := by decide +kernel
set_option maxRecDepth 20000 in
theorem ggX5_freeSlot_X5_faultOfEnds : GoodIn wsX5_freeSlot wsX5_faultOfEnds := goodIn_r _ [6, 1, 7, 8, 9, 10, 11, 12, 36, 37, 38, 39, 40, 41, 42, 43, 44, 45] (by decide +kernel) (by decide +kernel)
set_option maxRecDepth 20000 in
theorem gX5_freeSlot_X5_faultOfEnds : GoodIn wsX5_freeSlot (wsV RX5 43 RX5 yX5_faultOfEnds wsX5_faultOfEnds) := goodIn_app (goodIn_of _ (by decide +kernel)) ggX5_freeSlot_X5_faultOfEnds
set_option maxRecDepth 20000 in
theorem ggX5_freeSlot_X2_route : GoodIn wsX5_freeSlot wsX2_route := goodIn_r _ [16, 12, 17, 18, 19, 10, 20, 44, 45] (by decide +kernel) (by decide +kernel)
set_option maxRecDepth 20000 in
theorem gX5_freeSlot_X2_route : GoodIn wsX5_freeSlot (wsV RX5 60 RX2 yX2_route wsX2_route) := goodIn_app (goodIn_of _ (by decide +kernel)) ggX5_freeSlot_X2_route
set_option maxRecDepth 20000 in
theorem ggX5_freeSlot_X0_slotsUsed : GoodIn wsX5_freeSlot wsX0_slotsUsed := goodIn_r _ [25, 26, 27, 28, 29, 30, 24, 31, 32, 33, 5, 34, 46, 47, 48, 49, 50] (by decide +kernel) (by decide +kernel)
set_option maxRecDepth 20000 in
theorem gX5_freeSlot_X0_slotsUsed : GoodIn wsX5_freeSlot (wsV RX5 64 RX0 yX0_slotsUsed wsX0_slotsUsed) := goodIn_app (goodIn_of _ (by decide +kernel)) ggX5_freeSlot_X0_slotsUsed
set_option maxRecDepth 20000 in
theorem ggX5_freeSlot_X5_contains : GoodIn wsX5_freeSlot wsX5_contains := goodIn_r _ [34] (by decide +kernel) (by decide +kernel)
set_option maxRecDepth 20000 in
theorem gX5_freeSlot_X5_contains : GoodIn wsX5_freeSlot (va_wsS RX5 68 yX5_contains wsX5_contains) := goodIn_app (goodIn_of _ (by decide +kernel)) ggX5_freeSlot_X5_contains
theorem dX5_freeSlot_0 : decode cX5_freeSlot 0 = .ok (.aload_n 0, 1) := by decide +kernel
theorem dX5_freeSlot_1 : decode cX5_freeSlot 1 = .ok (.iload_n 1, 1) := by decide +kernel
theorem dX5_freeSlot_2 : decode cX5_freeSlot 2 = .ok (.iload_n 2, 1) := by decide +kernel
theorem dX5_freeSlot_3 : decode cX5_freeSlot 3 = .ok (.invokevirtual 43, 3) := by decide +kernel
theorem dX5_freeSlot_6 : decode cX5_freeSlot 6 = .ok (.istore 5, 2) := by decide +kernel
theorem dX5_freeSlot_8 : decode cX5_freeSlot 8 = .ok (.iload 5, 2) := by decide +kernel
theorem dX5_freeSlot_10 : decode cX5_freeSlot 10 = .ok (.ifCond .eq 6, 3) := by decide +kernel
theorem dX5_freeSlot_13 : decode cX5_freeSlot 13 = .ok (.iload 5, 2) := by decide +kernel
theorem dX5_freeSlot_15 : decode cX5_freeSlot 15 = .ok (.ireturn, 1) := by decide +kernel
theorem dX5_freeSlot_16 : decode cX5_freeSlot 16 = .ok (.aload_n 0, 1) := by decide +kernel
theorem dX5_freeSlot_17 : decode cX5_freeSlot 17 = .ok (.getfield 10, 3) := by decide +kernel
theorem dX5_freeSlot_20 : decode cX5_freeSlot 20 = .ok (.getfield 29, 3) := by decide +kernel
theorem dX5_freeSlot_23 : decode cX5_freeSlot 23 = .ok (.iload_n 1, 1) := by decide +kernel
theorem dX5_freeSlot_24 : decode cX5_freeSlot 24 = .ok (.iload_n 2, 1) := by decide +kernel
theorem dX5_freeSlot_25 : decode cX5_freeSlot 25 = .ok (.iload_n 3, 1) := by decide +kernel
theorem dX5_freeSlot_26 : decode cX5_freeSlot 26 = .ok (.invokevirtual 60, 3) := by decide +kernel
theorem dX5_freeSlot_29 : decode cX5_freeSlot 29 = .ok (.istore 6, 2) := by decide +kernel
theorem dX5_freeSlot_31 : decode cX5_freeSlot 31 = .ok (.aload_n 0, 1) := by decide +kernel
theorem dX5_freeSlot_32 : decode cX5_freeSlot 32 = .ok (.getfield 10, 3) := by decide +kernel
theorem dX5_freeSlot_35 : decode cX5_freeSlot 35 = .ok (.getfield 50, 3) := by decide +kernel
theorem dX5_freeSlot_38 : decode cX5_freeSlot 38 = .ok (.iload 6, 2) := by decide +kernel
theorem dX5_freeSlot_40 : decode cX5_freeSlot 40 = .ok (.iload 4, 2) := by decide +kernel
theorem dX5_freeSlot_42 : decode cX5_freeSlot 42 = .ok (.invokevirtual 64, 3) := by decide +kernel
theorem dX5_freeSlot_45 : decode cX5_freeSlot 45 = .ok (.istore 7, 2) := by decide +kernel
theorem dX5_freeSlot_47 : decode cX5_freeSlot 47 = .ok (.iconst 0, 1) := by decide +kernel
theorem dX5_freeSlot_48 : decode cX5_freeSlot 48 = .ok (.istore 8, 2) := by decide +kernel
theorem dX5_freeSlot_50 : decode cX5_freeSlot 50 = .ok (.iload 8, 2) := by decide +kernel
theorem dX5_freeSlot_52 : decode cX5_freeSlot 52 = .ok (.aload_n 0, 1) := by decide +kernel
theorem dX5_freeSlot_53 : decode cX5_freeSlot 53 = .ok (.getfield 10, 3) := by decide +kernel
theorem dX5_freeSlot_56 : decode cX5_freeSlot 56 = .ok (.getfield 29, 3) := by decide +kernel
theorem dX5_freeSlot_59 : decode cX5_freeSlot 59 = .ok (.getfield 47, 3) := by decide +kernel
theorem dX5_freeSlot_62 : decode cX5_freeSlot 62 = .ok (.if_icmp .ge 22, 3) := by decide +kernel
theorem dX5_freeSlot_65 : decode cX5_freeSlot 65 = .ok (.iload 7, 2) := by decide +kernel
theorem dX5_freeSlot_67 : decode cX5_freeSlot 67 = .ok (.iload 8, 2) := by decide +kernel
theorem dX5_freeSlot_69 : decode cX5_freeSlot 69 = .ok (.invokestatic 68, 3) := by decide +kernel
theorem dX5_freeSlot_72 : decode cX5_freeSlot 72 = .ok (.ifCond .ne 6, 3) := by decide +kernel
theorem dX5_freeSlot_75 : decode cX5_freeSlot 75 = .ok (.iload 8, 2) := by decide +kernel
theorem dX5_freeSlot_77 : decode cX5_freeSlot 77 = .ok (.ireturn, 1) := by decide +kernel
theorem dX5_freeSlot_78 : decode cX5_freeSlot 78 = .ok (.iinc 8 1, 3) := by decide +kernel
theorem dX5_freeSlot_81 : decode cX5_freeSlot 81 = .ok (.goto (-31), 3) := by decide +kernel
theorem dX5_freeSlot_84 : decode cX5_freeSlot 84 = .ok (.bipush (-9), 2) := by decide +kernel
theorem dX5_freeSlot_86 : decode cX5_freeSlot 86 = .ok (.ireturn, 1) := by decide +kernel
set_option maxRecDepth 20000 in
theorem ggX5_circuitsOn_X2_hasSpan : GoodIn wsX5_circuitsOn wsX2_hasSpan := goodIn_r _ [6, 7, 22, 23] (by decide +kernel) (by decide +kernel)
set_option maxRecDepth 20000 in
theorem gX5_circuitsOn_X2_hasSpan : GoodIn wsX5_circuitsOn (wsV RX5 91 RX2 yX2_hasSpan wsX2_hasSpan) := goodIn_app (goodIn_of _ (by decide +kernel)) ggX5_circuitsOn_X2_hasSpan
set_option maxRecDepth 20000 in
theorem ggX5_circuitsOn_X0_crossing : GoodIn wsX5_circuitsOn wsX0_crossing := goodIn_r _ [12, 13, 24, 25, 26, 27, 28] (by decide +kernel) (by decide +kernel)
set_option maxRecDepth 20000 in
theorem gX5_circuitsOn_X0_crossing : GoodIn wsX5_circuitsOn (wsV RX5 94 RX0 yX0_crossing wsX0_crossing) := goodIn_app (goodIn_of _ (by decide +kernel)) ggX5_circuitsOn_X0_crossing
theorem dX5_circuitsOn_0 : decode cX5_circuitsOn 0 = .ok (.aload_n 0, 1) := by decide +kernel
theorem dX5_circuitsOn_1 : decode cX5_circuitsOn 1 = .ok (.getfield 10, 3) := by decide +kernel
theorem dX5_circuitsOn_4 : decode cX5_circuitsOn 4 = .ok (.getfield 29, 3) := by decide +kernel
theorem dX5_circuitsOn_7 : decode cX5_circuitsOn 7 = .ok (.iload_n 1, 1) := by decide +kernel
theorem dX5_circuitsOn_8 : decode cX5_circuitsOn 8 = .ok (.invokevirtual 91, 3) := by decide +kernel
theorem dX5_circuitsOn_11 : decode cX5_circuitsOn 11 = .ok (.ifCond .ne 6, 3) := by decide +kernel
theorem dX5_circuitsOn_14 : decode cX5_circuitsOn 14 = .ok (.bipush (-2), 2) := by decide +kernel
theorem dX5_circuitsOn_16 : decode cX5_circuitsOn 16 = .ok (.ireturn, 1) := by decide +kernel
theorem dX5_circuitsOn_17 : decode cX5_circuitsOn 17 = .ok (.aload_n 0, 1) := by decide +kernel
theorem dX5_circuitsOn_18 : decode cX5_circuitsOn 18 = .ok (.getfield 10, 3) := by decide +kernel
theorem dX5_circuitsOn_21 : decode cX5_circuitsOn 21 = .ok (.getfield 50, 3) := by decide +kernel
theorem dX5_circuitsOn_24 : decode cX5_circuitsOn 24 = .ok (.iconst 1, 1) := by decide +kernel
theorem dX5_circuitsOn_25 : decode cX5_circuitsOn 25 = .ok (.iload_n 1, 1) := by decide +kernel
theorem dX5_circuitsOn_26 : decode cX5_circuitsOn 26 = .ok (.ishl, 1) := by decide +kernel
theorem dX5_circuitsOn_27 : decode cX5_circuitsOn 27 = .ok (.invokevirtual 94, 3) := by decide +kernel
theorem dX5_circuitsOn_30 : decode cX5_circuitsOn 30 = .ok (.ireturn, 1) := by decide +kernel
set_option maxRecDepth 20000 in
theorem ggX5_pathLength_X0_has : GoodIn wsX5_pathLength wsX0_has := goodIn_r _ [6, 7, 28, 29, 30, 31, 32] (by decide +kernel) (by decide +kernel)
set_option maxRecDepth 20000 in
theorem gX5_pathLength_X0_has : GoodIn wsX5_pathLength (wsV RX5 80 RX0 yX0_has wsX0_has) := goodIn_app (goodIn_of _ (by decide +kernel)) ggX5_pathLength_X0_has
set_option maxRecDepth 20000 in
theorem ggX5_pathLength_X0_pathOf : GoodIn wsX5_pathLength wsX0_pathOf := goodIn_r _ [11, 7, 12, 3, 4, 5, 6, 28, 29, 30, 31, 32] (by decide +kernel) (by decide +kernel)
set_option maxRecDepth 20000 in
theorem gX5_pathLength_X0_pathOf : GoodIn wsX5_pathLength (wsV RX5 98 RX0 yX0_pathOf wsX0_pathOf) := goodIn_app (goodIn_of _ (by decide +kernel)) ggX5_pathLength_X0_pathOf
set_option maxRecDepth 20000 in
theorem ggX5_pathLength_J6_bitCount_0f7a4 : GoodIn wsX5_pathLength wsJ6_bitCount_0f7a4 := goodIn_r _ [16, 17, 18, 19] (by decide +kernel) (by decide +kernel)
set_option maxRecDepth 20000 in
theorem gX5_pathLength_J6_bitCount_0f7a4 : GoodIn wsX5_pathLength (va_wsS RX5 101 yJ6_bitCount_0f7a4 wsJ6_bitCount_0f7a4) := goodIn_app (goodIn_of _ (by decide +kernel)) ggX5_pathLength_J6_bitCount_0f7a4
theorem dX5_pathLength_0 : decode cX5_pathLength 0 = .ok (.aload_n 0, 1) := by decide +kernel
theorem dX5_pathLength_1 : decode cX5_pathLength 1 = .ok (.getfield 10, 3) := by decide +kernel
theorem dX5_pathLength_4 : decode cX5_pathLength 4 = .ok (.getfield 50, 3) := by decide +kernel
theorem dX5_pathLength_7 : decode cX5_pathLength 7 = .ok (.iload_n 1, 1) := by decide +kernel
theorem dX5_pathLength_8 : decode cX5_pathLength 8 = .ok (.invokevirtual 80, 3) := by decide +kernel
theorem dX5_pathLength_11 : decode cX5_pathLength 11 = .ok (.ifCond .ne 6, 3) := by decide +kernel
theorem dX5_pathLength_14 : decode cX5_pathLength 14 = .ok (.bipush (-3), 2) := by decide +kernel
theorem dX5_pathLength_16 : decode cX5_pathLength 16 = .ok (.ireturn, 1) := by decide +kernel
theorem dX5_pathLength_17 : decode cX5_pathLength 17 = .ok (.aload_n 0, 1) := by decide +kernel
theorem dX5_pathLength_18 : decode cX5_pathLength 18 = .ok (.getfield 10, 3) := by decide +kernel
theorem dX5_pathLength_21 : decode cX5_pathLength 21 = .ok (.getfield 50, 3) := by decide +kernel
theorem dX5_pathLength_24 : decode cX5_pathLength 24 = .ok (.iload_n 1, 1) := by decide +kernel
theorem dX5_pathLength_25 : decode cX5_pathLength 25 = .ok (.invokevirtual 98, 3) := by decide +kernel
theorem dX5_pathLength_28 : decode cX5_pathLength 28 = .ok (.invokestatic 101, 3) := by decide +kernel
theorem dX5_pathLength_31 : decode cX5_pathLength 31 = .ok (.ireturn, 1) := by decide +kernel
set_option maxRecDepth 20000 in
theorem ggX5_failWorking_X2_hasSpan : GoodIn wsX5_failWorking wsX2_hasSpan := goodIn_r _ [6, 7, 113, 114] (by decide +kernel) (by decide +kernel)
set_option maxRecDepth 20000 in
theorem gX5_failWorking_X2_hasSpan : GoodIn wsX5_failWorking (wsV RX5 91 RX2 yX2_hasSpan wsX2_hasSpan) := goodIn_app (goodIn_of _ (by decide +kernel)) ggX5_failWorking_X2_hasSpan
set_option maxRecDepth 20000 in
theorem ggX5_failWorking_X5_marked : GoodIn wsX5_failWorking wsX5_marked := goodIn_r _ [11] (by decide +kernel) (by decide +kernel)
set_option maxRecDepth 20000 in
theorem gX5_failWorking_X5_marked : GoodIn wsX5_failWorking (va_wsS RX5 115 yX5_marked wsX5_marked) := goodIn_app (goodIn_of _ (by decide +kernel)) ggX5_failWorking_X5_marked
set_option maxRecDepth 20000 in
theorem ggX5_failWorking_X1_run : GoodIn wsX5_failWorking wsX1_run := goodIn_r _ [16, 17, 18, 19, 20, 15, 21, 22, 23, 24, 25, 26, 27, 10, 28, 29, 30, 31, 5, 32, 7, 33, 34, 35, 36, 37, 38, 39, 40, 41, 42, 43, 44, 45, 46, 47, 48, 49, 50, 51, 52, 53, 54, 55, 56, 57, 58, 59, 60, 61, 62, 63, 64, 65, 66, 67, 68, 69, 70, 71, 72, 73, 74, 75, 76, 3, 4, 6, 77, 78, 79, 80, 81, 82, 83, 84, 85, 86, 87, 88, 89, 99, 100, 101, 102, 103, 104, 105, 106, 107, 108, 109, 110, 111, 112, 113, 114] (by decide +kernel) (by decide +kernel)
set_option maxRecDepth 20000 in
theorem gX5_failWorking_X1_run : GoodIn wsX5_failWorking (wsV RX5 118 RX1 yX1_run wsX1_run) := goodIn_app (goodIn_of _ (by decide +kernel)) ggX5_failWorking_X1_run
set_option maxRecDepth 20000 in
theorem ggX5_failWorking_X5_contains : GoodIn wsX5_failWorking wsX5_contains := goodIn_r _ [28] (by decide +kernel) (by decide +kernel)
set_option maxRecDepth 20000 in
theorem gX5_failWorking_X5_contains : GoodIn wsX5_failWorking (va_wsS RX5 68 yX5_contains wsX5_contains) := goodIn_app (goodIn_of _ (by decide +kernel)) ggX5_failWorking_X5_contains
theorem dX5_failWorking_0 : decode cX5_failWorking 0 = .ok (.aload_n 0, 1) := by decide +kernel
theorem dX5_failWorking_1 : decode cX5_failWorking 1 = .ok (.getfield 10, 3) := by decide +kernel
theorem dX5_failWorking_4 : decode cX5_failWorking 4 = .ok (.getfield 29, 3) := by decide +kernel
theorem dX5_failWorking_7 : decode cX5_failWorking 7 = .ok (.iload_n 1, 1) := by decide +kernel
theorem dX5_failWorking_8 : decode cX5_failWorking 8 = .ok (.invokevirtual 91, 3) := by decide +kernel
theorem dX5_failWorking_11 : decode cX5_failWorking 11 = .ok (.ifCond .ne 6, 3) := by decide +kernel
theorem dX5_failWorking_14 : decode cX5_failWorking 14 = .ok (.bipush (-2), 2) := by decide +kernel
theorem dX5_failWorking_16 : decode cX5_failWorking 16 = .ok (.ireturn, 1) := by decide +kernel
theorem dX5_failWorking_17 : decode cX5_failWorking 17 = .ok (.aload_n 0, 1) := by decide +kernel
theorem dX5_failWorking_18 : decode cX5_failWorking 18 = .ok (.getfield 10, 3) := by decide +kernel
theorem dX5_failWorking_21 : decode cX5_failWorking 21 = .ok (.getfield 106, 3) := by decide +kernel
theorem dX5_failWorking_24 : decode cX5_failWorking 24 = .ok (.getfield 110, 3) := by decide +kernel
theorem dX5_failWorking_27 : decode cX5_failWorking 27 = .ok (.istore_n 3, 1) := by decide +kernel
theorem dX5_failWorking_28 : decode cX5_failWorking 28 = .ok (.aload_n 0, 1) := by decide +kernel
theorem dX5_failWorking_29 : decode cX5_failWorking 29 = .ok (.getfield 10, 3) := by decide +kernel
theorem dX5_failWorking_32 : decode cX5_failWorking 32 = .ok (.getfield 106, 3) := by decide +kernel
theorem dX5_failWorking_35 : decode cX5_failWorking 35 = .ok (.iload_n 3, 1) := by decide +kernel
theorem dX5_failWorking_36 : decode cX5_failWorking 36 = .ok (.iload_n 1, 1) := by decide +kernel
theorem dX5_failWorking_37 : decode cX5_failWorking 37 = .ok (.iload_n 2, 1) := by decide +kernel
theorem dX5_failWorking_38 : decode cX5_failWorking 38 = .ok (.invokestatic 115, 3) := by decide +kernel
theorem dX5_failWorking_41 : decode cX5_failWorking 41 = .ok (.putfield 110, 3) := by decide +kernel
theorem dX5_failWorking_44 : decode cX5_failWorking 44 = .ok (.aload_n 0, 1) := by decide +kernel
theorem dX5_failWorking_45 : decode cX5_failWorking 45 = .ok (.getfield 10, 3) := by decide +kernel
theorem dX5_failWorking_48 : decode cX5_failWorking 48 = .ok (.getfield 106, 3) := by decide +kernel
theorem dX5_failWorking_51 : decode cX5_failWorking 51 = .ok (.invokevirtual 118, 3) := by decide +kernel
theorem dX5_failWorking_54 : decode cX5_failWorking 54 = .ok (.iload_n 3, 1) := by decide +kernel
theorem dX5_failWorking_55 : decode cX5_failWorking 55 = .ok (.iload_n 1, 1) := by decide +kernel
theorem dX5_failWorking_56 : decode cX5_failWorking 56 = .ok (.invokestatic 68, 3) := by decide +kernel
theorem dX5_failWorking_59 : decode cX5_failWorking 59 = .ok (.ifCond .eq 7, 3) := by decide +kernel
theorem dX5_failWorking_62 : decode cX5_failWorking 62 = .ok (.iconst 1, 1) := by decide +kernel
theorem dX5_failWorking_63 : decode cX5_failWorking 63 = .ok (.goto 4, 3) := by decide +kernel
theorem dX5_failWorking_66 : decode cX5_failWorking 66 = .ok (.iconst 0, 1) := by decide +kernel
theorem dX5_failWorking_67 : decode cX5_failWorking 67 = .ok (.ireturn, 1) := by decide +kernel
set_option maxRecDepth 20000 in
theorem ggX5_failProtection_X2_hasSpan : GoodIn wsX5_failProtection wsX2_hasSpan := goodIn_r _ [6, 7, 113, 114] (by decide +kernel) (by decide +kernel)
set_option maxRecDepth 20000 in
theorem gX5_failProtection_X2_hasSpan : GoodIn wsX5_failProtection (wsV RX5 91 RX2 yX2_hasSpan wsX2_hasSpan) := goodIn_app (goodIn_of _ (by decide +kernel)) ggX5_failProtection_X2_hasSpan
set_option maxRecDepth 20000 in
theorem ggX5_failProtection_X5_marked : GoodIn wsX5_failProtection wsX5_marked := goodIn_r _ [11] (by decide +kernel) (by decide +kernel)
set_option maxRecDepth 20000 in
theorem gX5_failProtection_X5_marked : GoodIn wsX5_failProtection (va_wsS RX5 115 yX5_marked wsX5_marked) := goodIn_app (goodIn_of _ (by decide +kernel)) ggX5_failProtection_X5_marked
set_option maxRecDepth 20000 in
theorem ggX5_failProtection_X1_run : GoodIn wsX5_failProtection wsX1_run := goodIn_r _ [16, 17, 18, 19, 20, 15, 21, 22, 23, 24, 25, 26, 27, 10, 28, 29, 30, 31, 5, 32, 7, 33, 34, 35, 36, 37, 38, 39, 40, 41, 42, 43, 44, 45, 46, 47, 48, 49, 50, 51, 52, 53, 54, 55, 56, 57, 58, 59, 60, 61, 62, 63, 64, 65, 66, 67, 68, 69, 70, 71, 72, 73, 74, 75, 76, 3, 4, 6, 77, 78, 79, 80, 81, 82, 83, 84, 85, 86, 87, 88, 89, 99, 100, 101, 102, 103, 104, 105, 106, 107, 108, 109, 110, 111, 112, 113, 114] (by decide +kernel) (by decide +kernel)
set_option maxRecDepth 20000 in
theorem gX5_failProtection_X1_run : GoodIn wsX5_failProtection (wsV RX5 118 RX1 yX1_run wsX1_run) := goodIn_app (goodIn_of _ (by decide +kernel)) ggX5_failProtection_X1_run
set_option maxRecDepth 20000 in
theorem ggX5_failProtection_X5_contains : GoodIn wsX5_failProtection wsX5_contains := goodIn_r _ [28] (by decide +kernel) (by decide +kernel)
set_option maxRecDepth 20000 in
theorem gX5_failProtection_X5_contains : GoodIn wsX5_failProtection (va_wsS RX5 68 yX5_contains wsX5_contains) := goodIn_app (goodIn_of _ (by decide +kernel)) ggX5_failProtection_X5_contains
theorem dX5_failProtection_0 : decode cX5_failProtection 0 = .ok (.aload_n 0, 1) := by decide +kernel
theorem dX5_failProtection_1 : decode cX5_failProtection 1 = .ok (.getfield 10, 3) := by decide +kernel
theorem dX5_failProtection_4 : decode cX5_failProtection 4 = .ok (.getfield 29, 3) := by decide +kernel
theorem dX5_failProtection_7 : decode cX5_failProtection 7 = .ok (.iload_n 1, 1) := by decide +kernel
theorem dX5_failProtection_8 : decode cX5_failProtection 8 = .ok (.invokevirtual 91, 3) := by decide +kernel
theorem dX5_failProtection_11 : decode cX5_failProtection 11 = .ok (.ifCond .ne 6, 3) := by decide +kernel
theorem dX5_failProtection_14 : decode cX5_failProtection 14 = .ok (.bipush (-2), 2) := by decide +kernel
theorem dX5_failProtection_16 : decode cX5_failProtection 16 = .ok (.ireturn, 1) := by decide +kernel
theorem dX5_failProtection_17 : decode cX5_failProtection 17 = .ok (.aload_n 0, 1) := by decide +kernel
theorem dX5_failProtection_18 : decode cX5_failProtection 18 = .ok (.getfield 10, 3) := by decide +kernel
theorem dX5_failProtection_21 : decode cX5_failProtection 21 = .ok (.getfield 106, 3) := by decide +kernel
theorem dX5_failProtection_24 : decode cX5_failProtection 24 = .ok (.getfield 121, 3) := by decide +kernel
theorem dX5_failProtection_27 : decode cX5_failProtection 27 = .ok (.istore_n 3, 1) := by decide +kernel
theorem dX5_failProtection_28 : decode cX5_failProtection 28 = .ok (.aload_n 0, 1) := by decide +kernel
theorem dX5_failProtection_29 : decode cX5_failProtection 29 = .ok (.getfield 10, 3) := by decide +kernel
theorem dX5_failProtection_32 : decode cX5_failProtection 32 = .ok (.getfield 106, 3) := by decide +kernel
theorem dX5_failProtection_35 : decode cX5_failProtection 35 = .ok (.iload_n 3, 1) := by decide +kernel
theorem dX5_failProtection_36 : decode cX5_failProtection 36 = .ok (.iload_n 1, 1) := by decide +kernel
theorem dX5_failProtection_37 : decode cX5_failProtection 37 = .ok (.iload_n 2, 1) := by decide +kernel
theorem dX5_failProtection_38 : decode cX5_failProtection 38 = .ok (.invokestatic 115, 3) := by decide +kernel
theorem dX5_failProtection_41 : decode cX5_failProtection 41 = .ok (.putfield 121, 3) := by decide +kernel
theorem dX5_failProtection_44 : decode cX5_failProtection 44 = .ok (.aload_n 0, 1) := by decide +kernel
theorem dX5_failProtection_45 : decode cX5_failProtection 45 = .ok (.getfield 10, 3) := by decide +kernel
theorem dX5_failProtection_48 : decode cX5_failProtection 48 = .ok (.getfield 106, 3) := by decide +kernel
theorem dX5_failProtection_51 : decode cX5_failProtection 51 = .ok (.invokevirtual 118, 3) := by decide +kernel
theorem dX5_failProtection_54 : decode cX5_failProtection 54 = .ok (.iload_n 3, 1) := by decide +kernel
theorem dX5_failProtection_55 : decode cX5_failProtection 55 = .ok (.iload_n 1, 1) := by decide +kernel
theorem dX5_failProtection_56 : decode cX5_failProtection 56 = .ok (.invokestatic 68, 3) := by decide +kernel
theorem dX5_failProtection_59 : decode cX5_failProtection 59 = .ok (.ifCond .eq 7, 3) := by decide +kernel
theorem dX5_failProtection_62 : decode cX5_failProtection 62 = .ok (.iconst 1, 1) := by decide +kernel
theorem dX5_failProtection_63 : decode cX5_failProtection 63 = .ok (.goto 4, 3) := by decide +kernel
theorem dX5_failProtection_66 : decode cX5_failProtection 66 = .ok (.iconst 0, 1) := by decide +kernel
theorem dX5_failProtection_67 : decode cX5_failProtection 67 = .ok (.ireturn, 1) := by decide +kernel
set_option maxRecDepth 20000 in
theorem ggX5_failNode_X2_hasNode : GoodIn wsX5_failNode wsX2_hasNode := goodIn_r _ [6, 7, 116, 117] (by decide +kernel) (by decide +kernel)
set_option maxRecDepth 20000 in
theorem gX5_failNode_X2_hasNode : GoodIn wsX5_failNode (wsV RX5 124 RX2 yX2_hasNode wsX2_hasNode) := goodIn_app (goodIn_of _ (by decide +kernel)) ggX5_failNode_X2_hasNode
set_option maxRecDepth 20000 in
theorem ggX5_failNode_X5_marked : GoodIn wsX5_failNode wsX5_marked := goodIn_r _ [11] (by decide +kernel) (by decide +kernel)
set_option maxRecDepth 20000 in
theorem gX5_failNode_X5_marked : GoodIn wsX5_failNode (va_wsS RX5 115 yX5_marked wsX5_marked) := goodIn_app (goodIn_of _ (by decide +kernel)) ggX5_failNode_X5_marked
set_option maxRecDepth 20000 in
theorem ggX5_failNode_X1_run : GoodIn wsX5_failNode wsX1_run := goodIn_r _ [16, 17, 18, 19, 20, 15, 21, 22, 23, 24, 25, 26, 27, 10, 28, 29, 30, 31, 5, 32, 7, 33, 34, 35, 36, 37, 38, 39, 40, 41, 42, 43, 44, 45, 46, 47, 48, 49, 50, 51, 52, 53, 54, 55, 56, 57, 58, 59, 60, 61, 62, 63, 64, 65, 66, 67, 68, 69, 70, 71, 72, 73, 74, 75, 76, 77, 78, 79, 80, 81, 82, 83, 84, 85, 86, 87, 88, 89, 90, 91, 92, 102, 103, 104, 105, 106, 107, 108, 109, 110, 111, 112, 113, 114, 115, 116, 117] (by decide +kernel) (by decide +kernel)
set_option maxRecDepth 20000 in
theorem gX5_failNode_X1_run : GoodIn wsX5_failNode (wsV RX5 118 RX1 yX1_run wsX1_run) := goodIn_app (goodIn_of _ (by decide +kernel)) ggX5_failNode_X1_run
set_option maxRecDepth 20000 in
theorem ggX5_failNode_X5_contains : GoodIn wsX5_failNode wsX5_contains := goodIn_r _ [28] (by decide +kernel) (by decide +kernel)
set_option maxRecDepth 20000 in
theorem gX5_failNode_X5_contains : GoodIn wsX5_failNode (va_wsS RX5 68 yX5_contains wsX5_contains) := goodIn_app (goodIn_of _ (by decide +kernel)) ggX5_failNode_X5_contains
theorem dX5_failNode_0 : decode cX5_failNode 0 = .ok (.aload_n 0, 1) := by decide +kernel
theorem dX5_failNode_1 : decode cX5_failNode 1 = .ok (.getfield 10, 3) := by decide +kernel
theorem dX5_failNode_4 : decode cX5_failNode 4 = .ok (.getfield 29, 3) := by decide +kernel
theorem dX5_failNode_7 : decode cX5_failNode 7 = .ok (.iload_n 1, 1) := by decide +kernel
theorem dX5_failNode_8 : decode cX5_failNode 8 = .ok (.invokevirtual 124, 3) := by decide +kernel
theorem dX5_failNode_11 : decode cX5_failNode 11 = .ok (.ifCond .ne 5, 3) := by decide +kernel
theorem dX5_failNode_14 : decode cX5_failNode 14 = .ok (.iconst (-1), 1) := by decide +kernel
theorem dX5_failNode_15 : decode cX5_failNode 15 = .ok (.ireturn, 1) := by decide +kernel
theorem dX5_failNode_16 : decode cX5_failNode 16 = .ok (.aload_n 0, 1) := by decide +kernel
theorem dX5_failNode_17 : decode cX5_failNode 17 = .ok (.getfield 10, 3) := by decide +kernel
theorem dX5_failNode_20 : decode cX5_failNode 20 = .ok (.getfield 106, 3) := by decide +kernel
theorem dX5_failNode_23 : decode cX5_failNode 23 = .ok (.getfield 127, 3) := by decide +kernel
theorem dX5_failNode_26 : decode cX5_failNode 26 = .ok (.istore_n 3, 1) := by decide +kernel
theorem dX5_failNode_27 : decode cX5_failNode 27 = .ok (.aload_n 0, 1) := by decide +kernel
theorem dX5_failNode_28 : decode cX5_failNode 28 = .ok (.getfield 10, 3) := by decide +kernel
theorem dX5_failNode_31 : decode cX5_failNode 31 = .ok (.getfield 106, 3) := by decide +kernel
theorem dX5_failNode_34 : decode cX5_failNode 34 = .ok (.iload_n 3, 1) := by decide +kernel
theorem dX5_failNode_35 : decode cX5_failNode 35 = .ok (.iload_n 1, 1) := by decide +kernel
theorem dX5_failNode_36 : decode cX5_failNode 36 = .ok (.iload_n 2, 1) := by decide +kernel
theorem dX5_failNode_37 : decode cX5_failNode 37 = .ok (.invokestatic 115, 3) := by decide +kernel
theorem dX5_failNode_40 : decode cX5_failNode 40 = .ok (.putfield 127, 3) := by decide +kernel
theorem dX5_failNode_43 : decode cX5_failNode 43 = .ok (.aload_n 0, 1) := by decide +kernel
theorem dX5_failNode_44 : decode cX5_failNode 44 = .ok (.getfield 10, 3) := by decide +kernel
theorem dX5_failNode_47 : decode cX5_failNode 47 = .ok (.getfield 106, 3) := by decide +kernel
theorem dX5_failNode_50 : decode cX5_failNode 50 = .ok (.invokevirtual 118, 3) := by decide +kernel
theorem dX5_failNode_53 : decode cX5_failNode 53 = .ok (.iload_n 3, 1) := by decide +kernel
theorem dX5_failNode_54 : decode cX5_failNode 54 = .ok (.iload_n 1, 1) := by decide +kernel
theorem dX5_failNode_55 : decode cX5_failNode 55 = .ok (.invokestatic 68, 3) := by decide +kernel
theorem dX5_failNode_58 : decode cX5_failNode 58 = .ok (.ifCond .eq 7, 3) := by decide +kernel
theorem dX5_failNode_61 : decode cX5_failNode 61 = .ok (.iconst 1, 1) := by decide +kernel
theorem dX5_failNode_62 : decode cX5_failNode 62 = .ok (.goto 4, 3) := by decide +kernel
theorem dX5_failNode_65 : decode cX5_failNode 65 = .ok (.iconst 0, 1) := by decide +kernel
theorem dX5_failNode_66 : decode cX5_failNode 66 = .ok (.ireturn, 1) := by decide +kernel
set_option maxRecDepth 20000 in
theorem ggX5_command_X2_hasSpan : GoodIn wsX5_command wsX2_hasSpan := goodIn_r _ [6, 7, 102, 103] (by decide +kernel) (by decide +kernel)
set_option maxRecDepth 20000 in
theorem gX5_command_X2_hasSpan : GoodIn wsX5_command (wsV RX5 91 RX2 yX2_hasSpan wsX2_hasSpan) := goodIn_app (goodIn_of _ (by decide +kernel)) ggX5_command_X2_hasSpan
set_option maxRecDepth 20000 in
theorem ggX5_command_X5_isCommand : GoodIn wsX5_command wsX5_isCommand := goodIn_r _ [11] (by decide +kernel) (by decide +kernel)
set_option maxRecDepth 20000 in
theorem gX5_command_X5_isCommand : GoodIn wsX5_command (va_wsS RX5 130 yX5_isCommand wsX5_isCommand) := goodIn_app (goodIn_of _ (by decide +kernel)) ggX5_command_X5_isCommand
set_option maxRecDepth 20000 in
theorem ggX5_command_X1_replaceCommand : GoodIn wsX5_command wsX1_replaceCommand := goodIn_r _ [16, 17, 18, 19, 3, 4, 5, 6, 7, 104, 105, 106, 107, 108, 109, 110, 111, 112, 113, 114, 115, 116, 117, 102, 103] (by decide +kernel) (by decide +kernel)
set_option maxRecDepth 20000 in
theorem gX5_command_X1_replaceCommand : GoodIn wsX5_command (wsV RX5 133 RX1 yX1_replaceCommand wsX1_replaceCommand) := goodIn_app (goodIn_of _ (by decide +kernel)) ggX5_command_X1_replaceCommand
set_option maxRecDepth 20000 in
theorem ggX5_command_X1_run : GoodIn wsX5_command wsX1_run := goodIn_r _ [23, 17, 24, 25, 26, 15, 27, 28, 29, 30, 31, 32, 33, 10, 34, 35, 36, 37, 5, 38, 7, 39, 40, 41, 42, 43, 44, 45, 46, 47, 48, 49, 50, 51, 52, 53, 54, 55, 56, 57, 18, 58, 59, 60, 61, 62, 63, 64, 65, 66, 67, 68, 69, 70, 71, 72, 73, 74, 75, 76, 77, 78, 79, 80, 19, 3, 4, 6, 81, 82, 83, 84, 85, 86, 87, 88, 89, 90, 91, 92, 93, 104, 105, 106, 107, 108, 109, 110, 111, 112, 113, 114, 115, 116, 117, 102, 103] (by decide +kernel) (by decide +kernel)
set_option maxRecDepth 20000 in
theorem gX5_command_X1_run : GoodIn wsX5_command (wsV RX5 118 RX1 yX1_run wsX1_run) := goodIn_app (goodIn_of _ (by decide +kernel)) ggX5_command_X1_run
theorem dX5_command_0 : decode cX5_command 0 = .ok (.aload_n 0, 1) := by decide +kernel
theorem dX5_command_1 : decode cX5_command 1 = .ok (.getfield 10, 3) := by decide +kernel
theorem dX5_command_4 : decode cX5_command 4 = .ok (.getfield 29, 3) := by decide +kernel
theorem dX5_command_7 : decode cX5_command 7 = .ok (.iload_n 1, 1) := by decide +kernel
theorem dX5_command_8 : decode cX5_command 8 = .ok (.invokevirtual 91, 3) := by decide +kernel
theorem dX5_command_11 : decode cX5_command 11 = .ok (.ifCond .ne 6, 3) := by decide +kernel
theorem dX5_command_14 : decode cX5_command 14 = .ok (.bipush (-2), 2) := by decide +kernel
theorem dX5_command_16 : decode cX5_command 16 = .ok (.ireturn, 1) := by decide +kernel
theorem dX5_command_17 : decode cX5_command 17 = .ok (.iload_n 2, 1) := by decide +kernel
theorem dX5_command_18 : decode cX5_command 18 = .ok (.invokestatic 130, 3) := by decide +kernel
theorem dX5_command_21 : decode cX5_command 21 = .ok (.ifCond .ne 6, 3) := by decide +kernel
theorem dX5_command_24 : decode cX5_command 24 = .ok (.bipush (-4), 2) := by decide +kernel
theorem dX5_command_26 : decode cX5_command 26 = .ok (.ireturn, 1) := by decide +kernel
theorem dX5_command_27 : decode cX5_command 27 = .ok (.aload_n 0, 1) := by decide +kernel
theorem dX5_command_28 : decode cX5_command 28 = .ok (.getfield 10, 3) := by decide +kernel
theorem dX5_command_31 : decode cX5_command 31 = .ok (.getfield 106, 3) := by decide +kernel
theorem dX5_command_34 : decode cX5_command 34 = .ok (.iload_n 1, 1) := by decide +kernel
theorem dX5_command_35 : decode cX5_command 35 = .ok (.iload_n 2, 1) := by decide +kernel
theorem dX5_command_36 : decode cX5_command 36 = .ok (.invokevirtual 133, 3) := by decide +kernel
theorem dX5_command_39 : decode cX5_command 39 = .ok (.istore_n 3, 1) := by decide +kernel
theorem dX5_command_40 : decode cX5_command 40 = .ok (.aload_n 0, 1) := by decide +kernel
theorem dX5_command_41 : decode cX5_command 41 = .ok (.getfield 10, 3) := by decide +kernel
theorem dX5_command_44 : decode cX5_command 44 = .ok (.getfield 106, 3) := by decide +kernel
theorem dX5_command_47 : decode cX5_command 47 = .ok (.invokevirtual 118, 3) := by decide +kernel
theorem dX5_command_50 : decode cX5_command 50 = .ok (.iload_n 3, 1) := by decide +kernel
theorem dX5_command_51 : decode cX5_command 51 = .ok (.ireturn, 1) := by decide +kernel
theorem dX5_setRestoreTime_0 : decode cX5_setRestoreTime 0 = .ok (.iload_n 1, 1) := by decide +kernel
theorem dX5_setRestoreTime_1 : decode cX5_setRestoreTime 1 = .ok (.ifCond .lt 9, 3) := by decide +kernel
theorem dX5_setRestoreTime_4 : decode cX5_setRestoreTime 4 = .ok (.iload_n 1, 1) := by decide +kernel
theorem dX5_setRestoreTime_5 : decode cX5_setRestoreTime 5 = .ok (.bipush 60, 2) := by decide +kernel
theorem dX5_setRestoreTime_7 : decode cX5_setRestoreTime 7 = .ok (.if_icmp .le 6, 3) := by decide +kernel
theorem dX5_setRestoreTime_10 : decode cX5_setRestoreTime 10 = .ok (.bipush (-4), 2) := by decide +kernel
theorem dX5_setRestoreTime_12 : decode cX5_setRestoreTime 12 = .ok (.ireturn, 1) := by decide +kernel
theorem dX5_setRestoreTime_13 : decode cX5_setRestoreTime 13 = .ok (.aload_n 0, 1) := by decide +kernel
theorem dX5_setRestoreTime_14 : decode cX5_setRestoreTime 14 = .ok (.getfield 10, 3) := by decide +kernel
theorem dX5_setRestoreTime_17 : decode cX5_setRestoreTime 17 = .ok (.getfield 106, 3) := by decide +kernel
theorem dX5_setRestoreTime_20 : decode cX5_setRestoreTime 20 = .ok (.getfield 136, 3) := by decide +kernel
theorem dX5_setRestoreTime_23 : decode cX5_setRestoreTime 23 = .ok (.istore_n 2, 1) := by decide +kernel
theorem dX5_setRestoreTime_24 : decode cX5_setRestoreTime 24 = .ok (.aload_n 0, 1) := by decide +kernel
theorem dX5_setRestoreTime_25 : decode cX5_setRestoreTime 25 = .ok (.getfield 10, 3) := by decide +kernel
theorem dX5_setRestoreTime_28 : decode cX5_setRestoreTime 28 = .ok (.getfield 106, 3) := by decide +kernel
theorem dX5_setRestoreTime_31 : decode cX5_setRestoreTime 31 = .ok (.iload_n 1, 1) := by decide +kernel
theorem dX5_setRestoreTime_32 : decode cX5_setRestoreTime 32 = .ok (.putfield 136, 3) := by decide +kernel
theorem dX5_setRestoreTime_35 : decode cX5_setRestoreTime 35 = .ok (.iload_n 2, 1) := by decide +kernel
theorem dX5_setRestoreTime_36 : decode cX5_setRestoreTime 36 = .ok (.ireturn, 1) := by decide +kernel
set_option maxRecDepth 20000 in
theorem ggX5_advance_X3_passSecond : GoodIn wsX5_advance wsX3_passSecond := goodIn_r _ [6, 7, 8, 9, 10, 11, 12, 13, 14, 15, 16, 17, 18, 19, 20, 21, 22, 23, 24, 25, 26, 27, 28, 29, 30, 31, 32, 33, 34, 35, 36, 37, 38, 39, 40, 41, 42, 43, 44, 45, 46, 47, 48, 49, 50, 51, 52, 53, 54, 55, 56, 57, 58, 59, 60, 61, 62, 63, 64, 65, 66, 67, 68, 69, 70, 71, 72, 73, 74, 75, 76, 77, 78, 79, 80, 81, 82, 83, 84, 85, 86, 87, 88, 89, 90, 91, 92, 93, 94, 95, 96, 101, 102, 103, 104, 105, 106, 107, 108, 109, 110, 111, 112, 113, 114, 115, 116, 117, 118, 119, 120] (by decide +kernel) (by decide +kernel)
set_option maxRecDepth 20000 in
theorem gX5_advance_X3_passSecond : GoodIn wsX5_advance (wsV RX5 139 RX3 yX3_passSecond wsX3_passSecond) := goodIn_app (goodIn_of _ (by decide +kernel)) ggX5_advance_X3_passSecond
theorem dX5_advance_0 : decode cX5_advance 0 = .ok (.iload_n 1, 1) := by decide +kernel
theorem dX5_advance_1 : decode cX5_advance 1 = .ok (.iconst 1, 1) := by decide +kernel
theorem dX5_advance_2 : decode cX5_advance 2 = .ok (.if_icmp .lt 9, 3) := by decide +kernel
theorem dX5_advance_5 : decode cX5_advance 5 = .ok (.iload_n 1, 1) := by decide +kernel
theorem dX5_advance_6 : decode cX5_advance 6 = .ok (.bipush 100, 2) := by decide +kernel
theorem dX5_advance_8 : decode cX5_advance 8 = .ok (.if_icmp .le 6, 3) := by decide +kernel
theorem dX5_advance_11 : decode cX5_advance 11 = .ok (.bipush (-4), 2) := by decide +kernel
theorem dX5_advance_13 : decode cX5_advance 13 = .ok (.ireturn, 1) := by decide +kernel
theorem dX5_advance_14 : decode cX5_advance 14 = .ok (.iconst 0, 1) := by decide +kernel
theorem dX5_advance_15 : decode cX5_advance 15 = .ok (.istore_n 2, 1) := by decide +kernel
theorem dX5_advance_16 : decode cX5_advance 16 = .ok (.iload_n 2, 1) := by decide +kernel
theorem dX5_advance_17 : decode cX5_advance 17 = .ok (.iload_n 1, 1) := by decide +kernel
theorem dX5_advance_18 : decode cX5_advance 18 = .ok (.if_icmp .ge 16, 3) := by decide +kernel
theorem dX5_advance_21 : decode cX5_advance 21 = .ok (.aload_n 0, 1) := by decide +kernel
theorem dX5_advance_22 : decode cX5_advance 22 = .ok (.getfield 10, 3) := by decide +kernel
theorem dX5_advance_25 : decode cX5_advance 25 = .ok (.invokevirtual 139, 3) := by decide +kernel
theorem dX5_advance_28 : decode cX5_advance 28 = .ok (.iinc 2 1, 3) := by decide +kernel
theorem dX5_advance_31 : decode cX5_advance 31 = .ok (.goto (-15), 3) := by decide +kernel
theorem dX5_advance_34 : decode cX5_advance 34 = .ok (.aload_n 0, 1) := by decide +kernel
theorem dX5_advance_35 : decode cX5_advance 35 = .ok (.getfield 10, 3) := by decide +kernel
theorem dX5_advance_38 : decode cX5_advance 38 = .ok (.getfield 142, 3) := by decide +kernel
theorem dX5_advance_41 : decode cX5_advance 41 = .ok (.ireturn, 1) := by decide +kernel
theorem dX5_clock_0 : decode cX5_clock 0 = .ok (.aload_n 0, 1) := by decide +kernel
theorem dX5_clock_1 : decode cX5_clock 1 = .ok (.getfield 10, 3) := by decide +kernel
theorem dX5_clock_4 : decode cX5_clock 4 = .ok (.getfield 142, 3) := by decide +kernel
theorem dX5_clock_7 : decode cX5_clock 7 = .ok (.ireturn, 1) := by decide +kernel
set_option maxRecDepth 20000 in
theorem ggX5_request_X2_hasSpan : GoodIn wsX5_request wsX2_hasSpan := goodIn_r _ [6, 7, 26, 27] (by decide +kernel) (by decide +kernel)
set_option maxRecDepth 20000 in
theorem gX5_request_X2_hasSpan : GoodIn wsX5_request (wsV RX5 91 RX2 yX2_hasSpan wsX2_hasSpan) := goodIn_app (goodIn_of _ (by decide +kernel)) ggX5_request_X2_hasSpan
set_option maxRecDepth 20000 in
theorem ggX5_request_X1_requestAt : GoodIn wsX5_request wsX1_requestAt := goodIn_r _ [12, 13, 14, 15, 16, 17, 3, 4, 5, 6, 7, 28, 29, 30, 31, 32, 33, 34, 35, 36, 37, 38, 39, 40, 41, 26, 27] (by decide +kernel) (by decide +kernel)
set_option maxRecDepth 20000 in
theorem gX5_request_X1_requestAt : GoodIn wsX5_request (wsV RX5 145 RX1 yX1_requestAt wsX1_requestAt) := goodIn_app (goodIn_of _ (by decide +kernel)) ggX5_request_X1_requestAt
theorem dX5_request_0 : decode cX5_request 0 = .ok (.aload_n 0, 1) := by decide +kernel
theorem dX5_request_1 : decode cX5_request 1 = .ok (.getfield 10, 3) := by decide +kernel
theorem dX5_request_4 : decode cX5_request 4 = .ok (.getfield 29, 3) := by decide +kernel
theorem dX5_request_7 : decode cX5_request 7 = .ok (.iload_n 1, 1) := by decide +kernel
theorem dX5_request_8 : decode cX5_request 8 = .ok (.invokevirtual 91, 3) := by decide +kernel
theorem dX5_request_11 : decode cX5_request 11 = .ok (.ifCond .ne 6, 3) := by decide +kernel
theorem dX5_request_14 : decode cX5_request 14 = .ok (.bipush (-2), 2) := by decide +kernel
theorem dX5_request_16 : decode cX5_request 16 = .ok (.ireturn, 1) := by decide +kernel
theorem dX5_request_17 : decode cX5_request 17 = .ok (.aload_n 0, 1) := by decide +kernel
theorem dX5_request_18 : decode cX5_request 18 = .ok (.getfield 10, 3) := by decide +kernel
theorem dX5_request_21 : decode cX5_request 21 = .ok (.getfield 106, 3) := by decide +kernel
theorem dX5_request_24 : decode cX5_request 24 = .ok (.iload_n 1, 1) := by decide +kernel
theorem dX5_request_25 : decode cX5_request 25 = .ok (.invokevirtual 145, 3) := by decide +kernel
theorem dX5_request_28 : decode cX5_request 28 = .ok (.ireturn, 1) := by decide +kernel
set_option maxRecDepth 20000 in
theorem ggX5_switchOf_X2_hasSpan : GoodIn wsX5_switchOf wsX2_hasSpan := goodIn_r _ [6, 7, 26, 27] (by decide +kernel) (by decide +kernel)
set_option maxRecDepth 20000 in
theorem gX5_switchOf_X2_hasSpan : GoodIn wsX5_switchOf (wsV RX5 91 RX2 yX2_hasSpan wsX2_hasSpan) := goodIn_app (goodIn_of _ (by decide +kernel)) ggX5_switchOf_X2_hasSpan
set_option maxRecDepth 20000 in
theorem ggX5_switchOf_X1_switchAt : GoodIn wsX5_switchOf wsX1_switchAt := goodIn_r _ [12, 13, 14, 15, 16, 17, 28, 29, 30, 31, 32, 33, 34, 35, 36, 37, 38, 39, 40, 41] (by decide +kernel) (by decide +kernel)
set_option maxRecDepth 20000 in
theorem gX5_switchOf_X1_switchAt : GoodIn wsX5_switchOf (wsV RX5 148 RX1 yX1_switchAt wsX1_switchAt) := goodIn_app (goodIn_of _ (by decide +kernel)) ggX5_switchOf_X1_switchAt
theorem dX5_switchOf_0 : decode cX5_switchOf 0 = .ok (.aload_n 0, 1) := by decide +kernel
theorem dX5_switchOf_1 : decode cX5_switchOf 1 = .ok (.getfield 10, 3) := by decide +kernel
theorem dX5_switchOf_4 : decode cX5_switchOf 4 = .ok (.getfield 29, 3) := by decide +kernel
theorem dX5_switchOf_7 : decode cX5_switchOf 7 = .ok (.iload_n 1, 1) := by decide +kernel
theorem dX5_switchOf_8 : decode cX5_switchOf 8 = .ok (.invokevirtual 91, 3) := by decide +kernel
theorem dX5_switchOf_11 : decode cX5_switchOf 11 = .ok (.ifCond .ne 6, 3) := by decide +kernel
theorem dX5_switchOf_14 : decode cX5_switchOf 14 = .ok (.bipush (-2), 2) := by decide +kernel
theorem dX5_switchOf_16 : decode cX5_switchOf 16 = .ok (.ireturn, 1) := by decide +kernel
theorem dX5_switchOf_17 : decode cX5_switchOf 17 = .ok (.aload_n 0, 1) := by decide +kernel
theorem dX5_switchOf_18 : decode cX5_switchOf 18 = .ok (.getfield 10, 3) := by decide +kernel
theorem dX5_switchOf_21 : decode cX5_switchOf 21 = .ok (.getfield 106, 3) := by decide +kernel
theorem dX5_switchOf_24 : decode cX5_switchOf 24 = .ok (.iload_n 1, 1) := by decide +kernel
theorem dX5_switchOf_25 : decode cX5_switchOf 25 = .ok (.invokevirtual 148, 3) := by decide +kernel
theorem dX5_switchOf_28 : decode cX5_switchOf 28 = .ok (.ireturn, 1) := by decide +kernel
set_option maxRecDepth 20000 in
theorem ggX5_restoreTimer_X2_hasSpan : GoodIn wsX5_restoreTimer wsX2_hasSpan := goodIn_r _ [6, 7, 24, 25] (by decide +kernel) (by decide +kernel)
set_option maxRecDepth 20000 in
theorem gX5_restoreTimer_X2_hasSpan : GoodIn wsX5_restoreTimer (wsV RX5 91 RX2 yX2_hasSpan wsX2_hasSpan) := goodIn_app (goodIn_of _ (by decide +kernel)) ggX5_restoreTimer_X2_hasSpan
set_option maxRecDepth 20000 in
theorem ggX5_restoreTimer_X1_timerAt : GoodIn wsX5_restoreTimer wsX1_timerAt := goodIn_r _ [12, 13, 14, 15, 3, 4, 5, 6, 7, 26, 27, 28, 29, 30, 31, 32, 33, 34, 35, 36, 37, 38, 39, 24, 25] (by decide +kernel) (by decide +kernel)
set_option maxRecDepth 20000 in
theorem gX5_restoreTimer_X1_timerAt : GoodIn wsX5_restoreTimer (wsV RX5 151 RX1 yX1_timerAt wsX1_timerAt) := goodIn_app (goodIn_of _ (by decide +kernel)) ggX5_restoreTimer_X1_timerAt
theorem dX5_restoreTimer_0 : decode cX5_restoreTimer 0 = .ok (.aload_n 0, 1) := by decide +kernel
theorem dX5_restoreTimer_1 : decode cX5_restoreTimer 1 = .ok (.getfield 10, 3) := by decide +kernel
theorem dX5_restoreTimer_4 : decode cX5_restoreTimer 4 = .ok (.getfield 29, 3) := by decide +kernel
theorem dX5_restoreTimer_7 : decode cX5_restoreTimer 7 = .ok (.iload_n 1, 1) := by decide +kernel
theorem dX5_restoreTimer_8 : decode cX5_restoreTimer 8 = .ok (.invokevirtual 91, 3) := by decide +kernel
theorem dX5_restoreTimer_11 : decode cX5_restoreTimer 11 = .ok (.ifCond .ne 6, 3) := by decide +kernel
theorem dX5_restoreTimer_14 : decode cX5_restoreTimer 14 = .ok (.bipush (-2), 2) := by decide +kernel
theorem dX5_restoreTimer_16 : decode cX5_restoreTimer 16 = .ok (.ireturn, 1) := by decide +kernel
theorem dX5_restoreTimer_17 : decode cX5_restoreTimer 17 = .ok (.aload_n 0, 1) := by decide +kernel
theorem dX5_restoreTimer_18 : decode cX5_restoreTimer 18 = .ok (.getfield 10, 3) := by decide +kernel
theorem dX5_restoreTimer_21 : decode cX5_restoreTimer 21 = .ok (.getfield 106, 3) := by decide +kernel
theorem dX5_restoreTimer_24 : decode cX5_restoreTimer 24 = .ok (.iload_n 1, 1) := by decide +kernel
theorem dX5_restoreTimer_25 : decode cX5_restoreTimer 25 = .ok (.invokevirtual 151, 3) := by decide +kernel
theorem dX5_restoreTimer_28 : decode cX5_restoreTimer 28 = .ok (.ireturn, 1) := by decide +kernel
set_option maxRecDepth 20000 in
theorem ggX5_segment_X2_hasNode : GoodIn wsX5_segment wsX2_hasNode := goodIn_r _ [6, 7, 24, 25] (by decide +kernel) (by decide +kernel)
set_option maxRecDepth 20000 in
theorem gX5_segment_X2_hasNode : GoodIn wsX5_segment (wsV RX5 124 RX2 yX2_hasNode wsX2_hasNode) := goodIn_app (goodIn_of _ (by decide +kernel)) ggX5_segment_X2_hasNode
set_option maxRecDepth 20000 in
theorem ggX5_segment_X1_segmentOf : GoodIn wsX5_segment wsX1_segmentOf := goodIn_r _ [12, 13, 14, 15, 3, 4, 5, 6, 7, 26, 27, 28, 29, 30, 31, 32, 33, 34, 35, 36, 37, 38, 39, 24, 25] (by decide +kernel) (by decide +kernel)
set_option maxRecDepth 20000 in
theorem gX5_segment_X1_segmentOf : GoodIn wsX5_segment (wsV RX5 154 RX1 yX1_segmentOf wsX1_segmentOf) := goodIn_app (goodIn_of _ (by decide +kernel)) ggX5_segment_X1_segmentOf
theorem dX5_segment_0 : decode cX5_segment 0 = .ok (.aload_n 0, 1) := by decide +kernel
theorem dX5_segment_1 : decode cX5_segment 1 = .ok (.getfield 10, 3) := by decide +kernel
theorem dX5_segment_4 : decode cX5_segment 4 = .ok (.getfield 29, 3) := by decide +kernel
theorem dX5_segment_7 : decode cX5_segment 7 = .ok (.iload_n 1, 1) := by decide +kernel
theorem dX5_segment_8 : decode cX5_segment 8 = .ok (.invokevirtual 124, 3) := by decide +kernel
theorem dX5_segment_11 : decode cX5_segment 11 = .ok (.ifCond .ne 5, 3) := by decide +kernel
theorem dX5_segment_14 : decode cX5_segment 14 = .ok (.iconst (-1), 1) := by decide +kernel
theorem dX5_segment_15 : decode cX5_segment 15 = .ok (.ireturn, 1) := by decide +kernel
theorem dX5_segment_16 : decode cX5_segment 16 = .ok (.aload_n 0, 1) := by decide +kernel
theorem dX5_segment_17 : decode cX5_segment 17 = .ok (.getfield 10, 3) := by decide +kernel
theorem dX5_segment_20 : decode cX5_segment 20 = .ok (.getfield 106, 3) := by decide +kernel
theorem dX5_segment_23 : decode cX5_segment 23 = .ok (.iload_n 1, 1) := by decide +kernel
theorem dX5_segment_24 : decode cX5_segment 24 = .ok (.invokevirtual 154, 3) := by decide +kernel
theorem dX5_segment_27 : decode cX5_segment 27 = .ok (.ireturn, 1) := by decide +kernel
set_option maxRecDepth 20000 in
theorem ggX5_state_X0_has : GoodIn wsX5_state wsX0_has := goodIn_r _ [6, 7, 75, 76, 77, 78, 79] (by decide +kernel) (by decide +kernel)
set_option maxRecDepth 20000 in
theorem gX5_state_X0_has : GoodIn wsX5_state (wsV RX5 80 RX0 yX0_has wsX0_has) := goodIn_app (goodIn_of _ (by decide +kernel)) ggX5_state_X0_has
set_option maxRecDepth 20000 in
theorem ggX5_state_X3_stateOf : GoodIn wsX5_state wsX3_stateOf := goodIn_r _ [12, 13, 14, 15, 16, 5, 17, 18, 19, 20, 21, 22, 23, 24, 11, 25, 26, 27, 28, 29, 30, 7, 31, 3, 4, 6, 32, 33, 34, 35, 36, 37, 38, 39, 40, 41, 42, 43, 44, 45, 46, 47, 48, 49, 50, 51, 52, 53, 54, 55, 56, 57, 58, 59, 60, 61, 62, 63, 64, 65, 66, 71, 72, 73, 74, 75, 76, 77, 78, 79, 80, 81, 82, 83, 84, 85, 86, 87, 88, 89, 90, 91, 92, 93, 94, 95] (by decide +kernel) (by decide +kernel)
set_option maxRecDepth 20000 in
theorem gX5_state_X3_stateOf : GoodIn wsX5_state (wsV RX5 157 RX3 yX3_stateOf wsX3_stateOf) := goodIn_app (goodIn_of _ (by decide +kernel)) ggX5_state_X3_stateOf
theorem dX5_state_0 : decode cX5_state 0 = .ok (.aload_n 0, 1) := by decide +kernel
theorem dX5_state_1 : decode cX5_state 1 = .ok (.getfield 10, 3) := by decide +kernel
theorem dX5_state_4 : decode cX5_state 4 = .ok (.getfield 50, 3) := by decide +kernel
theorem dX5_state_7 : decode cX5_state 7 = .ok (.iload_n 1, 1) := by decide +kernel
theorem dX5_state_8 : decode cX5_state 8 = .ok (.invokevirtual 80, 3) := by decide +kernel
theorem dX5_state_11 : decode cX5_state 11 = .ok (.ifCond .ne 6, 3) := by decide +kernel
theorem dX5_state_14 : decode cX5_state 14 = .ok (.bipush (-3), 2) := by decide +kernel
theorem dX5_state_16 : decode cX5_state 16 = .ok (.ireturn, 1) := by decide +kernel
theorem dX5_state_17 : decode cX5_state 17 = .ok (.aload_n 0, 1) := by decide +kernel
theorem dX5_state_18 : decode cX5_state 18 = .ok (.getfield 10, 3) := by decide +kernel
theorem dX5_state_21 : decode cX5_state 21 = .ok (.iload_n 1, 1) := by decide +kernel
theorem dX5_state_22 : decode cX5_state 22 = .ok (.invokevirtual 157, 3) := by decide +kernel
theorem dX5_state_25 : decode cX5_state 25 = .ok (.ireturn, 1) := by decide +kernel
set_option maxRecDepth 20000 in
theorem ggX5_circuitsIn_X3_allInState : GoodIn wsX5_circuitsIn wsX3_allInState := goodIn_r _ [6, 7, 8, 9, 10, 11, 12, 13, 14, 15, 16, 5, 17, 18, 19, 20, 21, 22, 23, 24, 25, 26, 27, 28, 29, 30, 31, 32, 33, 34, 35, 36, 37, 38, 39, 40, 41, 42, 43, 44, 45, 46, 47, 48, 49, 50, 51, 52, 53, 54, 55, 56, 57, 58, 59, 60, 61, 62, 63, 64, 65, 66, 67, 68, 69, 70, 75, 76, 77, 78, 79, 80, 81, 82, 83, 84, 85, 86, 87, 88, 89, 90, 91, 92, 93, 94, 95, 96, 97, 98, 99] (by decide +kernel) (by decide +kernel)
set_option maxRecDepth 20000 in
theorem gX5_circuitsIn_X3_allInState : GoodIn wsX5_circuitsIn (wsV RX5 160 RX3 yX3_allInState wsX3_allInState) := goodIn_app (goodIn_of _ (by decide +kernel)) ggX5_circuitsIn_X3_allInState
theorem dX5_circuitsIn_0 : decode cX5_circuitsIn 0 = .ok (.iload_n 1, 1) := by decide +kernel
theorem dX5_circuitsIn_1 : decode cX5_circuitsIn 1 = .ok (.ifCond .lt 8, 3) := by decide +kernel
theorem dX5_circuitsIn_4 : decode cX5_circuitsIn 4 = .ok (.iload_n 1, 1) := by decide +kernel
theorem dX5_circuitsIn_5 : decode cX5_circuitsIn 5 = .ok (.iconst 5, 1) := by decide +kernel
theorem dX5_circuitsIn_6 : decode cX5_circuitsIn 6 = .ok (.if_icmp .le 6, 3) := by decide +kernel
theorem dX5_circuitsIn_9 : decode cX5_circuitsIn 9 = .ok (.bipush (-4), 2) := by decide +kernel
theorem dX5_circuitsIn_11 : decode cX5_circuitsIn 11 = .ok (.ireturn, 1) := by decide +kernel
theorem dX5_circuitsIn_12 : decode cX5_circuitsIn 12 = .ok (.aload_n 0, 1) := by decide +kernel
theorem dX5_circuitsIn_13 : decode cX5_circuitsIn 13 = .ok (.getfield 10, 3) := by decide +kernel
theorem dX5_circuitsIn_16 : decode cX5_circuitsIn 16 = .ok (.iload_n 1, 1) := by decide +kernel
theorem dX5_circuitsIn_17 : decode cX5_circuitsIn 17 = .ok (.invokevirtual 160, 3) := by decide +kernel
theorem dX5_circuitsIn_20 : decode cX5_circuitsIn 20 = .ok (.ireturn, 1) := by decide +kernel
set_option maxRecDepth 20000 in
theorem ggX5_deliveredCount_X3_countDelivered : GoodIn wsX5_deliveredCount wsX3_countDelivered := goodIn_r _ [6, 7, 8, 9, 10, 11, 12, 13, 14, 15, 16, 5, 17, 18, 19, 20, 21, 22, 23, 24, 25, 26, 27, 28, 29, 30, 31, 32, 33, 34, 35, 36, 37, 38, 39, 40, 41, 42, 43, 44, 45, 46, 47, 48, 49, 50, 51, 52, 53, 54, 55, 56, 57, 58, 59, 60, 61, 62, 63, 64, 65, 66, 67, 68, 69, 70, 71, 72, 77, 78, 79, 80, 81, 82, 83, 84, 85, 86, 87, 88, 89, 90, 91, 92, 93, 94, 95, 96, 97, 98, 99, 100, 101] (by decide +kernel) (by decide +kernel)
set_option maxRecDepth 20000 in
theorem gX5_deliveredCount_X3_countDelivered : GoodIn wsX5_deliveredCount (wsV RX5 163 RX3 yX3_countDelivered wsX3_countDelivered) := goodIn_app (goodIn_of _ (by decide +kernel)) ggX5_deliveredCount_X3_countDelivered
theorem dX5_deliveredCount_0 : decode cX5_deliveredCount 0 = .ok (.aload_n 0, 1) := by decide +kernel
theorem dX5_deliveredCount_1 : decode cX5_deliveredCount 1 = .ok (.getfield 10, 3) := by decide +kernel
theorem dX5_deliveredCount_4 : decode cX5_deliveredCount 4 = .ok (.invokevirtual 163, 3) := by decide +kernel
theorem dX5_deliveredCount_7 : decode cX5_deliveredCount 7 = .ok (.ireturn, 1) := by decide +kernel
set_option maxRecDepth 20000 in
theorem ggX5_hops_X0_has : GoodIn wsX5_hops wsX0_has := goodIn_r _ [6, 7, 88, 89, 90, 91, 92] (by decide +kernel) (by decide +kernel)
set_option maxRecDepth 20000 in
theorem gX5_hops_X0_has : GoodIn wsX5_hops (wsV RX5 80 RX0 yX0_has wsX0_has) := goodIn_app (goodIn_of _ (by decide +kernel)) ggX5_hops_X0_has
set_option maxRecDepth 20000 in
theorem ggX5_hops_X3_hopsOf : GoodIn wsX5_hops wsX3_hopsOf := goodIn_r _ [12, 13, 14, 15, 16, 17, 11, 18, 19, 20, 21, 5, 22, 23, 24, 25, 26, 27, 28, 29, 30, 31, 32, 33, 34, 7, 35, 3, 4, 6, 36, 37, 38, 39, 40, 41, 42, 43, 44, 45, 46, 47, 48, 49, 50, 51, 52, 53, 54, 55, 56, 57, 58, 59, 60, 61, 62, 63, 64, 65, 66, 67, 68, 69, 70, 71, 72, 73, 74, 75, 76, 77, 78, 79, 84, 85, 86, 87, 93, 94, 95, 96, 97, 98, 99, 100, 101, 102, 103, 104, 105, 106, 88, 89, 90, 91, 92, 107, 108] (by decide +kernel) (by decide +kernel)
set_option maxRecDepth 20000 in
theorem gX5_hops_X3_hopsOf : GoodIn wsX5_hops (wsV RX5 166 RX3 yX3_hopsOf wsX3_hopsOf) := goodIn_app (goodIn_of _ (by decide +kernel)) ggX5_hops_X3_hopsOf
theorem dX5_hops_0 : decode cX5_hops 0 = .ok (.aload_n 0, 1) := by decide +kernel
theorem dX5_hops_1 : decode cX5_hops 1 = .ok (.getfield 10, 3) := by decide +kernel
theorem dX5_hops_4 : decode cX5_hops 4 = .ok (.getfield 50, 3) := by decide +kernel
theorem dX5_hops_7 : decode cX5_hops 7 = .ok (.iload_n 1, 1) := by decide +kernel
theorem dX5_hops_8 : decode cX5_hops 8 = .ok (.invokevirtual 80, 3) := by decide +kernel
theorem dX5_hops_11 : decode cX5_hops 11 = .ok (.ifCond .ne 6, 3) := by decide +kernel
theorem dX5_hops_14 : decode cX5_hops 14 = .ok (.bipush (-3), 2) := by decide +kernel
theorem dX5_hops_16 : decode cX5_hops 16 = .ok (.ireturn, 1) := by decide +kernel
theorem dX5_hops_17 : decode cX5_hops 17 = .ok (.aload_n 0, 1) := by decide +kernel
theorem dX5_hops_18 : decode cX5_hops 18 = .ok (.getfield 10, 3) := by decide +kernel
theorem dX5_hops_21 : decode cX5_hops 21 = .ok (.iload_n 1, 1) := by decide +kernel
theorem dX5_hops_22 : decode cX5_hops 22 = .ok (.invokevirtual 166, 3) := by decide +kernel
theorem dX5_hops_25 : decode cX5_hops 25 = .ok (.ireturn, 1) := by decide +kernel
set_option maxRecDepth 20000 in
theorem ggX5_averageHops_X3_countDelivered : GoodIn wsX5_averageHops wsX3_countDelivered := goodIn_r _ [6, 7, 8, 9, 10, 11, 12, 13, 14, 15, 16, 5, 17, 18, 19, 20, 21, 22, 23, 24, 25, 26, 27, 28, 29, 30, 31, 32, 33, 34, 35, 36, 37, 38, 39, 40, 41, 42, 43, 44, 45, 46, 47, 48, 49, 50, 51, 52, 53, 54, 55, 56, 57, 58, 59, 60, 61, 62, 63, 64, 65, 66, 67, 68, 69, 70, 71, 72, 92, 93, 94, 95, 96, 97, 98, 99, 100, 101, 102, 103, 104, 105, 106, 107, 108, 109, 110, 111, 112, 113, 114, 115, 116] (by decide +kernel) (by decide +kernel)
set_option maxRecDepth 20000 in
theorem gX5_averageHops_X3_countDelivered : GoodIn wsX5_averageHops (wsV RX5 163 RX3 yX3_countDelivered wsX3_countDelivered) := goodIn_app (goodIn_of _ (by decide +kernel)) ggX5_averageHops_X3_countDelivered
set_option maxRecDepth 20000 in
theorem ggX5_averageHops_X3_sumOfHops : GoodIn wsX5_averageHops wsX3_sumOfHops := goodIn_r _ [76, 7, 8, 9, 10, 11, 12, 13, 77, 78, 79, 5, 80, 30, 14, 15, 16, 17, 18, 19, 20, 21, 22, 23, 24, 25, 26, 27, 28, 29, 31, 32, 33, 34, 35, 36, 37, 38, 39, 40, 41, 42, 43, 44, 45, 46, 47, 48, 49, 50, 51, 52, 53, 54, 55, 56, 57, 58, 59, 60, 61, 62, 63, 64, 65, 66, 67, 68, 69, 70, 71, 72, 81, 82, 83, 84, 85, 86, 87, 92, 93, 94, 95, 96, 97, 98, 99, 100, 101, 102, 103, 104, 105, 106, 107, 108, 109, 110, 111, 112, 113, 114, 115, 116] (by decide +kernel) (by decide +kernel)
set_option maxRecDepth 20000 in
theorem gX5_averageHops_X3_sumOfHops : GoodIn wsX5_averageHops (wsV RX5 169 RX3 yX3_sumOfHops wsX3_sumOfHops) := goodIn_app (goodIn_of _ (by decide +kernel)) ggX5_averageHops_X3_sumOfHops
theorem dX5_averageHops_0 : decode cX5_averageHops 0 = .ok (.aload_n 0, 1) := by decide +kernel
theorem dX5_averageHops_1 : decode cX5_averageHops 1 = .ok (.getfield 10, 3) := by decide +kernel
theorem dX5_averageHops_4 : decode cX5_averageHops 4 = .ok (.invokevirtual 163, 3) := by decide +kernel
theorem dX5_averageHops_7 : decode cX5_averageHops 7 = .ok (.istore_n 1, 1) := by decide +kernel
theorem dX5_averageHops_8 : decode cX5_averageHops 8 = .ok (.iload_n 1, 1) := by decide +kernel
theorem dX5_averageHops_9 : decode cX5_averageHops 9 = .ok (.ifCond .gt 6, 3) := by decide +kernel
theorem dX5_averageHops_12 : decode cX5_averageHops 12 = .ok (.bipush (-9), 2) := by decide +kernel
theorem dX5_averageHops_14 : decode cX5_averageHops 14 = .ok (.ireturn, 1) := by decide +kernel
theorem dX5_averageHops_15 : decode cX5_averageHops 15 = .ok (.bipush 100, 2) := by decide +kernel
theorem dX5_averageHops_17 : decode cX5_averageHops 17 = .ok (.aload_n 0, 1) := by decide +kernel
theorem dX5_averageHops_18 : decode cX5_averageHops 18 = .ok (.getfield 10, 3) := by decide +kernel
theorem dX5_averageHops_21 : decode cX5_averageHops 21 = .ok (.invokevirtual 169, 3) := by decide +kernel
theorem dX5_averageHops_24 : decode cX5_averageHops 24 = .ok (.imul, 1) := by decide +kernel
theorem dX5_averageHops_25 : decode cX5_averageHops 25 = .ok (.iload_n 1, 1) := by decide +kernel
theorem dX5_averageHops_26 : decode cX5_averageHops 26 = .ok (.idiv, 1) := by decide +kernel
theorem dX5_averageHops_27 : decode cX5_averageHops 27 = .ok (.ireturn, 1) := by decide +kernel
set_option maxRecDepth 20000 in
theorem ggX5_squelchedAt_X2_hasNode : GoodIn wsX5_squelchedAt wsX2_hasNode := goodIn_r _ [6, 7, 102, 103] (by decide +kernel) (by decide +kernel)
set_option maxRecDepth 20000 in
theorem gX5_squelchedAt_X2_hasNode : GoodIn wsX5_squelchedAt (wsV RX5 124 RX2 yX2_hasNode wsX2_hasNode) := goodIn_app (goodIn_of _ (by decide +kernel)) ggX5_squelchedAt_X2_hasNode
set_option maxRecDepth 20000 in
theorem ggX5_squelchedAt_X2_spansAt : GoodIn wsX5_squelchedAt wsX2_spansAt := goodIn_r _ [11, 7, 102, 103] (by decide +kernel) (by decide +kernel)
set_option maxRecDepth 20000 in
theorem gX5_squelchedAt_X2_spansAt : GoodIn wsX5_squelchedAt (wsV RX5 172 RX2 yX2_spansAt wsX2_spansAt) := goodIn_app (goodIn_of _ (by decide +kernel)) ggX5_squelchedAt_X2_spansAt
set_option maxRecDepth 20000 in
theorem ggX5_squelchedAt_X3_allInState : GoodIn wsX5_squelchedAt wsX3_allInState := goodIn_r _ [16, 17, 18, 19, 20, 21, 22, 23, 24, 25, 26, 15, 27, 28, 29, 30, 31, 32, 33, 34, 35, 36, 37, 38, 39, 40, 41, 42, 43, 44, 45, 46, 47, 48, 49, 50, 51, 52, 53, 54, 55, 56, 57, 58, 59, 60, 61, 62, 3, 4, 5, 6, 7, 63, 64, 65, 66, 67, 68, 69, 70, 71, 72, 73, 74, 75, 84, 85, 86, 87, 104, 105, 106, 107, 108, 88, 89, 90, 91, 92, 93, 94, 95, 96, 97, 98, 99, 100, 101, 102, 103] (by decide +kernel) (by decide +kernel)
set_option maxRecDepth 20000 in
theorem gX5_squelchedAt_X3_allInState : GoodIn wsX5_squelchedAt (wsV RX5 160 RX3 yX3_allInState wsX3_allInState) := goodIn_app (goodIn_of _ (by decide +kernel)) ggX5_squelchedAt_X3_allInState
set_option maxRecDepth 20000 in
theorem ggX5_squelchedAt_X0_crossing : GoodIn wsX5_squelchedAt wsX0_crossing := goodIn_r _ [79, 23, 104, 105, 106, 107, 108] (by decide +kernel) (by decide +kernel)
set_option maxRecDepth 20000 in
theorem gX5_squelchedAt_X0_crossing : GoodIn wsX5_squelchedAt (wsV RX5 94 RX0 yX0_crossing wsX0_crossing) := goodIn_app (goodIn_of _ (by decide +kernel)) ggX5_squelchedAt_X0_crossing
theorem dX5_squelchedAt_0 : decode cX5_squelchedAt 0 = .ok (.aload_n 0, 1) := by decide +kernel
theorem dX5_squelchedAt_1 : decode cX5_squelchedAt 1 = .ok (.getfield 10, 3) := by decide +kernel
theorem dX5_squelchedAt_4 : decode cX5_squelchedAt 4 = .ok (.getfield 29, 3) := by decide +kernel
theorem dX5_squelchedAt_7 : decode cX5_squelchedAt 7 = .ok (.iload_n 1, 1) := by decide +kernel
theorem dX5_squelchedAt_8 : decode cX5_squelchedAt 8 = .ok (.invokevirtual 124, 3) := by decide +kernel
theorem dX5_squelchedAt_11 : decode cX5_squelchedAt 11 = .ok (.ifCond .ne 5, 3) := by decide +kernel
theorem dX5_squelchedAt_14 : decode cX5_squelchedAt 14 = .ok (.iconst (-1), 1) := by decide +kernel
theorem dX5_squelchedAt_15 : decode cX5_squelchedAt 15 = .ok (.ireturn, 1) := by decide +kernel
theorem dX5_squelchedAt_16 : decode cX5_squelchedAt 16 = .ok (.aload_n 0, 1) := by decide +kernel
theorem dX5_squelchedAt_17 : decode cX5_squelchedAt 17 = .ok (.getfield 10, 3) := by decide +kernel
theorem dX5_squelchedAt_20 : decode cX5_squelchedAt 20 = .ok (.getfield 29, 3) := by decide +kernel
theorem dX5_squelchedAt_23 : decode cX5_squelchedAt 23 = .ok (.iload_n 1, 1) := by decide +kernel
theorem dX5_squelchedAt_24 : decode cX5_squelchedAt 24 = .ok (.invokevirtual 172, 3) := by decide +kernel
theorem dX5_squelchedAt_27 : decode cX5_squelchedAt 27 = .ok (.aload_n 0, 1) := by decide +kernel
theorem dX5_squelchedAt_28 : decode cX5_squelchedAt 28 = .ok (.getfield 10, 3) := by decide +kernel
theorem dX5_squelchedAt_31 : decode cX5_squelchedAt 31 = .ok (.getfield 106, 3) := by decide +kernel
theorem dX5_squelchedAt_34 : decode cX5_squelchedAt 34 = .ok (.getfield 175, 3) := by decide +kernel
theorem dX5_squelchedAt_37 : decode cX5_squelchedAt 37 = .ok (.iand, 1) := by decide +kernel
theorem dX5_squelchedAt_38 : decode cX5_squelchedAt 38 = .ok (.istore_n 2, 1) := by decide +kernel
theorem dX5_squelchedAt_39 : decode cX5_squelchedAt 39 = .ok (.aload_n 0, 1) := by decide +kernel
theorem dX5_squelchedAt_40 : decode cX5_squelchedAt 40 = .ok (.getfield 10, 3) := by decide +kernel
theorem dX5_squelchedAt_43 : decode cX5_squelchedAt 43 = .ok (.iconst 3, 1) := by decide +kernel
theorem dX5_squelchedAt_44 : decode cX5_squelchedAt 44 = .ok (.invokevirtual 160, 3) := by decide +kernel
theorem dX5_squelchedAt_47 : decode cX5_squelchedAt 47 = .ok (.aload_n 0, 1) := by decide +kernel
theorem dX5_squelchedAt_48 : decode cX5_squelchedAt 48 = .ok (.getfield 10, 3) := by decide +kernel
theorem dX5_squelchedAt_51 : decode cX5_squelchedAt 51 = .ok (.getfield 50, 3) := by decide +kernel
theorem dX5_squelchedAt_54 : decode cX5_squelchedAt 54 = .ok (.iload_n 2, 1) := by decide +kernel
theorem dX5_squelchedAt_55 : decode cX5_squelchedAt 55 = .ok (.invokevirtual 94, 3) := by decide +kernel
theorem dX5_squelchedAt_58 : decode cX5_squelchedAt 58 = .ok (.iand, 1) := by decide +kernel
theorem dX5_squelchedAt_59 : decode cX5_squelchedAt 59 = .ok (.ireturn, 1) := by decide +kernel
set_option maxRecDepth 20000 in
theorem ggX5_deliveredIfCut_X2_hasSpan : GoodIn wsX5_deliveredIfCut wsX2_hasSpan := goodIn_r _ [6, 7, 179, 180] (by decide +kernel) (by decide +kernel)
set_option maxRecDepth 20000 in
theorem gX5_deliveredIfCut_X2_hasSpan : GoodIn wsX5_deliveredIfCut (wsV RX5 91 RX2 yX2_hasSpan wsX2_hasSpan) := goodIn_app (goodIn_of _ (by decide +kernel)) ggX5_deliveredIfCut_X2_hasSpan
set_option maxRecDepth 20000 in
theorem ggX5_deliveredIfCut_X5_deliveredAfterCut : GoodIn wsX5_deliveredIfCut wsX5_deliveredAfterCut := goodIn_r _ [12, 13, 1, 14, 15, 16, 17, 18, 19, 20, 21, 22, 23, 24, 25, 26, 27, 28, 29, 30, 31, 32, 11, 33, 34, 35, 36, 37, 38, 39, 40, 41, 42, 43, 44, 45, 46, 47, 48, 49, 50, 51, 52, 53, 54, 55, 56, 57, 58, 59, 60, 61, 62, 63, 64, 65, 5, 66, 7, 67, 68, 69, 70, 71, 72, 73, 74, 75, 76, 77, 78, 79, 80, 81, 82, 83, 84, 85, 86, 87, 88, 89, 90, 91, 92, 93, 94, 95, 96, 97, 98, 99, 100, 101, 102, 103, 3, 4, 6, 104, 105, 106, 107, 108, 109, 110, 111, 112, 113, 114, 115, 116, 117, 118, 119, 120, 121, 122, 123, 124, 125, 126, 127, 128, 129, 130, 131, 132, 133, 134, 135, 136, 137, 138, 139, 140, 141, 142, 143, 144, 145, 146, 147, 148, 149, 150, 151, 152, 153, 154, 155, 156, 157, 158, 159, 160, 161, 162, 163, 164, 165, 166, 167, 168, 169, 170, 171, 172, 173, 174, 175, 176, 177, 178, 181, 182, 183, 184, 185, 186, 187, 188, 189, 190, 191, 192, 193, 194, 195, 196, 197, 198, 199, 179, 180] (by decide +kernel) (by decide +kernel)
set_option maxRecDepth 20000 in
theorem gX5_deliveredIfCut_X5_deliveredAfterCut : GoodIn wsX5_deliveredIfCut (wsV RX5 178 RX5 yX5_deliveredAfterCut wsX5_deliveredAfterCut) := goodIn_app (goodIn_of _ (by decide +kernel)) ggX5_deliveredIfCut_X5_deliveredAfterCut
theorem dX5_deliveredIfCut_0 : decode cX5_deliveredIfCut 0 = .ok (.aload_n 0, 1) := by decide +kernel
theorem dX5_deliveredIfCut_1 : decode cX5_deliveredIfCut 1 = .ok (.getfield 10, 3) := by decide +kernel
theorem dX5_deliveredIfCut_4 : decode cX5_deliveredIfCut 4 = .ok (.getfield 29, 3) := by decide +kernel
theorem dX5_deliveredIfCut_7 : decode cX5_deliveredIfCut 7 = .ok (.iload_n 1, 1) := by decide +kernel
theorem dX5_deliveredIfCut_8 : decode cX5_deliveredIfCut 8 = .ok (.invokevirtual 91, 3) := by decide +kernel
theorem dX5_deliveredIfCut_11 : decode cX5_deliveredIfCut 11 = .ok (.ifCond .ne 6, 3) := by decide +kernel
theorem dX5_deliveredIfCut_14 : decode cX5_deliveredIfCut 14 = .ok (.bipush (-2), 2) := by decide +kernel
theorem dX5_deliveredIfCut_16 : decode cX5_deliveredIfCut 16 = .ok (.ireturn, 1) := by decide +kernel
theorem dX5_deliveredIfCut_17 : decode cX5_deliveredIfCut 17 = .ok (.aload_n 0, 1) := by decide +kernel
theorem dX5_deliveredIfCut_18 : decode cX5_deliveredIfCut 18 = .ok (.iload_n 1, 1) := by decide +kernel
theorem dX5_deliveredIfCut_19 : decode cX5_deliveredIfCut 19 = .ok (.invokevirtual 178, 3) := by decide +kernel
theorem dX5_deliveredIfCut_22 : decode cX5_deliveredIfCut 22 = .ok (.ireturn, 1) := by decide +kernel
set_option maxRecDepth 20000 in
theorem ggX5_deliveredIfNodeFails_X2_hasNode : GoodIn wsX5_deliveredIfNodeFails wsX2_hasNode := goodIn_r _ [7, 8, 189, 190] (by decide +kernel) (by decide +kernel)
set_option maxRecDepth 20000 in
theorem gX5_deliveredIfNodeFails_X2_hasNode : GoodIn wsX5_deliveredIfNodeFails (wsV RX5 124 RX2 yX2_hasNode wsX2_hasNode) := goodIn_app (goodIn_of _ (by decide +kernel)) ggX5_deliveredIfNodeFails_X2_hasNode
set_option maxRecDepth 20000 in
theorem ggX5_deliveredIfNodeFails_X3_copyFrom : GoodIn wsX5_deliveredIfNodeFails wsX3_copyFrom := goodIn_r _ [13, 14, 15, 16, 17, 18, 19, 20, 21, 22, 23, 24, 25, 26, 27, 28, 29, 30, 31, 32, 33, 34, 35, 36, 37, 38, 39, 40, 41, 42, 43, 44, 45, 46, 47, 48, 171, 172, 173, 174, 191, 192, 193, 194, 195, 175, 176, 177, 178, 179, 180, 181, 182, 183, 184, 185, 186, 187, 188, 189, 190] (by decide +kernel) (by decide +kernel)
set_option maxRecDepth 20000 in
theorem gX5_deliveredIfNodeFails_X3_copyFrom : GoodIn wsX5_deliveredIfNodeFails (wsV RX5 181 RX3 yX3_copyFrom wsX3_copyFrom) := goodIn_app (goodIn_of _ (by decide +kernel)) ggX5_deliveredIfNodeFails_X3_copyFrom
set_option maxRecDepth 20000 in
theorem ggX5_deliveredIfNodeFails_X1_run : GoodIn wsX5_deliveredIfNodeFails wsX1_run := goodIn_r _ [52, 35, 53, 54, 55, 33, 56, 38, 36, 40, 37, 41, 57, 28, 58, 59, 60, 61, 6, 62, 8, 63, 64, 65, 66, 67, 68, 69, 70, 47, 45, 39, 71, 72, 73, 74, 75, 76, 77, 78, 44, 79, 80, 81, 82, 46, 83, 84, 85, 86, 43, 42, 87, 88, 89, 90, 91, 92, 93, 94, 95, 96, 97, 98, 99, 100, 101, 102, 103, 104, 105, 106, 107, 108, 109, 110, 111, 112, 113, 114, 48, 175, 176, 177, 178, 179, 180, 181, 182, 183, 184, 185, 186, 187, 188, 189, 190] (by decide +kernel) (by decide +kernel)
set_option maxRecDepth 20000 in
theorem gX5_deliveredIfNodeFails_X1_run : GoodIn wsX5_deliveredIfNodeFails (wsV RX5 118 RX1 yX1_run wsX1_run) := goodIn_app (goodIn_of _ (by decide +kernel)) ggX5_deliveredIfNodeFails_X1_run
set_option maxRecDepth 20000 in
theorem ggX5_deliveredIfNodeFails_X3_countDelivered : GoodIn wsX5_deliveredIfNodeFails wsX3_countDelivered := goodIn_r _ [118, 14, 119, 120, 121, 20, 122, 24, 123, 124, 125, 12, 126, 127, 128, 129, 130, 26, 57, 28, 58, 131, 132, 133, 134, 15, 135, 136, 137, 138, 139, 140, 141, 142, 143, 144, 145, 146, 147, 22, 148, 149, 150, 33, 151, 35, 48, 152, 4, 5, 6, 7, 8, 153, 154, 155, 156, 23, 157, 158, 159, 160, 161, 162, 163, 164, 165, 166, 171, 172, 173, 174, 191, 192, 193, 194, 195, 175, 176, 177, 178, 179, 180, 181, 182, 183, 184, 185, 186, 187, 188, 189, 190] (by decide +kernel) (by decide +kernel)
set_option maxRecDepth 20000 in
theorem gX5_deliveredIfNodeFails_X3_countDelivered : GoodIn wsX5_deliveredIfNodeFails (wsV RX5 163 RX3 yX3_countDelivered wsX3_countDelivered) := goodIn_app (goodIn_of _ (by decide +kernel)) ggX5_deliveredIfNodeFails_X3_countDelivered
theorem dX5_deliveredIfNodeFails_0 : decode cX5_deliveredIfNodeFails 0 = .ok (.aload_n 0, 1) := by decide +kernel
theorem dX5_deliveredIfNodeFails_1 : decode cX5_deliveredIfNodeFails 1 = .ok (.getfield 10, 3) := by decide +kernel
theorem dX5_deliveredIfNodeFails_4 : decode cX5_deliveredIfNodeFails 4 = .ok (.getfield 29, 3) := by decide +kernel
theorem dX5_deliveredIfNodeFails_7 : decode cX5_deliveredIfNodeFails 7 = .ok (.iload_n 1, 1) := by decide +kernel
theorem dX5_deliveredIfNodeFails_8 : decode cX5_deliveredIfNodeFails 8 = .ok (.invokevirtual 124, 3) := by decide +kernel
theorem dX5_deliveredIfNodeFails_11 : decode cX5_deliveredIfNodeFails 11 = .ok (.ifCond .ne 5, 3) := by decide +kernel
theorem dX5_deliveredIfNodeFails_14 : decode cX5_deliveredIfNodeFails 14 = .ok (.iconst (-1), 1) := by decide +kernel
theorem dX5_deliveredIfNodeFails_15 : decode cX5_deliveredIfNodeFails 15 = .ok (.ireturn, 1) := by decide +kernel
theorem dX5_deliveredIfNodeFails_16 : decode cX5_deliveredIfNodeFails 16 = .ok (.aload_n 0, 1) := by decide +kernel
theorem dX5_deliveredIfNodeFails_17 : decode cX5_deliveredIfNodeFails 17 = .ok (.getfield 16, 3) := by decide +kernel
theorem dX5_deliveredIfNodeFails_20 : decode cX5_deliveredIfNodeFails 20 = .ok (.aload_n 0, 1) := by decide +kernel
theorem dX5_deliveredIfNodeFails_21 : decode cX5_deliveredIfNodeFails 21 = .ok (.getfield 10, 3) := by decide +kernel
theorem dX5_deliveredIfNodeFails_24 : decode cX5_deliveredIfNodeFails 24 = .ok (.invokevirtual 181, 3) := by decide +kernel
theorem dX5_deliveredIfNodeFails_27 : decode cX5_deliveredIfNodeFails 27 = .ok (.aload_n 0, 1) := by decide +kernel
theorem dX5_deliveredIfNodeFails_28 : decode cX5_deliveredIfNodeFails 28 = .ok (.getfield 16, 3) := by decide +kernel
theorem dX5_deliveredIfNodeFails_31 : decode cX5_deliveredIfNodeFails 31 = .ok (.getfield 106, 3) := by decide +kernel
theorem dX5_deliveredIfNodeFails_34 : decode cX5_deliveredIfNodeFails 34 = .ok (.dup, 1) := by decide +kernel
theorem dX5_deliveredIfNodeFails_35 : decode cX5_deliveredIfNodeFails 35 = .ok (.getfield 127, 3) := by decide +kernel
theorem dX5_deliveredIfNodeFails_38 : decode cX5_deliveredIfNodeFails 38 = .ok (.iconst 1, 1) := by decide +kernel
theorem dX5_deliveredIfNodeFails_39 : decode cX5_deliveredIfNodeFails 39 = .ok (.iload_n 1, 1) := by decide +kernel
theorem dX5_deliveredIfNodeFails_40 : decode cX5_deliveredIfNodeFails 40 = .ok (.ishl, 1) := by decide +kernel
theorem dX5_deliveredIfNodeFails_41 : decode cX5_deliveredIfNodeFails 41 = .ok (.ior, 1) := by decide +kernel
theorem dX5_deliveredIfNodeFails_42 : decode cX5_deliveredIfNodeFails 42 = .ok (.putfield 127, 3) := by decide +kernel
theorem dX5_deliveredIfNodeFails_45 : decode cX5_deliveredIfNodeFails 45 = .ok (.aload_n 0, 1) := by decide +kernel
theorem dX5_deliveredIfNodeFails_46 : decode cX5_deliveredIfNodeFails 46 = .ok (.getfield 16, 3) := by decide +kernel
theorem dX5_deliveredIfNodeFails_49 : decode cX5_deliveredIfNodeFails 49 = .ok (.getfield 106, 3) := by decide +kernel
theorem dX5_deliveredIfNodeFails_52 : decode cX5_deliveredIfNodeFails 52 = .ok (.invokevirtual 118, 3) := by decide +kernel
theorem dX5_deliveredIfNodeFails_55 : decode cX5_deliveredIfNodeFails 55 = .ok (.aload_n 0, 1) := by decide +kernel
theorem dX5_deliveredIfNodeFails_56 : decode cX5_deliveredIfNodeFails 56 = .ok (.getfield 16, 3) := by decide +kernel
theorem dX5_deliveredIfNodeFails_59 : decode cX5_deliveredIfNodeFails 59 = .ok (.invokevirtual 163, 3) := by decide +kernel
theorem dX5_deliveredIfNodeFails_62 : decode cX5_deliveredIfNodeFails 62 = .ok (.ireturn, 1) := by decide +kernel
set_option maxRecDepth 20000 in
theorem ggX5_worstCut_X5_deliveredAfterCut : GoodIn wsX5_worstCut wsX5_deliveredAfterCut := goodIn_r _ [6, 7, 1, 8, 9, 10, 11, 12, 13, 14, 15, 16, 17, 18, 19, 20, 21, 22, 23, 24, 25, 26, 5, 27, 28, 29, 30, 31, 32, 33, 34, 35, 36, 37, 38, 39, 40, 41, 42, 43, 44, 45, 46, 47, 48, 49, 50, 51, 52, 53, 54, 55, 56, 57, 58, 59, 60, 61, 62, 63, 64, 65, 66, 67, 68, 69, 70, 71, 72, 73, 74, 75, 76, 77, 78, 79, 80, 81, 82, 83, 84, 85, 86, 87, 88, 89, 90, 91, 92, 93, 94, 95, 96, 97, 98, 99, 100, 101, 102, 103, 104, 105, 106, 107, 108, 109, 110, 111, 112, 113, 114, 115, 116, 117, 118, 119, 120, 121, 122, 123, 124, 125, 126, 127, 128, 129, 130, 131, 132, 133, 134, 135, 136, 137, 138, 139, 140, 141, 142, 143, 144, 145, 146, 147, 148, 149, 150, 151, 152, 153, 154, 155, 156, 157, 158, 159, 160, 161, 162, 163, 164, 165, 166, 167, 168, 169, 170, 171, 172, 173, 174, 175, 176, 177, 180, 181, 182, 183, 184, 185, 186, 187, 188, 189, 190, 191, 192, 193, 194, 195, 196, 197, 198, 178, 179] (by decide +kernel) (by decide +kernel)
set_option maxRecDepth 20000 in
theorem gX5_worstCut_X5_deliveredAfterCut : GoodIn wsX5_worstCut (wsV RX5 178 RX5 yX5_deliveredAfterCut wsX5_deliveredAfterCut) := goodIn_app (goodIn_of _ (by decide +kernel)) ggX5_worstCut_X5_deliveredAfterCut
theorem dX5_worstCut_0 : decode cX5_worstCut 0 = .ok (.iconst 0, 1) := by decide +kernel
theorem dX5_worstCut_1 : decode cX5_worstCut 1 = .ok (.istore_n 1, 1) := by decide +kernel
theorem dX5_worstCut_2 : decode cX5_worstCut 2 = .ok (.aload_n 0, 1) := by decide +kernel
theorem dX5_worstCut_3 : decode cX5_worstCut 3 = .ok (.iconst 0, 1) := by decide +kernel
theorem dX5_worstCut_4 : decode cX5_worstCut 4 = .ok (.invokevirtual 178, 3) := by decide +kernel
theorem dX5_worstCut_7 : decode cX5_worstCut 7 = .ok (.istore_n 2, 1) := by decide +kernel
theorem dX5_worstCut_8 : decode cX5_worstCut 8 = .ok (.iconst 1, 1) := by decide +kernel
theorem dX5_worstCut_9 : decode cX5_worstCut 9 = .ok (.istore_n 3, 1) := by decide +kernel
theorem dX5_worstCut_10 : decode cX5_worstCut 10 = .ok (.iload_n 3, 1) := by decide +kernel
theorem dX5_worstCut_11 : decode cX5_worstCut 11 = .ok (.aload_n 0, 1) := by decide +kernel
theorem dX5_worstCut_12 : decode cX5_worstCut 12 = .ok (.getfield 10, 3) := by decide +kernel
theorem dX5_worstCut_15 : decode cX5_worstCut 15 = .ok (.getfield 29, 3) := by decide +kernel
theorem dX5_worstCut_18 : decode cX5_worstCut 18 = .ok (.getfield 33, 3) := by decide +kernel
theorem dX5_worstCut_21 : decode cX5_worstCut 21 = .ok (.if_icmp .ge 27, 3) := by decide +kernel
theorem dX5_worstCut_24 : decode cX5_worstCut 24 = .ok (.aload_n 0, 1) := by decide +kernel
theorem dX5_worstCut_25 : decode cX5_worstCut 25 = .ok (.iload_n 3, 1) := by decide +kernel
theorem dX5_worstCut_26 : decode cX5_worstCut 26 = .ok (.invokevirtual 178, 3) := by decide +kernel
theorem dX5_worstCut_29 : decode cX5_worstCut 29 = .ok (.istore 4, 2) := by decide +kernel
theorem dX5_worstCut_31 : decode cX5_worstCut 31 = .ok (.iload 4, 2) := by decide +kernel
theorem dX5_worstCut_33 : decode cX5_worstCut 33 = .ok (.iload_n 2, 1) := by decide +kernel
theorem dX5_worstCut_34 : decode cX5_worstCut 34 = .ok (.if_icmp .ge 8, 3) := by decide +kernel
theorem dX5_worstCut_37 : decode cX5_worstCut 37 = .ok (.iload_n 3, 1) := by decide +kernel
theorem dX5_worstCut_38 : decode cX5_worstCut 38 = .ok (.istore_n 1, 1) := by decide +kernel
theorem dX5_worstCut_39 : decode cX5_worstCut 39 = .ok (.iload 4, 2) := by decide +kernel
theorem dX5_worstCut_41 : decode cX5_worstCut 41 = .ok (.istore_n 2, 1) := by decide +kernel
theorem dX5_worstCut_42 : decode cX5_worstCut 42 = .ok (.iinc 3 1, 3) := by decide +kernel
theorem dX5_worstCut_45 : decode cX5_worstCut 45 = .ok (.goto (-35), 3) := by decide +kernel
theorem dX5_worstCut_48 : decode cX5_worstCut 48 = .ok (.iload_n 1, 1) := by decide +kernel
theorem dX5_worstCut_49 : decode cX5_worstCut 49 = .ok (.ireturn, 1) := by decide +kernel
set_option maxRecDepth 20000 in
theorem ggX5_save_X3_copyFrom : GoodIn wsX5_save wsX3_copyFrom := goodIn_r _ [8, 9, 10, 11, 12, 13, 14, 15, 16, 17, 18, 19, 20, 21, 22, 23, 24, 25, 26, 27, 28, 29, 30, 31, 32, 33, 34, 35, 36, 37, 38, 39, 40, 41, 42, 43, 50, 51, 52, 53, 54, 55, 56, 57, 58, 59, 60, 61, 62, 63, 64, 65, 66, 67, 68, 69, 70, 71, 72, 73, 74] (by decide +kernel) (by decide +kernel)
set_option maxRecDepth 20000 in
theorem gX5_save_X3_copyFrom : GoodIn wsX5_save (wsV RX5 181 RX3 yX3_copyFrom wsX3_copyFrom) := goodIn_app (goodIn_of _ (by decide +kernel)) ggX5_save_X3_copyFrom
theorem dX5_save_0 : decode cX5_save 0 = .ok (.iload_n 1, 1) := by decide +kernel
theorem dX5_save_1 : decode cX5_save 1 = .ok (.ifCond .lt 8, 3) := by decide +kernel
theorem dX5_save_4 : decode cX5_save 4 = .ok (.iload_n 1, 1) := by decide +kernel
theorem dX5_save_5 : decode cX5_save 5 = .ok (.iconst 1, 1) := by decide +kernel
theorem dX5_save_6 : decode cX5_save 6 = .ok (.if_icmp .le 6, 3) := by decide +kernel
theorem dX5_save_9 : decode cX5_save 9 = .ok (.bipush (-4), 2) := by decide +kernel
theorem dX5_save_11 : decode cX5_save 11 = .ok (.ireturn, 1) := by decide +kernel
theorem dX5_save_12 : decode cX5_save 12 = .ok (.iload_n 1, 1) := by decide +kernel
theorem dX5_save_13 : decode cX5_save 13 = .ok (.ifCond .ne 10, 3) := by decide +kernel
theorem dX5_save_16 : decode cX5_save 16 = .ok (.aload_n 0, 1) := by decide +kernel
theorem dX5_save_17 : decode cX5_save 17 = .ok (.getfield 22, 3) := by decide +kernel
theorem dX5_save_20 : decode cX5_save 20 = .ok (.goto 7, 3) := by decide +kernel
theorem dX5_save_23 : decode cX5_save 23 = .ok (.aload_n 0, 1) := by decide +kernel
theorem dX5_save_24 : decode cX5_save 24 = .ok (.getfield 26, 3) := by decide +kernel
theorem dX5_save_27 : decode cX5_save 27 = .ok (.astore_n 2, 1) := by decide +kernel
theorem dX5_save_28 : decode cX5_save 28 = .ok (.aload_n 2, 1) := by decide +kernel
theorem dX5_save_29 : decode cX5_save 29 = .ok (.getfield 185, 3) := by decide +kernel
theorem dX5_save_32 : decode cX5_save 32 = .ok (.aload_n 0, 1) := by decide +kernel
theorem dX5_save_33 : decode cX5_save 33 = .ok (.getfield 10, 3) := by decide +kernel
theorem dX5_save_36 : decode cX5_save 36 = .ok (.invokevirtual 181, 3) := by decide +kernel
theorem dX5_save_39 : decode cX5_save 39 = .ok (.aload_n 2, 1) := by decide +kernel
theorem dX5_save_40 : decode cX5_save 40 = .ok (.iconst 1, 1) := by decide +kernel
theorem dX5_save_41 : decode cX5_save 41 = .ok (.putfield 188, 3) := by decide +kernel
theorem dX5_save_44 : decode cX5_save 44 = .ok (.aload_n 0, 1) := by decide +kernel
theorem dX5_save_45 : decode cX5_save 45 = .ok (.getfield 10, 3) := by decide +kernel
theorem dX5_save_48 : decode cX5_save 48 = .ok (.getfield 142, 3) := by decide +kernel
theorem dX5_save_51 : decode cX5_save 51 = .ok (.ireturn, 1) := by decide +kernel
set_option maxRecDepth 20000 in
theorem ggX5_restore_X3_copyFrom : GoodIn wsX5_restore wsX3_copyFrom := goodIn_r _ [8, 9, 10, 11, 12, 13, 14, 15, 16, 17, 18, 19, 20, 21, 22, 23, 24, 25, 26, 27, 28, 29, 30, 31, 32, 33, 34, 35, 36, 37, 38, 39, 40, 41, 42, 43, 50, 51, 52, 53, 54, 55, 56, 57, 58, 59, 60, 61, 62, 63, 64, 65, 66, 67, 68, 69, 70, 71, 72, 73, 74] (by decide +kernel) (by decide +kernel)
