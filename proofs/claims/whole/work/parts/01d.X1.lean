set_option maxRecDepth 20000 in
theorem ggX1_init_X2_init : GoodIn wsX1_init wsX2_init := goodIn_r _ [16, 17, 2, 3, 18, 19, 20, 21] (by decide +kernel) (by decide +kernel)
set_option maxRecDepth 20000 in
theorem gX1_init_X2_init_n11 : GoodIn wsX1_init (wsX2_init) := ggX1_init_X2_init
theorem dX1_init_0 : decode cX1_init 0 = .ok (.aload_n 0, 1) := by decide +kernel
theorem dX1_init_1 : decode cX1_init 1 = .ok (.invokespecial 3, 3) := by decide +kernel
theorem dX1_init_4 : decode cX1_init 4 = .ok (.aload_n 0, 1) := by decide +kernel
theorem dX1_init_5 : decode cX1_init 5 = .ok (.new 9, 3) := by decide +kernel
theorem dX1_init_8 : decode cX1_init 8 = .ok (.dup, 1) := by decide +kernel
theorem dX1_init_9 : decode cX1_init 9 = .ok (.invokespecial 11, 3) := by decide +kernel
theorem dX1_init_12 : decode cX1_init 12 = .ok (.putfield 12, 3) := by decide +kernel
theorem dX1_init_15 : decode cX1_init 15 = .ok (.aload_n 0, 1) := by decide +kernel
theorem dX1_init_16 : decode cX1_init 16 = .ok (.bipush 8, 2) := by decide +kernel
theorem dX1_init_18 : decode cX1_init 18 = .ok (.newarray .int, 2) := by decide +kernel
theorem dX1_init_20 : decode cX1_init 20 = .ok (.putfield 18, 3) := by decide +kernel
theorem dX1_init_23 : decode cX1_init 23 = .ok (.aload_n 0, 1) := by decide +kernel
theorem dX1_init_24 : decode cX1_init 24 = .ok (.bipush 8, 2) := by decide +kernel
theorem dX1_init_26 : decode cX1_init 26 = .ok (.newarray .int, 2) := by decide +kernel
theorem dX1_init_28 : decode cX1_init 28 = .ok (.putfield 22, 3) := by decide +kernel
theorem dX1_init_31 : decode cX1_init 31 = .ok (.aload_n 0, 1) := by decide +kernel
theorem dX1_init_32 : decode cX1_init 32 = .ok (.bipush 8, 2) := by decide +kernel
theorem dX1_init_34 : decode cX1_init 34 = .ok (.newarray .int, 2) := by decide +kernel
theorem dX1_init_36 : decode cX1_init 36 = .ok (.putfield 25, 3) := by decide +kernel
theorem dX1_init_39 : decode cX1_init 39 = .ok (.aload_n 0, 1) := by decide +kernel
theorem dX1_init_40 : decode cX1_init 40 = .ok (.iconst 5, 1) := by decide +kernel
theorem dX1_init_41 : decode cX1_init 41 = .ok (.putfield 28, 3) := by decide +kernel
theorem dX1_init_44 : decode cX1_init 44 = .ok (.aload_n 0, 1) := by decide +kernel
theorem dX1_init_45 : decode cX1_init 45 = .ok (.bipush 8, 2) := by decide +kernel
theorem dX1_init_47 : decode cX1_init 47 = .ok (.newarray .int, 2) := by decide +kernel
theorem dX1_init_49 : decode cX1_init 49 = .ok (.putfield 32, 3) := by decide +kernel
theorem dX1_init_52 : decode cX1_init 52 = .ok (.aload_n 0, 1) := by decide +kernel
theorem dX1_init_53 : decode cX1_init 53 = .ok (.bipush 8, 2) := by decide +kernel
theorem dX1_init_55 : decode cX1_init 55 = .ok (.newarray .int, 2) := by decide +kernel
theorem dX1_init_57 : decode cX1_init 57 = .ok (.putfield 35, 3) := by decide +kernel
theorem dX1_init_60 : decode cX1_init 60 = .ok (.return_, 1) := by decide +kernel
set_option maxRecDepth 20000 in
theorem ggX1_replaceCommand_X2_hasSpan : GoodIn wsX1_replaceCommand wsX2_hasSpan := goodIn_r _ [7, 8, 23, 24] (by decide +kernel) (by decide +kernel)
set_option maxRecDepth 20000 in
theorem gX1_replaceCommand_X2_hasSpan : GoodIn wsX1_replaceCommand (wsV RX1 38 RX2 yX2_hasSpan wsX2_hasSpan) := goodIn_app (goodIn_of _ (by decide +kernel)) ggX1_replaceCommand_X2_hasSpan
theorem dX1_replaceCommand_0 : decode cX1_replaceCommand 0 = .ok (.aload_n 0, 1) := by decide +kernel
theorem dX1_replaceCommand_1 : decode cX1_replaceCommand 1 = .ok (.getfield 12, 3) := by decide +kernel
theorem dX1_replaceCommand_4 : decode cX1_replaceCommand 4 = .ok (.iload_n 1, 1) := by decide +kernel
theorem dX1_replaceCommand_5 : decode cX1_replaceCommand 5 = .ok (.invokevirtual 38, 3) := by decide +kernel
theorem dX1_replaceCommand_8 : decode cX1_replaceCommand 8 = .ok (.ifCond .ne 6, 3) := by decide +kernel
theorem dX1_replaceCommand_11 : decode cX1_replaceCommand 11 = .ok (.bipush (-2), 2) := by decide +kernel
theorem dX1_replaceCommand_13 : decode cX1_replaceCommand 13 = .ok (.ireturn, 1) := by decide +kernel
theorem dX1_replaceCommand_14 : decode cX1_replaceCommand 14 = .ok (.aload_n 0, 1) := by decide +kernel
theorem dX1_replaceCommand_15 : decode cX1_replaceCommand 15 = .ok (.getfield 18, 3) := by decide +kernel
theorem dX1_replaceCommand_18 : decode cX1_replaceCommand 18 = .ok (.iload_n 1, 1) := by decide +kernel
theorem dX1_replaceCommand_19 : decode cX1_replaceCommand 19 = .ok (.iaload, 1) := by decide +kernel
theorem dX1_replaceCommand_20 : decode cX1_replaceCommand 20 = .ok (.istore_n 3, 1) := by decide +kernel
theorem dX1_replaceCommand_21 : decode cX1_replaceCommand 21 = .ok (.aload_n 0, 1) := by decide +kernel
theorem dX1_replaceCommand_22 : decode cX1_replaceCommand 22 = .ok (.getfield 18, 3) := by decide +kernel
theorem dX1_replaceCommand_25 : decode cX1_replaceCommand 25 = .ok (.iload_n 1, 1) := by decide +kernel
theorem dX1_replaceCommand_26 : decode cX1_replaceCommand 26 = .ok (.iload_n 2, 1) := by decide +kernel
theorem dX1_replaceCommand_27 : decode cX1_replaceCommand 27 = .ok (.iastore, 1) := by decide +kernel
theorem dX1_replaceCommand_28 : decode cX1_replaceCommand 28 = .ok (.iload_n 3, 1) := by decide +kernel
theorem dX1_replaceCommand_29 : decode cX1_replaceCommand 29 = .ok (.ireturn, 1) := by decide +kernel
set_option maxRecDepth 20000 in
theorem ggX1_timerAt_X2_hasSpan : GoodIn wsX1_timerAt wsX2_hasSpan := goodIn_r _ [7, 8, 23, 24] (by decide +kernel) (by decide +kernel)
set_option maxRecDepth 20000 in
theorem gX1_timerAt_X2_hasSpan : GoodIn wsX1_timerAt (wsV RX1 38 RX2 yX2_hasSpan wsX2_hasSpan) := goodIn_app (goodIn_of _ (by decide +kernel)) ggX1_timerAt_X2_hasSpan
theorem dX1_timerAt_0 : decode cX1_timerAt 0 = .ok (.aload_n 0, 1) := by decide +kernel
theorem dX1_timerAt_1 : decode cX1_timerAt 1 = .ok (.getfield 12, 3) := by decide +kernel
theorem dX1_timerAt_4 : decode cX1_timerAt 4 = .ok (.iload_n 1, 1) := by decide +kernel
theorem dX1_timerAt_5 : decode cX1_timerAt 5 = .ok (.invokevirtual 38, 3) := by decide +kernel
theorem dX1_timerAt_8 : decode cX1_timerAt 8 = .ok (.ifCond .eq 12, 3) := by decide +kernel
theorem dX1_timerAt_11 : decode cX1_timerAt 11 = .ok (.aload_n 0, 1) := by decide +kernel
theorem dX1_timerAt_12 : decode cX1_timerAt 12 = .ok (.getfield 22, 3) := by decide +kernel
theorem dX1_timerAt_15 : decode cX1_timerAt 15 = .ok (.iload_n 1, 1) := by decide +kernel
theorem dX1_timerAt_16 : decode cX1_timerAt 16 = .ok (.iaload, 1) := by decide +kernel
theorem dX1_timerAt_17 : decode cX1_timerAt 17 = .ok (.goto 4, 3) := by decide +kernel
theorem dX1_timerAt_20 : decode cX1_timerAt 20 = .ok (.iconst 0, 1) := by decide +kernel
theorem dX1_timerAt_21 : decode cX1_timerAt 21 = .ok (.ireturn, 1) := by decide +kernel
set_option maxRecDepth 20000 in
theorem ggX1_segmentOf_X2_hasNode : GoodIn wsX1_segmentOf wsX2_hasNode := goodIn_r _ [7, 8, 23, 24] (by decide +kernel) (by decide +kernel)
set_option maxRecDepth 20000 in
theorem gX1_segmentOf_X2_hasNode : GoodIn wsX1_segmentOf (wsV RX1 42 RX2 yX2_hasNode wsX2_hasNode) := goodIn_app (goodIn_of _ (by decide +kernel)) ggX1_segmentOf_X2_hasNode
theorem dX1_segmentOf_0 : decode cX1_segmentOf 0 = .ok (.aload_n 0, 1) := by decide +kernel
theorem dX1_segmentOf_1 : decode cX1_segmentOf 1 = .ok (.getfield 12, 3) := by decide +kernel
theorem dX1_segmentOf_4 : decode cX1_segmentOf 4 = .ok (.iload_n 1, 1) := by decide +kernel
theorem dX1_segmentOf_5 : decode cX1_segmentOf 5 = .ok (.invokevirtual 42, 3) := by decide +kernel
theorem dX1_segmentOf_8 : decode cX1_segmentOf 8 = .ok (.ifCond .eq 12, 3) := by decide +kernel
theorem dX1_segmentOf_11 : decode cX1_segmentOf 11 = .ok (.aload_n 0, 1) := by decide +kernel
theorem dX1_segmentOf_12 : decode cX1_segmentOf 12 = .ok (.getfield 35, 3) := by decide +kernel
theorem dX1_segmentOf_15 : decode cX1_segmentOf 15 = .ok (.iload_n 1, 1) := by decide +kernel
theorem dX1_segmentOf_16 : decode cX1_segmentOf 16 = .ok (.iaload, 1) := by decide +kernel
theorem dX1_segmentOf_17 : decode cX1_segmentOf 17 = .ok (.goto 4, 3) := by decide +kernel
theorem dX1_segmentOf_20 : decode cX1_segmentOf 20 = .ok (.iconst 0, 1) := by decide +kernel
theorem dX1_segmentOf_21 : decode cX1_segmentOf 21 = .ok (.ireturn, 1) := by decide +kernel
set_option maxRecDepth 20000 in
theorem ggX1_requestAt_X2_hasSpan : GoodIn wsX1_requestAt wsX2_hasSpan := goodIn_r _ [9, 10, 25, 26] (by decide +kernel) (by decide +kernel)
set_option maxRecDepth 20000 in
theorem gX1_requestAt_X2_hasSpan : GoodIn wsX1_requestAt (wsV RX1 38 RX2 yX2_hasSpan wsX2_hasSpan) := goodIn_app (goodIn_of _ (by decide +kernel)) ggX1_requestAt_X2_hasSpan
theorem dX1_requestAt_0 : decode cX1_requestAt 0 = .ok (.aload_n 0, 1) := by decide +kernel
theorem dX1_requestAt_1 : decode cX1_requestAt 1 = .ok (.getfield 12, 3) := by decide +kernel
theorem dX1_requestAt_4 : decode cX1_requestAt 4 = .ok (.iload_n 1, 1) := by decide +kernel
theorem dX1_requestAt_5 : decode cX1_requestAt 5 = .ok (.invokevirtual 38, 3) := by decide +kernel
theorem dX1_requestAt_8 : decode cX1_requestAt 8 = .ok (.ifCond .ne 5, 3) := by decide +kernel
theorem dX1_requestAt_11 : decode cX1_requestAt 11 = .ok (.iconst 0, 1) := by decide +kernel
theorem dX1_requestAt_12 : decode cX1_requestAt 12 = .ok (.ireturn, 1) := by decide +kernel
theorem dX1_requestAt_13 : decode cX1_requestAt 13 = .ok (.aload_n 0, 1) := by decide +kernel
theorem dX1_requestAt_14 : decode cX1_requestAt 14 = .ok (.getfield 32, 3) := by decide +kernel
theorem dX1_requestAt_17 : decode cX1_requestAt 17 = .ok (.iload_n 1, 1) := by decide +kernel
theorem dX1_requestAt_18 : decode cX1_requestAt 18 = .ok (.iaload, 1) := by decide +kernel
theorem dX1_requestAt_19 : decode cX1_requestAt 19 = .ok (.istore_n 2, 1) := by decide +kernel
theorem dX1_requestAt_20 : decode cX1_requestAt 20 = .ok (.iload_n 2, 1) := by decide +kernel
theorem dX1_requestAt_21 : decode cX1_requestAt 21 = .ok (.ifCond .ne 21, 3) := by decide +kernel
theorem dX1_requestAt_24 : decode cX1_requestAt 24 = .ok (.aload_n 0, 1) := by decide +kernel
theorem dX1_requestAt_25 : decode cX1_requestAt 25 = .ok (.getfield 22, 3) := by decide +kernel
theorem dX1_requestAt_28 : decode cX1_requestAt 28 = .ok (.iload_n 1, 1) := by decide +kernel
theorem dX1_requestAt_29 : decode cX1_requestAt 29 = .ok (.iaload, 1) := by decide +kernel
theorem dX1_requestAt_30 : decode cX1_requestAt 30 = .ok (.ifCond .le 12, 3) := by decide +kernel
theorem dX1_requestAt_33 : decode cX1_requestAt 33 = .ok (.aload_n 0, 1) := by decide +kernel
theorem dX1_requestAt_34 : decode cX1_requestAt 34 = .ok (.getfield 25, 3) := by decide +kernel
theorem dX1_requestAt_37 : decode cX1_requestAt 37 = .ok (.iload_n 1, 1) := by decide +kernel
theorem dX1_requestAt_38 : decode cX1_requestAt 38 = .ok (.iaload, 1) := by decide +kernel
theorem dX1_requestAt_39 : decode cX1_requestAt 39 = .ok (.goto 4, 3) := by decide +kernel
theorem dX1_requestAt_42 : decode cX1_requestAt 42 = .ok (.iload_n 2, 1) := by decide +kernel
theorem dX1_requestAt_43 : decode cX1_requestAt 43 = .ok (.ireturn, 1) := by decide +kernel
set_option maxRecDepth 20000 in
theorem ggX1_switchAt_X5_contains : GoodIn wsX1_switchAt wsX5_contains := goodIn_r _ [5] (by decide +kernel) (by decide +kernel)
set_option maxRecDepth 20000 in
theorem gX1_switchAt_X5_contains_n48 : GoodIn wsX1_switchAt (wsX5_contains) := ggX1_switchAt_X5_contains
theorem dX1_switchAt_0 : decode cX1_switchAt 0 = .ok (.aload_n 0, 1) := by decide +kernel
theorem dX1_switchAt_1 : decode cX1_switchAt 1 = .ok (.getfield 45, 3) := by decide +kernel
theorem dX1_switchAt_4 : decode cX1_switchAt 4 = .ok (.iload_n 1, 1) := by decide +kernel
theorem dX1_switchAt_5 : decode cX1_switchAt 5 = .ok (.invokestatic 48, 3) := by decide +kernel
theorem dX1_switchAt_8 : decode cX1_switchAt 8 = .ok (.ifCond .eq 5, 3) := by decide +kernel
theorem dX1_switchAt_11 : decode cX1_switchAt 11 = .ok (.iconst 2, 1) := by decide +kernel
theorem dX1_switchAt_12 : decode cX1_switchAt 12 = .ok (.ireturn, 1) := by decide +kernel
theorem dX1_switchAt_13 : decode cX1_switchAt 13 = .ok (.aload_n 0, 1) := by decide +kernel
theorem dX1_switchAt_14 : decode cX1_switchAt 14 = .ok (.getfield 52, 3) := by decide +kernel
theorem dX1_switchAt_17 : decode cX1_switchAt 17 = .ok (.iload_n 1, 1) := by decide +kernel
theorem dX1_switchAt_18 : decode cX1_switchAt 18 = .ok (.invokestatic 48, 3) := by decide +kernel
theorem dX1_switchAt_21 : decode cX1_switchAt 21 = .ok (.ifCond .eq 7, 3) := by decide +kernel
theorem dX1_switchAt_24 : decode cX1_switchAt 24 = .ok (.iconst 1, 1) := by decide +kernel
theorem dX1_switchAt_25 : decode cX1_switchAt 25 = .ok (.goto 4, 3) := by decide +kernel
theorem dX1_switchAt_28 : decode cX1_switchAt 28 = .ok (.iconst 0, 1) := by decide +kernel
theorem dX1_switchAt_29 : decode cX1_switchAt 29 = .ok (.ireturn, 1) := by decide +kernel
set_option maxRecDepth 20000 in
theorem ggX1_spansInside_X2_nodeAfter : GoodIn wsX1_spansInside wsX2_nodeAfter := goodIn_r _ [7, 8, 23, 24] (by decide +kernel) (by decide +kernel)
set_option maxRecDepth 20000 in
theorem gX1_spansInside_X2_nodeAfter : GoodIn wsX1_spansInside (wsV RX1 58 RX2 yX2_nodeAfter wsX2_nodeAfter) := goodIn_app (goodIn_of _ (by decide +kernel)) ggX1_spansInside_X2_nodeAfter
theorem dX1_spansInside_0 : decode cX1_spansInside 0 = .ok (.iconst 0, 1) := by decide +kernel
theorem dX1_spansInside_1 : decode cX1_spansInside 1 = .ok (.istore_n 2, 1) := by decide +kernel
theorem dX1_spansInside_2 : decode cX1_spansInside 2 = .ok (.iconst 0, 1) := by decide +kernel
theorem dX1_spansInside_3 : decode cX1_spansInside 3 = .ok (.istore_n 3, 1) := by decide +kernel
theorem dX1_spansInside_4 : decode cX1_spansInside 4 = .ok (.iload_n 3, 1) := by decide +kernel
theorem dX1_spansInside_5 : decode cX1_spansInside 5 = .ok (.aload_n 0, 1) := by decide +kernel
theorem dX1_spansInside_6 : decode cX1_spansInside 6 = .ok (.getfield 12, 3) := by decide +kernel
theorem dX1_spansInside_9 : decode cX1_spansInside 9 = .ok (.getfield 55, 3) := by decide +kernel
theorem dX1_spansInside_12 : decode cX1_spansInside 12 = .ok (.if_icmp .ge 46, 3) := by decide +kernel
theorem dX1_spansInside_15 : decode cX1_spansInside 15 = .ok (.aload_n 0, 1) := by decide +kernel
theorem dX1_spansInside_16 : decode cX1_spansInside 16 = .ok (.getfield 12, 3) := by decide +kernel
theorem dX1_spansInside_19 : decode cX1_spansInside 19 = .ok (.iload_n 3, 1) := by decide +kernel
theorem dX1_spansInside_20 : decode cX1_spansInside 20 = .ok (.invokevirtual 58, 3) := by decide +kernel
theorem dX1_spansInside_23 : decode cX1_spansInside 23 = .ok (.istore 4, 2) := by decide +kernel
theorem dX1_spansInside_25 : decode cX1_spansInside 25 = .ok (.aload_n 0, 1) := by decide +kernel
theorem dX1_spansInside_26 : decode cX1_spansInside 26 = .ok (.getfield 35, 3) := by decide +kernel
theorem dX1_spansInside_29 : decode cX1_spansInside 29 = .ok (.iload_n 3, 1) := by decide +kernel
theorem dX1_spansInside_30 : decode cX1_spansInside 30 = .ok (.iaload, 1) := by decide +kernel
theorem dX1_spansInside_31 : decode cX1_spansInside 31 = .ok (.iload_n 1, 1) := by decide +kernel
theorem dX1_spansInside_32 : decode cX1_spansInside 32 = .ok (.if_icmp .ne 20, 3) := by decide +kernel
theorem dX1_spansInside_35 : decode cX1_spansInside 35 = .ok (.aload_n 0, 1) := by decide +kernel
theorem dX1_spansInside_36 : decode cX1_spansInside 36 = .ok (.getfield 35, 3) := by decide +kernel
theorem dX1_spansInside_39 : decode cX1_spansInside 39 = .ok (.iload 4, 2) := by decide +kernel
theorem dX1_spansInside_41 : decode cX1_spansInside 41 = .ok (.iaload, 1) := by decide +kernel
theorem dX1_spansInside_42 : decode cX1_spansInside 42 = .ok (.iload_n 1, 1) := by decide +kernel
theorem dX1_spansInside_43 : decode cX1_spansInside 43 = .ok (.if_icmp .ne 9, 3) := by decide +kernel
theorem dX1_spansInside_46 : decode cX1_spansInside 46 = .ok (.iload_n 2, 1) := by decide +kernel
theorem dX1_spansInside_47 : decode cX1_spansInside 47 = .ok (.iconst 1, 1) := by decide +kernel
theorem dX1_spansInside_48 : decode cX1_spansInside 48 = .ok (.iload_n 3, 1) := by decide +kernel
theorem dX1_spansInside_49 : decode cX1_spansInside 49 = .ok (.ishl, 1) := by decide +kernel
theorem dX1_spansInside_50 : decode cX1_spansInside 50 = .ok (.ior, 1) := by decide +kernel
theorem dX1_spansInside_51 : decode cX1_spansInside 51 = .ok (.istore_n 2, 1) := by decide +kernel
theorem dX1_spansInside_52 : decode cX1_spansInside 52 = .ok (.iinc 3 1, 3) := by decide +kernel
theorem dX1_spansInside_55 : decode cX1_spansInside 55 = .ok (.goto (-51), 3) := by decide +kernel
theorem dX1_spansInside_58 : decode cX1_spansInside 58 = .ok (.iload_n 2, 1) := by decide +kernel
theorem dX1_spansInside_59 : decode cX1_spansInside 59 = .ok (.ireturn, 1) := by decide +kernel
theorem dX1_countTimersDown_0 : decode cX1_countTimersDown 0 = .ok (.iconst 0, 1) := by decide +kernel
theorem dX1_countTimersDown_1 : decode cX1_countTimersDown 1 = .ok (.istore_n 1, 1) := by decide +kernel
theorem dX1_countTimersDown_2 : decode cX1_countTimersDown 2 = .ok (.iload_n 1, 1) := by decide +kernel
theorem dX1_countTimersDown_3 : decode cX1_countTimersDown 3 = .ok (.aload_n 0, 1) := by decide +kernel
theorem dX1_countTimersDown_4 : decode cX1_countTimersDown 4 = .ok (.getfield 12, 3) := by decide +kernel
theorem dX1_countTimersDown_7 : decode cX1_countTimersDown 7 = .ok (.getfield 55, 3) := by decide +kernel
theorem dX1_countTimersDown_10 : decode cX1_countTimersDown 10 = .ok (.if_icmp .ge 28, 3) := by decide +kernel
theorem dX1_countTimersDown_13 : decode cX1_countTimersDown 13 = .ok (.aload_n 0, 1) := by decide +kernel
theorem dX1_countTimersDown_14 : decode cX1_countTimersDown 14 = .ok (.getfield 22, 3) := by decide +kernel
theorem dX1_countTimersDown_17 : decode cX1_countTimersDown 17 = .ok (.iload_n 1, 1) := by decide +kernel
theorem dX1_countTimersDown_18 : decode cX1_countTimersDown 18 = .ok (.iaload, 1) := by decide +kernel
theorem dX1_countTimersDown_19 : decode cX1_countTimersDown 19 = .ok (.ifCond .le 13, 3) := by decide +kernel
theorem dX1_countTimersDown_22 : decode cX1_countTimersDown 22 = .ok (.aload_n 0, 1) := by decide +kernel
theorem dX1_countTimersDown_23 : decode cX1_countTimersDown 23 = .ok (.getfield 22, 3) := by decide +kernel
theorem dX1_countTimersDown_26 : decode cX1_countTimersDown 26 = .ok (.iload_n 1, 1) := by decide +kernel
theorem dX1_countTimersDown_27 : decode cX1_countTimersDown 27 = .ok (.dup2, 1) := by decide +kernel
theorem dX1_countTimersDown_28 : decode cX1_countTimersDown 28 = .ok (.iaload, 1) := by decide +kernel
theorem dX1_countTimersDown_29 : decode cX1_countTimersDown 29 = .ok (.iconst 1, 1) := by decide +kernel
theorem dX1_countTimersDown_30 : decode cX1_countTimersDown 30 = .ok (.isub, 1) := by decide +kernel
theorem dX1_countTimersDown_31 : decode cX1_countTimersDown 31 = .ok (.iastore, 1) := by decide +kernel
theorem dX1_countTimersDown_32 : decode cX1_countTimersDown 32 = .ok (.iinc 1 1, 3) := by decide +kernel
theorem dX1_countTimersDown_35 : decode cX1_countTimersDown 35 = .ok (.goto (-33), 3) := by decide +kernel
theorem dX1_countTimersDown_38 : decode cX1_countTimersDown 38 = .ok (.return_, 1) := by decide +kernel
set_option maxRecDepth 20000 in
theorem ggX1_run_X1_findCapacitiesDown : GoodIn wsX1_run wsX1_findCapacitiesDown := goodIn_r _ [6, 1, 7, 8, 9, 10, 11, 12, 13, 14, 15, 16, 17, 18, 19, 20, 81, 82, 83, 84, 85, 86, 87, 88, 89, 90, 91, 92, 93, 94, 95, 96] (by decide +kernel) (by decide +kernel)
set_option maxRecDepth 20000 in
theorem gX1_run_X1_findCapacitiesDown : GoodIn wsX1_run (wsV RX1 62 RX1 yX1_findCapacitiesDown wsX1_findCapacitiesDown) := goodIn_app (goodIn_of _ (by decide +kernel)) ggX1_run_X1_findCapacitiesDown
set_option maxRecDepth 20000 in
theorem ggX1_run_X1_takeDirectRequest : GoodIn wsX1_run wsX1_takeDirectRequest := goodIn_r _ [24, 25, 26, 27, 28, 29, 30, 31, 32, 33, 34, 5, 35, 9, 11, 12, 13, 14, 36, 37, 38, 39, 40, 41, 42, 43, 44, 45, 46, 47, 48, 49, 50, 51, 81, 82, 83, 84, 85, 86, 87, 88, 89, 90, 91, 92, 93, 94] (by decide +kernel) (by decide +kernel)
set_option maxRecDepth 20000 in
theorem gX1_run_X1_takeDirectRequest : GoodIn wsX1_run (wsV RX1 65 RX1 yX1_takeDirectRequest wsX1_takeDirectRequest) := goodIn_app (goodIn_of _ (by decide +kernel)) ggX1_run_X1_takeDirectRequest
set_option maxRecDepth 20000 in
theorem ggX1_run_X1_grantSwitches : GoodIn wsX1_run wsX1_grantSwitches := goodIn_r _ [55, 51, 50, 1, 56, 57, 58, 5, 59, 60, 61, 62, 63, 29, 30, 45, 64, 65, 66, 18, 67, 20, 68, 69, 70, 71, 81, 82, 83, 84, 85, 86, 87, 88, 89, 90, 91, 92, 93, 94, 95, 96] (by decide +kernel) (by decide +kernel)
set_option maxRecDepth 20000 in
theorem gX1_run_X1_grantSwitches : GoodIn wsX1_run (wsV RX1 69 RX1 yX1_grantSwitches wsX1_grantSwitches) := goodIn_app (goodIn_of _ (by decide +kernel)) ggX1_run_X1_grantSwitches
set_option maxRecDepth 20000 in
theorem ggX1_run_X1_dropWaitsWithoutSwitch : GoodIn wsX1_run wsX1_dropWaitsWithoutSwitch := goodIn_r _ [75, 1, 30, 60, 61, 62, 5, 63, 29, 45, 64, 65, 66, 18, 67, 20, 46, 47, 48, 49, 50, 51, 12, 13, 14, 81, 82, 83, 84, 85, 86, 87, 88, 89, 90, 91, 92, 93, 94, 95, 96] (by decide +kernel) (by decide +kernel)
set_option maxRecDepth 20000 in
theorem gX1_run_X1_dropWaitsWithoutSwitch : GoodIn wsX1_run (wsV RX1 72 RX1 yX1_dropWaitsWithoutSwitch wsX1_dropWaitsWithoutSwitch) := goodIn_app (goodIn_of _ (by decide +kernel)) ggX1_run_X1_dropWaitsWithoutSwitch
set_option maxRecDepth 20000 in
theorem ggX1_run_X1_findSegments : GoodIn wsX1_run wsX1_findSegments := goodIn_r _ [79, 1, 50, 80, 12, 13, 14, 81, 82, 83, 84, 85, 86, 87, 88, 89, 90, 91, 92, 93, 94, 95, 96] (by decide +kernel) (by decide +kernel)
set_option maxRecDepth 20000 in
theorem gX1_run_X1_findSegments : GoodIn wsX1_run (wsV RX1 75 RX1 yX1_findSegments wsX1_findSegments) := goodIn_app (goodIn_of _ (by decide +kernel)) ggX1_run_X1_findSegments
theorem dX1_run_0 : decode cX1_run 0 = .ok (.aload_n 0, 1) := by decide +kernel
theorem dX1_run_1 : decode cX1_run 1 = .ok (.invokevirtual 62, 3) := by decide +kernel
theorem dX1_run_4 : decode cX1_run 4 = .ok (.iconst 0, 1) := by decide +kernel
theorem dX1_run_5 : decode cX1_run 5 = .ok (.istore_n 1, 1) := by decide +kernel
theorem dX1_run_6 : decode cX1_run 6 = .ok (.iload_n 1, 1) := by decide +kernel
theorem dX1_run_7 : decode cX1_run 7 = .ok (.aload_n 0, 1) := by decide +kernel
theorem dX1_run_8 : decode cX1_run 8 = .ok (.getfield 12, 3) := by decide +kernel
theorem dX1_run_11 : decode cX1_run 11 = .ok (.getfield 55, 3) := by decide +kernel
theorem dX1_run_14 : decode cX1_run 14 = .ok (.if_icmp .ge 14, 3) := by decide +kernel
theorem dX1_run_17 : decode cX1_run 17 = .ok (.aload_n 0, 1) := by decide +kernel
theorem dX1_run_18 : decode cX1_run 18 = .ok (.iload_n 1, 1) := by decide +kernel
theorem dX1_run_19 : decode cX1_run 19 = .ok (.invokevirtual 65, 3) := by decide +kernel
theorem dX1_run_22 : decode cX1_run 22 = .ok (.iinc 1 1, 3) := by decide +kernel
theorem dX1_run_25 : decode cX1_run 25 = .ok (.goto (-19), 3) := by decide +kernel
theorem dX1_run_28 : decode cX1_run 28 = .ok (.aload_n 0, 1) := by decide +kernel
theorem dX1_run_29 : decode cX1_run 29 = .ok (.invokevirtual 69, 3) := by decide +kernel
theorem dX1_run_32 : decode cX1_run 32 = .ok (.aload_n 0, 1) := by decide +kernel
theorem dX1_run_33 : decode cX1_run 33 = .ok (.invokevirtual 72, 3) := by decide +kernel
theorem dX1_run_36 : decode cX1_run 36 = .ok (.aload_n 0, 1) := by decide +kernel
theorem dX1_run_37 : decode cX1_run 37 = .ok (.invokevirtual 75, 3) := by decide +kernel
theorem dX1_run_40 : decode cX1_run 40 = .ok (.return_, 1) := by decide +kernel
set_option maxRecDepth 20000 in
theorem ggX1_findCapacitiesDown_X5_contains : GoodIn wsX1_findCapacitiesDown wsX5_contains := goodIn_r _ [9] (by decide +kernel) (by decide +kernel)
set_option maxRecDepth 20000 in
theorem gX1_findCapacitiesDown_X5_contains_n48 : GoodIn wsX1_findCapacitiesDown (wsX5_contains) := ggX1_findCapacitiesDown_X5_contains
set_option maxRecDepth 20000 in
theorem ggX1_findCapacitiesDown_X2_spansAt : GoodIn wsX1_findCapacitiesDown wsX2_spansAt := goodIn_r _ [14, 15, 30, 31] (by decide +kernel) (by decide +kernel)
set_option maxRecDepth 20000 in
theorem gX1_findCapacitiesDown_X2_spansAt : GoodIn wsX1_findCapacitiesDown (wsV RX1 81 RX2 yX2_spansAt wsX2_spansAt) := goodIn_app (goodIn_of _ (by decide +kernel)) ggX1_findCapacitiesDown_X2_spansAt
theorem dX1_findCapacitiesDown_0 : decode cX1_findCapacitiesDown 0 = .ok (.iconst 0, 1) := by decide +kernel
theorem dX1_findCapacitiesDown_1 : decode cX1_findCapacitiesDown 1 = .ok (.istore_n 1, 1) := by decide +kernel
theorem dX1_findCapacitiesDown_2 : decode cX1_findCapacitiesDown 2 = .ok (.iconst 0, 1) := by decide +kernel
theorem dX1_findCapacitiesDown_3 : decode cX1_findCapacitiesDown 3 = .ok (.istore_n 2, 1) := by decide +kernel
theorem dX1_findCapacitiesDown_4 : decode cX1_findCapacitiesDown 4 = .ok (.iload_n 2, 1) := by decide +kernel
theorem dX1_findCapacitiesDown_5 : decode cX1_findCapacitiesDown 5 = .ok (.aload_n 0, 1) := by decide +kernel
theorem dX1_findCapacitiesDown_6 : decode cX1_findCapacitiesDown 6 = .ok (.getfield 12, 3) := by decide +kernel
theorem dX1_findCapacitiesDown_9 : decode cX1_findCapacitiesDown 9 = .ok (.getfield 55, 3) := by decide +kernel
theorem dX1_findCapacitiesDown_12 : decode cX1_findCapacitiesDown 12 = .ok (.if_icmp .ge 31, 3) := by decide +kernel
theorem dX1_findCapacitiesDown_15 : decode cX1_findCapacitiesDown 15 = .ok (.aload_n 0, 1) := by decide +kernel
theorem dX1_findCapacitiesDown_16 : decode cX1_findCapacitiesDown 16 = .ok (.getfield 78, 3) := by decide +kernel
theorem dX1_findCapacitiesDown_19 : decode cX1_findCapacitiesDown 19 = .ok (.iload_n 2, 1) := by decide +kernel
theorem dX1_findCapacitiesDown_20 : decode cX1_findCapacitiesDown 20 = .ok (.invokestatic 48, 3) := by decide +kernel
theorem dX1_findCapacitiesDown_23 : decode cX1_findCapacitiesDown 23 = .ok (.ifCond .eq 14, 3) := by decide +kernel
theorem dX1_findCapacitiesDown_26 : decode cX1_findCapacitiesDown 26 = .ok (.iload_n 1, 1) := by decide +kernel
theorem dX1_findCapacitiesDown_27 : decode cX1_findCapacitiesDown 27 = .ok (.aload_n 0, 1) := by decide +kernel
theorem dX1_findCapacitiesDown_28 : decode cX1_findCapacitiesDown 28 = .ok (.getfield 12, 3) := by decide +kernel
theorem dX1_findCapacitiesDown_31 : decode cX1_findCapacitiesDown 31 = .ok (.iload_n 2, 1) := by decide +kernel
theorem dX1_findCapacitiesDown_32 : decode cX1_findCapacitiesDown 32 = .ok (.invokevirtual 81, 3) := by decide +kernel
theorem dX1_findCapacitiesDown_35 : decode cX1_findCapacitiesDown 35 = .ok (.ior, 1) := by decide +kernel
theorem dX1_findCapacitiesDown_36 : decode cX1_findCapacitiesDown 36 = .ok (.istore_n 1, 1) := by decide +kernel
theorem dX1_findCapacitiesDown_37 : decode cX1_findCapacitiesDown 37 = .ok (.iinc 2 1, 3) := by decide +kernel
theorem dX1_findCapacitiesDown_40 : decode cX1_findCapacitiesDown 40 = .ok (.goto (-36), 3) := by decide +kernel
theorem dX1_findCapacitiesDown_43 : decode cX1_findCapacitiesDown 43 = .ok (.aload_n 0, 1) := by decide +kernel
theorem dX1_findCapacitiesDown_44 : decode cX1_findCapacitiesDown 44 = .ok (.aload_n 0, 1) := by decide +kernel
theorem dX1_findCapacitiesDown_45 : decode cX1_findCapacitiesDown 45 = .ok (.getfield 84, 3) := by decide +kernel
theorem dX1_findCapacitiesDown_48 : decode cX1_findCapacitiesDown 48 = .ok (.iload_n 1, 1) := by decide +kernel
theorem dX1_findCapacitiesDown_49 : decode cX1_findCapacitiesDown 49 = .ok (.ior, 1) := by decide +kernel
theorem dX1_findCapacitiesDown_50 : decode cX1_findCapacitiesDown 50 = .ok (.putfield 87, 3) := by decide +kernel
theorem dX1_findCapacitiesDown_53 : decode cX1_findCapacitiesDown 53 = .ok (.aload_n 0, 1) := by decide +kernel
theorem dX1_findCapacitiesDown_54 : decode cX1_findCapacitiesDown 54 = .ok (.aload_n 0, 1) := by decide +kernel
theorem dX1_findCapacitiesDown_55 : decode cX1_findCapacitiesDown 55 = .ok (.getfield 90, 3) := by decide +kernel
theorem dX1_findCapacitiesDown_58 : decode cX1_findCapacitiesDown 58 = .ok (.iload_n 1, 1) := by decide +kernel
theorem dX1_findCapacitiesDown_59 : decode cX1_findCapacitiesDown 59 = .ok (.ior, 1) := by decide +kernel
theorem dX1_findCapacitiesDown_60 : decode cX1_findCapacitiesDown 60 = .ok (.putfield 93, 3) := by decide +kernel
theorem dX1_findCapacitiesDown_63 : decode cX1_findCapacitiesDown 63 = .ok (.return_, 1) := by decide +kernel
set_option maxRecDepth 20000 in
theorem ggX1_takeDirectRequest_X1_requestOfFailures : GoodIn wsX1_takeDirectRequest wsX1_requestOfFailures := goodIn_r _ [12, 13, 14, 15, 16, 17, 34, 35, 36, 37, 38, 39, 40, 41, 42, 43, 44, 45, 46, 47] (by decide +kernel) (by decide +kernel)
set_option maxRecDepth 20000 in
theorem gX1_takeDirectRequest_X1_requestOfFailures : GoodIn wsX1_takeDirectRequest (wsV RX1 96 RX1 yX1_requestOfFailures wsX1_requestOfFailures) := goodIn_app (goodIn_of _ (by decide +kernel)) ggX1_takeDirectRequest_X1_requestOfFailures
set_option maxRecDepth 20000 in
theorem ggX1_takeDirectRequest_X1_requestOfCommand : GoodIn wsX1_takeDirectRequest wsX1_requestOfCommand := goodIn_r _ [21, 22, 14, 15, 16, 17, 34, 35, 36, 37, 38, 39, 40, 41, 42, 43, 44, 45, 46, 47] (by decide +kernel) (by decide +kernel)
set_option maxRecDepth 20000 in
theorem gX1_takeDirectRequest_X1_requestOfCommand : GoodIn wsX1_takeDirectRequest (wsV RX1 99 RX1 yX1_requestOfCommand wsX1_requestOfCommand) := goodIn_app (goodIn_of _ (by decide +kernel)) ggX1_takeDirectRequest_X1_requestOfCommand
set_option maxRecDepth 20000 in
theorem ggX1_takeDirectRequest_X1_startWaiting : GoodIn wsX1_takeDirectRequest wsX1_startWaiting := goodIn_r _ [26, 6, 7, 27, 28, 29, 30, 11, 31, 32, 33, 15, 16, 17, 34, 35, 36, 37, 38, 39, 40, 41, 42, 43, 44, 45, 46, 47] (by decide +kernel) (by decide +kernel)
set_option maxRecDepth 20000 in
theorem gX1_takeDirectRequest_X1_startWaiting : GoodIn wsX1_takeDirectRequest (wsV RX1 108 RX1 yX1_startWaiting wsX1_startWaiting) := goodIn_app (goodIn_of _ (by decide +kernel)) ggX1_takeDirectRequest_X1_startWaiting
theorem dX1_takeDirectRequest_0 : decode cX1_takeDirectRequest 0 = .ok (.aload_n 0, 1) := by decide +kernel
theorem dX1_takeDirectRequest_1 : decode cX1_takeDirectRequest 1 = .ok (.iload_n 1, 1) := by decide +kernel
theorem dX1_takeDirectRequest_2 : decode cX1_takeDirectRequest 2 = .ok (.invokevirtual 96, 3) := by decide +kernel
theorem dX1_takeDirectRequest_5 : decode cX1_takeDirectRequest 5 = .ok (.aload_n 0, 1) := by decide +kernel
theorem dX1_takeDirectRequest_6 : decode cX1_takeDirectRequest 6 = .ok (.iload_n 1, 1) := by decide +kernel
theorem dX1_takeDirectRequest_7 : decode cX1_takeDirectRequest 7 = .ok (.invokevirtual 99, 3) := by decide +kernel
theorem dX1_takeDirectRequest_10 : decode cX1_takeDirectRequest 10 = .ok (.invokestatic 102, 3) := by decide +kernel
theorem dX1_takeDirectRequest_13 : decode cX1_takeDirectRequest 13 = .ok (.istore_n 2, 1) := by decide +kernel
theorem dX1_takeDirectRequest_14 : decode cX1_takeDirectRequest 14 = .ok (.aload_n 0, 1) := by decide +kernel
theorem dX1_takeDirectRequest_15 : decode cX1_takeDirectRequest 15 = .ok (.getfield 32, 3) := by decide +kernel
theorem dX1_takeDirectRequest_18 : decode cX1_takeDirectRequest 18 = .ok (.iload_n 1, 1) := by decide +kernel
theorem dX1_takeDirectRequest_19 : decode cX1_takeDirectRequest 19 = .ok (.iaload, 1) := by decide +kernel
theorem dX1_takeDirectRequest_20 : decode cX1_takeDirectRequest 20 = .ok (.istore_n 3, 1) := by decide +kernel
theorem dX1_takeDirectRequest_21 : decode cX1_takeDirectRequest 21 = .ok (.iload_n 2, 1) := by decide +kernel
theorem dX1_takeDirectRequest_22 : decode cX1_takeDirectRequest 22 = .ok (.ifCond .eq 13, 3) := by decide +kernel
theorem dX1_takeDirectRequest_25 : decode cX1_takeDirectRequest 25 = .ok (.aload_n 0, 1) := by decide +kernel
theorem dX1_takeDirectRequest_26 : decode cX1_takeDirectRequest 26 = .ok (.getfield 22, 3) := by decide +kernel
theorem dX1_takeDirectRequest_29 : decode cX1_takeDirectRequest 29 = .ok (.iload_n 1, 1) := by decide +kernel
theorem dX1_takeDirectRequest_30 : decode cX1_takeDirectRequest 30 = .ok (.iconst 0, 1) := by decide +kernel
theorem dX1_takeDirectRequest_31 : decode cX1_takeDirectRequest 31 = .ok (.iastore, 1) := by decide +kernel
theorem dX1_takeDirectRequest_32 : decode cX1_takeDirectRequest 32 = .ok (.goto 26, 3) := by decide +kernel
theorem dX1_takeDirectRequest_35 : decode cX1_takeDirectRequest 35 = .ok (.iload_n 3, 1) := by decide +kernel
theorem dX1_takeDirectRequest_36 : decode cX1_takeDirectRequest 36 = .ok (.iconst 5, 1) := by decide +kernel
theorem dX1_takeDirectRequest_37 : decode cX1_takeDirectRequest 37 = .ok (.if_icmp .eq 9, 3) := by decide +kernel
theorem dX1_takeDirectRequest_40 : decode cX1_takeDirectRequest 40 = .ok (.iload_n 3, 1) := by decide +kernel
theorem dX1_takeDirectRequest_41 : decode cX1_takeDirectRequest 41 = .ok (.bipush 6, 2) := by decide +kernel
theorem dX1_takeDirectRequest_43 : decode cX1_takeDirectRequest 43 = .ok (.if_icmp .ne 15, 3) := by decide +kernel
theorem dX1_takeDirectRequest_46 : decode cX1_takeDirectRequest 46 = .ok (.aload_n 0, 1) := by decide +kernel
theorem dX1_takeDirectRequest_47 : decode cX1_takeDirectRequest 47 = .ok (.getfield 28, 3) := by decide +kernel
theorem dX1_takeDirectRequest_50 : decode cX1_takeDirectRequest 50 = .ok (.ifCond .le 8, 3) := by decide +kernel
theorem dX1_takeDirectRequest_53 : decode cX1_takeDirectRequest 53 = .ok (.aload_n 0, 1) := by decide +kernel
theorem dX1_takeDirectRequest_54 : decode cX1_takeDirectRequest 54 = .ok (.iload_n 1, 1) := by decide +kernel
theorem dX1_takeDirectRequest_55 : decode cX1_takeDirectRequest 55 = .ok (.invokevirtual 108, 3) := by decide +kernel
theorem dX1_takeDirectRequest_58 : decode cX1_takeDirectRequest 58 = .ok (.aload_n 0, 1) := by decide +kernel
theorem dX1_takeDirectRequest_59 : decode cX1_takeDirectRequest 59 = .ok (.getfield 32, 3) := by decide +kernel
theorem dX1_takeDirectRequest_62 : decode cX1_takeDirectRequest 62 = .ok (.iload_n 1, 1) := by decide +kernel
theorem dX1_takeDirectRequest_63 : decode cX1_takeDirectRequest 63 = .ok (.iload_n 2, 1) := by decide +kernel
theorem dX1_takeDirectRequest_64 : decode cX1_takeDirectRequest 64 = .ok (.iastore, 1) := by decide +kernel
theorem dX1_takeDirectRequest_65 : decode cX1_takeDirectRequest 65 = .ok (.return_, 1) := by decide +kernel
set_option maxRecDepth 20000 in
theorem ggX1_requestOfFailures_X5_contains : GoodIn wsX1_requestOfFailures wsX5_contains := goodIn_r _ [5] (by decide +kernel) (by decide +kernel)
set_option maxRecDepth 20000 in
theorem gX1_requestOfFailures_X5_contains_n48 : GoodIn wsX1_requestOfFailures (wsX5_contains) := ggX1_requestOfFailures_X5_contains
theorem dX1_requestOfFailures_0 : decode cX1_requestOfFailures 0 = .ok (.aload_n 0, 1) := by decide +kernel
theorem dX1_requestOfFailures_1 : decode cX1_requestOfFailures 1 = .ok (.getfield 87, 3) := by decide +kernel
theorem dX1_requestOfFailures_4 : decode cX1_requestOfFailures 4 = .ok (.iload_n 1, 1) := by decide +kernel
theorem dX1_requestOfFailures_5 : decode cX1_requestOfFailures 5 = .ok (.invokestatic 48, 3) := by decide +kernel
theorem dX1_requestOfFailures_8 : decode cX1_requestOfFailures 8 = .ok (.ifCond .ne 7, 3) := by decide +kernel
theorem dX1_requestOfFailures_11 : decode cX1_requestOfFailures 11 = .ok (.iconst 1, 1) := by decide +kernel
theorem dX1_requestOfFailures_12 : decode cX1_requestOfFailures 12 = .ok (.goto 4, 3) := by decide +kernel
theorem dX1_requestOfFailures_15 : decode cX1_requestOfFailures 15 = .ok (.iconst 0, 1) := by decide +kernel
theorem dX1_requestOfFailures_16 : decode cX1_requestOfFailures 16 = .ok (.istore_n 2, 1) := by decide +kernel
theorem dX1_requestOfFailures_17 : decode cX1_requestOfFailures 17 = .ok (.aload_n 0, 1) := by decide +kernel
theorem dX1_requestOfFailures_18 : decode cX1_requestOfFailures 18 = .ok (.getfield 93, 3) := by decide +kernel
theorem dX1_requestOfFailures_21 : decode cX1_requestOfFailures 21 = .ok (.iload_n 1, 1) := by decide +kernel
theorem dX1_requestOfFailures_22 : decode cX1_requestOfFailures 22 = .ok (.invokestatic 48, 3) := by decide +kernel
theorem dX1_requestOfFailures_25 : decode cX1_requestOfFailures 25 = .ok (.ifCond .eq 15, 3) := by decide +kernel
theorem dX1_requestOfFailures_28 : decode cX1_requestOfFailures 28 = .ok (.iload_n 2, 1) := by decide +kernel
theorem dX1_requestOfFailures_29 : decode cX1_requestOfFailures 29 = .ok (.ifCond .eq 8, 3) := by decide +kernel
theorem dX1_requestOfFailures_32 : decode cX1_requestOfFailures 32 = .ok (.bipush 9, 2) := by decide +kernel
theorem dX1_requestOfFailures_34 : decode cX1_requestOfFailures 34 = .ok (.goto 5, 3) := by decide +kernel
theorem dX1_requestOfFailures_37 : decode cX1_requestOfFailures 37 = .ok (.bipush 6, 2) := by decide +kernel
theorem dX1_requestOfFailures_39 : decode cX1_requestOfFailures 39 = .ok (.ireturn, 1) := by decide +kernel
theorem dX1_requestOfFailures_40 : decode cX1_requestOfFailures 40 = .ok (.iload_n 2, 1) := by decide +kernel
theorem dX1_requestOfFailures_41 : decode cX1_requestOfFailures 41 = .ok (.ifCond .eq 7, 3) := by decide +kernel
theorem dX1_requestOfFailures_44 : decode cX1_requestOfFailures 44 = .ok (.iconst 0, 1) := by decide +kernel
theorem dX1_requestOfFailures_45 : decode cX1_requestOfFailures 45 = .ok (.goto 4, 3) := by decide +kernel
theorem dX1_requestOfFailures_48 : decode cX1_requestOfFailures 48 = .ok (.iconst 5, 1) := by decide +kernel
theorem dX1_requestOfFailures_49 : decode cX1_requestOfFailures 49 = .ok (.ireturn, 1) := by decide +kernel
set_option maxRecDepth 20000 in
theorem ggX1_requestOfCommand_X5_contains : GoodIn wsX1_requestOfCommand wsX5_contains := goodIn_r _ [5] (by decide +kernel) (by decide +kernel)
set_option maxRecDepth 20000 in
theorem gX1_requestOfCommand_X5_contains_n48 : GoodIn wsX1_requestOfCommand (wsX5_contains) := ggX1_requestOfCommand_X5_contains
theorem dX1_requestOfCommand_0 : decode cX1_requestOfCommand 0 = .ok (.aload_n 0, 1) := by decide +kernel
theorem dX1_requestOfCommand_1 : decode cX1_requestOfCommand 1 = .ok (.getfield 18, 3) := by decide +kernel
theorem dX1_requestOfCommand_4 : decode cX1_requestOfCommand 4 = .ok (.iload_n 1, 1) := by decide +kernel
theorem dX1_requestOfCommand_5 : decode cX1_requestOfCommand 5 = .ok (.iaload, 1) := by decide +kernel
theorem dX1_requestOfCommand_6 : decode cX1_requestOfCommand 6 = .ok (.istore_n 2, 1) := by decide +kernel
theorem dX1_requestOfCommand_7 : decode cX1_requestOfCommand 7 = .ok (.iload_n 2, 1) := by decide +kernel
theorem dX1_requestOfCommand_8 : decode cX1_requestOfCommand 8 = .ok (.bipush 7, 2) := by decide +kernel
theorem dX1_requestOfCommand_10 : decode cX1_requestOfCommand 10 = .ok (.if_icmp .eq 8, 3) := by decide +kernel
theorem dX1_requestOfCommand_13 : decode cX1_requestOfCommand 13 = .ok (.iload_n 2, 1) := by decide +kernel
theorem dX1_requestOfCommand_14 : decode cX1_requestOfCommand 14 = .ok (.iconst 3, 1) := by decide +kernel
theorem dX1_requestOfCommand_15 : decode cX1_requestOfCommand 15 = .ok (.if_icmp .ne 7, 3) := by decide +kernel
theorem dX1_requestOfCommand_18 : decode cX1_requestOfCommand 18 = .ok (.iconst 1, 1) := by decide +kernel
theorem dX1_requestOfCommand_19 : decode cX1_requestOfCommand 19 = .ok (.goto 4, 3) := by decide +kernel
theorem dX1_requestOfCommand_22 : decode cX1_requestOfCommand 22 = .ok (.iconst 0, 1) := by decide +kernel
theorem dX1_requestOfCommand_23 : decode cX1_requestOfCommand 23 = .ok (.istore_n 3, 1) := by decide +kernel
theorem dX1_requestOfCommand_24 : decode cX1_requestOfCommand 24 = .ok (.iload_n 3, 1) := by decide +kernel
theorem dX1_requestOfCommand_25 : decode cX1_requestOfCommand 25 = .ok (.ifCond .eq 18, 3) := by decide +kernel
theorem dX1_requestOfCommand_28 : decode cX1_requestOfCommand 28 = .ok (.aload_n 0, 1) := by decide +kernel
theorem dX1_requestOfCommand_29 : decode cX1_requestOfCommand 29 = .ok (.getfield 93, 3) := by decide +kernel
theorem dX1_requestOfCommand_32 : decode cX1_requestOfCommand 32 = .ok (.iload_n 1, 1) := by decide +kernel
theorem dX1_requestOfCommand_33 : decode cX1_requestOfCommand 33 = .ok (.invokestatic 48, 3) := by decide +kernel
theorem dX1_requestOfCommand_36 : decode cX1_requestOfCommand 36 = .ok (.ifCond .eq 7, 3) := by decide +kernel
theorem dX1_requestOfCommand_39 : decode cX1_requestOfCommand 39 = .ok (.iconst 0, 1) := by decide +kernel
theorem dX1_requestOfCommand_40 : decode cX1_requestOfCommand 40 = .ok (.goto 4, 3) := by decide +kernel
theorem dX1_requestOfCommand_43 : decode cX1_requestOfCommand 43 = .ok (.iload_n 2, 1) := by decide +kernel
theorem dX1_requestOfCommand_44 : decode cX1_requestOfCommand 44 = .ok (.ireturn, 1) := by decide +kernel
set_option maxRecDepth 20000 in
theorem ggX1_startWaiting_X1_switchAt : GoodIn wsX1_startWaiting wsX1_switchAt := goodIn_r _ [8, 9, 10, 11, 12, 13, 14, 15, 16, 17, 18, 19, 20, 21, 22, 23, 24, 25, 26, 27] (by decide +kernel) (by decide +kernel)
set_option maxRecDepth 20000 in
theorem gX1_startWaiting_X1_switchAt : GoodIn wsX1_startWaiting (wsV RX1 111 RX1 yX1_switchAt wsX1_switchAt) := goodIn_app (goodIn_of _ (by decide +kernel)) ggX1_startWaiting_X1_switchAt
theorem dX1_startWaiting_0 : decode cX1_startWaiting 0 = .ok (.aload_n 0, 1) := by decide +kernel
theorem dX1_startWaiting_1 : decode cX1_startWaiting 1 = .ok (.iload_n 1, 1) := by decide +kernel
theorem dX1_startWaiting_2 : decode cX1_startWaiting 2 = .ok (.invokevirtual 111, 3) := by decide +kernel
theorem dX1_startWaiting_5 : decode cX1_startWaiting 5 = .ok (.istore_n 2, 1) := by decide +kernel
theorem dX1_startWaiting_6 : decode cX1_startWaiting 6 = .ok (.iload_n 2, 1) := by decide +kernel
theorem dX1_startWaiting_7 : decode cX1_startWaiting 7 = .ok (.ifCond .eq 29, 3) := by decide +kernel
theorem dX1_startWaiting_10 : decode cX1_startWaiting 10 = .ok (.aload_n 0, 1) := by decide +kernel
theorem dX1_startWaiting_11 : decode cX1_startWaiting 11 = .ok (.getfield 22, 3) := by decide +kernel
theorem dX1_startWaiting_14 : decode cX1_startWaiting 14 = .ok (.iload_n 1, 1) := by decide +kernel
theorem dX1_startWaiting_15 : decode cX1_startWaiting 15 = .ok (.aload_n 0, 1) := by decide +kernel
theorem dX1_startWaiting_16 : decode cX1_startWaiting 16 = .ok (.getfield 28, 3) := by decide +kernel
theorem dX1_startWaiting_19 : decode cX1_startWaiting 19 = .ok (.iastore, 1) := by decide +kernel
theorem dX1_startWaiting_20 : decode cX1_startWaiting 20 = .ok (.aload_n 0, 1) := by decide +kernel
theorem dX1_startWaiting_21 : decode cX1_startWaiting 21 = .ok (.getfield 25, 3) := by decide +kernel
theorem dX1_startWaiting_24 : decode cX1_startWaiting 24 = .ok (.iload_n 1, 1) := by decide +kernel
theorem dX1_startWaiting_25 : decode cX1_startWaiting 25 = .ok (.iload_n 2, 1) := by decide +kernel
theorem dX1_startWaiting_26 : decode cX1_startWaiting 26 = .ok (.iconst 1, 1) := by decide +kernel
theorem dX1_startWaiting_27 : decode cX1_startWaiting 27 = .ok (.if_icmp .ne 7, 3) := by decide +kernel
theorem dX1_startWaiting_30 : decode cX1_startWaiting 30 = .ok (.iconst 1, 1) := by decide +kernel
theorem dX1_startWaiting_31 : decode cX1_startWaiting 31 = .ok (.goto 4, 3) := by decide +kernel
theorem dX1_startWaiting_34 : decode cX1_startWaiting 34 = .ok (.iconst 2, 1) := by decide +kernel
theorem dX1_startWaiting_35 : decode cX1_startWaiting 35 = .ok (.iastore, 1) := by decide +kernel
theorem dX1_startWaiting_36 : decode cX1_startWaiting 36 = .ok (.return_, 1) := by decide +kernel
set_option maxRecDepth 20000 in
theorem ggX1_grantSwitches_X1_isLockedOut : GoodIn wsX1_grantSwitches wsX1_isLockedOut := goodIn_r _ [8, 3, 9, 10, 11, 7, 12, 13, 14, 15, 16, 17, 18, 19, 20, 21, 26, 27, 28, 29, 30, 31, 32, 33, 34, 35, 36, 37, 38, 39, 40, 41] (by decide +kernel) (by decide +kernel)
set_option maxRecDepth 20000 in
theorem gX1_grantSwitches_X1_isLockedOut : GoodIn wsX1_grantSwitches (wsV RX1 114 RX1 yX1_isLockedOut wsX1_isLockedOut) := goodIn_app (goodIn_of _ (by decide +kernel)) ggX1_grantSwitches_X1_isLockedOut
set_option maxRecDepth 20000 in
theorem ggX1_grantSwitches_X1_requestAt : GoodIn wsX1_grantSwitches wsX1_requestAt := goodIn_r _ [12, 3, 13, 14, 15, 16, 17, 18, 19, 20, 21, 26, 27, 28, 29, 30, 31, 32, 33, 34, 35, 36, 37, 38, 39, 40, 41] (by decide +kernel) (by decide +kernel)
set_option maxRecDepth 20000 in
theorem gX1_grantSwitches_X1_requestAt : GoodIn wsX1_grantSwitches (wsV RX1 118 RX1 yX1_requestAt wsX1_requestAt) := goodIn_app (goodIn_of _ (by decide +kernel)) ggX1_grantSwitches_X1_requestAt
set_option maxRecDepth 20000 in
theorem ggX1_grantSwitches_X1_grant : GoodIn wsX1_grantSwitches wsX1_grant := goodIn_r _ [25, 1, 2, 26, 27, 28, 29, 30, 31, 32, 33, 34, 35, 36, 37, 38, 39] (by decide +kernel) (by decide +kernel)
set_option maxRecDepth 20000 in
theorem gX1_grantSwitches_X1_grant : GoodIn wsX1_grantSwitches (wsV RX1 121 RX1 yX1_grant wsX1_grant) := goodIn_app (goodIn_of _ (by decide +kernel)) ggX1_grantSwitches_X1_grant
theorem dX1_grantSwitches_0 : decode cX1_grantSwitches 0 = .ok (.aload_n 0, 1) := by decide +kernel
theorem dX1_grantSwitches_1 : decode cX1_grantSwitches 1 = .ok (.iconst 0, 1) := by decide +kernel
theorem dX1_grantSwitches_2 : decode cX1_grantSwitches 2 = .ok (.putfield 52, 3) := by decide +kernel
theorem dX1_grantSwitches_5 : decode cX1_grantSwitches 5 = .ok (.aload_n 0, 1) := by decide +kernel
theorem dX1_grantSwitches_6 : decode cX1_grantSwitches 6 = .ok (.iconst 0, 1) := by decide +kernel
theorem dX1_grantSwitches_7 : decode cX1_grantSwitches 7 = .ok (.putfield 45, 3) := by decide +kernel
theorem dX1_grantSwitches_10 : decode cX1_grantSwitches 10 = .ok (.aload_n 0, 1) := by decide +kernel
theorem dX1_grantSwitches_11 : decode cX1_grantSwitches 11 = .ok (.invokevirtual 114, 3) := by decide +kernel
theorem dX1_grantSwitches_14 : decode cX1_grantSwitches 14 = .ok (.istore_n 1, 1) := by decide +kernel
theorem dX1_grantSwitches_15 : decode cX1_grantSwitches 15 = .ok (.bipush 8, 2) := by decide +kernel
theorem dX1_grantSwitches_17 : decode cX1_grantSwitches 17 = .ok (.istore_n 2, 1) := by decide +kernel
theorem dX1_grantSwitches_18 : decode cX1_grantSwitches 18 = .ok (.iload_n 2, 1) := by decide +kernel
theorem dX1_grantSwitches_19 : decode cX1_grantSwitches 19 = .ok (.iconst 1, 1) := by decide +kernel
theorem dX1_grantSwitches_20 : decode cX1_grantSwitches 20 = .ok (.if_icmp .lt 44, 3) := by decide +kernel
theorem dX1_grantSwitches_23 : decode cX1_grantSwitches 23 = .ok (.iconst 0, 1) := by decide +kernel
theorem dX1_grantSwitches_24 : decode cX1_grantSwitches 24 = .ok (.istore_n 3, 1) := by decide +kernel
theorem dX1_grantSwitches_25 : decode cX1_grantSwitches 25 = .ok (.iload_n 3, 1) := by decide +kernel
theorem dX1_grantSwitches_26 : decode cX1_grantSwitches 26 = .ok (.aload_n 0, 1) := by decide +kernel
theorem dX1_grantSwitches_27 : decode cX1_grantSwitches 27 = .ok (.getfield 12, 3) := by decide +kernel
theorem dX1_grantSwitches_30 : decode cX1_grantSwitches 30 = .ok (.getfield 55, 3) := by decide +kernel
theorem dX1_grantSwitches_33 : decode cX1_grantSwitches 33 = .ok (.if_icmp .ge 25, 3) := by decide +kernel
theorem dX1_grantSwitches_36 : decode cX1_grantSwitches 36 = .ok (.aload_n 0, 1) := by decide +kernel
theorem dX1_grantSwitches_37 : decode cX1_grantSwitches 37 = .ok (.iload_n 3, 1) := by decide +kernel
theorem dX1_grantSwitches_38 : decode cX1_grantSwitches 38 = .ok (.invokevirtual 118, 3) := by decide +kernel
theorem dX1_grantSwitches_41 : decode cX1_grantSwitches 41 = .ok (.iload_n 2, 1) := by decide +kernel
theorem dX1_grantSwitches_42 : decode cX1_grantSwitches 42 = .ok (.if_icmp .ne 10, 3) := by decide +kernel
theorem dX1_grantSwitches_45 : decode cX1_grantSwitches 45 = .ok (.aload_n 0, 1) := by decide +kernel
theorem dX1_grantSwitches_46 : decode cX1_grantSwitches 46 = .ok (.iload_n 3, 1) := by decide +kernel
theorem dX1_grantSwitches_47 : decode cX1_grantSwitches 47 = .ok (.iload_n 2, 1) := by decide +kernel
theorem dX1_grantSwitches_48 : decode cX1_grantSwitches 48 = .ok (.iload_n 1, 1) := by decide +kernel
theorem dX1_grantSwitches_49 : decode cX1_grantSwitches 49 = .ok (.invokevirtual 121, 3) := by decide +kernel
theorem dX1_grantSwitches_52 : decode cX1_grantSwitches 52 = .ok (.iinc 3 1, 3) := by decide +kernel
theorem dX1_grantSwitches_55 : decode cX1_grantSwitches 55 = .ok (.goto (-30), 3) := by decide +kernel
theorem dX1_grantSwitches_58 : decode cX1_grantSwitches 58 = .ok (.iinc 2 (-1), 3) := by decide +kernel
theorem dX1_grantSwitches_61 : decode cX1_grantSwitches 61 = .ok (.goto (-43), 3) := by decide +kernel
theorem dX1_grantSwitches_64 : decode cX1_grantSwitches 64 = .ok (.return_, 1) := by decide +kernel
set_option maxRecDepth 20000 in
theorem ggX1_isLockedOut_X1_requestAt : GoodIn wsX1_isLockedOut wsX1_requestAt := goodIn_r _ [6, 1, 7, 8, 9, 10, 11, 12, 13, 14, 15, 16, 17, 18, 19, 20, 21, 22, 23, 24, 25, 26, 27, 28, 29, 30, 31] (by decide +kernel) (by decide +kernel)
set_option maxRecDepth 20000 in
theorem gX1_isLockedOut_X1_requestAt : GoodIn wsX1_isLockedOut (wsV RX1 118 RX1 yX1_requestAt wsX1_requestAt) := goodIn_app (goodIn_of _ (by decide +kernel)) ggX1_isLockedOut_X1_requestAt
theorem dX1_isLockedOut_0 : decode cX1_isLockedOut 0 = .ok (.iconst 0, 1) := by decide +kernel
theorem dX1_isLockedOut_1 : decode cX1_isLockedOut 1 = .ok (.istore_n 1, 1) := by decide +kernel
theorem dX1_isLockedOut_2 : decode cX1_isLockedOut 2 = .ok (.iload_n 1, 1) := by decide +kernel
theorem dX1_isLockedOut_3 : decode cX1_isLockedOut 3 = .ok (.aload_n 0, 1) := by decide +kernel
theorem dX1_isLockedOut_4 : decode cX1_isLockedOut 4 = .ok (.getfield 12, 3) := by decide +kernel
theorem dX1_isLockedOut_7 : decode cX1_isLockedOut 7 = .ok (.getfield 55, 3) := by decide +kernel
theorem dX1_isLockedOut_10 : decode cX1_isLockedOut 10 = .ok (.if_icmp .ge 21, 3) := by decide +kernel
theorem dX1_isLockedOut_13 : decode cX1_isLockedOut 13 = .ok (.aload_n 0, 1) := by decide +kernel
theorem dX1_isLockedOut_14 : decode cX1_isLockedOut 14 = .ok (.iload_n 1, 1) := by decide +kernel
theorem dX1_isLockedOut_15 : decode cX1_isLockedOut 15 = .ok (.invokevirtual 118, 3) := by decide +kernel
theorem dX1_isLockedOut_18 : decode cX1_isLockedOut 18 = .ok (.bipush 9, 2) := by decide +kernel
theorem dX1_isLockedOut_20 : decode cX1_isLockedOut 20 = .ok (.if_icmp .ne 5, 3) := by decide +kernel
theorem dX1_isLockedOut_23 : decode cX1_isLockedOut 23 = .ok (.iconst 1, 1) := by decide +kernel
theorem dX1_isLockedOut_24 : decode cX1_isLockedOut 24 = .ok (.ireturn, 1) := by decide +kernel
theorem dX1_isLockedOut_25 : decode cX1_isLockedOut 25 = .ok (.iinc 1 1, 3) := by decide +kernel
theorem dX1_isLockedOut_28 : decode cX1_isLockedOut 28 = .ok (.goto (-26), 3) := by decide +kernel
theorem dX1_isLockedOut_31 : decode cX1_isLockedOut 31 = .ok (.iconst 0, 1) := by decide +kernel
theorem dX1_isLockedOut_32 : decode cX1_isLockedOut 32 = .ok (.ireturn, 1) := by decide +kernel
theorem dX1_grant_0 : decode cX1_grant 0 = .ok (.iload_n 2, 1) := by decide +kernel
theorem dX1_grant_1 : decode cX1_grant 1 = .ok (.tableswitch 128 1 8 #[106, 73, 106, 73, 106, 47, 106, 47], 47) := by decide +kernel
theorem dX1_grant_48 : decode cX1_grant 48 = .ok (.iload_n 3, 1) := by decide +kernel
theorem dX1_grant_49 : decode cX1_grant 49 = .ok (.ifCond .ne 80, 3) := by decide +kernel
theorem dX1_grant_52 : decode cX1_grant 52 = .ok (.aload_n 0, 1) := by decide +kernel
theorem dX1_grant_53 : decode cX1_grant 53 = .ok (.getfield 52, 3) := by decide +kernel
theorem dX1_grant_56 : decode cX1_grant 56 = .ok (.ifCond .ne 73, 3) := by decide +kernel
theorem dX1_grant_59 : decode cX1_grant 59 = .ok (.aload_n 0, 1) := by decide +kernel
theorem dX1_grant_60 : decode cX1_grant 60 = .ok (.dup, 1) := by decide +kernel
theorem dX1_grant_61 : decode cX1_grant 61 = .ok (.getfield 45, 3) := by decide +kernel
theorem dX1_grant_64 : decode cX1_grant 64 = .ok (.iconst 1, 1) := by decide +kernel
theorem dX1_grant_65 : decode cX1_grant 65 = .ok (.iload_n 1, 1) := by decide +kernel
theorem dX1_grant_66 : decode cX1_grant 66 = .ok (.ishl, 1) := by decide +kernel
theorem dX1_grant_67 : decode cX1_grant 67 = .ok (.ior, 1) := by decide +kernel
theorem dX1_grant_68 : decode cX1_grant 68 = .ok (.putfield 45, 3) := by decide +kernel
theorem dX1_grant_71 : decode cX1_grant 71 = .ok (.goto 58, 3) := by decide +kernel
theorem dX1_grant_74 : decode cX1_grant 74 = .ok (.iload_n 3, 1) := by decide +kernel
theorem dX1_grant_75 : decode cX1_grant 75 = .ok (.ifCond .ne 54, 3) := by decide +kernel
theorem dX1_grant_78 : decode cX1_grant 78 = .ok (.aload_n 0, 1) := by decide +kernel
theorem dX1_grant_79 : decode cX1_grant 79 = .ok (.getfield 52, 3) := by decide +kernel
theorem dX1_grant_82 : decode cX1_grant 82 = .ok (.ifCond .ne 47, 3) := by decide +kernel
theorem dX1_grant_85 : decode cX1_grant 85 = .ok (.aload_n 0, 1) := by decide +kernel
theorem dX1_grant_86 : decode cX1_grant 86 = .ok (.getfield 45, 3) := by decide +kernel
theorem dX1_grant_89 : decode cX1_grant 89 = .ok (.ifCond .ne 40, 3) := by decide +kernel
theorem dX1_grant_92 : decode cX1_grant 92 = .ok (.aload_n 0, 1) := by decide +kernel
theorem dX1_grant_93 : decode cX1_grant 93 = .ok (.dup, 1) := by decide +kernel
theorem dX1_grant_94 : decode cX1_grant 94 = .ok (.getfield 45, 3) := by decide +kernel
theorem dX1_grant_97 : decode cX1_grant 97 = .ok (.iconst 1, 1) := by decide +kernel
theorem dX1_grant_98 : decode cX1_grant 98 = .ok (.iload_n 1, 1) := by decide +kernel
theorem dX1_grant_99 : decode cX1_grant 99 = .ok (.ishl, 1) := by decide +kernel
theorem dX1_grant_100 : decode cX1_grant 100 = .ok (.ior, 1) := by decide +kernel
theorem dX1_grant_101 : decode cX1_grant 101 = .ok (.putfield 45, 3) := by decide +kernel
theorem dX1_grant_104 : decode cX1_grant 104 = .ok (.goto 25, 3) := by decide +kernel
theorem dX1_grant_107 : decode cX1_grant 107 = .ok (.aload_n 0, 1) := by decide +kernel
theorem dX1_grant_108 : decode cX1_grant 108 = .ok (.getfield 45, 3) := by decide +kernel
theorem dX1_grant_111 : decode cX1_grant 111 = .ok (.ifCond .ne 18, 3) := by decide +kernel
theorem dX1_grant_114 : decode cX1_grant 114 = .ok (.aload_n 0, 1) := by decide +kernel
theorem dX1_grant_115 : decode cX1_grant 115 = .ok (.dup, 1) := by decide +kernel
theorem dX1_grant_116 : decode cX1_grant 116 = .ok (.getfield 52, 3) := by decide +kernel
theorem dX1_grant_119 : decode cX1_grant 119 = .ok (.iconst 1, 1) := by decide +kernel
theorem dX1_grant_120 : decode cX1_grant 120 = .ok (.iload_n 1, 1) := by decide +kernel
theorem dX1_grant_121 : decode cX1_grant 121 = .ok (.ishl, 1) := by decide +kernel
theorem dX1_grant_122 : decode cX1_grant 122 = .ok (.ior, 1) := by decide +kernel
theorem dX1_grant_123 : decode cX1_grant 123 = .ok (.putfield 52, 3) := by decide +kernel
theorem dX1_grant_126 : decode cX1_grant 126 = .ok (.goto 3, 3) := by decide +kernel
theorem dX1_grant_129 : decode cX1_grant 129 = .ok (.return_, 1) := by decide +kernel
set_option maxRecDepth 20000 in
theorem ggX1_dropWaitsWithoutSwitch_X1_requestAt : GoodIn wsX1_dropWaitsWithoutSwitch wsX1_requestAt := goodIn_r _ [7, 1, 8, 2, 9, 10, 11, 12, 13, 14, 15, 25, 26, 27, 28, 29, 30, 31, 32, 33, 34, 35, 36, 37, 38, 39, 40] (by decide +kernel) (by decide +kernel)
set_option maxRecDepth 20000 in
theorem gX1_dropWaitsWithoutSwitch_X1_requestAt : GoodIn wsX1_dropWaitsWithoutSwitch (wsV RX1 118 RX1 yX1_requestAt wsX1_requestAt) := goodIn_app (goodIn_of _ (by decide +kernel)) ggX1_dropWaitsWithoutSwitch_X1_requestAt
set_option maxRecDepth 20000 in
theorem ggX1_dropWaitsWithoutSwitch_X1_switchAt : GoodIn wsX1_dropWaitsWithoutSwitch wsX1_switchAt := goodIn_r _ [19, 20, 21, 22, 23, 24, 25, 26, 27, 28, 29, 30, 31, 32, 33, 34, 35, 36, 37, 38] (by decide +kernel) (by decide +kernel)
set_option maxRecDepth 20000 in
theorem gX1_dropWaitsWithoutSwitch_X1_switchAt : GoodIn wsX1_dropWaitsWithoutSwitch (wsV RX1 111 RX1 yX1_switchAt wsX1_switchAt) := goodIn_app (goodIn_of _ (by decide +kernel)) ggX1_dropWaitsWithoutSwitch_X1_switchAt
theorem dX1_dropWaitsWithoutSwitch_0 : decode cX1_dropWaitsWithoutSwitch 0 = .ok (.iconst 0, 1) := by decide +kernel
theorem dX1_dropWaitsWithoutSwitch_1 : decode cX1_dropWaitsWithoutSwitch 1 = .ok (.istore_n 1, 1) := by decide +kernel
theorem dX1_dropWaitsWithoutSwitch_2 : decode cX1_dropWaitsWithoutSwitch 2 = .ok (.iload_n 1, 1) := by decide +kernel
theorem dX1_dropWaitsWithoutSwitch_3 : decode cX1_dropWaitsWithoutSwitch 3 = .ok (.aload_n 0, 1) := by decide +kernel
theorem dX1_dropWaitsWithoutSwitch_4 : decode cX1_dropWaitsWithoutSwitch 4 = .ok (.getfield 12, 3) := by decide +kernel
theorem dX1_dropWaitsWithoutSwitch_7 : decode cX1_dropWaitsWithoutSwitch 7 = .ok (.getfield 55, 3) := by decide +kernel
theorem dX1_dropWaitsWithoutSwitch_10 : decode cX1_dropWaitsWithoutSwitch 10 = .ok (.if_icmp .ge 50, 3) := by decide +kernel
theorem dX1_dropWaitsWithoutSwitch_13 : decode cX1_dropWaitsWithoutSwitch 13 = .ok (.aload_n 0, 1) := by decide +kernel
theorem dX1_dropWaitsWithoutSwitch_14 : decode cX1_dropWaitsWithoutSwitch 14 = .ok (.iload_n 1, 1) := by decide +kernel
theorem dX1_dropWaitsWithoutSwitch_15 : decode cX1_dropWaitsWithoutSwitch 15 = .ok (.invokevirtual 118, 3) := by decide +kernel
theorem dX1_dropWaitsWithoutSwitch_18 : decode cX1_dropWaitsWithoutSwitch 18 = .ok (.istore_n 2, 1) := by decide +kernel
theorem dX1_dropWaitsWithoutSwitch_19 : decode cX1_dropWaitsWithoutSwitch 19 = .ok (.iload_n 2, 1) := by decide +kernel
theorem dX1_dropWaitsWithoutSwitch_20 : decode cX1_dropWaitsWithoutSwitch 20 = .ok (.iconst 1, 1) := by decide +kernel
theorem dX1_dropWaitsWithoutSwitch_21 : decode cX1_dropWaitsWithoutSwitch 21 = .ok (.if_icmp .eq 8, 3) := by decide +kernel
theorem dX1_dropWaitsWithoutSwitch_24 : decode cX1_dropWaitsWithoutSwitch 24 = .ok (.iload_n 2, 1) := by decide +kernel
theorem dX1_dropWaitsWithoutSwitch_25 : decode cX1_dropWaitsWithoutSwitch 25 = .ok (.iconst 2, 1) := by decide +kernel
theorem dX1_dropWaitsWithoutSwitch_26 : decode cX1_dropWaitsWithoutSwitch 26 = .ok (.if_icmp .ne 7, 3) := by decide +kernel
theorem dX1_dropWaitsWithoutSwitch_29 : decode cX1_dropWaitsWithoutSwitch 29 = .ok (.iconst 1, 1) := by decide +kernel
theorem dX1_dropWaitsWithoutSwitch_30 : decode cX1_dropWaitsWithoutSwitch 30 = .ok (.goto 4, 3) := by decide +kernel
theorem dX1_dropWaitsWithoutSwitch_33 : decode cX1_dropWaitsWithoutSwitch 33 = .ok (.iconst 0, 1) := by decide +kernel
theorem dX1_dropWaitsWithoutSwitch_34 : decode cX1_dropWaitsWithoutSwitch 34 = .ok (.istore_n 3, 1) := by decide +kernel
theorem dX1_dropWaitsWithoutSwitch_35 : decode cX1_dropWaitsWithoutSwitch 35 = .ok (.iload_n 3, 1) := by decide +kernel
theorem dX1_dropWaitsWithoutSwitch_36 : decode cX1_dropWaitsWithoutSwitch 36 = .ok (.ifCond .eq 18, 3) := by decide +kernel
theorem dX1_dropWaitsWithoutSwitch_39 : decode cX1_dropWaitsWithoutSwitch 39 = .ok (.aload_n 0, 1) := by decide +kernel
theorem dX1_dropWaitsWithoutSwitch_40 : decode cX1_dropWaitsWithoutSwitch 40 = .ok (.iload_n 1, 1) := by decide +kernel
theorem dX1_dropWaitsWithoutSwitch_41 : decode cX1_dropWaitsWithoutSwitch 41 = .ok (.invokevirtual 111, 3) := by decide +kernel
theorem dX1_dropWaitsWithoutSwitch_44 : decode cX1_dropWaitsWithoutSwitch 44 = .ok (.ifCond .ne 10, 3) := by decide +kernel
theorem dX1_dropWaitsWithoutSwitch_47 : decode cX1_dropWaitsWithoutSwitch 47 = .ok (.aload_n 0, 1) := by decide +kernel
theorem dX1_dropWaitsWithoutSwitch_48 : decode cX1_dropWaitsWithoutSwitch 48 = .ok (.getfield 22, 3) := by decide +kernel
theorem dX1_dropWaitsWithoutSwitch_51 : decode cX1_dropWaitsWithoutSwitch 51 = .ok (.iload_n 1, 1) := by decide +kernel
theorem dX1_dropWaitsWithoutSwitch_52 : decode cX1_dropWaitsWithoutSwitch 52 = .ok (.iconst 0, 1) := by decide +kernel
theorem dX1_dropWaitsWithoutSwitch_53 : decode cX1_dropWaitsWithoutSwitch 53 = .ok (.iastore, 1) := by decide +kernel
theorem dX1_dropWaitsWithoutSwitch_54 : decode cX1_dropWaitsWithoutSwitch 54 = .ok (.iinc 1 1, 3) := by decide +kernel
theorem dX1_dropWaitsWithoutSwitch_57 : decode cX1_dropWaitsWithoutSwitch 57 = .ok (.goto (-55), 3) := by decide +kernel
theorem dX1_dropWaitsWithoutSwitch_60 : decode cX1_dropWaitsWithoutSwitch 60 = .ok (.return_, 1) := by decide +kernel
set_option maxRecDepth 20000 in
theorem ggX1_findSegments_X5_contains : GoodIn wsX1_findSegments wsX5_contains := goodIn_r _ [6] (by decide +kernel) (by decide +kernel)
set_option maxRecDepth 20000 in
theorem gX1_findSegments_X5_contains_n48 : GoodIn wsX1_findSegments (wsX5_contains) := ggX1_findSegments_X5_contains
theorem dX1_findSegments_0 : decode cX1_findSegments 0 = .ok (.iconst 0, 1) := by decide +kernel
theorem dX1_findSegments_1 : decode cX1_findSegments 1 = .ok (.istore_n 1, 1) := by decide +kernel
theorem dX1_findSegments_2 : decode cX1_findSegments 2 = .ok (.iconst 0, 1) := by decide +kernel
theorem dX1_findSegments_3 : decode cX1_findSegments 3 = .ok (.istore_n 2, 1) := by decide +kernel
theorem dX1_findSegments_4 : decode cX1_findSegments 4 = .ok (.iload_n 2, 1) := by decide +kernel
theorem dX1_findSegments_5 : decode cX1_findSegments 5 = .ok (.aload_n 0, 1) := by decide +kernel
theorem dX1_findSegments_6 : decode cX1_findSegments 6 = .ok (.getfield 12, 3) := by decide +kernel
theorem dX1_findSegments_9 : decode cX1_findSegments 9 = .ok (.getfield 55, 3) := by decide +kernel
theorem dX1_findSegments_12 : decode cX1_findSegments 12 = .ok (.if_icmp .ge 35, 3) := by decide +kernel
theorem dX1_findSegments_15 : decode cX1_findSegments 15 = .ok (.iload_n 2, 1) := by decide +kernel
theorem dX1_findSegments_16 : decode cX1_findSegments 16 = .ok (.ifCond .le 18, 3) := by decide +kernel
theorem dX1_findSegments_19 : decode cX1_findSegments 19 = .ok (.aload_n 0, 1) := by decide +kernel
theorem dX1_findSegments_20 : decode cX1_findSegments 20 = .ok (.getfield 45, 3) := by decide +kernel
theorem dX1_findSegments_23 : decode cX1_findSegments 23 = .ok (.iload_n 2, 1) := by decide +kernel
theorem dX1_findSegments_24 : decode cX1_findSegments 24 = .ok (.iconst 1, 1) := by decide +kernel
theorem dX1_findSegments_25 : decode cX1_findSegments 25 = .ok (.isub, 1) := by decide +kernel
theorem dX1_findSegments_26 : decode cX1_findSegments 26 = .ok (.invokestatic 48, 3) := by decide +kernel
theorem dX1_findSegments_29 : decode cX1_findSegments 29 = .ok (.ifCond .eq 5, 3) := by decide +kernel
theorem dX1_findSegments_32 : decode cX1_findSegments 32 = .ok (.iload_n 2, 1) := by decide +kernel
theorem dX1_findSegments_33 : decode cX1_findSegments 33 = .ok (.istore_n 1, 1) := by decide +kernel
theorem dX1_findSegments_34 : decode cX1_findSegments 34 = .ok (.aload_n 0, 1) := by decide +kernel
theorem dX1_findSegments_35 : decode cX1_findSegments 35 = .ok (.getfield 35, 3) := by decide +kernel
theorem dX1_findSegments_38 : decode cX1_findSegments 38 = .ok (.iload_n 2, 1) := by decide +kernel
theorem dX1_findSegments_39 : decode cX1_findSegments 39 = .ok (.iload_n 1, 1) := by decide +kernel
theorem dX1_findSegments_40 : decode cX1_findSegments 40 = .ok (.iastore, 1) := by decide +kernel
theorem dX1_findSegments_41 : decode cX1_findSegments 41 = .ok (.iinc 2 1, 3) := by decide +kernel
theorem dX1_findSegments_44 : decode cX1_findSegments 44 = .ok (.goto (-40), 3) := by decide +kernel
theorem dX1_findSegments_47 : decode cX1_findSegments 47 = .ok (.aload_n 0, 1) := by decide +kernel
theorem dX1_findSegments_48 : decode cX1_findSegments 48 = .ok (.getfield 45, 3) := by decide +kernel
theorem dX1_findSegments_51 : decode cX1_findSegments 51 = .ok (.aload_n 0, 1) := by decide +kernel
theorem dX1_findSegments_52 : decode cX1_findSegments 52 = .ok (.getfield 12, 3) := by decide +kernel
theorem dX1_findSegments_55 : decode cX1_findSegments 55 = .ok (.getfield 55, 3) := by decide +kernel
theorem dX1_findSegments_58 : decode cX1_findSegments 58 = .ok (.iconst 1, 1) := by decide +kernel
theorem dX1_findSegments_59 : decode cX1_findSegments 59 = .ok (.isub, 1) := by decide +kernel
theorem dX1_findSegments_60 : decode cX1_findSegments 60 = .ok (.invokestatic 48, 3) := by decide +kernel
theorem dX1_findSegments_63 : decode cX1_findSegments 63 = .ok (.ifCond .eq 4, 3) := by decide +kernel
theorem dX1_findSegments_66 : decode cX1_findSegments 66 = .ok (.return_, 1) := by decide +kernel
theorem dX1_findSegments_67 : decode cX1_findSegments 67 = .ok (.iload_n 1, 1) := by decide +kernel
theorem dX1_findSegments_68 : decode cX1_findSegments 68 = .ok (.istore_n 2, 1) := by decide +kernel
theorem dX1_findSegments_69 : decode cX1_findSegments 69 = .ok (.iload_n 2, 1) := by decide +kernel
theorem dX1_findSegments_70 : decode cX1_findSegments 70 = .ok (.aload_n 0, 1) := by decide +kernel
theorem dX1_findSegments_71 : decode cX1_findSegments 71 = .ok (.getfield 12, 3) := by decide +kernel
theorem dX1_findSegments_74 : decode cX1_findSegments 74 = .ok (.getfield 55, 3) := by decide +kernel
theorem dX1_findSegments_77 : decode cX1_findSegments 77 = .ok (.if_icmp .ge 16, 3) := by decide +kernel
theorem dX1_findSegments_80 : decode cX1_findSegments 80 = .ok (.aload_n 0, 1) := by decide +kernel
theorem dX1_findSegments_81 : decode cX1_findSegments 81 = .ok (.getfield 35, 3) := by decide +kernel
theorem dX1_findSegments_84 : decode cX1_findSegments 84 = .ok (.iload_n 2, 1) := by decide +kernel
theorem dX1_findSegments_85 : decode cX1_findSegments 85 = .ok (.iconst 0, 1) := by decide +kernel
theorem dX1_findSegments_86 : decode cX1_findSegments 86 = .ok (.iastore, 1) := by decide +kernel
theorem dX1_findSegments_87 : decode cX1_findSegments 87 = .ok (.iinc 2 1, 3) := by decide +kernel
theorem dX1_findSegments_90 : decode cX1_findSegments 90 = .ok (.goto (-21), 3) := by decide +kernel
theorem dX1_findSegments_93 : decode cX1_findSegments 93 = .ok (.return_, 1) := by decide +kernel
set_option maxRecDepth 20000 in
theorem ggX1_startAnew_X5_clearRow : GoodIn wsX1_startAnew wsX5_clearRow := goodIn_r _ [15] (by decide +kernel) (by decide +kernel)
set_option maxRecDepth 20000 in
theorem gX1_startAnew_X5_clearRow_n128 : GoodIn wsX1_startAnew (wsX5_clearRow) := ggX1_startAnew_X5_clearRow
theorem dX1_startAnew_0 : decode cX1_startAnew 0 = .ok (.aload_n 0, 1) := by decide +kernel
theorem dX1_startAnew_1 : decode cX1_startAnew 1 = .ok (.getfield 12, 3) := by decide +kernel
theorem dX1_startAnew_4 : decode cX1_startAnew 4 = .ok (.iload_n 1, 1) := by decide +kernel
theorem dX1_startAnew_5 : decode cX1_startAnew 5 = .ok (.putfield 55, 3) := by decide +kernel
theorem dX1_startAnew_8 : decode cX1_startAnew 8 = .ok (.aload_n 0, 1) := by decide +kernel
theorem dX1_startAnew_9 : decode cX1_startAnew 9 = .ok (.getfield 12, 3) := by decide +kernel
theorem dX1_startAnew_12 : decode cX1_startAnew 12 = .ok (.iload_n 2, 1) := by decide +kernel
theorem dX1_startAnew_13 : decode cX1_startAnew 13 = .ok (.putfield 125, 3) := by decide +kernel
theorem dX1_startAnew_16 : decode cX1_startAnew 16 = .ok (.aload_n 0, 1) := by decide +kernel
theorem dX1_startAnew_17 : decode cX1_startAnew 17 = .ok (.iconst 0, 1) := by decide +kernel
theorem dX1_startAnew_18 : decode cX1_startAnew 18 = .ok (.putfield 84, 3) := by decide +kernel
theorem dX1_startAnew_21 : decode cX1_startAnew 21 = .ok (.aload_n 0, 1) := by decide +kernel
theorem dX1_startAnew_22 : decode cX1_startAnew 22 = .ok (.iconst 0, 1) := by decide +kernel
theorem dX1_startAnew_23 : decode cX1_startAnew 23 = .ok (.putfield 90, 3) := by decide +kernel
theorem dX1_startAnew_26 : decode cX1_startAnew 26 = .ok (.aload_n 0, 1) := by decide +kernel
theorem dX1_startAnew_27 : decode cX1_startAnew 27 = .ok (.iconst 0, 1) := by decide +kernel
theorem dX1_startAnew_28 : decode cX1_startAnew 28 = .ok (.putfield 78, 3) := by decide +kernel
theorem dX1_startAnew_31 : decode cX1_startAnew 31 = .ok (.aload_n 0, 1) := by decide +kernel
theorem dX1_startAnew_32 : decode cX1_startAnew 32 = .ok (.iconst 0, 1) := by decide +kernel
theorem dX1_startAnew_33 : decode cX1_startAnew 33 = .ok (.putfield 87, 3) := by decide +kernel
theorem dX1_startAnew_36 : decode cX1_startAnew 36 = .ok (.aload_n 0, 1) := by decide +kernel
theorem dX1_startAnew_37 : decode cX1_startAnew 37 = .ok (.iconst 0, 1) := by decide +kernel
theorem dX1_startAnew_38 : decode cX1_startAnew 38 = .ok (.putfield 93, 3) := by decide +kernel
theorem dX1_startAnew_41 : decode cX1_startAnew 41 = .ok (.aload_n 0, 1) := by decide +kernel
theorem dX1_startAnew_42 : decode cX1_startAnew 42 = .ok (.iconst 0, 1) := by decide +kernel
theorem dX1_startAnew_43 : decode cX1_startAnew 43 = .ok (.putfield 52, 3) := by decide +kernel
theorem dX1_startAnew_46 : decode cX1_startAnew 46 = .ok (.aload_n 0, 1) := by decide +kernel
theorem dX1_startAnew_47 : decode cX1_startAnew 47 = .ok (.iconst 0, 1) := by decide +kernel
theorem dX1_startAnew_48 : decode cX1_startAnew 48 = .ok (.putfield 45, 3) := by decide +kernel
theorem dX1_startAnew_51 : decode cX1_startAnew 51 = .ok (.aload_n 0, 1) := by decide +kernel
theorem dX1_startAnew_52 : decode cX1_startAnew 52 = .ok (.getfield 18, 3) := by decide +kernel
theorem dX1_startAnew_55 : decode cX1_startAnew 55 = .ok (.invokestatic 128, 3) := by decide +kernel
theorem dX1_startAnew_58 : decode cX1_startAnew 58 = .ok (.aload_n 0, 1) := by decide +kernel
theorem dX1_startAnew_59 : decode cX1_startAnew 59 = .ok (.getfield 22, 3) := by decide +kernel
theorem dX1_startAnew_62 : decode cX1_startAnew 62 = .ok (.invokestatic 128, 3) := by decide +kernel
theorem dX1_startAnew_65 : decode cX1_startAnew 65 = .ok (.aload_n 0, 1) := by decide +kernel
theorem dX1_startAnew_66 : decode cX1_startAnew 66 = .ok (.getfield 32, 3) := by decide +kernel
theorem dX1_startAnew_69 : decode cX1_startAnew 69 = .ok (.invokestatic 128, 3) := by decide +kernel
theorem dX1_startAnew_72 : decode cX1_startAnew 72 = .ok (.aload_n 0, 1) := by decide +kernel
theorem dX1_startAnew_73 : decode cX1_startAnew 73 = .ok (.getfield 35, 3) := by decide +kernel
theorem dX1_startAnew_76 : decode cX1_startAnew 76 = .ok (.invokestatic 128, 3) := by decide +kernel
theorem dX1_startAnew_79 : decode cX1_startAnew 79 = .ok (.return_, 1) := by decide +kernel
set_option maxRecDepth 20000 in
theorem ggX1_copyFrom_X5_copyRow : GoodIn wsX1_copyFrom wsX5_copyRow := goodIn_r _ [17] (by decide +kernel) (by decide +kernel)
set_option maxRecDepth 20000 in
theorem gX1_copyFrom_X5_copyRow_n132 : GoodIn wsX1_copyFrom (wsX5_copyRow) := ggX1_copyFrom_X5_copyRow
theorem dX1_copyFrom_0 : decode cX1_copyFrom 0 = .ok (.aload_n 0, 1) := by decide +kernel
theorem dX1_copyFrom_1 : decode cX1_copyFrom 1 = .ok (.getfield 12, 3) := by decide +kernel
theorem dX1_copyFrom_4 : decode cX1_copyFrom 4 = .ok (.aload_n 1, 1) := by decide +kernel
theorem dX1_copyFrom_5 : decode cX1_copyFrom 5 = .ok (.getfield 12, 3) := by decide +kernel
theorem dX1_copyFrom_8 : decode cX1_copyFrom 8 = .ok (.getfield 55, 3) := by decide +kernel
theorem dX1_copyFrom_11 : decode cX1_copyFrom 11 = .ok (.putfield 55, 3) := by decide +kernel
theorem dX1_copyFrom_14 : decode cX1_copyFrom 14 = .ok (.aload_n 0, 1) := by decide +kernel
theorem dX1_copyFrom_15 : decode cX1_copyFrom 15 = .ok (.getfield 12, 3) := by decide +kernel
theorem dX1_copyFrom_18 : decode cX1_copyFrom 18 = .ok (.aload_n 1, 1) := by decide +kernel
theorem dX1_copyFrom_19 : decode cX1_copyFrom 19 = .ok (.getfield 12, 3) := by decide +kernel
theorem dX1_copyFrom_22 : decode cX1_copyFrom 22 = .ok (.getfield 125, 3) := by decide +kernel
theorem dX1_copyFrom_25 : decode cX1_copyFrom 25 = .ok (.putfield 125, 3) := by decide +kernel
theorem dX1_copyFrom_28 : decode cX1_copyFrom 28 = .ok (.aload_n 0, 1) := by decide +kernel
theorem dX1_copyFrom_29 : decode cX1_copyFrom 29 = .ok (.aload_n 1, 1) := by decide +kernel
theorem dX1_copyFrom_30 : decode cX1_copyFrom 30 = .ok (.getfield 84, 3) := by decide +kernel
theorem dX1_copyFrom_33 : decode cX1_copyFrom 33 = .ok (.putfield 84, 3) := by decide +kernel
theorem dX1_copyFrom_36 : decode cX1_copyFrom 36 = .ok (.aload_n 0, 1) := by decide +kernel
theorem dX1_copyFrom_37 : decode cX1_copyFrom 37 = .ok (.aload_n 1, 1) := by decide +kernel
theorem dX1_copyFrom_38 : decode cX1_copyFrom 38 = .ok (.getfield 90, 3) := by decide +kernel
theorem dX1_copyFrom_41 : decode cX1_copyFrom 41 = .ok (.putfield 90, 3) := by decide +kernel
theorem dX1_copyFrom_44 : decode cX1_copyFrom 44 = .ok (.aload_n 0, 1) := by decide +kernel
theorem dX1_copyFrom_45 : decode cX1_copyFrom 45 = .ok (.aload_n 1, 1) := by decide +kernel
theorem dX1_copyFrom_46 : decode cX1_copyFrom 46 = .ok (.getfield 78, 3) := by decide +kernel
theorem dX1_copyFrom_49 : decode cX1_copyFrom 49 = .ok (.putfield 78, 3) := by decide +kernel
theorem dX1_copyFrom_52 : decode cX1_copyFrom 52 = .ok (.aload_n 0, 1) := by decide +kernel
theorem dX1_copyFrom_53 : decode cX1_copyFrom 53 = .ok (.aload_n 1, 1) := by decide +kernel
theorem dX1_copyFrom_54 : decode cX1_copyFrom 54 = .ok (.getfield 28, 3) := by decide +kernel
theorem dX1_copyFrom_57 : decode cX1_copyFrom 57 = .ok (.putfield 28, 3) := by decide +kernel
theorem dX1_copyFrom_60 : decode cX1_copyFrom 60 = .ok (.aload_n 0, 1) := by decide +kernel
theorem dX1_copyFrom_61 : decode cX1_copyFrom 61 = .ok (.aload_n 1, 1) := by decide +kernel
theorem dX1_copyFrom_62 : decode cX1_copyFrom 62 = .ok (.getfield 87, 3) := by decide +kernel
theorem dX1_copyFrom_65 : decode cX1_copyFrom 65 = .ok (.putfield 87, 3) := by decide +kernel
theorem dX1_copyFrom_68 : decode cX1_copyFrom 68 = .ok (.aload_n 0, 1) := by decide +kernel
theorem dX1_copyFrom_69 : decode cX1_copyFrom 69 = .ok (.aload_n 1, 1) := by decide +kernel
theorem dX1_copyFrom_70 : decode cX1_copyFrom 70 = .ok (.getfield 93, 3) := by decide +kernel
theorem dX1_copyFrom_73 : decode cX1_copyFrom 73 = .ok (.putfield 93, 3) := by decide +kernel
theorem dX1_copyFrom_76 : decode cX1_copyFrom 76 = .ok (.aload_n 0, 1) := by decide +kernel
theorem dX1_copyFrom_77 : decode cX1_copyFrom 77 = .ok (.aload_n 1, 1) := by decide +kernel
theorem dX1_copyFrom_78 : decode cX1_copyFrom 78 = .ok (.getfield 52, 3) := by decide +kernel
theorem dX1_copyFrom_81 : decode cX1_copyFrom 81 = .ok (.putfield 52, 3) := by decide +kernel
theorem dX1_copyFrom_84 : decode cX1_copyFrom 84 = .ok (.aload_n 0, 1) := by decide +kernel
theorem dX1_copyFrom_85 : decode cX1_copyFrom 85 = .ok (.aload_n 1, 1) := by decide +kernel
theorem dX1_copyFrom_86 : decode cX1_copyFrom 86 = .ok (.getfield 45, 3) := by decide +kernel
theorem dX1_copyFrom_89 : decode cX1_copyFrom 89 = .ok (.putfield 45, 3) := by decide +kernel
theorem dX1_copyFrom_92 : decode cX1_copyFrom 92 = .ok (.aload_n 1, 1) := by decide +kernel
theorem dX1_copyFrom_93 : decode cX1_copyFrom 93 = .ok (.getfield 18, 3) := by decide +kernel
theorem dX1_copyFrom_96 : decode cX1_copyFrom 96 = .ok (.aload_n 0, 1) := by decide +kernel
theorem dX1_copyFrom_97 : decode cX1_copyFrom 97 = .ok (.getfield 18, 3) := by decide +kernel
theorem dX1_copyFrom_100 : decode cX1_copyFrom 100 = .ok (.invokestatic 132, 3) := by decide +kernel
theorem dX1_copyFrom_103 : decode cX1_copyFrom 103 = .ok (.aload_n 1, 1) := by decide +kernel
theorem dX1_copyFrom_104 : decode cX1_copyFrom 104 = .ok (.getfield 22, 3) := by decide +kernel
theorem dX1_copyFrom_107 : decode cX1_copyFrom 107 = .ok (.aload_n 0, 1) := by decide +kernel
theorem dX1_copyFrom_108 : decode cX1_copyFrom 108 = .ok (.getfield 22, 3) := by decide +kernel
theorem dX1_copyFrom_111 : decode cX1_copyFrom 111 = .ok (.invokestatic 132, 3) := by decide +kernel
theorem dX1_copyFrom_114 : decode cX1_copyFrom 114 = .ok (.aload_n 1, 1) := by decide +kernel
theorem dX1_copyFrom_115 : decode cX1_copyFrom 115 = .ok (.getfield 25, 3) := by decide +kernel
theorem dX1_copyFrom_118 : decode cX1_copyFrom 118 = .ok (.aload_n 0, 1) := by decide +kernel
theorem dX1_copyFrom_119 : decode cX1_copyFrom 119 = .ok (.getfield 25, 3) := by decide +kernel
theorem dX1_copyFrom_122 : decode cX1_copyFrom 122 = .ok (.invokestatic 132, 3) := by decide +kernel
theorem dX1_copyFrom_125 : decode cX1_copyFrom 125 = .ok (.aload_n 1, 1) := by decide +kernel
theorem dX1_copyFrom_126 : decode cX1_copyFrom 126 = .ok (.getfield 32, 3) := by decide +kernel
theorem dX1_copyFrom_129 : decode cX1_copyFrom 129 = .ok (.aload_n 0, 1) := by decide +kernel
theorem dX1_copyFrom_130 : decode cX1_copyFrom 130 = .ok (.getfield 32, 3) := by decide +kernel
theorem dX1_copyFrom_133 : decode cX1_copyFrom 133 = .ok (.invokestatic 132, 3) := by decide +kernel
theorem dX1_copyFrom_136 : decode cX1_copyFrom 136 = .ok (.aload_n 1, 1) := by decide +kernel
theorem dX1_copyFrom_137 : decode cX1_copyFrom 137 = .ok (.getfield 35, 3) := by decide +kernel
theorem dX1_copyFrom_140 : decode cX1_copyFrom 140 = .ok (.aload_n 0, 1) := by decide +kernel
theorem dX1_copyFrom_141 : decode cX1_copyFrom 141 = .ok (.getfield 35, 3) := by decide +kernel
theorem dX1_copyFrom_144 : decode cX1_copyFrom 144 = .ok (.invokestatic 132, 3) := by decide +kernel
theorem dX1_copyFrom_147 : decode cX1_copyFrom 147 = .ok (.return_, 1) := by decide +kernel
