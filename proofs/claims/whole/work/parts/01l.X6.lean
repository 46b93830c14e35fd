theorem dX6_normalState_21 : decode cX6_normalState 21 = .ok (.aload_n 0, 1) := by decide +kernel
theorem dX6_normalState_22 : decode cX6_normalState 22 = .ok (.aload_n 0, 1) := by decide +kernel
theorem dX6_normalState_23 : decode cX6_normalState 23 = .ok (.iload_n 1, 1) := by decide +kernel
theorem dX6_normalState_24 : decode cX6_normalState 24 = .ok (.iconst 2, 1) := by decide +kernel
theorem dX6_normalState_25 : decode cX6_normalState 25 = .ok (.invokevirtual 31, 3) := by decide +kernel
theorem dX6_normalState_28 : decode cX6_normalState 28 = .ok (.invokevirtual 108, 3) := by decide +kernel
theorem dX6_normalState_31 : decode cX6_normalState 31 = .ok (.if_icmp .eq 5, 3) := by decide +kernel
theorem dX6_normalState_34 : decode cX6_normalState 34 = .ok (.iconst 3, 1) := by decide +kernel
theorem dX6_normalState_35 : decode cX6_normalState 35 = .ok (.ireturn, 1) := by decide +kernel
theorem dX6_normalState_36 : decode cX6_normalState 36 = .ok (.aload_n 0, 1) := by decide +kernel
theorem dX6_normalState_37 : decode cX6_normalState 37 = .ok (.iload_n 1, 1) := by decide +kernel
theorem dX6_normalState_38 : decode cX6_normalState 38 = .ok (.invokevirtual 117, 3) := by decide +kernel
theorem dX6_normalState_41 : decode cX6_normalState 41 = .ok (.ifCond .eq 5, 3) := by decide +kernel
theorem dX6_normalState_44 : decode cX6_normalState 44 = .ok (.iconst 4, 1) := by decide +kernel
theorem dX6_normalState_45 : decode cX6_normalState 45 = .ok (.ireturn, 1) := by decide +kernel
theorem dX6_normalState_46 : decode cX6_normalState 46 = .ok (.iload_n 2, 1) := by decide +kernel
theorem dX6_normalState_47 : decode cX6_normalState 47 = .ok (.ifCond .eq 7, 3) := by decide +kernel
theorem dX6_normalState_50 : decode cX6_normalState 50 = .ok (.iconst 2, 1) := by decide +kernel
theorem dX6_normalState_51 : decode cX6_normalState 51 = .ok (.goto 17, 3) := by decide +kernel
theorem dX6_normalState_54 : decode cX6_normalState 54 = .ok (.aload_n 0, 1) := by decide +kernel
theorem dX6_normalState_55 : decode cX6_normalState 55 = .ok (.iload_n 1, 1) := by decide +kernel
theorem dX6_normalState_56 : decode cX6_normalState 56 = .ok (.iconst 1, 1) := by decide +kernel
theorem dX6_normalState_57 : decode cX6_normalState 57 = .ok (.invokevirtual 111, 3) := by decide +kernel
theorem dX6_normalState_60 : decode cX6_normalState 60 = .ok (.ifCond .eq 7, 3) := by decide +kernel
theorem dX6_normalState_63 : decode cX6_normalState 63 = .ok (.iconst 1, 1) := by decide +kernel
theorem dX6_normalState_64 : decode cX6_normalState 64 = .ok (.goto 4, 3) := by decide +kernel
theorem dX6_normalState_67 : decode cX6_normalState 67 = .ok (.iconst 0, 1) := by decide +kernel
theorem dX6_normalState_68 : decode cX6_normalState 68 = .ok (.ireturn, 1) := by decide +kernel
set_option maxRecDepth 20000 in
theorem ggX6_extraState_X6_someSwitch : GoodIn wsX6_extraState wsX6_someSwitch := goodIn_r _ [6, 1, 7, 8, 9, 5, 10, 11, 12, 13, 38, 39, 40, 41] (by decide +kernel) (by decide +kernel)
set_option maxRecDepth 20000 in
theorem gX6_extraState_X6_someSwitch : GoodIn wsX6_extraState (wsV RX6 85 RX6 yX6_someSwitch wsX6_someSwitch) := goodIn_app (goodIn_of _ (by decide +kernel)) ggX6_extraState_X6_someSwitch
set_option maxRecDepth 20000 in
theorem ggX6_extraState_X6_hasSwitch : GoodIn wsX6_extraState wsX6_hasSwitch := goodIn_r _ [17, 1, 18, 19, 20, 5, 21, 22, 23, 24, 25, 26, 27, 28, 29, 7, 8, 9, 10, 11, 12, 13, 38, 39, 40, 41] (by decide +kernel) (by decide +kernel)
set_option maxRecDepth 20000 in
theorem gX6_extraState_X6_hasSwitch : GoodIn wsX6_extraState (wsV RX6 111 RX6 yX6_hasSwitch wsX6_hasSwitch) := goodIn_app (goodIn_of _ (by decide +kernel)) ggX6_extraState_X6_hasSwitch
set_option maxRecDepth 20000 in
theorem ggX6_extraState_X6_isOn : GoodIn wsX6_extraState wsX6_isOn := goodIn_r _ [21, 22, 23, 24, 5, 25, 1, 26, 27, 28, 29, 38, 39, 40, 41] (by decide +kernel) (by decide +kernel)
set_option maxRecDepth 20000 in
theorem gX6_extraState_X6_isOn : GoodIn wsX6_extraState (wsV RX6 42 RX6 yX6_isOn wsX6_isOn) := goodIn_app (goodIn_of _ (by decide +kernel)) ggX6_extraState_X6_isOn
set_option maxRecDepth 20000 in
theorem ggX6_extraState_X6_isDown : GoodIn wsX6_extraState wsX6_isDown := goodIn_r _ [33, 1, 7, 8, 9, 5, 10, 11, 12, 13, 34, 35, 36, 37, 38, 39, 40, 41] (by decide +kernel) (by decide +kernel)
set_option maxRecDepth 20000 in
theorem gX6_extraState_X6_isDown : GoodIn wsX6_extraState (wsV RX6 73 RX6 yX6_isDown wsX6_isDown) := goodIn_app (goodIn_of _ (by decide +kernel)) ggX6_extraState_X6_isDown
theorem dX6_extraState_0 : decode cX6_extraState 0 = .ok (.aload_n 0, 1) := by decide +kernel
theorem dX6_extraState_1 : decode cX6_extraState 1 = .ok (.iconst 2, 1) := by decide +kernel
theorem dX6_extraState_2 : decode cX6_extraState 2 = .ok (.invokevirtual 85, 3) := by decide +kernel
theorem dX6_extraState_5 : decode cX6_extraState 5 = .ok (.ifCond .ne 12, 3) := by decide +kernel
theorem dX6_extraState_8 : decode cX6_extraState 8 = .ok (.aload_n 0, 1) := by decide +kernel
theorem dX6_extraState_9 : decode cX6_extraState 9 = .ok (.iload_n 1, 1) := by decide +kernel
theorem dX6_extraState_10 : decode cX6_extraState 10 = .ok (.iconst 1, 1) := by decide +kernel
theorem dX6_extraState_11 : decode cX6_extraState 11 = .ok (.invokevirtual 111, 3) := by decide +kernel
theorem dX6_extraState_14 : decode cX6_extraState 14 = .ok (.ifCond .eq 5, 3) := by decide +kernel
theorem dX6_extraState_17 : decode cX6_extraState 17 = .ok (.iconst 5, 1) := by decide +kernel
theorem dX6_extraState_18 : decode cX6_extraState 18 = .ok (.ireturn, 1) := by decide +kernel
theorem dX6_extraState_19 : decode cX6_extraState 19 = .ok (.iconst 0, 1) := by decide +kernel
theorem dX6_extraState_20 : decode cX6_extraState 20 = .ok (.istore_n 2, 1) := by decide +kernel
theorem dX6_extraState_21 : decode cX6_extraState 21 = .ok (.iload_n 2, 1) := by decide +kernel
theorem dX6_extraState_22 : decode cX6_extraState 22 = .ok (.aload_n 0, 1) := by decide +kernel
theorem dX6_extraState_23 : decode cX6_extraState 23 = .ok (.getfield 7, 3) := by decide +kernel
theorem dX6_extraState_26 : decode cX6_extraState 26 = .ok (.iconst 0, 1) := by decide +kernel
theorem dX6_extraState_27 : decode cX6_extraState 27 = .ok (.iaload, 1) := by decide +kernel
theorem dX6_extraState_28 : decode cX6_extraState 28 = .ok (.if_icmp .ge 29, 3) := by decide +kernel
theorem dX6_extraState_31 : decode cX6_extraState 31 = .ok (.aload_n 0, 1) := by decide +kernel
theorem dX6_extraState_32 : decode cX6_extraState 32 = .ok (.iload_n 1, 1) := by decide +kernel
theorem dX6_extraState_33 : decode cX6_extraState 33 = .ok (.iload_n 2, 1) := by decide +kernel
theorem dX6_extraState_34 : decode cX6_extraState 34 = .ok (.invokevirtual 42, 3) := by decide +kernel
theorem dX6_extraState_37 : decode cX6_extraState 37 = .ok (.ifCond .eq 14, 3) := by decide +kernel
theorem dX6_extraState_40 : decode cX6_extraState 40 = .ok (.aload_n 0, 1) := by decide +kernel
theorem dX6_extraState_41 : decode cX6_extraState 41 = .ok (.iload_n 2, 1) := by decide +kernel
theorem dX6_extraState_42 : decode cX6_extraState 42 = .ok (.iconst 1, 1) := by decide +kernel
theorem dX6_extraState_43 : decode cX6_extraState 43 = .ok (.invokevirtual 73, 3) := by decide +kernel
theorem dX6_extraState_46 : decode cX6_extraState 46 = .ok (.ifCond .eq 5, 3) := by decide +kernel
theorem dX6_extraState_49 : decode cX6_extraState 49 = .ok (.iconst 4, 1) := by decide +kernel
theorem dX6_extraState_50 : decode cX6_extraState 50 = .ok (.ireturn, 1) := by decide +kernel
theorem dX6_extraState_51 : decode cX6_extraState 51 = .ok (.iinc 2 1, 3) := by decide +kernel
theorem dX6_extraState_54 : decode cX6_extraState 54 = .ok (.goto (-33), 3) := by decide +kernel
theorem dX6_extraState_57 : decode cX6_extraState 57 = .ok (.iconst 0, 1) := by decide +kernel
theorem dX6_extraState_58 : decode cX6_extraState 58 = .ok (.ireturn, 1) := by decide +kernel
set_option maxRecDepth 20000 in
theorem ggX6_stateOf_X6_ofCircuit : GoodIn wsX6_stateOf wsX6_ofCircuit := goodIn_r _ [5, 6, 58, 59, 60, 61] (by decide +kernel) (by decide +kernel)
set_option maxRecDepth 20000 in
theorem gX6_stateOf_X6_ofCircuit : GoodIn wsX6_stateOf (wsV RX6 31 RX6 yX6_ofCircuit wsX6_ofCircuit) := goodIn_app (goodIn_of _ (by decide +kernel)) ggX6_stateOf_X6_ofCircuit
set_option maxRecDepth 20000 in
theorem ggX6_stateOf_X6_extraState : GoodIn wsX6_stateOf wsX6_extraState := goodIn_r _ [10, 6, 11, 12, 13, 4, 14, 15, 16, 17, 18, 19, 20, 21, 22, 23, 24, 25, 26, 27, 28, 29, 1, 2, 3, 5, 30, 31, 32, 33, 34, 35, 36, 37, 38, 39, 40, 41, 58, 59, 60, 61] (by decide +kernel) (by decide +kernel)
set_option maxRecDepth 20000 in
theorem gX6_stateOf_X6_extraState : GoodIn wsX6_stateOf (wsV RX6 120 RX6 yX6_extraState wsX6_extraState) := goodIn_app (goodIn_of _ (by decide +kernel)) ggX6_stateOf_X6_extraState
set_option maxRecDepth 20000 in
theorem ggX6_stateOf_X6_normalState : GoodIn wsX6_stateOf wsX6_normalState := goodIn_r _ [45, 22, 23, 24, 4, 25, 6, 26, 27, 28, 29, 1, 2, 3, 5, 30, 31, 32, 33, 15, 16, 17, 18, 19, 20, 21, 46, 47, 48, 49, 38, 39, 40, 41, 50, 51, 52, 53, 34, 35, 36, 37, 54, 55, 56, 57, 58, 59, 60, 61] (by decide +kernel) (by decide +kernel)
set_option maxRecDepth 20000 in
theorem gX6_stateOf_X6_normalState : GoodIn wsX6_stateOf (wsV RX6 123 RX6 yX6_normalState wsX6_normalState) := goodIn_app (goodIn_of _ (by decide +kernel)) ggX6_stateOf_X6_normalState
theorem dX6_stateOf_0 : decode cX6_stateOf 0 = .ok (.aload_n 0, 1) := by decide +kernel
theorem dX6_stateOf_1 : decode cX6_stateOf 1 = .ok (.iload_n 1, 1) := by decide +kernel
theorem dX6_stateOf_2 : decode cX6_stateOf 2 = .ok (.iconst 5, 1) := by decide +kernel
theorem dX6_stateOf_3 : decode cX6_stateOf 3 = .ok (.invokevirtual 31, 3) := by decide +kernel
theorem dX6_stateOf_6 : decode cX6_stateOf 6 = .ok (.iconst 1, 1) := by decide +kernel
theorem dX6_stateOf_7 : decode cX6_stateOf 7 = .ok (.if_icmp .ne 11, 3) := by decide +kernel
theorem dX6_stateOf_10 : decode cX6_stateOf 10 = .ok (.aload_n 0, 1) := by decide +kernel
theorem dX6_stateOf_11 : decode cX6_stateOf 11 = .ok (.iload_n 1, 1) := by decide +kernel
theorem dX6_stateOf_12 : decode cX6_stateOf 12 = .ok (.invokevirtual 120, 3) := by decide +kernel
theorem dX6_stateOf_15 : decode cX6_stateOf 15 = .ok (.goto 8, 3) := by decide +kernel
theorem dX6_stateOf_18 : decode cX6_stateOf 18 = .ok (.aload_n 0, 1) := by decide +kernel
theorem dX6_stateOf_19 : decode cX6_stateOf 19 = .ok (.iload_n 1, 1) := by decide +kernel
theorem dX6_stateOf_20 : decode cX6_stateOf 20 = .ok (.invokevirtual 123, 3) := by decide +kernel
theorem dX6_stateOf_23 : decode cX6_stateOf 23 = .ok (.ireturn, 1) := by decide +kernel
set_option maxRecDepth 20000 in
theorem ggX6_state_X6_isCircuit : GoodIn wsX6_state wsX6_isCircuit := goodIn_r _ [5, 6, 7, 4, 8, 9, 10, 11, 12, 13, 69, 70, 71, 72] (by decide +kernel) (by decide +kernel)
set_option maxRecDepth 20000 in
theorem gX6_state_X6_isCircuit : GoodIn wsX6_state (wsV RX6 38 RX6 yX6_isCircuit wsX6_isCircuit) := goodIn_app (goodIn_of _ (by decide +kernel)) ggX6_state_X6_isCircuit
set_option maxRecDepth 20000 in
theorem ggX6_state_X6_stateOf : GoodIn wsX6_state wsX6_stateOf := goodIn_r _ [17, 9, 10, 11, 4, 12, 13, 18, 19, 20, 21, 22, 23, 24, 25, 26, 27, 28, 29, 30, 31, 32, 33, 34, 35, 36, 37, 38, 39, 40, 41, 42, 43, 44, 45, 46, 47, 48, 49, 50, 51, 52, 53, 54, 55, 56, 57, 58, 59, 60, 61, 62, 63, 64, 65, 66, 67, 68, 69, 70, 71, 72] (by decide +kernel) (by decide +kernel)
set_option maxRecDepth 20000 in
theorem gX6_state_X6_stateOf : GoodIn wsX6_state (wsV RX6 126 RX6 yX6_stateOf wsX6_stateOf) := goodIn_app (goodIn_of _ (by decide +kernel)) ggX6_state_X6_stateOf
theorem dX6_state_0 : decode cX6_state 0 = .ok (.aload_n 0, 1) := by decide +kernel
theorem dX6_state_1 : decode cX6_state 1 = .ok (.iload_n 1, 1) := by decide +kernel
theorem dX6_state_2 : decode cX6_state 2 = .ok (.invokevirtual 38, 3) := by decide +kernel
theorem dX6_state_5 : decode cX6_state 5 = .ok (.ifCond .eq 11, 3) := by decide +kernel
theorem dX6_state_8 : decode cX6_state 8 = .ok (.aload_n 0, 1) := by decide +kernel
theorem dX6_state_9 : decode cX6_state 9 = .ok (.iload_n 1, 1) := by decide +kernel
theorem dX6_state_10 : decode cX6_state 10 = .ok (.invokevirtual 126, 3) := by decide +kernel
theorem dX6_state_13 : decode cX6_state 13 = .ok (.goto 5, 3) := by decide +kernel
theorem dX6_state_16 : decode cX6_state 16 = .ok (.bipush (-3), 2) := by decide +kernel
theorem dX6_state_18 : decode cX6_state 18 = .ok (.ireturn, 1) := by decide +kernel
set_option maxRecDepth 20000 in
theorem ggX6_circuitsIn_X6_in : GoodIn wsX6_circuitsIn wsX6_in := goodIn_r _ [4] (by decide +kernel) (by decide +kernel)
set_option maxRecDepth 20000 in
theorem gX6_circuitsIn_X6_in : GoodIn wsX6_circuitsIn (va_wsS RX6 23 yX6_in wsX6_in) := goodIn_app (goodIn_of _ (by decide +kernel)) ggX6_circuitsIn_X6_in
set_option maxRecDepth 20000 in
theorem ggX6_circuitsIn_X6_isCircuit : GoodIn wsX6_circuitsIn wsX6_isCircuit := goodIn_r _ [8, 1, 2, 3, 4, 9, 10, 11, 12, 13, 69, 70, 71, 72] (by decide +kernel) (by decide +kernel)
set_option maxRecDepth 20000 in
theorem gX6_circuitsIn_X6_isCircuit : GoodIn wsX6_circuitsIn (wsV RX6 38 RX6 yX6_isCircuit wsX6_isCircuit) := goodIn_app (goodIn_of _ (by decide +kernel)) ggX6_circuitsIn_X6_isCircuit
set_option maxRecDepth 20000 in
theorem ggX6_circuitsIn_X6_stateOf : GoodIn wsX6_circuitsIn wsX6_stateOf := goodIn_r _ [17, 9, 10, 11, 3, 12, 13, 18, 19, 20, 21, 22, 23, 24, 25, 26, 27, 28, 29, 30, 31, 32, 33, 34, 35, 36, 37, 38, 39, 40, 41, 42, 43, 44, 45, 46, 47, 48, 49, 50, 51, 52, 53, 54, 55, 56, 57, 58, 59, 60, 61, 62, 63, 64, 65, 66, 67, 68, 69, 70, 71, 72] (by decide +kernel) (by decide +kernel)
set_option maxRecDepth 20000 in
theorem gX6_circuitsIn_X6_stateOf : GoodIn wsX6_circuitsIn (wsV RX6 126 RX6 yX6_stateOf wsX6_stateOf) := goodIn_app (goodIn_of _ (by decide +kernel)) ggX6_circuitsIn_X6_stateOf
theorem dX6_circuitsIn_0 : decode cX6_circuitsIn 0 = .ok (.iload_n 1, 1) := by decide +kernel
theorem dX6_circuitsIn_1 : decode cX6_circuitsIn 1 = .ok (.iconst 0, 1) := by decide +kernel
theorem dX6_circuitsIn_2 : decode cX6_circuitsIn 2 = .ok (.iconst 5, 1) := by decide +kernel
theorem dX6_circuitsIn_3 : decode cX6_circuitsIn 3 = .ok (.invokestatic 23, 3) := by decide +kernel
theorem dX6_circuitsIn_6 : decode cX6_circuitsIn 6 = .ok (.ifCond .ne 6, 3) := by decide +kernel
theorem dX6_circuitsIn_9 : decode cX6_circuitsIn 9 = .ok (.bipush (-4), 2) := by decide +kernel
theorem dX6_circuitsIn_11 : decode cX6_circuitsIn 11 = .ok (.ireturn, 1) := by decide +kernel
theorem dX6_circuitsIn_12 : decode cX6_circuitsIn 12 = .ok (.iconst 0, 1) := by decide +kernel
theorem dX6_circuitsIn_13 : decode cX6_circuitsIn 13 = .ok (.istore_n 2, 1) := by decide +kernel
theorem dX6_circuitsIn_14 : decode cX6_circuitsIn 14 = .ok (.iconst 0, 1) := by decide +kernel
theorem dX6_circuitsIn_15 : decode cX6_circuitsIn 15 = .ok (.istore_n 3, 1) := by decide +kernel
theorem dX6_circuitsIn_16 : decode cX6_circuitsIn 16 = .ok (.iload_n 3, 1) := by decide +kernel
theorem dX6_circuitsIn_17 : decode cX6_circuitsIn 17 = .ok (.bipush 16, 2) := by decide +kernel
theorem dX6_circuitsIn_19 : decode cX6_circuitsIn 19 = .ok (.if_icmp .ge 36, 3) := by decide +kernel
theorem dX6_circuitsIn_22 : decode cX6_circuitsIn 22 = .ok (.iload_n 2, 1) := by decide +kernel
theorem dX6_circuitsIn_23 : decode cX6_circuitsIn 23 = .ok (.aload_n 0, 1) := by decide +kernel
theorem dX6_circuitsIn_24 : decode cX6_circuitsIn 24 = .ok (.iload_n 3, 1) := by decide +kernel
theorem dX6_circuitsIn_25 : decode cX6_circuitsIn 25 = .ok (.invokevirtual 38, 3) := by decide +kernel
theorem dX6_circuitsIn_28 : decode cX6_circuitsIn 28 = .ok (.ifCond .eq 18, 3) := by decide +kernel
theorem dX6_circuitsIn_31 : decode cX6_circuitsIn 31 = .ok (.aload_n 0, 1) := by decide +kernel
theorem dX6_circuitsIn_32 : decode cX6_circuitsIn 32 = .ok (.iload_n 3, 1) := by decide +kernel
theorem dX6_circuitsIn_33 : decode cX6_circuitsIn 33 = .ok (.invokevirtual 126, 3) := by decide +kernel
theorem dX6_circuitsIn_36 : decode cX6_circuitsIn 36 = .ok (.iload_n 1, 1) := by decide +kernel
theorem dX6_circuitsIn_37 : decode cX6_circuitsIn 37 = .ok (.if_icmp .ne 9, 3) := by decide +kernel
theorem dX6_circuitsIn_40 : decode cX6_circuitsIn 40 = .ok (.iconst 1, 1) := by decide +kernel
theorem dX6_circuitsIn_41 : decode cX6_circuitsIn 41 = .ok (.iload_n 3, 1) := by decide +kernel
theorem dX6_circuitsIn_42 : decode cX6_circuitsIn 42 = .ok (.ishl, 1) := by decide +kernel
theorem dX6_circuitsIn_43 : decode cX6_circuitsIn 43 = .ok (.goto 4, 3) := by decide +kernel
theorem dX6_circuitsIn_46 : decode cX6_circuitsIn 46 = .ok (.iconst 0, 1) := by decide +kernel
theorem dX6_circuitsIn_47 : decode cX6_circuitsIn 47 = .ok (.ior, 1) := by decide +kernel
theorem dX6_circuitsIn_48 : decode cX6_circuitsIn 48 = .ok (.istore_n 2, 1) := by decide +kernel
theorem dX6_circuitsIn_49 : decode cX6_circuitsIn 49 = .ok (.iinc 3 1, 3) := by decide +kernel
theorem dX6_circuitsIn_52 : decode cX6_circuitsIn 52 = .ok (.goto (-36), 3) := by decide +kernel
theorem dX6_circuitsIn_55 : decode cX6_circuitsIn 55 = .ok (.iload_n 2, 1) := by decide +kernel
theorem dX6_circuitsIn_56 : decode cX6_circuitsIn 56 = .ok (.ireturn, 1) := by decide +kernel
set_option maxRecDepth 20000 in
theorem ggX6_isDelivered_X6_isCircuit : GoodIn wsX6_isDelivered wsX6_isCircuit := goodIn_r _ [5, 6, 7, 4, 8, 9, 10, 11, 12, 13, 69, 70, 71, 72] (by decide +kernel) (by decide +kernel)
set_option maxRecDepth 20000 in
theorem gX6_isDelivered_X6_isCircuit : GoodIn wsX6_isDelivered (wsV RX6 38 RX6 yX6_isCircuit wsX6_isCircuit) := goodIn_app (goodIn_of _ (by decide +kernel)) ggX6_isDelivered_X6_isCircuit
set_option maxRecDepth 20000 in
theorem ggX6_isDelivered_X6_stateOf : GoodIn wsX6_isDelivered wsX6_stateOf := goodIn_r _ [17, 9, 10, 11, 4, 12, 13, 18, 19, 20, 21, 22, 23, 24, 25, 26, 27, 28, 29, 30, 31, 32, 33, 34, 35, 36, 37, 38, 39, 40, 41, 42, 43, 44, 45, 46, 47, 48, 49, 50, 51, 52, 53, 54, 55, 56, 57, 58, 59, 60, 61, 62, 63, 64, 65, 66, 67, 68, 69, 70, 71, 72] (by decide +kernel) (by decide +kernel)
set_option maxRecDepth 20000 in
theorem gX6_isDelivered_X6_stateOf : GoodIn wsX6_isDelivered (wsV RX6 126 RX6 yX6_stateOf wsX6_stateOf) := goodIn_app (goodIn_of _ (by decide +kernel)) ggX6_isDelivered_X6_stateOf
theorem dX6_isDelivered_0 : decode cX6_isDelivered 0 = .ok (.aload_n 0, 1) := by decide +kernel
theorem dX6_isDelivered_1 : decode cX6_isDelivered 1 = .ok (.iload_n 1, 1) := by decide +kernel
theorem dX6_isDelivered_2 : decode cX6_isDelivered 2 = .ok (.invokevirtual 38, 3) := by decide +kernel
theorem dX6_isDelivered_5 : decode cX6_isDelivered 5 = .ok (.ifCond .eq 16, 3) := by decide +kernel
theorem dX6_isDelivered_8 : decode cX6_isDelivered 8 = .ok (.aload_n 0, 1) := by decide +kernel
theorem dX6_isDelivered_9 : decode cX6_isDelivered 9 = .ok (.iload_n 1, 1) := by decide +kernel
theorem dX6_isDelivered_10 : decode cX6_isDelivered 10 = .ok (.invokevirtual 126, 3) := by decide +kernel
theorem dX6_isDelivered_13 : decode cX6_isDelivered 13 = .ok (.iconst 2, 1) := by decide +kernel
theorem dX6_isDelivered_14 : decode cX6_isDelivered 14 = .ok (.if_icmp .gt 7, 3) := by decide +kernel
theorem dX6_isDelivered_17 : decode cX6_isDelivered 17 = .ok (.iconst 1, 1) := by decide +kernel
theorem dX6_isDelivered_18 : decode cX6_isDelivered 18 = .ok (.goto 4, 3) := by decide +kernel
theorem dX6_isDelivered_21 : decode cX6_isDelivered 21 = .ok (.iconst 0, 1) := by decide +kernel
theorem dX6_isDelivered_22 : decode cX6_isDelivered 22 = .ok (.ireturn, 1) := by decide +kernel
set_option maxRecDepth 20000 in
theorem ggX6_deliveredCount_X6_isDelivered : GoodIn wsX6_deliveredCount wsX6_isDelivered := goodIn_r _ [5, 6, 7, 8, 4, 9, 10, 11, 12, 13, 14, 15, 16, 17, 18, 19, 20, 21, 22, 23, 24, 25, 26, 27, 28, 29, 30, 31, 32, 33, 34, 35, 36, 37, 38, 39, 40, 41, 42, 43, 44, 45, 46, 47, 48, 49, 50, 51, 52, 53, 54, 55, 56, 57, 58, 59, 60, 61, 62, 63, 64, 65, 66, 67, 68, 69, 70, 71, 72, 73, 74, 75, 76] (by decide +kernel) (by decide +kernel)
set_option maxRecDepth 20000 in
theorem gX6_deliveredCount_X6_isDelivered : GoodIn wsX6_deliveredCount (wsV RX6 129 RX6 yX6_isDelivered wsX6_isDelivered) := goodIn_app (goodIn_of _ (by decide +kernel)) ggX6_deliveredCount_X6_isDelivered
theorem dX6_deliveredCount_0 : decode cX6_deliveredCount 0 = .ok (.iconst 0, 1) := by decide +kernel
theorem dX6_deliveredCount_1 : decode cX6_deliveredCount 1 = .ok (.istore_n 1, 1) := by decide +kernel
theorem dX6_deliveredCount_2 : decode cX6_deliveredCount 2 = .ok (.iconst 0, 1) := by decide +kernel
theorem dX6_deliveredCount_3 : decode cX6_deliveredCount 3 = .ok (.istore_n 2, 1) := by decide +kernel
theorem dX6_deliveredCount_4 : decode cX6_deliveredCount 4 = .ok (.iload_n 2, 1) := by decide +kernel
theorem dX6_deliveredCount_5 : decode cX6_deliveredCount 5 = .ok (.bipush 16, 2) := by decide +kernel
theorem dX6_deliveredCount_7 : decode cX6_deliveredCount 7 = .ok (.if_icmp .ge 25, 3) := by decide +kernel
theorem dX6_deliveredCount_10 : decode cX6_deliveredCount 10 = .ok (.iload_n 1, 1) := by decide +kernel
theorem dX6_deliveredCount_11 : decode cX6_deliveredCount 11 = .ok (.aload_n 0, 1) := by decide +kernel
theorem dX6_deliveredCount_12 : decode cX6_deliveredCount 12 = .ok (.iload_n 2, 1) := by decide +kernel
theorem dX6_deliveredCount_13 : decode cX6_deliveredCount 13 = .ok (.invokevirtual 129, 3) := by decide +kernel
theorem dX6_deliveredCount_16 : decode cX6_deliveredCount 16 = .ok (.ifCond .eq 7, 3) := by decide +kernel
theorem dX6_deliveredCount_19 : decode cX6_deliveredCount 19 = .ok (.iconst 1, 1) := by decide +kernel
theorem dX6_deliveredCount_20 : decode cX6_deliveredCount 20 = .ok (.goto 4, 3) := by decide +kernel
theorem dX6_deliveredCount_23 : decode cX6_deliveredCount 23 = .ok (.iconst 0, 1) := by decide +kernel
theorem dX6_deliveredCount_24 : decode cX6_deliveredCount 24 = .ok (.iadd, 1) := by decide +kernel
theorem dX6_deliveredCount_25 : decode cX6_deliveredCount 25 = .ok (.istore_n 1, 1) := by decide +kernel
theorem dX6_deliveredCount_26 : decode cX6_deliveredCount 26 = .ok (.iinc 2 1, 3) := by decide +kernel
theorem dX6_deliveredCount_29 : decode cX6_deliveredCount 29 = .ok (.goto (-25), 3) := by decide +kernel
theorem dX6_deliveredCount_32 : decode cX6_deliveredCount 32 = .ok (.iload_n 1, 1) := by decide +kernel
theorem dX6_deliveredCount_33 : decode cX6_deliveredCount 33 = .ok (.ireturn, 1) := by decide +kernel
set_option maxRecDepth 20000 in
theorem ggX6_hopsOf_X6_stateOf : GoodIn wsX6_hopsOf wsX6_stateOf := goodIn_r _ [6, 7, 8, 9, 5, 10, 1, 11, 12, 13, 14, 15, 16, 17, 18, 19, 20, 21, 22, 23, 24, 25, 26, 27, 28, 29, 30, 31, 32, 33, 34, 35, 36, 37, 38, 39, 40, 41, 42, 43, 44, 45, 46, 47, 48, 49, 50, 51, 52, 53, 54, 55, 56, 57, 58, 59, 60, 61, 66, 67, 68, 69] (by decide +kernel) (by decide +kernel)
set_option maxRecDepth 20000 in
theorem gX6_hopsOf_X6_stateOf : GoodIn wsX6_hopsOf (wsV RX6 126 RX6 yX6_stateOf wsX6_stateOf) := goodIn_app (goodIn_of _ (by decide +kernel)) ggX6_hopsOf_X6_stateOf
set_option maxRecDepth 20000 in
theorem ggX6_hopsOf_X6_lengthOf : GoodIn wsX6_hopsOf wsX6_lengthOf := goodIn_r _ [65, 1, 30, 31, 32, 5, 33, 7, 8, 9, 10, 34, 35, 36, 37, 66, 67, 68, 69] (by decide +kernel) (by decide +kernel)
set_option maxRecDepth 20000 in
theorem gX6_hopsOf_X6_lengthOf : GoodIn wsX6_hopsOf (wsV RX6 63 RX6 yX6_lengthOf wsX6_lengthOf) := goodIn_app (goodIn_of _ (by decide +kernel)) ggX6_hopsOf_X6_lengthOf
set_option maxRecDepth 20000 in
theorem ggX6_hopsOf_X6_ofCircuit : GoodIn wsX6_hopsOf wsX6_ofCircuit := goodIn_r _ [10, 1, 66, 67, 68, 69] (by decide +kernel) (by decide +kernel)
set_option maxRecDepth 20000 in
theorem gX6_hopsOf_X6_ofCircuit : GoodIn wsX6_hopsOf (wsV RX6 31 RX6 yX6_ofCircuit wsX6_ofCircuit) := goodIn_app (goodIn_of _ (by decide +kernel)) ggX6_hopsOf_X6_ofCircuit
set_option maxRecDepth 20000 in
theorem ggX6_hopsOf_X6_segmentOf : GoodIn wsX6_hopsOf wsX6_segmentOf := goodIn_r _ [53, 1, 19, 20, 21, 5, 22, 23, 24, 25, 42, 43, 44, 45, 66, 67, 68, 69] (by decide +kernel) (by decide +kernel)
set_option maxRecDepth 20000 in
theorem gX6_hopsOf_X6_segmentOf : GoodIn wsX6_hopsOf (wsV RX6 108 RX6 yX6_segmentOf wsX6_segmentOf) := goodIn_app (goodIn_of _ (by decide +kernel)) ggX6_hopsOf_X6_segmentOf
set_option maxRecDepth 20000 in
theorem ggX6_hopsOf_X6_isInside : GoodIn wsX6_hopsOf wsX6_isInside := goodIn_r _ [61, 50, 51, 52, 5, 53, 1, 19, 20, 21, 22, 23, 24, 25, 42, 43, 44, 45, 66, 67, 68, 69] (by decide +kernel) (by decide +kernel)
set_option maxRecDepth 20000 in
theorem gX6_hopsOf_X6_isInside : GoodIn wsX6_hopsOf (wsV RX6 114 RX6 yX6_isInside wsX6_isInside) := goodIn_app (goodIn_of _ (by decide +kernel)) ggX6_hopsOf_X6_isInside
set_option maxRecDepth 20000 in
theorem ggX6_hopsOf_X6_of : GoodIn wsX6_hopsOf wsX6_of := goodIn_r _ [22, 1, 23, 24, 5, 25, 66, 67, 68, 69] (by decide +kernel) (by decide +kernel)
set_option maxRecDepth 20000 in
theorem gX6_hopsOf_X6_of : GoodIn wsX6_hopsOf (wsV RX6 67 RX6 yX6_of wsX6_of) := goodIn_app (goodIn_of _ (by decide +kernel)) ggX6_hopsOf_X6_of
set_option maxRecDepth 20000 in
theorem ggX6_hopsOf_X6_isOn : GoodIn wsX6_hopsOf wsX6_isOn := goodIn_r _ [33, 7, 8, 9, 5, 10, 1, 34, 35, 36, 37, 66, 67, 68, 69] (by decide +kernel) (by decide +kernel)
set_option maxRecDepth 20000 in
theorem gX6_hopsOf_X6_isOn : GoodIn wsX6_hopsOf (wsV RX6 42 RX6 yX6_isOn wsX6_isOn) := goodIn_app (goodIn_of _ (by decide +kernel)) ggX6_hopsOf_X6_isOn
theorem dX6_hopsOf_0 : decode cX6_hopsOf 0 = .ok (.aload_n 0, 1) := by decide +kernel
theorem dX6_hopsOf_1 : decode cX6_hopsOf 1 = .ok (.iload_n 1, 1) := by decide +kernel
theorem dX6_hopsOf_2 : decode cX6_hopsOf 2 = .ok (.invokevirtual 126, 3) := by decide +kernel
theorem dX6_hopsOf_5 : decode cX6_hopsOf 5 = .ok (.iconst 2, 1) := by decide +kernel
theorem dX6_hopsOf_6 : decode cX6_hopsOf 6 = .ok (.if_icmp .eq 9, 3) := by decide +kernel
theorem dX6_hopsOf_9 : decode cX6_hopsOf 9 = .ok (.aload_n 0, 1) := by decide +kernel
theorem dX6_hopsOf_10 : decode cX6_hopsOf 10 = .ok (.iload_n 1, 1) := by decide +kernel
theorem dX6_hopsOf_11 : decode cX6_hopsOf 11 = .ok (.invokevirtual 63, 3) := by decide +kernel
theorem dX6_hopsOf_14 : decode cX6_hopsOf 14 = .ok (.ireturn, 1) := by decide +kernel
theorem dX6_hopsOf_15 : decode cX6_hopsOf 15 = .ok (.aload_n 0, 1) := by decide +kernel
theorem dX6_hopsOf_16 : decode cX6_hopsOf 16 = .ok (.aload_n 0, 1) := by decide +kernel
theorem dX6_hopsOf_17 : decode cX6_hopsOf 17 = .ok (.iload_n 1, 1) := by decide +kernel
theorem dX6_hopsOf_18 : decode cX6_hopsOf 18 = .ok (.iconst 1, 1) := by decide +kernel
theorem dX6_hopsOf_19 : decode cX6_hopsOf 19 = .ok (.invokevirtual 31, 3) := by decide +kernel
theorem dX6_hopsOf_22 : decode cX6_hopsOf 22 = .ok (.invokevirtual 108, 3) := by decide +kernel
theorem dX6_hopsOf_25 : decode cX6_hopsOf 25 = .ok (.istore_n 2, 1) := by decide +kernel
theorem dX6_hopsOf_26 : decode cX6_hopsOf 26 = .ok (.iconst 0, 1) := by decide +kernel
theorem dX6_hopsOf_27 : decode cX6_hopsOf 27 = .ok (.istore_n 3, 1) := by decide +kernel
theorem dX6_hopsOf_28 : decode cX6_hopsOf 28 = .ok (.iconst 0, 1) := by decide +kernel
theorem dX6_hopsOf_29 : decode cX6_hopsOf 29 = .ok (.istore 4, 2) := by decide +kernel
theorem dX6_hopsOf_31 : decode cX6_hopsOf 31 = .ok (.iload 4, 2) := by decide +kernel
theorem dX6_hopsOf_33 : decode cX6_hopsOf 33 = .ok (.aload_n 0, 1) := by decide +kernel
theorem dX6_hopsOf_34 : decode cX6_hopsOf 34 = .ok (.getfield 7, 3) := by decide +kernel
theorem dX6_hopsOf_37 : decode cX6_hopsOf 37 = .ok (.iconst 0, 1) := by decide +kernel
theorem dX6_hopsOf_38 : decode cX6_hopsOf 38 = .ok (.iaload, 1) := by decide +kernel
theorem dX6_hopsOf_39 : decode cX6_hopsOf 39 = .ok (.if_icmp .ge 49, 3) := by decide +kernel
theorem dX6_hopsOf_42 : decode cX6_hopsOf 42 = .ok (.aload_n 0, 1) := by decide +kernel
theorem dX6_hopsOf_43 : decode cX6_hopsOf 43 = .ok (.iload 4, 2) := by decide +kernel
theorem dX6_hopsOf_45 : decode cX6_hopsOf 45 = .ok (.iload_n 2, 1) := by decide +kernel
theorem dX6_hopsOf_46 : decode cX6_hopsOf 46 = .ok (.invokevirtual 114, 3) := by decide +kernel
theorem dX6_hopsOf_49 : decode cX6_hopsOf 49 = .ok (.ifCond .eq 33, 3) := by decide +kernel
theorem dX6_hopsOf_52 : decode cX6_hopsOf 52 = .ok (.aload_n 0, 1) := by decide +kernel
theorem dX6_hopsOf_53 : decode cX6_hopsOf 53 = .ok (.iload 4, 2) := by decide +kernel
theorem dX6_hopsOf_55 : decode cX6_hopsOf 55 = .ok (.bipush 6, 2) := by decide +kernel
theorem dX6_hopsOf_57 : decode cX6_hopsOf 57 = .ok (.invokevirtual 67, 3) := by decide +kernel
theorem dX6_hopsOf_60 : decode cX6_hopsOf 60 = .ok (.iconst 2, 1) := by decide +kernel
theorem dX6_hopsOf_61 : decode cX6_hopsOf 61 = .ok (.if_icmp .eq 21, 3) := by decide +kernel
theorem dX6_hopsOf_64 : decode cX6_hopsOf 64 = .ok (.iload_n 3, 1) := by decide +kernel
theorem dX6_hopsOf_65 : decode cX6_hopsOf 65 = .ok (.aload_n 0, 1) := by decide +kernel
theorem dX6_hopsOf_66 : decode cX6_hopsOf 66 = .ok (.iload_n 1, 1) := by decide +kernel
theorem dX6_hopsOf_67 : decode cX6_hopsOf 67 = .ok (.iload 4, 2) := by decide +kernel
theorem dX6_hopsOf_69 : decode cX6_hopsOf 69 = .ok (.invokevirtual 42, 3) := by decide +kernel
theorem dX6_hopsOf_72 : decode cX6_hopsOf 72 = .ok (.ifCond .eq 7, 3) := by decide +kernel
theorem dX6_hopsOf_75 : decode cX6_hopsOf 75 = .ok (.iconst 2, 1) := by decide +kernel
theorem dX6_hopsOf_76 : decode cX6_hopsOf 76 = .ok (.goto 4, 3) := by decide +kernel
theorem dX6_hopsOf_79 : decode cX6_hopsOf 79 = .ok (.iconst 1, 1) := by decide +kernel
theorem dX6_hopsOf_80 : decode cX6_hopsOf 80 = .ok (.iadd, 1) := by decide +kernel
theorem dX6_hopsOf_81 : decode cX6_hopsOf 81 = .ok (.istore_n 3, 1) := by decide +kernel
theorem dX6_hopsOf_82 : decode cX6_hopsOf 82 = .ok (.iinc 4 1, 3) := by decide +kernel
theorem dX6_hopsOf_85 : decode cX6_hopsOf 85 = .ok (.goto (-54), 3) := by decide +kernel
theorem dX6_hopsOf_88 : decode cX6_hopsOf 88 = .ok (.iload_n 3, 1) := by decide +kernel
theorem dX6_hopsOf_89 : decode cX6_hopsOf 89 = .ok (.ireturn, 1) := by decide +kernel
set_option maxRecDepth 20000 in
theorem ggX6_hops_X6_isCircuit : GoodIn wsX6_hops wsX6_isCircuit := goodIn_r _ [5, 6, 7, 4, 8, 9, 10, 11, 12, 13, 81, 82, 83, 84] (by decide +kernel) (by decide +kernel)
set_option maxRecDepth 20000 in
theorem gX6_hops_X6_isCircuit : GoodIn wsX6_hops (wsV RX6 38 RX6 yX6_isCircuit wsX6_isCircuit) := goodIn_app (goodIn_of _ (by decide +kernel)) ggX6_hops_X6_isCircuit
set_option maxRecDepth 20000 in
theorem ggX6_hops_X6_isDelivered : GoodIn wsX6_hops wsX6_isDelivered := goodIn_r _ [17, 1, 2, 3, 4, 5, 6, 7, 8, 9, 10, 11, 12, 13, 18, 19, 20, 21, 22, 23, 24, 25, 26, 27, 28, 29, 30, 31, 32, 33, 34, 35, 36, 37, 38, 39, 40, 41, 42, 43, 44, 45, 46, 47, 48, 49, 50, 51, 52, 53, 54, 55, 56, 57, 58, 59, 60, 61, 62, 63, 64, 65, 66, 67, 68, 69, 70, 71, 72, 81, 82, 83, 84] (by decide +kernel) (by decide +kernel)
set_option maxRecDepth 20000 in
theorem gX6_hops_X6_isDelivered : GoodIn wsX6_hops (wsV RX6 129 RX6 yX6_isDelivered wsX6_isDelivered) := goodIn_app (goodIn_of _ (by decide +kernel)) ggX6_hops_X6_isDelivered
set_option maxRecDepth 20000 in
theorem ggX6_hops_X6_hopsOf : GoodIn wsX6_hops wsX6_hopsOf := goodIn_r _ [76, 13, 18, 19, 20, 4, 21, 9, 10, 11, 12, 22, 23, 24, 25, 26, 27, 28, 29, 30, 31, 32, 33, 34, 35, 36, 37, 38, 39, 40, 41, 42, 43, 44, 45, 46, 47, 48, 49, 50, 51, 52, 53, 54, 55, 56, 57, 58, 59, 60, 61, 62, 63, 64, 65, 66, 67, 68, 69, 70, 71, 72, 77, 78, 79, 80, 81, 82, 83, 84] (by decide +kernel) (by decide +kernel)
set_option maxRecDepth 20000 in
theorem gX6_hops_X6_hopsOf : GoodIn wsX6_hops (wsV RX6 132 RX6 yX6_hopsOf wsX6_hopsOf) := goodIn_app (goodIn_of _ (by decide +kernel)) ggX6_hops_X6_hopsOf
theorem dX6_hops_0 : decode cX6_hops 0 = .ok (.aload_n 0, 1) := by decide +kernel
theorem dX6_hops_1 : decode cX6_hops 1 = .ok (.iload_n 1, 1) := by decide +kernel
theorem dX6_hops_2 : decode cX6_hops 2 = .ok (.invokevirtual 38, 3) := by decide +kernel
theorem dX6_hops_5 : decode cX6_hops 5 = .ok (.ifCond .ne 6, 3) := by decide +kernel
theorem dX6_hops_8 : decode cX6_hops 8 = .ok (.bipush (-3), 2) := by decide +kernel
theorem dX6_hops_10 : decode cX6_hops 10 = .ok (.ireturn, 1) := by decide +kernel
theorem dX6_hops_11 : decode cX6_hops 11 = .ok (.aload_n 0, 1) := by decide +kernel
theorem dX6_hops_12 : decode cX6_hops 12 = .ok (.iload_n 1, 1) := by decide +kernel
theorem dX6_hops_13 : decode cX6_hops 13 = .ok (.invokevirtual 129, 3) := by decide +kernel
theorem dX6_hops_16 : decode cX6_hops 16 = .ok (.ifCond .eq 11, 3) := by decide +kernel
theorem dX6_hops_19 : decode cX6_hops 19 = .ok (.aload_n 0, 1) := by decide +kernel
theorem dX6_hops_20 : decode cX6_hops 20 = .ok (.iload_n 1, 1) := by decide +kernel
theorem dX6_hops_21 : decode cX6_hops 21 = .ok (.invokevirtual 132, 3) := by decide +kernel
theorem dX6_hops_24 : decode cX6_hops 24 = .ok (.goto 5, 3) := by decide +kernel
theorem dX6_hops_27 : decode cX6_hops 27 = .ok (.bipush (-9), 2) := by decide +kernel
theorem dX6_hops_29 : decode cX6_hops 29 = .ok (.ireturn, 1) := by decide +kernel
set_option maxRecDepth 20000 in
theorem ggX6_averageHops_X6_isDelivered : GoodIn wsX6_averageHops wsX6_isDelivered := goodIn_r _ [5, 6, 7, 8, 4, 9, 10, 11, 12, 13, 14, 15, 16, 17, 18, 19, 20, 21, 22, 23, 24, 25, 26, 27, 28, 29, 30, 31, 32, 33, 34, 35, 36, 37, 38, 39, 40, 41, 42, 43, 44, 45, 46, 47, 48, 49, 50, 51, 52, 53, 54, 55, 56, 57, 58, 59, 60, 61, 62, 63, 64, 65, 66, 67, 68, 69, 70, 71, 72, 81, 82, 83, 84] (by decide +kernel) (by decide +kernel)
set_option maxRecDepth 20000 in
theorem gX6_averageHops_X6_isDelivered : GoodIn wsX6_averageHops (wsV RX6 129 RX6 yX6_isDelivered wsX6_isDelivered) := goodIn_app (goodIn_of _ (by decide +kernel)) ggX6_averageHops_X6_isDelivered
set_option maxRecDepth 20000 in
theorem ggX6_averageHops_X6_hopsOf : GoodIn wsX6_averageHops wsX6_hopsOf := goodIn_r _ [76, 17, 18, 19, 20, 4, 21, 13, 14, 15, 16, 22, 23, 24, 25, 26, 27, 28, 29, 30, 31, 32, 33, 34, 35, 36, 37, 38, 39, 40, 41, 42, 43, 44, 45, 46, 47, 48, 49, 50, 51, 52, 53, 54, 55, 56, 57, 58, 59, 60, 61, 62, 63, 64, 65, 66, 67, 68, 69, 70, 71, 72, 77, 78, 79, 80, 81, 82, 83, 84] (by decide +kernel) (by decide +kernel)
set_option maxRecDepth 20000 in
theorem gX6_averageHops_X6_hopsOf : GoodIn wsX6_averageHops (wsV RX6 132 RX6 yX6_hopsOf wsX6_hopsOf) := goodIn_app (goodIn_of _ (by decide +kernel)) ggX6_averageHops_X6_hopsOf
theorem dX6_averageHops_0 : decode cX6_averageHops 0 = .ok (.iconst 0, 1) := by decide +kernel
theorem dX6_averageHops_1 : decode cX6_averageHops 1 = .ok (.istore_n 1, 1) := by decide +kernel
theorem dX6_averageHops_2 : decode cX6_averageHops 2 = .ok (.iconst 0, 1) := by decide +kernel
theorem dX6_averageHops_3 : decode cX6_averageHops 3 = .ok (.istore_n 2, 1) := by decide +kernel
theorem dX6_averageHops_4 : decode cX6_averageHops 4 = .ok (.iconst 0, 1) := by decide +kernel
theorem dX6_averageHops_5 : decode cX6_averageHops 5 = .ok (.istore_n 3, 1) := by decide +kernel
theorem dX6_averageHops_6 : decode cX6_averageHops 6 = .ok (.iload_n 3, 1) := by decide +kernel
theorem dX6_averageHops_7 : decode cX6_averageHops 7 = .ok (.bipush 16, 2) := by decide +kernel
theorem dX6_averageHops_9 : decode cX6_averageHops 9 = .ok (.if_icmp .ge 28, 3) := by decide +kernel
theorem dX6_averageHops_12 : decode cX6_averageHops 12 = .ok (.aload_n 0, 1) := by decide +kernel
theorem dX6_averageHops_13 : decode cX6_averageHops 13 = .ok (.iload_n 3, 1) := by decide +kernel
theorem dX6_averageHops_14 : decode cX6_averageHops 14 = .ok (.invokevirtual 129, 3) := by decide +kernel
theorem dX6_averageHops_17 : decode cX6_averageHops 17 = .ok (.ifCond .eq 14, 3) := by decide +kernel
theorem dX6_averageHops_20 : decode cX6_averageHops 20 = .ok (.iinc 1 1, 3) := by decide +kernel
theorem dX6_averageHops_23 : decode cX6_averageHops 23 = .ok (.iload_n 2, 1) := by decide +kernel
theorem dX6_averageHops_24 : decode cX6_averageHops 24 = .ok (.aload_n 0, 1) := by decide +kernel
theorem dX6_averageHops_25 : decode cX6_averageHops 25 = .ok (.iload_n 3, 1) := by decide +kernel
theorem dX6_averageHops_26 : decode cX6_averageHops 26 = .ok (.invokevirtual 132, 3) := by decide +kernel
theorem dX6_averageHops_29 : decode cX6_averageHops 29 = .ok (.iadd, 1) := by decide +kernel
theorem dX6_averageHops_30 : decode cX6_averageHops 30 = .ok (.istore_n 2, 1) := by decide +kernel
theorem dX6_averageHops_31 : decode cX6_averageHops 31 = .ok (.iinc 3 1, 3) := by decide +kernel
theorem dX6_averageHops_34 : decode cX6_averageHops 34 = .ok (.goto (-28), 3) := by decide +kernel
theorem dX6_averageHops_37 : decode cX6_averageHops 37 = .ok (.iload_n 1, 1) := by decide +kernel
theorem dX6_averageHops_38 : decode cX6_averageHops 38 = .ok (.ifCond .ne 8, 3) := by decide +kernel
theorem dX6_averageHops_41 : decode cX6_averageHops 41 = .ok (.bipush (-9), 2) := by decide +kernel
theorem dX6_averageHops_43 : decode cX6_averageHops 43 = .ok (.goto 9, 3) := by decide +kernel
theorem dX6_averageHops_46 : decode cX6_averageHops 46 = .ok (.bipush 100, 2) := by decide +kernel
theorem dX6_averageHops_48 : decode cX6_averageHops 48 = .ok (.iload_n 2, 1) := by decide +kernel
theorem dX6_averageHops_49 : decode cX6_averageHops 49 = .ok (.imul, 1) := by decide +kernel
theorem dX6_averageHops_50 : decode cX6_averageHops 50 = .ok (.iload_n 1, 1) := by decide +kernel
theorem dX6_averageHops_51 : decode cX6_averageHops 51 = .ok (.idiv, 1) := by decide +kernel
theorem dX6_averageHops_52 : decode cX6_averageHops 52 = .ok (.ireturn, 1) := by decide +kernel
set_option maxRecDepth 20000 in
theorem ggX6_switchesAt_X6_isOn : GoodIn wsX6_switchesAt wsX6_isOn := goodIn_r _ [5, 6, 7, 8, 4, 9, 10, 11, 12, 13, 14, 22, 23, 24, 25] (by decide +kernel) (by decide +kernel)
set_option maxRecDepth 20000 in
theorem gX6_switchesAt_X6_isOn : GoodIn wsX6_switchesAt (wsV RX6 42 RX6 yX6_isOn wsX6_isOn) := goodIn_app (goodIn_of _ (by decide +kernel)) ggX6_switchesAt_X6_isOn
set_option maxRecDepth 20000 in
theorem ggX6_switchesAt_X6_of : GoodIn wsX6_switchesAt wsX6_of := goodIn_r _ [18, 10, 19, 20, 4, 21, 22, 23, 24, 25] (by decide +kernel) (by decide +kernel)
set_option maxRecDepth 20000 in
theorem gX6_switchesAt_X6_of : GoodIn wsX6_switchesAt (wsV RX6 67 RX6 yX6_of wsX6_of) := goodIn_app (goodIn_of _ (by decide +kernel)) ggX6_switchesAt_X6_of
theorem dX6_switchesAt_0 : decode cX6_switchesAt 0 = .ok (.aload_n 0, 1) := by decide +kernel
theorem dX6_switchesAt_1 : decode cX6_switchesAt 1 = .ok (.iload_n 1, 1) := by decide +kernel
theorem dX6_switchesAt_2 : decode cX6_switchesAt 2 = .ok (.iload_n 2, 1) := by decide +kernel
theorem dX6_switchesAt_3 : decode cX6_switchesAt 3 = .ok (.invokevirtual 42, 3) := by decide +kernel
theorem dX6_switchesAt_6 : decode cX6_switchesAt 6 = .ok (.ifCond .eq 18, 3) := by decide +kernel
theorem dX6_switchesAt_9 : decode cX6_switchesAt 9 = .ok (.aload_n 0, 1) := by decide +kernel
theorem dX6_switchesAt_10 : decode cX6_switchesAt 10 = .ok (.iload_n 2, 1) := by decide +kernel
theorem dX6_switchesAt_11 : decode cX6_switchesAt 11 = .ok (.bipush 6, 2) := by decide +kernel
theorem dX6_switchesAt_13 : decode cX6_switchesAt 13 = .ok (.invokevirtual 67, 3) := by decide +kernel
theorem dX6_switchesAt_16 : decode cX6_switchesAt 16 = .ok (.iconst 2, 1) := by decide +kernel
theorem dX6_switchesAt_17 : decode cX6_switchesAt 17 = .ok (.if_icmp .ne 7, 3) := by decide +kernel
theorem dX6_switchesAt_20 : decode cX6_switchesAt 20 = .ok (.iconst 1, 1) := by decide +kernel
theorem dX6_switchesAt_21 : decode cX6_switchesAt 21 = .ok (.goto 4, 3) := by decide +kernel
theorem dX6_switchesAt_24 : decode cX6_switchesAt 24 = .ok (.iconst 0, 1) := by decide +kernel
theorem dX6_switchesAt_25 : decode cX6_switchesAt 25 = .ok (.ireturn, 1) := by decide +kernel
set_option maxRecDepth 20000 in
theorem ggX6_squelchedAt_X6_isNode : GoodIn wsX6_squelchedAt wsX6_isNode := goodIn_r _ [6, 1, 7, 8, 5, 9, 77, 78, 79, 80] (by decide +kernel) (by decide +kernel)
set_option maxRecDepth 20000 in
theorem gX6_squelchedAt_X6_isNode : GoodIn wsX6_squelchedAt (wsV RX6 46 RX6 yX6_isNode wsX6_isNode) := goodIn_app (goodIn_of _ (by decide +kernel)) ggX6_squelchedAt_X6_isNode
set_option maxRecDepth 20000 in
theorem ggX6_squelchedAt_X6_isCircuit : GoodIn wsX6_squelchedAt wsX6_isCircuit := goodIn_r _ [13, 7, 8, 5, 9, 14, 15, 16, 17, 1, 77, 78, 79, 80] (by decide +kernel) (by decide +kernel)
set_option maxRecDepth 20000 in
theorem gX6_squelchedAt_X6_isCircuit : GoodIn wsX6_squelchedAt (wsV RX6 38 RX6 yX6_isCircuit wsX6_isCircuit) := goodIn_app (goodIn_of _ (by decide +kernel)) ggX6_squelchedAt_X6_isCircuit
set_option maxRecDepth 20000 in
theorem ggX6_squelchedAt_X6_stateOf : GoodIn wsX6_squelchedAt wsX6_stateOf := goodIn_r _ [21, 14, 15, 16, 5, 17, 1, 22, 23, 24, 25, 26, 27, 28, 29, 30, 31, 32, 33, 34, 35, 36, 37, 38, 39, 40, 41, 42, 43, 44, 45, 46, 47, 48, 49, 50, 51, 52, 53, 54, 55, 56, 57, 58, 59, 60, 61, 62, 63, 64, 65, 66, 67, 68, 69, 70, 71, 72, 77, 78, 79, 80] (by decide +kernel) (by decide +kernel)
set_option maxRecDepth 20000 in
theorem gX6_squelchedAt_X6_stateOf : GoodIn wsX6_squelchedAt (wsV RX6 126 RX6 yX6_stateOf wsX6_stateOf) := goodIn_app (goodIn_of _ (by decide +kernel)) ggX6_squelchedAt_X6_stateOf
set_option maxRecDepth 20000 in
theorem ggX6_squelchedAt_X6_switchesAt : GoodIn wsX6_squelchedAt wsX6_switchesAt := goodIn_r _ [76, 41, 42, 43, 5, 44, 14, 15, 16, 17, 1, 45, 46, 47, 48, 30, 31, 32, 33, 34, 35, 36, 77, 78, 79, 80] (by decide +kernel) (by decide +kernel)
set_option maxRecDepth 20000 in
theorem gX6_squelchedAt_X6_switchesAt : GoodIn wsX6_squelchedAt (wsV RX6 135 RX6 yX6_switchesAt wsX6_switchesAt) := goodIn_app (goodIn_of _ (by decide +kernel)) ggX6_squelchedAt_X6_switchesAt
theorem dX6_squelchedAt_0 : decode cX6_squelchedAt 0 = .ok (.aload_n 0, 1) := by decide +kernel
theorem dX6_squelchedAt_1 : decode cX6_squelchedAt 1 = .ok (.iload_n 1, 1) := by decide +kernel
theorem dX6_squelchedAt_2 : decode cX6_squelchedAt 2 = .ok (.invokevirtual 46, 3) := by decide +kernel
theorem dX6_squelchedAt_5 : decode cX6_squelchedAt 5 = .ok (.ifCond .ne 5, 3) := by decide +kernel
theorem dX6_squelchedAt_8 : decode cX6_squelchedAt 8 = .ok (.iconst (-1), 1) := by decide +kernel
theorem dX6_squelchedAt_9 : decode cX6_squelchedAt 9 = .ok (.ireturn, 1) := by decide +kernel
theorem dX6_squelchedAt_10 : decode cX6_squelchedAt 10 = .ok (.iload_n 1, 1) := by decide +kernel
theorem dX6_squelchedAt_11 : decode cX6_squelchedAt 11 = .ok (.aload_n 0, 1) := by decide +kernel
theorem dX6_squelchedAt_12 : decode cX6_squelchedAt 12 = .ok (.getfield 7, 3) := by decide +kernel
theorem dX6_squelchedAt_15 : decode cX6_squelchedAt 15 = .ok (.iconst 0, 1) := by decide +kernel
theorem dX6_squelchedAt_16 : decode cX6_squelchedAt 16 = .ok (.iaload, 1) := by decide +kernel
theorem dX6_squelchedAt_17 : decode cX6_squelchedAt 17 = .ok (.iadd, 1) := by decide +kernel
theorem dX6_squelchedAt_18 : decode cX6_squelchedAt 18 = .ok (.iconst 1, 1) := by decide +kernel
theorem dX6_squelchedAt_19 : decode cX6_squelchedAt 19 = .ok (.isub, 1) := by decide +kernel
theorem dX6_squelchedAt_20 : decode cX6_squelchedAt 20 = .ok (.aload_n 0, 1) := by decide +kernel
theorem dX6_squelchedAt_21 : decode cX6_squelchedAt 21 = .ok (.getfield 7, 3) := by decide +kernel
theorem dX6_squelchedAt_24 : decode cX6_squelchedAt 24 = .ok (.iconst 0, 1) := by decide +kernel
theorem dX6_squelchedAt_25 : decode cX6_squelchedAt 25 = .ok (.iaload, 1) := by decide +kernel
theorem dX6_squelchedAt_26 : decode cX6_squelchedAt 26 = .ok (.irem, 1) := by decide +kernel
theorem dX6_squelchedAt_27 : decode cX6_squelchedAt 27 = .ok (.istore_n 2, 1) := by decide +kernel
theorem dX6_squelchedAt_28 : decode cX6_squelchedAt 28 = .ok (.iconst 0, 1) := by decide +kernel
theorem dX6_squelchedAt_29 : decode cX6_squelchedAt 29 = .ok (.istore_n 3, 1) := by decide +kernel
theorem dX6_squelchedAt_30 : decode cX6_squelchedAt 30 = .ok (.iconst 0, 1) := by decide +kernel
theorem dX6_squelchedAt_31 : decode cX6_squelchedAt 31 = .ok (.istore 4, 2) := by decide +kernel
theorem dX6_squelchedAt_33 : decode cX6_squelchedAt 33 = .ok (.iload 4, 2) := by decide +kernel
theorem dX6_squelchedAt_35 : decode cX6_squelchedAt 35 = .ok (.bipush 16, 2) := by decide +kernel
theorem dX6_squelchedAt_37 : decode cX6_squelchedAt 37 = .ok (.if_icmp .ge 71, 3) := by decide +kernel
theorem dX6_squelchedAt_40 : decode cX6_squelchedAt 40 = .ok (.aload_n 0, 1) := by decide +kernel
theorem dX6_squelchedAt_41 : decode cX6_squelchedAt 41 = .ok (.iload 4, 2) := by decide +kernel
theorem dX6_squelchedAt_43 : decode cX6_squelchedAt 43 = .ok (.invokevirtual 38, 3) := by decide +kernel
theorem dX6_squelchedAt_46 : decode cX6_squelchedAt 46 = .ok (.ifCond .eq 37, 3) := by decide +kernel
theorem dX6_squelchedAt_49 : decode cX6_squelchedAt 49 = .ok (.aload_n 0, 1) := by decide +kernel
theorem dX6_squelchedAt_50 : decode cX6_squelchedAt 50 = .ok (.iload 4, 2) := by decide +kernel
theorem dX6_squelchedAt_52 : decode cX6_squelchedAt 52 = .ok (.invokevirtual 126, 3) := by decide +kernel
theorem dX6_squelchedAt_55 : decode cX6_squelchedAt 55 = .ok (.iconst 3, 1) := by decide +kernel
theorem dX6_squelchedAt_56 : decode cX6_squelchedAt 56 = .ok (.if_icmp .ne 27, 3) := by decide +kernel
theorem dX6_squelchedAt_59 : decode cX6_squelchedAt 59 = .ok (.aload_n 0, 1) := by decide +kernel
theorem dX6_squelchedAt_60 : decode cX6_squelchedAt 60 = .ok (.iload 4, 2) := by decide +kernel
theorem dX6_squelchedAt_62 : decode cX6_squelchedAt 62 = .ok (.iload_n 1, 1) := by decide +kernel
theorem dX6_squelchedAt_63 : decode cX6_squelchedAt 63 = .ok (.invokevirtual 135, 3) := by decide +kernel
theorem dX6_squelchedAt_66 : decode cX6_squelchedAt 66 = .ok (.ifCond .ne 13, 3) := by decide +kernel
theorem dX6_squelchedAt_69 : decode cX6_squelchedAt 69 = .ok (.aload_n 0, 1) := by decide +kernel
theorem dX6_squelchedAt_70 : decode cX6_squelchedAt 70 = .ok (.iload 4, 2) := by decide +kernel
theorem dX6_squelchedAt_72 : decode cX6_squelchedAt 72 = .ok (.iload_n 2, 1) := by decide +kernel
theorem dX6_squelchedAt_73 : decode cX6_squelchedAt 73 = .ok (.invokevirtual 135, 3) := by decide +kernel
theorem dX6_squelchedAt_76 : decode cX6_squelchedAt 76 = .ok (.ifCond .eq 7, 3) := by decide +kernel
theorem dX6_squelchedAt_79 : decode cX6_squelchedAt 79 = .ok (.iconst 1, 1) := by decide +kernel
theorem dX6_squelchedAt_80 : decode cX6_squelchedAt 80 = .ok (.goto 4, 3) := by decide +kernel
theorem dX6_squelchedAt_83 : decode cX6_squelchedAt 83 = .ok (.iconst 0, 1) := by decide +kernel
theorem dX6_squelchedAt_84 : decode cX6_squelchedAt 84 = .ok (.istore 5, 2) := by decide +kernel
theorem dX6_squelchedAt_86 : decode cX6_squelchedAt 86 = .ok (.iload_n 3, 1) := by decide +kernel
theorem dX6_squelchedAt_87 : decode cX6_squelchedAt 87 = .ok (.iload 5, 2) := by decide +kernel
theorem dX6_squelchedAt_89 : decode cX6_squelchedAt 89 = .ok (.ifCond .eq 10, 3) := by decide +kernel
theorem dX6_squelchedAt_92 : decode cX6_squelchedAt 92 = .ok (.iconst 1, 1) := by decide +kernel
theorem dX6_squelchedAt_93 : decode cX6_squelchedAt 93 = .ok (.iload 4, 2) := by decide +kernel
theorem dX6_squelchedAt_95 : decode cX6_squelchedAt 95 = .ok (.ishl, 1) := by decide +kernel
theorem dX6_squelchedAt_96 : decode cX6_squelchedAt 96 = .ok (.goto 4, 3) := by decide +kernel
theorem dX6_squelchedAt_99 : decode cX6_squelchedAt 99 = .ok (.iconst 0, 1) := by decide +kernel
theorem dX6_squelchedAt_100 : decode cX6_squelchedAt 100 = .ok (.ior, 1) := by decide +kernel
theorem dX6_squelchedAt_101 : decode cX6_squelchedAt 101 = .ok (.istore_n 3, 1) := by decide +kernel
theorem dX6_squelchedAt_102 : decode cX6_squelchedAt 102 = .ok (.iinc 4 1, 3) := by decide +kernel
theorem dX6_squelchedAt_105 : decode cX6_squelchedAt 105 = .ok (.goto (-72), 3) := by decide +kernel
theorem dX6_squelchedAt_108 : decode cX6_squelchedAt 108 = .ok (.iload_n 3, 1) := by decide +kernel
theorem dX6_squelchedAt_109 : decode cX6_squelchedAt 109 = .ok (.ireturn, 1) := by decide +kernel
theorem dX6_keep_0 : decode cX6_keep 0 = .ok (.iconst 0, 1) := by decide +kernel
theorem dX6_keep_1 : decode cX6_keep 1 = .ok (.istore_n 1, 1) := by decide +kernel
theorem dX6_keep_2 : decode cX6_keep 2 = .ok (.iload_n 1, 1) := by decide +kernel
theorem dX6_keep_3 : decode cX6_keep 3 = .ok (.sipush 164, 3) := by decide +kernel
theorem dX6_keep_6 : decode cX6_keep 6 = .ok (.if_icmp .ge 21, 3) := by decide +kernel
theorem dX6_keep_9 : decode cX6_keep 9 = .ok (.aload_n 0, 1) := by decide +kernel
theorem dX6_keep_10 : decode cX6_keep 10 = .ok (.getfield 13, 3) := by decide +kernel
theorem dX6_keep_13 : decode cX6_keep 13 = .ok (.iload_n 1, 1) := by decide +kernel
theorem dX6_keep_14 : decode cX6_keep 14 = .ok (.aload_n 0, 1) := by decide +kernel
theorem dX6_keep_15 : decode cX6_keep 15 = .ok (.getfield 7, 3) := by decide +kernel
theorem dX6_keep_18 : decode cX6_keep 18 = .ok (.iload_n 1, 1) := by decide +kernel
theorem dX6_keep_19 : decode cX6_keep 19 = .ok (.iaload, 1) := by decide +kernel
theorem dX6_keep_20 : decode cX6_keep 20 = .ok (.iastore, 1) := by decide +kernel
theorem dX6_keep_21 : decode cX6_keep 21 = .ok (.iinc 1 1, 3) := by decide +kernel
theorem dX6_keep_24 : decode cX6_keep 24 = .ok (.goto (-22), 3) := by decide +kernel
theorem dX6_keep_27 : decode cX6_keep 27 = .ok (.return_, 1) := by decide +kernel
set_option maxRecDepth 20000 in
theorem ggX6_deliveredAndBack_X6_control : GoodIn wsX6_deliveredAndBack wsX6_control := goodIn_r _ [7, 1, 8, 9, 10, 6, 11, 12, 13, 14, 15, 16, 17, 18, 19, 20, 21, 22, 23, 24, 25, 26, 27, 28, 29, 30, 31, 32, 33, 34, 35, 36, 37, 38, 39, 40, 41, 42, 43, 44, 45, 46, 102, 103, 104, 105] (by decide +kernel) (by decide +kernel)
set_option maxRecDepth 20000 in
theorem gX6_deliveredAndBack_X6_control : GoodIn wsX6_deliveredAndBack (wsV RX6 98 RX6 yX6_control wsX6_control) := goodIn_app (goodIn_of _ (by decide +kernel)) ggX6_deliveredAndBack_X6_control
set_option maxRecDepth 20000 in
theorem ggX6_deliveredAndBack_X6_deliveredCount : GoodIn wsX6_deliveredAndBack wsX6_deliveredCount := goodIn_r _ [50, 51, 52, 53, 6, 54, 55, 56, 57, 58, 59, 60, 61, 62, 63, 64, 65, 1, 66, 67, 68, 69, 70, 71, 72, 73, 43, 44, 45, 46, 12, 13, 14, 15, 16, 17, 18, 74, 75, 76, 77, 78, 79, 80, 81, 82, 83, 84, 85, 23, 24, 25, 26, 27, 28, 29, 30, 86, 87, 88, 89, 90, 91, 92, 93, 94, 95, 96, 97, 98, 99, 100, 101, 102, 103, 104, 105] (by decide +kernel) (by decide +kernel)
set_option maxRecDepth 20000 in
theorem gX6_deliveredAndBack_X6_deliveredCount : GoodIn wsX6_deliveredAndBack (wsV RX6 138 RX6 yX6_deliveredCount wsX6_deliveredCount) := goodIn_app (goodIn_of _ (by decide +kernel)) ggX6_deliveredAndBack_X6_deliveredCount
theorem dX6_deliveredAndBack_0 : decode cX6_deliveredAndBack 0 = .ok (.aload_n 0, 1) := by decide +kernel
theorem dX6_deliveredAndBack_1 : decode cX6_deliveredAndBack 1 = .ok (.invokevirtual 98, 3) := by decide +kernel
theorem dX6_deliveredAndBack_4 : decode cX6_deliveredAndBack 4 = .ok (.aload_n 0, 1) := by decide +kernel
theorem dX6_deliveredAndBack_5 : decode cX6_deliveredAndBack 5 = .ok (.invokevirtual 138, 3) := by decide +kernel
theorem dX6_deliveredAndBack_8 : decode cX6_deliveredAndBack 8 = .ok (.istore_n 1, 1) := by decide +kernel
theorem dX6_deliveredAndBack_9 : decode cX6_deliveredAndBack 9 = .ok (.iconst 0, 1) := by decide +kernel
theorem dX6_deliveredAndBack_10 : decode cX6_deliveredAndBack 10 = .ok (.istore_n 2, 1) := by decide +kernel
theorem dX6_deliveredAndBack_11 : decode cX6_deliveredAndBack 11 = .ok (.iload_n 2, 1) := by decide +kernel
theorem dX6_deliveredAndBack_12 : decode cX6_deliveredAndBack 12 = .ok (.sipush 164, 3) := by decide +kernel
theorem dX6_deliveredAndBack_15 : decode cX6_deliveredAndBack 15 = .ok (.if_icmp .ge 21, 3) := by decide +kernel
theorem dX6_deliveredAndBack_18 : decode cX6_deliveredAndBack 18 = .ok (.aload_n 0, 1) := by decide +kernel
theorem dX6_deliveredAndBack_19 : decode cX6_deliveredAndBack 19 = .ok (.getfield 7, 3) := by decide +kernel
theorem dX6_deliveredAndBack_22 : decode cX6_deliveredAndBack 22 = .ok (.iload_n 2, 1) := by decide +kernel
theorem dX6_deliveredAndBack_23 : decode cX6_deliveredAndBack 23 = .ok (.aload_n 0, 1) := by decide +kernel
theorem dX6_deliveredAndBack_24 : decode cX6_deliveredAndBack 24 = .ok (.getfield 13, 3) := by decide +kernel
theorem dX6_deliveredAndBack_27 : decode cX6_deliveredAndBack 27 = .ok (.iload_n 2, 1) := by decide +kernel
theorem dX6_deliveredAndBack_28 : decode cX6_deliveredAndBack 28 = .ok (.iaload, 1) := by decide +kernel
theorem dX6_deliveredAndBack_29 : decode cX6_deliveredAndBack 29 = .ok (.iastore, 1) := by decide +kernel
theorem dX6_deliveredAndBack_30 : decode cX6_deliveredAndBack 30 = .ok (.iinc 2 1, 3) := by decide +kernel
theorem dX6_deliveredAndBack_33 : decode cX6_deliveredAndBack 33 = .ok (.goto (-22), 3) := by decide +kernel
theorem dX6_deliveredAndBack_36 : decode cX6_deliveredAndBack 36 = .ok (.iload_n 1, 1) := by decide +kernel
theorem dX6_deliveredAndBack_37 : decode cX6_deliveredAndBack 37 = .ok (.ireturn, 1) := by decide +kernel
set_option maxRecDepth 20000 in
theorem ggX6_ifCut_X6_keep : GoodIn wsX6_ifCut wsX6_keep := goodIn_r _ [6, 7, 1, 110, 111, 112, 113] (by decide +kernel) (by decide +kernel)
set_option maxRecDepth 20000 in
theorem gX6_ifCut_X6_keep : GoodIn wsX6_ifCut (wsV RX6 141 RX6 yX6_keep wsX6_keep) := goodIn_app (goodIn_of _ (by decide +kernel)) ggX6_ifCut_X6_keep
set_option maxRecDepth 20000 in
theorem ggX6_ifCut_X6_at : GoodIn wsX6_ifCut wsX6_at := goodIn_r _ [10] (by decide +kernel) (by decide +kernel)
set_option maxRecDepth 20000 in
theorem gX6_ifCut_X6_at : GoodIn wsX6_ifCut (va_wsS RX6 27 yX6_at wsX6_at) := goodIn_app (goodIn_of _ (by decide +kernel)) ggX6_ifCut_X6_at
set_option maxRecDepth 20000 in
theorem ggX6_ifCut_X6_deliveredAndBack : GoodIn wsX6_ifCut wsX6_deliveredAndBack := goodIn_r _ [14, 1, 7, 15, 16, 17, 5, 18, 19, 20, 21, 22, 23, 24, 25, 26, 8, 9, 10, 27, 28, 29, 30, 31, 32, 33, 34, 35, 36, 37, 38, 39, 40, 41, 42, 43, 44, 45, 46, 47, 48, 49, 50, 51, 52, 53, 54, 55, 56, 57, 58, 59, 60, 61, 62, 63, 64, 65, 66, 67, 68, 69, 70, 71, 72, 73, 74, 75, 76, 77, 78, 79, 80, 81, 82, 83, 84, 85, 86, 87, 88, 89, 90, 91, 92, 93, 94, 95, 96, 97, 98, 99, 100, 101, 102, 103, 104, 105, 106, 107, 108, 109, 110, 111, 112, 113] (by decide +kernel) (by decide +kernel)
set_option maxRecDepth 20000 in
theorem gX6_ifCut_X6_deliveredAndBack : GoodIn wsX6_ifCut (wsV RX6 144 RX6 yX6_deliveredAndBack wsX6_deliveredAndBack) := goodIn_app (goodIn_of _ (by decide +kernel)) ggX6_ifCut_X6_deliveredAndBack
theorem dX6_ifCut_0 : decode cX6_ifCut 0 = .ok (.aload_n 0, 1) := by decide +kernel
theorem dX6_ifCut_1 : decode cX6_ifCut 1 = .ok (.invokevirtual 141, 3) := by decide +kernel
theorem dX6_ifCut_4 : decode cX6_ifCut 4 = .ok (.aload_n 0, 1) := by decide +kernel
theorem dX6_ifCut_5 : decode cX6_ifCut 5 = .ok (.getfield 7, 3) := by decide +kernel
theorem dX6_ifCut_8 : decode cX6_ifCut 8 = .ok (.iload_n 1, 1) := by decide +kernel
theorem dX6_ifCut_9 : decode cX6_ifCut 9 = .ok (.iconst 0, 1) := by decide +kernel
theorem dX6_ifCut_10 : decode cX6_ifCut 10 = .ok (.invokestatic 27, 3) := by decide +kernel
theorem dX6_ifCut_13 : decode cX6_ifCut 13 = .ok (.iconst 1, 1) := by decide +kernel
theorem dX6_ifCut_14 : decode cX6_ifCut 14 = .ok (.iastore, 1) := by decide +kernel
theorem dX6_ifCut_15 : decode cX6_ifCut 15 = .ok (.aload_n 0, 1) := by decide +kernel
theorem dX6_ifCut_16 : decode cX6_ifCut 16 = .ok (.getfield 7, 3) := by decide +kernel
theorem dX6_ifCut_19 : decode cX6_ifCut 19 = .ok (.iload_n 1, 1) := by decide +kernel
theorem dX6_ifCut_20 : decode cX6_ifCut 20 = .ok (.iconst 1, 1) := by decide +kernel
theorem dX6_ifCut_21 : decode cX6_ifCut 21 = .ok (.invokestatic 27, 3) := by decide +kernel
theorem dX6_ifCut_24 : decode cX6_ifCut 24 = .ok (.iconst 1, 1) := by decide +kernel
theorem dX6_ifCut_25 : decode cX6_ifCut 25 = .ok (.iastore, 1) := by decide +kernel
theorem dX6_ifCut_26 : decode cX6_ifCut 26 = .ok (.aload_n 0, 1) := by decide +kernel
theorem dX6_ifCut_27 : decode cX6_ifCut 27 = .ok (.invokevirtual 144, 3) := by decide +kernel
theorem dX6_ifCut_30 : decode cX6_ifCut 30 = .ok (.ireturn, 1) := by decide +kernel
set_option maxRecDepth 20000 in
theorem ggX6_deliveredIfCut_X6_isSpan : GoodIn wsX6_deliveredIfCut wsX6_isSpan := goodIn_r _ [5, 6, 7, 8, 4, 9, 118, 119, 120, 121] (by decide +kernel) (by decide +kernel)
set_option maxRecDepth 20000 in
theorem gX6_deliveredIfCut_X6_isSpan : GoodIn wsX6_deliveredIfCut (wsV RX6 60 RX6 yX6_isSpan wsX6_isSpan) := goodIn_app (goodIn_of _ (by decide +kernel)) ggX6_deliveredIfCut_X6_isSpan
set_option maxRecDepth 20000 in
theorem ggX6_deliveredIfCut_X6_ifCut : GoodIn wsX6_deliveredIfCut wsX6_ifCut := goodIn_r _ [13, 6, 14, 15, 16, 4, 17, 18, 19, 20, 21, 22, 23, 24, 25, 26, 27, 28, 29, 30, 31, 32, 33, 34, 35, 36, 37, 38, 39, 40, 41, 42, 43, 44, 45, 46, 47, 48, 49, 50, 51, 52, 53, 54, 55, 56, 57, 58, 59, 60, 61, 62, 63, 64, 65, 66, 67, 68, 69, 70, 71, 72, 73, 74, 75, 76, 77, 7, 8, 9, 78, 79, 80, 81, 82, 83, 84, 85, 86, 87, 88, 89, 90, 91, 92, 93, 94, 95, 96, 97, 98, 99, 100, 101, 102, 103, 104, 105, 106, 107, 108, 109, 110, 111, 112, 113, 114, 115, 116, 117, 118, 119, 120, 121] (by decide +kernel) (by decide +kernel)
set_option maxRecDepth 20000 in
theorem gX6_deliveredIfCut_X6_ifCut : GoodIn wsX6_deliveredIfCut (wsV RX6 147 RX6 yX6_ifCut wsX6_ifCut) := goodIn_app (goodIn_of _ (by decide +kernel)) ggX6_deliveredIfCut_X6_ifCut
theorem dX6_deliveredIfCut_0 : decode cX6_deliveredIfCut 0 = .ok (.aload_n 0, 1) := by decide +kernel
theorem dX6_deliveredIfCut_1 : decode cX6_deliveredIfCut 1 = .ok (.iload_n 1, 1) := by decide +kernel
theorem dX6_deliveredIfCut_2 : decode cX6_deliveredIfCut 2 = .ok (.invokevirtual 60, 3) := by decide +kernel
theorem dX6_deliveredIfCut_5 : decode cX6_deliveredIfCut 5 = .ok (.ifCond .eq 11, 3) := by decide +kernel
theorem dX6_deliveredIfCut_8 : decode cX6_deliveredIfCut 8 = .ok (.aload_n 0, 1) := by decide +kernel
theorem dX6_deliveredIfCut_9 : decode cX6_deliveredIfCut 9 = .ok (.iload_n 1, 1) := by decide +kernel
theorem dX6_deliveredIfCut_10 : decode cX6_deliveredIfCut 10 = .ok (.invokevirtual 147, 3) := by decide +kernel
theorem dX6_deliveredIfCut_13 : decode cX6_deliveredIfCut 13 = .ok (.goto 5, 3) := by decide +kernel
theorem dX6_deliveredIfCut_16 : decode cX6_deliveredIfCut 16 = .ok (.bipush (-2), 2) := by decide +kernel
theorem dX6_deliveredIfCut_18 : decode cX6_deliveredIfCut 18 = .ok (.ireturn, 1) := by decide +kernel
set_option maxRecDepth 20000 in
theorem ggX6_deliveredIfNodeFails_X6_isNode : GoodIn wsX6_deliveredIfNodeFails wsX6_isNode := goodIn_r _ [6, 1, 7, 8, 5, 9, 114, 115, 116, 117] (by decide +kernel) (by decide +kernel)
set_option maxRecDepth 20000 in
theorem gX6_deliveredIfNodeFails_X6_isNode : GoodIn wsX6_deliveredIfNodeFails (wsV RX6 46 RX6 yX6_isNode wsX6_isNode) := goodIn_app (goodIn_of _ (by decide +kernel)) ggX6_deliveredIfNodeFails_X6_isNode
set_option maxRecDepth 20000 in
theorem ggX6_deliveredIfNodeFails_X6_keep : GoodIn wsX6_deliveredIfNodeFails wsX6_keep := goodIn_r _ [13, 14, 1, 114, 115, 116, 117] (by decide +kernel) (by decide +kernel)
set_option maxRecDepth 20000 in
theorem gX6_deliveredIfNodeFails_X6_keep : GoodIn wsX6_deliveredIfNodeFails (wsV RX6 141 RX6 yX6_keep wsX6_keep) := goodIn_app (goodIn_of _ (by decide +kernel)) ggX6_deliveredIfNodeFails_X6_keep
set_option maxRecDepth 20000 in
theorem ggX6_deliveredIfNodeFails_X6_deliveredAndBack : GoodIn wsX6_deliveredIfNodeFails wsX6_deliveredAndBack := goodIn_r _ [18, 1, 14, 19, 20, 21, 5, 22, 23, 24, 25, 26, 27, 28, 29, 30, 31, 32, 33, 34, 35, 36, 37, 38, 39, 40, 41, 42, 43, 44, 45, 46, 47, 48, 49, 50, 51, 52, 53, 54, 55, 56, 57, 58, 59, 60, 61, 62, 63, 64, 65, 66, 67, 68, 69, 70, 71, 72, 73, 7, 8, 9, 74, 75, 76, 77, 78, 79, 80, 81, 82, 83, 84, 85, 86, 87, 88, 89, 90, 91, 92, 93, 94, 95, 96, 97, 98, 99, 100, 101, 102, 103, 104, 105, 106, 107, 108, 109, 110, 111, 112, 113, 114, 115, 116, 117] (by decide +kernel) (by decide +kernel)
set_option maxRecDepth 20000 in
theorem gX6_deliveredIfNodeFails_X6_deliveredAndBack : GoodIn wsX6_deliveredIfNodeFails (wsV RX6 144 RX6 yX6_deliveredAndBack wsX6_deliveredAndBack) := goodIn_app (goodIn_of _ (by decide +kernel)) ggX6_deliveredIfNodeFails_X6_deliveredAndBack
theorem dX6_deliveredIfNodeFails_0 : decode cX6_deliveredIfNodeFails 0 = .ok (.aload_n 0, 1) := by decide +kernel
theorem dX6_deliveredIfNodeFails_1 : decode cX6_deliveredIfNodeFails 1 = .ok (.iload_n 1, 1) := by decide +kernel
theorem dX6_deliveredIfNodeFails_2 : decode cX6_deliveredIfNodeFails 2 = .ok (.invokevirtual 46, 3) := by decide +kernel
theorem dX6_deliveredIfNodeFails_5 : decode cX6_deliveredIfNodeFails 5 = .ok (.ifCond .ne 5, 3) := by decide +kernel
theorem dX6_deliveredIfNodeFails_8 : decode cX6_deliveredIfNodeFails 8 = .ok (.iconst (-1), 1) := by decide +kernel
theorem dX6_deliveredIfNodeFails_9 : decode cX6_deliveredIfNodeFails 9 = .ok (.ireturn, 1) := by decide +kernel
theorem dX6_deliveredIfNodeFails_10 : decode cX6_deliveredIfNodeFails 10 = .ok (.aload_n 0, 1) := by decide +kernel
theorem dX6_deliveredIfNodeFails_11 : decode cX6_deliveredIfNodeFails 11 = .ok (.invokevirtual 141, 3) := by decide +kernel
theorem dX6_deliveredIfNodeFails_14 : decode cX6_deliveredIfNodeFails 14 = .ok (.aload_n 0, 1) := by decide +kernel
theorem dX6_deliveredIfNodeFails_15 : decode cX6_deliveredIfNodeFails 15 = .ok (.getfield 7, 3) := by decide +kernel
theorem dX6_deliveredIfNodeFails_18 : decode cX6_deliveredIfNodeFails 18 = .ok (.iconst 4, 1) := by decide +kernel
theorem dX6_deliveredIfNodeFails_19 : decode cX6_deliveredIfNodeFails 19 = .ok (.iload_n 1, 1) := by decide +kernel
theorem dX6_deliveredIfNodeFails_20 : decode cX6_deliveredIfNodeFails 20 = .ok (.iadd, 1) := by decide +kernel
theorem dX6_deliveredIfNodeFails_21 : decode cX6_deliveredIfNodeFails 21 = .ok (.iconst 1, 1) := by decide +kernel
theorem dX6_deliveredIfNodeFails_22 : decode cX6_deliveredIfNodeFails 22 = .ok (.iastore, 1) := by decide +kernel
theorem dX6_deliveredIfNodeFails_23 : decode cX6_deliveredIfNodeFails 23 = .ok (.aload_n 0, 1) := by decide +kernel
theorem dX6_deliveredIfNodeFails_24 : decode cX6_deliveredIfNodeFails 24 = .ok (.invokevirtual 144, 3) := by decide +kernel
theorem dX6_deliveredIfNodeFails_27 : decode cX6_deliveredIfNodeFails 27 = .ok (.ireturn, 1) := by decide +kernel
set_option maxRecDepth 20000 in
theorem ggX6_worstCut_X6_ifCut : GoodIn wsX6_worstCut wsX6_ifCut := goodIn_r _ [6, 1, 7, 8, 9, 5, 10, 11, 12, 13, 14, 15, 16, 17, 18, 19, 20, 21, 22, 23, 24, 25, 26, 27, 28, 29, 30, 31, 32, 33, 34, 35, 36, 37, 38, 39, 40, 41, 42, 43, 44, 45, 46, 47, 48, 49, 50, 51, 52, 53, 54, 55, 56, 57, 58, 59, 60, 61, 62, 63, 64, 65, 66, 67, 68, 69, 70, 71, 72, 73, 74, 75, 76, 77, 78, 79, 80, 81, 82, 83, 84, 85, 86, 87, 88, 89, 90, 91, 92, 93, 94, 95, 96, 97, 98, 99, 100, 101, 102, 103, 104, 105, 106, 107, 108, 109, 110, 111, 112, 113, 114, 115, 116, 117] (by decide +kernel) (by decide +kernel)
set_option maxRecDepth 20000 in
theorem gX6_worstCut_X6_ifCut : GoodIn wsX6_worstCut (wsV RX6 147 RX6 yX6_ifCut wsX6_ifCut) := goodIn_app (goodIn_of _ (by decide +kernel)) ggX6_worstCut_X6_ifCut
theorem dX6_worstCut_0 : decode cX6_worstCut 0 = .ok (.iconst 0, 1) := by decide +kernel
theorem dX6_worstCut_1 : decode cX6_worstCut 1 = .ok (.istore_n 1, 1) := by decide +kernel
theorem dX6_worstCut_2 : decode cX6_worstCut 2 = .ok (.aload_n 0, 1) := by decide +kernel
theorem dX6_worstCut_3 : decode cX6_worstCut 3 = .ok (.iconst 0, 1) := by decide +kernel
theorem dX6_worstCut_4 : decode cX6_worstCut 4 = .ok (.invokevirtual 147, 3) := by decide +kernel
theorem dX6_worstCut_7 : decode cX6_worstCut 7 = .ok (.istore_n 2, 1) := by decide +kernel
theorem dX6_worstCut_8 : decode cX6_worstCut 8 = .ok (.iconst 1, 1) := by decide +kernel
theorem dX6_worstCut_9 : decode cX6_worstCut 9 = .ok (.istore_n 3, 1) := by decide +kernel
theorem dX6_worstCut_10 : decode cX6_worstCut 10 = .ok (.iload_n 3, 1) := by decide +kernel
theorem dX6_worstCut_11 : decode cX6_worstCut 11 = .ok (.aload_n 0, 1) := by decide +kernel
theorem dX6_worstCut_12 : decode cX6_worstCut 12 = .ok (.getfield 7, 3) := by decide +kernel
theorem dX6_worstCut_15 : decode cX6_worstCut 15 = .ok (.iconst 0, 1) := by decide +kernel
theorem dX6_worstCut_16 : decode cX6_worstCut 16 = .ok (.iaload, 1) := by decide +kernel
theorem dX6_worstCut_17 : decode cX6_worstCut 17 = .ok (.if_icmp .ge 41, 3) := by decide +kernel
theorem dX6_worstCut_20 : decode cX6_worstCut 20 = .ok (.aload_n 0, 1) := by decide +kernel
theorem dX6_worstCut_21 : decode cX6_worstCut 21 = .ok (.iload_n 3, 1) := by decide +kernel
theorem dX6_worstCut_22 : decode cX6_worstCut 22 = .ok (.invokevirtual 147, 3) := by decide +kernel
theorem dX6_worstCut_25 : decode cX6_worstCut 25 = .ok (.istore 4, 2) := by decide +kernel
theorem dX6_worstCut_27 : decode cX6_worstCut 27 = .ok (.iload 4, 2) := by decide +kernel
theorem dX6_worstCut_29 : decode cX6_worstCut 29 = .ok (.iload_n 2, 1) := by decide +kernel
theorem dX6_worstCut_30 : decode cX6_worstCut 30 = .ok (.if_icmp .ge 7, 3) := by decide +kernel
theorem dX6_worstCut_33 : decode cX6_worstCut 33 = .ok (.iload_n 3, 1) := by decide +kernel
theorem dX6_worstCut_34 : decode cX6_worstCut 34 = .ok (.goto 4, 3) := by decide +kernel
theorem dX6_worstCut_37 : decode cX6_worstCut 37 = .ok (.iload_n 1, 1) := by decide +kernel
theorem dX6_worstCut_38 : decode cX6_worstCut 38 = .ok (.istore_n 1, 1) := by decide +kernel
theorem dX6_worstCut_39 : decode cX6_worstCut 39 = .ok (.iload 4, 2) := by decide +kernel
theorem dX6_worstCut_41 : decode cX6_worstCut 41 = .ok (.iload_n 2, 1) := by decide +kernel
theorem dX6_worstCut_42 : decode cX6_worstCut 42 = .ok (.if_icmp .ge 8, 3) := by decide +kernel
theorem dX6_worstCut_45 : decode cX6_worstCut 45 = .ok (.iload 4, 2) := by decide +kernel
theorem dX6_worstCut_47 : decode cX6_worstCut 47 = .ok (.goto 4, 3) := by decide +kernel
theorem dX6_worstCut_50 : decode cX6_worstCut 50 = .ok (.iload_n 2, 1) := by decide +kernel
theorem dX6_worstCut_51 : decode cX6_worstCut 51 = .ok (.istore_n 2, 1) := by decide +kernel
theorem dX6_worstCut_52 : decode cX6_worstCut 52 = .ok (.iinc 3 1, 3) := by decide +kernel
theorem dX6_worstCut_55 : decode cX6_worstCut 55 = .ok (.goto (-45), 3) := by decide +kernel
theorem dX6_worstCut_58 : decode cX6_worstCut 58 = .ok (.iload_n 1, 1) := by decide +kernel
theorem dX6_worstCut_59 : decode cX6_worstCut 59 = .ok (.ireturn, 1) := by decide +kernel
set_option maxRecDepth 20000 in
theorem ggX6_save_X6_in : GoodIn wsX6_save wsX6_in := goodIn_r _ [7] (by decide +kernel) (by decide +kernel)
set_option maxRecDepth 20000 in
theorem gX6_save_X6_in : GoodIn wsX6_save (va_wsS RX6 23 yX6_in wsX6_in) := goodIn_app (goodIn_of _ (by decide +kernel)) ggX6_save_X6_in
theorem dX6_save_0 : decode cX6_save 0 = .ok (.iload_n 1, 1) := by decide +kernel
theorem dX6_save_1 : decode cX6_save 1 = .ok (.iconst 0, 1) := by decide +kernel
theorem dX6_save_2 : decode cX6_save 2 = .ok (.iconst 1, 1) := by decide +kernel
theorem dX6_save_3 : decode cX6_save 3 = .ok (.invokestatic 23, 3) := by decide +kernel
theorem dX6_save_6 : decode cX6_save 6 = .ok (.ifCond .ne 6, 3) := by decide +kernel
theorem dX6_save_9 : decode cX6_save 9 = .ok (.bipush (-4), 2) := by decide +kernel
theorem dX6_save_11 : decode cX6_save 11 = .ok (.ireturn, 1) := by decide +kernel
theorem dX6_save_12 : decode cX6_save 12 = .ok (.iconst 0, 1) := by decide +kernel
theorem dX6_save_13 : decode cX6_save 13 = .ok (.istore_n 2, 1) := by decide +kernel
theorem dX6_save_14 : decode cX6_save 14 = .ok (.iload_n 2, 1) := by decide +kernel
theorem dX6_save_15 : decode cX6_save 15 = .ok (.sipush 164, 3) := by decide +kernel
theorem dX6_save_18 : decode cX6_save 18 = .ok (.if_icmp .ge 27, 3) := by decide +kernel
theorem dX6_save_21 : decode cX6_save 21 = .ok (.aload_n 0, 1) := by decide +kernel
theorem dX6_save_22 : decode cX6_save 22 = .ok (.getfield 16, 3) := by decide +kernel
theorem dX6_save_25 : decode cX6_save 25 = .ok (.sipush 164, 3) := by decide +kernel
theorem dX6_save_28 : decode cX6_save 28 = .ok (.iload_n 1, 1) := by decide +kernel
theorem dX6_save_29 : decode cX6_save 29 = .ok (.imul, 1) := by decide +kernel
theorem dX6_save_30 : decode cX6_save 30 = .ok (.iload_n 2, 1) := by decide +kernel
theorem dX6_save_31 : decode cX6_save 31 = .ok (.iadd, 1) := by decide +kernel
theorem dX6_save_32 : decode cX6_save 32 = .ok (.aload_n 0, 1) := by decide +kernel
theorem dX6_save_33 : decode cX6_save 33 = .ok (.getfield 7, 3) := by decide +kernel
theorem dX6_save_36 : decode cX6_save 36 = .ok (.iload_n 2, 1) := by decide +kernel
theorem dX6_save_37 : decode cX6_save 37 = .ok (.iaload, 1) := by decide +kernel
theorem dX6_save_38 : decode cX6_save 38 = .ok (.iastore, 1) := by decide +kernel
theorem dX6_save_39 : decode cX6_save 39 = .ok (.iinc 2 1, 3) := by decide +kernel
theorem dX6_save_42 : decode cX6_save 42 = .ok (.goto (-28), 3) := by decide +kernel
theorem dX6_save_45 : decode cX6_save 45 = .ok (.aload_n 0, 1) := by decide +kernel
theorem dX6_save_46 : decode cX6_save 46 = .ok (.getfield 19, 3) := by decide +kernel
theorem dX6_save_49 : decode cX6_save 49 = .ok (.iload_n 1, 1) := by decide +kernel
theorem dX6_save_50 : decode cX6_save 50 = .ok (.iconst 1, 1) := by decide +kernel
theorem dX6_save_51 : decode cX6_save 51 = .ok (.bastore, 1) := by decide +kernel
theorem dX6_save_52 : decode cX6_save 52 = .ok (.aload_n 0, 1) := by decide +kernel
theorem dX6_save_53 : decode cX6_save 53 = .ok (.getfield 7, 3) := by decide +kernel
theorem dX6_save_56 : decode cX6_save 56 = .ok (.iconst 3, 1) := by decide +kernel
theorem dX6_save_57 : decode cX6_save 57 = .ok (.iaload, 1) := by decide +kernel
theorem dX6_save_58 : decode cX6_save 58 = .ok (.ireturn, 1) := by decide +kernel
set_option maxRecDepth 20000 in
theorem ggX6_restore_X6_in : GoodIn wsX6_restore wsX6_in := goodIn_r _ [7] (by decide +kernel) (by decide +kernel)
set_option maxRecDepth 20000 in
theorem gX6_restore_X6_in : GoodIn wsX6_restore (va_wsS RX6 23 yX6_in wsX6_in) := goodIn_app (goodIn_of _ (by decide +kernel)) ggX6_restore_X6_in
theorem dX6_restore_0 : decode cX6_restore 0 = .ok (.iload_n 1, 1) := by decide +kernel
theorem dX6_restore_1 : decode cX6_restore 1 = .ok (.iconst 0, 1) := by decide +kernel
theorem dX6_restore_2 : decode cX6_restore 2 = .ok (.iconst 1, 1) := by decide +kernel
theorem dX6_restore_3 : decode cX6_restore 3 = .ok (.invokestatic 23, 3) := by decide +kernel
theorem dX6_restore_6 : decode cX6_restore 6 = .ok (.ifCond .ne 6, 3) := by decide +kernel
theorem dX6_restore_9 : decode cX6_restore 9 = .ok (.bipush (-4), 2) := by decide +kernel
theorem dX6_restore_11 : decode cX6_restore 11 = .ok (.ireturn, 1) := by decide +kernel
theorem dX6_restore_12 : decode cX6_restore 12 = .ok (.aload_n 0, 1) := by decide +kernel
theorem dX6_restore_13 : decode cX6_restore 13 = .ok (.getfield 19, 3) := by decide +kernel
theorem dX6_restore_16 : decode cX6_restore 16 = .ok (.iload_n 1, 1) := by decide +kernel
theorem dX6_restore_17 : decode cX6_restore 17 = .ok (.baload, 1) := by decide +kernel
theorem dX6_restore_18 : decode cX6_restore 18 = .ok (.ifCond .ne 6, 3) := by decide +kernel
theorem dX6_restore_21 : decode cX6_restore 21 = .ok (.bipush (-8), 2) := by decide +kernel
theorem dX6_restore_23 : decode cX6_restore 23 = .ok (.ireturn, 1) := by decide +kernel
theorem dX6_restore_24 : decode cX6_restore 24 = .ok (.iconst 0, 1) := by decide +kernel
theorem dX6_restore_25 : decode cX6_restore 25 = .ok (.istore_n 2, 1) := by decide +kernel
theorem dX6_restore_26 : decode cX6_restore 26 = .ok (.iload_n 2, 1) := by decide +kernel
theorem dX6_restore_27 : decode cX6_restore 27 = .ok (.sipush 164, 3) := by decide +kernel
theorem dX6_restore_30 : decode cX6_restore 30 = .ok (.if_icmp .ge 27, 3) := by decide +kernel
theorem dX6_restore_33 : decode cX6_restore 33 = .ok (.aload_n 0, 1) := by decide +kernel
theorem dX6_restore_34 : decode cX6_restore 34 = .ok (.getfield 7, 3) := by decide +kernel
theorem dX6_restore_37 : decode cX6_restore 37 = .ok (.iload_n 2, 1) := by decide +kernel
theorem dX6_restore_38 : decode cX6_restore 38 = .ok (.aload_n 0, 1) := by decide +kernel
theorem dX6_restore_39 : decode cX6_restore 39 = .ok (.getfield 16, 3) := by decide +kernel
theorem dX6_restore_42 : decode cX6_restore 42 = .ok (.sipush 164, 3) := by decide +kernel
theorem dX6_restore_45 : decode cX6_restore 45 = .ok (.iload_n 1, 1) := by decide +kernel
theorem dX6_restore_46 : decode cX6_restore 46 = .ok (.imul, 1) := by decide +kernel
theorem dX6_restore_47 : decode cX6_restore 47 = .ok (.iload_n 2, 1) := by decide +kernel
theorem dX6_restore_48 : decode cX6_restore 48 = .ok (.iadd, 1) := by decide +kernel
theorem dX6_restore_49 : decode cX6_restore 49 = .ok (.iaload, 1) := by decide +kernel
theorem dX6_restore_50 : decode cX6_restore 50 = .ok (.iastore, 1) := by decide +kernel
theorem dX6_restore_51 : decode cX6_restore 51 = .ok (.iinc 2 1, 3) := by decide +kernel
theorem dX6_restore_54 : decode cX6_restore 54 = .ok (.goto (-28), 3) := by decide +kernel
theorem dX6_restore_57 : decode cX6_restore 57 = .ok (.aload_n 0, 1) := by decide +kernel
theorem dX6_restore_58 : decode cX6_restore 58 = .ok (.getfield 7, 3) := by decide +kernel
theorem dX6_restore_61 : decode cX6_restore 61 = .ok (.iconst 3, 1) := by decide +kernel
theorem dX6_restore_62 : decode cX6_restore 62 = .ok (.iaload, 1) := by decide +kernel
theorem dX6_restore_63 : decode cX6_restore 63 = .ok (.ireturn, 1) := by decide +kernel
