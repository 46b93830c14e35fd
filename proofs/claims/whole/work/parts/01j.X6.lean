theorem dX6_init_0 : decode cX6_init 0 = .ok (.aload_n 0, 1) := by decide +kernel
theorem dX6_init_1 : decode cX6_init 1 = .ok (.invokespecial 1, 3) := by decide +kernel
theorem dX6_init_4 : decode cX6_init 4 = .ok (.aload_n 0, 1) := by decide +kernel
theorem dX6_init_5 : decode cX6_init 5 = .ok (.sipush 164, 3) := by decide +kernel
theorem dX6_init_8 : decode cX6_init 8 = .ok (.newarray .int, 2) := by decide +kernel
theorem dX6_init_10 : decode cX6_init 10 = .ok (.putfield 7, 3) := by decide +kernel
theorem dX6_init_13 : decode cX6_init 13 = .ok (.aload_n 0, 1) := by decide +kernel
theorem dX6_init_14 : decode cX6_init 14 = .ok (.sipush 164, 3) := by decide +kernel
theorem dX6_init_17 : decode cX6_init 17 = .ok (.newarray .int, 2) := by decide +kernel
theorem dX6_init_19 : decode cX6_init 19 = .ok (.putfield 13, 3) := by decide +kernel
theorem dX6_init_22 : decode cX6_init 22 = .ok (.aload_n 0, 1) := by decide +kernel
theorem dX6_init_23 : decode cX6_init 23 = .ok (.sipush 328, 3) := by decide +kernel
theorem dX6_init_26 : decode cX6_init 26 = .ok (.newarray .int, 2) := by decide +kernel
theorem dX6_init_28 : decode cX6_init 28 = .ok (.putfield 16, 3) := by decide +kernel
theorem dX6_init_31 : decode cX6_init 31 = .ok (.aload_n 0, 1) := by decide +kernel
theorem dX6_init_32 : decode cX6_init 32 = .ok (.iconst 2, 1) := by decide +kernel
theorem dX6_init_33 : decode cX6_init 33 = .ok (.newarray .boolean, 2) := by decide +kernel
theorem dX6_init_35 : decode cX6_init 35 = .ok (.putfield 19, 3) := by decide +kernel
theorem dX6_init_38 : decode cX6_init 38 = .ok (.aload_n 0, 1) := by decide +kernel
theorem dX6_init_39 : decode cX6_init 39 = .ok (.getfield 7, 3) := by decide +kernel
theorem dX6_init_42 : decode cX6_init 42 = .ok (.iconst 0, 1) := by decide +kernel
theorem dX6_init_43 : decode cX6_init 43 = .ok (.iconst 4, 1) := by decide +kernel
theorem dX6_init_44 : decode cX6_init 44 = .ok (.iastore, 1) := by decide +kernel
theorem dX6_init_45 : decode cX6_init 45 = .ok (.aload_n 0, 1) := by decide +kernel
theorem dX6_init_46 : decode cX6_init 46 = .ok (.getfield 7, 3) := by decide +kernel
theorem dX6_init_49 : decode cX6_init 49 = .ok (.iconst 1, 1) := by decide +kernel
theorem dX6_init_50 : decode cX6_init 50 = .ok (.iconst 2, 1) := by decide +kernel
theorem dX6_init_51 : decode cX6_init 51 = .ok (.iastore, 1) := by decide +kernel
theorem dX6_init_52 : decode cX6_init 52 = .ok (.aload_n 0, 1) := by decide +kernel
theorem dX6_init_53 : decode cX6_init 53 = .ok (.getfield 7, 3) := by decide +kernel
theorem dX6_init_56 : decode cX6_init 56 = .ok (.iconst 2, 1) := by decide +kernel
theorem dX6_init_57 : decode cX6_init 57 = .ok (.iconst 5, 1) := by decide +kernel
theorem dX6_init_58 : decode cX6_init 58 = .ok (.iastore, 1) := by decide +kernel
theorem dX6_init_59 : decode cX6_init 59 = .ok (.return_, 1) := by decide +kernel
theorem dX6_in_0 : decode cX6_in 0 = .ok (.iload_n 0, 1) := by decide +kernel
theorem dX6_in_1 : decode cX6_in 1 = .ok (.iload_n 1, 1) := by decide +kernel
theorem dX6_in_2 : decode cX6_in 2 = .ok (.if_icmp .lt 12, 3) := by decide +kernel
theorem dX6_in_5 : decode cX6_in 5 = .ok (.iload_n 0, 1) := by decide +kernel
theorem dX6_in_6 : decode cX6_in 6 = .ok (.iload_n 2, 1) := by decide +kernel
theorem dX6_in_7 : decode cX6_in 7 = .ok (.if_icmp .gt 7, 3) := by decide +kernel
theorem dX6_in_10 : decode cX6_in 10 = .ok (.iconst 1, 1) := by decide +kernel
theorem dX6_in_11 : decode cX6_in 11 = .ok (.goto 4, 3) := by decide +kernel
theorem dX6_in_14 : decode cX6_in 14 = .ok (.iconst 0, 1) := by decide +kernel
theorem dX6_in_15 : decode cX6_in 15 = .ok (.ireturn, 1) := by decide +kernel
set_option maxRecDepth 20000 in
theorem ggX6_isNode_X6_in : GoodIn wsX6_isNode wsX6_in := goodIn_r _ [5] (by decide +kernel) (by decide +kernel)
set_option maxRecDepth 20000 in
theorem gX6_isNode_X6_in : GoodIn wsX6_isNode (va_wsS RX6 23 yX6_in wsX6_in) := goodIn_app (goodIn_of _ (by decide +kernel)) ggX6_isNode_X6_in
theorem dX6_isNode_0 : decode cX6_isNode 0 = .ok (.iload_n 1, 1) := by decide +kernel
theorem dX6_isNode_1 : decode cX6_isNode 1 = .ok (.iconst 0, 1) := by decide +kernel
theorem dX6_isNode_2 : decode cX6_isNode 2 = .ok (.aload_n 0, 1) := by decide +kernel
theorem dX6_isNode_3 : decode cX6_isNode 3 = .ok (.getfield 7, 3) := by decide +kernel
theorem dX6_isNode_6 : decode cX6_isNode 6 = .ok (.iconst 0, 1) := by decide +kernel
theorem dX6_isNode_7 : decode cX6_isNode 7 = .ok (.iaload, 1) := by decide +kernel
theorem dX6_isNode_8 : decode cX6_isNode 8 = .ok (.iconst 1, 1) := by decide +kernel
theorem dX6_isNode_9 : decode cX6_isNode 9 = .ok (.isub, 1) := by decide +kernel
theorem dX6_isNode_10 : decode cX6_isNode 10 = .ok (.invokestatic 23, 3) := by decide +kernel
theorem dX6_isNode_13 : decode cX6_isNode 13 = .ok (.ireturn, 1) := by decide +kernel
set_option maxRecDepth 20000 in
theorem ggX6_isSpan_X6_in : GoodIn wsX6_isSpan wsX6_in := goodIn_r _ [5] (by decide +kernel) (by decide +kernel)
set_option maxRecDepth 20000 in
theorem gX6_isSpan_X6_in : GoodIn wsX6_isSpan (va_wsS RX6 23 yX6_in wsX6_in) := goodIn_app (goodIn_of _ (by decide +kernel)) ggX6_isSpan_X6_in
theorem dX6_isSpan_0 : decode cX6_isSpan 0 = .ok (.iload_n 1, 1) := by decide +kernel
theorem dX6_isSpan_1 : decode cX6_isSpan 1 = .ok (.iconst 0, 1) := by decide +kernel
theorem dX6_isSpan_2 : decode cX6_isSpan 2 = .ok (.aload_n 0, 1) := by decide +kernel
theorem dX6_isSpan_3 : decode cX6_isSpan 3 = .ok (.getfield 7, 3) := by decide +kernel
theorem dX6_isSpan_6 : decode cX6_isSpan 6 = .ok (.iconst 0, 1) := by decide +kernel
theorem dX6_isSpan_7 : decode cX6_isSpan 7 = .ok (.iaload, 1) := by decide +kernel
theorem dX6_isSpan_8 : decode cX6_isSpan 8 = .ok (.iconst 1, 1) := by decide +kernel
theorem dX6_isSpan_9 : decode cX6_isSpan 9 = .ok (.isub, 1) := by decide +kernel
theorem dX6_isSpan_10 : decode cX6_isSpan 10 = .ok (.invokestatic 23, 3) := by decide +kernel
theorem dX6_isSpan_13 : decode cX6_isSpan 13 = .ok (.ireturn, 1) := by decide +kernel
theorem dX6_next_0 : decode cX6_next 0 = .ok (.iload_n 1, 1) := by decide +kernel
theorem dX6_next_1 : decode cX6_next 1 = .ok (.iconst 1, 1) := by decide +kernel
theorem dX6_next_2 : decode cX6_next 2 = .ok (.iadd, 1) := by decide +kernel
theorem dX6_next_3 : decode cX6_next 3 = .ok (.aload_n 0, 1) := by decide +kernel
theorem dX6_next_4 : decode cX6_next 4 = .ok (.getfield 7, 3) := by decide +kernel
theorem dX6_next_7 : decode cX6_next 7 = .ok (.iconst 0, 1) := by decide +kernel
theorem dX6_next_8 : decode cX6_next 8 = .ok (.iaload, 1) := by decide +kernel
theorem dX6_next_9 : decode cX6_next 9 = .ok (.irem, 1) := by decide +kernel
theorem dX6_next_10 : decode cX6_next 10 = .ok (.ireturn, 1) := by decide +kernel
theorem dX6_at_0 : decode cX6_at 0 = .ok (.bipush 12, 2) := by decide +kernel
theorem dX6_at_2 : decode cX6_at 2 = .ok (.bipush 7, 2) := by decide +kernel
theorem dX6_at_4 : decode cX6_at 4 = .ok (.iload_n 0, 1) := by decide +kernel
theorem dX6_at_5 : decode cX6_at 5 = .ok (.imul, 1) := by decide +kernel
theorem dX6_at_6 : decode cX6_at 6 = .ok (.iadd, 1) := by decide +kernel
theorem dX6_at_7 : decode cX6_at 7 = .ok (.iload_n 1, 1) := by decide +kernel
theorem dX6_at_8 : decode cX6_at 8 = .ok (.iadd, 1) := by decide +kernel
theorem dX6_at_9 : decode cX6_at 9 = .ok (.ireturn, 1) := by decide +kernel
set_option maxRecDepth 20000 in
theorem ggX6_of_X6_at : GoodIn wsX6_of wsX6_at := goodIn_r _ [5] (by decide +kernel) (by decide +kernel)
set_option maxRecDepth 20000 in
theorem gX6_of_X6_at : GoodIn wsX6_of (va_wsS RX6 27 yX6_at wsX6_at) := goodIn_app (goodIn_of _ (by decide +kernel)) ggX6_of_X6_at
theorem dX6_of_0 : decode cX6_of 0 = .ok (.aload_n 0, 1) := by decide +kernel
theorem dX6_of_1 : decode cX6_of 1 = .ok (.getfield 7, 3) := by decide +kernel
theorem dX6_of_4 : decode cX6_of 4 = .ok (.iload_n 1, 1) := by decide +kernel
theorem dX6_of_5 : decode cX6_of 5 = .ok (.iload_n 2, 1) := by decide +kernel
theorem dX6_of_6 : decode cX6_of 6 = .ok (.invokestatic 27, 3) := by decide +kernel
theorem dX6_of_9 : decode cX6_of 9 = .ok (.iaload, 1) := by decide +kernel
theorem dX6_of_10 : decode cX6_of 10 = .ok (.ireturn, 1) := by decide +kernel
theorem dX6_ofCircuit_0 : decode cX6_ofCircuit 0 = .ok (.aload_n 0, 1) := by decide +kernel
theorem dX6_ofCircuit_1 : decode cX6_ofCircuit 1 = .ok (.getfield 7, 3) := by decide +kernel
theorem dX6_ofCircuit_4 : decode cX6_ofCircuit 4 = .ok (.bipush 68, 2) := by decide +kernel
theorem dX6_ofCircuit_6 : decode cX6_ofCircuit 6 = .ok (.bipush 6, 2) := by decide +kernel
theorem dX6_ofCircuit_8 : decode cX6_ofCircuit 8 = .ok (.iload_n 1, 1) := by decide +kernel
theorem dX6_ofCircuit_9 : decode cX6_ofCircuit 9 = .ok (.imul, 1) := by decide +kernel
theorem dX6_ofCircuit_10 : decode cX6_ofCircuit 10 = .ok (.iadd, 1) := by decide +kernel
theorem dX6_ofCircuit_11 : decode cX6_ofCircuit 11 = .ok (.iload_n 2, 1) := by decide +kernel
theorem dX6_ofCircuit_12 : decode cX6_ofCircuit 12 = .ok (.iadd, 1) := by decide +kernel
theorem dX6_ofCircuit_13 : decode cX6_ofCircuit 13 = .ok (.iaload, 1) := by decide +kernel
theorem dX6_ofCircuit_14 : decode cX6_ofCircuit 14 = .ok (.ireturn, 1) := by decide +kernel
set_option maxRecDepth 20000 in
theorem ggX6_isCircuit_X6_in : GoodIn wsX6_isCircuit wsX6_in := goodIn_r _ [4] (by decide +kernel) (by decide +kernel)
set_option maxRecDepth 20000 in
theorem gX6_isCircuit_X6_in : GoodIn wsX6_isCircuit (va_wsS RX6 23 yX6_in wsX6_in) := goodIn_app (goodIn_of _ (by decide +kernel)) ggX6_isCircuit_X6_in
set_option maxRecDepth 20000 in
theorem ggX6_isCircuit_X6_ofCircuit : GoodIn wsX6_isCircuit wsX6_ofCircuit := goodIn_r _ [8, 9, 10, 11, 12, 13] (by decide +kernel) (by decide +kernel)
set_option maxRecDepth 20000 in
theorem gX6_isCircuit_X6_ofCircuit : GoodIn wsX6_isCircuit (wsV RX6 31 RX6 yX6_ofCircuit wsX6_ofCircuit) := goodIn_app (goodIn_of _ (by decide +kernel)) ggX6_isCircuit_X6_ofCircuit
theorem dX6_isCircuit_0 : decode cX6_isCircuit 0 = .ok (.iload_n 1, 1) := by decide +kernel
theorem dX6_isCircuit_1 : decode cX6_isCircuit 1 = .ok (.iconst 0, 1) := by decide +kernel
theorem dX6_isCircuit_2 : decode cX6_isCircuit 2 = .ok (.bipush 15, 2) := by decide +kernel
theorem dX6_isCircuit_4 : decode cX6_isCircuit 4 = .ok (.invokestatic 23, 3) := by decide +kernel
theorem dX6_isCircuit_7 : decode cX6_isCircuit 7 = .ok (.ifCond .eq 17, 3) := by decide +kernel
theorem dX6_isCircuit_10 : decode cX6_isCircuit 10 = .ok (.aload_n 0, 1) := by decide +kernel
theorem dX6_isCircuit_11 : decode cX6_isCircuit 11 = .ok (.iload_n 1, 1) := by decide +kernel
theorem dX6_isCircuit_12 : decode cX6_isCircuit 12 = .ok (.iconst 0, 1) := by decide +kernel
theorem dX6_isCircuit_13 : decode cX6_isCircuit 13 = .ok (.invokevirtual 31, 3) := by decide +kernel
theorem dX6_isCircuit_16 : decode cX6_isCircuit 16 = .ok (.iconst 1, 1) := by decide +kernel
theorem dX6_isCircuit_17 : decode cX6_isCircuit 17 = .ok (.if_icmp .ne 7, 3) := by decide +kernel
theorem dX6_isCircuit_20 : decode cX6_isCircuit 20 = .ok (.iconst 1, 1) := by decide +kernel
theorem dX6_isCircuit_21 : decode cX6_isCircuit 21 = .ok (.goto 4, 3) := by decide +kernel
theorem dX6_isCircuit_24 : decode cX6_isCircuit 24 = .ok (.iconst 0, 1) := by decide +kernel
theorem dX6_isCircuit_25 : decode cX6_isCircuit 25 = .ok (.ireturn, 1) := by decide +kernel
theorem dX6_set_0 : decode cX6_set 0 = .ok (.aload_n 0, 1) := by decide +kernel
theorem dX6_set_1 : decode cX6_set 1 = .ok (.getfield 7, 3) := by decide +kernel
theorem dX6_set_4 : decode cX6_set 4 = .ok (.iload_n 1, 1) := by decide +kernel
theorem dX6_set_5 : decode cX6_set 5 = .ok (.iaload, 1) := by decide +kernel
theorem dX6_set_6 : decode cX6_set 6 = .ok (.istore_n 3, 1) := by decide +kernel
theorem dX6_set_7 : decode cX6_set 7 = .ok (.aload_n 0, 1) := by decide +kernel
theorem dX6_set_8 : decode cX6_set 8 = .ok (.getfield 7, 3) := by decide +kernel
theorem dX6_set_11 : decode cX6_set 11 = .ok (.iload_n 1, 1) := by decide +kernel
theorem dX6_set_12 : decode cX6_set 12 = .ok (.iload_n 2, 1) := by decide +kernel
theorem dX6_set_13 : decode cX6_set 13 = .ok (.iastore, 1) := by decide +kernel
theorem dX6_set_14 : decode cX6_set 14 = .ok (.iload_n 3, 1) := by decide +kernel
theorem dX6_set_15 : decode cX6_set 15 = .ok (.ireturn, 1) := by decide +kernel
set_option maxRecDepth 20000 in
theorem ggX6_reset_X6_in : GoodIn wsX6_reset wsX6_in := goodIn_r _ [5] (by decide +kernel) (by decide +kernel)
set_option maxRecDepth 20000 in
theorem gX6_reset_X6_in : GoodIn wsX6_reset (va_wsS RX6 23 yX6_in wsX6_in) := goodIn_app (goodIn_of _ (by decide +kernel)) ggX6_reset_X6_in
theorem dX6_reset_0 : decode cX6_reset 0 = .ok (.iload_n 1, 1) := by decide +kernel
theorem dX6_reset_1 : decode cX6_reset 1 = .ok (.iconst 3, 1) := by decide +kernel
theorem dX6_reset_2 : decode cX6_reset 2 = .ok (.bipush 8, 2) := by decide +kernel
theorem dX6_reset_4 : decode cX6_reset 4 = .ok (.invokestatic 23, 3) := by decide +kernel
theorem dX6_reset_7 : decode cX6_reset 7 = .ok (.ifCond .eq 12, 3) := by decide +kernel
theorem dX6_reset_10 : decode cX6_reset 10 = .ok (.iload_n 2, 1) := by decide +kernel
theorem dX6_reset_11 : decode cX6_reset 11 = .ok (.iconst 1, 1) := by decide +kernel
theorem dX6_reset_12 : decode cX6_reset 12 = .ok (.iconst 4, 1) := by decide +kernel
theorem dX6_reset_13 : decode cX6_reset 13 = .ok (.invokestatic 23, 3) := by decide +kernel
theorem dX6_reset_16 : decode cX6_reset 16 = .ok (.ifCond .ne 6, 3) := by decide +kernel
theorem dX6_reset_19 : decode cX6_reset 19 = .ok (.bipush (-4), 2) := by decide +kernel
theorem dX6_reset_21 : decode cX6_reset 21 = .ok (.ireturn, 1) := by decide +kernel
theorem dX6_reset_22 : decode cX6_reset 22 = .ok (.aload_n 0, 1) := by decide +kernel
theorem dX6_reset_23 : decode cX6_reset 23 = .ok (.getfield 7, 3) := by decide +kernel
theorem dX6_reset_26 : decode cX6_reset 26 = .ok (.iconst 0, 1) := by decide +kernel
theorem dX6_reset_27 : decode cX6_reset 27 = .ok (.iaload, 1) := by decide +kernel
theorem dX6_reset_28 : decode cX6_reset 28 = .ok (.istore_n 3, 1) := by decide +kernel
theorem dX6_reset_29 : decode cX6_reset 29 = .ok (.aload_n 0, 1) := by decide +kernel
theorem dX6_reset_30 : decode cX6_reset 30 = .ok (.getfield 7, 3) := by decide +kernel
theorem dX6_reset_33 : decode cX6_reset 33 = .ok (.iconst 2, 1) := by decide +kernel
theorem dX6_reset_34 : decode cX6_reset 34 = .ok (.iaload, 1) := by decide +kernel
theorem dX6_reset_35 : decode cX6_reset 35 = .ok (.istore 4, 2) := by decide +kernel
theorem dX6_reset_37 : decode cX6_reset 37 = .ok (.iconst 0, 1) := by decide +kernel
theorem dX6_reset_38 : decode cX6_reset 38 = .ok (.istore 5, 2) := by decide +kernel
theorem dX6_reset_40 : decode cX6_reset 40 = .ok (.iload 5, 2) := by decide +kernel
theorem dX6_reset_42 : decode cX6_reset 42 = .ok (.sipush 164, 3) := by decide +kernel
theorem dX6_reset_45 : decode cX6_reset 45 = .ok (.if_icmp .ge 17, 3) := by decide +kernel
theorem dX6_reset_48 : decode cX6_reset 48 = .ok (.aload_n 0, 1) := by decide +kernel
theorem dX6_reset_49 : decode cX6_reset 49 = .ok (.getfield 7, 3) := by decide +kernel
theorem dX6_reset_52 : decode cX6_reset 52 = .ok (.iload 5, 2) := by decide +kernel
theorem dX6_reset_54 : decode cX6_reset 54 = .ok (.iconst 0, 1) := by decide +kernel
theorem dX6_reset_55 : decode cX6_reset 55 = .ok (.iastore, 1) := by decide +kernel
theorem dX6_reset_56 : decode cX6_reset 56 = .ok (.iinc 5 1, 3) := by decide +kernel
theorem dX6_reset_59 : decode cX6_reset 59 = .ok (.goto (-19), 3) := by decide +kernel
theorem dX6_reset_62 : decode cX6_reset 62 = .ok (.aload_n 0, 1) := by decide +kernel
theorem dX6_reset_63 : decode cX6_reset 63 = .ok (.getfield 7, 3) := by decide +kernel
theorem dX6_reset_66 : decode cX6_reset 66 = .ok (.iconst 0, 1) := by decide +kernel
theorem dX6_reset_67 : decode cX6_reset 67 = .ok (.iload_n 1, 1) := by decide +kernel
theorem dX6_reset_68 : decode cX6_reset 68 = .ok (.iastore, 1) := by decide +kernel
theorem dX6_reset_69 : decode cX6_reset 69 = .ok (.aload_n 0, 1) := by decide +kernel
theorem dX6_reset_70 : decode cX6_reset 70 = .ok (.getfield 7, 3) := by decide +kernel
theorem dX6_reset_73 : decode cX6_reset 73 = .ok (.iconst 1, 1) := by decide +kernel
theorem dX6_reset_74 : decode cX6_reset 74 = .ok (.iload_n 2, 1) := by decide +kernel
theorem dX6_reset_75 : decode cX6_reset 75 = .ok (.iastore, 1) := by decide +kernel
theorem dX6_reset_76 : decode cX6_reset 76 = .ok (.aload_n 0, 1) := by decide +kernel
theorem dX6_reset_77 : decode cX6_reset 77 = .ok (.getfield 7, 3) := by decide +kernel
theorem dX6_reset_80 : decode cX6_reset 80 = .ok (.iconst 2, 1) := by decide +kernel
theorem dX6_reset_81 : decode cX6_reset 81 = .ok (.iload 4, 2) := by decide +kernel
theorem dX6_reset_83 : decode cX6_reset 83 = .ok (.iastore, 1) := by decide +kernel
theorem dX6_reset_84 : decode cX6_reset 84 = .ok (.iload_n 3, 1) := by decide +kernel
theorem dX6_reset_85 : decode cX6_reset 85 = .ok (.ireturn, 1) := by decide +kernel
theorem dX6_passes_0 : decode cX6_passes 0 = .ok (.aload_n 0, 1) := by decide +kernel
theorem dX6_passes_1 : decode cX6_passes 1 = .ok (.getfield 7, 3) := by decide +kernel
theorem dX6_passes_4 : decode cX6_passes 4 = .ok (.iconst 0, 1) := by decide +kernel
theorem dX6_passes_5 : decode cX6_passes 5 = .ok (.iaload, 1) := by decide +kernel
theorem dX6_passes_6 : decode cX6_passes 6 = .ok (.istore 5, 2) := by decide +kernel
theorem dX6_passes_8 : decode cX6_passes 8 = .ok (.iload_n 2, 1) := by decide +kernel
theorem dX6_passes_9 : decode cX6_passes 9 = .ok (.iload_n 1, 1) := by decide +kernel
theorem dX6_passes_10 : decode cX6_passes 10 = .ok (.isub, 1) := by decide +kernel
theorem dX6_passes_11 : decode cX6_passes 11 = .ok (.iload 5, 2) := by decide +kernel
theorem dX6_passes_13 : decode cX6_passes 13 = .ok (.iadd, 1) := by decide +kernel
theorem dX6_passes_14 : decode cX6_passes 14 = .ok (.iload 5, 2) := by decide +kernel
theorem dX6_passes_16 : decode cX6_passes 16 = .ok (.irem, 1) := by decide +kernel
theorem dX6_passes_17 : decode cX6_passes 17 = .ok (.istore 6, 2) := by decide +kernel
theorem dX6_passes_19 : decode cX6_passes 19 = .ok (.iload 4, 2) := by decide +kernel
theorem dX6_passes_21 : decode cX6_passes 21 = .ok (.iload_n 1, 1) := by decide +kernel
theorem dX6_passes_22 : decode cX6_passes 22 = .ok (.isub, 1) := by decide +kernel
theorem dX6_passes_23 : decode cX6_passes 23 = .ok (.iload 5, 2) := by decide +kernel
theorem dX6_passes_25 : decode cX6_passes 25 = .ok (.iadd, 1) := by decide +kernel
theorem dX6_passes_26 : decode cX6_passes 26 = .ok (.iload 5, 2) := by decide +kernel
theorem dX6_passes_28 : decode cX6_passes 28 = .ok (.irem, 1) := by decide +kernel
theorem dX6_passes_29 : decode cX6_passes 29 = .ok (.iload 6, 2) := by decide +kernel
theorem dX6_passes_31 : decode cX6_passes 31 = .ok (.if_icmp .ge 7, 3) := by decide +kernel
theorem dX6_passes_34 : decode cX6_passes 34 = .ok (.iconst 1, 1) := by decide +kernel
theorem dX6_passes_35 : decode cX6_passes 35 = .ok (.goto 4, 3) := by decide +kernel
theorem dX6_passes_38 : decode cX6_passes 38 = .ok (.iconst 0, 1) := by decide +kernel
theorem dX6_passes_39 : decode cX6_passes 39 = .ok (.istore 7, 2) := by decide +kernel
theorem dX6_passes_41 : decode cX6_passes 41 = .ok (.iload 7, 2) := by decide +kernel
theorem dX6_passes_43 : decode cX6_passes 43 = .ok (.iload_n 3, 1) := by decide +kernel
theorem dX6_passes_44 : decode cX6_passes 44 = .ok (.if_icmp .ne 7, 3) := by decide +kernel
theorem dX6_passes_47 : decode cX6_passes 47 = .ok (.iconst 1, 1) := by decide +kernel
theorem dX6_passes_48 : decode cX6_passes 48 = .ok (.goto 4, 3) := by decide +kernel
theorem dX6_passes_51 : decode cX6_passes 51 = .ok (.iconst 0, 1) := by decide +kernel
theorem dX6_passes_52 : decode cX6_passes 52 = .ok (.ireturn, 1) := by decide +kernel
set_option maxRecDepth 20000 in
theorem ggX6_isOn_X6_ofCircuit : GoodIn wsX6_isOn wsX6_ofCircuit := goodIn_r _ [5, 6, 11, 12, 13, 14] (by decide +kernel) (by decide +kernel)
set_option maxRecDepth 20000 in
theorem gX6_isOn_X6_ofCircuit : GoodIn wsX6_isOn (wsV RX6 31 RX6 yX6_ofCircuit wsX6_ofCircuit) := goodIn_app (goodIn_of _ (by decide +kernel)) ggX6_isOn_X6_ofCircuit
set_option maxRecDepth 20000 in
theorem ggX6_isOn_X6_passes : GoodIn wsX6_isOn wsX6_passes := goodIn_r _ [10, 6, 11, 12, 13, 14] (by decide +kernel) (by decide +kernel)
set_option maxRecDepth 20000 in
theorem gX6_isOn_X6_passes : GoodIn wsX6_isOn (wsV RX6 34 RX6 yX6_passes wsX6_passes) := goodIn_app (goodIn_of _ (by decide +kernel)) ggX6_isOn_X6_passes
theorem dX6_isOn_0 : decode cX6_isOn 0 = .ok (.aload_n 0, 1) := by decide +kernel
theorem dX6_isOn_1 : decode cX6_isOn 1 = .ok (.aload_n 0, 1) := by decide +kernel
theorem dX6_isOn_2 : decode cX6_isOn 2 = .ok (.iload_n 1, 1) := by decide +kernel
theorem dX6_isOn_3 : decode cX6_isOn 3 = .ok (.iconst 1, 1) := by decide +kernel
theorem dX6_isOn_4 : decode cX6_isOn 4 = .ok (.invokevirtual 31, 3) := by decide +kernel
theorem dX6_isOn_7 : decode cX6_isOn 7 = .ok (.aload_n 0, 1) := by decide +kernel
theorem dX6_isOn_8 : decode cX6_isOn 8 = .ok (.iload_n 1, 1) := by decide +kernel
theorem dX6_isOn_9 : decode cX6_isOn 9 = .ok (.iconst 2, 1) := by decide +kernel
theorem dX6_isOn_10 : decode cX6_isOn 10 = .ok (.invokevirtual 31, 3) := by decide +kernel
theorem dX6_isOn_13 : decode cX6_isOn 13 = .ok (.aload_n 0, 1) := by decide +kernel
theorem dX6_isOn_14 : decode cX6_isOn 14 = .ok (.iload_n 1, 1) := by decide +kernel
theorem dX6_isOn_15 : decode cX6_isOn 15 = .ok (.iconst 3, 1) := by decide +kernel
theorem dX6_isOn_16 : decode cX6_isOn 16 = .ok (.invokevirtual 31, 3) := by decide +kernel
theorem dX6_isOn_19 : decode cX6_isOn 19 = .ok (.iconst 1, 1) := by decide +kernel
theorem dX6_isOn_20 : decode cX6_isOn 20 = .ok (.if_icmp .ne 7, 3) := by decide +kernel
theorem dX6_isOn_23 : decode cX6_isOn 23 = .ok (.iconst 1, 1) := by decide +kernel
theorem dX6_isOn_24 : decode cX6_isOn 24 = .ok (.goto 4, 3) := by decide +kernel
theorem dX6_isOn_27 : decode cX6_isOn 27 = .ok (.iconst 0, 1) := by decide +kernel
theorem dX6_isOn_28 : decode cX6_isOn 28 = .ok (.iload_n 2, 1) := by decide +kernel
theorem dX6_isOn_29 : decode cX6_isOn 29 = .ok (.invokevirtual 34, 3) := by decide +kernel
theorem dX6_isOn_32 : decode cX6_isOn 32 = .ok (.ireturn, 1) := by decide +kernel
set_option maxRecDepth 20000 in
theorem ggX6_isSlotFree_X6_isCircuit : GoodIn wsX6_isSlotFree wsX6_isCircuit := goodIn_r _ [6, 7, 8, 5, 9, 10, 11, 12, 13, 1, 22, 23, 24, 25] (by decide +kernel) (by decide +kernel)
set_option maxRecDepth 20000 in
theorem gX6_isSlotFree_X6_isCircuit : GoodIn wsX6_isSlotFree (wsV RX6 38 RX6 yX6_isCircuit wsX6_isCircuit) := goodIn_app (goodIn_of _ (by decide +kernel)) ggX6_isSlotFree_X6_isCircuit
set_option maxRecDepth 20000 in
theorem ggX6_isSlotFree_X6_ofCircuit : GoodIn wsX6_isSlotFree wsX6_ofCircuit := goodIn_r _ [13, 1, 22, 23, 24, 25] (by decide +kernel) (by decide +kernel)
set_option maxRecDepth 20000 in
theorem gX6_isSlotFree_X6_ofCircuit : GoodIn wsX6_isSlotFree (wsV RX6 31 RX6 yX6_ofCircuit wsX6_ofCircuit) := goodIn_app (goodIn_of _ (by decide +kernel)) ggX6_isSlotFree_X6_ofCircuit
set_option maxRecDepth 20000 in
theorem ggX6_isSlotFree_X6_isOn : GoodIn wsX6_isSlotFree wsX6_isOn := goodIn_r _ [17, 10, 11, 12, 5, 13, 1, 18, 19, 20, 21, 22, 23, 24, 25] (by decide +kernel) (by decide +kernel)
set_option maxRecDepth 20000 in
theorem gX6_isSlotFree_X6_isOn : GoodIn wsX6_isSlotFree (wsV RX6 42 RX6 yX6_isOn wsX6_isOn) := goodIn_app (goodIn_of _ (by decide +kernel)) ggX6_isSlotFree_X6_isOn
set_option maxRecDepth 20000 in
theorem ggX6_isSlotFree_X6_passes : GoodIn wsX6_isSlotFree wsX6_passes := goodIn_r _ [21, 1, 22, 23, 24, 25] (by decide +kernel) (by decide +kernel)
set_option maxRecDepth 20000 in
theorem gX6_isSlotFree_X6_passes : GoodIn wsX6_isSlotFree (wsV RX6 34 RX6 yX6_passes wsX6_passes) := goodIn_app (goodIn_of _ (by decide +kernel)) ggX6_isSlotFree_X6_passes
theorem dX6_isSlotFree_0 : decode cX6_isSlotFree 0 = .ok (.iconst 0, 1) := by decide +kernel
theorem dX6_isSlotFree_1 : decode cX6_isSlotFree 1 = .ok (.istore 6, 2) := by decide +kernel
theorem dX6_isSlotFree_3 : decode cX6_isSlotFree 3 = .ok (.iload 6, 2) := by decide +kernel
theorem dX6_isSlotFree_5 : decode cX6_isSlotFree 5 = .ok (.bipush 16, 2) := by decide +kernel
theorem dX6_isSlotFree_7 : decode cX6_isSlotFree 7 = .ok (.if_icmp .ge 107, 3) := by decide +kernel
theorem dX6_isSlotFree_10 : decode cX6_isSlotFree 10 = .ok (.aload_n 0, 1) := by decide +kernel
theorem dX6_isSlotFree_11 : decode cX6_isSlotFree 11 = .ok (.iload 6, 2) := by decide +kernel
theorem dX6_isSlotFree_13 : decode cX6_isSlotFree 13 = .ok (.invokevirtual 38, 3) := by decide +kernel
theorem dX6_isSlotFree_16 : decode cX6_isSlotFree 16 = .ok (.ifCond .eq 39, 3) := by decide +kernel
theorem dX6_isSlotFree_19 : decode cX6_isSlotFree 19 = .ok (.aload_n 0, 1) := by decide +kernel
theorem dX6_isSlotFree_20 : decode cX6_isSlotFree 20 = .ok (.iload 6, 2) := by decide +kernel
theorem dX6_isSlotFree_22 : decode cX6_isSlotFree 22 = .ok (.iconst 4, 1) := by decide +kernel
theorem dX6_isSlotFree_23 : decode cX6_isSlotFree 23 = .ok (.invokevirtual 31, 3) := by decide +kernel
theorem dX6_isSlotFree_26 : decode cX6_isSlotFree 26 = .ok (.iload 4, 2) := by decide +kernel
theorem dX6_isSlotFree_28 : decode cX6_isSlotFree 28 = .ok (.if_icmp .ne 27, 3) := by decide +kernel
theorem dX6_isSlotFree_31 : decode cX6_isSlotFree 31 = .ok (.aload_n 0, 1) := by decide +kernel
theorem dX6_isSlotFree_32 : decode cX6_isSlotFree 32 = .ok (.iload 6, 2) := by decide +kernel
theorem dX6_isSlotFree_34 : decode cX6_isSlotFree 34 = .ok (.iconst 5, 1) := by decide +kernel
theorem dX6_isSlotFree_35 : decode cX6_isSlotFree 35 = .ok (.invokevirtual 31, 3) := by decide +kernel
theorem dX6_isSlotFree_38 : decode cX6_isSlotFree 38 = .ok (.iload 5, 2) := by decide +kernel
theorem dX6_isSlotFree_40 : decode cX6_isSlotFree 40 = .ok (.ifCond .eq 7, 3) := by decide +kernel
theorem dX6_isSlotFree_43 : decode cX6_isSlotFree 43 = .ok (.iconst 1, 1) := by decide +kernel
theorem dX6_isSlotFree_44 : decode cX6_isSlotFree 44 = .ok (.goto 4, 3) := by decide +kernel
theorem dX6_isSlotFree_47 : decode cX6_isSlotFree 47 = .ok (.iconst 0, 1) := by decide +kernel
theorem dX6_isSlotFree_48 : decode cX6_isSlotFree 48 = .ok (.if_icmp .ne 7, 3) := by decide +kernel
theorem dX6_isSlotFree_51 : decode cX6_isSlotFree 51 = .ok (.iconst 1, 1) := by decide +kernel
theorem dX6_isSlotFree_52 : decode cX6_isSlotFree 52 = .ok (.goto 4, 3) := by decide +kernel
theorem dX6_isSlotFree_55 : decode cX6_isSlotFree 55 = .ok (.iconst 0, 1) := by decide +kernel
theorem dX6_isSlotFree_56 : decode cX6_isSlotFree 56 = .ok (.istore 7, 2) := by decide +kernel
theorem dX6_isSlotFree_58 : decode cX6_isSlotFree 58 = .ok (.iconst 0, 1) := by decide +kernel
theorem dX6_isSlotFree_59 : decode cX6_isSlotFree 59 = .ok (.istore 8, 2) := by decide +kernel
theorem dX6_isSlotFree_61 : decode cX6_isSlotFree 61 = .ok (.iload 8, 2) := by decide +kernel
theorem dX6_isSlotFree_63 : decode cX6_isSlotFree 63 = .ok (.aload_n 0, 1) := by decide +kernel
theorem dX6_isSlotFree_64 : decode cX6_isSlotFree 64 = .ok (.getfield 7, 3) := by decide +kernel
theorem dX6_isSlotFree_67 : decode cX6_isSlotFree 67 = .ok (.iconst 0, 1) := by decide +kernel
theorem dX6_isSlotFree_68 : decode cX6_isSlotFree 68 = .ok (.iaload, 1) := by decide +kernel
theorem dX6_isSlotFree_69 : decode cX6_isSlotFree 69 = .ok (.if_icmp .ge 39, 3) := by decide +kernel
theorem dX6_isSlotFree_72 : decode cX6_isSlotFree 72 = .ok (.iload 7, 2) := by decide +kernel
theorem dX6_isSlotFree_74 : decode cX6_isSlotFree 74 = .ok (.ifCond .eq 34, 3) := by decide +kernel
theorem dX6_isSlotFree_77 : decode cX6_isSlotFree 77 = .ok (.aload_n 0, 1) := by decide +kernel
theorem dX6_isSlotFree_78 : decode cX6_isSlotFree 78 = .ok (.iload 6, 2) := by decide +kernel
theorem dX6_isSlotFree_80 : decode cX6_isSlotFree 80 = .ok (.iload 8, 2) := by decide +kernel
theorem dX6_isSlotFree_82 : decode cX6_isSlotFree 82 = .ok (.invokevirtual 42, 3) := by decide +kernel
theorem dX6_isSlotFree_85 : decode cX6_isSlotFree 85 = .ok (.ifCond .eq 17, 3) := by decide +kernel
theorem dX6_isSlotFree_88 : decode cX6_isSlotFree 88 = .ok (.aload_n 0, 1) := by decide +kernel
theorem dX6_isSlotFree_89 : decode cX6_isSlotFree 89 = .ok (.iload_n 1, 1) := by decide +kernel
theorem dX6_isSlotFree_90 : decode cX6_isSlotFree 90 = .ok (.iload_n 2, 1) := by decide +kernel
theorem dX6_isSlotFree_91 : decode cX6_isSlotFree 91 = .ok (.iload_n 3, 1) := by decide +kernel
theorem dX6_isSlotFree_92 : decode cX6_isSlotFree 92 = .ok (.iload 8, 2) := by decide +kernel
theorem dX6_isSlotFree_94 : decode cX6_isSlotFree 94 = .ok (.invokevirtual 34, 3) := by decide +kernel
theorem dX6_isSlotFree_97 : decode cX6_isSlotFree 97 = .ok (.ifCond .eq 5, 3) := by decide +kernel
theorem dX6_isSlotFree_100 : decode cX6_isSlotFree 100 = .ok (.iconst 0, 1) := by decide +kernel
theorem dX6_isSlotFree_101 : decode cX6_isSlotFree 101 = .ok (.ireturn, 1) := by decide +kernel
theorem dX6_isSlotFree_102 : decode cX6_isSlotFree 102 = .ok (.iinc 8 1, 3) := by decide +kernel
theorem dX6_isSlotFree_105 : decode cX6_isSlotFree 105 = .ok (.goto (-44), 3) := by decide +kernel
theorem dX6_isSlotFree_108 : decode cX6_isSlotFree 108 = .ok (.iinc 6 1, 3) := by decide +kernel
theorem dX6_isSlotFree_111 : decode cX6_isSlotFree 111 = .ok (.goto (-108), 3) := by decide +kernel
theorem dX6_isSlotFree_114 : decode cX6_isSlotFree 114 = .ok (.iconst 1, 1) := by decide +kernel
theorem dX6_isSlotFree_115 : decode cX6_isSlotFree 115 = .ok (.ireturn, 1) := by decide +kernel
set_option maxRecDepth 20000 in
theorem ggX6_freeNumber_X6_isCircuit : GoodIn wsX6_freeNumber wsX6_isCircuit := goodIn_r _ [5, 6, 7, 4, 8, 9, 10, 11, 12, 13, 14, 15, 16, 17] (by decide +kernel) (by decide +kernel)
set_option maxRecDepth 20000 in
theorem gX6_freeNumber_X6_isCircuit : GoodIn wsX6_freeNumber (wsV RX6 38 RX6 yX6_isCircuit wsX6_isCircuit) := goodIn_app (goodIn_of _ (by decide +kernel)) ggX6_freeNumber_X6_isCircuit
theorem dX6_freeNumber_0 : decode cX6_freeNumber 0 = .ok (.iconst 0, 1) := by decide +kernel
theorem dX6_freeNumber_1 : decode cX6_freeNumber 1 = .ok (.istore_n 1, 1) := by decide +kernel
theorem dX6_freeNumber_2 : decode cX6_freeNumber 2 = .ok (.iload_n 1, 1) := by decide +kernel
theorem dX6_freeNumber_3 : decode cX6_freeNumber 3 = .ok (.bipush 16, 2) := by decide +kernel
theorem dX6_freeNumber_5 : decode cX6_freeNumber 5 = .ok (.if_icmp .ge 19, 3) := by decide +kernel
theorem dX6_freeNumber_8 : decode cX6_freeNumber 8 = .ok (.aload_n 0, 1) := by decide +kernel
theorem dX6_freeNumber_9 : decode cX6_freeNumber 9 = .ok (.iload_n 1, 1) := by decide +kernel
theorem dX6_freeNumber_10 : decode cX6_freeNumber 10 = .ok (.invokevirtual 38, 3) := by decide +kernel
theorem dX6_freeNumber_13 : decode cX6_freeNumber 13 = .ok (.ifCond .ne 5, 3) := by decide +kernel
theorem dX6_freeNumber_16 : decode cX6_freeNumber 16 = .ok (.iload_n 1, 1) := by decide +kernel
theorem dX6_freeNumber_17 : decode cX6_freeNumber 17 = .ok (.ireturn, 1) := by decide +kernel
theorem dX6_freeNumber_18 : decode cX6_freeNumber 18 = .ok (.iinc 1 1, 3) := by decide +kernel
theorem dX6_freeNumber_21 : decode cX6_freeNumber 21 = .ok (.goto (-19), 3) := by decide +kernel
theorem dX6_freeNumber_24 : decode cX6_freeNumber 24 = .ok (.bipush (-9), 2) := by decide +kernel
theorem dX6_freeNumber_26 : decode cX6_freeNumber 26 = .ok (.ireturn, 1) := by decide +kernel
set_option maxRecDepth 20000 in
theorem ggX6_addCircuit_X6_isNode : GoodIn wsX6_addCircuit wsX6_isNode := goodIn_r _ [6, 1, 7, 8, 5, 9, 34, 35, 36, 37] (by decide +kernel) (by decide +kernel)
set_option maxRecDepth 20000 in
theorem gX6_addCircuit_X6_isNode : GoodIn wsX6_addCircuit (wsV RX6 46 RX6 yX6_isNode wsX6_isNode) := goodIn_app (goodIn_of _ (by decide +kernel)) ggX6_addCircuit_X6_isNode
set_option maxRecDepth 20000 in
theorem ggX6_addCircuit_X6_in : GoodIn wsX6_addCircuit wsX6_in := goodIn_r _ [9] (by decide +kernel) (by decide +kernel)
set_option maxRecDepth 20000 in
theorem gX6_addCircuit_X6_in : GoodIn wsX6_addCircuit (va_wsS RX6 23 yX6_in wsX6_in) := goodIn_app (goodIn_of _ (by decide +kernel)) ggX6_addCircuit_X6_in
set_option maxRecDepth 20000 in
theorem ggX6_addCircuit_X6_freeNumber : GoodIn wsX6_addCircuit wsX6_freeNumber := goodIn_r _ [13, 14, 15, 16, 5, 17, 7, 8, 9, 18, 19, 20, 21, 1, 34, 35, 36, 37] (by decide +kernel) (by decide +kernel)
set_option maxRecDepth 20000 in
theorem gX6_addCircuit_X6_freeNumber : GoodIn wsX6_addCircuit (wsV RX6 49 RX6 yX6_freeNumber wsX6_freeNumber) := goodIn_app (goodIn_of _ (by decide +kernel)) ggX6_addCircuit_X6_freeNumber
set_option maxRecDepth 20000 in
theorem ggX6_addCircuit_X6_isSlotFree : GoodIn wsX6_addCircuit wsX6_isSlotFree := goodIn_r _ [25, 1, 14, 15, 16, 5, 17, 7, 8, 9, 18, 19, 20, 21, 26, 27, 28, 29, 30, 31, 32, 33, 34, 35, 36, 37] (by decide +kernel) (by decide +kernel)
set_option maxRecDepth 20000 in
theorem gX6_addCircuit_X6_isSlotFree : GoodIn wsX6_addCircuit (wsV RX6 53 RX6 yX6_isSlotFree wsX6_isSlotFree) := goodIn_app (goodIn_of _ (by decide +kernel)) ggX6_addCircuit_X6_isSlotFree
theorem dX6_addCircuit_0 : decode cX6_addCircuit 0 = .ok (.aload_n 0, 1) := by decide +kernel
theorem dX6_addCircuit_1 : decode cX6_addCircuit 1 = .ok (.iload_n 1, 1) := by decide +kernel
theorem dX6_addCircuit_2 : decode cX6_addCircuit 2 = .ok (.invokevirtual 46, 3) := by decide +kernel
theorem dX6_addCircuit_5 : decode cX6_addCircuit 5 = .ok (.ifCond .eq 11, 3) := by decide +kernel
theorem dX6_addCircuit_8 : decode cX6_addCircuit 8 = .ok (.aload_n 0, 1) := by decide +kernel
theorem dX6_addCircuit_9 : decode cX6_addCircuit 9 = .ok (.iload_n 2, 1) := by decide +kernel
theorem dX6_addCircuit_10 : decode cX6_addCircuit 10 = .ok (.invokevirtual 46, 3) := by decide +kernel
theorem dX6_addCircuit_13 : decode cX6_addCircuit 13 = .ok (.ifCond .ne 5, 3) := by decide +kernel
theorem dX6_addCircuit_16 : decode cX6_addCircuit 16 = .ok (.iconst (-1), 1) := by decide +kernel
theorem dX6_addCircuit_17 : decode cX6_addCircuit 17 = .ok (.ireturn, 1) := by decide +kernel
theorem dX6_addCircuit_18 : decode cX6_addCircuit 18 = .ok (.iload_n 1, 1) := by decide +kernel
theorem dX6_addCircuit_19 : decode cX6_addCircuit 19 = .ok (.iload_n 2, 1) := by decide +kernel
theorem dX6_addCircuit_20 : decode cX6_addCircuit 20 = .ok (.if_icmp .ne 6, 3) := by decide +kernel
theorem dX6_addCircuit_23 : decode cX6_addCircuit 23 = .ok (.bipush (-5), 2) := by decide +kernel
theorem dX6_addCircuit_25 : decode cX6_addCircuit 25 = .ok (.ireturn, 1) := by decide +kernel
theorem dX6_addCircuit_26 : decode cX6_addCircuit 26 = .ok (.iload 4, 2) := by decide +kernel
theorem dX6_addCircuit_28 : decode cX6_addCircuit 28 = .ok (.iconst 0, 1) := by decide +kernel
theorem dX6_addCircuit_29 : decode cX6_addCircuit 29 = .ok (.aload_n 0, 1) := by decide +kernel
theorem dX6_addCircuit_30 : decode cX6_addCircuit 30 = .ok (.getfield 7, 3) := by decide +kernel
theorem dX6_addCircuit_33 : decode cX6_addCircuit 33 = .ok (.iconst 1, 1) := by decide +kernel
theorem dX6_addCircuit_34 : decode cX6_addCircuit 34 = .ok (.iaload, 1) := by decide +kernel
theorem dX6_addCircuit_35 : decode cX6_addCircuit 35 = .ok (.iconst 1, 1) := by decide +kernel
theorem dX6_addCircuit_36 : decode cX6_addCircuit 36 = .ok (.isub, 1) := by decide +kernel
theorem dX6_addCircuit_37 : decode cX6_addCircuit 37 = .ok (.invokestatic 23, 3) := by decide +kernel
theorem dX6_addCircuit_40 : decode cX6_addCircuit 40 = .ok (.ifCond .ne 6, 3) := by decide +kernel
theorem dX6_addCircuit_43 : decode cX6_addCircuit 43 = .ok (.bipush (-4), 2) := by decide +kernel
theorem dX6_addCircuit_45 : decode cX6_addCircuit 45 = .ok (.ireturn, 1) := by decide +kernel
theorem dX6_addCircuit_46 : decode cX6_addCircuit 46 = .ok (.aload_n 0, 1) := by decide +kernel
theorem dX6_addCircuit_47 : decode cX6_addCircuit 47 = .ok (.invokevirtual 49, 3) := by decide +kernel
theorem dX6_addCircuit_50 : decode cX6_addCircuit 50 = .ok (.istore 6, 2) := by decide +kernel
theorem dX6_addCircuit_52 : decode cX6_addCircuit 52 = .ok (.iload 6, 2) := by decide +kernel
theorem dX6_addCircuit_54 : decode cX6_addCircuit 54 = .ok (.ifCond .ge 6, 3) := by decide +kernel
theorem dX6_addCircuit_57 : decode cX6_addCircuit 57 = .ok (.bipush (-7), 2) := by decide +kernel
theorem dX6_addCircuit_59 : decode cX6_addCircuit 59 = .ok (.ireturn, 1) := by decide +kernel
theorem dX6_addCircuit_60 : decode cX6_addCircuit 60 = .ok (.aload_n 0, 1) := by decide +kernel
theorem dX6_addCircuit_61 : decode cX6_addCircuit 61 = .ok (.iload_n 1, 1) := by decide +kernel
theorem dX6_addCircuit_62 : decode cX6_addCircuit 62 = .ok (.iload_n 2, 1) := by decide +kernel
theorem dX6_addCircuit_63 : decode cX6_addCircuit 63 = .ok (.iload_n 3, 1) := by decide +kernel
theorem dX6_addCircuit_64 : decode cX6_addCircuit 64 = .ok (.iload 4, 2) := by decide +kernel
theorem dX6_addCircuit_66 : decode cX6_addCircuit 66 = .ok (.iload 5, 2) := by decide +kernel
theorem dX6_addCircuit_68 : decode cX6_addCircuit 68 = .ok (.invokevirtual 53, 3) := by decide +kernel
theorem dX6_addCircuit_71 : decode cX6_addCircuit 71 = .ok (.ifCond .ne 6, 3) := by decide +kernel
theorem dX6_addCircuit_74 : decode cX6_addCircuit 74 = .ok (.bipush (-6), 2) := by decide +kernel
theorem dX6_addCircuit_76 : decode cX6_addCircuit 76 = .ok (.ireturn, 1) := by decide +kernel
theorem dX6_addCircuit_77 : decode cX6_addCircuit 77 = .ok (.bipush 68, 2) := by decide +kernel
theorem dX6_addCircuit_79 : decode cX6_addCircuit 79 = .ok (.bipush 6, 2) := by decide +kernel
theorem dX6_addCircuit_81 : decode cX6_addCircuit 81 = .ok (.iload 6, 2) := by decide +kernel
theorem dX6_addCircuit_83 : decode cX6_addCircuit 83 = .ok (.imul, 1) := by decide +kernel
theorem dX6_addCircuit_84 : decode cX6_addCircuit 84 = .ok (.iadd, 1) := by decide +kernel
theorem dX6_addCircuit_85 : decode cX6_addCircuit 85 = .ok (.istore 7, 2) := by decide +kernel
theorem dX6_addCircuit_87 : decode cX6_addCircuit 87 = .ok (.aload_n 0, 1) := by decide +kernel
theorem dX6_addCircuit_88 : decode cX6_addCircuit 88 = .ok (.getfield 7, 3) := by decide +kernel
theorem dX6_addCircuit_91 : decode cX6_addCircuit 91 = .ok (.iload 7, 2) := by decide +kernel
theorem dX6_addCircuit_93 : decode cX6_addCircuit 93 = .ok (.iconst 0, 1) := by decide +kernel
theorem dX6_addCircuit_94 : decode cX6_addCircuit 94 = .ok (.iadd, 1) := by decide +kernel
theorem dX6_addCircuit_95 : decode cX6_addCircuit 95 = .ok (.iconst 1, 1) := by decide +kernel
theorem dX6_addCircuit_96 : decode cX6_addCircuit 96 = .ok (.iastore, 1) := by decide +kernel
theorem dX6_addCircuit_97 : decode cX6_addCircuit 97 = .ok (.aload_n 0, 1) := by decide +kernel
theorem dX6_addCircuit_98 : decode cX6_addCircuit 98 = .ok (.getfield 7, 3) := by decide +kernel
theorem dX6_addCircuit_101 : decode cX6_addCircuit 101 = .ok (.iload 7, 2) := by decide +kernel
theorem dX6_addCircuit_103 : decode cX6_addCircuit 103 = .ok (.iconst 1, 1) := by decide +kernel
theorem dX6_addCircuit_104 : decode cX6_addCircuit 104 = .ok (.iadd, 1) := by decide +kernel
theorem dX6_addCircuit_105 : decode cX6_addCircuit 105 = .ok (.iload_n 1, 1) := by decide +kernel
theorem dX6_addCircuit_106 : decode cX6_addCircuit 106 = .ok (.iastore, 1) := by decide +kernel
theorem dX6_addCircuit_107 : decode cX6_addCircuit 107 = .ok (.aload_n 0, 1) := by decide +kernel
theorem dX6_addCircuit_108 : decode cX6_addCircuit 108 = .ok (.getfield 7, 3) := by decide +kernel
theorem dX6_addCircuit_111 : decode cX6_addCircuit 111 = .ok (.iload 7, 2) := by decide +kernel
theorem dX6_addCircuit_113 : decode cX6_addCircuit 113 = .ok (.iconst 2, 1) := by decide +kernel
theorem dX6_addCircuit_114 : decode cX6_addCircuit 114 = .ok (.iadd, 1) := by decide +kernel
theorem dX6_addCircuit_115 : decode cX6_addCircuit 115 = .ok (.iload_n 2, 1) := by decide +kernel
theorem dX6_addCircuit_116 : decode cX6_addCircuit 116 = .ok (.iastore, 1) := by decide +kernel
theorem dX6_addCircuit_117 : decode cX6_addCircuit 117 = .ok (.aload_n 0, 1) := by decide +kernel
theorem dX6_addCircuit_118 : decode cX6_addCircuit 118 = .ok (.getfield 7, 3) := by decide +kernel
theorem dX6_addCircuit_121 : decode cX6_addCircuit 121 = .ok (.iload 7, 2) := by decide +kernel
theorem dX6_addCircuit_123 : decode cX6_addCircuit 123 = .ok (.iconst 3, 1) := by decide +kernel
theorem dX6_addCircuit_124 : decode cX6_addCircuit 124 = .ok (.iadd, 1) := by decide +kernel
theorem dX6_addCircuit_125 : decode cX6_addCircuit 125 = .ok (.iload_n 3, 1) := by decide +kernel
theorem dX6_addCircuit_126 : decode cX6_addCircuit 126 = .ok (.ifCond .eq 7, 3) := by decide +kernel
theorem dX6_addCircuit_129 : decode cX6_addCircuit 129 = .ok (.iconst 1, 1) := by decide +kernel
theorem dX6_addCircuit_130 : decode cX6_addCircuit 130 = .ok (.goto 4, 3) := by decide +kernel
theorem dX6_addCircuit_133 : decode cX6_addCircuit 133 = .ok (.iconst 0, 1) := by decide +kernel
theorem dX6_addCircuit_134 : decode cX6_addCircuit 134 = .ok (.iastore, 1) := by decide +kernel
theorem dX6_addCircuit_135 : decode cX6_addCircuit 135 = .ok (.aload_n 0, 1) := by decide +kernel
theorem dX6_addCircuit_136 : decode cX6_addCircuit 136 = .ok (.getfield 7, 3) := by decide +kernel
theorem dX6_addCircuit_139 : decode cX6_addCircuit 139 = .ok (.iload 7, 2) := by decide +kernel
theorem dX6_addCircuit_141 : decode cX6_addCircuit 141 = .ok (.iconst 4, 1) := by decide +kernel
theorem dX6_addCircuit_142 : decode cX6_addCircuit 142 = .ok (.iadd, 1) := by decide +kernel
theorem dX6_addCircuit_143 : decode cX6_addCircuit 143 = .ok (.iload 4, 2) := by decide +kernel
theorem dX6_addCircuit_145 : decode cX6_addCircuit 145 = .ok (.iastore, 1) := by decide +kernel
theorem dX6_addCircuit_146 : decode cX6_addCircuit 146 = .ok (.aload_n 0, 1) := by decide +kernel
theorem dX6_addCircuit_147 : decode cX6_addCircuit 147 = .ok (.getfield 7, 3) := by decide +kernel
theorem dX6_addCircuit_150 : decode cX6_addCircuit 150 = .ok (.iload 7, 2) := by decide +kernel
theorem dX6_addCircuit_152 : decode cX6_addCircuit 152 = .ok (.iconst 5, 1) := by decide +kernel
theorem dX6_addCircuit_153 : decode cX6_addCircuit 153 = .ok (.iadd, 1) := by decide +kernel
theorem dX6_addCircuit_154 : decode cX6_addCircuit 154 = .ok (.iload 5, 2) := by decide +kernel
theorem dX6_addCircuit_156 : decode cX6_addCircuit 156 = .ok (.ifCond .eq 7, 3) := by decide +kernel
theorem dX6_addCircuit_159 : decode cX6_addCircuit 159 = .ok (.iconst 1, 1) := by decide +kernel
theorem dX6_addCircuit_160 : decode cX6_addCircuit 160 = .ok (.goto 4, 3) := by decide +kernel
theorem dX6_addCircuit_163 : decode cX6_addCircuit 163 = .ok (.iconst 0, 1) := by decide +kernel
theorem dX6_addCircuit_164 : decode cX6_addCircuit 164 = .ok (.iastore, 1) := by decide +kernel
theorem dX6_addCircuit_165 : decode cX6_addCircuit 165 = .ok (.iload 6, 2) := by decide +kernel
theorem dX6_addCircuit_167 : decode cX6_addCircuit 167 = .ok (.ireturn, 1) := by decide +kernel
set_option maxRecDepth 20000 in
theorem ggX6_circuitCount_X6_ofCircuit : GoodIn wsX6_circuitCount wsX6_ofCircuit := goodIn_r _ [5, 6, 7, 8, 9, 10] (by decide +kernel) (by decide +kernel)
set_option maxRecDepth 20000 in
theorem gX6_circuitCount_X6_ofCircuit : GoodIn wsX6_circuitCount (wsV RX6 31 RX6 yX6_ofCircuit wsX6_ofCircuit) := goodIn_app (goodIn_of _ (by decide +kernel)) ggX6_circuitCount_X6_ofCircuit
theorem dX6_circuitCount_0 : decode cX6_circuitCount 0 = .ok (.iconst 0, 1) := by decide +kernel
theorem dX6_circuitCount_1 : decode cX6_circuitCount 1 = .ok (.istore_n 1, 1) := by decide +kernel
theorem dX6_circuitCount_2 : decode cX6_circuitCount 2 = .ok (.iconst 0, 1) := by decide +kernel
theorem dX6_circuitCount_3 : decode cX6_circuitCount 3 = .ok (.istore_n 2, 1) := by decide +kernel
theorem dX6_circuitCount_4 : decode cX6_circuitCount 4 = .ok (.iload_n 2, 1) := by decide +kernel
theorem dX6_circuitCount_5 : decode cX6_circuitCount 5 = .ok (.bipush 16, 2) := by decide +kernel
theorem dX6_circuitCount_7 : decode cX6_circuitCount 7 = .ok (.if_icmp .ge 18, 3) := by decide +kernel
theorem dX6_circuitCount_10 : decode cX6_circuitCount 10 = .ok (.iload_n 1, 1) := by decide +kernel
theorem dX6_circuitCount_11 : decode cX6_circuitCount 11 = .ok (.aload_n 0, 1) := by decide +kernel
theorem dX6_circuitCount_12 : decode cX6_circuitCount 12 = .ok (.iload_n 2, 1) := by decide +kernel
theorem dX6_circuitCount_13 : decode cX6_circuitCount 13 = .ok (.iconst 0, 1) := by decide +kernel
theorem dX6_circuitCount_14 : decode cX6_circuitCount 14 = .ok (.invokevirtual 31, 3) := by decide +kernel
theorem dX6_circuitCount_17 : decode cX6_circuitCount 17 = .ok (.iadd, 1) := by decide +kernel
theorem dX6_circuitCount_18 : decode cX6_circuitCount 18 = .ok (.istore_n 1, 1) := by decide +kernel
theorem dX6_circuitCount_19 : decode cX6_circuitCount 19 = .ok (.iinc 2 1, 3) := by decide +kernel
theorem dX6_circuitCount_22 : decode cX6_circuitCount 22 = .ok (.goto (-18), 3) := by decide +kernel
theorem dX6_circuitCount_25 : decode cX6_circuitCount 25 = .ok (.iload_n 1, 1) := by decide +kernel
theorem dX6_circuitCount_26 : decode cX6_circuitCount 26 = .ok (.ireturn, 1) := by decide +kernel
set_option maxRecDepth 20000 in
theorem ggX6_removeCircuit_X6_isCircuit : GoodIn wsX6_removeCircuit wsX6_isCircuit := goodIn_r _ [6, 7, 8, 5, 9, 10, 11, 12, 13, 1, 18, 19, 20, 21] (by decide +kernel) (by decide +kernel)
set_option maxRecDepth 20000 in
theorem gX6_removeCircuit_X6_isCircuit : GoodIn wsX6_removeCircuit (wsV RX6 38 RX6 yX6_isCircuit wsX6_isCircuit) := goodIn_app (goodIn_of _ (by decide +kernel)) ggX6_removeCircuit_X6_isCircuit
set_option maxRecDepth 20000 in
theorem ggX6_removeCircuit_X6_circuitCount : GoodIn wsX6_removeCircuit wsX6_circuitCount := goodIn_r _ [17, 10, 11, 12, 5, 13, 1, 18, 19, 20, 21] (by decide +kernel) (by decide +kernel)
set_option maxRecDepth 20000 in
theorem gX6_removeCircuit_X6_circuitCount : GoodIn wsX6_removeCircuit (wsV RX6 57 RX6 yX6_circuitCount wsX6_circuitCount) := goodIn_app (goodIn_of _ (by decide +kernel)) ggX6_removeCircuit_X6_circuitCount
theorem dX6_removeCircuit_0 : decode cX6_removeCircuit 0 = .ok (.aload_n 0, 1) := by decide +kernel
theorem dX6_removeCircuit_1 : decode cX6_removeCircuit 1 = .ok (.iload_n 1, 1) := by decide +kernel
theorem dX6_removeCircuit_2 : decode cX6_removeCircuit 2 = .ok (.invokevirtual 38, 3) := by decide +kernel
theorem dX6_removeCircuit_5 : decode cX6_removeCircuit 5 = .ok (.ifCond .ne 6, 3) := by decide +kernel
theorem dX6_removeCircuit_8 : decode cX6_removeCircuit 8 = .ok (.bipush (-3), 2) := by decide +kernel
theorem dX6_removeCircuit_10 : decode cX6_removeCircuit 10 = .ok (.ireturn, 1) := by decide +kernel
theorem dX6_removeCircuit_11 : decode cX6_removeCircuit 11 = .ok (.iconst 0, 1) := by decide +kernel
theorem dX6_removeCircuit_12 : decode cX6_removeCircuit 12 = .ok (.istore_n 2, 1) := by decide +kernel
theorem dX6_removeCircuit_13 : decode cX6_removeCircuit 13 = .ok (.iload_n 2, 1) := by decide +kernel
theorem dX6_removeCircuit_14 : decode cX6_removeCircuit 14 = .ok (.bipush 6, 2) := by decide +kernel
theorem dX6_removeCircuit_16 : decode cX6_removeCircuit 16 = .ok (.if_icmp .ge 24, 3) := by decide +kernel
theorem dX6_removeCircuit_19 : decode cX6_removeCircuit 19 = .ok (.aload_n 0, 1) := by decide +kernel
theorem dX6_removeCircuit_20 : decode cX6_removeCircuit 20 = .ok (.getfield 7, 3) := by decide +kernel
theorem dX6_removeCircuit_23 : decode cX6_removeCircuit 23 = .ok (.bipush 68, 2) := by decide +kernel
theorem dX6_removeCircuit_25 : decode cX6_removeCircuit 25 = .ok (.bipush 6, 2) := by decide +kernel
theorem dX6_removeCircuit_27 : decode cX6_removeCircuit 27 = .ok (.iload_n 1, 1) := by decide +kernel
theorem dX6_removeCircuit_28 : decode cX6_removeCircuit 28 = .ok (.imul, 1) := by decide +kernel
theorem dX6_removeCircuit_29 : decode cX6_removeCircuit 29 = .ok (.iadd, 1) := by decide +kernel
theorem dX6_removeCircuit_30 : decode cX6_removeCircuit 30 = .ok (.iload_n 2, 1) := by decide +kernel
theorem dX6_removeCircuit_31 : decode cX6_removeCircuit 31 = .ok (.iadd, 1) := by decide +kernel
theorem dX6_removeCircuit_32 : decode cX6_removeCircuit 32 = .ok (.iconst 0, 1) := by decide +kernel
theorem dX6_removeCircuit_33 : decode cX6_removeCircuit 33 = .ok (.iastore, 1) := by decide +kernel
theorem dX6_removeCircuit_34 : decode cX6_removeCircuit 34 = .ok (.iinc 2 1, 3) := by decide +kernel
theorem dX6_removeCircuit_37 : decode cX6_removeCircuit 37 = .ok (.goto (-24), 3) := by decide +kernel
theorem dX6_removeCircuit_40 : decode cX6_removeCircuit 40 = .ok (.aload_n 0, 1) := by decide +kernel
theorem dX6_removeCircuit_41 : decode cX6_removeCircuit 41 = .ok (.invokevirtual 57, 3) := by decide +kernel
theorem dX6_removeCircuit_44 : decode cX6_removeCircuit 44 = .ok (.ireturn, 1) := by decide +kernel
set_option maxRecDepth 20000 in
theorem ggX6_freeSlot_X6_isNode : GoodIn wsX6_freeSlot wsX6_isNode := goodIn_r _ [6, 1, 7, 8, 5, 9, 30, 31, 32, 33] (by decide +kernel) (by decide +kernel)
set_option maxRecDepth 20000 in
theorem gX6_freeSlot_X6_isNode : GoodIn wsX6_freeSlot (wsV RX6 46 RX6 yX6_isNode wsX6_isNode) := goodIn_app (goodIn_of _ (by decide +kernel)) ggX6_freeSlot_X6_isNode
set_option maxRecDepth 20000 in
theorem ggX6_freeSlot_X6_isSlotFree : GoodIn wsX6_freeSlot wsX6_isSlotFree := goodIn_r _ [13, 1, 14, 15, 16, 5, 17, 7, 8, 9, 18, 19, 20, 21, 22, 23, 24, 25, 26, 27, 28, 29, 30, 31, 32, 33] (by decide +kernel) (by decide +kernel)
set_option maxRecDepth 20000 in
theorem gX6_freeSlot_X6_isSlotFree : GoodIn wsX6_freeSlot (wsV RX6 53 RX6 yX6_isSlotFree wsX6_isSlotFree) := goodIn_app (goodIn_of _ (by decide +kernel)) ggX6_freeSlot_X6_isSlotFree
theorem dX6_freeSlot_0 : decode cX6_freeSlot 0 = .ok (.aload_n 0, 1) := by decide +kernel
theorem dX6_freeSlot_1 : decode cX6_freeSlot 1 = .ok (.iload_n 1, 1) := by decide +kernel
theorem dX6_freeSlot_2 : decode cX6_freeSlot 2 = .ok (.invokevirtual 46, 3) := by decide +kernel
theorem dX6_freeSlot_5 : decode cX6_freeSlot 5 = .ok (.ifCond .eq 11, 3) := by decide +kernel
theorem dX6_freeSlot_8 : decode cX6_freeSlot 8 = .ok (.aload_n 0, 1) := by decide +kernel
theorem dX6_freeSlot_9 : decode cX6_freeSlot 9 = .ok (.iload_n 2, 1) := by decide +kernel
theorem dX6_freeSlot_10 : decode cX6_freeSlot 10 = .ok (.invokevirtual 46, 3) := by decide +kernel
theorem dX6_freeSlot_13 : decode cX6_freeSlot 13 = .ok (.ifCond .ne 5, 3) := by decide +kernel
theorem dX6_freeSlot_16 : decode cX6_freeSlot 16 = .ok (.iconst (-1), 1) := by decide +kernel
theorem dX6_freeSlot_17 : decode cX6_freeSlot 17 = .ok (.ireturn, 1) := by decide +kernel
theorem dX6_freeSlot_18 : decode cX6_freeSlot 18 = .ok (.iload_n 1, 1) := by decide +kernel
theorem dX6_freeSlot_19 : decode cX6_freeSlot 19 = .ok (.iload_n 2, 1) := by decide +kernel
theorem dX6_freeSlot_20 : decode cX6_freeSlot 20 = .ok (.if_icmp .ne 6, 3) := by decide +kernel
theorem dX6_freeSlot_23 : decode cX6_freeSlot 23 = .ok (.bipush (-5), 2) := by decide +kernel
theorem dX6_freeSlot_25 : decode cX6_freeSlot 25 = .ok (.ireturn, 1) := by decide +kernel
theorem dX6_freeSlot_26 : decode cX6_freeSlot 26 = .ok (.iconst 0, 1) := by decide +kernel
theorem dX6_freeSlot_27 : decode cX6_freeSlot 27 = .ok (.istore 5, 2) := by decide +kernel
theorem dX6_freeSlot_29 : decode cX6_freeSlot 29 = .ok (.iload 5, 2) := by decide +kernel
theorem dX6_freeSlot_31 : decode cX6_freeSlot 31 = .ok (.aload_n 0, 1) := by decide +kernel
theorem dX6_freeSlot_32 : decode cX6_freeSlot 32 = .ok (.getfield 7, 3) := by decide +kernel
theorem dX6_freeSlot_35 : decode cX6_freeSlot 35 = .ok (.iconst 1, 1) := by decide +kernel
theorem dX6_freeSlot_36 : decode cX6_freeSlot 36 = .ok (.iaload, 1) := by decide +kernel
theorem dX6_freeSlot_37 : decode cX6_freeSlot 37 = .ok (.if_icmp .ge 26, 3) := by decide +kernel
theorem dX6_freeSlot_40 : decode cX6_freeSlot 40 = .ok (.aload_n 0, 1) := by decide +kernel
theorem dX6_freeSlot_41 : decode cX6_freeSlot 41 = .ok (.iload_n 1, 1) := by decide +kernel
theorem dX6_freeSlot_42 : decode cX6_freeSlot 42 = .ok (.iload_n 2, 1) := by decide +kernel
theorem dX6_freeSlot_43 : decode cX6_freeSlot 43 = .ok (.iload_n 3, 1) := by decide +kernel
theorem dX6_freeSlot_44 : decode cX6_freeSlot 44 = .ok (.iload 5, 2) := by decide +kernel
theorem dX6_freeSlot_46 : decode cX6_freeSlot 46 = .ok (.iload 4, 2) := by decide +kernel
theorem dX6_freeSlot_48 : decode cX6_freeSlot 48 = .ok (.invokevirtual 53, 3) := by decide +kernel
theorem dX6_freeSlot_51 : decode cX6_freeSlot 51 = .ok (.ifCond .eq 6, 3) := by decide +kernel
theorem dX6_freeSlot_54 : decode cX6_freeSlot 54 = .ok (.iload 5, 2) := by decide +kernel
theorem dX6_freeSlot_56 : decode cX6_freeSlot 56 = .ok (.ireturn, 1) := by decide +kernel
theorem dX6_freeSlot_57 : decode cX6_freeSlot 57 = .ok (.iinc 5 1, 3) := by decide +kernel
theorem dX6_freeSlot_60 : decode cX6_freeSlot 60 = .ok (.goto (-31), 3) := by decide +kernel
theorem dX6_freeSlot_63 : decode cX6_freeSlot 63 = .ok (.bipush (-9), 2) := by decide +kernel
theorem dX6_freeSlot_65 : decode cX6_freeSlot 65 = .ok (.ireturn, 1) := by decide +kernel
set_option maxRecDepth 20000 in
theorem ggX6_circuitsOn_X6_isSpan : GoodIn wsX6_circuitsOn wsX6_isSpan := goodIn_r _ [5, 6, 7, 8, 4, 9, 26, 27, 28, 29] (by decide +kernel) (by decide +kernel)
set_option maxRecDepth 20000 in
theorem gX6_circuitsOn_X6_isSpan : GoodIn wsX6_circuitsOn (wsV RX6 60 RX6 yX6_isSpan wsX6_isSpan) := goodIn_app (goodIn_of _ (by decide +kernel)) ggX6_circuitsOn_X6_isSpan
set_option maxRecDepth 20000 in
theorem ggX6_circuitsOn_X6_isCircuit : GoodIn wsX6_circuitsOn wsX6_isCircuit := goodIn_r _ [13, 7, 8, 4, 9, 14, 15, 16, 17, 6, 26, 27, 28, 29] (by decide +kernel) (by decide +kernel)
set_option maxRecDepth 20000 in
theorem gX6_circuitsOn_X6_isCircuit : GoodIn wsX6_circuitsOn (wsV RX6 38 RX6 yX6_isCircuit wsX6_isCircuit) := goodIn_app (goodIn_of _ (by decide +kernel)) ggX6_circuitsOn_X6_isCircuit
set_option maxRecDepth 20000 in
theorem ggX6_circuitsOn_X6_isOn : GoodIn wsX6_circuitsOn wsX6_isOn := goodIn_r _ [21, 14, 15, 16, 4, 17, 6, 22, 23, 24, 25, 26, 27, 28, 29] (by decide +kernel) (by decide +kernel)
set_option maxRecDepth 20000 in
theorem gX6_circuitsOn_X6_isOn : GoodIn wsX6_circuitsOn (wsV RX6 42 RX6 yX6_isOn wsX6_isOn) := goodIn_app (goodIn_of _ (by decide +kernel)) ggX6_circuitsOn_X6_isOn
theorem dX6_circuitsOn_0 : decode cX6_circuitsOn 0 = .ok (.aload_n 0, 1) := by decide +kernel
theorem dX6_circuitsOn_1 : decode cX6_circuitsOn 1 = .ok (.iload_n 1, 1) := by decide +kernel
theorem dX6_circuitsOn_2 : decode cX6_circuitsOn 2 = .ok (.invokevirtual 60, 3) := by decide +kernel
theorem dX6_circuitsOn_5 : decode cX6_circuitsOn 5 = .ok (.ifCond .ne 6, 3) := by decide +kernel
theorem dX6_circuitsOn_8 : decode cX6_circuitsOn 8 = .ok (.bipush (-2), 2) := by decide +kernel
theorem dX6_circuitsOn_10 : decode cX6_circuitsOn 10 = .ok (.ireturn, 1) := by decide +kernel
theorem dX6_circuitsOn_11 : decode cX6_circuitsOn 11 = .ok (.iconst 0, 1) := by decide +kernel
theorem dX6_circuitsOn_12 : decode cX6_circuitsOn 12 = .ok (.istore_n 2, 1) := by decide +kernel
theorem dX6_circuitsOn_13 : decode cX6_circuitsOn 13 = .ok (.iconst 0, 1) := by decide +kernel
theorem dX6_circuitsOn_14 : decode cX6_circuitsOn 14 = .ok (.istore_n 3, 1) := by decide +kernel
theorem dX6_circuitsOn_15 : decode cX6_circuitsOn 15 = .ok (.iload_n 3, 1) := by decide +kernel
theorem dX6_circuitsOn_16 : decode cX6_circuitsOn 16 = .ok (.bipush 16, 2) := by decide +kernel
theorem dX6_circuitsOn_18 : decode cX6_circuitsOn 18 = .ok (.if_icmp .ge 36, 3) := by decide +kernel
theorem dX6_circuitsOn_21 : decode cX6_circuitsOn 21 = .ok (.iload_n 2, 1) := by decide +kernel
theorem dX6_circuitsOn_22 : decode cX6_circuitsOn 22 = .ok (.aload_n 0, 1) := by decide +kernel
theorem dX6_circuitsOn_23 : decode cX6_circuitsOn 23 = .ok (.iload_n 3, 1) := by decide +kernel
theorem dX6_circuitsOn_24 : decode cX6_circuitsOn 24 = .ok (.invokevirtual 38, 3) := by decide +kernel
theorem dX6_circuitsOn_27 : decode cX6_circuitsOn 27 = .ok (.ifCond .eq 18, 3) := by decide +kernel
theorem dX6_circuitsOn_30 : decode cX6_circuitsOn 30 = .ok (.aload_n 0, 1) := by decide +kernel
theorem dX6_circuitsOn_31 : decode cX6_circuitsOn 31 = .ok (.iload_n 3, 1) := by decide +kernel
theorem dX6_circuitsOn_32 : decode cX6_circuitsOn 32 = .ok (.iload_n 1, 1) := by decide +kernel
theorem dX6_circuitsOn_33 : decode cX6_circuitsOn 33 = .ok (.invokevirtual 42, 3) := by decide +kernel
theorem dX6_circuitsOn_36 : decode cX6_circuitsOn 36 = .ok (.ifCond .eq 9, 3) := by decide +kernel
theorem dX6_circuitsOn_39 : decode cX6_circuitsOn 39 = .ok (.iconst 1, 1) := by decide +kernel
theorem dX6_circuitsOn_40 : decode cX6_circuitsOn 40 = .ok (.iload_n 3, 1) := by decide +kernel
theorem dX6_circuitsOn_41 : decode cX6_circuitsOn 41 = .ok (.ishl, 1) := by decide +kernel
theorem dX6_circuitsOn_42 : decode cX6_circuitsOn 42 = .ok (.goto 4, 3) := by decide +kernel
theorem dX6_circuitsOn_45 : decode cX6_circuitsOn 45 = .ok (.iconst 0, 1) := by decide +kernel
theorem dX6_circuitsOn_46 : decode cX6_circuitsOn 46 = .ok (.ior, 1) := by decide +kernel
theorem dX6_circuitsOn_47 : decode cX6_circuitsOn 47 = .ok (.istore_n 2, 1) := by decide +kernel
theorem dX6_circuitsOn_48 : decode cX6_circuitsOn 48 = .ok (.iinc 3 1, 3) := by decide +kernel
theorem dX6_circuitsOn_51 : decode cX6_circuitsOn 51 = .ok (.goto (-36), 3) := by decide +kernel
theorem dX6_circuitsOn_54 : decode cX6_circuitsOn 54 = .ok (.iload_n 2, 1) := by decide +kernel
theorem dX6_circuitsOn_55 : decode cX6_circuitsOn 55 = .ok (.ireturn, 1) := by decide +kernel
set_option maxRecDepth 20000 in
theorem ggX6_lengthOf_X6_isOn : GoodIn wsX6_lengthOf wsX6_isOn := goodIn_r _ [6, 7, 8, 9, 5, 10, 1, 11, 12, 13, 14, 15, 16, 17, 18] (by decide +kernel) (by decide +kernel)
set_option maxRecDepth 20000 in
theorem gX6_lengthOf_X6_isOn : GoodIn wsX6_lengthOf (wsV RX6 42 RX6 yX6_isOn wsX6_isOn) := goodIn_app (goodIn_of _ (by decide +kernel)) ggX6_lengthOf_X6_isOn
theorem dX6_lengthOf_0 : decode cX6_lengthOf 0 = .ok (.iconst 0, 1) := by decide +kernel
theorem dX6_lengthOf_1 : decode cX6_lengthOf 1 = .ok (.istore_n 2, 1) := by decide +kernel
theorem dX6_lengthOf_2 : decode cX6_lengthOf 2 = .ok (.iconst 0, 1) := by decide +kernel
theorem dX6_lengthOf_3 : decode cX6_lengthOf 3 = .ok (.istore_n 3, 1) := by decide +kernel
theorem dX6_lengthOf_4 : decode cX6_lengthOf 4 = .ok (.iload_n 3, 1) := by decide +kernel
theorem dX6_lengthOf_5 : decode cX6_lengthOf 5 = .ok (.aload_n 0, 1) := by decide +kernel
theorem dX6_lengthOf_6 : decode cX6_lengthOf 6 = .ok (.getfield 7, 3) := by decide +kernel
theorem dX6_lengthOf_9 : decode cX6_lengthOf 9 = .ok (.iconst 0, 1) := by decide +kernel
theorem dX6_lengthOf_10 : decode cX6_lengthOf 10 = .ok (.iaload, 1) := by decide +kernel
theorem dX6_lengthOf_11 : decode cX6_lengthOf 11 = .ok (.if_icmp .ge 26, 3) := by decide +kernel
theorem dX6_lengthOf_14 : decode cX6_lengthOf 14 = .ok (.iload_n 2, 1) := by decide +kernel
theorem dX6_lengthOf_15 : decode cX6_lengthOf 15 = .ok (.aload_n 0, 1) := by decide +kernel
theorem dX6_lengthOf_16 : decode cX6_lengthOf 16 = .ok (.iload_n 1, 1) := by decide +kernel
theorem dX6_lengthOf_17 : decode cX6_lengthOf 17 = .ok (.iload_n 3, 1) := by decide +kernel
theorem dX6_lengthOf_18 : decode cX6_lengthOf 18 = .ok (.invokevirtual 42, 3) := by decide +kernel
theorem dX6_lengthOf_21 : decode cX6_lengthOf 21 = .ok (.ifCond .eq 7, 3) := by decide +kernel
theorem dX6_lengthOf_24 : decode cX6_lengthOf 24 = .ok (.iconst 1, 1) := by decide +kernel
theorem dX6_lengthOf_25 : decode cX6_lengthOf 25 = .ok (.goto 4, 3) := by decide +kernel
theorem dX6_lengthOf_28 : decode cX6_lengthOf 28 = .ok (.iconst 0, 1) := by decide +kernel
theorem dX6_lengthOf_29 : decode cX6_lengthOf 29 = .ok (.iadd, 1) := by decide +kernel
theorem dX6_lengthOf_30 : decode cX6_lengthOf 30 = .ok (.istore_n 2, 1) := by decide +kernel
theorem dX6_lengthOf_31 : decode cX6_lengthOf 31 = .ok (.iinc 3 1, 3) := by decide +kernel
theorem dX6_lengthOf_34 : decode cX6_lengthOf 34 = .ok (.goto (-30), 3) := by decide +kernel
theorem dX6_lengthOf_37 : decode cX6_lengthOf 37 = .ok (.iload_n 2, 1) := by decide +kernel
theorem dX6_lengthOf_38 : decode cX6_lengthOf 38 = .ok (.ireturn, 1) := by decide +kernel
set_option maxRecDepth 20000 in
theorem ggX6_pathLength_X6_isCircuit : GoodIn wsX6_pathLength wsX6_isCircuit := goodIn_r _ [5, 6, 7, 4, 8, 9, 10, 11, 12, 13, 26, 27, 28, 29] (by decide +kernel) (by decide +kernel)
set_option maxRecDepth 20000 in
theorem gX6_pathLength_X6_isCircuit : GoodIn wsX6_pathLength (wsV RX6 38 RX6 yX6_isCircuit wsX6_isCircuit) := goodIn_app (goodIn_of _ (by decide +kernel)) ggX6_pathLength_X6_isCircuit
set_option maxRecDepth 20000 in
theorem ggX6_pathLength_X6_lengthOf : GoodIn wsX6_pathLength wsX6_lengthOf := goodIn_r _ [17, 13, 18, 19, 20, 4, 21, 9, 10, 11, 12, 22, 23, 24, 25, 26, 27, 28, 29] (by decide +kernel) (by decide +kernel)
set_option maxRecDepth 20000 in
theorem gX6_pathLength_X6_lengthOf : GoodIn wsX6_pathLength (wsV RX6 63 RX6 yX6_lengthOf wsX6_lengthOf) := goodIn_app (goodIn_of _ (by decide +kernel)) ggX6_pathLength_X6_lengthOf
theorem dX6_pathLength_0 : decode cX6_pathLength 0 = .ok (.aload_n 0, 1) := by decide +kernel
theorem dX6_pathLength_1 : decode cX6_pathLength 1 = .ok (.iload_n 1, 1) := by decide +kernel
theorem dX6_pathLength_2 : decode cX6_pathLength 2 = .ok (.invokevirtual 38, 3) := by decide +kernel
theorem dX6_pathLength_5 : decode cX6_pathLength 5 = .ok (.ifCond .eq 11, 3) := by decide +kernel
theorem dX6_pathLength_8 : decode cX6_pathLength 8 = .ok (.aload_n 0, 1) := by decide +kernel
theorem dX6_pathLength_9 : decode cX6_pathLength 9 = .ok (.iload_n 1, 1) := by decide +kernel
theorem dX6_pathLength_10 : decode cX6_pathLength 10 = .ok (.invokevirtual 63, 3) := by decide +kernel
theorem dX6_pathLength_13 : decode cX6_pathLength 13 = .ok (.goto 5, 3) := by decide +kernel
theorem dX6_pathLength_16 : decode cX6_pathLength 16 = .ok (.bipush (-3), 2) := by decide +kernel
theorem dX6_pathLength_18 : decode cX6_pathLength 18 = .ok (.ireturn, 1) := by decide +kernel
set_option maxRecDepth 20000 in
theorem ggX6_isDown_X6_of : GoodIn wsX6_isDown wsX6_of := goodIn_r _ [6, 1, 7, 8, 5, 9, 14, 15, 16, 17] (by decide +kernel) (by decide +kernel)
set_option maxRecDepth 20000 in
theorem gX6_isDown_X6_of : GoodIn wsX6_isDown (wsV RX6 67 RX6 yX6_of wsX6_of) := goodIn_app (goodIn_of _ (by decide +kernel)) ggX6_isDown_X6_of
set_option maxRecDepth 20000 in
theorem ggX6_isDown_X6_next : GoodIn wsX6_isDown wsX6_next := goodIn_r _ [13, 1, 14, 15, 16, 17] (by decide +kernel) (by decide +kernel)
set_option maxRecDepth 20000 in
theorem gX6_isDown_X6_next : GoodIn wsX6_isDown (wsV RX6 70 RX6 yX6_next wsX6_next) := goodIn_app (goodIn_of _ (by decide +kernel)) ggX6_isDown_X6_next
theorem dX6_isDown_0 : decode cX6_isDown 0 = .ok (.aload_n 0, 1) := by decide +kernel
theorem dX6_isDown_1 : decode cX6_isDown 1 = .ok (.iload_n 1, 1) := by decide +kernel
theorem dX6_isDown_2 : decode cX6_isDown 2 = .ok (.iload_n 2, 1) := by decide +kernel
theorem dX6_isDown_3 : decode cX6_isDown 3 = .ok (.invokevirtual 67, 3) := by decide +kernel
theorem dX6_isDown_6 : decode cX6_isDown 6 = .ok (.iconst 1, 1) := by decide +kernel
theorem dX6_isDown_7 : decode cX6_isDown 7 = .ok (.if_icmp .eq 31, 3) := by decide +kernel
theorem dX6_isDown_10 : decode cX6_isDown 10 = .ok (.aload_n 0, 1) := by decide +kernel
theorem dX6_isDown_11 : decode cX6_isDown 11 = .ok (.getfield 7, 3) := by decide +kernel
theorem dX6_isDown_14 : decode cX6_isDown 14 = .ok (.iconst 4, 1) := by decide +kernel
theorem dX6_isDown_15 : decode cX6_isDown 15 = .ok (.iload_n 1, 1) := by decide +kernel
theorem dX6_isDown_16 : decode cX6_isDown 16 = .ok (.iadd, 1) := by decide +kernel
theorem dX6_isDown_17 : decode cX6_isDown 17 = .ok (.iaload, 1) := by decide +kernel
theorem dX6_isDown_18 : decode cX6_isDown 18 = .ok (.iconst 1, 1) := by decide +kernel
theorem dX6_isDown_19 : decode cX6_isDown 19 = .ok (.if_icmp .eq 19, 3) := by decide +kernel
theorem dX6_isDown_22 : decode cX6_isDown 22 = .ok (.aload_n 0, 1) := by decide +kernel
theorem dX6_isDown_23 : decode cX6_isDown 23 = .ok (.getfield 7, 3) := by decide +kernel
theorem dX6_isDown_26 : decode cX6_isDown 26 = .ok (.iconst 4, 1) := by decide +kernel
theorem dX6_isDown_27 : decode cX6_isDown 27 = .ok (.aload_n 0, 1) := by decide +kernel
theorem dX6_isDown_28 : decode cX6_isDown 28 = .ok (.iload_n 1, 1) := by decide +kernel
theorem dX6_isDown_29 : decode cX6_isDown 29 = .ok (.invokevirtual 70, 3) := by decide +kernel
theorem dX6_isDown_32 : decode cX6_isDown 32 = .ok (.iadd, 1) := by decide +kernel
theorem dX6_isDown_33 : decode cX6_isDown 33 = .ok (.iaload, 1) := by decide +kernel
theorem dX6_isDown_34 : decode cX6_isDown 34 = .ok (.iconst 1, 1) := by decide +kernel
theorem dX6_isDown_35 : decode cX6_isDown 35 = .ok (.if_icmp .ne 7, 3) := by decide +kernel
theorem dX6_isDown_38 : decode cX6_isDown 38 = .ok (.iconst 1, 1) := by decide +kernel
theorem dX6_isDown_39 : decode cX6_isDown 39 = .ok (.goto 4, 3) := by decide +kernel
theorem dX6_isDown_42 : decode cX6_isDown 42 = .ok (.iconst 0, 1) := by decide +kernel
theorem dX6_isDown_43 : decode cX6_isDown 43 = .ok (.ireturn, 1) := by decide +kernel
set_option maxRecDepth 20000 in
theorem ggX6_directOf_X6_isDown : GoodIn wsX6_directOf wsX6_isDown := goodIn_r _ [5, 6, 7, 8, 9, 4, 10, 11, 12, 13, 14, 15, 16, 17, 18, 19, 20, 21] (by decide +kernel) (by decide +kernel)
set_option maxRecDepth 20000 in
theorem gX6_directOf_X6_isDown : GoodIn wsX6_directOf (wsV RX6 73 RX6 yX6_isDown wsX6_isDown) := goodIn_app (goodIn_of _ (by decide +kernel)) ggX6_directOf_X6_isDown
set_option maxRecDepth 20000 in
theorem ggX6_directOf_X6_of : GoodIn wsX6_directOf wsX6_of := goodIn_r _ [10, 6, 11, 12, 4, 13, 18, 19, 20, 21] (by decide +kernel) (by decide +kernel)
set_option maxRecDepth 20000 in
theorem gX6_directOf_X6_of : GoodIn wsX6_directOf (wsV RX6 67 RX6 yX6_of wsX6_of) := goodIn_app (goodIn_of _ (by decide +kernel)) ggX6_directOf_X6_of
theorem dX6_directOf_0 : decode cX6_directOf 0 = .ok (.aload_n 0, 1) := by decide +kernel
theorem dX6_directOf_1 : decode cX6_directOf 1 = .ok (.iload_n 1, 1) := by decide +kernel
theorem dX6_directOf_2 : decode cX6_directOf 2 = .ok (.iconst 0, 1) := by decide +kernel
theorem dX6_directOf_3 : decode cX6_directOf 3 = .ok (.invokevirtual 73, 3) := by decide +kernel
theorem dX6_directOf_6 : decode cX6_directOf 6 = .ok (.istore_n 2, 1) := by decide +kernel
theorem dX6_directOf_7 : decode cX6_directOf 7 = .ok (.aload_n 0, 1) := by decide +kernel
theorem dX6_directOf_8 : decode cX6_directOf 8 = .ok (.iload_n 1, 1) := by decide +kernel
theorem dX6_directOf_9 : decode cX6_directOf 9 = .ok (.iconst 1, 1) := by decide +kernel
theorem dX6_directOf_10 : decode cX6_directOf 10 = .ok (.invokevirtual 73, 3) := by decide +kernel
theorem dX6_directOf_13 : decode cX6_directOf 13 = .ok (.istore_n 3, 1) := by decide +kernel
theorem dX6_directOf_14 : decode cX6_directOf 14 = .ok (.aload_n 0, 1) := by decide +kernel
theorem dX6_directOf_15 : decode cX6_directOf 15 = .ok (.iload_n 1, 1) := by decide +kernel
theorem dX6_directOf_16 : decode cX6_directOf 16 = .ok (.iconst 2, 1) := by decide +kernel
theorem dX6_directOf_17 : decode cX6_directOf 17 = .ok (.invokevirtual 67, 3) := by decide +kernel
theorem dX6_directOf_20 : decode cX6_directOf 20 = .ok (.istore 4, 2) := by decide +kernel
theorem dX6_directOf_22 : decode cX6_directOf 22 = .ok (.iconst 0, 1) := by decide +kernel
theorem dX6_directOf_23 : decode cX6_directOf 23 = .ok (.istore 5, 2) := by decide +kernel
theorem dX6_directOf_25 : decode cX6_directOf 25 = .ok (.iload 4, 2) := by decide +kernel
theorem dX6_directOf_27 : decode cX6_directOf 27 = .ok (.bipush 9, 2) := by decide +kernel
theorem dX6_directOf_29 : decode cX6_directOf 29 = .ok (.if_icmp .eq 11, 3) := by decide +kernel
theorem dX6_directOf_32 : decode cX6_directOf 32 = .ok (.iload_n 3, 1) := by decide +kernel
theorem dX6_directOf_33 : decode cX6_directOf 33 = .ok (.ifCond .eq 11, 3) := by decide +kernel
theorem dX6_directOf_36 : decode cX6_directOf 36 = .ok (.iload_n 2, 1) := by decide +kernel
theorem dX6_directOf_37 : decode cX6_directOf 37 = .ok (.ifCond .ne 7, 3) := by decide +kernel
theorem dX6_directOf_40 : decode cX6_directOf 40 = .ok (.bipush 9, 2) := by decide +kernel
theorem dX6_directOf_42 : decode cX6_directOf 42 = .ok (.istore 5, 2) := by decide +kernel
theorem dX6_directOf_44 : decode cX6_directOf 44 = .ok (.iload 4, 2) := by decide +kernel
theorem dX6_directOf_46 : decode cX6_directOf 46 = .ok (.bipush 8, 2) := by decide +kernel
theorem dX6_directOf_48 : decode cX6_directOf 48 = .ok (.if_icmp .eq 26, 3) := by decide +kernel
theorem dX6_directOf_51 : decode cX6_directOf 51 = .ok (.iload 4, 2) := by decide +kernel
theorem dX6_directOf_53 : decode cX6_directOf 53 = .ok (.iconst 4, 1) := by decide +kernel
theorem dX6_directOf_54 : decode cX6_directOf 54 = .ok (.if_icmp .eq 20, 3) := by decide +kernel
theorem dX6_directOf_57 : decode cX6_directOf 57 = .ok (.iload 4, 2) := by decide +kernel
theorem dX6_directOf_59 : decode cX6_directOf 59 = .ok (.bipush 7, 2) := by decide +kernel
theorem dX6_directOf_61 : decode cX6_directOf 61 = .ok (.if_icmp .eq 9, 3) := by decide +kernel
theorem dX6_directOf_64 : decode cX6_directOf 64 = .ok (.iload 4, 2) := by decide +kernel
theorem dX6_directOf_66 : decode cX6_directOf 66 = .ok (.iconst 3, 1) := by decide +kernel
theorem dX6_directOf_67 : decode cX6_directOf 67 = .ok (.if_icmp .ne 11, 3) := by decide +kernel
theorem dX6_directOf_70 : decode cX6_directOf 70 = .ok (.iload_n 3, 1) := by decide +kernel
theorem dX6_directOf_71 : decode cX6_directOf 71 = .ok (.ifCond .ne 7, 3) := by decide +kernel
theorem dX6_directOf_74 : decode cX6_directOf 74 = .ok (.iconst 1, 1) := by decide +kernel
theorem dX6_directOf_75 : decode cX6_directOf 75 = .ok (.goto 4, 3) := by decide +kernel
theorem dX6_directOf_78 : decode cX6_directOf 78 = .ok (.iconst 0, 1) := by decide +kernel
theorem dX6_directOf_79 : decode cX6_directOf 79 = .ok (.istore 6, 2) := by decide +kernel
theorem dX6_directOf_81 : decode cX6_directOf 81 = .ok (.iload 6, 2) := by decide +kernel
theorem dX6_directOf_83 : decode cX6_directOf 83 = .ok (.ifCond .eq 15, 3) := by decide +kernel
theorem dX6_directOf_86 : decode cX6_directOf 86 = .ok (.iload 4, 2) := by decide +kernel
theorem dX6_directOf_88 : decode cX6_directOf 88 = .ok (.iload 5, 2) := by decide +kernel
theorem dX6_directOf_90 : decode cX6_directOf 90 = .ok (.if_icmp .le 8, 3) := by decide +kernel
theorem dX6_directOf_93 : decode cX6_directOf 93 = .ok (.iload 4, 2) := by decide +kernel
theorem dX6_directOf_95 : decode cX6_directOf 95 = .ok (.goto 5, 3) := by decide +kernel
theorem dX6_directOf_98 : decode cX6_directOf 98 = .ok (.iload 5, 2) := by decide +kernel
theorem dX6_directOf_100 : decode cX6_directOf 100 = .ok (.istore 5, 2) := by decide +kernel
theorem dX6_directOf_102 : decode cX6_directOf 102 = .ok (.iload_n 2, 1) := by decide +kernel
theorem dX6_directOf_103 : decode cX6_directOf 103 = .ok (.ifCond .eq 12, 3) := by decide +kernel
theorem dX6_directOf_106 : decode cX6_directOf 106 = .ok (.iload_n 3, 1) := by decide +kernel
theorem dX6_directOf_107 : decode cX6_directOf 107 = .ok (.ifCond .eq 8, 3) := by decide +kernel
theorem dX6_directOf_110 : decode cX6_directOf 110 = .ok (.bipush 6, 2) := by decide +kernel
theorem dX6_directOf_112 : decode cX6_directOf 112 = .ok (.goto 12, 3) := by decide +kernel
theorem dX6_directOf_115 : decode cX6_directOf 115 = .ok (.iload_n 2, 1) := by decide +kernel
theorem dX6_directOf_116 : decode cX6_directOf 116 = .ok (.ifCond .eq 7, 3) := by decide +kernel
theorem dX6_directOf_119 : decode cX6_directOf 119 = .ok (.iconst 5, 1) := by decide +kernel
theorem dX6_directOf_120 : decode cX6_directOf 120 = .ok (.goto 4, 3) := by decide +kernel
theorem dX6_directOf_123 : decode cX6_directOf 123 = .ok (.iconst 0, 1) := by decide +kernel
theorem dX6_directOf_124 : decode cX6_directOf 124 = .ok (.istore 7, 2) := by decide +kernel
theorem dX6_directOf_126 : decode cX6_directOf 126 = .ok (.iload 7, 2) := by decide +kernel
theorem dX6_directOf_128 : decode cX6_directOf 128 = .ok (.iload 5, 2) := by decide +kernel
theorem dX6_directOf_130 : decode cX6_directOf 130 = .ok (.if_icmp .le 8, 3) := by decide +kernel
theorem dX6_directOf_133 : decode cX6_directOf 133 = .ok (.iload 7, 2) := by decide +kernel
theorem dX6_directOf_135 : decode cX6_directOf 135 = .ok (.goto 5, 3) := by decide +kernel
theorem dX6_directOf_138 : decode cX6_directOf 138 = .ok (.iload 5, 2) := by decide +kernel
theorem dX6_directOf_140 : decode cX6_directOf 140 = .ok (.ireturn, 1) := by decide +kernel
set_option maxRecDepth 20000 in
theorem ggX6_requestOf_X6_directOf : GoodIn wsX6_requestOf wsX6_directOf := goodIn_r _ [5, 6, 7, 8, 4, 9, 10, 11, 12, 13, 14, 15, 16, 17, 18, 19, 20, 21, 22, 23, 24, 25] (by decide +kernel) (by decide +kernel)
set_option maxRecDepth 20000 in
theorem gX6_requestOf_X6_directOf : GoodIn wsX6_requestOf (wsV RX6 76 RX6 yX6_directOf wsX6_directOf) := goodIn_app (goodIn_of _ (by decide +kernel)) ggX6_requestOf_X6_directOf
set_option maxRecDepth 20000 in
theorem ggX6_requestOf_X6_of : GoodIn wsX6_requestOf wsX6_of := goodIn_r _ [14, 10, 15, 16, 4, 17, 22, 23, 24, 25] (by decide +kernel) (by decide +kernel)
set_option maxRecDepth 20000 in
theorem gX6_requestOf_X6_of : GoodIn wsX6_requestOf (wsV RX6 67 RX6 yX6_of wsX6_of) := goodIn_app (goodIn_of _ (by decide +kernel)) ggX6_requestOf_X6_of
theorem dX6_requestOf_0 : decode cX6_requestOf 0 = .ok (.aload_n 0, 1) := by decide +kernel
theorem dX6_requestOf_1 : decode cX6_requestOf 1 = .ok (.iload_n 1, 1) := by decide +kernel
theorem dX6_requestOf_2 : decode cX6_requestOf 2 = .ok (.invokevirtual 76, 3) := by decide +kernel
theorem dX6_requestOf_5 : decode cX6_requestOf 5 = .ok (.istore_n 2, 1) := by decide +kernel
theorem dX6_requestOf_6 : decode cX6_requestOf 6 = .ok (.iload_n 2, 1) := by decide +kernel
theorem dX6_requestOf_7 : decode cX6_requestOf 7 = .ok (.ifCond .ne 21, 3) := by decide +kernel
theorem dX6_requestOf_10 : decode cX6_requestOf 10 = .ok (.aload_n 0, 1) := by decide +kernel
theorem dX6_requestOf_11 : decode cX6_requestOf 11 = .ok (.iload_n 1, 1) := by decide +kernel
theorem dX6_requestOf_12 : decode cX6_requestOf 12 = .ok (.iconst 3, 1) := by decide +kernel
theorem dX6_requestOf_13 : decode cX6_requestOf 13 = .ok (.invokevirtual 67, 3) := by decide +kernel
theorem dX6_requestOf_16 : decode cX6_requestOf 16 = .ok (.ifCond .le 12, 3) := by decide +kernel
theorem dX6_requestOf_19 : decode cX6_requestOf 19 = .ok (.aload_n 0, 1) := by decide +kernel
theorem dX6_requestOf_20 : decode cX6_requestOf 20 = .ok (.iload_n 1, 1) := by decide +kernel
theorem dX6_requestOf_21 : decode cX6_requestOf 21 = .ok (.iconst 4, 1) := by decide +kernel
theorem dX6_requestOf_22 : decode cX6_requestOf 22 = .ok (.invokevirtual 67, 3) := by decide +kernel
theorem dX6_requestOf_25 : decode cX6_requestOf 25 = .ok (.goto 4, 3) := by decide +kernel
theorem dX6_requestOf_28 : decode cX6_requestOf 28 = .ok (.iload_n 2, 1) := by decide +kernel
theorem dX6_requestOf_29 : decode cX6_requestOf 29 = .ok (.ireturn, 1) := by decide +kernel
set_option maxRecDepth 20000 in
theorem ggX6_compare_X6_of : GoodIn wsX6_compare wsX6_of := goodIn_r _ [6, 1, 7, 8, 5, 9, 22, 23, 24, 25] (by decide +kernel) (by decide +kernel)
set_option maxRecDepth 20000 in
theorem gX6_compare_X6_of : GoodIn wsX6_compare (wsV RX6 67 RX6 yX6_of wsX6_of) := goodIn_app (goodIn_of _ (by decide +kernel)) ggX6_compare_X6_of
set_option maxRecDepth 20000 in
theorem ggX6_compare_X6_directOf : GoodIn wsX6_compare wsX6_directOf := goodIn_r _ [13, 14, 15, 16, 5, 17, 1, 2, 3, 4, 6, 7, 8, 9, 18, 19, 20, 21, 22, 23, 24, 25] (by decide +kernel) (by decide +kernel)
set_option maxRecDepth 20000 in
theorem gX6_compare_X6_directOf : GoodIn wsX6_compare (wsV RX6 76 RX6 yX6_directOf wsX6_directOf) := goodIn_app (goodIn_of _ (by decide +kernel)) ggX6_compare_X6_directOf
set_option maxRecDepth 20000 in
theorem ggX6_compare_X6_at : GoodIn wsX6_compare wsX6_at := goodIn_r _ [9] (by decide +kernel) (by decide +kernel)
set_option maxRecDepth 20000 in
theorem gX6_compare_X6_at : GoodIn wsX6_compare (va_wsS RX6 27 yX6_at wsX6_at) := goodIn_app (goodIn_of _ (by decide +kernel)) ggX6_compare_X6_at
theorem dX6_compare_0 : decode cX6_compare 0 = .ok (.aload_n 0, 1) := by decide +kernel
theorem dX6_compare_1 : decode cX6_compare 1 = .ok (.iload_n 1, 1) := by decide +kernel
theorem dX6_compare_2 : decode cX6_compare 2 = .ok (.iconst 5, 1) := by decide +kernel
theorem dX6_compare_3 : decode cX6_compare 3 = .ok (.invokevirtual 67, 3) := by decide +kernel
theorem dX6_compare_6 : decode cX6_compare 6 = .ok (.istore_n 2, 1) := by decide +kernel
theorem dX6_compare_7 : decode cX6_compare 7 = .ok (.aload_n 0, 1) := by decide +kernel
theorem dX6_compare_8 : decode cX6_compare 8 = .ok (.iload_n 1, 1) := by decide +kernel
theorem dX6_compare_9 : decode cX6_compare 9 = .ok (.invokevirtual 76, 3) := by decide +kernel
theorem dX6_compare_12 : decode cX6_compare 12 = .ok (.istore_n 3, 1) := by decide +kernel
theorem dX6_compare_13 : decode cX6_compare 13 = .ok (.iload_n 2, 1) := by decide +kernel
