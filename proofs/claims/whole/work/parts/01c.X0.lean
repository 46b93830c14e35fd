theorem dX0_init_0 : decode cX0_init 0 = .ok (.aload_n 0, 1) := by decide +kernel
theorem dX0_init_1 : decode cX0_init 1 = .ok (.invokespecial 3, 3) := by decide +kernel
theorem dX0_init_4 : decode cX0_init 4 = .ok (.aload_n 0, 1) := by decide +kernel
theorem dX0_init_5 : decode cX0_init 5 = .ok (.bipush 16, 2) := by decide +kernel
theorem dX0_init_7 : decode cX0_init 7 = .ok (.newarray .int, 2) := by decide +kernel
theorem dX0_init_9 : decode cX0_init 9 = .ok (.putfield 9, 3) := by decide +kernel
theorem dX0_init_12 : decode cX0_init 12 = .ok (.aload_n 0, 1) := by decide +kernel
theorem dX0_init_13 : decode cX0_init 13 = .ok (.bipush 16, 2) := by decide +kernel
theorem dX0_init_15 : decode cX0_init 15 = .ok (.newarray .int, 2) := by decide +kernel
theorem dX0_init_17 : decode cX0_init 17 = .ok (.putfield 15, 3) := by decide +kernel
theorem dX0_init_20 : decode cX0_init 20 = .ok (.aload_n 0, 1) := by decide +kernel
theorem dX0_init_21 : decode cX0_init 21 = .ok (.bipush 16, 2) := by decide +kernel
theorem dX0_init_23 : decode cX0_init 23 = .ok (.newarray .int, 2) := by decide +kernel
theorem dX0_init_25 : decode cX0_init 25 = .ok (.putfield 18, 3) := by decide +kernel
theorem dX0_init_28 : decode cX0_init 28 = .ok (.aload_n 0, 1) := by decide +kernel
theorem dX0_init_29 : decode cX0_init 29 = .ok (.bipush 16, 2) := by decide +kernel
theorem dX0_init_31 : decode cX0_init 31 = .ok (.newarray .int, 2) := by decide +kernel
theorem dX0_init_33 : decode cX0_init 33 = .ok (.putfield 21, 3) := by decide +kernel
theorem dX0_init_36 : decode cX0_init 36 = .ok (.return_, 1) := by decide +kernel
theorem dX0_has_0 : decode cX0_has 0 = .ok (.iload_n 1, 1) := by decide +kernel
theorem dX0_has_1 : decode cX0_has 1 = .ok (.ifCond .lt 22, 3) := by decide +kernel
theorem dX0_has_4 : decode cX0_has 4 = .ok (.iload_n 1, 1) := by decide +kernel
theorem dX0_has_5 : decode cX0_has 5 = .ok (.bipush 16, 2) := by decide +kernel
theorem dX0_has_7 : decode cX0_has 7 = .ok (.if_icmp .ge 16, 3) := by decide +kernel
theorem dX0_has_10 : decode cX0_has 10 = .ok (.aload_n 0, 1) := by decide +kernel
theorem dX0_has_11 : decode cX0_has 11 = .ok (.getfield 18, 3) := by decide +kernel
theorem dX0_has_14 : decode cX0_has 14 = .ok (.iload_n 1, 1) := by decide +kernel
theorem dX0_has_15 : decode cX0_has 15 = .ok (.iaload, 1) := by decide +kernel
theorem dX0_has_16 : decode cX0_has 16 = .ok (.ifCond .eq 7, 3) := by decide +kernel
theorem dX0_has_19 : decode cX0_has 19 = .ok (.iconst 1, 1) := by decide +kernel
theorem dX0_has_20 : decode cX0_has 20 = .ok (.goto 4, 3) := by decide +kernel
theorem dX0_has_23 : decode cX0_has 23 = .ok (.iconst 0, 1) := by decide +kernel
theorem dX0_has_24 : decode cX0_has 24 = .ok (.ireturn, 1) := by decide +kernel
set_option maxRecDepth 20000 in
theorem ggX0_firstEndOf_X0_has : GoodIn wsX0_firstEndOf wsX0_has := goodIn_r _ [6, 7, 8, 9, 10, 11, 12] (by decide +kernel) (by decide +kernel)
set_option maxRecDepth 20000 in
theorem gX0_firstEndOf_X0_has : GoodIn wsX0_firstEndOf (wsV RX0 24 RX0 yX0_has wsX0_has) := goodIn_app (goodIn_of _ (by decide +kernel)) ggX0_firstEndOf_X0_has
theorem dX0_firstEndOf_0 : decode cX0_firstEndOf 0 = .ok (.aload_n 0, 1) := by decide +kernel
theorem dX0_firstEndOf_1 : decode cX0_firstEndOf 1 = .ok (.iload_n 1, 1) := by decide +kernel
theorem dX0_firstEndOf_2 : decode cX0_firstEndOf 2 = .ok (.invokevirtual 24, 3) := by decide +kernel
theorem dX0_firstEndOf_5 : decode cX0_firstEndOf 5 = .ok (.ifCond .eq 12, 3) := by decide +kernel
theorem dX0_firstEndOf_8 : decode cX0_firstEndOf 8 = .ok (.aload_n 0, 1) := by decide +kernel
theorem dX0_firstEndOf_9 : decode cX0_firstEndOf 9 = .ok (.getfield 9, 3) := by decide +kernel
theorem dX0_firstEndOf_12 : decode cX0_firstEndOf 12 = .ok (.iload_n 1, 1) := by decide +kernel
theorem dX0_firstEndOf_13 : decode cX0_firstEndOf 13 = .ok (.iaload, 1) := by decide +kernel
theorem dX0_firstEndOf_14 : decode cX0_firstEndOf 14 = .ok (.goto 4, 3) := by decide +kernel
theorem dX0_firstEndOf_17 : decode cX0_firstEndOf 17 = .ok (.iconst 0, 1) := by decide +kernel
theorem dX0_firstEndOf_18 : decode cX0_firstEndOf 18 = .ok (.ireturn, 1) := by decide +kernel
set_option maxRecDepth 20000 in
theorem ggX0_secondEndOf_X0_has : GoodIn wsX0_secondEndOf wsX0_has := goodIn_r _ [6, 7, 8, 9, 10, 11, 12] (by decide +kernel) (by decide +kernel)
set_option maxRecDepth 20000 in
theorem gX0_secondEndOf_X0_has : GoodIn wsX0_secondEndOf (wsV RX0 24 RX0 yX0_has wsX0_has) := goodIn_app (goodIn_of _ (by decide +kernel)) ggX0_secondEndOf_X0_has
theorem dX0_secondEndOf_0 : decode cX0_secondEndOf 0 = .ok (.aload_n 0, 1) := by decide +kernel
theorem dX0_secondEndOf_1 : decode cX0_secondEndOf 1 = .ok (.iload_n 1, 1) := by decide +kernel
theorem dX0_secondEndOf_2 : decode cX0_secondEndOf 2 = .ok (.invokevirtual 24, 3) := by decide +kernel
theorem dX0_secondEndOf_5 : decode cX0_secondEndOf 5 = .ok (.ifCond .eq 12, 3) := by decide +kernel
theorem dX0_secondEndOf_8 : decode cX0_secondEndOf 8 = .ok (.aload_n 0, 1) := by decide +kernel
theorem dX0_secondEndOf_9 : decode cX0_secondEndOf 9 = .ok (.getfield 15, 3) := by decide +kernel
theorem dX0_secondEndOf_12 : decode cX0_secondEndOf 12 = .ok (.iload_n 1, 1) := by decide +kernel
theorem dX0_secondEndOf_13 : decode cX0_secondEndOf 13 = .ok (.iaload, 1) := by decide +kernel
theorem dX0_secondEndOf_14 : decode cX0_secondEndOf 14 = .ok (.goto 4, 3) := by decide +kernel
theorem dX0_secondEndOf_17 : decode cX0_secondEndOf 17 = .ok (.iconst 0, 1) := by decide +kernel
theorem dX0_secondEndOf_18 : decode cX0_secondEndOf 18 = .ok (.ireturn, 1) := by decide +kernel
set_option maxRecDepth 20000 in
theorem ggX0_pathOf_X0_has : GoodIn wsX0_pathOf wsX0_has := goodIn_r _ [6, 1, 7, 8, 9, 10, 11] (by decide +kernel) (by decide +kernel)
set_option maxRecDepth 20000 in
theorem gX0_pathOf_X0_has : GoodIn wsX0_pathOf (wsV RX0 24 RX0 yX0_has wsX0_has) := goodIn_app (goodIn_of _ (by decide +kernel)) ggX0_pathOf_X0_has
theorem dX0_pathOf_0 : decode cX0_pathOf 0 = .ok (.aload_n 0, 1) := by decide +kernel
theorem dX0_pathOf_1 : decode cX0_pathOf 1 = .ok (.iload_n 1, 1) := by decide +kernel
theorem dX0_pathOf_2 : decode cX0_pathOf 2 = .ok (.invokevirtual 24, 3) := by decide +kernel
theorem dX0_pathOf_5 : decode cX0_pathOf 5 = .ok (.ifCond .eq 12, 3) := by decide +kernel
theorem dX0_pathOf_8 : decode cX0_pathOf 8 = .ok (.aload_n 0, 1) := by decide +kernel
theorem dX0_pathOf_9 : decode cX0_pathOf 9 = .ok (.getfield 18, 3) := by decide +kernel
theorem dX0_pathOf_12 : decode cX0_pathOf 12 = .ok (.iload_n 1, 1) := by decide +kernel
theorem dX0_pathOf_13 : decode cX0_pathOf 13 = .ok (.iaload, 1) := by decide +kernel
theorem dX0_pathOf_14 : decode cX0_pathOf 14 = .ok (.goto 4, 3) := by decide +kernel
theorem dX0_pathOf_17 : decode cX0_pathOf 17 = .ok (.iconst 0, 1) := by decide +kernel
theorem dX0_pathOf_18 : decode cX0_pathOf 18 = .ok (.ireturn, 1) := by decide +kernel
set_option maxRecDepth 20000 in
theorem ggX0_isExtra_X5_contains : GoodIn wsX0_isExtra wsX5_contains := goodIn_r _ [4] (by decide +kernel) (by decide +kernel)
set_option maxRecDepth 20000 in
theorem gX0_isExtra_X5_contains_n32 : GoodIn wsX0_isExtra (wsX5_contains) := ggX0_isExtra_X5_contains
theorem dX0_isExtra_0 : decode cX0_isExtra 0 = .ok (.aload_n 0, 1) := by decide +kernel
theorem dX0_isExtra_1 : decode cX0_isExtra 1 = .ok (.getfield 28, 3) := by decide +kernel
theorem dX0_isExtra_4 : decode cX0_isExtra 4 = .ok (.iload_n 1, 1) := by decide +kernel
theorem dX0_isExtra_5 : decode cX0_isExtra 5 = .ok (.invokestatic 32, 3) := by decide +kernel
theorem dX0_isExtra_8 : decode cX0_isExtra 8 = .ok (.ireturn, 1) := by decide +kernel
set_option maxRecDepth 20000 in
theorem ggX0_count_X0_has : GoodIn wsX0_count wsX0_has := goodIn_r _ [5, 6, 7, 8, 9, 10, 11] (by decide +kernel) (by decide +kernel)
set_option maxRecDepth 20000 in
theorem gX0_count_X0_has : GoodIn wsX0_count (wsV RX0 24 RX0 yX0_has wsX0_has) := goodIn_app (goodIn_of _ (by decide +kernel)) ggX0_count_X0_has
theorem dX0_count_0 : decode cX0_count 0 = .ok (.iconst 0, 1) := by decide +kernel
theorem dX0_count_1 : decode cX0_count 1 = .ok (.istore_n 1, 1) := by decide +kernel
theorem dX0_count_2 : decode cX0_count 2 = .ok (.iconst 0, 1) := by decide +kernel
theorem dX0_count_3 : decode cX0_count 3 = .ok (.istore_n 2, 1) := by decide +kernel
theorem dX0_count_4 : decode cX0_count 4 = .ok (.iload_n 2, 1) := by decide +kernel
theorem dX0_count_5 : decode cX0_count 5 = .ok (.bipush 16, 2) := by decide +kernel
theorem dX0_count_7 : decode cX0_count 7 = .ok (.if_icmp .ge 20, 3) := by decide +kernel
theorem dX0_count_10 : decode cX0_count 10 = .ok (.aload_n 0, 1) := by decide +kernel
theorem dX0_count_11 : decode cX0_count 11 = .ok (.iload_n 2, 1) := by decide +kernel
theorem dX0_count_12 : decode cX0_count 12 = .ok (.invokevirtual 24, 3) := by decide +kernel
theorem dX0_count_15 : decode cX0_count 15 = .ok (.ifCond .eq 6, 3) := by decide +kernel
theorem dX0_count_18 : decode cX0_count 18 = .ok (.iinc 1 1, 3) := by decide +kernel
theorem dX0_count_21 : decode cX0_count 21 = .ok (.iinc 2 1, 3) := by decide +kernel
theorem dX0_count_24 : decode cX0_count 24 = .ok (.goto (-20), 3) := by decide +kernel
theorem dX0_count_27 : decode cX0_count 27 = .ok (.iload_n 1, 1) := by decide +kernel
theorem dX0_count_28 : decode cX0_count 28 = .ok (.ireturn, 1) := by decide +kernel
set_option maxRecDepth 20000 in
theorem ggX0_smallestFreeNumber_X0_has : GoodIn wsX0_smallestFreeNumber wsX0_has := goodIn_r _ [5, 6, 7, 8, 9, 10, 11] (by decide +kernel) (by decide +kernel)
set_option maxRecDepth 20000 in
theorem gX0_smallestFreeNumber_X0_has : GoodIn wsX0_smallestFreeNumber (wsV RX0 24 RX0 yX0_has wsX0_has) := goodIn_app (goodIn_of _ (by decide +kernel)) ggX0_smallestFreeNumber_X0_has
theorem dX0_smallestFreeNumber_0 : decode cX0_smallestFreeNumber 0 = .ok (.iconst 0, 1) := by decide +kernel
theorem dX0_smallestFreeNumber_1 : decode cX0_smallestFreeNumber 1 = .ok (.istore_n 1, 1) := by decide +kernel
theorem dX0_smallestFreeNumber_2 : decode cX0_smallestFreeNumber 2 = .ok (.iload_n 1, 1) := by decide +kernel
theorem dX0_smallestFreeNumber_3 : decode cX0_smallestFreeNumber 3 = .ok (.bipush 16, 2) := by decide +kernel
theorem dX0_smallestFreeNumber_5 : decode cX0_smallestFreeNumber 5 = .ok (.if_icmp .ge 19, 3) := by decide +kernel
theorem dX0_smallestFreeNumber_8 : decode cX0_smallestFreeNumber 8 = .ok (.aload_n 0, 1) := by decide +kernel
theorem dX0_smallestFreeNumber_9 : decode cX0_smallestFreeNumber 9 = .ok (.iload_n 1, 1) := by decide +kernel
theorem dX0_smallestFreeNumber_10 : decode cX0_smallestFreeNumber 10 = .ok (.invokevirtual 24, 3) := by decide +kernel
theorem dX0_smallestFreeNumber_13 : decode cX0_smallestFreeNumber 13 = .ok (.ifCond .ne 5, 3) := by decide +kernel
theorem dX0_smallestFreeNumber_16 : decode cX0_smallestFreeNumber 16 = .ok (.iload_n 1, 1) := by decide +kernel
theorem dX0_smallestFreeNumber_17 : decode cX0_smallestFreeNumber 17 = .ok (.ireturn, 1) := by decide +kernel
theorem dX0_smallestFreeNumber_18 : decode cX0_smallestFreeNumber 18 = .ok (.iinc 1 1, 3) := by decide +kernel
theorem dX0_smallestFreeNumber_21 : decode cX0_smallestFreeNumber 21 = .ok (.goto (-19), 3) := by decide +kernel
theorem dX0_smallestFreeNumber_24 : decode cX0_smallestFreeNumber 24 = .ok (.bipush (-9), 2) := by decide +kernel
theorem dX0_smallestFreeNumber_26 : decode cX0_smallestFreeNumber 26 = .ok (.ireturn, 1) := by decide +kernel
theorem dX0_crossing_0 : decode cX0_crossing 0 = .ok (.iconst 0, 1) := by decide +kernel
theorem dX0_crossing_1 : decode cX0_crossing 1 = .ok (.istore_n 2, 1) := by decide +kernel
theorem dX0_crossing_2 : decode cX0_crossing 2 = .ok (.iconst 0, 1) := by decide +kernel
theorem dX0_crossing_3 : decode cX0_crossing 3 = .ok (.istore_n 3, 1) := by decide +kernel
theorem dX0_crossing_4 : decode cX0_crossing 4 = .ok (.iload_n 3, 1) := by decide +kernel
theorem dX0_crossing_5 : decode cX0_crossing 5 = .ok (.bipush 16, 2) := by decide +kernel
theorem dX0_crossing_7 : decode cX0_crossing 7 = .ok (.if_icmp .ge 26, 3) := by decide +kernel
theorem dX0_crossing_10 : decode cX0_crossing 10 = .ok (.aload_n 0, 1) := by decide +kernel
theorem dX0_crossing_11 : decode cX0_crossing 11 = .ok (.getfield 18, 3) := by decide +kernel
theorem dX0_crossing_14 : decode cX0_crossing 14 = .ok (.iload_n 3, 1) := by decide +kernel
theorem dX0_crossing_15 : decode cX0_crossing 15 = .ok (.iaload, 1) := by decide +kernel
theorem dX0_crossing_16 : decode cX0_crossing 16 = .ok (.iload_n 1, 1) := by decide +kernel
theorem dX0_crossing_17 : decode cX0_crossing 17 = .ok (.iand, 1) := by decide +kernel
theorem dX0_crossing_18 : decode cX0_crossing 18 = .ok (.ifCond .eq 9, 3) := by decide +kernel
theorem dX0_crossing_21 : decode cX0_crossing 21 = .ok (.iload_n 2, 1) := by decide +kernel
theorem dX0_crossing_22 : decode cX0_crossing 22 = .ok (.iconst 1, 1) := by decide +kernel
theorem dX0_crossing_23 : decode cX0_crossing 23 = .ok (.iload_n 3, 1) := by decide +kernel
theorem dX0_crossing_24 : decode cX0_crossing 24 = .ok (.ishl, 1) := by decide +kernel
theorem dX0_crossing_25 : decode cX0_crossing 25 = .ok (.ior, 1) := by decide +kernel
theorem dX0_crossing_26 : decode cX0_crossing 26 = .ok (.istore_n 2, 1) := by decide +kernel
theorem dX0_crossing_27 : decode cX0_crossing 27 = .ok (.iinc 3 1, 3) := by decide +kernel
theorem dX0_crossing_30 : decode cX0_crossing 30 = .ok (.goto (-26), 3) := by decide +kernel
theorem dX0_crossing_33 : decode cX0_crossing 33 = .ok (.iload_n 2, 1) := by decide +kernel
theorem dX0_crossing_34 : decode cX0_crossing 34 = .ok (.ireturn, 1) := by decide +kernel
set_option maxRecDepth 20000 in
theorem ggX0_slotsUsed_X0_isExtra : GoodIn wsX0_slotsUsed wsX0_isExtra := goodIn_r _ [7, 8, 9, 10, 11, 12, 13, 14, 15, 16] (by decide +kernel) (by decide +kernel)
set_option maxRecDepth 20000 in
theorem gX0_slotsUsed_X0_isExtra : GoodIn wsX0_slotsUsed (wsV RX0 36 RX0 yX0_isExtra wsX0_isExtra) := goodIn_app (goodIn_of _ (by decide +kernel)) ggX0_slotsUsed_X0_isExtra
theorem dX0_slotsUsed_0 : decode cX0_slotsUsed 0 = .ok (.iconst 0, 1) := by decide +kernel
theorem dX0_slotsUsed_1 : decode cX0_slotsUsed 1 = .ok (.istore_n 3, 1) := by decide +kernel
theorem dX0_slotsUsed_2 : decode cX0_slotsUsed 2 = .ok (.iconst 0, 1) := by decide +kernel
theorem dX0_slotsUsed_3 : decode cX0_slotsUsed 3 = .ok (.istore 4, 2) := by decide +kernel
theorem dX0_slotsUsed_5 : decode cX0_slotsUsed 5 = .ok (.iload 4, 2) := by decide +kernel
theorem dX0_slotsUsed_7 : decode cX0_slotsUsed 7 = .ok (.bipush 16, 2) := by decide +kernel
theorem dX0_slotsUsed_9 : decode cX0_slotsUsed 9 = .ok (.if_icmp .ge 43, 3) := by decide +kernel
theorem dX0_slotsUsed_12 : decode cX0_slotsUsed 12 = .ok (.aload_n 0, 1) := by decide +kernel
theorem dX0_slotsUsed_13 : decode cX0_slotsUsed 13 = .ok (.getfield 18, 3) := by decide +kernel
theorem dX0_slotsUsed_16 : decode cX0_slotsUsed 16 = .ok (.iload 4, 2) := by decide +kernel
theorem dX0_slotsUsed_18 : decode cX0_slotsUsed 18 = .ok (.iaload, 1) := by decide +kernel
theorem dX0_slotsUsed_19 : decode cX0_slotsUsed 19 = .ok (.iload_n 1, 1) := by decide +kernel
theorem dX0_slotsUsed_20 : decode cX0_slotsUsed 20 = .ok (.iand, 1) := by decide +kernel
theorem dX0_slotsUsed_21 : decode cX0_slotsUsed 21 = .ok (.ifCond .eq 25, 3) := by decide +kernel
theorem dX0_slotsUsed_24 : decode cX0_slotsUsed 24 = .ok (.aload_n 0, 1) := by decide +kernel
theorem dX0_slotsUsed_25 : decode cX0_slotsUsed 25 = .ok (.iload 4, 2) := by decide +kernel
theorem dX0_slotsUsed_27 : decode cX0_slotsUsed 27 = .ok (.invokevirtual 36, 3) := by decide +kernel
theorem dX0_slotsUsed_30 : decode cX0_slotsUsed 30 = .ok (.iload_n 2, 1) := by decide +kernel
theorem dX0_slotsUsed_31 : decode cX0_slotsUsed 31 = .ok (.if_icmp .ne 15, 3) := by decide +kernel
theorem dX0_slotsUsed_34 : decode cX0_slotsUsed 34 = .ok (.iload_n 3, 1) := by decide +kernel
theorem dX0_slotsUsed_35 : decode cX0_slotsUsed 35 = .ok (.iconst 1, 1) := by decide +kernel
theorem dX0_slotsUsed_36 : decode cX0_slotsUsed 36 = .ok (.aload_n 0, 1) := by decide +kernel
theorem dX0_slotsUsed_37 : decode cX0_slotsUsed 37 = .ok (.getfield 21, 3) := by decide +kernel
theorem dX0_slotsUsed_40 : decode cX0_slotsUsed 40 = .ok (.iload 4, 2) := by decide +kernel
theorem dX0_slotsUsed_42 : decode cX0_slotsUsed 42 = .ok (.iaload, 1) := by decide +kernel
theorem dX0_slotsUsed_43 : decode cX0_slotsUsed 43 = .ok (.ishl, 1) := by decide +kernel
theorem dX0_slotsUsed_44 : decode cX0_slotsUsed 44 = .ok (.ior, 1) := by decide +kernel
theorem dX0_slotsUsed_45 : decode cX0_slotsUsed 45 = .ok (.istore_n 3, 1) := by decide +kernel
theorem dX0_slotsUsed_46 : decode cX0_slotsUsed 46 = .ok (.iinc 4 1, 3) := by decide +kernel
theorem dX0_slotsUsed_49 : decode cX0_slotsUsed 49 = .ok (.goto (-44), 3) := by decide +kernel
theorem dX0_slotsUsed_52 : decode cX0_slotsUsed 52 = .ok (.iload_n 3, 1) := by decide +kernel
theorem dX0_slotsUsed_53 : decode cX0_slotsUsed 53 = .ok (.ireturn, 1) := by decide +kernel
theorem dX0_putEnds_0 : decode cX0_putEnds 0 = .ok (.iload_n 1, 1) := by decide +kernel
theorem dX0_putEnds_1 : decode cX0_putEnds 1 = .ok (.ifCond .lt 23, 3) := by decide +kernel
theorem dX0_putEnds_4 : decode cX0_putEnds 4 = .ok (.iload_n 1, 1) := by decide +kernel
theorem dX0_putEnds_5 : decode cX0_putEnds 5 = .ok (.bipush 16, 2) := by decide +kernel
theorem dX0_putEnds_7 : decode cX0_putEnds 7 = .ok (.if_icmp .ge 17, 3) := by decide +kernel
theorem dX0_putEnds_10 : decode cX0_putEnds 10 = .ok (.aload_n 0, 1) := by decide +kernel
theorem dX0_putEnds_11 : decode cX0_putEnds 11 = .ok (.getfield 9, 3) := by decide +kernel
theorem dX0_putEnds_14 : decode cX0_putEnds 14 = .ok (.iload_n 1, 1) := by decide +kernel
theorem dX0_putEnds_15 : decode cX0_putEnds 15 = .ok (.iload_n 2, 1) := by decide +kernel
theorem dX0_putEnds_16 : decode cX0_putEnds 16 = .ok (.iastore, 1) := by decide +kernel
theorem dX0_putEnds_17 : decode cX0_putEnds 17 = .ok (.aload_n 0, 1) := by decide +kernel
theorem dX0_putEnds_18 : decode cX0_putEnds 18 = .ok (.getfield 15, 3) := by decide +kernel
theorem dX0_putEnds_21 : decode cX0_putEnds 21 = .ok (.iload_n 1, 1) := by decide +kernel
theorem dX0_putEnds_22 : decode cX0_putEnds 22 = .ok (.iload_n 3, 1) := by decide +kernel
theorem dX0_putEnds_23 : decode cX0_putEnds 23 = .ok (.iastore, 1) := by decide +kernel
theorem dX0_putEnds_24 : decode cX0_putEnds 24 = .ok (.return_, 1) := by decide +kernel
set_option maxRecDepth 20000 in
theorem ggX0_putRoute_X5_marked : GoodIn wsX0_putRoute wsX5_marked := goodIn_r _ [6] (by decide +kernel) (by decide +kernel)
set_option maxRecDepth 20000 in
theorem gX0_putRoute_X5_marked_n39 : GoodIn wsX0_putRoute (wsX5_marked) := ggX0_putRoute_X5_marked
theorem dX0_putRoute_0 : decode cX0_putRoute 0 = .ok (.iload_n 1, 1) := by decide +kernel
theorem dX0_putRoute_1 : decode cX0_putRoute 1 = .ok (.ifCond .lt 37, 3) := by decide +kernel
theorem dX0_putRoute_4 : decode cX0_putRoute 4 = .ok (.iload_n 1, 1) := by decide +kernel
theorem dX0_putRoute_5 : decode cX0_putRoute 5 = .ok (.bipush 16, 2) := by decide +kernel
theorem dX0_putRoute_7 : decode cX0_putRoute 7 = .ok (.if_icmp .ge 31, 3) := by decide +kernel
theorem dX0_putRoute_10 : decode cX0_putRoute 10 = .ok (.aload_n 0, 1) := by decide +kernel
theorem dX0_putRoute_11 : decode cX0_putRoute 11 = .ok (.getfield 18, 3) := by decide +kernel
theorem dX0_putRoute_14 : decode cX0_putRoute 14 = .ok (.iload_n 1, 1) := by decide +kernel
theorem dX0_putRoute_15 : decode cX0_putRoute 15 = .ok (.iload_n 2, 1) := by decide +kernel
theorem dX0_putRoute_16 : decode cX0_putRoute 16 = .ok (.iastore, 1) := by decide +kernel
theorem dX0_putRoute_17 : decode cX0_putRoute 17 = .ok (.aload_n 0, 1) := by decide +kernel
theorem dX0_putRoute_18 : decode cX0_putRoute 18 = .ok (.getfield 21, 3) := by decide +kernel
theorem dX0_putRoute_21 : decode cX0_putRoute 21 = .ok (.iload_n 1, 1) := by decide +kernel
theorem dX0_putRoute_22 : decode cX0_putRoute 22 = .ok (.iload_n 3, 1) := by decide +kernel
theorem dX0_putRoute_23 : decode cX0_putRoute 23 = .ok (.iastore, 1) := by decide +kernel
theorem dX0_putRoute_24 : decode cX0_putRoute 24 = .ok (.aload_n 0, 1) := by decide +kernel
theorem dX0_putRoute_25 : decode cX0_putRoute 25 = .ok (.aload_n 0, 1) := by decide +kernel
theorem dX0_putRoute_26 : decode cX0_putRoute 26 = .ok (.getfield 28, 3) := by decide +kernel
theorem dX0_putRoute_29 : decode cX0_putRoute 29 = .ok (.iload_n 1, 1) := by decide +kernel
theorem dX0_putRoute_30 : decode cX0_putRoute 30 = .ok (.iload 4, 2) := by decide +kernel
theorem dX0_putRoute_32 : decode cX0_putRoute 32 = .ok (.invokestatic 39, 3) := by decide +kernel
theorem dX0_putRoute_35 : decode cX0_putRoute 35 = .ok (.putfield 28, 3) := by decide +kernel
theorem dX0_putRoute_38 : decode cX0_putRoute 38 = .ok (.return_, 1) := by decide +kernel
set_option maxRecDepth 20000 in
theorem ggX0_takeAway_X0_putRoute : GoodIn wsX0_takeAway wsX0_putRoute := goodIn_r _ [5, 6, 7, 8, 9, 10, 11, 12, 13, 14, 15, 16] (by decide +kernel) (by decide +kernel)
set_option maxRecDepth 20000 in
theorem gX0_takeAway_X0_putRoute : GoodIn wsX0_takeAway (wsV RX0 43 RX0 yX0_putRoute wsX0_putRoute) := goodIn_app (goodIn_of _ (by decide +kernel)) ggX0_takeAway_X0_putRoute
theorem dX0_takeAway_0 : decode cX0_takeAway 0 = .ok (.aload_n 0, 1) := by decide +kernel
theorem dX0_takeAway_1 : decode cX0_takeAway 1 = .ok (.iload_n 1, 1) := by decide +kernel
theorem dX0_takeAway_2 : decode cX0_takeAway 2 = .ok (.iconst 0, 1) := by decide +kernel
theorem dX0_takeAway_3 : decode cX0_takeAway 3 = .ok (.iconst 0, 1) := by decide +kernel
theorem dX0_takeAway_4 : decode cX0_takeAway 4 = .ok (.iconst 0, 1) := by decide +kernel
theorem dX0_takeAway_5 : decode cX0_takeAway 5 = .ok (.invokevirtual 43, 3) := by decide +kernel
theorem dX0_takeAway_8 : decode cX0_takeAway 8 = .ok (.return_, 1) := by decide +kernel
set_option maxRecDepth 20000 in
theorem ggX0_takeAllAway_X5_clearRow : GoodIn wsX0_takeAllAway wsX5_clearRow := goodIn_r _ [5] (by decide +kernel) (by decide +kernel)
set_option maxRecDepth 20000 in
theorem gX0_takeAllAway_X5_clearRow_n47 : GoodIn wsX0_takeAllAway (wsX5_clearRow) := ggX0_takeAllAway_X5_clearRow
theorem dX0_takeAllAway_0 : decode cX0_takeAllAway 0 = .ok (.aload_n 0, 1) := by decide +kernel
theorem dX0_takeAllAway_1 : decode cX0_takeAllAway 1 = .ok (.getfield 18, 3) := by decide +kernel
theorem dX0_takeAllAway_4 : decode cX0_takeAllAway 4 = .ok (.invokestatic 47, 3) := by decide +kernel
theorem dX0_takeAllAway_7 : decode cX0_takeAllAway 7 = .ok (.aload_n 0, 1) := by decide +kernel
theorem dX0_takeAllAway_8 : decode cX0_takeAllAway 8 = .ok (.iconst 0, 1) := by decide +kernel
theorem dX0_takeAllAway_9 : decode cX0_takeAllAway 9 = .ok (.putfield 28, 3) := by decide +kernel
theorem dX0_takeAllAway_12 : decode cX0_takeAllAway 12 = .ok (.return_, 1) := by decide +kernel
set_option maxRecDepth 20000 in
theorem ggX0_copyFrom_X5_copyRow : GoodIn wsX0_copyFrom wsX5_copyRow := goodIn_r _ [8] (by decide +kernel) (by decide +kernel)
set_option maxRecDepth 20000 in
theorem gX0_copyFrom_X5_copyRow_n51 : GoodIn wsX0_copyFrom (wsX5_copyRow) := ggX0_copyFrom_X5_copyRow
theorem dX0_copyFrom_0 : decode cX0_copyFrom 0 = .ok (.aload_n 1, 1) := by decide +kernel
theorem dX0_copyFrom_1 : decode cX0_copyFrom 1 = .ok (.getfield 9, 3) := by decide +kernel
theorem dX0_copyFrom_4 : decode cX0_copyFrom 4 = .ok (.aload_n 0, 1) := by decide +kernel
theorem dX0_copyFrom_5 : decode cX0_copyFrom 5 = .ok (.getfield 9, 3) := by decide +kernel
theorem dX0_copyFrom_8 : decode cX0_copyFrom 8 = .ok (.invokestatic 51, 3) := by decide +kernel
theorem dX0_copyFrom_11 : decode cX0_copyFrom 11 = .ok (.aload_n 1, 1) := by decide +kernel
theorem dX0_copyFrom_12 : decode cX0_copyFrom 12 = .ok (.getfield 15, 3) := by decide +kernel
theorem dX0_copyFrom_15 : decode cX0_copyFrom 15 = .ok (.aload_n 0, 1) := by decide +kernel
theorem dX0_copyFrom_16 : decode cX0_copyFrom 16 = .ok (.getfield 15, 3) := by decide +kernel
theorem dX0_copyFrom_19 : decode cX0_copyFrom 19 = .ok (.invokestatic 51, 3) := by decide +kernel
theorem dX0_copyFrom_22 : decode cX0_copyFrom 22 = .ok (.aload_n 1, 1) := by decide +kernel
theorem dX0_copyFrom_23 : decode cX0_copyFrom 23 = .ok (.getfield 18, 3) := by decide +kernel
theorem dX0_copyFrom_26 : decode cX0_copyFrom 26 = .ok (.aload_n 0, 1) := by decide +kernel
theorem dX0_copyFrom_27 : decode cX0_copyFrom 27 = .ok (.getfield 18, 3) := by decide +kernel
theorem dX0_copyFrom_30 : decode cX0_copyFrom 30 = .ok (.invokestatic 51, 3) := by decide +kernel
theorem dX0_copyFrom_33 : decode cX0_copyFrom 33 = .ok (.aload_n 1, 1) := by decide +kernel
theorem dX0_copyFrom_34 : decode cX0_copyFrom 34 = .ok (.getfield 21, 3) := by decide +kernel
theorem dX0_copyFrom_37 : decode cX0_copyFrom 37 = .ok (.aload_n 0, 1) := by decide +kernel
theorem dX0_copyFrom_38 : decode cX0_copyFrom 38 = .ok (.getfield 21, 3) := by decide +kernel
theorem dX0_copyFrom_41 : decode cX0_copyFrom 41 = .ok (.invokestatic 51, 3) := by decide +kernel
theorem dX0_copyFrom_44 : decode cX0_copyFrom 44 = .ok (.aload_n 0, 1) := by decide +kernel
theorem dX0_copyFrom_45 : decode cX0_copyFrom 45 = .ok (.aload_n 1, 1) := by decide +kernel
theorem dX0_copyFrom_46 : decode cX0_copyFrom 46 = .ok (.getfield 28, 3) := by decide +kernel
theorem dX0_copyFrom_49 : decode cX0_copyFrom 49 = .ok (.putfield 28, 3) := by decide +kernel
theorem dX0_copyFrom_52 : decode cX0_copyFrom 52 = .ok (.return_, 1) := by decide +kernel
