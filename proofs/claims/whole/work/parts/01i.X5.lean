set_option maxRecDepth 20000 in
theorem gX5_restore_X3_copyFrom : GoodIn wsX5_restore (wsV RX5 181 RX3 yX3_copyFrom wsX3_copyFrom) := goodIn_app (goodIn_of _ (by decide +kernel)) ggX5_restore_X3_copyFrom
theorem dX5_restore_0 : decode cX5_restore 0 = .ok (.iload_n 1, 1) := by decide +kernel
theorem dX5_restore_1 : decode cX5_restore 1 = .ok (.ifCond .lt 8, 3) := by decide +kernel
theorem dX5_restore_4 : decode cX5_restore 4 = .ok (.iload_n 1, 1) := by decide +kernel
theorem dX5_restore_5 : decode cX5_restore 5 = .ok (.iconst 1, 1) := by decide +kernel
theorem dX5_restore_6 : decode cX5_restore 6 = .ok (.if_icmp .le 6, 3) := by decide +kernel
theorem dX5_restore_9 : decode cX5_restore 9 = .ok (.bipush (-4), 2) := by decide +kernel
theorem dX5_restore_11 : decode cX5_restore 11 = .ok (.ireturn, 1) := by decide +kernel
theorem dX5_restore_12 : decode cX5_restore 12 = .ok (.iload_n 1, 1) := by decide +kernel
theorem dX5_restore_13 : decode cX5_restore 13 = .ok (.ifCond .ne 10, 3) := by decide +kernel
theorem dX5_restore_16 : decode cX5_restore 16 = .ok (.aload_n 0, 1) := by decide +kernel
theorem dX5_restore_17 : decode cX5_restore 17 = .ok (.getfield 22, 3) := by decide +kernel
theorem dX5_restore_20 : decode cX5_restore 20 = .ok (.goto 7, 3) := by decide +kernel
theorem dX5_restore_23 : decode cX5_restore 23 = .ok (.aload_n 0, 1) := by decide +kernel
theorem dX5_restore_24 : decode cX5_restore 24 = .ok (.getfield 26, 3) := by decide +kernel
theorem dX5_restore_27 : decode cX5_restore 27 = .ok (.astore_n 2, 1) := by decide +kernel
theorem dX5_restore_28 : decode cX5_restore 28 = .ok (.aload_n 2, 1) := by decide +kernel
theorem dX5_restore_29 : decode cX5_restore 29 = .ok (.getfield 188, 3) := by decide +kernel
theorem dX5_restore_32 : decode cX5_restore 32 = .ok (.ifCond .ne 6, 3) := by decide +kernel
theorem dX5_restore_35 : decode cX5_restore 35 = .ok (.bipush (-8), 2) := by decide +kernel
theorem dX5_restore_37 : decode cX5_restore 37 = .ok (.ireturn, 1) := by decide +kernel
theorem dX5_restore_38 : decode cX5_restore 38 = .ok (.aload_n 0, 1) := by decide +kernel
theorem dX5_restore_39 : decode cX5_restore 39 = .ok (.getfield 10, 3) := by decide +kernel
theorem dX5_restore_42 : decode cX5_restore 42 = .ok (.aload_n 2, 1) := by decide +kernel
theorem dX5_restore_43 : decode cX5_restore 43 = .ok (.getfield 185, 3) := by decide +kernel
theorem dX5_restore_46 : decode cX5_restore 46 = .ok (.invokevirtual 181, 3) := by decide +kernel
theorem dX5_restore_49 : decode cX5_restore 49 = .ok (.aload_n 0, 1) := by decide +kernel
theorem dX5_restore_50 : decode cX5_restore 50 = .ok (.getfield 10, 3) := by decide +kernel
theorem dX5_restore_53 : decode cX5_restore 53 = .ok (.getfield 142, 3) := by decide +kernel
theorem dX5_restore_56 : decode cX5_restore 56 = .ok (.ireturn, 1) := by decide +kernel
set_option maxRecDepth 20000 in
theorem ggX5_faultOfEnds_X2_hasNode : GoodIn wsX5_faultOfEnds wsX2_hasNode := goodIn_r _ [6, 7, 16, 17] (by decide +kernel) (by decide +kernel)
set_option maxRecDepth 20000 in
theorem gX5_faultOfEnds_X2_hasNode : GoodIn wsX5_faultOfEnds (wsV RX5 124 RX2 yX2_hasNode wsX2_hasNode) := goodIn_app (goodIn_of _ (by decide +kernel)) ggX5_faultOfEnds_X2_hasNode
theorem dX5_faultOfEnds_0 : decode cX5_faultOfEnds 0 = .ok (.aload_n 0, 1) := by decide +kernel
theorem dX5_faultOfEnds_1 : decode cX5_faultOfEnds 1 = .ok (.getfield 10, 3) := by decide +kernel
theorem dX5_faultOfEnds_4 : decode cX5_faultOfEnds 4 = .ok (.getfield 29, 3) := by decide +kernel
theorem dX5_faultOfEnds_7 : decode cX5_faultOfEnds 7 = .ok (.iload_n 1, 1) := by decide +kernel
theorem dX5_faultOfEnds_8 : decode cX5_faultOfEnds 8 = .ok (.invokevirtual 124, 3) := by decide +kernel
theorem dX5_faultOfEnds_11 : decode cX5_faultOfEnds 11 = .ok (.ifCond .eq 17, 3) := by decide +kernel
theorem dX5_faultOfEnds_14 : decode cX5_faultOfEnds 14 = .ok (.aload_n 0, 1) := by decide +kernel
theorem dX5_faultOfEnds_15 : decode cX5_faultOfEnds 15 = .ok (.getfield 10, 3) := by decide +kernel
theorem dX5_faultOfEnds_18 : decode cX5_faultOfEnds 18 = .ok (.getfield 29, 3) := by decide +kernel
theorem dX5_faultOfEnds_21 : decode cX5_faultOfEnds 21 = .ok (.iload_n 2, 1) := by decide +kernel
theorem dX5_faultOfEnds_22 : decode cX5_faultOfEnds 22 = .ok (.invokevirtual 124, 3) := by decide +kernel
theorem dX5_faultOfEnds_25 : decode cX5_faultOfEnds 25 = .ok (.ifCond .ne 5, 3) := by decide +kernel
theorem dX5_faultOfEnds_28 : decode cX5_faultOfEnds 28 = .ok (.iconst (-1), 1) := by decide +kernel
theorem dX5_faultOfEnds_29 : decode cX5_faultOfEnds 29 = .ok (.ireturn, 1) := by decide +kernel
theorem dX5_faultOfEnds_30 : decode cX5_faultOfEnds 30 = .ok (.iload_n 1, 1) := by decide +kernel
theorem dX5_faultOfEnds_31 : decode cX5_faultOfEnds 31 = .ok (.iload_n 2, 1) := by decide +kernel
theorem dX5_faultOfEnds_32 : decode cX5_faultOfEnds 32 = .ok (.if_icmp .ne 8, 3) := by decide +kernel
theorem dX5_faultOfEnds_35 : decode cX5_faultOfEnds 35 = .ok (.bipush (-5), 2) := by decide +kernel
theorem dX5_faultOfEnds_37 : decode cX5_faultOfEnds 37 = .ok (.goto 4, 3) := by decide +kernel
theorem dX5_faultOfEnds_40 : decode cX5_faultOfEnds 40 = .ok (.iconst 0, 1) := by decide +kernel
theorem dX5_faultOfEnds_41 : decode cX5_faultOfEnds 41 = .ok (.ireturn, 1) := by decide +kernel
set_option maxRecDepth 20000 in
theorem ggX5_deliveredAfterCut_X3_copyFrom : GoodIn wsX5_deliveredAfterCut wsX3_copyFrom := goodIn_r _ [7, 8, 9, 10, 11, 12, 13, 14, 15, 16, 17, 18, 19, 20, 21, 22, 23, 24, 25, 26, 27, 28, 29, 30, 31, 32, 33, 34, 35, 36, 37, 38, 39, 40, 41, 42, 170, 171, 172, 173, 188, 189, 190, 191, 192, 174, 175, 176, 177, 178, 179, 180, 181, 182, 183, 184, 185, 186, 187, 193, 194] (by decide +kernel) (by decide +kernel)
set_option maxRecDepth 20000 in
theorem gX5_deliveredAfterCut_X3_copyFrom : GoodIn wsX5_deliveredAfterCut (wsV RX5 181 RX3 yX3_copyFrom wsX3_copyFrom) := goodIn_app (goodIn_of _ (by decide +kernel)) ggX5_deliveredAfterCut_X3_copyFrom
set_option maxRecDepth 20000 in
theorem ggX5_deliveredAfterCut_X1_run : GoodIn wsX5_deliveredAfterCut wsX1_run := goodIn_r _ [46, 29, 47, 48, 49, 27, 50, 32, 30, 34, 31, 35, 51, 22, 52, 53, 54, 55, 56, 57, 58, 59, 60, 61, 62, 63, 64, 65, 66, 41, 39, 33, 67, 68, 69, 70, 71, 72, 73, 74, 38, 75, 76, 77, 78, 40, 79, 80, 81, 82, 37, 36, 83, 84, 85, 86, 87, 88, 89, 90, 91, 92, 93, 94, 95, 96, 97, 98, 99, 100, 101, 102, 103, 104, 105, 106, 107, 108, 109, 110, 42, 174, 175, 176, 177, 178, 179, 180, 181, 182, 183, 184, 185, 186, 187, 193, 194] (by decide +kernel) (by decide +kernel)
set_option maxRecDepth 20000 in
theorem gX5_deliveredAfterCut_X1_run : GoodIn wsX5_deliveredAfterCut (wsV RX5 118 RX1 yX1_run wsX1_run) := goodIn_app (goodIn_of _ (by decide +kernel)) ggX5_deliveredAfterCut_X1_run
set_option maxRecDepth 20000 in
theorem ggX5_deliveredAfterCut_X3_countDelivered : GoodIn wsX5_deliveredAfterCut wsX3_countDelivered := goodIn_r _ [114, 8, 115, 116, 117, 14, 118, 18, 119, 120, 121, 6, 122, 123, 124, 125, 126, 20, 51, 22, 52, 127, 128, 129, 130, 9, 131, 132, 133, 134, 135, 136, 137, 138, 139, 140, 141, 142, 143, 16, 144, 145, 146, 27, 147, 29, 42, 148, 149, 150, 56, 151, 58, 152, 153, 154, 155, 17, 156, 157, 158, 159, 160, 161, 162, 163, 164, 165, 170, 171, 172, 173, 188, 189, 190, 191, 192, 174, 175, 176, 177, 178, 179, 180, 181, 182, 183, 184, 185, 186, 187, 193, 194] (by decide +kernel) (by decide +kernel)
set_option maxRecDepth 20000 in
theorem gX5_deliveredAfterCut_X3_countDelivered : GoodIn wsX5_deliveredAfterCut (wsV RX5 163 RX3 yX3_countDelivered wsX3_countDelivered) := goodIn_app (goodIn_of _ (by decide +kernel)) ggX5_deliveredAfterCut_X3_countDelivered
theorem dX5_deliveredAfterCut_0 : decode cX5_deliveredAfterCut 0 = .ok (.aload_n 0, 1) := by decide +kernel
theorem dX5_deliveredAfterCut_1 : decode cX5_deliveredAfterCut 1 = .ok (.getfield 16, 3) := by decide +kernel
theorem dX5_deliveredAfterCut_4 : decode cX5_deliveredAfterCut 4 = .ok (.aload_n 0, 1) := by decide +kernel
theorem dX5_deliveredAfterCut_5 : decode cX5_deliveredAfterCut 5 = .ok (.getfield 10, 3) := by decide +kernel
theorem dX5_deliveredAfterCut_8 : decode cX5_deliveredAfterCut 8 = .ok (.invokevirtual 181, 3) := by decide +kernel
theorem dX5_deliveredAfterCut_11 : decode cX5_deliveredAfterCut 11 = .ok (.aload_n 0, 1) := by decide +kernel
theorem dX5_deliveredAfterCut_12 : decode cX5_deliveredAfterCut 12 = .ok (.getfield 16, 3) := by decide +kernel
theorem dX5_deliveredAfterCut_15 : decode cX5_deliveredAfterCut 15 = .ok (.getfield 106, 3) := by decide +kernel
theorem dX5_deliveredAfterCut_18 : decode cX5_deliveredAfterCut 18 = .ok (.dup, 1) := by decide +kernel
theorem dX5_deliveredAfterCut_19 : decode cX5_deliveredAfterCut 19 = .ok (.getfield 110, 3) := by decide +kernel
theorem dX5_deliveredAfterCut_22 : decode cX5_deliveredAfterCut 22 = .ok (.iconst 1, 1) := by decide +kernel
theorem dX5_deliveredAfterCut_23 : decode cX5_deliveredAfterCut 23 = .ok (.iload_n 1, 1) := by decide +kernel
theorem dX5_deliveredAfterCut_24 : decode cX5_deliveredAfterCut 24 = .ok (.ishl, 1) := by decide +kernel
theorem dX5_deliveredAfterCut_25 : decode cX5_deliveredAfterCut 25 = .ok (.ior, 1) := by decide +kernel
theorem dX5_deliveredAfterCut_26 : decode cX5_deliveredAfterCut 26 = .ok (.putfield 110, 3) := by decide +kernel
theorem dX5_deliveredAfterCut_29 : decode cX5_deliveredAfterCut 29 = .ok (.aload_n 0, 1) := by decide +kernel
theorem dX5_deliveredAfterCut_30 : decode cX5_deliveredAfterCut 30 = .ok (.getfield 16, 3) := by decide +kernel
theorem dX5_deliveredAfterCut_33 : decode cX5_deliveredAfterCut 33 = .ok (.getfield 106, 3) := by decide +kernel
theorem dX5_deliveredAfterCut_36 : decode cX5_deliveredAfterCut 36 = .ok (.dup, 1) := by decide +kernel
theorem dX5_deliveredAfterCut_37 : decode cX5_deliveredAfterCut 37 = .ok (.getfield 121, 3) := by decide +kernel
theorem dX5_deliveredAfterCut_40 : decode cX5_deliveredAfterCut 40 = .ok (.iconst 1, 1) := by decide +kernel
theorem dX5_deliveredAfterCut_41 : decode cX5_deliveredAfterCut 41 = .ok (.iload_n 1, 1) := by decide +kernel
theorem dX5_deliveredAfterCut_42 : decode cX5_deliveredAfterCut 42 = .ok (.ishl, 1) := by decide +kernel
theorem dX5_deliveredAfterCut_43 : decode cX5_deliveredAfterCut 43 = .ok (.ior, 1) := by decide +kernel
theorem dX5_deliveredAfterCut_44 : decode cX5_deliveredAfterCut 44 = .ok (.putfield 121, 3) := by decide +kernel
theorem dX5_deliveredAfterCut_47 : decode cX5_deliveredAfterCut 47 = .ok (.aload_n 0, 1) := by decide +kernel
theorem dX5_deliveredAfterCut_48 : decode cX5_deliveredAfterCut 48 = .ok (.getfield 16, 3) := by decide +kernel
theorem dX5_deliveredAfterCut_51 : decode cX5_deliveredAfterCut 51 = .ok (.getfield 106, 3) := by decide +kernel
theorem dX5_deliveredAfterCut_54 : decode cX5_deliveredAfterCut 54 = .ok (.invokevirtual 118, 3) := by decide +kernel
theorem dX5_deliveredAfterCut_57 : decode cX5_deliveredAfterCut 57 = .ok (.aload_n 0, 1) := by decide +kernel
theorem dX5_deliveredAfterCut_58 : decode cX5_deliveredAfterCut 58 = .ok (.getfield 16, 3) := by decide +kernel
theorem dX5_deliveredAfterCut_61 : decode cX5_deliveredAfterCut 61 = .ok (.invokevirtual 163, 3) := by decide +kernel
theorem dX5_deliveredAfterCut_64 : decode cX5_deliveredAfterCut 64 = .ok (.ireturn, 1) := by decide +kernel
theorem dX5_isCommand_0 : decode cX5_isCommand 0 = .ok (.iload_n 0, 1) := by decide +kernel
theorem dX5_isCommand_1 : decode cX5_isCommand 1 = .ok (.ifCond .eq 31, 3) := by decide +kernel
theorem dX5_isCommand_4 : decode cX5_isCommand 4 = .ok (.iload_n 0, 1) := by decide +kernel
theorem dX5_isCommand_5 : decode cX5_isCommand 5 = .ok (.iconst 3, 1) := by decide +kernel
theorem dX5_isCommand_6 : decode cX5_isCommand 6 = .ok (.if_icmp .eq 26, 3) := by decide +kernel
theorem dX5_isCommand_9 : decode cX5_isCommand 9 = .ok (.iload_n 0, 1) := by decide +kernel
theorem dX5_isCommand_10 : decode cX5_isCommand 10 = .ok (.iconst 4, 1) := by decide +kernel
theorem dX5_isCommand_11 : decode cX5_isCommand 11 = .ok (.if_icmp .eq 21, 3) := by decide +kernel
theorem dX5_isCommand_14 : decode cX5_isCommand 14 = .ok (.iload_n 0, 1) := by decide +kernel
theorem dX5_isCommand_15 : decode cX5_isCommand 15 = .ok (.bipush 7, 2) := by decide +kernel
theorem dX5_isCommand_17 : decode cX5_isCommand 17 = .ok (.if_icmp .eq 15, 3) := by decide +kernel
theorem dX5_isCommand_20 : decode cX5_isCommand 20 = .ok (.iload_n 0, 1) := by decide +kernel
theorem dX5_isCommand_21 : decode cX5_isCommand 21 = .ok (.bipush 8, 2) := by decide +kernel
theorem dX5_isCommand_23 : decode cX5_isCommand 23 = .ok (.if_icmp .eq 9, 3) := by decide +kernel
theorem dX5_isCommand_26 : decode cX5_isCommand 26 = .ok (.iload_n 0, 1) := by decide +kernel
theorem dX5_isCommand_27 : decode cX5_isCommand 27 = .ok (.bipush 9, 2) := by decide +kernel
theorem dX5_isCommand_29 : decode cX5_isCommand 29 = .ok (.if_icmp .ne 7, 3) := by decide +kernel
theorem dX5_isCommand_32 : decode cX5_isCommand 32 = .ok (.iconst 1, 1) := by decide +kernel
theorem dX5_isCommand_33 : decode cX5_isCommand 33 = .ok (.goto 4, 3) := by decide +kernel
theorem dX5_isCommand_36 : decode cX5_isCommand 36 = .ok (.iconst 0, 1) := by decide +kernel
theorem dX5_isCommand_37 : decode cX5_isCommand 37 = .ok (.ireturn, 1) := by decide +kernel
theorem dX5_isDelivery_0 : decode cX5_isDelivery 0 = .ok (.iload_n 0, 1) := by decide +kernel
theorem dX5_isDelivery_1 : decode cX5_isDelivery 1 = .ok (.ifCond .eq 13, 3) := by decide +kernel
theorem dX5_isDelivery_4 : decode cX5_isDelivery 4 = .ok (.iload_n 0, 1) := by decide +kernel
theorem dX5_isDelivery_5 : decode cX5_isDelivery 5 = .ok (.iconst 1, 1) := by decide +kernel
theorem dX5_isDelivery_6 : decode cX5_isDelivery 6 = .ok (.if_icmp .eq 8, 3) := by decide +kernel
theorem dX5_isDelivery_9 : decode cX5_isDelivery 9 = .ok (.iload_n 0, 1) := by decide +kernel
theorem dX5_isDelivery_10 : decode cX5_isDelivery 10 = .ok (.iconst 2, 1) := by decide +kernel
theorem dX5_isDelivery_11 : decode cX5_isDelivery 11 = .ok (.if_icmp .ne 7, 3) := by decide +kernel
theorem dX5_isDelivery_14 : decode cX5_isDelivery 14 = .ok (.iconst 1, 1) := by decide +kernel
theorem dX5_isDelivery_15 : decode cX5_isDelivery 15 = .ok (.goto 4, 3) := by decide +kernel
theorem dX5_isDelivery_18 : decode cX5_isDelivery 18 = .ok (.iconst 0, 1) := by decide +kernel
theorem dX5_isDelivery_19 : decode cX5_isDelivery 19 = .ok (.ireturn, 1) := by decide +kernel
theorem dX5_contains_0 : decode cX5_contains 0 = .ok (.iload_n 0, 1) := by decide +kernel
theorem dX5_contains_1 : decode cX5_contains 1 = .ok (.iconst 1, 1) := by decide +kernel
theorem dX5_contains_2 : decode cX5_contains 2 = .ok (.iload_n 1, 1) := by decide +kernel
theorem dX5_contains_3 : decode cX5_contains 3 = .ok (.ishl, 1) := by decide +kernel
theorem dX5_contains_4 : decode cX5_contains 4 = .ok (.iand, 1) := by decide +kernel
theorem dX5_contains_5 : decode cX5_contains 5 = .ok (.ifCond .eq 7, 3) := by decide +kernel
theorem dX5_contains_8 : decode cX5_contains 8 = .ok (.iconst 1, 1) := by decide +kernel
theorem dX5_contains_9 : decode cX5_contains 9 = .ok (.goto 4, 3) := by decide +kernel
theorem dX5_contains_12 : decode cX5_contains 12 = .ok (.iconst 0, 1) := by decide +kernel
theorem dX5_contains_13 : decode cX5_contains 13 = .ok (.ireturn, 1) := by decide +kernel
theorem dX5_marked_0 : decode cX5_marked 0 = .ok (.iload_n 2, 1) := by decide +kernel
theorem dX5_marked_1 : decode cX5_marked 1 = .ok (.ifCond .eq 11, 3) := by decide +kernel
theorem dX5_marked_4 : decode cX5_marked 4 = .ok (.iload_n 0, 1) := by decide +kernel
theorem dX5_marked_5 : decode cX5_marked 5 = .ok (.iconst 1, 1) := by decide +kernel
theorem dX5_marked_6 : decode cX5_marked 6 = .ok (.iload_n 1, 1) := by decide +kernel
theorem dX5_marked_7 : decode cX5_marked 7 = .ok (.ishl, 1) := by decide +kernel
theorem dX5_marked_8 : decode cX5_marked 8 = .ok (.ior, 1) := by decide +kernel
theorem dX5_marked_9 : decode cX5_marked 9 = .ok (.goto 10, 3) := by decide +kernel
theorem dX5_marked_12 : decode cX5_marked 12 = .ok (.iload_n 0, 1) := by decide +kernel
theorem dX5_marked_13 : decode cX5_marked 13 = .ok (.iconst 1, 1) := by decide +kernel
theorem dX5_marked_14 : decode cX5_marked 14 = .ok (.iload_n 1, 1) := by decide +kernel
theorem dX5_marked_15 : decode cX5_marked 15 = .ok (.ishl, 1) := by decide +kernel
theorem dX5_marked_16 : decode cX5_marked 16 = .ok (.iconst (-1), 1) := by decide +kernel
theorem dX5_marked_17 : decode cX5_marked 17 = .ok (.ixor, 1) := by decide +kernel
theorem dX5_marked_18 : decode cX5_marked 18 = .ok (.iand, 1) := by decide +kernel
theorem dX5_marked_19 : decode cX5_marked 19 = .ok (.ireturn, 1) := by decide +kernel
theorem dX5_copyRow_0 : decode cX5_copyRow 0 = .ok (.iconst 0, 1) := by decide +kernel
theorem dX5_copyRow_1 : decode cX5_copyRow 1 = .ok (.istore_n 2, 1) := by decide +kernel
theorem dX5_copyRow_2 : decode cX5_copyRow 2 = .ok (.iload_n 2, 1) := by decide +kernel
theorem dX5_copyRow_3 : decode cX5_copyRow 3 = .ok (.aload_n 0, 1) := by decide +kernel
theorem dX5_copyRow_4 : decode cX5_copyRow 4 = .ok (.arraylength, 1) := by decide +kernel
theorem dX5_copyRow_5 : decode cX5_copyRow 5 = .ok (.if_icmp .ge 21, 3) := by decide +kernel
theorem dX5_copyRow_8 : decode cX5_copyRow 8 = .ok (.iload_n 2, 1) := by decide +kernel
theorem dX5_copyRow_9 : decode cX5_copyRow 9 = .ok (.aload_n 1, 1) := by decide +kernel
theorem dX5_copyRow_10 : decode cX5_copyRow 10 = .ok (.arraylength, 1) := by decide +kernel
theorem dX5_copyRow_11 : decode cX5_copyRow 11 = .ok (.if_icmp .ge 15, 3) := by decide +kernel
theorem dX5_copyRow_14 : decode cX5_copyRow 14 = .ok (.aload_n 1, 1) := by decide +kernel
theorem dX5_copyRow_15 : decode cX5_copyRow 15 = .ok (.iload_n 2, 1) := by decide +kernel
theorem dX5_copyRow_16 : decode cX5_copyRow 16 = .ok (.aload_n 0, 1) := by decide +kernel
theorem dX5_copyRow_17 : decode cX5_copyRow 17 = .ok (.iload_n 2, 1) := by decide +kernel
theorem dX5_copyRow_18 : decode cX5_copyRow 18 = .ok (.iaload, 1) := by decide +kernel
theorem dX5_copyRow_19 : decode cX5_copyRow 19 = .ok (.iastore, 1) := by decide +kernel
theorem dX5_copyRow_20 : decode cX5_copyRow 20 = .ok (.iinc 2 1, 3) := by decide +kernel
theorem dX5_copyRow_23 : decode cX5_copyRow 23 = .ok (.goto (-21), 3) := by decide +kernel
theorem dX5_copyRow_26 : decode cX5_copyRow 26 = .ok (.return_, 1) := by decide +kernel
theorem dX5_clearRow_0 : decode cX5_clearRow 0 = .ok (.iconst 0, 1) := by decide +kernel
theorem dX5_clearRow_1 : decode cX5_clearRow 1 = .ok (.istore_n 1, 1) := by decide +kernel
theorem dX5_clearRow_2 : decode cX5_clearRow 2 = .ok (.iload_n 1, 1) := by decide +kernel
theorem dX5_clearRow_3 : decode cX5_clearRow 3 = .ok (.aload_n 0, 1) := by decide +kernel
theorem dX5_clearRow_4 : decode cX5_clearRow 4 = .ok (.arraylength, 1) := by decide +kernel
theorem dX5_clearRow_5 : decode cX5_clearRow 5 = .ok (.if_icmp .ge 13, 3) := by decide +kernel
theorem dX5_clearRow_8 : decode cX5_clearRow 8 = .ok (.aload_n 0, 1) := by decide +kernel
theorem dX5_clearRow_9 : decode cX5_clearRow 9 = .ok (.iload_n 1, 1) := by decide +kernel
theorem dX5_clearRow_10 : decode cX5_clearRow 10 = .ok (.iconst 0, 1) := by decide +kernel
theorem dX5_clearRow_11 : decode cX5_clearRow 11 = .ok (.iastore, 1) := by decide +kernel
theorem dX5_clearRow_12 : decode cX5_clearRow 12 = .ok (.iinc 1 1, 3) := by decide +kernel
theorem dX5_clearRow_15 : decode cX5_clearRow 15 = .ok (.goto (-13), 3) := by decide +kernel
theorem dX5_clearRow_18 : decode cX5_clearRow 18 = .ok (.return_, 1) := by decide +kernel
