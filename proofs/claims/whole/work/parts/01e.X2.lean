theorem dX2_init_0 : decode cX2_init 0 = .ok (.aload_n 0, 1) := by decide +kernel
theorem dX2_init_1 : decode cX2_init 1 = .ok (.invokespecial 3, 3) := by decide +kernel
theorem dX2_init_4 : decode cX2_init 4 = .ok (.aload_n 0, 1) := by decide +kernel
theorem dX2_init_5 : decode cX2_init 5 = .ok (.iconst 4, 1) := by decide +kernel
theorem dX2_init_6 : decode cX2_init 6 = .ok (.putfield 9, 3) := by decide +kernel
theorem dX2_init_9 : decode cX2_init 9 = .ok (.aload_n 0, 1) := by decide +kernel
theorem dX2_init_10 : decode cX2_init 10 = .ok (.iconst 2, 1) := by decide +kernel
theorem dX2_init_11 : decode cX2_init 11 = .ok (.putfield 15, 3) := by decide +kernel
theorem dX2_init_14 : decode cX2_init 14 = .ok (.return_, 1) := by decide +kernel
theorem dX2_hasNode_0 : decode cX2_hasNode 0 = .ok (.iload_n 1, 1) := by decide +kernel
theorem dX2_hasNode_1 : decode cX2_hasNode 1 = .ok (.ifCond .lt 15, 3) := by decide +kernel
theorem dX2_hasNode_4 : decode cX2_hasNode 4 = .ok (.iload_n 1, 1) := by decide +kernel
theorem dX2_hasNode_5 : decode cX2_hasNode 5 = .ok (.aload_n 0, 1) := by decide +kernel
theorem dX2_hasNode_6 : decode cX2_hasNode 6 = .ok (.getfield 9, 3) := by decide +kernel
theorem dX2_hasNode_9 : decode cX2_hasNode 9 = .ok (.if_icmp .ge 7, 3) := by decide +kernel
theorem dX2_hasNode_12 : decode cX2_hasNode 12 = .ok (.iconst 1, 1) := by decide +kernel
theorem dX2_hasNode_13 : decode cX2_hasNode 13 = .ok (.goto 4, 3) := by decide +kernel
theorem dX2_hasNode_16 : decode cX2_hasNode 16 = .ok (.iconst 0, 1) := by decide +kernel
theorem dX2_hasNode_17 : decode cX2_hasNode 17 = .ok (.ireturn, 1) := by decide +kernel
theorem dX2_hasSpan_0 : decode cX2_hasSpan 0 = .ok (.iload_n 1, 1) := by decide +kernel
theorem dX2_hasSpan_1 : decode cX2_hasSpan 1 = .ok (.ifCond .lt 15, 3) := by decide +kernel
theorem dX2_hasSpan_4 : decode cX2_hasSpan 4 = .ok (.iload_n 1, 1) := by decide +kernel
theorem dX2_hasSpan_5 : decode cX2_hasSpan 5 = .ok (.aload_n 0, 1) := by decide +kernel
theorem dX2_hasSpan_6 : decode cX2_hasSpan 6 = .ok (.getfield 9, 3) := by decide +kernel
theorem dX2_hasSpan_9 : decode cX2_hasSpan 9 = .ok (.if_icmp .ge 7, 3) := by decide +kernel
theorem dX2_hasSpan_12 : decode cX2_hasSpan 12 = .ok (.iconst 1, 1) := by decide +kernel
theorem dX2_hasSpan_13 : decode cX2_hasSpan 13 = .ok (.goto 4, 3) := by decide +kernel
theorem dX2_hasSpan_16 : decode cX2_hasSpan 16 = .ok (.iconst 0, 1) := by decide +kernel
theorem dX2_hasSpan_17 : decode cX2_hasSpan 17 = .ok (.ireturn, 1) := by decide +kernel
theorem dX2_nodeAfter_0 : decode cX2_nodeAfter 0 = .ok (.iload_n 1, 1) := by decide +kernel
theorem dX2_nodeAfter_1 : decode cX2_nodeAfter 1 = .ok (.iconst 1, 1) := by decide +kernel
theorem dX2_nodeAfter_2 : decode cX2_nodeAfter 2 = .ok (.iadd, 1) := by decide +kernel
theorem dX2_nodeAfter_3 : decode cX2_nodeAfter 3 = .ok (.aload_n 0, 1) := by decide +kernel
theorem dX2_nodeAfter_4 : decode cX2_nodeAfter 4 = .ok (.getfield 9, 3) := by decide +kernel
theorem dX2_nodeAfter_7 : decode cX2_nodeAfter 7 = .ok (.if_icmp .ge 9, 3) := by decide +kernel
theorem dX2_nodeAfter_10 : decode cX2_nodeAfter 10 = .ok (.iload_n 1, 1) := by decide +kernel
theorem dX2_nodeAfter_11 : decode cX2_nodeAfter 11 = .ok (.iconst 1, 1) := by decide +kernel
theorem dX2_nodeAfter_12 : decode cX2_nodeAfter 12 = .ok (.iadd, 1) := by decide +kernel
theorem dX2_nodeAfter_13 : decode cX2_nodeAfter 13 = .ok (.goto 4, 3) := by decide +kernel
theorem dX2_nodeAfter_16 : decode cX2_nodeAfter 16 = .ok (.iconst 0, 1) := by decide +kernel
theorem dX2_nodeAfter_17 : decode cX2_nodeAfter 17 = .ok (.ireturn, 1) := by decide +kernel
theorem dX2_spansAt_0 : decode cX2_spansAt 0 = .ok (.iload_n 1, 1) := by decide +kernel
theorem dX2_spansAt_1 : decode cX2_spansAt 1 = .ok (.ifCond .le 9, 3) := by decide +kernel
theorem dX2_spansAt_4 : decode cX2_spansAt 4 = .ok (.iload_n 1, 1) := by decide +kernel
theorem dX2_spansAt_5 : decode cX2_spansAt 5 = .ok (.iconst 1, 1) := by decide +kernel
theorem dX2_spansAt_6 : decode cX2_spansAt 6 = .ok (.isub, 1) := by decide +kernel
theorem dX2_spansAt_7 : decode cX2_spansAt 7 = .ok (.goto 9, 3) := by decide +kernel
theorem dX2_spansAt_10 : decode cX2_spansAt 10 = .ok (.aload_n 0, 1) := by decide +kernel
theorem dX2_spansAt_11 : decode cX2_spansAt 11 = .ok (.getfield 9, 3) := by decide +kernel
theorem dX2_spansAt_14 : decode cX2_spansAt 14 = .ok (.iconst 1, 1) := by decide +kernel
theorem dX2_spansAt_15 : decode cX2_spansAt 15 = .ok (.isub, 1) := by decide +kernel
theorem dX2_spansAt_16 : decode cX2_spansAt 16 = .ok (.istore_n 2, 1) := by decide +kernel
theorem dX2_spansAt_17 : decode cX2_spansAt 17 = .ok (.iconst 1, 1) := by decide +kernel
theorem dX2_spansAt_18 : decode cX2_spansAt 18 = .ok (.iload_n 1, 1) := by decide +kernel
theorem dX2_spansAt_19 : decode cX2_spansAt 19 = .ok (.ishl, 1) := by decide +kernel
theorem dX2_spansAt_20 : decode cX2_spansAt 20 = .ok (.iconst 1, 1) := by decide +kernel
theorem dX2_spansAt_21 : decode cX2_spansAt 21 = .ok (.iload_n 2, 1) := by decide +kernel
theorem dX2_spansAt_22 : decode cX2_spansAt 22 = .ok (.ishl, 1) := by decide +kernel
theorem dX2_spansAt_23 : decode cX2_spansAt 23 = .ok (.ior, 1) := by decide +kernel
theorem dX2_spansAt_24 : decode cX2_spansAt 24 = .ok (.ireturn, 1) := by decide +kernel
set_option maxRecDepth 20000 in
theorem ggX2_route_X2_nodeAfter : GoodIn wsX2_route wsX2_nodeAfter := goodIn_r _ [6, 1, 7, 8] (by decide +kernel) (by decide +kernel)
set_option maxRecDepth 20000 in
theorem gX2_route_X2_nodeAfter : GoodIn wsX2_route (wsV RX2 18 RX2 yX2_nodeAfter wsX2_nodeAfter) := goodIn_app (goodIn_of _ (by decide +kernel)) ggX2_route_X2_nodeAfter
theorem dX2_route_0 : decode cX2_route 0 = .ok (.iconst 0, 1) := by decide +kernel
theorem dX2_route_1 : decode cX2_route 1 = .ok (.istore 4, 2) := by decide +kernel
theorem dX2_route_3 : decode cX2_route 3 = .ok (.iload_n 1, 1) := by decide +kernel
theorem dX2_route_4 : decode cX2_route 4 = .ok (.istore 5, 2) := by decide +kernel
theorem dX2_route_6 : decode cX2_route 6 = .ok (.iconst 0, 1) := by decide +kernel
theorem dX2_route_7 : decode cX2_route 7 = .ok (.istore 6, 2) := by decide +kernel
theorem dX2_route_9 : decode cX2_route 9 = .ok (.iload 6, 2) := by decide +kernel
theorem dX2_route_11 : decode cX2_route 11 = .ok (.aload_n 0, 1) := by decide +kernel
theorem dX2_route_12 : decode cX2_route 12 = .ok (.getfield 9, 3) := by decide +kernel
theorem dX2_route_15 : decode cX2_route 15 = .ok (.if_icmp .ge 32, 3) := by decide +kernel
theorem dX2_route_18 : decode cX2_route 18 = .ok (.iload 5, 2) := by decide +kernel
theorem dX2_route_20 : decode cX2_route 20 = .ok (.iload_n 2, 1) := by decide +kernel
theorem dX2_route_21 : decode cX2_route 21 = .ok (.if_icmp .eq 26, 3) := by decide +kernel
theorem dX2_route_24 : decode cX2_route 24 = .ok (.iload 4, 2) := by decide +kernel
theorem dX2_route_26 : decode cX2_route 26 = .ok (.iconst 1, 1) := by decide +kernel
theorem dX2_route_27 : decode cX2_route 27 = .ok (.iload 5, 2) := by decide +kernel
theorem dX2_route_29 : decode cX2_route 29 = .ok (.ishl, 1) := by decide +kernel
theorem dX2_route_30 : decode cX2_route 30 = .ok (.ior, 1) := by decide +kernel
theorem dX2_route_31 : decode cX2_route 31 = .ok (.istore 4, 2) := by decide +kernel
theorem dX2_route_33 : decode cX2_route 33 = .ok (.aload_n 0, 1) := by decide +kernel
theorem dX2_route_34 : decode cX2_route 34 = .ok (.iload 5, 2) := by decide +kernel
theorem dX2_route_36 : decode cX2_route 36 = .ok (.invokevirtual 18, 3) := by decide +kernel
theorem dX2_route_39 : decode cX2_route 39 = .ok (.istore 5, 2) := by decide +kernel
theorem dX2_route_41 : decode cX2_route 41 = .ok (.iinc 6 1, 3) := by decide +kernel
theorem dX2_route_44 : decode cX2_route 44 = .ok (.goto (-35), 3) := by decide +kernel
theorem dX2_route_47 : decode cX2_route 47 = .ok (.iconst 1, 1) := by decide +kernel
theorem dX2_route_48 : decode cX2_route 48 = .ok (.aload_n 0, 1) := by decide +kernel
theorem dX2_route_49 : decode cX2_route 49 = .ok (.getfield 9, 3) := by decide +kernel
theorem dX2_route_52 : decode cX2_route 52 = .ok (.ishl, 1) := by decide +kernel
theorem dX2_route_53 : decode cX2_route 53 = .ok (.iconst 1, 1) := by decide +kernel
theorem dX2_route_54 : decode cX2_route 54 = .ok (.isub, 1) := by decide +kernel
theorem dX2_route_55 : decode cX2_route 55 = .ok (.istore 6, 2) := by decide +kernel
theorem dX2_route_57 : decode cX2_route 57 = .ok (.iload_n 3, 1) := by decide +kernel
theorem dX2_route_58 : decode cX2_route 58 = .ok (.ifCond .eq 8, 3) := by decide +kernel
theorem dX2_route_61 : decode cX2_route 61 = .ok (.iload 4, 2) := by decide +kernel
theorem dX2_route_63 : decode cX2_route 63 = .ok (.goto 10, 3) := by decide +kernel
theorem dX2_route_66 : decode cX2_route 66 = .ok (.iload 6, 2) := by decide +kernel
theorem dX2_route_68 : decode cX2_route 68 = .ok (.iload 4, 2) := by decide +kernel
theorem dX2_route_70 : decode cX2_route 70 = .ok (.iconst (-1), 1) := by decide +kernel
theorem dX2_route_71 : decode cX2_route 71 = .ok (.ixor, 1) := by decide +kernel
theorem dX2_route_72 : decode cX2_route 72 = .ok (.iand, 1) := by decide +kernel
theorem dX2_route_73 : decode cX2_route 73 = .ok (.ireturn, 1) := by decide +kernel
