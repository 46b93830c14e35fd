theorem dX6_compare_14 : decode cX6_compare 14 = .ok (.iconst 5, 1) := by decide +kernel
theorem dX6_compare_15 : decode cX6_compare 15 = .ok (.if_icmp .eq 9, 3) := by decide +kernel
theorem dX6_compare_18 : decode cX6_compare 18 = .ok (.iload_n 2, 1) := by decide +kernel
theorem dX6_compare_19 : decode cX6_compare 19 = .ok (.bipush 6, 2) := by decide +kernel
theorem dX6_compare_21 : decode cX6_compare 21 = .ok (.if_icmp .ne 7, 3) := by decide +kernel
theorem dX6_compare_24 : decode cX6_compare 24 = .ok (.iconst 1, 1) := by decide +kernel
theorem dX6_compare_25 : decode cX6_compare 25 = .ok (.goto 4, 3) := by decide +kernel
theorem dX6_compare_28 : decode cX6_compare 28 = .ok (.iconst 0, 1) := by decide +kernel
theorem dX6_compare_29 : decode cX6_compare 29 = .ok (.istore 4, 2) := by decide +kernel
theorem dX6_compare_31 : decode cX6_compare 31 = .ok (.iload 4, 2) := by decide +kernel
theorem dX6_compare_33 : decode cX6_compare 33 = .ok (.ifCond .eq 68, 3) := by decide +kernel
theorem dX6_compare_36 : decode cX6_compare 36 = .ok (.aload_n 0, 1) := by decide +kernel
theorem dX6_compare_37 : decode cX6_compare 37 = .ok (.iload_n 1, 1) := by decide +kernel
theorem dX6_compare_38 : decode cX6_compare 38 = .ok (.bipush 6, 2) := by decide +kernel
theorem dX6_compare_40 : decode cX6_compare 40 = .ok (.invokevirtual 67, 3) := by decide +kernel
theorem dX6_compare_43 : decode cX6_compare 43 = .ok (.ifCond .eq 58, 3) := by decide +kernel
theorem dX6_compare_46 : decode cX6_compare 46 = .ok (.iload_n 3, 1) := by decide +kernel
theorem dX6_compare_47 : decode cX6_compare 47 = .ok (.ifCond .ne 54, 3) := by decide +kernel
theorem dX6_compare_50 : decode cX6_compare 50 = .ok (.aload_n 0, 1) := by decide +kernel
theorem dX6_compare_51 : decode cX6_compare 51 = .ok (.getfield 7, 3) := by decide +kernel
theorem dX6_compare_54 : decode cX6_compare 54 = .ok (.iconst 2, 1) := by decide +kernel
theorem dX6_compare_55 : decode cX6_compare 55 = .ok (.iaload, 1) := by decide +kernel
theorem dX6_compare_56 : decode cX6_compare 56 = .ok (.ifCond .le 45, 3) := by decide +kernel
theorem dX6_compare_59 : decode cX6_compare 59 = .ok (.aload_n 0, 1) := by decide +kernel
theorem dX6_compare_60 : decode cX6_compare 60 = .ok (.getfield 7, 3) := by decide +kernel
theorem dX6_compare_63 : decode cX6_compare 63 = .ok (.iload_n 1, 1) := by decide +kernel
theorem dX6_compare_64 : decode cX6_compare 64 = .ok (.iconst 3, 1) := by decide +kernel
theorem dX6_compare_65 : decode cX6_compare 65 = .ok (.invokestatic 27, 3) := by decide +kernel
theorem dX6_compare_68 : decode cX6_compare 68 = .ok (.aload_n 0, 1) := by decide +kernel
theorem dX6_compare_69 : decode cX6_compare 69 = .ok (.getfield 7, 3) := by decide +kernel
theorem dX6_compare_72 : decode cX6_compare 72 = .ok (.iconst 2, 1) := by decide +kernel
theorem dX6_compare_73 : decode cX6_compare 73 = .ok (.iaload, 1) := by decide +kernel
theorem dX6_compare_74 : decode cX6_compare 74 = .ok (.iastore, 1) := by decide +kernel
theorem dX6_compare_75 : decode cX6_compare 75 = .ok (.aload_n 0, 1) := by decide +kernel
theorem dX6_compare_76 : decode cX6_compare 76 = .ok (.getfield 7, 3) := by decide +kernel
theorem dX6_compare_79 : decode cX6_compare 79 = .ok (.iload_n 1, 1) := by decide +kernel
theorem dX6_compare_80 : decode cX6_compare 80 = .ok (.iconst 4, 1) := by decide +kernel
theorem dX6_compare_81 : decode cX6_compare 81 = .ok (.invokestatic 27, 3) := by decide +kernel
theorem dX6_compare_84 : decode cX6_compare 84 = .ok (.aload_n 0, 1) := by decide +kernel
theorem dX6_compare_85 : decode cX6_compare 85 = .ok (.iload_n 1, 1) := by decide +kernel
theorem dX6_compare_86 : decode cX6_compare 86 = .ok (.bipush 6, 2) := by decide +kernel
theorem dX6_compare_88 : decode cX6_compare 88 = .ok (.invokevirtual 67, 3) := by decide +kernel
theorem dX6_compare_91 : decode cX6_compare 91 = .ok (.iconst 1, 1) := by decide +kernel
theorem dX6_compare_92 : decode cX6_compare 92 = .ok (.if_icmp .ne 7, 3) := by decide +kernel
theorem dX6_compare_95 : decode cX6_compare 95 = .ok (.iconst 1, 1) := by decide +kernel
theorem dX6_compare_96 : decode cX6_compare 96 = .ok (.goto 4, 3) := by decide +kernel
theorem dX6_compare_99 : decode cX6_compare 99 = .ok (.iconst 2, 1) := by decide +kernel
theorem dX6_compare_100 : decode cX6_compare 100 = .ok (.iastore, 1) := by decide +kernel
theorem dX6_compare_101 : decode cX6_compare 101 = .ok (.iload_n 3, 1) := by decide +kernel
theorem dX6_compare_102 : decode cX6_compare 102 = .ok (.ifCond .eq 14, 3) := by decide +kernel
theorem dX6_compare_105 : decode cX6_compare 105 = .ok (.aload_n 0, 1) := by decide +kernel
theorem dX6_compare_106 : decode cX6_compare 106 = .ok (.getfield 7, 3) := by decide +kernel
theorem dX6_compare_109 : decode cX6_compare 109 = .ok (.iload_n 1, 1) := by decide +kernel
theorem dX6_compare_110 : decode cX6_compare 110 = .ok (.iconst 3, 1) := by decide +kernel
theorem dX6_compare_111 : decode cX6_compare 111 = .ok (.invokestatic 27, 3) := by decide +kernel
theorem dX6_compare_114 : decode cX6_compare 114 = .ok (.iconst 0, 1) := by decide +kernel
theorem dX6_compare_115 : decode cX6_compare 115 = .ok (.iastore, 1) := by decide +kernel
theorem dX6_compare_116 : decode cX6_compare 116 = .ok (.aload_n 0, 1) := by decide +kernel
theorem dX6_compare_117 : decode cX6_compare 117 = .ok (.getfield 7, 3) := by decide +kernel
theorem dX6_compare_120 : decode cX6_compare 120 = .ok (.iload_n 1, 1) := by decide +kernel
theorem dX6_compare_121 : decode cX6_compare 121 = .ok (.iconst 5, 1) := by decide +kernel
theorem dX6_compare_122 : decode cX6_compare 122 = .ok (.invokestatic 27, 3) := by decide +kernel
theorem dX6_compare_125 : decode cX6_compare 125 = .ok (.iload_n 3, 1) := by decide +kernel
theorem dX6_compare_126 : decode cX6_compare 126 = .ok (.iastore, 1) := by decide +kernel
theorem dX6_compare_127 : decode cX6_compare 127 = .ok (.return_, 1) := by decide +kernel
set_option maxRecDepth 20000 in
theorem ggX6_someRequest_X6_requestOf : GoodIn wsX6_someRequest wsX6_requestOf := goodIn_r _ [6, 7, 8, 9, 5, 10, 11, 12, 13, 14, 1, 15, 16, 17, 18, 19, 20, 21, 22, 23, 24, 25, 26, 27, 28, 29] (by decide +kernel) (by decide +kernel)
set_option maxRecDepth 20000 in
theorem gX6_someRequest_X6_requestOf : GoodIn wsX6_someRequest (wsV RX6 79 RX6 yX6_requestOf wsX6_requestOf) := goodIn_app (goodIn_of _ (by decide +kernel)) ggX6_someRequest_X6_requestOf
theorem dX6_someRequest_0 : decode cX6_someRequest 0 = .ok (.iconst 0, 1) := by decide +kernel
theorem dX6_someRequest_1 : decode cX6_someRequest 1 = .ok (.istore_n 2, 1) := by decide +kernel
theorem dX6_someRequest_2 : decode cX6_someRequest 2 = .ok (.iconst 0, 1) := by decide +kernel
theorem dX6_someRequest_3 : decode cX6_someRequest 3 = .ok (.istore_n 3, 1) := by decide +kernel
theorem dX6_someRequest_4 : decode cX6_someRequest 4 = .ok (.iload_n 3, 1) := by decide +kernel
theorem dX6_someRequest_5 : decode cX6_someRequest 5 = .ok (.aload_n 0, 1) := by decide +kernel
theorem dX6_someRequest_6 : decode cX6_someRequest 6 = .ok (.getfield 7, 3) := by decide +kernel
theorem dX6_someRequest_9 : decode cX6_someRequest 9 = .ok (.iconst 0, 1) := by decide +kernel
theorem dX6_someRequest_10 : decode cX6_someRequest 10 = .ok (.iaload, 1) := by decide +kernel
theorem dX6_someRequest_11 : decode cX6_someRequest 11 = .ok (.if_icmp .ge 28, 3) := by decide +kernel
theorem dX6_someRequest_14 : decode cX6_someRequest 14 = .ok (.iload_n 2, 1) := by decide +kernel
theorem dX6_someRequest_15 : decode cX6_someRequest 15 = .ok (.ifCond .ne 12, 3) := by decide +kernel
theorem dX6_someRequest_18 : decode cX6_someRequest 18 = .ok (.aload_n 0, 1) := by decide +kernel
theorem dX6_someRequest_19 : decode cX6_someRequest 19 = .ok (.iload_n 3, 1) := by decide +kernel
theorem dX6_someRequest_20 : decode cX6_someRequest 20 = .ok (.invokevirtual 79, 3) := by decide +kernel
theorem dX6_someRequest_23 : decode cX6_someRequest 23 = .ok (.iload_n 1, 1) := by decide +kernel
theorem dX6_someRequest_24 : decode cX6_someRequest 24 = .ok (.if_icmp .ne 7, 3) := by decide +kernel
theorem dX6_someRequest_27 : decode cX6_someRequest 27 = .ok (.iconst 1, 1) := by decide +kernel
theorem dX6_someRequest_28 : decode cX6_someRequest 28 = .ok (.goto 4, 3) := by decide +kernel
theorem dX6_someRequest_31 : decode cX6_someRequest 31 = .ok (.iconst 0, 1) := by decide +kernel
theorem dX6_someRequest_32 : decode cX6_someRequest 32 = .ok (.istore_n 2, 1) := by decide +kernel
theorem dX6_someRequest_33 : decode cX6_someRequest 33 = .ok (.iinc 3 1, 3) := by decide +kernel
theorem dX6_someRequest_36 : decode cX6_someRequest 36 = .ok (.goto (-32), 3) := by decide +kernel
theorem dX6_someRequest_39 : decode cX6_someRequest 39 = .ok (.iload_n 2, 1) := by decide +kernel
theorem dX6_someRequest_40 : decode cX6_someRequest 40 = .ok (.ireturn, 1) := by decide +kernel
set_option maxRecDepth 20000 in
theorem ggX6_someSwitch_X6_of : GoodIn wsX6_someSwitch wsX6_of := goodIn_r _ [6, 1, 7, 8, 5, 9, 10, 11, 12, 13] (by decide +kernel) (by decide +kernel)
set_option maxRecDepth 20000 in
theorem gX6_someSwitch_X6_of : GoodIn wsX6_someSwitch (wsV RX6 67 RX6 yX6_of wsX6_of) := goodIn_app (goodIn_of _ (by decide +kernel)) ggX6_someSwitch_X6_of
theorem dX6_someSwitch_0 : decode cX6_someSwitch 0 = .ok (.iconst 0, 1) := by decide +kernel
theorem dX6_someSwitch_1 : decode cX6_someSwitch 1 = .ok (.istore_n 2, 1) := by decide +kernel
theorem dX6_someSwitch_2 : decode cX6_someSwitch 2 = .ok (.iconst 0, 1) := by decide +kernel
theorem dX6_someSwitch_3 : decode cX6_someSwitch 3 = .ok (.istore_n 3, 1) := by decide +kernel
theorem dX6_someSwitch_4 : decode cX6_someSwitch 4 = .ok (.iload_n 3, 1) := by decide +kernel
theorem dX6_someSwitch_5 : decode cX6_someSwitch 5 = .ok (.aload_n 0, 1) := by decide +kernel
theorem dX6_someSwitch_6 : decode cX6_someSwitch 6 = .ok (.getfield 7, 3) := by decide +kernel
theorem dX6_someSwitch_9 : decode cX6_someSwitch 9 = .ok (.iconst 0, 1) := by decide +kernel
theorem dX6_someSwitch_10 : decode cX6_someSwitch 10 = .ok (.iaload, 1) := by decide +kernel
theorem dX6_someSwitch_11 : decode cX6_someSwitch 11 = .ok (.if_icmp .ge 30, 3) := by decide +kernel
theorem dX6_someSwitch_14 : decode cX6_someSwitch 14 = .ok (.iload_n 2, 1) := by decide +kernel
theorem dX6_someSwitch_15 : decode cX6_someSwitch 15 = .ok (.ifCond .ne 14, 3) := by decide +kernel
theorem dX6_someSwitch_18 : decode cX6_someSwitch 18 = .ok (.aload_n 0, 1) := by decide +kernel
theorem dX6_someSwitch_19 : decode cX6_someSwitch 19 = .ok (.iload_n 3, 1) := by decide +kernel
theorem dX6_someSwitch_20 : decode cX6_someSwitch 20 = .ok (.bipush 6, 2) := by decide +kernel
theorem dX6_someSwitch_22 : decode cX6_someSwitch 22 = .ok (.invokevirtual 67, 3) := by decide +kernel
theorem dX6_someSwitch_25 : decode cX6_someSwitch 25 = .ok (.iload_n 1, 1) := by decide +kernel
theorem dX6_someSwitch_26 : decode cX6_someSwitch 26 = .ok (.if_icmp .ne 7, 3) := by decide +kernel
theorem dX6_someSwitch_29 : decode cX6_someSwitch 29 = .ok (.iconst 1, 1) := by decide +kernel
theorem dX6_someSwitch_30 : decode cX6_someSwitch 30 = .ok (.goto 4, 3) := by decide +kernel
theorem dX6_someSwitch_33 : decode cX6_someSwitch 33 = .ok (.iconst 0, 1) := by decide +kernel
theorem dX6_someSwitch_34 : decode cX6_someSwitch 34 = .ok (.istore_n 2, 1) := by decide +kernel
theorem dX6_someSwitch_35 : decode cX6_someSwitch 35 = .ok (.iinc 3 1, 3) := by decide +kernel
theorem dX6_someSwitch_38 : decode cX6_someSwitch 38 = .ok (.goto (-34), 3) := by decide +kernel
theorem dX6_someSwitch_41 : decode cX6_someSwitch 41 = .ok (.iload_n 2, 1) := by decide +kernel
theorem dX6_someSwitch_42 : decode cX6_someSwitch 42 = .ok (.ireturn, 1) := by decide +kernel
set_option maxRecDepth 20000 in
theorem ggX6_grantFor_X6_someRequest : GoodIn wsX6_grantFor wsX6_someRequest := goodIn_r _ [5, 6, 7, 8, 9, 4, 10, 11, 12, 13, 14, 15, 16, 17, 18, 19, 20, 21, 22, 23, 24, 25, 26, 27, 28, 29, 34, 35, 36, 37] (by decide +kernel) (by decide +kernel)
set_option maxRecDepth 20000 in
theorem gX6_grantFor_X6_someRequest : GoodIn wsX6_grantFor (wsV RX6 82 RX6 yX6_someRequest wsX6_someRequest) := goodIn_app (goodIn_of _ (by decide +kernel)) ggX6_grantFor_X6_someRequest
set_option maxRecDepth 20000 in
theorem ggX6_grantFor_X6_someSwitch : GoodIn wsX6_grantFor wsX6_someSwitch := goodIn_r _ [33, 6, 19, 20, 21, 4, 22, 23, 24, 25, 34, 35, 36, 37] (by decide +kernel) (by decide +kernel)
set_option maxRecDepth 20000 in
theorem gX6_grantFor_X6_someSwitch : GoodIn wsX6_grantFor (wsV RX6 85 RX6 yX6_someSwitch wsX6_someSwitch) := goodIn_app (goodIn_of _ (by decide +kernel)) ggX6_grantFor_X6_someSwitch
theorem dX6_grantFor_0 : decode cX6_grantFor 0 = .ok (.aload_n 0, 1) := by decide +kernel
theorem dX6_grantFor_1 : decode cX6_grantFor 1 = .ok (.bipush 9, 2) := by decide +kernel
theorem dX6_grantFor_3 : decode cX6_grantFor 3 = .ok (.invokevirtual 82, 3) := by decide +kernel
theorem dX6_grantFor_6 : decode cX6_grantFor 6 = .ok (.istore_n 2, 1) := by decide +kernel
theorem dX6_grantFor_7 : decode cX6_grantFor 7 = .ok (.aload_n 0, 1) := by decide +kernel
theorem dX6_grantFor_8 : decode cX6_grantFor 8 = .ok (.iconst 1, 1) := by decide +kernel
theorem dX6_grantFor_9 : decode cX6_grantFor 9 = .ok (.invokevirtual 85, 3) := by decide +kernel
theorem dX6_grantFor_12 : decode cX6_grantFor 12 = .ok (.istore_n 3, 1) := by decide +kernel
theorem dX6_grantFor_13 : decode cX6_grantFor 13 = .ok (.aload_n 0, 1) := by decide +kernel
theorem dX6_grantFor_14 : decode cX6_grantFor 14 = .ok (.iconst 2, 1) := by decide +kernel
theorem dX6_grantFor_15 : decode cX6_grantFor 15 = .ok (.invokevirtual 85, 3) := by decide +kernel
theorem dX6_grantFor_18 : decode cX6_grantFor 18 = .ok (.istore 4, 2) := by decide +kernel
theorem dX6_grantFor_20 : decode cX6_grantFor 20 = .ok (.iload_n 1, 1) := by decide +kernel
theorem dX6_grantFor_21 : decode cX6_grantFor 21 = .ok (.tableswitch 91 1 8 #[80, 61, 80, 61, 80, 47, 80, 47], 47) := by decide +kernel
theorem dX6_grantFor_68 : decode cX6_grantFor 68 = .ok (.iload_n 2, 1) := by decide +kernel
theorem dX6_grantFor_69 : decode cX6_grantFor 69 = .ok (.ifCond .ne 7, 3) := by decide +kernel
theorem dX6_grantFor_72 : decode cX6_grantFor 72 = .ok (.iload_n 3, 1) := by decide +kernel
theorem dX6_grantFor_73 : decode cX6_grantFor 73 = .ok (.ifCond .eq 7, 3) := by decide +kernel
theorem dX6_grantFor_76 : decode cX6_grantFor 76 = .ok (.iconst 0, 1) := by decide +kernel
theorem dX6_grantFor_77 : decode cX6_grantFor 77 = .ok (.goto 4, 3) := by decide +kernel
theorem dX6_grantFor_80 : decode cX6_grantFor 80 = .ok (.iconst 2, 1) := by decide +kernel
theorem dX6_grantFor_81 : decode cX6_grantFor 81 = .ok (.ireturn, 1) := by decide +kernel
theorem dX6_grantFor_82 : decode cX6_grantFor 82 = .ok (.iload_n 2, 1) := by decide +kernel
theorem dX6_grantFor_83 : decode cX6_grantFor 83 = .ok (.ifCond .ne 12, 3) := by decide +kernel
theorem dX6_grantFor_86 : decode cX6_grantFor 86 = .ok (.iload_n 3, 1) := by decide +kernel
theorem dX6_grantFor_87 : decode cX6_grantFor 87 = .ok (.ifCond .ne 8, 3) := by decide +kernel
theorem dX6_grantFor_90 : decode cX6_grantFor 90 = .ok (.iload 4, 2) := by decide +kernel
theorem dX6_grantFor_92 : decode cX6_grantFor 92 = .ok (.ifCond .eq 7, 3) := by decide +kernel
theorem dX6_grantFor_95 : decode cX6_grantFor 95 = .ok (.iconst 0, 1) := by decide +kernel
theorem dX6_grantFor_96 : decode cX6_grantFor 96 = .ok (.goto 4, 3) := by decide +kernel
theorem dX6_grantFor_99 : decode cX6_grantFor 99 = .ok (.iconst 2, 1) := by decide +kernel
theorem dX6_grantFor_100 : decode cX6_grantFor 100 = .ok (.ireturn, 1) := by decide +kernel
theorem dX6_grantFor_101 : decode cX6_grantFor 101 = .ok (.iload 4, 2) := by decide +kernel
theorem dX6_grantFor_103 : decode cX6_grantFor 103 = .ok (.ifCond .eq 7, 3) := by decide +kernel
theorem dX6_grantFor_106 : decode cX6_grantFor 106 = .ok (.iconst 0, 1) := by decide +kernel
theorem dX6_grantFor_107 : decode cX6_grantFor 107 = .ok (.goto 4, 3) := by decide +kernel
theorem dX6_grantFor_110 : decode cX6_grantFor 110 = .ok (.iconst 1, 1) := by decide +kernel
theorem dX6_grantFor_111 : decode cX6_grantFor 111 = .ok (.ireturn, 1) := by decide +kernel
theorem dX6_grantFor_112 : decode cX6_grantFor 112 = .ok (.iconst 0, 1) := by decide +kernel
theorem dX6_grantFor_113 : decode cX6_grantFor 113 = .ok (.ireturn, 1) := by decide +kernel
set_option maxRecDepth 20000 in
theorem ggX6_control_X6_compare : GoodIn wsX6_control wsX6_compare := goodIn_r _ [6, 1, 7, 8, 9, 5, 10, 11, 12, 13, 14, 15, 16, 17, 18, 19, 20, 21, 22, 23, 24, 25, 42, 43, 44, 45] (by decide +kernel) (by decide +kernel)
set_option maxRecDepth 20000 in
theorem gX6_control_X6_compare : GoodIn wsX6_control (wsV RX6 88 RX6 yX6_compare wsX6_compare) := goodIn_app (goodIn_of _ (by decide +kernel)) ggX6_control_X6_compare
set_option maxRecDepth 20000 in
theorem ggX6_control_X6_at : GoodIn wsX6_control wsX6_at := goodIn_r _ [13] (by decide +kernel) (by decide +kernel)
set_option maxRecDepth 20000 in
theorem gX6_control_X6_at : GoodIn wsX6_control (va_wsS RX6 27 yX6_at wsX6_at) := goodIn_app (goodIn_of _ (by decide +kernel)) ggX6_control_X6_at
set_option maxRecDepth 20000 in
theorem ggX6_control_X6_requestOf : GoodIn wsX6_control wsX6_requestOf := goodIn_r _ [29, 14, 15, 16, 5, 17, 18, 19, 20, 21, 1, 7, 8, 9, 10, 11, 12, 13, 22, 23, 24, 25, 42, 43, 44, 45] (by decide +kernel) (by decide +kernel)
set_option maxRecDepth 20000 in
theorem gX6_control_X6_requestOf : GoodIn wsX6_control (wsV RX6 79 RX6 yX6_requestOf wsX6_requestOf) := goodIn_app (goodIn_of _ (by decide +kernel)) ggX6_control_X6_requestOf
set_option maxRecDepth 20000 in
theorem ggX6_control_X6_grantFor : GoodIn wsX6_control wsX6_grantFor := goodIn_r _ [33, 34, 35, 36, 5, 37, 1, 26, 27, 28, 29, 14, 15, 16, 17, 18, 19, 20, 21, 7, 8, 9, 10, 11, 12, 13, 22, 23, 24, 25, 38, 39, 40, 41, 42, 43, 44, 45] (by decide +kernel) (by decide +kernel)
set_option maxRecDepth 20000 in
theorem gX6_control_X6_grantFor : GoodIn wsX6_control (wsV RX6 92 RX6 yX6_grantFor wsX6_grantFor) := goodIn_app (goodIn_of _ (by decide +kernel)) ggX6_control_X6_grantFor
set_option maxRecDepth 20000 in
theorem ggX6_control_X6_of : GoodIn wsX6_control wsX6_of := goodIn_r _ [10, 1, 11, 12, 5, 13, 42, 43, 44, 45] (by decide +kernel) (by decide +kernel)
set_option maxRecDepth 20000 in
theorem gX6_control_X6_of : GoodIn wsX6_control (wsV RX6 67 RX6 yX6_of wsX6_of) := goodIn_app (goodIn_of _ (by decide +kernel)) ggX6_control_X6_of
theorem dX6_control_0 : decode cX6_control 0 = .ok (.iconst 0, 1) := by decide +kernel
theorem dX6_control_1 : decode cX6_control 1 = .ok (.istore_n 1, 1) := by decide +kernel
theorem dX6_control_2 : decode cX6_control 2 = .ok (.iload_n 1, 1) := by decide +kernel
theorem dX6_control_3 : decode cX6_control 3 = .ok (.aload_n 0, 1) := by decide +kernel
theorem dX6_control_4 : decode cX6_control 4 = .ok (.getfield 7, 3) := by decide +kernel
theorem dX6_control_7 : decode cX6_control 7 = .ok (.iconst 0, 1) := by decide +kernel
theorem dX6_control_8 : decode cX6_control 8 = .ok (.iaload, 1) := by decide +kernel
theorem dX6_control_9 : decode cX6_control 9 = .ok (.if_icmp .ge 14, 3) := by decide +kernel
theorem dX6_control_12 : decode cX6_control 12 = .ok (.aload_n 0, 1) := by decide +kernel
theorem dX6_control_13 : decode cX6_control 13 = .ok (.iload_n 1, 1) := by decide +kernel
theorem dX6_control_14 : decode cX6_control 14 = .ok (.invokevirtual 88, 3) := by decide +kernel
theorem dX6_control_17 : decode cX6_control 17 = .ok (.iinc 1 1, 3) := by decide +kernel
theorem dX6_control_20 : decode cX6_control 20 = .ok (.goto (-18), 3) := by decide +kernel
theorem dX6_control_23 : decode cX6_control 23 = .ok (.iconst 0, 1) := by decide +kernel
theorem dX6_control_24 : decode cX6_control 24 = .ok (.istore_n 1, 1) := by decide +kernel
theorem dX6_control_25 : decode cX6_control 25 = .ok (.iload_n 1, 1) := by decide +kernel
theorem dX6_control_26 : decode cX6_control 26 = .ok (.aload_n 0, 1) := by decide +kernel
theorem dX6_control_27 : decode cX6_control 27 = .ok (.getfield 7, 3) := by decide +kernel
theorem dX6_control_30 : decode cX6_control 30 = .ok (.iconst 0, 1) := by decide +kernel
theorem dX6_control_31 : decode cX6_control 31 = .ok (.iaload, 1) := by decide +kernel
theorem dX6_control_32 : decode cX6_control 32 = .ok (.if_icmp .ge 21, 3) := by decide +kernel
theorem dX6_control_35 : decode cX6_control 35 = .ok (.aload_n 0, 1) := by decide +kernel
theorem dX6_control_36 : decode cX6_control 36 = .ok (.getfield 7, 3) := by decide +kernel
theorem dX6_control_39 : decode cX6_control 39 = .ok (.iload_n 1, 1) := by decide +kernel
theorem dX6_control_40 : decode cX6_control 40 = .ok (.bipush 6, 2) := by decide +kernel
theorem dX6_control_42 : decode cX6_control 42 = .ok (.invokestatic 27, 3) := by decide +kernel
theorem dX6_control_45 : decode cX6_control 45 = .ok (.iconst 0, 1) := by decide +kernel
theorem dX6_control_46 : decode cX6_control 46 = .ok (.iastore, 1) := by decide +kernel
theorem dX6_control_47 : decode cX6_control 47 = .ok (.iinc 1 1, 3) := by decide +kernel
theorem dX6_control_50 : decode cX6_control 50 = .ok (.goto (-25), 3) := by decide +kernel
theorem dX6_control_53 : decode cX6_control 53 = .ok (.bipush 9, 2) := by decide +kernel
theorem dX6_control_55 : decode cX6_control 55 = .ok (.istore_n 1, 1) := by decide +kernel
theorem dX6_control_56 : decode cX6_control 56 = .ok (.iload_n 1, 1) := by decide +kernel
theorem dX6_control_57 : decode cX6_control 57 = .ok (.ifCond .le 52, 3) := by decide +kernel
theorem dX6_control_60 : decode cX6_control 60 = .ok (.iconst 0, 1) := by decide +kernel
theorem dX6_control_61 : decode cX6_control 61 = .ok (.istore_n 2, 1) := by decide +kernel
theorem dX6_control_62 : decode cX6_control 62 = .ok (.iload_n 2, 1) := by decide +kernel
theorem dX6_control_63 : decode cX6_control 63 = .ok (.aload_n 0, 1) := by decide +kernel
theorem dX6_control_64 : decode cX6_control 64 = .ok (.getfield 7, 3) := by decide +kernel
theorem dX6_control_67 : decode cX6_control 67 = .ok (.iconst 0, 1) := by decide +kernel
theorem dX6_control_68 : decode cX6_control 68 = .ok (.iaload, 1) := by decide +kernel
theorem dX6_control_69 : decode cX6_control 69 = .ok (.if_icmp .ge 34, 3) := by decide +kernel
theorem dX6_control_72 : decode cX6_control 72 = .ok (.aload_n 0, 1) := by decide +kernel
theorem dX6_control_73 : decode cX6_control 73 = .ok (.iload_n 2, 1) := by decide +kernel
theorem dX6_control_74 : decode cX6_control 74 = .ok (.invokevirtual 79, 3) := by decide +kernel
theorem dX6_control_77 : decode cX6_control 77 = .ok (.iload_n 1, 1) := by decide +kernel
theorem dX6_control_78 : decode cX6_control 78 = .ok (.if_icmp .ne 19, 3) := by decide +kernel
theorem dX6_control_81 : decode cX6_control 81 = .ok (.aload_n 0, 1) := by decide +kernel
theorem dX6_control_82 : decode cX6_control 82 = .ok (.getfield 7, 3) := by decide +kernel
theorem dX6_control_85 : decode cX6_control 85 = .ok (.iload_n 2, 1) := by decide +kernel
theorem dX6_control_86 : decode cX6_control 86 = .ok (.bipush 6, 2) := by decide +kernel
theorem dX6_control_88 : decode cX6_control 88 = .ok (.invokestatic 27, 3) := by decide +kernel
theorem dX6_control_91 : decode cX6_control 91 = .ok (.aload_n 0, 1) := by decide +kernel
theorem dX6_control_92 : decode cX6_control 92 = .ok (.iload_n 1, 1) := by decide +kernel
theorem dX6_control_93 : decode cX6_control 93 = .ok (.invokevirtual 92, 3) := by decide +kernel
theorem dX6_control_96 : decode cX6_control 96 = .ok (.iastore, 1) := by decide +kernel
theorem dX6_control_97 : decode cX6_control 97 = .ok (.iinc 2 1, 3) := by decide +kernel
theorem dX6_control_100 : decode cX6_control 100 = .ok (.goto (-38), 3) := by decide +kernel
theorem dX6_control_103 : decode cX6_control 103 = .ok (.iinc 1 (-1), 3) := by decide +kernel
theorem dX6_control_106 : decode cX6_control 106 = .ok (.goto (-50), 3) := by decide +kernel
theorem dX6_control_109 : decode cX6_control 109 = .ok (.iconst 0, 1) := by decide +kernel
theorem dX6_control_110 : decode cX6_control 110 = .ok (.istore_n 1, 1) := by decide +kernel
theorem dX6_control_111 : decode cX6_control 111 = .ok (.iload_n 1, 1) := by decide +kernel
theorem dX6_control_112 : decode cX6_control 112 = .ok (.aload_n 0, 1) := by decide +kernel
theorem dX6_control_113 : decode cX6_control 113 = .ok (.getfield 7, 3) := by decide +kernel
theorem dX6_control_116 : decode cX6_control 116 = .ok (.iconst 0, 1) := by decide +kernel
theorem dX6_control_117 : decode cX6_control 117 = .ok (.iaload, 1) := by decide +kernel
theorem dX6_control_118 : decode cX6_control 118 = .ok (.if_icmp .ge 58, 3) := by decide +kernel
theorem dX6_control_121 : decode cX6_control 121 = .ok (.aload_n 0, 1) := by decide +kernel
theorem dX6_control_122 : decode cX6_control 122 = .ok (.iload_n 1, 1) := by decide +kernel
theorem dX6_control_123 : decode cX6_control 123 = .ok (.invokevirtual 79, 3) := by decide +kernel
theorem dX6_control_126 : decode cX6_control 126 = .ok (.iconst 1, 1) := by decide +kernel
theorem dX6_control_127 : decode cX6_control 127 = .ok (.if_icmp .eq 12, 3) := by decide +kernel
theorem dX6_control_130 : decode cX6_control 130 = .ok (.aload_n 0, 1) := by decide +kernel
theorem dX6_control_131 : decode cX6_control 131 = .ok (.iload_n 1, 1) := by decide +kernel
theorem dX6_control_132 : decode cX6_control 132 = .ok (.invokevirtual 79, 3) := by decide +kernel
theorem dX6_control_135 : decode cX6_control 135 = .ok (.iconst 2, 1) := by decide +kernel
theorem dX6_control_136 : decode cX6_control 136 = .ok (.if_icmp .ne 7, 3) := by decide +kernel
theorem dX6_control_139 : decode cX6_control 139 = .ok (.iconst 1, 1) := by decide +kernel
theorem dX6_control_140 : decode cX6_control 140 = .ok (.goto 4, 3) := by decide +kernel
theorem dX6_control_143 : decode cX6_control 143 = .ok (.iconst 0, 1) := by decide +kernel
theorem dX6_control_144 : decode cX6_control 144 = .ok (.istore_n 2, 1) := by decide +kernel
theorem dX6_control_145 : decode cX6_control 145 = .ok (.iload_n 2, 1) := by decide +kernel
theorem dX6_control_146 : decode cX6_control 146 = .ok (.ifCond .eq 24, 3) := by decide +kernel
theorem dX6_control_149 : decode cX6_control 149 = .ok (.aload_n 0, 1) := by decide +kernel
theorem dX6_control_150 : decode cX6_control 150 = .ok (.iload_n 1, 1) := by decide +kernel
theorem dX6_control_151 : decode cX6_control 151 = .ok (.bipush 6, 2) := by decide +kernel
theorem dX6_control_153 : decode cX6_control 153 = .ok (.invokevirtual 67, 3) := by decide +kernel
theorem dX6_control_156 : decode cX6_control 156 = .ok (.ifCond .ne 14, 3) := by decide +kernel
theorem dX6_control_159 : decode cX6_control 159 = .ok (.aload_n 0, 1) := by decide +kernel
theorem dX6_control_160 : decode cX6_control 160 = .ok (.getfield 7, 3) := by decide +kernel
theorem dX6_control_163 : decode cX6_control 163 = .ok (.iload_n 1, 1) := by decide +kernel
theorem dX6_control_164 : decode cX6_control 164 = .ok (.iconst 3, 1) := by decide +kernel
theorem dX6_control_165 : decode cX6_control 165 = .ok (.invokestatic 27, 3) := by decide +kernel
theorem dX6_control_168 : decode cX6_control 168 = .ok (.iconst 0, 1) := by decide +kernel
theorem dX6_control_169 : decode cX6_control 169 = .ok (.iastore, 1) := by decide +kernel
theorem dX6_control_170 : decode cX6_control 170 = .ok (.iinc 1 1, 3) := by decide +kernel
theorem dX6_control_173 : decode cX6_control 173 = .ok (.goto (-62), 3) := by decide +kernel
theorem dX6_control_176 : decode cX6_control 176 = .ok (.return_, 1) := by decide +kernel
set_option maxRecDepth 20000 in
theorem ggX6_mark_X6_set : GoodIn wsX6_mark wsX6_set := goodIn_r _ [5, 6, 50, 51, 52, 53] (by decide +kernel) (by decide +kernel)
set_option maxRecDepth 20000 in
theorem gX6_mark_X6_set : GoodIn wsX6_mark (wsV RX6 95 RX6 yX6_set wsX6_set) := goodIn_app (goodIn_of _ (by decide +kernel)) ggX6_mark_X6_set
set_option maxRecDepth 20000 in
theorem ggX6_mark_X6_control : GoodIn wsX6_mark wsX6_control := goodIn_r _ [10, 6, 11, 12, 13, 4, 14, 15, 16, 17, 18, 19, 20, 21, 22, 23, 24, 25, 26, 27, 28, 29, 30, 31, 32, 33, 34, 35, 36, 37, 38, 39, 40, 41, 42, 43, 44, 45, 46, 47, 48, 49, 50, 51, 52, 53] (by decide +kernel) (by decide +kernel)
set_option maxRecDepth 20000 in
theorem gX6_mark_X6_control : GoodIn wsX6_mark (wsV RX6 98 RX6 yX6_control wsX6_control) := goodIn_app (goodIn_of _ (by decide +kernel)) ggX6_mark_X6_control
theorem dX6_mark_0 : decode cX6_mark 0 = .ok (.aload_n 0, 1) := by decide +kernel
theorem dX6_mark_1 : decode cX6_mark 1 = .ok (.iload_n 1, 1) := by decide +kernel
theorem dX6_mark_2 : decode cX6_mark 2 = .ok (.iload_n 2, 1) := by decide +kernel
theorem dX6_mark_3 : decode cX6_mark 3 = .ok (.ifCond .eq 7, 3) := by decide +kernel
theorem dX6_mark_6 : decode cX6_mark 6 = .ok (.iconst 1, 1) := by decide +kernel
theorem dX6_mark_7 : decode cX6_mark 7 = .ok (.goto 4, 3) := by decide +kernel
theorem dX6_mark_10 : decode cX6_mark 10 = .ok (.iconst 0, 1) := by decide +kernel
theorem dX6_mark_11 : decode cX6_mark 11 = .ok (.invokevirtual 95, 3) := by decide +kernel
theorem dX6_mark_14 : decode cX6_mark 14 = .ok (.istore_n 3, 1) := by decide +kernel
theorem dX6_mark_15 : decode cX6_mark 15 = .ok (.aload_n 0, 1) := by decide +kernel
theorem dX6_mark_16 : decode cX6_mark 16 = .ok (.invokevirtual 98, 3) := by decide +kernel
theorem dX6_mark_19 : decode cX6_mark 19 = .ok (.iload_n 3, 1) := by decide +kernel
theorem dX6_mark_20 : decode cX6_mark 20 = .ok (.ireturn, 1) := by decide +kernel
set_option maxRecDepth 20000 in
theorem ggX6_failWorking_X6_isSpan : GoodIn wsX6_failWorking wsX6_isSpan := goodIn_r _ [5, 6, 7, 8, 4, 9, 61, 62, 63, 64] (by decide +kernel) (by decide +kernel)
set_option maxRecDepth 20000 in
theorem gX6_failWorking_X6_isSpan : GoodIn wsX6_failWorking (wsV RX6 60 RX6 yX6_isSpan wsX6_isSpan) := goodIn_app (goodIn_of _ (by decide +kernel)) ggX6_failWorking_X6_isSpan
set_option maxRecDepth 20000 in
theorem ggX6_failWorking_X6_at : GoodIn wsX6_failWorking wsX6_at := goodIn_r _ [12] (by decide +kernel) (by decide +kernel)
set_option maxRecDepth 20000 in
theorem gX6_failWorking_X6_at : GoodIn wsX6_failWorking (va_wsS RX6 27 yX6_at wsX6_at) := goodIn_app (goodIn_of _ (by decide +kernel)) ggX6_failWorking_X6_at
set_option maxRecDepth 20000 in
theorem ggX6_failWorking_X6_mark : GoodIn wsX6_failWorking wsX6_mark := goodIn_r _ [16, 17, 18, 19, 4, 20, 6, 21, 22, 23, 24, 25, 26, 27, 28, 29, 30, 31, 32, 10, 11, 12, 33, 34, 35, 36, 37, 38, 39, 40, 41, 42, 43, 44, 45, 46, 47, 48, 49, 50, 51, 52, 53, 54, 55, 56, 57, 58, 59, 60, 61, 62, 63, 64] (by decide +kernel) (by decide +kernel)
set_option maxRecDepth 20000 in
theorem gX6_failWorking_X6_mark : GoodIn wsX6_failWorking (wsV RX6 101 RX6 yX6_mark wsX6_mark) := goodIn_app (goodIn_of _ (by decide +kernel)) ggX6_failWorking_X6_mark
theorem dX6_failWorking_0 : decode cX6_failWorking 0 = .ok (.aload_n 0, 1) := by decide +kernel
theorem dX6_failWorking_1 : decode cX6_failWorking 1 = .ok (.iload_n 1, 1) := by decide +kernel
theorem dX6_failWorking_2 : decode cX6_failWorking 2 = .ok (.invokevirtual 60, 3) := by decide +kernel
theorem dX6_failWorking_5 : decode cX6_failWorking 5 = .ok (.ifCond .eq 16, 3) := by decide +kernel
theorem dX6_failWorking_8 : decode cX6_failWorking 8 = .ok (.aload_n 0, 1) := by decide +kernel
theorem dX6_failWorking_9 : decode cX6_failWorking 9 = .ok (.iload_n 1, 1) := by decide +kernel
theorem dX6_failWorking_10 : decode cX6_failWorking 10 = .ok (.iconst 0, 1) := by decide +kernel
theorem dX6_failWorking_11 : decode cX6_failWorking 11 = .ok (.invokestatic 27, 3) := by decide +kernel
theorem dX6_failWorking_14 : decode cX6_failWorking 14 = .ok (.iload_n 2, 1) := by decide +kernel
theorem dX6_failWorking_15 : decode cX6_failWorking 15 = .ok (.invokevirtual 101, 3) := by decide +kernel
theorem dX6_failWorking_18 : decode cX6_failWorking 18 = .ok (.goto 5, 3) := by decide +kernel
theorem dX6_failWorking_21 : decode cX6_failWorking 21 = .ok (.bipush (-2), 2) := by decide +kernel
theorem dX6_failWorking_23 : decode cX6_failWorking 23 = .ok (.ireturn, 1) := by decide +kernel
set_option maxRecDepth 20000 in
theorem ggX6_failProtection_X6_isSpan : GoodIn wsX6_failProtection wsX6_isSpan := goodIn_r _ [5, 6, 7, 8, 4, 9, 61, 62, 63, 64] (by decide +kernel) (by decide +kernel)
set_option maxRecDepth 20000 in
theorem gX6_failProtection_X6_isSpan : GoodIn wsX6_failProtection (wsV RX6 60 RX6 yX6_isSpan wsX6_isSpan) := goodIn_app (goodIn_of _ (by decide +kernel)) ggX6_failProtection_X6_isSpan
set_option maxRecDepth 20000 in
theorem ggX6_failProtection_X6_at : GoodIn wsX6_failProtection wsX6_at := goodIn_r _ [12] (by decide +kernel) (by decide +kernel)
set_option maxRecDepth 20000 in
theorem gX6_failProtection_X6_at : GoodIn wsX6_failProtection (va_wsS RX6 27 yX6_at wsX6_at) := goodIn_app (goodIn_of _ (by decide +kernel)) ggX6_failProtection_X6_at
set_option maxRecDepth 20000 in
theorem ggX6_failProtection_X6_mark : GoodIn wsX6_failProtection wsX6_mark := goodIn_r _ [16, 17, 18, 19, 4, 20, 6, 21, 22, 23, 24, 25, 26, 27, 28, 29, 30, 31, 32, 10, 11, 12, 33, 34, 35, 36, 37, 38, 39, 40, 41, 42, 43, 44, 45, 46, 47, 48, 49, 50, 51, 52, 53, 54, 55, 56, 57, 58, 59, 60, 61, 62, 63, 64] (by decide +kernel) (by decide +kernel)
set_option maxRecDepth 20000 in
theorem gX6_failProtection_X6_mark : GoodIn wsX6_failProtection (wsV RX6 101 RX6 yX6_mark wsX6_mark) := goodIn_app (goodIn_of _ (by decide +kernel)) ggX6_failProtection_X6_mark
theorem dX6_failProtection_0 : decode cX6_failProtection 0 = .ok (.aload_n 0, 1) := by decide +kernel
theorem dX6_failProtection_1 : decode cX6_failProtection 1 = .ok (.iload_n 1, 1) := by decide +kernel
theorem dX6_failProtection_2 : decode cX6_failProtection 2 = .ok (.invokevirtual 60, 3) := by decide +kernel
theorem dX6_failProtection_5 : decode cX6_failProtection 5 = .ok (.ifCond .eq 16, 3) := by decide +kernel
theorem dX6_failProtection_8 : decode cX6_failProtection 8 = .ok (.aload_n 0, 1) := by decide +kernel
theorem dX6_failProtection_9 : decode cX6_failProtection 9 = .ok (.iload_n 1, 1) := by decide +kernel
theorem dX6_failProtection_10 : decode cX6_failProtection 10 = .ok (.iconst 1, 1) := by decide +kernel
theorem dX6_failProtection_11 : decode cX6_failProtection 11 = .ok (.invokestatic 27, 3) := by decide +kernel
theorem dX6_failProtection_14 : decode cX6_failProtection 14 = .ok (.iload_n 2, 1) := by decide +kernel
theorem dX6_failProtection_15 : decode cX6_failProtection 15 = .ok (.invokevirtual 101, 3) := by decide +kernel
theorem dX6_failProtection_18 : decode cX6_failProtection 18 = .ok (.goto 5, 3) := by decide +kernel
theorem dX6_failProtection_21 : decode cX6_failProtection 21 = .ok (.bipush (-2), 2) := by decide +kernel
theorem dX6_failProtection_23 : decode cX6_failProtection 23 = .ok (.ireturn, 1) := by decide +kernel
set_option maxRecDepth 20000 in
theorem ggX6_failNode_X6_isNode : GoodIn wsX6_failNode wsX6_isNode := goodIn_r _ [5, 6, 7, 8, 4, 9, 61, 62, 63, 64] (by decide +kernel) (by decide +kernel)
set_option maxRecDepth 20000 in
theorem gX6_failNode_X6_isNode : GoodIn wsX6_failNode (wsV RX6 46 RX6 yX6_isNode wsX6_isNode) := goodIn_app (goodIn_of _ (by decide +kernel)) ggX6_failNode_X6_isNode
set_option maxRecDepth 20000 in
theorem ggX6_failNode_X6_mark : GoodIn wsX6_failNode wsX6_mark := goodIn_r _ [13, 14, 15, 16, 4, 17, 6, 18, 19, 20, 21, 22, 23, 24, 25, 26, 27, 28, 29, 30, 31, 32, 33, 34, 35, 36, 37, 38, 39, 40, 41, 42, 43, 44, 45, 46, 47, 48, 49, 50, 51, 52, 53, 54, 55, 56, 57, 58, 59, 60, 61, 62, 63, 64] (by decide +kernel) (by decide +kernel)
set_option maxRecDepth 20000 in
theorem gX6_failNode_X6_mark : GoodIn wsX6_failNode (wsV RX6 101 RX6 yX6_mark wsX6_mark) := goodIn_app (goodIn_of _ (by decide +kernel)) ggX6_failNode_X6_mark
theorem dX6_failNode_0 : decode cX6_failNode 0 = .ok (.aload_n 0, 1) := by decide +kernel
theorem dX6_failNode_1 : decode cX6_failNode 1 = .ok (.iload_n 1, 1) := by decide +kernel
theorem dX6_failNode_2 : decode cX6_failNode 2 = .ok (.invokevirtual 46, 3) := by decide +kernel
theorem dX6_failNode_5 : decode cX6_failNode 5 = .ok (.ifCond .eq 14, 3) := by decide +kernel
theorem dX6_failNode_8 : decode cX6_failNode 8 = .ok (.aload_n 0, 1) := by decide +kernel
theorem dX6_failNode_9 : decode cX6_failNode 9 = .ok (.iconst 4, 1) := by decide +kernel
theorem dX6_failNode_10 : decode cX6_failNode 10 = .ok (.iload_n 1, 1) := by decide +kernel
theorem dX6_failNode_11 : decode cX6_failNode 11 = .ok (.iadd, 1) := by decide +kernel
theorem dX6_failNode_12 : decode cX6_failNode 12 = .ok (.iload_n 2, 1) := by decide +kernel
theorem dX6_failNode_13 : decode cX6_failNode 13 = .ok (.invokevirtual 101, 3) := by decide +kernel
theorem dX6_failNode_16 : decode cX6_failNode 16 = .ok (.goto 4, 3) := by decide +kernel
theorem dX6_failNode_19 : decode cX6_failNode 19 = .ok (.iconst (-1), 1) := by decide +kernel
theorem dX6_failNode_20 : decode cX6_failNode 20 = .ok (.ireturn, 1) := by decide +kernel
theorem dX6_isCommand_0 : decode cX6_isCommand 0 = .ok (.iload_n 0, 1) := by decide +kernel
theorem dX6_isCommand_1 : decode cX6_isCommand 1 = .ok (.ifCond .eq 31, 3) := by decide +kernel
theorem dX6_isCommand_4 : decode cX6_isCommand 4 = .ok (.iload_n 0, 1) := by decide +kernel
theorem dX6_isCommand_5 : decode cX6_isCommand 5 = .ok (.iconst 3, 1) := by decide +kernel
theorem dX6_isCommand_6 : decode cX6_isCommand 6 = .ok (.if_icmp .eq 26, 3) := by decide +kernel
theorem dX6_isCommand_9 : decode cX6_isCommand 9 = .ok (.iload_n 0, 1) := by decide +kernel
theorem dX6_isCommand_10 : decode cX6_isCommand 10 = .ok (.iconst 4, 1) := by decide +kernel
theorem dX6_isCommand_11 : decode cX6_isCommand 11 = .ok (.if_icmp .eq 21, 3) := by decide +kernel
theorem dX6_isCommand_14 : decode cX6_isCommand 14 = .ok (.iload_n 0, 1) := by decide +kernel
theorem dX6_isCommand_15 : decode cX6_isCommand 15 = .ok (.bipush 7, 2) := by decide +kernel
theorem dX6_isCommand_17 : decode cX6_isCommand 17 = .ok (.if_icmp .eq 15, 3) := by decide +kernel
theorem dX6_isCommand_20 : decode cX6_isCommand 20 = .ok (.iload_n 0, 1) := by decide +kernel
theorem dX6_isCommand_21 : decode cX6_isCommand 21 = .ok (.bipush 8, 2) := by decide +kernel
theorem dX6_isCommand_23 : decode cX6_isCommand 23 = .ok (.if_icmp .eq 9, 3) := by decide +kernel
theorem dX6_isCommand_26 : decode cX6_isCommand 26 = .ok (.iload_n 0, 1) := by decide +kernel
theorem dX6_isCommand_27 : decode cX6_isCommand 27 = .ok (.bipush 9, 2) := by decide +kernel
theorem dX6_isCommand_29 : decode cX6_isCommand 29 = .ok (.if_icmp .ne 7, 3) := by decide +kernel
theorem dX6_isCommand_32 : decode cX6_isCommand 32 = .ok (.iconst 1, 1) := by decide +kernel
theorem dX6_isCommand_33 : decode cX6_isCommand 33 = .ok (.goto 4, 3) := by decide +kernel
theorem dX6_isCommand_36 : decode cX6_isCommand 36 = .ok (.iconst 0, 1) := by decide +kernel
theorem dX6_isCommand_37 : decode cX6_isCommand 37 = .ok (.ireturn, 1) := by decide +kernel
set_option maxRecDepth 20000 in
theorem ggX6_command_X6_isSpan : GoodIn wsX6_command wsX6_isSpan := goodIn_r _ [5, 6, 7, 8, 4, 9, 60, 61, 62, 63] (by decide +kernel) (by decide +kernel)
set_option maxRecDepth 20000 in
theorem gX6_command_X6_isSpan : GoodIn wsX6_command (wsV RX6 60 RX6 yX6_isSpan wsX6_isSpan) := goodIn_app (goodIn_of _ (by decide +kernel)) ggX6_command_X6_isSpan
set_option maxRecDepth 20000 in
theorem ggX6_command_X6_isCommand : GoodIn wsX6_command wsX6_isCommand := goodIn_r _ [12] (by decide +kernel) (by decide +kernel)
set_option maxRecDepth 20000 in
theorem gX6_command_X6_isCommand : GoodIn wsX6_command (va_wsS RX6 105 yX6_isCommand wsX6_isCommand) := goodIn_app (goodIn_of _ (by decide +kernel)) ggX6_command_X6_isCommand
set_option maxRecDepth 20000 in
theorem ggX6_command_X6_at : GoodIn wsX6_command wsX6_at := goodIn_r _ [15] (by decide +kernel) (by decide +kernel)
set_option maxRecDepth 20000 in
theorem gX6_command_X6_at : GoodIn wsX6_command (va_wsS RX6 27 yX6_at wsX6_at) := goodIn_app (goodIn_of _ (by decide +kernel)) ggX6_command_X6_at
set_option maxRecDepth 20000 in
theorem ggX6_command_X6_set : GoodIn wsX6_command wsX6_set := goodIn_r _ [19, 6, 60, 61, 62, 63] (by decide +kernel) (by decide +kernel)
set_option maxRecDepth 20000 in
theorem gX6_command_X6_set : GoodIn wsX6_command (wsV RX6 95 RX6 yX6_set wsX6_set) := goodIn_app (goodIn_of _ (by decide +kernel)) ggX6_command_X6_set
set_option maxRecDepth 20000 in
theorem ggX6_command_X6_control : GoodIn wsX6_command wsX6_control := goodIn_r _ [23, 6, 24, 25, 26, 4, 27, 28, 29, 30, 31, 13, 14, 15, 32, 33, 34, 35, 36, 37, 38, 39, 40, 41, 42, 43, 44, 45, 46, 47, 48, 49, 50, 51, 52, 53, 54, 55, 56, 57, 58, 59, 60, 61, 62, 63] (by decide +kernel) (by decide +kernel)
set_option maxRecDepth 20000 in
theorem gX6_command_X6_control : GoodIn wsX6_command (wsV RX6 98 RX6 yX6_control wsX6_control) := goodIn_app (goodIn_of _ (by decide +kernel)) ggX6_command_X6_control
theorem dX6_command_0 : decode cX6_command 0 = .ok (.aload_n 0, 1) := by decide +kernel
theorem dX6_command_1 : decode cX6_command 1 = .ok (.iload_n 1, 1) := by decide +kernel
theorem dX6_command_2 : decode cX6_command 2 = .ok (.invokevirtual 60, 3) := by decide +kernel
theorem dX6_command_5 : decode cX6_command 5 = .ok (.ifCond .ne 6, 3) := by decide +kernel
theorem dX6_command_8 : decode cX6_command 8 = .ok (.bipush (-2), 2) := by decide +kernel
theorem dX6_command_10 : decode cX6_command 10 = .ok (.ireturn, 1) := by decide +kernel
theorem dX6_command_11 : decode cX6_command 11 = .ok (.iload_n 2, 1) := by decide +kernel
theorem dX6_command_12 : decode cX6_command 12 = .ok (.invokestatic 105, 3) := by decide +kernel
theorem dX6_command_15 : decode cX6_command 15 = .ok (.ifCond .ne 6, 3) := by decide +kernel
theorem dX6_command_18 : decode cX6_command 18 = .ok (.bipush (-4), 2) := by decide +kernel
theorem dX6_command_20 : decode cX6_command 20 = .ok (.ireturn, 1) := by decide +kernel
theorem dX6_command_21 : decode cX6_command 21 = .ok (.aload_n 0, 1) := by decide +kernel
theorem dX6_command_22 : decode cX6_command 22 = .ok (.iload_n 1, 1) := by decide +kernel
theorem dX6_command_23 : decode cX6_command 23 = .ok (.iconst 2, 1) := by decide +kernel
theorem dX6_command_24 : decode cX6_command 24 = .ok (.invokestatic 27, 3) := by decide +kernel
theorem dX6_command_27 : decode cX6_command 27 = .ok (.iload_n 2, 1) := by decide +kernel
theorem dX6_command_28 : decode cX6_command 28 = .ok (.invokevirtual 95, 3) := by decide +kernel
theorem dX6_command_31 : decode cX6_command 31 = .ok (.istore_n 3, 1) := by decide +kernel
theorem dX6_command_32 : decode cX6_command 32 = .ok (.aload_n 0, 1) := by decide +kernel
theorem dX6_command_33 : decode cX6_command 33 = .ok (.invokevirtual 98, 3) := by decide +kernel
theorem dX6_command_36 : decode cX6_command 36 = .ok (.iload_n 3, 1) := by decide +kernel
theorem dX6_command_37 : decode cX6_command 37 = .ok (.ireturn, 1) := by decide +kernel
set_option maxRecDepth 20000 in
theorem ggX6_setRestoreTime_X6_in : GoodIn wsX6_setRestoreTime wsX6_in := goodIn_r _ [4] (by decide +kernel) (by decide +kernel)
set_option maxRecDepth 20000 in
theorem gX6_setRestoreTime_X6_in : GoodIn wsX6_setRestoreTime (va_wsS RX6 23 yX6_in wsX6_in) := goodIn_app (goodIn_of _ (by decide +kernel)) ggX6_setRestoreTime_X6_in
set_option maxRecDepth 20000 in
theorem ggX6_setRestoreTime_X6_set : GoodIn wsX6_setRestoreTime wsX6_set := goodIn_r _ [8, 9, 10, 11, 12, 13] (by decide +kernel) (by decide +kernel)
set_option maxRecDepth 20000 in
theorem gX6_setRestoreTime_X6_set : GoodIn wsX6_setRestoreTime (wsV RX6 95 RX6 yX6_set wsX6_set) := goodIn_app (goodIn_of _ (by decide +kernel)) ggX6_setRestoreTime_X6_set
theorem dX6_setRestoreTime_0 : decode cX6_setRestoreTime 0 = .ok (.iload_n 1, 1) := by decide +kernel
theorem dX6_setRestoreTime_1 : decode cX6_setRestoreTime 1 = .ok (.iconst 0, 1) := by decide +kernel
theorem dX6_setRestoreTime_2 : decode cX6_setRestoreTime 2 = .ok (.bipush 60, 2) := by decide +kernel
theorem dX6_setRestoreTime_4 : decode cX6_setRestoreTime 4 = .ok (.invokestatic 23, 3) := by decide +kernel
theorem dX6_setRestoreTime_7 : decode cX6_setRestoreTime 7 = .ok (.ifCond .eq 12, 3) := by decide +kernel
theorem dX6_setRestoreTime_10 : decode cX6_setRestoreTime 10 = .ok (.aload_n 0, 1) := by decide +kernel
theorem dX6_setRestoreTime_11 : decode cX6_setRestoreTime 11 = .ok (.iconst 2, 1) := by decide +kernel
theorem dX6_setRestoreTime_12 : decode cX6_setRestoreTime 12 = .ok (.iload_n 1, 1) := by decide +kernel
theorem dX6_setRestoreTime_13 : decode cX6_setRestoreTime 13 = .ok (.invokevirtual 95, 3) := by decide +kernel
theorem dX6_setRestoreTime_16 : decode cX6_setRestoreTime 16 = .ok (.goto 5, 3) := by decide +kernel
theorem dX6_setRestoreTime_19 : decode cX6_setRestoreTime 19 = .ok (.bipush (-4), 2) := by decide +kernel
theorem dX6_setRestoreTime_21 : decode cX6_setRestoreTime 21 = .ok (.ireturn, 1) := by decide +kernel
set_option maxRecDepth 20000 in
theorem ggX6_advance_X6_in : GoodIn wsX6_advance wsX6_in := goodIn_r _ [5] (by decide +kernel) (by decide +kernel)
set_option maxRecDepth 20000 in
theorem gX6_advance_X6_in : GoodIn wsX6_advance (va_wsS RX6 23 yX6_in wsX6_in) := goodIn_app (goodIn_of _ (by decide +kernel)) ggX6_advance_X6_in
set_option maxRecDepth 20000 in
theorem ggX6_advance_X6_at : GoodIn wsX6_advance wsX6_at := goodIn_r _ [8] (by decide +kernel) (by decide +kernel)
set_option maxRecDepth 20000 in
theorem gX6_advance_X6_at : GoodIn wsX6_advance (va_wsS RX6 27 yX6_at wsX6_at) := goodIn_app (goodIn_of _ (by decide +kernel)) ggX6_advance_X6_at
set_option maxRecDepth 20000 in
theorem ggX6_advance_X6_of : GoodIn wsX6_advance wsX6_of := goodIn_r _ [12, 1, 6, 7, 4, 8, 49, 50, 51, 52] (by decide +kernel) (by decide +kernel)
set_option maxRecDepth 20000 in
theorem gX6_advance_X6_of : GoodIn wsX6_advance (wsV RX6 67 RX6 yX6_of wsX6_of) := goodIn_app (goodIn_of _ (by decide +kernel)) ggX6_advance_X6_of
set_option maxRecDepth 20000 in
theorem ggX6_advance_X6_control : GoodIn wsX6_advance wsX6_control := goodIn_r _ [16, 1, 17, 18, 19, 4, 20, 9, 10, 11, 12, 6, 7, 8, 21, 22, 23, 24, 25, 26, 27, 28, 29, 30, 31, 32, 33, 34, 35, 36, 37, 38, 39, 40, 41, 42, 43, 44, 45, 46, 47, 48, 49, 50, 51, 52] (by decide +kernel) (by decide +kernel)
set_option maxRecDepth 20000 in
theorem gX6_advance_X6_control : GoodIn wsX6_advance (wsV RX6 98 RX6 yX6_control wsX6_control) := goodIn_app (goodIn_of _ (by decide +kernel)) ggX6_advance_X6_control
theorem dX6_advance_0 : decode cX6_advance 0 = .ok (.iload_n 1, 1) := by decide +kernel
theorem dX6_advance_1 : decode cX6_advance 1 = .ok (.iconst 1, 1) := by decide +kernel
theorem dX6_advance_2 : decode cX6_advance 2 = .ok (.bipush 100, 2) := by decide +kernel
theorem dX6_advance_4 : decode cX6_advance 4 = .ok (.invokestatic 23, 3) := by decide +kernel
theorem dX6_advance_7 : decode cX6_advance 7 = .ok (.ifCond .ne 6, 3) := by decide +kernel
theorem dX6_advance_10 : decode cX6_advance 10 = .ok (.bipush (-4), 2) := by decide +kernel
theorem dX6_advance_12 : decode cX6_advance 12 = .ok (.ireturn, 1) := by decide +kernel
theorem dX6_advance_13 : decode cX6_advance 13 = .ok (.iconst 0, 1) := by decide +kernel
theorem dX6_advance_14 : decode cX6_advance 14 = .ok (.istore_n 2, 1) := by decide +kernel
theorem dX6_advance_15 : decode cX6_advance 15 = .ok (.iload_n 2, 1) := by decide +kernel
theorem dX6_advance_16 : decode cX6_advance 16 = .ok (.iload_n 1, 1) := by decide +kernel
theorem dX6_advance_17 : decode cX6_advance 17 = .ok (.if_icmp .ge 68, 3) := by decide +kernel
theorem dX6_advance_20 : decode cX6_advance 20 = .ok (.iconst 0, 1) := by decide +kernel
theorem dX6_advance_21 : decode cX6_advance 21 = .ok (.istore_n 3, 1) := by decide +kernel
theorem dX6_advance_22 : decode cX6_advance 22 = .ok (.iload_n 3, 1) := by decide +kernel
theorem dX6_advance_23 : decode cX6_advance 23 = .ok (.aload_n 0, 1) := by decide +kernel
theorem dX6_advance_24 : decode cX6_advance 24 = .ok (.getfield 7, 3) := by decide +kernel
theorem dX6_advance_27 : decode cX6_advance 27 = .ok (.iconst 0, 1) := by decide +kernel
theorem dX6_advance_28 : decode cX6_advance 28 = .ok (.iaload, 1) := by decide +kernel
theorem dX6_advance_29 : decode cX6_advance 29 = .ok (.if_icmp .ge 36, 3) := by decide +kernel
theorem dX6_advance_32 : decode cX6_advance 32 = .ok (.aload_n 0, 1) := by decide +kernel
theorem dX6_advance_33 : decode cX6_advance 33 = .ok (.getfield 7, 3) := by decide +kernel
theorem dX6_advance_36 : decode cX6_advance 36 = .ok (.iload_n 3, 1) := by decide +kernel
theorem dX6_advance_37 : decode cX6_advance 37 = .ok (.iconst 3, 1) := by decide +kernel
theorem dX6_advance_38 : decode cX6_advance 38 = .ok (.invokestatic 27, 3) := by decide +kernel
theorem dX6_advance_41 : decode cX6_advance 41 = .ok (.dup2, 1) := by decide +kernel
theorem dX6_advance_42 : decode cX6_advance 42 = .ok (.iaload, 1) := by decide +kernel
theorem dX6_advance_43 : decode cX6_advance 43 = .ok (.aload_n 0, 1) := by decide +kernel
theorem dX6_advance_44 : decode cX6_advance 44 = .ok (.iload_n 3, 1) := by decide +kernel
theorem dX6_advance_45 : decode cX6_advance 45 = .ok (.iconst 3, 1) := by decide +kernel
theorem dX6_advance_46 : decode cX6_advance 46 = .ok (.invokevirtual 67, 3) := by decide +kernel
theorem dX6_advance_49 : decode cX6_advance 49 = .ok (.ifCond .le 7, 3) := by decide +kernel
theorem dX6_advance_52 : decode cX6_advance 52 = .ok (.iconst 1, 1) := by decide +kernel
theorem dX6_advance_53 : decode cX6_advance 53 = .ok (.goto 4, 3) := by decide +kernel
theorem dX6_advance_56 : decode cX6_advance 56 = .ok (.iconst 0, 1) := by decide +kernel
theorem dX6_advance_57 : decode cX6_advance 57 = .ok (.isub, 1) := by decide +kernel
theorem dX6_advance_58 : decode cX6_advance 58 = .ok (.iastore, 1) := by decide +kernel
theorem dX6_advance_59 : decode cX6_advance 59 = .ok (.iinc 3 1, 3) := by decide +kernel
theorem dX6_advance_62 : decode cX6_advance 62 = .ok (.goto (-40), 3) := by decide +kernel
theorem dX6_advance_65 : decode cX6_advance 65 = .ok (.aload_n 0, 1) := by decide +kernel
theorem dX6_advance_66 : decode cX6_advance 66 = .ok (.invokevirtual 98, 3) := by decide +kernel
theorem dX6_advance_69 : decode cX6_advance 69 = .ok (.aload_n 0, 1) := by decide +kernel
theorem dX6_advance_70 : decode cX6_advance 70 = .ok (.getfield 7, 3) := by decide +kernel
theorem dX6_advance_73 : decode cX6_advance 73 = .ok (.iconst 3, 1) := by decide +kernel
theorem dX6_advance_74 : decode cX6_advance 74 = .ok (.dup2, 1) := by decide +kernel
theorem dX6_advance_75 : decode cX6_advance 75 = .ok (.iaload, 1) := by decide +kernel
theorem dX6_advance_76 : decode cX6_advance 76 = .ok (.iconst 1, 1) := by decide +kernel
theorem dX6_advance_77 : decode cX6_advance 77 = .ok (.iadd, 1) := by decide +kernel
theorem dX6_advance_78 : decode cX6_advance 78 = .ok (.iastore, 1) := by decide +kernel
theorem dX6_advance_79 : decode cX6_advance 79 = .ok (.iinc 2 1, 3) := by decide +kernel
theorem dX6_advance_82 : decode cX6_advance 82 = .ok (.goto (-67), 3) := by decide +kernel
theorem dX6_advance_85 : decode cX6_advance 85 = .ok (.aload_n 0, 1) := by decide +kernel
theorem dX6_advance_86 : decode cX6_advance 86 = .ok (.getfield 7, 3) := by decide +kernel
theorem dX6_advance_89 : decode cX6_advance 89 = .ok (.iconst 3, 1) := by decide +kernel
theorem dX6_advance_90 : decode cX6_advance 90 = .ok (.iaload, 1) := by decide +kernel
theorem dX6_advance_91 : decode cX6_advance 91 = .ok (.ireturn, 1) := by decide +kernel
theorem dX6_clock_0 : decode cX6_clock 0 = .ok (.aload_n 0, 1) := by decide +kernel
theorem dX6_clock_1 : decode cX6_clock 1 = .ok (.getfield 7, 3) := by decide +kernel
theorem dX6_clock_4 : decode cX6_clock 4 = .ok (.iconst 3, 1) := by decide +kernel
theorem dX6_clock_5 : decode cX6_clock 5 = .ok (.iaload, 1) := by decide +kernel
theorem dX6_clock_6 : decode cX6_clock 6 = .ok (.ireturn, 1) := by decide +kernel
set_option maxRecDepth 20000 in
theorem ggX6_request_X6_isSpan : GoodIn wsX6_request wsX6_isSpan := goodIn_r _ [5, 6, 7, 8, 4, 9, 33, 34, 35, 36] (by decide +kernel) (by decide +kernel)
set_option maxRecDepth 20000 in
theorem gX6_request_X6_isSpan : GoodIn wsX6_request (wsV RX6 60 RX6 yX6_isSpan wsX6_isSpan) := goodIn_app (goodIn_of _ (by decide +kernel)) ggX6_request_X6_isSpan
set_option maxRecDepth 20000 in
theorem ggX6_request_X6_requestOf : GoodIn wsX6_request wsX6_requestOf := goodIn_r _ [13, 14, 15, 16, 4, 17, 18, 19, 20, 21, 6, 22, 23, 24, 25, 26, 27, 28, 29, 30, 31, 32, 33, 34, 35, 36] (by decide +kernel) (by decide +kernel)
set_option maxRecDepth 20000 in
theorem gX6_request_X6_requestOf : GoodIn wsX6_request (wsV RX6 79 RX6 yX6_requestOf wsX6_requestOf) := goodIn_app (goodIn_of _ (by decide +kernel)) ggX6_request_X6_requestOf
theorem dX6_request_0 : decode cX6_request 0 = .ok (.aload_n 0, 1) := by decide +kernel
theorem dX6_request_1 : decode cX6_request 1 = .ok (.iload_n 1, 1) := by decide +kernel
theorem dX6_request_2 : decode cX6_request 2 = .ok (.invokevirtual 60, 3) := by decide +kernel
theorem dX6_request_5 : decode cX6_request 5 = .ok (.ifCond .eq 11, 3) := by decide +kernel
theorem dX6_request_8 : decode cX6_request 8 = .ok (.aload_n 0, 1) := by decide +kernel
theorem dX6_request_9 : decode cX6_request 9 = .ok (.iload_n 1, 1) := by decide +kernel
theorem dX6_request_10 : decode cX6_request 10 = .ok (.invokevirtual 79, 3) := by decide +kernel
theorem dX6_request_13 : decode cX6_request 13 = .ok (.goto 5, 3) := by decide +kernel
theorem dX6_request_16 : decode cX6_request 16 = .ok (.bipush (-2), 2) := by decide +kernel
theorem dX6_request_18 : decode cX6_request 18 = .ok (.ireturn, 1) := by decide +kernel
set_option maxRecDepth 20000 in
theorem ggX6_switchOf_X6_isSpan : GoodIn wsX6_switchOf wsX6_isSpan := goodIn_r _ [5, 6, 7, 8, 4, 9, 17, 18, 19, 20] (by decide +kernel) (by decide +kernel)
set_option maxRecDepth 20000 in
theorem gX6_switchOf_X6_isSpan : GoodIn wsX6_switchOf (wsV RX6 60 RX6 yX6_isSpan wsX6_isSpan) := goodIn_app (goodIn_of _ (by decide +kernel)) ggX6_switchOf_X6_isSpan
set_option maxRecDepth 20000 in
theorem ggX6_switchOf_X6_of : GoodIn wsX6_switchOf wsX6_of := goodIn_r _ [13, 6, 14, 15, 4, 16, 17, 18, 19, 20] (by decide +kernel) (by decide +kernel)
set_option maxRecDepth 20000 in
theorem gX6_switchOf_X6_of : GoodIn wsX6_switchOf (wsV RX6 67 RX6 yX6_of wsX6_of) := goodIn_app (goodIn_of _ (by decide +kernel)) ggX6_switchOf_X6_of
theorem dX6_switchOf_0 : decode cX6_switchOf 0 = .ok (.aload_n 0, 1) := by decide +kernel
theorem dX6_switchOf_1 : decode cX6_switchOf 1 = .ok (.iload_n 1, 1) := by decide +kernel
theorem dX6_switchOf_2 : decode cX6_switchOf 2 = .ok (.invokevirtual 60, 3) := by decide +kernel
theorem dX6_switchOf_5 : decode cX6_switchOf 5 = .ok (.ifCond .eq 13, 3) := by decide +kernel
theorem dX6_switchOf_8 : decode cX6_switchOf 8 = .ok (.aload_n 0, 1) := by decide +kernel
theorem dX6_switchOf_9 : decode cX6_switchOf 9 = .ok (.iload_n 1, 1) := by decide +kernel
theorem dX6_switchOf_10 : decode cX6_switchOf 10 = .ok (.bipush 6, 2) := by decide +kernel
theorem dX6_switchOf_12 : decode cX6_switchOf 12 = .ok (.invokevirtual 67, 3) := by decide +kernel
theorem dX6_switchOf_15 : decode cX6_switchOf 15 = .ok (.goto 5, 3) := by decide +kernel
theorem dX6_switchOf_18 : decode cX6_switchOf 18 = .ok (.bipush (-2), 2) := by decide +kernel
theorem dX6_switchOf_20 : decode cX6_switchOf 20 = .ok (.ireturn, 1) := by decide +kernel
set_option maxRecDepth 20000 in
theorem ggX6_restoreTimer_X6_isSpan : GoodIn wsX6_restoreTimer wsX6_isSpan := goodIn_r _ [5, 6, 7, 8, 4, 9, 17, 18, 19, 20] (by decide +kernel) (by decide +kernel)
set_option maxRecDepth 20000 in
theorem gX6_restoreTimer_X6_isSpan : GoodIn wsX6_restoreTimer (wsV RX6 60 RX6 yX6_isSpan wsX6_isSpan) := goodIn_app (goodIn_of _ (by decide +kernel)) ggX6_restoreTimer_X6_isSpan
set_option maxRecDepth 20000 in
theorem ggX6_restoreTimer_X6_of : GoodIn wsX6_restoreTimer wsX6_of := goodIn_r _ [13, 6, 14, 15, 4, 16, 17, 18, 19, 20] (by decide +kernel) (by decide +kernel)
set_option maxRecDepth 20000 in
theorem gX6_restoreTimer_X6_of : GoodIn wsX6_restoreTimer (wsV RX6 67 RX6 yX6_of wsX6_of) := goodIn_app (goodIn_of _ (by decide +kernel)) ggX6_restoreTimer_X6_of
theorem dX6_restoreTimer_0 : decode cX6_restoreTimer 0 = .ok (.aload_n 0, 1) := by decide +kernel
theorem dX6_restoreTimer_1 : decode cX6_restoreTimer 1 = .ok (.iload_n 1, 1) := by decide +kernel
theorem dX6_restoreTimer_2 : decode cX6_restoreTimer 2 = .ok (.invokevirtual 60, 3) := by decide +kernel
theorem dX6_restoreTimer_5 : decode cX6_restoreTimer 5 = .ok (.ifCond .eq 12, 3) := by decide +kernel
theorem dX6_restoreTimer_8 : decode cX6_restoreTimer 8 = .ok (.aload_n 0, 1) := by decide +kernel
theorem dX6_restoreTimer_9 : decode cX6_restoreTimer 9 = .ok (.iload_n 1, 1) := by decide +kernel
theorem dX6_restoreTimer_10 : decode cX6_restoreTimer 10 = .ok (.iconst 3, 1) := by decide +kernel
theorem dX6_restoreTimer_11 : decode cX6_restoreTimer 11 = .ok (.invokevirtual 67, 3) := by decide +kernel
theorem dX6_restoreTimer_14 : decode cX6_restoreTimer 14 = .ok (.goto 5, 3) := by decide +kernel
theorem dX6_restoreTimer_17 : decode cX6_restoreTimer 17 = .ok (.bipush (-2), 2) := by decide +kernel
theorem dX6_restoreTimer_19 : decode cX6_restoreTimer 19 = .ok (.ireturn, 1) := by decide +kernel
set_option maxRecDepth 20000 in
theorem ggX6_segmentOf_X6_of : GoodIn wsX6_segmentOf wsX6_of := goodIn_r _ [6, 1, 7, 8, 5, 9, 14, 15, 16, 17] (by decide +kernel) (by decide +kernel)
set_option maxRecDepth 20000 in
theorem gX6_segmentOf_X6_of : GoodIn wsX6_segmentOf (wsV RX6 67 RX6 yX6_of wsX6_of) := goodIn_app (goodIn_of _ (by decide +kernel)) ggX6_segmentOf_X6_of
set_option maxRecDepth 20000 in
theorem ggX6_segmentOf_X6_next : GoodIn wsX6_segmentOf wsX6_next := goodIn_r _ [13, 1, 14, 15, 16, 17] (by decide +kernel) (by decide +kernel)
set_option maxRecDepth 20000 in
theorem gX6_segmentOf_X6_next : GoodIn wsX6_segmentOf (wsV RX6 70 RX6 yX6_next wsX6_next) := goodIn_app (goodIn_of _ (by decide +kernel)) ggX6_segmentOf_X6_next
theorem dX6_segmentOf_0 : decode cX6_segmentOf 0 = .ok (.aload_n 0, 1) := by decide +kernel
theorem dX6_segmentOf_1 : decode cX6_segmentOf 1 = .ok (.getfield 7, 3) := by decide +kernel
theorem dX6_segmentOf_4 : decode cX6_segmentOf 4 = .ok (.iconst 0, 1) := by decide +kernel
theorem dX6_segmentOf_5 : decode cX6_segmentOf 5 = .ok (.iaload, 1) := by decide +kernel
theorem dX6_segmentOf_6 : decode cX6_segmentOf 6 = .ok (.istore_n 2, 1) := by decide +kernel
theorem dX6_segmentOf_7 : decode cX6_segmentOf 7 = .ok (.iload_n 1, 1) := by decide +kernel
theorem dX6_segmentOf_8 : decode cX6_segmentOf 8 = .ok (.istore_n 3, 1) := by decide +kernel
theorem dX6_segmentOf_9 : decode cX6_segmentOf 9 = .ok (.iload_n 1, 1) := by decide +kernel
theorem dX6_segmentOf_10 : decode cX6_segmentOf 10 = .ok (.istore 4, 2) := by decide +kernel
theorem dX6_segmentOf_12 : decode cX6_segmentOf 12 = .ok (.iconst 0, 1) := by decide +kernel
theorem dX6_segmentOf_13 : decode cX6_segmentOf 13 = .ok (.istore 5, 2) := by decide +kernel
theorem dX6_segmentOf_15 : decode cX6_segmentOf 15 = .ok (.iload 5, 2) := by decide +kernel
theorem dX6_segmentOf_17 : decode cX6_segmentOf 17 = .ok (.iload_n 2, 1) := by decide +kernel
theorem dX6_segmentOf_18 : decode cX6_segmentOf 18 = .ok (.if_icmp .ge 42, 3) := by decide +kernel
theorem dX6_segmentOf_21 : decode cX6_segmentOf 21 = .ok (.aload_n 0, 1) := by decide +kernel
theorem dX6_segmentOf_22 : decode cX6_segmentOf 22 = .ok (.iload 4, 2) := by decide +kernel
theorem dX6_segmentOf_24 : decode cX6_segmentOf 24 = .ok (.bipush 6, 2) := by decide +kernel
theorem dX6_segmentOf_26 : decode cX6_segmentOf 26 = .ok (.invokevirtual 67, 3) := by decide +kernel
theorem dX6_segmentOf_29 : decode cX6_segmentOf 29 = .ok (.iconst 2, 1) := by decide +kernel
theorem dX6_segmentOf_30 : decode cX6_segmentOf 30 = .ok (.if_icmp .eq 30, 3) := by decide +kernel
theorem dX6_segmentOf_33 : decode cX6_segmentOf 33 = .ok (.aload_n 0, 1) := by decide +kernel
theorem dX6_segmentOf_34 : decode cX6_segmentOf 34 = .ok (.iload 4, 2) := by decide +kernel
theorem dX6_segmentOf_36 : decode cX6_segmentOf 36 = .ok (.invokevirtual 70, 3) := by decide +kernel
theorem dX6_segmentOf_39 : decode cX6_segmentOf 39 = .ok (.istore 4, 2) := by decide +kernel
theorem dX6_segmentOf_41 : decode cX6_segmentOf 41 = .ok (.iload 4, 2) := by decide +kernel
theorem dX6_segmentOf_43 : decode cX6_segmentOf 43 = .ok (.iload_n 3, 1) := by decide +kernel
theorem dX6_segmentOf_44 : decode cX6_segmentOf 44 = .ok (.if_icmp .ge 8, 3) := by decide +kernel
theorem dX6_segmentOf_47 : decode cX6_segmentOf 47 = .ok (.iload 4, 2) := by decide +kernel
theorem dX6_segmentOf_49 : decode cX6_segmentOf 49 = .ok (.goto 4, 3) := by decide +kernel
theorem dX6_segmentOf_52 : decode cX6_segmentOf 52 = .ok (.iload_n 3, 1) := by decide +kernel
theorem dX6_segmentOf_53 : decode cX6_segmentOf 53 = .ok (.istore_n 3, 1) := by decide +kernel
theorem dX6_segmentOf_54 : decode cX6_segmentOf 54 = .ok (.iinc 5 1, 3) := by decide +kernel
theorem dX6_segmentOf_57 : decode cX6_segmentOf 57 = .ok (.goto (-42), 3) := by decide +kernel
theorem dX6_segmentOf_60 : decode cX6_segmentOf 60 = .ok (.iload_n 1, 1) := by decide +kernel
theorem dX6_segmentOf_61 : decode cX6_segmentOf 61 = .ok (.istore 4, 2) := by decide +kernel
theorem dX6_segmentOf_63 : decode cX6_segmentOf 63 = .ok (.iconst 0, 1) := by decide +kernel
theorem dX6_segmentOf_64 : decode cX6_segmentOf 64 = .ok (.istore 5, 2) := by decide +kernel
theorem dX6_segmentOf_66 : decode cX6_segmentOf 66 = .ok (.iload 5, 2) := by decide +kernel
theorem dX6_segmentOf_68 : decode cX6_segmentOf 68 = .ok (.iload_n 2, 1) := by decide +kernel
theorem dX6_segmentOf_69 : decode cX6_segmentOf 69 = .ok (.if_icmp .ge 50, 3) := by decide +kernel
theorem dX6_segmentOf_72 : decode cX6_segmentOf 72 = .ok (.aload_n 0, 1) := by decide +kernel
theorem dX6_segmentOf_73 : decode cX6_segmentOf 73 = .ok (.iload 4, 2) := by decide +kernel
theorem dX6_segmentOf_75 : decode cX6_segmentOf 75 = .ok (.iload_n 2, 1) := by decide +kernel
theorem dX6_segmentOf_76 : decode cX6_segmentOf 76 = .ok (.iadd, 1) := by decide +kernel
theorem dX6_segmentOf_77 : decode cX6_segmentOf 77 = .ok (.iconst 1, 1) := by decide +kernel
theorem dX6_segmentOf_78 : decode cX6_segmentOf 78 = .ok (.isub, 1) := by decide +kernel
theorem dX6_segmentOf_79 : decode cX6_segmentOf 79 = .ok (.iload_n 2, 1) := by decide +kernel
theorem dX6_segmentOf_80 : decode cX6_segmentOf 80 = .ok (.irem, 1) := by decide +kernel
theorem dX6_segmentOf_81 : decode cX6_segmentOf 81 = .ok (.bipush 6, 2) := by decide +kernel
theorem dX6_segmentOf_83 : decode cX6_segmentOf 83 = .ok (.invokevirtual 67, 3) := by decide +kernel
theorem dX6_segmentOf_86 : decode cX6_segmentOf 86 = .ok (.iconst 2, 1) := by decide +kernel
theorem dX6_segmentOf_87 : decode cX6_segmentOf 87 = .ok (.if_icmp .eq 32, 3) := by decide +kernel
theorem dX6_segmentOf_90 : decode cX6_segmentOf 90 = .ok (.iload 4, 2) := by decide +kernel
theorem dX6_segmentOf_92 : decode cX6_segmentOf 92 = .ok (.iload_n 2, 1) := by decide +kernel
theorem dX6_segmentOf_93 : decode cX6_segmentOf 93 = .ok (.iadd, 1) := by decide +kernel
theorem dX6_segmentOf_94 : decode cX6_segmentOf 94 = .ok (.iconst 1, 1) := by decide +kernel
theorem dX6_segmentOf_95 : decode cX6_segmentOf 95 = .ok (.isub, 1) := by decide +kernel
theorem dX6_segmentOf_96 : decode cX6_segmentOf 96 = .ok (.iload_n 2, 1) := by decide +kernel
theorem dX6_segmentOf_97 : decode cX6_segmentOf 97 = .ok (.irem, 1) := by decide +kernel
theorem dX6_segmentOf_98 : decode cX6_segmentOf 98 = .ok (.istore 4, 2) := by decide +kernel
theorem dX6_segmentOf_100 : decode cX6_segmentOf 100 = .ok (.iload 4, 2) := by decide +kernel
theorem dX6_segmentOf_102 : decode cX6_segmentOf 102 = .ok (.iload_n 3, 1) := by decide +kernel
theorem dX6_segmentOf_103 : decode cX6_segmentOf 103 = .ok (.if_icmp .ge 8, 3) := by decide +kernel
theorem dX6_segmentOf_106 : decode cX6_segmentOf 106 = .ok (.iload 4, 2) := by decide +kernel
theorem dX6_segmentOf_108 : decode cX6_segmentOf 108 = .ok (.goto 4, 3) := by decide +kernel
theorem dX6_segmentOf_111 : decode cX6_segmentOf 111 = .ok (.iload_n 3, 1) := by decide +kernel
theorem dX6_segmentOf_112 : decode cX6_segmentOf 112 = .ok (.istore_n 3, 1) := by decide +kernel
theorem dX6_segmentOf_113 : decode cX6_segmentOf 113 = .ok (.iinc 5 1, 3) := by decide +kernel
theorem dX6_segmentOf_116 : decode cX6_segmentOf 116 = .ok (.goto (-50), 3) := by decide +kernel
theorem dX6_segmentOf_119 : decode cX6_segmentOf 119 = .ok (.iload_n 3, 1) := by decide +kernel
theorem dX6_segmentOf_120 : decode cX6_segmentOf 120 = .ok (.ireturn, 1) := by decide +kernel
set_option maxRecDepth 20000 in
theorem ggX6_segment_X6_isNode : GoodIn wsX6_segment wsX6_isNode := goodIn_r _ [5, 6, 7, 8, 4, 9, 25, 26, 27, 28] (by decide +kernel) (by decide +kernel)
set_option maxRecDepth 20000 in
theorem gX6_segment_X6_isNode : GoodIn wsX6_segment (wsV RX6 46 RX6 yX6_isNode wsX6_isNode) := goodIn_app (goodIn_of _ (by decide +kernel)) ggX6_segment_X6_isNode
set_option maxRecDepth 20000 in
theorem ggX6_segment_X6_segmentOf : GoodIn wsX6_segment wsX6_segmentOf := goodIn_r _ [13, 6, 14, 15, 16, 4, 17, 18, 19, 20, 21, 22, 23, 24, 25, 26, 27, 28] (by decide +kernel) (by decide +kernel)
set_option maxRecDepth 20000 in
theorem gX6_segment_X6_segmentOf : GoodIn wsX6_segment (wsV RX6 108 RX6 yX6_segmentOf wsX6_segmentOf) := goodIn_app (goodIn_of _ (by decide +kernel)) ggX6_segment_X6_segmentOf
theorem dX6_segment_0 : decode cX6_segment 0 = .ok (.aload_n 0, 1) := by decide +kernel
theorem dX6_segment_1 : decode cX6_segment 1 = .ok (.iload_n 1, 1) := by decide +kernel
theorem dX6_segment_2 : decode cX6_segment 2 = .ok (.invokevirtual 46, 3) := by decide +kernel
theorem dX6_segment_5 : decode cX6_segment 5 = .ok (.ifCond .eq 11, 3) := by decide +kernel
theorem dX6_segment_8 : decode cX6_segment 8 = .ok (.aload_n 0, 1) := by decide +kernel
theorem dX6_segment_9 : decode cX6_segment 9 = .ok (.iload_n 1, 1) := by decide +kernel
theorem dX6_segment_10 : decode cX6_segment 10 = .ok (.invokevirtual 108, 3) := by decide +kernel
theorem dX6_segment_13 : decode cX6_segment 13 = .ok (.goto 4, 3) := by decide +kernel
theorem dX6_segment_16 : decode cX6_segment 16 = .ok (.iconst (-1), 1) := by decide +kernel
theorem dX6_segment_17 : decode cX6_segment 17 = .ok (.ireturn, 1) := by decide +kernel
set_option maxRecDepth 20000 in
theorem ggX6_hasSwitch_X6_isOn : GoodIn wsX6_hasSwitch wsX6_isOn := goodIn_r _ [6, 7, 8, 9, 5, 10, 1, 11, 12, 13, 14, 22, 23, 24, 25] (by decide +kernel) (by decide +kernel)
set_option maxRecDepth 20000 in
theorem gX6_hasSwitch_X6_isOn : GoodIn wsX6_hasSwitch (wsV RX6 42 RX6 yX6_isOn wsX6_isOn) := goodIn_app (goodIn_of _ (by decide +kernel)) ggX6_hasSwitch_X6_isOn
set_option maxRecDepth 20000 in
theorem ggX6_hasSwitch_X6_of : GoodIn wsX6_hasSwitch wsX6_of := goodIn_r _ [18, 1, 19, 20, 5, 21, 22, 23, 24, 25] (by decide +kernel) (by decide +kernel)
set_option maxRecDepth 20000 in
theorem gX6_hasSwitch_X6_of : GoodIn wsX6_hasSwitch (wsV RX6 67 RX6 yX6_of wsX6_of) := goodIn_app (goodIn_of _ (by decide +kernel)) ggX6_hasSwitch_X6_of
theorem dX6_hasSwitch_0 : decode cX6_hasSwitch 0 = .ok (.iconst 0, 1) := by decide +kernel
theorem dX6_hasSwitch_1 : decode cX6_hasSwitch 1 = .ok (.istore_n 3, 1) := by decide +kernel
theorem dX6_hasSwitch_2 : decode cX6_hasSwitch 2 = .ok (.iconst 0, 1) := by decide +kernel
theorem dX6_hasSwitch_3 : decode cX6_hasSwitch 3 = .ok (.istore 4, 2) := by decide +kernel
theorem dX6_hasSwitch_5 : decode cX6_hasSwitch 5 = .ok (.iload 4, 2) := by decide +kernel
theorem dX6_hasSwitch_7 : decode cX6_hasSwitch 7 = .ok (.aload_n 0, 1) := by decide +kernel
theorem dX6_hasSwitch_8 : decode cX6_hasSwitch 8 = .ok (.getfield 7, 3) := by decide +kernel
theorem dX6_hasSwitch_11 : decode cX6_hasSwitch 11 = .ok (.iconst 0, 1) := by decide +kernel
theorem dX6_hasSwitch_12 : decode cX6_hasSwitch 12 = .ok (.iaload, 1) := by decide +kernel
theorem dX6_hasSwitch_13 : decode cX6_hasSwitch 13 = .ok (.if_icmp .ge 41, 3) := by decide +kernel
theorem dX6_hasSwitch_16 : decode cX6_hasSwitch 16 = .ok (.iload_n 3, 1) := by decide +kernel
theorem dX6_hasSwitch_17 : decode cX6_hasSwitch 17 = .ok (.ifCond .ne 25, 3) := by decide +kernel
theorem dX6_hasSwitch_20 : decode cX6_hasSwitch 20 = .ok (.aload_n 0, 1) := by decide +kernel
theorem dX6_hasSwitch_21 : decode cX6_hasSwitch 21 = .ok (.iload_n 1, 1) := by decide +kernel
theorem dX6_hasSwitch_22 : decode cX6_hasSwitch 22 = .ok (.iload 4, 2) := by decide +kernel
theorem dX6_hasSwitch_24 : decode cX6_hasSwitch 24 = .ok (.invokevirtual 42, 3) := by decide +kernel
theorem dX6_hasSwitch_27 : decode cX6_hasSwitch 27 = .ok (.ifCond .eq 19, 3) := by decide +kernel
theorem dX6_hasSwitch_30 : decode cX6_hasSwitch 30 = .ok (.aload_n 0, 1) := by decide +kernel
theorem dX6_hasSwitch_31 : decode cX6_hasSwitch 31 = .ok (.iload 4, 2) := by decide +kernel
theorem dX6_hasSwitch_33 : decode cX6_hasSwitch 33 = .ok (.bipush 6, 2) := by decide +kernel
theorem dX6_hasSwitch_35 : decode cX6_hasSwitch 35 = .ok (.invokevirtual 67, 3) := by decide +kernel
theorem dX6_hasSwitch_38 : decode cX6_hasSwitch 38 = .ok (.iload_n 2, 1) := by decide +kernel
theorem dX6_hasSwitch_39 : decode cX6_hasSwitch 39 = .ok (.if_icmp .ne 7, 3) := by decide +kernel
theorem dX6_hasSwitch_42 : decode cX6_hasSwitch 42 = .ok (.iconst 1, 1) := by decide +kernel
theorem dX6_hasSwitch_43 : decode cX6_hasSwitch 43 = .ok (.goto 4, 3) := by decide +kernel
theorem dX6_hasSwitch_46 : decode cX6_hasSwitch 46 = .ok (.iconst 0, 1) := by decide +kernel
theorem dX6_hasSwitch_47 : decode cX6_hasSwitch 47 = .ok (.istore_n 3, 1) := by decide +kernel
theorem dX6_hasSwitch_48 : decode cX6_hasSwitch 48 = .ok (.iinc 4 1, 3) := by decide +kernel
theorem dX6_hasSwitch_51 : decode cX6_hasSwitch 51 = .ok (.goto (-46), 3) := by decide +kernel
theorem dX6_hasSwitch_54 : decode cX6_hasSwitch 54 = .ok (.iload_n 3, 1) := by decide +kernel
theorem dX6_hasSwitch_55 : decode cX6_hasSwitch 55 = .ok (.ireturn, 1) := by decide +kernel
set_option maxRecDepth 20000 in
theorem ggX6_isInside_X6_segmentOf : GoodIn wsX6_isInside wsX6_segmentOf := goodIn_r _ [5, 6, 7, 8, 9, 4, 10, 11, 12, 13, 14, 15, 16, 17, 18, 19, 20, 21] (by decide +kernel) (by decide +kernel)
set_option maxRecDepth 20000 in
theorem gX6_isInside_X6_segmentOf : GoodIn wsX6_isInside (wsV RX6 108 RX6 yX6_segmentOf wsX6_segmentOf) := goodIn_app (goodIn_of _ (by decide +kernel)) ggX6_isInside_X6_segmentOf
set_option maxRecDepth 20000 in
theorem ggX6_isInside_X6_next : GoodIn wsX6_isInside wsX6_next := goodIn_r _ [17, 6, 18, 19, 20, 21] (by decide +kernel) (by decide +kernel)
set_option maxRecDepth 20000 in
theorem gX6_isInside_X6_next : GoodIn wsX6_isInside (wsV RX6 70 RX6 yX6_next wsX6_next) := goodIn_app (goodIn_of _ (by decide +kernel)) ggX6_isInside_X6_next
theorem dX6_isInside_0 : decode cX6_isInside 0 = .ok (.aload_n 0, 1) := by decide +kernel
theorem dX6_isInside_1 : decode cX6_isInside 1 = .ok (.iload_n 1, 1) := by decide +kernel
theorem dX6_isInside_2 : decode cX6_isInside 2 = .ok (.invokevirtual 108, 3) := by decide +kernel
theorem dX6_isInside_5 : decode cX6_isInside 5 = .ok (.iload_n 2, 1) := by decide +kernel
theorem dX6_isInside_6 : decode cX6_isInside 6 = .ok (.if_icmp .ne 20, 3) := by decide +kernel
theorem dX6_isInside_9 : decode cX6_isInside 9 = .ok (.aload_n 0, 1) := by decide +kernel
theorem dX6_isInside_10 : decode cX6_isInside 10 = .ok (.aload_n 0, 1) := by decide +kernel
theorem dX6_isInside_11 : decode cX6_isInside 11 = .ok (.iload_n 1, 1) := by decide +kernel
theorem dX6_isInside_12 : decode cX6_isInside 12 = .ok (.invokevirtual 70, 3) := by decide +kernel
theorem dX6_isInside_15 : decode cX6_isInside 15 = .ok (.invokevirtual 108, 3) := by decide +kernel
theorem dX6_isInside_18 : decode cX6_isInside 18 = .ok (.iload_n 2, 1) := by decide +kernel
theorem dX6_isInside_19 : decode cX6_isInside 19 = .ok (.if_icmp .ne 7, 3) := by decide +kernel
theorem dX6_isInside_22 : decode cX6_isInside 22 = .ok (.iconst 1, 1) := by decide +kernel
theorem dX6_isInside_23 : decode cX6_isInside 23 = .ok (.goto 4, 3) := by decide +kernel
theorem dX6_isInside_26 : decode cX6_isInside 26 = .ok (.iconst 0, 1) := by decide +kernel
theorem dX6_isInside_27 : decode cX6_isInside 27 = .ok (.ireturn, 1) := by decide +kernel
set_option maxRecDepth 20000 in
theorem ggX6_isLost_X6_hasSwitch : GoodIn wsX6_isLost wsX6_hasSwitch := goodIn_r _ [6, 1, 7, 8, 9, 5, 10, 11, 12, 13, 14, 15, 16, 17, 18, 19, 20, 21, 22, 23, 24, 25, 42, 43, 44, 45] (by decide +kernel) (by decide +kernel)
set_option maxRecDepth 20000 in
theorem gX6_isLost_X6_hasSwitch : GoodIn wsX6_isLost (wsV RX6 111 RX6 yX6_hasSwitch wsX6_hasSwitch) := goodIn_app (goodIn_of _ (by decide +kernel)) ggX6_isLost_X6_hasSwitch
set_option maxRecDepth 20000 in
theorem ggX6_isLost_X6_ofCircuit : GoodIn wsX6_isLost wsX6_ofCircuit := goodIn_r _ [14, 1, 42, 43, 44, 45] (by decide +kernel) (by decide +kernel)
set_option maxRecDepth 20000 in
theorem gX6_isLost_X6_ofCircuit : GoodIn wsX6_isLost (wsV RX6 31 RX6 yX6_ofCircuit wsX6_ofCircuit) := goodIn_app (goodIn_of _ (by decide +kernel)) ggX6_isLost_X6_ofCircuit
set_option maxRecDepth 20000 in
theorem ggX6_isLost_X6_segmentOf : GoodIn wsX6_isLost wsX6_segmentOf := goodIn_r _ [29, 1, 19, 20, 21, 5, 22, 23, 24, 25, 30, 31, 32, 33, 42, 43, 44, 45] (by decide +kernel) (by decide +kernel)
set_option maxRecDepth 20000 in
theorem gX6_isLost_X6_segmentOf : GoodIn wsX6_isLost (wsV RX6 108 RX6 yX6_segmentOf wsX6_segmentOf) := goodIn_app (goodIn_of _ (by decide +kernel)) ggX6_isLost_X6_segmentOf
set_option maxRecDepth 20000 in
theorem ggX6_isLost_X6_isOn : GoodIn wsX6_isLost wsX6_isOn := goodIn_r _ [10, 11, 12, 13, 5, 14, 1, 15, 16, 17, 18, 42, 43, 44, 45] (by decide +kernel) (by decide +kernel)
set_option maxRecDepth 20000 in
theorem gX6_isLost_X6_isOn : GoodIn wsX6_isLost (wsV RX6 42 RX6 yX6_isOn wsX6_isOn) := goodIn_app (goodIn_of _ (by decide +kernel)) ggX6_isLost_X6_isOn
set_option maxRecDepth 20000 in
theorem ggX6_isLost_X6_isDown : GoodIn wsX6_isLost wsX6_isDown := goodIn_r _ [37, 1, 19, 20, 21, 5, 22, 23, 24, 25, 30, 31, 32, 33, 42, 43, 44, 45] (by decide +kernel) (by decide +kernel)
set_option maxRecDepth 20000 in
theorem gX6_isLost_X6_isDown : GoodIn wsX6_isLost (wsV RX6 73 RX6 yX6_isDown wsX6_isDown) := goodIn_app (goodIn_of _ (by decide +kernel)) ggX6_isLost_X6_isDown
set_option maxRecDepth 20000 in
theorem ggX6_isLost_X6_of : GoodIn wsX6_isLost wsX6_of := goodIn_r _ [22, 1, 23, 24, 5, 25, 42, 43, 44, 45] (by decide +kernel) (by decide +kernel)
set_option maxRecDepth 20000 in
theorem gX6_isLost_X6_of : GoodIn wsX6_isLost (wsV RX6 67 RX6 yX6_of wsX6_of) := goodIn_app (goodIn_of _ (by decide +kernel)) ggX6_isLost_X6_of
set_option maxRecDepth 20000 in
theorem ggX6_isLost_X6_isInside : GoodIn wsX6_isLost wsX6_isInside := goodIn_r _ [41, 26, 27, 28, 5, 29, 1, 19, 20, 21, 22, 23, 24, 25, 30, 31, 32, 33, 42, 43, 44, 45] (by decide +kernel) (by decide +kernel)
set_option maxRecDepth 20000 in
theorem gX6_isLost_X6_isInside : GoodIn wsX6_isLost (wsV RX6 114 RX6 yX6_isInside wsX6_isInside) := goodIn_app (goodIn_of _ (by decide +kernel)) ggX6_isLost_X6_isInside
theorem dX6_isLost_0 : decode cX6_isLost 0 = .ok (.aload_n 0, 1) := by decide +kernel
theorem dX6_isLost_1 : decode cX6_isLost 1 = .ok (.iload_n 1, 1) := by decide +kernel
theorem dX6_isLost_2 : decode cX6_isLost 2 = .ok (.iconst 2, 1) := by decide +kernel
theorem dX6_isLost_3 : decode cX6_isLost 3 = .ok (.invokevirtual 111, 3) := by decide +kernel
theorem dX6_isLost_6 : decode cX6_isLost 6 = .ok (.istore_n 2, 1) := by decide +kernel
theorem dX6_isLost_7 : decode cX6_isLost 7 = .ok (.aload_n 0, 1) := by decide +kernel
theorem dX6_isLost_8 : decode cX6_isLost 8 = .ok (.aload_n 0, 1) := by decide +kernel
theorem dX6_isLost_9 : decode cX6_isLost 9 = .ok (.iload_n 1, 1) := by decide +kernel
theorem dX6_isLost_10 : decode cX6_isLost 10 = .ok (.iconst 1, 1) := by decide +kernel
theorem dX6_isLost_11 : decode cX6_isLost 11 = .ok (.invokevirtual 31, 3) := by decide +kernel
theorem dX6_isLost_14 : decode cX6_isLost 14 = .ok (.invokevirtual 108, 3) := by decide +kernel
theorem dX6_isLost_17 : decode cX6_isLost 17 = .ok (.istore_n 3, 1) := by decide +kernel
theorem dX6_isLost_18 : decode cX6_isLost 18 = .ok (.iconst 0, 1) := by decide +kernel
theorem dX6_isLost_19 : decode cX6_isLost 19 = .ok (.istore 4, 2) := by decide +kernel
theorem dX6_isLost_21 : decode cX6_isLost 21 = .ok (.iconst 0, 1) := by decide +kernel
theorem dX6_isLost_22 : decode cX6_isLost 22 = .ok (.istore 5, 2) := by decide +kernel
theorem dX6_isLost_24 : decode cX6_isLost 24 = .ok (.iload 5, 2) := by decide +kernel
theorem dX6_isLost_26 : decode cX6_isLost 26 = .ok (.aload_n 0, 1) := by decide +kernel
theorem dX6_isLost_27 : decode cX6_isLost 27 = .ok (.getfield 7, 3) := by decide +kernel
theorem dX6_isLost_30 : decode cX6_isLost 30 = .ok (.iconst 0, 1) := by decide +kernel
theorem dX6_isLost_31 : decode cX6_isLost 31 = .ok (.iaload, 1) := by decide +kernel
theorem dX6_isLost_32 : decode cX6_isLost 32 = .ok (.if_icmp .ge 66, 3) := by decide +kernel
theorem dX6_isLost_35 : decode cX6_isLost 35 = .ok (.iload 4, 2) := by decide +kernel
theorem dX6_isLost_37 : decode cX6_isLost 37 = .ok (.ifCond .ne 48, 3) := by decide +kernel
theorem dX6_isLost_40 : decode cX6_isLost 40 = .ok (.aload_n 0, 1) := by decide +kernel
theorem dX6_isLost_41 : decode cX6_isLost 41 = .ok (.iload_n 1, 1) := by decide +kernel
theorem dX6_isLost_42 : decode cX6_isLost 42 = .ok (.iload 5, 2) := by decide +kernel
theorem dX6_isLost_44 : decode cX6_isLost 44 = .ok (.invokevirtual 42, 3) := by decide +kernel
theorem dX6_isLost_47 : decode cX6_isLost 47 = .ok (.ifCond .eq 42, 3) := by decide +kernel
theorem dX6_isLost_50 : decode cX6_isLost 50 = .ok (.aload_n 0, 1) := by decide +kernel
theorem dX6_isLost_51 : decode cX6_isLost 51 = .ok (.iload 5, 2) := by decide +kernel
theorem dX6_isLost_53 : decode cX6_isLost 53 = .ok (.iconst 0, 1) := by decide +kernel
theorem dX6_isLost_54 : decode cX6_isLost 54 = .ok (.invokevirtual 73, 3) := by decide +kernel
theorem dX6_isLost_57 : decode cX6_isLost 57 = .ok (.ifCond .eq 32, 3) := by decide +kernel
theorem dX6_isLost_60 : decode cX6_isLost 60 = .ok (.aload_n 0, 1) := by decide +kernel
theorem dX6_isLost_61 : decode cX6_isLost 61 = .ok (.iload 5, 2) := by decide +kernel
theorem dX6_isLost_63 : decode cX6_isLost 63 = .ok (.bipush 6, 2) := by decide +kernel
theorem dX6_isLost_65 : decode cX6_isLost 65 = .ok (.invokevirtual 67, 3) := by decide +kernel
theorem dX6_isLost_68 : decode cX6_isLost 68 = .ok (.ifCond .ne 21, 3) := by decide +kernel
theorem dX6_isLost_71 : decode cX6_isLost 71 = .ok (.iload_n 2, 1) := by decide +kernel
theorem dX6_isLost_72 : decode cX6_isLost 72 = .ok (.ifCond .eq 13, 3) := by decide +kernel
theorem dX6_isLost_75 : decode cX6_isLost 75 = .ok (.aload_n 0, 1) := by decide +kernel
theorem dX6_isLost_76 : decode cX6_isLost 76 = .ok (.iload 5, 2) := by decide +kernel
theorem dX6_isLost_78 : decode cX6_isLost 78 = .ok (.iload_n 3, 1) := by decide +kernel
theorem dX6_isLost_79 : decode cX6_isLost 79 = .ok (.invokevirtual 114, 3) := by decide +kernel
theorem dX6_isLost_82 : decode cX6_isLost 82 = .ok (.ifCond .eq 7, 3) := by decide +kernel
theorem dX6_isLost_85 : decode cX6_isLost 85 = .ok (.iconst 1, 1) := by decide +kernel
theorem dX6_isLost_86 : decode cX6_isLost 86 = .ok (.goto 4, 3) := by decide +kernel
theorem dX6_isLost_89 : decode cX6_isLost 89 = .ok (.iconst 0, 1) := by decide +kernel
theorem dX6_isLost_90 : decode cX6_isLost 90 = .ok (.istore 4, 2) := by decide +kernel
theorem dX6_isLost_92 : decode cX6_isLost 92 = .ok (.iinc 5 1, 3) := by decide +kernel
theorem dX6_isLost_95 : decode cX6_isLost 95 = .ok (.goto (-71), 3) := by decide +kernel
theorem dX6_isLost_98 : decode cX6_isLost 98 = .ok (.iload 4, 2) := by decide +kernel
theorem dX6_isLost_100 : decode cX6_isLost 100 = .ok (.ireturn, 1) := by decide +kernel
set_option maxRecDepth 20000 in
theorem ggX6_normalState_X6_hasSwitch : GoodIn wsX6_normalState wsX6_hasSwitch := goodIn_r _ [5, 6, 7, 8, 9, 4, 10, 11, 12, 13, 14, 15, 16, 17, 18, 19, 20, 21, 22, 23, 24, 25, 46, 47, 48, 49] (by decide +kernel) (by decide +kernel)
set_option maxRecDepth 20000 in
theorem gX6_normalState_X6_hasSwitch : GoodIn wsX6_normalState (wsV RX6 111 RX6 yX6_hasSwitch wsX6_hasSwitch) := goodIn_app (goodIn_of _ (by decide +kernel)) ggX6_normalState_X6_hasSwitch
set_option maxRecDepth 20000 in
theorem ggX6_normalState_X6_ofCircuit : GoodIn wsX6_normalState wsX6_ofCircuit := goodIn_r _ [14, 6, 46, 47, 48, 49] (by decide +kernel) (by decide +kernel)
set_option maxRecDepth 20000 in
theorem gX6_normalState_X6_ofCircuit : GoodIn wsX6_normalState (wsV RX6 31 RX6 yX6_ofCircuit wsX6_ofCircuit) := goodIn_app (goodIn_of _ (by decide +kernel)) ggX6_normalState_X6_ofCircuit
set_option maxRecDepth 20000 in
theorem ggX6_normalState_X6_segmentOf : GoodIn wsX6_normalState wsX6_segmentOf := goodIn_r _ [29, 6, 19, 20, 21, 4, 22, 23, 24, 25, 30, 31, 32, 33, 46, 47, 48, 49] (by decide +kernel) (by decide +kernel)
set_option maxRecDepth 20000 in
theorem gX6_normalState_X6_segmentOf : GoodIn wsX6_normalState (wsV RX6 108 RX6 yX6_segmentOf wsX6_segmentOf) := goodIn_app (goodIn_of _ (by decide +kernel)) ggX6_normalState_X6_segmentOf
set_option maxRecDepth 20000 in
theorem ggX6_normalState_X6_isLost : GoodIn wsX6_normalState wsX6_isLost := goodIn_r _ [37, 6, 1, 2, 3, 4, 5, 7, 8, 9, 10, 11, 12, 13, 14, 15, 16, 17, 18, 19, 20, 21, 22, 23, 24, 25, 26, 27, 28, 29, 30, 31, 32, 33, 38, 39, 40, 41, 42, 43, 44, 45, 46, 47, 48, 49] (by decide +kernel) (by decide +kernel)
set_option maxRecDepth 20000 in
theorem gX6_normalState_X6_isLost : GoodIn wsX6_normalState (wsV RX6 117 RX6 yX6_isLost wsX6_isLost) := goodIn_app (goodIn_of _ (by decide +kernel)) ggX6_normalState_X6_isLost
theorem dX6_normalState_0 : decode cX6_normalState 0 = .ok (.aload_n 0, 1) := by decide +kernel
theorem dX6_normalState_1 : decode cX6_normalState 1 = .ok (.iload_n 1, 1) := by decide +kernel
theorem dX6_normalState_2 : decode cX6_normalState 2 = .ok (.iconst 2, 1) := by decide +kernel
theorem dX6_normalState_3 : decode cX6_normalState 3 = .ok (.invokevirtual 111, 3) := by decide +kernel
theorem dX6_normalState_6 : decode cX6_normalState 6 = .ok (.istore_n 2, 1) := by decide +kernel
theorem dX6_normalState_7 : decode cX6_normalState 7 = .ok (.iload_n 2, 1) := by decide +kernel
theorem dX6_normalState_8 : decode cX6_normalState 8 = .ok (.ifCond .eq 28, 3) := by decide +kernel
theorem dX6_normalState_11 : decode cX6_normalState 11 = .ok (.aload_n 0, 1) := by decide +kernel
theorem dX6_normalState_12 : decode cX6_normalState 12 = .ok (.aload_n 0, 1) := by decide +kernel
theorem dX6_normalState_13 : decode cX6_normalState 13 = .ok (.iload_n 1, 1) := by decide +kernel
theorem dX6_normalState_14 : decode cX6_normalState 14 = .ok (.iconst 1, 1) := by decide +kernel
theorem dX6_normalState_15 : decode cX6_normalState 15 = .ok (.invokevirtual 31, 3) := by decide +kernel
theorem dX6_normalState_18 : decode cX6_normalState 18 = .ok (.invokevirtual 108, 3) := by decide +kernel
