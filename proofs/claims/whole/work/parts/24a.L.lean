set_option maxRecDepth 20000 in
theorem ggL_law_X5_init : GoodIn wsL_law wsX5_init := goodIn_r _ [8, 9, 10, 11, 12, 13, 14, 15, 16, 17, 18, 19, 20, 21, 22, 23, 24, 25, 26, 27, 28, 29, 30, 31, 32, 33, 34, 35, 36, 37, 38, 39, 40, 41, 42, 43, 44, 45, 46, 47, 48, 49, 50, 51, 52, 53, 54, 55, 56, 57, 58, 59, 60, 61, 62, 63, 64, 716, 717, 718, 719, 708, 709, 710, 711, 720, 721, 722, 723, 724, 725, 726, 727, 728, 729, 730, 731, 732, 733, 734, 735, 736, 737, 738, 739, 740, 741, 742] (by decide +kernel) (by decide +kernel)
set_option maxRecDepth 20000 in
theorem gL_law_X5_init : GoodIn wsL_law (wsX5_init) := ggL_law_X5_init
set_option maxRecDepth 20000 in
theorem ggL_law_X6_init : GoodIn wsL_law wsX6_init := goodIn_r _ [67, 68, 10, 11, 37, 69, 70, 71, 72, 73, 712, 713, 714, 715] (by decide +kernel) (by decide +kernel)
set_option maxRecDepth 20000 in
theorem gL_law_X6_init : GoodIn wsL_law (wsX6_init) := ggL_law_X6_init
set_option maxRecDepth 20000 in
theorem ggL_law_X5_reset : GoodIn wsL_law wsX5_reset := goodIn_r _ [77, 15, 78, 79, 80, 14, 81, 28, 32, 82, 83, 84, 85, 27, 86, 40, 87, 88, 2, 89, 90, 91, 92, 31, 93, 48, 94, 95, 96, 97, 98, 99, 100, 49, 50, 53, 54, 708, 709, 710, 711, 716, 717, 718, 719, 741, 742, 722, 723, 724, 725, 726, 727, 728, 729, 730, 731, 732, 733, 734, 735, 736, 737, 738, 739, 740] (by decide +kernel) (by decide +kernel)
set_option maxRecDepth 20000 in
theorem gL_law_X5_reset : GoodIn wsL_law (wsV RL 13 RX5 yX5_reset wsX5_reset) := goodIn_app (goodIn_of _ (by decide +kernel)) ggL_law_X5_reset
set_option maxRecDepth 20000 in
theorem ggL_law_X6_reset : GoodIn wsL_law wsX6_reset := goodIn_r _ [104, 69, 105, 106, 5, 107, 712, 713, 714, 715] (by decide +kernel) (by decide +kernel)
set_option maxRecDepth 20000 in
theorem gL_law_X6_reset : GoodIn wsL_law (wsV RL 17 RX6 yX6_reset wsX6_reset) := goodIn_app (goodIn_of _ (by decide +kernel)) ggL_law_X6_reset
set_option maxRecDepth 20000 in
theorem ggL_law_X5_addCircuit : GoodIn wsL_law wsX5_addCircuit := goodIn_r _ [111, 15, 112, 113, 114, 2, 115, 116, 117, 118, 47, 119, 58, 120, 121, 122, 27, 123, 124, 125, 126, 127, 40, 128, 129, 130, 131, 132, 133, 134, 135, 136, 137, 138, 139, 41, 140, 141, 142, 143, 87, 144, 145, 146, 147, 148, 149, 150, 38, 39, 151, 152, 153, 154, 155, 156, 708, 709, 710, 711, 716, 717, 718, 719, 741, 742, 722, 723, 724, 725, 726] (by decide +kernel) (by decide +kernel)
set_option maxRecDepth 20000 in
theorem gL_law_X5_addCircuit : GoodIn wsL_law (wsV RL 18 RX5 yX5_addCircuit wsX5_addCircuit) := goodIn_app (goodIn_of _ (by decide +kernel)) ggL_law_X5_addCircuit
set_option maxRecDepth 20000 in
theorem ggL_law_X6_addCircuit : GoodIn wsL_law wsX6_addCircuit := goodIn_r _ [160, 69, 161, 162, 163, 5, 164, 105, 106, 107, 165, 166, 167, 168, 169, 170, 171, 172, 173, 174, 175, 176, 177, 178, 179, 180, 181, 182, 183, 184, 185, 186, 187, 188, 712, 713, 714, 715] (by decide +kernel) (by decide +kernel)
set_option maxRecDepth 20000 in
theorem gL_law_X6_addCircuit : GoodIn wsL_law (wsV RL 22 RX6 yX6_addCircuit wsX6_addCircuit) := goodIn_app (goodIn_of _ (by decide +kernel)) ggL_law_X6_addCircuit
set_option maxRecDepth 20000 in
theorem ggL_law_X5_removeCircuit : GoodIn wsL_law wsX5_removeCircuit := goodIn_r _ [192, 15, 193, 125, 126, 27, 127, 40, 194, 195, 196, 197, 198, 152, 153, 154, 41, 87, 155, 2, 156, 199, 200, 201, 202, 124, 708, 709, 710, 711, 716, 717, 718, 719, 722, 723, 724, 725, 726] (by decide +kernel) (by decide +kernel)
set_option maxRecDepth 20000 in
theorem gL_law_X5_removeCircuit : GoodIn wsL_law (wsV RL 23 RX5 yX5_removeCircuit wsX5_removeCircuit) := goodIn_app (goodIn_of _ (by decide +kernel)) ggL_law_X5_removeCircuit
set_option maxRecDepth 20000 in
theorem ggL_law_X6_removeCircuit : GoodIn wsL_law wsX6_removeCircuit := goodIn_r _ [206, 69, 169, 170, 171, 5, 172, 105, 106, 107, 173, 174, 175, 176, 207, 208, 209, 210, 712, 713, 714, 715] (by decide +kernel) (by decide +kernel)
set_option maxRecDepth 20000 in
theorem gL_law_X6_removeCircuit : GoodIn wsL_law (wsV RL 27 RX6 yX6_removeCircuit wsX6_removeCircuit) := goodIn_app (goodIn_of _ (by decide +kernel)) ggL_law_X6_removeCircuit
set_option maxRecDepth 20000 in
theorem ggL_law_X5_circuitCount : GoodIn wsL_law wsX5_circuitCount := goodIn_r _ [214, 15, 199, 200, 201, 27, 202, 124, 125, 126, 127, 40, 708, 709, 710, 711, 716, 717, 718, 719, 722, 723, 724, 725, 726] (by decide +kernel) (by decide +kernel)
set_option maxRecDepth 20000 in
theorem gL_law_X5_circuitCount : GoodIn wsL_law (wsV RL 28 RX5 yX5_circuitCount wsX5_circuitCount) := goodIn_app (goodIn_of _ (by decide +kernel)) ggL_law_X5_circuitCount
set_option maxRecDepth 20000 in
theorem ggL_law_X6_circuitCount : GoodIn wsL_law wsX6_circuitCount := goodIn_r _ [210, 173, 174, 175, 5, 176, 69, 712, 713, 714, 715] (by decide +kernel) (by decide +kernel)
set_option maxRecDepth 20000 in
theorem gL_law_X6_circuitCount : GoodIn wsL_law (wsV RL 32 RX6 yX6_circuitCount wsX6_circuitCount) := goodIn_app (goodIn_of _ (by decide +kernel)) ggL_law_X6_circuitCount
