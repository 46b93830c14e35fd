set_option maxRecDepth 20000 in
theorem ggL_law_X5_request : GoodIn wsL_law wsX5_request := goodIn_r _ [458, 15, 228, 229, 230, 47, 231, 58, 459, 317, 318, 31, 319, 48, 53, 50, 51, 320, 708, 709, 710, 711, 716, 717, 718, 719, 741, 742, 727, 728, 729, 730, 731, 732, 733, 734, 735, 736, 737, 738, 739, 740] (by decide +kernel) (by decide +kernel)
set_option maxRecDepth 20000 in
theorem gL_law_X5_request : GoodIn wsL_law (wsV RL 75 RX5 yX5_request wsX5_request) := goodIn_app (goodIn_of _ (by decide +kernel)) ggL_law_X5_request
set_option maxRecDepth 20000 in
theorem ggL_law_X6_request : GoodIn wsL_law wsX6_request := goodIn_r _ [463, 240, 241, 242, 5, 243, 69, 105, 106, 107, 372, 373, 374, 375, 360, 361, 362, 363, 364, 365, 366, 367, 356, 357, 358, 359, 337, 338, 339, 368, 369, 370, 371, 712, 713, 714, 715] (by decide +kernel) (by decide +kernel)
set_option maxRecDepth 20000 in
theorem gL_law_X6_request : GoodIn wsL_law (wsV RL 78 RX6 yX6_request wsX6_request) := goodIn_app (goodIn_of _ (by decide +kernel)) ggL_law_X6_request
set_option maxRecDepth 20000 in
theorem ggL_law_X5_switchOf : GoodIn wsL_law wsX5_switchOf := goodIn_r _ [467, 15, 228, 229, 230, 47, 231, 58, 468, 305, 306, 31, 307, 100, 99, 144, 2, 145, 708, 709, 710, 711, 716, 717, 718, 719, 741, 742, 727, 728, 729, 730, 731, 732, 733, 734, 735, 736, 737, 738, 739, 740] (by decide +kernel) (by decide +kernel)
set_option maxRecDepth 20000 in
theorem gL_law_X5_switchOf : GoodIn wsL_law (wsV RL 79 RX5 yX5_switchOf wsX5_switchOf) := goodIn_app (goodIn_of _ (by decide +kernel)) ggL_law_X5_switchOf
set_option maxRecDepth 20000 in
theorem ggL_law_X6_switchOf : GoodIn wsL_law wsX6_switchOf := goodIn_r _ [472, 240, 241, 242, 5, 243, 69, 105, 106, 107, 356, 357, 358, 359, 337, 338, 339, 712, 713, 714, 715] (by decide +kernel) (by decide +kernel)
set_option maxRecDepth 20000 in
theorem gL_law_X6_switchOf : GoodIn wsL_law (wsV RL 82 RX6 yX6_switchOf wsX6_switchOf) := goodIn_app (goodIn_of _ (by decide +kernel)) ggL_law_X6_switchOf
set_option maxRecDepth 20000 in
theorem ggL_law_X5_restoreTimer : GoodIn wsL_law wsX5_restoreTimer := goodIn_r _ [476, 15, 228, 229, 230, 47, 231, 58, 477, 478, 479, 31, 480, 48, 50, 320, 708, 709, 710, 711, 716, 717, 718, 719, 741, 742, 727, 728, 729, 730, 731, 732, 733, 734, 735, 736, 737, 738, 739, 740] (by decide +kernel) (by decide +kernel)
set_option maxRecDepth 20000 in
theorem gL_law_X5_restoreTimer : GoodIn wsL_law (wsV RL 83 RX5 yX5_restoreTimer wsX5_restoreTimer) := goodIn_app (goodIn_of _ (by decide +kernel)) ggL_law_X5_restoreTimer
set_option maxRecDepth 20000 in
theorem ggL_law_X6_restoreTimer : GoodIn wsL_law wsX6_restoreTimer := goodIn_r _ [484, 240, 241, 242, 5, 243, 69, 105, 106, 107, 356, 357, 358, 359, 337, 338, 339, 712, 713, 714, 715] (by decide +kernel) (by decide +kernel)
set_option maxRecDepth 20000 in
theorem gL_law_X6_restoreTimer : GoodIn wsL_law (wsV RL 86 RX6 yX6_restoreTimer wsX6_restoreTimer) := goodIn_app (goodIn_of _ (by decide +kernel)) ggL_law_X6_restoreTimer
set_option maxRecDepth 20000 in
theorem ggL_law_X5_segment : GoodIn wsL_law wsX5_segment := goodIn_r _ [488, 15, 116, 117, 118, 47, 119, 58, 489, 490, 491, 31, 492, 48, 54, 493, 708, 709, 710, 711, 716, 717, 718, 719, 741, 742, 727, 728, 729, 730, 731, 732, 733, 734, 735, 736, 737, 738, 739, 740] (by decide +kernel) (by decide +kernel)
set_option maxRecDepth 20000 in
theorem gL_law_X5_segment : GoodIn wsL_law (wsV RL 87 RX5 yX5_segment wsX5_segment) := goodIn_app (goodIn_of _ (by decide +kernel)) ggL_law_X5_segment
set_option maxRecDepth 20000 in
theorem ggL_law_X6_segment : GoodIn wsL_law wsX6_segment := goodIn_r _ [497, 161, 162, 163, 5, 164, 69, 105, 106, 107, 498, 499, 500, 501, 356, 357, 358, 359, 337, 338, 339, 368, 369, 370, 371, 712, 713, 714, 715] (by decide +kernel) (by decide +kernel)
set_option maxRecDepth 20000 in
theorem gL_law_X6_segment : GoodIn wsL_law (wsV RL 90 RX6 yX6_segment wsX6_segment) := goodIn_app (goodIn_of _ (by decide +kernel)) ggL_law_X6_segment
set_option maxRecDepth 20000 in
theorem ggL_law_X5_state : GoodIn wsL_law wsX5_state := goodIn_r _ [505, 15, 193, 125, 126, 27, 127, 40, 506, 507, 508, 14, 509, 28, 510, 141, 142, 143, 87, 144, 2, 145, 511, 512, 513, 514, 32, 515, 249, 250, 251, 124, 516, 517, 518, 519, 520, 521, 522, 523, 38, 524, 490, 491, 31, 492, 48, 54, 493, 117, 118, 47, 119, 58, 525, 526, 527, 528, 39, 529, 530, 531, 532, 533, 133, 134, 135, 708, 709, 710, 711, 716, 717, 718, 719, 722, 723, 724, 725, 726, 727, 728, 729, 730, 731, 732, 733, 734, 735, 736, 737, 738, 739, 740, 741, 742] (by decide +kernel) (by decide +kernel)
set_option maxRecDepth 20000 in
theorem gL_law_X5_state : GoodIn wsL_law (wsV RL 91 RX5 yX5_state wsX5_state) := goodIn_app (goodIn_of _ (by decide +kernel)) ggL_law_X5_state
set_option maxRecDepth 20000 in
theorem ggL_law_X6_state : GoodIn wsL_law wsX6_state := goodIn_r _ [537, 169, 170, 171, 5, 172, 105, 106, 107, 173, 174, 175, 176, 69, 538, 539, 540, 541, 542, 543, 544, 545, 384, 385, 386, 387, 356, 357, 358, 359, 337, 338, 339, 546, 547, 548, 549, 181, 182, 183, 184, 185, 186, 187, 188, 364, 365, 366, 367, 368, 369, 370, 371, 550, 551, 552, 553, 498, 499, 500, 501, 554, 555, 556, 557, 558, 559, 560, 561, 712, 713, 714, 715] (by decide +kernel) (by decide +kernel)
set_option maxRecDepth 20000 in
theorem gL_law_X6_state : GoodIn wsL_law (wsV RL 94 RX6 yX6_state wsX6_state) := goodIn_app (goodIn_of _ (by decide +kernel)) ggL_law_X6_state
