set_option maxRecDepth 20000 in
theorem ggL_law_X5_freeSlot : GoodIn wsL_law wsX5_freeSlot := goodIn_r _ [219, 15, 112, 113, 114, 2, 115, 116, 117, 118, 47, 119, 58, 128, 129, 130, 131, 132, 133, 134, 135, 136, 137, 138, 27, 139, 40, 41, 140, 141, 142, 143, 87, 144, 145, 146, 708, 709, 710, 711, 716, 717, 718, 719, 741, 742, 722, 723, 724, 725, 726] (by decide +kernel) (by decide +kernel)
set_option maxRecDepth 20000 in
theorem gL_law_X5_freeSlot : GoodIn wsL_law (wsV RL 33 RX5 yX5_freeSlot wsX5_freeSlot) := goodIn_app (goodIn_of _ (by decide +kernel)) ggL_law_X5_freeSlot
set_option maxRecDepth 20000 in
theorem ggL_law_X6_freeSlot : GoodIn wsL_law wsX6_freeSlot := goodIn_r _ [223, 69, 161, 162, 163, 5, 164, 105, 106, 107, 177, 178, 179, 180, 169, 170, 171, 172, 173, 174, 175, 176, 181, 182, 183, 184, 185, 186, 187, 188, 712, 713, 714, 715] (by decide +kernel) (by decide +kernel)
set_option maxRecDepth 20000 in
theorem gL_law_X6_freeSlot : GoodIn wsL_law (wsV RL 37 RX6 yX6_freeSlot wsX6_freeSlot) := goodIn_app (goodIn_of _ (by decide +kernel)) ggL_law_X6_freeSlot
set_option maxRecDepth 20000 in
theorem ggL_law_X5_circuitsOn : GoodIn wsL_law wsX5_circuitsOn := goodIn_r _ [227, 15, 228, 229, 230, 47, 231, 58, 232, 233, 234, 27, 235, 40, 708, 709, 710, 711, 716, 717, 718, 719, 741, 742, 722, 723, 724, 725, 726] (by decide +kernel) (by decide +kernel)
set_option maxRecDepth 20000 in
theorem gL_law_X5_circuitsOn : GoodIn wsL_law (wsV RL 38 RX5 yX5_circuitsOn wsX5_circuitsOn) := goodIn_app (goodIn_of _ (by decide +kernel)) ggL_law_X5_circuitsOn
set_option maxRecDepth 20000 in
theorem ggL_law_X6_circuitsOn : GoodIn wsL_law wsX6_circuitsOn := goodIn_r _ [239, 240, 241, 242, 5, 243, 69, 105, 106, 107, 169, 170, 171, 172, 173, 174, 175, 176, 181, 182, 183, 184, 185, 186, 187, 188, 712, 713, 714, 715] (by decide +kernel) (by decide +kernel)
set_option maxRecDepth 20000 in
theorem gL_law_X6_circuitsOn : GoodIn wsL_law (wsV RL 41 RX6 yX6_circuitsOn wsX6_circuitsOn) := goodIn_app (goodIn_of _ (by decide +kernel)) ggL_law_X6_circuitsOn
set_option maxRecDepth 20000 in
theorem ggL_law_X5_pathLength : GoodIn wsL_law wsX5_pathLength := goodIn_r _ [247, 15, 193, 125, 126, 27, 127, 40, 248, 249, 250, 251, 124, 252, 253, 254, 255, 256, 257, 258, 708, 709, 710, 711, 716, 717, 718, 719, 722, 723, 724, 725, 726] (by decide +kernel) (by decide +kernel)
set_option maxRecDepth 20000 in
theorem gL_law_X5_pathLength : GoodIn wsL_law (wsV RL 42 RX5 yX5_pathLength wsX5_pathLength) := goodIn_app (goodIn_of _ (by decide +kernel)) ggL_law_X5_pathLength
set_option maxRecDepth 20000 in
theorem ggL_law_X6_pathLength : GoodIn wsL_law wsX6_pathLength := goodIn_r _ [262, 169, 170, 171, 5, 172, 105, 106, 107, 173, 174, 175, 176, 69, 263, 264, 265, 266, 181, 182, 183, 184, 185, 186, 187, 188, 712, 713, 714, 715] (by decide +kernel) (by decide +kernel)
set_option maxRecDepth 20000 in
theorem gL_law_X6_pathLength : GoodIn wsL_law (wsV RL 45 RX6 yX6_pathLength wsX6_pathLength) := goodIn_app (goodIn_of _ (by decide +kernel)) ggL_law_X6_pathLength
set_option maxRecDepth 20000 in
theorem ggL_law_X5_failWorking : GoodIn wsL_law wsX5_failWorking := goodIn_r _ [270, 15, 228, 229, 230, 47, 231, 58, 271, 155, 2, 156, 272, 273, 274, 31, 275, 48, 276, 277, 278, 279, 96, 94, 97, 95, 98, 144, 145, 280, 281, 282, 283, 284, 285, 286, 287, 288, 289, 290, 291, 53, 50, 52, 292, 293, 294, 295, 296, 297, 298, 299, 49, 300, 301, 302, 303, 51, 304, 305, 306, 307, 100, 99, 308, 309, 310, 311, 312, 313, 314, 315, 316, 317, 318, 319, 320, 321, 322, 323, 324, 325, 326, 327, 328, 329, 330, 331, 332, 54, 146, 708, 709, 710, 711, 716, 717, 718, 719, 727, 728, 729, 730, 731, 732, 733, 734, 735, 736, 737, 738, 739, 740, 741, 742] (by decide +kernel) (by decide +kernel)
set_option maxRecDepth 20000 in
theorem gL_law_X5_failWorking : GoodIn wsL_law (wsV RL 46 RX5 yX5_failWorking wsX5_failWorking) := goodIn_app (goodIn_of _ (by decide +kernel)) ggL_law_X5_failWorking
set_option maxRecDepth 20000 in
theorem ggL_law_X6_failWorking : GoodIn wsL_law wsX6_failWorking := goodIn_r _ [336, 240, 241, 242, 5, 243, 69, 105, 106, 107, 337, 338, 339, 340, 341, 342, 343, 344, 345, 346, 347, 348, 349, 350, 351, 352, 353, 354, 355, 356, 357, 358, 359, 360, 361, 362, 363, 364, 365, 366, 367, 368, 369, 370, 371, 372, 373, 374, 375, 376, 377, 378, 379, 380, 381, 382, 383, 384, 385, 386, 387, 712, 713, 714, 715] (by decide +kernel) (by decide +kernel)
set_option maxRecDepth 20000 in
theorem gL_law_X6_failWorking : GoodIn wsL_law (wsV RL 50 RX6 yX6_failWorking wsX6_failWorking) := goodIn_app (goodIn_of _ (by decide +kernel)) ggL_law_X6_failWorking
set_option maxRecDepth 20000 in
theorem ggL_law_X5_failProtection : GoodIn wsL_law wsX5_failProtection := goodIn_r _ [391, 15, 228, 229, 230, 47, 231, 58, 271, 155, 2, 156, 272, 273, 274, 31, 275, 48, 276, 277, 278, 279, 96, 94, 97, 95, 98, 144, 145, 280, 281, 282, 283, 284, 285, 286, 287, 288, 289, 290, 291, 53, 50, 52, 292, 293, 294, 295, 296, 297, 298, 299, 49, 300, 301, 302, 303, 51, 304, 305, 306, 307, 100, 99, 308, 309, 310, 311, 312, 313, 314, 315, 316, 317, 318, 319, 320, 321, 322, 323, 324, 325, 326, 327, 328, 329, 330, 331, 332, 54, 146, 708, 709, 710, 711, 716, 717, 718, 719, 727, 728, 729, 730, 731, 732, 733, 734, 735, 736, 737, 738, 739, 740, 741, 742] (by decide +kernel) (by decide +kernel)
set_option maxRecDepth 20000 in
theorem gL_law_X5_failProtection : GoodIn wsL_law (wsV RL 51 RX5 yX5_failProtection wsX5_failProtection) := goodIn_app (goodIn_of _ (by decide +kernel)) ggL_law_X5_failProtection
set_option maxRecDepth 20000 in
theorem ggL_law_X6_failProtection : GoodIn wsL_law wsX6_failProtection := goodIn_r _ [395, 240, 241, 242, 5, 243, 69, 105, 106, 107, 337, 338, 339, 340, 341, 342, 343, 344, 345, 346, 347, 348, 349, 350, 351, 352, 353, 354, 355, 356, 357, 358, 359, 360, 361, 362, 363, 364, 365, 366, 367, 368, 369, 370, 371, 372, 373, 374, 375, 376, 377, 378, 379, 380, 381, 382, 383, 384, 385, 386, 387, 712, 713, 714, 715] (by decide +kernel) (by decide +kernel)
set_option maxRecDepth 20000 in
theorem gL_law_X6_failProtection : GoodIn wsL_law (wsV RL 54 RX6 yX6_failProtection wsX6_failProtection) := goodIn_app (goodIn_of _ (by decide +kernel)) ggL_law_X6_failProtection
