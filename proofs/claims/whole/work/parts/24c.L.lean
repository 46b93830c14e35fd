set_option maxRecDepth 20000 in
theorem ggL_law_X5_failNode : GoodIn wsL_law wsX5_failNode := goodIn_r _ [399, 15, 116, 117, 118, 47, 119, 58, 271, 155, 2, 156, 272, 273, 274, 31, 275, 48, 276, 277, 278, 279, 96, 94, 97, 95, 98, 144, 145, 280, 281, 282, 283, 284, 285, 286, 287, 288, 289, 290, 291, 53, 50, 52, 292, 293, 294, 295, 296, 297, 298, 299, 49, 300, 301, 302, 303, 51, 304, 305, 306, 307, 100, 99, 308, 309, 310, 311, 312, 313, 314, 315, 316, 317, 318, 319, 320, 229, 230, 231, 321, 322, 323, 324, 325, 326, 327, 328, 329, 330, 331, 332, 54, 146, 708, 709, 710, 711, 716, 717, 718, 719, 727, 728, 729, 730, 731, 732, 733, 734, 735, 736, 737, 738, 739, 740, 741, 742] (by decide +kernel) (by decide +kernel)
set_option maxRecDepth 20000 in
theorem gL_law_X5_failNode : GoodIn wsL_law (wsV RL 55 RX5 yX5_failNode wsX5_failNode) := goodIn_app (goodIn_of _ (by decide +kernel)) ggL_law_X5_failNode
set_option maxRecDepth 20000 in
theorem ggL_law_X6_failNode : GoodIn wsL_law wsX6_failNode := goodIn_r _ [403, 161, 162, 163, 5, 164, 69, 105, 106, 107, 340, 341, 342, 343, 344, 345, 346, 347, 348, 349, 350, 351, 352, 353, 354, 355, 356, 357, 358, 359, 337, 338, 339, 360, 361, 362, 363, 364, 365, 366, 367, 368, 369, 370, 371, 372, 373, 374, 375, 376, 377, 378, 379, 380, 381, 382, 383, 384, 385, 386, 387, 712, 713, 714, 715] (by decide +kernel) (by decide +kernel)
set_option maxRecDepth 20000 in
theorem gL_law_X6_failNode : GoodIn wsL_law (wsV RL 58 RX6 yX6_failNode wsX6_failNode) := goodIn_app (goodIn_of _ (by decide +kernel)) ggL_law_X6_failNode
set_option maxRecDepth 20000 in
theorem ggL_law_X5_command : GoodIn wsL_law wsX5_command := goodIn_r _ [407, 15, 228, 229, 230, 47, 231, 58, 408, 409, 2, 410, 411, 412, 413, 31, 414, 48, 49, 320, 272, 273, 274, 275, 276, 277, 278, 279, 96, 94, 97, 95, 98, 144, 145, 280, 281, 282, 283, 284, 285, 286, 287, 288, 289, 290, 291, 53, 50, 52, 292, 293, 294, 295, 296, 297, 298, 299, 300, 301, 302, 303, 51, 304, 305, 306, 307, 100, 99, 308, 309, 310, 311, 312, 313, 314, 315, 316, 317, 318, 319, 321, 322, 323, 324, 325, 326, 327, 328, 329, 330, 331, 332, 54, 708, 709, 710, 711, 716, 717, 718, 719, 741, 742, 727, 728, 729, 730, 731, 732, 733, 734, 735, 736, 737, 738, 739, 740] (by decide +kernel) (by decide +kernel)
set_option maxRecDepth 20000 in
theorem gL_law_X5_command : GoodIn wsL_law (wsV RL 59 RX5 yX5_command wsX5_command) := goodIn_app (goodIn_of _ (by decide +kernel)) ggL_law_X5_command
set_option maxRecDepth 20000 in
theorem ggL_law_X6_command : GoodIn wsL_law wsX6_command := goodIn_r _ [418, 240, 241, 242, 5, 243, 69, 105, 106, 107, 419, 420, 421, 337, 338, 339, 344, 345, 346, 347, 348, 349, 350, 351, 352, 353, 354, 355, 356, 357, 358, 359, 360, 361, 362, 363, 364, 365, 366, 367, 368, 369, 370, 371, 372, 373, 374, 375, 376, 377, 378, 379, 380, 381, 382, 383, 384, 385, 386, 387, 712, 713, 714, 715] (by decide +kernel) (by decide +kernel)
set_option maxRecDepth 20000 in
theorem gL_law_X6_command : GoodIn wsL_law (wsV RL 62 RX6 yX6_command wsX6_command) := goodIn_app (goodIn_of _ (by decide +kernel)) ggL_law_X6_command
set_option maxRecDepth 20000 in
theorem ggL_law_X5_setRestoreTime : GoodIn wsL_law wsX5_setRestoreTime := goodIn_r _ [425, 15, 708, 709, 710, 711, 716, 717, 718, 719, 727, 728, 729, 730, 731, 732, 733, 734, 735, 736, 737, 738, 739, 740] (by decide +kernel) (by decide +kernel)
set_option maxRecDepth 20000 in
theorem gL_law_X5_setRestoreTime : GoodIn wsL_law (wsV RL 63 RX5 yX5_setRestoreTime wsX5_setRestoreTime) := goodIn_app (goodIn_of _ (by decide +kernel)) ggL_law_X5_setRestoreTime
set_option maxRecDepth 20000 in
theorem ggL_law_X6_setRestoreTime : GoodIn wsL_law wsX6_setRestoreTime := goodIn_r _ [429, 105, 106, 5, 107, 344, 345, 346, 347, 69, 712, 713, 714, 715] (by decide +kernel) (by decide +kernel)
set_option maxRecDepth 20000 in
theorem gL_law_X6_setRestoreTime : GoodIn wsL_law (wsV RL 66 RX6 yX6_setRestoreTime wsX6_setRestoreTime) := goodIn_app (goodIn_of _ (by decide +kernel)) ggL_law_X6_setRestoreTime
set_option maxRecDepth 20000 in
theorem ggL_law_X5_advance : GoodIn wsL_law wsX5_advance := goodIn_r _ [433, 15, 434, 435, 436, 14, 437, 82, 32, 438, 439, 440, 31, 441, 48, 50, 442, 273, 274, 275, 276, 277, 278, 279, 96, 94, 97, 95, 98, 144, 2, 145, 280, 281, 282, 47, 283, 58, 284, 285, 286, 287, 288, 289, 290, 291, 53, 52, 292, 293, 294, 295, 296, 297, 298, 299, 49, 300, 301, 302, 303, 51, 304, 305, 306, 307, 100, 99, 308, 309, 310, 311, 312, 313, 314, 315, 316, 317, 318, 319, 320, 229, 230, 231, 321, 322, 323, 324, 325, 326, 327, 328, 329, 330, 331, 332, 54, 708, 709, 710, 711, 716, 717, 718, 719, 727, 728, 729, 730, 731, 732, 733, 734, 735, 736, 737, 738, 739, 740, 741, 742] (by decide +kernel) (by decide +kernel)
set_option maxRecDepth 20000 in
theorem gL_law_X5_advance : GoodIn wsL_law (wsV RL 67 RX5 yX5_advance wsX5_advance) := goodIn_app (goodIn_of _ (by decide +kernel)) ggL_law_X5_advance
set_option maxRecDepth 20000 in
theorem ggL_law_X6_advance : GoodIn wsL_law wsX6_advance := goodIn_r _ [446, 69, 105, 106, 5, 107, 337, 338, 339, 356, 357, 358, 359, 348, 349, 350, 351, 352, 353, 354, 355, 360, 361, 362, 363, 364, 365, 366, 367, 368, 369, 370, 371, 372, 373, 374, 375, 376, 377, 378, 379, 380, 381, 382, 383, 384, 385, 386, 387, 712, 713, 714, 715] (by decide +kernel) (by decide +kernel)
set_option maxRecDepth 20000 in
theorem gL_law_X6_advance : GoodIn wsL_law (wsV RL 70 RX6 yX6_advance wsX6_advance) := goodIn_app (goodIn_of _ (by decide +kernel)) ggL_law_X6_advance
set_option maxRecDepth 20000 in
theorem ggL_law_X5_clock : GoodIn wsL_law wsX5_clock := goodIn_r _ [450, 15, 708, 709, 710, 711, 716, 717, 718, 719] (by decide +kernel) (by decide +kernel)
set_option maxRecDepth 20000 in
theorem gL_law_X5_clock : GoodIn wsL_law (wsV RL 71 RX5 yX5_clock wsX5_clock) := goodIn_app (goodIn_of _ (by decide +kernel)) ggL_law_X5_clock
set_option maxRecDepth 20000 in
theorem ggL_law_X6_clock : GoodIn wsL_law wsX6_clock := goodIn_r _ [454, 69, 712, 713, 714, 715] (by decide +kernel) (by decide +kernel)
set_option maxRecDepth 20000 in
theorem gL_law_X6_clock : GoodIn wsL_law (wsV RL 74 RX6 yX6_clock wsX6_clock) := goodIn_app (goodIn_of _ (by decide +kernel)) ggL_law_X6_clock
