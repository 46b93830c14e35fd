set_option maxRecDepth 20000 in
theorem ggL_law_X5_init : GoodIn wsL_law wsX5_init := goodIn_r _ [8, 9, 10, 11, 12, 13, 14, 15, 16, 17, 18, 19, 20, 21, 22, 23, 24, 25, 26, 27, 28, 29, 30, 31, 32, 33, 34, 35, 36, 37, 38, 39, 40, 41, 42, 43, 44, 45, 46, 47, 48, 49, 50, 51, 52, 53, 54, 55, 56, 57, 58, 59, 60, 61, 62, 63, 64, 716, 717, 718, 719, 708, 709, 710, 711, 720, 721, 722, 723, 724, 725, 726, 727, 728, 729, 730, 731, 732, 733, 734, 735, 736, 737, 738, 739, 740, 741, 742] (by decide +kernel) (by decide +kernel)
set_option maxRecDepth 20000 in
theorem gL_law_X5_init : GoodIn wsL_law (wsX5_init) := ggL_law_X5_init
set_option maxRecDepth 20000 in
theorem ggL_law_X6_init : GoodIn wsL_law wsX6_init := goodIn_r _ [67, 68, 10, 11, 37, 69, 70, 71, 72, 73, 712, 713, 714, 715] (by decide +kernel) (by decide +kernel)
set_option maxRecDepth 20000 in
theorem gL_law_X6_init : GoodIn wsL_law (wsX6_init) := ggL_law_X6_init
set_option maxRecDepth 20000 in
theorem ggL_law_X5_reset : GoodIn wsL_law wsX5_reset := goodIn_r _ [77, 15, 78, 79, 80, 14, 81, 28, 32, 82, 83, 84, 85, 27, 86, 40, 87, 88, 2, 89, 90, 91, 92, 31, 93, 48, 94, 95, 96, 97, 98, 99, 100, 49, 50, 53, 54, 708, 709, 710, 711, 716, 717, 718, 719, 741, 742, 722, 723, 724, 725, 726, 727, 728, 729, 730, 731, 732, 733, 734, 735, 736, 737, 738, 739, 740] (by decide +kernel) (by decide +kernel)
set_option maxRecDepth 20000 in
theorem gL_law_X5_reset : GoodIn wsL_law (wsV RL 13 RX5 yX5_reset wsX5_reset) := goodIn_app (goodIn_of _ (by decide +kernel)) ggL_law_X5_reset
set_option maxRecDepth 20000 in
theorem ggL_law_X6_reset : GoodIn wsL_law wsX6_reset := goodIn_r _ [104, 69, 105, 106, 5, 107, 712, 713, 714, 715] (by decide +kernel) (by decide +kernel)
set_option maxRecDepth 20000 in
theorem gL_law_X6_reset : GoodIn wsL_law (wsV RL 17 RX6 yX6_reset wsX6_reset) := goodIn_app (goodIn_of _ (by decide +kernel)) ggL_law_X6_reset
set_option maxRecDepth 20000 in
theorem ggL_law_X5_addCircuit : GoodIn wsL_law wsX5_addCircuit := goodIn_r _ [111, 15, 112, 113, 114, 2, 115, 116, 117, 118, 47, 119, 58, 120, 121, 122, 27, 123, 124, 125, 126, 127, 40, 128, 129, 130, 131, 132, 133, 134, 135, 136, 137, 138, 139, 41, 140, 141, 142, 143, 87, 144, 145, 146, 147, 148, 149, 150, 38, 39, 151, 152, 153, 154, 155, 156, 708, 709, 710, 711, 716, 717, 718, 719, 741, 742, 722, 723, 724, 725, 726] (by decide +kernel) (by decide +kernel)
set_option maxRecDepth 20000 in
theorem gL_law_X5_addCircuit : GoodIn wsL_law (wsV RL 18 RX5 yX5_addCircuit wsX5_addCircuit) := goodIn_app (goodIn_of _ (by decide +kernel)) ggL_law_X5_addCircuit
set_option maxRecDepth 20000 in
theorem ggL_law_X6_addCircuit : GoodIn wsL_law wsX6_addCircuit := goodIn_r _ [160, 69, 161, 162, 163, 5, 164, 105, 106, 107, 165, 166, 167, 168, 169, 170, 171, 172, 173, 174, 175, 176, 177, 178, 179, 180, 181, 182, 183, 184, 185, 186, 187, 188, 712, 713, 714, 715] (by decide +kernel) (by decide +kernel)
set_option maxRecDepth 20000 in
theorem gL_law_X6_addCircuit : GoodIn wsL_law (wsV RL 22 RX6 yX6_addCircuit wsX6_addCircuit) := goodIn_app (goodIn_of _ (by decide +kernel)) ggL_law_X6_addCircuit
set_option maxRecDepth 20000 in
theorem ggL_law_X5_removeCircuit : GoodIn wsL_law wsX5_removeCircuit := goodIn_r _ [192, 15, 193, 125, 126, 27, 127, 40, 194, 195, 196, 197, 198, 152, 153, 154, 41, 87, 155, 2, 156, 199, 200, 201, 202, 124, 708, 709, 710, 711, 716, 717, 718, 719, 722, 723, 724, 725, 726] (by decide +kernel) (by decide +kernel)
set_option maxRecDepth 20000 in
theorem gL_law_X5_removeCircuit : GoodIn wsL_law (wsV RL 23 RX5 yX5_removeCircuit wsX5_removeCircuit) := goodIn_app (goodIn_of _ (by decide +kernel)) ggL_law_X5_removeCircuit
set_option maxRecDepth 20000 in
theorem ggL_law_X6_removeCircuit : GoodIn wsL_law wsX6_removeCircuit := goodIn_r _ [206, 69, 169, 170, 171, 5, 172, 105, 106, 107, 173, 174, 175, 176, 207, 208, 209, 210, 712, 713, 714, 715] (by decide +kernel) (by decide +kernel)
set_option maxRecDepth 20000 in
theorem gL_law_X6_removeCircuit : GoodIn wsL_law (wsV RL 27 RX6 yX6_removeCircuit wsX6_removeCircuit) := goodIn_app (goodIn_of _ (by decide +kernel)) ggL_law_X6_removeCircuit
set_option maxRecDepth 20000 in
theorem ggL_law_X5_circuitCount : GoodIn wsL_law wsX5_circuitCount := goodIn_r _ [214, 15, 199, 200, 201, 27, 202, 124, 125, 126, 127, 40, 708, 709, 710, 711, 716, 717, 718, 719, 722, 723, 724, 725, 726] (by decide +kernel) (by decide +kernel)
set_option maxRecDepth 20000 in
theorem gL_law_X5_circuitCount : GoodIn wsL_law (wsV RL 28 RX5 yX5_circuitCount wsX5_circuitCount) := goodIn_app (goodIn_of _ (by decide +kernel)) ggL_law_X5_circuitCount
set_option maxRecDepth 20000 in
theorem ggL_law_X6_circuitCount : GoodIn wsL_law wsX6_circuitCount := goodIn_r _ [210, 173, 174, 175, 5, 176, 69, 712, 713, 714, 715] (by decide +kernel) (by decide +kernel)
set_option maxRecDepth 20000 in
theorem gL_law_X6_circuitCount : GoodIn wsL_law (wsV RL 32 RX6 yX6_circuitCount wsX6_circuitCount) := goodIn_app (goodIn_of _ (by decide +kernel)) ggL_law_X6_circuitCount
set_option maxRecDepth 20000 in
theorem ggL_law_X5_freeSlot : GoodIn wsL_law wsX5_freeSlot := goodIn_r _ [219, 15, 112, 113, 114, 2, 115, 116, 117, 118, 47, 119, 58, 128, 129, 130, 131, 132, 133, 134, 135, 136, 137, 138, 27, 139, 40, 41, 140, 141, 142, 143, 87, 144, 145, 146, 708, 709, 710, 711, 716, 717, 718, 719, 741, 742, 722, 723, 724, 725, 726] (by decide +kernel) (by decide +kernel)
set_option maxRecDepth 20000 in
theorem gL_law_X5_freeSlot : GoodIn wsL_law (wsV RL 33 RX5 yX5_freeSlot wsX5_freeSlot) := goodIn_app (goodIn_of _ (by decide +kernel)) ggL_law_X5_freeSlot
set_option maxRecDepth 20000 in
theorem ggL_law_X6_freeSlot : GoodIn wsL_law wsX6_freeSlot := goodIn_r _ [223, 69, 161, 162, 163, 5, 164, 105, 106, 107, 177, 178, 179, 180, 169, 170, 171, 172, 173, 174, 175, 176, 181, 182, 183, 184, 185, 186, 187, 188, 712, 713, 714, 715] (by decide +kernel) (by decide +kernel)
set_option maxRecDepth 20000 in
theorem gL_law_X6_freeSlot : GoodIn wsL_law (wsV RL 37 RX6 yX6_freeSlot wsX6_freeSlot) := goodIn_app (goodIn_of _ (by decide +kernel)) ggL_law_X6_freeSlot
set_option maxRecDepth 20000 in
theorem ggL_law_X5_circuitsOn : GoodIn wsL_law wsX5_circuitsOn := goodIn_r _ [227, 15, 228, 229, 230, 47, 231, 58, 232, 233, 234, 27, 235, 40, 708, 709, 710, 711, 716, 717, 718, 719, 741, 742, 722, 723, 724, 725, 726] (by decide +kernel) (by decide +kernel)
set_option maxRecDepth 20000 in
theorem gL_law_X5_circuitsOn : GoodIn wsL_law (wsV RL 38 RX5 yX5_circuitsOn wsX5_circuitsOn) := goodIn_app (goodIn_of _ (by decide +kernel)) ggL_law_X5_circuitsOn
set_option maxRecDepth 20000 in
theorem ggL_law_X6_circuitsOn : GoodIn wsL_law wsX6_circuitsOn := goodIn_r _ [239, 240, 241, 242, 5, 243, 69, 105, 106, 107, 169, 170, 171, 172, 173, 174, 175, 176, 181, 182, 183, 184, 185, 186, 187, 188, 712, 713, 714, 715] (by decide +kernel) (by decide +kernel)
set_option maxRecDepth 20000 in
theorem gL_law_X6_circuitsOn : GoodIn wsL_law (wsV RL 41 RX6 yX6_circuitsOn wsX6_circuitsOn) := goodIn_app (goodIn_of _ (by decide +kernel)) ggL_law_X6_circuitsOn
set_option maxRecDepth 20000 in
theorem ggL_law_X5_pathLength : GoodIn wsL_law wsX5_pathLength := goodIn_r _ [247, 15, 193, 125, 126, 27, 127, 40, 248, 249, 250, 251, 124, 252, 253, 254, 255, 256, 257, 258, 708, 709, 710, 711, 716, 717, 718, 719, 722, 723, 724, 725, 726] (by decide +kernel) (by decide +kernel)
set_option maxRecDepth 20000 in
theorem gL_law_X5_pathLength : GoodIn wsL_law (wsV RL 42 RX5 yX5_pathLength wsX5_pathLength) := goodIn_app (goodIn_of _ (by decide +kernel)) ggL_law_X5_pathLength
set_option maxRecDepth 20000 in
theorem ggL_law_X6_pathLength : GoodIn wsL_law wsX6_pathLength := goodIn_r _ [262, 169, 170, 171, 5, 172, 105, 106, 107, 173, 174, 175, 176, 69, 263, 264, 265, 266, 181, 182, 183, 184, 185, 186, 187, 188, 712, 713, 714, 715] (by decide +kernel) (by decide +kernel)
set_option maxRecDepth 20000 in
theorem gL_law_X6_pathLength : GoodIn wsL_law (wsV RL 45 RX6 yX6_pathLength wsX6_pathLength) := goodIn_app (goodIn_of _ (by decide +kernel)) ggL_law_X6_pathLength
set_option maxRecDepth 20000 in
theorem ggL_law_X5_failWorking : GoodIn wsL_law wsX5_failWorking := goodIn_r _ [270, 15, 228, 229, 230, 47, 231, 58, 271, 155, 2, 156, 272, 273, 274, 31, 275, 48, 276, 277, 278, 279, 96, 94, 97, 95, 98, 144, 145, 280, 281, 282, 283, 284, 285, 286, 287, 288, 289, 290, 291, 53, 50, 52, 292, 293, 294, 295, 296, 297, 298, 299, 49, 300, 301, 302, 303, 51, 304, 305, 306, 307, 100, 99, 308, 309, 310, 311, 312, 313, 314, 315, 316, 317, 318, 319, 320, 321, 322, 323, 324, 325, 326, 327, 328, 329, 330, 331, 332, 54, 146, 708, 709, 710, 711, 716, 717, 718, 719, 727, 728, 729, 730, 731, 732, 733, 734, 735, 736, 737, 738, 739, 740, 741, 742] (by decide +kernel) (by decide +kernel)
set_option maxRecDepth 20000 in
theorem gL_law_X5_failWorking : GoodIn wsL_law (wsV RL 46 RX5 yX5_failWorking wsX5_failWorking) := goodIn_app (goodIn_of _ (by decide +kernel)) ggL_law_X5_failWorking
set_option maxRecDepth 20000 in
theorem ggL_law_X6_failWorking : GoodIn wsL_law wsX6_failWorking := goodIn_r _ [336, 240, 241, 242, 5, 243, 69, 105, 106, 107, 337, 338, 339, 340, 341, 342, 343, 344, 345, 346, 347, 348, 349, 350, 351, 352, 353, 354, 355, 356, 357, 358, 359, 360, 361, 362, 363, 364, 365, 366, 367, 368, 369, 370, 371, 372, 373, 374, 375, 376, 377, 378, 379, 380, 381, 382, 383, 384, 385, 386, 387, 712, 713, 714, 715] (by decide +kernel) (by decide +kernel)
set_option maxRecDepth 20000 in
theorem gL_law_X6_failWorking : GoodIn wsL_law (wsV RL 50 RX6 yX6_failWorking wsX6_failWorking) := goodIn_app (goodIn_of _ (by decide +kernel)) ggL_law_X6_failWorking
set_option maxRecDepth 20000 in
theorem ggL_law_X5_failProtection : GoodIn wsL_law wsX5_failProtection := goodIn_r _ [391, 15, 228, 229, 230, 47, 231, 58, 271, 155, 2, 156, 272, 273, 274, 31, 275, 48, 276, 277, 278, 279, 96, 94, 97, 95, 98, 144, 145, 280, 281, 282, 283, 284, 285, 286, 287, 288, 289, 290, 291, 53, 50, 52, 292, 293, 294, 295, 296, 297, 298, 299, 49, 300, 301, 302, 303, 51, 304, 305, 306, 307, 100, 99, 308, 309, 310, 311, 312, 313, 314, 315, 316, 317, 318, 319, 320, 321, 322, 323, 324, 325, 326, 327, 328, 329, 330, 331, 332, 54, 146, 708, 709, 710, 711, 716, 717, 718, 719, 727, 728, 729, 730, 731, 732, 733, 734, 735, 736, 737, 738, 739, 740, 741, 742] (by decide +kernel) (by decide +kernel)
set_option maxRecDepth 20000 in
theorem gL_law_X5_failProtection : GoodIn wsL_law (wsV RL 51 RX5 yX5_failProtection wsX5_failProtection) := goodIn_app (goodIn_of _ (by decide +kernel)) ggL_law_X5_failProtection
set_option maxRecDepth 20000 in
theorem ggL_law_X6_failProtection : GoodIn wsL_law wsX6_failProtection := goodIn_r _ [395, 240, 241, 242, 5, 243, 69, 105, 106, 107, 337, 338, 339, 340, 341, 342, 343, 344, 345, 346, 347, 348, 349, 350, 351, 352, 353, 354, 355, 356, 357, 358, 359, 360, 361, 362, 363, 364, 365, 366, 367, 368, 369, 370, 371, 372, 373, 374, 375, 376, 377, 378, 379, 380, 381, 382, 383, 384, 385, 386, 387, 712, 713, 714, 715] (by decide +kernel) (by decide +kernel)
set_option maxRecDepth 20000 in
theorem gL_law_X6_failProtection : GoodIn wsL_law (wsV RL 54 RX6 yX6_failProtection wsX6_failProtection) := goodIn_app (goodIn_of _ (by decide +kernel)) ggL_law_X6_failProtection
set_option maxRecDepth 20000 in
theorem ggL_law_X5_failNode : GoodIn wsL_law wsX5_failNode := goodIn_r _ [399, 15, 116, 117, 118, 47, 119, 58, 271, 155, 2, 156, 272, 273, 274, 31, 275, 48, 276, 277, 278, 279, 96, 94, 97, 95, 98, 144, 145, 280, 281, 282, 283, 284, 285, 286, 287, 288, 289, 290, 291, 53, 50, 52, 292, 293, 294, 295, 296, 297, 298, 299, 49, 300, 301, 302, 303, 51, 304, 305, 306, 307, 100, 99, 308, 309, 310, 311, 312, 313, 314, 315, 316, 317, 318, 319, 320, 229, 230, 231, 321, 322, 323, 324, 325, 326, 327, 328, 329, 330, 331, 332, 54, 146, 708, 709, 710, 711, 716, 717, 718, 719, 727, 728, 729, 730, 731, 732, 733, 734, 735, 736, 737, 738, 739, 740, 741, 742] (by decide +kernel) (by decide +kernel)
set_option maxRecDepth 20000 in
theorem gL_law_X5_failNode : GoodIn wsL_law (wsV RL 55 RX5 yX5_failNode wsX5_failNode) := goodIn_app (goodIn_of _ (by decide +kernel)) ggL_law_X5_failNode
set_option maxRecDepth 20000 in
theorem ggL_law_X6_failNode : GoodIn wsL_law wsX6_failNode := goodIn_r _ [403, 161, 162, 163, 5, 164, 69, 105, 106, 107, 340, 341, 342, 343, 344, 345, 346, 347, 348, 349, 350, 351, 352, 353, 354, 355, 356, 357, 358, 359, 337, 338, 339, 360, 361, 362, 363, 364, 365, 366, 367, 368, 369, 370, 371, 372, 373, 374, 375, 376, 377, 378, 379, 380, 381, 382, 383, 384, 385, 386, 387, 712, 713, 714, 715] (by decide +kernel) (by decide +kernel)
set_option maxRecDepth 20000 in
theorem gL_law_X6_failNode : GoodIn wsL_law (wsV RL 58 RX6 yX6_failNode wsX6_failNode) := goodIn_app (goodIn_of _ (by decide +kernel)) ggL_law_X6_failNode
set_option maxRecDepth 20000 in
theorem ggL_law_X5_command : GoodIn wsL_law wsX5_command := goodIn_r _ [407, 15, 228, 229, 230, 47, 231, 58, 408, 409, 2, 410, 411, 412, 413, 31, 414, 48, 49, 320, 272, 273, 274, 275, 276, 277, 278, 279, 96, 94, 97, 95, 98, 144, 145, 280, 281, 282, 283, 284, 285, 286, 287, 288, 289, 290, 291, 53, 50, 52, 292, 293, 294, 295, 296, 297, 298, 299, 300, 301, 302, 303, 51, 304, 305, 306, 307, 100, 99, 308, 309, 310, 311, 312, 313, 314, 315, 316, 317, 318, 319, 321, 322, 323, 324, 325, 326, 327, 328, 329, 330, 331, 332, 54, 708, 709, 710, 711, 716, 717, 718, 719, 741, 742, 727, 728, 729, 730, 731, 732, 733, 734, 735, 736, 737, 738, 739, 740] (by decide +kernel) (by decide +kernel)
set_option maxRecDepth 20000 in
theorem gL_law_X5_command : GoodIn wsL_law (wsV RL 59 RX5 yX5_command wsX5_command) := goodIn_app (goodIn_of _ (by decide +kernel)) ggL_law_X5_command
set_option maxRecDepth 20000 in
theorem ggL_law_X6_command : GoodIn wsL_law wsX6_command := goodIn_r _ [418, 240, 241, 242, 5, 243, 69, 105, 106, 107, 419, 420, 421, 337, 338, 339, 344, 345, 346, 347, 348, 349, 350, 351, 352, 353, 354, 355, 356, 357, 358, 359, 360, 361, 362, 363, 364, 365, 366, 367, 368, 369, 370, 371, 372, 373, 374, 375, 376, 377, 378, 379, 380, 381, 382, 383, 384, 385, 386, 387, 712, 713, 714, 715] (by decide +kernel) (by decide +kernel)
set_option maxRecDepth 20000 in
theorem gL_law_X6_command : GoodIn wsL_law (wsV RL 62 RX6 yX6_command wsX6_command) := goodIn_app (goodIn_of _ (by decide +kernel)) ggL_law_X6_command
set_option maxRecDepth 20000 in
theorem ggL_law_X5_setRestoreTime : GoodIn wsL_law wsX5_setRestoreTime := goodIn_r _ [425, 15, 708, 709, 710, 711, 716, 717, 718, 719, 727, 728, 729, 730, 731, 732, 733, 734, 735, 736, 737, 738, 739, 740] (by decide +kernel) (by decide +kernel)
set_option maxRecDepth 20000 in
theorem gL_law_X5_setRestoreTime : GoodIn wsL_law (wsV RL 63 RX5 yX5_setRestoreTime wsX5_setRestoreTime) := goodIn_app (goodIn_of _ (by decide +kernel)) ggL_law_X5_setRestoreTime
set_option maxRecDepth 20000 in
theorem ggL_law_X6_setRestoreTime : GoodIn wsL_law wsX6_setRestoreTime := goodIn_r _ [429, 105, 106, 5, 107, 344, 345, 346, 347, 69, 712, 713, 714, 715] (by decide +kernel) (by decide +kernel)
set_option maxRecDepth 20000 in
theorem gL_law_X6_setRestoreTime : GoodIn wsL_law (wsV RL 66 RX6 yX6_setRestoreTime wsX6_setRestoreTime) := goodIn_app (goodIn_of _ (by decide +kernel)) ggL_law_X6_setRestoreTime
set_option maxRecDepth 20000 in
theorem ggL_law_X5_advance : GoodIn wsL_law wsX5_advance := goodIn_r _ [433, 15, 434, 435, 436, 14, 437, 82, 32, 438, 439, 440, 31, 441, 48, 50, 442, 273, 274, 275, 276, 277, 278, 279, 96, 94, 97, 95, 98, 144, 2, 145, 280, 281, 282, 47, 283, 58, 284, 285, 286, 287, 288, 289, 290, 291, 53, 52, 292, 293, 294, 295, 296, 297, 298, 299, 49, 300, 301, 302, 303, 51, 304, 305, 306, 307, 100, 99, 308, 309, 310, 311, 312, 313, 314, 315, 316, 317, 318, 319, 320, 229, 230, 231, 321, 322, 323, 324, 325, 326, 327, 328, 329, 330, 331, 332, 54, 708, 709, 710, 711, 716, 717, 718, 719, 727, 728, 729, 730, 731, 732, 733, 734, 735, 736, 737, 738, 739, 740, 741, 742] (by decide +kernel) (by decide +kernel)
set_option maxRecDepth 20000 in
theorem gL_law_X5_advance : GoodIn wsL_law (wsV RL 67 RX5 yX5_advance wsX5_advance) := goodIn_app (goodIn_of _ (by decide +kernel)) ggL_law_X5_advance
set_option maxRecDepth 20000 in
theorem ggL_law_X6_advance : GoodIn wsL_law wsX6_advance := goodIn_r _ [446, 69, 105, 106, 5, 107, 337, 338, 339, 356, 357, 358, 359, 348, 349, 350, 351, 352, 353, 354, 355, 360, 361, 362, 363, 364, 365, 366, 367, 368, 369, 370, 371, 372, 373, 374, 375, 376, 377, 378, 379, 380, 381, 382, 383, 384, 385, 386, 387, 712, 713, 714, 715] (by decide +kernel) (by decide +kernel)
set_option maxRecDepth 20000 in
theorem gL_law_X6_advance : GoodIn wsL_law (wsV RL 70 RX6 yX6_advance wsX6_advance) := goodIn_app (goodIn_of _ (by decide +kernel)) ggL_law_X6_advance
set_option maxRecDepth 20000 in
theorem ggL_law_X5_clock : GoodIn wsL_law wsX5_clock := goodIn_r _ [450, 15, 708, 709, 710, 711, 716, 717, 718, 719] (by decide +kernel) (by decide +kernel)
set_option maxRecDepth 20000 in
theorem gL_law_X5_clock : GoodIn wsL_law (wsV RL 71 RX5 yX5_clock wsX5_clock) := goodIn_app (goodIn_of _ (by decide +kernel)) ggL_law_X5_clock
set_option maxRecDepth 20000 in
theorem ggL_law_X6_clock : GoodIn wsL_law wsX6_clock := goodIn_r _ [454, 69, 712, 713, 714, 715] (by decide +kernel) (by decide +kernel)
set_option maxRecDepth 20000 in
theorem gL_law_X6_clock : GoodIn wsL_law (wsV RL 74 RX6 yX6_clock wsX6_clock) := goodIn_app (goodIn_of _ (by decide +kernel)) ggL_law_X6_clock
set_option maxRecDepth 20000 in
theorem ggL_law_X5_request : GoodIn wsL_law wsX5_request := goodIn_r _ [458, 15, 228, 229, 230, 47, 231, 58, 459, 317, 318, 31, 319, 48, 53, 50, 51, 320, 708, 709, 710, 711, 716, 717, 718, 719, 741, 742, 727, 728, 729, 730, 731, 732, 733, 734, 735, 736, 737, 738, 739, 740] (by decide +kernel) (by decide +kernel)
set_option maxRecDepth 20000 in
theorem gL_law_X5_request : GoodIn wsL_law (wsV RL 75 RX5 yX5_request wsX5_request) := goodIn_app (goodIn_of _ (by decide +kernel)) ggL_law_X5_request
set_option maxRecDepth 20000 in
theorem ggL_law_X6_request : GoodIn wsL_law wsX6_request := goodIn_r _ [463, 240, 241, 242, 5, 243, 69, 105, 106, 107, 372, 373, 374, 375, 360, 361, 362, 363, 364, 365, 366, 367, 356, 357, 358, 359, 337, 338, 339, 368, 369, 370, 371, 712, 713, 714, 715] (by decide +kernel) (by decide +kernel)
set_option maxRecDepth 20000 in
theorem gL_law_X6_request : GoodIn wsL_law (wsV RL 78 RX6 yX6_request wsX6_request) := goodIn_app (goodIn_of _ (by decide +kernel)) ggL_law_X6_request
set_option maxRecDepth 20000 in
theorem ggL_law_X5_switchOf : GoodIn wsL_law wsX5_switchOf := goodIn_r _ [467, 15, 228, 229, 230, 47, 231, 58, 468, 305, 306, 31, 307, 100, 99, 144, 2, 145, 708, 709, 710, 711, 716, 717, 718, 719, 741, 742, 727, 728, 729, 730, 731, 732, 733, 734, 735, 736, 737, 738, 739, 740] (by decide +kernel) (by decide +kernel)
set_option maxRecDepth 20000 in
theorem gL_law_X5_switchOf : GoodIn wsL_law (wsV RL 79 RX5 yX5_switchOf wsX5_switchOf) := goodIn_app (goodIn_of _ (by decide +kernel)) ggL_law_X5_switchOf
set_option maxRecDepth 20000 in
theorem ggL_law_X6_switchOf : GoodIn wsL_law wsX6_switchOf := goodIn_r _ [472, 240, 241, 242, 5, 243, 69, 105, 106, 107, 356, 357, 358, 359, 337, 338, 339, 712, 713, 714, 715] (by decide +kernel) (by decide +kernel)
set_option maxRecDepth 20000 in
theorem gL_law_X6_switchOf : GoodIn wsL_law (wsV RL 82 RX6 yX6_switchOf wsX6_switchOf) := goodIn_app (goodIn_of _ (by decide +kernel)) ggL_law_X6_switchOf
set_option maxRecDepth 20000 in
theorem ggL_law_X5_restoreTimer : GoodIn wsL_law wsX5_restoreTimer := goodIn_r _ [476, 15, 228, 229, 230, 47, 231, 58, 477, 478, 479, 31, 480, 48, 50, 320, 708, 709, 710, 711, 716, 717, 718, 719, 741, 742, 727, 728, 729, 730, 731, 732, 733, 734, 735, 736, 737, 738, 739, 740] (by decide +kernel) (by decide +kernel)
set_option maxRecDepth 20000 in
theorem gL_law_X5_restoreTimer : GoodIn wsL_law (wsV RL 83 RX5 yX5_restoreTimer wsX5_restoreTimer) := goodIn_app (goodIn_of _ (by decide +kernel)) ggL_law_X5_restoreTimer
set_option maxRecDepth 20000 in
theorem ggL_law_X6_restoreTimer : GoodIn wsL_law wsX6_restoreTimer := goodIn_r _ [484, 240, 241, 242, 5, 243, 69, 105, 106, 107, 356, 357, 358, 359, 337, 338, 339, 712, 713, 714, 715] (by decide +kernel) (by decide +kernel)
set_option maxRecDepth 20000 in
theorem gL_law_X6_restoreTimer : GoodIn wsL_law (wsV RL 86 RX6 yX6_restoreTimer wsX6_restoreTimer) := goodIn_app (goodIn_of _ (by decide +kernel)) ggL_law_X6_restoreTimer
set_option maxRecDepth 20000 in
theorem ggL_law_X5_segment : GoodIn wsL_law wsX5_segment := goodIn_r _ [488, 15, 116, 117, 118, 47, 119, 58, 489, 490, 491, 31, 492, 48, 54, 493, 708, 709, 710, 711, 716, 717, 718, 719, 741, 742, 727, 728, 729, 730, 731, 732, 733, 734, 735, 736, 737, 738, 739, 740] (by decide +kernel) (by decide +kernel)
set_option maxRecDepth 20000 in
theorem gL_law_X5_segment : GoodIn wsL_law (wsV RL 87 RX5 yX5_segment wsX5_segment) := goodIn_app (goodIn_of _ (by decide +kernel)) ggL_law_X5_segment
set_option maxRecDepth 20000 in
theorem ggL_law_X6_segment : GoodIn wsL_law wsX6_segment := goodIn_r _ [497, 161, 162, 163, 5, 164, 69, 105, 106, 107, 498, 499, 500, 501, 356, 357, 358, 359, 337, 338, 339, 368, 369, 370, 371, 712, 713, 714, 715] (by decide +kernel) (by decide +kernel)
set_option maxRecDepth 20000 in
theorem gL_law_X6_segment : GoodIn wsL_law (wsV RL 90 RX6 yX6_segment wsX6_segment) := goodIn_app (goodIn_of _ (by decide +kernel)) ggL_law_X6_segment
set_option maxRecDepth 20000 in
theorem ggL_law_X5_state : GoodIn wsL_law wsX5_state := goodIn_r _ [505, 15, 193, 125, 126, 27, 127, 40, 506, 507, 508, 14, 509, 28, 510, 141, 142, 143, 87, 144, 2, 145, 511, 512, 513, 514, 32, 515, 249, 250, 251, 124, 516, 517, 518, 519, 520, 521, 522, 523, 38, 524, 490, 491, 31, 492, 48, 54, 493, 117, 118, 47, 119, 58, 525, 526, 527, 528, 39, 529, 530, 531, 532, 533, 133, 134, 135, 708, 709, 710, 711, 716, 717, 718, 719, 722, 723, 724, 725, 726, 727, 728, 729, 730, 731, 732, 733, 734, 735, 736, 737, 738, 739, 740, 741, 742] (by decide +kernel) (by decide +kernel)
set_option maxRecDepth 20000 in
theorem gL_law_X5_state : GoodIn wsL_law (wsV RL 91 RX5 yX5_state wsX5_state) := goodIn_app (goodIn_of _ (by decide +kernel)) ggL_law_X5_state
set_option maxRecDepth 20000 in
theorem ggL_law_X6_state : GoodIn wsL_law wsX6_state := goodIn_r _ [537, 169, 170, 171, 5, 172, 105, 106, 107, 173, 174, 175, 176, 69, 538, 539, 540, 541, 542, 543, 544, 545, 384, 385, 386, 387, 356, 357, 358, 359, 337, 338, 339, 546, 547, 548, 549, 181, 182, 183, 184, 185, 186, 187, 188, 364, 365, 366, 367, 368, 369, 370, 371, 550, 551, 552, 553, 498, 499, 500, 501, 554, 555, 556, 557, 558, 559, 560, 561, 712, 713, 714, 715] (by decide +kernel) (by decide +kernel)
set_option maxRecDepth 20000 in
theorem gL_law_X6_state : GoodIn wsL_law (wsV RL 94 RX6 yX6_state wsX6_state) := goodIn_app (goodIn_of _ (by decide +kernel)) ggL_law_X6_state
set_option maxRecDepth 20000 in
theorem ggL_law_X5_circuitsIn : GoodIn wsL_law wsX5_circuitsIn := goodIn_r _ [565, 15, 566, 567, 568, 14, 569, 28, 570, 125, 126, 27, 127, 40, 571, 507, 508, 509, 510, 141, 142, 143, 87, 144, 2, 145, 511, 512, 513, 514, 32, 515, 249, 250, 251, 124, 516, 517, 518, 519, 520, 521, 522, 523, 38, 524, 490, 491, 31, 492, 48, 54, 493, 117, 118, 47, 119, 58, 525, 526, 527, 528, 39, 529, 530, 531, 532, 533, 133, 134, 135, 708, 709, 710, 711, 716, 717, 718, 719, 722, 723, 724, 725, 726, 727, 728, 729, 730, 731, 732, 733, 734, 735, 736, 737, 738, 739, 740, 741, 742] (by decide +kernel) (by decide +kernel)
set_option maxRecDepth 20000 in
theorem gL_law_X5_circuitsIn : GoodIn wsL_law (wsV RL 95 RX5 yX5_circuitsIn wsX5_circuitsIn) := goodIn_app (goodIn_of _ (by decide +kernel)) ggL_law_X5_circuitsIn
set_option maxRecDepth 20000 in
theorem ggL_law_X6_circuitsIn : GoodIn wsL_law wsX6_circuitsIn := goodIn_r _ [575, 105, 106, 5, 107, 169, 170, 171, 172, 173, 174, 175, 176, 69, 538, 539, 540, 541, 542, 543, 544, 545, 384, 385, 386, 387, 356, 357, 358, 359, 337, 338, 339, 546, 547, 548, 549, 181, 182, 183, 184, 185, 186, 187, 188, 364, 365, 366, 367, 368, 369, 370, 371, 550, 551, 552, 553, 498, 499, 500, 501, 554, 555, 556, 557, 558, 559, 560, 561, 712, 713, 714, 715] (by decide +kernel) (by decide +kernel)
set_option maxRecDepth 20000 in
theorem gL_law_X6_circuitsIn : GoodIn wsL_law (wsV RL 98 RX6 yX6_circuitsIn wsX6_circuitsIn) := goodIn_app (goodIn_of _ (by decide +kernel)) ggL_law_X6_circuitsIn
set_option maxRecDepth 20000 in
theorem ggL_law_X5_deliveredCount : GoodIn wsL_law wsX5_deliveredCount := goodIn_r _ [579, 15, 580, 581, 582, 14, 583, 28, 570, 125, 126, 27, 127, 40, 571, 507, 508, 509, 510, 141, 142, 143, 87, 144, 2, 145, 511, 512, 513, 514, 32, 515, 249, 250, 251, 124, 516, 517, 518, 519, 520, 521, 522, 523, 38, 524, 490, 491, 31, 492, 48, 54, 493, 117, 118, 47, 119, 58, 525, 526, 527, 528, 39, 529, 530, 531, 532, 533, 133, 134, 135, 584, 585, 708, 709, 710, 711, 716, 717, 718, 719, 722, 723, 724, 725, 726, 727, 728, 729, 730, 731, 732, 733, 734, 735, 736, 737, 738, 739, 740, 741, 742] (by decide +kernel) (by decide +kernel)
set_option maxRecDepth 20000 in
theorem gL_law_X5_deliveredCount : GoodIn wsL_law (wsV RL 99 RX5 yX5_deliveredCount wsX5_deliveredCount) := goodIn_app (goodIn_of _ (by decide +kernel)) ggL_law_X5_deliveredCount
set_option maxRecDepth 20000 in
theorem ggL_law_X6_deliveredCount : GoodIn wsL_law wsX6_deliveredCount := goodIn_r _ [589, 590, 591, 592, 5, 593, 169, 170, 171, 172, 105, 106, 107, 173, 174, 175, 176, 69, 538, 539, 540, 541, 542, 543, 544, 545, 384, 385, 386, 387, 356, 357, 358, 359, 337, 338, 339, 546, 547, 548, 549, 181, 182, 183, 184, 185, 186, 187, 188, 364, 365, 366, 367, 368, 369, 370, 371, 550, 551, 552, 553, 498, 499, 500, 501, 554, 555, 556, 557, 558, 559, 560, 561, 712, 713, 714, 715] (by decide +kernel) (by decide +kernel)
set_option maxRecDepth 20000 in
theorem gL_law_X6_deliveredCount : GoodIn wsL_law (wsV RL 102 RX6 yX6_deliveredCount wsX6_deliveredCount) := goodIn_app (goodIn_of _ (by decide +kernel)) ggL_law_X6_deliveredCount
set_option maxRecDepth 20000 in
theorem ggL_law_X5_hops : GoodIn wsL_law wsX5_hops := goodIn_r _ [597, 15, 193, 125, 126, 27, 127, 40, 598, 599, 600, 14, 601, 28, 32, 571, 507, 508, 509, 510, 141, 142, 143, 87, 144, 2, 145, 511, 512, 513, 514, 515, 249, 250, 251, 124, 516, 517, 518, 519, 520, 521, 522, 523, 38, 524, 490, 491, 31, 492, 48, 54, 493, 117, 118, 47, 119, 58, 525, 526, 527, 528, 39, 529, 530, 531, 532, 533, 133, 134, 135, 584, 585, 602, 253, 254, 255, 256, 257, 258, 708, 709, 710, 711, 716, 717, 718, 719, 722, 723, 724, 725, 726, 727, 728, 729, 730, 731, 732, 733, 734, 735, 736, 737, 738, 739, 740, 741, 742] (by decide +kernel) (by decide +kernel)
set_option maxRecDepth 20000 in
theorem gL_law_X5_hops : GoodIn wsL_law (wsV RL 103 RX5 yX5_hops wsX5_hops) := goodIn_app (goodIn_of _ (by decide +kernel)) ggL_law_X5_hops
set_option maxRecDepth 20000 in
theorem ggL_law_X6_hops : GoodIn wsL_law wsX6_hops := goodIn_r _ [606, 169, 170, 171, 5, 172, 105, 106, 107, 173, 174, 175, 176, 69, 590, 591, 592, 593, 538, 539, 540, 541, 542, 543, 544, 545, 384, 385, 386, 387, 356, 357, 358, 359, 337, 338, 339, 546, 547, 548, 549, 181, 182, 183, 184, 185, 186, 187, 188, 364, 365, 366, 367, 368, 369, 370, 371, 550, 551, 552, 553, 498, 499, 500, 501, 554, 555, 556, 557, 558, 559, 560, 561, 607, 608, 609, 610, 263, 264, 265, 266, 712, 713, 714, 715] (by decide +kernel) (by decide +kernel)
set_option maxRecDepth 20000 in
theorem gL_law_X6_hops : GoodIn wsL_law (wsV RL 106 RX6 yX6_hops wsX6_hops) := goodIn_app (goodIn_of _ (by decide +kernel)) ggL_law_X6_hops
set_option maxRecDepth 20000 in
theorem ggL_law_X5_averageHops : GoodIn wsL_law wsX5_averageHops := goodIn_r _ [614, 15, 580, 581, 582, 14, 583, 28, 570, 125, 126, 27, 127, 40, 571, 507, 508, 509, 510, 141, 142, 143, 87, 144, 2, 145, 511, 512, 513, 514, 32, 515, 249, 250, 251, 124, 516, 517, 518, 519, 520, 521, 522, 523, 38, 524, 490, 491, 31, 492, 48, 54, 493, 117, 118, 47, 119, 58, 525, 526, 527, 528, 39, 529, 530, 531, 532, 533, 133, 134, 135, 584, 585, 615, 616, 617, 618, 619, 599, 600, 601, 602, 253, 254, 255, 256, 257, 258, 708, 709, 710, 711, 716, 717, 718, 719, 722, 723, 724, 725, 726, 727, 728, 729, 730, 731, 732, 733, 734, 735, 736, 737, 738, 739, 740, 741, 742] (by decide +kernel) (by decide +kernel)
set_option maxRecDepth 20000 in
theorem gL_law_X5_averageHops : GoodIn wsL_law (wsV RL 107 RX5 yX5_averageHops wsX5_averageHops) := goodIn_app (goodIn_of _ (by decide +kernel)) ggL_law_X5_averageHops
set_option maxRecDepth 20000 in
theorem ggL_law_X6_averageHops : GoodIn wsL_law wsX6_averageHops := goodIn_r _ [623, 590, 591, 592, 5, 593, 169, 170, 171, 172, 105, 106, 107, 173, 174, 175, 176, 69, 538, 539, 540, 541, 542, 543, 544, 545, 384, 385, 386, 387, 356, 357, 358, 359, 337, 338, 339, 546, 547, 548, 549, 181, 182, 183, 184, 185, 186, 187, 188, 364, 365, 366, 367, 368, 369, 370, 371, 550, 551, 552, 553, 498, 499, 500, 501, 554, 555, 556, 557, 558, 559, 560, 561, 607, 608, 609, 610, 263, 264, 265, 266, 712, 713, 714, 715] (by decide +kernel) (by decide +kernel)
set_option maxRecDepth 20000 in
theorem gL_law_X6_averageHops : GoodIn wsL_law (wsV RL 110 RX6 yX6_averageHops wsX6_averageHops) := goodIn_app (goodIn_of _ (by decide +kernel)) ggL_law_X6_averageHops
set_option maxRecDepth 20000 in
theorem ggL_law_X5_squelchedAt : GoodIn wsL_law wsX5_squelchedAt := goodIn_r _ [627, 15, 116, 117, 118, 47, 119, 58, 628, 281, 282, 283, 566, 567, 568, 14, 569, 28, 570, 125, 126, 27, 127, 40, 571, 507, 508, 509, 510, 141, 142, 143, 87, 144, 2, 145, 511, 512, 513, 514, 32, 515, 249, 250, 251, 124, 516, 517, 518, 519, 520, 521, 522, 523, 38, 524, 490, 491, 31, 492, 48, 54, 493, 525, 526, 527, 528, 39, 529, 530, 531, 532, 533, 133, 134, 135, 232, 233, 234, 235, 708, 709, 710, 711, 716, 717, 718, 719, 727, 728, 729, 730, 731, 732, 733, 734, 735, 736, 737, 738, 739, 740, 741, 742, 722, 723, 724, 725, 726] (by decide +kernel) (by decide +kernel)
set_option maxRecDepth 20000 in
theorem gL_law_X5_squelchedAt : GoodIn wsL_law (wsV RL 111 RX5 yX5_squelchedAt wsX5_squelchedAt) := goodIn_app (goodIn_of _ (by decide +kernel)) ggL_law_X5_squelchedAt
set_option maxRecDepth 20000 in
theorem ggL_law_X6_squelchedAt : GoodIn wsL_law wsX6_squelchedAt := goodIn_r _ [632, 69, 161, 162, 163, 5, 164, 105, 106, 107, 169, 170, 171, 172, 173, 174, 175, 176, 538, 539, 540, 541, 542, 543, 544, 545, 384, 385, 386, 387, 356, 357, 358, 359, 337, 338, 339, 546, 547, 548, 549, 181, 182, 183, 184, 185, 186, 187, 188, 364, 365, 366, 367, 368, 369, 370, 371, 550, 551, 552, 553, 498, 499, 500, 501, 554, 555, 556, 557, 558, 559, 560, 561, 633, 634, 635, 636, 712, 713, 714, 715] (by decide +kernel) (by decide +kernel)
set_option maxRecDepth 20000 in
theorem gL_law_X6_squelchedAt : GoodIn wsL_law (wsV RL 114 RX6 yX6_squelchedAt wsX6_squelchedAt) := goodIn_app (goodIn_of _ (by decide +kernel)) ggL_law_X6_squelchedAt
set_option maxRecDepth 20000 in
theorem ggL_law_X5_deliveredIfCut : GoodIn wsL_law wsX5_deliveredIfCut := goodIn_r _ [640, 15, 228, 229, 230, 47, 231, 58, 641, 642, 643, 2, 644, 16, 645, 646, 647, 14, 648, 28, 32, 82, 649, 650, 651, 27, 652, 38, 39, 40, 41, 87, 653, 654, 655, 656, 657, 31, 658, 48, 94, 95, 96, 52, 97, 98, 99, 100, 49, 50, 51, 53, 54, 272, 273, 274, 275, 276, 277, 278, 279, 144, 145, 280, 281, 282, 283, 284, 285, 286, 287, 288, 289, 290, 291, 292, 293, 294, 295, 296, 297, 298, 299, 300, 301, 302, 303, 304, 305, 306, 307, 308, 309, 310, 311, 312, 313, 314, 315, 316, 317, 318, 319, 320, 321, 322, 323, 324, 325, 326, 327, 328, 329, 330, 331, 332, 580, 581, 582, 583, 570, 125, 126, 127, 571, 507, 508, 509, 510, 141, 142, 143, 511, 512, 513, 514, 515, 249, 250, 251, 124, 516, 517, 518, 519, 520, 521, 522, 523, 524, 490, 491, 492, 493, 117, 118, 119, 525, 526, 527, 528, 529, 530, 531, 532, 533, 133, 134, 135, 584, 585, 708, 709, 710, 711, 716, 717, 718, 719, 741, 742, 727, 728, 729, 730, 731, 732, 733, 734, 735, 736, 737, 738, 739, 740, 722, 723, 724, 725, 726] (by decide +kernel) (by decide +kernel)
set_option maxRecDepth 20000 in
theorem gL_law_X5_deliveredIfCut : GoodIn wsL_law (wsV RL 115 RX5 yX5_deliveredIfCut wsX5_deliveredIfCut) := goodIn_app (goodIn_of _ (by decide +kernel)) ggL_law_X5_deliveredIfCut
set_option maxRecDepth 20000 in
theorem ggL_law_X6_deliveredIfCut : GoodIn wsL_law wsX6_deliveredIfCut := goodIn_r _ [662, 240, 241, 242, 5, 243, 69, 105, 106, 107, 663, 664, 665, 666, 667, 668, 669, 670, 70, 337, 338, 339, 671, 672, 673, 674, 348, 349, 350, 351, 352, 353, 354, 355, 356, 357, 358, 359, 360, 361, 362, 363, 364, 365, 366, 367, 368, 369, 370, 371, 372, 373, 374, 375, 376, 377, 378, 379, 380, 381, 382, 383, 384, 385, 386, 387, 675, 587, 588, 589, 590, 591, 592, 593, 169, 170, 171, 172, 173, 174, 175, 176, 538, 539, 540, 541, 542, 543, 544, 545, 546, 547, 548, 549, 181, 182, 183, 184, 185, 186, 187, 188, 550, 551, 552, 553, 498, 499, 500, 501, 554, 555, 556, 557, 558, 559, 560, 561, 712, 713, 714, 715] (by decide +kernel) (by decide +kernel)
set_option maxRecDepth 20000 in
theorem gL_law_X6_deliveredIfCut : GoodIn wsL_law (wsV RL 118 RX6 yX6_deliveredIfCut wsX6_deliveredIfCut) := goodIn_app (goodIn_of _ (by decide +kernel)) ggL_law_X6_deliveredIfCut
set_option maxRecDepth 20000 in
theorem ggL_law_X5_deliveredIfNodeFails : GoodIn wsL_law wsX5_deliveredIfNodeFails := goodIn_r _ [679, 15, 16, 116, 117, 118, 47, 119, 58, 645, 646, 647, 14, 648, 28, 32, 82, 649, 650, 651, 27, 652, 38, 39, 40, 41, 87, 653, 2, 654, 655, 656, 657, 31, 658, 48, 94, 95, 96, 52, 97, 98, 99, 100, 49, 50, 51, 53, 54, 272, 273, 274, 275, 276, 277, 278, 279, 144, 145, 280, 281, 282, 283, 284, 285, 286, 287, 288, 289, 290, 291, 292, 293, 294, 295, 296, 297, 298, 299, 300, 301, 302, 303, 304, 305, 306, 307, 308, 309, 310, 311, 312, 313, 314, 315, 316, 317, 318, 319, 320, 229, 230, 231, 321, 322, 323, 324, 325, 326, 327, 328, 329, 330, 331, 332, 580, 581, 582, 583, 570, 125, 126, 127, 571, 507, 508, 509, 510, 141, 142, 143, 511, 512, 513, 514, 515, 249, 250, 251, 124, 516, 517, 518, 519, 520, 521, 522, 523, 524, 490, 491, 492, 493, 525, 526, 527, 528, 529, 530, 531, 532, 533, 133, 134, 135, 584, 585, 708, 709, 710, 711, 716, 717, 718, 719, 727, 728, 729, 730, 731, 732, 733, 734, 735, 736, 737, 738, 739, 740, 741, 742, 722, 723, 724, 725, 726] (by decide +kernel) (by decide +kernel)
set_option maxRecDepth 20000 in
theorem gL_law_X5_deliveredIfNodeFails : GoodIn wsL_law (wsV RL 119 RX5 yX5_deliveredIfNodeFails wsX5_deliveredIfNodeFails) := goodIn_app (goodIn_of _ (by decide +kernel)) ggL_law_X5_deliveredIfNodeFails
set_option maxRecDepth 20000 in
theorem ggL_law_X6_deliveredIfNodeFails : GoodIn wsL_law wsX6_deliveredIfNodeFails := goodIn_r _ [683, 69, 161, 162, 163, 5, 164, 105, 106, 107, 667, 668, 669, 670, 70, 671, 672, 673, 674, 348, 349, 350, 351, 352, 353, 354, 355, 356, 357, 358, 359, 337, 338, 339, 360, 361, 362, 363, 364, 365, 366, 367, 368, 369, 370, 371, 372, 373, 374, 375, 376, 377, 378, 379, 380, 381, 382, 383, 384, 385, 386, 387, 675, 587, 588, 589, 590, 591, 592, 593, 169, 170, 171, 172, 173, 174, 175, 176, 538, 539, 540, 541, 542, 543, 544, 545, 546, 547, 548, 549, 181, 182, 183, 184, 185, 186, 187, 188, 550, 551, 552, 553, 498, 499, 500, 501, 554, 555, 556, 557, 558, 559, 560, 561, 712, 713, 714, 715] (by decide +kernel) (by decide +kernel)
set_option maxRecDepth 20000 in
theorem gL_law_X6_deliveredIfNodeFails : GoodIn wsL_law (wsV RL 122 RX6 yX6_deliveredIfNodeFails wsX6_deliveredIfNodeFails) := goodIn_app (goodIn_of _ (by decide +kernel)) ggL_law_X6_deliveredIfNodeFails
set_option maxRecDepth 20000 in
theorem ggL_law_X5_worstCut : GoodIn wsL_law wsX5_worstCut := goodIn_r _ [687, 15, 641, 642, 643, 2, 644, 16, 645, 646, 647, 14, 648, 28, 32, 82, 649, 650, 651, 27, 652, 38, 39, 40, 41, 87, 653, 654, 655, 656, 657, 31, 658, 48, 94, 95, 96, 52, 97, 98, 99, 100, 49, 50, 51, 53, 54, 272, 273, 274, 275, 276, 277, 278, 279, 144, 145, 280, 281, 282, 47, 283, 58, 284, 285, 286, 287, 288, 289, 290, 291, 292, 293, 294, 295, 296, 297, 298, 299, 300, 301, 302, 303, 304, 305, 306, 307, 308, 309, 310, 311, 312, 313, 314, 315, 316, 317, 318, 319, 320, 229, 230, 231, 321, 322, 323, 324, 325, 326, 327, 328, 329, 330, 331, 332, 580, 581, 582, 583, 570, 125, 126, 127, 571, 507, 508, 509, 510, 141, 142, 143, 511, 512, 513, 514, 515, 249, 250, 251, 124, 516, 517, 518, 519, 520, 521, 522, 523, 524, 490, 491, 492, 493, 117, 118, 119, 525, 526, 527, 528, 529, 530, 531, 532, 533, 133, 134, 135, 584, 585, 708, 709, 710, 711, 716, 717, 718, 719, 741, 742, 727, 728, 729, 730, 731, 732, 733, 734, 735, 736, 737, 738, 739, 740, 722, 723, 724, 725, 726] (by decide +kernel) (by decide +kernel)
set_option maxRecDepth 20000 in
theorem gL_law_X5_worstCut : GoodIn wsL_law (wsV RL 123 RX5 yX5_worstCut wsX5_worstCut) := goodIn_app (goodIn_of _ (by decide +kernel)) ggL_law_X5_worstCut
set_option maxRecDepth 20000 in
theorem ggL_law_X6_worstCut : GoodIn wsL_law wsX6_worstCut := goodIn_r _ [691, 69, 663, 664, 665, 5, 666, 667, 668, 669, 670, 70, 337, 338, 339, 671, 672, 673, 674, 348, 349, 350, 351, 352, 353, 354, 355, 356, 357, 358, 359, 360, 361, 362, 363, 364, 365, 366, 367, 368, 369, 370, 371, 372, 373, 374, 375, 376, 377, 378, 379, 380, 381, 382, 383, 384, 385, 386, 387, 675, 587, 588, 589, 590, 591, 592, 593, 169, 170, 171, 172, 105, 106, 107, 173, 174, 175, 176, 538, 539, 540, 541, 542, 543, 544, 545, 546, 547, 548, 549, 181, 182, 183, 184, 185, 186, 187, 188, 550, 551, 552, 553, 498, 499, 500, 501, 554, 555, 556, 557, 558, 559, 560, 561, 712, 713, 714, 715] (by decide +kernel) (by decide +kernel)
set_option maxRecDepth 20000 in
theorem gL_law_X6_worstCut : GoodIn wsL_law (wsV RL 126 RX6 yX6_worstCut wsX6_worstCut) := goodIn_app (goodIn_of _ (by decide +kernel)) ggL_law_X6_worstCut
set_option maxRecDepth 20000 in
theorem ggL_law_X5_save : GoodIn wsL_law wsX5_save := goodIn_r _ [695, 20, 21, 15, 645, 646, 647, 14, 648, 28, 32, 82, 649, 650, 651, 27, 652, 38, 39, 40, 41, 87, 653, 2, 654, 655, 656, 657, 31, 658, 48, 94, 95, 96, 52, 97, 98, 99, 100, 49, 50, 51, 53, 54, 708, 709, 710, 711, 720, 721, 716, 717, 718, 719, 722, 723, 724, 725, 726, 727, 728, 729, 730, 731, 732, 733, 734, 735, 736, 737, 738, 739, 740, 741, 742] (by decide +kernel) (by decide +kernel)
set_option maxRecDepth 20000 in
theorem gL_law_X5_save : GoodIn wsL_law (wsV RL 127 RX5 yX5_save wsX5_save) := goodIn_app (goodIn_of _ (by decide +kernel)) ggL_law_X5_save
set_option maxRecDepth 20000 in
theorem ggL_law_X6_save : GoodIn wsL_law wsX6_save := goodIn_r _ [699, 71, 69, 73, 105, 106, 5, 107, 712, 713, 714, 715] (by decide +kernel) (by decide +kernel)
set_option maxRecDepth 20000 in
theorem gL_law_X6_save : GoodIn wsL_law (wsV RL 130 RX6 yX6_save wsX6_save) := goodIn_app (goodIn_of _ (by decide +kernel)) ggL_law_X6_save
set_option maxRecDepth 20000 in
theorem ggL_law_X5_restore : GoodIn wsL_law wsX5_restore := goodIn_r _ [703, 20, 21, 15, 645, 646, 647, 14, 648, 28, 32, 82, 649, 650, 651, 27, 652, 38, 39, 40, 41, 87, 653, 2, 654, 655, 656, 657, 31, 658, 48, 94, 95, 96, 52, 97, 98, 99, 100, 49, 50, 51, 53, 54, 708, 709, 710, 711, 720, 721, 716, 717, 718, 719, 722, 723, 724, 725, 726, 727, 728, 729, 730, 731, 732, 733, 734, 735, 736, 737, 738, 739, 740, 741, 742] (by decide +kernel) (by decide +kernel)
set_option maxRecDepth 20000 in
theorem gL_law_X5_restore : GoodIn wsL_law (wsV RL 131 RX5 yX5_restore wsX5_restore) := goodIn_app (goodIn_of _ (by decide +kernel)) ggL_law_X5_restore
set_option maxRecDepth 20000 in
theorem ggL_law_X6_restore : GoodIn wsL_law wsX6_restore := goodIn_r _ [707, 73, 69, 71, 105, 106, 5, 107, 712, 713, 714, 715] (by decide +kernel) (by decide +kernel)
set_option maxRecDepth 20000 in
theorem gL_law_X6_restore : GoodIn wsL_law (wsV RL 134 RX6 yX6_restore wsX6_restore) := goodIn_app (goodIn_of _ (by decide +kernel)) ggL_law_X6_restore
theorem dL_law_0 : decode cL_law 0 = .ok (.new 7, 3) := by decide +kernel
theorem dL_law_3 : decode cL_law 3 = .ok (.dup, 1) := by decide +kernel
theorem dL_law_4 : decode cL_law 4 = .ok (.invokespecial 9, 3) := by decide +kernel
theorem dL_law_7 : decode cL_law 7 = .ok (.astore_n 1, 1) := by decide +kernel
theorem dL_law_8 : decode cL_law 8 = .ok (.new 10, 3) := by decide +kernel
theorem dL_law_11 : decode cL_law 11 = .ok (.dup, 1) := by decide +kernel
theorem dL_law_12 : decode cL_law 12 = .ok (.invokespecial 12, 3) := by decide +kernel
theorem dL_law_15 : decode cL_law 15 = .ok (.astore_n 2, 1) := by decide +kernel
theorem dL_law_16 : decode cL_law 16 = .ok (.iconst 0, 1) := by decide +kernel
theorem dL_law_17 : decode cL_law 17 = .ok (.istore_n 3, 1) := by decide +kernel
theorem dL_law_18 : decode cL_law 18 = .ok (.iload_n 3, 1) := by decide +kernel
theorem dL_law_19 : decode cL_law 19 = .ok (.aload_n 0, 1) := by decide +kernel
theorem dL_law_20 : decode cL_law 20 = .ok (.arraylength, 1) := by decide +kernel
theorem dL_law_21 : decode cL_law 21 = .ok (.bipush 6, 2) := by decide +kernel
theorem dL_law_23 : decode cL_law 23 = .ok (.isub, 1) := by decide +kernel
theorem dL_law_24 : decode cL_law 24 = .ok (.if_icmp .gt 995, 3) := by decide +kernel
theorem dL_law_27 : decode cL_law 27 = .ok (.aload_n 0, 1) := by decide +kernel
theorem dL_law_28 : decode cL_law 28 = .ok (.iload_n 3, 1) := by decide +kernel
theorem dL_law_29 : decode cL_law 29 = .ok (.iaload, 1) := by decide +kernel
theorem dL_law_30 : decode cL_law 30 = .ok (.bipush 31, 2) := by decide +kernel
theorem dL_law_32 : decode cL_law 32 = .ok (.iand, 1) := by decide +kernel
theorem dL_law_33 : decode cL_law 33 = .ok (.tableswitch 980 0 28 #[131, 164, 259, 282, 295, 380, 403, 426, 475, 524, 573, 606, 629, 652, 665, 688, 711, 734, 757, 780, 803, 816, 839, 852, 875, 898, 921, 934, 957], 131) := by decide +kernel
theorem dL_law_164 : decode cL_law 164 = .ok (.aload_n 1, 1) := by decide +kernel
theorem dL_law_165 : decode cL_law 165 = .ok (.aload_n 0, 1) := by decide +kernel
theorem dL_law_166 : decode cL_law 166 = .ok (.iload_n 3, 1) := by decide +kernel
theorem dL_law_167 : decode cL_law 167 = .ok (.iconst 1, 1) := by decide +kernel
theorem dL_law_168 : decode cL_law 168 = .ok (.iadd, 1) := by decide +kernel
theorem dL_law_169 : decode cL_law 169 = .ok (.iaload, 1) := by decide +kernel
theorem dL_law_170 : decode cL_law 170 = .ok (.aload_n 0, 1) := by decide +kernel
theorem dL_law_171 : decode cL_law 171 = .ok (.iload_n 3, 1) := by decide +kernel
theorem dL_law_172 : decode cL_law 172 = .ok (.iconst 2, 1) := by decide +kernel
theorem dL_law_173 : decode cL_law 173 = .ok (.iadd, 1) := by decide +kernel
theorem dL_law_174 : decode cL_law 174 = .ok (.iaload, 1) := by decide +kernel
theorem dL_law_175 : decode cL_law 175 = .ok (.invokevirtual 13, 3) := by decide +kernel
theorem dL_law_178 : decode cL_law 178 = .ok (.aload_n 2, 1) := by decide +kernel
theorem dL_law_179 : decode cL_law 179 = .ok (.aload_n 0, 1) := by decide +kernel
theorem dL_law_180 : decode cL_law 180 = .ok (.iload_n 3, 1) := by decide +kernel
theorem dL_law_181 : decode cL_law 181 = .ok (.iconst 1, 1) := by decide +kernel
theorem dL_law_182 : decode cL_law 182 = .ok (.iadd, 1) := by decide +kernel
theorem dL_law_183 : decode cL_law 183 = .ok (.iaload, 1) := by decide +kernel
theorem dL_law_184 : decode cL_law 184 = .ok (.aload_n 0, 1) := by decide +kernel
theorem dL_law_185 : decode cL_law 185 = .ok (.iload_n 3, 1) := by decide +kernel
theorem dL_law_186 : decode cL_law 186 = .ok (.iconst 2, 1) := by decide +kernel
theorem dL_law_187 : decode cL_law 187 = .ok (.iadd, 1) := by decide +kernel
theorem dL_law_188 : decode cL_law 188 = .ok (.iaload, 1) := by decide +kernel
theorem dL_law_189 : decode cL_law 189 = .ok (.invokevirtual 17, 3) := by decide +kernel
theorem dL_law_192 : decode cL_law 192 = .ok (.if_icmp .eq 821, 3) := by decide +kernel
theorem dL_law_195 : decode cL_law 195 = .ok (.iconst 0, 1) := by decide +kernel
theorem dL_law_196 : decode cL_law 196 = .ok (.ireturn, 1) := by decide +kernel
theorem dL_law_197 : decode cL_law 197 = .ok (.aload_n 1, 1) := by decide +kernel
theorem dL_law_198 : decode cL_law 198 = .ok (.aload_n 0, 1) := by decide +kernel
theorem dL_law_199 : decode cL_law 199 = .ok (.iload_n 3, 1) := by decide +kernel
theorem dL_law_200 : decode cL_law 200 = .ok (.iconst 1, 1) := by decide +kernel
theorem dL_law_201 : decode cL_law 201 = .ok (.iadd, 1) := by decide +kernel
theorem dL_law_202 : decode cL_law 202 = .ok (.iaload, 1) := by decide +kernel
theorem dL_law_203 : decode cL_law 203 = .ok (.aload_n 0, 1) := by decide +kernel
theorem dL_law_204 : decode cL_law 204 = .ok (.iload_n 3, 1) := by decide +kernel
theorem dL_law_205 : decode cL_law 205 = .ok (.iconst 2, 1) := by decide +kernel
theorem dL_law_206 : decode cL_law 206 = .ok (.iadd, 1) := by decide +kernel
theorem dL_law_207 : decode cL_law 207 = .ok (.iaload, 1) := by decide +kernel
theorem dL_law_208 : decode cL_law 208 = .ok (.aload_n 0, 1) := by decide +kernel
theorem dL_law_209 : decode cL_law 209 = .ok (.iload_n 3, 1) := by decide +kernel
theorem dL_law_210 : decode cL_law 210 = .ok (.iconst 3, 1) := by decide +kernel
theorem dL_law_211 : decode cL_law 211 = .ok (.iadd, 1) := by decide +kernel
theorem dL_law_212 : decode cL_law 212 = .ok (.iaload, 1) := by decide +kernel
theorem dL_law_213 : decode cL_law 213 = .ok (.ifCond .eq 7, 3) := by decide +kernel
theorem dL_law_216 : decode cL_law 216 = .ok (.iconst 1, 1) := by decide +kernel
theorem dL_law_217 : decode cL_law 217 = .ok (.goto 4, 3) := by decide +kernel
theorem dL_law_220 : decode cL_law 220 = .ok (.iconst 0, 1) := by decide +kernel
theorem dL_law_221 : decode cL_law 221 = .ok (.aload_n 0, 1) := by decide +kernel
theorem dL_law_222 : decode cL_law 222 = .ok (.iload_n 3, 1) := by decide +kernel
theorem dL_law_223 : decode cL_law 223 = .ok (.iconst 4, 1) := by decide +kernel
theorem dL_law_224 : decode cL_law 224 = .ok (.iadd, 1) := by decide +kernel
theorem dL_law_225 : decode cL_law 225 = .ok (.iaload, 1) := by decide +kernel
theorem dL_law_226 : decode cL_law 226 = .ok (.aload_n 0, 1) := by decide +kernel
theorem dL_law_227 : decode cL_law 227 = .ok (.iload_n 3, 1) := by decide +kernel
theorem dL_law_228 : decode cL_law 228 = .ok (.iconst 5, 1) := by decide +kernel
theorem dL_law_229 : decode cL_law 229 = .ok (.iadd, 1) := by decide +kernel
theorem dL_law_230 : decode cL_law 230 = .ok (.iaload, 1) := by decide +kernel
theorem dL_law_231 : decode cL_law 231 = .ok (.ifCond .eq 7, 3) := by decide +kernel
theorem dL_law_234 : decode cL_law 234 = .ok (.iconst 1, 1) := by decide +kernel
theorem dL_law_235 : decode cL_law 235 = .ok (.goto 4, 3) := by decide +kernel
theorem dL_law_238 : decode cL_law 238 = .ok (.iconst 0, 1) := by decide +kernel
theorem dL_law_239 : decode cL_law 239 = .ok (.invokevirtual 18, 3) := by decide +kernel
theorem dL_law_242 : decode cL_law 242 = .ok (.aload_n 2, 1) := by decide +kernel
theorem dL_law_243 : decode cL_law 243 = .ok (.aload_n 0, 1) := by decide +kernel
theorem dL_law_244 : decode cL_law 244 = .ok (.iload_n 3, 1) := by decide +kernel
theorem dL_law_245 : decode cL_law 245 = .ok (.iconst 1, 1) := by decide +kernel
theorem dL_law_246 : decode cL_law 246 = .ok (.iadd, 1) := by decide +kernel
theorem dL_law_247 : decode cL_law 247 = .ok (.iaload, 1) := by decide +kernel
theorem dL_law_248 : decode cL_law 248 = .ok (.aload_n 0, 1) := by decide +kernel
theorem dL_law_249 : decode cL_law 249 = .ok (.iload_n 3, 1) := by decide +kernel
theorem dL_law_250 : decode cL_law 250 = .ok (.iconst 2, 1) := by decide +kernel
theorem dL_law_251 : decode cL_law 251 = .ok (.iadd, 1) := by decide +kernel
theorem dL_law_252 : decode cL_law 252 = .ok (.iaload, 1) := by decide +kernel
theorem dL_law_253 : decode cL_law 253 = .ok (.aload_n 0, 1) := by decide +kernel
theorem dL_law_254 : decode cL_law 254 = .ok (.iload_n 3, 1) := by decide +kernel
theorem dL_law_255 : decode cL_law 255 = .ok (.iconst 3, 1) := by decide +kernel
theorem dL_law_256 : decode cL_law 256 = .ok (.iadd, 1) := by decide +kernel
theorem dL_law_257 : decode cL_law 257 = .ok (.iaload, 1) := by decide +kernel
theorem dL_law_258 : decode cL_law 258 = .ok (.ifCond .eq 7, 3) := by decide +kernel
theorem dL_law_261 : decode cL_law 261 = .ok (.iconst 1, 1) := by decide +kernel
theorem dL_law_262 : decode cL_law 262 = .ok (.goto 4, 3) := by decide +kernel
theorem dL_law_265 : decode cL_law 265 = .ok (.iconst 0, 1) := by decide +kernel
theorem dL_law_266 : decode cL_law 266 = .ok (.aload_n 0, 1) := by decide +kernel
theorem dL_law_267 : decode cL_law 267 = .ok (.iload_n 3, 1) := by decide +kernel
theorem dL_law_268 : decode cL_law 268 = .ok (.iconst 4, 1) := by decide +kernel
theorem dL_law_269 : decode cL_law 269 = .ok (.iadd, 1) := by decide +kernel
theorem dL_law_270 : decode cL_law 270 = .ok (.iaload, 1) := by decide +kernel
theorem dL_law_271 : decode cL_law 271 = .ok (.aload_n 0, 1) := by decide +kernel
theorem dL_law_272 : decode cL_law 272 = .ok (.iload_n 3, 1) := by decide +kernel
theorem dL_law_273 : decode cL_law 273 = .ok (.iconst 5, 1) := by decide +kernel
theorem dL_law_274 : decode cL_law 274 = .ok (.iadd, 1) := by decide +kernel
theorem dL_law_275 : decode cL_law 275 = .ok (.iaload, 1) := by decide +kernel
theorem dL_law_276 : decode cL_law 276 = .ok (.ifCond .eq 7, 3) := by decide +kernel
theorem dL_law_279 : decode cL_law 279 = .ok (.iconst 1, 1) := by decide +kernel
theorem dL_law_280 : decode cL_law 280 = .ok (.goto 4, 3) := by decide +kernel
theorem dL_law_283 : decode cL_law 283 = .ok (.iconst 0, 1) := by decide +kernel
theorem dL_law_284 : decode cL_law 284 = .ok (.invokevirtual 22, 3) := by decide +kernel
theorem dL_law_287 : decode cL_law 287 = .ok (.if_icmp .eq 726, 3) := by decide +kernel
theorem dL_law_290 : decode cL_law 290 = .ok (.iconst 0, 1) := by decide +kernel
theorem dL_law_291 : decode cL_law 291 = .ok (.ireturn, 1) := by decide +kernel
theorem dL_law_292 : decode cL_law 292 = .ok (.aload_n 1, 1) := by decide +kernel
theorem dL_law_293 : decode cL_law 293 = .ok (.aload_n 0, 1) := by decide +kernel
theorem dL_law_294 : decode cL_law 294 = .ok (.iload_n 3, 1) := by decide +kernel
theorem dL_law_295 : decode cL_law 295 = .ok (.iconst 1, 1) := by decide +kernel
theorem dL_law_296 : decode cL_law 296 = .ok (.iadd, 1) := by decide +kernel
theorem dL_law_297 : decode cL_law 297 = .ok (.iaload, 1) := by decide +kernel
theorem dL_law_298 : decode cL_law 298 = .ok (.invokevirtual 23, 3) := by decide +kernel
theorem dL_law_301 : decode cL_law 301 = .ok (.aload_n 2, 1) := by decide +kernel
theorem dL_law_302 : decode cL_law 302 = .ok (.aload_n 0, 1) := by decide +kernel
theorem dL_law_303 : decode cL_law 303 = .ok (.iload_n 3, 1) := by decide +kernel
theorem dL_law_304 : decode cL_law 304 = .ok (.iconst 1, 1) := by decide +kernel
theorem dL_law_305 : decode cL_law 305 = .ok (.iadd, 1) := by decide +kernel
theorem dL_law_306 : decode cL_law 306 = .ok (.iaload, 1) := by decide +kernel
theorem dL_law_307 : decode cL_law 307 = .ok (.invokevirtual 27, 3) := by decide +kernel
theorem dL_law_310 : decode cL_law 310 = .ok (.if_icmp .eq 703, 3) := by decide +kernel
theorem dL_law_313 : decode cL_law 313 = .ok (.iconst 0, 1) := by decide +kernel
theorem dL_law_314 : decode cL_law 314 = .ok (.ireturn, 1) := by decide +kernel
theorem dL_law_315 : decode cL_law 315 = .ok (.aload_n 1, 1) := by decide +kernel
