set_option maxRecDepth 20000 in
theorem ggL_law_X4_init : GoodIn wsL_law wsX4_init := goodIn_r _ [8, 9, 10, 11, 12, 13, 14, 15, 16, 17, 18, 19, 20, 21, 22, 23, 24, 25, 26, 27, 28, 29, 30, 31, 32, 33, 34, 35, 36, 37, 38, 39, 40, 41, 42, 43, 44, 45, 46, 47, 48, 49, 50, 51, 52, 53, 54, 55, 56, 57, 58, 59, 714, 715, 716, 683, 684, 685, 686, 687, 688, 689, 690, 691, 692, 693, 694, 695, 696, 717, 718, 719, 720, 721, 722, 723, 724, 725, 726, 727, 728] (by decide +kernel) (by decide +kernel)
set_option maxRecDepth 20000 in
theorem gL_law_X4_init : GoodIn wsL_law (wsX4_init) := ggL_law_X4_init
set_option maxRecDepth 20000 in
theorem ggL_law_X5_init : GoodIn wsL_law wsX5_init := goodIn_r _ [62, 63, 10, 11, 37, 64, 65, 66, 67, 68, 69, 70, 71, 72, 73, 74, 75, 76, 77, 78, 79, 697, 698, 699, 700, 701, 702, 703, 704, 705, 706, 707, 708, 709, 710, 711, 712, 713] (by decide +kernel) (by decide +kernel)
set_option maxRecDepth 20000 in
theorem gL_law_X5_init : GoodIn wsL_law (wsX5_init) := ggL_law_X5_init
set_option maxRecDepth 20000 in
theorem ggL_law_X4_point : GoodIn wsL_law wsX4_point := goodIn_r _ [83, 15, 84, 85, 86, 2, 87, 29, 88, 89, 90, 91, 92, 25, 93, 94, 95, 96, 97, 98, 99, 100, 101, 102, 103, 104, 105, 106, 107, 108, 109, 14, 110, 111, 112, 113, 114, 115, 116, 117, 118, 119, 120, 121, 122, 123, 124, 125, 126, 127, 128, 45, 43, 44, 129, 130, 131, 132, 133, 683, 684, 685, 686, 687, 688, 689, 690, 691, 692, 693, 694, 695, 696, 720, 721, 722, 714, 715, 716] (by decide +kernel) (by decide +kernel)
set_option maxRecDepth 20000 in
theorem gL_law_X4_point : GoodIn wsL_law (wsV RL 13 RX4 yX4_point wsX4_point) := goodIn_app (goodIn_of _ (by decide +kernel)) ggL_law_X4_point
set_option maxRecDepth 20000 in
theorem ggL_law_X5_point : GoodIn wsL_law wsX5_point := goodIn_r _ [137, 138, 139, 140, 5, 141, 142, 69, 143, 144, 145, 146, 147, 148, 149, 150, 151, 152, 153, 154, 155, 156, 157, 67, 158, 64, 65, 66, 159, 160, 161, 162, 163, 164, 165, 166, 167, 697, 698, 699, 700, 701, 702, 703, 704, 705, 706, 707, 708, 709, 710, 711, 712, 713] (by decide +kernel) (by decide +kernel)
set_option maxRecDepth 20000 in
theorem gL_law_X5_point : GoodIn wsL_law (wsV RL 17 RX5 yX5_point wsX5_point) := goodIn_app (goodIn_of _ (by decide +kernel)) ggL_law_X5_point
set_option maxRecDepth 20000 in
theorem ggL_law_X4_line : GoodIn wsL_law wsX4_line := goodIn_r _ [171, 16, 84, 85, 86, 2, 87, 29, 88, 89, 90, 91, 92, 25, 93, 94, 95, 96, 97, 98, 99, 100, 101, 102, 103, 104, 105, 106, 107, 108, 109, 14, 110, 111, 112, 113, 114, 115, 116, 117, 118, 119, 120, 121, 122, 123, 124, 125, 126, 127, 128, 45, 43, 44, 129, 130, 131, 132, 133, 683, 684, 685, 686, 687, 688, 689, 690, 691, 692, 693, 694, 695, 696, 720, 721, 722, 714, 715, 716] (by decide +kernel) (by decide +kernel)
set_option maxRecDepth 20000 in
theorem gL_law_X4_line : GoodIn wsL_law (wsV RL 18 RX4 yX4_line wsX4_line) := goodIn_app (goodIn_of _ (by decide +kernel)) ggL_law_X4_line
set_option maxRecDepth 20000 in
theorem ggL_law_X5_line : GoodIn wsL_law wsX5_line := goodIn_r _ [175, 138, 139, 140, 5, 141, 142, 69, 143, 144, 145, 146, 147, 148, 149, 150, 151, 152, 153, 154, 155, 156, 157, 67, 158, 64, 65, 66, 159, 160, 161, 162, 163, 164, 165, 166, 167, 697, 698, 699, 700, 701, 702, 703, 704, 705, 706, 707, 708, 709, 710, 711, 712, 713] (by decide +kernel) (by decide +kernel)
set_option maxRecDepth 20000 in
theorem gL_law_X5_line : GoodIn wsL_law (wsV RL 21 RX5 yX5_line wsX5_line) := goodIn_app (goodIn_of _ (by decide +kernel)) ggL_law_X5_line
set_option maxRecDepth 20000 in
theorem ggL_law_X4_conic : GoodIn wsL_law wsX4_conic := goodIn_r _ [179, 36, 88, 89, 17, 180, 181, 182, 32, 183, 184, 185, 186, 187, 188, 189, 190, 191, 192, 193, 194, 195, 196, 197, 101, 2, 102, 198, 199, 200, 201, 202, 203, 204, 14, 205, 111, 112, 206, 207, 208, 209, 210, 118, 119, 120, 121, 122, 211, 212, 213, 214, 215, 216, 217, 125, 126, 127, 128, 45, 43, 44, 129, 130, 131, 132, 133, 683, 684, 685, 686, 687, 688, 689, 690, 691, 692, 693, 694, 695, 696, 723, 724, 725, 726, 727, 728, 714, 715, 716] (by decide +kernel) (by decide +kernel)
set_option maxRecDepth 20000 in
theorem gL_law_X4_conic : GoodIn wsL_law (wsV RL 22 RX4 yX4_conic wsX4_conic) := goodIn_app (goodIn_of _ (by decide +kernel)) ggL_law_X4_conic
set_option maxRecDepth 20000 in
theorem ggL_law_X5_conic : GoodIn wsL_law wsX5_conic := goodIn_r _ [221, 142, 69, 143, 144, 5, 145, 146, 147, 148, 149, 150, 151, 152, 153, 154, 155, 156, 157, 67, 158, 64, 65, 66, 159, 160, 161, 162, 163, 164, 165, 166, 167, 697, 698, 699, 700, 701, 702, 703, 704, 705, 706, 707, 708, 709, 710, 711, 712, 713] (by decide +kernel) (by decide +kernel)
set_option maxRecDepth 20000 in
theorem gL_law_X5_conic : GoodIn wsL_law (wsV RL 26 RX5 yX5_conic wsX5_conic) := goodIn_app (goodIn_of _ (by decide +kernel)) ggL_law_X5_conic
set_option maxRecDepth 20000 in
theorem ggL_law_X4_count : GoodIn wsL_law wsX4_count := goodIn_r _ [225, 89, 226, 227, 228, 2, 229, 15, 16, 17, 714, 715, 716, 683, 684, 685, 686, 687, 688, 689, 690, 691, 692, 693, 694, 695, 696] (by decide +kernel) (by decide +kernel)
set_option maxRecDepth 20000 in
theorem gL_law_X4_count : GoodIn wsL_law (wsV RL 27 RX4 yX4_count wsX4_count) := goodIn_app (goodIn_of _ (by decide +kernel)) ggL_law_X4_count
set_option maxRecDepth 20000 in
theorem ggL_law_X5_count : GoodIn wsL_law wsX5_count := goodIn_r _ [233, 234, 67, 142, 148, 149, 5, 150, 697, 698, 699, 700, 701, 702, 703, 704, 705, 706, 707, 708, 709, 710, 711, 712, 713] (by decide +kernel) (by decide +kernel)
set_option maxRecDepth 20000 in
theorem gL_law_X5_count : GoodIn wsL_law (wsV RL 31 RX5 yX5_count wsX5_count) := goodIn_app (goodIn_of _ (by decide +kernel)) ggL_law_X5_count
set_option maxRecDepth 20000 in
theorem ggL_law_X4_number : GoodIn wsL_law wsX4_number := goodIn_r _ [238, 89, 239, 226, 227, 228, 2, 229, 15, 16, 17, 240, 241, 242, 14, 243, 45, 244, 245, 246, 247, 43, 44, 248, 714, 715, 716, 683, 684, 685, 686, 687, 688, 689, 690, 691, 692, 693, 694, 695, 696] (by decide +kernel) (by decide +kernel)
set_option maxRecDepth 20000 in
theorem gL_law_X4_number : GoodIn wsL_law (wsV RL 32 RX4 yX4_number wsX4_number) := goodIn_app (goodIn_of _ (by decide +kernel)) ggL_law_X4_number
set_option maxRecDepth 20000 in
theorem ggL_law_X5_number : GoodIn wsL_law wsX5_number := goodIn_r _ [252, 234, 142, 253, 148, 149, 5, 150, 254, 255, 256, 257, 67, 159, 160, 161, 258, 259, 260, 261, 64, 65, 66, 697, 698, 699, 700, 701, 702, 703, 704, 705, 706, 707, 708, 709, 710, 711, 712, 713] (by decide +kernel) (by decide +kernel)
set_option maxRecDepth 20000 in
theorem gL_law_X5_number : GoodIn wsL_law (wsV RL 35 RX5 yX5_number wsX5_number) := goodIn_app (goodIn_of _ (by decide +kernel)) ggL_law_X5_number
set_option maxRecDepth 20000 in
theorem ggL_law_X4_join : GoodIn wsL_law wsX4_join := goodIn_r _ [265, 15, 16, 266, 267, 268, 2, 269, 239, 26, 27, 29, 240, 241, 242, 14, 243, 45, 270, 271, 272, 25, 273, 274, 245, 246, 247, 43, 44, 248, 123, 91, 92, 93, 94, 95, 96, 275, 276, 277, 278, 279, 280, 281, 282, 283, 103, 104, 105, 106, 107, 108, 109, 110, 111, 112, 113, 114, 115, 116, 117, 118, 119, 120, 121, 122, 124, 98, 99, 100, 101, 102, 125, 126, 127, 128, 129, 130, 131, 132, 133, 683, 684, 685, 686, 687, 688, 689, 690, 691, 692, 693, 694, 695, 696, 714, 715, 716, 720, 721, 722] (by decide +kernel) (by decide +kernel)
set_option maxRecDepth 20000 in
theorem gL_law_X4_join : GoodIn wsL_law (wsV RL 36 RX4 yX4_join wsX4_join) := goodIn_app (goodIn_of _ (by decide +kernel)) ggL_law_X4_join
set_option maxRecDepth 20000 in
theorem ggL_law_X5_join : GoodIn wsL_law wsX5_join := goodIn_r _ [287, 288, 289, 290, 5, 291, 253, 69, 292, 254, 255, 256, 257, 67, 148, 149, 150, 258, 259, 260, 261, 64, 65, 66, 151, 152, 153, 154, 155, 156, 157, 158, 159, 160, 161, 162, 163, 164, 165, 166, 167, 697, 698, 699, 700, 701, 702, 703, 704, 705, 706, 707, 708, 709, 710, 711, 712, 713] (by decide +kernel) (by decide +kernel)
set_option maxRecDepth 20000 in
theorem gL_law_X5_join : GoodIn wsL_law (wsV RL 40 RX5 yX5_join wsX5_join) := goodIn_app (goodIn_of _ (by decide +kernel)) ggL_law_X5_join
set_option maxRecDepth 20000 in
theorem ggL_law_X4_meet : GoodIn wsL_law wsX4_meet := goodIn_r _ [296, 16, 15, 266, 267, 268, 2, 269, 239, 26, 27, 29, 240, 241, 242, 14, 243, 45, 270, 271, 272, 25, 273, 274, 245, 246, 247, 43, 44, 248, 123, 91, 92, 93, 94, 95, 96, 275, 276, 277, 278, 279, 280, 281, 282, 283, 103, 104, 105, 106, 107, 108, 109, 110, 111, 112, 113, 114, 115, 116, 117, 118, 119, 120, 121, 122, 124, 98, 99, 100, 101, 102, 125, 126, 127, 128, 129, 130, 131, 132, 133, 683, 684, 685, 686, 687, 688, 689, 690, 691, 692, 693, 694, 695, 696, 714, 715, 716, 720, 721, 722] (by decide +kernel) (by decide +kernel)
set_option maxRecDepth 20000 in
theorem gL_law_X4_meet : GoodIn wsL_law (wsV RL 41 RX4 yX4_meet wsX4_meet) := goodIn_app (goodIn_of _ (by decide +kernel)) ggL_law_X4_meet
set_option maxRecDepth 20000 in
theorem ggL_law_X5_meet : GoodIn wsL_law wsX5_meet := goodIn_r _ [300, 288, 289, 290, 5, 291, 253, 69, 292, 254, 255, 256, 257, 67, 148, 149, 150, 258, 259, 260, 261, 64, 65, 66, 151, 152, 153, 154, 155, 156, 157, 158, 159, 160, 161, 162, 163, 164, 165, 166, 167, 697, 698, 699, 700, 701, 702, 703, 704, 705, 706, 707, 708, 709, 710, 711, 712, 713] (by decide +kernel) (by decide +kernel)
set_option maxRecDepth 20000 in
theorem gL_law_X5_meet : GoodIn wsL_law (wsV RL 44 RX5 yX5_meet wsX5_meet) := goodIn_app (goodIn_of _ (by decide +kernel)) ggL_law_X5_meet
set_option maxRecDepth 20000 in
theorem ggL_law_X4_on : GoodIn wsL_law wsX4_on := goodIn_r _ [304, 89, 16, 17, 15, 239, 26, 27, 33, 240, 241, 242, 14, 243, 45, 270, 271, 272, 25, 273, 274, 245, 246, 247, 43, 44, 248, 123, 91, 92, 93, 94, 95, 96, 305, 306, 307, 308, 309, 310, 311, 32, 312, 313, 215, 181, 182, 183, 184, 185, 186, 216, 188, 189, 190, 191, 192, 193, 314, 315, 316, 317, 683, 684, 685, 686, 687, 688, 689, 690, 691, 692, 693, 694, 695, 696, 714, 715, 716, 720, 721, 722, 723, 724, 725, 726, 727, 728] (by decide +kernel) (by decide +kernel)
set_option maxRecDepth 20000 in
theorem gL_law_X4_on : GoodIn wsL_law (wsV RL 45 RX4 yX4_on wsX4_on) := goodIn_app (goodIn_of _ (by decide +kernel)) ggL_law_X4_on
set_option maxRecDepth 20000 in
theorem ggL_law_X5_on : GoodIn wsL_law wsX5_on := goodIn_r _ [321, 234, 142, 253, 65, 64, 148, 149, 5, 150, 254, 255, 256, 257, 67, 322, 323, 324, 325, 326, 327, 328, 329, 66, 697, 698, 699, 700, 701, 702, 703, 704, 705, 706, 707, 708, 709, 710, 711, 712, 713] (by decide +kernel) (by decide +kernel)
set_option maxRecDepth 20000 in
theorem gL_law_X5_on : GoodIn wsL_law (wsV RL 48 RX5 yX5_on wsX5_on) := goodIn_app (goodIn_of _ (by decide +kernel)) ggL_law_X5_on
set_option maxRecDepth 20000 in
theorem ggL_law_X4_five : GoodIn wsL_law wsX4_five := goodIn_r _ [333, 15, 239, 38, 283, 334, 33, 34, 26, 36, 240, 241, 242, 14, 243, 45, 335, 336, 337, 2, 338, 339, 340, 341, 342, 43, 343, 245, 246, 247, 44, 248, 344, 345, 346, 347, 27, 348, 349, 350, 351, 352, 353, 354, 355, 356, 357, 358, 359, 29, 270, 271, 272, 25, 273, 274, 123, 91, 92, 93, 94, 95, 96, 275, 276, 277, 278, 360, 361, 362, 363, 305, 306, 307, 308, 364, 365, 366, 367, 368, 97, 98, 99, 100, 101, 102, 369, 370, 371, 372, 28, 373, 374, 375, 32, 376, 215, 181, 182, 183, 184, 185, 186, 216, 188, 189, 190, 191, 192, 193, 377, 378, 379, 380, 381, 315, 316, 317, 382, 383, 384, 385, 386, 387, 388, 389, 17, 198, 199, 200, 201, 202, 203, 204, 205, 111, 112, 206, 207, 208, 209, 210, 118, 119, 120, 121, 122, 211, 212, 213, 214, 217, 195, 196, 197, 125, 126, 127, 128, 129, 130, 131, 132, 133, 683, 684, 685, 686, 687, 688, 689, 690, 691, 692, 693, 694, 695, 696, 714, 715, 716, 720, 721, 722, 723, 724, 725, 726, 727, 728] (by decide +kernel) (by decide +kernel)
set_option maxRecDepth 20000 in
theorem gL_law_X4_five : GoodIn wsL_law (wsV RL 49 RX4 yX4_five wsX4_five) := goodIn_app (goodIn_of _ (by decide +kernel)) ggL_law_X4_five
set_option maxRecDepth 20000 in
theorem ggL_law_X5_five : GoodIn wsL_law wsX5_five := goodIn_r _ [393, 253, 72, 292, 157, 69, 71, 254, 255, 256, 5, 257, 67, 148, 149, 150, 394, 395, 396, 397, 64, 398, 399, 400, 401, 402, 403, 404, 405, 406, 407, 408, 409, 410, 411, 70, 412, 413, 414, 415, 416, 151, 152, 153, 154, 155, 156, 158, 65, 66, 159, 160, 161, 162, 163, 164, 165, 166, 167, 697, 698, 699, 700, 701, 702, 703, 704, 705, 706, 707, 708, 709, 710, 711, 712, 713] (by decide +kernel) (by decide +kernel)
set_option maxRecDepth 20000 in
theorem gL_law_X5_five : GoodIn wsL_law (wsV RL 53 RX5 yX5_five wsX5_five) := goodIn_app (goodIn_of _ (by decide +kernel)) ggL_law_X5_five
set_option maxRecDepth 20000 in
theorem ggL_law_X4_kind : GoodIn wsL_law wsX4_kind := goodIn_r _ [420, 17, 239, 33, 240, 241, 242, 14, 243, 45, 309, 310, 311, 32, 312, 313, 245, 246, 247, 43, 44, 248, 215, 181, 182, 183, 184, 185, 186, 216, 188, 189, 190, 191, 192, 193, 421, 422, 423, 424, 425, 426, 427, 428, 429, 430, 431, 2, 432, 433, 434, 435, 436, 683, 684, 685, 686, 687, 688, 689, 690, 691, 692, 693, 694, 695, 696, 723, 724, 725, 726, 727, 728, 714, 715, 716] (by decide +kernel) (by decide +kernel)
set_option maxRecDepth 20000 in
theorem gL_law_X4_kind : GoodIn wsL_law (wsV RL 54 RX4 yX4_kind wsX4_kind) := goodIn_app (goodIn_of _ (by decide +kernel)) ggL_law_X4_kind
set_option maxRecDepth 20000 in
theorem ggL_law_X5_kind : GoodIn wsL_law wsX5_kind := goodIn_r _ [440, 253, 66, 441, 254, 255, 256, 5, 257, 67, 148, 149, 150, 442, 443, 444, 445, 446, 447, 448, 449, 450, 451, 452, 453, 73, 234, 454, 455, 456, 457, 74, 458, 459, 460, 461, 462, 463, 464, 465, 697, 698, 699, 700, 701, 702, 703, 704, 705, 706, 707, 708, 709, 710, 711, 712, 713] (by decide +kernel) (by decide +kernel)
set_option maxRecDepth 20000 in
theorem gL_law_X5_kind : GoodIn wsL_law (wsV RL 57 RX5 yX5_kind wsX5_kind) := goodIn_app (goodIn_of _ (by decide +kernel)) ggL_law_X5_kind
set_option maxRecDepth 20000 in
theorem ggL_law_X4_told : GoodIn wsL_law wsX4_told := goodIn_r _ [469, 17, 470, 33, 471, 240, 241, 242, 14, 243, 45, 309, 310, 311, 32, 312, 313, 245, 246, 247, 43, 44, 248, 215, 181, 182, 183, 184, 185, 186, 216, 188, 189, 190, 191, 192, 193, 421, 422, 423, 424, 425, 426, 427, 428, 429, 683, 684, 685, 686, 687, 688, 689, 690, 691, 692, 693, 694, 695, 696, 714, 715, 716, 723, 724, 725, 726, 727, 728] (by decide +kernel) (by decide +kernel)
set_option maxRecDepth 20000 in
theorem gL_law_X4_told : GoodIn wsL_law (wsV RL 58 RX4 yX4_told wsX4_told) := goodIn_app (goodIn_of _ (by decide +kernel)) ggL_law_X4_told
set_option maxRecDepth 20000 in
theorem ggL_law_X5_told : GoodIn wsL_law wsX5_told := goodIn_r _ [475, 476, 477, 254, 255, 256, 5, 257, 67, 148, 149, 150, 442, 443, 444, 445, 446, 447, 448, 449, 66, 450, 451, 452, 453, 73, 234, 454, 455, 456, 457, 74, 458, 459, 460, 461, 462, 463, 464, 465, 697, 698, 699, 700, 701, 702, 703, 704, 705, 706, 707, 708, 709, 710, 711, 712, 713] (by decide +kernel) (by decide +kernel)
set_option maxRecDepth 20000 in
theorem gL_law_X5_told : GoodIn wsL_law (wsV RL 62 RX5 yX5_told wsX5_told) := goodIn_app (goodIn_of _ (by decide +kernel)) ggL_law_X5_told
set_option maxRecDepth 20000 in
theorem ggL_law_X4_round : GoodIn wsL_law wsX4_round := goodIn_r _ [481, 17, 239, 33, 240, 241, 242, 14, 243, 45, 309, 310, 311, 32, 312, 313, 245, 246, 247, 43, 44, 248, 215, 181, 182, 183, 184, 185, 186, 216, 188, 189, 190, 191, 192, 193, 683, 684, 685, 686, 687, 688, 689, 690, 691, 692, 693, 694, 695, 696, 723, 724, 725, 726, 727, 728, 714, 715, 716] (by decide +kernel) (by decide +kernel)
set_option maxRecDepth 20000 in
theorem gL_law_X4_round : GoodIn wsL_law (wsV RL 63 RX4 yX4_round wsX4_round) := goodIn_app (goodIn_of _ (by decide +kernel)) ggL_law_X4_round
set_option maxRecDepth 20000 in
theorem ggL_law_X5_round : GoodIn wsL_law wsX5_round := goodIn_r _ [485, 253, 66, 254, 255, 256, 5, 257, 67, 148, 149, 150, 697, 698, 699, 700, 701, 702, 703, 704, 705, 706, 707, 708, 709, 710, 711, 712, 713] (by decide +kernel) (by decide +kernel)
set_option maxRecDepth 20000 in
theorem gL_law_X5_round : GoodIn wsL_law (wsV RL 66 RX5 yX5_round wsX5_round) := goodIn_app (goodIn_of _ (by decide +kernel)) ggL_law_X5_round
set_option maxRecDepth 20000 in
theorem ggL_law_X4_polar : GoodIn wsL_law wsX4_polar := goodIn_r _ [489, 17, 15, 239, 33, 26, 29, 16, 240, 241, 242, 14, 243, 45, 309, 310, 311, 32, 312, 313, 245, 246, 247, 43, 44, 248, 215, 181, 182, 183, 184, 185, 186, 216, 188, 189, 190, 191, 192, 193, 270, 271, 272, 25, 273, 274, 123, 91, 92, 93, 94, 95, 96, 490, 491, 492, 493, 494, 279, 280, 281, 2, 282, 283, 103, 104, 105, 106, 107, 108, 109, 110, 111, 112, 113, 114, 115, 116, 117, 118, 119, 120, 121, 122, 124, 98, 99, 100, 101, 102, 125, 126, 127, 128, 129, 130, 131, 132, 133, 683, 684, 685, 686, 687, 688, 689, 690, 691, 692, 693, 694, 695, 696, 714, 715, 716, 723, 724, 725, 726, 727, 728, 720, 721, 722] (by decide +kernel) (by decide +kernel)
set_option maxRecDepth 20000 in
theorem gL_law_X4_polar : GoodIn wsL_law (wsV RL 67 RX4 yX4_polar wsX4_polar) := goodIn_app (goodIn_of _ (by decide +kernel)) ggL_law_X4_polar
set_option maxRecDepth 20000 in
theorem ggL_law_X5_polar : GoodIn wsL_law wsX5_polar := goodIn_r _ [498, 253, 73, 254, 255, 256, 5, 257, 67, 148, 149, 150, 446, 447, 448, 449, 66, 450, 451, 452, 453, 234, 499, 500, 501, 502, 69, 292, 258, 259, 260, 261, 64, 65, 151, 152, 153, 154, 155, 156, 157, 158, 159, 160, 161, 162, 163, 164, 165, 166, 167, 697, 698, 699, 700, 701, 702, 703, 704, 705, 706, 707, 708, 709, 710, 711, 712, 713] (by decide +kernel) (by decide +kernel)
set_option maxRecDepth 20000 in
theorem gL_law_X5_polar : GoodIn wsL_law (wsV RL 70 RX5 yX5_polar wsX5_polar) := goodIn_app (goodIn_of _ (by decide +kernel)) ggL_law_X5_polar
set_option maxRecDepth 20000 in
theorem ggL_law_X4_pole : GoodIn wsL_law wsX4_pole := goodIn_r _ [506, 17, 16, 239, 33, 283, 26, 35, 29, 15, 240, 241, 242, 14, 243, 45, 309, 310, 311, 32, 312, 313, 245, 246, 247, 43, 44, 248, 215, 181, 182, 183, 184, 185, 186, 216, 188, 189, 190, 191, 192, 193, 421, 422, 423, 424, 425, 270, 271, 272, 25, 273, 274, 123, 91, 92, 93, 94, 95, 96, 507, 508, 509, 510, 511, 512, 513, 514, 515, 279, 280, 281, 2, 282, 103, 104, 105, 106, 107, 108, 109, 110, 111, 112, 113, 114, 115, 116, 117, 118, 119, 120, 121, 122, 124, 98, 99, 100, 101, 102, 125, 126, 127, 128, 129, 130, 131, 132, 133, 683, 684, 685, 686, 687, 688, 689, 690, 691, 692, 693, 694, 695, 696, 714, 715, 716, 723, 724, 725, 726, 727, 728, 720, 721, 722] (by decide +kernel) (by decide +kernel)
set_option maxRecDepth 20000 in
theorem gL_law_X4_pole : GoodIn wsL_law (wsV RL 71 RX4 yX4_pole wsX4_pole) := goodIn_app (goodIn_of _ (by decide +kernel)) ggL_law_X4_pole
set_option maxRecDepth 20000 in
theorem ggL_law_X5_pole : GoodIn wsL_law wsX5_pole := goodIn_r _ [519, 253, 292, 74, 254, 255, 256, 5, 257, 67, 148, 149, 150, 442, 443, 444, 445, 446, 447, 448, 449, 66, 450, 451, 452, 453, 73, 234, 454, 455, 456, 457, 458, 459, 460, 461, 499, 500, 501, 502, 69, 258, 259, 260, 261, 64, 65, 151, 152, 153, 154, 155, 156, 157, 158, 159, 160, 161, 162, 163, 164, 165, 166, 167, 697, 698, 699, 700, 701, 702, 703, 704, 705, 706, 707, 708, 709, 710, 711, 712, 713] (by decide +kernel) (by decide +kernel)
set_option maxRecDepth 20000 in
theorem gL_law_X5_pole : GoodIn wsL_law (wsV RL 74 RX5 yX5_pole wsX5_pole) := goodIn_app (goodIn_of _ (by decide +kernel)) ggL_law_X5_pole
set_option maxRecDepth 20000 in
theorem ggL_law_X4_centre : GoodIn wsL_law wsX4_centre := goodIn_r _ [523, 17, 239, 33, 35, 29, 15, 240, 241, 242, 14, 243, 45, 309, 310, 311, 32, 312, 313, 245, 246, 247, 43, 44, 248, 215, 181, 182, 183, 184, 185, 186, 216, 188, 189, 190, 191, 192, 193, 507, 508, 509, 510, 425, 511, 90, 91, 92, 25, 93, 94, 95, 96, 279, 280, 281, 2, 282, 283, 103, 104, 105, 106, 107, 108, 109, 110, 111, 112, 113, 114, 115, 116, 117, 118, 119, 120, 121, 122, 123, 124, 98, 99, 100, 101, 102, 125, 126, 127, 128, 129, 130, 131, 132, 133, 683, 684, 685, 686, 687, 688, 689, 690, 691, 692, 693, 694, 695, 696, 723, 724, 725, 726, 727, 728, 714, 715, 716, 720, 721, 722] (by decide +kernel) (by decide +kernel)
set_option maxRecDepth 20000 in
theorem gL_law_X4_centre : GoodIn wsL_law (wsV RL 75 RX4 yX4_centre wsX4_centre) := goodIn_app (goodIn_of _ (by decide +kernel)) ggL_law_X4_centre
set_option maxRecDepth 20000 in
theorem ggL_law_X5_centre : GoodIn wsL_law wsX5_centre := goodIn_r _ [527, 253, 69, 74, 292, 254, 255, 256, 5, 257, 67, 148, 149, 150, 446, 447, 448, 449, 66, 450, 451, 452, 453, 73, 234, 458, 459, 460, 461, 151, 152, 153, 154, 155, 156, 157, 158, 64, 65, 159, 160, 161, 162, 163, 164, 165, 166, 167, 697, 698, 699, 700, 701, 702, 703, 704, 705, 706, 707, 708, 709, 710, 711, 712, 713] (by decide +kernel) (by decide +kernel)
set_option maxRecDepth 20000 in
theorem gL_law_X5_centre : GoodIn wsL_law (wsV RL 78 RX5 yX5_centre wsX5_centre) := goodIn_app (goodIn_of _ (by decide +kernel)) ggL_law_X5_centre
set_option maxRecDepth 20000 in
theorem ggL_law_X4_dual : GoodIn wsL_law wsX4_dual := goodIn_r _ [531, 17, 239, 33, 283, 35, 36, 532, 240, 241, 242, 14, 243, 45, 309, 310, 311, 32, 312, 313, 245, 246, 247, 43, 44, 248, 215, 181, 182, 183, 184, 185, 186, 216, 188, 189, 190, 191, 192, 193, 421, 422, 423, 424, 425, 507, 508, 509, 510, 511, 180, 187, 386, 387, 388, 2, 389, 198, 199, 200, 201, 202, 203, 204, 205, 111, 112, 206, 207, 208, 209, 210, 118, 119, 120, 121, 122, 211, 212, 213, 214, 217, 195, 196, 197, 101, 102, 125, 126, 127, 128, 129, 130, 131, 132, 133, 683, 684, 685, 686, 687, 688, 689, 690, 691, 692, 693, 694, 695, 696, 723, 724, 725, 726, 727, 728, 714, 715, 716] (by decide +kernel) (by decide +kernel)
set_option maxRecDepth 20000 in
theorem gL_law_X4_dual : GoodIn wsL_law (wsV RL 79 RX4 yX4_dual wsX4_dual) := goodIn_app (goodIn_of _ (by decide +kernel)) ggL_law_X4_dual
set_option maxRecDepth 20000 in
theorem ggL_law_X5_dual : GoodIn wsL_law wsX5_dual := goodIn_r _ [536, 253, 292, 69, 74, 234, 254, 255, 256, 5, 257, 67, 148, 149, 150, 442, 443, 444, 445, 446, 447, 448, 449, 66, 450, 451, 452, 453, 73, 454, 455, 456, 457, 458, 459, 460, 461, 151, 152, 153, 154, 155, 156, 157, 158, 64, 65, 159, 160, 161, 162, 163, 164, 165, 166, 167, 697, 698, 699, 700, 701, 702, 703, 704, 705, 706, 707, 708, 709, 710, 711, 712, 713] (by decide +kernel) (by decide +kernel)
set_option maxRecDepth 20000 in
theorem gL_law_X5_dual : GoodIn wsL_law (wsV RL 82 RX5 yX5_dual wsX5_dual) := goodIn_app (goodIn_of _ (by decide +kernel)) ggL_law_X5_dual
set_option maxRecDepth 20000 in
theorem ggL_law_X4_member : GoodIn wsL_law wsX4_member := goodIn_r _ [540, 17, 239, 541, 89, 33, 34, 36, 240, 241, 242, 14, 243, 45, 542, 101, 2, 102, 309, 310, 311, 32, 312, 313, 245, 246, 247, 43, 44, 248, 215, 181, 182, 183, 184, 185, 186, 216, 188, 189, 190, 191, 192, 193, 543, 383, 384, 385, 386, 387, 388, 389, 283, 198, 199, 200, 201, 202, 203, 204, 205, 111, 112, 206, 207, 208, 209, 210, 118, 119, 120, 121, 122, 211, 212, 213, 214, 217, 195, 196, 197, 125, 126, 127, 128, 129, 130, 131, 132, 133, 683, 684, 685, 686, 687, 688, 689, 690, 691, 692, 693, 694, 695, 696, 714, 715, 716, 723, 724, 725, 726, 727, 728] (by decide +kernel) (by decide +kernel)
set_option maxRecDepth 20000 in
theorem gL_law_X4_member : GoodIn wsL_law (wsV RL 83 RX4 yX4_member wsX4_member) := goodIn_app (goodIn_of _ (by decide +kernel)) ggL_law_X4_member
set_option maxRecDepth 20000 in
theorem ggL_law_X5_member : GoodIn wsL_law wsX5_member := goodIn_r _ [547, 253, 155, 156, 142, 292, 254, 255, 256, 5, 257, 67, 148, 149, 150, 548, 549, 550, 551, 69, 66, 151, 152, 153, 154, 157, 158, 64, 65, 159, 160, 161, 162, 163, 164, 165, 166, 167, 697, 698, 699, 700, 701, 702, 703, 704, 705, 706, 707, 708, 709, 710, 711, 712, 713] (by decide +kernel) (by decide +kernel)
set_option maxRecDepth 20000 in
theorem gL_law_X5_member : GoodIn wsL_law (wsV RL 87 RX5 yX5_member wsX5_member) := goodIn_app (goodIn_of _ (by decide +kernel)) ggL_law_X5_member
set_option maxRecDepth 20000 in
theorem ggL_law_X4_through : GoodIn wsL_law wsX4_through := goodIn_r _ [555, 17, 15, 239, 33, 34, 26, 36, 240, 241, 242, 14, 243, 45, 309, 310, 311, 32, 312, 313, 245, 246, 247, 43, 44, 248, 215, 181, 182, 183, 184, 185, 186, 216, 188, 189, 190, 191, 192, 193, 270, 271, 272, 25, 273, 274, 123, 91, 92, 93, 94, 95, 96, 377, 378, 379, 380, 381, 315, 316, 317, 382, 383, 384, 385, 386, 387, 388, 2, 389, 283, 198, 199, 200, 201, 202, 203, 204, 205, 111, 112, 206, 207, 208, 209, 210, 118, 119, 120, 121, 122, 211, 212, 213, 214, 217, 195, 196, 197, 101, 102, 125, 126, 127, 128, 129, 130, 131, 132, 133, 683, 684, 685, 686, 687, 688, 689, 690, 691, 692, 693, 694, 695, 696, 714, 715, 716, 723, 724, 725, 726, 727, 728, 720, 721, 722] (by decide +kernel) (by decide +kernel)
set_option maxRecDepth 20000 in
theorem gL_law_X4_through : GoodIn wsL_law (wsV RL 88 RX4 yX4_through wsX4_through) := goodIn_app (goodIn_of _ (by decide +kernel)) ggL_law_X4_through
set_option maxRecDepth 20000 in
theorem ggL_law_X5_through : GoodIn wsL_law wsX5_through := goodIn_r _ [559, 253, 292, 254, 255, 256, 5, 257, 67, 148, 149, 150, 322, 323, 324, 325, 64, 326, 327, 328, 329, 66, 548, 549, 550, 551, 69, 151, 152, 153, 154, 155, 156, 157, 158, 65, 159, 160, 161, 162, 163, 164, 165, 166, 167, 697, 698, 699, 700, 701, 702, 703, 704, 705, 706, 707, 708, 709, 710, 711, 712, 713] (by decide +kernel) (by decide +kernel)
set_option maxRecDepth 20000 in
theorem gL_law_X5_through : GoodIn wsL_law (wsV RL 91 RX5 yX5_through wsX5_through) := goodIn_app (goodIn_of _ (by decide +kernel)) ggL_law_X5_through
set_option maxRecDepth 20000 in
theorem ggL_law_X4_cubic : GoodIn wsL_law wsX4_cubic := goodIn_r _ [563, 17, 470, 471, 33, 34, 240, 241, 242, 14, 243, 45, 309, 310, 311, 32, 312, 313, 245, 246, 247, 43, 44, 248, 215, 181, 182, 183, 184, 185, 186, 216, 188, 189, 190, 191, 192, 193, 421, 422, 423, 424, 425, 564, 565, 566, 2, 567, 35, 507, 508, 509, 510, 511, 683, 684, 685, 686, 687, 688, 689, 690, 691, 692, 693, 694, 695, 696, 714, 715, 716, 723, 724, 725, 726, 727, 728] (by decide +kernel) (by decide +kernel)
set_option maxRecDepth 20000 in
theorem gL_law_X4_cubic : GoodIn wsL_law (wsV RL 92 RX4 yX4_cubic wsX4_cubic) := goodIn_app (goodIn_of _ (by decide +kernel)) ggL_law_X4_cubic
set_option maxRecDepth 20000 in
theorem ggL_law_X5_cubic : GoodIn wsL_law wsX5_cubic := goodIn_r _ [571, 476, 572, 477, 573, 234, 254, 255, 256, 5, 257, 67, 148, 149, 150, 442, 443, 444, 445, 446, 447, 448, 449, 66, 450, 451, 452, 453, 73, 454, 455, 456, 457, 74, 458, 459, 460, 461, 574, 575, 576, 577, 69, 548, 549, 550, 551, 697, 698, 699, 700, 701, 702, 703, 704, 705, 706, 707, 708, 709, 710, 711, 712, 713] (by decide +kernel) (by decide +kernel)
set_option maxRecDepth 20000 in
theorem gL_law_X5_cubic : GoodIn wsL_law (wsV RL 96 RX5 yX5_cubic wsX5_cubic) := goodIn_app (goodIn_of _ (by decide +kernel)) ggL_law_X5_cubic
set_option maxRecDepth 20000 in
theorem ggL_law_X4_cross : GoodIn wsL_law wsX4_cross := goodIn_r _ [581, 17, 16, 239, 33, 26, 36, 21, 240, 241, 242, 14, 243, 45, 309, 310, 311, 32, 312, 313, 245, 246, 247, 43, 44, 248, 215, 181, 182, 183, 184, 185, 186, 216, 188, 189, 190, 191, 192, 193, 270, 271, 272, 25, 273, 274, 123, 91, 92, 93, 94, 95, 96, 582, 583, 584, 2, 585, 29, 27, 90, 314, 315, 316, 317, 490, 491, 492, 493, 494, 305, 306, 307, 308, 180, 187, 198, 199, 200, 201, 586, 587, 588, 20, 589, 53, 590, 591, 592, 593, 35, 507, 508, 509, 510, 425, 511, 594, 595, 596, 597, 598, 599, 600, 601, 602, 603, 604, 605, 606, 607, 608, 609, 104, 105, 106, 610, 114, 115, 116, 117, 118, 119, 120, 121, 122, 611, 612, 613, 614, 52, 51, 615, 616, 617, 618, 683, 684, 685, 686, 687, 688, 689, 690, 691, 692, 693, 694, 695, 696, 714, 715, 716, 723, 724, 725, 726, 727, 728, 720, 721, 722, 717, 718, 719] (by decide +kernel) (by decide +kernel)
set_option maxRecDepth 20000 in
theorem gL_law_X4_cross : GoodIn wsL_law (wsV RL 97 RX4 yX4_cross wsX4_cross) := goodIn_app (goodIn_of _ (by decide +kernel)) ggL_law_X4_cross
set_option maxRecDepth 20000 in
theorem ggL_law_X5_cross : GoodIn wsL_law wsX5_cross := goodIn_r _ [622, 253, 623, 77, 78, 73, 441, 75, 234, 254, 255, 256, 5, 257, 67, 148, 149, 150, 624, 625, 626, 627, 65, 162, 163, 164, 165, 166, 167, 326, 327, 328, 329, 66, 446, 447, 448, 449, 450, 451, 452, 453, 628, 629, 630, 631, 632, 633, 634, 635, 79, 636, 637, 638, 697, 698, 699, 700, 701, 702, 703, 704, 705, 706, 707, 708, 709, 710, 711, 712, 713] (by decide +kernel) (by decide +kernel)
set_option maxRecDepth 20000 in
theorem gL_law_X5_cross : GoodIn wsL_law (wsV RL 100 RX5 yX5_cross wsX5_cross) := goodIn_app (goodIn_of _ (by decide +kernel)) ggL_law_X5_cross
set_option maxRecDepth 20000 in
theorem ggL_law_X4_crossing : GoodIn wsL_law wsX4_crossing := goodIn_r _ [642, 21, 643, 644, 645, 20, 646, 647, 53, 648, 51, 52, 649, 650, 651, 25, 652, 94, 95, 96, 683, 684, 685, 686, 687, 688, 689, 690, 691, 692, 693, 694, 695, 696, 717, 718, 719, 720, 721, 722] (by decide +kernel) (by decide +kernel)
set_option maxRecDepth 20000 in
theorem gL_law_X4_crossing : GoodIn wsL_law (wsV RL 101 RX4 yX4_crossing wsX4_crossing) := goodIn_app (goodIn_of _ (by decide +kernel)) ggL_law_X4_crossing
set_option maxRecDepth 20000 in
theorem ggL_law_X5_crossing : GoodIn wsL_law wsX5_crossing := goodIn_r _ [656, 234, 477, 623, 75, 657, 148, 149, 5, 150, 697, 698, 699, 700, 701, 702, 703, 704, 705, 706, 707, 708, 709, 710, 711, 712, 713] (by decide +kernel) (by decide +kernel)
set_option maxRecDepth 20000 in
theorem gL_law_X5_crossing : GoodIn wsL_law (wsV RL 104 RX5 yX5_crossing wsX5_crossing) := goodIn_app (goodIn_of _ (by decide +kernel)) ggL_law_X5_crossing
set_option maxRecDepth 20000 in
theorem ggL_law_X4_split : GoodIn wsL_law wsX4_split := goodIn_r _ [661, 17, 239, 33, 283, 22, 240, 241, 242, 14, 243, 45, 309, 310, 311, 32, 312, 313, 245, 246, 247, 43, 44, 248, 215, 181, 182, 183, 184, 185, 186, 216, 188, 189, 190, 191, 192, 193, 421, 422, 423, 424, 425, 590, 591, 592, 2, 593, 35, 29, 586, 587, 588, 20, 589, 53, 507, 508, 509, 510, 511, 594, 595, 596, 597, 598, 599, 600, 601, 602, 603, 25, 604, 123, 91, 92, 93, 94, 95, 96, 605, 606, 607, 608, 494, 609, 104, 105, 106, 610, 114, 115, 116, 117, 118, 119, 120, 121, 122, 90, 611, 612, 613, 614, 52, 51, 615, 616, 617, 618, 683, 684, 685, 686, 687, 688, 689, 690, 691, 692, 693, 694, 695, 696, 714, 715, 716, 723, 724, 725, 726, 727, 728, 717, 718, 719, 720, 721, 722] (by decide +kernel) (by decide +kernel)
set_option maxRecDepth 20000 in
theorem gL_law_X4_split : GoodIn wsL_law (wsV RL 105 RX4 yX4_split wsX4_split) := goodIn_app (goodIn_of _ (by decide +kernel)) ggL_law_X4_split
set_option maxRecDepth 20000 in
theorem ggL_law_X5_split : GoodIn wsL_law wsX5_split := goodIn_r _ [665, 253, 292, 666, 416, 74, 254, 255, 256, 5, 257, 67, 148, 149, 150, 442, 443, 444, 445, 446, 447, 448, 449, 66, 450, 451, 452, 453, 73, 234, 454, 455, 456, 457, 458, 459, 460, 461, 667, 668, 669, 670, 76, 671, 672, 673, 674, 79, 162, 163, 164, 165, 166, 167, 636, 637, 638, 628, 629, 630, 631, 697, 698, 699, 700, 701, 702, 703, 704, 705, 706, 707, 708, 709, 710, 711, 712, 713] (by decide +kernel) (by decide +kernel)
set_option maxRecDepth 20000 in
theorem gL_law_X5_split : GoodIn wsL_law (wsV RL 108 RX5 yX5_split wsX5_split) := goodIn_app (goodIn_of _ (by decide +kernel)) ggL_law_X5_split
set_option maxRecDepth 20000 in
theorem ggL_law_X4_part : GoodIn wsL_law wsX4_part := goodIn_r _ [678, 22, 643, 644, 645, 20, 646, 647, 53, 648, 51, 52, 649, 650, 651, 25, 652, 94, 95, 96, 683, 684, 685, 686, 687, 688, 689, 690, 691, 692, 693, 694, 695, 696, 717, 718, 719, 720, 721, 722] (by decide +kernel) (by decide +kernel)
set_option maxRecDepth 20000 in
theorem gL_law_X4_part : GoodIn wsL_law (wsV RL 109 RX4 yX4_part wsX4_part) := goodIn_app (goodIn_of _ (by decide +kernel)) ggL_law_X4_part
set_option maxRecDepth 20000 in
theorem ggL_law_X5_part : GoodIn wsL_law wsX5_part := goodIn_r _ [682, 234, 477, 666, 76, 657, 148, 149, 5, 150, 697, 698, 699, 700, 701, 702, 703, 704, 705, 706, 707, 708, 709, 710, 711, 712, 713] (by decide +kernel) (by decide +kernel)
set_option maxRecDepth 20000 in
theorem gL_law_X5_part : GoodIn wsL_law (wsV RL 112 RX5 yX5_part wsX5_part) := goodIn_app (goodIn_of _ (by decide +kernel)) ggL_law_X5_part
theorem dL_law_0 : decode cL_law 0 = .ok (.new 7, 3) := by decide +kernel
theorem dL_law_3 : decode cL_law 3 = .ok (.dup, 1) := by decide +kernel
theorem dL_law_4 : decode cL_law 4 = .ok (.invokespecial 9, 3) := by decide +kernel
theorem dL_law_7 : decode cL_law 7 = .ok (.astore_n 1, 1) := by decide +kernel
theorem dL_law_8 : decode cL_law 8 = .ok (.new 10, 3) := by decide +kernel
theorem dL_law_11 : decode cL_law 11 = .ok (.dup, 1) := by decide +kernel
theorem dL_law_12 : decode cL_law 12 = .ok (.invokespecial 12, 3) := by decide +kernel
theorem dL_law_15 : decode cL_law 15 = .ok (.astore_n 2, 1) := by decide +kernel
theorem dL_law_16 : decode cL_law 16 = .ok (.iconst 0, 1) := by decide +kernel
theorem dL_law_17 : decode cL_law 17 = .ok (.istore_n 3, 1) := by decide +kernel
theorem dL_law_18 : decode cL_law 18 = .ok (.iload_n 3, 1) := by decide +kernel
theorem dL_law_19 : decode cL_law 19 = .ok (.aload_n 0, 1) := by decide +kernel
theorem dL_law_20 : decode cL_law 20 = .ok (.arraylength, 1) := by decide +kernel
theorem dL_law_21 : decode cL_law 21 = .ok (.bipush 7, 2) := by decide +kernel
theorem dL_law_23 : decode cL_law 23 = .ok (.isub, 1) := by decide +kernel
theorem dL_law_24 : decode cL_law 24 = .ok (.if_icmp .gt 977, 3) := by decide +kernel
theorem dL_law_27 : decode cL_law 27 = .ok (.aload_n 0, 1) := by decide +kernel
theorem dL_law_28 : decode cL_law 28 = .ok (.iload_n 3, 1) := by decide +kernel
theorem dL_law_29 : decode cL_law 29 = .ok (.iaload, 1) := by decide +kernel
theorem dL_law_30 : decode cL_law 30 = .ok (.bipush 31, 2) := by decide +kernel
theorem dL_law_32 : decode cL_law 32 = .ok (.iand, 1) := by decide +kernel
theorem dL_law_33 : decode cL_law 33 = .ok (.tableswitch 962 0 22 #[107, 150, 193, 268, 291, 334, 367, 400, 443, 506, 529, 563, 586, 619, 652, 675, 698, 751, 794, 838, 871, 905, 928], 107) := by decide +kernel
theorem dL_law_140 : decode cL_law 140 = .ok (.aload_n 1, 1) := by decide +kernel
theorem dL_law_141 : decode cL_law 141 = .ok (.aload_n 0, 1) := by decide +kernel
theorem dL_law_142 : decode cL_law 142 = .ok (.iload_n 3, 1) := by decide +kernel
theorem dL_law_143 : decode cL_law 143 = .ok (.iconst 1, 1) := by decide +kernel
theorem dL_law_144 : decode cL_law 144 = .ok (.iadd, 1) := by decide +kernel
theorem dL_law_145 : decode cL_law 145 = .ok (.iaload, 1) := by decide +kernel
theorem dL_law_146 : decode cL_law 146 = .ok (.aload_n 0, 1) := by decide +kernel
theorem dL_law_147 : decode cL_law 147 = .ok (.iload_n 3, 1) := by decide +kernel
theorem dL_law_148 : decode cL_law 148 = .ok (.iconst 2, 1) := by decide +kernel
theorem dL_law_149 : decode cL_law 149 = .ok (.iadd, 1) := by decide +kernel
theorem dL_law_150 : decode cL_law 150 = .ok (.iaload, 1) := by decide +kernel
theorem dL_law_151 : decode cL_law 151 = .ok (.aload_n 0, 1) := by decide +kernel
theorem dL_law_152 : decode cL_law 152 = .ok (.iload_n 3, 1) := by decide +kernel
theorem dL_law_153 : decode cL_law 153 = .ok (.iconst 3, 1) := by decide +kernel
theorem dL_law_154 : decode cL_law 154 = .ok (.iadd, 1) := by decide +kernel
theorem dL_law_155 : decode cL_law 155 = .ok (.iaload, 1) := by decide +kernel
theorem dL_law_156 : decode cL_law 156 = .ok (.invokevirtual 13, 3) := by decide +kernel
theorem dL_law_159 : decode cL_law 159 = .ok (.aload_n 2, 1) := by decide +kernel
theorem dL_law_160 : decode cL_law 160 = .ok (.aload_n 0, 1) := by decide +kernel
theorem dL_law_161 : decode cL_law 161 = .ok (.iload_n 3, 1) := by decide +kernel
theorem dL_law_162 : decode cL_law 162 = .ok (.iconst 1, 1) := by decide +kernel
theorem dL_law_163 : decode cL_law 163 = .ok (.iadd, 1) := by decide +kernel
theorem dL_law_164 : decode cL_law 164 = .ok (.iaload, 1) := by decide +kernel
theorem dL_law_165 : decode cL_law 165 = .ok (.aload_n 0, 1) := by decide +kernel
theorem dL_law_166 : decode cL_law 166 = .ok (.iload_n 3, 1) := by decide +kernel
theorem dL_law_167 : decode cL_law 167 = .ok (.iconst 2, 1) := by decide +kernel
theorem dL_law_168 : decode cL_law 168 = .ok (.iadd, 1) := by decide +kernel
theorem dL_law_169 : decode cL_law 169 = .ok (.iaload, 1) := by decide +kernel
theorem dL_law_170 : decode cL_law 170 = .ok (.aload_n 0, 1) := by decide +kernel
theorem dL_law_171 : decode cL_law 171 = .ok (.iload_n 3, 1) := by decide +kernel
theorem dL_law_172 : decode cL_law 172 = .ok (.iconst 3, 1) := by decide +kernel
theorem dL_law_173 : decode cL_law 173 = .ok (.iadd, 1) := by decide +kernel
theorem dL_law_174 : decode cL_law 174 = .ok (.iaload, 1) := by decide +kernel
theorem dL_law_175 : decode cL_law 175 = .ok (.invokevirtual 17, 3) := by decide +kernel
theorem dL_law_178 : decode cL_law 178 = .ok (.if_icmp .eq 817, 3) := by decide +kernel
theorem dL_law_181 : decode cL_law 181 = .ok (.iconst 0, 1) := by decide +kernel
theorem dL_law_182 : decode cL_law 182 = .ok (.ireturn, 1) := by decide +kernel
theorem dL_law_183 : decode cL_law 183 = .ok (.aload_n 1, 1) := by decide +kernel
theorem dL_law_184 : decode cL_law 184 = .ok (.aload_n 0, 1) := by decide +kernel
theorem dL_law_185 : decode cL_law 185 = .ok (.iload_n 3, 1) := by decide +kernel
theorem dL_law_186 : decode cL_law 186 = .ok (.iconst 1, 1) := by decide +kernel
theorem dL_law_187 : decode cL_law 187 = .ok (.iadd, 1) := by decide +kernel
theorem dL_law_188 : decode cL_law 188 = .ok (.iaload, 1) := by decide +kernel
theorem dL_law_189 : decode cL_law 189 = .ok (.aload_n 0, 1) := by decide +kernel
theorem dL_law_190 : decode cL_law 190 = .ok (.iload_n 3, 1) := by decide +kernel
theorem dL_law_191 : decode cL_law 191 = .ok (.iconst 2, 1) := by decide +kernel
theorem dL_law_192 : decode cL_law 192 = .ok (.iadd, 1) := by decide +kernel
theorem dL_law_193 : decode cL_law 193 = .ok (.iaload, 1) := by decide +kernel
theorem dL_law_194 : decode cL_law 194 = .ok (.aload_n 0, 1) := by decide +kernel
theorem dL_law_195 : decode cL_law 195 = .ok (.iload_n 3, 1) := by decide +kernel
theorem dL_law_196 : decode cL_law 196 = .ok (.iconst 3, 1) := by decide +kernel
theorem dL_law_197 : decode cL_law 197 = .ok (.iadd, 1) := by decide +kernel
theorem dL_law_198 : decode cL_law 198 = .ok (.iaload, 1) := by decide +kernel
theorem dL_law_199 : decode cL_law 199 = .ok (.invokevirtual 18, 3) := by decide +kernel
theorem dL_law_202 : decode cL_law 202 = .ok (.aload_n 2, 1) := by decide +kernel
theorem dL_law_203 : decode cL_law 203 = .ok (.aload_n 0, 1) := by decide +kernel
theorem dL_law_204 : decode cL_law 204 = .ok (.iload_n 3, 1) := by decide +kernel
theorem dL_law_205 : decode cL_law 205 = .ok (.iconst 1, 1) := by decide +kernel
theorem dL_law_206 : decode cL_law 206 = .ok (.iadd, 1) := by decide +kernel
theorem dL_law_207 : decode cL_law 207 = .ok (.iaload, 1) := by decide +kernel
theorem dL_law_208 : decode cL_law 208 = .ok (.aload_n 0, 1) := by decide +kernel
theorem dL_law_209 : decode cL_law 209 = .ok (.iload_n 3, 1) := by decide +kernel
theorem dL_law_210 : decode cL_law 210 = .ok (.iconst 2, 1) := by decide +kernel
theorem dL_law_211 : decode cL_law 211 = .ok (.iadd, 1) := by decide +kernel
theorem dL_law_212 : decode cL_law 212 = .ok (.iaload, 1) := by decide +kernel
theorem dL_law_213 : decode cL_law 213 = .ok (.aload_n 0, 1) := by decide +kernel
theorem dL_law_214 : decode cL_law 214 = .ok (.iload_n 3, 1) := by decide +kernel
theorem dL_law_215 : decode cL_law 215 = .ok (.iconst 3, 1) := by decide +kernel
theorem dL_law_216 : decode cL_law 216 = .ok (.iadd, 1) := by decide +kernel
theorem dL_law_217 : decode cL_law 217 = .ok (.iaload, 1) := by decide +kernel
theorem dL_law_218 : decode cL_law 218 = .ok (.invokevirtual 21, 3) := by decide +kernel
theorem dL_law_221 : decode cL_law 221 = .ok (.if_icmp .eq 774, 3) := by decide +kernel
theorem dL_law_224 : decode cL_law 224 = .ok (.iconst 0, 1) := by decide +kernel
theorem dL_law_225 : decode cL_law 225 = .ok (.ireturn, 1) := by decide +kernel
theorem dL_law_226 : decode cL_law 226 = .ok (.aload_n 1, 1) := by decide +kernel
theorem dL_law_227 : decode cL_law 227 = .ok (.aload_n 0, 1) := by decide +kernel
theorem dL_law_228 : decode cL_law 228 = .ok (.iload_n 3, 1) := by decide +kernel
theorem dL_law_229 : decode cL_law 229 = .ok (.iconst 1, 1) := by decide +kernel
theorem dL_law_230 : decode cL_law 230 = .ok (.iadd, 1) := by decide +kernel
theorem dL_law_231 : decode cL_law 231 = .ok (.iaload, 1) := by decide +kernel
theorem dL_law_232 : decode cL_law 232 = .ok (.aload_n 0, 1) := by decide +kernel
theorem dL_law_233 : decode cL_law 233 = .ok (.iload_n 3, 1) := by decide +kernel
theorem dL_law_234 : decode cL_law 234 = .ok (.iconst 2, 1) := by decide +kernel
theorem dL_law_235 : decode cL_law 235 = .ok (.iadd, 1) := by decide +kernel
theorem dL_law_236 : decode cL_law 236 = .ok (.iaload, 1) := by decide +kernel
theorem dL_law_237 : decode cL_law 237 = .ok (.aload_n 0, 1) := by decide +kernel
theorem dL_law_238 : decode cL_law 238 = .ok (.iload_n 3, 1) := by decide +kernel
theorem dL_law_239 : decode cL_law 239 = .ok (.iconst 3, 1) := by decide +kernel
theorem dL_law_240 : decode cL_law 240 = .ok (.iadd, 1) := by decide +kernel
theorem dL_law_241 : decode cL_law 241 = .ok (.iaload, 1) := by decide +kernel
theorem dL_law_242 : decode cL_law 242 = .ok (.aload_n 0, 1) := by decide +kernel
theorem dL_law_243 : decode cL_law 243 = .ok (.iload_n 3, 1) := by decide +kernel
theorem dL_law_244 : decode cL_law 244 = .ok (.iconst 4, 1) := by decide +kernel
theorem dL_law_245 : decode cL_law 245 = .ok (.iadd, 1) := by decide +kernel
theorem dL_law_246 : decode cL_law 246 = .ok (.iaload, 1) := by decide +kernel
theorem dL_law_247 : decode cL_law 247 = .ok (.aload_n 0, 1) := by decide +kernel
theorem dL_law_248 : decode cL_law 248 = .ok (.iload_n 3, 1) := by decide +kernel
theorem dL_law_249 : decode cL_law 249 = .ok (.iconst 5, 1) := by decide +kernel
theorem dL_law_250 : decode cL_law 250 = .ok (.iadd, 1) := by decide +kernel
theorem dL_law_251 : decode cL_law 251 = .ok (.iaload, 1) := by decide +kernel
theorem dL_law_252 : decode cL_law 252 = .ok (.aload_n 0, 1) := by decide +kernel
theorem dL_law_253 : decode cL_law 253 = .ok (.iload_n 3, 1) := by decide +kernel
theorem dL_law_254 : decode cL_law 254 = .ok (.bipush 6, 2) := by decide +kernel
theorem dL_law_256 : decode cL_law 256 = .ok (.iadd, 1) := by decide +kernel
theorem dL_law_257 : decode cL_law 257 = .ok (.iaload, 1) := by decide +kernel
theorem dL_law_258 : decode cL_law 258 = .ok (.invokevirtual 22, 3) := by decide +kernel
theorem dL_law_261 : decode cL_law 261 = .ok (.aload_n 2, 1) := by decide +kernel
theorem dL_law_262 : decode cL_law 262 = .ok (.aload_n 0, 1) := by decide +kernel
theorem dL_law_263 : decode cL_law 263 = .ok (.iload_n 3, 1) := by decide +kernel
theorem dL_law_264 : decode cL_law 264 = .ok (.iconst 1, 1) := by decide +kernel
theorem dL_law_265 : decode cL_law 265 = .ok (.iadd, 1) := by decide +kernel
theorem dL_law_266 : decode cL_law 266 = .ok (.iaload, 1) := by decide +kernel
theorem dL_law_267 : decode cL_law 267 = .ok (.aload_n 0, 1) := by decide +kernel
theorem dL_law_268 : decode cL_law 268 = .ok (.iload_n 3, 1) := by decide +kernel
theorem dL_law_269 : decode cL_law 269 = .ok (.iconst 2, 1) := by decide +kernel
theorem dL_law_270 : decode cL_law 270 = .ok (.iadd, 1) := by decide +kernel
theorem dL_law_271 : decode cL_law 271 = .ok (.iaload, 1) := by decide +kernel
theorem dL_law_272 : decode cL_law 272 = .ok (.aload_n 0, 1) := by decide +kernel
theorem dL_law_273 : decode cL_law 273 = .ok (.iload_n 3, 1) := by decide +kernel
theorem dL_law_274 : decode cL_law 274 = .ok (.iconst 3, 1) := by decide +kernel
theorem dL_law_275 : decode cL_law 275 = .ok (.iadd, 1) := by decide +kernel
theorem dL_law_276 : decode cL_law 276 = .ok (.iaload, 1) := by decide +kernel
theorem dL_law_277 : decode cL_law 277 = .ok (.aload_n 0, 1) := by decide +kernel
theorem dL_law_278 : decode cL_law 278 = .ok (.iload_n 3, 1) := by decide +kernel
theorem dL_law_279 : decode cL_law 279 = .ok (.iconst 4, 1) := by decide +kernel
theorem dL_law_280 : decode cL_law 280 = .ok (.iadd, 1) := by decide +kernel
theorem dL_law_281 : decode cL_law 281 = .ok (.iaload, 1) := by decide +kernel
theorem dL_law_282 : decode cL_law 282 = .ok (.aload_n 0, 1) := by decide +kernel
theorem dL_law_283 : decode cL_law 283 = .ok (.iload_n 3, 1) := by decide +kernel
theorem dL_law_284 : decode cL_law 284 = .ok (.iconst 5, 1) := by decide +kernel
theorem dL_law_285 : decode cL_law 285 = .ok (.iadd, 1) := by decide +kernel
theorem dL_law_286 : decode cL_law 286 = .ok (.iaload, 1) := by decide +kernel
theorem dL_law_287 : decode cL_law 287 = .ok (.aload_n 0, 1) := by decide +kernel
theorem dL_law_288 : decode cL_law 288 = .ok (.iload_n 3, 1) := by decide +kernel
theorem dL_law_289 : decode cL_law 289 = .ok (.bipush 6, 2) := by decide +kernel
theorem dL_law_291 : decode cL_law 291 = .ok (.iadd, 1) := by decide +kernel
theorem dL_law_292 : decode cL_law 292 = .ok (.iaload, 1) := by decide +kernel
theorem dL_law_293 : decode cL_law 293 = .ok (.invokevirtual 26, 3) := by decide +kernel
theorem dL_law_296 : decode cL_law 296 = .ok (.if_icmp .eq 699, 3) := by decide +kernel
theorem dL_law_299 : decode cL_law 299 = .ok (.iconst 0, 1) := by decide +kernel
theorem dL_law_300 : decode cL_law 300 = .ok (.ireturn, 1) := by decide +kernel
theorem dL_law_301 : decode cL_law 301 = .ok (.aload_n 1, 1) := by decide +kernel
theorem dL_law_302 : decode cL_law 302 = .ok (.aload_n 0, 1) := by decide +kernel
theorem dL_law_303 : decode cL_law 303 = .ok (.iload_n 3, 1) := by decide +kernel
theorem dL_law_304 : decode cL_law 304 = .ok (.iconst 1, 1) := by decide +kernel
theorem dL_law_305 : decode cL_law 305 = .ok (.iadd, 1) := by decide +kernel
theorem dL_law_306 : decode cL_law 306 = .ok (.iaload, 1) := by decide +kernel
theorem dL_law_307 : decode cL_law 307 = .ok (.invokevirtual 27, 3) := by decide +kernel
theorem dL_law_310 : decode cL_law 310 = .ok (.aload_n 2, 1) := by decide +kernel
theorem dL_law_311 : decode cL_law 311 = .ok (.aload_n 0, 1) := by decide +kernel
theorem dL_law_312 : decode cL_law 312 = .ok (.iload_n 3, 1) := by decide +kernel
theorem dL_law_313 : decode cL_law 313 = .ok (.iconst 1, 1) := by decide +kernel
theorem dL_law_314 : decode cL_law 314 = .ok (.iadd, 1) := by decide +kernel
theorem dL_law_315 : decode cL_law 315 = .ok (.iaload, 1) := by decide +kernel
theorem dL_law_316 : decode cL_law 316 = .ok (.invokevirtual 31, 3) := by decide +kernel
theorem dL_law_319 : decode cL_law 319 = .ok (.if_icmp .eq 676, 3) := by decide +kernel
theorem dL_law_322 : decode cL_law 322 = .ok (.iconst 0, 1) := by decide +kernel
theorem dL_law_323 : decode cL_law 323 = .ok (.ireturn, 1) := by decide +kernel
theorem dL_law_324 : decode cL_law 324 = .ok (.aload_n 1, 1) := by decide +kernel
theorem dL_law_325 : decode cL_law 325 = .ok (.aload_n 0, 1) := by decide +kernel
theorem dL_law_326 : decode cL_law 326 = .ok (.iload_n 3, 1) := by decide +kernel
theorem dL_law_327 : decode cL_law 327 = .ok (.iconst 1, 1) := by decide +kernel
theorem dL_law_328 : decode cL_law 328 = .ok (.iadd, 1) := by decide +kernel
theorem dL_law_329 : decode cL_law 329 = .ok (.iaload, 1) := by decide +kernel
theorem dL_law_330 : decode cL_law 330 = .ok (.aload_n 0, 1) := by decide +kernel
theorem dL_law_331 : decode cL_law 331 = .ok (.iload_n 3, 1) := by decide +kernel
theorem dL_law_332 : decode cL_law 332 = .ok (.iconst 2, 1) := by decide +kernel
theorem dL_law_333 : decode cL_law 333 = .ok (.iadd, 1) := by decide +kernel
theorem dL_law_334 : decode cL_law 334 = .ok (.iaload, 1) := by decide +kernel
theorem dL_law_335 : decode cL_law 335 = .ok (.aload_n 0, 1) := by decide +kernel
theorem dL_law_336 : decode cL_law 336 = .ok (.iload_n 3, 1) := by decide +kernel
theorem dL_law_337 : decode cL_law 337 = .ok (.iconst 3, 1) := by decide +kernel
theorem dL_law_338 : decode cL_law 338 = .ok (.iadd, 1) := by decide +kernel
theorem dL_law_339 : decode cL_law 339 = .ok (.iaload, 1) := by decide +kernel
theorem dL_law_340 : decode cL_law 340 = .ok (.invokevirtual 32, 3) := by decide +kernel
theorem dL_law_343 : decode cL_law 343 = .ok (.aload_n 2, 1) := by decide +kernel
theorem dL_law_344 : decode cL_law 344 = .ok (.aload_n 0, 1) := by decide +kernel
theorem dL_law_345 : decode cL_law 345 = .ok (.iload_n 3, 1) := by decide +kernel
theorem dL_law_346 : decode cL_law 346 = .ok (.iconst 1, 1) := by decide +kernel
theorem dL_law_347 : decode cL_law 347 = .ok (.iadd, 1) := by decide +kernel
theorem dL_law_348 : decode cL_law 348 = .ok (.iaload, 1) := by decide +kernel
theorem dL_law_349 : decode cL_law 349 = .ok (.aload_n 0, 1) := by decide +kernel
theorem dL_law_350 : decode cL_law 350 = .ok (.iload_n 3, 1) := by decide +kernel
theorem dL_law_351 : decode cL_law 351 = .ok (.iconst 2, 1) := by decide +kernel
theorem dL_law_352 : decode cL_law 352 = .ok (.iadd, 1) := by decide +kernel
theorem dL_law_353 : decode cL_law 353 = .ok (.iaload, 1) := by decide +kernel
theorem dL_law_354 : decode cL_law 354 = .ok (.aload_n 0, 1) := by decide +kernel
theorem dL_law_355 : decode cL_law 355 = .ok (.iload_n 3, 1) := by decide +kernel
theorem dL_law_356 : decode cL_law 356 = .ok (.iconst 3, 1) := by decide +kernel
theorem dL_law_357 : decode cL_law 357 = .ok (.iadd, 1) := by decide +kernel
theorem dL_law_358 : decode cL_law 358 = .ok (.iaload, 1) := by decide +kernel
theorem dL_law_359 : decode cL_law 359 = .ok (.invokevirtual 35, 3) := by decide +kernel
theorem dL_law_362 : decode cL_law 362 = .ok (.if_icmp .eq 633, 3) := by decide +kernel
theorem dL_law_365 : decode cL_law 365 = .ok (.iconst 0, 1) := by decide +kernel
theorem dL_law_366 : decode cL_law 366 = .ok (.ireturn, 1) := by decide +kernel
theorem dL_law_367 : decode cL_law 367 = .ok (.aload_n 1, 1) := by decide +kernel
theorem dL_law_368 : decode cL_law 368 = .ok (.aload_n 0, 1) := by decide +kernel
theorem dL_law_369 : decode cL_law 369 = .ok (.iload_n 3, 1) := by decide +kernel
theorem dL_law_370 : decode cL_law 370 = .ok (.iconst 1, 1) := by decide +kernel
theorem dL_law_371 : decode cL_law 371 = .ok (.iadd, 1) := by decide +kernel
theorem dL_law_372 : decode cL_law 372 = .ok (.iaload, 1) := by decide +kernel
theorem dL_law_373 : decode cL_law 373 = .ok (.aload_n 0, 1) := by decide +kernel
theorem dL_law_374 : decode cL_law 374 = .ok (.iload_n 3, 1) := by decide +kernel
theorem dL_law_375 : decode cL_law 375 = .ok (.iconst 2, 1) := by decide +kernel
theorem dL_law_376 : decode cL_law 376 = .ok (.iadd, 1) := by decide +kernel
theorem dL_law_377 : decode cL_law 377 = .ok (.iaload, 1) := by decide +kernel
theorem dL_law_378 : decode cL_law 378 = .ok (.invokevirtual 36, 3) := by decide +kernel
theorem dL_law_381 : decode cL_law 381 = .ok (.aload_n 2, 1) := by decide +kernel
theorem dL_law_382 : decode cL_law 382 = .ok (.aload_n 0, 1) := by decide +kernel
theorem dL_law_383 : decode cL_law 383 = .ok (.iload_n 3, 1) := by decide +kernel
theorem dL_law_384 : decode cL_law 384 = .ok (.iconst 1, 1) := by decide +kernel
theorem dL_law_385 : decode cL_law 385 = .ok (.iadd, 1) := by decide +kernel
theorem dL_law_386 : decode cL_law 386 = .ok (.iaload, 1) := by decide +kernel
theorem dL_law_387 : decode cL_law 387 = .ok (.aload_n 0, 1) := by decide +kernel
theorem dL_law_388 : decode cL_law 388 = .ok (.iload_n 3, 1) := by decide +kernel
theorem dL_law_389 : decode cL_law 389 = .ok (.iconst 2, 1) := by decide +kernel
theorem dL_law_390 : decode cL_law 390 = .ok (.iadd, 1) := by decide +kernel
theorem dL_law_391 : decode cL_law 391 = .ok (.iaload, 1) := by decide +kernel
theorem dL_law_392 : decode cL_law 392 = .ok (.invokevirtual 40, 3) := by decide +kernel
theorem dL_law_395 : decode cL_law 395 = .ok (.if_icmp .eq 600, 3) := by decide +kernel
theorem dL_law_398 : decode cL_law 398 = .ok (.iconst 0, 1) := by decide +kernel
theorem dL_law_399 : decode cL_law 399 = .ok (.ireturn, 1) := by decide +kernel
theorem dL_law_400 : decode cL_law 400 = .ok (.aload_n 1, 1) := by decide +kernel
theorem dL_law_401 : decode cL_law 401 = .ok (.aload_n 0, 1) := by decide +kernel
theorem dL_law_402 : decode cL_law 402 = .ok (.iload_n 3, 1) := by decide +kernel
theorem dL_law_403 : decode cL_law 403 = .ok (.iconst 1, 1) := by decide +kernel
theorem dL_law_404 : decode cL_law 404 = .ok (.iadd, 1) := by decide +kernel
theorem dL_law_405 : decode cL_law 405 = .ok (.iaload, 1) := by decide +kernel
theorem dL_law_406 : decode cL_law 406 = .ok (.aload_n 0, 1) := by decide +kernel
theorem dL_law_407 : decode cL_law 407 = .ok (.iload_n 3, 1) := by decide +kernel
theorem dL_law_408 : decode cL_law 408 = .ok (.iconst 2, 1) := by decide +kernel
theorem dL_law_409 : decode cL_law 409 = .ok (.iadd, 1) := by decide +kernel
theorem dL_law_410 : decode cL_law 410 = .ok (.iaload, 1) := by decide +kernel
theorem dL_law_411 : decode cL_law 411 = .ok (.invokevirtual 41, 3) := by decide +kernel
theorem dL_law_414 : decode cL_law 414 = .ok (.aload_n 2, 1) := by decide +kernel
theorem dL_law_415 : decode cL_law 415 = .ok (.aload_n 0, 1) := by decide +kernel
theorem dL_law_416 : decode cL_law 416 = .ok (.iload_n 3, 1) := by decide +kernel
theorem dL_law_417 : decode cL_law 417 = .ok (.iconst 1, 1) := by decide +kernel
theorem dL_law_418 : decode cL_law 418 = .ok (.iadd, 1) := by decide +kernel
theorem dL_law_419 : decode cL_law 419 = .ok (.iaload, 1) := by decide +kernel
theorem dL_law_420 : decode cL_law 420 = .ok (.aload_n 0, 1) := by decide +kernel
theorem dL_law_421 : decode cL_law 421 = .ok (.iload_n 3, 1) := by decide +kernel
theorem dL_law_422 : decode cL_law 422 = .ok (.iconst 2, 1) := by decide +kernel
theorem dL_law_423 : decode cL_law 423 = .ok (.iadd, 1) := by decide +kernel
theorem dL_law_424 : decode cL_law 424 = .ok (.iaload, 1) := by decide +kernel
theorem dL_law_425 : decode cL_law 425 = .ok (.invokevirtual 44, 3) := by decide +kernel
theorem dL_law_428 : decode cL_law 428 = .ok (.if_icmp .eq 567, 3) := by decide +kernel
theorem dL_law_431 : decode cL_law 431 = .ok (.iconst 0, 1) := by decide +kernel
theorem dL_law_432 : decode cL_law 432 = .ok (.ireturn, 1) := by decide +kernel
theorem dL_law_433 : decode cL_law 433 = .ok (.aload_n 1, 1) := by decide +kernel
theorem dL_law_434 : decode cL_law 434 = .ok (.aload_n 0, 1) := by decide +kernel
theorem dL_law_435 : decode cL_law 435 = .ok (.iload_n 3, 1) := by decide +kernel
theorem dL_law_436 : decode cL_law 436 = .ok (.iconst 1, 1) := by decide +kernel
theorem dL_law_437 : decode cL_law 437 = .ok (.iadd, 1) := by decide +kernel
theorem dL_law_438 : decode cL_law 438 = .ok (.iaload, 1) := by decide +kernel
theorem dL_law_439 : decode cL_law 439 = .ok (.aload_n 0, 1) := by decide +kernel
theorem dL_law_440 : decode cL_law 440 = .ok (.iload_n 3, 1) := by decide +kernel
theorem dL_law_441 : decode cL_law 441 = .ok (.iconst 2, 1) := by decide +kernel
theorem dL_law_442 : decode cL_law 442 = .ok (.iadd, 1) := by decide +kernel
theorem dL_law_443 : decode cL_law 443 = .ok (.iaload, 1) := by decide +kernel
theorem dL_law_444 : decode cL_law 444 = .ok (.aload_n 0, 1) := by decide +kernel
theorem dL_law_445 : decode cL_law 445 = .ok (.iload_n 3, 1) := by decide +kernel
theorem dL_law_446 : decode cL_law 446 = .ok (.iconst 3, 1) := by decide +kernel
theorem dL_law_447 : decode cL_law 447 = .ok (.iadd, 1) := by decide +kernel
theorem dL_law_448 : decode cL_law 448 = .ok (.iaload, 1) := by decide +kernel
theorem dL_law_449 : decode cL_law 449 = .ok (.invokevirtual 45, 3) := by decide +kernel
theorem dL_law_452 : decode cL_law 452 = .ok (.aload_n 2, 1) := by decide +kernel
theorem dL_law_453 : decode cL_law 453 = .ok (.aload_n 0, 1) := by decide +kernel
theorem dL_law_454 : decode cL_law 454 = .ok (.iload_n 3, 1) := by decide +kernel
theorem dL_law_455 : decode cL_law 455 = .ok (.iconst 1, 1) := by decide +kernel
theorem dL_law_456 : decode cL_law 456 = .ok (.iadd, 1) := by decide +kernel
theorem dL_law_457 : decode cL_law 457 = .ok (.iaload, 1) := by decide +kernel
theorem dL_law_458 : decode cL_law 458 = .ok (.aload_n 0, 1) := by decide +kernel
theorem dL_law_459 : decode cL_law 459 = .ok (.iload_n 3, 1) := by decide +kernel
theorem dL_law_460 : decode cL_law 460 = .ok (.iconst 2, 1) := by decide +kernel
theorem dL_law_461 : decode cL_law 461 = .ok (.iadd, 1) := by decide +kernel
theorem dL_law_462 : decode cL_law 462 = .ok (.iaload, 1) := by decide +kernel
theorem dL_law_463 : decode cL_law 463 = .ok (.aload_n 0, 1) := by decide +kernel
theorem dL_law_464 : decode cL_law 464 = .ok (.iload_n 3, 1) := by decide +kernel
theorem dL_law_465 : decode cL_law 465 = .ok (.iconst 3, 1) := by decide +kernel
theorem dL_law_466 : decode cL_law 466 = .ok (.iadd, 1) := by decide +kernel
theorem dL_law_467 : decode cL_law 467 = .ok (.iaload, 1) := by decide +kernel
