set_option maxRecDepth 20000 in
theorem ggL_law_L_cell : GoodIn wsL_law wsL_cell := goodIn_r _ [10] (by decide +kernel) (by decide +kernel)
set_option maxRecDepth 20000 in
theorem gL_law_L_cell : GoodIn wsL_law (va_wsS RL 35 yL_cell wsL_cell) := goodIn_app (goodIn_of _ (by decide +kernel)) ggL_law_L_cell
set_option maxRecDepth 20000 in
theorem ggL_law_X5_init : GoodIn wsL_law wsX5_init := goodIn_r _ [13, 14, 15, 16, 17, 18, 19, 20, 21, 22, 23, 24, 25, 26, 27, 28, 29, 30, 31, 32, 33, 34, 35, 36, 37, 38, 39, 40, 41, 42, 43, 44, 45, 46, 47, 48, 49, 50, 51, 52, 53, 54, 55, 56, 57, 58, 59, 60, 61, 62, 63, 64, 65, 66, 67, 68, 69, 70, 71, 72, 73, 74, 75, 76, 77, 78, 79, 80, 81, 82, 83, 84, 85, 86, 87, 88, 89, 90, 91, 92, 93, 712, 713, 714, 715, 716, 683, 684, 685, 686, 687, 688, 717, 718, 719, 720, 721, 722, 723, 724, 725, 726, 727, 728, 729, 730, 731, 732, 733, 734, 735, 736, 737] (by decide +kernel) (by decide +kernel)
set_option maxRecDepth 20000 in
theorem gL_law_X5_init : GoodIn wsL_law (wsX5_init) := ggL_law_X5_init
set_option maxRecDepth 20000 in
theorem ggL_law_X6_init : GoodIn wsL_law wsX6_init := goodIn_r _ [96, 97, 15, 16, 37, 98, 99, 100, 101, 102, 103, 104, 105, 106, 107, 108, 109, 110, 111, 112, 113, 114, 115, 5, 116, 689, 690, 691, 692, 693, 694, 695, 696, 697, 698, 699, 700, 701, 702, 703, 704, 705, 706, 707, 708, 709, 710, 711] (by decide +kernel) (by decide +kernel)
set_option maxRecDepth 20000 in
theorem gL_law_X6_init : GoodIn wsL_law (wsX6_init) := ggL_law_X6_init
set_option maxRecDepth 20000 in
theorem ggL_law_X5_rule : GoodIn wsL_law wsX5_rule := goodIn_r _ [120, 24, 121, 122, 123, 23, 124, 67, 62, 63, 683, 684, 685, 686, 687, 688, 717, 718, 719, 720, 721, 722, 723] (by decide +kernel) (by decide +kernel)
set_option maxRecDepth 20000 in
theorem gL_law_X5_rule : GoodIn wsL_law (wsV RL 47 RX5 yX5_rule wsX5_rule) := goodIn_app (goodIn_of _ (by decide +kernel)) ggL_law_X5_rule
set_option maxRecDepth 20000 in
theorem ggL_law_X6_rule : GoodIn wsL_law wsX6_rule := goodIn_r _ [128, 129, 130, 98, 99, 100, 689, 690, 691, 692, 693, 694, 695, 696, 697, 698, 699, 700, 701, 702, 703, 704, 705, 706, 707, 708, 709, 710, 711] (by decide +kernel) (by decide +kernel)
set_option maxRecDepth 20000 in
theorem gL_law_X6_rule : GoodIn wsL_law (wsV RL 50 RX6 yX6_rule wsX6_rule) := goodIn_app (goodIn_of _ (by decide +kernel)) ggL_law_X6_rule
set_option maxRecDepth 20000 in
theorem ggL_law_L_into : GoodIn wsL_law wsL_into := goodIn_r _ [133, 134, 135, 136, 2, 137, 24, 138, 139, 140, 141, 142, 143, 144, 145, 146, 147, 23, 148, 67, 149, 150, 151, 152, 20, 153, 154, 155, 19, 156, 44, 157, 158, 159, 160, 64, 65, 161, 162, 163, 164, 683, 684, 685, 686, 687, 688, 738, 739, 740, 741, 742, 743, 717, 718, 719, 720, 721, 722, 723, 712, 713, 714, 715, 716] (by decide +kernel) (by decide +kernel)
set_option maxRecDepth 20000 in
theorem gL_law_L_into : GoodIn wsL_law (va_wsS RL 51 yL_into wsL_into) := goodIn_app (goodIn_of _ (by decide +kernel)) ggL_law_L_into
set_option maxRecDepth 20000 in
theorem ggL_law_X6_into : GoodIn wsL_law wsX6_into := goodIn_r _ [168, 130, 100, 101, 169, 170, 171, 5, 172, 173, 174, 175, 176, 111, 112, 177, 178, 179, 180, 129, 181, 182, 183, 184, 185, 186, 187, 188, 689, 690, 691, 692, 693, 694, 695, 696, 697, 698, 699, 700, 701, 702, 703, 704, 705, 706, 707, 708, 709, 710, 711] (by decide +kernel) (by decide +kernel)
set_option maxRecDepth 20000 in
theorem gL_law_X6_into : GoodIn wsL_law (wsV RL 54 RX6 yX6_into wsX6_into) := goodIn_app (goodIn_of _ (by decide +kernel)) ggL_law_X6_into
set_option maxRecDepth 20000 in
theorem ggL_law_X6_thrown : GoodIn wsL_law wsX6_thrown := goodIn_r _ [192, 129, 689, 690, 691, 692, 693, 694, 695, 696, 697, 698, 699, 700, 701, 702, 703, 704, 705, 706, 707, 708, 709, 710, 711] (by decide +kernel) (by decide +kernel)
set_option maxRecDepth 20000 in
theorem gL_law_X6_thrown : GoodIn wsL_law (wsV RL 55 RX6 yX6_thrown wsX6_thrown) := goodIn_app (goodIn_of _ (by decide +kernel)) ggL_law_X6_thrown
set_option maxRecDepth 20000 in
theorem ggL_law_L_answer : GoodIn wsL_law wsL_answer := goodIn_ca (goodIn_r _ [195, 196, 197, 198, 199, 200, 2, 201, 38, 149, 150, 151, 152, 20, 142, 143, 144, 153, 154, 155, 19, 156, 44, 202, 203, 204, 205, 206, 207, 208, 209, 210, 211, 45, 683, 684, 685, 686, 687, 688, 738, 739, 740, 741, 742, 743, 712, 713, 714, 715, 716] (by decide +kernel) (by decide +kernel)) (goodIn_sub (fun _ h => List.mem_append_right _ h) (by decide +kernel))
set_option maxRecDepth 20000 in
theorem gL_law_L_answer : GoodIn wsL_law (va_wsS RL 59 yL_answer wsL_answer) := goodIn_app (goodIn_of _ (by decide +kernel)) ggL_law_L_answer
set_option maxRecDepth 20000 in
theorem ggL_law_X6_answer : GoodIn wsL_law wsX6_answer := goodIn_r _ [215, 102, 169, 170, 171, 5, 172, 173, 174, 175, 176, 111, 112, 177, 178, 179, 180, 129, 216, 217, 218, 219, 113, 689, 690, 691, 692, 693, 694, 695, 696, 697, 698, 699, 700, 701, 702, 703, 704, 705, 706, 707, 708, 709, 710, 711] (by decide +kernel) (by decide +kernel)
set_option maxRecDepth 20000 in
theorem gL_law_X6_answer : GoodIn wsL_law (wsV RL 61 RX6 yX6_answer wsX6_answer) := goodIn_app (goodIn_of _ (by decide +kernel)) ggL_law_X6_answer
set_option maxRecDepth 20000 in
theorem ggL_law_L_test : GoodIn wsL_law wsL_test := goodIn_r _ [222, 223, 224, 225, 2, 226, 24, 38, 138, 139, 140, 141, 142, 143, 144, 145, 146, 147, 23, 148, 67, 227, 228, 229, 230, 64, 161, 162, 163, 164, 65, 231, 232, 233, 234, 62, 63, 68, 235, 236, 237, 238, 239, 240, 241, 242, 243, 244, 245, 246, 247, 248, 249, 250, 251, 252, 253, 254, 255, 256, 257, 19, 258, 44, 259, 260, 261, 262, 43, 46, 47, 683, 684, 685, 686, 687, 688, 738, 739, 740, 741, 742, 743, 717, 718, 719, 720, 721, 722, 723, 712, 713, 714, 715, 716] (by decide +kernel) (by decide +kernel)
set_option maxRecDepth 20000 in
theorem gL_law_L_test : GoodIn wsL_law (va_wsS RL 62 yL_test wsL_test) := goodIn_app (goodIn_of _ (by decide +kernel)) ggL_law_L_test
set_option maxRecDepth 20000 in
theorem ggL_law_X6_test : GoodIn wsL_law wsX6_test := goodIn_r _ [266, 130, 177, 178, 179, 5, 180, 129, 267, 268, 269, 270, 100, 109, 102, 185, 186, 187, 188, 101, 271, 272, 273, 274, 98, 99, 275, 276, 277, 278, 279, 280, 281, 282, 111, 689, 690, 691, 692, 693, 694, 695, 696, 697, 698, 699, 700, 701, 702, 703, 704, 705, 706, 707, 708, 709, 710, 711] (by decide +kernel) (by decide +kernel)
set_option maxRecDepth 20000 in
theorem gL_law_X6_test : GoodIn wsL_law (wsV RL 65 RX6 yX6_test wsX6_test) := goodIn_app (goodIn_of _ (by decide +kernel)) ggL_law_X6_test
set_option maxRecDepth 20000 in
theorem ggL_law_X5_fails : GoodIn wsL_law wsX5_fails := goodIn_r _ [286, 24, 38, 287, 288, 289, 23, 290, 67, 227, 228, 229, 230, 64, 161, 162, 163, 164, 65, 231, 232, 233, 234, 62, 63, 68, 235, 236, 237, 238, 239, 240, 241, 242, 243, 244, 245, 246, 247, 248, 249, 250, 251, 252, 253, 254, 255, 256, 257, 19, 258, 44, 259, 260, 261, 262, 43, 46, 47, 683, 684, 685, 686, 687, 688, 717, 718, 719, 720, 721, 722, 723, 712, 713, 714, 715, 716] (by decide +kernel) (by decide +kernel)
set_option maxRecDepth 20000 in
theorem gL_law_X5_fails : GoodIn wsL_law (wsV RL 66 RX5 yX5_fails wsX5_fails) := goodIn_app (goodIn_of _ (by decide +kernel)) ggL_law_X5_fails
set_option maxRecDepth 20000 in
theorem ggL_law_X6_fails : GoodIn wsL_law wsX6_fails := goodIn_r _ [294, 129, 295, 296, 297, 5, 298, 130, 267, 268, 269, 270, 100, 109, 102, 185, 186, 187, 188, 101, 271, 272, 273, 274, 98, 99, 275, 276, 277, 278, 279, 280, 281, 282, 111, 689, 690, 691, 692, 693, 694, 695, 696, 697, 698, 699, 700, 701, 702, 703, 704, 705, 706, 707, 708, 709, 710, 711] (by decide +kernel) (by decide +kernel)
set_option maxRecDepth 20000 in
theorem gL_law_X6_fails : GoodIn wsL_law (wsV RL 69 RX6 yX6_fails wsX6_fails) := goodIn_app (goodIn_of _ (by decide +kernel)) ggL_law_X6_fails
set_option maxRecDepth 20000 in
theorem ggL_law_X5_line : GoodIn wsL_law wsX5_line := goodIn_r _ [302, 28, 303, 304, 305, 27, 306, 76, 307, 308, 309, 310, 72, 73, 74, 311, 312, 313, 314, 315, 316, 317, 318, 319, 683, 684, 685, 686, 687, 688, 724, 725, 726, 727, 728] (by decide +kernel) (by decide +kernel)
set_option maxRecDepth 20000 in
theorem gL_law_X5_line : GoodIn wsL_law (wsV RL 70 RX5 yX5_line wsX5_line) := goodIn_app (goodIn_of _ (by decide +kernel)) ggL_law_X5_line
set_option maxRecDepth 20000 in
theorem ggL_law_X6_line : GoodIn wsL_law wsX6_line := goodIn_r _ [323, 129, 324, 325, 326, 327, 5, 328, 103, 104, 105, 689, 690, 691, 692, 693, 694, 695, 696, 697, 698, 699, 700, 701, 702, 703, 704, 705, 706, 707, 708, 709, 710, 711] (by decide +kernel) (by decide +kernel)
set_option maxRecDepth 20000 in
theorem gL_law_X6_line : GoodIn wsL_law (wsV RL 73 RX6 yX6_line wsX6_line) := goodIn_app (goodIn_of _ (by decide +kernel)) ggL_law_X6_line
