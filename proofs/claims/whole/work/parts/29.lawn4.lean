set_option maxRecDepth 20000 in
theorem ggL_law_L_literal : GoodIn wsL_law wsL_literal := goodIn_ca (goodIn_r _ [331, 196, 197, 332, 333, 334, 2, 335, 28, 149, 150, 151, 152, 20, 142, 143, 144, 153, 154, 155, 19, 156, 44, 202, 203, 204, 205, 206, 207, 208, 209, 210, 211, 45, 316, 317, 318, 27, 319, 76, 336, 337, 338, 339, 340, 341, 342, 74, 75, 343, 344, 345, 346, 347, 348, 349, 350, 683, 684, 685, 686, 687, 688, 738, 739, 740, 741, 742, 743, 712, 713, 714, 715, 716, 724, 725, 726, 727, 728] (by decide +kernel) (by decide +kernel)) (goodIn_sub (fun _ h => List.mem_append_right _ h) (by decide +kernel))
set_option maxRecDepth 20000 in
theorem gL_law_L_literal : GoodIn wsL_law (va_wsS RL 74 yL_literal wsL_literal) := goodIn_app (goodIn_of _ (by decide +kernel)) ggL_law_L_literal
set_option maxRecDepth 20000 in
theorem ggL_law_X6_literal : GoodIn wsL_law wsX6_literal := goodIn_r _ [354, 324, 105, 169, 170, 171, 5, 172, 173, 174, 175, 176, 111, 112, 177, 178, 179, 180, 129, 216, 217, 218, 219, 113, 355, 356, 357, 358, 359, 360, 361, 362, 106, 363, 364, 365, 366, 689, 690, 691, 692, 693, 694, 695, 696, 697, 698, 699, 700, 701, 702, 703, 704, 705, 706, 707, 708, 709, 710, 711] (by decide +kernel) (by decide +kernel)
set_option maxRecDepth 20000 in
theorem gL_law_X6_literal : GoodIn wsL_law (wsV RL 77 RX6 yX6_literal wsX6_literal) := goodIn_app (goodIn_of _ (by decide +kernel)) ggL_law_X6_literal
set_option maxRecDepth 20000 in
theorem ggL_law_X5_drop : GoodIn wsL_law wsX5_drop := goodIn_r _ [370, 28, 316, 317, 318, 27, 319, 76, 371, 372, 373, 374, 683, 684, 685, 686, 687, 688, 724, 725, 726, 727, 728] (by decide +kernel) (by decide +kernel)
set_option maxRecDepth 20000 in
theorem gL_law_X5_drop : GoodIn wsL_law (wsV RL 78 RX5 yX5_drop wsX5_drop) := goodIn_app (goodIn_of _ (by decide +kernel)) ggL_law_X5_drop
set_option maxRecDepth 20000 in
theorem ggL_law_X6_drop : GoodIn wsL_law wsX6_drop := goodIn_r _ [378, 129, 324, 689, 690, 691, 692, 693, 694, 695, 696, 697, 698, 699, 700, 701, 702, 703, 704, 705, 706, 707, 708, 709, 710, 711] (by decide +kernel) (by decide +kernel)
set_option maxRecDepth 20000 in
theorem gL_law_X6_drop : GoodIn wsL_law (wsV RL 82 RX6 yX6_drop wsX6_drop) := goodIn_app (goodIn_of _ (by decide +kernel)) ggL_law_X6_drop
set_option maxRecDepth 20000 in
theorem ggL_law_X5_check : GoodIn wsL_law wsX5_check := goodIn_r _ [382, 28, 316, 317, 318, 27, 319, 76, 383, 384, 385, 2, 386, 24, 32, 20, 387, 388, 389, 390, 73, 391, 392, 393, 394, 72, 145, 146, 147, 23, 148, 67, 395, 396, 397, 398, 399, 400, 401, 402, 64, 68, 403, 404, 405, 19, 406, 45, 407, 408, 409, 31, 410, 84, 411, 412, 413, 414, 83, 81, 415, 416, 417, 418, 44, 419, 420, 421, 422, 423, 424, 425, 426, 74, 427, 348, 349, 350, 75, 428, 429, 430, 431, 432, 433, 434, 435, 436, 437, 438, 439, 440, 441, 442, 443, 66, 444, 232, 233, 234, 62, 63, 235, 236, 237, 238, 161, 162, 163, 164, 65, 239, 240, 241, 242, 243, 244, 245, 246, 247, 248, 249, 250, 251, 252, 253, 254, 255, 256, 257, 258, 259, 260, 261, 262, 43, 46, 47, 445, 446, 447, 448, 449, 450, 451, 452, 453, 454, 455, 456, 457, 458, 459, 460, 461, 462, 463, 464, 465, 466, 467, 468, 469, 470, 471, 153, 154, 155, 156, 472, 473, 474, 475, 82, 476, 477, 478, 479, 480, 481, 482, 483, 484, 485, 486, 487, 488, 489, 490, 38, 491, 492, 493, 494, 495, 284, 285, 286, 287, 288, 289, 290, 227, 228, 229, 230, 231, 683, 684, 685, 686, 687, 688, 724, 725, 726, 727, 728, 717, 718, 719, 720, 721, 722, 723, 712, 713, 714, 715, 716, 729, 730, 731, 732] (by decide +kernel) (by decide +kernel)
set_option maxRecDepth 20000 in
theorem gL_law_X5_check : GoodIn wsL_law (wsV RL 83 RX5 yX5_check wsX5_check) := goodIn_app (goodIn_of _ (by decide +kernel)) ggL_law_X5_check
set_option maxRecDepth 20000 in
theorem ggL_law_X6_check : GoodIn wsL_law wsX6_check := goodIn_r _ [499, 129, 500, 501, 502, 5, 503, 324, 504, 505, 506, 507, 103, 508, 509, 510, 511, 512, 104, 130, 100, 113, 109, 105, 106, 271, 272, 273, 274, 98, 99, 275, 276, 277, 278, 185, 186, 187, 188, 101, 279, 280, 281, 282, 111, 513, 514, 515, 516, 517, 518, 519, 520, 181, 182, 183, 184, 521, 522, 523, 524, 525, 526, 527, 528, 529, 530, 531, 532, 107, 533, 534, 535, 536, 537, 538, 539, 540, 541, 542, 543, 544, 545, 546, 547, 548, 108, 169, 170, 171, 172, 173, 174, 175, 176, 112, 549, 550, 551, 552, 102, 295, 296, 297, 298, 267, 268, 269, 270, 355, 356, 357, 358, 359, 360, 361, 362, 689, 690, 691, 692, 693, 694, 695, 696, 697, 698, 699, 700, 701, 702, 703, 704, 705, 706, 707, 708, 709, 710, 711] (by decide +kernel) (by decide +kernel)
set_option maxRecDepth 20000 in
theorem gL_law_X6_check : GoodIn wsL_law (wsV RL 86 RX6 yX6_check wsX6_check) := goodIn_app (goodIn_of _ (by decide +kernel)) ggL_law_X6_check
set_option maxRecDepth 20000 in
theorem ggL_law_X5_proves : GoodIn wsL_law wsX5_proves := goodIn_r _ [556, 28, 316, 317, 318, 27, 319, 76, 485, 424, 425, 426, 74, 383, 384, 385, 2, 386, 24, 32, 20, 387, 388, 389, 390, 73, 391, 392, 393, 394, 72, 145, 146, 147, 23, 148, 67, 395, 396, 397, 398, 399, 400, 401, 402, 64, 68, 403, 404, 405, 19, 406, 45, 407, 408, 409, 31, 410, 84, 411, 412, 413, 414, 83, 81, 415, 416, 417, 418, 44, 419, 420, 421, 422, 423, 427, 348, 349, 350, 75, 428, 429, 430, 431, 432, 433, 434, 435, 436, 437, 438, 439, 440, 441, 442, 443, 66, 444, 232, 233, 234, 62, 63, 235, 236, 237, 238, 161, 162, 163, 164, 65, 239, 240, 241, 242, 243, 244, 245, 246, 247, 248, 249, 250, 251, 252, 253, 254, 255, 256, 257, 258, 259, 260, 261, 262, 43, 46, 47, 445, 446, 447, 448, 449, 450, 451, 452, 453, 454, 455, 456, 457, 458, 459, 460, 461, 462, 463, 464, 465, 466, 467, 468, 469, 470, 471, 153, 154, 155, 156, 472, 473, 474, 475, 82, 476, 477, 478, 479, 480, 481, 482, 483, 484, 486, 487, 488, 489, 490, 38, 491, 492, 493, 494, 495, 284, 285, 286, 287, 288, 289, 290, 227, 228, 229, 230, 231, 683, 684, 685, 686, 687, 688, 724, 725, 726, 727, 728, 717, 718, 719, 720, 721, 722, 723, 712, 713, 714, 715, 716, 729, 730, 731, 732] (by decide +kernel) (by decide +kernel)
set_option maxRecDepth 20000 in
theorem gL_law_X5_proves : GoodIn wsL_law (wsV RL 87 RX5 yX5_proves wsX5_proves) := goodIn_app (goodIn_of _ (by decide +kernel)) ggL_law_X5_proves
set_option maxRecDepth 20000 in
theorem ggL_law_X6_proves : GoodIn wsL_law wsX6_proves := goodIn_r _ [560, 129, 324, 105, 103, 500, 501, 502, 5, 503, 504, 505, 506, 507, 508, 509, 510, 511, 512, 104, 130, 100, 113, 109, 106, 271, 272, 273, 274, 98, 99, 275, 276, 277, 278, 185, 186, 187, 188, 101, 279, 280, 281, 282, 111, 513, 514, 515, 516, 517, 518, 519, 520, 181, 182, 183, 184, 521, 522, 523, 524, 525, 526, 527, 528, 529, 530, 531, 532, 107, 533, 534, 535, 536, 537, 538, 539, 540, 541, 542, 543, 544, 545, 546, 547, 548, 108, 169, 170, 171, 172, 173, 174, 175, 176, 112, 549, 550, 551, 552, 102, 295, 296, 297, 298, 267, 268, 269, 270, 355, 356, 357, 358, 359, 360, 361, 362, 689, 690, 691, 692, 693, 694, 695, 696, 697, 698, 699, 700, 701, 702, 703, 704, 705, 706, 707, 708, 709, 710, 711] (by decide +kernel) (by decide +kernel)
set_option maxRecDepth 20000 in
theorem gL_law_X6_proves : GoodIn wsL_law (wsV RL 90 RX6 yX6_proves wsX6_proves) := goodIn_app (goodIn_of _ (by decide +kernel)) ggL_law_X6_proves
set_option maxRecDepth 20000 in
theorem ggL_law_L_tell : GoodIn wsL_law wsL_tell := goodIn_r _ [563, 564, 565, 566, 2, 567, 28, 142, 143, 144, 316, 317, 318, 27, 319, 76, 391, 392, 393, 394, 72, 387, 388, 389, 390, 73, 485, 424, 425, 426, 74, 568, 569, 570, 571, 20, 491, 348, 349, 350, 75, 572, 404, 405, 19, 406, 45, 493, 436, 437, 494, 439, 440, 492, 429, 430, 683, 684, 685, 686, 687, 688, 738, 739, 740, 741, 742, 743, 724, 725, 726, 727, 728, 712, 713, 714, 715, 716] (by decide +kernel) (by decide +kernel)
set_option maxRecDepth 20000 in
theorem gL_law_L_tell : GoodIn wsL_law (va_wsS RL 91 yL_tell wsL_tell) := goodIn_app (goodIn_of _ (by decide +kernel)) ggL_law_L_tell
set_option maxRecDepth 20000 in
theorem ggL_law_X6_tell : GoodIn wsL_law wsX6_tell := goodIn_r _ [576, 324, 103, 104, 105, 106, 177, 178, 179, 5, 180, 129, 689, 690, 691, 692, 693, 694, 695, 696, 697, 698, 699, 700, 701, 702, 703, 704, 705, 706, 707, 708, 709, 710, 711] (by decide +kernel) (by decide +kernel)
set_option maxRecDepth 20000 in
theorem gL_law_X6_tell : GoodIn wsL_law (wsV RL 93 RX6 yX6_tell wsX6_tell) := goodIn_app (goodIn_of _ (by decide +kernel)) ggL_law_X6_tell
set_option maxRecDepth 20000 in
theorem ggL_law_L_may : GoodIn wsL_law wsL_may := goodIn_r _ [579, 580, 581, 582, 2, 583, 32, 28, 149, 150, 151, 152, 20, 142, 143, 144, 153, 154, 155, 19, 156, 44, 584, 412, 413, 31, 414, 83, 81, 415, 416, 417, 418, 419, 420, 421, 422, 45, 316, 317, 318, 27, 319, 76, 585, 456, 457, 458, 459, 460, 461, 462, 463, 404, 405, 406, 464, 465, 466, 467, 84, 423, 424, 425, 426, 74, 427, 348, 349, 350, 75, 468, 469, 470, 471, 435, 436, 437, 438, 439, 440, 428, 429, 430, 431, 432, 433, 434, 586, 446, 447, 448, 683, 684, 685, 686, 687, 688, 738, 739, 740, 741, 742, 743, 712, 713, 714, 715, 716, 729, 730, 731, 732, 724, 725, 726, 727, 728] (by decide +kernel) (by decide +kernel)
set_option maxRecDepth 20000 in
theorem gL_law_L_may : GoodIn wsL_law (va_wsS RL 94 yL_may wsL_may) := goodIn_app (goodIn_of _ (by decide +kernel)) ggL_law_L_may
set_option maxRecDepth 20000 in
theorem ggL_law_X6_may : GoodIn wsL_law wsX6_may := goodIn_r _ [590, 324, 508, 107, 169, 170, 171, 5, 172, 173, 174, 175, 176, 111, 112, 177, 178, 179, 180, 129, 529, 530, 531, 532, 113, 537, 538, 539, 540, 105, 106, 541, 542, 543, 544, 521, 522, 523, 524, 517, 518, 519, 520, 533, 534, 535, 536, 689, 690, 691, 692, 693, 694, 695, 696, 697, 698, 699, 700, 701, 702, 703, 704, 705, 706, 707, 708, 709, 710, 711] (by decide +kernel) (by decide +kernel)
set_option maxRecDepth 20000 in
theorem gL_law_X6_may : GoodIn wsL_law (wsV RL 96 RX6 yX6_may wsX6_may) := goodIn_app (goodIn_of _ (by decide +kernel)) ggL_law_X6_may
set_option maxRecDepth 20000 in
theorem ggL_law_X5_unit : GoodIn wsL_law wsX5_unit := goodIn_r _ [594, 36, 595, 596, 597, 35, 598, 90, 89, 683, 684, 685, 686, 687, 688, 733, 734, 735, 736, 737] (by decide +kernel) (by decide +kernel)
set_option maxRecDepth 20000 in
theorem gL_law_X5_unit : GoodIn wsL_law (wsV RL 97 RX5 yX5_unit wsX5_unit) := goodIn_app (goodIn_of _ (by decide +kernel)) ggL_law_X5_unit
set_option maxRecDepth 20000 in
theorem ggL_law_X6_unit : GoodIn wsL_law wsX6_unit := goodIn_r _ [602, 129, 603, 110, 689, 690, 691, 692, 693, 694, 695, 696, 697, 698, 699, 700, 701, 702, 703, 704, 705, 706, 707, 708, 709, 710, 711] (by decide +kernel) (by decide +kernel)
set_option maxRecDepth 20000 in
theorem gL_law_X6_unit : GoodIn wsL_law (wsV RL 101 RX6 yX6_unit wsX6_unit) := goodIn_app (goodIn_of _ (by decide +kernel)) ggL_law_X6_unit
set_option maxRecDepth 20000 in
theorem ggL_law_X5_read : GoodIn wsL_law wsX5_read := goodIn_r _ [607, 36, 608, 609, 610, 35, 611, 93, 91, 90, 612, 317, 318, 27, 319, 76, 613, 614, 615, 616, 617, 618, 619, 620, 621, 622, 623, 624, 89, 625, 308, 309, 310, 72, 73, 74, 626, 627, 628, 629, 630, 631, 632, 633, 634, 344, 345, 346, 635, 636, 637, 638, 92, 639, 416, 417, 19, 418, 44, 640, 641, 642, 643, 644, 404, 405, 406, 45, 645, 337, 338, 646, 340, 341, 342, 75, 343, 347, 348, 349, 350, 647, 312, 313, 314, 315, 304, 305, 306, 648, 372, 373, 374, 683, 684, 685, 686, 687, 688, 733, 734, 735, 736, 737, 724, 725, 726, 727, 728, 712, 713, 714, 715, 716] (by decide +kernel) (by decide +kernel)
set_option maxRecDepth 20000 in
theorem gL_law_X5_read : GoodIn wsL_law (wsV RL 102 RX5 yX5_read wsX5_read) := goodIn_app (goodIn_of _ (by decide +kernel)) ggL_law_X5_read
set_option maxRecDepth 20000 in
theorem ggL_law_X6_read : GoodIn wsL_law wsX6_read := goodIn_r _ [652, 129, 653, 654, 603, 324, 103, 104, 105, 106, 655, 656, 657, 5, 658, 659, 660, 661, 662, 110, 663, 664, 665, 666, 667, 668, 669, 670, 671, 672, 673, 674, 325, 326, 327, 328, 675, 676, 677, 678, 169, 170, 171, 172, 173, 174, 175, 176, 111, 112, 679, 680, 681, 682, 216, 217, 218, 219, 113, 355, 356, 357, 358, 359, 360, 361, 362, 363, 364, 365, 366, 689, 690, 691, 692, 693, 694, 695, 696, 697, 698, 699, 700, 701, 702, 703, 704, 705, 706, 707, 708, 709, 710, 711] (by decide +kernel) (by decide +kernel)
set_option maxRecDepth 20000 in
theorem gL_law_X6_read : GoodIn wsL_law (wsV RL 105 RX6 yX6_read wsX6_read) := goodIn_app (goodIn_of _ (by decide +kernel)) ggL_law_X6_read
