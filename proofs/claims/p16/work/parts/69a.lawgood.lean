set_option maxRecDepth 20000 in
theorem ggL_law_X7_init : GoodIn wsL_law wsX7_init := goodIn_r _ [9, 10, 11, 12, 13, 14, 15, 16, 17, 18, 19, 20, 21, 22, 23, 24, 25, 26, 27, 28, 29, 30, 31, 32, 33, 34, 35, 36, 37, 38, 39, 40, 41, 42, 43, 44, 45, 46, 47, 48, 49, 50, 51, 52, 53, 54, 55, 56, 57, 58, 59, 60, 61, 62, 63, 64, 65, 66, 67, 68, 69, 70, 71, 72, 73, 74, 75, 76, 77, 78, 79, 80, 81, 82, 83, 84, 85, 86, 87, 88, 89, 90, 91, 92, 6, 93, 94, 95, 96, 97, 98, 99, 100, 101, 102, 103, 104, 105, 106, 107, 108, 109, 110, 698, 699, 700, 701, 702, 648, 649, 650, 651, 652, 653, 654, 655, 656, 657, 658, 659, 660, 661, 662, 703, 704, 705, 706, 707, 708, 709, 710, 711, 712, 713, 714, 715, 716, 717, 718, 719, 720, 721, 722, 723, 724, 725, 726, 727, 728, 729] rfl (by decide +kernel)
set_option maxRecDepth 20000 in
theorem gL_law_X7_init : GoodIn wsL_law (wsX7_init) := ggL_law_X7_init
set_option maxRecDepth 20000 in
theorem ggL_law_X8_init : GoodIn wsL_law wsX8_init := goodIn_r _ [113, 114, 11, 12, 115, 42, 116, 117, 118, 40, 119, 120, 121, 122, 123, 124, 125, 126, 127, 128, 129, 6, 130, 131, 132, 133, 134, 135, 663, 664, 665, 666, 667, 668, 669, 670, 671, 672, 673, 674, 675, 676, 677, 678, 679, 680, 681, 682, 683, 684, 685, 686, 687, 688, 689, 690, 691, 692, 693, 694, 695, 696, 697] rfl (by decide +kernel)
set_option maxRecDepth 20000 in
theorem gL_law_X8_init : GoodIn wsL_law (wsX8_init) := ggL_law_X8_init
set_option maxRecDepth 20000 in
theorem ggL_law_X7_ground : GoodIn wsL_law wsX7_ground := goodIn_r _ [139, 20, 25, 140, 33, 46, 141, 142, 143, 19, 144, 62, 61, 145, 146, 147, 64, 148, 69, 70, 71, 72, 75, 149, 150, 151, 32, 152, 105, 648, 649, 650, 651, 652, 653, 654, 655, 656, 657, 658, 659, 660, 661, 662, 705, 706, 707, 708, 703, 704, 721, 722, 723, 724, 725, 726, 727, 728, 729, 716, 717, 718] rfl (by decide +kernel)
set_option maxRecDepth 20000 in
theorem gL_law_X7_ground : GoodIn wsL_law (wsV RL 25 RX7 yX7_ground wsX7_ground) := goodIn_app (goodIn_of _ (by decide +kernel)) ggL_law_X7_ground
set_option maxRecDepth 20000 in
theorem ggL_law_X8_ground : GoodIn wsL_law wsX8_ground := goodIn_r _ [156, 157, 115, 121, 122, 123, 124, 158, 128, 159, 663, 664, 665, 666, 667, 668, 669, 670, 671, 672, 673, 674, 675, 676, 677, 678, 679, 680, 681, 682, 683, 684, 685, 686, 687, 688, 689, 690, 691, 692, 693, 694, 695, 696, 697] rfl (by decide +kernel)
set_option maxRecDepth 20000 in
theorem gL_law_X8_ground : GoodIn wsL_law (wsV RL 29 RX8 yX8_ground wsX8_ground) := goodIn_app (goodIn_of _ (by decide +kernel)) ggL_law_X8_ground
set_option maxRecDepth 20000 in
theorem ggL_law_X7_earth : GoodIn wsL_law wsX7_earth := goodIn_r _ [163, 16, 164, 165, 2, 166, 167, 168, 169, 15, 170, 55, 51, 52, 53, 54, 648, 649, 650, 651, 652, 653, 654, 655, 656, 657, 658, 659, 660, 661, 662, 698, 699, 700, 701, 702] rfl (by decide +kernel)
set_option maxRecDepth 20000 in
theorem gL_law_X7_earth : GoodIn wsL_law (wsV RL 30 RX7 yX7_earth wsX7_earth) := goodIn_app (goodIn_of _ (by decide +kernel)) ggL_law_X7_earth
set_option maxRecDepth 20000 in
theorem ggL_law_X8_earth : GoodIn wsL_law wsX8_earth := goodIn_r _ [174, 157, 175, 116, 117, 118, 119, 663, 664, 665, 666, 667, 668, 669, 670, 671, 672, 673, 674, 675, 676, 677, 678, 679, 680, 681, 682, 683, 684, 685, 686, 687, 688, 689, 690, 691, 692, 693, 694, 695, 696, 697] rfl (by decide +kernel)
set_option maxRecDepth 20000 in
theorem gL_law_X8_earth : GoodIn wsL_law (wsV RL 34 RX8 yX8_earth wsX8_earth) := goodIn_app (goodIn_of _ (by decide +kernel)) ggL_law_X8_earth
set_option maxRecDepth 20000 in
theorem ggL_law_X7_lay : GoodIn wsL_law wsX7_lay := goodIn_r _ [179, 20, 16, 180, 181, 46, 182, 183, 184, 19, 185, 62, 165, 2, 166, 186, 187, 188, 15, 189, 55, 164, 190, 191, 192, 64, 193, 69, 194, 195, 196, 197, 77, 75, 648, 649, 650, 651, 652, 653, 654, 655, 656, 657, 658, 659, 660, 661, 662, 703, 704, 721, 722, 723, 724, 725, 726, 727, 728, 729, 698, 699, 700, 701, 702] rfl (by decide +kernel)
set_option maxRecDepth 20000 in
theorem gL_law_X7_lay : GoodIn wsL_law (wsV RL 35 RX7 yX7_lay wsX7_lay) := goodIn_app (goodIn_of _ (by decide +kernel)) ggL_law_X7_lay
set_option maxRecDepth 20000 in
theorem ggL_law_X8_lay : GoodIn wsL_law wsX8_lay := goodIn_r _ [201, 157, 175, 121, 120, 202, 203, 204, 5, 205, 115, 663, 664, 665, 666, 667, 668, 669, 670, 671, 672, 673, 674, 675, 676, 677, 678, 679, 680, 681, 682, 683, 684, 685, 686, 687, 688, 689, 690, 691, 692, 693, 694, 695, 696, 697] rfl (by decide +kernel)
set_option maxRecDepth 20000 in
theorem gL_law_X8_lay : GoodIn wsL_law (wsV RL 39 RX8 yX8_lay wsX8_lay) := goodIn_app (goodIn_of _ (by decide +kernel)) ggL_law_X8_lay
set_option maxRecDepth 20000 in
theorem ggL_law_X7_set : GoodIn wsL_law wsX7_set := goodIn_r _ [209, 20, 180, 46, 182, 183, 184, 19, 185, 62, 165, 2, 166, 164, 210, 211, 212, 64, 213, 70, 71, 72, 75, 648, 649, 650, 651, 652, 653, 654, 655, 656, 657, 658, 659, 660, 661, 662, 703, 704, 721, 722, 723, 724, 725, 726, 727, 728, 729] rfl (by decide +kernel)
set_option maxRecDepth 20000 in
theorem gL_law_X7_set : GoodIn wsL_law (wsV RL 40 RX7 yX7_set wsX7_set) := goodIn_app (goodIn_of _ (by decide +kernel)) ggL_law_X7_set
set_option maxRecDepth 20000 in
theorem ggL_law_X8_set : GoodIn wsL_law wsX8_set := goodIn_r _ [217, 157, 122, 123, 124, 202, 203, 204, 5, 205, 115, 663, 664, 665, 666, 667, 668, 669, 670, 671, 672, 673, 674, 675, 676, 677, 678, 679, 680, 681, 682, 683, 684, 685, 686, 687, 688, 689, 690, 691, 692, 693, 694, 695, 696, 697] rfl (by decide +kernel)
set_option maxRecDepth 20000 in
theorem gL_law_X8_set : GoodIn wsL_law (wsV RL 44 RX8 yX8_set wsX8_set) := goodIn_app (goodIn_of _ (by decide +kernel)) ggL_law_X8_set
set_option maxRecDepth 20000 in
theorem ggL_law_L_look : GoodIn wsL_law wsL_look := goodIn_ca (goodIn_ca (goodIn_r _ [221, 222, 223, 224, 225, 226, 2, 227, 228, 229, 230, 231, 20, 180, 232, 233, 234, 181, 182, 183, 184, 19, 185, 62, 165, 166, 164, 648, 649, 650, 651, 652, 653, 654, 655, 656, 657, 658, 659, 660, 661, 662, 703, 704, 721, 722, 723, 724, 725, 726, 727, 728, 729] rfl (by decide +kernel)) (goodIn_sub (fun _ h => List.mem_append_left _ (List.mem_append_right _ h)) (by decide +kernel))) (goodIn_sub (fun _ h => List.mem_append_right _ h) (by decide +kernel))
set_option maxRecDepth 20000 in
theorem gL_law_L_look : GoodIn wsL_law (va_wsS RL 45 yL_look wsL_look) := goodIn_app (goodIn_of _ (by decide +kernel)) ggL_law_L_look
set_option maxRecDepth 20000 in
theorem ggL_law_X8_look : GoodIn wsL_law wsX8_look := goodIn_r _ [238, 157, 122, 123, 124, 121, 202, 203, 204, 5, 205, 115, 239, 240, 241, 242, 663, 664, 665, 666, 667, 668, 669, 670, 671, 672, 673, 674, 675, 676, 677, 678, 679, 680, 681, 682, 683, 684, 685, 686, 687, 688, 689, 690, 691, 692, 693, 694, 695, 696, 697] rfl (by decide +kernel)
set_option maxRecDepth 20000 in
theorem gL_law_X8_look : GoodIn wsL_law (wsV RL 50 RX8 yX8_look wsX8_look) := goodIn_app (goodIn_of _ (by decide +kernel)) ggL_law_X8_look
set_option maxRecDepth 20000 in
theorem ggL_law_X7_cell : GoodIn wsL_law wsX7_cell := goodIn_r _ [246, 20, 180, 181, 247, 182, 183, 184, 19, 185, 62, 165, 2, 166, 164, 648, 649, 650, 651, 652, 653, 654, 655, 656, 657, 658, 659, 660, 661, 662, 703, 704, 721, 722, 723, 724, 725, 726, 727, 728, 729] rfl (by decide +kernel)
set_option maxRecDepth 20000 in
theorem gL_law_X7_cell : GoodIn wsL_law (wsV RL 51 RX7 yX7_cell wsX7_cell) := goodIn_app (goodIn_of _ (by decide +kernel)) ggL_law_X7_cell
set_option maxRecDepth 20000 in
theorem ggL_law_X8_cell : GoodIn wsL_law wsX8_cell := goodIn_r _ [251, 157, 121, 120, 202, 203, 204, 5, 205, 115, 663, 664, 665, 666, 667, 668, 669, 670, 671, 672, 673, 674, 675, 676, 677, 678, 679, 680, 681, 682, 683, 684, 685, 686, 687, 688, 689, 690, 691, 692, 693, 694, 695, 696, 697] rfl (by decide +kernel)
set_option maxRecDepth 20000 in
theorem gL_law_X8_cell : GoodIn wsL_law (wsV RL 54 RX8 yX8_cell wsX8_cell) := goodIn_app (goodIn_of _ (by decide +kernel)) ggL_law_X8_cell
set_option maxRecDepth 20000 in
theorem ggL_law_X7_begin : GoodIn wsL_law wsX7_begin := goodIn_r _ [255, 20, 33, 182, 183, 184, 19, 185, 62, 165, 2, 166, 164, 149, 150, 151, 32, 152, 105, 256, 257, 258, 259, 104, 103, 648, 649, 650, 651, 652, 653, 654, 655, 656, 657, 658, 659, 660, 661, 662, 703, 704, 716, 717, 718] rfl (by decide +kernel)
set_option maxRecDepth 20000 in
theorem gL_law_X7_begin : GoodIn wsL_law (wsV RL 55 RX7 yX7_begin wsX7_begin) := goodIn_app (goodIn_of _ (by decide +kernel)) ggL_law_X7_begin
set_option maxRecDepth 20000 in
theorem ggL_law_X8_begin : GoodIn wsL_law wsX8_begin := goodIn_r _ [263, 157, 128, 159, 129, 202, 203, 204, 5, 205, 115, 663, 664, 665, 666, 667, 668, 669, 670, 671, 672, 673, 674, 675, 676, 677, 678, 679, 680, 681, 682, 683, 684, 685, 686, 687, 688, 689, 690, 691, 692, 693, 694, 695, 696, 697] rfl (by decide +kernel)
set_option maxRecDepth 20000 in
theorem gL_law_X8_begin : GoodIn wsL_law (wsV RL 59 RX8 yX8_begin wsX8_begin) := goodIn_app (goodIn_of _ (by decide +kernel)) ggL_law_X8_begin
set_option maxRecDepth 20000 in
theorem ggL_law_X7_next : GoodIn wsL_law wsX7_next := goodIn_r _ [267, 33, 268, 20, 269, 164, 165, 2, 166, 270, 271, 272, 32, 273, 104, 105, 274, 275, 276, 277, 103, 648, 649, 650, 651, 652, 653, 654, 655, 656, 657, 658, 659, 660, 661, 662, 716, 717, 718, 703, 704] rfl (by decide +kernel)
set_option maxRecDepth 20000 in
theorem gL_law_X7_next : GoodIn wsL_law (wsV RL 60 RX7 yX7_next wsX7_next) := goodIn_app (goodIn_of _ (by decide +kernel)) ggL_law_X7_next
set_option maxRecDepth 20000 in
theorem ggL_law_X8_next : GoodIn wsL_law wsX8_next := goodIn_r _ [281, 157, 128, 159, 115, 129, 663, 664, 665, 666, 667, 668, 669, 670, 671, 672, 673, 674, 675, 676, 677, 678, 679, 680, 681, 682, 683, 684, 685, 686, 687, 688, 689, 690, 691, 692, 693, 694, 695, 696, 697] rfl (by decide +kernel)
set_option maxRecDepth 20000 in
theorem gL_law_X8_next : GoodIn wsL_law (wsV RL 64 RX8 yX8_next wsX8_next) := goodIn_app (goodIn_of _ (by decide +kernel)) ggL_law_X8_next
set_option maxRecDepth 20000 in
theorem ggL_law_X7_line : GoodIn wsL_law wsX7_line := goodIn_r _ [285, 20, 33, 286, 287, 288, 19, 289, 290, 62, 291, 61, 292, 293, 294, 271, 272, 32, 273, 104, 105, 295, 296, 297, 298, 299, 195, 196, 197, 300, 301, 302, 303, 304, 305, 64, 306, 75, 73, 69, 71, 76, 307, 77, 74, 308, 309, 310, 311, 312, 70, 313, 314, 315, 316, 317, 72, 318, 319, 320, 321, 648, 649, 650, 651, 652, 653, 654, 655, 656, 657, 658, 659, 660, 661, 662, 716, 717, 718, 703, 704, 721, 722, 723, 724, 725, 726, 727, 728, 729, 698, 699, 700, 701, 702] rfl (by decide +kernel)
set_option maxRecDepth 20000 in
theorem gL_law_X7_line : GoodIn wsL_law (wsV RL 65 RX7 yX7_line wsX7_line) := goodIn_app (goodIn_of _ (by decide +kernel)) ggL_law_X7_line
set_option maxRecDepth 20000 in
theorem ggL_law_X8_line : GoodIn wsL_law wsX8_line := goodIn_r _ [325, 157, 326, 327, 328, 5, 329, 128, 159, 129, 121, 330, 331, 332, 333, 334, 119, 120, 663, 664, 665, 666, 667, 668, 669, 670, 671, 672, 673, 674, 675, 676, 677, 678, 679, 680, 681, 682, 683, 684, 685, 686, 687, 688, 689, 690, 691, 692, 693, 694, 695, 696, 697] rfl (by decide +kernel)
set_option maxRecDepth 20000 in
theorem gL_law_X8_line : GoodIn wsL_law (wsV RL 69 RX8 yX8_line wsX8_line) := goodIn_app (goodIn_of _ (by decide +kernel)) ggL_law_X8_line
set_option maxRecDepth 20000 in
theorem ggL_law_L_share : GoodIn wsL_law wsL_share := goodIn_ca (goodIn_r _ [337, 223, 338, 339, 340, 2, 341, 230, 231, 20, 33, 39, 342, 343, 164, 165, 166, 286, 287, 288, 19, 289, 290, 62, 291, 61, 292, 293, 294, 271, 272, 32, 273, 104, 105, 295, 296, 297, 298, 299, 195, 196, 197, 300, 301, 302, 303, 304, 305, 64, 306, 75, 73, 69, 71, 76, 307, 77, 74, 308, 309, 310, 311, 312, 70, 313, 314, 315, 316, 317, 72, 318, 319, 320, 321, 344, 345, 346, 347, 348, 349, 350, 351, 352, 353, 354, 355, 356, 357, 358, 359, 37, 360, 109, 110, 361, 362, 363, 648, 649, 650, 651, 652, 653, 654, 655, 656, 657, 658, 659, 660, 661, 662, 719, 720, 716, 717, 718, 703, 704, 721, 722, 723, 724, 725, 726, 727, 728, 729, 698, 699, 700, 701, 702] rfl (by decide +kernel)) (goodIn_sub (fun _ h => List.mem_append_right _ h) (by decide +kernel))
set_option maxRecDepth 20000 in
theorem gL_law_L_share : GoodIn wsL_law (va_wsS RL 70 yL_share wsL_share) := goodIn_app (goodIn_of _ (by decide +kernel)) ggL_law_L_share
set_option maxRecDepth 20000 in
theorem ggL_law_X8_share : GoodIn wsL_law wsX8_share := goodIn_r _ [367, 157, 159, 128, 129, 326, 327, 328, 5, 329, 121, 330, 331, 332, 333, 334, 119, 120, 239, 240, 241, 242, 368, 369, 370, 371, 122, 372, 117, 118, 124, 373, 374, 375, 376, 123, 116, 377, 378, 379, 380, 381, 382, 383, 663, 664, 665, 666, 667, 668, 669, 670, 671, 672, 673, 674, 675, 676, 677, 678, 679, 680, 681, 682, 683, 684, 685, 686, 687, 688, 689, 690, 691, 692, 693, 694, 695, 696, 697] rfl (by decide +kernel)
set_option maxRecDepth 20000 in
theorem gL_law_X8_share : GoodIn wsL_law (wsV RL 73 RX8 yX8_share wsX8_share) := goodIn_app (goodIn_of _ (by decide +kernel)) ggL_law_X8_share
set_option maxRecDepth 20000 in
theorem ggL_law_X7_worst : GoodIn wsL_law wsX7_worst := goodIn_r _ [387, 388, 38, 342, 343, 34, 389, 268, 164, 165, 2, 166, 390, 391, 392, 393, 46, 20, 29, 47, 394, 395, 396, 19, 397, 62, 61, 303, 304, 305, 64, 306, 75, 73, 69, 71, 76, 307, 77, 74, 308, 309, 310, 311, 312, 70, 313, 314, 196, 315, 316, 317, 72, 398, 399, 400, 28, 401, 99, 402, 403, 404, 405, 406, 94, 407, 408, 409, 410, 411, 412, 95, 96, 413, 414, 415, 416, 97, 98, 93, 417, 418, 419, 420, 421, 422, 423, 424, 425, 426, 427, 428, 429, 430, 431, 432, 433, 434, 435, 319, 320, 321, 436, 354, 355, 356, 437, 438, 439, 440, 441, 442, 443, 444, 445, 446, 447, 448, 449, 257, 258, 32, 259, 104, 103, 105, 450, 451, 452, 453, 454, 195, 197, 455, 456, 457, 458, 459, 460, 301, 302, 461, 275, 276, 277, 462, 345, 346, 347, 290, 295, 296, 297, 298, 292, 291, 299, 300, 318, 463, 349, 350, 351, 352, 353, 464, 358, 359, 37, 360, 109, 110, 361, 362, 363, 465, 466, 467, 468, 469, 470, 270, 271, 272, 273, 648, 649, 650, 651, 652, 653, 654, 655, 656, 657, 658, 659, 660, 661, 662, 719, 720, 716, 717, 718, 703, 704, 721, 722, 723, 724, 725, 726, 727, 728, 729, 698, 699, 700, 701, 702, 709, 710, 711, 712, 713, 714, 715] rfl (by decide +kernel)
set_option maxRecDepth 20000 in
theorem gL_law_X7_worst : GoodIn wsL_law (wsV RL 74 RX7 yX7_worst wsX7_worst) := goodIn_app (goodIn_of _ (by decide +kernel)) ggL_law_X7_worst
set_option maxRecDepth 20000 in
theorem ggL_law_X8_worst : GoodIn wsL_law wsX8_worst := goodIn_r _ [474, 157, 475, 334, 476, 477, 478, 479, 480, 481, 482, 483, 5, 484, 485, 486, 487, 488, 489, 490, 491, 492, 115, 130, 121, 131, 132, 493, 494, 495, 330, 331, 332, 333, 119, 120, 368, 369, 370, 371, 122, 372, 117, 118, 124, 373, 374, 375, 376, 123, 116, 377, 378, 379, 380, 381, 382, 383, 496, 497, 498, 499, 133, 663, 664, 665, 666, 667, 668, 669, 670, 671, 672, 673, 674, 675, 676, 677, 678, 679, 680, 681, 682, 683, 684, 685, 686, 687, 688, 689, 690, 691, 692, 693, 694, 695, 696, 697] rfl (by decide +kernel)
set_option maxRecDepth 20000 in
theorem gL_law_X8_worst : GoodIn wsL_law (wsV RL 77 RX8 yX8_worst wsX8_worst) := goodIn_app (goodIn_of _ (by decide +kernel)) ggL_law_X8_worst
set_option maxRecDepth 20000 in
theorem ggL_law_X7_height : GoodIn wsL_law wsX7_height := goodIn_r _ [503, 34, 268, 504, 390, 391, 392, 2, 393, 46, 20, 29, 38, 47, 394, 395, 396, 19, 397, 62, 61, 303, 304, 305, 64, 306, 75, 73, 69, 71, 76, 307, 77, 74, 308, 309, 310, 311, 312, 70, 313, 314, 196, 315, 316, 317, 72, 398, 399, 400, 28, 401, 99, 402, 403, 404, 405, 406, 94, 407, 408, 409, 410, 411, 412, 95, 96, 413, 414, 415, 416, 97, 98, 93, 417, 418, 419, 420, 421, 422, 423, 424, 425, 426, 427, 428, 429, 430, 431, 432, 433, 434, 435, 319, 320, 321, 436, 354, 355, 356, 437, 438, 439, 440, 441, 442, 443, 444, 445, 446, 447, 448, 449, 257, 258, 32, 259, 104, 103, 105, 450, 451, 452, 453, 454, 195, 197, 455, 456, 457, 458, 459, 460, 301, 302, 461, 275, 276, 277, 462, 345, 346, 347, 290, 295, 296, 297, 298, 292, 291, 299, 300, 318, 463, 349, 350, 351, 352, 353, 464, 358, 359, 37, 360, 109, 110, 361, 362, 363, 465, 466, 467, 468, 469, 470, 164, 165, 166, 648, 649, 650, 651, 652, 653, 654, 655, 656, 657, 658, 659, 660, 661, 662, 716, 717, 718, 703, 704, 721, 722, 723, 724, 725, 726, 727, 728, 729, 698, 699, 700, 701, 702, 709, 710, 711, 712, 713, 714, 715, 719, 720] rfl (by decide +kernel)
set_option maxRecDepth 20000 in
theorem gL_law_X7_height : GoodIn wsL_law (wsV RL 78 RX7 yX7_height wsX7_height) := goodIn_app (goodIn_of _ (by decide +kernel)) ggL_law_X7_height
set_option maxRecDepth 20000 in
theorem ggL_law_X8_height : GoodIn wsL_law wsX8_height := goodIn_r _ [508, 157, 334, 476, 480, 479, 133, 481, 482, 483, 5, 484, 485, 486, 487, 488, 477, 478, 489, 490, 491, 492, 115, 130, 121, 131, 132, 493, 494, 495, 330, 331, 332, 333, 119, 120, 368, 369, 370, 371, 122, 372, 117, 118, 124, 373, 374, 375, 376, 123, 116, 377, 378, 379, 380, 381, 382, 383, 496, 497, 498, 499, 663, 664, 665, 666, 667, 668, 669, 670, 671, 672, 673, 674, 675, 676, 677, 678, 679, 680, 681, 682, 683, 684, 685, 686, 687, 688, 689, 690, 691, 692, 693, 694, 695, 696, 697] rfl (by decide +kernel)
set_option maxRecDepth 20000 in
theorem gL_law_X8_height : GoodIn wsL_law (wsV RL 81 RX8 yX8_height wsX8_height) := goodIn_app (goodIn_of _ (by decide +kernel)) ggL_law_X8_height
set_option maxRecDepth 20000 in
theorem ggL_law_X7_rise : GoodIn wsL_law wsX7_rise := goodIn_r _ [512, 20, 513, 514, 2, 515, 164, 165, 166, 394, 395, 396, 19, 397, 62, 61, 303, 304, 305, 64, 306, 75, 73, 69, 71, 76, 307, 77, 74, 308, 309, 310, 311, 312, 70, 313, 314, 196, 315, 316, 317, 72, 516, 517, 518, 519, 21, 29, 520, 521, 522, 523, 524, 525, 526, 527, 528, 529, 530, 531, 532, 533, 534, 535, 536, 299, 195, 197, 537, 211, 212, 213, 398, 399, 400, 28, 401, 99, 538, 539, 540, 541, 406, 94, 409, 410, 411, 412, 95, 96, 413, 414, 415, 416, 97, 98, 93, 417, 418, 419, 420, 421, 422, 423, 424, 425, 426, 427, 428, 429, 430, 431, 432, 433, 434, 435, 319, 320, 321, 436, 354, 355, 356, 437, 438, 439, 440, 441, 442, 443, 444, 648, 649, 650, 651, 652, 653, 654, 655, 656, 657, 658, 659, 660, 661, 662, 703, 704, 721, 722, 723, 724, 725, 726, 727, 728, 729, 698, 699, 700, 701, 702, 709, 710, 711, 712, 713, 714, 715] rfl (by decide +kernel)
set_option maxRecDepth 20000 in
theorem gL_law_X7_rise : GoodIn wsL_law (wsV RL 82 RX7 yX7_rise wsX7_rise) := goodIn_app (goodIn_of _ (by decide +kernel)) ggL_law_X7_rise
set_option maxRecDepth 20000 in
theorem ggL_law_X8_rise : GoodIn wsL_law wsX8_rise := goodIn_r _ [545, 157, 115, 122, 334, 546, 547, 5, 548, 549, 550, 551, 552, 121, 123, 124, 553, 554, 555, 556, 485, 489, 490, 491, 492, 486, 487, 130, 131, 132, 488, 493, 494, 495, 330, 331, 332, 333, 119, 120, 368, 369, 370, 371, 372, 117, 118, 373, 374, 375, 376, 116, 377, 378, 379, 380, 663, 664, 665, 666, 667, 668, 669, 670, 671, 672, 673, 674, 675, 676, 677, 678, 679, 680, 681, 682, 683, 684, 685, 686, 687, 688, 689, 690, 691, 692, 693, 694, 695, 696, 697] rfl (by decide +kernel)
set_option maxRecDepth 20000 in
theorem gL_law_X8_rise : GoodIn wsL_law (wsV RL 85 RX8 yX8_rise wsX8_rise) := goodIn_app (goodIn_of _ (by decide +kernel)) ggL_law_X8_rise
set_option maxRecDepth 20000 in
theorem ggL_law_X7_act : GoodIn wsL_law wsX7_act := goodIn_r _ [560, 20, 25, 164, 165, 2, 166, 182, 183, 184, 19, 185, 62, 561, 562, 563, 24, 564, 85, 86, 87, 88, 648, 649, 650, 651, 652, 653, 654, 655, 656, 657, 658, 659, 660, 661, 662, 703, 704, 705, 706, 707, 708] rfl (by decide +kernel)
set_option maxRecDepth 20000 in
theorem gL_law_X7_act : GoodIn wsL_law (wsV RL 86 RX7 yX7_act wsX7_act) := goodIn_app (goodIn_of _ (by decide +kernel)) ggL_law_X7_act
set_option maxRecDepth 20000 in
theorem ggL_law_X8_act : GoodIn wsL_law wsX8_act := goodIn_r _ [568, 157, 158, 125, 126, 127, 202, 203, 204, 5, 205, 115, 663, 664, 665, 666, 667, 668, 669, 670, 671, 672, 673, 674, 675, 676, 677, 678, 679, 680, 681, 682, 683, 684, 685, 686, 687, 688, 689, 690, 691, 692, 693, 694, 695, 696, 697] rfl (by decide +kernel)
set_option maxRecDepth 20000 in
theorem gL_law_X8_act : GoodIn wsL_law (wsV RL 89 RX8 yX8_act wsX8_act) := goodIn_app (goodIn_of _ (by decide +kernel)) ggL_law_X8_act
set_option maxRecDepth 20000 in
theorem ggL_law_X7_perform : GoodIn wsL_law wsX7_perform := goodIn_r _ [572, 25, 20, 46, 573, 574, 575, 24, 576, 85, 165, 2, 166, 577, 578, 579, 580, 87, 581, 88, 86, 582, 583, 195, 196, 197, 584, 585, 586, 587, 183, 184, 19, 185, 62, 588, 589, 590, 64, 591, 69, 194, 75, 592, 211, 212, 213, 70, 71, 72, 648, 649, 650, 651, 652, 653, 654, 655, 656, 657, 658, 659, 660, 661, 662, 705, 706, 707, 708, 703, 704, 721, 722, 723, 724, 725, 726, 727, 728, 729] rfl (by decide +kernel)
set_option maxRecDepth 20000 in
theorem gL_law_X7_perform : GoodIn wsL_law (wsV RL 90 RX7 yX7_perform wsX7_perform) := goodIn_app (goodIn_of _ (by decide +kernel)) ggL_law_X7_perform
set_option maxRecDepth 20000 in
theorem ggL_law_X8_perform : GoodIn wsL_law wsX8_perform := goodIn_r _ [596, 157, 158, 334, 597, 598, 599, 5, 600, 126, 127, 125, 121, 124, 122, 123, 663, 664, 665, 666, 667, 668, 669, 670, 671, 672, 673, 674, 675, 676, 677, 678, 679, 680, 681, 682, 683, 684, 685, 686, 687, 688, 689, 690, 691, 692, 693, 694, 695, 696, 697] rfl (by decide +kernel)
set_option maxRecDepth 20000 in
theorem gL_law_X8_perform : GoodIn wsL_law (wsV RL 93 RX8 yX8_perform wsX8_perform) := goodIn_app (goodIn_of _ (by decide +kernel)) ggL_law_X8_perform
set_option maxRecDepth 20000 in
theorem ggL_law_X7_order : GoodIn wsL_law wsX7_order := goodIn_r _ [604, 20, 25, 140, 41, 43, 44, 605, 529, 530, 531, 45, 513, 514, 2, 515, 164, 165, 166, 394, 395, 396, 19, 397, 62, 61, 303, 304, 305, 64, 306, 75, 73, 69, 71, 76, 307, 77, 74, 308, 309, 310, 311, 312, 70, 313, 314, 196, 315, 316, 317, 72, 606, 607, 608, 609, 21, 29, 520, 521, 522, 523, 524, 525, 526, 527, 528, 577, 578, 579, 24, 580, 87, 581, 88, 86, 582, 583, 195, 197, 584, 585, 586, 574, 575, 576, 85, 587, 183, 184, 185, 588, 589, 590, 591, 194, 592, 211, 212, 213, 398, 399, 400, 28, 401, 99, 538, 539, 540, 541, 406, 94, 409, 410, 411, 412, 95, 96, 413, 414, 415, 416, 97, 98, 93, 417, 418, 419, 420, 421, 422, 423, 424, 425, 426, 427, 428, 429, 430, 431, 432, 433, 434, 435, 319, 320, 321, 436, 354, 355, 356, 437, 438, 439, 440, 441, 442, 443, 444, 610, 611, 612, 613, 648, 649, 650, 651, 652, 653, 654, 655, 656, 657, 658, 659, 660, 661, 662, 705, 706, 707, 708, 703, 704, 721, 722, 723, 724, 725, 726, 727, 728, 729, 698, 699, 700, 701, 702, 709, 710, 711, 712, 713, 714, 715] rfl (by decide +kernel)
set_option maxRecDepth 20000 in
theorem gL_law_X7_order : GoodIn wsL_law (wsV RL 94 RX7 yX7_order wsX7_order) := goodIn_app (goodIn_of _ (by decide +kernel)) ggL_law_X7_order
set_option maxRecDepth 20000 in
theorem ggL_law_X8_order : GoodIn wsL_law wsX8_order := goodIn_r _ [617, 157, 158, 134, 334, 618, 135, 546, 547, 5, 548, 549, 550, 551, 552, 121, 122, 123, 124, 597, 598, 599, 600, 126, 127, 125, 553, 554, 555, 556, 485, 489, 490, 491, 492, 486, 487, 115, 130, 131, 132, 488, 493, 494, 495, 330, 331, 332, 333, 119, 120, 368, 369, 370, 371, 372, 117, 118, 373, 374, 375, 376, 116, 377, 378, 379, 380, 619, 620, 621, 622, 623, 624, 625, 626, 663, 664, 665, 666, 667, 668, 669, 670, 671, 672, 673, 674, 675, 676, 677, 678, 679, 680, 681, 682, 683, 684, 685, 686, 687, 688, 689, 690, 691, 692, 693, 694, 695, 696, 697] rfl (by decide +kernel)
set_option maxRecDepth 20000 in
theorem gL_law_X8_order : GoodIn wsL_law (wsV RL 97 RX8 yX8_order wsX8_order) := goodIn_app (goodIn_of _ (by decide +kernel)) ggL_law_X8_order
set_option maxRecDepth 20000 in
theorem ggL_law_X7_step : GoodIn wsL_law wsX7_step := goodIn_r _ [630, 45, 44, 164, 165, 2, 166, 648, 649, 650, 651, 652, 653, 654, 655, 656, 657, 658, 659, 660, 661, 662] rfl (by decide +kernel)
set_option maxRecDepth 20000 in
theorem gL_law_X7_step : GoodIn wsL_law (wsV RL 98 RX7 yX7_step wsX7_step) := goodIn_app (goodIn_of _ (by decide +kernel)) ggL_law_X7_step
set_option maxRecDepth 20000 in
theorem ggL_law_X8_step : GoodIn wsL_law wsX8_step := goodIn_r _ [634, 157, 618, 135, 663, 664, 665, 666, 667, 668, 669, 670, 671, 672, 673, 674, 675, 676, 677, 678, 679, 680, 681, 682, 683, 684, 685, 686, 687, 688, 689, 690, 691, 692, 693, 694, 695, 696, 697] rfl (by decide +kernel)
set_option maxRecDepth 20000 in
theorem gL_law_X8_step : GoodIn wsL_law (wsV RL 101 RX8 yX8_step wsX8_step) := goodIn_app (goodIn_of _ (by decide +kernel)) ggL_law_X8_step
set_option maxRecDepth 20000 in
theorem ggL_law_X7_count : GoodIn wsL_law wsX7_count := goodIn_r _ [638, 20, 269, 16, 639, 25, 140, 640, 641, 642, 19, 643, 62, 61, 293, 648, 649, 650, 651, 652, 653, 654, 655, 656, 657, 658, 659, 660, 661, 662, 703, 704, 698, 699, 700, 701, 702, 705, 706, 707, 708, 721, 722, 723, 724, 725, 726, 727, 728, 729] rfl (by decide +kernel)
set_option maxRecDepth 20000 in
theorem gL_law_X7_count : GoodIn wsL_law (wsV RL 102 RX7 yX7_count wsX7_count) := goodIn_app (goodIn_of _ (by decide +kernel)) ggL_law_X7_count
set_option maxRecDepth 20000 in
theorem ggL_law_X8_count : GoodIn wsL_law wsX8_count := goodIn_r _ [647, 157, 115, 175, 158, 121, 663, 664, 665, 666, 667, 668, 669, 670, 671, 672, 673, 674, 675, 676, 677, 678, 679, 680, 681, 682, 683, 684, 685, 686, 687, 688, 689, 690, 691, 692, 693, 694, 695, 696, 697] rfl (by decide +kernel)
set_option maxRecDepth 20000 in
theorem gL_law_X8_count : GoodIn wsL_law (wsV RL 105 RX8 yX8_count wsX8_count) := goodIn_app (goodIn_of _ (by decide +kernel)) ggL_law_X8_count

