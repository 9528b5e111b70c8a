theorem mem_r {big : List Cond} (ws : List Cond) (ps : List Nat) (hp : ws = ps.filterMap (fun i => big[i]?)) : ∀ w ∈ ws, w ∈ big := by
  intro w hw
  rw [hp] at hw
  obtain ⟨i, -, hi⟩ := List.mem_filterMap.mp hw
  first | exact List.mem_of_getElem? hi | exact List.getElem?_mem hi
set_option maxRecDepth 20000 in
theorem inlw_1 : ∀ w ∈ wsL_law0_r1, w ∈ lw_tbl := mem_r _ [49, 50, 33, 692, 693, 41, 203, 51, 52, 53, 54, 55, 56, 57, 58, 34, 243, 86, 87, 35, 244, 245, 155, 156] rfl
set_option maxRecDepth 20000 in
theorem inlw_2 : ∀ w ∈ wsL_law0_r2, w ∈ lw_tbl := mem_r _ [37, 246, 175, 176, 38, 247, 204, 205, 39, 248, 249, 226, 227, 40, 250, 251, 85, 252, 84, 253, 254, 255, 256, 257] rfl
set_option maxRecDepth 20000 in
theorem inlw_3 : ∀ w ∈ wsL_law0_r3, w ∈ lw_tbl := mem_r _ [60, 61, 62, 63, 65, 67, 69, 71, 88, 89, 90, 91, 92, 140, 144, 94, 36, 95, 96, 97, 98, 102, 106, 110] rfl
set_option maxRecDepth 20000 in
theorem inlw_4 : ∀ w ∈ wsL_law0_r4, w ∈ lw_tbl := mem_r _ [113, 118, 119, 120, 116, 99, 152, 153, 154, 100, 158, 159, 160, 161, 163, 164, 165, 177, 178, 179, 180, 182, 183, 184] rfl
set_option maxRecDepth 20000 in
theorem inlw_5 : ∀ w ∈ wsL_law0_r5, w ∈ lw_tbl := mem_r _ [185, 186, 187, 181, 207, 208, 209, 210, 213, 216, 229, 230, 231, 232, 235, 694, 695, 696, 697, 698, 700, 701, 702, 703] rfl
set_option maxRecDepth 20000 in
theorem inlw_6 : ∀ w ∈ wsL_law0_r6, w ∈ lw_tbl := mem_r _ [704, 705, 706, 707, 708, 711, 712, 713, 714, 716, 718, 719, 720, 729, 730, 731, 289, 290, 291, 292, 162, 293, 294, 295] rfl
set_option maxRecDepth 20000 in
theorem inlw_7 : ∀ w ∈ wsL_law0_r7, w ∈ lw_tbl := mem_r _ [296, 297, 298, 299, 300, 301, 302, 303, 304, 804, 805, 806, 807, 717, 710, 715, 305, 306, 307, 308, 309, 310, 311, 312] rfl
set_option maxRecDepth 20000 in
theorem inlw_8 : ∀ w ∈ wsL_law0_r8, w ∈ lw_tbl := mem_r _ [313, 314, 315, 808, 809, 810, 811, 699, 316, 317, 318, 319, 142, 103, 320, 321, 322, 323, 325, 326, 327, 328, 330, 331] rfl
set_option maxRecDepth 20000 in
theorem inlw_9 : ∀ w ∈ wsL_law0_r9, w ∈ lw_tbl := mem_r _ [332, 333, 334, 335, 42, 336, 812, 813, 814, 815, 816, 818, 17, 819, 337, 338, 339, 340, 341, 342, 343, 344, 820, 821] rfl
set_option maxRecDepth 20000 in
theorem inlw_10 : ∀ w ∈ wsL_law0_r10, w ∈ lw_tbl := mem_r _ [822, 823, 588, 589, 32, 590, 591, 592, 593, 594, 595, 596, 597, 46, 664, 47, 108, 112, 115, 824, 825, 826, 827, 828] rfl
set_option maxRecDepth 20000 in
theorem inlw_11 : ∀ w ∈ wsL_law0_r11, w ∈ lw_tbl := mem_r _ [830, 18, 831, 345, 346, 347, 348, 101, 832, 833, 834, 835, 349, 350, 351, 352, 353, 354, 355, 356, 836, 837, 838, 839] rfl
set_option maxRecDepth 20000 in
theorem inlw_12 : ∀ w ∈ wsL_law0_r12, w ∈ lw_tbl := mem_r _ [357, 358, 359, 360, 218, 146, 361, 362, 363, 364, 365, 366, 367, 368, 840, 841, 842, 843, 369, 370, 371, 372, 373, 374] rfl
set_option maxRecDepth 20000 in
theorem inlw_13 : ∀ w ∈ wsL_law0_r13, w ∈ lw_tbl := mem_r _ [375, 376, 217, 211, 214, 105, 377, 378, 380, 0, 381, 393, 394, 395, 396, 382, 383, 384, 385, 64, 386, 388, 1, 389] rfl
set_option maxRecDepth 20000 in
theorem inlw_14 : ∀ w ∈ wsL_law0_r14, w ∈ lw_tbl := mem_r _ [70, 390, 391, 392, 68, 66, 397, 398, 399, 400, 844, 845, 846, 847, 848, 850, 19, 851, 852, 854, 20, 855, 709, 680] rfl
set_option maxRecDepth 20000 in
theorem inlw_15 : ∀ w ∈ wsL_law0_r15, w ∈ lw_tbl := mem_r _ [681, 682, 683, 684, 685, 686, 234, 237, 688, 476, 477, 478, 689, 480, 481, 482, 483, 484, 447, 448, 449, 691, 486, 487] rfl
set_option maxRecDepth 20000 in
theorem inlw_16 : ∀ w ∈ wsL_law0_r16, w ∈ lw_tbl := mem_r _ [488, 489, 490, 491, 856, 857, 858, 859, 860, 862, 21, 863, 868, 864, 866, 22, 867, 869, 871, 23, 872, 873, 874, 875] rfl
set_option maxRecDepth 20000 in
theorem inlw_17 : ∀ w ∈ wsL_law0_r17, w ∈ lw_tbl := mem_r _ [401, 402, 403, 404, 498, 215, 405, 407, 2, 408, 409, 410, 411, 412, 413, 414, 415, 416, 417, 418, 419, 420, 145, 233] rfl
set_option maxRecDepth 20000 in
theorem inlw_18 : ∀ w ∈ wsL_law0_r18, w ∈ lw_tbl := mem_r _ [236, 421, 423, 3, 424, 425, 427, 4, 428, 143, 104, 429, 431, 5, 432, 433, 434, 436, 6, 437, 438, 439, 440, 441] rfl
set_option maxRecDepth 20000 in
theorem inlw_19 : ∀ w ∈ wsL_law0_r19, w ∈ lw_tbl := mem_r _ [443, 7, 444, 445, 446, 450, 452, 8, 453, 454, 456, 9, 457, 458, 460, 10, 461, 462, 463, 465, 11, 466, 467, 468] rfl
set_option maxRecDepth 20000 in
theorem inlw_20 : ∀ w ∈ wsL_law0_r20, w ∈ lw_tbl := mem_r _ [469, 471, 12, 472, 473, 474, 475, 479, 485, 492, 493, 494, 495, 496, 497, 876, 877, 878, 879, 880, 724, 725, 726, 727] rfl
set_option maxRecDepth 20000 in
theorem inlw_21 : ∀ w ∈ wsL_law0_r21, w ∈ lw_tbl := mem_r _ [728, 881, 883, 24, 884, 721, 889, 722, 723, 885, 887, 25, 888, 890, 891, 892, 893, 895, 26, 896, 499, 500, 501, 502] rfl
set_option maxRecDepth 20000 in
theorem inlw_22 : ∀ w ∈ wsL_law0_r22, w ∈ lw_tbl := mem_r _ [212, 897, 898, 899, 900, 503, 504, 505, 506, 507, 508, 509, 510, 512, 13, 513, 514, 515, 516, 517, 518, 519, 520, 521] rfl
set_option maxRecDepth 20000 in
theorem inlw_23 : ∀ w ∈ wsL_law0_r23, w ∈ lw_tbl := mem_r _ [522, 524, 523, 48, 525, 526, 527, 528, 109, 529, 530, 531, 532, 533, 901, 902, 903, 904, 905, 906, 907, 908, 910, 27] rfl
set_option maxRecDepth 20000 in
theorem inlw_24 : ∀ w ∈ wsL_law0_r24, w ∈ lw_tbl := mem_r _ [911, 912, 914, 28, 915, 534, 535, 536, 537, 538, 539, 540, 541, 916, 917, 918, 919, 542, 543, 544, 545, 546, 547, 548] rfl
set_option maxRecDepth 20000 in
theorem inlw_25 : ∀ w ∈ wsL_law0_r25, w ∈ lw_tbl := mem_r _ [549, 551, 552, 553, 554, 141, 114, 561, 107, 111, 555, 556, 557, 558, 559, 560, 562, 920, 921, 922, 923, 924, 926, 29] rfl
set_option maxRecDepth 20000 in
theorem inlw_26 : ∀ w ∈ wsL_law0_r26, w ∈ lw_tbl := mem_r _ [927, 563, 564, 565, 566, 575, 567, 569, 14, 570, 571, 573, 15, 574, 928, 929, 930, 931, 732, 932, 934, 30, 935, 936] rfl
set_option maxRecDepth 20000 in
theorem inlw_27 : ∀ w ∈ wsL_law0_r27, w ∈ lw_tbl := mem_r _ [938, 31, 939, 576, 577, 578, 579, 940, 941, 942, 943, 580, 581, 582, 583, 72, 584, 585, 586, 587, 944, 945, 946, 947] rfl
set_option maxRecDepth 20000 in
theorem inlf_0 : ∀ w ∈ wsX00, w ∈ lw_tbl := mem_r _ [166, 168, 170, 172] (by decide +kernel)
set_option maxRecDepth 20000 in
theorem inlf_1 : ∀ w ∈ wsX10, w ∈ lw_tbl := mem_r _ [121, 123, 125, 127, 129, 131, 133, 135, 137] (by decide +kernel)
set_option maxRecDepth 20000 in
theorem inlf_2 : ∀ w ∈ wsX20, w ∈ lw_tbl := mem_r _ [73, 75, 77, 79, 81] (by decide +kernel)
set_option maxRecDepth 20000 in
theorem inlf_3 : ∀ w ∈ wsX30, w ∈ lw_tbl := mem_r _ [238, 240] (by decide +kernel)
set_option maxRecDepth 20000 in
theorem inlf_4 : ∀ w ∈ wsX40, w ∈ lw_tbl := mem_r _ [147, 149] (by decide +kernel)
set_option maxRecDepth 20000 in
theorem inlf_5 : ∀ w ∈ wsX50, w ∈ lw_tbl := mem_r _ [219, 221, 223] (by decide +kernel)
set_option maxRecDepth 20000 in
theorem inlf_6 : ∀ w ∈ wsX60, w ∈ lw_tbl := mem_r _ [188, 190, 192, 194, 196, 198, 200] (by decide +kernel)
set_option maxRecDepth 20000 in
theorem inlf_7 : ∀ w ∈ wsX70, w ∈ lw_tbl := mem_r _ [258, 260, 262, 264, 266, 268, 270, 272, 274, 276, 278, 280, 282, 284, 286] (by decide +kernel)
set_option maxRecDepth 20000 in
theorem inlf_8 : ∀ w ∈ wsX80, w ∈ lw_tbl := mem_r _ [733, 735, 737, 739, 741, 743, 745, 747, 749, 751, 753, 755, 757, 759, 761, 763, 765, 767, 769, 771, 773, 775, 777, 779, 781, 783, 785, 787, 789, 791, 793, 795, 797, 799, 801] (by decide +kernel)
theorem wsL_law_in0 : ∀ w ∈ wsL_law0, w ∈ lw_tbl := List.forall_mem_append.mpr ⟨List.forall_mem_append.mpr ⟨List.forall_mem_append.mpr ⟨List.forall_mem_append.mpr ⟨List.forall_mem_append.mpr ⟨List.forall_mem_append.mpr ⟨List.forall_mem_append.mpr ⟨List.forall_mem_append.mpr ⟨List.forall_mem_append.mpr ⟨List.forall_mem_append.mpr ⟨List.forall_mem_append.mpr ⟨inlw_1, List.forall_mem_append.mpr ⟨inlw_2, List.forall_mem_append.mpr ⟨inlw_3, List.forall_mem_append.mpr ⟨inlw_4, List.forall_mem_append.mpr ⟨inlw_5, List.forall_mem_append.mpr ⟨inlw_6, List.forall_mem_append.mpr ⟨inlw_7, List.forall_mem_append.mpr ⟨inlw_8, List.forall_mem_append.mpr ⟨inlw_9, List.forall_mem_append.mpr ⟨inlw_10, List.forall_mem_append.mpr ⟨inlw_11, List.forall_mem_append.mpr ⟨inlw_12, List.forall_mem_append.mpr ⟨inlw_13, List.forall_mem_append.mpr ⟨inlw_14, List.forall_mem_append.mpr ⟨inlw_15, List.forall_mem_append.mpr ⟨inlw_16, List.forall_mem_append.mpr ⟨inlw_17, List.forall_mem_append.mpr ⟨inlw_18, List.forall_mem_append.mpr ⟨inlw_19, List.forall_mem_append.mpr ⟨inlw_20, List.forall_mem_append.mpr ⟨inlw_21, List.forall_mem_append.mpr ⟨inlw_22, List.forall_mem_append.mpr ⟨inlw_23, List.forall_mem_append.mpr ⟨inlw_24, List.forall_mem_append.mpr ⟨inlw_25, List.forall_mem_append.mpr ⟨inlw_26, inlw_27⟩⟩⟩⟩⟩⟩⟩⟩⟩⟩⟩⟩⟩⟩⟩⟩⟩⟩⟩⟩⟩⟩⟩⟩⟩⟩, inlf_7⟩, inlf_8⟩, inlf_2⟩, inlf_4⟩, inlf_0⟩, inlf_6⟩, inlf_5⟩, inlf_3⟩, inlf_1⟩, fun _ h => nomatch h⟩
