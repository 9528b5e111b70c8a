set_option maxRecDepth 20000 in
theorem ggX7_init_X2_init : GoodIn wsX7_init wsX2_init := goodIn_r _ [40, 41, 2, 3, 33, 42, 43, 44, 31, 45, 46, 103, 104, 105, 106, 107] rfl (by decide +kernel)
set_option maxRecDepth 20000 in
theorem gX7_init_X2_init_n11 : GoodIn wsX7_init (wsX2_init) := ggX7_init_X2_init
set_option maxRecDepth 20000 in
theorem ggX7_init_X4_init : GoodIn wsX7_init wsX4_init := goodIn_r _ [49, 50, 2, 3, 51, 52, 53, 54, 55, 33, 56, 57, 58, 59, 60, 61, 62, 63, 64, 65, 66, 67, 68, 123, 124, 141, 142, 143, 144, 145, 146, 147, 148, 149] rfl (by decide +kernel)
set_option maxRecDepth 20000 in
theorem gX7_init_X4_init : GoodIn wsX7_init (wsX4_init) := ggX7_init_X4_init
set_option maxRecDepth 20000 in
theorem ggX7_init_X4_init_ : GoodIn wsX7_init wsX4_init_ := goodIn_r _ [71, 50, 2, 3, 51, 52, 53, 54, 55, 72, 56, 57, 58, 59, 60, 61, 62, 63, 33, 64, 65, 66, 67, 68, 123, 124, 141, 142, 143, 144, 145, 146, 147, 148, 149] rfl (by decide +kernel)
set_option maxRecDepth 20000 in
theorem gX7_init_X4_init_ : GoodIn wsX7_init (wsX4_init_) := ggX7_init_X4_init_
set_option maxRecDepth 20000 in
theorem ggX7_init_X0_init : GoodIn wsX7_init wsX0_init := goodIn_r _ [74, 75, 2, 3, 76, 33, 77, 78, 79, 125, 126, 127, 128] rfl (by decide +kernel)
set_option maxRecDepth 20000 in
theorem gX7_init_X0_init_n33 : GoodIn wsX7_init (wsX0_init) := ggX7_init_X0_init
set_option maxRecDepth 20000 in
theorem ggX7_init_X6_init : GoodIn wsX7_init wsX6_init := goodIn_r _ [82, 83, 2, 3, 84, 85, 86, 87, 88, 89, 90, 91, 129, 130, 131, 132, 133, 134, 135] rfl (by decide +kernel)
set_option maxRecDepth 20000 in
theorem gX7_init_X6_init : GoodIn wsX7_init (wsX6_init) := ggX7_init_X6_init
set_option maxRecDepth 20000 in
theorem ggX7_init_X5_init : GoodIn wsX7_init wsX5_init := goodIn_r _ [93, 94, 2, 3, 33, 95, 96, 97, 136, 137, 138] rfl (by decide +kernel)
set_option maxRecDepth 20000 in
theorem gX7_init_X5_init_n47 : GoodIn wsX7_init (wsX5_init) := ggX7_init_X5_init
set_option maxRecDepth 20000 in
theorem ggX7_init_X3_init : GoodIn wsX7_init wsX3_init := goodIn_r _ [99, 100, 2, 3, 101, 102, 139, 140] rfl (by decide +kernel)
set_option maxRecDepth 20000 in
theorem gX7_init_X3_init_n57 : GoodIn wsX7_init (wsX3_init) := ggX7_init_X3_init
theorem dX7_init_0 : decode cX7_init 0 = .ok (.aload_n 0, 1) := by decide +kernel
theorem dX7_init_1 : decode cX7_init 1 = .ok (.invokespecial 3, 3) := by decide +kernel
theorem dX7_init_4 : decode cX7_init 4 = .ok (.aload_n 0, 1) := by decide +kernel
theorem dX7_init_5 : decode cX7_init 5 = .ok (.new 9, 3) := by decide +kernel
theorem dX7_init_8 : decode cX7_init 8 = .ok (.dup, 1) := by decide +kernel
theorem dX7_init_9 : decode cX7_init 9 = .ok (.invokespecial 11, 3) := by decide +kernel
theorem dX7_init_12 : decode cX7_init 12 = .ok (.putfield 12, 3) := by decide +kernel
theorem dX7_init_15 : decode cX7_init 15 = .ok (.aload_n 0, 1) := by decide +kernel
theorem dX7_init_16 : decode cX7_init 16 = .ok (.new 16, 3) := by decide +kernel
theorem dX7_init_19 : decode cX7_init 19 = .ok (.dup, 1) := by decide +kernel
theorem dX7_init_20 : decode cX7_init 20 = .ok (.aload_n 0, 1) := by decide +kernel
theorem dX7_init_21 : decode cX7_init 21 = .ok (.getfield 12, 3) := by decide +kernel
theorem dX7_init_24 : decode cX7_init 24 = .ok (.invokespecial 18, 3) := by decide +kernel
theorem dX7_init_27 : decode cX7_init 27 = .ok (.putfield 21, 3) := by decide +kernel
theorem dX7_init_30 : decode cX7_init 30 = .ok (.aload_n 0, 1) := by decide +kernel
theorem dX7_init_31 : decode cX7_init 31 = .ok (.new 16, 3) := by decide +kernel
theorem dX7_init_34 : decode cX7_init 34 = .ok (.dup, 1) := by decide +kernel
theorem dX7_init_35 : decode cX7_init 35 = .ok (.aload_n 0, 1) := by decide +kernel
theorem dX7_init_36 : decode cX7_init 36 = .ok (.getfield 21, 3) := by decide +kernel
theorem dX7_init_39 : decode cX7_init 39 = .ok (.invokespecial 25, 3) := by decide +kernel
theorem dX7_init_42 : decode cX7_init 42 = .ok (.putfield 28, 3) := by decide +kernel
theorem dX7_init_45 : decode cX7_init 45 = .ok (.aload_n 0, 1) := by decide +kernel
theorem dX7_init_46 : decode cX7_init 46 = .ok (.new 31, 3) := by decide +kernel
theorem dX7_init_49 : decode cX7_init 49 = .ok (.dup, 1) := by decide +kernel
theorem dX7_init_50 : decode cX7_init 50 = .ok (.invokespecial 33, 3) := by decide +kernel
theorem dX7_init_53 : decode cX7_init 53 = .ok (.putfield 34, 3) := by decide +kernel
theorem dX7_init_56 : decode cX7_init 56 = .ok (.aload_n 0, 1) := by decide +kernel
theorem dX7_init_57 : decode cX7_init 57 = .ok (.new 38, 3) := by decide +kernel
theorem dX7_init_60 : decode cX7_init 60 = .ok (.dup, 1) := by decide +kernel
theorem dX7_init_61 : decode cX7_init 61 = .ok (.aload_n 0, 1) := by decide +kernel
theorem dX7_init_62 : decode cX7_init 62 = .ok (.getfield 21, 3) := by decide +kernel
theorem dX7_init_65 : decode cX7_init 65 = .ok (.invokespecial 40, 3) := by decide +kernel
theorem dX7_init_68 : decode cX7_init 68 = .ok (.putfield 41, 3) := by decide +kernel
theorem dX7_init_71 : decode cX7_init 71 = .ok (.aload_n 0, 1) := by decide +kernel
theorem dX7_init_72 : decode cX7_init 72 = .ok (.new 45, 3) := by decide +kernel
theorem dX7_init_75 : decode cX7_init 75 = .ok (.dup, 1) := by decide +kernel
theorem dX7_init_76 : decode cX7_init 76 = .ok (.invokespecial 47, 3) := by decide +kernel
theorem dX7_init_79 : decode cX7_init 79 = .ok (.putfield 48, 3) := by decide +kernel
theorem dX7_init_82 : decode cX7_init 82 = .ok (.aload_n 0, 1) := by decide +kernel
theorem dX7_init_83 : decode cX7_init 83 = .ok (.new 45, 3) := by decide +kernel
theorem dX7_init_86 : decode cX7_init 86 = .ok (.dup, 1) := by decide +kernel
theorem dX7_init_87 : decode cX7_init 87 = .ok (.invokespecial 47, 3) := by decide +kernel
theorem dX7_init_90 : decode cX7_init 90 = .ok (.putfield 52, 3) := by decide +kernel
theorem dX7_init_93 : decode cX7_init 93 = .ok (.aload_n 0, 1) := by decide +kernel
theorem dX7_init_94 : decode cX7_init 94 = .ok (.new 55, 3) := by decide +kernel
theorem dX7_init_97 : decode cX7_init 97 = .ok (.dup, 1) := by decide +kernel
theorem dX7_init_98 : decode cX7_init 98 = .ok (.invokespecial 57, 3) := by decide +kernel
theorem dX7_init_101 : decode cX7_init 101 = .ok (.putfield 58, 3) := by decide +kernel
theorem dX7_init_104 : decode cX7_init 104 = .ok (.aload_n 0, 1) := by decide +kernel
theorem dX7_init_105 : decode cX7_init 105 = .ok (.new 55, 3) := by decide +kernel
theorem dX7_init_108 : decode cX7_init 108 = .ok (.dup, 1) := by decide +kernel
theorem dX7_init_109 : decode cX7_init 109 = .ok (.invokespecial 57, 3) := by decide +kernel
theorem dX7_init_112 : decode cX7_init 112 = .ok (.putfield 62, 3) := by decide +kernel
theorem dX7_init_115 : decode cX7_init 115 = .ok (.aload_n 0, 1) := by decide +kernel
theorem dX7_init_116 : decode cX7_init 116 = .ok (.bipush 64, 2) := by decide +kernel
theorem dX7_init_118 : decode cX7_init 118 = .ok (.newarray .boolean, 2) := by decide +kernel
theorem dX7_init_120 : decode cX7_init 120 = .ok (.putfield 65, 3) := by decide +kernel
theorem dX7_init_123 : decode cX7_init 123 = .ok (.aload_n 0, 1) := by decide +kernel
theorem dX7_init_124 : decode cX7_init 124 = .ok (.bipush 6, 2) := by decide +kernel
theorem dX7_init_126 : decode cX7_init 126 = .ok (.newarray .int, 2) := by decide +kernel
theorem dX7_init_128 : decode cX7_init 128 = .ok (.putfield 69, 3) := by decide +kernel
theorem dX7_init_131 : decode cX7_init 131 = .ok (.aload_n 0, 1) := by decide +kernel
theorem dX7_init_132 : decode cX7_init 132 = .ok (.bipush 6, 2) := by decide +kernel
theorem dX7_init_134 : decode cX7_init 134 = .ok (.newarray .int, 2) := by decide +kernel
theorem dX7_init_136 : decode cX7_init 136 = .ok (.putfield 73, 3) := by decide +kernel
theorem dX7_init_139 : decode cX7_init 139 = .ok (.aload_n 0, 1) := by decide +kernel
theorem dX7_init_140 : decode cX7_init 140 = .ok (.iconst 0, 1) := by decide +kernel
theorem dX7_init_141 : decode cX7_init 141 = .ok (.putfield 76, 3) := by decide +kernel
theorem dX7_init_144 : decode cX7_init 144 = .ok (.aload_n 0, 1) := by decide +kernel
theorem dX7_init_145 : decode cX7_init 145 = .ok (.iconst 0, 1) := by decide +kernel
theorem dX7_init_146 : decode cX7_init 146 = .ok (.putfield 80, 3) := by decide +kernel
theorem dX7_init_149 : decode cX7_init 149 = .ok (.aload_n 0, 1) := by decide +kernel
theorem dX7_init_150 : decode cX7_init 150 = .ok (.iconst 0, 1) := by decide +kernel
theorem dX7_init_151 : decode cX7_init 151 = .ok (.putfield 84, 3) := by decide +kernel
theorem dX7_init_154 : decode cX7_init 154 = .ok (.return_, 1) := by decide +kernel
set_option maxRecDepth 20000 in
theorem ggX7_ground_X4_clearTo : GoodIn wsX7_ground wsX4_clearTo := goodIn_r _ [10, 11, 12, 13, 14, 15, 16, 17, 18, 19, 20, 21, 22, 48, 49, 50, 51, 52, 53, 54, 55, 56, 57, 58] rfl (by decide +kernel)
set_option maxRecDepth 20000 in
theorem gX7_ground_X4_clearTo : GoodIn wsX7_ground (wsV RX7 87 RX4 yX4_clearTo wsX4_clearTo) := goodIn_app (goodIn_of _ (by decide +kernel)) ggX7_ground_X4_clearTo
set_option maxRecDepth 20000 in
theorem ggX7_ground_X5_drop : GoodIn wsX7_ground wsX5_drop := goodIn_r _ [27, 28, 59, 60, 61] rfl (by decide +kernel)
set_option maxRecDepth 20000 in
theorem gX7_ground_X5_drop : GoodIn wsX7_ground (wsV RX7 94 RX5 yX5_drop wsX5_drop) := goodIn_app (goodIn_of _ (by decide +kernel)) ggX7_ground_X5_drop
theorem dX7_ground_0 : decode cX7_ground 0 = .ok (.iload_n 1, 1) := by decide +kernel
theorem dX7_ground_1 : decode cX7_ground 1 = .ok (.iconst 2, 1) := by decide +kernel
theorem dX7_ground_2 : decode cX7_ground 2 = .ok (.if_icmp .lt 9, 3) := by decide +kernel
theorem dX7_ground_5 : decode cX7_ground 5 = .ok (.iload_n 1, 1) := by decide +kernel
theorem dX7_ground_6 : decode cX7_ground 6 = .ok (.bipush 12, 2) := by decide +kernel
theorem dX7_ground_8 : decode cX7_ground 8 = .ok (.if_icmp .le 5, 3) := by decide +kernel
theorem dX7_ground_11 : decode cX7_ground 11 = .ok (.iconst 0, 1) := by decide +kernel
theorem dX7_ground_12 : decode cX7_ground 12 = .ok (.ireturn, 1) := by decide +kernel
theorem dX7_ground_13 : decode cX7_ground 13 = .ok (.aload_n 0, 1) := by decide +kernel
theorem dX7_ground_14 : decode cX7_ground 14 = .ok (.getfield 21, 3) := by decide +kernel
theorem dX7_ground_17 : decode cX7_ground 17 = .ok (.iload_n 1, 1) := by decide +kernel
theorem dX7_ground_18 : decode cX7_ground 18 = .ok (.invokevirtual 87, 3) := by decide +kernel
theorem dX7_ground_21 : decode cX7_ground 21 = .ok (.aload_n 0, 1) := by decide +kernel
theorem dX7_ground_22 : decode cX7_ground 22 = .ok (.getfield 34, 3) := by decide +kernel
theorem dX7_ground_25 : decode cX7_ground 25 = .ok (.iconst 0, 1) := by decide +kernel
theorem dX7_ground_26 : decode cX7_ground 26 = .ok (.putfield 91, 3) := by decide +kernel
theorem dX7_ground_29 : decode cX7_ground 29 = .ok (.aload_n 0, 1) := by decide +kernel
theorem dX7_ground_30 : decode cX7_ground 30 = .ok (.getfield 48, 3) := by decide +kernel
theorem dX7_ground_33 : decode cX7_ground 33 = .ok (.invokevirtual 94, 3) := by decide +kernel
theorem dX7_ground_36 : decode cX7_ground 36 = .ok (.aload_n 0, 1) := by decide +kernel
theorem dX7_ground_37 : decode cX7_ground 37 = .ok (.iconst 0, 1) := by decide +kernel
theorem dX7_ground_38 : decode cX7_ground 38 = .ok (.putfield 80, 3) := by decide +kernel
theorem dX7_ground_41 : decode cX7_ground 41 = .ok (.iconst 1, 1) := by decide +kernel
theorem dX7_ground_42 : decode cX7_ground 42 = .ok (.ireturn, 1) := by decide +kernel
set_option maxRecDepth 20000 in
theorem ggX7_earth_X7_within : GoodIn wsX7_earth wsX7_within := goodIn_r _ [5] rfl (by decide +kernel)
set_option maxRecDepth 20000 in
theorem gX7_earth_X7_within : GoodIn wsX7_earth (va_wsS RX7 97 yX7_within wsX7_within) := goodIn_app (goodIn_of _ (by decide +kernel)) ggX7_earth_X7_within
set_option maxRecDepth 20000 in
theorem ggX7_earth_X2_add : GoodIn wsX7_earth wsX2_add := goodIn_r _ [10, 11, 12, 13, 14, 15, 31, 32, 33, 34, 35] rfl (by decide +kernel)
set_option maxRecDepth 20000 in
theorem gX7_earth_X2_add : GoodIn wsX7_earth (wsV RX7 101 RX2 yX2_add wsX2_add) := goodIn_app (goodIn_of _ (by decide +kernel)) ggX7_earth_X2_add
theorem dX7_earth_0 : decode cX7_earth 0 = .ok (.iload_n 1, 1) := by decide +kernel
theorem dX7_earth_1 : decode cX7_earth 1 = .ok (.iconst 1, 1) := by decide +kernel
theorem dX7_earth_2 : decode cX7_earth 2 = .ok (.bipush 30, 2) := by decide +kernel
theorem dX7_earth_4 : decode cX7_earth 4 = .ok (.invokestatic 97, 3) := by decide +kernel
theorem dX7_earth_7 : decode cX7_earth 7 = .ok (.ifCond .ne 5, 3) := by decide +kernel
theorem dX7_earth_10 : decode cX7_earth 10 = .ok (.iconst (-1), 1) := by decide +kernel
theorem dX7_earth_11 : decode cX7_earth 11 = .ok (.ireturn, 1) := by decide +kernel
theorem dX7_earth_12 : decode cX7_earth 12 = .ok (.iload 4, 2) := by decide +kernel
theorem dX7_earth_14 : decode cX7_earth 14 = .ok (.ifCond .ne 25, 3) := by decide +kernel
theorem dX7_earth_17 : decode cX7_earth 17 = .ok (.iload_n 2, 1) := by decide +kernel
theorem dX7_earth_18 : decode cX7_earth 18 = .ok (.iconst 0, 1) := by decide +kernel
theorem dX7_earth_19 : decode cX7_earth 19 = .ok (.bipush 99, 2) := by decide +kernel
theorem dX7_earth_21 : decode cX7_earth 21 = .ok (.invokestatic 97, 3) := by decide +kernel
theorem dX7_earth_24 : decode cX7_earth 24 = .ok (.ifCond .eq 13, 3) := by decide +kernel
theorem dX7_earth_27 : decode cX7_earth 27 = .ok (.iload_n 3, 1) := by decide +kernel
theorem dX7_earth_28 : decode cX7_earth 28 = .ok (.iconst 0, 1) := by decide +kernel
theorem dX7_earth_29 : decode cX7_earth 29 = .ok (.bipush 9, 2) := by decide +kernel
theorem dX7_earth_31 : decode cX7_earth 31 = .ok (.invokestatic 97, 3) := by decide +kernel
theorem dX7_earth_34 : decode cX7_earth 34 = .ok (.ifCond .ne 5, 3) := by decide +kernel
theorem dX7_earth_37 : decode cX7_earth 37 = .ok (.iconst (-1), 1) := by decide +kernel
theorem dX7_earth_38 : decode cX7_earth 38 = .ok (.ireturn, 1) := by decide +kernel
theorem dX7_earth_39 : decode cX7_earth 39 = .ok (.aload_n 0, 1) := by decide +kernel
theorem dX7_earth_40 : decode cX7_earth 40 = .ok (.getfield 12, 3) := by decide +kernel
theorem dX7_earth_43 : decode cX7_earth 43 = .ok (.iload_n 1, 1) := by decide +kernel
theorem dX7_earth_44 : decode cX7_earth 44 = .ok (.iload_n 2, 1) := by decide +kernel
theorem dX7_earth_45 : decode cX7_earth 45 = .ok (.iload_n 3, 1) := by decide +kernel
theorem dX7_earth_46 : decode cX7_earth 46 = .ok (.iload 4, 2) := by decide +kernel
theorem dX7_earth_48 : decode cX7_earth 48 = .ok (.invokevirtual 101, 3) := by decide +kernel
theorem dX7_earth_51 : decode cX7_earth 51 = .ok (.ireturn, 1) := by decide +kernel
set_option maxRecDepth 20000 in
theorem ggX7_lay_X4_has : GoodIn wsX7_lay wsX4_has := goodIn_r _ [10, 11, 12, 13, 14, 49, 50] rfl (by decide +kernel)
set_option maxRecDepth 20000 in
theorem gX7_lay_X4_has : GoodIn wsX7_lay (wsV RX7 105 RX4 yX4_has wsX4_has) := goodIn_app (goodIn_of _ (by decide +kernel)) ggX7_lay_X4_has
set_option maxRecDepth 20000 in
theorem ggX7_lay_X2_has : GoodIn wsX7_lay wsX2_has := goodIn_r _ [19, 20, 12, 13, 14, 60, 61, 62, 63, 64] rfl (by decide +kernel)
set_option maxRecDepth 20000 in
theorem gX7_lay_X2_has : GoodIn wsX7_lay (wsV RX7 109 RX2 yX2_has wsX2_has) := goodIn_app (goodIn_of _ (by decide +kernel)) ggX7_lay_X2_has
set_option maxRecDepth 20000 in
theorem ggX7_lay_X7_within : GoodIn wsX7_lay wsX7_within := goodIn_r _ [14] rfl (by decide +kernel)
set_option maxRecDepth 20000 in
theorem gX7_lay_X7_within : GoodIn wsX7_lay (va_wsS RX7 97 yX7_within wsX7_within) := goodIn_app (goodIn_of _ (by decide +kernel)) ggX7_lay_X7_within
set_option maxRecDepth 20000 in
theorem ggX7_lay_X1_pile : GoodIn wsX7_lay wsX1_pile := goodIn_r _ [26, 27, 28, 29, 30, 31, 32, 33, 51, 52, 53, 54, 55, 56, 57, 58, 59] rfl (by decide +kernel)
set_option maxRecDepth 20000 in
theorem gX7_lay_X1_pile : GoodIn wsX7_lay (wsV RX7 119 RX1 yX1_pile wsX1_pile) := goodIn_app (goodIn_of _ (by decide +kernel)) ggX7_lay_X1_pile
theorem dX7_lay_0 : decode cX7_lay 0 = .ok (.aload_n 0, 1) := by decide +kernel
theorem dX7_lay_1 : decode cX7_lay 1 = .ok (.getfield 21, 3) := by decide +kernel
theorem dX7_lay_4 : decode cX7_lay 4 = .ok (.iload_n 1, 1) := by decide +kernel
theorem dX7_lay_5 : decode cX7_lay 5 = .ok (.invokevirtual 105, 3) := by decide +kernel
theorem dX7_lay_8 : decode cX7_lay 8 = .ok (.ifCond .eq 14, 3) := by decide +kernel
theorem dX7_lay_11 : decode cX7_lay 11 = .ok (.aload_n 0, 1) := by decide +kernel
theorem dX7_lay_12 : decode cX7_lay 12 = .ok (.getfield 12, 3) := by decide +kernel
theorem dX7_lay_15 : decode cX7_lay 15 = .ok (.iload_n 2, 1) := by decide +kernel
theorem dX7_lay_16 : decode cX7_lay 16 = .ok (.invokevirtual 109, 3) := by decide +kernel
theorem dX7_lay_19 : decode cX7_lay 19 = .ok (.ifCond .ne 5, 3) := by decide +kernel
theorem dX7_lay_22 : decode cX7_lay 22 = .ok (.iconst (-1), 1) := by decide +kernel
theorem dX7_lay_23 : decode cX7_lay 23 = .ok (.ireturn, 1) := by decide +kernel
theorem dX7_lay_24 : decode cX7_lay 24 = .ok (.aload_n 0, 1) := by decide +kernel
theorem dX7_lay_25 : decode cX7_lay 25 = .ok (.getfield 21, 3) := by decide +kernel
theorem dX7_lay_28 : decode cX7_lay 28 = .ok (.getfield 110, 3) := by decide +kernel
theorem dX7_lay_31 : decode cX7_lay 31 = .ok (.iload_n 1, 1) := by decide +kernel
theorem dX7_lay_32 : decode cX7_lay 32 = .ok (.aaload, 1) := by decide +kernel
theorem dX7_lay_33 : decode cX7_lay 33 = .ok (.astore 4, 2) := by decide +kernel
theorem dX7_lay_35 : decode cX7_lay 35 = .ok (.iload_n 3, 1) := by decide +kernel
theorem dX7_lay_36 : decode cX7_lay 36 = .ok (.iconst 1, 1) := by decide +kernel
theorem dX7_lay_37 : decode cX7_lay 37 = .ok (.bipush 24, 2) := by decide +kernel
theorem dX7_lay_39 : decode cX7_lay 39 = .ok (.aload 4, 2) := by decide +kernel
theorem dX7_lay_41 : decode cX7_lay 41 = .ok (.getfield 114, 3) := by decide +kernel
theorem dX7_lay_44 : decode cX7_lay 44 = .ok (.isub, 1) := by decide +kernel
theorem dX7_lay_45 : decode cX7_lay 45 = .ok (.invokestatic 97, 3) := by decide +kernel
theorem dX7_lay_48 : decode cX7_lay 48 = .ok (.ifCond .ne 5, 3) := by decide +kernel
theorem dX7_lay_51 : decode cX7_lay 51 = .ok (.iconst (-1), 1) := by decide +kernel
theorem dX7_lay_52 : decode cX7_lay 52 = .ok (.ireturn, 1) := by decide +kernel
theorem dX7_lay_53 : decode cX7_lay 53 = .ok (.aload 4, 2) := by decide +kernel
theorem dX7_lay_55 : decode cX7_lay 55 = .ok (.iload_n 2, 1) := by decide +kernel
theorem dX7_lay_56 : decode cX7_lay 56 = .ok (.iload_n 3, 1) := by decide +kernel
theorem dX7_lay_57 : decode cX7_lay 57 = .ok (.invokevirtual 119, 3) := by decide +kernel
theorem dX7_lay_60 : decode cX7_lay 60 = .ok (.aload_n 0, 1) := by decide +kernel
theorem dX7_lay_61 : decode cX7_lay 61 = .ok (.iconst 0, 1) := by decide +kernel
theorem dX7_lay_62 : decode cX7_lay 62 = .ok (.putfield 80, 3) := by decide +kernel
theorem dX7_lay_65 : decode cX7_lay 65 = .ok (.aload 4, 2) := by decide +kernel
theorem dX7_lay_67 : decode cX7_lay 67 = .ok (.getfield 114, 3) := by decide +kernel
theorem dX7_lay_70 : decode cX7_lay 70 = .ok (.ireturn, 1) := by decide +kernel
set_option maxRecDepth 20000 in
theorem ggX7_set_X4_has : GoodIn wsX7_set wsX4_has := goodIn_r _ [8, 9, 10, 11, 12, 38, 39] rfl (by decide +kernel)
set_option maxRecDepth 20000 in
theorem gX7_set_X4_has : GoodIn wsX7_set (wsV RX7 105 RX4 yX4_has wsX4_has) := goodIn_app (goodIn_of _ (by decide +kernel)) ggX7_set_X4_has
set_option maxRecDepth 20000 in
theorem ggX7_set_X7_within : GoodIn wsX7_set wsX7_within := goodIn_r _ [12] rfl (by decide +kernel)
set_option maxRecDepth 20000 in
theorem gX7_set_X7_within : GoodIn wsX7_set (va_wsS RX7 97 yX7_within wsX7_within) := goodIn_app (goodIn_of _ (by decide +kernel)) ggX7_set_X7_within
set_option maxRecDepth 20000 in
theorem ggX7_set_X1_put : GoodIn wsX7_set wsX1_put := goodIn_r _ [18, 19, 20, 21, 22, 40, 41, 42, 43, 44, 45, 46, 47, 48] rfl (by decide +kernel)
set_option maxRecDepth 20000 in
theorem gX7_set_X1_put : GoodIn wsX7_set (wsV RX7 123 RX1 yX1_put wsX1_put) := goodIn_app (goodIn_of _ (by decide +kernel)) ggX7_set_X1_put
theorem dX7_set_0 : decode cX7_set 0 = .ok (.aload_n 0, 1) := by decide +kernel
theorem dX7_set_1 : decode cX7_set 1 = .ok (.getfield 21, 3) := by decide +kernel
theorem dX7_set_4 : decode cX7_set 4 = .ok (.iload_n 1, 1) := by decide +kernel
theorem dX7_set_5 : decode cX7_set 5 = .ok (.invokevirtual 105, 3) := by decide +kernel
theorem dX7_set_8 : decode cX7_set 8 = .ok (.ifCond .eq 12, 3) := by decide +kernel
theorem dX7_set_11 : decode cX7_set 11 = .ok (.iload_n 2, 1) := by decide +kernel
theorem dX7_set_12 : decode cX7_set 12 = .ok (.iconst 0, 1) := by decide +kernel
theorem dX7_set_13 : decode cX7_set 13 = .ok (.iconst 2, 1) := by decide +kernel
theorem dX7_set_14 : decode cX7_set 14 = .ok (.invokestatic 97, 3) := by decide +kernel
theorem dX7_set_17 : decode cX7_set 17 = .ok (.ifCond .ne 5, 3) := by decide +kernel
theorem dX7_set_20 : decode cX7_set 20 = .ok (.iconst 0, 1) := by decide +kernel
theorem dX7_set_21 : decode cX7_set 21 = .ok (.ireturn, 1) := by decide +kernel
theorem dX7_set_22 : decode cX7_set 22 = .ok (.iload_n 3, 1) := by decide +kernel
theorem dX7_set_23 : decode cX7_set 23 = .ok (.iconst 0, 1) := by decide +kernel
theorem dX7_set_24 : decode cX7_set 24 = .ok (.iload_n 2, 1) := by decide +kernel
theorem dX7_set_25 : decode cX7_set 25 = .ok (.ifCond .ne 8, 3) := by decide +kernel
theorem dX7_set_28 : decode cX7_set 28 = .ok (.bipush 24, 2) := by decide +kernel
theorem dX7_set_30 : decode cX7_set 30 = .ok (.goto 6, 3) := by decide +kernel
theorem dX7_set_33 : decode cX7_set 33 = .ok (.sipush 999, 3) := by decide +kernel
theorem dX7_set_36 : decode cX7_set 36 = .ok (.invokestatic 97, 3) := by decide +kernel
theorem dX7_set_39 : decode cX7_set 39 = .ok (.ifCond .ne 5, 3) := by decide +kernel
theorem dX7_set_42 : decode cX7_set 42 = .ok (.iconst 0, 1) := by decide +kernel
theorem dX7_set_43 : decode cX7_set 43 = .ok (.ireturn, 1) := by decide +kernel
theorem dX7_set_44 : decode cX7_set 44 = .ok (.aload_n 0, 1) := by decide +kernel
theorem dX7_set_45 : decode cX7_set 45 = .ok (.getfield 21, 3) := by decide +kernel
theorem dX7_set_48 : decode cX7_set 48 = .ok (.getfield 110, 3) := by decide +kernel
theorem dX7_set_51 : decode cX7_set 51 = .ok (.iload_n 1, 1) := by decide +kernel
theorem dX7_set_52 : decode cX7_set 52 = .ok (.aaload, 1) := by decide +kernel
theorem dX7_set_53 : decode cX7_set 53 = .ok (.iload_n 2, 1) := by decide +kernel
theorem dX7_set_54 : decode cX7_set 54 = .ok (.iload_n 3, 1) := by decide +kernel
theorem dX7_set_55 : decode cX7_set 55 = .ok (.invokevirtual 123, 3) := by decide +kernel
theorem dX7_set_58 : decode cX7_set 58 = .ok (.aload_n 0, 1) := by decide +kernel
theorem dX7_set_59 : decode cX7_set 59 = .ok (.iconst 0, 1) := by decide +kernel
theorem dX7_set_60 : decode cX7_set 60 = .ok (.putfield 80, 3) := by decide +kernel
theorem dX7_set_63 : decode cX7_set 63 = .ok (.iconst 1, 1) := by decide +kernel
theorem dX7_set_64 : decode cX7_set 64 = .ok (.ireturn, 1) := by decide +kernel
theorem dX7_look_0 : decode cX7_look 0 = .ok (.aload_n 0, 1) := by decide +kernel
theorem dX7_look_1 : decode cX7_look 1 = .ok (.getfield 21, 3) := by decide +kernel
theorem dX7_look_4 : decode cX7_look 4 = .ok (.iload_n 1, 1) := by decide +kernel
theorem dX7_look_5 : decode cX7_look 5 = .ok (.invokevirtual 105, 3) := by decide +kernel
theorem dX7_look_8 : decode cX7_look 8 = .ok (.ifCond .ne 13, 3) := by decide +kernel
theorem dX7_look_11 : decode cX7_look 11 = .ok (.new 126, 3) := by decide +kernel
theorem dX7_look_14 : decode cX7_look 14 = .ok (.dup, 1) := by decide +kernel
theorem dX7_look_15 : decode cX7_look 15 = .ok (.ldc 128, 2) := by decide +kernel
theorem dX7_look_17 : decode cX7_look 17 = .ok (.invokespecial 130, 3) := by decide +kernel
theorem dX7_look_20 : decode cX7_look 20 = .ok (.athrow, 1) := by decide +kernel
theorem dX7_look_21 : decode cX7_look 21 = .ok (.iload_n 2, 1) := by decide +kernel
theorem dX7_look_22 : decode cX7_look 22 = .ok (.iconst 0, 1) := by decide +kernel
theorem dX7_look_23 : decode cX7_look 23 = .ok (.iconst 3, 1) := by decide +kernel
theorem dX7_look_24 : decode cX7_look 24 = .ok (.invokestatic 97, 3) := by decide +kernel
theorem dX7_look_27 : decode cX7_look 27 = .ok (.ifCond .ne 13, 3) := by decide +kernel
theorem dX7_look_30 : decode cX7_look 30 = .ok (.new 133, 3) := by decide +kernel
theorem dX7_look_33 : decode cX7_look 33 = .ok (.dup, 1) := by decide +kernel
theorem dX7_look_34 : decode cX7_look 34 = .ok (.ldc 135, 2) := by decide +kernel
theorem dX7_look_36 : decode cX7_look 36 = .ok (.invokespecial 137, 3) := by decide +kernel
theorem dX7_look_39 : decode cX7_look 39 = .ok (.athrow, 1) := by decide +kernel
theorem dX7_look_40 : decode cX7_look 40 = .ok (.aload_n 0, 1) := by decide +kernel
theorem dX7_look_41 : decode cX7_look 41 = .ok (.getfield 21, 3) := by decide +kernel
theorem dX7_look_44 : decode cX7_look 44 = .ok (.getfield 110, 3) := by decide +kernel
theorem dX7_look_47 : decode cX7_look 47 = .ok (.iload_n 1, 1) := by decide +kernel
theorem dX7_look_48 : decode cX7_look 48 = .ok (.aaload, 1) := by decide +kernel
theorem dX7_look_49 : decode cX7_look 49 = .ok (.astore_n 3, 1) := by decide +kernel
theorem dX7_look_50 : decode cX7_look 50 = .ok (.iload_n 2, 1) := by decide +kernel
theorem dX7_look_51 : decode cX7_look 51 = .ok (.tableswitch 40 0 2 #[25, 30, 35], 25) := by decide +kernel
theorem dX7_look_76 : decode cX7_look 76 = .ok (.aload_n 3, 1) := by decide +kernel
theorem dX7_look_77 : decode cX7_look 77 = .ok (.getfield 138, 3) := by decide +kernel
theorem dX7_look_80 : decode cX7_look 80 = .ok (.ireturn, 1) := by decide +kernel
theorem dX7_look_81 : decode cX7_look 81 = .ok (.aload_n 3, 1) := by decide +kernel
theorem dX7_look_82 : decode cX7_look 82 = .ok (.getfield 141, 3) := by decide +kernel
theorem dX7_look_85 : decode cX7_look 85 = .ok (.ireturn, 1) := by decide +kernel
theorem dX7_look_86 : decode cX7_look 86 = .ok (.aload_n 3, 1) := by decide +kernel
theorem dX7_look_87 : decode cX7_look 87 = .ok (.getfield 144, 3) := by decide +kernel
theorem dX7_look_90 : decode cX7_look 90 = .ok (.ireturn, 1) := by decide +kernel
theorem dX7_look_91 : decode cX7_look 91 = .ok (.aload_n 3, 1) := by decide +kernel
theorem dX7_look_92 : decode cX7_look 92 = .ok (.getfield 114, 3) := by decide +kernel
theorem dX7_look_95 : decode cX7_look 95 = .ok (.ireturn, 1) := by decide +kernel
set_option maxRecDepth 20000 in
theorem ggX7_cell_X4_has : GoodIn wsX7_cell wsX4_has := goodIn_r _ [9, 10, 11, 12, 13, 30, 31] rfl (by decide +kernel)
set_option maxRecDepth 20000 in
theorem gX7_cell_X4_has : GoodIn wsX7_cell (wsV RX7 105 RX4 yX4_has wsX4_has) := goodIn_app (goodIn_of _ (by decide +kernel)) ggX7_cell_X4_has
set_option maxRecDepth 20000 in
theorem ggX7_cell_X7_within : GoodIn wsX7_cell wsX7_within := goodIn_r _ [13] rfl (by decide +kernel)
set_option maxRecDepth 20000 in
theorem gX7_cell_X7_within : GoodIn wsX7_cell (va_wsS RX7 97 yX7_within wsX7_within) := goodIn_app (goodIn_of _ (by decide +kernel)) ggX7_cell_X7_within
theorem dX7_cell_0 : decode cX7_cell 0 = .ok (.aload_n 0, 1) := by decide +kernel
theorem dX7_cell_1 : decode cX7_cell 1 = .ok (.getfield 21, 3) := by decide +kernel
theorem dX7_cell_4 : decode cX7_cell 4 = .ok (.iload_n 1, 1) := by decide +kernel
theorem dX7_cell_5 : decode cX7_cell 5 = .ok (.invokevirtual 105, 3) := by decide +kernel
theorem dX7_cell_8 : decode cX7_cell 8 = .ok (.ifCond .ne 5, 3) := by decide +kernel
theorem dX7_cell_11 : decode cX7_cell 11 = .ok (.iconst (-1), 1) := by decide +kernel
theorem dX7_cell_12 : decode cX7_cell 12 = .ok (.ireturn, 1) := by decide +kernel
theorem dX7_cell_13 : decode cX7_cell 13 = .ok (.aload_n 0, 1) := by decide +kernel
theorem dX7_cell_14 : decode cX7_cell 14 = .ok (.getfield 21, 3) := by decide +kernel
theorem dX7_cell_17 : decode cX7_cell 17 = .ok (.getfield 110, 3) := by decide +kernel
theorem dX7_cell_20 : decode cX7_cell 20 = .ok (.iload_n 1, 1) := by decide +kernel
theorem dX7_cell_21 : decode cX7_cell 21 = .ok (.aaload, 1) := by decide +kernel
theorem dX7_cell_22 : decode cX7_cell 22 = .ok (.astore_n 3, 1) := by decide +kernel
theorem dX7_cell_23 : decode cX7_cell 23 = .ok (.iload_n 2, 1) := by decide +kernel
theorem dX7_cell_24 : decode cX7_cell 24 = .ok (.iconst 0, 1) := by decide +kernel
theorem dX7_cell_25 : decode cX7_cell 25 = .ok (.aload_n 3, 1) := by decide +kernel
theorem dX7_cell_26 : decode cX7_cell 26 = .ok (.getfield 114, 3) := by decide +kernel
theorem dX7_cell_29 : decode cX7_cell 29 = .ok (.iconst 1, 1) := by decide +kernel
theorem dX7_cell_30 : decode cX7_cell 30 = .ok (.isub, 1) := by decide +kernel
theorem dX7_cell_31 : decode cX7_cell 31 = .ok (.invokestatic 97, 3) := by decide +kernel
theorem dX7_cell_34 : decode cX7_cell 34 = .ok (.ifCond .eq 12, 3) := by decide +kernel
theorem dX7_cell_37 : decode cX7_cell 37 = .ok (.aload_n 3, 1) := by decide +kernel
theorem dX7_cell_38 : decode cX7_cell 38 = .ok (.getfield 147, 3) := by decide +kernel
theorem dX7_cell_41 : decode cX7_cell 41 = .ok (.iload_n 2, 1) := by decide +kernel
theorem dX7_cell_42 : decode cX7_cell 42 = .ok (.iaload, 1) := by decide +kernel
theorem dX7_cell_43 : decode cX7_cell 43 = .ok (.goto 4, 3) := by decide +kernel
theorem dX7_cell_46 : decode cX7_cell 46 = .ok (.iconst (-1), 1) := by decide +kernel
theorem dX7_cell_47 : decode cX7_cell 47 = .ok (.ireturn, 1) := by decide +kernel
set_option maxRecDepth 20000 in
theorem ggX7_begin_X4_has : GoodIn wsX7_begin wsX4_has := goodIn_r _ [7, 8, 9, 10, 11, 40, 41] rfl (by decide +kernel)
set_option maxRecDepth 20000 in
theorem gX7_begin_X4_has : GoodIn wsX7_begin (wsV RX7 105 RX4 yX4_has wsX4_has) := goodIn_app (goodIn_of _ (by decide +kernel)) ggX7_begin_X4_has
set_option maxRecDepth 20000 in
theorem ggX7_begin_X7_within : GoodIn wsX7_begin wsX7_within := goodIn_r _ [11] rfl (by decide +kernel)
set_option maxRecDepth 20000 in
theorem gX7_begin_X7_within : GoodIn wsX7_begin (va_wsS RX7 97 yX7_within wsX7_within) := goodIn_app (goodIn_of _ (by decide +kernel)) ggX7_begin_X7_within
set_option maxRecDepth 20000 in
theorem ggX7_begin_X5_drop : GoodIn wsX7_begin wsX5_drop := goodIn_r _ [17, 18, 42, 43, 44] rfl (by decide +kernel)
set_option maxRecDepth 20000 in
theorem gX7_begin_X5_drop : GoodIn wsX7_begin (wsV RX7 94 RX5 yX5_drop wsX5_drop) := goodIn_app (goodIn_of _ (by decide +kernel)) ggX7_begin_X5_drop
set_option maxRecDepth 20000 in
theorem ggX7_begin_X5_startAt : GoodIn wsX7_begin wsX5_startAt := goodIn_r _ [22, 23, 24, 18, 42, 43, 44] rfl (by decide +kernel)
set_option maxRecDepth 20000 in
theorem gX7_begin_X5_startAt : GoodIn wsX7_begin (wsV RX7 150 RX5 yX5_startAt wsX5_startAt) := goodIn_app (goodIn_of _ (by decide +kernel)) ggX7_begin_X5_startAt
theorem dX7_begin_0 : decode cX7_begin 0 = .ok (.aload_n 0, 1) := by decide +kernel
theorem dX7_begin_1 : decode cX7_begin 1 = .ok (.getfield 21, 3) := by decide +kernel
theorem dX7_begin_4 : decode cX7_begin 4 = .ok (.iload_n 1, 1) := by decide +kernel
theorem dX7_begin_5 : decode cX7_begin 5 = .ok (.invokevirtual 105, 3) := by decide +kernel
theorem dX7_begin_8 : decode cX7_begin 8 = .ok (.ifCond .eq 13, 3) := by decide +kernel
theorem dX7_begin_11 : decode cX7_begin 11 = .ok (.iload_n 2, 1) := by decide +kernel
theorem dX7_begin_12 : decode cX7_begin 12 = .ok (.iconst 0, 1) := by decide +kernel
theorem dX7_begin_13 : decode cX7_begin 13 = .ok (.bipush 24, 2) := by decide +kernel
theorem dX7_begin_15 : decode cX7_begin 15 = .ok (.invokestatic 97, 3) := by decide +kernel
theorem dX7_begin_18 : decode cX7_begin 18 = .ok (.ifCond .ne 12, 3) := by decide +kernel
theorem dX7_begin_21 : decode cX7_begin 21 = .ok (.aload_n 0, 1) := by decide +kernel
theorem dX7_begin_22 : decode cX7_begin 22 = .ok (.getfield 48, 3) := by decide +kernel
theorem dX7_begin_25 : decode cX7_begin 25 = .ok (.invokevirtual 94, 3) := by decide +kernel
theorem dX7_begin_28 : decode cX7_begin 28 = .ok (.iconst 0, 1) := by decide +kernel
theorem dX7_begin_29 : decode cX7_begin 29 = .ok (.ireturn, 1) := by decide +kernel
theorem dX7_begin_30 : decode cX7_begin 30 = .ok (.aload_n 0, 1) := by decide +kernel
theorem dX7_begin_31 : decode cX7_begin 31 = .ok (.getfield 48, 3) := by decide +kernel
theorem dX7_begin_34 : decode cX7_begin 34 = .ok (.iload_n 1, 1) := by decide +kernel
theorem dX7_begin_35 : decode cX7_begin 35 = .ok (.iload_n 2, 1) := by decide +kernel
theorem dX7_begin_36 : decode cX7_begin 36 = .ok (.invokevirtual 150, 3) := by decide +kernel
theorem dX7_begin_39 : decode cX7_begin 39 = .ok (.iconst 1, 1) := by decide +kernel
theorem dX7_begin_40 : decode cX7_begin 40 = .ok (.ireturn, 1) := by decide +kernel
set_option maxRecDepth 20000 in
theorem ggX7_next_X7_within : GoodIn wsX7_next wsX7_within := goodIn_r _ [8] rfl (by decide +kernel)
set_option maxRecDepth 20000 in
theorem gX7_next_X7_within : GoodIn wsX7_next (va_wsS RX7 97 yX7_within wsX7_within) := goodIn_app (goodIn_of _ (by decide +kernel)) ggX7_next_X7_within
set_option maxRecDepth 20000 in
theorem ggX7_next_X5_end : GoodIn wsX7_next wsX5_end := goodIn_r _ [13, 14, 15, 36, 37, 38] rfl (by decide +kernel)
set_option maxRecDepth 20000 in
theorem gX7_next_X5_end : GoodIn wsX7_next (wsV RX7 154 RX5 yX5_end wsX5_end) := goodIn_app (goodIn_of _ (by decide +kernel)) ggX7_next_X5_end
set_option maxRecDepth 20000 in
theorem ggX7_next_X5_add : GoodIn wsX7_next wsX5_add := goodIn_r _ [19, 15, 20, 36, 37, 38] rfl (by decide +kernel)
set_option maxRecDepth 20000 in
theorem gX7_next_X5_add : GoodIn wsX7_next (wsV RX7 161 RX5 yX5_add wsX5_add) := goodIn_app (goodIn_of _ (by decide +kernel)) ggX7_next_X5_add
theorem dX7_next_0 : decode cX7_next 0 = .ok (.aload_n 0, 1) := by decide +kernel
theorem dX7_next_1 : decode cX7_next 1 = .ok (.getfield 48, 3) := by decide +kernel
theorem dX7_next_4 : decode cX7_next 4 = .ok (.getfield 153, 3) := by decide +kernel
theorem dX7_next_7 : decode cX7_next 7 = .ok (.ifCond .eq 30, 3) := by decide +kernel
theorem dX7_next_10 : decode cX7_next 10 = .ok (.iload_n 1, 1) := by decide +kernel
theorem dX7_next_11 : decode cX7_next 11 = .ok (.iconst 0, 1) := by decide +kernel
theorem dX7_next_12 : decode cX7_next 12 = .ok (.bipush 24, 2) := by decide +kernel
theorem dX7_next_14 : decode cX7_next 14 = .ok (.invokestatic 97, 3) := by decide +kernel
theorem dX7_next_17 : decode cX7_next 17 = .ok (.ifCond .eq 20, 3) := by decide +kernel
theorem dX7_next_20 : decode cX7_next 20 = .ok (.aload_n 0, 1) := by decide +kernel
theorem dX7_next_21 : decode cX7_next 21 = .ok (.getfield 48, 3) := by decide +kernel
theorem dX7_next_24 : decode cX7_next 24 = .ok (.invokevirtual 154, 3) := by decide +kernel
theorem dX7_next_27 : decode cX7_next 27 = .ok (.aload_n 0, 1) := by decide +kernel
theorem dX7_next_28 : decode cX7_next 28 = .ok (.getfield 21, 3) := by decide +kernel
theorem dX7_next_31 : decode cX7_next 31 = .ok (.getfield 158, 3) := by decide +kernel
theorem dX7_next_34 : decode cX7_next 34 = .ok (.if_icmp .lt 5, 3) := by decide +kernel
theorem dX7_next_37 : decode cX7_next 37 = .ok (.iconst (-1), 1) := by decide +kernel
theorem dX7_next_38 : decode cX7_next 38 = .ok (.ireturn, 1) := by decide +kernel
theorem dX7_next_39 : decode cX7_next 39 = .ok (.aload_n 0, 1) := by decide +kernel
theorem dX7_next_40 : decode cX7_next 40 = .ok (.getfield 48, 3) := by decide +kernel
theorem dX7_next_43 : decode cX7_next 43 = .ok (.iload_n 1, 1) := by decide +kernel
theorem dX7_next_44 : decode cX7_next 44 = .ok (.invokevirtual 161, 3) := by decide +kernel
theorem dX7_next_47 : decode cX7_next 47 = .ok (.aload_n 0, 1) := by decide +kernel
theorem dX7_next_48 : decode cX7_next 48 = .ok (.getfield 48, 3) := by decide +kernel
theorem dX7_next_51 : decode cX7_next 51 = .ok (.getfield 153, 3) := by decide +kernel
theorem dX7_next_54 : decode cX7_next 54 = .ok (.ireturn, 1) := by decide +kernel
set_option maxRecDepth 20000 in
theorem ggX7_line_X4_bears : GoodIn wsX7_line wsX4_bears := goodIn_r _ [7, 8, 9, 10, 11, 12, 13, 14, 15, 16, 17, 18, 19, 20, 21, 22, 23, 6, 24, 25, 26, 27, 28, 29, 30, 31, 32, 33, 34, 35, 36, 37, 38, 39, 40, 41, 42, 43, 44, 45, 46, 47, 48, 49, 50, 51, 52, 53, 54, 55, 56, 57, 58, 59, 60, 76, 77, 78, 79, 80, 81, 82, 83, 84, 85, 86, 87, 88, 89, 90, 91, 92, 93, 94] rfl (by decide +kernel)
set_option maxRecDepth 20000 in
theorem gX7_line_X4_bears : GoodIn wsX7_line (wsV RX7 163 RX4 yX4_bears wsX4_bears) := goodIn_app (goodIn_of _ (by decide +kernel)) ggX7_line_X4_bears
theorem dX7_line_0 : decode cX7_line 0 = .ok (.aload_n 0, 1) := by decide +kernel
theorem dX7_line_1 : decode cX7_line 1 = .ok (.getfield 21, 3) := by decide +kernel
theorem dX7_line_4 : decode cX7_line 4 = .ok (.aload_n 0, 1) := by decide +kernel
theorem dX7_line_5 : decode cX7_line 5 = .ok (.getfield 48, 3) := by decide +kernel
theorem dX7_line_8 : decode cX7_line 8 = .ok (.invokevirtual 163, 3) := by decide +kernel
theorem dX7_line_11 : decode cX7_line 11 = .ok (.ifCond .eq 7, 3) := by decide +kernel
theorem dX7_line_14 : decode cX7_line 14 = .ok (.iconst 1, 1) := by decide +kernel
theorem dX7_line_15 : decode cX7_line 15 = .ok (.goto 4, 3) := by decide +kernel
theorem dX7_line_18 : decode cX7_line 18 = .ok (.iconst 0, 1) := by decide +kernel
theorem dX7_line_19 : decode cX7_line 19 = .ok (.ireturn, 1) := by decide +kernel
theorem dX7_share_0 : decode cX7_share 0 = .ok (.iload_n 1, 1) := by decide +kernel
theorem dX7_share_1 : decode cX7_share 1 = .ok (.iconst 0, 1) := by decide +kernel
theorem dX7_share_2 : decode cX7_share 2 = .ok (.iconst 3, 1) := by decide +kernel
theorem dX7_share_3 : decode cX7_share 3 = .ok (.invokestatic 97, 3) := by decide +kernel
theorem dX7_share_6 : decode cX7_share 6 = .ok (.ifCond .eq 17, 3) := by decide +kernel
theorem dX7_share_9 : decode cX7_share 9 = .ok (.aload_n 0, 1) := by decide +kernel
theorem dX7_share_10 : decode cX7_share 10 = .ok (.getfield 21, 3) := by decide +kernel
theorem dX7_share_13 : decode cX7_share 13 = .ok (.aload_n 0, 1) := by decide +kernel
theorem dX7_share_14 : decode cX7_share 14 = .ok (.getfield 48, 3) := by decide +kernel
theorem dX7_share_17 : decode cX7_share 17 = .ok (.invokevirtual 163, 3) := by decide +kernel
theorem dX7_share_20 : decode cX7_share 20 = .ok (.ifCond .ne 13, 3) := by decide +kernel
theorem dX7_share_23 : decode cX7_share 23 = .ok (.new 133, 3) := by decide +kernel
theorem dX7_share_26 : decode cX7_share 26 = .ok (.dup, 1) := by decide +kernel
theorem dX7_share_27 : decode cX7_share 27 = .ok (.ldc 167, 2) := by decide +kernel
theorem dX7_share_29 : decode cX7_share 29 = .ok (.invokespecial 137, 3) := by decide +kernel
theorem dX7_share_32 : decode cX7_share 32 = .ok (.athrow, 1) := by decide +kernel
theorem dX7_share_33 : decode cX7_share 33 = .ok (.aload_n 0, 1) := by decide +kernel
theorem dX7_share_34 : decode cX7_share 34 = .ok (.getfield 21, 3) := by decide +kernel
theorem dX7_share_37 : decode cX7_share 37 = .ok (.aload_n 0, 1) := by decide +kernel
theorem dX7_share_38 : decode cX7_share 38 = .ok (.getfield 48, 3) := by decide +kernel
theorem dX7_share_41 : decode cX7_share 41 = .ok (.invokevirtual 169, 3) := by decide +kernel
theorem dX7_share_44 : decode cX7_share 44 = .ok (.lstore_n 2, 1) := by decide +kernel
theorem dX7_share_45 : decode cX7_share 45 = .ok (.aload_n 0, 1) := by decide +kernel
theorem dX7_share_46 : decode cX7_share 46 = .ok (.getfield 21, 3) := by decide +kernel
theorem dX7_share_49 : decode cX7_share 49 = .ok (.aload_n 0, 1) := by decide +kernel
theorem dX7_share_50 : decode cX7_share 50 = .ok (.getfield 48, 3) := by decide +kernel
theorem dX7_share_53 : decode cX7_share 53 = .ok (.invokevirtual 173, 3) := by decide +kernel
theorem dX7_share_56 : decode cX7_share 56 = .ok (.lstore 4, 2) := by decide +kernel
theorem dX7_share_58 : decode cX7_share 58 = .ok (.iload_n 1, 1) := by decide +kernel
theorem dX7_share_59 : decode cX7_share 59 = .ok (.ifCond .ne 5, 3) := by decide +kernel
theorem dX7_share_62 : decode cX7_share 62 = .ok (.lload_n 2, 1) := by decide +kernel
theorem dX7_share_63 : decode cX7_share 63 = .ok (.lreturn, 1) := by decide +kernel
theorem dX7_share_64 : decode cX7_share 64 = .ok (.iload_n 1, 1) := by decide +kernel
theorem dX7_share_65 : decode cX7_share 65 = .ok (.iconst 1, 1) := by decide +kernel
theorem dX7_share_66 : decode cX7_share 66 = .ok (.if_icmp .ne 6, 3) := by decide +kernel
theorem dX7_share_69 : decode cX7_share 69 = .ok (.lload 4, 2) := by decide +kernel
theorem dX7_share_71 : decode cX7_share 71 = .ok (.lreturn, 1) := by decide +kernel
theorem dX7_share_72 : decode cX7_share 72 = .ok (.lload 4, 2) := by decide +kernel
theorem dX7_share_74 : decode cX7_share 74 = .ok (.lconst 0, 1) := by decide +kernel
theorem dX7_share_75 : decode cX7_share 75 = .ok (.lcmp, 1) := by decide +kernel
theorem dX7_share_76 : decode cX7_share 76 = .ok (.ifCond .gt 13, 3) := by decide +kernel
theorem dX7_share_79 : decode cX7_share 79 = .ok (.new 133, 3) := by decide +kernel
theorem dX7_share_82 : decode cX7_share 82 = .ok (.dup, 1) := by decide +kernel
theorem dX7_share_83 : decode cX7_share 83 = .ok (.ldc 176, 2) := by decide +kernel
theorem dX7_share_85 : decode cX7_share 85 = .ok (.invokespecial 137, 3) := by decide +kernel
theorem dX7_share_88 : decode cX7_share 88 = .ok (.athrow, 1) := by decide +kernel
theorem dX7_share_89 : decode cX7_share 89 = .ok (.aload_n 0, 1) := by decide +kernel
theorem dX7_share_90 : decode cX7_share 90 = .ok (.getfield 62, 3) := by decide +kernel
theorem dX7_share_93 : decode cX7_share 93 = .ok (.lload_n 2, 1) := by decide +kernel
theorem dX7_share_94 : decode cX7_share 94 = .ok (.lload 4, 2) := by decide +kernel
theorem dX7_share_96 : decode cX7_share 96 = .ok (.invokevirtual 178, 3) := by decide +kernel
theorem dX7_share_99 : decode cX7_share 99 = .ok (.iload_n 1, 1) := by decide +kernel
theorem dX7_share_100 : decode cX7_share 100 = .ok (.iconst 2, 1) := by decide +kernel
theorem dX7_share_101 : decode cX7_share 101 = .ok (.if_icmp .ne 13, 3) := by decide +kernel
theorem dX7_share_104 : decode cX7_share 104 = .ok (.aload_n 0, 1) := by decide +kernel
theorem dX7_share_105 : decode cX7_share 105 = .ok (.getfield 62, 3) := by decide +kernel
theorem dX7_share_108 : decode cX7_share 108 = .ok (.getfield 182, 3) := by decide +kernel
theorem dX7_share_111 : decode cX7_share 111 = .ok (.goto 10, 3) := by decide +kernel
theorem dX7_share_114 : decode cX7_share 114 = .ok (.aload_n 0, 1) := by decide +kernel
theorem dX7_share_115 : decode cX7_share 115 = .ok (.getfield 62, 3) := by decide +kernel
theorem dX7_share_118 : decode cX7_share 118 = .ok (.getfield 186, 3) := by decide +kernel
theorem dX7_share_121 : decode cX7_share 121 = .ok (.lreturn, 1) := by decide +kernel
set_option maxRecDepth 20000 in
theorem ggX7_worst_X7_within : GoodIn wsX7_worst wsX7_within := goodIn_r _ [11] rfl (by decide +kernel)
set_option maxRecDepth 20000 in
theorem gX7_worst_X7_within : GoodIn wsX7_worst (va_wsS RX7 97 yX7_within wsX7_within) := goodIn_app (goodIn_of _ (by decide +kernel)) ggX7_worst_X7_within
set_option maxRecDepth 20000 in
theorem ggX7_worst_X7_knowWorst : GoodIn wsX7_worst wsX7_knowWorst := goodIn_r _ [15, 16, 17, 18, 5, 2, 19, 20, 21, 22, 23, 24, 25, 26, 27, 28, 29, 30, 31, 32, 33, 34, 35, 36, 37, 38, 39, 40, 41, 42, 43, 44, 45, 46, 47, 48, 49, 50, 51, 52, 53, 54, 55, 56, 57, 58, 59, 60, 61, 62, 63, 64, 65, 66, 67, 68, 69, 70, 71, 72, 73, 74, 75, 76, 77, 78, 79, 80, 81, 82, 83, 84, 85, 86, 87, 88, 89, 90, 91, 92, 93, 94, 95, 96, 97, 98, 99, 100, 101, 102, 103, 104, 105, 106, 107, 108, 109, 110, 111, 112, 113, 114, 115, 116, 117, 118, 119, 120, 121, 122, 123, 124, 125, 126, 127, 128, 129, 130, 131, 132, 133, 134, 135, 136, 137, 138, 139, 140, 141, 142, 143, 144, 145, 146, 147, 148, 149, 150, 151, 152, 153, 154, 155, 156, 157, 158, 159, 160, 161, 162, 163, 164, 165, 166, 167, 168, 169, 170, 171, 172, 173, 174, 175, 176, 177, 178, 179, 180, 185, 186, 187, 188, 189, 190, 191, 192, 193, 194, 195, 196, 197, 198, 199, 205, 206, 207, 208, 209, 210, 211, 212, 213, 214, 215, 216, 217, 218, 219, 220, 221, 222, 223, 224, 225, 226, 227, 200, 201, 202, 203, 204] rfl (by decide +kernel)
set_option maxRecDepth 20000 in
theorem gX7_worst_X7_knowWorst : GoodIn wsX7_worst (wsV RX7 189 RX7 yX7_knowWorst wsX7_knowWorst) := goodIn_app (goodIn_of _ (by decide +kernel)) ggX7_worst_X7_knowWorst
set_option maxRecDepth 20000 in
theorem ggX7_worst_X5_end : GoodIn wsX7_worst wsX5_end := goodIn_r _ [184, 123, 125, 202, 203, 204] rfl (by decide +kernel)
set_option maxRecDepth 20000 in
theorem gX7_worst_X5_end : GoodIn wsX7_worst (wsV RX7 154 RX5 yX5_end wsX5_end) := goodIn_app (goodIn_of _ (by decide +kernel)) ggX7_worst_X5_end
theorem dX7_worst_0 : decode cX7_worst 0 = .ok (.iload_n 1, 1) := by decide +kernel
theorem dX7_worst_1 : decode cX7_worst 1 = .ok (.iconst 0, 1) := by decide +kernel
theorem dX7_worst_2 : decode cX7_worst 2 = .ok (.iconst 4, 1) := by decide +kernel
theorem dX7_worst_3 : decode cX7_worst 3 = .ok (.invokestatic 97, 3) := by decide +kernel
theorem dX7_worst_6 : decode cX7_worst 6 = .ok (.ifCond .eq 10, 3) := by decide +kernel
theorem dX7_worst_9 : decode cX7_worst 9 = .ok (.aload_n 0, 1) := by decide +kernel
theorem dX7_worst_10 : decode cX7_worst 10 = .ok (.invokevirtual 189, 3) := by decide +kernel
theorem dX7_worst_13 : decode cX7_worst 13 = .ok (.ifCond .ne 7, 3) := by decide +kernel
theorem dX7_worst_16 : decode cX7_worst 16 = .ok (.ldc2_w 193, 3) := by decide +kernel
theorem dX7_worst_19 : decode cX7_worst 19 = .ok (.lreturn, 1) := by decide +kernel
theorem dX7_worst_20 : decode cX7_worst 20 = .ok (.iload_n 1, 1) := by decide +kernel
theorem dX7_worst_21 : decode cX7_worst 21 = .ok (.tableswitch 65 0 3 #[31, 39, 47, 56], 31) := by decide +kernel
theorem dX7_worst_52 : decode cX7_worst 52 = .ok (.aload_n 0, 1) := by decide +kernel
theorem dX7_worst_53 : decode cX7_worst 53 = .ok (.getfield 58, 3) := by decide +kernel
theorem dX7_worst_56 : decode cX7_worst 56 = .ok (.getfield 182, 3) := by decide +kernel
theorem dX7_worst_59 : decode cX7_worst 59 = .ok (.lreturn, 1) := by decide +kernel
theorem dX7_worst_60 : decode cX7_worst 60 = .ok (.aload_n 0, 1) := by decide +kernel
theorem dX7_worst_61 : decode cX7_worst 61 = .ok (.getfield 58, 3) := by decide +kernel
theorem dX7_worst_64 : decode cX7_worst 64 = .ok (.getfield 186, 3) := by decide +kernel
theorem dX7_worst_67 : decode cX7_worst 67 = .ok (.lreturn, 1) := by decide +kernel
theorem dX7_worst_68 : decode cX7_worst 68 = .ok (.aload_n 0, 1) := by decide +kernel
theorem dX7_worst_69 : decode cX7_worst 69 = .ok (.getfield 52, 3) := by decide +kernel
theorem dX7_worst_72 : decode cX7_worst 72 = .ok (.getfield 195, 3) := by decide +kernel
theorem dX7_worst_75 : decode cX7_worst 75 = .ok (.i2l, 1) := by decide +kernel
theorem dX7_worst_76 : decode cX7_worst 76 = .ok (.lreturn, 1) := by decide +kernel
theorem dX7_worst_77 : decode cX7_worst 77 = .ok (.aload_n 0, 1) := by decide +kernel
theorem dX7_worst_78 : decode cX7_worst 78 = .ok (.getfield 52, 3) := by decide +kernel
theorem dX7_worst_81 : decode cX7_worst 81 = .ok (.invokevirtual 154, 3) := by decide +kernel
theorem dX7_worst_84 : decode cX7_worst 84 = .ok (.i2l, 1) := by decide +kernel
theorem dX7_worst_85 : decode cX7_worst 85 = .ok (.lreturn, 1) := by decide +kernel
