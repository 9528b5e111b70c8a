theorem dX6_init_0 : decode cX6_init 0 = .ok (.aload_n 0, 1) := by decide +kernel
theorem dX6_init_1 : decode cX6_init 1 = .ok (.invokespecial 3, 3) := by decide +kernel
theorem dX6_init_4 : decode cX6_init 4 = .ok (.aload_n 0, 1) := by decide +kernel
theorem dX6_init_5 : decode cX6_init 5 = .ok (.sipush 325, 3) := by decide +kernel
theorem dX6_init_8 : decode cX6_init 8 = .ok (.newarray .long, 2) := by decide +kernel
theorem dX6_init_10 : decode cX6_init 10 = .ok (.putfield 9, 3) := by decide +kernel
theorem dX6_init_13 : decode cX6_init 13 = .ok (.aload_n 0, 1) := by decide +kernel
theorem dX6_init_14 : decode cX6_init 14 = .ok (.bipush 12, 2) := by decide +kernel
theorem dX6_init_16 : decode cX6_init 16 = .ok (.newarray .long, 2) := by decide +kernel
theorem dX6_init_18 : decode cX6_init 18 = .ok (.putfield 15, 3) := by decide +kernel
theorem dX6_init_21 : decode cX6_init 21 = .ok (.aload_n 0, 1) := by decide +kernel
theorem dX6_init_22 : decode cX6_init 22 = .ok (.lconst 0, 1) := by decide +kernel
theorem dX6_init_23 : decode cX6_init 23 = .ok (.putfield 18, 3) := by decide +kernel
theorem dX6_init_26 : decode cX6_init 26 = .ok (.aload_n 0, 1) := by decide +kernel
theorem dX6_init_27 : decode cX6_init 27 = .ok (.lconst 1, 1) := by decide +kernel
theorem dX6_init_28 : decode cX6_init 28 = .ok (.putfield 22, 3) := by decide +kernel
theorem dX6_init_31 : decode cX6_init 31 = .ok (.aload_n 0, 1) := by decide +kernel
theorem dX6_init_32 : decode cX6_init 32 = .ok (.iconst 2, 1) := by decide +kernel
theorem dX6_init_33 : decode cX6_init 33 = .ok (.putfield 25, 3) := by decide +kernel
theorem dX6_init_36 : decode cX6_init 36 = .ok (.aload_n 0, 1) := by decide +kernel
theorem dX6_init_37 : decode cX6_init 37 = .ok (.iconst 1, 1) := by decide +kernel
theorem dX6_init_38 : decode cX6_init 38 = .ok (.putfield 29, 3) := by decide +kernel
theorem dX6_init_41 : decode cX6_init 41 = .ok (.aload_n 0, 1) := by decide +kernel
theorem dX6_init_42 : decode cX6_init 42 = .ok (.aload_n 1, 1) := by decide +kernel
theorem dX6_init_43 : decode cX6_init 43 = .ok (.putfield 33, 3) := by decide +kernel
theorem dX6_init_46 : decode cX6_init 46 = .ok (.return_, 1) := by decide +kernel
theorem dX6_study_0 : decode cX6_study 0 = .ok (.aload_n 0, 1) := by decide +kernel
theorem dX6_study_1 : decode cX6_study 1 = .ok (.aload_n 1, 1) := by decide +kernel
theorem dX6_study_2 : decode cX6_study 2 = .ok (.putfield 33, 3) := by decide +kernel
theorem dX6_study_5 : decode cX6_study 5 = .ok (.return_, 1) := by decide +kernel
set_option maxRecDepth 20000 in
theorem ggX6_stands_X6_aim : GoodIn wsX6_stands wsX6_aim := goodIn_r _ [8, 9, 10, 57, 58, 59, 60, 61, 62, 63] rfl (by decide +kernel)
set_option maxRecDepth 20000 in
theorem gX6_stands_X6_aim : GoodIn wsX6_stands (wsV RX6 37 RX6 yX6_aim wsX6_aim) := goodIn_app (goodIn_of _ (by decide +kernel)) ggX6_stands_X6_aim
set_option maxRecDepth 20000 in
theorem ggX6_stands_X6_weigh : GoodIn wsX6_stands wsX6_weigh := goodIn_r _ [14, 15, 16, 3, 17, 1, 18, 19, 20, 21, 22, 7, 23, 24, 25, 26, 27, 28, 29, 30, 31, 32, 33, 34, 35, 36, 10, 9, 37, 38, 39, 40, 41, 42, 43, 44, 45, 46, 47, 48, 49, 50, 51, 52, 57, 58, 59, 60, 61, 62, 63, 64, 65, 66, 67, 68, 69, 70, 71, 72, 73, 74] rfl (by decide +kernel)
set_option maxRecDepth 20000 in
theorem gX6_stands_X6_weigh : GoodIn wsX6_stands (wsV RX6 46 RX6 yX6_weigh wsX6_weigh) := goodIn_app (goodIn_of _ (by decide +kernel)) ggX6_stands_X6_weigh
set_option maxRecDepth 20000 in
theorem ggX6_stands_X6_leastStart : GoodIn wsX6_stands wsX6_leastStart := goodIn_r _ [56, 1, 2, 3, 57, 58, 59, 60, 61, 62, 63, 64, 65] rfl (by decide +kernel)
set_option maxRecDepth 20000 in
theorem gX6_stands_X6_leastStart : GoodIn wsX6_stands (wsV RX6 50 RX6 yX6_leastStart wsX6_leastStart) := goodIn_app (goodIn_of _ (by decide +kernel)) ggX6_stands_X6_leastStart
theorem dX6_stands_0 : decode cX6_stands 0 = .ok (.aload_n 0, 1) := by decide +kernel
theorem dX6_stands_1 : decode cX6_stands 1 = .ok (.lload_n 1, 1) := by decide +kernel
theorem dX6_stands_2 : decode cX6_stands 2 = .ok (.lload_n 3, 1) := by decide +kernel
theorem dX6_stands_3 : decode cX6_stands 3 = .ok (.invokevirtual 37, 3) := by decide +kernel
theorem dX6_stands_6 : decode cX6_stands 6 = .ok (.aload_n 0, 1) := by decide +kernel
theorem dX6_stands_7 : decode cX6_stands 7 = .ok (.iconst 0, 1) := by decide +kernel
theorem dX6_stands_8 : decode cX6_stands 8 = .ok (.aload_n 0, 1) := by decide +kernel
theorem dX6_stands_9 : decode cX6_stands 9 = .ok (.getfield 33, 3) := by decide +kernel
theorem dX6_stands_12 : decode cX6_stands 12 = .ok (.getfield 41, 3) := by decide +kernel
theorem dX6_stands_15 : decode cX6_stands 15 = .ok (.iconst 1, 1) := by decide +kernel
theorem dX6_stands_16 : decode cX6_stands 16 = .ok (.invokevirtual 46, 3) := by decide +kernel
theorem dX6_stands_19 : decode cX6_stands 19 = .ok (.aload_n 0, 1) := by decide +kernel
theorem dX6_stands_20 : decode cX6_stands 20 = .ok (.getfield 15, 3) := by decide +kernel
theorem dX6_stands_23 : decode cX6_stands 23 = .ok (.aload_n 0, 1) := by decide +kernel
theorem dX6_stands_24 : decode cX6_stands 24 = .ok (.invokevirtual 50, 3) := by decide +kernel
theorem dX6_stands_27 : decode cX6_stands 27 = .ok (.laload, 1) := by decide +kernel
theorem dX6_stands_28 : decode cX6_stands 28 = .ok (.lconst 0, 1) := by decide +kernel
theorem dX6_stands_29 : decode cX6_stands 29 = .ok (.lcmp, 1) := by decide +kernel
theorem dX6_stands_30 : decode cX6_stands 30 = .ok (.ifCond .lt 7, 3) := by decide +kernel
theorem dX6_stands_33 : decode cX6_stands 33 = .ok (.iconst 1, 1) := by decide +kernel
theorem dX6_stands_34 : decode cX6_stands 34 = .ok (.goto 4, 3) := by decide +kernel
theorem dX6_stands_37 : decode cX6_stands 37 = .ok (.iconst 0, 1) := by decide +kernel
theorem dX6_stands_38 : decode cX6_stands 38 = .ok (.ireturn, 1) := by decide +kernel
set_option maxRecDepth 20000 in
theorem ggX6_findWorst_X6_aim : GoodIn wsX6_findWorst wsX6_aim := goodIn_r _ [10, 11, 12, 143, 144, 145, 146, 147, 148, 149] rfl (by decide +kernel)
set_option maxRecDepth 20000 in
theorem gX6_findWorst_X6_aim : GoodIn wsX6_findWorst (wsV RX6 37 RX6 yX6_aim wsX6_aim) := goodIn_app (goodIn_of _ (by decide +kernel)) ggX6_findWorst_X6_aim
set_option maxRecDepth 20000 in
theorem ggX6_findWorst_X6_weigh : GoodIn wsX6_findWorst wsX6_weigh := goodIn_r _ [16, 17, 18, 3, 19, 1, 20, 21, 22, 23, 24, 9, 25, 26, 27, 28, 29, 30, 31, 32, 33, 34, 35, 36, 37, 38, 12, 11, 39, 40, 41, 42, 43, 44, 45, 46, 47, 48, 49, 50, 51, 52, 53, 54, 143, 144, 145, 146, 147, 148, 149, 150, 151, 154, 155, 156, 157, 158, 159, 160, 161, 162] rfl (by decide +kernel)
set_option maxRecDepth 20000 in
theorem gX6_findWorst_X6_weigh : GoodIn wsX6_findWorst (wsV RX6 46 RX6 yX6_weigh wsX6_weigh) := goodIn_app (goodIn_of _ (by decide +kernel)) ggX6_findWorst_X6_weigh
set_option maxRecDepth 20000 in
theorem ggX6_findWorst_X6_leastStart : GoodIn wsX6_findWorst wsX6_leastStart := goodIn_r _ [58, 1, 2, 3, 143, 144, 145, 146, 147, 148, 149, 150, 151] rfl (by decide +kernel)
set_option maxRecDepth 20000 in
theorem gX6_findWorst_X6_leastStart : GoodIn wsX6_findWorst (wsV RX6 50 RX6 yX6_leastStart wsX6_leastStart) := goodIn_app (goodIn_of _ (by decide +kernel)) ggX6_findWorst_X6_leastStart
set_option maxRecDepth 20000 in
theorem ggX6_findWorst_X6_follow : GoodIn wsX6_findWorst wsX6_follow := goodIn_r _ [62, 1, 20, 21, 17, 18, 63, 64, 65, 66, 67, 68, 69, 70, 71, 72, 73, 9, 74, 75, 76, 33, 77, 78, 79, 80, 19, 26, 81, 82, 83, 84, 85, 86, 87, 12, 11, 39, 40, 41, 42, 43, 44, 45, 46, 47, 48, 49, 50, 88, 89, 90, 91, 143, 144, 145, 146, 147, 148, 149, 150, 151, 154, 155, 156, 157, 158, 159, 160, 161, 162, 163, 164, 165] rfl (by decide +kernel)
set_option maxRecDepth 20000 in
theorem gX6_findWorst_X6_follow : GoodIn wsX6_findWorst (wsV RX6 54 RX6 yX6_follow wsX6_follow) := goodIn_app (goodIn_of _ (by decide +kernel)) ggX6_findWorst_X6_follow
set_option maxRecDepth 20000 in
theorem ggX6_findWorst_X4_holdsAlong : GoodIn wsX6_findWorst wsX4_holdsAlong := goodIn_r _ [96, 97, 98, 99, 100, 95, 101, 102, 103, 104, 105, 76, 33, 77, 106, 86, 87, 107, 108, 109, 42, 110, 111, 50, 44, 112, 113, 114, 115, 45, 116, 117, 118, 119, 120, 121, 122, 79, 80, 123, 124, 125, 126, 40, 41, 43, 163, 164, 165, 150, 151, 154, 155, 156, 157, 158, 159, 160, 161, 162, 166, 167, 168, 169, 170] rfl (by decide +kernel)
set_option maxRecDepth 20000 in
theorem gX6_findWorst_X4_holdsAlong : GoodIn wsX6_findWorst (wsV RX6 58 RX4 yX4_holdsAlong wsX4_holdsAlong) := goodIn_app (goodIn_of _ (by decide +kernel)) ggX6_findWorst_X4_holdsAlong
set_option maxRecDepth 20000 in
theorem ggX6_findWorst_X4_drivesAlong : GoodIn wsX6_findWorst wsX4_drivesAlong := goodIn_r _ [130, 97, 102, 103, 104, 131, 79, 33, 80, 107, 108, 109, 42, 110, 111, 50, 44, 112, 113, 114, 115, 45, 116, 117, 118, 119, 120, 121, 122, 123, 124, 125, 132, 47, 48, 49, 163, 164, 165, 150, 151, 154, 155, 156, 157, 158, 159, 160, 161, 162, 166, 167, 168, 169, 170] rfl (by decide +kernel)
set_option maxRecDepth 20000 in
theorem gX6_findWorst_X4_drivesAlong : GoodIn wsX6_findWorst (wsV RX6 62 RX4 yX4_drivesAlong wsX4_drivesAlong) := goodIn_app (goodIn_of _ (by decide +kernel)) ggX6_findWorst_X4_drivesAlong
set_option maxRecDepth 20000 in
theorem ggX6_findWorst_X3_become : GoodIn wsX6_findWorst wsX3_become := goodIn_r _ [137, 138, 139, 140, 141, 136, 142, 152, 153] rfl (by decide +kernel)
set_option maxRecDepth 20000 in
theorem gX6_findWorst_X3_become : GoodIn wsX6_findWorst (wsV RX6 65 RX3 yX3_become wsX3_become) := goodIn_app (goodIn_of _ (by decide +kernel)) ggX6_findWorst_X3_become
theorem dX6_findWorst_0 : decode cX6_findWorst 0 = .ok (.aload_n 0, 1) := by decide +kernel
theorem dX6_findWorst_1 : decode cX6_findWorst 1 = .ok (.lconst 1, 1) := by decide +kernel
theorem dX6_findWorst_2 : decode cX6_findWorst 2 = .ok (.lconst 0, 1) := by decide +kernel
theorem dX6_findWorst_3 : decode cX6_findWorst 3 = .ok (.invokevirtual 37, 3) := by decide +kernel
theorem dX6_findWorst_6 : decode cX6_findWorst 6 = .ok (.iconst 0, 1) := by decide +kernel
theorem dX6_findWorst_7 : decode cX6_findWorst 7 = .ok (.istore_n 3, 1) := by decide +kernel
theorem dX6_findWorst_8 : decode cX6_findWorst 8 = .ok (.iload_n 3, 1) := by decide +kernel
theorem dX6_findWorst_9 : decode cX6_findWorst 9 = .ok (.sipush 1000, 3) := by decide +kernel
theorem dX6_findWorst_12 : decode cX6_findWorst 12 = .ok (.if_icmp .ge 96, 3) := by decide +kernel
theorem dX6_findWorst_15 : decode cX6_findWorst 15 = .ok (.aload_n 0, 1) := by decide +kernel
theorem dX6_findWorst_16 : decode cX6_findWorst 16 = .ok (.iconst 0, 1) := by decide +kernel
theorem dX6_findWorst_17 : decode cX6_findWorst 17 = .ok (.aload_n 0, 1) := by decide +kernel
theorem dX6_findWorst_18 : decode cX6_findWorst 18 = .ok (.getfield 33, 3) := by decide +kernel
theorem dX6_findWorst_21 : decode cX6_findWorst 21 = .ok (.getfield 41, 3) := by decide +kernel
theorem dX6_findWorst_24 : decode cX6_findWorst 24 = .ok (.iconst 1, 1) := by decide +kernel
theorem dX6_findWorst_25 : decode cX6_findWorst 25 = .ok (.invokevirtual 46, 3) := by decide +kernel
theorem dX6_findWorst_28 : decode cX6_findWorst 28 = .ok (.aload_n 0, 1) := by decide +kernel
theorem dX6_findWorst_29 : decode cX6_findWorst 29 = .ok (.invokevirtual 50, 3) := by decide +kernel
theorem dX6_findWorst_32 : decode cX6_findWorst 32 = .ok (.istore 4, 2) := by decide +kernel
theorem dX6_findWorst_34 : decode cX6_findWorst 34 = .ok (.aload_n 0, 1) := by decide +kernel
theorem dX6_findWorst_35 : decode cX6_findWorst 35 = .ok (.getfield 15, 3) := by decide +kernel
theorem dX6_findWorst_38 : decode cX6_findWorst 38 = .ok (.iload 4, 2) := by decide +kernel
theorem dX6_findWorst_40 : decode cX6_findWorst 40 = .ok (.laload, 1) := by decide +kernel
theorem dX6_findWorst_41 : decode cX6_findWorst 41 = .ok (.lconst 0, 1) := by decide +kernel
theorem dX6_findWorst_42 : decode cX6_findWorst 42 = .ok (.lcmp, 1) := by decide +kernel
theorem dX6_findWorst_43 : decode cX6_findWorst 43 = .ok (.ifCond .lt 13, 3) := by decide +kernel
theorem dX6_findWorst_46 : decode cX6_findWorst 46 = .ok (.iload_n 3, 1) := by decide +kernel
theorem dX6_findWorst_47 : decode cX6_findWorst 47 = .ok (.ifCond .le 7, 3) := by decide +kernel
theorem dX6_findWorst_50 : decode cX6_findWorst 50 = .ok (.iconst 1, 1) := by decide +kernel
theorem dX6_findWorst_51 : decode cX6_findWorst 51 = .ok (.goto 4, 3) := by decide +kernel
theorem dX6_findWorst_54 : decode cX6_findWorst 54 = .ok (.iconst 0, 1) := by decide +kernel
theorem dX6_findWorst_55 : decode cX6_findWorst 55 = .ok (.ireturn, 1) := by decide +kernel
theorem dX6_findWorst_56 : decode cX6_findWorst 56 = .ok (.aload_n 0, 1) := by decide +kernel
theorem dX6_findWorst_57 : decode cX6_findWorst 57 = .ok (.iload 4, 2) := by decide +kernel
theorem dX6_findWorst_59 : decode cX6_findWorst 59 = .ok (.aload_n 0, 1) := by decide +kernel
theorem dX6_findWorst_60 : decode cX6_findWorst 60 = .ok (.getfield 15, 3) := by decide +kernel
theorem dX6_findWorst_63 : decode cX6_findWorst 63 = .ok (.iload 4, 2) := by decide +kernel
theorem dX6_findWorst_65 : decode cX6_findWorst 65 = .ok (.laload, 1) := by decide +kernel
theorem dX6_findWorst_66 : decode cX6_findWorst 66 = .ok (.aload_n 1, 1) := by decide +kernel
theorem dX6_findWorst_67 : decode cX6_findWorst 67 = .ok (.invokevirtual 54, 3) := by decide +kernel
theorem dX6_findWorst_70 : decode cX6_findWorst 70 = .ok (.aload_n 2, 1) := by decide +kernel
theorem dX6_findWorst_71 : decode cX6_findWorst 71 = .ok (.aload_n 0, 1) := by decide +kernel
theorem dX6_findWorst_72 : decode cX6_findWorst 72 = .ok (.getfield 33, 3) := by decide +kernel
theorem dX6_findWorst_75 : decode cX6_findWorst 75 = .ok (.aload_n 1, 1) := by decide +kernel
theorem dX6_findWorst_76 : decode cX6_findWorst 76 = .ok (.invokevirtual 58, 3) := by decide +kernel
theorem dX6_findWorst_79 : decode cX6_findWorst 79 = .ok (.aload_n 0, 1) := by decide +kernel
theorem dX6_findWorst_80 : decode cX6_findWorst 80 = .ok (.getfield 33, 3) := by decide +kernel
theorem dX6_findWorst_83 : decode cX6_findWorst 83 = .ok (.aload_n 1, 1) := by decide +kernel
theorem dX6_findWorst_84 : decode cX6_findWorst 84 = .ok (.invokevirtual 62, 3) := by decide +kernel
theorem dX6_findWorst_87 : decode cX6_findWorst 87 = .ok (.invokevirtual 65, 3) := by decide +kernel
theorem dX6_findWorst_90 : decode cX6_findWorst 90 = .ok (.aload_n 0, 1) := by decide +kernel
theorem dX6_findWorst_91 : decode cX6_findWorst 91 = .ok (.aload_n 2, 1) := by decide +kernel
theorem dX6_findWorst_92 : decode cX6_findWorst 92 = .ok (.getfield 70, 3) := by decide +kernel
theorem dX6_findWorst_95 : decode cX6_findWorst 95 = .ok (.aload_n 2, 1) := by decide +kernel
theorem dX6_findWorst_96 : decode cX6_findWorst 96 = .ok (.getfield 73, 3) := by decide +kernel
theorem dX6_findWorst_99 : decode cX6_findWorst 99 = .ok (.invokevirtual 37, 3) := by decide +kernel
theorem dX6_findWorst_102 : decode cX6_findWorst 102 = .ok (.iinc 3 1, 3) := by decide +kernel
theorem dX6_findWorst_105 : decode cX6_findWorst 105 = .ok (.goto (-97), 3) := by decide +kernel
theorem dX6_findWorst_108 : decode cX6_findWorst 108 = .ok (.iconst 0, 1) := by decide +kernel
theorem dX6_findWorst_109 : decode cX6_findWorst 109 = .ok (.ireturn, 1) := by decide +kernel
set_option maxRecDepth 20000 in
theorem ggX6_findFirst_X6_aim : GoodIn wsX6_findFirst wsX6_aim := goodIn_r _ [12, 13, 14, 92, 93, 94, 95, 96, 97, 98] rfl (by decide +kernel)
set_option maxRecDepth 20000 in
theorem gX6_findFirst_X6_aim : GoodIn wsX6_findFirst (wsV RX6 37 RX6 yX6_aim wsX6_aim) := goodIn_app (goodIn_of _ (by decide +kernel)) ggX6_findFirst_X6_aim
set_option maxRecDepth 20000 in
theorem ggX6_findFirst_X6_weigh : GoodIn wsX6_findFirst wsX6_weigh := goodIn_r _ [18, 19, 20, 6, 21, 4, 22, 23, 24, 25, 26, 11, 27, 28, 29, 30, 31, 32, 33, 34, 35, 36, 37, 38, 39, 40, 14, 13, 41, 42, 43, 44, 45, 46, 47, 48, 49, 50, 51, 52, 53, 54, 55, 56, 92, 93, 94, 95, 96, 97, 98, 99, 100, 101, 102, 103, 104, 105, 106, 107, 108, 109] rfl (by decide +kernel)
set_option maxRecDepth 20000 in
theorem gX6_findFirst_X6_weigh : GoodIn wsX6_findFirst (wsV RX6 46 RX6 yX6_weigh wsX6_weigh) := goodIn_app (goodIn_of _ (by decide +kernel)) ggX6_findFirst_X6_weigh
set_option maxRecDepth 20000 in
theorem ggX6_findFirst_X6_follow : GoodIn wsX6_findFirst wsX6_follow := goodIn_r _ [60, 4, 22, 23, 19, 20, 61, 62, 63, 64, 65, 66, 67, 68, 69, 70, 71, 11, 72, 73, 74, 35, 75, 76, 77, 78, 21, 28, 79, 80, 81, 82, 83, 84, 85, 14, 13, 41, 42, 43, 44, 45, 46, 47, 48, 49, 50, 51, 52, 86, 87, 88, 89, 92, 93, 94, 95, 96, 97, 98, 99, 100, 101, 102, 103, 104, 105, 106, 107, 108, 109, 110, 111, 112] rfl (by decide +kernel)
set_option maxRecDepth 20000 in
theorem gX6_findFirst_X6_follow : GoodIn wsX6_findFirst (wsV RX6 54 RX6 yX6_follow wsX6_follow) := goodIn_app (goodIn_of _ (by decide +kernel)) ggX6_findFirst_X6_follow
theorem dX6_findFirst_0 : decode cX6_findFirst 0 = .ok (.aload_n 0, 1) := by decide +kernel
theorem dX6_findFirst_1 : decode cX6_findFirst 1 = .ok (.aload_n 2, 1) := by decide +kernel
theorem dX6_findFirst_2 : decode cX6_findFirst 2 = .ok (.getfield 70, 3) := by decide +kernel
theorem dX6_findFirst_5 : decode cX6_findFirst 5 = .ok (.ldc2_w 76, 3) := by decide +kernel
theorem dX6_findFirst_8 : decode cX6_findFirst 8 = .ok (.lmul, 1) := by decide +kernel
theorem dX6_findFirst_9 : decode cX6_findFirst 9 = .ok (.lconst 1, 1) := by decide +kernel
theorem dX6_findFirst_10 : decode cX6_findFirst 10 = .ok (.ladd, 1) := by decide +kernel
theorem dX6_findFirst_11 : decode cX6_findFirst 11 = .ok (.aload_n 2, 1) := by decide +kernel
theorem dX6_findFirst_12 : decode cX6_findFirst 12 = .ok (.getfield 73, 3) := by decide +kernel
theorem dX6_findFirst_15 : decode cX6_findFirst 15 = .ok (.ldc2_w 76, 3) := by decide +kernel
theorem dX6_findFirst_18 : decode cX6_findFirst 18 = .ok (.lmul, 1) := by decide +kernel
theorem dX6_findFirst_19 : decode cX6_findFirst 19 = .ok (.invokevirtual 37, 3) := by decide +kernel
theorem dX6_findFirst_22 : decode cX6_findFirst 22 = .ok (.aload_n 0, 1) := by decide +kernel
theorem dX6_findFirst_23 : decode cX6_findFirst 23 = .ok (.iconst 0, 1) := by decide +kernel
theorem dX6_findFirst_24 : decode cX6_findFirst 24 = .ok (.aload_n 0, 1) := by decide +kernel
theorem dX6_findFirst_25 : decode cX6_findFirst 25 = .ok (.getfield 33, 3) := by decide +kernel
theorem dX6_findFirst_28 : decode cX6_findFirst 28 = .ok (.getfield 41, 3) := by decide +kernel
theorem dX6_findFirst_31 : decode cX6_findFirst 31 = .ok (.iconst 1, 1) := by decide +kernel
theorem dX6_findFirst_32 : decode cX6_findFirst 32 = .ok (.invokevirtual 46, 3) := by decide +kernel
theorem dX6_findFirst_35 : decode cX6_findFirst 35 = .ok (.iconst 0, 1) := by decide +kernel
theorem dX6_findFirst_36 : decode cX6_findFirst 36 = .ok (.istore_n 3, 1) := by decide +kernel
theorem dX6_findFirst_37 : decode cX6_findFirst 37 = .ok (.iload_n 3, 1) := by decide +kernel
theorem dX6_findFirst_38 : decode cX6_findFirst 38 = .ok (.aload_n 0, 1) := by decide +kernel
theorem dX6_findFirst_39 : decode cX6_findFirst 39 = .ok (.getfield 33, 3) := by decide +kernel
theorem dX6_findFirst_42 : decode cX6_findFirst 42 = .ok (.getfield 41, 3) := by decide +kernel
theorem dX6_findFirst_45 : decode cX6_findFirst 45 = .ok (.iconst 1, 1) := by decide +kernel
theorem dX6_findFirst_46 : decode cX6_findFirst 46 = .ok (.isub, 1) := by decide +kernel
theorem dX6_findFirst_47 : decode cX6_findFirst 47 = .ok (.if_icmp .ge 20, 3) := by decide +kernel
theorem dX6_findFirst_50 : decode cX6_findFirst 50 = .ok (.aload_n 0, 1) := by decide +kernel
theorem dX6_findFirst_51 : decode cX6_findFirst 51 = .ok (.getfield 15, 3) := by decide +kernel
theorem dX6_findFirst_54 : decode cX6_findFirst 54 = .ok (.iload_n 3, 1) := by decide +kernel
theorem dX6_findFirst_55 : decode cX6_findFirst 55 = .ok (.laload, 1) := by decide +kernel
theorem dX6_findFirst_56 : decode cX6_findFirst 56 = .ok (.lconst 0, 1) := by decide +kernel
theorem dX6_findFirst_57 : decode cX6_findFirst 57 = .ok (.lcmp, 1) := by decide +kernel
theorem dX6_findFirst_58 : decode cX6_findFirst 58 = .ok (.ifCond .lt 9, 3) := by decide +kernel
theorem dX6_findFirst_61 : decode cX6_findFirst 61 = .ok (.iinc 3 1, 3) := by decide +kernel
theorem dX6_findFirst_64 : decode cX6_findFirst 64 = .ok (.goto (-27), 3) := by decide +kernel
theorem dX6_findFirst_67 : decode cX6_findFirst 67 = .ok (.iload_n 3, 1) := by decide +kernel
theorem dX6_findFirst_68 : decode cX6_findFirst 68 = .ok (.iconst 1, 1) := by decide +kernel
theorem dX6_findFirst_69 : decode cX6_findFirst 69 = .ok (.iadd, 1) := by decide +kernel
theorem dX6_findFirst_70 : decode cX6_findFirst 70 = .ok (.istore 4, 2) := by decide +kernel
theorem dX6_findFirst_72 : decode cX6_findFirst 72 = .ok (.iload 4, 2) := by decide +kernel
theorem dX6_findFirst_74 : decode cX6_findFirst 74 = .ok (.aload_n 0, 1) := by decide +kernel
theorem dX6_findFirst_75 : decode cX6_findFirst 75 = .ok (.getfield 33, 3) := by decide +kernel
theorem dX6_findFirst_78 : decode cX6_findFirst 78 = .ok (.getfield 41, 3) := by decide +kernel
theorem dX6_findFirst_81 : decode cX6_findFirst 81 = .ok (.if_icmp .gt 38, 3) := by decide +kernel
theorem dX6_findFirst_84 : decode cX6_findFirst 84 = .ok (.aload_n 0, 1) := by decide +kernel
theorem dX6_findFirst_85 : decode cX6_findFirst 85 = .ok (.iload_n 3, 1) := by decide +kernel
theorem dX6_findFirst_86 : decode cX6_findFirst 86 = .ok (.iload 4, 2) := by decide +kernel
theorem dX6_findFirst_88 : decode cX6_findFirst 88 = .ok (.iconst 0, 1) := by decide +kernel
theorem dX6_findFirst_89 : decode cX6_findFirst 89 = .ok (.invokevirtual 46, 3) := by decide +kernel
theorem dX6_findFirst_92 : decode cX6_findFirst 92 = .ok (.aload_n 0, 1) := by decide +kernel
theorem dX6_findFirst_93 : decode cX6_findFirst 93 = .ok (.getfield 15, 3) := by decide +kernel
theorem dX6_findFirst_96 : decode cX6_findFirst 96 = .ok (.iload_n 3, 1) := by decide +kernel
theorem dX6_findFirst_97 : decode cX6_findFirst 97 = .ok (.laload, 1) := by decide +kernel
theorem dX6_findFirst_98 : decode cX6_findFirst 98 = .ok (.lconst 0, 1) := by decide +kernel
theorem dX6_findFirst_99 : decode cX6_findFirst 99 = .ok (.lcmp, 1) := by decide +kernel
theorem dX6_findFirst_100 : decode cX6_findFirst 100 = .ok (.ifCond .ge 13, 3) := by decide +kernel
theorem dX6_findFirst_103 : decode cX6_findFirst 103 = .ok (.aload_n 0, 1) := by decide +kernel
theorem dX6_findFirst_104 : decode cX6_findFirst 104 = .ok (.iload_n 3, 1) := by decide +kernel
theorem dX6_findFirst_105 : decode cX6_findFirst 105 = .ok (.ldc2_w 78, 3) := by decide +kernel
theorem dX6_findFirst_108 : decode cX6_findFirst 108 = .ok (.aload_n 1, 1) := by decide +kernel
theorem dX6_findFirst_109 : decode cX6_findFirst 109 = .ok (.invokevirtual 54, 3) := by decide +kernel
theorem dX6_findFirst_112 : decode cX6_findFirst 112 = .ok (.return_, 1) := by decide +kernel
theorem dX6_findFirst_113 : decode cX6_findFirst 113 = .ok (.iinc 4 1, 3) := by decide +kernel
theorem dX6_findFirst_116 : decode cX6_findFirst 116 = .ok (.goto (-44), 3) := by decide +kernel
theorem dX6_findFirst_119 : decode cX6_findFirst 119 = .ok (.return_, 1) := by decide +kernel
theorem dX6_aim_0 : decode cX6_aim 0 = .ok (.aload_n 0, 1) := by decide +kernel
theorem dX6_aim_1 : decode cX6_aim 1 = .ok (.lload_n 1, 1) := by decide +kernel
theorem dX6_aim_2 : decode cX6_aim 2 = .ok (.putfield 18, 3) := by decide +kernel
theorem dX6_aim_5 : decode cX6_aim 5 = .ok (.aload_n 0, 1) := by decide +kernel
theorem dX6_aim_6 : decode cX6_aim 6 = .ok (.lload_n 3, 1) := by decide +kernel
theorem dX6_aim_7 : decode cX6_aim 7 = .ok (.putfield 22, 3) := by decide +kernel
theorem dX6_aim_10 : decode cX6_aim 10 = .ok (.return_, 1) := by decide +kernel
set_option maxRecDepth 20000 in
theorem ggX6_weigh_X6_clearRests : GoodIn wsX6_weigh wsX6_clearRests := goodIn_r _ [12, 4, 13, 44, 45, 46, 47, 48, 49, 50] rfl (by decide +kernel)
set_option maxRecDepth 20000 in
theorem gX6_weigh_X6_clearRests : GoodIn wsX6_weigh (wsV RX6 80 RX6 yX6_clearRests wsX6_clearRests) := goodIn_app (goodIn_of _ (by decide +kernel)) ggX6_weigh_X6_clearRests
set_option maxRecDepth 20000 in
theorem ggX6_weigh_X6_allowEnd : GoodIn wsX6_weigh wsX6_allowEnd := goodIn_r _ [17, 1, 2, 5, 6, 7, 4, 18, 19, 20, 21, 44, 45, 46, 47, 48, 49, 50, 51, 52, 53, 54, 55, 56, 57, 58, 59, 60, 61] rfl (by decide +kernel)
set_option maxRecDepth 20000 in
theorem gX6_weigh_X6_allowEnd : GoodIn wsX6_weigh (wsV RX6 84 RX6 yX6_allowEnd wsX6_allowEnd) := goodIn_app (goodIn_of _ (by decide +kernel)) ggX6_weigh_X6_allowEnd
set_option maxRecDepth 20000 in
theorem ggX6_weigh_X6_weighColumn : GoodIn wsX6_weigh wsX6_weighColumn := goodIn_r _ [25, 5, 6, 7, 26, 27, 28, 29, 30, 31, 32, 33, 34, 35, 36, 37, 38, 39, 40, 41, 42, 11, 43, 4, 13, 44, 45, 46, 47, 48, 49, 50, 51, 52, 53, 54, 55, 56, 57, 58, 59, 60, 61] rfl (by decide +kernel)
set_option maxRecDepth 20000 in
theorem gX6_weigh_X6_weighColumn : GoodIn wsX6_weigh (wsV RX6 87 RX6 yX6_weighColumn wsX6_weighColumn) := goodIn_app (goodIn_of _ (by decide +kernel)) ggX6_weigh_X6_weighColumn
theorem dX6_weigh_0 : decode cX6_weigh 0 = .ok (.aload_n 0, 1) := by decide +kernel
theorem dX6_weigh_1 : decode cX6_weigh 1 = .ok (.iload_n 2, 1) := by decide +kernel
theorem dX6_weigh_2 : decode cX6_weigh 2 = .ok (.putfield 25, 3) := by decide +kernel
theorem dX6_weigh_5 : decode cX6_weigh 5 = .ok (.aload_n 0, 1) := by decide +kernel
theorem dX6_weigh_6 : decode cX6_weigh 6 = .ok (.iload_n 3, 1) := by decide +kernel
theorem dX6_weigh_7 : decode cX6_weigh 7 = .ok (.putfield 29, 3) := by decide +kernel
theorem dX6_weigh_10 : decode cX6_weigh 10 = .ok (.aload_n 0, 1) := by decide +kernel
theorem dX6_weigh_11 : decode cX6_weigh 11 = .ok (.iload_n 2, 1) := by decide +kernel
theorem dX6_weigh_12 : decode cX6_weigh 12 = .ok (.invokevirtual 80, 3) := by decide +kernel
theorem dX6_weigh_15 : decode cX6_weigh 15 = .ok (.aload_n 0, 1) := by decide +kernel
theorem dX6_weigh_16 : decode cX6_weigh 16 = .ok (.iload_n 2, 1) := by decide +kernel
theorem dX6_weigh_17 : decode cX6_weigh 17 = .ok (.invokevirtual 84, 3) := by decide +kernel
theorem dX6_weigh_20 : decode cX6_weigh 20 = .ok (.iload_n 2, 1) := by decide +kernel
theorem dX6_weigh_21 : decode cX6_weigh 21 = .ok (.iconst 1, 1) := by decide +kernel
theorem dX6_weigh_22 : decode cX6_weigh 22 = .ok (.isub, 1) := by decide +kernel
theorem dX6_weigh_23 : decode cX6_weigh 23 = .ok (.istore 4, 2) := by decide +kernel
theorem dX6_weigh_25 : decode cX6_weigh 25 = .ok (.iload 4, 2) := by decide +kernel
theorem dX6_weigh_27 : decode cX6_weigh 27 = .ok (.iload_n 1, 1) := by decide +kernel
theorem dX6_weigh_28 : decode cX6_weigh 28 = .ok (.if_icmp .lt 58, 3) := by decide +kernel
theorem dX6_weigh_31 : decode cX6_weigh 31 = .ok (.aload_n 0, 1) := by decide +kernel
theorem dX6_weigh_32 : decode cX6_weigh 32 = .ok (.iload 4, 2) := by decide +kernel
theorem dX6_weigh_34 : decode cX6_weigh 34 = .ok (.invokevirtual 80, 3) := by decide +kernel
theorem dX6_weigh_37 : decode cX6_weigh 37 = .ok (.aload_n 0, 1) := by decide +kernel
theorem dX6_weigh_38 : decode cX6_weigh 38 = .ok (.iload 4, 2) := by decide +kernel
theorem dX6_weigh_40 : decode cX6_weigh 40 = .ok (.invokevirtual 87, 3) := by decide +kernel
theorem dX6_weigh_43 : decode cX6_weigh 43 = .ok (.aload_n 0, 1) := by decide +kernel
theorem dX6_weigh_44 : decode cX6_weigh 44 = .ok (.getfield 15, 3) := by decide +kernel
theorem dX6_weigh_47 : decode cX6_weigh 47 = .ok (.iload 4, 2) := by decide +kernel
theorem dX6_weigh_49 : decode cX6_weigh 49 = .ok (.aload_n 0, 1) := by decide +kernel
theorem dX6_weigh_50 : decode cX6_weigh 50 = .ok (.getfield 9, 3) := by decide +kernel
theorem dX6_weigh_53 : decode cX6_weigh 53 = .ok (.iload 4, 2) := by decide +kernel
theorem dX6_weigh_55 : decode cX6_weigh 55 = .ok (.bipush 25, 2) := by decide +kernel
theorem dX6_weigh_57 : decode cX6_weigh 57 = .ok (.imul, 1) := by decide +kernel
theorem dX6_weigh_58 : decode cX6_weigh 58 = .ok (.aload_n 0, 1) := by decide +kernel
theorem dX6_weigh_59 : decode cX6_weigh 59 = .ok (.getfield 33, 3) := by decide +kernel
theorem dX6_weigh_62 : decode cX6_weigh 62 = .ok (.getfield 90, 3) := by decide +kernel
theorem dX6_weigh_65 : decode cX6_weigh 65 = .ok (.iload 4, 2) := by decide +kernel
theorem dX6_weigh_67 : decode cX6_weigh 67 = .ok (.aaload, 1) := by decide +kernel
theorem dX6_weigh_68 : decode cX6_weigh 68 = .ok (.getfield 94, 3) := by decide +kernel
theorem dX6_weigh_71 : decode cX6_weigh 71 = .ok (.iadd, 1) := by decide +kernel
theorem dX6_weigh_72 : decode cX6_weigh 72 = .ok (.laload, 1) := by decide +kernel
theorem dX6_weigh_73 : decode cX6_weigh 73 = .ok (.lastore, 1) := by decide +kernel
theorem dX6_weigh_74 : decode cX6_weigh 74 = .ok (.aload_n 0, 1) := by decide +kernel
theorem dX6_weigh_75 : decode cX6_weigh 75 = .ok (.iload 4, 2) := by decide +kernel
theorem dX6_weigh_77 : decode cX6_weigh 77 = .ok (.invokevirtual 84, 3) := by decide +kernel
theorem dX6_weigh_80 : decode cX6_weigh 80 = .ok (.iinc 4 (-1), 3) := by decide +kernel
theorem dX6_weigh_83 : decode cX6_weigh 83 = .ok (.goto (-58), 3) := by decide +kernel
theorem dX6_weigh_86 : decode cX6_weigh 86 = .ok (.return_, 1) := by decide +kernel
theorem dX6_clearRests_0 : decode cX6_clearRests 0 = .ok (.iconst 0, 1) := by decide +kernel
theorem dX6_clearRests_1 : decode cX6_clearRests 1 = .ok (.istore_n 2, 1) := by decide +kernel
theorem dX6_clearRests_2 : decode cX6_clearRests 2 = .ok (.iload_n 2, 1) := by decide +kernel
theorem dX6_clearRests_3 : decode cX6_clearRests 3 = .ok (.bipush 25, 2) := by decide +kernel
theorem dX6_clearRests_5 : decode cX6_clearRests 5 = .ok (.if_icmp .ge 23, 3) := by decide +kernel
theorem dX6_clearRests_8 : decode cX6_clearRests 8 = .ok (.aload_n 0, 1) := by decide +kernel
theorem dX6_clearRests_9 : decode cX6_clearRests 9 = .ok (.getfield 9, 3) := by decide +kernel
theorem dX6_clearRests_12 : decode cX6_clearRests 12 = .ok (.iload_n 1, 1) := by decide +kernel
theorem dX6_clearRests_13 : decode cX6_clearRests 13 = .ok (.bipush 25, 2) := by decide +kernel
theorem dX6_clearRests_15 : decode cX6_clearRests 15 = .ok (.imul, 1) := by decide +kernel
theorem dX6_clearRests_16 : decode cX6_clearRests 16 = .ok (.iload_n 2, 1) := by decide +kernel
theorem dX6_clearRests_17 : decode cX6_clearRests 17 = .ok (.iadd, 1) := by decide +kernel
theorem dX6_clearRests_18 : decode cX6_clearRests 18 = .ok (.ldc2_w 99, 3) := by decide +kernel
theorem dX6_clearRests_21 : decode cX6_clearRests 21 = .ok (.lastore, 1) := by decide +kernel
theorem dX6_clearRests_22 : decode cX6_clearRests 22 = .ok (.iinc 2 1, 3) := by decide +kernel
theorem dX6_clearRests_25 : decode cX6_clearRests 25 = .ok (.goto (-23), 3) := by decide +kernel
theorem dX6_clearRests_28 : decode cX6_clearRests 28 = .ok (.return_, 1) := by decide +kernel
theorem dX6_allowEnd_0 : decode cX6_allowEnd 0 = .ok (.iload_n 1, 1) := by decide +kernel
theorem dX6_allowEnd_1 : decode cX6_allowEnd 1 = .ok (.ifCond .le 54, 3) := by decide +kernel
theorem dX6_allowEnd_4 : decode cX6_allowEnd 4 = .ok (.iload_n 1, 1) := by decide +kernel
theorem dX6_allowEnd_5 : decode cX6_allowEnd 5 = .ok (.aload_n 0, 1) := by decide +kernel
theorem dX6_allowEnd_6 : decode cX6_allowEnd 6 = .ok (.getfield 25, 3) := by decide +kernel
theorem dX6_allowEnd_9 : decode cX6_allowEnd 9 = .ok (.if_icmp .eq 10, 3) := by decide +kernel
theorem dX6_allowEnd_12 : decode cX6_allowEnd 12 = .ok (.aload_n 0, 1) := by decide +kernel
theorem dX6_allowEnd_13 : decode cX6_allowEnd 13 = .ok (.getfield 29, 3) := by decide +kernel
theorem dX6_allowEnd_16 : decode cX6_allowEnd 16 = .ok (.ifCond .eq 39, 3) := by decide +kernel
theorem dX6_allowEnd_19 : decode cX6_allowEnd 19 = .ok (.iload_n 1, 1) := by decide +kernel
theorem dX6_allowEnd_20 : decode cX6_allowEnd 20 = .ok (.bipush 25, 2) := by decide +kernel
theorem dX6_allowEnd_22 : decode cX6_allowEnd 22 = .ok (.imul, 1) := by decide +kernel
theorem dX6_allowEnd_23 : decode cX6_allowEnd 23 = .ok (.aload_n 0, 1) := by decide +kernel
theorem dX6_allowEnd_24 : decode cX6_allowEnd 24 = .ok (.getfield 33, 3) := by decide +kernel
theorem dX6_allowEnd_27 : decode cX6_allowEnd 27 = .ok (.getfield 90, 3) := by decide +kernel
theorem dX6_allowEnd_30 : decode cX6_allowEnd 30 = .ok (.iload_n 1, 1) := by decide +kernel
theorem dX6_allowEnd_31 : decode cX6_allowEnd 31 = .ok (.iconst 1, 1) := by decide +kernel
theorem dX6_allowEnd_32 : decode cX6_allowEnd 32 = .ok (.isub, 1) := by decide +kernel
theorem dX6_allowEnd_33 : decode cX6_allowEnd 33 = .ok (.aaload, 1) := by decide +kernel
theorem dX6_allowEnd_34 : decode cX6_allowEnd 34 = .ok (.getfield 94, 3) := by decide +kernel
theorem dX6_allowEnd_37 : decode cX6_allowEnd 37 = .ok (.iadd, 1) := by decide +kernel
theorem dX6_allowEnd_38 : decode cX6_allowEnd 38 = .ok (.istore_n 2, 1) := by decide +kernel
theorem dX6_allowEnd_39 : decode cX6_allowEnd 39 = .ok (.aload_n 0, 1) := by decide +kernel
theorem dX6_allowEnd_40 : decode cX6_allowEnd 40 = .ok (.getfield 9, 3) := by decide +kernel
theorem dX6_allowEnd_43 : decode cX6_allowEnd 43 = .ok (.iload_n 2, 1) := by decide +kernel
theorem dX6_allowEnd_44 : decode cX6_allowEnd 44 = .ok (.aload_n 0, 1) := by decide +kernel
theorem dX6_allowEnd_45 : decode cX6_allowEnd 45 = .ok (.getfield 9, 3) := by decide +kernel
theorem dX6_allowEnd_48 : decode cX6_allowEnd 48 = .ok (.iload_n 2, 1) := by decide +kernel
theorem dX6_allowEnd_49 : decode cX6_allowEnd 49 = .ok (.laload, 1) := by decide +kernel
theorem dX6_allowEnd_50 : decode cX6_allowEnd 50 = .ok (.lconst 0, 1) := by decide +kernel
theorem dX6_allowEnd_51 : decode cX6_allowEnd 51 = .ok (.invokestatic 101, 3) := by decide +kernel
theorem dX6_allowEnd_54 : decode cX6_allowEnd 54 = .ok (.lastore, 1) := by decide +kernel
theorem dX6_allowEnd_55 : decode cX6_allowEnd 55 = .ok (.return_, 1) := by decide +kernel
set_option maxRecDepth 20000 in
theorem ggX6_weighColumn_X1_holdsAt : GoodIn wsX6_weighColumn wsX1_holdsAt := goodIn_r _ [10, 11, 12, 34, 35, 36, 37, 38, 39, 40, 41, 42] rfl (by decide +kernel)
set_option maxRecDepth 20000 in
theorem gX6_weighColumn_X1_holdsAt : GoodIn wsX6_weighColumn (wsV RX6 107 RX1 yX1_holdsAt wsX1_holdsAt) := goodIn_app (goodIn_of _ (by decide +kernel)) ggX6_weighColumn_X1_holdsAt
set_option maxRecDepth 20000 in
theorem ggX6_weighColumn_X1_drivesFrom : GoodIn wsX6_weighColumn wsX1_drivesFrom := goodIn_r _ [16, 11, 17, 34, 35, 36, 37, 38, 39, 40, 41, 42] rfl (by decide +kernel)
set_option maxRecDepth 20000 in
theorem gX6_weighColumn_X1_drivesFrom : GoodIn wsX6_weighColumn (wsV RX6 111 RX1 yX1_drivesFrom wsX1_drivesFrom) := goodIn_app (goodIn_of _ (by decide +kernel)) ggX6_weighColumn_X1_drivesFrom
set_option maxRecDepth 20000 in
theorem ggX6_weighColumn_X6_better : GoodIn wsX6_weighColumn wsX6_better := goodIn_r _ [22, 23, 24, 25, 26, 27, 28, 29, 30, 31] rfl (by decide +kernel)
set_option maxRecDepth 20000 in
theorem gX6_weighColumn_X6_better : GoodIn wsX6_weighColumn (wsV RX6 114 RX6 yX6_better wsX6_better) := goodIn_app (goodIn_of _ (by decide +kernel)) ggX6_weighColumn_X6_better
theorem dX6_weighColumn_0 : decode cX6_weighColumn 0 = .ok (.aload_n 0, 1) := by decide +kernel
theorem dX6_weighColumn_1 : decode cX6_weighColumn 1 = .ok (.getfield 33, 3) := by decide +kernel
theorem dX6_weighColumn_4 : decode cX6_weighColumn 4 = .ok (.getfield 90, 3) := by decide +kernel
theorem dX6_weighColumn_7 : decode cX6_weighColumn 7 = .ok (.iload_n 1, 1) := by decide +kernel
theorem dX6_weighColumn_8 : decode cX6_weighColumn 8 = .ok (.aaload, 1) := by decide +kernel
theorem dX6_weighColumn_9 : decode cX6_weighColumn 9 = .ok (.astore_n 2, 1) := by decide +kernel
theorem dX6_weighColumn_10 : decode cX6_weighColumn 10 = .ok (.iconst 0, 1) := by decide +kernel
theorem dX6_weighColumn_11 : decode cX6_weighColumn 11 = .ok (.istore_n 3, 1) := by decide +kernel
theorem dX6_weighColumn_12 : decode cX6_weighColumn 12 = .ok (.iload_n 3, 1) := by decide +kernel
theorem dX6_weighColumn_13 : decode cX6_weighColumn 13 = .ok (.aload_n 2, 1) := by decide +kernel
theorem dX6_weighColumn_14 : decode cX6_weighColumn 14 = .ok (.getfield 94, 3) := by decide +kernel
theorem dX6_weighColumn_17 : decode cX6_weighColumn 17 = .ok (.if_icmp .ge 100, 3) := by decide +kernel
theorem dX6_weighColumn_20 : decode cX6_weighColumn 20 = .ok (.iconst 0, 1) := by decide +kernel
theorem dX6_weighColumn_21 : decode cX6_weighColumn 21 = .ok (.istore 4, 2) := by decide +kernel
theorem dX6_weighColumn_23 : decode cX6_weighColumn 23 = .ok (.iload 4, 2) := by decide +kernel
theorem dX6_weighColumn_25 : decode cX6_weighColumn 25 = .ok (.iconst 5, 1) := by decide +kernel
theorem dX6_weighColumn_26 : decode cX6_weighColumn 26 = .ok (.if_icmp .ge 85, 3) := by decide +kernel
theorem dX6_weighColumn_29 : decode cX6_weighColumn 29 = .ok (.aload_n 2, 1) := by decide +kernel
theorem dX6_weighColumn_30 : decode cX6_weighColumn 30 = .ok (.iload_n 3, 1) := by decide +kernel
theorem dX6_weighColumn_31 : decode cX6_weighColumn 31 = .ok (.iload 4, 2) := by decide +kernel
theorem dX6_weighColumn_33 : decode cX6_weighColumn 33 = .ok (.invokevirtual 107, 3) := by decide +kernel
theorem dX6_weighColumn_36 : decode cX6_weighColumn 36 = .ok (.istore 5, 2) := by decide +kernel
theorem dX6_weighColumn_38 : decode cX6_weighColumn 38 = .ok (.iload 5, 2) := by decide +kernel
theorem dX6_weighColumn_40 : decode cX6_weighColumn 40 = .ok (.iconst (-1), 1) := by decide +kernel
theorem dX6_weighColumn_41 : decode cX6_weighColumn 41 = .ok (.if_icmp .ne 6, 3) := by decide +kernel
theorem dX6_weighColumn_44 : decode cX6_weighColumn 44 = .ok (.goto 67, 3) := by decide +kernel
theorem dX6_weighColumn_47 : decode cX6_weighColumn 47 = .ok (.aload_n 0, 1) := by decide +kernel
theorem dX6_weighColumn_48 : decode cX6_weighColumn 48 = .ok (.getfield 22, 3) := by decide +kernel
theorem dX6_weighColumn_51 : decode cX6_weighColumn 51 = .ok (.iload 5, 2) := by decide +kernel
theorem dX6_weighColumn_53 : decode cX6_weighColumn 53 = .ok (.i2l, 1) := by decide +kernel
theorem dX6_weighColumn_54 : decode cX6_weighColumn 54 = .ok (.lmul, 1) := by decide +kernel
theorem dX6_weighColumn_55 : decode cX6_weighColumn 55 = .ok (.lstore 6, 2) := by decide +kernel
theorem dX6_weighColumn_57 : decode cX6_weighColumn 57 = .ok (.aload_n 0, 1) := by decide +kernel
theorem dX6_weighColumn_58 : decode cX6_weighColumn 58 = .ok (.getfield 18, 3) := by decide +kernel
theorem dX6_weighColumn_61 : decode cX6_weighColumn 61 = .ok (.aload_n 2, 1) := by decide +kernel
theorem dX6_weighColumn_62 : decode cX6_weighColumn 62 = .ok (.iload_n 3, 1) := by decide +kernel
theorem dX6_weighColumn_63 : decode cX6_weighColumn 63 = .ok (.iload 4, 2) := by decide +kernel
theorem dX6_weighColumn_65 : decode cX6_weighColumn 65 = .ok (.iadd, 1) := by decide +kernel
theorem dX6_weighColumn_66 : decode cX6_weighColumn 66 = .ok (.iload 4, 2) := by decide +kernel
theorem dX6_weighColumn_68 : decode cX6_weighColumn 68 = .ok (.invokevirtual 111, 3) := by decide +kernel
theorem dX6_weighColumn_71 : decode cX6_weighColumn 71 = .ok (.i2l, 1) := by decide +kernel
theorem dX6_weighColumn_72 : decode cX6_weighColumn 72 = .ok (.lmul, 1) := by decide +kernel
theorem dX6_weighColumn_73 : decode cX6_weighColumn 73 = .ok (.lstore 8, 2) := by decide +kernel
theorem dX6_weighColumn_75 : decode cX6_weighColumn 75 = .ok (.aload_n 0, 1) := by decide +kernel
theorem dX6_weighColumn_76 : decode cX6_weighColumn 76 = .ok (.iload_n 1, 1) := by decide +kernel
theorem dX6_weighColumn_77 : decode cX6_weighColumn 77 = .ok (.iload_n 3, 1) := by decide +kernel
theorem dX6_weighColumn_78 : decode cX6_weighColumn 78 = .ok (.iload_n 3, 1) := by decide +kernel
theorem dX6_weighColumn_79 : decode cX6_weighColumn 79 = .ok (.iload 4, 2) := by decide +kernel
theorem dX6_weighColumn_81 : decode cX6_weighColumn 81 = .ok (.iadd, 1) := by decide +kernel
theorem dX6_weighColumn_82 : decode cX6_weighColumn 82 = .ok (.lload 6, 2) := by decide +kernel
theorem dX6_weighColumn_84 : decode cX6_weighColumn 84 = .ok (.lload 8, 2) := by decide +kernel
theorem dX6_weighColumn_86 : decode cX6_weighColumn 86 = .ok (.ladd, 1) := by decide +kernel
theorem dX6_weighColumn_87 : decode cX6_weighColumn 87 = .ok (.invokevirtual 114, 3) := by decide +kernel
theorem dX6_weighColumn_90 : decode cX6_weighColumn 90 = .ok (.aload_n 0, 1) := by decide +kernel
theorem dX6_weighColumn_91 : decode cX6_weighColumn 91 = .ok (.iload_n 1, 1) := by decide +kernel
theorem dX6_weighColumn_92 : decode cX6_weighColumn 92 = .ok (.iload_n 3, 1) := by decide +kernel
theorem dX6_weighColumn_93 : decode cX6_weighColumn 93 = .ok (.iload 4, 2) := by decide +kernel
theorem dX6_weighColumn_95 : decode cX6_weighColumn 95 = .ok (.iadd, 1) := by decide +kernel
theorem dX6_weighColumn_96 : decode cX6_weighColumn 96 = .ok (.iload_n 3, 1) := by decide +kernel
theorem dX6_weighColumn_97 : decode cX6_weighColumn 97 = .ok (.lload 6, 2) := by decide +kernel
theorem dX6_weighColumn_99 : decode cX6_weighColumn 99 = .ok (.lload 8, 2) := by decide +kernel
theorem dX6_weighColumn_101 : decode cX6_weighColumn 101 = .ok (.lsub, 1) := by decide +kernel
theorem dX6_weighColumn_102 : decode cX6_weighColumn 102 = .ok (.invokevirtual 114, 3) := by decide +kernel
theorem dX6_weighColumn_105 : decode cX6_weighColumn 105 = .ok (.iinc 4 1, 3) := by decide +kernel
theorem dX6_weighColumn_108 : decode cX6_weighColumn 108 = .ok (.goto (-85), 3) := by decide +kernel
theorem dX6_weighColumn_111 : decode cX6_weighColumn 111 = .ok (.iinc 3 1, 3) := by decide +kernel
theorem dX6_weighColumn_114 : decode cX6_weighColumn 114 = .ok (.goto (-102), 3) := by decide +kernel
theorem dX6_weighColumn_117 : decode cX6_weighColumn 117 = .ok (.return_, 1) := by decide +kernel
theorem dX6_better_0 : decode cX6_better 0 = .ok (.aload_n 0, 1) := by decide +kernel
theorem dX6_better_1 : decode cX6_better 1 = .ok (.getfield 9, 3) := by decide +kernel
theorem dX6_better_4 : decode cX6_better 4 = .ok (.iload_n 1, 1) := by decide +kernel
theorem dX6_better_5 : decode cX6_better 5 = .ok (.iconst 1, 1) := by decide +kernel
theorem dX6_better_6 : decode cX6_better 6 = .ok (.iadd, 1) := by decide +kernel
theorem dX6_better_7 : decode cX6_better 7 = .ok (.bipush 25, 2) := by decide +kernel
theorem dX6_better_9 : decode cX6_better 9 = .ok (.imul, 1) := by decide +kernel
theorem dX6_better_10 : decode cX6_better 10 = .ok (.iload_n 3, 1) := by decide +kernel
theorem dX6_better_11 : decode cX6_better 11 = .ok (.iadd, 1) := by decide +kernel
theorem dX6_better_12 : decode cX6_better 12 = .ok (.laload, 1) := by decide +kernel
theorem dX6_better_13 : decode cX6_better 13 = .ok (.lstore 6, 2) := by decide +kernel
theorem dX6_better_15 : decode cX6_better 15 = .ok (.lload 6, 2) := by decide +kernel
theorem dX6_better_17 : decode cX6_better 17 = .ok (.ldc2_w 99, 3) := by decide +kernel
theorem dX6_better_20 : decode cX6_better 20 = .ok (.lcmp, 1) := by decide +kernel
theorem dX6_better_21 : decode cX6_better 21 = .ok (.ifCond .eq 39, 3) := by decide +kernel
theorem dX6_better_24 : decode cX6_better 24 = .ok (.lload 4, 2) := by decide +kernel
theorem dX6_better_26 : decode cX6_better 26 = .ok (.lload 6, 2) := by decide +kernel
theorem dX6_better_28 : decode cX6_better 28 = .ok (.ladd, 1) := by decide +kernel
theorem dX6_better_29 : decode cX6_better 29 = .ok (.aload_n 0, 1) := by decide +kernel
theorem dX6_better_30 : decode cX6_better 30 = .ok (.getfield 9, 3) := by decide +kernel
theorem dX6_better_33 : decode cX6_better 33 = .ok (.iload_n 1, 1) := by decide +kernel
theorem dX6_better_34 : decode cX6_better 34 = .ok (.bipush 25, 2) := by decide +kernel
theorem dX6_better_36 : decode cX6_better 36 = .ok (.imul, 1) := by decide +kernel
theorem dX6_better_37 : decode cX6_better 37 = .ok (.iload_n 2, 1) := by decide +kernel
theorem dX6_better_38 : decode cX6_better 38 = .ok (.iadd, 1) := by decide +kernel
theorem dX6_better_39 : decode cX6_better 39 = .ok (.laload, 1) := by decide +kernel
theorem dX6_better_40 : decode cX6_better 40 = .ok (.lcmp, 1) := by decide +kernel
theorem dX6_better_41 : decode cX6_better 41 = .ok (.ifCond .ge 19, 3) := by decide +kernel
theorem dX6_better_44 : decode cX6_better 44 = .ok (.aload_n 0, 1) := by decide +kernel
theorem dX6_better_45 : decode cX6_better 45 = .ok (.getfield 9, 3) := by decide +kernel
theorem dX6_better_48 : decode cX6_better 48 = .ok (.iload_n 1, 1) := by decide +kernel
theorem dX6_better_49 : decode cX6_better 49 = .ok (.bipush 25, 2) := by decide +kernel
theorem dX6_better_51 : decode cX6_better 51 = .ok (.imul, 1) := by decide +kernel
theorem dX6_better_52 : decode cX6_better 52 = .ok (.iload_n 2, 1) := by decide +kernel
theorem dX6_better_53 : decode cX6_better 53 = .ok (.iadd, 1) := by decide +kernel
theorem dX6_better_54 : decode cX6_better 54 = .ok (.lload 4, 2) := by decide +kernel
theorem dX6_better_56 : decode cX6_better 56 = .ok (.lload 6, 2) := by decide +kernel
theorem dX6_better_58 : decode cX6_better 58 = .ok (.ladd, 1) := by decide +kernel
theorem dX6_better_59 : decode cX6_better 59 = .ok (.lastore, 1) := by decide +kernel
theorem dX6_better_60 : decode cX6_better 60 = .ok (.return_, 1) := by decide +kernel
theorem dX6_leastStart_0 : decode cX6_leastStart 0 = .ok (.iconst 0, 1) := by decide +kernel
theorem dX6_leastStart_1 : decode cX6_leastStart 1 = .ok (.istore_n 1, 1) := by decide +kernel
theorem dX6_leastStart_2 : decode cX6_leastStart 2 = .ok (.iconst 1, 1) := by decide +kernel
theorem dX6_leastStart_3 : decode cX6_leastStart 3 = .ok (.istore_n 2, 1) := by decide +kernel
theorem dX6_leastStart_4 : decode cX6_leastStart 4 = .ok (.iload_n 2, 1) := by decide +kernel
theorem dX6_leastStart_5 : decode cX6_leastStart 5 = .ok (.aload_n 0, 1) := by decide +kernel
theorem dX6_leastStart_6 : decode cX6_leastStart 6 = .ok (.getfield 33, 3) := by decide +kernel
theorem dX6_leastStart_9 : decode cX6_leastStart 9 = .ok (.getfield 41, 3) := by decide +kernel
theorem dX6_leastStart_12 : decode cX6_leastStart 12 = .ok (.if_icmp .ge 27, 3) := by decide +kernel
theorem dX6_leastStart_15 : decode cX6_leastStart 15 = .ok (.aload_n 0, 1) := by decide +kernel
theorem dX6_leastStart_16 : decode cX6_leastStart 16 = .ok (.getfield 15, 3) := by decide +kernel
theorem dX6_leastStart_19 : decode cX6_leastStart 19 = .ok (.iload_n 2, 1) := by decide +kernel
theorem dX6_leastStart_20 : decode cX6_leastStart 20 = .ok (.laload, 1) := by decide +kernel
theorem dX6_leastStart_21 : decode cX6_leastStart 21 = .ok (.aload_n 0, 1) := by decide +kernel
theorem dX6_leastStart_22 : decode cX6_leastStart 22 = .ok (.getfield 15, 3) := by decide +kernel
theorem dX6_leastStart_25 : decode cX6_leastStart 25 = .ok (.iload_n 1, 1) := by decide +kernel
theorem dX6_leastStart_26 : decode cX6_leastStart 26 = .ok (.laload, 1) := by decide +kernel
theorem dX6_leastStart_27 : decode cX6_leastStart 27 = .ok (.lcmp, 1) := by decide +kernel
theorem dX6_leastStart_28 : decode cX6_leastStart 28 = .ok (.ifCond .ge 5, 3) := by decide +kernel
theorem dX6_leastStart_31 : decode cX6_leastStart 31 = .ok (.iload_n 2, 1) := by decide +kernel
theorem dX6_leastStart_32 : decode cX6_leastStart 32 = .ok (.istore_n 1, 1) := by decide +kernel
theorem dX6_leastStart_33 : decode cX6_leastStart 33 = .ok (.iinc 2 1, 3) := by decide +kernel
theorem dX6_leastStart_36 : decode cX6_leastStart 36 = .ok (.goto (-32), 3) := by decide +kernel
theorem dX6_leastStart_39 : decode cX6_leastStart 39 = .ok (.iload_n 1, 1) := by decide +kernel
theorem dX6_leastStart_40 : decode cX6_leastStart 40 = .ok (.ireturn, 1) := by decide +kernel
set_option maxRecDepth 20000 in
theorem ggX6_follow_X5_startAt : GoodIn wsX6_follow wsX5_startAt := goodIn_r _ [10, 11, 12, 13, 71, 72, 73] rfl (by decide +kernel)
set_option maxRecDepth 20000 in
theorem gX6_follow_X5_startAt : GoodIn wsX6_follow (wsV RX6 118 RX5 yX5_startAt wsX5_startAt) := goodIn_app (goodIn_of _ (by decide +kernel)) ggX6_follow_X5_startAt
set_option maxRecDepth 20000 in
theorem ggX6_follow_X6_leastRight : GoodIn wsX6_follow wsX6_leastRight := goodIn_r _ [18, 1, 2, 3, 19, 20, 21, 22, 23, 24, 25, 26, 27, 28, 29, 30, 17, 31, 32, 33, 34, 35, 36, 37, 38, 39, 40, 41, 42, 43, 44, 45, 46, 47, 48, 53, 54, 55, 56, 57, 58, 59, 60, 61, 62, 63, 64, 65, 66, 67, 68, 69, 70] rfl (by decide +kernel)
set_option maxRecDepth 20000 in
theorem gX6_follow_X6_leastRight : GoodIn wsX6_follow (wsV RX6 124 RX6 yX6_leastRight wsX6_leastRight) := goodIn_app (goodIn_of _ (by decide +kernel)) ggX6_follow_X6_leastRight
set_option maxRecDepth 20000 in
theorem ggX6_follow_X6_keyOf : GoodIn wsX6_follow wsX6_keyOf := goodIn_r _ [31, 1, 2, 19, 20, 21, 22, 32, 33, 34, 27, 35, 36, 23, 24, 25, 37, 38, 39, 40, 41, 42, 43, 44, 45, 46, 47, 48, 53, 54, 55, 56, 57, 58, 59, 60, 61, 62, 63, 64, 65, 66, 67, 68, 69, 70] rfl (by decide +kernel)
set_option maxRecDepth 20000 in
theorem gX6_follow_X6_keyOf : GoodIn wsX6_follow (wsV RX6 128 RX6 yX6_keyOf wsX6_keyOf) := goodIn_app (goodIn_of _ (by decide +kernel)) ggX6_follow_X6_keyOf
set_option maxRecDepth 20000 in
theorem ggX6_follow_X5_add : GoodIn wsX6_follow wsX5_add := goodIn_r _ [52, 13, 12, 71, 72, 73] rfl (by decide +kernel)
set_option maxRecDepth 20000 in
theorem gX6_follow_X5_add : GoodIn wsX6_follow (wsV RX6 132 RX5 yX5_add wsX5_add) := goodIn_app (goodIn_of _ (by decide +kernel)) ggX6_follow_X5_add
theorem dX6_follow_0 : decode cX6_follow 0 = .ok (.aload_n 0, 1) := by decide +kernel
theorem dX6_follow_1 : decode cX6_follow 1 = .ok (.getfield 33, 3) := by decide +kernel
theorem dX6_follow_4 : decode cX6_follow 4 = .ok (.getfield 90, 3) := by decide +kernel
theorem dX6_follow_7 : decode cX6_follow 7 = .ok (.iload_n 1, 1) := by decide +kernel
theorem dX6_follow_8 : decode cX6_follow 8 = .ok (.aaload, 1) := by decide +kernel
theorem dX6_follow_9 : decode cX6_follow 9 = .ok (.getfield 94, 3) := by decide +kernel
theorem dX6_follow_12 : decode cX6_follow 12 = .ok (.istore 5, 2) := by decide +kernel
theorem dX6_follow_14 : decode cX6_follow 14 = .ok (.lload_n 2, 1) := by decide +kernel
theorem dX6_follow_15 : decode cX6_follow 15 = .ok (.lstore 6, 2) := by decide +kernel
theorem dX6_follow_17 : decode cX6_follow 17 = .ok (.aload 4, 2) := by decide +kernel
theorem dX6_follow_19 : decode cX6_follow 19 = .ok (.iload_n 1, 1) := by decide +kernel
theorem dX6_follow_20 : decode cX6_follow 20 = .ok (.iload 5, 2) := by decide +kernel
theorem dX6_follow_22 : decode cX6_follow 22 = .ok (.invokevirtual 118, 3) := by decide +kernel
theorem dX6_follow_25 : decode cX6_follow 25 = .ok (.iload_n 1, 1) := by decide +kernel
theorem dX6_follow_26 : decode cX6_follow 26 = .ok (.istore 8, 2) := by decide +kernel
theorem dX6_follow_28 : decode cX6_follow 28 = .ok (.iload 8, 2) := by decide +kernel
theorem dX6_follow_30 : decode cX6_follow 30 = .ok (.aload_n 0, 1) := by decide +kernel
theorem dX6_follow_31 : decode cX6_follow 31 = .ok (.getfield 25, 3) := by decide +kernel
theorem dX6_follow_34 : decode cX6_follow 34 = .ok (.if_icmp .ge 95, 3) := by decide +kernel
theorem dX6_follow_37 : decode cX6_follow 37 = .ok (.iload 8, 2) := by decide +kernel
theorem dX6_follow_39 : decode cX6_follow 39 = .ok (.iload_n 1, 1) := by decide +kernel
theorem dX6_follow_40 : decode cX6_follow 40 = .ok (.if_icmp .le 38, 3) := by decide +kernel
theorem dX6_follow_43 : decode cX6_follow 43 = .ok (.aload_n 0, 1) := by decide +kernel
theorem dX6_follow_44 : decode cX6_follow 44 = .ok (.getfield 29, 3) := by decide +kernel
theorem dX6_follow_47 : decode cX6_follow 47 = .ok (.ifCond .eq 31, 3) := by decide +kernel
theorem dX6_follow_50 : decode cX6_follow 50 = .ok (.lload 6, 2) := by decide +kernel
theorem dX6_follow_52 : decode cX6_follow 52 = .ok (.lconst 0, 1) := by decide +kernel
theorem dX6_follow_53 : decode cX6_follow 53 = .ok (.lcmp, 1) := by decide +kernel
theorem dX6_follow_54 : decode cX6_follow 54 = .ok (.ifCond .lt 24, 3) := by decide +kernel
theorem dX6_follow_57 : decode cX6_follow 57 = .ok (.iload 5, 2) := by decide +kernel
theorem dX6_follow_59 : decode cX6_follow 59 = .ok (.aload_n 0, 1) := by decide +kernel
theorem dX6_follow_60 : decode cX6_follow 60 = .ok (.getfield 33, 3) := by decide +kernel
theorem dX6_follow_63 : decode cX6_follow 63 = .ok (.getfield 90, 3) := by decide +kernel
theorem dX6_follow_66 : decode cX6_follow 66 = .ok (.iload 8, 2) := by decide +kernel
theorem dX6_follow_68 : decode cX6_follow 68 = .ok (.iconst 1, 1) := by decide +kernel
theorem dX6_follow_69 : decode cX6_follow 69 = .ok (.isub, 1) := by decide +kernel
theorem dX6_follow_70 : decode cX6_follow 70 = .ok (.aaload, 1) := by decide +kernel
theorem dX6_follow_71 : decode cX6_follow 71 = .ok (.getfield 94, 3) := by decide +kernel
theorem dX6_follow_74 : decode cX6_follow 74 = .ok (.if_icmp .ne 4, 3) := by decide +kernel
theorem dX6_follow_77 : decode cX6_follow 77 = .ok (.return_, 1) := by decide +kernel
theorem dX6_follow_78 : decode cX6_follow 78 = .ok (.aload_n 0, 1) := by decide +kernel
theorem dX6_follow_79 : decode cX6_follow 79 = .ok (.iload 8, 2) := by decide +kernel
theorem dX6_follow_81 : decode cX6_follow 81 = .ok (.iload 5, 2) := by decide +kernel
theorem dX6_follow_83 : decode cX6_follow 83 = .ok (.lload 6, 2) := by decide +kernel
theorem dX6_follow_85 : decode cX6_follow 85 = .ok (.invokevirtual 124, 3) := by decide +kernel
theorem dX6_follow_88 : decode cX6_follow 88 = .ok (.istore 9, 2) := by decide +kernel
theorem dX6_follow_90 : decode cX6_follow 90 = .ok (.iload 9, 2) := by decide +kernel
theorem dX6_follow_92 : decode cX6_follow 92 = .ok (.iconst (-1), 1) := by decide +kernel
theorem dX6_follow_93 : decode cX6_follow 93 = .ok (.if_icmp .ne 4, 3) := by decide +kernel
theorem dX6_follow_96 : decode cX6_follow 96 = .ok (.return_, 1) := by decide +kernel
theorem dX6_follow_97 : decode cX6_follow 97 = .ok (.lload 6, 2) := by decide +kernel
theorem dX6_follow_99 : decode cX6_follow 99 = .ok (.aload_n 0, 1) := by decide +kernel
theorem dX6_follow_100 : decode cX6_follow 100 = .ok (.iload 8, 2) := by decide +kernel
theorem dX6_follow_102 : decode cX6_follow 102 = .ok (.iload 5, 2) := by decide +kernel
theorem dX6_follow_104 : decode cX6_follow 104 = .ok (.iload 9, 2) := by decide +kernel
theorem dX6_follow_106 : decode cX6_follow 106 = .ok (.invokevirtual 128, 3) := by decide +kernel
theorem dX6_follow_109 : decode cX6_follow 109 = .ok (.lsub, 1) := by decide +kernel
theorem dX6_follow_110 : decode cX6_follow 110 = .ok (.lstore 6, 2) := by decide +kernel
theorem dX6_follow_112 : decode cX6_follow 112 = .ok (.aload 4, 2) := by decide +kernel
theorem dX6_follow_114 : decode cX6_follow 114 = .ok (.iload 9, 2) := by decide +kernel
theorem dX6_follow_116 : decode cX6_follow 116 = .ok (.invokevirtual 132, 3) := by decide +kernel
theorem dX6_follow_119 : decode cX6_follow 119 = .ok (.iload 9, 2) := by decide +kernel
theorem dX6_follow_121 : decode cX6_follow 121 = .ok (.istore 5, 2) := by decide +kernel
theorem dX6_follow_123 : decode cX6_follow 123 = .ok (.iinc 8 1, 3) := by decide +kernel
theorem dX6_follow_126 : decode cX6_follow 126 = .ok (.goto (-98), 3) := by decide +kernel
theorem dX6_follow_129 : decode cX6_follow 129 = .ok (.return_, 1) := by decide +kernel
set_option maxRecDepth 20000 in
theorem ggX6_leastRight_X6_keyOf : GoodIn wsX6_leastRight wsX6_keyOf := goodIn_r _ [17, 1, 2, 4, 5, 6, 7, 18, 19, 20, 12, 21, 22, 8, 9, 10, 23, 24, 25, 26, 27, 28, 29, 30, 31, 32, 33, 34, 35, 36, 37, 38, 39, 40, 41, 42, 43, 44, 45, 46, 47, 48, 49, 50, 51, 52] rfl (by decide +kernel)
set_option maxRecDepth 20000 in
theorem gX6_leastRight_X6_keyOf : GoodIn wsX6_leastRight (wsV RX6 128 RX6 yX6_keyOf wsX6_keyOf) := goodIn_app (goodIn_of _ (by decide +kernel)) ggX6_leastRight_X6_keyOf
theorem dX6_leastRight_0 : decode cX6_leastRight 0 = .ok (.iload_n 2, 1) := by decide +kernel
theorem dX6_leastRight_1 : decode cX6_leastRight 1 = .ok (.iconst 5, 1) := by decide +kernel
theorem dX6_leastRight_2 : decode cX6_leastRight 2 = .ok (.iadd, 1) := by decide +kernel
theorem dX6_leastRight_3 : decode cX6_leastRight 3 = .ok (.iconst 1, 1) := by decide +kernel
theorem dX6_leastRight_4 : decode cX6_leastRight 4 = .ok (.isub, 1) := by decide +kernel
theorem dX6_leastRight_5 : decode cX6_leastRight 5 = .ok (.aload_n 0, 1) := by decide +kernel
theorem dX6_leastRight_6 : decode cX6_leastRight 6 = .ok (.getfield 33, 3) := by decide +kernel
theorem dX6_leastRight_9 : decode cX6_leastRight 9 = .ok (.getfield 90, 3) := by decide +kernel
theorem dX6_leastRight_12 : decode cX6_leastRight 12 = .ok (.iload_n 1, 1) := by decide +kernel
theorem dX6_leastRight_13 : decode cX6_leastRight 13 = .ok (.aaload, 1) := by decide +kernel
theorem dX6_leastRight_14 : decode cX6_leastRight 14 = .ok (.getfield 94, 3) := by decide +kernel
theorem dX6_leastRight_17 : decode cX6_leastRight 17 = .ok (.invokestatic 135, 3) := by decide +kernel
theorem dX6_leastRight_20 : decode cX6_leastRight 20 = .ok (.istore 5, 2) := by decide +kernel
theorem dX6_leastRight_22 : decode cX6_leastRight 22 = .ok (.iload_n 2, 1) := by decide +kernel
theorem dX6_leastRight_23 : decode cX6_leastRight 23 = .ok (.iconst 5, 1) := by decide +kernel
theorem dX6_leastRight_24 : decode cX6_leastRight 24 = .ok (.isub, 1) := by decide +kernel
theorem dX6_leastRight_25 : decode cX6_leastRight 25 = .ok (.iconst 1, 1) := by decide +kernel
theorem dX6_leastRight_26 : decode cX6_leastRight 26 = .ok (.iadd, 1) := by decide +kernel
theorem dX6_leastRight_27 : decode cX6_leastRight 27 = .ok (.iconst 0, 1) := by decide +kernel
theorem dX6_leastRight_28 : decode cX6_leastRight 28 = .ok (.invokestatic 137, 3) := by decide +kernel
theorem dX6_leastRight_31 : decode cX6_leastRight 31 = .ok (.istore 6, 2) := by decide +kernel
theorem dX6_leastRight_33 : decode cX6_leastRight 33 = .ok (.iload 6, 2) := by decide +kernel
theorem dX6_leastRight_35 : decode cX6_leastRight 35 = .ok (.iload 5, 2) := by decide +kernel
theorem dX6_leastRight_37 : decode cX6_leastRight 37 = .ok (.if_icmp .gt 66, 3) := by decide +kernel
theorem dX6_leastRight_40 : decode cX6_leastRight 40 = .ok (.aload_n 0, 1) := by decide +kernel
theorem dX6_leastRight_41 : decode cX6_leastRight 41 = .ok (.iload_n 1, 1) := by decide +kernel
theorem dX6_leastRight_42 : decode cX6_leastRight 42 = .ok (.iload_n 2, 1) := by decide +kernel
theorem dX6_leastRight_43 : decode cX6_leastRight 43 = .ok (.iload 6, 2) := by decide +kernel
theorem dX6_leastRight_45 : decode cX6_leastRight 45 = .ok (.invokevirtual 128, 3) := by decide +kernel
theorem dX6_leastRight_48 : decode cX6_leastRight 48 = .ok (.lstore 7, 2) := by decide +kernel
theorem dX6_leastRight_50 : decode cX6_leastRight 50 = .ok (.aload_n 0, 1) := by decide +kernel
theorem dX6_leastRight_51 : decode cX6_leastRight 51 = .ok (.getfield 9, 3) := by decide +kernel
theorem dX6_leastRight_54 : decode cX6_leastRight 54 = .ok (.iload_n 1, 1) := by decide +kernel
theorem dX6_leastRight_55 : decode cX6_leastRight 55 = .ok (.iconst 1, 1) := by decide +kernel
theorem dX6_leastRight_56 : decode cX6_leastRight 56 = .ok (.iadd, 1) := by decide +kernel
theorem dX6_leastRight_57 : decode cX6_leastRight 57 = .ok (.bipush 25, 2) := by decide +kernel
theorem dX6_leastRight_59 : decode cX6_leastRight 59 = .ok (.imul, 1) := by decide +kernel
theorem dX6_leastRight_60 : decode cX6_leastRight 60 = .ok (.iload 6, 2) := by decide +kernel
theorem dX6_leastRight_62 : decode cX6_leastRight 62 = .ok (.iadd, 1) := by decide +kernel
theorem dX6_leastRight_63 : decode cX6_leastRight 63 = .ok (.laload, 1) := by decide +kernel
theorem dX6_leastRight_64 : decode cX6_leastRight 64 = .ok (.lstore 9, 2) := by decide +kernel
theorem dX6_leastRight_66 : decode cX6_leastRight 66 = .ok (.lload 7, 2) := by decide +kernel
theorem dX6_leastRight_68 : decode cX6_leastRight 68 = .ok (.ldc2_w 99, 3) := by decide +kernel
theorem dX6_leastRight_71 : decode cX6_leastRight 71 = .ok (.lcmp, 1) := by decide +kernel
theorem dX6_leastRight_72 : decode cX6_leastRight 72 = .ok (.ifCond .eq 25, 3) := by decide +kernel
theorem dX6_leastRight_75 : decode cX6_leastRight 75 = .ok (.lload 9, 2) := by decide +kernel
theorem dX6_leastRight_77 : decode cX6_leastRight 77 = .ok (.ldc2_w 99, 3) := by decide +kernel
theorem dX6_leastRight_80 : decode cX6_leastRight 80 = .ok (.lcmp, 1) := by decide +kernel
theorem dX6_leastRight_81 : decode cX6_leastRight 81 = .ok (.ifCond .eq 16, 3) := by decide +kernel
theorem dX6_leastRight_84 : decode cX6_leastRight 84 = .ok (.lload 7, 2) := by decide +kernel
theorem dX6_leastRight_86 : decode cX6_leastRight 86 = .ok (.lload 9, 2) := by decide +kernel
theorem dX6_leastRight_88 : decode cX6_leastRight 88 = .ok (.ladd, 1) := by decide +kernel
theorem dX6_leastRight_89 : decode cX6_leastRight 89 = .ok (.lload_n 3, 1) := by decide +kernel
theorem dX6_leastRight_90 : decode cX6_leastRight 90 = .ok (.lcmp, 1) := by decide +kernel
theorem dX6_leastRight_91 : decode cX6_leastRight 91 = .ok (.ifCond .gt 6, 3) := by decide +kernel
theorem dX6_leastRight_94 : decode cX6_leastRight 94 = .ok (.iload 6, 2) := by decide +kernel
theorem dX6_leastRight_96 : decode cX6_leastRight 96 = .ok (.ireturn, 1) := by decide +kernel
theorem dX6_leastRight_97 : decode cX6_leastRight 97 = .ok (.iinc 6 1, 3) := by decide +kernel
theorem dX6_leastRight_100 : decode cX6_leastRight 100 = .ok (.goto (-67), 3) := by decide +kernel
theorem dX6_leastRight_103 : decode cX6_leastRight 103 = .ok (.iconst (-1), 1) := by decide +kernel
theorem dX6_leastRight_104 : decode cX6_leastRight 104 = .ok (.ireturn, 1) := by decide +kernel
set_option maxRecDepth 20000 in
theorem ggX6_keyOf_X1_holdsAt : GoodIn wsX6_keyOf wsX1_holdsAt := goodIn_r _ [20, 21, 22, 37, 38, 39, 40, 41, 42, 43, 44, 45] rfl (by decide +kernel)
set_option maxRecDepth 20000 in
theorem gX6_keyOf_X1_holdsAt : GoodIn wsX6_keyOf (wsV RX6 107 RX1 yX1_holdsAt wsX1_holdsAt) := goodIn_app (goodIn_of _ (by decide +kernel)) ggX6_keyOf_X1_holdsAt
set_option maxRecDepth 20000 in
theorem ggX6_keyOf_X1_drivesFrom : GoodIn wsX6_keyOf wsX1_drivesFrom := goodIn_r _ [26, 21, 27, 37, 38, 39, 40, 41, 42, 43, 44, 45] rfl (by decide +kernel)
set_option maxRecDepth 20000 in
theorem gX6_keyOf_X1_drivesFrom : GoodIn wsX6_keyOf (wsV RX6 111 RX1 yX1_drivesFrom wsX1_drivesFrom) := goodIn_app (goodIn_of _ (by decide +kernel)) ggX6_keyOf_X1_drivesFrom
theorem dX6_keyOf_0 : decode cX6_keyOf 0 = .ok (.aload_n 0, 1) := by decide +kernel
theorem dX6_keyOf_1 : decode cX6_keyOf 1 = .ok (.getfield 33, 3) := by decide +kernel
theorem dX6_keyOf_4 : decode cX6_keyOf 4 = .ok (.getfield 90, 3) := by decide +kernel
theorem dX6_keyOf_7 : decode cX6_keyOf 7 = .ok (.iload_n 1, 1) := by decide +kernel
theorem dX6_keyOf_8 : decode cX6_keyOf 8 = .ok (.aaload, 1) := by decide +kernel
theorem dX6_keyOf_9 : decode cX6_keyOf 9 = .ok (.astore 4, 2) := by decide +kernel
theorem dX6_keyOf_11 : decode cX6_keyOf 11 = .ok (.aload 4, 2) := by decide +kernel
theorem dX6_keyOf_13 : decode cX6_keyOf 13 = .ok (.iload_n 2, 1) := by decide +kernel
theorem dX6_keyOf_14 : decode cX6_keyOf 14 = .ok (.iload_n 3, 1) := by decide +kernel
theorem dX6_keyOf_15 : decode cX6_keyOf 15 = .ok (.invokestatic 135, 3) := by decide +kernel
theorem dX6_keyOf_18 : decode cX6_keyOf 18 = .ok (.iload_n 2, 1) := by decide +kernel
theorem dX6_keyOf_19 : decode cX6_keyOf 19 = .ok (.iload_n 3, 1) := by decide +kernel
theorem dX6_keyOf_20 : decode cX6_keyOf 20 = .ok (.isub, 1) := by decide +kernel
theorem dX6_keyOf_21 : decode cX6_keyOf 21 = .ok (.invokestatic 140, 3) := by decide +kernel
theorem dX6_keyOf_24 : decode cX6_keyOf 24 = .ok (.invokevirtual 107, 3) := by decide +kernel
theorem dX6_keyOf_27 : decode cX6_keyOf 27 = .ok (.istore 5, 2) := by decide +kernel
theorem dX6_keyOf_29 : decode cX6_keyOf 29 = .ok (.iload 5, 2) := by decide +kernel
theorem dX6_keyOf_31 : decode cX6_keyOf 31 = .ok (.iconst (-1), 1) := by decide +kernel
theorem dX6_keyOf_32 : decode cX6_keyOf 32 = .ok (.if_icmp .ne 7, 3) := by decide +kernel
theorem dX6_keyOf_35 : decode cX6_keyOf 35 = .ok (.ldc2_w 99, 3) := by decide +kernel
theorem dX6_keyOf_38 : decode cX6_keyOf 38 = .ok (.lreturn, 1) := by decide +kernel
theorem dX6_keyOf_39 : decode cX6_keyOf 39 = .ok (.aload_n 0, 1) := by decide +kernel
theorem dX6_keyOf_40 : decode cX6_keyOf 40 = .ok (.getfield 22, 3) := by decide +kernel
theorem dX6_keyOf_43 : decode cX6_keyOf 43 = .ok (.iload 5, 2) := by decide +kernel
theorem dX6_keyOf_45 : decode cX6_keyOf 45 = .ok (.i2l, 1) := by decide +kernel
theorem dX6_keyOf_46 : decode cX6_keyOf 46 = .ok (.lmul, 1) := by decide +kernel
theorem dX6_keyOf_47 : decode cX6_keyOf 47 = .ok (.aload_n 0, 1) := by decide +kernel
theorem dX6_keyOf_48 : decode cX6_keyOf 48 = .ok (.getfield 18, 3) := by decide +kernel
theorem dX6_keyOf_51 : decode cX6_keyOf 51 = .ok (.aload 4, 2) := by decide +kernel
theorem dX6_keyOf_53 : decode cX6_keyOf 53 = .ok (.iload_n 2, 1) := by decide +kernel
theorem dX6_keyOf_54 : decode cX6_keyOf 54 = .ok (.iload_n 3, 1) := by decide +kernel
theorem dX6_keyOf_55 : decode cX6_keyOf 55 = .ok (.invokestatic 137, 3) := by decide +kernel
theorem dX6_keyOf_58 : decode cX6_keyOf 58 = .ok (.iload_n 2, 1) := by decide +kernel
theorem dX6_keyOf_59 : decode cX6_keyOf 59 = .ok (.iload_n 3, 1) := by decide +kernel
theorem dX6_keyOf_60 : decode cX6_keyOf 60 = .ok (.isub, 1) := by decide +kernel
theorem dX6_keyOf_61 : decode cX6_keyOf 61 = .ok (.invokevirtual 111, 3) := by decide +kernel
theorem dX6_keyOf_64 : decode cX6_keyOf 64 = .ok (.i2l, 1) := by decide +kernel
theorem dX6_keyOf_65 : decode cX6_keyOf 65 = .ok (.lmul, 1) := by decide +kernel
theorem dX6_keyOf_66 : decode cX6_keyOf 66 = .ok (.lsub, 1) := by decide +kernel
theorem dX6_keyOf_67 : decode cX6_keyOf 67 = .ok (.lreturn, 1) := by decide +kernel
