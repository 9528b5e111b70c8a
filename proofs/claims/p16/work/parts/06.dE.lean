theorem dX7_worst_86 : decode cX7_worst 86 = .ok (.aload_n 0, 1) := by decide +kernel
theorem dX7_worst_87 : decode cX7_worst 87 = .ok (.getfield 52, 3) := by decide +kernel
theorem dX7_worst_90 : decode cX7_worst 90 = .ok (.getfield 153, 3) := by decide +kernel
theorem dX7_worst_93 : decode cX7_worst 93 = .ok (.i2l, 1) := by decide +kernel
theorem dX7_worst_94 : decode cX7_worst 94 = .ok (.lreturn, 1) := by decide +kernel
set_option maxRecDepth 20000 in
theorem ggX7_height_X7_knowWorst : GoodIn wsX7_height wsX7_knowWorst := goodIn_r _ [8, 9, 10, 11, 1, 12, 13, 14, 15, 16, 17, 18, 19, 20, 21, 22, 23, 24, 25, 26, 27, 28, 29, 30, 31, 32, 33, 34, 35, 36, 37, 38, 39, 40, 41, 42, 43, 44, 45, 46, 47, 48, 49, 50, 51, 52, 53, 54, 55, 56, 57, 58, 59, 60, 61, 62, 63, 64, 65, 66, 67, 68, 69, 70, 71, 72, 73, 74, 75, 76, 77, 78, 79, 80, 81, 82, 83, 84, 85, 86, 87, 88, 89, 90, 91, 92, 93, 94, 95, 96, 97, 98, 99, 100, 101, 102, 103, 104, 105, 106, 107, 108, 109, 110, 111, 112, 113, 114, 115, 116, 117, 118, 119, 120, 121, 122, 123, 124, 125, 126, 127, 128, 129, 130, 131, 132, 133, 134, 135, 136, 137, 138, 139, 140, 141, 142, 143, 144, 145, 146, 147, 148, 149, 150, 151, 152, 153, 154, 155, 156, 157, 158, 159, 160, 161, 162, 163, 164, 165, 166, 167, 168, 169, 170, 171, 172, 173, 174, 178, 179, 180, 181, 182, 183, 184, 185, 186, 187, 188, 189, 190, 191, 192, 196, 197, 198, 199, 200, 201, 202, 203, 204, 205, 206, 207, 208, 209, 210, 211, 212, 213, 214, 215, 216, 217, 218, 219, 220, 193, 194, 195] rfl (by decide +kernel)
set_option maxRecDepth 20000 in
theorem gX7_height_X7_knowWorst : GoodIn wsX7_height (wsV RX7 189 RX7 yX7_knowWorst wsX7_knowWorst) := goodIn_app (goodIn_of _ (by decide +kernel)) ggX7_height_X7_knowWorst
set_option maxRecDepth 20000 in
theorem ggX7_height_X7_within : GoodIn wsX7_height wsX7_within := goodIn_r _ [177] rfl (by decide +kernel)
set_option maxRecDepth 20000 in
theorem gX7_height_X7_within : GoodIn wsX7_height (va_wsS RX7 97 yX7_within wsX7_within) := goodIn_app (goodIn_of _ (by decide +kernel)) ggX7_height_X7_within
theorem dX7_height_0 : decode cX7_height 0 = .ok (.aload_n 0, 1) := by decide +kernel
theorem dX7_height_1 : decode cX7_height 1 = .ok (.invokevirtual 189, 3) := by decide +kernel
theorem dX7_height_4 : decode cX7_height 4 = .ok (.ifCond .eq 20, 3) := by decide +kernel
theorem dX7_height_7 : decode cX7_height 7 = .ok (.iload_n 1, 1) := by decide +kernel
theorem dX7_height_8 : decode cX7_height 8 = .ok (.iconst 0, 1) := by decide +kernel
theorem dX7_height_9 : decode cX7_height 9 = .ok (.aload_n 0, 1) := by decide +kernel
theorem dX7_height_10 : decode cX7_height 10 = .ok (.getfield 52, 3) := by decide +kernel
theorem dX7_height_13 : decode cX7_height 13 = .ok (.getfield 153, 3) := by decide +kernel
theorem dX7_height_16 : decode cX7_height 16 = .ok (.iconst 1, 1) := by decide +kernel
theorem dX7_height_17 : decode cX7_height 17 = .ok (.isub, 1) := by decide +kernel
theorem dX7_height_18 : decode cX7_height 18 = .ok (.invokestatic 97, 3) := by decide +kernel
theorem dX7_height_21 : decode cX7_height 21 = .ok (.ifCond .ne 5, 3) := by decide +kernel
theorem dX7_height_24 : decode cX7_height 24 = .ok (.iconst (-1), 1) := by decide +kernel
theorem dX7_height_25 : decode cX7_height 25 = .ok (.ireturn, 1) := by decide +kernel
theorem dX7_height_26 : decode cX7_height 26 = .ok (.aload_n 0, 1) := by decide +kernel
theorem dX7_height_27 : decode cX7_height 27 = .ok (.getfield 52, 3) := by decide +kernel
theorem dX7_height_30 : decode cX7_height 30 = .ok (.getfield 198, 3) := by decide +kernel
theorem dX7_height_33 : decode cX7_height 33 = .ok (.iload_n 1, 1) := by decide +kernel
theorem dX7_height_34 : decode cX7_height 34 = .ok (.iaload, 1) := by decide +kernel
theorem dX7_height_35 : decode cX7_height 35 = .ok (.ireturn, 1) := by decide +kernel
set_option maxRecDepth 20000 in
theorem ggX7_rise_X7_isRatio : GoodIn wsX7_rise wsX7_isRatio := goodIn_r _ [5, 6, 7, 4, 8] rfl (by decide +kernel)
set_option maxRecDepth 20000 in
theorem gX7_rise_X7_isRatio : GoodIn wsX7_rise (va_wsS RX7 201 yX7_isRatio wsX7_isRatio) := goodIn_app (goodIn_of _ (by decide +kernel)) ggX7_rise_X7_isRatio
set_option maxRecDepth 20000 in
theorem ggX7_rise_X4_reckon : GoodIn wsX7_rise wsX4_reckon := goodIn_r _ [13, 14, 15, 16, 17, 18, 19, 20, 21, 22, 23, 24, 25, 26, 27, 28, 29, 30, 31, 32, 33, 34, 35, 36, 37, 38, 39, 40, 41, 146, 147, 148, 149, 150, 151, 152, 153, 154, 155, 156, 157, 158, 159, 160, 161] rfl (by decide +kernel)
set_option maxRecDepth 20000 in
theorem gX7_rise_X4_reckon : GoodIn wsX7_rise (wsV RX7 205 RX4 yX4_reckon wsX4_reckon) := goodIn_app (goodIn_of _ (by decide +kernel)) ggX7_rise_X4_reckon
set_option maxRecDepth 20000 in
theorem ggX7_rise_X7_standsRisen : GoodIn wsX7_rise wsX7_standsRisen := goodIn_r _ [45, 46, 1, 47, 48, 49, 50, 12, 51, 14, 15, 52, 53, 54, 19, 55, 23, 34, 24, 41, 22, 56, 57, 58, 59, 28, 21, 60, 61, 62, 63, 64, 65, 66, 37, 67, 68, 69, 70, 71, 9, 10, 11, 13, 16, 17, 18, 20, 25, 26, 27, 29, 30, 31, 32, 33, 35, 36, 38, 39, 40, 72, 73, 74, 75, 76, 77, 78, 79, 80, 81, 82, 83, 84, 85, 86, 87, 88, 89, 90, 91, 92, 93, 94, 95, 96, 97, 98, 99, 100, 101, 102, 103, 104, 105, 106, 107, 108, 109, 110, 111, 112, 113, 114, 115, 116, 117, 118, 119, 120, 121, 122, 123, 124, 125, 126, 127, 128, 129, 130, 131, 132, 133, 134, 135, 136, 137, 138, 139, 140, 141, 142, 143, 144, 145, 146, 147, 148, 149, 150, 151, 152, 153, 154, 155, 156, 157, 158, 159, 160, 161, 162, 163, 164, 165, 166, 167, 168] rfl (by decide +kernel)
set_option maxRecDepth 20000 in
theorem gX7_rise_X7_standsRisen : GoodIn wsX7_rise (wsV RX7 208 RX7 yX7_standsRisen wsX7_standsRisen) := goodIn_app (goodIn_of _ (by decide +kernel)) ggX7_rise_X7_standsRisen
theorem dX7_rise_0 : decode cX7_rise 0 = .ok (.iload_n 1, 1) := by decide +kernel
theorem dX7_rise_1 : decode cX7_rise 1 = .ok (.iload_n 2, 1) := by decide +kernel
theorem dX7_rise_2 : decode cX7_rise 2 = .ok (.invokestatic 201, 3) := by decide +kernel
theorem dX7_rise_5 : decode cX7_rise 5 = .ok (.ifCond .ne 5, 3) := by decide +kernel
theorem dX7_rise_8 : decode cX7_rise 8 = .ok (.iconst (-1), 1) := by decide +kernel
theorem dX7_rise_9 : decode cX7_rise 9 = .ok (.ireturn, 1) := by decide +kernel
theorem dX7_rise_10 : decode cX7_rise 10 = .ok (.aload_n 0, 1) := by decide +kernel
theorem dX7_rise_11 : decode cX7_rise 11 = .ok (.getfield 21, 3) := by decide +kernel
theorem dX7_rise_14 : decode cX7_rise 14 = .ok (.invokevirtual 205, 3) := by decide +kernel
theorem dX7_rise_17 : decode cX7_rise 17 = .ok (.iconst (-1), 1) := by decide +kernel
theorem dX7_rise_18 : decode cX7_rise 18 = .ok (.istore_n 3, 1) := by decide +kernel
theorem dX7_rise_19 : decode cX7_rise 19 = .ok (.bipush 16, 2) := by decide +kernel
theorem dX7_rise_21 : decode cX7_rise 21 = .ok (.istore 4, 2) := by decide +kernel
theorem dX7_rise_23 : decode cX7_rise 23 = .ok (.iload 4, 2) := by decide +kernel
theorem dX7_rise_25 : decode cX7_rise 25 = .ok (.ifCond .le 39, 3) := by decide +kernel
theorem dX7_rise_28 : decode cX7_rise 28 = .ok (.iload_n 3, 1) := by decide +kernel
theorem dX7_rise_29 : decode cX7_rise 29 = .ok (.iload 4, 2) := by decide +kernel
theorem dX7_rise_31 : decode cX7_rise 31 = .ok (.iadd, 1) := by decide +kernel
theorem dX7_rise_32 : decode cX7_rise 32 = .ok (.bipush 24, 2) := by decide +kernel
theorem dX7_rise_34 : decode cX7_rise 34 = .ok (.if_icmp .gt 21, 3) := by decide +kernel
theorem dX7_rise_37 : decode cX7_rise 37 = .ok (.aload_n 0, 1) := by decide +kernel
theorem dX7_rise_38 : decode cX7_rise 38 = .ok (.iload_n 3, 1) := by decide +kernel
theorem dX7_rise_39 : decode cX7_rise 39 = .ok (.iload 4, 2) := by decide +kernel
theorem dX7_rise_41 : decode cX7_rise 41 = .ok (.iadd, 1) := by decide +kernel
theorem dX7_rise_42 : decode cX7_rise 42 = .ok (.iload_n 1, 1) := by decide +kernel
theorem dX7_rise_43 : decode cX7_rise 43 = .ok (.iload_n 2, 1) := by decide +kernel
theorem dX7_rise_44 : decode cX7_rise 44 = .ok (.invokevirtual 208, 3) := by decide +kernel
theorem dX7_rise_47 : decode cX7_rise 47 = .ok (.ifCond .eq 8, 3) := by decide +kernel
theorem dX7_rise_50 : decode cX7_rise 50 = .ok (.iload_n 3, 1) := by decide +kernel
theorem dX7_rise_51 : decode cX7_rise 51 = .ok (.iload 4, 2) := by decide +kernel
theorem dX7_rise_53 : decode cX7_rise 53 = .ok (.iadd, 1) := by decide +kernel
theorem dX7_rise_54 : decode cX7_rise 54 = .ok (.istore_n 3, 1) := by decide +kernel
theorem dX7_rise_55 : decode cX7_rise 55 = .ok (.iload 4, 2) := by decide +kernel
theorem dX7_rise_57 : decode cX7_rise 57 = .ok (.iconst 2, 1) := by decide +kernel
theorem dX7_rise_58 : decode cX7_rise 58 = .ok (.idiv, 1) := by decide +kernel
theorem dX7_rise_59 : decode cX7_rise 59 = .ok (.istore 4, 2) := by decide +kernel
theorem dX7_rise_61 : decode cX7_rise 61 = .ok (.goto (-38), 3) := by decide +kernel
theorem dX7_rise_64 : decode cX7_rise 64 = .ok (.iload_n 3, 1) := by decide +kernel
theorem dX7_rise_65 : decode cX7_rise 65 = .ok (.ireturn, 1) := by decide +kernel
set_option maxRecDepth 20000 in
theorem ggX7_act_X7_within : GoodIn wsX7_act wsX7_within := goodIn_r _ [6] rfl (by decide +kernel)
set_option maxRecDepth 20000 in
theorem gX7_act_X7_within : GoodIn wsX7_act (va_wsS RX7 97 yX7_within wsX7_within) := goodIn_app (goodIn_of _ (by decide +kernel)) ggX7_act_X7_within
set_option maxRecDepth 20000 in
theorem ggX7_act_X4_has : GoodIn wsX7_act wsX4_has := goodIn_r _ [11, 12, 4, 5, 6, 37, 38] rfl (by decide +kernel)
set_option maxRecDepth 20000 in
theorem gX7_act_X4_has : GoodIn wsX7_act (wsV RX7 105 RX4 yX4_has wsX4_has) := goodIn_app (goodIn_of _ (by decide +kernel)) ggX7_act_X4_has
set_option maxRecDepth 20000 in
theorem ggX7_act_X0_add : GoodIn wsX7_act wsX0_add := goodIn_r _ [17, 18, 19, 20, 21, 39, 40, 41, 42] rfl (by decide +kernel)
set_option maxRecDepth 20000 in
theorem gX7_act_X0_add : GoodIn wsX7_act (wsV RX7 211 RX0 yX0_add wsX0_add) := goodIn_app (goodIn_of _ (by decide +kernel)) ggX7_act_X0_add
theorem dX7_act_0 : decode cX7_act 0 = .ok (.iload_n 1, 1) := by decide +kernel
theorem dX7_act_1 : decode cX7_act 1 = .ok (.iconst 0, 1) := by decide +kernel
theorem dX7_act_2 : decode cX7_act 2 = .ok (.iconst 3, 1) := by decide +kernel
theorem dX7_act_3 : decode cX7_act 3 = .ok (.invokestatic 97, 3) := by decide +kernel
theorem dX7_act_6 : decode cX7_act 6 = .ok (.ifCond .eq 14, 3) := by decide +kernel
theorem dX7_act_9 : decode cX7_act 9 = .ok (.aload_n 0, 1) := by decide +kernel
theorem dX7_act_10 : decode cX7_act 10 = .ok (.getfield 21, 3) := by decide +kernel
theorem dX7_act_13 : decode cX7_act 13 = .ok (.iload_n 2, 1) := by decide +kernel
theorem dX7_act_14 : decode cX7_act 14 = .ok (.invokevirtual 105, 3) := by decide +kernel
theorem dX7_act_17 : decode cX7_act 17 = .ok (.ifCond .ne 5, 3) := by decide +kernel
theorem dX7_act_20 : decode cX7_act 20 = .ok (.iconst (-1), 1) := by decide +kernel
theorem dX7_act_21 : decode cX7_act 21 = .ok (.ireturn, 1) := by decide +kernel
theorem dX7_act_22 : decode cX7_act 22 = .ok (.iload_n 1, 1) := by decide +kernel
theorem dX7_act_23 : decode cX7_act 23 = .ok (.ifCond .eq 8, 3) := by decide +kernel
theorem dX7_act_26 : decode cX7_act 26 = .ok (.iload_n 1, 1) := by decide +kernel
theorem dX7_act_27 : decode cX7_act 27 = .ok (.iconst 2, 1) := by decide +kernel
theorem dX7_act_28 : decode cX7_act 28 = .ok (.if_icmp .ne 7, 3) := by decide +kernel
theorem dX7_act_31 : decode cX7_act 31 = .ok (.iconst 1, 1) := by decide +kernel
theorem dX7_act_32 : decode cX7_act 32 = .ok (.goto 4, 3) := by decide +kernel
theorem dX7_act_35 : decode cX7_act 35 = .ok (.iconst 0, 1) := by decide +kernel
theorem dX7_act_36 : decode cX7_act 36 = .ok (.istore 4, 2) := by decide +kernel
theorem dX7_act_38 : decode cX7_act 38 = .ok (.iload_n 3, 1) := by decide +kernel
theorem dX7_act_39 : decode cX7_act 39 = .ok (.iconst 0, 1) := by decide +kernel
theorem dX7_act_40 : decode cX7_act 40 = .ok (.iload 4, 2) := by decide +kernel
theorem dX7_act_42 : decode cX7_act 42 = .ok (.ifCond .eq 8, 3) := by decide +kernel
theorem dX7_act_45 : decode cX7_act 45 = .ok (.bipush 24, 2) := by decide +kernel
theorem dX7_act_47 : decode cX7_act 47 = .ok (.goto 6, 3) := by decide +kernel
theorem dX7_act_50 : decode cX7_act 50 = .ok (.sipush 999, 3) := by decide +kernel
theorem dX7_act_53 : decode cX7_act 53 = .ok (.invokestatic 97, 3) := by decide +kernel
theorem dX7_act_56 : decode cX7_act 56 = .ok (.ifCond .ne 5, 3) := by decide +kernel
theorem dX7_act_59 : decode cX7_act 59 = .ok (.iconst (-1), 1) := by decide +kernel
theorem dX7_act_60 : decode cX7_act 60 = .ok (.ireturn, 1) := by decide +kernel
theorem dX7_act_61 : decode cX7_act 61 = .ok (.aload_n 0, 1) := by decide +kernel
theorem dX7_act_62 : decode cX7_act 62 = .ok (.getfield 34, 3) := by decide +kernel
theorem dX7_act_65 : decode cX7_act 65 = .ok (.iload_n 1, 1) := by decide +kernel
theorem dX7_act_66 : decode cX7_act 66 = .ok (.iload_n 2, 1) := by decide +kernel
theorem dX7_act_67 : decode cX7_act 67 = .ok (.iload_n 3, 1) := by decide +kernel
theorem dX7_act_68 : decode cX7_act 68 = .ok (.invokevirtual 211, 3) := by decide +kernel
theorem dX7_act_71 : decode cX7_act 71 = .ok (.ireturn, 1) := by decide +kernel
set_option maxRecDepth 20000 in
theorem ggX7_perform_X0_has : GoodIn wsX7_perform wsX0_has := goodIn_r _ [8, 9, 10, 11, 12, 65, 66, 67, 68] rfl (by decide +kernel)
set_option maxRecDepth 20000 in
theorem gX7_perform_X0_has : GoodIn wsX7_perform (wsV RX7 214 RX0 yX0_has wsX0_has) := goodIn_app (goodIn_of _ (by decide +kernel)) ggX7_perform_X0_has
set_option maxRecDepth 20000 in
theorem ggX7_perform_X0_doOn : GoodIn wsX7_perform wsX0_doOn := goodIn_r _ [16, 17, 18, 19, 20, 21, 22, 23, 24, 25, 26, 27, 28, 5, 6, 7, 8, 9, 10, 11, 12, 29, 30, 31, 32, 33, 34, 35, 36, 37, 38, 39, 40, 41, 42, 43, 44, 45, 46, 47, 48, 49, 65, 66, 67, 68, 69, 70, 71, 72, 73, 74, 75, 76, 77, 78, 79] rfl (by decide +kernel)
set_option maxRecDepth 20000 in
theorem gX7_perform_X0_doOn : GoodIn wsX7_perform (wsV RX7 215 RX0 yX0_doOn wsX0_doOn) := goodIn_app (goodIn_of _ (by decide +kernel)) ggX7_perform_X0_doOn
theorem dX7_perform_0 : decode cX7_perform 0 = .ok (.aload_n 0, 1) := by decide +kernel
theorem dX7_perform_1 : decode cX7_perform 1 = .ok (.getfield 34, 3) := by decide +kernel
theorem dX7_perform_4 : decode cX7_perform 4 = .ok (.iload_n 1, 1) := by decide +kernel
theorem dX7_perform_5 : decode cX7_perform 5 = .ok (.invokevirtual 214, 3) := by decide +kernel
theorem dX7_perform_8 : decode cX7_perform 8 = .ok (.ifCond .ne 5, 3) := by decide +kernel
theorem dX7_perform_11 : decode cX7_perform 11 = .ok (.iconst 0, 1) := by decide +kernel
theorem dX7_perform_12 : decode cX7_perform 12 = .ok (.ireturn, 1) := by decide +kernel
theorem dX7_perform_13 : decode cX7_perform 13 = .ok (.aload_n 0, 1) := by decide +kernel
theorem dX7_perform_14 : decode cX7_perform 14 = .ok (.getfield 34, 3) := by decide +kernel
theorem dX7_perform_17 : decode cX7_perform 17 = .ok (.aload_n 0, 1) := by decide +kernel
theorem dX7_perform_18 : decode cX7_perform 18 = .ok (.getfield 21, 3) := by decide +kernel
theorem dX7_perform_21 : decode cX7_perform 21 = .ok (.iload_n 1, 1) := by decide +kernel
theorem dX7_perform_22 : decode cX7_perform 22 = .ok (.invokevirtual 215, 3) := by decide +kernel
theorem dX7_perform_25 : decode cX7_perform 25 = .ok (.aload_n 0, 1) := by decide +kernel
theorem dX7_perform_26 : decode cX7_perform 26 = .ok (.iconst 0, 1) := by decide +kernel
theorem dX7_perform_27 : decode cX7_perform 27 = .ok (.putfield 80, 3) := by decide +kernel
theorem dX7_perform_30 : decode cX7_perform 30 = .ok (.iconst 1, 1) := by decide +kernel
theorem dX7_perform_31 : decode cX7_perform 31 = .ok (.ireturn, 1) := by decide +kernel
set_option maxRecDepth 20000 in
theorem ggX7_order_X7_isRatio : GoodIn wsX7_order wsX7_isRatio := goodIn_r _ [15, 16, 17, 14, 18] rfl (by decide +kernel)
set_option maxRecDepth 20000 in
theorem gX7_order_X7_isRatio : GoodIn wsX7_order (va_wsS RX7 201 yX7_isRatio wsX7_isRatio) := goodIn_app (goodIn_of _ (by decide +kernel)) ggX7_order_X7_isRatio
set_option maxRecDepth 20000 in
theorem ggX7_order_X4_reckon : GoodIn wsX7_order wsX4_reckon := goodIn_r _ [23, 24, 25, 26, 27, 28, 29, 30, 31, 32, 33, 34, 35, 36, 37, 38, 39, 40, 41, 42, 43, 44, 45, 46, 47, 48, 49, 50, 51, 182, 183, 184, 185, 186, 187, 188, 189, 190, 191, 192, 193, 194, 195, 196, 197] rfl (by decide +kernel)
set_option maxRecDepth 20000 in
theorem gX7_order_X4_reckon : GoodIn wsX7_order (wsV RX7 205 RX4 yX4_reckon wsX4_reckon) := goodIn_app (goodIn_of _ (by decide +kernel)) ggX7_order_X4_reckon
set_option maxRecDepth 20000 in
theorem ggX7_order_X7_standsBehind : GoodIn wsX7_order wsX7_standsBehind := goodIn_r _ [55, 56, 1, 2, 3, 57, 58, 59, 60, 22, 61, 24, 25, 62, 63, 64, 29, 65, 33, 44, 34, 51, 32, 66, 8, 9, 10, 38, 31, 67, 68, 69, 70, 71, 72, 73, 74, 75, 76, 77, 78, 47, 79, 80, 81, 82, 83, 84, 85, 86, 17, 14, 18, 87, 88, 89, 90, 91, 92, 93, 94, 95, 96, 97, 98, 99, 19, 20, 21, 23, 26, 27, 28, 30, 35, 36, 37, 39, 40, 41, 42, 43, 45, 46, 48, 49, 50, 100, 101, 102, 103, 104, 105, 106, 107, 108, 109, 110, 111, 112, 113, 114, 115, 116, 117, 118, 119, 120, 121, 122, 123, 124, 125, 126, 127, 128, 129, 130, 131, 132, 133, 134, 135, 136, 137, 138, 139, 140, 141, 142, 143, 144, 145, 146, 147, 148, 149, 150, 151, 152, 153, 154, 155, 156, 157, 158, 163, 164, 165, 166, 167, 168, 169, 170, 171, 172, 173, 174, 175, 176, 177, 178, 179, 180, 181, 182, 183, 184, 185, 186, 187, 188, 189, 190, 191, 192, 193, 194, 195, 196, 197, 198, 199, 200, 201, 202, 203, 204] rfl (by decide +kernel)
set_option maxRecDepth 20000 in
theorem gX7_order_X7_standsBehind : GoodIn wsX7_order (wsV RX7 219 RX7 yX7_standsBehind wsX7_standsBehind) := goodIn_app (goodIn_of _ (by decide +kernel)) ggX7_order_X7_standsBehind
set_option maxRecDepth 20000 in
theorem ggX7_order_X7_leadsOn : GoodIn wsX7_order wsX7_leadsOn := goodIn_r _ [162, 2, 3, 4, 5, 52, 53, 54, 14, 55, 56, 1, 57, 58, 59, 60, 22, 61, 24, 25, 62, 63, 64, 29, 65, 33, 44, 34, 51, 32, 66, 8, 9, 10, 38, 31, 67, 68, 69, 70, 71, 72, 73, 74, 75, 76, 77, 78, 47, 79, 80, 81, 82, 83, 84, 85, 86, 17, 18, 87, 88, 89, 90, 91, 92, 93, 94, 95, 96, 97, 98, 99, 19, 20, 21, 23, 26, 27, 28, 30, 35, 36, 37, 39, 40, 41, 42, 43, 45, 46, 48, 49, 50, 100, 101, 102, 103, 104, 105, 106, 107, 108, 109, 110, 111, 112, 113, 114, 115, 116, 117, 118, 119, 120, 121, 122, 123, 124, 125, 126, 127, 128, 129, 130, 131, 132, 133, 134, 135, 136, 137, 138, 139, 140, 141, 142, 143, 144, 145, 146, 147, 148, 149, 150, 151, 152, 153, 154, 155, 156, 157, 158, 159, 160, 161, 163, 164, 165, 166, 167, 168, 169, 170, 171, 172, 173, 174, 175, 176, 177, 178, 179, 180, 181, 182, 183, 184, 185, 186, 187, 188, 189, 190, 191, 192, 193, 194, 195, 196, 197, 198, 199, 200, 201, 202, 203, 204] rfl (by decide +kernel)
set_option maxRecDepth 20000 in
theorem gX7_order_X7_leadsOn : GoodIn wsX7_order (wsV RX7 222 RX7 yX7_leadsOn wsX7_leadsOn) := goodIn_app (goodIn_of _ (by decide +kernel)) ggX7_order_X7_leadsOn
theorem dX7_order_0 : decode cX7_order 0 = .ok (.iload_n 1, 1) := by decide +kernel
theorem dX7_order_1 : decode cX7_order 1 = .ok (.iload_n 2, 1) := by decide +kernel
theorem dX7_order_2 : decode cX7_order 2 = .ok (.invokestatic 201, 3) := by decide +kernel
theorem dX7_order_5 : decode cX7_order 5 = .ok (.ifCond .ne 5, 3) := by decide +kernel
theorem dX7_order_8 : decode cX7_order 8 = .ok (.iconst (-1), 1) := by decide +kernel
theorem dX7_order_9 : decode cX7_order 9 = .ok (.ireturn, 1) := by decide +kernel
theorem dX7_order_10 : decode cX7_order 10 = .ok (.aload_n 0, 1) := by decide +kernel
theorem dX7_order_11 : decode cX7_order 11 = .ok (.getfield 21, 3) := by decide +kernel
theorem dX7_order_14 : decode cX7_order 14 = .ok (.invokevirtual 205, 3) := by decide +kernel
theorem dX7_order_17 : decode cX7_order 17 = .ok (.iconst 1, 1) := by decide +kernel
theorem dX7_order_18 : decode cX7_order 18 = .ok (.aload_n 0, 1) := by decide +kernel
theorem dX7_order_19 : decode cX7_order 19 = .ok (.getfield 34, 3) := by decide +kernel
theorem dX7_order_22 : decode cX7_order 22 = .ok (.getfield 91, 3) := by decide +kernel
theorem dX7_order_25 : decode cX7_order 25 = .ok (.ishl, 1) := by decide +kernel
theorem dX7_order_26 : decode cX7_order 26 = .ok (.iconst 1, 1) := by decide +kernel
theorem dX7_order_27 : decode cX7_order 27 = .ok (.isub, 1) := by decide +kernel
theorem dX7_order_28 : decode cX7_order 28 = .ok (.istore_n 3, 1) := by decide +kernel
theorem dX7_order_29 : decode cX7_order 29 = .ok (.iconst 0, 1) := by decide +kernel
theorem dX7_order_30 : decode cX7_order 30 = .ok (.istore 4, 2) := by decide +kernel
theorem dX7_order_32 : decode cX7_order 32 = .ok (.iload 4, 2) := by decide +kernel
theorem dX7_order_34 : decode cX7_order 34 = .ok (.iload_n 3, 1) := by decide +kernel
theorem dX7_order_35 : decode cX7_order 35 = .ok (.if_icmp .gt 17, 3) := by decide +kernel
theorem dX7_order_38 : decode cX7_order 38 = .ok (.aload_n 0, 1) := by decide +kernel
theorem dX7_order_39 : decode cX7_order 39 = .ok (.getfield 65, 3) := by decide +kernel
theorem dX7_order_42 : decode cX7_order 42 = .ok (.iload 4, 2) := by decide +kernel
theorem dX7_order_44 : decode cX7_order 44 = .ok (.iconst 0, 1) := by decide +kernel
theorem dX7_order_45 : decode cX7_order 45 = .ok (.bastore, 1) := by decide +kernel
theorem dX7_order_46 : decode cX7_order 46 = .ok (.iinc 4 1, 3) := by decide +kernel
theorem dX7_order_49 : decode cX7_order 49 = .ok (.goto (-17), 3) := by decide +kernel
theorem dX7_order_52 : decode cX7_order 52 = .ok (.iload_n 3, 1) := by decide +kernel
theorem dX7_order_53 : decode cX7_order 53 = .ok (.ifCond .eq 27, 3) := by decide +kernel
theorem dX7_order_56 : decode cX7_order 56 = .ok (.aload_n 0, 1) := by decide +kernel
theorem dX7_order_57 : decode cX7_order 57 = .ok (.iload_n 3, 1) := by decide +kernel
theorem dX7_order_58 : decode cX7_order 58 = .ok (.iload_n 1, 1) := by decide +kernel
theorem dX7_order_59 : decode cX7_order 59 = .ok (.iload_n 2, 1) := by decide +kernel
theorem dX7_order_60 : decode cX7_order 60 = .ok (.invokevirtual 219, 3) := by decide +kernel
theorem dX7_order_63 : decode cX7_order 63 = .ok (.ifCond .eq 14, 3) := by decide +kernel
theorem dX7_order_66 : decode cX7_order 66 = .ok (.aload_n 0, 1) := by decide +kernel
theorem dX7_order_67 : decode cX7_order 67 = .ok (.iconst 0, 1) := by decide +kernel
theorem dX7_order_68 : decode cX7_order 68 = .ok (.iconst 0, 1) := by decide +kernel
theorem dX7_order_69 : decode cX7_order 69 = .ok (.iload_n 1, 1) := by decide +kernel
theorem dX7_order_70 : decode cX7_order 70 = .ok (.iload_n 2, 1) := by decide +kernel
theorem dX7_order_71 : decode cX7_order 71 = .ok (.invokevirtual 222, 3) := by decide +kernel
theorem dX7_order_74 : decode cX7_order 74 = .ok (.ifCond .ne 6, 3) := by decide +kernel
theorem dX7_order_77 : decode cX7_order 77 = .ok (.bipush (-2), 2) := by decide +kernel
theorem dX7_order_79 : decode cX7_order 79 = .ok (.ireturn, 1) := by decide +kernel
theorem dX7_order_80 : decode cX7_order 80 = .ok (.aload_n 0, 1) := by decide +kernel
theorem dX7_order_81 : decode cX7_order 81 = .ok (.getfield 69, 3) := by decide +kernel
theorem dX7_order_84 : decode cX7_order 84 = .ok (.iconst 0, 1) := by decide +kernel
theorem dX7_order_85 : decode cX7_order 85 = .ok (.aload_n 0, 1) := by decide +kernel
theorem dX7_order_86 : decode cX7_order 86 = .ok (.getfield 73, 3) := by decide +kernel
theorem dX7_order_89 : decode cX7_order 89 = .ok (.iconst 0, 1) := by decide +kernel
theorem dX7_order_90 : decode cX7_order 90 = .ok (.bipush 6, 2) := by decide +kernel
theorem dX7_order_92 : decode cX7_order 92 = .ok (.invokestatic 226, 3) := by decide +kernel
theorem dX7_order_95 : decode cX7_order 95 = .ok (.aload_n 0, 1) := by decide +kernel
theorem dX7_order_96 : decode cX7_order 96 = .ok (.aload_n 0, 1) := by decide +kernel
theorem dX7_order_97 : decode cX7_order 97 = .ok (.getfield 34, 3) := by decide +kernel
theorem dX7_order_100 : decode cX7_order 100 = .ok (.getfield 91, 3) := by decide +kernel
theorem dX7_order_103 : decode cX7_order 103 = .ok (.putfield 76, 3) := by decide +kernel
theorem dX7_order_106 : decode cX7_order 106 = .ok (.aload_n 0, 1) := by decide +kernel
theorem dX7_order_107 : decode cX7_order 107 = .ok (.getfield 76, 3) := by decide +kernel
theorem dX7_order_110 : decode cX7_order 110 = .ok (.ireturn, 1) := by decide +kernel
set_option maxRecDepth 20000 in
theorem ggX7_step_X7_within : GoodIn wsX7_step wsX7_within := goodIn_r _ [6] rfl (by decide +kernel)
set_option maxRecDepth 20000 in
theorem gX7_step_X7_within : GoodIn wsX7_step (va_wsS RX7 97 yX7_within wsX7_within) := goodIn_app (goodIn_of _ (by decide +kernel)) ggX7_step_X7_within
theorem dX7_step_0 : decode cX7_step 0 = .ok (.iload_n 1, 1) := by decide +kernel
theorem dX7_step_1 : decode cX7_step 1 = .ok (.iconst 0, 1) := by decide +kernel
theorem dX7_step_2 : decode cX7_step 2 = .ok (.aload_n 0, 1) := by decide +kernel
theorem dX7_step_3 : decode cX7_step 3 = .ok (.getfield 76, 3) := by decide +kernel
theorem dX7_step_6 : decode cX7_step 6 = .ok (.iconst 1, 1) := by decide +kernel
theorem dX7_step_7 : decode cX7_step 7 = .ok (.isub, 1) := by decide +kernel
theorem dX7_step_8 : decode cX7_step 8 = .ok (.invokestatic 97, 3) := by decide +kernel
theorem dX7_step_11 : decode cX7_step 11 = .ok (.ifCond .eq 12, 3) := by decide +kernel
theorem dX7_step_14 : decode cX7_step 14 = .ok (.aload_n 0, 1) := by decide +kernel
theorem dX7_step_15 : decode cX7_step 15 = .ok (.getfield 73, 3) := by decide +kernel
theorem dX7_step_18 : decode cX7_step 18 = .ok (.iload_n 1, 1) := by decide +kernel
theorem dX7_step_19 : decode cX7_step 19 = .ok (.iaload, 1) := by decide +kernel
theorem dX7_step_20 : decode cX7_step 20 = .ok (.goto 4, 3) := by decide +kernel
theorem dX7_step_23 : decode cX7_step 23 = .ok (.iconst (-1), 1) := by decide +kernel
theorem dX7_step_24 : decode cX7_step 24 = .ok (.ireturn, 1) := by decide +kernel
set_option maxRecDepth 20000 in
theorem ggX7_count_X4_cellCount : GoodIn wsX7_count wsX4_cellCount := goodIn_r _ [11, 12, 13, 14, 30, 31, 41, 42, 43, 44, 45, 46, 47, 48, 49] rfl (by decide +kernel)
set_option maxRecDepth 20000 in
theorem gX7_count_X4_cellCount : GoodIn wsX7_count (wsV RX7 233 RX4 yX4_cellCount wsX4_cellCount) := goodIn_app (goodIn_of _ (by decide +kernel)) ggX7_count_X4_cellCount
theorem dX7_count_0 : decode cX7_count 0 = .ok (.iload_n 1, 1) := by decide +kernel
theorem dX7_count_1 : decode cX7_count 1 = .ok (.tableswitch 63 0 3 #[31, 39, 47, 55], 31) := by decide +kernel
theorem dX7_count_32 : decode cX7_count 32 = .ok (.aload_n 0, 1) := by decide +kernel
theorem dX7_count_33 : decode cX7_count 33 = .ok (.getfield 21, 3) := by decide +kernel
theorem dX7_count_36 : decode cX7_count 36 = .ok (.getfield 158, 3) := by decide +kernel
theorem dX7_count_39 : decode cX7_count 39 = .ok (.ireturn, 1) := by decide +kernel
theorem dX7_count_40 : decode cX7_count 40 = .ok (.aload_n 0, 1) := by decide +kernel
theorem dX7_count_41 : decode cX7_count 41 = .ok (.getfield 12, 3) := by decide +kernel
theorem dX7_count_44 : decode cX7_count 44 = .ok (.getfield 232, 3) := by decide +kernel
theorem dX7_count_47 : decode cX7_count 47 = .ok (.ireturn, 1) := by decide +kernel
theorem dX7_count_48 : decode cX7_count 48 = .ok (.aload_n 0, 1) := by decide +kernel
theorem dX7_count_49 : decode cX7_count 49 = .ok (.getfield 34, 3) := by decide +kernel
theorem dX7_count_52 : decode cX7_count 52 = .ok (.getfield 91, 3) := by decide +kernel
theorem dX7_count_55 : decode cX7_count 55 = .ok (.ireturn, 1) := by decide +kernel
theorem dX7_count_56 : decode cX7_count 56 = .ok (.aload_n 0, 1) := by decide +kernel
theorem dX7_count_57 : decode cX7_count 57 = .ok (.getfield 21, 3) := by decide +kernel
theorem dX7_count_60 : decode cX7_count 60 = .ok (.invokevirtual 233, 3) := by decide +kernel
theorem dX7_count_63 : decode cX7_count 63 = .ok (.ireturn, 1) := by decide +kernel
theorem dX7_count_64 : decode cX7_count 64 = .ok (.iconst (-1), 1) := by decide +kernel
theorem dX7_count_65 : decode cX7_count 65 = .ok (.ireturn, 1) := by decide +kernel
theorem dX7_within_0 : decode cX7_within 0 = .ok (.iload_n 0, 1) := by decide +kernel
theorem dX7_within_1 : decode cX7_within 1 = .ok (.iload_n 1, 1) := by decide +kernel
theorem dX7_within_2 : decode cX7_within 2 = .ok (.if_icmp .lt 12, 3) := by decide +kernel
theorem dX7_within_5 : decode cX7_within 5 = .ok (.iload_n 0, 1) := by decide +kernel
theorem dX7_within_6 : decode cX7_within 6 = .ok (.iload_n 2, 1) := by decide +kernel
theorem dX7_within_7 : decode cX7_within 7 = .ok (.if_icmp .gt 7, 3) := by decide +kernel
theorem dX7_within_10 : decode cX7_within 10 = .ok (.iconst 1, 1) := by decide +kernel
theorem dX7_within_11 : decode cX7_within 11 = .ok (.goto 4, 3) := by decide +kernel
theorem dX7_within_14 : decode cX7_within 14 = .ok (.iconst 0, 1) := by decide +kernel
theorem dX7_within_15 : decode cX7_within 15 = .ok (.ireturn, 1) := by decide +kernel
set_option maxRecDepth 20000 in
theorem ggX7_isRatio_X7_within : GoodIn wsX7_isRatio wsX7_within := goodIn_r _ [4] rfl (by decide +kernel)
set_option maxRecDepth 20000 in
theorem gX7_isRatio_X7_within : GoodIn wsX7_isRatio (va_wsS RX7 97 yX7_within wsX7_within) := goodIn_app (goodIn_of _ (by decide +kernel)) ggX7_isRatio_X7_within
theorem dX7_isRatio_0 : decode cX7_isRatio 0 = .ok (.iload_n 0, 1) := by decide +kernel
theorem dX7_isRatio_1 : decode cX7_isRatio 1 = .ok (.iconst 1, 1) := by decide +kernel
theorem dX7_isRatio_2 : decode cX7_isRatio 2 = .ok (.sipush 1000, 3) := by decide +kernel
theorem dX7_isRatio_5 : decode cX7_isRatio 5 = .ok (.invokestatic 97, 3) := by decide +kernel
theorem dX7_isRatio_8 : decode cX7_isRatio 8 = .ok (.ifCond .eq 18, 3) := by decide +kernel
theorem dX7_isRatio_11 : decode cX7_isRatio 11 = .ok (.iload_n 1, 1) := by decide +kernel
theorem dX7_isRatio_12 : decode cX7_isRatio 12 = .ok (.iconst 1, 1) := by decide +kernel
theorem dX7_isRatio_13 : decode cX7_isRatio 13 = .ok (.sipush 1000, 3) := by decide +kernel
theorem dX7_isRatio_16 : decode cX7_isRatio 16 = .ok (.invokestatic 97, 3) := by decide +kernel
theorem dX7_isRatio_19 : decode cX7_isRatio 19 = .ok (.ifCond .eq 7, 3) := by decide +kernel
theorem dX7_isRatio_22 : decode cX7_isRatio 22 = .ok (.iconst 1, 1) := by decide +kernel
theorem dX7_isRatio_23 : decode cX7_isRatio 23 = .ok (.goto 4, 3) := by decide +kernel
theorem dX7_isRatio_26 : decode cX7_isRatio 26 = .ok (.iconst 0, 1) := by decide +kernel
theorem dX7_isRatio_27 : decode cX7_isRatio 27 = .ok (.ireturn, 1) := by decide +kernel
set_option maxRecDepth 20000 in
theorem ggX7_knowWorst_X4_reckon : GoodIn wsX7_knowWorst wsX4_reckon := goodIn_r _ [11, 12, 13, 14, 15, 16, 17, 18, 19, 20, 21, 22, 23, 24, 25, 26, 27, 28, 29, 30, 31, 32, 33, 34, 35, 36, 37, 38, 39, 183, 184, 185, 186, 187, 188, 189, 190, 191, 192, 193, 194, 195, 196, 197, 198] rfl (by decide +kernel)
set_option maxRecDepth 20000 in
theorem gX7_knowWorst_X4_reckon : GoodIn wsX7_knowWorst (wsV RX7 205 RX4 yX4_reckon wsX4_reckon) := goodIn_app (goodIn_of _ (by decide +kernel)) ggX7_knowWorst_X4_reckon
set_option maxRecDepth 20000 in
theorem ggX7_knowWorst_X6_study : GoodIn wsX7_knowWorst wsX6_study := goodIn_r _ [44, 45, 199, 200, 201, 202, 203, 204, 205] rfl (by decide +kernel)
set_option maxRecDepth 20000 in
theorem gX7_knowWorst_X6_study : GoodIn wsX7_knowWorst (wsV RX7 236 RX6 yX6_study wsX6_study) := goodIn_app (goodIn_of _ (by decide +kernel)) ggX7_knowWorst_X6_study
set_option maxRecDepth 20000 in
theorem ggX7_knowWorst_X6_findWorst : GoodIn wsX7_knowWorst wsX6_findWorst := goodIn_r _ [49, 45, 50, 51, 52, 53, 54, 55, 56, 43, 57, 58, 59, 60, 61, 62, 63, 64, 65, 66, 67, 68, 69, 70, 71, 72, 73, 74, 75, 76, 77, 78, 79, 35, 80, 81, 82, 83, 84, 85, 86, 87, 17, 88, 21, 26, 89, 90, 91, 92, 20, 93, 94, 95, 96, 97, 98, 99, 100, 101, 102, 103, 104, 105, 106, 107, 108, 109, 110, 111, 112, 113, 114, 115, 116, 117, 118, 119, 120, 34, 36, 121, 122, 123, 124, 125, 126, 127, 128, 129, 130, 131, 132, 133, 134, 10, 135, 136, 137, 138, 139, 140, 13, 141, 142, 143, 144, 14, 15, 16, 18, 19, 22, 23, 24, 25, 27, 28, 29, 30, 31, 32, 33, 37, 38, 39, 145, 146, 147, 148, 149, 150, 151, 152, 153, 154, 155, 156, 157, 158, 159, 160, 161, 199, 200, 201, 202, 203, 204, 205, 183, 184, 206, 207, 185, 186, 187, 188, 189, 190, 191, 192, 193, 208, 209, 210, 194, 195, 196, 197, 198] rfl (by decide +kernel)
set_option maxRecDepth 20000 in
theorem gX7_knowWorst_X6_findWorst : GoodIn wsX7_knowWorst (wsV RX7 239 RX6 yX6_findWorst wsX6_findWorst) := goodIn_app (goodIn_of _ (by decide +kernel)) ggX7_knowWorst_X6_findWorst
set_option maxRecDepth 20000 in
theorem ggX7_knowWorst_X6_findFirst : GoodIn wsX7_knowWorst wsX6_findFirst := goodIn_r _ [165, 52, 166, 53, 45, 50, 51, 167, 54, 55, 56, 43, 57, 58, 59, 60, 61, 62, 63, 64, 65, 66, 67, 68, 69, 70, 71, 72, 73, 74, 75, 76, 77, 78, 79, 35, 80, 81, 82, 83, 84, 85, 86, 87, 17, 88, 21, 26, 89, 90, 91, 92, 20, 93, 94, 95, 96, 101, 102, 103, 104, 105, 106, 107, 108, 109, 110, 111, 112, 113, 114, 115, 116, 117, 118, 119, 120, 34, 36, 121, 122, 123, 124, 125, 126, 127, 128, 129, 130, 131, 206, 207, 199, 200, 201, 202, 203, 204, 205, 183, 184, 185, 186, 187, 188, 189, 190, 191, 192, 193, 208, 209, 210] rfl (by decide +kernel)
set_option maxRecDepth 20000 in
theorem gX7_knowWorst_X6_findFirst : GoodIn wsX7_knowWorst (wsV RX7 243 RX6 yX6_findFirst wsX6_findFirst) := goodIn_app (goodIn_of _ (by decide +kernel)) ggX7_knowWorst_X6_findFirst
theorem dX7_knowWorst_0 : decode cX7_knowWorst 0 = .ok (.aload_n 0, 1) := by decide +kernel
theorem dX7_knowWorst_1 : decode cX7_knowWorst 1 = .ok (.getfield 80, 3) := by decide +kernel
theorem dX7_knowWorst_4 : decode cX7_knowWorst 4 = .ok (.ifCond .ne 67, 3) := by decide +kernel
theorem dX7_knowWorst_7 : decode cX7_knowWorst 7 = .ok (.aload_n 0, 1) := by decide +kernel
theorem dX7_knowWorst_8 : decode cX7_knowWorst 8 = .ok (.getfield 21, 3) := by decide +kernel
theorem dX7_knowWorst_11 : decode cX7_knowWorst 11 = .ok (.invokevirtual 205, 3) := by decide +kernel
theorem dX7_knowWorst_14 : decode cX7_knowWorst 14 = .ok (.aload_n 0, 1) := by decide +kernel
theorem dX7_knowWorst_15 : decode cX7_knowWorst 15 = .ok (.getfield 41, 3) := by decide +kernel
theorem dX7_knowWorst_18 : decode cX7_knowWorst 18 = .ok (.aload_n 0, 1) := by decide +kernel
theorem dX7_knowWorst_19 : decode cX7_knowWorst 19 = .ok (.getfield 21, 3) := by decide +kernel
theorem dX7_knowWorst_22 : decode cX7_knowWorst 22 = .ok (.invokevirtual 236, 3) := by decide +kernel
theorem dX7_knowWorst_25 : decode cX7_knowWorst 25 = .ok (.aload_n 0, 1) := by decide +kernel
theorem dX7_knowWorst_26 : decode cX7_knowWorst 26 = .ok (.aload_n 0, 1) := by decide +kernel
theorem dX7_knowWorst_27 : decode cX7_knowWorst 27 = .ok (.getfield 41, 3) := by decide +kernel
theorem dX7_knowWorst_30 : decode cX7_knowWorst 30 = .ok (.aload_n 0, 1) := by decide +kernel
theorem dX7_knowWorst_31 : decode cX7_knowWorst 31 = .ok (.getfield 52, 3) := by decide +kernel
theorem dX7_knowWorst_34 : decode cX7_knowWorst 34 = .ok (.aload_n 0, 1) := by decide +kernel
theorem dX7_knowWorst_35 : decode cX7_knowWorst 35 = .ok (.getfield 58, 3) := by decide +kernel
theorem dX7_knowWorst_38 : decode cX7_knowWorst 38 = .ok (.invokevirtual 239, 3) := by decide +kernel
theorem dX7_knowWorst_41 : decode cX7_knowWorst 41 = .ok (.putfield 84, 3) := by decide +kernel
theorem dX7_knowWorst_44 : decode cX7_knowWorst 44 = .ok (.aload_n 0, 1) := by decide +kernel
theorem dX7_knowWorst_45 : decode cX7_knowWorst 45 = .ok (.getfield 84, 3) := by decide +kernel
theorem dX7_knowWorst_48 : decode cX7_knowWorst 48 = .ok (.ifCond .eq 18, 3) := by decide +kernel
theorem dX7_knowWorst_51 : decode cX7_knowWorst 51 = .ok (.aload_n 0, 1) := by decide +kernel
theorem dX7_knowWorst_52 : decode cX7_knowWorst 52 = .ok (.getfield 41, 3) := by decide +kernel
theorem dX7_knowWorst_55 : decode cX7_knowWorst 55 = .ok (.aload_n 0, 1) := by decide +kernel
theorem dX7_knowWorst_56 : decode cX7_knowWorst 56 = .ok (.getfield 52, 3) := by decide +kernel
theorem dX7_knowWorst_59 : decode cX7_knowWorst 59 = .ok (.aload_n 0, 1) := by decide +kernel
theorem dX7_knowWorst_60 : decode cX7_knowWorst 60 = .ok (.getfield 58, 3) := by decide +kernel
theorem dX7_knowWorst_63 : decode cX7_knowWorst 63 = .ok (.invokevirtual 243, 3) := by decide +kernel
theorem dX7_knowWorst_66 : decode cX7_knowWorst 66 = .ok (.aload_n 0, 1) := by decide +kernel
theorem dX7_knowWorst_67 : decode cX7_knowWorst 67 = .ok (.iconst 1, 1) := by decide +kernel
theorem dX7_knowWorst_68 : decode cX7_knowWorst 68 = .ok (.putfield 80, 3) := by decide +kernel
theorem dX7_knowWorst_71 : decode cX7_knowWorst 71 = .ok (.aload_n 0, 1) := by decide +kernel
theorem dX7_knowWorst_72 : decode cX7_knowWorst 72 = .ok (.getfield 84, 3) := by decide +kernel
theorem dX7_knowWorst_75 : decode cX7_knowWorst 75 = .ok (.ireturn, 1) := by decide +kernel
set_option maxRecDepth 20000 in
theorem ggX7_standsRisen_X4_copy : GoodIn wsX7_standsRisen wsX4_copy := goodIn_r _ [8, 9, 10, 11, 12, 13, 14, 15, 16, 17, 18, 19, 20, 21, 22, 23, 24, 25, 26, 135, 136, 137, 138, 139, 140, 141, 142, 143, 144, 145] rfl (by decide +kernel)
set_option maxRecDepth 20000 in
theorem gX7_standsRisen_X4_copy : GoodIn wsX7_standsRisen (wsV RX7 247 RX4 yX4_copy wsX4_copy) := goodIn_app (goodIn_of _ (by decide +kernel)) ggX7_standsRisen_X4_copy
set_option maxRecDepth 20000 in
theorem ggX7_standsRisen_X4_raiseWater : GoodIn wsX7_standsRisen wsX4_raiseWater := goodIn_r _ [30, 9, 10, 31, 32, 33, 34, 35, 36, 37, 38, 14, 39, 17, 18, 19, 26, 135, 136, 137, 138, 139, 140, 141, 142, 143, 144, 145] rfl (by decide +kernel)
set_option maxRecDepth 20000 in
theorem gX7_standsRisen_X4_raiseWater : GoodIn wsX7_standsRisen (wsV RX7 250 RX4 yX4_raiseWater wsX4_raiseWater) := goodIn_app (goodIn_of _ (by decide +kernel)) ggX7_standsRisen_X4_raiseWater
set_option maxRecDepth 20000 in
theorem ggX7_standsRisen_X4_reckon : GoodIn wsX7_standsRisen wsX4_reckon := goodIn_r _ [43, 9, 10, 44, 45, 46, 14, 47, 26, 20, 16, 18, 48, 49, 50, 25, 51, 52, 53, 54, 55, 17, 56, 57, 34, 58, 59, 60, 19, 135, 136, 137, 138, 139, 140, 141, 142, 143, 144, 145, 146, 147, 148, 149, 150] rfl (by decide +kernel)
set_option maxRecDepth 20000 in
theorem gX7_standsRisen_X4_reckon : GoodIn wsX7_standsRisen (wsV RX7 205 RX4 yX4_reckon wsX4_reckon) := goodIn_app (goodIn_of _ (by decide +kernel)) ggX7_standsRisen_X4_reckon
set_option maxRecDepth 20000 in
theorem ggX7_standsRisen_X6_study : GoodIn wsX7_standsRisen wsX6_study := goodIn_r _ [65, 66, 151, 152, 153, 154, 155, 156, 157] rfl (by decide +kernel)
set_option maxRecDepth 20000 in
theorem gX7_standsRisen_X6_study : GoodIn wsX7_standsRisen (wsV RX7 236 RX6 yX6_study wsX6_study) := goodIn_app (goodIn_of _ (by decide +kernel)) ggX7_standsRisen_X6_study
set_option maxRecDepth 20000 in
theorem ggX7_standsRisen_X6_stands : GoodIn wsX7_standsRisen wsX6_stands := goodIn_r _ [70, 66, 71, 72, 73, 74, 75, 64, 76, 77, 78, 79, 80, 81, 82, 83, 84, 85, 86, 87, 88, 89, 90, 91, 92, 93, 94, 95, 96, 97, 98, 34, 99, 100, 101, 102, 103, 104, 105, 106, 14, 107, 16, 25, 108, 109, 110, 111, 20, 112, 113, 114, 115, 116, 117, 118, 119, 151, 152, 153, 154, 155, 156, 157, 135, 136, 137, 138, 139, 140, 141, 142, 143, 144, 145] rfl (by decide +kernel)
set_option maxRecDepth 20000 in
theorem gX7_standsRisen_X6_stands : GoodIn wsX7_standsRisen (wsV RX7 253 RX6 yX6_stands wsX6_stands) := goodIn_app (goodIn_of _ (by decide +kernel)) ggX7_standsRisen_X6_stands
theorem dX7_standsRisen_0 : decode cX7_standsRisen 0 = .ok (.aload_n 0, 1) := by decide +kernel
theorem dX7_standsRisen_1 : decode cX7_standsRisen 1 = .ok (.getfield 28, 3) := by decide +kernel
theorem dX7_standsRisen_4 : decode cX7_standsRisen 4 = .ok (.aload_n 0, 1) := by decide +kernel
theorem dX7_standsRisen_5 : decode cX7_standsRisen 5 = .ok (.getfield 21, 3) := by decide +kernel
theorem dX7_standsRisen_8 : decode cX7_standsRisen 8 = .ok (.invokevirtual 247, 3) := by decide +kernel
theorem dX7_standsRisen_11 : decode cX7_standsRisen 11 = .ok (.aload_n 0, 1) := by decide +kernel
theorem dX7_standsRisen_12 : decode cX7_standsRisen 12 = .ok (.getfield 28, 3) := by decide +kernel
theorem dX7_standsRisen_15 : decode cX7_standsRisen 15 = .ok (.iload_n 1, 1) := by decide +kernel
theorem dX7_standsRisen_16 : decode cX7_standsRisen 16 = .ok (.invokevirtual 250, 3) := by decide +kernel
theorem dX7_standsRisen_19 : decode cX7_standsRisen 19 = .ok (.aload_n 0, 1) := by decide +kernel
theorem dX7_standsRisen_20 : decode cX7_standsRisen 20 = .ok (.getfield 28, 3) := by decide +kernel
theorem dX7_standsRisen_23 : decode cX7_standsRisen 23 = .ok (.invokevirtual 205, 3) := by decide +kernel
theorem dX7_standsRisen_26 : decode cX7_standsRisen 26 = .ok (.aload_n 0, 1) := by decide +kernel
theorem dX7_standsRisen_27 : decode cX7_standsRisen 27 = .ok (.getfield 41, 3) := by decide +kernel
theorem dX7_standsRisen_30 : decode cX7_standsRisen 30 = .ok (.aload_n 0, 1) := by decide +kernel
theorem dX7_standsRisen_31 : decode cX7_standsRisen 31 = .ok (.getfield 28, 3) := by decide +kernel
theorem dX7_standsRisen_34 : decode cX7_standsRisen 34 = .ok (.invokevirtual 236, 3) := by decide +kernel
theorem dX7_standsRisen_37 : decode cX7_standsRisen 37 = .ok (.aload_n 0, 1) := by decide +kernel
theorem dX7_standsRisen_38 : decode cX7_standsRisen 38 = .ok (.getfield 41, 3) := by decide +kernel
theorem dX7_standsRisen_41 : decode cX7_standsRisen 41 = .ok (.iload_n 2, 1) := by decide +kernel
theorem dX7_standsRisen_42 : decode cX7_standsRisen 42 = .ok (.i2l, 1) := by decide +kernel
theorem dX7_standsRisen_43 : decode cX7_standsRisen 43 = .ok (.iload_n 3, 1) := by decide +kernel
theorem dX7_standsRisen_44 : decode cX7_standsRisen 44 = .ok (.i2l, 1) := by decide +kernel
theorem dX7_standsRisen_45 : decode cX7_standsRisen 45 = .ok (.invokevirtual 253, 3) := by decide +kernel
theorem dX7_standsRisen_48 : decode cX7_standsRisen 48 = .ok (.ireturn, 1) := by decide +kernel
set_option maxRecDepth 20000 in
theorem ggX7_standsBehind_X4_copy : GoodIn wsX7_standsBehind wsX4_copy := goodIn_r _ [10, 11, 12, 13, 14, 15, 16, 17, 18, 19, 20, 21, 22, 23, 24, 25, 26, 27, 28, 165, 166, 167, 168, 169, 170, 171, 172, 173, 174, 175] rfl (by decide +kernel)
set_option maxRecDepth 20000 in
theorem gX7_standsBehind_X4_copy : GoodIn wsX7_standsBehind (wsV RX7 247 RX4 yX4_copy wsX4_copy) := goodIn_app (goodIn_of _ (by decide +kernel)) ggX7_standsBehind_X4_copy
set_option maxRecDepth 20000 in
theorem ggX7_standsBehind_X0_doOn : GoodIn wsX7_standsBehind wsX0_doOn := goodIn_r _ [33, 34, 35, 36, 37, 38, 39, 40, 41, 42, 43, 44, 45, 46, 47, 32, 48, 49, 50, 51, 52, 53, 54, 55, 9, 56, 11, 57, 58, 59, 16, 60, 18, 61, 28, 62, 63, 64, 65, 19, 20, 21, 161, 162, 163, 164, 165, 166, 167, 168, 169, 170, 171, 172, 173, 174, 175] rfl (by decide +kernel)
set_option maxRecDepth 20000 in
theorem gX7_standsBehind_X0_doOn : GoodIn wsX7_standsBehind (wsV RX7 215 RX0 yX0_doOn wsX0_doOn) := goodIn_app (goodIn_of _ (by decide +kernel)) ggX7_standsBehind_X0_doOn
set_option maxRecDepth 20000 in
theorem ggX7_standsBehind_X4_reckon : GoodIn wsX7_standsBehind wsX4_reckon := goodIn_r _ [69, 11, 12, 70, 71, 72, 16, 73, 28, 22, 18, 20, 74, 75, 76, 27, 77, 78, 79, 80, 81, 19, 82, 83, 41, 84, 85, 86, 21, 165, 166, 167, 168, 169, 170, 171, 172, 173, 174, 175, 176, 177, 178, 179, 180] rfl (by decide +kernel)
set_option maxRecDepth 20000 in
theorem gX7_standsBehind_X4_reckon : GoodIn wsX7_standsBehind (wsV RX7 205 RX4 yX4_reckon wsX4_reckon) := goodIn_app (goodIn_of _ (by decide +kernel)) ggX7_standsBehind_X4_reckon
set_option maxRecDepth 20000 in
theorem ggX7_standsBehind_X6_study : GoodIn wsX7_standsBehind wsX6_study := goodIn_r _ [91, 92, 181, 182, 183, 184, 185, 186, 187] rfl (by decide +kernel)
set_option maxRecDepth 20000 in
theorem gX7_standsBehind_X6_study : GoodIn wsX7_standsBehind (wsV RX7 236 RX6 yX6_study wsX6_study) := goodIn_app (goodIn_of _ (by decide +kernel)) ggX7_standsBehind_X6_study
set_option maxRecDepth 20000 in
theorem ggX7_standsBehind_X6_stands : GoodIn wsX7_standsBehind wsX6_stands := goodIn_r _ [96, 92, 97, 98, 99, 100, 101, 90, 102, 103, 104, 105, 106, 107, 108, 109, 110, 111, 112, 113, 114, 115, 116, 117, 118, 119, 120, 121, 122, 123, 124, 41, 125, 126, 127, 128, 129, 130, 131, 132, 16, 133, 18, 27, 134, 135, 136, 137, 22, 138, 139, 140, 141, 142, 143, 144, 145, 181, 182, 183, 184, 185, 186, 187, 165, 166, 167, 168, 169, 170, 171, 172, 173, 174, 175] rfl (by decide +kernel)
set_option maxRecDepth 20000 in
theorem gX7_standsBehind_X6_stands : GoodIn wsX7_standsBehind (wsV RX7 253 RX6 yX6_stands wsX6_stands) := goodIn_app (goodIn_of _ (by decide +kernel)) ggX7_standsBehind_X6_stands
theorem dX7_standsBehind_0 : decode cX7_standsBehind 0 = .ok (.aload_n 0, 1) := by decide +kernel
theorem dX7_standsBehind_1 : decode cX7_standsBehind 1 = .ok (.getfield 28, 3) := by decide +kernel
theorem dX7_standsBehind_4 : decode cX7_standsBehind 4 = .ok (.aload_n 0, 1) := by decide +kernel
theorem dX7_standsBehind_5 : decode cX7_standsBehind 5 = .ok (.getfield 21, 3) := by decide +kernel
theorem dX7_standsBehind_8 : decode cX7_standsBehind 8 = .ok (.invokevirtual 247, 3) := by decide +kernel
theorem dX7_standsBehind_11 : decode cX7_standsBehind 11 = .ok (.iconst 0, 1) := by decide +kernel
theorem dX7_standsBehind_12 : decode cX7_standsBehind 12 = .ok (.istore 4, 2) := by decide +kernel
theorem dX7_standsBehind_14 : decode cX7_standsBehind 14 = .ok (.iload 4, 2) := by decide +kernel
theorem dX7_standsBehind_16 : decode cX7_standsBehind 16 = .ok (.aload_n 0, 1) := by decide +kernel
theorem dX7_standsBehind_17 : decode cX7_standsBehind 17 = .ok (.getfield 34, 3) := by decide +kernel
theorem dX7_standsBehind_20 : decode cX7_standsBehind 20 = .ok (.getfield 91, 3) := by decide +kernel
theorem dX7_standsBehind_23 : decode cX7_standsBehind 23 = .ok (.if_icmp .ge 31, 3) := by decide +kernel
theorem dX7_standsBehind_26 : decode cX7_standsBehind 26 = .ok (.iload_n 1, 1) := by decide +kernel
theorem dX7_standsBehind_27 : decode cX7_standsBehind 27 = .ok (.iconst 1, 1) := by decide +kernel
theorem dX7_standsBehind_28 : decode cX7_standsBehind 28 = .ok (.iload 4, 2) := by decide +kernel
theorem dX7_standsBehind_30 : decode cX7_standsBehind 30 = .ok (.ishl, 1) := by decide +kernel
theorem dX7_standsBehind_31 : decode cX7_standsBehind 31 = .ok (.iand, 1) := by decide +kernel
theorem dX7_standsBehind_32 : decode cX7_standsBehind 32 = .ok (.ifCond .eq 16, 3) := by decide +kernel
theorem dX7_standsBehind_35 : decode cX7_standsBehind 35 = .ok (.aload_n 0, 1) := by decide +kernel
theorem dX7_standsBehind_36 : decode cX7_standsBehind 36 = .ok (.getfield 34, 3) := by decide +kernel
theorem dX7_standsBehind_39 : decode cX7_standsBehind 39 = .ok (.aload_n 0, 1) := by decide +kernel
theorem dX7_standsBehind_40 : decode cX7_standsBehind 40 = .ok (.getfield 28, 3) := by decide +kernel
theorem dX7_standsBehind_43 : decode cX7_standsBehind 43 = .ok (.iload 4, 2) := by decide +kernel
theorem dX7_standsBehind_45 : decode cX7_standsBehind 45 = .ok (.invokevirtual 215, 3) := by decide +kernel
theorem dX7_standsBehind_48 : decode cX7_standsBehind 48 = .ok (.iinc 4 1, 3) := by decide +kernel
theorem dX7_standsBehind_51 : decode cX7_standsBehind 51 = .ok (.goto (-37), 3) := by decide +kernel
theorem dX7_standsBehind_54 : decode cX7_standsBehind 54 = .ok (.aload_n 0, 1) := by decide +kernel
theorem dX7_standsBehind_55 : decode cX7_standsBehind 55 = .ok (.getfield 28, 3) := by decide +kernel
theorem dX7_standsBehind_58 : decode cX7_standsBehind 58 = .ok (.invokevirtual 205, 3) := by decide +kernel
theorem dX7_standsBehind_61 : decode cX7_standsBehind 61 = .ok (.aload_n 0, 1) := by decide +kernel
theorem dX7_standsBehind_62 : decode cX7_standsBehind 62 = .ok (.getfield 41, 3) := by decide +kernel
theorem dX7_standsBehind_65 : decode cX7_standsBehind 65 = .ok (.aload_n 0, 1) := by decide +kernel
theorem dX7_standsBehind_66 : decode cX7_standsBehind 66 = .ok (.getfield 28, 3) := by decide +kernel
theorem dX7_standsBehind_69 : decode cX7_standsBehind 69 = .ok (.invokevirtual 236, 3) := by decide +kernel
theorem dX7_standsBehind_72 : decode cX7_standsBehind 72 = .ok (.aload_n 0, 1) := by decide +kernel
theorem dX7_standsBehind_73 : decode cX7_standsBehind 73 = .ok (.getfield 41, 3) := by decide +kernel
theorem dX7_standsBehind_76 : decode cX7_standsBehind 76 = .ok (.iload_n 2, 1) := by decide +kernel
theorem dX7_standsBehind_77 : decode cX7_standsBehind 77 = .ok (.i2l, 1) := by decide +kernel
theorem dX7_standsBehind_78 : decode cX7_standsBehind 78 = .ok (.iload_n 3, 1) := by decide +kernel
theorem dX7_standsBehind_79 : decode cX7_standsBehind 79 = .ok (.i2l, 1) := by decide +kernel
theorem dX7_standsBehind_80 : decode cX7_standsBehind 80 = .ok (.invokevirtual 253, 3) := by decide +kernel
theorem dX7_standsBehind_83 : decode cX7_standsBehind 83 = .ok (.ireturn, 1) := by decide +kernel
set_option maxRecDepth 20000 in
theorem ggX7_leadsOn_X7_standsBehind : GoodIn wsX7_leadsOn wsX7_standsBehind := goodIn_r _ [9, 10, 11, 1, 2, 12, 13, 14, 15, 16, 17, 18, 19, 20, 21, 22, 23, 24, 25, 26, 27, 28, 29, 30, 31, 32, 33, 34, 35, 36, 37, 38, 39, 40, 41, 42, 43, 44, 45, 46, 47, 48, 49, 50, 51, 52, 53, 54, 55, 56, 57, 8, 58, 59, 60, 61, 62, 63, 64, 65, 66, 67, 68, 69, 70, 71, 72, 73, 74, 75, 76, 77, 78, 79, 80, 81, 82, 83, 84, 85, 86, 87, 88, 89, 90, 91, 92, 93, 94, 95, 96, 97, 98, 99, 100, 101, 102, 103, 104, 105, 106, 107, 108, 109, 110, 111, 112, 113, 114, 115, 116, 117, 118, 119, 120, 121, 122, 123, 124, 125, 126, 127, 128, 129, 130, 131, 132, 133, 134, 135, 136, 137, 138, 139, 140, 141, 142, 143, 144, 145, 146, 147, 148, 149, 150, 151, 155, 156, 157, 158, 159, 160, 161, 162, 163, 164, 165, 166, 167, 168, 169, 170, 171, 172, 173, 174, 175, 176, 177, 178, 179, 180, 181, 182, 183, 184, 185, 186, 187, 188, 189, 190, 191, 192, 193, 194, 195, 196] rfl (by decide +kernel)
set_option maxRecDepth 20000 in
theorem gX7_leadsOn_X7_standsBehind : GoodIn wsX7_leadsOn (wsV RX7 219 RX7 yX7_standsBehind wsX7_standsBehind) := goodIn_app (goodIn_of _ (by decide +kernel)) ggX7_leadsOn_X7_standsBehind
set_option maxRecDepth 20000 in
theorem ggX7_leadsOn_X7_leadsOn : GoodIn wsX7_leadsOn wsX7_leadsOn := goodIn_r _ [0, 1, 2, 3, 4, 5, 6, 7, 8, 9, 10, 11, 12, 13, 14, 15, 16, 17, 18, 19, 20, 21, 22, 23, 24, 25, 26, 27, 28, 29, 30, 31, 32, 33, 34, 35, 36, 37, 38, 39, 40, 41, 42, 43, 44, 45, 46, 47, 48, 49, 50, 51, 52, 53, 54, 55, 56, 57, 58, 59, 60, 61, 62, 63, 64, 65, 66, 67, 68, 69, 70, 71, 72, 73, 74, 75, 76, 77, 78, 79, 80, 81, 82, 83, 84, 85, 86, 87, 88, 89, 90, 91, 92, 93, 94, 95, 96, 97, 98, 99, 100, 101, 102, 103, 104, 105, 106, 107, 108, 109, 110, 111, 112, 113, 114, 115, 116, 117, 118, 119, 120, 121, 122, 123, 124, 125, 126, 127, 128, 129, 130, 131, 132, 133, 134, 135, 136, 137, 138, 139, 140, 141, 142, 143, 144, 145, 146, 147, 148, 149, 150, 151, 152, 153, 154, 155, 156, 157, 158, 159, 160, 161, 162, 163, 164, 165, 166, 167, 168, 169, 170, 171, 172, 173, 174, 175, 176, 177, 178, 179, 180, 181, 182, 183, 184, 185, 186, 187, 188, 189, 190, 191, 192, 193, 194, 195, 196] rfl (by decide +kernel)
set_option maxRecDepth 20000 in
theorem gX7_leadsOn_X7_leadsOn : GoodIn wsX7_leadsOn (wsV RX7 222 RX7 yX7_leadsOn wsX7_leadsOn) := goodIn_app (goodIn_of _ (by decide +kernel)) ggX7_leadsOn_X7_leadsOn
theorem dX7_leadsOn_0 : decode cX7_leadsOn 0 = .ok (.iload_n 2, 1) := by decide +kernel
theorem dX7_leadsOn_1 : decode cX7_leadsOn 1 = .ok (.aload_n 0, 1) := by decide +kernel
theorem dX7_leadsOn_2 : decode cX7_leadsOn 2 = .ok (.getfield 34, 3) := by decide +kernel
theorem dX7_leadsOn_5 : decode cX7_leadsOn 5 = .ok (.getfield 91, 3) := by decide +kernel
theorem dX7_leadsOn_8 : decode cX7_leadsOn 8 = .ok (.if_icmp .lt 5, 3) := by decide +kernel
theorem dX7_leadsOn_11 : decode cX7_leadsOn 11 = .ok (.iconst 1, 1) := by decide +kernel
theorem dX7_leadsOn_12 : decode cX7_leadsOn 12 = .ok (.ireturn, 1) := by decide +kernel
theorem dX7_leadsOn_13 : decode cX7_leadsOn 13 = .ok (.iconst 0, 1) := by decide +kernel
theorem dX7_leadsOn_14 : decode cX7_leadsOn 14 = .ok (.istore 5, 2) := by decide +kernel
theorem dX7_leadsOn_16 : decode cX7_leadsOn 16 = .ok (.iload 5, 2) := by decide +kernel
theorem dX7_leadsOn_18 : decode cX7_leadsOn 18 = .ok (.aload_n 0, 1) := by decide +kernel
theorem dX7_leadsOn_19 : decode cX7_leadsOn 19 = .ok (.getfield 34, 3) := by decide +kernel
theorem dX7_leadsOn_22 : decode cX7_leadsOn 22 = .ok (.getfield 91, 3) := by decide +kernel
theorem dX7_leadsOn_25 : decode cX7_leadsOn 25 = .ok (.if_icmp .ge 103, 3) := by decide +kernel
theorem dX7_leadsOn_28 : decode cX7_leadsOn 28 = .ok (.iload_n 1, 1) := by decide +kernel
theorem dX7_leadsOn_29 : decode cX7_leadsOn 29 = .ok (.iconst 1, 1) := by decide +kernel
theorem dX7_leadsOn_30 : decode cX7_leadsOn 30 = .ok (.iload 5, 2) := by decide +kernel
theorem dX7_leadsOn_32 : decode cX7_leadsOn 32 = .ok (.ishl, 1) := by decide +kernel
theorem dX7_leadsOn_33 : decode cX7_leadsOn 33 = .ok (.ior, 1) := by decide +kernel
theorem dX7_leadsOn_34 : decode cX7_leadsOn 34 = .ok (.istore 6, 2) := by decide +kernel
theorem dX7_leadsOn_36 : decode cX7_leadsOn 36 = .ok (.iload 6, 2) := by decide +kernel
theorem dX7_leadsOn_38 : decode cX7_leadsOn 38 = .ok (.iload_n 1, 1) := by decide +kernel
theorem dX7_leadsOn_39 : decode cX7_leadsOn 39 = .ok (.if_icmp .eq 83, 3) := by decide +kernel
theorem dX7_leadsOn_42 : decode cX7_leadsOn 42 = .ok (.aload_n 0, 1) := by decide +kernel
theorem dX7_leadsOn_43 : decode cX7_leadsOn 43 = .ok (.getfield 65, 3) := by decide +kernel
theorem dX7_leadsOn_46 : decode cX7_leadsOn 46 = .ok (.iload 6, 2) := by decide +kernel
theorem dX7_leadsOn_48 : decode cX7_leadsOn 48 = .ok (.baload, 1) := by decide +kernel
theorem dX7_leadsOn_49 : decode cX7_leadsOn 49 = .ok (.ifCond .ne 73, 3) := by decide +kernel
theorem dX7_leadsOn_52 : decode cX7_leadsOn 52 = .ok (.aload_n 0, 1) := by decide +kernel
theorem dX7_leadsOn_53 : decode cX7_leadsOn 53 = .ok (.getfield 69, 3) := by decide +kernel
theorem dX7_leadsOn_56 : decode cX7_leadsOn 56 = .ok (.iload_n 2, 1) := by decide +kernel
theorem dX7_leadsOn_57 : decode cX7_leadsOn 57 = .ok (.iload 5, 2) := by decide +kernel
theorem dX7_leadsOn_59 : decode cX7_leadsOn 59 = .ok (.iastore, 1) := by decide +kernel
theorem dX7_leadsOn_60 : decode cX7_leadsOn 60 = .ok (.iload_n 2, 1) := by decide +kernel
theorem dX7_leadsOn_61 : decode cX7_leadsOn 61 = .ok (.iconst 1, 1) := by decide +kernel
theorem dX7_leadsOn_62 : decode cX7_leadsOn 62 = .ok (.iadd, 1) := by decide +kernel
theorem dX7_leadsOn_63 : decode cX7_leadsOn 63 = .ok (.aload_n 0, 1) := by decide +kernel
theorem dX7_leadsOn_64 : decode cX7_leadsOn 64 = .ok (.getfield 34, 3) := by decide +kernel
theorem dX7_leadsOn_67 : decode cX7_leadsOn 67 = .ok (.getfield 91, 3) := by decide +kernel
theorem dX7_leadsOn_70 : decode cX7_leadsOn 70 = .ok (.if_icmp .ne 7, 3) := by decide +kernel
theorem dX7_leadsOn_73 : decode cX7_leadsOn 73 = .ok (.iconst 1, 1) := by decide +kernel
theorem dX7_leadsOn_74 : decode cX7_leadsOn 74 = .ok (.goto 4, 3) := by decide +kernel
theorem dX7_leadsOn_77 : decode cX7_leadsOn 77 = .ok (.iconst 0, 1) := by decide +kernel
theorem dX7_leadsOn_78 : decode cX7_leadsOn 78 = .ok (.istore 7, 2) := by decide +kernel
theorem dX7_leadsOn_80 : decode cX7_leadsOn 80 = .ok (.iload 7, 2) := by decide +kernel
theorem dX7_leadsOn_82 : decode cX7_leadsOn 82 = .ok (.ifCond .ne 30, 3) := by decide +kernel
theorem dX7_leadsOn_85 : decode cX7_leadsOn 85 = .ok (.aload_n 0, 1) := by decide +kernel
theorem dX7_leadsOn_86 : decode cX7_leadsOn 86 = .ok (.iload 6, 2) := by decide +kernel
theorem dX7_leadsOn_88 : decode cX7_leadsOn 88 = .ok (.iload_n 3, 1) := by decide +kernel
theorem dX7_leadsOn_89 : decode cX7_leadsOn 89 = .ok (.iload 4, 2) := by decide +kernel
theorem dX7_leadsOn_91 : decode cX7_leadsOn 91 = .ok (.invokevirtual 219, 3) := by decide +kernel
theorem dX7_leadsOn_94 : decode cX7_leadsOn 94 = .ok (.ifCond .eq 20, 3) := by decide +kernel
theorem dX7_leadsOn_97 : decode cX7_leadsOn 97 = .ok (.aload_n 0, 1) := by decide +kernel
theorem dX7_leadsOn_98 : decode cX7_leadsOn 98 = .ok (.iload 6, 2) := by decide +kernel
theorem dX7_leadsOn_100 : decode cX7_leadsOn 100 = .ok (.iload_n 2, 1) := by decide +kernel
theorem dX7_leadsOn_101 : decode cX7_leadsOn 101 = .ok (.iconst 1, 1) := by decide +kernel
theorem dX7_leadsOn_102 : decode cX7_leadsOn 102 = .ok (.iadd, 1) := by decide +kernel
theorem dX7_leadsOn_103 : decode cX7_leadsOn 103 = .ok (.iload_n 3, 1) := by decide +kernel
theorem dX7_leadsOn_104 : decode cX7_leadsOn 104 = .ok (.iload 4, 2) := by decide +kernel
theorem dX7_leadsOn_106 : decode cX7_leadsOn 106 = .ok (.invokevirtual 222, 3) := by decide +kernel
theorem dX7_leadsOn_109 : decode cX7_leadsOn 109 = .ok (.ifCond .eq 5, 3) := by decide +kernel
theorem dX7_leadsOn_112 : decode cX7_leadsOn 112 = .ok (.iconst 1, 1) := by decide +kernel
theorem dX7_leadsOn_113 : decode cX7_leadsOn 113 = .ok (.ireturn, 1) := by decide +kernel
theorem dX7_leadsOn_114 : decode cX7_leadsOn 114 = .ok (.aload_n 0, 1) := by decide +kernel
theorem dX7_leadsOn_115 : decode cX7_leadsOn 115 = .ok (.getfield 65, 3) := by decide +kernel
theorem dX7_leadsOn_118 : decode cX7_leadsOn 118 = .ok (.iload 6, 2) := by decide +kernel
theorem dX7_leadsOn_120 : decode cX7_leadsOn 120 = .ok (.iconst 1, 1) := by decide +kernel
theorem dX7_leadsOn_121 : decode cX7_leadsOn 121 = .ok (.bastore, 1) := by decide +kernel
theorem dX7_leadsOn_122 : decode cX7_leadsOn 122 = .ok (.iinc 5 1, 3) := by decide +kernel
theorem dX7_leadsOn_125 : decode cX7_leadsOn 125 = .ok (.goto (-109), 3) := by decide +kernel
theorem dX7_leadsOn_128 : decode cX7_leadsOn 128 = .ok (.iconst 0, 1) := by decide +kernel
theorem dX7_leadsOn_129 : decode cX7_leadsOn 129 = .ok (.ireturn, 1) := by decide +kernel
