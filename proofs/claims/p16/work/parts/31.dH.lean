set_option maxRecDepth 20000 in
theorem ggX8_worst_X8_findWorst : GoodIn wsX8_worst wsX8_findWorst := goodIn_r _ [13, 14, 15, 16, 4, 17, 5, 6, 18, 19, 20, 12, 21, 22, 23, 24, 3, 25, 26, 27, 28, 29, 30, 31, 32, 33, 34, 35, 36, 37, 38, 39, 40, 41, 42, 43, 44, 45, 46, 47, 48, 49, 50, 51, 52, 53, 54, 55, 56, 57, 63, 64, 65, 66, 67, 68, 69, 70, 71, 72, 73, 74, 75, 76, 77, 78, 79, 80, 81, 82, 83, 84, 85, 86, 87, 88, 89, 90, 91, 92, 93, 94, 95, 96, 97] rfl (by decide +kernel)
set_option maxRecDepth 20000 in
theorem gX8_worst_X8_findWorst : GoodIn wsX8_worst (wsV RX8 162 RX8 yX8_findWorst wsX8_findWorst) := goodIn_app (goodIn_of _ (by decide +kernel)) ggX8_worst_X8_findWorst
theorem dX8_worst_0 : decode cX8_worst 0 = .ok (.aload_n 0, 1) := by decide +kernel
theorem dX8_worst_1 : decode cX8_worst 1 = .ok (.iconst 0, 1) := by decide +kernel
theorem dX8_worst_2 : decode cX8_worst 2 = .ok (.putfield 76, 3) := by decide +kernel
theorem dX8_worst_5 : decode cX8_worst 5 = .ok (.iload_n 1, 1) := by decide +kernel
theorem dX8_worst_6 : decode cX8_worst 6 = .ok (.ifCond .lt 8, 3) := by decide +kernel
theorem dX8_worst_9 : decode cX8_worst 9 = .ok (.iload_n 1, 1) := by decide +kernel
theorem dX8_worst_10 : decode cX8_worst 10 = .ok (.iconst 4, 1) := by decide +kernel
theorem dX8_worst_11 : decode cX8_worst 11 = .ok (.if_icmp .le 7, 3) := by decide +kernel
theorem dX8_worst_14 : decode cX8_worst 14 = .ok (.ldc2_w 160, 3) := by decide +kernel
theorem dX8_worst_17 : decode cX8_worst 17 = .ok (.lreturn, 1) := by decide +kernel
theorem dX8_worst_18 : decode cX8_worst 18 = .ok (.aload_n 0, 1) := by decide +kernel
theorem dX8_worst_19 : decode cX8_worst 19 = .ok (.iconst 0, 1) := by decide +kernel
theorem dX8_worst_20 : decode cX8_worst 20 = .ok (.putfield 96, 3) := by decide +kernel
theorem dX8_worst_23 : decode cX8_worst 23 = .ok (.aload_n 0, 1) := by decide +kernel
theorem dX8_worst_24 : decode cX8_worst 24 = .ok (.invokevirtual 162, 3) := by decide +kernel
theorem dX8_worst_27 : decode cX8_worst 27 = .ok (.aload_n 0, 1) := by decide +kernel
theorem dX8_worst_28 : decode cX8_worst 28 = .ok (.getfield 144, 3) := by decide +kernel
theorem dX8_worst_31 : decode cX8_worst 31 = .ok (.ifCond .ne 7, 3) := by decide +kernel
theorem dX8_worst_34 : decode cX8_worst 34 = .ok (.ldc2_w 160, 3) := by decide +kernel
theorem dX8_worst_37 : decode cX8_worst 37 = .ok (.lreturn, 1) := by decide +kernel
theorem dX8_worst_38 : decode cX8_worst 38 = .ok (.iload_n 1, 1) := by decide +kernel
theorem dX8_worst_39 : decode cX8_worst 39 = .ok (.ifCond .ne 8, 3) := by decide +kernel
theorem dX8_worst_42 : decode cX8_worst 42 = .ok (.aload_n 0, 1) := by decide +kernel
theorem dX8_worst_43 : decode cX8_worst 43 = .ok (.getfield 148, 3) := by decide +kernel
theorem dX8_worst_46 : decode cX8_worst 46 = .ok (.lreturn, 1) := by decide +kernel
theorem dX8_worst_47 : decode cX8_worst 47 = .ok (.iload_n 1, 1) := by decide +kernel
theorem dX8_worst_48 : decode cX8_worst 48 = .ok (.iconst 1, 1) := by decide +kernel
theorem dX8_worst_49 : decode cX8_worst 49 = .ok (.if_icmp .ne 8, 3) := by decide +kernel
theorem dX8_worst_52 : decode cX8_worst 52 = .ok (.aload_n 0, 1) := by decide +kernel
theorem dX8_worst_53 : decode cX8_worst 53 = .ok (.getfield 151, 3) := by decide +kernel
theorem dX8_worst_56 : decode cX8_worst 56 = .ok (.lreturn, 1) := by decide +kernel
theorem dX8_worst_57 : decode cX8_worst 57 = .ok (.aload_n 0, 1) := by decide +kernel
theorem dX8_worst_58 : decode cX8_worst 58 = .ok (.invokevirtual 165, 3) := by decide +kernel
theorem dX8_worst_61 : decode cX8_worst 61 = .ok (.iload_n 1, 1) := by decide +kernel
theorem dX8_worst_62 : decode cX8_worst 62 = .ok (.iconst 2, 1) := by decide +kernel
theorem dX8_worst_63 : decode cX8_worst 63 = .ok (.if_icmp .ne 11, 3) := by decide +kernel
theorem dX8_worst_66 : decode cX8_worst 66 = .ok (.aload_n 0, 1) := by decide +kernel
theorem dX8_worst_67 : decode cX8_worst 67 = .ok (.getfield 154, 3) := by decide +kernel
theorem dX8_worst_70 : decode cX8_worst 70 = .ok (.i2l, 1) := by decide +kernel
theorem dX8_worst_71 : decode cX8_worst 71 = .ok (.goto 28, 3) := by decide +kernel
theorem dX8_worst_74 : decode cX8_worst 74 = .ok (.iload_n 1, 1) := by decide +kernel
theorem dX8_worst_75 : decode cX8_worst 75 = .ok (.iconst 3, 1) := by decide +kernel
theorem dX8_worst_76 : decode cX8_worst 76 = .ok (.if_icmp .ne 11, 3) := by decide +kernel
theorem dX8_worst_79 : decode cX8_worst 79 = .ok (.aload_n 0, 1) := by decide +kernel
theorem dX8_worst_80 : decode cX8_worst 80 = .ok (.getfield 157, 3) := by decide +kernel
theorem dX8_worst_83 : decode cX8_worst 83 = .ok (.i2l, 1) := by decide +kernel
theorem dX8_worst_84 : decode cX8_worst 84 = .ok (.goto 15, 3) := by decide +kernel
theorem dX8_worst_87 : decode cX8_worst 87 = .ok (.aload_n 0, 1) := by decide +kernel
theorem dX8_worst_88 : decode cX8_worst 88 = .ok (.getfield 157, 3) := by decide +kernel
theorem dX8_worst_91 : decode cX8_worst 91 = .ok (.aload_n 0, 1) := by decide +kernel
theorem dX8_worst_92 : decode cX8_worst 92 = .ok (.getfield 154, 3) := by decide +kernel
theorem dX8_worst_95 : decode cX8_worst 95 = .ok (.isub, 1) := by decide +kernel
theorem dX8_worst_96 : decode cX8_worst 96 = .ok (.iconst 1, 1) := by decide +kernel
theorem dX8_worst_97 : decode cX8_worst 97 = .ok (.iadd, 1) := by decide +kernel
theorem dX8_worst_98 : decode cX8_worst 98 = .ok (.i2l, 1) := by decide +kernel
theorem dX8_worst_99 : decode cX8_worst 99 = .ok (.lreturn, 1) := by decide +kernel
set_option maxRecDepth 20000 in
theorem ggX8_height_X8_findWorst : GoodIn wsX8_height wsX8_findWorst := goodIn_r _ [11, 12, 13, 14, 3, 15, 16, 17, 18, 19, 20, 10, 21, 22, 23, 24, 2, 25, 26, 27, 28, 29, 30, 31, 32, 33, 34, 35, 36, 37, 38, 39, 40, 41, 42, 43, 44, 45, 46, 47, 48, 49, 50, 51, 52, 53, 54, 55, 56, 57, 62, 63, 64, 65, 66, 67, 68, 69, 70, 71, 72, 73, 74, 75, 76, 77, 78, 79, 80, 81, 82, 83, 84, 85, 86, 87, 88, 89, 90, 91, 92, 93, 94, 95, 96] rfl (by decide +kernel)
set_option maxRecDepth 20000 in
theorem gX8_height_X8_findWorst : GoodIn wsX8_height (wsV RX8 162 RX8 yX8_findWorst wsX8_findWorst) := goodIn_app (goodIn_of _ (by decide +kernel)) ggX8_height_X8_findWorst
theorem dX8_height_0 : decode cX8_height 0 = .ok (.aload_n 0, 1) := by decide +kernel
theorem dX8_height_1 : decode cX8_height 1 = .ok (.iconst 0, 1) := by decide +kernel
theorem dX8_height_2 : decode cX8_height 2 = .ok (.putfield 76, 3) := by decide +kernel
theorem dX8_height_5 : decode cX8_height 5 = .ok (.aload_n 0, 1) := by decide +kernel
theorem dX8_height_6 : decode cX8_height 6 = .ok (.iconst 0, 1) := by decide +kernel
theorem dX8_height_7 : decode cX8_height 7 = .ok (.putfield 96, 3) := by decide +kernel
theorem dX8_height_10 : decode cX8_height 10 = .ok (.aload_n 0, 1) := by decide +kernel
theorem dX8_height_11 : decode cX8_height 11 = .ok (.invokevirtual 162, 3) := by decide +kernel
theorem dX8_height_14 : decode cX8_height 14 = .ok (.aload_n 0, 1) := by decide +kernel
theorem dX8_height_15 : decode cX8_height 15 = .ok (.getfield 144, 3) := by decide +kernel
theorem dX8_height_18 : decode cX8_height 18 = .ok (.ifCond .eq 7, 3) := by decide +kernel
theorem dX8_height_21 : decode cX8_height 21 = .ok (.iload_n 1, 1) := by decide +kernel
theorem dX8_height_22 : decode cX8_height 22 = .ok (.ifCond .ge 5, 3) := by decide +kernel
theorem dX8_height_25 : decode cX8_height 25 = .ok (.iconst (-1), 1) := by decide +kernel
theorem dX8_height_26 : decode cX8_height 26 = .ok (.ireturn, 1) := by decide +kernel
theorem dX8_height_27 : decode cX8_height 27 = .ok (.aload_n 0, 1) := by decide +kernel
theorem dX8_height_28 : decode cX8_height 28 = .ok (.invokevirtual 165, 3) := by decide +kernel
theorem dX8_height_31 : decode cX8_height 31 = .ok (.iload_n 1, 1) := by decide +kernel
theorem dX8_height_32 : decode cX8_height 32 = .ok (.aload_n 0, 1) := by decide +kernel
theorem dX8_height_33 : decode cX8_height 33 = .ok (.getfield 157, 3) := by decide +kernel
theorem dX8_height_36 : decode cX8_height 36 = .ok (.aload_n 0, 1) := by decide +kernel
theorem dX8_height_37 : decode cX8_height 37 = .ok (.getfield 154, 3) := by decide +kernel
theorem dX8_height_40 : decode cX8_height 40 = .ok (.isub, 1) := by decide +kernel
theorem dX8_height_41 : decode cX8_height 41 = .ok (.if_icmp .le 7, 3) := by decide +kernel
theorem dX8_height_44 : decode cX8_height 44 = .ok (.iconst (-1), 1) := by decide +kernel
theorem dX8_height_45 : decode cX8_height 45 = .ok (.goto 9, 3) := by decide +kernel
theorem dX8_height_48 : decode cX8_height 48 = .ok (.aload_n 0, 1) := by decide +kernel
theorem dX8_height_49 : decode cX8_height 49 = .ok (.getfield 67, 3) := by decide +kernel
theorem dX8_height_52 : decode cX8_height 52 = .ok (.iload_n 1, 1) := by decide +kernel
theorem dX8_height_53 : decode cX8_height 53 = .ok (.iaload, 1) := by decide +kernel
theorem dX8_height_54 : decode cX8_height 54 = .ok (.ireturn, 1) := by decide +kernel
set_option maxRecDepth 20000 in
theorem ggX8_holdsOut_X8_walk : GoodIn wsX8_holdsOut wsX8_walk := goodIn_r _ [6, 7, 1, 8, 9, 10, 11, 12, 13, 14, 15, 16, 17, 5, 18, 19, 20, 21, 22, 23, 24, 25, 26, 27, 28, 29, 30, 31, 32, 33, 34, 35, 36, 37, 38, 39, 40, 41, 42, 43, 44, 45, 46, 47, 48, 49, 50, 51, 52, 53, 54, 55, 56, 57, 58, 59, 60, 61, 62, 63, 64, 65, 66, 67, 68, 69, 70, 71, 72, 73, 74, 75, 76, 77, 78] rfl (by decide +kernel)
set_option maxRecDepth 20000 in
theorem gX8_holdsOut_X8_walk : GoodIn wsX8_holdsOut (wsV RX8 140 RX8 yX8_walk wsX8_walk) := goodIn_app (goodIn_of _ (by decide +kernel)) ggX8_holdsOut_X8_walk
theorem dX8_holdsOut_0 : decode cX8_holdsOut 0 = .ok (.aload_n 0, 1) := by decide +kernel
theorem dX8_holdsOut_1 : decode cX8_holdsOut 1 = .ok (.iconst (-1), 1) := by decide +kernel
theorem dX8_holdsOut_2 : decode cX8_holdsOut 2 = .ok (.iload_n 1, 1) := by decide +kernel
theorem dX8_holdsOut_3 : decode cX8_holdsOut 3 = .ok (.i2l, 1) := by decide +kernel
theorem dX8_holdsOut_4 : decode cX8_holdsOut 4 = .ok (.iload_n 2, 1) := by decide +kernel
theorem dX8_holdsOut_5 : decode cX8_holdsOut 5 = .ok (.i2l, 1) := by decide +kernel
theorem dX8_holdsOut_6 : decode cX8_holdsOut 6 = .ok (.iconst (-1), 1) := by decide +kernel
theorem dX8_holdsOut_7 : decode cX8_holdsOut 7 = .ok (.invokevirtual 140, 3) := by decide +kernel
theorem dX8_holdsOut_10 : decode cX8_holdsOut 10 = .ok (.aload_n 0, 1) := by decide +kernel
theorem dX8_holdsOut_11 : decode cX8_holdsOut 11 = .ok (.getfield 126, 3) := by decide +kernel
theorem dX8_holdsOut_14 : decode cX8_holdsOut 14 = .ok (.lconst 0, 1) := by decide +kernel
theorem dX8_holdsOut_15 : decode cX8_holdsOut 15 = .ok (.lcmp, 1) := by decide +kernel
theorem dX8_holdsOut_16 : decode cX8_holdsOut 16 = .ok (.ifCond .lt 7, 3) := by decide +kernel
theorem dX8_holdsOut_19 : decode cX8_holdsOut 19 = .ok (.iconst 1, 1) := by decide +kernel
theorem dX8_holdsOut_20 : decode cX8_holdsOut 20 = .ok (.goto 4, 3) := by decide +kernel
theorem dX8_holdsOut_23 : decode cX8_holdsOut 23 = .ok (.iconst 0, 1) := by decide +kernel
theorem dX8_holdsOut_24 : decode cX8_holdsOut 24 = .ok (.ireturn, 1) := by decide +kernel
theorem dX8_areShares_0 : decode cX8_areShares 0 = .ok (.iload_n 0, 1) := by decide +kernel
theorem dX8_areShares_1 : decode cX8_areShares 1 = .ok (.iconst 1, 1) := by decide +kernel
theorem dX8_areShares_2 : decode cX8_areShares 2 = .ok (.if_icmp .lt 26, 3) := by decide +kernel
theorem dX8_areShares_5 : decode cX8_areShares 5 = .ok (.iload_n 0, 1) := by decide +kernel
theorem dX8_areShares_6 : decode cX8_areShares 6 = .ok (.sipush 1000, 3) := by decide +kernel
theorem dX8_areShares_9 : decode cX8_areShares 9 = .ok (.if_icmp .gt 19, 3) := by decide +kernel
theorem dX8_areShares_12 : decode cX8_areShares 12 = .ok (.iload_n 1, 1) := by decide +kernel
theorem dX8_areShares_13 : decode cX8_areShares 13 = .ok (.iconst 1, 1) := by decide +kernel
theorem dX8_areShares_14 : decode cX8_areShares 14 = .ok (.if_icmp .lt 14, 3) := by decide +kernel
theorem dX8_areShares_17 : decode cX8_areShares 17 = .ok (.iload_n 1, 1) := by decide +kernel
theorem dX8_areShares_18 : decode cX8_areShares 18 = .ok (.sipush 1000, 3) := by decide +kernel
theorem dX8_areShares_21 : decode cX8_areShares 21 = .ok (.if_icmp .gt 7, 3) := by decide +kernel
theorem dX8_areShares_24 : decode cX8_areShares 24 = .ok (.iconst 1, 1) := by decide +kernel
theorem dX8_areShares_25 : decode cX8_areShares 25 = .ok (.goto 4, 3) := by decide +kernel
theorem dX8_areShares_28 : decode cX8_areShares 28 = .ok (.iconst 0, 1) := by decide +kernel
theorem dX8_areShares_29 : decode cX8_areShares 29 = .ok (.ireturn, 1) := by decide +kernel
theorem dX8_tries_0 : decode cX8_tries 0 = .ok (.iconst 0, 1) := by decide +kernel
theorem dX8_tries_1 : decode cX8_tries 1 = .ok (.istore_n 1, 1) := by decide +kernel
theorem dX8_tries_2 : decode cX8_tries 2 = .ok (.iload_n 1, 1) := by decide +kernel
theorem dX8_tries_3 : decode cX8_tries 3 = .ok (.bipush 12, 2) := by decide +kernel
theorem dX8_tries_5 : decode cX8_tries 5 = .ok (.if_icmp .ge 69, 3) := by decide +kernel
theorem dX8_tries_8 : decode cX8_tries 8 = .ok (.aload_n 0, 1) := by decide +kernel
theorem dX8_tries_9 : decode cX8_tries 9 = .ok (.getfield 30, 3) := by decide +kernel
theorem dX8_tries_12 : decode cX8_tries 12 = .ok (.bipush 12, 2) := by decide +kernel
theorem dX8_tries_14 : decode cX8_tries 14 = .ok (.iload_n 1, 1) := by decide +kernel
theorem dX8_tries_15 : decode cX8_tries 15 = .ok (.iadd, 1) := by decide +kernel
theorem dX8_tries_16 : decode cX8_tries 16 = .ok (.aload_n 0, 1) := by decide +kernel
theorem dX8_tries_17 : decode cX8_tries 17 = .ok (.getfield 30, 3) := by decide +kernel
theorem dX8_tries_20 : decode cX8_tries 20 = .ok (.iload_n 1, 1) := by decide +kernel
theorem dX8_tries_21 : decode cX8_tries 21 = .ok (.iaload, 1) := by decide +kernel
theorem dX8_tries_22 : decode cX8_tries 22 = .ok (.iastore, 1) := by decide +kernel
theorem dX8_tries_23 : decode cX8_tries 23 = .ok (.aload_n 0, 1) := by decide +kernel
theorem dX8_tries_24 : decode cX8_tries 24 = .ok (.getfield 33, 3) := by decide +kernel
theorem dX8_tries_27 : decode cX8_tries 27 = .ok (.bipush 12, 2) := by decide +kernel
theorem dX8_tries_29 : decode cX8_tries 29 = .ok (.iload_n 1, 1) := by decide +kernel
theorem dX8_tries_30 : decode cX8_tries 30 = .ok (.iadd, 1) := by decide +kernel
theorem dX8_tries_31 : decode cX8_tries 31 = .ok (.aload_n 0, 1) := by decide +kernel
theorem dX8_tries_32 : decode cX8_tries 32 = .ok (.getfield 33, 3) := by decide +kernel
theorem dX8_tries_35 : decode cX8_tries 35 = .ok (.iload_n 1, 1) := by decide +kernel
theorem dX8_tries_36 : decode cX8_tries 36 = .ok (.iaload, 1) := by decide +kernel
theorem dX8_tries_37 : decode cX8_tries 37 = .ok (.iastore, 1) := by decide +kernel
theorem dX8_tries_38 : decode cX8_tries 38 = .ok (.aload_n 0, 1) := by decide +kernel
theorem dX8_tries_39 : decode cX8_tries 39 = .ok (.getfield 36, 3) := by decide +kernel
theorem dX8_tries_42 : decode cX8_tries 42 = .ok (.bipush 12, 2) := by decide +kernel
theorem dX8_tries_44 : decode cX8_tries 44 = .ok (.iload_n 1, 1) := by decide +kernel
theorem dX8_tries_45 : decode cX8_tries 45 = .ok (.iadd, 1) := by decide +kernel
theorem dX8_tries_46 : decode cX8_tries 46 = .ok (.aload_n 0, 1) := by decide +kernel
theorem dX8_tries_47 : decode cX8_tries 47 = .ok (.getfield 36, 3) := by decide +kernel
theorem dX8_tries_50 : decode cX8_tries 50 = .ok (.iload_n 1, 1) := by decide +kernel
theorem dX8_tries_51 : decode cX8_tries 51 = .ok (.iaload, 1) := by decide +kernel
theorem dX8_tries_52 : decode cX8_tries 52 = .ok (.iastore, 1) := by decide +kernel
theorem dX8_tries_53 : decode cX8_tries 53 = .ok (.aload_n 0, 1) := by decide +kernel
theorem dX8_tries_54 : decode cX8_tries 54 = .ok (.getfield 39, 3) := by decide +kernel
theorem dX8_tries_57 : decode cX8_tries 57 = .ok (.bipush 12, 2) := by decide +kernel
theorem dX8_tries_59 : decode cX8_tries 59 = .ok (.iload_n 1, 1) := by decide +kernel
theorem dX8_tries_60 : decode cX8_tries 60 = .ok (.iadd, 1) := by decide +kernel
theorem dX8_tries_61 : decode cX8_tries 61 = .ok (.aload_n 0, 1) := by decide +kernel
theorem dX8_tries_62 : decode cX8_tries 62 = .ok (.getfield 39, 3) := by decide +kernel
theorem dX8_tries_65 : decode cX8_tries 65 = .ok (.iload_n 1, 1) := by decide +kernel
theorem dX8_tries_66 : decode cX8_tries 66 = .ok (.iaload, 1) := by decide +kernel
theorem dX8_tries_67 : decode cX8_tries 67 = .ok (.iastore, 1) := by decide +kernel
theorem dX8_tries_68 : decode cX8_tries 68 = .ok (.iinc 1 1, 3) := by decide +kernel
theorem dX8_tries_71 : decode cX8_tries 71 = .ok (.goto (-69), 3) := by decide +kernel
theorem dX8_tries_74 : decode cX8_tries 74 = .ok (.aload_n 0, 1) := by decide +kernel
theorem dX8_tries_75 : decode cX8_tries 75 = .ok (.bipush 12, 2) := by decide +kernel
theorem dX8_tries_77 : decode cX8_tries 77 = .ok (.putfield 96, 3) := by decide +kernel
theorem dX8_tries_80 : decode cX8_tries 80 = .ok (.return_, 1) := by decide +kernel
set_option maxRecDepth 20000 in
theorem ggX8_rise_X8_areShares : GoodIn wsX8_rise wsX8_areShares := goodIn_r _ [8] rfl (by decide +kernel)
set_option maxRecDepth 20000 in
theorem gX8_rise_X8_areShares : GoodIn wsX8_rise (va_wsS RX8 168 yX8_areShares wsX8_areShares) := goodIn_app (goodIn_of _ (by decide +kernel)) ggX8_rise_X8_areShares
set_option maxRecDepth 20000 in
theorem ggX8_rise_X8_tries : GoodIn wsX8_rise wsX8_tries := goodIn_r _ [12, 13, 3, 14, 15, 4, 56, 57, 58, 59, 60, 61, 62, 63, 64, 65, 66, 67, 68, 69, 70, 71, 72, 73, 74, 75, 76, 77, 78, 79, 80, 81, 82, 83, 84, 85, 86, 87, 88, 89, 90] rfl (by decide +kernel)
set_option maxRecDepth 20000 in
theorem gX8_rise_X8_tries : GoodIn wsX8_rise (wsV RX8 172 RX8 yX8_tries wsX8_tries) := goodIn_app (goodIn_of _ (by decide +kernel)) ggX8_rise_X8_tries
set_option maxRecDepth 20000 in
theorem ggX8_rise_X8_holdsOut : GoodIn wsX8_rise wsX8_holdsOut := goodIn_r _ [19, 20, 21, 22, 23, 7, 24, 25, 26, 2, 27, 13, 4, 28, 29, 30, 31, 32, 33, 34, 35, 36, 37, 38, 39, 40, 41, 42, 43, 3, 44, 45, 46, 15, 47, 48, 49, 50, 14, 51, 52, 53, 54, 55, 56, 57, 58, 59, 60, 61, 62, 63, 64, 65, 66, 67, 68, 69, 70, 71, 72, 73, 74, 75, 76, 77, 78, 79, 80, 81, 82, 83, 84, 85, 86, 87, 88, 89, 90] rfl (by decide +kernel)
set_option maxRecDepth 20000 in
theorem gX8_rise_X8_holdsOut : GoodIn wsX8_rise (wsV RX8 175 RX8 yX8_holdsOut wsX8_holdsOut) := goodIn_app (goodIn_of _ (by decide +kernel)) ggX8_rise_X8_holdsOut
theorem dX8_rise_0 : decode cX8_rise 0 = .ok (.aload_n 0, 1) := by decide +kernel
theorem dX8_rise_1 : decode cX8_rise 1 = .ok (.iconst 0, 1) := by decide +kernel
theorem dX8_rise_2 : decode cX8_rise 2 = .ok (.putfield 76, 3) := by decide +kernel
theorem dX8_rise_5 : decode cX8_rise 5 = .ok (.iload_n 1, 1) := by decide +kernel
theorem dX8_rise_6 : decode cX8_rise 6 = .ok (.iload_n 2, 1) := by decide +kernel
theorem dX8_rise_7 : decode cX8_rise 7 = .ok (.invokestatic 168, 3) := by decide +kernel
theorem dX8_rise_10 : decode cX8_rise 10 = .ok (.ifCond .ne 5, 3) := by decide +kernel
theorem dX8_rise_13 : decode cX8_rise 13 = .ok (.iconst (-1), 1) := by decide +kernel
theorem dX8_rise_14 : decode cX8_rise 14 = .ok (.ireturn, 1) := by decide +kernel
theorem dX8_rise_15 : decode cX8_rise 15 = .ok (.iconst (-1), 1) := by decide +kernel
theorem dX8_rise_16 : decode cX8_rise 16 = .ok (.istore_n 3, 1) := by decide +kernel
theorem dX8_rise_17 : decode cX8_rise 17 = .ok (.iconst 0, 1) := by decide +kernel
theorem dX8_rise_18 : decode cX8_rise 18 = .ok (.istore 4, 2) := by decide +kernel
theorem dX8_rise_20 : decode cX8_rise 20 = .ok (.iload 4, 2) := by decide +kernel
theorem dX8_rise_22 : decode cX8_rise 22 = .ok (.bipush 25, 2) := by decide +kernel
theorem dX8_rise_24 : decode cX8_rise 24 = .ok (.if_icmp .ge 83, 3) := by decide +kernel
theorem dX8_rise_27 : decode cX8_rise 27 = .ok (.aload_n 0, 1) := by decide +kernel
theorem dX8_rise_28 : decode cX8_rise 28 = .ok (.invokevirtual 172, 3) := by decide +kernel
theorem dX8_rise_31 : decode cX8_rise 31 = .ok (.iconst 0, 1) := by decide +kernel
theorem dX8_rise_32 : decode cX8_rise 32 = .ok (.istore 5, 2) := by decide +kernel
theorem dX8_rise_34 : decode cX8_rise 34 = .ok (.iload 5, 2) := by decide +kernel
theorem dX8_rise_36 : decode cX8_rise 36 = .ok (.aload_n 0, 1) := by decide +kernel
theorem dX8_rise_37 : decode cX8_rise 37 = .ok (.getfield 7, 3) := by decide +kernel
theorem dX8_rise_40 : decode cX8_rise 40 = .ok (.if_icmp .ge 49, 3) := by decide +kernel
theorem dX8_rise_43 : decode cX8_rise 43 = .ok (.aload_n 0, 1) := by decide +kernel
theorem dX8_rise_44 : decode cX8_rise 44 = .ok (.getfield 33, 3) := by decide +kernel
theorem dX8_rise_47 : decode cX8_rise 47 = .ok (.bipush 12, 2) := by decide +kernel
theorem dX8_rise_49 : decode cX8_rise 49 = .ok (.iload 5, 2) := by decide +kernel
theorem dX8_rise_51 : decode cX8_rise 51 = .ok (.iadd, 1) := by decide +kernel
theorem dX8_rise_52 : decode cX8_rise 52 = .ok (.aload_n 0, 1) := by decide +kernel
theorem dX8_rise_53 : decode cX8_rise 53 = .ok (.getfield 33, 3) := by decide +kernel
theorem dX8_rise_56 : decode cX8_rise 56 = .ok (.iload 5, 2) := by decide +kernel
theorem dX8_rise_58 : decode cX8_rise 58 = .ok (.iaload, 1) := by decide +kernel
theorem dX8_rise_59 : decode cX8_rise 59 = .ok (.iload 4, 2) := by decide +kernel
theorem dX8_rise_61 : decode cX8_rise 61 = .ok (.iadd, 1) := by decide +kernel
theorem dX8_rise_62 : decode cX8_rise 62 = .ok (.bipush 24, 2) := by decide +kernel
theorem dX8_rise_64 : decode cX8_rise 64 = .ok (.if_icmp .le 8, 3) := by decide +kernel
theorem dX8_rise_67 : decode cX8_rise 67 = .ok (.bipush 24, 2) := by decide +kernel
theorem dX8_rise_69 : decode cX8_rise 69 = .ok (.goto 13, 3) := by decide +kernel
theorem dX8_rise_72 : decode cX8_rise 72 = .ok (.aload_n 0, 1) := by decide +kernel
theorem dX8_rise_73 : decode cX8_rise 73 = .ok (.getfield 33, 3) := by decide +kernel
theorem dX8_rise_76 : decode cX8_rise 76 = .ok (.iload 5, 2) := by decide +kernel
theorem dX8_rise_78 : decode cX8_rise 78 = .ok (.iaload, 1) := by decide +kernel
theorem dX8_rise_79 : decode cX8_rise 79 = .ok (.iload 4, 2) := by decide +kernel
theorem dX8_rise_81 : decode cX8_rise 81 = .ok (.iadd, 1) := by decide +kernel
theorem dX8_rise_82 : decode cX8_rise 82 = .ok (.iastore, 1) := by decide +kernel
theorem dX8_rise_83 : decode cX8_rise 83 = .ok (.iinc 5 1, 3) := by decide +kernel
theorem dX8_rise_86 : decode cX8_rise 86 = .ok (.goto (-52), 3) := by decide +kernel
theorem dX8_rise_89 : decode cX8_rise 89 = .ok (.aload_n 0, 1) := by decide +kernel
theorem dX8_rise_90 : decode cX8_rise 90 = .ok (.iload_n 1, 1) := by decide +kernel
theorem dX8_rise_91 : decode cX8_rise 91 = .ok (.iload_n 2, 1) := by decide +kernel
theorem dX8_rise_92 : decode cX8_rise 92 = .ok (.invokevirtual 175, 3) := by decide +kernel
theorem dX8_rise_95 : decode cX8_rise 95 = .ok (.ifCond .eq 6, 3) := by decide +kernel
theorem dX8_rise_98 : decode cX8_rise 98 = .ok (.iload 4, 2) := by decide +kernel
theorem dX8_rise_100 : decode cX8_rise 100 = .ok (.istore_n 3, 1) := by decide +kernel
theorem dX8_rise_101 : decode cX8_rise 101 = .ok (.iinc 4 1, 3) := by decide +kernel
theorem dX8_rise_104 : decode cX8_rise 104 = .ok (.goto (-84), 3) := by decide +kernel
theorem dX8_rise_107 : decode cX8_rise 107 = .ok (.aload_n 0, 1) := by decide +kernel
theorem dX8_rise_108 : decode cX8_rise 108 = .ok (.iconst 0, 1) := by decide +kernel
theorem dX8_rise_109 : decode cX8_rise 109 = .ok (.putfield 96, 3) := by decide +kernel
theorem dX8_rise_112 : decode cX8_rise 112 = .ok (.iload_n 3, 1) := by decide +kernel
theorem dX8_rise_113 : decode cX8_rise 113 = .ok (.ireturn, 1) := by decide +kernel
set_option maxRecDepth 20000 in
theorem ggX8_act_X8_isColumn : GoodIn wsX8_act wsX8_isColumn := goodIn_r _ [10, 11, 12, 13, 14, 15, 16, 17, 18, 19, 20, 21, 22, 23, 24, 25, 26, 27, 28, 29, 30, 31, 32, 33, 34, 35, 36, 37, 38, 39, 40, 41, 42, 43, 44, 45, 46] rfl (by decide +kernel)
set_option maxRecDepth 20000 in
theorem gX8_act_X8_isColumn : GoodIn wsX8_act (wsV RX8 88 RX8 yX8_isColumn wsX8_isColumn) := goodIn_app (goodIn_of _ (by decide +kernel)) ggX8_act_X8_isColumn
theorem dX8_act_0 : decode cX8_act 0 = .ok (.aload_n 0, 1) := by decide +kernel
theorem dX8_act_1 : decode cX8_act 1 = .ok (.iconst 0, 1) := by decide +kernel
theorem dX8_act_2 : decode cX8_act 2 = .ok (.putfield 76, 3) := by decide +kernel
theorem dX8_act_5 : decode cX8_act 5 = .ok (.iload_n 1, 1) := by decide +kernel
theorem dX8_act_6 : decode cX8_act 6 = .ok (.ifCond .lt 50, 3) := by decide +kernel
theorem dX8_act_9 : decode cX8_act 9 = .ok (.iload_n 1, 1) := by decide +kernel
theorem dX8_act_10 : decode cX8_act 10 = .ok (.iconst 3, 1) := by decide +kernel
theorem dX8_act_11 : decode cX8_act 11 = .ok (.if_icmp .gt 45, 3) := by decide +kernel
theorem dX8_act_14 : decode cX8_act 14 = .ok (.aload_n 0, 1) := by decide +kernel
theorem dX8_act_15 : decode cX8_act 15 = .ok (.iload_n 2, 1) := by decide +kernel
theorem dX8_act_16 : decode cX8_act 16 = .ok (.invokevirtual 88, 3) := by decide +kernel
theorem dX8_act_19 : decode cX8_act 19 = .ok (.ifCond .eq 37, 3) := by decide +kernel
theorem dX8_act_22 : decode cX8_act 22 = .ok (.iload_n 3, 1) := by decide +kernel
theorem dX8_act_23 : decode cX8_act 23 = .ok (.ifCond .lt 33, 3) := by decide +kernel
theorem dX8_act_26 : decode cX8_act 26 = .ok (.iload_n 3, 1) := by decide +kernel
theorem dX8_act_27 : decode cX8_act 27 = .ok (.iload_n 1, 1) := by decide +kernel
theorem dX8_act_28 : decode cX8_act 28 = .ok (.ifCond .eq 8, 3) := by decide +kernel
theorem dX8_act_31 : decode cX8_act 31 = .ok (.iload_n 1, 1) := by decide +kernel
theorem dX8_act_32 : decode cX8_act 32 = .ok (.iconst 2, 1) := by decide +kernel
theorem dX8_act_33 : decode cX8_act 33 = .ok (.if_icmp .ne 8, 3) := by decide +kernel
theorem dX8_act_36 : decode cX8_act 36 = .ok (.bipush 24, 2) := by decide +kernel
theorem dX8_act_38 : decode cX8_act 38 = .ok (.goto 6, 3) := by decide +kernel
theorem dX8_act_41 : decode cX8_act 41 = .ok (.sipush 999, 3) := by decide +kernel
theorem dX8_act_44 : decode cX8_act 44 = .ok (.if_icmp .gt 12, 3) := by decide +kernel
theorem dX8_act_47 : decode cX8_act 47 = .ok (.aload_n 0, 1) := by decide +kernel
theorem dX8_act_48 : decode cX8_act 48 = .ok (.getfield 79, 3) := by decide +kernel
theorem dX8_act_51 : decode cX8_act 51 = .ok (.bipush 6, 2) := by decide +kernel
theorem dX8_act_53 : decode cX8_act 53 = .ok (.if_icmp .ne 5, 3) := by decide +kernel
theorem dX8_act_56 : decode cX8_act 56 = .ok (.iconst (-1), 1) := by decide +kernel
theorem dX8_act_57 : decode cX8_act 57 = .ok (.ireturn, 1) := by decide +kernel
theorem dX8_act_58 : decode cX8_act 58 = .ok (.aload_n 0, 1) := by decide +kernel
theorem dX8_act_59 : decode cX8_act 59 = .ok (.getfield 42, 3) := by decide +kernel
theorem dX8_act_62 : decode cX8_act 62 = .ok (.aload_n 0, 1) := by decide +kernel
theorem dX8_act_63 : decode cX8_act 63 = .ok (.getfield 79, 3) := by decide +kernel
theorem dX8_act_66 : decode cX8_act 66 = .ok (.iload_n 1, 1) := by decide +kernel
theorem dX8_act_67 : decode cX8_act 67 = .ok (.iastore, 1) := by decide +kernel
theorem dX8_act_68 : decode cX8_act 68 = .ok (.aload_n 0, 1) := by decide +kernel
theorem dX8_act_69 : decode cX8_act 69 = .ok (.getfield 45, 3) := by decide +kernel
theorem dX8_act_72 : decode cX8_act 72 = .ok (.aload_n 0, 1) := by decide +kernel
theorem dX8_act_73 : decode cX8_act 73 = .ok (.getfield 79, 3) := by decide +kernel
theorem dX8_act_76 : decode cX8_act 76 = .ok (.iload_n 2, 1) := by decide +kernel
theorem dX8_act_77 : decode cX8_act 77 = .ok (.iastore, 1) := by decide +kernel
theorem dX8_act_78 : decode cX8_act 78 = .ok (.aload_n 0, 1) := by decide +kernel
theorem dX8_act_79 : decode cX8_act 79 = .ok (.getfield 48, 3) := by decide +kernel
theorem dX8_act_82 : decode cX8_act 82 = .ok (.aload_n 0, 1) := by decide +kernel
theorem dX8_act_83 : decode cX8_act 83 = .ok (.getfield 79, 3) := by decide +kernel
theorem dX8_act_86 : decode cX8_act 86 = .ok (.iload_n 3, 1) := by decide +kernel
theorem dX8_act_87 : decode cX8_act 87 = .ok (.iastore, 1) := by decide +kernel
theorem dX8_act_88 : decode cX8_act 88 = .ok (.aload_n 0, 1) := by decide +kernel
theorem dX8_act_89 : decode cX8_act 89 = .ok (.dup, 1) := by decide +kernel
theorem dX8_act_90 : decode cX8_act 90 = .ok (.getfield 79, 3) := by decide +kernel
theorem dX8_act_93 : decode cX8_act 93 = .ok (.iconst 1, 1) := by decide +kernel
theorem dX8_act_94 : decode cX8_act 94 = .ok (.iadd, 1) := by decide +kernel
theorem dX8_act_95 : decode cX8_act 95 = .ok (.putfield 79, 3) := by decide +kernel
theorem dX8_act_98 : decode cX8_act 98 = .ok (.aload_n 0, 1) := by decide +kernel
theorem dX8_act_99 : decode cX8_act 99 = .ok (.getfield 79, 3) := by decide +kernel
theorem dX8_act_102 : decode cX8_act 102 = .ok (.iconst 1, 1) := by decide +kernel
theorem dX8_act_103 : decode cX8_act 103 = .ok (.isub, 1) := by decide +kernel
theorem dX8_act_104 : decode cX8_act 104 = .ok (.ireturn, 1) := by decide +kernel
theorem dX8_does_0 : decode cX8_does 0 = .ok (.aload_n 0, 1) := by decide +kernel
theorem dX8_does_1 : decode cX8_does 1 = .ok (.getfield 96, 3) := by decide +kernel
theorem dX8_does_4 : decode cX8_does 4 = .ok (.aload_n 0, 1) := by decide +kernel
theorem dX8_does_5 : decode cX8_does 5 = .ok (.getfield 45, 3) := by decide +kernel
theorem dX8_does_8 : decode cX8_does 8 = .ok (.iload_n 1, 1) := by decide +kernel
theorem dX8_does_9 : decode cX8_does 9 = .ok (.iaload, 1) := by decide +kernel
theorem dX8_does_10 : decode cX8_does 10 = .ok (.iadd, 1) := by decide +kernel
theorem dX8_does_11 : decode cX8_does 11 = .ok (.istore_n 2, 1) := by decide +kernel
theorem dX8_does_12 : decode cX8_does 12 = .ok (.aload_n 0, 1) := by decide +kernel
theorem dX8_does_13 : decode cX8_does 13 = .ok (.getfield 48, 3) := by decide +kernel
theorem dX8_does_16 : decode cX8_does 16 = .ok (.iload_n 1, 1) := by decide +kernel
theorem dX8_does_17 : decode cX8_does 17 = .ok (.iaload, 1) := by decide +kernel
theorem dX8_does_18 : decode cX8_does 18 = .ok (.istore_n 3, 1) := by decide +kernel
theorem dX8_does_19 : decode cX8_does 19 = .ok (.aload_n 0, 1) := by decide +kernel
theorem dX8_does_20 : decode cX8_does 20 = .ok (.getfield 42, 3) := by decide +kernel
theorem dX8_does_23 : decode cX8_does 23 = .ok (.iload_n 1, 1) := by decide +kernel
theorem dX8_does_24 : decode cX8_does 24 = .ok (.iaload, 1) := by decide +kernel
theorem dX8_does_25 : decode cX8_does 25 = .ok (.ifCond .ne 29, 3) := by decide +kernel
theorem dX8_does_28 : decode cX8_does 28 = .ok (.aload_n 0, 1) := by decide +kernel
theorem dX8_does_29 : decode cX8_does 29 = .ok (.getfield 30, 3) := by decide +kernel
theorem dX8_does_32 : decode cX8_does 32 = .ok (.iload_n 2, 1) := by decide +kernel
theorem dX8_does_33 : decode cX8_does 33 = .ok (.aload_n 0, 1) := by decide +kernel
theorem dX8_does_34 : decode cX8_does 34 = .ok (.getfield 30, 3) := by decide +kernel
theorem dX8_does_37 : decode cX8_does 37 = .ok (.iload_n 2, 1) := by decide +kernel
theorem dX8_does_38 : decode cX8_does 38 = .ok (.iaload, 1) := by decide +kernel
theorem dX8_does_39 : decode cX8_does 39 = .ok (.iload_n 3, 1) := by decide +kernel
theorem dX8_does_40 : decode cX8_does 40 = .ok (.if_icmp .ge 12, 3) := by decide +kernel
theorem dX8_does_43 : decode cX8_does 43 = .ok (.aload_n 0, 1) := by decide +kernel
theorem dX8_does_44 : decode cX8_does 44 = .ok (.getfield 30, 3) := by decide +kernel
theorem dX8_does_47 : decode cX8_does 47 = .ok (.iload_n 2, 1) := by decide +kernel
theorem dX8_does_48 : decode cX8_does 48 = .ok (.iaload, 1) := by decide +kernel
theorem dX8_does_49 : decode cX8_does 49 = .ok (.goto 4, 3) := by decide +kernel
theorem dX8_does_52 : decode cX8_does 52 = .ok (.iload_n 3, 1) := by decide +kernel
theorem dX8_does_53 : decode cX8_does 53 = .ok (.iastore, 1) := by decide +kernel
theorem dX8_does_54 : decode cX8_does 54 = .ok (.aload_n 0, 1) := by decide +kernel
theorem dX8_does_55 : decode cX8_does 55 = .ok (.getfield 42, 3) := by decide +kernel
theorem dX8_does_58 : decode cX8_does 58 = .ok (.iload_n 1, 1) := by decide +kernel
theorem dX8_does_59 : decode cX8_does 59 = .ok (.iaload, 1) := by decide +kernel
theorem dX8_does_60 : decode cX8_does 60 = .ok (.iconst 1, 1) := by decide +kernel
theorem dX8_does_61 : decode cX8_does 61 = .ok (.if_icmp .ne 37, 3) := by decide +kernel
theorem dX8_does_64 : decode cX8_does 64 = .ok (.aload_n 0, 1) := by decide +kernel
theorem dX8_does_65 : decode cX8_does 65 = .ok (.getfield 39, 3) := by decide +kernel
theorem dX8_does_68 : decode cX8_does 68 = .ok (.iload_n 2, 1) := by decide +kernel
theorem dX8_does_69 : decode cX8_does 69 = .ok (.aload_n 0, 1) := by decide +kernel
theorem dX8_does_70 : decode cX8_does 70 = .ok (.getfield 39, 3) := by decide +kernel
theorem dX8_does_73 : decode cX8_does 73 = .ok (.iload_n 2, 1) := by decide +kernel
theorem dX8_does_74 : decode cX8_does 74 = .ok (.iaload, 1) := by decide +kernel
theorem dX8_does_75 : decode cX8_does 75 = .ok (.iload_n 3, 1) := by decide +kernel
theorem dX8_does_76 : decode cX8_does 76 = .ok (.iadd, 1) := by decide +kernel
theorem dX8_does_77 : decode cX8_does 77 = .ok (.sipush 999, 3) := by decide +kernel
theorem dX8_does_80 : decode cX8_does 80 = .ok (.if_icmp .le 9, 3) := by decide +kernel
theorem dX8_does_83 : decode cX8_does 83 = .ok (.sipush 999, 3) := by decide +kernel
theorem dX8_does_86 : decode cX8_does 86 = .ok (.goto 11, 3) := by decide +kernel
theorem dX8_does_89 : decode cX8_does 89 = .ok (.aload_n 0, 1) := by decide +kernel
theorem dX8_does_90 : decode cX8_does 90 = .ok (.getfield 39, 3) := by decide +kernel
theorem dX8_does_93 : decode cX8_does 93 = .ok (.iload_n 2, 1) := by decide +kernel
theorem dX8_does_94 : decode cX8_does 94 = .ok (.iaload, 1) := by decide +kernel
theorem dX8_does_95 : decode cX8_does 95 = .ok (.iload_n 3, 1) := by decide +kernel
theorem dX8_does_96 : decode cX8_does 96 = .ok (.iadd, 1) := by decide +kernel
theorem dX8_does_97 : decode cX8_does 97 = .ok (.iastore, 1) := by decide +kernel
theorem dX8_does_98 : decode cX8_does 98 = .ok (.aload_n 0, 1) := by decide +kernel
theorem dX8_does_99 : decode cX8_does 99 = .ok (.getfield 42, 3) := by decide +kernel
theorem dX8_does_102 : decode cX8_does 102 = .ok (.iload_n 1, 1) := by decide +kernel
theorem dX8_does_103 : decode cX8_does 103 = .ok (.iaload, 1) := by decide +kernel
theorem dX8_does_104 : decode cX8_does 104 = .ok (.iconst 2, 1) := by decide +kernel
theorem dX8_does_105 : decode cX8_does 105 = .ok (.if_icmp .ne 29, 3) := by decide +kernel
theorem dX8_does_108 : decode cX8_does 108 = .ok (.aload_n 0, 1) := by decide +kernel
theorem dX8_does_109 : decode cX8_does 109 = .ok (.getfield 33, 3) := by decide +kernel
theorem dX8_does_112 : decode cX8_does 112 = .ok (.iload_n 2, 1) := by decide +kernel
theorem dX8_does_113 : decode cX8_does 113 = .ok (.aload_n 0, 1) := by decide +kernel
theorem dX8_does_114 : decode cX8_does 114 = .ok (.getfield 33, 3) := by decide +kernel
theorem dX8_does_117 : decode cX8_does 117 = .ok (.iload_n 2, 1) := by decide +kernel
theorem dX8_does_118 : decode cX8_does 118 = .ok (.iaload, 1) := by decide +kernel
theorem dX8_does_119 : decode cX8_does 119 = .ok (.iload_n 3, 1) := by decide +kernel
theorem dX8_does_120 : decode cX8_does 120 = .ok (.if_icmp .ge 12, 3) := by decide +kernel
theorem dX8_does_123 : decode cX8_does 123 = .ok (.aload_n 0, 1) := by decide +kernel
theorem dX8_does_124 : decode cX8_does 124 = .ok (.getfield 33, 3) := by decide +kernel
theorem dX8_does_127 : decode cX8_does 127 = .ok (.iload_n 2, 1) := by decide +kernel
theorem dX8_does_128 : decode cX8_does 128 = .ok (.iaload, 1) := by decide +kernel
theorem dX8_does_129 : decode cX8_does 129 = .ok (.goto 4, 3) := by decide +kernel
theorem dX8_does_132 : decode cX8_does 132 = .ok (.iload_n 3, 1) := by decide +kernel
theorem dX8_does_133 : decode cX8_does 133 = .ok (.iastore, 1) := by decide +kernel
theorem dX8_does_134 : decode cX8_does 134 = .ok (.aload_n 0, 1) := by decide +kernel
theorem dX8_does_135 : decode cX8_does 135 = .ok (.getfield 42, 3) := by decide +kernel
theorem dX8_does_138 : decode cX8_does 138 = .ok (.iload_n 1, 1) := by decide +kernel
theorem dX8_does_139 : decode cX8_does 139 = .ok (.iaload, 1) := by decide +kernel
theorem dX8_does_140 : decode cX8_does 140 = .ok (.iconst 3, 1) := by decide +kernel
theorem dX8_does_141 : decode cX8_does 141 = .ok (.if_icmp .ne 37, 3) := by decide +kernel
theorem dX8_does_144 : decode cX8_does 144 = .ok (.aload_n 0, 1) := by decide +kernel
theorem dX8_does_145 : decode cX8_does 145 = .ok (.getfield 36, 3) := by decide +kernel
theorem dX8_does_148 : decode cX8_does 148 = .ok (.iload_n 2, 1) := by decide +kernel
theorem dX8_does_149 : decode cX8_does 149 = .ok (.aload_n 0, 1) := by decide +kernel
theorem dX8_does_150 : decode cX8_does 150 = .ok (.getfield 36, 3) := by decide +kernel
theorem dX8_does_153 : decode cX8_does 153 = .ok (.iload_n 2, 1) := by decide +kernel
theorem dX8_does_154 : decode cX8_does 154 = .ok (.iaload, 1) := by decide +kernel
theorem dX8_does_155 : decode cX8_does 155 = .ok (.iload_n 3, 1) := by decide +kernel
theorem dX8_does_156 : decode cX8_does 156 = .ok (.iadd, 1) := by decide +kernel
theorem dX8_does_157 : decode cX8_does 157 = .ok (.sipush 999, 3) := by decide +kernel
theorem dX8_does_160 : decode cX8_does 160 = .ok (.if_icmp .le 9, 3) := by decide +kernel
theorem dX8_does_163 : decode cX8_does 163 = .ok (.sipush 999, 3) := by decide +kernel
theorem dX8_does_166 : decode cX8_does 166 = .ok (.goto 11, 3) := by decide +kernel
theorem dX8_does_169 : decode cX8_does 169 = .ok (.aload_n 0, 1) := by decide +kernel
theorem dX8_does_170 : decode cX8_does 170 = .ok (.getfield 36, 3) := by decide +kernel
theorem dX8_does_173 : decode cX8_does 173 = .ok (.iload_n 2, 1) := by decide +kernel
theorem dX8_does_174 : decode cX8_does 174 = .ok (.iaload, 1) := by decide +kernel
theorem dX8_does_175 : decode cX8_does 175 = .ok (.iload_n 3, 1) := by decide +kernel
theorem dX8_does_176 : decode cX8_does 176 = .ok (.iadd, 1) := by decide +kernel
theorem dX8_does_177 : decode cX8_does 177 = .ok (.iastore, 1) := by decide +kernel
theorem dX8_does_178 : decode cX8_does 178 = .ok (.return_, 1) := by decide +kernel
set_option maxRecDepth 20000 in
theorem ggX8_perform_X8_does : GoodIn wsX8_perform wsX8_does := goodIn_r _ [8, 3, 9, 10, 11, 12, 13, 14, 15, 16, 17, 18, 19, 20, 21, 22, 23, 24, 25, 26, 27, 28, 29, 30, 31, 32, 33, 34, 35, 36, 37, 38, 39, 40, 41, 42, 43, 44, 45, 46, 47, 48, 49, 50] rfl (by decide +kernel)
set_option maxRecDepth 20000 in
theorem gX8_perform_X8_does : GoodIn wsX8_perform (wsV RX8 178 RX8 yX8_does wsX8_does) := goodIn_app (goodIn_of _ (by decide +kernel)) ggX8_perform_X8_does
theorem dX8_perform_0 : decode cX8_perform 0 = .ok (.aload_n 0, 1) := by decide +kernel
theorem dX8_perform_1 : decode cX8_perform 1 = .ok (.iconst 0, 1) := by decide +kernel
theorem dX8_perform_2 : decode cX8_perform 2 = .ok (.putfield 76, 3) := by decide +kernel
theorem dX8_perform_5 : decode cX8_perform 5 = .ok (.iload_n 1, 1) := by decide +kernel
theorem dX8_perform_6 : decode cX8_perform 6 = .ok (.ifCond .lt 11, 3) := by decide +kernel
theorem dX8_perform_9 : decode cX8_perform 9 = .ok (.iload_n 1, 1) := by decide +kernel
theorem dX8_perform_10 : decode cX8_perform 10 = .ok (.aload_n 0, 1) := by decide +kernel
theorem dX8_perform_11 : decode cX8_perform 11 = .ok (.getfield 79, 3) := by decide +kernel
theorem dX8_perform_14 : decode cX8_perform 14 = .ok (.if_icmp .lt 5, 3) := by decide +kernel
theorem dX8_perform_17 : decode cX8_perform 17 = .ok (.iconst 0, 1) := by decide +kernel
theorem dX8_perform_18 : decode cX8_perform 18 = .ok (.ireturn, 1) := by decide +kernel
theorem dX8_perform_19 : decode cX8_perform 19 = .ok (.aload_n 0, 1) := by decide +kernel
theorem dX8_perform_20 : decode cX8_perform 20 = .ok (.iconst 0, 1) := by decide +kernel
theorem dX8_perform_21 : decode cX8_perform 21 = .ok (.putfield 96, 3) := by decide +kernel
theorem dX8_perform_24 : decode cX8_perform 24 = .ok (.aload_n 0, 1) := by decide +kernel
theorem dX8_perform_25 : decode cX8_perform 25 = .ok (.iload_n 1, 1) := by decide +kernel
theorem dX8_perform_26 : decode cX8_perform 26 = .ok (.invokevirtual 178, 3) := by decide +kernel
theorem dX8_perform_29 : decode cX8_perform 29 = .ok (.iconst 1, 1) := by decide +kernel
theorem dX8_perform_30 : decode cX8_perform 30 = .ok (.ireturn, 1) := by decide +kernel
theorem dX8_swap_0 : decode cX8_swap 0 = .ok (.aload_n 0, 1) := by decide +kernel
theorem dX8_swap_1 : decode cX8_swap 1 = .ok (.getfield 70, 3) := by decide +kernel
theorem dX8_swap_4 : decode cX8_swap 4 = .ok (.iload_n 1, 1) := by decide +kernel
theorem dX8_swap_5 : decode cX8_swap 5 = .ok (.iaload, 1) := by decide +kernel
theorem dX8_swap_6 : decode cX8_swap 6 = .ok (.istore_n 3, 1) := by decide +kernel
theorem dX8_swap_7 : decode cX8_swap 7 = .ok (.aload_n 0, 1) := by decide +kernel
theorem dX8_swap_8 : decode cX8_swap 8 = .ok (.getfield 70, 3) := by decide +kernel
theorem dX8_swap_11 : decode cX8_swap 11 = .ok (.iload_n 1, 1) := by decide +kernel
theorem dX8_swap_12 : decode cX8_swap 12 = .ok (.aload_n 0, 1) := by decide +kernel
theorem dX8_swap_13 : decode cX8_swap 13 = .ok (.getfield 70, 3) := by decide +kernel
theorem dX8_swap_16 : decode cX8_swap 16 = .ok (.iload_n 2, 1) := by decide +kernel
theorem dX8_swap_17 : decode cX8_swap 17 = .ok (.iaload, 1) := by decide +kernel
theorem dX8_swap_18 : decode cX8_swap 18 = .ok (.iastore, 1) := by decide +kernel
theorem dX8_swap_19 : decode cX8_swap 19 = .ok (.aload_n 0, 1) := by decide +kernel
theorem dX8_swap_20 : decode cX8_swap 20 = .ok (.getfield 70, 3) := by decide +kernel
theorem dX8_swap_23 : decode cX8_swap 23 = .ok (.iload_n 2, 1) := by decide +kernel
theorem dX8_swap_24 : decode cX8_swap 24 = .ok (.iload_n 3, 1) := by decide +kernel
theorem dX8_swap_25 : decode cX8_swap 25 = .ok (.iastore, 1) := by decide +kernel
theorem dX8_swap_26 : decode cX8_swap 26 = .ok (.return_, 1) := by decide +kernel
set_option maxRecDepth 20000 in
theorem ggX8_another_X8_swap : GoodIn wsX8_another wsX8_swap := goodIn_r _ [7, 2, 8, 9, 10, 11, 12, 13, 14, 15, 16, 17, 18, 19, 20, 21, 22, 23, 24, 25, 26, 27, 28, 29, 30, 31, 32, 33, 34, 35, 36, 37, 38, 39, 40, 41, 42] rfl (by decide +kernel)
set_option maxRecDepth 20000 in
theorem gX8_another_X8_swap : GoodIn wsX8_another (wsV RX8 182 RX8 yX8_swap wsX8_swap) := goodIn_app (goodIn_of _ (by decide +kernel)) ggX8_another_X8_swap
theorem dX8_another_0 : decode cX8_another 0 = .ok (.aload_n 0, 1) := by decide +kernel
theorem dX8_another_1 : decode cX8_another 1 = .ok (.getfield 79, 3) := by decide +kernel
theorem dX8_another_4 : decode cX8_another 4 = .ok (.iconst 2, 1) := by decide +kernel
theorem dX8_another_5 : decode cX8_another 5 = .ok (.isub, 1) := by decide +kernel
theorem dX8_another_6 : decode cX8_another 6 = .ok (.istore_n 1, 1) := by decide +kernel
theorem dX8_another_7 : decode cX8_another 7 = .ok (.iload_n 1, 1) := by decide +kernel
theorem dX8_another_8 : decode cX8_another 8 = .ok (.ifCond .lt 26, 3) := by decide +kernel
theorem dX8_another_11 : decode cX8_another 11 = .ok (.aload_n 0, 1) := by decide +kernel
theorem dX8_another_12 : decode cX8_another 12 = .ok (.getfield 70, 3) := by decide +kernel
theorem dX8_another_15 : decode cX8_another 15 = .ok (.iload_n 1, 1) := by decide +kernel
theorem dX8_another_16 : decode cX8_another 16 = .ok (.iaload, 1) := by decide +kernel
theorem dX8_another_17 : decode cX8_another 17 = .ok (.aload_n 0, 1) := by decide +kernel
theorem dX8_another_18 : decode cX8_another 18 = .ok (.getfield 70, 3) := by decide +kernel
theorem dX8_another_21 : decode cX8_another 21 = .ok (.iload_n 1, 1) := by decide +kernel
theorem dX8_another_22 : decode cX8_another 22 = .ok (.iconst 1, 1) := by decide +kernel
theorem dX8_another_23 : decode cX8_another 23 = .ok (.iadd, 1) := by decide +kernel
theorem dX8_another_24 : decode cX8_another 24 = .ok (.iaload, 1) := by decide +kernel
theorem dX8_another_25 : decode cX8_another 25 = .ok (.if_icmp .le 9, 3) := by decide +kernel
theorem dX8_another_28 : decode cX8_another 28 = .ok (.iinc 1 (-1), 3) := by decide +kernel
theorem dX8_another_31 : decode cX8_another 31 = .ok (.goto (-24), 3) := by decide +kernel
theorem dX8_another_34 : decode cX8_another 34 = .ok (.iload_n 1, 1) := by decide +kernel
theorem dX8_another_35 : decode cX8_another 35 = .ok (.ifCond .ge 5, 3) := by decide +kernel
theorem dX8_another_38 : decode cX8_another 38 = .ok (.iconst 0, 1) := by decide +kernel
theorem dX8_another_39 : decode cX8_another 39 = .ok (.ireturn, 1) := by decide +kernel
theorem dX8_another_40 : decode cX8_another 40 = .ok (.aload_n 0, 1) := by decide +kernel
theorem dX8_another_41 : decode cX8_another 41 = .ok (.getfield 79, 3) := by decide +kernel
theorem dX8_another_44 : decode cX8_another 44 = .ok (.iconst 1, 1) := by decide +kernel
theorem dX8_another_45 : decode cX8_another 45 = .ok (.isub, 1) := by decide +kernel
theorem dX8_another_46 : decode cX8_another 46 = .ok (.istore_n 2, 1) := by decide +kernel
theorem dX8_another_47 : decode cX8_another 47 = .ok (.aload_n 0, 1) := by decide +kernel
theorem dX8_another_48 : decode cX8_another 48 = .ok (.getfield 70, 3) := by decide +kernel
theorem dX8_another_51 : decode cX8_another 51 = .ok (.iload_n 2, 1) := by decide +kernel
theorem dX8_another_52 : decode cX8_another 52 = .ok (.iaload, 1) := by decide +kernel
theorem dX8_another_53 : decode cX8_another 53 = .ok (.aload_n 0, 1) := by decide +kernel
theorem dX8_another_54 : decode cX8_another 54 = .ok (.getfield 70, 3) := by decide +kernel
theorem dX8_another_57 : decode cX8_another 57 = .ok (.iload_n 1, 1) := by decide +kernel
theorem dX8_another_58 : decode cX8_another 58 = .ok (.iaload, 1) := by decide +kernel
theorem dX8_another_59 : decode cX8_another 59 = .ok (.if_icmp .ge 9, 3) := by decide +kernel
theorem dX8_another_62 : decode cX8_another 62 = .ok (.iinc 2 (-1), 3) := by decide +kernel
theorem dX8_another_65 : decode cX8_another 65 = .ok (.goto (-18), 3) := by decide +kernel
theorem dX8_another_68 : decode cX8_another 68 = .ok (.aload_n 0, 1) := by decide +kernel
theorem dX8_another_69 : decode cX8_another 69 = .ok (.iload_n 2, 1) := by decide +kernel
theorem dX8_another_70 : decode cX8_another 70 = .ok (.iload_n 1, 1) := by decide +kernel
theorem dX8_another_71 : decode cX8_another 71 = .ok (.invokevirtual 182, 3) := by decide +kernel
theorem dX8_another_74 : decode cX8_another 74 = .ok (.iload_n 1, 1) := by decide +kernel
theorem dX8_another_75 : decode cX8_another 75 = .ok (.iconst 1, 1) := by decide +kernel
theorem dX8_another_76 : decode cX8_another 76 = .ok (.iadd, 1) := by decide +kernel
theorem dX8_another_77 : decode cX8_another 77 = .ok (.istore_n 2, 1) := by decide +kernel
theorem dX8_another_78 : decode cX8_another 78 = .ok (.aload_n 0, 1) := by decide +kernel
theorem dX8_another_79 : decode cX8_another 79 = .ok (.getfield 79, 3) := by decide +kernel
theorem dX8_another_82 : decode cX8_another 82 = .ok (.iconst 1, 1) := by decide +kernel
theorem dX8_another_83 : decode cX8_another 83 = .ok (.isub, 1) := by decide +kernel
theorem dX8_another_84 : decode cX8_another 84 = .ok (.istore_n 3, 1) := by decide +kernel
theorem dX8_another_85 : decode cX8_another 85 = .ok (.iload_n 2, 1) := by decide +kernel
theorem dX8_another_86 : decode cX8_another 86 = .ok (.iload_n 3, 1) := by decide +kernel
theorem dX8_another_87 : decode cX8_another 87 = .ok (.if_icmp .ge 18, 3) := by decide +kernel
theorem dX8_another_90 : decode cX8_another 90 = .ok (.aload_n 0, 1) := by decide +kernel
theorem dX8_another_91 : decode cX8_another 91 = .ok (.iload_n 2, 1) := by decide +kernel
theorem dX8_another_92 : decode cX8_another 92 = .ok (.iload_n 3, 1) := by decide +kernel
theorem dX8_another_93 : decode cX8_another 93 = .ok (.invokevirtual 182, 3) := by decide +kernel
theorem dX8_another_96 : decode cX8_another 96 = .ok (.iinc 2 1, 3) := by decide +kernel
theorem dX8_another_99 : decode cX8_another 99 = .ok (.iinc 3 (-1), 3) := by decide +kernel
theorem dX8_another_102 : decode cX8_another 102 = .ok (.goto (-17), 3) := by decide +kernel
theorem dX8_another_105 : decode cX8_another 105 = .ok (.iconst 1, 1) := by decide +kernel
theorem dX8_another_106 : decode cX8_another 106 = .ok (.ireturn, 1) := by decide +kernel
set_option maxRecDepth 20000 in
theorem ggX8_order_X8_areShares : GoodIn wsX8_order wsX8_areShares := goodIn_r _ [10] rfl (by decide +kernel)
set_option maxRecDepth 20000 in
theorem gX8_order_X8_areShares : GoodIn wsX8_order (va_wsS RX8 168 yX8_areShares wsX8_areShares) := goodIn_app (goodIn_of _ (by decide +kernel)) ggX8_order_X8_areShares
set_option maxRecDepth 20000 in
theorem ggX8_order_X8_tries : GoodIn wsX8_order wsX8_tries := goodIn_r _ [14, 15, 16, 17, 18, 4, 75, 76, 77, 78, 79, 80, 81, 82, 83, 84, 85, 86, 87, 88, 89, 90, 91, 92, 93, 94, 95, 96, 97, 98, 99, 100, 101, 102, 103, 104, 105, 106, 107, 108, 109] rfl (by decide +kernel)
set_option maxRecDepth 20000 in
theorem gX8_order_X8_tries : GoodIn wsX8_order (wsV RX8 172 RX8 yX8_tries wsX8_tries) := goodIn_app (goodIn_of _ (by decide +kernel)) ggX8_order_X8_tries
set_option maxRecDepth 20000 in
theorem ggX8_order_X8_does : GoodIn wsX8_order wsX8_does := goodIn_r _ [22, 4, 23, 24, 25, 15, 18, 16, 17, 75, 76, 77, 78, 79, 80, 81, 82, 83, 84, 85, 86, 87, 88, 89, 90, 91, 92, 93, 94, 95, 96, 97, 98, 99, 100, 101, 102, 103, 104, 105, 106, 107, 108, 109] rfl (by decide +kernel)
set_option maxRecDepth 20000 in
theorem gX8_order_X8_does : GoodIn wsX8_order (wsV RX8 178 RX8 yX8_does wsX8_does) := goodIn_app (goodIn_of _ (by decide +kernel)) ggX8_order_X8_does
set_option maxRecDepth 20000 in
theorem ggX8_order_X8_holdsOut : GoodIn wsX8_order wsX8_holdsOut := goodIn_r _ [29, 30, 31, 32, 33, 9, 34, 35, 36, 37, 38, 15, 4, 39, 40, 41, 42, 43, 44, 45, 46, 47, 48, 49, 50, 51, 52, 53, 54, 16, 55, 56, 57, 18, 58, 59, 60, 61, 17, 62, 63, 64, 65, 66, 75, 76, 77, 78, 79, 80, 81, 82, 83, 84, 85, 86, 87, 88, 89, 90, 91, 92, 93, 94, 95, 96, 97, 98, 99, 100, 101, 102, 103, 104, 105, 106, 107, 108, 109] rfl (by decide +kernel)
set_option maxRecDepth 20000 in
theorem gX8_order_X8_holdsOut : GoodIn wsX8_order (wsV RX8 175 RX8 yX8_holdsOut wsX8_holdsOut) := goodIn_app (goodIn_of _ (by decide +kernel)) ggX8_order_X8_holdsOut
set_option maxRecDepth 20000 in
theorem ggX8_order_X8_another : GoodIn wsX8_order wsX8_another := goodIn_r _ [70, 2, 3, 71, 72, 73, 9, 74, 75, 76, 77, 78, 79, 80, 81, 82, 83, 84, 85, 86, 87, 88, 89, 90, 91, 92, 93, 94, 95, 96, 97, 98, 99, 100, 101, 102, 103, 104, 105, 106, 107, 108, 109] rfl (by decide +kernel)
set_option maxRecDepth 20000 in
theorem gX8_order_X8_another : GoodIn wsX8_order (wsV RX8 186 RX8 yX8_another wsX8_another) := goodIn_app (goodIn_of _ (by decide +kernel)) ggX8_order_X8_another
theorem dX8_order_0 : decode cX8_order 0 = .ok (.aload_n 0, 1) := by decide +kernel
theorem dX8_order_1 : decode cX8_order 1 = .ok (.iconst 0, 1) := by decide +kernel
theorem dX8_order_2 : decode cX8_order 2 = .ok (.putfield 76, 3) := by decide +kernel
theorem dX8_order_5 : decode cX8_order 5 = .ok (.iload_n 1, 1) := by decide +kernel
theorem dX8_order_6 : decode cX8_order 6 = .ok (.iload_n 2, 1) := by decide +kernel
theorem dX8_order_7 : decode cX8_order 7 = .ok (.invokestatic 168, 3) := by decide +kernel
theorem dX8_order_10 : decode cX8_order 10 = .ok (.ifCond .ne 5, 3) := by decide +kernel
theorem dX8_order_13 : decode cX8_order 13 = .ok (.iconst (-1), 1) := by decide +kernel
theorem dX8_order_14 : decode cX8_order 14 = .ok (.ireturn, 1) := by decide +kernel
theorem dX8_order_15 : decode cX8_order 15 = .ok (.iconst 0, 1) := by decide +kernel
theorem dX8_order_16 : decode cX8_order 16 = .ok (.istore_n 3, 1) := by decide +kernel
theorem dX8_order_17 : decode cX8_order 17 = .ok (.iload_n 3, 1) := by decide +kernel
theorem dX8_order_18 : decode cX8_order 18 = .ok (.aload_n 0, 1) := by decide +kernel
theorem dX8_order_19 : decode cX8_order 19 = .ok (.getfield 79, 3) := by decide +kernel
theorem dX8_order_22 : decode cX8_order 22 = .ok (.if_icmp .ge 16, 3) := by decide +kernel
theorem dX8_order_25 : decode cX8_order 25 = .ok (.aload_n 0, 1) := by decide +kernel
theorem dX8_order_26 : decode cX8_order 26 = .ok (.getfield 70, 3) := by decide +kernel
theorem dX8_order_29 : decode cX8_order 29 = .ok (.iload_n 3, 1) := by decide +kernel
theorem dX8_order_30 : decode cX8_order 30 = .ok (.iload_n 3, 1) := by decide +kernel
theorem dX8_order_31 : decode cX8_order 31 = .ok (.iastore, 1) := by decide +kernel
theorem dX8_order_32 : decode cX8_order 32 = .ok (.iinc 3 1, 3) := by decide +kernel
theorem dX8_order_35 : decode cX8_order 35 = .ok (.goto (-18), 3) := by decide +kernel
theorem dX8_order_38 : decode cX8_order 38 = .ok (.iconst 0, 1) := by decide +kernel
theorem dX8_order_39 : decode cX8_order 39 = .ok (.istore_n 3, 1) := by decide +kernel
theorem dX8_order_40 : decode cX8_order 40 = .ok (.iconst 1, 1) := by decide +kernel
theorem dX8_order_41 : decode cX8_order 41 = .ok (.istore 4, 2) := by decide +kernel
theorem dX8_order_43 : decode cX8_order 43 = .ok (.iload 4, 2) := by decide +kernel
theorem dX8_order_45 : decode cX8_order 45 = .ok (.ifCond .eq 70, 3) := by decide +kernel
theorem dX8_order_48 : decode cX8_order 48 = .ok (.aload_n 0, 1) := by decide +kernel
theorem dX8_order_49 : decode cX8_order 49 = .ok (.invokevirtual 172, 3) := by decide +kernel
theorem dX8_order_52 : decode cX8_order 52 = .ok (.iconst 1, 1) := by decide +kernel
theorem dX8_order_53 : decode cX8_order 53 = .ok (.istore_n 3, 1) := by decide +kernel
theorem dX8_order_54 : decode cX8_order 54 = .ok (.iconst 0, 1) := by decide +kernel
theorem dX8_order_55 : decode cX8_order 55 = .ok (.istore 5, 2) := by decide +kernel
theorem dX8_order_57 : decode cX8_order 57 = .ok (.iload 5, 2) := by decide +kernel
theorem dX8_order_59 : decode cX8_order 59 = .ok (.aload_n 0, 1) := by decide +kernel
theorem dX8_order_60 : decode cX8_order 60 = .ok (.getfield 79, 3) := by decide +kernel
theorem dX8_order_63 : decode cX8_order 63 = .ok (.if_icmp .ge 31, 3) := by decide +kernel
theorem dX8_order_66 : decode cX8_order 66 = .ok (.iload_n 3, 1) := by decide +kernel
theorem dX8_order_67 : decode cX8_order 67 = .ok (.ifCond .eq 27, 3) := by decide +kernel
theorem dX8_order_70 : decode cX8_order 70 = .ok (.aload_n 0, 1) := by decide +kernel
theorem dX8_order_71 : decode cX8_order 71 = .ok (.aload_n 0, 1) := by decide +kernel
theorem dX8_order_72 : decode cX8_order 72 = .ok (.getfield 70, 3) := by decide +kernel
theorem dX8_order_75 : decode cX8_order 75 = .ok (.iload 5, 2) := by decide +kernel
theorem dX8_order_77 : decode cX8_order 77 = .ok (.iaload, 1) := by decide +kernel
theorem dX8_order_78 : decode cX8_order 78 = .ok (.invokevirtual 178, 3) := by decide +kernel
theorem dX8_order_81 : decode cX8_order 81 = .ok (.aload_n 0, 1) := by decide +kernel
theorem dX8_order_82 : decode cX8_order 82 = .ok (.iload_n 1, 1) := by decide +kernel
theorem dX8_order_83 : decode cX8_order 83 = .ok (.iload_n 2, 1) := by decide +kernel
theorem dX8_order_84 : decode cX8_order 84 = .ok (.invokevirtual 175, 3) := by decide +kernel
theorem dX8_order_87 : decode cX8_order 87 = .ok (.istore_n 3, 1) := by decide +kernel
theorem dX8_order_88 : decode cX8_order 88 = .ok (.iinc 5 1, 3) := by decide +kernel
theorem dX8_order_91 : decode cX8_order 91 = .ok (.goto (-34), 3) := by decide +kernel
theorem dX8_order_94 : decode cX8_order 94 = .ok (.iload_n 3, 1) := by decide +kernel
theorem dX8_order_95 : decode cX8_order 95 = .ok (.ifCond .ne 14, 3) := by decide +kernel
theorem dX8_order_98 : decode cX8_order 98 = .ok (.aload_n 0, 1) := by decide +kernel
theorem dX8_order_99 : decode cX8_order 99 = .ok (.invokevirtual 186, 3) := by decide +kernel
theorem dX8_order_102 : decode cX8_order 102 = .ok (.ifCond .eq 7, 3) := by decide +kernel
theorem dX8_order_105 : decode cX8_order 105 = .ok (.iconst 1, 1) := by decide +kernel
theorem dX8_order_106 : decode cX8_order 106 = .ok (.goto 4, 3) := by decide +kernel
theorem dX8_order_109 : decode cX8_order 109 = .ok (.iconst 0, 1) := by decide +kernel
theorem dX8_order_110 : decode cX8_order 110 = .ok (.istore 4, 2) := by decide +kernel
theorem dX8_order_112 : decode cX8_order 112 = .ok (.goto (-69), 3) := by decide +kernel
theorem dX8_order_115 : decode cX8_order 115 = .ok (.aload_n 0, 1) := by decide +kernel
theorem dX8_order_116 : decode cX8_order 116 = .ok (.iconst 0, 1) := by decide +kernel
theorem dX8_order_117 : decode cX8_order 117 = .ok (.putfield 96, 3) := by decide +kernel
theorem dX8_order_120 : decode cX8_order 120 = .ok (.iload_n 3, 1) := by decide +kernel
theorem dX8_order_121 : decode cX8_order 121 = .ok (.ifCond .ne 6, 3) := by decide +kernel
theorem dX8_order_124 : decode cX8_order 124 = .ok (.bipush (-2), 2) := by decide +kernel
theorem dX8_order_126 : decode cX8_order 126 = .ok (.ireturn, 1) := by decide +kernel
theorem dX8_order_127 : decode cX8_order 127 = .ok (.aload_n 0, 1) := by decide +kernel
theorem dX8_order_128 : decode cX8_order 128 = .ok (.aload_n 0, 1) := by decide +kernel
theorem dX8_order_129 : decode cX8_order 129 = .ok (.getfield 79, 3) := by decide +kernel
theorem dX8_order_132 : decode cX8_order 132 = .ok (.putfield 189, 3) := by decide +kernel
theorem dX8_order_135 : decode cX8_order 135 = .ok (.iconst 0, 1) := by decide +kernel
theorem dX8_order_136 : decode cX8_order 136 = .ok (.istore 5, 2) := by decide +kernel
theorem dX8_order_138 : decode cX8_order 138 = .ok (.iload 5, 2) := by decide +kernel
theorem dX8_order_140 : decode cX8_order 140 = .ok (.aload_n 0, 1) := by decide +kernel
theorem dX8_order_141 : decode cX8_order 141 = .ok (.getfield 79, 3) := by decide +kernel
theorem dX8_order_144 : decode cX8_order 144 = .ok (.if_icmp .ge 23, 3) := by decide +kernel
theorem dX8_order_147 : decode cX8_order 147 = .ok (.aload_n 0, 1) := by decide +kernel
theorem dX8_order_148 : decode cX8_order 148 = .ok (.getfield 73, 3) := by decide +kernel
theorem dX8_order_151 : decode cX8_order 151 = .ok (.iload 5, 2) := by decide +kernel
theorem dX8_order_153 : decode cX8_order 153 = .ok (.aload_n 0, 1) := by decide +kernel
theorem dX8_order_154 : decode cX8_order 154 = .ok (.getfield 70, 3) := by decide +kernel
theorem dX8_order_157 : decode cX8_order 157 = .ok (.iload 5, 2) := by decide +kernel
theorem dX8_order_159 : decode cX8_order 159 = .ok (.iaload, 1) := by decide +kernel
theorem dX8_order_160 : decode cX8_order 160 = .ok (.iastore, 1) := by decide +kernel
theorem dX8_order_161 : decode cX8_order 161 = .ok (.iinc 5 1, 3) := by decide +kernel
theorem dX8_order_164 : decode cX8_order 164 = .ok (.goto (-26), 3) := by decide +kernel
theorem dX8_order_167 : decode cX8_order 167 = .ok (.aload_n 0, 1) := by decide +kernel
theorem dX8_order_168 : decode cX8_order 168 = .ok (.getfield 79, 3) := by decide +kernel
theorem dX8_order_171 : decode cX8_order 171 = .ok (.ireturn, 1) := by decide +kernel
theorem dX8_step_0 : decode cX8_step 0 = .ok (.aload_n 0, 1) := by decide +kernel
theorem dX8_step_1 : decode cX8_step 1 = .ok (.iconst 0, 1) := by decide +kernel
theorem dX8_step_2 : decode cX8_step 2 = .ok (.putfield 76, 3) := by decide +kernel
theorem dX8_step_5 : decode cX8_step 5 = .ok (.iload_n 1, 1) := by decide +kernel
theorem dX8_step_6 : decode cX8_step 6 = .ok (.ifCond .lt 11, 3) := by decide +kernel
theorem dX8_step_9 : decode cX8_step 9 = .ok (.iload_n 1, 1) := by decide +kernel
theorem dX8_step_10 : decode cX8_step 10 = .ok (.aload_n 0, 1) := by decide +kernel
theorem dX8_step_11 : decode cX8_step 11 = .ok (.getfield 189, 3) := by decide +kernel
theorem dX8_step_14 : decode cX8_step 14 = .ok (.if_icmp .lt 7, 3) := by decide +kernel
theorem dX8_step_17 : decode cX8_step 17 = .ok (.iconst (-1), 1) := by decide +kernel
theorem dX8_step_18 : decode cX8_step 18 = .ok (.goto 9, 3) := by decide +kernel
theorem dX8_step_21 : decode cX8_step 21 = .ok (.aload_n 0, 1) := by decide +kernel
theorem dX8_step_22 : decode cX8_step 22 = .ok (.getfield 73, 3) := by decide +kernel
theorem dX8_step_25 : decode cX8_step 25 = .ok (.iload_n 1, 1) := by decide +kernel
theorem dX8_step_26 : decode cX8_step 26 = .ok (.iaload, 1) := by decide +kernel
theorem dX8_step_27 : decode cX8_step 27 = .ok (.ireturn, 1) := by decide +kernel
theorem dX8_count_0 : decode cX8_count 0 = .ok (.aload_n 0, 1) := by decide +kernel
theorem dX8_count_1 : decode cX8_count 1 = .ok (.iconst 0, 1) := by decide +kernel
theorem dX8_count_2 : decode cX8_count 2 = .ok (.putfield 76, 3) := by decide +kernel
theorem dX8_count_5 : decode cX8_count 5 = .ok (.iconst 0, 1) := by decide +kernel
theorem dX8_count_6 : decode cX8_count 6 = .ok (.istore_n 2, 1) := by decide +kernel
theorem dX8_count_7 : decode cX8_count 7 = .ok (.iload_n 1, 1) := by decide +kernel
theorem dX8_count_8 : decode cX8_count 8 = .ok (.tableswitch 74 0 3 #[32, 37, 42, 47], 32) := by decide +kernel
theorem dX8_count_40 : decode cX8_count 40 = .ok (.aload_n 0, 1) := by decide +kernel
theorem dX8_count_41 : decode cX8_count 41 = .ok (.getfield 7, 3) := by decide +kernel
theorem dX8_count_44 : decode cX8_count 44 = .ok (.ireturn, 1) := by decide +kernel
theorem dX8_count_45 : decode cX8_count 45 = .ok (.aload_n 0, 1) := by decide +kernel
theorem dX8_count_46 : decode cX8_count 46 = .ok (.getfield 85, 3) := by decide +kernel
theorem dX8_count_49 : decode cX8_count 49 = .ok (.ireturn, 1) := by decide +kernel
theorem dX8_count_50 : decode cX8_count 50 = .ok (.aload_n 0, 1) := by decide +kernel
theorem dX8_count_51 : decode cX8_count 51 = .ok (.getfield 79, 3) := by decide +kernel
theorem dX8_count_54 : decode cX8_count 54 = .ok (.ireturn, 1) := by decide +kernel
theorem dX8_count_55 : decode cX8_count 55 = .ok (.iconst 0, 1) := by decide +kernel
theorem dX8_count_56 : decode cX8_count 56 = .ok (.istore_n 3, 1) := by decide +kernel
theorem dX8_count_57 : decode cX8_count 57 = .ok (.iload_n 3, 1) := by decide +kernel
theorem dX8_count_58 : decode cX8_count 58 = .ok (.aload_n 0, 1) := by decide +kernel
theorem dX8_count_59 : decode cX8_count 59 = .ok (.getfield 7, 3) := by decide +kernel
theorem dX8_count_62 : decode cX8_count 62 = .ok (.if_icmp .ge 18, 3) := by decide +kernel
theorem dX8_count_65 : decode cX8_count 65 = .ok (.iload_n 2, 1) := by decide +kernel
theorem dX8_count_66 : decode cX8_count 66 = .ok (.aload_n 0, 1) := by decide +kernel
theorem dX8_count_67 : decode cX8_count 67 = .ok (.getfield 30, 3) := by decide +kernel
theorem dX8_count_70 : decode cX8_count 70 = .ok (.iload_n 3, 1) := by decide +kernel
theorem dX8_count_71 : decode cX8_count 71 = .ok (.iaload, 1) := by decide +kernel
theorem dX8_count_72 : decode cX8_count 72 = .ok (.iadd, 1) := by decide +kernel
theorem dX8_count_73 : decode cX8_count 73 = .ok (.istore_n 2, 1) := by decide +kernel
theorem dX8_count_74 : decode cX8_count 74 = .ok (.iinc 3 1, 3) := by decide +kernel
theorem dX8_count_77 : decode cX8_count 77 = .ok (.goto (-20), 3) := by decide +kernel
theorem dX8_count_80 : decode cX8_count 80 = .ok (.iload_n 2, 1) := by decide +kernel
theorem dX8_count_81 : decode cX8_count 81 = .ok (.ireturn, 1) := by decide +kernel
theorem dX8_count_82 : decode cX8_count 82 = .ok (.iconst (-1), 1) := by decide +kernel
theorem dX8_count_83 : decode cX8_count 83 = .ok (.ireturn, 1) := by decide +kernel
