set_option maxRecDepth 20000 in
theorem ggX4_init_X1_init : GoodIn wsX4_init wsX1_init := goodIn_r _ [12, 13, 2, 3, 14, 15, 16, 17, 9, 18, 19, 20, 21, 22, 25, 26, 27, 28, 29, 30, 31, 32, 33] rfl (by decide +kernel)
set_option maxRecDepth 20000 in
theorem gX4_init_X1_init : GoodIn wsX4_init (wsX1_init) := ggX4_init_X1_init
theorem dX4_init_0 : decode cX4_init 0 = .ok (.aload_n 0, 1) := by decide +kernel
theorem dX4_init_1 : decode cX4_init 1 = .ok (.invokespecial 3, 3) := by decide +kernel
theorem dX4_init_4 : decode cX4_init 4 = .ok (.aload_n 0, 1) := by decide +kernel
theorem dX4_init_5 : decode cX4_init 5 = .ok (.bipush 12, 2) := by decide +kernel
theorem dX4_init_7 : decode cX4_init 7 = .ok (.anewarray 9, 3) := by decide +kernel
theorem dX4_init_10 : decode cX4_init 10 = .ok (.putfield 11, 3) := by decide +kernel
theorem dX4_init_13 : decode cX4_init 13 = .ok (.aload_n 0, 1) := by decide +kernel
theorem dX4_init_14 : decode cX4_init 14 = .ok (.iconst 2, 1) := by decide +kernel
theorem dX4_init_15 : decode cX4_init 15 = .ok (.putfield 17, 3) := by decide +kernel
theorem dX4_init_18 : decode cX4_init 18 = .ok (.iconst 0, 1) := by decide +kernel
theorem dX4_init_19 : decode cX4_init 19 = .ok (.istore_n 2, 1) := by decide +kernel
theorem dX4_init_20 : decode cX4_init 20 = .ok (.iload_n 2, 1) := by decide +kernel
theorem dX4_init_21 : decode cX4_init 21 = .ok (.bipush 12, 2) := by decide +kernel
theorem dX4_init_23 : decode cX4_init 23 = .ok (.if_icmp .ge 27, 3) := by decide +kernel
theorem dX4_init_26 : decode cX4_init 26 = .ok (.aload_n 0, 1) := by decide +kernel
theorem dX4_init_27 : decode cX4_init 27 = .ok (.getfield 11, 3) := by decide +kernel
theorem dX4_init_30 : decode cX4_init 30 = .ok (.iload_n 2, 1) := by decide +kernel
theorem dX4_init_31 : decode cX4_init 31 = .ok (.new 9, 3) := by decide +kernel
theorem dX4_init_34 : decode cX4_init 34 = .ok (.dup, 1) := by decide +kernel
theorem dX4_init_35 : decode cX4_init 35 = .ok (.aload_n 1, 1) := by decide +kernel
theorem dX4_init_36 : decode cX4_init 36 = .ok (.bipush 24, 2) := by decide +kernel
theorem dX4_init_38 : decode cX4_init 38 = .ok (.newarray .int, 2) := by decide +kernel
theorem dX4_init_40 : decode cX4_init 40 = .ok (.invokespecial 21, 3) := by decide +kernel
theorem dX4_init_43 : decode cX4_init 43 = .ok (.aastore, 1) := by decide +kernel
theorem dX4_init_44 : decode cX4_init 44 = .ok (.iinc 2 1, 3) := by decide +kernel
theorem dX4_init_47 : decode cX4_init 47 = .ok (.goto (-27), 3) := by decide +kernel
theorem dX4_init_50 : decode cX4_init 50 = .ok (.return_, 1) := by decide +kernel
set_option maxRecDepth 20000 in
theorem ggX4_init__X1_init : GoodIn wsX4_init_ wsX1_init := goodIn_r _ [12, 13, 2, 3, 14, 15, 16, 17, 18, 19, 20, 21, 22, 23, 26, 27, 28, 29, 30, 31, 32, 33, 34] rfl (by decide +kernel)
set_option maxRecDepth 20000 in
theorem gX4_init__X1_init : GoodIn wsX4_init_ (wsX1_init) := ggX4_init__X1_init
theorem dX4_init__0 : decode cX4_init_ 0 = .ok (.aload_n 0, 1) := by decide +kernel
theorem dX4_init__1 : decode cX4_init_ 1 = .ok (.invokespecial 3, 3) := by decide +kernel
theorem dX4_init__4 : decode cX4_init_ 4 = .ok (.aload_n 0, 1) := by decide +kernel
theorem dX4_init__5 : decode cX4_init_ 5 = .ok (.bipush 12, 2) := by decide +kernel
theorem dX4_init__7 : decode cX4_init_ 7 = .ok (.anewarray 9, 3) := by decide +kernel
theorem dX4_init__10 : decode cX4_init_ 10 = .ok (.putfield 11, 3) := by decide +kernel
theorem dX4_init__13 : decode cX4_init_ 13 = .ok (.aload_n 0, 1) := by decide +kernel
theorem dX4_init__14 : decode cX4_init_ 14 = .ok (.iconst 2, 1) := by decide +kernel
theorem dX4_init__15 : decode cX4_init_ 15 = .ok (.putfield 17, 3) := by decide +kernel
theorem dX4_init__18 : decode cX4_init_ 18 = .ok (.iconst 0, 1) := by decide +kernel
theorem dX4_init__19 : decode cX4_init_ 19 = .ok (.istore_n 2, 1) := by decide +kernel
theorem dX4_init__20 : decode cX4_init_ 20 = .ok (.iload_n 2, 1) := by decide +kernel
theorem dX4_init__21 : decode cX4_init_ 21 = .ok (.bipush 12, 2) := by decide +kernel
theorem dX4_init__23 : decode cX4_init_ 23 = .ok (.if_icmp .ge 40, 3) := by decide +kernel
theorem dX4_init__26 : decode cX4_init_ 26 = .ok (.aload_n 0, 1) := by decide +kernel
theorem dX4_init__27 : decode cX4_init_ 27 = .ok (.getfield 11, 3) := by decide +kernel
theorem dX4_init__30 : decode cX4_init_ 30 = .ok (.iload_n 2, 1) := by decide +kernel
theorem dX4_init__31 : decode cX4_init_ 31 = .ok (.new 9, 3) := by decide +kernel
theorem dX4_init__34 : decode cX4_init_ 34 = .ok (.dup, 1) := by decide +kernel
theorem dX4_init__35 : decode cX4_init_ 35 = .ok (.aload_n 1, 1) := by decide +kernel
theorem dX4_init__36 : decode cX4_init_ 36 = .ok (.getfield 11, 3) := by decide +kernel
theorem dX4_init__39 : decode cX4_init_ 39 = .ok (.iload_n 2, 1) := by decide +kernel
theorem dX4_init__40 : decode cX4_init_ 40 = .ok (.aaload, 1) := by decide +kernel
theorem dX4_init__41 : decode cX4_init_ 41 = .ok (.getfield 24, 3) := by decide +kernel
theorem dX4_init__44 : decode cX4_init_ 44 = .ok (.aload_n 1, 1) := by decide +kernel
theorem dX4_init__45 : decode cX4_init_ 45 = .ok (.getfield 11, 3) := by decide +kernel
theorem dX4_init__48 : decode cX4_init_ 48 = .ok (.iload_n 2, 1) := by decide +kernel
theorem dX4_init__49 : decode cX4_init_ 49 = .ok (.aaload, 1) := by decide +kernel
theorem dX4_init__50 : decode cX4_init_ 50 = .ok (.getfield 28, 3) := by decide +kernel
theorem dX4_init__53 : decode cX4_init_ 53 = .ok (.invokespecial 21, 3) := by decide +kernel
theorem dX4_init__56 : decode cX4_init_ 56 = .ok (.aastore, 1) := by decide +kernel
theorem dX4_init__57 : decode cX4_init_ 57 = .ok (.iinc 2 1, 3) := by decide +kernel
theorem dX4_init__60 : decode cX4_init_ 60 = .ok (.goto (-40), 3) := by decide +kernel
theorem dX4_init__63 : decode cX4_init_ 63 = .ok (.return_, 1) := by decide +kernel
set_option maxRecDepth 20000 in
theorem ggX4_has_X7_within : GoodIn wsX4_has wsX7_within := goodIn_r _ [4] rfl (by decide +kernel)
set_option maxRecDepth 20000 in
theorem gX4_has_X7_within_n32 : GoodIn wsX4_has (wsX7_within) := ggX4_has_X7_within
theorem dX4_has_0 : decode cX4_has 0 = .ok (.iload_n 1, 1) := by decide +kernel
theorem dX4_has_1 : decode cX4_has 1 = .ok (.iconst 0, 1) := by decide +kernel
theorem dX4_has_2 : decode cX4_has 2 = .ok (.aload_n 0, 1) := by decide +kernel
theorem dX4_has_3 : decode cX4_has 3 = .ok (.getfield 17, 3) := by decide +kernel
theorem dX4_has_6 : decode cX4_has 6 = .ok (.iconst 1, 1) := by decide +kernel
theorem dX4_has_7 : decode cX4_has 7 = .ok (.isub, 1) := by decide +kernel
theorem dX4_has_8 : decode cX4_has 8 = .ok (.invokestatic 32, 3) := by decide +kernel
theorem dX4_has_11 : decode cX4_has 11 = .ok (.ireturn, 1) := by decide +kernel
set_option maxRecDepth 20000 in
theorem ggX4_clearTo_X1_clear : GoodIn wsX4_clearTo wsX1_clear := goodIn_r _ [7, 8, 9, 10, 11, 12, 15, 16, 17, 18, 19, 20, 21, 22, 23] rfl (by decide +kernel)
set_option maxRecDepth 20000 in
theorem gX4_clearTo_X1_clear : GoodIn wsX4_clearTo (wsV RX4 36 RX1 yX1_clear wsX1_clear) := goodIn_app (goodIn_of _ (by decide +kernel)) ggX4_clearTo_X1_clear
theorem dX4_clearTo_0 : decode cX4_clearTo 0 = .ok (.aload_n 0, 1) := by decide +kernel
theorem dX4_clearTo_1 : decode cX4_clearTo 1 = .ok (.iload_n 1, 1) := by decide +kernel
theorem dX4_clearTo_2 : decode cX4_clearTo 2 = .ok (.putfield 17, 3) := by decide +kernel
theorem dX4_clearTo_5 : decode cX4_clearTo 5 = .ok (.iconst 0, 1) := by decide +kernel
theorem dX4_clearTo_6 : decode cX4_clearTo 6 = .ok (.istore_n 2, 1) := by decide +kernel
theorem dX4_clearTo_7 : decode cX4_clearTo 7 = .ok (.iload_n 2, 1) := by decide +kernel
theorem dX4_clearTo_8 : decode cX4_clearTo 8 = .ok (.bipush 12, 2) := by decide +kernel
theorem dX4_clearTo_10 : decode cX4_clearTo 10 = .ok (.if_icmp .ge 18, 3) := by decide +kernel
theorem dX4_clearTo_13 : decode cX4_clearTo 13 = .ok (.aload_n 0, 1) := by decide +kernel
theorem dX4_clearTo_14 : decode cX4_clearTo 14 = .ok (.getfield 11, 3) := by decide +kernel
theorem dX4_clearTo_17 : decode cX4_clearTo 17 = .ok (.iload_n 2, 1) := by decide +kernel
theorem dX4_clearTo_18 : decode cX4_clearTo 18 = .ok (.aaload, 1) := by decide +kernel
theorem dX4_clearTo_19 : decode cX4_clearTo 19 = .ok (.invokevirtual 36, 3) := by decide +kernel
theorem dX4_clearTo_22 : decode cX4_clearTo 22 = .ok (.iinc 2 1, 3) := by decide +kernel
theorem dX4_clearTo_25 : decode cX4_clearTo 25 = .ok (.goto (-18), 3) := by decide +kernel
theorem dX4_clearTo_28 : decode cX4_clearTo 28 = .ok (.return_, 1) := by decide +kernel
set_option maxRecDepth 20000 in
theorem ggX4_copy_X1_copy : GoodIn wsX4_copy wsX1_copy := goodIn_r _ [7, 8, 9, 10, 11, 12, 13, 14, 15, 16, 17, 18, 21, 22, 23, 24, 25, 26, 27, 28, 29] rfl (by decide +kernel)
set_option maxRecDepth 20000 in
theorem gX4_copy_X1_copy : GoodIn wsX4_copy (wsV RX4 39 RX1 yX1_copy wsX1_copy) := goodIn_app (goodIn_of _ (by decide +kernel)) ggX4_copy_X1_copy
theorem dX4_copy_0 : decode cX4_copy 0 = .ok (.aload_n 0, 1) := by decide +kernel
theorem dX4_copy_1 : decode cX4_copy 1 = .ok (.aload_n 1, 1) := by decide +kernel
theorem dX4_copy_2 : decode cX4_copy 2 = .ok (.getfield 17, 3) := by decide +kernel
theorem dX4_copy_5 : decode cX4_copy 5 = .ok (.putfield 17, 3) := by decide +kernel
theorem dX4_copy_8 : decode cX4_copy 8 = .ok (.iconst 0, 1) := by decide +kernel
theorem dX4_copy_9 : decode cX4_copy 9 = .ok (.istore_n 2, 1) := by decide +kernel
theorem dX4_copy_10 : decode cX4_copy 10 = .ok (.iload_n 2, 1) := by decide +kernel
theorem dX4_copy_11 : decode cX4_copy 11 = .ok (.aload_n 0, 1) := by decide +kernel
theorem dX4_copy_12 : decode cX4_copy 12 = .ok (.getfield 17, 3) := by decide +kernel
theorem dX4_copy_15 : decode cX4_copy 15 = .ok (.if_icmp .ge 24, 3) := by decide +kernel
theorem dX4_copy_18 : decode cX4_copy 18 = .ok (.aload_n 0, 1) := by decide +kernel
theorem dX4_copy_19 : decode cX4_copy 19 = .ok (.getfield 11, 3) := by decide +kernel
theorem dX4_copy_22 : decode cX4_copy 22 = .ok (.iload_n 2, 1) := by decide +kernel
theorem dX4_copy_23 : decode cX4_copy 23 = .ok (.aaload, 1) := by decide +kernel
theorem dX4_copy_24 : decode cX4_copy 24 = .ok (.aload_n 1, 1) := by decide +kernel
theorem dX4_copy_25 : decode cX4_copy 25 = .ok (.getfield 11, 3) := by decide +kernel
theorem dX4_copy_28 : decode cX4_copy 28 = .ok (.iload_n 2, 1) := by decide +kernel
theorem dX4_copy_29 : decode cX4_copy 29 = .ok (.aaload, 1) := by decide +kernel
theorem dX4_copy_30 : decode cX4_copy 30 = .ok (.invokevirtual 39, 3) := by decide +kernel
theorem dX4_copy_33 : decode cX4_copy 33 = .ok (.iinc 2 1, 3) := by decide +kernel
theorem dX4_copy_36 : decode cX4_copy 36 = .ok (.goto (-26), 3) := by decide +kernel
theorem dX4_copy_39 : decode cX4_copy 39 = .ok (.return_, 1) := by decide +kernel
set_option maxRecDepth 20000 in
theorem ggX4_reckon_X1_reckon : GoodIn wsX4_reckon wsX1_reckon := goodIn_r _ [7, 8, 9, 10, 11, 12, 13, 14, 15, 16, 17, 18, 6, 19, 20, 21, 22, 23, 24, 25, 26, 27, 28, 31, 32, 33, 34, 35, 36, 37, 38, 39, 40, 41, 42, 43, 44] rfl (by decide +kernel)
set_option maxRecDepth 20000 in
theorem gX4_reckon_X1_reckon : GoodIn wsX4_reckon (wsV RX4 43 RX1 yX1_reckon wsX1_reckon) := goodIn_app (goodIn_of _ (by decide +kernel)) ggX4_reckon_X1_reckon
theorem dX4_reckon_0 : decode cX4_reckon 0 = .ok (.iconst 0, 1) := by decide +kernel
theorem dX4_reckon_1 : decode cX4_reckon 1 = .ok (.istore_n 1, 1) := by decide +kernel
theorem dX4_reckon_2 : decode cX4_reckon 2 = .ok (.iload_n 1, 1) := by decide +kernel
theorem dX4_reckon_3 : decode cX4_reckon 3 = .ok (.aload_n 0, 1) := by decide +kernel
theorem dX4_reckon_4 : decode cX4_reckon 4 = .ok (.getfield 17, 3) := by decide +kernel
theorem dX4_reckon_7 : decode cX4_reckon 7 = .ok (.if_icmp .ge 18, 3) := by decide +kernel
theorem dX4_reckon_10 : decode cX4_reckon 10 = .ok (.aload_n 0, 1) := by decide +kernel
theorem dX4_reckon_11 : decode cX4_reckon 11 = .ok (.getfield 11, 3) := by decide +kernel
theorem dX4_reckon_14 : decode cX4_reckon 14 = .ok (.iload_n 1, 1) := by decide +kernel
theorem dX4_reckon_15 : decode cX4_reckon 15 = .ok (.aaload, 1) := by decide +kernel
theorem dX4_reckon_16 : decode cX4_reckon 16 = .ok (.invokevirtual 43, 3) := by decide +kernel
theorem dX4_reckon_19 : decode cX4_reckon 19 = .ok (.iinc 1 1, 3) := by decide +kernel
theorem dX4_reckon_22 : decode cX4_reckon 22 = .ok (.goto (-20), 3) := by decide +kernel
theorem dX4_reckon_25 : decode cX4_reckon 25 = .ok (.return_, 1) := by decide +kernel
set_option maxRecDepth 20000 in
theorem ggX4_raiseWater_X1_put : GoodIn wsX4_raiseWater wsX1_put := goodIn_r _ [12, 13, 14, 15, 16, 19, 20, 21, 22, 23, 24, 25, 26, 27] rfl (by decide +kernel)
set_option maxRecDepth 20000 in
theorem gX4_raiseWater_X1_put : GoodIn wsX4_raiseWater (wsV RX4 55 RX1 yX1_put wsX1_put) := goodIn_app (goodIn_of _ (by decide +kernel)) ggX4_raiseWater_X1_put
theorem dX4_raiseWater_0 : decode cX4_raiseWater 0 = .ok (.iconst 0, 1) := by decide +kernel
theorem dX4_raiseWater_1 : decode cX4_raiseWater 1 = .ok (.istore_n 2, 1) := by decide +kernel
theorem dX4_raiseWater_2 : decode cX4_raiseWater 2 = .ok (.iload_n 2, 1) := by decide +kernel
theorem dX4_raiseWater_3 : decode cX4_raiseWater 3 = .ok (.aload_n 0, 1) := by decide +kernel
theorem dX4_raiseWater_4 : decode cX4_raiseWater 4 = .ok (.getfield 17, 3) := by decide +kernel
theorem dX4_raiseWater_7 : decode cX4_raiseWater 7 = .ok (.if_icmp .ge 35, 3) := by decide +kernel
theorem dX4_raiseWater_10 : decode cX4_raiseWater 10 = .ok (.aload_n 0, 1) := by decide +kernel
theorem dX4_raiseWater_11 : decode cX4_raiseWater 11 = .ok (.getfield 11, 3) := by decide +kernel
theorem dX4_raiseWater_14 : decode cX4_raiseWater 14 = .ok (.iload_n 2, 1) := by decide +kernel
theorem dX4_raiseWater_15 : decode cX4_raiseWater 15 = .ok (.aaload, 1) := by decide +kernel
theorem dX4_raiseWater_16 : decode cX4_raiseWater 16 = .ok (.iconst 0, 1) := by decide +kernel
theorem dX4_raiseWater_17 : decode cX4_raiseWater 17 = .ok (.aload_n 0, 1) := by decide +kernel
theorem dX4_raiseWater_18 : decode cX4_raiseWater 18 = .ok (.getfield 11, 3) := by decide +kernel
theorem dX4_raiseWater_21 : decode cX4_raiseWater 21 = .ok (.iload_n 2, 1) := by decide +kernel
theorem dX4_raiseWater_22 : decode cX4_raiseWater 22 = .ok (.aaload, 1) := by decide +kernel
theorem dX4_raiseWater_23 : decode cX4_raiseWater 23 = .ok (.getfield 46, 3) := by decide +kernel
theorem dX4_raiseWater_26 : decode cX4_raiseWater 26 = .ok (.iload_n 1, 1) := by decide +kernel
theorem dX4_raiseWater_27 : decode cX4_raiseWater 27 = .ok (.iadd, 1) := by decide +kernel
theorem dX4_raiseWater_28 : decode cX4_raiseWater 28 = .ok (.bipush 24, 2) := by decide +kernel
theorem dX4_raiseWater_30 : decode cX4_raiseWater 30 = .ok (.invokestatic 49, 3) := by decide +kernel
theorem dX4_raiseWater_33 : decode cX4_raiseWater 33 = .ok (.invokevirtual 55, 3) := by decide +kernel
theorem dX4_raiseWater_36 : decode cX4_raiseWater 36 = .ok (.iinc 2 1, 3) := by decide +kernel
theorem dX4_raiseWater_39 : decode cX4_raiseWater 39 = .ok (.goto (-37), 3) := by decide +kernel
theorem dX4_raiseWater_42 : decode cX4_raiseWater 42 = .ok (.return_, 1) := by decide +kernel
theorem dX4_cellCount_0 : decode cX4_cellCount 0 = .ok (.iconst 0, 1) := by decide +kernel
theorem dX4_cellCount_1 : decode cX4_cellCount 1 = .ok (.istore_n 1, 1) := by decide +kernel
theorem dX4_cellCount_2 : decode cX4_cellCount 2 = .ok (.iconst 0, 1) := by decide +kernel
theorem dX4_cellCount_3 : decode cX4_cellCount 3 = .ok (.istore_n 2, 1) := by decide +kernel
theorem dX4_cellCount_4 : decode cX4_cellCount 4 = .ok (.iload_n 2, 1) := by decide +kernel
theorem dX4_cellCount_5 : decode cX4_cellCount 5 = .ok (.aload_n 0, 1) := by decide +kernel
theorem dX4_cellCount_6 : decode cX4_cellCount 6 = .ok (.getfield 17, 3) := by decide +kernel
theorem dX4_cellCount_9 : decode cX4_cellCount 9 = .ok (.if_icmp .ge 21, 3) := by decide +kernel
theorem dX4_cellCount_12 : decode cX4_cellCount 12 = .ok (.iload_n 1, 1) := by decide +kernel
theorem dX4_cellCount_13 : decode cX4_cellCount 13 = .ok (.aload_n 0, 1) := by decide +kernel
theorem dX4_cellCount_14 : decode cX4_cellCount 14 = .ok (.getfield 11, 3) := by decide +kernel
theorem dX4_cellCount_17 : decode cX4_cellCount 17 = .ok (.iload_n 2, 1) := by decide +kernel
theorem dX4_cellCount_18 : decode cX4_cellCount 18 = .ok (.aaload, 1) := by decide +kernel
theorem dX4_cellCount_19 : decode cX4_cellCount 19 = .ok (.getfield 59, 3) := by decide +kernel
theorem dX4_cellCount_22 : decode cX4_cellCount 22 = .ok (.iadd, 1) := by decide +kernel
theorem dX4_cellCount_23 : decode cX4_cellCount 23 = .ok (.istore_n 1, 1) := by decide +kernel
theorem dX4_cellCount_24 : decode cX4_cellCount 24 = .ok (.iinc 2 1, 3) := by decide +kernel
theorem dX4_cellCount_27 : decode cX4_cellCount 27 = .ok (.goto (-23), 3) := by decide +kernel
theorem dX4_cellCount_30 : decode cX4_cellCount 30 = .ok (.iload_n 1, 1) := by decide +kernel
theorem dX4_cellCount_31 : decode cX4_cellCount 31 = .ok (.ireturn, 1) := by decide +kernel
set_option maxRecDepth 20000 in
theorem ggX4_bears_X5_end : GoodIn wsX4_bears wsX5_end := goodIn_r _ [11, 12, 13, 55, 56, 57] rfl (by decide +kernel)
set_option maxRecDepth 20000 in
theorem gX4_bears_X5_end : GoodIn wsX4_bears (wsV RX4 67 RX5 yX5_end wsX5_end) := goodIn_app (goodIn_of _ (by decide +kernel)) ggX4_bears_X5_end
set_option maxRecDepth 20000 in
theorem ggX4_bears_X4_holdsOfPart : GoodIn wsX4_bears wsX4_holdsOfPart := goodIn_r _ [18, 4, 5, 3, 19, 20, 21, 22, 23, 24, 25, 26, 27, 28, 29, 30, 31, 32, 33, 34, 35, 36, 37, 38, 39, 40, 41, 42, 43, 44, 45, 46, 47, 48, 49, 50, 51, 52, 53, 54, 58, 59, 55, 56, 57, 60, 61, 62, 63, 64, 65, 66, 67, 68, 69, 70, 71, 72, 73] rfl (by decide +kernel)
set_option maxRecDepth 20000 in
theorem gX4_bears_X4_holdsOfPart : GoodIn wsX4_bears (wsV RX4 77 RX4 yX4_holdsOfPart wsX4_holdsOfPart) := goodIn_app (goodIn_of _ (by decide +kernel)) ggX4_bears_X4_holdsOfPart
theorem dX4_bears_0 : decode cX4_bears 0 = .ok (.aload_n 1, 1) := by decide +kernel
theorem dX4_bears_1 : decode cX4_bears 1 = .ok (.getfield 62, 3) := by decide +kernel
theorem dX4_bears_4 : decode cX4_bears 4 = .ok (.iconst 2, 1) := by decide +kernel
theorem dX4_bears_5 : decode cX4_bears 5 = .ok (.if_icmp .lt 14, 3) := by decide +kernel
theorem dX4_bears_8 : decode cX4_bears 8 = .ok (.aload_n 1, 1) := by decide +kernel
theorem dX4_bears_9 : decode cX4_bears 9 = .ok (.invokevirtual 67, 3) := by decide +kernel
theorem dX4_bears_12 : decode cX4_bears 12 = .ok (.aload_n 0, 1) := by decide +kernel
theorem dX4_bears_13 : decode cX4_bears 13 = .ok (.getfield 17, 3) := by decide +kernel
theorem dX4_bears_16 : decode cX4_bears 16 = .ok (.if_icmp .le 5, 3) := by decide +kernel
theorem dX4_bears_19 : decode cX4_bears 19 = .ok (.iconst 0, 1) := by decide +kernel
theorem dX4_bears_20 : decode cX4_bears 20 = .ok (.ireturn, 1) := by decide +kernel
theorem dX4_bears_21 : decode cX4_bears 21 = .ok (.aload_n 1, 1) := by decide +kernel
theorem dX4_bears_22 : decode cX4_bears 22 = .ok (.getfield 71, 3) := by decide +kernel
theorem dX4_bears_25 : decode cX4_bears 25 = .ok (.iconst 0, 1) := by decide +kernel
theorem dX4_bears_26 : decode cX4_bears 26 = .ok (.iaload, 1) := by decide +kernel
theorem dX4_bears_27 : decode cX4_bears 27 = .ok (.aload_n 0, 1) := by decide +kernel
theorem dX4_bears_28 : decode cX4_bears 28 = .ok (.getfield 11, 3) := by decide +kernel
theorem dX4_bears_31 : decode cX4_bears 31 = .ok (.aload_n 1, 1) := by decide +kernel
theorem dX4_bears_32 : decode cX4_bears 32 = .ok (.getfield 74, 3) := by decide +kernel
theorem dX4_bears_35 : decode cX4_bears 35 = .ok (.aaload, 1) := by decide +kernel
theorem dX4_bears_36 : decode cX4_bears 36 = .ok (.getfield 59, 3) := by decide +kernel
theorem dX4_bears_39 : decode cX4_bears 39 = .ok (.if_icmp .eq 5, 3) := by decide +kernel
theorem dX4_bears_42 : decode cX4_bears 42 = .ok (.iconst 0, 1) := by decide +kernel
theorem dX4_bears_43 : decode cX4_bears 43 = .ok (.ireturn, 1) := by decide +kernel
theorem dX4_bears_44 : decode cX4_bears 44 = .ok (.aload_n 1, 1) := by decide +kernel
theorem dX4_bears_45 : decode cX4_bears 45 = .ok (.getfield 71, 3) := by decide +kernel
theorem dX4_bears_48 : decode cX4_bears 48 = .ok (.aload_n 1, 1) := by decide +kernel
theorem dX4_bears_49 : decode cX4_bears 49 = .ok (.getfield 62, 3) := by decide +kernel
theorem dX4_bears_52 : decode cX4_bears 52 = .ok (.iconst 1, 1) := by decide +kernel
theorem dX4_bears_53 : decode cX4_bears 53 = .ok (.isub, 1) := by decide +kernel
theorem dX4_bears_54 : decode cX4_bears 54 = .ok (.iaload, 1) := by decide +kernel
theorem dX4_bears_55 : decode cX4_bears 55 = .ok (.aload_n 0, 1) := by decide +kernel
theorem dX4_bears_56 : decode cX4_bears 56 = .ok (.getfield 11, 3) := by decide +kernel
theorem dX4_bears_59 : decode cX4_bears 59 = .ok (.aload_n 1, 1) := by decide +kernel
theorem dX4_bears_60 : decode cX4_bears 60 = .ok (.invokevirtual 67, 3) := by decide +kernel
theorem dX4_bears_63 : decode cX4_bears 63 = .ok (.iconst 1, 1) := by decide +kernel
theorem dX4_bears_64 : decode cX4_bears 64 = .ok (.isub, 1) := by decide +kernel
theorem dX4_bears_65 : decode cX4_bears 65 = .ok (.aaload, 1) := by decide +kernel
theorem dX4_bears_66 : decode cX4_bears 66 = .ok (.getfield 59, 3) := by decide +kernel
theorem dX4_bears_69 : decode cX4_bears 69 = .ok (.if_icmp .eq 5, 3) := by decide +kernel
theorem dX4_bears_72 : decode cX4_bears 72 = .ok (.iconst 0, 1) := by decide +kernel
theorem dX4_bears_73 : decode cX4_bears 73 = .ok (.ireturn, 1) := by decide +kernel
theorem dX4_bears_74 : decode cX4_bears 74 = .ok (.iconst 0, 1) := by decide +kernel
theorem dX4_bears_75 : decode cX4_bears 75 = .ok (.istore_n 2, 1) := by decide +kernel
theorem dX4_bears_76 : decode cX4_bears 76 = .ok (.iload_n 2, 1) := by decide +kernel
theorem dX4_bears_77 : decode cX4_bears 77 = .ok (.iconst 1, 1) := by decide +kernel
theorem dX4_bears_78 : decode cX4_bears 78 = .ok (.iadd, 1) := by decide +kernel
theorem dX4_bears_79 : decode cX4_bears 79 = .ok (.aload_n 1, 1) := by decide +kernel
theorem dX4_bears_80 : decode cX4_bears 80 = .ok (.getfield 62, 3) := by decide +kernel
theorem dX4_bears_83 : decode cX4_bears 83 = .ok (.if_icmp .ge 21, 3) := by decide +kernel
theorem dX4_bears_86 : decode cX4_bears 86 = .ok (.aload_n 0, 1) := by decide +kernel
theorem dX4_bears_87 : decode cX4_bears 87 = .ok (.aload_n 1, 1) := by decide +kernel
theorem dX4_bears_88 : decode cX4_bears 88 = .ok (.iload_n 2, 1) := by decide +kernel
theorem dX4_bears_89 : decode cX4_bears 89 = .ok (.invokevirtual 77, 3) := by decide +kernel
theorem dX4_bears_92 : decode cX4_bears 92 = .ok (.iconst (-1), 1) := by decide +kernel
theorem dX4_bears_93 : decode cX4_bears 93 = .ok (.if_icmp .ne 5, 3) := by decide +kernel
theorem dX4_bears_96 : decode cX4_bears 96 = .ok (.iconst 0, 1) := by decide +kernel
theorem dX4_bears_97 : decode cX4_bears 97 = .ok (.ireturn, 1) := by decide +kernel
theorem dX4_bears_98 : decode cX4_bears 98 = .ok (.iinc 2 1, 3) := by decide +kernel
theorem dX4_bears_101 : decode cX4_bears 101 = .ok (.goto (-25), 3) := by decide +kernel
theorem dX4_bears_104 : decode cX4_bears 104 = .ok (.iconst 1, 1) := by decide +kernel
theorem dX4_bears_105 : decode cX4_bears 105 = .ok (.ireturn, 1) := by decide +kernel
set_option maxRecDepth 20000 in
theorem ggX4_holdsAlong_X4_holdsOfPart : GoodIn wsX4_holdsAlong wsX4_holdsOfPart := goodIn_r _ [6, 7, 8, 9, 10, 11, 12, 13, 14, 15, 16, 17, 18, 19, 20, 21, 22, 23, 24, 25, 26, 27, 28, 29, 30, 31, 32, 33, 34, 35, 36, 37, 38, 39, 40, 41, 42, 43, 44, 45, 49, 50, 46, 47, 48, 51, 52, 53, 54, 55, 56, 57, 58, 59, 60, 61, 62, 63, 64] rfl (by decide +kernel)
set_option maxRecDepth 20000 in
theorem gX4_holdsAlong_X4_holdsOfPart : GoodIn wsX4_holdsAlong (wsV RX4 77 RX4 yX4_holdsOfPart wsX4_holdsOfPart) := goodIn_app (goodIn_of _ (by decide +kernel)) ggX4_holdsAlong_X4_holdsOfPart
theorem dX4_holdsAlong_0 : decode cX4_holdsAlong 0 = .ok (.lconst 0, 1) := by decide +kernel
theorem dX4_holdsAlong_1 : decode cX4_holdsAlong 1 = .ok (.lstore_n 2, 1) := by decide +kernel
theorem dX4_holdsAlong_2 : decode cX4_holdsAlong 2 = .ok (.iconst 0, 1) := by decide +kernel
theorem dX4_holdsAlong_3 : decode cX4_holdsAlong 3 = .ok (.istore 4, 2) := by decide +kernel
theorem dX4_holdsAlong_5 : decode cX4_holdsAlong 5 = .ok (.iload 4, 2) := by decide +kernel
theorem dX4_holdsAlong_7 : decode cX4_holdsAlong 7 = .ok (.iconst 1, 1) := by decide +kernel
theorem dX4_holdsAlong_8 : decode cX4_holdsAlong 8 = .ok (.iadd, 1) := by decide +kernel
theorem dX4_holdsAlong_9 : decode cX4_holdsAlong 9 = .ok (.aload_n 1, 1) := by decide +kernel
theorem dX4_holdsAlong_10 : decode cX4_holdsAlong 10 = .ok (.getfield 62, 3) := by decide +kernel
theorem dX4_holdsAlong_13 : decode cX4_holdsAlong 13 = .ok (.if_icmp .ge 20, 3) := by decide +kernel
theorem dX4_holdsAlong_16 : decode cX4_holdsAlong 16 = .ok (.lload_n 2, 1) := by decide +kernel
theorem dX4_holdsAlong_17 : decode cX4_holdsAlong 17 = .ok (.aload_n 0, 1) := by decide +kernel
theorem dX4_holdsAlong_18 : decode cX4_holdsAlong 18 = .ok (.aload_n 1, 1) := by decide +kernel
theorem dX4_holdsAlong_19 : decode cX4_holdsAlong 19 = .ok (.iload 4, 2) := by decide +kernel
theorem dX4_holdsAlong_21 : decode cX4_holdsAlong 21 = .ok (.invokevirtual 77, 3) := by decide +kernel
theorem dX4_holdsAlong_24 : decode cX4_holdsAlong 24 = .ok (.i2l, 1) := by decide +kernel
theorem dX4_holdsAlong_25 : decode cX4_holdsAlong 25 = .ok (.ladd, 1) := by decide +kernel
theorem dX4_holdsAlong_26 : decode cX4_holdsAlong 26 = .ok (.lstore_n 2, 1) := by decide +kernel
theorem dX4_holdsAlong_27 : decode cX4_holdsAlong 27 = .ok (.iinc 4 1, 3) := by decide +kernel
theorem dX4_holdsAlong_30 : decode cX4_holdsAlong 30 = .ok (.goto (-25), 3) := by decide +kernel
theorem dX4_holdsAlong_33 : decode cX4_holdsAlong 33 = .ok (.lload_n 2, 1) := by decide +kernel
theorem dX4_holdsAlong_34 : decode cX4_holdsAlong 34 = .ok (.lreturn, 1) := by decide +kernel
set_option maxRecDepth 20000 in
theorem ggX4_drivesAlong_X1_reckon : GoodIn wsX4_drivesAlong wsX1_reckon := goodIn_r _ [13, 14, 15, 16, 17, 18, 19, 20, 21, 22, 23, 24, 12, 25, 26, 27, 28, 6, 7, 8, 29, 30, 31, 41, 42, 43, 44, 45, 46, 47, 48, 49, 50, 51, 52, 53, 54] rfl (by decide +kernel)
set_option maxRecDepth 20000 in
theorem gX4_drivesAlong_X1_reckon : GoodIn wsX4_drivesAlong (wsV RX4 43 RX1 yX1_reckon wsX1_reckon) := goodIn_app (goodIn_of _ (by decide +kernel)) ggX4_drivesAlong_X1_reckon
set_option maxRecDepth 20000 in
theorem ggX4_drivesAlong_X1_drivesFrom : GoodIn wsX4_drivesAlong wsX1_drivesFrom := goodIn_r _ [35, 16, 15, 41, 42, 43, 44, 45, 46, 47, 48, 49] rfl (by decide +kernel)
set_option maxRecDepth 20000 in
theorem gX4_drivesAlong_X1_drivesFrom : GoodIn wsX4_drivesAlong (wsV RX4 84 RX1 yX1_drivesFrom wsX1_drivesFrom) := goodIn_app (goodIn_of _ (by decide +kernel)) ggX4_drivesAlong_X1_drivesFrom
theorem dX4_drivesAlong_0 : decode cX4_drivesAlong 0 = .ok (.lconst 0, 1) := by decide +kernel
theorem dX4_drivesAlong_1 : decode cX4_drivesAlong 1 = .ok (.lstore_n 2, 1) := by decide +kernel
theorem dX4_drivesAlong_2 : decode cX4_drivesAlong 2 = .ok (.iconst 0, 1) := by decide +kernel
theorem dX4_drivesAlong_3 : decode cX4_drivesAlong 3 = .ok (.istore 4, 2) := by decide +kernel
theorem dX4_drivesAlong_5 : decode cX4_drivesAlong 5 = .ok (.iload 4, 2) := by decide +kernel
theorem dX4_drivesAlong_7 : decode cX4_drivesAlong 7 = .ok (.iconst 1, 1) := by decide +kernel
theorem dX4_drivesAlong_8 : decode cX4_drivesAlong 8 = .ok (.iadd, 1) := by decide +kernel
theorem dX4_drivesAlong_9 : decode cX4_drivesAlong 9 = .ok (.aload_n 1, 1) := by decide +kernel
theorem dX4_drivesAlong_10 : decode cX4_drivesAlong 10 = .ok (.getfield 62, 3) := by decide +kernel
theorem dX4_drivesAlong_13 : decode cX4_drivesAlong 13 = .ok (.if_icmp .ge 77, 3) := by decide +kernel
theorem dX4_drivesAlong_16 : decode cX4_drivesAlong 16 = .ok (.aload_n 0, 1) := by decide +kernel
theorem dX4_drivesAlong_17 : decode cX4_drivesAlong 17 = .ok (.getfield 11, 3) := by decide +kernel
theorem dX4_drivesAlong_20 : decode cX4_drivesAlong 20 = .ok (.aload_n 1, 1) := by decide +kernel
theorem dX4_drivesAlong_21 : decode cX4_drivesAlong 21 = .ok (.getfield 74, 3) := by decide +kernel
theorem dX4_drivesAlong_24 : decode cX4_drivesAlong 24 = .ok (.iload 4, 2) := by decide +kernel
theorem dX4_drivesAlong_26 : decode cX4_drivesAlong 26 = .ok (.iadd, 1) := by decide +kernel
theorem dX4_drivesAlong_27 : decode cX4_drivesAlong 27 = .ok (.aaload, 1) := by decide +kernel
theorem dX4_drivesAlong_28 : decode cX4_drivesAlong 28 = .ok (.astore 5, 2) := by decide +kernel
theorem dX4_drivesAlong_30 : decode cX4_drivesAlong 30 = .ok (.aload 5, 2) := by decide +kernel
theorem dX4_drivesAlong_32 : decode cX4_drivesAlong 32 = .ok (.invokevirtual 43, 3) := by decide +kernel
theorem dX4_drivesAlong_35 : decode cX4_drivesAlong 35 = .ok (.aload_n 1, 1) := by decide +kernel
theorem dX4_drivesAlong_36 : decode cX4_drivesAlong 36 = .ok (.getfield 71, 3) := by decide +kernel
theorem dX4_drivesAlong_39 : decode cX4_drivesAlong 39 = .ok (.iload 4, 2) := by decide +kernel
theorem dX4_drivesAlong_41 : decode cX4_drivesAlong 41 = .ok (.iaload, 1) := by decide +kernel
theorem dX4_drivesAlong_42 : decode cX4_drivesAlong 42 = .ok (.aload_n 1, 1) := by decide +kernel
theorem dX4_drivesAlong_43 : decode cX4_drivesAlong 43 = .ok (.getfield 71, 3) := by decide +kernel
theorem dX4_drivesAlong_46 : decode cX4_drivesAlong 46 = .ok (.iload 4, 2) := by decide +kernel
theorem dX4_drivesAlong_48 : decode cX4_drivesAlong 48 = .ok (.iconst 1, 1) := by decide +kernel
theorem dX4_drivesAlong_49 : decode cX4_drivesAlong 49 = .ok (.iadd, 1) := by decide +kernel
theorem dX4_drivesAlong_50 : decode cX4_drivesAlong 50 = .ok (.iaload, 1) := by decide +kernel
theorem dX4_drivesAlong_51 : decode cX4_drivesAlong 51 = .ok (.invokestatic 81, 3) := by decide +kernel
theorem dX4_drivesAlong_54 : decode cX4_drivesAlong 54 = .ok (.istore 6, 2) := by decide +kernel
theorem dX4_drivesAlong_56 : decode cX4_drivesAlong 56 = .ok (.lload_n 2, 1) := by decide +kernel
theorem dX4_drivesAlong_57 : decode cX4_drivesAlong 57 = .ok (.aload 5, 2) := by decide +kernel
theorem dX4_drivesAlong_59 : decode cX4_drivesAlong 59 = .ok (.iload 6, 2) := by decide +kernel
theorem dX4_drivesAlong_61 : decode cX4_drivesAlong 61 = .ok (.aload_n 1, 1) := by decide +kernel
theorem dX4_drivesAlong_62 : decode cX4_drivesAlong 62 = .ok (.getfield 71, 3) := by decide +kernel
theorem dX4_drivesAlong_65 : decode cX4_drivesAlong 65 = .ok (.iload 4, 2) := by decide +kernel
theorem dX4_drivesAlong_67 : decode cX4_drivesAlong 67 = .ok (.iaload, 1) := by decide +kernel
theorem dX4_drivesAlong_68 : decode cX4_drivesAlong 68 = .ok (.aload_n 1, 1) := by decide +kernel
theorem dX4_drivesAlong_69 : decode cX4_drivesAlong 69 = .ok (.getfield 71, 3) := by decide +kernel
theorem dX4_drivesAlong_72 : decode cX4_drivesAlong 72 = .ok (.iload 4, 2) := by decide +kernel
theorem dX4_drivesAlong_74 : decode cX4_drivesAlong 74 = .ok (.iconst 1, 1) := by decide +kernel
theorem dX4_drivesAlong_75 : decode cX4_drivesAlong 75 = .ok (.iadd, 1) := by decide +kernel
theorem dX4_drivesAlong_76 : decode cX4_drivesAlong 76 = .ok (.iaload, 1) := by decide +kernel
theorem dX4_drivesAlong_77 : decode cX4_drivesAlong 77 = .ok (.isub, 1) := by decide +kernel
theorem dX4_drivesAlong_78 : decode cX4_drivesAlong 78 = .ok (.invokevirtual 84, 3) := by decide +kernel
theorem dX4_drivesAlong_81 : decode cX4_drivesAlong 81 = .ok (.i2l, 1) := by decide +kernel
theorem dX4_drivesAlong_82 : decode cX4_drivesAlong 82 = .ok (.ladd, 1) := by decide +kernel
theorem dX4_drivesAlong_83 : decode cX4_drivesAlong 83 = .ok (.lstore_n 2, 1) := by decide +kernel
theorem dX4_drivesAlong_84 : decode cX4_drivesAlong 84 = .ok (.iinc 4 1, 3) := by decide +kernel
theorem dX4_drivesAlong_87 : decode cX4_drivesAlong 87 = .ok (.goto (-82), 3) := by decide +kernel
theorem dX4_drivesAlong_90 : decode cX4_drivesAlong 90 = .ok (.lload_n 2, 1) := by decide +kernel
theorem dX4_drivesAlong_91 : decode cX4_drivesAlong 91 = .ok (.lreturn, 1) := by decide +kernel
set_option maxRecDepth 20000 in
theorem ggX4_holdsOfPart_X1_reckon : GoodIn wsX4_holdsOfPart wsX1_reckon := goodIn_r _ [15, 16, 17, 18, 19, 20, 21, 22, 23, 24, 25, 26, 14, 27, 28, 29, 30, 31, 6, 32, 33, 34, 35, 45, 46, 47, 48, 49, 50, 51, 52, 53, 54, 55, 56, 57, 58] rfl (by decide +kernel)
set_option maxRecDepth 20000 in
theorem gX4_holdsOfPart_X1_reckon : GoodIn wsX4_holdsOfPart (wsV RX4 43 RX1 yX1_reckon wsX1_reckon) := goodIn_app (goodIn_of _ (by decide +kernel)) ggX4_holdsOfPart_X1_reckon
set_option maxRecDepth 20000 in
theorem ggX4_holdsOfPart_X1_holdsAt : GoodIn wsX4_holdsOfPart wsX1_holdsAt := goodIn_r _ [39, 18, 23, 45, 46, 47, 48, 49, 50, 51, 52, 53] rfl (by decide +kernel)
set_option maxRecDepth 20000 in
theorem gX4_holdsOfPart_X1_holdsAt : GoodIn wsX4_holdsOfPart (wsV RX4 91 RX1 yX1_holdsAt wsX1_holdsAt) := goodIn_app (goodIn_of _ (by decide +kernel)) ggX4_holdsOfPart_X1_holdsAt
theorem dX4_holdsOfPart_0 : decode cX4_holdsOfPart 0 = .ok (.aload_n 0, 1) := by decide +kernel
theorem dX4_holdsOfPart_1 : decode cX4_holdsOfPart 1 = .ok (.getfield 11, 3) := by decide +kernel
theorem dX4_holdsOfPart_4 : decode cX4_holdsOfPart 4 = .ok (.aload_n 1, 1) := by decide +kernel
theorem dX4_holdsOfPart_5 : decode cX4_holdsOfPart 5 = .ok (.getfield 74, 3) := by decide +kernel
theorem dX4_holdsOfPart_8 : decode cX4_holdsOfPart 8 = .ok (.iload_n 2, 1) := by decide +kernel
theorem dX4_holdsOfPart_9 : decode cX4_holdsOfPart 9 = .ok (.iadd, 1) := by decide +kernel
theorem dX4_holdsOfPart_10 : decode cX4_holdsOfPart 10 = .ok (.aaload, 1) := by decide +kernel
theorem dX4_holdsOfPart_11 : decode cX4_holdsOfPart 11 = .ok (.astore_n 3, 1) := by decide +kernel
theorem dX4_holdsOfPart_12 : decode cX4_holdsOfPart 12 = .ok (.aload_n 3, 1) := by decide +kernel
theorem dX4_holdsOfPart_13 : decode cX4_holdsOfPart 13 = .ok (.invokevirtual 43, 3) := by decide +kernel
theorem dX4_holdsOfPart_16 : decode cX4_holdsOfPart 16 = .ok (.aload_n 1, 1) := by decide +kernel
theorem dX4_holdsOfPart_17 : decode cX4_holdsOfPart 17 = .ok (.getfield 71, 3) := by decide +kernel
theorem dX4_holdsOfPart_20 : decode cX4_holdsOfPart 20 = .ok (.iload_n 2, 1) := by decide +kernel
theorem dX4_holdsOfPart_21 : decode cX4_holdsOfPart 21 = .ok (.iaload, 1) := by decide +kernel
theorem dX4_holdsOfPart_22 : decode cX4_holdsOfPart 22 = .ok (.aload_n 1, 1) := by decide +kernel
theorem dX4_holdsOfPart_23 : decode cX4_holdsOfPart 23 = .ok (.getfield 71, 3) := by decide +kernel
theorem dX4_holdsOfPart_26 : decode cX4_holdsOfPart 26 = .ok (.iload_n 2, 1) := by decide +kernel
theorem dX4_holdsOfPart_27 : decode cX4_holdsOfPart 27 = .ok (.iconst 1, 1) := by decide +kernel
theorem dX4_holdsOfPart_28 : decode cX4_holdsOfPart 28 = .ok (.iadd, 1) := by decide +kernel
theorem dX4_holdsOfPart_29 : decode cX4_holdsOfPart 29 = .ok (.iaload, 1) := by decide +kernel
theorem dX4_holdsOfPart_30 : decode cX4_holdsOfPart 30 = .ok (.invokestatic 49, 3) := by decide +kernel
theorem dX4_holdsOfPart_33 : decode cX4_holdsOfPart 33 = .ok (.istore 4, 2) := by decide +kernel
theorem dX4_holdsOfPart_35 : decode cX4_holdsOfPart 35 = .ok (.aload_n 3, 1) := by decide +kernel
theorem dX4_holdsOfPart_36 : decode cX4_holdsOfPart 36 = .ok (.iload 4, 2) := by decide +kernel
theorem dX4_holdsOfPart_38 : decode cX4_holdsOfPart 38 = .ok (.aload_n 1, 1) := by decide +kernel
theorem dX4_holdsOfPart_39 : decode cX4_holdsOfPart 39 = .ok (.getfield 71, 3) := by decide +kernel
theorem dX4_holdsOfPart_42 : decode cX4_holdsOfPart 42 = .ok (.iload_n 2, 1) := by decide +kernel
theorem dX4_holdsOfPart_43 : decode cX4_holdsOfPart 43 = .ok (.iaload, 1) := by decide +kernel
theorem dX4_holdsOfPart_44 : decode cX4_holdsOfPart 44 = .ok (.aload_n 1, 1) := by decide +kernel
theorem dX4_holdsOfPart_45 : decode cX4_holdsOfPart 45 = .ok (.getfield 71, 3) := by decide +kernel
theorem dX4_holdsOfPart_48 : decode cX4_holdsOfPart 48 = .ok (.iload_n 2, 1) := by decide +kernel
theorem dX4_holdsOfPart_49 : decode cX4_holdsOfPart 49 = .ok (.iconst 1, 1) := by decide +kernel
theorem dX4_holdsOfPart_50 : decode cX4_holdsOfPart 50 = .ok (.iadd, 1) := by decide +kernel
theorem dX4_holdsOfPart_51 : decode cX4_holdsOfPart 51 = .ok (.iaload, 1) := by decide +kernel
theorem dX4_holdsOfPart_52 : decode cX4_holdsOfPart 52 = .ok (.isub, 1) := by decide +kernel
theorem dX4_holdsOfPart_53 : decode cX4_holdsOfPart 53 = .ok (.invokestatic 87, 3) := by decide +kernel
theorem dX4_holdsOfPart_56 : decode cX4_holdsOfPart 56 = .ok (.invokevirtual 91, 3) := by decide +kernel
theorem dX4_holdsOfPart_59 : decode cX4_holdsOfPart 59 = .ok (.ireturn, 1) := by decide +kernel
