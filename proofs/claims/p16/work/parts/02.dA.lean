theorem dX0_init_0 : decode cX0_init 0 = .ok (.aload_n 0, 1) := by decide +kernel
theorem dX0_init_1 : decode cX0_init 1 = .ok (.invokespecial 3, 3) := by decide +kernel
theorem dX0_init_4 : decode cX0_init 4 = .ok (.aload_n 0, 1) := by decide +kernel
theorem dX0_init_5 : decode cX0_init 5 = .ok (.iconst 0, 1) := by decide +kernel
theorem dX0_init_6 : decode cX0_init 6 = .ok (.putfield 9, 3) := by decide +kernel
theorem dX0_init_9 : decode cX0_init 9 = .ok (.aload_n 0, 1) := by decide +kernel
theorem dX0_init_10 : decode cX0_init 10 = .ok (.bipush 6, 2) := by decide +kernel
theorem dX0_init_12 : decode cX0_init 12 = .ok (.newarray .int, 2) := by decide +kernel
theorem dX0_init_14 : decode cX0_init 14 = .ok (.putfield 15, 3) := by decide +kernel
theorem dX0_init_17 : decode cX0_init 17 = .ok (.aload_n 0, 1) := by decide +kernel
theorem dX0_init_18 : decode cX0_init 18 = .ok (.bipush 6, 2) := by decide +kernel
theorem dX0_init_20 : decode cX0_init 20 = .ok (.newarray .int, 2) := by decide +kernel
theorem dX0_init_22 : decode cX0_init 22 = .ok (.putfield 19, 3) := by decide +kernel
theorem dX0_init_25 : decode cX0_init 25 = .ok (.aload_n 0, 1) := by decide +kernel
theorem dX0_init_26 : decode cX0_init 26 = .ok (.bipush 6, 2) := by decide +kernel
theorem dX0_init_28 : decode cX0_init 28 = .ok (.newarray .int, 2) := by decide +kernel
theorem dX0_init_30 : decode cX0_init 30 = .ok (.putfield 22, 3) := by decide +kernel
theorem dX0_init_33 : decode cX0_init 33 = .ok (.return_, 1) := by decide +kernel
set_option maxRecDepth 20000 in
theorem ggX0_has_X7_within : GoodIn wsX0_has wsX7_within := goodIn_r _ [4] rfl (by decide +kernel)
set_option maxRecDepth 20000 in
theorem gX0_has_X7_within_n25 : GoodIn wsX0_has (wsX7_within) := ggX0_has_X7_within
theorem dX0_has_0 : decode cX0_has 0 = .ok (.iload_n 1, 1) := by decide +kernel
theorem dX0_has_1 : decode cX0_has 1 = .ok (.iconst 0, 1) := by decide +kernel
theorem dX0_has_2 : decode cX0_has 2 = .ok (.aload_n 0, 1) := by decide +kernel
theorem dX0_has_3 : decode cX0_has 3 = .ok (.getfield 9, 3) := by decide +kernel
theorem dX0_has_6 : decode cX0_has 6 = .ok (.iconst 1, 1) := by decide +kernel
theorem dX0_has_7 : decode cX0_has 7 = .ok (.isub, 1) := by decide +kernel
theorem dX0_has_8 : decode cX0_has 8 = .ok (.invokestatic 25, 3) := by decide +kernel
theorem dX0_has_11 : decode cX0_has 11 = .ok (.ireturn, 1) := by decide +kernel
theorem dX0_add_0 : decode cX0_add 0 = .ok (.aload_n 0, 1) := by decide +kernel
theorem dX0_add_1 : decode cX0_add 1 = .ok (.getfield 9, 3) := by decide +kernel
theorem dX0_add_4 : decode cX0_add 4 = .ok (.bipush 6, 2) := by decide +kernel
theorem dX0_add_6 : decode cX0_add 6 = .ok (.if_icmp .lt 5, 3) := by decide +kernel
theorem dX0_add_9 : decode cX0_add 9 = .ok (.iconst (-1), 1) := by decide +kernel
theorem dX0_add_10 : decode cX0_add 10 = .ok (.ireturn, 1) := by decide +kernel
theorem dX0_add_11 : decode cX0_add 11 = .ok (.aload_n 0, 1) := by decide +kernel
theorem dX0_add_12 : decode cX0_add 12 = .ok (.getfield 15, 3) := by decide +kernel
theorem dX0_add_15 : decode cX0_add 15 = .ok (.aload_n 0, 1) := by decide +kernel
theorem dX0_add_16 : decode cX0_add 16 = .ok (.getfield 9, 3) := by decide +kernel
theorem dX0_add_19 : decode cX0_add 19 = .ok (.iload_n 1, 1) := by decide +kernel
theorem dX0_add_20 : decode cX0_add 20 = .ok (.iastore, 1) := by decide +kernel
theorem dX0_add_21 : decode cX0_add 21 = .ok (.aload_n 0, 1) := by decide +kernel
theorem dX0_add_22 : decode cX0_add 22 = .ok (.getfield 19, 3) := by decide +kernel
theorem dX0_add_25 : decode cX0_add 25 = .ok (.aload_n 0, 1) := by decide +kernel
theorem dX0_add_26 : decode cX0_add 26 = .ok (.getfield 9, 3) := by decide +kernel
theorem dX0_add_29 : decode cX0_add 29 = .ok (.iload_n 2, 1) := by decide +kernel
theorem dX0_add_30 : decode cX0_add 30 = .ok (.iastore, 1) := by decide +kernel
theorem dX0_add_31 : decode cX0_add 31 = .ok (.aload_n 0, 1) := by decide +kernel
theorem dX0_add_32 : decode cX0_add 32 = .ok (.getfield 22, 3) := by decide +kernel
theorem dX0_add_35 : decode cX0_add 35 = .ok (.aload_n 0, 1) := by decide +kernel
theorem dX0_add_36 : decode cX0_add 36 = .ok (.getfield 9, 3) := by decide +kernel
theorem dX0_add_39 : decode cX0_add 39 = .ok (.iload_n 3, 1) := by decide +kernel
theorem dX0_add_40 : decode cX0_add 40 = .ok (.iastore, 1) := by decide +kernel
theorem dX0_add_41 : decode cX0_add 41 = .ok (.aload_n 0, 1) := by decide +kernel
theorem dX0_add_42 : decode cX0_add 42 = .ok (.dup, 1) := by decide +kernel
theorem dX0_add_43 : decode cX0_add 43 = .ok (.getfield 9, 3) := by decide +kernel
theorem dX0_add_46 : decode cX0_add 46 = .ok (.iconst 1, 1) := by decide +kernel
theorem dX0_add_47 : decode cX0_add 47 = .ok (.iadd, 1) := by decide +kernel
theorem dX0_add_48 : decode cX0_add 48 = .ok (.putfield 9, 3) := by decide +kernel
theorem dX0_add_51 : decode cX0_add 51 = .ok (.aload_n 0, 1) := by decide +kernel
theorem dX0_add_52 : decode cX0_add 52 = .ok (.getfield 9, 3) := by decide +kernel
theorem dX0_add_55 : decode cX0_add 55 = .ok (.iconst 1, 1) := by decide +kernel
theorem dX0_add_56 : decode cX0_add 56 = .ok (.isub, 1) := by decide +kernel
theorem dX0_add_57 : decode cX0_add 57 = .ok (.ireturn, 1) := by decide +kernel
set_option maxRecDepth 20000 in
theorem ggX0_doOn_X0_has : GoodIn wsX0_doOn wsX0_has := goodIn_r _ [16, 17, 18, 19, 20, 42, 43, 44, 45] rfl (by decide +kernel)
set_option maxRecDepth 20000 in
theorem gX0_doOn_X0_has : GoodIn wsX0_doOn (wsV RX0 29 RX0 yX0_has wsX0_has) := goodIn_app (goodIn_of _ (by decide +kernel)) ggX0_doOn_X0_has
set_option maxRecDepth 20000 in
theorem ggX0_doOn_X4_has : GoodIn wsX0_doOn wsX4_has := goodIn_r _ [25, 26, 18, 19, 20, 46, 47] rfl (by decide +kernel)
set_option maxRecDepth 20000 in
theorem gX0_doOn_X4_has : GoodIn wsX0_doOn (wsV RX0 33 RX4 yX4_has wsX4_has) := goodIn_app (goodIn_of _ (by decide +kernel)) ggX0_doOn_X4_has
set_option maxRecDepth 20000 in
theorem ggX0_doOn_X1_digTo : GoodIn wsX0_doOn wsX1_digTo := goodIn_r _ [31, 32, 33, 7, 8, 9, 34, 48, 49, 50, 51, 52, 53, 54, 55, 56] rfl (by decide +kernel)
set_option maxRecDepth 20000 in
theorem gX0_doOn_X1_digTo : GoodIn wsX0_doOn (wsV RX0 40 RX1 yX1_digTo wsX1_digTo) := goodIn_app (goodIn_of _ (by decide +kernel)) ggX0_doOn_X1_digTo
set_option maxRecDepth 20000 in
theorem ggX0_doOn_X1_put : GoodIn wsX0_doOn wsX1_put := goodIn_r _ [38, 39, 40, 41, 34, 48, 49, 50, 51, 52, 53, 54, 55, 56] rfl (by decide +kernel)
set_option maxRecDepth 20000 in
theorem gX0_doOn_X1_put : GoodIn wsX0_doOn (wsV RX0 55 RX1 yX1_put wsX1_put) := goodIn_app (goodIn_of _ (by decide +kernel)) ggX0_doOn_X1_put
theorem dX0_doOn_0 : decode cX0_doOn 0 = .ok (.aload_n 0, 1) := by decide +kernel
theorem dX0_doOn_1 : decode cX0_doOn 1 = .ok (.iload_n 2, 1) := by decide +kernel
theorem dX0_doOn_2 : decode cX0_doOn 2 = .ok (.invokevirtual 29, 3) := by decide +kernel
theorem dX0_doOn_5 : decode cX0_doOn 5 = .ok (.ifCond .eq 16, 3) := by decide +kernel
theorem dX0_doOn_8 : decode cX0_doOn 8 = .ok (.aload_n 1, 1) := by decide +kernel
theorem dX0_doOn_9 : decode cX0_doOn 9 = .ok (.aload_n 0, 1) := by decide +kernel
theorem dX0_doOn_10 : decode cX0_doOn 10 = .ok (.getfield 19, 3) := by decide +kernel
theorem dX0_doOn_13 : decode cX0_doOn 13 = .ok (.iload_n 2, 1) := by decide +kernel
theorem dX0_doOn_14 : decode cX0_doOn 14 = .ok (.iaload, 1) := by decide +kernel
theorem dX0_doOn_15 : decode cX0_doOn 15 = .ok (.invokevirtual 33, 3) := by decide +kernel
theorem dX0_doOn_18 : decode cX0_doOn 18 = .ok (.ifCond .ne 4, 3) := by decide +kernel
theorem dX0_doOn_21 : decode cX0_doOn 21 = .ok (.return_, 1) := by decide +kernel
theorem dX0_doOn_22 : decode cX0_doOn 22 = .ok (.aload_n 1, 1) := by decide +kernel
theorem dX0_doOn_23 : decode cX0_doOn 23 = .ok (.getfield 36, 3) := by decide +kernel
theorem dX0_doOn_26 : decode cX0_doOn 26 = .ok (.aload_n 0, 1) := by decide +kernel
theorem dX0_doOn_27 : decode cX0_doOn 27 = .ok (.getfield 19, 3) := by decide +kernel
theorem dX0_doOn_30 : decode cX0_doOn 30 = .ok (.iload_n 2, 1) := by decide +kernel
theorem dX0_doOn_31 : decode cX0_doOn 31 = .ok (.iaload, 1) := by decide +kernel
theorem dX0_doOn_32 : decode cX0_doOn 32 = .ok (.aaload, 1) := by decide +kernel
theorem dX0_doOn_33 : decode cX0_doOn 33 = .ok (.astore_n 3, 1) := by decide +kernel
theorem dX0_doOn_34 : decode cX0_doOn 34 = .ok (.aload_n 0, 1) := by decide +kernel
theorem dX0_doOn_35 : decode cX0_doOn 35 = .ok (.getfield 22, 3) := by decide +kernel
theorem dX0_doOn_38 : decode cX0_doOn 38 = .ok (.iload_n 2, 1) := by decide +kernel
theorem dX0_doOn_39 : decode cX0_doOn 39 = .ok (.iaload, 1) := by decide +kernel
theorem dX0_doOn_40 : decode cX0_doOn 40 = .ok (.istore 4, 2) := by decide +kernel
theorem dX0_doOn_42 : decode cX0_doOn 42 = .ok (.aload_n 0, 1) := by decide +kernel
theorem dX0_doOn_43 : decode cX0_doOn 43 = .ok (.getfield 15, 3) := by decide +kernel
theorem dX0_doOn_46 : decode cX0_doOn 46 = .ok (.iload_n 2, 1) := by decide +kernel
theorem dX0_doOn_47 : decode cX0_doOn 47 = .ok (.iaload, 1) := by decide +kernel
theorem dX0_doOn_48 : decode cX0_doOn 48 = .ok (.tableswitch 75 0 2 #[28, 37, 58], 28) := by decide +kernel
theorem dX0_doOn_76 : decode cX0_doOn 76 = .ok (.aload_n 3, 1) := by decide +kernel
theorem dX0_doOn_77 : decode cX0_doOn 77 = .ok (.iload 4, 2) := by decide +kernel
theorem dX0_doOn_79 : decode cX0_doOn 79 = .ok (.invokevirtual 40, 3) := by decide +kernel
theorem dX0_doOn_82 : decode cX0_doOn 82 = .ok (.goto 59, 3) := by decide +kernel
theorem dX0_doOn_85 : decode cX0_doOn 85 = .ok (.aload_n 3, 1) := by decide +kernel
theorem dX0_doOn_86 : decode cX0_doOn 86 = .ok (.iconst 2, 1) := by decide +kernel
theorem dX0_doOn_87 : decode cX0_doOn 87 = .ok (.aload_n 3, 1) := by decide +kernel
theorem dX0_doOn_88 : decode cX0_doOn 88 = .ok (.getfield 46, 3) := by decide +kernel
theorem dX0_doOn_91 : decode cX0_doOn 91 = .ok (.iload 4, 2) := by decide +kernel
theorem dX0_doOn_93 : decode cX0_doOn 93 = .ok (.iadd, 1) := by decide +kernel
theorem dX0_doOn_94 : decode cX0_doOn 94 = .ok (.sipush 999, 3) := by decide +kernel
theorem dX0_doOn_97 : decode cX0_doOn 97 = .ok (.invokestatic 49, 3) := by decide +kernel
theorem dX0_doOn_100 : decode cX0_doOn 100 = .ok (.invokevirtual 55, 3) := by decide +kernel
theorem dX0_doOn_103 : decode cX0_doOn 103 = .ok (.goto 38, 3) := by decide +kernel
theorem dX0_doOn_106 : decode cX0_doOn 106 = .ok (.aload_n 3, 1) := by decide +kernel
theorem dX0_doOn_107 : decode cX0_doOn 107 = .ok (.iconst 0, 1) := by decide +kernel
theorem dX0_doOn_108 : decode cX0_doOn 108 = .ok (.aload_n 3, 1) := by decide +kernel
theorem dX0_doOn_109 : decode cX0_doOn 109 = .ok (.getfield 59, 3) := by decide +kernel
theorem dX0_doOn_112 : decode cX0_doOn 112 = .ok (.iload 4, 2) := by decide +kernel
theorem dX0_doOn_114 : decode cX0_doOn 114 = .ok (.invokestatic 49, 3) := by decide +kernel
theorem dX0_doOn_117 : decode cX0_doOn 117 = .ok (.invokevirtual 55, 3) := by decide +kernel
theorem dX0_doOn_120 : decode cX0_doOn 120 = .ok (.goto 21, 3) := by decide +kernel
theorem dX0_doOn_123 : decode cX0_doOn 123 = .ok (.aload_n 3, 1) := by decide +kernel
theorem dX0_doOn_124 : decode cX0_doOn 124 = .ok (.iconst 1, 1) := by decide +kernel
theorem dX0_doOn_125 : decode cX0_doOn 125 = .ok (.aload_n 3, 1) := by decide +kernel
theorem dX0_doOn_126 : decode cX0_doOn 126 = .ok (.getfield 62, 3) := by decide +kernel
theorem dX0_doOn_129 : decode cX0_doOn 129 = .ok (.iload 4, 2) := by decide +kernel
theorem dX0_doOn_131 : decode cX0_doOn 131 = .ok (.iadd, 1) := by decide +kernel
theorem dX0_doOn_132 : decode cX0_doOn 132 = .ok (.sipush 999, 3) := by decide +kernel
theorem dX0_doOn_135 : decode cX0_doOn 135 = .ok (.invokestatic 49, 3) := by decide +kernel
theorem dX0_doOn_138 : decode cX0_doOn 138 = .ok (.invokevirtual 55, 3) := by decide +kernel
theorem dX0_doOn_141 : decode cX0_doOn 141 = .ok (.return_, 1) := by decide +kernel
theorem dX1_init_0 : decode cX1_init 0 = .ok (.aload_n 0, 1) := by decide +kernel
theorem dX1_init_1 : decode cX1_init 1 = .ok (.invokespecial 3, 3) := by decide +kernel
theorem dX1_init_4 : decode cX1_init 4 = .ok (.aload_n 0, 1) := by decide +kernel
theorem dX1_init_5 : decode cX1_init 5 = .ok (.iconst 0, 1) := by decide +kernel
theorem dX1_init_6 : decode cX1_init 6 = .ok (.putfield 9, 3) := by decide +kernel
theorem dX1_init_9 : decode cX1_init 9 = .ok (.aload_n 0, 1) := by decide +kernel
theorem dX1_init_10 : decode cX1_init 10 = .ok (.iconst 0, 1) := by decide +kernel
theorem dX1_init_11 : decode cX1_init 11 = .ok (.putfield 15, 3) := by decide +kernel
theorem dX1_init_14 : decode cX1_init 14 = .ok (.aload_n 0, 1) := by decide +kernel
theorem dX1_init_15 : decode cX1_init 15 = .ok (.iconst 0, 1) := by decide +kernel
theorem dX1_init_16 : decode cX1_init 16 = .ok (.putfield 18, 3) := by decide +kernel
theorem dX1_init_19 : decode cX1_init 19 = .ok (.aload_n 0, 1) := by decide +kernel
theorem dX1_init_20 : decode cX1_init 20 = .ok (.iconst 0, 1) := by decide +kernel
theorem dX1_init_21 : decode cX1_init 21 = .ok (.putfield 21, 3) := by decide +kernel
theorem dX1_init_24 : decode cX1_init 24 = .ok (.aload_n 0, 1) := by decide +kernel
theorem dX1_init_25 : decode cX1_init 25 = .ok (.bipush 25, 2) := by decide +kernel
theorem dX1_init_27 : decode cX1_init 27 = .ok (.newarray .int, 2) := by decide +kernel
theorem dX1_init_29 : decode cX1_init 29 = .ok (.putfield 24, 3) := by decide +kernel
theorem dX1_init_32 : decode cX1_init 32 = .ok (.aload_n 0, 1) := by decide +kernel
theorem dX1_init_33 : decode cX1_init 33 = .ok (.bipush 125, 2) := by decide +kernel
theorem dX1_init_35 : decode cX1_init 35 = .ok (.newarray .int, 2) := by decide +kernel
theorem dX1_init_37 : decode cX1_init 37 = .ok (.putfield 28, 3) := by decide +kernel
theorem dX1_init_40 : decode cX1_init 40 = .ok (.aload_n 0, 1) := by decide +kernel
theorem dX1_init_41 : decode cX1_init 41 = .ok (.iconst 0, 1) := by decide +kernel
theorem dX1_init_42 : decode cX1_init 42 = .ok (.putfield 31, 3) := by decide +kernel
theorem dX1_init_45 : decode cX1_init 45 = .ok (.aload_n 0, 1) := by decide +kernel
theorem dX1_init_46 : decode cX1_init 46 = .ok (.aload_n 1, 1) := by decide +kernel
theorem dX1_init_47 : decode cX1_init 47 = .ok (.putfield 35, 3) := by decide +kernel
theorem dX1_init_50 : decode cX1_init 50 = .ok (.aload_n 0, 1) := by decide +kernel
theorem dX1_init_51 : decode cX1_init 51 = .ok (.aload_n 2, 1) := by decide +kernel
theorem dX1_init_52 : decode cX1_init 52 = .ok (.putfield 39, 3) := by decide +kernel
theorem dX1_init_55 : decode cX1_init 55 = .ok (.return_, 1) := by decide +kernel
theorem dX1_clear_0 : decode cX1_clear 0 = .ok (.aload_n 0, 1) := by decide +kernel
theorem dX1_clear_1 : decode cX1_clear 1 = .ok (.iconst 0, 1) := by decide +kernel
theorem dX1_clear_2 : decode cX1_clear 2 = .ok (.putfield 9, 3) := by decide +kernel
theorem dX1_clear_5 : decode cX1_clear 5 = .ok (.aload_n 0, 1) := by decide +kernel
theorem dX1_clear_6 : decode cX1_clear 6 = .ok (.iconst 0, 1) := by decide +kernel
theorem dX1_clear_7 : decode cX1_clear 7 = .ok (.putfield 15, 3) := by decide +kernel
theorem dX1_clear_10 : decode cX1_clear 10 = .ok (.aload_n 0, 1) := by decide +kernel
theorem dX1_clear_11 : decode cX1_clear 11 = .ok (.iconst 0, 1) := by decide +kernel
theorem dX1_clear_12 : decode cX1_clear 12 = .ok (.putfield 18, 3) := by decide +kernel
theorem dX1_clear_15 : decode cX1_clear 15 = .ok (.aload_n 0, 1) := by decide +kernel
theorem dX1_clear_16 : decode cX1_clear 16 = .ok (.iconst 0, 1) := by decide +kernel
theorem dX1_clear_17 : decode cX1_clear 17 = .ok (.putfield 21, 3) := by decide +kernel
theorem dX1_clear_20 : decode cX1_clear 20 = .ok (.aload_n 0, 1) := by decide +kernel
theorem dX1_clear_21 : decode cX1_clear 21 = .ok (.iconst 0, 1) := by decide +kernel
theorem dX1_clear_22 : decode cX1_clear 22 = .ok (.putfield 31, 3) := by decide +kernel
theorem dX1_clear_25 : decode cX1_clear 25 = .ok (.return_, 1) := by decide +kernel
theorem dX1_copy_0 : decode cX1_copy 0 = .ok (.aload_n 0, 1) := by decide +kernel
theorem dX1_copy_1 : decode cX1_copy 1 = .ok (.aload_n 1, 1) := by decide +kernel
theorem dX1_copy_2 : decode cX1_copy 2 = .ok (.getfield 9, 3) := by decide +kernel
theorem dX1_copy_5 : decode cX1_copy 5 = .ok (.putfield 9, 3) := by decide +kernel
theorem dX1_copy_8 : decode cX1_copy 8 = .ok (.aload_n 0, 1) := by decide +kernel
theorem dX1_copy_9 : decode cX1_copy 9 = .ok (.aload_n 1, 1) := by decide +kernel
theorem dX1_copy_10 : decode cX1_copy 10 = .ok (.getfield 15, 3) := by decide +kernel
theorem dX1_copy_13 : decode cX1_copy 13 = .ok (.putfield 15, 3) := by decide +kernel
theorem dX1_copy_16 : decode cX1_copy 16 = .ok (.aload_n 0, 1) := by decide +kernel
theorem dX1_copy_17 : decode cX1_copy 17 = .ok (.aload_n 1, 1) := by decide +kernel
theorem dX1_copy_18 : decode cX1_copy 18 = .ok (.getfield 18, 3) := by decide +kernel
theorem dX1_copy_21 : decode cX1_copy 21 = .ok (.putfield 18, 3) := by decide +kernel
theorem dX1_copy_24 : decode cX1_copy 24 = .ok (.aload_n 0, 1) := by decide +kernel
theorem dX1_copy_25 : decode cX1_copy 25 = .ok (.aload_n 1, 1) := by decide +kernel
theorem dX1_copy_26 : decode cX1_copy 26 = .ok (.getfield 21, 3) := by decide +kernel
theorem dX1_copy_29 : decode cX1_copy 29 = .ok (.putfield 21, 3) := by decide +kernel
theorem dX1_copy_32 : decode cX1_copy 32 = .ok (.aload_n 1, 1) := by decide +kernel
theorem dX1_copy_33 : decode cX1_copy 33 = .ok (.getfield 24, 3) := by decide +kernel
theorem dX1_copy_36 : decode cX1_copy 36 = .ok (.iconst 0, 1) := by decide +kernel
theorem dX1_copy_37 : decode cX1_copy 37 = .ok (.aload_n 0, 1) := by decide +kernel
theorem dX1_copy_38 : decode cX1_copy 38 = .ok (.getfield 24, 3) := by decide +kernel
theorem dX1_copy_41 : decode cX1_copy 41 = .ok (.iconst 0, 1) := by decide +kernel
theorem dX1_copy_42 : decode cX1_copy 42 = .ok (.bipush 25, 2) := by decide +kernel
theorem dX1_copy_44 : decode cX1_copy 44 = .ok (.invokestatic 42, 3) := by decide +kernel
theorem dX1_copy_47 : decode cX1_copy 47 = .ok (.aload_n 1, 1) := by decide +kernel
theorem dX1_copy_48 : decode cX1_copy 48 = .ok (.getfield 28, 3) := by decide +kernel
theorem dX1_copy_51 : decode cX1_copy 51 = .ok (.iconst 0, 1) := by decide +kernel
theorem dX1_copy_52 : decode cX1_copy 52 = .ok (.aload_n 0, 1) := by decide +kernel
theorem dX1_copy_53 : decode cX1_copy 53 = .ok (.getfield 28, 3) := by decide +kernel
theorem dX1_copy_56 : decode cX1_copy 56 = .ok (.iconst 0, 1) := by decide +kernel
theorem dX1_copy_57 : decode cX1_copy 57 = .ok (.bipush 125, 2) := by decide +kernel
theorem dX1_copy_59 : decode cX1_copy 59 = .ok (.invokestatic 42, 3) := by decide +kernel
theorem dX1_copy_62 : decode cX1_copy 62 = .ok (.aload_n 0, 1) := by decide +kernel
theorem dX1_copy_63 : decode cX1_copy 63 = .ok (.aload_n 1, 1) := by decide +kernel
theorem dX1_copy_64 : decode cX1_copy 64 = .ok (.getfield 31, 3) := by decide +kernel
theorem dX1_copy_67 : decode cX1_copy 67 = .ok (.putfield 31, 3) := by decide +kernel
theorem dX1_copy_70 : decode cX1_copy 70 = .ok (.return_, 1) := by decide +kernel
theorem dX1_pile_0 : decode cX1_pile 0 = .ok (.aload_n 0, 1) := by decide +kernel
theorem dX1_pile_1 : decode cX1_pile 1 = .ok (.getfield 9, 3) := by decide +kernel
theorem dX1_pile_4 : decode cX1_pile 4 = .ok (.iload_n 2, 1) := by decide +kernel
theorem dX1_pile_5 : decode cX1_pile 5 = .ok (.iadd, 1) := by decide +kernel
theorem dX1_pile_6 : decode cX1_pile 6 = .ok (.bipush 24, 2) := by decide +kernel
theorem dX1_pile_8 : decode cX1_pile 8 = .ok (.invokestatic 48, 3) := by decide +kernel
theorem dX1_pile_11 : decode cX1_pile 11 = .ok (.istore_n 3, 1) := by decide +kernel
theorem dX1_pile_12 : decode cX1_pile 12 = .ok (.aload_n 0, 1) := by decide +kernel
theorem dX1_pile_13 : decode cX1_pile 13 = .ok (.getfield 9, 3) := by decide +kernel
theorem dX1_pile_16 : decode cX1_pile 16 = .ok (.istore 4, 2) := by decide +kernel
theorem dX1_pile_18 : decode cX1_pile 18 = .ok (.iload 4, 2) := by decide +kernel
theorem dX1_pile_20 : decode cX1_pile 20 = .ok (.iload_n 3, 1) := by decide +kernel
theorem dX1_pile_21 : decode cX1_pile 21 = .ok (.if_icmp .ge 17, 3) := by decide +kernel
theorem dX1_pile_24 : decode cX1_pile 24 = .ok (.aload_n 0, 1) := by decide +kernel
theorem dX1_pile_25 : decode cX1_pile 25 = .ok (.getfield 39, 3) := by decide +kernel
theorem dX1_pile_28 : decode cX1_pile 28 = .ok (.iload 4, 2) := by decide +kernel
theorem dX1_pile_30 : decode cX1_pile 30 = .ok (.iload_n 1, 1) := by decide +kernel
theorem dX1_pile_31 : decode cX1_pile 31 = .ok (.iastore, 1) := by decide +kernel
theorem dX1_pile_32 : decode cX1_pile 32 = .ok (.iinc 4 1, 3) := by decide +kernel
theorem dX1_pile_35 : decode cX1_pile 35 = .ok (.goto (-17), 3) := by decide +kernel
theorem dX1_pile_38 : decode cX1_pile 38 = .ok (.aload_n 0, 1) := by decide +kernel
theorem dX1_pile_39 : decode cX1_pile 39 = .ok (.iload_n 3, 1) := by decide +kernel
theorem dX1_pile_40 : decode cX1_pile 40 = .ok (.putfield 9, 3) := by decide +kernel
theorem dX1_pile_43 : decode cX1_pile 43 = .ok (.aload_n 0, 1) := by decide +kernel
theorem dX1_pile_44 : decode cX1_pile 44 = .ok (.iconst 0, 1) := by decide +kernel
theorem dX1_pile_45 : decode cX1_pile 45 = .ok (.putfield 31, 3) := by decide +kernel
theorem dX1_pile_48 : decode cX1_pile 48 = .ok (.return_, 1) := by decide +kernel
theorem dX1_digTo_0 : decode cX1_digTo 0 = .ok (.aload_n 0, 1) := by decide +kernel
theorem dX1_digTo_1 : decode cX1_digTo 1 = .ok (.aload_n 0, 1) := by decide +kernel
theorem dX1_digTo_2 : decode cX1_digTo 2 = .ok (.getfield 9, 3) := by decide +kernel
theorem dX1_digTo_5 : decode cX1_digTo 5 = .ok (.iload_n 1, 1) := by decide +kernel
theorem dX1_digTo_6 : decode cX1_digTo 6 = .ok (.invokestatic 48, 3) := by decide +kernel
theorem dX1_digTo_9 : decode cX1_digTo 9 = .ok (.putfield 9, 3) := by decide +kernel
theorem dX1_digTo_12 : decode cX1_digTo 12 = .ok (.aload_n 0, 1) := by decide +kernel
theorem dX1_digTo_13 : decode cX1_digTo 13 = .ok (.iconst 0, 1) := by decide +kernel
theorem dX1_digTo_14 : decode cX1_digTo 14 = .ok (.putfield 31, 3) := by decide +kernel
theorem dX1_digTo_17 : decode cX1_digTo 17 = .ok (.return_, 1) := by decide +kernel
theorem dX1_put_0 : decode cX1_put 0 = .ok (.iload_n 1, 1) := by decide +kernel
theorem dX1_put_1 : decode cX1_put 1 = .ok (.ifCond .ne 11, 3) := by decide +kernel
theorem dX1_put_4 : decode cX1_put 4 = .ok (.aload_n 0, 1) := by decide +kernel
theorem dX1_put_5 : decode cX1_put 5 = .ok (.iload_n 2, 1) := by decide +kernel
theorem dX1_put_6 : decode cX1_put 6 = .ok (.putfield 15, 3) := by decide +kernel
theorem dX1_put_9 : decode cX1_put 9 = .ok (.goto 21, 3) := by decide +kernel
theorem dX1_put_12 : decode cX1_put 12 = .ok (.iload_n 1, 1) := by decide +kernel
theorem dX1_put_13 : decode cX1_put 13 = .ok (.iconst 1, 1) := by decide +kernel
theorem dX1_put_14 : decode cX1_put 14 = .ok (.if_icmp .ne 11, 3) := by decide +kernel
theorem dX1_put_17 : decode cX1_put 17 = .ok (.aload_n 0, 1) := by decide +kernel
theorem dX1_put_18 : decode cX1_put 18 = .ok (.iload_n 2, 1) := by decide +kernel
theorem dX1_put_19 : decode cX1_put 19 = .ok (.putfield 18, 3) := by decide +kernel
theorem dX1_put_22 : decode cX1_put 22 = .ok (.goto 8, 3) := by decide +kernel
theorem dX1_put_25 : decode cX1_put 25 = .ok (.aload_n 0, 1) := by decide +kernel
theorem dX1_put_26 : decode cX1_put 26 = .ok (.iload_n 2, 1) := by decide +kernel
theorem dX1_put_27 : decode cX1_put 27 = .ok (.putfield 21, 3) := by decide +kernel
theorem dX1_put_30 : decode cX1_put 30 = .ok (.aload_n 0, 1) := by decide +kernel
theorem dX1_put_31 : decode cX1_put 31 = .ok (.iconst 0, 1) := by decide +kernel
theorem dX1_put_32 : decode cX1_put 32 = .ok (.putfield 31, 3) := by decide +kernel
theorem dX1_put_35 : decode cX1_put 35 = .ok (.return_, 1) := by decide +kernel
theorem dX1_holdsAt_0 : decode cX1_holdsAt 0 = .ok (.iload_n 1, 1) := by decide +kernel
theorem dX1_holdsAt_1 : decode cX1_holdsAt 1 = .ok (.ifCond .lt 30, 3) := by decide +kernel
theorem dX1_holdsAt_4 : decode cX1_holdsAt 4 = .ok (.iload_n 1, 1) := by decide +kernel
theorem dX1_holdsAt_5 : decode cX1_holdsAt 5 = .ok (.aload_n 0, 1) := by decide +kernel
theorem dX1_holdsAt_6 : decode cX1_holdsAt 6 = .ok (.getfield 9, 3) := by decide +kernel
theorem dX1_holdsAt_9 : decode cX1_holdsAt 9 = .ok (.if_icmp .ge 22, 3) := by decide +kernel
theorem dX1_holdsAt_12 : decode cX1_holdsAt 12 = .ok (.iload_n 2, 1) := by decide +kernel
theorem dX1_holdsAt_13 : decode cX1_holdsAt 13 = .ok (.ifCond .lt 18, 3) := by decide +kernel
theorem dX1_holdsAt_16 : decode cX1_holdsAt 16 = .ok (.iload_n 2, 1) := by decide +kernel
theorem dX1_holdsAt_17 : decode cX1_holdsAt 17 = .ok (.iconst 5, 1) := by decide +kernel
theorem dX1_holdsAt_18 : decode cX1_holdsAt 18 = .ok (.if_icmp .ge 13, 3) := by decide +kernel
theorem dX1_holdsAt_21 : decode cX1_holdsAt 21 = .ok (.iload_n 1, 1) := by decide +kernel
theorem dX1_holdsAt_22 : decode cX1_holdsAt 22 = .ok (.iload_n 2, 1) := by decide +kernel
theorem dX1_holdsAt_23 : decode cX1_holdsAt 23 = .ok (.iadd, 1) := by decide +kernel
theorem dX1_holdsAt_24 : decode cX1_holdsAt 24 = .ok (.aload_n 0, 1) := by decide +kernel
theorem dX1_holdsAt_25 : decode cX1_holdsAt 25 = .ok (.getfield 9, 3) := by decide +kernel
theorem dX1_holdsAt_28 : decode cX1_holdsAt 28 = .ok (.if_icmp .le 5, 3) := by decide +kernel
theorem dX1_holdsAt_31 : decode cX1_holdsAt 31 = .ok (.iconst (-1), 1) := by decide +kernel
theorem dX1_holdsAt_32 : decode cX1_holdsAt 32 = .ok (.ireturn, 1) := by decide +kernel
theorem dX1_holdsAt_33 : decode cX1_holdsAt 33 = .ok (.aload_n 0, 1) := by decide +kernel
theorem dX1_holdsAt_34 : decode cX1_holdsAt 34 = .ok (.getfield 28, 3) := by decide +kernel
theorem dX1_holdsAt_37 : decode cX1_holdsAt 37 = .ok (.iload_n 1, 1) := by decide +kernel
theorem dX1_holdsAt_38 : decode cX1_holdsAt 38 = .ok (.iconst 5, 1) := by decide +kernel
theorem dX1_holdsAt_39 : decode cX1_holdsAt 39 = .ok (.imul, 1) := by decide +kernel
theorem dX1_holdsAt_40 : decode cX1_holdsAt 40 = .ok (.iload_n 2, 1) := by decide +kernel
theorem dX1_holdsAt_41 : decode cX1_holdsAt 41 = .ok (.iadd, 1) := by decide +kernel
theorem dX1_holdsAt_42 : decode cX1_holdsAt 42 = .ok (.iaload, 1) := by decide +kernel
theorem dX1_holdsAt_43 : decode cX1_holdsAt 43 = .ok (.ireturn, 1) := by decide +kernel
theorem dX1_drivesFrom_0 : decode cX1_drivesFrom 0 = .ok (.iload_n 1, 1) := by decide +kernel
theorem dX1_drivesFrom_1 : decode cX1_drivesFrom 1 = .ok (.ifCond .lt 25, 3) := by decide +kernel
theorem dX1_drivesFrom_4 : decode cX1_drivesFrom 4 = .ok (.iload_n 1, 1) := by decide +kernel
theorem dX1_drivesFrom_5 : decode cX1_drivesFrom 5 = .ok (.aload_n 0, 1) := by decide +kernel
theorem dX1_drivesFrom_6 : decode cX1_drivesFrom 6 = .ok (.getfield 9, 3) := by decide +kernel
theorem dX1_drivesFrom_9 : decode cX1_drivesFrom 9 = .ok (.if_icmp .gt 17, 3) := by decide +kernel
theorem dX1_drivesFrom_12 : decode cX1_drivesFrom 12 = .ok (.bipush 10, 2) := by decide +kernel
theorem dX1_drivesFrom_14 : decode cX1_drivesFrom 14 = .ok (.aload_n 0, 1) := by decide +kernel
theorem dX1_drivesFrom_15 : decode cX1_drivesFrom 15 = .ok (.getfield 24, 3) := by decide +kernel
theorem dX1_drivesFrom_18 : decode cX1_drivesFrom 18 = .ok (.iload_n 1, 1) := by decide +kernel
theorem dX1_drivesFrom_19 : decode cX1_drivesFrom 19 = .ok (.iaload, 1) := by decide +kernel
theorem dX1_drivesFrom_20 : decode cX1_drivesFrom 20 = .ok (.imul, 1) := by decide +kernel
theorem dX1_drivesFrom_21 : decode cX1_drivesFrom 21 = .ok (.iload_n 2, 1) := by decide +kernel
theorem dX1_drivesFrom_22 : decode cX1_drivesFrom 22 = .ok (.imul, 1) := by decide +kernel
theorem dX1_drivesFrom_23 : decode cX1_drivesFrom 23 = .ok (.goto 4, 3) := by decide +kernel
theorem dX1_drivesFrom_26 : decode cX1_drivesFrom 26 = .ok (.iconst 0, 1) := by decide +kernel
theorem dX1_drivesFrom_27 : decode cX1_drivesFrom 27 = .ok (.ireturn, 1) := by decide +kernel
set_option maxRecDepth 20000 in
theorem ggX1_reckon_X1_reckonHolds : GoodIn wsX1_reckon wsX1_reckonHolds := goodIn_r _ [13, 7, 5, 14, 15, 16, 17, 18, 19, 20, 2, 21, 22, 23, 24, 25, 26, 27, 28, 29, 30, 31, 32, 33, 34, 35, 36] rfl (by decide +kernel)
set_option maxRecDepth 20000 in
theorem gX1_reckon_X1_reckonHolds : GoodIn wsX1_reckon (wsV RX1 59 RX1 yX1_reckonHolds wsX1_reckonHolds) := goodIn_app (goodIn_of _ (by decide +kernel)) ggX1_reckon_X1_reckonHolds
theorem dX1_reckon_0 : decode cX1_reckon 0 = .ok (.aload_n 0, 1) := by decide +kernel
theorem dX1_reckon_1 : decode cX1_reckon 1 = .ok (.getfield 31, 3) := by decide +kernel
theorem dX1_reckon_4 : decode cX1_reckon 4 = .ok (.ifCond .eq 4, 3) := by decide +kernel
theorem dX1_reckon_7 : decode cX1_reckon 7 = .ok (.return_, 1) := by decide +kernel
theorem dX1_reckon_8 : decode cX1_reckon 8 = .ok (.aload_n 0, 1) := by decide +kernel
theorem dX1_reckon_9 : decode cX1_reckon 9 = .ok (.getfield 24, 3) := by decide +kernel
theorem dX1_reckon_12 : decode cX1_reckon 12 = .ok (.aload_n 0, 1) := by decide +kernel
theorem dX1_reckon_13 : decode cX1_reckon 13 = .ok (.getfield 9, 3) := by decide +kernel
theorem dX1_reckon_16 : decode cX1_reckon 16 = .ok (.aload_n 0, 1) := by decide +kernel
theorem dX1_reckon_17 : decode cX1_reckon 17 = .ok (.getfield 18, 3) := by decide +kernel
theorem dX1_reckon_20 : decode cX1_reckon 20 = .ok (.iastore, 1) := by decide +kernel
theorem dX1_reckon_21 : decode cX1_reckon 21 = .ok (.aload_n 0, 1) := by decide +kernel
theorem dX1_reckon_22 : decode cX1_reckon 22 = .ok (.getfield 9, 3) := by decide +kernel
theorem dX1_reckon_25 : decode cX1_reckon 25 = .ok (.iconst 1, 1) := by decide +kernel
theorem dX1_reckon_26 : decode cX1_reckon 26 = .ok (.isub, 1) := by decide +kernel
theorem dX1_reckon_27 : decode cX1_reckon 27 = .ok (.istore_n 1, 1) := by decide +kernel
theorem dX1_reckon_28 : decode cX1_reckon 28 = .ok (.iload_n 1, 1) := by decide +kernel
theorem dX1_reckon_29 : decode cX1_reckon 29 = .ok (.ifCond .lt 38, 3) := by decide +kernel
theorem dX1_reckon_32 : decode cX1_reckon 32 = .ok (.aload_n 0, 1) := by decide +kernel
theorem dX1_reckon_33 : decode cX1_reckon 33 = .ok (.getfield 24, 3) := by decide +kernel
theorem dX1_reckon_36 : decode cX1_reckon 36 = .ok (.iload_n 1, 1) := by decide +kernel
theorem dX1_reckon_37 : decode cX1_reckon 37 = .ok (.aload_n 0, 1) := by decide +kernel
theorem dX1_reckon_38 : decode cX1_reckon 38 = .ok (.getfield 24, 3) := by decide +kernel
theorem dX1_reckon_41 : decode cX1_reckon 41 = .ok (.iload_n 1, 1) := by decide +kernel
theorem dX1_reckon_42 : decode cX1_reckon 42 = .ok (.iconst 1, 1) := by decide +kernel
theorem dX1_reckon_43 : decode cX1_reckon 43 = .ok (.iadd, 1) := by decide +kernel
theorem dX1_reckon_44 : decode cX1_reckon 44 = .ok (.iaload, 1) := by decide +kernel
theorem dX1_reckon_45 : decode cX1_reckon 45 = .ok (.aload_n 0, 1) := by decide +kernel
theorem dX1_reckon_46 : decode cX1_reckon 46 = .ok (.getfield 35, 3) := by decide +kernel
theorem dX1_reckon_49 : decode cX1_reckon 49 = .ok (.getfield 54, 3) := by decide +kernel
theorem dX1_reckon_52 : decode cX1_reckon 52 = .ok (.aload_n 0, 1) := by decide +kernel
theorem dX1_reckon_53 : decode cX1_reckon 53 = .ok (.getfield 39, 3) := by decide +kernel
theorem dX1_reckon_56 : decode cX1_reckon 56 = .ok (.iload_n 1, 1) := by decide +kernel
theorem dX1_reckon_57 : decode cX1_reckon 57 = .ok (.iaload, 1) := by decide +kernel
theorem dX1_reckon_58 : decode cX1_reckon 58 = .ok (.iaload, 1) := by decide +kernel
theorem dX1_reckon_59 : decode cX1_reckon 59 = .ok (.iadd, 1) := by decide +kernel
theorem dX1_reckon_60 : decode cX1_reckon 60 = .ok (.iastore, 1) := by decide +kernel
theorem dX1_reckon_61 : decode cX1_reckon 61 = .ok (.iinc 1 (-1), 3) := by decide +kernel
theorem dX1_reckon_64 : decode cX1_reckon 64 = .ok (.goto (-36), 3) := by decide +kernel
theorem dX1_reckon_67 : decode cX1_reckon 67 = .ok (.iconst 0, 1) := by decide +kernel
theorem dX1_reckon_68 : decode cX1_reckon 68 = .ok (.istore_n 1, 1) := by decide +kernel
theorem dX1_reckon_69 : decode cX1_reckon 69 = .ok (.iload_n 1, 1) := by decide +kernel
theorem dX1_reckon_70 : decode cX1_reckon 70 = .ok (.aload_n 0, 1) := by decide +kernel
theorem dX1_reckon_71 : decode cX1_reckon 71 = .ok (.getfield 9, 3) := by decide +kernel
theorem dX1_reckon_74 : decode cX1_reckon 74 = .ok (.if_icmp .ge 52, 3) := by decide +kernel
theorem dX1_reckon_77 : decode cX1_reckon 77 = .ok (.iconst 0, 1) := by decide +kernel
theorem dX1_reckon_78 : decode cX1_reckon 78 = .ok (.istore_n 2, 1) := by decide +kernel
theorem dX1_reckon_79 : decode cX1_reckon 79 = .ok (.iload_n 2, 1) := by decide +kernel
theorem dX1_reckon_80 : decode cX1_reckon 80 = .ok (.iconst 5, 1) := by decide +kernel
theorem dX1_reckon_81 : decode cX1_reckon 81 = .ok (.if_icmp .ge 39, 3) := by decide +kernel
theorem dX1_reckon_84 : decode cX1_reckon 84 = .ok (.aload_n 0, 1) := by decide +kernel
theorem dX1_reckon_85 : decode cX1_reckon 85 = .ok (.getfield 28, 3) := by decide +kernel
theorem dX1_reckon_88 : decode cX1_reckon 88 = .ok (.iload_n 1, 1) := by decide +kernel
theorem dX1_reckon_89 : decode cX1_reckon 89 = .ok (.iconst 5, 1) := by decide +kernel
theorem dX1_reckon_90 : decode cX1_reckon 90 = .ok (.imul, 1) := by decide +kernel
theorem dX1_reckon_91 : decode cX1_reckon 91 = .ok (.iload_n 2, 1) := by decide +kernel
theorem dX1_reckon_92 : decode cX1_reckon 92 = .ok (.iadd, 1) := by decide +kernel
theorem dX1_reckon_93 : decode cX1_reckon 93 = .ok (.iload_n 1, 1) := by decide +kernel
theorem dX1_reckon_94 : decode cX1_reckon 94 = .ok (.iload_n 2, 1) := by decide +kernel
theorem dX1_reckon_95 : decode cX1_reckon 95 = .ok (.iadd, 1) := by decide +kernel
theorem dX1_reckon_96 : decode cX1_reckon 96 = .ok (.aload_n 0, 1) := by decide +kernel
theorem dX1_reckon_97 : decode cX1_reckon 97 = .ok (.getfield 9, 3) := by decide +kernel
theorem dX1_reckon_100 : decode cX1_reckon 100 = .ok (.if_icmp .le 7, 3) := by decide +kernel
theorem dX1_reckon_103 : decode cX1_reckon 103 = .ok (.iconst (-1), 1) := by decide +kernel
theorem dX1_reckon_104 : decode cX1_reckon 104 = .ok (.goto 9, 3) := by decide +kernel
theorem dX1_reckon_107 : decode cX1_reckon 107 = .ok (.aload_n 0, 1) := by decide +kernel
theorem dX1_reckon_108 : decode cX1_reckon 108 = .ok (.iload_n 1, 1) := by decide +kernel
theorem dX1_reckon_109 : decode cX1_reckon 109 = .ok (.iload_n 2, 1) := by decide +kernel
theorem dX1_reckon_110 : decode cX1_reckon 110 = .ok (.invokevirtual 59, 3) := by decide +kernel
theorem dX1_reckon_113 : decode cX1_reckon 113 = .ok (.iastore, 1) := by decide +kernel
theorem dX1_reckon_114 : decode cX1_reckon 114 = .ok (.iinc 2 1, 3) := by decide +kernel
theorem dX1_reckon_117 : decode cX1_reckon 117 = .ok (.goto (-38), 3) := by decide +kernel
theorem dX1_reckon_120 : decode cX1_reckon 120 = .ok (.iinc 1 1, 3) := by decide +kernel
theorem dX1_reckon_123 : decode cX1_reckon 123 = .ok (.goto (-54), 3) := by decide +kernel
theorem dX1_reckon_126 : decode cX1_reckon 126 = .ok (.aload_n 0, 1) := by decide +kernel
theorem dX1_reckon_127 : decode cX1_reckon 127 = .ok (.iconst 1, 1) := by decide +kernel
theorem dX1_reckon_128 : decode cX1_reckon 128 = .ok (.putfield 31, 3) := by decide +kernel
theorem dX1_reckon_131 : decode cX1_reckon 131 = .ok (.return_, 1) := by decide +kernel
theorem dX1_reckonHolds_0 : decode cX1_reckonHolds 0 = .ok (.aload_n 0, 1) := by decide +kernel
theorem dX1_reckonHolds_1 : decode cX1_reckonHolds 1 = .ok (.getfield 39, 3) := by decide +kernel
theorem dX1_reckonHolds_4 : decode cX1_reckonHolds 4 = .ok (.iload_n 1, 1) := by decide +kernel
theorem dX1_reckonHolds_5 : decode cX1_reckonHolds 5 = .ok (.iaload, 1) := by decide +kernel
theorem dX1_reckonHolds_6 : decode cX1_reckonHolds 6 = .ok (.istore_n 3, 1) := by decide +kernel
theorem dX1_reckonHolds_7 : decode cX1_reckonHolds 7 = .ok (.aload_n 0, 1) := by decide +kernel
theorem dX1_reckonHolds_8 : decode cX1_reckonHolds 8 = .ok (.getfield 35, 3) := by decide +kernel
theorem dX1_reckonHolds_11 : decode cX1_reckonHolds 11 = .ok (.getfield 62, 3) := by decide +kernel
theorem dX1_reckonHolds_14 : decode cX1_reckonHolds 14 = .ok (.iload_n 3, 1) := by decide +kernel
theorem dX1_reckonHolds_15 : decode cX1_reckonHolds 15 = .ok (.baload, 1) := by decide +kernel
theorem dX1_reckonHolds_16 : decode cX1_reckonHolds 16 = .ok (.ifCond .eq 5, 3) := by decide +kernel
theorem dX1_reckonHolds_19 : decode cX1_reckonHolds 19 = .ok (.iconst (-1), 1) := by decide +kernel
theorem dX1_reckonHolds_20 : decode cX1_reckonHolds 20 = .ok (.ireturn, 1) := by decide +kernel
theorem dX1_reckonHolds_21 : decode cX1_reckonHolds 21 = .ok (.iload_n 1, 1) := by decide +kernel
theorem dX1_reckonHolds_22 : decode cX1_reckonHolds 22 = .ok (.iload_n 2, 1) := by decide +kernel
theorem dX1_reckonHolds_23 : decode cX1_reckonHolds 23 = .ok (.iadd, 1) := by decide +kernel
theorem dX1_reckonHolds_24 : decode cX1_reckonHolds 24 = .ok (.istore 4, 2) := by decide +kernel
theorem dX1_reckonHolds_26 : decode cX1_reckonHolds 26 = .ok (.iconst 1, 1) := by decide +kernel
theorem dX1_reckonHolds_27 : decode cX1_reckonHolds 27 = .ok (.iload_n 2, 1) := by decide +kernel
theorem dX1_reckonHolds_28 : decode cX1_reckonHolds 28 = .ok (.iload_n 2, 1) := by decide +kernel
theorem dX1_reckonHolds_29 : decode cX1_reckonHolds 29 = .ok (.imul, 1) := by decide +kernel
theorem dX1_reckonHolds_30 : decode cX1_reckonHolds 30 = .ok (.iadd, 1) := by decide +kernel
theorem dX1_reckonHolds_31 : decode cX1_reckonHolds 31 = .ok (.istore 5, 2) := by decide +kernel
theorem dX1_reckonHolds_33 : decode cX1_reckonHolds 33 = .ok (.bipush 10, 2) := by decide +kernel
theorem dX1_reckonHolds_35 : decode cX1_reckonHolds 35 = .ok (.iload 5, 2) := by decide +kernel
theorem dX1_reckonHolds_37 : decode cX1_reckonHolds 37 = .ok (.imul, 1) := by decide +kernel
theorem dX1_reckonHolds_38 : decode cX1_reckonHolds 38 = .ok (.aload_n 0, 1) := by decide +kernel
theorem dX1_reckonHolds_39 : decode cX1_reckonHolds 39 = .ok (.getfield 15, 3) := by decide +kernel
theorem dX1_reckonHolds_42 : decode cX1_reckonHolds 42 = .ok (.iload 4, 2) := by decide +kernel
theorem dX1_reckonHolds_44 : decode cX1_reckonHolds 44 = .ok (.isub, 1) := by decide +kernel
theorem dX1_reckonHolds_45 : decode cX1_reckonHolds 45 = .ok (.iconst 0, 1) := by decide +kernel
theorem dX1_reckonHolds_46 : decode cX1_reckonHolds 46 = .ok (.invokestatic 66, 3) := by decide +kernel
theorem dX1_reckonHolds_49 : decode cX1_reckonHolds 49 = .ok (.imul, 1) := by decide +kernel
theorem dX1_reckonHolds_50 : decode cX1_reckonHolds 50 = .ok (.istore 6, 2) := by decide +kernel
theorem dX1_reckonHolds_52 : decode cX1_reckonHolds 52 = .ok (.aload_n 0, 1) := by decide +kernel
theorem dX1_reckonHolds_53 : decode cX1_reckonHolds 53 = .ok (.getfield 35, 3) := by decide +kernel
theorem dX1_reckonHolds_56 : decode cX1_reckonHolds 56 = .ok (.getfield 69, 3) := by decide +kernel
theorem dX1_reckonHolds_59 : decode cX1_reckonHolds 59 = .ok (.iload_n 3, 1) := by decide +kernel
theorem dX1_reckonHolds_60 : decode cX1_reckonHolds 60 = .ok (.iaload, 1) := by decide +kernel
theorem dX1_reckonHolds_61 : decode cX1_reckonHolds 61 = .ok (.aload_n 0, 1) := by decide +kernel
theorem dX1_reckonHolds_62 : decode cX1_reckonHolds 62 = .ok (.getfield 24, 3) := by decide +kernel
theorem dX1_reckonHolds_65 : decode cX1_reckonHolds 65 = .ok (.iload 4, 2) := by decide +kernel
theorem dX1_reckonHolds_67 : decode cX1_reckonHolds 67 = .ok (.iaload, 1) := by decide +kernel
theorem dX1_reckonHolds_68 : decode cX1_reckonHolds 68 = .ok (.iload 6, 2) := by decide +kernel
theorem dX1_reckonHolds_70 : decode cX1_reckonHolds 70 = .ok (.isub, 1) := by decide +kernel
theorem dX1_reckonHolds_71 : decode cX1_reckonHolds 71 = .ok (.iconst 0, 1) := by decide +kernel
theorem dX1_reckonHolds_72 : decode cX1_reckonHolds 72 = .ok (.invokestatic 66, 3) := by decide +kernel
theorem dX1_reckonHolds_75 : decode cX1_reckonHolds 75 = .ok (.imul, 1) := by decide +kernel
theorem dX1_reckonHolds_76 : decode cX1_reckonHolds 76 = .ok (.istore 7, 2) := by decide +kernel
theorem dX1_reckonHolds_78 : decode cX1_reckonHolds 78 = .ok (.bipush 10, 2) := by decide +kernel
theorem dX1_reckonHolds_80 : decode cX1_reckonHolds 80 = .ok (.aload_n 0, 1) := by decide +kernel
theorem dX1_reckonHolds_81 : decode cX1_reckonHolds 81 = .ok (.getfield 35, 3) := by decide +kernel
theorem dX1_reckonHolds_84 : decode cX1_reckonHolds 84 = .ok (.getfield 72, 3) := by decide +kernel
theorem dX1_reckonHolds_87 : decode cX1_reckonHolds 87 = .ok (.iload_n 3, 1) := by decide +kernel
theorem dX1_reckonHolds_88 : decode cX1_reckonHolds 88 = .ok (.iaload, 1) := by decide +kernel
theorem dX1_reckonHolds_89 : decode cX1_reckonHolds 89 = .ok (.imul, 1) := by decide +kernel
theorem dX1_reckonHolds_90 : decode cX1_reckonHolds 90 = .ok (.iload 5, 2) := by decide +kernel
theorem dX1_reckonHolds_92 : decode cX1_reckonHolds 92 = .ok (.imul, 1) := by decide +kernel
theorem dX1_reckonHolds_93 : decode cX1_reckonHolds 93 = .ok (.iload 7, 2) := by decide +kernel
theorem dX1_reckonHolds_95 : decode cX1_reckonHolds 95 = .ok (.iadd, 1) := by decide +kernel
theorem dX1_reckonHolds_96 : decode cX1_reckonHolds 96 = .ok (.bipush 10, 2) := by decide +kernel
theorem dX1_reckonHolds_98 : decode cX1_reckonHolds 98 = .ok (.aload_n 0, 1) := by decide +kernel
theorem dX1_reckonHolds_99 : decode cX1_reckonHolds 99 = .ok (.getfield 21, 3) := by decide +kernel
theorem dX1_reckonHolds_102 : decode cX1_reckonHolds 102 = .ok (.imul, 1) := by decide +kernel
theorem dX1_reckonHolds_103 : decode cX1_reckonHolds 103 = .ok (.iadd, 1) := by decide +kernel
theorem dX1_reckonHolds_104 : decode cX1_reckonHolds 104 = .ok (.ireturn, 1) := by decide +kernel
theorem dX2_init_0 : decode cX2_init 0 = .ok (.aload_n 0, 1) := by decide +kernel
theorem dX2_init_1 : decode cX2_init 1 = .ok (.invokespecial 3, 3) := by decide +kernel
theorem dX2_init_4 : decode cX2_init 4 = .ok (.aload_n 0, 1) := by decide +kernel
theorem dX2_init_5 : decode cX2_init 5 = .ok (.bipush 6, 2) := by decide +kernel
theorem dX2_init_7 : decode cX2_init 7 = .ok (.newarray .int, 2) := by decide +kernel
theorem dX2_init_9 : decode cX2_init 9 = .ok (.putfield 9, 3) := by decide +kernel
theorem dX2_init_12 : decode cX2_init 12 = .ok (.aload_n 0, 1) := by decide +kernel
theorem dX2_init_13 : decode cX2_init 13 = .ok (.bipush 6, 2) := by decide +kernel
theorem dX2_init_15 : decode cX2_init 15 = .ok (.newarray .int, 2) := by decide +kernel
theorem dX2_init_17 : decode cX2_init 17 = .ok (.putfield 15, 3) := by decide +kernel
theorem dX2_init_20 : decode cX2_init 20 = .ok (.aload_n 0, 1) := by decide +kernel
theorem dX2_init_21 : decode cX2_init 21 = .ok (.bipush 6, 2) := by decide +kernel
theorem dX2_init_23 : decode cX2_init 23 = .ok (.newarray .int, 2) := by decide +kernel
theorem dX2_init_25 : decode cX2_init 25 = .ok (.putfield 18, 3) := by decide +kernel
theorem dX2_init_28 : decode cX2_init 28 = .ok (.aload_n 0, 1) := by decide +kernel
theorem dX2_init_29 : decode cX2_init 29 = .ok (.bipush 6, 2) := by decide +kernel
theorem dX2_init_31 : decode cX2_init 31 = .ok (.newarray .boolean, 2) := by decide +kernel
theorem dX2_init_33 : decode cX2_init 33 = .ok (.putfield 21, 3) := by decide +kernel
theorem dX2_init_36 : decode cX2_init 36 = .ok (.aload_n 0, 1) := by decide +kernel
theorem dX2_init_37 : decode cX2_init 37 = .ok (.iconst 0, 1) := by decide +kernel
theorem dX2_init_38 : decode cX2_init 38 = .ok (.putfield 25, 3) := by decide +kernel
theorem dX2_init_41 : decode cX2_init 41 = .ok (.return_, 1) := by decide +kernel
set_option maxRecDepth 20000 in
theorem ggX2_has_X7_within : GoodIn wsX2_has wsX7_within := goodIn_r _ [4] rfl (by decide +kernel)
set_option maxRecDepth 20000 in
theorem gX2_has_X7_within_n29 : GoodIn wsX2_has (wsX7_within) := ggX2_has_X7_within
theorem dX2_has_0 : decode cX2_has 0 = .ok (.iload_n 1, 1) := by decide +kernel
theorem dX2_has_1 : decode cX2_has 1 = .ok (.iconst 0, 1) := by decide +kernel
theorem dX2_has_2 : decode cX2_has 2 = .ok (.aload_n 0, 1) := by decide +kernel
theorem dX2_has_3 : decode cX2_has 3 = .ok (.getfield 25, 3) := by decide +kernel
theorem dX2_has_6 : decode cX2_has 6 = .ok (.iconst 1, 1) := by decide +kernel
theorem dX2_has_7 : decode cX2_has 7 = .ok (.isub, 1) := by decide +kernel
theorem dX2_has_8 : decode cX2_has 8 = .ok (.invokestatic 29, 3) := by decide +kernel
theorem dX2_has_11 : decode cX2_has 11 = .ok (.ireturn, 1) := by decide +kernel
theorem dX2_add_0 : decode cX2_add 0 = .ok (.aload_n 0, 1) := by decide +kernel
theorem dX2_add_1 : decode cX2_add 1 = .ok (.getfield 25, 3) := by decide +kernel
theorem dX2_add_4 : decode cX2_add 4 = .ok (.bipush 6, 2) := by decide +kernel
theorem dX2_add_6 : decode cX2_add 6 = .ok (.if_icmp .lt 5, 3) := by decide +kernel
theorem dX2_add_9 : decode cX2_add 9 = .ok (.iconst (-1), 1) := by decide +kernel
theorem dX2_add_10 : decode cX2_add 10 = .ok (.ireturn, 1) := by decide +kernel
theorem dX2_add_11 : decode cX2_add 11 = .ok (.aload_n 0, 1) := by decide +kernel
theorem dX2_add_12 : decode cX2_add 12 = .ok (.getfield 9, 3) := by decide +kernel
theorem dX2_add_15 : decode cX2_add 15 = .ok (.aload_n 0, 1) := by decide +kernel
theorem dX2_add_16 : decode cX2_add 16 = .ok (.getfield 25, 3) := by decide +kernel
theorem dX2_add_19 : decode cX2_add 19 = .ok (.iload_n 1, 1) := by decide +kernel
theorem dX2_add_20 : decode cX2_add 20 = .ok (.iastore, 1) := by decide +kernel
theorem dX2_add_21 : decode cX2_add 21 = .ok (.aload_n 0, 1) := by decide +kernel
theorem dX2_add_22 : decode cX2_add 22 = .ok (.getfield 15, 3) := by decide +kernel
theorem dX2_add_25 : decode cX2_add 25 = .ok (.aload_n 0, 1) := by decide +kernel
theorem dX2_add_26 : decode cX2_add 26 = .ok (.getfield 25, 3) := by decide +kernel
theorem dX2_add_29 : decode cX2_add 29 = .ok (.iload_n 2, 1) := by decide +kernel
theorem dX2_add_30 : decode cX2_add 30 = .ok (.iastore, 1) := by decide +kernel
theorem dX2_add_31 : decode cX2_add 31 = .ok (.aload_n 0, 1) := by decide +kernel
theorem dX2_add_32 : decode cX2_add 32 = .ok (.getfield 18, 3) := by decide +kernel
theorem dX2_add_35 : decode cX2_add 35 = .ok (.aload_n 0, 1) := by decide +kernel
theorem dX2_add_36 : decode cX2_add 36 = .ok (.getfield 25, 3) := by decide +kernel
theorem dX2_add_39 : decode cX2_add 39 = .ok (.iload_n 3, 1) := by decide +kernel
theorem dX2_add_40 : decode cX2_add 40 = .ok (.iastore, 1) := by decide +kernel
theorem dX2_add_41 : decode cX2_add 41 = .ok (.aload_n 0, 1) := by decide +kernel
theorem dX2_add_42 : decode cX2_add 42 = .ok (.getfield 21, 3) := by decide +kernel
theorem dX2_add_45 : decode cX2_add 45 = .ok (.aload_n 0, 1) := by decide +kernel
theorem dX2_add_46 : decode cX2_add 46 = .ok (.getfield 25, 3) := by decide +kernel
theorem dX2_add_49 : decode cX2_add 49 = .ok (.iload 4, 2) := by decide +kernel
theorem dX2_add_51 : decode cX2_add 51 = .ok (.bastore, 1) := by decide +kernel
theorem dX2_add_52 : decode cX2_add 52 = .ok (.aload_n 0, 1) := by decide +kernel
theorem dX2_add_53 : decode cX2_add 53 = .ok (.dup, 1) := by decide +kernel
theorem dX2_add_54 : decode cX2_add 54 = .ok (.getfield 25, 3) := by decide +kernel
theorem dX2_add_57 : decode cX2_add 57 = .ok (.iconst 1, 1) := by decide +kernel
theorem dX2_add_58 : decode cX2_add 58 = .ok (.iadd, 1) := by decide +kernel
theorem dX2_add_59 : decode cX2_add 59 = .ok (.putfield 25, 3) := by decide +kernel
theorem dX2_add_62 : decode cX2_add 62 = .ok (.aload_n 0, 1) := by decide +kernel
theorem dX2_add_63 : decode cX2_add 63 = .ok (.getfield 25, 3) := by decide +kernel
theorem dX2_add_66 : decode cX2_add 66 = .ok (.iconst 1, 1) := by decide +kernel
theorem dX2_add_67 : decode cX2_add 67 = .ok (.isub, 1) := by decide +kernel
theorem dX2_add_68 : decode cX2_add 68 = .ok (.ireturn, 1) := by decide +kernel
theorem dX3_init_0 : decode cX3_init 0 = .ok (.aload_n 0, 1) := by decide +kernel
theorem dX3_init_1 : decode cX3_init 1 = .ok (.invokespecial 1, 3) := by decide +kernel
theorem dX3_init_4 : decode cX3_init 4 = .ok (.aload_n 0, 1) := by decide +kernel
theorem dX3_init_5 : decode cX3_init 5 = .ok (.lconst 0, 1) := by decide +kernel
theorem dX3_init_6 : decode cX3_init 6 = .ok (.putfield 7, 3) := by decide +kernel
theorem dX3_init_9 : decode cX3_init 9 = .ok (.aload_n 0, 1) := by decide +kernel
theorem dX3_init_10 : decode cX3_init 10 = .ok (.lconst 1, 1) := by decide +kernel
theorem dX3_init_11 : decode cX3_init 11 = .ok (.putfield 13, 3) := by decide +kernel
theorem dX3_init_14 : decode cX3_init 14 = .ok (.return_, 1) := by decide +kernel
set_option maxRecDepth 20000 in
theorem ggX3_become_X3_greatestCommon : GoodIn wsX3_become wsX3_greatestCommon := goodIn_r _ [6] rfl (by decide +kernel)
set_option maxRecDepth 20000 in
theorem gX3_become_X3_greatestCommon : GoodIn wsX3_become (va_wsS RX3 16 yX3_greatestCommon wsX3_greatestCommon) := goodIn_app (goodIn_of _ (by decide +kernel)) ggX3_become_X3_greatestCommon
theorem dX3_become_0 : decode cX3_become 0 = .ok (.lload_n 1, 1) := by decide +kernel
theorem dX3_become_1 : decode cX3_become 1 = .ok (.lload_n 3, 1) := by decide +kernel
theorem dX3_become_2 : decode cX3_become 2 = .ok (.invokestatic 16, 3) := by decide +kernel
theorem dX3_become_5 : decode cX3_become 5 = .ok (.lstore 5, 2) := by decide +kernel
theorem dX3_become_7 : decode cX3_become 7 = .ok (.aload_n 0, 1) := by decide +kernel
theorem dX3_become_8 : decode cX3_become 8 = .ok (.lload 5, 2) := by decide +kernel
theorem dX3_become_10 : decode cX3_become 10 = .ok (.lconst 1, 1) := by decide +kernel
theorem dX3_become_11 : decode cX3_become 11 = .ok (.lcmp, 1) := by decide +kernel
theorem dX3_become_12 : decode cX3_become 12 = .ok (.ifCond .le 10, 3) := by decide +kernel
theorem dX3_become_15 : decode cX3_become 15 = .ok (.lload_n 1, 1) := by decide +kernel
theorem dX3_become_16 : decode cX3_become 16 = .ok (.lload 5, 2) := by decide +kernel
theorem dX3_become_18 : decode cX3_become 18 = .ok (.ldiv, 1) := by decide +kernel
theorem dX3_become_19 : decode cX3_become 19 = .ok (.goto 4, 3) := by decide +kernel
theorem dX3_become_22 : decode cX3_become 22 = .ok (.lload_n 1, 1) := by decide +kernel
theorem dX3_become_23 : decode cX3_become 23 = .ok (.putfield 7, 3) := by decide +kernel
theorem dX3_become_26 : decode cX3_become 26 = .ok (.aload_n 0, 1) := by decide +kernel
theorem dX3_become_27 : decode cX3_become 27 = .ok (.lload 5, 2) := by decide +kernel
theorem dX3_become_29 : decode cX3_become 29 = .ok (.lconst 1, 1) := by decide +kernel
theorem dX3_become_30 : decode cX3_become 30 = .ok (.lcmp, 1) := by decide +kernel
theorem dX3_become_31 : decode cX3_become 31 = .ok (.ifCond .le 10, 3) := by decide +kernel
theorem dX3_become_34 : decode cX3_become 34 = .ok (.lload_n 3, 1) := by decide +kernel
theorem dX3_become_35 : decode cX3_become 35 = .ok (.lload 5, 2) := by decide +kernel
theorem dX3_become_37 : decode cX3_become 37 = .ok (.ldiv, 1) := by decide +kernel
theorem dX3_become_38 : decode cX3_become 38 = .ok (.goto 4, 3) := by decide +kernel
theorem dX3_become_41 : decode cX3_become 41 = .ok (.lload_n 3, 1) := by decide +kernel
theorem dX3_become_42 : decode cX3_become 42 = .ok (.putfield 13, 3) := by decide +kernel
theorem dX3_become_45 : decode cX3_become 45 = .ok (.return_, 1) := by decide +kernel
theorem dX3_greatestCommon_0 : decode cX3_greatestCommon 0 = .ok (.lload_n 0, 1) := by decide +kernel
theorem dX3_greatestCommon_1 : decode cX3_greatestCommon 1 = .ok (.lstore 4, 2) := by decide +kernel
theorem dX3_greatestCommon_3 : decode cX3_greatestCommon 3 = .ok (.lload_n 2, 1) := by decide +kernel
theorem dX3_greatestCommon_4 : decode cX3_greatestCommon 4 = .ok (.lstore 6, 2) := by decide +kernel
theorem dX3_greatestCommon_6 : decode cX3_greatestCommon 6 = .ok (.iconst 0, 1) := by decide +kernel
theorem dX3_greatestCommon_7 : decode cX3_greatestCommon 7 = .ok (.istore 8, 2) := by decide +kernel
theorem dX3_greatestCommon_9 : decode cX3_greatestCommon 9 = .ok (.iload 8, 2) := by decide +kernel
theorem dX3_greatestCommon_11 : decode cX3_greatestCommon 11 = .ok (.sipush 200, 3) := by decide +kernel
theorem dX3_greatestCommon_14 : decode cX3_greatestCommon 14 = .ok (.if_icmp .ge 31, 3) := by decide +kernel
theorem dX3_greatestCommon_17 : decode cX3_greatestCommon 17 = .ok (.lload 6, 2) := by decide +kernel
theorem dX3_greatestCommon_19 : decode cX3_greatestCommon 19 = .ok (.lconst 0, 1) := by decide +kernel
theorem dX3_greatestCommon_20 : decode cX3_greatestCommon 20 = .ok (.lcmp, 1) := by decide +kernel
theorem dX3_greatestCommon_21 : decode cX3_greatestCommon 21 = .ok (.ifCond .eq 24, 3) := by decide +kernel
theorem dX3_greatestCommon_24 : decode cX3_greatestCommon 24 = .ok (.lload 4, 2) := by decide +kernel
theorem dX3_greatestCommon_26 : decode cX3_greatestCommon 26 = .ok (.lload 6, 2) := by decide +kernel
theorem dX3_greatestCommon_28 : decode cX3_greatestCommon 28 = .ok (.lrem, 1) := by decide +kernel
theorem dX3_greatestCommon_29 : decode cX3_greatestCommon 29 = .ok (.lstore 9, 2) := by decide +kernel
theorem dX3_greatestCommon_31 : decode cX3_greatestCommon 31 = .ok (.lload 6, 2) := by decide +kernel
theorem dX3_greatestCommon_33 : decode cX3_greatestCommon 33 = .ok (.lstore 4, 2) := by decide +kernel
theorem dX3_greatestCommon_35 : decode cX3_greatestCommon 35 = .ok (.lload 9, 2) := by decide +kernel
theorem dX3_greatestCommon_37 : decode cX3_greatestCommon 37 = .ok (.lstore 6, 2) := by decide +kernel
theorem dX3_greatestCommon_39 : decode cX3_greatestCommon 39 = .ok (.iinc 8 1, 3) := by decide +kernel
theorem dX3_greatestCommon_42 : decode cX3_greatestCommon 42 = .ok (.goto (-33), 3) := by decide +kernel
theorem dX3_greatestCommon_45 : decode cX3_greatestCommon 45 = .ok (.lload 4, 2) := by decide +kernel
theorem dX3_greatestCommon_47 : decode cX3_greatestCommon 47 = .ok (.lreturn, 1) := by decide +kernel
theorem dX5_init_0 : decode cX5_init 0 = .ok (.aload_n 0, 1) := by decide +kernel
theorem dX5_init_1 : decode cX5_init 1 = .ok (.invokespecial 3, 3) := by decide +kernel
theorem dX5_init_4 : decode cX5_init 4 = .ok (.aload_n 0, 1) := by decide +kernel
theorem dX5_init_5 : decode cX5_init 5 = .ok (.bipush 13, 2) := by decide +kernel
theorem dX5_init_7 : decode cX5_init 7 = .ok (.newarray .int, 2) := by decide +kernel
theorem dX5_init_9 : decode cX5_init 9 = .ok (.putfield 9, 3) := by decide +kernel
theorem dX5_init_12 : decode cX5_init 12 = .ok (.aload_n 0, 1) := by decide +kernel
theorem dX5_init_13 : decode cX5_init 13 = .ok (.iconst 0, 1) := by decide +kernel
theorem dX5_init_14 : decode cX5_init 14 = .ok (.putfield 15, 3) := by decide +kernel
theorem dX5_init_17 : decode cX5_init 17 = .ok (.aload_n 0, 1) := by decide +kernel
theorem dX5_init_18 : decode cX5_init 18 = .ok (.iconst 0, 1) := by decide +kernel
theorem dX5_init_19 : decode cX5_init 19 = .ok (.putfield 19, 3) := by decide +kernel
theorem dX5_init_22 : decode cX5_init 22 = .ok (.return_, 1) := by decide +kernel
theorem dX5_drop_0 : decode cX5_drop 0 = .ok (.aload_n 0, 1) := by decide +kernel
theorem dX5_drop_1 : decode cX5_drop 1 = .ok (.iconst 0, 1) := by decide +kernel
theorem dX5_drop_2 : decode cX5_drop 2 = .ok (.putfield 19, 3) := by decide +kernel
theorem dX5_drop_5 : decode cX5_drop 5 = .ok (.return_, 1) := by decide +kernel
theorem dX5_startAt_0 : decode cX5_startAt 0 = .ok (.aload_n 0, 1) := by decide +kernel
theorem dX5_startAt_1 : decode cX5_startAt 1 = .ok (.iload_n 1, 1) := by decide +kernel
theorem dX5_startAt_2 : decode cX5_startAt 2 = .ok (.putfield 15, 3) := by decide +kernel
theorem dX5_startAt_5 : decode cX5_startAt 5 = .ok (.aload_n 0, 1) := by decide +kernel
theorem dX5_startAt_6 : decode cX5_startAt 6 = .ok (.getfield 9, 3) := by decide +kernel
theorem dX5_startAt_9 : decode cX5_startAt 9 = .ok (.iconst 0, 1) := by decide +kernel
theorem dX5_startAt_10 : decode cX5_startAt 10 = .ok (.iload_n 2, 1) := by decide +kernel
theorem dX5_startAt_11 : decode cX5_startAt 11 = .ok (.iastore, 1) := by decide +kernel
theorem dX5_startAt_12 : decode cX5_startAt 12 = .ok (.aload_n 0, 1) := by decide +kernel
theorem dX5_startAt_13 : decode cX5_startAt 13 = .ok (.iconst 1, 1) := by decide +kernel
theorem dX5_startAt_14 : decode cX5_startAt 14 = .ok (.putfield 19, 3) := by decide +kernel
theorem dX5_startAt_17 : decode cX5_startAt 17 = .ok (.return_, 1) := by decide +kernel
theorem dX5_add_0 : decode cX5_add 0 = .ok (.aload_n 0, 1) := by decide +kernel
theorem dX5_add_1 : decode cX5_add 1 = .ok (.getfield 19, 3) := by decide +kernel
theorem dX5_add_4 : decode cX5_add 4 = .ok (.aload_n 0, 1) := by decide +kernel
theorem dX5_add_5 : decode cX5_add 5 = .ok (.getfield 9, 3) := by decide +kernel
theorem dX5_add_8 : decode cX5_add 8 = .ok (.arraylength, 1) := by decide +kernel
theorem dX5_add_9 : decode cX5_add 9 = .ok (.if_icmp .ge 23, 3) := by decide +kernel
theorem dX5_add_12 : decode cX5_add 12 = .ok (.aload_n 0, 1) := by decide +kernel
theorem dX5_add_13 : decode cX5_add 13 = .ok (.getfield 9, 3) := by decide +kernel
theorem dX5_add_16 : decode cX5_add 16 = .ok (.aload_n 0, 1) := by decide +kernel
theorem dX5_add_17 : decode cX5_add 17 = .ok (.getfield 19, 3) := by decide +kernel
theorem dX5_add_20 : decode cX5_add 20 = .ok (.iload_n 1, 1) := by decide +kernel
theorem dX5_add_21 : decode cX5_add 21 = .ok (.iastore, 1) := by decide +kernel
theorem dX5_add_22 : decode cX5_add 22 = .ok (.aload_n 0, 1) := by decide +kernel
theorem dX5_add_23 : decode cX5_add 23 = .ok (.dup, 1) := by decide +kernel
theorem dX5_add_24 : decode cX5_add 24 = .ok (.getfield 19, 3) := by decide +kernel
theorem dX5_add_27 : decode cX5_add 27 = .ok (.iconst 1, 1) := by decide +kernel
theorem dX5_add_28 : decode cX5_add 28 = .ok (.iadd, 1) := by decide +kernel
theorem dX5_add_29 : decode cX5_add 29 = .ok (.putfield 19, 3) := by decide +kernel
theorem dX5_add_32 : decode cX5_add 32 = .ok (.return_, 1) := by decide +kernel
theorem dX5_end_0 : decode cX5_end 0 = .ok (.aload_n 0, 1) := by decide +kernel
theorem dX5_end_1 : decode cX5_end 1 = .ok (.getfield 15, 3) := by decide +kernel
theorem dX5_end_4 : decode cX5_end 4 = .ok (.aload_n 0, 1) := by decide +kernel
theorem dX5_end_5 : decode cX5_end 5 = .ok (.getfield 19, 3) := by decide +kernel
theorem dX5_end_8 : decode cX5_end 8 = .ok (.iadd, 1) := by decide +kernel
theorem dX5_end_9 : decode cX5_end 9 = .ok (.iconst 1, 1) := by decide +kernel
theorem dX5_end_10 : decode cX5_end 10 = .ok (.isub, 1) := by decide +kernel
theorem dX5_end_11 : decode cX5_end 11 = .ok (.ireturn, 1) := by decide +kernel
