theorem dX8_divisor_10 : decode cX8_divisor 10 = .ok (.ifCond .eq 21, 3) := by decide +kernel
theorem dX8_divisor_13 : decode cX8_divisor 13 = .ok (.lload 4, 2) := by decide +kernel
theorem dX8_divisor_15 : decode cX8_divisor 15 = .ok (.lload 6, 2) := by decide +kernel
theorem dX8_divisor_17 : decode cX8_divisor 17 = .ok (.lrem, 1) := by decide +kernel
theorem dX8_divisor_18 : decode cX8_divisor 18 = .ok (.lstore 8, 2) := by decide +kernel
theorem dX8_divisor_20 : decode cX8_divisor 20 = .ok (.lload 6, 2) := by decide +kernel
theorem dX8_divisor_22 : decode cX8_divisor 22 = .ok (.lstore 4, 2) := by decide +kernel
theorem dX8_divisor_24 : decode cX8_divisor 24 = .ok (.lload 8, 2) := by decide +kernel
theorem dX8_divisor_26 : decode cX8_divisor 26 = .ok (.lstore 6, 2) := by decide +kernel
theorem dX8_divisor_28 : decode cX8_divisor 28 = .ok (.goto (-22), 3) := by decide +kernel
theorem dX8_divisor_31 : decode cX8_divisor 31 = .ok (.lload 4, 2) := by decide +kernel
theorem dX8_divisor_33 : decode cX8_divisor 33 = .ok (.lreturn, 1) := by decide +kernel
set_option maxRecDepth 20000 in
theorem ggX8_share_X8_isLine : GoodIn wsX8_share wsX8_isLine := goodIn_r _ [9, 3, 2, 4, 10, 11, 12, 13, 8, 14, 15, 16, 17, 44, 45, 46, 47, 48, 49, 50, 51, 52, 53, 54, 55, 56, 57, 58, 59, 60, 61, 62, 63, 64, 65, 66, 67, 68, 69, 70, 71, 72, 73, 74, 75, 76, 77, 78] rfl (by decide +kernel)
set_option maxRecDepth 20000 in
theorem gX8_share_X8_isLine : GoodIn wsX8_share (wsV RX8 109 RX8 yX8_isLine wsX8_isLine) := goodIn_app (goodIn_of _ (by decide +kernel)) ggX8_share_X8_isLine
set_option maxRecDepth 20000 in
theorem ggX8_share_X8_fails : GoodIn wsX8_share wsX8_fails := goodIn_r _ [21, 1, 44, 45, 46, 47, 48, 49, 50, 51, 52, 53, 54, 55, 56, 57, 58, 59, 60, 61, 62, 63, 64, 65, 66, 67, 68, 69, 70, 71, 72, 73, 74, 75, 76, 77, 78] rfl (by decide +kernel)
set_option maxRecDepth 20000 in
theorem gX8_share_X8_fails : GoodIn wsX8_share (wsV RX8 92 RX8 yX8_fails wsX8_fails) := goodIn_app (goodIn_of _ (by decide +kernel)) ggX8_share_X8_fails
set_option maxRecDepth 20000 in
theorem ggX8_share_X8_holds : GoodIn wsX8_share wsX8_holds := goodIn_r _ [25, 26, 15, 17, 27, 28, 29, 30, 31, 32, 33, 8, 34, 35, 10, 36, 44, 45, 46, 47, 48, 49, 50, 51, 52, 53, 54, 55, 56, 57, 58, 59, 60, 61, 62, 63, 64, 65, 66, 67, 68, 69, 70, 71, 72, 73, 74, 75, 76, 77, 78] rfl (by decide +kernel)
set_option maxRecDepth 20000 in
theorem gX8_share_X8_holds : GoodIn wsX8_share (wsV RX8 113 RX8 yX8_holds wsX8_holds) := goodIn_app (goodIn_of _ (by decide +kernel)) ggX8_share_X8_holds
set_option maxRecDepth 20000 in
theorem ggX8_share_X8_drives : GoodIn wsX8_share wsX8_drives := goodIn_r _ [40, 27, 31, 32, 33, 8, 34, 35, 15, 10, 36, 17, 44, 45, 46, 47, 48, 49, 50, 51, 52, 53, 54, 55, 56, 57, 58, 59, 60, 61, 62, 63, 64, 65, 66, 67, 68, 69, 70, 71, 72, 73, 74, 75, 76, 77, 78] rfl (by decide +kernel)
set_option maxRecDepth 20000 in
theorem gX8_share_X8_drives : GoodIn wsX8_share (wsV RX8 117 RX8 yX8_drives wsX8_drives) := goodIn_app (goodIn_of _ (by decide +kernel)) ggX8_share_X8_drives
set_option maxRecDepth 20000 in
theorem ggX8_share_X8_divisor : GoodIn wsX8_share wsX8_divisor := goodIn_r _ [43] rfl (by decide +kernel)
set_option maxRecDepth 20000 in
theorem gX8_share_X8_divisor : GoodIn wsX8_share (va_wsS RX8 120 yX8_divisor wsX8_divisor) := goodIn_app (goodIn_of _ (by decide +kernel)) ggX8_share_X8_divisor
theorem dX8_share_0 : decode cX8_share 0 = .ok (.aload_n 0, 1) := by decide +kernel
theorem dX8_share_1 : decode cX8_share 1 = .ok (.iconst 0, 1) := by decide +kernel
theorem dX8_share_2 : decode cX8_share 2 = .ok (.putfield 76, 3) := by decide +kernel
theorem dX8_share_5 : decode cX8_share 5 = .ok (.aload_n 0, 1) := by decide +kernel
theorem dX8_share_6 : decode cX8_share 6 = .ok (.invokevirtual 109, 3) := by decide +kernel
theorem dX8_share_9 : decode cX8_share 9 = .ok (.ifCond .eq 12, 3) := by decide +kernel
theorem dX8_share_12 : decode cX8_share 12 = .ok (.iload_n 1, 1) := by decide +kernel
theorem dX8_share_13 : decode cX8_share 13 = .ok (.ifCond .lt 8, 3) := by decide +kernel
theorem dX8_share_16 : decode cX8_share 16 = .ok (.iload_n 1, 1) := by decide +kernel
theorem dX8_share_17 : decode cX8_share 17 = .ok (.iconst 3, 1) := by decide +kernel
theorem dX8_share_18 : decode cX8_share 18 = .ok (.if_icmp .le 10, 3) := by decide +kernel
theorem dX8_share_21 : decode cX8_share 21 = .ok (.aload_n 0, 1) := by decide +kernel
theorem dX8_share_22 : decode cX8_share 22 = .ok (.iconst 1, 1) := by decide +kernel
theorem dX8_share_23 : decode cX8_share 23 = .ok (.invokevirtual 92, 3) := by decide +kernel
theorem dX8_share_26 : decode cX8_share 26 = .ok (.i2l, 1) := by decide +kernel
theorem dX8_share_27 : decode cX8_share 27 = .ok (.lreturn, 1) := by decide +kernel
theorem dX8_share_28 : decode cX8_share 28 = .ok (.lconst 0, 1) := by decide +kernel
theorem dX8_share_29 : decode cX8_share 29 = .ok (.lstore_n 2, 1) := by decide +kernel
theorem dX8_share_30 : decode cX8_share 30 = .ok (.lconst 0, 1) := by decide +kernel
theorem dX8_share_31 : decode cX8_share 31 = .ok (.lstore 4, 2) := by decide +kernel
theorem dX8_share_33 : decode cX8_share 33 = .ok (.iconst 0, 1) := by decide +kernel
theorem dX8_share_34 : decode cX8_share 34 = .ok (.istore 6, 2) := by decide +kernel
theorem dX8_share_36 : decode cX8_share 36 = .ok (.iload 6, 2) := by decide +kernel
theorem dX8_share_38 : decode cX8_share 38 = .ok (.aload_n 0, 1) := by decide +kernel
theorem dX8_share_39 : decode cX8_share 39 = .ok (.getfield 82, 3) := by decide +kernel
theorem dX8_share_42 : decode cX8_share 42 = .ok (.iconst 1, 1) := by decide +kernel
theorem dX8_share_43 : decode cX8_share 43 = .ok (.isub, 1) := by decide +kernel
theorem dX8_share_44 : decode cX8_share 44 = .ok (.if_icmp .ge 71, 3) := by decide +kernel
theorem dX8_share_47 : decode cX8_share 47 = .ok (.lload_n 2, 1) := by decide +kernel
theorem dX8_share_48 : decode cX8_share 48 = .ok (.aload_n 0, 1) := by decide +kernel
theorem dX8_share_49 : decode cX8_share 49 = .ok (.aload_n 0, 1) := by decide +kernel
theorem dX8_share_50 : decode cX8_share 50 = .ok (.getfield 51, 3) := by decide +kernel
theorem dX8_share_53 : decode cX8_share 53 = .ok (.iload 6, 2) := by decide +kernel
theorem dX8_share_55 : decode cX8_share 55 = .ok (.iadd, 1) := by decide +kernel
theorem dX8_share_56 : decode cX8_share 56 = .ok (.aload_n 0, 1) := by decide +kernel
theorem dX8_share_57 : decode cX8_share 57 = .ok (.getfield 54, 3) := by decide +kernel
theorem dX8_share_60 : decode cX8_share 60 = .ok (.iload 6, 2) := by decide +kernel
theorem dX8_share_62 : decode cX8_share 62 = .ok (.iaload, 1) := by decide +kernel
theorem dX8_share_63 : decode cX8_share 63 = .ok (.aload_n 0, 1) := by decide +kernel
theorem dX8_share_64 : decode cX8_share 64 = .ok (.getfield 54, 3) := by decide +kernel
theorem dX8_share_67 : decode cX8_share 67 = .ok (.iload 6, 2) := by decide +kernel
theorem dX8_share_69 : decode cX8_share 69 = .ok (.iconst 1, 1) := by decide +kernel
theorem dX8_share_70 : decode cX8_share 70 = .ok (.iadd, 1) := by decide +kernel
theorem dX8_share_71 : decode cX8_share 71 = .ok (.iaload, 1) := by decide +kernel
theorem dX8_share_72 : decode cX8_share 72 = .ok (.invokevirtual 113, 3) := by decide +kernel
theorem dX8_share_75 : decode cX8_share 75 = .ok (.ladd, 1) := by decide +kernel
theorem dX8_share_76 : decode cX8_share 76 = .ok (.lstore_n 2, 1) := by decide +kernel
theorem dX8_share_77 : decode cX8_share 77 = .ok (.lload 4, 2) := by decide +kernel
theorem dX8_share_79 : decode cX8_share 79 = .ok (.aload_n 0, 1) := by decide +kernel
theorem dX8_share_80 : decode cX8_share 80 = .ok (.aload_n 0, 1) := by decide +kernel
theorem dX8_share_81 : decode cX8_share 81 = .ok (.getfield 51, 3) := by decide +kernel
theorem dX8_share_84 : decode cX8_share 84 = .ok (.iload 6, 2) := by decide +kernel
theorem dX8_share_86 : decode cX8_share 86 = .ok (.iadd, 1) := by decide +kernel
theorem dX8_share_87 : decode cX8_share 87 = .ok (.aload_n 0, 1) := by decide +kernel
theorem dX8_share_88 : decode cX8_share 88 = .ok (.getfield 54, 3) := by decide +kernel
theorem dX8_share_91 : decode cX8_share 91 = .ok (.iload 6, 2) := by decide +kernel
theorem dX8_share_93 : decode cX8_share 93 = .ok (.iaload, 1) := by decide +kernel
theorem dX8_share_94 : decode cX8_share 94 = .ok (.aload_n 0, 1) := by decide +kernel
theorem dX8_share_95 : decode cX8_share 95 = .ok (.getfield 54, 3) := by decide +kernel
theorem dX8_share_98 : decode cX8_share 98 = .ok (.iload 6, 2) := by decide +kernel
theorem dX8_share_100 : decode cX8_share 100 = .ok (.iconst 1, 1) := by decide +kernel
theorem dX8_share_101 : decode cX8_share 101 = .ok (.iadd, 1) := by decide +kernel
theorem dX8_share_102 : decode cX8_share 102 = .ok (.iaload, 1) := by decide +kernel
theorem dX8_share_103 : decode cX8_share 103 = .ok (.invokevirtual 117, 3) := by decide +kernel
theorem dX8_share_106 : decode cX8_share 106 = .ok (.ladd, 1) := by decide +kernel
theorem dX8_share_107 : decode cX8_share 107 = .ok (.lstore 4, 2) := by decide +kernel
theorem dX8_share_109 : decode cX8_share 109 = .ok (.iinc 6 1, 3) := by decide +kernel
theorem dX8_share_112 : decode cX8_share 112 = .ok (.goto (-76), 3) := by decide +kernel
theorem dX8_share_115 : decode cX8_share 115 = .ok (.iload_n 1, 1) := by decide +kernel
theorem dX8_share_116 : decode cX8_share 116 = .ok (.ifCond .ne 5, 3) := by decide +kernel
theorem dX8_share_119 : decode cX8_share 119 = .ok (.lload_n 2, 1) := by decide +kernel
theorem dX8_share_120 : decode cX8_share 120 = .ok (.lreturn, 1) := by decide +kernel
theorem dX8_share_121 : decode cX8_share 121 = .ok (.iload_n 1, 1) := by decide +kernel
theorem dX8_share_122 : decode cX8_share 122 = .ok (.iconst 1, 1) := by decide +kernel
theorem dX8_share_123 : decode cX8_share 123 = .ok (.if_icmp .ne 6, 3) := by decide +kernel
theorem dX8_share_126 : decode cX8_share 126 = .ok (.lload 4, 2) := by decide +kernel
theorem dX8_share_128 : decode cX8_share 128 = .ok (.lreturn, 1) := by decide +kernel
theorem dX8_share_129 : decode cX8_share 129 = .ok (.lload 4, 2) := by decide +kernel
theorem dX8_share_131 : decode cX8_share 131 = .ok (.lconst 0, 1) := by decide +kernel
theorem dX8_share_132 : decode cX8_share 132 = .ok (.lcmp, 1) := by decide +kernel
theorem dX8_share_133 : decode cX8_share 133 = .ok (.ifCond .gt 10, 3) := by decide +kernel
theorem dX8_share_136 : decode cX8_share 136 = .ok (.aload_n 0, 1) := by decide +kernel
theorem dX8_share_137 : decode cX8_share 137 = .ok (.iconst 1, 1) := by decide +kernel
theorem dX8_share_138 : decode cX8_share 138 = .ok (.invokevirtual 92, 3) := by decide +kernel
theorem dX8_share_141 : decode cX8_share 141 = .ok (.i2l, 1) := by decide +kernel
theorem dX8_share_142 : decode cX8_share 142 = .ok (.lreturn, 1) := by decide +kernel
theorem dX8_share_143 : decode cX8_share 143 = .ok (.lload_n 2, 1) := by decide +kernel
theorem dX8_share_144 : decode cX8_share 144 = .ok (.lload 4, 2) := by decide +kernel
theorem dX8_share_146 : decode cX8_share 146 = .ok (.invokestatic 120, 3) := by decide +kernel
theorem dX8_share_149 : decode cX8_share 149 = .ok (.lstore 6, 2) := by decide +kernel
theorem dX8_share_151 : decode cX8_share 151 = .ok (.iload_n 1, 1) := by decide +kernel
theorem dX8_share_152 : decode cX8_share 152 = .ok (.iconst 2, 1) := by decide +kernel
theorem dX8_share_153 : decode cX8_share 153 = .ok (.if_icmp .ne 10, 3) := by decide +kernel
theorem dX8_share_156 : decode cX8_share 156 = .ok (.lload_n 2, 1) := by decide +kernel
theorem dX8_share_157 : decode cX8_share 157 = .ok (.lload 6, 2) := by decide +kernel
theorem dX8_share_159 : decode cX8_share 159 = .ok (.ldiv, 1) := by decide +kernel
theorem dX8_share_160 : decode cX8_share 160 = .ok (.goto 8, 3) := by decide +kernel
theorem dX8_share_163 : decode cX8_share 163 = .ok (.lload 4, 2) := by decide +kernel
theorem dX8_share_165 : decode cX8_share 165 = .ok (.lload 6, 2) := by decide +kernel
theorem dX8_share_167 : decode cX8_share 167 = .ok (.ldiv, 1) := by decide +kernel
theorem dX8_share_168 : decode cX8_share 168 = .ok (.lreturn, 1) := by decide +kernel
theorem dX8_better_0 : decode cX8_better 0 = .ok (.lload_n 0, 1) := by decide +kernel
theorem dX8_better_1 : decode cX8_better 1 = .ok (.lload 4, 2) := by decide +kernel
theorem dX8_better_3 : decode cX8_better 3 = .ok (.lcmp, 1) := by decide +kernel
theorem dX8_better_4 : decode cX8_better 4 = .ok (.ifCond .lt 17, 3) := by decide +kernel
theorem dX8_better_7 : decode cX8_better 7 = .ok (.lload_n 0, 1) := by decide +kernel
theorem dX8_better_8 : decode cX8_better 8 = .ok (.lload 4, 2) := by decide +kernel
theorem dX8_better_10 : decode cX8_better 10 = .ok (.lcmp, 1) := by decide +kernel
theorem dX8_better_11 : decode cX8_better 11 = .ok (.ifCond .ne 14, 3) := by decide +kernel
theorem dX8_better_14 : decode cX8_better 14 = .ok (.lload_n 2, 1) := by decide +kernel
theorem dX8_better_15 : decode cX8_better 15 = .ok (.lload 6, 2) := by decide +kernel
theorem dX8_better_17 : decode cX8_better 17 = .ok (.lcmp, 1) := by decide +kernel
theorem dX8_better_18 : decode cX8_better 18 = .ok (.ifCond .le 7, 3) := by decide +kernel
theorem dX8_better_21 : decode cX8_better 21 = .ok (.iconst 1, 1) := by decide +kernel
theorem dX8_better_22 : decode cX8_better 22 = .ok (.goto 4, 3) := by decide +kernel
theorem dX8_better_25 : decode cX8_better 25 = .ok (.iconst 0, 1) := by decide +kernel
theorem dX8_better_26 : decode cX8_better 26 = .ok (.ireturn, 1) := by decide +kernel
set_option maxRecDepth 20000 in
theorem ggX8_walk_X8_better : GoodIn wsX8_walk wsX8_better := goodIn_r _ [14] rfl (by decide +kernel)
set_option maxRecDepth 20000 in
theorem gX8_walk_X8_better : GoodIn wsX8_walk (va_wsS RX8 133 yX8_better wsX8_better) := goodIn_app (goodIn_of _ (by decide +kernel)) ggX8_walk_X8_better
set_option maxRecDepth 20000 in
theorem ggX8_walk_X8_can : GoodIn wsX8_walk wsX8_can := goodIn_r _ [18, 6, 7, 19, 20, 40, 41, 42, 43, 44, 45, 46, 47, 48, 49, 50, 51, 52, 53, 54, 55, 56, 57, 58, 59, 60, 61, 62, 63, 64, 65, 66, 67, 68, 69, 70, 71, 72, 73, 74] rfl (by decide +kernel)
set_option maxRecDepth 20000 in
theorem gX8_walk_X8_can : GoodIn wsX8_walk (wsV RX8 105 RX8 yX8_can wsX8_can) := goodIn_app (goodIn_of _ (by decide +kernel)) ggX8_walk_X8_can
set_option maxRecDepth 20000 in
theorem ggX8_walk_X8_holds : GoodIn wsX8_walk wsX8_holds := goodIn_r _ [24, 25, 7, 20, 26, 27, 28, 29, 30, 31, 32, 13, 33, 34, 6, 35, 40, 41, 42, 43, 44, 45, 46, 47, 48, 49, 50, 51, 52, 53, 54, 55, 56, 57, 58, 59, 60, 61, 62, 63, 64, 65, 66, 67, 68, 69, 70, 71, 72, 73, 74] rfl (by decide +kernel)
set_option maxRecDepth 20000 in
theorem gX8_walk_X8_holds : GoodIn wsX8_walk (wsV RX8 113 RX8 yX8_holds wsX8_holds) := goodIn_app (goodIn_of _ (by decide +kernel)) ggX8_walk_X8_holds
set_option maxRecDepth 20000 in
theorem ggX8_walk_X8_drives : GoodIn wsX8_walk wsX8_drives := goodIn_r _ [39, 26, 30, 31, 32, 13, 33, 34, 7, 6, 35, 20, 40, 41, 42, 43, 44, 45, 46, 47, 48, 49, 50, 51, 52, 53, 54, 55, 56, 57, 58, 59, 60, 61, 62, 63, 64, 65, 66, 67, 68, 69, 70, 71, 72, 73, 74] rfl (by decide +kernel)
set_option maxRecDepth 20000 in
theorem gX8_walk_X8_drives : GoodIn wsX8_walk (wsV RX8 117 RX8 yX8_drives wsX8_drives) := goodIn_app (goodIn_of _ (by decide +kernel)) ggX8_walk_X8_drives
theorem dX8_walk_0 : decode cX8_walk 0 = .ok (.aload_n 0, 1) := by decide +kernel
theorem dX8_walk_1 : decode cX8_walk 1 = .ok (.ldc2_w 124, 3) := by decide +kernel
theorem dX8_walk_4 : decode cX8_walk 4 = .ok (.putfield 126, 3) := by decide +kernel
theorem dX8_walk_7 : decode cX8_walk 7 = .ok (.aload_n 0, 1) := by decide +kernel
theorem dX8_walk_8 : decode cX8_walk 8 = .ok (.lconst 0, 1) := by decide +kernel
theorem dX8_walk_9 : decode cX8_walk 9 = .ok (.putfield 130, 3) := by decide +kernel
theorem dX8_walk_12 : decode cX8_walk 12 = .ok (.iconst 0, 1) := by decide +kernel
theorem dX8_walk_13 : decode cX8_walk 13 = .ok (.istore 7, 2) := by decide +kernel
theorem dX8_walk_15 : decode cX8_walk 15 = .ok (.iload 7, 2) := by decide +kernel
theorem dX8_walk_17 : decode cX8_walk 17 = .ok (.bipush 25, 2) := by decide +kernel
theorem dX8_walk_19 : decode cX8_walk 19 = .ok (.aload_n 0, 1) := by decide +kernel
theorem dX8_walk_20 : decode cX8_walk 20 = .ok (.getfield 7, 3) := by decide +kernel
theorem dX8_walk_23 : decode cX8_walk 23 = .ok (.imul, 1) := by decide +kernel
theorem dX8_walk_24 : decode cX8_walk 24 = .ok (.bipush 25, 2) := by decide +kernel
theorem dX8_walk_26 : decode cX8_walk 26 = .ok (.iadd, 1) := by decide +kernel
theorem dX8_walk_27 : decode cX8_walk 27 = .ok (.if_icmp .ge 19, 3) := by decide +kernel
theorem dX8_walk_30 : decode cX8_walk 30 = .ok (.aload_n 0, 1) := by decide +kernel
theorem dX8_walk_31 : decode cX8_walk 31 = .ok (.getfield 57, 3) := by decide +kernel
theorem dX8_walk_34 : decode cX8_walk 34 = .ok (.iload 7, 2) := by decide +kernel
theorem dX8_walk_36 : decode cX8_walk 36 = .ok (.ldc2_w 124, 3) := by decide +kernel
theorem dX8_walk_39 : decode cX8_walk 39 = .ok (.lastore, 1) := by decide +kernel
theorem dX8_walk_40 : decode cX8_walk 40 = .ok (.iinc 7 1, 3) := by decide +kernel
theorem dX8_walk_43 : decode cX8_walk 43 = .ok (.goto (-28), 3) := by decide +kernel
theorem dX8_walk_46 : decode cX8_walk 46 = .ok (.iconst 0, 1) := by decide +kernel
theorem dX8_walk_47 : decode cX8_walk 47 = .ok (.istore 7, 2) := by decide +kernel
theorem dX8_walk_49 : decode cX8_walk 49 = .ok (.iload 7, 2) := by decide +kernel
theorem dX8_walk_51 : decode cX8_walk 51 = .ok (.aload_n 0, 1) := by decide +kernel
theorem dX8_walk_52 : decode cX8_walk 52 = .ok (.getfield 7, 3) := by decide +kernel
theorem dX8_walk_55 : decode cX8_walk 55 = .ok (.if_icmp .ge 426, 3) := by decide +kernel
theorem dX8_walk_58 : decode cX8_walk 58 = .ok (.iload_n 1, 1) := by decide +kernel
theorem dX8_walk_59 : decode cX8_walk 59 = .ok (.ifCond .lt 9, 3) := by decide +kernel
theorem dX8_walk_62 : decode cX8_walk 62 = .ok (.iload_n 1, 1) := by decide +kernel
theorem dX8_walk_63 : decode cX8_walk 63 = .ok (.iload 7, 2) := by decide +kernel
theorem dX8_walk_65 : decode cX8_walk 65 = .ok (.if_icmp .ne 7, 3) := by decide +kernel
theorem dX8_walk_68 : decode cX8_walk 68 = .ok (.iconst 1, 1) := by decide +kernel
theorem dX8_walk_69 : decode cX8_walk 69 = .ok (.goto 4, 3) := by decide +kernel
theorem dX8_walk_72 : decode cX8_walk 72 = .ok (.iconst 0, 1) := by decide +kernel
theorem dX8_walk_73 : decode cX8_walk 73 = .ok (.istore 8, 2) := by decide +kernel
theorem dX8_walk_75 : decode cX8_walk 75 = .ok (.iconst 0, 1) := by decide +kernel
theorem dX8_walk_76 : decode cX8_walk 76 = .ok (.istore 9, 2) := by decide +kernel
theorem dX8_walk_78 : decode cX8_walk 78 = .ok (.iload 9, 2) := by decide +kernel
theorem dX8_walk_80 : decode cX8_walk 80 = .ok (.bipush 25, 2) := by decide +kernel
theorem dX8_walk_82 : decode cX8_walk 82 = .ok (.if_icmp .ge 393, 3) := by decide +kernel
theorem dX8_walk_85 : decode cX8_walk 85 = .ok (.bipush 25, 2) := by decide +kernel
theorem dX8_walk_87 : decode cX8_walk 87 = .ok (.iload 7, 2) := by decide +kernel
theorem dX8_walk_89 : decode cX8_walk 89 = .ok (.imul, 1) := by decide +kernel
theorem dX8_walk_90 : decode cX8_walk 90 = .ok (.iload 9, 2) := by decide +kernel
theorem dX8_walk_92 : decode cX8_walk 92 = .ok (.iadd, 1) := by decide +kernel
theorem dX8_walk_93 : decode cX8_walk 93 = .ok (.istore 10, 2) := by decide +kernel
theorem dX8_walk_95 : decode cX8_walk 95 = .ok (.iload 8, 2) := by decide +kernel
theorem dX8_walk_97 : decode cX8_walk 97 = .ok (.ifCond .eq 66, 3) := by decide +kernel
theorem dX8_walk_100 : decode cX8_walk 100 = .ok (.iload 9, 2) := by decide +kernel
theorem dX8_walk_102 : decode cX8_walk 102 = .ok (.aload_n 0, 1) := by decide +kernel
theorem dX8_walk_103 : decode cX8_walk 103 = .ok (.getfield 30, 3) := by decide +kernel
theorem dX8_walk_106 : decode cX8_walk 106 = .ok (.aload_n 0, 1) := by decide +kernel
theorem dX8_walk_107 : decode cX8_walk 107 = .ok (.getfield 96, 3) := by decide +kernel
theorem dX8_walk_110 : decode cX8_walk 110 = .ok (.iload 7, 2) := by decide +kernel
theorem dX8_walk_112 : decode cX8_walk 112 = .ok (.iadd, 1) := by decide +kernel
theorem dX8_walk_113 : decode cX8_walk 113 = .ok (.iaload, 1) := by decide +kernel
theorem dX8_walk_114 : decode cX8_walk 114 = .ok (.if_icmp .ne 49, 3) := by decide +kernel
theorem dX8_walk_117 : decode cX8_walk 117 = .ok (.lconst 0, 1) := by decide +kernel
theorem dX8_walk_118 : decode cX8_walk 118 = .ok (.lconst 0, 1) := by decide +kernel
theorem dX8_walk_119 : decode cX8_walk 119 = .ok (.aload_n 0, 1) := by decide +kernel
theorem dX8_walk_120 : decode cX8_walk 120 = .ok (.getfield 57, 3) := by decide +kernel
theorem dX8_walk_123 : decode cX8_walk 123 = .ok (.iload 10, 2) := by decide +kernel
theorem dX8_walk_125 : decode cX8_walk 125 = .ok (.laload, 1) := by decide +kernel
theorem dX8_walk_126 : decode cX8_walk 126 = .ok (.aload_n 0, 1) := by decide +kernel
theorem dX8_walk_127 : decode cX8_walk 127 = .ok (.getfield 61, 3) := by decide +kernel
theorem dX8_walk_130 : decode cX8_walk 130 = .ok (.iload 10, 2) := by decide +kernel
theorem dX8_walk_132 : decode cX8_walk 132 = .ok (.laload, 1) := by decide +kernel
theorem dX8_walk_133 : decode cX8_walk 133 = .ok (.invokestatic 133, 3) := by decide +kernel
theorem dX8_walk_136 : decode cX8_walk 136 = .ok (.ifCond .eq 27, 3) := by decide +kernel
theorem dX8_walk_139 : decode cX8_walk 139 = .ok (.aload_n 0, 1) := by decide +kernel
theorem dX8_walk_140 : decode cX8_walk 140 = .ok (.getfield 57, 3) := by decide +kernel
theorem dX8_walk_143 : decode cX8_walk 143 = .ok (.iload 10, 2) := by decide +kernel
theorem dX8_walk_145 : decode cX8_walk 145 = .ok (.lconst 0, 1) := by decide +kernel
theorem dX8_walk_146 : decode cX8_walk 146 = .ok (.lastore, 1) := by decide +kernel
theorem dX8_walk_147 : decode cX8_walk 147 = .ok (.aload_n 0, 1) := by decide +kernel
theorem dX8_walk_148 : decode cX8_walk 148 = .ok (.getfield 61, 3) := by decide +kernel
theorem dX8_walk_151 : decode cX8_walk 151 = .ok (.iload 10, 2) := by decide +kernel
theorem dX8_walk_153 : decode cX8_walk 153 = .ok (.lconst 0, 1) := by decide +kernel
theorem dX8_walk_154 : decode cX8_walk 154 = .ok (.lastore, 1) := by decide +kernel
theorem dX8_walk_155 : decode cX8_walk 155 = .ok (.aload_n 0, 1) := by decide +kernel
theorem dX8_walk_156 : decode cX8_walk 156 = .ok (.getfield 64, 3) := by decide +kernel
theorem dX8_walk_159 : decode cX8_walk 159 = .ok (.iload 10, 2) := by decide +kernel
theorem dX8_walk_161 : decode cX8_walk 161 = .ok (.lconst 0, 1) := by decide +kernel
theorem dX8_walk_162 : decode cX8_walk 162 = .ok (.lastore, 1) := by decide +kernel
theorem dX8_walk_163 : decode cX8_walk 163 = .ok (.aload_n 0, 1) := by decide +kernel
theorem dX8_walk_164 : decode cX8_walk 164 = .ok (.getfield 57, 3) := by decide +kernel
theorem dX8_walk_167 : decode cX8_walk 167 = .ok (.iload 10, 2) := by decide +kernel
theorem dX8_walk_169 : decode cX8_walk 169 = .ok (.laload, 1) := by decide +kernel
theorem dX8_walk_170 : decode cX8_walk 170 = .ok (.ldc2_w 124, 3) := by decide +kernel
theorem dX8_walk_173 : decode cX8_walk 173 = .ok (.lcmp, 1) := by decide +kernel
theorem dX8_walk_174 : decode cX8_walk 174 = .ok (.ifCond .ne 6, 3) := by decide +kernel
theorem dX8_walk_177 : decode cX8_walk 177 = .ok (.goto 292, 3) := by decide +kernel
theorem dX8_walk_180 : decode cX8_walk 180 = .ok (.iload 9, 2) := by decide +kernel
theorem dX8_walk_182 : decode cX8_walk 182 = .ok (.iconst 4, 1) := by decide +kernel
theorem dX8_walk_183 : decode cX8_walk 183 = .ok (.if_icmp .le 10, 3) := by decide +kernel
theorem dX8_walk_186 : decode cX8_walk 186 = .ok (.iload 9, 2) := by decide +kernel
theorem dX8_walk_188 : decode cX8_walk 188 = .ok (.iconst 4, 1) := by decide +kernel
theorem dX8_walk_189 : decode cX8_walk 189 = .ok (.isub, 1) := by decide +kernel
theorem dX8_walk_190 : decode cX8_walk 190 = .ok (.goto 4, 3) := by decide +kernel
theorem dX8_walk_193 : decode cX8_walk 193 = .ok (.iconst 0, 1) := by decide +kernel
theorem dX8_walk_194 : decode cX8_walk 194 = .ok (.istore 11, 2) := by decide +kernel
theorem dX8_walk_196 : decode cX8_walk 196 = .ok (.iload 11, 2) := by decide +kernel
theorem dX8_walk_198 : decode cX8_walk 198 = .ok (.iload 9, 2) := by decide +kernel
theorem dX8_walk_200 : decode cX8_walk 200 = .ok (.iconst 4, 1) := by decide +kernel
theorem dX8_walk_201 : decode cX8_walk 201 = .ok (.iadd, 1) := by decide +kernel
theorem dX8_walk_202 : decode cX8_walk 202 = .ok (.if_icmp .gt 267, 3) := by decide +kernel
theorem dX8_walk_205 : decode cX8_walk 205 = .ok (.iload 11, 2) := by decide +kernel
theorem dX8_walk_207 : decode cX8_walk 207 = .ok (.bipush 25, 2) := by decide +kernel
theorem dX8_walk_209 : decode cX8_walk 209 = .ok (.if_icmp .ge 260, 3) := by decide +kernel
theorem dX8_walk_212 : decode cX8_walk 212 = .ok (.aload_n 0, 1) := by decide +kernel
theorem dX8_walk_213 : decode cX8_walk 213 = .ok (.iload 7, 2) := by decide +kernel
theorem dX8_walk_215 : decode cX8_walk 215 = .ok (.iload 9, 2) := by decide +kernel
theorem dX8_walk_217 : decode cX8_walk 217 = .ok (.iload 11, 2) := by decide +kernel
theorem dX8_walk_219 : decode cX8_walk 219 = .ok (.invokevirtual 105, 3) := by decide +kernel
theorem dX8_walk_222 : decode cX8_walk 222 = .ok (.ifCond .ne 6, 3) := by decide +kernel
theorem dX8_walk_225 : decode cX8_walk 225 = .ok (.goto 238, 3) := by decide +kernel
theorem dX8_walk_228 : decode cX8_walk 228 = .ok (.aload_n 0, 1) := by decide +kernel
theorem dX8_walk_229 : decode cX8_walk 229 = .ok (.iload 7, 2) := by decide +kernel
theorem dX8_walk_231 : decode cX8_walk 231 = .ok (.iload 9, 2) := by decide +kernel
theorem dX8_walk_233 : decode cX8_walk 233 = .ok (.iload 11, 2) := by decide +kernel
theorem dX8_walk_235 : decode cX8_walk 235 = .ok (.invokevirtual 113, 3) := by decide +kernel
theorem dX8_walk_238 : decode cX8_walk 238 = .ok (.lstore 12, 2) := by decide +kernel
theorem dX8_walk_240 : decode cX8_walk 240 = .ok (.aload_n 0, 1) := by decide +kernel
theorem dX8_walk_241 : decode cX8_walk 241 = .ok (.iload 7, 2) := by decide +kernel
theorem dX8_walk_243 : decode cX8_walk 243 = .ok (.iload 9, 2) := by decide +kernel
theorem dX8_walk_245 : decode cX8_walk 245 = .ok (.iload 11, 2) := by decide +kernel
theorem dX8_walk_247 : decode cX8_walk 247 = .ok (.invokevirtual 117, 3) := by decide +kernel
theorem dX8_walk_250 : decode cX8_walk 250 = .ok (.lstore 14, 2) := by decide +kernel
theorem dX8_walk_252 : decode cX8_walk 252 = .ok (.aload_n 0, 1) := by decide +kernel
theorem dX8_walk_253 : decode cX8_walk 253 = .ok (.getfield 57, 3) := by decide +kernel
theorem dX8_walk_256 : decode cX8_walk 256 = .ok (.iload 10, 2) := by decide +kernel
theorem dX8_walk_258 : decode cX8_walk 258 = .ok (.laload, 1) := by decide +kernel
theorem dX8_walk_259 : decode cX8_walk 259 = .ok (.lload 4, 2) := by decide +kernel
theorem dX8_walk_261 : decode cX8_walk 261 = .ok (.lload 12, 2) := by decide +kernel
theorem dX8_walk_263 : decode cX8_walk 263 = .ok (.lmul, 1) := by decide +kernel
theorem dX8_walk_264 : decode cX8_walk 264 = .ok (.ladd, 1) := by decide +kernel
theorem dX8_walk_265 : decode cX8_walk 265 = .ok (.lload_n 2, 1) := by decide +kernel
theorem dX8_walk_266 : decode cX8_walk 266 = .ok (.lload 14, 2) := by decide +kernel
theorem dX8_walk_268 : decode cX8_walk 268 = .ok (.lmul, 1) := by decide +kernel
theorem dX8_walk_269 : decode cX8_walk 269 = .ok (.lsub, 1) := by decide +kernel
theorem dX8_walk_270 : decode cX8_walk 270 = .ok (.lstore 16, 2) := by decide +kernel
theorem dX8_walk_272 : decode cX8_walk 272 = .ok (.iload 10, 2) := by decide +kernel
theorem dX8_walk_274 : decode cX8_walk 274 = .ok (.bipush 25, 2) := by decide +kernel
theorem dX8_walk_276 : decode cX8_walk 276 = .ok (.iadd, 1) := by decide +kernel
theorem dX8_walk_277 : decode cX8_walk 277 = .ok (.iload 9, 2) := by decide +kernel
theorem dX8_walk_279 : decode cX8_walk 279 = .ok (.isub, 1) := by decide +kernel
theorem dX8_walk_280 : decode cX8_walk 280 = .ok (.iload 11, 2) := by decide +kernel
theorem dX8_walk_282 : decode cX8_walk 282 = .ok (.iadd, 1) := by decide +kernel
theorem dX8_walk_283 : decode cX8_walk 283 = .ok (.istore 18, 2) := by decide +kernel
theorem dX8_walk_285 : decode cX8_walk 285 = .ok (.iload 11, 2) := by decide +kernel
theorem dX8_walk_287 : decode cX8_walk 287 = .ok (.aload_n 0, 1) := by decide +kernel
theorem dX8_walk_288 : decode cX8_walk 288 = .ok (.getfield 30, 3) := by decide +kernel
theorem dX8_walk_291 : decode cX8_walk 291 = .ok (.aload_n 0, 1) := by decide +kernel
theorem dX8_walk_292 : decode cX8_walk 292 = .ok (.getfield 96, 3) := by decide +kernel
theorem dX8_walk_295 : decode cX8_walk 295 = .ok (.iload 7, 2) := by decide +kernel
theorem dX8_walk_297 : decode cX8_walk 297 = .ok (.iadd, 1) := by decide +kernel
theorem dX8_walk_298 : decode cX8_walk 298 = .ok (.iaload, 1) := by decide +kernel
theorem dX8_walk_299 : decode cX8_walk 299 = .ok (.if_icmp .ne 21, 3) := by decide +kernel
theorem dX8_walk_302 : decode cX8_walk 302 = .ok (.iload 6, 2) := by decide +kernel
theorem dX8_walk_304 : decode cX8_walk 304 = .ok (.ifCond .lt 12, 3) := by decide +kernel
theorem dX8_walk_307 : decode cX8_walk 307 = .ok (.iload 6, 2) := by decide +kernel
theorem dX8_walk_309 : decode cX8_walk 309 = .ok (.iload 7, 2) := by decide +kernel
theorem dX8_walk_311 : decode cX8_walk 311 = .ok (.iconst 1, 1) := by decide +kernel
theorem dX8_walk_312 : decode cX8_walk 312 = .ok (.iadd, 1) := by decide +kernel
theorem dX8_walk_313 : decode cX8_walk 313 = .ok (.if_icmp .ne 7, 3) := by decide +kernel
theorem dX8_walk_316 : decode cX8_walk 316 = .ok (.iconst 1, 1) := by decide +kernel
theorem dX8_walk_317 : decode cX8_walk 317 = .ok (.goto 4, 3) := by decide +kernel
theorem dX8_walk_320 : decode cX8_walk 320 = .ok (.iconst 0, 1) := by decide +kernel
theorem dX8_walk_321 : decode cX8_walk 321 = .ok (.istore 19, 2) := by decide +kernel
theorem dX8_walk_323 : decode cX8_walk 323 = .ok (.iload 19, 2) := by decide +kernel
theorem dX8_walk_325 : decode cX8_walk 325 = .ok (.ifCond .eq 63, 3) := by decide +kernel
theorem dX8_walk_328 : decode cX8_walk 328 = .ok (.lload 16, 2) := by decide +kernel
theorem dX8_walk_330 : decode cX8_walk 330 = .ok (.aload_n 0, 1) := by decide +kernel
theorem dX8_walk_331 : decode cX8_walk 331 = .ok (.getfield 61, 3) := by decide +kernel
theorem dX8_walk_334 : decode cX8_walk 334 = .ok (.iload 10, 2) := by decide +kernel
theorem dX8_walk_336 : decode cX8_walk 336 = .ok (.laload, 1) := by decide +kernel
theorem dX8_walk_337 : decode cX8_walk 337 = .ok (.lload 14, 2) := by decide +kernel
theorem dX8_walk_339 : decode cX8_walk 339 = .ok (.ladd, 1) := by decide +kernel
theorem dX8_walk_340 : decode cX8_walk 340 = .ok (.aload_n 0, 1) := by decide +kernel
theorem dX8_walk_341 : decode cX8_walk 341 = .ok (.getfield 126, 3) := by decide +kernel
theorem dX8_walk_344 : decode cX8_walk 344 = .ok (.aload_n 0, 1) := by decide +kernel
theorem dX8_walk_345 : decode cX8_walk 345 = .ok (.getfield 130, 3) := by decide +kernel
theorem dX8_walk_348 : decode cX8_walk 348 = .ok (.invokestatic 133, 3) := by decide +kernel
theorem dX8_walk_351 : decode cX8_walk 351 = .ok (.ifCond .eq 37, 3) := by decide +kernel
theorem dX8_walk_354 : decode cX8_walk 354 = .ok (.aload_n 0, 1) := by decide +kernel
theorem dX8_walk_355 : decode cX8_walk 355 = .ok (.lload 16, 2) := by decide +kernel
theorem dX8_walk_357 : decode cX8_walk 357 = .ok (.putfield 126, 3) := by decide +kernel
theorem dX8_walk_360 : decode cX8_walk 360 = .ok (.aload_n 0, 1) := by decide +kernel
theorem dX8_walk_361 : decode cX8_walk 361 = .ok (.aload_n 0, 1) := by decide +kernel
theorem dX8_walk_362 : decode cX8_walk 362 = .ok (.getfield 61, 3) := by decide +kernel
theorem dX8_walk_365 : decode cX8_walk 365 = .ok (.iload 10, 2) := by decide +kernel
theorem dX8_walk_367 : decode cX8_walk 367 = .ok (.laload, 1) := by decide +kernel
theorem dX8_walk_368 : decode cX8_walk 368 = .ok (.lload 14, 2) := by decide +kernel
theorem dX8_walk_370 : decode cX8_walk 370 = .ok (.ladd, 1) := by decide +kernel
theorem dX8_walk_371 : decode cX8_walk 371 = .ok (.putfield 130, 3) := by decide +kernel
theorem dX8_walk_374 : decode cX8_walk 374 = .ok (.aload_n 0, 1) := by decide +kernel
theorem dX8_walk_375 : decode cX8_walk 375 = .ok (.aload_n 0, 1) := by decide +kernel
theorem dX8_walk_376 : decode cX8_walk 376 = .ok (.getfield 64, 3) := by decide +kernel
theorem dX8_walk_379 : decode cX8_walk 379 = .ok (.iload 10, 2) := by decide +kernel
theorem dX8_walk_381 : decode cX8_walk 381 = .ok (.laload, 1) := by decide +kernel
theorem dX8_walk_382 : decode cX8_walk 382 = .ok (.lload 12, 2) := by decide +kernel
theorem dX8_walk_384 : decode cX8_walk 384 = .ok (.ladd, 1) := by decide +kernel
theorem dX8_walk_385 : decode cX8_walk 385 = .ok (.putfield 137, 3) := by decide +kernel
theorem dX8_walk_388 : decode cX8_walk 388 = .ok (.lload 16, 2) := by decide +kernel
theorem dX8_walk_390 : decode cX8_walk 390 = .ok (.aload_n 0, 1) := by decide +kernel
theorem dX8_walk_391 : decode cX8_walk 391 = .ok (.getfield 61, 3) := by decide +kernel
theorem dX8_walk_394 : decode cX8_walk 394 = .ok (.iload 10, 2) := by decide +kernel
theorem dX8_walk_396 : decode cX8_walk 396 = .ok (.laload, 1) := by decide +kernel
theorem dX8_walk_397 : decode cX8_walk 397 = .ok (.lload 14, 2) := by decide +kernel
theorem dX8_walk_399 : decode cX8_walk 399 = .ok (.ladd, 1) := by decide +kernel
theorem dX8_walk_400 : decode cX8_walk 400 = .ok (.aload_n 0, 1) := by decide +kernel
theorem dX8_walk_401 : decode cX8_walk 401 = .ok (.getfield 57, 3) := by decide +kernel
theorem dX8_walk_404 : decode cX8_walk 404 = .ok (.iload 18, 2) := by decide +kernel
theorem dX8_walk_406 : decode cX8_walk 406 = .ok (.laload, 1) := by decide +kernel
theorem dX8_walk_407 : decode cX8_walk 407 = .ok (.aload_n 0, 1) := by decide +kernel
theorem dX8_walk_408 : decode cX8_walk 408 = .ok (.getfield 61, 3) := by decide +kernel
theorem dX8_walk_411 : decode cX8_walk 411 = .ok (.iload 18, 2) := by decide +kernel
theorem dX8_walk_413 : decode cX8_walk 413 = .ok (.laload, 1) := by decide +kernel
theorem dX8_walk_414 : decode cX8_walk 414 = .ok (.invokestatic 133, 3) := by decide +kernel
theorem dX8_walk_417 : decode cX8_walk 417 = .ok (.ifCond .eq 46, 3) := by decide +kernel
theorem dX8_walk_420 : decode cX8_walk 420 = .ok (.aload_n 0, 1) := by decide +kernel
theorem dX8_walk_421 : decode cX8_walk 421 = .ok (.getfield 57, 3) := by decide +kernel
theorem dX8_walk_424 : decode cX8_walk 424 = .ok (.iload 18, 2) := by decide +kernel
theorem dX8_walk_426 : decode cX8_walk 426 = .ok (.lload 16, 2) := by decide +kernel
theorem dX8_walk_428 : decode cX8_walk 428 = .ok (.lastore, 1) := by decide +kernel
theorem dX8_walk_429 : decode cX8_walk 429 = .ok (.aload_n 0, 1) := by decide +kernel
theorem dX8_walk_430 : decode cX8_walk 430 = .ok (.getfield 61, 3) := by decide +kernel
theorem dX8_walk_433 : decode cX8_walk 433 = .ok (.iload 18, 2) := by decide +kernel
theorem dX8_walk_435 : decode cX8_walk 435 = .ok (.aload_n 0, 1) := by decide +kernel
theorem dX8_walk_436 : decode cX8_walk 436 = .ok (.getfield 61, 3) := by decide +kernel
theorem dX8_walk_439 : decode cX8_walk 439 = .ok (.iload 10, 2) := by decide +kernel
theorem dX8_walk_441 : decode cX8_walk 441 = .ok (.laload, 1) := by decide +kernel
theorem dX8_walk_442 : decode cX8_walk 442 = .ok (.lload 14, 2) := by decide +kernel
theorem dX8_walk_444 : decode cX8_walk 444 = .ok (.ladd, 1) := by decide +kernel
theorem dX8_walk_445 : decode cX8_walk 445 = .ok (.lastore, 1) := by decide +kernel
theorem dX8_walk_446 : decode cX8_walk 446 = .ok (.aload_n 0, 1) := by decide +kernel
theorem dX8_walk_447 : decode cX8_walk 447 = .ok (.getfield 64, 3) := by decide +kernel
theorem dX8_walk_450 : decode cX8_walk 450 = .ok (.iload 18, 2) := by decide +kernel
theorem dX8_walk_452 : decode cX8_walk 452 = .ok (.aload_n 0, 1) := by decide +kernel
theorem dX8_walk_453 : decode cX8_walk 453 = .ok (.getfield 64, 3) := by decide +kernel
theorem dX8_walk_456 : decode cX8_walk 456 = .ok (.iload 10, 2) := by decide +kernel
theorem dX8_walk_458 : decode cX8_walk 458 = .ok (.laload, 1) := by decide +kernel
theorem dX8_walk_459 : decode cX8_walk 459 = .ok (.lload 12, 2) := by decide +kernel
theorem dX8_walk_461 : decode cX8_walk 461 = .ok (.ladd, 1) := by decide +kernel
theorem dX8_walk_462 : decode cX8_walk 462 = .ok (.lastore, 1) := by decide +kernel
theorem dX8_walk_463 : decode cX8_walk 463 = .ok (.iinc 11 1, 3) := by decide +kernel
theorem dX8_walk_466 : decode cX8_walk 466 = .ok (.goto (-270), 3) := by decide +kernel
theorem dX8_walk_469 : decode cX8_walk 469 = .ok (.iinc 9 1, 3) := by decide +kernel
theorem dX8_walk_472 : decode cX8_walk 472 = .ok (.goto (-394), 3) := by decide +kernel
theorem dX8_walk_475 : decode cX8_walk 475 = .ok (.iinc 7 1, 3) := by decide +kernel
theorem dX8_walk_478 : decode cX8_walk 478 = .ok (.goto (-429), 3) := by decide +kernel
theorem dX8_walk_481 : decode cX8_walk 481 = .ok (.return_, 1) := by decide +kernel
set_option maxRecDepth 20000 in
theorem ggX8_findWorst_X8_walk : GoodIn wsX8_findWorst wsX8_walk := goodIn_r _ [12, 2, 1, 3, 13, 14, 15, 16, 17, 18, 5, 19, 20, 11, 21, 22, 23, 24, 25, 26, 27, 28, 29, 30, 31, 32, 33, 34, 35, 36, 37, 38, 39, 40, 41, 42, 43, 44, 45, 46, 50, 51, 52, 53, 54, 55, 56, 57, 58, 59, 60, 61, 62, 63, 64, 65, 66, 67, 68, 69, 70, 71, 72, 73, 74, 75, 76, 77, 78, 79, 80, 81, 82, 83, 84] rfl (by decide +kernel)
set_option maxRecDepth 20000 in
theorem gX8_findWorst_X8_walk : GoodIn wsX8_findWorst (wsV RX8 140 RX8 yX8_walk wsX8_walk) := goodIn_app (goodIn_of _ (by decide +kernel)) ggX8_findWorst_X8_walk
set_option maxRecDepth 20000 in
theorem ggX8_findWorst_X8_divisor : GoodIn wsX8_findWorst wsX8_divisor := goodIn_r _ [49] rfl (by decide +kernel)
set_option maxRecDepth 20000 in
theorem gX8_findWorst_X8_divisor : GoodIn wsX8_findWorst (va_wsS RX8 120 yX8_divisor wsX8_divisor) := goodIn_app (goodIn_of _ (by decide +kernel)) ggX8_findWorst_X8_divisor
theorem dX8_findWorst_0 : decode cX8_findWorst 0 = .ok (.aload_n 0, 1) := by decide +kernel
theorem dX8_findWorst_1 : decode cX8_findWorst 1 = .ok (.iconst (-1), 1) := by decide +kernel
theorem dX8_findWorst_2 : decode cX8_findWorst 2 = .ok (.lconst 1, 1) := by decide +kernel
theorem dX8_findWorst_3 : decode cX8_findWorst 3 = .ok (.lconst 0, 1) := by decide +kernel
theorem dX8_findWorst_4 : decode cX8_findWorst 4 = .ok (.iconst (-1), 1) := by decide +kernel
theorem dX8_findWorst_5 : decode cX8_findWorst 5 = .ok (.invokevirtual 140, 3) := by decide +kernel
theorem dX8_findWorst_8 : decode cX8_findWorst 8 = .ok (.aload_n 0, 1) := by decide +kernel
theorem dX8_findWorst_9 : decode cX8_findWorst 9 = .ok (.aload_n 0, 1) := by decide +kernel
theorem dX8_findWorst_10 : decode cX8_findWorst 10 = .ok (.getfield 126, 3) := by decide +kernel
theorem dX8_findWorst_13 : decode cX8_findWorst 13 = .ok (.ldc2_w 124, 3) := by decide +kernel
theorem dX8_findWorst_16 : decode cX8_findWorst 16 = .ok (.lcmp, 1) := by decide +kernel
theorem dX8_findWorst_17 : decode cX8_findWorst 17 = .ok (.ifCond .ge 16, 3) := by decide +kernel
theorem dX8_findWorst_20 : decode cX8_findWorst 20 = .ok (.aload_n 0, 1) := by decide +kernel
theorem dX8_findWorst_21 : decode cX8_findWorst 21 = .ok (.getfield 130, 3) := by decide +kernel
theorem dX8_findWorst_24 : decode cX8_findWorst 24 = .ok (.lconst 0, 1) := by decide +kernel
theorem dX8_findWorst_25 : decode cX8_findWorst 25 = .ok (.lcmp, 1) := by decide +kernel
theorem dX8_findWorst_26 : decode cX8_findWorst 26 = .ok (.ifCond .le 7, 3) := by decide +kernel
theorem dX8_findWorst_29 : decode cX8_findWorst 29 = .ok (.iconst 1, 1) := by decide +kernel
theorem dX8_findWorst_30 : decode cX8_findWorst 30 = .ok (.goto 4, 3) := by decide +kernel
theorem dX8_findWorst_33 : decode cX8_findWorst 33 = .ok (.iconst 0, 1) := by decide +kernel
theorem dX8_findWorst_34 : decode cX8_findWorst 34 = .ok (.putfield 144, 3) := by decide +kernel
theorem dX8_findWorst_37 : decode cX8_findWorst 37 = .ok (.aload_n 0, 1) := by decide +kernel
theorem dX8_findWorst_38 : decode cX8_findWorst 38 = .ok (.getfield 144, 3) := by decide +kernel
theorem dX8_findWorst_41 : decode cX8_findWorst 41 = .ok (.ifCond .ne 4, 3) := by decide +kernel
theorem dX8_findWorst_44 : decode cX8_findWorst 44 = .ok (.return_, 1) := by decide +kernel
theorem dX8_findWorst_45 : decode cX8_findWorst 45 = .ok (.iconst 1, 1) := by decide +kernel
theorem dX8_findWorst_46 : decode cX8_findWorst 46 = .ok (.istore_n 1, 1) := by decide +kernel
theorem dX8_findWorst_47 : decode cX8_findWorst 47 = .ok (.iload_n 1, 1) := by decide +kernel
theorem dX8_findWorst_48 : decode cX8_findWorst 48 = .ok (.ifCond .eq 67, 3) := by decide +kernel
theorem dX8_findWorst_51 : decode cX8_findWorst 51 = .ok (.aload_n 0, 1) := by decide +kernel
theorem dX8_findWorst_52 : decode cX8_findWorst 52 = .ok (.getfield 137, 3) := by decide +kernel
theorem dX8_findWorst_55 : decode cX8_findWorst 55 = .ok (.aload_n 0, 1) := by decide +kernel
theorem dX8_findWorst_56 : decode cX8_findWorst 56 = .ok (.getfield 130, 3) := by decide +kernel
theorem dX8_findWorst_59 : decode cX8_findWorst 59 = .ok (.invokestatic 120, 3) := by decide +kernel
theorem dX8_findWorst_62 : decode cX8_findWorst 62 = .ok (.lstore_n 2, 1) := by decide +kernel
theorem dX8_findWorst_63 : decode cX8_findWorst 63 = .ok (.aload_n 0, 1) := by decide +kernel
theorem dX8_findWorst_64 : decode cX8_findWorst 64 = .ok (.aload_n 0, 1) := by decide +kernel
theorem dX8_findWorst_65 : decode cX8_findWorst 65 = .ok (.getfield 137, 3) := by decide +kernel
theorem dX8_findWorst_68 : decode cX8_findWorst 68 = .ok (.lload_n 2, 1) := by decide +kernel
theorem dX8_findWorst_69 : decode cX8_findWorst 69 = .ok (.ldiv, 1) := by decide +kernel
theorem dX8_findWorst_70 : decode cX8_findWorst 70 = .ok (.putfield 148, 3) := by decide +kernel
theorem dX8_findWorst_73 : decode cX8_findWorst 73 = .ok (.aload_n 0, 1) := by decide +kernel
theorem dX8_findWorst_74 : decode cX8_findWorst 74 = .ok (.aload_n 0, 1) := by decide +kernel
theorem dX8_findWorst_75 : decode cX8_findWorst 75 = .ok (.getfield 130, 3) := by decide +kernel
theorem dX8_findWorst_78 : decode cX8_findWorst 78 = .ok (.lload_n 2, 1) := by decide +kernel
theorem dX8_findWorst_79 : decode cX8_findWorst 79 = .ok (.ldiv, 1) := by decide +kernel
theorem dX8_findWorst_80 : decode cX8_findWorst 80 = .ok (.putfield 151, 3) := by decide +kernel
theorem dX8_findWorst_83 : decode cX8_findWorst 83 = .ok (.aload_n 0, 1) := by decide +kernel
theorem dX8_findWorst_84 : decode cX8_findWorst 84 = .ok (.iconst (-1), 1) := by decide +kernel
theorem dX8_findWorst_85 : decode cX8_findWorst 85 = .ok (.aload_n 0, 1) := by decide +kernel
theorem dX8_findWorst_86 : decode cX8_findWorst 86 = .ok (.getfield 148, 3) := by decide +kernel
theorem dX8_findWorst_89 : decode cX8_findWorst 89 = .ok (.aload_n 0, 1) := by decide +kernel
theorem dX8_findWorst_90 : decode cX8_findWorst 90 = .ok (.getfield 151, 3) := by decide +kernel
theorem dX8_findWorst_93 : decode cX8_findWorst 93 = .ok (.iconst (-1), 1) := by decide +kernel
theorem dX8_findWorst_94 : decode cX8_findWorst 94 = .ok (.invokevirtual 140, 3) := by decide +kernel
theorem dX8_findWorst_97 : decode cX8_findWorst 97 = .ok (.aload_n 0, 1) := by decide +kernel
theorem dX8_findWorst_98 : decode cX8_findWorst 98 = .ok (.getfield 126, 3) := by decide +kernel
theorem dX8_findWorst_101 : decode cX8_findWorst 101 = .ok (.lconst 0, 1) := by decide +kernel
theorem dX8_findWorst_102 : decode cX8_findWorst 102 = .ok (.lcmp, 1) := by decide +kernel
theorem dX8_findWorst_103 : decode cX8_findWorst 103 = .ok (.ifCond .ge 7, 3) := by decide +kernel
theorem dX8_findWorst_106 : decode cX8_findWorst 106 = .ok (.iconst 1, 1) := by decide +kernel
theorem dX8_findWorst_107 : decode cX8_findWorst 107 = .ok (.goto 4, 3) := by decide +kernel
theorem dX8_findWorst_110 : decode cX8_findWorst 110 = .ok (.iconst 0, 1) := by decide +kernel
theorem dX8_findWorst_111 : decode cX8_findWorst 111 = .ok (.istore_n 1, 1) := by decide +kernel
theorem dX8_findWorst_112 : decode cX8_findWorst 112 = .ok (.goto (-65), 3) := by decide +kernel
theorem dX8_findWorst_115 : decode cX8_findWorst 115 = .ok (.return_, 1) := by decide +kernel
set_option maxRecDepth 20000 in
theorem ggX8_findLine_X8_walk : GoodIn wsX8_findLine wsX8_walk := goodIn_r _ [18, 9, 6, 7, 3, 8, 10, 11, 12, 19, 20, 21, 22, 17, 23, 24, 25, 26, 27, 28, 29, 30, 31, 32, 33, 34, 35, 36, 37, 38, 39, 40, 41, 42, 43, 44, 45, 46, 47, 48, 49, 50, 51, 52, 53, 54, 55, 56, 57, 58, 59, 60, 61, 62, 63, 64, 65, 66, 67, 68, 69, 70, 71, 72, 73, 74, 75, 76, 77, 78, 79, 80, 81, 82, 83] rfl (by decide +kernel)
set_option maxRecDepth 20000 in
theorem gX8_findLine_X8_walk : GoodIn wsX8_findLine (wsV RX8 140 RX8 yX8_walk wsX8_walk) := goodIn_app (goodIn_of _ (by decide +kernel)) ggX8_findLine_X8_walk
set_option maxRecDepth 20000 in
theorem ggX8_findLine_X8_can : GoodIn wsX8_findLine wsX8_can := goodIn_r _ [27, 10, 11, 28, 29, 49, 50, 51, 52, 53, 54, 55, 56, 57, 58, 59, 60, 61, 62, 63, 64, 65, 66, 67, 68, 69, 70, 71, 72, 73, 74, 75, 76, 77, 78, 79, 80, 81, 82, 83] rfl (by decide +kernel)
set_option maxRecDepth 20000 in
theorem gX8_findLine_X8_can : GoodIn wsX8_findLine (wsV RX8 105 RX8 yX8_can wsX8_can) := goodIn_app (goodIn_of _ (by decide +kernel)) ggX8_findLine_X8_can
set_option maxRecDepth 20000 in
theorem ggX8_findLine_X8_drives : GoodIn wsX8_findLine wsX8_drives := goodIn_r _ [48, 35, 39, 40, 41, 17, 42, 43, 11, 10, 44, 29, 49, 50, 51, 52, 53, 54, 55, 56, 57, 58, 59, 60, 61, 62, 63, 64, 65, 66, 67, 68, 69, 70, 71, 72, 73, 74, 75, 76, 77, 78, 79, 80, 81, 82, 83] rfl (by decide +kernel)
set_option maxRecDepth 20000 in
theorem gX8_findLine_X8_drives : GoodIn wsX8_findLine (wsV RX8 117 RX8 yX8_drives wsX8_drives) := goodIn_app (goodIn_of _ (by decide +kernel)) ggX8_findLine_X8_drives
set_option maxRecDepth 20000 in
theorem ggX8_findLine_X8_holds : GoodIn wsX8_findLine wsX8_holds := goodIn_r _ [33, 34, 11, 29, 35, 36, 37, 38, 39, 40, 41, 17, 42, 43, 10, 44, 49, 50, 51, 52, 53, 54, 55, 56, 57, 58, 59, 60, 61, 62, 63, 64, 65, 66, 67, 68, 69, 70, 71, 72, 73, 74, 75, 76, 77, 78, 79, 80, 81, 82, 83] rfl (by decide +kernel)
set_option maxRecDepth 20000 in
theorem gX8_findLine_X8_holds : GoodIn wsX8_findLine (wsV RX8 113 RX8 yX8_holds wsX8_holds) := goodIn_app (goodIn_of _ (by decide +kernel)) ggX8_findLine_X8_holds
set_option maxRecDepth 20000 in
theorem ggX8_findLine_X8_better : GoodIn wsX8_findLine wsX8_better := goodIn_r _ [23] rfl (by decide +kernel)
set_option maxRecDepth 20000 in
theorem gX8_findLine_X8_better : GoodIn wsX8_findLine (va_wsS RX8 133 yX8_better wsX8_better) := goodIn_app (goodIn_of _ (by decide +kernel)) ggX8_findLine_X8_better
theorem dX8_findLine_0 : decode cX8_findLine 0 = .ok (.aload_n 0, 1) := by decide +kernel
theorem dX8_findLine_1 : decode cX8_findLine 1 = .ok (.iconst 0, 1) := by decide +kernel
theorem dX8_findLine_2 : decode cX8_findLine 2 = .ok (.putfield 154, 3) := by decide +kernel
theorem dX8_findLine_5 : decode cX8_findLine 5 = .ok (.aload_n 0, 1) := by decide +kernel
theorem dX8_findLine_6 : decode cX8_findLine 6 = .ok (.iconst 0, 1) := by decide +kernel
theorem dX8_findLine_7 : decode cX8_findLine 7 = .ok (.putfield 157, 3) := by decide +kernel
theorem dX8_findLine_10 : decode cX8_findLine 10 = .ok (.iconst 0, 1) := by decide +kernel
theorem dX8_findLine_11 : decode cX8_findLine 11 = .ok (.istore_n 1, 1) := by decide +kernel
theorem dX8_findLine_12 : decode cX8_findLine 12 = .ok (.iload_n 1, 1) := by decide +kernel
theorem dX8_findLine_13 : decode cX8_findLine 13 = .ok (.aload_n 0, 1) := by decide +kernel
theorem dX8_findLine_14 : decode cX8_findLine 14 = .ok (.getfield 7, 3) := by decide +kernel
theorem dX8_findLine_17 : decode cX8_findLine 17 = .ok (.if_icmp .ge 83, 3) := by decide +kernel
theorem dX8_findLine_20 : decode cX8_findLine 20 = .ok (.aload_n 0, 1) := by decide +kernel
theorem dX8_findLine_21 : decode cX8_findLine 21 = .ok (.getfield 157, 3) := by decide +kernel
theorem dX8_findLine_24 : decode cX8_findLine 24 = .ok (.ifCond .ne 76, 3) := by decide +kernel
theorem dX8_findLine_27 : decode cX8_findLine 27 = .ok (.iload_n 1, 1) := by decide +kernel
theorem dX8_findLine_28 : decode cX8_findLine 28 = .ok (.iconst 1, 1) := by decide +kernel
theorem dX8_findLine_29 : decode cX8_findLine 29 = .ok (.iadd, 1) := by decide +kernel
theorem dX8_findLine_30 : decode cX8_findLine 30 = .ok (.istore_n 2, 1) := by decide +kernel
theorem dX8_findLine_31 : decode cX8_findLine 31 = .ok (.iload_n 2, 1) := by decide +kernel
theorem dX8_findLine_32 : decode cX8_findLine 32 = .ok (.aload_n 0, 1) := by decide +kernel
theorem dX8_findLine_33 : decode cX8_findLine 33 = .ok (.getfield 7, 3) := by decide +kernel
theorem dX8_findLine_36 : decode cX8_findLine 36 = .ok (.if_icmp .gt 58, 3) := by decide +kernel
theorem dX8_findLine_39 : decode cX8_findLine 39 = .ok (.aload_n 0, 1) := by decide +kernel
theorem dX8_findLine_40 : decode cX8_findLine 40 = .ok (.getfield 157, 3) := by decide +kernel
theorem dX8_findLine_43 : decode cX8_findLine 43 = .ok (.ifCond .ne 51, 3) := by decide +kernel
theorem dX8_findLine_46 : decode cX8_findLine 46 = .ok (.aload_n 0, 1) := by decide +kernel
theorem dX8_findLine_47 : decode cX8_findLine 47 = .ok (.iload_n 1, 1) := by decide +kernel
theorem dX8_findLine_48 : decode cX8_findLine 48 = .ok (.aload_n 0, 1) := by decide +kernel
theorem dX8_findLine_49 : decode cX8_findLine 49 = .ok (.getfield 148, 3) := by decide +kernel
theorem dX8_findLine_52 : decode cX8_findLine 52 = .ok (.aload_n 0, 1) := by decide +kernel
theorem dX8_findLine_53 : decode cX8_findLine 53 = .ok (.getfield 151, 3) := by decide +kernel
theorem dX8_findLine_56 : decode cX8_findLine 56 = .ok (.iload_n 2, 1) := by decide +kernel
theorem dX8_findLine_57 : decode cX8_findLine 57 = .ok (.invokevirtual 140, 3) := by decide +kernel
theorem dX8_findLine_60 : decode cX8_findLine 60 = .ok (.aload_n 0, 1) := by decide +kernel
theorem dX8_findLine_61 : decode cX8_findLine 61 = .ok (.getfield 126, 3) := by decide +kernel
theorem dX8_findLine_64 : decode cX8_findLine 64 = .ok (.lconst 0, 1) := by decide +kernel
theorem dX8_findLine_65 : decode cX8_findLine 65 = .ok (.lcmp, 1) := by decide +kernel
theorem dX8_findLine_66 : decode cX8_findLine 66 = .ok (.ifCond .ne 22, 3) := by decide +kernel
theorem dX8_findLine_69 : decode cX8_findLine 69 = .ok (.aload_n 0, 1) := by decide +kernel
theorem dX8_findLine_70 : decode cX8_findLine 70 = .ok (.getfield 130, 3) := by decide +kernel
theorem dX8_findLine_73 : decode cX8_findLine 73 = .ok (.lconst 0, 1) := by decide +kernel
theorem dX8_findLine_74 : decode cX8_findLine 74 = .ok (.lcmp, 1) := by decide +kernel
theorem dX8_findLine_75 : decode cX8_findLine 75 = .ok (.ifCond .le 13, 3) := by decide +kernel
theorem dX8_findLine_78 : decode cX8_findLine 78 = .ok (.aload_n 0, 1) := by decide +kernel
theorem dX8_findLine_79 : decode cX8_findLine 79 = .ok (.iload_n 1, 1) := by decide +kernel
theorem dX8_findLine_80 : decode cX8_findLine 80 = .ok (.putfield 154, 3) := by decide +kernel
theorem dX8_findLine_83 : decode cX8_findLine 83 = .ok (.aload_n 0, 1) := by decide +kernel
theorem dX8_findLine_84 : decode cX8_findLine 84 = .ok (.iload_n 2, 1) := by decide +kernel
theorem dX8_findLine_85 : decode cX8_findLine 85 = .ok (.putfield 157, 3) := by decide +kernel
theorem dX8_findLine_88 : decode cX8_findLine 88 = .ok (.iinc 2 1, 3) := by decide +kernel
theorem dX8_findLine_91 : decode cX8_findLine 91 = .ok (.goto (-60), 3) := by decide +kernel
theorem dX8_findLine_94 : decode cX8_findLine 94 = .ok (.iinc 1 1, 3) := by decide +kernel
theorem dX8_findLine_97 : decode cX8_findLine 97 = .ok (.goto (-85), 3) := by decide +kernel
theorem dX8_findLine_100 : decode cX8_findLine 100 = .ok (.iconst 0, 1) := by decide +kernel
theorem dX8_findLine_101 : decode cX8_findLine 101 = .ok (.istore_n 1, 1) := by decide +kernel
theorem dX8_findLine_102 : decode cX8_findLine 102 = .ok (.iload_n 1, 1) := by decide +kernel
theorem dX8_findLine_103 : decode cX8_findLine 103 = .ok (.bipush 25, 2) := by decide +kernel
theorem dX8_findLine_105 : decode cX8_findLine 105 = .ok (.aload_n 0, 1) := by decide +kernel
theorem dX8_findLine_106 : decode cX8_findLine 106 = .ok (.getfield 7, 3) := by decide +kernel
theorem dX8_findLine_109 : decode cX8_findLine 109 = .ok (.imul, 1) := by decide +kernel
theorem dX8_findLine_110 : decode cX8_findLine 110 = .ok (.bipush 25, 2) := by decide +kernel
theorem dX8_findLine_112 : decode cX8_findLine 112 = .ok (.iadd, 1) := by decide +kernel
theorem dX8_findLine_113 : decode cX8_findLine 113 = .ok (.if_icmp .ge 18, 3) := by decide +kernel
theorem dX8_findLine_116 : decode cX8_findLine 116 = .ok (.aload_n 0, 1) := by decide +kernel
theorem dX8_findLine_117 : decode cX8_findLine 117 = .ok (.getfield 57, 3) := by decide +kernel
theorem dX8_findLine_120 : decode cX8_findLine 120 = .ok (.iload_n 1, 1) := by decide +kernel
theorem dX8_findLine_121 : decode cX8_findLine 121 = .ok (.ldc2_w 124, 3) := by decide +kernel
theorem dX8_findLine_124 : decode cX8_findLine 124 = .ok (.lastore, 1) := by decide +kernel
theorem dX8_findLine_125 : decode cX8_findLine 125 = .ok (.iinc 1 1, 3) := by decide +kernel
theorem dX8_findLine_128 : decode cX8_findLine 128 = .ok (.goto (-26), 3) := by decide +kernel
theorem dX8_findLine_131 : decode cX8_findLine 131 = .ok (.aload_n 0, 1) := by decide +kernel
theorem dX8_findLine_132 : decode cX8_findLine 132 = .ok (.getfield 57, 3) := by decide +kernel
theorem dX8_findLine_135 : decode cX8_findLine 135 = .ok (.bipush 25, 2) := by decide +kernel
theorem dX8_findLine_137 : decode cX8_findLine 137 = .ok (.aload_n 0, 1) := by decide +kernel
theorem dX8_findLine_138 : decode cX8_findLine 138 = .ok (.getfield 157, 3) := by decide +kernel
theorem dX8_findLine_141 : decode cX8_findLine 141 = .ok (.imul, 1) := by decide +kernel
theorem dX8_findLine_142 : decode cX8_findLine 142 = .ok (.aload_n 0, 1) := by decide +kernel
theorem dX8_findLine_143 : decode cX8_findLine 143 = .ok (.getfield 30, 3) := by decide +kernel
theorem dX8_findLine_146 : decode cX8_findLine 146 = .ok (.aload_n 0, 1) := by decide +kernel
theorem dX8_findLine_147 : decode cX8_findLine 147 = .ok (.getfield 96, 3) := by decide +kernel
theorem dX8_findLine_150 : decode cX8_findLine 150 = .ok (.aload_n 0, 1) := by decide +kernel
theorem dX8_findLine_151 : decode cX8_findLine 151 = .ok (.getfield 157, 3) := by decide +kernel
theorem dX8_findLine_154 : decode cX8_findLine 154 = .ok (.iadd, 1) := by decide +kernel
theorem dX8_findLine_155 : decode cX8_findLine 155 = .ok (.iconst 1, 1) := by decide +kernel
theorem dX8_findLine_156 : decode cX8_findLine 156 = .ok (.isub, 1) := by decide +kernel
theorem dX8_findLine_157 : decode cX8_findLine 157 = .ok (.iaload, 1) := by decide +kernel
theorem dX8_findLine_158 : decode cX8_findLine 158 = .ok (.iadd, 1) := by decide +kernel
theorem dX8_findLine_159 : decode cX8_findLine 159 = .ok (.lconst 0, 1) := by decide +kernel
theorem dX8_findLine_160 : decode cX8_findLine 160 = .ok (.lastore, 1) := by decide +kernel
theorem dX8_findLine_161 : decode cX8_findLine 161 = .ok (.aload_n 0, 1) := by decide +kernel
theorem dX8_findLine_162 : decode cX8_findLine 162 = .ok (.getfield 61, 3) := by decide +kernel
theorem dX8_findLine_165 : decode cX8_findLine 165 = .ok (.bipush 25, 2) := by decide +kernel
theorem dX8_findLine_167 : decode cX8_findLine 167 = .ok (.aload_n 0, 1) := by decide +kernel
theorem dX8_findLine_168 : decode cX8_findLine 168 = .ok (.getfield 157, 3) := by decide +kernel
theorem dX8_findLine_171 : decode cX8_findLine 171 = .ok (.imul, 1) := by decide +kernel
theorem dX8_findLine_172 : decode cX8_findLine 172 = .ok (.aload_n 0, 1) := by decide +kernel
theorem dX8_findLine_173 : decode cX8_findLine 173 = .ok (.getfield 30, 3) := by decide +kernel
theorem dX8_findLine_176 : decode cX8_findLine 176 = .ok (.aload_n 0, 1) := by decide +kernel
theorem dX8_findLine_177 : decode cX8_findLine 177 = .ok (.getfield 96, 3) := by decide +kernel
theorem dX8_findLine_180 : decode cX8_findLine 180 = .ok (.aload_n 0, 1) := by decide +kernel
theorem dX8_findLine_181 : decode cX8_findLine 181 = .ok (.getfield 157, 3) := by decide +kernel
theorem dX8_findLine_184 : decode cX8_findLine 184 = .ok (.iadd, 1) := by decide +kernel
theorem dX8_findLine_185 : decode cX8_findLine 185 = .ok (.iconst 1, 1) := by decide +kernel
theorem dX8_findLine_186 : decode cX8_findLine 186 = .ok (.isub, 1) := by decide +kernel
theorem dX8_findLine_187 : decode cX8_findLine 187 = .ok (.iaload, 1) := by decide +kernel
theorem dX8_findLine_188 : decode cX8_findLine 188 = .ok (.iadd, 1) := by decide +kernel
theorem dX8_findLine_189 : decode cX8_findLine 189 = .ok (.lconst 0, 1) := by decide +kernel
theorem dX8_findLine_190 : decode cX8_findLine 190 = .ok (.lastore, 1) := by decide +kernel
theorem dX8_findLine_191 : decode cX8_findLine 191 = .ok (.aload_n 0, 1) := by decide +kernel
theorem dX8_findLine_192 : decode cX8_findLine 192 = .ok (.getfield 157, 3) := by decide +kernel
theorem dX8_findLine_195 : decode cX8_findLine 195 = .ok (.iconst 1, 1) := by decide +kernel
theorem dX8_findLine_196 : decode cX8_findLine 196 = .ok (.isub, 1) := by decide +kernel
theorem dX8_findLine_197 : decode cX8_findLine 197 = .ok (.istore_n 1, 1) := by decide +kernel
theorem dX8_findLine_198 : decode cX8_findLine 198 = .ok (.iload_n 1, 1) := by decide +kernel
theorem dX8_findLine_199 : decode cX8_findLine 199 = .ok (.aload_n 0, 1) := by decide +kernel
theorem dX8_findLine_200 : decode cX8_findLine 200 = .ok (.getfield 154, 3) := by decide +kernel
theorem dX8_findLine_203 : decode cX8_findLine 203 = .ok (.if_icmp .lt 209, 3) := by decide +kernel
theorem dX8_findLine_206 : decode cX8_findLine 206 = .ok (.iconst 0, 1) := by decide +kernel
theorem dX8_findLine_207 : decode cX8_findLine 207 = .ok (.istore_n 2, 1) := by decide +kernel
theorem dX8_findLine_208 : decode cX8_findLine 208 = .ok (.iload_n 2, 1) := by decide +kernel
theorem dX8_findLine_209 : decode cX8_findLine 209 = .ok (.bipush 25, 2) := by decide +kernel
theorem dX8_findLine_211 : decode cX8_findLine 211 = .ok (.if_icmp .ge 195, 3) := by decide +kernel
theorem dX8_findLine_214 : decode cX8_findLine 214 = .ok (.iload_n 2, 1) := by decide +kernel
theorem dX8_findLine_215 : decode cX8_findLine 215 = .ok (.iconst 4, 1) := by decide +kernel
theorem dX8_findLine_216 : decode cX8_findLine 216 = .ok (.if_icmp .le 9, 3) := by decide +kernel
theorem dX8_findLine_219 : decode cX8_findLine 219 = .ok (.iload_n 2, 1) := by decide +kernel
theorem dX8_findLine_220 : decode cX8_findLine 220 = .ok (.iconst 4, 1) := by decide +kernel
theorem dX8_findLine_221 : decode cX8_findLine 221 = .ok (.isub, 1) := by decide +kernel
theorem dX8_findLine_222 : decode cX8_findLine 222 = .ok (.goto 4, 3) := by decide +kernel
theorem dX8_findLine_225 : decode cX8_findLine 225 = .ok (.iconst 0, 1) := by decide +kernel
theorem dX8_findLine_226 : decode cX8_findLine 226 = .ok (.istore_n 3, 1) := by decide +kernel
theorem dX8_findLine_227 : decode cX8_findLine 227 = .ok (.iload_n 3, 1) := by decide +kernel
theorem dX8_findLine_228 : decode cX8_findLine 228 = .ok (.iload_n 2, 1) := by decide +kernel
theorem dX8_findLine_229 : decode cX8_findLine 229 = .ok (.iconst 4, 1) := by decide +kernel
theorem dX8_findLine_230 : decode cX8_findLine 230 = .ok (.iadd, 1) := by decide +kernel
theorem dX8_findLine_231 : decode cX8_findLine 231 = .ok (.if_icmp .gt 169, 3) := by decide +kernel
theorem dX8_findLine_234 : decode cX8_findLine 234 = .ok (.iload_n 3, 1) := by decide +kernel
theorem dX8_findLine_235 : decode cX8_findLine 235 = .ok (.bipush 25, 2) := by decide +kernel
theorem dX8_findLine_237 : decode cX8_findLine 237 = .ok (.if_icmp .ge 163, 3) := by decide +kernel
theorem dX8_findLine_240 : decode cX8_findLine 240 = .ok (.bipush 25, 2) := by decide +kernel
theorem dX8_findLine_242 : decode cX8_findLine 242 = .ok (.iload_n 1, 1) := by decide +kernel
theorem dX8_findLine_243 : decode cX8_findLine 243 = .ok (.imul, 1) := by decide +kernel
theorem dX8_findLine_244 : decode cX8_findLine 244 = .ok (.bipush 25, 2) := by decide +kernel
theorem dX8_findLine_246 : decode cX8_findLine 246 = .ok (.iadd, 1) := by decide +kernel
theorem dX8_findLine_247 : decode cX8_findLine 247 = .ok (.iload_n 3, 1) := by decide +kernel
theorem dX8_findLine_248 : decode cX8_findLine 248 = .ok (.iadd, 1) := by decide +kernel
theorem dX8_findLine_249 : decode cX8_findLine 249 = .ok (.istore 4, 2) := by decide +kernel
theorem dX8_findLine_251 : decode cX8_findLine 251 = .ok (.aload_n 0, 1) := by decide +kernel
theorem dX8_findLine_252 : decode cX8_findLine 252 = .ok (.getfield 57, 3) := by decide +kernel
theorem dX8_findLine_255 : decode cX8_findLine 255 = .ok (.iload 4, 2) := by decide +kernel
theorem dX8_findLine_257 : decode cX8_findLine 257 = .ok (.laload, 1) := by decide +kernel
theorem dX8_findLine_258 : decode cX8_findLine 258 = .ok (.ldc2_w 124, 3) := by decide +kernel
theorem dX8_findLine_261 : decode cX8_findLine 261 = .ok (.lcmp, 1) := by decide +kernel
theorem dX8_findLine_262 : decode cX8_findLine 262 = .ok (.ifCond .eq 132, 3) := by decide +kernel
theorem dX8_findLine_265 : decode cX8_findLine 265 = .ok (.aload_n 0, 1) := by decide +kernel
theorem dX8_findLine_266 : decode cX8_findLine 266 = .ok (.iload_n 1, 1) := by decide +kernel
theorem dX8_findLine_267 : decode cX8_findLine 267 = .ok (.iload_n 2, 1) := by decide +kernel
theorem dX8_findLine_268 : decode cX8_findLine 268 = .ok (.iload_n 3, 1) := by decide +kernel
theorem dX8_findLine_269 : decode cX8_findLine 269 = .ok (.invokevirtual 105, 3) := by decide +kernel
theorem dX8_findLine_272 : decode cX8_findLine 272 = .ok (.ifCond .ne 6, 3) := by decide +kernel
theorem dX8_findLine_275 : decode cX8_findLine 275 = .ok (.goto 119, 3) := by decide +kernel
theorem dX8_findLine_278 : decode cX8_findLine 278 = .ok (.aload_n 0, 1) := by decide +kernel
theorem dX8_findLine_279 : decode cX8_findLine 279 = .ok (.iload_n 1, 1) := by decide +kernel
theorem dX8_findLine_280 : decode cX8_findLine 280 = .ok (.iload_n 2, 1) := by decide +kernel
theorem dX8_findLine_281 : decode cX8_findLine 281 = .ok (.iload_n 3, 1) := by decide +kernel
theorem dX8_findLine_282 : decode cX8_findLine 282 = .ok (.invokevirtual 117, 3) := by decide +kernel
theorem dX8_findLine_285 : decode cX8_findLine 285 = .ok (.lstore 5, 2) := by decide +kernel
theorem dX8_findLine_287 : decode cX8_findLine 287 = .ok (.aload_n 0, 1) := by decide +kernel
theorem dX8_findLine_288 : decode cX8_findLine 288 = .ok (.getfield 57, 3) := by decide +kernel
theorem dX8_findLine_291 : decode cX8_findLine 291 = .ok (.iload 4, 2) := by decide +kernel
theorem dX8_findLine_293 : decode cX8_findLine 293 = .ok (.laload, 1) := by decide +kernel
theorem dX8_findLine_294 : decode cX8_findLine 294 = .ok (.aload_n 0, 1) := by decide +kernel
theorem dX8_findLine_295 : decode cX8_findLine 295 = .ok (.getfield 151, 3) := by decide +kernel
theorem dX8_findLine_298 : decode cX8_findLine 298 = .ok (.aload_n 0, 1) := by decide +kernel
theorem dX8_findLine_299 : decode cX8_findLine 299 = .ok (.iload_n 1, 1) := by decide +kernel
theorem dX8_findLine_300 : decode cX8_findLine 300 = .ok (.iload_n 2, 1) := by decide +kernel
theorem dX8_findLine_301 : decode cX8_findLine 301 = .ok (.iload_n 3, 1) := by decide +kernel
theorem dX8_findLine_302 : decode cX8_findLine 302 = .ok (.invokevirtual 113, 3) := by decide +kernel
theorem dX8_findLine_305 : decode cX8_findLine 305 = .ok (.lmul, 1) := by decide +kernel
theorem dX8_findLine_306 : decode cX8_findLine 306 = .ok (.ladd, 1) := by decide +kernel
theorem dX8_findLine_307 : decode cX8_findLine 307 = .ok (.aload_n 0, 1) := by decide +kernel
theorem dX8_findLine_308 : decode cX8_findLine 308 = .ok (.getfield 148, 3) := by decide +kernel
theorem dX8_findLine_311 : decode cX8_findLine 311 = .ok (.lload 5, 2) := by decide +kernel
theorem dX8_findLine_313 : decode cX8_findLine 313 = .ok (.lmul, 1) := by decide +kernel
theorem dX8_findLine_314 : decode cX8_findLine 314 = .ok (.lsub, 1) := by decide +kernel
theorem dX8_findLine_315 : decode cX8_findLine 315 = .ok (.lstore 7, 2) := by decide +kernel
theorem dX8_findLine_317 : decode cX8_findLine 317 = .ok (.lload 7, 2) := by decide +kernel
theorem dX8_findLine_319 : decode cX8_findLine 319 = .ok (.aload_n 0, 1) := by decide +kernel
theorem dX8_findLine_320 : decode cX8_findLine 320 = .ok (.getfield 61, 3) := by decide +kernel
theorem dX8_findLine_323 : decode cX8_findLine 323 = .ok (.iload 4, 2) := by decide +kernel
theorem dX8_findLine_325 : decode cX8_findLine 325 = .ok (.laload, 1) := by decide +kernel
theorem dX8_findLine_326 : decode cX8_findLine 326 = .ok (.lload 5, 2) := by decide +kernel
theorem dX8_findLine_328 : decode cX8_findLine 328 = .ok (.ladd, 1) := by decide +kernel
theorem dX8_findLine_329 : decode cX8_findLine 329 = .ok (.aload_n 0, 1) := by decide +kernel
theorem dX8_findLine_330 : decode cX8_findLine 330 = .ok (.getfield 57, 3) := by decide +kernel
theorem dX8_findLine_333 : decode cX8_findLine 333 = .ok (.bipush 25, 2) := by decide +kernel
theorem dX8_findLine_335 : decode cX8_findLine 335 = .ok (.iload_n 1, 1) := by decide +kernel
theorem dX8_findLine_336 : decode cX8_findLine 336 = .ok (.imul, 1) := by decide +kernel
theorem dX8_findLine_337 : decode cX8_findLine 337 = .ok (.iload_n 2, 1) := by decide +kernel
theorem dX8_findLine_338 : decode cX8_findLine 338 = .ok (.iadd, 1) := by decide +kernel
theorem dX8_findLine_339 : decode cX8_findLine 339 = .ok (.laload, 1) := by decide +kernel
theorem dX8_findLine_340 : decode cX8_findLine 340 = .ok (.aload_n 0, 1) := by decide +kernel
theorem dX8_findLine_341 : decode cX8_findLine 341 = .ok (.getfield 61, 3) := by decide +kernel
theorem dX8_findLine_344 : decode cX8_findLine 344 = .ok (.bipush 25, 2) := by decide +kernel
theorem dX8_findLine_346 : decode cX8_findLine 346 = .ok (.iload_n 1, 1) := by decide +kernel
theorem dX8_findLine_347 : decode cX8_findLine 347 = .ok (.imul, 1) := by decide +kernel
theorem dX8_findLine_348 : decode cX8_findLine 348 = .ok (.iload_n 2, 1) := by decide +kernel
theorem dX8_findLine_349 : decode cX8_findLine 349 = .ok (.iadd, 1) := by decide +kernel
theorem dX8_findLine_350 : decode cX8_findLine 350 = .ok (.laload, 1) := by decide +kernel
theorem dX8_findLine_351 : decode cX8_findLine 351 = .ok (.invokestatic 133, 3) := by decide +kernel
theorem dX8_findLine_354 : decode cX8_findLine 354 = .ok (.ifCond .ne 6, 3) := by decide +kernel
theorem dX8_findLine_357 : decode cX8_findLine 357 = .ok (.goto 37, 3) := by decide +kernel
theorem dX8_findLine_360 : decode cX8_findLine 360 = .ok (.aload_n 0, 1) := by decide +kernel
theorem dX8_findLine_361 : decode cX8_findLine 361 = .ok (.getfield 57, 3) := by decide +kernel
theorem dX8_findLine_364 : decode cX8_findLine 364 = .ok (.bipush 25, 2) := by decide +kernel
theorem dX8_findLine_366 : decode cX8_findLine 366 = .ok (.iload_n 1, 1) := by decide +kernel
theorem dX8_findLine_367 : decode cX8_findLine 367 = .ok (.imul, 1) := by decide +kernel
theorem dX8_findLine_368 : decode cX8_findLine 368 = .ok (.iload_n 2, 1) := by decide +kernel
theorem dX8_findLine_369 : decode cX8_findLine 369 = .ok (.iadd, 1) := by decide +kernel
theorem dX8_findLine_370 : decode cX8_findLine 370 = .ok (.lload 7, 2) := by decide +kernel
theorem dX8_findLine_372 : decode cX8_findLine 372 = .ok (.lastore, 1) := by decide +kernel
theorem dX8_findLine_373 : decode cX8_findLine 373 = .ok (.aload_n 0, 1) := by decide +kernel
theorem dX8_findLine_374 : decode cX8_findLine 374 = .ok (.getfield 61, 3) := by decide +kernel
theorem dX8_findLine_377 : decode cX8_findLine 377 = .ok (.bipush 25, 2) := by decide +kernel
theorem dX8_findLine_379 : decode cX8_findLine 379 = .ok (.iload_n 1, 1) := by decide +kernel
theorem dX8_findLine_380 : decode cX8_findLine 380 = .ok (.imul, 1) := by decide +kernel
theorem dX8_findLine_381 : decode cX8_findLine 381 = .ok (.iload_n 2, 1) := by decide +kernel
theorem dX8_findLine_382 : decode cX8_findLine 382 = .ok (.iadd, 1) := by decide +kernel
theorem dX8_findLine_383 : decode cX8_findLine 383 = .ok (.aload_n 0, 1) := by decide +kernel
theorem dX8_findLine_384 : decode cX8_findLine 384 = .ok (.getfield 61, 3) := by decide +kernel
theorem dX8_findLine_387 : decode cX8_findLine 387 = .ok (.iload 4, 2) := by decide +kernel
theorem dX8_findLine_389 : decode cX8_findLine 389 = .ok (.laload, 1) := by decide +kernel
theorem dX8_findLine_390 : decode cX8_findLine 390 = .ok (.lload 5, 2) := by decide +kernel
theorem dX8_findLine_392 : decode cX8_findLine 392 = .ok (.ladd, 1) := by decide +kernel
theorem dX8_findLine_393 : decode cX8_findLine 393 = .ok (.lastore, 1) := by decide +kernel
theorem dX8_findLine_394 : decode cX8_findLine 394 = .ok (.iinc 3 1, 3) := by decide +kernel
theorem dX8_findLine_397 : decode cX8_findLine 397 = .ok (.goto (-170), 3) := by decide +kernel
theorem dX8_findLine_400 : decode cX8_findLine 400 = .ok (.iinc 2 1, 3) := by decide +kernel
theorem dX8_findLine_403 : decode cX8_findLine 403 = .ok (.goto (-195), 3) := by decide +kernel
theorem dX8_findLine_406 : decode cX8_findLine 406 = .ok (.iinc 1 (-1), 3) := by decide +kernel
theorem dX8_findLine_409 : decode cX8_findLine 409 = .ok (.goto (-211), 3) := by decide +kernel
theorem dX8_findLine_412 : decode cX8_findLine 412 = .ok (.aload_n 0, 1) := by decide +kernel
theorem dX8_findLine_413 : decode cX8_findLine 413 = .ok (.getfield 67, 3) := by decide +kernel
theorem dX8_findLine_416 : decode cX8_findLine 416 = .ok (.iconst 0, 1) := by decide +kernel
theorem dX8_findLine_417 : decode cX8_findLine 417 = .ok (.aload_n 0, 1) := by decide +kernel
theorem dX8_findLine_418 : decode cX8_findLine 418 = .ok (.getfield 30, 3) := by decide +kernel
theorem dX8_findLine_421 : decode cX8_findLine 421 = .ok (.aload_n 0, 1) := by decide +kernel
theorem dX8_findLine_422 : decode cX8_findLine 422 = .ok (.getfield 96, 3) := by decide +kernel
theorem dX8_findLine_425 : decode cX8_findLine 425 = .ok (.aload_n 0, 1) := by decide +kernel
theorem dX8_findLine_426 : decode cX8_findLine 426 = .ok (.getfield 154, 3) := by decide +kernel
theorem dX8_findLine_429 : decode cX8_findLine 429 = .ok (.iadd, 1) := by decide +kernel
theorem dX8_findLine_430 : decode cX8_findLine 430 = .ok (.iaload, 1) := by decide +kernel
theorem dX8_findLine_431 : decode cX8_findLine 431 = .ok (.iastore, 1) := by decide +kernel
theorem dX8_findLine_432 : decode cX8_findLine 432 = .ok (.lconst 0, 1) := by decide +kernel
theorem dX8_findLine_433 : decode cX8_findLine 433 = .ok (.lstore_n 1, 1) := by decide +kernel
theorem dX8_findLine_434 : decode cX8_findLine 434 = .ok (.lconst 0, 1) := by decide +kernel
theorem dX8_findLine_435 : decode cX8_findLine 435 = .ok (.lstore_n 3, 1) := by decide +kernel
theorem dX8_findLine_436 : decode cX8_findLine 436 = .ok (.aload_n 0, 1) := by decide +kernel
theorem dX8_findLine_437 : decode cX8_findLine 437 = .ok (.getfield 154, 3) := by decide +kernel
theorem dX8_findLine_440 : decode cX8_findLine 440 = .ok (.istore 5, 2) := by decide +kernel
theorem dX8_findLine_442 : decode cX8_findLine 442 = .ok (.iload 5, 2) := by decide +kernel
theorem dX8_findLine_444 : decode cX8_findLine 444 = .ok (.aload_n 0, 1) := by decide +kernel
theorem dX8_findLine_445 : decode cX8_findLine 445 = .ok (.getfield 157, 3) := by decide +kernel
theorem dX8_findLine_448 : decode cX8_findLine 448 = .ok (.if_icmp .ge 191, 3) := by decide +kernel
theorem dX8_findLine_451 : decode cX8_findLine 451 = .ok (.aload_n 0, 1) := by decide +kernel
theorem dX8_findLine_452 : decode cX8_findLine 452 = .ok (.getfield 67, 3) := by decide +kernel
theorem dX8_findLine_455 : decode cX8_findLine 455 = .ok (.iload 5, 2) := by decide +kernel
theorem dX8_findLine_457 : decode cX8_findLine 457 = .ok (.aload_n 0, 1) := by decide +kernel
theorem dX8_findLine_458 : decode cX8_findLine 458 = .ok (.getfield 154, 3) := by decide +kernel
theorem dX8_findLine_461 : decode cX8_findLine 461 = .ok (.isub, 1) := by decide +kernel
theorem dX8_findLine_462 : decode cX8_findLine 462 = .ok (.iaload, 1) := by decide +kernel
theorem dX8_findLine_463 : decode cX8_findLine 463 = .ok (.istore 6, 2) := by decide +kernel
theorem dX8_findLine_465 : decode cX8_findLine 465 = .ok (.iconst 0, 1) := by decide +kernel
theorem dX8_findLine_466 : decode cX8_findLine 466 = .ok (.istore 7, 2) := by decide +kernel
theorem dX8_findLine_468 : decode cX8_findLine 468 = .ok (.iconst 0, 1) := by decide +kernel
theorem dX8_findLine_469 : decode cX8_findLine 469 = .ok (.istore 8, 2) := by decide +kernel
theorem dX8_findLine_471 : decode cX8_findLine 471 = .ok (.iload 8, 2) := by decide +kernel
theorem dX8_findLine_473 : decode cX8_findLine 473 = .ok (.bipush 25, 2) := by decide +kernel
theorem dX8_findLine_475 : decode cX8_findLine 475 = .ok (.if_icmp .ge 158, 3) := by decide +kernel
theorem dX8_findLine_478 : decode cX8_findLine 478 = .ok (.iload 7, 2) := by decide +kernel
theorem dX8_findLine_480 : decode cX8_findLine 480 = .ok (.ifCond .ne 153, 3) := by decide +kernel
theorem dX8_findLine_483 : decode cX8_findLine 483 = .ok (.bipush 25, 2) := by decide +kernel
theorem dX8_findLine_485 : decode cX8_findLine 485 = .ok (.iload 5, 2) := by decide +kernel
theorem dX8_findLine_487 : decode cX8_findLine 487 = .ok (.imul, 1) := by decide +kernel
