theorem dX8_init_0 : decode cX8_init 0 = .ok (.aload_n 0, 1) := by decide +kernel
theorem dX8_init_1 : decode cX8_init 1 = .ok (.invokespecial 1, 3) := by decide +kernel
theorem dX8_init_4 : decode cX8_init 4 = .ok (.aload_n 0, 1) := by decide +kernel
theorem dX8_init_5 : decode cX8_init 5 = .ok (.iconst 2, 1) := by decide +kernel
theorem dX8_init_6 : decode cX8_init 6 = .ok (.putfield 7, 3) := by decide +kernel
theorem dX8_init_9 : decode cX8_init 9 = .ok (.aload_n 0, 1) := by decide +kernel
theorem dX8_init_10 : decode cX8_init 10 = .ok (.bipush 6, 2) := by decide +kernel
theorem dX8_init_12 : decode cX8_init 12 = .ok (.newarray .int, 2) := by decide +kernel
theorem dX8_init_14 : decode cX8_init 14 = .ok (.putfield 13, 3) := by decide +kernel
theorem dX8_init_17 : decode cX8_init 17 = .ok (.aload_n 0, 1) := by decide +kernel
theorem dX8_init_18 : decode cX8_init 18 = .ok (.bipush 6, 2) := by decide +kernel
theorem dX8_init_20 : decode cX8_init 20 = .ok (.newarray .int, 2) := by decide +kernel
theorem dX8_init_22 : decode cX8_init 22 = .ok (.putfield 17, 3) := by decide +kernel
theorem dX8_init_25 : decode cX8_init 25 = .ok (.aload_n 0, 1) := by decide +kernel
theorem dX8_init_26 : decode cX8_init 26 = .ok (.bipush 6, 2) := by decide +kernel
theorem dX8_init_28 : decode cX8_init 28 = .ok (.newarray .int, 2) := by decide +kernel
theorem dX8_init_30 : decode cX8_init 30 = .ok (.putfield 20, 3) := by decide +kernel
theorem dX8_init_33 : decode cX8_init 33 = .ok (.aload_n 0, 1) := by decide +kernel
theorem dX8_init_34 : decode cX8_init 34 = .ok (.bipush 6, 2) := by decide +kernel
theorem dX8_init_36 : decode cX8_init 36 = .ok (.newarray .boolean, 2) := by decide +kernel
theorem dX8_init_38 : decode cX8_init 38 = .ok (.putfield 23, 3) := by decide +kernel
theorem dX8_init_41 : decode cX8_init 41 = .ok (.aload_n 0, 1) := by decide +kernel
theorem dX8_init_42 : decode cX8_init 42 = .ok (.sipush 288, 3) := by decide +kernel
theorem dX8_init_45 : decode cX8_init 45 = .ok (.newarray .int, 2) := by decide +kernel
theorem dX8_init_47 : decode cX8_init 47 = .ok (.putfield 27, 3) := by decide +kernel
theorem dX8_init_50 : decode cX8_init 50 = .ok (.aload_n 0, 1) := by decide +kernel
theorem dX8_init_51 : decode cX8_init 51 = .ok (.bipush 24, 2) := by decide +kernel
theorem dX8_init_53 : decode cX8_init 53 = .ok (.newarray .int, 2) := by decide +kernel
theorem dX8_init_55 : decode cX8_init 55 = .ok (.putfield 30, 3) := by decide +kernel
theorem dX8_init_58 : decode cX8_init 58 = .ok (.aload_n 0, 1) := by decide +kernel
theorem dX8_init_59 : decode cX8_init 59 = .ok (.bipush 24, 2) := by decide +kernel
theorem dX8_init_61 : decode cX8_init 61 = .ok (.newarray .int, 2) := by decide +kernel
theorem dX8_init_63 : decode cX8_init 63 = .ok (.putfield 33, 3) := by decide +kernel
theorem dX8_init_66 : decode cX8_init 66 = .ok (.aload_n 0, 1) := by decide +kernel
theorem dX8_init_67 : decode cX8_init 67 = .ok (.bipush 24, 2) := by decide +kernel
theorem dX8_init_69 : decode cX8_init 69 = .ok (.newarray .int, 2) := by decide +kernel
theorem dX8_init_71 : decode cX8_init 71 = .ok (.putfield 36, 3) := by decide +kernel
theorem dX8_init_74 : decode cX8_init 74 = .ok (.aload_n 0, 1) := by decide +kernel
theorem dX8_init_75 : decode cX8_init 75 = .ok (.bipush 24, 2) := by decide +kernel
theorem dX8_init_77 : decode cX8_init 77 = .ok (.newarray .int, 2) := by decide +kernel
theorem dX8_init_79 : decode cX8_init 79 = .ok (.putfield 39, 3) := by decide +kernel
theorem dX8_init_82 : decode cX8_init 82 = .ok (.aload_n 0, 1) := by decide +kernel
theorem dX8_init_83 : decode cX8_init 83 = .ok (.bipush 6, 2) := by decide +kernel
theorem dX8_init_85 : decode cX8_init 85 = .ok (.newarray .int, 2) := by decide +kernel
theorem dX8_init_87 : decode cX8_init 87 = .ok (.putfield 42, 3) := by decide +kernel
theorem dX8_init_90 : decode cX8_init 90 = .ok (.aload_n 0, 1) := by decide +kernel
theorem dX8_init_91 : decode cX8_init 91 = .ok (.bipush 6, 2) := by decide +kernel
theorem dX8_init_93 : decode cX8_init 93 = .ok (.newarray .int, 2) := by decide +kernel
theorem dX8_init_95 : decode cX8_init 95 = .ok (.putfield 45, 3) := by decide +kernel
theorem dX8_init_98 : decode cX8_init 98 = .ok (.aload_n 0, 1) := by decide +kernel
theorem dX8_init_99 : decode cX8_init 99 = .ok (.bipush 6, 2) := by decide +kernel
theorem dX8_init_101 : decode cX8_init 101 = .ok (.newarray .int, 2) := by decide +kernel
theorem dX8_init_103 : decode cX8_init 103 = .ok (.putfield 48, 3) := by decide +kernel
theorem dX8_init_106 : decode cX8_init 106 = .ok (.aload_n 0, 1) := by decide +kernel
theorem dX8_init_107 : decode cX8_init 107 = .ok (.iconst (-1), 1) := by decide +kernel
theorem dX8_init_108 : decode cX8_init 108 = .ok (.putfield 51, 3) := by decide +kernel
theorem dX8_init_111 : decode cX8_init 111 = .ok (.aload_n 0, 1) := by decide +kernel
theorem dX8_init_112 : decode cX8_init 112 = .ok (.bipush 13, 2) := by decide +kernel
theorem dX8_init_114 : decode cX8_init 114 = .ok (.newarray .int, 2) := by decide +kernel
theorem dX8_init_116 : decode cX8_init 116 = .ok (.putfield 54, 3) := by decide +kernel
theorem dX8_init_119 : decode cX8_init 119 = .ok (.aload_n 0, 1) := by decide +kernel
theorem dX8_init_120 : decode cX8_init 120 = .ok (.sipush 325, 3) := by decide +kernel
theorem dX8_init_123 : decode cX8_init 123 = .ok (.newarray .long, 2) := by decide +kernel
theorem dX8_init_125 : decode cX8_init 125 = .ok (.putfield 57, 3) := by decide +kernel
theorem dX8_init_128 : decode cX8_init 128 = .ok (.aload_n 0, 1) := by decide +kernel
theorem dX8_init_129 : decode cX8_init 129 = .ok (.sipush 325, 3) := by decide +kernel
theorem dX8_init_132 : decode cX8_init 132 = .ok (.newarray .long, 2) := by decide +kernel
theorem dX8_init_134 : decode cX8_init 134 = .ok (.putfield 61, 3) := by decide +kernel
theorem dX8_init_137 : decode cX8_init 137 = .ok (.aload_n 0, 1) := by decide +kernel
theorem dX8_init_138 : decode cX8_init 138 = .ok (.sipush 325, 3) := by decide +kernel
theorem dX8_init_141 : decode cX8_init 141 = .ok (.newarray .long, 2) := by decide +kernel
theorem dX8_init_143 : decode cX8_init 143 = .ok (.putfield 64, 3) := by decide +kernel
theorem dX8_init_146 : decode cX8_init 146 = .ok (.aload_n 0, 1) := by decide +kernel
theorem dX8_init_147 : decode cX8_init 147 = .ok (.bipush 13, 2) := by decide +kernel
theorem dX8_init_149 : decode cX8_init 149 = .ok (.newarray .int, 2) := by decide +kernel
theorem dX8_init_151 : decode cX8_init 151 = .ok (.putfield 67, 3) := by decide +kernel
theorem dX8_init_154 : decode cX8_init 154 = .ok (.aload_n 0, 1) := by decide +kernel
theorem dX8_init_155 : decode cX8_init 155 = .ok (.bipush 6, 2) := by decide +kernel
theorem dX8_init_157 : decode cX8_init 157 = .ok (.newarray .int, 2) := by decide +kernel
theorem dX8_init_159 : decode cX8_init 159 = .ok (.putfield 70, 3) := by decide +kernel
theorem dX8_init_162 : decode cX8_init 162 = .ok (.aload_n 0, 1) := by decide +kernel
theorem dX8_init_163 : decode cX8_init 163 = .ok (.bipush 6, 2) := by decide +kernel
theorem dX8_init_165 : decode cX8_init 165 = .ok (.newarray .int, 2) := by decide +kernel
theorem dX8_init_167 : decode cX8_init 167 = .ok (.putfield 73, 3) := by decide +kernel
theorem dX8_init_170 : decode cX8_init 170 = .ok (.return_, 1) := by decide +kernel
theorem dX8_ground_0 : decode cX8_ground 0 = .ok (.aload_n 0, 1) := by decide +kernel
theorem dX8_ground_1 : decode cX8_ground 1 = .ok (.iconst 0, 1) := by decide +kernel
theorem dX8_ground_2 : decode cX8_ground 2 = .ok (.putfield 76, 3) := by decide +kernel
theorem dX8_ground_5 : decode cX8_ground 5 = .ok (.iload_n 1, 1) := by decide +kernel
theorem dX8_ground_6 : decode cX8_ground 6 = .ok (.iconst 2, 1) := by decide +kernel
theorem dX8_ground_7 : decode cX8_ground 7 = .ok (.if_icmp .lt 9, 3) := by decide +kernel
theorem dX8_ground_10 : decode cX8_ground 10 = .ok (.iload_n 1, 1) := by decide +kernel
theorem dX8_ground_11 : decode cX8_ground 11 = .ok (.bipush 12, 2) := by decide +kernel
theorem dX8_ground_13 : decode cX8_ground 13 = .ok (.if_icmp .le 5, 3) := by decide +kernel
theorem dX8_ground_16 : decode cX8_ground 16 = .ok (.iconst 0, 1) := by decide +kernel
theorem dX8_ground_17 : decode cX8_ground 17 = .ok (.ireturn, 1) := by decide +kernel
theorem dX8_ground_18 : decode cX8_ground 18 = .ok (.aload_n 0, 1) := by decide +kernel
theorem dX8_ground_19 : decode cX8_ground 19 = .ok (.iload_n 1, 1) := by decide +kernel
theorem dX8_ground_20 : decode cX8_ground 20 = .ok (.putfield 7, 3) := by decide +kernel
theorem dX8_ground_23 : decode cX8_ground 23 = .ok (.iconst 0, 1) := by decide +kernel
theorem dX8_ground_24 : decode cX8_ground 24 = .ok (.istore_n 2, 1) := by decide +kernel
theorem dX8_ground_25 : decode cX8_ground 25 = .ok (.iload_n 2, 1) := by decide +kernel
theorem dX8_ground_26 : decode cX8_ground 26 = .ok (.bipush 24, 2) := by decide +kernel
theorem dX8_ground_28 : decode cX8_ground 28 = .ok (.if_icmp .ge 37, 3) := by decide +kernel
theorem dX8_ground_31 : decode cX8_ground 31 = .ok (.aload_n 0, 1) := by decide +kernel
theorem dX8_ground_32 : decode cX8_ground 32 = .ok (.getfield 30, 3) := by decide +kernel
theorem dX8_ground_35 : decode cX8_ground 35 = .ok (.iload_n 2, 1) := by decide +kernel
theorem dX8_ground_36 : decode cX8_ground 36 = .ok (.iconst 0, 1) := by decide +kernel
theorem dX8_ground_37 : decode cX8_ground 37 = .ok (.iastore, 1) := by decide +kernel
theorem dX8_ground_38 : decode cX8_ground 38 = .ok (.aload_n 0, 1) := by decide +kernel
theorem dX8_ground_39 : decode cX8_ground 39 = .ok (.getfield 33, 3) := by decide +kernel
theorem dX8_ground_42 : decode cX8_ground 42 = .ok (.iload_n 2, 1) := by decide +kernel
theorem dX8_ground_43 : decode cX8_ground 43 = .ok (.iconst 0, 1) := by decide +kernel
theorem dX8_ground_44 : decode cX8_ground 44 = .ok (.iastore, 1) := by decide +kernel
theorem dX8_ground_45 : decode cX8_ground 45 = .ok (.aload_n 0, 1) := by decide +kernel
theorem dX8_ground_46 : decode cX8_ground 46 = .ok (.getfield 36, 3) := by decide +kernel
theorem dX8_ground_49 : decode cX8_ground 49 = .ok (.iload_n 2, 1) := by decide +kernel
theorem dX8_ground_50 : decode cX8_ground 50 = .ok (.iconst 0, 1) := by decide +kernel
theorem dX8_ground_51 : decode cX8_ground 51 = .ok (.iastore, 1) := by decide +kernel
theorem dX8_ground_52 : decode cX8_ground 52 = .ok (.aload_n 0, 1) := by decide +kernel
theorem dX8_ground_53 : decode cX8_ground 53 = .ok (.getfield 39, 3) := by decide +kernel
theorem dX8_ground_56 : decode cX8_ground 56 = .ok (.iload_n 2, 1) := by decide +kernel
theorem dX8_ground_57 : decode cX8_ground 57 = .ok (.iconst 0, 1) := by decide +kernel
theorem dX8_ground_58 : decode cX8_ground 58 = .ok (.iastore, 1) := by decide +kernel
theorem dX8_ground_59 : decode cX8_ground 59 = .ok (.iinc 2 1, 3) := by decide +kernel
theorem dX8_ground_62 : decode cX8_ground 62 = .ok (.goto (-37), 3) := by decide +kernel
theorem dX8_ground_65 : decode cX8_ground 65 = .ok (.aload_n 0, 1) := by decide +kernel
theorem dX8_ground_66 : decode cX8_ground 66 = .ok (.iconst 0, 1) := by decide +kernel
theorem dX8_ground_67 : decode cX8_ground 67 = .ok (.putfield 79, 3) := by decide +kernel
theorem dX8_ground_70 : decode cX8_ground 70 = .ok (.aload_n 0, 1) := by decide +kernel
theorem dX8_ground_71 : decode cX8_ground 71 = .ok (.iconst (-1), 1) := by decide +kernel
theorem dX8_ground_72 : decode cX8_ground 72 = .ok (.putfield 51, 3) := by decide +kernel
theorem dX8_ground_75 : decode cX8_ground 75 = .ok (.aload_n 0, 1) := by decide +kernel
theorem dX8_ground_76 : decode cX8_ground 76 = .ok (.iconst 0, 1) := by decide +kernel
theorem dX8_ground_77 : decode cX8_ground 77 = .ok (.putfield 82, 3) := by decide +kernel
theorem dX8_ground_80 : decode cX8_ground 80 = .ok (.iconst 1, 1) := by decide +kernel
theorem dX8_ground_81 : decode cX8_ground 81 = .ok (.ireturn, 1) := by decide +kernel
theorem dX8_earth_0 : decode cX8_earth 0 = .ok (.aload_n 0, 1) := by decide +kernel
theorem dX8_earth_1 : decode cX8_earth 1 = .ok (.iconst 0, 1) := by decide +kernel
theorem dX8_earth_2 : decode cX8_earth 2 = .ok (.putfield 76, 3) := by decide +kernel
theorem dX8_earth_5 : decode cX8_earth 5 = .ok (.aload_n 0, 1) := by decide +kernel
theorem dX8_earth_6 : decode cX8_earth 6 = .ok (.getfield 85, 3) := by decide +kernel
theorem dX8_earth_9 : decode cX8_earth 9 = .ok (.bipush 6, 2) := by decide +kernel
theorem dX8_earth_11 : decode cX8_earth 11 = .ok (.if_icmp .eq 34, 3) := by decide +kernel
theorem dX8_earth_14 : decode cX8_earth 14 = .ok (.iload_n 1, 1) := by decide +kernel
theorem dX8_earth_15 : decode cX8_earth 15 = .ok (.iconst 1, 1) := by decide +kernel
theorem dX8_earth_16 : decode cX8_earth 16 = .ok (.if_icmp .lt 29, 3) := by decide +kernel
theorem dX8_earth_19 : decode cX8_earth 19 = .ok (.iload_n 1, 1) := by decide +kernel
theorem dX8_earth_20 : decode cX8_earth 20 = .ok (.bipush 30, 2) := by decide +kernel
theorem dX8_earth_22 : decode cX8_earth 22 = .ok (.if_icmp .gt 23, 3) := by decide +kernel
theorem dX8_earth_25 : decode cX8_earth 25 = .ok (.iload_n 2, 1) := by decide +kernel
theorem dX8_earth_26 : decode cX8_earth 26 = .ok (.ifCond .lt 19, 3) := by decide +kernel
theorem dX8_earth_29 : decode cX8_earth 29 = .ok (.iload_n 2, 1) := by decide +kernel
theorem dX8_earth_30 : decode cX8_earth 30 = .ok (.bipush 99, 2) := by decide +kernel
theorem dX8_earth_32 : decode cX8_earth 32 = .ok (.if_icmp .gt 13, 3) := by decide +kernel
theorem dX8_earth_35 : decode cX8_earth 35 = .ok (.iload_n 3, 1) := by decide +kernel
theorem dX8_earth_36 : decode cX8_earth 36 = .ok (.ifCond .lt 9, 3) := by decide +kernel
theorem dX8_earth_39 : decode cX8_earth 39 = .ok (.iload_n 3, 1) := by decide +kernel
theorem dX8_earth_40 : decode cX8_earth 40 = .ok (.bipush 9, 2) := by decide +kernel
theorem dX8_earth_42 : decode cX8_earth 42 = .ok (.if_icmp .le 5, 3) := by decide +kernel
theorem dX8_earth_45 : decode cX8_earth 45 = .ok (.iconst (-1), 1) := by decide +kernel
theorem dX8_earth_46 : decode cX8_earth 46 = .ok (.ireturn, 1) := by decide +kernel
theorem dX8_earth_47 : decode cX8_earth 47 = .ok (.aload_n 0, 1) := by decide +kernel
theorem dX8_earth_48 : decode cX8_earth 48 = .ok (.getfield 13, 3) := by decide +kernel
theorem dX8_earth_51 : decode cX8_earth 51 = .ok (.aload_n 0, 1) := by decide +kernel
theorem dX8_earth_52 : decode cX8_earth 52 = .ok (.getfield 85, 3) := by decide +kernel
theorem dX8_earth_55 : decode cX8_earth 55 = .ok (.iload_n 1, 1) := by decide +kernel
theorem dX8_earth_56 : decode cX8_earth 56 = .ok (.iastore, 1) := by decide +kernel
theorem dX8_earth_57 : decode cX8_earth 57 = .ok (.aload_n 0, 1) := by decide +kernel
theorem dX8_earth_58 : decode cX8_earth 58 = .ok (.getfield 17, 3) := by decide +kernel
theorem dX8_earth_61 : decode cX8_earth 61 = .ok (.aload_n 0, 1) := by decide +kernel
theorem dX8_earth_62 : decode cX8_earth 62 = .ok (.getfield 85, 3) := by decide +kernel
theorem dX8_earth_65 : decode cX8_earth 65 = .ok (.iload_n 2, 1) := by decide +kernel
theorem dX8_earth_66 : decode cX8_earth 66 = .ok (.iastore, 1) := by decide +kernel
theorem dX8_earth_67 : decode cX8_earth 67 = .ok (.aload_n 0, 1) := by decide +kernel
theorem dX8_earth_68 : decode cX8_earth 68 = .ok (.getfield 20, 3) := by decide +kernel
theorem dX8_earth_71 : decode cX8_earth 71 = .ok (.aload_n 0, 1) := by decide +kernel
theorem dX8_earth_72 : decode cX8_earth 72 = .ok (.getfield 85, 3) := by decide +kernel
theorem dX8_earth_75 : decode cX8_earth 75 = .ok (.iload_n 3, 1) := by decide +kernel
theorem dX8_earth_76 : decode cX8_earth 76 = .ok (.iastore, 1) := by decide +kernel
theorem dX8_earth_77 : decode cX8_earth 77 = .ok (.aload_n 0, 1) := by decide +kernel
theorem dX8_earth_78 : decode cX8_earth 78 = .ok (.getfield 23, 3) := by decide +kernel
theorem dX8_earth_81 : decode cX8_earth 81 = .ok (.aload_n 0, 1) := by decide +kernel
theorem dX8_earth_82 : decode cX8_earth 82 = .ok (.getfield 85, 3) := by decide +kernel
theorem dX8_earth_85 : decode cX8_earth 85 = .ok (.iload 4, 2) := by decide +kernel
theorem dX8_earth_87 : decode cX8_earth 87 = .ok (.bastore, 1) := by decide +kernel
theorem dX8_earth_88 : decode cX8_earth 88 = .ok (.aload_n 0, 1) := by decide +kernel
theorem dX8_earth_89 : decode cX8_earth 89 = .ok (.dup, 1) := by decide +kernel
theorem dX8_earth_90 : decode cX8_earth 90 = .ok (.getfield 85, 3) := by decide +kernel
theorem dX8_earth_93 : decode cX8_earth 93 = .ok (.iconst 1, 1) := by decide +kernel
theorem dX8_earth_94 : decode cX8_earth 94 = .ok (.iadd, 1) := by decide +kernel
theorem dX8_earth_95 : decode cX8_earth 95 = .ok (.putfield 85, 3) := by decide +kernel
theorem dX8_earth_98 : decode cX8_earth 98 = .ok (.aload_n 0, 1) := by decide +kernel
theorem dX8_earth_99 : decode cX8_earth 99 = .ok (.getfield 85, 3) := by decide +kernel
theorem dX8_earth_102 : decode cX8_earth 102 = .ok (.iconst 1, 1) := by decide +kernel
theorem dX8_earth_103 : decode cX8_earth 103 = .ok (.isub, 1) := by decide +kernel
theorem dX8_earth_104 : decode cX8_earth 104 = .ok (.ireturn, 1) := by decide +kernel
theorem dX8_isColumn_0 : decode cX8_isColumn 0 = .ok (.iload_n 1, 1) := by decide +kernel
theorem dX8_isColumn_1 : decode cX8_isColumn 1 = .ok (.ifCond .lt 15, 3) := by decide +kernel
theorem dX8_isColumn_4 : decode cX8_isColumn 4 = .ok (.iload_n 1, 1) := by decide +kernel
theorem dX8_isColumn_5 : decode cX8_isColumn 5 = .ok (.aload_n 0, 1) := by decide +kernel
theorem dX8_isColumn_6 : decode cX8_isColumn 6 = .ok (.getfield 7, 3) := by decide +kernel
theorem dX8_isColumn_9 : decode cX8_isColumn 9 = .ok (.if_icmp .ge 7, 3) := by decide +kernel
theorem dX8_isColumn_12 : decode cX8_isColumn 12 = .ok (.iconst 1, 1) := by decide +kernel
theorem dX8_isColumn_13 : decode cX8_isColumn 13 = .ok (.goto 4, 3) := by decide +kernel
theorem dX8_isColumn_16 : decode cX8_isColumn 16 = .ok (.iconst 0, 1) := by decide +kernel
theorem dX8_isColumn_17 : decode cX8_isColumn 17 = .ok (.ireturn, 1) := by decide +kernel
set_option maxRecDepth 20000 in
theorem ggX8_lay_X8_isColumn : GoodIn wsX8_lay wsX8_isColumn := goodIn_r _ [9, 10, 11, 12, 13, 14, 15, 16, 17, 18, 19, 20, 21, 22, 23, 24, 25, 26, 27, 28, 29, 30, 31, 32, 33, 34, 35, 36, 37, 38, 39, 40, 41, 42, 43, 44, 45] rfl (by decide +kernel)
set_option maxRecDepth 20000 in
theorem gX8_lay_X8_isColumn : GoodIn wsX8_lay (wsV RX8 88 RX8 yX8_isColumn wsX8_isColumn) := goodIn_app (goodIn_of _ (by decide +kernel)) ggX8_lay_X8_isColumn
theorem dX8_lay_0 : decode cX8_lay 0 = .ok (.aload_n 0, 1) := by decide +kernel
theorem dX8_lay_1 : decode cX8_lay 1 = .ok (.iconst 0, 1) := by decide +kernel
theorem dX8_lay_2 : decode cX8_lay 2 = .ok (.putfield 76, 3) := by decide +kernel
theorem dX8_lay_5 : decode cX8_lay 5 = .ok (.aload_n 0, 1) := by decide +kernel
theorem dX8_lay_6 : decode cX8_lay 6 = .ok (.iload_n 1, 1) := by decide +kernel
theorem dX8_lay_7 : decode cX8_lay 7 = .ok (.invokevirtual 88, 3) := by decide +kernel
theorem dX8_lay_10 : decode cX8_lay 10 = .ok (.ifCond .eq 39, 3) := by decide +kernel
theorem dX8_lay_13 : decode cX8_lay 13 = .ok (.iload_n 2, 1) := by decide +kernel
theorem dX8_lay_14 : decode cX8_lay 14 = .ok (.ifCond .lt 35, 3) := by decide +kernel
theorem dX8_lay_17 : decode cX8_lay 17 = .ok (.iload_n 2, 1) := by decide +kernel
theorem dX8_lay_18 : decode cX8_lay 18 = .ok (.aload_n 0, 1) := by decide +kernel
theorem dX8_lay_19 : decode cX8_lay 19 = .ok (.getfield 85, 3) := by decide +kernel
theorem dX8_lay_22 : decode cX8_lay 22 = .ok (.if_icmp .ge 27, 3) := by decide +kernel
theorem dX8_lay_25 : decode cX8_lay 25 = .ok (.iload_n 3, 1) := by decide +kernel
theorem dX8_lay_26 : decode cX8_lay 26 = .ok (.iconst 1, 1) := by decide +kernel
theorem dX8_lay_27 : decode cX8_lay 27 = .ok (.if_icmp .lt 22, 3) := by decide +kernel
theorem dX8_lay_30 : decode cX8_lay 30 = .ok (.iload_n 3, 1) := by decide +kernel
theorem dX8_lay_31 : decode cX8_lay 31 = .ok (.bipush 24, 2) := by decide +kernel
theorem dX8_lay_33 : decode cX8_lay 33 = .ok (.if_icmp .gt 16, 3) := by decide +kernel
theorem dX8_lay_36 : decode cX8_lay 36 = .ok (.aload_n 0, 1) := by decide +kernel
theorem dX8_lay_37 : decode cX8_lay 37 = .ok (.getfield 30, 3) := by decide +kernel
theorem dX8_lay_40 : decode cX8_lay 40 = .ok (.iload_n 1, 1) := by decide +kernel
theorem dX8_lay_41 : decode cX8_lay 41 = .ok (.iaload, 1) := by decide +kernel
theorem dX8_lay_42 : decode cX8_lay 42 = .ok (.iload_n 3, 1) := by decide +kernel
theorem dX8_lay_43 : decode cX8_lay 43 = .ok (.iadd, 1) := by decide +kernel
theorem dX8_lay_44 : decode cX8_lay 44 = .ok (.bipush 24, 2) := by decide +kernel
theorem dX8_lay_46 : decode cX8_lay 46 = .ok (.if_icmp .le 5, 3) := by decide +kernel
theorem dX8_lay_49 : decode cX8_lay 49 = .ok (.iconst (-1), 1) := by decide +kernel
theorem dX8_lay_50 : decode cX8_lay 50 = .ok (.ireturn, 1) := by decide +kernel
theorem dX8_lay_51 : decode cX8_lay 51 = .ok (.iconst 0, 1) := by decide +kernel
theorem dX8_lay_52 : decode cX8_lay 52 = .ok (.istore 4, 2) := by decide +kernel
theorem dX8_lay_54 : decode cX8_lay 54 = .ok (.iload 4, 2) := by decide +kernel
theorem dX8_lay_56 : decode cX8_lay 56 = .ok (.iload_n 3, 1) := by decide +kernel
theorem dX8_lay_57 : decode cX8_lay 57 = .ok (.if_icmp .ge 29, 3) := by decide +kernel
theorem dX8_lay_60 : decode cX8_lay 60 = .ok (.aload_n 0, 1) := by decide +kernel
theorem dX8_lay_61 : decode cX8_lay 61 = .ok (.getfield 27, 3) := by decide +kernel
theorem dX8_lay_64 : decode cX8_lay 64 = .ok (.bipush 24, 2) := by decide +kernel
theorem dX8_lay_66 : decode cX8_lay 66 = .ok (.iload_n 1, 1) := by decide +kernel
theorem dX8_lay_67 : decode cX8_lay 67 = .ok (.imul, 1) := by decide +kernel
theorem dX8_lay_68 : decode cX8_lay 68 = .ok (.aload_n 0, 1) := by decide +kernel
theorem dX8_lay_69 : decode cX8_lay 69 = .ok (.getfield 30, 3) := by decide +kernel
theorem dX8_lay_72 : decode cX8_lay 72 = .ok (.iload_n 1, 1) := by decide +kernel
theorem dX8_lay_73 : decode cX8_lay 73 = .ok (.iaload, 1) := by decide +kernel
theorem dX8_lay_74 : decode cX8_lay 74 = .ok (.iadd, 1) := by decide +kernel
theorem dX8_lay_75 : decode cX8_lay 75 = .ok (.iload 4, 2) := by decide +kernel
theorem dX8_lay_77 : decode cX8_lay 77 = .ok (.iadd, 1) := by decide +kernel
theorem dX8_lay_78 : decode cX8_lay 78 = .ok (.iload_n 2, 1) := by decide +kernel
theorem dX8_lay_79 : decode cX8_lay 79 = .ok (.iastore, 1) := by decide +kernel
theorem dX8_lay_80 : decode cX8_lay 80 = .ok (.iinc 4 1, 3) := by decide +kernel
theorem dX8_lay_83 : decode cX8_lay 83 = .ok (.goto (-29), 3) := by decide +kernel
theorem dX8_lay_86 : decode cX8_lay 86 = .ok (.aload_n 0, 1) := by decide +kernel
theorem dX8_lay_87 : decode cX8_lay 87 = .ok (.getfield 30, 3) := by decide +kernel
theorem dX8_lay_90 : decode cX8_lay 90 = .ok (.iload_n 1, 1) := by decide +kernel
theorem dX8_lay_91 : decode cX8_lay 91 = .ok (.dup2, 1) := by decide +kernel
theorem dX8_lay_92 : decode cX8_lay 92 = .ok (.iaload, 1) := by decide +kernel
theorem dX8_lay_93 : decode cX8_lay 93 = .ok (.iload_n 3, 1) := by decide +kernel
theorem dX8_lay_94 : decode cX8_lay 94 = .ok (.iadd, 1) := by decide +kernel
theorem dX8_lay_95 : decode cX8_lay 95 = .ok (.iastore, 1) := by decide +kernel
theorem dX8_lay_96 : decode cX8_lay 96 = .ok (.aload_n 0, 1) := by decide +kernel
theorem dX8_lay_97 : decode cX8_lay 97 = .ok (.getfield 30, 3) := by decide +kernel
theorem dX8_lay_100 : decode cX8_lay 100 = .ok (.iload_n 1, 1) := by decide +kernel
theorem dX8_lay_101 : decode cX8_lay 101 = .ok (.iaload, 1) := by decide +kernel
theorem dX8_lay_102 : decode cX8_lay 102 = .ok (.ireturn, 1) := by decide +kernel
set_option maxRecDepth 20000 in
theorem ggX8_set_X8_isColumn : GoodIn wsX8_set wsX8_isColumn := goodIn_r _ [9, 10, 11, 12, 13, 14, 15, 16, 17, 18, 19, 20, 21, 22, 23, 24, 25, 26, 27, 28, 29, 30, 31, 32, 33, 34, 35, 36, 37, 38, 39, 40, 41, 42, 43, 44, 45] rfl (by decide +kernel)
set_option maxRecDepth 20000 in
theorem gX8_set_X8_isColumn : GoodIn wsX8_set (wsV RX8 88 RX8 yX8_isColumn wsX8_isColumn) := goodIn_app (goodIn_of _ (by decide +kernel)) ggX8_set_X8_isColumn
theorem dX8_set_0 : decode cX8_set 0 = .ok (.aload_n 0, 1) := by decide +kernel
theorem dX8_set_1 : decode cX8_set 1 = .ok (.iconst 0, 1) := by decide +kernel
theorem dX8_set_2 : decode cX8_set 2 = .ok (.putfield 76, 3) := by decide +kernel
theorem dX8_set_5 : decode cX8_set 5 = .ok (.aload_n 0, 1) := by decide +kernel
theorem dX8_set_6 : decode cX8_set 6 = .ok (.iload_n 1, 1) := by decide +kernel
theorem dX8_set_7 : decode cX8_set 7 = .ok (.invokevirtual 88, 3) := by decide +kernel
theorem dX8_set_10 : decode cX8_set 10 = .ok (.ifCond .eq 32, 3) := by decide +kernel
theorem dX8_set_13 : decode cX8_set 13 = .ok (.iload_n 2, 1) := by decide +kernel
theorem dX8_set_14 : decode cX8_set 14 = .ok (.ifCond .lt 28, 3) := by decide +kernel
theorem dX8_set_17 : decode cX8_set 17 = .ok (.iload_n 2, 1) := by decide +kernel
theorem dX8_set_18 : decode cX8_set 18 = .ok (.iconst 2, 1) := by decide +kernel
theorem dX8_set_19 : decode cX8_set 19 = .ok (.if_icmp .gt 23, 3) := by decide +kernel
theorem dX8_set_22 : decode cX8_set 22 = .ok (.iload_n 3, 1) := by decide +kernel
theorem dX8_set_23 : decode cX8_set 23 = .ok (.ifCond .lt 19, 3) := by decide +kernel
theorem dX8_set_26 : decode cX8_set 26 = .ok (.iload_n 3, 1) := by decide +kernel
theorem dX8_set_27 : decode cX8_set 27 = .ok (.iload_n 2, 1) := by decide +kernel
theorem dX8_set_28 : decode cX8_set 28 = .ok (.ifCond .ne 8, 3) := by decide +kernel
theorem dX8_set_31 : decode cX8_set 31 = .ok (.bipush 24, 2) := by decide +kernel
theorem dX8_set_33 : decode cX8_set 33 = .ok (.goto 6, 3) := by decide +kernel
theorem dX8_set_36 : decode cX8_set 36 = .ok (.sipush 999, 3) := by decide +kernel
theorem dX8_set_39 : decode cX8_set 39 = .ok (.if_icmp .le 5, 3) := by decide +kernel
theorem dX8_set_42 : decode cX8_set 42 = .ok (.iconst 0, 1) := by decide +kernel
theorem dX8_set_43 : decode cX8_set 43 = .ok (.ireturn, 1) := by decide +kernel
theorem dX8_set_44 : decode cX8_set 44 = .ok (.iload_n 2, 1) := by decide +kernel
theorem dX8_set_45 : decode cX8_set 45 = .ok (.ifCond .ne 13, 3) := by decide +kernel
theorem dX8_set_48 : decode cX8_set 48 = .ok (.aload_n 0, 1) := by decide +kernel
theorem dX8_set_49 : decode cX8_set 49 = .ok (.getfield 33, 3) := by decide +kernel
theorem dX8_set_52 : decode cX8_set 52 = .ok (.iload_n 1, 1) := by decide +kernel
theorem dX8_set_53 : decode cX8_set 53 = .ok (.iload_n 3, 1) := by decide +kernel
theorem dX8_set_54 : decode cX8_set 54 = .ok (.iastore, 1) := by decide +kernel
theorem dX8_set_55 : decode cX8_set 55 = .ok (.goto 25, 3) := by decide +kernel
theorem dX8_set_58 : decode cX8_set 58 = .ok (.iload_n 2, 1) := by decide +kernel
theorem dX8_set_59 : decode cX8_set 59 = .ok (.iconst 1, 1) := by decide +kernel
theorem dX8_set_60 : decode cX8_set 60 = .ok (.if_icmp .ne 13, 3) := by decide +kernel
theorem dX8_set_63 : decode cX8_set 63 = .ok (.aload_n 0, 1) := by decide +kernel
theorem dX8_set_64 : decode cX8_set 64 = .ok (.getfield 36, 3) := by decide +kernel
theorem dX8_set_67 : decode cX8_set 67 = .ok (.iload_n 1, 1) := by decide +kernel
theorem dX8_set_68 : decode cX8_set 68 = .ok (.iload_n 3, 1) := by decide +kernel
theorem dX8_set_69 : decode cX8_set 69 = .ok (.iastore, 1) := by decide +kernel
theorem dX8_set_70 : decode cX8_set 70 = .ok (.goto 10, 3) := by decide +kernel
theorem dX8_set_73 : decode cX8_set 73 = .ok (.aload_n 0, 1) := by decide +kernel
theorem dX8_set_74 : decode cX8_set 74 = .ok (.getfield 39, 3) := by decide +kernel
theorem dX8_set_77 : decode cX8_set 77 = .ok (.iload_n 1, 1) := by decide +kernel
theorem dX8_set_78 : decode cX8_set 78 = .ok (.iload_n 3, 1) := by decide +kernel
theorem dX8_set_79 : decode cX8_set 79 = .ok (.iastore, 1) := by decide +kernel
theorem dX8_set_80 : decode cX8_set 80 = .ok (.iconst 1, 1) := by decide +kernel
theorem dX8_set_81 : decode cX8_set 81 = .ok (.ireturn, 1) := by decide +kernel
theorem dX8_fails_0 : decode cX8_fails 0 = .ok (.aload_n 0, 1) := by decide +kernel
theorem dX8_fails_1 : decode cX8_fails 1 = .ok (.iload_n 1, 1) := by decide +kernel
theorem dX8_fails_2 : decode cX8_fails 2 = .ok (.putfield 76, 3) := by decide +kernel
theorem dX8_fails_5 : decode cX8_fails 5 = .ok (.iconst 0, 1) := by decide +kernel
theorem dX8_fails_6 : decode cX8_fails 6 = .ok (.ireturn, 1) := by decide +kernel
set_option maxRecDepth 20000 in
theorem ggX8_look_X8_isColumn : GoodIn wsX8_look wsX8_isColumn := goodIn_r _ [10, 11, 16, 17, 18, 19, 20, 21, 22, 23, 24, 25, 26, 27, 28, 29, 30, 31, 32, 33, 34, 35, 36, 37, 38, 39, 40, 41, 42, 43, 44, 45, 46, 47, 48, 49, 50] rfl (by decide +kernel)
set_option maxRecDepth 20000 in
theorem gX8_look_X8_isColumn : GoodIn wsX8_look (wsV RX8 88 RX8 yX8_isColumn wsX8_isColumn) := goodIn_app (goodIn_of _ (by decide +kernel)) ggX8_look_X8_isColumn
set_option maxRecDepth 20000 in
theorem ggX8_look_X8_fails : GoodIn wsX8_look wsX8_fails := goodIn_r _ [15, 1, 16, 17, 18, 19, 20, 21, 22, 23, 24, 25, 26, 27, 28, 29, 30, 31, 32, 33, 34, 35, 36, 37, 38, 39, 40, 41, 42, 43, 44, 45, 46, 47, 48, 49, 50] rfl (by decide +kernel)
set_option maxRecDepth 20000 in
theorem gX8_look_X8_fails : GoodIn wsX8_look (wsV RX8 92 RX8 yX8_fails wsX8_fails) := goodIn_app (goodIn_of _ (by decide +kernel)) ggX8_look_X8_fails
theorem dX8_look_0 : decode cX8_look 0 = .ok (.aload_n 0, 1) := by decide +kernel
theorem dX8_look_1 : decode cX8_look 1 = .ok (.iconst 0, 1) := by decide +kernel
theorem dX8_look_2 : decode cX8_look 2 = .ok (.putfield 76, 3) := by decide +kernel
theorem dX8_look_5 : decode cX8_look 5 = .ok (.aload_n 0, 1) := by decide +kernel
theorem dX8_look_6 : decode cX8_look 6 = .ok (.iload_n 1, 1) := by decide +kernel
theorem dX8_look_7 : decode cX8_look 7 = .ok (.invokevirtual 88, 3) := by decide +kernel
theorem dX8_look_10 : decode cX8_look 10 = .ok (.ifCond .ne 9, 3) := by decide +kernel
theorem dX8_look_13 : decode cX8_look 13 = .ok (.aload_n 0, 1) := by decide +kernel
theorem dX8_look_14 : decode cX8_look 14 = .ok (.iconst 1, 1) := by decide +kernel
theorem dX8_look_15 : decode cX8_look 15 = .ok (.invokevirtual 92, 3) := by decide +kernel
theorem dX8_look_18 : decode cX8_look 18 = .ok (.ireturn, 1) := by decide +kernel
theorem dX8_look_19 : decode cX8_look 19 = .ok (.iload_n 2, 1) := by decide +kernel
theorem dX8_look_20 : decode cX8_look 20 = .ok (.tableswitch 60 0 3 #[32, 39, 46, 53], 32) := by decide +kernel
theorem dX8_look_52 : decode cX8_look 52 = .ok (.aload_n 0, 1) := by decide +kernel
theorem dX8_look_53 : decode cX8_look 53 = .ok (.getfield 33, 3) := by decide +kernel
theorem dX8_look_56 : decode cX8_look 56 = .ok (.iload_n 1, 1) := by decide +kernel
theorem dX8_look_57 : decode cX8_look 57 = .ok (.iaload, 1) := by decide +kernel
theorem dX8_look_58 : decode cX8_look 58 = .ok (.ireturn, 1) := by decide +kernel
theorem dX8_look_59 : decode cX8_look 59 = .ok (.aload_n 0, 1) := by decide +kernel
theorem dX8_look_60 : decode cX8_look 60 = .ok (.getfield 36, 3) := by decide +kernel
theorem dX8_look_63 : decode cX8_look 63 = .ok (.iload_n 1, 1) := by decide +kernel
theorem dX8_look_64 : decode cX8_look 64 = .ok (.iaload, 1) := by decide +kernel
theorem dX8_look_65 : decode cX8_look 65 = .ok (.ireturn, 1) := by decide +kernel
theorem dX8_look_66 : decode cX8_look 66 = .ok (.aload_n 0, 1) := by decide +kernel
theorem dX8_look_67 : decode cX8_look 67 = .ok (.getfield 39, 3) := by decide +kernel
theorem dX8_look_70 : decode cX8_look 70 = .ok (.iload_n 1, 1) := by decide +kernel
theorem dX8_look_71 : decode cX8_look 71 = .ok (.iaload, 1) := by decide +kernel
theorem dX8_look_72 : decode cX8_look 72 = .ok (.ireturn, 1) := by decide +kernel
theorem dX8_look_73 : decode cX8_look 73 = .ok (.aload_n 0, 1) := by decide +kernel
theorem dX8_look_74 : decode cX8_look 74 = .ok (.getfield 30, 3) := by decide +kernel
theorem dX8_look_77 : decode cX8_look 77 = .ok (.iload_n 1, 1) := by decide +kernel
theorem dX8_look_78 : decode cX8_look 78 = .ok (.iaload, 1) := by decide +kernel
theorem dX8_look_79 : decode cX8_look 79 = .ok (.ireturn, 1) := by decide +kernel
theorem dX8_look_80 : decode cX8_look 80 = .ok (.aload_n 0, 1) := by decide +kernel
theorem dX8_look_81 : decode cX8_look 81 = .ok (.iconst 2, 1) := by decide +kernel
theorem dX8_look_82 : decode cX8_look 82 = .ok (.invokevirtual 92, 3) := by decide +kernel
theorem dX8_look_85 : decode cX8_look 85 = .ok (.ireturn, 1) := by decide +kernel
set_option maxRecDepth 20000 in
theorem ggX8_cell_X8_isColumn : GoodIn wsX8_cell wsX8_isColumn := goodIn_r _ [8, 9, 10, 11, 12, 13, 14, 15, 16, 17, 18, 19, 20, 21, 22, 23, 24, 25, 26, 27, 28, 29, 30, 31, 32, 33, 34, 35, 36, 37, 38, 39, 40, 41, 42, 43, 44] rfl (by decide +kernel)
set_option maxRecDepth 20000 in
theorem gX8_cell_X8_isColumn : GoodIn wsX8_cell (wsV RX8 88 RX8 yX8_isColumn wsX8_isColumn) := goodIn_app (goodIn_of _ (by decide +kernel)) ggX8_cell_X8_isColumn
theorem dX8_cell_0 : decode cX8_cell 0 = .ok (.aload_n 0, 1) := by decide +kernel
theorem dX8_cell_1 : decode cX8_cell 1 = .ok (.iconst 0, 1) := by decide +kernel
theorem dX8_cell_2 : decode cX8_cell 2 = .ok (.putfield 76, 3) := by decide +kernel
theorem dX8_cell_5 : decode cX8_cell 5 = .ok (.aload_n 0, 1) := by decide +kernel
theorem dX8_cell_6 : decode cX8_cell 6 = .ok (.iload_n 1, 1) := by decide +kernel
theorem dX8_cell_7 : decode cX8_cell 7 = .ok (.invokevirtual 88, 3) := by decide +kernel
theorem dX8_cell_10 : decode cX8_cell 10 = .ok (.ifCond .eq 17, 3) := by decide +kernel
theorem dX8_cell_13 : decode cX8_cell 13 = .ok (.iload_n 2, 1) := by decide +kernel
theorem dX8_cell_14 : decode cX8_cell 14 = .ok (.ifCond .lt 13, 3) := by decide +kernel
theorem dX8_cell_17 : decode cX8_cell 17 = .ok (.iload_n 2, 1) := by decide +kernel
theorem dX8_cell_18 : decode cX8_cell 18 = .ok (.aload_n 0, 1) := by decide +kernel
theorem dX8_cell_19 : decode cX8_cell 19 = .ok (.getfield 30, 3) := by decide +kernel
theorem dX8_cell_22 : decode cX8_cell 22 = .ok (.iload_n 1, 1) := by decide +kernel
theorem dX8_cell_23 : decode cX8_cell 23 = .ok (.iaload, 1) := by decide +kernel
theorem dX8_cell_24 : decode cX8_cell 24 = .ok (.if_icmp .lt 7, 3) := by decide +kernel
theorem dX8_cell_27 : decode cX8_cell 27 = .ok (.iconst (-1), 1) := by decide +kernel
theorem dX8_cell_28 : decode cX8_cell 28 = .ok (.goto 14, 3) := by decide +kernel
theorem dX8_cell_31 : decode cX8_cell 31 = .ok (.aload_n 0, 1) := by decide +kernel
theorem dX8_cell_32 : decode cX8_cell 32 = .ok (.getfield 27, 3) := by decide +kernel
theorem dX8_cell_35 : decode cX8_cell 35 = .ok (.bipush 24, 2) := by decide +kernel
theorem dX8_cell_37 : decode cX8_cell 37 = .ok (.iload_n 1, 1) := by decide +kernel
theorem dX8_cell_38 : decode cX8_cell 38 = .ok (.imul, 1) := by decide +kernel
theorem dX8_cell_39 : decode cX8_cell 39 = .ok (.iload_n 2, 1) := by decide +kernel
theorem dX8_cell_40 : decode cX8_cell 40 = .ok (.iadd, 1) := by decide +kernel
theorem dX8_cell_41 : decode cX8_cell 41 = .ok (.iaload, 1) := by decide +kernel
theorem dX8_cell_42 : decode cX8_cell 42 = .ok (.ireturn, 1) := by decide +kernel
theorem dX8_can_0 : decode cX8_can 0 = .ok (.iload_n 2, 1) := by decide +kernel
theorem dX8_can_1 : decode cX8_can 1 = .ok (.iload_n 3, 1) := by decide +kernel
theorem dX8_can_2 : decode cX8_can 2 = .ok (.if_icmp .ge 7, 3) := by decide +kernel
theorem dX8_can_5 : decode cX8_can 5 = .ok (.iload_n 2, 1) := by decide +kernel
theorem dX8_can_6 : decode cX8_can 6 = .ok (.goto 4, 3) := by decide +kernel
theorem dX8_can_9 : decode cX8_can 9 = .ok (.iload_n 3, 1) := by decide +kernel
theorem dX8_can_10 : decode cX8_can 10 = .ok (.istore 4, 2) := by decide +kernel
theorem dX8_can_12 : decode cX8_can 12 = .ok (.iload_n 2, 1) := by decide +kernel
theorem dX8_can_13 : decode cX8_can 13 = .ok (.iload_n 3, 1) := by decide +kernel
theorem dX8_can_14 : decode cX8_can 14 = .ok (.if_icmp .ge 7, 3) := by decide +kernel
theorem dX8_can_17 : decode cX8_can 17 = .ok (.iload_n 3, 1) := by decide +kernel
theorem dX8_can_18 : decode cX8_can 18 = .ok (.goto 4, 3) := by decide +kernel
theorem dX8_can_21 : decode cX8_can 21 = .ok (.iload_n 2, 1) := by decide +kernel
theorem dX8_can_22 : decode cX8_can 22 = .ok (.istore 5, 2) := by decide +kernel
theorem dX8_can_24 : decode cX8_can 24 = .ok (.iload 5, 2) := by decide +kernel
theorem dX8_can_26 : decode cX8_can 26 = .ok (.iload 4, 2) := by decide +kernel
theorem dX8_can_28 : decode cX8_can 28 = .ok (.isub, 1) := by decide +kernel
theorem dX8_can_29 : decode cX8_can 29 = .ok (.iconst 4, 1) := by decide +kernel
theorem dX8_can_30 : decode cX8_can 30 = .ok (.if_icmp .gt 59, 3) := by decide +kernel
theorem dX8_can_33 : decode cX8_can 33 = .ok (.iload 5, 2) := by decide +kernel
theorem dX8_can_35 : decode cX8_can 35 = .ok (.aload_n 0, 1) := by decide +kernel
theorem dX8_can_36 : decode cX8_can 36 = .ok (.getfield 30, 3) := by decide +kernel
theorem dX8_can_39 : decode cX8_can 39 = .ok (.aload_n 0, 1) := by decide +kernel
theorem dX8_can_40 : decode cX8_can 40 = .ok (.getfield 96, 3) := by decide +kernel
theorem dX8_can_43 : decode cX8_can 43 = .ok (.iload_n 1, 1) := by decide +kernel
theorem dX8_can_44 : decode cX8_can 44 = .ok (.iadd, 1) := by decide +kernel
theorem dX8_can_45 : decode cX8_can 45 = .ok (.iaload, 1) := by decide +kernel
theorem dX8_can_46 : decode cX8_can 46 = .ok (.if_icmp .gt 43, 3) := by decide +kernel
theorem dX8_can_49 : decode cX8_can 49 = .ok (.iload 4, 2) := by decide +kernel
theorem dX8_can_51 : decode cX8_can 51 = .ok (.aload_n 0, 1) := by decide +kernel
theorem dX8_can_52 : decode cX8_can 52 = .ok (.getfield 30, 3) := by decide +kernel
theorem dX8_can_55 : decode cX8_can 55 = .ok (.aload_n 0, 1) := by decide +kernel
theorem dX8_can_56 : decode cX8_can 56 = .ok (.getfield 96, 3) := by decide +kernel
theorem dX8_can_59 : decode cX8_can 59 = .ok (.iload_n 1, 1) := by decide +kernel
theorem dX8_can_60 : decode cX8_can 60 = .ok (.iadd, 1) := by decide +kernel
theorem dX8_can_61 : decode cX8_can 61 = .ok (.iaload, 1) := by decide +kernel
theorem dX8_can_62 : decode cX8_can 62 = .ok (.if_icmp .ge 27, 3) := by decide +kernel
theorem dX8_can_65 : decode cX8_can 65 = .ok (.aload_n 0, 1) := by decide +kernel
theorem dX8_can_66 : decode cX8_can 66 = .ok (.getfield 23, 3) := by decide +kernel
theorem dX8_can_69 : decode cX8_can 69 = .ok (.aload_n 0, 1) := by decide +kernel
theorem dX8_can_70 : decode cX8_can 70 = .ok (.getfield 27, 3) := by decide +kernel
theorem dX8_can_73 : decode cX8_can 73 = .ok (.bipush 24, 2) := by decide +kernel
theorem dX8_can_75 : decode cX8_can 75 = .ok (.iload_n 1, 1) := by decide +kernel
theorem dX8_can_76 : decode cX8_can 76 = .ok (.imul, 1) := by decide +kernel
theorem dX8_can_77 : decode cX8_can 77 = .ok (.iload 4, 2) := by decide +kernel
theorem dX8_can_79 : decode cX8_can 79 = .ok (.iadd, 1) := by decide +kernel
theorem dX8_can_80 : decode cX8_can 80 = .ok (.iaload, 1) := by decide +kernel
theorem dX8_can_81 : decode cX8_can 81 = .ok (.baload, 1) := by decide +kernel
theorem dX8_can_82 : decode cX8_can 82 = .ok (.ifCond .ne 7, 3) := by decide +kernel
theorem dX8_can_85 : decode cX8_can 85 = .ok (.iconst 1, 1) := by decide +kernel
theorem dX8_can_86 : decode cX8_can 86 = .ok (.goto 4, 3) := by decide +kernel
theorem dX8_can_89 : decode cX8_can 89 = .ok (.iconst 0, 1) := by decide +kernel
theorem dX8_can_90 : decode cX8_can 90 = .ok (.ireturn, 1) := by decide +kernel
theorem dX8_press_0 : decode cX8_press 0 = .ok (.aload_n 0, 1) := by decide +kernel
theorem dX8_press_1 : decode cX8_press 1 = .ok (.getfield 36, 3) := by decide +kernel
theorem dX8_press_4 : decode cX8_press 4 = .ok (.aload_n 0, 1) := by decide +kernel
theorem dX8_press_5 : decode cX8_press 5 = .ok (.getfield 96, 3) := by decide +kernel
theorem dX8_press_8 : decode cX8_press 8 = .ok (.iload_n 1, 1) := by decide +kernel
theorem dX8_press_9 : decode cX8_press 9 = .ok (.iadd, 1) := by decide +kernel
theorem dX8_press_10 : decode cX8_press 10 = .ok (.iaload, 1) := by decide +kernel
theorem dX8_press_11 : decode cX8_press 11 = .ok (.istore_n 3, 1) := by decide +kernel
theorem dX8_press_12 : decode cX8_press 12 = .ok (.iload_n 2, 1) := by decide +kernel
theorem dX8_press_13 : decode cX8_press 13 = .ok (.istore 4, 2) := by decide +kernel
theorem dX8_press_15 : decode cX8_press 15 = .ok (.iload 4, 2) := by decide +kernel
theorem dX8_press_17 : decode cX8_press 17 = .ok (.aload_n 0, 1) := by decide +kernel
theorem dX8_press_18 : decode cX8_press 18 = .ok (.getfield 30, 3) := by decide +kernel
theorem dX8_press_21 : decode cX8_press 21 = .ok (.aload_n 0, 1) := by decide +kernel
theorem dX8_press_22 : decode cX8_press 22 = .ok (.getfield 96, 3) := by decide +kernel
theorem dX8_press_25 : decode cX8_press 25 = .ok (.iload_n 1, 1) := by decide +kernel
theorem dX8_press_26 : decode cX8_press 26 = .ok (.iadd, 1) := by decide +kernel
theorem dX8_press_27 : decode cX8_press 27 = .ok (.iaload, 1) := by decide +kernel
theorem dX8_press_28 : decode cX8_press 28 = .ok (.if_icmp .ge 29, 3) := by decide +kernel
theorem dX8_press_31 : decode cX8_press 31 = .ok (.iload_n 3, 1) := by decide +kernel
theorem dX8_press_32 : decode cX8_press 32 = .ok (.aload_n 0, 1) := by decide +kernel
theorem dX8_press_33 : decode cX8_press 33 = .ok (.getfield 13, 3) := by decide +kernel
theorem dX8_press_36 : decode cX8_press 36 = .ok (.aload_n 0, 1) := by decide +kernel
theorem dX8_press_37 : decode cX8_press 37 = .ok (.getfield 27, 3) := by decide +kernel
theorem dX8_press_40 : decode cX8_press 40 = .ok (.bipush 24, 2) := by decide +kernel
theorem dX8_press_42 : decode cX8_press 42 = .ok (.iload_n 1, 1) := by decide +kernel
theorem dX8_press_43 : decode cX8_press 43 = .ok (.imul, 1) := by decide +kernel
theorem dX8_press_44 : decode cX8_press 44 = .ok (.iload 4, 2) := by decide +kernel
theorem dX8_press_46 : decode cX8_press 46 = .ok (.iadd, 1) := by decide +kernel
theorem dX8_press_47 : decode cX8_press 47 = .ok (.iaload, 1) := by decide +kernel
theorem dX8_press_48 : decode cX8_press 48 = .ok (.iaload, 1) := by decide +kernel
theorem dX8_press_49 : decode cX8_press 49 = .ok (.iadd, 1) := by decide +kernel
theorem dX8_press_50 : decode cX8_press 50 = .ok (.istore_n 3, 1) := by decide +kernel
theorem dX8_press_51 : decode cX8_press 51 = .ok (.iinc 4 1, 3) := by decide +kernel
theorem dX8_press_54 : decode cX8_press 54 = .ok (.goto (-39), 3) := by decide +kernel
theorem dX8_press_57 : decode cX8_press 57 = .ok (.iload_n 3, 1) := by decide +kernel
theorem dX8_press_58 : decode cX8_press 58 = .ok (.ireturn, 1) := by decide +kernel
set_option maxRecDepth 20000 in
theorem ggX8_holds_X8_press : GoodIn wsX8_holds wsX8_press := goodIn_r _ [12, 13, 2, 14, 15, 3, 16, 17, 18, 19, 20, 21, 22, 23, 24, 25, 26, 27, 28, 29, 30, 31, 32, 33, 34, 35, 36, 37, 38, 39, 40, 41, 42, 43, 44, 45, 46, 47, 48, 49, 50] rfl (by decide +kernel)
set_option maxRecDepth 20000 in
theorem gX8_holds_X8_press : GoodIn wsX8_holds (wsV RX8 99 RX8 yX8_press wsX8_press) := goodIn_app (goodIn_of _ (by decide +kernel)) ggX8_holds_X8_press
theorem dX8_holds_0 : decode cX8_holds 0 = .ok (.iload_n 2, 1) := by decide +kernel
theorem dX8_holds_1 : decode cX8_holds 1 = .ok (.iload_n 3, 1) := by decide +kernel
theorem dX8_holds_2 : decode cX8_holds 2 = .ok (.if_icmp .ge 7, 3) := by decide +kernel
theorem dX8_holds_5 : decode cX8_holds 5 = .ok (.iload_n 2, 1) := by decide +kernel
theorem dX8_holds_6 : decode cX8_holds 6 = .ok (.goto 4, 3) := by decide +kernel
theorem dX8_holds_9 : decode cX8_holds 9 = .ok (.iload_n 3, 1) := by decide +kernel
theorem dX8_holds_10 : decode cX8_holds 10 = .ok (.istore 4, 2) := by decide +kernel
theorem dX8_holds_12 : decode cX8_holds 12 = .ok (.iload_n 2, 1) := by decide +kernel
theorem dX8_holds_13 : decode cX8_holds 13 = .ok (.iload_n 3, 1) := by decide +kernel
theorem dX8_holds_14 : decode cX8_holds 14 = .ok (.if_icmp .ge 7, 3) := by decide +kernel
theorem dX8_holds_17 : decode cX8_holds 17 = .ok (.iload_n 3, 1) := by decide +kernel
theorem dX8_holds_18 : decode cX8_holds 18 = .ok (.goto 4, 3) := by decide +kernel
theorem dX8_holds_21 : decode cX8_holds 21 = .ok (.iload_n 2, 1) := by decide +kernel
theorem dX8_holds_22 : decode cX8_holds 22 = .ok (.istore 5, 2) := by decide +kernel
theorem dX8_holds_24 : decode cX8_holds 24 = .ok (.iconst 1, 1) := by decide +kernel
theorem dX8_holds_25 : decode cX8_holds 25 = .ok (.iload_n 2, 1) := by decide +kernel
theorem dX8_holds_26 : decode cX8_holds 26 = .ok (.iload_n 3, 1) := by decide +kernel
theorem dX8_holds_27 : decode cX8_holds 27 = .ok (.isub, 1) := by decide +kernel
theorem dX8_holds_28 : decode cX8_holds 28 = .ok (.iload_n 2, 1) := by decide +kernel
theorem dX8_holds_29 : decode cX8_holds 29 = .ok (.iload_n 3, 1) := by decide +kernel
theorem dX8_holds_30 : decode cX8_holds 30 = .ok (.isub, 1) := by decide +kernel
theorem dX8_holds_31 : decode cX8_holds 31 = .ok (.imul, 1) := by decide +kernel
theorem dX8_holds_32 : decode cX8_holds 32 = .ok (.iadd, 1) := by decide +kernel
theorem dX8_holds_33 : decode cX8_holds 33 = .ok (.istore 6, 2) := by decide +kernel
theorem dX8_holds_35 : decode cX8_holds 35 = .ok (.aload_n 0, 1) := by decide +kernel
theorem dX8_holds_36 : decode cX8_holds 36 = .ok (.iload_n 1, 1) := by decide +kernel
theorem dX8_holds_37 : decode cX8_holds 37 = .ok (.iload 5, 2) := by decide +kernel
theorem dX8_holds_39 : decode cX8_holds 39 = .ok (.invokevirtual 99, 3) := by decide +kernel
theorem dX8_holds_42 : decode cX8_holds 42 = .ok (.istore 7, 2) := by decide +kernel
theorem dX8_holds_44 : decode cX8_holds 44 = .ok (.aload_n 0, 1) := by decide +kernel
theorem dX8_holds_45 : decode cX8_holds 45 = .ok (.getfield 33, 3) := by decide +kernel
theorem dX8_holds_48 : decode cX8_holds 48 = .ok (.aload_n 0, 1) := by decide +kernel
theorem dX8_holds_49 : decode cX8_holds 49 = .ok (.getfield 96, 3) := by decide +kernel
theorem dX8_holds_52 : decode cX8_holds 52 = .ok (.iload_n 1, 1) := by decide +kernel
theorem dX8_holds_53 : decode cX8_holds 53 = .ok (.iadd, 1) := by decide +kernel
theorem dX8_holds_54 : decode cX8_holds 54 = .ok (.iaload, 1) := by decide +kernel
theorem dX8_holds_55 : decode cX8_holds 55 = .ok (.iload 5, 2) := by decide +kernel
theorem dX8_holds_57 : decode cX8_holds 57 = .ok (.if_icmp .le 26, 3) := by decide +kernel
theorem dX8_holds_60 : decode cX8_holds 60 = .ok (.bipush 10, 2) := by decide +kernel
theorem dX8_holds_62 : decode cX8_holds 62 = .ok (.iload 6, 2) := by decide +kernel
theorem dX8_holds_64 : decode cX8_holds 64 = .ok (.imul, 1) := by decide +kernel
theorem dX8_holds_65 : decode cX8_holds 65 = .ok (.aload_n 0, 1) := by decide +kernel
theorem dX8_holds_66 : decode cX8_holds 66 = .ok (.getfield 33, 3) := by decide +kernel
theorem dX8_holds_69 : decode cX8_holds 69 = .ok (.aload_n 0, 1) := by decide +kernel
theorem dX8_holds_70 : decode cX8_holds 70 = .ok (.getfield 96, 3) := by decide +kernel
theorem dX8_holds_73 : decode cX8_holds 73 = .ok (.iload_n 1, 1) := by decide +kernel
theorem dX8_holds_74 : decode cX8_holds 74 = .ok (.iadd, 1) := by decide +kernel
theorem dX8_holds_75 : decode cX8_holds 75 = .ok (.iaload, 1) := by decide +kernel
theorem dX8_holds_76 : decode cX8_holds 76 = .ok (.iload 5, 2) := by decide +kernel
theorem dX8_holds_78 : decode cX8_holds 78 = .ok (.isub, 1) := by decide +kernel
theorem dX8_holds_79 : decode cX8_holds 79 = .ok (.imul, 1) := by decide +kernel
theorem dX8_holds_80 : decode cX8_holds 80 = .ok (.goto 4, 3) := by decide +kernel
theorem dX8_holds_83 : decode cX8_holds 83 = .ok (.iconst 0, 1) := by decide +kernel
theorem dX8_holds_84 : decode cX8_holds 84 = .ok (.istore 8, 2) := by decide +kernel
theorem dX8_holds_86 : decode cX8_holds 86 = .ok (.aload_n 0, 1) := by decide +kernel
theorem dX8_holds_87 : decode cX8_holds 87 = .ok (.getfield 27, 3) := by decide +kernel
theorem dX8_holds_90 : decode cX8_holds 90 = .ok (.bipush 24, 2) := by decide +kernel
theorem dX8_holds_92 : decode cX8_holds 92 = .ok (.iload_n 1, 1) := by decide +kernel
theorem dX8_holds_93 : decode cX8_holds 93 = .ok (.imul, 1) := by decide +kernel
theorem dX8_holds_94 : decode cX8_holds 94 = .ok (.iload 4, 2) := by decide +kernel
theorem dX8_holds_96 : decode cX8_holds 96 = .ok (.iadd, 1) := by decide +kernel
theorem dX8_holds_97 : decode cX8_holds 97 = .ok (.iaload, 1) := by decide +kernel
theorem dX8_holds_98 : decode cX8_holds 98 = .ok (.istore 9, 2) := by decide +kernel
theorem dX8_holds_100 : decode cX8_holds 100 = .ok (.ldc2_w 103, 3) := by decide +kernel
theorem dX8_holds_103 : decode cX8_holds 103 = .ok (.aload_n 0, 1) := by decide +kernel
theorem dX8_holds_104 : decode cX8_holds 104 = .ok (.getfield 17, 3) := by decide +kernel
theorem dX8_holds_107 : decode cX8_holds 107 = .ok (.iload 9, 2) := by decide +kernel
theorem dX8_holds_109 : decode cX8_holds 109 = .ok (.iaload, 1) := by decide +kernel
theorem dX8_holds_110 : decode cX8_holds 110 = .ok (.i2l, 1) := by decide +kernel
theorem dX8_holds_111 : decode cX8_holds 111 = .ok (.lmul, 1) := by decide +kernel
theorem dX8_holds_112 : decode cX8_holds 112 = .ok (.iload 6, 2) := by decide +kernel
theorem dX8_holds_114 : decode cX8_holds 114 = .ok (.i2l, 1) := by decide +kernel
theorem dX8_holds_115 : decode cX8_holds 115 = .ok (.lmul, 1) := by decide +kernel
theorem dX8_holds_116 : decode cX8_holds 116 = .ok (.iload 7, 2) := by decide +kernel
theorem dX8_holds_118 : decode cX8_holds 118 = .ok (.iload 8, 2) := by decide +kernel
theorem dX8_holds_120 : decode cX8_holds 120 = .ok (.if_icmp .le 19, 3) := by decide +kernel
theorem dX8_holds_123 : decode cX8_holds 123 = .ok (.aload_n 0, 1) := by decide +kernel
theorem dX8_holds_124 : decode cX8_holds 124 = .ok (.getfield 20, 3) := by decide +kernel
theorem dX8_holds_127 : decode cX8_holds 127 = .ok (.iload 9, 2) := by decide +kernel
theorem dX8_holds_129 : decode cX8_holds 129 = .ok (.iaload, 1) := by decide +kernel
theorem dX8_holds_130 : decode cX8_holds 130 = .ok (.iload 7, 2) := by decide +kernel
theorem dX8_holds_132 : decode cX8_holds 132 = .ok (.iload 8, 2) := by decide +kernel
theorem dX8_holds_134 : decode cX8_holds 134 = .ok (.isub, 1) := by decide +kernel
theorem dX8_holds_135 : decode cX8_holds 135 = .ok (.imul, 1) := by decide +kernel
theorem dX8_holds_136 : decode cX8_holds 136 = .ok (.goto 4, 3) := by decide +kernel
theorem dX8_holds_139 : decode cX8_holds 139 = .ok (.iconst 0, 1) := by decide +kernel
theorem dX8_holds_140 : decode cX8_holds 140 = .ok (.i2l, 1) := by decide +kernel
theorem dX8_holds_141 : decode cX8_holds 141 = .ok (.ladd, 1) := by decide +kernel
theorem dX8_holds_142 : decode cX8_holds 142 = .ok (.ldc2_w 103, 3) := by decide +kernel
theorem dX8_holds_145 : decode cX8_holds 145 = .ok (.aload_n 0, 1) := by decide +kernel
theorem dX8_holds_146 : decode cX8_holds 146 = .ok (.getfield 39, 3) := by decide +kernel
theorem dX8_holds_149 : decode cX8_holds 149 = .ok (.aload_n 0, 1) := by decide +kernel
theorem dX8_holds_150 : decode cX8_holds 150 = .ok (.getfield 96, 3) := by decide +kernel
theorem dX8_holds_153 : decode cX8_holds 153 = .ok (.iload_n 1, 1) := by decide +kernel
theorem dX8_holds_154 : decode cX8_holds 154 = .ok (.iadd, 1) := by decide +kernel
theorem dX8_holds_155 : decode cX8_holds 155 = .ok (.iaload, 1) := by decide +kernel
theorem dX8_holds_156 : decode cX8_holds 156 = .ok (.i2l, 1) := by decide +kernel
theorem dX8_holds_157 : decode cX8_holds 157 = .ok (.lmul, 1) := by decide +kernel
theorem dX8_holds_158 : decode cX8_holds 158 = .ok (.ladd, 1) := by decide +kernel
theorem dX8_holds_159 : decode cX8_holds 159 = .ok (.lreturn, 1) := by decide +kernel
set_option maxRecDepth 20000 in
theorem ggX8_drives_X8_press : GoodIn wsX8_drives wsX8_press := goodIn_r _ [6, 7, 8, 9, 10, 11, 12, 13, 14, 15, 16, 17, 18, 19, 20, 21, 22, 23, 24, 25, 26, 27, 28, 29, 30, 31, 32, 33, 34, 35, 36, 37, 38, 39, 40, 41, 42, 43, 44, 45, 46] rfl (by decide +kernel)
set_option maxRecDepth 20000 in
theorem gX8_drives_X8_press : GoodIn wsX8_drives (wsV RX8 99 RX8 yX8_press wsX8_press) := goodIn_app (goodIn_of _ (by decide +kernel)) ggX8_drives_X8_press
theorem dX8_drives_0 : decode cX8_drives 0 = .ok (.ldc2_w 103, 3) := by decide +kernel
theorem dX8_drives_3 : decode cX8_drives 3 = .ok (.aload_n 0, 1) := by decide +kernel
theorem dX8_drives_4 : decode cX8_drives 4 = .ok (.iload_n 1, 1) := by decide +kernel
theorem dX8_drives_5 : decode cX8_drives 5 = .ok (.iload_n 2, 1) := by decide +kernel
theorem dX8_drives_6 : decode cX8_drives 6 = .ok (.iload_n 3, 1) := by decide +kernel
theorem dX8_drives_7 : decode cX8_drives 7 = .ok (.if_icmp .ge 7, 3) := by decide +kernel
theorem dX8_drives_10 : decode cX8_drives 10 = .ok (.iload_n 3, 1) := by decide +kernel
theorem dX8_drives_11 : decode cX8_drives 11 = .ok (.goto 4, 3) := by decide +kernel
theorem dX8_drives_14 : decode cX8_drives 14 = .ok (.iload_n 2, 1) := by decide +kernel
theorem dX8_drives_15 : decode cX8_drives 15 = .ok (.invokevirtual 99, 3) := by decide +kernel
theorem dX8_drives_18 : decode cX8_drives 18 = .ok (.i2l, 1) := by decide +kernel
theorem dX8_drives_19 : decode cX8_drives 19 = .ok (.lmul, 1) := by decide +kernel
theorem dX8_drives_20 : decode cX8_drives 20 = .ok (.iload_n 2, 1) := by decide +kernel
theorem dX8_drives_21 : decode cX8_drives 21 = .ok (.iload_n 3, 1) := by decide +kernel
theorem dX8_drives_22 : decode cX8_drives 22 = .ok (.isub, 1) := by decide +kernel
theorem dX8_drives_23 : decode cX8_drives 23 = .ok (.i2l, 1) := by decide +kernel
theorem dX8_drives_24 : decode cX8_drives 24 = .ok (.lmul, 1) := by decide +kernel
theorem dX8_drives_25 : decode cX8_drives 25 = .ok (.lreturn, 1) := by decide +kernel
set_option maxRecDepth 20000 in
theorem ggX8_begin_X8_isColumn : GoodIn wsX8_begin wsX8_isColumn := goodIn_r _ [9, 10, 11, 12, 13, 14, 15, 16, 17, 18, 19, 20, 21, 22, 23, 24, 25, 26, 27, 28, 29, 30, 31, 32, 33, 34, 35, 36, 37, 38, 39, 40, 41, 42, 43, 44, 45] rfl (by decide +kernel)
set_option maxRecDepth 20000 in
theorem gX8_begin_X8_isColumn : GoodIn wsX8_begin (wsV RX8 88 RX8 yX8_isColumn wsX8_isColumn) := goodIn_app (goodIn_of _ (by decide +kernel)) ggX8_begin_X8_isColumn
theorem dX8_begin_0 : decode cX8_begin 0 = .ok (.aload_n 0, 1) := by decide +kernel
theorem dX8_begin_1 : decode cX8_begin 1 = .ok (.iconst 0, 1) := by decide +kernel
theorem dX8_begin_2 : decode cX8_begin 2 = .ok (.putfield 76, 3) := by decide +kernel
theorem dX8_begin_5 : decode cX8_begin 5 = .ok (.aload_n 0, 1) := by decide +kernel
theorem dX8_begin_6 : decode cX8_begin 6 = .ok (.iconst (-1), 1) := by decide +kernel
theorem dX8_begin_7 : decode cX8_begin 7 = .ok (.putfield 51, 3) := by decide +kernel
theorem dX8_begin_10 : decode cX8_begin 10 = .ok (.aload_n 0, 1) := by decide +kernel
theorem dX8_begin_11 : decode cX8_begin 11 = .ok (.iconst 0, 1) := by decide +kernel
theorem dX8_begin_12 : decode cX8_begin 12 = .ok (.putfield 82, 3) := by decide +kernel
theorem dX8_begin_15 : decode cX8_begin 15 = .ok (.aload_n 0, 1) := by decide +kernel
theorem dX8_begin_16 : decode cX8_begin 16 = .ok (.iload_n 1, 1) := by decide +kernel
theorem dX8_begin_17 : decode cX8_begin 17 = .ok (.invokevirtual 88, 3) := by decide +kernel
theorem dX8_begin_20 : decode cX8_begin 20 = .ok (.ifCond .eq 13, 3) := by decide +kernel
theorem dX8_begin_23 : decode cX8_begin 23 = .ok (.iload_n 2, 1) := by decide +kernel
theorem dX8_begin_24 : decode cX8_begin 24 = .ok (.ifCond .lt 9, 3) := by decide +kernel
theorem dX8_begin_27 : decode cX8_begin 27 = .ok (.iload_n 2, 1) := by decide +kernel
theorem dX8_begin_28 : decode cX8_begin 28 = .ok (.bipush 24, 2) := by decide +kernel
theorem dX8_begin_30 : decode cX8_begin 30 = .ok (.if_icmp .le 5, 3) := by decide +kernel
theorem dX8_begin_33 : decode cX8_begin 33 = .ok (.iconst 0, 1) := by decide +kernel
theorem dX8_begin_34 : decode cX8_begin 34 = .ok (.ireturn, 1) := by decide +kernel
theorem dX8_begin_35 : decode cX8_begin 35 = .ok (.aload_n 0, 1) := by decide +kernel
theorem dX8_begin_36 : decode cX8_begin 36 = .ok (.iload_n 1, 1) := by decide +kernel
theorem dX8_begin_37 : decode cX8_begin 37 = .ok (.putfield 51, 3) := by decide +kernel
theorem dX8_begin_40 : decode cX8_begin 40 = .ok (.aload_n 0, 1) := by decide +kernel
theorem dX8_begin_41 : decode cX8_begin 41 = .ok (.getfield 54, 3) := by decide +kernel
theorem dX8_begin_44 : decode cX8_begin 44 = .ok (.iconst 0, 1) := by decide +kernel
theorem dX8_begin_45 : decode cX8_begin 45 = .ok (.iload_n 2, 1) := by decide +kernel
theorem dX8_begin_46 : decode cX8_begin 46 = .ok (.iastore, 1) := by decide +kernel
theorem dX8_begin_47 : decode cX8_begin 47 = .ok (.aload_n 0, 1) := by decide +kernel
theorem dX8_begin_48 : decode cX8_begin 48 = .ok (.iconst 1, 1) := by decide +kernel
theorem dX8_begin_49 : decode cX8_begin 49 = .ok (.putfield 82, 3) := by decide +kernel
theorem dX8_begin_52 : decode cX8_begin 52 = .ok (.iconst 1, 1) := by decide +kernel
theorem dX8_begin_53 : decode cX8_begin 53 = .ok (.ireturn, 1) := by decide +kernel
theorem dX8_next_0 : decode cX8_next 0 = .ok (.aload_n 0, 1) := by decide +kernel
theorem dX8_next_1 : decode cX8_next 1 = .ok (.iconst 0, 1) := by decide +kernel
theorem dX8_next_2 : decode cX8_next 2 = .ok (.putfield 76, 3) := by decide +kernel
theorem dX8_next_5 : decode cX8_next 5 = .ok (.aload_n 0, 1) := by decide +kernel
theorem dX8_next_6 : decode cX8_next 6 = .ok (.getfield 51, 3) := by decide +kernel
theorem dX8_next_9 : decode cX8_next 9 = .ok (.ifCond .lt 29, 3) := by decide +kernel
theorem dX8_next_12 : decode cX8_next 12 = .ok (.iload_n 1, 1) := by decide +kernel
theorem dX8_next_13 : decode cX8_next 13 = .ok (.ifCond .lt 25, 3) := by decide +kernel
theorem dX8_next_16 : decode cX8_next 16 = .ok (.iload_n 1, 1) := by decide +kernel
theorem dX8_next_17 : decode cX8_next 17 = .ok (.bipush 24, 2) := by decide +kernel
theorem dX8_next_19 : decode cX8_next 19 = .ok (.if_icmp .gt 19, 3) := by decide +kernel
theorem dX8_next_22 : decode cX8_next 22 = .ok (.aload_n 0, 1) := by decide +kernel
theorem dX8_next_23 : decode cX8_next 23 = .ok (.getfield 51, 3) := by decide +kernel
theorem dX8_next_26 : decode cX8_next 26 = .ok (.aload_n 0, 1) := by decide +kernel
theorem dX8_next_27 : decode cX8_next 27 = .ok (.getfield 82, 3) := by decide +kernel
theorem dX8_next_30 : decode cX8_next 30 = .ok (.iadd, 1) := by decide +kernel
theorem dX8_next_31 : decode cX8_next 31 = .ok (.aload_n 0, 1) := by decide +kernel
theorem dX8_next_32 : decode cX8_next 32 = .ok (.getfield 7, 3) := by decide +kernel
theorem dX8_next_35 : decode cX8_next 35 = .ok (.if_icmp .le 5, 3) := by decide +kernel
theorem dX8_next_38 : decode cX8_next 38 = .ok (.iconst (-1), 1) := by decide +kernel
theorem dX8_next_39 : decode cX8_next 39 = .ok (.ireturn, 1) := by decide +kernel
theorem dX8_next_40 : decode cX8_next 40 = .ok (.aload_n 0, 1) := by decide +kernel
theorem dX8_next_41 : decode cX8_next 41 = .ok (.getfield 54, 3) := by decide +kernel
theorem dX8_next_44 : decode cX8_next 44 = .ok (.aload_n 0, 1) := by decide +kernel
theorem dX8_next_45 : decode cX8_next 45 = .ok (.getfield 82, 3) := by decide +kernel
theorem dX8_next_48 : decode cX8_next 48 = .ok (.iload_n 1, 1) := by decide +kernel
theorem dX8_next_49 : decode cX8_next 49 = .ok (.iastore, 1) := by decide +kernel
theorem dX8_next_50 : decode cX8_next 50 = .ok (.aload_n 0, 1) := by decide +kernel
theorem dX8_next_51 : decode cX8_next 51 = .ok (.dup, 1) := by decide +kernel
theorem dX8_next_52 : decode cX8_next 52 = .ok (.getfield 82, 3) := by decide +kernel
theorem dX8_next_55 : decode cX8_next 55 = .ok (.iconst 1, 1) := by decide +kernel
theorem dX8_next_56 : decode cX8_next 56 = .ok (.iadd, 1) := by decide +kernel
theorem dX8_next_57 : decode cX8_next 57 = .ok (.putfield 82, 3) := by decide +kernel
theorem dX8_next_60 : decode cX8_next 60 = .ok (.aload_n 0, 1) := by decide +kernel
theorem dX8_next_61 : decode cX8_next 61 = .ok (.getfield 82, 3) := by decide +kernel
theorem dX8_next_64 : decode cX8_next 64 = .ok (.ireturn, 1) := by decide +kernel
set_option maxRecDepth 20000 in
theorem ggX8_isLine_X8_can : GoodIn wsX8_isLine wsX8_can := goodIn_r _ [9, 4, 10, 11, 12, 13, 14, 15, 16, 17, 18, 19, 20, 21, 22, 23, 24, 25, 26, 27, 28, 29, 30, 31, 32, 33, 34, 35, 36, 37, 38, 39, 40, 41, 42, 43, 44, 45, 46, 47] rfl (by decide +kernel)
set_option maxRecDepth 20000 in
theorem gX8_isLine_X8_can : GoodIn wsX8_isLine (wsV RX8 105 RX8 yX8_can wsX8_can) := goodIn_app (goodIn_of _ (by decide +kernel)) ggX8_isLine_X8_can
theorem dX8_isLine_0 : decode cX8_isLine 0 = .ok (.aload_n 0, 1) := by decide +kernel
theorem dX8_isLine_1 : decode cX8_isLine 1 = .ok (.getfield 51, 3) := by decide +kernel
theorem dX8_isLine_4 : decode cX8_isLine 4 = .ok (.ifCond .lt 59, 3) := by decide +kernel
theorem dX8_isLine_7 : decode cX8_isLine 7 = .ok (.aload_n 0, 1) := by decide +kernel
theorem dX8_isLine_8 : decode cX8_isLine 8 = .ok (.getfield 82, 3) := by decide +kernel
theorem dX8_isLine_11 : decode cX8_isLine 11 = .ok (.iconst 2, 1) := by decide +kernel
theorem dX8_isLine_12 : decode cX8_isLine 12 = .ok (.if_icmp .lt 51, 3) := by decide +kernel
theorem dX8_isLine_15 : decode cX8_isLine 15 = .ok (.aload_n 0, 1) := by decide +kernel
theorem dX8_isLine_16 : decode cX8_isLine 16 = .ok (.getfield 54, 3) := by decide +kernel
theorem dX8_isLine_19 : decode cX8_isLine 19 = .ok (.iconst 0, 1) := by decide +kernel
theorem dX8_isLine_20 : decode cX8_isLine 20 = .ok (.iaload, 1) := by decide +kernel
theorem dX8_isLine_21 : decode cX8_isLine 21 = .ok (.aload_n 0, 1) := by decide +kernel
theorem dX8_isLine_22 : decode cX8_isLine 22 = .ok (.getfield 30, 3) := by decide +kernel
theorem dX8_isLine_25 : decode cX8_isLine 25 = .ok (.aload_n 0, 1) := by decide +kernel
theorem dX8_isLine_26 : decode cX8_isLine 26 = .ok (.getfield 51, 3) := by decide +kernel
theorem dX8_isLine_29 : decode cX8_isLine 29 = .ok (.iaload, 1) := by decide +kernel
theorem dX8_isLine_30 : decode cX8_isLine 30 = .ok (.if_icmp .ne 33, 3) := by decide +kernel
theorem dX8_isLine_33 : decode cX8_isLine 33 = .ok (.aload_n 0, 1) := by decide +kernel
theorem dX8_isLine_34 : decode cX8_isLine 34 = .ok (.getfield 54, 3) := by decide +kernel
theorem dX8_isLine_37 : decode cX8_isLine 37 = .ok (.aload_n 0, 1) := by decide +kernel
theorem dX8_isLine_38 : decode cX8_isLine 38 = .ok (.getfield 82, 3) := by decide +kernel
theorem dX8_isLine_41 : decode cX8_isLine 41 = .ok (.iconst 1, 1) := by decide +kernel
theorem dX8_isLine_42 : decode cX8_isLine 42 = .ok (.isub, 1) := by decide +kernel
theorem dX8_isLine_43 : decode cX8_isLine 43 = .ok (.iaload, 1) := by decide +kernel
theorem dX8_isLine_44 : decode cX8_isLine 44 = .ok (.aload_n 0, 1) := by decide +kernel
theorem dX8_isLine_45 : decode cX8_isLine 45 = .ok (.getfield 30, 3) := by decide +kernel
theorem dX8_isLine_48 : decode cX8_isLine 48 = .ok (.aload_n 0, 1) := by decide +kernel
theorem dX8_isLine_49 : decode cX8_isLine 49 = .ok (.getfield 51, 3) := by decide +kernel
theorem dX8_isLine_52 : decode cX8_isLine 52 = .ok (.aload_n 0, 1) := by decide +kernel
theorem dX8_isLine_53 : decode cX8_isLine 53 = .ok (.getfield 82, 3) := by decide +kernel
theorem dX8_isLine_56 : decode cX8_isLine 56 = .ok (.iadd, 1) := by decide +kernel
theorem dX8_isLine_57 : decode cX8_isLine 57 = .ok (.iconst 2, 1) := by decide +kernel
theorem dX8_isLine_58 : decode cX8_isLine 58 = .ok (.isub, 1) := by decide +kernel
theorem dX8_isLine_59 : decode cX8_isLine 59 = .ok (.iaload, 1) := by decide +kernel
theorem dX8_isLine_60 : decode cX8_isLine 60 = .ok (.if_icmp .eq 5, 3) := by decide +kernel
theorem dX8_isLine_63 : decode cX8_isLine 63 = .ok (.iconst 0, 1) := by decide +kernel
theorem dX8_isLine_64 : decode cX8_isLine 64 = .ok (.ireturn, 1) := by decide +kernel
theorem dX8_isLine_65 : decode cX8_isLine 65 = .ok (.iconst 0, 1) := by decide +kernel
theorem dX8_isLine_66 : decode cX8_isLine 66 = .ok (.istore_n 1, 1) := by decide +kernel
theorem dX8_isLine_67 : decode cX8_isLine 67 = .ok (.iload_n 1, 1) := by decide +kernel
theorem dX8_isLine_68 : decode cX8_isLine 68 = .ok (.aload_n 0, 1) := by decide +kernel
theorem dX8_isLine_69 : decode cX8_isLine 69 = .ok (.getfield 82, 3) := by decide +kernel
theorem dX8_isLine_72 : decode cX8_isLine 72 = .ok (.iconst 1, 1) := by decide +kernel
theorem dX8_isLine_73 : decode cX8_isLine 73 = .ok (.isub, 1) := by decide +kernel
theorem dX8_isLine_74 : decode cX8_isLine 74 = .ok (.if_icmp .ge 38, 3) := by decide +kernel
theorem dX8_isLine_77 : decode cX8_isLine 77 = .ok (.aload_n 0, 1) := by decide +kernel
theorem dX8_isLine_78 : decode cX8_isLine 78 = .ok (.aload_n 0, 1) := by decide +kernel
theorem dX8_isLine_79 : decode cX8_isLine 79 = .ok (.getfield 51, 3) := by decide +kernel
theorem dX8_isLine_82 : decode cX8_isLine 82 = .ok (.iload_n 1, 1) := by decide +kernel
theorem dX8_isLine_83 : decode cX8_isLine 83 = .ok (.iadd, 1) := by decide +kernel
theorem dX8_isLine_84 : decode cX8_isLine 84 = .ok (.aload_n 0, 1) := by decide +kernel
theorem dX8_isLine_85 : decode cX8_isLine 85 = .ok (.getfield 54, 3) := by decide +kernel
theorem dX8_isLine_88 : decode cX8_isLine 88 = .ok (.iload_n 1, 1) := by decide +kernel
theorem dX8_isLine_89 : decode cX8_isLine 89 = .ok (.iaload, 1) := by decide +kernel
theorem dX8_isLine_90 : decode cX8_isLine 90 = .ok (.aload_n 0, 1) := by decide +kernel
theorem dX8_isLine_91 : decode cX8_isLine 91 = .ok (.getfield 54, 3) := by decide +kernel
theorem dX8_isLine_94 : decode cX8_isLine 94 = .ok (.iload_n 1, 1) := by decide +kernel
theorem dX8_isLine_95 : decode cX8_isLine 95 = .ok (.iconst 1, 1) := by decide +kernel
theorem dX8_isLine_96 : decode cX8_isLine 96 = .ok (.iadd, 1) := by decide +kernel
theorem dX8_isLine_97 : decode cX8_isLine 97 = .ok (.iaload, 1) := by decide +kernel
theorem dX8_isLine_98 : decode cX8_isLine 98 = .ok (.invokevirtual 105, 3) := by decide +kernel
theorem dX8_isLine_101 : decode cX8_isLine 101 = .ok (.ifCond .ne 5, 3) := by decide +kernel
theorem dX8_isLine_104 : decode cX8_isLine 104 = .ok (.iconst 0, 1) := by decide +kernel
theorem dX8_isLine_105 : decode cX8_isLine 105 = .ok (.ireturn, 1) := by decide +kernel
theorem dX8_isLine_106 : decode cX8_isLine 106 = .ok (.iinc 1 1, 3) := by decide +kernel
theorem dX8_isLine_109 : decode cX8_isLine 109 = .ok (.goto (-42), 3) := by decide +kernel
theorem dX8_isLine_112 : decode cX8_isLine 112 = .ok (.iconst 1, 1) := by decide +kernel
theorem dX8_isLine_113 : decode cX8_isLine 113 = .ok (.ireturn, 1) := by decide +kernel
set_option maxRecDepth 20000 in
theorem ggX8_line_X8_isLine : GoodIn wsX8_line wsX8_isLine := goodIn_r _ [6, 7, 8, 9, 10, 11, 12, 13, 5, 14, 15, 16, 17, 18, 19, 20, 21, 22, 23, 24, 25, 26, 27, 28, 29, 30, 31, 32, 33, 34, 35, 36, 37, 38, 39, 40, 41, 42, 43, 44, 45, 46, 47, 48, 49, 50, 51, 52] rfl (by decide +kernel)
set_option maxRecDepth 20000 in
theorem gX8_line_X8_isLine : GoodIn wsX8_line (wsV RX8 109 RX8 yX8_isLine wsX8_isLine) := goodIn_app (goodIn_of _ (by decide +kernel)) ggX8_line_X8_isLine
theorem dX8_line_0 : decode cX8_line 0 = .ok (.aload_n 0, 1) := by decide +kernel
theorem dX8_line_1 : decode cX8_line 1 = .ok (.iconst 0, 1) := by decide +kernel
theorem dX8_line_2 : decode cX8_line 2 = .ok (.putfield 76, 3) := by decide +kernel
theorem dX8_line_5 : decode cX8_line 5 = .ok (.aload_n 0, 1) := by decide +kernel
theorem dX8_line_6 : decode cX8_line 6 = .ok (.invokevirtual 109, 3) := by decide +kernel
theorem dX8_line_9 : decode cX8_line 9 = .ok (.ifCond .eq 7, 3) := by decide +kernel
theorem dX8_line_12 : decode cX8_line 12 = .ok (.iconst 1, 1) := by decide +kernel
theorem dX8_line_13 : decode cX8_line 13 = .ok (.goto 4, 3) := by decide +kernel
theorem dX8_line_16 : decode cX8_line 16 = .ok (.iconst 0, 1) := by decide +kernel
theorem dX8_line_17 : decode cX8_line 17 = .ok (.ireturn, 1) := by decide +kernel
theorem dX8_divisor_0 : decode cX8_divisor 0 = .ok (.lload_n 0, 1) := by decide +kernel
theorem dX8_divisor_1 : decode cX8_divisor 1 = .ok (.lstore 4, 2) := by decide +kernel
theorem dX8_divisor_3 : decode cX8_divisor 3 = .ok (.lload_n 2, 1) := by decide +kernel
theorem dX8_divisor_4 : decode cX8_divisor 4 = .ok (.lstore 6, 2) := by decide +kernel
theorem dX8_divisor_6 : decode cX8_divisor 6 = .ok (.lload 6, 2) := by decide +kernel
theorem dX8_divisor_8 : decode cX8_divisor 8 = .ok (.lconst 0, 1) := by decide +kernel
theorem dX8_divisor_9 : decode cX8_divisor 9 = .ok (.lcmp, 1) := by decide +kernel
