theorem dX8_findLine_613 : decode cX8_findLine 613 = .ok (.isub, 1) := by decide +kernel
theorem dX8_findLine_614 : decode cX8_findLine 614 = .ok (.iconst 1, 1) := by decide +kernel
theorem dX8_findLine_615 : decode cX8_findLine 615 = .ok (.iadd, 1) := by decide +kernel
theorem dX8_findLine_616 : decode cX8_findLine 616 = .ok (.iload 8, 2) := by decide +kernel
theorem dX8_findLine_618 : decode cX8_findLine 618 = .ok (.iastore, 1) := by decide +kernel
theorem dX8_findLine_619 : decode cX8_findLine 619 = .ok (.lload 12, 2) := by decide +kernel
theorem dX8_findLine_621 : decode cX8_findLine 621 = .ok (.lstore_n 1, 1) := by decide +kernel
theorem dX8_findLine_622 : decode cX8_findLine 622 = .ok (.lload_n 3, 1) := by decide +kernel
theorem dX8_findLine_623 : decode cX8_findLine 623 = .ok (.lload 10, 2) := by decide +kernel
theorem dX8_findLine_625 : decode cX8_findLine 625 = .ok (.ladd, 1) := by decide +kernel
theorem dX8_findLine_626 : decode cX8_findLine 626 = .ok (.lstore_n 3, 1) := by decide +kernel
theorem dX8_findLine_627 : decode cX8_findLine 627 = .ok (.iinc 8 1, 3) := by decide +kernel
theorem dX8_findLine_630 : decode cX8_findLine 630 = .ok (.goto (-159), 3) := by decide +kernel
theorem dX8_findLine_633 : decode cX8_findLine 633 = .ok (.iinc 5 1, 3) := by decide +kernel
theorem dX8_findLine_636 : decode cX8_findLine 636 = .ok (.goto (-194), 3) := by decide +kernel
theorem dX8_findLine_639 : decode cX8_findLine 639 = .ok (.return_, 1) := by decide +kernel
set_option maxRecDepth 20000 in
theorem ggX8_worst_X8_findLine : GoodIn wsX8_worst wsX8_findLine := goodIn_r _ [61, 7, 8, 22, 5, 6, 14, 16, 23, 15, 24, 3, 25, 62, 18, 19, 20, 12, 21, 26, 17, 27, 28, 29, 30, 31, 32, 33, 34, 35, 36, 37, 38, 39, 40, 41, 42, 43, 44, 45, 46, 47, 48, 49, 50, 51, 52, 53, 54, 63, 64, 65, 66, 67, 68, 69, 70, 71, 72, 73, 74, 75, 76, 77, 78, 79, 80, 81, 82, 83, 84, 85, 86, 87, 88, 89, 90, 91, 92, 93, 94, 95, 96, 97] rfl (by decide +kernel)
set_option maxRecDepth 20000 in
theorem gX8_worst_X8_findLine : GoodIn wsX8_worst (wsV RX8 165 RX8 yX8_findLine wsX8_findLine) := goodIn_app (goodIn_of _ (by decide +kernel)) ggX8_worst_X8_findLine
set_option maxRecDepth 20000 in
theorem ggX8_height_X8_findLine : GoodIn wsX8_height wsX8_findLine := goodIn_r _ [61, 5, 4, 22, 16, 17, 12, 14, 23, 13, 24, 2, 25, 6, 18, 19, 20, 10, 21, 26, 15, 27, 28, 29, 30, 31, 32, 33, 34, 35, 36, 37, 38, 39, 40, 41, 42, 43, 44, 45, 46, 47, 48, 49, 50, 51, 52, 53, 54, 62, 63, 64, 65, 66, 67, 68, 69, 70, 71, 72, 73, 74, 75, 76, 77, 78, 79, 80, 81, 82, 83, 84, 85, 86, 87, 88, 89, 90, 91, 92, 93, 94, 95, 96] rfl (by decide +kernel)
set_option maxRecDepth 20000 in
theorem gX8_height_X8_findLine : GoodIn wsX8_height (wsV RX8 165 RX8 yX8_findLine wsX8_findLine) := goodIn_app (goodIn_of _ (by decide +kernel)) ggX8_height_X8_findLine
