theorem dX8_findLine_574 : decode cX8_findLine 574 = .ok (.ladd, 1) := by decide +kernel
theorem dX8_findLine_575 : decode cX8_findLine 575 = .ok (.lconst 0, 1) := by decide +kernel
theorem dX8_findLine_576 : decode cX8_findLine 576 = .ok (.lcmp, 1) := by decide +kernel
theorem dX8_findLine_577 : decode cX8_findLine 577 = .ok (.ifCond .ne 50, 3) := by decide +kernel
theorem dX8_findLine_580 : decode cX8_findLine 580 = .ok (.lload_n 3, 1) := by decide +kernel
theorem dX8_findLine_581 : decode cX8_findLine 581 = .ok (.lload 10, 2) := by decide +kernel
theorem dX8_findLine_583 : decode cX8_findLine 583 = .ok (.ladd, 1) := by decide +kernel
theorem dX8_findLine_584 : decode cX8_findLine 584 = .ok (.aload_n 0, 1) := by decide +kernel
theorem dX8_findLine_585 : decode cX8_findLine 585 = .ok (.getfield 61, 3) := by decide +kernel
theorem dX8_findLine_588 : decode cX8_findLine 588 = .ok (.iload 9, 2) := by decide +kernel
theorem dX8_findLine_590 : decode cX8_findLine 590 = .ok (.laload, 1) := by decide +kernel
theorem dX8_findLine_591 : decode cX8_findLine 591 = .ok (.ladd, 1) := by decide +kernel
theorem dX8_findLine_592 : decode cX8_findLine 592 = .ok (.lconst 0, 1) := by decide +kernel
theorem dX8_findLine_593 : decode cX8_findLine 593 = .ok (.lcmp, 1) := by decide +kernel
theorem dX8_findLine_594 : decode cX8_findLine 594 = .ok (.ifCond .gt 6, 3) := by decide +kernel
theorem dX8_findLine_597 : decode cX8_findLine 597 = .ok (.goto 30, 3) := by decide +kernel
theorem dX8_findLine_600 : decode cX8_findLine 600 = .ok (.iconst 1, 1) := by decide +kernel
theorem dX8_findLine_601 : decode cX8_findLine 601 = .ok (.istore 7, 2) := by decide +kernel
theorem dX8_findLine_603 : decode cX8_findLine 603 = .ok (.aload_n 0, 1) := by decide +kernel
theorem dX8_findLine_604 : decode cX8_findLine 604 = .ok (.getfield 67, 3) := by decide +kernel
theorem dX8_findLine_607 : decode cX8_findLine 607 = .ok (.iload 5, 2) := by decide +kernel
theorem dX8_findLine_609 : decode cX8_findLine 609 = .ok (.aload_n 0, 1) := by decide +kernel
theorem dX8_findLine_610 : decode cX8_findLine 610 = .ok (.getfield 154, 3) := by decide +kernel
