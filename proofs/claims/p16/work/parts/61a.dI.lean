theorem dX8_findLine_488 : decode cX8_findLine 488 = .ok (.bipush 25, 2) := by decide +kernel
theorem dX8_findLine_490 : decode cX8_findLine 490 = .ok (.iadd, 1) := by decide +kernel
theorem dX8_findLine_491 : decode cX8_findLine 491 = .ok (.iload 8, 2) := by decide +kernel
theorem dX8_findLine_493 : decode cX8_findLine 493 = .ok (.iadd, 1) := by decide +kernel
theorem dX8_findLine_494 : decode cX8_findLine 494 = .ok (.istore 9, 2) := by decide +kernel
theorem dX8_findLine_496 : decode cX8_findLine 496 = .ok (.aload_n 0, 1) := by decide +kernel
theorem dX8_findLine_497 : decode cX8_findLine 497 = .ok (.getfield 57, 3) := by decide +kernel
theorem dX8_findLine_500 : decode cX8_findLine 500 = .ok (.iload 9, 2) := by decide +kernel
theorem dX8_findLine_502 : decode cX8_findLine 502 = .ok (.laload, 1) := by decide +kernel
theorem dX8_findLine_503 : decode cX8_findLine 503 = .ok (.ldc2_w 124, 3) := by decide +kernel
theorem dX8_findLine_506 : decode cX8_findLine 506 = .ok (.lcmp, 1) := by decide +kernel
theorem dX8_findLine_507 : decode cX8_findLine 507 = .ok (.ifCond .eq 120, 3) := by decide +kernel
theorem dX8_findLine_510 : decode cX8_findLine 510 = .ok (.aload_n 0, 1) := by decide +kernel
theorem dX8_findLine_511 : decode cX8_findLine 511 = .ok (.iload 5, 2) := by decide +kernel
theorem dX8_findLine_513 : decode cX8_findLine 513 = .ok (.iload 6, 2) := by decide +kernel
theorem dX8_findLine_515 : decode cX8_findLine 515 = .ok (.iload 8, 2) := by decide +kernel
theorem dX8_findLine_517 : decode cX8_findLine 517 = .ok (.invokevirtual 105, 3) := by decide +kernel
theorem dX8_findLine_520 : decode cX8_findLine 520 = .ok (.ifCond .ne 6, 3) := by decide +kernel
theorem dX8_findLine_523 : decode cX8_findLine 523 = .ok (.goto 104, 3) := by decide +kernel
theorem dX8_findLine_526 : decode cX8_findLine 526 = .ok (.aload_n 0, 1) := by decide +kernel
theorem dX8_findLine_527 : decode cX8_findLine 527 = .ok (.iload 5, 2) := by decide +kernel
theorem dX8_findLine_529 : decode cX8_findLine 529 = .ok (.iload 6, 2) := by decide +kernel
theorem dX8_findLine_531 : decode cX8_findLine 531 = .ok (.iload 8, 2) := by decide +kernel
