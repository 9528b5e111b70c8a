theorem dX8_findLine_533 : decode cX8_findLine 533 = .ok (.invokevirtual 117, 3) := by decide +kernel
theorem dX8_findLine_536 : decode cX8_findLine 536 = .ok (.lstore 10, 2) := by decide +kernel
theorem dX8_findLine_538 : decode cX8_findLine 538 = .ok (.lload_n 1, 1) := by decide +kernel
theorem dX8_findLine_539 : decode cX8_findLine 539 = .ok (.aload_n 0, 1) := by decide +kernel
theorem dX8_findLine_540 : decode cX8_findLine 540 = .ok (.getfield 151, 3) := by decide +kernel
theorem dX8_findLine_543 : decode cX8_findLine 543 = .ok (.aload_n 0, 1) := by decide +kernel
theorem dX8_findLine_544 : decode cX8_findLine 544 = .ok (.iload 5, 2) := by decide +kernel
theorem dX8_findLine_546 : decode cX8_findLine 546 = .ok (.iload 6, 2) := by decide +kernel
theorem dX8_findLine_548 : decode cX8_findLine 548 = .ok (.iload 8, 2) := by decide +kernel
theorem dX8_findLine_550 : decode cX8_findLine 550 = .ok (.invokevirtual 113, 3) := by decide +kernel
theorem dX8_findLine_553 : decode cX8_findLine 553 = .ok (.lmul, 1) := by decide +kernel
theorem dX8_findLine_554 : decode cX8_findLine 554 = .ok (.ladd, 1) := by decide +kernel
theorem dX8_findLine_555 : decode cX8_findLine 555 = .ok (.aload_n 0, 1) := by decide +kernel
theorem dX8_findLine_556 : decode cX8_findLine 556 = .ok (.getfield 148, 3) := by decide +kernel
theorem dX8_findLine_559 : decode cX8_findLine 559 = .ok (.lload 10, 2) := by decide +kernel
theorem dX8_findLine_561 : decode cX8_findLine 561 = .ok (.lmul, 1) := by decide +kernel
theorem dX8_findLine_562 : decode cX8_findLine 562 = .ok (.lsub, 1) := by decide +kernel
theorem dX8_findLine_563 : decode cX8_findLine 563 = .ok (.lstore 12, 2) := by decide +kernel
theorem dX8_findLine_565 : decode cX8_findLine 565 = .ok (.lload 12, 2) := by decide +kernel
theorem dX8_findLine_567 : decode cX8_findLine 567 = .ok (.aload_n 0, 1) := by decide +kernel
theorem dX8_findLine_568 : decode cX8_findLine 568 = .ok (.getfield 57, 3) := by decide +kernel
theorem dX8_findLine_571 : decode cX8_findLine 571 = .ok (.iload 9, 2) := by decide +kernel
theorem dX8_findLine_573 : decode cX8_findLine 573 = .ok (.laload, 1) := by decide +kernel
