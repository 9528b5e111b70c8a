set_option maxHeartbeats 4000000 in
theorem kX7_within  {x0 : Int} {x1 : Int} {x2 : Int} (hx0 : (-2147483648 : Int) ≤ x0 ∧ x0 ≤ 2147483647) (hx1 : (-2147483648 : Int) ≤ x1 ∧ x1 ≤ 2147483647) (hx2 : (-2147483648 : Int) ≤ x2 ∧ x2 ≤ 2147483647) : Ct yX7_within wsX7_within 1 [.int (iI x0), .int (iI x1), .int (iI x2)] (fun M => WF M) (fun M r M' => ∃ z : Int, r = some (.int (iI z)) ∧ (0 : Int) ≤ z ∧ z ≤ 1 ∧ WF M' ∧ Fr [] M M' ∧ (z = 1 ↔ (x1 ≤ x0 ∧ x0 ≤ x2))) := by
  refine Ct_of (cc := cX7_within) (nL := 3) (rt := (some .boolean)) (own := RX7) rfl (by decide) rfl (Nat.le_of_ble_eq_true rfl) ?_
  intro p l e s m args below meth c G M0 C W
  have E : Fr [] M0 M0 := Fr.rf
  refine A_lv (lv' := [(0, .int (iI x0)), (1, .int (iI x1)), (2, .int (iI x2))]) rfl ?_
  refine A_iloadn C dX7_within_0 0 rfl rfl ?_
  refine A_iloadn C dX7_within_1 1 rfl rfl ?_
  refine A_icmplt C 14 dX7_within_2 (by decide) (by omega) (by omega) (fun c1 => ?_) (fun c1 => ?_)
  · skip
    refine A_iconst C dX7_within_14 ?_
    exact A_zret C (by omega) dX7_within_15 ⟨0, rfl, by omega, by omega, W, E, by omega⟩
  · skip
    refine A_iloadn C dX7_within_5 0 rfl rfl ?_
    refine A_iloadn C dX7_within_6 2 rfl rfl ?_
    refine A_icmpgt C 14 dX7_within_7 (by decide) (by omega) (by omega) (fun c2 => ?_) (fun c2 => ?_)
    · skip
      refine A_iconst C dX7_within_14 ?_
      exact A_zret C (by omega) dX7_within_15 ⟨0, rfl, by omega, by omega, W, E, by omega⟩
    · skip
      refine A_iconst C dX7_within_10 ?_
      refine A_goto C 15 dX7_within_11 (by decide) ?_
      exact A_zret C (by omega) dX7_within_15 ⟨1, rfl, by omega, by omega, W, E, by omega⟩

theorem uX1_clear_1 : ∀ w ∈ u_ws RX1 TX1 9, w ∈ wsX1_clear := by decide +kernel
theorem fX1_clear_9 : Fl RX1 wsX1_clear 1 1 9 RX1 TX1 9 := ⟨rfl, by decide, uX1_clear_1, by decide +kernel⟩
theorem fX1_clear_15 : Fl RX1 wsX1_clear 1 2 15 RX1 TX1 9 := ⟨rfl, by decide, uX1_clear_1, by decide +kernel⟩
theorem fX1_clear_18 : Fl RX1 wsX1_clear 1 3 18 RX1 TX1 9 := ⟨rfl, by decide, uX1_clear_1, by decide +kernel⟩
theorem fX1_clear_21 : Fl RX1 wsX1_clear 1 4 21 RX1 TX1 9 := ⟨rfl, by decide, uX1_clear_1, by decide +kernel⟩
theorem fX1_clear_31 : Fl RX1 wsX1_clear 1 8 31 RX1 TX1 9 := ⟨rfl, by decide, uX1_clear_1, by decide +kernel⟩
set_option maxHeartbeats 4000000 in
theorem kX1_clear  {a : Nat} (ha : kd a = 8) : Ct yX1_clear wsX1_clear 1 [.ref a] (fun M => WF M) (fun M r M' => r = none ∧ WF M' ∧ Fr [8] M M') := by
  refine Ct_of (cc := cX1_clear) (nL := 1) (rt := none) (own := RX1) rfl (by decide) rfl (Nat.le_of_ble_eq_true rfl) ?_
  intro p l e s m args below meth c G M0 C W
  have E : Fr [8] M0 M0 := Fr.rf
  refine A_lv (lv' := [(0, .ref a)]) rfl ?_
  refine A_aloadn C dX1_clear_0 0 rfl rfl ?_
  refine A_iconst C dX1_clear_1 ?_
  refine G_putI C W E ha rfl rfl rfl rfl rfl fX1_clear_9 ⟨tyX1_ok, nmX1, rfl, by decide⟩ (Or.inl rfl) rfl rfl (by omega) (by omega) dX1_clear_2 (fun M1 eM1 WM1 EM1 => ?_)
  refine A_aloadn C dX1_clear_5 0 rfl rfl ?_
  refine A_iconst C dX1_clear_6 ?_
  refine G_putI C WM1 EM1 ha rfl rfl rfl rfl rfl fX1_clear_15 ⟨tyX1_ok, nmX1, rfl, by decide⟩ (Or.inl rfl) rfl rfl (by omega) (by omega) dX1_clear_7 (fun M2 eM2 WM2 EM2 => ?_)
  refine A_aloadn C dX1_clear_10 0 rfl rfl ?_
  refine A_iconst C dX1_clear_11 ?_
  refine G_putI C WM2 EM2 ha rfl rfl rfl rfl rfl fX1_clear_18 ⟨tyX1_ok, nmX1, rfl, by decide⟩ (Or.inl rfl) rfl rfl (by omega) (by omega) dX1_clear_12 (fun M3 eM3 WM3 EM3 => ?_)
  refine A_aloadn C dX1_clear_15 0 rfl rfl ?_
  refine A_iconst C dX1_clear_16 ?_
  refine G_putI C WM3 EM3 ha rfl rfl rfl rfl rfl fX1_clear_21 ⟨tyX1_ok, nmX1, rfl, by decide⟩ (Or.inl rfl) rfl rfl (by omega) (by omega) dX1_clear_17 (fun M4 eM4 WM4 EM4 => ?_)
  refine A_aloadn C dX1_clear_20 0 rfl rfl ?_
  refine A_iconst C dX1_clear_21 ?_
  refine G_putI C WM4 EM4 ha rfl rfl rfl rfl rfl fX1_clear_31 ⟨tyX1_ok, nmX1, rfl, by decide⟩ (Or.inr ⟨rfl, by omega⟩) rfl rfl (by omega) (by omega) dX1_clear_22 (fun M5 eM5 WM5 EM5 => ?_)
  exact A_vret C dX1_clear_25 ⟨rfl, WM5, EM5⟩

theorem uX1_digTo_1 : ∀ w ∈ u_ws RX1 TX1 9, w ∈ wsX1_digTo := by decide +kernel
theorem fX1_digTo_9 : Fl RX1 wsX1_digTo 1 1 9 RX1 TX1 9 := ⟨rfl, by decide, uX1_digTo_1, by decide +kernel⟩
theorem fX1_digTo_31 : Fl RX1 wsX1_digTo 1 8 31 RX1 TX1 9 := ⟨rfl, by decide, uX1_digTo_1, by decide +kernel⟩
set_option maxHeartbeats 4000000 in
theorem kX1_digTo  {a : Nat} (ha : kd a = 8) {x1 : Int} (hx1 : (0 : Int) ≤ x1 ∧ x1 ≤ 999) : Ct yX1_digTo wsX1_digTo 2 [.ref a, .int (iI x1)] (fun M => WF M) (fun M r M' => r = none ∧ WF M' ∧ Fr [8] M M') := by
  refine Ct_of (cc := cX1_digTo) (nL := 2) (rt := none) (own := RX1) rfl (by decide) rfl (Nat.le_of_ble_eq_true rfl) ?_
  intro p l e s m args below meth c G M0 C W
  have E : Fr [8] M0 M0 := Fr.rf
  refine A_lv (lv' := [(0, .ref a), (1, .int (iI x1))]) rfl ?_
  refine A_aloadn C dX1_digTo_0 0 rfl rfl ?_
  refine A_aloadn C dX1_digTo_1 0 rfl rfl ?_
  refine G_getI C W ha rfl rfl rfl rfl rfl fX1_digTo_9 rfl dX1_digTo_2 (fun z1 ez1 lz1 uz1 => ?_)
  refine A_iloadn C dX1_digTo_5 1 rfl rfl ?_
  refine A_min C (by omega) (by omega) (by decide +kernel) (by decide +kernel) (by decide +kernel) (by decide +kernel) (Nat.le_of_ble_eq_true rfl) (Nat.le_of_ble_eq_true rfl) dX1_digTo_6 (fun z2 ez2 lz2 uz2 => ?_)
  refine G_putI C W E ha rfl rfl rfl rfl rfl fX1_digTo_9 ⟨tyX1_ok, nmX1, rfl, by decide⟩ (Or.inl rfl) rfl rfl (by omega) (by omega) dX1_digTo_9 (fun M3 eM3 WM3 EM3 => ?_)
  refine A_aloadn C dX1_digTo_12 0 rfl rfl ?_
  refine A_iconst C dX1_digTo_13 ?_
  refine G_putI C WM3 EM3 ha rfl rfl rfl rfl rfl fX1_digTo_31 ⟨tyX1_ok, nmX1, rfl, by decide⟩ (Or.inr ⟨rfl, by omega⟩) rfl rfl (by omega) (by omega) dX1_digTo_14 (fun M4 eM4 WM4 EM4 => ?_)
  exact A_vret C dX1_digTo_17 ⟨rfl, WM4, EM4⟩

theorem uX1_put_1 : ∀ w ∈ u_ws RX1 TX1 9, w ∈ wsX1_put := by decide +kernel
theorem fX1_put_21 : Fl RX1 wsX1_put 1 4 21 RX1 TX1 9 := ⟨rfl, by decide, uX1_put_1, by decide +kernel⟩
theorem fX1_put_31 : Fl RX1 wsX1_put 1 8 31 RX1 TX1 9 := ⟨rfl, by decide, uX1_put_1, by decide +kernel⟩
theorem fX1_put_18 : Fl RX1 wsX1_put 1 3 18 RX1 TX1 9 := ⟨rfl, by decide, uX1_put_1, by decide +kernel⟩
theorem fX1_put_15 : Fl RX1 wsX1_put 1 2 15 RX1 TX1 9 := ⟨rfl, by decide, uX1_put_1, by decide +kernel⟩
set_option maxHeartbeats 4000000 in
theorem kX1_put  {a : Nat} (ha : kd a = 8) {x1 : Int} {x2 : Int} (hx1 : (-2147483648 : Int) ≤ x1 ∧ x1 ≤ 2147483647) (hx2 : (0 : Int) ≤ x2 ∧ x2 ≤ 999) (hy0 : x1 = 0 → x2 ≤ 24) : Ct yX1_put wsX1_put 1 [.ref a, .int (iI x1), .int (iI x2)] (fun M => WF M) (fun M r M' => r = none ∧ WF M' ∧ Fr [8] M M') := by
  refine Ct_of (cc := cX1_put) (nL := 3) (rt := none) (own := RX1) rfl (by decide) rfl (Nat.le_of_ble_eq_true rfl) ?_
  intro p l e s m args below meth c G M0 C W
  have E : Fr [8] M0 M0 := Fr.rf
  refine A_lv (lv' := [(0, .ref a), (1, .int (iI x1)), (2, .int (iI x2))]) rfl ?_
  refine A_iloadn C dX1_put_0 1 rfl rfl ?_
  refine A_ifne C 12 dX1_put_1 (by decide) (by omega) (fun c1 => ?_) (fun c1 => ?_)
  · skip
    refine A_iloadn C dX1_put_12 1 rfl rfl ?_
    refine A_iconst C dX1_put_13 ?_
    refine A_icmpne C 25 dX1_put_14 (by decide) (by omega) (by omega) (fun c2 => ?_) (fun c2 => ?_)
    · skip
      refine A_aloadn C dX1_put_25 0 rfl rfl ?_
      refine A_iloadn C dX1_put_26 2 rfl rfl ?_
      refine G_putI C W E ha rfl rfl rfl rfl rfl fX1_put_21 ⟨tyX1_ok, nmX1, rfl, by decide⟩ (Or.inl rfl) rfl rfl (by omega) (by omega) dX1_put_27 (fun M3 eM3 WM3 EM3 => ?_)
      refine A_aloadn C dX1_put_30 0 rfl rfl ?_
      refine A_iconst C dX1_put_31 ?_
      refine G_putI C WM3 EM3 ha rfl rfl rfl rfl rfl fX1_put_31 ⟨tyX1_ok, nmX1, rfl, by decide⟩ (Or.inr ⟨rfl, by omega⟩) rfl rfl (by omega) (by omega) dX1_put_32 (fun M4 eM4 WM4 EM4 => ?_)
      exact A_vret C dX1_put_35 ⟨rfl, WM4, EM4⟩
    · skip
      refine A_aloadn C dX1_put_17 0 rfl rfl ?_
      refine A_iloadn C dX1_put_18 2 rfl rfl ?_
      refine G_putI C W E ha rfl rfl rfl rfl rfl fX1_put_18 ⟨tyX1_ok, nmX1, rfl, by decide⟩ (Or.inl rfl) rfl rfl (by omega) (by omega) dX1_put_19 (fun M5 eM5 WM5 EM5 => ?_)
      refine A_goto C 30 dX1_put_22 (by decide) ?_
      refine A_aloadn C dX1_put_30 0 rfl rfl ?_
      refine A_iconst C dX1_put_31 ?_
      refine G_putI C WM5 EM5 ha rfl rfl rfl rfl rfl fX1_put_31 ⟨tyX1_ok, nmX1, rfl, by decide⟩ (Or.inr ⟨rfl, by omega⟩) rfl rfl (by omega) (by omega) dX1_put_32 (fun M6 eM6 WM6 EM6 => ?_)
      exact A_vret C dX1_put_35 ⟨rfl, WM6, EM6⟩
  · skip
    refine A_aloadn C dX1_put_4 0 rfl rfl ?_
    refine A_iloadn C dX1_put_5 2 rfl rfl ?_
    refine G_putI C W E ha rfl rfl rfl rfl rfl fX1_put_15 ⟨tyX1_ok, nmX1, rfl, by decide⟩ (Or.inl rfl) rfl rfl (by omega) (by omega) dX1_put_6 (fun M7 eM7 WM7 EM7 => ?_)
    refine A_goto C 30 dX1_put_9 (by decide) ?_
    refine A_aloadn C dX1_put_30 0 rfl rfl ?_
    refine A_iconst C dX1_put_31 ?_
    refine G_putI C WM7 EM7 ha rfl rfl rfl rfl rfl fX1_put_31 ⟨tyX1_ok, nmX1, rfl, by decide⟩ (Or.inr ⟨rfl, by omega⟩) rfl rfl (by omega) (by omega) dX1_put_32 (fun M8 eM8 WM8 EM8 => ?_)
    exact A_vret C dX1_put_35 ⟨rfl, WM8, EM8⟩

theorem uX1_holdsAt_1 : ∀ w ∈ u_ws RX1 TX1 9, w ∈ wsX1_holdsAt := by decide +kernel
theorem fX1_holdsAt_9 : Fl RX1 wsX1_holdsAt 1 1 9 RX1 TX1 9 := ⟨rfl, by decide, uX1_holdsAt_1, by decide +kernel⟩
theorem fX1_holdsAt_28 : Fl RX1 wsX1_holdsAt 1 7 28 RX1 TX1 9 := ⟨rfl, by decide, uX1_holdsAt_1, by decide +kernel⟩
set_option maxHeartbeats 4000000 in
theorem kX1_holdsAt  {a : Nat} (ha : kd a = 8) {x1 : Int} {x2 : Int} (hx1 : (-2147483648 : Int) ≤ x1 ∧ x1 ≤ 2147483647) (hx2 : (-2147483648 : Int) ≤ x2 ∧ x2 ≤ 2147483647) (hy0 : -1000 ≤ x1 ∧ x1 ≤ 1000) (hy1 : -1000 ≤ x2 ∧ x2 ≤ 1000) : Ct yX1_holdsAt wsX1_holdsAt 1 [.ref a, .int (iI x1), .int (iI x2)] (fun M => WF M) (fun M r M' => ∃ z : Int, r = some (.int (iI z)) ∧ (-2147483648 : Int) ≤ z ∧ z ≤ 2147483647 ∧ WF M' ∧ Fr [] M M' ∧ (z = -1 ∨ (0 ≤ x1 ∧ x1 + x2 ≤ 24 ∧ 0 ≤ x2 ∧ x2 ≤ 4))) := by
  refine Ct_of (cc := cX1_holdsAt) (nL := 3) (rt := (some .int)) (own := RX1) rfl (by decide) rfl (Nat.le_of_ble_eq_true rfl) ?_
  intro p l e s m args below meth c G M0 C W
  have E : Fr [] M0 M0 := Fr.rf
  refine A_lv (lv' := [(0, .ref a), (1, .int (iI x1)), (2, .int (iI x2))]) rfl ?_
  refine A_iloadn C dX1_holdsAt_0 1 rfl rfl ?_
  refine A_iflt C 31 dX1_holdsAt_1 (by decide) (by omega) (fun c1 => ?_) (fun c1 => ?_)
  · skip
    refine A_iconst C dX1_holdsAt_31 ?_
    exact A_iret C dX1_holdsAt_32 ⟨(-1), rfl, by omega, by omega, W, E, by omega⟩
  · skip
    refine A_iloadn C dX1_holdsAt_4 1 rfl rfl ?_
    refine A_aloadn C dX1_holdsAt_5 0 rfl rfl ?_
    refine G_getI C W ha rfl rfl rfl rfl rfl fX1_holdsAt_9 rfl dX1_holdsAt_6 (fun z2 ez2 lz2 uz2 => ?_)
    refine A_icmpge C 31 dX1_holdsAt_9 (by decide) (by omega) (by omega) (fun c3 => ?_) (fun c3 => ?_)
    · skip
      refine A_iconst C dX1_holdsAt_31 ?_
      exact A_iret C dX1_holdsAt_32 ⟨(-1), rfl, by omega, by omega, W, E, by omega⟩
    · skip
      refine A_iloadn C dX1_holdsAt_12 2 rfl rfl ?_
      refine A_iflt C 31 dX1_holdsAt_13 (by decide) (by omega) (fun c4 => ?_) (fun c4 => ?_)
      · skip
        refine A_iconst C dX1_holdsAt_31 ?_
        exact A_iret C dX1_holdsAt_32 ⟨(-1), rfl, by omega, by omega, W, E, by omega⟩
      · skip
        refine A_iloadn C dX1_holdsAt_16 2 rfl rfl ?_
        refine A_iconst C dX1_holdsAt_17 ?_
        refine A_icmpge C 31 dX1_holdsAt_18 (by decide) (by omega) (by omega) (fun c5 => ?_) (fun c5 => ?_)
        · skip
          refine A_iconst C dX1_holdsAt_31 ?_
          exact A_iret C dX1_holdsAt_32 ⟨(-1), rfl, by omega, by omega, W, E, by omega⟩
        · skip
          refine A_iloadn C dX1_holdsAt_21 1 rfl rfl ?_
          refine A_iloadn C dX1_holdsAt_22 2 rfl rfl ?_
          refine A_iadd C dX1_holdsAt_23 ?_
          refine A_aloadn C dX1_holdsAt_24 0 rfl rfl ?_
          refine G_getI C W ha rfl rfl rfl rfl rfl fX1_holdsAt_9 rfl dX1_holdsAt_25 (fun z6 ez6 lz6 uz6 => ?_)
          refine A_icmple C 33 dX1_holdsAt_28 (by decide) (by omega) (by omega) (fun c7 => ?_) (fun c7 => ?_)
          · skip
            refine A_aloadn C dX1_holdsAt_33 0 rfl rfl ?_
            refine G_getR C W ha rfl rfl rfl rfl fX1_holdsAt_28 dX1_holdsAt_34 (fun b8 hb8 qb8 => ?_)
            refine A_iloadn C dX1_holdsAt_37 1 rfl rfl ?_
            refine A_iconst C dX1_holdsAt_38 ?_
            refine A_imul C dX1_holdsAt_39 ?_
            refine A_iloadn C dX1_holdsAt_40 2 rfl rfl ?_
            refine A_iadd C dX1_holdsAt_41 ?_
            refine G_iald C W qb8 rfl rfl (by decide) (fun _ => rfl) (by omega) (by omega) dX1_holdsAt_42 (fun z9 ez9 lz9 uz9 => ?_)
            exact A_iret C dX1_holdsAt_43 ⟨z9, rfl, by omega, by omega, W, E, by omega⟩
          · skip
            refine A_iconst C dX1_holdsAt_31 ?_
            exact A_iret C dX1_holdsAt_32 ⟨(-1), rfl, by omega, by omega, W, E, by omega⟩

theorem uX1_drivesFrom_1 : ∀ w ∈ u_ws RX1 TX1 9, w ∈ wsX1_drivesFrom := by decide +kernel
theorem fX1_drivesFrom_9 : Fl RX1 wsX1_drivesFrom 1 1 9 RX1 TX1 9 := ⟨rfl, by decide, uX1_drivesFrom_1, by decide +kernel⟩
theorem fX1_drivesFrom_24 : Fl RX1 wsX1_drivesFrom 1 6 24 RX1 TX1 9 := ⟨rfl, by decide, uX1_drivesFrom_1, by decide +kernel⟩
set_option maxHeartbeats 4000000 in
theorem kX1_drivesFrom  {a : Nat} (ha : kd a = 8) {x1 : Int} {x2 : Int} (hx1 : (-2147483648 : Int) ≤ x1 ∧ x1 ≤ 2147483647) (hx2 : (-2147483648 : Int) ≤ x2 ∧ x2 ≤ 2147483647) : Ct yX1_drivesFrom wsX1_drivesFrom 1 [.ref a, .int (iI x1), .int (iI x2)] (fun M => WF M) (fun M r M' => ∃ z : Int, r = some (.int (iI z)) ∧ (-2147483648 : Int) ≤ z ∧ z ≤ 2147483647 ∧ WF M' ∧ Fr [] M M') := by
  refine Ct_of (cc := cX1_drivesFrom) (nL := 3) (rt := (some .int)) (own := RX1) rfl (by decide) rfl (Nat.le_of_ble_eq_true rfl) ?_
  intro p l e s m args below meth c G M0 C W
  have E : Fr [] M0 M0 := Fr.rf
  refine A_lv (lv' := [(0, .ref a), (1, .int (iI x1)), (2, .int (iI x2))]) rfl ?_
  refine A_iloadn C dX1_drivesFrom_0 1 rfl rfl ?_
  refine A_iflt C 26 dX1_drivesFrom_1 (by decide) (by omega) (fun c1 => ?_) (fun c1 => ?_)
  · skip
    refine A_iconst C dX1_drivesFrom_26 ?_
    exact A_iret C dX1_drivesFrom_27 ⟨0, rfl, by omega, by omega, W, E⟩
  · skip
    refine A_iloadn C dX1_drivesFrom_4 1 rfl rfl ?_
    refine A_aloadn C dX1_drivesFrom_5 0 rfl rfl ?_
    refine G_getI C W ha rfl rfl rfl rfl rfl fX1_drivesFrom_9 rfl dX1_drivesFrom_6 (fun z2 ez2 lz2 uz2 => ?_)
    refine A_icmpgt C 26 dX1_drivesFrom_9 (by decide) (by omega) (by omega) (fun c3 => ?_) (fun c3 => ?_)
    · skip
      refine A_iconst C dX1_drivesFrom_26 ?_
      exact A_iret C dX1_drivesFrom_27 ⟨0, rfl, by omega, by omega, W, E⟩
    · skip
      refine A_bipush C dX1_drivesFrom_12 (by decide) ?_
      refine A_aloadn C dX1_drivesFrom_14 0 rfl rfl ?_
      refine G_getR C W ha rfl rfl rfl rfl fX1_drivesFrom_24 dX1_drivesFrom_15 (fun b4 hb4 qb4 => ?_)
      refine A_iloadn C dX1_drivesFrom_18 1 rfl rfl ?_
      refine G_iald C W qb4 rfl rfl (by decide) (fun _ => rfl) (by omega) (by omega) dX1_drivesFrom_19 (fun z5 ez5 lz5 uz5 => ?_)
      refine A_imul C dX1_drivesFrom_20 ?_
      refine A_iloadn C dX1_drivesFrom_21 2 rfl rfl ?_
      refine A_imul C dX1_drivesFrom_22 ?_
      refine A_topi (fun z6 rz6 ez6 => ?_)
      refine A_goto C 27 dX1_drivesFrom_23 (by decide) ?_
      exact A_iret C dX1_drivesFrom_27 ⟨z6, rfl, by omega, by omega, W, E⟩

theorem uX1_pile_1 : ∀ w ∈ u_ws RX1 TX1 9, w ∈ wsX1_pile := by decide +kernel
theorem fX1_pile_9 : Fl RX1 wsX1_pile 1 1 9 RX1 TX1 9 := ⟨rfl, by decide, uX1_pile_1, by decide +kernel⟩
theorem fX1_pile_31 : Fl RX1 wsX1_pile 1 8 31 RX1 TX1 9 := ⟨rfl, by decide, uX1_pile_1, by decide +kernel⟩
theorem fX1_pile_39 : Fl RX1 wsX1_pile 1 0 39 RX1 TX1 9 := ⟨rfl, by decide, uX1_pile_1, by decide +kernel⟩
set_option maxHeartbeats 4000000 in
theorem lpX1_pile_18 {p : Program} {l : Launch} {e : Env} {s : State} {m : MethodId} {args : Array Value} {below : List Frame} {meth : Method} {c : Code} {G : xG} (C : Cx p s m args meth c G cX1_pile 5 RX1 wsX1_pile none)  {a : Nat} (ha : kd a = 8) {x1 : Int} {x2 : Int} (hx1 : (0 : Int) ≤ x1 ∧ x1 ≤ 5) (hx2 : (0 : Int) ≤ x2 ∧ x2 ≤ 24) {M0 : Mem} : ∀ (n : Nat) (v3 v4 : Int) (M : Mem), (25 - v4).toNat < n → (0 ≤ v4 ∧ v4 ≤ 24 ∧ 0 ≤ v3 ∧ v3 ≤ 24) → WF M → Fr [8, 9] M0 M → AW p l e (rmD 2) s m args below meth c G 5 (QQ G below args s ((fun M r M' => r = none ∧ WF M' ∧ Fr [8, 9] M M') M0)) M 18 [(0, .ref a), (1, .int (iI x1)), (3, .int (iI v3)), (4, .int (iI v4))] [] := by
  intro n
  induction n with
  | zero => intro v3 v4 M hn; exact absurd hn (Nat.not_lt_zero _)
  | succ n ih =>
    intro v3 v4 M hn hi W E
    refine A_iload C dX1_pile_18 3 rfl ?_
    refine A_iloadn C dX1_pile_20 2 rfl rfl ?_
    refine A_icmpge C 38 dX1_pile_21 (by decide) (by omega) (by omega) (fun c1 => ?_) (fun c1 => ?_)
    · skip
      refine A_aloadn C dX1_pile_38 0 rfl rfl ?_
      refine A_iloadn C dX1_pile_39 2 rfl rfl ?_
      refine G_putI C W E ha rfl rfl rfl rfl rfl fX1_pile_9 ⟨tyX1_ok, nmX1, rfl, by decide⟩ (Or.inl rfl) rfl rfl (by omega) (by omega) dX1_pile_40 (fun M2 eM2 WM2 EM2 => ?_)
      refine A_aloadn C dX1_pile_43 0 rfl rfl ?_
      refine A_iconst C dX1_pile_44 ?_
      refine G_putI C WM2 EM2 ha rfl rfl rfl rfl rfl fX1_pile_31 ⟨tyX1_ok, nmX1, rfl, by decide⟩ (Or.inr ⟨rfl, by omega⟩) rfl rfl (by omega) (by omega) dX1_pile_45 (fun M3 eM3 WM3 EM3 => ?_)
      exact A_vret C dX1_pile_48 ⟨rfl, WM3, EM3⟩
    · skip
      refine A_aloadn C dX1_pile_24 0 rfl rfl ?_
      refine G_getR C W ha rfl rfl rfl rfl fX1_pile_39 dX1_pile_25 (fun b4 hb4 qb4 => ?_)
      refine A_iload C dX1_pile_28 3 rfl ?_
      refine A_iloadn C dX1_pile_30 1 rfl rfl ?_
      refine G_iast C W E qb4 rfl rfl (by decide) (fun _ => rfl) rfl (by omega) (by omega) (by omega) (by omega) dX1_pile_31 (fun M5 eM5 WM5 EM5 => ?_)
      refine A_iinc (lv' := [(4, .int (iI (v4 + 1))), (0, .ref a), (1, .int (iI x1)), (3, .int (iI v3))]) C dX1_pile_32 3 rfl (by decide) rfl ?_
      refine A_goto C 18 dX1_pile_35 (by decide) ?_
      refine A_pick [1, 2, 3, 0] rfl ?_
      exact ih v3 (v4 + 1) M5 (by omega) (by omega) WM5 EM5
set_option maxHeartbeats 4000000 in
theorem kX1_pile  {a : Nat} (ha : kd a = 8) {x1 : Int} {x2 : Int} (hx1 : (0 : Int) ≤ x1 ∧ x1 ≤ 5) (hx2 : (0 : Int) ≤ x2 ∧ x2 ≤ 24) : Ct yX1_pile wsX1_pile 2 [.ref a, .int (iI x1), .int (iI x2)] (fun M => WF M) (fun M r M' => r = none ∧ WF M' ∧ Fr [8, 9] M M') := by
  refine Ct_of (cc := cX1_pile) (nL := 5) (rt := none) (own := RX1) rfl (by decide) rfl (Nat.le_of_ble_eq_true rfl) ?_
  intro p l e s m args below meth c G M0 C W
  have E : Fr [8, 9] M0 M0 := Fr.rf
  refine A_lv (lv' := [(0, .ref a), (1, .int (iI x1)), (2, .int (iI x2))]) rfl ?_
  refine A_aloadn C dX1_pile_0 0 rfl rfl ?_
  refine G_getI C W ha rfl rfl rfl rfl rfl fX1_pile_9 rfl dX1_pile_1 (fun z6 ez6 lz6 uz6 => ?_)
  refine A_iloadn C dX1_pile_4 2 rfl rfl ?_
  refine A_iadd C dX1_pile_5 ?_
  refine A_bipush C dX1_pile_6 (by decide) ?_
  refine A_min C (by omega) (by omega) (by decide +kernel) (by decide +kernel) (by decide +kernel) (by decide +kernel) (Nat.le_of_ble_eq_true rfl) (Nat.le_of_ble_eq_true rfl) dX1_pile_8 (fun z7 ez7 lz7 uz7 => ?_)
  refine A_istoren (lv' := [(3, .int (iI z7)), (0, .ref a), (1, .int (iI x1)), (2, .int (iI x2))]) C dX1_pile_11 rfl (by decide) rfl ?_
  refine A_aloadn C dX1_pile_12 1 rfl rfl ?_
  refine G_getI C W ha rfl rfl rfl rfl rfl fX1_pile_9 rfl dX1_pile_13 (fun z8 ez8 lz8 uz8 => ?_)
  refine A_istore (lv' := [(4, .int (iI z8)), (3, .int (iI z7)), (0, .ref a), (1, .int (iI x1)), (2, .int (iI x2))]) C dX1_pile_16 (by decide) rfl ?_
  refine A_pick [2, 3, 1, 0] rfl ?_
  exact lpX1_pile_18 C  ha hx1 hx2 ((25 - z8).toNat + 1) z7 z8 M0 (by omega) (by omega) W E

theorem uX2_has_2 : ∀ w ∈ u_ws RX2 TX2 5, w ∈ wsX2_has := by decide +kernel
theorem fX2_has_25 : Fl RX2 wsX2_has 2 4 25 RX2 TX2 5 := ⟨rfl, by decide, uX2_has_2, by decide +kernel⟩
set_option maxHeartbeats 4000000 in
theorem kX2_has  {a : Nat} (ha : kd a = 1) {x1 : Int} (hx1 : (-2147483648 : Int) ≤ x1 ∧ x1 ≤ 2147483647) : Ct yX2_has wsX2_has 2 [.ref a, .int (iI x1)] (fun M => WF M) (fun M r M' => ∃ z : Int, r = some (.int (iI z)) ∧ (0 : Int) ≤ z ∧ z ≤ 1 ∧ WF M' ∧ Fr [] M M' ∧ (z = 1 → (0 ≤ x1 ∧ x1 ≤ 5))) := by
  refine Ct_of (cc := cX2_has) (nL := 2) (rt := (some .boolean)) (own := RX2) rfl (by decide) rfl (Nat.le_of_ble_eq_true rfl) ?_
  intro p l e s m args below meth c G M0 C W
  have E : Fr [] M0 M0 := Fr.rf
  refine A_lv (lv' := [(0, .ref a), (1, .int (iI x1))]) rfl ?_
  refine A_iloadn C dX2_has_0 1 rfl rfl ?_
  refine A_iconst C dX2_has_1 ?_
  refine A_aloadn C dX2_has_2 0 rfl rfl ?_
  refine G_getI C W ha rfl rfl rfl rfl rfl fX2_has_25 rfl dX2_has_3 (fun z1 ez1 lz1 uz1 => ?_)
  refine A_iconst C dX2_has_6 ?_
  refine A_isub C dX2_has_7 ?_
  refine A_callSN C (n := 3) (st := []) (kX7_within  (by omega) (by omega) (by omega)) C.2.2.2.2.2.2.2.2.2.1 gX2_has_X7_within_n29 (by decide +kernel) (by decide +kernel) rfl (by decide +kernel) ⟨Nat.le_of_ble_eq_true rfl, Nat.le_of_ble_eq_true rfl⟩ rfl (Nat.le_of_ble_eq_true rfl) dX2_has_8 rfl W (fun r2 M3 h4 => ?_)
  obtain ⟨z6, rfl, lz6, uz6, WM3, FM3, xx5⟩ := h4
  have EM3 := Fr.tr E (FM3.mono (c2 := []) rfl)
  refine A_st (st' := [.int (iI z6)]) rfl ?_
  exact A_zret C (by omega) dX2_has_11 ⟨z6, rfl, by omega, by omega, WM3, EM3, by omega⟩

theorem uX4_has_4 : ∀ w ∈ u_ws RX4 TX4 2, w ∈ wsX4_has := by decide +kernel
theorem fX4_has_17 : Fl RX4 wsX4_has 4 1 17 RX4 TX4 2 := ⟨rfl, by decide, uX4_has_4, by decide +kernel⟩
set_option maxHeartbeats 4000000 in
theorem kX4_has  {a : Nat} (ha : (kd a = 6 ∨ kd a = 12)) {x1 : Int} (hx1 : (-2147483648 : Int) ≤ x1 ∧ x1 ≤ 2147483647) : Ct yX4_has wsX4_has 2 [.ref a, .int (iI x1)] (fun M => WF M) (fun M r M' => ∃ z : Int, r = some (.int (iI z)) ∧ (0 : Int) ≤ z ∧ z ≤ 1 ∧ WF M' ∧ Fr [] M M' ∧ (z = 1 → (0 ≤ x1 ∧ x1 ≤ 11)) ∧ (z = 1 ↔ (0 ≤ x1 ∧ x1 < M.1 a 1))) := by
  refine Ct_of (cc := cX4_has) (nL := 2) (rt := (some .boolean)) (own := RX4) rfl (by decide) rfl (Nat.le_of_ble_eq_true rfl) ?_
  intro p l e s m args below meth c G M0 C W
  have E : Fr [] M0 M0 := Fr.rf
  refine A_lv (lv' := [(0, .ref a), (1, .int (iI x1))]) rfl ?_
  refine A_iloadn C dX4_has_0 1 rfl rfl ?_
  refine A_iconst C dX4_has_1 ?_
  refine A_aloadn C dX4_has_2 0 rfl rfl ?_
  refine gr_getI C W ha fX4_has_17 dX4_has_3 (fun z1 ez1 lz1 uz1 => ?_)
  refine A_iconst C dX4_has_6 ?_
  refine A_isub C dX4_has_7 ?_
  refine A_callSN C (n := 3) (st := []) (kX7_within  (by omega) (by omega) (by omega)) C.2.2.2.2.2.2.2.2.1 gX4_has_X7_within_n32 (by decide +kernel) (by decide +kernel) rfl (by decide +kernel) ⟨Nat.le_of_ble_eq_true rfl, Nat.le_of_ble_eq_true rfl⟩ rfl (Nat.le_of_ble_eq_true rfl) dX4_has_8 rfl W (fun r2 M3 h4 => ?_)
  obtain ⟨z6, rfl, lz6, uz6, WM3, FM3, xx5⟩ := h4
  have EM3 := Fr.tr E (FM3.mono (c2 := []) rfl)
  refine A_st (st' := [.int (iI z6)]) rfl ?_
  exact A_zret C (by omega) dX4_has_11 ⟨z6, rfl, by omega, by omega, WM3, EM3, by omega⟩

theorem uX0_has_0 : ∀ w ∈ u_ws RX0 TX0 4, w ∈ wsX0_has := by decide +kernel
theorem fX0_has_9 : Fl RX0 wsX0_has 0 0 9 RX0 TX0 4 := ⟨rfl, by decide, uX0_has_0, by decide +kernel⟩
set_option maxHeartbeats 4000000 in
theorem kX0_has  {a : Nat} (ha : kd a = 13) {x1 : Int} (hx1 : (-2147483648 : Int) ≤ x1 ∧ x1 ≤ 2147483647) : Ct yX0_has wsX0_has 2 [.ref a, .int (iI x1)] (fun M => WF M) (fun M r M' => ∃ z : Int, r = some (.int (iI z)) ∧ (0 : Int) ≤ z ∧ z ≤ 1 ∧ WF M' ∧ Fr [] M M' ∧ (z = 1 → (0 ≤ x1 ∧ x1 ≤ 5)) ∧ (z = 1 ↔ (0 ≤ x1 ∧ x1 < M.1 a 0))) := by
  refine Ct_of (cc := cX0_has) (nL := 2) (rt := (some .boolean)) (own := RX0) rfl (by decide) rfl (Nat.le_of_ble_eq_true rfl) ?_
  intro p l e s m args below meth c G M0 C W
  have E : Fr [] M0 M0 := Fr.rf
  refine A_lv (lv' := [(0, .ref a), (1, .int (iI x1))]) rfl ?_
  refine A_iloadn C dX0_has_0 1 rfl rfl ?_
  refine A_iconst C dX0_has_1 ?_
  refine A_aloadn C dX0_has_2 0 rfl rfl ?_
  refine G_getI C W ha rfl rfl rfl rfl rfl fX0_has_9 rfl dX0_has_3 (fun z1 ez1 lz1 uz1 => ?_)
  refine A_iconst C dX0_has_6 ?_
  refine A_isub C dX0_has_7 ?_
  refine A_callSN C (n := 3) (st := []) (kX7_within  (by omega) (by omega) (by omega)) C.2.2.2.2.2.2.2.2.2.2 gX0_has_X7_within_n25 (by decide +kernel) (by decide +kernel) rfl (by decide +kernel) ⟨Nat.le_of_ble_eq_true rfl, Nat.le_of_ble_eq_true rfl⟩ rfl (Nat.le_of_ble_eq_true rfl) dX0_has_8 rfl W (fun r2 M3 h4 => ?_)
  obtain ⟨z6, rfl, lz6, uz6, WM3, FM3, xx5⟩ := h4
  have EM3 := Fr.tr E (FM3.mono (c2 := []) rfl)
  refine A_st (st' := [.int (iI z6)]) rfl ?_
  exact A_zret C (by omega) dX0_has_11 ⟨z6, rfl, by omega, by omega, WM3, EM3, by omega⟩

theorem uX5_drop_5 : ∀ w ∈ u_ws RX5 TX5 3, w ∈ wsX5_drop := by decide +kernel
theorem fX5_drop_19 : Fl RX5 wsX5_drop 5 2 19 RX5 TX5 3 := ⟨rfl, by decide, uX5_drop_5, by decide +kernel⟩
set_option maxHeartbeats 4000000 in
theorem kX5_drop  {a : Nat} (ha : kd a = 20) : Ct yX5_drop wsX5_drop 1 [.ref a] (fun M => WF M) (fun M r M' => r = none ∧ WF M' ∧ Fr [20] M M' ∧ (M'.1 a 1 = M.1 a 1 ∧ M'.1 a 2 = 0)) := by
  refine Ct_of (cc := cX5_drop) (nL := 1) (rt := none) (own := RX5) rfl (by decide) rfl (Nat.le_of_ble_eq_true rfl) ?_
  intro p l e s m args below meth c G M0 C W
  have E : Fr [20] M0 M0 := Fr.rf
  refine A_lv (lv' := [(0, .ref a)]) rfl ?_
  refine A_aloadn C dX5_drop_0 0 rfl rfl ?_
  refine A_iconst C dX5_drop_1 ?_
  refine G_putI C W E ha rfl rfl rfl rfl rfl fX5_drop_19 ⟨tyX5_ok, nmX5, rfl, by decide⟩ (Or.inl rfl) rfl rfl (by omega) (by omega) dX5_drop_2 (fun M1 eM1 WM1 EM1 => ?_)
  have t_M1_a_1 : M1.1 a 1 = M0.1 a 1 := by rw [eM1]; exact sI_pl rfl
  have t_M1_a_2 : M1.1 a 2 = 0 := by rw [eM1]; exact sI_at
  exact A_vret C dX5_drop_5 ⟨rfl, WM1, EM1, by omega⟩
