theorem uX7_ground_7 : ∀ w ∈ u_ws RX7 TX7 15, w ∈ wsX7_ground := by decide +kernel
theorem uX7_ground_0 : ∀ w ∈ u_ws RX0 TX0 4, w ∈ wsX7_ground := by decide +kernel
theorem fX7_ground_21 : Fl RX7 wsX7_ground 7 1 21 RX7 TX7 15 := ⟨rfl, by decide, uX7_ground_7, by decide +kernel⟩
theorem fX7_ground_34 : Fl RX7 wsX7_ground 7 3 34 RX7 TX7 15 := ⟨rfl, by decide, uX7_ground_7, by decide +kernel⟩
theorem fX7_ground_91 : Fl RX7 wsX7_ground 0 0 91 RX0 TX0 4 := ⟨rfl, by decide, uX7_ground_0, by decide +kernel⟩
theorem fX7_ground_48 : Fl RX7 wsX7_ground 7 5 48 RX7 TX7 15 := ⟨rfl, by decide, uX7_ground_7, by decide +kernel⟩
theorem fX7_ground_80 : Fl RX7 wsX7_ground 7 13 80 RX7 TX7 15 := ⟨rfl, by decide, uX7_ground_7, by decide +kernel⟩
set_option maxHeartbeats 4000000 in
theorem kX7_ground  {a : Nat} (ha : kd a = 0) {x1 : Int} (hx1 : (-2147483648 : Int) ≤ x1 ∧ x1 ≤ 2147483647) : Ct yX7_ground wsX7_ground 3 [.ref a, .int (iI x1)] (fun M => WF M) (fun M r M' => ∃ z : Int, r = some (.int (iI z)) ∧ (0 : Int) ≤ z ∧ z ≤ 1 ∧ WF M' ∧ Fr [0, 6, 8, 13, 20] M M' ∧ ((z = 1 ↔ (2 ≤ x1 ∧ x1 ≤ 12)) ∧ (z = 1 → (M'.1 6 1 = x1 ∧ M'.1 94 0 = 0 ∧ M'.1 101 2 = 0)) ∧ (z = 0 → (M'.1 6 1 = M.1 6 1 ∧ M'.1 94 0 = M.1 94 0 ∧ M'.1 101 2 = M.1 101 2 ∧ M'.1 101 1 = M.1 101 1)))) := by
  refine Ct_of (cc := cX7_ground) (nL := 2) (rt := (some .boolean)) (own := RX7) rfl (by decide) rfl (Nat.le_of_ble_eq_true rfl) ?_
  intro p l e s m args below meth c G M0 C W
  have E : Fr [0, 6, 8, 13, 20] M0 M0 := Fr.rf
  refine A_lv (lv' := [(0, .ref a), (1, .int (iI x1))]) rfl ?_
  refine A_iloadn C dX7_ground_0 1 rfl rfl ?_
  refine A_iconst C dX7_ground_1 ?_
  refine A_icmplt C 11 dX7_ground_2 (by decide) (by omega) (by omega) (fun c1 => ?_) (fun c1 => ?_)
  · skip
    refine A_iconst C dX7_ground_11 ?_
    exact A_zret C (by omega) dX7_ground_12 ⟨0, rfl, by omega, by omega, W, E, by omega⟩
  · skip
    refine A_iloadn C dX7_ground_5 1 rfl rfl ?_
    refine A_bipush C dX7_ground_6 (by decide) ?_
    refine A_icmple C 13 dX7_ground_8 (by decide) (by omega) (by omega) (fun c2 => ?_) (fun c2 => ?_)
    · skip
      refine A_aloadn C dX7_ground_13 0 rfl rfl ?_
      refine G_getU C W ha rfl rfl rfl rfl uq_6 fX7_ground_21 dX7_ground_14 ?_
      refine A_iloadn C dX7_ground_17 1 rfl rfl ?_
      refine A_callV C (n := 1) (st := []) (kX4_clearTo kd_6 (by omega)) gX7_ground_X4_clearTo rfl (by decide +kernel) ⟨Nat.le_of_ble_eq_true rfl, Nat.le_of_ble_eq_true rfl⟩ kd_6 rfl rfl rfl rfl (Nat.le_of_ble_eq_true rfl) dX7_ground_18 rfl W (fun r3 M4 h5 => ?_)
      obtain ⟨rfl, WM4, FM4, xx6⟩ := h5
      have EM4 := Fr.tr E (FM4.mono (c2 := [0, 6, 8, 13, 20]) rfl)
      have t_M4_94_0 : M4.1 94 0 = _ := congrFun (FM4 94 (by rw [kd_94]; rfl)).1 0
      have t_M4_101_1 : M4.1 101 1 = _ := congrFun (FM4 101 (by rw [kd_101]; rfl)).1 1
      have t_M4_101_2 : M4.1 101 2 = _ := congrFun (FM4 101 (by rw [kd_101]; rfl)).1 2
      refine A_st (st' := []) rfl ?_
      refine A_aloadn C dX7_ground_21 0 rfl rfl ?_
      refine G_getU C WM4 ha rfl rfl rfl rfl uq_13 fX7_ground_34 dX7_ground_22 ?_
      refine A_iconst C dX7_ground_25 ?_
      refine G_putI C WM4 EM4 kd_94 rfl rfl rfl rfl rfl fX7_ground_91 ⟨tyX0_ok, nmX0, rfl, by decide⟩ (Or.inl rfl) rfl rfl (by omega) (by omega) dX7_ground_26 (fun M7 eM7 WM7 EM7 => ?_)
      have t_M7_6_1 : M7.1 6 1 = M4.1 6 1 := by rw [eM7]; exact sI_kd kd_6 kd_94 rfl
      have t_M7_94_0 : M7.1 94 0 = 0 := by rw [eM7]; exact sI_at
      have t_M7_101_1 : M7.1 101 1 = M4.1 101 1 := by rw [eM7]; exact sI_kd kd_101 kd_94 rfl
      have t_M7_101_2 : M7.1 101 2 = M4.1 101 2 := by rw [eM7]; exact sI_kd kd_101 kd_94 rfl
      refine A_aloadn C dX7_ground_29 0 rfl rfl ?_
      refine G_getU C WM7 ha rfl rfl rfl rfl uq_20 fX7_ground_48 dX7_ground_30 ?_
      refine A_callV C (n := 0) (st := []) (kX5_drop kd_101) gX7_ground_X5_drop rfl (by decide +kernel) ⟨Nat.le_of_ble_eq_true rfl, Nat.le_of_ble_eq_true rfl⟩ kd_101 rfl rfl rfl rfl (Nat.le_of_ble_eq_true rfl) dX7_ground_33 rfl WM7 (fun r8 M9 h10 => ?_)
      obtain ⟨rfl, WM9, FM9, xx11⟩ := h10
      have EM9 := Fr.tr EM7 (FM9.mono (c2 := [0, 6, 8, 13, 20]) rfl)
      have t_M9_6_1 : M9.1 6 1 = _ := congrFun (FM9 6 (by rw [kd_6]; rfl)).1 1
      have t_M9_94_0 : M9.1 94 0 = _ := congrFun (FM9 94 (by rw [kd_94]; rfl)).1 0
      refine A_st (st' := []) rfl ?_
      refine A_aloadn C dX7_ground_36 0 rfl rfl ?_
      refine A_iconst C dX7_ground_37 ?_
      refine G_putI C WM9 EM9 ha rfl rfl rfl rfl rfl fX7_ground_80 ⟨tyX7_ok, nmX7, rfl, by decide⟩ (Or.inr ⟨rfl, by omega⟩) rfl rfl (by omega) (by omega) dX7_ground_38 (fun M12 eM12 WM12 EM12 => ?_)
      have t_M12_6_1 : M12.1 6 1 = M9.1 6 1 := by rw [eM12]; exact sI_kd kd_6 ha rfl
      have t_M12_94_0 : M12.1 94 0 = M9.1 94 0 := by rw [eM12]; exact sI_kd kd_94 ha rfl
      have t_M12_101_1 : M12.1 101 1 = M9.1 101 1 := by rw [eM12]; exact sI_kd kd_101 ha rfl
      have t_M12_101_2 : M12.1 101 2 = M9.1 101 2 := by rw [eM12]; exact sI_kd kd_101 ha rfl
      refine A_iconst C dX7_ground_41 ?_
      exact A_zret C (by omega) dX7_ground_42 ⟨1, rfl, by omega, by omega, WM12, EM12, by omega⟩
    · skip
      refine A_iconst C dX7_ground_11 ?_
      exact A_zret C (by omega) dX7_ground_12 ⟨0, rfl, by omega, by omega, W, E, by omega⟩

theorem uX7_earth_7 : ∀ w ∈ u_ws RX7 TX7 15, w ∈ wsX7_earth := by decide +kernel
theorem fX7_earth_12 : Fl RX7 wsX7_earth 7 0 12 RX7 TX7 15 := ⟨rfl, by decide, uX7_earth_7, by decide +kernel⟩
set_option maxHeartbeats 4000000 in
theorem kX7_earth  {a : Nat} (ha : kd a = 0) {x1 : Int} {x2 : Int} {x3 : Int} {x4 : Int} (hx1 : (-2147483648 : Int) ≤ x1 ∧ x1 ≤ 2147483647) (hx2 : (-2147483648 : Int) ≤ x2 ∧ x2 ≤ 2147483647) (hx3 : (-2147483648 : Int) ≤ x3 ∧ x3 ≤ 2147483647) (hx4 : (0 : Int) ≤ x4 ∧ x4 ≤ 1) : Ct yX7_earth wsX7_earth 2 [.ref a, .int (iI x1), .int (iI x2), .int (iI x3), .int (iI x4)] (fun M => WF M) (fun M r M' => ∃ z : Int, r = some (.int (iI z)) ∧ (-1 : Int) ≤ z ∧ z ≤ 5 ∧ WF M' ∧ Fr [1, 2, 3, 4, 5] M M') := by
  refine Ct_of (cc := cX7_earth) (nL := 5) (rt := (some .int)) (own := RX7) rfl (by decide) rfl (Nat.le_of_ble_eq_true rfl) ?_
  intro p l e s m args below meth c G M0 C W
  have E : Fr [1, 2, 3, 4, 5] M0 M0 := Fr.rf
  refine A_lv (lv' := [(0, .ref a), (1, .int (iI x1)), (2, .int (iI x2)), (3, .int (iI x3)), (4, .int (iI x4))]) rfl ?_
  refine A_iloadn C dX7_earth_0 1 rfl rfl ?_
  refine A_iconst C dX7_earth_1 ?_
  refine A_bipush C dX7_earth_2 (by decide) ?_
  refine A_callS C (n := 3) (st := []) (kX7_within  (by omega) (by omega) (by omega)) gX7_earth_X7_within rfl (by decide +kernel) ⟨Nat.le_of_ble_eq_true rfl, Nat.le_of_ble_eq_true rfl⟩ rfl (Nat.le_of_ble_eq_true rfl) dX7_earth_4 rfl W (fun r1 M2 h3 => ?_)
  obtain ⟨z5, rfl, lz5, uz5, WM2, FM2, xx4⟩ := h3
  have EM2 := Fr.tr E (FM2.mono (c2 := [1, 2, 3, 4, 5]) rfl)
  refine A_st (st' := [.int (iI z5)]) rfl ?_
  refine A_ifne C 12 dX7_earth_7 (by decide) (by omega) (fun c6 => ?_) (fun c6 => ?_)
  · skip
    refine A_iload C dX7_earth_12 4 rfl ?_
    refine A_ifne C 39 dX7_earth_14 (by decide) (by omega) (fun c7 => ?_) (fun c7 => ?_)
    · skip
      refine A_aloadn C dX7_earth_39 0 rfl rfl ?_
      refine G_getR C WM2 ha rfl rfl rfl rfl fX7_earth_12 dX7_earth_40 (fun b8 hb8 qb8 => ?_)
      refine A_iloadn C dX7_earth_43 1 rfl rfl ?_
      refine A_iloadn C dX7_earth_44 2 rfl rfl ?_
      refine A_iloadn C dX7_earth_45 3 rfl rfl ?_
      refine A_iload C dX7_earth_46 4 rfl ?_
      refine A_callV C (n := 4) (st := []) (kX2_add qb8 (by omega) (by omega) (by omega) (by omega)) gX7_earth_X2_add rfl (by decide +kernel) ⟨Nat.le_of_ble_eq_true rfl, Nat.le_of_ble_eq_true rfl⟩ qb8 rfl rfl rfl rfl (Nat.le_of_ble_eq_true rfl) dX7_earth_48 rfl WM2 (fun r9 M10 h11 => ?_)
      obtain ⟨z13, rfl, lz13, uz13, WM10, FM10⟩ := h11
      have EM10 := Fr.tr EM2 (FM10.mono (c2 := [1, 2, 3, 4, 5]) rfl)
      refine A_st (st' := [.int (iI z13)]) rfl ?_
      exact A_iret C dX7_earth_51 ⟨z13, rfl, by omega, by omega, WM10, EM10⟩
    · skip
      refine A_iloadn C dX7_earth_17 2 rfl rfl ?_
      refine A_iconst C dX7_earth_18 ?_
      refine A_bipush C dX7_earth_19 (by decide) ?_
      refine A_callS C (n := 3) (st := []) (kX7_within  (by omega) (by omega) (by omega)) gX7_earth_X7_within rfl (by decide +kernel) ⟨Nat.le_of_ble_eq_true rfl, Nat.le_of_ble_eq_true rfl⟩ rfl (Nat.le_of_ble_eq_true rfl) dX7_earth_21 rfl WM2 (fun r14 M15 h16 => ?_)
      obtain ⟨z18, rfl, lz18, uz18, WM15, FM15, xx17⟩ := h16
      have EM15 := Fr.tr EM2 (FM15.mono (c2 := [1, 2, 3, 4, 5]) rfl)
      refine A_st (st' := [.int (iI z18)]) rfl ?_
      refine A_ifeq C 37 dX7_earth_24 (by decide) (by omega) (fun c19 => ?_) (fun c19 => ?_)
      · skip
        refine A_iconst C dX7_earth_37 ?_
        exact A_iret C dX7_earth_38 ⟨(-1), rfl, by omega, by omega, WM15, EM15⟩
      · skip
        refine A_iloadn C dX7_earth_27 3 rfl rfl ?_
        refine A_iconst C dX7_earth_28 ?_
        refine A_bipush C dX7_earth_29 (by decide) ?_
        refine A_callS C (n := 3) (st := []) (kX7_within  (by omega) (by omega) (by omega)) gX7_earth_X7_within rfl (by decide +kernel) ⟨Nat.le_of_ble_eq_true rfl, Nat.le_of_ble_eq_true rfl⟩ rfl (Nat.le_of_ble_eq_true rfl) dX7_earth_31 rfl WM15 (fun r20 M21 h22 => ?_)
        obtain ⟨z24, rfl, lz24, uz24, WM21, FM21, xx23⟩ := h22
        have EM21 := Fr.tr EM15 (FM21.mono (c2 := [1, 2, 3, 4, 5]) rfl)
        refine A_st (st' := [.int (iI z24)]) rfl ?_
        refine A_ifne C 39 dX7_earth_34 (by decide) (by omega) (fun c25 => ?_) (fun c25 => ?_)
        · skip
          refine A_aloadn C dX7_earth_39 0 rfl rfl ?_
          refine G_getR C WM21 ha rfl rfl rfl rfl fX7_earth_12 dX7_earth_40 (fun b26 hb26 qb26 => ?_)
          refine A_iloadn C dX7_earth_43 1 rfl rfl ?_
          refine A_iloadn C dX7_earth_44 2 rfl rfl ?_
          refine A_iloadn C dX7_earth_45 3 rfl rfl ?_
          refine A_iload C dX7_earth_46 4 rfl ?_
          refine A_callV C (n := 4) (st := []) (kX2_add qb26 (by omega) (by omega) (by omega) (by omega)) gX7_earth_X2_add rfl (by decide +kernel) ⟨Nat.le_of_ble_eq_true rfl, Nat.le_of_ble_eq_true rfl⟩ qb26 rfl rfl rfl rfl (Nat.le_of_ble_eq_true rfl) dX7_earth_48 rfl WM21 (fun r27 M28 h29 => ?_)
          obtain ⟨z31, rfl, lz31, uz31, WM28, FM28⟩ := h29
          have EM28 := Fr.tr EM21 (FM28.mono (c2 := [1, 2, 3, 4, 5]) rfl)
          refine A_st (st' := [.int (iI z31)]) rfl ?_
          exact A_iret C dX7_earth_51 ⟨z31, rfl, by omega, by omega, WM28, EM28⟩
        · skip
          refine A_iconst C dX7_earth_37 ?_
          exact A_iret C dX7_earth_38 ⟨(-1), rfl, by omega, by omega, WM21, EM21⟩
  · skip
    refine A_iconst C dX7_earth_10 ?_
    exact A_iret C dX7_earth_11 ⟨(-1), rfl, by omega, by omega, WM2, EM2⟩

theorem uX7_lay_7 : ∀ w ∈ u_ws RX7 TX7 15, w ∈ wsX7_lay := by decide +kernel
theorem uX7_lay_4 : ∀ w ∈ u_ws RX4 TX4 2, w ∈ wsX7_lay := by decide +kernel
theorem uX7_lay_1 : ∀ w ∈ u_ws RX1 TX1 9, w ∈ wsX7_lay := by decide +kernel
theorem fX7_lay_21 : Fl RX7 wsX7_lay 7 1 21 RX7 TX7 15 := ⟨rfl, by decide, uX7_lay_7, by decide +kernel⟩
theorem fX7_lay_12 : Fl RX7 wsX7_lay 7 0 12 RX7 TX7 15 := ⟨rfl, by decide, uX7_lay_7, by decide +kernel⟩
theorem fX7_lay_110 : Fl RX7 wsX7_lay 4 0 110 RX4 TX4 2 := ⟨rfl, by decide, uX7_lay_4, by decide +kernel⟩
theorem fX7_lay_114 : Fl RX7 wsX7_lay 1 1 114 RX1 TX1 9 := ⟨rfl, by decide, uX7_lay_1, by decide +kernel⟩
theorem fX7_lay_80 : Fl RX7 wsX7_lay 7 13 80 RX7 TX7 15 := ⟨rfl, by decide, uX7_lay_7, by decide +kernel⟩
set_option maxHeartbeats 4000000 in
theorem kX7_lay  {a : Nat} (ha : kd a = 0) {x1 : Int} {x2 : Int} {x3 : Int} (hx1 : (-2147483648 : Int) ≤ x1 ∧ x1 ≤ 2147483647) (hx2 : (-2147483648 : Int) ≤ x2 ∧ x2 ≤ 2147483647) (hx3 : (-2147483648 : Int) ≤ x3 ∧ x3 ≤ 2147483647) : Ct yX7_lay wsX7_lay 3 [.ref a, .int (iI x1), .int (iI x2), .int (iI x3)] (fun M => WF M) (fun M r M' => ∃ z : Int, r = some (.int (iI z)) ∧ (-2147483648 : Int) ≤ z ∧ z ≤ 2147483647 ∧ WF M' ∧ Fr [0, 8, 9] M M') := by
  refine Ct_of (cc := cX7_lay) (nL := 5) (rt := (some .int)) (own := RX7) rfl (by decide) rfl (Nat.le_of_ble_eq_true rfl) ?_
  intro p l e s m args below meth c G M0 C W
  have E : Fr [0, 8, 9] M0 M0 := Fr.rf
  refine A_lv (lv' := [(0, .ref a), (1, .int (iI x1)), (2, .int (iI x2)), (3, .int (iI x3))]) rfl ?_
  refine A_aloadn C dX7_lay_0 0 rfl rfl ?_
  refine G_getU C W ha rfl rfl rfl rfl uq_6 fX7_lay_21 dX7_lay_1 ?_
  refine A_iloadn C dX7_lay_4 1 rfl rfl ?_
  refine A_callV C (n := 1) (st := []) (kX4_has (Or.inl kd_6) (by omega)) gX7_lay_X4_has rfl (by decide +kernel) ⟨Nat.le_of_ble_eq_true rfl, Nat.le_of_ble_eq_true rfl⟩ kd_6 rfl rfl rfl rfl (Nat.le_of_ble_eq_true rfl) dX7_lay_5 rfl W (fun r1 M2 h3 => ?_)
  obtain ⟨z5, rfl, lz5, uz5, WM2, FM2, xx4⟩ := h3
  have EM2 := Fr.tr E (FM2.mono (c2 := [0, 8, 9]) rfl)
  refine A_st (st' := [.int (iI z5)]) rfl ?_
  refine A_ifeq C 22 dX7_lay_8 (by decide) (by omega) (fun c6 => ?_) (fun c6 => ?_)
  · skip
    refine A_iconst C dX7_lay_22 ?_
    exact A_iret C dX7_lay_23 ⟨(-1), rfl, by omega, by omega, WM2, EM2⟩
  · skip
    refine A_aloadn C dX7_lay_11 0 rfl rfl ?_
    refine G_getR C WM2 ha rfl rfl rfl rfl fX7_lay_12 dX7_lay_12 (fun b7 hb7 qb7 => ?_)
    refine A_iloadn C dX7_lay_15 2 rfl rfl ?_
    refine A_callV C (n := 1) (st := []) (kX2_has qb7 (by omega)) gX7_lay_X2_has rfl (by decide +kernel) ⟨Nat.le_of_ble_eq_true rfl, Nat.le_of_ble_eq_true rfl⟩ qb7 rfl rfl rfl rfl (Nat.le_of_ble_eq_true rfl) dX7_lay_16 rfl WM2 (fun r8 M9 h10 => ?_)
    obtain ⟨z12, rfl, lz12, uz12, WM9, FM9, xx11⟩ := h10
    have EM9 := Fr.tr EM2 (FM9.mono (c2 := [0, 8, 9]) rfl)
    refine A_st (st' := [.int (iI z12)]) rfl ?_
    refine A_ifne C 24 dX7_lay_19 (by decide) (by omega) (fun c13 => ?_) (fun c13 => ?_)
    · skip
      refine A_aloadn C dX7_lay_24 0 rfl rfl ?_
      refine G_getU C WM9 ha rfl rfl rfl rfl uq_6 fX7_lay_21 dX7_lay_25 ?_
      refine G_getR C WM9 kd_6 rfl rfl rfl rfl fX7_lay_110 dX7_lay_28 (fun b14 hb14 qb14 => ?_)
      refine A_iloadn C dX7_lay_31 1 rfl rfl ?_
      refine G_aald C WM9 qb14 (by omega) (by omega) dX7_lay_32 (fun b15 hb15 qb15 => ?_)
      refine A_astore (lv' := [(4, .ref b15), (0, .ref a), (1, .int (iI x1)), (2, .int (iI x2)), (3, .int (iI x3))]) C dX7_lay_33 (by decide) rfl ?_
      refine A_iloadn C dX7_lay_35 4 rfl rfl ?_
      refine A_iconst C dX7_lay_36 ?_
      refine A_bipush C dX7_lay_37 (by decide) ?_
      refine A_aload C dX7_lay_39 0 rfl ?_
      refine G_getI C WM9 qb15 rfl rfl rfl rfl rfl fX7_lay_114 rfl dX7_lay_41 (fun z16 ez16 lz16 uz16 => ?_)
      refine A_isub C dX7_lay_44 ?_
      refine A_callS C (n := 3) (st := []) (kX7_within  (by omega) (by omega) (by omega)) gX7_lay_X7_within rfl (by decide +kernel) ⟨Nat.le_of_ble_eq_true rfl, Nat.le_of_ble_eq_true rfl⟩ rfl (Nat.le_of_ble_eq_true rfl) dX7_lay_45 rfl WM9 (fun r17 M18 h19 => ?_)
      obtain ⟨z21, rfl, lz21, uz21, WM18, FM18, xx20⟩ := h19
      have EM18 := Fr.tr EM9 (FM18.mono (c2 := [0, 8, 9]) rfl)
      refine A_st (st' := [.int (iI z21)]) rfl ?_
      refine A_ifne C 53 dX7_lay_48 (by decide) (by omega) (fun c22 => ?_) (fun c22 => ?_)
      · skip
        refine A_aload C dX7_lay_53 0 rfl ?_
        refine A_iloadn C dX7_lay_55 3 rfl rfl ?_
        refine A_iloadn C dX7_lay_56 4 rfl rfl ?_
        refine A_callV C (n := 2) (st := []) (kX1_pile qb15 (by omega) (by omega)) gX7_lay_X1_pile rfl (by decide +kernel) ⟨Nat.le_of_ble_eq_true rfl, Nat.le_of_ble_eq_true rfl⟩ qb15 rfl rfl rfl rfl (Nat.le_of_ble_eq_true rfl) dX7_lay_57 rfl WM18 (fun r23 M24 h25 => ?_)
        obtain ⟨rfl, WM24, FM24⟩ := h25
        have EM24 := Fr.tr EM18 (FM24.mono (c2 := [0, 8, 9]) rfl)
        refine A_st (st' := []) rfl ?_
        refine A_aloadn C dX7_lay_60 1 rfl rfl ?_
        refine A_iconst C dX7_lay_61 ?_
        refine G_putI C WM24 EM24 ha rfl rfl rfl rfl rfl fX7_lay_80 ⟨tyX7_ok, nmX7, rfl, by decide⟩ (Or.inr ⟨rfl, by omega⟩) rfl rfl (by omega) (by omega) dX7_lay_62 (fun M27 eM27 WM27 EM27 => ?_)
        refine A_aload C dX7_lay_65 0 rfl ?_
        refine G_getI C WM27 qb15 rfl rfl rfl rfl rfl fX7_lay_114 rfl dX7_lay_67 (fun z28 ez28 lz28 uz28 => ?_)
        exact A_iret C dX7_lay_70 ⟨z28, rfl, by omega, by omega, WM27, EM27⟩
      · skip
        refine A_iconst C dX7_lay_51 ?_
        exact A_iret C dX7_lay_52 ⟨(-1), rfl, by omega, by omega, WM18, EM18⟩
    · skip
      refine A_iconst C dX7_lay_22 ?_
      exact A_iret C dX7_lay_23 ⟨(-1), rfl, by omega, by omega, WM9, EM9⟩

theorem uX7_set_7 : ∀ w ∈ u_ws RX7 TX7 15, w ∈ wsX7_set := by decide +kernel
theorem uX7_set_4 : ∀ w ∈ u_ws RX4 TX4 2, w ∈ wsX7_set := by decide +kernel
theorem fX7_set_21 : Fl RX7 wsX7_set 7 1 21 RX7 TX7 15 := ⟨rfl, by decide, uX7_set_7, by decide +kernel⟩
theorem fX7_set_110 : Fl RX7 wsX7_set 4 0 110 RX4 TX4 2 := ⟨rfl, by decide, uX7_set_4, by decide +kernel⟩
theorem fX7_set_80 : Fl RX7 wsX7_set 7 13 80 RX7 TX7 15 := ⟨rfl, by decide, uX7_set_7, by decide +kernel⟩
set_option maxHeartbeats 4000000 in
theorem kX7_set  {a : Nat} (ha : kd a = 0) {x1 : Int} {x2 : Int} {x3 : Int} (hx1 : (-2147483648 : Int) ≤ x1 ∧ x1 ≤ 2147483647) (hx2 : (-2147483648 : Int) ≤ x2 ∧ x2 ≤ 2147483647) (hx3 : (-2147483648 : Int) ≤ x3 ∧ x3 ≤ 2147483647) : Ct yX7_set wsX7_set 3 [.ref a, .int (iI x1), .int (iI x2), .int (iI x3)] (fun M => WF M) (fun M r M' => ∃ z : Int, r = some (.int (iI z)) ∧ (0 : Int) ≤ z ∧ z ≤ 1 ∧ WF M' ∧ Fr [0, 8] M M' ∧ (z = 1 ↔ (0 ≤ x1 ∧ x1 < M.1 6 1 ∧ 0 ≤ x2 ∧ x2 ≤ 2 ∧ 0 ≤ x3 ∧ x3 ≤ 999 ∧ (x2 = 0 → x3 ≤ 24)))) := by
  refine Ct_of (cc := cX7_set) (nL := 4) (rt := (some .boolean)) (own := RX7) rfl (by decide) rfl (Nat.le_of_ble_eq_true rfl) ?_
  intro p l e s m args below meth c G M0 C W
  have E : Fr [0, 8] M0 M0 := Fr.rf
  refine A_lv (lv' := [(0, .ref a), (1, .int (iI x1)), (2, .int (iI x2)), (3, .int (iI x3))]) rfl ?_
  refine A_aloadn C dX7_set_0 0 rfl rfl ?_
  refine G_getU C W ha rfl rfl rfl rfl uq_6 fX7_set_21 dX7_set_1 ?_
  refine A_iloadn C dX7_set_4 1 rfl rfl ?_
  refine A_callV C (n := 1) (st := []) (kX4_has (Or.inl kd_6) (by omega)) gX7_set_X4_has rfl (by decide +kernel) ⟨Nat.le_of_ble_eq_true rfl, Nat.le_of_ble_eq_true rfl⟩ kd_6 rfl rfl rfl rfl (Nat.le_of_ble_eq_true rfl) dX7_set_5 rfl W (fun r1 M2 h3 => ?_)
  obtain ⟨z5, rfl, lz5, uz5, WM2, FM2, xx4⟩ := h3
  have EM2 := Fr.tr E (FM2.mono (c2 := [0, 8]) rfl)
  have t_M2_6_1 : M2.1 6 1 = _ := congrFun (FM2 6 (by rw [kd_6]; rfl)).1 1
  have t_M2_94_0 : M2.1 94 0 = _ := congrFun (FM2 94 (by rw [kd_94]; rfl)).1 0
  have t_M2_101_1 : M2.1 101 1 = _ := congrFun (FM2 101 (by rw [kd_101]; rfl)).1 1
  have t_M2_101_2 : M2.1 101 2 = _ := congrFun (FM2 101 (by rw [kd_101]; rfl)).1 2
  refine A_st (st' := [.int (iI z5)]) rfl ?_
  refine A_ifeq C 20 dX7_set_8 (by decide) (by omega) (fun c6 => ?_) (fun c6 => ?_)
  · skip
    refine A_iconst C dX7_set_20 ?_
    exact A_zret C (by omega) dX7_set_21 ⟨0, rfl, by omega, by omega, WM2, EM2, by omega⟩
  · skip
    refine A_iloadn C dX7_set_11 2 rfl rfl ?_
    refine A_iconst C dX7_set_12 ?_
    refine A_iconst C dX7_set_13 ?_
    refine A_callS C (n := 3) (st := []) (kX7_within  (by omega) (by omega) (by omega)) gX7_set_X7_within rfl (by decide +kernel) ⟨Nat.le_of_ble_eq_true rfl, Nat.le_of_ble_eq_true rfl⟩ rfl (Nat.le_of_ble_eq_true rfl) dX7_set_14 rfl WM2 (fun r7 M8 h9 => ?_)
    obtain ⟨z11, rfl, lz11, uz11, WM8, FM8, xx10⟩ := h9
    have EM8 := Fr.tr EM2 (FM8.mono (c2 := [0, 8]) rfl)
    have t_M8_6_1 : M8.1 6 1 = _ := congrFun (FM8 6 (by rw [kd_6]; rfl)).1 1
    have t_M8_94_0 : M8.1 94 0 = _ := congrFun (FM8 94 (by rw [kd_94]; rfl)).1 0
    have t_M8_101_1 : M8.1 101 1 = _ := congrFun (FM8 101 (by rw [kd_101]; rfl)).1 1
    have t_M8_101_2 : M8.1 101 2 = _ := congrFun (FM8 101 (by rw [kd_101]; rfl)).1 2
    refine A_st (st' := [.int (iI z11)]) rfl ?_
    refine A_ifne C 22 dX7_set_17 (by decide) (by omega) (fun c12 => ?_) (fun c12 => ?_)
    · skip
      refine A_iloadn C dX7_set_22 3 rfl rfl ?_
      refine A_iconst C dX7_set_23 ?_
      refine A_iloadn C dX7_set_24 2 rfl rfl ?_
      refine A_ifne C 33 dX7_set_25 (by decide) (by omega) (fun c13 => ?_) (fun c13 => ?_)
      · skip
        refine A_sipush C dX7_set_33 (by decide) ?_
        refine A_callS C (n := 3) (st := []) (kX7_within  (by omega) (by omega) (by omega)) gX7_set_X7_within rfl (by decide +kernel) ⟨Nat.le_of_ble_eq_true rfl, Nat.le_of_ble_eq_true rfl⟩ rfl (Nat.le_of_ble_eq_true rfl) dX7_set_36 rfl WM8 (fun r14 M15 h16 => ?_)
        obtain ⟨z18, rfl, lz18, uz18, WM15, FM15, xx17⟩ := h16
        have EM15 := Fr.tr EM8 (FM15.mono (c2 := [0, 8]) rfl)
        have t_M15_6_1 : M15.1 6 1 = _ := congrFun (FM15 6 (by rw [kd_6]; rfl)).1 1
        have t_M15_94_0 : M15.1 94 0 = _ := congrFun (FM15 94 (by rw [kd_94]; rfl)).1 0
        have t_M15_101_1 : M15.1 101 1 = _ := congrFun (FM15 101 (by rw [kd_101]; rfl)).1 1
        have t_M15_101_2 : M15.1 101 2 = _ := congrFun (FM15 101 (by rw [kd_101]; rfl)).1 2
        refine A_st (st' := [.int (iI z18)]) rfl ?_
        refine A_ifne C 44 dX7_set_39 (by decide) (by omega) (fun c19 => ?_) (fun c19 => ?_)
        · skip
          refine A_aloadn C dX7_set_44 0 rfl rfl ?_
          refine G_getU C WM15 ha rfl rfl rfl rfl uq_6 fX7_set_21 dX7_set_45 ?_
          refine G_getR C WM15 kd_6 rfl rfl rfl rfl fX7_set_110 dX7_set_48 (fun b20 hb20 qb20 => ?_)
          refine A_iloadn C dX7_set_51 1 rfl rfl ?_
          refine G_aald C WM15 qb20 (by omega) (by omega) dX7_set_52 (fun b21 hb21 qb21 => ?_)
          refine A_iloadn C dX7_set_53 2 rfl rfl ?_
          refine A_iloadn C dX7_set_54 3 rfl rfl ?_
          refine A_callV C (n := 2) (st := []) (kX1_put qb21 (by omega) (by omega) (by omega)) gX7_set_X1_put rfl (by decide +kernel) ⟨Nat.le_of_ble_eq_true rfl, Nat.le_of_ble_eq_true rfl⟩ qb21 rfl rfl rfl rfl (Nat.le_of_ble_eq_true rfl) dX7_set_55 rfl WM15 (fun r22 M23 h24 => ?_)
          obtain ⟨rfl, WM23, FM23⟩ := h24
          have EM23 := Fr.tr EM15 (FM23.mono (c2 := [0, 8]) rfl)
          have t_M23_6_1 : M23.1 6 1 = _ := congrFun (FM23 6 (by rw [kd_6]; rfl)).1 1
          have t_M23_94_0 : M23.1 94 0 = _ := congrFun (FM23 94 (by rw [kd_94]; rfl)).1 0
          have t_M23_101_1 : M23.1 101 1 = _ := congrFun (FM23 101 (by rw [kd_101]; rfl)).1 1
          have t_M23_101_2 : M23.1 101 2 = _ := congrFun (FM23 101 (by rw [kd_101]; rfl)).1 2
          refine A_st (st' := []) rfl ?_
          refine A_aloadn C dX7_set_58 0 rfl rfl ?_
          refine A_iconst C dX7_set_59 ?_
          refine G_putI C WM23 EM23 ha rfl rfl rfl rfl rfl fX7_set_80 ⟨tyX7_ok, nmX7, rfl, by decide⟩ (Or.inr ⟨rfl, by omega⟩) rfl rfl (by omega) (by omega) dX7_set_60 (fun M26 eM26 WM26 EM26 => ?_)
          have t_M26_6_1 : M26.1 6 1 = M23.1 6 1 := by rw [eM26]; exact sI_kd kd_6 ha rfl
          have t_M26_94_0 : M26.1 94 0 = M23.1 94 0 := by rw [eM26]; exact sI_kd kd_94 ha rfl
          have t_M26_101_1 : M26.1 101 1 = M23.1 101 1 := by rw [eM26]; exact sI_kd kd_101 ha rfl
          have t_M26_101_2 : M26.1 101 2 = M23.1 101 2 := by rw [eM26]; exact sI_kd kd_101 ha rfl
          refine A_iconst C dX7_set_63 ?_
          exact A_zret C (by omega) dX7_set_64 ⟨1, rfl, by omega, by omega, WM26, EM26, by omega⟩
        · skip
          refine A_iconst C dX7_set_42 ?_
          exact A_zret C (by omega) dX7_set_43 ⟨0, rfl, by omega, by omega, WM15, EM15, by omega⟩
      · skip
        refine A_bipush C dX7_set_28 (by decide) ?_
        refine A_goto C 36 dX7_set_30 (by decide) ?_
        refine A_callS C (n := 3) (st := []) (kX7_within  (by omega) (by omega) (by omega)) gX7_set_X7_within rfl (by decide +kernel) ⟨Nat.le_of_ble_eq_true rfl, Nat.le_of_ble_eq_true rfl⟩ rfl (Nat.le_of_ble_eq_true rfl) dX7_set_36 rfl WM8 (fun r27 M28 h29 => ?_)
        obtain ⟨z31, rfl, lz31, uz31, WM28, FM28, xx30⟩ := h29
        have EM28 := Fr.tr EM8 (FM28.mono (c2 := [0, 8]) rfl)
        have t_M28_6_1 : M28.1 6 1 = _ := congrFun (FM28 6 (by rw [kd_6]; rfl)).1 1
        have t_M28_94_0 : M28.1 94 0 = _ := congrFun (FM28 94 (by rw [kd_94]; rfl)).1 0
        have t_M28_101_1 : M28.1 101 1 = _ := congrFun (FM28 101 (by rw [kd_101]; rfl)).1 1
        have t_M28_101_2 : M28.1 101 2 = _ := congrFun (FM28 101 (by rw [kd_101]; rfl)).1 2
        refine A_st (st' := [.int (iI z31)]) rfl ?_
        refine A_ifne C 44 dX7_set_39 (by decide) (by omega) (fun c32 => ?_) (fun c32 => ?_)
        · skip
          refine A_aloadn C dX7_set_44 0 rfl rfl ?_
          refine G_getU C WM28 ha rfl rfl rfl rfl uq_6 fX7_set_21 dX7_set_45 ?_
          refine G_getR C WM28 kd_6 rfl rfl rfl rfl fX7_set_110 dX7_set_48 (fun b33 hb33 qb33 => ?_)
          refine A_iloadn C dX7_set_51 1 rfl rfl ?_
          refine G_aald C WM28 qb33 (by omega) (by omega) dX7_set_52 (fun b34 hb34 qb34 => ?_)
          refine A_iloadn C dX7_set_53 2 rfl rfl ?_
          refine A_iloadn C dX7_set_54 3 rfl rfl ?_
          refine A_callV C (n := 2) (st := []) (kX1_put qb34 (by omega) (by omega) (by omega)) gX7_set_X1_put rfl (by decide +kernel) ⟨Nat.le_of_ble_eq_true rfl, Nat.le_of_ble_eq_true rfl⟩ qb34 rfl rfl rfl rfl (Nat.le_of_ble_eq_true rfl) dX7_set_55 rfl WM28 (fun r35 M36 h37 => ?_)
          obtain ⟨rfl, WM36, FM36⟩ := h37
          have EM36 := Fr.tr EM28 (FM36.mono (c2 := [0, 8]) rfl)
          have t_M36_6_1 : M36.1 6 1 = _ := congrFun (FM36 6 (by rw [kd_6]; rfl)).1 1
          have t_M36_94_0 : M36.1 94 0 = _ := congrFun (FM36 94 (by rw [kd_94]; rfl)).1 0
          have t_M36_101_1 : M36.1 101 1 = _ := congrFun (FM36 101 (by rw [kd_101]; rfl)).1 1
          have t_M36_101_2 : M36.1 101 2 = _ := congrFun (FM36 101 (by rw [kd_101]; rfl)).1 2
          refine A_st (st' := []) rfl ?_
          refine A_aloadn C dX7_set_58 0 rfl rfl ?_
          refine A_iconst C dX7_set_59 ?_
          refine G_putI C WM36 EM36 ha rfl rfl rfl rfl rfl fX7_set_80 ⟨tyX7_ok, nmX7, rfl, by decide⟩ (Or.inr ⟨rfl, by omega⟩) rfl rfl (by omega) (by omega) dX7_set_60 (fun M39 eM39 WM39 EM39 => ?_)
          have t_M39_6_1 : M39.1 6 1 = M36.1 6 1 := by rw [eM39]; exact sI_kd kd_6 ha rfl
          have t_M39_94_0 : M39.1 94 0 = M36.1 94 0 := by rw [eM39]; exact sI_kd kd_94 ha rfl
          have t_M39_101_1 : M39.1 101 1 = M36.1 101 1 := by rw [eM39]; exact sI_kd kd_101 ha rfl
          have t_M39_101_2 : M39.1 101 2 = M36.1 101 2 := by rw [eM39]; exact sI_kd kd_101 ha rfl
          refine A_iconst C dX7_set_63 ?_
          exact A_zret C (by omega) dX7_set_64 ⟨1, rfl, by omega, by omega, WM39, EM39, by omega⟩
        · skip
          refine A_iconst C dX7_set_42 ?_
          exact A_zret C (by omega) dX7_set_43 ⟨0, rfl, by omega, by omega, WM28, EM28, by omega⟩
    · skip
      refine A_iconst C dX7_set_20 ?_
      exact A_zret C (by omega) dX7_set_21 ⟨0, rfl, by omega, by omega, WM8, EM8, by omega⟩

theorem uX7_cell_7 : ∀ w ∈ u_ws RX7 TX7 15, w ∈ wsX7_cell := by decide +kernel
theorem uX7_cell_4 : ∀ w ∈ u_ws RX4 TX4 2, w ∈ wsX7_cell := by decide +kernel
theorem uX7_cell_1 : ∀ w ∈ u_ws RX1 TX1 9, w ∈ wsX7_cell := by decide +kernel
theorem fX7_cell_21 : Fl RX7 wsX7_cell 7 1 21 RX7 TX7 15 := ⟨rfl, by decide, uX7_cell_7, by decide +kernel⟩
theorem fX7_cell_110 : Fl RX7 wsX7_cell 4 0 110 RX4 TX4 2 := ⟨rfl, by decide, uX7_cell_4, by decide +kernel⟩
theorem fX7_cell_114 : Fl RX7 wsX7_cell 1 1 114 RX1 TX1 9 := ⟨rfl, by decide, uX7_cell_1, by decide +kernel⟩
theorem fX7_cell_147 : Fl RX7 wsX7_cell 1 0 147 RX1 TX1 9 := ⟨rfl, by decide, uX7_cell_1, by decide +kernel⟩
set_option maxHeartbeats 4000000 in
theorem kX7_cell  {a : Nat} (ha : kd a = 0) {x1 : Int} {x2 : Int} (hx1 : (-2147483648 : Int) ≤ x1 ∧ x1 ≤ 2147483647) (hx2 : (-2147483648 : Int) ≤ x2 ∧ x2 ≤ 2147483647) : Ct yX7_cell wsX7_cell 3 [.ref a, .int (iI x1), .int (iI x2)] (fun M => WF M) (fun M r M' => ∃ z : Int, r = some (.int (iI z)) ∧ (-2147483648 : Int) ≤ z ∧ z ≤ 2147483647 ∧ WF M' ∧ Fr [] M M') := by
  refine Ct_of (cc := cX7_cell) (nL := 4) (rt := (some .int)) (own := RX7) rfl (by decide) rfl (Nat.le_of_ble_eq_true rfl) ?_
  intro p l e s m args below meth c G M0 C W
  have E : Fr [] M0 M0 := Fr.rf
  refine A_lv (lv' := [(0, .ref a), (1, .int (iI x1)), (2, .int (iI x2))]) rfl ?_
  refine A_aloadn C dX7_cell_0 0 rfl rfl ?_
  refine G_getU C W ha rfl rfl rfl rfl uq_6 fX7_cell_21 dX7_cell_1 ?_
  refine A_iloadn C dX7_cell_4 1 rfl rfl ?_
  refine A_callV C (n := 1) (st := []) (kX4_has (Or.inl kd_6) (by omega)) gX7_cell_X4_has rfl (by decide +kernel) ⟨Nat.le_of_ble_eq_true rfl, Nat.le_of_ble_eq_true rfl⟩ kd_6 rfl rfl rfl rfl (Nat.le_of_ble_eq_true rfl) dX7_cell_5 rfl W (fun r1 M2 h3 => ?_)
  obtain ⟨z5, rfl, lz5, uz5, WM2, FM2, xx4⟩ := h3
  have EM2 := Fr.tr E (FM2.mono (c2 := []) rfl)
  refine A_st (st' := [.int (iI z5)]) rfl ?_
  refine A_ifne C 13 dX7_cell_8 (by decide) (by omega) (fun c6 => ?_) (fun c6 => ?_)
  · skip
    refine A_aloadn C dX7_cell_13 0 rfl rfl ?_
    refine G_getU C WM2 ha rfl rfl rfl rfl uq_6 fX7_cell_21 dX7_cell_14 ?_
    refine G_getR C WM2 kd_6 rfl rfl rfl rfl fX7_cell_110 dX7_cell_17 (fun b7 hb7 qb7 => ?_)
    refine A_iloadn C dX7_cell_20 1 rfl rfl ?_
    refine G_aald C WM2 qb7 (by omega) (by omega) dX7_cell_21 (fun b8 hb8 qb8 => ?_)
    refine A_astoren (lv' := [(3, .ref b8), (0, .ref a), (1, .int (iI x1)), (2, .int (iI x2))]) C dX7_cell_22 rfl (by decide) rfl ?_
    refine A_iloadn C dX7_cell_23 3 rfl rfl ?_
    refine A_iconst C dX7_cell_24 ?_
    refine A_aloadn C dX7_cell_25 0 rfl rfl ?_
    refine G_getI C WM2 qb8 rfl rfl rfl rfl rfl fX7_cell_114 rfl dX7_cell_26 (fun z9 ez9 lz9 uz9 => ?_)
    refine A_iconst C dX7_cell_29 ?_
    refine A_isub C dX7_cell_30 ?_
    refine A_callS C (n := 3) (st := []) (kX7_within  (by omega) (by omega) (by omega)) gX7_cell_X7_within rfl (by decide +kernel) ⟨Nat.le_of_ble_eq_true rfl, Nat.le_of_ble_eq_true rfl⟩ rfl (Nat.le_of_ble_eq_true rfl) dX7_cell_31 rfl WM2 (fun r10 M11 h12 => ?_)
    obtain ⟨z14, rfl, lz14, uz14, WM11, FM11, xx13⟩ := h12
    have EM11 := Fr.tr EM2 (FM11.mono (c2 := []) rfl)
    refine A_st (st' := [.int (iI z14)]) rfl ?_
    refine A_ifeq C 46 dX7_cell_34 (by decide) (by omega) (fun c15 => ?_) (fun c15 => ?_)
    · skip
      refine A_iconst C dX7_cell_46 ?_
      exact A_iret C dX7_cell_47 ⟨(-1), rfl, by omega, by omega, WM11, EM11⟩
    · skip
      refine A_aloadn C dX7_cell_37 0 rfl rfl ?_
      refine G_getR C WM11 qb8 rfl rfl rfl rfl fX7_cell_147 dX7_cell_38 (fun b16 hb16 qb16 => ?_)
      refine A_iloadn C dX7_cell_41 3 rfl rfl ?_
      refine G_iald C WM11 qb16 rfl rfl (by decide) (fun _ => rfl) (by omega) (by omega) dX7_cell_42 (fun z17 ez17 lz17 uz17 => ?_)
      refine A_goto C 47 dX7_cell_43 (by decide) ?_
      exact A_iret C dX7_cell_47 ⟨z17, rfl, by omega, by omega, WM11, EM11⟩
  · skip
    refine A_iconst C dX7_cell_11 ?_
    exact A_iret C dX7_cell_12 ⟨(-1), rfl, by omega, by omega, WM2, EM2⟩

theorem uX7_begin_7 : ∀ w ∈ u_ws RX7 TX7 15, w ∈ wsX7_begin := by decide +kernel
theorem fX7_begin_21 : Fl RX7 wsX7_begin 7 1 21 RX7 TX7 15 := ⟨rfl, by decide, uX7_begin_7, by decide +kernel⟩
theorem fX7_begin_48 : Fl RX7 wsX7_begin 7 5 48 RX7 TX7 15 := ⟨rfl, by decide, uX7_begin_7, by decide +kernel⟩
set_option maxHeartbeats 4000000 in
theorem kX7_begin  {a : Nat} (ha : kd a = 0) {x1 : Int} {x2 : Int} (hx1 : (-2147483648 : Int) ≤ x1 ∧ x1 ≤ 2147483647) (hx2 : (-2147483648 : Int) ≤ x2 ∧ x2 ≤ 2147483647) : Ct yX7_begin wsX7_begin 3 [.ref a, .int (iI x1), .int (iI x2)] (fun M => WF M) (fun M r M' => ∃ z : Int, r = some (.int (iI z)) ∧ (0 : Int) ≤ z ∧ z ≤ 1 ∧ WF M' ∧ Fr [20, 22] M M' ∧ ((z = 1 ↔ (0 ≤ x1 ∧ x1 < M.1 6 1 ∧ 0 ≤ x2 ∧ x2 ≤ 24)) ∧ (z = 1 → (M'.1 101 1 = x1 ∧ M'.1 101 2 = 1)) ∧ (z = 0 → M'.1 101 2 = 0))) := by
  refine Ct_of (cc := cX7_begin) (nL := 3) (rt := (some .boolean)) (own := RX7) rfl (by decide) rfl (Nat.le_of_ble_eq_true rfl) ?_
  intro p l e s m args below meth c G M0 C W
  have E : Fr [20, 22] M0 M0 := Fr.rf
  refine A_lv (lv' := [(0, .ref a), (1, .int (iI x1)), (2, .int (iI x2))]) rfl ?_
  refine A_aloadn C dX7_begin_0 0 rfl rfl ?_
  refine G_getU C W ha rfl rfl rfl rfl uq_6 fX7_begin_21 dX7_begin_1 ?_
  refine A_iloadn C dX7_begin_4 1 rfl rfl ?_
  refine A_callV C (n := 1) (st := []) (kX4_has (Or.inl kd_6) (by omega)) gX7_begin_X4_has rfl (by decide +kernel) ⟨Nat.le_of_ble_eq_true rfl, Nat.le_of_ble_eq_true rfl⟩ kd_6 rfl rfl rfl rfl (Nat.le_of_ble_eq_true rfl) dX7_begin_5 rfl W (fun r1 M2 h3 => ?_)
  obtain ⟨z5, rfl, lz5, uz5, WM2, FM2, xx4⟩ := h3
  have EM2 := Fr.tr E (FM2.mono (c2 := [20, 22]) rfl)
  have t_M2_6_1 : M2.1 6 1 = _ := congrFun (FM2 6 (by rw [kd_6]; rfl)).1 1
  have t_M2_94_0 : M2.1 94 0 = _ := congrFun (FM2 94 (by rw [kd_94]; rfl)).1 0
  have t_M2_101_1 : M2.1 101 1 = _ := congrFun (FM2 101 (by rw [kd_101]; rfl)).1 1
  have t_M2_101_2 : M2.1 101 2 = _ := congrFun (FM2 101 (by rw [kd_101]; rfl)).1 2
  refine A_st (st' := [.int (iI z5)]) rfl ?_
  refine A_ifeq C 21 dX7_begin_8 (by decide) (by omega) (fun c6 => ?_) (fun c6 => ?_)
  · skip
    refine A_aloadn C dX7_begin_21 0 rfl rfl ?_
    refine G_getU C WM2 ha rfl rfl rfl rfl uq_20 fX7_begin_48 dX7_begin_22 ?_
    refine A_callV C (n := 0) (st := []) (kX5_drop kd_101) gX7_begin_X5_drop rfl (by decide +kernel) ⟨Nat.le_of_ble_eq_true rfl, Nat.le_of_ble_eq_true rfl⟩ kd_101 rfl rfl rfl rfl (Nat.le_of_ble_eq_true rfl) dX7_begin_25 rfl WM2 (fun r7 M8 h9 => ?_)
    obtain ⟨rfl, WM8, FM8, xx10⟩ := h9
    have EM8 := Fr.tr EM2 (FM8.mono (c2 := [20, 22]) rfl)
    have t_M8_6_1 : M8.1 6 1 = _ := congrFun (FM8 6 (by rw [kd_6]; rfl)).1 1
    have t_M8_94_0 : M8.1 94 0 = _ := congrFun (FM8 94 (by rw [kd_94]; rfl)).1 0
    refine A_st (st' := []) rfl ?_
    refine A_iconst C dX7_begin_28 ?_
    exact A_zret C (by omega) dX7_begin_29 ⟨0, rfl, by omega, by omega, WM8, EM8, by omega⟩
  · skip
    refine A_iloadn C dX7_begin_11 2 rfl rfl ?_
    refine A_iconst C dX7_begin_12 ?_
    refine A_bipush C dX7_begin_13 (by decide) ?_
    refine A_callS C (n := 3) (st := []) (kX7_within  (by omega) (by omega) (by omega)) gX7_begin_X7_within rfl (by decide +kernel) ⟨Nat.le_of_ble_eq_true rfl, Nat.le_of_ble_eq_true rfl⟩ rfl (Nat.le_of_ble_eq_true rfl) dX7_begin_15 rfl WM2 (fun r11 M12 h13 => ?_)
    obtain ⟨z15, rfl, lz15, uz15, WM12, FM12, xx14⟩ := h13
    have EM12 := Fr.tr EM2 (FM12.mono (c2 := [20, 22]) rfl)
    have t_M12_6_1 : M12.1 6 1 = _ := congrFun (FM12 6 (by rw [kd_6]; rfl)).1 1
    have t_M12_94_0 : M12.1 94 0 = _ := congrFun (FM12 94 (by rw [kd_94]; rfl)).1 0
    have t_M12_101_1 : M12.1 101 1 = _ := congrFun (FM12 101 (by rw [kd_101]; rfl)).1 1
    have t_M12_101_2 : M12.1 101 2 = _ := congrFun (FM12 101 (by rw [kd_101]; rfl)).1 2
    refine A_st (st' := [.int (iI z15)]) rfl ?_
    refine A_ifne C 30 dX7_begin_18 (by decide) (by omega) (fun c16 => ?_) (fun c16 => ?_)
    · skip
      refine A_aloadn C dX7_begin_30 0 rfl rfl ?_
      refine G_getU C WM12 ha rfl rfl rfl rfl uq_20 fX7_begin_48 dX7_begin_31 ?_
      refine A_iloadn C dX7_begin_34 1 rfl rfl ?_
      refine A_iloadn C dX7_begin_35 2 rfl rfl ?_
      refine A_callV C (n := 2) (st := []) (kX5_startAt_20 kd_101 (by omega) (by omega)) gX7_begin_X5_startAt rfl (by decide +kernel) ⟨Nat.le_of_ble_eq_true rfl, Nat.le_of_ble_eq_true rfl⟩ kd_101 rfl rfl rfl rfl (Nat.le_of_ble_eq_true rfl) dX7_begin_36 rfl WM12 (fun r17 M18 h19 => ?_)
      obtain ⟨rfl, WM18, FM18, xx20⟩ := h19
      have EM18 := Fr.tr EM12 (FM18.mono (c2 := [20, 22]) rfl)
      have t_M18_6_1 : M18.1 6 1 = _ := congrFun (FM18 6 (by rw [kd_6]; rfl)).1 1
      have t_M18_94_0 : M18.1 94 0 = _ := congrFun (FM18 94 (by rw [kd_94]; rfl)).1 0
      refine A_st (st' := []) rfl ?_
      refine A_iconst C dX7_begin_39 ?_
      exact A_zret C (by omega) dX7_begin_40 ⟨1, rfl, by omega, by omega, WM18, EM18, by omega⟩
    · skip
      refine A_aloadn C dX7_begin_21 0 rfl rfl ?_
      refine G_getU C WM12 ha rfl rfl rfl rfl uq_20 fX7_begin_48 dX7_begin_22 ?_
      refine A_callV C (n := 0) (st := []) (kX5_drop kd_101) gX7_begin_X5_drop rfl (by decide +kernel) ⟨Nat.le_of_ble_eq_true rfl, Nat.le_of_ble_eq_true rfl⟩ kd_101 rfl rfl rfl rfl (Nat.le_of_ble_eq_true rfl) dX7_begin_25 rfl WM12 (fun r21 M22 h23 => ?_)
      obtain ⟨rfl, WM22, FM22, xx24⟩ := h23
      have EM22 := Fr.tr EM12 (FM22.mono (c2 := [20, 22]) rfl)
      have t_M22_6_1 : M22.1 6 1 = _ := congrFun (FM22 6 (by rw [kd_6]; rfl)).1 1
      have t_M22_94_0 : M22.1 94 0 = _ := congrFun (FM22 94 (by rw [kd_94]; rfl)).1 0
      refine A_st (st' := []) rfl ?_
      refine A_iconst C dX7_begin_28 ?_
      exact A_zret C (by omega) dX7_begin_29 ⟨0, rfl, by omega, by omega, WM22, EM22, by omega⟩

theorem uX7_next_7 : ∀ w ∈ u_ws RX7 TX7 15, w ∈ wsX7_next := by decide +kernel
theorem uX7_next_5 : ∀ w ∈ u_ws RX5 TX5 3, w ∈ wsX7_next := by decide +kernel
theorem uX7_next_4 : ∀ w ∈ u_ws RX4 TX4 2, w ∈ wsX7_next := by decide +kernel
theorem fX7_next_48 : Fl RX7 wsX7_next 7 5 48 RX7 TX7 15 := ⟨rfl, by decide, uX7_next_7, by decide +kernel⟩
theorem fX7_next_153 : Fl RX7 wsX7_next 5 2 153 RX5 TX5 3 := ⟨rfl, by decide, uX7_next_5, by decide +kernel⟩
theorem fX7_next_21 : Fl RX7 wsX7_next 7 1 21 RX7 TX7 15 := ⟨rfl, by decide, uX7_next_7, by decide +kernel⟩
theorem fX7_next_158 : Fl RX7 wsX7_next 4 1 158 RX4 TX4 2 := ⟨rfl, by decide, uX7_next_4, by decide +kernel⟩
set_option maxHeartbeats 4000000 in
theorem kX7_next  {a : Nat} (ha : kd a = 0) {x1 : Int} (hx1 : (-2147483648 : Int) ≤ x1 ∧ x1 ≤ 2147483647) : Ct yX7_next wsX7_next 2 [.ref a, .int (iI x1)] (fun M => WF M) (fun M r M' => ∃ z : Int, r = some (.int (iI z)) ∧ (-2147483648 : Int) ≤ z ∧ z ≤ 2147483647 ∧ WF M' ∧ Fr [20, 22] M M' ∧ (((1 ≤ M.1 101 2 ∧ 0 ≤ x1 ∧ x1 ≤ 24 ∧ M.1 101 1 + M.1 101 2 ≤ M.1 6 1) → (z = M.1 101 2 + 1 ∧ M'.1 101 2 = M.1 101 2 + 1)) ∧ (¬ (1 ≤ M.1 101 2 ∧ 0 ≤ x1 ∧ x1 ≤ 24 ∧ M.1 101 1 + M.1 101 2 ≤ M.1 6 1) → (z = -1 ∧ M'.1 101 2 = M.1 101 2)) ∧ M'.1 101 1 = M.1 101 1)) := by
  refine Ct_of (cc := cX7_next) (nL := 2) (rt := (some .int)) (own := RX7) rfl (by decide) rfl (Nat.le_of_ble_eq_true rfl) ?_
  intro p l e s m args below meth c G M0 C W
  have E : Fr [20, 22] M0 M0 := Fr.rf
  refine A_lv (lv' := [(0, .ref a), (1, .int (iI x1))]) rfl ?_
  have fa_6_1 : (0 : Int) ≤ M0.1 6 1 ∧ M0.1 6 1 ≤ 12 := W.i kd_6 1
  have fa_101_1 : (0 : Int) ≤ M0.1 101 1 ∧ M0.1 101 1 ≤ 11 := W.i kd_101 1
  have fa_101_2 : (0 : Int) ≤ M0.1 101 2 ∧ M0.1 101 2 ≤ 13 := W.i kd_101 2
  refine A_aloadn C dX7_next_0 0 rfl rfl ?_
  refine G_getU C W ha rfl rfl rfl rfl uq_20 fX7_next_48 dX7_next_1 ?_
  refine G_getI C W kd_101 rfl rfl rfl rfl rfl fX7_next_153 rfl dX7_next_4 (fun z1 ez1 lz1 uz1 => ?_)
  refine A_ifeq C 37 dX7_next_7 (by decide) (by omega) (fun c2 => ?_) (fun c2 => ?_)
  · skip
    refine A_iconst C dX7_next_37 ?_
    exact A_iret C dX7_next_38 ⟨(-1), rfl, by omega, by omega, W, E, by omega⟩
  · skip
    refine A_iloadn C dX7_next_10 1 rfl rfl ?_
    refine A_iconst C dX7_next_11 ?_
    refine A_bipush C dX7_next_12 (by decide) ?_
    refine A_callS C (n := 3) (st := []) (kX7_within  (by omega) (by omega) (by omega)) gX7_next_X7_within rfl (by decide +kernel) ⟨Nat.le_of_ble_eq_true rfl, Nat.le_of_ble_eq_true rfl⟩ rfl (Nat.le_of_ble_eq_true rfl) dX7_next_14 rfl W (fun r3 M4 h5 => ?_)
    obtain ⟨z7, rfl, lz7, uz7, WM4, FM4, xx6⟩ := h5
    have EM4 := Fr.tr E (FM4.mono (c2 := [20, 22]) rfl)
    have t_M4_6_1 : M4.1 6 1 = _ := congrFun (FM4 6 (by rw [kd_6]; rfl)).1 1
    have t_M4_94_0 : M4.1 94 0 = _ := congrFun (FM4 94 (by rw [kd_94]; rfl)).1 0
    have t_M4_101_1 : M4.1 101 1 = _ := congrFun (FM4 101 (by rw [kd_101]; rfl)).1 1
    have t_M4_101_2 : M4.1 101 2 = _ := congrFun (FM4 101 (by rw [kd_101]; rfl)).1 2
    refine A_st (st' := [.int (iI z7)]) rfl ?_
    refine A_ifeq C 37 dX7_next_17 (by decide) (by omega) (fun c8 => ?_) (fun c8 => ?_)
    · skip
      refine A_iconst C dX7_next_37 ?_
      exact A_iret C dX7_next_38 ⟨(-1), rfl, by omega, by omega, WM4, EM4, by omega⟩
    · skip
      refine A_aloadn C dX7_next_20 0 rfl rfl ?_
      refine G_getU C WM4 ha rfl rfl rfl rfl uq_20 fX7_next_48 dX7_next_21 ?_
      refine A_callV C (n := 0) (st := []) (kX5_end_20 kd_101) gX7_next_X5_end rfl (by decide +kernel) ⟨Nat.le_of_ble_eq_true rfl, Nat.le_of_ble_eq_true rfl⟩ kd_101 rfl rfl rfl rfl (Nat.le_of_ble_eq_true rfl) dX7_next_24 rfl WM4 (fun r9 M10 h11 => ?_)
      obtain ⟨z13, rfl, lz13, uz13, WM10, FM10, xx12⟩ := h11
      have EM10 := Fr.tr EM4 (FM10.mono (c2 := [20, 22]) rfl)
      have t_M10_6_1 : M10.1 6 1 = _ := congrFun (FM10 6 (by rw [kd_6]; rfl)).1 1
      have t_M10_94_0 : M10.1 94 0 = _ := congrFun (FM10 94 (by rw [kd_94]; rfl)).1 0
      have t_M10_101_1 : M10.1 101 1 = _ := congrFun (FM10 101 (by rw [kd_101]; rfl)).1 1
      have t_M10_101_2 : M10.1 101 2 = _ := congrFun (FM10 101 (by rw [kd_101]; rfl)).1 2
      refine A_st (st' := [.int (iI z13)]) rfl ?_
      refine A_aloadn C dX7_next_27 0 rfl rfl ?_
      refine G_getU C WM10 ha rfl rfl rfl rfl uq_6 fX7_next_21 dX7_next_28 ?_
      refine G_getI C WM10 kd_6 rfl rfl rfl rfl rfl fX7_next_158 rfl dX7_next_31 (fun z14 ez14 lz14 uz14 => ?_)
      refine A_icmplt C 39 dX7_next_34 (by decide) (by omega) (by omega) (fun c15 => ?_) (fun c15 => ?_)
      · skip
        refine A_aloadn C dX7_next_39 0 rfl rfl ?_
        refine G_getU C WM10 ha rfl rfl rfl rfl uq_20 fX7_next_48 dX7_next_40 ?_
        refine A_iloadn C dX7_next_43 1 rfl rfl ?_
        refine A_callV C (n := 1) (st := []) (kX5_add_20 kd_101 (by omega)) gX7_next_X5_add rfl (by decide +kernel) ⟨Nat.le_of_ble_eq_true rfl, Nat.le_of_ble_eq_true rfl⟩ kd_101 rfl rfl rfl rfl (Nat.le_of_ble_eq_true rfl) dX7_next_44 rfl WM10 (fun r16 M17 h18 => ?_)
        obtain ⟨rfl, WM17, FM17, xx19⟩ := h18
        have EM17 := Fr.tr EM10 (FM17.mono (c2 := [20, 22]) rfl)
        have t_M17_6_1 : M17.1 6 1 = _ := congrFun (FM17 6 (by rw [kd_6]; rfl)).1 1
        have t_M17_94_0 : M17.1 94 0 = _ := congrFun (FM17 94 (by rw [kd_94]; rfl)).1 0
        refine A_st (st' := []) rfl ?_
        refine A_aloadn C dX7_next_47 0 rfl rfl ?_
        refine G_getU C WM17 ha rfl rfl rfl rfl uq_20 fX7_next_48 dX7_next_48 ?_
        refine G_getI C WM17 kd_101 rfl rfl rfl rfl rfl fX7_next_153 rfl dX7_next_51 (fun z20 ez20 lz20 uz20 => ?_)
        exact A_iret C dX7_next_54 ⟨z20, rfl, by omega, by omega, WM17, EM17, by omega⟩
      · skip
        refine A_iconst C dX7_next_37 ?_
        exact A_iret C dX7_next_38 ⟨(-1), rfl, by omega, by omega, WM10, EM10, by omega⟩

theorem uX7_line_7 : ∀ w ∈ u_ws RX7 TX7 15, w ∈ wsX7_line := by decide +kernel
theorem fX7_line_21 : Fl RX7 wsX7_line 7 1 21 RX7 TX7 15 := ⟨rfl, by decide, uX7_line_7, by decide +kernel⟩
theorem fX7_line_48 : Fl RX7 wsX7_line 7 5 48 RX7 TX7 15 := ⟨rfl, by decide, uX7_line_7, by decide +kernel⟩
set_option maxHeartbeats 4000000 in
theorem kX7_line  {a : Nat} (ha : kd a = 0) : Ct yX7_line wsX7_line 6 [.ref a] (fun M => WF M) (fun M r M' => ∃ z : Int, r = some (.int (iI z)) ∧ (-2147483648 : Int) ≤ z ∧ z ≤ 2147483647 ∧ WF M' ∧ Fr [8, 10, 11] M M') := by
  refine Ct_of (cc := cX7_line) (nL := 1) (rt := (some .int)) (own := RX7) rfl (by decide) rfl (Nat.le_of_ble_eq_true rfl) ?_
  intro p l e s m args below meth c G M0 C W
  have E : Fr [8, 10, 11] M0 M0 := Fr.rf
  refine A_lv (lv' := [(0, .ref a)]) rfl ?_
  refine A_aloadn C dX7_line_0 0 rfl rfl ?_
  refine G_getU C W ha rfl rfl rfl rfl uq_6 fX7_line_21 dX7_line_1 ?_
  refine A_aloadn C dX7_line_4 0 rfl rfl ?_
  refine G_getU C W ha rfl rfl rfl rfl uq_20 fX7_line_48 dX7_line_5 ?_
  refine A_callV C (n := 1) (st := []) (kX4_bears kd_6 kd_101) gX7_line_X4_bears rfl (by decide +kernel) ⟨Nat.le_of_ble_eq_true rfl, Nat.le_of_ble_eq_true rfl⟩ kd_6 rfl rfl rfl rfl (Nat.le_of_ble_eq_true rfl) dX7_line_8 rfl W (fun r1 M2 h3 => ?_)
  obtain ⟨z5, rfl, lz5, uz5, WM2, FM2⟩ := h3
  have EM2 := Fr.tr E (FM2.mono (c2 := [8, 10, 11]) rfl)
  refine A_st (st' := [.int (iI z5)]) rfl ?_
  refine A_ifeq C 18 dX7_line_11 (by decide) (by omega) (fun c6 => ?_) (fun c6 => ?_)
  · skip
    refine A_iconst C dX7_line_18 ?_
    exact A_iret C dX7_line_19 ⟨0, rfl, by omega, by omega, WM2, EM2⟩
  · skip
    refine A_iconst C dX7_line_14 ?_
    refine A_goto C 19 dX7_line_15 (by decide) ?_
    exact A_iret C dX7_line_19 ⟨1, rfl, by omega, by omega, WM2, EM2⟩

set_option maxHeartbeats 4000000 in
theorem kX7_isRatio  {x0 : Int} {x1 : Int} (hx0 : (-2147483648 : Int) ≤ x0 ∧ x0 ≤ 2147483647) (hx1 : (-2147483648 : Int) ≤ x1 ∧ x1 ≤ 2147483647) : Ct yX7_isRatio wsX7_isRatio 2 [.int (iI x0), .int (iI x1)] (fun M => WF M) (fun M r M' => ∃ z : Int, r = some (.int (iI z)) ∧ (0 : Int) ≤ z ∧ z ≤ 1 ∧ WF M' ∧ Fr [] M M') := by
  refine Ct_of (cc := cX7_isRatio) (nL := 2) (rt := (some .boolean)) (own := RX7) rfl (by decide) rfl (Nat.le_of_ble_eq_true rfl) ?_
  intro p l e s m args below meth c G M0 C W
  have E : Fr [] M0 M0 := Fr.rf
  refine A_lv (lv' := [(0, .int (iI x0)), (1, .int (iI x1))]) rfl ?_
  refine A_iloadn C dX7_isRatio_0 0 rfl rfl ?_
  refine A_iconst C dX7_isRatio_1 ?_
  refine A_sipush C dX7_isRatio_2 (by decide) ?_
  refine A_callS C (n := 3) (st := []) (kX7_within  (by omega) (by omega) (by omega)) gX7_isRatio_X7_within rfl (by decide +kernel) ⟨Nat.le_of_ble_eq_true rfl, Nat.le_of_ble_eq_true rfl⟩ rfl (Nat.le_of_ble_eq_true rfl) dX7_isRatio_5 rfl W (fun r1 M2 h3 => ?_)
  obtain ⟨z5, rfl, lz5, uz5, WM2, FM2, xx4⟩ := h3
  have EM2 := Fr.tr E (FM2.mono (c2 := []) rfl)
  refine A_st (st' := [.int (iI z5)]) rfl ?_
  refine A_ifeq C 26 dX7_isRatio_8 (by decide) (by omega) (fun c6 => ?_) (fun c6 => ?_)
  · skip
    refine A_iconst C dX7_isRatio_26 ?_
    exact A_zret C (by omega) dX7_isRatio_27 ⟨0, rfl, by omega, by omega, WM2, EM2⟩
  · skip
    refine A_iloadn C dX7_isRatio_11 1 rfl rfl ?_
    refine A_iconst C dX7_isRatio_12 ?_
    refine A_sipush C dX7_isRatio_13 (by decide) ?_
    refine A_callS C (n := 3) (st := []) (kX7_within  (by omega) (by omega) (by omega)) gX7_isRatio_X7_within rfl (by decide +kernel) ⟨Nat.le_of_ble_eq_true rfl, Nat.le_of_ble_eq_true rfl⟩ rfl (Nat.le_of_ble_eq_true rfl) dX7_isRatio_16 rfl WM2 (fun r7 M8 h9 => ?_)
    obtain ⟨z11, rfl, lz11, uz11, WM8, FM8, xx10⟩ := h9
    have EM8 := Fr.tr EM2 (FM8.mono (c2 := []) rfl)
    refine A_st (st' := [.int (iI z11)]) rfl ?_
    refine A_ifeq C 26 dX7_isRatio_19 (by decide) (by omega) (fun c12 => ?_) (fun c12 => ?_)
    · skip
      refine A_iconst C dX7_isRatio_26 ?_
      exact A_zret C (by omega) dX7_isRatio_27 ⟨0, rfl, by omega, by omega, WM8, EM8⟩
    · skip
      refine A_iconst C dX7_isRatio_22 ?_
      refine A_goto C 27 dX7_isRatio_23 (by decide) ?_
      exact A_zret C (by omega) dX7_isRatio_27 ⟨1, rfl, by omega, by omega, WM8, EM8⟩

theorem uX7_knowWorst_7 : ∀ w ∈ u_ws RX7 TX7 15, w ∈ wsX7_knowWorst := by decide +kernel
theorem fX7_knowWorst_80 : Fl RX7 wsX7_knowWorst 7 13 80 RX7 TX7 15 := ⟨rfl, by decide, uX7_knowWorst_7, by decide +kernel⟩
theorem fX7_knowWorst_84 : Fl RX7 wsX7_knowWorst 7 14 84 RX7 TX7 15 := ⟨rfl, by decide, uX7_knowWorst_7, by decide +kernel⟩
theorem fX7_knowWorst_21 : Fl RX7 wsX7_knowWorst 7 1 21 RX7 TX7 15 := ⟨rfl, by decide, uX7_knowWorst_7, by decide +kernel⟩
theorem fX7_knowWorst_41 : Fl RX7 wsX7_knowWorst 7 4 41 RX7 TX7 15 := ⟨rfl, by decide, uX7_knowWorst_7, by decide +kernel⟩
theorem fX7_knowWorst_52 : Fl RX7 wsX7_knowWorst 7 6 52 RX7 TX7 15 := ⟨rfl, by decide, uX7_knowWorst_7, by decide +kernel⟩
theorem fX7_knowWorst_58 : Fl RX7 wsX7_knowWorst 7 7 58 RX7 TX7 15 := ⟨rfl, by decide, uX7_knowWorst_7, by decide +kernel⟩
set_option maxHeartbeats 4000000 in
theorem kX7_knowWorst  {a : Nat} (ha : kd a = 0) : Ct yX7_knowWorst wsX7_knowWorst 7 [.ref a] (fun M => WF M) (fun M r M' => ∃ z : Int, r = some (.int (iI z)) ∧ (0 : Int) ≤ z ∧ z ≤ 1 ∧ WF M' ∧ Fr [0, 8, 10, 11, 17, 18, 19, 21, 22, 23] M M') := by
  refine Ct_of (cc := cX7_knowWorst) (nL := 1) (rt := (some .boolean)) (own := RX7) rfl (by decide) rfl (Nat.le_of_ble_eq_true rfl) ?_
  intro p l e s m args below meth c G M0 C W
  have E : Fr [0, 8, 10, 11, 17, 18, 19, 21, 22, 23] M0 M0 := Fr.rf
  refine A_lv (lv' := [(0, .ref a)]) rfl ?_
  refine A_aloadn C dX7_knowWorst_0 0 rfl rfl ?_
  refine G_getI C W ha rfl rfl rfl rfl rfl fX7_knowWorst_80 rfl dX7_knowWorst_1 (fun z1 ez1 lz1 uz1 => ?_)
  refine A_ifne C 71 dX7_knowWorst_4 (by decide) (by omega) (fun c2 => ?_) (fun c2 => ?_)
  · skip
    refine A_aloadn C dX7_knowWorst_71 0 rfl rfl ?_
    refine G_getI C W ha rfl rfl rfl rfl rfl fX7_knowWorst_84 rfl dX7_knowWorst_72 (fun z3 ez3 lz3 uz3 => ?_)
    exact A_zret C (by omega) dX7_knowWorst_75 ⟨z3, rfl, by omega, by omega, W, E⟩
  · skip
    refine A_aloadn C dX7_knowWorst_7 0 rfl rfl ?_
    refine G_getU C W ha rfl rfl rfl rfl uq_6 fX7_knowWorst_21 dX7_knowWorst_8 ?_
    refine A_callV C (n := 0) (st := []) (kX4_reckon (Or.inl kd_6)) gX7_knowWorst_X4_reckon rfl (by decide +kernel) ⟨Nat.le_of_ble_eq_true rfl, Nat.le_of_ble_eq_true rfl⟩ kd_6 rfl rfl rfl rfl (Nat.le_of_ble_eq_true rfl) dX7_knowWorst_11 rfl W (fun r4 M5 h6 => ?_)
    obtain ⟨rfl, WM5, FM5⟩ := h6
    have EM5 := Fr.tr E (FM5.mono (c2 := [0, 8, 10, 11, 17, 18, 19, 21, 22, 23]) rfl)
    refine A_st (st' := []) rfl ?_
    refine A_aloadn C dX7_knowWorst_14 0 rfl rfl ?_
    refine G_getR C WM5 ha rfl rfl rfl rfl fX7_knowWorst_41 dX7_knowWorst_15 (fun b8 hb8 qb8 => ?_)
    refine A_aloadn C dX7_knowWorst_18 0 rfl rfl ?_
    refine G_getU C WM5 ha rfl rfl rfl rfl uq_6 fX7_knowWorst_21 dX7_knowWorst_19 ?_
    refine A_callV C (n := 1) (st := []) (kX6_study_6 qb8 kd_6) gX7_knowWorst_X6_study rfl (by decide +kernel) ⟨Nat.le_of_ble_eq_true rfl, Nat.le_of_ble_eq_true rfl⟩ qb8 rfl rfl rfl rfl (Nat.le_of_ble_eq_true rfl) dX7_knowWorst_22 rfl WM5 (fun r9 M10 h11 => ?_)
    obtain ⟨rfl, WM10, FM10⟩ := h11
    have EM10 := Fr.tr EM5 (FM10.mono (c2 := [0, 8, 10, 11, 17, 18, 19, 21, 22, 23]) rfl)
    refine A_st (st' := []) rfl ?_
    refine A_aloadn C dX7_knowWorst_25 0 rfl rfl ?_
    refine A_aloadn C dX7_knowWorst_26 0 rfl rfl ?_
    refine G_getR C WM10 ha rfl rfl rfl rfl fX7_knowWorst_41 dX7_knowWorst_27 (fun b13 hb13 qb13 => ?_)
    refine A_aloadn C dX7_knowWorst_30 0 rfl rfl ?_
    refine G_getR C WM10 ha rfl rfl rfl rfl fX7_knowWorst_52 dX7_knowWorst_31 (fun b14 hb14 qb14 => ?_)
    refine A_aloadn C dX7_knowWorst_34 0 rfl rfl ?_
    refine G_getR C WM10 ha rfl rfl rfl rfl fX7_knowWorst_58 dX7_knowWorst_35 (fun b15 hb15 qb15 => ?_)
    refine A_callV C (n := 2) (st := [.ref a]) (kX6_findWorst qb13 qb14 qb15) gX7_knowWorst_X6_findWorst rfl (by decide +kernel) ⟨Nat.le_of_ble_eq_true rfl, Nat.le_of_ble_eq_true rfl⟩ qb13 rfl rfl rfl rfl (Nat.le_of_ble_eq_true rfl) dX7_knowWorst_38 rfl WM10 (fun r16 M17 h18 => ?_)
    obtain ⟨z20, rfl, lz20, uz20, WM17, FM17⟩ := h18
    have EM17 := Fr.tr EM10 (FM17.mono (c2 := [0, 8, 10, 11, 17, 18, 19, 21, 22, 23]) rfl)
    refine A_st (st' := [.int (iI z20), .ref a]) rfl ?_
    refine G_putI C WM17 EM17 ha rfl rfl rfl rfl rfl fX7_knowWorst_84 ⟨tyX7_ok, nmX7, rfl, by decide⟩ (Or.inr ⟨rfl, by omega⟩) rfl rfl (by omega) (by omega) dX7_knowWorst_41 (fun M21 eM21 WM21 EM21 => ?_)
    refine A_aloadn C dX7_knowWorst_44 0 rfl rfl ?_
    refine G_getI C WM21 ha rfl rfl rfl rfl rfl fX7_knowWorst_84 rfl dX7_knowWorst_45 (fun z22 ez22 lz22 uz22 => ?_)
    refine A_ifeq C 66 dX7_knowWorst_48 (by decide) (by omega) (fun c23 => ?_) (fun c23 => ?_)
    · skip
      refine A_aloadn C dX7_knowWorst_66 0 rfl rfl ?_
      refine A_iconst C dX7_knowWorst_67 ?_
      refine G_putI C WM21 EM21 ha rfl rfl rfl rfl rfl fX7_knowWorst_80 ⟨tyX7_ok, nmX7, rfl, by decide⟩ (Or.inr ⟨rfl, by omega⟩) rfl rfl (by omega) (by omega) dX7_knowWorst_68 (fun M24 eM24 WM24 EM24 => ?_)
      refine A_aloadn C dX7_knowWorst_71 0 rfl rfl ?_
      refine G_getI C WM24 ha rfl rfl rfl rfl rfl fX7_knowWorst_84 rfl dX7_knowWorst_72 (fun z25 ez25 lz25 uz25 => ?_)
      exact A_zret C (by omega) dX7_knowWorst_75 ⟨z25, rfl, by omega, by omega, WM24, EM24⟩
    · skip
      refine A_aloadn C dX7_knowWorst_51 0 rfl rfl ?_
      refine G_getR C WM21 ha rfl rfl rfl rfl fX7_knowWorst_41 dX7_knowWorst_52 (fun b26 hb26 qb26 => ?_)
      refine A_aloadn C dX7_knowWorst_55 0 rfl rfl ?_
      refine G_getR C WM21 ha rfl rfl rfl rfl fX7_knowWorst_52 dX7_knowWorst_56 (fun b27 hb27 qb27 => ?_)
      refine A_aloadn C dX7_knowWorst_59 0 rfl rfl ?_
      refine G_getR C WM21 ha rfl rfl rfl rfl fX7_knowWorst_58 dX7_knowWorst_60 (fun b28 hb28 qb28 => ?_)
      refine A_callV C (n := 2) (st := []) (kX6_findFirst qb26 qb27 qb28) gX7_knowWorst_X6_findFirst rfl (by decide +kernel) ⟨Nat.le_of_ble_eq_true rfl, Nat.le_of_ble_eq_true rfl⟩ qb26 rfl rfl rfl rfl (Nat.le_of_ble_eq_true rfl) dX7_knowWorst_63 rfl WM21 (fun r29 M30 h31 => ?_)
      obtain ⟨rfl, WM30, FM30⟩ := h31
      have EM30 := Fr.tr EM21 (FM30.mono (c2 := [0, 8, 10, 11, 17, 18, 19, 21, 22, 23]) rfl)
      refine A_st (st' := []) rfl ?_
      refine A_aloadn C dX7_knowWorst_66 0 rfl rfl ?_
      refine A_iconst C dX7_knowWorst_67 ?_
      refine G_putI C WM30 EM30 ha rfl rfl rfl rfl rfl fX7_knowWorst_80 ⟨tyX7_ok, nmX7, rfl, by decide⟩ (Or.inr ⟨rfl, by omega⟩) rfl rfl (by omega) (by omega) dX7_knowWorst_68 (fun M33 eM33 WM33 EM33 => ?_)
      refine A_aloadn C dX7_knowWorst_71 0 rfl rfl ?_
      refine G_getI C WM33 ha rfl rfl rfl rfl rfl fX7_knowWorst_84 rfl dX7_knowWorst_72 (fun z34 ez34 lz34 uz34 => ?_)
      exact A_zret C (by omega) dX7_knowWorst_75 ⟨z34, rfl, by omega, by omega, WM33, EM33⟩

theorem uX7_worst_7 : ∀ w ∈ u_ws RX7 TX7 15, w ∈ wsX7_worst := by decide +kernel
theorem uX7_worst_5 : ∀ w ∈ u_ws RX5 TX5 3, w ∈ wsX7_worst := by decide +kernel
theorem uX7_worst_3 : ∀ w ∈ u_ws RX3 TX3 2, w ∈ wsX7_worst := by decide +kernel
theorem fX7_worst_52 : Fl RX7 wsX7_worst 7 6 52 RX7 TX7 15 := ⟨rfl, by decide, uX7_worst_7, by decide +kernel⟩
theorem fX7_worst_153 : Fl RX7 wsX7_worst 5 2 153 RX5 TX5 3 := ⟨rfl, by decide, uX7_worst_5, by decide +kernel⟩
theorem fX7_worst_58 : Fl RX7 wsX7_worst 7 7 58 RX7 TX7 15 := ⟨rfl, by decide, uX7_worst_7, by decide +kernel⟩
theorem fX7_worst_182 : Fl RX7 wsX7_worst 3 0 182 RX3 TX3 2 := ⟨rfl, by decide, uX7_worst_3, by decide +kernel⟩
theorem fX7_worst_186 : Fl RX7 wsX7_worst 3 1 186 RX3 TX3 2 := ⟨rfl, by decide, uX7_worst_3, by decide +kernel⟩
theorem fX7_worst_195 : Fl RX7 wsX7_worst 5 1 195 RX5 TX5 3 := ⟨rfl, by decide, uX7_worst_5, by decide +kernel⟩
set_option maxHeartbeats 4000000 in
theorem kX7_worst  {a : Nat} (ha : kd a = 0) {x1 : Int} (hx1 : (-2147483648 : Int) ≤ x1 ∧ x1 ≤ 2147483647) : Ct yX7_worst wsX7_worst 8 [.ref a, .int (iI x1)] (fun M => WF M) (fun M r M' => ∃ z : Int, r = some (.long (lL z)) ∧ r64 z ∧ WF M' ∧ Fr [0, 8, 10, 11, 17, 18, 19, 21, 22, 23] M M') := by
  refine Ct_of (cc := cX7_worst) (nL := 2) (rt := (some .long)) (own := RX7) rfl (by decide) rfl (Nat.le_of_ble_eq_true rfl) ?_
  intro p l e s m args below meth c G M0 C W
  have E : Fr [0, 8, 10, 11, 17, 18, 19, 21, 22, 23] M0 M0 := Fr.rf
  refine A_lv (lv' := [(0, .ref a), (1, .int (iI x1))]) rfl ?_
  refine A_iloadn C dX7_worst_0 1 rfl rfl ?_
  refine A_iconst C dX7_worst_1 ?_
  refine A_iconst C dX7_worst_2 ?_
  refine A_callS C (n := 3) (st := []) (kX7_within  (by omega) (by omega) (by omega)) gX7_worst_X7_within rfl (by decide +kernel) ⟨Nat.le_of_ble_eq_true rfl, Nat.le_of_ble_eq_true rfl⟩ rfl (Nat.le_of_ble_eq_true rfl) dX7_worst_3 rfl W (fun r1 M2 h3 => ?_)
  obtain ⟨z5, rfl, lz5, uz5, WM2, FM2, xx4⟩ := h3
  have EM2 := Fr.tr E (FM2.mono (c2 := [0, 8, 10, 11, 17, 18, 19, 21, 22, 23]) rfl)
  refine A_st (st' := [.int (iI z5)]) rfl ?_
  refine A_ifeq C 16 dX7_worst_6 (by decide) (by omega) (fun c6 => ?_) (fun c6 => ?_)
  · skip
    refine A_ldc2 C (index := 193) (v := (-1)) (z := (-1)) (by decide +kernel) (by decide +kernel) dX7_worst_16 ?_
    exact A_lret C dX7_worst_19 ⟨(-1), rfl, by omega, WM2, EM2⟩
  · skip
    refine A_aloadn C dX7_worst_9 0 rfl rfl ?_
    refine A_callV C (n := 0) (st := []) (kX7_knowWorst ha) gX7_worst_X7_knowWorst rfl (by decide +kernel) ⟨Nat.le_of_ble_eq_true rfl, Nat.le_of_ble_eq_true rfl⟩ ha rfl rfl rfl rfl (Nat.le_of_ble_eq_true rfl) dX7_worst_10 rfl WM2 (fun r7 M8 h9 => ?_)
    obtain ⟨z11, rfl, lz11, uz11, WM8, FM8⟩ := h9
    have EM8 := Fr.tr EM2 (FM8.mono (c2 := [0, 8, 10, 11, 17, 18, 19, 21, 22, 23]) rfl)
    refine A_st (st' := [.int (iI z11)]) rfl ?_
    refine A_ifne C 20 dX7_worst_13 (by decide) (by omega) (fun c12 => ?_) (fun c12 => ?_)
    · skip
      refine A_iloadn C dX7_worst_20 1 rfl rfl ?_
      rcases (show (x1 < 0 ∨ 3 < x1) ∨ x1 = 0 ∨ x1 = 1 ∨ x1 = 2 ∨ x1 = 3 by omega) with c13 | c13 | c13 | c13 | c13
      · skip
        refine A_tabOut C 86 dX7_worst_21 (by omega) c13 (by decide) ?_
        refine A_aloadn C dX7_worst_86 0 rfl rfl ?_
        refine G_getR C WM8 ha rfl rfl rfl rfl fX7_worst_52 dX7_worst_87 (fun b14 hb14 qb14 => ?_)
        refine G_getI C WM8 qb14 rfl rfl rfl rfl rfl fX7_worst_153 rfl dX7_worst_90 (fun z15 ez15 lz15 uz15 => ?_)
        refine A_i2l C (by omega) dX7_worst_93 ?_
        exact A_lret C dX7_worst_94 ⟨z15, rfl, by omega, WM8, EM8⟩
      · skip
        refine A_tabIn C 0 52 dX7_worst_21 c13 (by decide) (by decide) (by decide) rfl (by decide) ?_
        refine A_aloadn C dX7_worst_52 0 rfl rfl ?_
        refine G_getR C WM8 ha rfl rfl rfl rfl fX7_worst_58 dX7_worst_53 (fun b16 hb16 qb16 => ?_)
        refine G_getL C WM8 qb16 rfl rfl rfl fX7_worst_182 dX7_worst_56 (fun z17 ez17 rz17 => ?_)
        exact A_lret C dX7_worst_59 ⟨z17, rfl, by omega, WM8, EM8⟩
      · skip
        refine A_tabIn C 1 60 dX7_worst_21 c13 (by decide) (by decide) (by decide) rfl (by decide) ?_
        refine A_aloadn C dX7_worst_60 0 rfl rfl ?_
        refine G_getR C WM8 ha rfl rfl rfl rfl fX7_worst_58 dX7_worst_61 (fun b18 hb18 qb18 => ?_)
        refine G_getL C WM8 qb18 rfl rfl rfl fX7_worst_186 dX7_worst_64 (fun z19 ez19 rz19 => ?_)
        exact A_lret C dX7_worst_67 ⟨z19, rfl, by omega, WM8, EM8⟩
      · skip
        refine A_tabIn C 2 68 dX7_worst_21 c13 (by decide) (by decide) (by decide) rfl (by decide) ?_
        refine A_aloadn C dX7_worst_68 0 rfl rfl ?_
        refine G_getR C WM8 ha rfl rfl rfl rfl fX7_worst_52 dX7_worst_69 (fun b20 hb20 qb20 => ?_)
        refine G_getI C WM8 qb20 rfl rfl rfl rfl rfl fX7_worst_195 rfl dX7_worst_72 (fun z21 ez21 lz21 uz21 => ?_)
        refine A_i2l C (by omega) dX7_worst_75 ?_
        exact A_lret C dX7_worst_76 ⟨z21, rfl, by omega, WM8, EM8⟩
      · skip
        refine A_tabIn C 3 77 dX7_worst_21 c13 (by decide) (by decide) (by decide) rfl (by decide) ?_
        refine A_aloadn C dX7_worst_77 0 rfl rfl ?_
        refine G_getR C WM8 ha rfl rfl rfl rfl fX7_worst_52 dX7_worst_78 (fun b22 hb22 qb22 => ?_)
        refine A_callV C (n := 0) (st := []) (kX5_end_21 qb22) gX7_worst_X5_end rfl (by decide +kernel) ⟨Nat.le_of_ble_eq_true rfl, Nat.le_of_ble_eq_true rfl⟩ qb22 rfl rfl rfl rfl (Nat.le_of_ble_eq_true rfl) dX7_worst_81 rfl WM8 (fun r23 M24 h25 => ?_)
        obtain ⟨z27, rfl, lz27, uz27, WM24, FM24, xx26⟩ := h25
        have EM24 := Fr.tr EM8 (FM24.mono (c2 := [0, 8, 10, 11, 17, 18, 19, 21, 22, 23]) rfl)
        refine A_st (st' := [.int (iI z27)]) rfl ?_
        refine A_i2l C (by omega) dX7_worst_84 ?_
        exact A_lret C dX7_worst_85 ⟨z27, rfl, by omega, WM24, EM24⟩
    · skip
      refine A_ldc2 C (index := 193) (v := (-1)) (z := (-1)) (by decide +kernel) (by decide +kernel) dX7_worst_16 ?_
      exact A_lret C dX7_worst_19 ⟨(-1), rfl, by omega, WM8, EM8⟩

theorem uX7_height_7 : ∀ w ∈ u_ws RX7 TX7 15, w ∈ wsX7_height := by decide +kernel
theorem uX7_height_5 : ∀ w ∈ u_ws RX5 TX5 3, w ∈ wsX7_height := by decide +kernel
theorem fX7_height_52 : Fl RX7 wsX7_height 7 6 52 RX7 TX7 15 := ⟨rfl, by decide, uX7_height_7, by decide +kernel⟩
theorem fX7_height_153 : Fl RX7 wsX7_height 5 2 153 RX5 TX5 3 := ⟨rfl, by decide, uX7_height_5, by decide +kernel⟩
theorem fX7_height_198 : Fl RX7 wsX7_height 5 0 198 RX5 TX5 3 := ⟨rfl, by decide, uX7_height_5, by decide +kernel⟩
set_option maxHeartbeats 4000000 in
theorem kX7_height  {a : Nat} (ha : kd a = 0) {x1 : Int} (hx1 : (-2147483648 : Int) ≤ x1 ∧ x1 ≤ 2147483647) : Ct yX7_height wsX7_height 8 [.ref a, .int (iI x1)] (fun M => WF M) (fun M r M' => ∃ z : Int, r = some (.int (iI z)) ∧ (-2147483648 : Int) ≤ z ∧ z ≤ 2147483647 ∧ WF M' ∧ Fr [0, 8, 10, 11, 17, 18, 19, 21, 22, 23] M M') := by
  refine Ct_of (cc := cX7_height) (nL := 2) (rt := (some .int)) (own := RX7) rfl (by decide) rfl (Nat.le_of_ble_eq_true rfl) ?_
  intro p l e s m args below meth c G M0 C W
  have E : Fr [0, 8, 10, 11, 17, 18, 19, 21, 22, 23] M0 M0 := Fr.rf
  refine A_lv (lv' := [(0, .ref a), (1, .int (iI x1))]) rfl ?_
  refine A_aloadn C dX7_height_0 0 rfl rfl ?_
  refine A_callV C (n := 0) (st := []) (kX7_knowWorst ha) gX7_height_X7_knowWorst rfl (by decide +kernel) ⟨Nat.le_of_ble_eq_true rfl, Nat.le_of_ble_eq_true rfl⟩ ha rfl rfl rfl rfl (Nat.le_of_ble_eq_true rfl) dX7_height_1 rfl W (fun r1 M2 h3 => ?_)
  obtain ⟨z5, rfl, lz5, uz5, WM2, FM2⟩ := h3
  have EM2 := Fr.tr E (FM2.mono (c2 := [0, 8, 10, 11, 17, 18, 19, 21, 22, 23]) rfl)
  refine A_st (st' := [.int (iI z5)]) rfl ?_
  refine A_ifeq C 24 dX7_height_4 (by decide) (by omega) (fun c6 => ?_) (fun c6 => ?_)
  · skip
    refine A_iconst C dX7_height_24 ?_
    exact A_iret C dX7_height_25 ⟨(-1), rfl, by omega, by omega, WM2, EM2⟩
  · skip
    refine A_iloadn C dX7_height_7 1 rfl rfl ?_
    refine A_iconst C dX7_height_8 ?_
    refine A_aloadn C dX7_height_9 0 rfl rfl ?_
    refine G_getR C WM2 ha rfl rfl rfl rfl fX7_height_52 dX7_height_10 (fun b7 hb7 qb7 => ?_)
    refine G_getI C WM2 qb7 rfl rfl rfl rfl rfl fX7_height_153 rfl dX7_height_13 (fun z8 ez8 lz8 uz8 => ?_)
    refine A_iconst C dX7_height_16 ?_
    refine A_isub C dX7_height_17 ?_
    refine A_callS C (n := 3) (st := []) (kX7_within  (by omega) (by omega) (by omega)) gX7_height_X7_within rfl (by decide +kernel) ⟨Nat.le_of_ble_eq_true rfl, Nat.le_of_ble_eq_true rfl⟩ rfl (Nat.le_of_ble_eq_true rfl) dX7_height_18 rfl WM2 (fun r9 M10 h11 => ?_)
    obtain ⟨z13, rfl, lz13, uz13, WM10, FM10, xx12⟩ := h11
    have EM10 := Fr.tr EM2 (FM10.mono (c2 := [0, 8, 10, 11, 17, 18, 19, 21, 22, 23]) rfl)
    refine A_st (st' := [.int (iI z13)]) rfl ?_
    refine A_ifne C 26 dX7_height_21 (by decide) (by omega) (fun c14 => ?_) (fun c14 => ?_)
    · skip
      refine A_aloadn C dX7_height_26 0 rfl rfl ?_
      refine G_getR C WM10 ha rfl rfl rfl rfl fX7_height_52 dX7_height_27 (fun b15 hb15 qb15 => ?_)
      refine G_getR C WM10 qb15 rfl rfl rfl rfl fX7_height_198 dX7_height_30 (fun b16 hb16 qb16 => ?_)
      refine A_iloadn C dX7_height_33 1 rfl rfl ?_
      refine G_iald C WM10 qb16 rfl rfl (by decide) (fun _ => rfl) (by omega) (by omega) dX7_height_34 (fun z17 ez17 lz17 uz17 => ?_)
      exact A_iret C dX7_height_35 ⟨z17, rfl, by omega, by omega, WM10, EM10⟩
    · skip
      refine A_iconst C dX7_height_24 ?_
      exact A_iret C dX7_height_25 ⟨(-1), rfl, by omega, by omega, WM10, EM10⟩
