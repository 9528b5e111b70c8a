theorem uX8_worst_8 : ∀ w ∈ u_ws RX8 TX8 35, w ∈ wsX8_worst := by decide +kernel
theorem fX8_worst_76 : Fl RX8 wsX8_worst 8 19 76 RX8 TX8 35 := ⟨rfl, by decide, uX8_worst_8, by decide +kernel⟩
theorem fX8_worst_96 : Fl RX8 wsX8_worst 8 11 96 RX8 TX8 35 := ⟨rfl, by decide, uX8_worst_8, by decide +kernel⟩
theorem fX8_worst_144 : Fl RX8 wsX8_worst 8 26 144 RX8 TX8 35 := ⟨rfl, by decide, uX8_worst_8, by decide +kernel⟩
theorem fX8_worst_157 : Fl RX8 wsX8_worst 8 30 157 RX8 TX8 35 := ⟨rfl, by decide, uX8_worst_8, by decide +kernel⟩
theorem fX8_worst_154 : Fl RX8 wsX8_worst 8 29 154 RX8 TX8 35 := ⟨rfl, by decide, uX8_worst_8, by decide +kernel⟩
theorem fX8_worst_151 : Fl RX8 wsX8_worst 8 28 151 RX8 TX8 35 := ⟨rfl, by decide, uX8_worst_8, by decide +kernel⟩
theorem fX8_worst_148 : Fl RX8 wsX8_worst 8 27 148 RX8 TX8 35 := ⟨rfl, by decide, uX8_worst_8, by decide +kernel⟩
set_option maxHeartbeats 4000000 in
theorem kX8_worst  {x1 : Int} (hx1 : (-2147483648 : Int) ≤ x1 ∧ x1 ≤ 2147483647) : Ct yX8_worst wsX8_worst 5 [.ref 110, .int (iI x1)] (fun M => WF M ∧ (M.1 110 16 + M.1 110 17 ≤ M.1 110 0 + 1)) (fun M r M' => ∃ z : Int, r = some (.long (lL z)) ∧ r64 z ∧ WF M' ∧ Fr [30, 44, 45, 46, 47] M M' ∧ (M'.1 110 0 = M.1 110 0 ∧ M'.1 110 12 = M.1 110 12 ∧ M'.1 110 16 = M.1 110 16 ∧ M'.1 110 17 = M.1 110 17) ∧ M'.1 110 16 + M'.1 110 17 ≤ M'.1 110 0 + 1) := by
  refine Ct_of (cc := cX8_worst) (nL := 2) (rt := (some .long)) (own := RX8) rfl (by decide) rfl (Nat.le_of_ble_eq_true rfl) ?_
  intro p l e s m args below meth c G M0 C W
  obtain ⟨W, hM⟩ := W
  have E : Fr [30, 44, 45, 46, 47] M0 M0 := Fr.rf
  refine A_lv (lv' := [(0, .ref 110), (1, .int (iI x1))]) rfl ?_
  have fa_110_0 : (0 : Int) ≤ M0.1 110 0 ∧ M0.1 110 0 ≤ 12 := W.i kd_110 0
  refine A_aloadn C dX8_worst_0 0 rfl rfl ?_
  refine A_iconst C dX8_worst_1 ?_
  refine G_putI C W E kd_110 rfl rfl rfl rfl rfl fX8_worst_76 ⟨tyX8_ok, nmX8, rfl, by decide⟩ (Or.inl rfl) rfl rfl (by omega) (by omega) dX8_worst_2 (fun M1 eM1 WM1 EM1 => ?_)
  have t_M1_110_0 : M1.1 110 0 = M0.1 110 0 := by rw [eM1]; exact sI_pl rfl
  have t_M1_110_11 : M1.1 110 11 = M0.1 110 11 := by rw [eM1]; exact sI_pl rfl
  have t_M1_110_12 : M1.1 110 12 = M0.1 110 12 := by rw [eM1]; exact sI_pl rfl
  have t_M1_110_16 : M1.1 110 16 = M0.1 110 16 := by rw [eM1]; exact sI_pl rfl
  have t_M1_110_17 : M1.1 110 17 = M0.1 110 17 := by rw [eM1]; exact sI_pl rfl
  have t_M1_110_26 : M1.1 110 26 = M0.1 110 26 := by rw [eM1]; exact sI_pl rfl
  refine A_iloadn C dX8_worst_5 1 rfl rfl ?_
  refine A_iflt C 14 dX8_worst_6 (by decide) (by omega) (fun c2 => ?_) (fun c2 => ?_)
  · skip
    refine A_ldc2 C (index := 160) (v := (-1)) (z := (-1)) (by decide +kernel) (by decide +kernel) dX8_worst_14 ?_
    exact A_lret C dX8_worst_17 ⟨(-1), rfl, by omega, WM1, EM1, by omega⟩
  · skip
    refine A_iloadn C dX8_worst_9 1 rfl rfl ?_
    refine A_iconst C dX8_worst_10 ?_
    refine A_icmple C 18 dX8_worst_11 (by decide) (by omega) (by omega) (fun c3 => ?_) (fun c3 => ?_)
    · skip
      refine A_aloadn C dX8_worst_18 0 rfl rfl ?_
      refine A_iconst C dX8_worst_19 ?_
      refine G_putI C WM1 EM1 kd_110 rfl rfl rfl rfl rfl fX8_worst_96 ⟨tyX8_ok, nmX8, rfl, by decide⟩ (Or.inl rfl) rfl rfl (by omega) (by omega) dX8_worst_20 (fun M4 eM4 WM4 EM4 => ?_)
      have t_M4_110_0 : M4.1 110 0 = M1.1 110 0 := by rw [eM4]; exact sI_pl rfl
      have t_M4_110_11 : M4.1 110 11 = 0 := by rw [eM4]; exact sI_at
      have t_M4_110_12 : M4.1 110 12 = M1.1 110 12 := by rw [eM4]; exact sI_pl rfl
      have t_M4_110_16 : M4.1 110 16 = M1.1 110 16 := by rw [eM4]; exact sI_pl rfl
      have t_M4_110_17 : M4.1 110 17 = M1.1 110 17 := by rw [eM4]; exact sI_pl rfl
      have t_M4_110_26 : M4.1 110 26 = M1.1 110 26 := by rw [eM4]; exact sI_pl rfl
      refine A_aloadn C dX8_worst_23 0 rfl rfl ?_
      refine A_callV C (n := 0) (st := []) (kX8_findWorst ) gX8_worst_X8_findWorst rfl (by decide +kernel) ⟨Nat.le_of_ble_eq_true rfl, Nat.le_of_ble_eq_true rfl⟩ kd_110 rfl rfl rfl rfl (Nat.le_of_ble_eq_true rfl) dX8_worst_24 rfl WM4 (fun r5 M6 h7 => ?_)
      obtain ⟨rfl, WM6, FM6, xx8⟩ := h7
      have EM6 := Fr.tr EM4 (FM6.mono (c2 := [30, 44, 45, 46, 47]) rfl)
      refine A_st (st' := []) rfl ?_
      refine A_aloadn C dX8_worst_27 0 rfl rfl ?_
      refine G_getI C WM6 kd_110 rfl rfl rfl rfl rfl fX8_worst_144 rfl dX8_worst_28 (fun z9 ez9 lz9 uz9 => ?_)
      refine A_ifne C 38 dX8_worst_31 (by decide) (by omega) (fun c10 => ?_) (fun c10 => ?_)
      · skip
        refine A_iloadn C dX8_worst_38 1 rfl rfl ?_
        refine A_ifne C 47 dX8_worst_39 (by decide) (by omega) (fun c11 => ?_) (fun c11 => ?_)
        · skip
          refine A_iloadn C dX8_worst_47 1 rfl rfl ?_
          refine A_iconst C dX8_worst_48 ?_
          refine A_icmpne C 57 dX8_worst_49 (by decide) (by omega) (by omega) (fun c12 => ?_) (fun c12 => ?_)
          · skip
            refine A_aloadn C dX8_worst_57 0 rfl rfl ?_
            refine A_callV C (n := 0) (st := []) (kX8_findLine ) gX8_worst_X8_findLine rfl (by decide +kernel) ⟨Nat.le_of_ble_eq_true rfl, Nat.le_of_ble_eq_true rfl⟩ kd_110 rfl rfl rfl rfl (Nat.le_of_ble_eq_true rfl) dX8_worst_58 rfl ⟨WM6, xx8.1 (by omega)⟩ (fun r13 M14 h15 => ?_)
            obtain ⟨rfl, WM14, FM14, xx16⟩ := h15
            have EM14 := Fr.tr EM6 (FM14.mono (c2 := [30, 44, 45, 46, 47]) rfl)
            refine A_st (st' := []) rfl ?_
            refine A_iloadn C dX8_worst_61 1 rfl rfl ?_
            refine A_iconst C dX8_worst_62 ?_
            refine A_icmpne C 74 dX8_worst_63 (by decide) (by omega) (by omega) (fun c17 => ?_) (fun c17 => ?_)
            · skip
              refine A_iloadn C dX8_worst_74 1 rfl rfl ?_
              refine A_iconst C dX8_worst_75 ?_
              refine A_icmpne C 87 dX8_worst_76 (by decide) (by omega) (by omega) (fun c18 => ?_) (fun c18 => ?_)
              · skip
                refine A_aloadn C dX8_worst_87 0 rfl rfl ?_
                refine G_getI C WM14 kd_110 rfl rfl rfl rfl rfl fX8_worst_157 rfl dX8_worst_88 (fun z19 ez19 lz19 uz19 => ?_)
                refine A_aloadn C dX8_worst_91 0 rfl rfl ?_
                refine G_getI C WM14 kd_110 rfl rfl rfl rfl rfl fX8_worst_154 rfl dX8_worst_92 (fun z20 ez20 lz20 uz20 => ?_)
                refine A_isub C dX8_worst_95 ?_
                refine A_iconst C dX8_worst_96 ?_
                refine A_iadd C dX8_worst_97 ?_
                refine A_i2l C (by omega) dX8_worst_98 ?_
                exact A_lret C dX8_worst_99 ⟨(z19 - z20) + 1, rfl, by omega, WM14, EM14, by omega⟩
              · skip
                refine A_aloadn C dX8_worst_79 0 rfl rfl ?_
                refine G_getI C WM14 kd_110 rfl rfl rfl rfl rfl fX8_worst_157 rfl dX8_worst_80 (fun z21 ez21 lz21 uz21 => ?_)
                refine A_i2l C (by omega) dX8_worst_83 ?_
                refine A_goto C 99 dX8_worst_84 (by decide) ?_
                exact A_lret C dX8_worst_99 ⟨z21, rfl, by omega, WM14, EM14, by omega⟩
            · skip
              refine A_aloadn C dX8_worst_66 0 rfl rfl ?_
              refine G_getI C WM14 kd_110 rfl rfl rfl rfl rfl fX8_worst_154 rfl dX8_worst_67 (fun z22 ez22 lz22 uz22 => ?_)
              refine A_i2l C (by omega) dX8_worst_70 ?_
              refine A_goto C 99 dX8_worst_71 (by decide) ?_
              exact A_lret C dX8_worst_99 ⟨z22, rfl, by omega, WM14, EM14, by omega⟩
          · skip
            refine A_aloadn C dX8_worst_52 0 rfl rfl ?_
            refine G_getL C WM6 kd_110 rfl rfl rfl fX8_worst_151 dX8_worst_53 (fun z23 ez23 rz23 => ?_)
            exact A_lret C dX8_worst_56 ⟨z23, rfl, by omega, WM6, EM6, by omega⟩
        · skip
          refine A_aloadn C dX8_worst_42 0 rfl rfl ?_
          refine G_getL C WM6 kd_110 rfl rfl rfl fX8_worst_148 dX8_worst_43 (fun z24 ez24 rz24 => ?_)
          exact A_lret C dX8_worst_46 ⟨z24, rfl, by omega, WM6, EM6, by omega⟩
      · skip
        refine A_ldc2 C (index := 160) (v := (-1)) (z := (-1)) (by decide +kernel) (by decide +kernel) dX8_worst_34 ?_
        exact A_lret C dX8_worst_37 ⟨(-1), rfl, by omega, WM6, EM6, by omega⟩
    · skip
      refine A_ldc2 C (index := 160) (v := (-1)) (z := (-1)) (by decide +kernel) (by decide +kernel) dX8_worst_14 ?_
      exact A_lret C dX8_worst_17 ⟨(-1), rfl, by omega, WM1, EM1, by omega⟩

theorem uX8_height_8 : ∀ w ∈ u_ws RX8 TX8 35, w ∈ wsX8_height := by decide +kernel
theorem fX8_height_76 : Fl RX8 wsX8_height 8 19 76 RX8 TX8 35 := ⟨rfl, by decide, uX8_height_8, by decide +kernel⟩
theorem fX8_height_96 : Fl RX8 wsX8_height 8 11 96 RX8 TX8 35 := ⟨rfl, by decide, uX8_height_8, by decide +kernel⟩
theorem fX8_height_144 : Fl RX8 wsX8_height 8 26 144 RX8 TX8 35 := ⟨rfl, by decide, uX8_height_8, by decide +kernel⟩
theorem fX8_height_157 : Fl RX8 wsX8_height 8 30 157 RX8 TX8 35 := ⟨rfl, by decide, uX8_height_8, by decide +kernel⟩
theorem fX8_height_154 : Fl RX8 wsX8_height 8 29 154 RX8 TX8 35 := ⟨rfl, by decide, uX8_height_8, by decide +kernel⟩
theorem fX8_height_67 : Fl RX8 wsX8_height 8 31 67 RX8 TX8 35 := ⟨rfl, by decide, uX8_height_8, by decide +kernel⟩
set_option maxHeartbeats 4000000 in
theorem kX8_height  {x1 : Int} (hx1 : (-2147483648 : Int) ≤ x1 ∧ x1 ≤ 2147483647) : Ct yX8_height wsX8_height 5 [.ref 110, .int (iI x1)] (fun M => WF M ∧ (M.1 110 16 + M.1 110 17 ≤ M.1 110 0 + 1)) (fun M r M' => ∃ z : Int, r = some (.int (iI z)) ∧ (-2147483648 : Int) ≤ z ∧ z ≤ 2147483647 ∧ WF M' ∧ Fr [30, 44, 45, 46, 47] M M' ∧ (M'.1 110 0 = M.1 110 0 ∧ M'.1 110 12 = M.1 110 12 ∧ M'.1 110 16 = M.1 110 16 ∧ M'.1 110 17 = M.1 110 17) ∧ M'.1 110 16 + M'.1 110 17 ≤ M'.1 110 0 + 1) := by
  refine Ct_of (cc := cX8_height) (nL := 2) (rt := (some .int)) (own := RX8) rfl (by decide) rfl (Nat.le_of_ble_eq_true rfl) ?_
  intro p l e s m args below meth c G M0 C W
  obtain ⟨W, hM⟩ := W
  have E : Fr [30, 44, 45, 46, 47] M0 M0 := Fr.rf
  refine A_lv (lv' := [(0, .ref 110), (1, .int (iI x1))]) rfl ?_
  have fa_110_0 : (0 : Int) ≤ M0.1 110 0 ∧ M0.1 110 0 ≤ 12 := W.i kd_110 0
  refine A_aloadn C dX8_height_0 0 rfl rfl ?_
  refine A_iconst C dX8_height_1 ?_
  refine G_putI C W E kd_110 rfl rfl rfl rfl rfl fX8_height_76 ⟨tyX8_ok, nmX8, rfl, by decide⟩ (Or.inl rfl) rfl rfl (by omega) (by omega) dX8_height_2 (fun M1 eM1 WM1 EM1 => ?_)
  have t_M1_110_0 : M1.1 110 0 = M0.1 110 0 := by rw [eM1]; exact sI_pl rfl
  have t_M1_110_11 : M1.1 110 11 = M0.1 110 11 := by rw [eM1]; exact sI_pl rfl
  have t_M1_110_12 : M1.1 110 12 = M0.1 110 12 := by rw [eM1]; exact sI_pl rfl
  have t_M1_110_16 : M1.1 110 16 = M0.1 110 16 := by rw [eM1]; exact sI_pl rfl
  have t_M1_110_17 : M1.1 110 17 = M0.1 110 17 := by rw [eM1]; exact sI_pl rfl
  have t_M1_110_26 : M1.1 110 26 = M0.1 110 26 := by rw [eM1]; exact sI_pl rfl
  refine A_aloadn C dX8_height_5 0 rfl rfl ?_
  refine A_iconst C dX8_height_6 ?_
  refine G_putI C WM1 EM1 kd_110 rfl rfl rfl rfl rfl fX8_height_96 ⟨tyX8_ok, nmX8, rfl, by decide⟩ (Or.inl rfl) rfl rfl (by omega) (by omega) dX8_height_7 (fun M2 eM2 WM2 EM2 => ?_)
  have t_M2_110_0 : M2.1 110 0 = M1.1 110 0 := by rw [eM2]; exact sI_pl rfl
  have t_M2_110_11 : M2.1 110 11 = 0 := by rw [eM2]; exact sI_at
  have t_M2_110_12 : M2.1 110 12 = M1.1 110 12 := by rw [eM2]; exact sI_pl rfl
  have t_M2_110_16 : M2.1 110 16 = M1.1 110 16 := by rw [eM2]; exact sI_pl rfl
  have t_M2_110_17 : M2.1 110 17 = M1.1 110 17 := by rw [eM2]; exact sI_pl rfl
  have t_M2_110_26 : M2.1 110 26 = M1.1 110 26 := by rw [eM2]; exact sI_pl rfl
  refine A_aloadn C dX8_height_10 0 rfl rfl ?_
  refine A_callV C (n := 0) (st := []) (kX8_findWorst ) gX8_height_X8_findWorst rfl (by decide +kernel) ⟨Nat.le_of_ble_eq_true rfl, Nat.le_of_ble_eq_true rfl⟩ kd_110 rfl rfl rfl rfl (Nat.le_of_ble_eq_true rfl) dX8_height_11 rfl WM2 (fun r3 M4 h5 => ?_)
  obtain ⟨rfl, WM4, FM4, xx6⟩ := h5
  have EM4 := Fr.tr EM2 (FM4.mono (c2 := [30, 44, 45, 46, 47]) rfl)
  refine A_st (st' := []) rfl ?_
  refine A_aloadn C dX8_height_14 0 rfl rfl ?_
  refine G_getI C WM4 kd_110 rfl rfl rfl rfl rfl fX8_height_144 rfl dX8_height_15 (fun z7 ez7 lz7 uz7 => ?_)
  refine A_ifeq C 25 dX8_height_18 (by decide) (by omega) (fun c8 => ?_) (fun c8 => ?_)
  · skip
    refine A_iconst C dX8_height_25 ?_
    exact A_iret C dX8_height_26 ⟨(-1), rfl, by omega, by omega, WM4, EM4, by omega⟩
  · skip
    refine A_iloadn C dX8_height_21 1 rfl rfl ?_
    refine A_ifge C 27 dX8_height_22 (by decide) (by omega) (fun c9 => ?_) (fun c9 => ?_)
    · skip
      refine A_aloadn C dX8_height_27 0 rfl rfl ?_
      refine A_callV C (n := 0) (st := []) (kX8_findLine ) gX8_height_X8_findLine rfl (by decide +kernel) ⟨Nat.le_of_ble_eq_true rfl, Nat.le_of_ble_eq_true rfl⟩ kd_110 rfl rfl rfl rfl (Nat.le_of_ble_eq_true rfl) dX8_height_28 rfl ⟨WM4, xx6.1 (by omega)⟩ (fun r10 M11 h12 => ?_)
      obtain ⟨rfl, WM11, FM11, xx13⟩ := h12
      have EM11 := Fr.tr EM4 (FM11.mono (c2 := [30, 44, 45, 46, 47]) rfl)
      refine A_st (st' := []) rfl ?_
      refine A_iloadn C dX8_height_31 1 rfl rfl ?_
      refine A_aloadn C dX8_height_32 0 rfl rfl ?_
      refine G_getI C WM11 kd_110 rfl rfl rfl rfl rfl fX8_height_157 rfl dX8_height_33 (fun z14 ez14 lz14 uz14 => ?_)
      refine A_aloadn C dX8_height_36 0 rfl rfl ?_
      refine G_getI C WM11 kd_110 rfl rfl rfl rfl rfl fX8_height_154 rfl dX8_height_37 (fun z15 ez15 lz15 uz15 => ?_)
      refine A_isub C dX8_height_40 ?_
      refine A_icmple C 48 dX8_height_41 (by decide) (by omega) (by omega) (fun c16 => ?_) (fun c16 => ?_)
      · skip
        refine A_aloadn C dX8_height_48 0 rfl rfl ?_
        refine G_getC C WM11 kd_110 rfl rfl rfl rfl uq_47 fX8_height_67 dX8_height_49 ?_
        refine A_iloadn C dX8_height_52 1 rfl rfl ?_
        refine G_iald C WM11 kd_127 rfl rfl (by decide) (fun _ => rfl) (by omega) (by omega) dX8_height_53 (fun z17 ez17 lz17 uz17 => ?_)
        exact A_iret C dX8_height_54 ⟨z17, rfl, by omega, by omega, WM11, EM11, by omega⟩
      · skip
        refine A_iconst C dX8_height_44 ?_
        refine A_goto C 54 dX8_height_45 (by decide) ?_
        exact A_iret C dX8_height_54 ⟨(-1), rfl, by omega, by omega, WM11, EM11, by omega⟩
    · skip
      refine A_iconst C dX8_height_25 ?_
      exact A_iret C dX8_height_26 ⟨(-1), rfl, by omega, by omega, WM4, EM4, by omega⟩

theorem uX8_holdsOut_8 : ∀ w ∈ u_ws RX8 TX8 35, w ∈ wsX8_holdsOut := by decide +kernel
theorem fX8_holdsOut_126 : Fl RX8 wsX8_holdsOut 8 23 126 RX8 TX8 35 := ⟨rfl, by decide, uX8_holdsOut_8, by decide +kernel⟩
set_option maxHeartbeats 4000000 in
theorem kX8_holdsOut  {x1 : Int} {x2 : Int} (hx1 : (1 : Int) ≤ x1 ∧ x1 ≤ 1000) (hx2 : (1 : Int) ≤ x2 ∧ x2 ≤ 1000) : Ct yX8_holdsOut wsX8_holdsOut 4 [.ref 110, .int (iI x1), .int (iI x2)] (fun M => WF M) (fun M r M' => ∃ z : Int, r = some (.int (iI z)) ∧ (0 : Int) ≤ z ∧ z ≤ 1 ∧ WF M' ∧ Fr [30, 44, 45, 46] M M' ∧ (M'.1 110 0 = M.1 110 0 ∧ M'.1 110 11 = M.1 110 11 ∧ M'.1 110 12 = M.1 110 12 ∧ M'.1 110 16 = M.1 110 16 ∧ M'.1 110 17 = M.1 110 17)) := by
  refine Ct_of (cc := cX8_holdsOut) (nL := 3) (rt := (some .boolean)) (own := RX8) rfl (by decide) rfl (Nat.le_of_ble_eq_true rfl) ?_
  intro p l e s m args below meth c G M0 C W
  have E : Fr [30, 44, 45, 46] M0 M0 := Fr.rf
  refine A_lv (lv' := [(0, .ref 110), (1, .int (iI x1)), (2, .int (iI x2))]) rfl ?_
  have fa_110_0 : (0 : Int) ≤ M0.1 110 0 ∧ M0.1 110 0 ≤ 12 := W.i kd_110 0
  refine A_aloadn C dX8_holdsOut_0 0 rfl rfl ?_
  refine A_iconst C dX8_holdsOut_1 ?_
  refine A_iloadn C dX8_holdsOut_2 1 rfl rfl ?_
  refine A_i2l C (by omega) dX8_holdsOut_3 ?_
  refine A_iloadn C dX8_holdsOut_4 2 rfl rfl ?_
  refine A_i2l C (by omega) dX8_holdsOut_5 ?_
  refine A_iconst C dX8_holdsOut_6 ?_
  refine A_callV C (n := 4) (st := []) (kX8_walk  (by omega) (by omega) (by omega) (by omega) (by omega)) gX8_holdsOut_X8_walk rfl (by decide +kernel) ⟨Nat.le_of_ble_eq_true rfl, Nat.le_of_ble_eq_true rfl⟩ kd_110 rfl rfl rfl rfl (Nat.le_of_ble_eq_true rfl) dX8_holdsOut_7 rfl W (fun r1 M2 h3 => ?_)
  obtain ⟨rfl, WM2, FM2, xx4⟩ := h3
  have EM2 := Fr.tr E (FM2.mono (c2 := [30, 44, 45, 46]) rfl)
  refine A_st (st' := []) rfl ?_
  have t_M2_110_0 : M2.1 110 0 = M0.1 110 0 := by rw [xx4.1.1]
  have t_M2_110_11 : M2.1 110 11 = M0.1 110 11 := by rw [xx4.1.1]
  have t_M2_110_12 : M2.1 110 12 = M0.1 110 12 := by rw [xx4.1.1]
  have t_M2_110_16 : M2.1 110 16 = M0.1 110 16 := by rw [xx4.1.1]
  have t_M2_110_17 : M2.1 110 17 = M0.1 110 17 := by rw [xx4.1.1]
  refine A_aloadn C dX8_holdsOut_10 0 rfl rfl ?_
  refine G_getL C WM2 kd_110 rfl rfl rfl fX8_holdsOut_126 dX8_holdsOut_11 (fun z5 ez5 rz5 => ?_)
  refine A_lconst0 C dX8_holdsOut_14 ?_
  refine A_lcmp C (by omega) (by omega) dX8_holdsOut_15 (fun z6 cz6 => ?_)
  refine A_iflt C 23 dX8_holdsOut_16 (by decide) (by omega) (fun c7 => ?_) (fun c7 => ?_)
  · skip
    refine A_iconst C dX8_holdsOut_23 ?_
    exact A_zret C (by omega) dX8_holdsOut_24 ⟨0, rfl, by omega, by omega, WM2, EM2, by omega⟩
  · skip
    refine A_iconst C dX8_holdsOut_19 ?_
    refine A_goto C 24 dX8_holdsOut_20 (by decide) ?_
    exact A_zret C (by omega) dX8_holdsOut_24 ⟨1, rfl, by omega, by omega, WM2, EM2, by omega⟩

theorem uX8_rise_8 : ∀ w ∈ u_ws RX8 TX8 35, w ∈ wsX8_rise := by decide +kernel
theorem fX8_rise_7 : Fl RX8 wsX8_rise 8 0 7 RX8 TX8 35 := ⟨rfl, by decide, uX8_rise_8, by decide +kernel⟩
theorem fX8_rise_33 : Fl RX8 wsX8_rise 8 8 33 RX8 TX8 35 := ⟨rfl, by decide, uX8_rise_8, by decide +kernel⟩
theorem fX8_rise_96 : Fl RX8 wsX8_rise 8 11 96 RX8 TX8 35 := ⟨rfl, by decide, uX8_rise_8, by decide +kernel⟩
theorem fX8_rise_76 : Fl RX8 wsX8_rise 8 19 76 RX8 TX8 35 := ⟨rfl, by decide, uX8_rise_8, by decide +kernel⟩
set_option maxHeartbeats 4000000 in
theorem lpX8_rise_34 {p : Program} {l : Launch} {e : Env} {s : State} {m : MethodId} {args : Array Value} {below : List Frame} {meth : Method} {c : Code} {G : xG} (C : Cx p s m args meth c G cX8_rise 6 RX8 wsX8_rise (some .int))  {x1 : Int} {x2 : Int} (hx1 : (-2147483648 : Int) ≤ x1 ∧ x1 ≤ 2147483647) (hx2 : (-2147483648 : Int) ≤ x2 ∧ x2 ≤ 2147483647) {M0 : Mem} {N20 : Nat} (H20 : ∀ (v3 v4 : Int) (M : Mem), (26 - v4).toNat < N20 → (-1 ≤ v3 ∧ v3 ≤ 24 ∧ 0 ≤ v4 ∧ v4 ≤ 25 ∧ 1 ≤ x1 ∧ x1 ≤ 1000 ∧ 1 ≤ x2 ∧ x2 ≤ 1000 ∧ M.1 110 0 = M0.1 110 0 ∧ M.1 110 12 = M0.1 110 12 ∧ M.1 110 16 = M0.1 110 16 ∧ M.1 110 17 = M0.1 110 17 ∧ M0.1 110 16 + M0.1 110 17 ≤ M0.1 110 0 + 1) → WF M → Fr [30, 36, 37, 38, 39, 44, 45, 46] M0 M → AW p l e (rmD 5) s m args below meth c G 6 (QQ G below args s ((fun M r M' => ∃ z : Int, r = some (.int (iI z)) ∧ (-2147483648 : Int) ≤ z ∧ z ≤ 2147483647 ∧ WF M' ∧ Fr [30, 36, 37, 38, 39, 44, 45, 46] M M' ∧ (M'.1 110 0 = M.1 110 0 ∧ M'.1 110 12 = M.1 110 12 ∧ M'.1 110 16 = M.1 110 16 ∧ M'.1 110 17 = M.1 110 17) ∧ M'.1 110 16 + M'.1 110 17 ≤ M'.1 110 0 + 1) M0)) M 20 [(0, .ref 110), (1, .int (iI x1)), (2, .int (iI x2)), (3, .int (iI v3)), (4, .int (iI v4))] []) : ∀ (n : Nat) (v3 v4 v5 : Int) (M : Mem), (13 - v5).toNat < n → (-1 ≤ v3 ∧ v3 ≤ 24 ∧ 0 ≤ v4 ∧ v4 ≤ 24 ∧ 0 ≤ v5 ∧ v5 ≤ 12 ∧ 1 ≤ x1 ∧ x1 ≤ 1000 ∧ 1 ≤ x2 ∧ x2 ≤ 1000 ∧ M.1 110 0 = M0.1 110 0 ∧ M.1 110 12 = M0.1 110 12 ∧ M.1 110 16 = M0.1 110 16 ∧ M.1 110 17 = M0.1 110 17 ∧ M0.1 110 16 + M0.1 110 17 ≤ M0.1 110 0 + 1 ∧ (26 - v4).toNat ≤ N20) → WF M → Fr [30, 36, 37, 38, 39, 44, 45, 46] M0 M → AW p l e (rmD 5) s m args below meth c G 6 (QQ G below args s ((fun M r M' => ∃ z : Int, r = some (.int (iI z)) ∧ (-2147483648 : Int) ≤ z ∧ z ≤ 2147483647 ∧ WF M' ∧ Fr [30, 36, 37, 38, 39, 44, 45, 46] M M' ∧ (M'.1 110 0 = M.1 110 0 ∧ M'.1 110 12 = M.1 110 12 ∧ M'.1 110 16 = M.1 110 16 ∧ M'.1 110 17 = M.1 110 17) ∧ M'.1 110 16 + M'.1 110 17 ≤ M'.1 110 0 + 1) M0)) M 34 [(0, .ref 110), (1, .int (iI x1)), (2, .int (iI x2)), (3, .int (iI v3)), (4, .int (iI v4)), (5, .int (iI v5))] [] := by
  intro n
  induction n with
  | zero => intro v3 v4 v5 M hn; exact absurd hn (Nat.not_lt_zero _)
  | succ n ih =>
    intro v3 v4 v5 M hn hi W E
    have fa_110_0 : (0 : Int) ≤ M.1 110 0 ∧ M.1 110 0 ≤ 12 := W.i kd_110 0
    refine A_iload C dX8_rise_34 5 rfl ?_
    refine A_aloadn C dX8_rise_36 0 rfl rfl ?_
    refine G_getI C W kd_110 rfl rfl rfl rfl rfl fX8_rise_7 rfl dX8_rise_37 (fun z1 ez1 lz1 uz1 => ?_)
    refine A_icmpge C 89 dX8_rise_40 (by decide) (by omega) (by omega) (fun c2 => ?_) (fun c2 => ?_)
    · skip
      refine A_aloadn C dX8_rise_89 0 rfl rfl ?_
      refine A_iloadn C dX8_rise_90 1 rfl rfl ?_
      refine A_iloadn C dX8_rise_91 2 rfl rfl ?_
      refine A_callV C (n := 2) (st := []) (kX8_holdsOut  (by omega) (by omega)) gX8_rise_X8_holdsOut rfl (by decide +kernel) ⟨Nat.le_of_ble_eq_true rfl, Nat.le_of_ble_eq_true rfl⟩ kd_110 rfl rfl rfl rfl (Nat.le_of_ble_eq_true rfl) dX8_rise_92 rfl W (fun r3 M4 h5 => ?_)
      obtain ⟨z7, rfl, lz7, uz7, WM4, FM4, xx6⟩ := h5
      have EM4 := Fr.tr E (FM4.mono (c2 := [30, 36, 37, 38, 39, 44, 45, 46]) rfl)
      refine A_st (st' := [.int (iI z7)]) rfl ?_
      refine A_ifeq C 101 dX8_rise_95 (by decide) (by omega) (fun c8 => ?_) (fun c8 => ?_)
      · skip
        refine A_iinc (lv' := [(4, .int (iI (v4 + 1))), (0, .ref 110), (1, .int (iI x1)), (2, .int (iI x2)), (3, .int (iI v3)), (5, .int (iI v5))]) C dX8_rise_101 4 rfl (by decide) rfl ?_
        refine A_goto C 20 dX8_rise_104 (by decide) ?_
        refine A_pick [1, 2, 3, 4, 0] rfl ?_
        exact H20 v3 (v4 + 1) M4 (by omega) (by omega) WM4 EM4
      · skip
        refine A_iload C dX8_rise_98 4 rfl ?_
        refine A_istoren (lv' := [(3, .int (iI v4)), (0, .ref 110), (1, .int (iI x1)), (2, .int (iI x2)), (4, .int (iI v4)), (5, .int (iI v5))]) C dX8_rise_100 rfl (by decide) rfl ?_
        refine A_iinc (lv' := [(4, .int (iI (v4 + 1))), (3, .int (iI v4)), (0, .ref 110), (1, .int (iI x1)), (2, .int (iI x2)), (5, .int (iI v5))]) C dX8_rise_101 4 rfl (by decide) rfl ?_
        refine A_goto C 20 dX8_rise_104 (by decide) ?_
        refine A_pick [2, 3, 4, 1, 0] rfl ?_
        exact H20 v4 (v4 + 1) M4 (by omega) (by omega) WM4 EM4
    · skip
      refine A_aloadn C dX8_rise_43 0 rfl rfl ?_
      refine G_getC C W kd_110 rfl rfl rfl rfl uq_37 fX8_rise_33 dX8_rise_44 ?_
      refine A_bipush C dX8_rise_47 (by decide) ?_
      refine A_iload C dX8_rise_49 5 rfl ?_
      refine A_iadd C dX8_rise_51 ?_
      refine A_aloadn C dX8_rise_52 0 rfl rfl ?_
      refine G_getC C W kd_110 rfl rfl rfl rfl uq_37 fX8_rise_33 dX8_rise_53 ?_
      refine A_iload C dX8_rise_56 5 rfl ?_
      refine G_iald C W kd_117 rfl rfl (by decide) (fun _ => rfl) (by omega) (by omega) dX8_rise_58 (fun z9 ez9 lz9 uz9 => ?_)
      refine A_iload C dX8_rise_59 4 rfl ?_
      refine A_iadd C dX8_rise_61 ?_
      refine A_bipush C dX8_rise_62 (by decide) ?_
      refine A_icmple C 72 dX8_rise_64 (by decide) (by omega) (by omega) (fun c10 => ?_) (fun c10 => ?_)
      · skip
        refine A_aloadn C dX8_rise_72 0 rfl rfl ?_
        refine G_getC C W kd_110 rfl rfl rfl rfl uq_37 fX8_rise_33 dX8_rise_73 ?_
        refine A_iload C dX8_rise_76 5 rfl ?_
        refine G_iald C W kd_117 rfl rfl (by decide) (fun _ => rfl) (by omega) (by omega) dX8_rise_78 (fun z11 ez11 lz11 uz11 => ?_)
        refine A_iload C dX8_rise_79 4 rfl ?_
        refine A_iadd C dX8_rise_81 ?_
        refine G_iast C W E kd_117 rfl rfl (by decide) (fun _ => rfl) rfl (by omega) (by omega) (by omega) (by omega) dX8_rise_82 (fun M12 eM12 WM12 EM12 => ?_)
        have t_M12_110_0 : M12.1 110 0 = M.1 110 0 := by rw [eM12]; exact sI_kd kd_110 kd_117 rfl
        have t_M12_110_11 : M12.1 110 11 = M.1 110 11 := by rw [eM12]; exact sI_kd kd_110 kd_117 rfl
        have t_M12_110_12 : M12.1 110 12 = M.1 110 12 := by rw [eM12]; exact sI_kd kd_110 kd_117 rfl
        have t_M12_110_16 : M12.1 110 16 = M.1 110 16 := by rw [eM12]; exact sI_kd kd_110 kd_117 rfl
        have t_M12_110_17 : M12.1 110 17 = M.1 110 17 := by rw [eM12]; exact sI_kd kd_110 kd_117 rfl
        refine A_iinc (lv' := [(5, .int (iI (v5 + 1))), (0, .ref 110), (1, .int (iI x1)), (2, .int (iI x2)), (3, .int (iI v3)), (4, .int (iI v4))]) C dX8_rise_83 5 rfl (by decide) rfl ?_
        refine A_goto C 34 dX8_rise_86 (by decide) ?_
        refine A_pick [1, 2, 3, 4, 5, 0] rfl ?_
        exact ih v3 v4 (v5 + 1) M12 (by omega) (by omega) WM12 EM12
      · skip
        refine A_bipush C dX8_rise_67 (by decide) ?_
        refine A_goto C 82 dX8_rise_69 (by decide) ?_
        refine G_iast C W E kd_117 rfl rfl (by decide) (fun _ => rfl) rfl (by omega) (by omega) (by omega) (by omega) dX8_rise_82 (fun M13 eM13 WM13 EM13 => ?_)
        have t_M13_110_0 : M13.1 110 0 = M.1 110 0 := by rw [eM13]; exact sI_kd kd_110 kd_117 rfl
        have t_M13_110_11 : M13.1 110 11 = M.1 110 11 := by rw [eM13]; exact sI_kd kd_110 kd_117 rfl
        have t_M13_110_12 : M13.1 110 12 = M.1 110 12 := by rw [eM13]; exact sI_kd kd_110 kd_117 rfl
        have t_M13_110_16 : M13.1 110 16 = M.1 110 16 := by rw [eM13]; exact sI_kd kd_110 kd_117 rfl
        have t_M13_110_17 : M13.1 110 17 = M.1 110 17 := by rw [eM13]; exact sI_kd kd_110 kd_117 rfl
        refine A_iinc (lv' := [(5, .int (iI (v5 + 1))), (0, .ref 110), (1, .int (iI x1)), (2, .int (iI x2)), (3, .int (iI v3)), (4, .int (iI v4))]) C dX8_rise_83 5 rfl (by decide) rfl ?_
        refine A_goto C 34 dX8_rise_86 (by decide) ?_
        refine A_pick [1, 2, 3, 4, 5, 0] rfl ?_
        exact ih v3 v4 (v5 + 1) M13 (by omega) (by omega) WM13 EM13
set_option maxHeartbeats 4000000 in
theorem lpX8_rise_20 {p : Program} {l : Launch} {e : Env} {s : State} {m : MethodId} {args : Array Value} {below : List Frame} {meth : Method} {c : Code} {G : xG} (C : Cx p s m args meth c G cX8_rise 6 RX8 wsX8_rise (some .int))  {x1 : Int} {x2 : Int} (hx1 : (-2147483648 : Int) ≤ x1 ∧ x1 ≤ 2147483647) (hx2 : (-2147483648 : Int) ≤ x2 ∧ x2 ≤ 2147483647) {M0 : Mem} : ∀ (n : Nat) (v3 v4 : Int) (M : Mem), (26 - v4).toNat < n → (-1 ≤ v3 ∧ v3 ≤ 24 ∧ 0 ≤ v4 ∧ v4 ≤ 25 ∧ 1 ≤ x1 ∧ x1 ≤ 1000 ∧ 1 ≤ x2 ∧ x2 ≤ 1000 ∧ M.1 110 0 = M0.1 110 0 ∧ M.1 110 12 = M0.1 110 12 ∧ M.1 110 16 = M0.1 110 16 ∧ M.1 110 17 = M0.1 110 17 ∧ M0.1 110 16 + M0.1 110 17 ≤ M0.1 110 0 + 1) → WF M → Fr [30, 36, 37, 38, 39, 44, 45, 46] M0 M → AW p l e (rmD 5) s m args below meth c G 6 (QQ G below args s ((fun M r M' => ∃ z : Int, r = some (.int (iI z)) ∧ (-2147483648 : Int) ≤ z ∧ z ≤ 2147483647 ∧ WF M' ∧ Fr [30, 36, 37, 38, 39, 44, 45, 46] M M' ∧ (M'.1 110 0 = M.1 110 0 ∧ M'.1 110 12 = M.1 110 12 ∧ M'.1 110 16 = M.1 110 16 ∧ M'.1 110 17 = M.1 110 17) ∧ M'.1 110 16 + M'.1 110 17 ≤ M'.1 110 0 + 1) M0)) M 20 [(0, .ref 110), (1, .int (iI x1)), (2, .int (iI x2)), (3, .int (iI v3)), (4, .int (iI v4))] [] := by
  intro n
  induction n with
  | zero => intro v3 v4 M hn; exact absurd hn (Nat.not_lt_zero _)
  | succ n ih =>
    intro v3 v4 M hn hi W E
    have fa_110_0 : (0 : Int) ≤ M.1 110 0 ∧ M.1 110 0 ≤ 12 := W.i kd_110 0
    refine A_iload C dX8_rise_20 4 rfl ?_
    refine A_bipush C dX8_rise_22 (by decide) ?_
    refine A_icmpge C 107 dX8_rise_24 (by decide) (by omega) (by omega) (fun c14 => ?_) (fun c14 => ?_)
    · skip
      refine A_aloadn C dX8_rise_107 0 rfl rfl ?_
      refine A_iconst C dX8_rise_108 ?_
      refine G_putI C W E kd_110 rfl rfl rfl rfl rfl fX8_rise_96 ⟨tyX8_ok, nmX8, rfl, by decide⟩ (Or.inl rfl) rfl rfl (by omega) (by omega) dX8_rise_109 (fun M15 eM15 WM15 EM15 => ?_)
      have t_M15_110_0 : M15.1 110 0 = M.1 110 0 := by rw [eM15]; exact sI_pl rfl
      have t_M15_110_11 : M15.1 110 11 = 0 := by rw [eM15]; exact sI_at
      have t_M15_110_12 : M15.1 110 12 = M.1 110 12 := by rw [eM15]; exact sI_pl rfl
      have t_M15_110_16 : M15.1 110 16 = M.1 110 16 := by rw [eM15]; exact sI_pl rfl
      have t_M15_110_17 : M15.1 110 17 = M.1 110 17 := by rw [eM15]; exact sI_pl rfl
      refine A_iloadn C dX8_rise_112 3 rfl rfl ?_
      exact A_iret C dX8_rise_113 ⟨v3, rfl, by omega, by omega, WM15, EM15, by omega⟩
    · skip
      refine A_aloadn C dX8_rise_27 0 rfl rfl ?_
      refine A_callV C (n := 0) (st := []) (kX8_tries ) gX8_rise_X8_tries rfl (by decide +kernel) ⟨Nat.le_of_ble_eq_true rfl, Nat.le_of_ble_eq_true rfl⟩ kd_110 rfl rfl rfl rfl (Nat.le_of_ble_eq_true rfl) dX8_rise_28 rfl W (fun r16 M17 h18 => ?_)
      obtain ⟨rfl, WM17, FM17, xx19⟩ := h18
      have EM17 := Fr.tr E (FM17.mono (c2 := [30, 36, 37, 38, 39, 44, 45, 46]) rfl)
      refine A_st (st' := []) rfl ?_
      refine A_iconst C dX8_rise_31 ?_
      refine A_istore (lv' := [(5, .int (iI 0)), (0, .ref 110), (1, .int (iI x1)), (2, .int (iI x2)), (3, .int (iI v3)), (4, .int (iI v4))]) C dX8_rise_32 (by decide) rfl ?_
      refine A_pick [1, 2, 3, 4, 5, 0] rfl ?_
      exact lpX8_rise_34 C  hx1 hx2 ih ((13 - (0 : Int)).toNat + 1) v3 v4 0 M17 (by omega) (by omega) WM17 EM17
set_option maxHeartbeats 4000000 in
theorem kX8_rise  {x1 : Int} {x2 : Int} (hx1 : (-2147483648 : Int) ≤ x1 ∧ x1 ≤ 2147483647) (hx2 : (-2147483648 : Int) ≤ x2 ∧ x2 ≤ 2147483647) : Ct yX8_rise wsX8_rise 5 [.ref 110, .int (iI x1), .int (iI x2)] (fun M => WF M ∧ (M.1 110 16 + M.1 110 17 ≤ M.1 110 0 + 1)) (fun M r M' => ∃ z : Int, r = some (.int (iI z)) ∧ (-2147483648 : Int) ≤ z ∧ z ≤ 2147483647 ∧ WF M' ∧ Fr [30, 36, 37, 38, 39, 44, 45, 46] M M' ∧ (M'.1 110 0 = M.1 110 0 ∧ M'.1 110 12 = M.1 110 12 ∧ M'.1 110 16 = M.1 110 16 ∧ M'.1 110 17 = M.1 110 17) ∧ M'.1 110 16 + M'.1 110 17 ≤ M'.1 110 0 + 1) := by
  refine Ct_of (cc := cX8_rise) (nL := 6) (rt := (some .int)) (own := RX8) rfl (by decide) rfl (Nat.le_of_ble_eq_true rfl) ?_
  intro p l e s m args below meth c G M0 C W
  obtain ⟨W, hM⟩ := W
  have E : Fr [30, 36, 37, 38, 39, 44, 45, 46] M0 M0 := Fr.rf
  refine A_lv (lv' := [(0, .ref 110), (1, .int (iI x1)), (2, .int (iI x2))]) rfl ?_
  have fa_110_0 : (0 : Int) ≤ M0.1 110 0 ∧ M0.1 110 0 ≤ 12 := W.i kd_110 0
  refine A_aloadn C dX8_rise_0 0 rfl rfl ?_
  refine A_iconst C dX8_rise_1 ?_
  refine G_putI C W E kd_110 rfl rfl rfl rfl rfl fX8_rise_76 ⟨tyX8_ok, nmX8, rfl, by decide⟩ (Or.inl rfl) rfl rfl (by omega) (by omega) dX8_rise_2 (fun M20 eM20 WM20 EM20 => ?_)
  have t_M20_110_0 : M20.1 110 0 = M0.1 110 0 := by rw [eM20]; exact sI_pl rfl
  have t_M20_110_11 : M20.1 110 11 = M0.1 110 11 := by rw [eM20]; exact sI_pl rfl
  have t_M20_110_12 : M20.1 110 12 = M0.1 110 12 := by rw [eM20]; exact sI_pl rfl
  have t_M20_110_16 : M20.1 110 16 = M0.1 110 16 := by rw [eM20]; exact sI_pl rfl
  have t_M20_110_17 : M20.1 110 17 = M0.1 110 17 := by rw [eM20]; exact sI_pl rfl
  refine A_iloadn C dX8_rise_5 1 rfl rfl ?_
  refine A_iloadn C dX8_rise_6 2 rfl rfl ?_
  refine A_callS C (n := 2) (st := []) (kX8_areShares  (by omega) (by omega)) gX8_rise_X8_areShares rfl (by decide +kernel) ⟨Nat.le_of_ble_eq_true rfl, Nat.le_of_ble_eq_true rfl⟩ rfl (Nat.le_of_ble_eq_true rfl) dX8_rise_7 rfl WM20 (fun r21 M22 h23 => ?_)
  obtain ⟨z25, rfl, lz25, uz25, rfl, xx24⟩ := h23
  refine A_st (st' := [.int (iI z25)]) rfl ?_
  refine A_ifne C 15 dX8_rise_10 (by decide) (by omega) (fun c26 => ?_) (fun c26 => ?_)
  · skip
    refine A_iconst C dX8_rise_15 ?_
    refine A_nami (fun z27 ez27 => ?_)
    refine A_istoren (lv' := [(3, .int (iI z27)), (0, .ref 110), (1, .int (iI x1)), (2, .int (iI x2))]) C dX8_rise_16 rfl (by decide) rfl ?_
    refine A_iconst C dX8_rise_17 ?_
    refine A_istore (lv' := [(4, .int (iI 0)), (3, .int (iI z27)), (0, .ref 110), (1, .int (iI x1)), (2, .int (iI x2))]) C dX8_rise_18 (by decide) rfl ?_
    refine A_pick [2, 3, 4, 1, 0] rfl ?_
    exact lpX8_rise_20 C  hx1 hx2 ((26 - (0 : Int)).toNat + 1) z27 0 M20 (by omega) (by omega) WM20 EM20
  · skip
    refine A_iconst C dX8_rise_13 ?_
    exact A_iret C dX8_rise_14 ⟨(-1), rfl, by omega, by omega, WM20, EM20, by omega⟩

theorem uX8_isLine_p_8 : ∀ w ∈ u_ws RX8 TX8 35, w ∈ wsX8_isLine := by decide +kernel
theorem fX8_isLine_p_82 : Fl RX8 wsX8_isLine 8 17 82 RX8 TX8 35 := ⟨rfl, by decide, uX8_isLine_p_8, by decide +kernel⟩
theorem fX8_isLine_p_51 : Fl RX8 wsX8_isLine 8 16 51 RX8 TX8 35 := ⟨rfl, by decide, uX8_isLine_p_8, by decide +kernel⟩
theorem fX8_isLine_p_54 : Fl RX8 wsX8_isLine 8 18 54 RX8 TX8 35 := ⟨rfl, by decide, uX8_isLine_p_8, by decide +kernel⟩
theorem fX8_isLine_p_30 : Fl RX8 wsX8_isLine 8 7 30 RX8 TX8 35 := ⟨rfl, by decide, uX8_isLine_p_8, by decide +kernel⟩
set_option maxHeartbeats 4000000 in
theorem lpX8_isLine_p_67 {p : Program} {l : Launch} {e : Env} {s : State} {m : MethodId} {args : Array Value} {below : List Frame} {meth : Method} {c : Code} {G : xG} (C : Cx p s m args meth c G cX8_isLine 2 RX8 wsX8_isLine (some .boolean))   {M0 : Mem} (W : WF M0) : ∀ (n : Nat) (v1 : Int), (14 - v1).toNat < n → (0 ≤ v1 ∧ v1 ≤ 13 ∧ 0 ≤ M0.1 110 16 ∧ 2 ≤ M0.1 110 17 ∧ M0.1 110 16 + M0.1 110 17 ≤ 13) → (LnOk M0 v1) → AW p l e (rmD 2) s m args below meth c G 2 (QQ G below args s ((fun M r M' => ∃ z : Int, r = some (.int (iI z)) ∧ (0 : Int) ≤ z ∧ z ≤ 1 ∧ M = M' ∧ (z = 1 → (0 ≤ M.1 110 16 ∧ 2 ≤ M.1 110 17 ∧ LnOk M (M.1 110 17 - 1)))) M0)) M0 67 [(0, .ref 110), (1, .int (iI v1))] [] := by
  have E : Fr [] M0 M0 := Fr.rf
  intro n
  induction n with
  | zero => intro v1 hn; exact absurd hn (Nat.not_lt_zero _)
  | succ n ih =>
    intro v1 hn hi h2
    have fa_110_0 : (0 : Int) ≤ M0.1 110 0 ∧ M0.1 110 0 ≤ 12 := W.i kd_110 0
    refine A_iloadn C dX8_isLine_67 1 rfl rfl ?_
    refine A_aloadn C dX8_isLine_68 0 rfl rfl ?_
    refine G_getI C W kd_110 rfl rfl rfl rfl rfl fX8_isLine_p_82 rfl dX8_isLine_69 (fun z1 ez1 lz1 uz1 => ?_)
    refine A_iconst C dX8_isLine_72 ?_
    refine A_isub C dX8_isLine_73 ?_
    refine A_icmpge C 112 dX8_isLine_74 (by decide) (by omega) (by omega) (fun c2 => ?_) (fun c2 => ?_)
    · skip
      refine A_iconst C dX8_isLine_112 ?_
      exact A_zret C (by omega) dX8_isLine_113 ⟨1, rfl, by omega, by omega, rfl, fun _ => ⟨by omega, by omega, fun k a b => h2 k a (by omega)⟩⟩
    · skip
      refine A_aloadn C dX8_isLine_77 0 rfl rfl ?_
      refine A_aloadn C dX8_isLine_78 0 rfl rfl ?_
      refine G_getI C W kd_110 rfl rfl rfl rfl rfl fX8_isLine_p_51 rfl dX8_isLine_79 (fun z3 ez3 lz3 uz3 => ?_)
      refine A_iloadn C dX8_isLine_82 1 rfl rfl ?_
      refine A_iadd C dX8_isLine_83 ?_
      refine A_aloadn C dX8_isLine_84 0 rfl rfl ?_
      refine G_getC C W kd_110 rfl rfl rfl rfl uq_43 fX8_isLine_p_54 dX8_isLine_85 ?_
      refine A_iloadn C dX8_isLine_88 1 rfl rfl ?_
      refine G_iald C W kd_123 rfl rfl (by decide) (fun _ => rfl) (by omega) (by omega) dX8_isLine_89 (fun z4 ez4 lz4 uz4 => ?_)
      refine A_aloadn C dX8_isLine_90 0 rfl rfl ?_
      refine G_getC C W kd_110 rfl rfl rfl rfl uq_43 fX8_isLine_p_54 dX8_isLine_91 ?_
      refine A_iloadn C dX8_isLine_94 1 rfl rfl ?_
      refine A_iconst C dX8_isLine_95 ?_
      refine A_iadd C dX8_isLine_96 ?_
      refine G_iald C W kd_123 rfl rfl (by decide) (fun _ => rfl) (by omega) (by omega) dX8_isLine_97 (fun z5 ez5 lz5 uz5 => ?_)
      refine A_callV C (n := 3) (st := []) (kX8_can  (by omega) (by omega) (by omega)) gX8_isLine_X8_can rfl (by decide +kernel) ⟨Nat.le_of_ble_eq_true rfl, Nat.le_of_ble_eq_true rfl⟩ kd_110 rfl rfl rfl rfl (Nat.le_of_ble_eq_true rfl) dX8_isLine_98 rfl W (fun r6 M7 h8 => ?_)
      obtain ⟨z10, rfl, lz10, uz10, rfl, xx9⟩ := h8
      refine A_st (st' := [.int (iI z10)]) rfl ?_
      refine A_ifne C 106 dX8_isLine_101 (by decide) (by omega) (fun c11 => ?_) (fun c11 => ?_)
      · skip
        refine A_iinc (lv' := [(1, .int (iI (v1 + 1))), (0, .ref 110)]) C dX8_isLine_106 1 rfl (by decide) rfl ?_
        refine A_goto C 67 dX8_isLine_109 (by decide) ?_
        refine A_pick [1, 0] rfl ?_
        exact ih (v1 + 1) (by omega) (by omega) (LnOk_s h2 (by omega) ez4 ez5 (xx9.mp (by omega)))
      · skip
        refine A_iconst C dX8_isLine_104 ?_
        exact A_zret C (by omega) dX8_isLine_105 ⟨0, rfl, by omega, by omega, rfl, fun hh => absurd hh (by decide)⟩
set_option maxHeartbeats 4000000 in
theorem kX8_isLine_p   : Ct yX8_isLine wsX8_isLine 2 [.ref 110] (fun M => WF M ∧ (M.1 110 16 + M.1 110 17 ≤ M.1 110 0 + 1)) (fun M r M' => ∃ z : Int, r = some (.int (iI z)) ∧ (0 : Int) ≤ z ∧ z ≤ 1 ∧ M = M' ∧ (z = 1 → (0 ≤ M.1 110 16 ∧ 2 ≤ M.1 110 17 ∧ LnOk M (M.1 110 17 - 1)))) := by
  refine Ct_of (cc := cX8_isLine) (nL := 2) (rt := (some .boolean)) (own := RX8) rfl (by decide) rfl (Nat.le_of_ble_eq_true rfl) ?_
  intro p l e s m args below meth c G M0 C W
  obtain ⟨W, hM⟩ := W
  have E : Fr [] M0 M0 := Fr.rf
  refine A_lv (lv' := [(0, .ref 110)]) rfl ?_
  have fa_110_0 : (0 : Int) ≤ M0.1 110 0 ∧ M0.1 110 0 ≤ 12 := W.i kd_110 0
  refine A_aloadn C dX8_isLine_0 0 rfl rfl ?_
  refine G_getI C W kd_110 rfl rfl rfl rfl rfl fX8_isLine_p_51 rfl dX8_isLine_1 (fun z12 ez12 lz12 uz12 => ?_)
  refine A_iflt C 63 dX8_isLine_4 (by decide) (by omega) (fun c13 => ?_) (fun c13 => ?_)
  · skip
    refine A_iconst C dX8_isLine_63 ?_
    exact A_zret C (by omega) dX8_isLine_64 ⟨0, rfl, by omega, by omega, rfl, fun hh => absurd hh (by decide)⟩
  · skip
    refine A_aloadn C dX8_isLine_7 0 rfl rfl ?_
    refine G_getI C W kd_110 rfl rfl rfl rfl rfl fX8_isLine_p_82 rfl dX8_isLine_8 (fun z14 ez14 lz14 uz14 => ?_)
    refine A_iconst C dX8_isLine_11 ?_
    refine A_icmplt C 63 dX8_isLine_12 (by decide) (by omega) (by omega) (fun c15 => ?_) (fun c15 => ?_)
    · skip
      refine A_iconst C dX8_isLine_63 ?_
      exact A_zret C (by omega) dX8_isLine_64 ⟨0, rfl, by omega, by omega, rfl, fun hh => absurd hh (by decide)⟩
    · skip
      refine A_aloadn C dX8_isLine_15 0 rfl rfl ?_
      refine G_getC C W kd_110 rfl rfl rfl rfl uq_43 fX8_isLine_p_54 dX8_isLine_16 ?_
      refine A_iconst C dX8_isLine_19 ?_
      refine G_iald C W kd_123 rfl rfl (by decide) (fun _ => rfl) (by omega) (by omega) dX8_isLine_20 (fun z16 ez16 lz16 uz16 => ?_)
      refine A_aloadn C dX8_isLine_21 0 rfl rfl ?_
      refine G_getC C W kd_110 rfl rfl rfl rfl uq_36 fX8_isLine_p_30 dX8_isLine_22 ?_
      refine A_aloadn C dX8_isLine_25 0 rfl rfl ?_
      refine G_getI C W kd_110 rfl rfl rfl rfl rfl fX8_isLine_p_51 rfl dX8_isLine_26 (fun z17 ez17 lz17 uz17 => ?_)
      refine G_iald C W kd_116 rfl rfl (by decide) (fun _ => rfl) (by omega) (by omega) dX8_isLine_29 (fun z18 ez18 lz18 uz18 => ?_)
      refine A_icmpne C 63 dX8_isLine_30 (by decide) (by omega) (by omega) (fun c19 => ?_) (fun c19 => ?_)
      · skip
        refine A_iconst C dX8_isLine_63 ?_
        exact A_zret C (by omega) dX8_isLine_64 ⟨0, rfl, by omega, by omega, rfl, fun hh => absurd hh (by decide)⟩
      · skip
        refine A_aloadn C dX8_isLine_33 0 rfl rfl ?_
        refine G_getC C W kd_110 rfl rfl rfl rfl uq_43 fX8_isLine_p_54 dX8_isLine_34 ?_
        refine A_aloadn C dX8_isLine_37 0 rfl rfl ?_
        refine G_getI C W kd_110 rfl rfl rfl rfl rfl fX8_isLine_p_82 rfl dX8_isLine_38 (fun z20 ez20 lz20 uz20 => ?_)
        refine A_iconst C dX8_isLine_41 ?_
        refine A_isub C dX8_isLine_42 ?_
        refine G_iald C W kd_123 rfl rfl (by decide) (fun _ => rfl) (by omega) (by omega) dX8_isLine_43 (fun z21 ez21 lz21 uz21 => ?_)
        refine A_aloadn C dX8_isLine_44 0 rfl rfl ?_
        refine G_getC C W kd_110 rfl rfl rfl rfl uq_36 fX8_isLine_p_30 dX8_isLine_45 ?_
        refine A_aloadn C dX8_isLine_48 0 rfl rfl ?_
        refine G_getI C W kd_110 rfl rfl rfl rfl rfl fX8_isLine_p_51 rfl dX8_isLine_49 (fun z22 ez22 lz22 uz22 => ?_)
        refine A_aloadn C dX8_isLine_52 0 rfl rfl ?_
        refine G_getI C W kd_110 rfl rfl rfl rfl rfl fX8_isLine_p_82 rfl dX8_isLine_53 (fun z23 ez23 lz23 uz23 => ?_)
        refine A_iadd C dX8_isLine_56 ?_
        refine A_iconst C dX8_isLine_57 ?_
        refine A_isub C dX8_isLine_58 ?_
        refine G_iald C W kd_116 rfl rfl (by decide) (fun _ => rfl) (by omega) (by omega) dX8_isLine_59 (fun z24 ez24 lz24 uz24 => ?_)
        refine A_icmpeq C 65 dX8_isLine_60 (by decide) (by omega) (by omega) (fun c25 => ?_) (fun c25 => ?_)
        · skip
          refine A_iconst C dX8_isLine_65 ?_
          refine A_istoren (lv' := [(1, .int (iI 0)), (0, .ref 110)]) C dX8_isLine_66 rfl (by decide) rfl ?_
          refine A_pick [1, 0] rfl ?_
          exact lpX8_isLine_p_67 C   W ((14 - (0 : Int)).toNat + 1) 0 (by omega) (by omega) LnOk_0
        · skip
          refine A_iconst C dX8_isLine_63 ?_
          exact A_zret C (by omega) dX8_isLine_64 ⟨0, rfl, by omega, by omega, rfl, fun hh => absurd hh (by decide)⟩

theorem uX8_share_8 : ∀ w ∈ u_ws RX8 TX8 35, w ∈ wsX8_share := by decide +kernel
theorem fX8_share_82 : Fl RX8 wsX8_share 8 17 82 RX8 TX8 35 := ⟨rfl, by decide, uX8_share_8, by decide +kernel⟩
theorem fX8_share_51 : Fl RX8 wsX8_share 8 16 51 RX8 TX8 35 := ⟨rfl, by decide, uX8_share_8, by decide +kernel⟩
theorem fX8_share_54 : Fl RX8 wsX8_share 8 18 54 RX8 TX8 35 := ⟨rfl, by decide, uX8_share_8, by decide +kernel⟩
theorem fX8_share_76 : Fl RX8 wsX8_share 8 19 76 RX8 TX8 35 := ⟨rfl, by decide, uX8_share_8, by decide +kernel⟩
set_option maxHeartbeats 4000000 in
theorem lpX8_share_36 {p : Program} {l : Launch} {e : Env} {s : State} {m : MethodId} {args : Array Value} {below : List Frame} {meth : Method} {c : Code} {G : xG} (C : Cx p s m args meth c G cX8_share 8 RX8 wsX8_share (some .long))  {x1 : Int} (hx1 : (-2147483648 : Int) ≤ x1 ∧ x1 ≤ 2147483647) {M0 : Mem} : ∀ (n : Nat) (v2 v4 v6 : Int) (M : Mem), (13 - v6).toNat < n → (0 ≤ v2 ∧ v2 ≤ 596691 * v6 ∧ -412560 * v6 ≤ v4 ∧ v4 ≤ 412560 * v6 ∧ 0 ≤ v6 ∧ v6 ≤ 12 ∧ 0 ≤ M.1 110 16 ∧ 2 ≤ M.1 110 17 ∧ M.1 110 16 + M.1 110 17 ≤ M.1 110 0 + 1 ∧ M.1 110 0 = M0.1 110 0 ∧ M.1 110 12 = M0.1 110 12 ∧ M.1 110 16 = M0.1 110 16 ∧ M.1 110 17 = M0.1 110 17) → (LnOk M (M.1 110 17 - 1)) → WF M → Fr [30] M0 M → AW p l e (rmD 3) s m args below meth c G 8 (QQ G below args s ((fun M r M' => ∃ z : Int, r = some (.long (lL z)) ∧ r64 z ∧ WF M' ∧ Fr [30] M M' ∧ (M'.1 110 0 = M.1 110 0 ∧ M'.1 110 12 = M.1 110 12 ∧ M'.1 110 16 = M.1 110 16 ∧ M'.1 110 17 = M.1 110 17) ∧ M'.1 110 16 + M'.1 110 17 ≤ M'.1 110 0 + 1) M0)) M 36 [(0, .ref 110), (1, .int (iI x1)), (2, .long (lL v2)), (4, .long (lL v4)), (6, .int (iI v6))] [] := by
  intro n
  induction n with
  | zero => intro v2 v4 v6 M hn; exact absurd hn (Nat.not_lt_zero _)
  | succ n ih =>
    intro v2 v4 v6 M hn hi h2 W E
    have fa_110_0 : (0 : Int) ≤ M.1 110 0 ∧ M.1 110 0 ≤ 12 := W.i kd_110 0
    have fa_110_16 : (-1 : Int) ≤ M.1 110 16 ∧ M.1 110 16 ≤ 11 := W.i kd_110 16
    have fa_110_17 : (0 : Int) ≤ M.1 110 17 ∧ M.1 110 17 ≤ 13 := W.i kd_110 17
    refine A_iload C dX8_share_36 4 rfl ?_
    refine A_aloadn C dX8_share_38 0 rfl rfl ?_
    refine G_getI C W kd_110 rfl rfl rfl rfl rfl fX8_share_82 rfl dX8_share_39 (fun z1 ez1 lz1 uz1 => ?_)
    refine A_iconst C dX8_share_42 ?_
    refine A_isub C dX8_share_43 ?_
    refine A_icmpge C 115 dX8_share_44 (by decide) (by omega) (by omega) (fun c2 => ?_) (fun c2 => ?_)
    · skip
      refine A_iloadn C dX8_share_115 1 rfl rfl ?_
      refine A_ifne C 121 dX8_share_116 (by decide) (by omega) (fun c3 => ?_) (fun c3 => ?_)
      · skip
        refine A_iloadn C dX8_share_121 1 rfl rfl ?_
        refine A_iconst C dX8_share_122 ?_
        refine A_icmpne C 129 dX8_share_123 (by decide) (by omega) (by omega) (fun c4 => ?_) (fun c4 => ?_)
        · skip
          refine A_lload C dX8_share_129 3 rfl ?_
          refine A_lconst0 C dX8_share_131 ?_
          refine A_lcmp C (by omega) (by omega) dX8_share_132 (fun z5 cz5 => ?_)
          refine A_ifgt C 143 dX8_share_133 (by decide) (by omega) (fun c6 => ?_) (fun c6 => ?_)
          · skip
            refine A_lloadn C dX8_share_143 2 rfl rfl ?_
            refine A_lload C dX8_share_144 3 rfl ?_
            refine A_callS C (n := 2) (st := []) (kX8_divisor  (by omega) (by omega) (by omega)) gX8_share_X8_divisor rfl (by decide +kernel) ⟨Nat.le_of_ble_eq_true rfl, Nat.le_of_ble_eq_true rfl⟩ rfl (Nat.le_of_ble_eq_true rfl) dX8_share_146 rfl W (fun r7 M8 h9 => ?_)
            obtain ⟨z11, rfl, rz11, rfl, xx10⟩ := h9
            refine A_st (st' := [.long (lL z11)]) rfl ?_
            refine A_lstore (lv' := [(6, .long (lL z11)), (0, .ref 110), (1, .int (iI x1)), (2, .long (lL v2)), (4, .long (lL v4))]) C dX8_share_149 (by decide) rfl ?_
            refine A_iloadn C dX8_share_151 2 rfl rfl ?_
            refine A_iconst C dX8_share_152 ?_
            refine A_icmpne C 163 dX8_share_153 (by decide) (by omega) (by omega) (fun c12 => ?_) (fun c12 => ?_)
            · skip
              refine A_lload C dX8_share_163 4 rfl ?_
              refine A_lload C dX8_share_165 0 rfl ?_
              refine A_ldiv C (by omega) (by omega) (by omega) (by omega) dX8_share_167 (fun z13 ez13 lz13 uz13 => ?_)
              exact A_lret C dX8_share_168 ⟨z13, rfl, by omega, W, E, by omega⟩
            · skip
              refine A_lloadn C dX8_share_156 3 rfl rfl ?_
              refine A_lload C dX8_share_157 0 rfl ?_
              refine A_ldiv C (by omega) (by omega) (by omega) (by omega) dX8_share_159 (fun z14 ez14 lz14 uz14 => ?_)
              refine A_goto C 168 dX8_share_160 (by decide) ?_
              exact A_lret C dX8_share_168 ⟨z14, rfl, by omega, W, E, by omega⟩
          · skip
            refine A_aloadn C dX8_share_136 0 rfl rfl ?_
            refine A_iconst C dX8_share_137 ?_
            refine A_callV C (n := 1) (st := []) (kX8_fails  (by omega)) gX8_share_X8_fails rfl (by decide +kernel) ⟨Nat.le_of_ble_eq_true rfl, Nat.le_of_ble_eq_true rfl⟩ kd_110 rfl rfl rfl rfl (Nat.le_of_ble_eq_true rfl) dX8_share_138 rfl W (fun r15 M16 h17 => ?_)
            obtain ⟨z19, rfl, lz19, uz19, WM16, FM16, xx18⟩ := h17
            have EM16 := Fr.tr E (FM16.mono (c2 := [30]) rfl)
            refine A_st (st' := [.int (iI z19)]) rfl ?_
            refine A_i2l C (by omega) dX8_share_141 ?_
            exact A_lret C dX8_share_142 ⟨z19, rfl, by omega, WM16, EM16, by omega⟩
        · skip
          refine A_lload C dX8_share_126 3 rfl ?_
          exact A_lret C dX8_share_128 ⟨v4, rfl, by omega, W, E, by omega⟩
      · skip
        refine A_lloadn C dX8_share_119 2 rfl rfl ?_
        exact A_lret C dX8_share_120 ⟨v2, rfl, by omega, W, E, by omega⟩
    · skip
      refine A_lloadn C dX8_share_47 2 rfl rfl ?_
      have hlo := can_lt W (h2 v6 (by omega) (by omega))
      refine A_aloadn C dX8_share_48 0 rfl rfl ?_
      refine A_aloadn C dX8_share_49 0 rfl rfl ?_
      refine G_getI C W kd_110 rfl rfl rfl rfl rfl fX8_share_51 rfl dX8_share_50 (fun z20 ez20 lz20 uz20 => ?_)
      refine A_iload C dX8_share_53 4 rfl ?_
      refine A_iadd C dX8_share_55 ?_
      refine A_aloadn C dX8_share_56 0 rfl rfl ?_
      refine G_getC C W kd_110 rfl rfl rfl rfl uq_43 fX8_share_54 dX8_share_57 ?_
      refine A_iload C dX8_share_60 4 rfl ?_
      refine G_iald C W kd_123 rfl rfl (by decide) (fun _ => rfl) (by omega) (by omega) dX8_share_62 (fun z21 ez21 lz21 uz21 => ?_)
      refine A_aloadn C dX8_share_63 0 rfl rfl ?_
      refine G_getC C W kd_110 rfl rfl rfl rfl uq_43 fX8_share_54 dX8_share_64 ?_
      refine A_iload C dX8_share_67 4 rfl ?_
      refine A_iconst C dX8_share_69 ?_
      refine A_iadd C dX8_share_70 ?_
      refine G_iald C W kd_123 rfl rfl (by decide) (fun _ => rfl) (by omega) (by omega) dX8_share_71 (fun z22 ez22 lz22 uz22 => ?_)
      refine A_callV C (n := 3) (st := [.long (lL v2)]) (kX8_holds  (by omega) (by omega) (by omega) (by omega)) gX8_share_X8_holds rfl (by decide +kernel) ⟨Nat.le_of_ble_eq_true rfl, Nat.le_of_ble_eq_true rfl⟩ kd_110 rfl rfl rfl rfl (Nat.le_of_ble_eq_true rfl) dX8_share_72 rfl W (fun r23 M24 h25 => ?_)
      obtain ⟨z27, rfl, rz27, rfl, xx26⟩ := h25
      refine A_st (st' := [.long (lL z27), .long (lL v2)]) rfl ?_
      refine A_ladd C dX8_share_75 ?_
      refine A_naml (fun z28 ez28 => ?_)
      refine A_lstoren (lv' := [(2, .long (lL z28)), (0, .ref 110), (1, .int (iI x1)), (4, .long (lL v4)), (6, .int (iI v6))]) C dX8_share_76 rfl (by decide) rfl ?_
      refine A_lload C dX8_share_77 3 rfl ?_
      refine A_aloadn C dX8_share_79 1 rfl rfl ?_
      refine A_aloadn C dX8_share_80 1 rfl rfl ?_
      refine G_getI C W kd_110 rfl rfl rfl rfl rfl fX8_share_51 rfl dX8_share_81 (fun z29 ez29 lz29 uz29 => ?_)
      refine A_iload C dX8_share_84 4 rfl ?_
      refine A_iadd C dX8_share_86 ?_
      refine A_aloadn C dX8_share_87 1 rfl rfl ?_
      refine G_getC C W kd_110 rfl rfl rfl rfl uq_43 fX8_share_54 dX8_share_88 ?_
      refine A_iload C dX8_share_91 4 rfl ?_
      refine G_iald C W kd_123 rfl rfl (by decide) (fun _ => rfl) (by omega) (by omega) dX8_share_93 (fun z30 ez30 lz30 uz30 => ?_)
      refine A_aloadn C dX8_share_94 1 rfl rfl ?_
      refine G_getC C W kd_110 rfl rfl rfl rfl uq_43 fX8_share_54 dX8_share_95 ?_
      refine A_iload C dX8_share_98 4 rfl ?_
      refine A_iconst C dX8_share_100 ?_
      refine A_iadd C dX8_share_101 ?_
      refine G_iald C W kd_123 rfl rfl (by decide) (fun _ => rfl) (by omega) (by omega) dX8_share_102 (fun z31 ez31 lz31 uz31 => ?_)
      refine A_callV C (n := 3) (st := [.long (lL v4)]) (kX8_drives  (by omega) (by omega) (by omega)) gX8_share_X8_drives rfl (by decide +kernel) ⟨Nat.le_of_ble_eq_true rfl, Nat.le_of_ble_eq_true rfl⟩ kd_110 rfl rfl rfl rfl (Nat.le_of_ble_eq_true rfl) dX8_share_103 rfl W (fun r32 M33 h34 => ?_)
      obtain ⟨z36, rfl, rz36, rfl, xx35⟩ := h34
      refine A_st (st' := [.long (lL z36), .long (lL v4)]) rfl ?_
      refine A_ladd C dX8_share_106 ?_
      refine A_naml (fun z37 ez37 => ?_)
      refine A_lstore (lv' := [(4, .long (lL z37)), (2, .long (lL z28)), (0, .ref 110), (1, .int (iI x1)), (6, .int (iI v6))]) C dX8_share_107 (by decide) rfl ?_
      refine A_iinc (lv' := [(6, .int (iI (v6 + 1))), (4, .long (lL z37)), (2, .long (lL z28)), (0, .ref 110), (1, .int (iI x1))]) C dX8_share_109 4 rfl (by decide) rfl ?_
      refine A_goto C 36 dX8_share_112 (by decide) ?_
      refine A_pick [3, 4, 2, 1, 0] rfl ?_
      exact ih z28 z37 (v6 + 1) M (by omega) (by omega) h2 W E
set_option maxHeartbeats 4000000 in
theorem kX8_share  {x1 : Int} (hx1 : (-2147483648 : Int) ≤ x1 ∧ x1 ≤ 2147483647) : Ct yX8_share wsX8_share 3 [.ref 110, .int (iI x1)] (fun M => WF M ∧ (M.1 110 16 + M.1 110 17 ≤ M.1 110 0 + 1)) (fun M r M' => ∃ z : Int, r = some (.long (lL z)) ∧ r64 z ∧ WF M' ∧ Fr [30] M M' ∧ (M'.1 110 0 = M.1 110 0 ∧ M'.1 110 12 = M.1 110 12 ∧ M'.1 110 16 = M.1 110 16 ∧ M'.1 110 17 = M.1 110 17) ∧ M'.1 110 16 + M'.1 110 17 ≤ M'.1 110 0 + 1) := by
  refine Ct_of (cc := cX8_share) (nL := 8) (rt := (some .long)) (own := RX8) rfl (by decide) rfl (Nat.le_of_ble_eq_true rfl) ?_
  intro p l e s m args below meth c G M0 C W
  obtain ⟨W, hM⟩ := W
  have E : Fr [30] M0 M0 := Fr.rf
  refine A_lv (lv' := [(0, .ref 110), (1, .int (iI x1))]) rfl ?_
  have fa_110_0 : (0 : Int) ≤ M0.1 110 0 ∧ M0.1 110 0 ≤ 12 := W.i kd_110 0
  have fa_110_16 : (-1 : Int) ≤ M0.1 110 16 ∧ M0.1 110 16 ≤ 11 := W.i kd_110 16
  have fa_110_17 : (0 : Int) ≤ M0.1 110 17 ∧ M0.1 110 17 ≤ 13 := W.i kd_110 17
  refine A_aloadn C dX8_share_0 0 rfl rfl ?_
  refine A_iconst C dX8_share_1 ?_
  refine G_putI C W E kd_110 rfl rfl rfl rfl rfl fX8_share_76 ⟨tyX8_ok, nmX8, rfl, by decide⟩ (Or.inl rfl) rfl rfl (by omega) (by omega) dX8_share_2 (fun M38 eM38 WM38 EM38 => ?_)
  have t_M38_110_0 : M38.1 110 0 = M0.1 110 0 := by rw [eM38]; exact sI_pl rfl
  have t_M38_110_11 : M38.1 110 11 = M0.1 110 11 := by rw [eM38]; exact sI_pl rfl
  have t_M38_110_12 : M38.1 110 12 = M0.1 110 12 := by rw [eM38]; exact sI_pl rfl
  have t_M38_110_16 : M38.1 110 16 = M0.1 110 16 := by rw [eM38]; exact sI_pl rfl
  have t_M38_110_17 : M38.1 110 17 = M0.1 110 17 := by rw [eM38]; exact sI_pl rfl
  refine A_aloadn C dX8_share_5 0 rfl rfl ?_
  refine A_callV C (n := 0) (st := []) (kX8_isLine_p ) gX8_share_X8_isLine rfl (by decide +kernel) ⟨Nat.le_of_ble_eq_true rfl, Nat.le_of_ble_eq_true rfl⟩ kd_110 rfl rfl rfl rfl (Nat.le_of_ble_eq_true rfl) dX8_share_6 rfl ⟨WM38, by omega⟩ (fun r39 M40 h41 => ?_)
  obtain ⟨z43, rfl, lz43, uz43, rfl, xx42⟩ := h41
  refine A_st (st' := [.int (iI z43)]) rfl ?_
  refine A_ifeq C 21 dX8_share_9 (by decide) (by omega) (fun c44 => ?_) (fun c44 => ?_)
  · skip
    refine A_aloadn C dX8_share_21 0 rfl rfl ?_
    refine A_iconst C dX8_share_22 ?_
    refine A_callV C (n := 1) (st := []) (kX8_fails  (by omega)) gX8_share_X8_fails rfl (by decide +kernel) ⟨Nat.le_of_ble_eq_true rfl, Nat.le_of_ble_eq_true rfl⟩ kd_110 rfl rfl rfl rfl (Nat.le_of_ble_eq_true rfl) dX8_share_23 rfl WM38 (fun r45 M46 h47 => ?_)
    obtain ⟨z49, rfl, lz49, uz49, WM46, FM46, xx48⟩ := h47
    have EM46 := Fr.tr EM38 (FM46.mono (c2 := [30]) rfl)
    refine A_st (st' := [.int (iI z49)]) rfl ?_
    refine A_i2l C (by omega) dX8_share_26 ?_
    exact A_lret C dX8_share_27 ⟨z49, rfl, by omega, WM46, EM46, by omega⟩
  · skip
    refine A_iloadn C dX8_share_12 1 rfl rfl ?_
    refine A_iflt C 21 dX8_share_13 (by decide) (by omega) (fun c50 => ?_) (fun c50 => ?_)
    · skip
      refine A_aloadn C dX8_share_21 0 rfl rfl ?_
      refine A_iconst C dX8_share_22 ?_
      refine A_callV C (n := 1) (st := []) (kX8_fails  (by omega)) gX8_share_X8_fails rfl (by decide +kernel) ⟨Nat.le_of_ble_eq_true rfl, Nat.le_of_ble_eq_true rfl⟩ kd_110 rfl rfl rfl rfl (Nat.le_of_ble_eq_true rfl) dX8_share_23 rfl WM38 (fun r51 M52 h53 => ?_)
      obtain ⟨z55, rfl, lz55, uz55, WM52, FM52, xx54⟩ := h53
      have EM52 := Fr.tr EM38 (FM52.mono (c2 := [30]) rfl)
      refine A_st (st' := [.int (iI z55)]) rfl ?_
      refine A_i2l C (by omega) dX8_share_26 ?_
      exact A_lret C dX8_share_27 ⟨z55, rfl, by omega, WM52, EM52, by omega⟩
    · skip
      refine A_iloadn C dX8_share_16 1 rfl rfl ?_
      refine A_iconst C dX8_share_17 ?_
      refine A_icmple C 28 dX8_share_18 (by decide) (by omega) (by omega) (fun c56 => ?_) (fun c56 => ?_)
      · skip
        refine A_lconst0 C dX8_share_28 ?_
        refine A_lstoren (lv' := [(2, .long (lL 0)), (0, .ref 110), (1, .int (iI x1))]) C dX8_share_29 rfl (by decide) rfl ?_
        refine A_lconst0 C dX8_share_30 ?_
        refine A_lstore (lv' := [(4, .long (lL 0)), (2, .long (lL 0)), (0, .ref 110), (1, .int (iI x1))]) C dX8_share_31 (by decide) rfl ?_
        refine A_iconst C dX8_share_33 ?_
        refine A_istore (lv' := [(6, .int (iI 0)), (4, .long (lL 0)), (2, .long (lL 0)), (0, .ref 110), (1, .int (iI x1))]) C dX8_share_34 (by decide) rfl ?_
        refine A_pick [3, 4, 2, 1, 0] rfl ?_
        exact lpX8_share_36 C  hx1 ((13 - (0 : Int)).toNat + 1) 0 0 0 M38 (by omega) (by omega) (xx42 (by omega)).2.2 WM38 EM38
      · skip
        refine A_aloadn C dX8_share_21 0 rfl rfl ?_
        refine A_iconst C dX8_share_22 ?_
        refine A_callV C (n := 1) (st := []) (kX8_fails  (by omega)) gX8_share_X8_fails rfl (by decide +kernel) ⟨Nat.le_of_ble_eq_true rfl, Nat.le_of_ble_eq_true rfl⟩ kd_110 rfl rfl rfl rfl (Nat.le_of_ble_eq_true rfl) dX8_share_23 rfl WM38 (fun r57 M58 h59 => ?_)
        obtain ⟨z61, rfl, lz61, uz61, WM58, FM58, xx60⟩ := h59
        have EM58 := Fr.tr EM38 (FM58.mono (c2 := [30]) rfl)
        refine A_st (st' := [.int (iI z61)]) rfl ?_
        refine A_i2l C (by omega) dX8_share_26 ?_
        exact A_lret C dX8_share_27 ⟨z61, rfl, by omega, WM58, EM58, by omega⟩
