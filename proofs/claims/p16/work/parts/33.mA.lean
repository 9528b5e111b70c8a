theorem uX8_isColumn_8 : ∀ w ∈ u_ws RX8 TX8 35, w ∈ wsX8_isColumn := by decide +kernel
theorem fX8_isColumn_7 : Fl RX8 wsX8_isColumn 8 0 7 RX8 TX8 35 := ⟨rfl, by decide, uX8_isColumn_8, by decide +kernel⟩
set_option maxHeartbeats 4000000 in
theorem kX8_isColumn  {x1 : Int} (hx1 : (-2147483648 : Int) ≤ x1 ∧ x1 ≤ 2147483647) : Ct yX8_isColumn wsX8_isColumn 1 [.ref 110, .int (iI x1)] (fun M => WF M) (fun M r M' => ∃ z : Int, r = some (.int (iI z)) ∧ (0 : Int) ≤ z ∧ z ≤ 1 ∧ M = M' ∧ (z = 1 → (0 ≤ x1 ∧ x1 ≤ 11)) ∧ (z = 1 ↔ (0 ≤ x1 ∧ x1 < M.1 110 0))) := by
  refine Ct_of (cc := cX8_isColumn) (nL := 2) (rt := (some .boolean)) (own := RX8) rfl (by decide) rfl (Nat.le_of_ble_eq_true rfl) ?_
  intro p l e s m args below meth c G M0 C W
  have E : Fr [] M0 M0 := Fr.rf
  refine A_lv (lv' := [(0, .ref 110), (1, .int (iI x1))]) rfl ?_
  have fa_110_0 : (0 : Int) ≤ M0.1 110 0 ∧ M0.1 110 0 ≤ 12 := W.i kd_110 0
  refine A_iloadn C dX8_isColumn_0 1 rfl rfl ?_
  refine A_iflt C 16 dX8_isColumn_1 (by decide) (by omega) (fun c1 => ?_) (fun c1 => ?_)
  · skip
    refine A_iconst C dX8_isColumn_16 ?_
    exact A_zret C (by omega) dX8_isColumn_17 ⟨0, rfl, by omega, by omega, rfl, by omega⟩
  · skip
    refine A_iloadn C dX8_isColumn_4 1 rfl rfl ?_
    refine A_aloadn C dX8_isColumn_5 0 rfl rfl ?_
    refine G_getI C W kd_110 rfl rfl rfl rfl rfl fX8_isColumn_7 rfl dX8_isColumn_6 (fun z2 ez2 lz2 uz2 => ?_)
    refine A_icmpge C 16 dX8_isColumn_9 (by decide) (by omega) (by omega) (fun c3 => ?_) (fun c3 => ?_)
    · skip
      refine A_iconst C dX8_isColumn_16 ?_
      exact A_zret C (by omega) dX8_isColumn_17 ⟨0, rfl, by omega, by omega, rfl, by omega⟩
    · skip
      refine A_iconst C dX8_isColumn_12 ?_
      refine A_goto C 17 dX8_isColumn_13 (by decide) ?_
      exact A_zret C (by omega) dX8_isColumn_17 ⟨1, rfl, by omega, by omega, rfl, by omega⟩

theorem uX8_fails_8 : ∀ w ∈ u_ws RX8 TX8 35, w ∈ wsX8_fails := by decide +kernel
theorem fX8_fails_76 : Fl RX8 wsX8_fails 8 19 76 RX8 TX8 35 := ⟨rfl, by decide, uX8_fails_8, by decide +kernel⟩
set_option maxHeartbeats 4000000 in
theorem kX8_fails  {x1 : Int} (hx1 : (-2147483648 : Int) ≤ x1 ∧ x1 ≤ 2147483647) : Ct yX8_fails wsX8_fails 1 [.ref 110, .int (iI x1)] (fun M => WF M) (fun M r M' => ∃ z : Int, r = some (.int (iI z)) ∧ (-2147483648 : Int) ≤ z ∧ z ≤ 2147483647 ∧ WF M' ∧ Fr [30] M M' ∧ (M'.1 110 0 = M.1 110 0 ∧ M'.1 110 11 = M.1 110 11 ∧ M'.1 110 12 = M.1 110 12 ∧ M'.1 110 16 = M.1 110 16 ∧ M'.1 110 17 = M.1 110 17)) := by
  refine Ct_of (cc := cX8_fails) (nL := 2) (rt := (some .int)) (own := RX8) rfl (by decide) rfl (Nat.le_of_ble_eq_true rfl) ?_
  intro p l e s m args below meth c G M0 C W
  have E : Fr [30] M0 M0 := Fr.rf
  refine A_lv (lv' := [(0, .ref 110), (1, .int (iI x1))]) rfl ?_
  refine A_aloadn C dX8_fails_0 0 rfl rfl ?_
  refine A_iloadn C dX8_fails_1 1 rfl rfl ?_
  refine G_putI C W E kd_110 rfl rfl rfl rfl rfl fX8_fails_76 ⟨tyX8_ok, nmX8, rfl, by decide⟩ (Or.inl rfl) rfl rfl (by omega) (by omega) dX8_fails_2 (fun M1 eM1 WM1 EM1 => ?_)
  have t_M1_110_0 : M1.1 110 0 = M0.1 110 0 := by rw [eM1]; exact sI_pl rfl
  have t_M1_110_11 : M1.1 110 11 = M0.1 110 11 := by rw [eM1]; exact sI_pl rfl
  have t_M1_110_12 : M1.1 110 12 = M0.1 110 12 := by rw [eM1]; exact sI_pl rfl
  have t_M1_110_16 : M1.1 110 16 = M0.1 110 16 := by rw [eM1]; exact sI_pl rfl
  have t_M1_110_17 : M1.1 110 17 = M0.1 110 17 := by rw [eM1]; exact sI_pl rfl
  refine A_iconst C dX8_fails_5 ?_
  exact A_iret C dX8_fails_6 ⟨0, rfl, by omega, by omega, WM1, EM1, by omega⟩

set_option maxHeartbeats 4000000 in
theorem kX8_areShares  {x0 : Int} {x1 : Int} (hx0 : (-2147483648 : Int) ≤ x0 ∧ x0 ≤ 2147483647) (hx1 : (-2147483648 : Int) ≤ x1 ∧ x1 ≤ 2147483647) : Ct yX8_areShares wsX8_areShares 1 [.int (iI x0), .int (iI x1)] (fun M => WF M) (fun M r M' => ∃ z : Int, r = some (.int (iI z)) ∧ (0 : Int) ≤ z ∧ z ≤ 1 ∧ M = M' ∧ (z = 1 ↔ (1 ≤ x0 ∧ x0 ≤ 1000 ∧ 1 ≤ x1 ∧ x1 ≤ 1000))) := by
  refine Ct_of (cc := cX8_areShares) (nL := 2) (rt := (some .boolean)) (own := RX8) rfl (by decide) rfl (Nat.le_of_ble_eq_true rfl) ?_
  intro p l e s m args below meth c G M0 C W
  have E : Fr [] M0 M0 := Fr.rf
  refine A_lv (lv' := [(0, .int (iI x0)), (1, .int (iI x1))]) rfl ?_
  refine A_iloadn C dX8_areShares_0 0 rfl rfl ?_
  refine A_iconst C dX8_areShares_1 ?_
  refine A_icmplt C 28 dX8_areShares_2 (by decide) (by omega) (by omega) (fun c1 => ?_) (fun c1 => ?_)
  · skip
    refine A_iconst C dX8_areShares_28 ?_
    exact A_zret C (by omega) dX8_areShares_29 ⟨0, rfl, by omega, by omega, rfl, by omega⟩
  · skip
    refine A_iloadn C dX8_areShares_5 0 rfl rfl ?_
    refine A_sipush C dX8_areShares_6 (by decide) ?_
    refine A_icmpgt C 28 dX8_areShares_9 (by decide) (by omega) (by omega) (fun c2 => ?_) (fun c2 => ?_)
    · skip
      refine A_iconst C dX8_areShares_28 ?_
      exact A_zret C (by omega) dX8_areShares_29 ⟨0, rfl, by omega, by omega, rfl, by omega⟩
    · skip
      refine A_iloadn C dX8_areShares_12 1 rfl rfl ?_
      refine A_iconst C dX8_areShares_13 ?_
      refine A_icmplt C 28 dX8_areShares_14 (by decide) (by omega) (by omega) (fun c3 => ?_) (fun c3 => ?_)
      · skip
        refine A_iconst C dX8_areShares_28 ?_
        exact A_zret C (by omega) dX8_areShares_29 ⟨0, rfl, by omega, by omega, rfl, by omega⟩
      · skip
        refine A_iloadn C dX8_areShares_17 1 rfl rfl ?_
        refine A_sipush C dX8_areShares_18 (by decide) ?_
        refine A_icmpgt C 28 dX8_areShares_21 (by decide) (by omega) (by omega) (fun c4 => ?_) (fun c4 => ?_)
        · skip
          refine A_iconst C dX8_areShares_28 ?_
          exact A_zret C (by omega) dX8_areShares_29 ⟨0, rfl, by omega, by omega, rfl, by omega⟩
        · skip
          refine A_iconst C dX8_areShares_24 ?_
          refine A_goto C 29 dX8_areShares_25 (by decide) ?_
          exact A_zret C (by omega) dX8_areShares_29 ⟨1, rfl, by omega, by omega, rfl, by omega⟩

theorem uX8_ground_8 : ∀ w ∈ u_ws RX8 TX8 35, w ∈ wsX8_ground := by decide +kernel
theorem fX8_ground_79 : Fl RX8 wsX8_ground 8 12 79 RX8 TX8 35 := ⟨rfl, by decide, uX8_ground_8, by decide +kernel⟩
theorem fX8_ground_51 : Fl RX8 wsX8_ground 8 16 51 RX8 TX8 35 := ⟨rfl, by decide, uX8_ground_8, by decide +kernel⟩
theorem fX8_ground_82 : Fl RX8 wsX8_ground 8 17 82 RX8 TX8 35 := ⟨rfl, by decide, uX8_ground_8, by decide +kernel⟩
theorem fX8_ground_30 : Fl RX8 wsX8_ground 8 7 30 RX8 TX8 35 := ⟨rfl, by decide, uX8_ground_8, by decide +kernel⟩
theorem fX8_ground_33 : Fl RX8 wsX8_ground 8 8 33 RX8 TX8 35 := ⟨rfl, by decide, uX8_ground_8, by decide +kernel⟩
theorem fX8_ground_36 : Fl RX8 wsX8_ground 8 9 36 RX8 TX8 35 := ⟨rfl, by decide, uX8_ground_8, by decide +kernel⟩
theorem fX8_ground_39 : Fl RX8 wsX8_ground 8 10 39 RX8 TX8 35 := ⟨rfl, by decide, uX8_ground_8, by decide +kernel⟩
theorem fX8_ground_76 : Fl RX8 wsX8_ground 8 19 76 RX8 TX8 35 := ⟨rfl, by decide, uX8_ground_8, by decide +kernel⟩
theorem fX8_ground_7 : Fl RX8 wsX8_ground 8 0 7 RX8 TX8 35 := ⟨rfl, by decide, uX8_ground_8, by decide +kernel⟩
set_option maxHeartbeats 4000000 in
theorem lpX8_ground_25 {p : Program} {l : Launch} {e : Env} {s : State} {m : MethodId} {args : Array Value} {below : List Frame} {meth : Method} {c : Code} {G : xG} (C : Cx p s m args meth c G cX8_ground 3 RX8 wsX8_ground (some .boolean))  {x1 : Int} (hx1 : (-2147483648 : Int) ≤ x1 ∧ x1 ≤ 2147483647) {M0 : Mem} : ∀ (n : Nat) (v2 : Int) (M : Mem), (25 - v2).toNat < n → (0 ≤ v2 ∧ v2 ≤ 24 ∧ (2 ≤ x1 ∧ x1 ≤ 12) ∧ M.1 110 0 = x1) → WF M → Fr [30, 36, 37, 38, 39] M0 M → AW p l e (rmD 1) s m args below meth c G 3 (QQ G below args s ((fun M r M' => ∃ z : Int, r = some (.int (iI z)) ∧ (0 : Int) ≤ z ∧ z ≤ 1 ∧ WF M' ∧ Fr [30, 36, 37, 38, 39] M M' ∧ (z = 1 ↔ (2 ≤ x1 ∧ x1 ≤ 12)) ∧ (z = 1 → (M'.1 110 0 = x1 ∧ M'.1 110 12 = 0 ∧ M'.1 110 16 = -1 ∧ M'.1 110 17 = 0)) ∧ (z = 0 → (M'.1 110 0 = M.1 110 0 ∧ M'.1 110 12 = M.1 110 12 ∧ M'.1 110 16 = M.1 110 16 ∧ M'.1 110 17 = M.1 110 17)) ∧ (M'.1 110 16 + M'.1 110 17 ≤ M'.1 110 0 + 1)) M0)) M 25 [(0, .ref 110), (2, .int (iI v2))] [] := by
  intro n
  induction n with
  | zero => intro v2 M hn; exact absurd hn (Nat.not_lt_zero _)
  | succ n ih =>
    intro v2 M hn hi W E
    have fa_110_0 : (0 : Int) ≤ M.1 110 0 ∧ M.1 110 0 ≤ 12 := W.i kd_110 0
    refine A_iloadn C dX8_ground_25 1 rfl rfl ?_
    refine A_bipush C dX8_ground_26 (by decide) ?_
    refine A_icmpge C 65 dX8_ground_28 (by decide) (by omega) (by omega) (fun c1 => ?_) (fun c1 => ?_)
    · skip
      refine A_aloadn C dX8_ground_65 0 rfl rfl ?_
      refine A_iconst C dX8_ground_66 ?_
      refine G_putI C W E kd_110 rfl rfl rfl rfl rfl fX8_ground_79 ⟨tyX8_ok, nmX8, rfl, by decide⟩ (Or.inl rfl) rfl rfl (by omega) (by omega) dX8_ground_67 (fun M2 eM2 WM2 EM2 => ?_)
      have t_M2_110_0 : M2.1 110 0 = M.1 110 0 := by rw [eM2]; exact sI_pl rfl
      have t_M2_110_11 : M2.1 110 11 = M.1 110 11 := by rw [eM2]; exact sI_pl rfl
      have t_M2_110_12 : M2.1 110 12 = 0 := by rw [eM2]; exact sI_at
      have t_M2_110_16 : M2.1 110 16 = M.1 110 16 := by rw [eM2]; exact sI_pl rfl
      have t_M2_110_17 : M2.1 110 17 = M.1 110 17 := by rw [eM2]; exact sI_pl rfl
      refine A_aloadn C dX8_ground_70 0 rfl rfl ?_
      refine A_iconst C dX8_ground_71 ?_
      refine G_putI C WM2 EM2 kd_110 rfl rfl rfl rfl rfl fX8_ground_51 ⟨tyX8_ok, nmX8, rfl, by decide⟩ (Or.inl rfl) rfl rfl (by omega) (by omega) dX8_ground_72 (fun M3 eM3 WM3 EM3 => ?_)
      have t_M3_110_0 : M3.1 110 0 = M2.1 110 0 := by rw [eM3]; exact sI_pl rfl
      have t_M3_110_11 : M3.1 110 11 = M2.1 110 11 := by rw [eM3]; exact sI_pl rfl
      have t_M3_110_12 : M3.1 110 12 = M2.1 110 12 := by rw [eM3]; exact sI_pl rfl
      have t_M3_110_16 : M3.1 110 16 = (-1) := by rw [eM3]; exact sI_at
      have t_M3_110_17 : M3.1 110 17 = M2.1 110 17 := by rw [eM3]; exact sI_pl rfl
      refine A_aloadn C dX8_ground_75 0 rfl rfl ?_
      refine A_iconst C dX8_ground_76 ?_
      refine G_putI C WM3 EM3 kd_110 rfl rfl rfl rfl rfl fX8_ground_82 ⟨tyX8_ok, nmX8, rfl, by decide⟩ (Or.inl rfl) rfl rfl (by omega) (by omega) dX8_ground_77 (fun M4 eM4 WM4 EM4 => ?_)
      have t_M4_110_0 : M4.1 110 0 = M3.1 110 0 := by rw [eM4]; exact sI_pl rfl
      have t_M4_110_11 : M4.1 110 11 = M3.1 110 11 := by rw [eM4]; exact sI_pl rfl
      have t_M4_110_12 : M4.1 110 12 = M3.1 110 12 := by rw [eM4]; exact sI_pl rfl
      have t_M4_110_16 : M4.1 110 16 = M3.1 110 16 := by rw [eM4]; exact sI_pl rfl
      have t_M4_110_17 : M4.1 110 17 = 0 := by rw [eM4]; exact sI_at
      refine A_iconst C dX8_ground_80 ?_
      exact A_zret C (by omega) dX8_ground_81 ⟨1, rfl, by omega, by omega, WM4, EM4, by omega⟩
    · skip
      refine A_aloadn C dX8_ground_31 0 rfl rfl ?_
      refine G_getC C W kd_110 rfl rfl rfl rfl uq_36 fX8_ground_30 dX8_ground_32 ?_
      refine A_iloadn C dX8_ground_35 1 rfl rfl ?_
      refine A_iconst C dX8_ground_36 ?_
      refine G_iast C W E kd_116 rfl rfl (by decide) (fun _ => rfl) rfl (by omega) (by omega) (by omega) (by omega) dX8_ground_37 (fun M5 eM5 WM5 EM5 => ?_)
      have t_M5_110_0 : M5.1 110 0 = M.1 110 0 := by rw [eM5]; exact sI_kd kd_110 kd_116 rfl
      have t_M5_110_11 : M5.1 110 11 = M.1 110 11 := by rw [eM5]; exact sI_kd kd_110 kd_116 rfl
      have t_M5_110_12 : M5.1 110 12 = M.1 110 12 := by rw [eM5]; exact sI_kd kd_110 kd_116 rfl
      have t_M5_110_16 : M5.1 110 16 = M.1 110 16 := by rw [eM5]; exact sI_kd kd_110 kd_116 rfl
      have t_M5_110_17 : M5.1 110 17 = M.1 110 17 := by rw [eM5]; exact sI_kd kd_110 kd_116 rfl
      refine A_aloadn C dX8_ground_38 0 rfl rfl ?_
      refine G_getC C WM5 kd_110 rfl rfl rfl rfl uq_37 fX8_ground_33 dX8_ground_39 ?_
      refine A_iloadn C dX8_ground_42 1 rfl rfl ?_
      refine A_iconst C dX8_ground_43 ?_
      refine G_iast C WM5 EM5 kd_117 rfl rfl (by decide) (fun _ => rfl) rfl (by omega) (by omega) (by omega) (by omega) dX8_ground_44 (fun M6 eM6 WM6 EM6 => ?_)
      have t_M6_110_0 : M6.1 110 0 = M5.1 110 0 := by rw [eM6]; exact sI_kd kd_110 kd_117 rfl
      have t_M6_110_11 : M6.1 110 11 = M5.1 110 11 := by rw [eM6]; exact sI_kd kd_110 kd_117 rfl
      have t_M6_110_12 : M6.1 110 12 = M5.1 110 12 := by rw [eM6]; exact sI_kd kd_110 kd_117 rfl
      have t_M6_110_16 : M6.1 110 16 = M5.1 110 16 := by rw [eM6]; exact sI_kd kd_110 kd_117 rfl
      have t_M6_110_17 : M6.1 110 17 = M5.1 110 17 := by rw [eM6]; exact sI_kd kd_110 kd_117 rfl
      refine A_aloadn C dX8_ground_45 0 rfl rfl ?_
      refine G_getC C WM6 kd_110 rfl rfl rfl rfl uq_38 fX8_ground_36 dX8_ground_46 ?_
      refine A_iloadn C dX8_ground_49 1 rfl rfl ?_
      refine A_iconst C dX8_ground_50 ?_
      refine G_iast C WM6 EM6 kd_118 rfl rfl (by decide) (fun _ => rfl) rfl (by omega) (by omega) (by omega) (by omega) dX8_ground_51 (fun M7 eM7 WM7 EM7 => ?_)
      have t_M7_110_0 : M7.1 110 0 = M6.1 110 0 := by rw [eM7]; exact sI_kd kd_110 kd_118 rfl
      have t_M7_110_11 : M7.1 110 11 = M6.1 110 11 := by rw [eM7]; exact sI_kd kd_110 kd_118 rfl
      have t_M7_110_12 : M7.1 110 12 = M6.1 110 12 := by rw [eM7]; exact sI_kd kd_110 kd_118 rfl
      have t_M7_110_16 : M7.1 110 16 = M6.1 110 16 := by rw [eM7]; exact sI_kd kd_110 kd_118 rfl
      have t_M7_110_17 : M7.1 110 17 = M6.1 110 17 := by rw [eM7]; exact sI_kd kd_110 kd_118 rfl
      refine A_aloadn C dX8_ground_52 0 rfl rfl ?_
      refine G_getC C WM7 kd_110 rfl rfl rfl rfl uq_39 fX8_ground_39 dX8_ground_53 ?_
      refine A_iloadn C dX8_ground_56 1 rfl rfl ?_
      refine A_iconst C dX8_ground_57 ?_
      refine G_iast C WM7 EM7 kd_119 rfl rfl (by decide) (fun _ => rfl) rfl (by omega) (by omega) (by omega) (by omega) dX8_ground_58 (fun M8 eM8 WM8 EM8 => ?_)
      have t_M8_110_0 : M8.1 110 0 = M7.1 110 0 := by rw [eM8]; exact sI_kd kd_110 kd_119 rfl
      have t_M8_110_11 : M8.1 110 11 = M7.1 110 11 := by rw [eM8]; exact sI_kd kd_110 kd_119 rfl
      have t_M8_110_12 : M8.1 110 12 = M7.1 110 12 := by rw [eM8]; exact sI_kd kd_110 kd_119 rfl
      have t_M8_110_16 : M8.1 110 16 = M7.1 110 16 := by rw [eM8]; exact sI_kd kd_110 kd_119 rfl
      have t_M8_110_17 : M8.1 110 17 = M7.1 110 17 := by rw [eM8]; exact sI_kd kd_110 kd_119 rfl
      refine A_iinc (lv' := [(2, .int (iI (v2 + 1))), (0, .ref 110)]) C dX8_ground_59 1 rfl (by decide) rfl ?_
      refine A_goto C 25 dX8_ground_62 (by decide) ?_
      refine A_pick [1, 0] rfl ?_
      exact ih (v2 + 1) M8 (by omega) (by omega) WM8 EM8
set_option maxHeartbeats 4000000 in
theorem kX8_ground  {x1 : Int} (hx1 : (-2147483648 : Int) ≤ x1 ∧ x1 ≤ 2147483647) : Ct yX8_ground wsX8_ground 1 [.ref 110, .int (iI x1)] (fun M => WF M ∧ (M.1 110 16 + M.1 110 17 ≤ M.1 110 0 + 1)) (fun M r M' => ∃ z : Int, r = some (.int (iI z)) ∧ (0 : Int) ≤ z ∧ z ≤ 1 ∧ WF M' ∧ Fr [30, 36, 37, 38, 39] M M' ∧ (z = 1 ↔ (2 ≤ x1 ∧ x1 ≤ 12)) ∧ (z = 1 → (M'.1 110 0 = x1 ∧ M'.1 110 12 = 0 ∧ M'.1 110 16 = -1 ∧ M'.1 110 17 = 0)) ∧ (z = 0 → (M'.1 110 0 = M.1 110 0 ∧ M'.1 110 12 = M.1 110 12 ∧ M'.1 110 16 = M.1 110 16 ∧ M'.1 110 17 = M.1 110 17)) ∧ (M'.1 110 16 + M'.1 110 17 ≤ M'.1 110 0 + 1)) := by
  refine Ct_of (cc := cX8_ground) (nL := 3) (rt := (some .boolean)) (own := RX8) rfl (by decide) rfl (Nat.le_of_ble_eq_true rfl) ?_
  intro p l e s m args below meth c G M0 C W
  obtain ⟨W, hM⟩ := W
  have E : Fr [30, 36, 37, 38, 39] M0 M0 := Fr.rf
  refine A_lv (lv' := [(0, .ref 110), (1, .int (iI x1))]) rfl ?_
  have fa_110_0 : (0 : Int) ≤ M0.1 110 0 ∧ M0.1 110 0 ≤ 12 := W.i kd_110 0
  refine A_aloadn C dX8_ground_0 0 rfl rfl ?_
  refine A_iconst C dX8_ground_1 ?_
  refine G_putI C W E kd_110 rfl rfl rfl rfl rfl fX8_ground_76 ⟨tyX8_ok, nmX8, rfl, by decide⟩ (Or.inl rfl) rfl rfl (by omega) (by omega) dX8_ground_2 (fun M9 eM9 WM9 EM9 => ?_)
  have t_M9_110_0 : M9.1 110 0 = M0.1 110 0 := by rw [eM9]; exact sI_pl rfl
  have t_M9_110_11 : M9.1 110 11 = M0.1 110 11 := by rw [eM9]; exact sI_pl rfl
  have t_M9_110_12 : M9.1 110 12 = M0.1 110 12 := by rw [eM9]; exact sI_pl rfl
  have t_M9_110_16 : M9.1 110 16 = M0.1 110 16 := by rw [eM9]; exact sI_pl rfl
  have t_M9_110_17 : M9.1 110 17 = M0.1 110 17 := by rw [eM9]; exact sI_pl rfl
  refine A_iloadn C dX8_ground_5 1 rfl rfl ?_
  refine A_iconst C dX8_ground_6 ?_
  refine A_icmplt C 16 dX8_ground_7 (by decide) (by omega) (by omega) (fun c10 => ?_) (fun c10 => ?_)
  · skip
    refine A_iconst C dX8_ground_16 ?_
    exact A_zret C (by omega) dX8_ground_17 ⟨0, rfl, by omega, by omega, WM9, EM9, by omega⟩
  · skip
    refine A_iloadn C dX8_ground_10 1 rfl rfl ?_
    refine A_bipush C dX8_ground_11 (by decide) ?_
    refine A_icmple C 18 dX8_ground_13 (by decide) (by omega) (by omega) (fun c11 => ?_) (fun c11 => ?_)
    · skip
      refine A_aloadn C dX8_ground_18 0 rfl rfl ?_
      refine A_iloadn C dX8_ground_19 1 rfl rfl ?_
      refine G_putI C WM9 EM9 kd_110 rfl rfl rfl rfl rfl fX8_ground_7 ⟨tyX8_ok, nmX8, rfl, by decide⟩ (Or.inl rfl) rfl rfl (by omega) (by omega) dX8_ground_20 (fun M12 eM12 WM12 EM12 => ?_)
      have t_M12_110_0 : M12.1 110 0 = x1 := by rw [eM12]; exact sI_at
      have t_M12_110_11 : M12.1 110 11 = M9.1 110 11 := by rw [eM12]; exact sI_pl rfl
      have t_M12_110_12 : M12.1 110 12 = M9.1 110 12 := by rw [eM12]; exact sI_pl rfl
      have t_M12_110_16 : M12.1 110 16 = M9.1 110 16 := by rw [eM12]; exact sI_pl rfl
      have t_M12_110_17 : M12.1 110 17 = M9.1 110 17 := by rw [eM12]; exact sI_pl rfl
      refine A_iconst C dX8_ground_23 ?_
      refine A_istoren (lv' := [(2, .int (iI 0)), (0, .ref 110), (1, .int (iI x1))]) C dX8_ground_24 rfl (by decide) rfl ?_
      refine A_pick [1, 0] rfl ?_
      exact lpX8_ground_25 C  hx1 ((25 - (0 : Int)).toNat + 1) 0 M12 (by omega) (by omega) WM12 EM12
    · skip
      refine A_iconst C dX8_ground_16 ?_
      exact A_zret C (by omega) dX8_ground_17 ⟨0, rfl, by omega, by omega, WM9, EM9, by omega⟩

theorem uX8_earth_8 : ∀ w ∈ u_ws RX8 TX8 35, w ∈ wsX8_earth := by decide +kernel
theorem fX8_earth_76 : Fl RX8 wsX8_earth 8 19 76 RX8 TX8 35 := ⟨rfl, by decide, uX8_earth_8, by decide +kernel⟩
theorem fX8_earth_85 : Fl RX8 wsX8_earth 8 1 85 RX8 TX8 35 := ⟨rfl, by decide, uX8_earth_8, by decide +kernel⟩
theorem fX8_earth_13 : Fl RX8 wsX8_earth 8 2 13 RX8 TX8 35 := ⟨rfl, by decide, uX8_earth_8, by decide +kernel⟩
theorem fX8_earth_17 : Fl RX8 wsX8_earth 8 3 17 RX8 TX8 35 := ⟨rfl, by decide, uX8_earth_8, by decide +kernel⟩
theorem fX8_earth_20 : Fl RX8 wsX8_earth 8 4 20 RX8 TX8 35 := ⟨rfl, by decide, uX8_earth_8, by decide +kernel⟩
theorem fX8_earth_23 : Fl RX8 wsX8_earth 8 5 23 RX8 TX8 35 := ⟨rfl, by decide, uX8_earth_8, by decide +kernel⟩
set_option maxHeartbeats 4000000 in
theorem kX8_earth  {x1 : Int} {x2 : Int} {x3 : Int} {x4 : Int} (hx1 : (-2147483648 : Int) ≤ x1 ∧ x1 ≤ 2147483647) (hx2 : (-2147483648 : Int) ≤ x2 ∧ x2 ≤ 2147483647) (hx3 : (-2147483648 : Int) ≤ x3 ∧ x3 ≤ 2147483647) (hx4 : (0 : Int) ≤ x4 ∧ x4 ≤ 1) : Ct yX8_earth wsX8_earth 1 [.ref 110, .int (iI x1), .int (iI x2), .int (iI x3), .int (iI x4)] (fun M => WF M ∧ (M.1 110 16 + M.1 110 17 ≤ M.1 110 0 + 1)) (fun M r M' => ∃ z : Int, r = some (.int (iI z)) ∧ (-1 : Int) ≤ z ∧ z ≤ 5 ∧ WF M' ∧ Fr [30, 31, 32, 33, 34] M M' ∧ (M'.1 110 0 = M.1 110 0 ∧ M'.1 110 12 = M.1 110 12 ∧ M'.1 110 16 = M.1 110 16 ∧ M'.1 110 17 = M.1 110 17) ∧ (M'.1 110 16 + M'.1 110 17 ≤ M'.1 110 0 + 1)) := by
  refine Ct_of (cc := cX8_earth) (nL := 5) (rt := (some .int)) (own := RX8) rfl (by decide) rfl (Nat.le_of_ble_eq_true rfl) ?_
  intro p l e s m args below meth c G M0 C W
  obtain ⟨W, hM⟩ := W
  have E : Fr [30, 31, 32, 33, 34] M0 M0 := Fr.rf
  refine A_lv (lv' := [(0, .ref 110), (1, .int (iI x1)), (2, .int (iI x2)), (3, .int (iI x3)), (4, .int (iI x4))]) rfl ?_
  have fa_110_0 : (0 : Int) ≤ M0.1 110 0 ∧ M0.1 110 0 ≤ 12 := W.i kd_110 0
  refine A_aloadn C dX8_earth_0 0 rfl rfl ?_
  refine A_iconst C dX8_earth_1 ?_
  refine G_putI C W E kd_110 rfl rfl rfl rfl rfl fX8_earth_76 ⟨tyX8_ok, nmX8, rfl, by decide⟩ (Or.inl rfl) rfl rfl (by omega) (by omega) dX8_earth_2 (fun M1 eM1 WM1 EM1 => ?_)
  have t_M1_110_0 : M1.1 110 0 = M0.1 110 0 := by rw [eM1]; exact sI_pl rfl
  have t_M1_110_1 : M1.1 110 1 = M0.1 110 1 := by rw [eM1]; exact sI_pl rfl
  have t_M1_110_11 : M1.1 110 11 = M0.1 110 11 := by rw [eM1]; exact sI_pl rfl
  have t_M1_110_12 : M1.1 110 12 = M0.1 110 12 := by rw [eM1]; exact sI_pl rfl
  have t_M1_110_16 : M1.1 110 16 = M0.1 110 16 := by rw [eM1]; exact sI_pl rfl
  have t_M1_110_17 : M1.1 110 17 = M0.1 110 17 := by rw [eM1]; exact sI_pl rfl
  refine A_aloadn C dX8_earth_5 0 rfl rfl ?_
  refine G_getI C WM1 kd_110 rfl rfl rfl rfl rfl fX8_earth_85 rfl dX8_earth_6 (fun z2 ez2 lz2 uz2 => ?_)
  refine A_bipush C dX8_earth_9 (by decide) ?_
  refine A_icmpeq C 45 dX8_earth_11 (by decide) (by omega) (by omega) (fun c3 => ?_) (fun c3 => ?_)
  · skip
    refine A_iconst C dX8_earth_45 ?_
    exact A_iret C dX8_earth_46 ⟨(-1), rfl, by omega, by omega, WM1, EM1, by omega⟩
  · skip
    refine A_iloadn C dX8_earth_14 1 rfl rfl ?_
    refine A_iconst C dX8_earth_15 ?_
    refine A_icmplt C 45 dX8_earth_16 (by decide) (by omega) (by omega) (fun c4 => ?_) (fun c4 => ?_)
    · skip
      refine A_iconst C dX8_earth_45 ?_
      exact A_iret C dX8_earth_46 ⟨(-1), rfl, by omega, by omega, WM1, EM1, by omega⟩
    · skip
      refine A_iloadn C dX8_earth_19 1 rfl rfl ?_
      refine A_bipush C dX8_earth_20 (by decide) ?_
      refine A_icmpgt C 45 dX8_earth_22 (by decide) (by omega) (by omega) (fun c5 => ?_) (fun c5 => ?_)
      · skip
        refine A_iconst C dX8_earth_45 ?_
        exact A_iret C dX8_earth_46 ⟨(-1), rfl, by omega, by omega, WM1, EM1, by omega⟩
      · skip
        refine A_iloadn C dX8_earth_25 2 rfl rfl ?_
        refine A_iflt C 45 dX8_earth_26 (by decide) (by omega) (fun c6 => ?_) (fun c6 => ?_)
        · skip
          refine A_iconst C dX8_earth_45 ?_
          exact A_iret C dX8_earth_46 ⟨(-1), rfl, by omega, by omega, WM1, EM1, by omega⟩
        · skip
          refine A_iloadn C dX8_earth_29 2 rfl rfl ?_
          refine A_bipush C dX8_earth_30 (by decide) ?_
          refine A_icmpgt C 45 dX8_earth_32 (by decide) (by omega) (by omega) (fun c7 => ?_) (fun c7 => ?_)
          · skip
            refine A_iconst C dX8_earth_45 ?_
            exact A_iret C dX8_earth_46 ⟨(-1), rfl, by omega, by omega, WM1, EM1, by omega⟩
          · skip
            refine A_iloadn C dX8_earth_35 3 rfl rfl ?_
            refine A_iflt C 45 dX8_earth_36 (by decide) (by omega) (fun c8 => ?_) (fun c8 => ?_)
            · skip
              refine A_iconst C dX8_earth_45 ?_
              exact A_iret C dX8_earth_46 ⟨(-1), rfl, by omega, by omega, WM1, EM1, by omega⟩
            · skip
              refine A_iloadn C dX8_earth_39 3 rfl rfl ?_
              refine A_bipush C dX8_earth_40 (by decide) ?_
              refine A_icmple C 47 dX8_earth_42 (by decide) (by omega) (by omega) (fun c9 => ?_) (fun c9 => ?_)
              · skip
                refine A_aloadn C dX8_earth_47 0 rfl rfl ?_
                refine G_getC C WM1 kd_110 rfl rfl rfl rfl uq_31 fX8_earth_13 dX8_earth_48 ?_
                refine A_aloadn C dX8_earth_51 0 rfl rfl ?_
                refine G_getI C WM1 kd_110 rfl rfl rfl rfl rfl fX8_earth_85 rfl dX8_earth_52 (fun z10 ez10 lz10 uz10 => ?_)
                refine A_iloadn C dX8_earth_55 1 rfl rfl ?_
                refine G_iast C WM1 EM1 kd_111 rfl rfl (by decide) (fun _ => rfl) rfl (by omega) (by omega) (by omega) (by omega) dX8_earth_56 (fun M11 eM11 WM11 EM11 => ?_)
                have t_M11_110_0 : M11.1 110 0 = M1.1 110 0 := by rw [eM11]; exact sI_kd kd_110 kd_111 rfl
                have t_M11_110_1 : M11.1 110 1 = M1.1 110 1 := by rw [eM11]; exact sI_kd kd_110 kd_111 rfl
                have t_M11_110_11 : M11.1 110 11 = M1.1 110 11 := by rw [eM11]; exact sI_kd kd_110 kd_111 rfl
                have t_M11_110_12 : M11.1 110 12 = M1.1 110 12 := by rw [eM11]; exact sI_kd kd_110 kd_111 rfl
                have t_M11_110_16 : M11.1 110 16 = M1.1 110 16 := by rw [eM11]; exact sI_kd kd_110 kd_111 rfl
                have t_M11_110_17 : M11.1 110 17 = M1.1 110 17 := by rw [eM11]; exact sI_kd kd_110 kd_111 rfl
                refine A_aloadn C dX8_earth_57 0 rfl rfl ?_
                refine G_getC C WM11 kd_110 rfl rfl rfl rfl uq_32 fX8_earth_17 dX8_earth_58 ?_
                refine A_aloadn C dX8_earth_61 0 rfl rfl ?_
                refine G_getI C WM11 kd_110 rfl rfl rfl rfl rfl fX8_earth_85 rfl dX8_earth_62 (fun z12 ez12 lz12 uz12 => ?_)
                refine A_iloadn C dX8_earth_65 2 rfl rfl ?_
                refine G_iast C WM11 EM11 kd_112 rfl rfl (by decide) (fun _ => rfl) rfl (by omega) (by omega) (by omega) (by omega) dX8_earth_66 (fun M13 eM13 WM13 EM13 => ?_)
                have t_M13_110_0 : M13.1 110 0 = M11.1 110 0 := by rw [eM13]; exact sI_kd kd_110 kd_112 rfl
                have t_M13_110_1 : M13.1 110 1 = M11.1 110 1 := by rw [eM13]; exact sI_kd kd_110 kd_112 rfl
                have t_M13_110_11 : M13.1 110 11 = M11.1 110 11 := by rw [eM13]; exact sI_kd kd_110 kd_112 rfl
                have t_M13_110_12 : M13.1 110 12 = M11.1 110 12 := by rw [eM13]; exact sI_kd kd_110 kd_112 rfl
                have t_M13_110_16 : M13.1 110 16 = M11.1 110 16 := by rw [eM13]; exact sI_kd kd_110 kd_112 rfl
                have t_M13_110_17 : M13.1 110 17 = M11.1 110 17 := by rw [eM13]; exact sI_kd kd_110 kd_112 rfl
                refine A_aloadn C dX8_earth_67 0 rfl rfl ?_
                refine G_getC C WM13 kd_110 rfl rfl rfl rfl uq_33 fX8_earth_20 dX8_earth_68 ?_
                refine A_aloadn C dX8_earth_71 0 rfl rfl ?_
                refine G_getI C WM13 kd_110 rfl rfl rfl rfl rfl fX8_earth_85 rfl dX8_earth_72 (fun z14 ez14 lz14 uz14 => ?_)
                refine A_iloadn C dX8_earth_75 3 rfl rfl ?_
                refine G_iast C WM13 EM13 kd_113 rfl rfl (by decide) (fun _ => rfl) rfl (by omega) (by omega) (by omega) (by omega) dX8_earth_76 (fun M15 eM15 WM15 EM15 => ?_)
                have t_M15_110_0 : M15.1 110 0 = M13.1 110 0 := by rw [eM15]; exact sI_kd kd_110 kd_113 rfl
                have t_M15_110_1 : M15.1 110 1 = M13.1 110 1 := by rw [eM15]; exact sI_kd kd_110 kd_113 rfl
                have t_M15_110_11 : M15.1 110 11 = M13.1 110 11 := by rw [eM15]; exact sI_kd kd_110 kd_113 rfl
                have t_M15_110_12 : M15.1 110 12 = M13.1 110 12 := by rw [eM15]; exact sI_kd kd_110 kd_113 rfl
                have t_M15_110_16 : M15.1 110 16 = M13.1 110 16 := by rw [eM15]; exact sI_kd kd_110 kd_113 rfl
                have t_M15_110_17 : M15.1 110 17 = M13.1 110 17 := by rw [eM15]; exact sI_kd kd_110 kd_113 rfl
                refine A_aloadn C dX8_earth_77 0 rfl rfl ?_
                refine G_getC C WM15 kd_110 rfl rfl rfl rfl uq_34 fX8_earth_23 dX8_earth_78 ?_
                refine A_aloadn C dX8_earth_81 0 rfl rfl ?_
                refine G_getI C WM15 kd_110 rfl rfl rfl rfl rfl fX8_earth_85 rfl dX8_earth_82 (fun z16 ez16 lz16 uz16 => ?_)
                refine A_iload C dX8_earth_85 4 rfl ?_
                refine G_zast C WM15 EM15 kd_114 rfl rfl (by decide) (fun _ => rfl) rfl (by omega) (by omega) (by omega) dX8_earth_87 (fun M17 eM17 WM17 EM17 => ?_)
                have t_M17_110_0 : M17.1 110 0 = M15.1 110 0 := by rw [eM17]; exact sI_kd kd_110 kd_114 rfl
                have t_M17_110_1 : M17.1 110 1 = M15.1 110 1 := by rw [eM17]; exact sI_kd kd_110 kd_114 rfl
                have t_M17_110_11 : M17.1 110 11 = M15.1 110 11 := by rw [eM17]; exact sI_kd kd_110 kd_114 rfl
                have t_M17_110_12 : M17.1 110 12 = M15.1 110 12 := by rw [eM17]; exact sI_kd kd_110 kd_114 rfl
                have t_M17_110_16 : M17.1 110 16 = M15.1 110 16 := by rw [eM17]; exact sI_kd kd_110 kd_114 rfl
                have t_M17_110_17 : M17.1 110 17 = M15.1 110 17 := by rw [eM17]; exact sI_kd kd_110 kd_114 rfl
                refine A_aloadn C dX8_earth_88 0 rfl rfl ?_
                refine A_dup C dX8_earth_89 rfl ?_
                refine G_getI C WM17 kd_110 rfl rfl rfl rfl rfl fX8_earth_85 rfl dX8_earth_90 (fun z18 ez18 lz18 uz18 => ?_)
                refine A_iconst C dX8_earth_93 ?_
                refine A_iadd C dX8_earth_94 ?_
                refine G_putI C WM17 EM17 kd_110 rfl rfl rfl rfl rfl fX8_earth_85 ⟨tyX8_ok, nmX8, rfl, by decide⟩ (Or.inl rfl) rfl rfl (by omega) (by omega) dX8_earth_95 (fun M19 eM19 WM19 EM19 => ?_)
                have t_M19_110_0 : M19.1 110 0 = M17.1 110 0 := by rw [eM19]; exact sI_pl rfl
                have t_M19_110_1 : M19.1 110 1 = z18 + 1 := by rw [eM19]; exact sI_at
                have t_M19_110_11 : M19.1 110 11 = M17.1 110 11 := by rw [eM19]; exact sI_pl rfl
                have t_M19_110_12 : M19.1 110 12 = M17.1 110 12 := by rw [eM19]; exact sI_pl rfl
                have t_M19_110_16 : M19.1 110 16 = M17.1 110 16 := by rw [eM19]; exact sI_pl rfl
                have t_M19_110_17 : M19.1 110 17 = M17.1 110 17 := by rw [eM19]; exact sI_pl rfl
                refine A_aloadn C dX8_earth_98 0 rfl rfl ?_
                refine G_getI C WM19 kd_110 rfl rfl rfl rfl rfl fX8_earth_85 rfl dX8_earth_99 (fun z20 ez20 lz20 uz20 => ?_)
                refine A_iconst C dX8_earth_102 ?_
                refine A_isub C dX8_earth_103 ?_
                exact A_iret C dX8_earth_104 ⟨z20 - 1, rfl, by omega, by omega, WM19, EM19, by omega⟩
              · skip
                refine A_iconst C dX8_earth_45 ?_
                exact A_iret C dX8_earth_46 ⟨(-1), rfl, by omega, by omega, WM1, EM1, by omega⟩

theorem uX8_lay_8 : ∀ w ∈ u_ws RX8 TX8 35, w ∈ wsX8_lay := by decide +kernel
theorem fX8_lay_30 : Fl RX8 wsX8_lay 8 7 30 RX8 TX8 35 := ⟨rfl, by decide, uX8_lay_8, by decide +kernel⟩
theorem fX8_lay_27 : Fl RX8 wsX8_lay 8 6 27 RX8 TX8 35 := ⟨rfl, by decide, uX8_lay_8, by decide +kernel⟩
theorem fX8_lay_76 : Fl RX8 wsX8_lay 8 19 76 RX8 TX8 35 := ⟨rfl, by decide, uX8_lay_8, by decide +kernel⟩
theorem fX8_lay_85 : Fl RX8 wsX8_lay 8 1 85 RX8 TX8 35 := ⟨rfl, by decide, uX8_lay_8, by decide +kernel⟩
set_option maxHeartbeats 4000000 in
theorem lpX8_lay_54 {p : Program} {l : Launch} {e : Env} {s : State} {m : MethodId} {args : Array Value} {below : List Frame} {meth : Method} {c : Code} {G : xG} (C : Cx p s m args meth c G cX8_lay 5 RX8 wsX8_lay (some .int))  {x1 : Int} {x2 : Int} {x3 : Int} (hx1 : (-2147483648 : Int) ≤ x1 ∧ x1 ≤ 2147483647) (hx2 : (-2147483648 : Int) ≤ x2 ∧ x2 ≤ 2147483647) (hx3 : (-2147483648 : Int) ≤ x3 ∧ x3 ≤ 2147483647) {M0 : Mem} : ∀ (n : Nat) (v4 : Int) (M : Mem), (25 - v4).toNat < n → (0 ≤ v4 ∧ v4 ≤ 24 ∧ 0 ≤ x1 ∧ x1 ≤ 11 ∧ 0 ≤ x2 ∧ x2 ≤ 5 ∧ M.1 116 x1.toNat + x3 ≤ 24 ∧ 0 ≤ M.1 116 x1.toNat ∧ 1 ≤ x3 ∧ M.1 110 16 + M.1 110 17 ≤ M.1 110 0 + 1 ∧ M.1 110 0 = M0.1 110 0 ∧ M.1 110 12 = M0.1 110 12 ∧ M.1 110 16 = M0.1 110 16 ∧ M.1 110 17 = M0.1 110 17) → WF M → Fr [30, 35, 36] M0 M → AW p l e (rmD 2) s m args below meth c G 5 (QQ G below args s ((fun M r M' => ∃ z : Int, r = some (.int (iI z)) ∧ (-2147483648 : Int) ≤ z ∧ z ≤ 2147483647 ∧ WF M' ∧ Fr [30, 35, 36] M M' ∧ (M'.1 110 0 = M.1 110 0 ∧ M'.1 110 12 = M.1 110 12 ∧ M'.1 110 16 = M.1 110 16 ∧ M'.1 110 17 = M.1 110 17) ∧ (M'.1 110 16 + M'.1 110 17 ≤ M'.1 110 0 + 1)) M0)) M 54 [(0, .ref 110), (1, .int (iI x1)), (2, .int (iI x2)), (3, .int (iI x3)), (4, .int (iI v4))] [] := by
  intro n
  induction n with
  | zero => intro v4 M hn; exact absurd hn (Nat.not_lt_zero _)
  | succ n ih =>
    intro v4 M hn hi W E
    have fa_110_0 : (0 : Int) ≤ M.1 110 0 ∧ M.1 110 0 ≤ 12 := W.i kd_110 0
    refine A_iload C dX8_lay_54 4 rfl ?_
    refine A_iloadn C dX8_lay_56 3 rfl rfl ?_
    refine A_icmpge C 86 dX8_lay_57 (by decide) (by omega) (by omega) (fun c1 => ?_) (fun c1 => ?_)
    · skip
      refine A_aloadn C dX8_lay_86 0 rfl rfl ?_
      refine G_getC C W kd_110 rfl rfl rfl rfl uq_36 fX8_lay_30 dX8_lay_87 ?_
      refine A_iloadn C dX8_lay_90 1 rfl rfl ?_
      refine A_dup2 C dX8_lay_91 rfl rfl ?_
      refine G_iald C W kd_116 rfl rfl (by decide) (fun _ => rfl) (by omega) (by omega) dX8_lay_92 (fun z2 ez2 lz2 uz2 => ?_)
      refine A_iloadn C dX8_lay_93 3 rfl rfl ?_
      refine A_iadd C dX8_lay_94 ?_
      refine G_iast C W E kd_116 rfl rfl (by decide) (fun _ => rfl) rfl (by omega) (by omega) (by omega) (by omega) dX8_lay_95 (fun M3 eM3 WM3 EM3 => ?_)
      have t_M3_110_0 : M3.1 110 0 = M.1 110 0 := by rw [eM3]; exact sI_kd kd_110 kd_116 rfl
      have t_M3_110_11 : M3.1 110 11 = M.1 110 11 := by rw [eM3]; exact sI_kd kd_110 kd_116 rfl
      have t_M3_110_12 : M3.1 110 12 = M.1 110 12 := by rw [eM3]; exact sI_kd kd_110 kd_116 rfl
      have t_M3_110_16 : M3.1 110 16 = M.1 110 16 := by rw [eM3]; exact sI_kd kd_110 kd_116 rfl
      have t_M3_110_17 : M3.1 110 17 = M.1 110 17 := by rw [eM3]; exact sI_kd kd_110 kd_116 rfl
      refine A_aloadn C dX8_lay_96 0 rfl rfl ?_
      refine G_getC C WM3 kd_110 rfl rfl rfl rfl uq_36 fX8_lay_30 dX8_lay_97 ?_
      refine A_iloadn C dX8_lay_100 1 rfl rfl ?_
      refine G_iald C WM3 kd_116 rfl rfl (by decide) (fun _ => rfl) (by omega) (by omega) dX8_lay_101 (fun z4 ez4 lz4 uz4 => ?_)
      exact A_iret C dX8_lay_102 ⟨z4, rfl, by omega, by omega, WM3, EM3, by omega⟩
    · skip
      refine A_aloadn C dX8_lay_60 0 rfl rfl ?_
      refine G_getC C W kd_110 rfl rfl rfl rfl uq_35 fX8_lay_27 dX8_lay_61 ?_
      refine A_bipush C dX8_lay_64 (by decide) ?_
      refine A_iloadn C dX8_lay_66 1 rfl rfl ?_
      refine A_imul C dX8_lay_67 ?_
      refine A_aloadn C dX8_lay_68 0 rfl rfl ?_
      refine G_getC C W kd_110 rfl rfl rfl rfl uq_36 fX8_lay_30 dX8_lay_69 ?_
      refine A_iloadn C dX8_lay_72 1 rfl rfl ?_
      refine G_iald C W kd_116 rfl rfl (by decide) (fun _ => rfl) (by omega) (by omega) dX8_lay_73 (fun z5 ez5 lz5 uz5 => ?_)
      refine A_iadd C dX8_lay_74 ?_
      refine A_iload C dX8_lay_75 4 rfl ?_
      refine A_iadd C dX8_lay_77 ?_
      refine A_iloadn C dX8_lay_78 2 rfl rfl ?_
      refine G_iast C W E kd_115 rfl rfl (by decide) (fun _ => rfl) rfl (by omega) (by omega) (by omega) (by omega) dX8_lay_79 (fun M6 eM6 WM6 EM6 => ?_)
      have t_M6_110_0 : M6.1 110 0 = M.1 110 0 := by rw [eM6]; exact sI_kd kd_110 kd_115 rfl
      have t_M6_110_11 : M6.1 110 11 = M.1 110 11 := by rw [eM6]; exact sI_kd kd_110 kd_115 rfl
      have t_M6_110_12 : M6.1 110 12 = M.1 110 12 := by rw [eM6]; exact sI_kd kd_110 kd_115 rfl
      have t_M6_110_16 : M6.1 110 16 = M.1 110 16 := by rw [eM6]; exact sI_kd kd_110 kd_115 rfl
      have t_M6_110_17 : M6.1 110 17 = M.1 110 17 := by rw [eM6]; exact sI_kd kd_110 kd_115 rfl
      have t_M6_116_x1toNat : M6.1 116 x1.toNat = M.1 116 x1.toNat := by rw [eM6]; exact sI_kd kd_116 kd_115 rfl
      refine A_iinc (lv' := [(4, .int (iI (v4 + 1))), (0, .ref 110), (1, .int (iI x1)), (2, .int (iI x2)), (3, .int (iI x3))]) C dX8_lay_80 4 rfl (by decide) rfl ?_
      refine A_goto C 54 dX8_lay_83 (by decide) ?_
      refine A_pick [1, 2, 3, 4, 0] rfl ?_
      exact ih (v4 + 1) M6 (by omega) (by omega) WM6 EM6
set_option maxHeartbeats 4000000 in
theorem kX8_lay  {x1 : Int} {x2 : Int} {x3 : Int} (hx1 : (-2147483648 : Int) ≤ x1 ∧ x1 ≤ 2147483647) (hx2 : (-2147483648 : Int) ≤ x2 ∧ x2 ≤ 2147483647) (hx3 : (-2147483648 : Int) ≤ x3 ∧ x3 ≤ 2147483647) : Ct yX8_lay wsX8_lay 2 [.ref 110, .int (iI x1), .int (iI x2), .int (iI x3)] (fun M => WF M ∧ (M.1 110 16 + M.1 110 17 ≤ M.1 110 0 + 1)) (fun M r M' => ∃ z : Int, r = some (.int (iI z)) ∧ (-2147483648 : Int) ≤ z ∧ z ≤ 2147483647 ∧ WF M' ∧ Fr [30, 35, 36] M M' ∧ (M'.1 110 0 = M.1 110 0 ∧ M'.1 110 12 = M.1 110 12 ∧ M'.1 110 16 = M.1 110 16 ∧ M'.1 110 17 = M.1 110 17) ∧ (M'.1 110 16 + M'.1 110 17 ≤ M'.1 110 0 + 1)) := by
  refine Ct_of (cc := cX8_lay) (nL := 5) (rt := (some .int)) (own := RX8) rfl (by decide) rfl (Nat.le_of_ble_eq_true rfl) ?_
  intro p l e s m args below meth c G M0 C W
  obtain ⟨W, hM⟩ := W
  have E : Fr [30, 35, 36] M0 M0 := Fr.rf
  refine A_lv (lv' := [(0, .ref 110), (1, .int (iI x1)), (2, .int (iI x2)), (3, .int (iI x3))]) rfl ?_
  have fa_110_0 : (0 : Int) ≤ M0.1 110 0 ∧ M0.1 110 0 ≤ 12 := W.i kd_110 0
  refine A_aloadn C dX8_lay_0 0 rfl rfl ?_
  refine A_iconst C dX8_lay_1 ?_
  refine G_putI C W E kd_110 rfl rfl rfl rfl rfl fX8_lay_76 ⟨tyX8_ok, nmX8, rfl, by decide⟩ (Or.inl rfl) rfl rfl (by omega) (by omega) dX8_lay_2 (fun M7 eM7 WM7 EM7 => ?_)
  have t_M7_110_0 : M7.1 110 0 = M0.1 110 0 := by rw [eM7]; exact sI_pl rfl
  have t_M7_110_11 : M7.1 110 11 = M0.1 110 11 := by rw [eM7]; exact sI_pl rfl
  have t_M7_110_12 : M7.1 110 12 = M0.1 110 12 := by rw [eM7]; exact sI_pl rfl
  have t_M7_110_16 : M7.1 110 16 = M0.1 110 16 := by rw [eM7]; exact sI_pl rfl
  have t_M7_110_17 : M7.1 110 17 = M0.1 110 17 := by rw [eM7]; exact sI_pl rfl
  have t_M7_116_x1toNat : M7.1 116 x1.toNat = M0.1 116 x1.toNat := by rw [eM7]; exact sI_kd kd_116 kd_110 rfl
  refine A_aloadn C dX8_lay_5 0 rfl rfl ?_
  refine A_iloadn C dX8_lay_6 1 rfl rfl ?_
  refine A_callV C (n := 1) (st := []) (kX8_isColumn  (by omega)) gX8_lay_X8_isColumn rfl (by decide +kernel) ⟨Nat.le_of_ble_eq_true rfl, Nat.le_of_ble_eq_true rfl⟩ kd_110 rfl rfl rfl rfl (Nat.le_of_ble_eq_true rfl) dX8_lay_7 rfl WM7 (fun r8 M9 h10 => ?_)
  obtain ⟨z12, rfl, lz12, uz12, rfl, xx11⟩ := h10
  refine A_st (st' := [.int (iI z12)]) rfl ?_
  refine A_ifeq C 49 dX8_lay_10 (by decide) (by omega) (fun c13 => ?_) (fun c13 => ?_)
  · skip
    refine A_iconst C dX8_lay_49 ?_
    exact A_iret C dX8_lay_50 ⟨(-1), rfl, by omega, by omega, WM7, EM7, by omega⟩
  · skip
    refine A_iloadn C dX8_lay_13 2 rfl rfl ?_
    refine A_iflt C 49 dX8_lay_14 (by decide) (by omega) (fun c14 => ?_) (fun c14 => ?_)
    · skip
      refine A_iconst C dX8_lay_49 ?_
      exact A_iret C dX8_lay_50 ⟨(-1), rfl, by omega, by omega, WM7, EM7, by omega⟩
    · skip
      refine A_iloadn C dX8_lay_17 2 rfl rfl ?_
      refine A_aloadn C dX8_lay_18 0 rfl rfl ?_
      refine G_getI C WM7 kd_110 rfl rfl rfl rfl rfl fX8_lay_85 rfl dX8_lay_19 (fun z15 ez15 lz15 uz15 => ?_)
      refine A_icmpge C 49 dX8_lay_22 (by decide) (by omega) (by omega) (fun c16 => ?_) (fun c16 => ?_)
      · skip
        refine A_iconst C dX8_lay_49 ?_
        exact A_iret C dX8_lay_50 ⟨(-1), rfl, by omega, by omega, WM7, EM7, by omega⟩
      · skip
        refine A_iloadn C dX8_lay_25 3 rfl rfl ?_
        refine A_iconst C dX8_lay_26 ?_
        refine A_icmplt C 49 dX8_lay_27 (by decide) (by omega) (by omega) (fun c17 => ?_) (fun c17 => ?_)
        · skip
          refine A_iconst C dX8_lay_49 ?_
          exact A_iret C dX8_lay_50 ⟨(-1), rfl, by omega, by omega, WM7, EM7, by omega⟩
        · skip
          refine A_iloadn C dX8_lay_30 3 rfl rfl ?_
          refine A_bipush C dX8_lay_31 (by decide) ?_
          refine A_icmpgt C 49 dX8_lay_33 (by decide) (by omega) (by omega) (fun c18 => ?_) (fun c18 => ?_)
          · skip
            refine A_iconst C dX8_lay_49 ?_
            exact A_iret C dX8_lay_50 ⟨(-1), rfl, by omega, by omega, WM7, EM7, by omega⟩
          · skip
            refine A_aloadn C dX8_lay_36 0 rfl rfl ?_
            refine G_getC C WM7 kd_110 rfl rfl rfl rfl uq_36 fX8_lay_30 dX8_lay_37 ?_
            refine A_iloadn C dX8_lay_40 1 rfl rfl ?_
            refine G_iald C WM7 kd_116 rfl rfl (by decide) (fun _ => rfl) (by omega) (by omega) dX8_lay_41 (fun z19 ez19 lz19 uz19 => ?_)
            refine A_iloadn C dX8_lay_42 3 rfl rfl ?_
            refine A_iadd C dX8_lay_43 ?_
            refine A_bipush C dX8_lay_44 (by decide) ?_
            refine A_icmple C 51 dX8_lay_46 (by decide) (by omega) (by omega) (fun c20 => ?_) (fun c20 => ?_)
            · skip
              refine A_iconst C dX8_lay_51 ?_
              refine A_istore (lv' := [(4, .int (iI 0)), (0, .ref 110), (1, .int (iI x1)), (2, .int (iI x2)), (3, .int (iI x3))]) C dX8_lay_52 (by decide) rfl ?_
              refine A_pick [1, 2, 3, 4, 0] rfl ?_
              exact lpX8_lay_54 C  hx1 hx2 hx3 ((25 - (0 : Int)).toNat + 1) 0 M7 (by omega) (by omega) WM7 EM7
            · skip
              refine A_iconst C dX8_lay_49 ?_
              exact A_iret C dX8_lay_50 ⟨(-1), rfl, by omega, by omega, WM7, EM7, by omega⟩

theorem uX8_set_8 : ∀ w ∈ u_ws RX8 TX8 35, w ∈ wsX8_set := by decide +kernel
theorem fX8_set_76 : Fl RX8 wsX8_set 8 19 76 RX8 TX8 35 := ⟨rfl, by decide, uX8_set_8, by decide +kernel⟩
theorem fX8_set_39 : Fl RX8 wsX8_set 8 10 39 RX8 TX8 35 := ⟨rfl, by decide, uX8_set_8, by decide +kernel⟩
theorem fX8_set_36 : Fl RX8 wsX8_set 8 9 36 RX8 TX8 35 := ⟨rfl, by decide, uX8_set_8, by decide +kernel⟩
theorem fX8_set_33 : Fl RX8 wsX8_set 8 8 33 RX8 TX8 35 := ⟨rfl, by decide, uX8_set_8, by decide +kernel⟩
set_option maxHeartbeats 4000000 in
theorem kX8_set  {x1 : Int} {x2 : Int} {x3 : Int} (hx1 : (-2147483648 : Int) ≤ x1 ∧ x1 ≤ 2147483647) (hx2 : (-2147483648 : Int) ≤ x2 ∧ x2 ≤ 2147483647) (hx3 : (-2147483648 : Int) ≤ x3 ∧ x3 ≤ 2147483647) : Ct yX8_set wsX8_set 2 [.ref 110, .int (iI x1), .int (iI x2), .int (iI x3)] (fun M => WF M ∧ (M.1 110 16 + M.1 110 17 ≤ M.1 110 0 + 1)) (fun M r M' => ∃ z : Int, r = some (.int (iI z)) ∧ (0 : Int) ≤ z ∧ z ≤ 1 ∧ WF M' ∧ Fr [30, 37, 38, 39] M M' ∧ (z = 1 ↔ (0 ≤ x1 ∧ x1 < M.1 110 0 ∧ 0 ≤ x2 ∧ x2 ≤ 2 ∧ 0 ≤ x3 ∧ x3 ≤ 999 ∧ (x2 = 0 → x3 ≤ 24))) ∧ (M'.1 110 0 = M.1 110 0 ∧ M'.1 110 12 = M.1 110 12 ∧ M'.1 110 16 = M.1 110 16 ∧ M'.1 110 17 = M.1 110 17) ∧ (M'.1 110 16 + M'.1 110 17 ≤ M'.1 110 0 + 1)) := by
  refine Ct_of (cc := cX8_set) (nL := 4) (rt := (some .boolean)) (own := RX8) rfl (by decide) rfl (Nat.le_of_ble_eq_true rfl) ?_
  intro p l e s m args below meth c G M0 C W
  obtain ⟨W, hM⟩ := W
  have E : Fr [30, 37, 38, 39] M0 M0 := Fr.rf
  refine A_lv (lv' := [(0, .ref 110), (1, .int (iI x1)), (2, .int (iI x2)), (3, .int (iI x3))]) rfl ?_
  have fa_110_0 : (0 : Int) ≤ M0.1 110 0 ∧ M0.1 110 0 ≤ 12 := W.i kd_110 0
  refine A_aloadn C dX8_set_0 0 rfl rfl ?_
  refine A_iconst C dX8_set_1 ?_
  refine G_putI C W E kd_110 rfl rfl rfl rfl rfl fX8_set_76 ⟨tyX8_ok, nmX8, rfl, by decide⟩ (Or.inl rfl) rfl rfl (by omega) (by omega) dX8_set_2 (fun M1 eM1 WM1 EM1 => ?_)
  have t_M1_110_0 : M1.1 110 0 = M0.1 110 0 := by rw [eM1]; exact sI_pl rfl
  have t_M1_110_11 : M1.1 110 11 = M0.1 110 11 := by rw [eM1]; exact sI_pl rfl
  have t_M1_110_12 : M1.1 110 12 = M0.1 110 12 := by rw [eM1]; exact sI_pl rfl
  have t_M1_110_16 : M1.1 110 16 = M0.1 110 16 := by rw [eM1]; exact sI_pl rfl
  have t_M1_110_17 : M1.1 110 17 = M0.1 110 17 := by rw [eM1]; exact sI_pl rfl
  refine A_aloadn C dX8_set_5 0 rfl rfl ?_
  refine A_iloadn C dX8_set_6 1 rfl rfl ?_
  refine A_callV C (n := 1) (st := []) (kX8_isColumn  (by omega)) gX8_set_X8_isColumn rfl (by decide +kernel) ⟨Nat.le_of_ble_eq_true rfl, Nat.le_of_ble_eq_true rfl⟩ kd_110 rfl rfl rfl rfl (Nat.le_of_ble_eq_true rfl) dX8_set_7 rfl WM1 (fun r2 M3 h4 => ?_)
  obtain ⟨z6, rfl, lz6, uz6, rfl, xx5⟩ := h4
  refine A_st (st' := [.int (iI z6)]) rfl ?_
  refine A_ifeq C 42 dX8_set_10 (by decide) (by omega) (fun c7 => ?_) (fun c7 => ?_)
  · skip
    refine A_iconst C dX8_set_42 ?_
    exact A_zret C (by omega) dX8_set_43 ⟨0, rfl, by omega, by omega, WM1, EM1, by omega⟩
  · skip
    refine A_iloadn C dX8_set_13 2 rfl rfl ?_
    refine A_iflt C 42 dX8_set_14 (by decide) (by omega) (fun c8 => ?_) (fun c8 => ?_)
    · skip
      refine A_iconst C dX8_set_42 ?_
      exact A_zret C (by omega) dX8_set_43 ⟨0, rfl, by omega, by omega, WM1, EM1, by omega⟩
    · skip
      refine A_iloadn C dX8_set_17 2 rfl rfl ?_
      refine A_iconst C dX8_set_18 ?_
      refine A_icmpgt C 42 dX8_set_19 (by decide) (by omega) (by omega) (fun c9 => ?_) (fun c9 => ?_)
      · skip
        refine A_iconst C dX8_set_42 ?_
        exact A_zret C (by omega) dX8_set_43 ⟨0, rfl, by omega, by omega, WM1, EM1, by omega⟩
      · skip
        refine A_iloadn C dX8_set_22 3 rfl rfl ?_
        refine A_iflt C 42 dX8_set_23 (by decide) (by omega) (fun c10 => ?_) (fun c10 => ?_)
        · skip
          refine A_iconst C dX8_set_42 ?_
          exact A_zret C (by omega) dX8_set_43 ⟨0, rfl, by omega, by omega, WM1, EM1, by omega⟩
        · skip
          refine A_iloadn C dX8_set_26 3 rfl rfl ?_
          refine A_iloadn C dX8_set_27 2 rfl rfl ?_
          refine A_ifne C 36 dX8_set_28 (by decide) (by omega) (fun c11 => ?_) (fun c11 => ?_)
          · skip
            refine A_sipush C dX8_set_36 (by decide) ?_
            refine A_icmple C 44 dX8_set_39 (by decide) (by omega) (by omega) (fun c12 => ?_) (fun c12 => ?_)
            · skip
              refine A_iloadn C dX8_set_44 2 rfl rfl ?_
              refine A_ifne C 58 dX8_set_45 (by decide) (by omega) (fun c13 => ?_) (fun c13 => ?_)
              · skip
                refine A_iloadn C dX8_set_58 2 rfl rfl ?_
                refine A_iconst C dX8_set_59 ?_
                refine A_icmpne C 73 dX8_set_60 (by decide) (by omega) (by omega) (fun c14 => ?_) (fun c14 => ?_)
                · skip
                  refine A_aloadn C dX8_set_73 0 rfl rfl ?_
                  refine G_getC C WM1 kd_110 rfl rfl rfl rfl uq_39 fX8_set_39 dX8_set_74 ?_
                  refine A_iloadn C dX8_set_77 1 rfl rfl ?_
                  refine A_iloadn C dX8_set_78 3 rfl rfl ?_
                  refine G_iast C WM1 EM1 kd_119 rfl rfl (by decide) (fun _ => rfl) rfl (by omega) (by omega) (by omega) (by omega) dX8_set_79 (fun M15 eM15 WM15 EM15 => ?_)
                  have t_M15_110_0 : M15.1 110 0 = M1.1 110 0 := by rw [eM15]; exact sI_kd kd_110 kd_119 rfl
                  have t_M15_110_11 : M15.1 110 11 = M1.1 110 11 := by rw [eM15]; exact sI_kd kd_110 kd_119 rfl
                  have t_M15_110_12 : M15.1 110 12 = M1.1 110 12 := by rw [eM15]; exact sI_kd kd_110 kd_119 rfl
                  have t_M15_110_16 : M15.1 110 16 = M1.1 110 16 := by rw [eM15]; exact sI_kd kd_110 kd_119 rfl
                  have t_M15_110_17 : M15.1 110 17 = M1.1 110 17 := by rw [eM15]; exact sI_kd kd_110 kd_119 rfl
                  refine A_iconst C dX8_set_80 ?_
                  exact A_zret C (by omega) dX8_set_81 ⟨1, rfl, by omega, by omega, WM15, EM15, by omega⟩
                · skip
                  refine A_aloadn C dX8_set_63 0 rfl rfl ?_
                  refine G_getC C WM1 kd_110 rfl rfl rfl rfl uq_38 fX8_set_36 dX8_set_64 ?_
                  refine A_iloadn C dX8_set_67 1 rfl rfl ?_
                  refine A_iloadn C dX8_set_68 3 rfl rfl ?_
                  refine G_iast C WM1 EM1 kd_118 rfl rfl (by decide) (fun _ => rfl) rfl (by omega) (by omega) (by omega) (by omega) dX8_set_69 (fun M16 eM16 WM16 EM16 => ?_)
                  have t_M16_110_0 : M16.1 110 0 = M1.1 110 0 := by rw [eM16]; exact sI_kd kd_110 kd_118 rfl
                  have t_M16_110_11 : M16.1 110 11 = M1.1 110 11 := by rw [eM16]; exact sI_kd kd_110 kd_118 rfl
                  have t_M16_110_12 : M16.1 110 12 = M1.1 110 12 := by rw [eM16]; exact sI_kd kd_110 kd_118 rfl
                  have t_M16_110_16 : M16.1 110 16 = M1.1 110 16 := by rw [eM16]; exact sI_kd kd_110 kd_118 rfl
                  have t_M16_110_17 : M16.1 110 17 = M1.1 110 17 := by rw [eM16]; exact sI_kd kd_110 kd_118 rfl
                  refine A_goto C 80 dX8_set_70 (by decide) ?_
                  refine A_iconst C dX8_set_80 ?_
                  exact A_zret C (by omega) dX8_set_81 ⟨1, rfl, by omega, by omega, WM16, EM16, by omega⟩
              · skip
                refine A_aloadn C dX8_set_48 0 rfl rfl ?_
                refine G_getC C WM1 kd_110 rfl rfl rfl rfl uq_37 fX8_set_33 dX8_set_49 ?_
                refine A_iloadn C dX8_set_52 1 rfl rfl ?_
                refine A_iloadn C dX8_set_53 3 rfl rfl ?_
                refine G_iast C WM1 EM1 kd_117 rfl rfl (by decide) (fun _ => rfl) rfl (by omega) (by omega) (by omega) (by omega) dX8_set_54 (fun M17 eM17 WM17 EM17 => ?_)
                have t_M17_110_0 : M17.1 110 0 = M1.1 110 0 := by rw [eM17]; exact sI_kd kd_110 kd_117 rfl
                have t_M17_110_11 : M17.1 110 11 = M1.1 110 11 := by rw [eM17]; exact sI_kd kd_110 kd_117 rfl
                have t_M17_110_12 : M17.1 110 12 = M1.1 110 12 := by rw [eM17]; exact sI_kd kd_110 kd_117 rfl
                have t_M17_110_16 : M17.1 110 16 = M1.1 110 16 := by rw [eM17]; exact sI_kd kd_110 kd_117 rfl
                have t_M17_110_17 : M17.1 110 17 = M1.1 110 17 := by rw [eM17]; exact sI_kd kd_110 kd_117 rfl
                refine A_goto C 80 dX8_set_55 (by decide) ?_
                refine A_iconst C dX8_set_80 ?_
                exact A_zret C (by omega) dX8_set_81 ⟨1, rfl, by omega, by omega, WM17, EM17, by omega⟩
            · skip
              refine A_iconst C dX8_set_42 ?_
              exact A_zret C (by omega) dX8_set_43 ⟨0, rfl, by omega, by omega, WM1, EM1, by omega⟩
          · skip
            refine A_bipush C dX8_set_31 (by decide) ?_
            refine A_goto C 39 dX8_set_33 (by decide) ?_
            refine A_icmple C 44 dX8_set_39 (by decide) (by omega) (by omega) (fun c18 => ?_) (fun c18 => ?_)
            · skip
              refine A_iloadn C dX8_set_44 2 rfl rfl ?_
              refine A_ifne C 58 dX8_set_45 (by decide) (by omega) (fun c19 => ?_) (fun c19 => ?_)
              · skip
                refine A_iloadn C dX8_set_58 2 rfl rfl ?_
                refine A_iconst C dX8_set_59 ?_
                refine A_icmpne C 73 dX8_set_60 (by decide) (by omega) (by omega) (fun c20 => ?_) (fun c20 => ?_)
                · skip
                  refine A_aloadn C dX8_set_73 0 rfl rfl ?_
                  refine G_getC C WM1 kd_110 rfl rfl rfl rfl uq_39 fX8_set_39 dX8_set_74 ?_
                  refine A_iloadn C dX8_set_77 1 rfl rfl ?_
                  refine A_iloadn C dX8_set_78 3 rfl rfl ?_
                  refine G_iast C WM1 EM1 kd_119 rfl rfl (by decide) (fun _ => rfl) rfl (by omega) (by omega) (by omega) (by omega) dX8_set_79 (fun M21 eM21 WM21 EM21 => ?_)
                  have t_M21_110_0 : M21.1 110 0 = M1.1 110 0 := by rw [eM21]; exact sI_kd kd_110 kd_119 rfl
                  have t_M21_110_11 : M21.1 110 11 = M1.1 110 11 := by rw [eM21]; exact sI_kd kd_110 kd_119 rfl
                  have t_M21_110_12 : M21.1 110 12 = M1.1 110 12 := by rw [eM21]; exact sI_kd kd_110 kd_119 rfl
                  have t_M21_110_16 : M21.1 110 16 = M1.1 110 16 := by rw [eM21]; exact sI_kd kd_110 kd_119 rfl
                  have t_M21_110_17 : M21.1 110 17 = M1.1 110 17 := by rw [eM21]; exact sI_kd kd_110 kd_119 rfl
                  refine A_iconst C dX8_set_80 ?_
                  exact A_zret C (by omega) dX8_set_81 ⟨1, rfl, by omega, by omega, WM21, EM21, by omega⟩
                · skip
                  refine A_aloadn C dX8_set_63 0 rfl rfl ?_
                  refine G_getC C WM1 kd_110 rfl rfl rfl rfl uq_38 fX8_set_36 dX8_set_64 ?_
                  refine A_iloadn C dX8_set_67 1 rfl rfl ?_
                  refine A_iloadn C dX8_set_68 3 rfl rfl ?_
                  refine G_iast C WM1 EM1 kd_118 rfl rfl (by decide) (fun _ => rfl) rfl (by omega) (by omega) (by omega) (by omega) dX8_set_69 (fun M22 eM22 WM22 EM22 => ?_)
                  have t_M22_110_0 : M22.1 110 0 = M1.1 110 0 := by rw [eM22]; exact sI_kd kd_110 kd_118 rfl
                  have t_M22_110_11 : M22.1 110 11 = M1.1 110 11 := by rw [eM22]; exact sI_kd kd_110 kd_118 rfl
                  have t_M22_110_12 : M22.1 110 12 = M1.1 110 12 := by rw [eM22]; exact sI_kd kd_110 kd_118 rfl
                  have t_M22_110_16 : M22.1 110 16 = M1.1 110 16 := by rw [eM22]; exact sI_kd kd_110 kd_118 rfl
                  have t_M22_110_17 : M22.1 110 17 = M1.1 110 17 := by rw [eM22]; exact sI_kd kd_110 kd_118 rfl
                  refine A_goto C 80 dX8_set_70 (by decide) ?_
                  refine A_iconst C dX8_set_80 ?_
                  exact A_zret C (by omega) dX8_set_81 ⟨1, rfl, by omega, by omega, WM22, EM22, by omega⟩
              · skip
                refine A_aloadn C dX8_set_48 0 rfl rfl ?_
                refine G_getC C WM1 kd_110 rfl rfl rfl rfl uq_37 fX8_set_33 dX8_set_49 ?_
                refine A_iloadn C dX8_set_52 1 rfl rfl ?_
                refine A_iloadn C dX8_set_53 3 rfl rfl ?_
                refine G_iast C WM1 EM1 kd_117 rfl rfl (by decide) (fun _ => rfl) rfl (by omega) (by omega) (by omega) (by omega) dX8_set_54 (fun M23 eM23 WM23 EM23 => ?_)
                have t_M23_110_0 : M23.1 110 0 = M1.1 110 0 := by rw [eM23]; exact sI_kd kd_110 kd_117 rfl
                have t_M23_110_11 : M23.1 110 11 = M1.1 110 11 := by rw [eM23]; exact sI_kd kd_110 kd_117 rfl
                have t_M23_110_12 : M23.1 110 12 = M1.1 110 12 := by rw [eM23]; exact sI_kd kd_110 kd_117 rfl
                have t_M23_110_16 : M23.1 110 16 = M1.1 110 16 := by rw [eM23]; exact sI_kd kd_110 kd_117 rfl
                have t_M23_110_17 : M23.1 110 17 = M1.1 110 17 := by rw [eM23]; exact sI_kd kd_110 kd_117 rfl
                refine A_goto C 80 dX8_set_55 (by decide) ?_
                refine A_iconst C dX8_set_80 ?_
                exact A_zret C (by omega) dX8_set_81 ⟨1, rfl, by omega, by omega, WM23, EM23, by omega⟩
            · skip
              refine A_iconst C dX8_set_42 ?_
              exact A_zret C (by omega) dX8_set_43 ⟨0, rfl, by omega, by omega, WM1, EM1, by omega⟩

theorem uX8_look_8 : ∀ w ∈ u_ws RX8 TX8 35, w ∈ wsX8_look := by decide +kernel
theorem fX8_look_76 : Fl RX8 wsX8_look 8 19 76 RX8 TX8 35 := ⟨rfl, by decide, uX8_look_8, by decide +kernel⟩
theorem fX8_look_33 : Fl RX8 wsX8_look 8 8 33 RX8 TX8 35 := ⟨rfl, by decide, uX8_look_8, by decide +kernel⟩
theorem fX8_look_36 : Fl RX8 wsX8_look 8 9 36 RX8 TX8 35 := ⟨rfl, by decide, uX8_look_8, by decide +kernel⟩
theorem fX8_look_39 : Fl RX8 wsX8_look 8 10 39 RX8 TX8 35 := ⟨rfl, by decide, uX8_look_8, by decide +kernel⟩
theorem fX8_look_30 : Fl RX8 wsX8_look 8 7 30 RX8 TX8 35 := ⟨rfl, by decide, uX8_look_8, by decide +kernel⟩
set_option maxHeartbeats 4000000 in
theorem kX8_look  {x1 : Int} {x2 : Int} (hx1 : (-2147483648 : Int) ≤ x1 ∧ x1 ≤ 2147483647) (hx2 : (-2147483648 : Int) ≤ x2 ∧ x2 ≤ 2147483647) : Ct yX8_look wsX8_look 2 [.ref 110, .int (iI x1), .int (iI x2)] (fun M => WF M ∧ (M.1 110 16 + M.1 110 17 ≤ M.1 110 0 + 1)) (fun M r M' => ∃ z : Int, r = some (.int (iI z)) ∧ (-2147483648 : Int) ≤ z ∧ z ≤ 2147483647 ∧ WF M' ∧ Fr [30] M M' ∧ (M'.1 110 0 = M.1 110 0 ∧ M'.1 110 12 = M.1 110 12 ∧ M'.1 110 16 = M.1 110 16 ∧ M'.1 110 17 = M.1 110 17) ∧ (M'.1 110 16 + M'.1 110 17 ≤ M'.1 110 0 + 1)) := by
  refine Ct_of (cc := cX8_look) (nL := 3) (rt := (some .int)) (own := RX8) rfl (by decide) rfl (Nat.le_of_ble_eq_true rfl) ?_
  intro p l e s m args below meth c G M0 C W
  obtain ⟨W, hM⟩ := W
  have E : Fr [30] M0 M0 := Fr.rf
  refine A_lv (lv' := [(0, .ref 110), (1, .int (iI x1)), (2, .int (iI x2))]) rfl ?_
  have fa_110_0 : (0 : Int) ≤ M0.1 110 0 ∧ M0.1 110 0 ≤ 12 := W.i kd_110 0
  refine A_aloadn C dX8_look_0 0 rfl rfl ?_
  refine A_iconst C dX8_look_1 ?_
  refine G_putI C W E kd_110 rfl rfl rfl rfl rfl fX8_look_76 ⟨tyX8_ok, nmX8, rfl, by decide⟩ (Or.inl rfl) rfl rfl (by omega) (by omega) dX8_look_2 (fun M1 eM1 WM1 EM1 => ?_)
  have t_M1_110_0 : M1.1 110 0 = M0.1 110 0 := by rw [eM1]; exact sI_pl rfl
  have t_M1_110_11 : M1.1 110 11 = M0.1 110 11 := by rw [eM1]; exact sI_pl rfl
  have t_M1_110_12 : M1.1 110 12 = M0.1 110 12 := by rw [eM1]; exact sI_pl rfl
  have t_M1_110_16 : M1.1 110 16 = M0.1 110 16 := by rw [eM1]; exact sI_pl rfl
  have t_M1_110_17 : M1.1 110 17 = M0.1 110 17 := by rw [eM1]; exact sI_pl rfl
  refine A_aloadn C dX8_look_5 0 rfl rfl ?_
  refine A_iloadn C dX8_look_6 1 rfl rfl ?_
  refine A_callV C (n := 1) (st := []) (kX8_isColumn  (by omega)) gX8_look_X8_isColumn rfl (by decide +kernel) ⟨Nat.le_of_ble_eq_true rfl, Nat.le_of_ble_eq_true rfl⟩ kd_110 rfl rfl rfl rfl (Nat.le_of_ble_eq_true rfl) dX8_look_7 rfl WM1 (fun r2 M3 h4 => ?_)
  obtain ⟨z6, rfl, lz6, uz6, rfl, xx5⟩ := h4
  refine A_st (st' := [.int (iI z6)]) rfl ?_
  refine A_ifne C 19 dX8_look_10 (by decide) (by omega) (fun c7 => ?_) (fun c7 => ?_)
  · skip
    refine A_iloadn C dX8_look_19 2 rfl rfl ?_
    rcases (show (x2 < 0 ∨ 3 < x2) ∨ x2 = 0 ∨ x2 = 1 ∨ x2 = 2 ∨ x2 = 3 by omega) with c8 | c8 | c8 | c8 | c8
    · skip
      refine A_tabOut C 80 dX8_look_20 (by omega) c8 (by decide) ?_
      refine A_aloadn C dX8_look_80 0 rfl rfl ?_
      refine A_iconst C dX8_look_81 ?_
      refine A_callV C (n := 1) (st := []) (kX8_fails  (by omega)) gX8_look_X8_fails rfl (by decide +kernel) ⟨Nat.le_of_ble_eq_true rfl, Nat.le_of_ble_eq_true rfl⟩ kd_110 rfl rfl rfl rfl (Nat.le_of_ble_eq_true rfl) dX8_look_82 rfl WM1 (fun r9 M10 h11 => ?_)
      obtain ⟨z13, rfl, lz13, uz13, WM10, FM10, xx12⟩ := h11
      have EM10 := Fr.tr EM1 (FM10.mono (c2 := [30]) rfl)
      refine A_st (st' := [.int (iI z13)]) rfl ?_
      exact A_iret C dX8_look_85 ⟨z13, rfl, by omega, by omega, WM10, EM10, by omega⟩
    · skip
      refine A_tabIn C 0 52 dX8_look_20 c8 (by decide) (by decide) (by decide) rfl (by decide) ?_
      refine A_aloadn C dX8_look_52 0 rfl rfl ?_
      refine G_getC C WM1 kd_110 rfl rfl rfl rfl uq_37 fX8_look_33 dX8_look_53 ?_
      refine A_iloadn C dX8_look_56 1 rfl rfl ?_
      refine G_iald C WM1 kd_117 rfl rfl (by decide) (fun _ => rfl) (by omega) (by omega) dX8_look_57 (fun z14 ez14 lz14 uz14 => ?_)
      exact A_iret C dX8_look_58 ⟨z14, rfl, by omega, by omega, WM1, EM1, by omega⟩
    · skip
      refine A_tabIn C 1 59 dX8_look_20 c8 (by decide) (by decide) (by decide) rfl (by decide) ?_
      refine A_aloadn C dX8_look_59 0 rfl rfl ?_
      refine G_getC C WM1 kd_110 rfl rfl rfl rfl uq_38 fX8_look_36 dX8_look_60 ?_
      refine A_iloadn C dX8_look_63 1 rfl rfl ?_
      refine G_iald C WM1 kd_118 rfl rfl (by decide) (fun _ => rfl) (by omega) (by omega) dX8_look_64 (fun z15 ez15 lz15 uz15 => ?_)
      exact A_iret C dX8_look_65 ⟨z15, rfl, by omega, by omega, WM1, EM1, by omega⟩
    · skip
      refine A_tabIn C 2 66 dX8_look_20 c8 (by decide) (by decide) (by decide) rfl (by decide) ?_
      refine A_aloadn C dX8_look_66 0 rfl rfl ?_
      refine G_getC C WM1 kd_110 rfl rfl rfl rfl uq_39 fX8_look_39 dX8_look_67 ?_
      refine A_iloadn C dX8_look_70 1 rfl rfl ?_
      refine G_iald C WM1 kd_119 rfl rfl (by decide) (fun _ => rfl) (by omega) (by omega) dX8_look_71 (fun z16 ez16 lz16 uz16 => ?_)
      exact A_iret C dX8_look_72 ⟨z16, rfl, by omega, by omega, WM1, EM1, by omega⟩
    · skip
      refine A_tabIn C 3 73 dX8_look_20 c8 (by decide) (by decide) (by decide) rfl (by decide) ?_
      refine A_aloadn C dX8_look_73 0 rfl rfl ?_
      refine G_getC C WM1 kd_110 rfl rfl rfl rfl uq_36 fX8_look_30 dX8_look_74 ?_
      refine A_iloadn C dX8_look_77 1 rfl rfl ?_
      refine G_iald C WM1 kd_116 rfl rfl (by decide) (fun _ => rfl) (by omega) (by omega) dX8_look_78 (fun z17 ez17 lz17 uz17 => ?_)
      exact A_iret C dX8_look_79 ⟨z17, rfl, by omega, by omega, WM1, EM1, by omega⟩
  · skip
    refine A_aloadn C dX8_look_13 0 rfl rfl ?_
    refine A_iconst C dX8_look_14 ?_
    refine A_callV C (n := 1) (st := []) (kX8_fails  (by omega)) gX8_look_X8_fails rfl (by decide +kernel) ⟨Nat.le_of_ble_eq_true rfl, Nat.le_of_ble_eq_true rfl⟩ kd_110 rfl rfl rfl rfl (Nat.le_of_ble_eq_true rfl) dX8_look_15 rfl WM1 (fun r18 M19 h20 => ?_)
    obtain ⟨z22, rfl, lz22, uz22, WM19, FM19, xx21⟩ := h20
    have EM19 := Fr.tr EM1 (FM19.mono (c2 := [30]) rfl)
    refine A_st (st' := [.int (iI z22)]) rfl ?_
    exact A_iret C dX8_look_18 ⟨z22, rfl, by omega, by omega, WM19, EM19, by omega⟩

theorem uX8_cell_8 : ∀ w ∈ u_ws RX8 TX8 35, w ∈ wsX8_cell := by decide +kernel
theorem fX8_cell_76 : Fl RX8 wsX8_cell 8 19 76 RX8 TX8 35 := ⟨rfl, by decide, uX8_cell_8, by decide +kernel⟩
theorem fX8_cell_30 : Fl RX8 wsX8_cell 8 7 30 RX8 TX8 35 := ⟨rfl, by decide, uX8_cell_8, by decide +kernel⟩
theorem fX8_cell_27 : Fl RX8 wsX8_cell 8 6 27 RX8 TX8 35 := ⟨rfl, by decide, uX8_cell_8, by decide +kernel⟩
set_option maxHeartbeats 4000000 in
theorem kX8_cell  {x1 : Int} {x2 : Int} (hx1 : (-2147483648 : Int) ≤ x1 ∧ x1 ≤ 2147483647) (hx2 : (-2147483648 : Int) ≤ x2 ∧ x2 ≤ 2147483647) : Ct yX8_cell wsX8_cell 2 [.ref 110, .int (iI x1), .int (iI x2)] (fun M => WF M ∧ (M.1 110 16 + M.1 110 17 ≤ M.1 110 0 + 1)) (fun M r M' => ∃ z : Int, r = some (.int (iI z)) ∧ (-2147483648 : Int) ≤ z ∧ z ≤ 2147483647 ∧ WF M' ∧ Fr [30] M M' ∧ (M'.1 110 0 = M.1 110 0 ∧ M'.1 110 12 = M.1 110 12 ∧ M'.1 110 16 = M.1 110 16 ∧ M'.1 110 17 = M.1 110 17) ∧ (M'.1 110 16 + M'.1 110 17 ≤ M'.1 110 0 + 1)) := by
  refine Ct_of (cc := cX8_cell) (nL := 3) (rt := (some .int)) (own := RX8) rfl (by decide) rfl (Nat.le_of_ble_eq_true rfl) ?_
  intro p l e s m args below meth c G M0 C W
  obtain ⟨W, hM⟩ := W
  have E : Fr [30] M0 M0 := Fr.rf
  refine A_lv (lv' := [(0, .ref 110), (1, .int (iI x1)), (2, .int (iI x2))]) rfl ?_
  have fa_110_0 : (0 : Int) ≤ M0.1 110 0 ∧ M0.1 110 0 ≤ 12 := W.i kd_110 0
  refine A_aloadn C dX8_cell_0 0 rfl rfl ?_
  refine A_iconst C dX8_cell_1 ?_
  refine G_putI C W E kd_110 rfl rfl rfl rfl rfl fX8_cell_76 ⟨tyX8_ok, nmX8, rfl, by decide⟩ (Or.inl rfl) rfl rfl (by omega) (by omega) dX8_cell_2 (fun M1 eM1 WM1 EM1 => ?_)
  have t_M1_110_0 : M1.1 110 0 = M0.1 110 0 := by rw [eM1]; exact sI_pl rfl
  have t_M1_110_11 : M1.1 110 11 = M0.1 110 11 := by rw [eM1]; exact sI_pl rfl
  have t_M1_110_12 : M1.1 110 12 = M0.1 110 12 := by rw [eM1]; exact sI_pl rfl
  have t_M1_110_16 : M1.1 110 16 = M0.1 110 16 := by rw [eM1]; exact sI_pl rfl
  have t_M1_110_17 : M1.1 110 17 = M0.1 110 17 := by rw [eM1]; exact sI_pl rfl
  refine A_aloadn C dX8_cell_5 0 rfl rfl ?_
  refine A_iloadn C dX8_cell_6 1 rfl rfl ?_
  refine A_callV C (n := 1) (st := []) (kX8_isColumn  (by omega)) gX8_cell_X8_isColumn rfl (by decide +kernel) ⟨Nat.le_of_ble_eq_true rfl, Nat.le_of_ble_eq_true rfl⟩ kd_110 rfl rfl rfl rfl (Nat.le_of_ble_eq_true rfl) dX8_cell_7 rfl WM1 (fun r2 M3 h4 => ?_)
  obtain ⟨z6, rfl, lz6, uz6, rfl, xx5⟩ := h4
  refine A_st (st' := [.int (iI z6)]) rfl ?_
  refine A_ifeq C 27 dX8_cell_10 (by decide) (by omega) (fun c7 => ?_) (fun c7 => ?_)
  · skip
    refine A_iconst C dX8_cell_27 ?_
    refine A_goto C 42 dX8_cell_28 (by decide) ?_
    exact A_iret C dX8_cell_42 ⟨(-1), rfl, by omega, by omega, WM1, EM1, by omega⟩
  · skip
    refine A_iloadn C dX8_cell_13 2 rfl rfl ?_
    refine A_iflt C 27 dX8_cell_14 (by decide) (by omega) (fun c8 => ?_) (fun c8 => ?_)
    · skip
      refine A_iconst C dX8_cell_27 ?_
      refine A_goto C 42 dX8_cell_28 (by decide) ?_
      exact A_iret C dX8_cell_42 ⟨(-1), rfl, by omega, by omega, WM1, EM1, by omega⟩
    · skip
      refine A_iloadn C dX8_cell_17 2 rfl rfl ?_
      refine A_aloadn C dX8_cell_18 0 rfl rfl ?_
      refine G_getC C WM1 kd_110 rfl rfl rfl rfl uq_36 fX8_cell_30 dX8_cell_19 ?_
      refine A_iloadn C dX8_cell_22 1 rfl rfl ?_
      refine G_iald C WM1 kd_116 rfl rfl (by decide) (fun _ => rfl) (by omega) (by omega) dX8_cell_23 (fun z9 ez9 lz9 uz9 => ?_)
      refine A_icmplt C 31 dX8_cell_24 (by decide) (by omega) (by omega) (fun c10 => ?_) (fun c10 => ?_)
      · skip
        refine A_aloadn C dX8_cell_31 0 rfl rfl ?_
        refine G_getC C WM1 kd_110 rfl rfl rfl rfl uq_35 fX8_cell_27 dX8_cell_32 ?_
        refine A_bipush C dX8_cell_35 (by decide) ?_
        refine A_iloadn C dX8_cell_37 1 rfl rfl ?_
        refine A_imul C dX8_cell_38 ?_
        refine A_iloadn C dX8_cell_39 2 rfl rfl ?_
        refine A_iadd C dX8_cell_40 ?_
        refine G_iald C WM1 kd_115 rfl rfl (by decide) (fun _ => rfl) (by omega) (by omega) dX8_cell_41 (fun z11 ez11 lz11 uz11 => ?_)
        exact A_iret C dX8_cell_42 ⟨z11, rfl, by omega, by omega, WM1, EM1, by omega⟩
      · skip
        refine A_iconst C dX8_cell_27 ?_
        refine A_goto C 42 dX8_cell_28 (by decide) ?_
        exact A_iret C dX8_cell_42 ⟨(-1), rfl, by omega, by omega, WM1, EM1, by omega⟩

theorem uX8_can_8 : ∀ w ∈ u_ws RX8 TX8 35, w ∈ wsX8_can := by decide +kernel
theorem fX8_can_30 : Fl RX8 wsX8_can 8 7 30 RX8 TX8 35 := ⟨rfl, by decide, uX8_can_8, by decide +kernel⟩
theorem fX8_can_96 : Fl RX8 wsX8_can 8 11 96 RX8 TX8 35 := ⟨rfl, by decide, uX8_can_8, by decide +kernel⟩
theorem fX8_can_23 : Fl RX8 wsX8_can 8 5 23 RX8 TX8 35 := ⟨rfl, by decide, uX8_can_8, by decide +kernel⟩
theorem fX8_can_27 : Fl RX8 wsX8_can 8 6 27 RX8 TX8 35 := ⟨rfl, by decide, uX8_can_8, by decide +kernel⟩
set_option maxHeartbeats 4000000 in
theorem kX8_can  {x1 : Int} {x2 : Int} {x3 : Int} (hx1 : (0 : Int) ≤ x1 ∧ x1 ≤ 11) (hx2 : (0 : Int) ≤ x2 ∧ x2 ≤ 24) (hx3 : (0 : Int) ≤ x3 ∧ x3 ≤ 24) : Ct yX8_can wsX8_can 1 [.ref 110, .int (iI x1), .int (iI x2), .int (iI x3)] (fun M => WF M) (fun M r M' => ∃ z : Int, r = some (.int (iI z)) ∧ (0 : Int) ≤ z ∧ z ≤ 1 ∧ M = M' ∧ (z = 1 ↔ fCan M.1 x1 x2 x3)) := by
  refine Ct_of (cc := cX8_can) (nL := 6) (rt := (some .boolean)) (own := RX8) rfl (by decide) rfl (Nat.le_of_ble_eq_true rfl) ?_
  intro p l e s m args below meth c G M0 C W
  have E : Fr [] M0 M0 := Fr.rf
  refine A_lv (lv' := [(0, .ref 110), (1, .int (iI x1)), (2, .int (iI x2)), (3, .int (iI x3))]) rfl ?_
  refine A_iloadn C dX8_can_0 2 rfl rfl ?_
  refine A_iloadn C dX8_can_1 3 rfl rfl ?_
  refine A_icmpge C 9 dX8_can_2 (by decide) (by omega) (by omega) (fun c1 => ?_) (fun c1 => ?_)
  · skip
    refine A_iloadn C dX8_can_9 3 rfl rfl ?_
    refine A_istore (lv' := [(4, .int (iI x3)), (0, .ref 110), (1, .int (iI x1)), (2, .int (iI x2)), (3, .int (iI x3))]) C dX8_can_10 (by decide) rfl ?_
    refine A_iloadn C dX8_can_12 3 rfl rfl ?_
    refine A_iloadn C dX8_can_13 4 rfl rfl ?_
    refine A_icmpge C 21 dX8_can_14 (by decide) (by omega) (by omega) (fun c2 => ?_) (fun c2 => ?_)
    · skip
      refine A_iloadn C dX8_can_21 3 rfl rfl ?_
      refine A_istore (lv' := [(5, .int (iI x2)), (4, .int (iI x3)), (0, .ref 110), (1, .int (iI x1)), (2, .int (iI x2)), (3, .int (iI x3))]) C dX8_can_22 (by decide) rfl ?_
      refine A_iload C dX8_can_24 0 rfl ?_
      refine A_iload C dX8_can_26 1 rfl ?_
      refine A_isub C dX8_can_28 ?_
      refine A_iconst C dX8_can_29 ?_
      refine A_icmpgt C 89 dX8_can_30 (by decide) (by omega) (by omega) (fun c3 => ?_) (fun c3 => ?_)
      · skip
        refine A_iconst C dX8_can_89 ?_
        exact A_zret C (by omega) dX8_can_90 ⟨0, rfl, by omega, by omega, rfl, by subst_vars; simp only [fCan, fTop, fB, fE, lowF, highF]; (repeat' split) <;> first | omega | exact ⟨fun _ => ⟨by omega, by omega, by omega, by first | assumption | (symm; assumption)⟩, fun _ => trivial⟩⟩
      · skip
        refine A_iload C dX8_can_33 0 rfl ?_
        refine A_aloadn C dX8_can_35 2 rfl rfl ?_
        refine G_getC C W kd_110 rfl rfl rfl rfl uq_36 fX8_can_30 dX8_can_36 ?_
        refine A_aloadn C dX8_can_39 2 rfl rfl ?_
        refine G_getI C W kd_110 rfl rfl rfl rfl rfl fX8_can_96 rfl dX8_can_40 (fun z4 ez4 lz4 uz4 => ?_)
        refine A_iloadn C dX8_can_43 3 rfl rfl ?_
        refine A_iadd C dX8_can_44 ?_
        refine G_iald C W kd_116 rfl rfl (by decide) (fun _ => rfl) (by omega) (by omega) dX8_can_45 (fun z5 ez5 lz5 uz5 => ?_)
        refine A_icmpgt C 89 dX8_can_46 (by decide) (by omega) (by omega) (fun c6 => ?_) (fun c6 => ?_)
        · skip
          refine A_iconst C dX8_can_89 ?_
          exact A_zret C (by omega) dX8_can_90 ⟨0, rfl, by omega, by omega, rfl, by subst_vars; simp only [fCan, fTop, fB, fE, lowF, highF]; (repeat' split) <;> first | omega | exact ⟨fun _ => ⟨by omega, by omega, by omega, by first | assumption | (symm; assumption)⟩, fun _ => trivial⟩⟩
        · skip
          refine A_iload C dX8_can_49 1 rfl ?_
          refine A_aloadn C dX8_can_51 2 rfl rfl ?_
          refine G_getC C W kd_110 rfl rfl rfl rfl uq_36 fX8_can_30 dX8_can_52 ?_
          refine A_aloadn C dX8_can_55 2 rfl rfl ?_
          refine G_getI C W kd_110 rfl rfl rfl rfl rfl fX8_can_96 rfl dX8_can_56 (fun z7 ez7 lz7 uz7 => ?_)
          refine A_iloadn C dX8_can_59 3 rfl rfl ?_
          refine A_iadd C dX8_can_60 ?_
          refine G_iald C W kd_116 rfl rfl (by decide) (fun _ => rfl) (by omega) (by omega) dX8_can_61 (fun z8 ez8 lz8 uz8 => ?_)
          refine A_icmpge C 89 dX8_can_62 (by decide) (by omega) (by omega) (fun c9 => ?_) (fun c9 => ?_)
          · skip
            refine A_iconst C dX8_can_89 ?_
            exact A_zret C (by omega) dX8_can_90 ⟨0, rfl, by omega, by omega, rfl, by subst_vars; simp only [fCan, fTop, fB, fE, lowF, highF]; (repeat' split) <;> first | omega | exact ⟨fun _ => ⟨by omega, by omega, by omega, by first | assumption | (symm; assumption)⟩, fun _ => trivial⟩⟩
          · skip
            refine A_aloadn C dX8_can_65 2 rfl rfl ?_
            refine G_getC C W kd_110 rfl rfl rfl rfl uq_34 fX8_can_23 dX8_can_66 ?_
            refine A_aloadn C dX8_can_69 2 rfl rfl ?_
            refine G_getC C W kd_110 rfl rfl rfl rfl uq_35 fX8_can_27 dX8_can_70 ?_
            refine A_bipush C dX8_can_73 (by decide) ?_
            refine A_iloadn C dX8_can_75 3 rfl rfl ?_
            refine A_imul C dX8_can_76 ?_
            refine A_iload C dX8_can_77 1 rfl ?_
            refine A_iadd C dX8_can_79 ?_
            refine G_iald C W kd_115 rfl rfl (by decide) (fun _ => rfl) (by omega) (by omega) dX8_can_80 (fun z10 ez10 lz10 uz10 => ?_)
            refine G_zald C W kd_114 rfl rfl (by decide) (fun _ => rfl) (by omega) (by omega) dX8_can_81 (fun z11 ez11 lz11 uz11 => ?_)
            refine A_ifne C 89 dX8_can_82 (by decide) (by omega) (fun c12 => ?_) (fun c12 => ?_)
            · skip
              refine A_iconst C dX8_can_89 ?_
              exact A_zret C (by omega) dX8_can_90 ⟨0, rfl, by omega, by omega, rfl, by subst_vars; simp only [fCan, fTop, fB, fE, lowF, highF]; (repeat' split) <;> first | omega | exact ⟨fun _ => ⟨by omega, by omega, by omega, by first | assumption | (symm; assumption)⟩, fun _ => trivial⟩⟩
            · skip
              refine A_iconst C dX8_can_85 ?_
              refine A_goto C 90 dX8_can_86 (by decide) ?_
              exact A_zret C (by omega) dX8_can_90 ⟨1, rfl, by omega, by omega, rfl, by subst_vars; simp only [fCan, fTop, fB, fE, lowF, highF]; (repeat' split) <;> first | omega | exact ⟨fun _ => ⟨by omega, by omega, by omega, by first | assumption | (symm; assumption)⟩, fun _ => trivial⟩⟩
    · skip
      refine A_iloadn C dX8_can_17 4 rfl rfl ?_
      refine A_goto C 22 dX8_can_18 (by decide) ?_
      refine A_istore (lv' := [(5, .int (iI x3)), (4, .int (iI x3)), (0, .ref 110), (1, .int (iI x1)), (2, .int (iI x2)), (3, .int (iI x3))]) C dX8_can_22 (by decide) rfl ?_
      refine A_iload C dX8_can_24 0 rfl ?_
      refine A_iload C dX8_can_26 1 rfl ?_
      refine A_isub C dX8_can_28 ?_
      refine A_iconst C dX8_can_29 ?_
      refine A_icmpgt C 89 dX8_can_30 (by decide) (by omega) (by omega) (fun c13 => ?_) (fun c13 => ?_)
      · skip
        refine A_iconst C dX8_can_89 ?_
        exact A_zret C (by omega) dX8_can_90 ⟨0, rfl, by omega, by omega, rfl, by subst_vars; simp only [fCan, fTop, fB, fE, lowF, highF]; (repeat' split) <;> first | omega | exact ⟨fun _ => ⟨by omega, by omega, by omega, by first | assumption | (symm; assumption)⟩, fun _ => trivial⟩⟩
      · skip
        refine A_iload C dX8_can_33 0 rfl ?_
        refine A_aloadn C dX8_can_35 2 rfl rfl ?_
        refine G_getC C W kd_110 rfl rfl rfl rfl uq_36 fX8_can_30 dX8_can_36 ?_
        refine A_aloadn C dX8_can_39 2 rfl rfl ?_
        refine G_getI C W kd_110 rfl rfl rfl rfl rfl fX8_can_96 rfl dX8_can_40 (fun z14 ez14 lz14 uz14 => ?_)
        refine A_iloadn C dX8_can_43 3 rfl rfl ?_
        refine A_iadd C dX8_can_44 ?_
        refine G_iald C W kd_116 rfl rfl (by decide) (fun _ => rfl) (by omega) (by omega) dX8_can_45 (fun z15 ez15 lz15 uz15 => ?_)
        refine A_icmpgt C 89 dX8_can_46 (by decide) (by omega) (by omega) (fun c16 => ?_) (fun c16 => ?_)
        · skip
          refine A_iconst C dX8_can_89 ?_
          exact A_zret C (by omega) dX8_can_90 ⟨0, rfl, by omega, by omega, rfl, by subst_vars; simp only [fCan, fTop, fB, fE, lowF, highF]; (repeat' split) <;> first | omega | exact ⟨fun _ => ⟨by omega, by omega, by omega, by first | assumption | (symm; assumption)⟩, fun _ => trivial⟩⟩
        · skip
          refine A_iload C dX8_can_49 1 rfl ?_
          refine A_aloadn C dX8_can_51 2 rfl rfl ?_
          refine G_getC C W kd_110 rfl rfl rfl rfl uq_36 fX8_can_30 dX8_can_52 ?_
          refine A_aloadn C dX8_can_55 2 rfl rfl ?_
          refine G_getI C W kd_110 rfl rfl rfl rfl rfl fX8_can_96 rfl dX8_can_56 (fun z17 ez17 lz17 uz17 => ?_)
          refine A_iloadn C dX8_can_59 3 rfl rfl ?_
          refine A_iadd C dX8_can_60 ?_
          refine G_iald C W kd_116 rfl rfl (by decide) (fun _ => rfl) (by omega) (by omega) dX8_can_61 (fun z18 ez18 lz18 uz18 => ?_)
          refine A_icmpge C 89 dX8_can_62 (by decide) (by omega) (by omega) (fun c19 => ?_) (fun c19 => ?_)
          · skip
            refine A_iconst C dX8_can_89 ?_
            exact A_zret C (by omega) dX8_can_90 ⟨0, rfl, by omega, by omega, rfl, by subst_vars; simp only [fCan, fTop, fB, fE, lowF, highF]; (repeat' split) <;> first | omega | exact ⟨fun _ => ⟨by omega, by omega, by omega, by first | assumption | (symm; assumption)⟩, fun _ => trivial⟩⟩
          · skip
            refine A_aloadn C dX8_can_65 2 rfl rfl ?_
            refine G_getC C W kd_110 rfl rfl rfl rfl uq_34 fX8_can_23 dX8_can_66 ?_
            refine A_aloadn C dX8_can_69 2 rfl rfl ?_
            refine G_getC C W kd_110 rfl rfl rfl rfl uq_35 fX8_can_27 dX8_can_70 ?_
            refine A_bipush C dX8_can_73 (by decide) ?_
            refine A_iloadn C dX8_can_75 3 rfl rfl ?_
            refine A_imul C dX8_can_76 ?_
            refine A_iload C dX8_can_77 1 rfl ?_
            refine A_iadd C dX8_can_79 ?_
            refine G_iald C W kd_115 rfl rfl (by decide) (fun _ => rfl) (by omega) (by omega) dX8_can_80 (fun z20 ez20 lz20 uz20 => ?_)
            refine G_zald C W kd_114 rfl rfl (by decide) (fun _ => rfl) (by omega) (by omega) dX8_can_81 (fun z21 ez21 lz21 uz21 => ?_)
            refine A_ifne C 89 dX8_can_82 (by decide) (by omega) (fun c22 => ?_) (fun c22 => ?_)
            · skip
              refine A_iconst C dX8_can_89 ?_
              exact A_zret C (by omega) dX8_can_90 ⟨0, rfl, by omega, by omega, rfl, by subst_vars; simp only [fCan, fTop, fB, fE, lowF, highF]; (repeat' split) <;> first | omega | exact ⟨fun _ => ⟨by omega, by omega, by omega, by first | assumption | (symm; assumption)⟩, fun _ => trivial⟩⟩
            · skip
              refine A_iconst C dX8_can_85 ?_
              refine A_goto C 90 dX8_can_86 (by decide) ?_
              exact A_zret C (by omega) dX8_can_90 ⟨1, rfl, by omega, by omega, rfl, by subst_vars; simp only [fCan, fTop, fB, fE, lowF, highF]; (repeat' split) <;> first | omega | exact ⟨fun _ => ⟨by omega, by omega, by omega, by first | assumption | (symm; assumption)⟩, fun _ => trivial⟩⟩
  · skip
    refine A_iloadn C dX8_can_5 2 rfl rfl ?_
    refine A_goto C 10 dX8_can_6 (by decide) ?_
    refine A_istore (lv' := [(4, .int (iI x2)), (0, .ref 110), (1, .int (iI x1)), (2, .int (iI x2)), (3, .int (iI x3))]) C dX8_can_10 (by decide) rfl ?_
    refine A_iloadn C dX8_can_12 3 rfl rfl ?_
    refine A_iloadn C dX8_can_13 4 rfl rfl ?_
    refine A_icmpge C 21 dX8_can_14 (by decide) (by omega) (by omega) (fun c23 => ?_) (fun c23 => ?_)
    · skip
      refine A_iloadn C dX8_can_21 3 rfl rfl ?_
      refine A_istore (lv' := [(5, .int (iI x2)), (4, .int (iI x2)), (0, .ref 110), (1, .int (iI x1)), (2, .int (iI x2)), (3, .int (iI x3))]) C dX8_can_22 (by decide) rfl ?_
      refine A_iload C dX8_can_24 0 rfl ?_
      refine A_iload C dX8_can_26 1 rfl ?_
      refine A_isub C dX8_can_28 ?_
      refine A_iconst C dX8_can_29 ?_
      refine A_icmpgt C 89 dX8_can_30 (by decide) (by omega) (by omega) (fun c24 => ?_) (fun c24 => ?_)
      · skip
        refine A_iconst C dX8_can_89 ?_
        exact A_zret C (by omega) dX8_can_90 ⟨0, rfl, by omega, by omega, rfl, by subst_vars; simp only [fCan, fTop, fB, fE, lowF, highF]; (repeat' split) <;> first | omega | exact ⟨fun _ => ⟨by omega, by omega, by omega, by first | assumption | (symm; assumption)⟩, fun _ => trivial⟩⟩
      · skip
        refine A_iload C dX8_can_33 0 rfl ?_
        refine A_aloadn C dX8_can_35 2 rfl rfl ?_
        refine G_getC C W kd_110 rfl rfl rfl rfl uq_36 fX8_can_30 dX8_can_36 ?_
        refine A_aloadn C dX8_can_39 2 rfl rfl ?_
        refine G_getI C W kd_110 rfl rfl rfl rfl rfl fX8_can_96 rfl dX8_can_40 (fun z25 ez25 lz25 uz25 => ?_)
        refine A_iloadn C dX8_can_43 3 rfl rfl ?_
        refine A_iadd C dX8_can_44 ?_
        refine G_iald C W kd_116 rfl rfl (by decide) (fun _ => rfl) (by omega) (by omega) dX8_can_45 (fun z26 ez26 lz26 uz26 => ?_)
        refine A_icmpgt C 89 dX8_can_46 (by decide) (by omega) (by omega) (fun c27 => ?_) (fun c27 => ?_)
        · skip
          refine A_iconst C dX8_can_89 ?_
          exact A_zret C (by omega) dX8_can_90 ⟨0, rfl, by omega, by omega, rfl, by subst_vars; simp only [fCan, fTop, fB, fE, lowF, highF]; (repeat' split) <;> first | omega | exact ⟨fun _ => ⟨by omega, by omega, by omega, by first | assumption | (symm; assumption)⟩, fun _ => trivial⟩⟩
        · skip
          refine A_iload C dX8_can_49 1 rfl ?_
          refine A_aloadn C dX8_can_51 2 rfl rfl ?_
          refine G_getC C W kd_110 rfl rfl rfl rfl uq_36 fX8_can_30 dX8_can_52 ?_
          refine A_aloadn C dX8_can_55 2 rfl rfl ?_
          refine G_getI C W kd_110 rfl rfl rfl rfl rfl fX8_can_96 rfl dX8_can_56 (fun z28 ez28 lz28 uz28 => ?_)
          refine A_iloadn C dX8_can_59 3 rfl rfl ?_
          refine A_iadd C dX8_can_60 ?_
          refine G_iald C W kd_116 rfl rfl (by decide) (fun _ => rfl) (by omega) (by omega) dX8_can_61 (fun z29 ez29 lz29 uz29 => ?_)
          refine A_icmpge C 89 dX8_can_62 (by decide) (by omega) (by omega) (fun c30 => ?_) (fun c30 => ?_)
          · skip
            refine A_iconst C dX8_can_89 ?_
            exact A_zret C (by omega) dX8_can_90 ⟨0, rfl, by omega, by omega, rfl, by subst_vars; simp only [fCan, fTop, fB, fE, lowF, highF]; (repeat' split) <;> first | omega | exact ⟨fun _ => ⟨by omega, by omega, by omega, by first | assumption | (symm; assumption)⟩, fun _ => trivial⟩⟩
          · skip
            refine A_aloadn C dX8_can_65 2 rfl rfl ?_
            refine G_getC C W kd_110 rfl rfl rfl rfl uq_34 fX8_can_23 dX8_can_66 ?_
            refine A_aloadn C dX8_can_69 2 rfl rfl ?_
            refine G_getC C W kd_110 rfl rfl rfl rfl uq_35 fX8_can_27 dX8_can_70 ?_
            refine A_bipush C dX8_can_73 (by decide) ?_
            refine A_iloadn C dX8_can_75 3 rfl rfl ?_
            refine A_imul C dX8_can_76 ?_
            refine A_iload C dX8_can_77 1 rfl ?_
            refine A_iadd C dX8_can_79 ?_
            refine G_iald C W kd_115 rfl rfl (by decide) (fun _ => rfl) (by omega) (by omega) dX8_can_80 (fun z31 ez31 lz31 uz31 => ?_)
            refine G_zald C W kd_114 rfl rfl (by decide) (fun _ => rfl) (by omega) (by omega) dX8_can_81 (fun z32 ez32 lz32 uz32 => ?_)
            refine A_ifne C 89 dX8_can_82 (by decide) (by omega) (fun c33 => ?_) (fun c33 => ?_)
            · skip
              refine A_iconst C dX8_can_89 ?_
              exact A_zret C (by omega) dX8_can_90 ⟨0, rfl, by omega, by omega, rfl, by subst_vars; simp only [fCan, fTop, fB, fE, lowF, highF]; (repeat' split) <;> first | omega | exact ⟨fun _ => ⟨by omega, by omega, by omega, by first | assumption | (symm; assumption)⟩, fun _ => trivial⟩⟩
            · skip
              refine A_iconst C dX8_can_85 ?_
              refine A_goto C 90 dX8_can_86 (by decide) ?_
              exact A_zret C (by omega) dX8_can_90 ⟨1, rfl, by omega, by omega, rfl, by subst_vars; simp only [fCan, fTop, fB, fE, lowF, highF]; (repeat' split) <;> first | omega | exact ⟨fun _ => ⟨by omega, by omega, by omega, by first | assumption | (symm; assumption)⟩, fun _ => trivial⟩⟩
    · skip
      refine A_iloadn C dX8_can_17 4 rfl rfl ?_
      refine A_goto C 22 dX8_can_18 (by decide) ?_
      refine A_istore (lv' := [(5, .int (iI x3)), (4, .int (iI x2)), (0, .ref 110), (1, .int (iI x1)), (2, .int (iI x2)), (3, .int (iI x3))]) C dX8_can_22 (by decide) rfl ?_
      refine A_iload C dX8_can_24 0 rfl ?_
      refine A_iload C dX8_can_26 1 rfl ?_
      refine A_isub C dX8_can_28 ?_
      refine A_iconst C dX8_can_29 ?_
      refine A_icmpgt C 89 dX8_can_30 (by decide) (by omega) (by omega) (fun c34 => ?_) (fun c34 => ?_)
      · skip
        refine A_iconst C dX8_can_89 ?_
        exact A_zret C (by omega) dX8_can_90 ⟨0, rfl, by omega, by omega, rfl, by subst_vars; simp only [fCan, fTop, fB, fE, lowF, highF]; (repeat' split) <;> first | omega | exact ⟨fun _ => ⟨by omega, by omega, by omega, by first | assumption | (symm; assumption)⟩, fun _ => trivial⟩⟩
      · skip
        refine A_iload C dX8_can_33 0 rfl ?_
        refine A_aloadn C dX8_can_35 2 rfl rfl ?_
        refine G_getC C W kd_110 rfl rfl rfl rfl uq_36 fX8_can_30 dX8_can_36 ?_
        refine A_aloadn C dX8_can_39 2 rfl rfl ?_
        refine G_getI C W kd_110 rfl rfl rfl rfl rfl fX8_can_96 rfl dX8_can_40 (fun z35 ez35 lz35 uz35 => ?_)
        refine A_iloadn C dX8_can_43 3 rfl rfl ?_
        refine A_iadd C dX8_can_44 ?_
        refine G_iald C W kd_116 rfl rfl (by decide) (fun _ => rfl) (by omega) (by omega) dX8_can_45 (fun z36 ez36 lz36 uz36 => ?_)
        refine A_icmpgt C 89 dX8_can_46 (by decide) (by omega) (by omega) (fun c37 => ?_) (fun c37 => ?_)
        · skip
          refine A_iconst C dX8_can_89 ?_
          exact A_zret C (by omega) dX8_can_90 ⟨0, rfl, by omega, by omega, rfl, by subst_vars; simp only [fCan, fTop, fB, fE, lowF, highF]; (repeat' split) <;> first | omega | exact ⟨fun _ => ⟨by omega, by omega, by omega, by first | assumption | (symm; assumption)⟩, fun _ => trivial⟩⟩
        · skip
          refine A_iload C dX8_can_49 1 rfl ?_
          refine A_aloadn C dX8_can_51 2 rfl rfl ?_
          refine G_getC C W kd_110 rfl rfl rfl rfl uq_36 fX8_can_30 dX8_can_52 ?_
          refine A_aloadn C dX8_can_55 2 rfl rfl ?_
          refine G_getI C W kd_110 rfl rfl rfl rfl rfl fX8_can_96 rfl dX8_can_56 (fun z38 ez38 lz38 uz38 => ?_)
          refine A_iloadn C dX8_can_59 3 rfl rfl ?_
          refine A_iadd C dX8_can_60 ?_
          refine G_iald C W kd_116 rfl rfl (by decide) (fun _ => rfl) (by omega) (by omega) dX8_can_61 (fun z39 ez39 lz39 uz39 => ?_)
          refine A_icmpge C 89 dX8_can_62 (by decide) (by omega) (by omega) (fun c40 => ?_) (fun c40 => ?_)
          · skip
            refine A_iconst C dX8_can_89 ?_
            exact A_zret C (by omega) dX8_can_90 ⟨0, rfl, by omega, by omega, rfl, by subst_vars; simp only [fCan, fTop, fB, fE, lowF, highF]; (repeat' split) <;> first | omega | exact ⟨fun _ => ⟨by omega, by omega, by omega, by first | assumption | (symm; assumption)⟩, fun _ => trivial⟩⟩
          · skip
            refine A_aloadn C dX8_can_65 2 rfl rfl ?_
            refine G_getC C W kd_110 rfl rfl rfl rfl uq_34 fX8_can_23 dX8_can_66 ?_
            refine A_aloadn C dX8_can_69 2 rfl rfl ?_
            refine G_getC C W kd_110 rfl rfl rfl rfl uq_35 fX8_can_27 dX8_can_70 ?_
            refine A_bipush C dX8_can_73 (by decide) ?_
            refine A_iloadn C dX8_can_75 3 rfl rfl ?_
            refine A_imul C dX8_can_76 ?_
            refine A_iload C dX8_can_77 1 rfl ?_
            refine A_iadd C dX8_can_79 ?_
            refine G_iald C W kd_115 rfl rfl (by decide) (fun _ => rfl) (by omega) (by omega) dX8_can_80 (fun z41 ez41 lz41 uz41 => ?_)
            refine G_zald C W kd_114 rfl rfl (by decide) (fun _ => rfl) (by omega) (by omega) dX8_can_81 (fun z42 ez42 lz42 uz42 => ?_)
            refine A_ifne C 89 dX8_can_82 (by decide) (by omega) (fun c43 => ?_) (fun c43 => ?_)
            · skip
              refine A_iconst C dX8_can_89 ?_
              exact A_zret C (by omega) dX8_can_90 ⟨0, rfl, by omega, by omega, rfl, by subst_vars; simp only [fCan, fTop, fB, fE, lowF, highF]; (repeat' split) <;> first | omega | exact ⟨fun _ => ⟨by omega, by omega, by omega, by first | assumption | (symm; assumption)⟩, fun _ => trivial⟩⟩
            · skip
              refine A_iconst C dX8_can_85 ?_
              refine A_goto C 90 dX8_can_86 (by decide) ?_
              exact A_zret C (by omega) dX8_can_90 ⟨1, rfl, by omega, by omega, rfl, by subst_vars; simp only [fCan, fTop, fB, fE, lowF, highF]; (repeat' split) <;> first | omega | exact ⟨fun _ => ⟨by omega, by omega, by omega, by first | assumption | (symm; assumption)⟩, fun _ => trivial⟩⟩

theorem uX8_press_8 : ∀ w ∈ u_ws RX8 TX8 35, w ∈ wsX8_press := by decide +kernel
theorem fX8_press_30 : Fl RX8 wsX8_press 8 7 30 RX8 TX8 35 := ⟨rfl, by decide, uX8_press_8, by decide +kernel⟩
theorem fX8_press_96 : Fl RX8 wsX8_press 8 11 96 RX8 TX8 35 := ⟨rfl, by decide, uX8_press_8, by decide +kernel⟩
theorem fX8_press_13 : Fl RX8 wsX8_press 8 2 13 RX8 TX8 35 := ⟨rfl, by decide, uX8_press_8, by decide +kernel⟩
theorem fX8_press_27 : Fl RX8 wsX8_press 8 6 27 RX8 TX8 35 := ⟨rfl, by decide, uX8_press_8, by decide +kernel⟩
theorem fX8_press_36 : Fl RX8 wsX8_press 8 9 36 RX8 TX8 35 := ⟨rfl, by decide, uX8_press_8, by decide +kernel⟩
set_option maxHeartbeats 4000000 in
theorem lpX8_press_15 {p : Program} {l : Launch} {e : Env} {s : State} {m : MethodId} {args : Array Value} {below : List Frame} {meth : Method} {c : Code} {G : xG} (C : Cx p s m args meth c G cX8_press 5 RX8 wsX8_press (some .int))  {x1 : Int} {x2 : Int} (hx1 : (0 : Int) ≤ x1 ∧ x1 ≤ 11) (hx2 : (0 : Int) ≤ x2 ∧ x2 ≤ 24) {M0 : Mem} (W : WF M0) : ∀ (n : Nat) (v3 v4 : Int), (25 - v4).toNat < n → (0 ≤ v3 ∧ v3 ≤ 999 + 30 * v4 ∧ 0 ≤ v4 ∧ v4 ≤ 24) → (v3 + fWs M0.1 x1 (fTop M0.1 x1 - v4).toNat v4 = fPress M0.1 x1 x2) → AW p l e (rmD 1) s m args below meth c G 5 (QQ G below args s ((fun M r M' => ∃ z : Int, r = some (.int (iI z)) ∧ (0 : Int) ≤ z ∧ z ≤ 1719 ∧ M = M' ∧ z = fPress M.1 x1 x2) M0)) M0 15 [(0, .ref 110), (1, .int (iI x1)), (2, .int (iI x2)), (3, .int (iI v3)), (4, .int (iI v4))] [] := by
  have E : Fr [] M0 M0 := Fr.rf
  intro n
  induction n with
  | zero => intro v3 v4 hn; exact absurd hn (Nat.not_lt_zero _)
  | succ n ih =>
    intro v3 v4 hn hi h2
    refine A_iload C dX8_press_15 4 rfl ?_
    refine A_aloadn C dX8_press_17 0 rfl rfl ?_
    refine G_getC C W kd_110 rfl rfl rfl rfl uq_36 fX8_press_30 dX8_press_18 ?_
    refine A_aloadn C dX8_press_21 0 rfl rfl ?_
    refine G_getI C W kd_110 rfl rfl rfl rfl rfl fX8_press_96 rfl dX8_press_22 (fun z1 ez1 lz1 uz1 => ?_)
    refine A_iloadn C dX8_press_25 1 rfl rfl ?_
    refine A_iadd C dX8_press_26 ?_
    refine G_iald C W kd_116 rfl rfl (by decide) (fun _ => rfl) (by omega) (by omega) dX8_press_27 (fun z2 ez2 lz2 uz2 => ?_)
    refine A_icmpge C 57 dX8_press_28 (by decide) (by omega) (by omega) (fun c3 => ?_) (fun c3 => ?_)
    · skip
      refine A_iloadn C dX8_press_57 3 rfl rfl ?_
      exact A_iret C dX8_press_58 ⟨v3, rfl, by omega, by omega, rfl, by subst_vars; rw [fWs_end (by simp only [fTop, fB]; omega)] at h2; omega⟩
    · skip
      refine A_iloadn C dX8_press_31 3 rfl rfl ?_
      refine A_aloadn C dX8_press_32 0 rfl rfl ?_
      refine G_getC C W kd_110 rfl rfl rfl rfl uq_31 fX8_press_13 dX8_press_33 ?_
      refine A_aloadn C dX8_press_36 0 rfl rfl ?_
      refine G_getC C W kd_110 rfl rfl rfl rfl uq_35 fX8_press_27 dX8_press_37 ?_
      refine A_bipush C dX8_press_40 (by decide) ?_
      refine A_iloadn C dX8_press_42 1 rfl rfl ?_
      refine A_imul C dX8_press_43 ?_
      refine A_iload C dX8_press_44 4 rfl ?_
      refine A_iadd C dX8_press_46 ?_
      refine G_iald C W kd_115 rfl rfl (by decide) (fun _ => rfl) (by omega) (by omega) dX8_press_47 (fun z4 ez4 lz4 uz4 => ?_)
      refine G_iald C W kd_111 rfl rfl (by decide) (fun _ => rfl) (by omega) (by omega) dX8_press_48 (fun z5 ez5 lz5 uz5 => ?_)
      refine A_iadd C dX8_press_49 ?_
      refine A_nami (fun z6 ez6 => ?_)
      refine A_istoren (lv' := [(3, .int (iI z6)), (0, .ref 110), (1, .int (iI x1)), (2, .int (iI x2)), (4, .int (iI v4))]) C dX8_press_50 rfl (by decide) rfl ?_
      refine A_iinc (lv' := [(4, .int (iI (v4 + 1))), (3, .int (iI z6)), (0, .ref 110), (1, .int (iI x1)), (2, .int (iI x2))]) C dX8_press_51 4 rfl (by decide) rfl ?_
      refine A_goto C 15 dX8_press_54 (by decide) ?_
      refine A_pick [2, 3, 4, 1, 0] rfl ?_
      exact ih z6 (v4 + 1) (by omega) (by omega) (by subst_vars; rw [fWs_step (by simp only [fTop, fB]; omega)] at h2; simp only [fE] at h2; omega)
set_option maxHeartbeats 4000000 in
theorem kX8_press  {x1 : Int} {x2 : Int} (hx1 : (0 : Int) ≤ x1 ∧ x1 ≤ 11) (hx2 : (0 : Int) ≤ x2 ∧ x2 ≤ 24) : Ct yX8_press wsX8_press 1 [.ref 110, .int (iI x1), .int (iI x2)] (fun M => WF M) (fun M r M' => ∃ z : Int, r = some (.int (iI z)) ∧ (0 : Int) ≤ z ∧ z ≤ 1719 ∧ M = M' ∧ z = fPress M.1 x1 x2) := by
  refine Ct_of (cc := cX8_press) (nL := 5) (rt := (some .int)) (own := RX8) rfl (by decide) rfl (Nat.le_of_ble_eq_true rfl) ?_
  intro p l e s m args below meth c G M0 C W
  have E : Fr [] M0 M0 := Fr.rf
  refine A_lv (lv' := [(0, .ref 110), (1, .int (iI x1)), (2, .int (iI x2))]) rfl ?_
  refine A_aloadn C dX8_press_0 0 rfl rfl ?_
  refine G_getC C W kd_110 rfl rfl rfl rfl uq_38 fX8_press_36 dX8_press_1 ?_
  refine A_aloadn C dX8_press_4 0 rfl rfl ?_
  refine G_getI C W kd_110 rfl rfl rfl rfl rfl fX8_press_96 rfl dX8_press_5 (fun z7 ez7 lz7 uz7 => ?_)
  refine A_iloadn C dX8_press_8 1 rfl rfl ?_
  refine A_iadd C dX8_press_9 ?_
  refine G_iald C W kd_118 rfl rfl (by decide) (fun _ => rfl) (by omega) (by omega) dX8_press_10 (fun z8 ez8 lz8 uz8 => ?_)
  refine A_istoren (lv' := [(3, .int (iI z8)), (0, .ref 110), (1, .int (iI x1)), (2, .int (iI x2))]) C dX8_press_11 rfl (by decide) rfl ?_
  refine A_iloadn C dX8_press_12 3 rfl rfl ?_
  refine A_istore (lv' := [(4, .int (iI x2)), (3, .int (iI z8)), (0, .ref 110), (1, .int (iI x1)), (2, .int (iI x2))]) C dX8_press_13 (by decide) rfl ?_
  refine A_pick [2, 3, 4, 1, 0] rfl ?_
  exact lpX8_press_15 C  hx1 hx2 W ((25 - x2).toNat + 1) z8 x2 (by omega) (by omega) (by subst_vars; rfl)

theorem uX8_begin_8 : ∀ w ∈ u_ws RX8 TX8 35, w ∈ wsX8_begin := by decide +kernel
theorem fX8_begin_76 : Fl RX8 wsX8_begin 8 19 76 RX8 TX8 35 := ⟨rfl, by decide, uX8_begin_8, by decide +kernel⟩
theorem fX8_begin_51 : Fl RX8 wsX8_begin 8 16 51 RX8 TX8 35 := ⟨rfl, by decide, uX8_begin_8, by decide +kernel⟩
theorem fX8_begin_82 : Fl RX8 wsX8_begin 8 17 82 RX8 TX8 35 := ⟨rfl, by decide, uX8_begin_8, by decide +kernel⟩
theorem fX8_begin_54 : Fl RX8 wsX8_begin 8 18 54 RX8 TX8 35 := ⟨rfl, by decide, uX8_begin_8, by decide +kernel⟩
set_option maxHeartbeats 4000000 in
theorem kX8_begin  {x1 : Int} {x2 : Int} (hx1 : (-2147483648 : Int) ≤ x1 ∧ x1 ≤ 2147483647) (hx2 : (-2147483648 : Int) ≤ x2 ∧ x2 ≤ 2147483647) : Ct yX8_begin wsX8_begin 2 [.ref 110, .int (iI x1), .int (iI x2)] (fun M => WF M ∧ (M.1 110 16 + M.1 110 17 ≤ M.1 110 0 + 1)) (fun M r M' => ∃ z : Int, r = some (.int (iI z)) ∧ (0 : Int) ≤ z ∧ z ≤ 1 ∧ WF M' ∧ Fr [30, 43] M M' ∧ (z = 1 ↔ (0 ≤ x1 ∧ x1 < M.1 110 0 ∧ 0 ≤ x2 ∧ x2 ≤ 24)) ∧ (z = 1 → (M'.1 110 16 = x1 ∧ M'.1 110 17 = 1)) ∧ (z = 0 → (M'.1 110 16 = -1 ∧ M'.1 110 17 = 0)) ∧ (M'.1 110 0 = M.1 110 0 ∧ M'.1 110 12 = M.1 110 12) ∧ (M'.1 110 16 + M'.1 110 17 ≤ M'.1 110 0 + 1)) := by
  refine Ct_of (cc := cX8_begin) (nL := 3) (rt := (some .boolean)) (own := RX8) rfl (by decide) rfl (Nat.le_of_ble_eq_true rfl) ?_
  intro p l e s m args below meth c G M0 C W
  obtain ⟨W, hM⟩ := W
  have E : Fr [30, 43] M0 M0 := Fr.rf
  refine A_lv (lv' := [(0, .ref 110), (1, .int (iI x1)), (2, .int (iI x2))]) rfl ?_
  have fa_110_0 : (0 : Int) ≤ M0.1 110 0 ∧ M0.1 110 0 ≤ 12 := W.i kd_110 0
  refine A_aloadn C dX8_begin_0 0 rfl rfl ?_
  refine A_iconst C dX8_begin_1 ?_
  refine G_putI C W E kd_110 rfl rfl rfl rfl rfl fX8_begin_76 ⟨tyX8_ok, nmX8, rfl, by decide⟩ (Or.inl rfl) rfl rfl (by omega) (by omega) dX8_begin_2 (fun M1 eM1 WM1 EM1 => ?_)
  have t_M1_110_0 : M1.1 110 0 = M0.1 110 0 := by rw [eM1]; exact sI_pl rfl
  have t_M1_110_11 : M1.1 110 11 = M0.1 110 11 := by rw [eM1]; exact sI_pl rfl
  have t_M1_110_12 : M1.1 110 12 = M0.1 110 12 := by rw [eM1]; exact sI_pl rfl
  have t_M1_110_16 : M1.1 110 16 = M0.1 110 16 := by rw [eM1]; exact sI_pl rfl
  have t_M1_110_17 : M1.1 110 17 = M0.1 110 17 := by rw [eM1]; exact sI_pl rfl
  refine A_aloadn C dX8_begin_5 0 rfl rfl ?_
  refine A_iconst C dX8_begin_6 ?_
  refine G_putI C WM1 EM1 kd_110 rfl rfl rfl rfl rfl fX8_begin_51 ⟨tyX8_ok, nmX8, rfl, by decide⟩ (Or.inl rfl) rfl rfl (by omega) (by omega) dX8_begin_7 (fun M2 eM2 WM2 EM2 => ?_)
  have t_M2_110_0 : M2.1 110 0 = M1.1 110 0 := by rw [eM2]; exact sI_pl rfl
  have t_M2_110_11 : M2.1 110 11 = M1.1 110 11 := by rw [eM2]; exact sI_pl rfl
  have t_M2_110_12 : M2.1 110 12 = M1.1 110 12 := by rw [eM2]; exact sI_pl rfl
  have t_M2_110_16 : M2.1 110 16 = (-1) := by rw [eM2]; exact sI_at
  have t_M2_110_17 : M2.1 110 17 = M1.1 110 17 := by rw [eM2]; exact sI_pl rfl
  refine A_aloadn C dX8_begin_10 0 rfl rfl ?_
  refine A_iconst C dX8_begin_11 ?_
  refine G_putI C WM2 EM2 kd_110 rfl rfl rfl rfl rfl fX8_begin_82 ⟨tyX8_ok, nmX8, rfl, by decide⟩ (Or.inl rfl) rfl rfl (by omega) (by omega) dX8_begin_12 (fun M3 eM3 WM3 EM3 => ?_)
  have t_M3_110_0 : M3.1 110 0 = M2.1 110 0 := by rw [eM3]; exact sI_pl rfl
  have t_M3_110_11 : M3.1 110 11 = M2.1 110 11 := by rw [eM3]; exact sI_pl rfl
  have t_M3_110_12 : M3.1 110 12 = M2.1 110 12 := by rw [eM3]; exact sI_pl rfl
  have t_M3_110_16 : M3.1 110 16 = M2.1 110 16 := by rw [eM3]; exact sI_pl rfl
  have t_M3_110_17 : M3.1 110 17 = 0 := by rw [eM3]; exact sI_at
  refine A_aloadn C dX8_begin_15 0 rfl rfl ?_
  refine A_iloadn C dX8_begin_16 1 rfl rfl ?_
  refine A_callV C (n := 1) (st := []) (kX8_isColumn  (by omega)) gX8_begin_X8_isColumn rfl (by decide +kernel) ⟨Nat.le_of_ble_eq_true rfl, Nat.le_of_ble_eq_true rfl⟩ kd_110 rfl rfl rfl rfl (Nat.le_of_ble_eq_true rfl) dX8_begin_17 rfl WM3 (fun r4 M5 h6 => ?_)
  obtain ⟨z8, rfl, lz8, uz8, rfl, xx7⟩ := h6
  refine A_st (st' := [.int (iI z8)]) rfl ?_
  refine A_ifeq C 33 dX8_begin_20 (by decide) (by omega) (fun c9 => ?_) (fun c9 => ?_)
  · skip
    refine A_iconst C dX8_begin_33 ?_
    exact A_zret C (by omega) dX8_begin_34 ⟨0, rfl, by omega, by omega, WM3, EM3, by omega⟩
  · skip
    refine A_iloadn C dX8_begin_23 2 rfl rfl ?_
    refine A_iflt C 33 dX8_begin_24 (by decide) (by omega) (fun c10 => ?_) (fun c10 => ?_)
    · skip
      refine A_iconst C dX8_begin_33 ?_
      exact A_zret C (by omega) dX8_begin_34 ⟨0, rfl, by omega, by omega, WM3, EM3, by omega⟩
    · skip
      refine A_iloadn C dX8_begin_27 2 rfl rfl ?_
      refine A_bipush C dX8_begin_28 (by decide) ?_
      refine A_icmple C 35 dX8_begin_30 (by decide) (by omega) (by omega) (fun c11 => ?_) (fun c11 => ?_)
      · skip
        refine A_aloadn C dX8_begin_35 0 rfl rfl ?_
        refine A_iloadn C dX8_begin_36 1 rfl rfl ?_
        refine G_putI C WM3 EM3 kd_110 rfl rfl rfl rfl rfl fX8_begin_51 ⟨tyX8_ok, nmX8, rfl, by decide⟩ (Or.inl rfl) rfl rfl (by omega) (by omega) dX8_begin_37 (fun M12 eM12 WM12 EM12 => ?_)
        have t_M12_110_0 : M12.1 110 0 = M3.1 110 0 := by rw [eM12]; exact sI_pl rfl
        have t_M12_110_11 : M12.1 110 11 = M3.1 110 11 := by rw [eM12]; exact sI_pl rfl
        have t_M12_110_12 : M12.1 110 12 = M3.1 110 12 := by rw [eM12]; exact sI_pl rfl
        have t_M12_110_16 : M12.1 110 16 = x1 := by rw [eM12]; exact sI_at
        have t_M12_110_17 : M12.1 110 17 = M3.1 110 17 := by rw [eM12]; exact sI_pl rfl
        refine A_aloadn C dX8_begin_40 0 rfl rfl ?_
        refine G_getC C WM12 kd_110 rfl rfl rfl rfl uq_43 fX8_begin_54 dX8_begin_41 ?_
        refine A_iconst C dX8_begin_44 ?_
        refine A_iloadn C dX8_begin_45 2 rfl rfl ?_
        refine G_iast C WM12 EM12 kd_123 rfl rfl (by decide) (fun _ => rfl) rfl (by omega) (by omega) (by omega) (by omega) dX8_begin_46 (fun M13 eM13 WM13 EM13 => ?_)
        have t_M13_110_0 : M13.1 110 0 = M12.1 110 0 := by rw [eM13]; exact sI_kd kd_110 kd_123 rfl
        have t_M13_110_11 : M13.1 110 11 = M12.1 110 11 := by rw [eM13]; exact sI_kd kd_110 kd_123 rfl
        have t_M13_110_12 : M13.1 110 12 = M12.1 110 12 := by rw [eM13]; exact sI_kd kd_110 kd_123 rfl
        have t_M13_110_16 : M13.1 110 16 = M12.1 110 16 := by rw [eM13]; exact sI_kd kd_110 kd_123 rfl
        have t_M13_110_17 : M13.1 110 17 = M12.1 110 17 := by rw [eM13]; exact sI_kd kd_110 kd_123 rfl
        refine A_aloadn C dX8_begin_47 0 rfl rfl ?_
        refine A_iconst C dX8_begin_48 ?_
        refine G_putI C WM13 EM13 kd_110 rfl rfl rfl rfl rfl fX8_begin_82 ⟨tyX8_ok, nmX8, rfl, by decide⟩ (Or.inl rfl) rfl rfl (by omega) (by omega) dX8_begin_49 (fun M14 eM14 WM14 EM14 => ?_)
        have t_M14_110_0 : M14.1 110 0 = M13.1 110 0 := by rw [eM14]; exact sI_pl rfl
        have t_M14_110_11 : M14.1 110 11 = M13.1 110 11 := by rw [eM14]; exact sI_pl rfl
        have t_M14_110_12 : M14.1 110 12 = M13.1 110 12 := by rw [eM14]; exact sI_pl rfl
        have t_M14_110_16 : M14.1 110 16 = M13.1 110 16 := by rw [eM14]; exact sI_pl rfl
        have t_M14_110_17 : M14.1 110 17 = 1 := by rw [eM14]; exact sI_at
        refine A_iconst C dX8_begin_52 ?_
        exact A_zret C (by omega) dX8_begin_53 ⟨1, rfl, by omega, by omega, WM14, EM14, by omega⟩
      · skip
        refine A_iconst C dX8_begin_33 ?_
        exact A_zret C (by omega) dX8_begin_34 ⟨0, rfl, by omega, by omega, WM3, EM3, by omega⟩

theorem uX8_next_8 : ∀ w ∈ u_ws RX8 TX8 35, w ∈ wsX8_next := by decide +kernel
theorem fX8_next_76 : Fl RX8 wsX8_next 8 19 76 RX8 TX8 35 := ⟨rfl, by decide, uX8_next_8, by decide +kernel⟩
theorem fX8_next_51 : Fl RX8 wsX8_next 8 16 51 RX8 TX8 35 := ⟨rfl, by decide, uX8_next_8, by decide +kernel⟩
theorem fX8_next_82 : Fl RX8 wsX8_next 8 17 82 RX8 TX8 35 := ⟨rfl, by decide, uX8_next_8, by decide +kernel⟩
theorem fX8_next_7 : Fl RX8 wsX8_next 8 0 7 RX8 TX8 35 := ⟨rfl, by decide, uX8_next_8, by decide +kernel⟩
theorem fX8_next_54 : Fl RX8 wsX8_next 8 18 54 RX8 TX8 35 := ⟨rfl, by decide, uX8_next_8, by decide +kernel⟩
set_option maxHeartbeats 4000000 in
theorem kX8_next  {x1 : Int} (hx1 : (-2147483648 : Int) ≤ x1 ∧ x1 ≤ 2147483647) : Ct yX8_next wsX8_next 1 [.ref 110, .int (iI x1)] (fun M => WF M ∧ (M.1 110 16 + M.1 110 17 ≤ M.1 110 0 + 1)) (fun M r M' => ∃ z : Int, r = some (.int (iI z)) ∧ (-2147483648 : Int) ≤ z ∧ z ≤ 2147483647 ∧ WF M' ∧ Fr [30, 43] M M' ∧ ((0 ≤ M.1 110 16 ∧ 0 ≤ x1 ∧ x1 ≤ 24 ∧ M.1 110 16 + M.1 110 17 ≤ M.1 110 0) → (z = M.1 110 17 + 1 ∧ M'.1 110 17 = M.1 110 17 + 1)) ∧ (¬ (0 ≤ M.1 110 16 ∧ 0 ≤ x1 ∧ x1 ≤ 24 ∧ M.1 110 16 + M.1 110 17 ≤ M.1 110 0) → (z = -1 ∧ M'.1 110 17 = M.1 110 17)) ∧ (M'.1 110 0 = M.1 110 0 ∧ M'.1 110 12 = M.1 110 12 ∧ M'.1 110 16 = M.1 110 16) ∧ (M'.1 110 16 + M'.1 110 17 ≤ M'.1 110 0 + 1)) := by
  refine Ct_of (cc := cX8_next) (nL := 2) (rt := (some .int)) (own := RX8) rfl (by decide) rfl (Nat.le_of_ble_eq_true rfl) ?_
  intro p l e s m args below meth c G M0 C W
  obtain ⟨W, hM⟩ := W
  have E : Fr [30, 43] M0 M0 := Fr.rf
  refine A_lv (lv' := [(0, .ref 110), (1, .int (iI x1))]) rfl ?_
  have fa_110_0 : (0 : Int) ≤ M0.1 110 0 ∧ M0.1 110 0 ≤ 12 := W.i kd_110 0
  refine A_aloadn C dX8_next_0 0 rfl rfl ?_
  refine A_iconst C dX8_next_1 ?_
  refine G_putI C W E kd_110 rfl rfl rfl rfl rfl fX8_next_76 ⟨tyX8_ok, nmX8, rfl, by decide⟩ (Or.inl rfl) rfl rfl (by omega) (by omega) dX8_next_2 (fun M1 eM1 WM1 EM1 => ?_)
  have t_M1_110_0 : M1.1 110 0 = M0.1 110 0 := by rw [eM1]; exact sI_pl rfl
  have t_M1_110_11 : M1.1 110 11 = M0.1 110 11 := by rw [eM1]; exact sI_pl rfl
  have t_M1_110_12 : M1.1 110 12 = M0.1 110 12 := by rw [eM1]; exact sI_pl rfl
  have t_M1_110_16 : M1.1 110 16 = M0.1 110 16 := by rw [eM1]; exact sI_pl rfl
  have t_M1_110_17 : M1.1 110 17 = M0.1 110 17 := by rw [eM1]; exact sI_pl rfl
  refine A_aloadn C dX8_next_5 0 rfl rfl ?_
  refine G_getI C WM1 kd_110 rfl rfl rfl rfl rfl fX8_next_51 rfl dX8_next_6 (fun z2 ez2 lz2 uz2 => ?_)
  refine A_iflt C 38 dX8_next_9 (by decide) (by omega) (fun c3 => ?_) (fun c3 => ?_)
  · skip
    refine A_iconst C dX8_next_38 ?_
    exact A_iret C dX8_next_39 ⟨(-1), rfl, by omega, by omega, WM1, EM1, by omega⟩
  · skip
    refine A_iloadn C dX8_next_12 1 rfl rfl ?_
    refine A_iflt C 38 dX8_next_13 (by decide) (by omega) (fun c4 => ?_) (fun c4 => ?_)
    · skip
      refine A_iconst C dX8_next_38 ?_
      exact A_iret C dX8_next_39 ⟨(-1), rfl, by omega, by omega, WM1, EM1, by omega⟩
    · skip
      refine A_iloadn C dX8_next_16 1 rfl rfl ?_
      refine A_bipush C dX8_next_17 (by decide) ?_
      refine A_icmpgt C 38 dX8_next_19 (by decide) (by omega) (by omega) (fun c5 => ?_) (fun c5 => ?_)
      · skip
        refine A_iconst C dX8_next_38 ?_
        exact A_iret C dX8_next_39 ⟨(-1), rfl, by omega, by omega, WM1, EM1, by omega⟩
      · skip
        refine A_aloadn C dX8_next_22 0 rfl rfl ?_
        refine G_getI C WM1 kd_110 rfl rfl rfl rfl rfl fX8_next_51 rfl dX8_next_23 (fun z6 ez6 lz6 uz6 => ?_)
        refine A_aloadn C dX8_next_26 0 rfl rfl ?_
        refine G_getI C WM1 kd_110 rfl rfl rfl rfl rfl fX8_next_82 rfl dX8_next_27 (fun z7 ez7 lz7 uz7 => ?_)
        refine A_iadd C dX8_next_30 ?_
        refine A_aloadn C dX8_next_31 0 rfl rfl ?_
        refine G_getI C WM1 kd_110 rfl rfl rfl rfl rfl fX8_next_7 rfl dX8_next_32 (fun z8 ez8 lz8 uz8 => ?_)
        refine A_icmple C 40 dX8_next_35 (by decide) (by omega) (by omega) (fun c9 => ?_) (fun c9 => ?_)
        · skip
          refine A_aloadn C dX8_next_40 0 rfl rfl ?_
          refine G_getC C WM1 kd_110 rfl rfl rfl rfl uq_43 fX8_next_54 dX8_next_41 ?_
          refine A_aloadn C dX8_next_44 0 rfl rfl ?_
          refine G_getI C WM1 kd_110 rfl rfl rfl rfl rfl fX8_next_82 rfl dX8_next_45 (fun z10 ez10 lz10 uz10 => ?_)
          refine A_iloadn C dX8_next_48 1 rfl rfl ?_
          refine G_iast C WM1 EM1 kd_123 rfl rfl (by decide) (fun _ => rfl) rfl (by omega) (by omega) (by omega) (by omega) dX8_next_49 (fun M11 eM11 WM11 EM11 => ?_)
          have t_M11_110_0 : M11.1 110 0 = M1.1 110 0 := by rw [eM11]; exact sI_kd kd_110 kd_123 rfl
          have t_M11_110_11 : M11.1 110 11 = M1.1 110 11 := by rw [eM11]; exact sI_kd kd_110 kd_123 rfl
          have t_M11_110_12 : M11.1 110 12 = M1.1 110 12 := by rw [eM11]; exact sI_kd kd_110 kd_123 rfl
          have t_M11_110_16 : M11.1 110 16 = M1.1 110 16 := by rw [eM11]; exact sI_kd kd_110 kd_123 rfl
          have t_M11_110_17 : M11.1 110 17 = M1.1 110 17 := by rw [eM11]; exact sI_kd kd_110 kd_123 rfl
          refine A_aloadn C dX8_next_50 0 rfl rfl ?_
          refine A_dup C dX8_next_51 rfl ?_
          refine G_getI C WM11 kd_110 rfl rfl rfl rfl rfl fX8_next_82 rfl dX8_next_52 (fun z12 ez12 lz12 uz12 => ?_)
          refine A_iconst C dX8_next_55 ?_
          refine A_iadd C dX8_next_56 ?_
          refine G_putI C WM11 EM11 kd_110 rfl rfl rfl rfl rfl fX8_next_82 ⟨tyX8_ok, nmX8, rfl, by decide⟩ (Or.inl rfl) rfl rfl (by omega) (by omega) dX8_next_57 (fun M13 eM13 WM13 EM13 => ?_)
          have t_M13_110_0 : M13.1 110 0 = M11.1 110 0 := by rw [eM13]; exact sI_pl rfl
          have t_M13_110_11 : M13.1 110 11 = M11.1 110 11 := by rw [eM13]; exact sI_pl rfl
          have t_M13_110_12 : M13.1 110 12 = M11.1 110 12 := by rw [eM13]; exact sI_pl rfl
          have t_M13_110_16 : M13.1 110 16 = M11.1 110 16 := by rw [eM13]; exact sI_pl rfl
          have t_M13_110_17 : M13.1 110 17 = z12 + 1 := by rw [eM13]; exact sI_at
          refine A_aloadn C dX8_next_60 0 rfl rfl ?_
          refine G_getI C WM13 kd_110 rfl rfl rfl rfl rfl fX8_next_82 rfl dX8_next_61 (fun z14 ez14 lz14 uz14 => ?_)
          exact A_iret C dX8_next_64 ⟨z14, rfl, by omega, by omega, WM13, EM13, by omega⟩
        · skip
          refine A_iconst C dX8_next_38 ?_
          exact A_iret C dX8_next_39 ⟨(-1), rfl, by omega, by omega, WM1, EM1, by omega⟩

theorem uX8_isLine_8 : ∀ w ∈ u_ws RX8 TX8 35, w ∈ wsX8_isLine := by decide +kernel
theorem fX8_isLine_82 : Fl RX8 wsX8_isLine 8 17 82 RX8 TX8 35 := ⟨rfl, by decide, uX8_isLine_8, by decide +kernel⟩
theorem fX8_isLine_51 : Fl RX8 wsX8_isLine 8 16 51 RX8 TX8 35 := ⟨rfl, by decide, uX8_isLine_8, by decide +kernel⟩
theorem fX8_isLine_54 : Fl RX8 wsX8_isLine 8 18 54 RX8 TX8 35 := ⟨rfl, by decide, uX8_isLine_8, by decide +kernel⟩
theorem fX8_isLine_30 : Fl RX8 wsX8_isLine 8 7 30 RX8 TX8 35 := ⟨rfl, by decide, uX8_isLine_8, by decide +kernel⟩
set_option maxHeartbeats 4000000 in
theorem lpX8_isLine_67 {p : Program} {l : Launch} {e : Env} {s : State} {m : MethodId} {args : Array Value} {below : List Frame} {meth : Method} {c : Code} {G : xG} (C : Cx p s m args meth c G cX8_isLine 2 RX8 wsX8_isLine (some .boolean))   {M0 : Mem} : ∀ (n : Nat) (v1 : Int) (M : Mem), (14 - v1).toNat < n → (0 ≤ v1 ∧ v1 ≤ 13 ∧ 0 ≤ M.1 110 16 ∧ 2 ≤ M.1 110 17 ∧ M.1 110 16 + M.1 110 17 ≤ 13 ∧ M.1 110 16 = M0.1 110 16 ∧ M.1 110 17 = M0.1 110 17) → WF M → Fr [] M0 M → AW p l e (rmD 2) s m args below meth c G 2 (QQ G below args s ((fun M r M' => ∃ z : Int, r = some (.int (iI z)) ∧ (0 : Int) ≤ z ∧ z ≤ 1 ∧ WF M' ∧ Fr [] M M' ∧ (z = 1 → (0 ≤ M.1 110 16 ∧ 2 ≤ M.1 110 17))) M0)) M 67 [(0, .ref 110), (1, .int (iI v1))] [] := by
  intro n
  induction n with
  | zero => intro v1 M hn; exact absurd hn (Nat.not_lt_zero _)
  | succ n ih =>
    intro v1 M hn hi W E
    have fa_110_0 : (0 : Int) ≤ M.1 110 0 ∧ M.1 110 0 ≤ 12 := W.i kd_110 0
    refine A_iloadn C dX8_isLine_67 1 rfl rfl ?_
    refine A_aloadn C dX8_isLine_68 0 rfl rfl ?_
    refine G_getI C W kd_110 rfl rfl rfl rfl rfl fX8_isLine_82 rfl dX8_isLine_69 (fun z1 ez1 lz1 uz1 => ?_)
    refine A_iconst C dX8_isLine_72 ?_
    refine A_isub C dX8_isLine_73 ?_
    refine A_icmpge C 112 dX8_isLine_74 (by decide) (by omega) (by omega) (fun c2 => ?_) (fun c2 => ?_)
    · skip
      refine A_iconst C dX8_isLine_112 ?_
      exact A_zret C (by omega) dX8_isLine_113 ⟨1, rfl, by omega, by omega, W, E, by omega⟩
    · skip
      refine A_aloadn C dX8_isLine_77 0 rfl rfl ?_
      refine A_aloadn C dX8_isLine_78 0 rfl rfl ?_
      refine G_getI C W kd_110 rfl rfl rfl rfl rfl fX8_isLine_51 rfl dX8_isLine_79 (fun z3 ez3 lz3 uz3 => ?_)
      refine A_iloadn C dX8_isLine_82 1 rfl rfl ?_
      refine A_iadd C dX8_isLine_83 ?_
      refine A_aloadn C dX8_isLine_84 0 rfl rfl ?_
      refine G_getC C W kd_110 rfl rfl rfl rfl uq_43 fX8_isLine_54 dX8_isLine_85 ?_
      refine A_iloadn C dX8_isLine_88 1 rfl rfl ?_
      refine G_iald C W kd_123 rfl rfl (by decide) (fun _ => rfl) (by omega) (by omega) dX8_isLine_89 (fun z4 ez4 lz4 uz4 => ?_)
      refine A_aloadn C dX8_isLine_90 0 rfl rfl ?_
      refine G_getC C W kd_110 rfl rfl rfl rfl uq_43 fX8_isLine_54 dX8_isLine_91 ?_
      refine A_iloadn C dX8_isLine_94 1 rfl rfl ?_
      refine A_iconst C dX8_isLine_95 ?_
      refine A_iadd C dX8_isLine_96 ?_
      refine G_iald C W kd_123 rfl rfl (by decide) (fun _ => rfl) (by omega) (by omega) dX8_isLine_97 (fun z5 ez5 lz5 uz5 => ?_)
      refine A_callV C (n := 3) (st := []) (kX8_can  (by omega) (by omega) (by omega)) gX8_isLine_X8_can rfl (by decide +kernel) ⟨Nat.le_of_ble_eq_true rfl, Nat.le_of_ble_eq_true rfl⟩ kd_110 rfl rfl rfl rfl (Nat.le_of_ble_eq_true rfl) dX8_isLine_98 rfl W (fun r6 M7 h8 => ?_)
      obtain ⟨z10, rfl, lz10, uz10, rfl, xx9⟩ := h8
      refine A_st (st' := [.int (iI z10)]) rfl ?_
      refine A_ifne C 106 dX8_isLine_101 (by decide) (by omega) (fun c11 => ?_) (fun c11 => ?_)
      · skip
        refine A_iinc (lv' := [(1, .int (iI (v1 + 1))), (0, .ref 110)]) C dX8_isLine_106 1 rfl (by decide) rfl ?_
        refine A_goto C 67 dX8_isLine_109 (by decide) ?_
        refine A_pick [1, 0] rfl ?_
        exact ih (v1 + 1) M (by omega) (by omega) W E
      · skip
        refine A_iconst C dX8_isLine_104 ?_
        exact A_zret C (by omega) dX8_isLine_105 ⟨0, rfl, by omega, by omega, W, E, by omega⟩
set_option maxHeartbeats 4000000 in
theorem kX8_isLine   : Ct yX8_isLine wsX8_isLine 2 [.ref 110] (fun M => WF M ∧ (M.1 110 16 + M.1 110 17 ≤ M.1 110 0 + 1)) (fun M r M' => ∃ z : Int, r = some (.int (iI z)) ∧ (0 : Int) ≤ z ∧ z ≤ 1 ∧ WF M' ∧ Fr [] M M' ∧ (z = 1 → (0 ≤ M.1 110 16 ∧ 2 ≤ M.1 110 17))) := by
  refine Ct_of (cc := cX8_isLine) (nL := 2) (rt := (some .boolean)) (own := RX8) rfl (by decide) rfl (Nat.le_of_ble_eq_true rfl) ?_
  intro p l e s m args below meth c G M0 C W
  obtain ⟨W, hM⟩ := W
  have E : Fr [] M0 M0 := Fr.rf
  refine A_lv (lv' := [(0, .ref 110)]) rfl ?_
  have fa_110_0 : (0 : Int) ≤ M0.1 110 0 ∧ M0.1 110 0 ≤ 12 := W.i kd_110 0
  refine A_aloadn C dX8_isLine_0 0 rfl rfl ?_
  refine G_getI C W kd_110 rfl rfl rfl rfl rfl fX8_isLine_51 rfl dX8_isLine_1 (fun z12 ez12 lz12 uz12 => ?_)
  refine A_iflt C 63 dX8_isLine_4 (by decide) (by omega) (fun c13 => ?_) (fun c13 => ?_)
  · skip
    refine A_iconst C dX8_isLine_63 ?_
    exact A_zret C (by omega) dX8_isLine_64 ⟨0, rfl, by omega, by omega, W, E, by omega⟩
  · skip
    refine A_aloadn C dX8_isLine_7 0 rfl rfl ?_
    refine G_getI C W kd_110 rfl rfl rfl rfl rfl fX8_isLine_82 rfl dX8_isLine_8 (fun z14 ez14 lz14 uz14 => ?_)
    refine A_iconst C dX8_isLine_11 ?_
    refine A_icmplt C 63 dX8_isLine_12 (by decide) (by omega) (by omega) (fun c15 => ?_) (fun c15 => ?_)
    · skip
      refine A_iconst C dX8_isLine_63 ?_
      exact A_zret C (by omega) dX8_isLine_64 ⟨0, rfl, by omega, by omega, W, E, by omega⟩
    · skip
      refine A_aloadn C dX8_isLine_15 0 rfl rfl ?_
      refine G_getC C W kd_110 rfl rfl rfl rfl uq_43 fX8_isLine_54 dX8_isLine_16 ?_
      refine A_iconst C dX8_isLine_19 ?_
      refine G_iald C W kd_123 rfl rfl (by decide) (fun _ => rfl) (by omega) (by omega) dX8_isLine_20 (fun z16 ez16 lz16 uz16 => ?_)
      refine A_aloadn C dX8_isLine_21 0 rfl rfl ?_
      refine G_getC C W kd_110 rfl rfl rfl rfl uq_36 fX8_isLine_30 dX8_isLine_22 ?_
      refine A_aloadn C dX8_isLine_25 0 rfl rfl ?_
      refine G_getI C W kd_110 rfl rfl rfl rfl rfl fX8_isLine_51 rfl dX8_isLine_26 (fun z17 ez17 lz17 uz17 => ?_)
      refine G_iald C W kd_116 rfl rfl (by decide) (fun _ => rfl) (by omega) (by omega) dX8_isLine_29 (fun z18 ez18 lz18 uz18 => ?_)
      refine A_icmpne C 63 dX8_isLine_30 (by decide) (by omega) (by omega) (fun c19 => ?_) (fun c19 => ?_)
      · skip
        refine A_iconst C dX8_isLine_63 ?_
        exact A_zret C (by omega) dX8_isLine_64 ⟨0, rfl, by omega, by omega, W, E, by omega⟩
      · skip
        refine A_aloadn C dX8_isLine_33 0 rfl rfl ?_
        refine G_getC C W kd_110 rfl rfl rfl rfl uq_43 fX8_isLine_54 dX8_isLine_34 ?_
        refine A_aloadn C dX8_isLine_37 0 rfl rfl ?_
        refine G_getI C W kd_110 rfl rfl rfl rfl rfl fX8_isLine_82 rfl dX8_isLine_38 (fun z20 ez20 lz20 uz20 => ?_)
        refine A_iconst C dX8_isLine_41 ?_
        refine A_isub C dX8_isLine_42 ?_
        refine G_iald C W kd_123 rfl rfl (by decide) (fun _ => rfl) (by omega) (by omega) dX8_isLine_43 (fun z21 ez21 lz21 uz21 => ?_)
        refine A_aloadn C dX8_isLine_44 0 rfl rfl ?_
        refine G_getC C W kd_110 rfl rfl rfl rfl uq_36 fX8_isLine_30 dX8_isLine_45 ?_
        refine A_aloadn C dX8_isLine_48 0 rfl rfl ?_
        refine G_getI C W kd_110 rfl rfl rfl rfl rfl fX8_isLine_51 rfl dX8_isLine_49 (fun z22 ez22 lz22 uz22 => ?_)
        refine A_aloadn C dX8_isLine_52 0 rfl rfl ?_
        refine G_getI C W kd_110 rfl rfl rfl rfl rfl fX8_isLine_82 rfl dX8_isLine_53 (fun z23 ez23 lz23 uz23 => ?_)
        refine A_iadd C dX8_isLine_56 ?_
        refine A_iconst C dX8_isLine_57 ?_
        refine A_isub C dX8_isLine_58 ?_
        refine G_iald C W kd_116 rfl rfl (by decide) (fun _ => rfl) (by omega) (by omega) dX8_isLine_59 (fun z24 ez24 lz24 uz24 => ?_)
        refine A_icmpeq C 65 dX8_isLine_60 (by decide) (by omega) (by omega) (fun c25 => ?_) (fun c25 => ?_)
        · skip
          refine A_iconst C dX8_isLine_65 ?_
          refine A_istoren (lv' := [(1, .int (iI 0)), (0, .ref 110)]) C dX8_isLine_66 rfl (by decide) rfl ?_
          refine A_pick [1, 0] rfl ?_
          exact lpX8_isLine_67 C   ((14 - (0 : Int)).toNat + 1) 0 M0 (by omega) (by omega) W E
        · skip
          refine A_iconst C dX8_isLine_63 ?_
          exact A_zret C (by omega) dX8_isLine_64 ⟨0, rfl, by omega, by omega, W, E, by omega⟩

theorem uX8_line_8 : ∀ w ∈ u_ws RX8 TX8 35, w ∈ wsX8_line := by decide +kernel
theorem fX8_line_76 : Fl RX8 wsX8_line 8 19 76 RX8 TX8 35 := ⟨rfl, by decide, uX8_line_8, by decide +kernel⟩
set_option maxHeartbeats 4000000 in
theorem kX8_line   : Ct yX8_line wsX8_line 3 [.ref 110] (fun M => WF M ∧ (M.1 110 16 + M.1 110 17 ≤ M.1 110 0 + 1)) (fun M r M' => ∃ z : Int, r = some (.int (iI z)) ∧ (-2147483648 : Int) ≤ z ∧ z ≤ 2147483647 ∧ WF M' ∧ Fr [30] M M' ∧ (M'.1 110 0 = M.1 110 0 ∧ M'.1 110 12 = M.1 110 12 ∧ M'.1 110 16 = M.1 110 16 ∧ M'.1 110 17 = M.1 110 17) ∧ (M'.1 110 16 + M'.1 110 17 ≤ M'.1 110 0 + 1)) := by
  refine Ct_of (cc := cX8_line) (nL := 1) (rt := (some .int)) (own := RX8) rfl (by decide) rfl (Nat.le_of_ble_eq_true rfl) ?_
  intro p l e s m args below meth c G M0 C W
  obtain ⟨W, hM⟩ := W
  have E : Fr [30] M0 M0 := Fr.rf
  refine A_lv (lv' := [(0, .ref 110)]) rfl ?_
  have fa_110_0 : (0 : Int) ≤ M0.1 110 0 ∧ M0.1 110 0 ≤ 12 := W.i kd_110 0
  refine A_aloadn C dX8_line_0 0 rfl rfl ?_
  refine A_iconst C dX8_line_1 ?_
  refine G_putI C W E kd_110 rfl rfl rfl rfl rfl fX8_line_76 ⟨tyX8_ok, nmX8, rfl, by decide⟩ (Or.inl rfl) rfl rfl (by omega) (by omega) dX8_line_2 (fun M1 eM1 WM1 EM1 => ?_)
  have t_M1_110_0 : M1.1 110 0 = M0.1 110 0 := by rw [eM1]; exact sI_pl rfl
  have t_M1_110_11 : M1.1 110 11 = M0.1 110 11 := by rw [eM1]; exact sI_pl rfl
  have t_M1_110_12 : M1.1 110 12 = M0.1 110 12 := by rw [eM1]; exact sI_pl rfl
  have t_M1_110_16 : M1.1 110 16 = M0.1 110 16 := by rw [eM1]; exact sI_pl rfl
  have t_M1_110_17 : M1.1 110 17 = M0.1 110 17 := by rw [eM1]; exact sI_pl rfl
  refine A_aloadn C dX8_line_5 0 rfl rfl ?_
  refine A_callV C (n := 0) (st := []) (kX8_isLine ) gX8_line_X8_isLine rfl (by decide +kernel) ⟨Nat.le_of_ble_eq_true rfl, Nat.le_of_ble_eq_true rfl⟩ kd_110 rfl rfl rfl rfl (Nat.le_of_ble_eq_true rfl) dX8_line_6 rfl ⟨WM1, by omega⟩ (fun r2 M3 h4 => ?_)
  obtain ⟨z6, rfl, lz6, uz6, WM3, FM3, xx5⟩ := h4
  have EM3 := Fr.tr EM1 (FM3.mono (c2 := [30]) rfl)
  have t_M3_110_0 : M3.1 110 0 = _ := congrFun (FM3 110 (by rw [kd_110]; rfl)).1 0
  have t_M3_110_11 : M3.1 110 11 = _ := congrFun (FM3 110 (by rw [kd_110]; rfl)).1 11
  have t_M3_110_12 : M3.1 110 12 = _ := congrFun (FM3 110 (by rw [kd_110]; rfl)).1 12
  have t_M3_110_16 : M3.1 110 16 = _ := congrFun (FM3 110 (by rw [kd_110]; rfl)).1 16
  have t_M3_110_17 : M3.1 110 17 = _ := congrFun (FM3 110 (by rw [kd_110]; rfl)).1 17
  refine A_st (st' := [.int (iI z6)]) rfl ?_
  refine A_ifeq C 16 dX8_line_9 (by decide) (by omega) (fun c7 => ?_) (fun c7 => ?_)
  · skip
    refine A_iconst C dX8_line_16 ?_
    exact A_iret C dX8_line_17 ⟨0, rfl, by omega, by omega, WM3, EM3, by omega⟩
  · skip
    refine A_iconst C dX8_line_12 ?_
    refine A_goto C 17 dX8_line_13 (by decide) ?_
    exact A_iret C dX8_line_17 ⟨1, rfl, by omega, by omega, WM3, EM3, by omega⟩

set_option maxHeartbeats 4000000 in
theorem kX8_better  {x0 : Int} {x1 : Int} {x2 : Int} {x3 : Int} (hx0 : r64 x0) (hx1 : r64 x1) (hx2 : r64 x2) (hx3 : r64 x3) : Ct yX8_better wsX8_better 1 [.long (lL x0), .long (lL x1), .long (lL x2), .long (lL x3)] (fun M => WF M) (fun M r M' => ∃ z : Int, r = some (.int (iI z)) ∧ (0 : Int) ≤ z ∧ z ≤ 1 ∧ M = M' ∧ (z = 1 ↔ (x0 < x2 ∨ (x0 = x2 ∧ x3 < x1)))) := by
  refine Ct_of (cc := cX8_better) (nL := 8) (rt := (some .boolean)) (own := RX8) rfl (by decide) rfl (Nat.le_of_ble_eq_true rfl) ?_
  intro p l e s m args below meth c G M0 C W
  have E : Fr [] M0 M0 := Fr.rf
  refine A_lv (lv' := [(0, .long (lL x0)), (2, .long (lL x1)), (4, .long (lL x2)), (6, .long (lL x3))]) rfl ?_
  refine A_lloadn C dX8_better_0 0 rfl rfl ?_
  refine A_lload C dX8_better_1 2 rfl ?_
  refine A_lcmp C (by omega) (by omega) dX8_better_3 (fun z1 cz1 => ?_)
  refine A_iflt C 21 dX8_better_4 (by decide) (by omega) (fun c2 => ?_) (fun c2 => ?_)
  · skip
    refine A_iconst C dX8_better_21 ?_
    refine A_goto C 26 dX8_better_22 (by decide) ?_
    exact A_zret C (by omega) dX8_better_26 ⟨1, rfl, by omega, by omega, rfl, by omega⟩
  · skip
    refine A_lloadn C dX8_better_7 0 rfl rfl ?_
    refine A_lload C dX8_better_8 2 rfl ?_
    refine A_lcmp C (by omega) (by omega) dX8_better_10 (fun z3 cz3 => ?_)
    refine A_ifne C 25 dX8_better_11 (by decide) (by omega) (fun c4 => ?_) (fun c4 => ?_)
    · skip
      refine A_iconst C dX8_better_25 ?_
      exact A_zret C (by omega) dX8_better_26 ⟨0, rfl, by omega, by omega, rfl, by omega⟩
    · skip
      refine A_lloadn C dX8_better_14 1 rfl rfl ?_
      refine A_lload C dX8_better_15 3 rfl ?_
      refine A_lcmp C (by omega) (by omega) dX8_better_17 (fun z5 cz5 => ?_)
      refine A_ifle C 25 dX8_better_18 (by decide) (by omega) (fun c6 => ?_) (fun c6 => ?_)
      · skip
        refine A_iconst C dX8_better_25 ?_
        exact A_zret C (by omega) dX8_better_26 ⟨0, rfl, by omega, by omega, rfl, by omega⟩
      · skip
        refine A_iconst C dX8_better_21 ?_
        refine A_goto C 26 dX8_better_22 (by decide) ?_
        exact A_zret C (by omega) dX8_better_26 ⟨1, rfl, by omega, by omega, rfl, by omega⟩

theorem uX8_tries_8 : ∀ w ∈ u_ws RX8 TX8 35, w ∈ wsX8_tries := by decide +kernel
theorem fX8_tries_96 : Fl RX8 wsX8_tries 8 11 96 RX8 TX8 35 := ⟨rfl, by decide, uX8_tries_8, by decide +kernel⟩
theorem fX8_tries_30 : Fl RX8 wsX8_tries 8 7 30 RX8 TX8 35 := ⟨rfl, by decide, uX8_tries_8, by decide +kernel⟩
theorem fX8_tries_33 : Fl RX8 wsX8_tries 8 8 33 RX8 TX8 35 := ⟨rfl, by decide, uX8_tries_8, by decide +kernel⟩
theorem fX8_tries_36 : Fl RX8 wsX8_tries 8 9 36 RX8 TX8 35 := ⟨rfl, by decide, uX8_tries_8, by decide +kernel⟩
theorem fX8_tries_39 : Fl RX8 wsX8_tries 8 10 39 RX8 TX8 35 := ⟨rfl, by decide, uX8_tries_8, by decide +kernel⟩
set_option maxHeartbeats 4000000 in
theorem lpX8_tries_2 {p : Program} {l : Launch} {e : Env} {s : State} {m : MethodId} {args : Array Value} {below : List Frame} {meth : Method} {c : Code} {G : xG} (C : Cx p s m args meth c G cX8_tries 2 RX8 wsX8_tries none)   {M0 : Mem} : ∀ (n : Nat) (v1 : Int) (M : Mem), (13 - v1).toNat < n → (0 ≤ v1 ∧ v1 ≤ 12 ∧ M.1 110 0 = M0.1 110 0 ∧ M.1 110 12 = M0.1 110 12 ∧ M.1 110 16 = M0.1 110 16 ∧ M.1 110 17 = M0.1 110 17) → WF M → Fr [30, 36, 37, 38, 39] M0 M → AW p l e (rmD 1) s m args below meth c G 2 (QQ G below args s ((fun M r M' => r = none ∧ WF M' ∧ Fr [30, 36, 37, 38, 39] M M' ∧ (M'.1 110 0 = M.1 110 0 ∧ M'.1 110 12 = M.1 110 12 ∧ M'.1 110 16 = M.1 110 16 ∧ M'.1 110 17 = M.1 110 17)) M0)) M 2 [(0, .ref 110), (1, .int (iI v1))] [] := by
  intro n
  induction n with
  | zero => intro v1 M hn; exact absurd hn (Nat.not_lt_zero _)
  | succ n ih =>
    intro v1 M hn hi W E
    refine A_iloadn C dX8_tries_2 1 rfl rfl ?_
    refine A_bipush C dX8_tries_3 (by decide) ?_
    refine A_icmpge C 74 dX8_tries_5 (by decide) (by omega) (by omega) (fun c1 => ?_) (fun c1 => ?_)
    · skip
      refine A_aloadn C dX8_tries_74 0 rfl rfl ?_
      refine A_bipush C dX8_tries_75 (by decide) ?_
      refine G_putI C W E kd_110 rfl rfl rfl rfl rfl fX8_tries_96 ⟨tyX8_ok, nmX8, rfl, by decide⟩ (Or.inl rfl) rfl rfl (by omega) (by omega) dX8_tries_77 (fun M2 eM2 WM2 EM2 => ?_)
      have t_M2_110_0 : M2.1 110 0 = M.1 110 0 := by rw [eM2]; exact sI_pl rfl
      have t_M2_110_11 : M2.1 110 11 = 12 := by rw [eM2]; exact sI_at
      have t_M2_110_12 : M2.1 110 12 = M.1 110 12 := by rw [eM2]; exact sI_pl rfl
      have t_M2_110_16 : M2.1 110 16 = M.1 110 16 := by rw [eM2]; exact sI_pl rfl
      have t_M2_110_17 : M2.1 110 17 = M.1 110 17 := by rw [eM2]; exact sI_pl rfl
      exact A_vret C dX8_tries_80 ⟨rfl, WM2, EM2, by omega⟩
    · skip
      refine A_aloadn C dX8_tries_8 0 rfl rfl ?_
      refine G_getC C W kd_110 rfl rfl rfl rfl uq_36 fX8_tries_30 dX8_tries_9 ?_
      refine A_bipush C dX8_tries_12 (by decide) ?_
      refine A_iloadn C dX8_tries_14 1 rfl rfl ?_
      refine A_iadd C dX8_tries_15 ?_
      refine A_aloadn C dX8_tries_16 0 rfl rfl ?_
      refine G_getC C W kd_110 rfl rfl rfl rfl uq_36 fX8_tries_30 dX8_tries_17 ?_
      refine A_iloadn C dX8_tries_20 1 rfl rfl ?_
      refine G_iald C W kd_116 rfl rfl (by decide) (fun _ => rfl) (by omega) (by omega) dX8_tries_21 (fun z3 ez3 lz3 uz3 => ?_)
      refine G_iast C W E kd_116 rfl rfl (by decide) (fun _ => rfl) rfl (by omega) (by omega) (by omega) (by omega) dX8_tries_22 (fun M4 eM4 WM4 EM4 => ?_)
      have t_M4_110_0 : M4.1 110 0 = M.1 110 0 := by rw [eM4]; exact sI_kd kd_110 kd_116 rfl
      have t_M4_110_11 : M4.1 110 11 = M.1 110 11 := by rw [eM4]; exact sI_kd kd_110 kd_116 rfl
      have t_M4_110_12 : M4.1 110 12 = M.1 110 12 := by rw [eM4]; exact sI_kd kd_110 kd_116 rfl
      have t_M4_110_16 : M4.1 110 16 = M.1 110 16 := by rw [eM4]; exact sI_kd kd_110 kd_116 rfl
      have t_M4_110_17 : M4.1 110 17 = M.1 110 17 := by rw [eM4]; exact sI_kd kd_110 kd_116 rfl
      refine A_aloadn C dX8_tries_23 0 rfl rfl ?_
      refine G_getC C WM4 kd_110 rfl rfl rfl rfl uq_37 fX8_tries_33 dX8_tries_24 ?_
      refine A_bipush C dX8_tries_27 (by decide) ?_
      refine A_iloadn C dX8_tries_29 1 rfl rfl ?_
      refine A_iadd C dX8_tries_30 ?_
      refine A_aloadn C dX8_tries_31 0 rfl rfl ?_
      refine G_getC C WM4 kd_110 rfl rfl rfl rfl uq_37 fX8_tries_33 dX8_tries_32 ?_
      refine A_iloadn C dX8_tries_35 1 rfl rfl ?_
      refine G_iald C WM4 kd_117 rfl rfl (by decide) (fun _ => rfl) (by omega) (by omega) dX8_tries_36 (fun z5 ez5 lz5 uz5 => ?_)
      refine G_iast C WM4 EM4 kd_117 rfl rfl (by decide) (fun _ => rfl) rfl (by omega) (by omega) (by omega) (by omega) dX8_tries_37 (fun M6 eM6 WM6 EM6 => ?_)
      have t_M6_110_0 : M6.1 110 0 = M4.1 110 0 := by rw [eM6]; exact sI_kd kd_110 kd_117 rfl
      have t_M6_110_11 : M6.1 110 11 = M4.1 110 11 := by rw [eM6]; exact sI_kd kd_110 kd_117 rfl
      have t_M6_110_12 : M6.1 110 12 = M4.1 110 12 := by rw [eM6]; exact sI_kd kd_110 kd_117 rfl
      have t_M6_110_16 : M6.1 110 16 = M4.1 110 16 := by rw [eM6]; exact sI_kd kd_110 kd_117 rfl
      have t_M6_110_17 : M6.1 110 17 = M4.1 110 17 := by rw [eM6]; exact sI_kd kd_110 kd_117 rfl
      refine A_aloadn C dX8_tries_38 0 rfl rfl ?_
      refine G_getC C WM6 kd_110 rfl rfl rfl rfl uq_38 fX8_tries_36 dX8_tries_39 ?_
      refine A_bipush C dX8_tries_42 (by decide) ?_
      refine A_iloadn C dX8_tries_44 1 rfl rfl ?_
      refine A_iadd C dX8_tries_45 ?_
      refine A_aloadn C dX8_tries_46 0 rfl rfl ?_
      refine G_getC C WM6 kd_110 rfl rfl rfl rfl uq_38 fX8_tries_36 dX8_tries_47 ?_
      refine A_iloadn C dX8_tries_50 1 rfl rfl ?_
      refine G_iald C WM6 kd_118 rfl rfl (by decide) (fun _ => rfl) (by omega) (by omega) dX8_tries_51 (fun z7 ez7 lz7 uz7 => ?_)
      refine G_iast C WM6 EM6 kd_118 rfl rfl (by decide) (fun _ => rfl) rfl (by omega) (by omega) (by omega) (by omega) dX8_tries_52 (fun M8 eM8 WM8 EM8 => ?_)
      have t_M8_110_0 : M8.1 110 0 = M6.1 110 0 := by rw [eM8]; exact sI_kd kd_110 kd_118 rfl
      have t_M8_110_11 : M8.1 110 11 = M6.1 110 11 := by rw [eM8]; exact sI_kd kd_110 kd_118 rfl
      have t_M8_110_12 : M8.1 110 12 = M6.1 110 12 := by rw [eM8]; exact sI_kd kd_110 kd_118 rfl
      have t_M8_110_16 : M8.1 110 16 = M6.1 110 16 := by rw [eM8]; exact sI_kd kd_110 kd_118 rfl
      have t_M8_110_17 : M8.1 110 17 = M6.1 110 17 := by rw [eM8]; exact sI_kd kd_110 kd_118 rfl
      refine A_aloadn C dX8_tries_53 0 rfl rfl ?_
      refine G_getC C WM8 kd_110 rfl rfl rfl rfl uq_39 fX8_tries_39 dX8_tries_54 ?_
      refine A_bipush C dX8_tries_57 (by decide) ?_
      refine A_iloadn C dX8_tries_59 1 rfl rfl ?_
      refine A_iadd C dX8_tries_60 ?_
      refine A_aloadn C dX8_tries_61 0 rfl rfl ?_
      refine G_getC C WM8 kd_110 rfl rfl rfl rfl uq_39 fX8_tries_39 dX8_tries_62 ?_
      refine A_iloadn C dX8_tries_65 1 rfl rfl ?_
      refine G_iald C WM8 kd_119 rfl rfl (by decide) (fun _ => rfl) (by omega) (by omega) dX8_tries_66 (fun z9 ez9 lz9 uz9 => ?_)
      refine G_iast C WM8 EM8 kd_119 rfl rfl (by decide) (fun _ => rfl) rfl (by omega) (by omega) (by omega) (by omega) dX8_tries_67 (fun M10 eM10 WM10 EM10 => ?_)
      have t_M10_110_0 : M10.1 110 0 = M8.1 110 0 := by rw [eM10]; exact sI_kd kd_110 kd_119 rfl
      have t_M10_110_11 : M10.1 110 11 = M8.1 110 11 := by rw [eM10]; exact sI_kd kd_110 kd_119 rfl
      have t_M10_110_12 : M10.1 110 12 = M8.1 110 12 := by rw [eM10]; exact sI_kd kd_110 kd_119 rfl
      have t_M10_110_16 : M10.1 110 16 = M8.1 110 16 := by rw [eM10]; exact sI_kd kd_110 kd_119 rfl
      have t_M10_110_17 : M10.1 110 17 = M8.1 110 17 := by rw [eM10]; exact sI_kd kd_110 kd_119 rfl
      refine A_iinc (lv' := [(1, .int (iI (v1 + 1))), (0, .ref 110)]) C dX8_tries_68 1 rfl (by decide) rfl ?_
      refine A_goto C 2 dX8_tries_71 (by decide) ?_
      refine A_pick [1, 0] rfl ?_
      exact ih (v1 + 1) M10 (by omega) (by omega) WM10 EM10
set_option maxHeartbeats 4000000 in
theorem kX8_tries   : Ct yX8_tries wsX8_tries 1 [.ref 110] (fun M => WF M) (fun M r M' => r = none ∧ WF M' ∧ Fr [30, 36, 37, 38, 39] M M' ∧ (M'.1 110 0 = M.1 110 0 ∧ M'.1 110 12 = M.1 110 12 ∧ M'.1 110 16 = M.1 110 16 ∧ M'.1 110 17 = M.1 110 17)) := by
  refine Ct_of (cc := cX8_tries) (nL := 2) (rt := none) (own := RX8) rfl (by decide) rfl (Nat.le_of_ble_eq_true rfl) ?_
  intro p l e s m args below meth c G M0 C W
  have E : Fr [30, 36, 37, 38, 39] M0 M0 := Fr.rf
  refine A_lv (lv' := [(0, .ref 110)]) rfl ?_
  refine A_iconst C dX8_tries_0 ?_
  refine A_istoren (lv' := [(1, .int (iI 0)), (0, .ref 110)]) C dX8_tries_1 rfl (by decide) rfl ?_
  refine A_pick [1, 0] rfl ?_
  exact lpX8_tries_2 C   ((13 - (0 : Int)).toNat + 1) 0 M0 (by omega) (by omega) W E

theorem uX8_act_8 : ∀ w ∈ u_ws RX8 TX8 35, w ∈ wsX8_act := by decide +kernel
theorem fX8_act_76 : Fl RX8 wsX8_act 8 19 76 RX8 TX8 35 := ⟨rfl, by decide, uX8_act_8, by decide +kernel⟩
theorem fX8_act_79 : Fl RX8 wsX8_act 8 12 79 RX8 TX8 35 := ⟨rfl, by decide, uX8_act_8, by decide +kernel⟩
theorem fX8_act_42 : Fl RX8 wsX8_act 8 13 42 RX8 TX8 35 := ⟨rfl, by decide, uX8_act_8, by decide +kernel⟩
theorem fX8_act_45 : Fl RX8 wsX8_act 8 14 45 RX8 TX8 35 := ⟨rfl, by decide, uX8_act_8, by decide +kernel⟩
theorem fX8_act_48 : Fl RX8 wsX8_act 8 15 48 RX8 TX8 35 := ⟨rfl, by decide, uX8_act_8, by decide +kernel⟩
set_option maxHeartbeats 4000000 in
theorem kX8_act  {x1 : Int} {x2 : Int} {x3 : Int} (hx1 : (-2147483648 : Int) ≤ x1 ∧ x1 ≤ 2147483647) (hx2 : (-2147483648 : Int) ≤ x2 ∧ x2 ≤ 2147483647) (hx3 : (-2147483648 : Int) ≤ x3 ∧ x3 ≤ 2147483647) : Ct yX8_act wsX8_act 2 [.ref 110, .int (iI x1), .int (iI x2), .int (iI x3)] (fun M => WF M ∧ (M.1 110 16 + M.1 110 17 ≤ M.1 110 0 + 1)) (fun M r M' => ∃ z : Int, r = some (.int (iI z)) ∧ (-1 : Int) ≤ z ∧ z ≤ 5 ∧ WF M' ∧ Fr [30, 40, 41, 42] M M' ∧ ((0 ≤ x1 ∧ x1 ≤ 3 ∧ 0 ≤ x2 ∧ x2 < M.1 110 0 ∧ 0 ≤ x3 ∧ x3 ≤ 999 ∧ (x1 = 0 ∨ x1 = 2 → x3 ≤ 24) ∧ M.1 110 12 ≤ 5) → (z = M.1 110 12 ∧ M'.1 110 12 = M.1 110 12 + 1)) ∧ (¬ (0 ≤ x1 ∧ x1 ≤ 3 ∧ 0 ≤ x2 ∧ x2 < M.1 110 0 ∧ 0 ≤ x3 ∧ x3 ≤ 999 ∧ (x1 = 0 ∨ x1 = 2 → x3 ≤ 24) ∧ M.1 110 12 ≤ 5) → (z = -1 ∧ M'.1 110 12 = M.1 110 12)) ∧ (M'.1 110 0 = M.1 110 0 ∧ M'.1 110 16 = M.1 110 16 ∧ M'.1 110 17 = M.1 110 17) ∧ (M'.1 110 16 + M'.1 110 17 ≤ M'.1 110 0 + 1)) := by
  refine Ct_of (cc := cX8_act) (nL := 4) (rt := (some .int)) (own := RX8) rfl (by decide) rfl (Nat.le_of_ble_eq_true rfl) ?_
  intro p l e s m args below meth c G M0 C W
  obtain ⟨W, hM⟩ := W
  have E : Fr [30, 40, 41, 42] M0 M0 := Fr.rf
  refine A_lv (lv' := [(0, .ref 110), (1, .int (iI x1)), (2, .int (iI x2)), (3, .int (iI x3))]) rfl ?_
  have fa_110_0 : (0 : Int) ≤ M0.1 110 0 ∧ M0.1 110 0 ≤ 12 := W.i kd_110 0
  have fa_110_12 : (0 : Int) ≤ M0.1 110 12 ∧ M0.1 110 12 ≤ 6 := W.i kd_110 12
  refine A_aloadn C dX8_act_0 0 rfl rfl ?_
  refine A_iconst C dX8_act_1 ?_
  refine G_putI C W E kd_110 rfl rfl rfl rfl rfl fX8_act_76 ⟨tyX8_ok, nmX8, rfl, by decide⟩ (Or.inl rfl) rfl rfl (by omega) (by omega) dX8_act_2 (fun M1 eM1 WM1 EM1 => ?_)
  have t_M1_110_0 : M1.1 110 0 = M0.1 110 0 := by rw [eM1]; exact sI_pl rfl
  have t_M1_110_11 : M1.1 110 11 = M0.1 110 11 := by rw [eM1]; exact sI_pl rfl
  have t_M1_110_12 : M1.1 110 12 = M0.1 110 12 := by rw [eM1]; exact sI_pl rfl
  have t_M1_110_16 : M1.1 110 16 = M0.1 110 16 := by rw [eM1]; exact sI_pl rfl
  have t_M1_110_17 : M1.1 110 17 = M0.1 110 17 := by rw [eM1]; exact sI_pl rfl
  refine A_iloadn C dX8_act_5 1 rfl rfl ?_
  refine A_iflt C 56 dX8_act_6 (by decide) (by omega) (fun c2 => ?_) (fun c2 => ?_)
  · skip
    refine A_iconst C dX8_act_56 ?_
    exact A_iret C dX8_act_57 ⟨(-1), rfl, by omega, by omega, WM1, EM1, by omega⟩
  · skip
    refine A_iloadn C dX8_act_9 1 rfl rfl ?_
    refine A_iconst C dX8_act_10 ?_
    refine A_icmpgt C 56 dX8_act_11 (by decide) (by omega) (by omega) (fun c3 => ?_) (fun c3 => ?_)
    · skip
      refine A_iconst C dX8_act_56 ?_
      exact A_iret C dX8_act_57 ⟨(-1), rfl, by omega, by omega, WM1, EM1, by omega⟩
    · skip
      refine A_aloadn C dX8_act_14 0 rfl rfl ?_
      refine A_iloadn C dX8_act_15 2 rfl rfl ?_
      refine A_callV C (n := 1) (st := []) (kX8_isColumn  (by omega)) gX8_act_X8_isColumn rfl (by decide +kernel) ⟨Nat.le_of_ble_eq_true rfl, Nat.le_of_ble_eq_true rfl⟩ kd_110 rfl rfl rfl rfl (Nat.le_of_ble_eq_true rfl) dX8_act_16 rfl WM1 (fun r4 M5 h6 => ?_)
      obtain ⟨z8, rfl, lz8, uz8, rfl, xx7⟩ := h6
      refine A_st (st' := [.int (iI z8)]) rfl ?_
      refine A_ifeq C 56 dX8_act_19 (by decide) (by omega) (fun c9 => ?_) (fun c9 => ?_)
      · skip
        refine A_iconst C dX8_act_56 ?_
        exact A_iret C dX8_act_57 ⟨(-1), rfl, by omega, by omega, WM1, EM1, by omega⟩
      · skip
        refine A_iloadn C dX8_act_22 3 rfl rfl ?_
        refine A_iflt C 56 dX8_act_23 (by decide) (by omega) (fun c10 => ?_) (fun c10 => ?_)
        · skip
          refine A_iconst C dX8_act_56 ?_
          exact A_iret C dX8_act_57 ⟨(-1), rfl, by omega, by omega, WM1, EM1, by omega⟩
        · skip
          refine A_iloadn C dX8_act_26 3 rfl rfl ?_
          refine A_iloadn C dX8_act_27 1 rfl rfl ?_
          refine A_ifeq C 36 dX8_act_28 (by decide) (by omega) (fun c11 => ?_) (fun c11 => ?_)
          · skip
            refine A_bipush C dX8_act_36 (by decide) ?_
            refine A_goto C 44 dX8_act_38 (by decide) ?_
            refine A_icmpgt C 56 dX8_act_44 (by decide) (by omega) (by omega) (fun c12 => ?_) (fun c12 => ?_)
            · skip
              refine A_iconst C dX8_act_56 ?_
              exact A_iret C dX8_act_57 ⟨(-1), rfl, by omega, by omega, WM1, EM1, by omega⟩
            · skip
              refine A_aloadn C dX8_act_47 0 rfl rfl ?_
              refine G_getI C WM1 kd_110 rfl rfl rfl rfl rfl fX8_act_79 rfl dX8_act_48 (fun z13 ez13 lz13 uz13 => ?_)
              refine A_bipush C dX8_act_51 (by decide) ?_
              refine A_icmpne C 58 dX8_act_53 (by decide) (by omega) (by omega) (fun c14 => ?_) (fun c14 => ?_)
              · skip
                refine A_aloadn C dX8_act_58 0 rfl rfl ?_
                refine G_getC C WM1 kd_110 rfl rfl rfl rfl uq_40 fX8_act_42 dX8_act_59 ?_
                refine A_aloadn C dX8_act_62 0 rfl rfl ?_
                refine G_getI C WM1 kd_110 rfl rfl rfl rfl rfl fX8_act_79 rfl dX8_act_63 (fun z15 ez15 lz15 uz15 => ?_)
                refine A_iloadn C dX8_act_66 1 rfl rfl ?_
                refine G_iast C WM1 EM1 kd_120 rfl rfl (by decide) (fun _ => rfl) rfl (by omega) (by omega) (by omega) (by omega) dX8_act_67 (fun M16 eM16 WM16 EM16 => ?_)
                have t_M16_110_0 : M16.1 110 0 = M1.1 110 0 := by rw [eM16]; exact sI_kd kd_110 kd_120 rfl
                have t_M16_110_11 : M16.1 110 11 = M1.1 110 11 := by rw [eM16]; exact sI_kd kd_110 kd_120 rfl
                have t_M16_110_12 : M16.1 110 12 = M1.1 110 12 := by rw [eM16]; exact sI_kd kd_110 kd_120 rfl
                have t_M16_110_16 : M16.1 110 16 = M1.1 110 16 := by rw [eM16]; exact sI_kd kd_110 kd_120 rfl
                have t_M16_110_17 : M16.1 110 17 = M1.1 110 17 := by rw [eM16]; exact sI_kd kd_110 kd_120 rfl
                refine A_aloadn C dX8_act_68 0 rfl rfl ?_
                refine G_getC C WM16 kd_110 rfl rfl rfl rfl uq_41 fX8_act_45 dX8_act_69 ?_
                refine A_aloadn C dX8_act_72 0 rfl rfl ?_
                refine G_getI C WM16 kd_110 rfl rfl rfl rfl rfl fX8_act_79 rfl dX8_act_73 (fun z17 ez17 lz17 uz17 => ?_)
                refine A_iloadn C dX8_act_76 2 rfl rfl ?_
                refine G_iast C WM16 EM16 kd_121 rfl rfl (by decide) (fun _ => rfl) rfl (by omega) (by omega) (by omega) (by omega) dX8_act_77 (fun M18 eM18 WM18 EM18 => ?_)
                have t_M18_110_0 : M18.1 110 0 = M16.1 110 0 := by rw [eM18]; exact sI_kd kd_110 kd_121 rfl
                have t_M18_110_11 : M18.1 110 11 = M16.1 110 11 := by rw [eM18]; exact sI_kd kd_110 kd_121 rfl
                have t_M18_110_12 : M18.1 110 12 = M16.1 110 12 := by rw [eM18]; exact sI_kd kd_110 kd_121 rfl
                have t_M18_110_16 : M18.1 110 16 = M16.1 110 16 := by rw [eM18]; exact sI_kd kd_110 kd_121 rfl
                have t_M18_110_17 : M18.1 110 17 = M16.1 110 17 := by rw [eM18]; exact sI_kd kd_110 kd_121 rfl
                refine A_aloadn C dX8_act_78 0 rfl rfl ?_
                refine G_getC C WM18 kd_110 rfl rfl rfl rfl uq_42 fX8_act_48 dX8_act_79 ?_
                refine A_aloadn C dX8_act_82 0 rfl rfl ?_
                refine G_getI C WM18 kd_110 rfl rfl rfl rfl rfl fX8_act_79 rfl dX8_act_83 (fun z19 ez19 lz19 uz19 => ?_)
                refine A_iloadn C dX8_act_86 3 rfl rfl ?_
                refine G_iast C WM18 EM18 kd_122 rfl rfl (by decide) (fun _ => rfl) rfl (by omega) (by omega) (by omega) (by omega) dX8_act_87 (fun M20 eM20 WM20 EM20 => ?_)
                have t_M20_110_0 : M20.1 110 0 = M18.1 110 0 := by rw [eM20]; exact sI_kd kd_110 kd_122 rfl
                have t_M20_110_11 : M20.1 110 11 = M18.1 110 11 := by rw [eM20]; exact sI_kd kd_110 kd_122 rfl
                have t_M20_110_12 : M20.1 110 12 = M18.1 110 12 := by rw [eM20]; exact sI_kd kd_110 kd_122 rfl
                have t_M20_110_16 : M20.1 110 16 = M18.1 110 16 := by rw [eM20]; exact sI_kd kd_110 kd_122 rfl
                have t_M20_110_17 : M20.1 110 17 = M18.1 110 17 := by rw [eM20]; exact sI_kd kd_110 kd_122 rfl
                refine A_aloadn C dX8_act_88 0 rfl rfl ?_
                refine A_dup C dX8_act_89 rfl ?_
                refine G_getI C WM20 kd_110 rfl rfl rfl rfl rfl fX8_act_79 rfl dX8_act_90 (fun z21 ez21 lz21 uz21 => ?_)
                refine A_iconst C dX8_act_93 ?_
                refine A_iadd C dX8_act_94 ?_
                refine G_putI C WM20 EM20 kd_110 rfl rfl rfl rfl rfl fX8_act_79 ⟨tyX8_ok, nmX8, rfl, by decide⟩ (Or.inl rfl) rfl rfl (by omega) (by omega) dX8_act_95 (fun M22 eM22 WM22 EM22 => ?_)
                have t_M22_110_0 : M22.1 110 0 = M20.1 110 0 := by rw [eM22]; exact sI_pl rfl
                have t_M22_110_11 : M22.1 110 11 = M20.1 110 11 := by rw [eM22]; exact sI_pl rfl
                have t_M22_110_12 : M22.1 110 12 = z21 + 1 := by rw [eM22]; exact sI_at
                have t_M22_110_16 : M22.1 110 16 = M20.1 110 16 := by rw [eM22]; exact sI_pl rfl
                have t_M22_110_17 : M22.1 110 17 = M20.1 110 17 := by rw [eM22]; exact sI_pl rfl
                refine A_aloadn C dX8_act_98 0 rfl rfl ?_
                refine G_getI C WM22 kd_110 rfl rfl rfl rfl rfl fX8_act_79 rfl dX8_act_99 (fun z23 ez23 lz23 uz23 => ?_)
                refine A_iconst C dX8_act_102 ?_
                refine A_isub C dX8_act_103 ?_
                exact A_iret C dX8_act_104 ⟨z23 - 1, rfl, by omega, by omega, WM22, EM22, by omega⟩
              · skip
                refine A_iconst C dX8_act_56 ?_
                exact A_iret C dX8_act_57 ⟨(-1), rfl, by omega, by omega, WM1, EM1, by omega⟩
          · skip
            refine A_iloadn C dX8_act_31 1 rfl rfl ?_
            refine A_iconst C dX8_act_32 ?_
            refine A_icmpne C 41 dX8_act_33 (by decide) (by omega) (by omega) (fun c24 => ?_) (fun c24 => ?_)
            · skip
              refine A_sipush C dX8_act_41 (by decide) ?_
              refine A_icmpgt C 56 dX8_act_44 (by decide) (by omega) (by omega) (fun c25 => ?_) (fun c25 => ?_)
              · skip
                refine A_iconst C dX8_act_56 ?_
                exact A_iret C dX8_act_57 ⟨(-1), rfl, by omega, by omega, WM1, EM1, by omega⟩
              · skip
                refine A_aloadn C dX8_act_47 0 rfl rfl ?_
                refine G_getI C WM1 kd_110 rfl rfl rfl rfl rfl fX8_act_79 rfl dX8_act_48 (fun z26 ez26 lz26 uz26 => ?_)
                refine A_bipush C dX8_act_51 (by decide) ?_
                refine A_icmpne C 58 dX8_act_53 (by decide) (by omega) (by omega) (fun c27 => ?_) (fun c27 => ?_)
                · skip
                  refine A_aloadn C dX8_act_58 0 rfl rfl ?_
                  refine G_getC C WM1 kd_110 rfl rfl rfl rfl uq_40 fX8_act_42 dX8_act_59 ?_
                  refine A_aloadn C dX8_act_62 0 rfl rfl ?_
                  refine G_getI C WM1 kd_110 rfl rfl rfl rfl rfl fX8_act_79 rfl dX8_act_63 (fun z28 ez28 lz28 uz28 => ?_)
                  refine A_iloadn C dX8_act_66 1 rfl rfl ?_
                  refine G_iast C WM1 EM1 kd_120 rfl rfl (by decide) (fun _ => rfl) rfl (by omega) (by omega) (by omega) (by omega) dX8_act_67 (fun M29 eM29 WM29 EM29 => ?_)
                  have t_M29_110_0 : M29.1 110 0 = M1.1 110 0 := by rw [eM29]; exact sI_kd kd_110 kd_120 rfl
                  have t_M29_110_11 : M29.1 110 11 = M1.1 110 11 := by rw [eM29]; exact sI_kd kd_110 kd_120 rfl
                  have t_M29_110_12 : M29.1 110 12 = M1.1 110 12 := by rw [eM29]; exact sI_kd kd_110 kd_120 rfl
                  have t_M29_110_16 : M29.1 110 16 = M1.1 110 16 := by rw [eM29]; exact sI_kd kd_110 kd_120 rfl
                  have t_M29_110_17 : M29.1 110 17 = M1.1 110 17 := by rw [eM29]; exact sI_kd kd_110 kd_120 rfl
                  refine A_aloadn C dX8_act_68 0 rfl rfl ?_
                  refine G_getC C WM29 kd_110 rfl rfl rfl rfl uq_41 fX8_act_45 dX8_act_69 ?_
                  refine A_aloadn C dX8_act_72 0 rfl rfl ?_
                  refine G_getI C WM29 kd_110 rfl rfl rfl rfl rfl fX8_act_79 rfl dX8_act_73 (fun z30 ez30 lz30 uz30 => ?_)
                  refine A_iloadn C dX8_act_76 2 rfl rfl ?_
                  refine G_iast C WM29 EM29 kd_121 rfl rfl (by decide) (fun _ => rfl) rfl (by omega) (by omega) (by omega) (by omega) dX8_act_77 (fun M31 eM31 WM31 EM31 => ?_)
                  have t_M31_110_0 : M31.1 110 0 = M29.1 110 0 := by rw [eM31]; exact sI_kd kd_110 kd_121 rfl
                  have t_M31_110_11 : M31.1 110 11 = M29.1 110 11 := by rw [eM31]; exact sI_kd kd_110 kd_121 rfl
                  have t_M31_110_12 : M31.1 110 12 = M29.1 110 12 := by rw [eM31]; exact sI_kd kd_110 kd_121 rfl
                  have t_M31_110_16 : M31.1 110 16 = M29.1 110 16 := by rw [eM31]; exact sI_kd kd_110 kd_121 rfl
                  have t_M31_110_17 : M31.1 110 17 = M29.1 110 17 := by rw [eM31]; exact sI_kd kd_110 kd_121 rfl
                  refine A_aloadn C dX8_act_78 0 rfl rfl ?_
                  refine G_getC C WM31 kd_110 rfl rfl rfl rfl uq_42 fX8_act_48 dX8_act_79 ?_
                  refine A_aloadn C dX8_act_82 0 rfl rfl ?_
                  refine G_getI C WM31 kd_110 rfl rfl rfl rfl rfl fX8_act_79 rfl dX8_act_83 (fun z32 ez32 lz32 uz32 => ?_)
                  refine A_iloadn C dX8_act_86 3 rfl rfl ?_
                  refine G_iast C WM31 EM31 kd_122 rfl rfl (by decide) (fun _ => rfl) rfl (by omega) (by omega) (by omega) (by omega) dX8_act_87 (fun M33 eM33 WM33 EM33 => ?_)
                  have t_M33_110_0 : M33.1 110 0 = M31.1 110 0 := by rw [eM33]; exact sI_kd kd_110 kd_122 rfl
                  have t_M33_110_11 : M33.1 110 11 = M31.1 110 11 := by rw [eM33]; exact sI_kd kd_110 kd_122 rfl
                  have t_M33_110_12 : M33.1 110 12 = M31.1 110 12 := by rw [eM33]; exact sI_kd kd_110 kd_122 rfl
                  have t_M33_110_16 : M33.1 110 16 = M31.1 110 16 := by rw [eM33]; exact sI_kd kd_110 kd_122 rfl
                  have t_M33_110_17 : M33.1 110 17 = M31.1 110 17 := by rw [eM33]; exact sI_kd kd_110 kd_122 rfl
                  refine A_aloadn C dX8_act_88 0 rfl rfl ?_
                  refine A_dup C dX8_act_89 rfl ?_
                  refine G_getI C WM33 kd_110 rfl rfl rfl rfl rfl fX8_act_79 rfl dX8_act_90 (fun z34 ez34 lz34 uz34 => ?_)
                  refine A_iconst C dX8_act_93 ?_
                  refine A_iadd C dX8_act_94 ?_
                  refine G_putI C WM33 EM33 kd_110 rfl rfl rfl rfl rfl fX8_act_79 ⟨tyX8_ok, nmX8, rfl, by decide⟩ (Or.inl rfl) rfl rfl (by omega) (by omega) dX8_act_95 (fun M35 eM35 WM35 EM35 => ?_)
                  have t_M35_110_0 : M35.1 110 0 = M33.1 110 0 := by rw [eM35]; exact sI_pl rfl
                  have t_M35_110_11 : M35.1 110 11 = M33.1 110 11 := by rw [eM35]; exact sI_pl rfl
                  have t_M35_110_12 : M35.1 110 12 = z34 + 1 := by rw [eM35]; exact sI_at
                  have t_M35_110_16 : M35.1 110 16 = M33.1 110 16 := by rw [eM35]; exact sI_pl rfl
                  have t_M35_110_17 : M35.1 110 17 = M33.1 110 17 := by rw [eM35]; exact sI_pl rfl
                  refine A_aloadn C dX8_act_98 0 rfl rfl ?_
                  refine G_getI C WM35 kd_110 rfl rfl rfl rfl rfl fX8_act_79 rfl dX8_act_99 (fun z36 ez36 lz36 uz36 => ?_)
                  refine A_iconst C dX8_act_102 ?_
                  refine A_isub C dX8_act_103 ?_
                  exact A_iret C dX8_act_104 ⟨z36 - 1, rfl, by omega, by omega, WM35, EM35, by omega⟩
                · skip
                  refine A_iconst C dX8_act_56 ?_
                  exact A_iret C dX8_act_57 ⟨(-1), rfl, by omega, by omega, WM1, EM1, by omega⟩
            · skip
              refine A_bipush C dX8_act_36 (by decide) ?_
              refine A_goto C 44 dX8_act_38 (by decide) ?_
              refine A_icmpgt C 56 dX8_act_44 (by decide) (by omega) (by omega) (fun c37 => ?_) (fun c37 => ?_)
              · skip
                refine A_iconst C dX8_act_56 ?_
                exact A_iret C dX8_act_57 ⟨(-1), rfl, by omega, by omega, WM1, EM1, by omega⟩
              · skip
                refine A_aloadn C dX8_act_47 0 rfl rfl ?_
                refine G_getI C WM1 kd_110 rfl rfl rfl rfl rfl fX8_act_79 rfl dX8_act_48 (fun z38 ez38 lz38 uz38 => ?_)
                refine A_bipush C dX8_act_51 (by decide) ?_
                refine A_icmpne C 58 dX8_act_53 (by decide) (by omega) (by omega) (fun c39 => ?_) (fun c39 => ?_)
                · skip
                  refine A_aloadn C dX8_act_58 0 rfl rfl ?_
                  refine G_getC C WM1 kd_110 rfl rfl rfl rfl uq_40 fX8_act_42 dX8_act_59 ?_
                  refine A_aloadn C dX8_act_62 0 rfl rfl ?_
                  refine G_getI C WM1 kd_110 rfl rfl rfl rfl rfl fX8_act_79 rfl dX8_act_63 (fun z40 ez40 lz40 uz40 => ?_)
                  refine A_iloadn C dX8_act_66 1 rfl rfl ?_
                  refine G_iast C WM1 EM1 kd_120 rfl rfl (by decide) (fun _ => rfl) rfl (by omega) (by omega) (by omega) (by omega) dX8_act_67 (fun M41 eM41 WM41 EM41 => ?_)
                  have t_M41_110_0 : M41.1 110 0 = M1.1 110 0 := by rw [eM41]; exact sI_kd kd_110 kd_120 rfl
                  have t_M41_110_11 : M41.1 110 11 = M1.1 110 11 := by rw [eM41]; exact sI_kd kd_110 kd_120 rfl
                  have t_M41_110_12 : M41.1 110 12 = M1.1 110 12 := by rw [eM41]; exact sI_kd kd_110 kd_120 rfl
                  have t_M41_110_16 : M41.1 110 16 = M1.1 110 16 := by rw [eM41]; exact sI_kd kd_110 kd_120 rfl
                  have t_M41_110_17 : M41.1 110 17 = M1.1 110 17 := by rw [eM41]; exact sI_kd kd_110 kd_120 rfl
                  refine A_aloadn C dX8_act_68 0 rfl rfl ?_
                  refine G_getC C WM41 kd_110 rfl rfl rfl rfl uq_41 fX8_act_45 dX8_act_69 ?_
                  refine A_aloadn C dX8_act_72 0 rfl rfl ?_
                  refine G_getI C WM41 kd_110 rfl rfl rfl rfl rfl fX8_act_79 rfl dX8_act_73 (fun z42 ez42 lz42 uz42 => ?_)
                  refine A_iloadn C dX8_act_76 2 rfl rfl ?_
                  refine G_iast C WM41 EM41 kd_121 rfl rfl (by decide) (fun _ => rfl) rfl (by omega) (by omega) (by omega) (by omega) dX8_act_77 (fun M43 eM43 WM43 EM43 => ?_)
                  have t_M43_110_0 : M43.1 110 0 = M41.1 110 0 := by rw [eM43]; exact sI_kd kd_110 kd_121 rfl
                  have t_M43_110_11 : M43.1 110 11 = M41.1 110 11 := by rw [eM43]; exact sI_kd kd_110 kd_121 rfl
                  have t_M43_110_12 : M43.1 110 12 = M41.1 110 12 := by rw [eM43]; exact sI_kd kd_110 kd_121 rfl
                  have t_M43_110_16 : M43.1 110 16 = M41.1 110 16 := by rw [eM43]; exact sI_kd kd_110 kd_121 rfl
                  have t_M43_110_17 : M43.1 110 17 = M41.1 110 17 := by rw [eM43]; exact sI_kd kd_110 kd_121 rfl
                  refine A_aloadn C dX8_act_78 0 rfl rfl ?_
                  refine G_getC C WM43 kd_110 rfl rfl rfl rfl uq_42 fX8_act_48 dX8_act_79 ?_
                  refine A_aloadn C dX8_act_82 0 rfl rfl ?_
                  refine G_getI C WM43 kd_110 rfl rfl rfl rfl rfl fX8_act_79 rfl dX8_act_83 (fun z44 ez44 lz44 uz44 => ?_)
                  refine A_iloadn C dX8_act_86 3 rfl rfl ?_
                  refine G_iast C WM43 EM43 kd_122 rfl rfl (by decide) (fun _ => rfl) rfl (by omega) (by omega) (by omega) (by omega) dX8_act_87 (fun M45 eM45 WM45 EM45 => ?_)
                  have t_M45_110_0 : M45.1 110 0 = M43.1 110 0 := by rw [eM45]; exact sI_kd kd_110 kd_122 rfl
                  have t_M45_110_11 : M45.1 110 11 = M43.1 110 11 := by rw [eM45]; exact sI_kd kd_110 kd_122 rfl
                  have t_M45_110_12 : M45.1 110 12 = M43.1 110 12 := by rw [eM45]; exact sI_kd kd_110 kd_122 rfl
                  have t_M45_110_16 : M45.1 110 16 = M43.1 110 16 := by rw [eM45]; exact sI_kd kd_110 kd_122 rfl
                  have t_M45_110_17 : M45.1 110 17 = M43.1 110 17 := by rw [eM45]; exact sI_kd kd_110 kd_122 rfl
                  refine A_aloadn C dX8_act_88 0 rfl rfl ?_
                  refine A_dup C dX8_act_89 rfl ?_
                  refine G_getI C WM45 kd_110 rfl rfl rfl rfl rfl fX8_act_79 rfl dX8_act_90 (fun z46 ez46 lz46 uz46 => ?_)
                  refine A_iconst C dX8_act_93 ?_
                  refine A_iadd C dX8_act_94 ?_
                  refine G_putI C WM45 EM45 kd_110 rfl rfl rfl rfl rfl fX8_act_79 ⟨tyX8_ok, nmX8, rfl, by decide⟩ (Or.inl rfl) rfl rfl (by omega) (by omega) dX8_act_95 (fun M47 eM47 WM47 EM47 => ?_)
                  have t_M47_110_0 : M47.1 110 0 = M45.1 110 0 := by rw [eM47]; exact sI_pl rfl
                  have t_M47_110_11 : M47.1 110 11 = M45.1 110 11 := by rw [eM47]; exact sI_pl rfl
                  have t_M47_110_12 : M47.1 110 12 = z46 + 1 := by rw [eM47]; exact sI_at
                  have t_M47_110_16 : M47.1 110 16 = M45.1 110 16 := by rw [eM47]; exact sI_pl rfl
                  have t_M47_110_17 : M47.1 110 17 = M45.1 110 17 := by rw [eM47]; exact sI_pl rfl
                  refine A_aloadn C dX8_act_98 0 rfl rfl ?_
                  refine G_getI C WM47 kd_110 rfl rfl rfl rfl rfl fX8_act_79 rfl dX8_act_99 (fun z48 ez48 lz48 uz48 => ?_)
                  refine A_iconst C dX8_act_102 ?_
                  refine A_isub C dX8_act_103 ?_
                  exact A_iret C dX8_act_104 ⟨z48 - 1, rfl, by omega, by omega, WM47, EM47, by omega⟩
                · skip
                  refine A_iconst C dX8_act_56 ?_
                  exact A_iret C dX8_act_57 ⟨(-1), rfl, by omega, by omega, WM1, EM1, by omega⟩

theorem uX8_does_8 : ∀ w ∈ u_ws RX8 TX8 35, w ∈ wsX8_does := by decide +kernel
theorem fX8_does_42 : Fl RX8 wsX8_does 8 13 42 RX8 TX8 35 := ⟨rfl, by decide, uX8_does_8, by decide +kernel⟩
theorem fX8_does_36 : Fl RX8 wsX8_does 8 9 36 RX8 TX8 35 := ⟨rfl, by decide, uX8_does_8, by decide +kernel⟩
theorem fX8_does_33 : Fl RX8 wsX8_does 8 8 33 RX8 TX8 35 := ⟨rfl, by decide, uX8_does_8, by decide +kernel⟩
theorem fX8_does_39 : Fl RX8 wsX8_does 8 10 39 RX8 TX8 35 := ⟨rfl, by decide, uX8_does_8, by decide +kernel⟩
theorem fX8_does_96 : Fl RX8 wsX8_does 8 11 96 RX8 TX8 35 := ⟨rfl, by decide, uX8_does_8, by decide +kernel⟩
theorem fX8_does_45 : Fl RX8 wsX8_does 8 14 45 RX8 TX8 35 := ⟨rfl, by decide, uX8_does_8, by decide +kernel⟩
theorem fX8_does_48 : Fl RX8 wsX8_does 8 15 48 RX8 TX8 35 := ⟨rfl, by decide, uX8_does_8, by decide +kernel⟩
theorem fX8_does_30 : Fl RX8 wsX8_does 8 7 30 RX8 TX8 35 := ⟨rfl, by decide, uX8_does_8, by decide +kernel⟩
set_option maxHeartbeats 4000000 in
theorem lpX8_does_134 {p : Program} {l : Launch} {e : Env} {s : State} {m : MethodId} {args : Array Value} {below : List Frame} {meth : Method} {c : Code} {G : xG} (C : Cx p s m args meth c G cX8_does 4 RX8 wsX8_does none)  {x1 : Int} (hx1 : (0 : Int) ≤ x1 ∧ x1 ≤ 5) {M0 : Mem} : ∀ (n : Nat) (v2 v3 : Int) (M : Mem), (0 : Nat) < n → (0 ≤ v2 ∧ v2 ≤ 23 ∧ 0 ≤ v3 ∧ v3 ≤ 999) → WF M → Fr [36, 37, 38, 39] M0 M → AW p l e (rmD 1) s m args below meth c G 4 (QQ G below args s ((fun M r M' => r = none ∧ WF M' ∧ Fr [36, 37, 38, 39] M M') M0)) M 134 [(0, .ref 110), (1, .int (iI x1)), (2, .int (iI v2)), (3, .int (iI v3))] [] := by
  intro n
  induction n with
  | zero => intro v2 v3 M hn; exact absurd hn (Nat.not_lt_zero _)
  | succ n ih =>
    intro v2 v3 M hn hi W E
    refine A_aloadn C dX8_does_134 0 rfl rfl ?_
    refine G_getC C W kd_110 rfl rfl rfl rfl uq_40 fX8_does_42 dX8_does_135 ?_
    refine A_iloadn C dX8_does_138 1 rfl rfl ?_
    refine G_iald C W kd_120 rfl rfl (by decide) (fun _ => rfl) (by omega) (by omega) dX8_does_139 (fun z1 ez1 lz1 uz1 => ?_)
    refine A_iconst C dX8_does_140 ?_
    refine A_icmpne C 178 dX8_does_141 (by decide) (by omega) (by omega) (fun c2 => ?_) (fun c2 => ?_)
    · skip
      exact A_vret C dX8_does_178 ⟨rfl, W, E⟩
    · skip
      refine A_aloadn C dX8_does_144 0 rfl rfl ?_
      refine G_getC C W kd_110 rfl rfl rfl rfl uq_38 fX8_does_36 dX8_does_145 ?_
      refine A_iloadn C dX8_does_148 2 rfl rfl ?_
      refine A_aloadn C dX8_does_149 0 rfl rfl ?_
      refine G_getC C W kd_110 rfl rfl rfl rfl uq_38 fX8_does_36 dX8_does_150 ?_
      refine A_iloadn C dX8_does_153 2 rfl rfl ?_
      refine G_iald C W kd_118 rfl rfl (by decide) (fun _ => rfl) (by omega) (by omega) dX8_does_154 (fun z3 ez3 lz3 uz3 => ?_)
      refine A_iloadn C dX8_does_155 3 rfl rfl ?_
      refine A_iadd C dX8_does_156 ?_
      refine A_sipush C dX8_does_157 (by decide) ?_
      refine A_icmple C 169 dX8_does_160 (by decide) (by omega) (by omega) (fun c4 => ?_) (fun c4 => ?_)
      · skip
        refine A_aloadn C dX8_does_169 0 rfl rfl ?_
        refine G_getC C W kd_110 rfl rfl rfl rfl uq_38 fX8_does_36 dX8_does_170 ?_
        refine A_iloadn C dX8_does_173 2 rfl rfl ?_
        refine G_iald C W kd_118 rfl rfl (by decide) (fun _ => rfl) (by omega) (by omega) dX8_does_174 (fun z5 ez5 lz5 uz5 => ?_)
        refine A_iloadn C dX8_does_175 3 rfl rfl ?_
        refine A_iadd C dX8_does_176 ?_
        refine G_iast C W E kd_118 rfl rfl (by decide) (fun _ => rfl) rfl (by omega) (by omega) (by omega) (by omega) dX8_does_177 (fun M6 eM6 WM6 EM6 => ?_)
        exact A_vret C dX8_does_178 ⟨rfl, WM6, EM6⟩
      · skip
        refine A_sipush C dX8_does_163 (by decide) ?_
        refine A_goto C 177 dX8_does_166 (by decide) ?_
        refine G_iast C W E kd_118 rfl rfl (by decide) (fun _ => rfl) rfl (by omega) (by omega) (by omega) (by omega) dX8_does_177 (fun M7 eM7 WM7 EM7 => ?_)
        exact A_vret C dX8_does_178 ⟨rfl, WM7, EM7⟩
set_option maxHeartbeats 4000000 in
theorem lpX8_does_98 {p : Program} {l : Launch} {e : Env} {s : State} {m : MethodId} {args : Array Value} {below : List Frame} {meth : Method} {c : Code} {G : xG} (C : Cx p s m args meth c G cX8_does 4 RX8 wsX8_does none)  {x1 : Int} (hx1 : (0 : Int) ≤ x1 ∧ x1 ≤ 5) {M0 : Mem} : ∀ (n : Nat) (v2 v3 : Int) (M : Mem), (0 : Nat) < n → (0 ≤ v2 ∧ v2 ≤ 23 ∧ 0 ≤ v3 ∧ v3 ≤ 999) → WF M → Fr [36, 37, 38, 39] M0 M → AW p l e (rmD 1) s m args below meth c G 4 (QQ G below args s ((fun M r M' => r = none ∧ WF M' ∧ Fr [36, 37, 38, 39] M M') M0)) M 98 [(0, .ref 110), (1, .int (iI x1)), (2, .int (iI v2)), (3, .int (iI v3))] [] := by
  intro n
  induction n with
  | zero => intro v2 v3 M hn; exact absurd hn (Nat.not_lt_zero _)
  | succ n ih =>
    intro v2 v3 M hn hi W E
    refine A_aloadn C dX8_does_98 0 rfl rfl ?_
    refine G_getC C W kd_110 rfl rfl rfl rfl uq_40 fX8_does_42 dX8_does_99 ?_
    refine A_iloadn C dX8_does_102 1 rfl rfl ?_
    refine G_iald C W kd_120 rfl rfl (by decide) (fun _ => rfl) (by omega) (by omega) dX8_does_103 (fun z8 ez8 lz8 uz8 => ?_)
    refine A_iconst C dX8_does_104 ?_
    refine A_icmpne C 134 dX8_does_105 (by decide) (by omega) (by omega) (fun c9 => ?_) (fun c9 => ?_)
    · skip
      refine A_pick [0, 1, 2, 3] rfl ?_
      exact lpX8_does_134 C  hx1 ((0 : Nat) + 1) v2 v3 M (by omega) (by omega) W E
    · skip
      refine A_aloadn C dX8_does_108 0 rfl rfl ?_
      refine G_getC C W kd_110 rfl rfl rfl rfl uq_37 fX8_does_33 dX8_does_109 ?_
      refine A_iloadn C dX8_does_112 2 rfl rfl ?_
      refine A_aloadn C dX8_does_113 0 rfl rfl ?_
      refine G_getC C W kd_110 rfl rfl rfl rfl uq_37 fX8_does_33 dX8_does_114 ?_
      refine A_iloadn C dX8_does_117 2 rfl rfl ?_
      refine G_iald C W kd_117 rfl rfl (by decide) (fun _ => rfl) (by omega) (by omega) dX8_does_118 (fun z10 ez10 lz10 uz10 => ?_)
      refine A_iloadn C dX8_does_119 3 rfl rfl ?_
      refine A_icmpge C 132 dX8_does_120 (by decide) (by omega) (by omega) (fun c11 => ?_) (fun c11 => ?_)
      · skip
        refine A_iloadn C dX8_does_132 3 rfl rfl ?_
        refine G_iast C W E kd_117 rfl rfl (by decide) (fun _ => rfl) rfl (by omega) (by omega) (by omega) (by omega) dX8_does_133 (fun M12 eM12 WM12 EM12 => ?_)
        refine A_pick [0, 1, 2, 3] rfl ?_
        exact lpX8_does_134 C  hx1 ((0 : Nat) + 1) v2 v3 M12 (by omega) (by omega) WM12 EM12
      · skip
        refine A_aloadn C dX8_does_123 0 rfl rfl ?_
        refine G_getC C W kd_110 rfl rfl rfl rfl uq_37 fX8_does_33 dX8_does_124 ?_
        refine A_iloadn C dX8_does_127 2 rfl rfl ?_
        refine G_iald C W kd_117 rfl rfl (by decide) (fun _ => rfl) (by omega) (by omega) dX8_does_128 (fun z13 ez13 lz13 uz13 => ?_)
        refine A_goto C 133 dX8_does_129 (by decide) ?_
        refine G_iast C W E kd_117 rfl rfl (by decide) (fun _ => rfl) rfl (by omega) (by omega) (by omega) (by omega) dX8_does_133 (fun M14 eM14 WM14 EM14 => ?_)
        refine A_pick [0, 1, 2, 3] rfl ?_
        exact lpX8_does_134 C  hx1 ((0 : Nat) + 1) v2 v3 M14 (by omega) (by omega) WM14 EM14
set_option maxHeartbeats 4000000 in
theorem lpX8_does_54 {p : Program} {l : Launch} {e : Env} {s : State} {m : MethodId} {args : Array Value} {below : List Frame} {meth : Method} {c : Code} {G : xG} (C : Cx p s m args meth c G cX8_does 4 RX8 wsX8_does none)  {x1 : Int} (hx1 : (0 : Int) ≤ x1 ∧ x1 ≤ 5) {M0 : Mem} : ∀ (n : Nat) (v2 v3 : Int) (M : Mem), (0 : Nat) < n → (0 ≤ v2 ∧ v2 ≤ 23 ∧ 0 ≤ v3 ∧ v3 ≤ 999) → WF M → Fr [36, 37, 38, 39] M0 M → AW p l e (rmD 1) s m args below meth c G 4 (QQ G below args s ((fun M r M' => r = none ∧ WF M' ∧ Fr [36, 37, 38, 39] M M') M0)) M 54 [(0, .ref 110), (1, .int (iI x1)), (2, .int (iI v2)), (3, .int (iI v3))] [] := by
  intro n
  induction n with
  | zero => intro v2 v3 M hn; exact absurd hn (Nat.not_lt_zero _)
  | succ n ih =>
    intro v2 v3 M hn hi W E
    refine A_aloadn C dX8_does_54 0 rfl rfl ?_
    refine G_getC C W kd_110 rfl rfl rfl rfl uq_40 fX8_does_42 dX8_does_55 ?_
    refine A_iloadn C dX8_does_58 1 rfl rfl ?_
    refine G_iald C W kd_120 rfl rfl (by decide) (fun _ => rfl) (by omega) (by omega) dX8_does_59 (fun z15 ez15 lz15 uz15 => ?_)
    refine A_iconst C dX8_does_60 ?_
    refine A_icmpne C 98 dX8_does_61 (by decide) (by omega) (by omega) (fun c16 => ?_) (fun c16 => ?_)
    · skip
      refine A_pick [0, 1, 2, 3] rfl ?_
      exact lpX8_does_98 C  hx1 ((0 : Nat) + 1) v2 v3 M (by omega) (by omega) W E
    · skip
      refine A_aloadn C dX8_does_64 0 rfl rfl ?_
      refine G_getC C W kd_110 rfl rfl rfl rfl uq_39 fX8_does_39 dX8_does_65 ?_
      refine A_iloadn C dX8_does_68 2 rfl rfl ?_
      refine A_aloadn C dX8_does_69 0 rfl rfl ?_
      refine G_getC C W kd_110 rfl rfl rfl rfl uq_39 fX8_does_39 dX8_does_70 ?_
      refine A_iloadn C dX8_does_73 2 rfl rfl ?_
      refine G_iald C W kd_119 rfl rfl (by decide) (fun _ => rfl) (by omega) (by omega) dX8_does_74 (fun z17 ez17 lz17 uz17 => ?_)
      refine A_iloadn C dX8_does_75 3 rfl rfl ?_
      refine A_iadd C dX8_does_76 ?_
      refine A_sipush C dX8_does_77 (by decide) ?_
      refine A_icmple C 89 dX8_does_80 (by decide) (by omega) (by omega) (fun c18 => ?_) (fun c18 => ?_)
      · skip
        refine A_aloadn C dX8_does_89 0 rfl rfl ?_
        refine G_getC C W kd_110 rfl rfl rfl rfl uq_39 fX8_does_39 dX8_does_90 ?_
        refine A_iloadn C dX8_does_93 2 rfl rfl ?_
        refine G_iald C W kd_119 rfl rfl (by decide) (fun _ => rfl) (by omega) (by omega) dX8_does_94 (fun z19 ez19 lz19 uz19 => ?_)
        refine A_iloadn C dX8_does_95 3 rfl rfl ?_
        refine A_iadd C dX8_does_96 ?_
        refine G_iast C W E kd_119 rfl rfl (by decide) (fun _ => rfl) rfl (by omega) (by omega) (by omega) (by omega) dX8_does_97 (fun M20 eM20 WM20 EM20 => ?_)
        refine A_pick [0, 1, 2, 3] rfl ?_
        exact lpX8_does_98 C  hx1 ((0 : Nat) + 1) v2 v3 M20 (by omega) (by omega) WM20 EM20
      · skip
        refine A_sipush C dX8_does_83 (by decide) ?_
        refine A_goto C 97 dX8_does_86 (by decide) ?_
        refine G_iast C W E kd_119 rfl rfl (by decide) (fun _ => rfl) rfl (by omega) (by omega) (by omega) (by omega) dX8_does_97 (fun M21 eM21 WM21 EM21 => ?_)
        refine A_pick [0, 1, 2, 3] rfl ?_
        exact lpX8_does_98 C  hx1 ((0 : Nat) + 1) v2 v3 M21 (by omega) (by omega) WM21 EM21
set_option maxHeartbeats 4000000 in
theorem kX8_does  {x1 : Int} (hx1 : (0 : Int) ≤ x1 ∧ x1 ≤ 5) : Ct yX8_does wsX8_does 1 [.ref 110, .int (iI x1)] (fun M => WF M) (fun M r M' => r = none ∧ WF M' ∧ Fr [36, 37, 38, 39] M M') := by
  refine Ct_of (cc := cX8_does) (nL := 4) (rt := none) (own := RX8) rfl (by decide) rfl (Nat.le_of_ble_eq_true rfl) ?_
  intro p l e s m args below meth c G M0 C W
  have E : Fr [36, 37, 38, 39] M0 M0 := Fr.rf
  refine A_lv (lv' := [(0, .ref 110), (1, .int (iI x1))]) rfl ?_
  refine A_aloadn C dX8_does_0 0 rfl rfl ?_
  refine G_getI C W kd_110 rfl rfl rfl rfl rfl fX8_does_96 rfl dX8_does_1 (fun z22 ez22 lz22 uz22 => ?_)
  refine A_aloadn C dX8_does_4 0 rfl rfl ?_
  refine G_getC C W kd_110 rfl rfl rfl rfl uq_41 fX8_does_45 dX8_does_5 ?_
  refine A_iloadn C dX8_does_8 1 rfl rfl ?_
  refine G_iald C W kd_121 rfl rfl (by decide) (fun _ => rfl) (by omega) (by omega) dX8_does_9 (fun z23 ez23 lz23 uz23 => ?_)
  refine A_iadd C dX8_does_10 ?_
  refine A_nami (fun z24 ez24 => ?_)
  refine A_istoren (lv' := [(2, .int (iI z24)), (0, .ref 110), (1, .int (iI x1))]) C dX8_does_11 rfl (by decide) rfl ?_
  refine A_aloadn C dX8_does_12 1 rfl rfl ?_
  refine G_getC C W kd_110 rfl rfl rfl rfl uq_42 fX8_does_48 dX8_does_13 ?_
  refine A_iloadn C dX8_does_16 2 rfl rfl ?_
  refine G_iald C W kd_122 rfl rfl (by decide) (fun _ => rfl) (by omega) (by omega) dX8_does_17 (fun z25 ez25 lz25 uz25 => ?_)
  refine A_istoren (lv' := [(3, .int (iI z25)), (2, .int (iI z24)), (0, .ref 110), (1, .int (iI x1))]) C dX8_does_18 rfl (by decide) rfl ?_
  refine A_aloadn C dX8_does_19 2 rfl rfl ?_
  refine G_getC C W kd_110 rfl rfl rfl rfl uq_40 fX8_does_42 dX8_does_20 ?_
  refine A_iloadn C dX8_does_23 3 rfl rfl ?_
  refine G_iald C W kd_120 rfl rfl (by decide) (fun _ => rfl) (by omega) (by omega) dX8_does_24 (fun z26 ez26 lz26 uz26 => ?_)
  refine A_ifne C 54 dX8_does_25 (by decide) (by omega) (fun c27 => ?_) (fun c27 => ?_)
  · skip
    refine A_pick [2, 3, 1, 0] rfl ?_
    exact lpX8_does_54 C  hx1 ((0 : Nat) + 1) z24 z25 M0 (by omega) (by omega) W E
  · skip
    refine A_aloadn C dX8_does_28 2 rfl rfl ?_
    refine G_getC C W kd_110 rfl rfl rfl rfl uq_36 fX8_does_30 dX8_does_29 ?_
    refine A_iloadn C dX8_does_32 1 rfl rfl ?_
    refine A_aloadn C dX8_does_33 2 rfl rfl ?_
    refine G_getC C W kd_110 rfl rfl rfl rfl uq_36 fX8_does_30 dX8_does_34 ?_
    refine A_iloadn C dX8_does_37 1 rfl rfl ?_
    refine G_iald C W kd_116 rfl rfl (by decide) (fun _ => rfl) (by omega) (by omega) dX8_does_38 (fun z28 ez28 lz28 uz28 => ?_)
    refine A_iloadn C dX8_does_39 0 rfl rfl ?_
    refine A_icmpge C 52 dX8_does_40 (by decide) (by omega) (by omega) (fun c29 => ?_) (fun c29 => ?_)
    · skip
      refine A_iloadn C dX8_does_52 0 rfl rfl ?_
      refine G_iast C W E kd_116 rfl rfl (by decide) (fun _ => rfl) rfl (by omega) (by omega) (by omega) (by omega) dX8_does_53 (fun M30 eM30 WM30 EM30 => ?_)
      refine A_pick [2, 3, 1, 0] rfl ?_
      exact lpX8_does_54 C  hx1 ((0 : Nat) + 1) z24 z25 M30 (by omega) (by omega) WM30 EM30
    · skip
      refine A_aloadn C dX8_does_43 2 rfl rfl ?_
      refine G_getC C W kd_110 rfl rfl rfl rfl uq_36 fX8_does_30 dX8_does_44 ?_
      refine A_iloadn C dX8_does_47 1 rfl rfl ?_
      refine G_iald C W kd_116 rfl rfl (by decide) (fun _ => rfl) (by omega) (by omega) dX8_does_48 (fun z31 ez31 lz31 uz31 => ?_)
      refine A_goto C 53 dX8_does_49 (by decide) ?_
      refine G_iast C W E kd_116 rfl rfl (by decide) (fun _ => rfl) rfl (by omega) (by omega) (by omega) (by omega) dX8_does_53 (fun M32 eM32 WM32 EM32 => ?_)
      refine A_pick [2, 3, 1, 0] rfl ?_
      exact lpX8_does_54 C  hx1 ((0 : Nat) + 1) z24 z25 M32 (by omega) (by omega) WM32 EM32

theorem uX8_perform_8 : ∀ w ∈ u_ws RX8 TX8 35, w ∈ wsX8_perform := by decide +kernel
theorem fX8_perform_76 : Fl RX8 wsX8_perform 8 19 76 RX8 TX8 35 := ⟨rfl, by decide, uX8_perform_8, by decide +kernel⟩
theorem fX8_perform_79 : Fl RX8 wsX8_perform 8 12 79 RX8 TX8 35 := ⟨rfl, by decide, uX8_perform_8, by decide +kernel⟩
theorem fX8_perform_96 : Fl RX8 wsX8_perform 8 11 96 RX8 TX8 35 := ⟨rfl, by decide, uX8_perform_8, by decide +kernel⟩
set_option maxHeartbeats 4000000 in
theorem kX8_perform  {x1 : Int} (hx1 : (-2147483648 : Int) ≤ x1 ∧ x1 ≤ 2147483647) : Ct yX8_perform wsX8_perform 2 [.ref 110, .int (iI x1)] (fun M => WF M ∧ (M.1 110 16 + M.1 110 17 ≤ M.1 110 0 + 1)) (fun M r M' => ∃ z : Int, r = some (.int (iI z)) ∧ (0 : Int) ≤ z ∧ z ≤ 1 ∧ WF M' ∧ Fr [30, 36, 37, 38, 39] M M' ∧ (z = 1 ↔ (0 ≤ x1 ∧ x1 < M.1 110 12)) ∧ (M'.1 110 0 = M.1 110 0 ∧ M'.1 110 12 = M.1 110 12 ∧ M'.1 110 16 = M.1 110 16 ∧ M'.1 110 17 = M.1 110 17) ∧ (M'.1 110 16 + M'.1 110 17 ≤ M'.1 110 0 + 1)) := by
  refine Ct_of (cc := cX8_perform) (nL := 2) (rt := (some .boolean)) (own := RX8) rfl (by decide) rfl (Nat.le_of_ble_eq_true rfl) ?_
  intro p l e s m args below meth c G M0 C W
  obtain ⟨W, hM⟩ := W
  have E : Fr [30, 36, 37, 38, 39] M0 M0 := Fr.rf
  refine A_lv (lv' := [(0, .ref 110), (1, .int (iI x1))]) rfl ?_
  have fa_110_0 : (0 : Int) ≤ M0.1 110 0 ∧ M0.1 110 0 ≤ 12 := W.i kd_110 0
  refine A_aloadn C dX8_perform_0 0 rfl rfl ?_
  refine A_iconst C dX8_perform_1 ?_
  refine G_putI C W E kd_110 rfl rfl rfl rfl rfl fX8_perform_76 ⟨tyX8_ok, nmX8, rfl, by decide⟩ (Or.inl rfl) rfl rfl (by omega) (by omega) dX8_perform_2 (fun M1 eM1 WM1 EM1 => ?_)
  have t_M1_110_0 : M1.1 110 0 = M0.1 110 0 := by rw [eM1]; exact sI_pl rfl
  have t_M1_110_11 : M1.1 110 11 = M0.1 110 11 := by rw [eM1]; exact sI_pl rfl
  have t_M1_110_12 : M1.1 110 12 = M0.1 110 12 := by rw [eM1]; exact sI_pl rfl
  have t_M1_110_16 : M1.1 110 16 = M0.1 110 16 := by rw [eM1]; exact sI_pl rfl
  have t_M1_110_17 : M1.1 110 17 = M0.1 110 17 := by rw [eM1]; exact sI_pl rfl
  refine A_iloadn C dX8_perform_5 1 rfl rfl ?_
  refine A_iflt C 17 dX8_perform_6 (by decide) (by omega) (fun c2 => ?_) (fun c2 => ?_)
  · skip
    refine A_iconst C dX8_perform_17 ?_
    exact A_zret C (by omega) dX8_perform_18 ⟨0, rfl, by omega, by omega, WM1, EM1, by omega⟩
  · skip
    refine A_iloadn C dX8_perform_9 1 rfl rfl ?_
    refine A_aloadn C dX8_perform_10 0 rfl rfl ?_
    refine G_getI C WM1 kd_110 rfl rfl rfl rfl rfl fX8_perform_79 rfl dX8_perform_11 (fun z3 ez3 lz3 uz3 => ?_)
    refine A_icmplt C 19 dX8_perform_14 (by decide) (by omega) (by omega) (fun c4 => ?_) (fun c4 => ?_)
    · skip
      refine A_aloadn C dX8_perform_19 0 rfl rfl ?_
      refine A_iconst C dX8_perform_20 ?_
      refine G_putI C WM1 EM1 kd_110 rfl rfl rfl rfl rfl fX8_perform_96 ⟨tyX8_ok, nmX8, rfl, by decide⟩ (Or.inl rfl) rfl rfl (by omega) (by omega) dX8_perform_21 (fun M5 eM5 WM5 EM5 => ?_)
      have t_M5_110_0 : M5.1 110 0 = M1.1 110 0 := by rw [eM5]; exact sI_pl rfl
      have t_M5_110_11 : M5.1 110 11 = 0 := by rw [eM5]; exact sI_at
      have t_M5_110_12 : M5.1 110 12 = M1.1 110 12 := by rw [eM5]; exact sI_pl rfl
      have t_M5_110_16 : M5.1 110 16 = M1.1 110 16 := by rw [eM5]; exact sI_pl rfl
      have t_M5_110_17 : M5.1 110 17 = M1.1 110 17 := by rw [eM5]; exact sI_pl rfl
      refine A_aloadn C dX8_perform_24 0 rfl rfl ?_
      refine A_iloadn C dX8_perform_25 1 rfl rfl ?_
      refine A_callV C (n := 1) (st := []) (kX8_does  (by omega)) gX8_perform_X8_does rfl (by decide +kernel) ⟨Nat.le_of_ble_eq_true rfl, Nat.le_of_ble_eq_true rfl⟩ kd_110 rfl rfl rfl rfl (Nat.le_of_ble_eq_true rfl) dX8_perform_26 rfl WM5 (fun r6 M7 h8 => ?_)
      obtain ⟨rfl, WM7, FM7⟩ := h8
      have EM7 := Fr.tr EM5 (FM7.mono (c2 := [30, 36, 37, 38, 39]) rfl)
      have t_M7_110_0 : M7.1 110 0 = _ := congrFun (FM7 110 (by rw [kd_110]; rfl)).1 0
      have t_M7_110_11 : M7.1 110 11 = _ := congrFun (FM7 110 (by rw [kd_110]; rfl)).1 11
      have t_M7_110_12 : M7.1 110 12 = _ := congrFun (FM7 110 (by rw [kd_110]; rfl)).1 12
      have t_M7_110_16 : M7.1 110 16 = _ := congrFun (FM7 110 (by rw [kd_110]; rfl)).1 16
      have t_M7_110_17 : M7.1 110 17 = _ := congrFun (FM7 110 (by rw [kd_110]; rfl)).1 17
      refine A_st (st' := []) rfl ?_
      refine A_iconst C dX8_perform_29 ?_
      exact A_zret C (by omega) dX8_perform_30 ⟨1, rfl, by omega, by omega, WM7, EM7, by omega⟩
    · skip
      refine A_iconst C dX8_perform_17 ?_
      exact A_zret C (by omega) dX8_perform_18 ⟨0, rfl, by omega, by omega, WM1, EM1, by omega⟩

theorem uX8_swap_8 : ∀ w ∈ u_ws RX8 TX8 35, w ∈ wsX8_swap := by decide +kernel
theorem fX8_swap_70 : Fl RX8 wsX8_swap 8 32 70 RX8 TX8 35 := ⟨rfl, by decide, uX8_swap_8, by decide +kernel⟩
set_option maxHeartbeats 4000000 in
theorem kX8_swap  {x1 : Int} {x2 : Int} (hx1 : (0 : Int) ≤ x1 ∧ x1 ≤ 5) (hx2 : (0 : Int) ≤ x2 ∧ x2 ≤ 5) : Ct yX8_swap wsX8_swap 1 [.ref 110, .int (iI x1), .int (iI x2)] (fun M => WF M) (fun M r M' => r = none ∧ WF M' ∧ Fr [48] M M') := by
  refine Ct_of (cc := cX8_swap) (nL := 4) (rt := none) (own := RX8) rfl (by decide) rfl (Nat.le_of_ble_eq_true rfl) ?_
  intro p l e s m args below meth c G M0 C W
  have E : Fr [48] M0 M0 := Fr.rf
  refine A_lv (lv' := [(0, .ref 110), (1, .int (iI x1)), (2, .int (iI x2))]) rfl ?_
  refine A_aloadn C dX8_swap_0 0 rfl rfl ?_
  refine G_getC C W kd_110 rfl rfl rfl rfl uq_48 fX8_swap_70 dX8_swap_1 ?_
  refine A_iloadn C dX8_swap_4 1 rfl rfl ?_
  refine G_iald C W kd_128 rfl rfl (by decide) (fun _ => rfl) (by omega) (by omega) dX8_swap_5 (fun z1 ez1 lz1 uz1 => ?_)
  refine A_istoren (lv' := [(3, .int (iI z1)), (0, .ref 110), (1, .int (iI x1)), (2, .int (iI x2))]) C dX8_swap_6 rfl (by decide) rfl ?_
  refine A_aloadn C dX8_swap_7 1 rfl rfl ?_
  refine G_getC C W kd_110 rfl rfl rfl rfl uq_48 fX8_swap_70 dX8_swap_8 ?_
  refine A_iloadn C dX8_swap_11 2 rfl rfl ?_
  refine A_aloadn C dX8_swap_12 1 rfl rfl ?_
  refine G_getC C W kd_110 rfl rfl rfl rfl uq_48 fX8_swap_70 dX8_swap_13 ?_
  refine A_iloadn C dX8_swap_16 3 rfl rfl ?_
  refine G_iald C W kd_128 rfl rfl (by decide) (fun _ => rfl) (by omega) (by omega) dX8_swap_17 (fun z2 ez2 lz2 uz2 => ?_)
  refine G_iast C W E kd_128 rfl rfl (by decide) (fun _ => rfl) rfl (by omega) (by omega) (by omega) (by omega) dX8_swap_18 (fun M3 eM3 WM3 EM3 => ?_)
  refine A_aloadn C dX8_swap_19 1 rfl rfl ?_
  refine G_getC C WM3 kd_110 rfl rfl rfl rfl uq_48 fX8_swap_70 dX8_swap_20 ?_
  refine A_iloadn C dX8_swap_23 3 rfl rfl ?_
  refine A_iloadn C dX8_swap_24 0 rfl rfl ?_
  refine G_iast C WM3 EM3 kd_128 rfl rfl (by decide) (fun _ => rfl) rfl (by omega) (by omega) (by omega) (by omega) dX8_swap_25 (fun M4 eM4 WM4 EM4 => ?_)
  exact A_vret C dX8_swap_26 ⟨rfl, WM4, EM4⟩

theorem uX8_step_8 : ∀ w ∈ u_ws RX8 TX8 35, w ∈ wsX8_step := by decide +kernel
theorem fX8_step_76 : Fl RX8 wsX8_step 8 19 76 RX8 TX8 35 := ⟨rfl, by decide, uX8_step_8, by decide +kernel⟩
theorem fX8_step_189 : Fl RX8 wsX8_step 8 34 189 RX8 TX8 35 := ⟨rfl, by decide, uX8_step_8, by decide +kernel⟩
theorem fX8_step_73 : Fl RX8 wsX8_step 8 33 73 RX8 TX8 35 := ⟨rfl, by decide, uX8_step_8, by decide +kernel⟩
set_option maxHeartbeats 4000000 in
theorem kX8_step  {x1 : Int} (hx1 : (-2147483648 : Int) ≤ x1 ∧ x1 ≤ 2147483647) : Ct yX8_step wsX8_step 1 [.ref 110, .int (iI x1)] (fun M => WF M ∧ (M.1 110 16 + M.1 110 17 ≤ M.1 110 0 + 1)) (fun M r M' => ∃ z : Int, r = some (.int (iI z)) ∧ (-2147483648 : Int) ≤ z ∧ z ≤ 2147483647 ∧ WF M' ∧ Fr [30] M M' ∧ (M'.1 110 0 = M.1 110 0 ∧ M'.1 110 12 = M.1 110 12 ∧ M'.1 110 16 = M.1 110 16 ∧ M'.1 110 17 = M.1 110 17) ∧ (M'.1 110 16 + M'.1 110 17 ≤ M'.1 110 0 + 1)) := by
  refine Ct_of (cc := cX8_step) (nL := 2) (rt := (some .int)) (own := RX8) rfl (by decide) rfl (Nat.le_of_ble_eq_true rfl) ?_
  intro p l e s m args below meth c G M0 C W
  obtain ⟨W, hM⟩ := W
  have E : Fr [30] M0 M0 := Fr.rf
  refine A_lv (lv' := [(0, .ref 110), (1, .int (iI x1))]) rfl ?_
  have fa_110_0 : (0 : Int) ≤ M0.1 110 0 ∧ M0.1 110 0 ≤ 12 := W.i kd_110 0
  refine A_aloadn C dX8_step_0 0 rfl rfl ?_
  refine A_iconst C dX8_step_1 ?_
  refine G_putI C W E kd_110 rfl rfl rfl rfl rfl fX8_step_76 ⟨tyX8_ok, nmX8, rfl, by decide⟩ (Or.inl rfl) rfl rfl (by omega) (by omega) dX8_step_2 (fun M1 eM1 WM1 EM1 => ?_)
  have t_M1_110_0 : M1.1 110 0 = M0.1 110 0 := by rw [eM1]; exact sI_pl rfl
  have t_M1_110_11 : M1.1 110 11 = M0.1 110 11 := by rw [eM1]; exact sI_pl rfl
  have t_M1_110_12 : M1.1 110 12 = M0.1 110 12 := by rw [eM1]; exact sI_pl rfl
  have t_M1_110_16 : M1.1 110 16 = M0.1 110 16 := by rw [eM1]; exact sI_pl rfl
  have t_M1_110_17 : M1.1 110 17 = M0.1 110 17 := by rw [eM1]; exact sI_pl rfl
  refine A_iloadn C dX8_step_5 1 rfl rfl ?_
  refine A_iflt C 17 dX8_step_6 (by decide) (by omega) (fun c2 => ?_) (fun c2 => ?_)
  · skip
    refine A_iconst C dX8_step_17 ?_
    refine A_goto C 27 dX8_step_18 (by decide) ?_
    exact A_iret C dX8_step_27 ⟨(-1), rfl, by omega, by omega, WM1, EM1, by omega⟩
  · skip
    refine A_iloadn C dX8_step_9 1 rfl rfl ?_
    refine A_aloadn C dX8_step_10 0 rfl rfl ?_
    refine G_getI C WM1 kd_110 rfl rfl rfl rfl rfl fX8_step_189 rfl dX8_step_11 (fun z3 ez3 lz3 uz3 => ?_)
    refine A_icmplt C 21 dX8_step_14 (by decide) (by omega) (by omega) (fun c4 => ?_) (fun c4 => ?_)
    · skip
      refine A_aloadn C dX8_step_21 0 rfl rfl ?_
      refine G_getC C WM1 kd_110 rfl rfl rfl rfl uq_49 fX8_step_73 dX8_step_22 ?_
      refine A_iloadn C dX8_step_25 1 rfl rfl ?_
      refine G_iald C WM1 kd_129 rfl rfl (by decide) (fun _ => rfl) (by omega) (by omega) dX8_step_26 (fun z5 ez5 lz5 uz5 => ?_)
      exact A_iret C dX8_step_27 ⟨z5, rfl, by omega, by omega, WM1, EM1, by omega⟩
    · skip
      refine A_iconst C dX8_step_17 ?_
      refine A_goto C 27 dX8_step_18 (by decide) ?_
      exact A_iret C dX8_step_27 ⟨(-1), rfl, by omega, by omega, WM1, EM1, by omega⟩

theorem uX8_count_8 : ∀ w ∈ u_ws RX8 TX8 35, w ∈ wsX8_count := by decide +kernel
theorem fX8_count_7 : Fl RX8 wsX8_count 8 0 7 RX8 TX8 35 := ⟨rfl, by decide, uX8_count_8, by decide +kernel⟩
theorem fX8_count_30 : Fl RX8 wsX8_count 8 7 30 RX8 TX8 35 := ⟨rfl, by decide, uX8_count_8, by decide +kernel⟩
theorem fX8_count_76 : Fl RX8 wsX8_count 8 19 76 RX8 TX8 35 := ⟨rfl, by decide, uX8_count_8, by decide +kernel⟩
theorem fX8_count_85 : Fl RX8 wsX8_count 8 1 85 RX8 TX8 35 := ⟨rfl, by decide, uX8_count_8, by decide +kernel⟩
theorem fX8_count_79 : Fl RX8 wsX8_count 8 12 79 RX8 TX8 35 := ⟨rfl, by decide, uX8_count_8, by decide +kernel⟩
set_option maxHeartbeats 4000000 in
theorem lpX8_count_57 {p : Program} {l : Launch} {e : Env} {s : State} {m : MethodId} {args : Array Value} {below : List Frame} {meth : Method} {c : Code} {G : xG} (C : Cx p s m args meth c G cX8_count 4 RX8 wsX8_count (some .int))  {x1 : Int} (hx1 : (-2147483648 : Int) ≤ x1 ∧ x1 ≤ 2147483647) {M0 : Mem} : ∀ (n : Nat) (v2 v3 : Int) (M : Mem), (13 - v3).toNat < n → (0 ≤ v2 ∧ v2 ≤ 24 * v3 ∧ 0 ≤ v3 ∧ v3 ≤ 12 ∧ M.1 110 16 + M.1 110 17 ≤ M.1 110 0 + 1 ∧ M.1 110 0 = M0.1 110 0 ∧ M.1 110 12 = M0.1 110 12 ∧ M.1 110 16 = M0.1 110 16 ∧ M.1 110 17 = M0.1 110 17) → WF M → Fr [30] M0 M → AW p l e (rmD 1) s m args below meth c G 4 (QQ G below args s ((fun M r M' => ∃ z : Int, r = some (.int (iI z)) ∧ (-2147483648 : Int) ≤ z ∧ z ≤ 2147483647 ∧ WF M' ∧ Fr [30] M M' ∧ (M'.1 110 0 = M.1 110 0 ∧ M'.1 110 12 = M.1 110 12 ∧ M'.1 110 16 = M.1 110 16 ∧ M'.1 110 17 = M.1 110 17) ∧ (M'.1 110 16 + M'.1 110 17 ≤ M'.1 110 0 + 1)) M0)) M 57 [(0, .ref 110), (2, .int (iI v2)), (3, .int (iI v3))] [] := by
  intro n
  induction n with
  | zero => intro v2 v3 M hn; exact absurd hn (Nat.not_lt_zero _)
  | succ n ih =>
    intro v2 v3 M hn hi W E
    have fa_110_0 : (0 : Int) ≤ M.1 110 0 ∧ M.1 110 0 ≤ 12 := W.i kd_110 0
    refine A_iloadn C dX8_count_57 2 rfl rfl ?_
    refine A_aloadn C dX8_count_58 0 rfl rfl ?_
    refine G_getI C W kd_110 rfl rfl rfl rfl rfl fX8_count_7 rfl dX8_count_59 (fun z1 ez1 lz1 uz1 => ?_)
    refine A_icmpge C 80 dX8_count_62 (by decide) (by omega) (by omega) (fun c2 => ?_) (fun c2 => ?_)
    · skip
      refine A_iloadn C dX8_count_80 1 rfl rfl ?_
      exact A_iret C dX8_count_81 ⟨v2, rfl, by omega, by omega, W, E, by omega⟩
    · skip
      refine A_iloadn C dX8_count_65 1 rfl rfl ?_
      refine A_aloadn C dX8_count_66 0 rfl rfl ?_
      refine G_getC C W kd_110 rfl rfl rfl rfl uq_36 fX8_count_30 dX8_count_67 ?_
      refine A_iloadn C dX8_count_70 2 rfl rfl ?_
      refine G_iald C W kd_116 rfl rfl (by decide) (fun _ => rfl) (by omega) (by omega) dX8_count_71 (fun z3 ez3 lz3 uz3 => ?_)
      refine A_iadd C dX8_count_72 ?_
      refine A_nami (fun z4 ez4 => ?_)
      refine A_istoren (lv' := [(2, .int (iI z4)), (0, .ref 110), (3, .int (iI v3))]) C dX8_count_73 rfl (by decide) rfl ?_
      refine A_iinc (lv' := [(3, .int (iI (v3 + 1))), (2, .int (iI z4)), (0, .ref 110)]) C dX8_count_74 2 rfl (by decide) rfl ?_
      refine A_goto C 57 dX8_count_77 (by decide) ?_
      refine A_pick [2, 1, 0] rfl ?_
      exact ih z4 (v3 + 1) M (by omega) (by omega) W E
set_option maxHeartbeats 4000000 in
theorem kX8_count  {x1 : Int} (hx1 : (-2147483648 : Int) ≤ x1 ∧ x1 ≤ 2147483647) : Ct yX8_count wsX8_count 1 [.ref 110, .int (iI x1)] (fun M => WF M ∧ (M.1 110 16 + M.1 110 17 ≤ M.1 110 0 + 1)) (fun M r M' => ∃ z : Int, r = some (.int (iI z)) ∧ (-2147483648 : Int) ≤ z ∧ z ≤ 2147483647 ∧ WF M' ∧ Fr [30] M M' ∧ (M'.1 110 0 = M.1 110 0 ∧ M'.1 110 12 = M.1 110 12 ∧ M'.1 110 16 = M.1 110 16 ∧ M'.1 110 17 = M.1 110 17) ∧ (M'.1 110 16 + M'.1 110 17 ≤ M'.1 110 0 + 1)) := by
  refine Ct_of (cc := cX8_count) (nL := 4) (rt := (some .int)) (own := RX8) rfl (by decide) rfl (Nat.le_of_ble_eq_true rfl) ?_
  intro p l e s m args below meth c G M0 C W
  obtain ⟨W, hM⟩ := W
  have E : Fr [30] M0 M0 := Fr.rf
  refine A_lv (lv' := [(0, .ref 110), (1, .int (iI x1))]) rfl ?_
  have fa_110_0 : (0 : Int) ≤ M0.1 110 0 ∧ M0.1 110 0 ≤ 12 := W.i kd_110 0
  refine A_aloadn C dX8_count_0 0 rfl rfl ?_
  refine A_iconst C dX8_count_1 ?_
  refine G_putI C W E kd_110 rfl rfl rfl rfl rfl fX8_count_76 ⟨tyX8_ok, nmX8, rfl, by decide⟩ (Or.inl rfl) rfl rfl (by omega) (by omega) dX8_count_2 (fun M5 eM5 WM5 EM5 => ?_)
  have t_M5_110_0 : M5.1 110 0 = M0.1 110 0 := by rw [eM5]; exact sI_pl rfl
  have t_M5_110_11 : M5.1 110 11 = M0.1 110 11 := by rw [eM5]; exact sI_pl rfl
  have t_M5_110_12 : M5.1 110 12 = M0.1 110 12 := by rw [eM5]; exact sI_pl rfl
  have t_M5_110_16 : M5.1 110 16 = M0.1 110 16 := by rw [eM5]; exact sI_pl rfl
  have t_M5_110_17 : M5.1 110 17 = M0.1 110 17 := by rw [eM5]; exact sI_pl rfl
  refine A_iconst C dX8_count_5 ?_
  refine A_istoren (lv' := [(2, .int (iI 0)), (0, .ref 110), (1, .int (iI x1))]) C dX8_count_6 rfl (by decide) rfl ?_
  refine A_iloadn C dX8_count_7 2 rfl rfl ?_
  rcases (show (x1 < 0 ∨ 3 < x1) ∨ x1 = 0 ∨ x1 = 1 ∨ x1 = 2 ∨ x1 = 3 by omega) with c6 | c6 | c6 | c6 | c6
  · skip
    refine A_tabOut C 82 dX8_count_8 (by omega) c6 (by decide) ?_
    refine A_iconst C dX8_count_82 ?_
    exact A_iret C dX8_count_83 ⟨(-1), rfl, by omega, by omega, WM5, EM5, by omega⟩
  · skip
    refine A_tabIn C 0 40 dX8_count_8 c6 (by decide) (by decide) (by decide) rfl (by decide) ?_
    refine A_aloadn C dX8_count_40 1 rfl rfl ?_
    refine G_getI C WM5 kd_110 rfl rfl rfl rfl rfl fX8_count_7 rfl dX8_count_41 (fun z7 ez7 lz7 uz7 => ?_)
    exact A_iret C dX8_count_44 ⟨z7, rfl, by omega, by omega, WM5, EM5, by omega⟩
  · skip
    refine A_tabIn C 1 45 dX8_count_8 c6 (by decide) (by decide) (by decide) rfl (by decide) ?_
    refine A_aloadn C dX8_count_45 1 rfl rfl ?_
    refine G_getI C WM5 kd_110 rfl rfl rfl rfl rfl fX8_count_85 rfl dX8_count_46 (fun z8 ez8 lz8 uz8 => ?_)
    exact A_iret C dX8_count_49 ⟨z8, rfl, by omega, by omega, WM5, EM5, by omega⟩
  · skip
    refine A_tabIn C 2 50 dX8_count_8 c6 (by decide) (by decide) (by decide) rfl (by decide) ?_
    refine A_aloadn C dX8_count_50 1 rfl rfl ?_
    refine G_getI C WM5 kd_110 rfl rfl rfl rfl rfl fX8_count_79 rfl dX8_count_51 (fun z9 ez9 lz9 uz9 => ?_)
    exact A_iret C dX8_count_54 ⟨z9, rfl, by omega, by omega, WM5, EM5, by omega⟩
  · skip
    refine A_tabIn C 3 55 dX8_count_8 c6 (by decide) (by decide) (by decide) rfl (by decide) ?_
    refine A_iconst C dX8_count_55 ?_
    refine A_istoren (lv' := [(3, .int (iI 0)), (2, .int (iI 0)), (0, .ref 110), (1, .int (iI x1))]) C dX8_count_56 rfl (by decide) rfl ?_
    refine A_pick [2, 1, 0] rfl ?_
    exact lpX8_count_57 C  hx1 ((13 - (0 : Int)).toNat + 1) 0 0 M5 (by omega) (by omega) WM5 EM5
