theorem uX7_standsRisen_7 : ∀ w ∈ u_ws RX7 TX7 15, w ∈ wsX7_standsRisen := by decide +kernel
theorem fX7_standsRisen_28 : Fl RX7 wsX7_standsRisen 7 2 28 RX7 TX7 15 := ⟨rfl, by decide, uX7_standsRisen_7, by decide +kernel⟩
theorem fX7_standsRisen_21 : Fl RX7 wsX7_standsRisen 7 1 21 RX7 TX7 15 := ⟨rfl, by decide, uX7_standsRisen_7, by decide +kernel⟩
theorem fX7_standsRisen_41 : Fl RX7 wsX7_standsRisen 7 4 41 RX7 TX7 15 := ⟨rfl, by decide, uX7_standsRisen_7, by decide +kernel⟩
set_option maxHeartbeats 4000000 in
theorem kX7_standsRisen  {a : Nat} (ha : kd a = 0) {x1 : Int} {x2 : Int} {x3 : Int} (hx1 : (0 : Int) ≤ x1 ∧ x1 ≤ 24) (hx2 : (-2147483648 : Int) ≤ x2 ∧ x2 ≤ 2147483647) (hx3 : (-2147483648 : Int) ≤ x3 ∧ x3 ≤ 2147483647) : Ct yX7_standsRisen wsX7_standsRisen 5 [.ref a, .int (iI x1), .int (iI x2), .int (iI x3)] (fun M => WF M) (fun M r M' => ∃ z : Int, r = some (.int (iI z)) ∧ (0 : Int) ≤ z ∧ z ≤ 1 ∧ WF M' ∧ Fr [12, 8, 10, 11, 17, 18, 19] M M') := by
  refine Ct_of (cc := cX7_standsRisen) (nL := 4) (rt := (some .boolean)) (own := RX7) rfl (by decide) rfl (Nat.le_of_ble_eq_true rfl) ?_
  intro p l e s m args below meth c G M0 C W
  have E : Fr [12, 8, 10, 11, 17, 18, 19] M0 M0 := Fr.rf
  refine A_lv (lv' := [(0, .ref a), (1, .int (iI x1)), (2, .int (iI x2)), (3, .int (iI x3))]) rfl ?_
  refine A_aloadn C dX7_standsRisen_0 0 rfl rfl ?_
  refine G_getR C W ha rfl rfl rfl rfl fX7_standsRisen_28 dX7_standsRisen_1 (fun b1 hb1 qb1 => ?_)
  refine A_aloadn C dX7_standsRisen_4 0 rfl rfl ?_
  refine G_getU C W ha rfl rfl rfl rfl uq_6 fX7_standsRisen_21 dX7_standsRisen_5 ?_
  refine A_callV C (n := 1) (st := []) (kX4_copy qb1 kd_6) gX7_standsRisen_X4_copy rfl (by decide +kernel) ⟨Nat.le_of_ble_eq_true rfl, Nat.le_of_ble_eq_true rfl⟩ qb1 rfl rfl rfl rfl (Nat.le_of_ble_eq_true rfl) dX7_standsRisen_8 rfl W (fun r2 M3 h4 => ?_)
  obtain ⟨rfl, WM3, FM3⟩ := h4
  have EM3 := Fr.tr E (FM3.mono (c2 := [12, 8, 10, 11, 17, 18, 19]) rfl)
  refine A_st (st' := []) rfl ?_
  refine A_aloadn C dX7_standsRisen_11 0 rfl rfl ?_
  refine G_getR C WM3 ha rfl rfl rfl rfl fX7_standsRisen_28 dX7_standsRisen_12 (fun b6 hb6 qb6 => ?_)
  refine A_iloadn C dX7_standsRisen_15 1 rfl rfl ?_
  refine A_callV C (n := 1) (st := []) (kX4_raiseWater qb6 (by omega)) gX7_standsRisen_X4_raiseWater rfl (by decide +kernel) ⟨Nat.le_of_ble_eq_true rfl, Nat.le_of_ble_eq_true rfl⟩ qb6 rfl rfl rfl rfl (Nat.le_of_ble_eq_true rfl) dX7_standsRisen_16 rfl WM3 (fun r7 M8 h9 => ?_)
  obtain ⟨rfl, WM8, FM8⟩ := h9
  have EM8 := Fr.tr EM3 (FM8.mono (c2 := [12, 8, 10, 11, 17, 18, 19]) rfl)
  refine A_st (st' := []) rfl ?_
  refine A_aloadn C dX7_standsRisen_19 0 rfl rfl ?_
  refine G_getR C WM8 ha rfl rfl rfl rfl fX7_standsRisen_28 dX7_standsRisen_20 (fun b11 hb11 qb11 => ?_)
  refine A_callV C (n := 0) (st := []) (kX4_reckon (Or.inr qb11)) gX7_standsRisen_X4_reckon rfl (by decide +kernel) ⟨Nat.le_of_ble_eq_true rfl, Nat.le_of_ble_eq_true rfl⟩ qb11 rfl rfl rfl rfl (Nat.le_of_ble_eq_true rfl) dX7_standsRisen_23 rfl WM8 (fun r12 M13 h14 => ?_)
  obtain ⟨rfl, WM13, FM13⟩ := h14
  have EM13 := Fr.tr EM8 (FM13.mono (c2 := [12, 8, 10, 11, 17, 18, 19]) rfl)
  refine A_st (st' := []) rfl ?_
  refine A_aloadn C dX7_standsRisen_26 0 rfl rfl ?_
  refine G_getR C WM13 ha rfl rfl rfl rfl fX7_standsRisen_41 dX7_standsRisen_27 (fun b16 hb16 qb16 => ?_)
  refine A_aloadn C dX7_standsRisen_30 0 rfl rfl ?_
  refine G_getR C WM13 ha rfl rfl rfl rfl fX7_standsRisen_28 dX7_standsRisen_31 (fun b17 hb17 qb17 => ?_)
  refine A_callV C (n := 1) (st := []) (kX6_study_12 qb16 qb17) gX7_standsRisen_X6_study rfl (by decide +kernel) ⟨Nat.le_of_ble_eq_true rfl, Nat.le_of_ble_eq_true rfl⟩ qb16 rfl rfl rfl rfl (Nat.le_of_ble_eq_true rfl) dX7_standsRisen_34 rfl WM13 (fun r18 M19 h20 => ?_)
  obtain ⟨rfl, WM19, FM19⟩ := h20
  have EM19 := Fr.tr EM13 (FM19.mono (c2 := [12, 8, 10, 11, 17, 18, 19]) rfl)
  refine A_st (st' := []) rfl ?_
  refine A_aloadn C dX7_standsRisen_37 0 rfl rfl ?_
  refine G_getR C WM19 ha rfl rfl rfl rfl fX7_standsRisen_41 dX7_standsRisen_38 (fun b22 hb22 qb22 => ?_)
  refine A_iloadn C dX7_standsRisen_41 2 rfl rfl ?_
  refine A_i2l C (by omega) dX7_standsRisen_42 ?_
  refine A_iloadn C dX7_standsRisen_43 3 rfl rfl ?_
  refine A_i2l C (by omega) dX7_standsRisen_44 ?_
  refine A_callV C (n := 2) (st := []) (kX6_stands qb22 (by omega) (by omega)) gX7_standsRisen_X6_stands rfl (by decide +kernel) ⟨Nat.le_of_ble_eq_true rfl, Nat.le_of_ble_eq_true rfl⟩ qb22 rfl rfl rfl rfl (Nat.le_of_ble_eq_true rfl) dX7_standsRisen_45 rfl WM19 (fun r23 M24 h25 => ?_)
  obtain ⟨z27, rfl, lz27, uz27, WM24, FM24⟩ := h25
  have EM24 := Fr.tr EM19 (FM24.mono (c2 := [12, 8, 10, 11, 17, 18, 19]) rfl)
  refine A_st (st' := [.int (iI z27)]) rfl ?_
  exact A_zret C (by omega) dX7_standsRisen_48 ⟨z27, rfl, by omega, by omega, WM24, EM24⟩

theorem uX7_rise_7 : ∀ w ∈ u_ws RX7 TX7 15, w ∈ wsX7_rise := by decide +kernel
theorem fX7_rise_21 : Fl RX7 wsX7_rise 7 1 21 RX7 TX7 15 := ⟨rfl, by decide, uX7_rise_7, by decide +kernel⟩
set_option maxHeartbeats 4000000 in
theorem lpX7_rise_23 {p : Program} {l : Launch} {e : Env} {s : State} {m : MethodId} {args : Array Value} {below : List Frame} {meth : Method} {c : Code} {G : xG} (C : Cx p s m args meth c G cX7_rise 5 RX7 wsX7_rise (some .int))  {a : Nat} (ha : kd a = 0) {x1 : Int} {x2 : Int} (hx1 : (-2147483648 : Int) ≤ x1 ∧ x1 ≤ 2147483647) (hx2 : (-2147483648 : Int) ≤ x2 ∧ x2 ≤ 2147483647) {M0 : Mem} : ∀ (n : Nat) (v3 v4 : Int) (M : Mem), (v4).toNat < n → (-1 ≤ v3 ∧ v3 ≤ 24 ∧ 0 ≤ v4 ∧ v4 ≤ 16) → WF M → Fr [12, 8, 10, 11, 17, 18, 19] M0 M → AW p l e (rmD 6) s m args below meth c G 5 (QQ G below args s ((fun M r M' => ∃ z : Int, r = some (.int (iI z)) ∧ (-2147483648 : Int) ≤ z ∧ z ≤ 2147483647 ∧ WF M' ∧ Fr [12, 8, 10, 11, 17, 18, 19] M M') M0)) M 23 [(0, .ref a), (1, .int (iI x1)), (2, .int (iI x2)), (3, .int (iI v3)), (4, .int (iI v4))] [] := by
  intro n
  induction n with
  | zero => intro v3 v4 M hn; exact absurd hn (Nat.not_lt_zero _)
  | succ n ih =>
    intro v3 v4 M hn hi W E
    refine A_iload C dX7_rise_23 4 rfl ?_
    refine A_ifle C 64 dX7_rise_25 (by decide) (by omega) (fun c1 => ?_) (fun c1 => ?_)
    · skip
      refine A_iloadn C dX7_rise_64 3 rfl rfl ?_
      exact A_iret C dX7_rise_65 ⟨v3, rfl, by omega, by omega, W, E⟩
    · skip
      refine A_iloadn C dX7_rise_28 3 rfl rfl ?_
      refine A_iload C dX7_rise_29 4 rfl ?_
      refine A_iadd C dX7_rise_31 ?_
      refine A_bipush C dX7_rise_32 (by decide) ?_
      refine A_icmpgt C 55 dX7_rise_34 (by decide) (by omega) (by omega) (fun c2 => ?_) (fun c2 => ?_)
      · skip
        refine A_iload C dX7_rise_55 4 rfl ?_
        refine A_iconst C dX7_rise_57 ?_
        refine A_idiv2 C (by omega) (by omega) dX7_rise_58 (fun z3 lz3 uz3 => ?_)
        refine A_istore (lv' := [(4, .int (iI z3)), (0, .ref a), (1, .int (iI x1)), (2, .int (iI x2)), (3, .int (iI v3))]) C dX7_rise_59 (by decide) rfl ?_
        refine A_goto C 23 dX7_rise_61 (by decide) ?_
        refine A_pick [1, 2, 3, 4, 0] rfl ?_
        exact ih v3 z3 M (by omega) (by omega) W E
      · skip
        refine A_aloadn C dX7_rise_37 0 rfl rfl ?_
        refine A_iloadn C dX7_rise_38 3 rfl rfl ?_
        refine A_iload C dX7_rise_39 4 rfl ?_
        refine A_iadd C dX7_rise_41 ?_
        refine A_iloadn C dX7_rise_42 1 rfl rfl ?_
        refine A_iloadn C dX7_rise_43 2 rfl rfl ?_
        refine A_callV C (n := 3) (st := []) (kX7_standsRisen ha (by omega) (by omega) (by omega)) gX7_rise_X7_standsRisen rfl (by decide +kernel) ⟨Nat.le_of_ble_eq_true rfl, Nat.le_of_ble_eq_true rfl⟩ ha rfl rfl rfl rfl (Nat.le_of_ble_eq_true rfl) dX7_rise_44 rfl W (fun r4 M5 h6 => ?_)
        obtain ⟨z8, rfl, lz8, uz8, WM5, FM5⟩ := h6
        have EM5 := Fr.tr E (FM5.mono (c2 := [12, 8, 10, 11, 17, 18, 19]) rfl)
        refine A_st (st' := [.int (iI z8)]) rfl ?_
        refine A_ifeq C 55 dX7_rise_47 (by decide) (by omega) (fun c9 => ?_) (fun c9 => ?_)
        · skip
          refine A_iload C dX7_rise_55 4 rfl ?_
          refine A_iconst C dX7_rise_57 ?_
          refine A_idiv2 C (by omega) (by omega) dX7_rise_58 (fun z10 lz10 uz10 => ?_)
          refine A_istore (lv' := [(4, .int (iI z10)), (0, .ref a), (1, .int (iI x1)), (2, .int (iI x2)), (3, .int (iI v3))]) C dX7_rise_59 (by decide) rfl ?_
          refine A_goto C 23 dX7_rise_61 (by decide) ?_
          refine A_pick [1, 2, 3, 4, 0] rfl ?_
          exact ih v3 z10 M5 (by omega) (by omega) WM5 EM5
        · skip
          refine A_iloadn C dX7_rise_50 3 rfl rfl ?_
          refine A_iload C dX7_rise_51 4 rfl ?_
          refine A_iadd C dX7_rise_53 ?_
          refine A_nami (fun z11 ez11 => ?_)
          refine A_istoren (lv' := [(3, .int (iI z11)), (0, .ref a), (1, .int (iI x1)), (2, .int (iI x2)), (4, .int (iI v4))]) C dX7_rise_54 rfl (by decide) rfl ?_
          refine A_iload C dX7_rise_55 4 rfl ?_
          refine A_iconst C dX7_rise_57 ?_
          refine A_idiv2 C (by omega) (by omega) dX7_rise_58 (fun z12 lz12 uz12 => ?_)
          refine A_istore (lv' := [(4, .int (iI z12)), (3, .int (iI z11)), (0, .ref a), (1, .int (iI x1)), (2, .int (iI x2))]) C dX7_rise_59 (by decide) rfl ?_
          refine A_goto C 23 dX7_rise_61 (by decide) ?_
          refine A_pick [2, 3, 4, 1, 0] rfl ?_
          exact ih z11 z12 M5 (by omega) (by omega) WM5 EM5
set_option maxHeartbeats 4000000 in
theorem kX7_rise  {a : Nat} (ha : kd a = 0) {x1 : Int} {x2 : Int} (hx1 : (-2147483648 : Int) ≤ x1 ∧ x1 ≤ 2147483647) (hx2 : (-2147483648 : Int) ≤ x2 ∧ x2 ≤ 2147483647) : Ct yX7_rise wsX7_rise 6 [.ref a, .int (iI x1), .int (iI x2)] (fun M => WF M) (fun M r M' => ∃ z : Int, r = some (.int (iI z)) ∧ (-2147483648 : Int) ≤ z ∧ z ≤ 2147483647 ∧ WF M' ∧ Fr [12, 8, 10, 11, 17, 18, 19] M M') := by
  refine Ct_of (cc := cX7_rise) (nL := 5) (rt := (some .int)) (own := RX7) rfl (by decide) rfl (Nat.le_of_ble_eq_true rfl) ?_
  intro p l e s m args below meth c G M0 C W
  have E : Fr [12, 8, 10, 11, 17, 18, 19] M0 M0 := Fr.rf
  refine A_lv (lv' := [(0, .ref a), (1, .int (iI x1)), (2, .int (iI x2))]) rfl ?_
  refine A_iloadn C dX7_rise_0 1 rfl rfl ?_
  refine A_iloadn C dX7_rise_1 2 rfl rfl ?_
  refine A_callS C (n := 2) (st := []) (kX7_isRatio  (by omega) (by omega)) gX7_rise_X7_isRatio rfl (by decide +kernel) ⟨Nat.le_of_ble_eq_true rfl, Nat.le_of_ble_eq_true rfl⟩ rfl (Nat.le_of_ble_eq_true rfl) dX7_rise_2 rfl W (fun r13 M14 h15 => ?_)
  obtain ⟨z17, rfl, lz17, uz17, WM14, FM14⟩ := h15
  have EM14 := Fr.tr E (FM14.mono (c2 := [12, 8, 10, 11, 17, 18, 19]) rfl)
  refine A_st (st' := [.int (iI z17)]) rfl ?_
  refine A_ifne C 10 dX7_rise_5 (by decide) (by omega) (fun c18 => ?_) (fun c18 => ?_)
  · skip
    refine A_aloadn C dX7_rise_10 0 rfl rfl ?_
    refine G_getU C WM14 ha rfl rfl rfl rfl uq_6 fX7_rise_21 dX7_rise_11 ?_
    refine A_callV C (n := 0) (st := []) (kX4_reckon (Or.inl kd_6)) gX7_rise_X4_reckon rfl (by decide +kernel) ⟨Nat.le_of_ble_eq_true rfl, Nat.le_of_ble_eq_true rfl⟩ kd_6 rfl rfl rfl rfl (Nat.le_of_ble_eq_true rfl) dX7_rise_14 rfl WM14 (fun r19 M20 h21 => ?_)
    obtain ⟨rfl, WM20, FM20⟩ := h21
    have EM20 := Fr.tr EM14 (FM20.mono (c2 := [12, 8, 10, 11, 17, 18, 19]) rfl)
    refine A_st (st' := []) rfl ?_
    refine A_iconst C dX7_rise_17 ?_
    refine A_nami (fun z23 ez23 => ?_)
    refine A_istoren (lv' := [(3, .int (iI z23)), (0, .ref a), (1, .int (iI x1)), (2, .int (iI x2))]) C dX7_rise_18 rfl (by decide) rfl ?_
    refine A_bipush C dX7_rise_19 (by decide) ?_
    refine A_istore (lv' := [(4, .int (iI 16)), (3, .int (iI z23)), (0, .ref a), (1, .int (iI x1)), (2, .int (iI x2))]) C dX7_rise_21 (by decide) rfl ?_
    refine A_pick [2, 3, 4, 1, 0] rfl ?_
    exact lpX7_rise_23 C  ha hx1 hx2 (((16 : Int)).toNat + 1) z23 16 M20 (by omega) (by omega) WM20 EM20
  · skip
    refine A_iconst C dX7_rise_8 ?_
    exact A_iret C dX7_rise_9 ⟨(-1), rfl, by omega, by omega, WM14, EM14⟩

theorem uX7_act_7 : ∀ w ∈ u_ws RX7 TX7 15, w ∈ wsX7_act := by decide +kernel
theorem fX7_act_21 : Fl RX7 wsX7_act 7 1 21 RX7 TX7 15 := ⟨rfl, by decide, uX7_act_7, by decide +kernel⟩
theorem fX7_act_34 : Fl RX7 wsX7_act 7 3 34 RX7 TX7 15 := ⟨rfl, by decide, uX7_act_7, by decide +kernel⟩
set_option maxHeartbeats 4000000 in
theorem kX7_act  {a : Nat} (ha : kd a = 0) {x1 : Int} {x2 : Int} {x3 : Int} (hx1 : (-2147483648 : Int) ≤ x1 ∧ x1 ≤ 2147483647) (hx2 : (-2147483648 : Int) ≤ x2 ∧ x2 ≤ 2147483647) (hx3 : (-2147483648 : Int) ≤ x3 ∧ x3 ≤ 2147483647) : Ct yX7_act wsX7_act 3 [.ref a, .int (iI x1), .int (iI x2), .int (iI x3)] (fun M => WF M) (fun M r M' => ∃ z : Int, r = some (.int (iI z)) ∧ (-1 : Int) ≤ z ∧ z ≤ 5 ∧ WF M' ∧ Fr [13, 14, 15, 16] M M' ∧ (((0 ≤ x1 ∧ x1 ≤ 3 ∧ 0 ≤ x2 ∧ x2 < M.1 6 1 ∧ 0 ≤ x3 ∧ x3 ≤ 999 ∧ (x1 = 0 ∨ x1 = 2 → x3 ≤ 24) ∧ M.1 94 0 ≤ 5) → (z = M.1 94 0 ∧ M'.1 94 0 = M.1 94 0 + 1)) ∧ (¬ (0 ≤ x1 ∧ x1 ≤ 3 ∧ 0 ≤ x2 ∧ x2 < M.1 6 1 ∧ 0 ≤ x3 ∧ x3 ≤ 999 ∧ (x1 = 0 ∨ x1 = 2 → x3 ≤ 24) ∧ M.1 94 0 ≤ 5) → (z = -1 ∧ M'.1 94 0 = M.1 94 0)))) := by
  refine Ct_of (cc := cX7_act) (nL := 5) (rt := (some .int)) (own := RX7) rfl (by decide) rfl (Nat.le_of_ble_eq_true rfl) ?_
  intro p l e s m args below meth c G M0 C W
  have E : Fr [13, 14, 15, 16] M0 M0 := Fr.rf
  refine A_lv (lv' := [(0, .ref a), (1, .int (iI x1)), (2, .int (iI x2)), (3, .int (iI x3))]) rfl ?_
  have fa_94_0 : (0 : Int) ≤ M0.1 94 0 ∧ M0.1 94 0 ≤ 6 := W.i kd_94 0
  refine A_iloadn C dX7_act_0 1 rfl rfl ?_
  refine A_iconst C dX7_act_1 ?_
  refine A_iconst C dX7_act_2 ?_
  refine A_callS C (n := 3) (st := []) (kX7_within  (by omega) (by omega) (by omega)) gX7_act_X7_within rfl (by decide +kernel) ⟨Nat.le_of_ble_eq_true rfl, Nat.le_of_ble_eq_true rfl⟩ rfl (Nat.le_of_ble_eq_true rfl) dX7_act_3 rfl W (fun r1 M2 h3 => ?_)
  obtain ⟨z5, rfl, lz5, uz5, WM2, FM2, xx4⟩ := h3
  have EM2 := Fr.tr E (FM2.mono (c2 := [13, 14, 15, 16]) rfl)
  have t_M2_6_1 : M2.1 6 1 = _ := congrFun (FM2 6 (by rw [kd_6]; rfl)).1 1
  have t_M2_94_0 : M2.1 94 0 = _ := congrFun (FM2 94 (by rw [kd_94]; rfl)).1 0
  have t_M2_101_1 : M2.1 101 1 = _ := congrFun (FM2 101 (by rw [kd_101]; rfl)).1 1
  have t_M2_101_2 : M2.1 101 2 = _ := congrFun (FM2 101 (by rw [kd_101]; rfl)).1 2
  refine A_st (st' := [.int (iI z5)]) rfl ?_
  refine A_ifeq C 20 dX7_act_6 (by decide) (by omega) (fun c6 => ?_) (fun c6 => ?_)
  · skip
    refine A_iconst C dX7_act_20 ?_
    exact A_iret C dX7_act_21 ⟨(-1), rfl, by omega, by omega, WM2, EM2, by omega⟩
  · skip
    refine A_aloadn C dX7_act_9 0 rfl rfl ?_
    refine G_getU C WM2 ha rfl rfl rfl rfl uq_6 fX7_act_21 dX7_act_10 ?_
    refine A_iloadn C dX7_act_13 2 rfl rfl ?_
    refine A_callV C (n := 1) (st := []) (kX4_has (Or.inl kd_6) (by omega)) gX7_act_X4_has rfl (by decide +kernel) ⟨Nat.le_of_ble_eq_true rfl, Nat.le_of_ble_eq_true rfl⟩ kd_6 rfl rfl rfl rfl (Nat.le_of_ble_eq_true rfl) dX7_act_14 rfl WM2 (fun r7 M8 h9 => ?_)
    obtain ⟨z11, rfl, lz11, uz11, WM8, FM8, xx10⟩ := h9
    have EM8 := Fr.tr EM2 (FM8.mono (c2 := [13, 14, 15, 16]) rfl)
    have t_M8_6_1 : M8.1 6 1 = _ := congrFun (FM8 6 (by rw [kd_6]; rfl)).1 1
    have t_M8_94_0 : M8.1 94 0 = _ := congrFun (FM8 94 (by rw [kd_94]; rfl)).1 0
    have t_M8_101_1 : M8.1 101 1 = _ := congrFun (FM8 101 (by rw [kd_101]; rfl)).1 1
    have t_M8_101_2 : M8.1 101 2 = _ := congrFun (FM8 101 (by rw [kd_101]; rfl)).1 2
    refine A_st (st' := [.int (iI z11)]) rfl ?_
    refine A_ifne C 22 dX7_act_17 (by decide) (by omega) (fun c12 => ?_) (fun c12 => ?_)
    · skip
      refine A_iloadn C dX7_act_22 1 rfl rfl ?_
      refine A_ifeq C 31 dX7_act_23 (by decide) (by omega) (fun c13 => ?_) (fun c13 => ?_)
      · skip
        refine A_iconst C dX7_act_31 ?_
        refine A_goto C 36 dX7_act_32 (by decide) ?_
        refine A_istore (lv' := [(4, .int (iI 1)), (0, .ref a), (1, .int (iI x1)), (2, .int (iI x2)), (3, .int (iI x3))]) C dX7_act_36 (by decide) rfl ?_
        refine A_iloadn C dX7_act_38 4 rfl rfl ?_
        refine A_iconst C dX7_act_39 ?_
        refine A_iload C dX7_act_40 0 rfl ?_
        refine A_ifeq C 50 dX7_act_42 (by decide) (by omega) (fun c14 => ?_) (fun c14 => ?_)
        · skip
          refine A_sipush C dX7_act_50 (by decide) ?_
          refine A_callS C (n := 3) (st := []) (kX7_within  (by omega) (by omega) (by omega)) gX7_act_X7_within rfl (by decide +kernel) ⟨Nat.le_of_ble_eq_true rfl, Nat.le_of_ble_eq_true rfl⟩ rfl (Nat.le_of_ble_eq_true rfl) dX7_act_53 rfl WM8 (fun r15 M16 h17 => ?_)
          obtain ⟨z19, rfl, lz19, uz19, WM16, FM16, xx18⟩ := h17
          have EM16 := Fr.tr EM8 (FM16.mono (c2 := [13, 14, 15, 16]) rfl)
          have t_M16_6_1 : M16.1 6 1 = _ := congrFun (FM16 6 (by rw [kd_6]; rfl)).1 1
          have t_M16_94_0 : M16.1 94 0 = _ := congrFun (FM16 94 (by rw [kd_94]; rfl)).1 0
          have t_M16_101_1 : M16.1 101 1 = _ := congrFun (FM16 101 (by rw [kd_101]; rfl)).1 1
          have t_M16_101_2 : M16.1 101 2 = _ := congrFun (FM16 101 (by rw [kd_101]; rfl)).1 2
          refine A_st (st' := [.int (iI z19)]) rfl ?_
          refine A_ifne C 61 dX7_act_56 (by decide) (by omega) (fun c20 => ?_) (fun c20 => ?_)
          · skip
            refine A_aloadn C dX7_act_61 1 rfl rfl ?_
            refine G_getU C WM16 ha rfl rfl rfl rfl uq_13 fX7_act_34 dX7_act_62 ?_
            refine A_iloadn C dX7_act_65 2 rfl rfl ?_
            refine A_iloadn C dX7_act_66 3 rfl rfl ?_
            refine A_iloadn C dX7_act_67 4 rfl rfl ?_
            refine A_callV C (n := 3) (st := []) (kX0_add kd_94 (by omega) (by omega) (by omega)) gX7_act_X0_add rfl (by decide +kernel) ⟨Nat.le_of_ble_eq_true rfl, Nat.le_of_ble_eq_true rfl⟩ kd_94 rfl rfl rfl rfl (Nat.le_of_ble_eq_true rfl) dX7_act_68 rfl WM16 (fun r21 M22 h23 => ?_)
            obtain ⟨z25, rfl, lz25, uz25, WM22, FM22, xx24⟩ := h23
            have EM22 := Fr.tr EM16 (FM22.mono (c2 := [13, 14, 15, 16]) rfl)
            have t_M22_6_1 : M22.1 6 1 = _ := congrFun (FM22 6 (by rw [kd_6]; rfl)).1 1
            have t_M22_101_1 : M22.1 101 1 = _ := congrFun (FM22 101 (by rw [kd_101]; rfl)).1 1
            have t_M22_101_2 : M22.1 101 2 = _ := congrFun (FM22 101 (by rw [kd_101]; rfl)).1 2
            refine A_st (st' := [.int (iI z25)]) rfl ?_
            exact A_iret C dX7_act_71 ⟨z25, rfl, by omega, by omega, WM22, EM22, by omega⟩
          · skip
            refine A_iconst C dX7_act_59 ?_
            exact A_iret C dX7_act_60 ⟨(-1), rfl, by omega, by omega, WM16, EM16, by omega⟩
        · skip
          refine A_bipush C dX7_act_45 (by decide) ?_
          refine A_goto C 53 dX7_act_47 (by decide) ?_
          refine A_callS C (n := 3) (st := []) (kX7_within  (by omega) (by omega) (by omega)) gX7_act_X7_within rfl (by decide +kernel) ⟨Nat.le_of_ble_eq_true rfl, Nat.le_of_ble_eq_true rfl⟩ rfl (Nat.le_of_ble_eq_true rfl) dX7_act_53 rfl WM8 (fun r26 M27 h28 => ?_)
          obtain ⟨z30, rfl, lz30, uz30, WM27, FM27, xx29⟩ := h28
          have EM27 := Fr.tr EM8 (FM27.mono (c2 := [13, 14, 15, 16]) rfl)
          have t_M27_6_1 : M27.1 6 1 = _ := congrFun (FM27 6 (by rw [kd_6]; rfl)).1 1
          have t_M27_94_0 : M27.1 94 0 = _ := congrFun (FM27 94 (by rw [kd_94]; rfl)).1 0
          have t_M27_101_1 : M27.1 101 1 = _ := congrFun (FM27 101 (by rw [kd_101]; rfl)).1 1
          have t_M27_101_2 : M27.1 101 2 = _ := congrFun (FM27 101 (by rw [kd_101]; rfl)).1 2
          refine A_st (st' := [.int (iI z30)]) rfl ?_
          refine A_ifne C 61 dX7_act_56 (by decide) (by omega) (fun c31 => ?_) (fun c31 => ?_)
          · skip
            refine A_aloadn C dX7_act_61 1 rfl rfl ?_
            refine G_getU C WM27 ha rfl rfl rfl rfl uq_13 fX7_act_34 dX7_act_62 ?_
            refine A_iloadn C dX7_act_65 2 rfl rfl ?_
            refine A_iloadn C dX7_act_66 3 rfl rfl ?_
            refine A_iloadn C dX7_act_67 4 rfl rfl ?_
            refine A_callV C (n := 3) (st := []) (kX0_add kd_94 (by omega) (by omega) (by omega)) gX7_act_X0_add rfl (by decide +kernel) ⟨Nat.le_of_ble_eq_true rfl, Nat.le_of_ble_eq_true rfl⟩ kd_94 rfl rfl rfl rfl (Nat.le_of_ble_eq_true rfl) dX7_act_68 rfl WM27 (fun r32 M33 h34 => ?_)
            obtain ⟨z36, rfl, lz36, uz36, WM33, FM33, xx35⟩ := h34
            have EM33 := Fr.tr EM27 (FM33.mono (c2 := [13, 14, 15, 16]) rfl)
            have t_M33_6_1 : M33.1 6 1 = _ := congrFun (FM33 6 (by rw [kd_6]; rfl)).1 1
            have t_M33_101_1 : M33.1 101 1 = _ := congrFun (FM33 101 (by rw [kd_101]; rfl)).1 1
            have t_M33_101_2 : M33.1 101 2 = _ := congrFun (FM33 101 (by rw [kd_101]; rfl)).1 2
            refine A_st (st' := [.int (iI z36)]) rfl ?_
            exact A_iret C dX7_act_71 ⟨z36, rfl, by omega, by omega, WM33, EM33, by omega⟩
          · skip
            refine A_iconst C dX7_act_59 ?_
            exact A_iret C dX7_act_60 ⟨(-1), rfl, by omega, by omega, WM27, EM27, by omega⟩
      · skip
        refine A_iloadn C dX7_act_26 1 rfl rfl ?_
        refine A_iconst C dX7_act_27 ?_
        refine A_icmpne C 35 dX7_act_28 (by decide) (by omega) (by omega) (fun c37 => ?_) (fun c37 => ?_)
        · skip
          refine A_iconst C dX7_act_35 ?_
          refine A_istore (lv' := [(4, .int (iI 0)), (0, .ref a), (1, .int (iI x1)), (2, .int (iI x2)), (3, .int (iI x3))]) C dX7_act_36 (by decide) rfl ?_
          refine A_iloadn C dX7_act_38 4 rfl rfl ?_
          refine A_iconst C dX7_act_39 ?_
          refine A_iload C dX7_act_40 0 rfl ?_
          refine A_ifeq C 50 dX7_act_42 (by decide) (by omega) (fun c38 => ?_) (fun c38 => ?_)
          · skip
            refine A_sipush C dX7_act_50 (by decide) ?_
            refine A_callS C (n := 3) (st := []) (kX7_within  (by omega) (by omega) (by omega)) gX7_act_X7_within rfl (by decide +kernel) ⟨Nat.le_of_ble_eq_true rfl, Nat.le_of_ble_eq_true rfl⟩ rfl (Nat.le_of_ble_eq_true rfl) dX7_act_53 rfl WM8 (fun r39 M40 h41 => ?_)
            obtain ⟨z43, rfl, lz43, uz43, WM40, FM40, xx42⟩ := h41
            have EM40 := Fr.tr EM8 (FM40.mono (c2 := [13, 14, 15, 16]) rfl)
            have t_M40_6_1 : M40.1 6 1 = _ := congrFun (FM40 6 (by rw [kd_6]; rfl)).1 1
            have t_M40_94_0 : M40.1 94 0 = _ := congrFun (FM40 94 (by rw [kd_94]; rfl)).1 0
            have t_M40_101_1 : M40.1 101 1 = _ := congrFun (FM40 101 (by rw [kd_101]; rfl)).1 1
            have t_M40_101_2 : M40.1 101 2 = _ := congrFun (FM40 101 (by rw [kd_101]; rfl)).1 2
            refine A_st (st' := [.int (iI z43)]) rfl ?_
            refine A_ifne C 61 dX7_act_56 (by decide) (by omega) (fun c44 => ?_) (fun c44 => ?_)
            · skip
              refine A_aloadn C dX7_act_61 1 rfl rfl ?_
              refine G_getU C WM40 ha rfl rfl rfl rfl uq_13 fX7_act_34 dX7_act_62 ?_
              refine A_iloadn C dX7_act_65 2 rfl rfl ?_
              refine A_iloadn C dX7_act_66 3 rfl rfl ?_
              refine A_iloadn C dX7_act_67 4 rfl rfl ?_
              refine A_callV C (n := 3) (st := []) (kX0_add kd_94 (by omega) (by omega) (by omega)) gX7_act_X0_add rfl (by decide +kernel) ⟨Nat.le_of_ble_eq_true rfl, Nat.le_of_ble_eq_true rfl⟩ kd_94 rfl rfl rfl rfl (Nat.le_of_ble_eq_true rfl) dX7_act_68 rfl WM40 (fun r45 M46 h47 => ?_)
              obtain ⟨z49, rfl, lz49, uz49, WM46, FM46, xx48⟩ := h47
              have EM46 := Fr.tr EM40 (FM46.mono (c2 := [13, 14, 15, 16]) rfl)
              have t_M46_6_1 : M46.1 6 1 = _ := congrFun (FM46 6 (by rw [kd_6]; rfl)).1 1
              have t_M46_101_1 : M46.1 101 1 = _ := congrFun (FM46 101 (by rw [kd_101]; rfl)).1 1
              have t_M46_101_2 : M46.1 101 2 = _ := congrFun (FM46 101 (by rw [kd_101]; rfl)).1 2
              refine A_st (st' := [.int (iI z49)]) rfl ?_
              exact A_iret C dX7_act_71 ⟨z49, rfl, by omega, by omega, WM46, EM46, by omega⟩
            · skip
              refine A_iconst C dX7_act_59 ?_
              exact A_iret C dX7_act_60 ⟨(-1), rfl, by omega, by omega, WM40, EM40, by omega⟩
          · skip
            refine A_bipush C dX7_act_45 (by decide) ?_
            refine A_goto C 53 dX7_act_47 (by decide) ?_
            refine A_callS C (n := 3) (st := []) (kX7_within  (by omega) (by omega) (by omega)) gX7_act_X7_within rfl (by decide +kernel) ⟨Nat.le_of_ble_eq_true rfl, Nat.le_of_ble_eq_true rfl⟩ rfl (Nat.le_of_ble_eq_true rfl) dX7_act_53 rfl WM8 (fun r50 M51 h52 => ?_)
            obtain ⟨z54, rfl, lz54, uz54, WM51, FM51, xx53⟩ := h52
            have EM51 := Fr.tr EM8 (FM51.mono (c2 := [13, 14, 15, 16]) rfl)
            have t_M51_6_1 : M51.1 6 1 = _ := congrFun (FM51 6 (by rw [kd_6]; rfl)).1 1
            have t_M51_94_0 : M51.1 94 0 = _ := congrFun (FM51 94 (by rw [kd_94]; rfl)).1 0
            have t_M51_101_1 : M51.1 101 1 = _ := congrFun (FM51 101 (by rw [kd_101]; rfl)).1 1
            have t_M51_101_2 : M51.1 101 2 = _ := congrFun (FM51 101 (by rw [kd_101]; rfl)).1 2
            refine A_st (st' := [.int (iI z54)]) rfl ?_
            refine A_ifne C 61 dX7_act_56 (by decide) (by omega) (fun c55 => ?_) (fun c55 => ?_)
            · skip
              refine A_aloadn C dX7_act_61 1 rfl rfl ?_
              refine G_getU C WM51 ha rfl rfl rfl rfl uq_13 fX7_act_34 dX7_act_62 ?_
              refine A_iloadn C dX7_act_65 2 rfl rfl ?_
              refine A_iloadn C dX7_act_66 3 rfl rfl ?_
              refine A_iloadn C dX7_act_67 4 rfl rfl ?_
              refine A_callV C (n := 3) (st := []) (kX0_add kd_94 (by omega) (by omega) (by omega)) gX7_act_X0_add rfl (by decide +kernel) ⟨Nat.le_of_ble_eq_true rfl, Nat.le_of_ble_eq_true rfl⟩ kd_94 rfl rfl rfl rfl (Nat.le_of_ble_eq_true rfl) dX7_act_68 rfl WM51 (fun r56 M57 h58 => ?_)
              obtain ⟨z60, rfl, lz60, uz60, WM57, FM57, xx59⟩ := h58
              have EM57 := Fr.tr EM51 (FM57.mono (c2 := [13, 14, 15, 16]) rfl)
              have t_M57_6_1 : M57.1 6 1 = _ := congrFun (FM57 6 (by rw [kd_6]; rfl)).1 1
              have t_M57_101_1 : M57.1 101 1 = _ := congrFun (FM57 101 (by rw [kd_101]; rfl)).1 1
              have t_M57_101_2 : M57.1 101 2 = _ := congrFun (FM57 101 (by rw [kd_101]; rfl)).1 2
              refine A_st (st' := [.int (iI z60)]) rfl ?_
              exact A_iret C dX7_act_71 ⟨z60, rfl, by omega, by omega, WM57, EM57, by omega⟩
            · skip
              refine A_iconst C dX7_act_59 ?_
              exact A_iret C dX7_act_60 ⟨(-1), rfl, by omega, by omega, WM51, EM51, by omega⟩
        · skip
          refine A_iconst C dX7_act_31 ?_
          refine A_goto C 36 dX7_act_32 (by decide) ?_
          refine A_istore (lv' := [(4, .int (iI 1)), (0, .ref a), (1, .int (iI x1)), (2, .int (iI x2)), (3, .int (iI x3))]) C dX7_act_36 (by decide) rfl ?_
          refine A_iloadn C dX7_act_38 4 rfl rfl ?_
          refine A_iconst C dX7_act_39 ?_
          refine A_iload C dX7_act_40 0 rfl ?_
          refine A_ifeq C 50 dX7_act_42 (by decide) (by omega) (fun c61 => ?_) (fun c61 => ?_)
          · skip
            refine A_sipush C dX7_act_50 (by decide) ?_
            refine A_callS C (n := 3) (st := []) (kX7_within  (by omega) (by omega) (by omega)) gX7_act_X7_within rfl (by decide +kernel) ⟨Nat.le_of_ble_eq_true rfl, Nat.le_of_ble_eq_true rfl⟩ rfl (Nat.le_of_ble_eq_true rfl) dX7_act_53 rfl WM8 (fun r62 M63 h64 => ?_)
            obtain ⟨z66, rfl, lz66, uz66, WM63, FM63, xx65⟩ := h64
            have EM63 := Fr.tr EM8 (FM63.mono (c2 := [13, 14, 15, 16]) rfl)
            have t_M63_6_1 : M63.1 6 1 = _ := congrFun (FM63 6 (by rw [kd_6]; rfl)).1 1
            have t_M63_94_0 : M63.1 94 0 = _ := congrFun (FM63 94 (by rw [kd_94]; rfl)).1 0
            have t_M63_101_1 : M63.1 101 1 = _ := congrFun (FM63 101 (by rw [kd_101]; rfl)).1 1
            have t_M63_101_2 : M63.1 101 2 = _ := congrFun (FM63 101 (by rw [kd_101]; rfl)).1 2
            refine A_st (st' := [.int (iI z66)]) rfl ?_
            refine A_ifne C 61 dX7_act_56 (by decide) (by omega) (fun c67 => ?_) (fun c67 => ?_)
            · skip
              refine A_aloadn C dX7_act_61 1 rfl rfl ?_
              refine G_getU C WM63 ha rfl rfl rfl rfl uq_13 fX7_act_34 dX7_act_62 ?_
              refine A_iloadn C dX7_act_65 2 rfl rfl ?_
              refine A_iloadn C dX7_act_66 3 rfl rfl ?_
              refine A_iloadn C dX7_act_67 4 rfl rfl ?_
              refine A_callV C (n := 3) (st := []) (kX0_add kd_94 (by omega) (by omega) (by omega)) gX7_act_X0_add rfl (by decide +kernel) ⟨Nat.le_of_ble_eq_true rfl, Nat.le_of_ble_eq_true rfl⟩ kd_94 rfl rfl rfl rfl (Nat.le_of_ble_eq_true rfl) dX7_act_68 rfl WM63 (fun r68 M69 h70 => ?_)
              obtain ⟨z72, rfl, lz72, uz72, WM69, FM69, xx71⟩ := h70
              have EM69 := Fr.tr EM63 (FM69.mono (c2 := [13, 14, 15, 16]) rfl)
              have t_M69_6_1 : M69.1 6 1 = _ := congrFun (FM69 6 (by rw [kd_6]; rfl)).1 1
              have t_M69_101_1 : M69.1 101 1 = _ := congrFun (FM69 101 (by rw [kd_101]; rfl)).1 1
              have t_M69_101_2 : M69.1 101 2 = _ := congrFun (FM69 101 (by rw [kd_101]; rfl)).1 2
              refine A_st (st' := [.int (iI z72)]) rfl ?_
              exact A_iret C dX7_act_71 ⟨z72, rfl, by omega, by omega, WM69, EM69, by omega⟩
            · skip
              refine A_iconst C dX7_act_59 ?_
              exact A_iret C dX7_act_60 ⟨(-1), rfl, by omega, by omega, WM63, EM63, by omega⟩
          · skip
            refine A_bipush C dX7_act_45 (by decide) ?_
            refine A_goto C 53 dX7_act_47 (by decide) ?_
            refine A_callS C (n := 3) (st := []) (kX7_within  (by omega) (by omega) (by omega)) gX7_act_X7_within rfl (by decide +kernel) ⟨Nat.le_of_ble_eq_true rfl, Nat.le_of_ble_eq_true rfl⟩ rfl (Nat.le_of_ble_eq_true rfl) dX7_act_53 rfl WM8 (fun r73 M74 h75 => ?_)
            obtain ⟨z77, rfl, lz77, uz77, WM74, FM74, xx76⟩ := h75
            have EM74 := Fr.tr EM8 (FM74.mono (c2 := [13, 14, 15, 16]) rfl)
            have t_M74_6_1 : M74.1 6 1 = _ := congrFun (FM74 6 (by rw [kd_6]; rfl)).1 1
            have t_M74_94_0 : M74.1 94 0 = _ := congrFun (FM74 94 (by rw [kd_94]; rfl)).1 0
            have t_M74_101_1 : M74.1 101 1 = _ := congrFun (FM74 101 (by rw [kd_101]; rfl)).1 1
            have t_M74_101_2 : M74.1 101 2 = _ := congrFun (FM74 101 (by rw [kd_101]; rfl)).1 2
            refine A_st (st' := [.int (iI z77)]) rfl ?_
            refine A_ifne C 61 dX7_act_56 (by decide) (by omega) (fun c78 => ?_) (fun c78 => ?_)
            · skip
              refine A_aloadn C dX7_act_61 1 rfl rfl ?_
              refine G_getU C WM74 ha rfl rfl rfl rfl uq_13 fX7_act_34 dX7_act_62 ?_
              refine A_iloadn C dX7_act_65 2 rfl rfl ?_
              refine A_iloadn C dX7_act_66 3 rfl rfl ?_
              refine A_iloadn C dX7_act_67 4 rfl rfl ?_
              refine A_callV C (n := 3) (st := []) (kX0_add kd_94 (by omega) (by omega) (by omega)) gX7_act_X0_add rfl (by decide +kernel) ⟨Nat.le_of_ble_eq_true rfl, Nat.le_of_ble_eq_true rfl⟩ kd_94 rfl rfl rfl rfl (Nat.le_of_ble_eq_true rfl) dX7_act_68 rfl WM74 (fun r79 M80 h81 => ?_)
              obtain ⟨z83, rfl, lz83, uz83, WM80, FM80, xx82⟩ := h81
              have EM80 := Fr.tr EM74 (FM80.mono (c2 := [13, 14, 15, 16]) rfl)
              have t_M80_6_1 : M80.1 6 1 = _ := congrFun (FM80 6 (by rw [kd_6]; rfl)).1 1
              have t_M80_101_1 : M80.1 101 1 = _ := congrFun (FM80 101 (by rw [kd_101]; rfl)).1 1
              have t_M80_101_2 : M80.1 101 2 = _ := congrFun (FM80 101 (by rw [kd_101]; rfl)).1 2
              refine A_st (st' := [.int (iI z83)]) rfl ?_
              exact A_iret C dX7_act_71 ⟨z83, rfl, by omega, by omega, WM80, EM80, by omega⟩
            · skip
              refine A_iconst C dX7_act_59 ?_
              exact A_iret C dX7_act_60 ⟨(-1), rfl, by omega, by omega, WM74, EM74, by omega⟩
    · skip
      refine A_iconst C dX7_act_20 ?_
      exact A_iret C dX7_act_21 ⟨(-1), rfl, by omega, by omega, WM8, EM8, by omega⟩

theorem uX7_perform_7 : ∀ w ∈ u_ws RX7 TX7 15, w ∈ wsX7_perform := by decide +kernel
theorem fX7_perform_34 : Fl RX7 wsX7_perform 7 3 34 RX7 TX7 15 := ⟨rfl, by decide, uX7_perform_7, by decide +kernel⟩
theorem fX7_perform_21 : Fl RX7 wsX7_perform 7 1 21 RX7 TX7 15 := ⟨rfl, by decide, uX7_perform_7, by decide +kernel⟩
theorem fX7_perform_80 : Fl RX7 wsX7_perform 7 13 80 RX7 TX7 15 := ⟨rfl, by decide, uX7_perform_7, by decide +kernel⟩
set_option maxHeartbeats 4000000 in
theorem kX7_perform  {a : Nat} (ha : kd a = 0) {x1 : Int} (hx1 : (-2147483648 : Int) ≤ x1 ∧ x1 ≤ 2147483647) : Ct yX7_perform wsX7_perform 4 [.ref a, .int (iI x1)] (fun M => WF M) (fun M r M' => ∃ z : Int, r = some (.int (iI z)) ∧ (0 : Int) ≤ z ∧ z ≤ 1 ∧ WF M' ∧ Fr [0, 8] M M' ∧ (z = 1 ↔ (0 ≤ x1 ∧ x1 < M.1 94 0))) := by
  refine Ct_of (cc := cX7_perform) (nL := 2) (rt := (some .boolean)) (own := RX7) rfl (by decide) rfl (Nat.le_of_ble_eq_true rfl) ?_
  intro p l e s m args below meth c G M0 C W
  have E : Fr [0, 8] M0 M0 := Fr.rf
  refine A_lv (lv' := [(0, .ref a), (1, .int (iI x1))]) rfl ?_
  refine A_aloadn C dX7_perform_0 0 rfl rfl ?_
  refine G_getU C W ha rfl rfl rfl rfl uq_13 fX7_perform_34 dX7_perform_1 ?_
  refine A_iloadn C dX7_perform_4 1 rfl rfl ?_
  refine A_callV C (n := 1) (st := []) (kX0_has kd_94 (by omega)) gX7_perform_X0_has rfl (by decide +kernel) ⟨Nat.le_of_ble_eq_true rfl, Nat.le_of_ble_eq_true rfl⟩ kd_94 rfl rfl rfl rfl (Nat.le_of_ble_eq_true rfl) dX7_perform_5 rfl W (fun r1 M2 h3 => ?_)
  obtain ⟨z5, rfl, lz5, uz5, WM2, FM2, xx4⟩ := h3
  have EM2 := Fr.tr E (FM2.mono (c2 := [0, 8]) rfl)
  have t_M2_6_1 : M2.1 6 1 = _ := congrFun (FM2 6 (by rw [kd_6]; rfl)).1 1
  have t_M2_94_0 : M2.1 94 0 = _ := congrFun (FM2 94 (by rw [kd_94]; rfl)).1 0
  have t_M2_101_1 : M2.1 101 1 = _ := congrFun (FM2 101 (by rw [kd_101]; rfl)).1 1
  have t_M2_101_2 : M2.1 101 2 = _ := congrFun (FM2 101 (by rw [kd_101]; rfl)).1 2
  refine A_st (st' := [.int (iI z5)]) rfl ?_
  refine A_ifne C 13 dX7_perform_8 (by decide) (by omega) (fun c6 => ?_) (fun c6 => ?_)
  · skip
    refine A_aloadn C dX7_perform_13 0 rfl rfl ?_
    refine G_getU C WM2 ha rfl rfl rfl rfl uq_13 fX7_perform_34 dX7_perform_14 ?_
    refine A_aloadn C dX7_perform_17 0 rfl rfl ?_
    refine G_getU C WM2 ha rfl rfl rfl rfl uq_6 fX7_perform_21 dX7_perform_18 ?_
    refine A_iloadn C dX7_perform_21 1 rfl rfl ?_
    refine A_callV C (n := 2) (st := []) (kX0_doOn kd_94 (Or.inl kd_6) (by omega)) gX7_perform_X0_doOn rfl (by decide +kernel) ⟨Nat.le_of_ble_eq_true rfl, Nat.le_of_ble_eq_true rfl⟩ kd_94 rfl rfl rfl rfl (Nat.le_of_ble_eq_true rfl) dX7_perform_22 rfl WM2 (fun r7 M8 h9 => ?_)
    obtain ⟨rfl, WM8, FM8⟩ := h9
    have EM8 := Fr.tr EM2 (FM8.mono (c2 := [0, 8]) rfl)
    have t_M8_6_1 : M8.1 6 1 = _ := congrFun (FM8 6 (by rw [kd_6]; rfl)).1 1
    have t_M8_94_0 : M8.1 94 0 = _ := congrFun (FM8 94 (by rw [kd_94]; rfl)).1 0
    have t_M8_101_1 : M8.1 101 1 = _ := congrFun (FM8 101 (by rw [kd_101]; rfl)).1 1
    have t_M8_101_2 : M8.1 101 2 = _ := congrFun (FM8 101 (by rw [kd_101]; rfl)).1 2
    refine A_st (st' := []) rfl ?_
    refine A_aloadn C dX7_perform_25 0 rfl rfl ?_
    refine A_iconst C dX7_perform_26 ?_
    refine G_putI C WM8 EM8 ha rfl rfl rfl rfl rfl fX7_perform_80 ⟨tyX7_ok, nmX7, rfl, by decide⟩ (Or.inr ⟨rfl, by omega⟩) rfl rfl (by omega) (by omega) dX7_perform_27 (fun M11 eM11 WM11 EM11 => ?_)
    have t_M11_6_1 : M11.1 6 1 = M8.1 6 1 := by rw [eM11]; exact sI_kd kd_6 ha rfl
    have t_M11_94_0 : M11.1 94 0 = M8.1 94 0 := by rw [eM11]; exact sI_kd kd_94 ha rfl
    have t_M11_101_1 : M11.1 101 1 = M8.1 101 1 := by rw [eM11]; exact sI_kd kd_101 ha rfl
    have t_M11_101_2 : M11.1 101 2 = M8.1 101 2 := by rw [eM11]; exact sI_kd kd_101 ha rfl
    refine A_iconst C dX7_perform_30 ?_
    exact A_zret C (by omega) dX7_perform_31 ⟨1, rfl, by omega, by omega, WM11, EM11, by omega⟩
  · skip
    refine A_iconst C dX7_perform_11 ?_
    exact A_zret C (by omega) dX7_perform_12 ⟨0, rfl, by omega, by omega, WM2, EM2, by omega⟩

theorem uX7_standsBehind_7 : ∀ w ∈ u_ws RX7 TX7 15, w ∈ wsX7_standsBehind := by decide +kernel
theorem uX7_standsBehind_0 : ∀ w ∈ u_ws RX0 TX0 4, w ∈ wsX7_standsBehind := by decide +kernel
theorem fX7_standsBehind_34 : Fl RX7 wsX7_standsBehind 7 3 34 RX7 TX7 15 := ⟨rfl, by decide, uX7_standsBehind_7, by decide +kernel⟩
theorem fX7_standsBehind_91 : Fl RX7 wsX7_standsBehind 0 0 91 RX0 TX0 4 := ⟨rfl, by decide, uX7_standsBehind_0, by decide +kernel⟩
theorem fX7_standsBehind_28 : Fl RX7 wsX7_standsBehind 7 2 28 RX7 TX7 15 := ⟨rfl, by decide, uX7_standsBehind_7, by decide +kernel⟩
theorem fX7_standsBehind_41 : Fl RX7 wsX7_standsBehind 7 4 41 RX7 TX7 15 := ⟨rfl, by decide, uX7_standsBehind_7, by decide +kernel⟩
theorem fX7_standsBehind_21 : Fl RX7 wsX7_standsBehind 7 1 21 RX7 TX7 15 := ⟨rfl, by decide, uX7_standsBehind_7, by decide +kernel⟩
set_option maxHeartbeats 4000000 in
theorem lpX7_standsBehind_14 {p : Program} {l : Launch} {e : Env} {s : State} {m : MethodId} {args : Array Value} {below : List Frame} {meth : Method} {c : Code} {G : xG} (C : Cx p s m args meth c G cX7_standsBehind 5 RX7 wsX7_standsBehind (some .boolean))  {a : Nat} (ha : kd a = 0) {x1 : Int} {x2 : Int} {x3 : Int} (hx1 : (0 : Int) ≤ x1 ∧ x1 ≤ 63) (hx2 : (-2147483648 : Int) ≤ x2 ∧ x2 ≤ 2147483647) (hx3 : (-2147483648 : Int) ≤ x3 ∧ x3 ≤ 2147483647) {M0 : Mem} : ∀ (n : Nat) (v4 : Int) (M : Mem), (7 - v4).toNat < n → (0 ≤ v4 ∧ v4 ≤ 6) → WF M → Fr [12, 8, 10, 11, 17, 18, 19] M0 M → AW p l e (rmD 5) s m args below meth c G 5 (QQ G below args s ((fun M r M' => ∃ z : Int, r = some (.int (iI z)) ∧ (0 : Int) ≤ z ∧ z ≤ 1 ∧ WF M' ∧ Fr [12, 8, 10, 11, 17, 18, 19] M M') M0)) M 14 [(0, .ref a), (1, .int (iI x1)), (2, .int (iI x2)), (3, .int (iI x3)), (4, .int (iI v4))] [] := by
  intro n
  induction n with
  | zero => intro v4 M hn; exact absurd hn (Nat.not_lt_zero _)
  | succ n ih =>
    intro v4 M hn hi W E
    refine A_iload C dX7_standsBehind_14 4 rfl ?_
    refine A_aloadn C dX7_standsBehind_16 0 rfl rfl ?_
    refine G_getU C W ha rfl rfl rfl rfl uq_13 fX7_standsBehind_34 dX7_standsBehind_17 ?_
    refine G_getI C W kd_94 rfl rfl rfl rfl rfl fX7_standsBehind_91 rfl dX7_standsBehind_20 (fun z1 ez1 lz1 uz1 => ?_)
    refine A_icmpge C 54 dX7_standsBehind_23 (by decide) (by omega) (by omega) (fun c2 => ?_) (fun c2 => ?_)
    · skip
      refine A_aloadn C dX7_standsBehind_54 0 rfl rfl ?_
      refine G_getR C W ha rfl rfl rfl rfl fX7_standsBehind_28 dX7_standsBehind_55 (fun b3 hb3 qb3 => ?_)
      refine A_callV C (n := 0) (st := []) (kX4_reckon (Or.inr qb3)) gX7_standsBehind_X4_reckon rfl (by decide +kernel) ⟨Nat.le_of_ble_eq_true rfl, Nat.le_of_ble_eq_true rfl⟩ qb3 rfl rfl rfl rfl (Nat.le_of_ble_eq_true rfl) dX7_standsBehind_58 rfl W (fun r4 M5 h6 => ?_)
      obtain ⟨rfl, WM5, FM5⟩ := h6
      have EM5 := Fr.tr E (FM5.mono (c2 := [12, 8, 10, 11, 17, 18, 19]) rfl)
      refine A_st (st' := []) rfl ?_
      refine A_aloadn C dX7_standsBehind_61 0 rfl rfl ?_
      refine G_getR C WM5 ha rfl rfl rfl rfl fX7_standsBehind_41 dX7_standsBehind_62 (fun b8 hb8 qb8 => ?_)
      refine A_aloadn C dX7_standsBehind_65 0 rfl rfl ?_
      refine G_getR C WM5 ha rfl rfl rfl rfl fX7_standsBehind_28 dX7_standsBehind_66 (fun b9 hb9 qb9 => ?_)
      refine A_callV C (n := 1) (st := []) (kX6_study_12 qb8 qb9) gX7_standsBehind_X6_study rfl (by decide +kernel) ⟨Nat.le_of_ble_eq_true rfl, Nat.le_of_ble_eq_true rfl⟩ qb8 rfl rfl rfl rfl (Nat.le_of_ble_eq_true rfl) dX7_standsBehind_69 rfl WM5 (fun r10 M11 h12 => ?_)
      obtain ⟨rfl, WM11, FM11⟩ := h12
      have EM11 := Fr.tr EM5 (FM11.mono (c2 := [12, 8, 10, 11, 17, 18, 19]) rfl)
      refine A_st (st' := []) rfl ?_
      refine A_aloadn C dX7_standsBehind_72 0 rfl rfl ?_
      refine G_getR C WM11 ha rfl rfl rfl rfl fX7_standsBehind_41 dX7_standsBehind_73 (fun b14 hb14 qb14 => ?_)
      refine A_iloadn C dX7_standsBehind_76 2 rfl rfl ?_
      refine A_i2l C (by omega) dX7_standsBehind_77 ?_
      refine A_iloadn C dX7_standsBehind_78 3 rfl rfl ?_
      refine A_i2l C (by omega) dX7_standsBehind_79 ?_
      refine A_callV C (n := 2) (st := []) (kX6_stands qb14 (by omega) (by omega)) gX7_standsBehind_X6_stands rfl (by decide +kernel) ⟨Nat.le_of_ble_eq_true rfl, Nat.le_of_ble_eq_true rfl⟩ qb14 rfl rfl rfl rfl (Nat.le_of_ble_eq_true rfl) dX7_standsBehind_80 rfl WM11 (fun r15 M16 h17 => ?_)
      obtain ⟨z19, rfl, lz19, uz19, WM16, FM16⟩ := h17
      have EM16 := Fr.tr EM11 (FM16.mono (c2 := [12, 8, 10, 11, 17, 18, 19]) rfl)
      refine A_st (st' := [.int (iI z19)]) rfl ?_
      exact A_zret C (by omega) dX7_standsBehind_83 ⟨z19, rfl, by omega, by omega, WM16, EM16⟩
    · skip
      refine A_iloadn C dX7_standsBehind_26 1 rfl rfl ?_
      refine A_iconst C dX7_standsBehind_27 ?_
      refine A_iload C dX7_standsBehind_28 4 rfl ?_
      refine A_shl1 C (by omega) (by omega) dX7_standsBehind_30 (fun z20 lz20 uz20 wz20 => ?_)
      refine A_iandH C dX7_standsBehind_31 (fun z21 rz21 => ?_)
      refine A_ifeq C 48 dX7_standsBehind_32 (by decide) (by omega) (fun c22 => ?_) (fun c22 => ?_)
      · skip
        refine A_iinc (lv' := [(4, .int (iI (v4 + 1))), (0, .ref a), (1, .int (iI x1)), (2, .int (iI x2)), (3, .int (iI x3))]) C dX7_standsBehind_48 4 rfl (by decide) rfl ?_
        refine A_goto C 14 dX7_standsBehind_51 (by decide) ?_
        refine A_pick [1, 2, 3, 4, 0] rfl ?_
        exact ih (v4 + 1) M (by omega) (by omega) W E
      · skip
        refine A_aloadn C dX7_standsBehind_35 0 rfl rfl ?_
        refine G_getU C W ha rfl rfl rfl rfl uq_13 fX7_standsBehind_34 dX7_standsBehind_36 ?_
        refine A_aloadn C dX7_standsBehind_39 0 rfl rfl ?_
        refine G_getR C W ha rfl rfl rfl rfl fX7_standsBehind_28 dX7_standsBehind_40 (fun b23 hb23 qb23 => ?_)
        refine A_iload C dX7_standsBehind_43 4 rfl ?_
        refine A_callV C (n := 2) (st := []) (kX0_doOn kd_94 (Or.inr qb23) (by omega)) gX7_standsBehind_X0_doOn rfl (by decide +kernel) ⟨Nat.le_of_ble_eq_true rfl, Nat.le_of_ble_eq_true rfl⟩ kd_94 rfl rfl rfl rfl (Nat.le_of_ble_eq_true rfl) dX7_standsBehind_45 rfl W (fun r24 M25 h26 => ?_)
        obtain ⟨rfl, WM25, FM25⟩ := h26
        have EM25 := Fr.tr E (FM25.mono (c2 := [12, 8, 10, 11, 17, 18, 19]) rfl)
        refine A_st (st' := []) rfl ?_
        refine A_iinc (lv' := [(4, .int (iI (v4 + 1))), (0, .ref a), (1, .int (iI x1)), (2, .int (iI x2)), (3, .int (iI x3))]) C dX7_standsBehind_48 4 rfl (by decide) rfl ?_
        refine A_goto C 14 dX7_standsBehind_51 (by decide) ?_
        refine A_pick [1, 2, 3, 4, 0] rfl ?_
        exact ih (v4 + 1) M25 (by omega) (by omega) WM25 EM25
set_option maxHeartbeats 4000000 in
theorem kX7_standsBehind  {a : Nat} (ha : kd a = 0) {x1 : Int} {x2 : Int} {x3 : Int} (hx1 : (0 : Int) ≤ x1 ∧ x1 ≤ 63) (hx2 : (-2147483648 : Int) ≤ x2 ∧ x2 ≤ 2147483647) (hx3 : (-2147483648 : Int) ≤ x3 ∧ x3 ≤ 2147483647) : Ct yX7_standsBehind wsX7_standsBehind 5 [.ref a, .int (iI x1), .int (iI x2), .int (iI x3)] (fun M => WF M) (fun M r M' => ∃ z : Int, r = some (.int (iI z)) ∧ (0 : Int) ≤ z ∧ z ≤ 1 ∧ WF M' ∧ Fr [12, 8, 10, 11, 17, 18, 19] M M') := by
  refine Ct_of (cc := cX7_standsBehind) (nL := 5) (rt := (some .boolean)) (own := RX7) rfl (by decide) rfl (Nat.le_of_ble_eq_true rfl) ?_
  intro p l e s m args below meth c G M0 C W
  have E : Fr [12, 8, 10, 11, 17, 18, 19] M0 M0 := Fr.rf
  refine A_lv (lv' := [(0, .ref a), (1, .int (iI x1)), (2, .int (iI x2)), (3, .int (iI x3))]) rfl ?_
  refine A_aloadn C dX7_standsBehind_0 0 rfl rfl ?_
  refine G_getR C W ha rfl rfl rfl rfl fX7_standsBehind_28 dX7_standsBehind_1 (fun b28 hb28 qb28 => ?_)
  refine A_aloadn C dX7_standsBehind_4 0 rfl rfl ?_
  refine G_getU C W ha rfl rfl rfl rfl uq_6 fX7_standsBehind_21 dX7_standsBehind_5 ?_
  refine A_callV C (n := 1) (st := []) (kX4_copy qb28 kd_6) gX7_standsBehind_X4_copy rfl (by decide +kernel) ⟨Nat.le_of_ble_eq_true rfl, Nat.le_of_ble_eq_true rfl⟩ qb28 rfl rfl rfl rfl (Nat.le_of_ble_eq_true rfl) dX7_standsBehind_8 rfl W (fun r29 M30 h31 => ?_)
  obtain ⟨rfl, WM30, FM30⟩ := h31
  have EM30 := Fr.tr E (FM30.mono (c2 := [12, 8, 10, 11, 17, 18, 19]) rfl)
  refine A_st (st' := []) rfl ?_
  refine A_iconst C dX7_standsBehind_11 ?_
  refine A_istore (lv' := [(4, .int (iI 0)), (0, .ref a), (1, .int (iI x1)), (2, .int (iI x2)), (3, .int (iI x3))]) C dX7_standsBehind_12 (by decide) rfl ?_
  refine A_pick [1, 2, 3, 4, 0] rfl ?_
  exact lpX7_standsBehind_14 C  ha hx1 hx2 hx3 ((7 - (0 : Int)).toNat + 1) 0 M30 (by omega) (by omega) WM30 EM30

theorem uX7_leadsOn_7 : ∀ w ∈ u_ws RX7 TX7 15, w ∈ wsX7_leadsOn := by decide +kernel
theorem uX7_leadsOn_0 : ∀ w ∈ u_ws RX0 TX0 4, w ∈ wsX7_leadsOn := by decide +kernel
theorem fX7_leadsOn_34 : Fl RX7 wsX7_leadsOn 7 3 34 RX7 TX7 15 := ⟨rfl, by decide, uX7_leadsOn_7, by decide +kernel⟩
theorem fX7_leadsOn_91 : Fl RX7 wsX7_leadsOn 0 0 91 RX0 TX0 4 := ⟨rfl, by decide, uX7_leadsOn_0, by decide +kernel⟩
theorem fX7_leadsOn_65 : Fl RX7 wsX7_leadsOn 7 9 65 RX7 TX7 15 := ⟨rfl, by decide, uX7_leadsOn_7, by decide +kernel⟩
theorem fX7_leadsOn_69 : Fl RX7 wsX7_leadsOn 7 10 69 RX7 TX7 15 := ⟨rfl, by decide, uX7_leadsOn_7, by decide +kernel⟩
set_option maxHeartbeats 4000000 in
theorem lpX7_leadsOn_16 {p : Program} {l : Launch} {e : Env} {s : State} {m : MethodId} {args : Array Value} {below : List Frame} {meth : Method} {c : Code} {G : xG} (C : Cx p s m args meth c G cX7_leadsOn 8 RX7 wsX7_leadsOn (some .boolean)) {k : Nat} (IH : ∀ {a : Nat} (ha : kd a = 0) {x1 : Int} {x2 : Int} {x3 : Int} {x4 : Int} (hx1 : (0 : Int) ≤ x1 ∧ x1 ≤ 63) (hx2 : (0 : Int) ≤ x2 ∧ x2 ≤ 6) (hx3 : (-2147483648 : Int) ≤ x3 ∧ x3 ≤ 2147483647) (hx4 : (-2147483648 : Int) ≤ x4 ∧ x4 ≤ 2147483647) (hy0 : (6 - x2).toNat < k), Ct yX7_leadsOn wsX7_leadsOn (5 + k) [.ref a, .int (iI x1), .int (iI x2), .int (iI x3), .int (iI x4)] (fun M => WF M) (fun M r M' => ∃ z : Int, r = some (.int (iI z)) ∧ (0 : Int) ≤ z ∧ z ≤ 1 ∧ WF M' ∧ Fr [12, 8, 10, 11, 17, 18, 19, 24, 25] M M')) {a : Nat} (ha : kd a = 0) {x1 : Int} {x2 : Int} {x3 : Int} {x4 : Int} (hx1 : (0 : Int) ≤ x1 ∧ x1 ≤ 63) (hx2 : (0 : Int) ≤ x2 ∧ x2 ≤ 6) (hx3 : (-2147483648 : Int) ≤ x3 ∧ x3 ≤ 2147483647) (hx4 : (-2147483648 : Int) ≤ x4 ∧ x4 ≤ 2147483647) (hy0 : (6 - x2).toNat < k + 1) {M0 : Mem} : ∀ (n : Nat) (v5 : Int) (M : Mem), (7 - v5).toNat < n → (0 ≤ v5 ∧ v5 ≤ 6 ∧ x2 ≤ 5) → WF M → Fr [12, 8, 10, 11, 17, 18, 19, 24, 25] M0 M → AW p l e (rmD (5 + (k + 1))) s m args below meth c G 8 (QQ G below args s ((fun M r M' => ∃ z : Int, r = some (.int (iI z)) ∧ (0 : Int) ≤ z ∧ z ≤ 1 ∧ WF M' ∧ Fr [12, 8, 10, 11, 17, 18, 19, 24, 25] M M') M0)) M 16 [(0, .ref a), (1, .int (iI x1)), (2, .int (iI x2)), (3, .int (iI x3)), (4, .int (iI x4)), (5, .int (iI v5))] [] := by
  intro n
  induction n with
  | zero => intro v5 M hn; exact absurd hn (Nat.not_lt_zero _)
  | succ n ih =>
    intro v5 M hn hi W E
    refine A_iload C dX7_leadsOn_16 5 rfl ?_
    refine A_aloadn C dX7_leadsOn_18 0 rfl rfl ?_
    refine G_getU C W ha rfl rfl rfl rfl uq_13 fX7_leadsOn_34 dX7_leadsOn_19 ?_
    refine G_getI C W kd_94 rfl rfl rfl rfl rfl fX7_leadsOn_91 rfl dX7_leadsOn_22 (fun z1 ez1 lz1 uz1 => ?_)
    refine A_icmpge C 128 dX7_leadsOn_25 (by decide) (by omega) (by omega) (fun c2 => ?_) (fun c2 => ?_)
    · skip
      refine A_iconst C dX7_leadsOn_128 ?_
      exact A_zret C (by omega) dX7_leadsOn_129 ⟨0, rfl, by omega, by omega, W, E⟩
    · skip
      refine A_iloadn C dX7_leadsOn_28 1 rfl rfl ?_
      refine A_iconst C dX7_leadsOn_29 ?_
      refine A_iload C dX7_leadsOn_30 5 rfl ?_
      refine A_shl1 C (by omega) (by omega) dX7_leadsOn_32 (fun z3 lz3 uz3 wz3 => ?_)
      refine A_ior C (by omega) (by omega) (by omega) (by omega) dX7_leadsOn_33 (fun z4 lz4 uz4 => ?_)
      refine A_istore (lv' := [(6, .int (iI z4)), (0, .ref a), (1, .int (iI x1)), (2, .int (iI x2)), (3, .int (iI x3)), (4, .int (iI x4)), (5, .int (iI v5))]) C dX7_leadsOn_34 (by decide) rfl ?_
      refine A_iload C dX7_leadsOn_36 0 rfl ?_
      refine A_iloadn C dX7_leadsOn_38 2 rfl rfl ?_
      refine A_icmpeq C 122 dX7_leadsOn_39 (by decide) (by omega) (by omega) (fun c5 => ?_) (fun c5 => ?_)
      · skip
        refine A_iinc (lv' := [(5, .int (iI (v5 + 1))), (6, .int (iI z4)), (0, .ref a), (1, .int (iI x1)), (2, .int (iI x2)), (3, .int (iI x3)), (4, .int (iI x4))]) C dX7_leadsOn_122 6 rfl (by decide) rfl ?_
        refine A_goto C 16 dX7_leadsOn_125 (by decide) ?_
        refine A_pick [2, 3, 4, 5, 6, 0] rfl ?_
        exact ih (v5 + 1) M (by omega) (by omega) W E
      · skip
        refine A_aloadn C dX7_leadsOn_42 1 rfl rfl ?_
        refine G_getR C W ha rfl rfl rfl rfl fX7_leadsOn_65 dX7_leadsOn_43 (fun b6 hb6 qb6 => ?_)
        refine A_iload C dX7_leadsOn_46 0 rfl ?_
        refine G_zald C W qb6 rfl rfl (by decide) (fun _ => rfl) (by omega) (by omega) dX7_leadsOn_48 (fun z7 ez7 lz7 uz7 => ?_)
        refine A_ifne C 122 dX7_leadsOn_49 (by decide) (by omega) (fun c8 => ?_) (fun c8 => ?_)
        · skip
          refine A_iinc (lv' := [(5, .int (iI (v5 + 1))), (6, .int (iI z4)), (0, .ref a), (1, .int (iI x1)), (2, .int (iI x2)), (3, .int (iI x3)), (4, .int (iI x4))]) C dX7_leadsOn_122 6 rfl (by decide) rfl ?_
          refine A_goto C 16 dX7_leadsOn_125 (by decide) ?_
          refine A_pick [2, 3, 4, 5, 6, 0] rfl ?_
          exact ih (v5 + 1) M (by omega) (by omega) W E
        · skip
          refine A_aloadn C dX7_leadsOn_52 1 rfl rfl ?_
          refine G_getR C W ha rfl rfl rfl rfl fX7_leadsOn_69 dX7_leadsOn_53 (fun b9 hb9 qb9 => ?_)
          refine A_iloadn C dX7_leadsOn_56 3 rfl rfl ?_
          refine A_iload C dX7_leadsOn_57 6 rfl ?_
          refine G_iast C W E qb9 rfl rfl (by decide) (fun _ => rfl) rfl (by omega) (by omega) (by omega) (by omega) dX7_leadsOn_59 (fun M10 eM10 WM10 EM10 => ?_)
          refine A_iloadn C dX7_leadsOn_60 3 rfl rfl ?_
          refine A_iconst C dX7_leadsOn_61 ?_
          refine A_iadd C dX7_leadsOn_62 ?_
          refine A_aloadn C dX7_leadsOn_63 1 rfl rfl ?_
          refine G_getU C WM10 ha rfl rfl rfl rfl uq_13 fX7_leadsOn_34 dX7_leadsOn_64 ?_
          refine G_getI C WM10 kd_94 rfl rfl rfl rfl rfl fX7_leadsOn_91 rfl dX7_leadsOn_67 (fun z11 ez11 lz11 uz11 => ?_)
          refine A_icmpne C 77 dX7_leadsOn_70 (by decide) (by omega) (by omega) (fun c12 => ?_) (fun c12 => ?_)
          · skip
            refine A_iconst C dX7_leadsOn_77 ?_
            refine A_istore (lv' := [(7, .int (iI 0)), (6, .int (iI z4)), (0, .ref a), (1, .int (iI x1)), (2, .int (iI x2)), (3, .int (iI x3)), (4, .int (iI x4)), (5, .int (iI v5))]) C dX7_leadsOn_78 (by decide) rfl ?_
            refine A_iload C dX7_leadsOn_80 0 rfl ?_
            refine A_ifne C 112 dX7_leadsOn_82 (by decide) (by omega) (fun c13 => ?_) (fun c13 => ?_)
            · skip
              refine A_iconst C dX7_leadsOn_112 ?_
              exact A_zret C (by omega) dX7_leadsOn_113 ⟨1, rfl, by omega, by omega, WM10, EM10⟩
            · skip
              refine A_aloadn C dX7_leadsOn_85 2 rfl rfl ?_
              refine A_iload C dX7_leadsOn_86 1 rfl ?_
              refine A_iloadn C dX7_leadsOn_88 5 rfl rfl ?_
              refine A_iload C dX7_leadsOn_89 6 rfl ?_
              refine A_callV C (n := 3) (st := []) (kX7_standsBehind ha (by omega) (by omega) (by omega)) gX7_leadsOn_X7_standsBehind rfl (by decide +kernel) ⟨by simp only [rmD]; omega, by simp only [rmD]; omega⟩ ha rfl rfl rfl rfl (Nat.le_of_ble_eq_true rfl) dX7_leadsOn_91 rfl WM10 (fun r14 M15 h16 => ?_)
              obtain ⟨z18, rfl, lz18, uz18, WM15, FM15⟩ := h16
              have EM15 := Fr.tr EM10 (FM15.mono (c2 := [12, 8, 10, 11, 17, 18, 19, 24, 25]) rfl)
              refine A_st (st' := [.int (iI z18)]) rfl ?_
              refine A_ifeq C 114 dX7_leadsOn_94 (by decide) (by omega) (fun c19 => ?_) (fun c19 => ?_)
              · skip
                refine A_aloadn C dX7_leadsOn_114 2 rfl rfl ?_
                refine G_getR C WM15 ha rfl rfl rfl rfl fX7_leadsOn_65 dX7_leadsOn_115 (fun b20 hb20 qb20 => ?_)
                refine A_iload C dX7_leadsOn_118 1 rfl ?_
                refine A_iconst C dX7_leadsOn_120 ?_
                refine G_zast C WM15 EM15 qb20 rfl rfl (by decide) (fun _ => rfl) rfl (by omega) (by omega) (by omega) dX7_leadsOn_121 (fun M21 eM21 WM21 EM21 => ?_)
                refine A_iinc (lv' := [(5, .int (iI (v5 + 1))), (7, .int (iI 0)), (6, .int (iI z4)), (0, .ref a), (1, .int (iI x1)), (2, .int (iI x2)), (3, .int (iI x3)), (4, .int (iI x4))]) C dX7_leadsOn_122 7 rfl (by decide) rfl ?_
                refine A_goto C 16 dX7_leadsOn_125 (by decide) ?_
                refine A_pick [3, 4, 5, 6, 7, 0] rfl ?_
                exact ih (v5 + 1) M21 (by omega) (by omega) WM21 EM21
              · skip
                refine A_aloadn C dX7_leadsOn_97 2 rfl rfl ?_
                refine A_iload C dX7_leadsOn_98 1 rfl ?_
                refine A_iloadn C dX7_leadsOn_100 4 rfl rfl ?_
                refine A_iconst C dX7_leadsOn_101 ?_
                refine A_iadd C dX7_leadsOn_102 ?_
                refine A_iloadn C dX7_leadsOn_103 5 rfl rfl ?_
                refine A_iload C dX7_leadsOn_104 6 rfl ?_
                refine A_callV C (n := 4) (st := []) (IH ha (by omega) (by omega) (by omega) (by omega) (by omega)) gX7_leadsOn_X7_leadsOn rfl (by decide +kernel) ⟨by simp only [rmD]; omega, by simp only [rmD]; omega⟩ ha rfl rfl rfl rfl (Nat.le_of_ble_eq_true rfl) dX7_leadsOn_106 rfl WM15 (fun r22 M23 h24 => ?_)
                obtain ⟨z26, rfl, lz26, uz26, WM23, FM23⟩ := h24
                have EM23 := Fr.tr EM15 (FM23.mono (c2 := [12, 8, 10, 11, 17, 18, 19, 24, 25]) rfl)
                refine A_st (st' := [.int (iI z26)]) rfl ?_
                refine A_ifeq C 114 dX7_leadsOn_109 (by decide) (by omega) (fun c27 => ?_) (fun c27 => ?_)
                · skip
                  refine A_aloadn C dX7_leadsOn_114 2 rfl rfl ?_
                  refine G_getR C WM23 ha rfl rfl rfl rfl fX7_leadsOn_65 dX7_leadsOn_115 (fun b28 hb28 qb28 => ?_)
                  refine A_iload C dX7_leadsOn_118 1 rfl ?_
                  refine A_iconst C dX7_leadsOn_120 ?_
                  refine G_zast C WM23 EM23 qb28 rfl rfl (by decide) (fun _ => rfl) rfl (by omega) (by omega) (by omega) dX7_leadsOn_121 (fun M29 eM29 WM29 EM29 => ?_)
                  refine A_iinc (lv' := [(5, .int (iI (v5 + 1))), (7, .int (iI 0)), (6, .int (iI z4)), (0, .ref a), (1, .int (iI x1)), (2, .int (iI x2)), (3, .int (iI x3)), (4, .int (iI x4))]) C dX7_leadsOn_122 7 rfl (by decide) rfl ?_
                  refine A_goto C 16 dX7_leadsOn_125 (by decide) ?_
                  refine A_pick [3, 4, 5, 6, 7, 0] rfl ?_
                  exact ih (v5 + 1) M29 (by omega) (by omega) WM29 EM29
                · skip
                  refine A_iconst C dX7_leadsOn_112 ?_
                  exact A_zret C (by omega) dX7_leadsOn_113 ⟨1, rfl, by omega, by omega, WM23, EM23⟩
          · skip
            refine A_iconst C dX7_leadsOn_73 ?_
            refine A_goto C 78 dX7_leadsOn_74 (by decide) ?_
            refine A_istore (lv' := [(7, .int (iI 1)), (6, .int (iI z4)), (0, .ref a), (1, .int (iI x1)), (2, .int (iI x2)), (3, .int (iI x3)), (4, .int (iI x4)), (5, .int (iI v5))]) C dX7_leadsOn_78 (by decide) rfl ?_
            refine A_iload C dX7_leadsOn_80 0 rfl ?_
            refine A_ifne C 112 dX7_leadsOn_82 (by decide) (by omega) (fun c30 => ?_) (fun c30 => ?_)
            · skip
              refine A_iconst C dX7_leadsOn_112 ?_
              exact A_zret C (by omega) dX7_leadsOn_113 ⟨1, rfl, by omega, by omega, WM10, EM10⟩
            · skip
              refine A_aloadn C dX7_leadsOn_85 2 rfl rfl ?_
              refine A_iload C dX7_leadsOn_86 1 rfl ?_
              refine A_iloadn C dX7_leadsOn_88 5 rfl rfl ?_
              refine A_iload C dX7_leadsOn_89 6 rfl ?_
              refine A_callV C (n := 3) (st := []) (kX7_standsBehind ha (by omega) (by omega) (by omega)) gX7_leadsOn_X7_standsBehind rfl (by decide +kernel) ⟨by simp only [rmD]; omega, by simp only [rmD]; omega⟩ ha rfl rfl rfl rfl (Nat.le_of_ble_eq_true rfl) dX7_leadsOn_91 rfl WM10 (fun r31 M32 h33 => ?_)
              obtain ⟨z35, rfl, lz35, uz35, WM32, FM32⟩ := h33
              have EM32 := Fr.tr EM10 (FM32.mono (c2 := [12, 8, 10, 11, 17, 18, 19, 24, 25]) rfl)
              refine A_st (st' := [.int (iI z35)]) rfl ?_
              refine A_ifeq C 114 dX7_leadsOn_94 (by decide) (by omega) (fun c36 => ?_) (fun c36 => ?_)
              · skip
                refine A_aloadn C dX7_leadsOn_114 2 rfl rfl ?_
                refine G_getR C WM32 ha rfl rfl rfl rfl fX7_leadsOn_65 dX7_leadsOn_115 (fun b37 hb37 qb37 => ?_)
                refine A_iload C dX7_leadsOn_118 1 rfl ?_
                refine A_iconst C dX7_leadsOn_120 ?_
                refine G_zast C WM32 EM32 qb37 rfl rfl (by decide) (fun _ => rfl) rfl (by omega) (by omega) (by omega) dX7_leadsOn_121 (fun M38 eM38 WM38 EM38 => ?_)
                refine A_iinc (lv' := [(5, .int (iI (v5 + 1))), (7, .int (iI 1)), (6, .int (iI z4)), (0, .ref a), (1, .int (iI x1)), (2, .int (iI x2)), (3, .int (iI x3)), (4, .int (iI x4))]) C dX7_leadsOn_122 7 rfl (by decide) rfl ?_
                refine A_goto C 16 dX7_leadsOn_125 (by decide) ?_
                refine A_pick [3, 4, 5, 6, 7, 0] rfl ?_
                exact ih (v5 + 1) M38 (by omega) (by omega) WM38 EM38
              · skip
                refine A_aloadn C dX7_leadsOn_97 2 rfl rfl ?_
                refine A_iload C dX7_leadsOn_98 1 rfl ?_
                refine A_iloadn C dX7_leadsOn_100 4 rfl rfl ?_
                refine A_iconst C dX7_leadsOn_101 ?_
                refine A_iadd C dX7_leadsOn_102 ?_
                refine A_iloadn C dX7_leadsOn_103 5 rfl rfl ?_
                refine A_iload C dX7_leadsOn_104 6 rfl ?_
                refine A_callV C (n := 4) (st := []) (IH ha (by omega) (by omega) (by omega) (by omega) (by omega)) gX7_leadsOn_X7_leadsOn rfl (by decide +kernel) ⟨by simp only [rmD]; omega, by simp only [rmD]; omega⟩ ha rfl rfl rfl rfl (Nat.le_of_ble_eq_true rfl) dX7_leadsOn_106 rfl WM32 (fun r39 M40 h41 => ?_)
                obtain ⟨z43, rfl, lz43, uz43, WM40, FM40⟩ := h41
                have EM40 := Fr.tr EM32 (FM40.mono (c2 := [12, 8, 10, 11, 17, 18, 19, 24, 25]) rfl)
                refine A_st (st' := [.int (iI z43)]) rfl ?_
                refine A_ifeq C 114 dX7_leadsOn_109 (by decide) (by omega) (fun c44 => ?_) (fun c44 => ?_)
                · skip
                  refine A_aloadn C dX7_leadsOn_114 2 rfl rfl ?_
                  refine G_getR C WM40 ha rfl rfl rfl rfl fX7_leadsOn_65 dX7_leadsOn_115 (fun b45 hb45 qb45 => ?_)
                  refine A_iload C dX7_leadsOn_118 1 rfl ?_
                  refine A_iconst C dX7_leadsOn_120 ?_
                  refine G_zast C WM40 EM40 qb45 rfl rfl (by decide) (fun _ => rfl) rfl (by omega) (by omega) (by omega) dX7_leadsOn_121 (fun M46 eM46 WM46 EM46 => ?_)
                  refine A_iinc (lv' := [(5, .int (iI (v5 + 1))), (7, .int (iI 1)), (6, .int (iI z4)), (0, .ref a), (1, .int (iI x1)), (2, .int (iI x2)), (3, .int (iI x3)), (4, .int (iI x4))]) C dX7_leadsOn_122 7 rfl (by decide) rfl ?_
                  refine A_goto C 16 dX7_leadsOn_125 (by decide) ?_
                  refine A_pick [3, 4, 5, 6, 7, 0] rfl ?_
                  exact ih (v5 + 1) M46 (by omega) (by omega) WM46 EM46
                · skip
                  refine A_iconst C dX7_leadsOn_112 ?_
                  exact A_zret C (by omega) dX7_leadsOn_113 ⟨1, rfl, by omega, by omega, WM40, EM40⟩
set_option maxHeartbeats 4000000 in
theorem kX7_leadsOn_step {k : Nat} (IH : ∀ {a : Nat} (ha : kd a = 0) {x1 : Int} {x2 : Int} {x3 : Int} {x4 : Int} (hx1 : (0 : Int) ≤ x1 ∧ x1 ≤ 63) (hx2 : (0 : Int) ≤ x2 ∧ x2 ≤ 6) (hx3 : (-2147483648 : Int) ≤ x3 ∧ x3 ≤ 2147483647) (hx4 : (-2147483648 : Int) ≤ x4 ∧ x4 ≤ 2147483647) (hy0 : (6 - x2).toNat < k), Ct yX7_leadsOn wsX7_leadsOn (5 + k) [.ref a, .int (iI x1), .int (iI x2), .int (iI x3), .int (iI x4)] (fun M => WF M) (fun M r M' => ∃ z : Int, r = some (.int (iI z)) ∧ (0 : Int) ≤ z ∧ z ≤ 1 ∧ WF M' ∧ Fr [12, 8, 10, 11, 17, 18, 19, 24, 25] M M')) {a : Nat} (ha : kd a = 0) {x1 : Int} {x2 : Int} {x3 : Int} {x4 : Int} (hx1 : (0 : Int) ≤ x1 ∧ x1 ≤ 63) (hx2 : (0 : Int) ≤ x2 ∧ x2 ≤ 6) (hx3 : (-2147483648 : Int) ≤ x3 ∧ x3 ≤ 2147483647) (hx4 : (-2147483648 : Int) ≤ x4 ∧ x4 ≤ 2147483647) (hy0 : (6 - x2).toNat < k + 1) : Ct yX7_leadsOn wsX7_leadsOn (5 + (k + 1)) [.ref a, .int (iI x1), .int (iI x2), .int (iI x3), .int (iI x4)] (fun M => WF M) (fun M r M' => ∃ z : Int, r = some (.int (iI z)) ∧ (0 : Int) ≤ z ∧ z ≤ 1 ∧ WF M' ∧ Fr [12, 8, 10, 11, 17, 18, 19, 24, 25] M M') := by
  refine Ct_of (cc := cX7_leadsOn) (nL := 8) (rt := (some .boolean)) (own := RX7) rfl (by decide) rfl (Nat.le_of_ble_eq_true rfl) ?_
  intro p l e s m args below meth c G M0 C W
  have E : Fr [12, 8, 10, 11, 17, 18, 19, 24, 25] M0 M0 := Fr.rf
  refine A_lv (lv' := [(0, .ref a), (1, .int (iI x1)), (2, .int (iI x2)), (3, .int (iI x3)), (4, .int (iI x4))]) rfl ?_
  refine A_iloadn C dX7_leadsOn_0 2 rfl rfl ?_
  refine A_aloadn C dX7_leadsOn_1 0 rfl rfl ?_
  refine G_getU C W ha rfl rfl rfl rfl uq_13 fX7_leadsOn_34 dX7_leadsOn_2 ?_
  refine G_getI C W kd_94 rfl rfl rfl rfl rfl fX7_leadsOn_91 rfl dX7_leadsOn_5 (fun z47 ez47 lz47 uz47 => ?_)
  refine A_icmplt C 13 dX7_leadsOn_8 (by decide) (by omega) (by omega) (fun c48 => ?_) (fun c48 => ?_)
  · skip
    refine A_iconst C dX7_leadsOn_13 ?_
    refine A_istore (lv' := [(5, .int (iI 0)), (0, .ref a), (1, .int (iI x1)), (2, .int (iI x2)), (3, .int (iI x3)), (4, .int (iI x4))]) C dX7_leadsOn_14 (by decide) rfl ?_
    refine A_pick [1, 2, 3, 4, 5, 0] rfl ?_
    exact lpX7_leadsOn_16 C IH ha hx1 hx2 hx3 hx4 hy0 ((7 - (0 : Int)).toNat + 1) 0 M0 (by omega) (by omega) W E
  · skip
    refine A_iconst C dX7_leadsOn_11 ?_
    exact A_zret C (by omega) dX7_leadsOn_12 ⟨1, rfl, by omega, by omega, W, E⟩
theorem kX7_leadsOn : ∀ (k : Nat), ∀ {a : Nat} (ha : kd a = 0) {x1 : Int} {x2 : Int} {x3 : Int} {x4 : Int} (hx1 : (0 : Int) ≤ x1 ∧ x1 ≤ 63) (hx2 : (0 : Int) ≤ x2 ∧ x2 ≤ 6) (hx3 : (-2147483648 : Int) ≤ x3 ∧ x3 ≤ 2147483647) (hx4 : (-2147483648 : Int) ≤ x4 ∧ x4 ≤ 2147483647) (hy0 : (6 - x2).toNat < k), Ct yX7_leadsOn wsX7_leadsOn (5 + k) [.ref a, .int (iI x1), .int (iI x2), .int (iI x3), .int (iI x4)] (fun M => WF M) (fun M r M' => ∃ z : Int, r = some (.int (iI z)) ∧ (0 : Int) ≤ z ∧ z ≤ 1 ∧ WF M' ∧ Fr [12, 8, 10, 11, 17, 18, 19, 24, 25] M M') := by
  intro k
  induction k with
  | zero => intro a ha x1 x2 x3 x4 hx1 hx2 hx3 hx4 hy0; exact absurd hy0 (Nat.not_lt_zero _)
  | succ k ih => intro a ha x1 x2 x3 x4 hx1 hx2 hx3 hx4 hy0; exact kX7_leadsOn_step ih ha hx1 hx2 hx3 hx4 hy0
