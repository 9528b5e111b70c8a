theorem uX7_standsRisen_7 : ∀ w ∈ u_ws RX7 TX7 15, w ∈ wsX7_standsRisen := by decide +kernel
theorem fX7_standsRisen_28 : Fl RX7 wsX7_standsRisen 7 2 28 RX7 TX7 15 := ⟨rfl, by decide, uX7_standsRisen_7, by decide +kernel⟩
theorem fX7_standsRisen_21 : Fl RX7 wsX7_standsRisen 7 1 21 RX7 TX7 15 := ⟨rfl, by decide, uX7_standsRisen_7, by decide +kernel⟩
theorem fX7_standsRisen_41 : Fl RX7 wsX7_standsRisen 7 4 41 RX7 TX7 15 := ⟨rfl, by decide, uX7_standsRisen_7, by decide +kernel⟩
set_option maxHeartbeats 4000000 in
theorem kX7_standsRisen  {a : Nat} (ha : kd a = 0) {x1 : Int} {x2 : Int} {x3 : Int} (hx1 : (0 : Int) ≤ x1 ∧ x1 ≤ 24) (hx2 : (-2147483648 : Int) ≤ x2 ∧ x2 ≤ 2147483647) (hx3 : (-2147483648 : Int) ≤ x3 ∧ x3 ≤ 2147483647) : Ct yX7_standsRisen wsX7_standsRisen 5 [.ref a, .int (iI x1), .int (iI x2), .int (iI x3)] (fun M => WF M) (fun M r M' => ∃ z : Int, r = some (.int (iI z)) ∧ (0 : Int) ≤ z ∧ z ≤ 1 ∧ WF M' ∧ Fr [12, 8, 10, 11, 17, 18, 19] M M') := by
  refine Ct_of (cc := cX7_standsRisen) (nL := 4) (rt := (some .boolean)) (own := RX7) rfl (by decide) rfl (Nat.le_of_ble_eq_true rfl) ?_
  intro p l e s m args below meth c G M0 C W
  have E : Fr [12, 8, 10, 11, 17, 18, 19] M0 M0 := Fr.rf
  refine A_lv (lv' := [(0, .ref a), (1, .int (iI x1)), (2, .int (iI x2)), (3, .int (iI x3))]) rfl ?_
  refine A_aloadn C dX7_standsRisen_0 0 rfl rfl ?_
  refine G_getR C W ha rfl rfl rfl rfl fX7_standsRisen_28 dX7_standsRisen_1 (fun b1 hb1 qb1 => ?_)
  refine A_aloadn C dX7_standsRisen_4 0 rfl rfl ?_
  refine G_getR C W ha rfl rfl rfl rfl fX7_standsRisen_21 dX7_standsRisen_5 (fun b2 hb2 qb2 => ?_)
  refine A_callV C (n := 1) (st := []) (kX4_copy qb1 qb2) gX7_standsRisen_X4_copy rfl (by decide +kernel) ⟨Nat.le_of_ble_eq_true rfl, Nat.le_of_ble_eq_true rfl⟩ qb1 rfl rfl rfl rfl (Nat.le_of_ble_eq_true rfl) dX7_standsRisen_8 rfl W (fun r3 M4 h5 => ?_)
  obtain ⟨rfl, WM4, FM4⟩ := h5
  have EM4 := Fr.tr E (FM4.mono (c2 := [12, 8, 10, 11, 17, 18, 19]) rfl)
  refine A_st (st' := []) rfl ?_
  refine A_aloadn C dX7_standsRisen_11 0 rfl rfl ?_
  refine G_getR C WM4 ha rfl rfl rfl rfl fX7_standsRisen_28 dX7_standsRisen_12 (fun b7 hb7 qb7 => ?_)
  refine A_iloadn C dX7_standsRisen_15 1 rfl rfl ?_
  refine A_callV C (n := 1) (st := []) (kX4_raiseWater qb7 (by omega)) gX7_standsRisen_X4_raiseWater rfl (by decide +kernel) ⟨Nat.le_of_ble_eq_true rfl, Nat.le_of_ble_eq_true rfl⟩ qb7 rfl rfl rfl rfl (Nat.le_of_ble_eq_true rfl) dX7_standsRisen_16 rfl WM4 (fun r8 M9 h10 => ?_)
  obtain ⟨rfl, WM9, FM9⟩ := h10
  have EM9 := Fr.tr EM4 (FM9.mono (c2 := [12, 8, 10, 11, 17, 18, 19]) rfl)
  refine A_st (st' := []) rfl ?_
  refine A_aloadn C dX7_standsRisen_19 0 rfl rfl ?_
  refine G_getR C WM9 ha rfl rfl rfl rfl fX7_standsRisen_28 dX7_standsRisen_20 (fun b12 hb12 qb12 => ?_)
  refine A_callV C (n := 0) (st := []) (kX4_reckon (Or.inr qb12)) gX7_standsRisen_X4_reckon rfl (by decide +kernel) ⟨Nat.le_of_ble_eq_true rfl, Nat.le_of_ble_eq_true rfl⟩ qb12 rfl rfl rfl rfl (Nat.le_of_ble_eq_true rfl) dX7_standsRisen_23 rfl WM9 (fun r13 M14 h15 => ?_)
  obtain ⟨rfl, WM14, FM14⟩ := h15
  have EM14 := Fr.tr EM9 (FM14.mono (c2 := [12, 8, 10, 11, 17, 18, 19]) rfl)
  refine A_st (st' := []) rfl ?_
  refine A_aloadn C dX7_standsRisen_26 0 rfl rfl ?_
  refine G_getR C WM14 ha rfl rfl rfl rfl fX7_standsRisen_41 dX7_standsRisen_27 (fun b17 hb17 qb17 => ?_)
  refine A_aloadn C dX7_standsRisen_30 0 rfl rfl ?_
  refine G_getR C WM14 ha rfl rfl rfl rfl fX7_standsRisen_28 dX7_standsRisen_31 (fun b18 hb18 qb18 => ?_)
  refine A_callV C (n := 1) (st := []) (kX6_study_12 qb17 qb18) gX7_standsRisen_X6_study rfl (by decide +kernel) ⟨Nat.le_of_ble_eq_true rfl, Nat.le_of_ble_eq_true rfl⟩ qb17 rfl rfl rfl rfl (Nat.le_of_ble_eq_true rfl) dX7_standsRisen_34 rfl WM14 (fun r19 M20 h21 => ?_)
  obtain ⟨rfl, WM20, FM20⟩ := h21
  have EM20 := Fr.tr EM14 (FM20.mono (c2 := [12, 8, 10, 11, 17, 18, 19]) rfl)
  refine A_st (st' := []) rfl ?_
  refine A_aloadn C dX7_standsRisen_37 0 rfl rfl ?_
  refine G_getR C WM20 ha rfl rfl rfl rfl fX7_standsRisen_41 dX7_standsRisen_38 (fun b23 hb23 qb23 => ?_)
  refine A_iloadn C dX7_standsRisen_41 2 rfl rfl ?_
  refine A_i2l C (by omega) dX7_standsRisen_42 ?_
  refine A_iloadn C dX7_standsRisen_43 3 rfl rfl ?_
  refine A_i2l C (by omega) dX7_standsRisen_44 ?_
  refine A_callV C (n := 2) (st := []) (kX6_stands qb23 (by omega) (by omega)) gX7_standsRisen_X6_stands rfl (by decide +kernel) ⟨Nat.le_of_ble_eq_true rfl, Nat.le_of_ble_eq_true rfl⟩ qb23 rfl rfl rfl rfl (Nat.le_of_ble_eq_true rfl) dX7_standsRisen_45 rfl WM20 (fun r24 M25 h26 => ?_)
  obtain ⟨z28, rfl, lz28, uz28, WM25, FM25⟩ := h26
  have EM25 := Fr.tr EM20 (FM25.mono (c2 := [12, 8, 10, 11, 17, 18, 19]) rfl)
  refine A_st (st' := [.int (iI z28)]) rfl ?_
  exact A_zret C (by omega) dX7_standsRisen_48 ⟨z28, rfl, by omega, by omega, WM25, EM25⟩

theorem uX7_rise_7 : ∀ w ∈ u_ws RX7 TX7 15, w ∈ wsX7_rise := by decide +kernel
theorem fX7_rise_21 : Fl RX7 wsX7_rise 7 1 21 RX7 TX7 15 := ⟨rfl, by decide, uX7_rise_7, by decide +kernel⟩
set_option maxHeartbeats 4000000 in
theorem lpX7_rise_23 {p : Program} {l : Launch} {e : Env} {s : State} {m : MethodId} {args : Array Value} {below : List Frame} {meth : Method} {c : Code} {G : xG} (C : Cx p s m args meth c G cX7_rise 5 RX7 wsX7_rise (some .int))  {a : Nat} (ha : kd a = 0) {x1 : Int} {x2 : Int} (hx1 : (-2147483648 : Int) ≤ x1 ∧ x1 ≤ 2147483647) (hx2 : (-2147483648 : Int) ≤ x2 ∧ x2 ≤ 2147483647) {M0 : Mem} : ∀ (n : Nat) (v3 v4 : Int) (M : Mem), (v4).toNat < n → (-1 ≤ v3 ∧ v3 ≤ 24 ∧ 0 ≤ v4 ∧ v4 ≤ 16) → WF M → Fr [12, 8, 10, 11, 17, 18, 19] M0 M → AW p l e (rmD 6) s m args below meth c G 5 (QQ G below args s ((fun M r M' => ∃ z : Int, r = some (.int (iI z)) ∧ (-2147483648 : Int) ≤ z ∧ z ≤ 2147483647 ∧ WF M' ∧ Fr [12, 8, 10, 11, 17, 18, 19] M M') M0)) M 23 [(0, .ref a), (1, .int (iI x1)), (2, .int (iI x2)), (3, .int (iI v3)), (4, .int (iI v4))] [] := by
  intro n
  induction n with
  | zero => intro v3 v4 M hn; exact absurd hn (Nat.not_lt_zero _)
  | succ n ih =>
    intro v3 v4 M hn hi W E
    refine A_iload C dX7_rise_23 4 rfl ?_
    refine A_ifle C 64 dX7_rise_25 (by decide) (by omega) (fun c1 => ?_) (fun c1 => ?_)
    · skip
      refine A_iloadn C dX7_rise_64 3 rfl rfl ?_
      exact A_iret C dX7_rise_65 ⟨v3, rfl, by omega, by omega, W, E⟩
    · skip
      refine A_iloadn C dX7_rise_28 3 rfl rfl ?_
      refine A_iload C dX7_rise_29 4 rfl ?_
      refine A_iadd C dX7_rise_31 ?_
      refine A_bipush C dX7_rise_32 (by decide) ?_
      refine A_icmpgt C 55 dX7_rise_34 (by decide) (by omega) (by omega) (fun c2 => ?_) (fun c2 => ?_)
      · skip
        refine A_iload C dX7_rise_55 4 rfl ?_
        refine A_iconst C dX7_rise_57 ?_
        refine A_idiv2 C (by omega) (by omega) dX7_rise_58 (fun z3 lz3 uz3 => ?_)
        refine A_istore (lv' := [(4, .int (iI z3)), (0, .ref a), (1, .int (iI x1)), (2, .int (iI x2)), (3, .int (iI v3))]) C dX7_rise_59 (by decide) rfl ?_
        refine A_goto C 23 dX7_rise_61 (by decide) ?_
        refine A_pick [1, 2, 3, 4, 0] rfl ?_
        exact ih v3 z3 M (by omega) (by omega) W E
      · skip
        refine A_aloadn C dX7_rise_37 0 rfl rfl ?_
        refine A_iloadn C dX7_rise_38 3 rfl rfl ?_
        refine A_iload C dX7_rise_39 4 rfl ?_
        refine A_iadd C dX7_rise_41 ?_
        refine A_iloadn C dX7_rise_42 1 rfl rfl ?_
        refine A_iloadn C dX7_rise_43 2 rfl rfl ?_
        refine A_callV C (n := 3) (st := []) (kX7_standsRisen ha (by omega) (by omega) (by omega)) gX7_rise_X7_standsRisen rfl (by decide +kernel) ⟨Nat.le_of_ble_eq_true rfl, Nat.le_of_ble_eq_true rfl⟩ ha rfl rfl rfl rfl (Nat.le_of_ble_eq_true rfl) dX7_rise_44 rfl W (fun r4 M5 h6 => ?_)
        obtain ⟨z8, rfl, lz8, uz8, WM5, FM5⟩ := h6
        have EM5 := Fr.tr E (FM5.mono (c2 := [12, 8, 10, 11, 17, 18, 19]) rfl)
        refine A_st (st' := [.int (iI z8)]) rfl ?_
        refine A_ifeq C 55 dX7_rise_47 (by decide) (by omega) (fun c9 => ?_) (fun c9 => ?_)
        · skip
          refine A_iload C dX7_rise_55 4 rfl ?_
          refine A_iconst C dX7_rise_57 ?_
          refine A_idiv2 C (by omega) (by omega) dX7_rise_58 (fun z10 lz10 uz10 => ?_)
          refine A_istore (lv' := [(4, .int (iI z10)), (0, .ref a), (1, .int (iI x1)), (2, .int (iI x2)), (3, .int (iI v3))]) C dX7_rise_59 (by decide) rfl ?_
          refine A_goto C 23 dX7_rise_61 (by decide) ?_
          refine A_pick [1, 2, 3, 4, 0] rfl ?_
          exact ih v3 z10 M5 (by omega) (by omega) WM5 EM5
        · skip
          refine A_iloadn C dX7_rise_50 3 rfl rfl ?_
          refine A_iload C dX7_rise_51 4 rfl ?_
          refine A_iadd C dX7_rise_53 ?_
          refine A_nami (fun z11 ez11 => ?_)
          refine A_istoren (lv' := [(3, .int (iI z11)), (0, .ref a), (1, .int (iI x1)), (2, .int (iI x2)), (4, .int (iI v4))]) C dX7_rise_54 rfl (by decide) rfl ?_
          refine A_iload C dX7_rise_55 4 rfl ?_
          refine A_iconst C dX7_rise_57 ?_
          refine A_idiv2 C (by omega) (by omega) dX7_rise_58 (fun z12 lz12 uz12 => ?_)
          refine A_istore (lv' := [(4, .int (iI z12)), (3, .int (iI z11)), (0, .ref a), (1, .int (iI x1)), (2, .int (iI x2))]) C dX7_rise_59 (by decide) rfl ?_
          refine A_goto C 23 dX7_rise_61 (by decide) ?_
          refine A_pick [2, 3, 4, 1, 0] rfl ?_
          exact ih z11 z12 M5 (by omega) (by omega) WM5 EM5
set_option maxHeartbeats 4000000 in
theorem kX7_rise  {a : Nat} (ha : kd a = 0) {x1 : Int} {x2 : Int} (hx1 : (-2147483648 : Int) ≤ x1 ∧ x1 ≤ 2147483647) (hx2 : (-2147483648 : Int) ≤ x2 ∧ x2 ≤ 2147483647) : Ct yX7_rise wsX7_rise 6 [.ref a, .int (iI x1), .int (iI x2)] (fun M => WF M) (fun M r M' => ∃ z : Int, r = some (.int (iI z)) ∧ (-2147483648 : Int) ≤ z ∧ z ≤ 2147483647 ∧ WF M' ∧ Fr [12, 8, 10, 11, 17, 18, 19] M M') := by
  refine Ct_of (cc := cX7_rise) (nL := 5) (rt := (some .int)) (own := RX7) rfl (by decide) rfl (Nat.le_of_ble_eq_true rfl) ?_
  intro p l e s m args below meth c G M0 C W
  have E : Fr [12, 8, 10, 11, 17, 18, 19] M0 M0 := Fr.rf
  refine A_lv (lv' := [(0, .ref a), (1, .int (iI x1)), (2, .int (iI x2))]) rfl ?_
  refine A_iloadn C dX7_rise_0 1 rfl rfl ?_
  refine A_iloadn C dX7_rise_1 2 rfl rfl ?_
  refine A_callS C (n := 2) (st := []) (kX7_isRatio  (by omega) (by omega)) gX7_rise_X7_isRatio rfl (by decide +kernel) ⟨Nat.le_of_ble_eq_true rfl, Nat.le_of_ble_eq_true rfl⟩ rfl (Nat.le_of_ble_eq_true rfl) dX7_rise_2 rfl W (fun r13 M14 h15 => ?_)
  obtain ⟨z17, rfl, lz17, uz17, WM14, FM14⟩ := h15
  have EM14 := Fr.tr E (FM14.mono (c2 := [12, 8, 10, 11, 17, 18, 19]) rfl)
  refine A_st (st' := [.int (iI z17)]) rfl ?_
  refine A_ifne C 10 dX7_rise_5 (by decide) (by omega) (fun c18 => ?_) (fun c18 => ?_)
  · skip
    refine A_aloadn C dX7_rise_10 0 rfl rfl ?_
    refine G_getR C WM14 ha rfl rfl rfl rfl fX7_rise_21 dX7_rise_11 (fun b19 hb19 qb19 => ?_)
    refine A_callV C (n := 0) (st := []) (kX4_reckon (Or.inl qb19)) gX7_rise_X4_reckon rfl (by decide +kernel) ⟨Nat.le_of_ble_eq_true rfl, Nat.le_of_ble_eq_true rfl⟩ qb19 rfl rfl rfl rfl (Nat.le_of_ble_eq_true rfl) dX7_rise_14 rfl WM14 (fun r20 M21 h22 => ?_)
    obtain ⟨rfl, WM21, FM21⟩ := h22
    have EM21 := Fr.tr EM14 (FM21.mono (c2 := [12, 8, 10, 11, 17, 18, 19]) rfl)
    refine A_st (st' := []) rfl ?_
    refine A_iconst C dX7_rise_17 ?_
    refine A_nami (fun z24 ez24 => ?_)
    refine A_istoren (lv' := [(3, .int (iI z24)), (0, .ref a), (1, .int (iI x1)), (2, .int (iI x2))]) C dX7_rise_18 rfl (by decide) rfl ?_
    refine A_bipush C dX7_rise_19 (by decide) ?_
    refine A_istore (lv' := [(4, .int (iI 16)), (3, .int (iI z24)), (0, .ref a), (1, .int (iI x1)), (2, .int (iI x2))]) C dX7_rise_21 (by decide) rfl ?_
    refine A_pick [2, 3, 4, 1, 0] rfl ?_
    exact lpX7_rise_23 C  ha hx1 hx2 (((16 : Int)).toNat + 1) z24 16 M21 (by omega) (by omega) WM21 EM21
  · skip
    refine A_iconst C dX7_rise_8 ?_
    exact A_iret C dX7_rise_9 ⟨(-1), rfl, by omega, by omega, WM14, EM14⟩

theorem uX7_act_7 : ∀ w ∈ u_ws RX7 TX7 15, w ∈ wsX7_act := by decide +kernel
theorem fX7_act_21 : Fl RX7 wsX7_act 7 1 21 RX7 TX7 15 := ⟨rfl, by decide, uX7_act_7, by decide +kernel⟩
theorem fX7_act_34 : Fl RX7 wsX7_act 7 3 34 RX7 TX7 15 := ⟨rfl, by decide, uX7_act_7, by decide +kernel⟩
set_option maxHeartbeats 4000000 in
theorem kX7_act  {a : Nat} (ha : kd a = 0) {x1 : Int} {x2 : Int} {x3 : Int} (hx1 : (-2147483648 : Int) ≤ x1 ∧ x1 ≤ 2147483647) (hx2 : (-2147483648 : Int) ≤ x2 ∧ x2 ≤ 2147483647) (hx3 : (-2147483648 : Int) ≤ x3 ∧ x3 ≤ 2147483647) : Ct yX7_act wsX7_act 3 [.ref a, .int (iI x1), .int (iI x2), .int (iI x3)] (fun M => WF M) (fun M r M' => ∃ z : Int, r = some (.int (iI z)) ∧ (-1 : Int) ≤ z ∧ z ≤ 5 ∧ WF M' ∧ Fr [13, 14, 15, 16] M M') := by
  refine Ct_of (cc := cX7_act) (nL := 5) (rt := (some .int)) (own := RX7) rfl (by decide) rfl (Nat.le_of_ble_eq_true rfl) ?_
  intro p l e s m args below meth c G M0 C W
  have E : Fr [13, 14, 15, 16] M0 M0 := Fr.rf
  refine A_lv (lv' := [(0, .ref a), (1, .int (iI x1)), (2, .int (iI x2)), (3, .int (iI x3))]) rfl ?_
  refine A_iloadn C dX7_act_0 1 rfl rfl ?_
  refine A_iconst C dX7_act_1 ?_
  refine A_iconst C dX7_act_2 ?_
  refine A_callS C (n := 3) (st := []) (kX7_within  (by omega) (by omega) (by omega)) gX7_act_X7_within rfl (by decide +kernel) ⟨Nat.le_of_ble_eq_true rfl, Nat.le_of_ble_eq_true rfl⟩ rfl (Nat.le_of_ble_eq_true rfl) dX7_act_3 rfl W (fun r1 M2 h3 => ?_)
  obtain ⟨z5, rfl, lz5, uz5, WM2, FM2, xx4⟩ := h3
  have EM2 := Fr.tr E (FM2.mono (c2 := [13, 14, 15, 16]) rfl)
  refine A_st (st' := [.int (iI z5)]) rfl ?_
  refine A_ifeq C 20 dX7_act_6 (by decide) (by omega) (fun c6 => ?_) (fun c6 => ?_)
  · skip
    refine A_iconst C dX7_act_20 ?_
    exact A_iret C dX7_act_21 ⟨(-1), rfl, by omega, by omega, WM2, EM2⟩
  · skip
    refine A_aloadn C dX7_act_9 0 rfl rfl ?_
    refine G_getR C WM2 ha rfl rfl rfl rfl fX7_act_21 dX7_act_10 (fun b7 hb7 qb7 => ?_)
    refine A_iloadn C dX7_act_13 2 rfl rfl ?_
    refine A_callV C (n := 1) (st := []) (kX4_has (Or.inl qb7) (by omega)) gX7_act_X4_has rfl (by decide +kernel) ⟨Nat.le_of_ble_eq_true rfl, Nat.le_of_ble_eq_true rfl⟩ qb7 rfl rfl rfl rfl (Nat.le_of_ble_eq_true rfl) dX7_act_14 rfl WM2 (fun r8 M9 h10 => ?_)
    obtain ⟨z12, rfl, lz12, uz12, WM9, FM9, xx11⟩ := h10
    have EM9 := Fr.tr EM2 (FM9.mono (c2 := [13, 14, 15, 16]) rfl)
    refine A_st (st' := [.int (iI z12)]) rfl ?_
    refine A_ifne C 22 dX7_act_17 (by decide) (by omega) (fun c13 => ?_) (fun c13 => ?_)
    · skip
      refine A_iloadn C dX7_act_22 1 rfl rfl ?_
      refine A_ifeq C 31 dX7_act_23 (by decide) (by omega) (fun c14 => ?_) (fun c14 => ?_)
      · skip
        refine A_iconst C dX7_act_31 ?_
        refine A_goto C 36 dX7_act_32 (by decide) ?_
        refine A_istore (lv' := [(4, .int (iI 1)), (0, .ref a), (1, .int (iI x1)), (2, .int (iI x2)), (3, .int (iI x3))]) C dX7_act_36 (by decide) rfl ?_
        refine A_iloadn C dX7_act_38 4 rfl rfl ?_
        refine A_iconst C dX7_act_39 ?_
        refine A_iload C dX7_act_40 0 rfl ?_
        refine A_ifeq C 50 dX7_act_42 (by decide) (by omega) (fun c15 => ?_) (fun c15 => ?_)
        · skip
          refine A_sipush C dX7_act_50 (by decide) ?_
          refine A_callS C (n := 3) (st := []) (kX7_within  (by omega) (by omega) (by omega)) gX7_act_X7_within rfl (by decide +kernel) ⟨Nat.le_of_ble_eq_true rfl, Nat.le_of_ble_eq_true rfl⟩ rfl (Nat.le_of_ble_eq_true rfl) dX7_act_53 rfl WM9 (fun r16 M17 h18 => ?_)
          obtain ⟨z20, rfl, lz20, uz20, WM17, FM17, xx19⟩ := h18
          have EM17 := Fr.tr EM9 (FM17.mono (c2 := [13, 14, 15, 16]) rfl)
          refine A_st (st' := [.int (iI z20)]) rfl ?_
          refine A_ifne C 61 dX7_act_56 (by decide) (by omega) (fun c21 => ?_) (fun c21 => ?_)
          · skip
            refine A_aloadn C dX7_act_61 1 rfl rfl ?_
            refine G_getR C WM17 ha rfl rfl rfl rfl fX7_act_34 dX7_act_62 (fun b22 hb22 qb22 => ?_)
            refine A_iloadn C dX7_act_65 2 rfl rfl ?_
            refine A_iloadn C dX7_act_66 3 rfl rfl ?_
            refine A_iloadn C dX7_act_67 4 rfl rfl ?_
            refine A_callV C (n := 3) (st := []) (kX0_add qb22 (by omega) (by omega) (by omega)) gX7_act_X0_add rfl (by decide +kernel) ⟨Nat.le_of_ble_eq_true rfl, Nat.le_of_ble_eq_true rfl⟩ qb22 rfl rfl rfl rfl (Nat.le_of_ble_eq_true rfl) dX7_act_68 rfl WM17 (fun r23 M24 h25 => ?_)
            obtain ⟨z27, rfl, lz27, uz27, WM24, FM24⟩ := h25
            have EM24 := Fr.tr EM17 (FM24.mono (c2 := [13, 14, 15, 16]) rfl)
            refine A_st (st' := [.int (iI z27)]) rfl ?_
            exact A_iret C dX7_act_71 ⟨z27, rfl, by omega, by omega, WM24, EM24⟩
          · skip
            refine A_iconst C dX7_act_59 ?_
            exact A_iret C dX7_act_60 ⟨(-1), rfl, by omega, by omega, WM17, EM17⟩
        · skip
          refine A_bipush C dX7_act_45 (by decide) ?_
          refine A_goto C 53 dX7_act_47 (by decide) ?_
          refine A_callS C (n := 3) (st := []) (kX7_within  (by omega) (by omega) (by omega)) gX7_act_X7_within rfl (by decide +kernel) ⟨Nat.le_of_ble_eq_true rfl, Nat.le_of_ble_eq_true rfl⟩ rfl (Nat.le_of_ble_eq_true rfl) dX7_act_53 rfl WM9 (fun r28 M29 h30 => ?_)
          obtain ⟨z32, rfl, lz32, uz32, WM29, FM29, xx31⟩ := h30
          have EM29 := Fr.tr EM9 (FM29.mono (c2 := [13, 14, 15, 16]) rfl)
          refine A_st (st' := [.int (iI z32)]) rfl ?_
          refine A_ifne C 61 dX7_act_56 (by decide) (by omega) (fun c33 => ?_) (fun c33 => ?_)
          · skip
            refine A_aloadn C dX7_act_61 1 rfl rfl ?_
            refine G_getR C WM29 ha rfl rfl rfl rfl fX7_act_34 dX7_act_62 (fun b34 hb34 qb34 => ?_)
            refine A_iloadn C dX7_act_65 2 rfl rfl ?_
            refine A_iloadn C dX7_act_66 3 rfl rfl ?_
            refine A_iloadn C dX7_act_67 4 rfl rfl ?_
            refine A_callV C (n := 3) (st := []) (kX0_add qb34 (by omega) (by omega) (by omega)) gX7_act_X0_add rfl (by decide +kernel) ⟨Nat.le_of_ble_eq_true rfl, Nat.le_of_ble_eq_true rfl⟩ qb34 rfl rfl rfl rfl (Nat.le_of_ble_eq_true rfl) dX7_act_68 rfl WM29 (fun r35 M36 h37 => ?_)
            obtain ⟨z39, rfl, lz39, uz39, WM36, FM36⟩ := h37
            have EM36 := Fr.tr EM29 (FM36.mono (c2 := [13, 14, 15, 16]) rfl)
            refine A_st (st' := [.int (iI z39)]) rfl ?_
            exact A_iret C dX7_act_71 ⟨z39, rfl, by omega, by omega, WM36, EM36⟩
          · skip
            refine A_iconst C dX7_act_59 ?_
            exact A_iret C dX7_act_60 ⟨(-1), rfl, by omega, by omega, WM29, EM29⟩
      · skip
        refine A_iloadn C dX7_act_26 1 rfl rfl ?_
        refine A_iconst C dX7_act_27 ?_
        refine A_icmpne C 35 dX7_act_28 (by decide) (by omega) (by omega) (fun c40 => ?_) (fun c40 => ?_)
        · skip
          refine A_iconst C dX7_act_35 ?_
          refine A_istore (lv' := [(4, .int (iI 0)), (0, .ref a), (1, .int (iI x1)), (2, .int (iI x2)), (3, .int (iI x3))]) C dX7_act_36 (by decide) rfl ?_
          refine A_iloadn C dX7_act_38 4 rfl rfl ?_
          refine A_iconst C dX7_act_39 ?_
          refine A_iload C dX7_act_40 0 rfl ?_
          refine A_ifeq C 50 dX7_act_42 (by decide) (by omega) (fun c41 => ?_) (fun c41 => ?_)
          · skip
            refine A_sipush C dX7_act_50 (by decide) ?_
            refine A_callS C (n := 3) (st := []) (kX7_within  (by omega) (by omega) (by omega)) gX7_act_X7_within rfl (by decide +kernel) ⟨Nat.le_of_ble_eq_true rfl, Nat.le_of_ble_eq_true rfl⟩ rfl (Nat.le_of_ble_eq_true rfl) dX7_act_53 rfl WM9 (fun r42 M43 h44 => ?_)
            obtain ⟨z46, rfl, lz46, uz46, WM43, FM43, xx45⟩ := h44
            have EM43 := Fr.tr EM9 (FM43.mono (c2 := [13, 14, 15, 16]) rfl)
            refine A_st (st' := [.int (iI z46)]) rfl ?_
            refine A_ifne C 61 dX7_act_56 (by decide) (by omega) (fun c47 => ?_) (fun c47 => ?_)
            · skip
              refine A_aloadn C dX7_act_61 1 rfl rfl ?_
              refine G_getR C WM43 ha rfl rfl rfl rfl fX7_act_34 dX7_act_62 (fun b48 hb48 qb48 => ?_)
              refine A_iloadn C dX7_act_65 2 rfl rfl ?_
              refine A_iloadn C dX7_act_66 3 rfl rfl ?_
              refine A_iloadn C dX7_act_67 4 rfl rfl ?_
              refine A_callV C (n := 3) (st := []) (kX0_add qb48 (by omega) (by omega) (by omega)) gX7_act_X0_add rfl (by decide +kernel) ⟨Nat.le_of_ble_eq_true rfl, Nat.le_of_ble_eq_true rfl⟩ qb48 rfl rfl rfl rfl (Nat.le_of_ble_eq_true rfl) dX7_act_68 rfl WM43 (fun r49 M50 h51 => ?_)
              obtain ⟨z53, rfl, lz53, uz53, WM50, FM50⟩ := h51
              have EM50 := Fr.tr EM43 (FM50.mono (c2 := [13, 14, 15, 16]) rfl)
              refine A_st (st' := [.int (iI z53)]) rfl ?_
              exact A_iret C dX7_act_71 ⟨z53, rfl, by omega, by omega, WM50, EM50⟩
            · skip
              refine A_iconst C dX7_act_59 ?_
              exact A_iret C dX7_act_60 ⟨(-1), rfl, by omega, by omega, WM43, EM43⟩
          · skip
            refine A_bipush C dX7_act_45 (by decide) ?_
            refine A_goto C 53 dX7_act_47 (by decide) ?_
            refine A_callS C (n := 3) (st := []) (kX7_within  (by omega) (by omega) (by omega)) gX7_act_X7_within rfl (by decide +kernel) ⟨Nat.le_of_ble_eq_true rfl, Nat.le_of_ble_eq_true rfl⟩ rfl (Nat.le_of_ble_eq_true rfl) dX7_act_53 rfl WM9 (fun r54 M55 h56 => ?_)
            obtain ⟨z58, rfl, lz58, uz58, WM55, FM55, xx57⟩ := h56
            have EM55 := Fr.tr EM9 (FM55.mono (c2 := [13, 14, 15, 16]) rfl)
            refine A_st (st' := [.int (iI z58)]) rfl ?_
            refine A_ifne C 61 dX7_act_56 (by decide) (by omega) (fun c59 => ?_) (fun c59 => ?_)
            · skip
              refine A_aloadn C dX7_act_61 1 rfl rfl ?_
              refine G_getR C WM55 ha rfl rfl rfl rfl fX7_act_34 dX7_act_62 (fun b60 hb60 qb60 => ?_)
              refine A_iloadn C dX7_act_65 2 rfl rfl ?_
              refine A_iloadn C dX7_act_66 3 rfl rfl ?_
              refine A_iloadn C dX7_act_67 4 rfl rfl ?_
              refine A_callV C (n := 3) (st := []) (kX0_add qb60 (by omega) (by omega) (by omega)) gX7_act_X0_add rfl (by decide +kernel) ⟨Nat.le_of_ble_eq_true rfl, Nat.le_of_ble_eq_true rfl⟩ qb60 rfl rfl rfl rfl (Nat.le_of_ble_eq_true rfl) dX7_act_68 rfl WM55 (fun r61 M62 h63 => ?_)
              obtain ⟨z65, rfl, lz65, uz65, WM62, FM62⟩ := h63
              have EM62 := Fr.tr EM55 (FM62.mono (c2 := [13, 14, 15, 16]) rfl)
              refine A_st (st' := [.int (iI z65)]) rfl ?_
              exact A_iret C dX7_act_71 ⟨z65, rfl, by omega, by omega, WM62, EM62⟩
            · skip
              refine A_iconst C dX7_act_59 ?_
              exact A_iret C dX7_act_60 ⟨(-1), rfl, by omega, by omega, WM55, EM55⟩
        · skip
          refine A_iconst C dX7_act_31 ?_
          refine A_goto C 36 dX7_act_32 (by decide) ?_
          refine A_istore (lv' := [(4, .int (iI 1)), (0, .ref a), (1, .int (iI x1)), (2, .int (iI x2)), (3, .int (iI x3))]) C dX7_act_36 (by decide) rfl ?_
          refine A_iloadn C dX7_act_38 4 rfl rfl ?_
          refine A_iconst C dX7_act_39 ?_
          refine A_iload C dX7_act_40 0 rfl ?_
          refine A_ifeq C 50 dX7_act_42 (by decide) (by omega) (fun c66 => ?_) (fun c66 => ?_)
          · skip
            refine A_sipush C dX7_act_50 (by decide) ?_
            refine A_callS C (n := 3) (st := []) (kX7_within  (by omega) (by omega) (by omega)) gX7_act_X7_within rfl (by decide +kernel) ⟨Nat.le_of_ble_eq_true rfl, Nat.le_of_ble_eq_true rfl⟩ rfl (Nat.le_of_ble_eq_true rfl) dX7_act_53 rfl WM9 (fun r67 M68 h69 => ?_)
            obtain ⟨z71, rfl, lz71, uz71, WM68, FM68, xx70⟩ := h69
            have EM68 := Fr.tr EM9 (FM68.mono (c2 := [13, 14, 15, 16]) rfl)
            refine A_st (st' := [.int (iI z71)]) rfl ?_
            refine A_ifne C 61 dX7_act_56 (by decide) (by omega) (fun c72 => ?_) (fun c72 => ?_)
            · skip
              refine A_aloadn C dX7_act_61 1 rfl rfl ?_
              refine G_getR C WM68 ha rfl rfl rfl rfl fX7_act_34 dX7_act_62 (fun b73 hb73 qb73 => ?_)
              refine A_iloadn C dX7_act_65 2 rfl rfl ?_
              refine A_iloadn C dX7_act_66 3 rfl rfl ?_
              refine A_iloadn C dX7_act_67 4 rfl rfl ?_
              refine A_callV C (n := 3) (st := []) (kX0_add qb73 (by omega) (by omega) (by omega)) gX7_act_X0_add rfl (by decide +kernel) ⟨Nat.le_of_ble_eq_true rfl, Nat.le_of_ble_eq_true rfl⟩ qb73 rfl rfl rfl rfl (Nat.le_of_ble_eq_true rfl) dX7_act_68 rfl WM68 (fun r74 M75 h76 => ?_)
              obtain ⟨z78, rfl, lz78, uz78, WM75, FM75⟩ := h76
              have EM75 := Fr.tr EM68 (FM75.mono (c2 := [13, 14, 15, 16]) rfl)
              refine A_st (st' := [.int (iI z78)]) rfl ?_
              exact A_iret C dX7_act_71 ⟨z78, rfl, by omega, by omega, WM75, EM75⟩
            · skip
              refine A_iconst C dX7_act_59 ?_
              exact A_iret C dX7_act_60 ⟨(-1), rfl, by omega, by omega, WM68, EM68⟩
          · skip
            refine A_bipush C dX7_act_45 (by decide) ?_
            refine A_goto C 53 dX7_act_47 (by decide) ?_
            refine A_callS C (n := 3) (st := []) (kX7_within  (by omega) (by omega) (by omega)) gX7_act_X7_within rfl (by decide +kernel) ⟨Nat.le_of_ble_eq_true rfl, Nat.le_of_ble_eq_true rfl⟩ rfl (Nat.le_of_ble_eq_true rfl) dX7_act_53 rfl WM9 (fun r79 M80 h81 => ?_)
            obtain ⟨z83, rfl, lz83, uz83, WM80, FM80, xx82⟩ := h81
            have EM80 := Fr.tr EM9 (FM80.mono (c2 := [13, 14, 15, 16]) rfl)
            refine A_st (st' := [.int (iI z83)]) rfl ?_
            refine A_ifne C 61 dX7_act_56 (by decide) (by omega) (fun c84 => ?_) (fun c84 => ?_)
            · skip
              refine A_aloadn C dX7_act_61 1 rfl rfl ?_
              refine G_getR C WM80 ha rfl rfl rfl rfl fX7_act_34 dX7_act_62 (fun b85 hb85 qb85 => ?_)
              refine A_iloadn C dX7_act_65 2 rfl rfl ?_
              refine A_iloadn C dX7_act_66 3 rfl rfl ?_
              refine A_iloadn C dX7_act_67 4 rfl rfl ?_
              refine A_callV C (n := 3) (st := []) (kX0_add qb85 (by omega) (by omega) (by omega)) gX7_act_X0_add rfl (by decide +kernel) ⟨Nat.le_of_ble_eq_true rfl, Nat.le_of_ble_eq_true rfl⟩ qb85 rfl rfl rfl rfl (Nat.le_of_ble_eq_true rfl) dX7_act_68 rfl WM80 (fun r86 M87 h88 => ?_)
              obtain ⟨z90, rfl, lz90, uz90, WM87, FM87⟩ := h88
              have EM87 := Fr.tr EM80 (FM87.mono (c2 := [13, 14, 15, 16]) rfl)
              refine A_st (st' := [.int (iI z90)]) rfl ?_
              exact A_iret C dX7_act_71 ⟨z90, rfl, by omega, by omega, WM87, EM87⟩
            · skip
              refine A_iconst C dX7_act_59 ?_
              exact A_iret C dX7_act_60 ⟨(-1), rfl, by omega, by omega, WM80, EM80⟩
    · skip
      refine A_iconst C dX7_act_20 ?_
      exact A_iret C dX7_act_21 ⟨(-1), rfl, by omega, by omega, WM9, EM9⟩

theorem uX7_perform_7 : ∀ w ∈ u_ws RX7 TX7 15, w ∈ wsX7_perform := by decide +kernel
theorem fX7_perform_34 : Fl RX7 wsX7_perform 7 3 34 RX7 TX7 15 := ⟨rfl, by decide, uX7_perform_7, by decide +kernel⟩
theorem fX7_perform_21 : Fl RX7 wsX7_perform 7 1 21 RX7 TX7 15 := ⟨rfl, by decide, uX7_perform_7, by decide +kernel⟩
theorem fX7_perform_80 : Fl RX7 wsX7_perform 7 13 80 RX7 TX7 15 := ⟨rfl, by decide, uX7_perform_7, by decide +kernel⟩
set_option maxHeartbeats 4000000 in
theorem kX7_perform  {a : Nat} (ha : kd a = 0) {x1 : Int} (hx1 : (-2147483648 : Int) ≤ x1 ∧ x1 ≤ 2147483647) : Ct yX7_perform wsX7_perform 4 [.ref a, .int (iI x1)] (fun M => WF M) (fun M r M' => ∃ z : Int, r = some (.int (iI z)) ∧ (0 : Int) ≤ z ∧ z ≤ 1 ∧ WF M' ∧ Fr [0, 8] M M') := by
  refine Ct_of (cc := cX7_perform) (nL := 2) (rt := (some .boolean)) (own := RX7) rfl (by decide) rfl (Nat.le_of_ble_eq_true rfl) ?_
  intro p l e s m args below meth c G M0 C W
  have E : Fr [0, 8] M0 M0 := Fr.rf
  refine A_lv (lv' := [(0, .ref a), (1, .int (iI x1))]) rfl ?_
  refine A_aloadn C dX7_perform_0 0 rfl rfl ?_
  refine G_getR C W ha rfl rfl rfl rfl fX7_perform_34 dX7_perform_1 (fun b1 hb1 qb1 => ?_)
  refine A_iloadn C dX7_perform_4 1 rfl rfl ?_
  refine A_callV C (n := 1) (st := []) (kX0_has qb1 (by omega)) gX7_perform_X0_has rfl (by decide +kernel) ⟨Nat.le_of_ble_eq_true rfl, Nat.le_of_ble_eq_true rfl⟩ qb1 rfl rfl rfl rfl (Nat.le_of_ble_eq_true rfl) dX7_perform_5 rfl W (fun r2 M3 h4 => ?_)
  obtain ⟨z6, rfl, lz6, uz6, WM3, FM3, xx5⟩ := h4
  have EM3 := Fr.tr E (FM3.mono (c2 := [0, 8]) rfl)
  refine A_st (st' := [.int (iI z6)]) rfl ?_
  refine A_ifne C 13 dX7_perform_8 (by decide) (by omega) (fun c7 => ?_) (fun c7 => ?_)
  · skip
    refine A_aloadn C dX7_perform_13 0 rfl rfl ?_
    refine G_getR C WM3 ha rfl rfl rfl rfl fX7_perform_34 dX7_perform_14 (fun b8 hb8 qb8 => ?_)
    refine A_aloadn C dX7_perform_17 0 rfl rfl ?_
    refine G_getR C WM3 ha rfl rfl rfl rfl fX7_perform_21 dX7_perform_18 (fun b9 hb9 qb9 => ?_)
    refine A_iloadn C dX7_perform_21 1 rfl rfl ?_
    refine A_callV C (n := 2) (st := []) (kX0_doOn qb8 (Or.inl qb9) (by omega)) gX7_perform_X0_doOn rfl (by decide +kernel) ⟨Nat.le_of_ble_eq_true rfl, Nat.le_of_ble_eq_true rfl⟩ qb8 rfl rfl rfl rfl (Nat.le_of_ble_eq_true rfl) dX7_perform_22 rfl WM3 (fun r10 M11 h12 => ?_)
    obtain ⟨rfl, WM11, FM11⟩ := h12
    have EM11 := Fr.tr EM3 (FM11.mono (c2 := [0, 8]) rfl)
    refine A_st (st' := []) rfl ?_
    refine A_aloadn C dX7_perform_25 0 rfl rfl ?_
    refine A_iconst C dX7_perform_26 ?_
    refine G_putI C WM11 EM11 ha rfl rfl rfl rfl rfl fX7_perform_80 ⟨tyX7_ok, nmX7, rfl, by decide⟩ (Or.inr ⟨rfl, by omega⟩) rfl rfl (by omega) (by omega) dX7_perform_27 (fun M14 eM14 WM14 EM14 => ?_)
    refine A_iconst C dX7_perform_30 ?_
    exact A_zret C (by omega) dX7_perform_31 ⟨1, rfl, by omega, by omega, WM14, EM14⟩
  · skip
    refine A_iconst C dX7_perform_11 ?_
    exact A_zret C (by omega) dX7_perform_12 ⟨0, rfl, by omega, by omega, WM3, EM3⟩

theorem uX7_standsBehind_7 : ∀ w ∈ u_ws RX7 TX7 15, w ∈ wsX7_standsBehind := by decide +kernel
theorem uX7_standsBehind_0 : ∀ w ∈ u_ws RX0 TX0 4, w ∈ wsX7_standsBehind := by decide +kernel
theorem fX7_standsBehind_34 : Fl RX7 wsX7_standsBehind 7 3 34 RX7 TX7 15 := ⟨rfl, by decide, uX7_standsBehind_7, by decide +kernel⟩
theorem fX7_standsBehind_91 : Fl RX7 wsX7_standsBehind 0 0 91 RX0 TX0 4 := ⟨rfl, by decide, uX7_standsBehind_0, by decide +kernel⟩
theorem fX7_standsBehind_28 : Fl RX7 wsX7_standsBehind 7 2 28 RX7 TX7 15 := ⟨rfl, by decide, uX7_standsBehind_7, by decide +kernel⟩
theorem fX7_standsBehind_41 : Fl RX7 wsX7_standsBehind 7 4 41 RX7 TX7 15 := ⟨rfl, by decide, uX7_standsBehind_7, by decide +kernel⟩
theorem fX7_standsBehind_21 : Fl RX7 wsX7_standsBehind 7 1 21 RX7 TX7 15 := ⟨rfl, by decide, uX7_standsBehind_7, by decide +kernel⟩
set_option maxHeartbeats 4000000 in
theorem lpX7_standsBehind_14 {p : Program} {l : Launch} {e : Env} {s : State} {m : MethodId} {args : Array Value} {below : List Frame} {meth : Method} {c : Code} {G : xG} (C : Cx p s m args meth c G cX7_standsBehind 5 RX7 wsX7_standsBehind (some .boolean))  {a : Nat} (ha : kd a = 0) {x1 : Int} {x2 : Int} {x3 : Int} (hx1 : (0 : Int) ≤ x1 ∧ x1 ≤ 63) (hx2 : (-2147483648 : Int) ≤ x2 ∧ x2 ≤ 2147483647) (hx3 : (-2147483648 : Int) ≤ x3 ∧ x3 ≤ 2147483647) {M0 : Mem} : ∀ (n : Nat) (v4 : Int) (M : Mem), (7 - v4).toNat < n → (0 ≤ v4 ∧ v4 ≤ 6) → WF M → Fr [12, 8, 10, 11, 17, 18, 19] M0 M → AW p l e (rmD 5) s m args below meth c G 5 (QQ G below args s ((fun M r M' => ∃ z : Int, r = some (.int (iI z)) ∧ (0 : Int) ≤ z ∧ z ≤ 1 ∧ WF M' ∧ Fr [12, 8, 10, 11, 17, 18, 19] M M') M0)) M 14 [(0, .ref a), (1, .int (iI x1)), (2, .int (iI x2)), (3, .int (iI x3)), (4, .int (iI v4))] [] := by
  intro n
  induction n with
  | zero => intro v4 M hn; exact absurd hn (Nat.not_lt_zero _)
  | succ n ih =>
    intro v4 M hn hi W E
    refine A_iload C dX7_standsBehind_14 4 rfl ?_
    refine A_aloadn C dX7_standsBehind_16 0 rfl rfl ?_
    refine G_getR C W ha rfl rfl rfl rfl fX7_standsBehind_34 dX7_standsBehind_17 (fun b1 hb1 qb1 => ?_)
    refine G_getI C W qb1 rfl rfl rfl rfl rfl fX7_standsBehind_91 rfl dX7_standsBehind_20 (fun z2 ez2 lz2 uz2 => ?_)
    refine A_icmpge C 54 dX7_standsBehind_23 (by decide) (by omega) (by omega) (fun c3 => ?_) (fun c3 => ?_)
    · skip
      refine A_aloadn C dX7_standsBehind_54 0 rfl rfl ?_
      refine G_getR C W ha rfl rfl rfl rfl fX7_standsBehind_28 dX7_standsBehind_55 (fun b4 hb4 qb4 => ?_)
      refine A_callV C (n := 0) (st := []) (kX4_reckon (Or.inr qb4)) gX7_standsBehind_X4_reckon rfl (by decide +kernel) ⟨Nat.le_of_ble_eq_true rfl, Nat.le_of_ble_eq_true rfl⟩ qb4 rfl rfl rfl rfl (Nat.le_of_ble_eq_true rfl) dX7_standsBehind_58 rfl W (fun r5 M6 h7 => ?_)
      obtain ⟨rfl, WM6, FM6⟩ := h7
      have EM6 := Fr.tr E (FM6.mono (c2 := [12, 8, 10, 11, 17, 18, 19]) rfl)
      refine A_st (st' := []) rfl ?_
      refine A_aloadn C dX7_standsBehind_61 0 rfl rfl ?_
      refine G_getR C WM6 ha rfl rfl rfl rfl fX7_standsBehind_41 dX7_standsBehind_62 (fun b9 hb9 qb9 => ?_)
      refine A_aloadn C dX7_standsBehind_65 0 rfl rfl ?_
      refine G_getR C WM6 ha rfl rfl rfl rfl fX7_standsBehind_28 dX7_standsBehind_66 (fun b10 hb10 qb10 => ?_)
      refine A_callV C (n := 1) (st := []) (kX6_study_12 qb9 qb10) gX7_standsBehind_X6_study rfl (by decide +kernel) ⟨Nat.le_of_ble_eq_true rfl, Nat.le_of_ble_eq_true rfl⟩ qb9 rfl rfl rfl rfl (Nat.le_of_ble_eq_true rfl) dX7_standsBehind_69 rfl WM6 (fun r11 M12 h13 => ?_)
      obtain ⟨rfl, WM12, FM12⟩ := h13
      have EM12 := Fr.tr EM6 (FM12.mono (c2 := [12, 8, 10, 11, 17, 18, 19]) rfl)
      refine A_st (st' := []) rfl ?_
      refine A_aloadn C dX7_standsBehind_72 0 rfl rfl ?_
      refine G_getR C WM12 ha rfl rfl rfl rfl fX7_standsBehind_41 dX7_standsBehind_73 (fun b15 hb15 qb15 => ?_)
      refine A_iloadn C dX7_standsBehind_76 2 rfl rfl ?_
      refine A_i2l C (by omega) dX7_standsBehind_77 ?_
      refine A_iloadn C dX7_standsBehind_78 3 rfl rfl ?_
      refine A_i2l C (by omega) dX7_standsBehind_79 ?_
      refine A_callV C (n := 2) (st := []) (kX6_stands qb15 (by omega) (by omega)) gX7_standsBehind_X6_stands rfl (by decide +kernel) ⟨Nat.le_of_ble_eq_true rfl, Nat.le_of_ble_eq_true rfl⟩ qb15 rfl rfl rfl rfl (Nat.le_of_ble_eq_true rfl) dX7_standsBehind_80 rfl WM12 (fun r16 M17 h18 => ?_)
      obtain ⟨z20, rfl, lz20, uz20, WM17, FM17⟩ := h18
      have EM17 := Fr.tr EM12 (FM17.mono (c2 := [12, 8, 10, 11, 17, 18, 19]) rfl)
      refine A_st (st' := [.int (iI z20)]) rfl ?_
      exact A_zret C (by omega) dX7_standsBehind_83 ⟨z20, rfl, by omega, by omega, WM17, EM17⟩
    · skip
      refine A_iloadn C dX7_standsBehind_26 1 rfl rfl ?_
      refine A_iconst C dX7_standsBehind_27 ?_
      refine A_iload C dX7_standsBehind_28 4 rfl ?_
      refine A_shl1 C (by omega) (by omega) dX7_standsBehind_30 (fun z21 lz21 uz21 wz21 => ?_)
      refine A_iandH C dX7_standsBehind_31 (fun z22 rz22 => ?_)
      refine A_ifeq C 48 dX7_standsBehind_32 (by decide) (by omega) (fun c23 => ?_) (fun c23 => ?_)
      · skip
        refine A_iinc (lv' := [(4, .int (iI (v4 + 1))), (0, .ref a), (1, .int (iI x1)), (2, .int (iI x2)), (3, .int (iI x3))]) C dX7_standsBehind_48 4 rfl (by decide) rfl ?_
        refine A_goto C 14 dX7_standsBehind_51 (by decide) ?_
        refine A_pick [1, 2, 3, 4, 0] rfl ?_
        exact ih (v4 + 1) M (by omega) (by omega) W E
      · skip
        refine A_aloadn C dX7_standsBehind_35 0 rfl rfl ?_
        refine G_getR C W ha rfl rfl rfl rfl fX7_standsBehind_34 dX7_standsBehind_36 (fun b24 hb24 qb24 => ?_)
        refine A_aloadn C dX7_standsBehind_39 0 rfl rfl ?_
        refine G_getR C W ha rfl rfl rfl rfl fX7_standsBehind_28 dX7_standsBehind_40 (fun b25 hb25 qb25 => ?_)
        refine A_iload C dX7_standsBehind_43 4 rfl ?_
        refine A_callV C (n := 2) (st := []) (kX0_doOn qb24 (Or.inr qb25) (by omega)) gX7_standsBehind_X0_doOn rfl (by decide +kernel) ⟨Nat.le_of_ble_eq_true rfl, Nat.le_of_ble_eq_true rfl⟩ qb24 rfl rfl rfl rfl (Nat.le_of_ble_eq_true rfl) dX7_standsBehind_45 rfl W (fun r26 M27 h28 => ?_)
        obtain ⟨rfl, WM27, FM27⟩ := h28
        have EM27 := Fr.tr E (FM27.mono (c2 := [12, 8, 10, 11, 17, 18, 19]) rfl)
        refine A_st (st' := []) rfl ?_
        refine A_iinc (lv' := [(4, .int (iI (v4 + 1))), (0, .ref a), (1, .int (iI x1)), (2, .int (iI x2)), (3, .int (iI x3))]) C dX7_standsBehind_48 4 rfl (by decide) rfl ?_
        refine A_goto C 14 dX7_standsBehind_51 (by decide) ?_
        refine A_pick [1, 2, 3, 4, 0] rfl ?_
        exact ih (v4 + 1) M27 (by omega) (by omega) WM27 EM27
set_option maxHeartbeats 4000000 in
theorem kX7_standsBehind  {a : Nat} (ha : kd a = 0) {x1 : Int} {x2 : Int} {x3 : Int} (hx1 : (0 : Int) ≤ x1 ∧ x1 ≤ 63) (hx2 : (-2147483648 : Int) ≤ x2 ∧ x2 ≤ 2147483647) (hx3 : (-2147483648 : Int) ≤ x3 ∧ x3 ≤ 2147483647) : Ct yX7_standsBehind wsX7_standsBehind 5 [.ref a, .int (iI x1), .int (iI x2), .int (iI x3)] (fun M => WF M) (fun M r M' => ∃ z : Int, r = some (.int (iI z)) ∧ (0 : Int) ≤ z ∧ z ≤ 1 ∧ WF M' ∧ Fr [12, 8, 10, 11, 17, 18, 19] M M') := by
  refine Ct_of (cc := cX7_standsBehind) (nL := 5) (rt := (some .boolean)) (own := RX7) rfl (by decide) rfl (Nat.le_of_ble_eq_true rfl) ?_
  intro p l e s m args below meth c G M0 C W
  have E : Fr [12, 8, 10, 11, 17, 18, 19] M0 M0 := Fr.rf
  refine A_lv (lv' := [(0, .ref a), (1, .int (iI x1)), (2, .int (iI x2)), (3, .int (iI x3))]) rfl ?_
  refine A_aloadn C dX7_standsBehind_0 0 rfl rfl ?_
  refine G_getR C W ha rfl rfl rfl rfl fX7_standsBehind_28 dX7_standsBehind_1 (fun b30 hb30 qb30 => ?_)
  refine A_aloadn C dX7_standsBehind_4 0 rfl rfl ?_
  refine G_getR C W ha rfl rfl rfl rfl fX7_standsBehind_21 dX7_standsBehind_5 (fun b31 hb31 qb31 => ?_)
  refine A_callV C (n := 1) (st := []) (kX4_copy qb30 qb31) gX7_standsBehind_X4_copy rfl (by decide +kernel) ⟨Nat.le_of_ble_eq_true rfl, Nat.le_of_ble_eq_true rfl⟩ qb30 rfl rfl rfl rfl (Nat.le_of_ble_eq_true rfl) dX7_standsBehind_8 rfl W (fun r32 M33 h34 => ?_)
  obtain ⟨rfl, WM33, FM33⟩ := h34
  have EM33 := Fr.tr E (FM33.mono (c2 := [12, 8, 10, 11, 17, 18, 19]) rfl)
  refine A_st (st' := []) rfl ?_
  refine A_iconst C dX7_standsBehind_11 ?_
  refine A_istore (lv' := [(4, .int (iI 0)), (0, .ref a), (1, .int (iI x1)), (2, .int (iI x2)), (3, .int (iI x3))]) C dX7_standsBehind_12 (by decide) rfl ?_
  refine A_pick [1, 2, 3, 4, 0] rfl ?_
  exact lpX7_standsBehind_14 C  ha hx1 hx2 hx3 ((7 - (0 : Int)).toNat + 1) 0 M33 (by omega) (by omega) WM33 EM33

theorem uX7_leadsOn_7 : ∀ w ∈ u_ws RX7 TX7 15, w ∈ wsX7_leadsOn := by decide +kernel
theorem uX7_leadsOn_0 : ∀ w ∈ u_ws RX0 TX0 4, w ∈ wsX7_leadsOn := by decide +kernel
theorem fX7_leadsOn_34 : Fl RX7 wsX7_leadsOn 7 3 34 RX7 TX7 15 := ⟨rfl, by decide, uX7_leadsOn_7, by decide +kernel⟩
theorem fX7_leadsOn_91 : Fl RX7 wsX7_leadsOn 0 0 91 RX0 TX0 4 := ⟨rfl, by decide, uX7_leadsOn_0, by decide +kernel⟩
theorem fX7_leadsOn_65 : Fl RX7 wsX7_leadsOn 7 9 65 RX7 TX7 15 := ⟨rfl, by decide, uX7_leadsOn_7, by decide +kernel⟩
theorem fX7_leadsOn_69 : Fl RX7 wsX7_leadsOn 7 10 69 RX7 TX7 15 := ⟨rfl, by decide, uX7_leadsOn_7, by decide +kernel⟩
set_option maxHeartbeats 4000000 in
theorem lpX7_leadsOn_16 {p : Program} {l : Launch} {e : Env} {s : State} {m : MethodId} {args : Array Value} {below : List Frame} {meth : Method} {c : Code} {G : xG} (C : Cx p s m args meth c G cX7_leadsOn 8 RX7 wsX7_leadsOn (some .boolean)) {k : Nat} (IH : ∀ {a : Nat} (ha : kd a = 0) {x1 : Int} {x2 : Int} {x3 : Int} {x4 : Int} (hx1 : (0 : Int) ≤ x1 ∧ x1 ≤ 63) (hx2 : (0 : Int) ≤ x2 ∧ x2 ≤ 6) (hx3 : (-2147483648 : Int) ≤ x3 ∧ x3 ≤ 2147483647) (hx4 : (-2147483648 : Int) ≤ x4 ∧ x4 ≤ 2147483647) (hy0 : (6 - x2).toNat < k), Ct yX7_leadsOn wsX7_leadsOn (5 + k) [.ref a, .int (iI x1), .int (iI x2), .int (iI x3), .int (iI x4)] (fun M => WF M) (fun M r M' => ∃ z : Int, r = some (.int (iI z)) ∧ (0 : Int) ≤ z ∧ z ≤ 1 ∧ WF M' ∧ Fr [12, 8, 10, 11, 17, 18, 19, 24, 25] M M')) {a : Nat} (ha : kd a = 0) {x1 : Int} {x2 : Int} {x3 : Int} {x4 : Int} (hx1 : (0 : Int) ≤ x1 ∧ x1 ≤ 63) (hx2 : (0 : Int) ≤ x2 ∧ x2 ≤ 6) (hx3 : (-2147483648 : Int) ≤ x3 ∧ x3 ≤ 2147483647) (hx4 : (-2147483648 : Int) ≤ x4 ∧ x4 ≤ 2147483647) (hy0 : (6 - x2).toNat < k + 1) {M0 : Mem} : ∀ (n : Nat) (v5 : Int) (M : Mem), (7 - v5).toNat < n → (0 ≤ v5 ∧ v5 ≤ 6 ∧ x2 ≤ 5) → WF M → Fr [12, 8, 10, 11, 17, 18, 19, 24, 25] M0 M → AW p l e (rmD (5 + (k + 1))) s m args below meth c G 8 (QQ G below args s ((fun M r M' => ∃ z : Int, r = some (.int (iI z)) ∧ (0 : Int) ≤ z ∧ z ≤ 1 ∧ WF M' ∧ Fr [12, 8, 10, 11, 17, 18, 19, 24, 25] M M') M0)) M 16 [(0, .ref a), (1, .int (iI x1)), (2, .int (iI x2)), (3, .int (iI x3)), (4, .int (iI x4)), (5, .int (iI v5))] [] := by
  intro n
  induction n with
  | zero => intro v5 M hn; exact absurd hn (Nat.not_lt_zero _)
  | succ n ih =>
    intro v5 M hn hi W E
    refine A_iload C dX7_leadsOn_16 5 rfl ?_
    refine A_aloadn C dX7_leadsOn_18 0 rfl rfl ?_
    refine G_getR C W ha rfl rfl rfl rfl fX7_leadsOn_34 dX7_leadsOn_19 (fun b1 hb1 qb1 => ?_)
    refine G_getI C W qb1 rfl rfl rfl rfl rfl fX7_leadsOn_91 rfl dX7_leadsOn_22 (fun z2 ez2 lz2 uz2 => ?_)
    refine A_icmpge C 128 dX7_leadsOn_25 (by decide) (by omega) (by omega) (fun c3 => ?_) (fun c3 => ?_)
    · skip
      refine A_iconst C dX7_leadsOn_128 ?_
      exact A_zret C (by omega) dX7_leadsOn_129 ⟨0, rfl, by omega, by omega, W, E⟩
    · skip
      refine A_iloadn C dX7_leadsOn_28 1 rfl rfl ?_
      refine A_iconst C dX7_leadsOn_29 ?_
      refine A_iload C dX7_leadsOn_30 5 rfl ?_
      refine A_shl1 C (by omega) (by omega) dX7_leadsOn_32 (fun z4 lz4 uz4 wz4 => ?_)
      refine A_ior C (by omega) (by omega) (by omega) (by omega) dX7_leadsOn_33 (fun z5 lz5 uz5 => ?_)
      refine A_istore (lv' := [(6, .int (iI z5)), (0, .ref a), (1, .int (iI x1)), (2, .int (iI x2)), (3, .int (iI x3)), (4, .int (iI x4)), (5, .int (iI v5))]) C dX7_leadsOn_34 (by decide) rfl ?_
      refine A_iload C dX7_leadsOn_36 0 rfl ?_
      refine A_iloadn C dX7_leadsOn_38 2 rfl rfl ?_
      refine A_icmpeq C 122 dX7_leadsOn_39 (by decide) (by omega) (by omega) (fun c6 => ?_) (fun c6 => ?_)
      · skip
        refine A_iinc (lv' := [(5, .int (iI (v5 + 1))), (6, .int (iI z5)), (0, .ref a), (1, .int (iI x1)), (2, .int (iI x2)), (3, .int (iI x3)), (4, .int (iI x4))]) C dX7_leadsOn_122 6 rfl (by decide) rfl ?_
        refine A_goto C 16 dX7_leadsOn_125 (by decide) ?_
        refine A_pick [2, 3, 4, 5, 6, 0] rfl ?_
        exact ih (v5 + 1) M (by omega) (by omega) W E
      · skip
        refine A_aloadn C dX7_leadsOn_42 1 rfl rfl ?_
        refine G_getR C W ha rfl rfl rfl rfl fX7_leadsOn_65 dX7_leadsOn_43 (fun b7 hb7 qb7 => ?_)
        refine A_iload C dX7_leadsOn_46 0 rfl ?_
        refine G_zald C W qb7 rfl rfl (by decide) (fun _ => rfl) (by omega) (by omega) dX7_leadsOn_48 (fun z8 ez8 lz8 uz8 => ?_)
        refine A_ifne C 122 dX7_leadsOn_49 (by decide) (by omega) (fun c9 => ?_) (fun c9 => ?_)
        · skip
          refine A_iinc (lv' := [(5, .int (iI (v5 + 1))), (6, .int (iI z5)), (0, .ref a), (1, .int (iI x1)), (2, .int (iI x2)), (3, .int (iI x3)), (4, .int (iI x4))]) C dX7_leadsOn_122 6 rfl (by decide) rfl ?_
          refine A_goto C 16 dX7_leadsOn_125 (by decide) ?_
          refine A_pick [2, 3, 4, 5, 6, 0] rfl ?_
          exact ih (v5 + 1) M (by omega) (by omega) W E
        · skip
          refine A_aloadn C dX7_leadsOn_52 1 rfl rfl ?_
          refine G_getR C W ha rfl rfl rfl rfl fX7_leadsOn_69 dX7_leadsOn_53 (fun b10 hb10 qb10 => ?_)
          refine A_iloadn C dX7_leadsOn_56 3 rfl rfl ?_
          refine A_iload C dX7_leadsOn_57 6 rfl ?_
          refine G_iast C W E qb10 rfl rfl (by decide) (fun _ => rfl) rfl (by omega) (by omega) (by omega) (by omega) dX7_leadsOn_59 (fun M11 eM11 WM11 EM11 => ?_)
          refine A_iloadn C dX7_leadsOn_60 3 rfl rfl ?_
          refine A_iconst C dX7_leadsOn_61 ?_
          refine A_iadd C dX7_leadsOn_62 ?_
          refine A_aloadn C dX7_leadsOn_63 1 rfl rfl ?_
          refine G_getR C WM11 ha rfl rfl rfl rfl fX7_leadsOn_34 dX7_leadsOn_64 (fun b12 hb12 qb12 => ?_)
          refine G_getI C WM11 qb12 rfl rfl rfl rfl rfl fX7_leadsOn_91 rfl dX7_leadsOn_67 (fun z13 ez13 lz13 uz13 => ?_)
          refine A_icmpne C 77 dX7_leadsOn_70 (by decide) (by omega) (by omega) (fun c14 => ?_) (fun c14 => ?_)
          · skip
            refine A_iconst C dX7_leadsOn_77 ?_
            refine A_istore (lv' := [(7, .int (iI 0)), (6, .int (iI z5)), (0, .ref a), (1, .int (iI x1)), (2, .int (iI x2)), (3, .int (iI x3)), (4, .int (iI x4)), (5, .int (iI v5))]) C dX7_leadsOn_78 (by decide) rfl ?_
            refine A_iload C dX7_leadsOn_80 0 rfl ?_
            refine A_ifne C 112 dX7_leadsOn_82 (by decide) (by omega) (fun c15 => ?_) (fun c15 => ?_)
            · skip
              refine A_iconst C dX7_leadsOn_112 ?_
              exact A_zret C (by omega) dX7_leadsOn_113 ⟨1, rfl, by omega, by omega, WM11, EM11⟩
            · skip
              refine A_aloadn C dX7_leadsOn_85 2 rfl rfl ?_
              refine A_iload C dX7_leadsOn_86 1 rfl ?_
              refine A_iloadn C dX7_leadsOn_88 5 rfl rfl ?_
              refine A_iload C dX7_leadsOn_89 6 rfl ?_
              refine A_callV C (n := 3) (st := []) (kX7_standsBehind ha (by omega) (by omega) (by omega)) gX7_leadsOn_X7_standsBehind rfl (by decide +kernel) ⟨by simp only [rmD]; omega, by simp only [rmD]; omega⟩ ha rfl rfl rfl rfl (Nat.le_of_ble_eq_true rfl) dX7_leadsOn_91 rfl WM11 (fun r16 M17 h18 => ?_)
              obtain ⟨z20, rfl, lz20, uz20, WM17, FM17⟩ := h18
              have EM17 := Fr.tr EM11 (FM17.mono (c2 := [12, 8, 10, 11, 17, 18, 19, 24, 25]) rfl)
              refine A_st (st' := [.int (iI z20)]) rfl ?_
              refine A_ifeq C 114 dX7_leadsOn_94 (by decide) (by omega) (fun c21 => ?_) (fun c21 => ?_)
              · skip
                refine A_aloadn C dX7_leadsOn_114 2 rfl rfl ?_
                refine G_getR C WM17 ha rfl rfl rfl rfl fX7_leadsOn_65 dX7_leadsOn_115 (fun b22 hb22 qb22 => ?_)
                refine A_iload C dX7_leadsOn_118 1 rfl ?_
                refine A_iconst C dX7_leadsOn_120 ?_
                refine G_zast C WM17 EM17 qb22 rfl rfl (by decide) (fun _ => rfl) rfl (by omega) (by omega) (by omega) dX7_leadsOn_121 (fun M23 eM23 WM23 EM23 => ?_)
                refine A_iinc (lv' := [(5, .int (iI (v5 + 1))), (7, .int (iI 0)), (6, .int (iI z5)), (0, .ref a), (1, .int (iI x1)), (2, .int (iI x2)), (3, .int (iI x3)), (4, .int (iI x4))]) C dX7_leadsOn_122 7 rfl (by decide) rfl ?_
                refine A_goto C 16 dX7_leadsOn_125 (by decide) ?_
                refine A_pick [3, 4, 5, 6, 7, 0] rfl ?_
                exact ih (v5 + 1) M23 (by omega) (by omega) WM23 EM23
              · skip
                refine A_aloadn C dX7_leadsOn_97 2 rfl rfl ?_
                refine A_iload C dX7_leadsOn_98 1 rfl ?_
                refine A_iloadn C dX7_leadsOn_100 4 rfl rfl ?_
                refine A_iconst C dX7_leadsOn_101 ?_
                refine A_iadd C dX7_leadsOn_102 ?_
                refine A_iloadn C dX7_leadsOn_103 5 rfl rfl ?_
                refine A_iload C dX7_leadsOn_104 6 rfl ?_
                refine A_callV C (n := 4) (st := []) (IH ha (by omega) (by omega) (by omega) (by omega) (by omega)) gX7_leadsOn_X7_leadsOn rfl (by decide +kernel) ⟨by simp only [rmD]; omega, by simp only [rmD]; omega⟩ ha rfl rfl rfl rfl (Nat.le_of_ble_eq_true rfl) dX7_leadsOn_106 rfl WM17 (fun r24 M25 h26 => ?_)
                obtain ⟨z28, rfl, lz28, uz28, WM25, FM25⟩ := h26
                have EM25 := Fr.tr EM17 (FM25.mono (c2 := [12, 8, 10, 11, 17, 18, 19, 24, 25]) rfl)
                refine A_st (st' := [.int (iI z28)]) rfl ?_
                refine A_ifeq C 114 dX7_leadsOn_109 (by decide) (by omega) (fun c29 => ?_) (fun c29 => ?_)
                · skip
                  refine A_aloadn C dX7_leadsOn_114 2 rfl rfl ?_
                  refine G_getR C WM25 ha rfl rfl rfl rfl fX7_leadsOn_65 dX7_leadsOn_115 (fun b30 hb30 qb30 => ?_)
                  refine A_iload C dX7_leadsOn_118 1 rfl ?_
                  refine A_iconst C dX7_leadsOn_120 ?_
                  refine G_zast C WM25 EM25 qb30 rfl rfl (by decide) (fun _ => rfl) rfl (by omega) (by omega) (by omega) dX7_leadsOn_121 (fun M31 eM31 WM31 EM31 => ?_)
                  refine A_iinc (lv' := [(5, .int (iI (v5 + 1))), (7, .int (iI 0)), (6, .int (iI z5)), (0, .ref a), (1, .int (iI x1)), (2, .int (iI x2)), (3, .int (iI x3)), (4, .int (iI x4))]) C dX7_leadsOn_122 7 rfl (by decide) rfl ?_
                  refine A_goto C 16 dX7_leadsOn_125 (by decide) ?_
                  refine A_pick [3, 4, 5, 6, 7, 0] rfl ?_
                  exact ih (v5 + 1) M31 (by omega) (by omega) WM31 EM31
                · skip
                  refine A_iconst C dX7_leadsOn_112 ?_
                  exact A_zret C (by omega) dX7_leadsOn_113 ⟨1, rfl, by omega, by omega, WM25, EM25⟩
          · skip
            refine A_iconst C dX7_leadsOn_73 ?_
            refine A_goto C 78 dX7_leadsOn_74 (by decide) ?_
            refine A_istore (lv' := [(7, .int (iI 1)), (6, .int (iI z5)), (0, .ref a), (1, .int (iI x1)), (2, .int (iI x2)), (3, .int (iI x3)), (4, .int (iI x4)), (5, .int (iI v5))]) C dX7_leadsOn_78 (by decide) rfl ?_
            refine A_iload C dX7_leadsOn_80 0 rfl ?_
            refine A_ifne C 112 dX7_leadsOn_82 (by decide) (by omega) (fun c32 => ?_) (fun c32 => ?_)
            · skip
              refine A_iconst C dX7_leadsOn_112 ?_
              exact A_zret C (by omega) dX7_leadsOn_113 ⟨1, rfl, by omega, by omega, WM11, EM11⟩
            · skip
              refine A_aloadn C dX7_leadsOn_85 2 rfl rfl ?_
              refine A_iload C dX7_leadsOn_86 1 rfl ?_
              refine A_iloadn C dX7_leadsOn_88 5 rfl rfl ?_
              refine A_iload C dX7_leadsOn_89 6 rfl ?_
              refine A_callV C (n := 3) (st := []) (kX7_standsBehind ha (by omega) (by omega) (by omega)) gX7_leadsOn_X7_standsBehind rfl (by decide +kernel) ⟨by simp only [rmD]; omega, by simp only [rmD]; omega⟩ ha rfl rfl rfl rfl (Nat.le_of_ble_eq_true rfl) dX7_leadsOn_91 rfl WM11 (fun r33 M34 h35 => ?_)
              obtain ⟨z37, rfl, lz37, uz37, WM34, FM34⟩ := h35
              have EM34 := Fr.tr EM11 (FM34.mono (c2 := [12, 8, 10, 11, 17, 18, 19, 24, 25]) rfl)
              refine A_st (st' := [.int (iI z37)]) rfl ?_
              refine A_ifeq C 114 dX7_leadsOn_94 (by decide) (by omega) (fun c38 => ?_) (fun c38 => ?_)
              · skip
                refine A_aloadn C dX7_leadsOn_114 2 rfl rfl ?_
                refine G_getR C WM34 ha rfl rfl rfl rfl fX7_leadsOn_65 dX7_leadsOn_115 (fun b39 hb39 qb39 => ?_)
                refine A_iload C dX7_leadsOn_118 1 rfl ?_
                refine A_iconst C dX7_leadsOn_120 ?_
                refine G_zast C WM34 EM34 qb39 rfl rfl (by decide) (fun _ => rfl) rfl (by omega) (by omega) (by omega) dX7_leadsOn_121 (fun M40 eM40 WM40 EM40 => ?_)
                refine A_iinc (lv' := [(5, .int (iI (v5 + 1))), (7, .int (iI 1)), (6, .int (iI z5)), (0, .ref a), (1, .int (iI x1)), (2, .int (iI x2)), (3, .int (iI x3)), (4, .int (iI x4))]) C dX7_leadsOn_122 7 rfl (by decide) rfl ?_
                refine A_goto C 16 dX7_leadsOn_125 (by decide) ?_
                refine A_pick [3, 4, 5, 6, 7, 0] rfl ?_
                exact ih (v5 + 1) M40 (by omega) (by omega) WM40 EM40
              · skip
                refine A_aloadn C dX7_leadsOn_97 2 rfl rfl ?_
                refine A_iload C dX7_leadsOn_98 1 rfl ?_
                refine A_iloadn C dX7_leadsOn_100 4 rfl rfl ?_
                refine A_iconst C dX7_leadsOn_101 ?_
                refine A_iadd C dX7_leadsOn_102 ?_
                refine A_iloadn C dX7_leadsOn_103 5 rfl rfl ?_
                refine A_iload C dX7_leadsOn_104 6 rfl ?_
                refine A_callV C (n := 4) (st := []) (IH ha (by omega) (by omega) (by omega) (by omega) (by omega)) gX7_leadsOn_X7_leadsOn rfl (by decide +kernel) ⟨by simp only [rmD]; omega, by simp only [rmD]; omega⟩ ha rfl rfl rfl rfl (Nat.le_of_ble_eq_true rfl) dX7_leadsOn_106 rfl WM34 (fun r41 M42 h43 => ?_)
                obtain ⟨z45, rfl, lz45, uz45, WM42, FM42⟩ := h43
                have EM42 := Fr.tr EM34 (FM42.mono (c2 := [12, 8, 10, 11, 17, 18, 19, 24, 25]) rfl)
                refine A_st (st' := [.int (iI z45)]) rfl ?_
                refine A_ifeq C 114 dX7_leadsOn_109 (by decide) (by omega) (fun c46 => ?_) (fun c46 => ?_)
                · skip
                  refine A_aloadn C dX7_leadsOn_114 2 rfl rfl ?_
                  refine G_getR C WM42 ha rfl rfl rfl rfl fX7_leadsOn_65 dX7_leadsOn_115 (fun b47 hb47 qb47 => ?_)
                  refine A_iload C dX7_leadsOn_118 1 rfl ?_
                  refine A_iconst C dX7_leadsOn_120 ?_
                  refine G_zast C WM42 EM42 qb47 rfl rfl (by decide) (fun _ => rfl) rfl (by omega) (by omega) (by omega) dX7_leadsOn_121 (fun M48 eM48 WM48 EM48 => ?_)
                  refine A_iinc (lv' := [(5, .int (iI (v5 + 1))), (7, .int (iI 1)), (6, .int (iI z5)), (0, .ref a), (1, .int (iI x1)), (2, .int (iI x2)), (3, .int (iI x3)), (4, .int (iI x4))]) C dX7_leadsOn_122 7 rfl (by decide) rfl ?_
                  refine A_goto C 16 dX7_leadsOn_125 (by decide) ?_
                  refine A_pick [3, 4, 5, 6, 7, 0] rfl ?_
                  exact ih (v5 + 1) M48 (by omega) (by omega) WM48 EM48
                · skip
                  refine A_iconst C dX7_leadsOn_112 ?_
                  exact A_zret C (by omega) dX7_leadsOn_113 ⟨1, rfl, by omega, by omega, WM42, EM42⟩
set_option maxHeartbeats 4000000 in
theorem kX7_leadsOn_step {k : Nat} (IH : ∀ {a : Nat} (ha : kd a = 0) {x1 : Int} {x2 : Int} {x3 : Int} {x4 : Int} (hx1 : (0 : Int) ≤ x1 ∧ x1 ≤ 63) (hx2 : (0 : Int) ≤ x2 ∧ x2 ≤ 6) (hx3 : (-2147483648 : Int) ≤ x3 ∧ x3 ≤ 2147483647) (hx4 : (-2147483648 : Int) ≤ x4 ∧ x4 ≤ 2147483647) (hy0 : (6 - x2).toNat < k), Ct yX7_leadsOn wsX7_leadsOn (5 + k) [.ref a, .int (iI x1), .int (iI x2), .int (iI x3), .int (iI x4)] (fun M => WF M) (fun M r M' => ∃ z : Int, r = some (.int (iI z)) ∧ (0 : Int) ≤ z ∧ z ≤ 1 ∧ WF M' ∧ Fr [12, 8, 10, 11, 17, 18, 19, 24, 25] M M')) {a : Nat} (ha : kd a = 0) {x1 : Int} {x2 : Int} {x3 : Int} {x4 : Int} (hx1 : (0 : Int) ≤ x1 ∧ x1 ≤ 63) (hx2 : (0 : Int) ≤ x2 ∧ x2 ≤ 6) (hx3 : (-2147483648 : Int) ≤ x3 ∧ x3 ≤ 2147483647) (hx4 : (-2147483648 : Int) ≤ x4 ∧ x4 ≤ 2147483647) (hy0 : (6 - x2).toNat < k + 1) : Ct yX7_leadsOn wsX7_leadsOn (5 + (k + 1)) [.ref a, .int (iI x1), .int (iI x2), .int (iI x3), .int (iI x4)] (fun M => WF M) (fun M r M' => ∃ z : Int, r = some (.int (iI z)) ∧ (0 : Int) ≤ z ∧ z ≤ 1 ∧ WF M' ∧ Fr [12, 8, 10, 11, 17, 18, 19, 24, 25] M M') := by
  refine Ct_of (cc := cX7_leadsOn) (nL := 8) (rt := (some .boolean)) (own := RX7) rfl (by decide) rfl (Nat.le_of_ble_eq_true rfl) ?_
  intro p l e s m args below meth c G M0 C W
  have E : Fr [12, 8, 10, 11, 17, 18, 19, 24, 25] M0 M0 := Fr.rf
  refine A_lv (lv' := [(0, .ref a), (1, .int (iI x1)), (2, .int (iI x2)), (3, .int (iI x3)), (4, .int (iI x4))]) rfl ?_
  refine A_iloadn C dX7_leadsOn_0 2 rfl rfl ?_
  refine A_aloadn C dX7_leadsOn_1 0 rfl rfl ?_
  refine G_getR C W ha rfl rfl rfl rfl fX7_leadsOn_34 dX7_leadsOn_2 (fun b49 hb49 qb49 => ?_)
  refine G_getI C W qb49 rfl rfl rfl rfl rfl fX7_leadsOn_91 rfl dX7_leadsOn_5 (fun z50 ez50 lz50 uz50 => ?_)
  refine A_icmplt C 13 dX7_leadsOn_8 (by decide) (by omega) (by omega) (fun c51 => ?_) (fun c51 => ?_)
  · skip
    refine A_iconst C dX7_leadsOn_13 ?_
    refine A_istore (lv' := [(5, .int (iI 0)), (0, .ref a), (1, .int (iI x1)), (2, .int (iI x2)), (3, .int (iI x3)), (4, .int (iI x4))]) C dX7_leadsOn_14 (by decide) rfl ?_
    refine A_pick [1, 2, 3, 4, 5, 0] rfl ?_
    exact lpX7_leadsOn_16 C IH ha hx1 hx2 hx3 hx4 hy0 ((7 - (0 : Int)).toNat + 1) 0 M0 (by omega) (by omega) W E
  · skip
    refine A_iconst C dX7_leadsOn_11 ?_
    exact A_zret C (by omega) dX7_leadsOn_12 ⟨1, rfl, by omega, by omega, W, E⟩
theorem kX7_leadsOn : ∀ (k : Nat), ∀ {a : Nat} (ha : kd a = 0) {x1 : Int} {x2 : Int} {x3 : Int} {x4 : Int} (hx1 : (0 : Int) ≤ x1 ∧ x1 ≤ 63) (hx2 : (0 : Int) ≤ x2 ∧ x2 ≤ 6) (hx3 : (-2147483648 : Int) ≤ x3 ∧ x3 ≤ 2147483647) (hx4 : (-2147483648 : Int) ≤ x4 ∧ x4 ≤ 2147483647) (hy0 : (6 - x2).toNat < k), Ct yX7_leadsOn wsX7_leadsOn (5 + k) [.ref a, .int (iI x1), .int (iI x2), .int (iI x3), .int (iI x4)] (fun M => WF M) (fun M r M' => ∃ z : Int, r = some (.int (iI z)) ∧ (0 : Int) ≤ z ∧ z ≤ 1 ∧ WF M' ∧ Fr [12, 8, 10, 11, 17, 18, 19, 24, 25] M M') := by
  intro k
  induction k with
  | zero => intro a ha x1 x2 x3 x4 hx1 hx2 hx3 hx4 hy0; exact absurd hy0 (Nat.not_lt_zero _)
  | succ k ih => intro a ha x1 x2 x3 x4 hx1 hx2 hx3 hx4 hy0; exact kX7_leadsOn_step ih ha hx1 hx2 hx3 hx4 hy0
