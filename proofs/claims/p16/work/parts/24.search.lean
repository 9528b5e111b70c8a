theorem uX6_study_6_6 : ∀ w ∈ u_ws RX6 TX6 7, w ∈ wsX6_study := by decide +kernel
theorem fX6_study_6_33 : Fl RX6 wsX6_study 6 0 33 RX6 TX6 7 := ⟨rfl, by decide, uX6_study_6_6, by decide +kernel⟩
set_option maxHeartbeats 4000000 in
theorem kX6_study_6  {a : Nat} (ha : kd a = 17) {b : Nat} (hb : kd b = 6) : Ct yX6_study wsX6_study 1 [.ref a, .ref b] (fun M => WF M) (fun M r M' => r = none ∧ WF M' ∧ Fr [17] M M') := by
  refine Ct_of (cc := cX6_study) (nL := 2) (rt := none) (own := RX6) rfl (by decide) rfl (Nat.le_of_ble_eq_true rfl) ?_
  intro p l e s m args below meth c G M0 C W
  have E : Fr [17] M0 M0 := Fr.rf
  refine A_lv (lv' := [(0, .ref a), (1, .ref b)]) rfl ?_
  refine A_aloadn C dX6_study_0 0 rfl rfl ?_
  refine A_aloadn C dX6_study_1 1 rfl rfl ?_
  refine G_putR C W E ha (Or.inl hb) fX6_study_6_33 ⟨tyX6_ok, nmX6, rfl, by decide⟩ rfl rfl dX6_study_2 (fun M1 eM1 WM1 EM1 => ?_)
  exact A_vret C dX6_study_5 ⟨rfl, WM1, EM1⟩

theorem uX6_study_12_6 : ∀ w ∈ u_ws RX6 TX6 7, w ∈ wsX6_study := by decide +kernel
theorem fX6_study_12_33 : Fl RX6 wsX6_study 6 0 33 RX6 TX6 7 := ⟨rfl, by decide, uX6_study_12_6, by decide +kernel⟩
set_option maxHeartbeats 4000000 in
theorem kX6_study_12  {a : Nat} (ha : kd a = 17) {b : Nat} (hb : kd b = 12) : Ct yX6_study wsX6_study 1 [.ref a, .ref b] (fun M => WF M) (fun M r M' => r = none ∧ WF M' ∧ Fr [17] M M') := by
  refine Ct_of (cc := cX6_study) (nL := 2) (rt := none) (own := RX6) rfl (by decide) rfl (Nat.le_of_ble_eq_true rfl) ?_
  intro p l e s m args below meth c G M0 C W
  have E : Fr [17] M0 M0 := Fr.rf
  refine A_lv (lv' := [(0, .ref a), (1, .ref b)]) rfl ?_
  refine A_aloadn C dX6_study_0 0 rfl rfl ?_
  refine A_aloadn C dX6_study_1 1 rfl rfl ?_
  refine G_putR C W E ha (Or.inr hb) fX6_study_12_33 ⟨tyX6_ok, nmX6, rfl, by decide⟩ rfl rfl dX6_study_2 (fun M1 eM1 WM1 EM1 => ?_)
  exact A_vret C dX6_study_5 ⟨rfl, WM1, EM1⟩

theorem uX6_aim_6 : ∀ w ∈ u_ws RX6 TX6 7, w ∈ wsX6_aim := by decide +kernel
theorem fX6_aim_18 : Fl RX6 wsX6_aim 6 3 18 RX6 TX6 7 := ⟨rfl, by decide, uX6_aim_6, by decide +kernel⟩
theorem fX6_aim_22 : Fl RX6 wsX6_aim 6 4 22 RX6 TX6 7 := ⟨rfl, by decide, uX6_aim_6, by decide +kernel⟩
set_option maxHeartbeats 4000000 in
theorem kX6_aim  {a : Nat} (ha : kd a = 17) {x1 : Int} {x2 : Int} (hx1 : r64 x1) (hx2 : r64 x2) : Ct yX6_aim wsX6_aim 1 [.ref a, .long (lL x1), .long (lL x2)] (fun M => WF M) (fun M r M' => r = none ∧ WF M' ∧ Fr [17] M M') := by
  refine Ct_of (cc := cX6_aim) (nL := 5) (rt := none) (own := RX6) rfl (by decide) rfl (Nat.le_of_ble_eq_true rfl) ?_
  intro p l e s m args below meth c G M0 C W
  have E : Fr [17] M0 M0 := Fr.rf
  refine A_lv (lv' := [(0, .ref a), (1, .long (lL x1)), (3, .long (lL x2))]) rfl ?_
  refine A_aloadn C dX6_aim_0 0 rfl rfl ?_
  refine A_lloadn C dX6_aim_1 1 rfl rfl ?_
  refine G_putL C W E ha rfl rfl rfl fX6_aim_18 ⟨tyX6_ok, nmX6, rfl, by decide⟩ rfl rfl (by omega) dX6_aim_2 (fun M1 eM1 WM1 EM1 => ?_)
  refine A_aloadn C dX6_aim_5 0 rfl rfl ?_
  refine A_lloadn C dX6_aim_6 2 rfl rfl ?_
  refine G_putL C WM1 EM1 ha rfl rfl rfl fX6_aim_22 ⟨tyX6_ok, nmX6, rfl, by decide⟩ rfl rfl (by omega) dX6_aim_7 (fun M2 eM2 WM2 EM2 => ?_)
  exact A_vret C dX6_aim_10 ⟨rfl, WM2, EM2⟩

theorem uX6_clearRests_6 : ∀ w ∈ u_ws RX6 TX6 7, w ∈ wsX6_clearRests := by decide +kernel
theorem fX6_clearRests_9 : Fl RX6 wsX6_clearRests 6 1 9 RX6 TX6 7 := ⟨rfl, by decide, uX6_clearRests_6, by decide +kernel⟩
set_option maxHeartbeats 4000000 in
theorem lpX6_clearRests_2 {p : Program} {l : Launch} {e : Env} {s : State} {m : MethodId} {args : Array Value} {below : List Frame} {meth : Method} {c : Code} {G : xG} (C : Cx p s m args meth c G cX6_clearRests 3 RX6 wsX6_clearRests none)  {a : Nat} (ha : kd a = 17) {x1 : Int} (hx1 : (0 : Int) ≤ x1 ∧ x1 ≤ 12) {M0 : Mem} : ∀ (n : Nat) (v2 : Int) (M : Mem), (26 - v2).toNat < n → (0 ≤ v2 ∧ v2 ≤ 25) → WF M → Fr [18] M0 M → AW p l e (rmD 1) s m args below meth c G 3 (QQ G below args s ((fun M r M' => r = none ∧ WF M' ∧ Fr [18] M M') M0)) M 2 [(0, .ref a), (1, .int (iI x1)), (2, .int (iI v2))] [] := by
  intro n
  induction n with
  | zero => intro v2 M hn; exact absurd hn (Nat.not_lt_zero _)
  | succ n ih =>
    intro v2 M hn hi W E
    refine A_iloadn C dX6_clearRests_2 2 rfl rfl ?_
    refine A_bipush C dX6_clearRests_3 (by decide) ?_
    refine A_icmpge C 28 dX6_clearRests_5 (by decide) (by omega) (by omega) (fun c1 => ?_) (fun c1 => ?_)
    · skip
      exact A_vret C dX6_clearRests_28 ⟨rfl, W, E⟩
    · skip
      refine A_aloadn C dX6_clearRests_8 0 rfl rfl ?_
      refine G_getR C W ha rfl rfl rfl rfl fX6_clearRests_9 dX6_clearRests_9 (fun b2 hb2 qb2 => ?_)
      refine A_iloadn C dX6_clearRests_12 1 rfl rfl ?_
      refine A_bipush C dX6_clearRests_13 (by decide) ?_
      refine A_imul C dX6_clearRests_15 ?_
      refine A_iloadn C dX6_clearRests_16 2 rfl rfl ?_
      refine A_iadd C dX6_clearRests_17 ?_
      refine A_ldc2 C (index := 99) (v := 4611686018427387904) (z := 4611686018427387904) (by decide +kernel) (by decide +kernel) dX6_clearRests_18 ?_
      refine G_last C W E qb2 rfl rfl (by decide) rfl (by omega) (by omega) (by omega) dX6_clearRests_21 (fun M3 eM3 WM3 EM3 => ?_)
      refine A_iinc (lv' := [(2, .int (iI (v2 + 1))), (0, .ref a), (1, .int (iI x1))]) C dX6_clearRests_22 2 rfl (by decide) rfl ?_
      refine A_goto C 2 dX6_clearRests_25 (by decide) ?_
      refine A_pick [1, 2, 0] rfl ?_
      exact ih (v2 + 1) M3 (by omega) (by omega) WM3 EM3
set_option maxHeartbeats 4000000 in
theorem kX6_clearRests  {a : Nat} (ha : kd a = 17) {x1 : Int} (hx1 : (0 : Int) ≤ x1 ∧ x1 ≤ 12) : Ct yX6_clearRests wsX6_clearRests 1 [.ref a, .int (iI x1)] (fun M => WF M) (fun M r M' => r = none ∧ WF M' ∧ Fr [18] M M') := by
  refine Ct_of (cc := cX6_clearRests) (nL := 3) (rt := none) (own := RX6) rfl (by decide) rfl (Nat.le_of_ble_eq_true rfl) ?_
  intro p l e s m args below meth c G M0 C W
  have E : Fr [18] M0 M0 := Fr.rf
  refine A_lv (lv' := [(0, .ref a), (1, .int (iI x1))]) rfl ?_
  refine A_iconst C dX6_clearRests_0 ?_
  refine A_istoren (lv' := [(2, .int (iI 0)), (0, .ref a), (1, .int (iI x1))]) C dX6_clearRests_1 rfl (by decide) rfl ?_
  refine A_pick [1, 2, 0] rfl ?_
  exact lpX6_clearRests_2 C  ha hx1 ((26 - (0 : Int)).toNat + 1) 0 M0 (by omega) (by omega) W E

theorem uX6_allowEnd_6 : ∀ w ∈ u_ws RX6 TX6 7, w ∈ wsX6_allowEnd := by decide +kernel
theorem uX6_allowEnd_4 : ∀ w ∈ u_ws RX4 TX4 2, w ∈ wsX6_allowEnd := by decide +kernel
theorem uX6_allowEnd_1 : ∀ w ∈ u_ws RX1 TX1 9, w ∈ wsX6_allowEnd := by decide +kernel
theorem fX6_allowEnd_25 : Fl RX6 wsX6_allowEnd 6 5 25 RX6 TX6 7 := ⟨rfl, by decide, uX6_allowEnd_6, by decide +kernel⟩
theorem fX6_allowEnd_33 : Fl RX6 wsX6_allowEnd 6 0 33 RX6 TX6 7 := ⟨rfl, by decide, uX6_allowEnd_6, by decide +kernel⟩
theorem fX6_allowEnd_90 : Fl RX6 wsX6_allowEnd 4 0 90 RX4 TX4 2 := ⟨rfl, by decide, uX6_allowEnd_4, by decide +kernel⟩
theorem fX6_allowEnd_94 : Fl RX6 wsX6_allowEnd 1 1 94 RX1 TX1 9 := ⟨rfl, by decide, uX6_allowEnd_1, by decide +kernel⟩
theorem fX6_allowEnd_9 : Fl RX6 wsX6_allowEnd 6 1 9 RX6 TX6 7 := ⟨rfl, by decide, uX6_allowEnd_6, by decide +kernel⟩
theorem fX6_allowEnd_29 : Fl RX6 wsX6_allowEnd 6 6 29 RX6 TX6 7 := ⟨rfl, by decide, uX6_allowEnd_6, by decide +kernel⟩
set_option maxHeartbeats 4000000 in
theorem kX6_allowEnd  {a : Nat} (ha : kd a = 17) {x1 : Int} (hx1 : (0 : Int) ≤ x1 ∧ x1 ≤ 12) : Ct yX6_allowEnd wsX6_allowEnd 2 [.ref a, .int (iI x1)] (fun M => WF M) (fun M r M' => r = none ∧ WF M' ∧ Fr [18] M M') := by
  refine Ct_of (cc := cX6_allowEnd) (nL := 3) (rt := none) (own := RX6) rfl (by decide) rfl (Nat.le_of_ble_eq_true rfl) ?_
  intro p l e s m args below meth c G M0 C W
  have E : Fr [18] M0 M0 := Fr.rf
  refine A_lv (lv' := [(0, .ref a), (1, .int (iI x1))]) rfl ?_
  refine A_iloadn C dX6_allowEnd_0 1 rfl rfl ?_
  refine A_ifle C 55 dX6_allowEnd_1 (by decide) (by omega) (fun c1 => ?_) (fun c1 => ?_)
  · skip
    exact A_vret C dX6_allowEnd_55 ⟨rfl, W, E⟩
  · skip
    refine A_iloadn C dX6_allowEnd_4 1 rfl rfl ?_
    refine A_aloadn C dX6_allowEnd_5 0 rfl rfl ?_
    refine G_getI C W ha rfl rfl rfl rfl rfl fX6_allowEnd_25 rfl dX6_allowEnd_6 (fun z2 ez2 lz2 uz2 => ?_)
    refine A_icmpeq C 19 dX6_allowEnd_9 (by decide) (by omega) (by omega) (fun c3 => ?_) (fun c3 => ?_)
    · skip
      refine A_iloadn C dX6_allowEnd_19 1 rfl rfl ?_
      refine A_bipush C dX6_allowEnd_20 (by decide) ?_
      refine A_imul C dX6_allowEnd_22 ?_
      refine A_aloadn C dX6_allowEnd_23 0 rfl rfl ?_
      obtain ⟨b4, hb4, qb4⟩ := W.2.2.2 a ha
      refine A_getR C ha rfl rfl rfl hb4 fX6_allowEnd_33 dX6_allowEnd_24 ?_
      obtain ⟨b6, hb6, qb6⟩ := gr_cols W qb4
      refine gr_getR C qb4 hb6 fX6_allowEnd_90 dX6_allowEnd_27 ?_
      refine A_iloadn C dX6_allowEnd_30 1 rfl rfl ?_
      refine A_iconst C dX6_allowEnd_31 ?_
      refine A_isub C dX6_allowEnd_32 ?_
      refine G_aald C W qb6 (by omega) (by omega) dX6_allowEnd_33 (fun b7 hb7 qb7 => ?_)
      refine G_getI C W qb7 rfl rfl rfl rfl rfl fX6_allowEnd_94 rfl dX6_allowEnd_34 (fun z8 ez8 lz8 uz8 => ?_)
      refine A_iadd C dX6_allowEnd_37 ?_
      refine A_nami (fun z9 ez9 => ?_)
      refine A_istoren (lv' := [(2, .int (iI z9)), (0, .ref a), (1, .int (iI x1))]) C dX6_allowEnd_38 rfl (by decide) rfl ?_
      refine A_aloadn C dX6_allowEnd_39 1 rfl rfl ?_
      refine G_getR C W ha rfl rfl rfl rfl fX6_allowEnd_9 dX6_allowEnd_40 (fun b10 hb10 qb10 => ?_)
      refine A_iloadn C dX6_allowEnd_43 0 rfl rfl ?_
      refine A_aloadn C dX6_allowEnd_44 1 rfl rfl ?_
      refine G_getR C W ha rfl rfl rfl rfl fX6_allowEnd_9 dX6_allowEnd_45 (fun b11 hb11 qb11 => ?_)
      refine A_iloadn C dX6_allowEnd_48 0 rfl rfl ?_
      refine G_lald C W qb11 rfl rfl (by decide) (by omega) (by omega) dX6_allowEnd_49 (fun z12 ez12 rz12 => ?_)
      refine A_lconst0 C dX6_allowEnd_50 ?_
      refine A_minl C (by omega) (by omega) (by decide +kernel) (by decide +kernel) (by decide +kernel) (by decide +kernel) (Nat.le_of_ble_eq_true rfl) (Nat.le_of_ble_eq_true rfl) dX6_allowEnd_51 (fun z13 rz13 => ?_)
      refine G_last C W E qb10 rfl rfl (by decide) rfl (by omega) (by omega) (by omega) dX6_allowEnd_54 (fun M14 eM14 WM14 EM14 => ?_)
      exact A_vret C dX6_allowEnd_55 ⟨rfl, WM14, EM14⟩
    · skip
      refine A_aloadn C dX6_allowEnd_12 0 rfl rfl ?_
      refine G_getI C W ha rfl rfl rfl rfl rfl fX6_allowEnd_29 rfl dX6_allowEnd_13 (fun z15 ez15 lz15 uz15 => ?_)
      refine A_ifeq C 55 dX6_allowEnd_16 (by decide) (by omega) (fun c16 => ?_) (fun c16 => ?_)
      · skip
        exact A_vret C dX6_allowEnd_55 ⟨rfl, W, E⟩
      · skip
        refine A_iloadn C dX6_allowEnd_19 1 rfl rfl ?_
        refine A_bipush C dX6_allowEnd_20 (by decide) ?_
        refine A_imul C dX6_allowEnd_22 ?_
        refine A_aloadn C dX6_allowEnd_23 0 rfl rfl ?_
        obtain ⟨b17, hb17, qb17⟩ := W.2.2.2 a ha
        refine A_getR C ha rfl rfl rfl hb17 fX6_allowEnd_33 dX6_allowEnd_24 ?_
        obtain ⟨b19, hb19, qb19⟩ := gr_cols W qb17
        refine gr_getR C qb17 hb19 fX6_allowEnd_90 dX6_allowEnd_27 ?_
        refine A_iloadn C dX6_allowEnd_30 1 rfl rfl ?_
        refine A_iconst C dX6_allowEnd_31 ?_
        refine A_isub C dX6_allowEnd_32 ?_
        refine G_aald C W qb19 (by omega) (by omega) dX6_allowEnd_33 (fun b20 hb20 qb20 => ?_)
        refine G_getI C W qb20 rfl rfl rfl rfl rfl fX6_allowEnd_94 rfl dX6_allowEnd_34 (fun z21 ez21 lz21 uz21 => ?_)
        refine A_iadd C dX6_allowEnd_37 ?_
        refine A_nami (fun z22 ez22 => ?_)
        refine A_istoren (lv' := [(2, .int (iI z22)), (0, .ref a), (1, .int (iI x1))]) C dX6_allowEnd_38 rfl (by decide) rfl ?_
        refine A_aloadn C dX6_allowEnd_39 1 rfl rfl ?_
        refine G_getR C W ha rfl rfl rfl rfl fX6_allowEnd_9 dX6_allowEnd_40 (fun b23 hb23 qb23 => ?_)
        refine A_iloadn C dX6_allowEnd_43 0 rfl rfl ?_
        refine A_aloadn C dX6_allowEnd_44 1 rfl rfl ?_
        refine G_getR C W ha rfl rfl rfl rfl fX6_allowEnd_9 dX6_allowEnd_45 (fun b24 hb24 qb24 => ?_)
        refine A_iloadn C dX6_allowEnd_48 0 rfl rfl ?_
        refine G_lald C W qb24 rfl rfl (by decide) (by omega) (by omega) dX6_allowEnd_49 (fun z25 ez25 rz25 => ?_)
        refine A_lconst0 C dX6_allowEnd_50 ?_
        refine A_minl C (by omega) (by omega) (by decide +kernel) (by decide +kernel) (by decide +kernel) (by decide +kernel) (Nat.le_of_ble_eq_true rfl) (Nat.le_of_ble_eq_true rfl) dX6_allowEnd_51 (fun z26 rz26 => ?_)
        refine G_last C W E qb23 rfl rfl (by decide) rfl (by omega) (by omega) (by omega) dX6_allowEnd_54 (fun M27 eM27 WM27 EM27 => ?_)
        exact A_vret C dX6_allowEnd_55 ⟨rfl, WM27, EM27⟩

theorem uX6_better_6 : ∀ w ∈ u_ws RX6 TX6 7, w ∈ wsX6_better := by decide +kernel
theorem fX6_better_9 : Fl RX6 wsX6_better 6 1 9 RX6 TX6 7 := ⟨rfl, by decide, uX6_better_6, by decide +kernel⟩
set_option maxHeartbeats 4000000 in
theorem kX6_better  {a : Nat} (ha : kd a = 17) {x1 : Int} {x2 : Int} {x3 : Int} {x4 : Int} (hx1 : (0 : Int) ≤ x1 ∧ x1 ≤ 11) (hx2 : (0 : Int) ≤ x2 ∧ x2 ≤ 24) (hx3 : (0 : Int) ≤ x3 ∧ x3 ≤ 24) (hx4 : r64 x4) : Ct yX6_better wsX6_better 1 [.ref a, .int (iI x1), .int (iI x2), .int (iI x3), .long (lL x4)] (fun M => WF M) (fun M r M' => r = none ∧ WF M' ∧ Fr [18] M M') := by
  refine Ct_of (cc := cX6_better) (nL := 8) (rt := none) (own := RX6) rfl (by decide) rfl (Nat.le_of_ble_eq_true rfl) ?_
  intro p l e s m args below meth c G M0 C W
  have E : Fr [18] M0 M0 := Fr.rf
  refine A_lv (lv' := [(0, .ref a), (1, .int (iI x1)), (2, .int (iI x2)), (3, .int (iI x3)), (4, .long (lL x4))]) rfl ?_
  refine A_aloadn C dX6_better_0 0 rfl rfl ?_
  refine G_getR C W ha rfl rfl rfl rfl fX6_better_9 dX6_better_1 (fun b1 hb1 qb1 => ?_)
  refine A_iloadn C dX6_better_4 1 rfl rfl ?_
  refine A_iconst C dX6_better_5 ?_
  refine A_iadd C dX6_better_6 ?_
  refine A_bipush C dX6_better_7 (by decide) ?_
  refine A_imul C dX6_better_9 ?_
  refine A_iloadn C dX6_better_10 3 rfl rfl ?_
  refine A_iadd C dX6_better_11 ?_
  refine G_lald C W qb1 rfl rfl (by decide) (by omega) (by omega) dX6_better_12 (fun z2 ez2 rz2 => ?_)
  refine A_lstore (lv' := [(6, .long (lL z2)), (0, .ref a), (1, .int (iI x1)), (2, .int (iI x2)), (3, .int (iI x3)), (4, .long (lL x4))]) C dX6_better_13 (by decide) rfl ?_
  refine A_lload C dX6_better_15 0 rfl ?_
  refine A_ldc2 C (index := 99) (v := 4611686018427387904) (z := 4611686018427387904) (by decide +kernel) (by decide +kernel) dX6_better_17 ?_
  refine A_lcmp C (by omega) (by omega) dX6_better_20 (fun z3 cz3 => ?_)
  refine A_ifeq C 60 dX6_better_21 (by decide) (by omega) (fun c4 => ?_) (fun c4 => ?_)
  · skip
    exact A_vret C dX6_better_60 ⟨rfl, W, E⟩
  · skip
    refine A_lload C dX6_better_24 5 rfl ?_
    refine A_lload C dX6_better_26 0 rfl ?_
    refine A_ladd C dX6_better_28 ?_
    refine A_topl (fun z5 rz5 ez5 => ?_)
    refine A_aloadn C dX6_better_29 1 rfl rfl ?_
    refine G_getR C W ha rfl rfl rfl rfl fX6_better_9 dX6_better_30 (fun b6 hb6 qb6 => ?_)
    refine A_iloadn C dX6_better_33 2 rfl rfl ?_
    refine A_bipush C dX6_better_34 (by decide) ?_
    refine A_imul C dX6_better_36 ?_
    refine A_iloadn C dX6_better_37 3 rfl rfl ?_
    refine A_iadd C dX6_better_38 ?_
    refine G_lald C W qb6 rfl rfl (by decide) (by omega) (by omega) dX6_better_39 (fun z7 ez7 rz7 => ?_)
    refine A_lcmp C (by omega) (by omega) dX6_better_40 (fun z8 cz8 => ?_)
    refine A_ifge C 60 dX6_better_41 (by decide) (by omega) (fun c9 => ?_) (fun c9 => ?_)
    · skip
      exact A_vret C dX6_better_60 ⟨rfl, W, E⟩
    · skip
      refine A_aloadn C dX6_better_44 1 rfl rfl ?_
      refine G_getR C W ha rfl rfl rfl rfl fX6_better_9 dX6_better_45 (fun b10 hb10 qb10 => ?_)
      refine A_iloadn C dX6_better_48 2 rfl rfl ?_
      refine A_bipush C dX6_better_49 (by decide) ?_
      refine A_imul C dX6_better_51 ?_
      refine A_iloadn C dX6_better_52 3 rfl rfl ?_
      refine A_iadd C dX6_better_53 ?_
      refine A_lload C dX6_better_54 5 rfl ?_
      refine A_lload C dX6_better_56 0 rfl ?_
      refine A_ladd C dX6_better_58 ?_
      refine A_topl (fun z11 rz11 ez11 => ?_)
      refine G_last C W E qb10 rfl rfl (by decide) rfl (by omega) (by omega) (by omega) dX6_better_59 (fun M12 eM12 WM12 EM12 => ?_)
      exact A_vret C dX6_better_60 ⟨rfl, WM12, EM12⟩

theorem uX6_leastStart_6 : ∀ w ∈ u_ws RX6 TX6 7, w ∈ wsX6_leastStart := by decide +kernel
theorem uX6_leastStart_4 : ∀ w ∈ u_ws RX4 TX4 2, w ∈ wsX6_leastStart := by decide +kernel
theorem fX6_leastStart_33 : Fl RX6 wsX6_leastStart 6 0 33 RX6 TX6 7 := ⟨rfl, by decide, uX6_leastStart_6, by decide +kernel⟩
theorem fX6_leastStart_41 : Fl RX6 wsX6_leastStart 4 1 41 RX4 TX4 2 := ⟨rfl, by decide, uX6_leastStart_4, by decide +kernel⟩
theorem fX6_leastStart_15 : Fl RX6 wsX6_leastStart 6 2 15 RX6 TX6 7 := ⟨rfl, by decide, uX6_leastStart_6, by decide +kernel⟩
set_option maxHeartbeats 4000000 in
theorem lpX6_leastStart_4 {p : Program} {l : Launch} {e : Env} {s : State} {m : MethodId} {args : Array Value} {below : List Frame} {meth : Method} {c : Code} {G : xG} (C : Cx p s m args meth c G cX6_leastStart 3 RX6 wsX6_leastStart (some .int))  {a : Nat} (ha : kd a = 17) {M0 : Mem} : ∀ (n : Nat) (v1 v2 : Int) (M : Mem), (13 - v2).toNat < n → (0 ≤ v1 ∧ v1 ≤ 11 ∧ 1 ≤ v2 ∧ v2 ≤ 12) → WF M → Fr [] M0 M → AW p l e (rmD 1) s m args below meth c G 3 (QQ G below args s ((fun M r M' => ∃ z : Int, r = some (.int (iI z)) ∧ (0 : Int) ≤ z ∧ z ≤ 11 ∧ WF M' ∧ Fr [] M M') M0)) M 4 [(0, .ref a), (1, .int (iI v1)), (2, .int (iI v2))] [] := by
  intro n
  induction n with
  | zero => intro v1 v2 M hn; exact absurd hn (Nat.not_lt_zero _)
  | succ n ih =>
    intro v1 v2 M hn hi W E
    refine A_iloadn C dX6_leastStart_4 2 rfl rfl ?_
    refine A_aloadn C dX6_leastStart_5 0 rfl rfl ?_
    obtain ⟨b1, hb1, qb1⟩ := W.2.2.2 a ha
    refine A_getR C ha rfl rfl rfl hb1 fX6_leastStart_33 dX6_leastStart_6 ?_
    refine gr_getI C W qb1 fX6_leastStart_41 dX6_leastStart_9 (fun z3 ez3 lz3 uz3 => ?_)
    refine A_icmpge C 39 dX6_leastStart_12 (by decide) (by omega) (by omega) (fun c4 => ?_) (fun c4 => ?_)
    · skip
      refine A_iloadn C dX6_leastStart_39 1 rfl rfl ?_
      exact A_iret C dX6_leastStart_40 ⟨v1, rfl, by omega, by omega, W, E⟩
    · skip
      refine A_aloadn C dX6_leastStart_15 0 rfl rfl ?_
      refine G_getR C W ha rfl rfl rfl rfl fX6_leastStart_15 dX6_leastStart_16 (fun b5 hb5 qb5 => ?_)
      refine A_iloadn C dX6_leastStart_19 2 rfl rfl ?_
      refine G_lald C W qb5 rfl rfl (by decide) (by omega) (by omega) dX6_leastStart_20 (fun z6 ez6 rz6 => ?_)
      refine A_aloadn C dX6_leastStart_21 0 rfl rfl ?_
      refine G_getR C W ha rfl rfl rfl rfl fX6_leastStart_15 dX6_leastStart_22 (fun b7 hb7 qb7 => ?_)
      refine A_iloadn C dX6_leastStart_25 1 rfl rfl ?_
      refine G_lald C W qb7 rfl rfl (by decide) (by omega) (by omega) dX6_leastStart_26 (fun z8 ez8 rz8 => ?_)
      refine A_lcmp C (by omega) (by omega) dX6_leastStart_27 (fun z9 cz9 => ?_)
      refine A_ifge C 33 dX6_leastStart_28 (by decide) (by omega) (fun c10 => ?_) (fun c10 => ?_)
      · skip
        refine A_iinc (lv' := [(2, .int (iI (v2 + 1))), (0, .ref a), (1, .int (iI v1))]) C dX6_leastStart_33 2 rfl (by decide) rfl ?_
        refine A_goto C 4 dX6_leastStart_36 (by decide) ?_
        refine A_pick [1, 2, 0] rfl ?_
        exact ih v1 (v2 + 1) M (by omega) (by omega) W E
      · skip
        refine A_iloadn C dX6_leastStart_31 2 rfl rfl ?_
        refine A_istoren (lv' := [(1, .int (iI v2)), (0, .ref a), (2, .int (iI v2))]) C dX6_leastStart_32 rfl (by decide) rfl ?_
        refine A_iinc (lv' := [(2, .int (iI (v2 + 1))), (1, .int (iI v2)), (0, .ref a)]) C dX6_leastStart_33 2 rfl (by decide) rfl ?_
        refine A_goto C 4 dX6_leastStart_36 (by decide) ?_
        refine A_pick [2, 1, 0] rfl ?_
        exact ih v2 (v2 + 1) M (by omega) (by omega) W E
set_option maxHeartbeats 4000000 in
theorem kX6_leastStart  {a : Nat} (ha : kd a = 17) : Ct yX6_leastStart wsX6_leastStart 1 [.ref a] (fun M => WF M) (fun M r M' => ∃ z : Int, r = some (.int (iI z)) ∧ (0 : Int) ≤ z ∧ z ≤ 11 ∧ WF M' ∧ Fr [] M M') := by
  refine Ct_of (cc := cX6_leastStart) (nL := 3) (rt := (some .int)) (own := RX6) rfl (by decide) rfl (Nat.le_of_ble_eq_true rfl) ?_
  intro p l e s m args below meth c G M0 C W
  have E : Fr [] M0 M0 := Fr.rf
  refine A_lv (lv' := [(0, .ref a)]) rfl ?_
  refine A_iconst C dX6_leastStart_0 ?_
  refine A_istoren (lv' := [(1, .int (iI 0)), (0, .ref a)]) C dX6_leastStart_1 rfl (by decide) rfl ?_
  refine A_iconst C dX6_leastStart_2 ?_
  refine A_istoren (lv' := [(2, .int (iI 1)), (1, .int (iI 0)), (0, .ref a)]) C dX6_leastStart_3 rfl (by decide) rfl ?_
  refine A_pick [2, 1, 0] rfl ?_
  exact lpX6_leastStart_4 C  ha ((13 - (1 : Int)).toNat + 1) 0 1 M0 (by omega) (by omega) W E

theorem uX6_keyOf_6 : ∀ w ∈ u_ws RX6 TX6 7, w ∈ wsX6_keyOf := by decide +kernel
theorem uX6_keyOf_4 : ∀ w ∈ u_ws RX4 TX4 2, w ∈ wsX6_keyOf := by decide +kernel
theorem fX6_keyOf_33 : Fl RX6 wsX6_keyOf 6 0 33 RX6 TX6 7 := ⟨rfl, by decide, uX6_keyOf_6, by decide +kernel⟩
theorem fX6_keyOf_90 : Fl RX6 wsX6_keyOf 4 0 90 RX4 TX4 2 := ⟨rfl, by decide, uX6_keyOf_4, by decide +kernel⟩
theorem fX6_keyOf_22 : Fl RX6 wsX6_keyOf 6 4 22 RX6 TX6 7 := ⟨rfl, by decide, uX6_keyOf_6, by decide +kernel⟩
theorem fX6_keyOf_18 : Fl RX6 wsX6_keyOf 6 3 18 RX6 TX6 7 := ⟨rfl, by decide, uX6_keyOf_6, by decide +kernel⟩
set_option maxHeartbeats 4000000 in
theorem kX6_keyOf  {a : Nat} (ha : kd a = 17) {x1 : Int} {x2 : Int} {x3 : Int} (hx1 : (0 : Int) ≤ x1 ∧ x1 ≤ 11) (hx2 : (0 : Int) ≤ x2 ∧ x2 ≤ 24) (hx3 : (0 : Int) ≤ x3 ∧ x3 ≤ 24) : Ct yX6_keyOf wsX6_keyOf 2 [.ref a, .int (iI x1), .int (iI x2), .int (iI x3)] (fun M => WF M) (fun M r M' => ∃ z : Int, r = some (.long (lL z)) ∧ r64 z ∧ WF M' ∧ Fr [] M M') := by
  refine Ct_of (cc := cX6_keyOf) (nL := 6) (rt := (some .long)) (own := RX6) rfl (by decide) rfl (Nat.le_of_ble_eq_true rfl) ?_
  intro p l e s m args below meth c G M0 C W
  have E : Fr [] M0 M0 := Fr.rf
  refine A_lv (lv' := [(0, .ref a), (1, .int (iI x1)), (2, .int (iI x2)), (3, .int (iI x3))]) rfl ?_
  refine A_aloadn C dX6_keyOf_0 0 rfl rfl ?_
  obtain ⟨b1, hb1, qb1⟩ := W.2.2.2 a ha
  refine A_getR C ha rfl rfl rfl hb1 fX6_keyOf_33 dX6_keyOf_1 ?_
  obtain ⟨b3, hb3, qb3⟩ := gr_cols W qb1
  refine gr_getR C qb1 hb3 fX6_keyOf_90 dX6_keyOf_4 ?_
  refine A_iloadn C dX6_keyOf_7 1 rfl rfl ?_
  refine G_aald C W qb3 (by omega) (by omega) dX6_keyOf_8 (fun b4 hb4 qb4 => ?_)
  refine A_astore (lv' := [(4, .ref b4), (0, .ref a), (1, .int (iI x1)), (2, .int (iI x2)), (3, .int (iI x3))]) C dX6_keyOf_9 (by decide) rfl ?_
  refine A_aload C dX6_keyOf_11 0 rfl ?_
  refine A_iloadn C dX6_keyOf_13 3 rfl rfl ?_
  refine A_iloadn C dX6_keyOf_14 4 rfl rfl ?_
  refine A_min C (by omega) (by omega) (by decide +kernel) (by decide +kernel) (by decide +kernel) (by decide +kernel) (Nat.le_of_ble_eq_true rfl) (Nat.le_of_ble_eq_true rfl) dX6_keyOf_15 (fun z5 ez5 lz5 uz5 => ?_)
  refine A_iloadn C dX6_keyOf_18 3 rfl rfl ?_
  refine A_iloadn C dX6_keyOf_19 4 rfl rfl ?_
  refine A_isub C dX6_keyOf_20 ?_
  refine A_abs C (by omega) (by omega) (by decide +kernel) (by decide +kernel) (by decide +kernel) (by decide +kernel) (Nat.le_of_ble_eq_true rfl) (Nat.le_of_ble_eq_true rfl) dX6_keyOf_21 (fun z6 ez6 => ?_)
  refine A_callV C (n := 2) (st := []) (kX1_holdsAt qb4 (by omega) (by omega) (by omega) (by omega)) gX6_keyOf_X1_holdsAt rfl (by decide +kernel) ⟨Nat.le_of_ble_eq_true rfl, Nat.le_of_ble_eq_true rfl⟩ qb4 rfl rfl rfl rfl (Nat.le_of_ble_eq_true rfl) dX6_keyOf_24 rfl W (fun r7 M8 h9 => ?_)
  obtain ⟨z11, rfl, lz11, uz11, WM8, FM8, xx10⟩ := h9
  have EM8 := Fr.tr E (FM8.mono (c2 := []) rfl)
  refine A_st (st' := [.int (iI z11)]) rfl ?_
  refine A_istore (lv' := [(5, .int (iI z11)), (4, .ref b4), (0, .ref a), (1, .int (iI x1)), (2, .int (iI x2)), (3, .int (iI x3))]) C dX6_keyOf_27 (by decide) rfl ?_
  refine A_iload C dX6_keyOf_29 0 rfl ?_
  refine A_iconst C dX6_keyOf_31 ?_
  refine A_icmpne C 39 dX6_keyOf_32 (by decide) (by omega) (by omega) (fun c12 => ?_) (fun c12 => ?_)
  · skip
    refine A_aloadn C dX6_keyOf_39 2 rfl rfl ?_
    refine G_getL C WM8 ha rfl rfl rfl fX6_keyOf_22 dX6_keyOf_40 (fun z13 ez13 rz13 => ?_)
    refine A_iload C dX6_keyOf_43 0 rfl ?_
    refine A_i2l C (by omega) dX6_keyOf_45 ?_
    refine A_lmul C dX6_keyOf_46 ?_
    refine A_topl (fun z14 rz14 ez14 => ?_)
    refine A_aloadn C dX6_keyOf_47 2 rfl rfl ?_
    refine G_getL C WM8 ha rfl rfl rfl fX6_keyOf_18 dX6_keyOf_48 (fun z15 ez15 rz15 => ?_)
    refine A_aload C dX6_keyOf_51 1 rfl ?_
    refine A_iloadn C dX6_keyOf_53 4 rfl rfl ?_
    refine A_iloadn C dX6_keyOf_54 5 rfl rfl ?_
    refine A_max C (by omega) (by omega) (by decide +kernel) (by decide +kernel) (by decide +kernel) (by decide +kernel) (Nat.le_of_ble_eq_true rfl) (Nat.le_of_ble_eq_true rfl) dX6_keyOf_55 (fun z16 ez16 lz16 uz16 => ?_)
    refine A_iloadn C dX6_keyOf_58 4 rfl rfl ?_
    refine A_iloadn C dX6_keyOf_59 5 rfl rfl ?_
    refine A_isub C dX6_keyOf_60 ?_
    refine A_callV C (n := 2) (st := [.long (lL z15), .long (lL z14)]) (kX1_drivesFrom qb4 (by omega) (by omega)) gX6_keyOf_X1_drivesFrom rfl (by decide +kernel) ⟨Nat.le_of_ble_eq_true rfl, Nat.le_of_ble_eq_true rfl⟩ qb4 rfl rfl rfl rfl (Nat.le_of_ble_eq_true rfl) dX6_keyOf_61 rfl WM8 (fun r17 M18 h19 => ?_)
    obtain ⟨z21, rfl, lz21, uz21, WM18, FM18⟩ := h19
    have EM18 := Fr.tr EM8 (FM18.mono (c2 := []) rfl)
    refine A_st (st' := [.int (iI z21), .long (lL z15), .long (lL z14)]) rfl ?_
    refine A_i2l C (by omega) dX6_keyOf_64 ?_
    refine A_lmul C dX6_keyOf_65 ?_
    refine A_topl (fun z22 rz22 ez22 => ?_)
    refine A_lsub C dX6_keyOf_66 ?_
    refine A_topl (fun z23 rz23 ez23 => ?_)
    exact A_lret C dX6_keyOf_67 ⟨z23, rfl, by omega, WM18, EM18⟩
  · skip
    refine A_ldc2 C (index := 99) (v := 4611686018427387904) (z := 4611686018427387904) (by decide +kernel) (by decide +kernel) dX6_keyOf_35 ?_
    exact A_lret C dX6_keyOf_38 ⟨4611686018427387904, rfl, by omega, WM8, EM8⟩

theorem uX6_leastRight_6 : ∀ w ∈ u_ws RX6 TX6 7, w ∈ wsX6_leastRight := by decide +kernel
theorem uX6_leastRight_4 : ∀ w ∈ u_ws RX4 TX4 2, w ∈ wsX6_leastRight := by decide +kernel
theorem uX6_leastRight_1 : ∀ w ∈ u_ws RX1 TX1 9, w ∈ wsX6_leastRight := by decide +kernel
theorem fX6_leastRight_9 : Fl RX6 wsX6_leastRight 6 1 9 RX6 TX6 7 := ⟨rfl, by decide, uX6_leastRight_6, by decide +kernel⟩
theorem fX6_leastRight_33 : Fl RX6 wsX6_leastRight 6 0 33 RX6 TX6 7 := ⟨rfl, by decide, uX6_leastRight_6, by decide +kernel⟩
theorem fX6_leastRight_90 : Fl RX6 wsX6_leastRight 4 0 90 RX4 TX4 2 := ⟨rfl, by decide, uX6_leastRight_4, by decide +kernel⟩
theorem fX6_leastRight_94 : Fl RX6 wsX6_leastRight 1 1 94 RX1 TX1 9 := ⟨rfl, by decide, uX6_leastRight_1, by decide +kernel⟩
set_option maxHeartbeats 4000000 in
theorem lpX6_leastRight_33 {p : Program} {l : Launch} {e : Env} {s : State} {m : MethodId} {args : Array Value} {below : List Frame} {meth : Method} {c : Code} {G : xG} (C : Cx p s m args meth c G cX6_leastRight 11 RX6 wsX6_leastRight (some .int))  {a : Nat} (ha : kd a = 17) {x1 : Int} {x2 : Int} {x3 : Int} (hx1 : (0 : Int) ≤ x1 ∧ x1 ≤ 11) (hx2 : (0 : Int) ≤ x2 ∧ x2 ≤ 24) (hx3 : r64 x3) {M0 : Mem} : ∀ (n : Nat) (v5 v6 : Int) (M : Mem), (26 - v6).toNat < n → (0 ≤ v5 ∧ v5 ≤ 24 ∧ 0 ≤ v6 ∧ v6 ≤ 25) → WF M → Fr [] M0 M → AW p l e (rmD 3) s m args below meth c G 11 (QQ G below args s ((fun M r M' => ∃ z : Int, r = some (.int (iI z)) ∧ (-1 : Int) ≤ z ∧ z ≤ 24 ∧ WF M' ∧ Fr [] M M') M0)) M 33 [(0, .ref a), (1, .int (iI x1)), (2, .int (iI x2)), (3, .long (lL x3)), (5, .int (iI v5)), (6, .int (iI v6))] [] := by
  intro n
  induction n with
  | zero => intro v5 v6 M hn; exact absurd hn (Nat.not_lt_zero _)
  | succ n ih =>
    intro v5 v6 M hn hi W E
    refine A_iload C dX6_leastRight_33 5 rfl ?_
    refine A_iload C dX6_leastRight_35 4 rfl ?_
    refine A_icmpgt C 103 dX6_leastRight_37 (by decide) (by omega) (by omega) (fun c1 => ?_) (fun c1 => ?_)
    · skip
      refine A_iconst C dX6_leastRight_103 ?_
      exact A_iret C dX6_leastRight_104 ⟨(-1), rfl, by omega, by omega, W, E⟩
    · skip
      refine A_aloadn C dX6_leastRight_40 0 rfl rfl ?_
      refine A_iloadn C dX6_leastRight_41 1 rfl rfl ?_
      refine A_iloadn C dX6_leastRight_42 2 rfl rfl ?_
      refine A_iload C dX6_leastRight_43 5 rfl ?_
      refine A_callV C (n := 3) (st := []) (kX6_keyOf ha (by omega) (by omega) (by omega)) gX6_leastRight_X6_keyOf rfl (by decide +kernel) ⟨Nat.le_of_ble_eq_true rfl, Nat.le_of_ble_eq_true rfl⟩ ha rfl rfl rfl rfl (Nat.le_of_ble_eq_true rfl) dX6_leastRight_45 rfl W (fun r2 M3 h4 => ?_)
      obtain ⟨z6, rfl, rz6, WM3, FM3⟩ := h4
      have EM3 := Fr.tr E (FM3.mono (c2 := []) rfl)
      refine A_st (st' := [.long (lL z6)]) rfl ?_
      refine A_lstore (lv' := [(7, .long (lL z6)), (0, .ref a), (1, .int (iI x1)), (2, .int (iI x2)), (3, .long (lL x3)), (5, .int (iI v5)), (6, .int (iI v6))]) C dX6_leastRight_48 (by decide) rfl ?_
      refine A_aloadn C dX6_leastRight_50 1 rfl rfl ?_
      refine G_getR C WM3 ha rfl rfl rfl rfl fX6_leastRight_9 dX6_leastRight_51 (fun b7 hb7 qb7 => ?_)
      refine A_iloadn C dX6_leastRight_54 2 rfl rfl ?_
      refine A_iconst C dX6_leastRight_55 ?_
      refine A_iadd C dX6_leastRight_56 ?_
      refine A_bipush C dX6_leastRight_57 (by decide) ?_
      refine A_imul C dX6_leastRight_59 ?_
      refine A_iload C dX6_leastRight_60 6 rfl ?_
      refine A_iadd C dX6_leastRight_62 ?_
      refine G_lald C WM3 qb7 rfl rfl (by decide) (by omega) (by omega) dX6_leastRight_63 (fun z8 ez8 rz8 => ?_)
      refine A_lstore (lv' := [(9, .long (lL z8)), (7, .long (lL z6)), (0, .ref a), (1, .int (iI x1)), (2, .int (iI x2)), (3, .long (lL x3)), (5, .int (iI v5)), (6, .int (iI v6))]) C dX6_leastRight_64 (by decide) rfl ?_
      refine A_lload C dX6_leastRight_66 1 rfl ?_
      refine A_ldc2 C (index := 99) (v := 4611686018427387904) (z := 4611686018427387904) (by decide +kernel) (by decide +kernel) dX6_leastRight_68 ?_
      refine A_lcmp C (by omega) (by omega) dX6_leastRight_71 (fun z9 cz9 => ?_)
      refine A_ifeq C 97 dX6_leastRight_72 (by decide) (by omega) (fun c10 => ?_) (fun c10 => ?_)
      · skip
        refine A_iinc (lv' := [(6, .int (iI (v6 + 1))), (9, .long (lL z8)), (7, .long (lL z6)), (0, .ref a), (1, .int (iI x1)), (2, .int (iI x2)), (3, .long (lL x3)), (5, .int (iI v5))]) C dX6_leastRight_97 7 rfl (by decide) rfl ?_
        refine A_goto C 33 dX6_leastRight_100 (by decide) ?_
        refine A_pick [3, 4, 5, 6, 7, 0] rfl ?_
        exact ih v5 (v6 + 1) M3 (by omega) (by omega) WM3 EM3
      · skip
        refine A_lload C dX6_leastRight_75 0 rfl ?_
        refine A_ldc2 C (index := 99) (v := 4611686018427387904) (z := 4611686018427387904) (by decide +kernel) (by decide +kernel) dX6_leastRight_77 ?_
        refine A_lcmp C (by omega) (by omega) dX6_leastRight_80 (fun z11 cz11 => ?_)
        refine A_ifeq C 97 dX6_leastRight_81 (by decide) (by omega) (fun c12 => ?_) (fun c12 => ?_)
        · skip
          refine A_iinc (lv' := [(6, .int (iI (v6 + 1))), (9, .long (lL z8)), (7, .long (lL z6)), (0, .ref a), (1, .int (iI x1)), (2, .int (iI x2)), (3, .long (lL x3)), (5, .int (iI v5))]) C dX6_leastRight_97 7 rfl (by decide) rfl ?_
          refine A_goto C 33 dX6_leastRight_100 (by decide) ?_
          refine A_pick [3, 4, 5, 6, 7, 0] rfl ?_
          exact ih v5 (v6 + 1) M3 (by omega) (by omega) WM3 EM3
        · skip
          refine A_lload C dX6_leastRight_84 1 rfl ?_
          refine A_lload C dX6_leastRight_86 0 rfl ?_
          refine A_ladd C dX6_leastRight_88 ?_
          refine A_topl (fun z13 rz13 ez13 => ?_)
          refine A_lloadn C dX6_leastRight_89 5 rfl rfl ?_
          refine A_lcmp C (by omega) (by omega) dX6_leastRight_90 (fun z14 cz14 => ?_)
          refine A_ifgt C 97 dX6_leastRight_91 (by decide) (by omega) (fun c15 => ?_) (fun c15 => ?_)
          · skip
            refine A_iinc (lv' := [(6, .int (iI (v6 + 1))), (9, .long (lL z8)), (7, .long (lL z6)), (0, .ref a), (1, .int (iI x1)), (2, .int (iI x2)), (3, .long (lL x3)), (5, .int (iI v5))]) C dX6_leastRight_97 7 rfl (by decide) rfl ?_
            refine A_goto C 33 dX6_leastRight_100 (by decide) ?_
            refine A_pick [3, 4, 5, 6, 7, 0] rfl ?_
            exact ih v5 (v6 + 1) M3 (by omega) (by omega) WM3 EM3
          · skip
            refine A_iload C dX6_leastRight_94 7 rfl ?_
            exact A_iret C dX6_leastRight_96 ⟨v6, rfl, by omega, by omega, WM3, EM3⟩
set_option maxHeartbeats 4000000 in
theorem kX6_leastRight  {a : Nat} (ha : kd a = 17) {x1 : Int} {x2 : Int} {x3 : Int} (hx1 : (0 : Int) ≤ x1 ∧ x1 ≤ 11) (hx2 : (0 : Int) ≤ x2 ∧ x2 ≤ 24) (hx3 : r64 x3) : Ct yX6_leastRight wsX6_leastRight 3 [.ref a, .int (iI x1), .int (iI x2), .long (lL x3)] (fun M => WF M) (fun M r M' => ∃ z : Int, r = some (.int (iI z)) ∧ (-1 : Int) ≤ z ∧ z ≤ 24 ∧ WF M' ∧ Fr [] M M') := by
  refine Ct_of (cc := cX6_leastRight) (nL := 11) (rt := (some .int)) (own := RX6) rfl (by decide) rfl (Nat.le_of_ble_eq_true rfl) ?_
  intro p l e s m args below meth c G M0 C W
  have E : Fr [] M0 M0 := Fr.rf
  refine A_lv (lv' := [(0, .ref a), (1, .int (iI x1)), (2, .int (iI x2)), (3, .long (lL x3))]) rfl ?_
  refine A_iloadn C dX6_leastRight_0 2 rfl rfl ?_
  refine A_iconst C dX6_leastRight_1 ?_
  refine A_iadd C dX6_leastRight_2 ?_
  refine A_iconst C dX6_leastRight_3 ?_
  refine A_isub C dX6_leastRight_4 ?_
  refine A_aloadn C dX6_leastRight_5 0 rfl rfl ?_
  obtain ⟨b16, hb16, qb16⟩ := W.2.2.2 a ha
  refine A_getR C ha rfl rfl rfl hb16 fX6_leastRight_33 dX6_leastRight_6 ?_
  obtain ⟨b18, hb18, qb18⟩ := gr_cols W qb16
  refine gr_getR C qb16 hb18 fX6_leastRight_90 dX6_leastRight_9 ?_
  refine A_iloadn C dX6_leastRight_12 1 rfl rfl ?_
  refine G_aald C W qb18 (by omega) (by omega) dX6_leastRight_13 (fun b19 hb19 qb19 => ?_)
  refine G_getI C W qb19 rfl rfl rfl rfl rfl fX6_leastRight_94 rfl dX6_leastRight_14 (fun z20 ez20 lz20 uz20 => ?_)
  refine A_min C (by omega) (by omega) (by decide +kernel) (by decide +kernel) (by decide +kernel) (by decide +kernel) (Nat.le_of_ble_eq_true rfl) (Nat.le_of_ble_eq_true rfl) dX6_leastRight_17 (fun z21 ez21 lz21 uz21 => ?_)
  refine A_istore (lv' := [(5, .int (iI z21)), (0, .ref a), (1, .int (iI x1)), (2, .int (iI x2)), (3, .long (lL x3))]) C dX6_leastRight_20 (by decide) rfl ?_
  refine A_iloadn C dX6_leastRight_22 3 rfl rfl ?_
  refine A_iconst C dX6_leastRight_23 ?_
  refine A_isub C dX6_leastRight_24 ?_
  refine A_iconst C dX6_leastRight_25 ?_
  refine A_iadd C dX6_leastRight_26 ?_
  refine A_iconst C dX6_leastRight_27 ?_
  refine A_max C (by omega) (by omega) (by decide +kernel) (by decide +kernel) (by decide +kernel) (by decide +kernel) (Nat.le_of_ble_eq_true rfl) (Nat.le_of_ble_eq_true rfl) dX6_leastRight_28 (fun z22 ez22 lz22 uz22 => ?_)
  refine A_istore (lv' := [(6, .int (iI z22)), (5, .int (iI z21)), (0, .ref a), (1, .int (iI x1)), (2, .int (iI x2)), (3, .long (lL x3))]) C dX6_leastRight_31 (by decide) rfl ?_
  refine A_pick [2, 3, 4, 5, 1, 0] rfl ?_
  exact lpX6_leastRight_33 C  ha hx1 hx2 hx3 ((26 - z22).toNat + 1) z21 z22 M0 (by omega) (by omega) W E

theorem uX6_weighColumn_6 : ∀ w ∈ u_ws RX6 TX6 7, w ∈ wsX6_weighColumn := by decide +kernel
theorem uX6_weighColumn_1 : ∀ w ∈ u_ws RX1 TX1 9, w ∈ wsX6_weighColumn := by decide +kernel
theorem uX6_weighColumn_4 : ∀ w ∈ u_ws RX4 TX4 2, w ∈ wsX6_weighColumn := by decide +kernel
theorem fX6_weighColumn_22 : Fl RX6 wsX6_weighColumn 6 4 22 RX6 TX6 7 := ⟨rfl, by decide, uX6_weighColumn_6, by decide +kernel⟩
theorem fX6_weighColumn_18 : Fl RX6 wsX6_weighColumn 6 3 18 RX6 TX6 7 := ⟨rfl, by decide, uX6_weighColumn_6, by decide +kernel⟩
theorem fX6_weighColumn_94 : Fl RX6 wsX6_weighColumn 1 1 94 RX1 TX1 9 := ⟨rfl, by decide, uX6_weighColumn_1, by decide +kernel⟩
theorem fX6_weighColumn_33 : Fl RX6 wsX6_weighColumn 6 0 33 RX6 TX6 7 := ⟨rfl, by decide, uX6_weighColumn_6, by decide +kernel⟩
theorem fX6_weighColumn_90 : Fl RX6 wsX6_weighColumn 4 0 90 RX4 TX4 2 := ⟨rfl, by decide, uX6_weighColumn_4, by decide +kernel⟩
set_option maxHeartbeats 4000000 in
theorem lpX6_weighColumn_23 {p : Program} {l : Launch} {e : Env} {s : State} {m : MethodId} {args : Array Value} {below : List Frame} {meth : Method} {c : Code} {G : xG} (C : Cx p s m args meth c G cX6_weighColumn 10 RX6 wsX6_weighColumn none)  {a : Nat} (ha : kd a = 17) {x1 : Int} (hx1 : (0 : Int) ≤ x1 ∧ x1 ≤ 11) {M0 : Mem} {y2 : Nat} (hy_2 : kd y2 = 8) {N12 : Nat} (H12 : ∀ (v3 : Int) (M : Mem), (25 - v3).toNat < N12 → (0 ≤ v3 ∧ v3 ≤ 24) → WF M → Fr [18] M0 M → AW p l e (rmD 2) s m args below meth c G 10 (QQ G below args s ((fun M r M' => r = none ∧ WF M' ∧ Fr [18] M M') M0)) M 12 [(0, .ref a), (1, .int (iI x1)), (2, .ref y2), (3, .int (iI v3))] []) : ∀ (n : Nat) (v3 v4 : Int) (M : Mem), (6 - v4).toNat < n → (0 ≤ v3 ∧ v3 ≤ 23 ∧ 0 ≤ v4 ∧ v4 ≤ 5 ∧ (25 - v3).toNat ≤ N12) → WF M → Fr [18] M0 M → AW p l e (rmD 2) s m args below meth c G 10 (QQ G below args s ((fun M r M' => r = none ∧ WF M' ∧ Fr [18] M M') M0)) M 23 [(0, .ref a), (1, .int (iI x1)), (2, .ref y2), (3, .int (iI v3)), (4, .int (iI v4))] [] := by
  intro n
  induction n with
  | zero => intro v3 v4 M hn; exact absurd hn (Nat.not_lt_zero _)
  | succ n ih =>
    intro v3 v4 M hn hi W E
    refine A_iload C dX6_weighColumn_23 4 rfl ?_
    refine A_iconst C dX6_weighColumn_25 ?_
    refine A_icmpge C 111 dX6_weighColumn_26 (by decide) (by omega) (by omega) (fun c1 => ?_) (fun c1 => ?_)
    · skip
      refine A_iinc (lv' := [(3, .int (iI (v3 + 1))), (0, .ref a), (1, .int (iI x1)), (2, .ref y2), (4, .int (iI v4))]) C dX6_weighColumn_111 3 rfl (by decide) rfl ?_
      refine A_goto C 12 dX6_weighColumn_114 (by decide) ?_
      refine A_pick [1, 2, 3, 0] rfl ?_
      exact H12 (v3 + 1) M (by omega) (by omega) W E
    · skip
      refine A_aloadn C dX6_weighColumn_29 2 rfl rfl ?_
      refine A_iloadn C dX6_weighColumn_30 3 rfl rfl ?_
      refine A_iload C dX6_weighColumn_31 4 rfl ?_
      refine A_callV C (n := 2) (st := []) (kX1_holdsAt hy_2 (by omega) (by omega) (by omega) (by omega)) gX6_weighColumn_X1_holdsAt rfl (by decide +kernel) ⟨Nat.le_of_ble_eq_true rfl, Nat.le_of_ble_eq_true rfl⟩ hy_2 rfl rfl rfl rfl (Nat.le_of_ble_eq_true rfl) dX6_weighColumn_33 rfl W (fun r2 M3 h4 => ?_)
      obtain ⟨z6, rfl, lz6, uz6, WM3, FM3, xx5⟩ := h4
      have EM3 := Fr.tr E (FM3.mono (c2 := [18]) rfl)
      refine A_st (st' := [.int (iI z6)]) rfl ?_
      refine A_istore (lv' := [(5, .int (iI z6)), (0, .ref a), (1, .int (iI x1)), (2, .ref y2), (3, .int (iI v3)), (4, .int (iI v4))]) C dX6_weighColumn_36 (by decide) rfl ?_
      refine A_iload C dX6_weighColumn_38 0 rfl ?_
      refine A_iconst C dX6_weighColumn_40 ?_
      refine A_icmpne C 47 dX6_weighColumn_41 (by decide) (by omega) (by omega) (fun c7 => ?_) (fun c7 => ?_)
      · skip
        refine A_aloadn C dX6_weighColumn_47 1 rfl rfl ?_
        refine G_getL C WM3 ha rfl rfl rfl fX6_weighColumn_22 dX6_weighColumn_48 (fun z8 ez8 rz8 => ?_)
        refine A_iload C dX6_weighColumn_51 0 rfl ?_
        refine A_i2l C (by omega) dX6_weighColumn_53 ?_
        refine A_lmul C dX6_weighColumn_54 ?_
        refine A_topl (fun z9 rz9 ez9 => ?_)
        refine A_lstore (lv' := [(6, .long (lL z9)), (5, .int (iI z6)), (0, .ref a), (1, .int (iI x1)), (2, .ref y2), (3, .int (iI v3)), (4, .int (iI v4))]) C dX6_weighColumn_55 (by decide) rfl ?_
        refine A_aloadn C dX6_weighColumn_57 2 rfl rfl ?_
        refine G_getL C WM3 ha rfl rfl rfl fX6_weighColumn_18 dX6_weighColumn_58 (fun z10 ez10 rz10 => ?_)
        refine A_aloadn C dX6_weighColumn_61 4 rfl rfl ?_
        refine A_iloadn C dX6_weighColumn_62 5 rfl rfl ?_
        refine A_iload C dX6_weighColumn_63 6 rfl ?_
        refine A_iadd C dX6_weighColumn_65 ?_
        refine A_iload C dX6_weighColumn_66 6 rfl ?_
        refine A_callV C (n := 2) (st := [.long (lL z10)]) (kX1_drivesFrom hy_2 (by omega) (by omega)) gX6_weighColumn_X1_drivesFrom rfl (by decide +kernel) ⟨Nat.le_of_ble_eq_true rfl, Nat.le_of_ble_eq_true rfl⟩ hy_2 rfl rfl rfl rfl (Nat.le_of_ble_eq_true rfl) dX6_weighColumn_68 rfl WM3 (fun r11 M12 h13 => ?_)
        obtain ⟨z15, rfl, lz15, uz15, WM12, FM12⟩ := h13
        have EM12 := Fr.tr EM3 (FM12.mono (c2 := [18]) rfl)
        refine A_st (st' := [.int (iI z15), .long (lL z10)]) rfl ?_
        refine A_i2l C (by omega) dX6_weighColumn_71 ?_
        refine A_lmul C dX6_weighColumn_72 ?_
        refine A_topl (fun z16 rz16 ez16 => ?_)
        refine A_lstore (lv' := [(8, .long (lL z16)), (6, .long (lL z9)), (5, .int (iI z6)), (0, .ref a), (1, .int (iI x1)), (2, .ref y2), (3, .int (iI v3)), (4, .int (iI v4))]) C dX6_weighColumn_73 (by decide) rfl ?_
        refine A_aloadn C dX6_weighColumn_75 3 rfl rfl ?_
        refine A_iloadn C dX6_weighColumn_76 4 rfl rfl ?_
        refine A_iloadn C dX6_weighColumn_77 6 rfl rfl ?_
        refine A_iloadn C dX6_weighColumn_78 6 rfl rfl ?_
        refine A_iload C dX6_weighColumn_79 7 rfl ?_
        refine A_iadd C dX6_weighColumn_81 ?_
        refine A_lload C dX6_weighColumn_82 1 rfl ?_
        refine A_lload C dX6_weighColumn_84 0 rfl ?_
        refine A_ladd C dX6_weighColumn_86 ?_
        refine A_topl (fun z17 rz17 ez17 => ?_)
        refine A_callV C (n := 4) (st := []) (kX6_better ha (by omega) (by omega) (by omega) (by omega)) gX6_weighColumn_X6_better rfl (by decide +kernel) ⟨Nat.le_of_ble_eq_true rfl, Nat.le_of_ble_eq_true rfl⟩ ha rfl rfl rfl rfl (Nat.le_of_ble_eq_true rfl) dX6_weighColumn_87 rfl WM12 (fun r18 M19 h20 => ?_)
        obtain ⟨rfl, WM19, FM19⟩ := h20
        have EM19 := Fr.tr EM12 (FM19.mono (c2 := [18]) rfl)
        refine A_st (st' := []) rfl ?_
        refine A_aloadn C dX6_weighColumn_90 3 rfl rfl ?_
        refine A_iloadn C dX6_weighColumn_91 4 rfl rfl ?_
        refine A_iloadn C dX6_weighColumn_92 6 rfl rfl ?_
        refine A_iload C dX6_weighColumn_93 7 rfl ?_
        refine A_iadd C dX6_weighColumn_95 ?_
        refine A_iloadn C dX6_weighColumn_96 6 rfl rfl ?_
        refine A_lload C dX6_weighColumn_97 1 rfl ?_
        refine A_lload C dX6_weighColumn_99 0 rfl ?_
        refine A_lsub C dX6_weighColumn_101 ?_
        refine A_topl (fun z22 rz22 ez22 => ?_)
        refine A_callV C (n := 4) (st := []) (kX6_better ha (by omega) (by omega) (by omega) (by omega)) gX6_weighColumn_X6_better rfl (by decide +kernel) ⟨Nat.le_of_ble_eq_true rfl, Nat.le_of_ble_eq_true rfl⟩ ha rfl rfl rfl rfl (Nat.le_of_ble_eq_true rfl) dX6_weighColumn_102 rfl WM19 (fun r23 M24 h25 => ?_)
        obtain ⟨rfl, WM24, FM24⟩ := h25
        have EM24 := Fr.tr EM19 (FM24.mono (c2 := [18]) rfl)
        refine A_st (st' := []) rfl ?_
        refine A_iinc (lv' := [(4, .int (iI (v4 + 1))), (8, .long (lL z16)), (6, .long (lL z9)), (5, .int (iI z6)), (0, .ref a), (1, .int (iI x1)), (2, .ref y2), (3, .int (iI v3))]) C dX6_weighColumn_105 7 rfl (by decide) rfl ?_
        refine A_goto C 23 dX6_weighColumn_108 (by decide) ?_
        refine A_pick [4, 5, 6, 7, 0] rfl ?_
        exact ih v3 (v4 + 1) M24 (by omega) (by omega) WM24 EM24
      · skip
        refine A_goto C 111 dX6_weighColumn_44 (by decide) ?_
        refine A_iinc (lv' := [(3, .int (iI (v3 + 1))), (5, .int (iI z6)), (0, .ref a), (1, .int (iI x1)), (2, .ref y2), (4, .int (iI v4))]) C dX6_weighColumn_111 4 rfl (by decide) rfl ?_
        refine A_goto C 12 dX6_weighColumn_114 (by decide) ?_
        refine A_pick [2, 3, 4, 0] rfl ?_
        exact H12 (v3 + 1) M3 (by omega) (by omega) WM3 EM3
set_option maxHeartbeats 4000000 in
theorem lpX6_weighColumn_12 {p : Program} {l : Launch} {e : Env} {s : State} {m : MethodId} {args : Array Value} {below : List Frame} {meth : Method} {c : Code} {G : xG} (C : Cx p s m args meth c G cX6_weighColumn 10 RX6 wsX6_weighColumn none)  {a : Nat} (ha : kd a = 17) {x1 : Int} (hx1 : (0 : Int) ≤ x1 ∧ x1 ≤ 11) {M0 : Mem} {y2 : Nat} (hy_2 : kd y2 = 8) : ∀ (n : Nat) (v3 : Int) (M : Mem), (25 - v3).toNat < n → (0 ≤ v3 ∧ v3 ≤ 24) → WF M → Fr [18] M0 M → AW p l e (rmD 2) s m args below meth c G 10 (QQ G below args s ((fun M r M' => r = none ∧ WF M' ∧ Fr [18] M M') M0)) M 12 [(0, .ref a), (1, .int (iI x1)), (2, .ref y2), (3, .int (iI v3))] [] := by
  intro n
  induction n with
  | zero => intro v3 M hn; exact absurd hn (Nat.not_lt_zero _)
  | succ n ih =>
    intro v3 M hn hi W E
    refine A_iloadn C dX6_weighColumn_12 3 rfl rfl ?_
    refine A_aloadn C dX6_weighColumn_13 2 rfl rfl ?_
    refine G_getI C W hy_2 rfl rfl rfl rfl rfl fX6_weighColumn_94 rfl dX6_weighColumn_14 (fun z27 ez27 lz27 uz27 => ?_)
    refine A_icmpge C 117 dX6_weighColumn_17 (by decide) (by omega) (by omega) (fun c28 => ?_) (fun c28 => ?_)
    · skip
      exact A_vret C dX6_weighColumn_117 ⟨rfl, W, E⟩
    · skip
      refine A_iconst C dX6_weighColumn_20 ?_
      refine A_istore (lv' := [(4, .int (iI 0)), (0, .ref a), (1, .int (iI x1)), (2, .ref y2), (3, .int (iI v3))]) C dX6_weighColumn_21 (by decide) rfl ?_
      refine A_pick [1, 2, 3, 4, 0] rfl ?_
      exact lpX6_weighColumn_23 C  ha hx1 hy_2 ih ((6 - (0 : Int)).toNat + 1) v3 0 M (by omega) (by omega) W E
set_option maxHeartbeats 4000000 in
theorem kX6_weighColumn  {a : Nat} (ha : kd a = 17) {x1 : Int} (hx1 : (0 : Int) ≤ x1 ∧ x1 ≤ 11) : Ct yX6_weighColumn wsX6_weighColumn 2 [.ref a, .int (iI x1)] (fun M => WF M) (fun M r M' => r = none ∧ WF M' ∧ Fr [18] M M') := by
  refine Ct_of (cc := cX6_weighColumn) (nL := 10) (rt := none) (own := RX6) rfl (by decide) rfl (Nat.le_of_ble_eq_true rfl) ?_
  intro p l e s m args below meth c G M0 C W
  have E : Fr [18] M0 M0 := Fr.rf
  refine A_lv (lv' := [(0, .ref a), (1, .int (iI x1))]) rfl ?_
  refine A_aloadn C dX6_weighColumn_0 0 rfl rfl ?_
  obtain ⟨b29, hb29, qb29⟩ := W.2.2.2 a ha
  refine A_getR C ha rfl rfl rfl hb29 fX6_weighColumn_33 dX6_weighColumn_1 ?_
  obtain ⟨b31, hb31, qb31⟩ := gr_cols W qb29
  refine gr_getR C qb29 hb31 fX6_weighColumn_90 dX6_weighColumn_4 ?_
  refine A_iloadn C dX6_weighColumn_7 1 rfl rfl ?_
  refine G_aald C W qb31 (by omega) (by omega) dX6_weighColumn_8 (fun b32 hb32 qb32 => ?_)
  refine A_astoren (lv' := [(2, .ref b32), (0, .ref a), (1, .int (iI x1))]) C dX6_weighColumn_9 rfl (by decide) rfl ?_
  refine A_iconst C dX6_weighColumn_10 ?_
  refine A_istoren (lv' := [(3, .int (iI 0)), (2, .ref b32), (0, .ref a), (1, .int (iI x1))]) C dX6_weighColumn_11 rfl (by decide) rfl ?_
  refine A_pick [2, 3, 1, 0] rfl ?_
  exact lpX6_weighColumn_12 C  ha hx1 qb32 ((25 - (0 : Int)).toNat + 1) 0 M0 (by omega) (by omega) W E
