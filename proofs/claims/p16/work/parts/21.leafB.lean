theorem uX1_copy_1 : ∀ w ∈ u_ws RX1 TX1 9, w ∈ wsX1_copy := by decide +kernel
theorem fX1_copy_9 : Fl RX1 wsX1_copy 1 1 9 RX1 TX1 9 := ⟨rfl, by decide, uX1_copy_1, by decide +kernel⟩
theorem fX1_copy_15 : Fl RX1 wsX1_copy 1 2 15 RX1 TX1 9 := ⟨rfl, by decide, uX1_copy_1, by decide +kernel⟩
theorem fX1_copy_18 : Fl RX1 wsX1_copy 1 3 18 RX1 TX1 9 := ⟨rfl, by decide, uX1_copy_1, by decide +kernel⟩
theorem fX1_copy_21 : Fl RX1 wsX1_copy 1 4 21 RX1 TX1 9 := ⟨rfl, by decide, uX1_copy_1, by decide +kernel⟩
theorem fX1_copy_24 : Fl RX1 wsX1_copy 1 6 24 RX1 TX1 9 := ⟨rfl, by decide, uX1_copy_1, by decide +kernel⟩
theorem fX1_copy_28 : Fl RX1 wsX1_copy 1 7 28 RX1 TX1 9 := ⟨rfl, by decide, uX1_copy_1, by decide +kernel⟩
theorem fX1_copy_31 : Fl RX1 wsX1_copy 1 8 31 RX1 TX1 9 := ⟨rfl, by decide, uX1_copy_1, by decide +kernel⟩
set_option maxHeartbeats 4000000 in
theorem kX1_copy  {a : Nat} (ha : kd a = 8) {b : Nat} (hb : kd b = 8) : Ct yX1_copy wsX1_copy 2 [.ref a, .ref b] (fun M => WF M) (fun M r M' => r = none ∧ WF M' ∧ Fr [8, 10, 11] M M') := by
  refine Ct_of (cc := cX1_copy) (nL := 2) (rt := none) (own := RX1) rfl (by decide) rfl (Nat.le_of_ble_eq_true rfl) ?_
  intro p l e s m args below meth c G M0 C W
  have E : Fr [8, 10, 11] M0 M0 := Fr.rf
  refine A_lv (lv' := [(0, .ref a), (1, .ref b)]) rfl ?_
  refine A_aloadn C dX1_copy_0 0 rfl rfl ?_
  refine A_aloadn C dX1_copy_1 1 rfl rfl ?_
  refine G_getI C W hb rfl rfl rfl rfl rfl fX1_copy_9 rfl dX1_copy_2 (fun z1 ez1 lz1 uz1 => ?_)
  refine G_putI C W E ha rfl rfl rfl rfl rfl fX1_copy_9 ⟨tyX1_ok, nmX1, rfl, by decide⟩ (Or.inl rfl) rfl rfl (by omega) (by omega) dX1_copy_5 (fun M2 eM2 WM2 EM2 => ?_)
  refine A_aloadn C dX1_copy_8 0 rfl rfl ?_
  refine A_aloadn C dX1_copy_9 1 rfl rfl ?_
  refine G_getI C WM2 hb rfl rfl rfl rfl rfl fX1_copy_15 rfl dX1_copy_10 (fun z3 ez3 lz3 uz3 => ?_)
  refine G_putI C WM2 EM2 ha rfl rfl rfl rfl rfl fX1_copy_15 ⟨tyX1_ok, nmX1, rfl, by decide⟩ (Or.inl rfl) rfl rfl (by omega) (by omega) dX1_copy_13 (fun M4 eM4 WM4 EM4 => ?_)
  refine A_aloadn C dX1_copy_16 0 rfl rfl ?_
  refine A_aloadn C dX1_copy_17 1 rfl rfl ?_
  refine G_getI C WM4 hb rfl rfl rfl rfl rfl fX1_copy_18 rfl dX1_copy_18 (fun z5 ez5 lz5 uz5 => ?_)
  refine G_putI C WM4 EM4 ha rfl rfl rfl rfl rfl fX1_copy_18 ⟨tyX1_ok, nmX1, rfl, by decide⟩ (Or.inl rfl) rfl rfl (by omega) (by omega) dX1_copy_21 (fun M6 eM6 WM6 EM6 => ?_)
  refine A_aloadn C dX1_copy_24 0 rfl rfl ?_
  refine A_aloadn C dX1_copy_25 1 rfl rfl ?_
  refine G_getI C WM6 hb rfl rfl rfl rfl rfl fX1_copy_21 rfl dX1_copy_26 (fun z7 ez7 lz7 uz7 => ?_)
  refine G_putI C WM6 EM6 ha rfl rfl rfl rfl rfl fX1_copy_21 ⟨tyX1_ok, nmX1, rfl, by decide⟩ (Or.inl rfl) rfl rfl (by omega) (by omega) dX1_copy_29 (fun M8 eM8 WM8 EM8 => ?_)
  refine A_aloadn C dX1_copy_32 1 rfl rfl ?_
  refine G_getR C WM8 hb rfl rfl rfl rfl fX1_copy_24 dX1_copy_33 (fun b9 hb9 qb9 => ?_)
  refine A_iconst C dX1_copy_36 ?_
  refine A_aloadn C dX1_copy_37 0 rfl rfl ?_
  refine G_getR C WM8 ha rfl rfl rfl rfl fX1_copy_24 dX1_copy_38 (fun b10 hb10 qb10 => ?_)
  refine A_iconst C dX1_copy_41 ?_
  refine A_bipush C dX1_copy_42 (by decide) ?_
  refine G_copy C WM8 EM8 qb9 qb10 rfl rfl (by decide) (fun _ => rfl) rfl (by decide +kernel) (by decide +kernel) (by decide +kernel) (by decide +kernel) (Nat.le_of_ble_eq_true rfl) (Nat.le_of_ble_eq_true rfl) dX1_copy_44 (fun M11 eM11 WM11 EM11 => ?_)
  refine A_aloadn C dX1_copy_47 1 rfl rfl ?_
  refine G_getR C WM11 hb rfl rfl rfl rfl fX1_copy_28 dX1_copy_48 (fun b12 hb12 qb12 => ?_)
  refine A_iconst C dX1_copy_51 ?_
  refine A_aloadn C dX1_copy_52 0 rfl rfl ?_
  refine G_getR C WM11 ha rfl rfl rfl rfl fX1_copy_28 dX1_copy_53 (fun b13 hb13 qb13 => ?_)
  refine A_iconst C dX1_copy_56 ?_
  refine A_bipush C dX1_copy_57 (by decide) ?_
  refine G_copy C WM11 EM11 qb12 qb13 rfl rfl (by decide) (fun _ => rfl) rfl (by decide +kernel) (by decide +kernel) (by decide +kernel) (by decide +kernel) (Nat.le_of_ble_eq_true rfl) (Nat.le_of_ble_eq_true rfl) dX1_copy_59 (fun M14 eM14 WM14 EM14 => ?_)
  refine A_aloadn C dX1_copy_62 0 rfl rfl ?_
  refine A_aloadn C dX1_copy_63 1 rfl rfl ?_
  refine G_getI C WM14 hb rfl rfl rfl rfl rfl fX1_copy_31 rfl dX1_copy_64 (fun z15 ez15 lz15 uz15 => ?_)
  refine G_putI C WM14 EM14 ha rfl rfl rfl rfl rfl fX1_copy_31 ⟨tyX1_ok, nmX1, rfl, by decide⟩ (Or.inr ⟨rfl, by omega⟩) rfl rfl (by omega) (by omega) dX1_copy_67 (fun M16 eM16 WM16 EM16 => ?_)
  exact A_vret C dX1_copy_70 ⟨rfl, WM16, EM16⟩

theorem uX1_reckonHolds_1 : ∀ w ∈ u_ws RX1 TX1 9, w ∈ wsX1_reckonHolds := by decide +kernel
theorem uX1_reckonHolds_2 : ∀ w ∈ u_ws RX2 TX2 5, w ∈ wsX1_reckonHolds := by decide +kernel
theorem fX1_reckonHolds_39 : Fl RX1 wsX1_reckonHolds 1 0 39 RX1 TX1 9 := ⟨rfl, by decide, uX1_reckonHolds_1, by decide +kernel⟩
theorem fX1_reckonHolds_35 : Fl RX1 wsX1_reckonHolds 1 5 35 RX1 TX1 9 := ⟨rfl, by decide, uX1_reckonHolds_1, by decide +kernel⟩
theorem fX1_reckonHolds_62 : Fl RX1 wsX1_reckonHolds 2 3 62 RX2 TX2 5 := ⟨rfl, by decide, uX1_reckonHolds_2, by decide +kernel⟩
theorem fX1_reckonHolds_15 : Fl RX1 wsX1_reckonHolds 1 2 15 RX1 TX1 9 := ⟨rfl, by decide, uX1_reckonHolds_1, by decide +kernel⟩
theorem fX1_reckonHolds_69 : Fl RX1 wsX1_reckonHolds 2 2 69 RX2 TX2 5 := ⟨rfl, by decide, uX1_reckonHolds_2, by decide +kernel⟩
theorem fX1_reckonHolds_24 : Fl RX1 wsX1_reckonHolds 1 6 24 RX1 TX1 9 := ⟨rfl, by decide, uX1_reckonHolds_1, by decide +kernel⟩
theorem fX1_reckonHolds_72 : Fl RX1 wsX1_reckonHolds 2 1 72 RX2 TX2 5 := ⟨rfl, by decide, uX1_reckonHolds_2, by decide +kernel⟩
theorem fX1_reckonHolds_21 : Fl RX1 wsX1_reckonHolds 1 4 21 RX1 TX1 9 := ⟨rfl, by decide, uX1_reckonHolds_1, by decide +kernel⟩
set_option maxHeartbeats 4000000 in
theorem kX1_reckonHolds  {a : Nat} (ha : kd a = 8) {x1 : Int} {x2 : Int} (hx1 : (0 : Int) ≤ x1 ∧ x1 ≤ 23) (hx2 : (0 : Int) ≤ x2 ∧ x2 ≤ 4) (hy0 : x1 + x2 ≤ 24) : Ct yX1_reckonHolds wsX1_reckonHolds 2 [.ref a, .int (iI x1), .int (iI x2)] (fun M => WF M) (fun M r M' => ∃ z : Int, r = some (.int (iI z)) ∧ (-2147483648 : Int) ≤ z ∧ z ≤ 2147483647 ∧ WF M' ∧ Fr [] M M') := by
  refine Ct_of (cc := cX1_reckonHolds) (nL := 8) (rt := (some .int)) (own := RX1) rfl (by decide) rfl (Nat.le_of_ble_eq_true rfl) ?_
  intro p l e s m args below meth c G M0 C W
  have E : Fr [] M0 M0 := Fr.rf
  refine A_lv (lv' := [(0, .ref a), (1, .int (iI x1)), (2, .int (iI x2))]) rfl ?_
  refine A_aloadn C dX1_reckonHolds_0 0 rfl rfl ?_
  refine G_getR C W ha rfl rfl rfl rfl fX1_reckonHolds_39 dX1_reckonHolds_1 (fun b1 hb1 qb1 => ?_)
  refine A_iloadn C dX1_reckonHolds_4 1 rfl rfl ?_
  refine G_iald C W qb1 rfl rfl (by decide) (fun _ => rfl) (by omega) (by omega) dX1_reckonHolds_5 (fun z2 ez2 lz2 uz2 => ?_)
  refine A_istoren (lv' := [(3, .int (iI z2)), (0, .ref a), (1, .int (iI x1)), (2, .int (iI x2))]) C dX1_reckonHolds_6 rfl (by decide) rfl ?_
  refine A_aloadn C dX1_reckonHolds_7 1 rfl rfl ?_
  refine G_getR C W ha rfl rfl rfl rfl fX1_reckonHolds_35 dX1_reckonHolds_8 (fun b3 hb3 qb3 => ?_)
  refine G_getR C W qb3 rfl rfl rfl rfl fX1_reckonHolds_62 dX1_reckonHolds_11 (fun b4 hb4 qb4 => ?_)
  refine A_iloadn C dX1_reckonHolds_14 0 rfl rfl ?_
  refine G_zald C W qb4 rfl rfl (by decide) (fun _ => rfl) (by omega) (by omega) dX1_reckonHolds_15 (fun z5 ez5 lz5 uz5 => ?_)
  refine A_ifeq C 21 dX1_reckonHolds_16 (by decide) (by omega) (fun c6 => ?_) (fun c6 => ?_)
  · skip
    refine A_iloadn C dX1_reckonHolds_21 2 rfl rfl ?_
    refine A_iloadn C dX1_reckonHolds_22 3 rfl rfl ?_
    refine A_iadd C dX1_reckonHolds_23 ?_
    refine A_nami (fun z7 ez7 => ?_)
    refine A_istore (lv' := [(4, .int (iI z7)), (3, .int (iI z2)), (0, .ref a), (1, .int (iI x1)), (2, .int (iI x2))]) C dX1_reckonHolds_24 (by decide) rfl ?_
    refine A_iconst C dX1_reckonHolds_26 ?_
    refine A_iloadn C dX1_reckonHolds_27 4 rfl rfl ?_
    refine A_iloadn C dX1_reckonHolds_28 4 rfl rfl ?_
    refine A_imul C dX1_reckonHolds_29 ?_
    refine A_topi (fun z8 rz8 ez8 => ?_)
    refine A_iadd C dX1_reckonHolds_30 ?_
    refine A_nami (fun z9 ez9 => ?_)
    refine A_istore (lv' := [(5, .int (iI z9)), (4, .int (iI z7)), (3, .int (iI z2)), (0, .ref a), (1, .int (iI x1)), (2, .int (iI x2))]) C dX1_reckonHolds_31 (by decide) rfl ?_
    refine A_bipush C dX1_reckonHolds_33 (by decide) ?_
    refine A_iload C dX1_reckonHolds_35 0 rfl ?_
    refine A_imul C dX1_reckonHolds_37 ?_
    refine A_topi (fun z10 rz10 ez10 => ?_)
    refine A_aloadn C dX1_reckonHolds_38 3 rfl rfl ?_
    refine G_getI C W ha rfl rfl rfl rfl rfl fX1_reckonHolds_15 rfl dX1_reckonHolds_39 (fun z11 ez11 lz11 uz11 => ?_)
    refine A_iload C dX1_reckonHolds_42 1 rfl ?_
    refine A_isub C dX1_reckonHolds_44 ?_
    refine A_topi (fun z12 rz12 ez12 => ?_)
    refine A_iconst C dX1_reckonHolds_45 ?_
    refine A_max C (by omega) (by omega) (by decide +kernel) (by decide +kernel) (by decide +kernel) (by decide +kernel) (Nat.le_of_ble_eq_true rfl) (Nat.le_of_ble_eq_true rfl) dX1_reckonHolds_46 (fun z13 ez13 lz13 uz13 => ?_)
    refine A_imul C dX1_reckonHolds_49 ?_
    refine A_topi (fun z14 rz14 ez14 => ?_)
    refine A_istore (lv' := [(6, .int (iI z14)), (5, .int (iI z9)), (4, .int (iI z7)), (3, .int (iI z2)), (0, .ref a), (1, .int (iI x1)), (2, .int (iI x2))]) C dX1_reckonHolds_50 (by decide) rfl ?_
    refine A_aloadn C dX1_reckonHolds_52 4 rfl rfl ?_
    refine G_getR C W ha rfl rfl rfl rfl fX1_reckonHolds_35 dX1_reckonHolds_53 (fun b15 hb15 qb15 => ?_)
    refine G_getR C W qb15 rfl rfl rfl rfl fX1_reckonHolds_69 dX1_reckonHolds_56 (fun b16 hb16 qb16 => ?_)
    refine A_iloadn C dX1_reckonHolds_59 3 rfl rfl ?_
    refine G_iald C W qb16 rfl rfl (by decide) (fun _ => rfl) (by omega) (by omega) dX1_reckonHolds_60 (fun z17 ez17 lz17 uz17 => ?_)
    refine A_aloadn C dX1_reckonHolds_61 4 rfl rfl ?_
    refine G_getR C W ha rfl rfl rfl rfl fX1_reckonHolds_24 dX1_reckonHolds_62 (fun b18 hb18 qb18 => ?_)
    refine A_iload C dX1_reckonHolds_65 2 rfl ?_
    refine G_iald C W qb18 rfl rfl (by decide) (fun _ => rfl) (by omega) (by omega) dX1_reckonHolds_67 (fun z19 ez19 lz19 uz19 => ?_)
    refine A_iload C dX1_reckonHolds_68 0 rfl ?_
    refine A_isub C dX1_reckonHolds_70 ?_
    refine A_topi (fun z20 rz20 ez20 => ?_)
    refine A_iconst C dX1_reckonHolds_71 ?_
    refine A_max C (by omega) (by omega) (by decide +kernel) (by decide +kernel) (by decide +kernel) (by decide +kernel) (Nat.le_of_ble_eq_true rfl) (Nat.le_of_ble_eq_true rfl) dX1_reckonHolds_72 (fun z21 ez21 lz21 uz21 => ?_)
    refine A_imul C dX1_reckonHolds_75 ?_
    refine A_topi (fun z22 rz22 ez22 => ?_)
    refine A_istore (lv' := [(7, .int (iI z22)), (6, .int (iI z14)), (5, .int (iI z9)), (4, .int (iI z7)), (3, .int (iI z2)), (0, .ref a), (1, .int (iI x1)), (2, .int (iI x2))]) C dX1_reckonHolds_76 (by decide) rfl ?_
    refine A_bipush C dX1_reckonHolds_78 (by decide) ?_
    refine A_aloadn C dX1_reckonHolds_80 5 rfl rfl ?_
    refine G_getR C W ha rfl rfl rfl rfl fX1_reckonHolds_35 dX1_reckonHolds_81 (fun b23 hb23 qb23 => ?_)
    refine G_getR C W qb23 rfl rfl rfl rfl fX1_reckonHolds_72 dX1_reckonHolds_84 (fun b24 hb24 qb24 => ?_)
    refine A_iloadn C dX1_reckonHolds_87 4 rfl rfl ?_
    refine G_iald C W qb24 rfl rfl (by decide) (fun _ => rfl) (by omega) (by omega) dX1_reckonHolds_88 (fun z25 ez25 lz25 uz25 => ?_)
    refine A_imul C dX1_reckonHolds_89 ?_
    refine A_topi (fun z26 rz26 ez26 => ?_)
    refine A_iload C dX1_reckonHolds_90 2 rfl ?_
    refine A_imul C dX1_reckonHolds_92 ?_
    refine A_topi (fun z27 rz27 ez27 => ?_)
    refine A_iload C dX1_reckonHolds_93 0 rfl ?_
    refine A_iadd C dX1_reckonHolds_95 ?_
    refine A_topi (fun z28 rz28 ez28 => ?_)
    refine A_bipush C dX1_reckonHolds_96 (by decide) ?_
    refine A_aloadn C dX1_reckonHolds_98 5 rfl rfl ?_
    refine G_getI C W ha rfl rfl rfl rfl rfl fX1_reckonHolds_21 rfl dX1_reckonHolds_99 (fun z29 ez29 lz29 uz29 => ?_)
    refine A_imul C dX1_reckonHolds_102 ?_
    refine A_topi (fun z30 rz30 ez30 => ?_)
    refine A_iadd C dX1_reckonHolds_103 ?_
    refine A_topi (fun z31 rz31 ez31 => ?_)
    exact A_iret C dX1_reckonHolds_104 ⟨z31, rfl, by omega, by omega, W, E⟩
  · skip
    refine A_iconst C dX1_reckonHolds_19 ?_
    exact A_iret C dX1_reckonHolds_20 ⟨(-1), rfl, by omega, by omega, W, E⟩

theorem uX1_reckon_1 : ∀ w ∈ u_ws RX1 TX1 9, w ∈ wsX1_reckon := by decide +kernel
theorem uX1_reckon_2 : ∀ w ∈ u_ws RX2 TX2 5, w ∈ wsX1_reckon := by decide +kernel
theorem fX1_reckon_28 : Fl RX1 wsX1_reckon 1 7 28 RX1 TX1 9 := ⟨rfl, by decide, uX1_reckon_1, by decide +kernel⟩
theorem fX1_reckon_9 : Fl RX1 wsX1_reckon 1 1 9 RX1 TX1 9 := ⟨rfl, by decide, uX1_reckon_1, by decide +kernel⟩
theorem fX1_reckon_31 : Fl RX1 wsX1_reckon 1 8 31 RX1 TX1 9 := ⟨rfl, by decide, uX1_reckon_1, by decide +kernel⟩
theorem fX1_reckon_24 : Fl RX1 wsX1_reckon 1 6 24 RX1 TX1 9 := ⟨rfl, by decide, uX1_reckon_1, by decide +kernel⟩
theorem fX1_reckon_35 : Fl RX1 wsX1_reckon 1 5 35 RX1 TX1 9 := ⟨rfl, by decide, uX1_reckon_1, by decide +kernel⟩
theorem fX1_reckon_54 : Fl RX1 wsX1_reckon 2 0 54 RX2 TX2 5 := ⟨rfl, by decide, uX1_reckon_2, by decide +kernel⟩
theorem fX1_reckon_39 : Fl RX1 wsX1_reckon 1 0 39 RX1 TX1 9 := ⟨rfl, by decide, uX1_reckon_1, by decide +kernel⟩
theorem fX1_reckon_18 : Fl RX1 wsX1_reckon 1 3 18 RX1 TX1 9 := ⟨rfl, by decide, uX1_reckon_1, by decide +kernel⟩
set_option maxHeartbeats 4000000 in
theorem lpX1_reckon_79 {p : Program} {l : Launch} {e : Env} {s : State} {m : MethodId} {args : Array Value} {below : List Frame} {meth : Method} {c : Code} {G : xG} (C : Cx p s m args meth c G cX1_reckon 3 RX1 wsX1_reckon none)  {a : Nat} (ha : kd a = 8) {M0 : Mem} {N69 : Nat} (H69 : ∀ (v1 : Int) (M : Mem), (25 - v1).toNat < N69 → (0 ≤ v1 ∧ v1 ≤ 24) → WF M → Fr [8, 10, 11] M0 M → AW p l e (rmD 3) s m args below meth c G 3 (QQ G below args s ((fun M r M' => r = none ∧ WF M' ∧ Fr [8, 10, 11] M M') M0)) M 69 [(0, .ref a), (1, .int (iI v1))] []) : ∀ (n : Nat) (v1 v2 : Int) (M : Mem), (6 - v2).toNat < n → (0 ≤ v1 ∧ v1 ≤ 23 ∧ 0 ≤ v2 ∧ v2 ≤ 5 ∧ (25 - v1).toNat ≤ N69) → WF M → Fr [8, 10, 11] M0 M → AW p l e (rmD 3) s m args below meth c G 3 (QQ G below args s ((fun M r M' => r = none ∧ WF M' ∧ Fr [8, 10, 11] M M') M0)) M 79 [(0, .ref a), (1, .int (iI v1)), (2, .int (iI v2))] [] := by
  intro n
  induction n with
  | zero => intro v1 v2 M hn; exact absurd hn (Nat.not_lt_zero _)
  | succ n ih =>
    intro v1 v2 M hn hi W E
    refine A_iloadn C dX1_reckon_79 2 rfl rfl ?_
    refine A_iconst C dX1_reckon_80 ?_
    refine A_icmpge C 120 dX1_reckon_81 (by decide) (by omega) (by omega) (fun c1 => ?_) (fun c1 => ?_)
    · skip
      refine A_iinc (lv' := [(1, .int (iI (v1 + 1))), (0, .ref a), (2, .int (iI v2))]) C dX1_reckon_120 1 rfl (by decide) rfl ?_
      refine A_goto C 69 dX1_reckon_123 (by decide) ?_
      refine A_pick [1, 0] rfl ?_
      exact H69 (v1 + 1) M (by omega) (by omega) W E
    · skip
      refine A_aloadn C dX1_reckon_84 0 rfl rfl ?_
      refine G_getR C W ha rfl rfl rfl rfl fX1_reckon_28 dX1_reckon_85 (fun b2 hb2 qb2 => ?_)
      refine A_iloadn C dX1_reckon_88 1 rfl rfl ?_
      refine A_iconst C dX1_reckon_89 ?_
      refine A_imul C dX1_reckon_90 ?_
      refine A_iloadn C dX1_reckon_91 2 rfl rfl ?_
      refine A_iadd C dX1_reckon_92 ?_
      refine A_iloadn C dX1_reckon_93 1 rfl rfl ?_
      refine A_iloadn C dX1_reckon_94 2 rfl rfl ?_
      refine A_iadd C dX1_reckon_95 ?_
      refine A_aloadn C dX1_reckon_96 0 rfl rfl ?_
      refine G_getI C W ha rfl rfl rfl rfl rfl fX1_reckon_9 rfl dX1_reckon_97 (fun z3 ez3 lz3 uz3 => ?_)
      refine A_icmple C 107 dX1_reckon_100 (by decide) (by omega) (by omega) (fun c4 => ?_) (fun c4 => ?_)
      · skip
        refine A_aloadn C dX1_reckon_107 0 rfl rfl ?_
        refine A_iloadn C dX1_reckon_108 1 rfl rfl ?_
        refine A_iloadn C dX1_reckon_109 2 rfl rfl ?_
        refine A_callV C (n := 2) (st := [.int (iI ((v1 * 5) + v2)), .ref b2]) (kX1_reckonHolds ha (by omega) (by omega) (by omega)) gX1_reckon_X1_reckonHolds rfl (by decide +kernel) ⟨Nat.le_of_ble_eq_true rfl, Nat.le_of_ble_eq_true rfl⟩ ha rfl rfl rfl rfl (Nat.le_of_ble_eq_true rfl) dX1_reckon_110 rfl W (fun r5 M6 h7 => ?_)
        obtain ⟨z9, rfl, lz9, uz9, WM6, FM6⟩ := h7
        have EM6 := Fr.tr E (FM6.mono (c2 := [8, 10, 11]) rfl)
        refine A_st (st' := [.int (iI z9), .int (iI ((v1 * 5) + v2)), .ref b2]) rfl ?_
        refine G_iast C WM6 EM6 qb2 rfl rfl (by decide) (fun _ => rfl) rfl (by omega) (by omega) (by omega) (by omega) dX1_reckon_113 (fun M10 eM10 WM10 EM10 => ?_)
        refine A_iinc (lv' := [(2, .int (iI (v2 + 1))), (0, .ref a), (1, .int (iI v1))]) C dX1_reckon_114 2 rfl (by decide) rfl ?_
        refine A_goto C 79 dX1_reckon_117 (by decide) ?_
        refine A_pick [1, 2, 0] rfl ?_
        exact ih v1 (v2 + 1) M10 (by omega) (by omega) WM10 EM10
      · skip
        refine A_iconst C dX1_reckon_103 ?_
        refine A_goto C 113 dX1_reckon_104 (by decide) ?_
        refine G_iast C W E qb2 rfl rfl (by decide) (fun _ => rfl) rfl (by omega) (by omega) (by omega) (by omega) dX1_reckon_113 (fun M11 eM11 WM11 EM11 => ?_)
        refine A_iinc (lv' := [(2, .int (iI (v2 + 1))), (0, .ref a), (1, .int (iI v1))]) C dX1_reckon_114 2 rfl (by decide) rfl ?_
        refine A_goto C 79 dX1_reckon_117 (by decide) ?_
        refine A_pick [1, 2, 0] rfl ?_
        exact ih v1 (v2 + 1) M11 (by omega) (by omega) WM11 EM11
set_option maxHeartbeats 4000000 in
theorem lpX1_reckon_69 {p : Program} {l : Launch} {e : Env} {s : State} {m : MethodId} {args : Array Value} {below : List Frame} {meth : Method} {c : Code} {G : xG} (C : Cx p s m args meth c G cX1_reckon 3 RX1 wsX1_reckon none)  {a : Nat} (ha : kd a = 8) {M0 : Mem} : ∀ (n : Nat) (v1 : Int) (M : Mem), (25 - v1).toNat < n → (0 ≤ v1 ∧ v1 ≤ 24) → WF M → Fr [8, 10, 11] M0 M → AW p l e (rmD 3) s m args below meth c G 3 (QQ G below args s ((fun M r M' => r = none ∧ WF M' ∧ Fr [8, 10, 11] M M') M0)) M 69 [(0, .ref a), (1, .int (iI v1))] [] := by
  intro n
  induction n with
  | zero => intro v1 M hn; exact absurd hn (Nat.not_lt_zero _)
  | succ n ih =>
    intro v1 M hn hi W E
    refine A_iloadn C dX1_reckon_69 1 rfl rfl ?_
    refine A_aloadn C dX1_reckon_70 0 rfl rfl ?_
    refine G_getI C W ha rfl rfl rfl rfl rfl fX1_reckon_9 rfl dX1_reckon_71 (fun z12 ez12 lz12 uz12 => ?_)
    refine A_icmpge C 126 dX1_reckon_74 (by decide) (by omega) (by omega) (fun c13 => ?_) (fun c13 => ?_)
    · skip
      refine A_aloadn C dX1_reckon_126 0 rfl rfl ?_
      refine A_iconst C dX1_reckon_127 ?_
      refine G_putI C W E ha rfl rfl rfl rfl rfl fX1_reckon_31 ⟨tyX1_ok, nmX1, rfl, by decide⟩ (Or.inr ⟨rfl, by omega⟩) rfl rfl (by omega) (by omega) dX1_reckon_128 (fun M14 eM14 WM14 EM14 => ?_)
      exact A_vret C dX1_reckon_131 ⟨rfl, WM14, EM14⟩
    · skip
      refine A_iconst C dX1_reckon_77 ?_
      refine A_istoren (lv' := [(2, .int (iI 0)), (0, .ref a), (1, .int (iI v1))]) C dX1_reckon_78 rfl (by decide) rfl ?_
      refine A_pick [1, 2, 0] rfl ?_
      exact lpX1_reckon_79 C  ha ih ((6 - (0 : Int)).toNat + 1) v1 0 M (by omega) (by omega) W E
set_option maxHeartbeats 4000000 in
theorem lpX1_reckon_28 {p : Program} {l : Launch} {e : Env} {s : State} {m : MethodId} {args : Array Value} {below : List Frame} {meth : Method} {c : Code} {G : xG} (C : Cx p s m args meth c G cX1_reckon 3 RX1 wsX1_reckon none)  {a : Nat} (ha : kd a = 8) {M0 : Mem} : ∀ (n : Nat) (v1 : Int) (M : Mem), (v1 + 1).toNat < n → (-1 ≤ v1 ∧ v1 ≤ 23) → WF M → Fr [8, 10, 11] M0 M → AW p l e (rmD 3) s m args below meth c G 3 (QQ G below args s ((fun M r M' => r = none ∧ WF M' ∧ Fr [8, 10, 11] M M') M0)) M 28 [(0, .ref a), (1, .int (iI v1))] [] := by
  intro n
  induction n with
  | zero => intro v1 M hn; exact absurd hn (Nat.not_lt_zero _)
  | succ n ih =>
    intro v1 M hn hi W E
    refine A_iloadn C dX1_reckon_28 1 rfl rfl ?_
    refine A_iflt C 67 dX1_reckon_29 (by decide) (by omega) (fun c15 => ?_) (fun c15 => ?_)
    · skip
      refine A_iconst C dX1_reckon_67 ?_
      refine A_istoren (lv' := [(1, .int (iI 0)), (0, .ref a)]) C dX1_reckon_68 rfl (by decide) rfl ?_
      refine A_pick [1, 0] rfl ?_
      exact lpX1_reckon_69 C  ha ((25 - (0 : Int)).toNat + 1) 0 M (by omega) (by omega) W E
    · skip
      refine A_aloadn C dX1_reckon_32 0 rfl rfl ?_
      refine G_getR C W ha rfl rfl rfl rfl fX1_reckon_24 dX1_reckon_33 (fun b16 hb16 qb16 => ?_)
      refine A_iloadn C dX1_reckon_36 1 rfl rfl ?_
      refine A_aloadn C dX1_reckon_37 0 rfl rfl ?_
      refine G_getR C W ha rfl rfl rfl rfl fX1_reckon_24 dX1_reckon_38 (fun b17 hb17 qb17 => ?_)
      refine A_iloadn C dX1_reckon_41 1 rfl rfl ?_
      refine A_iconst C dX1_reckon_42 ?_
      refine A_iadd C dX1_reckon_43 ?_
      refine G_iald C W qb17 rfl rfl (by decide) (fun _ => rfl) (by omega) (by omega) dX1_reckon_44 (fun z18 ez18 lz18 uz18 => ?_)
      refine A_aloadn C dX1_reckon_45 0 rfl rfl ?_
      refine G_getR C W ha rfl rfl rfl rfl fX1_reckon_35 dX1_reckon_46 (fun b19 hb19 qb19 => ?_)
      refine G_getR C W qb19 rfl rfl rfl rfl fX1_reckon_54 dX1_reckon_49 (fun b20 hb20 qb20 => ?_)
      refine A_aloadn C dX1_reckon_52 0 rfl rfl ?_
      refine G_getR C W ha rfl rfl rfl rfl fX1_reckon_39 dX1_reckon_53 (fun b21 hb21 qb21 => ?_)
      refine A_iloadn C dX1_reckon_56 1 rfl rfl ?_
      refine G_iald C W qb21 rfl rfl (by decide) (fun _ => rfl) (by omega) (by omega) dX1_reckon_57 (fun z22 ez22 lz22 uz22 => ?_)
      refine G_iald C W qb20 rfl rfl (by decide) (fun _ => rfl) (by omega) (by omega) dX1_reckon_58 (fun z23 ez23 lz23 uz23 => ?_)
      refine A_iadd C dX1_reckon_59 ?_
      refine A_topi (fun z24 rz24 ez24 => ?_)
      refine G_iast C W E qb16 rfl rfl (by decide) (fun _ => rfl) rfl (by omega) (by omega) (by omega) (by omega) dX1_reckon_60 (fun M25 eM25 WM25 EM25 => ?_)
      refine A_iinc (lv' := [(1, .int (iI (v1 + (-1)))), (0, .ref a)]) C dX1_reckon_61 1 rfl (by decide) rfl ?_
      refine A_goto C 28 dX1_reckon_64 (by decide) ?_
      refine A_pick [1, 0] rfl ?_
      exact ih (v1 + (-1)) M25 (by omega) (by omega) WM25 EM25
set_option maxHeartbeats 4000000 in
theorem kX1_reckon  {a : Nat} (ha : kd a = 8) : Ct yX1_reckon wsX1_reckon 3 [.ref a] (fun M => WF M) (fun M r M' => r = none ∧ WF M' ∧ Fr [8, 10, 11] M M') := by
  refine Ct_of (cc := cX1_reckon) (nL := 3) (rt := none) (own := RX1) rfl (by decide) rfl (Nat.le_of_ble_eq_true rfl) ?_
  intro p l e s m args below meth c G M0 C W
  have E : Fr [8, 10, 11] M0 M0 := Fr.rf
  refine A_lv (lv' := [(0, .ref a)]) rfl ?_
  refine A_aloadn C dX1_reckon_0 0 rfl rfl ?_
  refine G_getI C W ha rfl rfl rfl rfl rfl fX1_reckon_31 rfl dX1_reckon_1 (fun z26 ez26 lz26 uz26 => ?_)
  refine A_ifeq C 8 dX1_reckon_4 (by decide) (by omega) (fun c27 => ?_) (fun c27 => ?_)
  · skip
    refine A_aloadn C dX1_reckon_8 0 rfl rfl ?_
    refine G_getR C W ha rfl rfl rfl rfl fX1_reckon_24 dX1_reckon_9 (fun b28 hb28 qb28 => ?_)
    refine A_aloadn C dX1_reckon_12 0 rfl rfl ?_
    refine G_getI C W ha rfl rfl rfl rfl rfl fX1_reckon_9 rfl dX1_reckon_13 (fun z29 ez29 lz29 uz29 => ?_)
    refine A_aloadn C dX1_reckon_16 0 rfl rfl ?_
    refine G_getI C W ha rfl rfl rfl rfl rfl fX1_reckon_18 rfl dX1_reckon_17 (fun z30 ez30 lz30 uz30 => ?_)
    refine G_iast C W E qb28 rfl rfl (by decide) (fun _ => rfl) rfl (by omega) (by omega) (by omega) (by omega) dX1_reckon_20 (fun M31 eM31 WM31 EM31 => ?_)
    refine A_aloadn C dX1_reckon_21 0 rfl rfl ?_
    refine G_getI C WM31 ha rfl rfl rfl rfl rfl fX1_reckon_9 rfl dX1_reckon_22 (fun z32 ez32 lz32 uz32 => ?_)
    refine A_iconst C dX1_reckon_25 ?_
    refine A_isub C dX1_reckon_26 ?_
    refine A_nami (fun z33 ez33 => ?_)
    refine A_istoren (lv' := [(1, .int (iI z33)), (0, .ref a)]) C dX1_reckon_27 rfl (by decide) rfl ?_
    refine A_pick [1, 0] rfl ?_
    exact lpX1_reckon_28 C  ha ((z33 + 1).toNat + 1) z33 M31 (by omega) (by omega) WM31 EM31
  · skip
    exact A_vret C dX1_reckon_7 ⟨rfl, W, E⟩

theorem uX5_startAt_20_5 : ∀ w ∈ u_ws RX5 TX5 3, w ∈ wsX5_startAt := by decide +kernel
theorem fX5_startAt_20_15 : Fl RX5 wsX5_startAt 5 1 15 RX5 TX5 3 := ⟨rfl, by decide, uX5_startAt_20_5, by decide +kernel⟩
theorem fX5_startAt_20_9 : Fl RX5 wsX5_startAt 5 0 9 RX5 TX5 3 := ⟨rfl, by decide, uX5_startAt_20_5, by decide +kernel⟩
theorem fX5_startAt_20_19 : Fl RX5 wsX5_startAt 5 2 19 RX5 TX5 3 := ⟨rfl, by decide, uX5_startAt_20_5, by decide +kernel⟩
set_option maxHeartbeats 4000000 in
theorem kX5_startAt_20  {a : Nat} (ha : kd a = 20) {x1 : Int} {x2 : Int} (hx1 : (0 : Int) ≤ x1 ∧ x1 ≤ 11) (hx2 : (0 : Int) ≤ x2 ∧ x2 ≤ 24) : Ct yX5_startAt wsX5_startAt 1 [.ref a, .int (iI x1), .int (iI x2)] (fun M => WF M) (fun M r M' => r = none ∧ WF M' ∧ Fr [20, 22] M M' ∧ (M'.1 a 1 = x1 ∧ M'.1 a 2 = 1)) := by
  refine Ct_of (cc := cX5_startAt) (nL := 3) (rt := none) (own := RX5) rfl (by decide) rfl (Nat.le_of_ble_eq_true rfl) ?_
  intro p l e s m args below meth c G M0 C W
  have E : Fr [20, 22] M0 M0 := Fr.rf
  refine A_lv (lv' := [(0, .ref a), (1, .int (iI x1)), (2, .int (iI x2))]) rfl ?_
  refine A_aloadn C dX5_startAt_0 0 rfl rfl ?_
  refine A_iloadn C dX5_startAt_1 1 rfl rfl ?_
  refine G_putI C W E ha rfl rfl rfl rfl rfl fX5_startAt_20_15 ⟨tyX5_ok, nmX5, rfl, by decide⟩ (Or.inl rfl) rfl rfl (by omega) (by omega) dX5_startAt_2 (fun M1 eM1 WM1 EM1 => ?_)
  have t_M1_a_1 : M1.1 a 1 = x1 := by rw [eM1]; exact sI_at
  have t_M1_a_2 : M1.1 a 2 = M0.1 a 2 := by rw [eM1]; exact sI_pl rfl
  refine A_aloadn C dX5_startAt_5 0 rfl rfl ?_
  refine G_getR C WM1 ha rfl rfl rfl rfl fX5_startAt_20_9 dX5_startAt_6 (fun b2 hb2 qb2 => ?_)
  refine A_iconst C dX5_startAt_9 ?_
  refine A_iloadn C dX5_startAt_10 2 rfl rfl ?_
  refine G_iast C WM1 EM1 qb2 rfl rfl (by decide) (fun _ => rfl) rfl (by omega) (by omega) (by omega) (by omega) dX5_startAt_11 (fun M3 eM3 WM3 EM3 => ?_)
  have t_M3_a_1 : M3.1 a 1 = M1.1 a 1 := by rw [eM3]; exact sI_kd ha qb2 rfl
  have t_M3_a_2 : M3.1 a 2 = M1.1 a 2 := by rw [eM3]; exact sI_kd ha qb2 rfl
  refine A_aloadn C dX5_startAt_12 0 rfl rfl ?_
  refine A_iconst C dX5_startAt_13 ?_
  refine G_putI C WM3 EM3 ha rfl rfl rfl rfl rfl fX5_startAt_20_19 ⟨tyX5_ok, nmX5, rfl, by decide⟩ (Or.inl rfl) rfl rfl (by omega) (by omega) dX5_startAt_14 (fun M4 eM4 WM4 EM4 => ?_)
  have t_M4_a_1 : M4.1 a 1 = M3.1 a 1 := by rw [eM4]; exact sI_pl rfl
  have t_M4_a_2 : M4.1 a 2 = 1 := by rw [eM4]; exact sI_at
  exact A_vret C dX5_startAt_17 ⟨rfl, WM4, EM4, by omega⟩

theorem uX5_startAt_21_5 : ∀ w ∈ u_ws RX5 TX5 3, w ∈ wsX5_startAt := by decide +kernel
theorem fX5_startAt_21_15 : Fl RX5 wsX5_startAt 5 1 15 RX5 TX5 3 := ⟨rfl, by decide, uX5_startAt_21_5, by decide +kernel⟩
theorem fX5_startAt_21_9 : Fl RX5 wsX5_startAt 5 0 9 RX5 TX5 3 := ⟨rfl, by decide, uX5_startAt_21_5, by decide +kernel⟩
theorem fX5_startAt_21_19 : Fl RX5 wsX5_startAt 5 2 19 RX5 TX5 3 := ⟨rfl, by decide, uX5_startAt_21_5, by decide +kernel⟩
set_option maxHeartbeats 4000000 in
theorem kX5_startAt_21  {a : Nat} (ha : kd a = 21) {x1 : Int} {x2 : Int} (hx1 : (0 : Int) ≤ x1 ∧ x1 ≤ 11) (hx2 : (0 : Int) ≤ x2 ∧ x2 ≤ 24) : Ct yX5_startAt wsX5_startAt 1 [.ref a, .int (iI x1), .int (iI x2)] (fun M => WF M) (fun M r M' => r = none ∧ WF M' ∧ Fr [21, 22] M M' ∧ (M'.1 a 1 = x1 ∧ M'.1 a 2 = 1)) := by
  refine Ct_of (cc := cX5_startAt) (nL := 3) (rt := none) (own := RX5) rfl (by decide) rfl (Nat.le_of_ble_eq_true rfl) ?_
  intro p l e s m args below meth c G M0 C W
  have E : Fr [21, 22] M0 M0 := Fr.rf
  refine A_lv (lv' := [(0, .ref a), (1, .int (iI x1)), (2, .int (iI x2))]) rfl ?_
  refine A_aloadn C dX5_startAt_0 0 rfl rfl ?_
  refine A_iloadn C dX5_startAt_1 1 rfl rfl ?_
  refine G_putI C W E ha rfl rfl rfl rfl rfl fX5_startAt_21_15 ⟨tyX5_ok, nmX5, rfl, by decide⟩ (Or.inl rfl) rfl rfl (by omega) (by omega) dX5_startAt_2 (fun M1 eM1 WM1 EM1 => ?_)
  have t_M1_a_1 : M1.1 a 1 = x1 := by rw [eM1]; exact sI_at
  have t_M1_a_2 : M1.1 a 2 = M0.1 a 2 := by rw [eM1]; exact sI_pl rfl
  refine A_aloadn C dX5_startAt_5 0 rfl rfl ?_
  refine G_getR C WM1 ha rfl rfl rfl rfl fX5_startAt_21_9 dX5_startAt_6 (fun b2 hb2 qb2 => ?_)
  refine A_iconst C dX5_startAt_9 ?_
  refine A_iloadn C dX5_startAt_10 2 rfl rfl ?_
  refine G_iast C WM1 EM1 qb2 rfl rfl (by decide) (fun _ => rfl) rfl (by omega) (by omega) (by omega) (by omega) dX5_startAt_11 (fun M3 eM3 WM3 EM3 => ?_)
  have t_M3_a_1 : M3.1 a 1 = M1.1 a 1 := by rw [eM3]; exact sI_kd ha qb2 rfl
  have t_M3_a_2 : M3.1 a 2 = M1.1 a 2 := by rw [eM3]; exact sI_kd ha qb2 rfl
  refine A_aloadn C dX5_startAt_12 0 rfl rfl ?_
  refine A_iconst C dX5_startAt_13 ?_
  refine G_putI C WM3 EM3 ha rfl rfl rfl rfl rfl fX5_startAt_21_19 ⟨tyX5_ok, nmX5, rfl, by decide⟩ (Or.inl rfl) rfl rfl (by omega) (by omega) dX5_startAt_14 (fun M4 eM4 WM4 EM4 => ?_)
  have t_M4_a_1 : M4.1 a 1 = M3.1 a 1 := by rw [eM4]; exact sI_pl rfl
  have t_M4_a_2 : M4.1 a 2 = 1 := by rw [eM4]; exact sI_at
  exact A_vret C dX5_startAt_17 ⟨rfl, WM4, EM4, by omega⟩

theorem uX5_add_20_5 : ∀ w ∈ u_ws RX5 TX5 3, w ∈ wsX5_add := by decide +kernel
theorem fX5_add_20_19 : Fl RX5 wsX5_add 5 2 19 RX5 TX5 3 := ⟨rfl, by decide, uX5_add_20_5, by decide +kernel⟩
theorem fX5_add_20_9 : Fl RX5 wsX5_add 5 0 9 RX5 TX5 3 := ⟨rfl, by decide, uX5_add_20_5, by decide +kernel⟩
set_option maxHeartbeats 4000000 in
theorem kX5_add_20  {a : Nat} (ha : kd a = 20) {x1 : Int} (hx1 : (0 : Int) ≤ x1 ∧ x1 ≤ 24) : Ct yX5_add wsX5_add 1 [.ref a, .int (iI x1)] (fun M => WF M) (fun M r M' => r = none ∧ WF M' ∧ Fr [20, 22] M M' ∧ (M'.1 a 1 = M.1 a 1 ∧ M'.1 a 2 ≤ M.1 a 2 + 1 ∧ (M.1 a 2 ≤ 12 → M'.1 a 2 = M.1 a 2 + 1))) := by
  refine Ct_of (cc := cX5_add) (nL := 2) (rt := none) (own := RX5) rfl (by decide) rfl (Nat.le_of_ble_eq_true rfl) ?_
  intro p l e s m args below meth c G M0 C W
  have E : Fr [20, 22] M0 M0 := Fr.rf
  refine A_lv (lv' := [(0, .ref a), (1, .int (iI x1))]) rfl ?_
  refine A_aloadn C dX5_add_0 0 rfl rfl ?_
  refine G_getI C W ha rfl rfl rfl rfl rfl fX5_add_20_19 rfl dX5_add_1 (fun z1 ez1 lz1 uz1 => ?_)
  refine A_aloadn C dX5_add_4 0 rfl rfl ?_
  refine G_getR C W ha rfl rfl rfl rfl fX5_add_20_9 dX5_add_5 (fun b2 hb2 qb2 => ?_)
  refine A_alen C (z := 13) qb2 rfl rfl (by decide +kernel) dX5_add_8 ?_
  refine A_icmpge C 32 dX5_add_9 (by decide) (by omega) (by omega) (fun c3 => ?_) (fun c3 => ?_)
  · skip
    exact A_vret C dX5_add_32 ⟨rfl, W, E, by omega⟩
  · skip
    refine A_aloadn C dX5_add_12 0 rfl rfl ?_
    refine G_getR C W ha rfl rfl rfl rfl fX5_add_20_9 dX5_add_13 (fun b4 hb4 qb4 => ?_)
    refine A_aloadn C dX5_add_16 0 rfl rfl ?_
    refine G_getI C W ha rfl rfl rfl rfl rfl fX5_add_20_19 rfl dX5_add_17 (fun z5 ez5 lz5 uz5 => ?_)
    refine A_iloadn C dX5_add_20 1 rfl rfl ?_
    refine G_iast C W E qb4 rfl rfl (by decide) (fun _ => rfl) rfl (by omega) (by omega) (by omega) (by omega) dX5_add_21 (fun M6 eM6 WM6 EM6 => ?_)
    have t_M6_a_1 : M6.1 a 1 = M0.1 a 1 := by rw [eM6]; exact sI_kd ha qb4 rfl
    have t_M6_a_2 : M6.1 a 2 = M0.1 a 2 := by rw [eM6]; exact sI_kd ha qb4 rfl
    refine A_aloadn C dX5_add_22 0 rfl rfl ?_
    refine A_dup C dX5_add_23 rfl ?_
    refine G_getI C WM6 ha rfl rfl rfl rfl rfl fX5_add_20_19 rfl dX5_add_24 (fun z7 ez7 lz7 uz7 => ?_)
    refine A_iconst C dX5_add_27 ?_
    refine A_iadd C dX5_add_28 ?_
    refine G_putI C WM6 EM6 ha rfl rfl rfl rfl rfl fX5_add_20_19 ⟨tyX5_ok, nmX5, rfl, by decide⟩ (Or.inl rfl) rfl rfl (by omega) (by omega) dX5_add_29 (fun M8 eM8 WM8 EM8 => ?_)
    have t_M8_a_1 : M8.1 a 1 = M6.1 a 1 := by rw [eM8]; exact sI_pl rfl
    have t_M8_a_2 : M8.1 a 2 = z7 + 1 := by rw [eM8]; exact sI_at
    exact A_vret C dX5_add_32 ⟨rfl, WM8, EM8, by omega⟩

theorem uX5_add_21_5 : ∀ w ∈ u_ws RX5 TX5 3, w ∈ wsX5_add := by decide +kernel
theorem fX5_add_21_19 : Fl RX5 wsX5_add 5 2 19 RX5 TX5 3 := ⟨rfl, by decide, uX5_add_21_5, by decide +kernel⟩
theorem fX5_add_21_9 : Fl RX5 wsX5_add 5 0 9 RX5 TX5 3 := ⟨rfl, by decide, uX5_add_21_5, by decide +kernel⟩
set_option maxHeartbeats 4000000 in
theorem kX5_add_21  {a : Nat} (ha : kd a = 21) {x1 : Int} (hx1 : (0 : Int) ≤ x1 ∧ x1 ≤ 24) : Ct yX5_add wsX5_add 1 [.ref a, .int (iI x1)] (fun M => WF M) (fun M r M' => r = none ∧ WF M' ∧ Fr [21, 22] M M' ∧ (M'.1 a 1 = M.1 a 1 ∧ M'.1 a 2 ≤ M.1 a 2 + 1 ∧ (M.1 a 2 ≤ 12 → M'.1 a 2 = M.1 a 2 + 1))) := by
  refine Ct_of (cc := cX5_add) (nL := 2) (rt := none) (own := RX5) rfl (by decide) rfl (Nat.le_of_ble_eq_true rfl) ?_
  intro p l e s m args below meth c G M0 C W
  have E : Fr [21, 22] M0 M0 := Fr.rf
  refine A_lv (lv' := [(0, .ref a), (1, .int (iI x1))]) rfl ?_
  refine A_aloadn C dX5_add_0 0 rfl rfl ?_
  refine G_getI C W ha rfl rfl rfl rfl rfl fX5_add_21_19 rfl dX5_add_1 (fun z1 ez1 lz1 uz1 => ?_)
  refine A_aloadn C dX5_add_4 0 rfl rfl ?_
  refine G_getR C W ha rfl rfl rfl rfl fX5_add_21_9 dX5_add_5 (fun b2 hb2 qb2 => ?_)
  refine A_alen C (z := 13) qb2 rfl rfl (by decide +kernel) dX5_add_8 ?_
  refine A_icmpge C 32 dX5_add_9 (by decide) (by omega) (by omega) (fun c3 => ?_) (fun c3 => ?_)
  · skip
    exact A_vret C dX5_add_32 ⟨rfl, W, E, by omega⟩
  · skip
    refine A_aloadn C dX5_add_12 0 rfl rfl ?_
    refine G_getR C W ha rfl rfl rfl rfl fX5_add_21_9 dX5_add_13 (fun b4 hb4 qb4 => ?_)
    refine A_aloadn C dX5_add_16 0 rfl rfl ?_
    refine G_getI C W ha rfl rfl rfl rfl rfl fX5_add_21_19 rfl dX5_add_17 (fun z5 ez5 lz5 uz5 => ?_)
    refine A_iloadn C dX5_add_20 1 rfl rfl ?_
    refine G_iast C W E qb4 rfl rfl (by decide) (fun _ => rfl) rfl (by omega) (by omega) (by omega) (by omega) dX5_add_21 (fun M6 eM6 WM6 EM6 => ?_)
    have t_M6_a_1 : M6.1 a 1 = M0.1 a 1 := by rw [eM6]; exact sI_kd ha qb4 rfl
    have t_M6_a_2 : M6.1 a 2 = M0.1 a 2 := by rw [eM6]; exact sI_kd ha qb4 rfl
    refine A_aloadn C dX5_add_22 0 rfl rfl ?_
    refine A_dup C dX5_add_23 rfl ?_
    refine G_getI C WM6 ha rfl rfl rfl rfl rfl fX5_add_21_19 rfl dX5_add_24 (fun z7 ez7 lz7 uz7 => ?_)
    refine A_iconst C dX5_add_27 ?_
    refine A_iadd C dX5_add_28 ?_
    refine G_putI C WM6 EM6 ha rfl rfl rfl rfl rfl fX5_add_21_19 ⟨tyX5_ok, nmX5, rfl, by decide⟩ (Or.inl rfl) rfl rfl (by omega) (by omega) dX5_add_29 (fun M8 eM8 WM8 EM8 => ?_)
    have t_M8_a_1 : M8.1 a 1 = M6.1 a 1 := by rw [eM8]; exact sI_pl rfl
    have t_M8_a_2 : M8.1 a 2 = z7 + 1 := by rw [eM8]; exact sI_at
    exact A_vret C dX5_add_32 ⟨rfl, WM8, EM8, by omega⟩

theorem uX5_end_20_5 : ∀ w ∈ u_ws RX5 TX5 3, w ∈ wsX5_end := by decide +kernel
theorem fX5_end_20_15 : Fl RX5 wsX5_end 5 1 15 RX5 TX5 3 := ⟨rfl, by decide, uX5_end_20_5, by decide +kernel⟩
theorem fX5_end_20_19 : Fl RX5 wsX5_end 5 2 19 RX5 TX5 3 := ⟨rfl, by decide, uX5_end_20_5, by decide +kernel⟩
set_option maxHeartbeats 4000000 in
theorem kX5_end_20  {a : Nat} (ha : kd a = 20) : Ct yX5_end wsX5_end 1 [.ref a] (fun M => WF M) (fun M r M' => ∃ z : Int, r = some (.int (iI z)) ∧ (-1 : Int) ≤ z ∧ z ≤ 23 ∧ WF M' ∧ Fr [] M M' ∧ z = M.1 a 1 + M.1 a 2 - 1) := by
  refine Ct_of (cc := cX5_end) (nL := 1) (rt := (some .int)) (own := RX5) rfl (by decide) rfl (Nat.le_of_ble_eq_true rfl) ?_
  intro p l e s m args below meth c G M0 C W
  have E : Fr [] M0 M0 := Fr.rf
  refine A_lv (lv' := [(0, .ref a)]) rfl ?_
  refine A_aloadn C dX5_end_0 0 rfl rfl ?_
  refine G_getI C W ha rfl rfl rfl rfl rfl fX5_end_20_15 rfl dX5_end_1 (fun z1 ez1 lz1 uz1 => ?_)
  refine A_aloadn C dX5_end_4 0 rfl rfl ?_
  refine G_getI C W ha rfl rfl rfl rfl rfl fX5_end_20_19 rfl dX5_end_5 (fun z2 ez2 lz2 uz2 => ?_)
  refine A_iadd C dX5_end_8 ?_
  refine A_iconst C dX5_end_9 ?_
  refine A_isub C dX5_end_10 ?_
  exact A_iret C dX5_end_11 ⟨(z1 + z2) - 1, rfl, by omega, by omega, W, E, by omega⟩

theorem uX5_end_21_5 : ∀ w ∈ u_ws RX5 TX5 3, w ∈ wsX5_end := by decide +kernel
theorem fX5_end_21_15 : Fl RX5 wsX5_end 5 1 15 RX5 TX5 3 := ⟨rfl, by decide, uX5_end_21_5, by decide +kernel⟩
theorem fX5_end_21_19 : Fl RX5 wsX5_end 5 2 19 RX5 TX5 3 := ⟨rfl, by decide, uX5_end_21_5, by decide +kernel⟩
set_option maxHeartbeats 4000000 in
theorem kX5_end_21  {a : Nat} (ha : kd a = 21) : Ct yX5_end wsX5_end 1 [.ref a] (fun M => WF M) (fun M r M' => ∃ z : Int, r = some (.int (iI z)) ∧ (-1 : Int) ≤ z ∧ z ≤ 23 ∧ WF M' ∧ Fr [] M M' ∧ z = M.1 a 1 + M.1 a 2 - 1) := by
  refine Ct_of (cc := cX5_end) (nL := 1) (rt := (some .int)) (own := RX5) rfl (by decide) rfl (Nat.le_of_ble_eq_true rfl) ?_
  intro p l e s m args below meth c G M0 C W
  have E : Fr [] M0 M0 := Fr.rf
  refine A_lv (lv' := [(0, .ref a)]) rfl ?_
  refine A_aloadn C dX5_end_0 0 rfl rfl ?_
  refine G_getI C W ha rfl rfl rfl rfl rfl fX5_end_21_15 rfl dX5_end_1 (fun z1 ez1 lz1 uz1 => ?_)
  refine A_aloadn C dX5_end_4 0 rfl rfl ?_
  refine G_getI C W ha rfl rfl rfl rfl rfl fX5_end_21_19 rfl dX5_end_5 (fun z2 ez2 lz2 uz2 => ?_)
  refine A_iadd C dX5_end_8 ?_
  refine A_iconst C dX5_end_9 ?_
  refine A_isub C dX5_end_10 ?_
  exact A_iret C dX5_end_11 ⟨(z1 + z2) - 1, rfl, by omega, by omega, W, E, by omega⟩

theorem uX2_add_2 : ∀ w ∈ u_ws RX2 TX2 5, w ∈ wsX2_add := by decide +kernel
theorem fX2_add_25 : Fl RX2 wsX2_add 2 4 25 RX2 TX2 5 := ⟨rfl, by decide, uX2_add_2, by decide +kernel⟩
theorem fX2_add_9 : Fl RX2 wsX2_add 2 0 9 RX2 TX2 5 := ⟨rfl, by decide, uX2_add_2, by decide +kernel⟩
theorem fX2_add_15 : Fl RX2 wsX2_add 2 1 15 RX2 TX2 5 := ⟨rfl, by decide, uX2_add_2, by decide +kernel⟩
theorem fX2_add_18 : Fl RX2 wsX2_add 2 2 18 RX2 TX2 5 := ⟨rfl, by decide, uX2_add_2, by decide +kernel⟩
theorem fX2_add_21 : Fl RX2 wsX2_add 2 3 21 RX2 TX2 5 := ⟨rfl, by decide, uX2_add_2, by decide +kernel⟩
set_option maxHeartbeats 4000000 in
theorem kX2_add  {a : Nat} (ha : kd a = 1) {x1 : Int} {x2 : Int} {x3 : Int} {x4 : Int} (hx1 : (-2147483648 : Int) ≤ x1 ∧ x1 ≤ 2147483647) (hx2 : (-2147483648 : Int) ≤ x2 ∧ x2 ≤ 2147483647) (hx3 : (-2147483648 : Int) ≤ x3 ∧ x3 ≤ 2147483647) (hx4 : (0 : Int) ≤ x4 ∧ x4 ≤ 1) : Ct yX2_add wsX2_add 1 [.ref a, .int (iI x1), .int (iI x2), .int (iI x3), .int (iI x4)] (fun M => WF M) (fun M r M' => ∃ z : Int, r = some (.int (iI z)) ∧ (-1 : Int) ≤ z ∧ z ≤ 5 ∧ WF M' ∧ Fr [1, 2, 3, 4, 5] M M') := by
  refine Ct_of (cc := cX2_add) (nL := 5) (rt := (some .int)) (own := RX2) rfl (by decide) rfl (Nat.le_of_ble_eq_true rfl) ?_
  intro p l e s m args below meth c G M0 C W
  have E : Fr [1, 2, 3, 4, 5] M0 M0 := Fr.rf
  refine A_lv (lv' := [(0, .ref a), (1, .int (iI x1)), (2, .int (iI x2)), (3, .int (iI x3)), (4, .int (iI x4))]) rfl ?_
  refine A_aloadn C dX2_add_0 0 rfl rfl ?_
  refine G_getI C W ha rfl rfl rfl rfl rfl fX2_add_25 rfl dX2_add_1 (fun z1 ez1 lz1 uz1 => ?_)
  refine A_bipush C dX2_add_4 (by decide) ?_
  refine A_icmplt C 11 dX2_add_6 (by decide) (by omega) (by omega) (fun c2 => ?_) (fun c2 => ?_)
  · skip
    refine A_aloadn C dX2_add_11 0 rfl rfl ?_
    refine G_getR C W ha rfl rfl rfl rfl fX2_add_9 dX2_add_12 (fun b3 hb3 qb3 => ?_)
    refine A_aloadn C dX2_add_15 0 rfl rfl ?_
    refine G_getI C W ha rfl rfl rfl rfl rfl fX2_add_25 rfl dX2_add_16 (fun z4 ez4 lz4 uz4 => ?_)
    refine A_iloadn C dX2_add_19 1 rfl rfl ?_
    refine G_iast C W E qb3 rfl rfl (by decide) (fun _ => rfl) rfl (by omega) (by omega) (by omega) (by omega) dX2_add_20 (fun M5 eM5 WM5 EM5 => ?_)
    have t_M5_a_4 : M5.1 a 4 = M0.1 a 4 := by rw [eM5]; exact sI_kd ha qb3 rfl
    refine A_aloadn C dX2_add_21 0 rfl rfl ?_
    refine G_getR C WM5 ha rfl rfl rfl rfl fX2_add_15 dX2_add_22 (fun b6 hb6 qb6 => ?_)
    refine A_aloadn C dX2_add_25 0 rfl rfl ?_
    refine G_getI C WM5 ha rfl rfl rfl rfl rfl fX2_add_25 rfl dX2_add_26 (fun z7 ez7 lz7 uz7 => ?_)
    refine A_iloadn C dX2_add_29 2 rfl rfl ?_
    refine G_iast C WM5 EM5 qb6 rfl rfl (by decide) (fun _ => rfl) rfl (by omega) (by omega) (by omega) (by omega) dX2_add_30 (fun M8 eM8 WM8 EM8 => ?_)
    have t_M8_a_4 : M8.1 a 4 = M5.1 a 4 := by rw [eM8]; exact sI_kd ha qb6 rfl
    refine A_aloadn C dX2_add_31 0 rfl rfl ?_
    refine G_getR C WM8 ha rfl rfl rfl rfl fX2_add_18 dX2_add_32 (fun b9 hb9 qb9 => ?_)
    refine A_aloadn C dX2_add_35 0 rfl rfl ?_
    refine G_getI C WM8 ha rfl rfl rfl rfl rfl fX2_add_25 rfl dX2_add_36 (fun z10 ez10 lz10 uz10 => ?_)
    refine A_iloadn C dX2_add_39 3 rfl rfl ?_
    refine G_iast C WM8 EM8 qb9 rfl rfl (by decide) (fun _ => rfl) rfl (by omega) (by omega) (by omega) (by omega) dX2_add_40 (fun M11 eM11 WM11 EM11 => ?_)
    have t_M11_a_4 : M11.1 a 4 = M8.1 a 4 := by rw [eM11]; exact sI_kd ha qb9 rfl
    refine A_aloadn C dX2_add_41 0 rfl rfl ?_
    refine G_getR C WM11 ha rfl rfl rfl rfl fX2_add_21 dX2_add_42 (fun b12 hb12 qb12 => ?_)
    refine A_aloadn C dX2_add_45 0 rfl rfl ?_
    refine G_getI C WM11 ha rfl rfl rfl rfl rfl fX2_add_25 rfl dX2_add_46 (fun z13 ez13 lz13 uz13 => ?_)
    refine A_iload C dX2_add_49 4 rfl ?_
    refine G_zast C WM11 EM11 qb12 rfl rfl (by decide) (fun _ => rfl) rfl (by omega) (by omega) (by omega) dX2_add_51 (fun M14 eM14 WM14 EM14 => ?_)
    have t_M14_a_4 : M14.1 a 4 = M11.1 a 4 := by rw [eM14]; exact sI_kd ha qb12 rfl
    refine A_aloadn C dX2_add_52 0 rfl rfl ?_
    refine A_dup C dX2_add_53 rfl ?_
    refine G_getI C WM14 ha rfl rfl rfl rfl rfl fX2_add_25 rfl dX2_add_54 (fun z15 ez15 lz15 uz15 => ?_)
    refine A_iconst C dX2_add_57 ?_
    refine A_iadd C dX2_add_58 ?_
    refine G_putI C WM14 EM14 ha rfl rfl rfl rfl rfl fX2_add_25 ⟨tyX2_ok, nmX2, rfl, by decide⟩ (Or.inl rfl) rfl rfl (by omega) (by omega) dX2_add_59 (fun M16 eM16 WM16 EM16 => ?_)
    have t_M16_a_4 : M16.1 a 4 = z15 + 1 := by rw [eM16]; exact sI_at
    refine A_aloadn C dX2_add_62 0 rfl rfl ?_
    refine G_getI C WM16 ha rfl rfl rfl rfl rfl fX2_add_25 rfl dX2_add_63 (fun z17 ez17 lz17 uz17 => ?_)
    refine A_iconst C dX2_add_66 ?_
    refine A_isub C dX2_add_67 ?_
    exact A_iret C dX2_add_68 ⟨z17 - 1, rfl, by omega, by omega, WM16, EM16⟩
  · skip
    refine A_iconst C dX2_add_9 ?_
    exact A_iret C dX2_add_10 ⟨(-1), rfl, by omega, by omega, W, E⟩

theorem uX0_add_0 : ∀ w ∈ u_ws RX0 TX0 4, w ∈ wsX0_add := by decide +kernel
theorem fX0_add_9 : Fl RX0 wsX0_add 0 0 9 RX0 TX0 4 := ⟨rfl, by decide, uX0_add_0, by decide +kernel⟩
theorem fX0_add_15 : Fl RX0 wsX0_add 0 1 15 RX0 TX0 4 := ⟨rfl, by decide, uX0_add_0, by decide +kernel⟩
theorem fX0_add_19 : Fl RX0 wsX0_add 0 2 19 RX0 TX0 4 := ⟨rfl, by decide, uX0_add_0, by decide +kernel⟩
theorem fX0_add_22 : Fl RX0 wsX0_add 0 3 22 RX0 TX0 4 := ⟨rfl, by decide, uX0_add_0, by decide +kernel⟩
set_option maxHeartbeats 4000000 in
theorem kX0_add  {a : Nat} (ha : kd a = 13) {x1 : Int} {x2 : Int} {x3 : Int} (hx1 : (-2147483648 : Int) ≤ x1 ∧ x1 ≤ 2147483647) (hx2 : (0 : Int) ≤ x2 ∧ x2 ≤ 11) (hx3 : (0 : Int) ≤ x3 ∧ x3 ≤ 999) : Ct yX0_add wsX0_add 1 [.ref a, .int (iI x1), .int (iI x2), .int (iI x3)] (fun M => WF M) (fun M r M' => ∃ z : Int, r = some (.int (iI z)) ∧ (-1 : Int) ≤ z ∧ z ≤ 5 ∧ WF M' ∧ Fr [13, 14, 15, 16] M M' ∧ ((M.1 a 0 ≤ 5 → (z = M.1 a 0 ∧ M'.1 a 0 = M.1 a 0 + 1)) ∧ (5 < M.1 a 0 → (z = -1 ∧ M'.1 a 0 = M.1 a 0)))) := by
  refine Ct_of (cc := cX0_add) (nL := 4) (rt := (some .int)) (own := RX0) rfl (by decide) rfl (Nat.le_of_ble_eq_true rfl) ?_
  intro p l e s m args below meth c G M0 C W
  have E : Fr [13, 14, 15, 16] M0 M0 := Fr.rf
  refine A_lv (lv' := [(0, .ref a), (1, .int (iI x1)), (2, .int (iI x2)), (3, .int (iI x3))]) rfl ?_
  refine A_aloadn C dX0_add_0 0 rfl rfl ?_
  refine G_getI C W ha rfl rfl rfl rfl rfl fX0_add_9 rfl dX0_add_1 (fun z1 ez1 lz1 uz1 => ?_)
  refine A_bipush C dX0_add_4 (by decide) ?_
  refine A_icmplt C 11 dX0_add_6 (by decide) (by omega) (by omega) (fun c2 => ?_) (fun c2 => ?_)
  · skip
    refine A_aloadn C dX0_add_11 0 rfl rfl ?_
    refine G_getR C W ha rfl rfl rfl rfl fX0_add_15 dX0_add_12 (fun b3 hb3 qb3 => ?_)
    refine A_aloadn C dX0_add_15 0 rfl rfl ?_
    refine G_getI C W ha rfl rfl rfl rfl rfl fX0_add_9 rfl dX0_add_16 (fun z4 ez4 lz4 uz4 => ?_)
    refine A_iloadn C dX0_add_19 1 rfl rfl ?_
    refine G_iast C W E qb3 rfl rfl (by decide) (fun _ => rfl) rfl (by omega) (by omega) (by omega) (by omega) dX0_add_20 (fun M5 eM5 WM5 EM5 => ?_)
    have t_M5_a_0 : M5.1 a 0 = M0.1 a 0 := by rw [eM5]; exact sI_kd ha qb3 rfl
    refine A_aloadn C dX0_add_21 0 rfl rfl ?_
    refine G_getR C WM5 ha rfl rfl rfl rfl fX0_add_19 dX0_add_22 (fun b6 hb6 qb6 => ?_)
    refine A_aloadn C dX0_add_25 0 rfl rfl ?_
    refine G_getI C WM5 ha rfl rfl rfl rfl rfl fX0_add_9 rfl dX0_add_26 (fun z7 ez7 lz7 uz7 => ?_)
    refine A_iloadn C dX0_add_29 2 rfl rfl ?_
    refine G_iast C WM5 EM5 qb6 rfl rfl (by decide) (fun _ => rfl) rfl (by omega) (by omega) (by omega) (by omega) dX0_add_30 (fun M8 eM8 WM8 EM8 => ?_)
    have t_M8_a_0 : M8.1 a 0 = M5.1 a 0 := by rw [eM8]; exact sI_kd ha qb6 rfl
    refine A_aloadn C dX0_add_31 0 rfl rfl ?_
    refine G_getR C WM8 ha rfl rfl rfl rfl fX0_add_22 dX0_add_32 (fun b9 hb9 qb9 => ?_)
    refine A_aloadn C dX0_add_35 0 rfl rfl ?_
    refine G_getI C WM8 ha rfl rfl rfl rfl rfl fX0_add_9 rfl dX0_add_36 (fun z10 ez10 lz10 uz10 => ?_)
    refine A_iloadn C dX0_add_39 3 rfl rfl ?_
    refine G_iast C WM8 EM8 qb9 rfl rfl (by decide) (fun _ => rfl) rfl (by omega) (by omega) (by omega) (by omega) dX0_add_40 (fun M11 eM11 WM11 EM11 => ?_)
    have t_M11_a_0 : M11.1 a 0 = M8.1 a 0 := by rw [eM11]; exact sI_kd ha qb9 rfl
    refine A_aloadn C dX0_add_41 0 rfl rfl ?_
    refine A_dup C dX0_add_42 rfl ?_
    refine G_getI C WM11 ha rfl rfl rfl rfl rfl fX0_add_9 rfl dX0_add_43 (fun z12 ez12 lz12 uz12 => ?_)
    refine A_iconst C dX0_add_46 ?_
    refine A_iadd C dX0_add_47 ?_
    refine G_putI C WM11 EM11 ha rfl rfl rfl rfl rfl fX0_add_9 ⟨tyX0_ok, nmX0, rfl, by decide⟩ (Or.inl rfl) rfl rfl (by omega) (by omega) dX0_add_48 (fun M13 eM13 WM13 EM13 => ?_)
    have t_M13_a_0 : M13.1 a 0 = z12 + 1 := by rw [eM13]; exact sI_at
    refine A_aloadn C dX0_add_51 0 rfl rfl ?_
    refine G_getI C WM13 ha rfl rfl rfl rfl rfl fX0_add_9 rfl dX0_add_52 (fun z14 ez14 lz14 uz14 => ?_)
    refine A_iconst C dX0_add_55 ?_
    refine A_isub C dX0_add_56 ?_
    exact A_iret C dX0_add_57 ⟨z14 - 1, rfl, by omega, by omega, WM13, EM13, by omega⟩
  · skip
    refine A_iconst C dX0_add_9 ?_
    exact A_iret C dX0_add_10 ⟨(-1), rfl, by omega, by omega, W, E, by omega⟩

set_option maxHeartbeats 4000000 in
theorem lpX3_greatestCommon_9 {p : Program} {l : Launch} {e : Env} {s : State} {m : MethodId} {args : Array Value} {below : List Frame} {meth : Method} {c : Code} {G : xG} (C : Cx p s m args meth c G cX3_greatestCommon 11 RX3 wsX3_greatestCommon (some .long))  {x0 : Int} {x1 : Int} (hx0 : r64 x0) (hx1 : r64 x1) {M0 : Mem} : ∀ (n : Nat) (v4 v6 v8 : Int) (M : Mem), (201 - v8).toNat < n → (r64 v4 ∧ r64 v6 ∧ 0 ≤ v8 ∧ v8 ≤ 200) → WF M → Fr [] M0 M → AW p l e (rmD 1) s m args below meth c G 11 (QQ G below args s ((fun M r M' => ∃ z : Int, r = some (.long (lL z)) ∧ r64 z ∧ WF M' ∧ Fr [] M M') M0)) M 9 [(4, .long (lL v4)), (6, .long (lL v6)), (8, .int (iI v8))] [] := by
  intro n
  induction n with
  | zero => intro v4 v6 v8 M hn; exact absurd hn (Nat.not_lt_zero _)
  | succ n ih =>
    intro v4 v6 v8 M hn hi W E
    refine A_iload C dX3_greatestCommon_9 2 rfl ?_
    refine A_sipush C dX3_greatestCommon_11 (by decide) ?_
    refine A_icmpge C 45 dX3_greatestCommon_14 (by decide) (by omega) (by omega) (fun c1 => ?_) (fun c1 => ?_)
    · skip
      refine A_lload C dX3_greatestCommon_45 0 rfl ?_
      exact A_lret C dX3_greatestCommon_47 ⟨v4, rfl, by omega, W, E⟩
    · skip
      refine A_lload C dX3_greatestCommon_17 1 rfl ?_
      refine A_lconst0 C dX3_greatestCommon_19 ?_
      refine A_lcmp C (by omega) (by omega) dX3_greatestCommon_20 (fun z2 cz2 => ?_)
      refine A_ifeq C 45 dX3_greatestCommon_21 (by decide) (by omega) (fun c3 => ?_) (fun c3 => ?_)
      · skip
        refine A_lload C dX3_greatestCommon_45 0 rfl ?_
        exact A_lret C dX3_greatestCommon_47 ⟨v4, rfl, by omega, W, E⟩
      · skip
        refine A_lload C dX3_greatestCommon_24 0 rfl ?_
        refine A_lload C dX3_greatestCommon_26 1 rfl ?_
        refine A_lremH C (by omega) (by omega) dX3_greatestCommon_28 (fun z4 rz4 => ?_)
        refine A_lstore (lv' := [(9, .long (lL z4)), (4, .long (lL v4)), (6, .long (lL v6)), (8, .int (iI v8))]) C dX3_greatestCommon_29 (by decide) rfl ?_
        refine A_lload C dX3_greatestCommon_31 2 rfl ?_
        refine A_lstore (lv' := [(4, .long (lL v6)), (9, .long (lL z4)), (6, .long (lL v6)), (8, .int (iI v8))]) C dX3_greatestCommon_33 (by decide) rfl ?_
        refine A_lload C dX3_greatestCommon_35 1 rfl ?_
        refine A_lstore (lv' := [(6, .long (lL z4)), (4, .long (lL v6)), (9, .long (lL z4)), (8, .int (iI v8))]) C dX3_greatestCommon_37 (by decide) rfl ?_
        refine A_iinc (lv' := [(8, .int (iI (v8 + 1))), (6, .long (lL z4)), (4, .long (lL v6)), (9, .long (lL z4))]) C dX3_greatestCommon_39 3 rfl (by decide) rfl ?_
        refine A_goto C 9 dX3_greatestCommon_42 (by decide) ?_
        refine A_pick [2, 1, 0] rfl ?_
        exact ih v6 z4 (v8 + 1) M (by omega) (by omega) W E
set_option maxHeartbeats 4000000 in
theorem kX3_greatestCommon  {x0 : Int} {x1 : Int} (hx0 : r64 x0) (hx1 : r64 x1) : Ct yX3_greatestCommon wsX3_greatestCommon 1 [.long (lL x0), .long (lL x1)] (fun M => WF M) (fun M r M' => ∃ z : Int, r = some (.long (lL z)) ∧ r64 z ∧ WF M' ∧ Fr [] M M') := by
  refine Ct_of (cc := cX3_greatestCommon) (nL := 11) (rt := (some .long)) (own := RX3) rfl (by decide) rfl (Nat.le_of_ble_eq_true rfl) ?_
  intro p l e s m args below meth c G M0 C W
  have E : Fr [] M0 M0 := Fr.rf
  refine A_lv (lv' := [(0, .long (lL x0)), (2, .long (lL x1))]) rfl ?_
  refine A_lloadn C dX3_greatestCommon_0 0 rfl rfl ?_
  refine A_lstore (lv' := [(4, .long (lL x0)), (0, .long (lL x0)), (2, .long (lL x1))]) C dX3_greatestCommon_1 (by decide) rfl ?_
  refine A_lloadn C dX3_greatestCommon_3 2 rfl rfl ?_
  refine A_lstore (lv' := [(6, .long (lL x1)), (4, .long (lL x0)), (0, .long (lL x0)), (2, .long (lL x1))]) C dX3_greatestCommon_4 (by decide) rfl ?_
  refine A_iconst C dX3_greatestCommon_6 ?_
  refine A_istore (lv' := [(8, .int (iI 0)), (6, .long (lL x1)), (4, .long (lL x0)), (0, .long (lL x0)), (2, .long (lL x1))]) C dX3_greatestCommon_7 (by decide) rfl ?_
  refine A_pick [2, 1, 0] rfl ?_
  exact lpX3_greatestCommon_9 C  hx0 hx1 ((201 - (0 : Int)).toNat + 1) x0 x1 0 M0 (by omega) (by omega) W E

theorem uX3_become_3 : ∀ w ∈ u_ws RX3 TX3 2, w ∈ wsX3_become := by decide +kernel
theorem fX3_become_7 : Fl RX3 wsX3_become 3 0 7 RX3 TX3 2 := ⟨rfl, by decide, uX3_become_3, by decide +kernel⟩
theorem fX3_become_13 : Fl RX3 wsX3_become 3 1 13 RX3 TX3 2 := ⟨rfl, by decide, uX3_become_3, by decide +kernel⟩
set_option maxHeartbeats 4000000 in
theorem kX3_become  {a : Nat} (ha : kd a = 23) {x1 : Int} {x2 : Int} (hx1 : r64 x1) (hx2 : r64 x2) : Ct yX3_become wsX3_become 2 [.ref a, .long (lL x1), .long (lL x2)] (fun M => WF M) (fun M r M' => r = none ∧ WF M' ∧ Fr [23] M M') := by
  refine Ct_of (cc := cX3_become) (nL := 7) (rt := none) (own := RX3) rfl (by decide) rfl (Nat.le_of_ble_eq_true rfl) ?_
  intro p l e s m args below meth c G M0 C W
  have E : Fr [23] M0 M0 := Fr.rf
  refine A_lv (lv' := [(0, .ref a), (1, .long (lL x1)), (3, .long (lL x2))]) rfl ?_
  refine A_lloadn C dX3_become_0 1 rfl rfl ?_
  refine A_lloadn C dX3_become_1 2 rfl rfl ?_
  refine A_callS C (n := 2) (st := []) (kX3_greatestCommon  (by omega) (by omega)) gX3_become_X3_greatestCommon rfl (by decide +kernel) ⟨Nat.le_of_ble_eq_true rfl, Nat.le_of_ble_eq_true rfl⟩ rfl (Nat.le_of_ble_eq_true rfl) dX3_become_2 rfl W (fun r1 M2 h3 => ?_)
  obtain ⟨z5, rfl, rz5, WM2, FM2⟩ := h3
  have EM2 := Fr.tr E (FM2.mono (c2 := [23]) rfl)
  refine A_st (st' := [.long (lL z5)]) rfl ?_
  refine A_lstore (lv' := [(5, .long (lL z5)), (0, .ref a), (1, .long (lL x1)), (3, .long (lL x2))]) C dX3_become_5 (by decide) rfl ?_
  refine A_aloadn C dX3_become_7 1 rfl rfl ?_
  refine A_lload C dX3_become_8 0 rfl ?_
  refine A_lconst1 C dX3_become_10 ?_
  refine A_lcmp C (by omega) (by omega) dX3_become_11 (fun z6 cz6 => ?_)
  refine A_ifle C 22 dX3_become_12 (by decide) (by omega) (fun c7 => ?_) (fun c7 => ?_)
  · skip
    refine A_lloadn C dX3_become_22 2 rfl rfl ?_
    refine G_putL C WM2 EM2 ha rfl rfl rfl fX3_become_7 ⟨tyX3_ok, nmX3, rfl, by decide⟩ rfl rfl (by omega) dX3_become_23 (fun M8 eM8 WM8 EM8 => ?_)
    refine A_aloadn C dX3_become_26 1 rfl rfl ?_
    refine A_lload C dX3_become_27 0 rfl ?_
    refine A_lconst1 C dX3_become_29 ?_
    refine A_lcmp C (by omega) (by omega) dX3_become_30 (fun z9 cz9 => ?_)
    refine A_ifle C 41 dX3_become_31 (by decide) (by omega) (fun c10 => ?_) (fun c10 => ?_)
    · skip
      refine A_lloadn C dX3_become_41 3 rfl rfl ?_
      refine G_putL C WM8 EM8 ha rfl rfl rfl fX3_become_13 ⟨tyX3_ok, nmX3, rfl, by decide⟩ rfl rfl (by omega) dX3_become_42 (fun M11 eM11 WM11 EM11 => ?_)
      exact A_vret C dX3_become_45 ⟨rfl, WM11, EM11⟩
    · skip
      refine A_lloadn C dX3_become_34 3 rfl rfl ?_
      refine A_lload C dX3_become_35 0 rfl ?_
      refine A_ldivH C (by omega) (by omega) dX3_become_37 (fun z12 rz12 => ?_)
      refine A_goto C 42 dX3_become_38 (by decide) ?_
      refine G_putL C WM8 EM8 ha rfl rfl rfl fX3_become_13 ⟨tyX3_ok, nmX3, rfl, by decide⟩ rfl rfl (by omega) dX3_become_42 (fun M13 eM13 WM13 EM13 => ?_)
      exact A_vret C dX3_become_45 ⟨rfl, WM13, EM13⟩
  · skip
    refine A_lloadn C dX3_become_15 2 rfl rfl ?_
    refine A_lload C dX3_become_16 0 rfl ?_
    refine A_ldivH C (by omega) (by omega) dX3_become_18 (fun z14 rz14 => ?_)
    refine A_goto C 23 dX3_become_19 (by decide) ?_
    refine G_putL C WM2 EM2 ha rfl rfl rfl fX3_become_7 ⟨tyX3_ok, nmX3, rfl, by decide⟩ rfl rfl (by omega) dX3_become_23 (fun M15 eM15 WM15 EM15 => ?_)
    refine A_aloadn C dX3_become_26 1 rfl rfl ?_
    refine A_lload C dX3_become_27 0 rfl ?_
    refine A_lconst1 C dX3_become_29 ?_
    refine A_lcmp C (by omega) (by omega) dX3_become_30 (fun z16 cz16 => ?_)
    refine A_ifle C 41 dX3_become_31 (by decide) (by omega) (fun c17 => ?_) (fun c17 => ?_)
    · skip
      refine A_lloadn C dX3_become_41 3 rfl rfl ?_
      refine G_putL C WM15 EM15 ha rfl rfl rfl fX3_become_13 ⟨tyX3_ok, nmX3, rfl, by decide⟩ rfl rfl (by omega) dX3_become_42 (fun M18 eM18 WM18 EM18 => ?_)
      exact A_vret C dX3_become_45 ⟨rfl, WM18, EM18⟩
    · skip
      refine A_lloadn C dX3_become_34 3 rfl rfl ?_
      refine A_lload C dX3_become_35 0 rfl ?_
      refine A_ldivH C (by omega) (by omega) dX3_become_37 (fun z19 rz19 => ?_)
      refine A_goto C 42 dX3_become_38 (by decide) ?_
      refine G_putL C WM15 EM15 ha rfl rfl rfl fX3_become_13 ⟨tyX3_ok, nmX3, rfl, by decide⟩ rfl rfl (by omega) dX3_become_42 (fun M20 eM20 WM20 EM20 => ?_)
      exact A_vret C dX3_become_45 ⟨rfl, WM20, EM20⟩
