theorem uX4_clearTo_4 : ∀ w ∈ u_ws RX4 TX4 2, w ∈ wsX4_clearTo := by decide +kernel
theorem fX4_clearTo_11 : Fl RX4 wsX4_clearTo 4 0 11 RX4 TX4 2 := ⟨rfl, by decide, uX4_clearTo_4, by decide +kernel⟩
theorem fX4_clearTo_17 : Fl RX4 wsX4_clearTo 4 1 17 RX4 TX4 2 := ⟨rfl, by decide, uX4_clearTo_4, by decide +kernel⟩
set_option maxHeartbeats 4000000 in
theorem lpX4_clearTo_7 {p : Program} {l : Launch} {e : Env} {s : State} {m : MethodId} {args : Array Value} {below : List Frame} {meth : Method} {c : Code} {G : xG} (C : Cx p s m args meth c G cX4_clearTo 3 RX4 wsX4_clearTo none)  {a : Nat} (ha : kd a = 6) {x1 : Int} (hx1 : (0 : Int) ≤ x1 ∧ x1 ≤ 12) {M0 : Mem} : ∀ (n : Nat) (v2 : Int) (M : Mem), (13 - v2).toNat < n → (0 ≤ v2 ∧ v2 ≤ 12 ∧ M.1 a 1 = x1) → WF M → Fr [6, 8] M0 M → AW p l e (rmD 2) s m args below meth c G 3 (QQ G below args s ((fun M r M' => r = none ∧ WF M' ∧ Fr [6, 8] M M' ∧ M'.1 a 1 = x1) M0)) M 7 [(0, .ref a), (2, .int (iI v2))] [] := by
  intro n
  induction n with
  | zero => intro v2 M hn; exact absurd hn (Nat.not_lt_zero _)
  | succ n ih =>
    intro v2 M hn hi W E
    refine A_iloadn C dX4_clearTo_7 1 rfl rfl ?_
    refine A_bipush C dX4_clearTo_8 (by decide) ?_
    refine A_icmpge C 28 dX4_clearTo_10 (by decide) (by omega) (by omega) (fun c1 => ?_) (fun c1 => ?_)
    · skip
      exact A_vret C dX4_clearTo_28 ⟨rfl, W, E, by omega⟩
    · skip
      refine A_aloadn C dX4_clearTo_13 0 rfl rfl ?_
      refine G_getR C W ha rfl rfl rfl rfl fX4_clearTo_11 dX4_clearTo_14 (fun b2 hb2 qb2 => ?_)
      refine A_iloadn C dX4_clearTo_17 1 rfl rfl ?_
      refine G_aald C W qb2 (by omega) (by omega) dX4_clearTo_18 (fun b3 hb3 qb3 => ?_)
      refine A_callV C (n := 0) (st := []) (kX1_clear qb3) gX4_clearTo_X1_clear rfl (by decide +kernel) ⟨Nat.le_of_ble_eq_true rfl, Nat.le_of_ble_eq_true rfl⟩ qb3 rfl rfl rfl rfl (Nat.le_of_ble_eq_true rfl) dX4_clearTo_19 rfl W (fun r4 M5 h6 => ?_)
      obtain ⟨rfl, WM5, FM5⟩ := h6
      have EM5 := Fr.tr E (FM5.mono (c2 := [6, 8]) rfl)
      have t_M5_a_1 : M5.1 a 1 = _ := congrFun (FM5 a (by rw [ha]; rfl)).1 1
      refine A_st (st' := []) rfl ?_
      refine A_iinc (lv' := [(2, .int (iI (v2 + 1))), (0, .ref a)]) C dX4_clearTo_22 1 rfl (by decide) rfl ?_
      refine A_goto C 7 dX4_clearTo_25 (by decide) ?_
      refine A_pick [1, 0] rfl ?_
      exact ih (v2 + 1) M5 (by omega) (by omega) WM5 EM5
set_option maxHeartbeats 4000000 in
theorem kX4_clearTo  {a : Nat} (ha : kd a = 6) {x1 : Int} (hx1 : (0 : Int) ≤ x1 ∧ x1 ≤ 12) : Ct yX4_clearTo wsX4_clearTo 2 [.ref a, .int (iI x1)] (fun M => WF M) (fun M r M' => r = none ∧ WF M' ∧ Fr [6, 8] M M' ∧ M'.1 a 1 = x1) := by
  refine Ct_of (cc := cX4_clearTo) (nL := 3) (rt := none) (own := RX4) rfl (by decide) rfl (Nat.le_of_ble_eq_true rfl) ?_
  intro p l e s m args below meth c G M0 C W
  have E : Fr [6, 8] M0 M0 := Fr.rf
  refine A_lv (lv' := [(0, .ref a), (1, .int (iI x1))]) rfl ?_
  refine A_aloadn C dX4_clearTo_0 0 rfl rfl ?_
  refine A_iloadn C dX4_clearTo_1 1 rfl rfl ?_
  refine G_putI C W E ha rfl rfl rfl rfl rfl fX4_clearTo_17 ⟨tyX4_ok, nmX4, rfl, by decide⟩ (Or.inl rfl) rfl rfl (by omega) (by omega) dX4_clearTo_2 (fun M8 eM8 WM8 EM8 => ?_)
  have t_M8_a_1 : M8.1 a 1 = x1 := by rw [eM8]; exact sI_at
  refine A_iconst C dX4_clearTo_5 ?_
  refine A_istoren (lv' := [(2, .int (iI 0)), (0, .ref a), (1, .int (iI x1))]) C dX4_clearTo_6 rfl (by decide) rfl ?_
  refine A_pick [1, 0] rfl ?_
  exact lpX4_clearTo_7 C  ha hx1 ((13 - (0 : Int)).toNat + 1) 0 M8 (by omega) (by omega) WM8 EM8

theorem uX4_copy_4 : ∀ w ∈ u_ws RX4 TX4 2, w ∈ wsX4_copy := by decide +kernel
theorem fX4_copy_17 : Fl RX4 wsX4_copy 4 1 17 RX4 TX4 2 := ⟨rfl, by decide, uX4_copy_4, by decide +kernel⟩
theorem fX4_copy_11 : Fl RX4 wsX4_copy 4 0 11 RX4 TX4 2 := ⟨rfl, by decide, uX4_copy_4, by decide +kernel⟩
set_option maxHeartbeats 4000000 in
theorem lpX4_copy_10 {p : Program} {l : Launch} {e : Env} {s : State} {m : MethodId} {args : Array Value} {below : List Frame} {meth : Method} {c : Code} {G : xG} (C : Cx p s m args meth c G cX4_copy 3 RX4 wsX4_copy none)  {a : Nat} (ha : kd a = 12) {b : Nat} (hb : kd b = 6) {M0 : Mem} : ∀ (n : Nat) (v2 : Int) (M : Mem), (13 - v2).toNat < n → (0 ≤ v2 ∧ v2 ≤ 12) → WF M → Fr [12, 8, 10, 11] M0 M → AW p l e (rmD 3) s m args below meth c G 3 (QQ G below args s ((fun M r M' => r = none ∧ WF M' ∧ Fr [12, 8, 10, 11] M M') M0)) M 10 [(0, .ref a), (1, .ref b), (2, .int (iI v2))] [] := by
  intro n
  induction n with
  | zero => intro v2 M hn; exact absurd hn (Nat.not_lt_zero _)
  | succ n ih =>
    intro v2 M hn hi W E
    refine A_iloadn C dX4_copy_10 2 rfl rfl ?_
    refine A_aloadn C dX4_copy_11 0 rfl rfl ?_
    refine G_getI C W ha rfl rfl rfl rfl rfl fX4_copy_17 rfl dX4_copy_12 (fun z1 ez1 lz1 uz1 => ?_)
    refine A_icmpge C 39 dX4_copy_15 (by decide) (by omega) (by omega) (fun c2 => ?_) (fun c2 => ?_)
    · skip
      exact A_vret C dX4_copy_39 ⟨rfl, W, E⟩
    · skip
      refine A_aloadn C dX4_copy_18 0 rfl rfl ?_
      refine G_getR C W ha rfl rfl rfl rfl fX4_copy_11 dX4_copy_19 (fun b3 hb3 qb3 => ?_)
      refine A_iloadn C dX4_copy_22 2 rfl rfl ?_
      refine G_aald C W qb3 (by omega) (by omega) dX4_copy_23 (fun b4 hb4 qb4 => ?_)
      refine A_aloadn C dX4_copy_24 1 rfl rfl ?_
      refine G_getR C W hb rfl rfl rfl rfl fX4_copy_11 dX4_copy_25 (fun b5 hb5 qb5 => ?_)
      refine A_iloadn C dX4_copy_28 2 rfl rfl ?_
      refine G_aald C W qb5 (by omega) (by omega) dX4_copy_29 (fun b6 hb6 qb6 => ?_)
      refine A_callV C (n := 1) (st := []) (kX1_copy qb4 qb6) gX4_copy_X1_copy rfl (by decide +kernel) ⟨Nat.le_of_ble_eq_true rfl, Nat.le_of_ble_eq_true rfl⟩ qb4 rfl rfl rfl rfl (Nat.le_of_ble_eq_true rfl) dX4_copy_30 rfl W (fun r7 M8 h9 => ?_)
      obtain ⟨rfl, WM8, FM8⟩ := h9
      have EM8 := Fr.tr E (FM8.mono (c2 := [12, 8, 10, 11]) rfl)
      refine A_st (st' := []) rfl ?_
      refine A_iinc (lv' := [(2, .int (iI (v2 + 1))), (0, .ref a), (1, .ref b)]) C dX4_copy_33 2 rfl (by decide) rfl ?_
      refine A_goto C 10 dX4_copy_36 (by decide) ?_
      refine A_pick [1, 2, 0] rfl ?_
      exact ih (v2 + 1) M8 (by omega) (by omega) WM8 EM8
set_option maxHeartbeats 4000000 in
theorem kX4_copy  {a : Nat} (ha : kd a = 12) {b : Nat} (hb : kd b = 6) : Ct yX4_copy wsX4_copy 3 [.ref a, .ref b] (fun M => WF M) (fun M r M' => r = none ∧ WF M' ∧ Fr [12, 8, 10, 11] M M') := by
  refine Ct_of (cc := cX4_copy) (nL := 3) (rt := none) (own := RX4) rfl (by decide) rfl (Nat.le_of_ble_eq_true rfl) ?_
  intro p l e s m args below meth c G M0 C W
  have E : Fr [12, 8, 10, 11] M0 M0 := Fr.rf
  refine A_lv (lv' := [(0, .ref a), (1, .ref b)]) rfl ?_
  refine A_aloadn C dX4_copy_0 0 rfl rfl ?_
  refine A_aloadn C dX4_copy_1 1 rfl rfl ?_
  refine G_getI C W hb rfl rfl rfl rfl rfl fX4_copy_17 rfl dX4_copy_2 (fun z11 ez11 lz11 uz11 => ?_)
  refine G_putI C W E ha rfl rfl rfl rfl rfl fX4_copy_17 ⟨tyX4_ok, nmX4, rfl, by decide⟩ (Or.inl rfl) rfl rfl (by omega) (by omega) dX4_copy_5 (fun M12 eM12 WM12 EM12 => ?_)
  refine A_iconst C dX4_copy_8 ?_
  refine A_istoren (lv' := [(2, .int (iI 0)), (0, .ref a), (1, .ref b)]) C dX4_copy_9 rfl (by decide) rfl ?_
  refine A_pick [1, 2, 0] rfl ?_
  exact lpX4_copy_10 C  ha hb ((13 - (0 : Int)).toNat + 1) 0 M12 (by omega) (by omega) WM12 EM12

theorem uX4_reckon_4 : ∀ w ∈ u_ws RX4 TX4 2, w ∈ wsX4_reckon := by decide +kernel
theorem fX4_reckon_17 : Fl RX4 wsX4_reckon 4 1 17 RX4 TX4 2 := ⟨rfl, by decide, uX4_reckon_4, by decide +kernel⟩
theorem fX4_reckon_11 : Fl RX4 wsX4_reckon 4 0 11 RX4 TX4 2 := ⟨rfl, by decide, uX4_reckon_4, by decide +kernel⟩
set_option maxHeartbeats 4000000 in
theorem lpX4_reckon_2 {p : Program} {l : Launch} {e : Env} {s : State} {m : MethodId} {args : Array Value} {below : List Frame} {meth : Method} {c : Code} {G : xG} (C : Cx p s m args meth c G cX4_reckon 2 RX4 wsX4_reckon none)  {a : Nat} (ha : (kd a = 6 ∨ kd a = 12)) {M0 : Mem} : ∀ (n : Nat) (v1 : Int) (M : Mem), (13 - v1).toNat < n → (0 ≤ v1 ∧ v1 ≤ 12) → WF M → Fr [8, 10, 11] M0 M → AW p l e (rmD 4) s m args below meth c G 2 (QQ G below args s ((fun M r M' => r = none ∧ WF M' ∧ Fr [8, 10, 11] M M') M0)) M 2 [(0, .ref a), (1, .int (iI v1))] [] := by
  intro n
  induction n with
  | zero => intro v1 M hn; exact absurd hn (Nat.not_lt_zero _)
  | succ n ih =>
    intro v1 M hn hi W E
    refine A_iloadn C dX4_reckon_2 1 rfl rfl ?_
    refine A_aloadn C dX4_reckon_3 0 rfl rfl ?_
    refine gr_getI C W ha fX4_reckon_17 dX4_reckon_4 (fun z1 ez1 lz1 uz1 => ?_)
    refine A_icmpge C 25 dX4_reckon_7 (by decide) (by omega) (by omega) (fun c2 => ?_) (fun c2 => ?_)
    · skip
      exact A_vret C dX4_reckon_25 ⟨rfl, W, E⟩
    · skip
      refine A_aloadn C dX4_reckon_10 0 rfl rfl ?_
      obtain ⟨b3, hb3, qb3⟩ := gr_cols W ha
      refine gr_getR C ha hb3 fX4_reckon_11 dX4_reckon_11 ?_
      refine A_iloadn C dX4_reckon_14 1 rfl rfl ?_
      refine G_aald C W qb3 (by omega) (by omega) dX4_reckon_15 (fun b4 hb4 qb4 => ?_)
      refine A_callV C (n := 0) (st := []) (kX1_reckon qb4) gX4_reckon_X1_reckon rfl (by decide +kernel) ⟨Nat.le_of_ble_eq_true rfl, Nat.le_of_ble_eq_true rfl⟩ qb4 rfl rfl rfl rfl (Nat.le_of_ble_eq_true rfl) dX4_reckon_16 rfl W (fun r5 M6 h7 => ?_)
      obtain ⟨rfl, WM6, FM6⟩ := h7
      have EM6 := Fr.tr E (FM6.mono (c2 := [8, 10, 11]) rfl)
      refine A_st (st' := []) rfl ?_
      refine A_iinc (lv' := [(1, .int (iI (v1 + 1))), (0, .ref a)]) C dX4_reckon_19 1 rfl (by decide) rfl ?_
      refine A_goto C 2 dX4_reckon_22 (by decide) ?_
      refine A_pick [1, 0] rfl ?_
      exact ih (v1 + 1) M6 (by omega) (by omega) WM6 EM6
set_option maxHeartbeats 4000000 in
theorem kX4_reckon  {a : Nat} (ha : (kd a = 6 ∨ kd a = 12)) : Ct yX4_reckon wsX4_reckon 4 [.ref a] (fun M => WF M) (fun M r M' => r = none ∧ WF M' ∧ Fr [8, 10, 11] M M') := by
  refine Ct_of (cc := cX4_reckon) (nL := 2) (rt := none) (own := RX4) rfl (by decide) rfl (Nat.le_of_ble_eq_true rfl) ?_
  intro p l e s m args below meth c G M0 C W
  have E : Fr [8, 10, 11] M0 M0 := Fr.rf
  refine A_lv (lv' := [(0, .ref a)]) rfl ?_
  refine A_iconst C dX4_reckon_0 ?_
  refine A_istoren (lv' := [(1, .int (iI 0)), (0, .ref a)]) C dX4_reckon_1 rfl (by decide) rfl ?_
  refine A_pick [1, 0] rfl ?_
  exact lpX4_reckon_2 C  ha ((13 - (0 : Int)).toNat + 1) 0 M0 (by omega) (by omega) W E

theorem uX4_raiseWater_4 : ∀ w ∈ u_ws RX4 TX4 2, w ∈ wsX4_raiseWater := by decide +kernel
theorem uX4_raiseWater_1 : ∀ w ∈ u_ws RX1 TX1 9, w ∈ wsX4_raiseWater := by decide +kernel
theorem fX4_raiseWater_17 : Fl RX4 wsX4_raiseWater 4 1 17 RX4 TX4 2 := ⟨rfl, by decide, uX4_raiseWater_4, by decide +kernel⟩
theorem fX4_raiseWater_11 : Fl RX4 wsX4_raiseWater 4 0 11 RX4 TX4 2 := ⟨rfl, by decide, uX4_raiseWater_4, by decide +kernel⟩
theorem fX4_raiseWater_46 : Fl RX4 wsX4_raiseWater 1 2 46 RX1 TX1 9 := ⟨rfl, by decide, uX4_raiseWater_1, by decide +kernel⟩
set_option maxHeartbeats 4000000 in
theorem lpX4_raiseWater_2 {p : Program} {l : Launch} {e : Env} {s : State} {m : MethodId} {args : Array Value} {below : List Frame} {meth : Method} {c : Code} {G : xG} (C : Cx p s m args meth c G cX4_raiseWater 3 RX4 wsX4_raiseWater none)  {a : Nat} (ha : kd a = 12) {x1 : Int} (hx1 : (0 : Int) ≤ x1 ∧ x1 ≤ 24) {M0 : Mem} : ∀ (n : Nat) (v2 : Int) (M : Mem), (13 - v2).toNat < n → (0 ≤ v2 ∧ v2 ≤ 12) → WF M → Fr [8] M0 M → AW p l e (rmD 2) s m args below meth c G 3 (QQ G below args s ((fun M r M' => r = none ∧ WF M' ∧ Fr [8] M M') M0)) M 2 [(0, .ref a), (1, .int (iI x1)), (2, .int (iI v2))] [] := by
  intro n
  induction n with
  | zero => intro v2 M hn; exact absurd hn (Nat.not_lt_zero _)
  | succ n ih =>
    intro v2 M hn hi W E
    refine A_iloadn C dX4_raiseWater_2 2 rfl rfl ?_
    refine A_aloadn C dX4_raiseWater_3 0 rfl rfl ?_
    refine G_getI C W ha rfl rfl rfl rfl rfl fX4_raiseWater_17 rfl dX4_raiseWater_4 (fun z1 ez1 lz1 uz1 => ?_)
    refine A_icmpge C 42 dX4_raiseWater_7 (by decide) (by omega) (by omega) (fun c2 => ?_) (fun c2 => ?_)
    · skip
      exact A_vret C dX4_raiseWater_42 ⟨rfl, W, E⟩
    · skip
      refine A_aloadn C dX4_raiseWater_10 0 rfl rfl ?_
      refine G_getR C W ha rfl rfl rfl rfl fX4_raiseWater_11 dX4_raiseWater_11 (fun b3 hb3 qb3 => ?_)
      refine A_iloadn C dX4_raiseWater_14 2 rfl rfl ?_
      refine G_aald C W qb3 (by omega) (by omega) dX4_raiseWater_15 (fun b4 hb4 qb4 => ?_)
      refine A_iconst C dX4_raiseWater_16 ?_
      refine A_aloadn C dX4_raiseWater_17 0 rfl rfl ?_
      refine G_getR C W ha rfl rfl rfl rfl fX4_raiseWater_11 dX4_raiseWater_18 (fun b5 hb5 qb5 => ?_)
      refine A_iloadn C dX4_raiseWater_21 2 rfl rfl ?_
      refine G_aald C W qb5 (by omega) (by omega) dX4_raiseWater_22 (fun b6 hb6 qb6 => ?_)
      refine G_getI C W qb6 rfl rfl rfl rfl rfl fX4_raiseWater_46 rfl dX4_raiseWater_23 (fun z7 ez7 lz7 uz7 => ?_)
      refine A_iloadn C dX4_raiseWater_26 1 rfl rfl ?_
      refine A_iadd C dX4_raiseWater_27 ?_
      refine A_bipush C dX4_raiseWater_28 (by decide) ?_
      refine A_min C (by omega) (by omega) (by decide +kernel) (by decide +kernel) (by decide +kernel) (by decide +kernel) (Nat.le_of_ble_eq_true rfl) (Nat.le_of_ble_eq_true rfl) dX4_raiseWater_30 (fun z8 ez8 lz8 uz8 => ?_)
      refine A_callV C (n := 2) (st := []) (kX1_put qb4 (by omega) (by omega) (by omega)) gX4_raiseWater_X1_put rfl (by decide +kernel) ⟨Nat.le_of_ble_eq_true rfl, Nat.le_of_ble_eq_true rfl⟩ qb4 rfl rfl rfl rfl (Nat.le_of_ble_eq_true rfl) dX4_raiseWater_33 rfl W (fun r9 M10 h11 => ?_)
      obtain ⟨rfl, WM10, FM10⟩ := h11
      have EM10 := Fr.tr E (FM10.mono (c2 := [8]) rfl)
      refine A_st (st' := []) rfl ?_
      refine A_iinc (lv' := [(2, .int (iI (v2 + 1))), (0, .ref a), (1, .int (iI x1))]) C dX4_raiseWater_36 2 rfl (by decide) rfl ?_
      refine A_goto C 2 dX4_raiseWater_39 (by decide) ?_
      refine A_pick [1, 2, 0] rfl ?_
      exact ih (v2 + 1) M10 (by omega) (by omega) WM10 EM10
set_option maxHeartbeats 4000000 in
theorem kX4_raiseWater  {a : Nat} (ha : kd a = 12) {x1 : Int} (hx1 : (0 : Int) ≤ x1 ∧ x1 ≤ 24) : Ct yX4_raiseWater wsX4_raiseWater 2 [.ref a, .int (iI x1)] (fun M => WF M) (fun M r M' => r = none ∧ WF M' ∧ Fr [8] M M') := by
  refine Ct_of (cc := cX4_raiseWater) (nL := 3) (rt := none) (own := RX4) rfl (by decide) rfl (Nat.le_of_ble_eq_true rfl) ?_
  intro p l e s m args below meth c G M0 C W
  have E : Fr [8] M0 M0 := Fr.rf
  refine A_lv (lv' := [(0, .ref a), (1, .int (iI x1))]) rfl ?_
  refine A_iconst C dX4_raiseWater_0 ?_
  refine A_istoren (lv' := [(2, .int (iI 0)), (0, .ref a), (1, .int (iI x1))]) C dX4_raiseWater_1 rfl (by decide) rfl ?_
  refine A_pick [1, 2, 0] rfl ?_
  exact lpX4_raiseWater_2 C  ha hx1 ((13 - (0 : Int)).toNat + 1) 0 M0 (by omega) (by omega) W E

theorem uX4_cellCount_4 : ∀ w ∈ u_ws RX4 TX4 2, w ∈ wsX4_cellCount := by decide +kernel
theorem uX4_cellCount_1 : ∀ w ∈ u_ws RX1 TX1 9, w ∈ wsX4_cellCount := by decide +kernel
theorem fX4_cellCount_17 : Fl RX4 wsX4_cellCount 4 1 17 RX4 TX4 2 := ⟨rfl, by decide, uX4_cellCount_4, by decide +kernel⟩
theorem fX4_cellCount_11 : Fl RX4 wsX4_cellCount 4 0 11 RX4 TX4 2 := ⟨rfl, by decide, uX4_cellCount_4, by decide +kernel⟩
theorem fX4_cellCount_59 : Fl RX4 wsX4_cellCount 1 1 59 RX1 TX1 9 := ⟨rfl, by decide, uX4_cellCount_1, by decide +kernel⟩
set_option maxHeartbeats 4000000 in
theorem lpX4_cellCount_4 {p : Program} {l : Launch} {e : Env} {s : State} {m : MethodId} {args : Array Value} {below : List Frame} {meth : Method} {c : Code} {G : xG} (C : Cx p s m args meth c G cX4_cellCount 3 RX4 wsX4_cellCount (some .int))  {a : Nat} (ha : kd a = 6) {M0 : Mem} : ∀ (n : Nat) (v1 v2 : Int) (M : Mem), (13 - v2).toNat < n → (0 ≤ v1 ∧ v1 ≤ 24 * v2 ∧ 0 ≤ v2 ∧ v2 ≤ 12) → WF M → Fr [] M0 M → AW p l e (rmD 1) s m args below meth c G 3 (QQ G below args s ((fun M r M' => ∃ z : Int, r = some (.int (iI z)) ∧ (-2147483648 : Int) ≤ z ∧ z ≤ 2147483647 ∧ WF M' ∧ Fr [] M M') M0)) M 4 [(0, .ref a), (1, .int (iI v1)), (2, .int (iI v2))] [] := by
  intro n
  induction n with
  | zero => intro v1 v2 M hn; exact absurd hn (Nat.not_lt_zero _)
  | succ n ih =>
    intro v1 v2 M hn hi W E
    refine A_iloadn C dX4_cellCount_4 2 rfl rfl ?_
    refine A_aloadn C dX4_cellCount_5 0 rfl rfl ?_
    refine G_getI C W ha rfl rfl rfl rfl rfl fX4_cellCount_17 rfl dX4_cellCount_6 (fun z1 ez1 lz1 uz1 => ?_)
    refine A_icmpge C 30 dX4_cellCount_9 (by decide) (by omega) (by omega) (fun c2 => ?_) (fun c2 => ?_)
    · skip
      refine A_iloadn C dX4_cellCount_30 1 rfl rfl ?_
      exact A_iret C dX4_cellCount_31 ⟨v1, rfl, by omega, by omega, W, E⟩
    · skip
      refine A_iloadn C dX4_cellCount_12 1 rfl rfl ?_
      refine A_aloadn C dX4_cellCount_13 0 rfl rfl ?_
      refine G_getR C W ha rfl rfl rfl rfl fX4_cellCount_11 dX4_cellCount_14 (fun b3 hb3 qb3 => ?_)
      refine A_iloadn C dX4_cellCount_17 2 rfl rfl ?_
      refine G_aald C W qb3 (by omega) (by omega) dX4_cellCount_18 (fun b4 hb4 qb4 => ?_)
      refine G_getI C W qb4 rfl rfl rfl rfl rfl fX4_cellCount_59 rfl dX4_cellCount_19 (fun z5 ez5 lz5 uz5 => ?_)
      refine A_iadd C dX4_cellCount_22 ?_
      refine A_nami (fun z6 ez6 => ?_)
      refine A_istoren (lv' := [(1, .int (iI z6)), (0, .ref a), (2, .int (iI v2))]) C dX4_cellCount_23 rfl (by decide) rfl ?_
      refine A_iinc (lv' := [(2, .int (iI (v2 + 1))), (1, .int (iI z6)), (0, .ref a)]) C dX4_cellCount_24 2 rfl (by decide) rfl ?_
      refine A_goto C 4 dX4_cellCount_27 (by decide) ?_
      refine A_pick [2, 1, 0] rfl ?_
      exact ih z6 (v2 + 1) M (by omega) (by omega) W E
set_option maxHeartbeats 4000000 in
theorem kX4_cellCount  {a : Nat} (ha : kd a = 6) : Ct yX4_cellCount wsX4_cellCount 1 [.ref a] (fun M => WF M) (fun M r M' => ∃ z : Int, r = some (.int (iI z)) ∧ (-2147483648 : Int) ≤ z ∧ z ≤ 2147483647 ∧ WF M' ∧ Fr [] M M') := by
  refine Ct_of (cc := cX4_cellCount) (nL := 3) (rt := (some .int)) (own := RX4) rfl (by decide) rfl (Nat.le_of_ble_eq_true rfl) ?_
  intro p l e s m args below meth c G M0 C W
  have E : Fr [] M0 M0 := Fr.rf
  refine A_lv (lv' := [(0, .ref a)]) rfl ?_
  refine A_iconst C dX4_cellCount_0 ?_
  refine A_istoren (lv' := [(1, .int (iI 0)), (0, .ref a)]) C dX4_cellCount_1 rfl (by decide) rfl ?_
  refine A_iconst C dX4_cellCount_2 ?_
  refine A_istoren (lv' := [(2, .int (iI 0)), (1, .int (iI 0)), (0, .ref a)]) C dX4_cellCount_3 rfl (by decide) rfl ?_
  refine A_pick [2, 1, 0] rfl ?_
  exact lpX4_cellCount_4 C  ha ((13 - (0 : Int)).toNat + 1) 0 0 M0 (by omega) (by omega) W E

theorem uX4_holdsOfPart_6_20_4 : ∀ w ∈ u_ws RX4 TX4 2, w ∈ wsX4_holdsOfPart := by decide +kernel
theorem uX4_holdsOfPart_6_20_5 : ∀ w ∈ u_ws RX5 TX5 3, w ∈ wsX4_holdsOfPart := by decide +kernel
theorem fX4_holdsOfPart_6_20_11 : Fl RX4 wsX4_holdsOfPart 4 0 11 RX4 TX4 2 := ⟨rfl, by decide, uX4_holdsOfPart_6_20_4, by decide +kernel⟩
theorem fX4_holdsOfPart_6_20_74 : Fl RX4 wsX4_holdsOfPart 5 1 74 RX5 TX5 3 := ⟨rfl, by decide, uX4_holdsOfPart_6_20_5, by decide +kernel⟩
theorem fX4_holdsOfPart_6_20_71 : Fl RX4 wsX4_holdsOfPart 5 0 71 RX5 TX5 3 := ⟨rfl, by decide, uX4_holdsOfPart_6_20_5, by decide +kernel⟩
set_option maxHeartbeats 4000000 in
theorem kX4_holdsOfPart_6_20  {a : Nat} (ha : kd a = 6) {b : Nat} (hb : kd b = 20) {x2 : Int} (hx2 : (0 : Int) ≤ x2 ∧ x2 ≤ 11) : Ct yX4_holdsOfPart wsX4_holdsOfPart 4 [.ref a, .ref b, .int (iI x2)] (fun M => WF M ∧ (M.1 b 1 + x2 ≤ 11)) (fun M r M' => ∃ z : Int, r = some (.int (iI z)) ∧ (-2147483648 : Int) ≤ z ∧ z ≤ 2147483647 ∧ WF M' ∧ Fr [8, 10, 11] M M') := by
  refine Ct_of (cc := cX4_holdsOfPart) (nL := 5) (rt := (some .int)) (own := RX4) rfl (by decide) rfl (Nat.le_of_ble_eq_true rfl) ?_
  intro p l e s m args below meth c G M0 C W
  obtain ⟨W, hM⟩ := W
  have E : Fr [8, 10, 11] M0 M0 := Fr.rf
  refine A_lv (lv' := [(0, .ref a), (1, .ref b), (2, .int (iI x2))]) rfl ?_
  refine A_aloadn C dX4_holdsOfPart_0 0 rfl rfl ?_
  refine G_getR C W ha rfl rfl rfl rfl fX4_holdsOfPart_6_20_11 dX4_holdsOfPart_1 (fun b1 hb1 qb1 => ?_)
  refine A_aloadn C dX4_holdsOfPart_4 1 rfl rfl ?_
  refine G_getI C W hb rfl rfl rfl rfl rfl fX4_holdsOfPart_6_20_74 rfl dX4_holdsOfPart_5 (fun z2 ez2 lz2 uz2 => ?_)
  refine A_iloadn C dX4_holdsOfPart_8 2 rfl rfl ?_
  refine A_iadd C dX4_holdsOfPart_9 ?_
  refine G_aald C W qb1 (by omega) (by omega) dX4_holdsOfPart_10 (fun b3 hb3 qb3 => ?_)
  refine A_astoren (lv' := [(3, .ref b3), (0, .ref a), (1, .ref b), (2, .int (iI x2))]) C dX4_holdsOfPart_11 rfl (by decide) rfl ?_
  refine A_aloadn C dX4_holdsOfPart_12 0 rfl rfl ?_
  refine A_callV C (n := 0) (st := []) (kX1_reckon qb3) gX4_holdsOfPart_X1_reckon rfl (by decide +kernel) ⟨Nat.le_of_ble_eq_true rfl, Nat.le_of_ble_eq_true rfl⟩ qb3 rfl rfl rfl rfl (Nat.le_of_ble_eq_true rfl) dX4_holdsOfPart_13 rfl W (fun r4 M5 h6 => ?_)
  obtain ⟨rfl, WM5, FM5⟩ := h6
  have EM5 := Fr.tr E (FM5.mono (c2 := [8, 10, 11]) rfl)
  have t_M5_b_1 : M5.1 b 1 = _ := congrFun (FM5 b (by rw [hb]; rfl)).1 1
  have t_M5_b_2 : M5.1 b 2 = _ := congrFun (FM5 b (by rw [hb]; rfl)).1 2
  refine A_st (st' := []) rfl ?_
  refine A_aloadn C dX4_holdsOfPart_16 2 rfl rfl ?_
  refine G_getR C WM5 hb rfl rfl rfl rfl fX4_holdsOfPart_6_20_71 dX4_holdsOfPart_17 (fun b8 hb8 qb8 => ?_)
  refine A_iloadn C dX4_holdsOfPart_20 3 rfl rfl ?_
  refine G_iald C WM5 qb8 rfl rfl (by decide) (fun _ => rfl) (by omega) (by omega) dX4_holdsOfPart_21 (fun z9 ez9 lz9 uz9 => ?_)
  refine A_aloadn C dX4_holdsOfPart_22 2 rfl rfl ?_
  refine G_getR C WM5 hb rfl rfl rfl rfl fX4_holdsOfPart_6_20_71 dX4_holdsOfPart_23 (fun b10 hb10 qb10 => ?_)
  refine A_iloadn C dX4_holdsOfPart_26 3 rfl rfl ?_
  refine A_iconst C dX4_holdsOfPart_27 ?_
  refine A_iadd C dX4_holdsOfPart_28 ?_
  refine G_iald C WM5 qb10 rfl rfl (by decide) (fun _ => rfl) (by omega) (by omega) dX4_holdsOfPart_29 (fun z11 ez11 lz11 uz11 => ?_)
  refine A_min C (by omega) (by omega) (by decide +kernel) (by decide +kernel) (by decide +kernel) (by decide +kernel) (Nat.le_of_ble_eq_true rfl) (Nat.le_of_ble_eq_true rfl) dX4_holdsOfPart_30 (fun z12 ez12 lz12 uz12 => ?_)
  refine A_istore (lv' := [(4, .int (iI z12)), (3, .ref b3), (0, .ref a), (1, .ref b), (2, .int (iI x2))]) C dX4_holdsOfPart_33 (by decide) rfl ?_
  refine A_aloadn C dX4_holdsOfPart_35 1 rfl rfl ?_
  refine A_iload C dX4_holdsOfPart_36 0 rfl ?_
  refine A_aloadn C dX4_holdsOfPart_38 3 rfl rfl ?_
  refine G_getR C WM5 hb rfl rfl rfl rfl fX4_holdsOfPart_6_20_71 dX4_holdsOfPart_39 (fun b13 hb13 qb13 => ?_)
  refine A_iloadn C dX4_holdsOfPart_42 4 rfl rfl ?_
  refine G_iald C WM5 qb13 rfl rfl (by decide) (fun _ => rfl) (by omega) (by omega) dX4_holdsOfPart_43 (fun z14 ez14 lz14 uz14 => ?_)
  refine A_aloadn C dX4_holdsOfPart_44 3 rfl rfl ?_
  refine G_getR C WM5 hb rfl rfl rfl rfl fX4_holdsOfPart_6_20_71 dX4_holdsOfPart_45 (fun b15 hb15 qb15 => ?_)
  refine A_iloadn C dX4_holdsOfPart_48 4 rfl rfl ?_
  refine A_iconst C dX4_holdsOfPart_49 ?_
  refine A_iadd C dX4_holdsOfPart_50 ?_
  refine G_iald C WM5 qb15 rfl rfl (by decide) (fun _ => rfl) (by omega) (by omega) dX4_holdsOfPart_51 (fun z16 ez16 lz16 uz16 => ?_)
  refine A_isub C dX4_holdsOfPart_52 ?_
  refine A_abs C (by omega) (by omega) (by decide +kernel) (by decide +kernel) (by decide +kernel) (by decide +kernel) (Nat.le_of_ble_eq_true rfl) (Nat.le_of_ble_eq_true rfl) dX4_holdsOfPart_53 (fun z17 ez17 => ?_)
  refine A_callV C (n := 2) (st := []) (kX1_holdsAt qb3 (by omega) (by omega) (by omega) (by omega)) gX4_holdsOfPart_X1_holdsAt rfl (by decide +kernel) ⟨Nat.le_of_ble_eq_true rfl, Nat.le_of_ble_eq_true rfl⟩ qb3 rfl rfl rfl rfl (Nat.le_of_ble_eq_true rfl) dX4_holdsOfPart_56 rfl WM5 (fun r18 M19 h20 => ?_)
  obtain ⟨z22, rfl, lz22, uz22, WM19, FM19, xx21⟩ := h20
  have EM19 := Fr.tr EM5 (FM19.mono (c2 := [8, 10, 11]) rfl)
  have t_M19_b_1 : M19.1 b 1 = _ := congrFun (FM19 b (by rw [hb]; rfl)).1 1
  have t_M19_b_2 : M19.1 b 2 = _ := congrFun (FM19 b (by rw [hb]; rfl)).1 2
  refine A_st (st' := [.int (iI z22)]) rfl ?_
  exact A_iret C dX4_holdsOfPart_59 ⟨z22, rfl, by omega, by omega, WM19, EM19⟩

theorem uX4_holdsOfPart_G_21_4 : ∀ w ∈ u_ws RX4 TX4 2, w ∈ wsX4_holdsOfPart := by decide +kernel
theorem uX4_holdsOfPart_G_21_5 : ∀ w ∈ u_ws RX5 TX5 3, w ∈ wsX4_holdsOfPart := by decide +kernel
theorem fX4_holdsOfPart_G_21_11 : Fl RX4 wsX4_holdsOfPart 4 0 11 RX4 TX4 2 := ⟨rfl, by decide, uX4_holdsOfPart_G_21_4, by decide +kernel⟩
theorem fX4_holdsOfPart_G_21_74 : Fl RX4 wsX4_holdsOfPart 5 1 74 RX5 TX5 3 := ⟨rfl, by decide, uX4_holdsOfPart_G_21_5, by decide +kernel⟩
theorem fX4_holdsOfPart_G_21_71 : Fl RX4 wsX4_holdsOfPart 5 0 71 RX5 TX5 3 := ⟨rfl, by decide, uX4_holdsOfPart_G_21_5, by decide +kernel⟩
set_option maxHeartbeats 4000000 in
theorem kX4_holdsOfPart_G_21  {a : Nat} (ha : (kd a = 6 ∨ kd a = 12)) {b : Nat} (hb : kd b = 21) {x2 : Int} (hx2 : (0 : Int) ≤ x2 ∧ x2 ≤ 11) : Ct yX4_holdsOfPart wsX4_holdsOfPart 4 [.ref a, .ref b, .int (iI x2)] (fun M => WF M ∧ (M.1 b 1 + x2 ≤ 11)) (fun M r M' => ∃ z : Int, r = some (.int (iI z)) ∧ (-2147483648 : Int) ≤ z ∧ z ≤ 2147483647 ∧ WF M' ∧ Fr [8, 10, 11] M M') := by
  refine Ct_of (cc := cX4_holdsOfPart) (nL := 5) (rt := (some .int)) (own := RX4) rfl (by decide) rfl (Nat.le_of_ble_eq_true rfl) ?_
  intro p l e s m args below meth c G M0 C W
  obtain ⟨W, hM⟩ := W
  have E : Fr [8, 10, 11] M0 M0 := Fr.rf
  refine A_lv (lv' := [(0, .ref a), (1, .ref b), (2, .int (iI x2))]) rfl ?_
  refine A_aloadn C dX4_holdsOfPart_0 0 rfl rfl ?_
  obtain ⟨b1, hb1, qb1⟩ := gr_cols W ha
  refine gr_getR C ha hb1 fX4_holdsOfPart_G_21_11 dX4_holdsOfPart_1 ?_
  refine A_aloadn C dX4_holdsOfPart_4 1 rfl rfl ?_
  refine G_getI C W hb rfl rfl rfl rfl rfl fX4_holdsOfPart_G_21_74 rfl dX4_holdsOfPart_5 (fun z2 ez2 lz2 uz2 => ?_)
  refine A_iloadn C dX4_holdsOfPart_8 2 rfl rfl ?_
  refine A_iadd C dX4_holdsOfPart_9 ?_
  refine G_aald C W qb1 (by omega) (by omega) dX4_holdsOfPart_10 (fun b3 hb3 qb3 => ?_)
  refine A_astoren (lv' := [(3, .ref b3), (0, .ref a), (1, .ref b), (2, .int (iI x2))]) C dX4_holdsOfPart_11 rfl (by decide) rfl ?_
  refine A_aloadn C dX4_holdsOfPart_12 0 rfl rfl ?_
  refine A_callV C (n := 0) (st := []) (kX1_reckon qb3) gX4_holdsOfPart_X1_reckon rfl (by decide +kernel) ⟨Nat.le_of_ble_eq_true rfl, Nat.le_of_ble_eq_true rfl⟩ qb3 rfl rfl rfl rfl (Nat.le_of_ble_eq_true rfl) dX4_holdsOfPart_13 rfl W (fun r4 M5 h6 => ?_)
  obtain ⟨rfl, WM5, FM5⟩ := h6
  have EM5 := Fr.tr E (FM5.mono (c2 := [8, 10, 11]) rfl)
  have t_M5_b_1 : M5.1 b 1 = _ := congrFun (FM5 b (by rw [hb]; rfl)).1 1
  have t_M5_b_2 : M5.1 b 2 = _ := congrFun (FM5 b (by rw [hb]; rfl)).1 2
  refine A_st (st' := []) rfl ?_
  refine A_aloadn C dX4_holdsOfPart_16 2 rfl rfl ?_
  refine G_getR C WM5 hb rfl rfl rfl rfl fX4_holdsOfPart_G_21_71 dX4_holdsOfPart_17 (fun b8 hb8 qb8 => ?_)
  refine A_iloadn C dX4_holdsOfPart_20 3 rfl rfl ?_
  refine G_iald C WM5 qb8 rfl rfl (by decide) (fun _ => rfl) (by omega) (by omega) dX4_holdsOfPart_21 (fun z9 ez9 lz9 uz9 => ?_)
  refine A_aloadn C dX4_holdsOfPart_22 2 rfl rfl ?_
  refine G_getR C WM5 hb rfl rfl rfl rfl fX4_holdsOfPart_G_21_71 dX4_holdsOfPart_23 (fun b10 hb10 qb10 => ?_)
  refine A_iloadn C dX4_holdsOfPart_26 3 rfl rfl ?_
  refine A_iconst C dX4_holdsOfPart_27 ?_
  refine A_iadd C dX4_holdsOfPart_28 ?_
  refine G_iald C WM5 qb10 rfl rfl (by decide) (fun _ => rfl) (by omega) (by omega) dX4_holdsOfPart_29 (fun z11 ez11 lz11 uz11 => ?_)
  refine A_min C (by omega) (by omega) (by decide +kernel) (by decide +kernel) (by decide +kernel) (by decide +kernel) (Nat.le_of_ble_eq_true rfl) (Nat.le_of_ble_eq_true rfl) dX4_holdsOfPart_30 (fun z12 ez12 lz12 uz12 => ?_)
  refine A_istore (lv' := [(4, .int (iI z12)), (3, .ref b3), (0, .ref a), (1, .ref b), (2, .int (iI x2))]) C dX4_holdsOfPart_33 (by decide) rfl ?_
  refine A_aloadn C dX4_holdsOfPart_35 1 rfl rfl ?_
  refine A_iload C dX4_holdsOfPart_36 0 rfl ?_
  refine A_aloadn C dX4_holdsOfPart_38 3 rfl rfl ?_
  refine G_getR C WM5 hb rfl rfl rfl rfl fX4_holdsOfPart_G_21_71 dX4_holdsOfPart_39 (fun b13 hb13 qb13 => ?_)
  refine A_iloadn C dX4_holdsOfPart_42 4 rfl rfl ?_
  refine G_iald C WM5 qb13 rfl rfl (by decide) (fun _ => rfl) (by omega) (by omega) dX4_holdsOfPart_43 (fun z14 ez14 lz14 uz14 => ?_)
  refine A_aloadn C dX4_holdsOfPart_44 3 rfl rfl ?_
  refine G_getR C WM5 hb rfl rfl rfl rfl fX4_holdsOfPart_G_21_71 dX4_holdsOfPart_45 (fun b15 hb15 qb15 => ?_)
  refine A_iloadn C dX4_holdsOfPart_48 4 rfl rfl ?_
  refine A_iconst C dX4_holdsOfPart_49 ?_
  refine A_iadd C dX4_holdsOfPart_50 ?_
  refine G_iald C WM5 qb15 rfl rfl (by decide) (fun _ => rfl) (by omega) (by omega) dX4_holdsOfPart_51 (fun z16 ez16 lz16 uz16 => ?_)
  refine A_isub C dX4_holdsOfPart_52 ?_
  refine A_abs C (by omega) (by omega) (by decide +kernel) (by decide +kernel) (by decide +kernel) (by decide +kernel) (Nat.le_of_ble_eq_true rfl) (Nat.le_of_ble_eq_true rfl) dX4_holdsOfPart_53 (fun z17 ez17 => ?_)
  refine A_callV C (n := 2) (st := []) (kX1_holdsAt qb3 (by omega) (by omega) (by omega) (by omega)) gX4_holdsOfPart_X1_holdsAt rfl (by decide +kernel) ⟨Nat.le_of_ble_eq_true rfl, Nat.le_of_ble_eq_true rfl⟩ qb3 rfl rfl rfl rfl (Nat.le_of_ble_eq_true rfl) dX4_holdsOfPart_56 rfl WM5 (fun r18 M19 h20 => ?_)
  obtain ⟨z22, rfl, lz22, uz22, WM19, FM19, xx21⟩ := h20
  have EM19 := Fr.tr EM5 (FM19.mono (c2 := [8, 10, 11]) rfl)
  have t_M19_b_1 : M19.1 b 1 = _ := congrFun (FM19 b (by rw [hb]; rfl)).1 1
  have t_M19_b_2 : M19.1 b 2 = _ := congrFun (FM19 b (by rw [hb]; rfl)).1 2
  refine A_st (st' := [.int (iI z22)]) rfl ?_
  exact A_iret C dX4_holdsOfPart_59 ⟨z22, rfl, by omega, by omega, WM19, EM19⟩
