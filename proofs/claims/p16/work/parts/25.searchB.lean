theorem uX6_weigh_6 : ∀ w ∈ u_ws RX6 TX6 7, w ∈ wsX6_weigh := by decide +kernel
theorem uX6_weigh_4 : ∀ w ∈ u_ws RX4 TX4 2, w ∈ wsX6_weigh := by decide +kernel
theorem uX6_weigh_1 : ∀ w ∈ u_ws RX1 TX1 9, w ∈ wsX6_weigh := by decide +kernel
theorem fX6_weigh_15 : Fl RX6 wsX6_weigh 6 2 15 RX6 TX6 7 := ⟨rfl, by decide, uX6_weigh_6, by decide +kernel⟩
theorem fX6_weigh_9 : Fl RX6 wsX6_weigh 6 1 9 RX6 TX6 7 := ⟨rfl, by decide, uX6_weigh_6, by decide +kernel⟩
theorem fX6_weigh_33 : Fl RX6 wsX6_weigh 6 0 33 RX6 TX6 7 := ⟨rfl, by decide, uX6_weigh_6, by decide +kernel⟩
theorem fX6_weigh_90 : Fl RX6 wsX6_weigh 4 0 90 RX4 TX4 2 := ⟨rfl, by decide, uX6_weigh_4, by decide +kernel⟩
theorem fX6_weigh_94 : Fl RX6 wsX6_weigh 1 1 94 RX1 TX1 9 := ⟨rfl, by decide, uX6_weigh_1, by decide +kernel⟩
theorem fX6_weigh_25 : Fl RX6 wsX6_weigh 6 5 25 RX6 TX6 7 := ⟨rfl, by decide, uX6_weigh_6, by decide +kernel⟩
theorem fX6_weigh_29 : Fl RX6 wsX6_weigh 6 6 29 RX6 TX6 7 := ⟨rfl, by decide, uX6_weigh_6, by decide +kernel⟩
set_option maxHeartbeats 4000000 in
theorem lpX6_weigh_25 {p : Program} {l : Launch} {e : Env} {s : State} {m : MethodId} {args : Array Value} {below : List Frame} {meth : Method} {c : Code} {G : xG} (C : Cx p s m args meth c G cX6_weigh 5 RX6 wsX6_weigh none)  {a : Nat} (ha : kd a = 17) {x1 : Int} {x2 : Int} {x3 : Int} (hx1 : (0 : Int) ≤ x1 ∧ x1 ≤ 12) (hx2 : (0 : Int) ≤ x2 ∧ x2 ≤ 12) (hx3 : (0 : Int) ≤ x3 ∧ x3 ≤ 1) {M0 : Mem} : ∀ (n : Nat) (v4 : Int) (M : Mem), (v4 + 1).toNat < n → (-1 ≤ v4 ∧ v4 ≤ 11) → WF M → Fr [17, 18, 19] M0 M → AW p l e (rmD 3) s m args below meth c G 5 (QQ G below args s ((fun M r M' => r = none ∧ WF M' ∧ Fr [17, 18, 19] M M') M0)) M 25 [(0, .ref a), (1, .int (iI x1)), (4, .int (iI v4))] [] := by
  intro n
  induction n with
  | zero => intro v4 M hn; exact absurd hn (Nat.not_lt_zero _)
  | succ n ih =>
    intro v4 M hn hi W E
    refine A_iload C dX6_weigh_25 2 rfl ?_
    refine A_iloadn C dX6_weigh_27 1 rfl rfl ?_
    refine A_icmplt C 86 dX6_weigh_28 (by decide) (by omega) (by omega) (fun c1 => ?_) (fun c1 => ?_)
    · skip
      exact A_vret C dX6_weigh_86 ⟨rfl, W, E⟩
    · skip
      refine A_aloadn C dX6_weigh_31 0 rfl rfl ?_
      refine A_iload C dX6_weigh_32 2 rfl ?_
      refine A_callV C (n := 1) (st := []) (kX6_clearRests ha (by omega)) gX6_weigh_X6_clearRests rfl (by decide +kernel) ⟨Nat.le_of_ble_eq_true rfl, Nat.le_of_ble_eq_true rfl⟩ ha rfl rfl rfl rfl (Nat.le_of_ble_eq_true rfl) dX6_weigh_34 rfl W (fun r2 M3 h4 => ?_)
      obtain ⟨rfl, WM3, FM3⟩ := h4
      have EM3 := Fr.tr E (FM3.mono (c2 := [17, 18, 19]) rfl)
      refine A_st (st' := []) rfl ?_
      refine A_aloadn C dX6_weigh_37 0 rfl rfl ?_
      refine A_iload C dX6_weigh_38 2 rfl ?_
      refine A_callV C (n := 1) (st := []) (kX6_weighColumn ha (by omega)) gX6_weigh_X6_weighColumn rfl (by decide +kernel) ⟨Nat.le_of_ble_eq_true rfl, Nat.le_of_ble_eq_true rfl⟩ ha rfl rfl rfl rfl (Nat.le_of_ble_eq_true rfl) dX6_weigh_40 rfl WM3 (fun r6 M7 h8 => ?_)
      obtain ⟨rfl, WM7, FM7⟩ := h8
      have EM7 := Fr.tr EM3 (FM7.mono (c2 := [17, 18, 19]) rfl)
      refine A_st (st' := []) rfl ?_
      refine A_aloadn C dX6_weigh_43 0 rfl rfl ?_
      refine G_getR C WM7 ha rfl rfl rfl rfl fX6_weigh_15 dX6_weigh_44 (fun b10 hb10 qb10 => ?_)
      refine A_iload C dX6_weigh_47 2 rfl ?_
      refine A_aloadn C dX6_weigh_49 0 rfl rfl ?_
      refine G_getR C WM7 ha rfl rfl rfl rfl fX6_weigh_9 dX6_weigh_50 (fun b11 hb11 qb11 => ?_)
      refine A_iload C dX6_weigh_53 2 rfl ?_
      refine A_bipush C dX6_weigh_55 (by decide) ?_
      refine A_imul C dX6_weigh_57 ?_
      refine A_aloadn C dX6_weigh_58 0 rfl rfl ?_
      obtain ⟨b12, hb12, qb12⟩ := WM7.2.2.2 a ha
      refine A_getR C ha rfl rfl rfl hb12 fX6_weigh_33 dX6_weigh_59 ?_
      obtain ⟨b14, hb14, qb14⟩ := gr_cols WM7 qb12
      refine gr_getR C qb12 hb14 fX6_weigh_90 dX6_weigh_62 ?_
      refine A_iload C dX6_weigh_65 2 rfl ?_
      refine G_aald C WM7 qb14 (by omega) (by omega) dX6_weigh_67 (fun b15 hb15 qb15 => ?_)
      refine G_getI C WM7 qb15 rfl rfl rfl rfl rfl fX6_weigh_94 rfl dX6_weigh_68 (fun z16 ez16 lz16 uz16 => ?_)
      refine A_iadd C dX6_weigh_71 ?_
      refine G_lald C WM7 qb11 rfl rfl (by decide) (by omega) (by omega) dX6_weigh_72 (fun z17 ez17 rz17 => ?_)
      refine G_last C WM7 EM7 qb10 rfl rfl (by decide) rfl (by omega) (by omega) (by omega) dX6_weigh_73 (fun M18 eM18 WM18 EM18 => ?_)
      refine A_aloadn C dX6_weigh_74 0 rfl rfl ?_
      refine A_iload C dX6_weigh_75 2 rfl ?_
      refine A_callV C (n := 1) (st := []) (kX6_allowEnd ha (by omega)) gX6_weigh_X6_allowEnd rfl (by decide +kernel) ⟨Nat.le_of_ble_eq_true rfl, Nat.le_of_ble_eq_true rfl⟩ ha rfl rfl rfl rfl (Nat.le_of_ble_eq_true rfl) dX6_weigh_77 rfl WM18 (fun r19 M20 h21 => ?_)
      obtain ⟨rfl, WM20, FM20⟩ := h21
      have EM20 := Fr.tr EM18 (FM20.mono (c2 := [17, 18, 19]) rfl)
      refine A_st (st' := []) rfl ?_
      refine A_iinc (lv' := [(4, .int (iI (v4 + (-1)))), (0, .ref a), (1, .int (iI x1))]) C dX6_weigh_80 2 rfl (by decide) rfl ?_
      refine A_goto C 25 dX6_weigh_83 (by decide) ?_
      refine A_pick [1, 2, 0] rfl ?_
      exact ih (v4 + (-1)) M20 (by omega) (by omega) WM20 EM20
set_option maxHeartbeats 4000000 in
theorem kX6_weigh  {a : Nat} (ha : kd a = 17) {x1 : Int} {x2 : Int} {x3 : Int} (hx1 : (0 : Int) ≤ x1 ∧ x1 ≤ 12) (hx2 : (0 : Int) ≤ x2 ∧ x2 ≤ 12) (hx3 : (0 : Int) ≤ x3 ∧ x3 ≤ 1) : Ct yX6_weigh wsX6_weigh 3 [.ref a, .int (iI x1), .int (iI x2), .int (iI x3)] (fun M => WF M) (fun M r M' => r = none ∧ WF M' ∧ Fr [17, 18, 19] M M') := by
  refine Ct_of (cc := cX6_weigh) (nL := 5) (rt := none) (own := RX6) rfl (by decide) rfl (Nat.le_of_ble_eq_true rfl) ?_
  intro p l e s m args below meth c G M0 C W
  have E : Fr [17, 18, 19] M0 M0 := Fr.rf
  refine A_lv (lv' := [(0, .ref a), (1, .int (iI x1)), (2, .int (iI x2)), (3, .int (iI x3))]) rfl ?_
  refine A_aloadn C dX6_weigh_0 0 rfl rfl ?_
  refine A_iloadn C dX6_weigh_1 2 rfl rfl ?_
  refine G_putI C W E ha rfl rfl rfl rfl rfl fX6_weigh_25 ⟨tyX6_ok, nmX6, rfl, by decide⟩ (Or.inl rfl) rfl rfl (by omega) (by omega) dX6_weigh_2 (fun M23 eM23 WM23 EM23 => ?_)
  refine A_aloadn C dX6_weigh_5 0 rfl rfl ?_
  refine A_iloadn C dX6_weigh_6 3 rfl rfl ?_
  refine G_putI C WM23 EM23 ha rfl rfl rfl rfl rfl fX6_weigh_29 ⟨tyX6_ok, nmX6, rfl, by decide⟩ (Or.inr ⟨rfl, by omega⟩) rfl rfl (by omega) (by omega) dX6_weigh_7 (fun M24 eM24 WM24 EM24 => ?_)
  refine A_aloadn C dX6_weigh_10 0 rfl rfl ?_
  refine A_iloadn C dX6_weigh_11 2 rfl rfl ?_
  refine A_callV C (n := 1) (st := []) (kX6_clearRests ha (by omega)) gX6_weigh_X6_clearRests rfl (by decide +kernel) ⟨Nat.le_of_ble_eq_true rfl, Nat.le_of_ble_eq_true rfl⟩ ha rfl rfl rfl rfl (Nat.le_of_ble_eq_true rfl) dX6_weigh_12 rfl WM24 (fun r25 M26 h27 => ?_)
  obtain ⟨rfl, WM26, FM26⟩ := h27
  have EM26 := Fr.tr EM24 (FM26.mono (c2 := [17, 18, 19]) rfl)
  refine A_st (st' := []) rfl ?_
  refine A_aloadn C dX6_weigh_15 0 rfl rfl ?_
  refine A_iloadn C dX6_weigh_16 2 rfl rfl ?_
  refine A_callV C (n := 1) (st := []) (kX6_allowEnd ha (by omega)) gX6_weigh_X6_allowEnd rfl (by decide +kernel) ⟨Nat.le_of_ble_eq_true rfl, Nat.le_of_ble_eq_true rfl⟩ ha rfl rfl rfl rfl (Nat.le_of_ble_eq_true rfl) dX6_weigh_17 rfl WM26 (fun r29 M30 h31 => ?_)
  obtain ⟨rfl, WM30, FM30⟩ := h31
  have EM30 := Fr.tr EM26 (FM30.mono (c2 := [17, 18, 19]) rfl)
  refine A_st (st' := []) rfl ?_
  refine A_iloadn C dX6_weigh_20 2 rfl rfl ?_
  refine A_iconst C dX6_weigh_21 ?_
  refine A_isub C dX6_weigh_22 ?_
  refine A_nami (fun z33 ez33 => ?_)
  refine A_istore (lv' := [(4, .int (iI z33)), (0, .ref a), (1, .int (iI x1)), (2, .int (iI x2)), (3, .int (iI x3))]) C dX6_weigh_23 (by decide) rfl ?_
  refine A_pick [1, 2, 0] rfl ?_
  exact lpX6_weigh_25 C  ha hx1 hx2 hx3 ((z33 + 1).toNat + 1) z33 M30 (by omega) (by omega) WM30 EM30

theorem uX6_stands_6 : ∀ w ∈ u_ws RX6 TX6 7, w ∈ wsX6_stands := by decide +kernel
theorem uX6_stands_4 : ∀ w ∈ u_ws RX4 TX4 2, w ∈ wsX6_stands := by decide +kernel
theorem fX6_stands_33 : Fl RX6 wsX6_stands 6 0 33 RX6 TX6 7 := ⟨rfl, by decide, uX6_stands_6, by decide +kernel⟩
theorem fX6_stands_41 : Fl RX6 wsX6_stands 4 1 41 RX4 TX4 2 := ⟨rfl, by decide, uX6_stands_4, by decide +kernel⟩
theorem fX6_stands_15 : Fl RX6 wsX6_stands 6 2 15 RX6 TX6 7 := ⟨rfl, by decide, uX6_stands_6, by decide +kernel⟩
set_option maxHeartbeats 4000000 in
theorem kX6_stands  {a : Nat} (ha : kd a = 17) {x1 : Int} {x2 : Int} (hx1 : r64 x1) (hx2 : r64 x2) : Ct yX6_stands wsX6_stands 4 [.ref a, .long (lL x1), .long (lL x2)] (fun M => WF M) (fun M r M' => ∃ z : Int, r = some (.int (iI z)) ∧ (0 : Int) ≤ z ∧ z ≤ 1 ∧ WF M' ∧ Fr [17, 18, 19] M M') := by
  refine Ct_of (cc := cX6_stands) (nL := 5) (rt := (some .boolean)) (own := RX6) rfl (by decide) rfl (Nat.le_of_ble_eq_true rfl) ?_
  intro p l e s m args below meth c G M0 C W
  have E : Fr [17, 18, 19] M0 M0 := Fr.rf
  refine A_lv (lv' := [(0, .ref a), (1, .long (lL x1)), (3, .long (lL x2))]) rfl ?_
  refine A_aloadn C dX6_stands_0 0 rfl rfl ?_
  refine A_lloadn C dX6_stands_1 1 rfl rfl ?_
  refine A_lloadn C dX6_stands_2 2 rfl rfl ?_
  refine A_callV C (n := 2) (st := []) (kX6_aim ha (by omega) (by omega)) gX6_stands_X6_aim rfl (by decide +kernel) ⟨Nat.le_of_ble_eq_true rfl, Nat.le_of_ble_eq_true rfl⟩ ha rfl rfl rfl rfl (Nat.le_of_ble_eq_true rfl) dX6_stands_3 rfl W (fun r1 M2 h3 => ?_)
  obtain ⟨rfl, WM2, FM2⟩ := h3
  have EM2 := Fr.tr E (FM2.mono (c2 := [17, 18, 19]) rfl)
  refine A_st (st' := []) rfl ?_
  refine A_aloadn C dX6_stands_6 0 rfl rfl ?_
  refine A_iconst C dX6_stands_7 ?_
  refine A_aloadn C dX6_stands_8 0 rfl rfl ?_
  obtain ⟨b5, hb5, qb5⟩ := WM2.2.2.2 a ha
  refine A_getR C ha rfl rfl rfl hb5 fX6_stands_33 dX6_stands_9 ?_
  refine gr_getI C WM2 qb5 fX6_stands_41 dX6_stands_12 (fun z7 ez7 lz7 uz7 => ?_)
  refine A_iconst C dX6_stands_15 ?_
  refine A_callV C (n := 3) (st := []) (kX6_weigh ha (by omega) (by omega) (by omega)) gX6_stands_X6_weigh rfl (by decide +kernel) ⟨Nat.le_of_ble_eq_true rfl, Nat.le_of_ble_eq_true rfl⟩ ha rfl rfl rfl rfl (Nat.le_of_ble_eq_true rfl) dX6_stands_16 rfl WM2 (fun r8 M9 h10 => ?_)
  obtain ⟨rfl, WM9, FM9⟩ := h10
  have EM9 := Fr.tr EM2 (FM9.mono (c2 := [17, 18, 19]) rfl)
  refine A_st (st' := []) rfl ?_
  refine A_aloadn C dX6_stands_19 0 rfl rfl ?_
  refine G_getR C WM9 ha rfl rfl rfl rfl fX6_stands_15 dX6_stands_20 (fun b12 hb12 qb12 => ?_)
  refine A_aloadn C dX6_stands_23 0 rfl rfl ?_
  refine A_callV C (n := 0) (st := [.ref b12]) (kX6_leastStart ha) gX6_stands_X6_leastStart rfl (by decide +kernel) ⟨Nat.le_of_ble_eq_true rfl, Nat.le_of_ble_eq_true rfl⟩ ha rfl rfl rfl rfl (Nat.le_of_ble_eq_true rfl) dX6_stands_24 rfl WM9 (fun r13 M14 h15 => ?_)
  obtain ⟨z17, rfl, lz17, uz17, WM14, FM14⟩ := h15
  have EM14 := Fr.tr EM9 (FM14.mono (c2 := [17, 18, 19]) rfl)
  refine A_st (st' := [.int (iI z17), .ref b12]) rfl ?_
  refine G_lald C WM14 qb12 rfl rfl (by decide) (by omega) (by omega) dX6_stands_27 (fun z18 ez18 rz18 => ?_)
  refine A_lconst0 C dX6_stands_28 ?_
  refine A_lcmp C (by omega) (by omega) dX6_stands_29 (fun z19 cz19 => ?_)
  refine A_iflt C 37 dX6_stands_30 (by decide) (by omega) (fun c20 => ?_) (fun c20 => ?_)
  · skip
    refine A_iconst C dX6_stands_37 ?_
    exact A_zret C (by omega) dX6_stands_38 ⟨0, rfl, by omega, by omega, WM14, EM14⟩
  · skip
    refine A_iconst C dX6_stands_33 ?_
    refine A_goto C 38 dX6_stands_34 (by decide) ?_
    exact A_zret C (by omega) dX6_stands_38 ⟨1, rfl, by omega, by omega, WM14, EM14⟩

theorem uX6_follow_6 : ∀ w ∈ u_ws RX6 TX6 7, w ∈ wsX6_follow := by decide +kernel
theorem uX6_follow_4 : ∀ w ∈ u_ws RX4 TX4 2, w ∈ wsX6_follow := by decide +kernel
theorem uX6_follow_1 : ∀ w ∈ u_ws RX1 TX1 9, w ∈ wsX6_follow := by decide +kernel
theorem fX6_follow_25 : Fl RX6 wsX6_follow 6 5 25 RX6 TX6 7 := ⟨rfl, by decide, uX6_follow_6, by decide +kernel⟩
theorem fX6_follow_29 : Fl RX6 wsX6_follow 6 6 29 RX6 TX6 7 := ⟨rfl, by decide, uX6_follow_6, by decide +kernel⟩
theorem fX6_follow_33 : Fl RX6 wsX6_follow 6 0 33 RX6 TX6 7 := ⟨rfl, by decide, uX6_follow_6, by decide +kernel⟩
theorem fX6_follow_90 : Fl RX6 wsX6_follow 4 0 90 RX4 TX4 2 := ⟨rfl, by decide, uX6_follow_4, by decide +kernel⟩
theorem fX6_follow_94 : Fl RX6 wsX6_follow 1 1 94 RX1 TX1 9 := ⟨rfl, by decide, uX6_follow_1, by decide +kernel⟩
set_option maxHeartbeats 4000000 in
theorem lpX6_follow_28 {p : Program} {l : Launch} {e : Env} {s : State} {m : MethodId} {args : Array Value} {below : List Frame} {meth : Method} {c : Code} {G : xG} (C : Cx p s m args meth c G cX6_follow 10 RX6 wsX6_follow none)  {a : Nat} (ha : kd a = 17) {b : Nat} (hb : kd b = 21) {x1 : Int} {x2 : Int} (hx1 : (0 : Int) ≤ x1 ∧ x1 ≤ 11) (hx2 : r64 x2) {M0 : Mem} : ∀ (n : Nat) (v5 v6 v8 : Int) (M : Mem), (13 - v8).toNat < n → (0 ≤ v5 ∧ v5 ≤ 24 ∧ r64 v6 ∧ x1 ≤ v8 ∧ v8 ≤ 12 ∧ M.1 b 1 = x1 ∧ M.1 b 2 ≤ 1 + (v8 - x1)) → WF M → Fr [21, 22] M0 M → AW p l e (rmD 4) s m args below meth c G 10 (QQ G below args s ((fun M r M' => r = none ∧ WF M' ∧ Fr [21, 22] M M' ∧ (M'.1 b 1 + M'.1 b 2 ≤ 13)) M0)) M 28 [(0, .ref a), (1, .int (iI x1)), (4, .ref b), (5, .int (iI v5)), (6, .long (lL v6)), (8, .int (iI v8))] [] := by
  intro n
  induction n with
  | zero => intro v5 v6 v8 M hn; exact absurd hn (Nat.not_lt_zero _)
  | succ n ih =>
    intro v5 v6 v8 M hn hi W E
    refine A_iload C dX6_follow_28 5 rfl ?_
    refine A_aloadn C dX6_follow_30 0 rfl rfl ?_
    refine G_getI C W ha rfl rfl rfl rfl rfl fX6_follow_25 rfl dX6_follow_31 (fun z1 ez1 lz1 uz1 => ?_)
    refine A_icmpge C 129 dX6_follow_34 (by decide) (by omega) (by omega) (fun c2 => ?_) (fun c2 => ?_)
    · skip
      exact A_vret C dX6_follow_129 ⟨rfl, W, E, by omega⟩
    · skip
      refine A_iload C dX6_follow_37 5 rfl ?_
      refine A_iloadn C dX6_follow_39 1 rfl rfl ?_
      refine A_icmple C 78 dX6_follow_40 (by decide) (by omega) (by omega) (fun c3 => ?_) (fun c3 => ?_)
      · skip
        refine A_aloadn C dX6_follow_78 0 rfl rfl ?_
        refine A_iload C dX6_follow_79 5 rfl ?_
        refine A_iload C dX6_follow_81 3 rfl ?_
        refine A_lload C dX6_follow_83 4 rfl ?_
        refine A_callV C (n := 3) (st := []) (kX6_leastRight ha (by omega) (by omega) (by omega)) gX6_follow_X6_leastRight rfl (by decide +kernel) ⟨Nat.le_of_ble_eq_true rfl, Nat.le_of_ble_eq_true rfl⟩ ha rfl rfl rfl rfl (Nat.le_of_ble_eq_true rfl) dX6_follow_85 rfl W (fun r4 M5 h6 => ?_)
        obtain ⟨z8, rfl, lz8, uz8, WM5, FM5⟩ := h6
        have EM5 := Fr.tr E (FM5.mono (c2 := [21, 22]) rfl)
        have t_M5_b_1 : M5.1 b 1 = _ := congrFun (FM5 b (by rw [hb]; rfl)).1 1
        have t_M5_b_2 : M5.1 b 2 = _ := congrFun (FM5 b (by rw [hb]; rfl)).1 2
        refine A_st (st' := [.int (iI z8)]) rfl ?_
        refine A_istore (lv' := [(9, .int (iI z8)), (0, .ref a), (1, .int (iI x1)), (4, .ref b), (5, .int (iI v5)), (6, .long (lL v6)), (8, .int (iI v8))]) C dX6_follow_88 (by decide) rfl ?_
        refine A_iload C dX6_follow_90 0 rfl ?_
        refine A_iconst C dX6_follow_92 ?_
        refine A_icmpne C 97 dX6_follow_93 (by decide) (by omega) (by omega) (fun c9 => ?_) (fun c9 => ?_)
        · skip
          refine A_lload C dX6_follow_97 5 rfl ?_
          refine A_aloadn C dX6_follow_99 1 rfl rfl ?_
          refine A_iload C dX6_follow_100 6 rfl ?_
          refine A_iload C dX6_follow_102 4 rfl ?_
          refine A_iload C dX6_follow_104 0 rfl ?_
          refine A_callV C (n := 3) (st := [.long (lL v6)]) (kX6_keyOf ha (by omega) (by omega) (by omega)) gX6_follow_X6_keyOf rfl (by decide +kernel) ⟨Nat.le_of_ble_eq_true rfl, Nat.le_of_ble_eq_true rfl⟩ ha rfl rfl rfl rfl (Nat.le_of_ble_eq_true rfl) dX6_follow_106 rfl WM5 (fun r10 M11 h12 => ?_)
          obtain ⟨z14, rfl, rz14, WM11, FM11⟩ := h12
          have EM11 := Fr.tr EM5 (FM11.mono (c2 := [21, 22]) rfl)
          have t_M11_b_1 : M11.1 b 1 = _ := congrFun (FM11 b (by rw [hb]; rfl)).1 1
          have t_M11_b_2 : M11.1 b 2 = _ := congrFun (FM11 b (by rw [hb]; rfl)).1 2
          refine A_st (st' := [.long (lL z14), .long (lL v6)]) rfl ?_
          refine A_lsub C dX6_follow_109 ?_
          refine A_topl (fun z15 rz15 ez15 => ?_)
          refine A_lstore (lv' := [(6, .long (lL z15)), (9, .int (iI z8)), (0, .ref a), (1, .int (iI x1)), (4, .ref b), (5, .int (iI v5)), (8, .int (iI v8))]) C dX6_follow_110 (by decide) rfl ?_
          refine A_aload C dX6_follow_112 4 rfl ?_
          refine A_iload C dX6_follow_114 1 rfl ?_
          refine A_callV C (n := 1) (st := []) (kX5_add_21 hb (by omega)) gX6_follow_X5_add rfl (by decide +kernel) ⟨Nat.le_of_ble_eq_true rfl, Nat.le_of_ble_eq_true rfl⟩ hb rfl rfl rfl rfl (Nat.le_of_ble_eq_true rfl) dX6_follow_116 rfl WM11 (fun r16 M17 h18 => ?_)
          obtain ⟨rfl, WM17, FM17, xx19⟩ := h18
          have EM17 := Fr.tr EM11 (FM17.mono (c2 := [21, 22]) rfl)
          refine A_st (st' := []) rfl ?_
          refine A_iload C dX6_follow_119 1 rfl ?_
          refine A_istore (lv' := [(5, .int (iI z8)), (6, .long (lL z15)), (9, .int (iI z8)), (0, .ref a), (1, .int (iI x1)), (4, .ref b), (8, .int (iI v8))]) C dX6_follow_121 (by decide) rfl ?_
          refine A_iinc (lv' := [(8, .int (iI (v8 + 1))), (5, .int (iI z8)), (6, .long (lL z15)), (9, .int (iI z8)), (0, .ref a), (1, .int (iI x1)), (4, .ref b)]) C dX6_follow_123 6 rfl (by decide) rfl ?_
          refine A_goto C 28 dX6_follow_126 (by decide) ?_
          refine A_pick [4, 5, 6, 1, 2, 0] rfl ?_
          exact ih z8 z15 (v8 + 1) M17 (by omega) (by omega) WM17 EM17
        · skip
          exact A_vret C dX6_follow_96 ⟨rfl, WM5, EM5, by omega⟩
      · skip
        refine A_aloadn C dX6_follow_43 0 rfl rfl ?_
        refine G_getI C W ha rfl rfl rfl rfl rfl fX6_follow_29 rfl dX6_follow_44 (fun z20 ez20 lz20 uz20 => ?_)
        refine A_ifeq C 78 dX6_follow_47 (by decide) (by omega) (fun c21 => ?_) (fun c21 => ?_)
        · skip
          refine A_aloadn C dX6_follow_78 0 rfl rfl ?_
          refine A_iload C dX6_follow_79 5 rfl ?_
          refine A_iload C dX6_follow_81 3 rfl ?_
          refine A_lload C dX6_follow_83 4 rfl ?_
          refine A_callV C (n := 3) (st := []) (kX6_leastRight ha (by omega) (by omega) (by omega)) gX6_follow_X6_leastRight rfl (by decide +kernel) ⟨Nat.le_of_ble_eq_true rfl, Nat.le_of_ble_eq_true rfl⟩ ha rfl rfl rfl rfl (Nat.le_of_ble_eq_true rfl) dX6_follow_85 rfl W (fun r22 M23 h24 => ?_)
          obtain ⟨z26, rfl, lz26, uz26, WM23, FM23⟩ := h24
          have EM23 := Fr.tr E (FM23.mono (c2 := [21, 22]) rfl)
          have t_M23_b_1 : M23.1 b 1 = _ := congrFun (FM23 b (by rw [hb]; rfl)).1 1
          have t_M23_b_2 : M23.1 b 2 = _ := congrFun (FM23 b (by rw [hb]; rfl)).1 2
          refine A_st (st' := [.int (iI z26)]) rfl ?_
          refine A_istore (lv' := [(9, .int (iI z26)), (0, .ref a), (1, .int (iI x1)), (4, .ref b), (5, .int (iI v5)), (6, .long (lL v6)), (8, .int (iI v8))]) C dX6_follow_88 (by decide) rfl ?_
          refine A_iload C dX6_follow_90 0 rfl ?_
          refine A_iconst C dX6_follow_92 ?_
          refine A_icmpne C 97 dX6_follow_93 (by decide) (by omega) (by omega) (fun c27 => ?_) (fun c27 => ?_)
          · skip
            refine A_lload C dX6_follow_97 5 rfl ?_
            refine A_aloadn C dX6_follow_99 1 rfl rfl ?_
            refine A_iload C dX6_follow_100 6 rfl ?_
            refine A_iload C dX6_follow_102 4 rfl ?_
            refine A_iload C dX6_follow_104 0 rfl ?_
            refine A_callV C (n := 3) (st := [.long (lL v6)]) (kX6_keyOf ha (by omega) (by omega) (by omega)) gX6_follow_X6_keyOf rfl (by decide +kernel) ⟨Nat.le_of_ble_eq_true rfl, Nat.le_of_ble_eq_true rfl⟩ ha rfl rfl rfl rfl (Nat.le_of_ble_eq_true rfl) dX6_follow_106 rfl WM23 (fun r28 M29 h30 => ?_)
            obtain ⟨z32, rfl, rz32, WM29, FM29⟩ := h30
            have EM29 := Fr.tr EM23 (FM29.mono (c2 := [21, 22]) rfl)
            have t_M29_b_1 : M29.1 b 1 = _ := congrFun (FM29 b (by rw [hb]; rfl)).1 1
            have t_M29_b_2 : M29.1 b 2 = _ := congrFun (FM29 b (by rw [hb]; rfl)).1 2
            refine A_st (st' := [.long (lL z32), .long (lL v6)]) rfl ?_
            refine A_lsub C dX6_follow_109 ?_
            refine A_topl (fun z33 rz33 ez33 => ?_)
            refine A_lstore (lv' := [(6, .long (lL z33)), (9, .int (iI z26)), (0, .ref a), (1, .int (iI x1)), (4, .ref b), (5, .int (iI v5)), (8, .int (iI v8))]) C dX6_follow_110 (by decide) rfl ?_
            refine A_aload C dX6_follow_112 4 rfl ?_
            refine A_iload C dX6_follow_114 1 rfl ?_
            refine A_callV C (n := 1) (st := []) (kX5_add_21 hb (by omega)) gX6_follow_X5_add rfl (by decide +kernel) ⟨Nat.le_of_ble_eq_true rfl, Nat.le_of_ble_eq_true rfl⟩ hb rfl rfl rfl rfl (Nat.le_of_ble_eq_true rfl) dX6_follow_116 rfl WM29 (fun r34 M35 h36 => ?_)
            obtain ⟨rfl, WM35, FM35, xx37⟩ := h36
            have EM35 := Fr.tr EM29 (FM35.mono (c2 := [21, 22]) rfl)
            refine A_st (st' := []) rfl ?_
            refine A_iload C dX6_follow_119 1 rfl ?_
            refine A_istore (lv' := [(5, .int (iI z26)), (6, .long (lL z33)), (9, .int (iI z26)), (0, .ref a), (1, .int (iI x1)), (4, .ref b), (8, .int (iI v8))]) C dX6_follow_121 (by decide) rfl ?_
            refine A_iinc (lv' := [(8, .int (iI (v8 + 1))), (5, .int (iI z26)), (6, .long (lL z33)), (9, .int (iI z26)), (0, .ref a), (1, .int (iI x1)), (4, .ref b)]) C dX6_follow_123 6 rfl (by decide) rfl ?_
            refine A_goto C 28 dX6_follow_126 (by decide) ?_
            refine A_pick [4, 5, 6, 1, 2, 0] rfl ?_
            exact ih z26 z33 (v8 + 1) M35 (by omega) (by omega) WM35 EM35
          · skip
            exact A_vret C dX6_follow_96 ⟨rfl, WM23, EM23, by omega⟩
        · skip
          refine A_lload C dX6_follow_50 4 rfl ?_
          refine A_lconst0 C dX6_follow_52 ?_
          refine A_lcmp C (by omega) (by omega) dX6_follow_53 (fun z38 cz38 => ?_)
          refine A_iflt C 78 dX6_follow_54 (by decide) (by omega) (fun c39 => ?_) (fun c39 => ?_)
          · skip
            refine A_aloadn C dX6_follow_78 0 rfl rfl ?_
            refine A_iload C dX6_follow_79 5 rfl ?_
            refine A_iload C dX6_follow_81 3 rfl ?_
            refine A_lload C dX6_follow_83 4 rfl ?_
            refine A_callV C (n := 3) (st := []) (kX6_leastRight ha (by omega) (by omega) (by omega)) gX6_follow_X6_leastRight rfl (by decide +kernel) ⟨Nat.le_of_ble_eq_true rfl, Nat.le_of_ble_eq_true rfl⟩ ha rfl rfl rfl rfl (Nat.le_of_ble_eq_true rfl) dX6_follow_85 rfl W (fun r40 M41 h42 => ?_)
            obtain ⟨z44, rfl, lz44, uz44, WM41, FM41⟩ := h42
            have EM41 := Fr.tr E (FM41.mono (c2 := [21, 22]) rfl)
            have t_M41_b_1 : M41.1 b 1 = _ := congrFun (FM41 b (by rw [hb]; rfl)).1 1
            have t_M41_b_2 : M41.1 b 2 = _ := congrFun (FM41 b (by rw [hb]; rfl)).1 2
            refine A_st (st' := [.int (iI z44)]) rfl ?_
            refine A_istore (lv' := [(9, .int (iI z44)), (0, .ref a), (1, .int (iI x1)), (4, .ref b), (5, .int (iI v5)), (6, .long (lL v6)), (8, .int (iI v8))]) C dX6_follow_88 (by decide) rfl ?_
            refine A_iload C dX6_follow_90 0 rfl ?_
            refine A_iconst C dX6_follow_92 ?_
            refine A_icmpne C 97 dX6_follow_93 (by decide) (by omega) (by omega) (fun c45 => ?_) (fun c45 => ?_)
            · skip
              refine A_lload C dX6_follow_97 5 rfl ?_
              refine A_aloadn C dX6_follow_99 1 rfl rfl ?_
              refine A_iload C dX6_follow_100 6 rfl ?_
              refine A_iload C dX6_follow_102 4 rfl ?_
              refine A_iload C dX6_follow_104 0 rfl ?_
              refine A_callV C (n := 3) (st := [.long (lL v6)]) (kX6_keyOf ha (by omega) (by omega) (by omega)) gX6_follow_X6_keyOf rfl (by decide +kernel) ⟨Nat.le_of_ble_eq_true rfl, Nat.le_of_ble_eq_true rfl⟩ ha rfl rfl rfl rfl (Nat.le_of_ble_eq_true rfl) dX6_follow_106 rfl WM41 (fun r46 M47 h48 => ?_)
              obtain ⟨z50, rfl, rz50, WM47, FM47⟩ := h48
              have EM47 := Fr.tr EM41 (FM47.mono (c2 := [21, 22]) rfl)
              have t_M47_b_1 : M47.1 b 1 = _ := congrFun (FM47 b (by rw [hb]; rfl)).1 1
              have t_M47_b_2 : M47.1 b 2 = _ := congrFun (FM47 b (by rw [hb]; rfl)).1 2
              refine A_st (st' := [.long (lL z50), .long (lL v6)]) rfl ?_
              refine A_lsub C dX6_follow_109 ?_
              refine A_topl (fun z51 rz51 ez51 => ?_)
              refine A_lstore (lv' := [(6, .long (lL z51)), (9, .int (iI z44)), (0, .ref a), (1, .int (iI x1)), (4, .ref b), (5, .int (iI v5)), (8, .int (iI v8))]) C dX6_follow_110 (by decide) rfl ?_
              refine A_aload C dX6_follow_112 4 rfl ?_
              refine A_iload C dX6_follow_114 1 rfl ?_
              refine A_callV C (n := 1) (st := []) (kX5_add_21 hb (by omega)) gX6_follow_X5_add rfl (by decide +kernel) ⟨Nat.le_of_ble_eq_true rfl, Nat.le_of_ble_eq_true rfl⟩ hb rfl rfl rfl rfl (Nat.le_of_ble_eq_true rfl) dX6_follow_116 rfl WM47 (fun r52 M53 h54 => ?_)
              obtain ⟨rfl, WM53, FM53, xx55⟩ := h54
              have EM53 := Fr.tr EM47 (FM53.mono (c2 := [21, 22]) rfl)
              refine A_st (st' := []) rfl ?_
              refine A_iload C dX6_follow_119 1 rfl ?_
              refine A_istore (lv' := [(5, .int (iI z44)), (6, .long (lL z51)), (9, .int (iI z44)), (0, .ref a), (1, .int (iI x1)), (4, .ref b), (8, .int (iI v8))]) C dX6_follow_121 (by decide) rfl ?_
              refine A_iinc (lv' := [(8, .int (iI (v8 + 1))), (5, .int (iI z44)), (6, .long (lL z51)), (9, .int (iI z44)), (0, .ref a), (1, .int (iI x1)), (4, .ref b)]) C dX6_follow_123 6 rfl (by decide) rfl ?_
              refine A_goto C 28 dX6_follow_126 (by decide) ?_
              refine A_pick [4, 5, 6, 1, 2, 0] rfl ?_
              exact ih z44 z51 (v8 + 1) M53 (by omega) (by omega) WM53 EM53
            · skip
              exact A_vret C dX6_follow_96 ⟨rfl, WM41, EM41, by omega⟩
          · skip
            refine A_iload C dX6_follow_57 3 rfl ?_
            refine A_aloadn C dX6_follow_59 0 rfl rfl ?_
            obtain ⟨b56, hb56, qb56⟩ := W.2.2.2 a ha
            refine A_getR C ha rfl rfl rfl hb56 fX6_follow_33 dX6_follow_60 ?_
            obtain ⟨b58, hb58, qb58⟩ := gr_cols W qb56
            refine gr_getR C qb56 hb58 fX6_follow_90 dX6_follow_63 ?_
            refine A_iload C dX6_follow_66 5 rfl ?_
            refine A_iconst C dX6_follow_68 ?_
            refine A_isub C dX6_follow_69 ?_
            refine G_aald C W qb58 (by omega) (by omega) dX6_follow_70 (fun b59 hb59 qb59 => ?_)
            refine G_getI C W qb59 rfl rfl rfl rfl rfl fX6_follow_94 rfl dX6_follow_71 (fun z60 ez60 lz60 uz60 => ?_)
            refine A_icmpne C 78 dX6_follow_74 (by decide) (by omega) (by omega) (fun c61 => ?_) (fun c61 => ?_)
            · skip
              refine A_aloadn C dX6_follow_78 0 rfl rfl ?_
              refine A_iload C dX6_follow_79 5 rfl ?_
              refine A_iload C dX6_follow_81 3 rfl ?_
              refine A_lload C dX6_follow_83 4 rfl ?_
              refine A_callV C (n := 3) (st := []) (kX6_leastRight ha (by omega) (by omega) (by omega)) gX6_follow_X6_leastRight rfl (by decide +kernel) ⟨Nat.le_of_ble_eq_true rfl, Nat.le_of_ble_eq_true rfl⟩ ha rfl rfl rfl rfl (Nat.le_of_ble_eq_true rfl) dX6_follow_85 rfl W (fun r62 M63 h64 => ?_)
              obtain ⟨z66, rfl, lz66, uz66, WM63, FM63⟩ := h64
              have EM63 := Fr.tr E (FM63.mono (c2 := [21, 22]) rfl)
              have t_M63_b_1 : M63.1 b 1 = _ := congrFun (FM63 b (by rw [hb]; rfl)).1 1
              have t_M63_b_2 : M63.1 b 2 = _ := congrFun (FM63 b (by rw [hb]; rfl)).1 2
              refine A_st (st' := [.int (iI z66)]) rfl ?_
              refine A_istore (lv' := [(9, .int (iI z66)), (0, .ref a), (1, .int (iI x1)), (4, .ref b), (5, .int (iI v5)), (6, .long (lL v6)), (8, .int (iI v8))]) C dX6_follow_88 (by decide) rfl ?_
              refine A_iload C dX6_follow_90 0 rfl ?_
              refine A_iconst C dX6_follow_92 ?_
              refine A_icmpne C 97 dX6_follow_93 (by decide) (by omega) (by omega) (fun c67 => ?_) (fun c67 => ?_)
              · skip
                refine A_lload C dX6_follow_97 5 rfl ?_
                refine A_aloadn C dX6_follow_99 1 rfl rfl ?_
                refine A_iload C dX6_follow_100 6 rfl ?_
                refine A_iload C dX6_follow_102 4 rfl ?_
                refine A_iload C dX6_follow_104 0 rfl ?_
                refine A_callV C (n := 3) (st := [.long (lL v6)]) (kX6_keyOf ha (by omega) (by omega) (by omega)) gX6_follow_X6_keyOf rfl (by decide +kernel) ⟨Nat.le_of_ble_eq_true rfl, Nat.le_of_ble_eq_true rfl⟩ ha rfl rfl rfl rfl (Nat.le_of_ble_eq_true rfl) dX6_follow_106 rfl WM63 (fun r68 M69 h70 => ?_)
                obtain ⟨z72, rfl, rz72, WM69, FM69⟩ := h70
                have EM69 := Fr.tr EM63 (FM69.mono (c2 := [21, 22]) rfl)
                have t_M69_b_1 : M69.1 b 1 = _ := congrFun (FM69 b (by rw [hb]; rfl)).1 1
                have t_M69_b_2 : M69.1 b 2 = _ := congrFun (FM69 b (by rw [hb]; rfl)).1 2
                refine A_st (st' := [.long (lL z72), .long (lL v6)]) rfl ?_
                refine A_lsub C dX6_follow_109 ?_
                refine A_topl (fun z73 rz73 ez73 => ?_)
                refine A_lstore (lv' := [(6, .long (lL z73)), (9, .int (iI z66)), (0, .ref a), (1, .int (iI x1)), (4, .ref b), (5, .int (iI v5)), (8, .int (iI v8))]) C dX6_follow_110 (by decide) rfl ?_
                refine A_aload C dX6_follow_112 4 rfl ?_
                refine A_iload C dX6_follow_114 1 rfl ?_
                refine A_callV C (n := 1) (st := []) (kX5_add_21 hb (by omega)) gX6_follow_X5_add rfl (by decide +kernel) ⟨Nat.le_of_ble_eq_true rfl, Nat.le_of_ble_eq_true rfl⟩ hb rfl rfl rfl rfl (Nat.le_of_ble_eq_true rfl) dX6_follow_116 rfl WM69 (fun r74 M75 h76 => ?_)
                obtain ⟨rfl, WM75, FM75, xx77⟩ := h76
                have EM75 := Fr.tr EM69 (FM75.mono (c2 := [21, 22]) rfl)
                refine A_st (st' := []) rfl ?_
                refine A_iload C dX6_follow_119 1 rfl ?_
                refine A_istore (lv' := [(5, .int (iI z66)), (6, .long (lL z73)), (9, .int (iI z66)), (0, .ref a), (1, .int (iI x1)), (4, .ref b), (8, .int (iI v8))]) C dX6_follow_121 (by decide) rfl ?_
                refine A_iinc (lv' := [(8, .int (iI (v8 + 1))), (5, .int (iI z66)), (6, .long (lL z73)), (9, .int (iI z66)), (0, .ref a), (1, .int (iI x1)), (4, .ref b)]) C dX6_follow_123 6 rfl (by decide) rfl ?_
                refine A_goto C 28 dX6_follow_126 (by decide) ?_
                refine A_pick [4, 5, 6, 1, 2, 0] rfl ?_
                exact ih z66 z73 (v8 + 1) M75 (by omega) (by omega) WM75 EM75
              · skip
                exact A_vret C dX6_follow_96 ⟨rfl, WM63, EM63, by omega⟩
            · skip
              exact A_vret C dX6_follow_77 ⟨rfl, W, E, by omega⟩
set_option maxHeartbeats 4000000 in
theorem kX6_follow  {a : Nat} (ha : kd a = 17) {b : Nat} (hb : kd b = 21) {x1 : Int} {x2 : Int} (hx1 : (0 : Int) ≤ x1 ∧ x1 ≤ 11) (hx2 : r64 x2) : Ct yX6_follow wsX6_follow 4 [.ref a, .int (iI x1), .long (lL x2), .ref b] (fun M => WF M) (fun M r M' => r = none ∧ WF M' ∧ Fr [21, 22] M M' ∧ (M'.1 b 1 + M'.1 b 2 ≤ 13)) := by
  refine Ct_of (cc := cX6_follow) (nL := 10) (rt := none) (own := RX6) rfl (by decide) rfl (Nat.le_of_ble_eq_true rfl) ?_
  intro p l e s m args below meth c G M0 C W
  have E : Fr [21, 22] M0 M0 := Fr.rf
  refine A_lv (lv' := [(0, .ref a), (1, .int (iI x1)), (2, .long (lL x2)), (4, .ref b)]) rfl ?_
  refine A_aloadn C dX6_follow_0 0 rfl rfl ?_
  obtain ⟨b78, hb78, qb78⟩ := W.2.2.2 a ha
  refine A_getR C ha rfl rfl rfl hb78 fX6_follow_33 dX6_follow_1 ?_
  obtain ⟨b80, hb80, qb80⟩ := gr_cols W qb78
  refine gr_getR C qb78 hb80 fX6_follow_90 dX6_follow_4 ?_
  refine A_iloadn C dX6_follow_7 1 rfl rfl ?_
  refine G_aald C W qb80 (by omega) (by omega) dX6_follow_8 (fun b81 hb81 qb81 => ?_)
  refine G_getI C W qb81 rfl rfl rfl rfl rfl fX6_follow_94 rfl dX6_follow_9 (fun z82 ez82 lz82 uz82 => ?_)
  refine A_istore (lv' := [(5, .int (iI z82)), (0, .ref a), (1, .int (iI x1)), (2, .long (lL x2)), (4, .ref b)]) C dX6_follow_12 (by decide) rfl ?_
  refine A_lloadn C dX6_follow_14 3 rfl rfl ?_
  refine A_lstore (lv' := [(6, .long (lL x2)), (5, .int (iI z82)), (0, .ref a), (1, .int (iI x1)), (2, .long (lL x2)), (4, .ref b)]) C dX6_follow_15 (by decide) rfl ?_
  refine A_aload C dX6_follow_17 5 rfl ?_
  refine A_iloadn C dX6_follow_19 3 rfl rfl ?_
  refine A_iload C dX6_follow_20 1 rfl ?_
  refine A_callV C (n := 2) (st := []) (kX5_startAt_21 hb (by omega) (by omega)) gX6_follow_X5_startAt rfl (by decide +kernel) ⟨Nat.le_of_ble_eq_true rfl, Nat.le_of_ble_eq_true rfl⟩ hb rfl rfl rfl rfl (Nat.le_of_ble_eq_true rfl) dX6_follow_22 rfl W (fun r83 M84 h85 => ?_)
  obtain ⟨rfl, WM84, FM84, xx86⟩ := h85
  have EM84 := Fr.tr E (FM84.mono (c2 := [21, 22]) rfl)
  refine A_st (st' := []) rfl ?_
  refine A_iloadn C dX6_follow_25 3 rfl rfl ?_
  refine A_istore (lv' := [(8, .int (iI x1)), (6, .long (lL x2)), (5, .int (iI z82)), (0, .ref a), (1, .int (iI x1)), (2, .long (lL x2)), (4, .ref b)]) C dX6_follow_26 (by decide) rfl ?_
  refine A_pick [3, 4, 6, 2, 1, 0] rfl ?_
  exact lpX6_follow_28 C  ha hb hx1 hx2 ((13 - x1).toNat + 1) z82 x2 x1 M84 (by omega) (by omega) WM84 EM84

theorem uX6_findWorst_6 : ∀ w ∈ u_ws RX6 TX6 7, w ∈ wsX6_findWorst := by decide +kernel
theorem uX6_findWorst_4 : ∀ w ∈ u_ws RX4 TX4 2, w ∈ wsX6_findWorst := by decide +kernel
theorem uX6_findWorst_3 : ∀ w ∈ u_ws RX3 TX3 2, w ∈ wsX6_findWorst := by decide +kernel
theorem fX6_findWorst_33 : Fl RX6 wsX6_findWorst 6 0 33 RX6 TX6 7 := ⟨rfl, by decide, uX6_findWorst_6, by decide +kernel⟩
theorem fX6_findWorst_41 : Fl RX6 wsX6_findWorst 4 1 41 RX4 TX4 2 := ⟨rfl, by decide, uX6_findWorst_4, by decide +kernel⟩
theorem fX6_findWorst_15 : Fl RX6 wsX6_findWorst 6 2 15 RX6 TX6 7 := ⟨rfl, by decide, uX6_findWorst_6, by decide +kernel⟩
theorem fX6_findWorst_70 : Fl RX6 wsX6_findWorst 3 0 70 RX3 TX3 2 := ⟨rfl, by decide, uX6_findWorst_3, by decide +kernel⟩
theorem fX6_findWorst_73 : Fl RX6 wsX6_findWorst 3 1 73 RX3 TX3 2 := ⟨rfl, by decide, uX6_findWorst_3, by decide +kernel⟩
set_option maxHeartbeats 4000000 in
theorem lpX6_findWorst_8 {p : Program} {l : Launch} {e : Env} {s : State} {m : MethodId} {args : Array Value} {below : List Frame} {meth : Method} {c : Code} {G : xG} (C : Cx p s m args meth c G cX6_findWorst 5 RX6 wsX6_findWorst (some .boolean))  {a : Nat} (ha : kd a = 17) {b : Nat} (hb : kd b = 21) {f : Nat} (hf : kd f = 23) {M0 : Mem} : ∀ (n : Nat) (v3 : Int) (M : Mem), (1001 - v3).toNat < n → (0 ≤ v3 ∧ v3 ≤ 1000) → WF M → Fr [17, 18, 19, 21, 22, 23, 8, 10, 11] M0 M → AW p l e (rmD 6) s m args below meth c G 5 (QQ G below args s ((fun M r M' => ∃ z : Int, r = some (.int (iI z)) ∧ (0 : Int) ≤ z ∧ z ≤ 1 ∧ WF M' ∧ Fr [17, 18, 19, 21, 22, 23, 8, 10, 11] M M') M0)) M 8 [(0, .ref a), (1, .ref b), (2, .ref f), (3, .int (iI v3))] [] := by
  intro n
  induction n with
  | zero => intro v3 M hn; exact absurd hn (Nat.not_lt_zero _)
  | succ n ih =>
    intro v3 M hn hi W E
    refine A_iloadn C dX6_findWorst_8 3 rfl rfl ?_
    refine A_sipush C dX6_findWorst_9 (by decide) ?_
    refine A_icmpge C 108 dX6_findWorst_12 (by decide) (by omega) (by omega) (fun c1 => ?_) (fun c1 => ?_)
    · skip
      refine A_iconst C dX6_findWorst_108 ?_
      exact A_zret C (by omega) dX6_findWorst_109 ⟨0, rfl, by omega, by omega, W, E⟩
    · skip
      refine A_aloadn C dX6_findWorst_15 0 rfl rfl ?_
      refine A_iconst C dX6_findWorst_16 ?_
      refine A_aloadn C dX6_findWorst_17 0 rfl rfl ?_
      obtain ⟨b2, hb2, qb2⟩ := W.2.2.2 a ha
      refine A_getR C ha rfl rfl rfl hb2 fX6_findWorst_33 dX6_findWorst_18 ?_
      refine gr_getI C W qb2 fX6_findWorst_41 dX6_findWorst_21 (fun z4 ez4 lz4 uz4 => ?_)
      refine A_iconst C dX6_findWorst_24 ?_
      refine A_callV C (n := 3) (st := []) (kX6_weigh ha (by omega) (by omega) (by omega)) gX6_findWorst_X6_weigh rfl (by decide +kernel) ⟨Nat.le_of_ble_eq_true rfl, Nat.le_of_ble_eq_true rfl⟩ ha rfl rfl rfl rfl (Nat.le_of_ble_eq_true rfl) dX6_findWorst_25 rfl W (fun r5 M6 h7 => ?_)
      obtain ⟨rfl, WM6, FM6⟩ := h7
      have EM6 := Fr.tr E (FM6.mono (c2 := [17, 18, 19, 21, 22, 23, 8, 10, 11]) rfl)
      have t_M6_b_1 : M6.1 b 1 = _ := congrFun (FM6 b (by rw [hb]; rfl)).1 1
      have t_M6_b_2 : M6.1 b 2 = _ := congrFun (FM6 b (by rw [hb]; rfl)).1 2
      refine A_st (st' := []) rfl ?_
      refine A_aloadn C dX6_findWorst_28 0 rfl rfl ?_
      refine A_callV C (n := 0) (st := []) (kX6_leastStart ha) gX6_findWorst_X6_leastStart rfl (by decide +kernel) ⟨Nat.le_of_ble_eq_true rfl, Nat.le_of_ble_eq_true rfl⟩ ha rfl rfl rfl rfl (Nat.le_of_ble_eq_true rfl) dX6_findWorst_29 rfl WM6 (fun r9 M10 h11 => ?_)
      obtain ⟨z13, rfl, lz13, uz13, WM10, FM10⟩ := h11
      have EM10 := Fr.tr EM6 (FM10.mono (c2 := [17, 18, 19, 21, 22, 23, 8, 10, 11]) rfl)
      have t_M10_b_1 : M10.1 b 1 = _ := congrFun (FM10 b (by rw [hb]; rfl)).1 1
      have t_M10_b_2 : M10.1 b 2 = _ := congrFun (FM10 b (by rw [hb]; rfl)).1 2
      refine A_st (st' := [.int (iI z13)]) rfl ?_
      refine A_istore (lv' := [(4, .int (iI z13)), (0, .ref a), (1, .ref b), (2, .ref f), (3, .int (iI v3))]) C dX6_findWorst_32 (by decide) rfl ?_
      refine A_aloadn C dX6_findWorst_34 1 rfl rfl ?_
      refine G_getR C WM10 ha rfl rfl rfl rfl fX6_findWorst_15 dX6_findWorst_35 (fun b14 hb14 qb14 => ?_)
      refine A_iload C dX6_findWorst_38 0 rfl ?_
      refine G_lald C WM10 qb14 rfl rfl (by decide) (by omega) (by omega) dX6_findWorst_40 (fun z15 ez15 rz15 => ?_)
      refine A_lconst0 C dX6_findWorst_41 ?_
      refine A_lcmp C (by omega) (by omega) dX6_findWorst_42 (fun z16 cz16 => ?_)
      refine A_iflt C 56 dX6_findWorst_43 (by decide) (by omega) (fun c17 => ?_) (fun c17 => ?_)
      · skip
        refine A_aloadn C dX6_findWorst_56 1 rfl rfl ?_
        refine A_iload C dX6_findWorst_57 0 rfl ?_
        refine A_aloadn C dX6_findWorst_59 1 rfl rfl ?_
        refine G_getR C WM10 ha rfl rfl rfl rfl fX6_findWorst_15 dX6_findWorst_60 (fun b18 hb18 qb18 => ?_)
        refine A_iload C dX6_findWorst_63 0 rfl ?_
        refine G_lald C WM10 qb18 rfl rfl (by decide) (by omega) (by omega) dX6_findWorst_65 (fun z19 ez19 rz19 => ?_)
        refine A_aloadn C dX6_findWorst_66 2 rfl rfl ?_
        refine A_callV C (n := 3) (st := []) (kX6_follow ha hb (by omega) (by omega)) gX6_findWorst_X6_follow rfl (by decide +kernel) ⟨Nat.le_of_ble_eq_true rfl, Nat.le_of_ble_eq_true rfl⟩ ha rfl rfl rfl rfl (Nat.le_of_ble_eq_true rfl) dX6_findWorst_67 rfl WM10 (fun r20 M21 h22 => ?_)
        obtain ⟨rfl, WM21, FM21, xx23⟩ := h22
        have EM21 := Fr.tr EM10 (FM21.mono (c2 := [17, 18, 19, 21, 22, 23, 8, 10, 11]) rfl)
        refine A_st (st' := []) rfl ?_
        refine A_aloadn C dX6_findWorst_70 3 rfl rfl ?_
        refine A_aloadn C dX6_findWorst_71 1 rfl rfl ?_
        obtain ⟨b24, hb24, qb24⟩ := WM21.2.2.2 a ha
        refine A_getR C ha rfl rfl rfl hb24 fX6_findWorst_33 dX6_findWorst_72 ?_
        refine A_aloadn C dX6_findWorst_75 2 rfl rfl ?_
        refine gr_callV C (n := 1) (st := [.ref f]) (kX4_holdsAlong_G_21 qb24 hb) gX6_findWorst_X4_holdsAlong rfl (by decide +kernel) ⟨Nat.le_of_ble_eq_true rfl, Nat.le_of_ble_eq_true rfl⟩ qb24 rfl rfl (Nat.le_of_ble_eq_true rfl) dX6_findWorst_76 rfl ⟨WM21, by omega⟩ (fun r26 M27 h28 => ?_)
        obtain ⟨z30, rfl, rz30, WM27, FM27⟩ := h28
        have EM27 := Fr.tr EM21 (FM27.mono (c2 := [17, 18, 19, 21, 22, 23, 8, 10, 11]) rfl)
        have t_M27_b_1 : M27.1 b 1 = _ := congrFun (FM27 b (by rw [hb]; rfl)).1 1
        have t_M27_b_2 : M27.1 b 2 = _ := congrFun (FM27 b (by rw [hb]; rfl)).1 2
        refine A_st (st' := [.long (lL z30), .ref f]) rfl ?_
        refine A_aloadn C dX6_findWorst_79 1 rfl rfl ?_
        obtain ⟨b31, hb31, qb31⟩ := WM27.2.2.2 a ha
        refine A_getR C ha rfl rfl rfl hb31 fX6_findWorst_33 dX6_findWorst_80 ?_
        refine A_aloadn C dX6_findWorst_83 2 rfl rfl ?_
        refine gr_callV C (n := 1) (st := [.long (lL z30), .ref f]) (kX4_drivesAlong_G_21 qb31 hb) gX6_findWorst_X4_drivesAlong rfl (by decide +kernel) ⟨Nat.le_of_ble_eq_true rfl, Nat.le_of_ble_eq_true rfl⟩ qb31 rfl rfl (Nat.le_of_ble_eq_true rfl) dX6_findWorst_84 rfl ⟨WM27, by omega⟩ (fun r33 M34 h35 => ?_)
        obtain ⟨z37, rfl, rz37, WM34, FM34⟩ := h35
        have EM34 := Fr.tr EM27 (FM34.mono (c2 := [17, 18, 19, 21, 22, 23, 8, 10, 11]) rfl)
        have t_M34_b_1 : M34.1 b 1 = _ := congrFun (FM34 b (by rw [hb]; rfl)).1 1
        have t_M34_b_2 : M34.1 b 2 = _ := congrFun (FM34 b (by rw [hb]; rfl)).1 2
        refine A_st (st' := [.long (lL z37), .long (lL z30), .ref f]) rfl ?_
        refine A_callV C (n := 2) (st := []) (kX3_become hf (by omega) (by omega)) gX6_findWorst_X3_become rfl (by decide +kernel) ⟨Nat.le_of_ble_eq_true rfl, Nat.le_of_ble_eq_true rfl⟩ hf rfl rfl rfl rfl (Nat.le_of_ble_eq_true rfl) dX6_findWorst_87 rfl WM34 (fun r38 M39 h40 => ?_)
        obtain ⟨rfl, WM39, FM39⟩ := h40
        have EM39 := Fr.tr EM34 (FM39.mono (c2 := [17, 18, 19, 21, 22, 23, 8, 10, 11]) rfl)
        have t_M39_b_1 : M39.1 b 1 = _ := congrFun (FM39 b (by rw [hb]; rfl)).1 1
        have t_M39_b_2 : M39.1 b 2 = _ := congrFun (FM39 b (by rw [hb]; rfl)).1 2
        refine A_st (st' := []) rfl ?_
        refine A_aloadn C dX6_findWorst_90 1 rfl rfl ?_
        refine A_aloadn C dX6_findWorst_91 3 rfl rfl ?_
        refine G_getL C WM39 hf rfl rfl rfl fX6_findWorst_70 dX6_findWorst_92 (fun z42 ez42 rz42 => ?_)
        refine A_aloadn C dX6_findWorst_95 3 rfl rfl ?_
        refine G_getL C WM39 hf rfl rfl rfl fX6_findWorst_73 dX6_findWorst_96 (fun z43 ez43 rz43 => ?_)
        refine A_callV C (n := 2) (st := []) (kX6_aim ha (by omega) (by omega)) gX6_findWorst_X6_aim rfl (by decide +kernel) ⟨Nat.le_of_ble_eq_true rfl, Nat.le_of_ble_eq_true rfl⟩ ha rfl rfl rfl rfl (Nat.le_of_ble_eq_true rfl) dX6_findWorst_99 rfl WM39 (fun r44 M45 h46 => ?_)
        obtain ⟨rfl, WM45, FM45⟩ := h46
        have EM45 := Fr.tr EM39 (FM45.mono (c2 := [17, 18, 19, 21, 22, 23, 8, 10, 11]) rfl)
        have t_M45_b_1 : M45.1 b 1 = _ := congrFun (FM45 b (by rw [hb]; rfl)).1 1
        have t_M45_b_2 : M45.1 b 2 = _ := congrFun (FM45 b (by rw [hb]; rfl)).1 2
        refine A_st (st' := []) rfl ?_
        refine A_iinc (lv' := [(3, .int (iI (v3 + 1))), (4, .int (iI z13)), (0, .ref a), (1, .ref b), (2, .ref f)]) C dX6_findWorst_102 4 rfl (by decide) rfl ?_
        refine A_goto C 8 dX6_findWorst_105 (by decide) ?_
        refine A_pick [2, 3, 4, 0] rfl ?_
        exact ih (v3 + 1) M45 (by omega) (by omega) WM45 EM45
      · skip
        refine A_iloadn C dX6_findWorst_46 4 rfl rfl ?_
        refine A_ifle C 54 dX6_findWorst_47 (by decide) (by omega) (fun c48 => ?_) (fun c48 => ?_)
        · skip
          refine A_iconst C dX6_findWorst_54 ?_
          exact A_zret C (by omega) dX6_findWorst_55 ⟨0, rfl, by omega, by omega, WM10, EM10⟩
        · skip
          refine A_iconst C dX6_findWorst_50 ?_
          refine A_goto C 55 dX6_findWorst_51 (by decide) ?_
          exact A_zret C (by omega) dX6_findWorst_55 ⟨1, rfl, by omega, by omega, WM10, EM10⟩
set_option maxHeartbeats 4000000 in
theorem kX6_findWorst  {a : Nat} (ha : kd a = 17) {b : Nat} (hb : kd b = 21) {f : Nat} (hf : kd f = 23) : Ct yX6_findWorst wsX6_findWorst 6 [.ref a, .ref b, .ref f] (fun M => WF M) (fun M r M' => ∃ z : Int, r = some (.int (iI z)) ∧ (0 : Int) ≤ z ∧ z ≤ 1 ∧ WF M' ∧ Fr [17, 18, 19, 21, 22, 23, 8, 10, 11] M M') := by
  refine Ct_of (cc := cX6_findWorst) (nL := 5) (rt := (some .boolean)) (own := RX6) rfl (by decide) rfl (Nat.le_of_ble_eq_true rfl) ?_
  intro p l e s m args below meth c G M0 C W
  have E : Fr [17, 18, 19, 21, 22, 23, 8, 10, 11] M0 M0 := Fr.rf
  refine A_lv (lv' := [(0, .ref a), (1, .ref b), (2, .ref f)]) rfl ?_
  refine A_aloadn C dX6_findWorst_0 0 rfl rfl ?_
  refine A_lconst1 C dX6_findWorst_1 ?_
  refine A_lconst0 C dX6_findWorst_2 ?_
  refine A_callV C (n := 2) (st := []) (kX6_aim ha (by omega) (by omega)) gX6_findWorst_X6_aim rfl (by decide +kernel) ⟨Nat.le_of_ble_eq_true rfl, Nat.le_of_ble_eq_true rfl⟩ ha rfl rfl rfl rfl (Nat.le_of_ble_eq_true rfl) dX6_findWorst_3 rfl W (fun r49 M50 h51 => ?_)
  obtain ⟨rfl, WM50, FM50⟩ := h51
  have EM50 := Fr.tr E (FM50.mono (c2 := [17, 18, 19, 21, 22, 23, 8, 10, 11]) rfl)
  have t_M50_b_1 : M50.1 b 1 = _ := congrFun (FM50 b (by rw [hb]; rfl)).1 1
  have t_M50_b_2 : M50.1 b 2 = _ := congrFun (FM50 b (by rw [hb]; rfl)).1 2
  refine A_st (st' := []) rfl ?_
  refine A_iconst C dX6_findWorst_6 ?_
  refine A_istoren (lv' := [(3, .int (iI 0)), (0, .ref a), (1, .ref b), (2, .ref f)]) C dX6_findWorst_7 rfl (by decide) rfl ?_
  refine A_pick [1, 2, 3, 0] rfl ?_
  exact lpX6_findWorst_8 C  ha hb hf ((1001 - (0 : Int)).toNat + 1) 0 M50 (by omega) (by omega) WM50 EM50

theorem uX6_findFirst_6 : ∀ w ∈ u_ws RX6 TX6 7, w ∈ wsX6_findFirst := by decide +kernel
theorem uX6_findFirst_4 : ∀ w ∈ u_ws RX4 TX4 2, w ∈ wsX6_findFirst := by decide +kernel
theorem uX6_findFirst_3 : ∀ w ∈ u_ws RX3 TX3 2, w ∈ wsX6_findFirst := by decide +kernel
theorem fX6_findFirst_33 : Fl RX6 wsX6_findFirst 6 0 33 RX6 TX6 7 := ⟨rfl, by decide, uX6_findFirst_6, by decide +kernel⟩
theorem fX6_findFirst_41 : Fl RX6 wsX6_findFirst 4 1 41 RX4 TX4 2 := ⟨rfl, by decide, uX6_findFirst_4, by decide +kernel⟩
theorem fX6_findFirst_15 : Fl RX6 wsX6_findFirst 6 2 15 RX6 TX6 7 := ⟨rfl, by decide, uX6_findFirst_6, by decide +kernel⟩
theorem fX6_findFirst_70 : Fl RX6 wsX6_findFirst 3 0 70 RX3 TX3 2 := ⟨rfl, by decide, uX6_findFirst_3, by decide +kernel⟩
theorem fX6_findFirst_73 : Fl RX6 wsX6_findFirst 3 1 73 RX3 TX3 2 := ⟨rfl, by decide, uX6_findFirst_3, by decide +kernel⟩
set_option maxHeartbeats 4000000 in
theorem lpX6_findFirst_72 {p : Program} {l : Launch} {e : Env} {s : State} {m : MethodId} {args : Array Value} {below : List Frame} {meth : Method} {c : Code} {G : xG} (C : Cx p s m args meth c G cX6_findFirst 5 RX6 wsX6_findFirst none)  {a : Nat} (ha : kd a = 17) {b : Nat} (hb : kd b = 21) {f : Nat} (hf : kd f = 23) {M0 : Mem} : ∀ (n : Nat) (v3 v4 : Int) (M : Mem), (14 - v4).toNat < n → (0 ≤ v3 ∧ v3 ≤ 11 ∧ v3 + 1 ≤ v4 ∧ v4 ≤ 13) → WF M → Fr [17, 18, 19, 21, 22] M0 M → AW p l e (rmD 5) s m args below meth c G 5 (QQ G below args s ((fun M r M' => r = none ∧ WF M' ∧ Fr [17, 18, 19, 21, 22] M M') M0)) M 72 [(0, .ref a), (1, .ref b), (3, .int (iI v3)), (4, .int (iI v4))] [] := by
  intro n
  induction n with
  | zero => intro v3 v4 M hn; exact absurd hn (Nat.not_lt_zero _)
  | succ n ih =>
    intro v3 v4 M hn hi W E
    refine A_iload C dX6_findFirst_72 3 rfl ?_
    refine A_aloadn C dX6_findFirst_74 0 rfl rfl ?_
    obtain ⟨b1, hb1, qb1⟩ := W.2.2.2 a ha
    refine A_getR C ha rfl rfl rfl hb1 fX6_findFirst_33 dX6_findFirst_75 ?_
    refine gr_getI C W qb1 fX6_findFirst_41 dX6_findFirst_78 (fun z3 ez3 lz3 uz3 => ?_)
    refine A_icmpgt C 119 dX6_findFirst_81 (by decide) (by omega) (by omega) (fun c4 => ?_) (fun c4 => ?_)
    · skip
      exact A_vret C dX6_findFirst_119 ⟨rfl, W, E⟩
    · skip
      refine A_aloadn C dX6_findFirst_84 0 rfl rfl ?_
      refine A_iloadn C dX6_findFirst_85 2 rfl rfl ?_
      refine A_iload C dX6_findFirst_86 3 rfl ?_
      refine A_iconst C dX6_findFirst_88 ?_
      refine A_callV C (n := 3) (st := []) (kX6_weigh ha (by omega) (by omega) (by omega)) gX6_findFirst_X6_weigh rfl (by decide +kernel) ⟨Nat.le_of_ble_eq_true rfl, Nat.le_of_ble_eq_true rfl⟩ ha rfl rfl rfl rfl (Nat.le_of_ble_eq_true rfl) dX6_findFirst_89 rfl W (fun r5 M6 h7 => ?_)
      obtain ⟨rfl, WM6, FM6⟩ := h7
      have EM6 := Fr.tr E (FM6.mono (c2 := [17, 18, 19, 21, 22]) rfl)
      refine A_st (st' := []) rfl ?_
      refine A_aloadn C dX6_findFirst_92 0 rfl rfl ?_
      refine G_getR C WM6 ha rfl rfl rfl rfl fX6_findFirst_15 dX6_findFirst_93 (fun b9 hb9 qb9 => ?_)
      refine A_iloadn C dX6_findFirst_96 2 rfl rfl ?_
      refine G_lald C WM6 qb9 rfl rfl (by decide) (by omega) (by omega) dX6_findFirst_97 (fun z10 ez10 rz10 => ?_)
      refine A_lconst0 C dX6_findFirst_98 ?_
      refine A_lcmp C (by omega) (by omega) dX6_findFirst_99 (fun z11 cz11 => ?_)
      refine A_ifge C 113 dX6_findFirst_100 (by decide) (by omega) (fun c12 => ?_) (fun c12 => ?_)
      · skip
        refine A_iinc (lv' := [(4, .int (iI (v4 + 1))), (0, .ref a), (1, .ref b), (3, .int (iI v3))]) C dX6_findFirst_113 3 rfl (by decide) rfl ?_
        refine A_goto C 72 dX6_findFirst_116 (by decide) ?_
        refine A_pick [1, 2, 3, 0] rfl ?_
        exact ih v3 (v4 + 1) M6 (by omega) (by omega) WM6 EM6
      · skip
        refine A_aloadn C dX6_findFirst_103 0 rfl rfl ?_
        refine A_iloadn C dX6_findFirst_104 2 rfl rfl ?_
        refine A_ldc2 C (index := 78) (v := (-1)) (z := (-1)) (by decide +kernel) (by decide +kernel) dX6_findFirst_105 ?_
        refine A_aloadn C dX6_findFirst_108 1 rfl rfl ?_
        refine A_callV C (n := 3) (st := []) (kX6_follow ha hb (by omega) (by omega)) gX6_findFirst_X6_follow rfl (by decide +kernel) ⟨Nat.le_of_ble_eq_true rfl, Nat.le_of_ble_eq_true rfl⟩ ha rfl rfl rfl rfl (Nat.le_of_ble_eq_true rfl) dX6_findFirst_109 rfl WM6 (fun r13 M14 h15 => ?_)
        obtain ⟨rfl, WM14, FM14, xx16⟩ := h15
        have EM14 := Fr.tr EM6 (FM14.mono (c2 := [17, 18, 19, 21, 22]) rfl)
        refine A_st (st' := []) rfl ?_
        exact A_vret C dX6_findFirst_112 ⟨rfl, WM14, EM14⟩
set_option maxHeartbeats 4000000 in
theorem lpX6_findFirst_37 {p : Program} {l : Launch} {e : Env} {s : State} {m : MethodId} {args : Array Value} {below : List Frame} {meth : Method} {c : Code} {G : xG} (C : Cx p s m args meth c G cX6_findFirst 5 RX6 wsX6_findFirst none)  {a : Nat} (ha : kd a = 17) {b : Nat} (hb : kd b = 21) {f : Nat} (hf : kd f = 23) {M0 : Mem} : ∀ (n : Nat) (v3 : Int) (M : Mem), (12 - v3).toNat < n → (0 ≤ v3 ∧ v3 ≤ 11) → WF M → Fr [17, 18, 19, 21, 22] M0 M → AW p l e (rmD 5) s m args below meth c G 5 (QQ G below args s ((fun M r M' => r = none ∧ WF M' ∧ Fr [17, 18, 19, 21, 22] M M') M0)) M 37 [(0, .ref a), (1, .ref b), (3, .int (iI v3))] [] := by
  intro n
  induction n with
  | zero => intro v3 M hn; exact absurd hn (Nat.not_lt_zero _)
  | succ n ih =>
    intro v3 M hn hi W E
    refine A_iloadn C dX6_findFirst_37 2 rfl rfl ?_
    refine A_aloadn C dX6_findFirst_38 0 rfl rfl ?_
    obtain ⟨b17, hb17, qb17⟩ := W.2.2.2 a ha
    refine A_getR C ha rfl rfl rfl hb17 fX6_findFirst_33 dX6_findFirst_39 ?_
    refine gr_getI C W qb17 fX6_findFirst_41 dX6_findFirst_42 (fun z19 ez19 lz19 uz19 => ?_)
    refine A_iconst C dX6_findFirst_45 ?_
    refine A_isub C dX6_findFirst_46 ?_
    refine A_icmpge C 67 dX6_findFirst_47 (by decide) (by omega) (by omega) (fun c20 => ?_) (fun c20 => ?_)
    · skip
      refine A_iloadn C dX6_findFirst_67 2 rfl rfl ?_
      refine A_iconst C dX6_findFirst_68 ?_
      refine A_iadd C dX6_findFirst_69 ?_
      refine A_nami (fun z21 ez21 => ?_)
      refine A_istore (lv' := [(4, .int (iI z21)), (0, .ref a), (1, .ref b), (3, .int (iI v3))]) C dX6_findFirst_70 (by decide) rfl ?_
      refine A_pick [1, 2, 3, 0] rfl ?_
      exact lpX6_findFirst_72 C  ha hb hf ((14 - z21).toNat + 1) v3 z21 M (by omega) (by omega) W E
    · skip
      refine A_aloadn C dX6_findFirst_50 0 rfl rfl ?_
      refine G_getR C W ha rfl rfl rfl rfl fX6_findFirst_15 dX6_findFirst_51 (fun b22 hb22 qb22 => ?_)
      refine A_iloadn C dX6_findFirst_54 2 rfl rfl ?_
      refine G_lald C W qb22 rfl rfl (by decide) (by omega) (by omega) dX6_findFirst_55 (fun z23 ez23 rz23 => ?_)
      refine A_lconst0 C dX6_findFirst_56 ?_
      refine A_lcmp C (by omega) (by omega) dX6_findFirst_57 (fun z24 cz24 => ?_)
      refine A_iflt C 67 dX6_findFirst_58 (by decide) (by omega) (fun c25 => ?_) (fun c25 => ?_)
      · skip
        refine A_iloadn C dX6_findFirst_67 2 rfl rfl ?_
        refine A_iconst C dX6_findFirst_68 ?_
        refine A_iadd C dX6_findFirst_69 ?_
        refine A_nami (fun z26 ez26 => ?_)
        refine A_istore (lv' := [(4, .int (iI z26)), (0, .ref a), (1, .ref b), (3, .int (iI v3))]) C dX6_findFirst_70 (by decide) rfl ?_
        refine A_pick [1, 2, 3, 0] rfl ?_
        exact lpX6_findFirst_72 C  ha hb hf ((14 - z26).toNat + 1) v3 z26 M (by omega) (by omega) W E
      · skip
        refine A_iinc (lv' := [(3, .int (iI (v3 + 1))), (0, .ref a), (1, .ref b)]) C dX6_findFirst_61 2 rfl (by decide) rfl ?_
        refine A_goto C 37 dX6_findFirst_64 (by decide) ?_
        refine A_pick [1, 2, 0] rfl ?_
        exact ih (v3 + 1) M (by omega) (by omega) W E
set_option maxHeartbeats 4000000 in
theorem kX6_findFirst  {a : Nat} (ha : kd a = 17) {b : Nat} (hb : kd b = 21) {f : Nat} (hf : kd f = 23) : Ct yX6_findFirst wsX6_findFirst 5 [.ref a, .ref b, .ref f] (fun M => WF M) (fun M r M' => r = none ∧ WF M' ∧ Fr [17, 18, 19, 21, 22] M M') := by
  refine Ct_of (cc := cX6_findFirst) (nL := 5) (rt := none) (own := RX6) rfl (by decide) rfl (Nat.le_of_ble_eq_true rfl) ?_
  intro p l e s m args below meth c G M0 C W
  have E : Fr [17, 18, 19, 21, 22] M0 M0 := Fr.rf
  refine A_lv (lv' := [(0, .ref a), (1, .ref b), (2, .ref f)]) rfl ?_
  refine A_aloadn C dX6_findFirst_0 0 rfl rfl ?_
  refine A_aloadn C dX6_findFirst_1 2 rfl rfl ?_
  refine G_getL C W hf rfl rfl rfl fX6_findFirst_70 dX6_findFirst_2 (fun z27 ez27 rz27 => ?_)
  refine A_ldc2 C (index := 76) (v := 1048576) (z := 1048576) (by decide +kernel) (by decide +kernel) dX6_findFirst_5 ?_
  refine A_lmul C dX6_findFirst_8 ?_
  refine A_topl (fun z28 rz28 ez28 => ?_)
  refine A_lconst1 C dX6_findFirst_9 ?_
  refine A_ladd C dX6_findFirst_10 ?_
  refine A_topl (fun z29 rz29 ez29 => ?_)
  refine A_aloadn C dX6_findFirst_11 2 rfl rfl ?_
  refine G_getL C W hf rfl rfl rfl fX6_findFirst_73 dX6_findFirst_12 (fun z30 ez30 rz30 => ?_)
  refine A_ldc2 C (index := 76) (v := 1048576) (z := 1048576) (by decide +kernel) (by decide +kernel) dX6_findFirst_15 ?_
  refine A_lmul C dX6_findFirst_18 ?_
  refine A_topl (fun z31 rz31 ez31 => ?_)
  refine A_callV C (n := 2) (st := []) (kX6_aim ha (by omega) (by omega)) gX6_findFirst_X6_aim rfl (by decide +kernel) ⟨Nat.le_of_ble_eq_true rfl, Nat.le_of_ble_eq_true rfl⟩ ha rfl rfl rfl rfl (Nat.le_of_ble_eq_true rfl) dX6_findFirst_19 rfl W (fun r32 M33 h34 => ?_)
  obtain ⟨rfl, WM33, FM33⟩ := h34
  have EM33 := Fr.tr E (FM33.mono (c2 := [17, 18, 19, 21, 22]) rfl)
  refine A_st (st' := []) rfl ?_
  refine A_aloadn C dX6_findFirst_22 0 rfl rfl ?_
  refine A_iconst C dX6_findFirst_23 ?_
  refine A_aloadn C dX6_findFirst_24 0 rfl rfl ?_
  obtain ⟨b36, hb36, qb36⟩ := WM33.2.2.2 a ha
  refine A_getR C ha rfl rfl rfl hb36 fX6_findFirst_33 dX6_findFirst_25 ?_
  refine gr_getI C WM33 qb36 fX6_findFirst_41 dX6_findFirst_28 (fun z38 ez38 lz38 uz38 => ?_)
  refine A_iconst C dX6_findFirst_31 ?_
  refine A_callV C (n := 3) (st := []) (kX6_weigh ha (by omega) (by omega) (by omega)) gX6_findFirst_X6_weigh rfl (by decide +kernel) ⟨Nat.le_of_ble_eq_true rfl, Nat.le_of_ble_eq_true rfl⟩ ha rfl rfl rfl rfl (Nat.le_of_ble_eq_true rfl) dX6_findFirst_32 rfl WM33 (fun r39 M40 h41 => ?_)
  obtain ⟨rfl, WM40, FM40⟩ := h41
  have EM40 := Fr.tr EM33 (FM40.mono (c2 := [17, 18, 19, 21, 22]) rfl)
  refine A_st (st' := []) rfl ?_
  refine A_iconst C dX6_findFirst_35 ?_
  refine A_istoren (lv' := [(3, .int (iI 0)), (0, .ref a), (1, .ref b), (2, .ref f)]) C dX6_findFirst_36 rfl (by decide) rfl ?_
  refine A_pick [1, 2, 0] rfl ?_
  exact lpX6_findFirst_37 C  ha hb hf ((12 - (0 : Int)).toNat + 1) 0 M40 (by omega) (by omega) WM40 EM40

theorem uX0_doOn_0 : ∀ w ∈ u_ws RX0 TX0 4, w ∈ wsX0_doOn := by decide +kernel
theorem uX0_doOn_4 : ∀ w ∈ u_ws RX4 TX4 2, w ∈ wsX0_doOn := by decide +kernel
theorem uX0_doOn_1 : ∀ w ∈ u_ws RX1 TX1 9, w ∈ wsX0_doOn := by decide +kernel
theorem fX0_doOn_19 : Fl RX0 wsX0_doOn 0 2 19 RX0 TX0 4 := ⟨rfl, by decide, uX0_doOn_0, by decide +kernel⟩
theorem fX0_doOn_36 : Fl RX0 wsX0_doOn 4 0 36 RX4 TX4 2 := ⟨rfl, by decide, uX0_doOn_4, by decide +kernel⟩
theorem fX0_doOn_22 : Fl RX0 wsX0_doOn 0 3 22 RX0 TX0 4 := ⟨rfl, by decide, uX0_doOn_0, by decide +kernel⟩
theorem fX0_doOn_15 : Fl RX0 wsX0_doOn 0 1 15 RX0 TX0 4 := ⟨rfl, by decide, uX0_doOn_0, by decide +kernel⟩
theorem fX0_doOn_62 : Fl RX0 wsX0_doOn 1 3 62 RX1 TX1 9 := ⟨rfl, by decide, uX0_doOn_1, by decide +kernel⟩
theorem fX0_doOn_46 : Fl RX0 wsX0_doOn 1 4 46 RX1 TX1 9 := ⟨rfl, by decide, uX0_doOn_1, by decide +kernel⟩
theorem fX0_doOn_59 : Fl RX0 wsX0_doOn 1 2 59 RX1 TX1 9 := ⟨rfl, by decide, uX0_doOn_1, by decide +kernel⟩
set_option maxHeartbeats 4000000 in
theorem kX0_doOn  {a : Nat} (ha : kd a = 13) {b : Nat} (hb : (kd b = 6 ∨ kd b = 12)) {x1 : Int} (hx1 : (-2147483648 : Int) ≤ x1 ∧ x1 ≤ 2147483647) : Ct yX0_doOn wsX0_doOn 3 [.ref a, .ref b, .int (iI x1)] (fun M => WF M) (fun M r M' => r = none ∧ WF M' ∧ Fr [8] M M') := by
  refine Ct_of (cc := cX0_doOn) (nL := 5) (rt := none) (own := RX0) rfl (by decide) rfl (Nat.le_of_ble_eq_true rfl) ?_
  intro p l e s m args below meth c G M0 C W
  have E : Fr [8] M0 M0 := Fr.rf
  refine A_lv (lv' := [(0, .ref a), (1, .ref b), (2, .int (iI x1))]) rfl ?_
  refine A_aloadn C dX0_doOn_0 0 rfl rfl ?_
  refine A_iloadn C dX0_doOn_1 2 rfl rfl ?_
  refine A_callV C (n := 1) (st := []) (kX0_has ha (by omega)) gX0_doOn_X0_has rfl (by decide +kernel) ⟨Nat.le_of_ble_eq_true rfl, Nat.le_of_ble_eq_true rfl⟩ ha rfl rfl rfl rfl (Nat.le_of_ble_eq_true rfl) dX0_doOn_2 rfl W (fun r1 M2 h3 => ?_)
  obtain ⟨z5, rfl, lz5, uz5, WM2, FM2, xx4⟩ := h3
  have EM2 := Fr.tr E (FM2.mono (c2 := [8]) rfl)
  refine A_st (st' := [.int (iI z5)]) rfl ?_
  refine A_ifeq C 21 dX0_doOn_5 (by decide) (by omega) (fun c6 => ?_) (fun c6 => ?_)
  · skip
    exact A_vret C dX0_doOn_21 ⟨rfl, WM2, EM2⟩
  · skip
    refine A_aloadn C dX0_doOn_8 1 rfl rfl ?_
    refine A_aloadn C dX0_doOn_9 0 rfl rfl ?_
    refine G_getR C WM2 ha rfl rfl rfl rfl fX0_doOn_19 dX0_doOn_10 (fun b7 hb7 qb7 => ?_)
    refine A_iloadn C dX0_doOn_13 2 rfl rfl ?_
    refine G_iald C WM2 qb7 rfl rfl (by decide) (fun _ => rfl) (by omega) (by omega) dX0_doOn_14 (fun z8 ez8 lz8 uz8 => ?_)
    refine gr_callV C (n := 1) (st := []) (kX4_has hb (by omega)) gX0_doOn_X4_has rfl (by decide +kernel) ⟨Nat.le_of_ble_eq_true rfl, Nat.le_of_ble_eq_true rfl⟩ hb rfl rfl (Nat.le_of_ble_eq_true rfl) dX0_doOn_15 rfl WM2 (fun r9 M10 h11 => ?_)
    obtain ⟨z13, rfl, lz13, uz13, WM10, FM10, xx12⟩ := h11
    have EM10 := Fr.tr EM2 (FM10.mono (c2 := [8]) rfl)
    refine A_st (st' := [.int (iI z13)]) rfl ?_
    refine A_ifne C 22 dX0_doOn_18 (by decide) (by omega) (fun c14 => ?_) (fun c14 => ?_)
    · skip
      refine A_aloadn C dX0_doOn_22 1 rfl rfl ?_
      obtain ⟨b15, hb15, qb15⟩ := gr_cols WM10 hb
      refine gr_getR C hb hb15 fX0_doOn_36 dX0_doOn_23 ?_
      refine A_aloadn C dX0_doOn_26 0 rfl rfl ?_
      refine G_getR C WM10 ha rfl rfl rfl rfl fX0_doOn_19 dX0_doOn_27 (fun b16 hb16 qb16 => ?_)
      refine A_iloadn C dX0_doOn_30 2 rfl rfl ?_
      refine G_iald C WM10 qb16 rfl rfl (by decide) (fun _ => rfl) (by omega) (by omega) dX0_doOn_31 (fun z17 ez17 lz17 uz17 => ?_)
      refine G_aald C WM10 qb15 (by omega) (by omega) dX0_doOn_32 (fun b18 hb18 qb18 => ?_)
      refine A_astoren (lv' := [(3, .ref b18), (0, .ref a), (1, .ref b), (2, .int (iI x1))]) C dX0_doOn_33 rfl (by decide) rfl ?_
      refine A_aloadn C dX0_doOn_34 1 rfl rfl ?_
      refine G_getR C WM10 ha rfl rfl rfl rfl fX0_doOn_22 dX0_doOn_35 (fun b19 hb19 qb19 => ?_)
      refine A_iloadn C dX0_doOn_38 3 rfl rfl ?_
      refine G_iald C WM10 qb19 rfl rfl (by decide) (fun _ => rfl) (by omega) (by omega) dX0_doOn_39 (fun z20 ez20 lz20 uz20 => ?_)
      refine A_istore (lv' := [(4, .int (iI z20)), (3, .ref b18), (0, .ref a), (1, .ref b), (2, .int (iI x1))]) C dX0_doOn_40 (by decide) rfl ?_
      refine A_aloadn C dX0_doOn_42 2 rfl rfl ?_
      refine G_getR C WM10 ha rfl rfl rfl rfl fX0_doOn_15 dX0_doOn_43 (fun b21 hb21 qb21 => ?_)
      refine A_iloadn C dX0_doOn_46 4 rfl rfl ?_
      refine G_iald C WM10 qb21 rfl rfl (by decide) (fun _ => rfl) (by omega) (by omega) dX0_doOn_47 (fun z22 ez22 lz22 uz22 => ?_)
      rcases (show (z22 < 0 ∨ 2 < z22) ∨ z22 = 0 ∨ z22 = 1 ∨ z22 = 2 by omega) with c23 | c23 | c23 | c23
      · skip
        refine A_tabOut C 123 dX0_doOn_48 (by omega) c23 (by decide) ?_
        refine A_aloadn C dX0_doOn_123 1 rfl rfl ?_
        refine A_iconst C dX0_doOn_124 ?_
        refine A_aloadn C dX0_doOn_125 1 rfl rfl ?_
        refine G_getI C WM10 qb18 rfl rfl rfl rfl rfl fX0_doOn_62 rfl dX0_doOn_126 (fun z24 ez24 lz24 uz24 => ?_)
        refine A_iload C dX0_doOn_129 0 rfl ?_
        refine A_iadd C dX0_doOn_131 ?_
        refine A_sipush C dX0_doOn_132 (by decide) ?_
        refine A_min C (by omega) (by omega) (by decide +kernel) (by decide +kernel) (by decide +kernel) (by decide +kernel) (Nat.le_of_ble_eq_true rfl) (Nat.le_of_ble_eq_true rfl) dX0_doOn_135 (fun z25 ez25 lz25 uz25 => ?_)
        refine A_callV C (n := 2) (st := []) (kX1_put qb18 (by omega) (by omega) (by omega)) gX0_doOn_X1_put rfl (by decide +kernel) ⟨Nat.le_of_ble_eq_true rfl, Nat.le_of_ble_eq_true rfl⟩ qb18 rfl rfl rfl rfl (Nat.le_of_ble_eq_true rfl) dX0_doOn_138 rfl WM10 (fun r26 M27 h28 => ?_)
        obtain ⟨rfl, WM27, FM27⟩ := h28
        have EM27 := Fr.tr EM10 (FM27.mono (c2 := [8]) rfl)
        refine A_st (st' := []) rfl ?_
        exact A_vret C dX0_doOn_141 ⟨rfl, WM27, EM27⟩
      · skip
        refine A_tabIn C 0 76 dX0_doOn_48 c23 (by decide) (by decide) (by decide) rfl (by decide) ?_
        refine A_aloadn C dX0_doOn_76 1 rfl rfl ?_
        refine A_iload C dX0_doOn_77 0 rfl ?_
        refine A_callV C (n := 1) (st := []) (kX1_digTo qb18 (by omega)) gX0_doOn_X1_digTo rfl (by decide +kernel) ⟨Nat.le_of_ble_eq_true rfl, Nat.le_of_ble_eq_true rfl⟩ qb18 rfl rfl rfl rfl (Nat.le_of_ble_eq_true rfl) dX0_doOn_79 rfl WM10 (fun r30 M31 h32 => ?_)
        obtain ⟨rfl, WM31, FM31⟩ := h32
        have EM31 := Fr.tr EM10 (FM31.mono (c2 := [8]) rfl)
        refine A_st (st' := []) rfl ?_
        refine A_goto C 141 dX0_doOn_82 (by decide) ?_
        exact A_vret C dX0_doOn_141 ⟨rfl, WM31, EM31⟩
      · skip
        refine A_tabIn C 1 85 dX0_doOn_48 c23 (by decide) (by decide) (by decide) rfl (by decide) ?_
        refine A_aloadn C dX0_doOn_85 1 rfl rfl ?_
        refine A_iconst C dX0_doOn_86 ?_
        refine A_aloadn C dX0_doOn_87 1 rfl rfl ?_
        refine G_getI C WM10 qb18 rfl rfl rfl rfl rfl fX0_doOn_46 rfl dX0_doOn_88 (fun z34 ez34 lz34 uz34 => ?_)
        refine A_iload C dX0_doOn_91 0 rfl ?_
        refine A_iadd C dX0_doOn_93 ?_
        refine A_sipush C dX0_doOn_94 (by decide) ?_
        refine A_min C (by omega) (by omega) (by decide +kernel) (by decide +kernel) (by decide +kernel) (by decide +kernel) (Nat.le_of_ble_eq_true rfl) (Nat.le_of_ble_eq_true rfl) dX0_doOn_97 (fun z35 ez35 lz35 uz35 => ?_)
        refine A_callV C (n := 2) (st := []) (kX1_put qb18 (by omega) (by omega) (by omega)) gX0_doOn_X1_put rfl (by decide +kernel) ⟨Nat.le_of_ble_eq_true rfl, Nat.le_of_ble_eq_true rfl⟩ qb18 rfl rfl rfl rfl (Nat.le_of_ble_eq_true rfl) dX0_doOn_100 rfl WM10 (fun r36 M37 h38 => ?_)
        obtain ⟨rfl, WM37, FM37⟩ := h38
        have EM37 := Fr.tr EM10 (FM37.mono (c2 := [8]) rfl)
        refine A_st (st' := []) rfl ?_
        refine A_goto C 141 dX0_doOn_103 (by decide) ?_
        exact A_vret C dX0_doOn_141 ⟨rfl, WM37, EM37⟩
      · skip
        refine A_tabIn C 2 106 dX0_doOn_48 c23 (by decide) (by decide) (by decide) rfl (by decide) ?_
        refine A_aloadn C dX0_doOn_106 1 rfl rfl ?_
        refine A_iconst C dX0_doOn_107 ?_
        refine A_aloadn C dX0_doOn_108 1 rfl rfl ?_
        refine G_getI C WM10 qb18 rfl rfl rfl rfl rfl fX0_doOn_59 rfl dX0_doOn_109 (fun z40 ez40 lz40 uz40 => ?_)
        refine A_iload C dX0_doOn_112 0 rfl ?_
        refine A_min C (by omega) (by omega) (by decide +kernel) (by decide +kernel) (by decide +kernel) (by decide +kernel) (Nat.le_of_ble_eq_true rfl) (Nat.le_of_ble_eq_true rfl) dX0_doOn_114 (fun z41 ez41 lz41 uz41 => ?_)
        refine A_callV C (n := 2) (st := []) (kX1_put qb18 (by omega) (by omega) (by omega)) gX0_doOn_X1_put rfl (by decide +kernel) ⟨Nat.le_of_ble_eq_true rfl, Nat.le_of_ble_eq_true rfl⟩ qb18 rfl rfl rfl rfl (Nat.le_of_ble_eq_true rfl) dX0_doOn_117 rfl WM10 (fun r42 M43 h44 => ?_)
        obtain ⟨rfl, WM43, FM43⟩ := h44
        have EM43 := Fr.tr EM10 (FM43.mono (c2 := [8]) rfl)
        refine A_st (st' := []) rfl ?_
        refine A_goto C 141 dX0_doOn_120 (by decide) ?_
        exact A_vret C dX0_doOn_141 ⟨rfl, WM43, EM43⟩
    · skip
      exact A_vret C dX0_doOn_21 ⟨rfl, WM10, EM10⟩
