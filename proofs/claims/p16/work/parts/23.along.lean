theorem uX4_bears_5 : ∀ w ∈ u_ws RX5 TX5 3, w ∈ wsX4_bears := by decide +kernel
theorem uX4_bears_4 : ∀ w ∈ u_ws RX4 TX4 2, w ∈ wsX4_bears := by decide +kernel
theorem uX4_bears_1 : ∀ w ∈ u_ws RX1 TX1 9, w ∈ wsX4_bears := by decide +kernel
theorem fX4_bears_62 : Fl RX4 wsX4_bears 5 2 62 RX5 TX5 3 := ⟨rfl, by decide, uX4_bears_5, by decide +kernel⟩
theorem fX4_bears_17 : Fl RX4 wsX4_bears 4 1 17 RX4 TX4 2 := ⟨rfl, by decide, uX4_bears_4, by decide +kernel⟩
theorem fX4_bears_71 : Fl RX4 wsX4_bears 5 0 71 RX5 TX5 3 := ⟨rfl, by decide, uX4_bears_5, by decide +kernel⟩
theorem fX4_bears_11 : Fl RX4 wsX4_bears 4 0 11 RX4 TX4 2 := ⟨rfl, by decide, uX4_bears_4, by decide +kernel⟩
theorem fX4_bears_74 : Fl RX4 wsX4_bears 5 1 74 RX5 TX5 3 := ⟨rfl, by decide, uX4_bears_5, by decide +kernel⟩
theorem fX4_bears_59 : Fl RX4 wsX4_bears 1 1 59 RX1 TX1 9 := ⟨rfl, by decide, uX4_bears_1, by decide +kernel⟩
set_option maxHeartbeats 4000000 in
theorem lpX4_bears_76 {p : Program} {l : Launch} {e : Env} {s : State} {m : MethodId} {args : Array Value} {below : List Frame} {meth : Method} {c : Code} {G : xG} (C : Cx p s m args meth c G cX4_bears 3 RX4 wsX4_bears (some .boolean))  {a : Nat} (ha : kd a = 6) {b : Nat} (hb : kd b = 20) {M0 : Mem} : ∀ (n : Nat) (v2 : Int) (M : Mem), (14 - v2).toNat < n → (0 ≤ v2 ∧ v2 ≤ 13 ∧ M.1 b 1 + M.1 b 2 ≤ 13) → WF M → Fr [8, 10, 11] M0 M → AW p l e (rmD 5) s m args below meth c G 3 (QQ G below args s ((fun M r M' => ∃ z : Int, r = some (.int (iI z)) ∧ (0 : Int) ≤ z ∧ z ≤ 1 ∧ WF M' ∧ Fr [8, 10, 11] M M') M0)) M 76 [(0, .ref a), (1, .ref b), (2, .int (iI v2))] [] := by
  intro n
  induction n with
  | zero => intro v2 M hn; exact absurd hn (Nat.not_lt_zero _)
  | succ n ih =>
    intro v2 M hn hi W E
    refine A_iloadn C dX4_bears_76 2 rfl rfl ?_
    refine A_iconst C dX4_bears_77 ?_
    refine A_iadd C dX4_bears_78 ?_
    refine A_aloadn C dX4_bears_79 1 rfl rfl ?_
    refine G_getI C W hb rfl rfl rfl rfl rfl fX4_bears_62 rfl dX4_bears_80 (fun z1 ez1 lz1 uz1 => ?_)
    refine A_icmpge C 104 dX4_bears_83 (by decide) (by omega) (by omega) (fun c2 => ?_) (fun c2 => ?_)
    · skip
      refine A_iconst C dX4_bears_104 ?_
      exact A_zret C (by omega) dX4_bears_105 ⟨1, rfl, by omega, by omega, W, E⟩
    · skip
      refine A_aloadn C dX4_bears_86 0 rfl rfl ?_
      refine A_aloadn C dX4_bears_87 1 rfl rfl ?_
      refine A_iloadn C dX4_bears_88 2 rfl rfl ?_
      refine A_callV C (n := 2) (st := []) (kX4_holdsOfPart_6_20 ha hb (by omega)) gX4_bears_X4_holdsOfPart rfl (by decide +kernel) ⟨Nat.le_of_ble_eq_true rfl, Nat.le_of_ble_eq_true rfl⟩ ha rfl rfl rfl rfl (Nat.le_of_ble_eq_true rfl) dX4_bears_89 rfl ⟨W, by omega⟩ (fun r3 M4 h5 => ?_)
      obtain ⟨z7, rfl, lz7, uz7, WM4, FM4⟩ := h5
      have EM4 := Fr.tr E (FM4.mono (c2 := [8, 10, 11]) rfl)
      have t_M4_b_1 : M4.1 b 1 = _ := congrFun (FM4 b (by rw [hb]; rfl)).1 1
      have t_M4_b_2 : M4.1 b 2 = _ := congrFun (FM4 b (by rw [hb]; rfl)).1 2
      refine A_st (st' := [.int (iI z7)]) rfl ?_
      refine A_iconst C dX4_bears_92 ?_
      refine A_icmpne C 98 dX4_bears_93 (by decide) (by omega) (by omega) (fun c8 => ?_) (fun c8 => ?_)
      · skip
        refine A_iinc (lv' := [(2, .int (iI (v2 + 1))), (0, .ref a), (1, .ref b)]) C dX4_bears_98 2 rfl (by decide) rfl ?_
        refine A_goto C 76 dX4_bears_101 (by decide) ?_
        refine A_pick [1, 2, 0] rfl ?_
        exact ih (v2 + 1) M4 (by omega) (by omega) WM4 EM4
      · skip
        refine A_iconst C dX4_bears_96 ?_
        exact A_zret C (by omega) dX4_bears_97 ⟨0, rfl, by omega, by omega, WM4, EM4⟩
set_option maxHeartbeats 4000000 in
theorem kX4_bears  {a : Nat} (ha : kd a = 6) {b : Nat} (hb : kd b = 20) : Ct yX4_bears wsX4_bears 5 [.ref a, .ref b] (fun M => WF M) (fun M r M' => ∃ z : Int, r = some (.int (iI z)) ∧ (0 : Int) ≤ z ∧ z ≤ 1 ∧ WF M' ∧ Fr [8, 10, 11] M M') := by
  refine Ct_of (cc := cX4_bears) (nL := 3) (rt := (some .boolean)) (own := RX4) rfl (by decide) rfl (Nat.le_of_ble_eq_true rfl) ?_
  intro p l e s m args below meth c G M0 C W
  have E : Fr [8, 10, 11] M0 M0 := Fr.rf
  refine A_lv (lv' := [(0, .ref a), (1, .ref b)]) rfl ?_
  refine A_aloadn C dX4_bears_0 1 rfl rfl ?_
  refine G_getI C W hb rfl rfl rfl rfl rfl fX4_bears_62 rfl dX4_bears_1 (fun z9 ez9 lz9 uz9 => ?_)
  refine A_iconst C dX4_bears_4 ?_
  refine A_icmplt C 19 dX4_bears_5 (by decide) (by omega) (by omega) (fun c10 => ?_) (fun c10 => ?_)
  · skip
    refine A_iconst C dX4_bears_19 ?_
    exact A_zret C (by omega) dX4_bears_20 ⟨0, rfl, by omega, by omega, W, E⟩
  · skip
    refine A_aloadn C dX4_bears_8 1 rfl rfl ?_
    refine A_callV C (n := 0) (st := []) (kX5_end_20 hb) gX4_bears_X5_end rfl (by decide +kernel) ⟨Nat.le_of_ble_eq_true rfl, Nat.le_of_ble_eq_true rfl⟩ hb rfl rfl rfl rfl (Nat.le_of_ble_eq_true rfl) dX4_bears_9 rfl W (fun r11 M12 h13 => ?_)
    obtain ⟨z15, rfl, lz15, uz15, WM12, FM12, xx14⟩ := h13
    have EM12 := Fr.tr E (FM12.mono (c2 := [8, 10, 11]) rfl)
    have t_M12_b_1 : M12.1 b 1 = _ := congrFun (FM12 b (by rw [hb]; rfl)).1 1
    have t_M12_b_2 : M12.1 b 2 = _ := congrFun (FM12 b (by rw [hb]; rfl)).1 2
    refine A_st (st' := [.int (iI z15)]) rfl ?_
    refine A_aloadn C dX4_bears_12 0 rfl rfl ?_
    refine G_getI C WM12 ha rfl rfl rfl rfl rfl fX4_bears_17 rfl dX4_bears_13 (fun z16 ez16 lz16 uz16 => ?_)
    refine A_icmple C 21 dX4_bears_16 (by decide) (by omega) (by omega) (fun c17 => ?_) (fun c17 => ?_)
    · skip
      refine A_aloadn C dX4_bears_21 1 rfl rfl ?_
      refine G_getR C WM12 hb rfl rfl rfl rfl fX4_bears_71 dX4_bears_22 (fun b18 hb18 qb18 => ?_)
      refine A_iconst C dX4_bears_25 ?_
      refine G_iald C WM12 qb18 rfl rfl (by decide) (fun _ => rfl) (by omega) (by omega) dX4_bears_26 (fun z19 ez19 lz19 uz19 => ?_)
      refine A_aloadn C dX4_bears_27 0 rfl rfl ?_
      refine G_getR C WM12 ha rfl rfl rfl rfl fX4_bears_11 dX4_bears_28 (fun b20 hb20 qb20 => ?_)
      refine A_aloadn C dX4_bears_31 1 rfl rfl ?_
      refine G_getI C WM12 hb rfl rfl rfl rfl rfl fX4_bears_74 rfl dX4_bears_32 (fun z21 ez21 lz21 uz21 => ?_)
      refine G_aald C WM12 qb20 (by omega) (by omega) dX4_bears_35 (fun b22 hb22 qb22 => ?_)
      refine G_getI C WM12 qb22 rfl rfl rfl rfl rfl fX4_bears_59 rfl dX4_bears_36 (fun z23 ez23 lz23 uz23 => ?_)
      refine A_icmpeq C 44 dX4_bears_39 (by decide) (by omega) (by omega) (fun c24 => ?_) (fun c24 => ?_)
      · skip
        refine A_aloadn C dX4_bears_44 1 rfl rfl ?_
        refine G_getR C WM12 hb rfl rfl rfl rfl fX4_bears_71 dX4_bears_45 (fun b25 hb25 qb25 => ?_)
        refine A_aloadn C dX4_bears_48 1 rfl rfl ?_
        refine G_getI C WM12 hb rfl rfl rfl rfl rfl fX4_bears_62 rfl dX4_bears_49 (fun z26 ez26 lz26 uz26 => ?_)
        refine A_iconst C dX4_bears_52 ?_
        refine A_isub C dX4_bears_53 ?_
        refine G_iald C WM12 qb25 rfl rfl (by decide) (fun _ => rfl) (by omega) (by omega) dX4_bears_54 (fun z27 ez27 lz27 uz27 => ?_)
        refine A_aloadn C dX4_bears_55 0 rfl rfl ?_
        refine G_getR C WM12 ha rfl rfl rfl rfl fX4_bears_11 dX4_bears_56 (fun b28 hb28 qb28 => ?_)
        refine A_aloadn C dX4_bears_59 1 rfl rfl ?_
        refine A_callV C (n := 0) (st := [.ref b28, .int (iI z27)]) (kX5_end_20 hb) gX4_bears_X5_end rfl (by decide +kernel) ⟨Nat.le_of_ble_eq_true rfl, Nat.le_of_ble_eq_true rfl⟩ hb rfl rfl rfl rfl (Nat.le_of_ble_eq_true rfl) dX4_bears_60 rfl WM12 (fun r29 M30 h31 => ?_)
        obtain ⟨z33, rfl, lz33, uz33, WM30, FM30, xx32⟩ := h31
        have EM30 := Fr.tr EM12 (FM30.mono (c2 := [8, 10, 11]) rfl)
        have t_M30_b_1 : M30.1 b 1 = _ := congrFun (FM30 b (by rw [hb]; rfl)).1 1
        have t_M30_b_2 : M30.1 b 2 = _ := congrFun (FM30 b (by rw [hb]; rfl)).1 2
        refine A_st (st' := [.int (iI z33), .ref b28, .int (iI z27)]) rfl ?_
        refine A_iconst C dX4_bears_63 ?_
        refine A_isub C dX4_bears_64 ?_
        refine G_aald C WM30 qb28 (by omega) (by omega) dX4_bears_65 (fun b34 hb34 qb34 => ?_)
        refine G_getI C WM30 qb34 rfl rfl rfl rfl rfl fX4_bears_59 rfl dX4_bears_66 (fun z35 ez35 lz35 uz35 => ?_)
        refine A_icmpeq C 74 dX4_bears_69 (by decide) (by omega) (by omega) (fun c36 => ?_) (fun c36 => ?_)
        · skip
          refine A_iconst C dX4_bears_74 ?_
          refine A_istoren (lv' := [(2, .int (iI 0)), (0, .ref a), (1, .ref b)]) C dX4_bears_75 rfl (by decide) rfl ?_
          refine A_pick [1, 2, 0] rfl ?_
          exact lpX4_bears_76 C  ha hb ((14 - (0 : Int)).toNat + 1) 0 M30 (by omega) (by omega) WM30 EM30
        · skip
          refine A_iconst C dX4_bears_72 ?_
          exact A_zret C (by omega) dX4_bears_73 ⟨0, rfl, by omega, by omega, WM30, EM30⟩
      · skip
        refine A_iconst C dX4_bears_42 ?_
        exact A_zret C (by omega) dX4_bears_43 ⟨0, rfl, by omega, by omega, WM12, EM12⟩
    · skip
      refine A_iconst C dX4_bears_19 ?_
      exact A_zret C (by omega) dX4_bears_20 ⟨0, rfl, by omega, by omega, WM12, EM12⟩

theorem uX4_holdsAlong_6_20_5 : ∀ w ∈ u_ws RX5 TX5 3, w ∈ wsX4_holdsAlong := by decide +kernel
theorem fX4_holdsAlong_6_20_62 : Fl RX4 wsX4_holdsAlong 5 2 62 RX5 TX5 3 := ⟨rfl, by decide, uX4_holdsAlong_6_20_5, by decide +kernel⟩
set_option maxHeartbeats 4000000 in
theorem lpX4_holdsAlong_6_20_5 {p : Program} {l : Launch} {e : Env} {s : State} {m : MethodId} {args : Array Value} {below : List Frame} {meth : Method} {c : Code} {G : xG} (C : Cx p s m args meth c G cX4_holdsAlong 5 RX4 wsX4_holdsAlong (some .long))  {a : Nat} (ha : kd a = 6) {b : Nat} (hb : kd b = 20) {M0 : Mem} : ∀ (n : Nat) (v2 v4 : Int) (M : Mem), (14 - v4).toNat < n → (r64 v2 ∧ 0 ≤ v4 ∧ v4 ≤ 13 ∧ M.1 b 1 + M.1 b 2 ≤ 13) → WF M → Fr [8, 10, 11] M0 M → AW p l e (rmD 5) s m args below meth c G 5 (QQ G below args s ((fun M r M' => ∃ z : Int, r = some (.long (lL z)) ∧ r64 z ∧ WF M' ∧ Fr [8, 10, 11] M M') M0)) M 5 [(0, .ref a), (1, .ref b), (2, .long (lL v2)), (4, .int (iI v4))] [] := by
  intro n
  induction n with
  | zero => intro v2 v4 M hn; exact absurd hn (Nat.not_lt_zero _)
  | succ n ih =>
    intro v2 v4 M hn hi W E
    refine A_iload C dX4_holdsAlong_5 3 rfl ?_
    refine A_iconst C dX4_holdsAlong_7 ?_
    refine A_iadd C dX4_holdsAlong_8 ?_
    refine A_aloadn C dX4_holdsAlong_9 1 rfl rfl ?_
    refine G_getI C W hb rfl rfl rfl rfl rfl fX4_holdsAlong_6_20_62 rfl dX4_holdsAlong_10 (fun z1 ez1 lz1 uz1 => ?_)
    refine A_icmpge C 33 dX4_holdsAlong_13 (by decide) (by omega) (by omega) (fun c2 => ?_) (fun c2 => ?_)
    · skip
      refine A_lloadn C dX4_holdsAlong_33 2 rfl rfl ?_
      exact A_lret C dX4_holdsAlong_34 ⟨v2, rfl, by omega, W, E⟩
    · skip
      refine A_lloadn C dX4_holdsAlong_16 2 rfl rfl ?_
      refine A_aloadn C dX4_holdsAlong_17 0 rfl rfl ?_
      refine A_aloadn C dX4_holdsAlong_18 1 rfl rfl ?_
      refine A_iload C dX4_holdsAlong_19 3 rfl ?_
      refine A_callV C (n := 2) (st := [.long (lL v2)]) (kX4_holdsOfPart_6_20 ha hb (by omega)) gX4_holdsAlong_X4_holdsOfPart rfl (by decide +kernel) ⟨Nat.le_of_ble_eq_true rfl, Nat.le_of_ble_eq_true rfl⟩ ha rfl rfl rfl rfl (Nat.le_of_ble_eq_true rfl) dX4_holdsAlong_21 rfl ⟨W, by omega⟩ (fun r3 M4 h5 => ?_)
      obtain ⟨z7, rfl, lz7, uz7, WM4, FM4⟩ := h5
      have EM4 := Fr.tr E (FM4.mono (c2 := [8, 10, 11]) rfl)
      have t_M4_b_1 : M4.1 b 1 = _ := congrFun (FM4 b (by rw [hb]; rfl)).1 1
      have t_M4_b_2 : M4.1 b 2 = _ := congrFun (FM4 b (by rw [hb]; rfl)).1 2
      refine A_st (st' := [.int (iI z7), .long (lL v2)]) rfl ?_
      refine A_i2l C (by omega) dX4_holdsAlong_24 ?_
      refine A_ladd C dX4_holdsAlong_25 ?_
      refine A_topl (fun z8 rz8 ez8 => ?_)
      refine A_lstoren (lv' := [(2, .long (lL z8)), (0, .ref a), (1, .ref b), (4, .int (iI v4))]) C dX4_holdsAlong_26 rfl (by decide) rfl ?_
      refine A_iinc (lv' := [(4, .int (iI (v4 + 1))), (2, .long (lL z8)), (0, .ref a), (1, .ref b)]) C dX4_holdsAlong_27 3 rfl (by decide) rfl ?_
      refine A_goto C 5 dX4_holdsAlong_30 (by decide) ?_
      refine A_pick [2, 3, 1, 0] rfl ?_
      exact ih z8 (v4 + 1) M4 (by omega) (by omega) WM4 EM4
set_option maxHeartbeats 4000000 in
theorem kX4_holdsAlong_6_20  {a : Nat} (ha : kd a = 6) {b : Nat} (hb : kd b = 20) : Ct yX4_holdsAlong wsX4_holdsAlong 5 [.ref a, .ref b] (fun M => WF M ∧ (M.1 b 1 + M.1 b 2 ≤ 13)) (fun M r M' => ∃ z : Int, r = some (.long (lL z)) ∧ r64 z ∧ WF M' ∧ Fr [8, 10, 11] M M') := by
  refine Ct_of (cc := cX4_holdsAlong) (nL := 5) (rt := (some .long)) (own := RX4) rfl (by decide) rfl (Nat.le_of_ble_eq_true rfl) ?_
  intro p l e s m args below meth c G M0 C W
  obtain ⟨W, hM⟩ := W
  have E : Fr [8, 10, 11] M0 M0 := Fr.rf
  refine A_lv (lv' := [(0, .ref a), (1, .ref b)]) rfl ?_
  refine A_lconst0 C dX4_holdsAlong_0 ?_
  refine A_lstoren (lv' := [(2, .long (lL 0)), (0, .ref a), (1, .ref b)]) C dX4_holdsAlong_1 rfl (by decide) rfl ?_
  refine A_iconst C dX4_holdsAlong_2 ?_
  refine A_istore (lv' := [(4, .int (iI 0)), (2, .long (lL 0)), (0, .ref a), (1, .ref b)]) C dX4_holdsAlong_3 (by decide) rfl ?_
  refine A_pick [2, 3, 1, 0] rfl ?_
  exact lpX4_holdsAlong_6_20_5 C  ha hb ((14 - (0 : Int)).toNat + 1) 0 0 M0 (by omega) (by omega) W E

theorem uX4_holdsAlong_G_21_5 : ∀ w ∈ u_ws RX5 TX5 3, w ∈ wsX4_holdsAlong := by decide +kernel
theorem fX4_holdsAlong_G_21_62 : Fl RX4 wsX4_holdsAlong 5 2 62 RX5 TX5 3 := ⟨rfl, by decide, uX4_holdsAlong_G_21_5, by decide +kernel⟩
set_option maxHeartbeats 4000000 in
theorem lpX4_holdsAlong_G_21_5 {p : Program} {l : Launch} {e : Env} {s : State} {m : MethodId} {args : Array Value} {below : List Frame} {meth : Method} {c : Code} {G : xG} (C : Cx p s m args meth c G cX4_holdsAlong 5 RX4 wsX4_holdsAlong (some .long))  {a : Nat} (ha : (kd a = 6 ∨ kd a = 12)) {b : Nat} (hb : kd b = 21) {M0 : Mem} : ∀ (n : Nat) (v2 v4 : Int) (M : Mem), (14 - v4).toNat < n → (r64 v2 ∧ 0 ≤ v4 ∧ v4 ≤ 13 ∧ M.1 b 1 + M.1 b 2 ≤ 13) → WF M → Fr [8, 10, 11] M0 M → AW p l e (rmD 5) s m args below meth c G 5 (QQ G below args s ((fun M r M' => ∃ z : Int, r = some (.long (lL z)) ∧ r64 z ∧ WF M' ∧ Fr [8, 10, 11] M M') M0)) M 5 [(0, .ref a), (1, .ref b), (2, .long (lL v2)), (4, .int (iI v4))] [] := by
  intro n
  induction n with
  | zero => intro v2 v4 M hn; exact absurd hn (Nat.not_lt_zero _)
  | succ n ih =>
    intro v2 v4 M hn hi W E
    refine A_iload C dX4_holdsAlong_5 3 rfl ?_
    refine A_iconst C dX4_holdsAlong_7 ?_
    refine A_iadd C dX4_holdsAlong_8 ?_
    refine A_aloadn C dX4_holdsAlong_9 1 rfl rfl ?_
    refine G_getI C W hb rfl rfl rfl rfl rfl fX4_holdsAlong_G_21_62 rfl dX4_holdsAlong_10 (fun z1 ez1 lz1 uz1 => ?_)
    refine A_icmpge C 33 dX4_holdsAlong_13 (by decide) (by omega) (by omega) (fun c2 => ?_) (fun c2 => ?_)
    · skip
      refine A_lloadn C dX4_holdsAlong_33 2 rfl rfl ?_
      exact A_lret C dX4_holdsAlong_34 ⟨v2, rfl, by omega, W, E⟩
    · skip
      refine A_lloadn C dX4_holdsAlong_16 2 rfl rfl ?_
      refine A_aloadn C dX4_holdsAlong_17 0 rfl rfl ?_
      refine A_aloadn C dX4_holdsAlong_18 1 rfl rfl ?_
      refine A_iload C dX4_holdsAlong_19 3 rfl ?_
      refine gr_callV C (n := 2) (st := [.long (lL v2)]) (kX4_holdsOfPart_G_21 ha hb (by omega)) gX4_holdsAlong_X4_holdsOfPart rfl (by decide +kernel) ⟨Nat.le_of_ble_eq_true rfl, Nat.le_of_ble_eq_true rfl⟩ ha rfl rfl (Nat.le_of_ble_eq_true rfl) dX4_holdsAlong_21 rfl ⟨W, by omega⟩ (fun r3 M4 h5 => ?_)
      obtain ⟨z7, rfl, lz7, uz7, WM4, FM4⟩ := h5
      have EM4 := Fr.tr E (FM4.mono (c2 := [8, 10, 11]) rfl)
      have t_M4_b_1 : M4.1 b 1 = _ := congrFun (FM4 b (by rw [hb]; rfl)).1 1
      have t_M4_b_2 : M4.1 b 2 = _ := congrFun (FM4 b (by rw [hb]; rfl)).1 2
      refine A_st (st' := [.int (iI z7), .long (lL v2)]) rfl ?_
      refine A_i2l C (by omega) dX4_holdsAlong_24 ?_
      refine A_ladd C dX4_holdsAlong_25 ?_
      refine A_topl (fun z8 rz8 ez8 => ?_)
      refine A_lstoren (lv' := [(2, .long (lL z8)), (0, .ref a), (1, .ref b), (4, .int (iI v4))]) C dX4_holdsAlong_26 rfl (by decide) rfl ?_
      refine A_iinc (lv' := [(4, .int (iI (v4 + 1))), (2, .long (lL z8)), (0, .ref a), (1, .ref b)]) C dX4_holdsAlong_27 3 rfl (by decide) rfl ?_
      refine A_goto C 5 dX4_holdsAlong_30 (by decide) ?_
      refine A_pick [2, 3, 1, 0] rfl ?_
      exact ih z8 (v4 + 1) M4 (by omega) (by omega) WM4 EM4
set_option maxHeartbeats 4000000 in
theorem kX4_holdsAlong_G_21  {a : Nat} (ha : (kd a = 6 ∨ kd a = 12)) {b : Nat} (hb : kd b = 21) : Ct yX4_holdsAlong wsX4_holdsAlong 5 [.ref a, .ref b] (fun M => WF M ∧ (M.1 b 1 + M.1 b 2 ≤ 13)) (fun M r M' => ∃ z : Int, r = some (.long (lL z)) ∧ r64 z ∧ WF M' ∧ Fr [8, 10, 11] M M') := by
  refine Ct_of (cc := cX4_holdsAlong) (nL := 5) (rt := (some .long)) (own := RX4) rfl (by decide) rfl (Nat.le_of_ble_eq_true rfl) ?_
  intro p l e s m args below meth c G M0 C W
  obtain ⟨W, hM⟩ := W
  have E : Fr [8, 10, 11] M0 M0 := Fr.rf
  refine A_lv (lv' := [(0, .ref a), (1, .ref b)]) rfl ?_
  refine A_lconst0 C dX4_holdsAlong_0 ?_
  refine A_lstoren (lv' := [(2, .long (lL 0)), (0, .ref a), (1, .ref b)]) C dX4_holdsAlong_1 rfl (by decide) rfl ?_
  refine A_iconst C dX4_holdsAlong_2 ?_
  refine A_istore (lv' := [(4, .int (iI 0)), (2, .long (lL 0)), (0, .ref a), (1, .ref b)]) C dX4_holdsAlong_3 (by decide) rfl ?_
  refine A_pick [2, 3, 1, 0] rfl ?_
  exact lpX4_holdsAlong_G_21_5 C  ha hb ((14 - (0 : Int)).toNat + 1) 0 0 M0 (by omega) (by omega) W E

theorem uX4_drivesAlong_6_20_5 : ∀ w ∈ u_ws RX5 TX5 3, w ∈ wsX4_drivesAlong := by decide +kernel
theorem uX4_drivesAlong_6_20_4 : ∀ w ∈ u_ws RX4 TX4 2, w ∈ wsX4_drivesAlong := by decide +kernel
theorem fX4_drivesAlong_6_20_62 : Fl RX4 wsX4_drivesAlong 5 2 62 RX5 TX5 3 := ⟨rfl, by decide, uX4_drivesAlong_6_20_5, by decide +kernel⟩
theorem fX4_drivesAlong_6_20_11 : Fl RX4 wsX4_drivesAlong 4 0 11 RX4 TX4 2 := ⟨rfl, by decide, uX4_drivesAlong_6_20_4, by decide +kernel⟩
theorem fX4_drivesAlong_6_20_74 : Fl RX4 wsX4_drivesAlong 5 1 74 RX5 TX5 3 := ⟨rfl, by decide, uX4_drivesAlong_6_20_5, by decide +kernel⟩
theorem fX4_drivesAlong_6_20_71 : Fl RX4 wsX4_drivesAlong 5 0 71 RX5 TX5 3 := ⟨rfl, by decide, uX4_drivesAlong_6_20_5, by decide +kernel⟩
set_option maxHeartbeats 4000000 in
theorem lpX4_drivesAlong_6_20_5 {p : Program} {l : Launch} {e : Env} {s : State} {m : MethodId} {args : Array Value} {below : List Frame} {meth : Method} {c : Code} {G : xG} (C : Cx p s m args meth c G cX4_drivesAlong 7 RX4 wsX4_drivesAlong (some .long))  {a : Nat} (ha : kd a = 6) {b : Nat} (hb : kd b = 20) {M0 : Mem} : ∀ (n : Nat) (v2 v4 : Int) (M : Mem), (14 - v4).toNat < n → (r64 v2 ∧ 0 ≤ v4 ∧ v4 ≤ 13 ∧ M.1 b 1 + M.1 b 2 ≤ 13) → WF M → Fr [8, 10, 11] M0 M → AW p l e (rmD 5) s m args below meth c G 7 (QQ G below args s ((fun M r M' => ∃ z : Int, r = some (.long (lL z)) ∧ r64 z ∧ WF M' ∧ Fr [8, 10, 11] M M') M0)) M 5 [(0, .ref a), (1, .ref b), (2, .long (lL v2)), (4, .int (iI v4))] [] := by
  intro n
  induction n with
  | zero => intro v2 v4 M hn; exact absurd hn (Nat.not_lt_zero _)
  | succ n ih =>
    intro v2 v4 M hn hi W E
    refine A_iload C dX4_drivesAlong_5 3 rfl ?_
    refine A_iconst C dX4_drivesAlong_7 ?_
    refine A_iadd C dX4_drivesAlong_8 ?_
    refine A_aloadn C dX4_drivesAlong_9 1 rfl rfl ?_
    refine G_getI C W hb rfl rfl rfl rfl rfl fX4_drivesAlong_6_20_62 rfl dX4_drivesAlong_10 (fun z1 ez1 lz1 uz1 => ?_)
    refine A_icmpge C 90 dX4_drivesAlong_13 (by decide) (by omega) (by omega) (fun c2 => ?_) (fun c2 => ?_)
    · skip
      refine A_lloadn C dX4_drivesAlong_90 2 rfl rfl ?_
      exact A_lret C dX4_drivesAlong_91 ⟨v2, rfl, by omega, W, E⟩
    · skip
      refine A_aloadn C dX4_drivesAlong_16 0 rfl rfl ?_
      refine G_getR C W ha rfl rfl rfl rfl fX4_drivesAlong_6_20_11 dX4_drivesAlong_17 (fun b3 hb3 qb3 => ?_)
      refine A_aloadn C dX4_drivesAlong_20 1 rfl rfl ?_
      refine G_getI C W hb rfl rfl rfl rfl rfl fX4_drivesAlong_6_20_74 rfl dX4_drivesAlong_21 (fun z4 ez4 lz4 uz4 => ?_)
      refine A_iload C dX4_drivesAlong_24 3 rfl ?_
      refine A_iadd C dX4_drivesAlong_26 ?_
      refine G_aald C W qb3 (by omega) (by omega) dX4_drivesAlong_27 (fun b5 hb5 qb5 => ?_)
      refine A_astore (lv' := [(5, .ref b5), (0, .ref a), (1, .ref b), (2, .long (lL v2)), (4, .int (iI v4))]) C dX4_drivesAlong_28 (by decide) rfl ?_
      refine A_aload C dX4_drivesAlong_30 0 rfl ?_
      refine A_callV C (n := 0) (st := []) (kX1_reckon qb5) gX4_drivesAlong_X1_reckon rfl (by decide +kernel) ⟨Nat.le_of_ble_eq_true rfl, Nat.le_of_ble_eq_true rfl⟩ qb5 rfl rfl rfl rfl (Nat.le_of_ble_eq_true rfl) dX4_drivesAlong_32 rfl W (fun r6 M7 h8 => ?_)
      obtain ⟨rfl, WM7, FM7⟩ := h8
      have EM7 := Fr.tr E (FM7.mono (c2 := [8, 10, 11]) rfl)
      have t_M7_b_1 : M7.1 b 1 = _ := congrFun (FM7 b (by rw [hb]; rfl)).1 1
      have t_M7_b_2 : M7.1 b 2 = _ := congrFun (FM7 b (by rw [hb]; rfl)).1 2
      refine A_st (st' := []) rfl ?_
      refine A_aloadn C dX4_drivesAlong_35 2 rfl rfl ?_
      refine G_getR C WM7 hb rfl rfl rfl rfl fX4_drivesAlong_6_20_71 dX4_drivesAlong_36 (fun b10 hb10 qb10 => ?_)
      refine A_iload C dX4_drivesAlong_39 4 rfl ?_
      refine G_iald C WM7 qb10 rfl rfl (by decide) (fun _ => rfl) (by omega) (by omega) dX4_drivesAlong_41 (fun z11 ez11 lz11 uz11 => ?_)
      refine A_aloadn C dX4_drivesAlong_42 2 rfl rfl ?_
      refine G_getR C WM7 hb rfl rfl rfl rfl fX4_drivesAlong_6_20_71 dX4_drivesAlong_43 (fun b12 hb12 qb12 => ?_)
      refine A_iload C dX4_drivesAlong_46 4 rfl ?_
      refine A_iconst C dX4_drivesAlong_48 ?_
      refine A_iadd C dX4_drivesAlong_49 ?_
      refine G_iald C WM7 qb12 rfl rfl (by decide) (fun _ => rfl) (by omega) (by omega) dX4_drivesAlong_50 (fun z13 ez13 lz13 uz13 => ?_)
      refine A_max C (by omega) (by omega) (by decide +kernel) (by decide +kernel) (by decide +kernel) (by decide +kernel) (Nat.le_of_ble_eq_true rfl) (Nat.le_of_ble_eq_true rfl) dX4_drivesAlong_51 (fun z14 ez14 lz14 uz14 => ?_)
      refine A_istore (lv' := [(6, .int (iI z14)), (5, .ref b5), (0, .ref a), (1, .ref b), (2, .long (lL v2)), (4, .int (iI v4))]) C dX4_drivesAlong_54 (by decide) rfl ?_
      refine A_lloadn C dX4_drivesAlong_56 4 rfl rfl ?_
      refine A_aload C dX4_drivesAlong_57 1 rfl ?_
      refine A_iload C dX4_drivesAlong_59 0 rfl ?_
      refine A_aloadn C dX4_drivesAlong_61 3 rfl rfl ?_
      refine G_getR C WM7 hb rfl rfl rfl rfl fX4_drivesAlong_6_20_71 dX4_drivesAlong_62 (fun b15 hb15 qb15 => ?_)
      refine A_iload C dX4_drivesAlong_65 5 rfl ?_
      refine G_iald C WM7 qb15 rfl rfl (by decide) (fun _ => rfl) (by omega) (by omega) dX4_drivesAlong_67 (fun z16 ez16 lz16 uz16 => ?_)
      refine A_aloadn C dX4_drivesAlong_68 3 rfl rfl ?_
      refine G_getR C WM7 hb rfl rfl rfl rfl fX4_drivesAlong_6_20_71 dX4_drivesAlong_69 (fun b17 hb17 qb17 => ?_)
      refine A_iload C dX4_drivesAlong_72 5 rfl ?_
      refine A_iconst C dX4_drivesAlong_74 ?_
      refine A_iadd C dX4_drivesAlong_75 ?_
      refine G_iald C WM7 qb17 rfl rfl (by decide) (fun _ => rfl) (by omega) (by omega) dX4_drivesAlong_76 (fun z18 ez18 lz18 uz18 => ?_)
      refine A_isub C dX4_drivesAlong_77 ?_
      refine A_callV C (n := 2) (st := [.long (lL v2)]) (kX1_drivesFrom qb5 (by omega) (by omega)) gX4_drivesAlong_X1_drivesFrom rfl (by decide +kernel) ⟨Nat.le_of_ble_eq_true rfl, Nat.le_of_ble_eq_true rfl⟩ qb5 rfl rfl rfl rfl (Nat.le_of_ble_eq_true rfl) dX4_drivesAlong_78 rfl WM7 (fun r19 M20 h21 => ?_)
      obtain ⟨z23, rfl, lz23, uz23, WM20, FM20⟩ := h21
      have EM20 := Fr.tr EM7 (FM20.mono (c2 := [8, 10, 11]) rfl)
      have t_M20_b_1 : M20.1 b 1 = _ := congrFun (FM20 b (by rw [hb]; rfl)).1 1
      have t_M20_b_2 : M20.1 b 2 = _ := congrFun (FM20 b (by rw [hb]; rfl)).1 2
      refine A_st (st' := [.int (iI z23), .long (lL v2)]) rfl ?_
      refine A_i2l C (by omega) dX4_drivesAlong_81 ?_
      refine A_ladd C dX4_drivesAlong_82 ?_
      refine A_topl (fun z24 rz24 ez24 => ?_)
      refine A_lstoren (lv' := [(2, .long (lL z24)), (6, .int (iI z14)), (5, .ref b5), (0, .ref a), (1, .ref b), (4, .int (iI v4))]) C dX4_drivesAlong_83 rfl (by decide) rfl ?_
      refine A_iinc (lv' := [(4, .int (iI (v4 + 1))), (2, .long (lL z24)), (6, .int (iI z14)), (5, .ref b5), (0, .ref a), (1, .ref b)]) C dX4_drivesAlong_84 5 rfl (by decide) rfl ?_
      refine A_goto C 5 dX4_drivesAlong_87 (by decide) ?_
      refine A_pick [4, 5, 1, 0] rfl ?_
      exact ih z24 (v4 + 1) M20 (by omega) (by omega) WM20 EM20
set_option maxHeartbeats 4000000 in
theorem kX4_drivesAlong_6_20  {a : Nat} (ha : kd a = 6) {b : Nat} (hb : kd b = 20) : Ct yX4_drivesAlong wsX4_drivesAlong 5 [.ref a, .ref b] (fun M => WF M ∧ (M.1 b 1 + M.1 b 2 ≤ 13)) (fun M r M' => ∃ z : Int, r = some (.long (lL z)) ∧ r64 z ∧ WF M' ∧ Fr [8, 10, 11] M M') := by
  refine Ct_of (cc := cX4_drivesAlong) (nL := 7) (rt := (some .long)) (own := RX4) rfl (by decide) rfl (Nat.le_of_ble_eq_true rfl) ?_
  intro p l e s m args below meth c G M0 C W
  obtain ⟨W, hM⟩ := W
  have E : Fr [8, 10, 11] M0 M0 := Fr.rf
  refine A_lv (lv' := [(0, .ref a), (1, .ref b)]) rfl ?_
  refine A_lconst0 C dX4_drivesAlong_0 ?_
  refine A_lstoren (lv' := [(2, .long (lL 0)), (0, .ref a), (1, .ref b)]) C dX4_drivesAlong_1 rfl (by decide) rfl ?_
  refine A_iconst C dX4_drivesAlong_2 ?_
  refine A_istore (lv' := [(4, .int (iI 0)), (2, .long (lL 0)), (0, .ref a), (1, .ref b)]) C dX4_drivesAlong_3 (by decide) rfl ?_
  refine A_pick [2, 3, 1, 0] rfl ?_
  exact lpX4_drivesAlong_6_20_5 C  ha hb ((14 - (0 : Int)).toNat + 1) 0 0 M0 (by omega) (by omega) W E

theorem uX4_drivesAlong_G_21_5 : ∀ w ∈ u_ws RX5 TX5 3, w ∈ wsX4_drivesAlong := by decide +kernel
theorem uX4_drivesAlong_G_21_4 : ∀ w ∈ u_ws RX4 TX4 2, w ∈ wsX4_drivesAlong := by decide +kernel
theorem fX4_drivesAlong_G_21_62 : Fl RX4 wsX4_drivesAlong 5 2 62 RX5 TX5 3 := ⟨rfl, by decide, uX4_drivesAlong_G_21_5, by decide +kernel⟩
theorem fX4_drivesAlong_G_21_11 : Fl RX4 wsX4_drivesAlong 4 0 11 RX4 TX4 2 := ⟨rfl, by decide, uX4_drivesAlong_G_21_4, by decide +kernel⟩
theorem fX4_drivesAlong_G_21_74 : Fl RX4 wsX4_drivesAlong 5 1 74 RX5 TX5 3 := ⟨rfl, by decide, uX4_drivesAlong_G_21_5, by decide +kernel⟩
theorem fX4_drivesAlong_G_21_71 : Fl RX4 wsX4_drivesAlong 5 0 71 RX5 TX5 3 := ⟨rfl, by decide, uX4_drivesAlong_G_21_5, by decide +kernel⟩
set_option maxHeartbeats 4000000 in
theorem lpX4_drivesAlong_G_21_5 {p : Program} {l : Launch} {e : Env} {s : State} {m : MethodId} {args : Array Value} {below : List Frame} {meth : Method} {c : Code} {G : xG} (C : Cx p s m args meth c G cX4_drivesAlong 7 RX4 wsX4_drivesAlong (some .long))  {a : Nat} (ha : (kd a = 6 ∨ kd a = 12)) {b : Nat} (hb : kd b = 21) {M0 : Mem} : ∀ (n : Nat) (v2 v4 : Int) (M : Mem), (14 - v4).toNat < n → (r64 v2 ∧ 0 ≤ v4 ∧ v4 ≤ 13 ∧ M.1 b 1 + M.1 b 2 ≤ 13) → WF M → Fr [8, 10, 11] M0 M → AW p l e (rmD 5) s m args below meth c G 7 (QQ G below args s ((fun M r M' => ∃ z : Int, r = some (.long (lL z)) ∧ r64 z ∧ WF M' ∧ Fr [8, 10, 11] M M') M0)) M 5 [(0, .ref a), (1, .ref b), (2, .long (lL v2)), (4, .int (iI v4))] [] := by
  intro n
  induction n with
  | zero => intro v2 v4 M hn; exact absurd hn (Nat.not_lt_zero _)
  | succ n ih =>
    intro v2 v4 M hn hi W E
    refine A_iload C dX4_drivesAlong_5 3 rfl ?_
    refine A_iconst C dX4_drivesAlong_7 ?_
    refine A_iadd C dX4_drivesAlong_8 ?_
    refine A_aloadn C dX4_drivesAlong_9 1 rfl rfl ?_
    refine G_getI C W hb rfl rfl rfl rfl rfl fX4_drivesAlong_G_21_62 rfl dX4_drivesAlong_10 (fun z1 ez1 lz1 uz1 => ?_)
    refine A_icmpge C 90 dX4_drivesAlong_13 (by decide) (by omega) (by omega) (fun c2 => ?_) (fun c2 => ?_)
    · skip
      refine A_lloadn C dX4_drivesAlong_90 2 rfl rfl ?_
      exact A_lret C dX4_drivesAlong_91 ⟨v2, rfl, by omega, W, E⟩
    · skip
      refine A_aloadn C dX4_drivesAlong_16 0 rfl rfl ?_
      obtain ⟨b3, hb3, qb3⟩ := gr_cols W ha
      refine gr_getR C ha hb3 fX4_drivesAlong_G_21_11 dX4_drivesAlong_17 ?_
      refine A_aloadn C dX4_drivesAlong_20 1 rfl rfl ?_
      refine G_getI C W hb rfl rfl rfl rfl rfl fX4_drivesAlong_G_21_74 rfl dX4_drivesAlong_21 (fun z4 ez4 lz4 uz4 => ?_)
      refine A_iload C dX4_drivesAlong_24 3 rfl ?_
      refine A_iadd C dX4_drivesAlong_26 ?_
      refine G_aald C W qb3 (by omega) (by omega) dX4_drivesAlong_27 (fun b5 hb5 qb5 => ?_)
      refine A_astore (lv' := [(5, .ref b5), (0, .ref a), (1, .ref b), (2, .long (lL v2)), (4, .int (iI v4))]) C dX4_drivesAlong_28 (by decide) rfl ?_
      refine A_aload C dX4_drivesAlong_30 0 rfl ?_
      refine A_callV C (n := 0) (st := []) (kX1_reckon qb5) gX4_drivesAlong_X1_reckon rfl (by decide +kernel) ⟨Nat.le_of_ble_eq_true rfl, Nat.le_of_ble_eq_true rfl⟩ qb5 rfl rfl rfl rfl (Nat.le_of_ble_eq_true rfl) dX4_drivesAlong_32 rfl W (fun r6 M7 h8 => ?_)
      obtain ⟨rfl, WM7, FM7⟩ := h8
      have EM7 := Fr.tr E (FM7.mono (c2 := [8, 10, 11]) rfl)
      have t_M7_b_1 : M7.1 b 1 = _ := congrFun (FM7 b (by rw [hb]; rfl)).1 1
      have t_M7_b_2 : M7.1 b 2 = _ := congrFun (FM7 b (by rw [hb]; rfl)).1 2
      refine A_st (st' := []) rfl ?_
      refine A_aloadn C dX4_drivesAlong_35 2 rfl rfl ?_
      refine G_getR C WM7 hb rfl rfl rfl rfl fX4_drivesAlong_G_21_71 dX4_drivesAlong_36 (fun b10 hb10 qb10 => ?_)
      refine A_iload C dX4_drivesAlong_39 4 rfl ?_
      refine G_iald C WM7 qb10 rfl rfl (by decide) (fun _ => rfl) (by omega) (by omega) dX4_drivesAlong_41 (fun z11 ez11 lz11 uz11 => ?_)
      refine A_aloadn C dX4_drivesAlong_42 2 rfl rfl ?_
      refine G_getR C WM7 hb rfl rfl rfl rfl fX4_drivesAlong_G_21_71 dX4_drivesAlong_43 (fun b12 hb12 qb12 => ?_)
      refine A_iload C dX4_drivesAlong_46 4 rfl ?_
      refine A_iconst C dX4_drivesAlong_48 ?_
      refine A_iadd C dX4_drivesAlong_49 ?_
      refine G_iald C WM7 qb12 rfl rfl (by decide) (fun _ => rfl) (by omega) (by omega) dX4_drivesAlong_50 (fun z13 ez13 lz13 uz13 => ?_)
      refine A_max C (by omega) (by omega) (by decide +kernel) (by decide +kernel) (by decide +kernel) (by decide +kernel) (Nat.le_of_ble_eq_true rfl) (Nat.le_of_ble_eq_true rfl) dX4_drivesAlong_51 (fun z14 ez14 lz14 uz14 => ?_)
      refine A_istore (lv' := [(6, .int (iI z14)), (5, .ref b5), (0, .ref a), (1, .ref b), (2, .long (lL v2)), (4, .int (iI v4))]) C dX4_drivesAlong_54 (by decide) rfl ?_
      refine A_lloadn C dX4_drivesAlong_56 4 rfl rfl ?_
      refine A_aload C dX4_drivesAlong_57 1 rfl ?_
      refine A_iload C dX4_drivesAlong_59 0 rfl ?_
      refine A_aloadn C dX4_drivesAlong_61 3 rfl rfl ?_
      refine G_getR C WM7 hb rfl rfl rfl rfl fX4_drivesAlong_G_21_71 dX4_drivesAlong_62 (fun b15 hb15 qb15 => ?_)
      refine A_iload C dX4_drivesAlong_65 5 rfl ?_
      refine G_iald C WM7 qb15 rfl rfl (by decide) (fun _ => rfl) (by omega) (by omega) dX4_drivesAlong_67 (fun z16 ez16 lz16 uz16 => ?_)
      refine A_aloadn C dX4_drivesAlong_68 3 rfl rfl ?_
      refine G_getR C WM7 hb rfl rfl rfl rfl fX4_drivesAlong_G_21_71 dX4_drivesAlong_69 (fun b17 hb17 qb17 => ?_)
      refine A_iload C dX4_drivesAlong_72 5 rfl ?_
      refine A_iconst C dX4_drivesAlong_74 ?_
      refine A_iadd C dX4_drivesAlong_75 ?_
      refine G_iald C WM7 qb17 rfl rfl (by decide) (fun _ => rfl) (by omega) (by omega) dX4_drivesAlong_76 (fun z18 ez18 lz18 uz18 => ?_)
      refine A_isub C dX4_drivesAlong_77 ?_
      refine A_callV C (n := 2) (st := [.long (lL v2)]) (kX1_drivesFrom qb5 (by omega) (by omega)) gX4_drivesAlong_X1_drivesFrom rfl (by decide +kernel) ⟨Nat.le_of_ble_eq_true rfl, Nat.le_of_ble_eq_true rfl⟩ qb5 rfl rfl rfl rfl (Nat.le_of_ble_eq_true rfl) dX4_drivesAlong_78 rfl WM7 (fun r19 M20 h21 => ?_)
      obtain ⟨z23, rfl, lz23, uz23, WM20, FM20⟩ := h21
      have EM20 := Fr.tr EM7 (FM20.mono (c2 := [8, 10, 11]) rfl)
      have t_M20_b_1 : M20.1 b 1 = _ := congrFun (FM20 b (by rw [hb]; rfl)).1 1
      have t_M20_b_2 : M20.1 b 2 = _ := congrFun (FM20 b (by rw [hb]; rfl)).1 2
      refine A_st (st' := [.int (iI z23), .long (lL v2)]) rfl ?_
      refine A_i2l C (by omega) dX4_drivesAlong_81 ?_
      refine A_ladd C dX4_drivesAlong_82 ?_
      refine A_topl (fun z24 rz24 ez24 => ?_)
      refine A_lstoren (lv' := [(2, .long (lL z24)), (6, .int (iI z14)), (5, .ref b5), (0, .ref a), (1, .ref b), (4, .int (iI v4))]) C dX4_drivesAlong_83 rfl (by decide) rfl ?_
      refine A_iinc (lv' := [(4, .int (iI (v4 + 1))), (2, .long (lL z24)), (6, .int (iI z14)), (5, .ref b5), (0, .ref a), (1, .ref b)]) C dX4_drivesAlong_84 5 rfl (by decide) rfl ?_
      refine A_goto C 5 dX4_drivesAlong_87 (by decide) ?_
      refine A_pick [4, 5, 1, 0] rfl ?_
      exact ih z24 (v4 + 1) M20 (by omega) (by omega) WM20 EM20
set_option maxHeartbeats 4000000 in
theorem kX4_drivesAlong_G_21  {a : Nat} (ha : (kd a = 6 ∨ kd a = 12)) {b : Nat} (hb : kd b = 21) : Ct yX4_drivesAlong wsX4_drivesAlong 5 [.ref a, .ref b] (fun M => WF M ∧ (M.1 b 1 + M.1 b 2 ≤ 13)) (fun M r M' => ∃ z : Int, r = some (.long (lL z)) ∧ r64 z ∧ WF M' ∧ Fr [8, 10, 11] M M') := by
  refine Ct_of (cc := cX4_drivesAlong) (nL := 7) (rt := (some .long)) (own := RX4) rfl (by decide) rfl (Nat.le_of_ble_eq_true rfl) ?_
  intro p l e s m args below meth c G M0 C W
  obtain ⟨W, hM⟩ := W
  have E : Fr [8, 10, 11] M0 M0 := Fr.rf
  refine A_lv (lv' := [(0, .ref a), (1, .ref b)]) rfl ?_
  refine A_lconst0 C dX4_drivesAlong_0 ?_
  refine A_lstoren (lv' := [(2, .long (lL 0)), (0, .ref a), (1, .ref b)]) C dX4_drivesAlong_1 rfl (by decide) rfl ?_
  refine A_iconst C dX4_drivesAlong_2 ?_
  refine A_istore (lv' := [(4, .int (iI 0)), (2, .long (lL 0)), (0, .ref a), (1, .ref b)]) C dX4_drivesAlong_3 (by decide) rfl ?_
  refine A_pick [2, 3, 1, 0] rfl ?_
  exact lpX4_drivesAlong_G_21_5 C  ha hb ((14 - (0 : Int)).toNat + 1) 0 0 M0 (by omega) (by omega) W E
