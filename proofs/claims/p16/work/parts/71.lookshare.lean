theorem wX7_lookIO : ∀ w ∈ (vx_atS RX7 130 nIO nUp).filter goodWord, w ∈ wsX7_look := fun w h => List.mem_cons_of_mem _ (List.mem_append_left _ (List.mem_append_right _ h))
theorem wX7_lookNS : ∀ w ∈ (vy_atS RX7 137 nNS 13 rxNS nUp).filter goodWord, w ∈ wsX7_look := fun w h => List.mem_cons_of_mem _ (List.mem_append_right _ h)
theorem wX7_shareNS : ∀ w ∈ (vy_atS RX7 137 nNS 13 rxNS nUp).filter goodWord, w ∈ wsX7_share := fun w h => List.mem_cons_of_mem _ (List.mem_append_right _ h)
theorem uX7_look_7 : ∀ w ∈ u_ws RX7 TX7 15, w ∈ wsX7_look := by decide +kernel
theorem uX7_look_4 : ∀ w ∈ u_ws RX4 TX4 2, w ∈ wsX7_look := by decide +kernel
theorem uX7_look_1 : ∀ w ∈ u_ws RX1 TX1 9, w ∈ wsX7_look := by decide +kernel
theorem fX7_look_21 : Fl RX7 wsX7_look 7 1 21 RX7 TX7 15 := ⟨rfl, by decide, uX7_look_7, by decide +kernel⟩
theorem fX7_look_110 : Fl RX7 wsX7_look 4 0 110 RX4 TX4 2 := ⟨rfl, by decide, uX7_look_4, by decide +kernel⟩
theorem fX7_look_114 : Fl RX7 wsX7_look 1 1 114 RX1 TX1 9 := ⟨rfl, by decide, uX7_look_1, by decide +kernel⟩
theorem fX7_look_138 : Fl RX7 wsX7_look 1 2 138 RX1 TX1 9 := ⟨rfl, by decide, uX7_look_1, by decide +kernel⟩
theorem fX7_look_141 : Fl RX7 wsX7_look 1 3 141 RX1 TX1 9 := ⟨rfl, by decide, uX7_look_1, by decide +kernel⟩
theorem fX7_look_144 : Fl RX7 wsX7_look 1 4 144 RX1 TX1 9 := ⟨rfl, by decide, uX7_look_1, by decide +kernel⟩
set_option maxHeartbeats 4000000 in
theorem kX7_look  {a : Nat} (ha : kd a = 0) {x1 : Int} {x2 : Int} (hx1 : (-2147483648 : Int) ≤ x1 ∧ x1 ≤ 2147483647) (hx2 : (-2147483648 : Int) ≤ x2 ∧ x2 ≤ 2147483647) : CtX yX7_look wsX7_look 8 [.ref a, .int (iI x1), .int (iI x2)] (fun M => WF M) (fun M r M' => ∃ z : Int, r = some (.int (iI z)) ∧ (-2147483648 : Int) ≤ z ∧ z ≤ 2147483647 ∧ WF M' ∧ Fr [] M M') (fun M E M' => (E = nIO ∨ E = nNS) ∧ WF M' ∧ Fr [] M M') := by
  refine CtX_of (cc := cX7_look) (nL := 4) (rt := (some .int)) (own := RX7) rfl (by decide) rfl (Nat.le_of_ble_eq_true rfl) ?_
  intro p l e s m args below meth c G M0 C hl0 hT ht W
  have E : Fr [] M0 M0 := Fr.rf
  refine A_lv (lv' := [(0, .ref a), (1, .int (iI x1)), (2, .int (iI x2))]) rfl ?_
  refine A_aloadn C dX7_look_0 0 rfl rfl ?_
  refine G_getU C W ha rfl rfl rfl rfl uq_6 fX7_look_21 dX7_look_1 ?_
  refine A_iloadn C dX7_look_4 1 rfl rfl ?_
  refine A_callV C (n := 1) (st := []) (kX4_has (Or.inl kd_6) (by omega)) gX7_look_X4_has rfl (by decide +kernel) ⟨Nat.le_of_ble_eq_true rfl, Nat.le_of_ble_eq_true rfl⟩ kd_6 rfl rfl rfl rfl (Nat.le_of_ble_eq_true rfl) dX7_look_5 rfl W (fun r1 M2 h3 => ?_)
  obtain ⟨z5, rfl, lz5, uz5, WM2, FM2, xx4⟩ := h3
  have EM2 := Fr.tr E (FM2.mono (c2 := []) rfl)
  refine A_st (st' := [.int (iI z5)]) rfl ?_
  refine A_ifne C 21 dX7_look_8 (by decide) (by omega) (fun c6 => ?_) (fun c6 => ?_)
  · skip
    refine A_iloadn C dX7_look_21 2 rfl rfl ?_
    refine A_iconst C dX7_look_22 ?_
    refine A_iconst C dX7_look_23 ?_
    refine A_callS C (n := 3) (st := []) (kX7_within  (by omega) (by omega) (by omega)) gX7_look_X7_within rfl (by decide +kernel) ⟨Nat.le_of_ble_eq_true rfl, Nat.le_of_ble_eq_true rfl⟩ rfl (Nat.le_of_ble_eq_true rfl) dX7_look_24 rfl WM2 (fun r7 M8 h9 => ?_)
    obtain ⟨z11, rfl, lz11, uz11, WM8, FM8, xx10⟩ := h9
    have EM8 := Fr.tr EM2 (FM8.mono (c2 := []) rfl)
    refine A_st (st' := [.int (iI z11)]) rfl ?_
    refine A_ifne C 40 dX7_look_27 (by decide) (by omega) (fun c12 => ?_) (fun c12 => ?_)
    · skip
      refine A_aloadn C dX7_look_40 0 rfl rfl ?_
      refine G_getU C WM8 ha rfl rfl rfl rfl uq_6 fX7_look_21 dX7_look_41 ?_
      refine G_getR C WM8 kd_6 rfl rfl rfl rfl fX7_look_110 dX7_look_44 (fun b13 hb13 qb13 => ?_)
      refine A_iloadn C dX7_look_47 1 rfl rfl ?_
      refine G_aald C WM8 qb13 (by omega) (by omega) dX7_look_48 (fun b14 hb14 qb14 => ?_)
      refine A_astoren (lv' := [(3, .ref b14), (0, .ref a), (1, .int (iI x1)), (2, .int (iI x2))]) C dX7_look_49 rfl (by decide) rfl ?_
      refine A_iloadn C dX7_look_50 3 rfl rfl ?_
      rcases (show (x2 < 0 ∨ 2 < x2) ∨ x2 = 0 ∨ x2 = 1 ∨ x2 = 2 by omega) with c15 | c15 | c15 | c15
      · skip
        refine A_tabOut C 91 dX7_look_51 (by omega) c15 (by decide) ?_
        refine A_aloadn C dX7_look_91 0 rfl rfl ?_
        refine G_getI C WM8 qb14 rfl rfl rfl rfl rfl fX7_look_114 rfl dX7_look_92 (fun z16 ez16 lz16 uz16 => ?_)
        exact A_xiret C dX7_look_95 ⟨z16, rfl, by omega, by omega, WM8, EM8⟩
      · skip
        refine A_tabIn C 0 76 dX7_look_51 c15 (by decide) (by decide) (by decide) rfl (by decide) ?_
        refine A_aloadn C dX7_look_76 0 rfl rfl ?_
        refine G_getI C WM8 qb14 rfl rfl rfl rfl rfl fX7_look_138 rfl dX7_look_77 (fun z17 ez17 lz17 uz17 => ?_)
        exact A_xiret C dX7_look_80 ⟨z17, rfl, by omega, by omega, WM8, EM8⟩
      · skip
        refine A_tabIn C 1 81 dX7_look_51 c15 (by decide) (by decide) (by decide) rfl (by decide) ?_
        refine A_aloadn C dX7_look_81 0 rfl rfl ?_
        refine G_getI C WM8 qb14 rfl rfl rfl rfl rfl fX7_look_141 rfl dX7_look_82 (fun z18 ez18 lz18 uz18 => ?_)
        exact A_xiret C dX7_look_85 ⟨z18, rfl, by omega, by omega, WM8, EM8⟩
      · skip
        refine A_tabIn C 2 86 dX7_look_51 c15 (by decide) (by decide) (by decide) rfl (by decide) ?_
        refine A_aloadn C dX7_look_86 0 rfl rfl ?_
        refine G_getI C WM8 qb14 rfl rfl rfl rfl rfl fX7_look_144 rfl dX7_look_87 (fun z19 ez19 lz19 uz19 => ?_)
        exact A_xiret C dX7_look_90 ⟨z19, rfl, by omega, by omega, WM8, EM8⟩
    · skip
      exact A_throwNS C hl0 hT ht hT.2.1.2.1 (by decide +kernel) (by decide +kernel) wX7_lookNS ⟨by decide, by decide, by decide, by decide⟩ dX7_look_30 dX7_look_33 dX7_look_34 dX7_look_36 dX7_look_39 ⟨Or.inr rfl, WM8, EM8⟩
  · skip
    exact A_throwIO C hl0 hT ht hT.2.1.1 (by decide +kernel) (by decide +kernel) wX7_lookIO ⟨by decide, by decide, by decide, by decide⟩ dX7_look_11 dX7_look_14 dX7_look_15 dX7_look_17 dX7_look_20 ⟨Or.inl rfl, WM2, EM2⟩

theorem uX4_bears_j_5 : ∀ w ∈ u_ws RX5 TX5 3, w ∈ wsX4_bears := by decide +kernel
theorem uX4_bears_j_4 : ∀ w ∈ u_ws RX4 TX4 2, w ∈ wsX4_bears := by decide +kernel
theorem uX4_bears_j_1 : ∀ w ∈ u_ws RX1 TX1 9, w ∈ wsX4_bears := by decide +kernel
theorem fX4_bears_j_62 : Fl RX4 wsX4_bears 5 2 62 RX5 TX5 3 := ⟨rfl, by decide, uX4_bears_j_5, by decide +kernel⟩
theorem fX4_bears_j_17 : Fl RX4 wsX4_bears 4 1 17 RX4 TX4 2 := ⟨rfl, by decide, uX4_bears_j_4, by decide +kernel⟩
theorem fX4_bears_j_71 : Fl RX4 wsX4_bears 5 0 71 RX5 TX5 3 := ⟨rfl, by decide, uX4_bears_j_5, by decide +kernel⟩
theorem fX4_bears_j_11 : Fl RX4 wsX4_bears 4 0 11 RX4 TX4 2 := ⟨rfl, by decide, uX4_bears_j_4, by decide +kernel⟩
theorem fX4_bears_j_74 : Fl RX4 wsX4_bears 5 1 74 RX5 TX5 3 := ⟨rfl, by decide, uX4_bears_j_5, by decide +kernel⟩
theorem fX4_bears_j_59 : Fl RX4 wsX4_bears 1 1 59 RX1 TX1 9 := ⟨rfl, by decide, uX4_bears_j_1, by decide +kernel⟩
set_option maxHeartbeats 4000000 in
theorem lpX4_bears_j_76 {p : Program} {l : Launch} {e : Env} {s : State} {m : MethodId} {args : Array Value} {below : List Frame} {meth : Method} {c : Code} {G : xG} (C : Cx p s m args meth c G cX4_bears 3 RX4 wsX4_bears (some .boolean))  {a : Nat} (ha : kd a = 6) {b : Nat} (hb : kd b = 20) {M0 : Mem} : ∀ (n : Nat) (v2 : Int) (M : Mem), (14 - v2).toNat < n → (0 ≤ v2 ∧ v2 ≤ 13 ∧ M.1 b 1 + M.1 b 2 ≤ 13) → WF M → Fr [8, 10, 11] M0 M → AW p l e (rmD 5) s m args below meth c G 3 (QQ G below args s ((fun M r M' => ∃ z : Int, r = some (.int (iI z)) ∧ (0 : Int) ≤ z ∧ z ≤ 1 ∧ WF M' ∧ Fr [8, 10, 11] M M' ∧ (z = 1 → M'.1 b 1 + M'.1 b 2 ≤ 13)) M0)) M 76 [(0, .ref a), (1, .ref b), (2, .int (iI v2))] [] := by
  intro n
  induction n with
  | zero => intro v2 M hn; exact absurd hn (Nat.not_lt_zero _)
  | succ n ih =>
    intro v2 M hn hi W E
    refine A_iloadn C dX4_bears_76 2 rfl rfl ?_
    refine A_iconst C dX4_bears_77 ?_
    refine A_iadd C dX4_bears_78 ?_
    refine A_aloadn C dX4_bears_79 1 rfl rfl ?_
    refine G_getI C W hb rfl rfl rfl rfl rfl fX4_bears_j_62 rfl dX4_bears_80 (fun z1 ez1 lz1 uz1 => ?_)
    refine A_icmpge C 104 dX4_bears_83 (by decide) (by omega) (by omega) (fun c2 => ?_) (fun c2 => ?_)
    · skip
      refine A_iconst C dX4_bears_104 ?_
      exact A_zret C (by omega) dX4_bears_105 ⟨1, rfl, by omega, by omega, W, E, by omega⟩
    · skip
      refine A_aloadn C dX4_bears_86 0 rfl rfl ?_
      refine A_aloadn C dX4_bears_87 1 rfl rfl ?_
      refine A_iloadn C dX4_bears_88 2 rfl rfl ?_
      refine A_callV C (n := 2) (st := []) (kX4_holdsOfPart_6_20 ha hb (by omega)) gX4_bears_X4_holdsOfPart rfl (by decide +kernel) ⟨Nat.le_of_ble_eq_true rfl, Nat.le_of_ble_eq_true rfl⟩ ha rfl rfl rfl rfl (Nat.le_of_ble_eq_true rfl) dX4_bears_89 rfl ⟨W, by omega⟩ (fun r3 M4 h5 => ?_)
      obtain ⟨z7, rfl, lz7, uz7, WM4, FM4⟩ := h5
      have EM4 := Fr.tr E (FM4.mono (c2 := [8, 10, 11]) rfl)
      have t_M4_b_1 : M4.1 b 1 = _ := congrFun (FM4 b (by rw [hb]; rfl)).1 1
      have t_M4_b_2 : M4.1 b 2 = _ := congrFun (FM4 b (by rw [hb]; rfl)).1 2
      refine A_st (st' := [.int (iI z7)]) rfl ?_
      refine A_iconst C dX4_bears_92 ?_
      refine A_icmpne C 98 dX4_bears_93 (by decide) (by omega) (by omega) (fun c8 => ?_) (fun c8 => ?_)
      · skip
        refine A_iinc (lv' := [(2, .int (iI (v2 + 1))), (0, .ref a), (1, .ref b)]) C dX4_bears_98 2 rfl (by decide) rfl ?_
        refine A_goto C 76 dX4_bears_101 (by decide) ?_
        refine A_pick [1, 2, 0] rfl ?_
        exact ih (v2 + 1) M4 (by omega) (by omega) WM4 EM4
      · skip
        refine A_iconst C dX4_bears_96 ?_
        exact A_zret C (by omega) dX4_bears_97 ⟨0, rfl, by omega, by omega, WM4, EM4, by omega⟩
set_option maxHeartbeats 4000000 in
theorem kX4_bears_j  {a : Nat} (ha : kd a = 6) {b : Nat} (hb : kd b = 20) : Ct yX4_bears wsX4_bears 5 [.ref a, .ref b] (fun M => WF M) (fun M r M' => ∃ z : Int, r = some (.int (iI z)) ∧ (0 : Int) ≤ z ∧ z ≤ 1 ∧ WF M' ∧ Fr [8, 10, 11] M M' ∧ (z = 1 → M'.1 b 1 + M'.1 b 2 ≤ 13)) := by
  refine Ct_of (cc := cX4_bears) (nL := 3) (rt := (some .boolean)) (own := RX4) rfl (by decide) rfl (Nat.le_of_ble_eq_true rfl) ?_
  intro p l e s m args below meth c G M0 C W
  have E : Fr [8, 10, 11] M0 M0 := Fr.rf
  refine A_lv (lv' := [(0, .ref a), (1, .ref b)]) rfl ?_
  refine A_aloadn C dX4_bears_0 1 rfl rfl ?_
  refine G_getI C W hb rfl rfl rfl rfl rfl fX4_bears_j_62 rfl dX4_bears_1 (fun z9 ez9 lz9 uz9 => ?_)
  refine A_iconst C dX4_bears_4 ?_
  refine A_icmplt C 19 dX4_bears_5 (by decide) (by omega) (by omega) (fun c10 => ?_) (fun c10 => ?_)
  · skip
    refine A_iconst C dX4_bears_19 ?_
    exact A_zret C (by omega) dX4_bears_20 ⟨0, rfl, by omega, by omega, W, E, by omega⟩
  · skip
    refine A_aloadn C dX4_bears_8 1 rfl rfl ?_
    refine A_callV C (n := 0) (st := []) (kX5_end_20 hb) gX4_bears_X5_end rfl (by decide +kernel) ⟨Nat.le_of_ble_eq_true rfl, Nat.le_of_ble_eq_true rfl⟩ hb rfl rfl rfl rfl (Nat.le_of_ble_eq_true rfl) dX4_bears_9 rfl W (fun r11 M12 h13 => ?_)
    obtain ⟨z15, rfl, lz15, uz15, WM12, FM12, xx14⟩ := h13
    have EM12 := Fr.tr E (FM12.mono (c2 := [8, 10, 11]) rfl)
    have t_M12_b_1 : M12.1 b 1 = _ := congrFun (FM12 b (by rw [hb]; rfl)).1 1
    have t_M12_b_2 : M12.1 b 2 = _ := congrFun (FM12 b (by rw [hb]; rfl)).1 2
    refine A_st (st' := [.int (iI z15)]) rfl ?_
    refine A_aloadn C dX4_bears_12 0 rfl rfl ?_
    refine G_getI C WM12 ha rfl rfl rfl rfl rfl fX4_bears_j_17 rfl dX4_bears_13 (fun z16 ez16 lz16 uz16 => ?_)
    refine A_icmple C 21 dX4_bears_16 (by decide) (by omega) (by omega) (fun c17 => ?_) (fun c17 => ?_)
    · skip
      refine A_aloadn C dX4_bears_21 1 rfl rfl ?_
      refine G_getR C WM12 hb rfl rfl rfl rfl fX4_bears_j_71 dX4_bears_22 (fun b18 hb18 qb18 => ?_)
      refine A_iconst C dX4_bears_25 ?_
      refine G_iald C WM12 qb18 rfl rfl (by decide) (fun _ => rfl) (by omega) (by omega) dX4_bears_26 (fun z19 ez19 lz19 uz19 => ?_)
      refine A_aloadn C dX4_bears_27 0 rfl rfl ?_
      refine G_getR C WM12 ha rfl rfl rfl rfl fX4_bears_j_11 dX4_bears_28 (fun b20 hb20 qb20 => ?_)
      refine A_aloadn C dX4_bears_31 1 rfl rfl ?_
      refine G_getI C WM12 hb rfl rfl rfl rfl rfl fX4_bears_j_74 rfl dX4_bears_32 (fun z21 ez21 lz21 uz21 => ?_)
      refine G_aald C WM12 qb20 (by omega) (by omega) dX4_bears_35 (fun b22 hb22 qb22 => ?_)
      refine G_getI C WM12 qb22 rfl rfl rfl rfl rfl fX4_bears_j_59 rfl dX4_bears_36 (fun z23 ez23 lz23 uz23 => ?_)
      refine A_icmpeq C 44 dX4_bears_39 (by decide) (by omega) (by omega) (fun c24 => ?_) (fun c24 => ?_)
      · skip
        refine A_aloadn C dX4_bears_44 1 rfl rfl ?_
        refine G_getR C WM12 hb rfl rfl rfl rfl fX4_bears_j_71 dX4_bears_45 (fun b25 hb25 qb25 => ?_)
        refine A_aloadn C dX4_bears_48 1 rfl rfl ?_
        refine G_getI C WM12 hb rfl rfl rfl rfl rfl fX4_bears_j_62 rfl dX4_bears_49 (fun z26 ez26 lz26 uz26 => ?_)
        refine A_iconst C dX4_bears_52 ?_
        refine A_isub C dX4_bears_53 ?_
        refine G_iald C WM12 qb25 rfl rfl (by decide) (fun _ => rfl) (by omega) (by omega) dX4_bears_54 (fun z27 ez27 lz27 uz27 => ?_)
        refine A_aloadn C dX4_bears_55 0 rfl rfl ?_
        refine G_getR C WM12 ha rfl rfl rfl rfl fX4_bears_j_11 dX4_bears_56 (fun b28 hb28 qb28 => ?_)
        refine A_aloadn C dX4_bears_59 1 rfl rfl ?_
        refine A_callV C (n := 0) (st := [.ref b28, .int (iI z27)]) (kX5_end_20 hb) gX4_bears_X5_end rfl (by decide +kernel) ⟨Nat.le_of_ble_eq_true rfl, Nat.le_of_ble_eq_true rfl⟩ hb rfl rfl rfl rfl (Nat.le_of_ble_eq_true rfl) dX4_bears_60 rfl WM12 (fun r29 M30 h31 => ?_)
        obtain ⟨z33, rfl, lz33, uz33, WM30, FM30, xx32⟩ := h31
        have EM30 := Fr.tr EM12 (FM30.mono (c2 := [8, 10, 11]) rfl)
        have t_M30_b_1 : M30.1 b 1 = _ := congrFun (FM30 b (by rw [hb]; rfl)).1 1
        have t_M30_b_2 : M30.1 b 2 = _ := congrFun (FM30 b (by rw [hb]; rfl)).1 2
        refine A_st (st' := [.int (iI z33), .ref b28, .int (iI z27)]) rfl ?_
        refine A_iconst C dX4_bears_63 ?_
        refine A_isub C dX4_bears_64 ?_
        refine G_aald C WM30 qb28 (by omega) (by omega) dX4_bears_65 (fun b34 hb34 qb34 => ?_)
        refine G_getI C WM30 qb34 rfl rfl rfl rfl rfl fX4_bears_j_59 rfl dX4_bears_66 (fun z35 ez35 lz35 uz35 => ?_)
        refine A_icmpeq C 74 dX4_bears_69 (by decide) (by omega) (by omega) (fun c36 => ?_) (fun c36 => ?_)
        · skip
          refine A_iconst C dX4_bears_74 ?_
          refine A_istoren (lv' := [(2, .int (iI 0)), (0, .ref a), (1, .ref b)]) C dX4_bears_75 rfl (by decide) rfl ?_
          refine A_pick [1, 2, 0] rfl ?_
          exact lpX4_bears_j_76 C  ha hb ((14 - (0 : Int)).toNat + 1) 0 M30 (by omega) (by omega) WM30 EM30
        · skip
          refine A_iconst C dX4_bears_72 ?_
          exact A_zret C (by omega) dX4_bears_73 ⟨0, rfl, by omega, by omega, WM30, EM30, by omega⟩
      · skip
        refine A_iconst C dX4_bears_42 ?_
        exact A_zret C (by omega) dX4_bears_43 ⟨0, rfl, by omega, by omega, WM12, EM12, by omega⟩
    · skip
      refine A_iconst C dX4_bears_19 ?_
      exact A_zret C (by omega) dX4_bears_20 ⟨0, rfl, by omega, by omega, WM12, EM12, by omega⟩

theorem uX7_share_7 : ∀ w ∈ u_ws RX7 TX7 15, w ∈ wsX7_share := by decide +kernel
theorem uX7_share_3 : ∀ w ∈ u_ws RX3 TX3 2, w ∈ wsX7_share := by decide +kernel
theorem fX7_share_21 : Fl RX7 wsX7_share 7 1 21 RX7 TX7 15 := ⟨rfl, by decide, uX7_share_7, by decide +kernel⟩
theorem fX7_share_48 : Fl RX7 wsX7_share 7 5 48 RX7 TX7 15 := ⟨rfl, by decide, uX7_share_7, by decide +kernel⟩
theorem fX7_share_62 : Fl RX7 wsX7_share 7 8 62 RX7 TX7 15 := ⟨rfl, by decide, uX7_share_7, by decide +kernel⟩
theorem fX7_share_186 : Fl RX7 wsX7_share 3 1 186 RX3 TX3 2 := ⟨rfl, by decide, uX7_share_3, by decide +kernel⟩
theorem fX7_share_182 : Fl RX7 wsX7_share 3 0 182 RX3 TX3 2 := ⟨rfl, by decide, uX7_share_3, by decide +kernel⟩
set_option maxHeartbeats 4000000 in
theorem kX7_share  {a : Nat} (ha : kd a = 0) {x1 : Int} (hx1 : (-2147483648 : Int) ≤ x1 ∧ x1 ≤ 2147483647) : CtX yX7_share wsX7_share 8 [.ref a, .int (iI x1)] (fun M => WF M) (fun M r M' => ∃ z : Int, r = some (.long (lL z)) ∧ r64 z ∧ WF M' ∧ Fr [8, 10, 11, 23] M M') (fun M E M' => E = nNS ∧ WF M' ∧ Fr [8, 10, 11, 23] M M') := by
  refine CtX_of (cc := cX7_share) (nL := 6) (rt := (some .long)) (own := RX7) rfl (by decide) rfl (Nat.le_of_ble_eq_true rfl) ?_
  intro p l e s m args below meth c G M0 C hl0 hT ht W
  have E : Fr [8, 10, 11, 23] M0 M0 := Fr.rf
  refine A_lv (lv' := [(0, .ref a), (1, .int (iI x1))]) rfl ?_
  refine A_iloadn C dX7_share_0 1 rfl rfl ?_
  refine A_iconst C dX7_share_1 ?_
  refine A_iconst C dX7_share_2 ?_
  refine A_callS C (n := 3) (st := []) (kX7_within  (by omega) (by omega) (by omega)) gX7_share_X7_within rfl (by decide +kernel) ⟨Nat.le_of_ble_eq_true rfl, Nat.le_of_ble_eq_true rfl⟩ rfl (Nat.le_of_ble_eq_true rfl) dX7_share_3 rfl W (fun r1 M2 h3 => ?_)
  obtain ⟨z5, rfl, lz5, uz5, WM2, FM2, xx4⟩ := h3
  have EM2 := Fr.tr E (FM2.mono (c2 := [8, 10, 11, 23]) rfl)
  have t_M2_101_1 : M2.1 101 1 = _ := congrFun (FM2 101 (by rw [kd_101]; rfl)).1 1
  have t_M2_101_2 : M2.1 101 2 = _ := congrFun (FM2 101 (by rw [kd_101]; rfl)).1 2
  refine A_st (st' := [.int (iI z5)]) rfl ?_
  refine A_ifeq C 23 dX7_share_6 (by decide) (by omega) (fun c6 => ?_) (fun c6 => ?_)
  · skip
    exact A_throwNS C hl0 hT ht hT.2.1.2.2.1 (by decide +kernel) (by decide +kernel) wX7_shareNS ⟨by decide, by decide, by decide, by decide⟩ dX7_share_23 dX7_share_26 dX7_share_27 dX7_share_29 dX7_share_32 ⟨rfl, WM2, EM2⟩
  · skip
    refine A_aloadn C dX7_share_9 0 rfl rfl ?_
    refine G_getU C WM2 ha rfl rfl rfl rfl uq_6 fX7_share_21 dX7_share_10 ?_
    refine A_aloadn C dX7_share_13 0 rfl rfl ?_
    refine G_getU C WM2 ha rfl rfl rfl rfl uq_20 fX7_share_48 dX7_share_14 ?_
    refine A_callV C (n := 1) (st := []) (kX4_bears_j kd_6 kd_101) gX7_share_X4_bears rfl (by decide +kernel) ⟨Nat.le_of_ble_eq_true rfl, Nat.le_of_ble_eq_true rfl⟩ kd_6 rfl rfl rfl rfl (Nat.le_of_ble_eq_true rfl) dX7_share_17 rfl WM2 (fun r7 M8 h9 => ?_)
    obtain ⟨z11, rfl, lz11, uz11, WM8, FM8, xx10⟩ := h9
    have EM8 := Fr.tr EM2 (FM8.mono (c2 := [8, 10, 11, 23]) rfl)
    have t_M8_101_1 : M8.1 101 1 = _ := congrFun (FM8 101 (by rw [kd_101]; rfl)).1 1
    have t_M8_101_2 : M8.1 101 2 = _ := congrFun (FM8 101 (by rw [kd_101]; rfl)).1 2
    refine A_st (st' := [.int (iI z11)]) rfl ?_
    refine A_ifne C 33 dX7_share_20 (by decide) (by omega) (fun c12 => ?_) (fun c12 => ?_)
    · skip
      refine A_aloadn C dX7_share_33 0 rfl rfl ?_
      have j33 := xx10 (by omega)
      refine G_getU C WM8 ha rfl rfl rfl rfl uq_6 fX7_share_21 dX7_share_34 ?_
      refine A_aloadn C dX7_share_37 0 rfl rfl ?_
      refine G_getU C WM8 ha rfl rfl rfl rfl uq_20 fX7_share_48 dX7_share_38 ?_
      refine A_callV C (n := 1) (st := []) (kX4_holdsAlong_6_20 kd_6 kd_101) gX7_share_X4_holdsAlong rfl (by decide +kernel) ⟨Nat.le_of_ble_eq_true rfl, Nat.le_of_ble_eq_true rfl⟩ kd_6 rfl rfl rfl rfl (Nat.le_of_ble_eq_true rfl) dX7_share_41 rfl ⟨WM8, by omega⟩ (fun r13 M14 h15 => ?_)
      obtain ⟨z17, rfl, rz17, WM14, FM14⟩ := h15
      have EM14 := Fr.tr EM8 (FM14.mono (c2 := [8, 10, 11, 23]) rfl)
      have t_M14_101_1 : M14.1 101 1 = _ := congrFun (FM14 101 (by rw [kd_101]; rfl)).1 1
      have t_M14_101_2 : M14.1 101 2 = _ := congrFun (FM14 101 (by rw [kd_101]; rfl)).1 2
      refine A_st (st' := [.long (lL z17)]) rfl ?_
      refine A_lstoren (lv' := [(2, .long (lL z17)), (0, .ref a), (1, .int (iI x1))]) C dX7_share_44 rfl (by decide) rfl ?_
      refine A_aloadn C dX7_share_45 1 rfl rfl ?_
      refine G_getU C WM14 ha rfl rfl rfl rfl uq_6 fX7_share_21 dX7_share_46 ?_
      refine A_aloadn C dX7_share_49 1 rfl rfl ?_
      refine G_getU C WM14 ha rfl rfl rfl rfl uq_20 fX7_share_48 dX7_share_50 ?_
      refine A_callV C (n := 1) (st := []) (kX4_drivesAlong_6_20 kd_6 kd_101) gX7_share_X4_drivesAlong rfl (by decide +kernel) ⟨Nat.le_of_ble_eq_true rfl, Nat.le_of_ble_eq_true rfl⟩ kd_6 rfl rfl rfl rfl (Nat.le_of_ble_eq_true rfl) dX7_share_53 rfl ⟨WM14, by omega⟩ (fun r18 M19 h20 => ?_)
      obtain ⟨z22, rfl, rz22, WM19, FM19⟩ := h20
      have EM19 := Fr.tr EM14 (FM19.mono (c2 := [8, 10, 11, 23]) rfl)
      have t_M19_101_1 : M19.1 101 1 = _ := congrFun (FM19 101 (by rw [kd_101]; rfl)).1 1
      have t_M19_101_2 : M19.1 101 2 = _ := congrFun (FM19 101 (by rw [kd_101]; rfl)).1 2
      refine A_st (st' := [.long (lL z22)]) rfl ?_
      refine A_lstore (lv' := [(4, .long (lL z22)), (2, .long (lL z17)), (0, .ref a), (1, .int (iI x1))]) C dX7_share_56 (by decide) rfl ?_
      refine A_iloadn C dX7_share_58 3 rfl rfl ?_
      refine A_ifne C 64 dX7_share_59 (by decide) (by omega) (fun c23 => ?_) (fun c23 => ?_)
      · skip
        refine A_iloadn C dX7_share_64 3 rfl rfl ?_
        refine A_iconst C dX7_share_65 ?_
        refine A_icmpne C 72 dX7_share_66 (by decide) (by omega) (by omega) (fun c24 => ?_) (fun c24 => ?_)
        · skip
          refine A_lload C dX7_share_72 0 rfl ?_
          refine A_lconst0 C dX7_share_74 ?_
          refine A_lcmp C (by omega) (by omega) dX7_share_75 (fun z25 cz25 => ?_)
          refine A_ifgt C 89 dX7_share_76 (by decide) (by omega) (fun c26 => ?_) (fun c26 => ?_)
          · skip
            refine A_aloadn C dX7_share_89 2 rfl rfl ?_
            refine G_getR C WM19 ha rfl rfl rfl rfl fX7_share_62 dX7_share_90 (fun b27 hb27 qb27 => ?_)
            refine A_lloadn C dX7_share_93 1 rfl rfl ?_
            refine A_lload C dX7_share_94 0 rfl ?_
            refine A_callV C (n := 2) (st := []) (kX3_become qb27 (by omega) (by omega)) gX7_share_X3_become rfl (by decide +kernel) ⟨Nat.le_of_ble_eq_true rfl, Nat.le_of_ble_eq_true rfl⟩ qb27 rfl rfl rfl rfl (Nat.le_of_ble_eq_true rfl) dX7_share_96 rfl WM19 (fun r28 M29 h30 => ?_)
            obtain ⟨rfl, WM29, FM29⟩ := h30
            have EM29 := Fr.tr EM19 (FM29.mono (c2 := [8, 10, 11, 23]) rfl)
            have t_M29_101_1 : M29.1 101 1 = _ := congrFun (FM29 101 (by rw [kd_101]; rfl)).1 1
            have t_M29_101_2 : M29.1 101 2 = _ := congrFun (FM29 101 (by rw [kd_101]; rfl)).1 2
            refine A_st (st' := []) rfl ?_
            refine A_iloadn C dX7_share_99 3 rfl rfl ?_
            refine A_iconst C dX7_share_100 ?_
            refine A_icmpne C 114 dX7_share_101 (by decide) (by omega) (by omega) (fun c32 => ?_) (fun c32 => ?_)
            · skip
              refine A_aloadn C dX7_share_114 2 rfl rfl ?_
              refine G_getR C WM29 ha rfl rfl rfl rfl fX7_share_62 dX7_share_115 (fun b33 hb33 qb33 => ?_)
              refine G_getL C WM29 qb33 rfl rfl rfl fX7_share_186 dX7_share_118 (fun z34 ez34 rz34 => ?_)
              exact A_xlret C dX7_share_121 ⟨z34, rfl, by omega, WM29, EM29⟩
            · skip
              refine A_aloadn C dX7_share_104 2 rfl rfl ?_
              refine G_getR C WM29 ha rfl rfl rfl rfl fX7_share_62 dX7_share_105 (fun b35 hb35 qb35 => ?_)
              refine G_getL C WM29 qb35 rfl rfl rfl fX7_share_182 dX7_share_108 (fun z36 ez36 rz36 => ?_)
              refine A_goto C 121 dX7_share_111 (by decide) ?_
              exact A_xlret C dX7_share_121 ⟨z36, rfl, by omega, WM29, EM29⟩
          · skip
            exact A_throwNS C hl0 hT ht hT.2.1.2.2.2 (by decide +kernel) (by decide +kernel) wX7_shareNS ⟨by decide, by decide, by decide, by decide⟩ dX7_share_79 dX7_share_82 dX7_share_83 dX7_share_85 dX7_share_88 ⟨rfl, WM19, EM19⟩
        · skip
          refine A_lload C dX7_share_69 0 rfl ?_
          exact A_xlret C dX7_share_71 ⟨z22, rfl, by omega, WM19, EM19⟩
      · skip
        refine A_lloadn C dX7_share_62 1 rfl rfl ?_
        exact A_xlret C dX7_share_63 ⟨z17, rfl, by omega, WM19, EM19⟩
    · skip
      exact A_throwNS C hl0 hT ht hT.2.1.2.2.1 (by decide +kernel) (by decide +kernel) wX7_shareNS ⟨by decide, by decide, by decide, by decide⟩ dX7_share_23 dX7_share_26 dX7_share_27 dX7_share_29 dX7_share_32 ⟨rfl, WM8, EM8⟩
