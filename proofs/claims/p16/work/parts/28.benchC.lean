theorem uX7_order_7 : ∀ w ∈ u_ws RX7 TX7 15, w ∈ wsX7_order := by decide +kernel
theorem uX7_order_0 : ∀ w ∈ u_ws RX0 TX0 4, w ∈ wsX7_order := by decide +kernel
theorem fX7_order_69 : Fl RX7 wsX7_order 7 10 69 RX7 TX7 15 := ⟨rfl, by decide, uX7_order_7, by decide +kernel⟩
theorem fX7_order_73 : Fl RX7 wsX7_order 7 11 73 RX7 TX7 15 := ⟨rfl, by decide, uX7_order_7, by decide +kernel⟩
theorem fX7_order_34 : Fl RX7 wsX7_order 7 3 34 RX7 TX7 15 := ⟨rfl, by decide, uX7_order_7, by decide +kernel⟩
theorem fX7_order_91 : Fl RX7 wsX7_order 0 0 91 RX0 TX0 4 := ⟨rfl, by decide, uX7_order_0, by decide +kernel⟩
theorem fX7_order_76 : Fl RX7 wsX7_order 7 12 76 RX7 TX7 15 := ⟨rfl, by decide, uX7_order_7, by decide +kernel⟩
theorem fX7_order_65 : Fl RX7 wsX7_order 7 9 65 RX7 TX7 15 := ⟨rfl, by decide, uX7_order_7, by decide +kernel⟩
theorem fX7_order_21 : Fl RX7 wsX7_order 7 1 21 RX7 TX7 15 := ⟨rfl, by decide, uX7_order_7, by decide +kernel⟩
set_option maxHeartbeats 4000000 in
theorem lpX7_order_32 {p : Program} {l : Launch} {e : Env} {s : State} {m : MethodId} {args : Array Value} {below : List Frame} {meth : Method} {c : Code} {G : xG} (C : Cx p s m args meth c G cX7_order 5 RX7 wsX7_order (some .int))  {a : Nat} (ha : kd a = 0) {x1 : Int} {x2 : Int} (hx1 : (-2147483648 : Int) ≤ x1 ∧ x1 ≤ 2147483647) (hx2 : (-2147483648 : Int) ≤ x2 ∧ x2 ≤ 2147483647) {M0 : Mem} : ∀ (n : Nat) (v3 v4 : Int) (M : Mem), (65 - v4).toNat < n → (0 ≤ v3 ∧ v3 ≤ 63 ∧ 0 ≤ v4 ∧ v4 ≤ 64) → WF M → Fr [0, 12, 8, 10, 11, 17, 18, 19, 24, 25] M0 M → AW p l e (rmD 13) s m args below meth c G 5 (QQ G below args s ((fun M r M' => ∃ z : Int, r = some (.int (iI z)) ∧ (-2147483648 : Int) ≤ z ∧ z ≤ 2147483647 ∧ WF M' ∧ Fr [0, 12, 8, 10, 11, 17, 18, 19, 24, 25] M M') M0)) M 32 [(0, .ref a), (1, .int (iI x1)), (2, .int (iI x2)), (3, .int (iI v3)), (4, .int (iI v4))] [] := by
  intro n
  induction n with
  | zero => intro v3 v4 M hn; exact absurd hn (Nat.not_lt_zero _)
  | succ n ih =>
    intro v3 v4 M hn hi W E
    refine A_iload C dX7_order_32 4 rfl ?_
    refine A_iloadn C dX7_order_34 3 rfl rfl ?_
    refine A_icmpgt C 52 dX7_order_35 (by decide) (by omega) (by omega) (fun c1 => ?_) (fun c1 => ?_)
    · skip
      refine A_iloadn C dX7_order_52 3 rfl rfl ?_
      refine A_ifeq C 80 dX7_order_53 (by decide) (by omega) (fun c2 => ?_) (fun c2 => ?_)
      · skip
        refine A_aloadn C dX7_order_80 0 rfl rfl ?_
        refine G_getR C W ha rfl rfl rfl rfl fX7_order_69 dX7_order_81 (fun b3 hb3 qb3 => ?_)
        refine A_iconst C dX7_order_84 ?_
        refine A_aloadn C dX7_order_85 0 rfl rfl ?_
        refine G_getR C W ha rfl rfl rfl rfl fX7_order_73 dX7_order_86 (fun b4 hb4 qb4 => ?_)
        refine A_iconst C dX7_order_89 ?_
        refine A_bipush C dX7_order_90 (by decide) ?_
        refine G_copy C W E qb3 qb4 rfl rfl (by decide) (fun _ => rfl) rfl (by decide +kernel) (by decide +kernel) (by decide +kernel) (by decide +kernel) (Nat.le_of_ble_eq_true rfl) (Nat.le_of_ble_eq_true rfl) dX7_order_92 (fun M5 eM5 WM5 EM5 => ?_)
        refine A_aloadn C dX7_order_95 0 rfl rfl ?_
        refine A_aloadn C dX7_order_96 0 rfl rfl ?_
        refine G_getU C WM5 ha rfl rfl rfl rfl uq_13 fX7_order_34 dX7_order_97 ?_
        refine G_getI C WM5 kd_94 rfl rfl rfl rfl rfl fX7_order_91 rfl dX7_order_100 (fun z6 ez6 lz6 uz6 => ?_)
        refine G_putI C WM5 EM5 ha rfl rfl rfl rfl rfl fX7_order_76 ⟨tyX7_ok, nmX7, rfl, by decide⟩ (Or.inl rfl) rfl rfl (by omega) (by omega) dX7_order_103 (fun M7 eM7 WM7 EM7 => ?_)
        refine A_aloadn C dX7_order_106 0 rfl rfl ?_
        refine G_getI C WM7 ha rfl rfl rfl rfl rfl fX7_order_76 rfl dX7_order_107 (fun z8 ez8 lz8 uz8 => ?_)
        exact A_iret C dX7_order_110 ⟨z8, rfl, by omega, by omega, WM7, EM7⟩
      · skip
        refine A_aloadn C dX7_order_56 0 rfl rfl ?_
        refine A_iloadn C dX7_order_57 3 rfl rfl ?_
        refine A_iloadn C dX7_order_58 1 rfl rfl ?_
        refine A_iloadn C dX7_order_59 2 rfl rfl ?_
        refine A_callV C (n := 3) (st := []) (kX7_standsBehind ha (by omega) (by omega) (by omega)) gX7_order_X7_standsBehind rfl (by decide +kernel) ⟨Nat.le_of_ble_eq_true rfl, Nat.le_of_ble_eq_true rfl⟩ ha rfl rfl rfl rfl (Nat.le_of_ble_eq_true rfl) dX7_order_60 rfl W (fun r9 M10 h11 => ?_)
        obtain ⟨z13, rfl, lz13, uz13, WM10, FM10⟩ := h11
        have EM10 := Fr.tr E (FM10.mono (c2 := [0, 12, 8, 10, 11, 17, 18, 19, 24, 25]) rfl)
        refine A_st (st' := [.int (iI z13)]) rfl ?_
        refine A_ifeq C 77 dX7_order_63 (by decide) (by omega) (fun c14 => ?_) (fun c14 => ?_)
        · skip
          refine A_bipush C dX7_order_77 (by decide) ?_
          exact A_iret C dX7_order_79 ⟨(-2), rfl, by omega, by omega, WM10, EM10⟩
        · skip
          refine A_aloadn C dX7_order_66 0 rfl rfl ?_
          refine A_iconst C dX7_order_67 ?_
          refine A_iconst C dX7_order_68 ?_
          refine A_iloadn C dX7_order_69 1 rfl rfl ?_
          refine A_iloadn C dX7_order_70 2 rfl rfl ?_
          refine A_callV C (n := 4) (st := []) (kX7_leadsOn 7 ha (by omega) (by omega) (by omega) (by omega) (by omega)) gX7_order_X7_leadsOn rfl (by decide +kernel) ⟨Nat.le_of_ble_eq_true rfl, Nat.le_of_ble_eq_true rfl⟩ ha rfl rfl rfl rfl (Nat.le_of_ble_eq_true rfl) dX7_order_71 rfl WM10 (fun r15 M16 h17 => ?_)
          obtain ⟨z19, rfl, lz19, uz19, WM16, FM16⟩ := h17
          have EM16 := Fr.tr EM10 (FM16.mono (c2 := [0, 12, 8, 10, 11, 17, 18, 19, 24, 25]) rfl)
          refine A_st (st' := [.int (iI z19)]) rfl ?_
          refine A_ifne C 80 dX7_order_74 (by decide) (by omega) (fun c20 => ?_) (fun c20 => ?_)
          · skip
            refine A_aloadn C dX7_order_80 0 rfl rfl ?_
            refine G_getR C WM16 ha rfl rfl rfl rfl fX7_order_69 dX7_order_81 (fun b21 hb21 qb21 => ?_)
            refine A_iconst C dX7_order_84 ?_
            refine A_aloadn C dX7_order_85 0 rfl rfl ?_
            refine G_getR C WM16 ha rfl rfl rfl rfl fX7_order_73 dX7_order_86 (fun b22 hb22 qb22 => ?_)
            refine A_iconst C dX7_order_89 ?_
            refine A_bipush C dX7_order_90 (by decide) ?_
            refine G_copy C WM16 EM16 qb21 qb22 rfl rfl (by decide) (fun _ => rfl) rfl (by decide +kernel) (by decide +kernel) (by decide +kernel) (by decide +kernel) (Nat.le_of_ble_eq_true rfl) (Nat.le_of_ble_eq_true rfl) dX7_order_92 (fun M23 eM23 WM23 EM23 => ?_)
            refine A_aloadn C dX7_order_95 0 rfl rfl ?_
            refine A_aloadn C dX7_order_96 0 rfl rfl ?_
            refine G_getU C WM23 ha rfl rfl rfl rfl uq_13 fX7_order_34 dX7_order_97 ?_
            refine G_getI C WM23 kd_94 rfl rfl rfl rfl rfl fX7_order_91 rfl dX7_order_100 (fun z24 ez24 lz24 uz24 => ?_)
            refine G_putI C WM23 EM23 ha rfl rfl rfl rfl rfl fX7_order_76 ⟨tyX7_ok, nmX7, rfl, by decide⟩ (Or.inl rfl) rfl rfl (by omega) (by omega) dX7_order_103 (fun M25 eM25 WM25 EM25 => ?_)
            refine A_aloadn C dX7_order_106 0 rfl rfl ?_
            refine G_getI C WM25 ha rfl rfl rfl rfl rfl fX7_order_76 rfl dX7_order_107 (fun z26 ez26 lz26 uz26 => ?_)
            exact A_iret C dX7_order_110 ⟨z26, rfl, by omega, by omega, WM25, EM25⟩
          · skip
            refine A_bipush C dX7_order_77 (by decide) ?_
            exact A_iret C dX7_order_79 ⟨(-2), rfl, by omega, by omega, WM16, EM16⟩
    · skip
      refine A_aloadn C dX7_order_38 0 rfl rfl ?_
      refine G_getR C W ha rfl rfl rfl rfl fX7_order_65 dX7_order_39 (fun b27 hb27 qb27 => ?_)
      refine A_iload C dX7_order_42 4 rfl ?_
      refine A_iconst C dX7_order_44 ?_
      refine G_zast C W E qb27 rfl rfl (by decide) (fun _ => rfl) rfl (by omega) (by omega) (by omega) dX7_order_45 (fun M28 eM28 WM28 EM28 => ?_)
      refine A_iinc (lv' := [(4, .int (iI (v4 + 1))), (0, .ref a), (1, .int (iI x1)), (2, .int (iI x2)), (3, .int (iI v3))]) C dX7_order_46 4 rfl (by decide) rfl ?_
      refine A_goto C 32 dX7_order_49 (by decide) ?_
      refine A_pick [1, 2, 3, 4, 0] rfl ?_
      exact ih v3 (v4 + 1) M28 (by omega) (by omega) WM28 EM28
set_option maxHeartbeats 4000000 in
theorem kX7_order  {a : Nat} (ha : kd a = 0) {x1 : Int} {x2 : Int} (hx1 : (-2147483648 : Int) ≤ x1 ∧ x1 ≤ 2147483647) (hx2 : (-2147483648 : Int) ≤ x2 ∧ x2 ≤ 2147483647) : Ct yX7_order wsX7_order 13 [.ref a, .int (iI x1), .int (iI x2)] (fun M => WF M) (fun M r M' => ∃ z : Int, r = some (.int (iI z)) ∧ (-2147483648 : Int) ≤ z ∧ z ≤ 2147483647 ∧ WF M' ∧ Fr [0, 12, 8, 10, 11, 17, 18, 19, 24, 25] M M') := by
  refine Ct_of (cc := cX7_order) (nL := 5) (rt := (some .int)) (own := RX7) rfl (by decide) rfl (Nat.le_of_ble_eq_true rfl) ?_
  intro p l e s m args below meth c G M0 C W
  have E : Fr [0, 12, 8, 10, 11, 17, 18, 19, 24, 25] M0 M0 := Fr.rf
  refine A_lv (lv' := [(0, .ref a), (1, .int (iI x1)), (2, .int (iI x2))]) rfl ?_
  refine A_iloadn C dX7_order_0 1 rfl rfl ?_
  refine A_iloadn C dX7_order_1 2 rfl rfl ?_
  refine A_callS C (n := 2) (st := []) (kX7_isRatio  (by omega) (by omega)) gX7_order_X7_isRatio rfl (by decide +kernel) ⟨Nat.le_of_ble_eq_true rfl, Nat.le_of_ble_eq_true rfl⟩ rfl (Nat.le_of_ble_eq_true rfl) dX7_order_2 rfl W (fun r29 M30 h31 => ?_)
  obtain ⟨z33, rfl, lz33, uz33, WM30, FM30⟩ := h31
  have EM30 := Fr.tr E (FM30.mono (c2 := [0, 12, 8, 10, 11, 17, 18, 19, 24, 25]) rfl)
  refine A_st (st' := [.int (iI z33)]) rfl ?_
  refine A_ifne C 10 dX7_order_5 (by decide) (by omega) (fun c34 => ?_) (fun c34 => ?_)
  · skip
    refine A_aloadn C dX7_order_10 0 rfl rfl ?_
    refine G_getU C WM30 ha rfl rfl rfl rfl uq_6 fX7_order_21 dX7_order_11 ?_
    refine A_callV C (n := 0) (st := []) (kX4_reckon (Or.inl kd_6)) gX7_order_X4_reckon rfl (by decide +kernel) ⟨Nat.le_of_ble_eq_true rfl, Nat.le_of_ble_eq_true rfl⟩ kd_6 rfl rfl rfl rfl (Nat.le_of_ble_eq_true rfl) dX7_order_14 rfl WM30 (fun r35 M36 h37 => ?_)
    obtain ⟨rfl, WM36, FM36⟩ := h37
    have EM36 := Fr.tr EM30 (FM36.mono (c2 := [0, 12, 8, 10, 11, 17, 18, 19, 24, 25]) rfl)
    refine A_st (st' := []) rfl ?_
    refine A_iconst C dX7_order_17 ?_
    refine A_aloadn C dX7_order_18 0 rfl rfl ?_
    refine G_getU C WM36 ha rfl rfl rfl rfl uq_13 fX7_order_34 dX7_order_19 ?_
    refine G_getI C WM36 kd_94 rfl rfl rfl rfl rfl fX7_order_91 rfl dX7_order_22 (fun z39 ez39 lz39 uz39 => ?_)
    refine A_shl1 C (by omega) (by omega) dX7_order_25 (fun z40 lz40 uz40 wz40 => ?_)
    refine A_iconst C dX7_order_26 ?_
    refine A_isub C dX7_order_27 ?_
    refine A_nami (fun z41 ez41 => ?_)
    refine A_istoren (lv' := [(3, .int (iI z41)), (0, .ref a), (1, .int (iI x1)), (2, .int (iI x2))]) C dX7_order_28 rfl (by decide) rfl ?_
    refine A_iconst C dX7_order_29 ?_
    refine A_istore (lv' := [(4, .int (iI 0)), (3, .int (iI z41)), (0, .ref a), (1, .int (iI x1)), (2, .int (iI x2))]) C dX7_order_30 (by decide) rfl ?_
    refine A_pick [2, 3, 4, 1, 0] rfl ?_
    exact lpX7_order_32 C  ha hx1 hx2 ((65 - (0 : Int)).toNat + 1) z41 0 M36 (by omega) (by omega) WM36 EM36
  · skip
    refine A_iconst C dX7_order_8 ?_
    exact A_iret C dX7_order_9 ⟨(-1), rfl, by omega, by omega, WM30, EM30⟩

theorem uX7_step_7 : ∀ w ∈ u_ws RX7 TX7 15, w ∈ wsX7_step := by decide +kernel
theorem fX7_step_76 : Fl RX7 wsX7_step 7 12 76 RX7 TX7 15 := ⟨rfl, by decide, uX7_step_7, by decide +kernel⟩
theorem fX7_step_73 : Fl RX7 wsX7_step 7 11 73 RX7 TX7 15 := ⟨rfl, by decide, uX7_step_7, by decide +kernel⟩
set_option maxHeartbeats 4000000 in
theorem kX7_step  {a : Nat} (ha : kd a = 0) {x1 : Int} (hx1 : (-2147483648 : Int) ≤ x1 ∧ x1 ≤ 2147483647) : Ct yX7_step wsX7_step 2 [.ref a, .int (iI x1)] (fun M => WF M) (fun M r M' => ∃ z : Int, r = some (.int (iI z)) ∧ (-2147483648 : Int) ≤ z ∧ z ≤ 2147483647 ∧ WF M' ∧ Fr [] M M') := by
  refine Ct_of (cc := cX7_step) (nL := 2) (rt := (some .int)) (own := RX7) rfl (by decide) rfl (Nat.le_of_ble_eq_true rfl) ?_
  intro p l e s m args below meth c G M0 C W
  have E : Fr [] M0 M0 := Fr.rf
  refine A_lv (lv' := [(0, .ref a), (1, .int (iI x1))]) rfl ?_
  refine A_iloadn C dX7_step_0 1 rfl rfl ?_
  refine A_iconst C dX7_step_1 ?_
  refine A_aloadn C dX7_step_2 0 rfl rfl ?_
  refine G_getI C W ha rfl rfl rfl rfl rfl fX7_step_76 rfl dX7_step_3 (fun z1 ez1 lz1 uz1 => ?_)
  refine A_iconst C dX7_step_6 ?_
  refine A_isub C dX7_step_7 ?_
  refine A_callS C (n := 3) (st := []) (kX7_within  (by omega) (by omega) (by omega)) gX7_step_X7_within rfl (by decide +kernel) ⟨Nat.le_of_ble_eq_true rfl, Nat.le_of_ble_eq_true rfl⟩ rfl (Nat.le_of_ble_eq_true rfl) dX7_step_8 rfl W (fun r2 M3 h4 => ?_)
  obtain ⟨z6, rfl, lz6, uz6, WM3, FM3, xx5⟩ := h4
  have EM3 := Fr.tr E (FM3.mono (c2 := []) rfl)
  refine A_st (st' := [.int (iI z6)]) rfl ?_
  refine A_ifeq C 23 dX7_step_11 (by decide) (by omega) (fun c7 => ?_) (fun c7 => ?_)
  · skip
    refine A_iconst C dX7_step_23 ?_
    exact A_iret C dX7_step_24 ⟨(-1), rfl, by omega, by omega, WM3, EM3⟩
  · skip
    refine A_aloadn C dX7_step_14 0 rfl rfl ?_
    refine G_getR C WM3 ha rfl rfl rfl rfl fX7_step_73 dX7_step_15 (fun b8 hb8 qb8 => ?_)
    refine A_iloadn C dX7_step_18 1 rfl rfl ?_
    refine G_iald C WM3 qb8 rfl rfl (by decide) (fun _ => rfl) (by omega) (by omega) dX7_step_19 (fun z9 ez9 lz9 uz9 => ?_)
    refine A_goto C 24 dX7_step_20 (by decide) ?_
    exact A_iret C dX7_step_24 ⟨z9, rfl, by omega, by omega, WM3, EM3⟩

theorem uX7_count_7 : ∀ w ∈ u_ws RX7 TX7 15, w ∈ wsX7_count := by decide +kernel
theorem uX7_count_4 : ∀ w ∈ u_ws RX4 TX4 2, w ∈ wsX7_count := by decide +kernel
theorem uX7_count_2 : ∀ w ∈ u_ws RX2 TX2 5, w ∈ wsX7_count := by decide +kernel
theorem uX7_count_0 : ∀ w ∈ u_ws RX0 TX0 4, w ∈ wsX7_count := by decide +kernel
theorem fX7_count_21 : Fl RX7 wsX7_count 7 1 21 RX7 TX7 15 := ⟨rfl, by decide, uX7_count_7, by decide +kernel⟩
theorem fX7_count_158 : Fl RX7 wsX7_count 4 1 158 RX4 TX4 2 := ⟨rfl, by decide, uX7_count_4, by decide +kernel⟩
theorem fX7_count_12 : Fl RX7 wsX7_count 7 0 12 RX7 TX7 15 := ⟨rfl, by decide, uX7_count_7, by decide +kernel⟩
theorem fX7_count_232 : Fl RX7 wsX7_count 2 4 232 RX2 TX2 5 := ⟨rfl, by decide, uX7_count_2, by decide +kernel⟩
theorem fX7_count_34 : Fl RX7 wsX7_count 7 3 34 RX7 TX7 15 := ⟨rfl, by decide, uX7_count_7, by decide +kernel⟩
theorem fX7_count_91 : Fl RX7 wsX7_count 0 0 91 RX0 TX0 4 := ⟨rfl, by decide, uX7_count_0, by decide +kernel⟩
set_option maxHeartbeats 4000000 in
theorem kX7_count  {a : Nat} (ha : kd a = 0) {x1 : Int} (hx1 : (-2147483648 : Int) ≤ x1 ∧ x1 ≤ 2147483647) : Ct yX7_count wsX7_count 2 [.ref a, .int (iI x1)] (fun M => WF M) (fun M r M' => ∃ z : Int, r = some (.int (iI z)) ∧ (-2147483648 : Int) ≤ z ∧ z ≤ 2147483647 ∧ WF M' ∧ Fr [] M M') := by
  refine Ct_of (cc := cX7_count) (nL := 2) (rt := (some .int)) (own := RX7) rfl (by decide) rfl (Nat.le_of_ble_eq_true rfl) ?_
  intro p l e s m args below meth c G M0 C W
  have E : Fr [] M0 M0 := Fr.rf
  refine A_lv (lv' := [(0, .ref a), (1, .int (iI x1))]) rfl ?_
  refine A_iloadn C dX7_count_0 1 rfl rfl ?_
  rcases (show (x1 < 0 ∨ 3 < x1) ∨ x1 = 0 ∨ x1 = 1 ∨ x1 = 2 ∨ x1 = 3 by omega) with c1 | c1 | c1 | c1 | c1
  · skip
    refine A_tabOut C 64 dX7_count_1 (by omega) c1 (by decide) ?_
    refine A_iconst C dX7_count_64 ?_
    exact A_iret C dX7_count_65 ⟨(-1), rfl, by omega, by omega, W, E⟩
  · skip
    refine A_tabIn C 0 32 dX7_count_1 c1 (by decide) (by decide) (by decide) rfl (by decide) ?_
    refine A_aloadn C dX7_count_32 0 rfl rfl ?_
    refine G_getU C W ha rfl rfl rfl rfl uq_6 fX7_count_21 dX7_count_33 ?_
    refine G_getI C W kd_6 rfl rfl rfl rfl rfl fX7_count_158 rfl dX7_count_36 (fun z2 ez2 lz2 uz2 => ?_)
    exact A_iret C dX7_count_39 ⟨z2, rfl, by omega, by omega, W, E⟩
  · skip
    refine A_tabIn C 1 40 dX7_count_1 c1 (by decide) (by decide) (by decide) rfl (by decide) ?_
    refine A_aloadn C dX7_count_40 0 rfl rfl ?_
    refine G_getR C W ha rfl rfl rfl rfl fX7_count_12 dX7_count_41 (fun b3 hb3 qb3 => ?_)
    refine G_getI C W qb3 rfl rfl rfl rfl rfl fX7_count_232 rfl dX7_count_44 (fun z4 ez4 lz4 uz4 => ?_)
    exact A_iret C dX7_count_47 ⟨z4, rfl, by omega, by omega, W, E⟩
  · skip
    refine A_tabIn C 2 48 dX7_count_1 c1 (by decide) (by decide) (by decide) rfl (by decide) ?_
    refine A_aloadn C dX7_count_48 0 rfl rfl ?_
    refine G_getU C W ha rfl rfl rfl rfl uq_13 fX7_count_34 dX7_count_49 ?_
    refine G_getI C W kd_94 rfl rfl rfl rfl rfl fX7_count_91 rfl dX7_count_52 (fun z5 ez5 lz5 uz5 => ?_)
    exact A_iret C dX7_count_55 ⟨z5, rfl, by omega, by omega, W, E⟩
  · skip
    refine A_tabIn C 3 56 dX7_count_1 c1 (by decide) (by decide) (by decide) rfl (by decide) ?_
    refine A_aloadn C dX7_count_56 0 rfl rfl ?_
    refine G_getU C W ha rfl rfl rfl rfl uq_6 fX7_count_21 dX7_count_57 ?_
    refine A_callV C (n := 0) (st := []) (kX4_cellCount kd_6) gX7_count_X4_cellCount rfl (by decide +kernel) ⟨Nat.le_of_ble_eq_true rfl, Nat.le_of_ble_eq_true rfl⟩ kd_6 rfl rfl rfl rfl (Nat.le_of_ble_eq_true rfl) dX7_count_60 rfl W (fun r6 M7 h8 => ?_)
    obtain ⟨z10, rfl, lz10, uz10, WM7, FM7⟩ := h8
    have EM7 := Fr.tr E (FM7.mono (c2 := []) rfl)
    refine A_st (st' := [.int (iI z10)]) rfl ?_
    exact A_iret C dX7_count_63 ⟨z10, rfl, by omega, by omega, WM7, EM7⟩
