theorem uX8_order_8 : ∀ w ∈ u_ws RX8 TX8 35, w ∈ wsX8_order := by decide +kernel
theorem fX8_order_79 : Fl RX8 wsX8_order 8 12 79 RX8 TX8 35 := ⟨rfl, by decide, uX8_order_8, by decide +kernel⟩
theorem fX8_order_73 : Fl RX8 wsX8_order 8 33 73 RX8 TX8 35 := ⟨rfl, by decide, uX8_order_8, by decide +kernel⟩
theorem fX8_order_70 : Fl RX8 wsX8_order 8 32 70 RX8 TX8 35 := ⟨rfl, by decide, uX8_order_8, by decide +kernel⟩
theorem fX8_order_96 : Fl RX8 wsX8_order 8 11 96 RX8 TX8 35 := ⟨rfl, by decide, uX8_order_8, by decide +kernel⟩
theorem fX8_order_189 : Fl RX8 wsX8_order 8 34 189 RX8 TX8 35 := ⟨rfl, by decide, uX8_order_8, by decide +kernel⟩
theorem fX8_order_76 : Fl RX8 wsX8_order 8 19 76 RX8 TX8 35 := ⟨rfl, by decide, uX8_order_8, by decide +kernel⟩
set_option maxHeartbeats 4000000 in
theorem lpX8_order_138 {p : Program} {l : Launch} {e : Env} {s : State} {m : MethodId} {args : Array Value} {below : List Frame} {meth : Method} {c : Code} {G : xG} (C : Cx p s m args meth c G cX8_order 6 RX8 wsX8_order (some .int))  {x1 : Int} {x2 : Int} (hx1 : (-2147483648 : Int) ≤ x1 ∧ x1 ≤ 2147483647) (hx2 : (-2147483648 : Int) ≤ x2 ∧ x2 ≤ 2147483647) {M0 : Mem} : ∀ (n : Nat) (v5 : Int) (M : Mem), (7 - v5).toNat < n → (0 ≤ v5 ∧ v5 ≤ 6 ∧ M0.1 110 16 + M0.1 110 17 ≤ M0.1 110 0 + 1 ∧ M.1 110 0 = M0.1 110 0 ∧ M.1 110 12 = M0.1 110 12 ∧ M.1 110 16 = M0.1 110 16 ∧ M.1 110 17 = M0.1 110 17) → WF M → Fr [30, 36, 37, 38, 39, 44, 45, 46, 48, 49] M0 M → AW p l e (rmD 5) s m args below meth c G 6 (QQ G below args s ((fun M r M' => ∃ z : Int, r = some (.int (iI z)) ∧ (-2147483648 : Int) ≤ z ∧ z ≤ 2147483647 ∧ WF M' ∧ Fr [30, 36, 37, 38, 39, 44, 45, 46, 48, 49] M M' ∧ (M'.1 110 0 = M.1 110 0 ∧ M'.1 110 12 = M.1 110 12 ∧ M'.1 110 16 = M.1 110 16 ∧ M'.1 110 17 = M.1 110 17) ∧ M'.1 110 16 + M'.1 110 17 ≤ M'.1 110 0 + 1) M0)) M 138 [(0, .ref 110), (5, .int (iI v5))] [] := by
  intro n
  induction n with
  | zero => intro v5 M hn; exact absurd hn (Nat.not_lt_zero _)
  | succ n ih =>
    intro v5 M hn hi W E
    have fa_110_0 : (0 : Int) ≤ M.1 110 0 ∧ M.1 110 0 ≤ 12 := W.i kd_110 0
    have fa_110_12 : (0 : Int) ≤ M.1 110 12 ∧ M.1 110 12 ≤ 6 := W.i kd_110 12
    refine A_iload C dX8_order_138 1 rfl ?_
    refine A_aloadn C dX8_order_140 0 rfl rfl ?_
    refine G_getI C W kd_110 rfl rfl rfl rfl rfl fX8_order_79 rfl dX8_order_141 (fun z1 ez1 lz1 uz1 => ?_)
    refine A_icmpge C 167 dX8_order_144 (by decide) (by omega) (by omega) (fun c2 => ?_) (fun c2 => ?_)
    · skip
      refine A_aloadn C dX8_order_167 0 rfl rfl ?_
      refine G_getI C W kd_110 rfl rfl rfl rfl rfl fX8_order_79 rfl dX8_order_168 (fun z3 ez3 lz3 uz3 => ?_)
      exact A_iret C dX8_order_171 ⟨z3, rfl, by omega, by omega, W, E, by omega⟩
    · skip
      refine A_aloadn C dX8_order_147 0 rfl rfl ?_
      refine G_getC C W kd_110 rfl rfl rfl rfl uq_49 fX8_order_73 dX8_order_148 ?_
      refine A_iload C dX8_order_151 1 rfl ?_
      refine A_aloadn C dX8_order_153 0 rfl rfl ?_
      refine G_getC C W kd_110 rfl rfl rfl rfl uq_48 fX8_order_70 dX8_order_154 ?_
      refine A_iload C dX8_order_157 1 rfl ?_
      refine G_iald C W kd_128 rfl rfl (by decide) (fun _ => rfl) (by omega) (by omega) dX8_order_159 (fun z4 ez4 lz4 uz4 => ?_)
      refine G_iast C W E kd_129 rfl rfl (by decide) (fun _ => rfl) rfl (by omega) (by omega) (by omega) (by omega) dX8_order_160 (fun M5 eM5 WM5 EM5 => ?_)
      have t_M5_110_0 : M5.1 110 0 = M.1 110 0 := by rw [eM5]; exact sI_kd kd_110 kd_129 rfl
      have t_M5_110_11 : M5.1 110 11 = M.1 110 11 := by rw [eM5]; exact sI_kd kd_110 kd_129 rfl
      have t_M5_110_12 : M5.1 110 12 = M.1 110 12 := by rw [eM5]; exact sI_kd kd_110 kd_129 rfl
      have t_M5_110_16 : M5.1 110 16 = M.1 110 16 := by rw [eM5]; exact sI_kd kd_110 kd_129 rfl
      have t_M5_110_17 : M5.1 110 17 = M.1 110 17 := by rw [eM5]; exact sI_kd kd_110 kd_129 rfl
      refine A_iinc (lv' := [(5, .int (iI (v5 + 1))), (0, .ref 110)]) C dX8_order_161 1 rfl (by decide) rfl ?_
      refine A_goto C 138 dX8_order_164 (by decide) ?_
      refine A_pick [1, 0] rfl ?_
      exact ih (v5 + 1) M5 (by omega) (by omega) WM5 EM5
set_option maxHeartbeats 4000000 in
theorem lpX8_order_57 {p : Program} {l : Launch} {e : Env} {s : State} {m : MethodId} {args : Array Value} {below : List Frame} {meth : Method} {c : Code} {G : xG} (C : Cx p s m args meth c G cX8_order 6 RX8 wsX8_order (some .int))  {x1 : Int} {x2 : Int} (hx1 : (-2147483648 : Int) ≤ x1 ∧ x1 ≤ 2147483647) (hx2 : (-2147483648 : Int) ≤ x2 ∧ x2 ≤ 2147483647) {M0 : Mem} {N43 : Nat} (H43 : ∀ (v3 v4 : Int) (M : Mem), mO M v4 < N43 → (0 ≤ v3 ∧ v3 ≤ 1 ∧ 0 ≤ v4 ∧ v4 ≤ 1 ∧ 1 ≤ x1 ∧ x1 ≤ 1000 ∧ 1 ≤ x2 ∧ x2 ≤ 1000 ∧ M0.1 110 16 + M0.1 110 17 ≤ M0.1 110 0 + 1 ∧ M.1 110 0 = M0.1 110 0 ∧ M.1 110 12 = M0.1 110 12 ∧ M.1 110 16 = M0.1 110 16 ∧ M.1 110 17 = M0.1 110 17) → (Dst (M.1 128) (M0.1 110 12).toNat) → WF M → Fr [30, 36, 37, 38, 39, 44, 45, 46, 48, 49] M0 M → AW p l e (rmD 5) s m args below meth c G 6 (QQ G below args s ((fun M r M' => ∃ z : Int, r = some (.int (iI z)) ∧ (-2147483648 : Int) ≤ z ∧ z ≤ 2147483647 ∧ WF M' ∧ Fr [30, 36, 37, 38, 39, 44, 45, 46, 48, 49] M M' ∧ (M'.1 110 0 = M.1 110 0 ∧ M'.1 110 12 = M.1 110 12 ∧ M'.1 110 16 = M.1 110 16 ∧ M'.1 110 17 = M.1 110 17) ∧ M'.1 110 16 + M'.1 110 17 ≤ M'.1 110 0 + 1) M0)) M 43 [(0, .ref 110), (1, .int (iI x1)), (2, .int (iI x2)), (3, .int (iI v3)), (4, .int (iI v4))] []) : ∀ (n : Nat) (v3 v5 : Int) (M : Mem), (7 - v5).toNat < n → (0 ≤ v3 ∧ v3 ≤ 1 ∧ 0 ≤ v5 ∧ v5 ≤ 6 ∧ 1 ≤ x1 ∧ x1 ≤ 1000 ∧ 1 ≤ x2 ∧ x2 ≤ 1000 ∧ M0.1 110 16 + M0.1 110 17 ≤ M0.1 110 0 + 1 ∧ mO M 1 ≤ N43 ∧ M.1 110 0 = M0.1 110 0 ∧ M.1 110 12 = M0.1 110 12 ∧ M.1 110 16 = M0.1 110 16 ∧ M.1 110 17 = M0.1 110 17) → (Dst (M.1 128) (M0.1 110 12).toNat) → WF M → Fr [30, 36, 37, 38, 39, 44, 45, 46, 48, 49] M0 M → AW p l e (rmD 5) s m args below meth c G 6 (QQ G below args s ((fun M r M' => ∃ z : Int, r = some (.int (iI z)) ∧ (-2147483648 : Int) ≤ z ∧ z ≤ 2147483647 ∧ WF M' ∧ Fr [30, 36, 37, 38, 39, 44, 45, 46, 48, 49] M M' ∧ (M'.1 110 0 = M.1 110 0 ∧ M'.1 110 12 = M.1 110 12 ∧ M'.1 110 16 = M.1 110 16 ∧ M'.1 110 17 = M.1 110 17) ∧ M'.1 110 16 + M'.1 110 17 ≤ M'.1 110 0 + 1) M0)) M 57 [(0, .ref 110), (1, .int (iI x1)), (2, .int (iI x2)), (3, .int (iI v3)), (5, .int (iI v5))] [] := by
  intro n
  induction n with
  | zero => intro v3 v5 M hn; exact absurd hn (Nat.not_lt_zero _)
  | succ n ih =>
    intro v3 v5 M hn hi h2 W E
    have fa_110_0 : (0 : Int) ≤ M.1 110 0 ∧ M.1 110 0 ≤ 12 := W.i kd_110 0
    have fa_110_12 : (0 : Int) ≤ M.1 110 12 ∧ M.1 110 12 ≤ 6 := W.i kd_110 12
    refine A_iload C dX8_order_57 4 rfl ?_
    refine A_aloadn C dX8_order_59 0 rfl rfl ?_
    refine G_getI C W kd_110 rfl rfl rfl rfl rfl fX8_order_79 rfl dX8_order_60 (fun z6 ez6 lz6 uz6 => ?_)
    refine A_icmpge C 94 dX8_order_63 (by decide) (by omega) (by omega) (fun c7 => ?_) (fun c7 => ?_)
    · skip
      refine A_iloadn C dX8_order_94 3 rfl rfl ?_
      refine A_ifne C 109 dX8_order_95 (by decide) (by omega) (fun c8 => ?_) (fun c8 => ?_)
      · skip
        refine A_iconst C dX8_order_109 ?_
        refine A_istore (lv' := [(4, .int (iI 0)), (0, .ref 110), (1, .int (iI x1)), (2, .int (iI x2)), (3, .int (iI v3)), (5, .int (iI v5))]) C dX8_order_110 (by decide) rfl ?_
        have hms := mO_0 (M := M) (M' := M)
        refine A_goto C 43 dX8_order_112 (by decide) ?_
        refine A_pick [1, 2, 3, 4, 0] rfl ?_
        exact H43 v3 0 M (by omega) (by omega) h2 W E
      · skip
        refine A_aloadn C dX8_order_98 0 rfl rfl ?_
        skip
        refine A_callV C (n := 0) (st := []) (kX8_another ) gX8_order_X8_another rfl (by decide +kernel) ⟨Nat.le_of_ble_eq_true rfl, Nat.le_of_ble_eq_true rfl⟩ kd_110 rfl rfl rfl rfl (Nat.le_of_ble_eq_true rfl) dX8_order_99 rfl ⟨W, (by rw [show M.1 110 12 = M0.1 110 12 by omega]; exact h2)⟩ (fun r9 M10 h11 => ?_)
        obtain ⟨z13, rfl, lz13, uz13, WM10, FM10, xx12⟩ := h11
        have EM10 := Fr.tr E (FM10.mono (c2 := [30, 36, 37, 38, 39, 44, 45, 46, 48, 49]) rfl)
        have t_M10_110_0 : M10.1 110 0 = _ := congrFun (FM10 110 (by rw [kd_110]; rfl)).1 0
        have t_M10_110_11 : M10.1 110 11 = _ := congrFun (FM10 110 (by rw [kd_110]; rfl)).1 11
        have t_M10_110_12 : M10.1 110 12 = _ := congrFun (FM10 110 (by rw [kd_110]; rfl)).1 12
        have t_M10_110_16 : M10.1 110 16 = _ := congrFun (FM10 110 (by rw [kd_110]; rfl)).1 16
        have t_M10_110_17 : M10.1 110 17 = _ := congrFun (FM10 110 (by rw [kd_110]; rfl)).1 17
        refine A_st (st' := [.int (iI z13)]) rfl ?_
        refine A_ifeq C 109 dX8_order_102 (by decide) (by omega) (fun c14 => ?_) (fun c14 => ?_)
        · skip
          refine A_iconst C dX8_order_109 ?_
          refine A_istore (lv' := [(4, .int (iI 0)), (0, .ref 110), (1, .int (iI x1)), (2, .int (iI x2)), (3, .int (iI v3)), (5, .int (iI v5))]) C dX8_order_110 (by decide) rfl ?_
          have hms := mO_0 (M := M) (M' := M10)
          refine A_goto C 43 dX8_order_112 (by decide) ?_
          refine A_pick [1, 2, 3, 4, 0] rfl ?_
          exact H43 v3 0 M10 (by omega) (by omega) (by have hx := xx12.2; rw [show M.1 110 12 = M0.1 110 12 by omega] at hx; exact hx) WM10 EM10
        · skip
          refine A_iconst C dX8_order_105 ?_
          refine A_goto C 110 dX8_order_106 (by decide) ?_
          refine A_istore (lv' := [(4, .int (iI 1)), (0, .ref 110), (1, .int (iI x1)), (2, .int (iI x2)), (3, .int (iI v3)), (5, .int (iI v5))]) C dX8_order_110 (by decide) rfl ?_
          have hms := mO_lt WM10 (by omega) (xx12.1 (by omega))
          refine A_goto C 43 dX8_order_112 (by decide) ?_
          refine A_pick [1, 2, 3, 4, 0] rfl ?_
          exact H43 v3 1 M10 (by omega) (by omega) (by have hx := xx12.2; rw [show M.1 110 12 = M0.1 110 12 by omega] at hx; exact hx) WM10 EM10
    · skip
      refine A_iloadn C dX8_order_66 3 rfl rfl ?_
      refine A_ifeq C 94 dX8_order_67 (by decide) (by omega) (fun c15 => ?_) (fun c15 => ?_)
      · skip
        refine A_iloadn C dX8_order_94 3 rfl rfl ?_
        refine A_ifne C 109 dX8_order_95 (by decide) (by omega) (fun c16 => ?_) (fun c16 => ?_)
        · skip
          refine A_iconst C dX8_order_109 ?_
          refine A_istore (lv' := [(4, .int (iI 0)), (0, .ref 110), (1, .int (iI x1)), (2, .int (iI x2)), (3, .int (iI v3)), (5, .int (iI v5))]) C dX8_order_110 (by decide) rfl ?_
          have hms := mO_0 (M := M) (M' := M)
          refine A_goto C 43 dX8_order_112 (by decide) ?_
          refine A_pick [1, 2, 3, 4, 0] rfl ?_
          exact H43 v3 0 M (by omega) (by omega) h2 W E
        · skip
          refine A_aloadn C dX8_order_98 0 rfl rfl ?_
          skip
          refine A_callV C (n := 0) (st := []) (kX8_another ) gX8_order_X8_another rfl (by decide +kernel) ⟨Nat.le_of_ble_eq_true rfl, Nat.le_of_ble_eq_true rfl⟩ kd_110 rfl rfl rfl rfl (Nat.le_of_ble_eq_true rfl) dX8_order_99 rfl ⟨W, (by rw [show M.1 110 12 = M0.1 110 12 by omega]; exact h2)⟩ (fun r17 M18 h19 => ?_)
          obtain ⟨z21, rfl, lz21, uz21, WM18, FM18, xx20⟩ := h19
          have EM18 := Fr.tr E (FM18.mono (c2 := [30, 36, 37, 38, 39, 44, 45, 46, 48, 49]) rfl)
          have t_M18_110_0 : M18.1 110 0 = _ := congrFun (FM18 110 (by rw [kd_110]; rfl)).1 0
          have t_M18_110_11 : M18.1 110 11 = _ := congrFun (FM18 110 (by rw [kd_110]; rfl)).1 11
          have t_M18_110_12 : M18.1 110 12 = _ := congrFun (FM18 110 (by rw [kd_110]; rfl)).1 12
          have t_M18_110_16 : M18.1 110 16 = _ := congrFun (FM18 110 (by rw [kd_110]; rfl)).1 16
          have t_M18_110_17 : M18.1 110 17 = _ := congrFun (FM18 110 (by rw [kd_110]; rfl)).1 17
          refine A_st (st' := [.int (iI z21)]) rfl ?_
          refine A_ifeq C 109 dX8_order_102 (by decide) (by omega) (fun c22 => ?_) (fun c22 => ?_)
          · skip
            refine A_iconst C dX8_order_109 ?_
            refine A_istore (lv' := [(4, .int (iI 0)), (0, .ref 110), (1, .int (iI x1)), (2, .int (iI x2)), (3, .int (iI v3)), (5, .int (iI v5))]) C dX8_order_110 (by decide) rfl ?_
            have hms := mO_0 (M := M) (M' := M18)
            refine A_goto C 43 dX8_order_112 (by decide) ?_
            refine A_pick [1, 2, 3, 4, 0] rfl ?_
            exact H43 v3 0 M18 (by omega) (by omega) (by have hx := xx20.2; rw [show M.1 110 12 = M0.1 110 12 by omega] at hx; exact hx) WM18 EM18
          · skip
            refine A_iconst C dX8_order_105 ?_
            refine A_goto C 110 dX8_order_106 (by decide) ?_
            refine A_istore (lv' := [(4, .int (iI 1)), (0, .ref 110), (1, .int (iI x1)), (2, .int (iI x2)), (3, .int (iI v3)), (5, .int (iI v5))]) C dX8_order_110 (by decide) rfl ?_
            have hms := mO_lt WM18 (by omega) (xx20.1 (by omega))
            refine A_goto C 43 dX8_order_112 (by decide) ?_
            refine A_pick [1, 2, 3, 4, 0] rfl ?_
            exact H43 v3 1 M18 (by omega) (by omega) (by have hx := xx20.2; rw [show M.1 110 12 = M0.1 110 12 by omega] at hx; exact hx) WM18 EM18
      · skip
        refine A_aloadn C dX8_order_70 0 rfl rfl ?_
        refine A_aloadn C dX8_order_71 0 rfl rfl ?_
        refine G_getC C W kd_110 rfl rfl rfl rfl uq_48 fX8_order_70 dX8_order_72 ?_
        refine A_iload C dX8_order_75 4 rfl ?_
        refine G_iald C W kd_128 rfl rfl (by decide) (fun _ => rfl) (by omega) (by omega) dX8_order_77 (fun z23 ez23 lz23 uz23 => ?_)
        skip
        refine A_callV C (n := 1) (st := []) (kX8_does  (by omega)) gX8_order_X8_does rfl (by decide +kernel) ⟨Nat.le_of_ble_eq_true rfl, Nat.le_of_ble_eq_true rfl⟩ kd_110 rfl rfl rfl rfl (Nat.le_of_ble_eq_true rfl) dX8_order_78 rfl W (fun r24 M25 h26 => ?_)
        obtain ⟨rfl, WM25, FM25⟩ := h26
        have EM25 := Fr.tr E (FM25.mono (c2 := [30, 36, 37, 38, 39, 44, 45, 46, 48, 49]) rfl)
        have t_M25_110_0 : M25.1 110 0 = _ := congrFun (FM25 110 (by rw [kd_110]; rfl)).1 0
        have t_M25_110_11 : M25.1 110 11 = _ := congrFun (FM25 110 (by rw [kd_110]; rfl)).1 11
        have t_M25_110_12 : M25.1 110 12 = _ := congrFun (FM25 110 (by rw [kd_110]; rfl)).1 12
        have t_M25_110_16 : M25.1 110 16 = _ := congrFun (FM25 110 (by rw [kd_110]; rfl)).1 16
        have t_M25_110_17 : M25.1 110 17 = _ := congrFun (FM25 110 (by rw [kd_110]; rfl)).1 17
        refine A_st (st' := []) rfl ?_
        have hmM25 : mO M25 1 = mO M 1 := mO_eq (FM25 128 (by rw [kd_128]; rfl)).1 (by omega)
        refine A_aloadn C dX8_order_81 0 rfl rfl ?_
        skip
        refine A_iloadn C dX8_order_82 1 rfl rfl ?_
        refine A_iloadn C dX8_order_83 2 rfl rfl ?_
        refine A_callV C (n := 2) (st := []) (kX8_holdsOut  (by omega) (by omega)) gX8_order_X8_holdsOut rfl (by decide +kernel) ⟨Nat.le_of_ble_eq_true rfl, Nat.le_of_ble_eq_true rfl⟩ kd_110 rfl rfl rfl rfl (Nat.le_of_ble_eq_true rfl) dX8_order_84 rfl WM25 (fun r28 M29 h30 => ?_)
        obtain ⟨z32, rfl, lz32, uz32, WM29, FM29, xx31⟩ := h30
        have EM29 := Fr.tr EM25 (FM29.mono (c2 := [30, 36, 37, 38, 39, 44, 45, 46, 48, 49]) rfl)
        refine A_st (st' := [.int (iI z32)]) rfl ?_
        have hmM29 : mO M29 1 = mO M25 1 := mO_eq (FM29 128 (by rw [kd_128]; rfl)).1 (by omega)
        refine A_istoren (lv' := [(3, .int (iI z32)), (0, .ref 110), (1, .int (iI x1)), (2, .int (iI x2)), (5, .int (iI v5))]) C dX8_order_87 rfl (by decide) rfl ?_
        refine A_iinc (lv' := [(5, .int (iI (v5 + 1))), (3, .int (iI z32)), (0, .ref 110), (1, .int (iI x1)), (2, .int (iI x2))]) C dX8_order_88 4 rfl (by decide) rfl ?_
        refine A_goto C 57 dX8_order_91 (by decide) ?_
        refine A_pick [2, 3, 4, 1, 0] rfl ?_
        exact ih z32 (v5 + 1) M29 (by omega) (by omega) (by rw [(FM29 128 (by rw [kd_128]; rfl)).1, (FM25 128 (by rw [kd_128]; rfl)).1]; exact h2) WM29 EM29
set_option maxHeartbeats 4000000 in
theorem lpX8_order_43 {p : Program} {l : Launch} {e : Env} {s : State} {m : MethodId} {args : Array Value} {below : List Frame} {meth : Method} {c : Code} {G : xG} (C : Cx p s m args meth c G cX8_order 6 RX8 wsX8_order (some .int))  {x1 : Int} {x2 : Int} (hx1 : (-2147483648 : Int) ≤ x1 ∧ x1 ≤ 2147483647) (hx2 : (-2147483648 : Int) ≤ x2 ∧ x2 ≤ 2147483647) {M0 : Mem} : ∀ (n : Nat) (v3 v4 : Int) (M : Mem), mO M v4 < n → (0 ≤ v3 ∧ v3 ≤ 1 ∧ 0 ≤ v4 ∧ v4 ≤ 1 ∧ 1 ≤ x1 ∧ x1 ≤ 1000 ∧ 1 ≤ x2 ∧ x2 ≤ 1000 ∧ M0.1 110 16 + M0.1 110 17 ≤ M0.1 110 0 + 1 ∧ M.1 110 0 = M0.1 110 0 ∧ M.1 110 12 = M0.1 110 12 ∧ M.1 110 16 = M0.1 110 16 ∧ M.1 110 17 = M0.1 110 17) → (Dst (M.1 128) (M0.1 110 12).toNat) → WF M → Fr [30, 36, 37, 38, 39, 44, 45, 46, 48, 49] M0 M → AW p l e (rmD 5) s m args below meth c G 6 (QQ G below args s ((fun M r M' => ∃ z : Int, r = some (.int (iI z)) ∧ (-2147483648 : Int) ≤ z ∧ z ≤ 2147483647 ∧ WF M' ∧ Fr [30, 36, 37, 38, 39, 44, 45, 46, 48, 49] M M' ∧ (M'.1 110 0 = M.1 110 0 ∧ M'.1 110 12 = M.1 110 12 ∧ M'.1 110 16 = M.1 110 16 ∧ M'.1 110 17 = M.1 110 17) ∧ M'.1 110 16 + M'.1 110 17 ≤ M'.1 110 0 + 1) M0)) M 43 [(0, .ref 110), (1, .int (iI x1)), (2, .int (iI x2)), (3, .int (iI v3)), (4, .int (iI v4))] [] := by
  intro n
  induction n with
  | zero => intro v3 v4 M hn; exact absurd hn (Nat.not_lt_zero _)
  | succ n ih =>
    intro v3 v4 M hn hi h2 W E
    have fa_110_0 : (0 : Int) ≤ M.1 110 0 ∧ M.1 110 0 ≤ 12 := W.i kd_110 0
    have fa_110_12 : (0 : Int) ≤ M.1 110 12 ∧ M.1 110 12 ≤ 6 := W.i kd_110 12
    refine A_iload C dX8_order_43 4 rfl ?_
    refine A_ifeq C 115 dX8_order_45 (by decide) (by omega) (fun c33 => ?_) (fun c33 => ?_)
    · skip
      refine A_aloadn C dX8_order_115 0 rfl rfl ?_
      refine A_iconst C dX8_order_116 ?_
      refine G_putI C W E kd_110 rfl rfl rfl rfl rfl fX8_order_96 ⟨tyX8_ok, nmX8, rfl, by decide⟩ (Or.inl rfl) rfl rfl (by omega) (by omega) dX8_order_117 (fun M34 eM34 WM34 EM34 => ?_)
      have t_M34_110_0 : M34.1 110 0 = M.1 110 0 := by rw [eM34]; exact sI_pl rfl
      have t_M34_110_11 : M34.1 110 11 = 0 := by rw [eM34]; exact sI_at
      have t_M34_110_12 : M34.1 110 12 = M.1 110 12 := by rw [eM34]; exact sI_pl rfl
      have t_M34_110_16 : M34.1 110 16 = M.1 110 16 := by rw [eM34]; exact sI_pl rfl
      have t_M34_110_17 : M34.1 110 17 = M.1 110 17 := by rw [eM34]; exact sI_pl rfl
      refine A_iloadn C dX8_order_120 3 rfl rfl ?_
      refine A_ifne C 127 dX8_order_121 (by decide) (by omega) (fun c35 => ?_) (fun c35 => ?_)
      · skip
        refine A_aloadn C dX8_order_127 0 rfl rfl ?_
        refine A_aloadn C dX8_order_128 0 rfl rfl ?_
        refine G_getI C WM34 kd_110 rfl rfl rfl rfl rfl fX8_order_79 rfl dX8_order_129 (fun z36 ez36 lz36 uz36 => ?_)
        refine G_putI C WM34 EM34 kd_110 rfl rfl rfl rfl rfl fX8_order_189 ⟨tyX8_ok, nmX8, rfl, by decide⟩ (Or.inl rfl) rfl rfl (by omega) (by omega) dX8_order_132 (fun M37 eM37 WM37 EM37 => ?_)
        have t_M37_110_0 : M37.1 110 0 = M34.1 110 0 := by rw [eM37]; exact sI_pl rfl
        have t_M37_110_11 : M37.1 110 11 = M34.1 110 11 := by rw [eM37]; exact sI_pl rfl
        have t_M37_110_12 : M37.1 110 12 = M34.1 110 12 := by rw [eM37]; exact sI_pl rfl
        have t_M37_110_16 : M37.1 110 16 = M34.1 110 16 := by rw [eM37]; exact sI_pl rfl
        have t_M37_110_17 : M37.1 110 17 = M34.1 110 17 := by rw [eM37]; exact sI_pl rfl
        refine A_iconst C dX8_order_135 ?_
        refine A_istore (lv' := [(5, .int (iI 0)), (0, .ref 110), (1, .int (iI x1)), (2, .int (iI x2)), (3, .int (iI v3)), (4, .int (iI v4))]) C dX8_order_136 (by decide) rfl ?_
        refine A_pick [1, 0] rfl ?_
        exact lpX8_order_138 C  hx1 hx2 ((7 - (0 : Int)).toNat + 1) 0 M37 (by omega) (by omega) WM37 EM37
      · skip
        refine A_bipush C dX8_order_124 (by decide) ?_
        exact A_iret C dX8_order_126 ⟨(-2), rfl, by omega, by omega, WM34, EM34, by omega⟩
    · skip
      refine A_aloadn C dX8_order_48 0 rfl rfl ?_
      skip
      have hv4 : v4 = 1 := by omega
      rw [hv4] at hn
      refine A_callV C (n := 0) (st := []) (kX8_tries ) gX8_order_X8_tries rfl (by decide +kernel) ⟨Nat.le_of_ble_eq_true rfl, Nat.le_of_ble_eq_true rfl⟩ kd_110 rfl rfl rfl rfl (Nat.le_of_ble_eq_true rfl) dX8_order_49 rfl W (fun r38 M39 h40 => ?_)
      obtain ⟨rfl, WM39, FM39, xx41⟩ := h40
      have EM39 := Fr.tr E (FM39.mono (c2 := [30, 36, 37, 38, 39, 44, 45, 46, 48, 49]) rfl)
      refine A_st (st' := []) rfl ?_
      have hmM39 : mO M39 1 = mO M 1 := mO_eq (FM39 128 (by rw [kd_128]; rfl)).1 (by omega)
      refine A_iconst C dX8_order_52 ?_
      refine A_istoren (lv' := [(3, .int (iI 1)), (0, .ref 110), (1, .int (iI x1)), (2, .int (iI x2)), (4, .int (iI v4))]) C dX8_order_53 rfl (by decide) rfl ?_
      refine A_iconst C dX8_order_54 ?_
      refine A_istore (lv' := [(5, .int (iI 0)), (3, .int (iI 1)), (0, .ref 110), (1, .int (iI x1)), (2, .int (iI x2)), (4, .int (iI v4))]) C dX8_order_55 (by decide) rfl ?_
      refine A_pick [2, 3, 4, 1, 0] rfl ?_
      exact lpX8_order_57 C  hx1 hx2 ih ((7 - (0 : Int)).toNat + 1) 1 0 M39 (by omega) (by omega) (by rw [(FM39 128 (by rw [kd_128]; rfl)).1]; exact h2) WM39 EM39
set_option maxHeartbeats 4000000 in
theorem lpX8_order_17 {p : Program} {l : Launch} {e : Env} {s : State} {m : MethodId} {args : Array Value} {below : List Frame} {meth : Method} {c : Code} {G : xG} (C : Cx p s m args meth c G cX8_order 6 RX8 wsX8_order (some .int))  {x1 : Int} {x2 : Int} (hx1 : (-2147483648 : Int) ≤ x1 ∧ x1 ≤ 2147483647) (hx2 : (-2147483648 : Int) ≤ x2 ∧ x2 ≤ 2147483647) {M0 : Mem} : ∀ (n : Nat) (v3 : Int) (M : Mem), (7 - v3).toNat < n → (0 ≤ v3 ∧ v3 ≤ M0.1 110 12 ∧ 1 ≤ x1 ∧ x1 ≤ 1000 ∧ 1 ≤ x2 ∧ x2 ≤ 1000 ∧ M0.1 110 16 + M0.1 110 17 ≤ M0.1 110 0 + 1 ∧ M.1 110 0 = M0.1 110 0 ∧ M.1 110 12 = M0.1 110 12 ∧ M.1 110 16 = M0.1 110 16 ∧ M.1 110 17 = M0.1 110 17) → (Idn M v3) → WF M → Fr [30, 36, 37, 38, 39, 44, 45, 46, 48, 49] M0 M → AW p l e (rmD 5) s m args below meth c G 6 (QQ G below args s ((fun M r M' => ∃ z : Int, r = some (.int (iI z)) ∧ (-2147483648 : Int) ≤ z ∧ z ≤ 2147483647 ∧ WF M' ∧ Fr [30, 36, 37, 38, 39, 44, 45, 46, 48, 49] M M' ∧ (M'.1 110 0 = M.1 110 0 ∧ M'.1 110 12 = M.1 110 12 ∧ M'.1 110 16 = M.1 110 16 ∧ M'.1 110 17 = M.1 110 17) ∧ M'.1 110 16 + M'.1 110 17 ≤ M'.1 110 0 + 1) M0)) M 17 [(0, .ref 110), (1, .int (iI x1)), (2, .int (iI x2)), (3, .int (iI v3))] [] := by
  intro n
  induction n with
  | zero => intro v3 M hn; exact absurd hn (Nat.not_lt_zero _)
  | succ n ih =>
    intro v3 M hn hi h2 W E
    have fa_110_0 : (0 : Int) ≤ M.1 110 0 ∧ M.1 110 0 ≤ 12 := W.i kd_110 0
    have fa_110_12 : (0 : Int) ≤ M.1 110 12 ∧ M.1 110 12 ≤ 6 := W.i kd_110 12
    refine A_iloadn C dX8_order_17 3 rfl rfl ?_
    refine A_aloadn C dX8_order_18 0 rfl rfl ?_
    refine G_getI C W kd_110 rfl rfl rfl rfl rfl fX8_order_79 rfl dX8_order_19 (fun z42 ez42 lz42 uz42 => ?_)
    refine A_icmpge C 38 dX8_order_22 (by decide) (by omega) (by omega) (fun c43 => ?_) (fun c43 => ?_)
    · skip
      refine A_iconst C dX8_order_38 ?_
      refine A_istoren (lv' := [(3, .int (iI 0)), (0, .ref 110), (1, .int (iI x1)), (2, .int (iI x2))]) C dX8_order_39 rfl (by decide) rfl ?_
      refine A_iconst C dX8_order_40 ?_
      refine A_istore (lv' := [(4, .int (iI 1)), (3, .int (iI 0)), (0, .ref 110), (1, .int (iI x1)), (2, .int (iI x2))]) C dX8_order_41 (by decide) rfl ?_
      refine A_pick [2, 3, 4, 1, 0] rfl ?_
      exact lpX8_order_43 C  hx1 hx2 (mO M (1 : Int) + 1) 0 1 M (by omega) (by omega) (Idn_dst h2 (by omega)) W E
    · skip
      refine A_aloadn C dX8_order_25 0 rfl rfl ?_
      refine G_getC C W kd_110 rfl rfl rfl rfl uq_48 fX8_order_70 dX8_order_26 ?_
      refine A_iloadn C dX8_order_29 3 rfl rfl ?_
      refine A_iloadn C dX8_order_30 3 rfl rfl ?_
      refine G_iast C W E kd_128 rfl rfl (by decide) (fun _ => rfl) rfl (by omega) (by omega) (by omega) (by omega) dX8_order_31 (fun M44 eM44 WM44 EM44 => ?_)
      have t_M44_110_0 : M44.1 110 0 = M.1 110 0 := by rw [eM44]; exact sI_kd kd_110 kd_128 rfl
      have t_M44_110_11 : M44.1 110 11 = M.1 110 11 := by rw [eM44]; exact sI_kd kd_110 kd_128 rfl
      have t_M44_110_12 : M44.1 110 12 = M.1 110 12 := by rw [eM44]; exact sI_kd kd_110 kd_128 rfl
      have t_M44_110_16 : M44.1 110 16 = M.1 110 16 := by rw [eM44]; exact sI_kd kd_110 kd_128 rfl
      have t_M44_110_17 : M44.1 110 17 = M.1 110 17 := by rw [eM44]; exact sI_kd kd_110 kd_128 rfl
      refine A_iinc (lv' := [(3, .int (iI (v3 + 1))), (0, .ref 110), (1, .int (iI x1)), (2, .int (iI x2))]) C dX8_order_32 3 rfl (by decide) rfl ?_
      refine A_goto C 17 dX8_order_35 (by decide) ?_
      refine A_pick [1, 2, 3, 0] rfl ?_
      exact ih (v3 + 1) M44 (by omega) (by omega) (Idn_s h2 (by omega) eM44) WM44 EM44
set_option maxHeartbeats 4000000 in
theorem kX8_order  {x1 : Int} {x2 : Int} (hx1 : (-2147483648 : Int) ≤ x1 ∧ x1 ≤ 2147483647) (hx2 : (-2147483648 : Int) ≤ x2 ∧ x2 ≤ 2147483647) : Ct yX8_order wsX8_order 5 [.ref 110, .int (iI x1), .int (iI x2)] (fun M => WF M ∧ (M.1 110 16 + M.1 110 17 ≤ M.1 110 0 + 1)) (fun M r M' => ∃ z : Int, r = some (.int (iI z)) ∧ (-2147483648 : Int) ≤ z ∧ z ≤ 2147483647 ∧ WF M' ∧ Fr [30, 36, 37, 38, 39, 44, 45, 46, 48, 49] M M' ∧ (M'.1 110 0 = M.1 110 0 ∧ M'.1 110 12 = M.1 110 12 ∧ M'.1 110 16 = M.1 110 16 ∧ M'.1 110 17 = M.1 110 17) ∧ M'.1 110 16 + M'.1 110 17 ≤ M'.1 110 0 + 1) := by
  refine Ct_of (cc := cX8_order) (nL := 6) (rt := (some .int)) (own := RX8) rfl (by decide) rfl (Nat.le_of_ble_eq_true rfl) ?_
  intro p l e s m args below meth c G M0 C W
  obtain ⟨W, hM⟩ := W
  have E : Fr [30, 36, 37, 38, 39, 44, 45, 46, 48, 49] M0 M0 := Fr.rf
  refine A_lv (lv' := [(0, .ref 110), (1, .int (iI x1)), (2, .int (iI x2))]) rfl ?_
  have fa_110_0 : (0 : Int) ≤ M0.1 110 0 ∧ M0.1 110 0 ≤ 12 := W.i kd_110 0
  have fa_110_12 : (0 : Int) ≤ M0.1 110 12 ∧ M0.1 110 12 ≤ 6 := W.i kd_110 12
  refine A_aloadn C dX8_order_0 0 rfl rfl ?_
  refine A_iconst C dX8_order_1 ?_
  refine G_putI C W E kd_110 rfl rfl rfl rfl rfl fX8_order_76 ⟨tyX8_ok, nmX8, rfl, by decide⟩ (Or.inl rfl) rfl rfl (by omega) (by omega) dX8_order_2 (fun M45 eM45 WM45 EM45 => ?_)
  have t_M45_110_0 : M45.1 110 0 = M0.1 110 0 := by rw [eM45]; exact sI_pl rfl
  have t_M45_110_11 : M45.1 110 11 = M0.1 110 11 := by rw [eM45]; exact sI_pl rfl
  have t_M45_110_12 : M45.1 110 12 = M0.1 110 12 := by rw [eM45]; exact sI_pl rfl
  have t_M45_110_16 : M45.1 110 16 = M0.1 110 16 := by rw [eM45]; exact sI_pl rfl
  have t_M45_110_17 : M45.1 110 17 = M0.1 110 17 := by rw [eM45]; exact sI_pl rfl
  refine A_iloadn C dX8_order_5 1 rfl rfl ?_
  refine A_iloadn C dX8_order_6 2 rfl rfl ?_
  refine A_callS C (n := 2) (st := []) (kX8_areShares  (by omega) (by omega)) gX8_order_X8_areShares rfl (by decide +kernel) ⟨Nat.le_of_ble_eq_true rfl, Nat.le_of_ble_eq_true rfl⟩ rfl (Nat.le_of_ble_eq_true rfl) dX8_order_7 rfl WM45 (fun r46 M47 h48 => ?_)
  obtain ⟨z50, rfl, lz50, uz50, rfl, xx49⟩ := h48
  refine A_st (st' := [.int (iI z50)]) rfl ?_
  refine A_ifne C 15 dX8_order_10 (by decide) (by omega) (fun c51 => ?_) (fun c51 => ?_)
  · skip
    refine A_iconst C dX8_order_15 ?_
    refine A_istoren (lv' := [(3, .int (iI 0)), (0, .ref 110), (1, .int (iI x1)), (2, .int (iI x2))]) C dX8_order_16 rfl (by decide) rfl ?_
    refine A_pick [1, 2, 3, 0] rfl ?_
    exact lpX8_order_17 C  hx1 hx2 ((7 - (0 : Int)).toNat + 1) 0 M45 (by omega) (by omega) Idn_0 WM45 EM45
  · skip
    refine A_iconst C dX8_order_13 ?_
    exact A_iret C dX8_order_14 ⟨(-1), rfl, by omega, by omega, WM45, EM45, by omega⟩
