theorem uX8_another_8 : ∀ w ∈ u_ws RX8 TX8 35, w ∈ wsX8_another := by decide +kernel
theorem fX8_another_70 : Fl RX8 wsX8_another 8 32 70 RX8 TX8 35 := ⟨rfl, by decide, uX8_another_8, by decide +kernel⟩
theorem fX8_another_79 : Fl RX8 wsX8_another 8 12 79 RX8 TX8 35 := ⟨rfl, by decide, uX8_another_8, by decide +kernel⟩
set_option maxHeartbeats 4000000 in
theorem lpX8_another_85 {p : Program} {l : Launch} {e : Env} {s : State} {m : MethodId} {args : Array Value} {below : List Frame} {meth : Method} {c : Code} {G : xG} (C : Cx p s m args meth c G cX8_another 4 RX8 wsX8_another (some .boolean))   {M0 : Mem} : ∀ (n : Nat) (v1 v2 v3 : Int) (M : Mem), (7 - v2).toNat < n → (0 ≤ v1 ∧ v1 < v2 ∧ v2 ≤ 7 ∧ v1 - 1 ≤ v3 ∧ v3 ≤ M0.1 110 12 - 1 ∧ v1 ≤ M0.1 110 12 - 2 ∧ M.1 110 0 = M0.1 110 0 ∧ M.1 110 11 = M0.1 110 11 ∧ M.1 110 12 = M0.1 110 12 ∧ M.1 110 16 = M0.1 110 16 ∧ M.1 110 17 = M0.1 110 17) → (WF M0 ∧ Up M0 M v1.toNat (M0.1 110 12).toNat) → WF M → Fr [48] M0 M → AW p l e (rmD 2) s m args below meth c G 4 (QQ G below args s ((fun M r M' => ∃ z : Int, r = some (.int (iI z)) ∧ (0 : Int) ≤ z ∧ z ≤ 1 ∧ WF M' ∧ Fr [48] M M' ∧ (z = 1 → numR (M.1 128) (M.1 110 12).toNat < numR (M'.1 128) (M.1 110 12).toNat) ∧ Dst (M'.1 128) (M.1 110 12).toNat) M0)) M 85 [(0, .ref 110), (1, .int (iI v1)), (2, .int (iI v2)), (3, .int (iI v3))] [] := by
  intro n
  induction n with
  | zero => intro v1 v2 v3 M hn; exact absurd hn (Nat.not_lt_zero _)
  | succ n ih =>
    intro v1 v2 v3 M hn hi h2 W E
    have fa_110_12 : (0 : Int) ≤ M.1 110 12 ∧ M.1 110 12 ≤ 6 := W.i kd_110 12
    refine A_iloadn C dX8_another_85 2 rfl rfl ?_
    refine A_iloadn C dX8_another_86 3 rfl rfl ?_
    refine A_icmpge C 105 dX8_another_87 (by decide) (by omega) (by omega) (fun c1 => ?_) (fun c1 => ?_)
    · skip
      refine A_iconst C dX8_another_105 ?_
      exact A_zret C (by omega) dX8_another_106 ⟨1, rfl, by omega, by omega, W, E, ⟨fun _ => Up_num h2.1 W h2.2 (by omega), h2.2.1⟩⟩
    · skip
      refine A_aloadn C dX8_another_90 0 rfl rfl ?_
      refine A_iloadn C dX8_another_91 2 rfl rfl ?_
      refine A_iloadn C dX8_another_92 3 rfl rfl ?_
      refine A_callV C (n := 2) (st := []) (kX8_swap_f  (by omega) (by omega)) gX8_another_X8_swap rfl (by decide +kernel) ⟨Nat.le_of_ble_eq_true rfl, Nat.le_of_ble_eq_true rfl⟩ kd_110 rfl rfl rfl rfl (Nat.le_of_ble_eq_true rfl) dX8_another_93 rfl W (fun r2 M3 h4 => ?_)
      obtain ⟨rfl, WM3, FM3, xx5⟩ := h4
      have EM3 := Fr.tr E (FM3.mono (c2 := [48]) rfl)
      have t_M3_110_0 : M3.1 110 0 = _ := congrFun (FM3 110 (by rw [kd_110]; rfl)).1 0
      have t_M3_110_11 : M3.1 110 11 = _ := congrFun (FM3 110 (by rw [kd_110]; rfl)).1 11
      have t_M3_110_12 : M3.1 110 12 = _ := congrFun (FM3 110 (by rw [kd_110]; rfl)).1 12
      have t_M3_110_16 : M3.1 110 16 = _ := congrFun (FM3 110 (by rw [kd_110]; rfl)).1 16
      have t_M3_110_17 : M3.1 110 17 = _ := congrFun (FM3 110 (by rw [kd_110]; rfl)).1 17
      refine A_st (st' := []) rfl ?_
      refine A_iinc (lv' := [(2, .int (iI (v2 + 1))), (0, .ref 110), (1, .int (iI v1)), (3, .int (iI v3))]) C dX8_another_96 2 rfl (by decide) rfl ?_
      refine A_iinc (lv' := [(3, .int (iI (v3 + (-1)))), (2, .int (iI (v2 + 1))), (0, .ref 110), (1, .int (iI v1))]) C dX8_another_99 3 rfl (by decide) rfl ?_
      refine A_goto C 85 dX8_another_102 (by decide) ?_
      refine A_pick [2, 3, 1, 0] rfl ?_
      exact ih v1 (v2 + 1) (v3 + (-1)) M3 (by omega) (by omega) ⟨h2.1, Up_swp h2.2 (by omega) (by omega) (by omega) (by omega) xx5⟩ WM3 EM3
set_option maxHeartbeats 4000000 in
theorem lpX8_another_47 {p : Program} {l : Launch} {e : Env} {s : State} {m : MethodId} {args : Array Value} {below : List Frame} {meth : Method} {c : Code} {G : xG} (C : Cx p s m args meth c G cX8_another 4 RX8 wsX8_another (some .boolean))   {M0 : Mem} : ∀ (n : Nat) (v1 v2 : Int) (M : Mem), (v2).toNat < n → (0 ≤ v1 ∧ v1 < v2 ∧ v2 ≤ M0.1 110 12 - 1 ∧ M.1 128 v1.toNat ≤ M.1 128 (v1 + 1).toNat ∧ M.1 110 0 = M0.1 110 0 ∧ M.1 110 11 = M0.1 110 11 ∧ M.1 110 12 = M0.1 110 12 ∧ M.1 110 16 = M0.1 110 16 ∧ M.1 110 17 = M0.1 110 17) → (M.1 = M0.1 ∧ Dst (M0.1 128) (M0.1 110 12).toNat ∧ WF M0) → WF M → Fr [48] M0 M → AW p l e (rmD 2) s m args below meth c G 4 (QQ G below args s ((fun M r M' => ∃ z : Int, r = some (.int (iI z)) ∧ (0 : Int) ≤ z ∧ z ≤ 1 ∧ WF M' ∧ Fr [48] M M' ∧ (z = 1 → numR (M.1 128) (M.1 110 12).toNat < numR (M'.1 128) (M.1 110 12).toNat) ∧ Dst (M'.1 128) (M.1 110 12).toNat) M0)) M 47 [(0, .ref 110), (1, .int (iI v1)), (2, .int (iI v2))] [] := by
  intro n
  induction n with
  | zero => intro v1 v2 M hn; exact absurd hn (Nat.not_lt_zero _)
  | succ n ih =>
    intro v1 v2 M hn hi h2 W E
    have fa_110_12 : (0 : Int) ≤ M.1 110 12 ∧ M.1 110 12 ≤ 6 := W.i kd_110 12
    refine A_aloadn C dX8_another_47 0 rfl rfl ?_
    refine G_getC C W kd_110 rfl rfl rfl rfl uq_48 fX8_another_70 dX8_another_48 ?_
    refine A_iloadn C dX8_another_51 2 rfl rfl ?_
    refine G_iald C W kd_128 rfl rfl (by decide) (fun _ => rfl) (by omega) (by omega) dX8_another_52 (fun z6 ez6 lz6 uz6 => ?_)
    refine A_aloadn C dX8_another_53 0 rfl rfl ?_
    refine G_getC C W kd_110 rfl rfl rfl rfl uq_48 fX8_another_70 dX8_another_54 ?_
    refine A_iloadn C dX8_another_57 1 rfl rfl ?_
    refine G_iald C W kd_128 rfl rfl (by decide) (fun _ => rfl) (by omega) (by omega) dX8_another_58 (fun z7 ez7 lz7 uz7 => ?_)
    have hq : v2 = v1 + 1 → M.1 128 v2.toNat = M.1 128 (v1 + 1).toNat := fun q => by rw [q]
    refine A_icmpge C 68 dX8_another_59 (by decide) (by omega) (by omega) (fun c8 => ?_) (fun c8 => ?_)
    · skip
      refine A_aloadn C dX8_another_68 0 rfl rfl ?_
      refine A_iloadn C dX8_another_69 2 rfl rfl ?_
      refine A_iloadn C dX8_another_70 1 rfl rfl ?_
      refine A_callV C (n := 2) (st := []) (kX8_swap_f  (by omega) (by omega)) gX8_another_X8_swap rfl (by decide +kernel) ⟨Nat.le_of_ble_eq_true rfl, Nat.le_of_ble_eq_true rfl⟩ kd_110 rfl rfl rfl rfl (Nat.le_of_ble_eq_true rfl) dX8_another_71 rfl W (fun r9 M10 h11 => ?_)
      obtain ⟨rfl, WM10, FM10, xx12⟩ := h11
      have EM10 := Fr.tr E (FM10.mono (c2 := [48]) rfl)
      have t_M10_110_0 : M10.1 110 0 = _ := congrFun (FM10 110 (by rw [kd_110]; rfl)).1 0
      have t_M10_110_11 : M10.1 110 11 = _ := congrFun (FM10 110 (by rw [kd_110]; rfl)).1 11
      have t_M10_110_12 : M10.1 110 12 = _ := congrFun (FM10 110 (by rw [kd_110]; rfl)).1 12
      have t_M10_110_16 : M10.1 110 16 = _ := congrFun (FM10 110 (by rw [kd_110]; rfl)).1 16
      have t_M10_110_17 : M10.1 110 17 = _ := congrFun (FM10 110 (by rw [kd_110]; rfl)).1 17
      refine A_st (st' := []) rfl ?_
      refine A_iloadn C dX8_another_74 1 rfl rfl ?_
      refine A_iconst C dX8_another_75 ?_
      skip
      refine A_iadd C dX8_another_76 ?_
      refine A_nami (fun z13 ez13 => ?_)
      refine A_istoren (lv' := [(2, .int (iI z13)), (0, .ref 110), (1, .int (iI v1))]) C dX8_another_77 rfl (by decide) rfl ?_
      refine A_aloadn C dX8_another_78 1 rfl rfl ?_
      refine G_getI C WM10 kd_110 rfl rfl rfl rfl rfl fX8_another_79 rfl dX8_another_79 (fun z14 ez14 lz14 uz14 => ?_)
      refine A_iconst C dX8_another_82 ?_
      refine A_isub C dX8_another_83 ?_
      refine A_nami (fun z15 ez15 => ?_)
      refine A_istoren (lv' := [(3, .int (iI z15)), (2, .int (iI z13)), (0, .ref 110), (1, .int (iI v1))]) C dX8_another_84 rfl (by decide) rfl ?_
      refine A_pick [2, 3, 1, 0] rfl ?_
      exact lpX8_another_85 C   ((7 - z13).toNat + 1) v1 z13 z15 M10 (by omega) (by omega) ⟨h2.2.2, Up_f h2.1 h2.2.1 (by omega) (by omega) (by omega) (by omega) xx12⟩ WM10 EM10
    · skip
      refine A_iinc (lv' := [(2, .int (iI (v2 + (-1)))), (0, .ref 110), (1, .int (iI v1))]) C dX8_another_62 2 rfl (by decide) rfl ?_
      refine A_goto C 47 dX8_another_65 (by decide) ?_
      refine A_pick [1, 2, 0] rfl ?_
      exact ih v1 (v2 + (-1)) M (by omega) (by omega) h2 W E
set_option maxHeartbeats 4000000 in
theorem lpX8_another_7 {p : Program} {l : Launch} {e : Env} {s : State} {m : MethodId} {args : Array Value} {below : List Frame} {meth : Method} {c : Code} {G : xG} (C : Cx p s m args meth c G cX8_another 4 RX8 wsX8_another (some .boolean))   {M0 : Mem} : ∀ (n : Nat) (v1 : Int) (M : Mem), (v1 + 2).toNat < n → (-2 ≤ v1 ∧ v1 ≤ M0.1 110 12 - 2 ∧ M.1 110 0 = M0.1 110 0 ∧ M.1 110 11 = M0.1 110 11 ∧ M.1 110 12 = M0.1 110 12 ∧ M.1 110 16 = M0.1 110 16 ∧ M.1 110 17 = M0.1 110 17) → (M.1 = M0.1 ∧ Dst (M0.1 128) (M0.1 110 12).toNat ∧ WF M0) → WF M → Fr [48] M0 M → AW p l e (rmD 2) s m args below meth c G 4 (QQ G below args s ((fun M r M' => ∃ z : Int, r = some (.int (iI z)) ∧ (0 : Int) ≤ z ∧ z ≤ 1 ∧ WF M' ∧ Fr [48] M M' ∧ (z = 1 → numR (M.1 128) (M.1 110 12).toNat < numR (M'.1 128) (M.1 110 12).toNat) ∧ Dst (M'.1 128) (M.1 110 12).toNat) M0)) M 7 [(0, .ref 110), (1, .int (iI v1))] [] := by
  intro n
  induction n with
  | zero => intro v1 M hn; exact absurd hn (Nat.not_lt_zero _)
  | succ n ih =>
    intro v1 M hn hi h2 W E
    have fa_110_12 : (0 : Int) ≤ M.1 110 12 ∧ M.1 110 12 ≤ 6 := W.i kd_110 12
    refine A_iloadn C dX8_another_7 1 rfl rfl ?_
    refine A_iflt C 34 dX8_another_8 (by decide) (by omega) (fun c16 => ?_) (fun c16 => ?_)
    · skip
      refine A_iloadn C dX8_another_34 1 rfl rfl ?_
      refine A_ifge C 40 dX8_another_35 (by decide) (by omega) (fun c17 => ?_) (fun c17 => ?_)
      · skip
        refine A_aloadn C dX8_another_40 0 rfl rfl ?_
        refine G_getI C W kd_110 rfl rfl rfl rfl rfl fX8_another_79 rfl dX8_another_41 (fun z18 ez18 lz18 uz18 => ?_)
        refine A_iconst C dX8_another_44 ?_
        refine A_isub C dX8_another_45 ?_
        refine A_nami (fun z19 ez19 => ?_)
        refine A_istoren (lv' := [(2, .int (iI z19)), (0, .ref 110), (1, .int (iI v1))]) C dX8_another_46 rfl (by decide) rfl ?_
        refine A_pick [1, 2, 0] rfl ?_
        exact lpX8_another_47 C   ((z19).toNat + 1) v1 z19 M (by omega) (by omega) h2 W E
      · skip
        refine A_iconst C dX8_another_38 ?_
        exact A_zret C (by omega) dX8_another_39 ⟨0, rfl, by omega, by omega, W, E, ⟨fun hh => absurd hh (by decide), by rw [h2.1]; exact h2.2.1⟩⟩
    · skip
      refine A_aloadn C dX8_another_11 0 rfl rfl ?_
      refine G_getC C W kd_110 rfl rfl rfl rfl uq_48 fX8_another_70 dX8_another_12 ?_
      refine A_iloadn C dX8_another_15 1 rfl rfl ?_
      refine G_iald C W kd_128 rfl rfl (by decide) (fun _ => rfl) (by omega) (by omega) dX8_another_16 (fun z20 ez20 lz20 uz20 => ?_)
      refine A_aloadn C dX8_another_17 0 rfl rfl ?_
      refine G_getC C W kd_110 rfl rfl rfl rfl uq_48 fX8_another_70 dX8_another_18 ?_
      refine A_iloadn C dX8_another_21 1 rfl rfl ?_
      refine A_iconst C dX8_another_22 ?_
      refine A_iadd C dX8_another_23 ?_
      refine G_iald C W kd_128 rfl rfl (by decide) (fun _ => rfl) (by omega) (by omega) dX8_another_24 (fun z21 ez21 lz21 uz21 => ?_)
      refine A_icmple C 34 dX8_another_25 (by decide) (by omega) (by omega) (fun c22 => ?_) (fun c22 => ?_)
      · skip
        refine A_iloadn C dX8_another_34 1 rfl rfl ?_
        refine A_ifge C 40 dX8_another_35 (by decide) (by omega) (fun c23 => ?_) (fun c23 => ?_)
        · skip
          refine A_aloadn C dX8_another_40 0 rfl rfl ?_
          refine G_getI C W kd_110 rfl rfl rfl rfl rfl fX8_another_79 rfl dX8_another_41 (fun z24 ez24 lz24 uz24 => ?_)
          refine A_iconst C dX8_another_44 ?_
          refine A_isub C dX8_another_45 ?_
          refine A_nami (fun z25 ez25 => ?_)
          refine A_istoren (lv' := [(2, .int (iI z25)), (0, .ref 110), (1, .int (iI v1))]) C dX8_another_46 rfl (by decide) rfl ?_
          refine A_pick [1, 2, 0] rfl ?_
          exact lpX8_another_47 C   ((z25).toNat + 1) v1 z25 M (by omega) (by omega) h2 W E
        · skip
          refine A_iconst C dX8_another_38 ?_
          exact A_zret C (by omega) dX8_another_39 ⟨0, rfl, by omega, by omega, W, E, ⟨fun hh => absurd hh (by decide), by rw [h2.1]; exact h2.2.1⟩⟩
      · skip
        refine A_iinc (lv' := [(1, .int (iI (v1 + (-1)))), (0, .ref 110)]) C dX8_another_28 1 rfl (by decide) rfl ?_
        refine A_goto C 7 dX8_another_31 (by decide) ?_
        refine A_pick [1, 0] rfl ?_
        exact ih (v1 + (-1)) M (by omega) (by omega) h2 W E
set_option maxHeartbeats 4000000 in
theorem kX8_another   : Ct yX8_another wsX8_another 2 [.ref 110] (fun M => WF M ∧ (Dst (M.1 128) (M.1 110 12).toNat)) (fun M r M' => ∃ z : Int, r = some (.int (iI z)) ∧ (0 : Int) ≤ z ∧ z ≤ 1 ∧ WF M' ∧ Fr [48] M M' ∧ (z = 1 → numR (M.1 128) (M.1 110 12).toNat < numR (M'.1 128) (M.1 110 12).toNat) ∧ Dst (M'.1 128) (M.1 110 12).toNat) := by
  refine Ct_of (cc := cX8_another) (nL := 4) (rt := (some .boolean)) (own := RX8) rfl (by decide) rfl (Nat.le_of_ble_eq_true rfl) ?_
  intro p l e s m args below meth c G M0 C W
  obtain ⟨W, hM⟩ := W
  have E : Fr [48] M0 M0 := Fr.rf
  refine A_lv (lv' := [(0, .ref 110)]) rfl ?_
  have fa_110_12 : (0 : Int) ≤ M0.1 110 12 ∧ M0.1 110 12 ≤ 6 := W.i kd_110 12
  refine A_aloadn C dX8_another_0 0 rfl rfl ?_
  refine G_getI C W kd_110 rfl rfl rfl rfl rfl fX8_another_79 rfl dX8_another_1 (fun z26 ez26 lz26 uz26 => ?_)
  refine A_iconst C dX8_another_4 ?_
  refine A_isub C dX8_another_5 ?_
  refine A_nami (fun z27 ez27 => ?_)
  refine A_istoren (lv' := [(1, .int (iI z27)), (0, .ref 110)]) C dX8_another_6 rfl (by decide) rfl ?_
  refine A_pick [1, 0] rfl ?_
  exact lpX8_another_7 C   ((z27 + 2).toNat + 1) z27 M0 (by omega) (by omega) ⟨rfl, hM, W⟩ W E
