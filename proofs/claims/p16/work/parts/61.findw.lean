theorem uX8_findWorst_8 : ∀ w ∈ u_ws RX8 TX8 35, w ∈ wsX8_findWorst := by decide +kernel
theorem fX8_findWorst_137 : Fl RX8 wsX8_findWorst 8 25 137 RX8 TX8 35 := ⟨rfl, by decide, uX8_findWorst_8, by decide +kernel⟩
theorem fX8_findWorst_130 : Fl RX8 wsX8_findWorst 8 24 130 RX8 TX8 35 := ⟨rfl, by decide, uX8_findWorst_8, by decide +kernel⟩
theorem fX8_findWorst_148 : Fl RX8 wsX8_findWorst 8 27 148 RX8 TX8 35 := ⟨rfl, by decide, uX8_findWorst_8, by decide +kernel⟩
theorem fX8_findWorst_151 : Fl RX8 wsX8_findWorst 8 28 151 RX8 TX8 35 := ⟨rfl, by decide, uX8_findWorst_8, by decide +kernel⟩
theorem fX8_findWorst_126 : Fl RX8 wsX8_findWorst 8 23 126 RX8 TX8 35 := ⟨rfl, by decide, uX8_findWorst_8, by decide +kernel⟩
theorem fX8_findWorst_144 : Fl RX8 wsX8_findWorst 8 26 144 RX8 TX8 35 := ⟨rfl, by decide, uX8_findWorst_8, by decide +kernel⟩
set_option maxHeartbeats 4000000 in
theorem lpX8_findWorst_47 {p : Program} {l : Launch} {e : Env} {s : State} {m : MethodId} {args : Array Value} {below : List Frame} {meth : Method} {c : Code} {G : xG} (C : Cx p s m args meth c G cX8_findWorst 4 RX8 wsX8_findWorst none)   {M0 : Mem} : ∀ (n : Nat) (v1 : Int) (M : Mem), mW M v1 < n → (0 ≤ v1 ∧ v1 ≤ 1 ∧ M.1 110 0 = M0.1 110 0 ∧ M.1 110 11 = M0.1 110 11 ∧ M.1 110 12 = M0.1 110 12 ∧ M.1 110 16 = M0.1 110 16 ∧ M.1 110 17 = M0.1 110 17) → (K47 M v1) → WF M → Fr [30, 44, 45, 46] M0 M → AW p l e (rmD 4) s m args below meth c G 4 (QQ G below args s ((fun M r M' => r = none ∧ WF M' ∧ Fr [30, 44, 45, 46] M M' ∧ (M'.1 110 26 = 1 → Dn M') ∧ (M'.1 110 0 = M.1 110 0 ∧ M'.1 110 11 = M.1 110 11 ∧ M'.1 110 12 = M.1 110 12 ∧ M'.1 110 16 = M.1 110 16 ∧ M'.1 110 17 = M.1 110 17)) M0)) M 47 [(0, .ref 110), (1, .int (iI v1))] [] := by
  intro n
  induction n with
  | zero => intro v1 M hn; exact absurd hn (Nat.not_lt_zero _)
  | succ n ih =>
    intro v1 M hn hi h2 W E
    have fa_110_0 : (0 : Int) ≤ M.1 110 0 ∧ M.1 110 0 ≤ 12 := W.i kd_110 0
    refine A_iloadn C dX8_findWorst_47 1 rfl rfl ?_
    refine A_ifeq C 115 dX8_findWorst_48 (by decide) (by omega) (fun c1 => ?_) (fun c1 => ?_)
    · skip
      exact A_vret C dX8_findWorst_115 ⟨rfl, W, E, ⟨fun hh => h2.2 (by omega), by omega⟩⟩
    · skip
      refine A_aloadn C dX8_findWorst_51 0 rfl rfl ?_
      have h3 := h2.1 (by omega)
      have hb := FL_bd W h3.1
      refine G_getL C W kd_110 rfl rfl rfl fX8_findWorst_137 dX8_findWorst_52 (fun z2 ez2 rz2 => ?_)
      refine A_aloadn C dX8_findWorst_55 0 rfl rfl ?_
      refine G_getL C W kd_110 rfl rfl rfl fX8_findWorst_130 dX8_findWorst_56 (fun z3 ez3 rz3 => ?_)
      refine A_callS C (n := 2) (st := []) (kX8_divisor  (by omega) (by omega) (by omega)) gX8_findWorst_X8_divisor rfl (by decide +kernel) ⟨Nat.le_of_ble_eq_true rfl, Nat.le_of_ble_eq_true rfl⟩ rfl (Nat.le_of_ble_eq_true rfl) dX8_findWorst_59 rfl W (fun r4 M5 h6 => ?_)
      obtain ⟨z8, rfl, rz8, rfl, xx7⟩ := h6
      refine A_st (st' := [.long (lL z8)]) rfl ?_
      refine A_lstoren (lv' := [(2, .long (lL z8)), (0, .ref 110), (1, .int (iI v1))]) C dX8_findWorst_62 rfl (by decide) rfl ?_
      refine A_aloadn C dX8_findWorst_63 1 rfl rfl ?_
      refine A_aloadn C dX8_findWorst_64 1 rfl rfl ?_
      refine G_getL C W kd_110 rfl rfl rfl fX8_findWorst_137 dX8_findWorst_65 (fun z9 ez9 rz9 => ?_)
      refine A_lloadn C dX8_findWorst_68 0 rfl rfl ?_
      refine A_ldiv C (by omega) (by omega) (by omega) (by omega) dX8_findWorst_69 (fun z10 ez10 lz10 uz10 => ?_)
      refine G_putL C W E kd_110 rfl rfl rfl fX8_findWorst_148 ⟨tyX8_ok, nmX8, rfl, by decide⟩ rfl rfl (by omega) dX8_findWorst_70 (fun M11 eM11 WM11 EM11 => ?_)
      have t_M11_110_0 : M11.1 110 0 = M.1 110 0 := by rw [eM11]; rfl
      have t_M11_110_11 : M11.1 110 11 = M.1 110 11 := by rw [eM11]; rfl
      have t_M11_110_12 : M11.1 110 12 = M.1 110 12 := by rw [eM11]; rfl
      have t_M11_110_16 : M11.1 110 16 = M.1 110 16 := by rw [eM11]; rfl
      have t_M11_110_17 : M11.1 110 17 = M.1 110 17 := by rw [eM11]; rfl
      have t_M11_110_26 : M11.1 110 26 = M.1 110 26 := by rw [eM11]; rfl
      refine A_aloadn C dX8_findWorst_73 1 rfl rfl ?_
      refine A_aloadn C dX8_findWorst_74 1 rfl rfl ?_
      refine G_getL C WM11 kd_110 rfl rfl rfl fX8_findWorst_130 dX8_findWorst_75 (fun z12 ez12 rz12 => ?_)
      have qz12 : z12 = M.2.1 110 24 := by rw [ez12, eM11, sL_nk rfl]
      refine A_lloadn C dX8_findWorst_78 0 rfl rfl ?_
      refine A_ldiv C (by omega) (by omega) (by omega) (by omega) dX8_findWorst_79 (fun z13 ez13 lz13 uz13 => ?_)
      have hlf := lo_facts (h := z2) (d := z3) (g := z8) xx7.1 (by omega) (by omega) (by omega)
      have hl1 : 1 ≤ z13 := by rw [ez13, qz12, ← ez3]; exact hlf.2.2
      refine G_putL C WM11 EM11 kd_110 rfl rfl rfl fX8_findWorst_151 ⟨tyX8_ok, nmX8, rfl, by decide⟩ rfl rfl (by omega) dX8_findWorst_80 (fun M14 eM14 WM14 EM14 => ?_)
      have t_M14_110_0 : M14.1 110 0 = M11.1 110 0 := by rw [eM14]; rfl
      have t_M14_110_11 : M14.1 110 11 = M11.1 110 11 := by rw [eM14]; rfl
      have t_M14_110_12 : M14.1 110 12 = M11.1 110 12 := by rw [eM14]; rfl
      have t_M14_110_16 : M14.1 110 16 = M11.1 110 16 := by rw [eM14]; rfl
      have t_M14_110_17 : M14.1 110 17 = M11.1 110 17 := by rw [eM14]; rfl
      have t_M14_110_26 : M14.1 110 26 = M11.1 110 26 := by rw [eM14]; rfl
      refine A_aloadn C dX8_findWorst_83 1 rfl rfl ?_
      refine A_iconst C dX8_findWorst_84 ?_
      refine A_aloadn C dX8_findWorst_85 1 rfl rfl ?_
      refine G_getL C WM14 kd_110 rfl rfl rfl fX8_findWorst_148 dX8_findWorst_86 (fun z15 ez15 rz15 => ?_)
      have qz15 : z15 = z10 := by rw [ez15, eM14, eM11, sL_nk rfl, sL_at]
      refine A_aloadn C dX8_findWorst_89 1 rfl rfl ?_
      refine G_getL C WM14 kd_110 rfl rfl rfl fX8_findWorst_151 dX8_findWorst_90 (fun z16 ez16 rz16 => ?_)
      have qz16 : z16 = z13 := by rw [ez16, eM14, sL_at]
      skip
      refine A_iconst C dX8_findWorst_93 ?_
      refine A_callV C (n := 4) (st := []) (kX8_walk  (by omega) (by omega) (by omega) (by omega) (by omega)) gX8_findWorst_X8_walk rfl (by decide +kernel) ⟨Nat.le_of_ble_eq_true rfl, Nat.le_of_ble_eq_true rfl⟩ kd_110 rfl rfl rfl rfl (Nat.le_of_ble_eq_true rfl) dX8_findWorst_94 rfl WM14 (fun r17 M18 h19 => ?_)
      obtain ⟨rfl, WM18, FM18, xx20⟩ := h19
      have EM18 := Fr.tr EM14 (FM18.mono (c2 := [30, 44, 45, 46]) rfl)
      refine A_st (st' := []) rfl ?_
      have t_M18_110_0 : M18.1 110 0 = M14.1 110 0 := by rw [xx20.1.1]
      have t_M18_110_11 : M18.1 110 11 = M14.1 110 11 := by rw [xx20.1.1]
      have t_M18_110_12 : M18.1 110 12 = M14.1 110 12 := by rw [xx20.1.1]
      have t_M18_110_16 : M18.1 110 16 = M14.1 110 16 := by rw [xx20.1.1]
      have t_M18_110_17 : M18.1 110 17 = M14.1 110 17 := by rw [xx20.1.1]
      have t_M18_110_26 : M18.1 110 26 = M14.1 110 26 := by rw [xx20.1.1]
      refine A_aloadn C dX8_findWorst_97 1 rfl rfl ?_
      refine G_getL C WM18 kd_110 rfl rfl rfl fX8_findWorst_126 dX8_findWorst_98 (fun z21 ez21 rz21 => ?_)
      refine A_lconst0 C dX8_findWorst_101 ?_
      refine A_lcmp C (by omega) (by omega) dX8_findWorst_102 (fun z22 cz22 => ?_)
      refine A_ifge C 110 dX8_findWorst_103 (by decide) (by omega) (fun c23 => ?_) (fun c23 => ?_)
      · skip
        refine A_iconst C dX8_findWorst_110 ?_
        refine A_istoren (lv' := [(1, .int (iI 0)), (2, .long (lL z8)), (0, .ref 110)]) C dX8_findWorst_111 rfl (by decide) rfl ?_
        have hst := FW_step (M3 := M18) (up := z15) (low := z16) (g := z8) W h3 (by rw [xx7.1, ez2, ez3]) (by omega) (by rw [qz15, ez10, ez9]) (by rw [qz16, ez13, qz12]) ⟨(by rw [xx20.1.1, eM14, eM11]; rfl), (by rw [xx20.1.2.2 27 (by decide), ez15]), (by rw [xx20.1.2.2 28 (by decide), ez16])⟩ (by have hb := xx20.2; rw [eM14, eM11] at hb; exact hb)
        have hv1 : v1 = 1 := by omega
        have hms := mW_0 (M := M) (M' := M18) hv1
        subst hv1
        refine A_goto C 47 dX8_findWorst_112 (by decide) ?_
        refine A_pick [2, 0] rfl ?_
        exact ih 0 M18 (by omega) (by omega) (hst.2 (by omega)) WM18 EM18
      · skip
        refine A_iconst C dX8_findWorst_106 ?_
        refine A_goto C 111 dX8_findWorst_107 (by decide) ?_
        refine A_istoren (lv' := [(1, .int (iI 1)), (2, .long (lL z8)), (0, .ref 110)]) C dX8_findWorst_111 rfl (by decide) rfl ?_
        have hst := FW_step (M3 := M18) (up := z15) (low := z16) (g := z8) W h3 (by rw [xx7.1, ez2, ez3]) (by omega) (by rw [qz15, ez10, ez9]) (by rw [qz16, ez13, qz12]) ⟨(by rw [xx20.1.1, eM14, eM11]; rfl), (by rw [xx20.1.2.2 27 (by decide), ez15]), (by rw [xx20.1.2.2 28 (by decide), ez16])⟩ (by have hb := xx20.2; rw [eM14, eM11] at hb; exact hb)
        have hv1 : v1 = 1 := by omega
        have hms := (hst.1 (by omega)).2
        subst hv1
        refine A_goto C 47 dX8_findWorst_112 (by decide) ?_
        refine A_pick [2, 0] rfl ?_
        exact ih 1 M18 (by omega) (by omega) (hst.1 (by omega)).1 WM18 EM18
set_option maxHeartbeats 4000000 in
theorem kX8_findWorst   : Ct yX8_findWorst wsX8_findWorst 4 [.ref 110] (fun M => WF M) (fun M r M' => r = none ∧ WF M' ∧ Fr [30, 44, 45, 46] M M' ∧ (M'.1 110 26 = 1 → Dn M') ∧ (M'.1 110 0 = M.1 110 0 ∧ M'.1 110 11 = M.1 110 11 ∧ M'.1 110 12 = M.1 110 12 ∧ M'.1 110 16 = M.1 110 16 ∧ M'.1 110 17 = M.1 110 17)) := by
  refine Ct_of (cc := cX8_findWorst) (nL := 4) (rt := none) (own := RX8) rfl (by decide) rfl (Nat.le_of_ble_eq_true rfl) ?_
  intro p l e s m args below meth c G M0 C W
  have E : Fr [30, 44, 45, 46] M0 M0 := Fr.rf
  refine A_lv (lv' := [(0, .ref 110)]) rfl ?_
  have fa_110_0 : (0 : Int) ≤ M0.1 110 0 ∧ M0.1 110 0 ≤ 12 := W.i kd_110 0
  refine A_aloadn C dX8_findWorst_0 0 rfl rfl ?_
  refine A_iconst C dX8_findWorst_1 ?_
  refine A_lconst1 C dX8_findWorst_2 ?_
  refine A_lconst0 C dX8_findWorst_3 ?_
  refine A_iconst C dX8_findWorst_4 ?_
  refine A_callV C (n := 4) (st := []) (kX8_walk  (by omega) (by omega) (by omega) (by omega) (by omega)) gX8_findWorst_X8_walk rfl (by decide +kernel) ⟨Nat.le_of_ble_eq_true rfl, Nat.le_of_ble_eq_true rfl⟩ kd_110 rfl rfl rfl rfl (Nat.le_of_ble_eq_true rfl) dX8_findWorst_5 rfl W (fun r24 M25 h26 => ?_)
  obtain ⟨rfl, WM25, FM25, xx27⟩ := h26
  have EM25 := Fr.tr E (FM25.mono (c2 := [30, 44, 45, 46]) rfl)
  refine A_st (st' := []) rfl ?_
  have t_M25_110_0 : M25.1 110 0 = M0.1 110 0 := by rw [xx27.1.1]
  have t_M25_110_11 : M25.1 110 11 = M0.1 110 11 := by rw [xx27.1.1]
  have t_M25_110_12 : M25.1 110 12 = M0.1 110 12 := by rw [xx27.1.1]
  have t_M25_110_16 : M25.1 110 16 = M0.1 110 16 := by rw [xx27.1.1]
  have t_M25_110_17 : M25.1 110 17 = M0.1 110 17 := by rw [xx27.1.1]
  have t_M25_110_26 : M25.1 110 26 = M0.1 110 26 := by rw [xx27.1.1]
  refine A_aloadn C dX8_findWorst_8 0 rfl rfl ?_
  refine A_aloadn C dX8_findWorst_9 0 rfl rfl ?_
  refine G_getL C WM25 kd_110 rfl rfl rfl fX8_findWorst_126 dX8_findWorst_10 (fun z28 ez28 rz28 => ?_)
  refine A_ldc2 C (index := 124) (v := 1152921504606846976) (z := 1152921504606846976) (by decide +kernel) (by decide +kernel) dX8_findWorst_13 ?_
  refine A_lcmp C (by omega) (by omega) dX8_findWorst_16 (fun z29 cz29 => ?_)
  refine A_ifge C 33 dX8_findWorst_17 (by decide) (by omega) (fun c30 => ?_) (fun c30 => ?_)
  · skip
    refine A_iconst C dX8_findWorst_33 ?_
    refine G_putI C WM25 EM25 kd_110 rfl rfl rfl rfl rfl fX8_findWorst_144 ⟨tyX8_ok, nmX8, rfl, by decide⟩ (Or.inr ⟨rfl, by omega⟩) rfl rfl (by omega) (by omega) dX8_findWorst_34 (fun M31 eM31 WM31 EM31 => ?_)
    have t_M31_110_0 : M31.1 110 0 = M25.1 110 0 := by rw [eM31]; exact sI_pl rfl
    have t_M31_110_11 : M31.1 110 11 = M25.1 110 11 := by rw [eM31]; exact sI_pl rfl
    have t_M31_110_12 : M31.1 110 12 = M25.1 110 12 := by rw [eM31]; exact sI_pl rfl
    have t_M31_110_16 : M31.1 110 16 = M25.1 110 16 := by rw [eM31]; exact sI_pl rfl
    have t_M31_110_17 : M31.1 110 17 = M25.1 110 17 := by rw [eM31]; exact sI_pl rfl
    have t_M31_110_26 : M31.1 110 26 = 0 := by rw [eM31]; exact sI_at
    refine A_aloadn C dX8_findWorst_37 0 rfl rfl ?_
    refine G_getI C WM31 kd_110 rfl rfl rfl rfl rfl fX8_findWorst_144 rfl dX8_findWorst_38 (fun z32 ez32 lz32 uz32 => ?_)
    refine A_ifne C 45 dX8_findWorst_41 (by decide) (by omega) (fun c33 => ?_) (fun c33 => ?_)
    · skip
      refine A_iconst C dX8_findWorst_45 ?_
      refine A_istoren (lv' := [(1, .int (iI 1)), (0, .ref 110)]) C dX8_findWorst_46 rfl (by decide) rfl ?_
      refine A_pick [1, 0] rfl ?_
      exact lpX8_findWorst_47 C   (mW M31 (1 : Int) + 1) 1 M31 (by omega) (by omega) (absurd (show (0 : Int) = 1 by omega) (by decide)) WM31 EM31
    · skip
      exact A_vret C dX8_findWorst_44 ⟨rfl, WM31, EM31, ⟨fun hh => absurd hh (by omega), by omega⟩⟩
  · skip
    refine A_aloadn C dX8_findWorst_20 0 rfl rfl ?_
    refine G_getL C WM25 kd_110 rfl rfl rfl fX8_findWorst_130 dX8_findWorst_21 (fun z34 ez34 rz34 => ?_)
    refine A_lconst0 C dX8_findWorst_24 ?_
    refine A_lcmp C (by omega) (by omega) dX8_findWorst_25 (fun z35 cz35 => ?_)
    refine A_ifle C 33 dX8_findWorst_26 (by decide) (by omega) (fun c36 => ?_) (fun c36 => ?_)
    · skip
      refine A_iconst C dX8_findWorst_33 ?_
      refine G_putI C WM25 EM25 kd_110 rfl rfl rfl rfl rfl fX8_findWorst_144 ⟨tyX8_ok, nmX8, rfl, by decide⟩ (Or.inr ⟨rfl, by omega⟩) rfl rfl (by omega) (by omega) dX8_findWorst_34 (fun M37 eM37 WM37 EM37 => ?_)
      have t_M37_110_0 : M37.1 110 0 = M25.1 110 0 := by rw [eM37]; exact sI_pl rfl
      have t_M37_110_11 : M37.1 110 11 = M25.1 110 11 := by rw [eM37]; exact sI_pl rfl
      have t_M37_110_12 : M37.1 110 12 = M25.1 110 12 := by rw [eM37]; exact sI_pl rfl
      have t_M37_110_16 : M37.1 110 16 = M25.1 110 16 := by rw [eM37]; exact sI_pl rfl
      have t_M37_110_17 : M37.1 110 17 = M25.1 110 17 := by rw [eM37]; exact sI_pl rfl
      have t_M37_110_26 : M37.1 110 26 = 0 := by rw [eM37]; exact sI_at
      refine A_aloadn C dX8_findWorst_37 0 rfl rfl ?_
      refine G_getI C WM37 kd_110 rfl rfl rfl rfl rfl fX8_findWorst_144 rfl dX8_findWorst_38 (fun z38 ez38 lz38 uz38 => ?_)
      refine A_ifne C 45 dX8_findWorst_41 (by decide) (by omega) (fun c39 => ?_) (fun c39 => ?_)
      · skip
        refine A_iconst C dX8_findWorst_45 ?_
        refine A_istoren (lv' := [(1, .int (iI 1)), (0, .ref 110)]) C dX8_findWorst_46 rfl (by decide) rfl ?_
        refine A_pick [1, 0] rfl ?_
        exact lpX8_findWorst_47 C   (mW M37 (1 : Int) + 1) 1 M37 (by omega) (by omega) (absurd (show (0 : Int) = 1 by omega) (by decide)) WM37 EM37
      · skip
        exact A_vret C dX8_findWorst_44 ⟨rfl, WM37, EM37, ⟨fun hh => absurd hh (by omega), by omega⟩⟩
    · skip
      refine A_iconst C dX8_findWorst_29 ?_
      refine A_goto C 34 dX8_findWorst_30 (by decide) ?_
      refine G_putI C WM25 EM25 kd_110 rfl rfl rfl rfl rfl fX8_findWorst_144 ⟨tyX8_ok, nmX8, rfl, by decide⟩ (Or.inr ⟨rfl, by omega⟩) rfl rfl (by omega) (by omega) dX8_findWorst_34 (fun M40 eM40 WM40 EM40 => ?_)
      have t_M40_110_0 : M40.1 110 0 = M25.1 110 0 := by rw [eM40]; exact sI_pl rfl
      have t_M40_110_11 : M40.1 110 11 = M25.1 110 11 := by rw [eM40]; exact sI_pl rfl
      have t_M40_110_12 : M40.1 110 12 = M25.1 110 12 := by rw [eM40]; exact sI_pl rfl
      have t_M40_110_16 : M40.1 110 16 = M25.1 110 16 := by rw [eM40]; exact sI_pl rfl
      have t_M40_110_17 : M40.1 110 17 = M25.1 110 17 := by rw [eM40]; exact sI_pl rfl
      have t_M40_110_26 : M40.1 110 26 = 1 := by rw [eM40]; exact sI_at
      refine A_aloadn C dX8_findWorst_37 0 rfl rfl ?_
      refine G_getI C WM40 kd_110 rfl rfl rfl rfl rfl fX8_findWorst_144 rfl dX8_findWorst_38 (fun z41 ez41 lz41 uz41 => ?_)
      refine A_ifne C 45 dX8_findWorst_41 (by decide) (by omega) (fun c42 => ?_) (fun c42 => ?_)
      · skip
        refine A_iconst C dX8_findWorst_45 ?_
        refine A_istoren (lv' := [(1, .int (iI 1)), (0, .ref 110)]) C dX8_findWorst_46 rfl (by decide) rfl ?_
        refine A_pick [1, 0] rfl ?_
        exact lpX8_findWorst_47 C   (mW M40 (1 : Int) + 1) 1 M40 (by omega) (by omega) (K47_f xx27 (by omega) (by omega) eM40) WM40 EM40
      · skip
        exact A_vret C dX8_findWorst_44 ⟨rfl, WM40, EM40, ⟨fun hh => absurd hh (by omega), by omega⟩⟩
