theorem uX8_holds_8 : ∀ w ∈ u_ws RX8 TX8 35, w ∈ wsX8_holds := by decide +kernel
theorem fX8_holds_33 : Fl RX8 wsX8_holds 8 8 33 RX8 TX8 35 := ⟨rfl, by decide, uX8_holds_8, by decide +kernel⟩
theorem fX8_holds_96 : Fl RX8 wsX8_holds 8 11 96 RX8 TX8 35 := ⟨rfl, by decide, uX8_holds_8, by decide +kernel⟩
theorem fX8_holds_27 : Fl RX8 wsX8_holds 8 6 27 RX8 TX8 35 := ⟨rfl, by decide, uX8_holds_8, by decide +kernel⟩
theorem fX8_holds_17 : Fl RX8 wsX8_holds 8 3 17 RX8 TX8 35 := ⟨rfl, by decide, uX8_holds_8, by decide +kernel⟩
theorem fX8_holds_39 : Fl RX8 wsX8_holds 8 10 39 RX8 TX8 35 := ⟨rfl, by decide, uX8_holds_8, by decide +kernel⟩
theorem fX8_holds_20 : Fl RX8 wsX8_holds 8 4 20 RX8 TX8 35 := ⟨rfl, by decide, uX8_holds_8, by decide +kernel⟩
set_option maxHeartbeats 4000000 in
theorem lpX8_holds_24 {p : Program} {l : Launch} {e : Env} {s : State} {m : MethodId} {args : Array Value} {below : List Frame} {meth : Method} {c : Code} {G : xG} (C : Cx p s m args meth c G cX8_holds 10 RX8 wsX8_holds (some .long))  {x1 : Int} {x2 : Int} {x3 : Int} (hx1 : (0 : Int) ≤ x1 ∧ x1 ≤ 11) (hx2 : (0 : Int) ≤ x2 ∧ x2 ≤ 24) (hx3 : (0 : Int) ≤ x3 ∧ x3 ≤ 24) (hy0 : x2 < 24 ∨ x3 < 24) {M0 : Mem} (W : WF M0) : ∀ (n : Nat) (v4 v5 : Int), (0 : Nat) < n → (0 ≤ v4 ∧ v4 ≤ 23 ∧ 0 ≤ v5 ∧ v5 ≤ 24) → (v4 = lowF x2 x3 ∧ v5 = highF x2 x3) → AW p l e (rmD 2) s m args below meth c G 10 (QQ G below args s ((fun M r M' => ∃ z : Int, r = some (.long (lL z)) ∧ r64 z ∧ M = M' ∧ (0 ≤ z ∧ z ≤ 596691) ∧ z = fHolds M.1 x1 x2 x3) M0)) M0 24 [(0, .ref 110), (1, .int (iI x1)), (2, .int (iI x2)), (3, .int (iI x3)), (4, .int (iI v4)), (5, .int (iI v5))] [] := by
  have E : Fr [] M0 M0 := Fr.rf
  intro n
  induction n with
  | zero => intro v4 v5 hn; exact absurd hn (Nat.not_lt_zero _)
  | succ n ih =>
    intro v4 v5 hn hi h2
    refine A_iconst C dX8_holds_24 ?_
    refine A_iloadn C dX8_holds_25 2 rfl rfl ?_
    refine A_iloadn C dX8_holds_26 3 rfl rfl ?_
    refine A_isub C dX8_holds_27 ?_
    refine A_iloadn C dX8_holds_28 2 rfl rfl ?_
    refine A_iloadn C dX8_holds_29 3 rfl rfl ?_
    refine A_isub C dX8_holds_30 ?_
    refine A_imul C dX8_holds_31 ?_
    have q31 := sq_bd (d := x2 - x3) (by omega) (by omega)
    refine A_iadd C dX8_holds_32 ?_
    refine A_nami (fun z1 ez1 => ?_)
    refine A_istore (lv' := [(6, .int (iI z1)), (0, .ref 110), (1, .int (iI x1)), (2, .int (iI x2)), (3, .int (iI x3)), (4, .int (iI v4)), (5, .int (iI v5))]) C dX8_holds_33 (by decide) rfl ?_
    refine A_aloadn C dX8_holds_35 1 rfl rfl ?_
    refine A_iloadn C dX8_holds_36 2 rfl rfl ?_
    refine A_iload C dX8_holds_37 6 rfl ?_
    refine A_callV C (n := 2) (st := []) (kX8_press  (by omega) (by omega)) gX8_holds_X8_press rfl (by decide +kernel) ⟨Nat.le_of_ble_eq_true rfl, Nat.le_of_ble_eq_true rfl⟩ kd_110 rfl rfl rfl rfl (Nat.le_of_ble_eq_true rfl) dX8_holds_39 rfl W (fun r2 M3 h4 => ?_)
    obtain ⟨z6, rfl, lz6, uz6, rfl, xx5⟩ := h4
    refine A_st (st' := [.int (iI z6)]) rfl ?_
    refine A_istore (lv' := [(7, .int (iI z6)), (6, .int (iI z1)), (0, .ref 110), (1, .int (iI x1)), (2, .int (iI x2)), (3, .int (iI x3)), (4, .int (iI v4)), (5, .int (iI v5))]) C dX8_holds_42 (by decide) rfl ?_
    refine A_aloadn C dX8_holds_44 2 rfl rfl ?_
    refine G_getC C W kd_110 rfl rfl rfl rfl uq_37 fX8_holds_33 dX8_holds_45 ?_
    refine A_aloadn C dX8_holds_48 2 rfl rfl ?_
    refine G_getI C W kd_110 rfl rfl rfl rfl rfl fX8_holds_96 rfl dX8_holds_49 (fun z7 ez7 lz7 uz7 => ?_)
    refine A_iloadn C dX8_holds_52 3 rfl rfl ?_
    refine A_iadd C dX8_holds_53 ?_
    refine G_iald C W kd_117 rfl rfl (by decide) (fun _ => rfl) (by omega) (by omega) dX8_holds_54 (fun z8 ez8 lz8 uz8 => ?_)
    refine A_iload C dX8_holds_55 7 rfl ?_
    refine A_icmple C 83 dX8_holds_57 (by decide) (by omega) (by omega) (fun c9 => ?_) (fun c9 => ?_)
    · skip
      refine A_iconst C dX8_holds_83 ?_
      refine A_istore (lv' := [(8, .int (iI 0)), (7, .int (iI z6)), (6, .int (iI z1)), (0, .ref 110), (1, .int (iI x1)), (2, .int (iI x2)), (3, .int (iI x3)), (4, .int (iI v4)), (5, .int (iI v5))]) C dX8_holds_84 (by decide) rfl ?_
      refine A_aloadn C dX8_holds_86 3 rfl rfl ?_
      refine G_getC C W kd_110 rfl rfl rfl rfl uq_35 fX8_holds_27 dX8_holds_87 ?_
      refine A_bipush C dX8_holds_90 (by decide) ?_
      refine A_iloadn C dX8_holds_92 4 rfl rfl ?_
      refine A_imul C dX8_holds_93 ?_
      refine A_iload C dX8_holds_94 7 rfl ?_
      refine A_iadd C dX8_holds_96 ?_
      refine G_iald C W kd_115 rfl rfl (by decide) (fun _ => rfl) (by omega) (by omega) dX8_holds_97 (fun z10 ez10 lz10 uz10 => ?_)
      refine A_istore (lv' := [(9, .int (iI z10)), (8, .int (iI 0)), (7, .int (iI z6)), (6, .int (iI z1)), (0, .ref 110), (1, .int (iI x1)), (2, .int (iI x2)), (3, .int (iI x3)), (4, .int (iI v4)), (5, .int (iI v5))]) C dX8_holds_98 (by decide) rfl ?_
      refine A_ldc2 C (index := 103) (v := 10) (z := 10) (by decide +kernel) (by decide +kernel) dX8_holds_100 ?_
      refine A_aloadn C dX8_holds_103 4 rfl rfl ?_
      refine G_getC C W kd_110 rfl rfl rfl rfl uq_32 fX8_holds_17 dX8_holds_104 ?_
      refine A_iload C dX8_holds_107 0 rfl ?_
      refine G_iald C W kd_112 rfl rfl (by decide) (fun _ => rfl) (by omega) (by omega) dX8_holds_109 (fun z11 ez11 lz11 uz11 => ?_)
      refine A_i2l C (by omega) dX8_holds_110 ?_
      refine A_lmul C dX8_holds_111 ?_
      refine A_iload C dX8_holds_112 3 rfl ?_
      refine A_i2l C (by omega) dX8_holds_114 ?_
      refine A_lmul C dX8_holds_115 ?_
      have q1011 := mul_bd (a := (10 * z11)) (b := z1) (A := 990) (B := 577) (by omega) (by omega) (by omega) (by omega)
      refine A_iload C dX8_holds_116 2 rfl ?_
      refine A_iload C dX8_holds_118 1 rfl ?_
      refine A_icmple C 139 dX8_holds_120 (by decide) (by omega) (by omega) (fun c12 => ?_) (fun c12 => ?_)
      · skip
        refine A_iconst C dX8_holds_139 ?_
        refine A_i2l C (by omega) dX8_holds_140 ?_
        refine A_ladd C dX8_holds_141 ?_
        refine A_ldc2 C (index := 103) (v := 10) (z := 10) (by decide +kernel) (by decide +kernel) dX8_holds_142 ?_
        refine A_aloadn C dX8_holds_145 4 rfl rfl ?_
        refine G_getC C W kd_110 rfl rfl rfl rfl uq_39 fX8_holds_39 dX8_holds_146 ?_
        refine A_aloadn C dX8_holds_149 4 rfl rfl ?_
        refine G_getI C W kd_110 rfl rfl rfl rfl rfl fX8_holds_96 rfl dX8_holds_150 (fun z13 ez13 lz13 uz13 => ?_)
        refine A_iloadn C dX8_holds_153 5 rfl rfl ?_
        refine A_iadd C dX8_holds_154 ?_
        refine G_iald C W kd_119 rfl rfl (by decide) (fun _ => rfl) (by omega) (by omega) dX8_holds_155 (fun z14 ez14 lz14 uz14 => ?_)
        refine A_i2l C (by omega) dX8_holds_156 ?_
        refine A_lmul C dX8_holds_157 ?_
        refine A_ladd C dX8_holds_158 ?_
        exact A_lret C dX8_holds_159 ⟨(((10 * z11) * z1) + 0) + (10 * z14), rfl, by omega, rfl, ⟨by omega, by obtain ⟨ha2, hb2⟩ := h2; subst_vars; unfold fHolds fRub; have hL : fLift M0.1 x1 x2 x3 = _ := (by unfold fLift fB; first | exact if_pos (by omega) | exact if_neg (by omega)); rw [hL]; simp only [fE, fB]; split <;> omega⟩⟩
      · skip
        refine A_aloadn C dX8_holds_123 4 rfl rfl ?_
        refine G_getC C W kd_110 rfl rfl rfl rfl uq_33 fX8_holds_20 dX8_holds_124 ?_
        refine A_iload C dX8_holds_127 0 rfl ?_
        refine G_iald C W kd_113 rfl rfl (by decide) (fun _ => rfl) (by omega) (by omega) dX8_holds_129 (fun z15 ez15 lz15 uz15 => ?_)
        refine A_iload C dX8_holds_130 2 rfl ?_
        refine A_iload C dX8_holds_132 1 rfl ?_
        refine A_isub C dX8_holds_134 ?_
        refine A_imul C dX8_holds_135 ?_
        have q1015 := mul_bd (a := z15) (b := (z6 - 0)) (A := 9) (B := 1719) (by omega) (by omega) (by omega) (by omega)
        refine A_goto C 140 dX8_holds_136 (by decide) ?_
        refine A_i2l C (by omega) dX8_holds_140 ?_
        refine A_ladd C dX8_holds_141 ?_
        refine A_ldc2 C (index := 103) (v := 10) (z := 10) (by decide +kernel) (by decide +kernel) dX8_holds_142 ?_
        refine A_aloadn C dX8_holds_145 4 rfl rfl ?_
        refine G_getC C W kd_110 rfl rfl rfl rfl uq_39 fX8_holds_39 dX8_holds_146 ?_
        refine A_aloadn C dX8_holds_149 4 rfl rfl ?_
        refine G_getI C W kd_110 rfl rfl rfl rfl rfl fX8_holds_96 rfl dX8_holds_150 (fun z16 ez16 lz16 uz16 => ?_)
        refine A_iloadn C dX8_holds_153 5 rfl rfl ?_
        refine A_iadd C dX8_holds_154 ?_
        refine G_iald C W kd_119 rfl rfl (by decide) (fun _ => rfl) (by omega) (by omega) dX8_holds_155 (fun z17 ez17 lz17 uz17 => ?_)
        refine A_i2l C (by omega) dX8_holds_156 ?_
        refine A_lmul C dX8_holds_157 ?_
        refine A_ladd C dX8_holds_158 ?_
        exact A_lret C dX8_holds_159 ⟨(((10 * z11) * z1) + (z15 * (z6 - 0))) + (10 * z17), rfl, by omega, rfl, ⟨by omega, by obtain ⟨ha2, hb2⟩ := h2; subst_vars; unfold fHolds fRub; have hL : fLift M0.1 x1 x2 x3 = _ := (by unfold fLift fB; first | exact if_pos (by omega) | exact if_neg (by omega)); rw [hL]; simp only [fE, fB]; split <;> omega⟩⟩
    · skip
      refine A_bipush C dX8_holds_60 (by decide) ?_
      refine A_iload C dX8_holds_62 1 rfl ?_
      refine A_imul C dX8_holds_64 ?_
      refine A_aloadn C dX8_holds_65 2 rfl rfl ?_
      refine G_getC C W kd_110 rfl rfl rfl rfl uq_37 fX8_holds_33 dX8_holds_66 ?_
      refine A_aloadn C dX8_holds_69 2 rfl rfl ?_
      refine G_getI C W kd_110 rfl rfl rfl rfl rfl fX8_holds_96 rfl dX8_holds_70 (fun z18 ez18 lz18 uz18 => ?_)
      refine A_iloadn C dX8_holds_73 3 rfl rfl ?_
      refine A_iadd C dX8_holds_74 ?_
      refine G_iald C W kd_117 rfl rfl (by decide) (fun _ => rfl) (by omega) (by omega) dX8_holds_75 (fun z19 ez19 lz19 uz19 => ?_)
      have hw75 : z19 = z8 := by rw [ez19, ez8, ez18, ez7]
      refine A_iload C dX8_holds_76 7 rfl ?_
      refine A_isub C dX8_holds_78 ?_
      refine A_imul C dX8_holds_79 ?_
      have q1019 := mul_bd (a := (10 * z1)) (b := (z19 - v5)) (A := 5770) (B := 24) (by omega) (by omega) (by omega) (by omega)
      refine A_goto C 84 dX8_holds_80 (by decide) ?_
      refine A_nami (fun z20 ez20 => ?_)
      refine A_istore (lv' := [(8, .int (iI z20)), (7, .int (iI z6)), (6, .int (iI z1)), (0, .ref 110), (1, .int (iI x1)), (2, .int (iI x2)), (3, .int (iI x3)), (4, .int (iI v4)), (5, .int (iI v5))]) C dX8_holds_84 (by decide) rfl ?_
      refine A_aloadn C dX8_holds_86 3 rfl rfl ?_
      refine G_getC C W kd_110 rfl rfl rfl rfl uq_35 fX8_holds_27 dX8_holds_87 ?_
      refine A_bipush C dX8_holds_90 (by decide) ?_
      refine A_iloadn C dX8_holds_92 4 rfl rfl ?_
      refine A_imul C dX8_holds_93 ?_
      refine A_iload C dX8_holds_94 7 rfl ?_
      refine A_iadd C dX8_holds_96 ?_
      refine G_iald C W kd_115 rfl rfl (by decide) (fun _ => rfl) (by omega) (by omega) dX8_holds_97 (fun z21 ez21 lz21 uz21 => ?_)
      refine A_istore (lv' := [(9, .int (iI z21)), (8, .int (iI z20)), (7, .int (iI z6)), (6, .int (iI z1)), (0, .ref 110), (1, .int (iI x1)), (2, .int (iI x2)), (3, .int (iI x3)), (4, .int (iI v4)), (5, .int (iI v5))]) C dX8_holds_98 (by decide) rfl ?_
      refine A_ldc2 C (index := 103) (v := 10) (z := 10) (by decide +kernel) (by decide +kernel) dX8_holds_100 ?_
      refine A_aloadn C dX8_holds_103 4 rfl rfl ?_
      refine G_getC C W kd_110 rfl rfl rfl rfl uq_32 fX8_holds_17 dX8_holds_104 ?_
      refine A_iload C dX8_holds_107 0 rfl ?_
      refine G_iald C W kd_112 rfl rfl (by decide) (fun _ => rfl) (by omega) (by omega) dX8_holds_109 (fun z22 ez22 lz22 uz22 => ?_)
      refine A_i2l C (by omega) dX8_holds_110 ?_
      refine A_lmul C dX8_holds_111 ?_
      refine A_iload C dX8_holds_112 3 rfl ?_
      refine A_i2l C (by omega) dX8_holds_114 ?_
      refine A_lmul C dX8_holds_115 ?_
      have q1022 := mul_bd (a := (10 * z22)) (b := z1) (A := 990) (B := 577) (by omega) (by omega) (by omega) (by omega)
      refine A_iload C dX8_holds_116 2 rfl ?_
      refine A_iload C dX8_holds_118 1 rfl ?_
      refine A_icmple C 139 dX8_holds_120 (by decide) (by omega) (by omega) (fun c23 => ?_) (fun c23 => ?_)
      · skip
        refine A_iconst C dX8_holds_139 ?_
        refine A_i2l C (by omega) dX8_holds_140 ?_
        refine A_ladd C dX8_holds_141 ?_
        refine A_ldc2 C (index := 103) (v := 10) (z := 10) (by decide +kernel) (by decide +kernel) dX8_holds_142 ?_
        refine A_aloadn C dX8_holds_145 4 rfl rfl ?_
        refine G_getC C W kd_110 rfl rfl rfl rfl uq_39 fX8_holds_39 dX8_holds_146 ?_
        refine A_aloadn C dX8_holds_149 4 rfl rfl ?_
        refine G_getI C W kd_110 rfl rfl rfl rfl rfl fX8_holds_96 rfl dX8_holds_150 (fun z24 ez24 lz24 uz24 => ?_)
        refine A_iloadn C dX8_holds_153 5 rfl rfl ?_
        refine A_iadd C dX8_holds_154 ?_
        refine G_iald C W kd_119 rfl rfl (by decide) (fun _ => rfl) (by omega) (by omega) dX8_holds_155 (fun z25 ez25 lz25 uz25 => ?_)
        refine A_i2l C (by omega) dX8_holds_156 ?_
        refine A_lmul C dX8_holds_157 ?_
        refine A_ladd C dX8_holds_158 ?_
        exact A_lret C dX8_holds_159 ⟨(((10 * z22) * z1) + 0) + (10 * z25), rfl, by omega, rfl, ⟨by omega, by obtain ⟨ha2, hb2⟩ := h2; subst_vars; unfold fHolds fRub; have hL : fLift M0.1 x1 x2 x3 = _ := (by unfold fLift fB; first | exact if_pos (by omega) | exact if_neg (by omega)); rw [hL]; simp only [fE, fB]; split <;> omega⟩⟩
      · skip
        refine A_aloadn C dX8_holds_123 4 rfl rfl ?_
        refine G_getC C W kd_110 rfl rfl rfl rfl uq_33 fX8_holds_20 dX8_holds_124 ?_
        refine A_iload C dX8_holds_127 0 rfl ?_
        refine G_iald C W kd_113 rfl rfl (by decide) (fun _ => rfl) (by omega) (by omega) dX8_holds_129 (fun z26 ez26 lz26 uz26 => ?_)
        refine A_iload C dX8_holds_130 2 rfl ?_
        refine A_iload C dX8_holds_132 1 rfl ?_
        refine A_isub C dX8_holds_134 ?_
        refine A_imul C dX8_holds_135 ?_
        have q1026 := mul_bd (a := z26) (b := (z6 - z20)) (A := 9) (B := 1719) (by omega) (by omega) (by omega) (by omega)
        refine A_goto C 140 dX8_holds_136 (by decide) ?_
        refine A_i2l C (by omega) dX8_holds_140 ?_
        refine A_ladd C dX8_holds_141 ?_
        refine A_ldc2 C (index := 103) (v := 10) (z := 10) (by decide +kernel) (by decide +kernel) dX8_holds_142 ?_
        refine A_aloadn C dX8_holds_145 4 rfl rfl ?_
        refine G_getC C W kd_110 rfl rfl rfl rfl uq_39 fX8_holds_39 dX8_holds_146 ?_
        refine A_aloadn C dX8_holds_149 4 rfl rfl ?_
        refine G_getI C W kd_110 rfl rfl rfl rfl rfl fX8_holds_96 rfl dX8_holds_150 (fun z27 ez27 lz27 uz27 => ?_)
        refine A_iloadn C dX8_holds_153 5 rfl rfl ?_
        refine A_iadd C dX8_holds_154 ?_
        refine G_iald C W kd_119 rfl rfl (by decide) (fun _ => rfl) (by omega) (by omega) dX8_holds_155 (fun z28 ez28 lz28 uz28 => ?_)
        refine A_i2l C (by omega) dX8_holds_156 ?_
        refine A_lmul C dX8_holds_157 ?_
        refine A_ladd C dX8_holds_158 ?_
        exact A_lret C dX8_holds_159 ⟨(((10 * z22) * z1) + (z26 * (z6 - z20))) + (10 * z28), rfl, by omega, rfl, ⟨by omega, by obtain ⟨ha2, hb2⟩ := h2; subst_vars; unfold fHolds fRub; have hL : fLift M0.1 x1 x2 x3 = _ := (by unfold fLift fB; first | exact if_pos (by omega) | exact if_neg (by omega)); rw [hL]; simp only [fE, fB]; split <;> omega⟩⟩
set_option maxHeartbeats 4000000 in
theorem kX8_holds  {x1 : Int} {x2 : Int} {x3 : Int} (hx1 : (0 : Int) ≤ x1 ∧ x1 ≤ 11) (hx2 : (0 : Int) ≤ x2 ∧ x2 ≤ 24) (hx3 : (0 : Int) ≤ x3 ∧ x3 ≤ 24) (hy0 : x2 < 24 ∨ x3 < 24) : Ct yX8_holds wsX8_holds 2 [.ref 110, .int (iI x1), .int (iI x2), .int (iI x3)] (fun M => WF M) (fun M r M' => ∃ z : Int, r = some (.long (lL z)) ∧ r64 z ∧ M = M' ∧ (0 ≤ z ∧ z ≤ 596691) ∧ z = fHolds M.1 x1 x2 x3) := by
  refine Ct_of (cc := cX8_holds) (nL := 10) (rt := (some .long)) (own := RX8) rfl (by decide) rfl (Nat.le_of_ble_eq_true rfl) ?_
  intro p l e s m args below meth c G M0 C W
  have E : Fr [] M0 M0 := Fr.rf
  refine A_lv (lv' := [(0, .ref 110), (1, .int (iI x1)), (2, .int (iI x2)), (3, .int (iI x3))]) rfl ?_
  refine A_iloadn C dX8_holds_0 2 rfl rfl ?_
  refine A_iloadn C dX8_holds_1 3 rfl rfl ?_
  refine A_icmpge C 9 dX8_holds_2 (by decide) (by omega) (by omega) (fun c29 => ?_) (fun c29 => ?_)
  · skip
    refine A_iloadn C dX8_holds_9 3 rfl rfl ?_
    refine A_istore (lv' := [(4, .int (iI x3)), (0, .ref 110), (1, .int (iI x1)), (2, .int (iI x2)), (3, .int (iI x3))]) C dX8_holds_10 (by decide) rfl ?_
    refine A_iloadn C dX8_holds_12 3 rfl rfl ?_
    refine A_iloadn C dX8_holds_13 4 rfl rfl ?_
    refine A_icmpge C 21 dX8_holds_14 (by decide) (by omega) (by omega) (fun c30 => ?_) (fun c30 => ?_)
    · skip
      refine A_iloadn C dX8_holds_21 3 rfl rfl ?_
      refine A_istore (lv' := [(5, .int (iI x2)), (4, .int (iI x3)), (0, .ref 110), (1, .int (iI x1)), (2, .int (iI x2)), (3, .int (iI x3))]) C dX8_holds_22 (by decide) rfl ?_
      refine A_pick [2, 3, 4, 5, 1, 0] rfl ?_
      exact lpX8_holds_24 C  hx1 hx2 hx3 hy0 W ((0 : Nat) + 1) x3 x2 (by omega) (by omega) (by simp only [lowF, highF]; split <;> omega)
    · skip
      refine A_iloadn C dX8_holds_17 4 rfl rfl ?_
      refine A_goto C 22 dX8_holds_18 (by decide) ?_
      refine A_istore (lv' := [(5, .int (iI x3)), (4, .int (iI x3)), (0, .ref 110), (1, .int (iI x1)), (2, .int (iI x2)), (3, .int (iI x3))]) C dX8_holds_22 (by decide) rfl ?_
      refine A_pick [2, 3, 4, 5, 1, 0] rfl ?_
      exact lpX8_holds_24 C  hx1 hx2 hx3 hy0 W ((0 : Nat) + 1) x3 x3 (by omega) (by omega) (by simp only [lowF, highF]; split <;> omega)
  · skip
    refine A_iloadn C dX8_holds_5 2 rfl rfl ?_
    refine A_goto C 10 dX8_holds_6 (by decide) ?_
    refine A_istore (lv' := [(4, .int (iI x2)), (0, .ref 110), (1, .int (iI x1)), (2, .int (iI x2)), (3, .int (iI x3))]) C dX8_holds_10 (by decide) rfl ?_
    refine A_iloadn C dX8_holds_12 3 rfl rfl ?_
    refine A_iloadn C dX8_holds_13 4 rfl rfl ?_
    refine A_icmpge C 21 dX8_holds_14 (by decide) (by omega) (by omega) (fun c31 => ?_) (fun c31 => ?_)
    · skip
      refine A_iloadn C dX8_holds_21 3 rfl rfl ?_
      refine A_istore (lv' := [(5, .int (iI x2)), (4, .int (iI x2)), (0, .ref 110), (1, .int (iI x1)), (2, .int (iI x2)), (3, .int (iI x3))]) C dX8_holds_22 (by decide) rfl ?_
      refine A_pick [2, 3, 4, 5, 1, 0] rfl ?_
      exact lpX8_holds_24 C  hx1 hx2 hx3 hy0 W ((0 : Nat) + 1) x2 x2 (by omega) (by omega) (by simp only [lowF, highF]; split <;> omega)
    · skip
      refine A_iloadn C dX8_holds_17 4 rfl rfl ?_
      refine A_goto C 22 dX8_holds_18 (by decide) ?_
      refine A_istore (lv' := [(5, .int (iI x3)), (4, .int (iI x2)), (0, .ref 110), (1, .int (iI x1)), (2, .int (iI x2)), (3, .int (iI x3))]) C dX8_holds_22 (by decide) rfl ?_
      refine A_pick [2, 3, 4, 5, 1, 0] rfl ?_
      exact lpX8_holds_24 C  hx1 hx2 hx3 hy0 W ((0 : Nat) + 1) x2 x3 (by omega) (by omega) (by simp only [lowF, highF]; split <;> omega)

set_option maxHeartbeats 4000000 in
theorem kX8_drives  {x1 : Int} {x2 : Int} {x3 : Int} (hx1 : (0 : Int) ≤ x1 ∧ x1 ≤ 11) (hx2 : (0 : Int) ≤ x2 ∧ x2 ≤ 24) (hx3 : (0 : Int) ≤ x3 ∧ x3 ≤ 24) : Ct yX8_drives wsX8_drives 2 [.ref 110, .int (iI x1), .int (iI x2), .int (iI x3)] (fun M => WF M) (fun M r M' => ∃ z : Int, r = some (.long (lL z)) ∧ r64 z ∧ M = M' ∧ (-412560 ≤ z ∧ z ≤ 412560) ∧ z = fDrives M.1 x1 x2 x3) := by
  refine Ct_of (cc := cX8_drives) (nL := 4) (rt := (some .long)) (own := RX8) rfl (by decide) rfl (Nat.le_of_ble_eq_true rfl) ?_
  intro p l e s m args below meth c G M0 C W
  have E : Fr [] M0 M0 := Fr.rf
  refine A_lv (lv' := [(0, .ref 110), (1, .int (iI x1)), (2, .int (iI x2)), (3, .int (iI x3))]) rfl ?_
  refine A_ldc2 C (index := 103) (v := 10) (z := 10) (by decide +kernel) (by decide +kernel) dX8_drives_0 ?_
  refine A_aloadn C dX8_drives_3 0 rfl rfl ?_
  refine A_iloadn C dX8_drives_4 1 rfl rfl ?_
  refine A_iloadn C dX8_drives_5 2 rfl rfl ?_
  refine A_iloadn C dX8_drives_6 3 rfl rfl ?_
  refine A_icmpge C 14 dX8_drives_7 (by decide) (by omega) (by omega) (fun c1 => ?_) (fun c1 => ?_)
  · skip
    refine A_iloadn C dX8_drives_14 2 rfl rfl ?_
    refine A_callV C (n := 2) (st := [.long (lL 10)]) (kX8_press  (by omega) (by omega)) gX8_drives_X8_press rfl (by decide +kernel) ⟨Nat.le_of_ble_eq_true rfl, Nat.le_of_ble_eq_true rfl⟩ kd_110 rfl rfl rfl rfl (Nat.le_of_ble_eq_true rfl) dX8_drives_15 rfl W (fun r2 M3 h4 => ?_)
    obtain ⟨z6, rfl, lz6, uz6, rfl, xx5⟩ := h4
    refine A_st (st' := [.int (iI z6), .long (lL 10)]) rfl ?_
    refine A_i2l C (by omega) dX8_drives_18 ?_
    refine A_lmul C dX8_drives_19 ?_
    refine A_iloadn C dX8_drives_20 2 rfl rfl ?_
    refine A_iloadn C dX8_drives_21 3 rfl rfl ?_
    refine A_isub C dX8_drives_22 ?_
    refine A_i2l C (by omega) dX8_drives_23 ?_
    refine A_lmul C dX8_drives_24 ?_
    have q1006 := mul_abs (a := (10 * z6)) (b := (x2 - x3)) (A := 17190) (B := 24) (by omega) (by omega) (by omega) (by omega) (by omega)
    exact A_lret C dX8_drives_25 ⟨(10 * z6) * (x2 - x3), rfl, by omega, rfl, ⟨by omega, by subst_vars; simp only [fDrives, highF]; (repeat' split) <;> first | rfl | omega⟩⟩
  · skip
    refine A_iloadn C dX8_drives_10 3 rfl rfl ?_
    refine A_goto C 15 dX8_drives_11 (by decide) ?_
    refine A_callV C (n := 2) (st := [.long (lL 10)]) (kX8_press  (by omega) (by omega)) gX8_drives_X8_press rfl (by decide +kernel) ⟨Nat.le_of_ble_eq_true rfl, Nat.le_of_ble_eq_true rfl⟩ kd_110 rfl rfl rfl rfl (Nat.le_of_ble_eq_true rfl) dX8_drives_15 rfl W (fun r7 M8 h9 => ?_)
    obtain ⟨z11, rfl, lz11, uz11, rfl, xx10⟩ := h9
    refine A_st (st' := [.int (iI z11), .long (lL 10)]) rfl ?_
    refine A_i2l C (by omega) dX8_drives_18 ?_
    refine A_lmul C dX8_drives_19 ?_
    refine A_iloadn C dX8_drives_20 2 rfl rfl ?_
    refine A_iloadn C dX8_drives_21 3 rfl rfl ?_
    refine A_isub C dX8_drives_22 ?_
    refine A_i2l C (by omega) dX8_drives_23 ?_
    refine A_lmul C dX8_drives_24 ?_
    have q1011 := mul_abs (a := (10 * z11)) (b := (x2 - x3)) (A := 17190) (B := 24) (by omega) (by omega) (by omega) (by omega) (by omega)
    exact A_lret C dX8_drives_25 ⟨(10 * z11) * (x2 - x3), rfl, by omega, rfl, ⟨by omega, by subst_vars; simp only [fDrives, highF]; (repeat' split) <;> first | rfl | omega⟩⟩
