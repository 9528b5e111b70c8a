theorem uX8_swap_f_8 : ∀ w ∈ u_ws RX8 TX8 35, w ∈ wsX8_swap := by decide +kernel
theorem fX8_swap_f_70 : Fl RX8 wsX8_swap 8 32 70 RX8 TX8 35 := ⟨rfl, by decide, uX8_swap_f_8, by decide +kernel⟩
set_option maxHeartbeats 4000000 in
theorem kX8_swap_f  {x1 : Int} {x2 : Int} (hx1 : (0 : Int) ≤ x1 ∧ x1 ≤ 5) (hx2 : (0 : Int) ≤ x2 ∧ x2 ≤ 5) : Ct yX8_swap wsX8_swap 1 [.ref 110, .int (iI x1), .int (iI x2)] (fun M => WF M) (fun M r M' => r = none ∧ WF M' ∧ Fr [48] M M' ∧ M'.1 128 = swp (M.1 128) x1.toNat x2.toNat) := by
  refine Ct_of (cc := cX8_swap) (nL := 4) (rt := none) (own := RX8) rfl (by decide) rfl (Nat.le_of_ble_eq_true rfl) ?_
  intro p l e s m args below meth c G M0 C W
  have E : Fr [48] M0 M0 := Fr.rf
  refine A_lv (lv' := [(0, .ref 110), (1, .int (iI x1)), (2, .int (iI x2))]) rfl ?_
  refine A_aloadn C dX8_swap_0 0 rfl rfl ?_
  refine G_getC C W kd_110 rfl rfl rfl rfl uq_48 fX8_swap_f_70 dX8_swap_1 ?_
  refine A_iloadn C dX8_swap_4 1 rfl rfl ?_
  refine G_iald C W kd_128 rfl rfl (by decide) (fun _ => rfl) (by omega) (by omega) dX8_swap_5 (fun z1 ez1 lz1 uz1 => ?_)
  refine A_istoren (lv' := [(3, .int (iI z1)), (0, .ref 110), (1, .int (iI x1)), (2, .int (iI x2))]) C dX8_swap_6 rfl (by decide) rfl ?_
  refine A_aloadn C dX8_swap_7 1 rfl rfl ?_
  refine G_getC C W kd_110 rfl rfl rfl rfl uq_48 fX8_swap_f_70 dX8_swap_8 ?_
  refine A_iloadn C dX8_swap_11 2 rfl rfl ?_
  refine A_aloadn C dX8_swap_12 1 rfl rfl ?_
  refine G_getC C W kd_110 rfl rfl rfl rfl uq_48 fX8_swap_f_70 dX8_swap_13 ?_
  refine A_iloadn C dX8_swap_16 3 rfl rfl ?_
  refine G_iald C W kd_128 rfl rfl (by decide) (fun _ => rfl) (by omega) (by omega) dX8_swap_17 (fun z2 ez2 lz2 uz2 => ?_)
  refine G_iast C W E kd_128 rfl rfl (by decide) (fun _ => rfl) rfl (by omega) (by omega) (by omega) (by omega) dX8_swap_18 (fun M3 eM3 WM3 EM3 => ?_)
  refine A_aloadn C dX8_swap_19 1 rfl rfl ?_
  refine G_getC C WM3 kd_110 rfl rfl rfl rfl uq_48 fX8_swap_f_70 dX8_swap_20 ?_
  refine A_iloadn C dX8_swap_23 3 rfl rfl ?_
  refine A_iloadn C dX8_swap_24 0 rfl rfl ?_
  refine G_iast C WM3 EM3 kd_128 rfl rfl (by decide) (fun _ => rfl) rfl (by omega) (by omega) (by omega) (by omega) dX8_swap_25 (fun M4 eM4 WM4 EM4 => ?_)
  exact A_vret C dX8_swap_26 ⟨rfl, WM4, EM4, by subst_vars; funext i; simp [sI, swp]⟩
