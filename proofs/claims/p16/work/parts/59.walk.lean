theorem uX8_walk_8 : ∀ w ∈ u_ws RX8 TX8 35, w ∈ wsX8_walk := by decide +kernel
theorem fX8_walk_61 : Fl RX8 wsX8_walk 8 21 61 RX8 TX8 35 := ⟨rfl, by decide, uX8_walk_8, by decide +kernel⟩
theorem fX8_walk_57 : Fl RX8 wsX8_walk 8 20 57 RX8 TX8 35 := ⟨rfl, by decide, uX8_walk_8, by decide +kernel⟩
theorem fX8_walk_64 : Fl RX8 wsX8_walk 8 22 64 RX8 TX8 35 := ⟨rfl, by decide, uX8_walk_8, by decide +kernel⟩
theorem fX8_walk_30 : Fl RX8 wsX8_walk 8 7 30 RX8 TX8 35 := ⟨rfl, by decide, uX8_walk_8, by decide +kernel⟩
theorem fX8_walk_96 : Fl RX8 wsX8_walk 8 11 96 RX8 TX8 35 := ⟨rfl, by decide, uX8_walk_8, by decide +kernel⟩
theorem fX8_walk_126 : Fl RX8 wsX8_walk 8 23 126 RX8 TX8 35 := ⟨rfl, by decide, uX8_walk_8, by decide +kernel⟩
theorem fX8_walk_130 : Fl RX8 wsX8_walk 8 24 130 RX8 TX8 35 := ⟨rfl, by decide, uX8_walk_8, by decide +kernel⟩
theorem fX8_walk_137 : Fl RX8 wsX8_walk 8 25 137 RX8 TX8 35 := ⟨rfl, by decide, uX8_walk_8, by decide +kernel⟩
theorem fX8_walk_7 : Fl RX8 wsX8_walk 8 0 7 RX8 TX8 35 := ⟨rfl, by decide, uX8_walk_8, by decide +kernel⟩
set_option maxHeartbeats 4000000 in
theorem lpX8_walk_388 {p : Program} {l : Launch} {e : Env} {s : State} {m : MethodId} {args : Array Value} {below : List Frame} {meth : Method} {c : Code} {G : xG} (C : Cx p s m args meth c G cX8_walk 20 RX8 wsX8_walk none)  {x1 : Int} {x2 : Int} {x4 : Int} {x6 : Int} (hx1 : (-1 : Int) ≤ x1 ∧ x1 ≤ 11) (hx2 : r64 x2) (hx4 : r64 x4) (hx6 : (-1 : Int) ≤ x6 ∧ x6 ≤ 12) (hy0 : 0 ≤ x2 ∧ x2 ≤ 7160292 ∧ 0 ≤ x4 ∧ x4 ≤ 4950720) {M0 : Mem} {N49 : Nat} (H49 : ∀ (v7 : Int) (M : Mem), (13 - v7).toNat < N49 → (0 ≤ v7 ∧ v7 ≤ M0.1 110 0 ∧ M.1 110 0 = M0.1 110 0) → (K49 x2 x4 x1 x6 M0 M v7) → WF M → Fr [30, 44, 45, 46] M0 M → AW p l e (rmD 3) s m args below meth c G 20 (QQ G below args s ((fun M r M' => r = none ∧ WF M' ∧ Fr [30, 44, 45, 46] M M' ∧ Sm M M' ∧ Bst x2 x4 (Lns M.1 x1 x6 (M.1 110 0).toNat) (M'.2.1 110 23) (M'.2.1 110 24) (M'.2.1 110 25)) M0)) M 49 [(0, .ref 110), (1, .int (iI x1)), (2, .long (lL x2)), (4, .long (lL x4)), (6, .int (iI x6)), (7, .int (iI v7))] []) {N78 : Nat} (H78 : ∀ (v7 v8 v9 : Int) (M : Mem), (26 - v9).toNat < N78 → (0 ≤ v7 ∧ v7 < M0.1 110 0 ∧ M.1 110 0 = M0.1 110 0 ∧ 0 ≤ v8 ∧ v8 ≤ 1 ∧ (v8 = 1 ↔ (x1 < 0 ∨ x1 = v7)) ∧ 0 ≤ v9 ∧ v9 ≤ 25 ∧ (13 - v7).toNat ≤ N49) → (K78 x2 x4 x1 x6 M0 M v7 v9) → WF M → Fr [30, 44, 45, 46] M0 M → AW p l e (rmD 3) s m args below meth c G 20 (QQ G below args s ((fun M r M' => r = none ∧ WF M' ∧ Fr [30, 44, 45, 46] M M' ∧ Sm M M' ∧ Bst x2 x4 (Lns M.1 x1 x6 (M.1 110 0).toNat) (M'.2.1 110 23) (M'.2.1 110 24) (M'.2.1 110 25)) M0)) M 78 [(0, .ref 110), (1, .int (iI x1)), (2, .long (lL x2)), (4, .long (lL x4)), (6, .int (iI x6)), (7, .int (iI v7)), (8, .int (iI v8)), (9, .int (iI v9))] []) {N196 : Nat} (H196 : ∀ (v7 v8 v9 v10 v11 : Int) (M : Mem), (26 - v11).toNat < N196 → (0 ≤ v7 ∧ v7 < M0.1 110 0 ∧ M.1 110 0 = M0.1 110 0 ∧ 0 ≤ v8 ∧ v8 ≤ 1 ∧ (v8 = 1 ↔ (x1 < 0 ∨ x1 = v7)) ∧ 0 ≤ v9 ∧ v9 ≤ 24 ∧ v10 = 25 * v7 + v9 ∧ 0 ≤ v11 ∧ v11 ≤ 25 ∧ (13 - v7).toNat ≤ N49 ∧ (26 - v9).toNat ≤ N78) → (K196 x2 x4 x1 x6 M0 M v7 v9 v11) → WF M → Fr [30, 44, 45, 46] M0 M → AW p l e (rmD 3) s m args below meth c G 20 (QQ G below args s ((fun M r M' => r = none ∧ WF M' ∧ Fr [30, 44, 45, 46] M M' ∧ Sm M M' ∧ Bst x2 x4 (Lns M.1 x1 x6 (M.1 110 0).toNat) (M'.2.1 110 23) (M'.2.1 110 24) (M'.2.1 110 25)) M0)) M 196 [(0, .ref 110), (1, .int (iI x1)), (2, .long (lL x2)), (4, .long (lL x4)), (6, .int (iI x6)), (7, .int (iI v7)), (8, .int (iI v8)), (9, .int (iI v9)), (10, .int (iI v10)), (11, .int (iI v11))] []) : ∀ (n : Nat) (v7 v8 v9 v10 v11 v12 v14 v16 v18 : Int) (M : Mem), (0 : Nat) < n → (0 ≤ v7 ∧ v7 < M0.1 110 0 ∧ M.1 110 0 = M0.1 110 0 ∧ 0 ≤ v8 ∧ v8 ≤ 1 ∧ (v8 = 1 ↔ (x1 < 0 ∨ x1 = v7)) ∧ 0 ≤ v9 ∧ v9 ≤ 24 ∧ v10 = 25 * v7 + v9 ∧ 0 ≤ v11 ∧ v11 ≤ 24 ∧ (0 ≤ v12 ∧ v12 ≤ 596691) ∧ (-412560 ≤ v14 ∧ v14 ≤ 412560) ∧ (-200000000000000 ≤ v16 ∧ v16 ≤ 200000000000000) ∧ v18 = 25 * v7 + 25 + v11 ∧ (13 - v7).toNat ≤ N49 ∧ (26 - v9).toNat ≤ N78 ∧ (26 - v11).toNat ≤ N196) → (K388 x2 x4 x1 x6 M0 M v7 v9 v11 v10.toNat v12 v14 v16) → WF M → Fr [30, 44, 45, 46] M0 M → AW p l e (rmD 3) s m args below meth c G 20 (QQ G below args s ((fun M r M' => r = none ∧ WF M' ∧ Fr [30, 44, 45, 46] M M' ∧ Sm M M' ∧ Bst x2 x4 (Lns M.1 x1 x6 (M.1 110 0).toNat) (M'.2.1 110 23) (M'.2.1 110 24) (M'.2.1 110 25)) M0)) M 388 [(0, .ref 110), (1, .int (iI x1)), (2, .long (lL x2)), (4, .long (lL x4)), (6, .int (iI x6)), (7, .int (iI v7)), (8, .int (iI v8)), (9, .int (iI v9)), (10, .int (iI v10)), (11, .int (iI v11)), (12, .long (lL v12)), (14, .long (lL v14)), (16, .long (lL v16)), (18, .int (iI v18))] [] := by
  intro n
  induction n with
  | zero => intro v7 v8 v9 v10 v11 v12 v14 v16 v18 M hn; exact absurd hn (Nat.not_lt_zero _)
  | succ n ih =>
    intro v7 v8 v9 v10 v11 v12 v14 v16 v18 M hn hi h2 W E
    have fa_110_0 : (0 : Int) ≤ M.1 110 0 ∧ M.1 110 0 ≤ 12 := W.i kd_110 0
    refine A_lload C dX8_walk_388 12 rfl ?_
    have hbd := K388_bd W h2 (by omega) (by omega) (by omega) (by omega) (by omega) (by omega) (ix_of (v := v10) (by omega) (by omega))
    refine A_aloadn C dX8_walk_390 0 rfl rfl ?_
    refine G_getC C W kd_110 rfl rfl rfl rfl uq_45 fX8_walk_61 dX8_walk_391 ?_
    refine A_iload C dX8_walk_394 8 rfl ?_
    refine G_lald C W kd_125 rfl rfl (by decide) (by omega) (by omega) dX8_walk_396 (fun z1 ez1 rz1 => ?_)
    refine A_lload C dX8_walk_397 11 rfl ?_
    refine A_ladd C dX8_walk_399 ?_
    refine A_aloadn C dX8_walk_400 0 rfl rfl ?_
    refine G_getC C W kd_110 rfl rfl rfl rfl uq_44 fX8_walk_57 dX8_walk_401 ?_
    refine A_iload C dX8_walk_404 13 rfl ?_
    refine G_lald C W kd_124 rfl rfl (by decide) (by omega) (by omega) dX8_walk_406 (fun z2 ez2 rz2 => ?_)
    refine A_aloadn C dX8_walk_407 0 rfl rfl ?_
    refine G_getC C W kd_110 rfl rfl rfl rfl uq_45 fX8_walk_61 dX8_walk_408 ?_
    refine A_iload C dX8_walk_411 13 rfl ?_
    refine G_lald C W kd_125 rfl rfl (by decide) (by omega) (by omega) dX8_walk_413 (fun z3 ez3 rz3 => ?_)
    refine A_callS C (n := 4) (st := []) (kX8_better  (by omega) (by omega) (by omega) (by omega)) gX8_walk_X8_better rfl (by decide +kernel) ⟨Nat.le_of_ble_eq_true rfl, Nat.le_of_ble_eq_true rfl⟩ rfl (Nat.le_of_ble_eq_true rfl) dX8_walk_414 rfl W (fun r4 M5 h6 => ?_)
    obtain ⟨z8, rfl, lz8, uz8, rfl, xx7⟩ := h6
    refine A_st (st' := [.int (iI z8)]) rfl ?_
    refine A_ifeq C 463 dX8_walk_417 (by decide) (by omega) (fun c9 => ?_) (fun c9 => ?_)
    · skip
      refine A_iinc (lv' := [(11, .int (iI (v11 + 1))), (0, .ref 110), (1, .int (iI x1)), (2, .long (lL x2)), (4, .long (lL x4)), (6, .int (iI x6)), (7, .int (iI v7)), (8, .int (iI v8)), (9, .int (iI v9)), (10, .int (iI v10)), (12, .long (lL v12)), (14, .long (lL v14)), (16, .long (lL v16)), (18, .int (iI v18))]) C dX8_walk_463 9 rfl (by decide) rfl ?_
      refine A_goto C 196 dX8_walk_466 (by decide) ?_
      refine A_pick [1, 2, 3, 4, 5, 6, 7, 8, 9, 0] rfl ?_
      exact H196 v7 v8 v9 v10 (v11 + 1) M (by omega) (by omega) (K196_s h2 (by omega) (by omega) (by omega) (by omega) (by omega) (ix_of (v := v10) (by omega) (by omega)) (ix_of2 (v := v18) (by omega) (by omega)) (by omega) (by omega)) W E
    · skip
      refine A_aloadn C dX8_walk_420 0 rfl rfl ?_
      refine G_getC C W kd_110 rfl rfl rfl rfl uq_44 fX8_walk_57 dX8_walk_421 ?_
      refine A_iload C dX8_walk_424 13 rfl ?_
      refine A_lload C dX8_walk_426 12 rfl ?_
      refine G_last C W E kd_124 rfl rfl (by decide) rfl (by omega) (by omega) (by omega) dX8_walk_428 (fun M10 eM10 WM10 EM10 => ?_)
      have t_M10_110_0 : M10.1 110 0 = M.1 110 0 := by rw [eM10]; rfl
      refine A_aloadn C dX8_walk_429 0 rfl rfl ?_
      refine G_getC C WM10 kd_110 rfl rfl rfl rfl uq_45 fX8_walk_61 dX8_walk_430 ?_
      refine A_iload C dX8_walk_433 13 rfl ?_
      refine A_aloadn C dX8_walk_435 0 rfl rfl ?_
      refine G_getC C WM10 kd_110 rfl rfl rfl rfl uq_45 fX8_walk_61 dX8_walk_436 ?_
      refine A_iload C dX8_walk_439 8 rfl ?_
      refine G_lald C WM10 kd_125 rfl rfl (by decide) (by omega) (by omega) dX8_walk_441 (fun z11 ez11 rz11 => ?_)
      have qz11 : z11 = M.2.1 125 v10.toNat := by rw [ez11, eM10, sL_nb rfl]
      refine A_lload C dX8_walk_442 11 rfl ?_
      refine A_ladd C dX8_walk_444 ?_
      refine G_last C WM10 EM10 kd_125 rfl rfl (by decide) rfl (by omega) (by omega) (by omega) dX8_walk_445 (fun M12 eM12 WM12 EM12 => ?_)
      have t_M12_110_0 : M12.1 110 0 = M10.1 110 0 := by rw [eM12]; rfl
      refine A_aloadn C dX8_walk_446 0 rfl rfl ?_
      refine G_getC C WM12 kd_110 rfl rfl rfl rfl uq_46 fX8_walk_64 dX8_walk_447 ?_
      refine A_iload C dX8_walk_450 13 rfl ?_
      refine A_aloadn C dX8_walk_452 0 rfl rfl ?_
      refine G_getC C WM12 kd_110 rfl rfl rfl rfl uq_46 fX8_walk_64 dX8_walk_453 ?_
      refine A_iload C dX8_walk_456 8 rfl ?_
      refine G_lald C WM12 kd_126 rfl rfl (by decide) (by omega) (by omega) dX8_walk_458 (fun z13 ez13 rz13 => ?_)
      have qz13 : z13 = M.2.1 126 v10.toNat := by rw [ez13, eM12, eM10, sL_nb rfl, sL_nb rfl]
      refine A_lload C dX8_walk_459 10 rfl ?_
      refine A_ladd C dX8_walk_461 ?_
      refine G_last C WM12 EM12 kd_126 rfl rfl (by decide) rfl (by omega) (by omega) (by omega) dX8_walk_462 (fun M14 eM14 WM14 EM14 => ?_)
      have t_M14_110_0 : M14.1 110 0 = M12.1 110 0 := by rw [eM14]; rfl
      refine A_iinc (lv' := [(11, .int (iI (v11 + 1))), (0, .ref 110), (1, .int (iI x1)), (2, .long (lL x2)), (4, .long (lL x4)), (6, .int (iI x6)), (7, .int (iI v7)), (8, .int (iI v8)), (9, .int (iI v9)), (10, .int (iI v10)), (12, .long (lL v12)), (14, .long (lL v14)), (16, .long (lL v16)), (18, .int (iI v18))]) C dX8_walk_463 9 rfl (by decide) rfl ?_
      refine A_goto C 196 dX8_walk_466 (by decide) ?_
      refine A_pick [1, 2, 3, 4, 5, 6, 7, 8, 9, 0] rfl ?_
      exact H196 v7 v8 v9 v10 (v11 + 1) M14 (by omega) (by omega) (K196_y h2 (by omega) (by omega) (by omega) (by omega) (by omega) (ix_of (v := v10) (by omega) (by omega)) (ix_of2 (v := v18) (by omega) (by omega)) (by omega) (by omega) (d1 := z11 + v14) (h1 := z13 + v12) (by omega) (by omega) (by rw [eM14, eM12, eM10])) WM14 EM14
set_option maxHeartbeats 4000000 in
theorem lpX8_walk_196 {p : Program} {l : Launch} {e : Env} {s : State} {m : MethodId} {args : Array Value} {below : List Frame} {meth : Method} {c : Code} {G : xG} (C : Cx p s m args meth c G cX8_walk 20 RX8 wsX8_walk none)  {x1 : Int} {x2 : Int} {x4 : Int} {x6 : Int} (hx1 : (-1 : Int) ≤ x1 ∧ x1 ≤ 11) (hx2 : r64 x2) (hx4 : r64 x4) (hx6 : (-1 : Int) ≤ x6 ∧ x6 ≤ 12) (hy0 : 0 ≤ x2 ∧ x2 ≤ 7160292 ∧ 0 ≤ x4 ∧ x4 ≤ 4950720) {M0 : Mem} {N49 : Nat} (H49 : ∀ (v7 : Int) (M : Mem), (13 - v7).toNat < N49 → (0 ≤ v7 ∧ v7 ≤ M0.1 110 0 ∧ M.1 110 0 = M0.1 110 0) → (K49 x2 x4 x1 x6 M0 M v7) → WF M → Fr [30, 44, 45, 46] M0 M → AW p l e (rmD 3) s m args below meth c G 20 (QQ G below args s ((fun M r M' => r = none ∧ WF M' ∧ Fr [30, 44, 45, 46] M M' ∧ Sm M M' ∧ Bst x2 x4 (Lns M.1 x1 x6 (M.1 110 0).toNat) (M'.2.1 110 23) (M'.2.1 110 24) (M'.2.1 110 25)) M0)) M 49 [(0, .ref 110), (1, .int (iI x1)), (2, .long (lL x2)), (4, .long (lL x4)), (6, .int (iI x6)), (7, .int (iI v7))] []) {N78 : Nat} (H78 : ∀ (v7 v8 v9 : Int) (M : Mem), (26 - v9).toNat < N78 → (0 ≤ v7 ∧ v7 < M0.1 110 0 ∧ M.1 110 0 = M0.1 110 0 ∧ 0 ≤ v8 ∧ v8 ≤ 1 ∧ (v8 = 1 ↔ (x1 < 0 ∨ x1 = v7)) ∧ 0 ≤ v9 ∧ v9 ≤ 25 ∧ (13 - v7).toNat ≤ N49) → (K78 x2 x4 x1 x6 M0 M v7 v9) → WF M → Fr [30, 44, 45, 46] M0 M → AW p l e (rmD 3) s m args below meth c G 20 (QQ G below args s ((fun M r M' => r = none ∧ WF M' ∧ Fr [30, 44, 45, 46] M M' ∧ Sm M M' ∧ Bst x2 x4 (Lns M.1 x1 x6 (M.1 110 0).toNat) (M'.2.1 110 23) (M'.2.1 110 24) (M'.2.1 110 25)) M0)) M 78 [(0, .ref 110), (1, .int (iI x1)), (2, .long (lL x2)), (4, .long (lL x4)), (6, .int (iI x6)), (7, .int (iI v7)), (8, .int (iI v8)), (9, .int (iI v9))] []) : ∀ (n : Nat) (v7 v8 v9 v10 v11 : Int) (M : Mem), (26 - v11).toNat < n → (0 ≤ v7 ∧ v7 < M0.1 110 0 ∧ M.1 110 0 = M0.1 110 0 ∧ 0 ≤ v8 ∧ v8 ≤ 1 ∧ (v8 = 1 ↔ (x1 < 0 ∨ x1 = v7)) ∧ 0 ≤ v9 ∧ v9 ≤ 24 ∧ v10 = 25 * v7 + v9 ∧ 0 ≤ v11 ∧ v11 ≤ 25 ∧ (13 - v7).toNat ≤ N49 ∧ (26 - v9).toNat ≤ N78) → (K196 x2 x4 x1 x6 M0 M v7 v9 v11) → WF M → Fr [30, 44, 45, 46] M0 M → AW p l e (rmD 3) s m args below meth c G 20 (QQ G below args s ((fun M r M' => r = none ∧ WF M' ∧ Fr [30, 44, 45, 46] M M' ∧ Sm M M' ∧ Bst x2 x4 (Lns M.1 x1 x6 (M.1 110 0).toNat) (M'.2.1 110 23) (M'.2.1 110 24) (M'.2.1 110 25)) M0)) M 196 [(0, .ref 110), (1, .int (iI x1)), (2, .long (lL x2)), (4, .long (lL x4)), (6, .int (iI x6)), (7, .int (iI v7)), (8, .int (iI v8)), (9, .int (iI v9)), (10, .int (iI v10)), (11, .int (iI v11))] [] := by
  intro n
  induction n with
  | zero => intro v7 v8 v9 v10 v11 M hn; exact absurd hn (Nat.not_lt_zero _)
  | succ n ih =>
    intro v7 v8 v9 v10 v11 M hn hi h2 W E
    have fa_110_0 : (0 : Int) ≤ M.1 110 0 ∧ M.1 110 0 ≤ 12 := W.i kd_110 0
    refine A_iload C dX8_walk_196 9 rfl ?_
    refine A_iload C dX8_walk_198 7 rfl ?_
    refine A_iconst C dX8_walk_200 ?_
    refine A_iadd C dX8_walk_201 ?_
    refine A_icmpgt C 469 dX8_walk_202 (by decide) (by omega) (by omega) (fun c15 => ?_) (fun c15 => ?_)
    · skip
      refine A_iinc (lv' := [(9, .int (iI (v9 + 1))), (0, .ref 110), (1, .int (iI x1)), (2, .long (lL x2)), (4, .long (lL x4)), (6, .int (iI x6)), (7, .int (iI v7)), (8, .int (iI v8)), (10, .int (iI v10)), (11, .int (iI v11))]) C dX8_walk_469 7 rfl (by decide) rfl ?_
      refine A_goto C 78 dX8_walk_472 (by decide) ?_
      refine A_pick [1, 2, 3, 4, 5, 6, 7, 0] rfl ?_
      exact H78 v7 v8 (v9 + 1) M (by omega) (by omega) (K78_o W h2 (by omega)) W E
    · skip
      refine A_iload C dX8_walk_205 9 rfl ?_
      refine A_bipush C dX8_walk_207 (by decide) ?_
      refine A_icmpge C 469 dX8_walk_209 (by decide) (by omega) (by omega) (fun c16 => ?_) (fun c16 => ?_)
      · skip
        refine A_iinc (lv' := [(9, .int (iI (v9 + 1))), (0, .ref 110), (1, .int (iI x1)), (2, .long (lL x2)), (4, .long (lL x4)), (6, .int (iI x6)), (7, .int (iI v7)), (8, .int (iI v8)), (10, .int (iI v10)), (11, .int (iI v11))]) C dX8_walk_469 7 rfl (by decide) rfl ?_
        refine A_goto C 78 dX8_walk_472 (by decide) ?_
        refine A_pick [1, 2, 3, 4, 5, 6, 7, 0] rfl ?_
        exact H78 v7 v8 (v9 + 1) M (by omega) (by omega) (K78_o W h2 (by omega)) W E
      · skip
        refine A_aloadn C dX8_walk_212 0 rfl rfl ?_
        refine A_iload C dX8_walk_213 5 rfl ?_
        refine A_iload C dX8_walk_215 7 rfl ?_
        refine A_iload C dX8_walk_217 9 rfl ?_
        refine A_callV C (n := 3) (st := []) (kX8_can  (by omega) (by omega) (by omega)) gX8_walk_X8_can rfl (by decide +kernel) ⟨Nat.le_of_ble_eq_true rfl, Nat.le_of_ble_eq_true rfl⟩ kd_110 rfl rfl rfl rfl (Nat.le_of_ble_eq_true rfl) dX8_walk_219 rfl W (fun r17 M18 h19 => ?_)
        obtain ⟨z21, rfl, lz21, uz21, rfl, xx20⟩ := h19
        refine A_st (st' := [.int (iI z21)]) rfl ?_
        refine A_ifne C 228 dX8_walk_222 (by decide) (by omega) (fun c22 => ?_) (fun c22 => ?_)
        · skip
          refine A_aloadn C dX8_walk_228 0 rfl rfl ?_
          have hlo := can_lt W (xx20.mp (by omega))
          refine A_iload C dX8_walk_229 5 rfl ?_
          refine A_iload C dX8_walk_231 7 rfl ?_
          refine A_iload C dX8_walk_233 9 rfl ?_
          refine A_callV C (n := 3) (st := []) (kX8_holds  (by omega) (by omega) (by omega) (by omega)) gX8_walk_X8_holds rfl (by decide +kernel) ⟨Nat.le_of_ble_eq_true rfl, Nat.le_of_ble_eq_true rfl⟩ kd_110 rfl rfl rfl rfl (Nat.le_of_ble_eq_true rfl) dX8_walk_235 rfl W (fun r23 M24 h25 => ?_)
          obtain ⟨z27, rfl, rz27, rfl, xx26⟩ := h25
          refine A_st (st' := [.long (lL z27)]) rfl ?_
          refine A_lstore (lv' := [(12, .long (lL z27)), (0, .ref 110), (1, .int (iI x1)), (2, .long (lL x2)), (4, .long (lL x4)), (6, .int (iI x6)), (7, .int (iI v7)), (8, .int (iI v8)), (9, .int (iI v9)), (10, .int (iI v10)), (11, .int (iI v11))]) C dX8_walk_238 (by decide) rfl ?_
          refine A_aloadn C dX8_walk_240 1 rfl rfl ?_
          refine A_iload C dX8_walk_241 6 rfl ?_
          refine A_iload C dX8_walk_243 8 rfl ?_
          refine A_iload C dX8_walk_245 10 rfl ?_
          refine A_callV C (n := 3) (st := []) (kX8_drives  (by omega) (by omega) (by omega)) gX8_walk_X8_drives rfl (by decide +kernel) ⟨Nat.le_of_ble_eq_true rfl, Nat.le_of_ble_eq_true rfl⟩ kd_110 rfl rfl rfl rfl (Nat.le_of_ble_eq_true rfl) dX8_walk_247 rfl W (fun r28 M29 h30 => ?_)
          obtain ⟨z32, rfl, rz32, rfl, xx31⟩ := h30
          refine A_st (st' := [.long (lL z32)]) rfl ?_
          refine A_lstore (lv' := [(14, .long (lL z32)), (12, .long (lL z27)), (0, .ref 110), (1, .int (iI x1)), (2, .long (lL x2)), (4, .long (lL x4)), (6, .int (iI x6)), (7, .int (iI v7)), (8, .int (iI v8)), (9, .int (iI v9)), (10, .int (iI v10)), (11, .int (iI v11))]) C dX8_walk_250 (by decide) rfl ?_
          refine A_aloadn C dX8_walk_252 2 rfl rfl ?_
          refine G_getC C W kd_110 rfl rfl rfl rfl uq_44 fX8_walk_57 dX8_walk_253 ?_
          refine A_iload C dX8_walk_256 10 rfl ?_
          refine G_lald C W kd_124 rfl rfl (by decide) (by omega) (by omega) dX8_walk_258 (fun z33 ez33 rz33 => ?_)
          have hbd := K196_bd (i := v10.toNat) W h2 (by omega) (by omega) (by omega) (by omega) (by omega) (by omega) (ix_of (v := v10) (by omega) (by omega))
          refine A_lload C dX8_walk_259 5 rfl ?_
          refine A_lload C dX8_walk_261 1 rfl ?_
          refine A_lmul C dX8_walk_263 ?_
          have qh := mul_bd (a := x4) (b := z27) (A := 4950720) (B := 596691) (by omega) (by omega) (by omega) (by omega)
          refine A_ladd C dX8_walk_264 ?_
          refine A_lloadn C dX8_walk_265 4 rfl rfl ?_
          refine A_lload C dX8_walk_266 0 rfl ?_
          refine A_lmul C dX8_walk_268 ?_
          have qd := mul_abs (a := x2) (b := z32) (A := 7160292) (B := 412560) (by omega) (by omega) (by omega) (by omega) (by omega)
          refine A_lsub C dX8_walk_269 ?_
          refine A_naml (fun z34 ez34 => ?_)
          refine A_lstore (lv' := [(16, .long (lL z34)), (14, .long (lL z32)), (12, .long (lL z27)), (0, .ref 110), (1, .int (iI x1)), (2, .long (lL x2)), (4, .long (lL x4)), (6, .int (iI x6)), (7, .int (iI v7)), (8, .int (iI v8)), (9, .int (iI v9)), (10, .int (iI v10)), (11, .int (iI v11))]) C dX8_walk_270 (by decide) rfl ?_
          refine A_iload C dX8_walk_272 11 rfl ?_
          refine A_bipush C dX8_walk_274 (by decide) ?_
          refine A_iadd C dX8_walk_276 ?_
          refine A_iload C dX8_walk_277 10 rfl ?_
          refine A_isub C dX8_walk_279 ?_
          refine A_iload C dX8_walk_280 12 rfl ?_
          refine A_iadd C dX8_walk_282 ?_
          refine A_nami (fun z35 ez35 => ?_)
          refine A_istore (lv' := [(18, .int (iI z35)), (16, .long (lL z34)), (14, .long (lL z32)), (12, .long (lL z27)), (0, .ref 110), (1, .int (iI x1)), (2, .long (lL x2)), (4, .long (lL x4)), (6, .int (iI x6)), (7, .int (iI v7)), (8, .int (iI v8)), (9, .int (iI v9)), (10, .int (iI v10)), (11, .int (iI v11))]) C dX8_walk_283 (by decide) rfl ?_
          refine A_iload C dX8_walk_285 13 rfl ?_
          refine A_aloadn C dX8_walk_287 4 rfl rfl ?_
          refine G_getC C W kd_110 rfl rfl rfl rfl uq_36 fX8_walk_30 dX8_walk_288 ?_
          refine A_aloadn C dX8_walk_291 4 rfl rfl ?_
          refine G_getI C W kd_110 rfl rfl rfl rfl rfl fX8_walk_96 rfl dX8_walk_292 (fun z36 ez36 lz36 uz36 => ?_)
          refine A_iload C dX8_walk_295 9 rfl ?_
          refine A_iadd C dX8_walk_297 ?_
          refine G_iald C W kd_116 rfl rfl (by decide) (fun _ => rfl) (by omega) (by omega) dX8_walk_298 (fun z37 ez37 lz37 uz37 => ?_)
          have hTz37 := top_of h2.1 ez36 ez37
          refine A_icmpne C 320 dX8_walk_299 (by decide) (by omega) (by omega) (fun c38 => ?_) (fun c38 => ?_)
          · skip
            refine A_iconst C dX8_walk_320 ?_
            refine A_istore (lv' := [(19, .int (iI 0)), (18, .int (iI z35)), (16, .long (lL z34)), (14, .long (lL z32)), (12, .long (lL z27)), (0, .ref 110), (1, .int (iI x1)), (2, .long (lL x2)), (4, .long (lL x4)), (6, .int (iI x6)), (7, .int (iI v7)), (8, .int (iI v8)), (9, .int (iI v9)), (10, .int (iI v10)), (11, .int (iI v11))]) C dX8_walk_321 (by decide) rfl ?_
            refine A_iload C dX8_walk_323 0 rfl ?_
            refine A_ifeq C 388 dX8_walk_325 (by decide) (by omega) (fun c39 => ?_) (fun c39 => (by omega))
            refine A_pick [5, 6, 7, 8, 9, 10, 11, 12, 13, 14, 4, 3, 2, 1] rfl ?_
            exact lpX8_walk_388 C  hx1 hx2 hx4 hx6 hy0 H49 H78 ih ((0 : Nat) + 1) v7 v8 v9 v10 v11 z27 z32 z34 z35 M (by omega) (by omega) (K388_no h2 (ix_of (v := v10) (by omega) (by omega)) (xx20.mp (by omega)) xx26.2 xx31.2 (by omega) (by omega)) W E
          · skip
            refine A_iload C dX8_walk_302 8 rfl ?_
            refine A_iflt C 316 dX8_walk_304 (by decide) (by omega) (fun c40 => ?_) (fun c40 => ?_)
            · skip
              refine A_iconst C dX8_walk_316 ?_
              refine A_goto C 321 dX8_walk_317 (by decide) ?_
              refine A_istore (lv' := [(19, .int (iI 1)), (18, .int (iI z35)), (16, .long (lL z34)), (14, .long (lL z32)), (12, .long (lL z27)), (0, .ref 110), (1, .int (iI x1)), (2, .long (lL x2)), (4, .long (lL x4)), (6, .int (iI x6)), (7, .int (iI v7)), (8, .int (iI v8)), (9, .int (iI v9)), (10, .int (iI v10)), (11, .int (iI v11))]) C dX8_walk_321 (by decide) rfl ?_
              refine A_iload C dX8_walk_323 0 rfl ?_
              refine A_ifeq C 388 dX8_walk_325 (by decide) (by omega) (fun c41 => (by omega)) (fun c41 => ?_)
              refine A_lload C dX8_walk_328 2 rfl ?_
              refine A_aloadn C dX8_walk_330 5 rfl rfl ?_
              refine G_getC C W kd_110 rfl rfl rfl rfl uq_45 fX8_walk_61 dX8_walk_331 ?_
              refine A_iload C dX8_walk_334 13 rfl ?_
              refine G_lald C W kd_125 rfl rfl (by decide) (by omega) (by omega) dX8_walk_336 (fun z42 ez42 rz42 => ?_)
              refine A_lload C dX8_walk_337 3 rfl ?_
              refine A_ladd C dX8_walk_339 ?_
              refine A_aloadn C dX8_walk_340 5 rfl rfl ?_
              refine G_getL C W kd_110 rfl rfl rfl fX8_walk_126 dX8_walk_341 (fun z43 ez43 rz43 => ?_)
              refine A_aloadn C dX8_walk_344 5 rfl rfl ?_
              refine G_getL C W kd_110 rfl rfl rfl fX8_walk_130 dX8_walk_345 (fun z44 ez44 rz44 => ?_)
              refine A_callS C (n := 4) (st := []) (kX8_better  (by omega) (by omega) (by omega) (by omega)) gX8_walk_X8_better rfl (by decide +kernel) ⟨Nat.le_of_ble_eq_true rfl, Nat.le_of_ble_eq_true rfl⟩ rfl (Nat.le_of_ble_eq_true rfl) dX8_walk_348 rfl W (fun r45 M46 h47 => ?_)
              obtain ⟨z49, rfl, lz49, uz49, rfl, xx48⟩ := h47
              refine A_st (st' := [.int (iI z49)]) rfl ?_
              refine A_ifeq C 388 dX8_walk_351 (by decide) (by omega) (fun c50 => ?_) (fun c50 => ?_)
              · skip
                refine A_pick [5, 6, 7, 8, 9, 10, 11, 12, 13, 14, 4, 3, 2, 1] rfl ?_
                exact lpX8_walk_388 C  hx1 hx2 hx4 hx6 hy0 H49 H78 ih ((0 : Nat) + 1) v7 v8 v9 v10 v11 z27 z32 z34 z35 M (by omega) (by omega) (K388_no h2 (ix_of (v := v10) (by omega) (by omega)) (xx20.mp (by omega)) xx26.2 xx31.2 (by omega) (by omega)) W E
              · skip
                refine A_aloadn C dX8_walk_354 5 rfl rfl ?_
                refine A_lload C dX8_walk_355 2 rfl ?_
                refine G_putL C W E kd_110 rfl rfl rfl fX8_walk_126 ⟨tyX8_ok, nmX8, rfl, by decide⟩ rfl rfl (by omega) dX8_walk_357 (fun M51 eM51 WM51 EM51 => ?_)
                have t_M51_110_0 : M51.1 110 0 = M.1 110 0 := by rw [eM51]; rfl
                refine A_aloadn C dX8_walk_360 5 rfl rfl ?_
                refine A_aloadn C dX8_walk_361 5 rfl rfl ?_
                refine G_getC C WM51 kd_110 rfl rfl rfl rfl uq_45 fX8_walk_61 dX8_walk_362 ?_
                refine A_iload C dX8_walk_365 13 rfl ?_
                refine G_lald C WM51 kd_125 rfl rfl (by decide) (by omega) (by omega) dX8_walk_367 (fun z52 ez52 rz52 => ?_)
                have qz52 : z52 = M.2.1 125 v10.toNat := by rw [ez52, eM51, sL_nb rfl]
                refine A_lload C dX8_walk_368 3 rfl ?_
                refine A_ladd C dX8_walk_370 ?_
                refine G_putL C WM51 EM51 kd_110 rfl rfl rfl fX8_walk_130 ⟨tyX8_ok, nmX8, rfl, by decide⟩ rfl rfl (by omega) dX8_walk_371 (fun M53 eM53 WM53 EM53 => ?_)
                have t_M53_110_0 : M53.1 110 0 = M51.1 110 0 := by rw [eM53]; rfl
                refine A_aloadn C dX8_walk_374 5 rfl rfl ?_
                refine A_aloadn C dX8_walk_375 5 rfl rfl ?_
                refine G_getC C WM53 kd_110 rfl rfl rfl rfl uq_46 fX8_walk_64 dX8_walk_376 ?_
                refine A_iload C dX8_walk_379 13 rfl ?_
                refine G_lald C WM53 kd_126 rfl rfl (by decide) (by omega) (by omega) dX8_walk_381 (fun z54 ez54 rz54 => ?_)
                have qz54 : z54 = M.2.1 126 v10.toNat := by rw [ez54, eM53, eM51, sL_nb rfl, sL_nb rfl]
                refine A_lload C dX8_walk_382 4 rfl ?_
                refine A_ladd C dX8_walk_384 ?_
                refine G_putL C WM53 EM53 kd_110 rfl rfl rfl fX8_walk_137 ⟨tyX8_ok, nmX8, rfl, by decide⟩ rfl rfl (by omega) dX8_walk_385 (fun M55 eM55 WM55 EM55 => ?_)
                have t_M55_110_0 : M55.1 110 0 = M53.1 110 0 := by rw [eM55]; rfl
                refine A_pick [5, 6, 7, 8, 9, 10, 11, 12, 13, 14, 4, 3, 2, 1] rfl ?_
                exact lpX8_walk_388 C  hx1 hx2 hx4 hx6 hy0 H49 H78 ih ((0 : Nat) + 1) v7 v8 v9 v10 v11 z27 z32 z34 z35 M55 (by omega) (by omega) (K388_yes h2 (ix_of (v := v10) (by omega) (by omega)) (xx20.mp (by omega)) xx26.2 xx31.2 (by omega) (by omega) (d1 := z52 + z32) (h1 := z54 + z27) (by omega) (by omega) (by rw [eM55, eM53, eM51])) WM55 EM55
            · skip
              refine A_iload C dX8_walk_307 8 rfl ?_
              refine A_iload C dX8_walk_309 9 rfl ?_
              refine A_iconst C dX8_walk_311 ?_
              refine A_iadd C dX8_walk_312 ?_
              refine A_icmpne C 320 dX8_walk_313 (by decide) (by omega) (by omega) (fun c56 => ?_) (fun c56 => ?_)
              · skip
                refine A_iconst C dX8_walk_320 ?_
                refine A_istore (lv' := [(19, .int (iI 0)), (18, .int (iI z35)), (16, .long (lL z34)), (14, .long (lL z32)), (12, .long (lL z27)), (0, .ref 110), (1, .int (iI x1)), (2, .long (lL x2)), (4, .long (lL x4)), (6, .int (iI x6)), (7, .int (iI v7)), (8, .int (iI v8)), (9, .int (iI v9)), (10, .int (iI v10)), (11, .int (iI v11))]) C dX8_walk_321 (by decide) rfl ?_
                refine A_iload C dX8_walk_323 0 rfl ?_
                refine A_ifeq C 388 dX8_walk_325 (by decide) (by omega) (fun c57 => ?_) (fun c57 => (by omega))
                refine A_pick [5, 6, 7, 8, 9, 10, 11, 12, 13, 14, 4, 3, 2, 1] rfl ?_
                exact lpX8_walk_388 C  hx1 hx2 hx4 hx6 hy0 H49 H78 ih ((0 : Nat) + 1) v7 v8 v9 v10 v11 z27 z32 z34 z35 M (by omega) (by omega) (K388_no h2 (ix_of (v := v10) (by omega) (by omega)) (xx20.mp (by omega)) xx26.2 xx31.2 (by omega) (by omega)) W E
              · skip
                refine A_iconst C dX8_walk_316 ?_
                refine A_goto C 321 dX8_walk_317 (by decide) ?_
                refine A_istore (lv' := [(19, .int (iI 1)), (18, .int (iI z35)), (16, .long (lL z34)), (14, .long (lL z32)), (12, .long (lL z27)), (0, .ref 110), (1, .int (iI x1)), (2, .long (lL x2)), (4, .long (lL x4)), (6, .int (iI x6)), (7, .int (iI v7)), (8, .int (iI v8)), (9, .int (iI v9)), (10, .int (iI v10)), (11, .int (iI v11))]) C dX8_walk_321 (by decide) rfl ?_
                refine A_iload C dX8_walk_323 0 rfl ?_
                refine A_ifeq C 388 dX8_walk_325 (by decide) (by omega) (fun c58 => (by omega)) (fun c58 => ?_)
                refine A_lload C dX8_walk_328 2 rfl ?_
                refine A_aloadn C dX8_walk_330 5 rfl rfl ?_
                refine G_getC C W kd_110 rfl rfl rfl rfl uq_45 fX8_walk_61 dX8_walk_331 ?_
                refine A_iload C dX8_walk_334 13 rfl ?_
                refine G_lald C W kd_125 rfl rfl (by decide) (by omega) (by omega) dX8_walk_336 (fun z59 ez59 rz59 => ?_)
                refine A_lload C dX8_walk_337 3 rfl ?_
                refine A_ladd C dX8_walk_339 ?_
                refine A_aloadn C dX8_walk_340 5 rfl rfl ?_
                refine G_getL C W kd_110 rfl rfl rfl fX8_walk_126 dX8_walk_341 (fun z60 ez60 rz60 => ?_)
                refine A_aloadn C dX8_walk_344 5 rfl rfl ?_
                refine G_getL C W kd_110 rfl rfl rfl fX8_walk_130 dX8_walk_345 (fun z61 ez61 rz61 => ?_)
                refine A_callS C (n := 4) (st := []) (kX8_better  (by omega) (by omega) (by omega) (by omega)) gX8_walk_X8_better rfl (by decide +kernel) ⟨Nat.le_of_ble_eq_true rfl, Nat.le_of_ble_eq_true rfl⟩ rfl (Nat.le_of_ble_eq_true rfl) dX8_walk_348 rfl W (fun r62 M63 h64 => ?_)
                obtain ⟨z66, rfl, lz66, uz66, rfl, xx65⟩ := h64
                refine A_st (st' := [.int (iI z66)]) rfl ?_
                refine A_ifeq C 388 dX8_walk_351 (by decide) (by omega) (fun c67 => ?_) (fun c67 => ?_)
                · skip
                  refine A_pick [5, 6, 7, 8, 9, 10, 11, 12, 13, 14, 4, 3, 2, 1] rfl ?_
                  exact lpX8_walk_388 C  hx1 hx2 hx4 hx6 hy0 H49 H78 ih ((0 : Nat) + 1) v7 v8 v9 v10 v11 z27 z32 z34 z35 M (by omega) (by omega) (K388_no h2 (ix_of (v := v10) (by omega) (by omega)) (xx20.mp (by omega)) xx26.2 xx31.2 (by omega) (by omega)) W E
                · skip
                  refine A_aloadn C dX8_walk_354 5 rfl rfl ?_
                  refine A_lload C dX8_walk_355 2 rfl ?_
                  refine G_putL C W E kd_110 rfl rfl rfl fX8_walk_126 ⟨tyX8_ok, nmX8, rfl, by decide⟩ rfl rfl (by omega) dX8_walk_357 (fun M68 eM68 WM68 EM68 => ?_)
                  have t_M68_110_0 : M68.1 110 0 = M.1 110 0 := by rw [eM68]; rfl
                  refine A_aloadn C dX8_walk_360 5 rfl rfl ?_
                  refine A_aloadn C dX8_walk_361 5 rfl rfl ?_
                  refine G_getC C WM68 kd_110 rfl rfl rfl rfl uq_45 fX8_walk_61 dX8_walk_362 ?_
                  refine A_iload C dX8_walk_365 13 rfl ?_
                  refine G_lald C WM68 kd_125 rfl rfl (by decide) (by omega) (by omega) dX8_walk_367 (fun z69 ez69 rz69 => ?_)
                  have qz69 : z69 = M.2.1 125 v10.toNat := by rw [ez69, eM68, sL_nb rfl]
                  refine A_lload C dX8_walk_368 3 rfl ?_
                  refine A_ladd C dX8_walk_370 ?_
                  refine G_putL C WM68 EM68 kd_110 rfl rfl rfl fX8_walk_130 ⟨tyX8_ok, nmX8, rfl, by decide⟩ rfl rfl (by omega) dX8_walk_371 (fun M70 eM70 WM70 EM70 => ?_)
                  have t_M70_110_0 : M70.1 110 0 = M68.1 110 0 := by rw [eM70]; rfl
                  refine A_aloadn C dX8_walk_374 5 rfl rfl ?_
                  refine A_aloadn C dX8_walk_375 5 rfl rfl ?_
                  refine G_getC C WM70 kd_110 rfl rfl rfl rfl uq_46 fX8_walk_64 dX8_walk_376 ?_
                  refine A_iload C dX8_walk_379 13 rfl ?_
                  refine G_lald C WM70 kd_126 rfl rfl (by decide) (by omega) (by omega) dX8_walk_381 (fun z71 ez71 rz71 => ?_)
                  have qz71 : z71 = M.2.1 126 v10.toNat := by rw [ez71, eM70, eM68, sL_nb rfl, sL_nb rfl]
                  refine A_lload C dX8_walk_382 4 rfl ?_
                  refine A_ladd C dX8_walk_384 ?_
                  refine G_putL C WM70 EM70 kd_110 rfl rfl rfl fX8_walk_137 ⟨tyX8_ok, nmX8, rfl, by decide⟩ rfl rfl (by omega) dX8_walk_385 (fun M72 eM72 WM72 EM72 => ?_)
                  have t_M72_110_0 : M72.1 110 0 = M70.1 110 0 := by rw [eM72]; rfl
                  refine A_pick [5, 6, 7, 8, 9, 10, 11, 12, 13, 14, 4, 3, 2, 1] rfl ?_
                  exact lpX8_walk_388 C  hx1 hx2 hx4 hx6 hy0 H49 H78 ih ((0 : Nat) + 1) v7 v8 v9 v10 v11 z27 z32 z34 z35 M72 (by omega) (by omega) (K388_yes h2 (ix_of (v := v10) (by omega) (by omega)) (xx20.mp (by omega)) xx26.2 xx31.2 (by omega) (by omega) (d1 := z69 + z32) (h1 := z71 + z27) (by omega) (by omega) (by rw [eM72, eM70, eM68])) WM72 EM72
        · skip
          refine A_goto C 463 dX8_walk_225 (by decide) ?_
          refine A_iinc (lv' := [(11, .int (iI (v11 + 1))), (0, .ref 110), (1, .int (iI x1)), (2, .long (lL x2)), (4, .long (lL x4)), (6, .int (iI x6)), (7, .int (iI v7)), (8, .int (iI v8)), (9, .int (iI v9)), (10, .int (iI v10))]) C dX8_walk_463 9 rfl (by decide) rfl ?_
          refine A_goto C 196 dX8_walk_466 (by decide) ?_
          refine A_pick [1, 2, 3, 4, 5, 6, 7, 8, 9, 0] rfl ?_
          exact ih v7 v8 v9 v10 (v11 + 1) M (by omega) (by omega) (K196_n h2 (by omega) (by omega) (fun hq => by have := xx20.mpr hq; omega)) W E
set_option maxHeartbeats 4000000 in
theorem lpX8_walk_163 {p : Program} {l : Launch} {e : Env} {s : State} {m : MethodId} {args : Array Value} {below : List Frame} {meth : Method} {c : Code} {G : xG} (C : Cx p s m args meth c G cX8_walk 20 RX8 wsX8_walk none)  {x1 : Int} {x2 : Int} {x4 : Int} {x6 : Int} (hx1 : (-1 : Int) ≤ x1 ∧ x1 ≤ 11) (hx2 : r64 x2) (hx4 : r64 x4) (hx6 : (-1 : Int) ≤ x6 ∧ x6 ≤ 12) (hy0 : 0 ≤ x2 ∧ x2 ≤ 7160292 ∧ 0 ≤ x4 ∧ x4 ≤ 4950720) {M0 : Mem} {N49 : Nat} (H49 : ∀ (v7 : Int) (M : Mem), (13 - v7).toNat < N49 → (0 ≤ v7 ∧ v7 ≤ M0.1 110 0 ∧ M.1 110 0 = M0.1 110 0) → (K49 x2 x4 x1 x6 M0 M v7) → WF M → Fr [30, 44, 45, 46] M0 M → AW p l e (rmD 3) s m args below meth c G 20 (QQ G below args s ((fun M r M' => r = none ∧ WF M' ∧ Fr [30, 44, 45, 46] M M' ∧ Sm M M' ∧ Bst x2 x4 (Lns M.1 x1 x6 (M.1 110 0).toNat) (M'.2.1 110 23) (M'.2.1 110 24) (M'.2.1 110 25)) M0)) M 49 [(0, .ref 110), (1, .int (iI x1)), (2, .long (lL x2)), (4, .long (lL x4)), (6, .int (iI x6)), (7, .int (iI v7))] []) {N78 : Nat} (H78 : ∀ (v7 v8 v9 : Int) (M : Mem), (26 - v9).toNat < N78 → (0 ≤ v7 ∧ v7 < M0.1 110 0 ∧ M.1 110 0 = M0.1 110 0 ∧ 0 ≤ v8 ∧ v8 ≤ 1 ∧ (v8 = 1 ↔ (x1 < 0 ∨ x1 = v7)) ∧ 0 ≤ v9 ∧ v9 ≤ 25 ∧ (13 - v7).toNat ≤ N49) → (K78 x2 x4 x1 x6 M0 M v7 v9) → WF M → Fr [30, 44, 45, 46] M0 M → AW p l e (rmD 3) s m args below meth c G 20 (QQ G below args s ((fun M r M' => r = none ∧ WF M' ∧ Fr [30, 44, 45, 46] M M' ∧ Sm M M' ∧ Bst x2 x4 (Lns M.1 x1 x6 (M.1 110 0).toNat) (M'.2.1 110 23) (M'.2.1 110 24) (M'.2.1 110 25)) M0)) M 78 [(0, .ref 110), (1, .int (iI x1)), (2, .long (lL x2)), (4, .long (lL x4)), (6, .int (iI x6)), (7, .int (iI v7)), (8, .int (iI v8)), (9, .int (iI v9))] []) : ∀ (n : Nat) (v7 v8 v9 v10 : Int) (M : Mem), (0 : Nat) < n → (0 ≤ v7 ∧ v7 < M0.1 110 0 ∧ M.1 110 0 = M0.1 110 0 ∧ 0 ≤ v8 ∧ v8 ≤ 1 ∧ (v8 = 1 ↔ (x1 < 0 ∨ x1 = v7)) ∧ 0 ≤ v9 ∧ v9 ≤ 24 ∧ v10 = 25 * v7 + v9 ∧ (13 - v7).toNat ≤ N49 ∧ (26 - v9).toNat ≤ N78) → (K163 x2 x4 x1 x6 M0 M v7 v9) → WF M → Fr [30, 44, 45, 46] M0 M → AW p l e (rmD 3) s m args below meth c G 20 (QQ G below args s ((fun M r M' => r = none ∧ WF M' ∧ Fr [30, 44, 45, 46] M M' ∧ Sm M M' ∧ Bst x2 x4 (Lns M.1 x1 x6 (M.1 110 0).toNat) (M'.2.1 110 23) (M'.2.1 110 24) (M'.2.1 110 25)) M0)) M 163 [(0, .ref 110), (1, .int (iI x1)), (2, .long (lL x2)), (4, .long (lL x4)), (6, .int (iI x6)), (7, .int (iI v7)), (8, .int (iI v8)), (9, .int (iI v9)), (10, .int (iI v10))] [] := by
  intro n
  induction n with
  | zero => intro v7 v8 v9 v10 M hn; exact absurd hn (Nat.not_lt_zero _)
  | succ n ih =>
    intro v7 v8 v9 v10 M hn hi h2 W E
    have fa_110_0 : (0 : Int) ≤ M.1 110 0 ∧ M.1 110 0 ≤ 12 := W.i kd_110 0
    refine A_aloadn C dX8_walk_163 0 rfl rfl ?_
    refine G_getC C W kd_110 rfl rfl rfl rfl uq_44 fX8_walk_57 dX8_walk_164 ?_
    refine A_iload C dX8_walk_167 8 rfl ?_
    refine G_lald C W kd_124 rfl rfl (by decide) (by omega) (by omega) dX8_walk_169 (fun z73 ez73 rz73 => ?_)
    refine A_ldc2 C (index := 124) (v := 1152921504606846976) (z := 1152921504606846976) (by decide +kernel) (by decide +kernel) dX8_walk_170 ?_
    refine A_lcmp C (by omega) (by omega) dX8_walk_173 (fun z74 cz74 => ?_)
    refine A_ifne C 180 dX8_walk_174 (by decide) (by omega) (fun c75 => ?_) (fun c75 => ?_)
    · skip
      refine A_iload C dX8_walk_180 7 rfl ?_
      refine A_iconst C dX8_walk_182 ?_
      refine A_icmple C 193 dX8_walk_183 (by decide) (by omega) (by omega) (fun c76 => ?_) (fun c76 => ?_)
      · skip
        refine A_iconst C dX8_walk_193 ?_
        refine A_istore (lv' := [(11, .int (iI 0)), (0, .ref 110), (1, .int (iI x1)), (2, .long (lL x2)), (4, .long (lL x4)), (6, .int (iI x6)), (7, .int (iI v7)), (8, .int (iI v8)), (9, .int (iI v9)), (10, .int (iI v10))]) C dX8_walk_194 (by decide) rfl ?_
        refine A_pick [1, 2, 3, 4, 5, 6, 7, 8, 9, 0] rfl ?_
        exact lpX8_walk_196 C  hx1 hx2 hx4 hx6 hy0 H49 H78 ((26 - (0 : Int)).toNat + 1) v7 v8 v9 v10 0 M (by omega) (by omega) (K196_f W h2 (ix_of (v := v10) (by omega) (by omega)) (by omega) (by omega) (by omega)) W E
      · skip
        refine A_iload C dX8_walk_186 7 rfl ?_
        refine A_iconst C dX8_walk_188 ?_
        refine A_isub C dX8_walk_189 ?_
        refine A_goto C 194 dX8_walk_190 (by decide) ?_
        refine A_nami (fun z77 ez77 => ?_)
        refine A_istore (lv' := [(11, .int (iI z77)), (0, .ref 110), (1, .int (iI x1)), (2, .long (lL x2)), (4, .long (lL x4)), (6, .int (iI x6)), (7, .int (iI v7)), (8, .int (iI v8)), (9, .int (iI v9)), (10, .int (iI v10))]) C dX8_walk_194 (by decide) rfl ?_
        refine A_pick [1, 2, 3, 4, 5, 6, 7, 8, 9, 0] rfl ?_
        exact lpX8_walk_196 C  hx1 hx2 hx4 hx6 hy0 H49 H78 ((26 - z77).toNat + 1) v7 v8 v9 v10 z77 M (by omega) (by omega) (K196_f W h2 (ix_of (v := v10) (by omega) (by omega)) (by omega) (by omega) (by omega)) W E
    · skip
      refine A_goto C 469 dX8_walk_177 (by decide) ?_
      refine A_iinc (lv' := [(9, .int (iI (v9 + 1))), (0, .ref 110), (1, .int (iI x1)), (2, .long (lL x2)), (4, .long (lL x4)), (6, .int (iI x6)), (7, .int (iI v7)), (8, .int (iI v8)), (10, .int (iI v10))]) C dX8_walk_469 7 rfl (by decide) rfl ?_
      refine A_goto C 78 dX8_walk_472 (by decide) ?_
      refine A_pick [1, 2, 3, 4, 5, 6, 7, 0] rfl ?_
      exact H78 v7 v8 (v9 + 1) M (by omega) (by omega) (K78_n h2 (ix_of (v := v10) (by omega) (by omega)) (by omega)) W E
set_option maxHeartbeats 4000000 in
theorem lpX8_walk_78 {p : Program} {l : Launch} {e : Env} {s : State} {m : MethodId} {args : Array Value} {below : List Frame} {meth : Method} {c : Code} {G : xG} (C : Cx p s m args meth c G cX8_walk 20 RX8 wsX8_walk none)  {x1 : Int} {x2 : Int} {x4 : Int} {x6 : Int} (hx1 : (-1 : Int) ≤ x1 ∧ x1 ≤ 11) (hx2 : r64 x2) (hx4 : r64 x4) (hx6 : (-1 : Int) ≤ x6 ∧ x6 ≤ 12) (hy0 : 0 ≤ x2 ∧ x2 ≤ 7160292 ∧ 0 ≤ x4 ∧ x4 ≤ 4950720) {M0 : Mem} {N49 : Nat} (H49 : ∀ (v7 : Int) (M : Mem), (13 - v7).toNat < N49 → (0 ≤ v7 ∧ v7 ≤ M0.1 110 0 ∧ M.1 110 0 = M0.1 110 0) → (K49 x2 x4 x1 x6 M0 M v7) → WF M → Fr [30, 44, 45, 46] M0 M → AW p l e (rmD 3) s m args below meth c G 20 (QQ G below args s ((fun M r M' => r = none ∧ WF M' ∧ Fr [30, 44, 45, 46] M M' ∧ Sm M M' ∧ Bst x2 x4 (Lns M.1 x1 x6 (M.1 110 0).toNat) (M'.2.1 110 23) (M'.2.1 110 24) (M'.2.1 110 25)) M0)) M 49 [(0, .ref 110), (1, .int (iI x1)), (2, .long (lL x2)), (4, .long (lL x4)), (6, .int (iI x6)), (7, .int (iI v7))] []) : ∀ (n : Nat) (v7 v8 v9 : Int) (M : Mem), (26 - v9).toNat < n → (0 ≤ v7 ∧ v7 < M0.1 110 0 ∧ M.1 110 0 = M0.1 110 0 ∧ 0 ≤ v8 ∧ v8 ≤ 1 ∧ (v8 = 1 ↔ (x1 < 0 ∨ x1 = v7)) ∧ 0 ≤ v9 ∧ v9 ≤ 25 ∧ (13 - v7).toNat ≤ N49) → (K78 x2 x4 x1 x6 M0 M v7 v9) → WF M → Fr [30, 44, 45, 46] M0 M → AW p l e (rmD 3) s m args below meth c G 20 (QQ G below args s ((fun M r M' => r = none ∧ WF M' ∧ Fr [30, 44, 45, 46] M M' ∧ Sm M M' ∧ Bst x2 x4 (Lns M.1 x1 x6 (M.1 110 0).toNat) (M'.2.1 110 23) (M'.2.1 110 24) (M'.2.1 110 25)) M0)) M 78 [(0, .ref 110), (1, .int (iI x1)), (2, .long (lL x2)), (4, .long (lL x4)), (6, .int (iI x6)), (7, .int (iI v7)), (8, .int (iI v8)), (9, .int (iI v9))] [] := by
  intro n
  induction n with
  | zero => intro v7 v8 v9 M hn; exact absurd hn (Nat.not_lt_zero _)
  | succ n ih =>
    intro v7 v8 v9 M hn hi h2 W E
    have fa_110_0 : (0 : Int) ≤ M.1 110 0 ∧ M.1 110 0 ≤ 12 := W.i kd_110 0
    refine A_iload C dX8_walk_78 7 rfl ?_
    refine A_bipush C dX8_walk_80 (by decide) ?_
    refine A_icmpge C 475 dX8_walk_82 (by decide) (by omega) (by omega) (fun c78 => ?_) (fun c78 => ?_)
    · skip
      refine A_iinc (lv' := [(7, .int (iI (v7 + 1))), (0, .ref 110), (1, .int (iI x1)), (2, .long (lL x2)), (4, .long (lL x4)), (6, .int (iI x6)), (8, .int (iI v8)), (9, .int (iI v9))]) C dX8_walk_475 5 rfl (by decide) rfl ?_
      refine A_goto C 49 dX8_walk_478 (by decide) ?_
      refine A_pick [1, 2, 3, 4, 5, 0] rfl ?_
      exact H49 (v7 + 1) M (by omega) (by omega) (K49_n h2 (by omega) (by omega) (by omega) (by omega)) W E
    · skip
      refine A_bipush C dX8_walk_85 (by decide) ?_
      refine A_iload C dX8_walk_87 5 rfl ?_
      refine A_imul C dX8_walk_89 ?_
      refine A_iload C dX8_walk_90 7 rfl ?_
      refine A_iadd C dX8_walk_92 ?_
      refine A_nami (fun z79 ez79 => ?_)
      refine A_istore (lv' := [(10, .int (iI z79)), (0, .ref 110), (1, .int (iI x1)), (2, .long (lL x2)), (4, .long (lL x4)), (6, .int (iI x6)), (7, .int (iI v7)), (8, .int (iI v8)), (9, .int (iI v9))]) C dX8_walk_93 (by decide) rfl ?_
      refine A_iload C dX8_walk_95 7 rfl ?_
      refine A_ifeq C 163 dX8_walk_97 (by decide) (by omega) (fun c80 => ?_) (fun c80 => ?_)
      · skip
        refine A_pick [1, 2, 3, 4, 5, 6, 7, 8, 0] rfl ?_
        exact lpX8_walk_163 C  hx1 hx2 hx4 hx6 hy0 H49 ih ((0 : Nat) + 1) v7 v8 v9 z79 M (by omega) (by omega) (L163n h2 (by omega) (by omega) (by omega)) W E
      · skip
        refine A_iload C dX8_walk_100 8 rfl ?_
        refine A_aloadn C dX8_walk_102 1 rfl rfl ?_
        refine G_getC C W kd_110 rfl rfl rfl rfl uq_36 fX8_walk_30 dX8_walk_103 ?_
        refine A_aloadn C dX8_walk_106 1 rfl rfl ?_
        refine G_getI C W kd_110 rfl rfl rfl rfl rfl fX8_walk_96 rfl dX8_walk_107 (fun z81 ez81 lz81 uz81 => ?_)
        refine A_iload C dX8_walk_110 6 rfl ?_
        refine A_iadd C dX8_walk_112 ?_
        refine G_iald C W kd_116 rfl rfl (by decide) (fun _ => rfl) (by omega) (by omega) dX8_walk_113 (fun z82 ez82 lz82 uz82 => ?_)
        have hTz82 := top_of h2.1 ez81 ez82
        refine A_icmpne C 163 dX8_walk_114 (by decide) (by omega) (by omega) (fun c83 => ?_) (fun c83 => ?_)
        · skip
          refine A_pick [1, 2, 3, 4, 5, 6, 7, 8, 0] rfl ?_
          exact lpX8_walk_163 C  hx1 hx2 hx4 hx6 hy0 H49 ih ((0 : Nat) + 1) v7 v8 v9 z79 M (by omega) (by omega) (L163n h2 (by omega) (by omega) (by omega)) W E
        · skip
          refine A_lconst0 C dX8_walk_117 ?_
          refine A_lconst0 C dX8_walk_118 ?_
          refine A_aloadn C dX8_walk_119 1 rfl rfl ?_
          refine G_getC C W kd_110 rfl rfl rfl rfl uq_44 fX8_walk_57 dX8_walk_120 ?_
          refine A_iload C dX8_walk_123 0 rfl ?_
          refine G_lald C W kd_124 rfl rfl (by decide) (by omega) (by omega) dX8_walk_125 (fun z84 ez84 rz84 => ?_)
          refine A_aloadn C dX8_walk_126 1 rfl rfl ?_
          refine G_getC C W kd_110 rfl rfl rfl rfl uq_45 fX8_walk_61 dX8_walk_127 ?_
          refine A_iload C dX8_walk_130 0 rfl ?_
          refine G_lald C W kd_125 rfl rfl (by decide) (by omega) (by omega) dX8_walk_132 (fun z85 ez85 rz85 => ?_)
          refine A_callS C (n := 4) (st := []) (kX8_better  (by omega) (by omega) (by omega) (by omega)) gX8_walk_X8_better rfl (by decide +kernel) ⟨Nat.le_of_ble_eq_true rfl, Nat.le_of_ble_eq_true rfl⟩ rfl (Nat.le_of_ble_eq_true rfl) dX8_walk_133 rfl W (fun r86 M87 h88 => ?_)
          obtain ⟨z90, rfl, lz90, uz90, rfl, xx89⟩ := h88
          refine A_st (st' := [.int (iI z90)]) rfl ?_
          refine A_ifeq C 163 dX8_walk_136 (by decide) (by omega) (fun c91 => ?_) (fun c91 => ?_)
          · skip
            refine A_pick [1, 2, 3, 4, 5, 6, 7, 8, 0] rfl ?_
            exact lpX8_walk_163 C  hx1 hx2 hx4 hx6 hy0 H49 ih ((0 : Nat) + 1) v7 v8 v9 z79 M (by omega) (by omega) (L163b h2 (by omega) (by omega) (by omega) (by omega) (ix_of (v := z79) (by omega) (by omega)) (by omega)) W E
          · skip
            refine A_aloadn C dX8_walk_139 1 rfl rfl ?_
            refine G_getC C W kd_110 rfl rfl rfl rfl uq_44 fX8_walk_57 dX8_walk_140 ?_
            refine A_iload C dX8_walk_143 0 rfl ?_
            refine A_lconst0 C dX8_walk_145 ?_
            refine G_last C W E kd_124 rfl rfl (by decide) rfl (by omega) (by omega) (by omega) dX8_walk_146 (fun M92 eM92 WM92 EM92 => ?_)
            have t_M92_110_0 : M92.1 110 0 = M.1 110 0 := by rw [eM92]; rfl
            refine A_aloadn C dX8_walk_147 1 rfl rfl ?_
            refine G_getC C WM92 kd_110 rfl rfl rfl rfl uq_45 fX8_walk_61 dX8_walk_148 ?_
            refine A_iload C dX8_walk_151 0 rfl ?_
            refine A_lconst0 C dX8_walk_153 ?_
            refine G_last C WM92 EM92 kd_125 rfl rfl (by decide) rfl (by omega) (by omega) (by omega) dX8_walk_154 (fun M93 eM93 WM93 EM93 => ?_)
            have t_M93_110_0 : M93.1 110 0 = M92.1 110 0 := by rw [eM93]; rfl
            refine A_aloadn C dX8_walk_155 1 rfl rfl ?_
            refine G_getC C WM93 kd_110 rfl rfl rfl rfl uq_46 fX8_walk_64 dX8_walk_156 ?_
            refine A_iload C dX8_walk_159 0 rfl ?_
            refine A_lconst0 C dX8_walk_161 ?_
            refine G_last C WM93 EM93 kd_126 rfl rfl (by decide) rfl (by omega) (by omega) (by omega) dX8_walk_162 (fun M94 eM94 WM94 EM94 => ?_)
            have t_M94_110_0 : M94.1 110 0 = M93.1 110 0 := by rw [eM94]; rfl
            refine A_pick [1, 2, 3, 4, 5, 6, 7, 8, 0] rfl ?_
            exact lpX8_walk_163 C  hx1 hx2 hx4 hx6 hy0 H49 ih ((0 : Nat) + 1) v7 v8 v9 z79 M94 (by omega) (by omega) (L163c h2 (by omega) (by omega) (by omega) (by omega) (ix_of (v := z79) (by omega) (by omega)) (by omega) (by rw [eM94, eM93, eM92])) WM94 EM94
set_option maxHeartbeats 4000000 in
theorem lpX8_walk_49 {p : Program} {l : Launch} {e : Env} {s : State} {m : MethodId} {args : Array Value} {below : List Frame} {meth : Method} {c : Code} {G : xG} (C : Cx p s m args meth c G cX8_walk 20 RX8 wsX8_walk none)  {x1 : Int} {x2 : Int} {x4 : Int} {x6 : Int} (hx1 : (-1 : Int) ≤ x1 ∧ x1 ≤ 11) (hx2 : r64 x2) (hx4 : r64 x4) (hx6 : (-1 : Int) ≤ x6 ∧ x6 ≤ 12) (hy0 : 0 ≤ x2 ∧ x2 ≤ 7160292 ∧ 0 ≤ x4 ∧ x4 ≤ 4950720) {M0 : Mem} : ∀ (n : Nat) (v7 : Int) (M : Mem), (13 - v7).toNat < n → (0 ≤ v7 ∧ v7 ≤ M0.1 110 0 ∧ M.1 110 0 = M0.1 110 0) → (K49 x2 x4 x1 x6 M0 M v7) → WF M → Fr [30, 44, 45, 46] M0 M → AW p l e (rmD 3) s m args below meth c G 20 (QQ G below args s ((fun M r M' => r = none ∧ WF M' ∧ Fr [30, 44, 45, 46] M M' ∧ Sm M M' ∧ Bst x2 x4 (Lns M.1 x1 x6 (M.1 110 0).toNat) (M'.2.1 110 23) (M'.2.1 110 24) (M'.2.1 110 25)) M0)) M 49 [(0, .ref 110), (1, .int (iI x1)), (2, .long (lL x2)), (4, .long (lL x4)), (6, .int (iI x6)), (7, .int (iI v7))] [] := by
  intro n
  induction n with
  | zero => intro v7 M hn; exact absurd hn (Nat.not_lt_zero _)
  | succ n ih =>
    intro v7 M hn hi h2 W E
    have fa_110_0 : (0 : Int) ≤ M.1 110 0 ∧ M.1 110 0 ≤ 12 := W.i kd_110 0
    refine A_iload C dX8_walk_49 5 rfl ?_
    refine A_aloadn C dX8_walk_51 0 rfl rfl ?_
    refine G_getI C W kd_110 rfl rfl rfl rfl rfl fX8_walk_7 rfl dX8_walk_52 (fun z95 ez95 lz95 uz95 => ?_)
    refine A_icmpge C 481 dX8_walk_55 (by decide) (by omega) (by omega) (fun c96 => ?_) (fun c96 => ?_)
    · skip
      exact A_vret C dX8_walk_481 ⟨rfl, W, E, ⟨h2.1, h2.2.2 (by omega)⟩⟩
    · skip
      refine A_iloadn C dX8_walk_58 1 rfl rfl ?_
      refine A_iflt C 68 dX8_walk_59 (by decide) (by omega) (fun c97 => ?_) (fun c97 => ?_)
      · skip
        refine A_iconst C dX8_walk_68 ?_
        refine A_goto C 73 dX8_walk_69 (by decide) ?_
        refine A_istore (lv' := [(8, .int (iI 1)), (0, .ref 110), (1, .int (iI x1)), (2, .long (lL x2)), (4, .long (lL x4)), (6, .int (iI x6)), (7, .int (iI v7))]) C dX8_walk_73 (by decide) rfl ?_
        refine A_iconst C dX8_walk_75 ?_
        refine A_istore (lv' := [(9, .int (iI 0)), (8, .int (iI 1)), (0, .ref 110), (1, .int (iI x1)), (2, .long (lL x2)), (4, .long (lL x4)), (6, .int (iI x6)), (7, .int (iI v7))]) C dX8_walk_76 (by decide) rfl ?_
        refine A_pick [2, 3, 4, 5, 6, 7, 1, 0] rfl ?_
        exact lpX8_walk_78 C  hx1 hx2 hx4 hx6 hy0 ih ((26 - (0 : Int)).toNat + 1) v7 1 0 M (by omega) (by omega) (K78_f h2 (by omega)) W E
      · skip
        refine A_iloadn C dX8_walk_62 1 rfl rfl ?_
        refine A_iload C dX8_walk_63 5 rfl ?_
        refine A_icmpne C 72 dX8_walk_65 (by decide) (by omega) (by omega) (fun c98 => ?_) (fun c98 => ?_)
        · skip
          refine A_iconst C dX8_walk_72 ?_
          refine A_istore (lv' := [(8, .int (iI 0)), (0, .ref 110), (1, .int (iI x1)), (2, .long (lL x2)), (4, .long (lL x4)), (6, .int (iI x6)), (7, .int (iI v7))]) C dX8_walk_73 (by decide) rfl ?_
          refine A_iconst C dX8_walk_75 ?_
          refine A_istore (lv' := [(9, .int (iI 0)), (8, .int (iI 0)), (0, .ref 110), (1, .int (iI x1)), (2, .long (lL x2)), (4, .long (lL x4)), (6, .int (iI x6)), (7, .int (iI v7))]) C dX8_walk_76 (by decide) rfl ?_
          refine A_pick [2, 3, 4, 5, 6, 7, 1, 0] rfl ?_
          exact lpX8_walk_78 C  hx1 hx2 hx4 hx6 hy0 ih ((26 - (0 : Int)).toNat + 1) v7 0 0 M (by omega) (by omega) (K78_f h2 (by omega)) W E
        · skip
          refine A_iconst C dX8_walk_68 ?_
          refine A_goto C 73 dX8_walk_69 (by decide) ?_
          refine A_istore (lv' := [(8, .int (iI 1)), (0, .ref 110), (1, .int (iI x1)), (2, .long (lL x2)), (4, .long (lL x4)), (6, .int (iI x6)), (7, .int (iI v7))]) C dX8_walk_73 (by decide) rfl ?_
          refine A_iconst C dX8_walk_75 ?_
          refine A_istore (lv' := [(9, .int (iI 0)), (8, .int (iI 1)), (0, .ref 110), (1, .int (iI x1)), (2, .long (lL x2)), (4, .long (lL x4)), (6, .int (iI x6)), (7, .int (iI v7))]) C dX8_walk_76 (by decide) rfl ?_
          refine A_pick [2, 3, 4, 5, 6, 7, 1, 0] rfl ?_
          exact lpX8_walk_78 C  hx1 hx2 hx4 hx6 hy0 ih ((26 - (0 : Int)).toNat + 1) v7 1 0 M (by omega) (by omega) (K78_f h2 (by omega)) W E
set_option maxHeartbeats 4000000 in
theorem lpX8_walk_15 {p : Program} {l : Launch} {e : Env} {s : State} {m : MethodId} {args : Array Value} {below : List Frame} {meth : Method} {c : Code} {G : xG} (C : Cx p s m args meth c G cX8_walk 20 RX8 wsX8_walk none)  {x1 : Int} {x2 : Int} {x4 : Int} {x6 : Int} (hx1 : (-1 : Int) ≤ x1 ∧ x1 ≤ 11) (hx2 : r64 x2) (hx4 : r64 x4) (hx6 : (-1 : Int) ≤ x6 ∧ x6 ≤ 12) (hy0 : 0 ≤ x2 ∧ x2 ≤ 7160292 ∧ 0 ≤ x4 ∧ x4 ≤ 4950720) {M0 : Mem} : ∀ (n : Nat) (v7 : Int) (M : Mem), (326 - v7).toNat < n → (0 ≤ v7 ∧ v7 ≤ 325 ∧ M.1 110 0 = M0.1 110 0) → (K15 M0 M v7) → WF M → Fr [30, 44, 45, 46] M0 M → AW p l e (rmD 3) s m args below meth c G 20 (QQ G below args s ((fun M r M' => r = none ∧ WF M' ∧ Fr [30, 44, 45, 46] M M' ∧ Sm M M' ∧ Bst x2 x4 (Lns M.1 x1 x6 (M.1 110 0).toNat) (M'.2.1 110 23) (M'.2.1 110 24) (M'.2.1 110 25)) M0)) M 15 [(0, .ref 110), (1, .int (iI x1)), (2, .long (lL x2)), (4, .long (lL x4)), (6, .int (iI x6)), (7, .int (iI v7))] [] := by
  intro n
  induction n with
  | zero => intro v7 M hn; exact absurd hn (Nat.not_lt_zero _)
  | succ n ih =>
    intro v7 M hn hi h2 W E
    have fa_110_0 : (0 : Int) ≤ M.1 110 0 ∧ M.1 110 0 ≤ 12 := W.i kd_110 0
    refine A_iload C dX8_walk_15 5 rfl ?_
    refine A_bipush C dX8_walk_17 (by decide) ?_
    refine A_aloadn C dX8_walk_19 0 rfl rfl ?_
    refine G_getI C W kd_110 rfl rfl rfl rfl rfl fX8_walk_7 rfl dX8_walk_20 (fun z99 ez99 lz99 uz99 => ?_)
    refine A_imul C dX8_walk_23 ?_
    refine A_bipush C dX8_walk_24 (by decide) ?_
    refine A_iadd C dX8_walk_26 ?_
    refine A_icmpge C 46 dX8_walk_27 (by decide) (by omega) (by omega) (fun c100 => ?_) (fun c100 => ?_)
    · skip
      refine A_iconst C dX8_walk_46 ?_
      refine A_istore (lv' := [(7, .int (iI 0)), (0, .ref 110), (1, .int (iI x1)), (2, .long (lL x2)), (4, .long (lL x4)), (6, .int (iI x6))]) C dX8_walk_47 (by decide) rfl ?_
      refine A_pick [1, 2, 3, 4, 5, 0] rfl ?_
      exact lpX8_walk_49 C  hx1 hx2 hx4 hx6 hy0 ((13 - (0 : Int)).toNat + 1) 0 M (by omega) (by omega) (K49_f h2 (by omega) (by omega)) W E
    · skip
      refine A_aloadn C dX8_walk_30 0 rfl rfl ?_
      refine G_getC C W kd_110 rfl rfl rfl rfl uq_44 fX8_walk_57 dX8_walk_31 ?_
      refine A_iload C dX8_walk_34 5 rfl ?_
      refine A_ldc2 C (index := 124) (v := 1152921504606846976) (z := 1152921504606846976) (by decide +kernel) (by decide +kernel) dX8_walk_36 ?_
      refine G_last C W E kd_124 rfl rfl (by decide) rfl (by omega) (by omega) (by omega) dX8_walk_39 (fun M101 eM101 WM101 EM101 => ?_)
      have t_M101_110_0 : M101.1 110 0 = M.1 110 0 := by rw [eM101]; rfl
      refine A_iinc (lv' := [(7, .int (iI (v7 + 1))), (0, .ref 110), (1, .int (iI x1)), (2, .long (lL x2)), (4, .long (lL x4)), (6, .int (iI x6))]) C dX8_walk_40 5 rfl (by decide) rfl ?_
      refine A_goto C 15 dX8_walk_43 (by decide) ?_
      refine A_pick [1, 2, 3, 4, 5, 0] rfl ?_
      exact ih (v7 + 1) M101 (by omega) (by omega) (by rw [eM101]; exact K15_s h2 (by omega)) WM101 EM101
set_option maxHeartbeats 4000000 in
theorem kX8_walk  {x1 : Int} {x2 : Int} {x4 : Int} {x6 : Int} (hx1 : (-1 : Int) ≤ x1 ∧ x1 ≤ 11) (hx2 : r64 x2) (hx4 : r64 x4) (hx6 : (-1 : Int) ≤ x6 ∧ x6 ≤ 12) (hy0 : 0 ≤ x2 ∧ x2 ≤ 7160292 ∧ 0 ≤ x4 ∧ x4 ≤ 4950720) : Ct yX8_walk wsX8_walk 3 [.ref 110, .int (iI x1), .long (lL x2), .long (lL x4), .int (iI x6)] (fun M => WF M) (fun M r M' => r = none ∧ WF M' ∧ Fr [30, 44, 45, 46] M M' ∧ Sm M M' ∧ Bst x2 x4 (Lns M.1 x1 x6 (M.1 110 0).toNat) (M'.2.1 110 23) (M'.2.1 110 24) (M'.2.1 110 25)) := by
  refine Ct_of (cc := cX8_walk) (nL := 20) (rt := none) (own := RX8) rfl (by decide) rfl (Nat.le_of_ble_eq_true rfl) ?_
  intro p l e s m args below meth c G M0 C W
  have E : Fr [30, 44, 45, 46] M0 M0 := Fr.rf
  refine A_lv (lv' := [(0, .ref 110), (1, .int (iI x1)), (2, .long (lL x2)), (4, .long (lL x4)), (6, .int (iI x6))]) rfl ?_
  have fa_110_0 : (0 : Int) ≤ M0.1 110 0 ∧ M0.1 110 0 ≤ 12 := W.i kd_110 0
  refine A_aloadn C dX8_walk_0 0 rfl rfl ?_
  refine A_ldc2 C (index := 124) (v := 1152921504606846976) (z := 1152921504606846976) (by decide +kernel) (by decide +kernel) dX8_walk_1 ?_
  refine G_putL C W E kd_110 rfl rfl rfl fX8_walk_126 ⟨tyX8_ok, nmX8, rfl, by decide⟩ rfl rfl (by omega) dX8_walk_4 (fun M102 eM102 WM102 EM102 => ?_)
  have t_M102_110_0 : M102.1 110 0 = M0.1 110 0 := by rw [eM102]; rfl
  refine A_aloadn C dX8_walk_7 0 rfl rfl ?_
  refine A_lconst0 C dX8_walk_8 ?_
  refine G_putL C WM102 EM102 kd_110 rfl rfl rfl fX8_walk_130 ⟨tyX8_ok, nmX8, rfl, by decide⟩ rfl rfl (by omega) dX8_walk_9 (fun M103 eM103 WM103 EM103 => ?_)
  have t_M103_110_0 : M103.1 110 0 = M102.1 110 0 := by rw [eM103]; rfl
  refine A_iconst C dX8_walk_12 ?_
  refine A_istore (lv' := [(7, .int (iI 0)), (0, .ref 110), (1, .int (iI x1)), (2, .long (lL x2)), (4, .long (lL x4)), (6, .int (iI x6))]) C dX8_walk_13 (by decide) rfl ?_
  refine A_pick [1, 2, 3, 4, 5, 0] rfl ?_
  exact lpX8_walk_15 C  hx1 hx2 hx4 hx6 hy0 ((326 - (0 : Int)).toNat + 1) 0 M103 (by omega) (by omega) (by subst_vars; exact K15_0) WM103 EM103
