theorem uX8_findLine_8 : ∀ w ∈ u_ws RX8 TX8 35, w ∈ wsX8_findLine := by decide +kernel
theorem fX8_findLine_57 : Fl RX8 wsX8_findLine 8 20 57 RX8 TX8 35 := ⟨rfl, by decide, uX8_findLine_8, by decide +kernel⟩
theorem fX8_findLine_151 : Fl RX8 wsX8_findLine 8 28 151 RX8 TX8 35 := ⟨rfl, by decide, uX8_findLine_8, by decide +kernel⟩
theorem fX8_findLine_148 : Fl RX8 wsX8_findLine 8 27 148 RX8 TX8 35 := ⟨rfl, by decide, uX8_findLine_8, by decide +kernel⟩
theorem fX8_findLine_61 : Fl RX8 wsX8_findLine 8 21 61 RX8 TX8 35 := ⟨rfl, by decide, uX8_findLine_8, by decide +kernel⟩
theorem fX8_findLine_67 : Fl RX8 wsX8_findLine 8 31 67 RX8 TX8 35 := ⟨rfl, by decide, uX8_findLine_8, by decide +kernel⟩
theorem fX8_findLine_154 : Fl RX8 wsX8_findLine 8 29 154 RX8 TX8 35 := ⟨rfl, by decide, uX8_findLine_8, by decide +kernel⟩
theorem fX8_findLine_157 : Fl RX8 wsX8_findLine 8 30 157 RX8 TX8 35 := ⟨rfl, by decide, uX8_findLine_8, by decide +kernel⟩
theorem fX8_findLine_30 : Fl RX8 wsX8_findLine 8 7 30 RX8 TX8 35 := ⟨rfl, by decide, uX8_findLine_8, by decide +kernel⟩
theorem fX8_findLine_96 : Fl RX8 wsX8_findLine 8 11 96 RX8 TX8 35 := ⟨rfl, by decide, uX8_findLine_8, by decide +kernel⟩
theorem fX8_findLine_7 : Fl RX8 wsX8_findLine 8 0 7 RX8 TX8 35 := ⟨rfl, by decide, uX8_findLine_8, by decide +kernel⟩
theorem fX8_findLine_126 : Fl RX8 wsX8_findLine 8 23 126 RX8 TX8 35 := ⟨rfl, by decide, uX8_findLine_8, by decide +kernel⟩
theorem fX8_findLine_130 : Fl RX8 wsX8_findLine 8 24 130 RX8 TX8 35 := ⟨rfl, by decide, uX8_findLine_8, by decide +kernel⟩
set_option maxHeartbeats 4000000 in
theorem lpX8_findLine_471 {p : Program} {l : Launch} {e : Env} {s : State} {m : MethodId} {args : Array Value} {below : List Frame} {meth : Method} {c : Code} {G : xG} (C : Cx p s m args meth c G cX8_findLine 14 RX8 wsX8_findLine none)   {M0 : Mem} {N442 : Nat} (H442 : ∀ (v1 v3 v5 : Int) (M : Mem), (13 - v5).toNat < N442 → (r64 v1 ∧ r64 v3 ∧ 0 ≤ v5 ∧ v5 ≤ 12 ∧ M.1 110 29 ≤ v5 ∧ M.1 110 0 = M0.1 110 0 ∧ M.1 110 11 = M0.1 110 11 ∧ M.1 110 12 = M0.1 110 12 ∧ M.1 110 16 = M0.1 110 16 ∧ M.1 110 17 = M0.1 110 17) → WF M → Fr [30, 44, 45, 46, 47] M0 M → AW p l e (rmD 4) s m args below meth c G 14 (QQ G below args s ((fun M r M' => r = none ∧ WF M' ∧ Fr [30, 44, 45, 46, 47] M M' ∧ (M'.1 110 0 = M.1 110 0 ∧ M'.1 110 11 = M.1 110 11 ∧ M'.1 110 12 = M.1 110 12 ∧ M'.1 110 16 = M.1 110 16 ∧ M'.1 110 17 = M.1 110 17)) M0)) M 442 [(0, .ref 110), (1, .long (lL v1)), (3, .long (lL v3)), (5, .int (iI v5))] []) : ∀ (n : Nat) (v1 v3 v5 v6 v7 v8 : Int) (M : Mem), (26 - v8).toNat < n → (r64 v1 ∧ r64 v3 ∧ 0 ≤ v5 ∧ v5 ≤ 11 ∧ M.1 110 29 ≤ v5 ∧ 0 ≤ v6 ∧ v6 ≤ 24 ∧ 0 ≤ v7 ∧ v7 ≤ 1 ∧ 0 ≤ v8 ∧ v8 ≤ 25 ∧ M.1 110 0 = M0.1 110 0 ∧ M.1 110 11 = M0.1 110 11 ∧ M.1 110 12 = M0.1 110 12 ∧ M.1 110 16 = M0.1 110 16 ∧ M.1 110 17 = M0.1 110 17 ∧ (13 - v5).toNat ≤ N442) → WF M → Fr [30, 44, 45, 46, 47] M0 M → AW p l e (rmD 4) s m args below meth c G 14 (QQ G below args s ((fun M r M' => r = none ∧ WF M' ∧ Fr [30, 44, 45, 46, 47] M M' ∧ (M'.1 110 0 = M.1 110 0 ∧ M'.1 110 11 = M.1 110 11 ∧ M'.1 110 12 = M.1 110 12 ∧ M'.1 110 16 = M.1 110 16 ∧ M'.1 110 17 = M.1 110 17)) M0)) M 471 [(0, .ref 110), (1, .long (lL v1)), (3, .long (lL v3)), (5, .int (iI v5)), (6, .int (iI v6)), (7, .int (iI v7)), (8, .int (iI v8))] [] := by
  intro n
  induction n with
  | zero => intro v1 v3 v5 v6 v7 v8 M hn; exact absurd hn (Nat.not_lt_zero _)
  | succ n ih =>
    intro v1 v3 v5 v6 v7 v8 M hn hi W E
    have fa_110_0 : (0 : Int) ≤ M.1 110 0 ∧ M.1 110 0 ≤ 12 := W.i kd_110 0
    have fa_110_30 : (0 : Int) ≤ M.1 110 30 ∧ M.1 110 30 ≤ 12 := W.i kd_110 30
    refine A_iload C dX8_findLine_471 6 rfl ?_
    refine A_bipush C dX8_findLine_473 (by decide) ?_
    refine A_icmpge C 633 dX8_findLine_475 (by decide) (by omega) (by omega) (fun c1 => ?_) (fun c1 => ?_)
    · skip
      refine A_iinc (lv' := [(5, .int (iI (v5 + 1))), (0, .ref 110), (1, .long (lL v1)), (3, .long (lL v3)), (6, .int (iI v6)), (7, .int (iI v7)), (8, .int (iI v8))]) C dX8_findLine_633 3 rfl (by decide) rfl ?_
      refine A_goto C 442 dX8_findLine_636 (by decide) ?_
      refine A_pick [1, 2, 3, 0] rfl ?_
      exact H442 v1 v3 (v5 + 1) M (by omega) (by omega) W E
    · skip
      refine A_iload C dX8_findLine_478 5 rfl ?_
      refine A_ifne C 633 dX8_findLine_480 (by decide) (by omega) (fun c2 => ?_) (fun c2 => ?_)
      · skip
        refine A_iinc (lv' := [(5, .int (iI (v5 + 1))), (0, .ref 110), (1, .long (lL v1)), (3, .long (lL v3)), (6, .int (iI v6)), (7, .int (iI v7)), (8, .int (iI v8))]) C dX8_findLine_633 3 rfl (by decide) rfl ?_
        refine A_goto C 442 dX8_findLine_636 (by decide) ?_
        refine A_pick [1, 2, 3, 0] rfl ?_
        exact H442 v1 v3 (v5 + 1) M (by omega) (by omega) W E
      · skip
        refine A_bipush C dX8_findLine_483 (by decide) ?_
        refine A_iload C dX8_findLine_485 3 rfl ?_
        refine A_imul C dX8_findLine_487 ?_
        refine A_bipush C dX8_findLine_488 (by decide) ?_
        refine A_iadd C dX8_findLine_490 ?_
        refine A_iload C dX8_findLine_491 6 rfl ?_
        refine A_iadd C dX8_findLine_493 ?_
        refine A_nami (fun z3 ez3 => ?_)
        refine A_istore (lv' := [(9, .int (iI z3)), (0, .ref 110), (1, .long (lL v1)), (3, .long (lL v3)), (5, .int (iI v5)), (6, .int (iI v6)), (7, .int (iI v7)), (8, .int (iI v8))]) C dX8_findLine_494 (by decide) rfl ?_
        refine A_aloadn C dX8_findLine_496 1 rfl rfl ?_
        refine G_getC C W kd_110 rfl rfl rfl rfl uq_44 fX8_findLine_57 dX8_findLine_497 ?_
        refine A_iload C dX8_findLine_500 0 rfl ?_
        refine G_lald C W kd_124 rfl rfl (by decide) (by omega) (by omega) dX8_findLine_502 (fun z4 ez4 rz4 => ?_)
        refine A_ldc2 C (index := 124) (v := 1152921504606846976) (z := 1152921504606846976) (by decide +kernel) (by decide +kernel) dX8_findLine_503 ?_
        refine A_lcmp C (by omega) (by omega) dX8_findLine_506 (fun z5 cz5 => ?_)
        refine A_ifeq C 627 dX8_findLine_507 (by decide) (by omega) (fun c6 => ?_) (fun c6 => ?_)
        · skip
          refine A_iinc (lv' := [(8, .int (iI (v8 + 1))), (9, .int (iI z3)), (0, .ref 110), (1, .long (lL v1)), (3, .long (lL v3)), (5, .int (iI v5)), (6, .int (iI v6)), (7, .int (iI v7))]) C dX8_findLine_627 7 rfl (by decide) rfl ?_
          refine A_goto C 471 dX8_findLine_630 (by decide) ?_
          refine A_pick [2, 3, 4, 5, 6, 7, 0] rfl ?_
          exact ih v1 v3 v5 v6 v7 (v8 + 1) M (by omega) (by omega) W E
        · skip
          refine A_aloadn C dX8_findLine_510 1 rfl rfl ?_
          refine A_iload C dX8_findLine_511 4 rfl ?_
          refine A_iload C dX8_findLine_513 5 rfl ?_
          refine A_iload C dX8_findLine_515 7 rfl ?_
          refine A_callV C (n := 3) (st := []) (kX8_can  (by omega) (by omega) (by omega)) gX8_findLine_X8_can rfl (by decide +kernel) ⟨Nat.le_of_ble_eq_true rfl, Nat.le_of_ble_eq_true rfl⟩ kd_110 rfl rfl rfl rfl (Nat.le_of_ble_eq_true rfl) dX8_findLine_517 rfl W (fun r7 M8 h9 => ?_)
          obtain ⟨z11, rfl, lz11, uz11, rfl, xx10⟩ := h9
          refine A_st (st' := [.int (iI z11)]) rfl ?_
          refine A_ifne C 526 dX8_findLine_520 (by decide) (by omega) (fun c12 => ?_) (fun c12 => ?_)
          · skip
            refine A_aloadn C dX8_findLine_526 1 rfl rfl ?_
            have hlo := can_lt W (xx10.mp (by omega))
            refine A_iload C dX8_findLine_527 4 rfl ?_
            refine A_iload C dX8_findLine_529 5 rfl ?_
            refine A_iload C dX8_findLine_531 7 rfl ?_
            refine A_callV C (n := 3) (st := []) (kX8_drives  (by omega) (by omega) (by omega)) gX8_findLine_X8_drives rfl (by decide +kernel) ⟨Nat.le_of_ble_eq_true rfl, Nat.le_of_ble_eq_true rfl⟩ kd_110 rfl rfl rfl rfl (Nat.le_of_ble_eq_true rfl) dX8_findLine_533 rfl W (fun r13 M14 h15 => ?_)
            obtain ⟨z17, rfl, rz17, rfl, xx16⟩ := h15
            refine A_st (st' := [.long (lL z17)]) rfl ?_
            refine A_lstore (lv' := [(10, .long (lL z17)), (9, .int (iI z3)), (0, .ref 110), (1, .long (lL v1)), (3, .long (lL v3)), (5, .int (iI v5)), (6, .int (iI v6)), (7, .int (iI v7)), (8, .int (iI v8))]) C dX8_findLine_536 (by decide) rfl ?_
            refine A_lloadn C dX8_findLine_538 3 rfl rfl ?_
            refine A_aloadn C dX8_findLine_539 2 rfl rfl ?_
            refine G_getL C W kd_110 rfl rfl rfl fX8_findLine_151 dX8_findLine_540 (fun z18 ez18 rz18 => ?_)
            refine A_aloadn C dX8_findLine_543 2 rfl rfl ?_
            refine A_iload C dX8_findLine_544 5 rfl ?_
            refine A_iload C dX8_findLine_546 6 rfl ?_
            refine A_iload C dX8_findLine_548 8 rfl ?_
            refine A_callV C (n := 3) (st := [.long (lL z18), .long (lL v1)]) (kX8_holds  (by omega) (by omega) (by omega) (by omega)) gX8_findLine_X8_holds rfl (by decide +kernel) ⟨Nat.le_of_ble_eq_true rfl, Nat.le_of_ble_eq_true rfl⟩ kd_110 rfl rfl rfl rfl (Nat.le_of_ble_eq_true rfl) dX8_findLine_550 rfl W (fun r19 M20 h21 => ?_)
            obtain ⟨z23, rfl, rz23, rfl, xx22⟩ := h21
            refine A_st (st' := [.long (lL z23), .long (lL z18), .long (lL v1)]) rfl ?_
            refine A_lmul C dX8_findLine_553 ?_
            refine A_topl (fun z24 rz24 ez24 => ?_)
            refine A_ladd C dX8_findLine_554 ?_
            refine A_topl (fun z25 rz25 ez25 => ?_)
            refine A_aloadn C dX8_findLine_555 2 rfl rfl ?_
            refine G_getL C W kd_110 rfl rfl rfl fX8_findLine_148 dX8_findLine_556 (fun z26 ez26 rz26 => ?_)
            refine A_lload C dX8_findLine_559 0 rfl ?_
            refine A_lmul C dX8_findLine_561 ?_
            refine A_topl (fun z27 rz27 ez27 => ?_)
            refine A_lsub C dX8_findLine_562 ?_
            refine A_topl (fun z28 rz28 ez28 => ?_)
            refine A_lstore (lv' := [(12, .long (lL z28)), (10, .long (lL z17)), (9, .int (iI z3)), (0, .ref 110), (1, .long (lL v1)), (3, .long (lL v3)), (5, .int (iI v5)), (6, .int (iI v6)), (7, .int (iI v7)), (8, .int (iI v8))]) C dX8_findLine_563 (by decide) rfl ?_
            refine A_lload C dX8_findLine_565 0 rfl ?_
            refine A_aloadn C dX8_findLine_567 3 rfl rfl ?_
            refine G_getC C W kd_110 rfl rfl rfl rfl uq_44 fX8_findLine_57 dX8_findLine_568 ?_
            refine A_iload C dX8_findLine_571 2 rfl ?_
            refine G_lald C W kd_124 rfl rfl (by decide) (by omega) (by omega) dX8_findLine_573 (fun z29 ez29 rz29 => ?_)
            refine A_ladd C dX8_findLine_574 ?_
            refine A_topl (fun z30 rz30 ez30 => ?_)
            refine A_lconst0 C dX8_findLine_575 ?_
            refine A_lcmp C (by omega) (by omega) dX8_findLine_576 (fun z31 cz31 => ?_)
            refine A_ifne C 627 dX8_findLine_577 (by decide) (by omega) (fun c32 => ?_) (fun c32 => ?_)
            · skip
              refine A_iinc (lv' := [(8, .int (iI (v8 + 1))), (12, .long (lL z28)), (10, .long (lL z17)), (9, .int (iI z3)), (0, .ref 110), (1, .long (lL v1)), (3, .long (lL v3)), (5, .int (iI v5)), (6, .int (iI v6)), (7, .int (iI v7))]) C dX8_findLine_627 9 rfl (by decide) rfl ?_
              refine A_goto C 471 dX8_findLine_630 (by decide) ?_
              refine A_pick [4, 5, 6, 7, 8, 9, 0] rfl ?_
              exact ih v1 v3 v5 v6 v7 (v8 + 1) M (by omega) (by omega) W E
            · skip
              refine A_lloadn C dX8_findLine_580 5 rfl rfl ?_
              refine A_lload C dX8_findLine_581 1 rfl ?_
              refine A_ladd C dX8_findLine_583 ?_
              refine A_topl (fun z33 rz33 ez33 => ?_)
              refine A_aloadn C dX8_findLine_584 3 rfl rfl ?_
              refine G_getC C W kd_110 rfl rfl rfl rfl uq_45 fX8_findLine_61 dX8_findLine_585 ?_
              refine A_iload C dX8_findLine_588 2 rfl ?_
              refine G_lald C W kd_125 rfl rfl (by decide) (by omega) (by omega) dX8_findLine_590 (fun z34 ez34 rz34 => ?_)
              refine A_ladd C dX8_findLine_591 ?_
              refine A_topl (fun z35 rz35 ez35 => ?_)
              refine A_lconst0 C dX8_findLine_592 ?_
              refine A_lcmp C (by omega) (by omega) dX8_findLine_593 (fun z36 cz36 => ?_)
              refine A_ifgt C 600 dX8_findLine_594 (by decide) (by omega) (fun c37 => ?_) (fun c37 => ?_)
              · skip
                refine A_iconst C dX8_findLine_600 ?_
                refine A_istore (lv' := [(7, .int (iI 1)), (12, .long (lL z28)), (10, .long (lL z17)), (9, .int (iI z3)), (0, .ref 110), (1, .long (lL v1)), (3, .long (lL v3)), (5, .int (iI v5)), (6, .int (iI v6)), (8, .int (iI v8))]) C dX8_findLine_601 (by decide) rfl ?_
                refine A_aloadn C dX8_findLine_603 4 rfl rfl ?_
                refine G_getC C W kd_110 rfl rfl rfl rfl uq_47 fX8_findLine_67 dX8_findLine_604 ?_
                refine A_iload C dX8_findLine_607 7 rfl ?_
                refine A_aloadn C dX8_findLine_609 4 rfl rfl ?_
                refine G_getI C W kd_110 rfl rfl rfl rfl rfl fX8_findLine_154 rfl dX8_findLine_610 (fun z38 ez38 lz38 uz38 => ?_)
                refine A_isub C dX8_findLine_613 ?_
                refine A_iconst C dX8_findLine_614 ?_
                refine A_iadd C dX8_findLine_615 ?_
                refine A_iload C dX8_findLine_616 9 rfl ?_
                refine G_iast C W E kd_127 rfl rfl (by decide) (fun _ => rfl) rfl (by omega) (by omega) (by omega) (by omega) dX8_findLine_618 (fun M39 eM39 WM39 EM39 => ?_)
                have t_M39_110_0 : M39.1 110 0 = M.1 110 0 := by rw [eM39]; exact sI_kd kd_110 kd_127 rfl
                have t_M39_110_11 : M39.1 110 11 = M.1 110 11 := by rw [eM39]; exact sI_kd kd_110 kd_127 rfl
                have t_M39_110_12 : M39.1 110 12 = M.1 110 12 := by rw [eM39]; exact sI_kd kd_110 kd_127 rfl
                have t_M39_110_16 : M39.1 110 16 = M.1 110 16 := by rw [eM39]; exact sI_kd kd_110 kd_127 rfl
                have t_M39_110_17 : M39.1 110 17 = M.1 110 17 := by rw [eM39]; exact sI_kd kd_110 kd_127 rfl
                have t_M39_110_29 : M39.1 110 29 = M.1 110 29 := by rw [eM39]; exact sI_kd kd_110 kd_127 rfl
                have t_M39_110_30 : M39.1 110 30 = M.1 110 30 := by rw [eM39]; exact sI_kd kd_110 kd_127 rfl
                refine A_lload C dX8_findLine_619 1 rfl ?_
                refine A_lstoren (lv' := [(1, .long (lL z28)), (7, .int (iI 1)), (12, .long (lL z28)), (10, .long (lL z17)), (9, .int (iI z3)), (0, .ref 110), (3, .long (lL v3)), (5, .int (iI v5)), (6, .int (iI v6)), (8, .int (iI v8))]) C dX8_findLine_621 rfl (by decide) rfl ?_
                refine A_lloadn C dX8_findLine_622 6 rfl rfl ?_
                refine A_lload C dX8_findLine_623 3 rfl ?_
                refine A_ladd C dX8_findLine_625 ?_
                refine A_topl (fun z40 rz40 ez40 => ?_)
                refine A_lstoren (lv' := [(3, .long (lL z40)), (1, .long (lL z28)), (7, .int (iI 1)), (12, .long (lL z28)), (10, .long (lL z17)), (9, .int (iI z3)), (0, .ref 110), (5, .int (iI v5)), (6, .int (iI v6)), (8, .int (iI v8))]) C dX8_findLine_626 rfl (by decide) rfl ?_
                refine A_iinc (lv' := [(8, .int (iI (v8 + 1))), (3, .long (lL z40)), (1, .long (lL z28)), (7, .int (iI 1)), (12, .long (lL z28)), (10, .long (lL z17)), (9, .int (iI z3)), (0, .ref 110), (5, .int (iI v5)), (6, .int (iI v6))]) C dX8_findLine_627 9 rfl (by decide) rfl ?_
                refine A_goto C 471 dX8_findLine_630 (by decide) ?_
                refine A_pick [7, 2, 1, 8, 9, 3, 0] rfl ?_
                exact ih z28 z40 v5 v6 1 (v8 + 1) M39 (by omega) (by omega) WM39 EM39
              · skip
                refine A_goto C 627 dX8_findLine_597 (by decide) ?_
                refine A_iinc (lv' := [(8, .int (iI (v8 + 1))), (12, .long (lL z28)), (10, .long (lL z17)), (9, .int (iI z3)), (0, .ref 110), (1, .long (lL v1)), (3, .long (lL v3)), (5, .int (iI v5)), (6, .int (iI v6)), (7, .int (iI v7))]) C dX8_findLine_627 9 rfl (by decide) rfl ?_
                refine A_goto C 471 dX8_findLine_630 (by decide) ?_
                refine A_pick [4, 5, 6, 7, 8, 9, 0] rfl ?_
                exact ih v1 v3 v5 v6 v7 (v8 + 1) M (by omega) (by omega) W E
          · skip
            refine A_goto C 627 dX8_findLine_523 (by decide) ?_
            refine A_iinc (lv' := [(8, .int (iI (v8 + 1))), (9, .int (iI z3)), (0, .ref 110), (1, .long (lL v1)), (3, .long (lL v3)), (5, .int (iI v5)), (6, .int (iI v6)), (7, .int (iI v7))]) C dX8_findLine_627 7 rfl (by decide) rfl ?_
            refine A_goto C 471 dX8_findLine_630 (by decide) ?_
            refine A_pick [2, 3, 4, 5, 6, 7, 0] rfl ?_
            exact ih v1 v3 v5 v6 v7 (v8 + 1) M (by omega) (by omega) W E
set_option maxHeartbeats 4000000 in
theorem lpX8_findLine_442 {p : Program} {l : Launch} {e : Env} {s : State} {m : MethodId} {args : Array Value} {below : List Frame} {meth : Method} {c : Code} {G : xG} (C : Cx p s m args meth c G cX8_findLine 14 RX8 wsX8_findLine none)   {M0 : Mem} : ∀ (n : Nat) (v1 v3 v5 : Int) (M : Mem), (13 - v5).toNat < n → (r64 v1 ∧ r64 v3 ∧ 0 ≤ v5 ∧ v5 ≤ 12 ∧ M.1 110 29 ≤ v5 ∧ M.1 110 0 = M0.1 110 0 ∧ M.1 110 11 = M0.1 110 11 ∧ M.1 110 12 = M0.1 110 12 ∧ M.1 110 16 = M0.1 110 16 ∧ M.1 110 17 = M0.1 110 17) → WF M → Fr [30, 44, 45, 46, 47] M0 M → AW p l e (rmD 4) s m args below meth c G 14 (QQ G below args s ((fun M r M' => r = none ∧ WF M' ∧ Fr [30, 44, 45, 46, 47] M M' ∧ (M'.1 110 0 = M.1 110 0 ∧ M'.1 110 11 = M.1 110 11 ∧ M'.1 110 12 = M.1 110 12 ∧ M'.1 110 16 = M.1 110 16 ∧ M'.1 110 17 = M.1 110 17)) M0)) M 442 [(0, .ref 110), (1, .long (lL v1)), (3, .long (lL v3)), (5, .int (iI v5))] [] := by
  intro n
  induction n with
  | zero => intro v1 v3 v5 M hn; exact absurd hn (Nat.not_lt_zero _)
  | succ n ih =>
    intro v1 v3 v5 M hn hi W E
    have fa_110_0 : (0 : Int) ≤ M.1 110 0 ∧ M.1 110 0 ≤ 12 := W.i kd_110 0
    have fa_110_30 : (0 : Int) ≤ M.1 110 30 ∧ M.1 110 30 ≤ 12 := W.i kd_110 30
    refine A_iload C dX8_findLine_442 3 rfl ?_
    refine A_aloadn C dX8_findLine_444 0 rfl rfl ?_
    refine G_getI C W kd_110 rfl rfl rfl rfl rfl fX8_findLine_157 rfl dX8_findLine_445 (fun z41 ez41 lz41 uz41 => ?_)
    refine A_icmpge C 639 dX8_findLine_448 (by decide) (by omega) (by omega) (fun c42 => ?_) (fun c42 => ?_)
    · skip
      exact A_vret C dX8_findLine_639 ⟨rfl, W, E, by omega⟩
    · skip
      refine A_aloadn C dX8_findLine_451 0 rfl rfl ?_
      refine G_getC C W kd_110 rfl rfl rfl rfl uq_47 fX8_findLine_67 dX8_findLine_452 ?_
      refine A_iload C dX8_findLine_455 3 rfl ?_
      refine A_aloadn C dX8_findLine_457 0 rfl rfl ?_
      refine G_getI C W kd_110 rfl rfl rfl rfl rfl fX8_findLine_154 rfl dX8_findLine_458 (fun z43 ez43 lz43 uz43 => ?_)
      refine A_isub C dX8_findLine_461 ?_
      refine G_iald C W kd_127 rfl rfl (by decide) (fun _ => rfl) (by omega) (by omega) dX8_findLine_462 (fun z44 ez44 lz44 uz44 => ?_)
      refine A_istore (lv' := [(6, .int (iI z44)), (0, .ref 110), (1, .long (lL v1)), (3, .long (lL v3)), (5, .int (iI v5))]) C dX8_findLine_463 (by decide) rfl ?_
      refine A_iconst C dX8_findLine_465 ?_
      refine A_istore (lv' := [(7, .int (iI 0)), (6, .int (iI z44)), (0, .ref 110), (1, .long (lL v1)), (3, .long (lL v3)), (5, .int (iI v5))]) C dX8_findLine_466 (by decide) rfl ?_
      refine A_iconst C dX8_findLine_468 ?_
      refine A_istore (lv' := [(8, .int (iI 0)), (7, .int (iI 0)), (6, .int (iI z44)), (0, .ref 110), (1, .long (lL v1)), (3, .long (lL v3)), (5, .int (iI v5))]) C dX8_findLine_469 (by decide) rfl ?_
      refine A_pick [3, 4, 5, 6, 2, 1, 0] rfl ?_
      exact lpX8_findLine_471 C   ih ((26 - (0 : Int)).toNat + 1) v1 v3 v5 z44 0 0 M (by omega) (by omega) W E
set_option maxHeartbeats 4000000 in
theorem lpX8_findLine_227 {p : Program} {l : Launch} {e : Env} {s : State} {m : MethodId} {args : Array Value} {below : List Frame} {meth : Method} {c : Code} {G : xG} (C : Cx p s m args meth c G cX8_findLine 14 RX8 wsX8_findLine none)   {M0 : Mem} {N198 : Nat} (H198 : ∀ (v1 : Int) (M : Mem), (v1 + 1).toNat < N198 → (-1 ≤ v1 ∧ v1 ≤ 11 ∧ M.1 110 0 = M0.1 110 0 ∧ M.1 110 11 = M0.1 110 11 ∧ M.1 110 12 = M0.1 110 12 ∧ M.1 110 16 = M0.1 110 16 ∧ M.1 110 17 = M0.1 110 17) → WF M → Fr [30, 44, 45, 46, 47] M0 M → AW p l e (rmD 4) s m args below meth c G 14 (QQ G below args s ((fun M r M' => r = none ∧ WF M' ∧ Fr [30, 44, 45, 46, 47] M M' ∧ (M'.1 110 0 = M.1 110 0 ∧ M'.1 110 11 = M.1 110 11 ∧ M'.1 110 12 = M.1 110 12 ∧ M'.1 110 16 = M.1 110 16 ∧ M'.1 110 17 = M.1 110 17)) M0)) M 198 [(0, .ref 110), (1, .int (iI v1))] []) {N208 : Nat} (H208 : ∀ (v1 v2 : Int) (M : Mem), (26 - v2).toNat < N208 → (0 ≤ v1 ∧ v1 ≤ 11 ∧ 0 ≤ v2 ∧ v2 ≤ 25 ∧ M.1 110 0 = M0.1 110 0 ∧ M.1 110 11 = M0.1 110 11 ∧ M.1 110 12 = M0.1 110 12 ∧ M.1 110 16 = M0.1 110 16 ∧ M.1 110 17 = M0.1 110 17 ∧ (v1 + 1).toNat ≤ N198) → WF M → Fr [30, 44, 45, 46, 47] M0 M → AW p l e (rmD 4) s m args below meth c G 14 (QQ G below args s ((fun M r M' => r = none ∧ WF M' ∧ Fr [30, 44, 45, 46, 47] M M' ∧ (M'.1 110 0 = M.1 110 0 ∧ M'.1 110 11 = M.1 110 11 ∧ M'.1 110 12 = M.1 110 12 ∧ M'.1 110 16 = M.1 110 16 ∧ M'.1 110 17 = M.1 110 17)) M0)) M 208 [(0, .ref 110), (1, .int (iI v1)), (2, .int (iI v2))] []) : ∀ (n : Nat) (v1 v2 v3 : Int) (M : Mem), (26 - v3).toNat < n → (0 ≤ v1 ∧ v1 ≤ 11 ∧ 0 ≤ v2 ∧ v2 ≤ 24 ∧ 0 ≤ v3 ∧ v3 ≤ 25 ∧ M.1 110 0 = M0.1 110 0 ∧ M.1 110 11 = M0.1 110 11 ∧ M.1 110 12 = M0.1 110 12 ∧ M.1 110 16 = M0.1 110 16 ∧ M.1 110 17 = M0.1 110 17 ∧ (v1 + 1).toNat ≤ N198 ∧ (26 - v2).toNat ≤ N208) → WF M → Fr [30, 44, 45, 46, 47] M0 M → AW p l e (rmD 4) s m args below meth c G 14 (QQ G below args s ((fun M r M' => r = none ∧ WF M' ∧ Fr [30, 44, 45, 46, 47] M M' ∧ (M'.1 110 0 = M.1 110 0 ∧ M'.1 110 11 = M.1 110 11 ∧ M'.1 110 12 = M.1 110 12 ∧ M'.1 110 16 = M.1 110 16 ∧ M'.1 110 17 = M.1 110 17)) M0)) M 227 [(0, .ref 110), (1, .int (iI v1)), (2, .int (iI v2)), (3, .int (iI v3))] [] := by
  intro n
  induction n with
  | zero => intro v1 v2 v3 M hn; exact absurd hn (Nat.not_lt_zero _)
  | succ n ih =>
    intro v1 v2 v3 M hn hi W E
    have fa_110_0 : (0 : Int) ≤ M.1 110 0 ∧ M.1 110 0 ≤ 12 := W.i kd_110 0
    have fa_110_30 : (0 : Int) ≤ M.1 110 30 ∧ M.1 110 30 ≤ 12 := W.i kd_110 30
    refine A_iloadn C dX8_findLine_227 3 rfl rfl ?_
    refine A_iloadn C dX8_findLine_228 2 rfl rfl ?_
    refine A_iconst C dX8_findLine_229 ?_
    refine A_iadd C dX8_findLine_230 ?_
    refine A_icmpgt C 400 dX8_findLine_231 (by decide) (by omega) (by omega) (fun c45 => ?_) (fun c45 => ?_)
    · skip
      refine A_iinc (lv' := [(2, .int (iI (v2 + 1))), (0, .ref 110), (1, .int (iI v1)), (3, .int (iI v3))]) C dX8_findLine_400 2 rfl (by decide) rfl ?_
      refine A_goto C 208 dX8_findLine_403 (by decide) ?_
      refine A_pick [1, 2, 0] rfl ?_
      exact H208 v1 (v2 + 1) M (by omega) (by omega) W E
    · skip
      refine A_iloadn C dX8_findLine_234 3 rfl rfl ?_
      refine A_bipush C dX8_findLine_235 (by decide) ?_
      refine A_icmpge C 400 dX8_findLine_237 (by decide) (by omega) (by omega) (fun c46 => ?_) (fun c46 => ?_)
      · skip
        refine A_iinc (lv' := [(2, .int (iI (v2 + 1))), (0, .ref 110), (1, .int (iI v1)), (3, .int (iI v3))]) C dX8_findLine_400 2 rfl (by decide) rfl ?_
        refine A_goto C 208 dX8_findLine_403 (by decide) ?_
        refine A_pick [1, 2, 0] rfl ?_
        exact H208 v1 (v2 + 1) M (by omega) (by omega) W E
      · skip
        refine A_bipush C dX8_findLine_240 (by decide) ?_
        refine A_iloadn C dX8_findLine_242 1 rfl rfl ?_
        refine A_imul C dX8_findLine_243 ?_
        refine A_bipush C dX8_findLine_244 (by decide) ?_
        refine A_iadd C dX8_findLine_246 ?_
        refine A_iloadn C dX8_findLine_247 3 rfl rfl ?_
        refine A_iadd C dX8_findLine_248 ?_
        refine A_nami (fun z47 ez47 => ?_)
        refine A_istore (lv' := [(4, .int (iI z47)), (0, .ref 110), (1, .int (iI v1)), (2, .int (iI v2)), (3, .int (iI v3))]) C dX8_findLine_249 (by decide) rfl ?_
        refine A_aloadn C dX8_findLine_251 1 rfl rfl ?_
        refine G_getC C W kd_110 rfl rfl rfl rfl uq_44 fX8_findLine_57 dX8_findLine_252 ?_
        refine A_iload C dX8_findLine_255 0 rfl ?_
        refine G_lald C W kd_124 rfl rfl (by decide) (by omega) (by omega) dX8_findLine_257 (fun z48 ez48 rz48 => ?_)
        refine A_ldc2 C (index := 124) (v := 1152921504606846976) (z := 1152921504606846976) (by decide +kernel) (by decide +kernel) dX8_findLine_258 ?_
        refine A_lcmp C (by omega) (by omega) dX8_findLine_261 (fun z49 cz49 => ?_)
        refine A_ifeq C 394 dX8_findLine_262 (by decide) (by omega) (fun c50 => ?_) (fun c50 => ?_)
        · skip
          refine A_iinc (lv' := [(3, .int (iI (v3 + 1))), (4, .int (iI z47)), (0, .ref 110), (1, .int (iI v1)), (2, .int (iI v2))]) C dX8_findLine_394 4 rfl (by decide) rfl ?_
          refine A_goto C 227 dX8_findLine_397 (by decide) ?_
          refine A_pick [2, 3, 4, 0] rfl ?_
          exact ih v1 v2 (v3 + 1) M (by omega) (by omega) W E
        · skip
          refine A_aloadn C dX8_findLine_265 1 rfl rfl ?_
          refine A_iloadn C dX8_findLine_266 2 rfl rfl ?_
          refine A_iloadn C dX8_findLine_267 3 rfl rfl ?_
          refine A_iloadn C dX8_findLine_268 4 rfl rfl ?_
          refine A_callV C (n := 3) (st := []) (kX8_can  (by omega) (by omega) (by omega)) gX8_findLine_X8_can rfl (by decide +kernel) ⟨Nat.le_of_ble_eq_true rfl, Nat.le_of_ble_eq_true rfl⟩ kd_110 rfl rfl rfl rfl (Nat.le_of_ble_eq_true rfl) dX8_findLine_269 rfl W (fun r51 M52 h53 => ?_)
          obtain ⟨z55, rfl, lz55, uz55, rfl, xx54⟩ := h53
          refine A_st (st' := [.int (iI z55)]) rfl ?_
          refine A_ifne C 278 dX8_findLine_272 (by decide) (by omega) (fun c56 => ?_) (fun c56 => ?_)
          · skip
            refine A_aloadn C dX8_findLine_278 1 rfl rfl ?_
            have hlo := can_lt W (xx54.mp (by omega))
            refine A_iloadn C dX8_findLine_279 2 rfl rfl ?_
            refine A_iloadn C dX8_findLine_280 3 rfl rfl ?_
            refine A_iloadn C dX8_findLine_281 4 rfl rfl ?_
            refine A_callV C (n := 3) (st := []) (kX8_drives  (by omega) (by omega) (by omega)) gX8_findLine_X8_drives rfl (by decide +kernel) ⟨Nat.le_of_ble_eq_true rfl, Nat.le_of_ble_eq_true rfl⟩ kd_110 rfl rfl rfl rfl (Nat.le_of_ble_eq_true rfl) dX8_findLine_282 rfl W (fun r57 M58 h59 => ?_)
            obtain ⟨z61, rfl, rz61, rfl, xx60⟩ := h59
            refine A_st (st' := [.long (lL z61)]) rfl ?_
            refine A_lstore (lv' := [(5, .long (lL z61)), (4, .int (iI z47)), (0, .ref 110), (1, .int (iI v1)), (2, .int (iI v2)), (3, .int (iI v3))]) C dX8_findLine_285 (by decide) rfl ?_
            refine A_aloadn C dX8_findLine_287 2 rfl rfl ?_
            refine G_getC C W kd_110 rfl rfl rfl rfl uq_44 fX8_findLine_57 dX8_findLine_288 ?_
            refine A_iload C dX8_findLine_291 1 rfl ?_
            refine G_lald C W kd_124 rfl rfl (by decide) (by omega) (by omega) dX8_findLine_293 (fun z62 ez62 rz62 => ?_)
            refine A_aloadn C dX8_findLine_294 2 rfl rfl ?_
            refine G_getL C W kd_110 rfl rfl rfl fX8_findLine_151 dX8_findLine_295 (fun z63 ez63 rz63 => ?_)
            refine A_aloadn C dX8_findLine_298 2 rfl rfl ?_
            refine A_iloadn C dX8_findLine_299 3 rfl rfl ?_
            refine A_iloadn C dX8_findLine_300 4 rfl rfl ?_
            refine A_iloadn C dX8_findLine_301 5 rfl rfl ?_
            refine A_callV C (n := 3) (st := [.long (lL z63), .long (lL z62)]) (kX8_holds  (by omega) (by omega) (by omega) (by omega)) gX8_findLine_X8_holds rfl (by decide +kernel) ⟨Nat.le_of_ble_eq_true rfl, Nat.le_of_ble_eq_true rfl⟩ kd_110 rfl rfl rfl rfl (Nat.le_of_ble_eq_true rfl) dX8_findLine_302 rfl W (fun r64 M65 h66 => ?_)
            obtain ⟨z68, rfl, rz68, rfl, xx67⟩ := h66
            refine A_st (st' := [.long (lL z68), .long (lL z63), .long (lL z62)]) rfl ?_
            refine A_lmul C dX8_findLine_305 ?_
            refine A_topl (fun z69 rz69 ez69 => ?_)
            refine A_ladd C dX8_findLine_306 ?_
            refine A_topl (fun z70 rz70 ez70 => ?_)
            refine A_aloadn C dX8_findLine_307 2 rfl rfl ?_
            refine G_getL C W kd_110 rfl rfl rfl fX8_findLine_148 dX8_findLine_308 (fun z71 ez71 rz71 => ?_)
            refine A_lload C dX8_findLine_311 0 rfl ?_
            refine A_lmul C dX8_findLine_313 ?_
            refine A_topl (fun z72 rz72 ez72 => ?_)
            refine A_lsub C dX8_findLine_314 ?_
            refine A_topl (fun z73 rz73 ez73 => ?_)
            refine A_lstore (lv' := [(7, .long (lL z73)), (5, .long (lL z61)), (4, .int (iI z47)), (0, .ref 110), (1, .int (iI v1)), (2, .int (iI v2)), (3, .int (iI v3))]) C dX8_findLine_315 (by decide) rfl ?_
            refine A_lload C dX8_findLine_317 0 rfl ?_
            refine A_aloadn C dX8_findLine_319 3 rfl rfl ?_
            refine G_getC C W kd_110 rfl rfl rfl rfl uq_45 fX8_findLine_61 dX8_findLine_320 ?_
            refine A_iload C dX8_findLine_323 2 rfl ?_
            refine G_lald C W kd_125 rfl rfl (by decide) (by omega) (by omega) dX8_findLine_325 (fun z74 ez74 rz74 => ?_)
            refine A_lload C dX8_findLine_326 1 rfl ?_
            refine A_ladd C dX8_findLine_328 ?_
            refine A_topl (fun z75 rz75 ez75 => ?_)
            refine A_aloadn C dX8_findLine_329 3 rfl rfl ?_
            refine G_getC C W kd_110 rfl rfl rfl rfl uq_44 fX8_findLine_57 dX8_findLine_330 ?_
            refine A_bipush C dX8_findLine_333 (by decide) ?_
            refine A_iloadn C dX8_findLine_335 4 rfl rfl ?_
            refine A_imul C dX8_findLine_336 ?_
            refine A_iloadn C dX8_findLine_337 5 rfl rfl ?_
            refine A_iadd C dX8_findLine_338 ?_
            refine G_lald C W kd_124 rfl rfl (by decide) (by omega) (by omega) dX8_findLine_339 (fun z76 ez76 rz76 => ?_)
            refine A_aloadn C dX8_findLine_340 3 rfl rfl ?_
            refine G_getC C W kd_110 rfl rfl rfl rfl uq_45 fX8_findLine_61 dX8_findLine_341 ?_
            refine A_bipush C dX8_findLine_344 (by decide) ?_
            refine A_iloadn C dX8_findLine_346 4 rfl rfl ?_
            refine A_imul C dX8_findLine_347 ?_
            refine A_iloadn C dX8_findLine_348 5 rfl rfl ?_
            refine A_iadd C dX8_findLine_349 ?_
            refine G_lald C W kd_125 rfl rfl (by decide) (by omega) (by omega) dX8_findLine_350 (fun z77 ez77 rz77 => ?_)
            refine A_callS C (n := 4) (st := []) (kX8_better  (by omega) (by omega) (by omega) (by omega)) gX8_findLine_X8_better rfl (by decide +kernel) ⟨Nat.le_of_ble_eq_true rfl, Nat.le_of_ble_eq_true rfl⟩ rfl (Nat.le_of_ble_eq_true rfl) dX8_findLine_351 rfl W (fun r78 M79 h80 => ?_)
            obtain ⟨z82, rfl, lz82, uz82, rfl, xx81⟩ := h80
            refine A_st (st' := [.int (iI z82)]) rfl ?_
            refine A_ifne C 360 dX8_findLine_354 (by decide) (by omega) (fun c83 => ?_) (fun c83 => ?_)
            · skip
              refine A_aloadn C dX8_findLine_360 3 rfl rfl ?_
              refine G_getC C W kd_110 rfl rfl rfl rfl uq_44 fX8_findLine_57 dX8_findLine_361 ?_
              refine A_bipush C dX8_findLine_364 (by decide) ?_
              refine A_iloadn C dX8_findLine_366 4 rfl rfl ?_
              refine A_imul C dX8_findLine_367 ?_
              refine A_iloadn C dX8_findLine_368 5 rfl rfl ?_
              refine A_iadd C dX8_findLine_369 ?_
              refine A_lload C dX8_findLine_370 0 rfl ?_
              refine G_last C W E kd_124 rfl rfl (by decide) rfl (by omega) (by omega) (by omega) dX8_findLine_372 (fun M84 eM84 WM84 EM84 => ?_)
              have t_M84_110_0 : M84.1 110 0 = M.1 110 0 := by rw [eM84]; rfl
              have t_M84_110_11 : M84.1 110 11 = M.1 110 11 := by rw [eM84]; rfl
              have t_M84_110_12 : M84.1 110 12 = M.1 110 12 := by rw [eM84]; rfl
              have t_M84_110_16 : M84.1 110 16 = M.1 110 16 := by rw [eM84]; rfl
              have t_M84_110_17 : M84.1 110 17 = M.1 110 17 := by rw [eM84]; rfl
              have t_M84_110_29 : M84.1 110 29 = M.1 110 29 := by rw [eM84]; rfl
              have t_M84_110_30 : M84.1 110 30 = M.1 110 30 := by rw [eM84]; rfl
              refine A_aloadn C dX8_findLine_373 3 rfl rfl ?_
              refine G_getC C WM84 kd_110 rfl rfl rfl rfl uq_45 fX8_findLine_61 dX8_findLine_374 ?_
              refine A_bipush C dX8_findLine_377 (by decide) ?_
              refine A_iloadn C dX8_findLine_379 4 rfl rfl ?_
              refine A_imul C dX8_findLine_380 ?_
              refine A_iloadn C dX8_findLine_381 5 rfl rfl ?_
              refine A_iadd C dX8_findLine_382 ?_
              refine A_aloadn C dX8_findLine_383 3 rfl rfl ?_
              refine G_getC C WM84 kd_110 rfl rfl rfl rfl uq_45 fX8_findLine_61 dX8_findLine_384 ?_
              refine A_iload C dX8_findLine_387 2 rfl ?_
              refine G_lald C WM84 kd_125 rfl rfl (by decide) (by omega) (by omega) dX8_findLine_389 (fun z85 ez85 rz85 => ?_)
              refine A_lload C dX8_findLine_390 1 rfl ?_
              refine A_ladd C dX8_findLine_392 ?_
              refine A_topl (fun z86 rz86 ez86 => ?_)
              refine G_last C WM84 EM84 kd_125 rfl rfl (by decide) rfl (by omega) (by omega) (by omega) dX8_findLine_393 (fun M87 eM87 WM87 EM87 => ?_)
              have t_M87_110_0 : M87.1 110 0 = M84.1 110 0 := by rw [eM87]; rfl
              have t_M87_110_11 : M87.1 110 11 = M84.1 110 11 := by rw [eM87]; rfl
              have t_M87_110_12 : M87.1 110 12 = M84.1 110 12 := by rw [eM87]; rfl
              have t_M87_110_16 : M87.1 110 16 = M84.1 110 16 := by rw [eM87]; rfl
              have t_M87_110_17 : M87.1 110 17 = M84.1 110 17 := by rw [eM87]; rfl
              have t_M87_110_29 : M87.1 110 29 = M84.1 110 29 := by rw [eM87]; rfl
              have t_M87_110_30 : M87.1 110 30 = M84.1 110 30 := by rw [eM87]; rfl
              refine A_iinc (lv' := [(3, .int (iI (v3 + 1))), (7, .long (lL z73)), (5, .long (lL z61)), (4, .int (iI z47)), (0, .ref 110), (1, .int (iI v1)), (2, .int (iI v2))]) C dX8_findLine_394 6 rfl (by decide) rfl ?_
              refine A_goto C 227 dX8_findLine_397 (by decide) ?_
              refine A_pick [4, 5, 6, 0] rfl ?_
              exact ih v1 v2 (v3 + 1) M87 (by omega) (by omega) WM87 EM87
            · skip
              refine A_goto C 394 dX8_findLine_357 (by decide) ?_
              refine A_iinc (lv' := [(3, .int (iI (v3 + 1))), (7, .long (lL z73)), (5, .long (lL z61)), (4, .int (iI z47)), (0, .ref 110), (1, .int (iI v1)), (2, .int (iI v2))]) C dX8_findLine_394 6 rfl (by decide) rfl ?_
              refine A_goto C 227 dX8_findLine_397 (by decide) ?_
              refine A_pick [4, 5, 6, 0] rfl ?_
              exact ih v1 v2 (v3 + 1) M (by omega) (by omega) W E
          · skip
            refine A_goto C 394 dX8_findLine_275 (by decide) ?_
            refine A_iinc (lv' := [(3, .int (iI (v3 + 1))), (4, .int (iI z47)), (0, .ref 110), (1, .int (iI v1)), (2, .int (iI v2))]) C dX8_findLine_394 4 rfl (by decide) rfl ?_
            refine A_goto C 227 dX8_findLine_397 (by decide) ?_
            refine A_pick [2, 3, 4, 0] rfl ?_
            exact ih v1 v2 (v3 + 1) M (by omega) (by omega) W E
set_option maxHeartbeats 4000000 in
theorem lpX8_findLine_208 {p : Program} {l : Launch} {e : Env} {s : State} {m : MethodId} {args : Array Value} {below : List Frame} {meth : Method} {c : Code} {G : xG} (C : Cx p s m args meth c G cX8_findLine 14 RX8 wsX8_findLine none)   {M0 : Mem} {N198 : Nat} (H198 : ∀ (v1 : Int) (M : Mem), (v1 + 1).toNat < N198 → (-1 ≤ v1 ∧ v1 ≤ 11 ∧ M.1 110 0 = M0.1 110 0 ∧ M.1 110 11 = M0.1 110 11 ∧ M.1 110 12 = M0.1 110 12 ∧ M.1 110 16 = M0.1 110 16 ∧ M.1 110 17 = M0.1 110 17) → WF M → Fr [30, 44, 45, 46, 47] M0 M → AW p l e (rmD 4) s m args below meth c G 14 (QQ G below args s ((fun M r M' => r = none ∧ WF M' ∧ Fr [30, 44, 45, 46, 47] M M' ∧ (M'.1 110 0 = M.1 110 0 ∧ M'.1 110 11 = M.1 110 11 ∧ M'.1 110 12 = M.1 110 12 ∧ M'.1 110 16 = M.1 110 16 ∧ M'.1 110 17 = M.1 110 17)) M0)) M 198 [(0, .ref 110), (1, .int (iI v1))] []) : ∀ (n : Nat) (v1 v2 : Int) (M : Mem), (26 - v2).toNat < n → (0 ≤ v1 ∧ v1 ≤ 11 ∧ 0 ≤ v2 ∧ v2 ≤ 25 ∧ M.1 110 0 = M0.1 110 0 ∧ M.1 110 11 = M0.1 110 11 ∧ M.1 110 12 = M0.1 110 12 ∧ M.1 110 16 = M0.1 110 16 ∧ M.1 110 17 = M0.1 110 17 ∧ (v1 + 1).toNat ≤ N198) → WF M → Fr [30, 44, 45, 46, 47] M0 M → AW p l e (rmD 4) s m args below meth c G 14 (QQ G below args s ((fun M r M' => r = none ∧ WF M' ∧ Fr [30, 44, 45, 46, 47] M M' ∧ (M'.1 110 0 = M.1 110 0 ∧ M'.1 110 11 = M.1 110 11 ∧ M'.1 110 12 = M.1 110 12 ∧ M'.1 110 16 = M.1 110 16 ∧ M'.1 110 17 = M.1 110 17)) M0)) M 208 [(0, .ref 110), (1, .int (iI v1)), (2, .int (iI v2))] [] := by
  intro n
  induction n with
  | zero => intro v1 v2 M hn; exact absurd hn (Nat.not_lt_zero _)
  | succ n ih =>
    intro v1 v2 M hn hi W E
    have fa_110_0 : (0 : Int) ≤ M.1 110 0 ∧ M.1 110 0 ≤ 12 := W.i kd_110 0
    have fa_110_30 : (0 : Int) ≤ M.1 110 30 ∧ M.1 110 30 ≤ 12 := W.i kd_110 30
    refine A_iloadn C dX8_findLine_208 2 rfl rfl ?_
    refine A_bipush C dX8_findLine_209 (by decide) ?_
    refine A_icmpge C 406 dX8_findLine_211 (by decide) (by omega) (by omega) (fun c88 => ?_) (fun c88 => ?_)
    · skip
      refine A_iinc (lv' := [(1, .int (iI (v1 + (-1)))), (0, .ref 110), (2, .int (iI v2))]) C dX8_findLine_406 1 rfl (by decide) rfl ?_
      refine A_goto C 198 dX8_findLine_409 (by decide) ?_
      refine A_pick [1, 0] rfl ?_
      exact H198 (v1 + (-1)) M (by omega) (by omega) W E
    · skip
      refine A_iloadn C dX8_findLine_214 2 rfl rfl ?_
      refine A_iconst C dX8_findLine_215 ?_
      refine A_icmple C 225 dX8_findLine_216 (by decide) (by omega) (by omega) (fun c89 => ?_) (fun c89 => ?_)
      · skip
        refine A_iconst C dX8_findLine_225 ?_
        refine A_istoren (lv' := [(3, .int (iI 0)), (0, .ref 110), (1, .int (iI v1)), (2, .int (iI v2))]) C dX8_findLine_226 rfl (by decide) rfl ?_
        refine A_pick [1, 2, 3, 0] rfl ?_
        exact lpX8_findLine_227 C   H198 ih ((26 - (0 : Int)).toNat + 1) v1 v2 0 M (by omega) (by omega) W E
      · skip
        refine A_iloadn C dX8_findLine_219 2 rfl rfl ?_
        refine A_iconst C dX8_findLine_220 ?_
        refine A_isub C dX8_findLine_221 ?_
        refine A_goto C 226 dX8_findLine_222 (by decide) ?_
        refine A_nami (fun z90 ez90 => ?_)
        refine A_istoren (lv' := [(3, .int (iI z90)), (0, .ref 110), (1, .int (iI v1)), (2, .int (iI v2))]) C dX8_findLine_226 rfl (by decide) rfl ?_
        refine A_pick [1, 2, 3, 0] rfl ?_
        exact lpX8_findLine_227 C   H198 ih ((26 - z90).toNat + 1) v1 v2 z90 M (by omega) (by omega) W E
set_option maxHeartbeats 4000000 in
theorem lpX8_findLine_198 {p : Program} {l : Launch} {e : Env} {s : State} {m : MethodId} {args : Array Value} {below : List Frame} {meth : Method} {c : Code} {G : xG} (C : Cx p s m args meth c G cX8_findLine 14 RX8 wsX8_findLine none)   {M0 : Mem} : ∀ (n : Nat) (v1 : Int) (M : Mem), (v1 + 1).toNat < n → (-1 ≤ v1 ∧ v1 ≤ 11 ∧ M.1 110 0 = M0.1 110 0 ∧ M.1 110 11 = M0.1 110 11 ∧ M.1 110 12 = M0.1 110 12 ∧ M.1 110 16 = M0.1 110 16 ∧ M.1 110 17 = M0.1 110 17) → WF M → Fr [30, 44, 45, 46, 47] M0 M → AW p l e (rmD 4) s m args below meth c G 14 (QQ G below args s ((fun M r M' => r = none ∧ WF M' ∧ Fr [30, 44, 45, 46, 47] M M' ∧ (M'.1 110 0 = M.1 110 0 ∧ M'.1 110 11 = M.1 110 11 ∧ M'.1 110 12 = M.1 110 12 ∧ M'.1 110 16 = M.1 110 16 ∧ M'.1 110 17 = M.1 110 17)) M0)) M 198 [(0, .ref 110), (1, .int (iI v1))] [] := by
  intro n
  induction n with
  | zero => intro v1 M hn; exact absurd hn (Nat.not_lt_zero _)
  | succ n ih =>
    intro v1 M hn hi W E
    have fa_110_0 : (0 : Int) ≤ M.1 110 0 ∧ M.1 110 0 ≤ 12 := W.i kd_110 0
    have fa_110_30 : (0 : Int) ≤ M.1 110 30 ∧ M.1 110 30 ≤ 12 := W.i kd_110 30
    refine A_iloadn C dX8_findLine_198 1 rfl rfl ?_
    refine A_aloadn C dX8_findLine_199 0 rfl rfl ?_
    refine G_getI C W kd_110 rfl rfl rfl rfl rfl fX8_findLine_154 rfl dX8_findLine_200 (fun z91 ez91 lz91 uz91 => ?_)
    refine A_icmplt C 412 dX8_findLine_203 (by decide) (by omega) (by omega) (fun c92 => ?_) (fun c92 => ?_)
    · skip
      refine A_aloadn C dX8_findLine_412 0 rfl rfl ?_
      refine G_getC C W kd_110 rfl rfl rfl rfl uq_47 fX8_findLine_67 dX8_findLine_413 ?_
      refine A_iconst C dX8_findLine_416 ?_
      refine A_aloadn C dX8_findLine_417 0 rfl rfl ?_
      refine G_getC C W kd_110 rfl rfl rfl rfl uq_36 fX8_findLine_30 dX8_findLine_418 ?_
      refine A_aloadn C dX8_findLine_421 0 rfl rfl ?_
      refine G_getI C W kd_110 rfl rfl rfl rfl rfl fX8_findLine_96 rfl dX8_findLine_422 (fun z93 ez93 lz93 uz93 => ?_)
      refine A_aloadn C dX8_findLine_425 0 rfl rfl ?_
      refine G_getI C W kd_110 rfl rfl rfl rfl rfl fX8_findLine_154 rfl dX8_findLine_426 (fun z94 ez94 lz94 uz94 => ?_)
      refine A_iadd C dX8_findLine_429 ?_
      refine G_iald C W kd_116 rfl rfl (by decide) (fun _ => rfl) (by omega) (by omega) dX8_findLine_430 (fun z95 ez95 lz95 uz95 => ?_)
      refine G_iast C W E kd_127 rfl rfl (by decide) (fun _ => rfl) rfl (by omega) (by omega) (by omega) (by omega) dX8_findLine_431 (fun M96 eM96 WM96 EM96 => ?_)
      have t_M96_110_0 : M96.1 110 0 = M.1 110 0 := by rw [eM96]; exact sI_kd kd_110 kd_127 rfl
      have t_M96_110_11 : M96.1 110 11 = M.1 110 11 := by rw [eM96]; exact sI_kd kd_110 kd_127 rfl
      have t_M96_110_12 : M96.1 110 12 = M.1 110 12 := by rw [eM96]; exact sI_kd kd_110 kd_127 rfl
      have t_M96_110_16 : M96.1 110 16 = M.1 110 16 := by rw [eM96]; exact sI_kd kd_110 kd_127 rfl
      have t_M96_110_17 : M96.1 110 17 = M.1 110 17 := by rw [eM96]; exact sI_kd kd_110 kd_127 rfl
      have t_M96_110_29 : M96.1 110 29 = M.1 110 29 := by rw [eM96]; exact sI_kd kd_110 kd_127 rfl
      have t_M96_110_30 : M96.1 110 30 = M.1 110 30 := by rw [eM96]; exact sI_kd kd_110 kd_127 rfl
      refine A_lconst0 C dX8_findLine_432 ?_
      refine A_lstoren (lv' := [(1, .long (lL 0)), (0, .ref 110)]) C dX8_findLine_433 rfl (by decide) rfl ?_
      refine A_lconst0 C dX8_findLine_434 ?_
      refine A_lstoren (lv' := [(3, .long (lL 0)), (1, .long (lL 0)), (0, .ref 110)]) C dX8_findLine_435 rfl (by decide) rfl ?_
      refine A_aloadn C dX8_findLine_436 2 rfl rfl ?_
      refine G_getI C WM96 kd_110 rfl rfl rfl rfl rfl fX8_findLine_154 rfl dX8_findLine_437 (fun z97 ez97 lz97 uz97 => ?_)
      refine A_istore (lv' := [(5, .int (iI z97)), (3, .long (lL 0)), (1, .long (lL 0)), (0, .ref 110)]) C dX8_findLine_440 (by decide) rfl ?_
      refine A_pick [3, 2, 1, 0] rfl ?_
      exact lpX8_findLine_442 C   ((13 - z97).toNat + 1) 0 0 z97 M96 (by omega) (by omega) WM96 EM96
    · skip
      refine A_iconst C dX8_findLine_206 ?_
      refine A_istoren (lv' := [(2, .int (iI 0)), (0, .ref 110), (1, .int (iI v1))]) C dX8_findLine_207 rfl (by decide) rfl ?_
      refine A_pick [1, 2, 0] rfl ?_
      exact lpX8_findLine_208 C   ih ((26 - (0 : Int)).toNat + 1) v1 0 M (by omega) (by omega) W E
set_option maxHeartbeats 4000000 in
theorem lpX8_findLine_102 {p : Program} {l : Launch} {e : Env} {s : State} {m : MethodId} {args : Array Value} {below : List Frame} {meth : Method} {c : Code} {G : xG} (C : Cx p s m args meth c G cX8_findLine 14 RX8 wsX8_findLine none)   {M0 : Mem} : ∀ (n : Nat) (v1 : Int) (M : Mem), (326 - v1).toNat < n → (0 ≤ v1 ∧ v1 ≤ 325 ∧ 1 ≤ M.1 110 30 ∧ M.1 110 0 = M0.1 110 0 ∧ M.1 110 11 = M0.1 110 11 ∧ M.1 110 12 = M0.1 110 12 ∧ M.1 110 16 = M0.1 110 16 ∧ M.1 110 17 = M0.1 110 17) → WF M → Fr [30, 44, 45, 46, 47] M0 M → AW p l e (rmD 4) s m args below meth c G 14 (QQ G below args s ((fun M r M' => r = none ∧ WF M' ∧ Fr [30, 44, 45, 46, 47] M M' ∧ (M'.1 110 0 = M.1 110 0 ∧ M'.1 110 11 = M.1 110 11 ∧ M'.1 110 12 = M.1 110 12 ∧ M'.1 110 16 = M.1 110 16 ∧ M'.1 110 17 = M.1 110 17)) M0)) M 102 [(0, .ref 110), (1, .int (iI v1))] [] := by
  intro n
  induction n with
  | zero => intro v1 M hn; exact absurd hn (Nat.not_lt_zero _)
  | succ n ih =>
    intro v1 M hn hi W E
    have fa_110_0 : (0 : Int) ≤ M.1 110 0 ∧ M.1 110 0 ≤ 12 := W.i kd_110 0
    have fa_110_30 : (0 : Int) ≤ M.1 110 30 ∧ M.1 110 30 ≤ 12 := W.i kd_110 30
    refine A_iloadn C dX8_findLine_102 1 rfl rfl ?_
    refine A_bipush C dX8_findLine_103 (by decide) ?_
    refine A_aloadn C dX8_findLine_105 0 rfl rfl ?_
    refine G_getI C W kd_110 rfl rfl rfl rfl rfl fX8_findLine_7 rfl dX8_findLine_106 (fun z98 ez98 lz98 uz98 => ?_)
    refine A_imul C dX8_findLine_109 ?_
    refine A_bipush C dX8_findLine_110 (by decide) ?_
    refine A_iadd C dX8_findLine_112 ?_
    refine A_icmpge C 131 dX8_findLine_113 (by decide) (by omega) (by omega) (fun c99 => ?_) (fun c99 => ?_)
    · skip
      refine A_aloadn C dX8_findLine_131 0 rfl rfl ?_
      refine G_getC C W kd_110 rfl rfl rfl rfl uq_44 fX8_findLine_57 dX8_findLine_132 ?_
      refine A_bipush C dX8_findLine_135 (by decide) ?_
      refine A_aloadn C dX8_findLine_137 0 rfl rfl ?_
      refine G_getI C W kd_110 rfl rfl rfl rfl rfl fX8_findLine_157 rfl dX8_findLine_138 (fun z100 ez100 lz100 uz100 => ?_)
      refine A_imul C dX8_findLine_141 ?_
      refine A_aloadn C dX8_findLine_142 0 rfl rfl ?_
      refine G_getC C W kd_110 rfl rfl rfl rfl uq_36 fX8_findLine_30 dX8_findLine_143 ?_
      refine A_aloadn C dX8_findLine_146 0 rfl rfl ?_
      refine G_getI C W kd_110 rfl rfl rfl rfl rfl fX8_findLine_96 rfl dX8_findLine_147 (fun z101 ez101 lz101 uz101 => ?_)
      refine A_aloadn C dX8_findLine_150 0 rfl rfl ?_
      refine G_getI C W kd_110 rfl rfl rfl rfl rfl fX8_findLine_157 rfl dX8_findLine_151 (fun z102 ez102 lz102 uz102 => ?_)
      refine A_iadd C dX8_findLine_154 ?_
      refine A_iconst C dX8_findLine_155 ?_
      refine A_isub C dX8_findLine_156 ?_
      refine G_iald C W kd_116 rfl rfl (by decide) (fun _ => rfl) (by omega) (by omega) dX8_findLine_157 (fun z103 ez103 lz103 uz103 => ?_)
      refine A_iadd C dX8_findLine_158 ?_
      refine A_lconst0 C dX8_findLine_159 ?_
      refine G_last C W E kd_124 rfl rfl (by decide) rfl (by omega) (by omega) (by omega) dX8_findLine_160 (fun M104 eM104 WM104 EM104 => ?_)
      have t_M104_110_0 : M104.1 110 0 = M.1 110 0 := by rw [eM104]; rfl
      have t_M104_110_11 : M104.1 110 11 = M.1 110 11 := by rw [eM104]; rfl
      have t_M104_110_12 : M104.1 110 12 = M.1 110 12 := by rw [eM104]; rfl
      have t_M104_110_16 : M104.1 110 16 = M.1 110 16 := by rw [eM104]; rfl
      have t_M104_110_17 : M104.1 110 17 = M.1 110 17 := by rw [eM104]; rfl
      have t_M104_110_29 : M104.1 110 29 = M.1 110 29 := by rw [eM104]; rfl
      have t_M104_110_30 : M104.1 110 30 = M.1 110 30 := by rw [eM104]; rfl
      refine A_aloadn C dX8_findLine_161 0 rfl rfl ?_
      refine G_getC C WM104 kd_110 rfl rfl rfl rfl uq_45 fX8_findLine_61 dX8_findLine_162 ?_
      refine A_bipush C dX8_findLine_165 (by decide) ?_
      refine A_aloadn C dX8_findLine_167 0 rfl rfl ?_
      refine G_getI C WM104 kd_110 rfl rfl rfl rfl rfl fX8_findLine_157 rfl dX8_findLine_168 (fun z105 ez105 lz105 uz105 => ?_)
      refine A_imul C dX8_findLine_171 ?_
      refine A_aloadn C dX8_findLine_172 0 rfl rfl ?_
      refine G_getC C WM104 kd_110 rfl rfl rfl rfl uq_36 fX8_findLine_30 dX8_findLine_173 ?_
      refine A_aloadn C dX8_findLine_176 0 rfl rfl ?_
      refine G_getI C WM104 kd_110 rfl rfl rfl rfl rfl fX8_findLine_96 rfl dX8_findLine_177 (fun z106 ez106 lz106 uz106 => ?_)
      refine A_aloadn C dX8_findLine_180 0 rfl rfl ?_
      refine G_getI C WM104 kd_110 rfl rfl rfl rfl rfl fX8_findLine_157 rfl dX8_findLine_181 (fun z107 ez107 lz107 uz107 => ?_)
      refine A_iadd C dX8_findLine_184 ?_
      refine A_iconst C dX8_findLine_185 ?_
      refine A_isub C dX8_findLine_186 ?_
      refine G_iald C WM104 kd_116 rfl rfl (by decide) (fun _ => rfl) (by omega) (by omega) dX8_findLine_187 (fun z108 ez108 lz108 uz108 => ?_)
      refine A_iadd C dX8_findLine_188 ?_
      refine A_lconst0 C dX8_findLine_189 ?_
      refine G_last C WM104 EM104 kd_125 rfl rfl (by decide) rfl (by omega) (by omega) (by omega) dX8_findLine_190 (fun M109 eM109 WM109 EM109 => ?_)
      have t_M109_110_0 : M109.1 110 0 = M104.1 110 0 := by rw [eM109]; rfl
      have t_M109_110_11 : M109.1 110 11 = M104.1 110 11 := by rw [eM109]; rfl
      have t_M109_110_12 : M109.1 110 12 = M104.1 110 12 := by rw [eM109]; rfl
      have t_M109_110_16 : M109.1 110 16 = M104.1 110 16 := by rw [eM109]; rfl
      have t_M109_110_17 : M109.1 110 17 = M104.1 110 17 := by rw [eM109]; rfl
      have t_M109_110_29 : M109.1 110 29 = M104.1 110 29 := by rw [eM109]; rfl
      have t_M109_110_30 : M109.1 110 30 = M104.1 110 30 := by rw [eM109]; rfl
      refine A_aloadn C dX8_findLine_191 0 rfl rfl ?_
      refine G_getI C WM109 kd_110 rfl rfl rfl rfl rfl fX8_findLine_157 rfl dX8_findLine_192 (fun z110 ez110 lz110 uz110 => ?_)
      refine A_iconst C dX8_findLine_195 ?_
      refine A_isub C dX8_findLine_196 ?_
      refine A_nami (fun z111 ez111 => ?_)
      refine A_istoren (lv' := [(1, .int (iI z111)), (0, .ref 110)]) C dX8_findLine_197 rfl (by decide) rfl ?_
      refine A_pick [1, 0] rfl ?_
      exact lpX8_findLine_198 C   ((z111 + 1).toNat + 1) z111 M109 (by omega) (by omega) WM109 EM109
    · skip
      refine A_aloadn C dX8_findLine_116 0 rfl rfl ?_
      refine G_getC C W kd_110 rfl rfl rfl rfl uq_44 fX8_findLine_57 dX8_findLine_117 ?_
      refine A_iloadn C dX8_findLine_120 1 rfl rfl ?_
      refine A_ldc2 C (index := 124) (v := 1152921504606846976) (z := 1152921504606846976) (by decide +kernel) (by decide +kernel) dX8_findLine_121 ?_
      refine G_last C W E kd_124 rfl rfl (by decide) rfl (by omega) (by omega) (by omega) dX8_findLine_124 (fun M112 eM112 WM112 EM112 => ?_)
      have t_M112_110_0 : M112.1 110 0 = M.1 110 0 := by rw [eM112]; rfl
      have t_M112_110_11 : M112.1 110 11 = M.1 110 11 := by rw [eM112]; rfl
      have t_M112_110_12 : M112.1 110 12 = M.1 110 12 := by rw [eM112]; rfl
      have t_M112_110_16 : M112.1 110 16 = M.1 110 16 := by rw [eM112]; rfl
      have t_M112_110_17 : M112.1 110 17 = M.1 110 17 := by rw [eM112]; rfl
      have t_M112_110_29 : M112.1 110 29 = M.1 110 29 := by rw [eM112]; rfl
      have t_M112_110_30 : M112.1 110 30 = M.1 110 30 := by rw [eM112]; rfl
      refine A_iinc (lv' := [(1, .int (iI (v1 + 1))), (0, .ref 110)]) C dX8_findLine_125 1 rfl (by decide) rfl ?_
      refine A_goto C 102 dX8_findLine_128 (by decide) ?_
      refine A_pick [1, 0] rfl ?_
      exact ih (v1 + 1) M112 (by omega) (by omega) WM112 EM112
set_option maxHeartbeats 4000000 in
theorem lpX8_findLine_31 {p : Program} {l : Launch} {e : Env} {s : State} {m : MethodId} {args : Array Value} {below : List Frame} {meth : Method} {c : Code} {G : xG} (C : Cx p s m args meth c G cX8_findLine 14 RX8 wsX8_findLine none)   {M0 : Mem} {N12 : Nat} (H12 : ∀ (v1 : Int) (M : Mem), (13 - v1).toNat < N12 → (0 ≤ v1 ∧ v1 ≤ 12 ∧ M.1 110 0 = M0.1 110 0 ∧ M.1 110 11 = M0.1 110 11 ∧ M.1 110 12 = M0.1 110 12 ∧ M.1 110 16 = M0.1 110 16 ∧ M.1 110 17 = M0.1 110 17) → (KA M0 M v1) → WF M → Fr [30, 44, 45, 46, 47] M0 M → AW p l e (rmD 4) s m args below meth c G 14 (QQ G below args s ((fun M r M' => r = none ∧ WF M' ∧ Fr [30, 44, 45, 46, 47] M M' ∧ (M'.1 110 0 = M.1 110 0 ∧ M'.1 110 11 = M.1 110 11 ∧ M'.1 110 12 = M.1 110 12 ∧ M'.1 110 16 = M.1 110 16 ∧ M'.1 110 17 = M.1 110 17)) M0)) M 12 [(0, .ref 110), (1, .int (iI v1))] []) : ∀ (n : Nat) (v1 v2 : Int) (M : Mem), (14 - v2).toNat < n → (0 ≤ v1 ∧ v1 ≤ 11 ∧ v1 < v2 ∧ v2 ≤ 13 ∧ M.1 110 0 = M0.1 110 0 ∧ M.1 110 11 = M0.1 110 11 ∧ M.1 110 12 = M0.1 110 12 ∧ M.1 110 16 = M0.1 110 16 ∧ M.1 110 17 = M0.1 110 17 ∧ (13 - v1).toNat ≤ N12) → (KB M0 M v1 v2) → WF M → Fr [30, 44, 45, 46, 47] M0 M → AW p l e (rmD 4) s m args below meth c G 14 (QQ G below args s ((fun M r M' => r = none ∧ WF M' ∧ Fr [30, 44, 45, 46, 47] M M' ∧ (M'.1 110 0 = M.1 110 0 ∧ M'.1 110 11 = M.1 110 11 ∧ M'.1 110 12 = M.1 110 12 ∧ M'.1 110 16 = M.1 110 16 ∧ M'.1 110 17 = M.1 110 17)) M0)) M 31 [(0, .ref 110), (1, .int (iI v1)), (2, .int (iI v2))] [] := by
  intro n
  induction n with
  | zero => intro v1 v2 M hn; exact absurd hn (Nat.not_lt_zero _)
  | succ n ih =>
    intro v1 v2 M hn hi h2 W E
    have fa_110_0 : (0 : Int) ≤ M.1 110 0 ∧ M.1 110 0 ≤ 12 := W.i kd_110 0
    have fa_110_30 : (0 : Int) ≤ M.1 110 30 ∧ M.1 110 30 ≤ 12 := W.i kd_110 30
    refine A_iloadn C dX8_findLine_31 2 rfl rfl ?_
    refine A_aloadn C dX8_findLine_32 0 rfl rfl ?_
    refine G_getI C W kd_110 rfl rfl rfl rfl rfl fX8_findLine_7 rfl dX8_findLine_33 (fun z113 ez113 lz113 uz113 => ?_)
    refine A_icmpgt C 94 dX8_findLine_36 (by decide) (by omega) (by omega) (fun c114 => ?_) (fun c114 => ?_)
    · skip
      refine A_iinc (lv' := [(1, .int (iI (v1 + 1))), (0, .ref 110), (2, .int (iI v2))]) C dX8_findLine_94 1 rfl (by decide) rfl ?_
      refine A_goto C 12 dX8_findLine_97 (by decide) ?_
      refine A_pick [1, 0] rfl ?_
      exact H12 (v1 + 1) M (by omega) (by omega) (KA_n h2 (by omega)) W E
    · skip
      refine A_aloadn C dX8_findLine_39 0 rfl rfl ?_
      refine G_getI C W kd_110 rfl rfl rfl rfl rfl fX8_findLine_157 rfl dX8_findLine_40 (fun z115 ez115 lz115 uz115 => ?_)
      refine A_ifne C 94 dX8_findLine_43 (by decide) (by omega) (fun c116 => ?_) (fun c116 => ?_)
      · skip
        refine A_iinc (lv' := [(1, .int (iI (v1 + 1))), (0, .ref 110), (2, .int (iI v2))]) C dX8_findLine_94 1 rfl (by decide) rfl ?_
        refine A_goto C 12 dX8_findLine_97 (by decide) ?_
        refine A_pick [1, 0] rfl ?_
        exact H12 (v1 + 1) M (by omega) (by omega) (KA_n h2 (by omega)) W E
      · skip
        refine A_aloadn C dX8_findLine_46 0 rfl rfl ?_
        have hup := h2.2.1.up h2.1
        refine A_iloadn C dX8_findLine_47 1 rfl rfl ?_
        refine A_aloadn C dX8_findLine_48 0 rfl rfl ?_
        refine G_getL C W kd_110 rfl rfl rfl fX8_findLine_148 dX8_findLine_49 (fun z117 ez117 rz117 => ?_)
        refine A_aloadn C dX8_findLine_52 0 rfl rfl ?_
        refine G_getL C W kd_110 rfl rfl rfl fX8_findLine_151 dX8_findLine_53 (fun z118 ez118 rz118 => ?_)
        refine A_iloadn C dX8_findLine_56 2 rfl rfl ?_
        refine A_callV C (n := 4) (st := []) (kX8_walk  (by omega) (by omega) (by omega) (by omega) (by omega)) gX8_findLine_X8_walk rfl (by decide +kernel) ⟨Nat.le_of_ble_eq_true rfl, Nat.le_of_ble_eq_true rfl⟩ kd_110 rfl rfl rfl rfl (Nat.le_of_ble_eq_true rfl) dX8_findLine_57 rfl W (fun r119 M120 h121 => ?_)
        obtain ⟨rfl, WM120, FM120, xx122⟩ := h121
        have EM120 := Fr.tr E (FM120.mono (c2 := [30, 44, 45, 46, 47]) rfl)
        refine A_st (st' := []) rfl ?_
        have t_M120_110_0 : M120.1 110 0 = M.1 110 0 := by rw [xx122.1.1]
        have t_M120_110_11 : M120.1 110 11 = M.1 110 11 := by rw [xx122.1.1]
        have t_M120_110_12 : M120.1 110 12 = M.1 110 12 := by rw [xx122.1.1]
        have t_M120_110_16 : M120.1 110 16 = M.1 110 16 := by rw [xx122.1.1]
        have t_M120_110_17 : M120.1 110 17 = M.1 110 17 := by rw [xx122.1.1]
        have t_M120_110_29 : M120.1 110 29 = M.1 110 29 := by rw [xx122.1.1]
        have t_M120_110_30 : M120.1 110 30 = M.1 110 30 := by rw [xx122.1.1]
        refine A_aloadn C dX8_findLine_60 0 rfl rfl ?_
        skip
        refine G_getL C WM120 kd_110 rfl rfl rfl fX8_findLine_126 dX8_findLine_61 (fun z123 ez123 rz123 => ?_)
        refine A_lconst0 C dX8_findLine_64 ?_
        refine A_lcmp C (by omega) (by omega) dX8_findLine_65 (fun z124 cz124 => ?_)
        refine A_ifne C 88 dX8_findLine_66 (by decide) (by omega) (fun c125 => ?_) (fun c125 => ?_)
        · skip
          refine A_iinc (lv' := [(2, .int (iI (v2 + 1))), (0, .ref 110), (1, .int (iI v1))]) C dX8_findLine_88 2 rfl (by decide) rfl ?_
          refine A_goto C 31 dX8_findLine_91 (by decide) ?_
          refine A_pick [1, 2, 0] rfl ?_
          exact ih v1 (v2 + 1) M120 (by omega) (by omega) (KB_s h2 ez117 ez118 xx122 (by omega)) WM120 EM120
        · skip
          refine A_aloadn C dX8_findLine_69 0 rfl rfl ?_
          refine G_getL C WM120 kd_110 rfl rfl rfl fX8_findLine_130 dX8_findLine_70 (fun z126 ez126 rz126 => ?_)
          refine A_lconst0 C dX8_findLine_73 ?_
          refine A_lcmp C (by omega) (by omega) dX8_findLine_74 (fun z127 cz127 => ?_)
          refine A_ifle C 88 dX8_findLine_75 (by decide) (by omega) (fun c128 => ?_) (fun c128 => ?_)
          · skip
            refine A_iinc (lv' := [(2, .int (iI (v2 + 1))), (0, .ref 110), (1, .int (iI v1))]) C dX8_findLine_88 2 rfl (by decide) rfl ?_
            refine A_goto C 31 dX8_findLine_91 (by decide) ?_
            refine A_pick [1, 2, 0] rfl ?_
            exact ih v1 (v2 + 1) M120 (by omega) (by omega) (KB_s h2 ez117 ez118 xx122 (by omega)) WM120 EM120
          · skip
            refine A_aloadn C dX8_findLine_78 0 rfl rfl ?_
            refine A_iloadn C dX8_findLine_79 1 rfl rfl ?_
            refine G_putI C WM120 EM120 kd_110 rfl rfl rfl rfl rfl fX8_findLine_154 ⟨tyX8_ok, nmX8, rfl, by decide⟩ (Or.inl rfl) rfl rfl (by omega) (by omega) dX8_findLine_80 (fun M129 eM129 WM129 EM129 => ?_)
            have t_M129_110_0 : M129.1 110 0 = M120.1 110 0 := by rw [eM129]; exact sI_pl rfl
            have t_M129_110_11 : M129.1 110 11 = M120.1 110 11 := by rw [eM129]; exact sI_pl rfl
            have t_M129_110_12 : M129.1 110 12 = M120.1 110 12 := by rw [eM129]; exact sI_pl rfl
            have t_M129_110_16 : M129.1 110 16 = M120.1 110 16 := by rw [eM129]; exact sI_pl rfl
            have t_M129_110_17 : M129.1 110 17 = M120.1 110 17 := by rw [eM129]; exact sI_pl rfl
            have t_M129_110_29 : M129.1 110 29 = v1 := by rw [eM129]; exact sI_at
            have t_M129_110_30 : M129.1 110 30 = M120.1 110 30 := by rw [eM129]; exact sI_pl rfl
            refine A_aloadn C dX8_findLine_83 0 rfl rfl ?_
            refine A_iloadn C dX8_findLine_84 2 rfl rfl ?_
            refine G_putI C WM129 EM129 kd_110 rfl rfl rfl rfl rfl fX8_findLine_157 ⟨tyX8_ok, nmX8, rfl, by decide⟩ (Or.inl rfl) rfl rfl (by omega) (by omega) dX8_findLine_85 (fun M130 eM130 WM130 EM130 => ?_)
            have t_M130_110_0 : M130.1 110 0 = M129.1 110 0 := by rw [eM130]; exact sI_pl rfl
            have t_M130_110_11 : M130.1 110 11 = M129.1 110 11 := by rw [eM130]; exact sI_pl rfl
            have t_M130_110_12 : M130.1 110 12 = M129.1 110 12 := by rw [eM130]; exact sI_pl rfl
            have t_M130_110_16 : M130.1 110 16 = M129.1 110 16 := by rw [eM130]; exact sI_pl rfl
            have t_M130_110_17 : M130.1 110 17 = M129.1 110 17 := by rw [eM130]; exact sI_pl rfl
            have t_M130_110_29 : M130.1 110 29 = M129.1 110 29 := by rw [eM130]; exact sI_pl rfl
            have t_M130_110_30 : M130.1 110 30 = v2 := by rw [eM130]; exact sI_at
            refine A_iinc (lv' := [(2, .int (iI (v2 + 1))), (0, .ref 110), (1, .int (iI v1))]) C dX8_findLine_88 2 rfl (by decide) rfl ?_
            refine A_goto C 31 dX8_findLine_91 (by decide) ?_
            refine A_pick [1, 2, 0] rfl ?_
            exact ih v1 (v2 + 1) M130 (by omega) (by omega) (KB_y h2 xx122.1 (by omega) (by rw [eM130, eM129])) WM130 EM130
set_option maxHeartbeats 4000000 in
theorem lpX8_findLine_12 {p : Program} {l : Launch} {e : Env} {s : State} {m : MethodId} {args : Array Value} {below : List Frame} {meth : Method} {c : Code} {G : xG} (C : Cx p s m args meth c G cX8_findLine 14 RX8 wsX8_findLine none)   {M0 : Mem} : ∀ (n : Nat) (v1 : Int) (M : Mem), (13 - v1).toNat < n → (0 ≤ v1 ∧ v1 ≤ 12 ∧ M.1 110 0 = M0.1 110 0 ∧ M.1 110 11 = M0.1 110 11 ∧ M.1 110 12 = M0.1 110 12 ∧ M.1 110 16 = M0.1 110 16 ∧ M.1 110 17 = M0.1 110 17) → (KA M0 M v1) → WF M → Fr [30, 44, 45, 46, 47] M0 M → AW p l e (rmD 4) s m args below meth c G 14 (QQ G below args s ((fun M r M' => r = none ∧ WF M' ∧ Fr [30, 44, 45, 46, 47] M M' ∧ (M'.1 110 0 = M.1 110 0 ∧ M'.1 110 11 = M.1 110 11 ∧ M'.1 110 12 = M.1 110 12 ∧ M'.1 110 16 = M.1 110 16 ∧ M'.1 110 17 = M.1 110 17)) M0)) M 12 [(0, .ref 110), (1, .int (iI v1))] [] := by
  intro n
  induction n with
  | zero => intro v1 M hn; exact absurd hn (Nat.not_lt_zero _)
  | succ n ih =>
    intro v1 M hn hi h2 W E
    have fa_110_0 : (0 : Int) ≤ M.1 110 0 ∧ M.1 110 0 ≤ 12 := W.i kd_110 0
    have fa_110_30 : (0 : Int) ≤ M.1 110 30 ∧ M.1 110 30 ≤ 12 := W.i kd_110 30
    refine A_iloadn C dX8_findLine_12 1 rfl rfl ?_
    refine A_aloadn C dX8_findLine_13 0 rfl rfl ?_
    refine G_getI C W kd_110 rfl rfl rfl rfl rfl fX8_findLine_7 rfl dX8_findLine_14 (fun z131 ez131 lz131 uz131 => ?_)
    refine A_icmpge C 100 dX8_findLine_17 (by decide) (by omega) (by omega) (fun c132 => ?_) (fun c132 => ?_)
    · skip
      refine A_iconst C dX8_findLine_100 ?_
      have he : ¬ M.1 110 30 = 0 := by first | omega | exact KA_e h2 W (by omega)
      refine A_istoren (lv' := [(1, .int (iI 0)), (0, .ref 110)]) C dX8_findLine_101 rfl (by decide) rfl ?_
      refine A_pick [1, 0] rfl ?_
      exact lpX8_findLine_102 C   ((326 - (0 : Int)).toNat + 1) 0 M (by omega) (by omega) W E
    · skip
      refine A_aloadn C dX8_findLine_20 0 rfl rfl ?_
      refine G_getI C W kd_110 rfl rfl rfl rfl rfl fX8_findLine_157 rfl dX8_findLine_21 (fun z133 ez133 lz133 uz133 => ?_)
      refine A_ifne C 100 dX8_findLine_24 (by decide) (by omega) (fun c134 => ?_) (fun c134 => ?_)
      · skip
        refine A_iconst C dX8_findLine_100 ?_
        have he : ¬ M.1 110 30 = 0 := by first | omega | exact KA_e h2 W (by omega)
        refine A_istoren (lv' := [(1, .int (iI 0)), (0, .ref 110)]) C dX8_findLine_101 rfl (by decide) rfl ?_
        refine A_pick [1, 0] rfl ?_
        exact lpX8_findLine_102 C   ((326 - (0 : Int)).toNat + 1) 0 M (by omega) (by omega) W E
      · skip
        refine A_iloadn C dX8_findLine_27 1 rfl rfl ?_
        refine A_iconst C dX8_findLine_28 ?_
        refine A_iadd C dX8_findLine_29 ?_
        refine A_nami (fun z135 ez135 => ?_)
        refine A_istoren (lv' := [(2, .int (iI z135)), (0, .ref 110), (1, .int (iI v1))]) C dX8_findLine_30 rfl (by decide) rfl ?_
        refine A_pick [1, 2, 0] rfl ?_
        exact lpX8_findLine_31 C   ih ((14 - z135).toNat + 1) v1 z135 M (by omega) (by omega) (KB_f h2 (by omega)) W E
set_option maxHeartbeats 4000000 in
theorem kX8_findLine   : Ct yX8_findLine wsX8_findLine 4 [.ref 110] (fun M => WF M ∧ (Dn M)) (fun M r M' => r = none ∧ WF M' ∧ Fr [30, 44, 45, 46, 47] M M' ∧ (M'.1 110 0 = M.1 110 0 ∧ M'.1 110 11 = M.1 110 11 ∧ M'.1 110 12 = M.1 110 12 ∧ M'.1 110 16 = M.1 110 16 ∧ M'.1 110 17 = M.1 110 17)) := by
  refine Ct_of (cc := cX8_findLine) (nL := 14) (rt := none) (own := RX8) rfl (by decide) rfl (Nat.le_of_ble_eq_true rfl) ?_
  intro p l e s m args below meth c G M0 C W
  obtain ⟨W, hM⟩ := W
  have E : Fr [30, 44, 45, 46, 47] M0 M0 := Fr.rf
  refine A_lv (lv' := [(0, .ref 110)]) rfl ?_
  have fa_110_0 : (0 : Int) ≤ M0.1 110 0 ∧ M0.1 110 0 ≤ 12 := W.i kd_110 0
  have fa_110_30 : (0 : Int) ≤ M0.1 110 30 ∧ M0.1 110 30 ≤ 12 := W.i kd_110 30
  refine A_aloadn C dX8_findLine_0 0 rfl rfl ?_
  refine A_iconst C dX8_findLine_1 ?_
  refine G_putI C W E kd_110 rfl rfl rfl rfl rfl fX8_findLine_154 ⟨tyX8_ok, nmX8, rfl, by decide⟩ (Or.inl rfl) rfl rfl (by omega) (by omega) dX8_findLine_2 (fun M136 eM136 WM136 EM136 => ?_)
  have t_M136_110_0 : M136.1 110 0 = M0.1 110 0 := by rw [eM136]; exact sI_pl rfl
  have t_M136_110_11 : M136.1 110 11 = M0.1 110 11 := by rw [eM136]; exact sI_pl rfl
  have t_M136_110_12 : M136.1 110 12 = M0.1 110 12 := by rw [eM136]; exact sI_pl rfl
  have t_M136_110_16 : M136.1 110 16 = M0.1 110 16 := by rw [eM136]; exact sI_pl rfl
  have t_M136_110_17 : M136.1 110 17 = M0.1 110 17 := by rw [eM136]; exact sI_pl rfl
  have t_M136_110_29 : M136.1 110 29 = 0 := by rw [eM136]; exact sI_at
  have t_M136_110_30 : M136.1 110 30 = M0.1 110 30 := by rw [eM136]; exact sI_pl rfl
  refine A_aloadn C dX8_findLine_5 0 rfl rfl ?_
  refine A_iconst C dX8_findLine_6 ?_
  refine G_putI C WM136 EM136 kd_110 rfl rfl rfl rfl rfl fX8_findLine_157 ⟨tyX8_ok, nmX8, rfl, by decide⟩ (Or.inl rfl) rfl rfl (by omega) (by omega) dX8_findLine_7 (fun M137 eM137 WM137 EM137 => ?_)
  have t_M137_110_0 : M137.1 110 0 = M136.1 110 0 := by rw [eM137]; exact sI_pl rfl
  have t_M137_110_11 : M137.1 110 11 = M136.1 110 11 := by rw [eM137]; exact sI_pl rfl
  have t_M137_110_12 : M137.1 110 12 = M136.1 110 12 := by rw [eM137]; exact sI_pl rfl
  have t_M137_110_16 : M137.1 110 16 = M136.1 110 16 := by rw [eM137]; exact sI_pl rfl
  have t_M137_110_17 : M137.1 110 17 = M136.1 110 17 := by rw [eM137]; exact sI_pl rfl
  have t_M137_110_29 : M137.1 110 29 = M136.1 110 29 := by rw [eM137]; exact sI_pl rfl
  have t_M137_110_30 : M137.1 110 30 = 0 := by rw [eM137]; exact sI_at
  refine A_iconst C dX8_findLine_10 ?_
  refine A_istoren (lv' := [(1, .int (iI 0)), (0, .ref 110)]) C dX8_findLine_11 rfl (by decide) rfl ?_
  refine A_pick [1, 0] rfl ?_
  exact lpX8_findLine_12 C   ((13 - (0 : Int)).toNat + 1) 0 M137 (by omega) (by omega) (KA_0 hM (by rw [eM137, eM136])) WM137 EM137
