set_option maxHeartbeats 4000000 in
theorem lpX8_divisor_6 {p : Program} {l : Launch} {e : Env} {s : State} {m : MethodId} {args : Array Value} {below : List Frame} {meth : Method} {c : Code} {G : xG} (C : Cx p s m args meth c G cX8_divisor 10 RX8 wsX8_divisor (some .long))  {x0 : Int} {x1 : Int} (hx0 : r64 x0) (hx1 : r64 x1) (hy0 : 0 ≤ x0 ∧ 0 ≤ x1 ∧ 0 < x0 + x1) {M0 : Mem} (W : WF M0) : ∀ (n : Nat) (v4 v6 : Int), (v6).toNat < n → (r64 v4 ∧ r64 v6 ∧ 0 ≤ v4 ∧ 0 ≤ v6 ∧ 0 < v4 + v6) → ((Int.gcd v4 v6 : Int) = (Int.gcd x0 x1 : Int)) → AW p l e (rmD 1) s m args below meth c G 10 (QQ G below args s ((fun M r M' => ∃ z : Int, r = some (.long (lL z)) ∧ r64 z ∧ M = M' ∧ z = (Int.gcd x0 x1 : Int) ∧ 0 < z) M0)) M0 6 [(4, .long (lL v4)), (6, .long (lL v6))] [] := by
  have E : Fr [] M0 M0 := Fr.rf
  intro n
  induction n with
  | zero => intro v4 v6 hn; exact absurd hn (Nat.not_lt_zero _)
  | succ n ih =>
    intro v4 v6 hn hi h2
    refine A_lload C dX8_divisor_6 1 rfl ?_
    refine A_lconst0 C dX8_divisor_8 ?_
    refine A_lcmp C (by omega) (by omega) dX8_divisor_9 (fun z1 cz1 => ?_)
    refine A_ifeq C 31 dX8_divisor_10 (by decide) (by omega) (fun c2 => ?_) (fun c2 => ?_)
    · skip
      refine A_lload C dX8_divisor_31 0 rfl ?_
      exact A_lret C dX8_divisor_33 ⟨v4, rfl, by omega, rfl, by have h0 : v6 = 0 := (by omega); rw [h0, Int.gcd_zero_right] at h2; omega⟩
    · skip
      refine A_lload C dX8_divisor_13 0 rfl ?_
      refine A_lload C dX8_divisor_15 1 rfl ?_
      refine A_lrem C (by omega) (by omega) (by omega) (by omega) dX8_divisor_17 (fun z3 ez3 lz3 uz3 => ?_)
      refine A_lstore (lv' := [(8, .long (lL z3)), (4, .long (lL v4)), (6, .long (lL v6))]) C dX8_divisor_18 (by decide) rfl ?_
      refine A_lload C dX8_divisor_20 2 rfl ?_
      refine A_lstore (lv' := [(4, .long (lL v6)), (8, .long (lL z3)), (6, .long (lL v6))]) C dX8_divisor_22 (by decide) rfl ?_
      refine A_lload C dX8_divisor_24 1 rfl ?_
      refine A_lstore (lv' := [(6, .long (lL z3)), (4, .long (lL v6)), (8, .long (lL z3))]) C dX8_divisor_26 (by decide) rfl ?_
      refine A_goto C 6 dX8_divisor_28 (by decide) ?_
      refine A_pick [1, 0] rfl ?_
      exact ih v6 z3 (by omega) (by omega) (by subst_vars; rw [gcd_step (by omega) (by omega)]; exact h2)
set_option maxHeartbeats 4000000 in
theorem kX8_divisor  {x0 : Int} {x1 : Int} (hx0 : r64 x0) (hx1 : r64 x1) (hy0 : 0 ≤ x0 ∧ 0 ≤ x1 ∧ 0 < x0 + x1) : Ct yX8_divisor wsX8_divisor 1 [.long (lL x0), .long (lL x1)] (fun M => WF M) (fun M r M' => ∃ z : Int, r = some (.long (lL z)) ∧ r64 z ∧ M = M' ∧ z = (Int.gcd x0 x1 : Int) ∧ 0 < z) := by
  refine Ct_of (cc := cX8_divisor) (nL := 10) (rt := (some .long)) (own := RX8) rfl (by decide) rfl (Nat.le_of_ble_eq_true rfl) ?_
  intro p l e s m args below meth c G M0 C W
  have E : Fr [] M0 M0 := Fr.rf
  refine A_lv (lv' := [(0, .long (lL x0)), (2, .long (lL x1))]) rfl ?_
  refine A_lloadn C dX8_divisor_0 0 rfl rfl ?_
  refine A_lstore (lv' := [(4, .long (lL x0)), (0, .long (lL x0)), (2, .long (lL x1))]) C dX8_divisor_1 (by decide) rfl ?_
  refine A_lloadn C dX8_divisor_3 2 rfl rfl ?_
  refine A_lstore (lv' := [(6, .long (lL x1)), (4, .long (lL x0)), (0, .long (lL x0)), (2, .long (lL x1))]) C dX8_divisor_4 (by decide) rfl ?_
  refine A_pick [1, 0] rfl ?_
  exact lpX8_divisor_6 C  hx0 hx1 hy0 W ((x1).toNat + 1) x0 x1 (by omega) (by omega) rfl
