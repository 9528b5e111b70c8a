/-! SlipBench(): the whole object, by its numbers -/
theorem bkX0 : ∀ j, j < 4 → defaultValue (tyX0 j) = vp_V ((fks 0).map bkV) j := by
  intro j hj
  rcases (show j = 0 ∨ j = 1 ∨ j = 2 ∨ j = 3 by omega) with rfl | rfl | rfl | rfl <;> rfl
theorem bkX2 : ∀ j, j < 5 → defaultValue (tyX2 j) = vp_V ((fks 2).map bkV) j := by
  intro j hj
  rcases (show j = 0 ∨ j = 1 ∨ j = 2 ∨ j = 3 ∨ j = 4 by omega) with rfl | rfl | rfl | rfl | rfl <;> rfl
theorem bkX3 : ∀ j, j < 2 → defaultValue (tyX3 j) = vp_V ((fks 3).map bkV) j := by
  intro j hj
  rcases (show j = 0 ∨ j = 1 by omega) with rfl | rfl <;> rfl
theorem bkX4 : ∀ j, j < 2 → defaultValue (tyX4 j) = vp_V ((fks 4).map bkV) j := by
  intro j hj
  rcases (show j = 0 ∨ j = 1 by omega) with rfl | rfl <;> rfl
theorem bkX5 : ∀ j, j < 3 → defaultValue (tyX5 j) = vp_V ((fks 5).map bkV) j := by
  intro j hj
  rcases (show j = 0 ∨ j = 1 ∨ j = 2 by omega) with rfl | rfl | rfl <;> rfl
theorem bkX6 : ∀ j, j < 7 → defaultValue (tyX6 j) = vp_V ((fks 6).map bkV) j := by
  intro j hj
  rcases (show j = 0 ∨ j = 1 ∨ j = 2 ∨ j = 3 ∨ j = 4 ∨ j = 5 ∨ j = 6 by omega) with rfl | rfl | rfl | rfl | rfl | rfl | rfl <;> rfl
theorem bkX7 : ∀ j, j < 15 → defaultValue (tyX7 j) = vp_V ((fks 7).map bkV) j := by
  intro j hj
  rcases (show j = 0 ∨ j = 1 ∨ j = 2 ∨ j = 3 ∨ j = 4 ∨ j = 5 ∨ j = 6 ∨ j = 7 ∨ j = 8 ∨ j = 9 ∨ j = 10 ∨ j = 11 ∨ j = 12 ∨ j = 13 ∨ j = 14 by omega) with rfl | rfl | rfl | rfl | rfl | rfl | rfl | rfl | rfl | rfl | rfl | rfl | rfl | rfl | rfl <;> rfl
theorem bkX8 : ∀ j, j < 35 → defaultValue (tyX8 j) = vp_V ((fks 8).map bkV) j := by
  intro j hj
  rcases (show j = 0 ∨ j = 1 ∨ j = 2 ∨ j = 3 ∨ j = 4 ∨ j = 5 ∨ j = 6 ∨ j = 7 ∨ j = 8 ∨ j = 9 ∨ j = 10 ∨ j = 11 ∨ j = 12 ∨ j = 13 ∨ j = 14 ∨ j = 15 ∨ j = 16 ∨ j = 17 ∨ j = 18 ∨ j = 19 ∨ j = 20 ∨ j = 21 ∨ j = 22 ∨ j = 23 ∨ j = 24 ∨ j = 25 ∨ j = 26 ∨ j = 27 ∨ j = 28 ∨ j = 29 ∨ j = 30 ∨ j = 31 ∨ j = 32 ∨ j = 33 ∨ j = 34 by omega) with rfl | rfl | rfl | rfl | rfl | rfl | rfl | rfl | rfl | rfl | rfl | rfl | rfl | rfl | rfl | rfl | rfl | rfl | rfl | rfl | rfl | rfl | rfl | rfl | rfl | rfl | rfl | rfl | rfl | rfl | rfl | rfl | rfl | rfl | rfl <;> rfl
theorem mX0_init_Z {M : Mem} {n n1 a : Nat} (ha : a < n1) (h : Zr M n1) : Zr (mX0_init M n a) n1 := by
  unfold mX0_init
  repeat (first | exact h | apply Zr_sI ha | apply Zr_sR ha | apply Zr_sL ha)
theorem mX2_init_Z {M : Mem} {n n1 a : Nat} (ha : a < n1) (h : Zr M n1) : Zr (mX2_init M n a) n1 := by
  unfold mX2_init
  repeat (first | exact h | apply Zr_sI ha | apply Zr_sR ha | apply Zr_sL ha)
theorem mX3_init_Z {M : Mem} {n n1 a : Nat} (ha : a < n1) (h : Zr M n1) : Zr (mX3_init M n a) n1 := by
  unfold mX3_init
  repeat (first | exact h | apply Zr_sI ha | apply Zr_sR ha | apply Zr_sL ha)
theorem mX5_init_Z {M : Mem} {n n1 a : Nat} (ha : a < n1) (h : Zr M n1) : Zr (mX5_init M n a) n1 := by
  unfold mX5_init
  repeat (first | exact h | apply Zr_sI ha | apply Zr_sR ha | apply Zr_sL ha)
theorem mX5_init_w_Z {M : Mem} {n n1 a : Nat} (ha : a < n1) (h : Zr M n1) : Zr (mX5_init_w M n a) n1 := by
  unfold mX5_init_w
  repeat (first | exact h | apply Zr_sI ha | apply Zr_sR ha | apply Zr_sL ha)
theorem mX6_init_Z {M : Mem} {n n1 a g1 : Nat} (ha : a < n1) (h : Zr M n1) : Zr (mX6_init M n a g1) n1 := by
  unfold mX6_init
  repeat (first | exact h | apply Zr_sI ha | apply Zr_sR ha | apply Zr_sL ha)
theorem mX8_init_Z {M : Mem} {n n1 a : Nat} (ha : a < n1) (h : Zr M n1) : Zr (mX8_init M n a) n1 := by
  unfold mX8_init
  repeat (first | exact h | apply Zr_sI ha | apply Zr_sR ha | apply Zr_sL ha)
theorem gM_Zc {M : Mem} {n a e1 : Nat} (ha : a < n) (h : Zr M n) : Zr (gM M n a e1 12) (n + 49) := by
  have := gM_Z (e1 := e1) ha h 12
  exact Zr_up this (by omega)
theorem hM_Zc {M : Mem} {n a e1 : Nat} {cf : Nat → Nat} (ha : a < n) (h : Zr M n) : Zr (hM M n a e1 cf 12) (n + 37) := by
  have := hM_Z (e1 := e1) (cf := cf) ha h 12
  exact Zr_up this (by omega)
def mem0 : Mem := (fun _ _ => 0, fun _ _ => 0, fun _ _ => none)
theorem mem0_Z {n : Nat} : Zr mem0 n := fun _ _ _ => ⟨rfl, rfl, rfl⟩
def mem1 : Mem := mX2_init mem0 2 1
theorem mem1_Z : Zr mem1 6 := mX2_init_Z (by decide) (Zr_up (Zr_up (mem0_Z (n := 1)) (n1 := 2) (by decide)) (by decide))
def mem2 : Mem := sR mem1 0 0 (some 1)
theorem mem2_Z : Zr mem2 6 := Zr_sR (by decide) mem1_Z
def mem3 : Mem := gM mem2 7 6 1 12
theorem mem3_Z : Zr mem3 56 := gM_Zc (by decide) (Zr_up mem2_Z (n1 := 7) (by decide))
def mem4 : Mem := sR mem3 0 1 (some 6)
theorem mem4_Z : Zr mem4 56 := Zr_sR (by decide) mem3_Z
def mem5 : Mem := hM mem4 57 56 1 (fun i => 9 + 4 * i) 12
theorem mem5_Z : Zr mem5 94 := hM_Zc (by decide) (Zr_up mem4_Z (n1 := 57) (by decide))
def mem6 : Mem := sR mem5 0 2 (some 56)
theorem mem6_Z : Zr mem6 94 := Zr_sR (by decide) mem5_Z
def mem7 : Mem := mX0_init mem6 95 94
theorem mem7_Z : Zr mem7 98 := mX0_init_Z (by decide) (Zr_up (Zr_up mem6_Z (n1 := 95) (by decide)) (by decide))
def mem8 : Mem := sR mem7 0 3 (some 94)
theorem mem8_Z : Zr mem8 98 := Zr_sR (by decide) mem7_Z
def mem9 : Mem := mX6_init mem8 99 98 6
theorem mem9_Z : Zr mem9 101 := mX6_init_Z (by decide) (Zr_up (Zr_up mem8_Z (n1 := 99) (by decide)) (by decide))
def mem10 : Mem := sR mem9 0 4 (some 98)
theorem mem10_Z : Zr mem10 101 := Zr_sR (by decide) mem9_Z
def mem11 : Mem := mX5_init mem10 102 101
theorem mem11_Z : Zr mem11 103 := mX5_init_Z (by decide) (Zr_up (Zr_up mem10_Z (n1 := 102) (by decide)) (by decide))
def mem12 : Mem := sR mem11 0 5 (some 101)
theorem mem12_Z : Zr mem12 103 := Zr_sR (by decide) mem11_Z
def mem13 : Mem := mX5_init_w mem12 104 103
theorem mem13_Z : Zr mem13 105 := mX5_init_w_Z (by decide) (Zr_up (Zr_up mem12_Z (n1 := 104) (by decide)) (by decide))
def mem14 : Mem := sR mem13 0 6 (some 103)
theorem mem14_Z : Zr mem14 105 := Zr_sR (by decide) mem13_Z
def mem15 : Mem := mX3_init mem14 106 105
theorem mem15_Z : Zr mem15 106 := mX3_init_Z (by decide) (Zr_up (Zr_up mem14_Z (n1 := 106) (by decide)) (by decide))
def mem16 : Mem := sR mem15 0 7 (some 105)
theorem mem16_Z : Zr mem16 106 := Zr_sR (by decide) mem15_Z
def mem17 : Mem := mX3_init mem16 107 106
theorem mem17_Z : Zr mem17 107 := mX3_init_Z (by decide) (Zr_up (Zr_up mem16_Z (n1 := 107) (by decide)) (by decide))
def mem18 : Mem := sR mem17 0 8 (some 106)
theorem mem18_Z : Zr mem18 107 := Zr_sR (by decide) mem17_Z
def mem19 : Mem := sR mem18 0 9 (some 107)
theorem mem19_Z : Zr mem19 108 := Zr_sR (by decide) (Zr_up mem18_Z (n1 := 108) (by decide))
def mem20 : Mem := sR mem19 0 10 (some 108)
theorem mem20_Z : Zr mem20 109 := Zr_sR (by decide) (Zr_up mem19_Z (n1 := 109) (by decide))
def mem21 : Mem := sR mem20 0 11 (some 109)
theorem mem21_Z : Zr mem21 110 := Zr_sR (by decide) (Zr_up mem20_Z (n1 := 110) (by decide))
def mem22 : Mem := sI mem21 0 12 0
theorem mem22_Z : Zr mem22 110 := Zr_sI (by decide) mem21_Z
def mem23 : Mem := sI mem22 0 13 0
theorem mem23_Z : Zr mem23 110 := Zr_sI (by decide) mem22_Z
def mem24 : Mem := sI mem23 0 14 0
theorem mem24_Z : Zr mem24 110 := Zr_sI (by decide) mem23_Z
theorem uX7_init_2 : ∀ w ∈ u_ws RX2 TX2 5, w ∈ wsX7_init := by decide +kernel
theorem uX7_init_4 : ∀ w ∈ u_ws RX4 TX4 2, w ∈ wsX7_init := by decide +kernel
theorem uX7_init_0 : ∀ w ∈ u_ws RX0 TX0 4, w ∈ wsX7_init := by decide +kernel
theorem uX7_init_6 : ∀ w ∈ u_ws RX6 TX6 7, w ∈ wsX7_init := by decide +kernel
theorem uX7_init_5 : ∀ w ∈ u_ws RX5 TX5 3, w ∈ wsX7_init := by decide +kernel
theorem uX7_init_3 : ∀ w ∈ u_ws RX3 TX3 2, w ∈ wsX7_init := by decide +kernel
theorem uX7_init_7 : ∀ w ∈ u_ws RX7 TX7 15, w ∈ wsX7_init := by decide +kernel
theorem fX7_init_12 : Fl RX7 wsX7_init 7 0 12 RX7 TX7 15 := ⟨rfl, by decide, uX7_init_7, by decide +kernel⟩
theorem fX7_init_21 : Fl RX7 wsX7_init 7 1 21 RX7 TX7 15 := ⟨rfl, by decide, uX7_init_7, by decide +kernel⟩
theorem fX7_init_28 : Fl RX7 wsX7_init 7 2 28 RX7 TX7 15 := ⟨rfl, by decide, uX7_init_7, by decide +kernel⟩
theorem fX7_init_34 : Fl RX7 wsX7_init 7 3 34 RX7 TX7 15 := ⟨rfl, by decide, uX7_init_7, by decide +kernel⟩
theorem fX7_init_41 : Fl RX7 wsX7_init 7 4 41 RX7 TX7 15 := ⟨rfl, by decide, uX7_init_7, by decide +kernel⟩
theorem fX7_init_48 : Fl RX7 wsX7_init 7 5 48 RX7 TX7 15 := ⟨rfl, by decide, uX7_init_7, by decide +kernel⟩
theorem fX7_init_52 : Fl RX7 wsX7_init 7 6 52 RX7 TX7 15 := ⟨rfl, by decide, uX7_init_7, by decide +kernel⟩
theorem fX7_init_58 : Fl RX7 wsX7_init 7 7 58 RX7 TX7 15 := ⟨rfl, by decide, uX7_init_7, by decide +kernel⟩
theorem fX7_init_62 : Fl RX7 wsX7_init 7 8 62 RX7 TX7 15 := ⟨rfl, by decide, uX7_init_7, by decide +kernel⟩
theorem fX7_init_65 : Fl RX7 wsX7_init 7 9 65 RX7 TX7 15 := ⟨rfl, by decide, uX7_init_7, by decide +kernel⟩
theorem fX7_init_69 : Fl RX7 wsX7_init 7 10 69 RX7 TX7 15 := ⟨rfl, by decide, uX7_init_7, by decide +kernel⟩
theorem fX7_init_73 : Fl RX7 wsX7_init 7 11 73 RX7 TX7 15 := ⟨rfl, by decide, uX7_init_7, by decide +kernel⟩
theorem fX7_init_76 : Fl RX7 wsX7_init 7 12 76 RX7 TX7 15 := ⟨rfl, by decide, uX7_init_7, by decide +kernel⟩
theorem fX7_init_80 : Fl RX7 wsX7_init 7 13 80 RX7 TX7 15 := ⟨rfl, by decide, uX7_init_7, by decide +kernel⟩
theorem fX7_init_84 : Fl RX7 wsX7_init 7 14 84 RX7 TX7 15 := ⟨rfl, by decide, uX7_init_7, by decide +kernel⟩
set_option maxHeartbeats 4000000 in
theorem kX7_init : Cn yX7_init wsX7_init 3 109 4639 1 110 [.ref 0] mem0 mem24 := by
  refine Cn_of (cc := cX7_init) (nL := 1) (rt := none) (own := RX7) rfl rfl (by decide) rfl (Nat.le_of_ble_eq_true rfl) ?_
  intro p l e s m args below meth c G C hnm hNc
  refine N_lv (lv' := [(0, .ref 0)]) rfl ?_
  refine N_aloadn C dX7_init_0 0 rfl rfl ?_
  refine N_obj C (by decide +kernel) (by decide +kernel) (by decide +kernel) dX7_init_1 (Nat.le_of_ble_eq_true rfl) (Nat.le_of_ble_eq_true rfl) ?_
  refine N_aloadn C dX7_init_4 0 rfl rfl ?_
  refine N_new (ty := tyX2) C (mem0_Z (n := 1)) rfl rfl uX7_init_2 tyX2_ok (by decide +kernel) (by decide +kernel) (by decide +kernel) bkX2 (Nat.le_of_ble_eq_true rfl) (Nat.le_of_ble_eq_true rfl) dX7_init_5 ?_
  refine N_dup C dX7_init_8 rfl ?_
  refine N_callIN (M1 := mem1) (st := [.ref 1, .ref 0]) C hNc (kX2_init (n := 2) (a := 1) (by decide) rfl rfl rfl rfl rfl (Zr_up (mem0_Z (n := 1)) (n1 := 2) (by decide))) hNc.1 gX7_init_X2_init_n11 rfl (by decide +kernel) (by decide +kernel) rfl (nn := 0) (by decide +kernel) ⟨Nat.le_of_ble_eq_true rfl, Nat.le_of_ble_eq_true rfl⟩ rfl (Nat.le_of_ble_eq_true rfl) ⟨Nat.le_of_ble_eq_true rfl, Nat.le_of_ble_eq_true rfl⟩ dX7_init_9 rfl ?_
  refine N_pR C (by decide) rfl rfl fX7_init_12 tyX7_ok nmX7 (Or.inr ⟨rfl, hnm, rfl⟩) rfl rfl (by decide) dX7_init_12 ?_
  refine N_mem (M' := mem2) rfl ?_
  refine N_aloadn C dX7_init_15 0 rfl rfl ?_
  refine N_new (ty := tyX4) C mem2_Z rfl rfl uX7_init_4 tyX4_ok (by decide +kernel) (by decide +kernel) (by decide +kernel) bkX4 (Nat.le_of_ble_eq_true rfl) (Nat.le_of_ble_eq_true rfl) dX7_init_16 ?_
  refine N_dup C dX7_init_19 rfl ?_
  refine N_aloadn C dX7_init_20 0 rfl rfl ?_
  refine N_getR C (by decide) rfl rfl (b := 1) (by decide +kernel) fX7_init_12 dX7_init_21 ?_
  refine N_callI (M1 := mem3) (st := [.ref 6, .ref 0]) C hNc (kX4_init (n := 7) (a := 6) (e1 := 1) (by decide) rfl ⟨rfl, by decide +kernel⟩ (Zr_up mem2_Z (n1 := 7) (by decide))) gX7_init_X4_init rfl (by decide +kernel) (by decide +kernel) (by decide +kernel) rfl (nn := 1) (by decide +kernel) ⟨Nat.le_of_ble_eq_true rfl, Nat.le_of_ble_eq_true rfl⟩ rfl (Nat.le_of_ble_eq_true rfl) ⟨Nat.le_of_ble_eq_true rfl, Nat.le_of_ble_eq_true rfl⟩ dX7_init_24 rfl ?_
  refine N_pR C (by decide) rfl rfl fX7_init_21 tyX7_ok nmX7 (Or.inr ⟨rfl, hnm, rfl⟩) rfl rfl (by decide) dX7_init_27 ?_
  refine N_mem (M' := mem4) rfl ?_
  refine N_aloadn C dX7_init_30 0 rfl rfl ?_
  refine N_new (ty := tyX4) C mem4_Z rfl rfl uX7_init_4 tyX4_ok (by decide +kernel) (by decide +kernel) (by decide +kernel) bkX4 (Nat.le_of_ble_eq_true rfl) (Nat.le_of_ble_eq_true rfl) dX7_init_31 ?_
  refine N_dup C dX7_init_34 rfl ?_
  refine N_aloadn C dX7_init_35 0 rfl rfl ?_
  refine N_getR C (by decide) rfl rfl (b := 6) (by decide +kernel) fX7_init_21 dX7_init_36 ?_
  refine N_callI (M1 := mem5) (st := [.ref 56, .ref 0]) C hNc (kX4_init_ (n := 57) (a := 56) (o := 6) (r := 7) (e1 := 1) (qf := fun i => 8 + 4 * i) (cf := fun i => 9 + 4 * i) (by decide) rfl ⟨rfl, by decide +kernel⟩ ⟨by decide, by decide, rfl, by decide +kernel, by decide, by decide, rfl, by decide +kernel⟩ (Zr_up mem4_Z (n1 := 57) (by decide))) gX7_init_X4_init_ rfl (by decide +kernel) (by decide +kernel) (by decide +kernel) rfl (nn := 1) (by decide +kernel) ⟨Nat.le_of_ble_eq_true rfl, Nat.le_of_ble_eq_true rfl⟩ rfl (Nat.le_of_ble_eq_true rfl) ⟨Nat.le_of_ble_eq_true rfl, Nat.le_of_ble_eq_true rfl⟩ dX7_init_39 rfl ?_
  refine N_pR C (by decide) rfl rfl fX7_init_28 tyX7_ok nmX7 (Or.inr ⟨rfl, hnm, rfl⟩) rfl rfl (by decide) dX7_init_42 ?_
  refine N_mem (M' := mem6) rfl ?_
  refine N_aloadn C dX7_init_45 0 rfl rfl ?_
  refine N_new (ty := tyX0) C mem6_Z rfl rfl uX7_init_0 tyX0_ok (by decide +kernel) (by decide +kernel) (by decide +kernel) bkX0 (Nat.le_of_ble_eq_true rfl) (Nat.le_of_ble_eq_true rfl) dX7_init_46 ?_
  refine N_dup C dX7_init_49 rfl ?_
  refine N_callIN (M1 := mem7) (st := [.ref 94, .ref 0]) C hNc (kX0_init (n := 95) (a := 94) (by decide) rfl rfl rfl rfl (Zr_up mem6_Z (n1 := 95) (by decide))) hNc.2.1 gX7_init_X0_init_n33 rfl (by decide +kernel) (by decide +kernel) rfl (nn := 0) (by decide +kernel) ⟨Nat.le_of_ble_eq_true rfl, Nat.le_of_ble_eq_true rfl⟩ rfl (Nat.le_of_ble_eq_true rfl) ⟨Nat.le_of_ble_eq_true rfl, Nat.le_of_ble_eq_true rfl⟩ dX7_init_50 rfl ?_
  refine N_pR C (by decide) rfl rfl fX7_init_34 tyX7_ok nmX7 (Or.inr ⟨rfl, hnm, rfl⟩) rfl rfl (by decide) dX7_init_53 ?_
  refine N_mem (M' := mem8) rfl ?_
  refine N_aloadn C dX7_init_56 0 rfl rfl ?_
  refine N_new (ty := tyX6) C mem8_Z rfl rfl uX7_init_6 tyX6_ok (by decide +kernel) (by decide +kernel) (by decide +kernel) bkX6 (Nat.le_of_ble_eq_true rfl) (Nat.le_of_ble_eq_true rfl) dX7_init_57 ?_
  refine N_dup C dX7_init_60 rfl ?_
  refine N_aloadn C dX7_init_61 0 rfl rfl ?_
  refine N_getR C (by decide) rfl rfl (b := 6) (by decide +kernel) fX7_init_21 dX7_init_62 ?_
  refine N_callI (M1 := mem9) (st := [.ref 98, .ref 0]) C hNc (kX6_init (n := 99) (a := 98) (g1 := 6) (by decide) rfl rfl rfl (Zr_up mem8_Z (n1 := 99) (by decide))) gX7_init_X6_init rfl (by decide +kernel) (by decide +kernel) (by decide +kernel) rfl (nn := 1) (by decide +kernel) ⟨Nat.le_of_ble_eq_true rfl, Nat.le_of_ble_eq_true rfl⟩ rfl (Nat.le_of_ble_eq_true rfl) ⟨Nat.le_of_ble_eq_true rfl, Nat.le_of_ble_eq_true rfl⟩ dX7_init_65 rfl ?_
  refine N_pR C (by decide) rfl rfl fX7_init_41 tyX7_ok nmX7 (Or.inr ⟨rfl, hnm, rfl⟩) rfl rfl (by decide) dX7_init_68 ?_
  refine N_mem (M' := mem10) rfl ?_
  refine N_aloadn C dX7_init_71 0 rfl rfl ?_
  refine N_new (ty := tyX5) C mem10_Z rfl rfl uX7_init_5 tyX5_ok (by decide +kernel) (by decide +kernel) (by decide +kernel) bkX5 (Nat.le_of_ble_eq_true rfl) (Nat.le_of_ble_eq_true rfl) dX7_init_72 ?_
  refine N_dup C dX7_init_75 rfl ?_
  refine N_callIN (M1 := mem11) (st := [.ref 101, .ref 0]) C hNc (kX5_init (n := 102) (a := 101) (by decide) rfl rfl (Zr_up mem10_Z (n1 := 102) (by decide))) hNc.2.2.1 gX7_init_X5_init_n47 rfl (by decide +kernel) (by decide +kernel) rfl (nn := 0) (by decide +kernel) ⟨Nat.le_of_ble_eq_true rfl, Nat.le_of_ble_eq_true rfl⟩ rfl (Nat.le_of_ble_eq_true rfl) ⟨Nat.le_of_ble_eq_true rfl, Nat.le_of_ble_eq_true rfl⟩ dX7_init_76 rfl ?_
  refine N_pR C (by decide) rfl rfl fX7_init_48 tyX7_ok nmX7 (Or.inr ⟨rfl, hnm, rfl⟩) rfl rfl (by decide) dX7_init_79 ?_
  refine N_mem (M' := mem12) rfl ?_
  refine N_aloadn C dX7_init_82 0 rfl rfl ?_
  refine N_new (ty := tyX5) C mem12_Z rfl rfl uX7_init_5 tyX5_ok (by decide +kernel) (by decide +kernel) (by decide +kernel) bkX5 (Nat.le_of_ble_eq_true rfl) (Nat.le_of_ble_eq_true rfl) dX7_init_83 ?_
  refine N_dup C dX7_init_86 rfl ?_
  refine N_callIN (M1 := mem13) (st := [.ref 103, .ref 0]) C hNc (kX5_init_w (n := 104) (a := 103) (by decide) rfl rfl (Zr_up mem12_Z (n1 := 104) (by decide))) hNc.2.2.1 gX7_init_X5_init_n47 rfl (by decide +kernel) (by decide +kernel) rfl (nn := 0) (by decide +kernel) ⟨Nat.le_of_ble_eq_true rfl, Nat.le_of_ble_eq_true rfl⟩ rfl (Nat.le_of_ble_eq_true rfl) ⟨Nat.le_of_ble_eq_true rfl, Nat.le_of_ble_eq_true rfl⟩ dX7_init_87 rfl ?_
  refine N_pR C (by decide) rfl rfl fX7_init_52 tyX7_ok nmX7 (Or.inr ⟨rfl, hnm, rfl⟩) rfl rfl (by decide) dX7_init_90 ?_
  refine N_mem (M' := mem14) rfl ?_
  refine N_aloadn C dX7_init_93 0 rfl rfl ?_
  refine N_new (ty := tyX3) C mem14_Z rfl rfl uX7_init_3 tyX3_ok (by decide +kernel) (by decide +kernel) (by decide +kernel) bkX3 (Nat.le_of_ble_eq_true rfl) (Nat.le_of_ble_eq_true rfl) dX7_init_94 ?_
  refine N_dup C dX7_init_97 rfl ?_
  refine N_callIN (M1 := mem15) (st := [.ref 105, .ref 0]) C hNc (kX3_init (n := 106) (a := 105) (by decide) rfl (Zr_up mem14_Z (n1 := 106) (by decide))) hNc.2.2.2.1 gX7_init_X3_init_n57 rfl (by decide +kernel) (by decide +kernel) rfl (nn := 0) (by decide +kernel) ⟨Nat.le_of_ble_eq_true rfl, Nat.le_of_ble_eq_true rfl⟩ rfl (Nat.le_of_ble_eq_true rfl) ⟨Nat.le_of_ble_eq_true rfl, Nat.le_of_ble_eq_true rfl⟩ dX7_init_98 rfl ?_
  refine N_pR C (by decide) rfl rfl fX7_init_58 tyX7_ok nmX7 (Or.inr ⟨rfl, hnm, rfl⟩) rfl rfl (by decide) dX7_init_101 ?_
  refine N_mem (M' := mem16) rfl ?_
  refine N_aloadn C dX7_init_104 0 rfl rfl ?_
  refine N_new (ty := tyX3) C mem16_Z rfl rfl uX7_init_3 tyX3_ok (by decide +kernel) (by decide +kernel) (by decide +kernel) bkX3 (Nat.le_of_ble_eq_true rfl) (Nat.le_of_ble_eq_true rfl) dX7_init_105 ?_
  refine N_dup C dX7_init_108 rfl ?_
  refine N_callIN (M1 := mem17) (st := [.ref 106, .ref 0]) C hNc (kX3_init (n := 107) (a := 106) (by decide) rfl (Zr_up mem16_Z (n1 := 107) (by decide))) hNc.2.2.2.1 gX7_init_X3_init_n57 rfl (by decide +kernel) (by decide +kernel) rfl (nn := 0) (by decide +kernel) ⟨Nat.le_of_ble_eq_true rfl, Nat.le_of_ble_eq_true rfl⟩ rfl (Nat.le_of_ble_eq_true rfl) ⟨Nat.le_of_ble_eq_true rfl, Nat.le_of_ble_eq_true rfl⟩ dX7_init_109 rfl ?_
  refine N_pR C (by decide) rfl rfl fX7_init_62 tyX7_ok nmX7 (Or.inr ⟨rfl, hnm, rfl⟩) rfl rfl (by decide) dX7_init_112 ?_
  refine N_mem (M' := mem18) rfl ?_
  refine N_aloadn C dX7_init_115 0 rfl rfl ?_
  refine N_bipush C dX7_init_116 (by decide) ?_
  refine N_newZ (len := 64) C mem18_Z rfl (by decide +kernel) (by decide) (by decide) (Nat.le_of_ble_eq_true rfl) (Nat.le_of_ble_eq_true rfl) dX7_init_118 ?_
  refine N_pR C (by decide) rfl rfl fX7_init_65 tyX7_ok nmX7 (Or.inr ⟨rfl, hnm, rfl⟩) rfl rfl (by decide) dX7_init_120 ?_
  refine N_mem (M' := mem19) rfl ?_
  refine N_aloadn C dX7_init_123 0 rfl rfl ?_
  refine N_bipush C dX7_init_124 (by decide) ?_
  refine N_newI (len := 6) C mem19_Z rfl (by decide +kernel) (by decide) (by decide) (Nat.le_of_ble_eq_true rfl) (Nat.le_of_ble_eq_true rfl) dX7_init_126 ?_
  refine N_pR C (by decide) rfl rfl fX7_init_69 tyX7_ok nmX7 (Or.inr ⟨rfl, hnm, rfl⟩) rfl rfl (by decide) dX7_init_128 ?_
  refine N_mem (M' := mem20) rfl ?_
  refine N_aloadn C dX7_init_131 0 rfl rfl ?_
  refine N_bipush C dX7_init_132 (by decide) ?_
  refine N_newI (len := 6) C mem20_Z rfl (by decide +kernel) (by decide) (by decide) (Nat.le_of_ble_eq_true rfl) (Nat.le_of_ble_eq_true rfl) dX7_init_134 ?_
  refine N_pR C (by decide) rfl rfl fX7_init_73 tyX7_ok nmX7 (Or.inr ⟨rfl, hnm, rfl⟩) rfl rfl (by decide) dX7_init_136 ?_
  refine N_mem (M' := mem21) rfl ?_
  refine N_aloadn C dX7_init_139 0 rfl rfl ?_
  refine N_iconst C dX7_init_140 ?_
  refine N_pI C (by decide) rfl rfl rfl rfl fX7_init_76 tyX7_ok nmX7 rfl (Or.inl rfl) (by decide) dX7_init_141 ?_
  refine N_mem (M' := mem22) rfl ?_
  refine N_aloadn C dX7_init_144 0 rfl rfl ?_
  refine N_iconst C dX7_init_145 ?_
  refine N_pI C (by decide) rfl rfl rfl rfl fX7_init_80 tyX7_ok nmX7 rfl (Or.inr ⟨rfl, by omega⟩) (by decide) dX7_init_146 ?_
  refine N_mem (M' := mem23) rfl ?_
  refine N_aloadn C dX7_init_149 0 rfl rfl ?_
  refine N_iconst C dX7_init_150 ?_
  refine N_pI C (by decide) rfl rfl rfl rfl fX7_init_84 tyX7_ok nmX7 rfl (Or.inr ⟨rfl, by omega⟩) (by decide) dX7_init_151 ?_
  refine N_mem (M' := mem24) rfl ?_
  exact N_vret C dX7_init_154 rfl rfl
