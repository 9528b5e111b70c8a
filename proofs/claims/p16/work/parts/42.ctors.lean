theorem uX0_init_0 : ∀ w ∈ u_ws RX0 TX0 4, w ∈ wsX0_init := by decide +kernel
theorem fX0_init_9 : Fl RX0 wsX0_init 0 0 9 RX0 TX0 4 := ⟨rfl, by decide, uX0_init_0, by decide +kernel⟩
theorem fX0_init_15 : Fl RX0 wsX0_init 0 1 15 RX0 TX0 4 := ⟨rfl, by decide, uX0_init_0, by decide +kernel⟩
theorem fX0_init_19 : Fl RX0 wsX0_init 0 2 19 RX0 TX0 4 := ⟨rfl, by decide, uX0_init_0, by decide +kernel⟩
theorem fX0_init_22 : Fl RX0 wsX0_init 0 3 22 RX0 TX0 4 := ⟨rfl, by decide, uX0_init_0, by decide +kernel⟩
/-- the memory behind the constructor -/
def mX0_init (M : Mem) (n a : Nat) : Mem := (sR (sR (sR (sI M a 0 0) a 1 (some n)) a 2 (some (n + 1))) a 3 (some (n + 1 + 1)))
set_option maxHeartbeats 4000000 in
theorem kX0_init {M : Mem} {n a : Nat} (hn : a < n) (ha : kd a = 13) (h0 : kd (n) = 14) (h1 : kd (n + 1) = 15) (h2 : kd (n + 1 + 1) = 16) (Z : Zr M n) : Cn yX0_init wsX0_init 1 3 18 n (n + 1 + 1 + 1) [.ref a] M (mX0_init M n a ) := by
  refine Cn_of (cc := cX0_init) (nL := 1) (rt := none) (own := RX0) rfl rfl (by decide) rfl (Nat.le_of_ble_eq_true rfl) ?_
  intro p l e s m args below meth c G C hnm hNc
  refine N_lv (lv' := [(0, .ref a)]) rfl ?_
  refine N_aloadn C dX0_init_0 0 rfl rfl ?_
  refine N_obj C (by decide +kernel) (by decide +kernel) (by decide +kernel) dX0_init_1 (Nat.le_of_ble_eq_true rfl) (Nat.le_of_ble_eq_true rfl) ?_
  refine N_aloadn C dX0_init_4 0 rfl rfl ?_
  refine N_iconst C dX0_init_5 ?_
  refine N_pI C (by omega) (by rw [ha]; rfl) rfl rfl rfl fX0_init_9 tyX0_ok nmX0 rfl (Or.inl rfl) (by decide) dX0_init_6 ?_
  have Z1 := Zr_sI (a := a) (k := 0) (z := 0) (by omega) Z
  refine N_aloadn C dX0_init_9 0 rfl rfl ?_
  refine N_bipush C dX0_init_10 (by decide) ?_
  refine N_newI (len := 6) C Z1 (by rw [h0]; rfl) (by decide +kernel) (by decide) (by decide) (Nat.le_of_ble_eq_true rfl) (Nat.le_of_ble_eq_true rfl) dX0_init_12 ?_
  have Z2 := Zr_up Z1 (Nat.le_succ _)
  refine N_pR C (by omega) (by rw [ha]; rfl) rfl fX0_init_15 tyX0_ok nmX0 (Or.inr ⟨rfl, hnm, rfl⟩) rfl rfl (by decide) dX0_init_14 ?_
  have Z3 := Zr_sR (a := a) (k := 1) (z := some n) (by omega) Z2
  refine N_aloadn C dX0_init_17 0 rfl rfl ?_
  refine N_bipush C dX0_init_18 (by decide) ?_
  refine N_newI (len := 6) C Z3 (by rw [h1]; rfl) (by decide +kernel) (by decide) (by decide) (Nat.le_of_ble_eq_true rfl) (Nat.le_of_ble_eq_true rfl) dX0_init_20 ?_
  have Z4 := Zr_up Z3 (Nat.le_succ _)
  refine N_pR C (by omega) (by rw [ha]; rfl) rfl fX0_init_19 tyX0_ok nmX0 (Or.inr ⟨rfl, hnm, rfl⟩) rfl rfl (by decide) dX0_init_22 ?_
  have Z5 := Zr_sR (a := a) (k := 2) (z := some (n + 1)) (by omega) Z4
  refine N_aloadn C dX0_init_25 0 rfl rfl ?_
  refine N_bipush C dX0_init_26 (by decide) ?_
  refine N_newI (len := 6) C Z5 (by rw [h2]; rfl) (by decide +kernel) (by decide) (by decide) (Nat.le_of_ble_eq_true rfl) (Nat.le_of_ble_eq_true rfl) dX0_init_28 ?_
  have Z6 := Zr_up Z5 (Nat.le_succ _)
  refine N_pR C (by omega) (by rw [ha]; rfl) rfl fX0_init_22 tyX0_ok nmX0 (Or.inr ⟨rfl, hnm, rfl⟩) rfl rfl (by decide) dX0_init_30 ?_
  have Z7 := Zr_sR (a := a) (k := 3) (z := some (n + 1 + 1)) (by omega) Z6
  exact N_vret C dX0_init_33 rfl rfl

theorem uX1_init_1 : ∀ w ∈ u_ws RX1 TX1 9, w ∈ wsX1_init := by decide +kernel
theorem fX1_init_9 : Fl RX1 wsX1_init 1 1 9 RX1 TX1 9 := ⟨rfl, by decide, uX1_init_1, by decide +kernel⟩
theorem fX1_init_15 : Fl RX1 wsX1_init 1 2 15 RX1 TX1 9 := ⟨rfl, by decide, uX1_init_1, by decide +kernel⟩
theorem fX1_init_18 : Fl RX1 wsX1_init 1 3 18 RX1 TX1 9 := ⟨rfl, by decide, uX1_init_1, by decide +kernel⟩
theorem fX1_init_21 : Fl RX1 wsX1_init 1 4 21 RX1 TX1 9 := ⟨rfl, by decide, uX1_init_1, by decide +kernel⟩
theorem fX1_init_24 : Fl RX1 wsX1_init 1 6 24 RX1 TX1 9 := ⟨rfl, by decide, uX1_init_1, by decide +kernel⟩
theorem fX1_init_28 : Fl RX1 wsX1_init 1 7 28 RX1 TX1 9 := ⟨rfl, by decide, uX1_init_1, by decide +kernel⟩
theorem fX1_init_31 : Fl RX1 wsX1_init 1 8 31 RX1 TX1 9 := ⟨rfl, by decide, uX1_init_1, by decide +kernel⟩
theorem fX1_init_35 : Fl RX1 wsX1_init 1 5 35 RX1 TX1 9 := ⟨rfl, by decide, uX1_init_1, by decide +kernel⟩
theorem fX1_init_39 : Fl RX1 wsX1_init 1 0 39 RX1 TX1 9 := ⟨rfl, by decide, uX1_init_1, by decide +kernel⟩
/-- the memory behind the constructor -/
def mX1_init (M : Mem) (n a e1 c1 : Nat) : Mem := (sR (sR (sI (sR (sR (sI (sI (sI (sI M a 1 0) a 2 0) a 3 0) a 4 0) a 6 (some n)) a 7 (some (n + 1))) a 8 0) a 5 (some e1)) a 0 (some c1))
set_option maxHeartbeats 4000000 in
theorem kX1_init {M : Mem} {n a e1 c1 : Nat} (hn : a < n) (ha : kd a = 8) (h0 : kd (n) = 10) (h1 : kd (n + 1) = 11) (Z : Zr M n) : Cn yX1_init wsX1_init 1 2 150 n (n + 1 + 1) [.ref a, .ref e1, .ref c1] M (mX1_init M n a e1 c1) := by
  refine Cn_of (cc := cX1_init) (nL := 3) (rt := none) (own := RX1) rfl rfl (by decide) rfl (Nat.le_of_ble_eq_true rfl) ?_
  intro p l e s m args below meth c G C hnm hNc
  refine N_lv (lv' := [(0, .ref a), (1, .ref e1), (2, .ref c1)]) rfl ?_
  refine N_aloadn C dX1_init_0 0 rfl rfl ?_
  refine N_obj C (by decide +kernel) (by decide +kernel) (by decide +kernel) dX1_init_1 (Nat.le_of_ble_eq_true rfl) (Nat.le_of_ble_eq_true rfl) ?_
  refine N_aloadn C dX1_init_4 0 rfl rfl ?_
  refine N_iconst C dX1_init_5 ?_
  refine N_pI C (by omega) (by rw [ha]; rfl) rfl rfl rfl fX1_init_9 tyX1_ok nmX1 rfl (Or.inl rfl) (by decide) dX1_init_6 ?_
  have Z1 := Zr_sI (a := a) (k := 1) (z := 0) (by omega) Z
  refine N_aloadn C dX1_init_9 0 rfl rfl ?_
  refine N_iconst C dX1_init_10 ?_
  refine N_pI C (by omega) (by rw [ha]; rfl) rfl rfl rfl fX1_init_15 tyX1_ok nmX1 rfl (Or.inl rfl) (by decide) dX1_init_11 ?_
  have Z2 := Zr_sI (a := a) (k := 2) (z := 0) (by omega) Z1
  refine N_aloadn C dX1_init_14 0 rfl rfl ?_
  refine N_iconst C dX1_init_15 ?_
  refine N_pI C (by omega) (by rw [ha]; rfl) rfl rfl rfl fX1_init_18 tyX1_ok nmX1 rfl (Or.inl rfl) (by decide) dX1_init_16 ?_
  have Z3 := Zr_sI (a := a) (k := 3) (z := 0) (by omega) Z2
  refine N_aloadn C dX1_init_19 0 rfl rfl ?_
  refine N_iconst C dX1_init_20 ?_
  refine N_pI C (by omega) (by rw [ha]; rfl) rfl rfl rfl fX1_init_21 tyX1_ok nmX1 rfl (Or.inl rfl) (by decide) dX1_init_21 ?_
  have Z4 := Zr_sI (a := a) (k := 4) (z := 0) (by omega) Z3
  refine N_aloadn C dX1_init_24 0 rfl rfl ?_
  refine N_bipush C dX1_init_25 (by decide) ?_
  refine N_newI (len := 25) C Z4 (by rw [h0]; rfl) (by decide +kernel) (by decide) (by decide) (Nat.le_of_ble_eq_true rfl) (Nat.le_of_ble_eq_true rfl) dX1_init_27 ?_
  have Z5 := Zr_up Z4 (Nat.le_succ _)
  refine N_pR C (by omega) (by rw [ha]; rfl) rfl fX1_init_24 tyX1_ok nmX1 (Or.inr ⟨rfl, hnm, rfl⟩) rfl rfl (by decide) dX1_init_29 ?_
  have Z6 := Zr_sR (a := a) (k := 6) (z := some n) (by omega) Z5
  refine N_aloadn C dX1_init_32 0 rfl rfl ?_
  refine N_bipush C dX1_init_33 (by decide) ?_
  refine N_newI (len := 125) C Z6 (by rw [h1]; rfl) (by decide +kernel) (by decide) (by decide) (Nat.le_of_ble_eq_true rfl) (Nat.le_of_ble_eq_true rfl) dX1_init_35 ?_
  have Z7 := Zr_up Z6 (Nat.le_succ _)
  refine N_pR C (by omega) (by rw [ha]; rfl) rfl fX1_init_28 tyX1_ok nmX1 (Or.inr ⟨rfl, hnm, rfl⟩) rfl rfl (by decide) dX1_init_37 ?_
  have Z8 := Zr_sR (a := a) (k := 7) (z := some (n + 1)) (by omega) Z7
  refine N_aloadn C dX1_init_40 0 rfl rfl ?_
  refine N_iconst C dX1_init_41 ?_
  refine N_pI C (by omega) (by rw [ha]; rfl) rfl rfl rfl fX1_init_31 tyX1_ok nmX1 rfl (Or.inr ⟨rfl, by omega⟩) (by decide) dX1_init_42 ?_
  have Z9 := Zr_sI (a := a) (k := 8) (z := 0) (by omega) Z8
  refine N_aloadn C dX1_init_45 0 rfl rfl ?_
  refine N_aloadn C dX1_init_46 1 rfl rfl ?_
  refine N_pR C (by omega) (by rw [ha]; rfl) rfl fX1_init_35 tyX1_ok nmX1 (Or.inr ⟨rfl, hnm, rfl⟩) rfl rfl (by decide) dX1_init_47 ?_
  have Z10 := Zr_sR (a := a) (k := 5) (z := some e1) (by omega) Z9
  refine N_aloadn C dX1_init_50 0 rfl rfl ?_
  refine N_aloadn C dX1_init_51 2 rfl rfl ?_
  refine N_pR C (by omega) (by rw [ha]; rfl) rfl fX1_init_39 tyX1_ok nmX1 (Or.inr ⟨rfl, hnm, rfl⟩) rfl rfl (by decide) dX1_init_52 ?_
  have Z11 := Zr_sR (a := a) (k := 0) (z := some c1) (by omega) Z10
  exact N_vret C dX1_init_55 rfl rfl

theorem uX2_init_2 : ∀ w ∈ u_ws RX2 TX2 5, w ∈ wsX2_init := by decide +kernel
theorem fX2_init_9 : Fl RX2 wsX2_init 2 0 9 RX2 TX2 5 := ⟨rfl, by decide, uX2_init_2, by decide +kernel⟩
theorem fX2_init_15 : Fl RX2 wsX2_init 2 1 15 RX2 TX2 5 := ⟨rfl, by decide, uX2_init_2, by decide +kernel⟩
theorem fX2_init_18 : Fl RX2 wsX2_init 2 2 18 RX2 TX2 5 := ⟨rfl, by decide, uX2_init_2, by decide +kernel⟩
theorem fX2_init_21 : Fl RX2 wsX2_init 2 3 21 RX2 TX2 5 := ⟨rfl, by decide, uX2_init_2, by decide +kernel⟩
theorem fX2_init_25 : Fl RX2 wsX2_init 2 4 25 RX2 TX2 5 := ⟨rfl, by decide, uX2_init_2, by decide +kernel⟩
/-- the memory behind the constructor -/
def mX2_init (M : Mem) (n a : Nat) : Mem := (sI (sR (sR (sR (sR M a 0 (some n)) a 1 (some (n + 1))) a 2 (some (n + 1 + 1))) a 3 (some (n + 1 + 1 + 1))) a 4 0)
set_option maxHeartbeats 4000000 in
theorem kX2_init {M : Mem} {n a : Nat} (hn : a < n) (ha : kd a = 1) (h0 : kd (n) = 2) (h1 : kd (n + 1) = 3) (h2 : kd (n + 1 + 1) = 4) (h3 : kd (n + 1 + 1 + 1) = 5) (Z : Zr M n) : Cn yX2_init wsX2_init 1 4 24 n (n + 1 + 1 + 1 + 1) [.ref a] M (mX2_init M n a ) := by
  refine Cn_of (cc := cX2_init) (nL := 1) (rt := none) (own := RX2) rfl rfl (by decide) rfl (Nat.le_of_ble_eq_true rfl) ?_
  intro p l e s m args below meth c G C hnm hNc
  refine N_lv (lv' := [(0, .ref a)]) rfl ?_
  refine N_aloadn C dX2_init_0 0 rfl rfl ?_
  refine N_obj C (by decide +kernel) (by decide +kernel) (by decide +kernel) dX2_init_1 (Nat.le_of_ble_eq_true rfl) (Nat.le_of_ble_eq_true rfl) ?_
  refine N_aloadn C dX2_init_4 0 rfl rfl ?_
  refine N_bipush C dX2_init_5 (by decide) ?_
  refine N_newI (len := 6) C Z (by rw [h0]; rfl) (by decide +kernel) (by decide) (by decide) (Nat.le_of_ble_eq_true rfl) (Nat.le_of_ble_eq_true rfl) dX2_init_7 ?_
  have Z1 := Zr_up Z (Nat.le_succ _)
  refine N_pR C (by omega) (by rw [ha]; rfl) rfl fX2_init_9 tyX2_ok nmX2 (Or.inr ⟨rfl, hnm, rfl⟩) rfl rfl (by decide) dX2_init_9 ?_
  have Z2 := Zr_sR (a := a) (k := 0) (z := some n) (by omega) Z1
  refine N_aloadn C dX2_init_12 0 rfl rfl ?_
  refine N_bipush C dX2_init_13 (by decide) ?_
  refine N_newI (len := 6) C Z2 (by rw [h1]; rfl) (by decide +kernel) (by decide) (by decide) (Nat.le_of_ble_eq_true rfl) (Nat.le_of_ble_eq_true rfl) dX2_init_15 ?_
  have Z3 := Zr_up Z2 (Nat.le_succ _)
  refine N_pR C (by omega) (by rw [ha]; rfl) rfl fX2_init_15 tyX2_ok nmX2 (Or.inr ⟨rfl, hnm, rfl⟩) rfl rfl (by decide) dX2_init_17 ?_
  have Z4 := Zr_sR (a := a) (k := 1) (z := some (n + 1)) (by omega) Z3
  refine N_aloadn C dX2_init_20 0 rfl rfl ?_
  refine N_bipush C dX2_init_21 (by decide) ?_
  refine N_newI (len := 6) C Z4 (by rw [h2]; rfl) (by decide +kernel) (by decide) (by decide) (Nat.le_of_ble_eq_true rfl) (Nat.le_of_ble_eq_true rfl) dX2_init_23 ?_
  have Z5 := Zr_up Z4 (Nat.le_succ _)
  refine N_pR C (by omega) (by rw [ha]; rfl) rfl fX2_init_18 tyX2_ok nmX2 (Or.inr ⟨rfl, hnm, rfl⟩) rfl rfl (by decide) dX2_init_25 ?_
  have Z6 := Zr_sR (a := a) (k := 2) (z := some (n + 1 + 1)) (by omega) Z5
  refine N_aloadn C dX2_init_28 0 rfl rfl ?_
  refine N_bipush C dX2_init_29 (by decide) ?_
  refine N_newZ (len := 6) C Z6 (by rw [h3]; rfl) (by decide +kernel) (by decide) (by decide) (Nat.le_of_ble_eq_true rfl) (Nat.le_of_ble_eq_true rfl) dX2_init_31 ?_
  have Z7 := Zr_up Z6 (Nat.le_succ _)
  refine N_pR C (by omega) (by rw [ha]; rfl) rfl fX2_init_21 tyX2_ok nmX2 (Or.inr ⟨rfl, hnm, rfl⟩) rfl rfl (by decide) dX2_init_33 ?_
  have Z8 := Zr_sR (a := a) (k := 3) (z := some (n + 1 + 1 + 1)) (by omega) Z7
  refine N_aloadn C dX2_init_36 0 rfl rfl ?_
  refine N_iconst C dX2_init_37 ?_
  refine N_pI C (by omega) (by rw [ha]; rfl) rfl rfl rfl fX2_init_25 tyX2_ok nmX2 rfl (Or.inl rfl) (by decide) dX2_init_38 ?_
  have Z9 := Zr_sI (a := a) (k := 4) (z := 0) (by omega) Z8
  exact N_vret C dX2_init_41 rfl rfl

theorem uX3_init_3 : ∀ w ∈ u_ws RX3 TX3 2, w ∈ wsX3_init := by decide +kernel
theorem fX3_init_7 : Fl RX3 wsX3_init 3 0 7 RX3 TX3 2 := ⟨rfl, by decide, uX3_init_3, by decide +kernel⟩
theorem fX3_init_13 : Fl RX3 wsX3_init 3 1 13 RX3 TX3 2 := ⟨rfl, by decide, uX3_init_3, by decide +kernel⟩
/-- the memory behind the constructor -/
def mX3_init (M : Mem) (n a : Nat) : Mem := (sL (sL M a 0 0) a 1 1)
set_option maxHeartbeats 4000000 in
theorem kX3_init {M : Mem} {n a : Nat} (hn : a < n) (ha : kd a = 23)  (Z : Zr M n) : Cn yX3_init wsX3_init 1 0 0 n (n) [.ref a] M (mX3_init M n a ) := by
  refine Cn_of (cc := cX3_init) (nL := 1) (rt := none) (own := RX3) rfl rfl (by decide) rfl (Nat.le_of_ble_eq_true rfl) ?_
  intro p l e s m args below meth c G C hnm hNc
  refine N_lv (lv' := [(0, .ref a)]) rfl ?_
  refine N_aloadn C dX3_init_0 0 rfl rfl ?_
  refine N_obj C (by decide +kernel) (by decide +kernel) (by decide +kernel) dX3_init_1 (Nat.le_of_ble_eq_true rfl) (Nat.le_of_ble_eq_true rfl) ?_
  refine N_aloadn C dX3_init_4 0 rfl rfl ?_
  refine N_lconst0 C dX3_init_5 ?_
  refine N_pL C (by omega) (by rw [ha]; rfl) rfl fX3_init_7 tyX3_ok nmX3 rfl rfl (by decide) dX3_init_6 ?_
  have Z1 := Zr_sL (a := a) (k := 0) (z := 0) (by omega) Z
  refine N_aloadn C dX3_init_9 0 rfl rfl ?_
  refine N_lconst1 C dX3_init_10 ?_
  refine N_pL C (by omega) (by rw [ha]; rfl) rfl fX3_init_13 tyX3_ok nmX3 rfl rfl (by decide) dX3_init_11 ?_
  have Z2 := Zr_sL (a := a) (k := 1) (z := 1) (by omega) Z1
  exact N_vret C dX3_init_14 rfl rfl

theorem uX6_init_6 : ∀ w ∈ u_ws RX6 TX6 7, w ∈ wsX6_init := by decide +kernel
theorem fX6_init_9 : Fl RX6 wsX6_init 6 1 9 RX6 TX6 7 := ⟨rfl, by decide, uX6_init_6, by decide +kernel⟩
theorem fX6_init_15 : Fl RX6 wsX6_init 6 2 15 RX6 TX6 7 := ⟨rfl, by decide, uX6_init_6, by decide +kernel⟩
theorem fX6_init_18 : Fl RX6 wsX6_init 6 3 18 RX6 TX6 7 := ⟨rfl, by decide, uX6_init_6, by decide +kernel⟩
theorem fX6_init_22 : Fl RX6 wsX6_init 6 4 22 RX6 TX6 7 := ⟨rfl, by decide, uX6_init_6, by decide +kernel⟩
theorem fX6_init_25 : Fl RX6 wsX6_init 6 5 25 RX6 TX6 7 := ⟨rfl, by decide, uX6_init_6, by decide +kernel⟩
theorem fX6_init_29 : Fl RX6 wsX6_init 6 6 29 RX6 TX6 7 := ⟨rfl, by decide, uX6_init_6, by decide +kernel⟩
theorem fX6_init_33 : Fl RX6 wsX6_init 6 0 33 RX6 TX6 7 := ⟨rfl, by decide, uX6_init_6, by decide +kernel⟩
/-- the memory behind the constructor -/
def mX6_init (M : Mem) (n a g1 : Nat) : Mem := (sR (sI (sI (sL (sL (sR (sR M a 1 (some n)) a 2 (some (n + 1))) a 3 0) a 4 1) a 5 2) a 6 1) a 0 (some g1))
set_option maxHeartbeats 4000000 in
theorem kX6_init {M : Mem} {n a g1 : Nat} (hn : a < n) (ha : kd a = 17) (h0 : kd (n) = 18) (h1 : kd (n + 1) = 19) (Z : Zr M n) : Cn yX6_init wsX6_init 1 2 337 n (n + 1 + 1) [.ref a, .ref g1] M (mX6_init M n a g1) := by
  refine Cn_of (cc := cX6_init) (nL := 2) (rt := none) (own := RX6) rfl rfl (by decide) rfl (Nat.le_of_ble_eq_true rfl) ?_
  intro p l e s m args below meth c G C hnm hNc
  refine N_lv (lv' := [(0, .ref a), (1, .ref g1)]) rfl ?_
  refine N_aloadn C dX6_init_0 0 rfl rfl ?_
  refine N_obj C (by decide +kernel) (by decide +kernel) (by decide +kernel) dX6_init_1 (Nat.le_of_ble_eq_true rfl) (Nat.le_of_ble_eq_true rfl) ?_
  refine N_aloadn C dX6_init_4 0 rfl rfl ?_
  refine N_sipush C dX6_init_5 (by decide) ?_
  refine N_newL (len := 325) C Z (by rw [h0]; rfl) (by decide +kernel) (by decide) (by decide) (Nat.le_of_ble_eq_true rfl) (Nat.le_of_ble_eq_true rfl) dX6_init_8 ?_
  have Z1 := Zr_up Z (Nat.le_succ _)
  refine N_pR C (by omega) (by rw [ha]; rfl) rfl fX6_init_9 tyX6_ok nmX6 (Or.inr ⟨rfl, hnm, rfl⟩) rfl rfl (by decide) dX6_init_10 ?_
  have Z2 := Zr_sR (a := a) (k := 1) (z := some n) (by omega) Z1
  refine N_aloadn C dX6_init_13 0 rfl rfl ?_
  refine N_bipush C dX6_init_14 (by decide) ?_
  refine N_newL (len := 12) C Z2 (by rw [h1]; rfl) (by decide +kernel) (by decide) (by decide) (Nat.le_of_ble_eq_true rfl) (Nat.le_of_ble_eq_true rfl) dX6_init_16 ?_
  have Z3 := Zr_up Z2 (Nat.le_succ _)
  refine N_pR C (by omega) (by rw [ha]; rfl) rfl fX6_init_15 tyX6_ok nmX6 (Or.inr ⟨rfl, hnm, rfl⟩) rfl rfl (by decide) dX6_init_18 ?_
  have Z4 := Zr_sR (a := a) (k := 2) (z := some (n + 1)) (by omega) Z3
  refine N_aloadn C dX6_init_21 0 rfl rfl ?_
  refine N_lconst0 C dX6_init_22 ?_
  refine N_pL C (by omega) (by rw [ha]; rfl) rfl fX6_init_18 tyX6_ok nmX6 rfl rfl (by decide) dX6_init_23 ?_
  have Z5 := Zr_sL (a := a) (k := 3) (z := 0) (by omega) Z4
  refine N_aloadn C dX6_init_26 0 rfl rfl ?_
  refine N_lconst1 C dX6_init_27 ?_
  refine N_pL C (by omega) (by rw [ha]; rfl) rfl fX6_init_22 tyX6_ok nmX6 rfl rfl (by decide) dX6_init_28 ?_
  have Z6 := Zr_sL (a := a) (k := 4) (z := 1) (by omega) Z5
  refine N_aloadn C dX6_init_31 0 rfl rfl ?_
  refine N_iconst C dX6_init_32 ?_
  refine N_pI C (by omega) (by rw [ha]; rfl) rfl rfl rfl fX6_init_25 tyX6_ok nmX6 rfl (Or.inl rfl) (by decide) dX6_init_33 ?_
  have Z7 := Zr_sI (a := a) (k := 5) (z := 2) (by omega) Z6
  refine N_aloadn C dX6_init_36 0 rfl rfl ?_
  refine N_iconst C dX6_init_37 ?_
  refine N_pI C (by omega) (by rw [ha]; rfl) rfl rfl rfl fX6_init_29 tyX6_ok nmX6 rfl (Or.inr ⟨rfl, by omega⟩) (by decide) dX6_init_38 ?_
  have Z8 := Zr_sI (a := a) (k := 6) (z := 1) (by omega) Z7
  refine N_aloadn C dX6_init_41 0 rfl rfl ?_
  refine N_aloadn C dX6_init_42 1 rfl rfl ?_
  refine N_pR C (by omega) (by rw [ha]; rfl) rfl fX6_init_33 tyX6_ok nmX6 (Or.inl rfl) rfl rfl (by decide) dX6_init_43 ?_
  have Z9 := Zr_sR (a := a) (k := 0) (z := some g1) (by omega) Z8
  exact N_vret C dX6_init_46 rfl rfl

theorem uX8_init_8 : ∀ w ∈ u_ws RX8 TX8 35, w ∈ wsX8_init := by decide +kernel
theorem fX8_init_7 : Fl RX8 wsX8_init 8 0 7 RX8 TX8 35 := ⟨rfl, by decide, uX8_init_8, by decide +kernel⟩
theorem fX8_init_13 : Fl RX8 wsX8_init 8 2 13 RX8 TX8 35 := ⟨rfl, by decide, uX8_init_8, by decide +kernel⟩
theorem fX8_init_17 : Fl RX8 wsX8_init 8 3 17 RX8 TX8 35 := ⟨rfl, by decide, uX8_init_8, by decide +kernel⟩
theorem fX8_init_20 : Fl RX8 wsX8_init 8 4 20 RX8 TX8 35 := ⟨rfl, by decide, uX8_init_8, by decide +kernel⟩
theorem fX8_init_23 : Fl RX8 wsX8_init 8 5 23 RX8 TX8 35 := ⟨rfl, by decide, uX8_init_8, by decide +kernel⟩
theorem fX8_init_27 : Fl RX8 wsX8_init 8 6 27 RX8 TX8 35 := ⟨rfl, by decide, uX8_init_8, by decide +kernel⟩
theorem fX8_init_30 : Fl RX8 wsX8_init 8 7 30 RX8 TX8 35 := ⟨rfl, by decide, uX8_init_8, by decide +kernel⟩
theorem fX8_init_33 : Fl RX8 wsX8_init 8 8 33 RX8 TX8 35 := ⟨rfl, by decide, uX8_init_8, by decide +kernel⟩
theorem fX8_init_36 : Fl RX8 wsX8_init 8 9 36 RX8 TX8 35 := ⟨rfl, by decide, uX8_init_8, by decide +kernel⟩
theorem fX8_init_39 : Fl RX8 wsX8_init 8 10 39 RX8 TX8 35 := ⟨rfl, by decide, uX8_init_8, by decide +kernel⟩
theorem fX8_init_42 : Fl RX8 wsX8_init 8 13 42 RX8 TX8 35 := ⟨rfl, by decide, uX8_init_8, by decide +kernel⟩
theorem fX8_init_45 : Fl RX8 wsX8_init 8 14 45 RX8 TX8 35 := ⟨rfl, by decide, uX8_init_8, by decide +kernel⟩
theorem fX8_init_48 : Fl RX8 wsX8_init 8 15 48 RX8 TX8 35 := ⟨rfl, by decide, uX8_init_8, by decide +kernel⟩
theorem fX8_init_51 : Fl RX8 wsX8_init 8 16 51 RX8 TX8 35 := ⟨rfl, by decide, uX8_init_8, by decide +kernel⟩
theorem fX8_init_54 : Fl RX8 wsX8_init 8 18 54 RX8 TX8 35 := ⟨rfl, by decide, uX8_init_8, by decide +kernel⟩
theorem fX8_init_57 : Fl RX8 wsX8_init 8 20 57 RX8 TX8 35 := ⟨rfl, by decide, uX8_init_8, by decide +kernel⟩
theorem fX8_init_61 : Fl RX8 wsX8_init 8 21 61 RX8 TX8 35 := ⟨rfl, by decide, uX8_init_8, by decide +kernel⟩
theorem fX8_init_64 : Fl RX8 wsX8_init 8 22 64 RX8 TX8 35 := ⟨rfl, by decide, uX8_init_8, by decide +kernel⟩
theorem fX8_init_67 : Fl RX8 wsX8_init 8 31 67 RX8 TX8 35 := ⟨rfl, by decide, uX8_init_8, by decide +kernel⟩
theorem fX8_init_70 : Fl RX8 wsX8_init 8 32 70 RX8 TX8 35 := ⟨rfl, by decide, uX8_init_8, by decide +kernel⟩
theorem fX8_init_73 : Fl RX8 wsX8_init 8 33 73 RX8 TX8 35 := ⟨rfl, by decide, uX8_init_8, by decide +kernel⟩
/-- the memory behind the constructor -/
def mX8_init (M : Mem) (n a : Nat) : Mem := (sR (sR (sR (sR (sR (sR (sR (sI (sR (sR (sR (sR (sR (sR (sR (sR (sR (sR (sR (sR (sI M a 0 2) a 2 (some n)) a 3 (some (n + 1))) a 4 (some (n + 1 + 1))) a 5 (some (n + 1 + 1 + 1))) a 6 (some (n + 1 + 1 + 1 + 1))) a 7 (some (n + 1 + 1 + 1 + 1 + 1))) a 8 (some (n + 1 + 1 + 1 + 1 + 1 + 1))) a 9 (some (n + 1 + 1 + 1 + 1 + 1 + 1 + 1))) a 10 (some (n + 1 + 1 + 1 + 1 + 1 + 1 + 1 + 1))) a 13 (some (n + 1 + 1 + 1 + 1 + 1 + 1 + 1 + 1 + 1))) a 14 (some (n + 1 + 1 + 1 + 1 + 1 + 1 + 1 + 1 + 1 + 1))) a 15 (some (n + 1 + 1 + 1 + 1 + 1 + 1 + 1 + 1 + 1 + 1 + 1))) a 16 (-1)) a 18 (some (n + 1 + 1 + 1 + 1 + 1 + 1 + 1 + 1 + 1 + 1 + 1 + 1))) a 20 (some (n + 1 + 1 + 1 + 1 + 1 + 1 + 1 + 1 + 1 + 1 + 1 + 1 + 1))) a 21 (some (n + 1 + 1 + 1 + 1 + 1 + 1 + 1 + 1 + 1 + 1 + 1 + 1 + 1 + 1))) a 22 (some (n + 1 + 1 + 1 + 1 + 1 + 1 + 1 + 1 + 1 + 1 + 1 + 1 + 1 + 1 + 1))) a 31 (some (n + 1 + 1 + 1 + 1 + 1 + 1 + 1 + 1 + 1 + 1 + 1 + 1 + 1 + 1 + 1 + 1))) a 32 (some (n + 1 + 1 + 1 + 1 + 1 + 1 + 1 + 1 + 1 + 1 + 1 + 1 + 1 + 1 + 1 + 1 + 1))) a 33 (some (n + 1 + 1 + 1 + 1 + 1 + 1 + 1 + 1 + 1 + 1 + 1 + 1 + 1 + 1 + 1 + 1 + 1 + 1)))
set_option maxHeartbeats 4000000 in
theorem kX8_init {M : Mem} {n a : Nat} (hn : a < n) (ha : kd a = 30) (h0 : kd (n) = 31) (h1 : kd (n + 1) = 32) (h2 : kd (n + 1 + 1) = 33) (h3 : kd (n + 1 + 1 + 1) = 34) (h4 : kd (n + 1 + 1 + 1 + 1) = 35) (h5 : kd (n + 1 + 1 + 1 + 1 + 1) = 36) (h6 : kd (n + 1 + 1 + 1 + 1 + 1 + 1) = 37) (h7 : kd (n + 1 + 1 + 1 + 1 + 1 + 1 + 1) = 38) (h8 : kd (n + 1 + 1 + 1 + 1 + 1 + 1 + 1 + 1) = 39) (h9 : kd (n + 1 + 1 + 1 + 1 + 1 + 1 + 1 + 1 + 1) = 40) (h10 : kd (n + 1 + 1 + 1 + 1 + 1 + 1 + 1 + 1 + 1 + 1) = 41) (h11 : kd (n + 1 + 1 + 1 + 1 + 1 + 1 + 1 + 1 + 1 + 1 + 1) = 42) (h12 : kd (n + 1 + 1 + 1 + 1 + 1 + 1 + 1 + 1 + 1 + 1 + 1 + 1) = 43) (h13 : kd (n + 1 + 1 + 1 + 1 + 1 + 1 + 1 + 1 + 1 + 1 + 1 + 1 + 1) = 44) (h14 : kd (n + 1 + 1 + 1 + 1 + 1 + 1 + 1 + 1 + 1 + 1 + 1 + 1 + 1 + 1) = 45) (h15 : kd (n + 1 + 1 + 1 + 1 + 1 + 1 + 1 + 1 + 1 + 1 + 1 + 1 + 1 + 1 + 1) = 46) (h16 : kd (n + 1 + 1 + 1 + 1 + 1 + 1 + 1 + 1 + 1 + 1 + 1 + 1 + 1 + 1 + 1 + 1) = 47) (h17 : kd (n + 1 + 1 + 1 + 1 + 1 + 1 + 1 + 1 + 1 + 1 + 1 + 1 + 1 + 1 + 1 + 1 + 1) = 48) (h18 : kd (n + 1 + 1 + 1 + 1 + 1 + 1 + 1 + 1 + 1 + 1 + 1 + 1 + 1 + 1 + 1 + 1 + 1 + 1) = 49) (Z : Zr M n) : Cn yX8_init wsX8_init 1 19 1439 n (n + 1 + 1 + 1 + 1 + 1 + 1 + 1 + 1 + 1 + 1 + 1 + 1 + 1 + 1 + 1 + 1 + 1 + 1 + 1) [.ref a] M (mX8_init M n a ) := by
  refine Cn_of (cc := cX8_init) (nL := 1) (rt := none) (own := RX8) rfl rfl (by decide) rfl (Nat.le_of_ble_eq_true rfl) ?_
  intro p l e s m args below meth c G C hnm hNc
  refine N_lv (lv' := [(0, .ref a)]) rfl ?_
  refine N_aloadn C dX8_init_0 0 rfl rfl ?_
  refine N_obj C (by decide +kernel) (by decide +kernel) (by decide +kernel) dX8_init_1 (Nat.le_of_ble_eq_true rfl) (Nat.le_of_ble_eq_true rfl) ?_
  refine N_aloadn C dX8_init_4 0 rfl rfl ?_
  refine N_iconst C dX8_init_5 ?_
  refine N_pI C (by omega) (by rw [ha]; rfl) rfl rfl rfl fX8_init_7 tyX8_ok nmX8 rfl (Or.inl rfl) (by decide) dX8_init_6 ?_
  have Z1 := Zr_sI (a := a) (k := 0) (z := 2) (by omega) Z
  refine N_aloadn C dX8_init_9 0 rfl rfl ?_
  refine N_bipush C dX8_init_10 (by decide) ?_
  refine N_newI (len := 6) C Z1 (by rw [h0]; rfl) (by decide +kernel) (by decide) (by decide) (Nat.le_of_ble_eq_true rfl) (Nat.le_of_ble_eq_true rfl) dX8_init_12 ?_
  have Z2 := Zr_up Z1 (Nat.le_succ _)
  refine N_pR C (by omega) (by rw [ha]; rfl) rfl fX8_init_13 tyX8_ok nmX8 (Or.inr ⟨rfl, hnm, rfl⟩) rfl rfl (by decide) dX8_init_14 ?_
  have Z3 := Zr_sR (a := a) (k := 2) (z := some n) (by omega) Z2
  refine N_aloadn C dX8_init_17 0 rfl rfl ?_
  refine N_bipush C dX8_init_18 (by decide) ?_
  refine N_newI (len := 6) C Z3 (by rw [h1]; rfl) (by decide +kernel) (by decide) (by decide) (Nat.le_of_ble_eq_true rfl) (Nat.le_of_ble_eq_true rfl) dX8_init_20 ?_
  have Z4 := Zr_up Z3 (Nat.le_succ _)
  refine N_pR C (by omega) (by rw [ha]; rfl) rfl fX8_init_17 tyX8_ok nmX8 (Or.inr ⟨rfl, hnm, rfl⟩) rfl rfl (by decide) dX8_init_22 ?_
  have Z5 := Zr_sR (a := a) (k := 3) (z := some (n + 1)) (by omega) Z4
  refine N_aloadn C dX8_init_25 0 rfl rfl ?_
  refine N_bipush C dX8_init_26 (by decide) ?_
  refine N_newI (len := 6) C Z5 (by rw [h2]; rfl) (by decide +kernel) (by decide) (by decide) (Nat.le_of_ble_eq_true rfl) (Nat.le_of_ble_eq_true rfl) dX8_init_28 ?_
  have Z6 := Zr_up Z5 (Nat.le_succ _)
  refine N_pR C (by omega) (by rw [ha]; rfl) rfl fX8_init_20 tyX8_ok nmX8 (Or.inr ⟨rfl, hnm, rfl⟩) rfl rfl (by decide) dX8_init_30 ?_
  have Z7 := Zr_sR (a := a) (k := 4) (z := some (n + 1 + 1)) (by omega) Z6
  refine N_aloadn C dX8_init_33 0 rfl rfl ?_
  refine N_bipush C dX8_init_34 (by decide) ?_
  refine N_newZ (len := 6) C Z7 (by rw [h3]; rfl) (by decide +kernel) (by decide) (by decide) (Nat.le_of_ble_eq_true rfl) (Nat.le_of_ble_eq_true rfl) dX8_init_36 ?_
  have Z8 := Zr_up Z7 (Nat.le_succ _)
  refine N_pR C (by omega) (by rw [ha]; rfl) rfl fX8_init_23 tyX8_ok nmX8 (Or.inr ⟨rfl, hnm, rfl⟩) rfl rfl (by decide) dX8_init_38 ?_
  have Z9 := Zr_sR (a := a) (k := 5) (z := some (n + 1 + 1 + 1)) (by omega) Z8
  refine N_aloadn C dX8_init_41 0 rfl rfl ?_
  refine N_sipush C dX8_init_42 (by decide) ?_
  refine N_newI (len := 288) C Z9 (by rw [h4]; rfl) (by decide +kernel) (by decide) (by decide) (Nat.le_of_ble_eq_true rfl) (Nat.le_of_ble_eq_true rfl) dX8_init_45 ?_
  have Z10 := Zr_up Z9 (Nat.le_succ _)
  refine N_pR C (by omega) (by rw [ha]; rfl) rfl fX8_init_27 tyX8_ok nmX8 (Or.inr ⟨rfl, hnm, rfl⟩) rfl rfl (by decide) dX8_init_47 ?_
  have Z11 := Zr_sR (a := a) (k := 6) (z := some (n + 1 + 1 + 1 + 1)) (by omega) Z10
  refine N_aloadn C dX8_init_50 0 rfl rfl ?_
  refine N_bipush C dX8_init_51 (by decide) ?_
  refine N_newI (len := 24) C Z11 (by rw [h5]; rfl) (by decide +kernel) (by decide) (by decide) (Nat.le_of_ble_eq_true rfl) (Nat.le_of_ble_eq_true rfl) dX8_init_53 ?_
  have Z12 := Zr_up Z11 (Nat.le_succ _)
  refine N_pR C (by omega) (by rw [ha]; rfl) rfl fX8_init_30 tyX8_ok nmX8 (Or.inr ⟨rfl, hnm, rfl⟩) rfl rfl (by decide) dX8_init_55 ?_
  have Z13 := Zr_sR (a := a) (k := 7) (z := some (n + 1 + 1 + 1 + 1 + 1)) (by omega) Z12
  refine N_aloadn C dX8_init_58 0 rfl rfl ?_
  refine N_bipush C dX8_init_59 (by decide) ?_
  refine N_newI (len := 24) C Z13 (by rw [h6]; rfl) (by decide +kernel) (by decide) (by decide) (Nat.le_of_ble_eq_true rfl) (Nat.le_of_ble_eq_true rfl) dX8_init_61 ?_
  have Z14 := Zr_up Z13 (Nat.le_succ _)
  refine N_pR C (by omega) (by rw [ha]; rfl) rfl fX8_init_33 tyX8_ok nmX8 (Or.inr ⟨rfl, hnm, rfl⟩) rfl rfl (by decide) dX8_init_63 ?_
  have Z15 := Zr_sR (a := a) (k := 8) (z := some (n + 1 + 1 + 1 + 1 + 1 + 1)) (by omega) Z14
  refine N_aloadn C dX8_init_66 0 rfl rfl ?_
  refine N_bipush C dX8_init_67 (by decide) ?_
  refine N_newI (len := 24) C Z15 (by rw [h7]; rfl) (by decide +kernel) (by decide) (by decide) (Nat.le_of_ble_eq_true rfl) (Nat.le_of_ble_eq_true rfl) dX8_init_69 ?_
  have Z16 := Zr_up Z15 (Nat.le_succ _)
  refine N_pR C (by omega) (by rw [ha]; rfl) rfl fX8_init_36 tyX8_ok nmX8 (Or.inr ⟨rfl, hnm, rfl⟩) rfl rfl (by decide) dX8_init_71 ?_
  have Z17 := Zr_sR (a := a) (k := 9) (z := some (n + 1 + 1 + 1 + 1 + 1 + 1 + 1)) (by omega) Z16
  refine N_aloadn C dX8_init_74 0 rfl rfl ?_
  refine N_bipush C dX8_init_75 (by decide) ?_
  refine N_newI (len := 24) C Z17 (by rw [h8]; rfl) (by decide +kernel) (by decide) (by decide) (Nat.le_of_ble_eq_true rfl) (Nat.le_of_ble_eq_true rfl) dX8_init_77 ?_
  have Z18 := Zr_up Z17 (Nat.le_succ _)
  refine N_pR C (by omega) (by rw [ha]; rfl) rfl fX8_init_39 tyX8_ok nmX8 (Or.inr ⟨rfl, hnm, rfl⟩) rfl rfl (by decide) dX8_init_79 ?_
  have Z19 := Zr_sR (a := a) (k := 10) (z := some (n + 1 + 1 + 1 + 1 + 1 + 1 + 1 + 1)) (by omega) Z18
  refine N_aloadn C dX8_init_82 0 rfl rfl ?_
  refine N_bipush C dX8_init_83 (by decide) ?_
  refine N_newI (len := 6) C Z19 (by rw [h9]; rfl) (by decide +kernel) (by decide) (by decide) (Nat.le_of_ble_eq_true rfl) (Nat.le_of_ble_eq_true rfl) dX8_init_85 ?_
  have Z20 := Zr_up Z19 (Nat.le_succ _)
  refine N_pR C (by omega) (by rw [ha]; rfl) rfl fX8_init_42 tyX8_ok nmX8 (Or.inr ⟨rfl, hnm, rfl⟩) rfl rfl (by decide) dX8_init_87 ?_
  have Z21 := Zr_sR (a := a) (k := 13) (z := some (n + 1 + 1 + 1 + 1 + 1 + 1 + 1 + 1 + 1)) (by omega) Z20
  refine N_aloadn C dX8_init_90 0 rfl rfl ?_
  refine N_bipush C dX8_init_91 (by decide) ?_
  refine N_newI (len := 6) C Z21 (by rw [h10]; rfl) (by decide +kernel) (by decide) (by decide) (Nat.le_of_ble_eq_true rfl) (Nat.le_of_ble_eq_true rfl) dX8_init_93 ?_
  have Z22 := Zr_up Z21 (Nat.le_succ _)
  refine N_pR C (by omega) (by rw [ha]; rfl) rfl fX8_init_45 tyX8_ok nmX8 (Or.inr ⟨rfl, hnm, rfl⟩) rfl rfl (by decide) dX8_init_95 ?_
  have Z23 := Zr_sR (a := a) (k := 14) (z := some (n + 1 + 1 + 1 + 1 + 1 + 1 + 1 + 1 + 1 + 1)) (by omega) Z22
  refine N_aloadn C dX8_init_98 0 rfl rfl ?_
  refine N_bipush C dX8_init_99 (by decide) ?_
  refine N_newI (len := 6) C Z23 (by rw [h11]; rfl) (by decide +kernel) (by decide) (by decide) (Nat.le_of_ble_eq_true rfl) (Nat.le_of_ble_eq_true rfl) dX8_init_101 ?_
  have Z24 := Zr_up Z23 (Nat.le_succ _)
  refine N_pR C (by omega) (by rw [ha]; rfl) rfl fX8_init_48 tyX8_ok nmX8 (Or.inr ⟨rfl, hnm, rfl⟩) rfl rfl (by decide) dX8_init_103 ?_
  have Z25 := Zr_sR (a := a) (k := 15) (z := some (n + 1 + 1 + 1 + 1 + 1 + 1 + 1 + 1 + 1 + 1 + 1)) (by omega) Z24
  refine N_aloadn C dX8_init_106 0 rfl rfl ?_
  refine N_iconst C dX8_init_107 ?_
  refine N_pI C (by omega) (by rw [ha]; rfl) rfl rfl rfl fX8_init_51 tyX8_ok nmX8 rfl (Or.inl rfl) (by decide) dX8_init_108 ?_
  have Z26 := Zr_sI (a := a) (k := 16) (z := (-1)) (by omega) Z25
  refine N_aloadn C dX8_init_111 0 rfl rfl ?_
  refine N_bipush C dX8_init_112 (by decide) ?_
  refine N_newI (len := 13) C Z26 (by rw [h12]; rfl) (by decide +kernel) (by decide) (by decide) (Nat.le_of_ble_eq_true rfl) (Nat.le_of_ble_eq_true rfl) dX8_init_114 ?_
  have Z27 := Zr_up Z26 (Nat.le_succ _)
  refine N_pR C (by omega) (by rw [ha]; rfl) rfl fX8_init_54 tyX8_ok nmX8 (Or.inr ⟨rfl, hnm, rfl⟩) rfl rfl (by decide) dX8_init_116 ?_
  have Z28 := Zr_sR (a := a) (k := 18) (z := some (n + 1 + 1 + 1 + 1 + 1 + 1 + 1 + 1 + 1 + 1 + 1 + 1)) (by omega) Z27
  refine N_aloadn C dX8_init_119 0 rfl rfl ?_
  refine N_sipush C dX8_init_120 (by decide) ?_
  refine N_newL (len := 325) C Z28 (by rw [h13]; rfl) (by decide +kernel) (by decide) (by decide) (Nat.le_of_ble_eq_true rfl) (Nat.le_of_ble_eq_true rfl) dX8_init_123 ?_
  have Z29 := Zr_up Z28 (Nat.le_succ _)
  refine N_pR C (by omega) (by rw [ha]; rfl) rfl fX8_init_57 tyX8_ok nmX8 (Or.inr ⟨rfl, hnm, rfl⟩) rfl rfl (by decide) dX8_init_125 ?_
  have Z30 := Zr_sR (a := a) (k := 20) (z := some (n + 1 + 1 + 1 + 1 + 1 + 1 + 1 + 1 + 1 + 1 + 1 + 1 + 1)) (by omega) Z29
  refine N_aloadn C dX8_init_128 0 rfl rfl ?_
  refine N_sipush C dX8_init_129 (by decide) ?_
  refine N_newL (len := 325) C Z30 (by rw [h14]; rfl) (by decide +kernel) (by decide) (by decide) (Nat.le_of_ble_eq_true rfl) (Nat.le_of_ble_eq_true rfl) dX8_init_132 ?_
  have Z31 := Zr_up Z30 (Nat.le_succ _)
  refine N_pR C (by omega) (by rw [ha]; rfl) rfl fX8_init_61 tyX8_ok nmX8 (Or.inr ⟨rfl, hnm, rfl⟩) rfl rfl (by decide) dX8_init_134 ?_
  have Z32 := Zr_sR (a := a) (k := 21) (z := some (n + 1 + 1 + 1 + 1 + 1 + 1 + 1 + 1 + 1 + 1 + 1 + 1 + 1 + 1)) (by omega) Z31
  refine N_aloadn C dX8_init_137 0 rfl rfl ?_
  refine N_sipush C dX8_init_138 (by decide) ?_
  refine N_newL (len := 325) C Z32 (by rw [h15]; rfl) (by decide +kernel) (by decide) (by decide) (Nat.le_of_ble_eq_true rfl) (Nat.le_of_ble_eq_true rfl) dX8_init_141 ?_
  have Z33 := Zr_up Z32 (Nat.le_succ _)
  refine N_pR C (by omega) (by rw [ha]; rfl) rfl fX8_init_64 tyX8_ok nmX8 (Or.inr ⟨rfl, hnm, rfl⟩) rfl rfl (by decide) dX8_init_143 ?_
  have Z34 := Zr_sR (a := a) (k := 22) (z := some (n + 1 + 1 + 1 + 1 + 1 + 1 + 1 + 1 + 1 + 1 + 1 + 1 + 1 + 1 + 1)) (by omega) Z33
  refine N_aloadn C dX8_init_146 0 rfl rfl ?_
  refine N_bipush C dX8_init_147 (by decide) ?_
  refine N_newI (len := 13) C Z34 (by rw [h16]; rfl) (by decide +kernel) (by decide) (by decide) (Nat.le_of_ble_eq_true rfl) (Nat.le_of_ble_eq_true rfl) dX8_init_149 ?_
  have Z35 := Zr_up Z34 (Nat.le_succ _)
  refine N_pR C (by omega) (by rw [ha]; rfl) rfl fX8_init_67 tyX8_ok nmX8 (Or.inr ⟨rfl, hnm, rfl⟩) rfl rfl (by decide) dX8_init_151 ?_
  have Z36 := Zr_sR (a := a) (k := 31) (z := some (n + 1 + 1 + 1 + 1 + 1 + 1 + 1 + 1 + 1 + 1 + 1 + 1 + 1 + 1 + 1 + 1)) (by omega) Z35
  refine N_aloadn C dX8_init_154 0 rfl rfl ?_
  refine N_bipush C dX8_init_155 (by decide) ?_
  refine N_newI (len := 6) C Z36 (by rw [h17]; rfl) (by decide +kernel) (by decide) (by decide) (Nat.le_of_ble_eq_true rfl) (Nat.le_of_ble_eq_true rfl) dX8_init_157 ?_
  have Z37 := Zr_up Z36 (Nat.le_succ _)
  refine N_pR C (by omega) (by rw [ha]; rfl) rfl fX8_init_70 tyX8_ok nmX8 (Or.inr ⟨rfl, hnm, rfl⟩) rfl rfl (by decide) dX8_init_159 ?_
  have Z38 := Zr_sR (a := a) (k := 32) (z := some (n + 1 + 1 + 1 + 1 + 1 + 1 + 1 + 1 + 1 + 1 + 1 + 1 + 1 + 1 + 1 + 1 + 1)) (by omega) Z37
  refine N_aloadn C dX8_init_162 0 rfl rfl ?_
  refine N_bipush C dX8_init_163 (by decide) ?_
  refine N_newI (len := 6) C Z38 (by rw [h18]; rfl) (by decide +kernel) (by decide) (by decide) (Nat.le_of_ble_eq_true rfl) (Nat.le_of_ble_eq_true rfl) dX8_init_165 ?_
  have Z39 := Zr_up Z38 (Nat.le_succ _)
  refine N_pR C (by omega) (by rw [ha]; rfl) rfl fX8_init_73 tyX8_ok nmX8 (Or.inr ⟨rfl, hnm, rfl⟩) rfl rfl (by decide) dX8_init_167 ?_
  have Z40 := Zr_sR (a := a) (k := 33) (z := some (n + 1 + 1 + 1 + 1 + 1 + 1 + 1 + 1 + 1 + 1 + 1 + 1 + 1 + 1 + 1 + 1 + 1 + 1)) (by omega) Z39
  exact N_vret C dX8_init_170 rfl rfl

theorem uX5_init_5 : ∀ w ∈ u_ws RX5 TX5 3, w ∈ wsX5_init := by decide +kernel
theorem fX5_init_9 : Fl RX5 wsX5_init 5 0 9 RX5 TX5 3 := ⟨rfl, by decide, uX5_init_5, by decide +kernel⟩
theorem fX5_init_15 : Fl RX5 wsX5_init 5 1 15 RX5 TX5 3 := ⟨rfl, by decide, uX5_init_5, by decide +kernel⟩
theorem fX5_init_19 : Fl RX5 wsX5_init 5 2 19 RX5 TX5 3 := ⟨rfl, by decide, uX5_init_5, by decide +kernel⟩
/-- the memory behind the constructor -/
def mX5_init (M : Mem) (n a : Nat) : Mem := (sI (sI (sR M a 0 (some n)) a 1 0) a 2 0)
set_option maxHeartbeats 4000000 in
theorem kX5_init {M : Mem} {n a : Nat} (hn : a < n) (ha : kd a = 20) (h0 : kd (n) = 22) (Z : Zr M n) : Cn yX5_init wsX5_init 1 1 13 n (n + 1) [.ref a] M (mX5_init M n a ) := by
  refine Cn_of (cc := cX5_init) (nL := 1) (rt := none) (own := RX5) rfl rfl (by decide) rfl (Nat.le_of_ble_eq_true rfl) ?_
  intro p l e s m args below meth c G C hnm hNc
  refine N_lv (lv' := [(0, .ref a)]) rfl ?_
  refine N_aloadn C dX5_init_0 0 rfl rfl ?_
  refine N_obj C (by decide +kernel) (by decide +kernel) (by decide +kernel) dX5_init_1 (Nat.le_of_ble_eq_true rfl) (Nat.le_of_ble_eq_true rfl) ?_
  refine N_aloadn C dX5_init_4 0 rfl rfl ?_
  refine N_bipush C dX5_init_5 (by decide) ?_
  refine N_newI (len := 13) C Z (by rw [h0]; rfl) (by decide +kernel) (by decide) (by decide) (Nat.le_of_ble_eq_true rfl) (Nat.le_of_ble_eq_true rfl) dX5_init_7 ?_
  have Z1 := Zr_up Z (Nat.le_succ _)
  refine N_pR C (by omega) (by rw [ha]; rfl) rfl fX5_init_9 tyX5_ok nmX5 (Or.inr ⟨rfl, hnm, rfl⟩) rfl rfl (by decide) dX5_init_9 ?_
  have Z2 := Zr_sR (a := a) (k := 0) (z := some n) (by omega) Z1
  refine N_aloadn C dX5_init_12 0 rfl rfl ?_
  refine N_iconst C dX5_init_13 ?_
  refine N_pI C (by omega) (by rw [ha]; rfl) rfl rfl rfl fX5_init_15 tyX5_ok nmX5 rfl (Or.inl rfl) (by decide) dX5_init_14 ?_
  have Z3 := Zr_sI (a := a) (k := 1) (z := 0) (by omega) Z2
  refine N_aloadn C dX5_init_17 0 rfl rfl ?_
  refine N_iconst C dX5_init_18 ?_
  refine N_pI C (by omega) (by rw [ha]; rfl) rfl rfl rfl fX5_init_19 tyX5_ok nmX5 rfl (Or.inl rfl) (by decide) dX5_init_19 ?_
  have Z4 := Zr_sI (a := a) (k := 2) (z := 0) (by omega) Z3
  exact N_vret C dX5_init_22 rfl rfl

theorem uX5_initw_5 : ∀ w ∈ u_ws RX5 TX5 3, w ∈ wsX5_init := by decide +kernel
theorem fX5_initw_9 : Fl RX5 wsX5_init 5 0 9 RX5 TX5 3 := ⟨rfl, by decide, uX5_initw_5, by decide +kernel⟩
theorem fX5_initw_15 : Fl RX5 wsX5_init 5 1 15 RX5 TX5 3 := ⟨rfl, by decide, uX5_initw_5, by decide +kernel⟩
theorem fX5_initw_19 : Fl RX5 wsX5_init 5 2 19 RX5 TX5 3 := ⟨rfl, by decide, uX5_initw_5, by decide +kernel⟩
/-- the memory behind the constructor -/
def mX5_init_w (M : Mem) (n a : Nat) : Mem := (sI (sI (sR M a 0 (some n)) a 1 0) a 2 0)
set_option maxHeartbeats 4000000 in
theorem kX5_init_w {M : Mem} {n a : Nat} (hn : a < n) (ha : kd a = 21) (h0 : kd (n) = 22) (Z : Zr M n) : Cn yX5_init wsX5_init 1 1 13 n (n + 1) [.ref a] M (mX5_init_w M n a ) := by
  refine Cn_of (cc := cX5_init) (nL := 1) (rt := none) (own := RX5) rfl rfl (by decide) rfl (Nat.le_of_ble_eq_true rfl) ?_
  intro p l e s m args below meth c G C hnm hNc
  refine N_lv (lv' := [(0, .ref a)]) rfl ?_
  refine N_aloadn C dX5_init_0 0 rfl rfl ?_
  refine N_obj C (by decide +kernel) (by decide +kernel) (by decide +kernel) dX5_init_1 (Nat.le_of_ble_eq_true rfl) (Nat.le_of_ble_eq_true rfl) ?_
  refine N_aloadn C dX5_init_4 0 rfl rfl ?_
  refine N_bipush C dX5_init_5 (by decide) ?_
  refine N_newI (len := 13) C Z (by rw [h0]; rfl) (by decide +kernel) (by decide) (by decide) (Nat.le_of_ble_eq_true rfl) (Nat.le_of_ble_eq_true rfl) dX5_init_7 ?_
  have Z1 := Zr_up Z (Nat.le_succ _)
  refine N_pR C (by omega) (by rw [ha]; rfl) rfl fX5_initw_9 tyX5_ok nmX5 (Or.inr ⟨rfl, hnm, rfl⟩) rfl rfl (by decide) dX5_init_9 ?_
  have Z2 := Zr_sR (a := a) (k := 0) (z := some n) (by omega) Z1
  refine N_aloadn C dX5_init_12 0 rfl rfl ?_
  refine N_iconst C dX5_init_13 ?_
  refine N_pI C (by omega) (by rw [ha]; rfl) rfl rfl rfl fX5_initw_15 tyX5_ok nmX5 rfl (Or.inl rfl) (by decide) dX5_init_14 ?_
  have Z3 := Zr_sI (a := a) (k := 1) (z := 0) (by omega) Z2
  refine N_aloadn C dX5_init_17 0 rfl rfl ?_
  refine N_iconst C dX5_init_18 ?_
  refine N_pI C (by omega) (by rw [ha]; rfl) rfl rfl rfl fX5_initw_19 tyX5_ok nmX5 rfl (Or.inl rfl) (by decide) dX5_init_19 ?_
  have Z4 := Zr_sI (a := a) (k := 2) (z := 0) (by omega) Z3
  exact N_vret C dX5_init_22 rfl rfl
