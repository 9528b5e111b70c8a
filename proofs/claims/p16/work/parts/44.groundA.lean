/-! Ground(Earths): twelve columns, each with a row of cells -/
theorem bkX1 : ∀ j, j < 9 → defaultValue (tyX1 j) = vp_V ((fks 1).map bkV) j := by
  intro j hj
  rcases (show j = 0 ∨ j = 1 ∨ j = 2 ∨ j = 3 ∨ j = 4 ∨ j = 5 ∨ j = 6 ∨ j = 7 ∨ j = 8 by omega) with rfl | rfl | rfl | rfl | rfl | rfl | rfl | rfl | rfl <;> rfl
theorem mX1_o {M : Mem} {n a e1 c1 x : Nat} (h : x ≠ a) : (mX1_init M n a e1 c1).2.2 x = M.2.2 x := by
  unfold mX1_init
  rw [sR_o h, sR_o h]
  show (sI _ a 8 0).2.2 x = _
  show (sR (sR _ a 6 _) a 7 _).2.2 x = _
  rw [sR_o h, sR_o h]
  rfl
theorem mX1_Z {M : Mem} {n n1 a e1 c1 : Nat} (ha : a < n1) (h : Zr M n1) : Zr (mX1_init M n a e1 c1) n1 := by
  unfold mX1_init
  exact Zr_sR ha (Zr_sR ha (Zr_sI ha (Zr_sR ha (Zr_sR ha (Zr_sI ha (Zr_sI ha (Zr_sI ha (Zr_sI ha h))))))))
def gM (M : Mem) (n a e1 : Nat) : Nat → Mem
  | 0 => sI (sR M a 0 (some n)) a 1 2
  | i + 1 => sR (mX1_init (gM M n a e1 i) (n + 1 + 4 * i + 1 + 1) (n + 1 + 4 * i) e1 (n + 1 + 4 * i + 1)) n i (some (n + 1 + 4 * i))
theorem gM_row {M : Mem} {n a e1 : Nat} (ha : a < n) : ∀ i, (gM M n a e1 i).2.2 a 0 = some n := by
  intro i
  induction i with
  | zero => show (sR M a 0 (some n)).2.2 a 0 = _; simp [sR]
  | succ i ih =>
    show (sR _ n i _).2.2 a 0 = _
    rw [sR_o (by omega), mX1_o (by omega)]
    exact ih
theorem gM_Z {M : Mem} {n a e1 : Nat} (ha : a < n) (h : Zr M n) : ∀ i, Zr (gM M n a e1 i) (n + 1 + 4 * i) := by
  intro i
  induction i with
  | zero => exact Zr_sI (by omega) (Zr_sR (by omega) (Zr_up h (by omega)))
  | succ i ih => exact Zr_sR (by omega) (mX1_Z (by omega) (Zr_up ih (by omega)))
theorem uX4_init_4 : ∀ w ∈ u_ws RX4 TX4 2, w ∈ wsX4_init := by decide +kernel
theorem uX4_init_1 : ∀ w ∈ u_ws RX1 TX1 9, w ∈ wsX4_init := by decide +kernel
theorem fX4_init_11 : Fl RX4 wsX4_init 4 0 11 RX4 TX4 2 := ⟨rfl, by decide, uX4_init_4, by decide +kernel⟩
theorem fX4_init_17 : Fl RX4 wsX4_init 4 1 17 RX4 TX4 2 := ⟨rfl, by decide, uX4_init_4, by decide +kernel⟩
/-- the roles of what comes -/
def gK (n : Nat) : Prop := kd n = 7 ∧ ∀ i, i < 12 → kd (n + 1 + 4 * i) = 8 ∧ kd (n + 1 + 4 * i + 1) = 9 ∧ kd (n + 1 + 4 * i + 1 + 1) = 10 ∧ kd (n + 1 + 4 * i + 1 + 1 + 1) = 11
set_option maxHeartbeats 4000000 in
theorem lpX4_init_20 {p : Program} {l : Launch} {e : Env} {s : State} {m : MethodId} {args : Array Value} {below : List Frame} {meth : Method} {c : Code} {G : xG} (C : Cx p s m args meth c G cX4_init 3 RX4 wsX4_init none) (hNc : xNc s) {M : Mem} {n a e1 : Nat} (hn : a < n) (ha : kd a = 6) (hK : gK n) (Z : Zr M n) :
    ∀ (k i : Nat), i + k = 12 → AN p l e (rmN 2 49 2208) s m args below meth c G 3 (MQ below (xQn G (n + 49) (gM M n a e1 12)) args s 49 2208 (fun q => G.2.2 ≤ q)) (n + 1 + 4 * i) (1 + 4 * i) (12 + 183 * i) (gM M n a e1 i) 20 [(2, .int (iI i)), (0, .ref a), (1, .ref e1)] [] := by
  intro k
  induction k with
  | zero =>
    intro i hi
    obtain rfl : i = 12 := by omega
    refine N_iloadn C dX4_init_20 0 rfl rfl ?_
    refine N_bipush C dX4_init_21 (by decide) ?_
    refine N_icmpge C 50 dX4_init_23 (by decide) (by decide) (by decide) (fun c1 => ?_) (fun c1 => absurd c1 (by decide))
    exact N_vret C dX4_init_50 (by omega) rfl
  | succ k ih =>
    intro i hi
    have hi12 : i < 12 := by omega
    obtain ⟨r8, r9, r10, r11⟩ := hK.2 i hi12
    have Z0 := gM_Z (e1 := e1) hn Z i
    refine N_iloadn C dX4_init_20 0 rfl rfl ?_
    refine N_bipush C dX4_init_21 (by decide) ?_
    refine N_icmpge C 50 dX4_init_23 (by decide) ⟨by omega, by omega⟩ (by decide) (fun c1 => absurd c1 (by omega)) (fun c1 => ?_)
    refine N_aloadn C dX4_init_26 1 rfl rfl ?_
    refine N_getR C (by omega) (by rw [ha]; rfl) rfl (gM_row hn i) fX4_init_11 dX4_init_27 ?_
    refine N_iloadn C dX4_init_30 0 rfl rfl ?_
    refine N_new (ty := tyX1) C Z0 (by rw [r8]; rfl) rfl uX4_init_1 tyX1_ok (by decide +kernel) (by decide +kernel) (by decide +kernel) bkX1 (by simp only [rmN]; omega) (by simp only [rmN]; omega) dX4_init_31 ?_
    refine N_dup C dX4_init_34 rfl ?_
    refine N_aloadn C dX4_init_35 2 rfl rfl ?_
    refine N_bipush C dX4_init_36 (by decide) ?_
    refine N_newI (len := 24) C (Zr_up Z0 (Nat.le_succ _)) (by rw [r9]; rfl) (by decide +kernel) (by decide) (by decide) (by simp only [rmN]; omega) (by simp only [rmN]; omega) dX4_init_38 ?_
    refine N_callI (st := [.ref (n + 1 + 4 * i), .int (iI i), .ref n]) C hNc (kX1_init (e1 := e1) (c1 := n + 1 + 4 * i + 1) (by omega) r8 r10 r11 (Zr_up Z0 (by omega))) gX4_init_X1_init rfl (by decide +kernel) (by decide +kernel) (by decide +kernel) rfl (nn := 2) (by decide +kernel) ⟨Nat.le_of_ble_eq_true rfl, Nat.le_of_ble_eq_true rfl⟩ rfl (Nat.le_of_ble_eq_true rfl) (by simp only [rmN]; omega) dX4_init_40 rfl ?_
    refine N_aast C (len := 12) (by omega) (by rw [hK.1]; rfl) (by omega) (by rw [r8]; rfl) (by decide) (by omega) (by omega) dX4_init_43 ?_
    refine N_iinc (lv' := [(2, .int (iI ((i : Int) + 1))), (0, .ref a), (1, .ref e1)]) C dX4_init_44 0 rfl (by decide) rfl ?_
    refine N_goto C 20 dX4_init_47 (by decide) ?_
    have hh := ih (i + 1) (by omega)
    have e1' : n + 1 + 4 * (i + 1) = n + 1 + 4 * i + 1 + 1 + 1 + 1 := by omega
    have e2' : 1 + 4 * (i + 1) = 1 + 4 * i + 1 + 1 + 2 := by omega
    have e3' : 12 + 183 * (i + 1) = 12 + 183 * i + 9 + 24 + 150 := by omega
    have e4' : (((i + 1 : Nat)) : Int) = (i : Int) + 1 := by omega
    rw [e1', e2', e3', e4'] at hh
    have e5' : ((i : Int)).toNat = i := by omega
    rw [e5']
    exact hh
set_option maxHeartbeats 4000000 in
theorem kX4_init {M : Mem} {n a e1 : Nat} (hn : a < n) (ha : kd a = 6) (hK : gK n) (Z : Zr M n) : Cn yX4_init wsX4_init 2 49 2208 n (n + 49) [.ref a, .ref e1] M (gM M n a e1 12) := by
  refine Cn_of (cc := cX4_init) (nL := 3) (rt := none) (own := RX4) rfl rfl (by decide) rfl (Nat.le_of_ble_eq_true rfl) ?_
  intro p l e s m args below meth c G C hnm hNc
  refine N_lv (lv' := [(0, .ref a), (1, .ref e1)]) rfl ?_
  refine N_aloadn C dX4_init_0 0 rfl rfl ?_
  refine N_obj C (by decide +kernel) (by decide +kernel) (by decide +kernel) dX4_init_1 (Nat.le_of_ble_eq_true rfl) (Nat.le_of_ble_eq_true rfl) ?_
  refine N_aloadn C dX4_init_4 0 rfl rfl ?_
  refine N_bipush C dX4_init_5 (by decide) ?_
  refine N_newq C hNc (len := 12) Z (by rw [hK.1]; rfl) (by decide +kernel) (by decide) (by decide) (Nat.le_of_ble_eq_true rfl) (Nat.le_of_ble_eq_true rfl) dX4_init_7 ?_
  refine N_pR C (by omega) (by rw [ha]; rfl) rfl fX4_init_11 tyX4_ok nmX4 (Or.inr ⟨rfl, hnm, rfl⟩) rfl rfl (by decide) dX4_init_10 ?_
  refine N_aloadn C dX4_init_13 0 rfl rfl ?_
  refine N_iconst C dX4_init_14 ?_
  refine N_pI C (by omega) (by rw [ha]; rfl) rfl rfl rfl fX4_init_17 tyX4_ok nmX4 rfl (Or.inl rfl) (by decide) dX4_init_15 ?_
  refine N_iconst C dX4_init_18 ?_
  refine N_istoren (lv' := [(2, .int (iI 0)), (0, .ref a), (1, .ref e1)]) C dX4_init_19 rfl (by decide) rfl ?_
  exact lpX4_init_20 C hNc hn ha hK Z 12 0 rfl
