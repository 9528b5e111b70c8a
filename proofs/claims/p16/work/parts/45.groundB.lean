/-! Ground(Ground): twelve columns over the other's cells -/
def hM (M : Mem) (n a e1 : Nat) (cf : Nat → Nat) : Nat → Mem
  | 0 => sI (sR M a 0 (some n)) a 1 2
  | i + 1 => sR (mX1_init (hM M n a e1 cf i) (n + 1 + 3 * i + 1) (n + 1 + 3 * i) e1 (cf i)) n i (some (n + 1 + 3 * i))
theorem hM_row {M : Mem} {n a e1 : Nat} {cf : Nat → Nat} (ha : a < n) : ∀ i, (hM M n a e1 cf i).2.2 a 0 = some n := by
  intro i
  induction i with
  | zero => show (sR M a 0 (some n)).2.2 a 0 = _; simp [sR]
  | succ i ih =>
    show (sR _ n i _).2.2 a 0 = _
    rw [sR_o (by omega), mX1_o (by omega)]
    exact ih
theorem hM_o {M : Mem} {n a e1 x : Nat} {cf : Nat → Nat} (hx : x < n) (hxa : x ≠ a) : ∀ i, (hM M n a e1 cf i).2.2 x = M.2.2 x := by
  intro i
  induction i with
  | zero => show (sR M a 0 (some n)).2.2 x = _; exact sR_o hxa
  | succ i ih =>
    show (sR _ n i _).2.2 x = _
    rw [sR_o (by omega), mX1_o (by omega)]
    exact ih
theorem hM_Z {M : Mem} {n a e1 : Nat} {cf : Nat → Nat} (ha : a < n) (h : Zr M n) : ∀ i, Zr (hM M n a e1 cf i) (n + 1 + 3 * i) := by
  intro i
  induction i with
  | zero => exact Zr_sI (by omega) (Zr_sR (by omega) (Zr_up h (by omega)))
  | succ i ih => exact Zr_sR (by omega) (mX1_Z (by omega) (Zr_up ih (by omega)))
theorem uX4_init__4 : ∀ w ∈ u_ws RX4 TX4 2, w ∈ wsX4_init_ := by decide +kernel
theorem uX4_init__1 : ∀ w ∈ u_ws RX1 TX1 9, w ∈ wsX4_init_ := by decide +kernel
theorem fX4_init__11 : Fl RX4 wsX4_init_ 4 0 11 RX4 TX4 2 := ⟨rfl, by decide, uX4_init__4, by decide +kernel⟩
theorem fX4_init__17 : Fl RX4 wsX4_init_ 4 1 17 RX4 TX4 2 := ⟨rfl, by decide, uX4_init__4, by decide +kernel⟩
theorem fX4_init__28 : Fl RX4 wsX4_init_ 1 0 28 RX1 TX1 9 := ⟨rfl, by decide, uX4_init__1, by decide +kernel⟩
/-- the roles of what comes, and the other ground -/
def hK (n : Nat) : Prop := kd n = 7 ∧ ∀ i, i < 12 → kd (n + 1 + 3 * i) = 8 ∧ kd (n + 1 + 3 * i + 1) = 10 ∧ kd (n + 1 + 3 * i + 1 + 1) = 11
def hO (M : Mem) (n a o r e1 : Nat) (qf cf : Nat → Nat) : Prop := o < n ∧ o ≠ a ∧ kd o = 6 ∧ M.2.2 o 0 = some r ∧ r < n ∧ r ≠ a ∧ kd r = 7 ∧ ∀ i, i < 12 → M.2.2 r i = some (qf i) ∧ qf i < n ∧ qf i ≠ a ∧ kd (qf i) = 8 ∧ M.2.2 (qf i) 5 = some e1 ∧ M.2.2 (qf i) 0 = some (cf i)
set_option maxHeartbeats 4000000 in
theorem lpX4_init__20 {p : Program} {l : Launch} {e : Env} {s : State} {m : MethodId} {args : Array Value} {below : List Frame} {meth : Method} {c : Code} {G : xG} (C : Cx p s m args meth c G cX4_init_ 3 RX4 wsX4_init_ none) (hNc : xNc s) {M : Mem} {n a o r e1 : Nat} {qf cf : Nat → Nat} (hn : a < n) (ha : kd a = 12) (hk : hK n) (ho : hO M n a o r e1 qf cf) (Z : Zr M n) :
    ∀ (k i : Nat), i + k = 12 → AN p l e (rmN 2 37 1920) s m args below meth c G 3 (MQ below (xQn G (n + 37) (hM M n a e1 cf 12)) args s 37 1920 (fun q => G.2.2 ≤ q)) (n + 1 + 3 * i) (1 + 3 * i) (12 + 159 * i) (hM M n a e1 cf i) 20 [(2, .int (iI i)), (0, .ref a), (1, .ref o)] [] := by
  obtain ⟨o1, o2, o3, o4, o5, o6, o7, o8⟩ := ho
  intro k
  induction k with
  | zero =>
    intro i hi
    obtain rfl : i = 12 := by omega
    refine N_iloadn C dX4_init__20 0 rfl rfl ?_
    refine N_bipush C dX4_init__21 (by decide) ?_
    refine N_icmpge C 63 dX4_init__23 (by decide) (by decide) (by decide) (fun c1 => ?_) (fun c1 => absurd c1 (by decide))
    exact N_vret C dX4_init__63 (by omega) rfl
  | succ k ih =>
    intro i hi
    have hi12 : i < 12 := by omega
    obtain ⟨r8, r10, r11⟩ := hk.2 i hi12
    obtain ⟨q1, q2, q3, q4, q5, q6⟩ := o8 i hi12
    have Z0 := hM_Z (e1 := e1) (cf := cf) hn Z i
    have ro : (hM M n a e1 cf i).2.2 o 0 = some r := by rw [hM_o o1 o2]; exact o4
    have rr1 : (hM M n a e1 cf i).2.2 r ((i : Int)).toNat = some (qf i) := by rw [hM_o o5 o6, show ((i : Int)).toNat = i by omega]; exact q1
    have re : (hM M n a e1 cf i).2.2 (qf i) 5 = some e1 := by rw [hM_o q2 q3]; exact q5
    have rc : (hM M n a e1 cf i).2.2 (qf i) 0 = some (cf i) := by rw [hM_o q2 q3]; exact q6
    refine N_iloadn C dX4_init__20 0 rfl rfl ?_
    refine N_bipush C dX4_init__21 (by decide) ?_
    refine N_icmpge C 63 dX4_init__23 (by decide) ⟨by omega, by omega⟩ (by decide) (fun c1 => absurd c1 (by omega)) (fun c1 => ?_)
    refine N_aloadn C dX4_init__26 1 rfl rfl ?_
    refine N_getR C (by omega) (by rw [ha]; rfl) rfl (hM_row hn i) fX4_init__11 dX4_init__27 ?_
    refine N_iloadn C dX4_init__30 0 rfl rfl ?_
    refine N_new (ty := tyX1) C Z0 (by rw [r8]; rfl) rfl uX4_init__1 tyX1_ok (by decide +kernel) (by decide +kernel) (by decide +kernel) bkX1 (by simp only [rmN]; omega) (by simp only [rmN]; omega) dX4_init__31 ?_
    refine N_dup C dX4_init__34 rfl ?_
    refine N_aloadn C dX4_init__35 2 rfl rfl ?_
    refine N_getR C (by omega) (by rw [o3]; rfl) rfl ro fX4_init__11 dX4_init__36 ?_
    refine N_iloadn C dX4_init__39 0 rfl rfl ?_
    refine N_aald C (len := 12) (by omega) (by rw [o7]; rfl) (by decide) (by omega) (by omega) rr1 dX4_init__40 ?_
    refine N_getRN C (by omega) (by rw [q4]; rfl) rfl re rfl (k := 5) (by decide) uX4_init__1 hNc.2.2.2.2.1 dX4_init__41 ?_
    refine N_aloadn C dX4_init__44 2 rfl rfl ?_
    refine N_getR C (by omega) (by rw [o3]; rfl) rfl ro fX4_init__11 dX4_init__45 ?_
    refine N_iloadn C dX4_init__48 0 rfl rfl ?_
    refine N_aald C (len := 12) (by omega) (by rw [o7]; rfl) (by decide) (by omega) (by omega) rr1 dX4_init__49 ?_
    refine N_getR C (by omega) (by rw [q4]; rfl) rfl rc fX4_init__28 dX4_init__50 ?_
    refine N_callI (st := [.ref (n + 1 + 3 * i), .int (iI i), .ref n]) C hNc (kX1_init (e1 := e1) (c1 := cf i) (by omega) r8 r10 r11 (Zr_up Z0 (by omega))) gX4_init__X1_init rfl (by decide +kernel) (by decide +kernel) (by decide +kernel) rfl (nn := 2) (by decide +kernel) ⟨Nat.le_of_ble_eq_true rfl, Nat.le_of_ble_eq_true rfl⟩ rfl (Nat.le_of_ble_eq_true rfl) (by simp only [rmN]; omega) dX4_init__53 rfl ?_
    refine N_aast C (len := 12) (by omega) (by rw [hk.1]; rfl) (by omega) (by rw [r8]; rfl) (by decide) (by omega) (by omega) dX4_init__56 ?_
    refine N_iinc (lv' := [(2, .int (iI ((i : Int) + 1))), (0, .ref a), (1, .ref o)]) C dX4_init__57 0 rfl (by decide) rfl ?_
    refine N_goto C 20 dX4_init__60 (by decide) ?_
    have hh := ih (i + 1) (by omega)
    have e1' : n + 1 + 3 * (i + 1) = n + 1 + 3 * i + 1 + 1 + 1 := by omega
    have e2' : 1 + 3 * (i + 1) = 1 + 3 * i + 1 + 2 := by omega
    have e3' : 12 + 159 * (i + 1) = 12 + 159 * i + 9 + 150 := by omega
    have e4' : (((i + 1 : Nat)) : Int) = (i : Int) + 1 := by omega
    rw [e1', e2', e3', e4'] at hh
    have e5' : ((i : Int)).toNat = i := by omega
    rw [e5']
    exact hh
set_option maxHeartbeats 4000000 in
theorem kX4_init_ {M : Mem} {n a o r e1 : Nat} {qf cf : Nat → Nat} (hn : a < n) (ha : kd a = 12) (hk : hK n) (ho : hO M n a o r e1 qf cf) (Z : Zr M n) : Cn yX4_init_ wsX4_init_ 2 37 1920 n (n + 37) [.ref a, .ref o] M (hM M n a e1 cf 12) := by
  refine Cn_of (cc := cX4_init_) (nL := 3) (rt := none) (own := RX4) rfl rfl (by decide) rfl (Nat.le_of_ble_eq_true rfl) ?_
  intro p l e s m args below meth c G C hnm hNc
  refine N_lv (lv' := [(0, .ref a), (1, .ref o)]) rfl ?_
  refine N_aloadn C dX4_init__0 0 rfl rfl ?_
  refine N_obj C (by decide +kernel) (by decide +kernel) (by decide +kernel) dX4_init__1 (Nat.le_of_ble_eq_true rfl) (Nat.le_of_ble_eq_true rfl) ?_
  refine N_aloadn C dX4_init__4 0 rfl rfl ?_
  refine N_bipush C dX4_init__5 (by decide) ?_
  refine N_newq C hNc (len := 12) Z (by rw [hk.1]; rfl) (by decide +kernel) (by decide) (by decide) (Nat.le_of_ble_eq_true rfl) (Nat.le_of_ble_eq_true rfl) dX4_init__7 ?_
  refine N_pR C (by omega) (by rw [ha]; rfl) rfl fX4_init__11 tyX4_ok nmX4 (Or.inr ⟨rfl, hnm, rfl⟩) rfl rfl (by decide) dX4_init__10 ?_
  refine N_aloadn C dX4_init__13 0 rfl rfl ?_
  refine N_iconst C dX4_init__14 ?_
  refine N_pI C (by omega) (by rw [ha]; rfl) rfl rfl rfl fX4_init__17 tyX4_ok nmX4 rfl (Or.inl rfl) (by decide) dX4_init__15 ?_
  refine N_iconst C dX4_init__18 ?_
  refine N_istoren (lv' := [(2, .int (iI 0)), (0, .ref a), (1, .ref o)]) C dX4_init__19 rfl (by decide) rfl ?_
  exact lpX4_init__20 C hNc hn ha hk ho Z 12 0 rfl
