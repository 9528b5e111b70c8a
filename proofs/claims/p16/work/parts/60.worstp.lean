/-! what the lines hang on; the least share; where it is found -/
def Ag (F F' : Nat → Nat → Int) : Prop := F' 110 11 = F 110 11 ∧ F' 111 = F 111 ∧ F' 112 = F 112 ∧ F' 113 = F 113 ∧ F' 114 = F 114 ∧ F' 115 = F 115 ∧ F' 116 = F 116 ∧ F' 117 = F 117 ∧ F' 118 = F 118 ∧ F' 119 = F 119
theorem Ag.rf {F : Nat → Nat → Int} : Ag F F := ⟨rfl, rfl, rfl, rfl, rfl, rfl, rfl, rfl, rfl, rfl⟩
theorem Ag.eq {F F' F2 : Nat → Nat → Int} (h : Ag F F') (e : F2 = F') : Ag F F2 := by subst e; exact h
theorem Ag.wi {F : Nat → Nat → Int} {M : Mem} {k : Nat} {z : Int} (h : Ag F M.1) (hk : (11 == k) = false) : Ag F (sI M 110 k z).1 := by
  obtain ⟨h1, h2, h3, h4, h5, h6, h7, h8, h9, h10⟩ := h
  exact ⟨(sI_pl hk).trans h1, (sI_o (by decide)).trans h2, (sI_o (by decide)).trans h3, (sI_o (by decide)).trans h4, (sI_o (by decide)).trans h5, (sI_o (by decide)).trans h6, (sI_o (by decide)).trans h7, (sI_o (by decide)).trans h8, (sI_o (by decide)).trans h9, (sI_o (by decide)).trans h10⟩
section AGS
variable {F F' : Nat → Nat → Int}
theorem fE_ag (h : Ag F F') : fE F' = fE F := by
  funext c y
  simp only [fE, h.2.2.2.2.2.1]
theorem fTop_ag (h : Ag F F') : fTop F' = fTop F := by
  funext c
  simp only [fTop, fB, h.1, h.2.2.2.2.2.2.1]
theorem fCan_ag (h : Ag F F') : fCan F' = fCan F := by
  funext c y z
  simp only [fCan, fTop_ag h, fE_ag h, h.2.2.2.2.1]
theorem fWs_ag (h : Ag F F') (c : Int) : ∀ (n : Nat) (y : Int), fWs F' c n y = fWs F c n y := by
  intro n
  induction n with
  | zero => intro y; rfl
  | succ n ih =>
    intro y
    show F' 111 (fE F' c y).toNat + fWs F' c n (y + 1) = F 111 (fE F c y).toNat + fWs F c n (y + 1)
    rw [ih, fE_ag h, h.2.1]
theorem fPress_ag (h : Ag F F') : fPress F' = fPress F := by
  funext c y
  simp only [fPress, fWs_ag h, fTop_ag h, fB, h.1, h.2.2.2.2.2.2.2.2.1]
theorem fLift_ag (h : Ag F F') : fLift F' = fLift F := by
  funext c y z
  have e : F' 117 (fB F' + c).toNat = F 117 (fB F + c).toNat := by simp only [fB, h.1, h.2.2.2.2.2.2.2.1]
  unfold fLift
  rw [e]
theorem fRub_ag (h : Ag F F') : fRub F' = fRub F := by
  funext c y z
  simp only [fRub, fPress_ag h, fLift_ag h, fE_ag h, h.2.2.2.1]
theorem fHolds_ag (h : Ag F F') : fHolds F' = fHolds F := by
  funext c y z
  simp only [fHolds, fRub_ag h, fE_ag h, fB, h.1, h.2.2.1, h.2.2.2.2.2.2.2.2.2]
theorem fDrives_ag (h : Ag F F') : fDrives F' = fDrives F := by
  funext c y z
  simp only [fDrives, fPress_ag h]
theorem Rch_ag (h : Ag F F') (o : Int) : ∀ n : Nat, Rch F' o n = Rch F o n := by
  intro n
  induction n with
  | zero =>
    funext y H D
    simp only [Rch, fTop_ag h]
  | succ n ih =>
    funext y H D
    simp only [Rch, fTop_ag h, ih, fCan_ag h, fHolds_ag h, fDrives_ag h]
theorem Lns_ag (h : Ag F F') : Lns F' = Lns F := by
  funext o t w H D
  simp only [Lns, Lne, fTop_ag h, fCan_ag h, fHolds_ag h, fDrives_ag h, Rch_ag h]
end AGS
theorem Lns_bd {M : Mem} (W : WF M) {o t : Int} {w : Nat} {H D : Int} (hw : w ≤ 12) (h : Lns M.1 o t w H D) : (0 ≤ H ∧ H ≤ 7160292) ∧ (-4950720 ≤ D ∧ D ≤ 4950720) := by
  obtain ⟨n, hn, -, y0, h1, h2, h3, H0, D0, h4, rfl, rfl⟩ := h
  have hb := Rch_bd (Bnd_of W) n y0 H0 D0 (by omega) h1 h2 h4
  have ht : (0 : Int) ≤ fTop M.1 n ∧ fTop M.1 n ≤ 24 := W.i kd_116 _
  have h6 := Bnd_of W n y0 (fTop M.1 n) (by omega) h1 h2 ht.1 ht.2 h3
  omega
def FL (M : Mem) : Int → Int → Prop := Lns M.1 (-1) (-1) (M.1 110 0).toNat
theorem wd_bd {M : Mem} (W : WF M) : 0 ≤ M.1 110 0 ∧ M.1 110 0 ≤ 12 := W.i kd_110 0
theorem FL_bd {M : Mem} (W : WF M) {H D : Int} (h : FL M H D) : (0 ≤ H ∧ H ≤ 7160292) ∧ (-4950720 ≤ D ∧ D ≤ 4950720) := Lns_bd W (by have := wd_bd W; omega) h
def Dn (M : Mem) : Prop := (0 ≤ M.2.1 110 27 ∧ M.2.1 110 27 ≤ 7160292) ∧ (1 ≤ M.2.1 110 28 ∧ M.2.1 110 28 ≤ 4950720) ∧ (∃ H D, FL M H D ∧ 0 < D ∧ M.2.1 110 28 * H = M.2.1 110 27 * D) ∧ ∀ H D, FL M H D → 0 ≤ M.2.1 110 28 * H - M.2.1 110 27 * D
def K47 (M : Mem) (v : Int) : Prop := (v = 1 → FL M (M.2.1 110 25) (M.2.1 110 24) ∧ 0 < M.2.1 110 24) ∧ (v = 0 → Dn M)
def mW (M : Mem) (v : Int) : Nat := if v = 1 then (M.2.1 110 25 * (4950720 * 4950720) / M.2.1 110 24).toNat + 1 else 0
theorem mW_0 {M M' : Mem} {v : Int} (h : v = 1) : mW M' 0 < mW M v := by
  subst h
  unfold mW
  rw [if_neg (by decide), if_pos rfl]
  exact Nat.succ_pos _
theorem lo_facts {h d g : Int} (hg : g = (Int.gcd h d : Int)) (hp : 0 < g) (hh : 0 ≤ h) (hd : 0 < d) : g * (h / g) = h ∧ g * (d / g) = d ∧ 1 ≤ d / g := by
  have e1 : g * (h / g) = h := Int.mul_ediv_cancel' (by rw [hg]; exact Int.gcd_dvd_left ..)
  have e2 : g * (d / g) = d := Int.mul_ediv_cancel' (by rw [hg]; exact Int.gcd_dvd_right ..)
  refine ⟨e1, e2, ?_⟩
  by_cases q : 1 ≤ d / g
  · exact q
  · have : g * (d / g) ≤ 0 := Int.mul_nonpos_of_nonneg_of_nonpos (by omega) (by omega)
    omega
theorem K47_f {M0 M1 M2 : Mem} (hB : Sm M0 M1 ∧ Bst 1 0 (Lns M0.1 (-1) (-1) (M0.1 110 0).toNat) (M1.2.1 110 23) (M1.2.1 110 24) (M1.2.1 110 25)) (hs : M1.2.1 110 23 < 1152921504606846976) (hd : 0 < M1.2.1 110 24) (eM : M2 = sI M1 110 26 1) : K47 M2 1 := by
  subst eM
  refine ⟨fun _ => ⟨?_, hd⟩, fun h => absurd h (by decide)⟩
  have ha : Ag M0.1 (sI M1 110 26 1).1 := Ag.wi (Ag.rf.eq hB.1.1) rfl
  unfold FL
  rw [Lns_ag ha, sI_pl rfl, hB.1.1]
  rcases hB.2 with ⟨h, -⟩ | ⟨-, h, -⟩
  · exact absurd hs (by rw [h]; decide)
  · exact h
/-- the step of the search: M the memory before, M2 with up and low, M3 behind the walk -/
theorem FW_step {M M3 : Mem} {up low g : Int} (W : WF M) (h3 : FL M (M.2.1 110 25) (M.2.1 110 24) ∧ 0 < M.2.1 110 24) (hg : g = (Int.gcd (M.2.1 110 25) (M.2.1 110 24) : Int)) (hp : 0 < g) (eu : up = M.2.1 110 25 / g) (el : low = M.2.1 110 24 / g)
    (hS : M3.1 = M.1 ∧ M3.2.1 110 27 = up ∧ M3.2.1 110 28 = low) (hB : Bst up low (FL M) (M3.2.1 110 23) (M3.2.1 110 24) (M3.2.1 110 25)) :
    (M3.2.1 110 23 < 0 → K47 M3 1 ∧ mW M3 1 < mW M 1) ∧ (0 ≤ M3.2.1 110 23 → K47 M3 0) := by
  have hb := FL_bd W h3.1
  obtain ⟨e1, e2, e3⟩ := lo_facts hg hp hb.1.1 h3.2
  rw [← eu] at e1
  rw [← el] at e2 e3
  have hu : 0 ≤ up := by rw [eu]; exact Int.ediv_nonneg hb.1.1 (by omega)
  have hu2 : up ≤ 7160292 := by rw [eu]; exact Int.le_trans (Int.ediv_le_self _ hb.1.1) hb.1.2
  have hl2 : low ≤ 4950720 := by rw [el]; exact Int.le_trans (Int.ediv_le_self _ (by omega)) hb.2.2
  have hfl : FL M3 = FL M := by unfold FL; rw [hS.1]
  refine ⟨fun hs => ?_, fun hs => ⟨fun h => absurd h (by decide), fun _ => ⟨by rw [hS.2.1]; exact ⟨hu, hu2⟩, by rw [hS.2.2]; exact ⟨e3, hl2⟩, ?_, ?_⟩⟩⟩
  · rcases hB with ⟨h, -⟩ | ⟨-, hP, hv, -⟩
    · exact absurd hs (by rw [h]; decide)
    · have hb' := FL_bd W hP
      have q0 : 0 ≤ low * M3.2.1 110 25 := Int.mul_nonneg (by omega) hb'.1.1
      have hd' : 0 < M3.2.1 110 24 := by
        by_cases c : 0 < M3.2.1 110 24
        · exact c
        · have : up * M3.2.1 110 24 ≤ 0 := Int.mul_nonpos_of_nonneg_of_nonpos hu (by omega)
          omega
      refine ⟨⟨fun _ => ⟨by rw [hfl]; exact hP, hd'⟩, fun h => absurd h (by decide)⟩, ?_⟩
      have k1 : low * M3.2.1 110 25 < up * M3.2.1 110 24 := by omega
      have k2 : M3.2.1 110 25 * M.2.1 110 24 < M.2.1 110 25 * M3.2.1 110 24 := by
        have k3 : g * (low * M3.2.1 110 25) < g * (up * M3.2.1 110 24) := Int.mul_lt_mul_of_pos_left k1 hp
        rw [← Int.mul_assoc, ← Int.mul_assoc, e1, e2, Int.mul_comm (M.2.1 110 24)] at k3
        exact k3
      have k4 := fall (B := 4950720) h3.2 hd' hb.2.2 hb'.2.2 k2
      unfold mW
      rw [if_pos rfl, if_pos rfl]
      have k5 : 0 ≤ M3.2.1 110 25 * (4950720 * 4950720) / M3.2.1 110 24 := Int.ediv_nonneg (Int.mul_nonneg hb'.1.1 (by decide)) (by omega)
      omega
  · refine ⟨M.2.1 110 25, M.2.1 110 24, by rw [hfl]; exact h3.1, h3.2, ?_⟩
    rw [hS.2.1, hS.2.2]
    have k1 : low * (g * up) = up * (g * low) := by rw [Int.mul_comm low, Int.mul_comm up, Int.mul_assoc, Int.mul_assoc, Int.mul_comm up]
    rw [e1, e2] at k1
    exact k1
  · intro H D hP
    rw [hfl] at hP
    rw [hS.2.1, hS.2.2]
    rcases hB with ⟨-, h⟩ | ⟨-, -, -, h⟩
    · exact absurd hP (h H D)
    · have := h H D hP
      unfold Lx at this
      omega
/-! where the worst line begins and ends -/
def Hit (M : Mem) (a b : Int) : Prop := ∃ H D, Lns M.1 a b (M.1 110 0).toNat H D ∧ 0 < D ∧ M.2.1 110 28 * H = M.2.1 110 27 * D
def Kf (M0 M : Mem) : Prop := Ag M0.1 M.1 ∧ M.1 110 0 = M0.1 110 0 ∧ M.2.1 110 27 = M0.2.1 110 27 ∧ M.2.1 110 28 = M0.2.1 110 28
def KA (M0 M : Mem) (a : Int) : Prop := Dn M0 ∧ Kf M0 M ∧ (M.1 110 30 = 0 → ∀ a' b' : Int, 0 ≤ a' → a' < a → a' < b' → b' ≤ M0.1 110 0 → ¬ Hit M0 a' b')
def KB (M0 M : Mem) (a b : Int) : Prop := Dn M0 ∧ Kf M0 M ∧ (M.1 110 30 = 0 → ∀ a' b' : Int, 0 ≤ a' → (a' < a ∨ (a' = a ∧ b' < b)) → a' < b' → b' ≤ M0.1 110 0 → ¬ Hit M0 a' b')
theorem Kf.up {M0 M : Mem} (h : Kf M0 M) (hd : Dn M0) : (0 ≤ M.2.1 110 27 ∧ M.2.1 110 27 ≤ 7160292) ∧ (1 ≤ M.2.1 110 28 ∧ M.2.1 110 28 ≤ 4950720) := by
  rw [h.2.2.1, h.2.2.2]
  exact ⟨hd.1, hd.2.1⟩
theorem KA_0 {M0 M : Mem} (h : Dn M0) (eM : M = sI (sI M0 110 29 0) 110 30 0) : KA M0 M 0 := by
  subst eM
  refine ⟨h, ⟨Ag.wi (Ag.wi Ag.rf rfl) rfl, ?_, rfl, rfl⟩, fun _ a' b' h1 h2 => by omega⟩
  rw [sI_pl rfl, sI_pl rfl]
theorem KB_f {M0 M : Mem} {a b : Int} (h : KA M0 M a) (hb : b = a + 1) : KB M0 M a b :=
  ⟨h.1, h.2.1, fun e a' b' h1 h2 h3 h4 => h.2.2 e a' b' h1 (by omega) h3 h4⟩
theorem KB_s {M0 M M1 : Mem} {a b u v : Int} (h : KB M0 M a b) (eu : u = M.2.1 110 27) (ev : v = M.2.1 110 28) (hB : Sm M M1 ∧ Bst u v (Lns M.1 a b (M.1 110 0).toNat) (M1.2.1 110 23) (M1.2.1 110 24) (M1.2.1 110 25)) (hn : ¬ (M1.2.1 110 23 = 0 ∧ 0 < M1.2.1 110 24)) : KB M0 M1 a (b + 1) := by
  obtain ⟨h1, h2, h3⟩ := h
  obtain ⟨hS, hB⟩ := hB
  refine ⟨h1, ⟨h2.1.eq hS.1, by rw [hS.1]; exact h2.2.1, (hS.2.2 27 (by decide)).trans h2.2.2.1, (hS.2.2 28 (by decide)).trans h2.2.2.2⟩, fun e a' b' k1 k2 k3 k4 => ?_⟩
  by_cases c : a' = a ∧ b' = b
  · obtain ⟨rfl, rfl⟩ := c
    rintro ⟨H, D, hL, hD, he⟩
    rw [eu, ev, h2.2.1, h2.2.2.1, h2.2.2.2, Lns_ag h2.1] at hB
    rcases hB with ⟨-, hx⟩ | ⟨-, hP, hv, hm⟩
    · exact hx H D hL
    · have q1 := h1.2.2.2 _ _ (Lns_any hP)
      have q2 := hm H D hL
      unfold Lx at q2
      omega
  · exact h3 (by rw [← hS.1]; exact e) a' b' k1 (by omega) k3 k4
theorem KB_y {M0 M M1 M2 : Mem} {a b : Int} (h : KB M0 M a b) (hS : Sm M M1) (hb : 0 < b) (eM : M2 = sI (sI M1 110 29 a) 110 30 b) : KB M0 M2 a (b + 1) := by
  subst eM
  obtain ⟨h1, h2, h3⟩ := h
  refine ⟨h1, ⟨Ag.wi (Ag.wi (h2.1.eq hS.1) rfl) rfl, ?_, (hS.2.2 27 (by decide)).trans h2.2.2.1, (hS.2.2 28 (by decide)).trans h2.2.2.2⟩, fun e => ?_⟩
  · rw [sI_pl rfl, sI_pl rfl, hS.1]
    exact h2.2.1
  · rw [sI_at] at e
    omega
theorem KA_n {M0 M : Mem} {a b : Int} (h : KB M0 M a b) (hb : M0.1 110 0 < b ∨ ¬ M.1 110 30 = 0) : KA M0 M (a + 1) :=
  ⟨h.1, h.2.1, fun e a' b' h1 h2 h3 h4 => h.2.2 e a' b' h1 (by omega) h3 h4⟩
theorem KA_e {M0 M : Mem} {a : Int} (h : KA M0 M a) (W : WF M) (ha : M0.1 110 0 ≤ a) : ¬ M.1 110 30 = 0 := by
  intro e
  obtain ⟨H, D, hL, hD, he⟩ := h.1.2.2.1
  obtain ⟨a', b', k1, k2, k3⟩ := Lns_from hL
  have hw := wd_bd W
  rw [h.2.1.2.1] at hw
  exact h.2.2 e a' b' (by omega) (by omega) (by omega) (by omega) ⟨H, D, k3, hD, he⟩
