/-! how much a column may give, out of the invariant -/
theorem fWs_bd {F : Nat → Nat → Int} {c : Int} (hw : ∀ k, 0 ≤ F 111 k ∧ F 111 k ≤ 30) : ∀ (n : Nat) (h : Int), 0 ≤ fWs F c n h ∧ fWs F c n h ≤ 30 * (n : Int) := by
  intro n
  induction n with
  | zero => intro h; exact ⟨Int.le_refl _, by show (0 : Int) ≤ _; omega⟩
  | succ n ih =>
    intro h
    have h1 := hw (fE F c h).toNat
    have h2 := ih (h + 1)
    show 0 ≤ F 111 (fE F c h).toNat + fWs F c n (h + 1) ∧ F 111 (fE F c h).toNat + fWs F c n (h + 1) ≤ _
    omega
theorem fPress_bd {M : Mem} (W : WF M) {c h : Int} (hh : 0 ≤ h) : 0 ≤ fPress M.1 c h ∧ fPress M.1 c h ≤ 1719 := by
  have h1 : (0 : Int) ≤ M.1 118 (fB M.1 + c).toNat ∧ M.1 118 (fB M.1 + c).toNat ≤ 999 := W.i kd_118 _
  have h2 := fWs_bd (F := M.1) (c := c) (fun k => (W.i kd_111 k : (0 : Int) ≤ M.1 111 k ∧ M.1 111 k ≤ 30)) (fTop M.1 c - h).toNat h
  have h3 : (0 : Int) ≤ fTop M.1 c ∧ fTop M.1 c ≤ 24 := W.i kd_116 _
  unfold fPress
  omega
theorem fLift_nn {M : Mem} {c y z : Int} (hq : 0 ≤ (y - z) * (y - z)) : 0 ≤ fLift M.1 c y z := by
  unfold fLift
  split
  · exact Int.le_refl _
  · exact Int.mul_nonneg (by omega) (by omega)
theorem Bnd_of {M : Mem} (W : WF M) : Bnd M.1 12 := by
  intro n y z hn hy0 hy1 hz0 hz1 hc
  have hsq := sq_bd (d := y - z) (by omega) (by omega)
  have hl : 0 ≤ highF y z := by unfold highF; split <;> omega
  have hp := fPress_bd (c := n) W hl
  have hL := fLift_nn (M := M) (c := n) hsq.1
  have h2 : (0 : Int) ≤ M.1 112 (fE M.1 n (lowF y z)).toNat ∧ M.1 112 (fE M.1 n (lowF y z)).toNat ≤ 99 := W.i kd_112 _
  have h3 : (0 : Int) ≤ M.1 113 (fE M.1 n (lowF y z)).toNat ∧ M.1 113 (fE M.1 n (lowF y z)).toNat ≤ 9 := W.i kd_113 _
  have h4 : (0 : Int) ≤ M.1 119 (fB M.1 + n).toNat ∧ M.1 119 (fB M.1 + n).toNat ≤ 999 := W.i kd_119 _
  have q1 := mul_bd (a := 10 * M.1 112 (fE M.1 n (lowF y z)).toNat) (b := 1 + (y - z) * (y - z)) (A := 990) (B := 577) (by omega) (by omega) (by omega) (by omega)
  have q2 : 0 ≤ fRub M.1 n y z ∧ fRub M.1 n y z ≤ 15471 := by
    unfold fRub
    split
    · omega
    · have := mul_bd (a := M.1 113 (fE M.1 n (lowF y z)).toNat) (b := fPress M.1 n (highF y z) - fLift M.1 n y z) (A := 9) (B := 1719) (by omega) (by omega) (by omega) (by omega)
      omega
  have q3 := mul_abs (a := 10 * fPress M.1 n (highF y z)) (b := y - z) (A := 17190) (B := 24) (by omega) (by omega) (by omega) (by omega) (by omega)
  unfold fHolds fDrives
  omega
/-! the sets of the walk, and its steps -/
/-- what has come to the height z at the boundary n + 1 from the heights below yl -/
def Con (F : Nat → Nat → Int) (only : Int) (n : Nat) (yl z H D : Int) : Prop := ∃ y0 : Int, 0 ≤ y0 ∧ y0 < yl ∧ y0 ≤ 24 ∧ fCan F n y0 z ∧ Sh (Rch F only n y0) (fHolds F n y0 z) (fDrives F n y0 z) H D
theorem Con_0 {F : Nat → Nat → Int} {only z H D : Int} {n : Nat} : ¬ Con F only n 0 z H D := by
  rintro ⟨y0, h1, h2, -⟩
  omega
theorem Con_no {F : Nat → Nat → Int} {only y z H D : Int} {n : Nat} (hc : ¬ fCan F n y z) : Con F only n (y + 1) z H D ↔ Con F only n y z H D := by
  constructor
  · rintro ⟨y0, h1, h2, h3, h4, h5⟩
    by_cases e : y0 = y
    · subst e; exact absurd h4 hc
    · exact ⟨y0, h1, by omega, h3, h4, h5⟩
  · rintro ⟨y0, h1, h2, h3, h4, h5⟩
    exact ⟨y0, h1, by omega, h3, h4, h5⟩
theorem Con_yes {F : Nat → Nat → Int} {only y z H D : Int} {n : Nat} (hy0 : 0 ≤ y) (hy : y ≤ 24) (hc : fCan F n y z) : Con F only n (y + 1) z H D ↔ (Con F only n y z H D ∨ Sh (Rch F only n y) (fHolds F n y z) (fDrives F n y z) H D) := by
  constructor
  · rintro ⟨y0, h1, h2, h3, h4, h5⟩
    by_cases e : y0 = y
    · subst e; exact Or.inr h5
    · exact Or.inl ⟨y0, h1, by omega, h3, h4, h5⟩
  · rintro (⟨y0, h1, h2, h3, h4, h5⟩ | h5)
    · exact ⟨y0, h1, by omega, h3, h4, h5⟩
    · exact ⟨y, hy0, by omega, hy, hc, h5⟩
theorem Con_none {F : Nat → Nat → Int} {only y z H D : Int} {n : Nat} (hr : ∀ H D, ¬ Rch F only n y H D) : Con F only n (y + 1) z H D ↔ Con F only n y z H D := by
  constructor
  · rintro ⟨y0, h1, h2, h3, h4, H0, D0, h5, h6⟩
    by_cases e : y0 = y
    · subst e; exact absurd h5 (hr H0 D0)
    · exact ⟨y0, h1, by omega, h3, h4, H0, D0, h5, h6⟩
  · rintro ⟨y0, h1, h2, h3, h4, h5⟩
    exact ⟨y0, h1, by omega, h3, h4, h5⟩
theorem Con_all {F : Nat → Nat → Int} {only z H D : Int} {n : Nat} : Rch F only (n + 1) z H D ↔ (((only < 0 ∨ only = (n : Int) + 1) ∧ z = fTop F ((n : Int) + 1) ∧ H = 0 ∧ D = 0) ∨ Con F only n 25 z H D) := by
  constructor
  · rintro (h | ⟨y0, h1, h2, h3, h4⟩)
    · exact Or.inl h
    · exact Or.inr ⟨y0, h1, by omega, h2, h3, h4⟩
  · rintro (h | ⟨y0, h1, h2, h3, h4, h5⟩)
    · exact Or.inl h
    · exact Or.inr ⟨y0, h1, h3, h4, h5⟩
theorem Con_line {F : Nat → Nat → Int} {only H D : Int} {n : Nat} : Lne F only n H D ↔ Con F only n 25 (fTop F n) H D := by
  constructor
  · rintro ⟨y0, h1, h2, h3, h4⟩
    exact ⟨y0, h1, by omega, h2, h3, h4⟩
  · rintro ⟨y0, h1, h2, h3, h4, h5⟩
    exact ⟨y0, h1, h3, h4, h5⟩
