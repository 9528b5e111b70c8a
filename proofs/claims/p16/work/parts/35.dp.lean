/-! the least of a set of pairs (held, driven): by the sum q h - p d, then by the greatest d -/
def far : Int := 1152921504606846976
def Lx (s d s' d' : Int) : Prop := s < s' ∨ (s = s' ∧ d' ≤ d)
def Bst (p q : Int) (P : Int → Int → Prop) (s d h : Int) : Prop :=
  (s = far ∧ ∀ H D, ¬ P H D) ∨ (s < far ∧ P h d ∧ s = q * h - p * d ∧ ∀ H D, P H D → Lx s d (q * H - p * D) D)
theorem Lx_tr {a b a1 b1 a2 b2 : Int} (h : Lx a b a1 b1) (h1 : Lx a1 b1 a2 b2) : Lx a b a2 b2 := by unfold Lx at *; omega
theorem Bst_congr {p q : Int} {P P' : Int → Int → Prop} {s d h : Int} (hB : Bst p q P s d h) (he : ∀ H D, P' H D ↔ P H D) : Bst p q P' s d h := by
  rcases hB with ⟨h1, h2⟩ | ⟨h1, h2, h3, h4⟩
  · exact Or.inl ⟨h1, fun H D hP => h2 H D ((he H D).mp hP)⟩
  · exact Or.inr ⟨h1, (he _ _).mpr h2, h3, fun H D hP => h4 H D ((he H D).mp hP)⟩
theorem Bst_empty {p q : Int} {d h : Int} : Bst p q (fun _ _ => False) far d h := Or.inl ⟨rfl, fun _ _ h => h⟩
theorem Bst_le {p q : Int} {P : Int → Int → Prop} {s d h : Int} (hB : Bst p q P s d h) : s ≤ far := by
  rcases hB with ⟨h1, -⟩ | ⟨h1, -⟩ <;> omega
/-- the set of all of R, each with (hh, dd) more -/
def Sh (R : Int → Int → Prop) (hh dd : Int) (H D : Int) : Prop := ∃ H0 D0, R H0 D0 ∧ H = H0 + hh ∧ D = D0 + dd
theorem Bst_sh {p q : Int} {R : Int → Int → Prop} {s d h : Int} (hR : Bst p q R s d h) (hs : s < far) {hh dd : Int} (hb : s + q * hh - p * dd < far) : Bst p q (Sh R hh dd) (s + q * hh - p * dd) (d + dd) (h + hh) := by
  rcases hR with ⟨h1, -⟩ | ⟨-, h2, h3, h4⟩
  · omega
  · refine Or.inr ⟨hb, ⟨h, d, h2, rfl, rfl⟩, ?_, ?_⟩
    · rw [Int.mul_add, Int.mul_add]; omega
    · rintro H D ⟨H0, D0, hr, rfl, rfl⟩
      have h5 := h4 H0 D0 hr
      rw [Int.mul_add, Int.mul_add]
      unfold Lx at *
      omega
/-- the better of two bests is the best of both sets -/
theorem Bst_or {p q : Int} {P R : Int → Int → Prop} {s d h s1 d1 h1 : Int} (hP : Bst p q P s d h) (hR : Bst p q R s1 d1 h1) (hs1 : s1 < far) :
    ((s1 < s ∨ (s1 = s ∧ d < d1)) → Bst p q (fun H D => P H D ∨ R H D) s1 d1 h1) ∧ (¬ (s1 < s ∨ (s1 = s ∧ d < d1)) → Bst p q (fun H D => P H D ∨ R H D) s d h) := by
  rcases hR with ⟨h9, -⟩ | ⟨-, r2, r3, r4⟩
  · omega
  rcases hP with ⟨p1, p2⟩ | ⟨p1, p2, p3, p4⟩
  · refine ⟨fun _ => Or.inr ⟨hs1, Or.inr r2, r3, fun H D hh => ?_⟩, fun hn => ?_⟩
    · rcases hh with hh | hh
      · exact absurd hh (p2 H D)
      · exact r4 H D hh
    · omega
  · refine ⟨fun hb => Or.inr ⟨hs1, Or.inr r2, r3, fun H D hh => ?_⟩, fun hn => Or.inr ⟨p1, Or.inl p2, p3, fun H D hh => ?_⟩⟩
    · rcases hh with hh | hh
      · exact Lx_tr (show Lx s1 d1 s d by unfold Lx; omega) (p4 H D hh)
      · exact r4 H D hh
    · rcases hh with hh | hh
      · exact p4 H D hh
      · exact Lx_tr (show Lx s d s1 d1 by unfold Lx; omega) (r4 H D hh)
theorem Bst_one {p q : Int} : Bst p q (fun H D => H = 0 ∧ D = 0) 0 0 0 := by
  refine Or.inr ⟨by decide, ⟨rfl, rfl⟩, by omega, ?_⟩
  rintro H D ⟨rfl, rfl⟩
  unfold Lx
  omega
/-! the ways of the reference's walk over a ground: begun where they may, up to the height y at the boundary c -/
def Rch (F : Nat → Nat → Int) (only : Int) : Nat → Int → Int → Int → Prop
  | 0, y, H, D => (only < 0 ∨ only = 0) ∧ y = fTop F 0 ∧ H = 0 ∧ D = 0
  | n + 1, y, H, D => ((only < 0 ∨ only = (n : Int) + 1) ∧ y = fTop F ((n : Int) + 1) ∧ H = 0 ∧ D = 0) ∨ ∃ y0 : Int, 0 ≤ y0 ∧ y0 ≤ 24 ∧ fCan F n y0 y ∧ Sh (Rch F only n y0) (fHolds F n y0 y) (fDrives F n y0 y) H D
/-- the lines that end in the column c -/
def Lne (F : Nat → Nat → Int) (only : Int) (n : Nat) (H D : Int) : Prop := ∃ y0 : Int, 0 ≤ y0 ∧ y0 ≤ 24 ∧ fCan F n y0 (fTop F n) ∧ Sh (Rch F only n y0) (fHolds F n y0 (fTop F n)) (fDrives F n y0 (fTop F n)) H D
/-- all lines of the first w columns -/
def Lns (F : Nat → Nat → Int) (only stop : Int) (w : Nat) (H D : Int) : Prop := ∃ n : Nat, n < w ∧ (stop < 0 ∨ stop = (n : Int) + 1) ∧ Lne F only n H D
/-- a way begun anywhere is begun somewhere -/
theorem Rch_from {F : Nat → Nat → Int} {only : Int} (ho : only < 0) : ∀ (n : Nat) (y H D : Int), Rch F only n y H D → ∃ a : Nat, a ≤ n ∧ Rch F a n y H D := by
  intro n
  induction n with
  | zero =>
    rintro y H D ⟨-, h1, h2, h3⟩
    exact ⟨0, Nat.le_refl _, Or.inr rfl, h1, h2, h3⟩
  | succ n ih =>
    rintro y H D (⟨-, h1, h2, h3⟩ | ⟨y0, h1, h2, h3, H0, D0, h4, h5, h6⟩)
    · exact ⟨n + 1, Nat.le_refl _, Or.inl ⟨Or.inr (by omega), h1, h2, h3⟩⟩
    · obtain ⟨a, ha, hr⟩ := ih y0 H0 D0 h4
      exact ⟨a, by omega, Or.inr ⟨y0, h1, h2, h3, H0, D0, hr, h5, h6⟩⟩
/-- .. and a way from one place is one from anywhere -/
theorem Rch_any {F : Nat → Nat → Int} {only a : Int} (ho : only < 0) : ∀ (n : Nat) (y H D : Int), Rch F a n y H D → Rch F only n y H D := by
  intro n
  induction n with
  | zero =>
    rintro y H D ⟨-, h1, h2, h3⟩
    exact ⟨Or.inl ho, h1, h2, h3⟩
  | succ n ih =>
    rintro y H D (⟨-, h1, h2, h3⟩ | ⟨y0, h1, h2, h3, H0, D0, h4, h5, h6⟩)
    · exact Or.inl ⟨Or.inl ho, h1, h2, h3⟩
    · exact Or.inr ⟨y0, h1, h2, h3, H0, D0, ih y0 H0 D0 h4, h5, h6⟩
theorem Lns_from {F : Nat → Nat → Int} {w : Nat} {H D : Int} (h : Lns F (-1) (-1) w H D) : ∃ a b : Nat, a < b ∧ b ≤ w ∧ Lns F a b w H D := by
  obtain ⟨n, hn, -, y0, h1, h2, h3, H0, D0, h4, h5, h6⟩ := h
  obtain ⟨a, ha, hr⟩ := Rch_from (by omega) n y0 H0 D0 h4
  exact ⟨a, n + 1, by omega, by omega, n, hn, Or.inr (by omega), y0, h1, h2, h3, H0, D0, hr, h5, h6⟩
theorem Lns_any {F : Nat → Nat → Int} {w : Nat} {a b H D : Int} (h : Lns F a b w H D) : Lns F (-1) (-1) w H D := by
  obtain ⟨n, hn, -, y0, h1, h2, h3, H0, D0, h4, h5, h6⟩ := h
  exact ⟨n, hn, Or.inl (by omega), y0, h1, h2, h3, H0, D0, Rch_any (by omega) n y0 H0 D0 h4, h5, h6⟩
/-- how much such a way may come to -/
def Bnd (F : Nat → Nat → Int) (w : Nat) : Prop := ∀ (n : Nat) (y z : Int), n < w → 0 ≤ y → y ≤ 24 → 0 ≤ z → z ≤ 24 → fCan F n y z → (0 ≤ fHolds F n y z ∧ fHolds F n y z ≤ 596691) ∧ (-412560 ≤ fDrives F n y z ∧ fDrives F n y z ≤ 412560)
theorem Rch_bd {F : Nat → Nat → Int} {only : Int} {w : Nat} (hB : Bnd F w) : ∀ (n : Nat) (y H D : Int), n ≤ w → 0 ≤ y → y ≤ 24 → Rch F only n y H D → (0 ≤ H ∧ H ≤ 596691 * n) ∧ (-(412560 * n) ≤ D ∧ D ≤ 412560 * n) := by
  intro n
  induction n with
  | zero =>
    rintro y H D - - - ⟨-, -, rfl, rfl⟩
    omega
  | succ n ih =>
    rintro y H D hw hy0 hy1 (⟨-, -, rfl, rfl⟩ | ⟨y0, h1, h2, h3, H0, D0, h4, rfl, rfl⟩)
    · omega
    · have h5 := ih y0 H0 D0 (by omega) h1 h2 h4
      have h6 := hB n y0 y (by omega) h1 h2 hy0 hy1 h3
      omega
/-- the fraction falls: a measure for the search of the least share -/
theorem fall {H D H' D' B : Int} (hD : 0 < D) (hD' : 0 < D') (hDB : D ≤ B) (hDB' : D' ≤ B) (h : H' * D < H * D') : H' * (B * B) / D' < H * (B * B) / D := by
  have hB : 0 < B := by omega
  have h1 : D * D' ≤ B * B := Int.mul_le_mul hDB hDB' (by omega) (by omega)
  have hBB : 0 ≤ B * B := Int.mul_nonneg (by omega) (by omega)
  -- (H' * BB / D' + 1) ≤ H * BB / D
  have key : (H' * (B * B) / D' + 1) * D ≤ H * (B * B) := by
    have e1 : H' * (B * B) / D' * D' ≤ H' * (B * B) := Int.ediv_mul_le _ (by omega)
    have e2 : (H' * (B * B) / D' + 1) * D * D' ≤ H * (B * B) * D' := by
      have e3 : (H' * (B * B) / D' + 1) * D * D' = H' * (B * B) / D' * D' * D + D * D' := by
        rw [Int.add_mul, Int.add_mul, Int.one_mul, Int.mul_right_comm]
      have e4 : H' * (B * B) / D' * D' * D ≤ H' * (B * B) * D := Int.mul_le_mul_of_nonneg_right e1 (by omega)
      have e5 : H' * (B * B) * D = H' * D * (B * B) := Int.mul_right_comm _ _ _
      have e6 : H * (B * B) * D' = H * D' * (B * B) := Int.mul_right_comm _ _ _
      have e7 : (H' * D + 1) * (B * B) ≤ H * D' * (B * B) := Int.mul_le_mul_of_nonneg_right (by omega) hBB
      rw [Int.add_mul, Int.one_mul] at e7
      omega
    exact Int.le_of_mul_le_mul_right e2 hD'
  have := (Int.le_ediv_iff_mul_le hD).mpr key
  omega
