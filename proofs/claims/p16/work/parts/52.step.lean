/-! one step of the walk, over the longs L: 124 the sums, 125 what drove, 126 what held; 110's places 23, 24, 25 the best -/
def ix (n : Nat) (z : Int) : Nat := (25 * (n : Int) + z).toNat
def Cel (p q : Int) (L : Nat → Nat → Int) (P : Int → Int → Prop) (n : Nat) (z : Int) : Prop := Bst p q P (L 124 (ix n z)) (L 125 (ix n z)) (L 126 (ix n z))
def Pre (F : Nat → Nat → Int) (only : Int) : Nat → Int → Int → Int → Prop
  | 0, _, _, _ => False
  | n + 1, z, H, D => Con F only n 25 z H D
def Bts (F : Nat → Nat → Int) (only stop : Int) (n : Nat) (yl H D : Int) : Prop := Lns F only stop n H D ∨ ((stop < 0 ∨ stop = (n : Int) + 1) ∧ Con F only n yl (fTop F n) H D)
def IZ (p q : Int) (F : Nat → Nat → Int) (only stop : Int) (w : Nat) (L : Nat → Nat → Int) (n : Nat) (y z : Int) : Prop :=
  Cel p q L (Rch F only n y) n y ∧ (∀ y', y < y' → y' ≤ 24 → Cel p q L (Pre F only n y') n y') ∧
  (∀ z', 0 ≤ z' → z' < z → z' ≤ 24 → Cel p q L (Con F only n (y + 1) z') (n + 1) z') ∧ (∀ z', z ≤ z' → z' ≤ 24 → Cel p q L (Con F only n y z') (n + 1) z') ∧
  (∀ (n' : Nat) (z' : Int), n + 1 < n' → n' ≤ w → 0 ≤ z' → z' ≤ 24 → L 124 (ix n' z') = far) ∧
  (fTop F n < z → Bst p q (Bts F only stop n (y + 1)) (L 110 23) (L 110 24) (L 110 25)) ∧ (z ≤ fTop F n → Bst p q (Bts F only stop n y) (L 110 23) (L 110 24) (L 110 25))
theorem Bts_congr {F : Nat → Nat → Int} {only stop y : Int} {n : Nat} (h : ∀ H D, Con F only n (y + 1) (fTop F n) H D ↔ Con F only n y (fTop F n) H D) (H D : Int) : Bts F only stop n (y + 1) H D ↔ Bts F only stop n y H D := by
  unfold Bts
  rw [h H D]
/-- where the column can't be gone through so -/
theorem IZ_no {p q : Int} {F : Nat → Nat → Int} {only stop : Int} {w : Nat} {L : Nat → Nat → Int} {n : Nat} {y z : Int} (h : IZ p q F only stop w L n y z) (hz0 : 0 ≤ z) (hc : ¬ fCan F n y z) : IZ p q F only stop w L n y (z + 1) := by
  obtain ⟨h1, h2, h3, h4, h5, h6, h7⟩ := h
  refine ⟨h1, h2, fun z' a b c => ?_, fun z' a b => h4 z' (by omega) b, h5, fun a => ?_, fun a => h7 (by omega)⟩
  · by_cases e : z' = z
    · subst e
      exact Bst_congr (h4 z' (Int.le_refl _) c) (fun H D => Con_no hc)
    · exact h3 z' a (by omega) c
  · by_cases e : fTop F n = z
    · refine Bst_congr (h7 (by omega)) (Bts_congr (fun H D => ?_))
      rw [e]
      exact Con_no hc
    · exact h6 (by omega)
/-- where it can: the best and the cell take what is better -/
theorem IZ_yes {p q : Int} {F : Nat → Nat → Int} {only stop : Int} {w : Nat} {L L' : Nat → Nat → Int} {n : Nat} {y z hh dd s : Int} (h : IZ p q F only stop w L n y z) (hy0 : 0 ≤ y) (hy : y ≤ 24) (hz0 : 0 ≤ z) (hz : z ≤ 24) (hc : fCan F n y z) (hs : L 124 (ix n y) < far) (eh : hh = fHolds F n y z) (ed : dd = fDrives F n y z) (es : s = L 124 (ix n y) + q * hh - p * dd) (hsf : s < far)
    (hb1 : (fTop F n = z ∧ (stop < 0 ∨ stop = (n : Int) + 1)) ∧ (s < L 110 23 ∨ (s = L 110 23 ∧ L 110 24 < L 125 (ix n y) + dd)) → L' 110 23 = s ∧ L' 110 24 = L 125 (ix n y) + dd ∧ L' 110 25 = L 126 (ix n y) + hh)
    (hb2 : ¬ ((fTop F n = z ∧ (stop < 0 ∨ stop = (n : Int) + 1)) ∧ (s < L 110 23 ∨ (s = L 110 23 ∧ L 110 24 < L 125 (ix n y) + dd))) → L' 110 23 = L 110 23 ∧ L' 110 24 = L 110 24 ∧ L' 110 25 = L 110 25)
    (hc1 : (s < L 124 (ix (n + 1) z) ∨ (s = L 124 (ix (n + 1) z) ∧ L 125 (ix (n + 1) z) < L 125 (ix n y) + dd)) → L' 124 (ix (n + 1) z) = s ∧ L' 125 (ix (n + 1) z) = L 125 (ix n y) + dd ∧ L' 126 (ix (n + 1) z) = L 126 (ix n y) + hh)
    (hc2 : ¬ (s < L 124 (ix (n + 1) z) ∨ (s = L 124 (ix (n + 1) z) ∧ L 125 (ix (n + 1) z) < L 125 (ix n y) + dd)) → L' 124 (ix (n + 1) z) = L 124 (ix (n + 1) z) ∧ L' 125 (ix (n + 1) z) = L 125 (ix (n + 1) z) ∧ L' 126 (ix (n + 1) z) = L 126 (ix (n + 1) z))
    (ho : ∀ i, i ≠ ix (n + 1) z → L' 124 i = L 124 i ∧ L' 125 i = L 125 i ∧ L' 126 i = L 126 i) : IZ p q F only stop w L' n y (z + 1) := by
  obtain ⟨h1, h2, h3, h4, h5, h6, h7⟩ := h
  have ixe : ∀ (n1 : Nat) (z1 : Int), 0 ≤ z1 → z1 ≤ 24 → (n1 ≠ n + 1 ∨ z1 ≠ z) → ix n1 z1 ≠ ix (n + 1) z := by
    intro n1 z1 a b e
    unfold ix
    omega
  have cel : ∀ (P : Int → Int → Prop) (n1 : Nat) (z1 : Int), 0 ≤ z1 → z1 ≤ 24 → (n1 ≠ n + 1 ∨ z1 ≠ z) → Cel p q L P n1 z1 → Cel p q L' P n1 z1 := by
    intro P n1 z1 a b e hC
    obtain ⟨e1, e2, e3⟩ := ho _ (ixe n1 z1 a b e)
    unfold Cel at *
    rw [e1, e2, e3]
    exact hC
  have hsh : Bst p q (Sh (Rch F only n y) (fHolds F n y z) (fDrives F n y z)) s (L 125 (ix n y) + dd) (L 126 (ix n y) + hh) := by
    have := Bst_sh h1 hs (hh := hh) (dd := dd) (by omega)
    rw [← es, eh, ed] at this
    rw [eh, ed]
    exact this
  refine ⟨cel _ _ _ hy0 hy (Or.inl (by omega)) h1, fun y' a b => cel _ _ _ (by omega) b (Or.inl (by omega)) (h2 y' a b), fun z' a b c => ?_, fun z' a b => cel _ _ _ (by omega) b (Or.inr (by omega)) (h4 z' (by omega) b), fun n' z' a b c d => ?_, fun a => ?_, fun a => ?_⟩
  · by_cases e : z' = z
    · subst e
      have hor := Bst_or (h4 z' (Int.le_refl _) c) hsh hsf
      refine Bst_congr (P := fun H D => Con F only n y z' H D ∨ Sh (Rch F only n y) (fHolds F n y z') (fDrives F n y z') H D) ?_ (fun H D => Con_yes hy0 hy hc)
      by_cases hb : s < L 124 (ix (n + 1) z') ∨ (s = L 124 (ix (n + 1) z') ∧ L 125 (ix (n + 1) z') < L 125 (ix n y) + dd)
      · obtain ⟨e1, e2, e3⟩ := hc1 hb
        rw [e1, e2, e3]
        exact hor.1 hb
      · obtain ⟨e1, e2, e3⟩ := hc2 hb
        rw [e1, e2, e3]
        exact hor.2 hb
    · exact cel _ _ _ a c (Or.inr e) (h3 z' a (by omega) c)
  · rw [(ho _ (ixe n' z' c d (Or.inl (by omega)))).1]
    exact h5 n' z' a b c d
  · by_cases e : fTop F n = z
    · have hB := h7 (by omega)
      by_cases he : stop < 0 ∨ stop = (n : Int) + 1
      · have hor := Bst_or hB hsh hsf
        refine Bst_congr (P := fun H D => Bts F only stop n y H D ∨ Sh (Rch F only n y) (fHolds F n y z) (fDrives F n y z) H D) ?_ (fun H D => ?_)
        · by_cases hb : s < L 110 23 ∨ (s = L 110 23 ∧ L 110 24 < L 125 (ix n y) + dd)
          · obtain ⟨e1, e2, e3⟩ := hb1 ⟨⟨e, he⟩, hb⟩
            rw [e1, e2, e3]
            exact hor.1 hb
          · obtain ⟨e1, e2, e3⟩ := hb2 (fun x => hb x.2)
            rw [e1, e2, e3]
            exact hor.2 hb
        · unfold Bts
          rw [e, Con_yes hy0 hy hc]
          constructor
          · rintro (x | ⟨x, x2 | x2⟩)
            · exact Or.inl (Or.inl x)
            · exact Or.inl (Or.inr ⟨x, x2⟩)
            · exact Or.inr x2
          · rintro ((x | ⟨x, x2⟩) | x2)
            · exact Or.inl x
            · exact Or.inr ⟨x, Or.inl x2⟩
            · exact Or.inr ⟨he, Or.inr x2⟩
      · obtain ⟨e1, e2, e3⟩ := hb2 (fun x => he x.1.2)
        rw [e1, e2, e3]
        refine Bst_congr hB (fun H D => ?_)
        unfold Bts
        constructor
        · rintro (x | ⟨x, -⟩)
          · exact Or.inl x
          · exact absurd x he
        · rintro (x | ⟨x, -⟩)
          · exact Or.inl x
          · exact absurd x he
    · obtain ⟨e1, e2, e3⟩ := hb2 (fun x => e x.1.1)
      rw [e1, e2, e3]
      exact h6 (by omega)
  · obtain ⟨e1, e2, e3⟩ := hb2 (fun x => by have := x.1.1; omega)
    rw [e1, e2, e3]
    exact h7 (by omega)
