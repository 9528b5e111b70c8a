/-! the walk's other steps: a height begun, done, a column done -/
def IY (p q : Int) (F : Nat → Nat → Int) (only stop : Int) (w : Nat) (L : Nat → Nat → Int) (n : Nat) (y : Int) : Prop :=
  (∀ y', y ≤ y' → y' ≤ 24 → Cel p q L (Pre F only n y') n y') ∧ (∀ z', 0 ≤ z' → z' ≤ 24 → Cel p q L (Con F only n y z') (n + 1) z') ∧
  (∀ (n' : Nat) (z' : Int), n + 1 < n' → n' ≤ w → 0 ≤ z' → z' ≤ 24 → L 124 (ix n' z') = far) ∧ Bst p q (Bts F only stop n y) (L 110 23) (L 110 24) (L 110 25)
/-- the same, the way begun at y counted -/
def IS (p q : Int) (F : Nat → Nat → Int) (only stop : Int) (w : Nat) (L : Nat → Nat → Int) (n : Nat) (y : Int) : Prop :=
  Cel p q L (Rch F only n y) n y ∧ (∀ y', y < y' → y' ≤ 24 → Cel p q L (Pre F only n y') n y') ∧ (∀ z', 0 ≤ z' → z' ≤ 24 → Cel p q L (Con F only n y z') (n + 1) z') ∧
  (∀ (n' : Nat) (z' : Int), n + 1 < n' → n' ≤ w → 0 ≤ z' → z' ≤ 24 → L 124 (ix n' z') = far) ∧ Bst p q (Bts F only stop n y) (L 110 23) (L 110 24) (L 110 25)
theorem Rch_eq {F : Nat → Nat → Int} {only y H D : Int} : ∀ n : Nat, Rch F only n y H D ↔ (((only < 0 ∨ only = (n : Int)) ∧ y = fTop F n ∧ H = 0 ∧ D = 0) ∨ Pre F only n y H D) := by
  intro n
  cases n with
  | zero =>
    constructor
    · intro h; exact Or.inl h
    · rintro (h | h)
      · exact h
      · exact h.elim
  | succ n => exact Con_all
theorem IY_same {p q : Int} {F : Nat → Nat → Int} {only stop : Int} {w : Nat} {L : Nat → Nat → Int} {n : Nat} {y : Int} (h : IY p q F only stop w L n y) (hy : y ≤ 24) (hn : ¬ ((only < 0 ∨ only = (n : Int)) ∧ y = fTop F n)) : IS p q F only stop w L n y := by
  obtain ⟨h1, h2, h3, h4⟩ := h
  refine ⟨Bst_congr (h1 y (Int.le_refl _) hy) (fun H D => ?_), fun y' a b => h1 y' (by omega) b, h2, h3, h4⟩
  rw [Rch_eq]
  constructor
  · rintro (⟨a, b, -⟩ | h)
    · exact absurd ⟨a, b⟩ hn
    · exact h
  · exact Or.inr
/-- a way begun here: the cell takes 0, 0, 0 if that is better -/
theorem IY_begin {p q : Int} {F : Nat → Nat → Int} {only stop : Int} {w : Nat} {L L' : Nat → Nat → Int} {n : Nat} {y : Int} (h : IY p q F only stop w L n y) (hy0 : 0 ≤ y) (hy : y ≤ 24) (hn : (only < 0 ∨ only = (n : Int)) ∧ y = fTop F n)
    (hc1 : (0 < L 124 (ix n y) ∨ (0 = L 124 (ix n y) ∧ L 125 (ix n y) < 0)) → L' 124 (ix n y) = 0 ∧ L' 125 (ix n y) = 0 ∧ L' 126 (ix n y) = 0)
    (hc2 : ¬ (0 < L 124 (ix n y) ∨ (0 = L 124 (ix n y) ∧ L 125 (ix n y) < 0)) → L' 124 (ix n y) = L 124 (ix n y) ∧ L' 125 (ix n y) = L 125 (ix n y) ∧ L' 126 (ix n y) = L 126 (ix n y))
    (ho : ∀ i, i ≠ ix n y → L' 124 i = L 124 i ∧ L' 125 i = L 125 i ∧ L' 126 i = L 126 i) (hbe : L' 110 = L 110) : IS p q F only stop w L' n y := by
  obtain ⟨h1, h2, h3, h4⟩ := h
  have ixe : ∀ (n1 : Nat) (z1 : Int), 0 ≤ z1 → z1 ≤ 24 → (n1 ≠ n ∨ z1 ≠ y) → ix n1 z1 ≠ ix n y := by
    intro n1 z1 a b e
    unfold ix
    omega
  have cel : ∀ (P : Int → Int → Prop) (n1 : Nat) (z1 : Int), 0 ≤ z1 → z1 ≤ 24 → (n1 ≠ n ∨ z1 ≠ y) → Cel p q L P n1 z1 → Cel p q L' P n1 z1 := by
    intro P n1 z1 a b e hC
    obtain ⟨e1, e2, e3⟩ := ho _ (ixe n1 z1 a b e)
    unfold Cel at *
    rw [e1, e2, e3]
    exact hC
  refine ⟨?_, fun y' a b => cel _ _ _ (by omega) b (Or.inr (by omega)) (h1 y' (by omega) b), fun z' a b => cel _ _ _ a b (Or.inl (by omega)) (h2 z' a b), fun n' z' a b c d => ?_, ?_⟩
  · have hor := Bst_or (h1 y (Int.le_refl _) hy) (Bst_one (p := p) (q := q)) (by decide)
    refine Bst_congr (P := fun H D => Pre F only n y H D ∨ (H = 0 ∧ D = 0)) ?_ (fun H D => ?_)
    · by_cases hb : 0 < L 124 (ix n y) ∨ (0 = L 124 (ix n y) ∧ L 125 (ix n y) < 0)
      · obtain ⟨e1, e2, e3⟩ := hc1 hb
        rw [e1, e2, e3]
        exact hor.1 hb
      · obtain ⟨e1, e2, e3⟩ := hc2 hb
        rw [e1, e2, e3]
        exact hor.2 hb
    · rw [Rch_eq]
      constructor
      · rintro (⟨-, -, a, b⟩ | h)
        · exact Or.inr ⟨a, b⟩
        · exact Or.inl h
      · rintro (h | ⟨a, b⟩)
        · exact Or.inr h
        · exact Or.inl ⟨hn.1, hn.2, a, b⟩
  · rw [(ho _ (ixe n' z' c d (Or.inl (by omega)))).1]
    exact h3 n' z' a b c d
  · rw [hbe]
    exact h4
/-- no way comes to y: the next height -/
theorem IS_none {p q : Int} {F : Nat → Nat → Int} {only stop : Int} {w : Nat} {L : Nat → Nat → Int} {n : Nat} {y : Int} (h : IS p q F only stop w L n y) (hf : L 124 (ix n y) = far) : IY p q F only stop w L n (y + 1) := by
  obtain ⟨h1, h2, h3, h4, h5⟩ := h
  have hr : ∀ H D, ¬ Rch F only n y H D := by
    rcases h1 with ⟨-, h⟩ | ⟨h, -⟩
    · exact h
    · omega
  exact ⟨fun y' a b => h2 y' (by omega) b, fun z' a b => Bst_congr (h3 z' a b) (fun H D => Con_none hr), h4, Bst_congr h5 (Bts_congr (fun H D => Con_none hr))⟩
theorem no_can {F : Nat → Nat → Int} {c y z : Int} (h : z < y - 4 ∨ y + 4 < z) : ¬ fCan F c y z := by
  intro hc
  have := hc.1
  unfold highF lowF at this
  split at this <;> omega
/-- into the heights z from y -/
theorem IS_in {p q : Int} {F : Nat → Nat → Int} {only stop : Int} {w : Nat} {L : Nat → Nat → Int} {n : Nat} {y z : Int} (h : IS p q F only stop w L n y) (hz : z = 0 ∨ z = y - 4) (hz0 : 0 ≤ z) (ht : 0 ≤ fTop F n) : IZ p q F only stop w L n y z := by
  obtain ⟨h1, h2, h3, h4, h5⟩ := h
  refine ⟨h1, h2, fun z' a b c => Bst_congr (h3 z' a c) (fun H D => Con_no (no_can (by omega))), fun z' a b => ?_, h4, fun a => Bst_congr h5 (Bts_congr (fun H D => Con_no (no_can (by omega)))), fun a => h5⟩
  exact h3 z' (by omega) b
/-- out of them -/
theorem IZ_out {p q : Int} {F : Nat → Nat → Int} {only stop : Int} {w : Nat} {L : Nat → Nat → Int} {n : Nat} {y z : Int} (h : IZ p q F only stop w L n y z) (hz : y + 4 < z ∨ 25 ≤ z) (ht : fTop F n ≤ 24) : IY p q F only stop w L n (y + 1) := by
  obtain ⟨h1, h2, h3, h4, h5, h6, h7⟩ := h
  refine ⟨fun y' a b => h2 y' (by omega) b, fun z' a b => ?_, h5, ?_⟩
  · by_cases e : z' < z
    · exact h3 z' a e b
    · exact Bst_congr (h4 z' (by omega) b) (fun H D => Con_no (no_can (by omega)))
  · by_cases e : fTop F n < z
    · exact h6 e
    · exact Bst_congr (h7 (by omega)) (Bts_congr (fun H D => Con_no (no_can (by omega))))
theorem Bts_next {F : Nat → Nat → Int} {only stop H D : Int} {n : Nat} : Bts F only stop (n + 1) 0 H D ↔ Bts F only stop n 25 H D := by
  unfold Bts
  constructor
  · rintro (⟨k, hk, hs, hl⟩ | ⟨-, hc⟩)
    · by_cases e : k = n
      · subst e
        exact Or.inr ⟨hs, Con_line.mp hl⟩
      · exact Or.inl ⟨k, by omega, hs, hl⟩
    · exact absurd hc Con_0
  · rintro (⟨k, hk, hs, hl⟩ | ⟨hs, hc⟩)
    · exact Or.inl ⟨k, by omega, hs, hl⟩
    · exact Or.inl ⟨n, by omega, hs, Con_line.mpr hc⟩
/-- a column done -/
theorem IY_next {p q : Int} {F : Nat → Nat → Int} {only stop : Int} {w : Nat} {L : Nat → Nat → Int} {n : Nat} (h : IY p q F only stop w L n 25) (hw : n + 2 ≤ w) : IY p q F only stop w L (n + 1) 0 := by
  obtain ⟨h1, h2, h3, h4⟩ := h
  exact ⟨fun y' a b => h2 y' a b, fun z' a b => Or.inl ⟨h3 (n + 2) z' (by omega) hw a b, fun H D => Con_0⟩, fun n' z' a b c d => h3 n' z' (by omega) b c d, Bst_congr h4 (fun H D => Bts_next)⟩
/-- the last one: the best of all lines -/
theorem IY_end {p q : Int} {F : Nat → Nat → Int} {only stop : Int} {w : Nat} {L : Nat → Nat → Int} {n : Nat} (h : IY p q F only stop w L n 25) (hw : w = n + 1) : Bst p q (Lns F only stop w) (L 110 23) (L 110 24) (L 110 25) := by
  subst hw
  refine Bst_congr h.2.2.2 (fun H D => ?_)
  rw [← Bts_next]
  unfold Bts
  constructor
  · exact Or.inl
  · rintro (h | ⟨-, h⟩)
    · exact h
    · exact absurd h Con_0
/-- before the first -/
theorem IY_first {p q : Int} {F : Nat → Nat → Int} {only stop : Int} {w : Nat} {L : Nat → Nat → Int} (hw : 1 ≤ w) (hf : ∀ (n' : Nat) (z' : Int), n' ≤ w → 0 ≤ z' → z' ≤ 24 → L 124 (ix n' z') = far) (hb : L 110 23 = far) : IY p q F only stop w L 0 0 := by
  refine ⟨fun y' a b => Or.inl ⟨hf 0 y' (by omega) a b, fun H D h => h⟩, fun z' a b => Or.inl ⟨hf 1 z' hw a b, fun H D => Con_0⟩, fun n' z' a b c d => hf n' z' b c d, Or.inl ⟨hb, ?_⟩⟩
  rintro H D (⟨k, hk, -⟩ | ⟨-, h⟩)
  · omega
  · exact Con_0 h
