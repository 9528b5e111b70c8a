/-! a row of numbers below 6 as one number: it grows where the first change is upward -/
def numR (f : Nat → Int) : Nat → Int
  | 0 => 0
  | n + 1 => numR f n * 6 + f n
theorem numR_eq {f g : Nat → Int} : ∀ n : Nat, (∀ i, i < n → g i = f i) → numR g n = numR f n := by
  intro n
  induction n with
  | zero => intro _; rfl
  | succ n ih =>
    intro h
    show numR g n * 6 + g n = numR f n * 6 + f n
    rw [ih (fun i hi => h i (by omega)), h n (by omega)]
theorem numR_nn {f : Nat → Int} : ∀ n : Nat, (∀ i, i < n → 0 ≤ f i ∧ f i ≤ 5) → 0 ≤ numR f n ∧ numR f n < 6 ^ n := by
  intro n
  induction n with
  | zero => intro _; exact ⟨Int.le_refl _, by show (0 : Int) < 1; decide⟩
  | succ n ih =>
    intro h
    have h1 := ih (fun i hi => h i (by omega))
    have h2 := h n (by omega)
    have e : (6 : Int) ^ (n + 1) = 6 ^ n * 6 := by rw [Int.pow_succ]
    show 0 ≤ numR f n * 6 + f n ∧ numR f n * 6 + f n < 6 ^ (n + 1)
    rw [e]
    omega
theorem numR_up {f g : Nat → Int} {k : Nat} (hk : ∀ i, i < k → g i = f i) (hu : f k < g k) : ∀ n : Nat, k < n → (∀ i, i < n → 0 ≤ f i ∧ f i ≤ 5) → (∀ i, i < n → 0 ≤ g i ∧ g i ≤ 5) → numR f n < numR g n := by
  intro n
  induction n with
  | zero => intro h; omega
  | succ n ih =>
    intro h hf hg
    have h1 := hf n (by omega)
    have h2 := hg n (by omega)
    show numR f n * 6 + f n < numR g n * 6 + g n
    by_cases e : k = n
    · subst e
      rw [numR_eq k hk]
      omega
    · have h3 := ih (by omega) (fun i hi => hf i (by omega)) (fun i hi => hg i (by omega))
      omega
/-- no number stands twice; a swap keeps that -/
def Dst (f : Nat → Int) (n : Nat) : Prop := ∀ i j, i < n → j < n → f i = f j → i = j
def swp (f : Nat → Int) (a b : Nat) : Nat → Int := fun i => if i = b then f a else if i = a then f b else f i
theorem Dst_swp {f : Nat → Int} {n a b : Nat} (h : Dst f n) (ha : a < n) (hb : b < n) : Dst (swp f a b) n := by
  by_cases ab : a = b
  · subst ab
    have e : swp f a a = f := by
      funext i
      unfold swp
      by_cases h1 : i = a
      · rw [if_pos h1, h1]
      · rw [if_neg h1, if_neg h1]
    rw [e]
    exact h
  · intro i j hi hj he
    have ab2 : ¬ b = a := fun q => ab q.symm
    unfold swp at he
    by_cases i1 : i = b <;> by_cases j1 : j = b <;> by_cases i2 : i = a <;> by_cases j2 : j = a <;> simp [i1, i2, j1, j2, ab, ab2] at he <;>
      first
        | omega
        | (have := h _ _ ha hb he; omega)
        | (have := h _ _ hb ha he; omega)
        | (have := h _ _ ha hj he; omega)
        | (have := h _ _ hb hj he; omega)
        | (have := h _ _ hi ha he; omega)
        | (have := h _ _ hi hb he; omega)
        | (have := h _ _ hi hj he; omega)
