/-! numbers as Ints: an int or a long by a whole number -/
def iI (z : Int) : Int32 := Int32.ofInt z
def lL (z : Int) : Int64 := Int64.ofInt z
abbrev r32 (z : Int) : Prop := -2147483648 ≤ z ∧ z ≤ 2147483647
abbrev r64 (z : Int) : Prop := -9223372036854775808 ≤ z ∧ z ≤ 9223372036854775807
theorem iI_toInt {z : Int} (h : r32 z) : (iI z).toInt = z := by
  unfold iI
  rw [Int32.toInt_ofInt, Int.bmod_def, show Int32.size = 4294967296 from rfl]
  obtain ⟨h1, h2⟩ := h
  split <;> omega
theorem lL_toInt {z : Int} (h : r64 z) : (lL z).toInt = z := by
  unfold lL
  rw [Int64.toInt_ofInt, Int.bmod_def, show Int64.size = 18446744073709551616 from rfl]
  obtain ⟨h1, h2⟩ := h
  split <;> omega
theorem iI_of (x : Int32) : x = iI x.toInt := by unfold iI; rw [Int32.ofInt_toInt]
theorem lL_of (x : Int64) : x = lL x.toInt := by unfold lL; rw [Int64.ofInt_toInt]
theorem i_r32 (x : Int32) : r32 x.toInt := by
  have h1 := Int32.le_toInt x
  have h2 := Int32.toInt_lt x
  constructor <;> omega
theorem l_r64 (x : Int64) : r64 x.toInt := by
  have h1 := Int64.le_toInt x
  have h2 := Int64.toInt_lt x
  constructor <;> omega
theorem iI_add (a b : Int) : iI a + iI b = iI (a + b) := by unfold iI; rw [Int32.ofInt_add]
theorem iI_sub (a b : Int) : iI a - iI b = iI (a - b) := by unfold iI; rw [Int32.ofInt_sub]
theorem iI_mul (a b : Int) : iI a * iI b = iI (a * b) := by unfold iI; rw [Int32.ofInt_mul]
theorem iI_neg (a : Int) : -iI a = iI (-a) := by unfold iI; rw [Int32.ofInt_neg]
theorem lL_add (a b : Int) : lL a + lL b = lL (a + b) := by unfold lL; rw [Int64.ofInt_add]
theorem lL_sub (a b : Int) : lL a - lL b = lL (a - b) := by unfold lL; rw [Int64.ofInt_sub]
theorem lL_mul (a b : Int) : lL a * lL b = lL (a * b) := by unfold lL; rw [Int64.ofInt_mul]
theorem iI_lt {a b : Int} (ha : r32 a) (hb : r32 b) : iI a < iI b ↔ a < b := by rw [Int32.lt_iff_toInt_lt, iI_toInt ha, iI_toInt hb]
theorem iI_le {a b : Int} (ha : r32 a) (hb : r32 b) : iI a ≤ iI b ↔ a ≤ b := by rw [Int32.le_iff_toInt_le, iI_toInt ha, iI_toInt hb]
theorem iI_eq {a b : Int} (ha : r32 a) (hb : r32 b) : iI a = iI b ↔ a = b := by rw [← Int32.toInt_inj, iI_toInt ha, iI_toInt hb]
theorem lL_lt {a b : Int} (ha : r64 a) (hb : r64 b) : lL a < lL b ↔ a < b := by rw [Int64.lt_iff_toInt_lt, lL_toInt ha, lL_toInt hb]
theorem lL_eq {a b : Int} (ha : r64 a) (hb : r64 b) : lL a = lL b ↔ a = b := by rw [← Int64.toInt_inj, lL_toInt ha, lL_toInt hb]
theorem iI_0 : iI 0 = 0 := by decide +kernel
theorem iI_in {z : Int} {n : Nat} (h0 : 0 ≤ z) (h1 : z < n) (hn : n < 2 ^ 31) : vp_in (iI z) n := by
  rw [vp_in_iff, iI_toInt ⟨by omega, by omega⟩]
  exact ⟨h0, h1⟩
theorem iI_cl {z : Int} (h0 : 0 ≤ z) (h1 : z ≤ 2147483647) : (iI z).toNatClampNeg = z.toNat := by
  unfold Int32.toNatClampNeg
  rw [iI_toInt ⟨by omega, h1⟩]
theorem iI_bool {z : Int} (h : z = 0 ∨ z = 1) : narrow .boolean (.int (iI z)) = .int (iI z) := by rcases h with rfl | rfl <;> decide +kernel
/-! the system's memory: whole numbers, longs and references by an object's number and a place in it -/
abbrev Mem : Type := (Nat → Nat → Int) × (Nat → Nat → Int) × (Nat → Nat → Option Nat)
def sI (M : Mem) (a k : Nat) (z : Int) : Mem := (fun x j => if x = a ∧ j = k then z else M.1 x j, M.2)
def sL (M : Mem) (a k : Nat) (z : Int) : Mem := (M.1, fun x j => if x = a ∧ j = k then z else M.2.1 x j, M.2.2)
def sR (M : Mem) (a k : Nat) (z : Option Nat) : Mem := (M.1, M.2.1, fun x j => if x = a ∧ j = k then z else M.2.2 x j)
/-- the roles of the objects, in the order in which the law makes them -/
def kdL : List Nat := [0, 1, 2, 3, 4, 5, 6, 7, 8, 9, 10, 11, 8, 9, 10, 11, 8, 9, 10, 11, 8, 9, 10, 11, 8, 9, 10, 11, 8, 9, 10, 11, 8, 9, 10, 11, 8, 9, 10, 11, 8, 9, 10, 11, 8, 9, 10, 11, 8, 9, 10, 11, 8, 9, 10, 11,
  12, 7, 8, 10, 11, 8, 10, 11, 8, 10, 11, 8, 10, 11, 8, 10, 11, 8, 10, 11, 8, 10, 11, 8, 10, 11, 8, 10, 11, 8, 10, 11, 8, 10, 11, 8, 10, 11,
  13, 14, 15, 16, 17, 18, 19, 20, 22, 21, 22, 23, 23, 24, 25, 25, 30, 31, 32, 33, 34, 35, 36, 37, 38, 39, 40, 41, 42, 43, 44, 45, 46, 47, 48, 49, 50]
def kd (a : Nat) : Nat := kdL.getD a 99
def nAll : Nat := 131
theorem kdL_len : kdL.length = nAll := by decide +kernel
/-- a role's shape: 0 an object of a class, else an array (1 int, 2 long, 3 boolean, 4 Column) with its length -/
def shp (r : Nat) : Nat × Nat := match r with
  | 0 => (0, 7) | 1 => (0, 2) | 2 => (1, 6) | 3 => (1, 6) | 4 => (1, 6) | 5 => (3, 6) | 6 => (0, 4) | 7 => (4, 12) | 8 => (0, 1) | 9 => (1, 24) | 10 => (1, 25) | 11 => (1, 125)
  | 12 => (0, 4) | 13 => (0, 0) | 14 => (1, 6) | 15 => (1, 6) | 16 => (1, 6) | 17 => (0, 6) | 18 => (2, 325) | 19 => (2, 12) | 20 => (0, 5) | 21 => (0, 5) | 22 => (1, 13) | 23 => (0, 3) | 24 => (3, 64) | 25 => (1, 6) | 26 => (1, 6)
  | 30 => (0, 8) | 31 => (1, 6) | 32 => (1, 6) | 33 => (1, 6) | 34 => (3, 6) | 35 => (1, 288) | 36 => (1, 24) | 37 => (1, 24) | 38 => (1, 24) | 39 => (1, 24) | 40 => (1, 6) | 41 => (1, 6) | 42 => (1, 6) | 43 => (1, 13) | 44 => (2, 325) | 45 => (2, 325) | 46 => (2, 325) | 47 => (1, 13) | 48 => (1, 6) | 49 => (1, 6)
  | _ => (2, 1)
/-- the kinds of a class's fields: 0 an int, 1 a long, 2 a reference, 3 a boolean -/
def fks (ci : Nat) : List Nat := match ci with
  | 0 => [0, 2, 2, 2]
  | 1 => [2, 0, 0, 0, 0, 2, 2, 2, 3]
  | 2 => [2, 2, 2, 2, 0]
  | 3 => [1, 1]
  | 4 => [2, 0]
  | 5 => [2, 0, 0]
  | 6 => [2, 2, 2, 1, 1, 0, 3]
  | 7 => [2, 2, 2, 2, 2, 2, 2, 2, 2, 2, 2, 2, 0, 3, 3]
  | _ => [0, 0, 2, 2, 2, 2, 2, 2, 2, 2, 2, 0, 0, 2, 2, 2, 0, 0, 2, 0, 2, 2, 2, 1, 1, 1, 3, 1, 1, 0, 0, 2, 2, 2, 0]
abbrev xG : Type := va_G × (Nat → ClassId) × Nat
def xTys (G : xG) : List (ClassId × FieldType) := [(G.2.1 0, .int), (G.2.1 1, .long), (G.2.1 2, .boolean), (G.2.1 3, .object "SlipBench$Column")]
def cv (b : Nat) (v : Value) : Value := match v with
  | .ref k => .ref (b + k)
  | v => v
def xF (b : Nat) (M : Mem) (a : Nat) (k : Nat) (t : Nat) : Value := match t with
  | 1 => .long (lL (M.2.1 a k))
  | 2 => va_rf ((M.2.2 a k).map (b + ·))
  | _ => .int (iI (M.1 a k))
def xFs (b : Nat) (M : Mem) (a : Nat) (k : Nat) (l : List Nat) : List Value := match l with
  | [] => []
  | t :: r => xF b M a k t :: xFs b M a (k + 1) r
def xE (G : xG) (M : Mem) (a : Nat) : va_E := match shp (kd a) with
  | (0, ci) => .inr (ci, xFs G.2.2 M a 0 (fks ci))
  | (1, n) => .inl (G.2.1 0, n, .inl (fun j => iI (M.1 a j)))
  | (2, n) => .inl (G.2.1 1, n, .inr (.inl (fun j => lL (M.2.1 a j))))
  | (3, n) => .inl (G.2.1 2, n, .inl (fun j => iI (M.1 a j)))
  | (_, n) => .inl (G.2.1 3, n, .inr (.inr (.inr (.inr (fun j => (M.2.2 a j).map (G.2.2 + ·))))))
def xWs (G : xG) (n : Nat) (M : Mem) : va_W := (List.range n).map fun a => (G.2.2 + a, xE G M a)
theorem xWs_at {G : xG} {n : Nat} {M : Mem} {a : Nat} (h : a < n) : (xWs G n M)[a]? = some (G.2.2 + a, xE G M a) := by
  unfold xWs
  rw [List.getElem?_map, List.getElem?_range h]
  rfl
theorem xWs_inv {G : xG} {n : Nat} {M : Mem} {a : Nat} {q : Nat × va_E} (h : (xWs G n M)[a]? = some q) : a < n ∧ q = (G.2.2 + a, xE G M a) := by
  have hl : a < n := by
    have h1 := (List.getElem?_eq_some_iff.mp h).1
    unfold xWs at h1
    rwa [List.length_map, List.length_range] at h1
  exact ⟨hl, (Option.some.inj ((xWs_at hl).symm.trans h)).symm⟩
theorem xD {G : xG} {n : Nat} {M : Mem} : va_D (fun q => G.2.2 ≤ q) (xWs G n M) := by
  refine ⟨fun i j p q hi hj h => ?_, fun k q hk => ?_⟩
  · obtain ⟨-, rfl⟩ := xWs_inv hi
    obtain ⟨-, rfl⟩ := xWs_inv hj
    have h1 : G.2.2 + i = G.2.2 + j := h
    omega
  · obtain ⟨-, rfl⟩ := xWs_inv hk
    exact Nat.le_add_right _ _
theorem xWs_set {G : xG} {n : Nat} {M M' : Mem} {a : Nat} {e : va_E} (hl : a < n) (he : xE G M' a = e) (ho : ∀ b, b ≠ a → xE G M' b = xE G M b) : (xWs G n M).set a (G.2.2 + a, e) = xWs G n M' := by
  apply List.ext_getElem?
  intro j
  by_cases hj : j = a
  · subst hj
    rw [List.getElem?_set_self (by unfold xWs; rw [List.length_map, List.length_range]; exact hl), xWs_at hl, he]
  · rw [List.getElem?_set_ne (Ne.symm hj)]
    by_cases hn : j < n
    · rw [xWs_at hn, xWs_at hn, ho j hj]
    · have e1 : ∀ M0 : Mem, (xWs G n M0)[j]? = none := fun M0 => List.getElem?_eq_none (by unfold xWs; rw [List.length_map, List.length_range]; omega)
      rw [e1, e1]
/-- cells of other objects stay -/
theorem xFs_o {b : Nat} {M M' : Mem} {a : Nat} (h1 : M'.1 a = M.1 a) (h2 : M'.2.1 a = M.2.1 a) (h3 : M'.2.2 a = M.2.2 a) : ∀ (l : List Nat) (k : Nat), xFs b M' a k l = xFs b M a k l := by
  intro l
  induction l with
  | nil => intro k; rfl
  | cons t r ih =>
    intro k
    unfold xFs
    rw [ih]
    have e : xF b M' a k t = xF b M a k t := by
      unfold xF
      rw [h1, h2, h3]
    rw [e]
theorem xE_o {G : xG} {M M' : Mem} {a : Nat} (h1 : M'.1 a = M.1 a) (h2 : M'.2.1 a = M.2.1 a) (h3 : M'.2.2 a = M.2.2 a) : xE G M' a = xE G M a := by
  unfold xE
  rw [h1, h2, h3]
  split <;> first | rfl | rw [xFs_o h1 h2 h3]
theorem sI_o {M : Mem} {a k : Nat} {z : Int} {b : Nat} (h : b ≠ a) : (sI M a k z).1 b = M.1 b := by funext j; simp [sI, h]
theorem sL_o {M : Mem} {a k : Nat} {z : Int} {b : Nat} (h : b ≠ a) : (sL M a k z).2.1 b = M.2.1 b := by funext j; simp [sL, h]
theorem sR_o {M : Mem} {a k : Nat} {z : Option Nat} {b : Nat} (h : b ≠ a) : (sR M a k z).2.2 b = M.2.2 b := by funext j; simp [sR, h]
theorem sI_at {M : Mem} {a k : Nat} {z : Int} : (sI M a k z).1 a k = z := by simp [sI]
theorem sI_ne {M : Mem} {a k b j : Nat} {z : Int} (h : ¬ (b = a ∧ j = k)) : (sI M a k z).1 b j = M.1 b j := by simp only [sI, if_neg h]
theorem xFs_len {b : Nat} {M : Mem} {a : Nat} : ∀ (l : List Nat) (k : Nat), (xFs b M a k l).length = l.length := by
  intro l
  induction l with
  | nil => intro k; rfl
  | cons t r ih => intro k; unfold xFs; rw [List.length_cons, List.length_cons, ih]
theorem xFs_at {b : Nat} {M : Mem} {a : Nat} : ∀ (l : List Nat) (k i t : Nat), l[i]? = some t → (xFs b M a k l)[i]? = some (xF b M a (k + i) t) := by
  intro l
  induction l with
  | nil => intro k i t h; simp at h
  | cons q r ih =>
    intro k i t h
    unfold xFs
    cases i with
    | zero => simp at h; subst h; simp
    | succ i =>
      rw [List.getElem?_cons_succ] at h ⊢
      rw [ih (k + 1) i t h, show k + 1 + i = k + (i + 1) by omega]
/-- a field's store -/
theorem xFs_set {b : Nat} {M M' : Mem} {a : Nat} {v : Value} : ∀ (l : List Nat) (k i t : Nat), l[i]? = some t → xF b M' a (k + i) t = v → (∀ j u, j ≠ k + i → l[j - k]? = some u → k ≤ j → xF b M' a j u = xF b M a j u) → (xFs b M a k l).set i v = xFs b M' a k l := by
  intro l
  induction l with
  | nil => intro k i t h; simp at h
  | cons q r ih =>
    intro k i t h hv ho
    unfold xFs
    cases i with
    | zero =>
      simp at h; subst h
      rw [List.set_cons_zero]
      congr 1
      · exact hv.symm
      · have key : ∀ (l2 : List Nat) (k2 : Nat), (∀ j u, k2 ≤ j → l2[j - k2]? = some u → xF b M' a j u = xF b M a j u) → xFs b M a k2 l2 = xFs b M' a k2 l2 := by
          intro l2
          induction l2 with
          | nil => intro k2 _; rfl
          | cons q2 r2 ih2 =>
            intro k2 h2
            unfold xFs
            rw [h2 k2 q2 (Nat.le_refl _) (by simp), ih2 (k2 + 1) (fun j u hj hu => h2 j u (by omega) (by
              rw [show j - k2 = (j - (k2 + 1)) + 1 by omega, List.getElem?_cons_succ]; exact hu))]
        exact key r (k + 1) (fun j u hj hu => ho j u (by omega) (by rw [show j - k = (j - (k + 1)) + 1 by omega, List.getElem?_cons_succ]; exact hu) (by omega))
    | succ i =>
      rw [List.getElem?_cons_succ] at h
      rw [List.set_cons_succ]
      congr 1
      · exact (ho k q (by omega) (by simp) (Nat.le_refl _)).symm
      · exact ih (k + 1) i t h (by rw [show k + 1 + i = k + (i + 1) by omega]; exact hv) (fun j u hj hu hk => ho j u (by omega) (by rw [show j - k = (j - (k + 1)) + 1 by omega, List.getElem?_cons_succ]; exact hu) (by omega))
