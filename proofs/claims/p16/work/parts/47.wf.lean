/-! the memory that the law begins with keeps the invariant -/
def memL : Mem := mX8_init mem24 111 110
def WI (M : Mem) : Prop := (∀ a k, (bd (kd a) k).1 ≤ M.1 a k ∧ M.1 a k ≤ (bd (kd a) k).2) ∧ ∀ a k, r64 (M.2.1 a k)
theorem bd_0 (r k : Nat) : (bd r k).1 ≤ 0 ∧ 0 ≤ (bd r k).2 := by
  unfold bd
  split <;> first | decide | (split <;> decide)
theorem WI_mem0 : WI mem0 := ⟨fun a k => bd_0 (kd a) k, fun _ _ => (by decide : r64 0)⟩
theorem WI_sI {M : Mem} (h : WI M) {a k : Nat} {z : Int} (h1 : (bd (kd a) k).1 ≤ z) (h2 : z ≤ (bd (kd a) k).2) : WI (sI M a k z) := by
  refine ⟨fun b j => ?_, h.2⟩
  by_cases e : b = a ∧ j = k
  · obtain ⟨rfl, rfl⟩ := e
    rw [sI_at]
    exact ⟨h1, h2⟩
  · rw [sI_ne e]
    exact h.1 b j
theorem WI_0 {M : Mem} (h : WI M) {a k : Nat} : WI (sI M a k 0) := WI_sI h (bd_0 _ _).1 (bd_0 _ _).2
theorem WI_sR {M : Mem} (h : WI M) {a k : Nat} {z : Option Nat} : WI (sR M a k z) := h
theorem WI_sL {M : Mem} (h : WI M) {a k : Nat} {z : Int} (hz : r64 z) : WI (sL M a k z) := by
  refine ⟨h.1, fun b j => ?_⟩
  show r64 (if b = a ∧ j = k then z else M.2.1 b j)
  split
  · exact hz
  · exact h.2 b j
theorem WI_X1 {M : Mem} (h : WI M) {n a e1 c1 : Nat} : WI (mX1_init M n a e1 c1) := by
  unfold mX1_init
  repeat (first | exact h | apply WI_sR | apply WI_0)
theorem WI_gM {M : Mem} (h : WI M) {n a e1 : Nat} (ha : kd a = 6) : ∀ i, WI (gM M n a e1 i) := by
  intro i
  induction i with
  | zero => exact WI_sI (WI_sR h) (by rw [ha]; decide) (by rw [ha]; decide)
  | succ i ih => exact WI_sR (WI_X1 ih)
theorem WI_hM {M : Mem} (h : WI M) {n a e1 : Nat} {cf : Nat → Nat} (ha : kd a = 12) : ∀ i, WI (hM M n a e1 cf i) := by
  intro i
  induction i with
  | zero => exact WI_sI (WI_sR h) (by rw [ha]; decide) (by rw [ha]; decide)
  | succ i ih => exact WI_sR (WI_X1 ih)
theorem WI_mX0_init {M : Mem} (h : WI M) {n a : Nat} (ha : kd a = 13) : WI (mX0_init M n a) := by
  unfold mX0_init
  repeat (first | exact h | apply WI_sR | apply WI_0 | (refine WI_sL ?_ (by decide)) | (refine WI_sI ?_ (by rw [ha]; decide) (by rw [ha]; decide)))
theorem WI_mX2_init {M : Mem} (h : WI M) {n a : Nat} (ha : kd a = 1) : WI (mX2_init M n a) := by
  unfold mX2_init
  repeat (first | exact h | apply WI_sR | apply WI_0 | (refine WI_sL ?_ (by decide)) | (refine WI_sI ?_ (by rw [ha]; decide) (by rw [ha]; decide)))
theorem WI_mX3_init {M : Mem} (h : WI M) {n a : Nat} (ha : kd a = 23) : WI (mX3_init M n a) := by
  unfold mX3_init
  repeat (first | exact h | apply WI_sR | apply WI_0 | (refine WI_sL ?_ (by decide)) | (refine WI_sI ?_ (by rw [ha]; decide) (by rw [ha]; decide)))
theorem WI_mX6_init {M : Mem} (h : WI M) {n a g1 : Nat} (ha : kd a = 17) : WI (mX6_init M n a g1) := by
  unfold mX6_init
  repeat (first | exact h | apply WI_sR | apply WI_0 | (refine WI_sL ?_ (by decide)) | (refine WI_sI ?_ (by rw [ha]; decide) (by rw [ha]; decide)))
theorem WI_mX8_init {M : Mem} (h : WI M) {n a : Nat} (ha : kd a = 30) : WI (mX8_init M n a) := by
  unfold mX8_init
  repeat (first | exact h | apply WI_sR | apply WI_0 | (refine WI_sL ?_ (by decide)) | (refine WI_sI ?_ (by rw [ha]; decide) (by rw [ha]; decide)))
theorem WI_mX5_init {M : Mem} (h : WI M) {n a : Nat} (ha : kd a = 20) : WI (mX5_init M n a) := by
  unfold mX5_init
  repeat (first | exact h | apply WI_sR | apply WI_0 | (refine WI_sL ?_ (by decide)) | (refine WI_sI ?_ (by rw [ha]; decide) (by rw [ha]; decide)))
theorem WI_mX5_init_w {M : Mem} (h : WI M) {n a : Nat} (ha : kd a = 21) : WI (mX5_init_w M n a) := by
  unfold mX5_init_w
  repeat (first | exact h | apply WI_sR | apply WI_0 | (refine WI_sL ?_ (by decide)) | (refine WI_sI ?_ (by rw [ha]; decide) (by rw [ha]; decide)))
theorem WI_mem1 : WI mem1 := WI_mX2_init WI_mem0 rfl
theorem WI_mem2 : WI mem2 := WI_sR WI_mem1
theorem WI_mem3 : WI mem3 := WI_gM WI_mem2 rfl 12
theorem WI_mem4 : WI mem4 := WI_sR WI_mem3
theorem WI_mem5 : WI mem5 := WI_hM WI_mem4 rfl 12
theorem WI_mem6 : WI mem6 := WI_sR WI_mem5
theorem WI_mem7 : WI mem7 := WI_mX0_init WI_mem6 rfl
theorem WI_mem8 : WI mem8 := WI_sR WI_mem7
theorem WI_mem9 : WI mem9 := WI_mX6_init WI_mem8 rfl
theorem WI_mem10 : WI mem10 := WI_sR WI_mem9
theorem WI_mem11 : WI mem11 := WI_mX5_init WI_mem10 rfl
theorem WI_mem12 : WI mem12 := WI_sR WI_mem11
theorem WI_mem13 : WI mem13 := WI_mX5_init_w WI_mem12 rfl
theorem WI_mem14 : WI mem14 := WI_sR WI_mem13
theorem WI_mem15 : WI mem15 := WI_mX3_init WI_mem14 rfl
theorem WI_mem16 : WI mem16 := WI_sR WI_mem15
theorem WI_mem17 : WI mem17 := WI_mX3_init WI_mem16 rfl
theorem WI_mem18 : WI mem18 := WI_sR WI_mem17
theorem WI_mem19 : WI mem19 := WI_sR WI_mem18
theorem WI_mem20 : WI mem20 := WI_sR WI_mem19
theorem WI_mem21 : WI mem21 := WI_sR WI_mem20
theorem WI_mem22 : WI mem22 := WI_0 WI_mem21
theorem WI_mem23 : WI mem23 := WI_0 WI_mem22
theorem WI_mem24 : WI mem24 := WI_0 WI_mem23
theorem WI_memL : WI memL := WI_mX8_init WI_mem24 rfl
theorem rr_far (r k : Nat) (h : 35 ≤ k) : rr r k = none := by
  unfold rr
  split
  all_goals first
    | rfl
    | (rw [if_neg (by omega)])
    | (rw [List.getD_eq_getElem?_getD, List.getElem?_eq_none (by simp only [List.length_cons, List.length_nil]; omega)]; rfl)
def okR (M : Mem) (a k : Nat) : Bool := match rr (kd a) k with
  | none => true
  | some q => (match M.2.2 a k with
    | none => false
    | some b => kd b == q)
theorem okR_L : ∀ a, a < nAll → ∀ k, k < 35 → okR memL a k = true := by decide +kernel
theorem st_L : ∀ a, a < nAll → kd a = 17 → memL.2.2 a 0 = some 6 := by decide +kernel
theorem WF_memL : WF memL := by
  refine ⟨WI_memL.1, WI_memL.2, fun a k q h => ?_, fun a h => ?_⟩
  · have hk : k < 35 := by
      apply Classical.byContradiction
      intro hn
      rw [rr_far _ _ (by omega)] at h
      cases h
    have ha : a < nAll := by
      refine kd_lt (r := kd a) rfl ?_
      cases e : (kd a == 99) with
      | false => rfl
      | true =>
        have e2 : kd a = 99 := by simpa using e
        rw [e2] at h
        cases h
    have h1 := okR_L a ha k hk
    unfold okR at h1
    rw [h] at h1
    cases e : memL.2.2 a k with
    | none => rw [e] at h1; cases h1
    | some b =>
      rw [e] at h1
      exact ⟨b, rfl, by simpa using h1⟩
  · exact ⟨6, st_L a (kd_lt h rfl) h, Or.inl (by decide +kernel)⟩
