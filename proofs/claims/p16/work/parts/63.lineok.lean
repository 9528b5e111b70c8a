/-! each pair of the begun line can be gone through -/
def LnOk (M : Mem) (n : Int) : Prop := ∀ k : Int, 0 ≤ k → k < n → fCan M.1 (M.1 110 16 + k) (M.1 123 k.toNat) (M.1 123 (k + 1).toNat)
theorem LnOk_0 {M : Mem} : LnOk M 0 := fun k a b => by omega
theorem LnOk_s {M : Mem} {n a b c : Int} (h : LnOk M n) (ea : a = M.1 110 16 + n) (eb : b = M.1 123 n.toNat) (ec : c = M.1 123 (n + 1).toNat) (hc : fCan M.1 a b c) : LnOk M (n + 1) := by
  intro k k0 k1
  by_cases e : k = n
  · subst e
    rw [ea, eb, ec] at hc
    exact hc
  · exact h k k0 (by omega)
/-! the row of the acts behind a step to the next order -/
def Up (M0 M : Mem) (k n : Nat) : Prop := Dst (M.1 128) n ∧ (∀ j, j < k → M.1 128 j = M0.1 128 j) ∧ M0.1 128 k < M.1 128 k
theorem swp_o {f : Nat → Int} {a b j : Nat} (h1 : j ≠ a) (h2 : j ≠ b) : swp f a b j = f j := by unfold swp; rw [if_neg h2, if_neg h1]
theorem Up_f {M0 M M' : Mem} {n : Nat} {i k : Int} (hM : M.1 = M0.1) (hD : Dst (M0.1 128) n) (hk : 0 ≤ k) (hki : k < i) (hi : i.toNat < n) (hv : M.1 128 k.toNat ≤ M.1 128 i.toNat) (e : M'.1 128 = swp (M.1 128) i.toNat k.toNat) : Up M0 M' k.toNat n := by
  rw [hM] at hv e
  refine ⟨by rw [e]; exact Dst_swp hD hi (by omega), fun j hj => by rw [e]; exact swp_o (by omega) (by omega), ?_⟩
  have e1 : M'.1 128 k.toNat = M0.1 128 i.toNat := by
    rw [e]
    unfold swp
    rw [if_pos rfl]
  rw [e1]
  have hne : M0.1 128 k.toNat ≠ M0.1 128 i.toNat := fun q => by
    have := hD _ _ (by omega) hi q
    omega
  omega
theorem Up_swp {M0 M M' : Mem} {n k : Nat} {a b : Int} (h : Up M0 M k n) (ha : k < a.toNat) (hb : k < b.toNat) (han : a.toNat < n) (hbn : b.toNat < n) (e : M'.1 128 = swp (M.1 128) a.toNat b.toNat) : Up M0 M' k n := by
  refine ⟨by rw [e]; exact Dst_swp h.1 han hbn, fun j hj => ?_, ?_⟩
  · rw [e, swp_o (by omega) (by omega)]
    exact h.2.1 j hj
  · rw [e, swp_o (by omega) (by omega)]
    exact h.2.2
theorem row_bd {M : Mem} (W : WF M) (i : Nat) : 0 ≤ M.1 128 i ∧ M.1 128 i ≤ 5 := W.i kd_128 i
theorem Up_num {M0 M : Mem} {k n : Nat} (W0 : WF M0) (W : WF M) (h : Up M0 M k n) (hk : k < n) : numR (M0.1 128) n < numR (M.1 128) n := numR_up h.2.1 h.2.2 n hk (fun i _ => row_bd W0 i) (fun i _ => row_bd W i)
def Idn (M : Mem) (n : Int) : Prop := ∀ i : Nat, (i : Int) < n → M.1 128 i = (i : Int)
theorem Idn_0 {M : Mem} : Idn M 0 := fun i h => by omega
theorem Idn_s {M M' : Mem} {n : Int} (h : Idn M n) (h0 : 0 ≤ n) (eM : M' = sI M 128 n.toNat n) : Idn M' (n + 1) := by
  intro i hi
  subst eM
  by_cases e : i = n.toNat
  · subst e
    rw [sI_at]
    omega
  · rw [sI_ne (fun q => e q.2)]
    exact h i (by omega)
theorem Idn_dst {M : Mem} {n : Int} {k : Nat} (h : Idn M n) (hk : (k : Int) ≤ n) : Dst (M.1 128) k := by
  intro i j hi hj e
  rw [h i (by omega), h j (by omega)] at e
  omega
def mO (M : Mem) (v : Int) : Nat := if v = 1 then ((6 : Int) ^ (M.1 110 12).toNat - numR (M.1 128) (M.1 110 12).toNat).toNat + 1 else 0
theorem mO_0 {M M' : Mem} : mO M' 0 < mO M 1 := by
  unfold mO
  rw [if_neg (by decide), if_pos rfl]
  exact Nat.succ_pos _
theorem mO_eq {M M' : Mem} (h1 : M'.1 128 = M.1 128) (h2 : M'.1 110 12 = M.1 110 12) : mO M' 1 = mO M 1 := by
  unfold mO
  rw [h1, h2]
theorem mO_lt {M M' : Mem} (W : WF M') (h2 : M'.1 110 12 = M.1 110 12) (h : numR (M.1 128) (M.1 110 12).toNat < numR (M'.1 128) (M.1 110 12).toNat) : mO M' 1 < mO M 1 := by
  have hb := numR_nn (f := M'.1 128) (M.1 110 12).toNat (fun i _ => row_bd W i)
  unfold mO
  rw [h2, if_pos rfl, if_pos rfl]
  omega
