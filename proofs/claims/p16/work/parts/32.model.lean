/-! the reference's own rows, by their numbers; bounds of products -/
theorem uq_of {q id : Nat} (h9 : (q == 99) = false) (hd : ∀ b, b < nAll → kd b = q → b = id) (b : Nat) (h : kd b = q) : b = id := hd b (kd_lt h h9) h
theorem kd_110 : kd 110 = 30 := by decide +kernel
theorem kd_111 : kd 111 = 31 := by decide +kernel
theorem uq_31 : ∀ b, kd b = 31 → b = 111 := uq_of rfl (by decide +kernel)
theorem kd_112 : kd 112 = 32 := by decide +kernel
theorem uq_32 : ∀ b, kd b = 32 → b = 112 := uq_of rfl (by decide +kernel)
theorem kd_113 : kd 113 = 33 := by decide +kernel
theorem uq_33 : ∀ b, kd b = 33 → b = 113 := uq_of rfl (by decide +kernel)
theorem kd_114 : kd 114 = 34 := by decide +kernel
theorem uq_34 : ∀ b, kd b = 34 → b = 114 := uq_of rfl (by decide +kernel)
theorem kd_115 : kd 115 = 35 := by decide +kernel
theorem uq_35 : ∀ b, kd b = 35 → b = 115 := uq_of rfl (by decide +kernel)
theorem kd_116 : kd 116 = 36 := by decide +kernel
theorem uq_36 : ∀ b, kd b = 36 → b = 116 := uq_of rfl (by decide +kernel)
theorem kd_117 : kd 117 = 37 := by decide +kernel
theorem uq_37 : ∀ b, kd b = 37 → b = 117 := uq_of rfl (by decide +kernel)
theorem kd_118 : kd 118 = 38 := by decide +kernel
theorem uq_38 : ∀ b, kd b = 38 → b = 118 := uq_of rfl (by decide +kernel)
theorem kd_119 : kd 119 = 39 := by decide +kernel
theorem uq_39 : ∀ b, kd b = 39 → b = 119 := uq_of rfl (by decide +kernel)
theorem kd_120 : kd 120 = 40 := by decide +kernel
theorem uq_40 : ∀ b, kd b = 40 → b = 120 := uq_of rfl (by decide +kernel)
theorem kd_121 : kd 121 = 41 := by decide +kernel
theorem uq_41 : ∀ b, kd b = 41 → b = 121 := uq_of rfl (by decide +kernel)
theorem kd_122 : kd 122 = 42 := by decide +kernel
theorem uq_42 : ∀ b, kd b = 42 → b = 122 := uq_of rfl (by decide +kernel)
theorem kd_123 : kd 123 = 43 := by decide +kernel
theorem uq_43 : ∀ b, kd b = 43 → b = 123 := uq_of rfl (by decide +kernel)
theorem kd_124 : kd 124 = 44 := by decide +kernel
theorem uq_44 : ∀ b, kd b = 44 → b = 124 := uq_of rfl (by decide +kernel)
theorem kd_125 : kd 125 = 45 := by decide +kernel
theorem uq_45 : ∀ b, kd b = 45 → b = 125 := uq_of rfl (by decide +kernel)
theorem kd_126 : kd 126 = 46 := by decide +kernel
theorem uq_46 : ∀ b, kd b = 46 → b = 126 := uq_of rfl (by decide +kernel)
theorem kd_127 : kd 127 = 47 := by decide +kernel
theorem uq_47 : ∀ b, kd b = 47 → b = 127 := uq_of rfl (by decide +kernel)
theorem kd_128 : kd 128 = 48 := by decide +kernel
theorem uq_48 : ∀ b, kd b = 48 → b = 128 := uq_of rfl (by decide +kernel)
theorem kd_129 : kd 129 = 49 := by decide +kernel
theorem uq_49 : ∀ b, kd b = 49 → b = 129 := uq_of rfl (by decide +kernel)
theorem mul_bd {a b A B : Int} (h0 : 0 ≤ a) (h1 : a ≤ A) (h2 : 0 ≤ b) (h3 : b ≤ B) : 0 ≤ a * b ∧ a * b ≤ A * B :=
  ⟨Int.mul_nonneg h0 h2, Int.mul_le_mul h1 h3 h2 (Int.le_trans h0 h1)⟩
theorem sq_bd {d : Int} (h0 : -24 ≤ d) (h1 : d ≤ 24) : 0 ≤ d * d ∧ d * d ≤ 576 := by
  by_cases h : 0 ≤ d
  · have q := mul_bd h h1 h h1
    exact ⟨q.1, q.2⟩
  · have q := mul_bd (a := -d) (b := -d) (A := 24) (B := 24) (by omega) (by omega) (by omega) (by omega)
    rw [Int.neg_mul_neg] at q
    exact ⟨q.1, q.2⟩
theorem mul_abs {a b A B : Int} (h0 : 0 ≤ a) (h1 : a ≤ A) (h2 : -B ≤ b) (h3 : b ≤ B) (hB : 0 ≤ B) : -(A * B) ≤ a * b ∧ a * b ≤ A * B := by
  by_cases h : 0 ≤ b
  · have q := mul_bd h0 h1 h h3
    exact ⟨by omega, q.2⟩
  · have q := mul_bd (b := -b) (B := B) h0 h1 (by omega) (by omega)
    rw [Int.mul_neg] at q
    exact ⟨by omega, by omega⟩
section AWM
variable {p : Program} {l : Launch} {e : Env} {R : Room} {s : State} {m : MethodId} {args : Array Value} {below : List Frame} {meth : Method} {c : Code} {G : xG} {nL : Nat} {Q : State → Prop} {M M0 : Mem} {pc : Nat} {lv : List (Nat × Value)} {st : List Value} {cc : ByteArray} {own : String} {Ts : List Cond} {rt : Option FieldType} {ch : List Nat}
theorem G_getC (C : Cx p s m args meth c G cc nL own Ts rt) (W : WF M) {a r ci k index q id : Nat} {Cn : String} {T : u_T} {N : Nat} (hr : kd a = r) (h9 : (r == 99) = false) (hs : shp r = (0, ci)) (ht : (fks ci)[k]? = some 2) (hq : rr r k = some q) (hu : ∀ b, kd b = q → b = id) (F : Fl own Ts ci k index Cn T N) (hd : decode cc pc = .ok (.getfield index, 3))
    (kk : AW p l e R s m args below meth c G nL Q M (pc + 3) lv (.ref id :: st)) : AW p l e R s m args below meth c G nL Q M pc lv (.ref a :: st) := by
  obtain ⟨b, h1, h2⟩ := W.r hr k hq
  rw [hu b h2] at h1
  exact A_getR C hr h9 hs ht h1 F hd kk
theorem A_dup2 (C : Cx p s m args meth c G cc nL own Ts rt) {v w : Value} (hd : decode cc pc = .ok (.dup2, 1)) (hv : v.category = 1) (hw : w.category = 1) (k : AW p l e R s m args below meth c G nL Q M (pc + 1) lv (v :: w :: v :: w :: st)) : AW p l e R s m args below meth c G nL Q M pc lv (v :: w :: st) :=
  fun H locs ls hP hS hl => lv_dup2_11 C.1 C.2.1 hd (by rw [cv_cat]; exact hv) (by rw [cv_cat]; exact hw) (k H locs ls hP hS hl)
end AWM
/-! what the reference reckons of a column, as numbers -/
def lowF (y z : Int) : Int := if y < z then y else z
def highF (y z : Int) : Int := if y < z then z else y
def fB (F : Nat → Nat → Int) : Int := F 110 11
def fTop (F : Nat → Nat → Int) (c : Int) : Int := F 116 (fB F + c).toNat
def fE (F : Nat → Nat → Int) (c y : Int) : Int := F 115 (24 * c + y).toNat
def fCan (F : Nat → Nat → Int) (c y z : Int) : Prop := highF y z - lowF y z ≤ 4 ∧ highF y z ≤ fTop F c ∧ lowF y z < fTop F c ∧ F 114 (fE F c (lowF y z)).toNat = 0
def fWs (F : Nat → Nat → Int) (c : Int) : Nat → Int → Int
  | 0, _ => 0
  | n + 1, h => F 111 (fE F c h).toNat + fWs F c n (h + 1)
def fPress (F : Nat → Nat → Int) (c h : Int) : Int := F 118 (fB F + c).toNat + fWs F c (fTop F c - h).toNat h
def fLift (F : Nat → Nat → Int) (c y z : Int) : Int := if F 117 (fB F + c).toNat ≤ highF y z then 0 else 10 * (1 + (y - z) * (y - z)) * (F 117 (fB F + c).toNat - highF y z)
def fRub (F : Nat → Nat → Int) (c y z : Int) : Int := if fPress F c (highF y z) ≤ fLift F c y z then 0 else F 113 (fE F c (lowF y z)).toNat * (fPress F c (highF y z) - fLift F c y z)
def fHolds (F : Nat → Nat → Int) (c y z : Int) : Int := 10 * F 112 (fE F c (lowF y z)).toNat * (1 + (y - z) * (y - z)) + fRub F c y z + 10 * F 119 (fB F + c).toNat
def fDrives (F : Nat → Nat → Int) (c y z : Int) : Int := 10 * fPress F c (highF y z) * (y - z)
theorem fWs_end {F : Nat → Nat → Int} {c t h : Int} (hh : t ≤ h) : fWs F c (t - h).toNat h = 0 := by rw [show (t - h).toNat = 0 by omega]; rfl
theorem fWs_step {F : Nat → Nat → Int} {c t h : Int} (hh : h < t) : fWs F c (t - h).toNat h = F 111 (fE F c h).toNat + fWs F c (t - (h + 1)).toNat (h + 1) := by
  rw [show (t - h).toNat = (t - (h + 1)).toNat + 1 by omega]
  rfl
