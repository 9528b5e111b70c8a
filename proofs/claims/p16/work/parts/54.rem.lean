/-! division and remainder of longs that are not below 0 -/
theorem lL_lN (n : Nat) : lL (n : Int) = lN n := by
  unfold lL lN
  first | rfl | exact Int64.ofInt_eq_ofNat | simp
theorem lL_rem {a b : Int} (ha : 0 ≤ a) (ha2 : r64 a) (hb : 0 < b) (hb2 : r64 b) : lL a - lL a / lL b * lL b = lL (a % b) := by
  have e1 := lL_lN a.toNat
  have e2 := lL_lN b.toNat
  rw [show ((a.toNat : Nat) : Int) = a by omega] at e1
  rw [show ((b.toNat : Nat) : Int) = b by omega] at e2
  rw [e1, e2, pk_lRem (by omega) (by omega) (by omega), ← lL_lN]
  congr 1
  rw [Int.natCast_emod, show ((a.toNat : Nat) : Int) = a by omega, show ((b.toNat : Nat) : Int) = b by omega]
theorem lL_div {a b : Int} (ha : 0 ≤ a) (ha2 : r64 a) (hb : 0 < b) (hb2 : r64 b) : lL a / lL b = lL (a / b) := by
  have e1 := lL_lN a.toNat
  have e2 := lL_lN b.toNat
  rw [show ((a.toNat : Nat) : Int) = a by omega] at e1
  rw [show ((b.toNat : Nat) : Int) = b by omega] at e2
  rw [e1, e2, pk_lDiv (by omega) (by omega) (by omega), ← lL_lN]
  congr 1
  rw [Int.natCast_ediv, show ((a.toNat : Nat) : Int) = a by omega, show ((b.toNat : Nat) : Int) = b by omega]
section AWV
variable {p : Program} {l : Launch} {e : Env} {R : Room} {s : State} {m : MethodId} {args : Array Value} {below : List Frame} {meth : Method} {c : Code} {G : xG} {nL : Nat} {Q : State → Prop} {M : Mem} {pc : Nat} {lv : List (Nat × Value)} {st : List Value} {cc : ByteArray} {own : String} {Ts : List Cond} {rt : Option FieldType}
theorem A_lrem (C : Cx p s m args meth c G cc nL own Ts rt) {a b : Int} (ha : 0 ≤ a) (ha2 : r64 a) (hb : 0 < b) (hb2 : r64 b) (hd : decode cc pc = .ok (.lrem, 1)) (k : ∀ z : Int, z = a % b → 0 ≤ z → z < b → AW p l e R s m args below meth c G nL Q M (pc + 1) lv (.long (lL z) :: st)) : AW p l e R s m args below meth c G nL Q M pc lv (.long (lL b) :: .long (lL a) :: st) :=
  fun H locs ls hP hS hl => lv_lrem C.1 C.2.1 hd (lL_ne0 hb2 (by omega)) (by
    rw [lL_rem ha ha2 hb hb2]
    exact k _ rfl (Int.emod_nonneg _ (by omega)) (Int.emod_lt_of_pos _ hb) H locs ls hP hS hl)
theorem A_ldiv (C : Cx p s m args meth c G cc nL own Ts rt) {a b : Int} (ha : 0 ≤ a) (ha2 : r64 a) (hb : 0 < b) (hb2 : r64 b) (hd : decode cc pc = .ok (.ldiv, 1)) (k : ∀ z : Int, z = a / b → 0 ≤ z → z ≤ a → AW p l e R s m args below meth c G nL Q M (pc + 1) lv (.long (lL z) :: st)) : AW p l e R s m args below meth c G nL Q M pc lv (.long (lL b) :: .long (lL a) :: st) :=
  fun H locs ls hP hS hl => lv_ldiv C.1 C.2.1 hd (lL_ne0 hb2 (by omega)) (by
    rw [lL_div ha ha2 hb hb2]
    exact k _ rfl (Int.ediv_nonneg ha (by omega)) (Int.ediv_le_self _ ha) H locs ls hP hS hl)
end AWV
theorem gcd_step {a b : Int} (ha : 0 ≤ a) (hb : 0 < b) : Int.gcd b (a % b) = Int.gcd a b := by
  obtain ⟨x, rfl⟩ := Int.eq_ofNat_of_zero_le ha
  obtain ⟨y, rfl⟩ := Int.eq_ofNat_of_zero_le (Int.le_of_lt hb)
  rw [← Int.natCast_emod]
  simp only [Int.gcd, Int.natAbs_natCast]
  rw [Nat.gcd_comm y, ← Nat.gcd_rec, Nat.gcd_comm]
