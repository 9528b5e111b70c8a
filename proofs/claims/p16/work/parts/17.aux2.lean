/-! switches, shifts, halves -/
section AWZ
variable {p : Program} {l : Launch} {e : Env} {R : Room} {s : State} {m : MethodId} {args : Array Value} {below : List Frame} {meth : Method} {c : Code} {G : xG} {nL : Nat} {Q : State → Prop} {M M0 : Mem} {pc : Nat} {lv : List (Nat × Value)} {st : List Value} {cc : ByteArray} {own : String} {Ts : List Cond} {rt : Option FieldType} {ch : List Nat}
theorem A_tabIn (C : Cx p s m args meth c G cc nL own Ts rt) {x dflt lo hi : Int} {offs : Array Int} {len : Nat} (k : Int) {off : Int} (tgt : Nat) (hd : decode cc pc = .ok (.tableswitch dflt lo hi offs, len)) (hk : x = k) (hr : r32 k) (h1 : ¬ k < lo) (h2 : ¬ hi < k) (ho : offs[(k - lo).toNat]? = some off) (ht : (pc : Int) + off = (tgt : Int)) (kk : AW p l e R s m args below meth c G nL Q M tgt lv st) : AW p l e R s m args below meth c G nL Q M pc lv (.int (iI x) :: st) := by
  intro H locs ls hP hS hl
  subst hk
  exact lv_tableIn C.1 C.2.1 hd (by rw [iI_toInt hr]; exact h1) (by rw [iI_toInt hr]; exact h2) (by rw [iI_toInt hr]; exact ho) ht (kk H locs ls hP hS hl)
theorem A_tabOut (C : Cx p s m args meth c G cc nL own Ts rt) {x dflt lo hi : Int} {offs : Array Int} {len : Nat} (tgt : Nat) (hd : decode cc pc = .ok (.tableswitch dflt lo hi offs, len)) (hr : r32 x) (h : x < lo ∨ hi < x) (ht : (pc : Int) + dflt = (tgt : Int)) (kk : AW p l e R s m args below meth c G nL Q M tgt lv st) : AW p l e R s m args below meth c G nL Q M pc lv (.int (iI x) :: st) :=
  fun H locs ls hP hS hl => lv_tableOut C.1 C.2.1 hd (by rw [iI_toInt hr]; exact h) ht (kk H locs ls hP hS hl)
theorem shl_tab : ∀ b : Nat, b < 7 → (iI 1 <<< (iI (b : Int) &&& 31)).toInt = ((2 ^ b : Nat) : Int) := by decide +kernel
theorem A_shl1 (C : Cx p s m args meth c G cc nL own Ts rt) {b : Int} (h0 : 0 ≤ b) (h1 : b ≤ 6) (hd : decode cc pc = .ok (.ishl, 1)) (k : ∀ z : Int, 1 ≤ z → z ≤ 64 → (b ≤ 5 → z ≤ 32) → AW p l e R s m args below meth c G nL Q M (pc + 1) lv (.int (iI z) :: st)) : AW p l e R s m args below meth c G nL Q M pc lv (.int (iI b) :: .int (iI 1) :: st) :=
  fun H locs ls hP hS hl => lv_ishl C.1 C.2.1 hd (by
    have e1 := shl_tab b.toNat (by omega)
    rw [show ((b.toNat : Nat) : Int) = b by omega] at e1
    rw [iI_of (iI 1 <<< (iI b &&& 31))]
    have hb : b = 0 ∨ b = 1 ∨ b = 2 ∨ b = 3 ∨ b = 4 ∨ b = 5 ∨ b = 6 := by omega
    refine k _ ?_ ?_ ?_ H locs ls hP hS hl <;> rw [e1] <;> rcases hb with rfl | rfl | rfl | rfl | rfl | rfl | rfl <;> decide)
theorem or_lt {a b : Nat} (ha : a < 64) (hb : b < 64) : a ||| b < 64 := Nat.or_lt_two_pow (n := 6) ha hb
theorem A_ior (C : Cx p s m args meth c G cc nL own Ts rt) {a b : Int} (ha0 : 0 ≤ a) (ha : a ≤ 63) (hb0 : 0 ≤ b) (hb : b ≤ 63) (hd : decode cc pc = .ok (.ior, 1)) (k : ∀ z : Int, 0 ≤ z → z ≤ 63 → AW p l e R s m args below meth c G nL Q M (pc + 1) lv (.int (iI z) :: st)) : AW p l e R s m args below meth c G nL Q M pc lv (.int (iI b) :: .int (iI a) :: st) :=
  fun H locs ls hP hS hl => lv_ior C.1 C.2.1 hd (by
    have key : iI a ||| iI b = iI (((a.toNat ||| b.toNat : Nat)) : Int) := by
      have e1 : ∀ x : Int, 0 ≤ x → x ≤ 63 → (iI x).toBitVec = BitVec.ofNat 32 x.toNat := by
        intro x h0 h1
        show (Int32.ofInt x).toBitVec = _
        rw [Int32.toBitVec_ofInt]
        apply BitVec.eq_of_toNat_eq
        rw [BitVec.toNat_ofInt, BitVec.toNat_ofNat]
        omega
      have h63 := or_lt (a := a.toNat) (b := b.toNat) (by omega) (by omega)
      apply Int32.toBitVec_inj.mp
      rw [Int32.toBitVec_or, e1 a ha0 ha, e1 b hb0 hb, e1 _ (by omega) (by omega)]
      apply BitVec.eq_of_toNat_eq
      rw [BitVec.toNat_or, BitVec.toNat_ofNat, BitVec.toNat_ofNat, BitVec.toNat_ofNat, Nat.mod_eq_of_lt (by omega), Nat.mod_eq_of_lt (by omega), Nat.mod_eq_of_lt (by omega)]
      omega
    rw [key]
    have h63 := or_lt (a := a.toNat) (b := b.toNat) (by omega) (by omega)
    exact k _ (by omega) (by omega) H locs ls hP hS hl)
theorem half_tab : ∀ a : Nat, a < 17 → (iI (a : Int) / iI 2).toInt = ((a / 2 : Nat) : Int) := by decide +kernel
theorem A_idiv2 (C : Cx p s m args meth c G cc nL own Ts rt) {a : Int} (h0 : 0 ≤ a) (h1 : a ≤ 16) (hd : decode cc pc = .ok (.idiv, 1)) (k : ∀ z : Int, 2 * z ≤ a → a < 2 * z + 2 → AW p l e R s m args below meth c G nL Q M (pc + 1) lv (.int (iI z) :: st)) : AW p l e R s m args below meth c G nL Q M pc lv (.int (iI 2) :: .int (iI a) :: st) :=
  fun H locs ls hP hS hl => lv_idiv C.1 C.2.1 hd (by decide +kernel) (by
    have e1 := half_tab a.toNat (by omega)
    rw [show ((a.toNat : Nat) : Int) = a by omega] at e1
    rw [iI_of (iI a / iI 2), e1]
    exact k _ (by omega) (by omega) H locs ls hP hS hl)
end AWZ
