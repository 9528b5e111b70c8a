/-! the law's own judgement: locals and stack as they lie, cells and slots counted -/
def LW (p : Program) (l : Launch) (e : Env) (R : Room) (s : State) (m : MethodId) (args : Array Value) (below : List Frame) (meth : Method) (c : Code) (G : xG) (nL : Nat) (Q : State → Prop) (k0 w0 : Nat) (M : Mem) (pc : Nat) (lv : List (Nat × Value)) (st : List Value) : Prop :=
  ∀ (H : Heap) (locs : List Loc) (ls : Array Slot), va_P G.1 vwCl (xWs G nAll M) H → va_S (fun q => G.2.2 ≤ q) s.heap H locs → lv_has ls nL lv → W p l e R s m args below meth c H locs k0 w0 Q (F0 m pc ls st)
section LWS
variable {p : Program} {l : Launch} {e : Env} {R : Room} {s : State} {m : MethodId} {args : Array Value} {below : List Frame} {meth : Method} {c : Code} {G : xG} {nL : Nat} {Q : State → Prop} {M : Mem} {pc : Nat} {lv : List (Nat × Value)} {st : List Value} {cc : ByteArray} {own : String} {Ts : List Cond} {rt : Option FieldType} {k0 w0 : Nat}
theorem L_iconst (C : Cx p s m args meth c G cc nL own Ts rt) {n : Int} (hd : decode cc pc = .ok (.iconst n, 1)) (k : LW p l e R s m args below meth c G nL Q k0 w0 M (pc + 1) lv (.int (iI n) :: st)) : LW p l e R s m args below meth c G nL Q k0 w0 M pc lv st :=
  fun H locs ls hP hS hl => lv_iconst C.1 C.2.1 hd rfl (k H locs ls hP hS hl)
theorem L_bipush (C : Cx p s m args meth c G cc nL own Ts rt) {n : Int} (hd : decode cc pc = .ok (.bipush n, 2)) (h : -128 ≤ n ∧ n ≤ 127) (k : LW p l e R s m args below meth c G nL Q k0 w0 M (pc + 2) lv (.int (iI n) :: st)) : LW p l e R s m args below meth c G nL Q k0 w0 M pc lv st :=
  fun H locs ls hP hS hl => lv_bipush C.1 C.2.1 hd (i8 n h) (k H locs ls hP hS hl)
theorem L_iloadn (C : Cx p s m args meth c G cc nL own Ts rt) {j : Fin 4} {i : Nat} {z : Int} (hd : decode cc pc = .ok (.iload_n j, 1)) (n : Nat) (h : lv[n]? = some (i, .int (iI z))) (hi : (j : Nat) = i) (k : LW p l e R s m args below meth c G nL Q k0 w0 M (pc + 1) lv (.int (iI z) :: st)) : LW p l e R s m args below meth c G nL Q k0 w0 M pc lv st :=
  fun H locs ls hP hS hl => lv_iload_n C.1 C.2.1 hd hi (lv_at hl n h) (k H locs ls hP hS hl)
theorem L_iload (C : Cx p s m args meth c G cc nL own Ts rt) {i : Nat} {z : Int} (hd : decode cc pc = .ok (.iload i, 2)) (n : Nat) (h : lv[n]? = some (i, .int (iI z))) (k : LW p l e R s m args below meth c G nL Q k0 w0 M (pc + 2) lv (.int (iI z) :: st)) : LW p l e R s m args below meth c G nL Q k0 w0 M pc lv st :=
  fun H locs ls hP hS hl => lv_iload C.1 C.2.1 hd (lv_at hl n h) (k H locs ls hP hS hl)
theorem L_aloadn (C : Cx p s m args meth c G cc nL own Ts rt) {j : Fin 4} {i a : Nat} (hd : decode cc pc = .ok (.aload_n j, 1)) (n : Nat) (h : lv[n]? = some (i, .ref a)) (hi : (j : Nat) = i) (k : LW p l e R s m args below meth c G nL Q k0 w0 M (pc + 1) lv (.ref a :: st)) : LW p l e R s m args below meth c G nL Q k0 w0 M pc lv st :=
  fun H locs ls hP hS hl => lv_aload_n C.1 C.2.1 hd hi (lv_at hl n h) (k H locs ls hP hS hl)
theorem L_aload (C : Cx p s m args meth c G cc nL own Ts rt) {i a : Nat} (hd : decode cc pc = .ok (.aload i, 2)) (n : Nat) (h : lv[n]? = some (i, .ref a)) (k : LW p l e R s m args below meth c G nL Q k0 w0 M (pc + 2) lv (.ref a :: st)) : LW p l e R s m args below meth c G nL Q k0 w0 M pc lv st :=
  fun H locs ls hP hS hl => lv_aload C.1 C.2.1 hd (lv_at hl n h) (k H locs ls hP hS hl)
theorem L_istoren (C : Cx p s m args meth c G cc nL own Ts rt) {j : Fin 4} {i : Nat} {z : Int} {lv' : List (Nat × Value)} (hd : decode cc pc = .ok (.istore_n j, 1)) (hi : (j : Nat) = i) (hn : i < nL) (h : xput1 i (.int (iI z)) lv = lv') (k : LW p l e R s m args below meth c G nL Q k0 w0 M (pc + 1) lv' st) : LW p l e R s m args below meth c G nL Q k0 w0 M pc lv (.int (iI z) :: st) :=
  fun H locs ls hP hS hl => lv_istore_n C.1 C.2.1 hd hi hl hn h (fun ls' hl' => k H locs ls' hP hS hl')
theorem L_istore (C : Cx p s m args meth c G cc nL own Ts rt) {i : Nat} {z : Int} {lv' : List (Nat × Value)} (hd : decode cc pc = .ok (.istore i, 2)) (hn : i < nL) (h : xput1 i (.int (iI z)) lv = lv') (k : LW p l e R s m args below meth c G nL Q k0 w0 M (pc + 2) lv' st) : LW p l e R s m args below meth c G nL Q k0 w0 M pc lv (.int (iI z) :: st) :=
  fun H locs ls hP hS hl => lv_istore C.1 C.2.1 hd hl hn h (fun ls' hl' => k H locs ls' hP hS hl')
theorem L_lstore (C : Cx p s m args meth c G cc nL own Ts rt) {i : Nat} {z : Int} {lv' : List (Nat × Value)} (hd : decode cc pc = .ok (.lstore i, 2)) (hn : i + 1 < nL) (h : xput2 i (.long (lL z)) lv = lv') (k : LW p l e R s m args below meth c G nL Q k0 w0 M (pc + 2) lv' st) : LW p l e R s m args below meth c G nL Q k0 w0 M pc lv (.long (lL z) :: st) :=
  fun H locs ls hP hS hl => lv_lstore C.1 C.2.1 hd hl hn h (fun ls' hl' => k H locs ls' hP hS hl')
theorem L_astoren (C : Cx p s m args meth c G cc nL own Ts rt) {j : Fin 4} {i a : Nat} {lv' : List (Nat × Value)} (hd : decode cc pc = .ok (.astore_n j, 1)) (hi : (j : Nat) = i) (hn : i < nL) (h : xput1 i (.ref a) lv = lv') (k : LW p l e R s m args below meth c G nL Q k0 w0 M (pc + 1) lv' st) : LW p l e R s m args below meth c G nL Q k0 w0 M pc lv (.ref a :: st) :=
  fun H locs ls hP hS hl => lv_astore_n C.1 C.2.1 hd hi hl hn h (fun ls' hl' => k H locs ls' hP hS hl')
theorem L_astore (C : Cx p s m args meth c G cc nL own Ts rt) {i a : Nat} {lv' : List (Nat × Value)} (hd : decode cc pc = .ok (.astore i, 2)) (hn : i < nL) (h : xput1 i (.ref a) lv = lv') (k : LW p l e R s m args below meth c G nL Q k0 w0 M (pc + 2) lv' st) : LW p l e R s m args below meth c G nL Q k0 w0 M pc lv (.ref a :: st) :=
  fun H locs ls hP hS hl => lv_astore C.1 C.2.1 hd hl hn h (fun ls' hl' => k H locs ls' hP hS hl')
theorem L_iinc (C : Cx p s m args meth c G cc nL own Ts rt) {i : Nat} {d z : Int} {lv' : List (Nat × Value)} (hd : decode cc pc = .ok (.iinc i d, 3)) (n : Nat) (h : lv[n]? = some (i, .int (iI z))) (hn : i < nL) (h' : xput1 i (.int (iI (z + d))) lv = lv') (k : LW p l e R s m args below meth c G nL Q k0 w0 M (pc + 3) lv' st) : LW p l e R s m args below meth c G nL Q k0 w0 M pc lv st :=
  fun H locs ls hP hS hl => lv_iinc C.1 C.2.1 hd hl h (iI_add z d) hn h' (fun ls' hl' => k H locs ls' hP hS hl')
theorem L_iadd (C : Cx p s m args meth c G cc nL own Ts rt) {a b : Int} (hd : decode cc pc = .ok (.iadd, 1)) (k : LW p l e R s m args below meth c G nL Q k0 w0 M (pc + 1) lv (.int (iI (a + b)) :: st)) : LW p l e R s m args below meth c G nL Q k0 w0 M pc lv (.int (iI b) :: .int (iI a) :: st) :=
  fun H locs ls hP hS hl => lv_iadd C.1 C.2.1 hd (by rw [iI_add]; exact k H locs ls hP hS hl)
theorem L_isub (C : Cx p s m args meth c G cc nL own Ts rt) {a b : Int} (hd : decode cc pc = .ok (.isub, 1)) (k : LW p l e R s m args below meth c G nL Q k0 w0 M (pc + 1) lv (.int (iI (a - b)) :: st)) : LW p l e R s m args below meth c G nL Q k0 w0 M pc lv (.int (iI b) :: .int (iI a) :: st) :=
  fun H locs ls hP hS hl => lv_isub C.1 C.2.1 hd (by rw [iI_sub]; exact k H locs ls hP hS hl)
theorem L_iandH (C : Cx p s m args meth c G cc nL own Ts rt) {a b : Int} (hd : decode cc pc = .ok (.iand, 1)) (k : ∀ z : Int, r32 z → LW p l e R s m args below meth c G nL Q k0 w0 M (pc + 1) lv (.int (iI z) :: st)) : LW p l e R s m args below meth c G nL Q k0 w0 M pc lv (.int (iI b) :: .int (iI a) :: st) :=
  fun H locs ls hP hS hl => lv_iand C.1 C.2.1 hd (by
    rw [iI_of (iI a &&& iI b)]
    exact k _ (i_r32 _) H locs ls hP hS hl)
theorem L_i2l (C : Cx p s m args meth c G cc nL own Ts rt) {z : Int} (h : r32 z) (hd : decode cc pc = .ok (.i2l, 1)) (k : LW p l e R s m args below meth c G nL Q k0 w0 M (pc + 1) lv (.long (lL z) :: st)) : LW p l e R s m args below meth c G nL Q k0 w0 M pc lv (.int (iI z) :: st) :=
  fun H locs ls hP hS hl => lv_i2l C.1 C.2.1 hd (i2l_eq h) (k H locs ls hP hS hl)
theorem L_goto (C : Cx p s m args meth c G cc nL own Ts rt) {off : Int} (tgt : Nat) (hd : decode cc pc = .ok (.goto off, 3)) (ht : (pc : Int) + off = (tgt : Int)) (k : LW p l e R s m args below meth c G nL Q k0 w0 M tgt lv st) : LW p l e R s m args below meth c G nL Q k0 w0 M pc lv st :=
  fun H locs ls hP hS hl => lv_goto C.1 C.2.1 hd ht (k H locs ls hP hS hl)
theorem L_icmpgt (C : Cx p s m args meth c G cc nL own Ts rt) {a b off : Int} (tgt : Nat) (hd : decode cc pc = .ok (.if_icmp .gt off, 3)) (ht : (pc : Int) + off = (tgt : Int)) (ha : r32 a) (hb : r32 b) (k1 : b < a → LW p l e R s m args below meth c G nL Q k0 w0 M tgt lv st) (k2 : a ≤ b → LW p l e R s m args below meth c G nL Q k0 w0 M (pc + 3) lv st) : LW p l e R s m args below meth c G nL Q k0 w0 M pc lv (.int (iI b) :: .int (iI a) :: st) :=
  fun H locs ls hP hS hl => lv_icmp_gt C.1 C.2.1 hd ht (fun h => k1 ((iI_lt hb ha).mp h) H locs ls hP hS hl) (fun h => k2 (Int.not_lt.mp (fun q => h ((iI_lt hb ha).mpr q))) H locs ls hP hS hl)
theorem L_icmpeq (C : Cx p s m args meth c G cc nL own Ts rt) {a b off : Int} (tgt : Nat) (hd : decode cc pc = .ok (.if_icmp .eq off, 3)) (ht : (pc : Int) + off = (tgt : Int)) (ha : r32 a) (hb : r32 b) (k1 : a = b → LW p l e R s m args below meth c G nL Q k0 w0 M tgt lv st) (k2 : ¬ a = b → LW p l e R s m args below meth c G nL Q k0 w0 M (pc + 3) lv st) : LW p l e R s m args below meth c G nL Q k0 w0 M pc lv (.int (iI b) :: .int (iI a) :: st) :=
  fun H locs ls hP hS hl => lv_icmp_eq C.1 C.2.1 hd ht (fun h => k1 ((iI_eq ha hb).mp h) H locs ls hP hS hl) (fun h => k2 (fun q => h ((iI_eq ha hb).mpr q)) H locs ls hP hS hl)
theorem L_ifeq (C : Cx p s m args meth c G cc nL own Ts rt) {a off : Int} (tgt : Nat) (hd : decode cc pc = .ok (.ifCond .eq off, 3)) (ht : (pc : Int) + off = (tgt : Int)) (ha : r32 a) (k1 : a = 0 → LW p l e R s m args below meth c G nL Q k0 w0 M tgt lv st) (k2 : ¬ a = 0 → LW p l e R s m args below meth c G nL Q k0 w0 M (pc + 3) lv st) : LW p l e R s m args below meth c G nL Q k0 w0 M pc lv (.int (iI a) :: st) :=
  fun H locs ls hP hS hl => lv_if_eq C.1 C.2.1 hd ht (fun h => k1 ((iI_eq ha (by decide)).mp (by rw [iI_0]; exact h)) H locs ls hP hS hl) (fun h => k2 (fun q => h (by rw [← iI_0]; exact (iI_eq ha (by decide)).mpr q)) H locs ls hP hS hl)
theorem L_pop (C : Cx p s m args meth c G cc nL own Ts rt) {v : Value} (hd : decode cc pc = .ok (.pop, 1)) (hv : v.category = 1) (k : LW p l e R s m args below meth c G nL Q k0 w0 M (pc + 1) lv st) : LW p l e R s m args below meth c G nL Q k0 w0 M pc lv (v :: st) :=
  fun H locs ls hP hS hl => lv_pop C.1 C.2.1 hd hv (k H locs ls hP hS hl)
theorem L_pop2 (C : Cx p s m args meth c G cc nL own Ts rt) {v : Value} (hd : decode cc pc = .ok (.pop2, 1)) (hv : v.category = 2) (k : LW p l e R s m args below meth c G nL Q k0 w0 M (pc + 1) lv st) : LW p l e R s m args below meth c G nL Q k0 w0 M pc lv (v :: st) :=
  fun H locs ls hP hS hl => lv_pop2_2 C.1 C.2.1 hd hv (k H locs ls hP hS hl)
theorem L_tabIn (C : Cx p s m args meth c G cc nL own Ts rt) {x dflt lo hi : Int} {offs : Array Int} {len : Nat} (k : Int) {off : Int} (tgt : Nat) (hd : decode cc pc = .ok (.tableswitch dflt lo hi offs, len)) (hk : x = k) (hr : r32 k) (h1 : ¬ k < lo) (h2 : ¬ hi < k) (ho : offs[(k - lo).toNat]? = some off) (ht : (pc : Int) + off = (tgt : Int)) (kk : LW p l e R s m args below meth c G nL Q k0 w0 M tgt lv st) : LW p l e R s m args below meth c G nL Q k0 w0 M pc lv (.int (iI x) :: st) := by
  intro H locs ls hP hS hl
  subst hk
  exact lv_tableIn C.1 C.2.1 hd (by rw [iI_toInt hr]; exact h1) (by rw [iI_toInt hr]; exact h2) (by rw [iI_toInt hr]; exact ho) ht (kk H locs ls hP hS hl)
theorem L_tabOut (C : Cx p s m args meth c G cc nL own Ts rt) {x dflt lo hi : Int} {offs : Array Int} {len : Nat} (tgt : Nat) (hd : decode cc pc = .ok (.tableswitch dflt lo hi offs, len)) (hr : r32 x) (h : x < lo ∨ hi < x) (ht : (pc : Int) + dflt = (tgt : Int)) (kk : LW p l e R s m args below meth c G nL Q k0 w0 M tgt lv st) : LW p l e R s m args below meth c G nL Q k0 w0 M pc lv (.int (iI x) :: st) :=
  fun H locs ls hP hS hl => lv_tableOut C.1 C.2.1 hd (by rw [iI_toInt hr]; exact h) ht (kk H locs ls hP hS hl)
theorem L_last (C : Cx p s m args meth c G cc nL own Ts rt) {a r n : Nat} {z x : Int} (hr : kd a = r) (h9 : (r == 99) = false) (hs : shp r = (2, n)) (hn : n < 2 ^ 31) (h0 : 0 ≤ z) (h1 : z < n) (hd : decode cc pc = .ok (.lastore, 1))
    (kk : LW p l e R s m args below meth c G nL Q k0 w0 (sL M a z.toNat x) (pc + 1) lv st) : LW p l e R s m args below meth c G nL Q k0 w0 M pc lv (.long (lL x) :: .int (iI z) :: .ref (G.2.2 + a) :: st) := by
  intro H locs ls hP hS hl
  have hsh : shp (kd a) = (2, n) := by rw [hr]; exact hs
  refine va_last C.1 C.2.1 C.2.2.2.2.2.1 hP xD hS a 1 (xAt hr h9 (xE_2 hsh)) rfl (iI_in h0 h1 hn) hd (fun H1 locs1 hP1 _ hS1 => ?_)
  rw [iI_cl h0 (by omega), sL_ws (M := M) (k := z.toNat) (z := x) (kd_lt hr h9) (by
    rw [xE_2 hsh]
    congr 5
    funext j
    by_cases hj : j = z.toNat
    · subst hj; simp [sL, vp_updL]
    · simp [sL, vp_updL, hj])] at hP1
  exact kk H1 locs1 ls hP1 hS1 hl
theorem L_st {st' : List Value} (h : st = st') (k : LW p l e R s m args below meth c G nL Q k0 w0 M pc lv st') : LW p l e R s m args below meth c G nL Q k0 w0 M pc lv st := h ▸ k
theorem L_lv {lv' : List (Nat × Value)} (h : lv = lv') (k : LW p l e R s m args below meth c G nL Q k0 w0 M pc lv' st) : LW p l e R s m args below meth c G nL Q k0 w0 M pc lv st := h ▸ k
theorem L_pick (ks : List Nat) {lv' : List (Nat × Value)} (h : lv_pick lv ks = lv') (k : LW p l e R s m args below meth c G nL Q k0 w0 M pc lv' st) : LW p l e R s m args below meth c G nL Q k0 w0 M pc lv st :=
  fun H locs ls hP hS hl => k H locs ls hP hS (lv_sub hl ks h)
theorem L_widen {k1 w1 : Nat} (h1 : k0 ≤ k1) (h2 : w0 ≤ w1) (k : LW p l e R s m args below meth c G nL Q k1 w1 M pc lv st) : LW p l e R s m args below meth c G nL Q k0 w0 M pc lv st :=
  fun H locs ls hP hS hl => W.widen h1 h2 (k H locs ls hP hS hl)
theorem L_slen (C : Cx p s m args meth c G cc nL own Ts rt) {b L : Nat} {xs : Nat → Int32} (hX : va_X b L xs s s.heap) (hbl : b < s.heap.size) (hbA : ¬ G.2.2 ≤ b) (hd : decode cc pc = .ok (.arraylength, 1)) (k : LW p l e R s m args below meth c G nL Q k0 w0 M (pc + 1) lv (.int (iI (L : Int)) :: st)) : LW p l e R s m args below meth c G nL Q k0 w0 M pc lv (.ref b :: st) :=
  fun H locs ls hP hS hl => va_slen (A := fun q => G.2.2 ≤ q) C.1 C.2.1 hX hbl hbA hS hd (by
    rw [show Int32.ofNat L = iI (L : Int) from (Int32.ofInt_eq_ofNat).symm]
    exact k H locs ls hP hS hl)
theorem L_sld (C : Cx p s m args meth c G cc nL own Ts rt) {b L : Nat} {xs : Nat → Int32} (hX : va_X b L xs s s.heap) (hbl : b < s.heap.size) (hbA : ¬ G.2.2 ≤ b) {z : Int} (h0 : 0 ≤ z) (h1 : z < L) (hL : L ≤ 2560) (hd : decode cc pc = .ok (.iaload, 1)) (k : ∀ y : Int, y = (xs z.toNat).toInt → r32 y → LW p l e R s m args below meth c G nL Q k0 w0 M (pc + 1) lv (.int (iI y) :: st)) : LW p l e R s m args below meth c G nL Q k0 w0 M pc lv (.int (iI z) :: .ref b :: st) :=
  fun H locs ls hP hS hl => va_sld (A := fun q => G.2.2 ≤ q) C.1 C.2.1 hX hbl hbA hS (iI_in h0 h1 (by omega)) hd (by
    rw [iI_cl h0 (by omega), iI_of (xs z.toNat)]
    exact k _ rfl (i_r32 _) H locs ls hP hS hl)
theorem L_run {H : Heap} {locs : List Loc} {ls : Array Slot} {st0 rest : List Value} {a : Array Value} {post : Option Value → Mem → Prop} {mc ms : Nat} (hr : va_Run p l e R s m args below meth c H locs k0 w0 mc ms (F0 m pc ls st0) rest (xQc G post a) (fun q => G.2.2 ≤ q)) (hS : va_S (fun q => G.2.2 ≤ q) s.heap H locs)
    (kk : ∀ (r : Option Value) (M' : Mem) (H1 : Heap) (locs1 : List Loc), post r M' → va_P G.1 vwCl (xWs G nAll M') H1 → va_S (fun q => G.2.2 ≤ q) s.heap H1 locs1 → W p l e R s m args below meth c H1 locs1 (k0 + mc) (w0 + ms) Q (F0 m (pc + 3) ls ((r.map (cv G.2.2)).toList ++ rest))) : W p l e R s m args below meth c H locs k0 w0 Q (F0 m pc ls st0) := by
  intro T hT X
  obtain ⟨v, st₀, t, T', L, h0, X', hL, e1, e2, ⟨r, M', hv, hp, hP', hz, hk⟩, go⟩ := hr T hT X
  cases hv
  rw [h0] at hz hk
  obtain ⟨t2, a1, b1⟩ := kk r M' T'.heap (locs ++ L) hp (by rw [e1]; exact hP')
    ⟨Nat.le_trans hS.1 (by rw [e1]; exact hz), fun q h1 h2 => by rw [e1, hk q (Nat.lt_of_lt_of_le h1 hS.1) h2]; exact hS.2.1 q h1 h2, fun q hq => by
      rcases List.mem_append.mp hq with h | h
      · exact hS.2.2 q h
      · exact hL q h⟩ T' rfl X'
  exact ⟨t2, go t2 a1, b1⟩
theorem L_callV (C : Cx p s m args meth c G cc nL own Ts rt) {y : MethodName} {ws ws' : List Cond} {d : Nat} {a : Nat} {As : List Value} {pre : Mem → Prop} {post : Mem → Option Value → Mem → Prop} (K : Ct y ws d (.ref a :: As) pre post) {rr ci n maxL index : Nat} {bytes : ByteArray} {ret : Option FieldType} {Cn : String} {T : u_T} {N : Nat}
    (g : GoodIn Ts (wsV own index Cn y ws)) (hw : ws = Cond.code y bytes maxL ret :: ws') (hy : y.cls = Cn ∧ y.cls ≠ "java/lang/invoke/MethodHandle" ∧ y.cls ≠ "java/lang/invoke/VarHandle" ∧ (parseMethodDescriptor y.desc).map (fun d => d.parameters.length) = some n) (hR : (rmD d).frames + 1 ≤ R.frames ∧ 8 + (maxL + 11) + (rmD d).locals ≤ R.locals)
    (hr : kd a = rr) (h9 : (rr == 99) = false) (hs : shp rr = (0, ci)) (hc : vwCl[ci]? = some (Cn, T, N)) (hn : As.length = n) (hcat : (st.map fun v => v.category).sum ≤ 8) (hd : decode cc pc = .ok (.invokevirtual index, 3)) (hf : k0 ≤ R.cells ∧ w0 ≤ R.slots) {st0 : List Value} (hst : st0 = (As.map (cv G.2.2)).reverse ++ .ref (G.2.2 + a) :: st)
    (hpre : pre M) (kk : ∀ (r : Option Value) (M' : Mem), post M r M' → LW p l e R s m args below meth c G nL Q k0 w0 M' (pc + 3) lv ((r.map (cv G.2.2)).toList ++ st)) : LW p l e R s m args below meth c G nL Q k0 w0 M pc lv st0 := by
  intro H locs ls hP hS hl
  subst hst
  have hPre : PreV s H Cn (G.2.2 + a) (xPc G (.ref a :: As) M) (As.map (cv G.2.2)) := ⟨xPc_blind, va_recv C.2.2.2.2.2.1 hP hc (xAt hr h9 (xE_0 (by rw [hr]; exact hs))), fun U hU hW => ⟨rfl, by rw [hU]; exact hP, va_K.moved hW.alike C.2.2.2.2.2.1, C.2.2.2.2.2.2.2.2.warm hW⟩⟩
  exact L_run (va_runV (As := As.map (cv G.2.2)) (rest := st) ⟨C.1, C.2.1, C.2.2.1, C.2.2.2.1, C.2.2.2.2.1⟩ (K l G M hpre) (cwV n C.2.2.2.2.1 g hw rfl rfl hy hR) hPre rfl (by rw [List.length_map]; exact hn) hl.1 rfl (lv_room hcat) hd hf) hS (fun r M' H1 locs1 h1 h2 h3 => kk r M' h1 H1 locs1 ls h2 h3 hl)
/-- a method of the law's own, with a table: it returns, one cell and six slots more -/
def CtL (y : MethodName) (ws : List Cond) (d : Nat) (av : List Value) (pre : Mem → Prop) (post : Mem → Option Value → Mem → Prop) : Prop :=
  ∀ (l : Launch) (G : xG) (M : Mem), l.stackTraces = false → pre M → Met l y ws (rmX d) (xTPc G av M) (xQc G (post M)) 1 6 (fun q => G.2.2 ≤ q)
theorem L_callSW (C : Cx p s m args meth c G cc nL own Ts rt) (hl0 : l.stackTraces = false) (hT : xTh G.2.2 s s.heap) {y : MethodName} {ws ws' : List Cond} {d : Nat} {As : List Value} {pre : Mem → Prop} {post : Mem → Option Value → Mem → Prop} (K : CtL y ws d As pre post) {n maxL index : Nat} {bytes : ByteArray} {ret : Option FieldType} {hh : List (Nat × Nat × Nat × Nat)}
    (g : GoodIn Ts (va_wsS own index y ws)) (hw : ws = Cond.codeWith y bytes maxL ret hh :: ws') (hy : y.cls ≠ "java/lang/invoke/MethodHandle" ∧ y.cls ≠ "java/lang/invoke/VarHandle" ∧ (parseMethodDescriptor y.desc).map (fun d => d.parameters.length) = some n) (hR : (rmX d).frames + 1 ≤ R.frames ∧ 8 + (maxL + 11) + (rmX d).locals ≤ R.locals)
    (hn : As.length = n) (hcat : (st.map fun v => v.category).sum ≤ 8) (hd : decode cc pc = .ok (.invokestatic index, 3)) (hf : k0 + 1 ≤ R.cells ∧ w0 + 6 ≤ R.slots) {st0 : List Value} (hst : st0 = (As.map (cv G.2.2)).reverse ++ st)
    (hpre : pre M) (kk : ∀ (r : Option Value) (M' : Mem), post M r M' → LW p l e R s m args below meth c G nL Q (k0 + 1) (w0 + 6) M' (pc + 3) lv ((r.map (cv G.2.2)).toList ++ st)) : LW p l e R s m args below meth c G nL Q k0 w0 M pc lv st0 := by
  intro H locs ls hP hS hl
  subst hst
  have hPre : PreS s H (xTPc G As M) (As.map (cv G.2.2)) := ⟨xTPc_blind, fun U hU hW => ⟨rfl, by rw [hU]; exact hP, va_K.moved hW.alike C.2.2.2.2.2.1, C.2.2.2.2.2.2.2.2.warm hW, by rw [hU]; exact (hT.kept hS).warm hW⟩⟩
  exact L_run (vx_runSW (As := As.map (cv G.2.2)) (rest := st) ⟨C.1, C.2.1, C.2.2.1, C.2.2.2.1, C.2.2.2.2.1⟩ (K l G M hl0 hpre) (vx_cwSW n C.2.2.2.2.1 g hw rfl rfl hy hR) hPre rfl (by rw [List.length_map]; exact hn) hl.1 rfl (lv_room hcat) hd hf) hS (fun r M' H1 locs1 h1 h2 h3 => kk r M' h1 H1 locs1 ls h2 h3 hl)
/-- a call that may throw, out of a method with a table -/
theorem A_callVX (C : Cx p s m args meth c G cc nL own Ts rt) (hl0 : l.stackTraces = false) (hT : xTh G.2.2 s s.heap) {y : MethodName} {ws ws' : List Cond} {d : Nat} {a : Nat} {As : List Value} {pre : Mem → Prop} {post : Mem → Option Value → Mem → Prop} {px : Mem → String → Mem → Prop} (K : CtX y ws d (.ref a :: As) pre post px) {rr ci n maxL index : Nat} {bytes : ByteArray} {ret : Option FieldType} {Cn : String} {T : u_T} {N : Nat}
    (g : GoodIn Ts (wsV own index Cn y ws)) (hw : ws = Cond.code y bytes maxL ret :: ws') (hy : y.cls = Cn ∧ y.cls ≠ "java/lang/invoke/MethodHandle" ∧ y.cls ≠ "java/lang/invoke/VarHandle" ∧ (parseMethodDescriptor y.desc).map (fun d => d.parameters.length) = some n) (hR : (rmX d).frames + 1 ≤ R.frames ∧ 8 + (maxL + 11) + (rmX d).locals ≤ R.locals)
    (hr : kd a = rr) (h9 : (rr == 99) = false) (hs : shp rr = (0, ci)) (hc : vwCl[ci]? = some (Cn, T, N)) (hn : As.length = n) (hcat : (st.map fun v => v.category).sum ≤ 8) (hd : decode cc pc = .ok (.invokevirtual index, 3)) (hf : 1 ≤ R.cells ∧ 6 ≤ R.slots) {st0 : List Value} (hst : st0 = As.reverse ++ .ref a :: st)
    (hpre : pre M) (kk : ∀ (r : Option Value) (M' : Mem), post M r M' → LW p l e R s m args below meth c G nL Q 1 6 M' (pc + 3) (xLs G lv) ((r.map (cv G.2.2)).toList ++ st.map (cv G.2.2)))
    (kx : ∀ (E : String) (M' : Mem) (H1 : Heap) (locs1 : List Loc) (ls : Array Slot) (q : Addr) (ce : Cell), px M E M' → va_P G.1 vwCl (xWs G nAll M') H1 → va_S (fun q => G.2.2 ≤ q) s.heap H1 locs1 → lv_has ls nL (xLs G lv) → H1[q]? = some ce → ce.vm = .none → s.vm.findClass E = some ce.cls → vx_W p l e R s m args below meth c H1 locs1 1 6 Q (F0 m pc ls (st.map (cv G.2.2))) q) :
    AW p l e R s m args below meth c G nL Q M pc lv st0 := by
  intro H locs ls hP hS hl
  subst hst
  rw [xRev]
  have hPre : PreV s H Cn (G.2.2 + a) (xTPc G (.ref a :: As) M) (As.map (cv G.2.2)) := ⟨xTPc_blind, va_recv C.2.2.2.2.2.1 hP hc (xAt hr h9 (xE_0 (by rw [hr]; exact hs))), fun U hU hW => ⟨rfl, by rw [hU]; exact hP, va_K.moved hW.alike C.2.2.2.2.2.1, C.2.2.2.2.2.2.2.2.warm hW, by rw [hU]; exact (hT.kept hS).warm hW⟩⟩
  have hrun := vx_runV (As := As.map (cv G.2.2)) (rest := st.map (cv G.2.2)) (g := F0 m pc ls ((As.map (cv G.2.2)).reverse ++ .ref (G.2.2 + a) :: st.map (cv G.2.2))) (below := below) (meth := meth) (e := e) (locs := locs) (cells := 0) (slots := 0) ⟨C.1, C.2.1, C.2.2.1, C.2.2.2.1, C.2.2.2.2.1⟩ (K l G M hl0 hpre) (cwV n C.2.2.2.2.1 g hw rfl rfl hy hR) hPre rfl (by rw [List.length_map]; exact hn) hl.1 rfl (lv_room (by rw [xCat]; exact hcat)) hd ⟨by omega, by omega⟩
  intro T hT' X
  rcases hrun T hT' X with ⟨v, st₀, t, T', L, h0, X', hL, e1, e2, ⟨r, M', hv, hp, hP', hz, hk⟩, go⟩ | ⟨q, st₀, t, T', L, E, ce, h0, X', hL, e1, e2, ⟨M', hp, hP', hz, hk⟩, hce, hcv, hcl, stp⟩
  · cases hv
    rw [h0] at hz hk
    obtain ⟨t2, a1, b1⟩ := kk r M' hp T'.heap (locs ++ L) ls (by rw [e1]; exact hP')
      ⟨Nat.le_trans hS.1 (by rw [e1]; exact hz), fun q h1 h2 => by rw [e1, hk q (Nat.lt_of_lt_of_le h1 hS.1) h2]; exact hS.2.1 q h1 h2, fun q hq => by
        rcases List.mem_append.mp hq with h | h
        · exact hS.2.2 q h
        · exact hL q h⟩ hl T' rfl X'
    exact ⟨t2, go t2 a1, b1⟩
  · rw [h0] at hz hk
    obtain ⟨t2, a1, b1⟩ := kx E M' T'.heap (locs ++ L) ls q ce hp (by rw [e1]; exact hP')
      ⟨Nat.le_trans hS.1 (by rw [e1]; exact hz), fun q h1 h2 => by rw [e1, hk q (Nat.lt_of_lt_of_le h1 hS.1) h2]; exact hS.2.1 q h1 h2, fun q hq => by
        rcases List.mem_append.mp hq with h | h
        · exact hS.2.2 q h
        · exact hL q h⟩ hl (by rw [e1]; exact hce) hcv hcl T' rfl X'
    exact ⟨t2, stp.trans a1, b1⟩
theorem L_iret {post : Option Value → Mem → Prop} {z : Int} (C : Cx p s m args meth c G cc nL own Ts (some .int)) (hd : decode cc pc = .ok (.ireturn, 1)) (h : post (some (.int (iI z))) M) : LW p l e R s m args below meth c G nL (MQ below (xQc G post) args s k0 w0 (fun q => G.2.2 ≤ q)) k0 w0 M pc lv [.int (iI z)] :=
  fun H locs ls hP hS hl => W.iret C.1 C.2.1 C.2.2.2.2.2.2.1 (fun t ht _ => ⟨_, M, rfl, h, by rw [ht]; exact hP, by rw [ht]; exact hS.1, fun q h1 h2 => by rw [ht]; exact hS.2.1 q h1 h2⟩) hS.2.2 hd (hlocks := C.2.2.2.2.2.2.2.1)
theorem CtL_of {y : MethodName} {ws ws' : List Cond} {d : Nat} {av : List Value} {pre : Mem → Prop} {post : Mem → Option Value → Mem → Prop} {hh : List (Nat × Nat × Nat × Nat)} (ho : y.cls = own) (hy : plainName y.cls = true) (hw : ws = Cond.codeWith y cc nL rt hh :: ws') (hlen : (lg_sl av).length ≤ nL)
    (body : ∀ (p : Program) (l : Launch) (e : Env) (s : State) (m : MethodId) (args : Array Value) (below : List Frame) (meth : Method) (c : Code) (G : xG) (M : Mem), Cx p s m args meth c G cc nL own ws rt → l.stackTraces = false → xTh G.2.2 s s.heap → c.exceptionTable.toList = tableOf hh → pre M →
      AW p l e (rmX d) s m args below meth c G nL (MQ below (xQc G (post M)) args s 1 6 (fun q => G.2.2 ≤ q)) M 0 (lv_args 0 av) []) : CtL y ws d av pre post := by
  subst ho
  intro l G M hl0 hpre
  refine MetFree.of_bodyS (code := cc) (maxLocals := nL) (ret := rt) hy ?_ ?_
  · intro args s m h hn
    obtain ⟨m9, meth, c, hn9, h1, h2, h3, h4, -, h5, h6, -⟩ := Cond.codeWith_spec (atoms_spec (ws := ws) h _ (by rw [hw]; exact List.mem_cons_self))
    cases hn.symm.trans hn9
    exact ⟨meth, c, h1, h2, h3, h4, h5, h6⟩
  · intro p e s m args below meth c s₁ B hml hv _
    obtain ⟨rfl, hP, hK, hN, hT⟩ := hv
    have hts := atoms_spec (ws := ws) B.pre
    have ht : c.exceptionTable.toList = tableOf hh := vx_table (x := y) B (hts _ (by rw [hw]; exact List.mem_cons_self))
    have hown : s.vm.findClass y.cls = some m.cls := findClass_of_methodNamed B.named
    have C : Cx p s m (av.map (cv G.2.2)).toArray meth c G cc nL y.cls ws rt := ⟨B.exec, B.bytes, hml, hown, hts, hK, B.returns, B.notSynchronized, hN⟩
    have hl := lv_entry (av.map (cv G.2.2)) (n := nL) (by rw [lg_cv]; exact hlen)
    rw [lv_args_cv] at hl
    have hh0 : s₁.heap = s.heap := by rw [B.state]; rfl
    have key := body p l e s m _ below meth c G M C hl0 hT ht hpre s.heap [] _ hP va_S.rf hl
    rw [List.map_nil, ← lg_entry_eq] at key
    obtain ⟨t, a1, o, b1, b2, b3⟩ := key s₁ hh0 (Stand.of_body B)
    exact ⟨t, o, a1, b1, b2, ⟨b3.1, b3.2⟩⟩
end LWS
