/-! the judgement where objects are made: so many stand (n0), so many cells and slots are new in this frame -/
def AN (p : Program) (l : Launch) (e : Env) (R : Room) (s : State) (m : MethodId) (args : Array Value) (below : List Frame) (meth : Method) (c : Code) (G : xG) (nL : Nat) (Q : State → Prop) (n0 k0 w0 : Nat) (M : Mem) (pc : Nat) (lv : List (Nat × Value)) (st : List Value) : Prop :=
  ∀ (H : Heap) (locs : List Loc) (ls : Array Slot), va_P G.1 vwCl (xWs G n0 M) H → H.size = G.2.2 + n0 → va_S (fun q => G.2.2 ≤ q) s.heap H locs → lv_has ls nL (xLs G lv) → W p l e R s m args below meth c H locs k0 w0 Q (F0 m pc ls (st.map (cv G.2.2)))
/-- what has not been made yet is blank -/
def Zr (M : Mem) (n0 : Nat) : Prop := ∀ a, n0 ≤ a → ∀ j, M.1 a j = 0 ∧ M.2.1 a j = 0 ∧ M.2.2 a j = none
theorem xWs_succ {G : xG} {n0 : Nat} {M : Mem} : xWs G (n0 + 1) M = xWs G n0 M ++ [(G.2.2 + n0, xE G M n0)] := by
  unfold xWs
  rw [List.range_succ, List.map_append]
  rfl
theorem xP_push {G : xG} {n0 : Nat} {M : Mem} {H H1 : Heap} (hP : va_P G.1 vwCl (xWs G n0 M) H) (o1 : ∀ q : Nat, q < H.size → H1[q]? = H[q]?) (h1 : va_at G.1 vwCl (G.2.2 + n0, xE G M n0) H1) : va_P G.1 vwCl (xWs G (n0 + 1) M) H1 := by
  rw [xWs_succ]
  refine (hP.kept (fun k x hx => o1 x.1 ((hP k x hx).lt))).app (fun k x hx => ?_)
  have hz : k < 1 := (List.getElem?_eq_some_iff.mp hx).1
  rw [show k = 0 by omega] at hx
  cases hx
  exact h1
theorem xS_push {b : Nat} {H0 H H1 : Heap} {locs : List Loc} (hS : va_S (fun q => b ≤ q) H0 H locs) (z1 : H1.size = H.size + 1) (o1 : ∀ q : Nat, q < H.size → H1[q]? = H[q]?) : va_S (fun q => b ≤ q) H0 H1 locs :=
  ⟨Nat.le_trans hS.1 (by omega), fun x h1 h2 => (o1 x (Nat.lt_of_lt_of_le h1 hS.1)).trans (hS.2.1 x h1 h2), hS.2.2⟩
/-- a new object of a class -/
def bkV (t : Nat) : Value := match t with
  | 1 => .long 0
  | 2 => .null
  | _ => .int 0
theorem xF_blank {b : Nat} {M : Mem} {a k : Nat} (h : ∀ j, M.1 a j = 0 ∧ M.2.1 a j = 0 ∧ M.2.2 a j = none) : ∀ t : Nat, xF b M a k t = bkV t
  | 0 => by show Value.int (iI (M.1 a k)) = Value.int 0; rw [(h k).1, iI_0]
  | 1 => by show Value.long (lL (M.2.1 a k)) = Value.long 0; rw [(h k).2.1, show lL 0 = 0 by decide +kernel]
  | 2 => by show va_rf ((M.2.2 a k).map (b + ·)) = Value.null; rw [(h k).2.2]; rfl
  | n + 3 => by show Value.int (iI (M.1 a k)) = Value.int 0; rw [(h k).1, iI_0]
theorem xFs_blank {b : Nat} {M : Mem} {a : Nat} (h : ∀ j, M.1 a j = 0 ∧ M.2.1 a j = 0 ∧ M.2.2 a j = none) : ∀ (ks : List Nat) (k : Nat), xFs b M a k ks = ks.map bkV := by
  intro ks
  induction ks with
  | nil => intro k; rfl
  | cons t r ih =>
    intro k
    unfold xFs
    rw [ih, List.map_cons, xF_blank h]
section ANR
variable {p : Program} {l : Launch} {e : Env} {R : Room} {s : State} {m : MethodId} {args : Array Value} {below : List Frame} {meth : Method} {c : Code} {G : xG} {nL : Nat} {Q : State → Prop} {M : Mem} {pc : Nat} {lv : List (Nat × Value)} {st : List Value} {cc : ByteArray} {own : String} {Ts : List Cond} {rt : Option FieldType} {n0 k0 w0 : Nat}
theorem N_lv {lv' : List (Nat × Value)} (h : lv = lv') (k : AN p l e R s m args below meth c G nL Q n0 k0 w0 M pc lv' st) : AN p l e R s m args below meth c G nL Q n0 k0 w0 M pc lv st := h ▸ k
theorem N_mem {M' : Mem} (h : M = M') (k : AN p l e R s m args below meth c G nL Q n0 k0 w0 M' pc lv st) : AN p l e R s m args below meth c G nL Q n0 k0 w0 M pc lv st := h ▸ k
theorem N_iconst (C : Cx p s m args meth c G cc nL own Ts rt) {n : Int} (hd : decode cc pc = .ok (.iconst n, 1)) (k : AN p l e R s m args below meth c G nL Q n0 k0 w0 M (pc + 1) lv (.int (iI n) :: st)) : AN p l e R s m args below meth c G nL Q n0 k0 w0 M pc lv st :=
  fun H locs ls hP hz hS hl => lv_iconst C.1 C.2.1 hd rfl (k H locs ls hP hz hS hl)
theorem N_bipush (C : Cx p s m args meth c G cc nL own Ts rt) {n : Int} (hd : decode cc pc = .ok (.bipush n, 2)) (h : -128 ≤ n ∧ n ≤ 127) (k : AN p l e R s m args below meth c G nL Q n0 k0 w0 M (pc + 2) lv (.int (iI n) :: st)) : AN p l e R s m args below meth c G nL Q n0 k0 w0 M pc lv st :=
  fun H locs ls hP hz hS hl => lv_bipush C.1 C.2.1 hd (i8 n h) (k H locs ls hP hz hS hl)
theorem N_sipush (C : Cx p s m args meth c G cc nL own Ts rt) {n : Int} (hd : decode cc pc = .ok (.sipush n, 3)) (h : -32768 ≤ n ∧ n ≤ 32767) (k : AN p l e R s m args below meth c G nL Q n0 k0 w0 M (pc + 3) lv (.int (iI n) :: st)) : AN p l e R s m args below meth c G nL Q n0 k0 w0 M pc lv st :=
  fun H locs ls hP hz hS hl => lv_sipush C.1 C.2.1 hd (i16 n h) (k H locs ls hP hz hS hl)
theorem N_lconst0 (C : Cx p s m args meth c G cc nL own Ts rt) (hd : decode cc pc = .ok (.lconst 0, 1)) (k : AN p l e R s m args below meth c G nL Q n0 k0 w0 M (pc + 1) lv (.long (lL 0) :: st)) : AN p l e R s m args below meth c G nL Q n0 k0 w0 M pc lv st :=
  fun H locs ls hP hz hS hl => lv_lconst C.1 C.2.1 hd (by decide +kernel) (k H locs ls hP hz hS hl)
theorem N_lconst1 (C : Cx p s m args meth c G cc nL own Ts rt) (hd : decode cc pc = .ok (.lconst 1, 1)) (k : AN p l e R s m args below meth c G nL Q n0 k0 w0 M (pc + 1) lv (.long (lL 1) :: st)) : AN p l e R s m args below meth c G nL Q n0 k0 w0 M pc lv st :=
  fun H locs ls hP hz hS hl => lv_lconst C.1 C.2.1 hd (by decide +kernel) (k H locs ls hP hz hS hl)
theorem N_iloadn (C : Cx p s m args meth c G cc nL own Ts rt) {j : Fin 4} {i : Nat} {z : Int} (hd : decode cc pc = .ok (.iload_n j, 1)) (n : Nat) (h : lv[n]? = some (i, .int (iI z))) (hi : (j : Nat) = i) (k : AN p l e R s m args below meth c G nL Q n0 k0 w0 M (pc + 1) lv (.int (iI z) :: st)) : AN p l e R s m args below meth c G nL Q n0 k0 w0 M pc lv st :=
  fun H locs ls hP hz hS hl => lv_iload_n C.1 C.2.1 hd hi (lv_at hl n (xLs_at h)) (k H locs ls hP hz hS hl)
theorem N_aloadn (C : Cx p s m args meth c G cc nL own Ts rt) {j : Fin 4} {i a : Nat} (hd : decode cc pc = .ok (.aload_n j, 1)) (n : Nat) (h : lv[n]? = some (i, .ref a)) (hi : (j : Nat) = i) (k : AN p l e R s m args below meth c G nL Q n0 k0 w0 M (pc + 1) lv (.ref a :: st)) : AN p l e R s m args below meth c G nL Q n0 k0 w0 M pc lv st :=
  fun H locs ls hP hz hS hl => lv_aload_n C.1 C.2.1 hd hi (lv_at hl n (xLs_at h)) (k H locs ls hP hz hS hl)
theorem N_istoren (C : Cx p s m args meth c G cc nL own Ts rt) {j : Fin 4} {i : Nat} {z : Int} {lv' : List (Nat × Value)} (hd : decode cc pc = .ok (.istore_n j, 1)) (hi : (j : Nat) = i) (hn : i < nL) (h : xput1 i (.int (iI z)) lv = lv') (k : AN p l e R s m args below meth c G nL Q n0 k0 w0 M (pc + 1) lv' st) : AN p l e R s m args below meth c G nL Q n0 k0 w0 M pc lv (.int (iI z) :: st) :=
  fun H locs ls hP hz hS hl => lv_istore_n C.1 C.2.1 hd hi hl hn (xput1_ls (v := .int (iI z))) (fun ls' hl' => by subst h; exact k H locs ls' hP hz hS hl')
theorem N_iinc (C : Cx p s m args meth c G cc nL own Ts rt) {i : Nat} {d z : Int} {lv' : List (Nat × Value)} (hd : decode cc pc = .ok (.iinc i d, 3)) (n : Nat) (h : lv[n]? = some (i, .int (iI z))) (hn : i < nL) (h' : xput1 i (.int (iI (z + d))) lv = lv') (k : AN p l e R s m args below meth c G nL Q n0 k0 w0 M (pc + 3) lv' st) : AN p l e R s m args below meth c G nL Q n0 k0 w0 M pc lv st :=
  fun H locs ls hP hz hS hl => lv_iinc C.1 C.2.1 hd hl (xLs_at h) (iI_add z d) hn (xput1_ls (v := .int (iI (z + d)))) (fun ls' hl' => by subst h'; exact k H locs ls' hP hz hS hl')
theorem N_icmpge (C : Cx p s m args meth c G cc nL own Ts rt) {a b off : Int} (tgt : Nat) (hd : decode cc pc = .ok (.if_icmp .ge off, 3)) (ht : (pc : Int) + off = (tgt : Int)) (ha : r32 a) (hb : r32 b) (k1 : b ≤ a → AN p l e R s m args below meth c G nL Q n0 k0 w0 M tgt lv st) (k2 : a < b → AN p l e R s m args below meth c G nL Q n0 k0 w0 M (pc + 3) lv st) : AN p l e R s m args below meth c G nL Q n0 k0 w0 M pc lv (.int (iI b) :: .int (iI a) :: st) :=
  fun H locs ls hP hz hS hl => lv_icmp_ge C.1 C.2.1 hd ht (fun h => k1 ((iI_le hb ha).mp h) H locs ls hP hz hS hl) (fun h => k2 (Int.not_le.mp (fun q => h ((iI_le hb ha).mpr q))) H locs ls hP hz hS hl)
theorem N_goto (C : Cx p s m args meth c G cc nL own Ts rt) {off : Int} (tgt : Nat) (hd : decode cc pc = .ok (.goto off, 3)) (ht : (pc : Int) + off = (tgt : Int)) (k : AN p l e R s m args below meth c G nL Q n0 k0 w0 M tgt lv st) : AN p l e R s m args below meth c G nL Q n0 k0 w0 M pc lv st :=
  fun H locs ls hP hz hS hl => lv_goto C.1 C.2.1 hd ht (k H locs ls hP hz hS hl)
theorem N_dup (C : Cx p s m args meth c G cc nL own Ts rt) {v : Value} (hd : decode cc pc = .ok (.dup, 1)) (hv : v.category = 1) (k : AN p l e R s m args below meth c G nL Q n0 k0 w0 M (pc + 1) lv (v :: v :: st)) : AN p l e R s m args below meth c G nL Q n0 k0 w0 M pc lv (v :: st) :=
  fun H locs ls hP hz hS hl => lv_dup C.1 C.2.1 hd (by rw [cv_cat]; exact hv) (k H locs ls hP hz hS hl)
theorem N_pick (ks : List Nat) {lv' : List (Nat × Value)} (h : lv_pick lv ks = lv') (k : AN p l e R s m args below meth c G nL Q n0 k0 w0 M pc lv' st) : AN p l e R s m args below meth c G nL Q n0 k0 w0 M pc lv st :=
  fun H locs ls hP hz hS hl => k H locs ls hP hz hS (lv_sub hl ks (by
    subst h
    unfold lv_pick xLs
    rw [List.map_filterMap]
    congr 1
    funext q
    rw [List.getElem?_map]))
theorem N_isub (C : Cx p s m args meth c G cc nL own Ts rt) {a b : Int} (hd : decode cc pc = .ok (.isub, 1)) (k : AN p l e R s m args below meth c G nL Q n0 k0 w0 M (pc + 1) lv (.int (iI (a - b)) :: st)) : AN p l e R s m args below meth c G nL Q n0 k0 w0 M pc lv (.int (iI b) :: .int (iI a) :: st) :=
  fun H locs ls hP hz hS hl => lv_isub C.1 C.2.1 hd (by rw [iI_sub]; exact k H locs ls hP hz hS hl)
/-- a new row of ints, longs or booleans -/
theorem N_newI (C : Cx p s m args meth c G cc nL own Ts rt) {z : Int} {len : Nat} (hZ : Zr M n0) (hs : shp (kd n0) = (1, len)) (hw : Cond.arrayClass .int ∈ Ts) (hz : z = len) (hl : len < 1000) (hc : k0 + 1 ≤ R.cells) (hsl : w0 + len ≤ R.slots) (hd : decode cc pc = .ok (.newarray .int, 2))
    (kk : AN p l e R s m args below meth c G nL Q (n0 + 1) (k0 + 1) (w0 + len) M (pc + 2) lv (.ref n0 :: st)) : AN p l e R s m args below meth c G nL Q n0 k0 w0 M pc lv (.int (iI z) :: st) := by
  intro H locs ls hP hsz hS hlv
  subst hz
  refine va_newaK (atype := .int) C.1 C.2.1 (C.2.2.2.2.1 _ hw) rfl hd rfl (N := len) (by rw [← iI_0, iI_lt ⟨by omega, by omega⟩ (by decide)]; omega) (by rw [iI_cl (by omega) (by omega)]; omega) (by show len * 4 ≤ _; omega) hc hsl hsz fun H1 cA e1 z1 o1 hAr hNm => ?_
  have hcA : cA = G.2.1 0 := Option.some.inj (hNm.symm.trans (C.2.2.2.2.2.1.2 0 _ rfl).2)
  subst hcA
  refine kk H1 locs ls (xP_push hP (by rw [hsz]; exact o1) ?_) (by rw [z1]; omega) (xS_push hS (by rw [z1, hsz]) (by rw [hsz]; exact o1)) hlv
  rw [xE_1 hs]
  show H1[G.2.2 + n0]? = some (vp_cell _ _)
  rw [e1, vp_cell_i]
  congr 2
  funext j
  rw [(hZ n0 (Nat.le_refl _) j).1, iI_0]
  rfl
theorem N_newL (C : Cx p s m args meth c G cc nL own Ts rt) {z : Int} {len : Nat} (hZ : Zr M n0) (hs : shp (kd n0) = (2, len)) (hw : Cond.arrayClass .long ∈ Ts) (hz : z = len) (hl : len < 1000) (hc : k0 + 1 ≤ R.cells) (hsl : w0 + len ≤ R.slots) (hd : decode cc pc = .ok (.newarray .long, 2))
    (kk : AN p l e R s m args below meth c G nL Q (n0 + 1) (k0 + 1) (w0 + len) M (pc + 2) lv (.ref n0 :: st)) : AN p l e R s m args below meth c G nL Q n0 k0 w0 M pc lv (.int (iI z) :: st) := by
  intro H locs ls hP hsz hS hlv
  subst hz
  refine va_newaK (atype := .long) C.1 C.2.1 (C.2.2.2.2.1 _ hw) rfl hd rfl (N := len) (by rw [← iI_0, iI_lt ⟨by omega, by omega⟩ (by decide)]; omega) (by rw [iI_cl (by omega) (by omega)]; omega) (by show len * 8 ≤ _; omega) hc hsl hsz fun H1 cA e1 z1 o1 hAr hNm => ?_
  have hcA : cA = G.2.1 1 := Option.some.inj (hNm.symm.trans (C.2.2.2.2.2.1.2 1 _ rfl).2)
  subst hcA
  refine kk H1 locs ls (xP_push hP (by rw [hsz]; exact o1) ?_) (by rw [z1]; omega) (xS_push hS (by rw [z1, hsz]) (by rw [hsz]; exact o1)) hlv
  rw [xE_2 hs]
  show H1[G.2.2 + n0]? = some (vp_cell _ _)
  rw [e1, vp_cell_l]
  congr 2
  funext j
  rw [(hZ n0 (Nat.le_refl _) j).2.1, show lL 0 = 0 by decide +kernel]
  rfl
theorem N_newZ (C : Cx p s m args meth c G cc nL own Ts rt) {z : Int} {len : Nat} (hZ : Zr M n0) (hs : shp (kd n0) = (3, len)) (hw : Cond.arrayClass .boolean ∈ Ts) (hz : z = len) (hl : len < 1000) (hc : k0 + 1 ≤ R.cells) (hsl : w0 + len ≤ R.slots) (hd : decode cc pc = .ok (.newarray .boolean, 2))
    (kk : AN p l e R s m args below meth c G nL Q (n0 + 1) (k0 + 1) (w0 + len) M (pc + 2) lv (.ref n0 :: st)) : AN p l e R s m args below meth c G nL Q n0 k0 w0 M pc lv (.int (iI z) :: st) := by
  intro H locs ls hP hsz hS hlv
  subst hz
  refine va_newaK (atype := .boolean) C.1 C.2.1 (C.2.2.2.2.1 _ hw) rfl hd rfl (N := len) (by rw [← iI_0, iI_lt ⟨by omega, by omega⟩ (by decide)]; omega) (by rw [iI_cl (by omega) (by omega)]; omega) (by show len * 1 ≤ _; omega) hc hsl hsz fun H1 cA e1 z1 o1 hAr hNm => ?_
  have hcA : cA = G.2.1 2 := Option.some.inj (hNm.symm.trans (C.2.2.2.2.2.1.2 2 _ rfl).2)
  subst hcA
  refine kk H1 locs ls (xP_push hP (by rw [hsz]; exact o1) ?_) (by rw [z1]; omega) (xS_push hS (by rw [z1, hsz]) (by rw [hsz]; exact o1)) hlv
  rw [xE_3 hs]
  show H1[G.2.2 + n0]? = some (vp_cell _ _)
  rw [e1, vp_cell_i]
  congr 2
  funext j
  rw [(hZ n0 (Nat.le_refl _) j).1, iI_0]
  rfl
theorem N_new (C : Cx p s m args meth c G cc nL own Ts rt) {ci index N : Nat} {Cn : String} {T : u_T} {ty : Nat → FieldType} (hZ : Zr M n0) (hs : shp (kd n0) = (0, ci)) (hcl : vwCl[ci]? = some (Cn, T, N)) (hin : ∀ w ∈ u_ws Cn T N, w ∈ Ts) (hty : ∀ k, k < N → parseFieldDescriptor (T k).2.2.1 = some (ty k)) (w1 : Cond.classLink own index Cn ∈ Ts) (w2 : Cond.instantiable Cn N ∈ Ts) (w3 : Cond.initialized Cn ∈ Ts)
    (hb : ∀ j, j < N → defaultValue (ty j) = vp_V ((fks ci).map bkV) j) (hc : k0 + 1 ≤ R.cells) (hsl : w0 + N ≤ R.slots) (hd : decode cc pc = .ok (.new index, 3))
    (kk : AN p l e R s m args below meth c G nL Q (n0 + 1) (k0 + 1) (w0 + N) M (pc + 3) lv (.ref n0 :: st)) : AN p l e R s m args below meth c G nL Q n0 k0 w0 M pc lv st := by
  intro H locs ls hP hsz hS hlv
  have hKn := C.2.2.2.2.2.1.1 ci _ hcl
  refine W.newcK C.1 C.2.1 C.2.2.2.1 (C.2.2.2.2.1 _ w1) (C.2.2.2.2.1 _ w2) (C.2.2.2.2.1 _ w3) rfl hd hc hsl hKn.2.1 hsz fun H1 kC hkC e1 z1 o1 => ?_
  refine kk H1 locs ls (xP_push hP (by rw [hsz]; exact o1) ?_) (by rw [z1]; omega) (xS_push hS (by rw [z1, hsz]) (by rw [hsz]; exact o1)) hlv
  rw [xE_0 hs, xFs_blank (hZ n0 (Nat.le_refl _))]
  exact ⟨_, hcl, (u_born ty C.2.2.2.2.1 hin hKn hkC e1 hty).to hb⟩
end ANR
section ANH
variable {p : Program} {l : Launch} {e : Env} {R : Room} {s : State} {m : MethodId} {args : Array Value} {below : List Frame} {meth : Method} {c : Code} {G : xG} {nL : Nat} {Q : State → Prop} {M M' : Mem} {pc : Nat} {lv : List (Nat × Value)} {st : List Value} {cc : ByteArray} {own : String} {Ts : List Cond} {rt : Option FieldType} {n0 k0 w0 : Nat}
theorem nAt {M : Mem} {a : Nat} {ee : va_E} (ha : a < n0) (he : xE G M a = ee) : (xWs G n0 M)[a]? = some (G.2.2 + a, ee) := by rw [xWs_at ha, he]
theorem N_st {st' : List Value} (h : st = st') (k : AN p l e R s m args below meth c G nL Q n0 k0 w0 M pc lv st') : AN p l e R s m args below meth c G nL Q n0 k0 w0 M pc lv st := h ▸ k
theorem N_put (C : Cx p s m args meth c G cc nL own Ts rt) {a ci k index : Nat} {Cn : String} {T : u_T} {N : Nat} {ty0 : Nat → FieldType} {v : Value} (ha : a < n0) (hs : shp (kd a) = (0, ci)) (F : Fl own Ts ci k index Cn T N) (hty : ∀ k, k < N → parseFieldDescriptor (T k).2.2.1 = some (ty0 k)) (hnm : ∀ a, a < N → ∀ b, b < N → a ≠ b → (T a).2.1 ≠ (T b).2.1)
    (hfin : (T k).2.2.2 = false ∨ ((T k).2.2.2 = true ∧ meth.name = "<init>" ∧ (T k).1 = own)) (hn : narrow (ty0 k) (cv G.2.2 v) = cv G.2.2 v) (hf : fits (ty0 k) (cv G.2.2 v) = true) (hlen : k < (fks ci).length) (hE : xE G M' a = .inr (ci, (xFs G.2.2 M a 0 (fks ci)).set k (cv G.2.2 v))) (ho : ∀ b, b ≠ a → xE G M' b = xE G M b) (hd : decode cc pc = .ok (.putfield index, 3))
    (kk : AN p l e R s m args below meth c G nL Q n0 k0 w0 M' (pc + 3) lv st) : AN p l e R s m args below meth c G nL Q n0 k0 w0 M pc lv (v :: .ref a :: st) := by
  intro H locs ls hP hz hS hl
  have he := nAt (G := G) (n0 := n0) (M := M) ha (xE_0 hs)
  have hts := C.2.2.2.2.1
  have hK := C.2.2.2.2.2.1
  have hin := F.2.2.1
  have hk := F.2.1
  have hap := va_apart (own := own) hts hin ty0 hty hnm hK F.1
  obtain ⟨r, h1, cell, q1, q2, q3, q4⟩ := hP a _ he
  have hr : r = (Cn, T, N) := Option.some.inj (h1.symm.trans F.1)
  subst hr
  obtain ⟨hSl, hfc, kC, hkC, hkind⟩ := hK.1 ci _ F.1
  obtain ⟨cf, kf, fi, f, hi, hsl⟩ := hSl k hk
  have hst := (u_facts hfc hkC (u_lays hts hin hk) hi).1
  have hl2 : k < (xFs G.2.2 M a 0 (fks ci)).length := by rw [xFs_len]; exact hlen
  have fin : ∀ H' : Heap, H'[G.2.2 + a]? = some (cell.setSlot (G.1.2 ci k) (cv G.2.2 v)) → H'.size = H.size → (∀ q, q ≠ G.2.2 + a → H'[q]? = H[q]?) → W p l e R s m args below meth c H' (locs ++ [⟨G.2.2 + a, G.1.2 ci k⟩]) k0 w0 Q (F0 m (pc + 3) ls (st.map (cv G.2.2))) := by
    intro H' e1 e2 e3
    have hP1 := hP.set xD he (H1 := H') (e := .inr (ci, (xFs G.2.2 M a 0 (fks ci)).set k (cv G.2.2 v))) ⟨_, F.1, t_OB.to (V := updV (vp_V (xFs G.2.2 M a 0 (fks ci))) k (cv G.2.2 v)) ⟨_, e1, q2, q3, t_set q4 hap hk (cv G.2.2 v)⟩ (fun j _ => vp_updV_set hl2 (cv G.2.2 v) j)⟩ e3
    rw [xWs_set (G := G) (M := M) (M' := M') ha hE ho] at hP1
    exact kk H' _ ls hP1 (by rw [e2]; exact hz) (hS.put e2 e3 (Nat.le_add_right _ _)) hl
  have hlay := hts _ (hin _ (u_in_lay hk))
  unfold u_lay at hlay
  rcases hfin with hfin | ⟨hfin, hin2, hdecl⟩
  · rw [if_neg (by rw [hfin]; decide)] at hlay
    have h6 := u_store hfc hkC hkind hlay hi (hty k hk) hn hf
    refine W.putK C.1 C.2.1 (f := f) ⟨C.2.2.2.1, hts _ F.2.2.2, ⟨_, _, _, hi⟩, hst⟩ (by rw [q2]; exact h6) q1 q3 (by rw [hsl]; exact k2_hasslot (q4 k hk)) rfl rfl hd fun H' e1 e2 e3 => ?_
    rw [hsl] at e1 ⊢
    exact fin H' e1 e2 e3
  · rw [if_pos hfin] at hlay
    have hcf : m.cls = cf := by
      obtain ⟨_, _, c', _, _, _, -, -, hf', -, -, -, hown2, -⟩ := Cond.laysFinal_spec hlay
      have e1 : c' = cf := by have := hi.symm.trans hf'; simp at this; exact this.1.symm
      rw [hdecl] at hown2
      rw [← e1]; exact Option.some.inj (C.2.2.2.1.symm.trans hown2)
    have h6 := u_fits hfc hkC hkind (Or.inr hlay) hi (hty k hk) hn hf
    refine W.putFinK C.1 C.2.1 C.2.2.2.1 (hts _ F.2.2.2) hi hst hcf hin2 (by rw [q2]; exact h6) q1 q3 (by rw [hsl]; exact k2_hasslot (q4 k hk)) rfl rfl hd fun H' e1 e2 e3 => ?_
    rw [hsl] at e1 ⊢
    exact fin H' e1 e2 e3
end ANH
