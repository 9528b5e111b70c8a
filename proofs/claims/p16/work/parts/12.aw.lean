/-! the judgement: a frame of a method over the system's memory -/
def xNw (U : State) : Prop := va_Nw (.methodLinkNest RX4 32 yX7_within RX7) U ∧ va_Nw (.methodLinkNest RX2 29 yX7_within RX7) U ∧ va_Nw (.methodLinkNest RX0 25 yX7_within RX7) U
theorem xNw.warm {s U : State} (hW : s.WarmedH U.vm) (h : xNw s) : xNw U := ⟨h.1.warmM hW, h.2.1.warmM hW, h.2.2.warmM hW⟩
theorem xNw.same {u U : State} (h : u.vm = U.vm) (hz : xNw u) : xNw U := ⟨hz.1.same rfl h, hz.2.1.same rfl h, hz.2.2.same rfl h⟩
def Cx (p : Program) (s : State) (m : MethodId) (args : Array Value) (meth : Method) (c : Code) (G : xG) (cc : ByteArray) (nL : Nat) (own : String) (Ts : List Cond) (rt : Option FieldType) : Prop :=
  p.tables.exec = Jvm.exec ∧ c.code = cc ∧ c.maxLocals = nL ∧ s.vm.findClass own = some m.cls ∧ (∀ w ∈ Ts, w.before args s = true) ∧ va_K G.1 vwCl (xTys G) s ∧ meth.sig.returnType = rt ∧ meth.locks = false ∧ xNw s
def xLs (G : xG) (lv : List (Nat × Value)) : List (Nat × Value) := lv.map fun q => (q.1, cv G.2.2 q.2)
def AW (p : Program) (l : Launch) (e : Env) (R : Room) (s : State) (m : MethodId) (args : Array Value) (below : List Frame) (meth : Method) (c : Code) (G : xG) (nL : Nat) (Q : State → Prop) (M : Mem) (pc : Nat) (lv : List (Nat × Value)) (st : List Value) : Prop :=
  ∀ (H : Heap) (locs : List Loc) (ls : Array Slot), va_P G.1 vwCl (xWs G nAll M) H → va_S (fun q => G.2.2 ≤ q) s.heap H locs → lv_has ls nL (xLs G lv) → W p l e R s m args below meth c H locs 0 0 Q (F0 m pc ls (st.map (cv G.2.2)))
theorem cv_cat (b : Nat) (v : Value) : (cv b v).category = v.category := by cases v <;> rfl
theorem xLs_at {G : xG} {lv : List (Nat × Value)} {k i : Nat} {v : Value} (h : lv[k]? = some (i, v)) : (xLs G lv)[k]? = some (i, cv G.2.2 v) := by
  unfold xLs
  rw [List.getElem?_map, h]
  rfl
def xput1 (i : Nat) (v : Value) (lv : List (Nat × Value)) : List (Nat × Value) := (i, v) :: lv.filter (fun q => !(q.1 == i) && !(q.1 + 1 == i && q.2.category == 2))
def xput2 (i : Nat) (v : Value) (lv : List (Nat × Value)) : List (Nat × Value) := (i, v) :: lv.filter (fun q => !(q.1 == i) && (!(q.1 == i + 1) && !(q.1 + 1 == i && q.2.category == 2)))
theorem xput1_ls {G : xG} {i : Nat} {v : Value} {lv : List (Nat × Value)} : (i, cv G.2.2 v) :: (xLs G lv).filter (fun q => !(q.1 == i) && !(q.1 + 1 == i && q.2.category == 2)) = xLs G (xput1 i v lv) := by
  unfold xput1 xLs
  rw [List.map_cons, List.filter_map]
  congr 2
  apply List.filter_congr
  intro q _
  simp [Function.comp, cv_cat]
theorem xput2_ls {G : xG} {i : Nat} {v : Value} {lv : List (Nat × Value)} : (i, cv G.2.2 v) :: (xLs G lv).filter (fun q => !(q.1 == i) && (!(q.1 == i + 1) && !(q.1 + 1 == i && q.2.category == 2))) = xLs G (xput2 i v lv) := by
  unfold xput2 xLs
  rw [List.map_cons, List.filter_map]
  congr 2
  apply List.filter_congr
  intro q _
  simp [Function.comp, cv_cat]
section AWR
variable {p : Program} {l : Launch} {e : Env} {R : Room} {s : State} {m : MethodId} {args : Array Value} {below : List Frame} {meth : Method} {c : Code} {G : xG} {nL : Nat} {Q : State → Prop} {M : Mem} {pc : Nat} {lv : List (Nat × Value)} {st : List Value} {cc : ByteArray} {own : String} {Ts : List Cond} {rt : Option FieldType}
theorem A_iconst (C : Cx p s m args meth c G cc nL own Ts rt) {n : Int} (hd : decode cc pc = .ok (.iconst n, 1)) (k : AW p l e R s m args below meth c G nL Q M (pc + 1) lv (.int (iI n) :: st)) : AW p l e R s m args below meth c G nL Q M pc lv st :=
  fun H locs ls hP hS hl => lv_iconst C.1 C.2.1 hd rfl (k H locs ls hP hS hl)
theorem i8 (n : Int) (h : -128 ≤ n ∧ n ≤ 127) : (Int8.ofInt n).toInt32 = iI n := by
  rw [← Int32.toInt_inj, iI_toInt ⟨by omega, by omega⟩, Int8.toInt_toInt32, Int8.toInt_ofInt, Int.bmod_def, show Int8.size = 256 from rfl]
  split <;> omega
theorem i16 (n : Int) (h : -32768 ≤ n ∧ n ≤ 32767) : (Int16.ofInt n).toInt32 = iI n := by
  rw [← Int32.toInt_inj, iI_toInt ⟨by omega, by omega⟩, Int16.toInt_toInt32, Int16.toInt_ofInt, Int.bmod_def, show Int16.size = 65536 from rfl]
  split <;> omega
theorem A_bipush (C : Cx p s m args meth c G cc nL own Ts rt) {n : Int} (hd : decode cc pc = .ok (.bipush n, 2)) (h : -128 ≤ n ∧ n ≤ 127) (k : AW p l e R s m args below meth c G nL Q M (pc + 2) lv (.int (iI n) :: st)) : AW p l e R s m args below meth c G nL Q M pc lv st :=
  fun H locs ls hP hS hl => lv_bipush C.1 C.2.1 hd (i8 n h) (k H locs ls hP hS hl)
theorem A_sipush (C : Cx p s m args meth c G cc nL own Ts rt) {n : Int} (hd : decode cc pc = .ok (.sipush n, 3)) (h : -32768 ≤ n ∧ n ≤ 32767) (k : AW p l e R s m args below meth c G nL Q M (pc + 3) lv (.int (iI n) :: st)) : AW p l e R s m args below meth c G nL Q M pc lv st :=
  fun H locs ls hP hS hl => lv_sipush C.1 C.2.1 hd (i16 n h) (k H locs ls hP hS hl)
theorem A_lconst0 (C : Cx p s m args meth c G cc nL own Ts rt) (hd : decode cc pc = .ok (.lconst 0, 1)) (k : AW p l e R s m args below meth c G nL Q M (pc + 1) lv (.long (lL 0) :: st)) : AW p l e R s m args below meth c G nL Q M pc lv st :=
  fun H locs ls hP hS hl => lv_lconst C.1 C.2.1 hd (by decide +kernel) (k H locs ls hP hS hl)
theorem A_lconst1 (C : Cx p s m args meth c G cc nL own Ts rt) (hd : decode cc pc = .ok (.lconst 1, 1)) (k : AW p l e R s m args below meth c G nL Q M (pc + 1) lv (.long (lL 1) :: st)) : AW p l e R s m args below meth c G nL Q M pc lv st :=
  fun H locs ls hP hS hl => lv_lconst C.1 C.2.1 hd (by decide +kernel) (k H locs ls hP hS hl)
theorem A_ldc2 (C : Cx p s m args meth c G cc nL own Ts rt) {index : Nat} {v : Int64} {z : Int} (hw : Cond.constantLong own index v ∈ Ts) (hv : v = lL z) (hd : decode cc pc = .ok (.ldc2_w index, 3)) (k : AW p l e R s m args below meth c G nL Q M (pc + 3) lv (.long (lL z) :: st)) : AW p l e R s m args below meth c G nL Q M pc lv st :=
  fun H locs ls hP hS hl => by subst hv; exact lv_ldc2 C.1 C.2.1 C.2.2.2.1 (C.2.2.2.2.1 _ hw) hd (k H locs ls hP hS hl)
theorem A_iloadn (C : Cx p s m args meth c G cc nL own Ts rt) {j : Fin 4} {i : Nat} {z : Int} (hd : decode cc pc = .ok (.iload_n j, 1)) (n : Nat) (h : lv[n]? = some (i, .int (iI z))) (hi : (j : Nat) = i) (k : AW p l e R s m args below meth c G nL Q M (pc + 1) lv (.int (iI z) :: st)) : AW p l e R s m args below meth c G nL Q M pc lv st :=
  fun H locs ls hP hS hl => lv_iload_n C.1 C.2.1 hd hi (lv_at hl n (xLs_at h)) (k H locs ls hP hS hl)
theorem A_iload (C : Cx p s m args meth c G cc nL own Ts rt) {i : Nat} {z : Int} (hd : decode cc pc = .ok (.iload i, 2)) (n : Nat) (h : lv[n]? = some (i, .int (iI z))) (k : AW p l e R s m args below meth c G nL Q M (pc + 2) lv (.int (iI z) :: st)) : AW p l e R s m args below meth c G nL Q M pc lv st :=
  fun H locs ls hP hS hl => lv_iload C.1 C.2.1 hd (lv_at hl n (xLs_at h)) (k H locs ls hP hS hl)
theorem A_lloadn (C : Cx p s m args meth c G cc nL own Ts rt) {j : Fin 4} {i : Nat} {z : Int} (hd : decode cc pc = .ok (.lload_n j, 1)) (n : Nat) (h : lv[n]? = some (i, .long (lL z))) (hi : (j : Nat) = i) (k : AW p l e R s m args below meth c G nL Q M (pc + 1) lv (.long (lL z) :: st)) : AW p l e R s m args below meth c G nL Q M pc lv st :=
  fun H locs ls hP hS hl => lv_lload_n C.1 C.2.1 hd hi (lv_at hl n (xLs_at h)) (k H locs ls hP hS hl)
theorem A_lload (C : Cx p s m args meth c G cc nL own Ts rt) {i : Nat} {z : Int} (hd : decode cc pc = .ok (.lload i, 2)) (n : Nat) (h : lv[n]? = some (i, .long (lL z))) (k : AW p l e R s m args below meth c G nL Q M (pc + 2) lv (.long (lL z) :: st)) : AW p l e R s m args below meth c G nL Q M pc lv st :=
  fun H locs ls hP hS hl => lv_lload C.1 C.2.1 hd (lv_at hl n (xLs_at h)) (k H locs ls hP hS hl)
theorem A_aloadn (C : Cx p s m args meth c G cc nL own Ts rt) {j : Fin 4} {i a : Nat} (hd : decode cc pc = .ok (.aload_n j, 1)) (n : Nat) (h : lv[n]? = some (i, .ref a)) (hi : (j : Nat) = i) (k : AW p l e R s m args below meth c G nL Q M (pc + 1) lv (.ref a :: st)) : AW p l e R s m args below meth c G nL Q M pc lv st :=
  fun H locs ls hP hS hl => lv_aload_n C.1 C.2.1 hd hi (lv_at hl n (xLs_at h)) (k H locs ls hP hS hl)
theorem A_aload (C : Cx p s m args meth c G cc nL own Ts rt) {i a : Nat} (hd : decode cc pc = .ok (.aload i, 2)) (n : Nat) (h : lv[n]? = some (i, .ref a)) (k : AW p l e R s m args below meth c G nL Q M (pc + 2) lv (.ref a :: st)) : AW p l e R s m args below meth c G nL Q M pc lv st :=
  fun H locs ls hP hS hl => lv_aload C.1 C.2.1 hd (lv_at hl n (xLs_at h)) (k H locs ls hP hS hl)
theorem A_istoren (C : Cx p s m args meth c G cc nL own Ts rt) {j : Fin 4} {i : Nat} {z : Int} {lv' : List (Nat × Value)} (hd : decode cc pc = .ok (.istore_n j, 1)) (hi : (j : Nat) = i) (hn : i < nL) (h : xput1 i (.int (iI z)) lv = lv') (k : AW p l e R s m args below meth c G nL Q M (pc + 1) lv' st) : AW p l e R s m args below meth c G nL Q M pc lv (.int (iI z) :: st) :=
  fun H locs ls hP hS hl => lv_istore_n C.1 C.2.1 hd hi hl hn (xput1_ls (v := .int (iI z))) (fun ls' hl' => by subst h; exact k H locs ls' hP hS hl')
theorem A_istore (C : Cx p s m args meth c G cc nL own Ts rt) {i : Nat} {z : Int} {lv' : List (Nat × Value)} (hd : decode cc pc = .ok (.istore i, 2)) (hn : i < nL) (h : xput1 i (.int (iI z)) lv = lv') (k : AW p l e R s m args below meth c G nL Q M (pc + 2) lv' st) : AW p l e R s m args below meth c G nL Q M pc lv (.int (iI z) :: st) :=
  fun H locs ls hP hS hl => lv_istore C.1 C.2.1 hd hl hn (xput1_ls (v := .int (iI z))) (fun ls' hl' => by subst h; exact k H locs ls' hP hS hl')
theorem A_lstoren (C : Cx p s m args meth c G cc nL own Ts rt) {j : Fin 4} {i : Nat} {z : Int} {lv' : List (Nat × Value)} (hd : decode cc pc = .ok (.lstore_n j, 1)) (hi : (j : Nat) = i) (hn : i + 1 < nL) (h : xput2 i (.long (lL z)) lv = lv') (k : AW p l e R s m args below meth c G nL Q M (pc + 1) lv' st) : AW p l e R s m args below meth c G nL Q M pc lv (.long (lL z) :: st) :=
  fun H locs ls hP hS hl => lv_lstore_n C.1 C.2.1 hd hi hl hn (xput2_ls (v := .long (lL z))) (fun ls' hl' => by subst h; exact k H locs ls' hP hS hl')
theorem A_lstore (C : Cx p s m args meth c G cc nL own Ts rt) {i : Nat} {z : Int} {lv' : List (Nat × Value)} (hd : decode cc pc = .ok (.lstore i, 2)) (hn : i + 1 < nL) (h : xput2 i (.long (lL z)) lv = lv') (k : AW p l e R s m args below meth c G nL Q M (pc + 2) lv' st) : AW p l e R s m args below meth c G nL Q M pc lv (.long (lL z) :: st) :=
  fun H locs ls hP hS hl => lv_lstore C.1 C.2.1 hd hl hn (xput2_ls (v := .long (lL z))) (fun ls' hl' => by subst h; exact k H locs ls' hP hS hl')
theorem A_astoren (C : Cx p s m args meth c G cc nL own Ts rt) {j : Fin 4} {i a : Nat} {lv' : List (Nat × Value)} (hd : decode cc pc = .ok (.astore_n j, 1)) (hi : (j : Nat) = i) (hn : i < nL) (h : xput1 i (.ref a) lv = lv') (k : AW p l e R s m args below meth c G nL Q M (pc + 1) lv' st) : AW p l e R s m args below meth c G nL Q M pc lv (.ref a :: st) :=
  fun H locs ls hP hS hl => lv_astore_n C.1 C.2.1 hd hi hl hn (xput1_ls (v := .ref a)) (fun ls' hl' => by subst h; exact k H locs ls' hP hS hl')
theorem A_astore (C : Cx p s m args meth c G cc nL own Ts rt) {i a : Nat} {lv' : List (Nat × Value)} (hd : decode cc pc = .ok (.astore i, 2)) (hn : i < nL) (h : xput1 i (.ref a) lv = lv') (k : AW p l e R s m args below meth c G nL Q M (pc + 2) lv' st) : AW p l e R s m args below meth c G nL Q M pc lv (.ref a :: st) :=
  fun H locs ls hP hS hl => lv_astore C.1 C.2.1 hd hl hn (xput1_ls (v := .ref a)) (fun ls' hl' => by subst h; exact k H locs ls' hP hS hl')
theorem A_iinc (C : Cx p s m args meth c G cc nL own Ts rt) {i : Nat} {d z : Int} {lv' : List (Nat × Value)} (hd : decode cc pc = .ok (.iinc i d, 3)) (n : Nat) (h : lv[n]? = some (i, .int (iI z))) (hn : i < nL) (h' : xput1 i (.int (iI (z + d))) lv = lv') (k : AW p l e R s m args below meth c G nL Q M (pc + 3) lv' st) : AW p l e R s m args below meth c G nL Q M pc lv st :=
  fun H locs ls hP hS hl => lv_iinc C.1 C.2.1 hd hl (xLs_at h) (iI_add z d) hn (xput1_ls (v := .int (iI (z + d)))) (fun ls' hl' => by subst h'; exact k H locs ls' hP hS hl')
theorem A_pick (ks : List Nat) {lv' : List (Nat × Value)} (h : lv_pick lv ks = lv') (k : AW p l e R s m args below meth c G nL Q M pc lv' st) : AW p l e R s m args below meth c G nL Q M pc lv st :=
  fun H locs ls hP hS hl => k H locs ls hP hS (lv_sub hl ks (by
    subst h
    unfold lv_pick xLs
    rw [List.map_filterMap]
    congr 1
    funext q
    rw [List.getElem?_map]))
theorem A_iadd (C : Cx p s m args meth c G cc nL own Ts rt) {a b : Int} (hd : decode cc pc = .ok (.iadd, 1)) (k : AW p l e R s m args below meth c G nL Q M (pc + 1) lv (.int (iI (a + b)) :: st)) : AW p l e R s m args below meth c G nL Q M pc lv (.int (iI b) :: .int (iI a) :: st) :=
  fun H locs ls hP hS hl => lv_iadd C.1 C.2.1 hd (by rw [iI_add]; exact k H locs ls hP hS hl)
theorem A_isub (C : Cx p s m args meth c G cc nL own Ts rt) {a b : Int} (hd : decode cc pc = .ok (.isub, 1)) (k : AW p l e R s m args below meth c G nL Q M (pc + 1) lv (.int (iI (a - b)) :: st)) : AW p l e R s m args below meth c G nL Q M pc lv (.int (iI b) :: .int (iI a) :: st) :=
  fun H locs ls hP hS hl => lv_isub C.1 C.2.1 hd (by rw [iI_sub]; exact k H locs ls hP hS hl)
theorem A_imul (C : Cx p s m args meth c G cc nL own Ts rt) {a b : Int} (hd : decode cc pc = .ok (.imul, 1)) (k : AW p l e R s m args below meth c G nL Q M (pc + 1) lv (.int (iI (a * b)) :: st)) : AW p l e R s m args below meth c G nL Q M pc lv (.int (iI b) :: .int (iI a) :: st) :=
  fun H locs ls hP hS hl => lv_imul C.1 C.2.1 hd (by rw [iI_mul]; exact k H locs ls hP hS hl)
theorem A_ladd (C : Cx p s m args meth c G cc nL own Ts rt) {a b : Int} (hd : decode cc pc = .ok (.ladd, 1)) (k : AW p l e R s m args below meth c G nL Q M (pc + 1) lv (.long (lL (a + b)) :: st)) : AW p l e R s m args below meth c G nL Q M pc lv (.long (lL b) :: .long (lL a) :: st) :=
  fun H locs ls hP hS hl => lv_ladd C.1 C.2.1 hd (by rw [lL_add]; exact k H locs ls hP hS hl)
theorem A_lsub (C : Cx p s m args meth c G cc nL own Ts rt) {a b : Int} (hd : decode cc pc = .ok (.lsub, 1)) (k : AW p l e R s m args below meth c G nL Q M (pc + 1) lv (.long (lL (a - b)) :: st)) : AW p l e R s m args below meth c G nL Q M pc lv (.long (lL b) :: .long (lL a) :: st) :=
  fun H locs ls hP hS hl => lv_lsub C.1 C.2.1 hd (by rw [lL_sub]; exact k H locs ls hP hS hl)
theorem A_lmul (C : Cx p s m args meth c G cc nL own Ts rt) {a b : Int} (hd : decode cc pc = .ok (.lmul, 1)) (k : AW p l e R s m args below meth c G nL Q M (pc + 1) lv (.long (lL (a * b)) :: st)) : AW p l e R s m args below meth c G nL Q M pc lv (.long (lL b) :: .long (lL a) :: st) :=
  fun H locs ls hP hS hl => lv_lmul C.1 C.2.1 hd (by rw [lL_mul]; exact k H locs ls hP hS hl)
/-- the number on top, by a name of its own within the ints -/
theorem A_topi {x : Int} (k : ∀ z : Int, r32 z → iI x = iI z → AW p l e R s m args below meth c G nL Q M pc lv (.int (iI z) :: st)) : AW p l e R s m args below meth c G nL Q M pc lv (.int (iI x) :: st) := by
  have h : iI x = iI (iI x).toInt := iI_of (iI x)
  rw [h]
  exact k _ (i_r32 _) h
theorem A_topl {x : Int} (k : ∀ z : Int, r64 z → lL x = lL z → AW p l e R s m args below meth c G nL Q M pc lv (.long (lL z) :: st)) : AW p l e R s m args below meth c G nL Q M pc lv (.long (lL x) :: st) := by
  have h : lL x = lL (lL x).toInt := lL_of (lL x)
  rw [h]
  exact k _ (l_r64 _) h
/-- .. exactly, under a name -/
theorem A_nami {x : Int} (k : ∀ z : Int, z = x → AW p l e R s m args below meth c G nL Q M pc lv (.int (iI z) :: st)) : AW p l e R s m args below meth c G nL Q M pc lv (.int (iI x) :: st) := k x rfl
theorem A_naml {x : Int} (k : ∀ z : Int, z = x → AW p l e R s m args below meth c G nL Q M pc lv (.long (lL z) :: st)) : AW p l e R s m args below meth c G nL Q M pc lv (.long (lL x) :: st) := k x rfl
theorem A_goto (C : Cx p s m args meth c G cc nL own Ts rt) {off : Int} (tgt : Nat) (hd : decode cc pc = .ok (.goto off, 3)) (ht : (pc : Int) + off = (tgt : Int)) (k : AW p l e R s m args below meth c G nL Q M tgt lv st) : AW p l e R s m args below meth c G nL Q M pc lv st :=
  fun H locs ls hP hS hl => lv_goto C.1 C.2.1 hd ht (k H locs ls hP hS hl)
theorem A_icmplt (C : Cx p s m args meth c G cc nL own Ts rt) {a b off : Int} (tgt : Nat) (hd : decode cc pc = .ok (.if_icmp .lt off, 3)) (ht : (pc : Int) + off = (tgt : Int)) (ha : r32 a) (hb : r32 b) (k1 : a < b → AW p l e R s m args below meth c G nL Q M tgt lv st) (k2 : b ≤ a → AW p l e R s m args below meth c G nL Q M (pc + 3) lv st) : AW p l e R s m args below meth c G nL Q M pc lv (.int (iI b) :: .int (iI a) :: st) :=
  fun H locs ls hP hS hl => lv_icmp_lt C.1 C.2.1 hd ht (fun h => k1 ((iI_lt ha hb).mp h) H locs ls hP hS hl) (fun h => k2 (Int.not_lt.mp (fun q => h ((iI_lt ha hb).mpr q))) H locs ls hP hS hl)
theorem A_icmpge (C : Cx p s m args meth c G cc nL own Ts rt) {a b off : Int} (tgt : Nat) (hd : decode cc pc = .ok (.if_icmp .ge off, 3)) (ht : (pc : Int) + off = (tgt : Int)) (ha : r32 a) (hb : r32 b) (k1 : b ≤ a → AW p l e R s m args below meth c G nL Q M tgt lv st) (k2 : a < b → AW p l e R s m args below meth c G nL Q M (pc + 3) lv st) : AW p l e R s m args below meth c G nL Q M pc lv (.int (iI b) :: .int (iI a) :: st) :=
  fun H locs ls hP hS hl => lv_icmp_ge C.1 C.2.1 hd ht (fun h => k1 ((iI_le hb ha).mp h) H locs ls hP hS hl) (fun h => k2 (Int.not_le.mp (fun q => h ((iI_le hb ha).mpr q))) H locs ls hP hS hl)
theorem A_icmpgt (C : Cx p s m args meth c G cc nL own Ts rt) {a b off : Int} (tgt : Nat) (hd : decode cc pc = .ok (.if_icmp .gt off, 3)) (ht : (pc : Int) + off = (tgt : Int)) (ha : r32 a) (hb : r32 b) (k1 : b < a → AW p l e R s m args below meth c G nL Q M tgt lv st) (k2 : a ≤ b → AW p l e R s m args below meth c G nL Q M (pc + 3) lv st) : AW p l e R s m args below meth c G nL Q M pc lv (.int (iI b) :: .int (iI a) :: st) :=
  fun H locs ls hP hS hl => lv_icmp_gt C.1 C.2.1 hd ht (fun h => k1 ((iI_lt hb ha).mp h) H locs ls hP hS hl) (fun h => k2 (Int.not_lt.mp (fun q => h ((iI_lt hb ha).mpr q))) H locs ls hP hS hl)
theorem A_icmple (C : Cx p s m args meth c G cc nL own Ts rt) {a b off : Int} (tgt : Nat) (hd : decode cc pc = .ok (.if_icmp .le off, 3)) (ht : (pc : Int) + off = (tgt : Int)) (ha : r32 a) (hb : r32 b) (k1 : a ≤ b → AW p l e R s m args below meth c G nL Q M tgt lv st) (k2 : b < a → AW p l e R s m args below meth c G nL Q M (pc + 3) lv st) : AW p l e R s m args below meth c G nL Q M pc lv (.int (iI b) :: .int (iI a) :: st) :=
  fun H locs ls hP hS hl => lv_icmp_le C.1 C.2.1 hd ht (fun h => k1 ((iI_le ha hb).mp h) H locs ls hP hS hl) (fun h => k2 (Int.not_le.mp (fun q => h ((iI_le ha hb).mpr q))) H locs ls hP hS hl)
theorem A_icmpeq (C : Cx p s m args meth c G cc nL own Ts rt) {a b off : Int} (tgt : Nat) (hd : decode cc pc = .ok (.if_icmp .eq off, 3)) (ht : (pc : Int) + off = (tgt : Int)) (ha : r32 a) (hb : r32 b) (k1 : a = b → AW p l e R s m args below meth c G nL Q M tgt lv st) (k2 : ¬ a = b → AW p l e R s m args below meth c G nL Q M (pc + 3) lv st) : AW p l e R s m args below meth c G nL Q M pc lv (.int (iI b) :: .int (iI a) :: st) :=
  fun H locs ls hP hS hl => lv_icmp_eq C.1 C.2.1 hd ht (fun h => k1 ((iI_eq ha hb).mp h) H locs ls hP hS hl) (fun h => k2 (fun q => h ((iI_eq ha hb).mpr q)) H locs ls hP hS hl)
theorem A_icmpne (C : Cx p s m args meth c G cc nL own Ts rt) {a b off : Int} (tgt : Nat) (hd : decode cc pc = .ok (.if_icmp .ne off, 3)) (ht : (pc : Int) + off = (tgt : Int)) (ha : r32 a) (hb : r32 b) (k1 : ¬ a = b → AW p l e R s m args below meth c G nL Q M tgt lv st) (k2 : a = b → AW p l e R s m args below meth c G nL Q M (pc + 3) lv st) : AW p l e R s m args below meth c G nL Q M pc lv (.int (iI b) :: .int (iI a) :: st) :=
  fun H locs ls hP hS hl => lv_icmp_ne C.1 C.2.1 hd ht (fun h => k1 (fun q => h ((iI_eq ha hb).mpr q)) H locs ls hP hS hl) (fun h => k2 ((iI_eq ha hb).mp h) H locs ls hP hS hl)
theorem A_iflt (C : Cx p s m args meth c G cc nL own Ts rt) {a off : Int} (tgt : Nat) (hd : decode cc pc = .ok (.ifCond .lt off, 3)) (ht : (pc : Int) + off = (tgt : Int)) (ha : r32 a) (k1 : a < 0 → AW p l e R s m args below meth c G nL Q M tgt lv st) (k2 : 0 ≤ a → AW p l e R s m args below meth c G nL Q M (pc + 3) lv st) : AW p l e R s m args below meth c G nL Q M pc lv (.int (iI a) :: st) :=
  fun H locs ls hP hS hl => lv_if_lt C.1 C.2.1 hd ht (fun h => k1 ((iI_lt ha (by decide)).mp (by rw [iI_0]; exact h)) H locs ls hP hS hl) (fun h => k2 (Int.not_lt.mp (fun q => h (by rw [← iI_0]; exact (iI_lt ha (by decide)).mpr q))) H locs ls hP hS hl)
theorem A_ifge (C : Cx p s m args meth c G cc nL own Ts rt) {a off : Int} (tgt : Nat) (hd : decode cc pc = .ok (.ifCond .ge off, 3)) (ht : (pc : Int) + off = (tgt : Int)) (ha : r32 a) (k1 : 0 ≤ a → AW p l e R s m args below meth c G nL Q M tgt lv st) (k2 : a < 0 → AW p l e R s m args below meth c G nL Q M (pc + 3) lv st) : AW p l e R s m args below meth c G nL Q M pc lv (.int (iI a) :: st) :=
  fun H locs ls hP hS hl => lv_if_ge C.1 C.2.1 hd ht (fun h => k1 ((iI_le (by decide) ha).mp (by rw [iI_0]; exact h)) H locs ls hP hS hl) (fun h => k2 (Int.not_le.mp (fun q => h (by rw [← iI_0]; exact (iI_le (by decide) ha).mpr q))) H locs ls hP hS hl)
theorem A_ifgt (C : Cx p s m args meth c G cc nL own Ts rt) {a off : Int} (tgt : Nat) (hd : decode cc pc = .ok (.ifCond .gt off, 3)) (ht : (pc : Int) + off = (tgt : Int)) (ha : r32 a) (k1 : 0 < a → AW p l e R s m args below meth c G nL Q M tgt lv st) (k2 : a ≤ 0 → AW p l e R s m args below meth c G nL Q M (pc + 3) lv st) : AW p l e R s m args below meth c G nL Q M pc lv (.int (iI a) :: st) :=
  fun H locs ls hP hS hl => lv_if_gt C.1 C.2.1 hd ht (fun h => k1 ((iI_lt (by decide) ha).mp (by rw [iI_0]; exact h)) H locs ls hP hS hl) (fun h => k2 (Int.not_lt.mp (fun q => h (by rw [← iI_0]; exact (iI_lt (by decide) ha).mpr q))) H locs ls hP hS hl)
theorem A_ifle (C : Cx p s m args meth c G cc nL own Ts rt) {a off : Int} (tgt : Nat) (hd : decode cc pc = .ok (.ifCond .le off, 3)) (ht : (pc : Int) + off = (tgt : Int)) (ha : r32 a) (k1 : a ≤ 0 → AW p l e R s m args below meth c G nL Q M tgt lv st) (k2 : 0 < a → AW p l e R s m args below meth c G nL Q M (pc + 3) lv st) : AW p l e R s m args below meth c G nL Q M pc lv (.int (iI a) :: st) :=
  fun H locs ls hP hS hl => lv_if_le C.1 C.2.1 hd ht (fun h => k1 ((iI_le ha (by decide)).mp (by rw [iI_0]; exact h)) H locs ls hP hS hl) (fun h => k2 (Int.not_le.mp (fun q => h (by rw [← iI_0]; exact (iI_le ha (by decide)).mpr q))) H locs ls hP hS hl)
theorem A_ifeq (C : Cx p s m args meth c G cc nL own Ts rt) {a off : Int} (tgt : Nat) (hd : decode cc pc = .ok (.ifCond .eq off, 3)) (ht : (pc : Int) + off = (tgt : Int)) (ha : r32 a) (k1 : a = 0 → AW p l e R s m args below meth c G nL Q M tgt lv st) (k2 : ¬ a = 0 → AW p l e R s m args below meth c G nL Q M (pc + 3) lv st) : AW p l e R s m args below meth c G nL Q M pc lv (.int (iI a) :: st) :=
  fun H locs ls hP hS hl => lv_if_eq C.1 C.2.1 hd ht (fun h => k1 ((iI_eq ha (by decide)).mp (by rw [iI_0]; exact h)) H locs ls hP hS hl) (fun h => k2 (fun q => h (by rw [← iI_0]; exact (iI_eq ha (by decide)).mpr q)) H locs ls hP hS hl)
theorem A_ifne (C : Cx p s m args meth c G cc nL own Ts rt) {a off : Int} (tgt : Nat) (hd : decode cc pc = .ok (.ifCond .ne off, 3)) (ht : (pc : Int) + off = (tgt : Int)) (ha : r32 a) (k1 : ¬ a = 0 → AW p l e R s m args below meth c G nL Q M tgt lv st) (k2 : a = 0 → AW p l e R s m args below meth c G nL Q M (pc + 3) lv st) : AW p l e R s m args below meth c G nL Q M pc lv (.int (iI a) :: st) :=
  fun H locs ls hP hS hl => lv_if_ne C.1 C.2.1 hd ht (fun h => k1 (fun q => h (by rw [← iI_0]; exact (iI_eq ha (by decide)).mpr q)) H locs ls hP hS hl) (fun h => k2 ((iI_eq ha (by decide)).mp (by rw [iI_0]; exact h)) H locs ls hP hS hl)
theorem A_dup (C : Cx p s m args meth c G cc nL own Ts rt) {v : Value} (hd : decode cc pc = .ok (.dup, 1)) (hv : v.category = 1) (k : AW p l e R s m args below meth c G nL Q M (pc + 1) lv (v :: v :: st)) : AW p l e R s m args below meth c G nL Q M pc lv (v :: st) :=
  fun H locs ls hP hS hl => lv_dup C.1 C.2.1 hd (by rw [cv_cat]; exact hv) (k H locs ls hP hS hl)
theorem A_pop (C : Cx p s m args meth c G cc nL own Ts rt) {v : Value} (hd : decode cc pc = .ok (.pop, 1)) (hv : v.category = 1) (k : AW p l e R s m args below meth c G nL Q M (pc + 1) lv st) : AW p l e R s m args below meth c G nL Q M pc lv (v :: st) :=
  fun H locs ls hP hS hl => lv_pop C.1 C.2.1 hd (by rw [cv_cat]; exact hv) (k H locs ls hP hS hl)
theorem A_pop2 (C : Cx p s m args meth c G cc nL own Ts rt) {v : Value} (hd : decode cc pc = .ok (.pop2, 1)) (hv : v.category = 2) (k : AW p l e R s m args below meth c G nL Q M (pc + 1) lv st) : AW p l e R s m args below meth c G nL Q M pc lv (v :: st) :=
  fun H locs ls hP hS hl => lv_pop2_2 C.1 C.2.1 hd (by rw [cv_cat]; exact hv) (k H locs ls hP hS hl)
end AWR
