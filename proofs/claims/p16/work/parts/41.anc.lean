/-! constructors: contracts with the memory behind them -/
def xNc (U : State) : Prop := va_Nw (.methodLinkNest RX7 11 yX2_init RX7) U ∧ va_Nw (.methodLinkNest RX7 33 yX0_init RX7) U ∧ va_Nw (.methodLinkNest RX7 47 yX5_init RX7) U ∧ va_Nw (.methodLinkNest RX7 57 yX3_init RX7) U ∧ va_Nw (.fieldLinkNest RX4 24 RX1 "earths" "LSlipBench$Earths;" RX7) U ∧ va_AO RX1 U
theorem xNc.warm {s U : State} (hW : s.WarmedH U.vm) (h : xNc s) : xNc U := ⟨h.1.warmM hW, h.2.1.warmM hW, h.2.2.1.warmM hW, h.2.2.2.1.warmM hW, h.2.2.2.2.1.warmF hW, h.2.2.2.2.2.moved hW.alike⟩
theorem xNc.same {u U : State} (h : u.vm = U.vm) (hz : xNc u) : xNc U := ⟨hz.1.same rfl h, hz.2.1.same rfl h, hz.2.2.1.same rfl h, hz.2.2.2.1.same rfl h, hz.2.2.2.2.1.same rfl h, hz.2.2.2.2.2.moved (by rw [h]; exact Vm.Alike.refl _)⟩
def rmN (d mc ms : Nat) : Room := { frames := d, cells := mc, slots := ms, locals := 64 * d }
def xPn (G : xG) (n : Nat) (av : List Value) (M : Mem) : Array Value → State → Prop := va_Pc (av.map (cv G.2.2)) (fun U => va_P G.1 vwCl (xWs G n M) U.heap ∧ U.heap.size = G.2.2 + n ∧ va_K G.1 vwCl (xTys G) U ∧ xNw U ∧ xNc U)
def xQn (G : xG) (n : Nat) (M : Mem) : Array Value → State → Outcome → State → Prop := fun _ st o t => o = .returned none ∧ va_P G.1 vwCl (xWs G n M) t.heap ∧ t.heap.size = G.2.2 + n ∧ st.heap.size ≤ t.heap.size ∧ ∀ q : Nat, q < st.heap.size → ¬ G.2.2 ≤ q → t.heap[q]? = st.heap[q]?
def Cn (y : MethodName) (ws : List Cond) (d mc ms n n1 : Nat) (av : List Value) (M M1 : Mem) : Prop :=
  ∀ (l : Launch) (G : xG), Met l y ws (rmN d mc ms) (xPn G n av M) (xQn G n1 M1) mc ms (fun q => G.2.2 ≤ q)
theorem xPn_blind {G : xG} {n : Nat} {av : List Value} {M : Mem} : FrameBlind (xPn G n av M) := fun _ U _ _ q => ⟨q.1, q.2.1, q.2.2.1, va_K.moved (u := U) (Vm.Alike.refl U.vm) q.2.2.2.1, xNw.same (u := U) rfl q.2.2.2.2.1, xNc.same (u := U) rfl q.2.2.2.2.2⟩
theorem Zr_sI {M : Mem} {n a k : Nat} {z : Int} (ha : a < n) (h : Zr M n) : Zr (sI M a k z) n := fun b hb j => ⟨by rw [sI_o (by omega)]; exact (h b hb j).1, (h b hb j).2⟩
theorem Zr_sL {M : Mem} {n a k : Nat} {z : Int} (ha : a < n) (h : Zr M n) : Zr (sL M a k z) n := fun b hb j => ⟨(h b hb j).1, by rw [sL_o (by omega)]; exact (h b hb j).2.1, (h b hb j).2.2⟩
theorem Zr_sR {M : Mem} {n a k : Nat} {z : Option Nat} (ha : a < n) (h : Zr M n) : Zr (sR M a k z) n := fun b hb j => ⟨(h b hb j).1, (h b hb j).2.1, by rw [sR_o (by omega)]; exact (h b hb j).2.2⟩
theorem Zr_up {M : Mem} {n n1 : Nat} (h : Zr M n) (hn : n ≤ n1) : Zr M n1 := fun b hb j => h b (by omega) j
section ANC
variable {p : Program} {l : Launch} {e : Env} {R : Room} {s : State} {m : MethodId} {args : Array Value} {below : List Frame} {meth : Method} {c : Code} {G : xG} {nL : Nat} {Q : State → Prop} {M : Mem} {pc : Nat} {lv : List (Nat × Value)} {st : List Value} {cc : ByteArray} {own : String} {Ts : List Cond} {rt : Option FieldType} {n0 k0 w0 : Nat}
theorem N_pI (C : Cx p s m args meth c G cc nL own Ts rt) {a ci k t index : Nat} {Cm : String} {T : u_T} {N : Nat} {ty0 : Nat → FieldType} {z : Int} (ha : a < n0) (hs : shp (kd a) = (0, ci)) (ht : (fks ci)[k]? = some t) (h1 : (t == 1) = false) (h2 : (t == 2) = false) (F : Fl own Ts ci k index Cm T N) (hty : ∀ k, k < N → parseFieldDescriptor (T k).2.2.1 = some (ty0 k)) (hnm : ∀ a, a < N → ∀ b, b < N → a ≠ b → (T a).2.1 ≠ (T b).2.1) (hfin : (T k).2.2.2 = false) (hy : ty0 k = .int ∨ (ty0 k = .boolean ∧ (z = 0 ∨ z = 1))) (hlen : k < (fks ci).length) (hd : decode cc pc = .ok (.putfield index, 3))
    (kk : AN p l e R s m args below meth c G nL Q n0 k0 w0 (sI M a k z) (pc + 3) lv st) : AN p l e R s m args below meth c G nL Q n0 k0 w0 M pc lv (.int (iI z) :: .ref a :: st) := by
  have hn : narrow (ty0 k) (.int (iI z)) = .int (iI z) := by
    rcases hy with h | ⟨h, hz⟩
    · rw [h]; rfl
    · rw [h]; exact iI_bool hz
  have hf : fits (ty0 k) (.int (iI z)) = true := by
    rcases hy with h | ⟨h, hz⟩
    · rw [h]; rfl
    · rw [h]; rcases hz with rfl | rfl <;> decide +kernel
  exact N_put C ha hs F hty hnm (Or.inl hfin) hn hf hlen (sI_E hs ht h1 h2) (fun b hb => xE_o (sI_o hb) rfl rfl) hd kk
theorem N_pL (C : Cx p s m args meth c G cc nL own Ts rt) {a ci k index : Nat} {Cm : String} {T : u_T} {N : Nat} {ty0 : Nat → FieldType} {z : Int} (ha : a < n0) (hs : shp (kd a) = (0, ci)) (ht : (fks ci)[k]? = some 1) (F : Fl own Ts ci k index Cm T N) (hty : ∀ k, k < N → parseFieldDescriptor (T k).2.2.1 = some (ty0 k)) (hnm : ∀ a, a < N → ∀ b, b < N → a ≠ b → (T a).2.1 ≠ (T b).2.1) (hfin : (T k).2.2.2 = false) (hy : ty0 k = .long) (hlen : k < (fks ci).length) (hd : decode cc pc = .ok (.putfield index, 3))
    (kk : AN p l e R s m args below meth c G nL Q n0 k0 w0 (sL M a k z) (pc + 3) lv st) : AN p l e R s m args below meth c G nL Q n0 k0 w0 M pc lv (.long (lL z) :: .ref a :: st) :=
  N_put C ha hs F hty hnm (Or.inl hfin) (by rw [hy]; rfl) (by rw [hy]; rfl) hlen (sL_E hs ht) (fun b hb => xE_o rfl (sL_o hb) rfl) hd kk
theorem N_pR (C : Cx p s m args meth c G cc nL own Ts rt) {a ci k index b : Nat} {Cm : String} {T : u_T} {N : Nat} {ty0 : Nat → FieldType} (ha : a < n0) (hs : shp (kd a) = (0, ci)) (ht : (fks ci)[k]? = some 2) (F : Fl own Ts ci k index Cm T N) (hty : ∀ k, k < N → parseFieldDescriptor (T k).2.2.1 = some (ty0 k)) (hnm : ∀ a, a < N → ∀ b, b < N → a ≠ b → (T a).2.1 ≠ (T b).2.1) (hfin : (T k).2.2.2 = false ∨ ((T k).2.2.2 = true ∧ meth.name = "<init>" ∧ (T k).1 = own)) (hn : narrow (ty0 k) (.ref (G.2.2 + b)) = .ref (G.2.2 + b)) (hf : fits (ty0 k) (.ref (G.2.2 + b)) = true) (hlen : k < (fks ci).length) (hd : decode cc pc = .ok (.putfield index, 3))
    (kk : AN p l e R s m args below meth c G nL Q n0 k0 w0 (sR M a k (some b)) (pc + 3) lv st) : AN p l e R s m args below meth c G nL Q n0 k0 w0 M pc lv (.ref b :: .ref a :: st) :=
  N_put C ha hs F hty hnm hfin hn hf hlen (sR_E hs ht) (fun b hb => xE_o rfl rfl (sR_o hb)) hd kk
theorem N_obj (C : Cx p s m args meth c G cc nL own Ts rt) {idx a : Nat} (w1 : Cond.methodLink own idx Lib.objectInit ∈ Ts) (w2 : Cond.instanceMethod Lib.objectInit ∈ Ts) (w3 : Cond.code Lib.objectInit ⟨#[0xb1]⟩ 1 none ∈ Ts) (hd : decode cc pc = .ok (.invokespecial idx, 3)) (hf : 1 ≤ R.frames) (hlo : (st.map fun v => v.category).sum + 12 ≤ R.locals)
    (kk : AN p l e R s m args below meth c G nL Q n0 k0 w0 M (pc + 3) lv st) : AN p l e R s m args below meth c G nL Q n0 k0 w0 M pc lv (.ref a :: st) :=
  fun H locs ls hP hz hS hl => W.objInit C.1 C.2.1 C.2.2.2.1 (C.2.2.2.2.1 _ w1) (C.2.2.2.2.1 _ w2) (C.2.2.2.2.1 _ w3) rfl (by rw [C.2.2.1]; exact hl.1) rfl hd hf (by show 2 * 0 + _ + 12 ≤ _; rw [xCat]; omega) (kk H locs ls hP hz hS hl)
theorem N_vret {n1 : Nat} {M1 : Mem} (C : Cx p s m args meth c G cc nL own Ts none) (hd : decode cc pc = .ok (.return_, 1)) (hn : n0 = n1) (hM : M = M1) : AN p l e R s m args below meth c G nL (MQ below (xQn G n1 M1) args s k0 w0 (fun q => G.2.2 ≤ q)) n0 k0 w0 M pc lv [] :=
  fun H locs ls hP hz hS hl => by
    subst hn; subst hM
    exact W.vret C.1 C.2.1 C.2.2.2.2.2.2.1 (fun t ht _ => ⟨rfl, by rw [ht]; exact hP, by rw [ht]; exact hz, by rw [ht]; exact hS.1, fun q h1 h2 => by rw [ht]; exact hS.2.1 q h1 h2⟩) hS.2.2 hd (hlocks := C.2.2.2.2.2.2.2.1)
theorem Cn_of {y : MethodName} {ws ws' : List Cond} {d mc ms n n1 : Nat} {av : List Value} {M1 : Mem} (ho : y.cls = own) (hi : y.name = "<init>") (hy : plainName y.cls = true) (hw : ws = Cond.code y cc nL rt :: ws') (hlen : (lg_sl av).length ≤ nL)
    (body : ∀ (p : Program) (l : Launch) (e : Env) (s : State) (m : MethodId) (args : Array Value) (below : List Frame) (meth : Method) (c : Code) (G : xG), Cx p s m args meth c G cc nL own ws rt → meth.name = "<init>" → xNc s →
      AN p l e (rmN d mc ms) s m args below meth c G nL (MQ below (xQn G n1 M1) args s mc ms (fun q => G.2.2 ≤ q)) n 0 0 M 0 (lv_args 0 av) []) : Cn y ws d mc ms n n1 av M M1 := by
  subst ho
  intro l G
  refine Met.ofW (cc := cc) (maxL := nL) (ret := rt) hy hw ?_
  intro p e s m args below meth c s₁ B hml hv
  obtain ⟨rfl, hP, hz, hK, hN, hNc⟩ := hv
  have hts := atoms_spec (ws := ws) B.pre
  have hown : s.vm.findClass y.cls = some m.cls := findClass_of_methodNamed B.named
  have C : Cx p s m (av.map (cv G.2.2)).toArray meth c G cc nL y.cls ws rt := ⟨B.exec, B.bytes, hml, hown, hts, hK, B.returns, B.notSynchronized, hN⟩
  have hl := lv_entry (av.map (cv G.2.2)) (n := nL) (by rw [lg_cv]; exact hlen)
  rw [lg_entry_eq]
  rw [lv_args_cv] at hl
  have hnm : meth.name = "<init>" := (name_of_methodNamed B.named B.method).1.trans hi
  exact body p l e s m _ below meth c G C hnm hNc s.heap [] _ hP hz va_S.rf hl
end ANC
