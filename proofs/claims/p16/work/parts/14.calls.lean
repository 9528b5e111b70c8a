/-! contracts over the system's memory: a method called, begun, ended -/
def rmD (d : Nat) : Room := { frames := d, cells := 0, slots := 0, locals := 64 * d }
def xPc (G : xG) (av : List Value) (M : Mem) : Array Value → State → Prop := va_Pc (av.map (cv G.2.2)) (fun U => va_P G.1 vwCl (xWs G nAll M) U.heap ∧ va_K G.1 vwCl (xTys G) U ∧ xNw U)
def xQc (G : xG) (post : Option Value → Mem → Prop) : Array Value → State → Outcome → State → Prop := fun _ st o t => ∃ (r : Option Value) (M' : Mem), o = .returned (r.map (cv G.2.2)) ∧ post r M' ∧ va_P G.1 vwCl (xWs G nAll M') t.heap ∧ st.heap.size ≤ t.heap.size ∧ ∀ q : Nat, q < st.heap.size → ¬ G.2.2 ≤ q → t.heap[q]? = st.heap[q]?
def Ct (y : MethodName) (ws : List Cond) (d : Nat) (av : List Value) (pre : Mem → Prop) (post : Mem → Option Value → Mem → Prop) : Prop :=
  ∀ (l : Launch) (G : xG) (M : Mem), pre M → Met l y ws (rmD d) (xPc G av M) (xQc G (post M)) 0 0 (fun q => G.2.2 ≤ q)
/-- what a body owes at its end -/
abbrev QQ (G : xG) (below : List Frame) (args : Array Value) (s : State) (P : Option Value → Mem → Prop) : State → Prop := MQ below (xQc G P) args s 0 0 (fun q => G.2.2 ≤ q)
theorem xPc_blind {G : xG} {av : List Value} {M : Mem} : FrameBlind (xPc G av M) := fun _ U _ _ q => ⟨q.1, q.2.1, va_K.moved (u := U) (Vm.Alike.refl U.vm) q.2.2.1, xNw.same (u := U) rfl q.2.2.2⟩
theorem lg_cv (b : Nat) (av : List Value) : (lg_sl (av.map (cv b))).length = (lg_sl av).length := by
  unfold lg_sl
  induction av with
  | nil => rfl
  | cons v r ih =>
    rw [List.map_cons, List.flatMap_cons, List.flatMap_cons, List.length_append, List.length_append, ih, cv_cat]
    split <;> rfl
theorem lv_args_cv (G : xG) (av : List Value) : ∀ i : Nat, lv_args i (av.map (cv G.2.2)) = xLs G (lv_args i av) := by
  induction av with
  | nil => intro i; rfl
  | cons v r ih =>
    intro i
    rw [List.map_cons]
    unfold lv_args
    rw [cv_cat, ih]
    rfl
section AWC
variable {p : Program} {l : Launch} {e : Env} {R : Room} {s : State} {m : MethodId} {args : Array Value} {below : List Frame} {meth : Method} {c : Code} {G : xG} {nL : Nat} {Q : State → Prop} {M : Mem} {pc : Nat} {lv : List (Nat × Value)} {st : List Value} {cc : ByteArray} {own : String} {Ts : List Cond} {rt : Option FieldType}
theorem Ct_of {y : MethodName} {ws ws' : List Cond} {d : Nat} {av : List Value} {pre : Mem → Prop} {post : Mem → Option Value → Mem → Prop} (ho : y.cls = own) (hy : plainName y.cls = true) (hw : ws = Cond.code y cc nL rt :: ws') (hlen : (lg_sl av).length ≤ nL)
    (body : ∀ (p : Program) (l : Launch) (e : Env) (s : State) (m : MethodId) (args : Array Value) (below : List Frame) (meth : Method) (c : Code) (G : xG) (M : Mem), Cx p s m args meth c G cc nL own ws rt → pre M →
      AW p l e (rmD d) s m args below meth c G nL (QQ G below args s (post M)) M 0 (lv_args 0 av) []) : Ct y ws d av pre post := by
  subst ho
  intro l G M hpre
  refine Met.ofW (cc := cc) (maxL := nL) (ret := rt) hy hw ?_
  intro p e s m args below meth c s₁ B hml hv
  obtain ⟨rfl, hP, hK, hN⟩ := hv
  have hts := atoms_spec (ws := ws) B.pre
  have hown : s.vm.findClass y.cls = some m.cls := findClass_of_methodNamed B.named
  have C : Cx p s m (av.map (cv G.2.2)).toArray meth c G cc nL y.cls ws rt := ⟨B.exec, B.bytes, hml, hown, hts, hK, B.returns, B.notSynchronized, hN⟩
  have hl := lv_entry (av.map (cv G.2.2)) (n := nL) (by rw [lg_cv]; exact hlen)
  rw [lg_entry_eq]
  rw [lv_args_cv] at hl
  exact body p l e s m _ below meth c G M C hpre s.heap [] _ hP va_S.rf hl
theorem A_iret {post : Option Value → Mem → Prop} {z : Int} (C : Cx p s m args meth c G cc nL own Ts (some .int)) (hd : decode cc pc = .ok (.ireturn, 1)) (h : post (some (.int (iI z))) M) : AW p l e R s m args below meth c G nL (QQ G below args s post) M pc lv [.int (iI z)] :=
  fun H locs ls hP hS hl => W.iret C.1 C.2.1 C.2.2.2.2.2.2.1 (fun t ht _ => ⟨_, M, rfl, h, by rw [ht]; exact hP, by rw [ht]; exact hS.1, fun q h1 h2 => by rw [ht]; exact hS.2.1 q h1 h2⟩) hS.2.2 hd (hlocks := C.2.2.2.2.2.2.2.1)
theorem A_zret {post : Option Value → Mem → Prop} {z : Int} (C : Cx p s m args meth c G cc nL own Ts (some .boolean)) (hz : z = 0 ∨ z = 1) (hd : decode cc pc = .ok (.ireturn, 1)) (h : post (some (.int (iI z))) M) : AW p l e R s m args below meth c G nL (QQ G below args s post) M pc lv [.int (iI z)] :=
  fun H locs ls hP hS hl => W.zret C.1 C.2.1 C.2.2.2.2.2.2.1 (iI_bool hz) (fun t ht _ => ⟨_, M, rfl, h, by rw [ht]; exact hP, by rw [ht]; exact hS.1, fun q h1 h2 => by rw [ht]; exact hS.2.1 q h1 h2⟩) hS.2.2 hd (hlocks := C.2.2.2.2.2.2.2.1)
theorem A_lret {post : Option Value → Mem → Prop} {z : Int} (C : Cx p s m args meth c G cc nL own Ts (some .long)) (hd : decode cc pc = .ok (.lreturn, 1)) (h : post (some (.long (lL z))) M) : AW p l e R s m args below meth c G nL (QQ G below args s post) M pc lv [.long (lL z)] :=
  fun H locs ls hP hS hl => W.lret C.1 C.2.1 C.2.2.2.2.2.2.1 (fun t ht _ => ⟨_, M, rfl, h, by rw [ht]; exact hP, by rw [ht]; exact hS.1, fun q h1 h2 => by rw [ht]; exact hS.2.1 q h1 h2⟩) hS.2.2 hd (hlocks := C.2.2.2.2.2.2.2.1)
theorem A_vret {post : Option Value → Mem → Prop} (C : Cx p s m args meth c G cc nL own Ts none) (hd : decode cc pc = .ok (.return_, 1)) (h : post none M) : AW p l e R s m args below meth c G nL (QQ G below args s post) M pc lv [] :=
  fun H locs ls hP hS hl => W.vret C.1 C.2.1 C.2.2.2.2.2.2.1 (fun t ht _ => ⟨none, M, rfl, h, by rw [ht]; exact hP, by rw [ht]; exact hS.1, fun q h1 h2 => by rw [ht]; exact hS.2.1 q h1 h2⟩) hS.2.2 hd (hlocks := C.2.2.2.2.2.2.2.1)
theorem A_run {H : Heap} {locs : List Loc} {ls : Array Slot} {st0 rest : List Value} {a : Array Value} {post : Option Value → Mem → Prop} (hr : va_Run p l e R s m args below meth c H locs 0 0 0 0 (F0 m pc ls st0) rest (xQc G post a) (fun q => G.2.2 ≤ q)) (hS : va_S (fun q => G.2.2 ≤ q) s.heap H locs)
    (kk : ∀ (r : Option Value) (M' : Mem) (H1 : Heap) (locs1 : List Loc), post r M' → va_P G.1 vwCl (xWs G nAll M') H1 → va_S (fun q => G.2.2 ≤ q) s.heap H1 locs1 → W p l e R s m args below meth c H1 locs1 0 0 Q (F0 m (pc + 3) ls ((r.map (cv G.2.2)).toList ++ rest))) : W p l e R s m args below meth c H locs 0 0 Q (F0 m pc ls st0) := by
  intro T hT X
  obtain ⟨v, st₀, t, T', L, h0, X', hL, e1, e2, ⟨r, M', hv, hp, hP', hz, hk⟩, go⟩ := hr T hT X
  cases hv
  rw [h0] at hz hk
  obtain ⟨t2, a1, b1⟩ := kk r M' T'.heap (locs ++ L) hp (by rw [e1]; exact hP')
    ⟨Nat.le_trans hS.1 (by rw [e1]; exact hz), fun q h1 h2 => by rw [e1, hk q (Nat.lt_of_lt_of_le h1 hS.1) h2]; exact hS.2.1 q h1 h2, fun q hq => by
      rcases List.mem_append.mp hq with h | h
      · exact hS.2.2 q h
      · exact hL q h⟩ T' rfl X'
  exact ⟨t2, go t2 a1, b1⟩
theorem xRev (G : xG) (As : List Value) (st : List Value) (v : Value) : (As.reverse ++ v :: st).map (cv G.2.2) = (As.map (cv G.2.2)).reverse ++ cv G.2.2 v :: st.map (cv G.2.2) := by simp
theorem xCat (G : xG) (st : List Value) : ((st.map (cv G.2.2)).map fun v => v.category).sum = (st.map fun v => v.category).sum := by
  rw [List.map_map]
  congr 2
  funext v
  exact cv_cat _ v
theorem xRet (G : xG) (r : Option Value) (st : List Value) : (r.map (cv G.2.2)).toList ++ st.map (cv G.2.2) = (r.toList ++ st).map (cv G.2.2) := by cases r <;> rfl
/-- an invokevirtual -/
theorem A_callV (C : Cx p s m args meth c G cc nL own Ts rt) {y : MethodName} {ws ws' : List Cond} {d : Nat} {a : Nat} {As : List Value} {pre : Mem → Prop} {post : Mem → Option Value → Mem → Prop} (K : Ct y ws d (.ref a :: As) pre post) {rr ci n maxL index : Nat} {bytes : ByteArray} {ret : Option FieldType} {Cn : String} {T : u_T} {N : Nat}
    (g : GoodIn Ts (wsV own index Cn y ws)) (hw : ws = Cond.code y bytes maxL ret :: ws') (hy : y.cls = Cn ∧ y.cls ≠ "java/lang/invoke/MethodHandle" ∧ y.cls ≠ "java/lang/invoke/VarHandle" ∧ (parseMethodDescriptor y.desc).map (fun d => d.parameters.length) = some n) (hR : (rmD d).frames + 1 ≤ R.frames ∧ 8 + (maxL + 11) + (rmD d).locals ≤ R.locals)
    (hr : kd a = rr) (h9 : (rr == 99) = false) (hs : shp rr = (0, ci)) (hc : vwCl[ci]? = some (Cn, T, N)) (hn : As.length = n) (hcat : (st.map fun v => v.category).sum ≤ 8) (hd : decode cc pc = .ok (.invokevirtual index, 3)) {st0 : List Value} (hst : st0 = As.reverse ++ .ref a :: st)
    (hpre : pre M) (kk : ∀ (r : Option Value) (M' : Mem), post M r M' → AW p l e R s m args below meth c G nL Q M' (pc + 3) lv (r.toList ++ st)) : AW p l e R s m args below meth c G nL Q M pc lv st0 := by
  intro H locs ls hP hS hl
  subst hst
  rw [xRev]
  have hPre : PreV s H Cn (G.2.2 + a) (xPc G (.ref a :: As) M) (As.map (cv G.2.2)) := ⟨xPc_blind, va_recv C.2.2.2.2.2.1 hP hc (xAt hr h9 (xE_0 (by rw [hr]; exact hs))), fun U hU hW => ⟨rfl, by rw [hU]; exact hP, va_K.moved hW.alike C.2.2.2.2.2.1, C.2.2.2.2.2.2.2.2.warm hW⟩⟩
  refine A_run (va_runV (As := As.map (cv G.2.2)) (rest := st.map (cv G.2.2)) ⟨C.1, C.2.1, C.2.2.1, C.2.2.2.1, C.2.2.2.2.1⟩ (K l G M hpre) (cwV n C.2.2.2.2.1 g hw rfl rfl hy hR) hPre rfl (by rw [List.length_map]; exact hn) hl.1 rfl (lv_room (by rw [xCat]; exact hcat)) hd ⟨Nat.zero_le _, Nat.zero_le _⟩) hS (fun r M' H1 locs1 h1 h2 h3 => ?_)
  rw [xRet]
  exact kk r M' h1 H1 locs1 ls h2 h3 hl
/-- an invokestatic of the class's own -/
theorem A_callS (C : Cx p s m args meth c G cc nL own Ts rt) {y : MethodName} {ws ws' : List Cond} {d : Nat} {As : List Value} {pre : Mem → Prop} {post : Mem → Option Value → Mem → Prop} (K : Ct y ws d As pre post) {n maxL index : Nat} {bytes : ByteArray} {ret : Option FieldType}
    (g : GoodIn Ts (va_wsS own index y ws)) (hw : ws = Cond.code y bytes maxL ret :: ws') (hy : y.cls ≠ "java/lang/invoke/MethodHandle" ∧ y.cls ≠ "java/lang/invoke/VarHandle" ∧ (parseMethodDescriptor y.desc).map (fun d => d.parameters.length) = some n) (hR : (rmD d).frames + 1 ≤ R.frames ∧ 8 + (maxL + 11) + (rmD d).locals ≤ R.locals)
    (hn : As.length = n) (hcat : (st.map fun v => v.category).sum ≤ 8) (hd : decode cc pc = .ok (.invokestatic index, 3)) {st0 : List Value} (hst : st0 = As.reverse ++ st)
    (hpre : pre M) (kk : ∀ (r : Option Value) (M' : Mem), post M r M' → AW p l e R s m args below meth c G nL Q M' (pc + 3) lv (r.toList ++ st)) : AW p l e R s m args below meth c G nL Q M pc lv st0 := by
  intro H locs ls hP hS hl
  subst hst
  rw [List.map_append, List.map_reverse]
  have hPre : PreS s H (xPc G As M) (As.map (cv G.2.2)) := ⟨xPc_blind, fun U hU hW => ⟨rfl, by rw [hU]; exact hP, va_K.moved hW.alike C.2.2.2.2.2.1, C.2.2.2.2.2.2.2.2.warm hW⟩⟩
  refine A_run (va_runS (As := As.map (cv G.2.2)) (rest := st.map (cv G.2.2)) ⟨C.1, C.2.1, C.2.2.1, C.2.2.2.1, C.2.2.2.2.1⟩ (K l G M hpre) (va_cwS n C.2.2.2.2.1 g hw rfl rfl hy hR) hPre rfl (by rw [List.length_map]; exact hn) hl.1 rfl (lv_room (by rw [xCat]; exact hcat)) hd ⟨Nat.zero_le _, Nat.zero_le _⟩) hS (fun r M' H1 locs1 h1 h2 h3 => ?_)
  rw [xRet]
  exact kk r M' h1 H1 locs1 ls h2 h3 hl
/-- an invokestatic of the host's -/
theorem A_callSN (C : Cx p s m args meth c G cc nL own Ts rt) {y : MethodName} {ws ws' : List Cond} {d : Nat} {As : List Value} {pre : Mem → Prop} {post : Mem → Option Value → Mem → Prop} (K : Ct y ws d As pre post) {n maxL index : Nat} {bytes : ByteArray} {ret : Option FieldType} {host : String}
    (hlink : va_Nw (.methodLinkNest own index y host) s) (g : GoodIn Ts ws) (hi : Cond.initialized y.cls ∈ Ts) (hsta : Cond.static y ∈ Ts) (hw : ws = Cond.code y bytes maxL ret :: ws') (hy : y.cls ≠ "java/lang/invoke/MethodHandle" ∧ y.cls ≠ "java/lang/invoke/VarHandle" ∧ (parseMethodDescriptor y.desc).map (fun d => d.parameters.length) = some n) (hR : (rmD d).frames + 1 ≤ R.frames ∧ 8 + (maxL + 11) + (rmD d).locals ≤ R.locals)
    (hn : As.length = n) (hcat : (st.map fun v => v.category).sum ≤ 8) (hd : decode cc pc = .ok (.invokestatic index, 3)) {st0 : List Value} (hst : st0 = As.reverse ++ st)
    (hpre : pre M) (kk : ∀ (r : Option Value) (M' : Mem), post M r M' → AW p l e R s m args below meth c G nL Q M' (pc + 3) lv (r.toList ++ st)) : AW p l e R s m args below meth c G nL Q M pc lv st0 := by
  intro H locs ls hP hS hl
  subst hst
  rw [List.map_append, List.map_reverse]
  have hPre : PreS s H (xPc G As M) (As.map (cv G.2.2)) := ⟨xPc_blind, fun U hU hW => ⟨rfl, by rw [hU]; exact hP, va_K.moved hW.alike C.2.2.2.2.2.1, C.2.2.2.2.2.2.2.2.warm hW⟩⟩
  refine A_run (va_runSN (As := As.map (cv G.2.2)) (rest := st.map (cv G.2.2)) ⟨C.1, C.2.1, C.2.2.1, C.2.2.2.1, C.2.2.2.2.1⟩ (K l G M hpre) ⟨va_cnB n C.2.2.2.2.1 g hw rfl rfl hlink (C.2.2.2.2.1 _ hi) hy hR, C.2.2.2.2.1 _ hsta, trivial⟩ hPre rfl (by rw [List.length_map]; exact hn) hl.1 rfl (lv_room (by rw [xCat]; exact hcat)) hd ⟨Nat.zero_le _, Nat.zero_le _⟩) hS (fun r M' H1 locs1 h1 h2 h3 => ?_)
  rw [xRet]
  exact kk r M' h1 H1 locs1 ls h2 h3 hl
end AWC
