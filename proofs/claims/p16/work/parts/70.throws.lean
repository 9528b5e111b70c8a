/-! methods that may throw: what the state must bear for it, contracts, ends -/
abbrev nIO : String := "java/lang/IndexOutOfBoundsException"
abbrev nNS : String := "java/util/NoSuchElementException"
abbrev nUp : List String := ["java/lang/RuntimeException", "java/lang/Exception"]
abbrev dRE : Cond := .declares (Bundle.initS "java/lang/RuntimeException")
abbrev dEX : Cond := .declares (Bundle.initS "java/lang/Exception")
abbrev dTH : Cond := .declares (Bundle.initS Bundle.tN)
def xTd (U : State) : Prop := va_Nw dRE U ∧ va_Nw dEX U ∧ va_Nw dTH U ∧ va_Nw (.castable nIO nIO) U ∧ va_Nw (.castable nNS nNS) U ∧ va_Nc nNS nIO U
def xTs (U : State) : Prop := (∃ a, vk_R RX7 128 "no such column" a U) ∧ (∃ a, vk_R RX7 135 "no such what" a U) ∧ (∃ a, vk_R RX7 167 "no line, or no such what" a U) ∧ (∃ a, vk_R RX7 176 "the line has no share" a U)
def xTz (b : Nat) (U : State) (H : Heap) : Prop := vx_Zq Bundle.tN "UNASSIGNED_STACK" Bundle.steD (fun q => b ≤ q) U H ∧ vx_Zq Bundle.tN "SUPPRESSED_SENTINEL" Bundle.listD (fun q => b ≤ q) U H
def xTh (b : Nat) (U : State) (H : Heap) : Prop := xTd U ∧ xTs U ∧ xTz b U H
theorem xTh.warm {b : Nat} {s U : State} {H : Heap} (hW : s.WarmedH U.vm) (h : xTh b s H) : xTh b U H := by
  obtain ⟨⟨d1, d2, d3, d4, d5, d6⟩, ⟨⟨a1, s1⟩, ⟨a2, s2⟩, ⟨a3, s3⟩, ⟨a4, s4⟩⟩, z1, z2⟩ := h
  exact ⟨⟨d1.warmD hW, d2.warmD hW, d3.warmD hW, d4.warmC hW, d5.warmC hW, d6.moved hW.alike⟩, ⟨⟨a1, s1.warm hW⟩, ⟨a2, s2.warm hW⟩, ⟨a3, s3.warm hW⟩, ⟨a4, s4.warm hW⟩⟩, vx_Zq.moved hW.alike z1, vx_Zq.moved hW.alike z2⟩
theorem xTh.same {b : Nat} {u U : State} {H : Heap} (hv : u.vm = U.vm) (h : xTh b u H) : xTh b U H := by
  obtain ⟨⟨d1, d2, d3, d4, d5, d6⟩, ⟨⟨a1, s1⟩, ⟨a2, s2⟩, ⟨a3, s3⟩, ⟨a4, s4⟩⟩, z1, z2⟩ := h
  have ha : u.vm.Alike U.vm := by rw [hv]; exact Vm.Alike.refl U.vm
  exact ⟨⟨d1.same rfl hv, d2.same rfl hv, d3.same rfl hv, d4.same rfl hv, d5.same rfl hv, d6.moved ha⟩, ⟨⟨a1, s1.same hv.symm⟩, ⟨a2, s2.same hv.symm⟩, ⟨a3, s3.same hv.symm⟩, ⟨a4, s4.same hv.symm⟩⟩, vx_Zq.moved ha z1, vx_Zq.moved ha z2⟩
theorem xTh.kept {b : Nat} {s : State} {H0 H : Heap} {locs : List Loc} (h : xTh b s H0) (hS : va_S (fun q => b ≤ q) H0 H locs) : xTh b s H := ⟨h.1, h.2.1, h.2.2.1.kept hS.2.1, h.2.2.2.kept hS.2.1⟩
def rmX (d : Nat) : Room := { frames := d, cells := 1, slots := 6, locals := 64 * d }
def xTPc (G : xG) (av : List Value) (M : Mem) : Array Value → State → Prop := va_Pc (av.map (cv G.2.2)) (fun U => va_P G.1 vwCl (xWs G nAll M) U.heap ∧ va_K G.1 vwCl (xTys G) U ∧ xNw U ∧ xTh G.2.2 U U.heap)
theorem xTPc_blind {G : xG} {av : List Value} {M : Mem} : FrameBlind (xTPc G av M) := fun _ U _ _ q => ⟨q.1, q.2.1, va_K.moved (u := U) (Vm.Alike.refl U.vm) q.2.2.1, xNw.same (u := U) rfl q.2.2.2.1, xTh.same (u := U) rfl q.2.2.2.2⟩
def xXC (G : xG) (px : String → Mem → Prop) : String → State → State → Prop := fun E st t => ∃ M' : Mem, px E M' ∧ va_P G.1 vwCl (xWs G nAll M') t.heap ∧ st.heap.size ≤ t.heap.size ∧ ∀ q : Nat, q < st.heap.size → ¬ G.2.2 ≤ q → t.heap[q]? = st.heap[q]?
def CtX (y : MethodName) (ws : List Cond) (d : Nat) (av : List Value) (pre : Mem → Prop) (post : Mem → Option Value → Mem → Prop) (px : Mem → String → Mem → Prop) : Prop :=
  ∀ (l : Launch) (G : xG) (M : Mem), l.stackTraces = false → pre M → vx_Met l y ws (rmX d) (xTPc G av M) (xQc G (post M)) (xXC G (px M)) 1 6 (fun q => G.2.2 ≤ q)
abbrev QX (G : xG) (below : List Frame) (args : Array Value) (s : State) (P : Option Value → Mem → Prop) (px : String → Mem → Prop) : State → Prop := vx_MQ below (xQc G P) (xXC G px) args s 1 6 (fun q => G.2.2 ≤ q)
theorem bIO : ∀ w ∈ (vx_atS RX7 130 nIO nUp).filter (fun w => !goodWord w), w ∈ [dRE, dEX, dTH, Cond.castable nIO nIO] := by decide +kernel
theorem bNS : ∀ w ∈ (vy_atS RX7 137 nNS 13 rxNS nUp).filter (fun w => !goodWord w), w ∈ [dRE, dEX, dTH, Cond.castable nNS nNS] := by decide +kernel
theorem oIO : ∀ w ∈ Cond.classLink RX7 126 nIO :: Cond.initialized nIO :: vx_atS RX7 130 nIO nUp, vx_ot w = true := by decide +kernel
theorem oNS : ∀ w ∈ Cond.classLink RX7 133 nNS :: Cond.initialized nNS :: vy_atS RX7 137 nNS 13 rxNS nUp, vx_ot w = true := by decide +kernel
section AWX
variable {p : Program} {l : Launch} {e : Env} {R : Room} {s : State} {m : MethodId} {args : Array Value} {below : List Frame} {meth : Method} {c : Code} {G : xG} {nL : Nat} {Q : State → Prop} {M : Mem} {pc : Nat} {lv : List (Nat × Value)} {st : List Value} {cc : ByteArray} {own : String} {Ts : List Cond} {rt : Option FieldType}
theorem CtX_of {y : MethodName} {ws ws' : List Cond} {d : Nat} {av : List Value} {pre : Mem → Prop} {post : Mem → Option Value → Mem → Prop} {px : Mem → String → Mem → Prop} (ho : y.cls = own) (hy : plainName y.cls = true) (hw : ws = Cond.code y cc nL rt :: ws') (hlen : (lg_sl av).length ≤ nL)
    (body : ∀ (p : Program) (l : Launch) (e : Env) (s : State) (m : MethodId) (args : Array Value) (below : List Frame) (meth : Method) (c : Code) (G : xG) (M : Mem), Cx p s m args meth c G cc nL own ws rt → l.stackTraces = false → xTh G.2.2 s s.heap → (∀ x ∈ c.exceptionTable.toList, False) → pre M →
      AW p l e (rmX d) s m args below meth c G nL (QX G below args s (post M) (px M)) M 0 (lv_args 0 av) []) : CtX y ws d av pre post px := by
  subst ho
  intro l G M hl0 hpre
  refine vx_ofW (cc := cc) (maxL := nL) (ret := rt) hy hw ?_
  intro p e s m args below meth c s₁ B hml ht hv
  obtain ⟨rfl, hP, hK, hN, hT⟩ := hv
  have hts := atoms_spec (ws := ws) B.pre
  have hown : s.vm.findClass y.cls = some m.cls := findClass_of_methodNamed B.named
  have C : Cx p s m (av.map (cv G.2.2)).toArray meth c G cc nL y.cls ws rt := ⟨B.exec, B.bytes, hml, hown, hts, hK, B.returns, B.notSynchronized, hN⟩
  have hl := lv_entry (av.map (cv G.2.2)) (n := nL) (by rw [lg_cv]; exact hlen)
  rw [lg_entry_eq]
  rw [lv_args_cv] at hl
  exact body p l e s m _ below meth c G M C hl0 hT ht hpre s.heap [] _ hP va_S.rf hl
theorem A_xiret {post : Option Value → Mem → Prop} {px : String → Mem → Prop} {z : Int} (C : Cx p s m args meth c G cc nL own Ts (some .int)) (hd : decode cc pc = .ok (.ireturn, 1)) (h : post (some (.int (iI z))) M) : AW p l e R s m args below meth c G nL (QX G below args s post px) M pc lv [.int (iI z)] :=
  fun H locs ls hP hS hl => W.widen (Nat.zero_le _) (Nat.zero_le _) (vx_ret (W.iret C.1 C.2.1 C.2.2.2.2.2.2.1 (fun t ht _ => ⟨_, M, rfl, h, by rw [ht]; exact hP, by rw [ht]; exact hS.1, fun q h1 h2 => by rw [ht]; exact hS.2.1 q h1 h2⟩) hS.2.2 hd (hlocks := C.2.2.2.2.2.2.2.1)))
theorem A_xlret {post : Option Value → Mem → Prop} {px : String → Mem → Prop} {z : Int} (C : Cx p s m args meth c G cc nL own Ts (some .long)) (hd : decode cc pc = .ok (.lreturn, 1)) (h : post (some (.long (lL z))) M) : AW p l e R s m args below meth c G nL (QX G below args s post px) M pc lv [.long (lL z)] :=
  fun H locs ls hP hS hl => W.widen (Nat.zero_le _) (Nat.zero_le _) (vx_ret (W.lret C.1 C.2.1 C.2.2.2.2.2.2.1 (fun t ht _ => ⟨_, M, rfl, h, by rw [ht]; exact hP, by rw [ht]; exact hS.1, fun q h1 h2 => by rw [ht]; exact hS.2.1 q h1 h2⟩) hS.2.2 hd (hlocks := C.2.2.2.2.2.2.2.1)))
theorem xXC_of {px : String → Mem → Prop} {E : String} {H : Heap} {locs : List Loc} (hP : va_P G.1 vwCl (xWs G nAll M) H) (hS : va_S (fun q => G.2.2 ≤ q) s.heap H locs) (h : px E M) {t : State} (hz : H.size ≤ t.heap.size) (hk : ∀ q : Nat, q < H.size → t.heap[q]? = H[q]?) : xXC G px E s t :=
  ⟨M, h, hP.kept (fun k q hq => hk _ (vx_lt hP hq)), Nat.le_trans hS.1 hz, fun q h1 h2 => (hk q (Nat.lt_of_lt_of_le h1 hS.1)).trans (hS.2.1 q h1 h2)⟩
theorem A_throwIO {post : Option Value → Mem → Prop} {px : String → Mem → Prop} (C : Cx p s m args meth c G cc nL RX7 Ts rt) (hl0 : l.stackTraces = false) (hT : xTh G.2.2 s s.heap) (ht : ∀ x ∈ c.exceptionTable.toList, False) {is : Nat} {text : String} (hstr : ∃ a, vk_R RX7 is text a s)
    (w1 : Cond.classLink RX7 126 nIO ∈ Ts) (w2 : Cond.initialized nIO ∈ Ts) (w3 : ∀ w ∈ (vx_atS RX7 130 nIO nUp).filter goodWord, w ∈ Ts) (hR : 5 < R.frames ∧ 82 ≤ R.locals ∧ 1 ≤ R.cells ∧ 6 ≤ R.slots)
    (d0 : decode cc pc = .ok (.new 126, 3)) (d3 : decode cc (pc + 3) = .ok (.dup, 1)) (d4 : decode cc (pc + 4) = .ok (.ldc is, 2)) (d6 : decode cc (pc + 6) = .ok (.invokespecial 130, 3)) (d9 : decode cc (pc + 9) = .ok (.athrow, 1)) (h : px nIO M) :
    AW p l e R s m args below meth c G nL (QX G below args s post px) M pc lv [] := by
  intro H locs ls hP hS hl
  obtain ⟨sa, hsa⟩ := hstr
  exact vx_throwS (names := nUp) (A := fun q => G.2.2 ≤ q) (sa := sa) C.1 C.2.1 hl0 C.2.2.2.1 (by decide) (by decide) (C.2.2.2.2.1 _ w1) (C.2.2.2.2.1 _ w2) hsa
    (vx_hat (fun w hw => C.2.2.2.2.1 w (w3 w hw)) bIO (vx_c (hT.1.1.use rfl) (vx_c (hT.1.2.1.use rfl) (vx_c (hT.1.2.2.1.use rfl) (vx_c (hT.1.2.2.2.1.use rfl) vx_n))))) oIO hT.2.2.1 hT.2.2.2 hS (by rw [C.2.2.1]; exact hl.1) d0 d3 d4 d6 d9
    (fun x hx => (ht x hx).elim) hR.1 (by show 0 + 82 ≤ _; omega) (by omega) (by omega) C.2.2.2.2.2.2.2.1 (fun t _ hz hk => xXC_of hP hS h hz hk) hS.2.2 (Nat.le_refl _) (Nat.le_refl _)
theorem A_throwNS {post : Option Value → Mem → Prop} {px : String → Mem → Prop} (C : Cx p s m args meth c G cc nL RX7 Ts rt) (hl0 : l.stackTraces = false) (hT : xTh G.2.2 s s.heap) (ht : ∀ x ∈ c.exceptionTable.toList, False) {is : Nat} {text : String} (hstr : ∃ a, vk_R RX7 is text a s)
    (w1 : Cond.classLink RX7 133 nNS ∈ Ts) (w2 : Cond.initialized nNS ∈ Ts) (w3 : ∀ w ∈ (vy_atS RX7 137 nNS 13 rxNS nUp).filter goodWord, w ∈ Ts) (hR : 5 < R.frames ∧ 82 ≤ R.locals ∧ 1 ≤ R.cells ∧ 6 ≤ R.slots)
    (d0 : decode cc pc = .ok (.new 133, 3)) (d3 : decode cc (pc + 3) = .ok (.dup, 1)) (d4 : decode cc (pc + 4) = .ok (.ldc is, 2)) (d6 : decode cc (pc + 6) = .ok (.invokespecial 137, 3)) (d9 : decode cc (pc + 9) = .ok (.athrow, 1)) (h : px nNS M) :
    AW p l e R s m args below meth c G nL (QX G below args s post px) M pc lv [] := by
  intro H locs ls hP hS hl
  obtain ⟨sa, hsa⟩ := hstr
  exact vy_throwS (names := nUp) (A := fun q => G.2.2 ≤ q) (sa := sa) C.1 C.2.1 hl0 rxNS_0 rxNS_1 rxNS_2 rxNS_5 C.2.2.2.1 (by decide) (by decide) (C.2.2.2.2.1 _ w1) (C.2.2.2.2.1 _ w2) hsa
    (vx_hat (fun w hw => C.2.2.2.2.1 w (w3 w hw)) bNS (vx_c (hT.1.1.use rfl) (vx_c (hT.1.2.1.use rfl) (vx_c (hT.1.2.2.1.use rfl) (vx_c (hT.1.2.2.2.2.1.use rfl) vx_n))))) oNS hT.2.2.1 hT.2.2.2 hS (by rw [C.2.2.1]; exact hl.1) d0 d3 d4 d6 d9
    (fun x hx => (ht x hx).elim) hR.1 (by show 0 + 82 ≤ _; omega) (by omega) (by omega) C.2.2.2.2.2.2.2.1 (fun t _ hz hk => xXC_of hP hS h hz hk) hS.2.2 (Nat.le_refl _) (Nat.le_refl _)
end AWX
