/-! rows of objects, constructors called -/
section ANQ
variable {p : Program} {l : Launch} {e : Env} {R : Room} {s : State} {m : MethodId} {args : Array Value} {below : List Frame} {meth : Method} {c : Code} {G : xG} {nL : Nat} {Q : State → Prop} {M : Mem} {pc : Nat} {lv : List (Nat × Value)} {st : List Value} {cc : ByteArray} {own : String} {Ts : List Cond} {rt : Option FieldType} {n0 k0 w0 : Nat}
theorem N_getR (C : Cx p s m args meth c G cc nL own Ts rt) {a ci k index b : Nat} {Cm : String} {T : u_T} {N : Nat} (ha : a < n0) (hs : shp (kd a) = (0, ci)) (ht : (fks ci)[k]? = some 2) (hb : M.2.2 a k = some b) (F : Fl own Ts ci k index Cm T N) (hd : decode cc pc = .ok (.getfield index, 3))
    (kk : AN p l e R s m args below meth c G nL Q n0 k0 w0 M (pc + 3) lv (.ref b :: st)) : AN p l e R s m args below meth c G nL Q n0 k0 w0 M pc lv (.ref a :: st) :=
  fun H locs ls hP hz hS hl => va_get C.1 C.2.1 C.2.2.2.2.1 F.2.2.1 C.2.2.2.1 C.2.2.2.2.2.1 hP a (nAt ha (xE_0 hs)) F.1 k F.2.1 (C.2.2.2.2.1 _ F.2.2.2) (fun _ h => h) (v := .ref (G.2.2 + b)) (by
    rw [xFs_at (fks ci) 0 k 2 ht, Nat.zero_add]
    show some (va_rf ((M.2.2 a k).map _)) = _
    rw [hb]
    rfl) hd (kk H locs ls hP hz hS hl)
theorem N_getRN (C : Cx p s m args meth c G cc nL own Ts rt) {a ci k index b : Nat} {Cm host : String} {T : u_T} {N : Nat} (ha : a < n0) (hs : shp (kd a) = (0, ci)) (ht : (fks ci)[k]? = some 2) (hb : M.2.2 a k = some b) (hcl : vwCl[ci]? = some (Cm, T, N)) (hk : k < N) (hin : ∀ w ∈ u_ws Cm T N, w ∈ Ts) (hlink : va_Nw (.fieldLinkNest own index (T k).1 (T k).2.1 (T k).2.2.1 host) s) (hd : decode cc pc = .ok (.getfield index, 3))
    (kk : AN p l e R s m args below meth c G nL Q n0 k0 w0 M (pc + 3) lv (.ref b :: st)) : AN p l e R s m args below meth c G nL Q n0 k0 w0 M pc lv (.ref a :: st) :=
  fun H locs ls hP hz hS hl => va_getN C.1 C.2.1 C.2.2.2.2.1 hin C.2.2.2.1 C.2.2.2.2.2.1 hP a (nAt ha (xE_0 hs)) hcl k hk (va_Nw.use rfl hlink) (fun _ h => h) (v := .ref (G.2.2 + b)) (by
    rw [xFs_at (fks ci) 0 k 2 ht, Nat.zero_add]
    show some (va_rf ((M.2.2 a k).map _)) = _
    rw [hb]
    rfl) hd (kk H locs ls hP hz hS hl)
theorem N_aald (C : Cx p s m args meth c G cc nL own Ts rt) {a len b : Nat} {z : Int} (ha : a < n0) (hs : shp (kd a) = (4, len)) (hn : len < 2 ^ 31) (h0 : 0 ≤ z) (h1 : z < len) (hb : M.2.2 a z.toNat = some b) (hd : decode cc pc = .ok (.aaload, 1))
    (kk : AN p l e R s m args below meth c G nL Q n0 k0 w0 M (pc + 1) lv (.ref b :: st)) : AN p l e R s m args below meth c G nL Q n0 k0 w0 M pc lv (.int (iI z) :: .ref a :: st) :=
  fun H locs ls hP hz hS hl => va_aldq C.1 C.2.1 C.2.2.2.2.2.1 hP a 3 (nAt ha (xE_4 hs)) rfl (iI_in h0 h1 hn) hd (by
    rw [iI_cl h0 (by omega), hb]
    exact kk H locs ls hP hz hS hl)
theorem N_aast (C : Cx p s m args meth c G cc nL own Ts rt) {a len b : Nat} {z : Int} (ha : a < n0) (hs : shp (kd a) = (4, len)) (hb : b < n0) (hsb : shp (kd b) = (0, 1)) (hn : len < 2 ^ 31) (h0 : 0 ≤ z) (h1 : z < len) (hd : decode cc pc = .ok (.aastore, 1))
    (kk : AN p l e R s m args below meth c G nL Q n0 k0 w0 (sR M a z.toNat (some b)) (pc + 1) lv st) : AN p l e R s m args below meth c G nL Q n0 k0 w0 M pc lv (.ref b :: .int (iI z) :: .ref a :: st) := by
  intro H locs ls hP hz hS hl
  have he := nAt (G := G) (n0 := n0) (M := M) ha (xE_4 hs)
  have hv := nAt (G := G) (n0 := n0) (M := M) hb (xE_0 hsb)
  have hK := C.2.2.2.2.2.1
  have hcl := iI_cl h0 (show z ≤ 2147483647 by omega)
  have hr32 : r32 z := ⟨by omega, by omega⟩
  have hneg : ¬ iI z < 0 := fun q => by
    have q2 : iI z < iI 0 := by rw [iI_0]; exact q
    have q3 := (iI_lt hr32 (by decide)).mp q2
    omega
  have hlt : z.toNat < len := by omega
  obtain ⟨r', hr', cellV, g1, g2, g3, -⟩ := hP b _ hv
  have hcls := (hK.1 1 (RX1, TX1, 9) rfl).2
  obtain ⟨kA, comp, k1, k2, k3, -⟩ := (hK.2 3 _ rfl).2
  have hcomp : comp = G.1.1 1 := Option.some.inj (k3.symm.trans hcls.1)
  subst hcomp
  obtain ⟨kC, hkC, -⟩ := hcls.2
  refine W.aast C.1 C.2.1 (hP a _ he) (fun q h => by cases h) (fun h => by cases h) k1 k2 rfl hkC ⟨hneg, by show _ < (arrV _ _ _).slots.size; rw [arrV_size, hcl]; exact hlt⟩ g1 (fun q h => by rw [g3] at h; cases h) (by rw [g2]; exact hkC) (by rw [g2]; exact va_assign hcls) rfl rfl hd fun H1 e z1 oq => ?_
  rw [hcl] at e ⊢
  have hP1 := hP.set xD he (H1 := H1) (e := .inl (G.2.1 3, len, .inr (.inr (.inr (.inr (va_up (fun j => (M.2.2 a j).map (G.2.2 + ·)) z.toNat (some (G.2.2 + b)))))))) (by
    show H1[G.2.2 + a]? = some (vp_cell _ _)
    rw [e]
    rw [vp_cell_q, vp_cell_q, arrV_store]
    congr 2
    funext q
    by_cases hq : q = z.toNat
    · subst hq
      simp [updV, va_up, va_rf]
    · simp [updV, va_up, hq]) oq
  rw [xWs_set (G := G) (M := M) (M' := sR M a z.toNat (some b)) ha (by
    rw [xE_4 hs]
    congr 7
    funext j
    by_cases hj : j = z.toNat
    · subst hj; simp [sR, va_up]
    · simp [sR, va_up, hj]) (fun b hb => xE_o rfl rfl (sR_o hb))] at hP1
  exact kk H1 _ ls hP1 (by rw [z1]; exact hz) (hS.put z1 oq (Nat.le_add_right _ _)) hl
theorem N_newq (C : Cx p s m args meth c G cc nL own Ts rt) (hNc : xNc s) {z : Int} {len index : Nat} (hZ : Zr M n0) (hs : shp (kd n0) = (4, len)) (w1 : Cond.classLink own index RX1 ∈ Ts) (hz : z = len) (hl : len < 1000) (hc : k0 + 1 ≤ R.cells) (hsl : w0 + len ≤ R.slots) (hd : decode cc pc = .ok (.anewarray index, 3))
    (kk : AN p l e R s m args below meth c G nL Q (n0 + 1) (k0 + 1) (w0 + len) M (pc + 3) lv (.ref n0 :: st)) : AN p l e R s m args below meth c G nL Q n0 k0 w0 M pc lv (.int (iI z) :: st) := by
  intro H locs ls hP hsz hS hlv
  subst hz
  have hcl : (iI (len : Int)).toNatClampNeg = len := by rw [iI_cl (by omega) (by omega)]; omega
  refine W.anew C.1 C.2.1 C.2.2.2.1 (C.2.2.2.2.1 _ w1) (va_AO.use hNc.2.2.2.2.2) rfl hd rfl (by rw [← iI_0, iI_lt ⟨by omega, by omega⟩ (by decide)]; omega) (by rw [hcl]; omega) hc (by rw [hcl]; exact hsl) fun cA kA comp f1 f2 f3 f4 => ?_
  rw [hcl]
  generalize hH1 : H.push ({ cls := cA, slots := Array.replicate len .null, vm := .none } : Cell) = H1
  have z1 : H1.size = H.size + 1 := by rw [← hH1, Array.size_push]
  have e1 : H1[H.size]? = some (arrV cA len (fun _ => .null)) := by rw [← hH1, Array.getElem?_push_size, ← arrV_new]
  have o1 : ∀ q : Nat, q < H.size → H1[q]? = H[q]? := fun q hq => by rw [← hH1, Array.getElem?_push, if_neg (Nat.ne_of_lt hq)]
  have hcA : cA = G.2.1 3 := by
    obtain ⟨kA', comp', q1, q2, q3, q4⟩ := (C.2.2.2.2.2.1.2 3 _ rfl).2
    exact Option.some.inj (f1.symm.trans q4)
  subst hcA
  rw [hsz] at e1 ⊢
  refine kk H1 locs ls (xP_push hP o1 ?_) (by rw [z1, hsz]; omega) (xS_push hS z1 o1) hlv
  rw [xE_4 hs]
  show H1[G.2.2 + n0]? = some (vp_cell _ _)
  rw [e1, vp_cell_q]
  congr 2
  funext j
  rw [(hZ n0 (Nat.le_refl _) j).2.2]
  rfl
theorem N_run {H : Heap} {locs : List Loc} {ls : Array Slot} {st0 rest : List Value} {a : Array Value} {n1 mc ms : Nat} {M1 : Mem} (hr : va_Run p l e R s m args below meth c H locs k0 w0 mc ms (F0 m pc ls st0) rest (xQn G n1 M1 a) (fun q => G.2.2 ≤ q)) (hS : va_S (fun q => G.2.2 ≤ q) s.heap H locs)
    (kk : ∀ (H1 : Heap) (locs1 : List Loc), va_P G.1 vwCl (xWs G n1 M1) H1 → H1.size = G.2.2 + n1 → va_S (fun q => G.2.2 ≤ q) s.heap H1 locs1 → W p l e R s m args below meth c H1 locs1 (k0 + mc) (w0 + ms) Q (F0 m (pc + 3) ls rest)) : W p l e R s m args below meth c H locs k0 w0 Q (F0 m pc ls st0) := by
  intro T hT X
  obtain ⟨v, st₀, t, T', L, h0, X', hL, e1, e2, ⟨hv, hP', hz', hsz, hk⟩, go⟩ := hr T hT X
  cases hv
  rw [h0] at hsz hk
  obtain ⟨t2, a1, b1⟩ := kk T'.heap (locs ++ L) (by rw [e1]; exact hP') (by rw [e1]; exact hz')
    ⟨Nat.le_trans hS.1 (by rw [e1]; exact hsz), fun q h1 h2 => by rw [e1, hk q (Nat.lt_of_lt_of_le h1 hS.1) h2]; exact hS.2.1 q h1 h2, fun q hq => by
      rcases List.mem_append.mp hq with h | h
      · exact hS.2.2 q h
      · exact hL q h⟩ T' rfl X'
  exact ⟨t2, go t2 a1, b1⟩
theorem N_callI (C : Cx p s m args meth c G cc nL own Ts rt) (hNc : xNc s) {y : MethodName} {ws ws' : List Cond} {d mc ms n1 nn maxL index a : Nat} {As : List Value} {M1 : Mem} {bytes : ByteArray} (K : Cn y ws d mc ms n0 n1 (.ref a :: As) M M1) (g : GoodIn Ts ws) (hw : ws = Cond.code y bytes maxL none :: ws') (w1 : Cond.initialized y.cls ∈ Ts) (w2 : Cond.methodLink own index y ∈ Ts) (w3 : Cond.instanceMethod y ∈ Ts) (hi : y.name = "<init>") (hy : y.cls ≠ "java/lang/invoke/MethodHandle" ∧ y.cls ≠ "java/lang/invoke/VarHandle" ∧ (parseMethodDescriptor y.desc).map (fun d => d.parameters.length) = some nn)
    (hR : d + 1 ≤ R.frames ∧ 8 + (maxL + 11) + 64 * d ≤ R.locals) (hn : As.length = nn) (hcat : (st.map fun v => v.category).sum ≤ 8) (hf : k0 + mc ≤ R.cells ∧ w0 + ms ≤ R.slots) (hd : decode cc pc = .ok (.invokespecial index, 3)) {st0 : List Value} (hst : st0 = As.reverse ++ .ref a :: st)
    (kk : AN p l e R s m args below meth c G nL Q n1 (k0 + mc) (w0 + ms) M1 (pc + 3) lv st) : AN p l e R s m args below meth c G nL Q n0 k0 w0 M pc lv st0 := by
  intro H locs ls hP hz hS hl
  subst hst
  rw [xRev]
  have hPre : PreS s H (xPn G n0 (.ref a :: As) M) (.ref (G.2.2 + a) :: As.map (cv G.2.2)) := ⟨xPn_blind, fun U hU hW => ⟨rfl, by rw [hU]; exact hP, by rw [hU]; exact hz, va_K.moved hW.alike C.2.2.2.2.2.1, C.2.2.2.2.2.2.2.2.warm hW, hNc.warm hW⟩⟩
  exact N_run (va_runI (As := As.map (cv G.2.2)) (rest := st.map (cv G.2.2)) ⟨C.1, C.2.1, C.2.2.1, C.2.2.2.1, C.2.2.2.2.1⟩ (K l G) (cwI nn C.2.2.2.2.1 g hw rfl rfl (C.2.2.2.2.1 _ w1) (C.2.2.2.2.1 _ w2) (C.2.2.2.2.1 _ w3) hi hy hR) hPre rfl (by rw [List.length_map]; exact hn) hl.1 rfl (lv_room (by rw [xCat]; exact hcat)) hd hf) hS (fun H1 locs1 h1 h2 h3 => kk H1 locs1 ls h1 h2 h3 hl)
theorem N_callIN (C : Cx p s m args meth c G cc nL own Ts rt) (hNc : xNc s) {y : MethodName} {ws ws' : List Cond} {d mc ms n1 nn maxL index a : Nat} {As : List Value} {M1 : Mem} {bytes : ByteArray} {host : String} (K : Cn y ws d mc ms n0 n1 (.ref a :: As) M M1) (hlink : va_Nw (.methodLinkNest own index y host) s) (g : GoodIn Ts ws) (hw : ws = Cond.code y bytes maxL none :: ws') (w1 : Cond.initialized y.cls ∈ Ts) (w3 : Cond.instanceMethod y ∈ Ts) (hi : y.name = "<init>") (hy : y.cls ≠ "java/lang/invoke/MethodHandle" ∧ y.cls ≠ "java/lang/invoke/VarHandle" ∧ (parseMethodDescriptor y.desc).map (fun d => d.parameters.length) = some nn)
    (hR : d + 1 ≤ R.frames ∧ 8 + (maxL + 11) + 64 * d ≤ R.locals) (hn : As.length = nn) (hcat : (st.map fun v => v.category).sum ≤ 8) (hf : k0 + mc ≤ R.cells ∧ w0 + ms ≤ R.slots) (hd : decode cc pc = .ok (.invokespecial index, 3)) {st0 : List Value} (hst : st0 = As.reverse ++ .ref a :: st)
    (kk : AN p l e R s m args below meth c G nL Q n1 (k0 + mc) (w0 + ms) M1 (pc + 3) lv st) : AN p l e R s m args below meth c G nL Q n0 k0 w0 M pc lv st0 := by
  intro H locs ls hP hz hS hl
  subst hst
  rw [xRev]
  have hPre : PreS s H (xPn G n0 (.ref a :: As) M) (.ref (G.2.2 + a) :: As.map (cv G.2.2)) := ⟨xPn_blind, fun U hU hW => ⟨rfl, by rw [hU]; exact hP, by rw [hU]; exact hz, va_K.moved hW.alike C.2.2.2.2.2.1, C.2.2.2.2.2.2.2.2.warm hW, hNc.warm hW⟩⟩
  exact N_run (va_runIN (As := As.map (cv G.2.2)) (rest := st.map (cv G.2.2)) ⟨C.1, C.2.1, C.2.2.1, C.2.2.2.1, C.2.2.2.2.1⟩ (K l G) ⟨va_cnB nn C.2.2.2.2.1 g hw rfl rfl hlink (C.2.2.2.2.1 _ w1) hy hR, hi, C.2.2.2.2.1 _ w3⟩ hPre rfl (by rw [List.length_map]; exact hn) hl.1 rfl (lv_room (by rw [xCat]; exact hcat)) hd hf) hS (fun H1 locs1 h1 h2 h3 => kk H1 locs1 ls h1 h2 h3 hl)
end ANQ
