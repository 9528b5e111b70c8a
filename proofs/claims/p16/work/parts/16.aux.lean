/-! more rules -/
section AWX
variable {p : Program} {l : Launch} {e : Env} {R : Room} {s : State} {m : MethodId} {args : Array Value} {below : List Frame} {meth : Method} {c : Code} {G : xG} {nL : Nat} {Q : State → Prop} {M M0 : Mem} {pc : Nat} {lv : List (Nat × Value)} {st : List Value} {cc : ByteArray} {own : String} {Ts : List Cond} {rt : Option FieldType} {ch : List Nat}
theorem A_st {st' : List Value} (h : st = st') (k : AW p l e R s m args below meth c G nL Q M pc lv st') : AW p l e R s m args below meth c G nL Q M pc lv st := h ▸ k
theorem A_lv {lv' : List (Nat × Value)} (h : lv = lv') (k : AW p l e R s m args below meth c G nL Q M pc lv' st) : AW p l e R s m args below meth c G nL Q M pc lv st := h ▸ k
theorem A_abs (C : Cx p s m args meth c G cc nL own Ts rt) {a : Int} {index : Nat} (ha : r32 a) (_ : True ∨ r32 a) (w1 : Cond.methodLink own index Lib.Math.abs.name ∈ Ts) (w2 : Cond.static Lib.Math.abs.name ∈ Ts) (w3 : Cond.initialized "java/lang/Math" ∈ Ts) (w4 : Cond.code Lib.Math.abs.name Lib.Math.abs.code 1 (some .int) ∈ Ts) (hf : 1 ≤ R.frames) (hcat : (st.map fun v => v.category).sum + 13 ≤ R.locals) (hd : decode cc pc = .ok (.invokestatic index, 3))
    (k : ∀ z : Int, (0 ≤ a ∧ z = a) ∨ (a < 0 ∧ z = -a) → AW p l e R s m args below meth c G nL Q M (pc + 3) lv (.int (iI z) :: st)) : AW p l e R s m args below meth c G nL Q M pc lv (.int (iI a) :: st) :=
  fun H locs ls hP hS hl => va_mabs C.1 C.2.1 (by rw [C.2.2.1]; exact hl.1.symm) C.2.2.2.1 (C.2.2.2.2.1 _ w1) (C.2.2.2.2.1 _ w2) (C.2.2.2.2.1 _ w3) (C.2.2.2.2.1 _ w4) hf (by rw [xCat]; omega) (Nat.zero_le _) (Nat.zero_le _) hd (by
    by_cases h : 0 ≤ a
    · rw [if_pos (show (0 : Int32) ≤ iI a by rw [← iI_0]; exact (iI_le (by decide) ha).mpr h)]
      exact k a (Or.inl ⟨h, rfl⟩) H locs ls hP hS hl
    · rw [if_neg (show ¬ (0 : Int32) ≤ iI a from fun q => h ((iI_le (by decide) ha).mp (by rw [iI_0]; exact q)))]
      rw [← iI_0, iI_sub, show (0 : Int) - a = -a by omega]
      exact k (-a) (Or.inr ⟨by omega, rfl⟩) H locs ls hP hS hl)
theorem A_minl (C : Cx p s m args meth c G cc nL own Ts rt) {a b : Int} {index : Nat} (ha : r64 a) (hb : r64 b) (w1 : Cond.methodLink own index Lib.MathLoose.min_long.x ∈ Ts) (w2 : Cond.static Lib.MathLoose.min_long.x ∈ Ts) (w3 : Cond.initialized "java/lang/Math" ∈ Ts) (w4 : Cond.code Lib.MathLoose.min_long.x Lib.MathLoose.min_long.code 4 (some .long) ∈ Ts) (hf : 1 ≤ R.frames) (hcat : (st.map fun v => v.category).sum + 15 ≤ R.locals) (hd : decode cc pc = .ok (.invokestatic index, 3))
    (k : ∀ z : Int, r64 z → AW p l e R s m args below meth c G nL Q M (pc + 3) lv (.long (lL z) :: st)) : AW p l e R s m args below meth c G nL Q M pc lv (.long (lL b) :: .long (lL a) :: st) :=
  fun H locs ls hP hS hl => va_mmin_long C.1 C.2.1 (by rw [C.2.2.1]; exact hl.1.symm) C.2.2.2.1 (C.2.2.2.2.1 _ w1) (C.2.2.2.2.1 _ w2) (C.2.2.2.2.1 _ w3) (C.2.2.2.2.1 _ w4) hf (by rw [xCat]; exact hcat) (Nat.zero_le _) (Nat.zero_le _) hd (by
    split
    · exact k b hb H locs ls hP hS hl
    · exact k a ha H locs ls hP hS hl)
theorem G_putR (C : Cx p s m args meth c G cc nL own Ts rt) (W : WF M) (E : Fr ch M0 M) {a b index : Nat} {ty0 : Nat → FieldType} {nm : String} (hr : kd a = 17) (hb : kd b = 6 ∨ kd b = 12) (F : Fl own Ts 6 0 index RX6 TX6 7) (P : Fp 6 0 TX6 7 ty0) (hy : ty0 0 = .object nm) (hc : ch.contains 17 = true) (hd : decode cc pc = .ok (.putfield index, 3))
    (kk : ∀ M' : Mem, M' = sR M a 0 (some b) → WF M' → Fr ch M0 M' → AW p l e R s m args below meth c G nL Q M' (pc + 3) lv st) : AW p l e R s m args below meth c G nL Q M pc lv (.ref b :: .ref a :: st) :=
  A_putR C hr rfl rfl rfl F P hy hd (kk _ rfl (WF_sR W hr hb) (E.tr (Fr_sR hr hc)))
/-! a ground of either role -/
theorem gr_cols (W : WF M) {g : Nat} (hr : kd g = 6 ∨ kd g = 12) : ∃ b, M.2.2 g 0 = some b ∧ kd b = 7 := by
  rcases hr with h | h
  · exact W.r h 0 rfl
  · exact W.r h 0 rfl
theorem gr_getR (C : Cx p s m args meth c G cc nL own Ts rt) {a b index : Nat} (hr : kd a = 6 ∨ kd a = 12) (hb : M.2.2 a 0 = some b) (F : Fl own Ts 4 0 index RX4 TX4 2) (hd : decode cc pc = .ok (.getfield index, 3))
    (kk : AW p l e R s m args below meth c G nL Q M (pc + 3) lv (.ref b :: st)) : AW p l e R s m args below meth c G nL Q M pc lv (.ref a :: st) := by
  rcases hr with h | h
  · exact A_getR C h rfl rfl rfl hb F hd kk
  · exact A_getR C h rfl rfl rfl hb F hd kk
theorem gr_getI (C : Cx p s m args meth c G cc nL own Ts rt) (W : WF M) {a index : Nat} (hr : kd a = 6 ∨ kd a = 12) (F : Fl own Ts 4 1 index RX4 TX4 2) (hd : decode cc pc = .ok (.getfield index, 3))
    (kk : ∀ z : Int, z = M.1 a 1 → 0 ≤ z → z ≤ 12 → AW p l e R s m args below meth c G nL Q M (pc + 3) lv (.int (iI z) :: st)) : AW p l e R s m args below meth c G nL Q M pc lv (.ref a :: st) := by
  rcases hr with h | h
  · exact G_getI C W h rfl rfl rfl rfl rfl F rfl hd kk
  · exact G_getI C W h rfl rfl rfl rfl rfl F rfl hd kk
theorem gr_callV (C : Cx p s m args meth c G cc nL own Ts rt) {y : MethodName} {ws ws' : List Cond} {d : Nat} {a : Nat} {As : List Value} {pre : Mem → Prop} {post : Mem → Option Value → Mem → Prop} (K : Ct y ws d (.ref a :: As) pre post) {n maxL index : Nat} {bytes : ByteArray} {ret : Option FieldType}
    (g : GoodIn Ts (wsV own index RX4 y ws)) (hw : ws = Cond.code y bytes maxL ret :: ws') (hy : y.cls = RX4 ∧ y.cls ≠ "java/lang/invoke/MethodHandle" ∧ y.cls ≠ "java/lang/invoke/VarHandle" ∧ (parseMethodDescriptor y.desc).map (fun d => d.parameters.length) = some n) (hR : (rmD d).frames + 1 ≤ R.frames ∧ 8 + (maxL + 11) + (rmD d).locals ≤ R.locals)
    (hr : kd a = 6 ∨ kd a = 12) (hn : As.length = n) (_ : True = True) (hcat : (st.map fun v => v.category).sum ≤ 8) (hd : decode cc pc = .ok (.invokevirtual index, 3)) {st0 : List Value} (hst : st0 = As.reverse ++ .ref a :: st)
    (hpre : pre M) (kk : ∀ (r : Option Value) (M' : Mem), post M r M' → AW p l e R s m args below meth c G nL Q M' (pc + 3) lv (r.toList ++ st)) : AW p l e R s m args below meth c G nL Q M pc lv st0 := by
  rcases hr with h | h
  · exact A_callV C K (T := TX4) (N := 2) g hw hy hR h rfl rfl rfl hn hcat hd hst hpre kk
  · exact A_callV C K (T := TX4) (N := 2) g hw hy hR h rfl rfl rfl hn hcat hd hst hpre kk
end AWX
theorem sI_kd {M : Mem} {a k b j ra rb : Nat} {z : Int} (ha : kd a = ra) (hb : kd b = rb) (h : (ra == rb) = false) : (sI M b j z).1 a k = M.1 a k := by
  refine sI_ne (fun q => ?_)
  rw [q.1, hb] at ha
  rw [ha] at h
  simp at h
theorem sI_pl {M : Mem} {a k j : Nat} {z : Int} (h : (k == j) = false) : (sI M a j z).1 a k = M.1 a k := by
  refine sI_ne (fun q => ?_)
  rw [q.2] at h
  simp at h
/-! a whole row of ints copied -/
def cpI (M : Mem) (a b n : Nat) : Mem := (fun x j => if x = b ∧ j < n then M.1 a j else M.1 x j, M.2)
theorem WF_cp {M : Mem} (W : WF M) {a b r n : Nat} {lo hi : Int} (ha : kd a = r) (hb : kd b = r) (hbd : ∀ k, bd r k = (lo, hi)) : WF (cpI M a b n) := by
  refine ⟨fun x j => ?_, W.2.1, W.2.2.1, W.2.2.2⟩
  show _ ≤ (if x = b ∧ j < n then M.1 a j else M.1 x j) ∧ (if x = b ∧ j < n then M.1 a j else M.1 x j) ≤ _
  split
  · rename_i h
    obtain ⟨rfl, _⟩ := h
    have h1 := W.i ha j
    rw [hb]
    exact h1
  · exact W.1 x j
theorem Fr_cp {ch : List Nat} {M : Mem} {a b r n : Nat} (hb : kd b = r) (hc : ch.contains r = true) : Fr ch M (cpI M a b n) := by
  intro x hx
  have hne : x ≠ b := by
    intro e
    subst e
    rw [hb, hc] at hx
    exact absurd hx (by decide)
  exact ⟨by funext j; simp [cpI, hne], rfl, rfl⟩
section AWY
variable {p : Program} {l : Launch} {e : Env} {R : Room} {s : State} {m : MethodId} {args : Array Value} {below : List Frame} {meth : Method} {c : Code} {G : xG} {nL : Nat} {Q : State → Prop} {M M0 : Mem} {pc : Nat} {lv : List (Nat × Value)} {st : List Value} {cc : ByteArray} {own : String} {Ts : List Cond} {rt : Option FieldType} {ch : List Nat}
theorem G_copy (C : Cx p s m args meth c G cc nL own Ts rt) (W : WF M) (E : Fr ch M0 M) {a b r n index : Nat} {lo hi : Int} (ha : kd a = r) (hb : kd b = r) (h9 : (r == 99) = false) (hs : shp r = (1, n)) (hn : n < 2 ^ 31) (hbd : ∀ k, bd r k = (lo, hi)) (hc : ch.contains r = true) (w1 : Cond.methodLink own index arraycopyName ∈ Ts) (w2 : Cond.native arraycopyName ∈ Ts) (w3 : Cond.static arraycopyName ∈ Ts) (w4 : Cond.initialized "java/lang/System" ∈ Ts) (hf : 1 ≤ R.frames) (hlo : (st.map fun v => v.category).sum + (nativeFrameWords "java/lang/System" "arraycopy" 5 + 11) ≤ R.locals) (hd : decode cc pc = .ok (.invokestatic index, 3))
    (kk : ∀ M' : Mem, M' = cpI M a b n → WF M' → Fr ch M0 M' → AW p l e R s m args below meth c G nL Q M' (pc + 3) lv st) : AW p l e R s m args below meth c G nL Q M pc lv (.int (iI n) :: .int (iI 0) :: .ref b :: .int (iI 0) :: .ref a :: st) := by
  intro H locs ls hP hS hl
  have hsa : shp (kd a) = (1, n) := by rw [ha]; exact hs
  have hsb : shp (kd b) = (1, n) := by rw [hb]; exact hs
  have e0 : (iI 0).toNatClampNeg = 0 := by decide +kernel
  have en : (iI n).toNatClampNeg = n := by rw [iI_cl (by omega) (by omega)]; omega
  have z0 : ¬ iI 0 < 0 := by decide +kernel
  have zn : ¬ iI n < 0 := by rw [← iI_0, iI_lt ⟨by omega, by omega⟩ (by decide)]; omega
  refine va_copyi C.1 C.2.1 (by rw [C.2.2.1]; exact hl.1.symm) C.2.2.2.1 (C.2.2.2.2.1 _ w1) (C.2.2.2.2.1 _ w2) (C.2.2.2.2.1 _ w3) (C.2.2.2.2.1 _ w4) C.2.2.2.2.2.1 hP xD hS a b 0 0 (ty := .int) (xAt ha h9 (xE_1 hsa)) (xAt hb h9 (xE_1 hsb)) rfl rfl rfl z0 z0 zn (by rw [e0, en]; omega) (by rw [e0, en]; omega) (fun _ _ => rfl) hf (by rw [xCat]; exact hlo) hd (fun H1 locs1 hP1 _ hS1 => ?_)
  rw [e0, en, xWs_set (G := G) (M := M) (M' := cpI M a b n) (kd_lt hb h9) (by
    rw [xE_1 hsb]
    congr 4
    funext j
    by_cases hj : j < n
    · rw [pk_cpy_in (Nat.zero_le _) (by omega)]
      simp [cpI, hj]
    · rw [pk_cpy_out (Or.inr (by omega))]
      simp [cpI, hj]) (fun x hx => xE_o (by funext j; simp [cpI, hx]) rfl rfl)] at hP1
  exact kk _ rfl (WF_cp W ha hb hbd) (E.tr (Fr_cp hb hc)) H1 locs1 ls hP1 hS1 hl
theorem A_alen (C : Cx p s m args meth c G cc nL own Ts rt) {a r n : Nat} {z : Int} (hr : kd a = r) (h9 : (r == 99) = false) (hs : shp r = (1, n)) (hv : Int32.ofNat n = iI z) (hd : decode cc pc = .ok (.arraylength, 1))
    (kk : AW p l e R s m args below meth c G nL Q M (pc + 1) lv (.int (iI z) :: st)) : AW p l e R s m args below meth c G nL Q M pc lv (.ref a :: st) :=
  fun H locs ls hP hS hl => va_alen C.1 C.2.1 C.2.2.2.2.2.1 hP a 0 (xAt hr h9 (xE_1 (by rw [hr]; exact hs))) (ty := .int) rfl hv hd (kk H locs ls hP hS hl)
end AWY
