/-! the invariant: each int within its role's bounds, each reference of its role -/
def bd (r k : Nat) : Int × Int := match r with
  | 0 => (match k with | 12 => (0, 6) | 13 => (0, 1) | 14 => (0, 1) | _ => (-2147483648, 2147483647))
  | 1 => (match k with | 4 => (0, 6) | _ => (-2147483648, 2147483647))
  | 5 => (0, 1)
  | 6 => (match k with | 1 => (0, 12) | _ => (-2147483648, 2147483647))
  | 8 => (match k with | 1 => (0, 24) | 2 => (0, 24) | 3 => (0, 999) | 4 => (0, 999) | 8 => (0, 1) | _ => (-2147483648, 2147483647))
  | 9 => (0, 5)
  | 12 => (match k with | 1 => (0, 12) | _ => (-2147483648, 2147483647))
  | 13 => (match k with | 0 => (0, 6) | _ => (-2147483648, 2147483647))
  | 15 => (0, 11)
  | 16 => (0, 999)
  | 17 => (match k with | 5 => (0, 12) | 6 => (0, 1) | _ => (-2147483648, 2147483647))
  | 20 => (match k with | 1 => (0, 11) | 2 => (0, 13) | _ => (-2147483648, 2147483647))
  | 21 => (match k with | 1 => (0, 11) | 2 => (0, 13) | _ => (-2147483648, 2147483647))
  | 22 => (0, 24)
  | 24 => (0, 1)
  | 30 => (match k with | 0 => (0, 12) | 1 => (0, 6) | 11 => (0, 12) | 12 => (0, 6) | 16 => (-1, 11) | 17 => (0, 13) | 26 => (0, 1) | 29 => (0, 11) | 30 => (0, 12) | 34 => (0, 6) | _ => (-2147483648, 2147483647))
  | 31 => (0, 30)
  | 32 => (0, 99)
  | 33 => (0, 9)
  | 34 => (0, 1)
  | 35 => (0, 5)
  | 36 => (0, 24)
  | 37 => (0, 24)
  | 38 => (0, 999)
  | 39 => (0, 999)
  | 40 => (0, 3)
  | 41 => (0, 11)
  | 42 => (0, 999)
  | 43 => (0, 24)
  | 47 => (0, 24)
  | 48 => (0, 5)
  | _ => (-2147483648, 2147483647)
def rr (r k : Nat) : Option Nat := match r with
  | 0 => [some 1, some 6, some 12, some 13, some 17, some 20, some 21, some 23, some 23, some 24, some 25, some 25].getD k none
  | 1 => [some 2, some 3, some 4, some 5].getD k none
  | 6 => [some 7].getD k none
  | 7 => if k < 12 then some 8 else none
  | 8 => [some 9, none, none, none, none, some 1, some 10, some 11].getD k none
  | 12 => [some 7].getD k none
  | 13 => [none, some 14, some 15, some 16].getD k none
  | 17 => [none, some 18, some 19].getD k none
  | 20 => [some 22].getD k none
  | 21 => [some 22].getD k none
  | 30 => [none, none, some 31, some 32, some 33, some 34, some 35, some 36, some 37, some 38, some 39, none, none, some 40, some 41, some 42, none, none, some 43, none, some 44, some 45, some 46, none, none, none, none, none, none, none, none, some 47, some 48, some 49].getD k none
  | _ => none
def WF (M : Mem) : Prop := (∀ a k, (bd (kd a) k).1 ≤ M.1 a k ∧ M.1 a k ≤ (bd (kd a) k).2) ∧ (∀ a k, r64 (M.2.1 a k)) ∧ (∀ a k q, rr (kd a) k = some q → ∃ b, M.2.2 a k = some b ∧ kd b = q) ∧ ∀ a, kd a = 17 → ∃ b, M.2.2 a 0 = some b ∧ (kd b = 6 ∨ kd b = 12)
theorem WF.i {M : Mem} (W : WF M) {a r : Nat} (hr : kd a = r) (k : Nat) : (bd r k).1 ≤ M.1 a k ∧ M.1 a k ≤ (bd r k).2 := by subst hr; exact W.1 a k
theorem WF.r {M : Mem} (W : WF M) {a r q : Nat} (hr : kd a = r) (k : Nat) (h : rr r k = some q) : ∃ b, M.2.2 a k = some b ∧ kd b = q := by subst hr; exact W.2.2.1 a k q h
theorem WF_sI {M : Mem} (W : WF M) {a r k : Nat} {z lo hi : Int} (hr : kd a = r) (hb : bd r k = (lo, hi)) (h1 : lo ≤ z) (h2 : z ≤ hi) : WF (sI M a k z) := by
  refine ⟨fun b j => ?_, W.2.1, W.2.2.1, W.2.2.2⟩
  by_cases h : b = a ∧ j = k
  · obtain ⟨rfl, rfl⟩ := h
    rw [sI_at, hr, hb]
    exact ⟨h1, h2⟩
  · rw [sI_ne h]
    exact W.1 b j
theorem WF_sL {M : Mem} (W : WF M) {a k : Nat} {z : Int} (h : r64 z) : WF (sL M a k z) := by
  refine ⟨W.1, fun b j => ?_, W.2.2.1, W.2.2.2⟩
  show r64 (if b = a ∧ j = k then z else M.2.1 b j)
  split
  · exact h
  · exact W.2.1 b j
theorem WF_sR {M : Mem} (W : WF M) {a b : Nat} (hr : kd a = 17) (hb : kd b = 6 ∨ kd b = 12) : WF (sR M a 0 (some b)) := by
  refine ⟨W.1, W.2.1, fun x j q hq => ?_, fun x hx => ?_⟩
  · by_cases h : x = a ∧ j = 0
    · obtain ⟨rfl, rfl⟩ := h
      rw [hr, show rr 17 0 = none from rfl] at hq
      cases hq
    · have e : (sR M a 0 (some b)).2.2 x j = M.2.2 x j := by simp only [sR, if_neg h]
      rw [e]
      exact W.2.2.1 x j q hq
  · by_cases h : x = a
    · subst h
      exact ⟨b, by simp [sR], hb⟩
    · have e : (sR M a 0 (some b)).2.2 x 0 = M.2.2 x 0 := by simp [sR, h]
      rw [e]
      exact W.2.2.2 x hx
/-- only objects of the listed roles may have changed -/
def Fr (ch : List Nat) (M M' : Mem) : Prop := ∀ a, ch.contains (kd a) = false → M'.1 a = M.1 a ∧ M'.2.1 a = M.2.1 a ∧ M'.2.2 a = M.2.2 a
theorem Fr.rf {ch : List Nat} {M : Mem} : Fr ch M M := fun _ _ => ⟨rfl, rfl, rfl⟩
theorem Fr.tr {ch : List Nat} {M M1 M2 : Mem} (h1 : Fr ch M M1) (h2 : Fr ch M1 M2) : Fr ch M M2 := fun a h => ⟨(h2 a h).1.trans (h1 a h).1, (h2 a h).2.1.trans (h1 a h).2.1, (h2 a h).2.2.trans (h1 a h).2.2⟩
theorem Fr.mono {ch c2 : List Nat} {M M1 : Mem} (h : Fr ch M M1) (hs : ch.all (fun x => c2.contains x) = true) : Fr c2 M M1 := by
  intro a ha
  apply h a
  cases hc : ch.contains (kd a) with
  | false => rfl
  | true =>
    have h1 := List.all_eq_true.mp hs (kd a) (by simpa using hc)
    rw [ha] at h1
    exact absurd h1 (by decide)
theorem Fr_sI {ch : List Nat} {M : Mem} {a r k : Nat} {z : Int} (hr : kd a = r) (hc : ch.contains r = true) : Fr ch M (sI M a k z) := by
  intro b hb
  have hne : b ≠ a := by
    intro e
    subst e
    rw [hr, hc] at hb
    exact absurd hb (by decide)
  exact ⟨sI_o hne, rfl, rfl⟩
theorem Fr_sL {ch : List Nat} {M : Mem} {a r k : Nat} {z : Int} (hr : kd a = r) (hc : ch.contains r = true) : Fr ch M (sL M a k z) := by
  intro b hb
  have hne : b ≠ a := by
    intro e
    subst e
    rw [hr, hc] at hb
    exact absurd hb (by decide)
  exact ⟨rfl, sL_o hne, rfl⟩
theorem Fr_sR {ch : List Nat} {M : Mem} {a r k : Nat} {z : Option Nat} (hr : kd a = r) (hc : ch.contains r = true) : Fr ch M (sR M a k z) := by
  intro b hb
  have hne : b ≠ a := by
    intro e
    subst e
    rw [hr, hc] at hb
    exact absurd hb (by decide)
  exact ⟨rfl, rfl, sR_o hne⟩
section AWG
variable {p : Program} {l : Launch} {e : Env} {R : Room} {s : State} {m : MethodId} {args : Array Value} {below : List Frame} {meth : Method} {c : Code} {G : xG} {nL : Nat} {Q : State → Prop} {M M0 : Mem} {pc : Nat} {lv : List (Nat × Value)} {st : List Value} {cc : ByteArray} {own : String} {Ts : List Cond} {rt : Option FieldType} {ch : List Nat}
theorem G_getI (C : Cx p s m args meth c G cc nL own Ts rt) (W : WF M) {a r ci k t index : Nat} {Cn : String} {T : u_T} {N : Nat} {lo hi : Int} (hr : kd a = r) (h9 : (r == 99) = false) (hs : shp r = (0, ci)) (ht : (fks ci)[k]? = some t) (h1 : (t == 1) = false) (h2 : (t == 2) = false) (F : Fl own Ts ci k index Cn T N) (hb : bd r k = (lo, hi)) (hd : decode cc pc = .ok (.getfield index, 3))
    (kk : ∀ z : Int, z = M.1 a k → lo ≤ z → z ≤ hi → AW p l e R s m args below meth c G nL Q M (pc + 3) lv (.int (iI z) :: st)) : AW p l e R s m args below meth c G nL Q M pc lv (.ref a :: st) := by
  have h := W.i hr k
  rw [hb] at h
  exact A_getI C hr h9 hs ht h1 h2 F hd (kk _ rfl h.1 h.2)
theorem G_getL (C : Cx p s m args meth c G cc nL own Ts rt) (W : WF M) {a r ci k index : Nat} {Cn : String} {T : u_T} {N : Nat} (hr : kd a = r) (h9 : (r == 99) = false) (hs : shp r = (0, ci)) (ht : (fks ci)[k]? = some 1) (F : Fl own Ts ci k index Cn T N) (hd : decode cc pc = .ok (.getfield index, 3))
    (kk : ∀ z : Int, z = M.2.1 a k → r64 z → AW p l e R s m args below meth c G nL Q M (pc + 3) lv (.long (lL z) :: st)) : AW p l e R s m args below meth c G nL Q M pc lv (.ref a :: st) :=
  A_getL C hr h9 hs ht F hd (kk _ rfl (W.2.1 a k))
theorem G_getR (C : Cx p s m args meth c G cc nL own Ts rt) (W : WF M) {a r ci k index q : Nat} {Cn : String} {T : u_T} {N : Nat} (hr : kd a = r) (h9 : (r == 99) = false) (hs : shp r = (0, ci)) (ht : (fks ci)[k]? = some 2) (hq : rr r k = some q) (F : Fl own Ts ci k index Cn T N) (hd : decode cc pc = .ok (.getfield index, 3))
    (kk : ∀ b : Nat, M.2.2 a k = some b → kd b = q → AW p l e R s m args below meth c G nL Q M (pc + 3) lv (.ref b :: st)) : AW p l e R s m args below meth c G nL Q M pc lv (.ref a :: st) := by
  obtain ⟨b, h1, h2⟩ := W.r hr k hq
  exact A_getR C hr h9 hs ht h1 F hd (kk b h1 h2)
theorem G_putI (C : Cx p s m args meth c G cc nL own Ts rt) (W : WF M) (E : Fr ch M0 M) {a r ci k t index : Nat} {Cn : String} {T : u_T} {N : Nat} {ty0 : Nat → FieldType} {z lo hi : Int} (hr : kd a = r) (h9 : (r == 99) = false) (hs : shp r = (0, ci)) (ht : (fks ci)[k]? = some t) (h1 : (t == 1) = false) (h2 : (t == 2) = false) (F : Fl own Ts ci k index Cn T N) (P : Fp ci k T N ty0) (hy : ty0 k = .int ∨ (ty0 k = .boolean ∧ (z = 0 ∨ z = 1))) (hb : bd r k = (lo, hi)) (hc : ch.contains r = true) (hlo : lo ≤ z) (hhi : z ≤ hi) (hd : decode cc pc = .ok (.putfield index, 3))
    (kk : ∀ M' : Mem, M' = sI M a k z → WF M' → Fr ch M0 M' → AW p l e R s m args below meth c G nL Q M' (pc + 3) lv st) : AW p l e R s m args below meth c G nL Q M pc lv (.int (iI z) :: .ref a :: st) :=
  A_putI C hr h9 hs ht h1 h2 F P hy hd (kk _ rfl (WF_sI W hr hb hlo hhi) (E.tr (Fr_sI hr hc)))
theorem G_putL (C : Cx p s m args meth c G cc nL own Ts rt) (W : WF M) (E : Fr ch M0 M) {a r ci k index : Nat} {Cn : String} {T : u_T} {N : Nat} {ty0 : Nat → FieldType} {z : Int} (hr : kd a = r) (h9 : (r == 99) = false) (hs : shp r = (0, ci)) (ht : (fks ci)[k]? = some 1) (F : Fl own Ts ci k index Cn T N) (P : Fp ci k T N ty0) (hy : ty0 k = .long) (hc : ch.contains r = true) (hz : r64 z) (hd : decode cc pc = .ok (.putfield index, 3))
    (kk : ∀ M' : Mem, M' = sL M a k z → WF M' → Fr ch M0 M' → AW p l e R s m args below meth c G nL Q M' (pc + 3) lv st) : AW p l e R s m args below meth c G nL Q M pc lv (.long (lL z) :: .ref a :: st) :=
  A_putL C hr h9 hs ht F P hy hd (kk _ rfl (WF_sL W hz) (E.tr (Fr_sL hr hc)))
theorem G_iald (C : Cx p s m args meth c G cc nL own Ts rt) (W : WF M) {a r n : Nat} {z lo hi : Int} (hr : kd a = r) (h9 : (r == 99) = false) (hs : shp r = (1, n)) (hn : n < 2 ^ 31) (hb : ∀ k, bd r k = (lo, hi)) (h0 : 0 ≤ z) (h1 : z < n) (hd : decode cc pc = .ok (.iaload, 1))
    (kk : ∀ x : Int, x = M.1 a z.toNat → lo ≤ x → x ≤ hi → AW p l e R s m args below meth c G nL Q M (pc + 1) lv (.int (iI x) :: st)) : AW p l e R s m args below meth c G nL Q M pc lv (.int (iI z) :: .ref a :: st) := by
  have h := W.i hr z.toNat
  rw [hb] at h
  exact A_iald C hr h9 hs hn h0 h1 hd (kk _ rfl h.1 h.2)
theorem G_zald (C : Cx p s m args meth c G cc nL own Ts rt) (W : WF M) {a r n : Nat} {z lo hi : Int} (hr : kd a = r) (h9 : (r == 99) = false) (hs : shp r = (3, n)) (hn : n < 2 ^ 31) (hb : ∀ k, bd r k = (lo, hi)) (h0 : 0 ≤ z) (h1 : z < n) (hd : decode cc pc = .ok (.baload, 1))
    (kk : ∀ x : Int, x = M.1 a z.toNat → lo ≤ x → x ≤ hi → AW p l e R s m args below meth c G nL Q M (pc + 1) lv (.int (iI x) :: st)) : AW p l e R s m args below meth c G nL Q M pc lv (.int (iI z) :: .ref a :: st) := by
  have h := W.i hr z.toNat
  rw [hb] at h
  exact A_zald C hr h9 hs hn h0 h1 hd (kk _ rfl h.1 h.2)
theorem G_lald (C : Cx p s m args meth c G cc nL own Ts rt) (W : WF M) {a r n : Nat} {z : Int} (hr : kd a = r) (h9 : (r == 99) = false) (hs : shp r = (2, n)) (hn : n < 2 ^ 31) (h0 : 0 ≤ z) (h1 : z < n) (hd : decode cc pc = .ok (.laload, 1))
    (kk : ∀ x : Int, x = M.2.1 a z.toNat → r64 x → AW p l e R s m args below meth c G nL Q M (pc + 1) lv (.long (lL x) :: st)) : AW p l e R s m args below meth c G nL Q M pc lv (.int (iI z) :: .ref a :: st) :=
  A_lald C hr h9 hs hn h0 h1 hd (kk _ rfl (W.2.1 a z.toNat))
theorem G_aald (C : Cx p s m args meth c G cc nL own Ts rt) (W : WF M) {a : Nat} {z : Int} (hr : kd a = 7) (h0 : 0 ≤ z) (h1 : z < 12) (hd : decode cc pc = .ok (.aaload, 1))
    (kk : ∀ b : Nat, M.2.2 a z.toNat = some b → kd b = 8 → AW p l e R s m args below meth c G nL Q M (pc + 1) lv (.ref b :: st)) : AW p l e R s m args below meth c G nL Q M pc lv (.int (iI z) :: .ref a :: st) := by
  obtain ⟨b, h2, h3⟩ := W.r hr z.toNat (q := 8) (by
    show (if z.toNat < 12 then some 8 else none) = some 8
    rw [if_pos (by omega)])
  exact A_aald C (n := 12) hr rfl rfl (by decide) h0 h1 h2 hd (kk b h2 h3)
theorem G_iast (C : Cx p s m args meth c G cc nL own Ts rt) (W : WF M) (E : Fr ch M0 M) {a r n : Nat} {z x lo hi : Int} (hr : kd a = r) (h9 : (r == 99) = false) (hs : shp r = (1, n)) (hn : n < 2 ^ 31) (hb : ∀ k, bd r k = (lo, hi)) (hc : ch.contains r = true) (h0 : 0 ≤ z) (h1 : z < n) (hlo : lo ≤ x) (hhi : x ≤ hi) (hd : decode cc pc = .ok (.iastore, 1))
    (kk : ∀ M' : Mem, M' = sI M a z.toNat x → WF M' → Fr ch M0 M' → AW p l e R s m args below meth c G nL Q M' (pc + 1) lv st) : AW p l e R s m args below meth c G nL Q M pc lv (.int (iI x) :: .int (iI z) :: .ref a :: st) :=
  A_iast C hr h9 hs hn h0 h1 hd (kk _ rfl (WF_sI W hr (hb _) hlo hhi) (E.tr (Fr_sI hr hc)))
theorem G_zast (C : Cx p s m args meth c G cc nL own Ts rt) (W : WF M) (E : Fr ch M0 M) {a r n : Nat} {z x : Int} (hr : kd a = r) (h9 : (r == 99) = false) (hs : shp r = (3, n)) (hn : n < 2 ^ 31) (hb : ∀ k, bd r k = (0, 1)) (hc : ch.contains r = true) (h0 : 0 ≤ z) (h1 : z < n) (hx : x = 0 ∨ x = 1) (hd : decode cc pc = .ok (.bastore, 1))
    (kk : ∀ M' : Mem, M' = sI M a z.toNat x → WF M' → Fr ch M0 M' → AW p l e R s m args below meth c G nL Q M' (pc + 1) lv st) : AW p l e R s m args below meth c G nL Q M pc lv (.int (iI x) :: .int (iI z) :: .ref a :: st) :=
  A_zast C hr h9 hs hn h0 h1 hx hd (kk _ rfl (WF_sI W hr (hb _) (by omega) (by omega)) (E.tr (Fr_sI hr hc)))
theorem G_last (C : Cx p s m args meth c G cc nL own Ts rt) (W : WF M) (E : Fr ch M0 M) {a r n : Nat} {z x : Int} (hr : kd a = r) (h9 : (r == 99) = false) (hs : shp r = (2, n)) (hn : n < 2 ^ 31) (hc : ch.contains r = true) (h0 : 0 ≤ z) (h1 : z < n) (hx : r64 x) (hd : decode cc pc = .ok (.lastore, 1))
    (kk : ∀ M' : Mem, M' = sL M a z.toNat x → WF M' → Fr ch M0 M' → AW p l e R s m args below meth c G nL Q M' (pc + 1) lv st) : AW p l e R s m args below meth c G nL Q M pc lv (.long (lL x) :: .int (iI z) :: .ref a :: st) :=
  A_last C hr h9 hs hn h0 h1 hd (kk _ rfl (WF_sL W hx) (E.tr (Fr_sL hr hc)))
theorem A_min (C : Cx p s m args meth c G cc nL own Ts rt) {a b : Int} {index : Nat} (ha : r32 a) (hb : r32 b) (w1 : Cond.methodLink own index Lib.Math.min.name ∈ Ts) (w2 : Cond.static Lib.Math.min.name ∈ Ts) (w3 : Cond.initialized "java/lang/Math" ∈ Ts) (w4 : Cond.code Lib.Math.min.name Lib.Math.min.code 2 (some .int) ∈ Ts) (hf : 1 ≤ R.frames) (hcat : (st.map fun v => v.category).sum + 13 ≤ R.locals) (hd : decode cc pc = .ok (.invokestatic index, 3))
    (k : ∀ z : Int, (z = a ∨ z = b) → z ≤ a → z ≤ b → AW p l e R s m args below meth c G nL Q M (pc + 3) lv (.int (iI z) :: st)) : AW p l e R s m args below meth c G nL Q M pc lv (.int (iI b) :: .int (iI a) :: st) :=
  fun H locs ls hP hS hl => va_mmin C.1 C.2.1 (by rw [C.2.2.1]; exact hl.1.symm) C.2.2.2.1 (C.2.2.2.2.1 _ w1) (C.2.2.2.2.1 _ w2) (C.2.2.2.2.1 _ w3) (C.2.2.2.2.1 _ w4) hf (by rw [xCat]; exact hcat) (Nat.zero_le _) (Nat.zero_le _) hd (by
    by_cases h : b < a
    · rw [if_pos ((iI_lt hb ha).mpr h)]
      exact k b (Or.inr rfl) (by omega) (by omega) H locs ls hP hS hl
    · rw [if_neg (fun q => h ((iI_lt hb ha).mp q))]
      exact k a (Or.inl rfl) (by omega) (by omega) H locs ls hP hS hl)
theorem A_max (C : Cx p s m args meth c G cc nL own Ts rt) {a b : Int} {index : Nat} (ha : r32 a) (hb : r32 b) (w1 : Cond.methodLink own index Lib.Math.max.name ∈ Ts) (w2 : Cond.static Lib.Math.max.name ∈ Ts) (w3 : Cond.initialized "java/lang/Math" ∈ Ts) (w4 : Cond.code Lib.Math.max.name Lib.Math.max.code 2 (some .int) ∈ Ts) (hf : 1 ≤ R.frames) (hcat : (st.map fun v => v.category).sum + 13 ≤ R.locals) (hd : decode cc pc = .ok (.invokestatic index, 3))
    (k : ∀ z : Int, (z = a ∨ z = b) → a ≤ z → b ≤ z → AW p l e R s m args below meth c G nL Q M (pc + 3) lv (.int (iI z) :: st)) : AW p l e R s m args below meth c G nL Q M pc lv (.int (iI b) :: .int (iI a) :: st) :=
  fun H locs ls hP hS hl => va_mmax C.1 C.2.1 (by rw [C.2.2.1]; exact hl.1.symm) C.2.2.2.1 (C.2.2.2.2.1 _ w1) (C.2.2.2.2.1 _ w2) (C.2.2.2.2.1 _ w3) (C.2.2.2.2.1 _ w4) hf (by rw [xCat]; exact hcat) (Nat.zero_le _) (Nat.zero_le _) hd (by
    by_cases h : a < b
    · rw [if_pos ((iI_lt ha hb).mpr h)]
      exact k b (Or.inr rfl) (by omega) (by omega) H locs ls hP hS hl
    · rw [if_neg (fun q => h ((iI_lt ha hb).mp q))]
      exact k a (Or.inl rfl) (by omega) (by omega) H locs ls hP hS hl)
end AWG
