/-! the memory's cells read and written -/
theorem kd_lt {a r : Nat} (h : kd a = r) (hr : (r == 99) = false) : a < nAll := by
  rw [← kdL_len]
  apply Classical.byContradiction
  intro hn
  have h1 : kd a = 99 := by
    unfold kd
    rw [List.getD_eq_getElem?_getD, List.getElem?_eq_none (by omega)]
    rfl
  rw [h] at h1
  rw [h1] at hr
  exact absurd hr (by decide)
theorem xE_0 {G : xG} {M : Mem} {a ci : Nat} (h : shp (kd a) = (0, ci)) : xE G M a = .inr (ci, xFs G.2.2 M a 0 (fks ci)) := by unfold xE; rw [h]; rfl
theorem xE_1 {G : xG} {M : Mem} {a n : Nat} (h : shp (kd a) = (1, n)) : xE G M a = .inl (G.2.1 0, n, .inl (fun j => iI (M.1 a j))) := by unfold xE; rw [h]; rfl
theorem xE_2 {G : xG} {M : Mem} {a n : Nat} (h : shp (kd a) = (2, n)) : xE G M a = .inl (G.2.1 1, n, .inr (.inl (fun j => lL (M.2.1 a j)))) := by unfold xE; rw [h]; rfl
theorem xE_3 {G : xG} {M : Mem} {a n : Nat} (h : shp (kd a) = (3, n)) : xE G M a = .inl (G.2.1 2, n, .inl (fun j => iI (M.1 a j))) := by unfold xE; rw [h]; rfl
theorem xE_4 {G : xG} {M : Mem} {a n : Nat} (h : shp (kd a) = (4, n)) : xE G M a = .inl (G.2.1 3, n, .inr (.inr (.inr (.inr (fun j => (M.2.2 a j).map (G.2.2 + ·)))))) := by unfold xE; rw [h]; rfl
theorem sI_E {G : xG} {M : Mem} {a ci k t : Nat} {z : Int} (h : shp (kd a) = (0, ci)) (ht : (fks ci)[k]? = some t) (h1 : (t == 1) = false) (h2 : (t == 2) = false) : xE G (sI M a k z) a = .inr (ci, (xFs G.2.2 M a 0 (fks ci)).set k (.int (iI z))) := by
  rw [xE_0 h]
  congr 2
  refine (xFs_set (fks ci) 0 k t ht ?_ (fun j u hj hu _ => ?_)).symm
  · have e : xF G.2.2 (sI M a k z) a (0 + k) t = .int (iI ((sI M a k z).1 a (0 + k))) := by
      unfold xF
      split
      · simp at h1
      · simp at h2
      · rfl
    rw [e, Nat.zero_add, sI_at]
  · unfold xF
    rw [sI_ne (by omega)]
    rfl
theorem sL_E {G : xG} {M : Mem} {a ci k : Nat} {z : Int} (h : shp (kd a) = (0, ci)) (ht : (fks ci)[k]? = some 1) : xE G (sL M a k z) a = .inr (ci, (xFs G.2.2 M a 0 (fks ci)).set k (.long (lL z))) := by
  rw [xE_0 h]
  congr 2
  refine (xFs_set (fks ci) 0 k 1 ht ?_ (fun j u hj hu _ => ?_)).symm
  · rw [Nat.zero_add]
    show Value.long (lL ((sL M a k z).2.1 a k)) = _
    simp [sL]
  · unfold xF
    have e : (sL M a k z).2.1 a j = M.2.1 a j := by
      have hne : ¬ j = k := by omega
      simp [sL, hne]
    rw [e]
    rfl
theorem sR_E {G : xG} {M : Mem} {a ci k b : Nat} (h : shp (kd a) = (0, ci)) (ht : (fks ci)[k]? = some 2) : xE G (sR M a k (some b)) a = .inr (ci, (xFs G.2.2 M a 0 (fks ci)).set k (.ref (G.2.2 + b))) := by
  rw [xE_0 h]
  congr 2
  refine (xFs_set (fks ci) 0 k 2 ht ?_ (fun j u hj hu _ => ?_)).symm
  · rw [Nat.zero_add]
    show va_rf (((sR M a k (some b)).2.2 a k).map _) = _
    simp [sR, va_rf]
  · unfold xF
    have e : (sR M a k (some b)).2.2 a j = M.2.2 a j := by
      have hne : ¬ j = k := by omega
      simp [sR, hne]
    rw [e]
    rfl
theorem sI_ws {G : xG} {M : Mem} {a k : Nat} {z : Int} {e : va_E} (ha : a < nAll) (he : xE G (sI M a k z) a = e) : (xWs G nAll M).set a (G.2.2 + a, e) = xWs G nAll (sI M a k z) := xWs_set ha he (fun b hb => xE_o (sI_o hb) rfl rfl)
theorem sL_ws {G : xG} {M : Mem} {a k : Nat} {z : Int} {e : va_E} (ha : a < nAll) (he : xE G (sL M a k z) a = e) : (xWs G nAll M).set a (G.2.2 + a, e) = xWs G nAll (sL M a k z) := xWs_set ha he (fun b hb => xE_o rfl (sL_o hb) rfl)
theorem sR_ws {G : xG} {M : Mem} {a k : Nat} {z : Option Nat} {e : va_E} (ha : a < nAll) (he : xE G (sR M a k z) a = e) : (xWs G nAll M).set a (G.2.2 + a, e) = xWs G nAll (sR M a k z) := xWs_set ha he (fun b hb => xE_o rfl rfl (sR_o hb))
theorem xAt {G : xG} {M : Mem} {a r : Nat} {e : va_E} (hr : kd a = r) (h9 : (r == 99) = false) (he : xE G M a = e) : (xWs G nAll M)[a]? = some (G.2.2 + a, e) := by rw [xWs_at (kd_lt hr h9), he]
section AWH
variable {p : Program} {l : Launch} {e : Env} {R : Room} {s : State} {m : MethodId} {args : Array Value} {below : List Frame} {meth : Method} {c : Code} {G : xG} {nL : Nat} {Q : State → Prop} {M : Mem} {pc : Nat} {lv : List (Nat × Value)} {st : List Value} {cc : ByteArray} {own : String} {Ts : List Cond} {rt : Option FieldType}
/-- what a field's instruction needs: its class in the tables, the words -/
abbrev Fl (own : String) (Ts : List Cond) (ci k index : Nat) (Cn : String) (T : u_T) (N : Nat) : Prop := vwCl[ci]? = some (Cn, T, N) ∧ k < N ∧ (∀ w ∈ u_ws Cn T N, w ∈ Ts) ∧ Cond.fieldLink own index (T k).1 (T k).2.1 (T k).2.2.1 ∈ Ts
theorem A_getI (C : Cx p s m args meth c G cc nL own Ts rt) {a r ci k t index : Nat} {Cn : String} {T : u_T} {N : Nat} (hr : kd a = r) (h9 : (r == 99) = false) (hs : shp r = (0, ci)) (ht : (fks ci)[k]? = some t) (h1 : (t == 1) = false) (h2 : (t == 2) = false) (F : Fl own Ts ci k index Cn T N) (hd : decode cc pc = .ok (.getfield index, 3))
    (kk : AW p l e R s m args below meth c G nL Q M (pc + 3) lv (.int (iI (M.1 a k)) :: st)) : AW p l e R s m args below meth c G nL Q M pc lv (.ref a :: st) :=
  fun H locs ls hP hS hl => va_get C.1 C.2.1 C.2.2.2.2.1 F.2.2.1 C.2.2.2.1 C.2.2.2.2.2.1 hP a (xAt hr h9 (xE_0 (by rw [hr]; exact hs))) F.1 k F.2.1 (C.2.2.2.2.1 _ F.2.2.2) (fun _ h => h) (v := .int (iI (M.1 a k))) (by
    rw [xFs_at (fks ci) 0 k t ht, Nat.zero_add]
    unfold xF
    split
    · simp at h1
    · simp at h2
    · rfl) hd (kk H locs ls hP hS hl)
theorem A_getL (C : Cx p s m args meth c G cc nL own Ts rt) {a r ci k index : Nat} {Cn : String} {T : u_T} {N : Nat} (hr : kd a = r) (h9 : (r == 99) = false) (hs : shp r = (0, ci)) (ht : (fks ci)[k]? = some 1) (F : Fl own Ts ci k index Cn T N) (hd : decode cc pc = .ok (.getfield index, 3))
    (kk : AW p l e R s m args below meth c G nL Q M (pc + 3) lv (.long (lL (M.2.1 a k)) :: st)) : AW p l e R s m args below meth c G nL Q M pc lv (.ref a :: st) :=
  fun H locs ls hP hS hl => va_get C.1 C.2.1 C.2.2.2.2.1 F.2.2.1 C.2.2.2.1 C.2.2.2.2.2.1 hP a (xAt hr h9 (xE_0 (by rw [hr]; exact hs))) F.1 k F.2.1 (C.2.2.2.2.1 _ F.2.2.2) (fun _ h => h) (v := .long (lL (M.2.1 a k))) (by
    rw [xFs_at (fks ci) 0 k 1 ht, Nat.zero_add]
    rfl) hd (kk H locs ls hP hS hl)
theorem A_getR (C : Cx p s m args meth c G cc nL own Ts rt) {a r ci k index b : Nat} {Cn : String} {T : u_T} {N : Nat} (hr : kd a = r) (h9 : (r == 99) = false) (hs : shp r = (0, ci)) (ht : (fks ci)[k]? = some 2) (hb : M.2.2 a k = some b) (F : Fl own Ts ci k index Cn T N) (hd : decode cc pc = .ok (.getfield index, 3))
    (kk : AW p l e R s m args below meth c G nL Q M (pc + 3) lv (.ref b :: st)) : AW p l e R s m args below meth c G nL Q M pc lv (.ref a :: st) :=
  fun H locs ls hP hS hl => va_get C.1 C.2.1 C.2.2.2.2.1 F.2.2.1 C.2.2.2.1 C.2.2.2.2.2.1 hP a (xAt hr h9 (xE_0 (by rw [hr]; exact hs))) F.1 k F.2.1 (C.2.2.2.2.1 _ F.2.2.2) (fun _ h => h) (v := .ref (G.2.2 + b)) (by
    rw [xFs_at (fks ci) 0 k 2 ht, Nat.zero_add]
    show some (va_rf ((M.2.2 a k).map _)) = _
    rw [hb]
    rfl) hd (kk H locs ls hP hS hl)
abbrev Fp (ci k : Nat) (T : u_T) (N : Nat) (ty0 : Nat → FieldType) : Prop := (∀ k, k < N → parseFieldDescriptor (T k).2.2.1 = some (ty0 k)) ∧ (∀ a, a < N → ∀ b, b < N → a ≠ b → (T a).2.1 ≠ (T b).2.1) ∧ (T k).2.2.2 = false ∧ k < (fks ci).length
theorem A_putI (C : Cx p s m args meth c G cc nL own Ts rt) {a r ci k t index : Nat} {Cn : String} {T : u_T} {N : Nat} {ty0 : Nat → FieldType} {z : Int} (hr : kd a = r) (h9 : (r == 99) = false) (hs : shp r = (0, ci)) (ht : (fks ci)[k]? = some t) (h1 : (t == 1) = false) (h2 : (t == 2) = false) (F : Fl own Ts ci k index Cn T N) (P : Fp ci k T N ty0) (hy : ty0 k = .int ∨ (ty0 k = .boolean ∧ (z = 0 ∨ z = 1))) (hd : decode cc pc = .ok (.putfield index, 3))
    (kk : AW p l e R s m args below meth c G nL Q (sI M a k z) (pc + 3) lv st) : AW p l e R s m args below meth c G nL Q M pc lv (.int (iI z) :: .ref a :: st) := by
  intro H locs ls hP hS hl
  have hsh : shp (kd a) = (0, ci) := by rw [hr]; exact hs
  have hn : narrow (ty0 k) (.int (iI z)) = .int (iI z) := by
    rcases hy with h | ⟨h, hz⟩
    · rw [h]; rfl
    · rw [h]; exact iI_bool hz
  have hf : fits (ty0 k) (.int (iI z)) = true := by
    rcases hy with h | ⟨h, hz⟩
    · rw [h]; rfl
    · rw [h]; rcases hz with rfl | rfl <;> decide +kernel
  refine va_put C.1 C.2.1 C.2.2.2.2.1 F.2.2.1 ty0 P.1 P.2.1 C.2.2.2.1 C.2.2.2.2.2.1 hP xD hS a (xAt hr h9 (xE_0 hsh)) F.1 k F.2.1 (C.2.2.2.2.1 _ F.2.2.2) (fun _ h => h) P.2.2.1 (ty := ty0 k) (v := .int (iI z)) (P.1 k F.2.1) hn hf (by rw [xFs_len]; exact P.2.2.2) hd (fun H1 locs1 hP1 _ hS1 => ?_)
  rw [sI_ws (kd_lt hr h9) (sI_E hsh ht h1 h2)] at hP1
  exact kk H1 locs1 ls hP1 hS1 hl
theorem A_putL (C : Cx p s m args meth c G cc nL own Ts rt) {a r ci k index : Nat} {Cn : String} {T : u_T} {N : Nat} {ty0 : Nat → FieldType} {z : Int} (hr : kd a = r) (h9 : (r == 99) = false) (hs : shp r = (0, ci)) (ht : (fks ci)[k]? = some 1) (F : Fl own Ts ci k index Cn T N) (P : Fp ci k T N ty0) (hy : ty0 k = .long) (hd : decode cc pc = .ok (.putfield index, 3))
    (kk : AW p l e R s m args below meth c G nL Q (sL M a k z) (pc + 3) lv st) : AW p l e R s m args below meth c G nL Q M pc lv (.long (lL z) :: .ref a :: st) := by
  intro H locs ls hP hS hl
  have hsh : shp (kd a) = (0, ci) := by rw [hr]; exact hs
  refine va_put C.1 C.2.1 C.2.2.2.2.1 F.2.2.1 ty0 P.1 P.2.1 C.2.2.2.1 C.2.2.2.2.2.1 hP xD hS a (xAt hr h9 (xE_0 hsh)) F.1 k F.2.1 (C.2.2.2.2.1 _ F.2.2.2) (fun _ h => h) P.2.2.1 (ty := ty0 k) (v := .long (lL z)) (P.1 k F.2.1) (by rw [hy]; rfl) (by rw [hy]; rfl) (by rw [xFs_len]; exact P.2.2.2) hd (fun H1 locs1 hP1 _ hS1 => ?_)
  rw [sL_ws (kd_lt hr h9) (sL_E hsh ht)] at hP1
  exact kk H1 locs1 ls hP1 hS1 hl
theorem A_putR (C : Cx p s m args meth c G cc nL own Ts rt) {a r ci k index b : Nat} {Cn : String} {T : u_T} {N : Nat} {ty0 : Nat → FieldType} {nm : String} (hr : kd a = r) (h9 : (r == 99) = false) (hs : shp r = (0, ci)) (ht : (fks ci)[k]? = some 2) (F : Fl own Ts ci k index Cn T N) (P : Fp ci k T N ty0) (hy : ty0 k = .object nm) (hd : decode cc pc = .ok (.putfield index, 3))
    (kk : AW p l e R s m args below meth c G nL Q (sR M a k (some b)) (pc + 3) lv st) : AW p l e R s m args below meth c G nL Q M pc lv (.ref b :: .ref a :: st) := by
  intro H locs ls hP hS hl
  have hsh : shp (kd a) = (0, ci) := by rw [hr]; exact hs
  refine va_put C.1 C.2.1 C.2.2.2.2.1 F.2.2.1 ty0 P.1 P.2.1 C.2.2.2.1 C.2.2.2.2.2.1 hP xD hS a (xAt hr h9 (xE_0 hsh)) F.1 k F.2.1 (C.2.2.2.2.1 _ F.2.2.2) (fun _ h => h) P.2.2.1 (ty := ty0 k) (v := .ref (G.2.2 + b)) (P.1 k F.2.1) (by rw [hy]; rfl) (by rw [hy]; rfl) (by rw [xFs_len]; exact P.2.2.2) hd (fun H1 locs1 hP1 _ hS1 => ?_)
  rw [sR_ws (kd_lt hr h9) (sR_E hsh ht)] at hP1
  exact kk H1 locs1 ls hP1 hS1 hl
theorem A_iald (C : Cx p s m args meth c G cc nL own Ts rt) {a r n : Nat} {z : Int} (hr : kd a = r) (h9 : (r == 99) = false) (hs : shp r = (1, n)) (hn : n < 2 ^ 31) (h0 : 0 ≤ z) (h1 : z < n) (hd : decode cc pc = .ok (.iaload, 1))
    (kk : AW p l e R s m args below meth c G nL Q M (pc + 1) lv (.int (iI (M.1 a z.toNat)) :: st)) : AW p l e R s m args below meth c G nL Q M pc lv (.int (iI z) :: .ref a :: st) :=
  fun H locs ls hP hS hl => va_iald C.1 C.2.1 C.2.2.2.2.2.1 hP a 0 (xAt hr h9 (xE_1 (by rw [hr]; exact hs))) rfl (iI_in h0 h1 hn) hd (by
    rw [iI_cl h0 (by omega)]
    exact kk H locs ls hP hS hl)
theorem A_zald (C : Cx p s m args meth c G cc nL own Ts rt) {a r n : Nat} {z : Int} (hr : kd a = r) (h9 : (r == 99) = false) (hs : shp r = (3, n)) (hn : n < 2 ^ 31) (h0 : 0 ≤ z) (h1 : z < n) (hd : decode cc pc = .ok (.baload, 1))
    (kk : AW p l e R s m args below meth c G nL Q M (pc + 1) lv (.int (iI (M.1 a z.toNat)) :: st)) : AW p l e R s m args below meth c G nL Q M pc lv (.int (iI z) :: .ref a :: st) :=
  fun H locs ls hP hS hl => va_zald C.1 C.2.1 C.2.2.2.2.2.1 hP a 2 (xAt hr h9 (xE_3 (by rw [hr]; exact hs))) rfl (iI_in h0 h1 hn) hd (by
    rw [iI_cl h0 (by omega)]
    exact kk H locs ls hP hS hl)
theorem A_lald (C : Cx p s m args meth c G cc nL own Ts rt) {a r n : Nat} {z : Int} (hr : kd a = r) (h9 : (r == 99) = false) (hs : shp r = (2, n)) (hn : n < 2 ^ 31) (h0 : 0 ≤ z) (h1 : z < n) (hd : decode cc pc = .ok (.laload, 1))
    (kk : AW p l e R s m args below meth c G nL Q M (pc + 1) lv (.long (lL (M.2.1 a z.toNat)) :: st)) : AW p l e R s m args below meth c G nL Q M pc lv (.int (iI z) :: .ref a :: st) :=
  fun H locs ls hP hS hl => va_lald C.1 C.2.1 C.2.2.2.2.2.1 hP a 1 (xAt hr h9 (xE_2 (by rw [hr]; exact hs))) rfl (iI_in h0 h1 hn) hd (by
    rw [iI_cl h0 (by omega)]
    exact kk H locs ls hP hS hl)
theorem A_aald (C : Cx p s m args meth c G cc nL own Ts rt) {a r n b : Nat} {z : Int} (hr : kd a = r) (h9 : (r == 99) = false) (hs : shp r = (4, n)) (hn : n < 2 ^ 31) (h0 : 0 ≤ z) (h1 : z < n) (hb : M.2.2 a z.toNat = some b) (hd : decode cc pc = .ok (.aaload, 1))
    (kk : AW p l e R s m args below meth c G nL Q M (pc + 1) lv (.ref b :: st)) : AW p l e R s m args below meth c G nL Q M pc lv (.int (iI z) :: .ref a :: st) :=
  fun H locs ls hP hS hl => va_aldq C.1 C.2.1 C.2.2.2.2.2.1 hP a 3 (xAt hr h9 (xE_4 (by rw [hr]; exact hs))) rfl (iI_in h0 h1 hn) hd (by
    rw [iI_cl h0 (by omega), hb]
    exact kk H locs ls hP hS hl)
theorem A_iast (C : Cx p s m args meth c G cc nL own Ts rt) {a r n : Nat} {z x : Int} (hr : kd a = r) (h9 : (r == 99) = false) (hs : shp r = (1, n)) (hn : n < 2 ^ 31) (h0 : 0 ≤ z) (h1 : z < n) (hd : decode cc pc = .ok (.iastore, 1))
    (kk : AW p l e R s m args below meth c G nL Q (sI M a z.toNat x) (pc + 1) lv st) : AW p l e R s m args below meth c G nL Q M pc lv (.int (iI x) :: .int (iI z) :: .ref a :: st) := by
  intro H locs ls hP hS hl
  have hsh : shp (kd a) = (1, n) := by rw [hr]; exact hs
  refine va_iast C.1 C.2.1 C.2.2.2.2.2.1 hP xD hS a 0 (xAt hr h9 (xE_1 hsh)) rfl (iI_in h0 h1 hn) hd (fun H1 locs1 hP1 _ hS1 => ?_)
  rw [iI_cl h0 (by omega), sI_ws (M := M) (k := z.toNat) (z := x) (kd_lt hr h9) (by
    rw [xE_1 hsh]
    congr 4
    funext j
    by_cases hj : j = z.toNat
    · subst hj; simp [sI, upd]
    · simp [sI, upd, hj])] at hP1
  exact kk H1 locs1 ls hP1 hS1 hl
theorem A_last (C : Cx p s m args meth c G cc nL own Ts rt) {a r n : Nat} {z x : Int} (hr : kd a = r) (h9 : (r == 99) = false) (hs : shp r = (2, n)) (hn : n < 2 ^ 31) (h0 : 0 ≤ z) (h1 : z < n) (hd : decode cc pc = .ok (.lastore, 1))
    (kk : AW p l e R s m args below meth c G nL Q (sL M a z.toNat x) (pc + 1) lv st) : AW p l e R s m args below meth c G nL Q M pc lv (.long (lL x) :: .int (iI z) :: .ref a :: st) := by
  intro H locs ls hP hS hl
  have hsh : shp (kd a) = (2, n) := by rw [hr]; exact hs
  refine va_last C.1 C.2.1 C.2.2.2.2.2.1 hP xD hS a 1 (xAt hr h9 (xE_2 hsh)) rfl (iI_in h0 h1 hn) hd (fun H1 locs1 hP1 _ hS1 => ?_)
  rw [iI_cl h0 (by omega), sL_ws (M := M) (k := z.toNat) (z := x) (kd_lt hr h9) (by
    rw [xE_2 hsh]
    congr 5
    funext j
    by_cases hj : j = z.toNat
    · subst hj; simp [sL, vp_updL]
    · simp [sL, vp_updL, hj])] at hP1
  exact kk H1 locs1 ls hP1 hS1 hl
theorem A_zast (C : Cx p s m args meth c G cc nL own Ts rt) {a r n : Nat} {z x : Int} (hr : kd a = r) (h9 : (r == 99) = false) (hs : shp r = (3, n)) (hn : n < 2 ^ 31) (h0 : 0 ≤ z) (h1 : z < n) (hx : x = 0 ∨ x = 1) (hd : decode cc pc = .ok (.bastore, 1))
    (kk : AW p l e R s m args below meth c G nL Q (sI M a z.toNat x) (pc + 1) lv st) : AW p l e R s m args below meth c G nL Q M pc lv (.int (iI x) :: .int (iI z) :: .ref a :: st) := by
  intro H locs ls hP hS hl
  have hsh : shp (kd a) = (3, n) := by rw [hr]; exact hs
  have hnar : vp_nar .boolean (iI x) = iI x := by rcases hx with rfl | rfl <;> decide +kernel
  refine va_zast C.1 C.2.1 C.2.2.2.2.2.1 hP xD hS a 2 (xAt hr h9 (xE_3 hsh)) rfl (iI_in h0 h1 hn) hd (fun H1 locs1 hP1 _ hS1 => ?_)
  rw [hnar, iI_cl h0 (by omega), sI_ws (M := M) (k := z.toNat) (z := x) (kd_lt hr h9) (by
    rw [xE_3 hsh]
    congr 4
    funext j
    by_cases hj : j = z.toNat
    · subst hj; simp [sI, upd]
    · simp [sI, upd, hj])] at hP1
  exact kk H1 locs1 ls hP1 hS1 hl
theorem i2l_eq {z : Int} (h : r32 z) : (iI z).toInt64 = lL z := by
  rw [← Int64.toInt_inj, Int32.toInt_toInt64, iI_toInt h, lL_toInt ⟨by omega, by omega⟩]
theorem A_i2l (C : Cx p s m args meth c G cc nL own Ts rt) {z : Int} (h : r32 z) (hd : decode cc pc = .ok (.i2l, 1)) (k : AW p l e R s m args below meth c G nL Q M (pc + 1) lv (.long (lL z) :: st)) : AW p l e R s m args below meth c G nL Q M pc lv (.int (iI z) :: st) :=
  fun H locs ls hP hS hl => lv_i2l C.1 C.2.1 hd (i2l_eq h) (k H locs ls hP hS hl)
theorem A_lcmp (C : Cx p s m args meth c G cc nL own Ts rt) {a b : Int} (ha : r64 a) (hb : r64 b) (hd : decode cc pc = .ok (.lcmp, 1)) (k : ∀ z : Int, (z = 1 ∧ b < a) ∨ (z = 0 ∧ a = b) ∨ (z = -1 ∧ a < b) → AW p l e R s m args below meth c G nL Q M (pc + 1) lv (.int (iI z) :: st)) : AW p l e R s m args below meth c G nL Q M pc lv (.long (lL b) :: .long (lL a) :: st) :=
  fun H locs ls hP hS hl => W.lcmp C.1 C.2.1 hd (by
    unfold lg_cmp
    by_cases h1 : b < a
    · rw [if_pos (show lL a > lL b from (lL_lt hb ha).mpr h1)]
      exact k 1 (Or.inl ⟨rfl, h1⟩) H locs ls hP hS hl
    · rw [if_neg (fun q => h1 ((lL_lt hb ha).mp q))]
      by_cases h2 : a = b
      · rw [if_pos ((lL_eq ha hb).mpr h2)]
        exact k 0 (Or.inr (Or.inl ⟨rfl, h2⟩)) H locs ls hP hS hl
      · rw [if_neg (fun q => h2 ((lL_eq ha hb).mp q))]
        exact k (-1) (Or.inr (Or.inr ⟨rfl, by omega⟩)) H locs ls hP hS hl)
theorem lL_ne0 {b : Int} (hb : r64 b) (h : ¬ b = 0) : ¬ lL b = 0 := fun q => h ((lL_eq hb (by decide)).mp (q.trans (by decide +kernel)))
/-- division and remainder, the answer being some long -/
theorem A_ldivH (C : Cx p s m args meth c G cc nL own Ts rt) {a b : Int} (hb : r64 b) (h : ¬ b = 0) (hd : decode cc pc = .ok (.ldiv, 1)) (k : ∀ z : Int, r64 z → AW p l e R s m args below meth c G nL Q M (pc + 1) lv (.long (lL z) :: st)) : AW p l e R s m args below meth c G nL Q M pc lv (.long (lL b) :: .long (lL a) :: st) :=
  fun H locs ls hP hS hl => lv_ldiv C.1 C.2.1 hd (lL_ne0 hb h) (by
    rw [lL_of (lL a / lL b)]
    exact k _ (l_r64 _) H locs ls hP hS hl)
theorem A_lremH (C : Cx p s m args meth c G cc nL own Ts rt) {a b : Int} (hb : r64 b) (h : ¬ b = 0) (hd : decode cc pc = .ok (.lrem, 1)) (k : ∀ z : Int, r64 z → AW p l e R s m args below meth c G nL Q M (pc + 1) lv (.long (lL z) :: st)) : AW p l e R s m args below meth c G nL Q M pc lv (.long (lL b) :: .long (lL a) :: st) :=
  fun H locs ls hP hS hl => lv_lrem C.1 C.2.1 hd (lL_ne0 hb h) (by
    rw [lL_of (lL a - lL a / lL b * lL b)]
    exact k _ (l_r64 _) H locs ls hP hS hl)
theorem A_iandH (C : Cx p s m args meth c G cc nL own Ts rt) {a b : Int} (hd : decode cc pc = .ok (.iand, 1)) (k : ∀ z : Int, r32 z → AW p l e R s m args below meth c G nL Q M (pc + 1) lv (.int (iI z) :: st)) : AW p l e R s m args below meth c G nL Q M pc lv (.int (iI b) :: .int (iI a) :: st) :=
  fun H locs ls hP hS hl => lv_iand C.1 C.2.1 hd (by
    rw [iI_of (iI a &&& iI b)]
    exact k _ (i_r32 _) H locs ls hP hS hl)
end AWH
