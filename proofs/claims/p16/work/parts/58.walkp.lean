/-! the walk's invariants at its cuts, and the ways between them -/
theorem sL_at {M : Mem} {a k : Nat} {z : Int} : (sL M a k z).2.1 a k = z := by simp [sL]
theorem sL_ne {M : Mem} {a k b j : Nat} {z : Int} (h : ¬ (b = a ∧ j = k)) : (sL M a k z).2.1 b j = M.2.1 b j := by simp only [sL, if_neg h]
theorem sL_nb {M : Mem} {a k b j : Nat} {z : Int} (h : (b == a) = false) : (sL M a k z).2.1 b j = M.2.1 b j := sL_ne (fun q => by rw [q.1, beq_self_eq_true] at h; cases h)
theorem sL_nk {M : Mem} {a k b j : Nat} {z : Int} (h : (j == k) = false) : (sL M a k z).2.1 b j = M.2.1 b j := sL_ne (fun q => by rw [q.2, beq_self_eq_true] at h; cases h)
def Sm (M0 M : Mem) : Prop := M.1 = M0.1 ∧ M.2.2 = M0.2.2 ∧ ∀ k, 26 ≤ k → M.2.1 110 k = M0.2.1 110 k
theorem Sm.rf {M : Mem} : Sm M M := ⟨rfl, rfl, fun _ _ => rfl⟩
theorem Sm.tr {M M1 M2 : Mem} (h : Sm M M1) (h1 : Sm M1 M2) : Sm M M2 := ⟨h1.1.trans h.1, h1.2.1.trans h.2.1, fun k hk => (h1.2.2 k hk).trans (h.2.2 k hk)⟩
theorem Sm.wa {M0 M : Mem} (h : Sm M0 M) {a k : Nat} {z : Int} (ha : (110 == a) = false) : Sm M0 (sL M a k z) := ⟨h.1, h.2.1, fun j hj => by rw [sL_nb ha]; exact h.2.2 j hj⟩
theorem Sm.wb {M0 M : Mem} (h : Sm M0 M) {k : Nat} {z : Int} (hk : k < 26) : Sm M0 (sL M 110 k z) := ⟨h.1, h.2.1, fun j hj => by rw [sL_ne (by omega)]; exact h.2.2 j hj⟩
theorem ix_of {c y v : Int} (h0 : 0 ≤ c) (e : v = 25 * c + y) : v.toNat = ix c.toNat y := by unfold ix; rw [Int.toNat_of_nonneg h0, e]
theorem ix_of2 {c y v : Int} (h0 : 0 ≤ c) (e : v = 25 * c + 25 + y) : v.toNat = ix (c.toNat + 1) y := by unfold ix; omega
theorem top_of {M0 M : Mem} {c b t : Int} (h : Sm M0 M) (eb : b = M.1 110 11) (et : t = M.1 116 (b + c).toNat) : t = fTop M0.1 c := by
  unfold fTop fB
  rw [← h.1, ← eb]
  exact et
theorem top_bd {M0 M : Mem} {c : Int} (W : WF M) (h : Sm M0 M) : 0 ≤ fTop M0.1 c ∧ fTop M0.1 c ≤ 24 := by
  unfold fTop
  rw [← h.1]
  exact W.i kd_116 _
theorem can_lt {M : Mem} {c y z : Int} (W : WF M) (h : fCan M.1 c y z) : y < 24 ∨ z < 24 := by
  have h1 := h.2.2.1
  have h2 : (0 : Int) ≤ fTop M.1 c ∧ fTop M.1 c ≤ 24 := W.i kd_116 _
  unfold lowF at h1
  split at h1 <;> omega
def K15 (M0 M : Mem) (k : Int) : Prop := Sm M0 M ∧ (∀ i : Nat, (i : Int) < k → M.2.1 124 i = far) ∧ M.2.1 110 23 = far
theorem K15_0 {M0 : Mem} : K15 M0 (sL (sL M0 110 23 1152921504606846976) 110 24 0) 0 := by
  refine ⟨(Sm.rf.wb (by decide)).wb (by decide), fun i h => by omega, ?_⟩
  rw [sL_nk rfl]
  exact sL_at
theorem K15_s {M0 M : Mem} {k : Int} (h : K15 M0 M k) (h0 : 0 ≤ k) : K15 M0 (sL M 124 k.toNat 1152921504606846976) (k + 1) := by
  refine ⟨h.1.wa rfl, fun i hi => ?_, ?_⟩
  · by_cases e : i = k.toNat
    · subst e; exact sL_at
    · rw [sL_ne (fun q => e q.2)]; exact h.2.1 i (by omega)
  · rw [sL_nb rfl]; exact h.2.2
def K49 (p q o t : Int) (M0 M : Mem) (c : Int) : Prop := Sm M0 M ∧ (c < M0.1 110 0 → IY p q M0.1 o t (M0.1 110 0).toNat M.2.1 c.toNat 0) ∧ (M0.1 110 0 ≤ c → Bst p q (Lns M0.1 o t (M0.1 110 0).toNat) (M.2.1 110 23) (M.2.1 110 24) (M.2.1 110 25))
theorem K49_f {p q o t : Int} {M0 M : Mem} {k : Int} (h : K15 M0 M k) (hk : 25 * M0.1 110 0 + 25 ≤ k) (hw : 0 ≤ M0.1 110 0) : K49 p q o t M0 M 0 := by
  refine ⟨h.1, fun hc => IY_first (by omega) (fun n' z' a b c => h.2.1 _ (by unfold ix; omega)) h.2.2, fun hc => Or.inl ⟨h.2.2, ?_⟩⟩
  rintro H D ⟨n, hn, -⟩
  omega
def K78 (p q o t : Int) (M0 M : Mem) (c y : Int) : Prop := Sm M0 M ∧ IY p q M0.1 o t (M0.1 110 0).toNat M.2.1 c.toNat y
theorem K78_f {p q o t : Int} {M0 M : Mem} {c : Int} (h : K49 p q o t M0 M c) (hc : c < M0.1 110 0) : K78 p q o t M0 M c 0 := ⟨h.1, h.2.1 hc⟩
theorem K49_n {p q o t : Int} {M0 M : Mem} {c y : Int} (h : K78 p q o t M0 M c y) (hy : 25 ≤ y) (hy2 : y ≤ 25) (h0 : 0 ≤ c) (hc : c < M0.1 110 0) : K49 p q o t M0 M (c + 1) := by
  have e : y = 25 := by omega
  subst e
  refine ⟨h.1, fun a => ?_, fun a => ?_⟩
  · have := IY_next h.2 (by omega)
    rw [show (c + 1).toNat = c.toNat + 1 by omega]
    exact this
  · exact IY_end h.2 (by omega)
def K163 (p q o t : Int) (M0 M : Mem) (c y : Int) : Prop := Sm M0 M ∧ IS p q M0.1 o t (M0.1 110 0).toNat M.2.1 c.toNat y
theorem L163n {p q o t : Int} {M0 M : Mem} {c y : Int} (h : K78 p q o t M0 M c y) (h0 : 0 ≤ c) (hy : y ≤ 24) (hn : ¬ ((o < 0 ∨ o = c) ∧ y = fTop M0.1 c)) : K163 p q o t M0 M c y :=
  ⟨h.1, IY_same h.2 hy (by rw [Int.toNat_of_nonneg h0]; exact hn)⟩
theorem L163b {p q o t : Int} {M0 M : Mem} {c y : Int} {i : Nat} (h : K78 p q o t M0 M c y) (h0 : 0 ≤ c) (hy0 : 0 ≤ y) (hy : y ≤ 24) (hn : (o < 0 ∨ o = c) ∧ y = fTop M0.1 c) (hi : i = ix c.toNat y) (hb : ¬ (0 < M.2.1 124 i ∨ (0 = M.2.1 124 i ∧ M.2.1 125 i < 0))) : K163 p q o t M0 M c y := by
  subst hi
  exact ⟨h.1, IY_begin (L' := M.2.1) h.2 hy0 hy (by rw [Int.toNat_of_nonneg h0]; exact hn) (fun x => absurd x hb) (fun _ => ⟨rfl, rfl, rfl⟩) (fun _ _ => ⟨rfl, rfl, rfl⟩) rfl⟩
theorem w3_same {M : Mem} {i j : Nat} {x y z : Int} (h : j ≠ i) : (sL (sL (sL M 124 i x) 125 i y) 126 i z).2.1 124 j = M.2.1 124 j ∧ (sL (sL (sL M 124 i x) 125 i y) 126 i z).2.1 125 j = M.2.1 125 j ∧ (sL (sL (sL M 124 i x) 125 i y) 126 i z).2.1 126 j = M.2.1 126 j := by
  refine ⟨?_, ?_, ?_⟩
  · rw [sL_nb rfl, sL_nb rfl, sL_ne (fun q => h q.2)]
  · rw [sL_nb rfl, sL_ne (fun q => h q.2), sL_nb rfl]
  · rw [sL_ne (fun q => h q.2), sL_nb rfl, sL_nb rfl]
theorem w3_new {M : Mem} {i : Nat} {x y z : Int} : (sL (sL (sL M 124 i x) 125 i y) 126 i z).2.1 124 i = x ∧ (sL (sL (sL M 124 i x) 125 i y) 126 i z).2.1 125 i = y ∧ (sL (sL (sL M 124 i x) 125 i y) 126 i z).2.1 126 i = z := by
  refine ⟨?_, ?_, sL_at⟩
  · rw [sL_nb rfl, sL_nb rfl, sL_at]
  · rw [sL_nb rfl, sL_at]
theorem w3_110 {M : Mem} {i k : Nat} {x y z : Int} : (sL (sL (sL M 124 i x) 125 i y) 126 i z).2.1 110 k = M.2.1 110 k := by rw [sL_nb rfl, sL_nb rfl, sL_nb rfl]
theorem L163c {p q o t : Int} {M0 M M' : Mem} {c y : Int} {i : Nat} (h : K78 p q o t M0 M c y) (h0 : 0 ≤ c) (hy0 : 0 ≤ y) (hy : y ≤ 24) (hn : (o < 0 ∨ o = c) ∧ y = fTop M0.1 c) (hi : i = ix c.toNat y) (hb : 0 < M.2.1 124 i ∨ (0 = M.2.1 124 i ∧ M.2.1 125 i < 0)) (eM : M' = sL (sL (sL M 124 i 0) 125 i 0) 126 i 0) : K163 p q o t M0 M' c y := by
  subst hi eM
  exact ⟨((h.1.wa rfl).wa rfl).wa rfl, IY_begin h.2 hy0 hy (by rw [Int.toNat_of_nonneg h0]; exact hn) (fun _ => w3_new) (fun x => absurd hb x) (fun _ a => w3_same a) (by funext k; exact w3_110)⟩
def K196 (p q o t : Int) (M0 M : Mem) (c y z : Int) : Prop := Sm M0 M ∧ IZ p q M0.1 o t (M0.1 110 0).toNat M.2.1 c.toNat y z ∧ M.2.1 124 (ix c.toNat y) < far
theorem K78_n {p q o t : Int} {M0 M : Mem} {c y : Int} {i : Nat} (h : K163 p q o t M0 M c y) (hi : i = ix c.toNat y) (hf : M.2.1 124 i = 1152921504606846976) : K78 p q o t M0 M c (y + 1) := by
  subst hi
  exact ⟨h.1, IS_none h.2 hf⟩
theorem K196_f {p q o t : Int} {M0 M : Mem} {c y z : Int} {i : Nat} (W : WF M) (h : K163 p q o t M0 M c y) (hi : i = ix c.toNat y) (hf : ¬ M.2.1 124 i = 1152921504606846976) (hz : z = 0 ∨ z = y - 4) (hz0 : 0 ≤ z) : K196 p q o t M0 M c y z := by
  subst hi
  refine ⟨h.1, IS_in h.2 hz hz0 (top_bd W h.1).1, ?_⟩
  rcases h.2.1 with ⟨h1, -⟩ | ⟨h1, -⟩
  · exact absurd h1 hf
  · exact h1
theorem K78_o {p q o t : Int} {M0 M : Mem} {c y z : Int} (W : WF M) (h : K196 p q o t M0 M c y z) (hz : y + 4 < z ∨ 25 ≤ z) : K78 p q o t M0 M c (y + 1) := ⟨h.1, IZ_out h.2.1 hz (top_bd W h.1).2⟩
theorem K196_n {p q o t : Int} {M0 M : Mem} {c y z : Int} (h : K196 p q o t M0 M c y z) (h0 : 0 ≤ c) (hz0 : 0 ≤ z) (hc : ¬ fCan M.1 c y z) : K196 p q o t M0 M c y (z + 1) := by
  refine ⟨h.1, IZ_no h.2.1 hz0 ?_, h.2.2⟩
  rw [Int.toNat_of_nonneg h0, ← h.1.1]
  exact hc
theorem Rch_lim {p q o : Int} {M0 M : Mem} {c y s d h : Int} (W : WF M) (hS : Sm M0 M) (hB : Bst p q (Rch M0.1 o c.toNat y) s d h) (hs : s < far) (hp : 0 ≤ p ∧ p ≤ 7160292) (hq : 0 ≤ q ∧ q ≤ 4950720) (h0 : 0 ≤ c) (h1 : c ≤ 11) (hy0 : 0 ≤ y) (hy : y ≤ 24) :
    (-100000000000000 ≤ s ∧ s ≤ 100000000000000) ∧ (-4538160 ≤ d ∧ d ≤ 4538160) ∧ (0 ≤ h ∧ h ≤ 6563601) := by
  rcases hB with ⟨e, -⟩ | ⟨-, hr, e, -⟩
  · omega
  · have hb := Rch_bd (w := 12) (by rw [← hS.1]; exact Bnd_of W) c.toNat y h d (by omega) hy0 hy hr
    have hh : 0 ≤ h ∧ h ≤ 6563601 := by omega
    have hd : -4538160 ≤ d ∧ d ≤ 4538160 := by omega
    have q1 := mul_bd (a := q) (b := h) (A := 4950720) (B := 6563601) hq.1 hq.2 hh.1 hh.2
    have q2 := mul_abs (a := p) (b := d) (A := 7160292) (B := 4538160) hp.1 hp.2 hd.1 hd.2 (by decide)
    exact ⟨by omega, hd, hh⟩
theorem K196_bd {p q o t : Int} {M0 M : Mem} {c y z : Int} {i : Nat} (W : WF M) (h : K196 p q o t M0 M c y z) (hp : 0 ≤ p ∧ p ≤ 7160292) (hq : 0 ≤ q ∧ q ≤ 4950720) (h0 : 0 ≤ c) (h1 : c ≤ 11) (hy0 : 0 ≤ y) (hy : y ≤ 24) (hi : i = ix c.toNat y) :
    (-100000000000000 ≤ M.2.1 124 i ∧ M.2.1 124 i ≤ 100000000000000) ∧ (-4538160 ≤ M.2.1 125 i ∧ M.2.1 125 i ≤ 4538160) ∧ (0 ≤ M.2.1 126 i ∧ M.2.1 126 i ≤ 6563601) := by
  subst hi
  exact Rch_lim W h.1 h.2.1.1 h.2.2 hp hq h0 h1 hy0 hy
def K388c (F : Nat → Nat → Int) (t : Int) (L : Nat → Nat → Int) (c z : Int) (i : Nat) (dd s : Int) : Prop := (fTop F c = z ∧ (t < 0 ∨ t = c + 1)) ∧ (s < L 110 23 ∨ (s = L 110 23 ∧ L 110 24 < L 125 i + dd))
def K388 (p q o t : Int) (M0 M : Mem) (c y z : Int) (i : Nat) (hh dd s : Int) : Prop := Sm M0 M ∧ ∃ L : Nat → Nat → Int, IZ p q M0.1 o t (M0.1 110 0).toNat L c.toNat y z ∧ L 124 i < far ∧ fCan M0.1 c y z ∧ hh = fHolds M0.1 c y z ∧ dd = fDrives M0.1 c y z ∧ s = L 124 i + q * hh - p * dd ∧
  (∀ j, M.2.1 124 j = L 124 j ∧ M.2.1 125 j = L 125 j ∧ M.2.1 126 j = L 126 j) ∧ (K388c M0.1 t L c z i dd s → M.2.1 110 23 = s ∧ M.2.1 110 24 = L 125 i + dd ∧ M.2.1 110 25 = L 126 i + hh) ∧ (¬ K388c M0.1 t L c z i dd s → M.2.1 110 23 = L 110 23 ∧ M.2.1 110 24 = L 110 24 ∧ M.2.1 110 25 = L 110 25)
theorem K388_no {p q o t : Int} {M0 M : Mem} {c y z : Int} {i : Nat} {hh dd s : Int} (h : K196 p q o t M0 M c y z) (hi : i = ix c.toNat y) (hc : fCan M.1 c y z) (eh : hh = fHolds M.1 c y z) (ed : dd = fDrives M.1 c y z) (es : s = M.2.1 124 i + q * hh - p * dd)
    (hn : ¬ ((fTop M0.1 c = z ∧ (t < 0 ∨ t = c + 1)) ∧ (s < M.2.1 110 23 ∨ (s = M.2.1 110 23 ∧ M.2.1 110 24 < M.2.1 125 i + dd)))) : K388 p q o t M0 M c y z i hh dd s := by
  rw [h.1.1] at hc eh ed
  exact ⟨h.1, M.2.1, h.2.1, by rw [hi]; exact h.2.2, hc, eh, ed, es, fun _ => ⟨rfl, rfl, rfl⟩, fun x => absurd x hn, fun _ => ⟨rfl, rfl, rfl⟩⟩
theorem K388_yes {p q o t : Int} {M0 M M' : Mem} {c y z : Int} {i : Nat} {hh dd s d1 h1 : Int} (h : K196 p q o t M0 M c y z) (hi : i = ix c.toNat y) (hc : fCan M.1 c y z) (eh : hh = fHolds M.1 c y z) (ed : dd = fDrives M.1 c y z) (es : s = M.2.1 124 i + q * hh - p * dd)
    (hn : (fTop M0.1 c = z ∧ (t < 0 ∨ t = c + 1)) ∧ (s < M.2.1 110 23 ∨ (s = M.2.1 110 23 ∧ M.2.1 110 24 < M.2.1 125 i + dd))) (e1 : d1 = M.2.1 125 i + dd) (e2 : h1 = M.2.1 126 i + hh) (eM : M' = sL (sL (sL M 110 23 s) 110 24 d1) 110 25 h1) : K388 p q o t M0 M' c y z i hh dd s := by
  rw [h.1.1] at hc eh ed
  subst eM
  refine ⟨((h.1.wb (by decide)).wb (by decide)).wb (by decide), M.2.1, h.2.1, by rw [hi]; exact h.2.2, hc, eh, ed, es, fun j => ⟨?_, ?_, ?_⟩, fun _ => ⟨?_, ?_, ?_⟩, fun x => absurd hn x⟩
  · rw [sL_nb rfl, sL_nb rfl, sL_nb rfl]
  · rw [sL_nb rfl, sL_nb rfl, sL_nb rfl]
  · rw [sL_nb rfl, sL_nb rfl, sL_nb rfl]
  · rw [sL_nk rfl, sL_nk rfl, sL_at]
  · rw [sL_nk rfl, sL_at, e1]
  · rw [sL_at, e2]
theorem K388_bd {p q o t : Int} {M0 M : Mem} {c y z : Int} {i : Nat} {hh dd s : Int} (W : WF M) (h : K388 p q o t M0 M c y z i hh dd s) (hp : 0 ≤ p ∧ p ≤ 7160292) (hq : 0 ≤ q ∧ q ≤ 4950720) (h0 : 0 ≤ c) (h1 : c ≤ 11) (hy0 : 0 ≤ y) (hy : y ≤ 24) (hi : i = ix c.toNat y) :
    (-100000000000000 ≤ M.2.1 124 i ∧ M.2.1 124 i ≤ 100000000000000) ∧ (-4538160 ≤ M.2.1 125 i ∧ M.2.1 125 i ≤ 4538160) ∧ (0 ≤ M.2.1 126 i ∧ M.2.1 126 i ≤ 6563601) := by
  obtain ⟨hS, L, hZ, hf, -, -, -, -, he, -, -⟩ := h
  obtain ⟨e1, e2, e3⟩ := he i
  rw [e1, e2, e3]
  subst hi
  exact Rch_lim W hS hZ.1 hf hp hq h0 h1 hy0 hy
theorem K196_s {p q o t : Int} {M0 M : Mem} {c y z : Int} {i j : Nat} {hh dd s : Int} (h : K388 p q o t M0 M c y z i hh dd s) (h0 : 0 ≤ c) (hy0 : 0 ≤ y) (hy : y ≤ 24) (hz0 : 0 ≤ z) (hz : z ≤ 24) (hi : i = ix c.toNat y) (hj : j = ix (c.toNat + 1) z) (hs : s < 1152921504606846976)
    (hn : ¬ (s < M.2.1 124 j ∨ (s = M.2.1 124 j ∧ M.2.1 125 j < M.2.1 125 i + dd))) : K196 p q o t M0 M c y (z + 1) := by
  obtain ⟨hS, L, hZ, hf, hc, eh, ed, es, he, hb1, hb2⟩ := h
  subst hi hj
  have hc' : ((c.toNat : Nat) : Int) = c := Int.toNat_of_nonneg h0
  rw [(he _).1, (he (ix (c.toNat + 1) z)).2.1, (he (ix c.toNat y)).2.1] at hn
  refine ⟨hS, IZ_yes hZ hy0 hy hz0 hz (by rw [hc']; exact hc) hf (by rw [hc']; exact eh) (by rw [hc']; exact ed) es hs (fun x => hb1 (by rw [hc'] at x; exact x)) (fun x => hb2 (fun x2 => x (by rw [hc']; exact x2))) (fun x => absurd x hn) (fun _ => he _) (fun j _ => he j), ?_⟩
  rw [(he _).1]
  exact hf
theorem K196_y {p q o t : Int} {M0 M M' : Mem} {c y z : Int} {i j : Nat} {hh dd s d1 h1 : Int} (h : K388 p q o t M0 M c y z i hh dd s) (h0 : 0 ≤ c) (hy0 : 0 ≤ y) (hy : y ≤ 24) (hz0 : 0 ≤ z) (hz : z ≤ 24) (hi : i = ix c.toNat y) (hj : j = ix (c.toNat + 1) z) (hs : s < 1152921504606846976)
    (hn : s < M.2.1 124 j ∨ (s = M.2.1 124 j ∧ M.2.1 125 j < M.2.1 125 i + dd)) (e1 : d1 = M.2.1 125 i + dd) (e2 : h1 = M.2.1 126 i + hh) (eM : M' = sL (sL (sL M 124 j s) 125 j d1) 126 j h1) : K196 p q o t M0 M' c y (z + 1) := by
  obtain ⟨hS, L, hZ, hf, hc, eh, ed, es, he, hb1, hb2⟩ := h
  have hne : ix c.toNat y ≠ ix (c.toNat + 1) z := by unfold ix; omega
  subst hi hj eM
  have hc' : ((c.toNat : Nat) : Int) = c := Int.toNat_of_nonneg h0
  rw [(he _).1, (he (ix (c.toNat + 1) z)).2.1, (he (ix c.toNat y)).2.1] at hn
  rw [(he _).2.1] at e1
  rw [(he _).2.2] at e2
  refine ⟨((hS.wa rfl).wa rfl).wa rfl, IZ_yes hZ hy0 hy hz0 hz (by rw [hc']; exact hc) hf (by rw [hc']; exact eh) (by rw [hc']; exact ed) es hs (fun x => ?_) (fun x => ?_) (fun _ => ?_) (fun x => absurd hn x) (fun j a => ?_), ?_⟩
  · rw [w3_110, w3_110, w3_110]
    exact hb1 (by rw [hc'] at x; exact x)
  · rw [w3_110, w3_110, w3_110]
    exact hb2 (fun x2 => x (by rw [hc']; exact x2))
  · rw [← e1, ← e2]
    exact w3_new
  · obtain ⟨a1, a2, a3⟩ := w3_same (M := M) (x := s) (y := d1) (z := h1) a
    rw [a1, a2, a3]
    exact he j
  · rw [(w3_same hne).1, (he _).1]
    exact hf
