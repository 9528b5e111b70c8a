/-! the law's first objects: locals and stack as they lie -/
def LN (p : Program) (l : Launch) (e : Env) (R : Room) (s : State) (m : MethodId) (args : Array Value) (below : List Frame) (meth : Method) (c : Code) (G : xG) (nL : Nat) (Q : State → Prop) (n0 k0 w0 : Nat) (M : Mem) (pc : Nat) (lv : List (Nat × Value)) (st : List Value) : Prop :=
  ∀ (H : Heap) (locs : List Loc) (ls : Array Slot), va_P G.1 vwCl (xWs G n0 M) H → H.size = G.2.2 + n0 → va_S (fun q => G.2.2 ≤ q) s.heap H locs → lv_has ls nL lv → W p l e R s m args below meth c H locs k0 w0 Q (F0 m pc ls st)
section LNS
variable {p : Program} {l : Launch} {e : Env} {R : Room} {s : State} {m : MethodId} {args : Array Value} {below : List Frame} {meth : Method} {c : Code} {G : xG} {nL : Nat} {Q : State → Prop} {M : Mem} {pc : Nat} {lv : List (Nat × Value)} {st : List Value} {cc : ByteArray} {own : String} {Ts : List Cond} {rt : Option FieldType} {n0 k0 w0 : Nat}
theorem B_new (C : Cx p s m args meth c G cc nL own Ts rt) {ci index N : Nat} {Cn : String} {T : u_T} {ty : Nat → FieldType} (hZ : Zr M n0) (hs : shp (kd n0) = (0, ci)) (hcl : vwCl[ci]? = some (Cn, T, N)) (hin : ∀ w ∈ u_ws Cn T N, w ∈ Ts) (hty : ∀ k, k < N → parseFieldDescriptor (T k).2.2.1 = some (ty k)) (w1 : Cond.classLink own index Cn ∈ Ts) (w2 : Cond.instantiable Cn N ∈ Ts) (w3 : Cond.initialized Cn ∈ Ts)
    (hb : ∀ j, j < N → defaultValue (ty j) = vp_V ((fks ci).map bkV) j) (hc : k0 + 1 ≤ R.cells) (hsl : w0 + N ≤ R.slots) (hd : decode cc pc = .ok (.new index, 3))
    (kk : LN p l e R s m args below meth c G nL Q (n0 + 1) (k0 + 1) (w0 + N) M (pc + 3) lv (.ref (G.2.2 + n0) :: st)) : LN p l e R s m args below meth c G nL Q n0 k0 w0 M pc lv st := by
  intro H locs ls hP hsz hS hlv
  have hKn := C.2.2.2.2.2.1.1 ci _ hcl
  refine W.newcK C.1 C.2.1 C.2.2.2.1 (C.2.2.2.2.1 _ w1) (C.2.2.2.2.1 _ w2) (C.2.2.2.2.1 _ w3) rfl hd hc hsl hKn.2.1 hsz fun H1 kC hkC e1 z1 o1 => ?_
  refine kk H1 locs ls (xP_push hP (by rw [hsz]; exact o1) ?_) (by rw [z1]; omega) (xS_push hS (by rw [z1, hsz]) (by rw [hsz]; exact o1)) hlv
  rw [xE_0 hs, xFs_blank (hZ n0 (Nat.le_refl _))]
  exact ⟨_, hcl, (u_born ty C.2.2.2.2.1 hin hKn hkC e1 hty).to hb⟩
theorem B_newL (C : Cx p s m args meth c G cc nL own Ts rt) {z : Int} {len : Nat} (hZ : Zr M n0) (hs : shp (kd n0) = (2, len)) (hw : Cond.arrayClass .long ∈ Ts) (hz : z = len) (hl : len < 1000) (hc : k0 + 1 ≤ R.cells) (hsl : w0 + len ≤ R.slots) (hd : decode cc pc = .ok (.newarray .long, 2))
    (kk : LN p l e R s m args below meth c G nL Q (n0 + 1) (k0 + 1) (w0 + len) M (pc + 2) lv (.ref (G.2.2 + n0) :: st)) : LN p l e R s m args below meth c G nL Q n0 k0 w0 M pc lv (.int (iI z) :: st) := by
  intro H locs ls hP hsz hS hlv
  subst hz
  refine va_newaK (atype := .long) C.1 C.2.1 (C.2.2.2.2.1 _ hw) rfl hd rfl (N := len) (by rw [← iI_0, iI_lt ⟨by omega, by omega⟩ (by decide)]; omega) (by rw [iI_cl (by omega) (by omega)]; omega) (by show len * 8 ≤ _; omega) hc hsl hsz fun H1 cA e1 z1 o1 hAr hNm => ?_
  have hcA : cA = G.2.1 1 := Option.some.inj (hNm.symm.trans (C.2.2.2.2.2.1.2 1 _ rfl).2)
  subst hcA
  refine kk H1 locs ls (xP_push hP (by rw [hsz]; exact o1) ?_) (by rw [z1]; omega) (xS_push hS (by rw [z1, hsz]) (by rw [hsz]; exact o1)) hlv
  rw [xE_2 hs]
  show H1[G.2.2 + n0]? = some (vp_cell _ _)
  rw [e1, vp_cell_l]
  congr 2
  funext j
  rw [(hZ n0 (Nat.le_refl _) j).2.1, show lL 0 = 0 by decide +kernel]
  rfl
theorem B_dup (C : Cx p s m args meth c G cc nL own Ts rt) {v : Value} (hd : decode cc pc = .ok (.dup, 1)) (hv : v.category = 1) (k : LN p l e R s m args below meth c G nL Q n0 k0 w0 M (pc + 1) lv (v :: v :: st)) : LN p l e R s m args below meth c G nL Q n0 k0 w0 M pc lv (v :: st) :=
  fun H locs ls hP hz hS hl => lv_dup C.1 C.2.1 hd hv (k H locs ls hP hz hS hl)
theorem B_iconst (C : Cx p s m args meth c G cc nL own Ts rt) {n : Int} (hd : decode cc pc = .ok (.iconst n, 1)) (k : LN p l e R s m args below meth c G nL Q n0 k0 w0 M (pc + 1) lv (.int (iI n) :: st)) : LN p l e R s m args below meth c G nL Q n0 k0 w0 M pc lv st :=
  fun H locs ls hP hz hS hl => lv_iconst C.1 C.2.1 hd rfl (k H locs ls hP hz hS hl)
theorem B_astoren (C : Cx p s m args meth c G cc nL own Ts rt) {j : Fin 4} {i a : Nat} {lv' : List (Nat × Value)} (hd : decode cc pc = .ok (.astore_n j, 1)) (hi : (j : Nat) = i) (hn : i < nL) (h : xput1 i (.ref a) lv = lv') (k : LN p l e R s m args below meth c G nL Q n0 k0 w0 M (pc + 1) lv' st) : LN p l e R s m args below meth c G nL Q n0 k0 w0 M pc lv (.ref a :: st) :=
  fun H locs ls hP hz hS hl => lv_astore_n C.1 C.2.1 hd hi hl hn h (fun ls' hl' => k H locs ls' hP hz hS hl')
theorem B_istore (C : Cx p s m args meth c G cc nL own Ts rt) {i : Nat} {z : Int} {lv' : List (Nat × Value)} (hd : decode cc pc = .ok (.istore i, 2)) (hn : i < nL) (h : xput1 i (.int (iI z)) lv = lv') (k : LN p l e R s m args below meth c G nL Q n0 k0 w0 M (pc + 2) lv' st) : LN p l e R s m args below meth c G nL Q n0 k0 w0 M pc lv (.int (iI z) :: st) :=
  fun H locs ls hP hz hS hl => lv_istore C.1 C.2.1 hd hl hn h (fun ls' hl' => k H locs ls' hP hz hS hl')
theorem B_to (k : LW p l e R s m args below meth c G nL Q k0 w0 M pc lv st) : LN p l e R s m args below meth c G nL Q nAll k0 w0 M pc lv st := fun H locs ls hP _ hS hl => k H locs ls hP hS hl
theorem B_callI (C : Cx p s m args meth c G cc nL own Ts rt) (hNc : xNc s) {y : MethodName} {ws ws' : List Cond} {d mc ms n1 maxL index a : Nat} {M1 : Mem} {bytes : ByteArray} (K : Cn y ws d mc ms n0 n1 [.ref a] M M1) (g : GoodIn Ts ws) (hw : ws = Cond.code y bytes maxL none :: ws') (w1 : Cond.initialized y.cls ∈ Ts) (w2 : Cond.methodLink own index y ∈ Ts) (w3 : Cond.instanceMethod y ∈ Ts) (hi : y.name = "<init>") (hy : y.cls ≠ "java/lang/invoke/MethodHandle" ∧ y.cls ≠ "java/lang/invoke/VarHandle" ∧ (parseMethodDescriptor y.desc).map (fun d => d.parameters.length) = some 0)
    (hR : d + 1 ≤ R.frames ∧ 8 + (maxL + 11) + 64 * d ≤ R.locals) (hcat : (st.map fun v => v.category).sum ≤ 8) (hf : k0 + mc ≤ R.cells ∧ w0 + ms ≤ R.slots) (hd : decode cc pc = .ok (.invokespecial index, 3))
    (kk : LN p l e R s m args below meth c G nL Q n1 (k0 + mc) (w0 + ms) M1 (pc + 3) lv st) : LN p l e R s m args below meth c G nL Q n0 k0 w0 M pc lv (.ref (G.2.2 + a) :: st) := by
  intro H locs ls hP hz hS hl
  have hPre : PreS s H (xPn G n0 [.ref a] M) [.ref (G.2.2 + a)] := ⟨xPn_blind, fun U hU hW => ⟨rfl, by rw [hU]; exact hP, by rw [hU]; exact hz, va_K.moved hW.alike C.2.2.2.2.2.1, C.2.2.2.2.2.2.2.2.warm hW, hNc.warm hW⟩⟩
  exact N_run (va_runI (As := []) (rest := st) ⟨C.1, C.2.1, C.2.2.1, C.2.2.2.1, C.2.2.2.2.1⟩ (K l G) (cwI 0 C.2.2.2.2.1 g hw rfl rfl (C.2.2.2.2.1 _ w1) (C.2.2.2.2.1 _ w2) (C.2.2.2.2.1 _ w3) hi hy hR) hPre rfl rfl hl.1 rfl (lv_room hcat) hd hf) hS (fun H1 locs1 h1 h2 h3 => kk H1 locs1 ls h1 h2 h3 hl)
end LNS
theorem JM_memL : (memL.1 110 16 + memL.1 110 17 ≤ memL.1 110 0 + 1 ∧ memL.1 6 1 = memL.1 110 0 ∧ memL.1 94 0 = memL.1 110 12 ∧ memL.1 101 2 = memL.1 110 17 ∧ (1 ≤ memL.1 110 17 → (memL.1 101 1 = memL.1 110 16 ∧ 0 ≤ memL.1 110 16)) ∧ (memL.1 110 17 ≤ 0 → memL.1 110 16 < 0)) := by decide +kernel
theorem memL_Z : Zr memL 130 := mX8_init_Z (by decide) (Zr_up mem24_Z (by decide))
set_option maxHeartbeats 4000000 in
theorem whole_start {p : Program} {e : Env} {s : State} {m : MethodId} {below : List Frame} {meth : Method} {c : Code} (l : Launch) (hl0 : l.stackTraces = false) {b L : Nat} {xs : Nat → Int32} (hL : L ≤ 2560) (C0 : lw_At p s m meth c b L xs) : W p l e room_1 s m #[Value.ref b] below meth c s.heap [] 0 0 (lw_Z below #[Value.ref b] s) (entryFrame m ([Value.ref b] : List Value).toArray 8) := by
  obtain ⟨hx, hb, hr, hml, hown, hts, hX, hbl, hlocks, hgv⟩ := C0
  obtain ⟨G, hG, hK⟩ := G_of hts
  have C : Cx p s m #[Value.ref b] meth c G cL_law 8 RL wsL_law (some .boolean) := ⟨hx, hb, hml, hown, fun w hw => hts w (wsL_law_in w hw), hK, hr, hlocks, xNw_of hts⟩
  have hNc := xNc_of hts
  have hT : xTh G.2.2 s s.heap := by
    rw [hG]
    exact xTh_of hts hgv (hK.1 7 _ rfl).2.1
  have hbA : ¬ G.2.2 ≤ b := by rw [hG]; exact Nat.not_le.mpr hbl
  have hl := lv_entry ([.ref b]) (n := 8) (Nat.le_of_ble_eq_true rfl)
  rw [lg_entry_eq]
  generalize (lg_sl ([.ref b]) ++ List.replicate (8 - (lg_sl ([.ref b])).length) Slot.unset).toArray = ls at hl ⊢
  have hl : lv_has ls 8 [(0, .ref b)] := hl
  have key : LN p l e room_1 s m #[Value.ref b] below meth c G 8 (lw_Z below #[Value.ref b] s) 0 0 0 mem0 0 [(0, .ref b)] [] := by
    refine B_new (ty := tyX7) C (mem0_Z (n := 0)) rfl rfl inlX7 tyX7_ok (by decide +kernel) (by decide +kernel) (by decide +kernel) bkX7 (Nat.le_of_ble_eq_true rfl) (Nat.le_of_ble_eq_true rfl) dL_law_0 ?_
    refine B_dup C dL_law_3 rfl ?_
    refine B_callI C hNc kX7_init gL_law_X7_init rfl (by decide +kernel) (by decide +kernel) (by decide +kernel) rfl (by decide +kernel) ⟨Nat.le_of_ble_eq_true rfl, Nat.le_of_ble_eq_true rfl⟩ (Nat.le_of_ble_eq_true rfl) ⟨Nat.le_of_ble_eq_true rfl, Nat.le_of_ble_eq_true rfl⟩ dL_law_4 ?_
    refine B_astoren (lv' := [(1, .ref (G.2.2 + 0)), (0, .ref b)]) C dL_law_7 rfl (by decide) rfl ?_
    refine B_new (ty := tyX8) C mem24_Z rfl rfl inlX8 tyX8_ok (by decide +kernel) (by decide +kernel) (by decide +kernel) bkX8 (Nat.le_of_ble_eq_true rfl) (Nat.le_of_ble_eq_true rfl) dL_law_8 ?_
    refine B_dup C dL_law_11 rfl ?_
    refine B_callI (M1 := memL) C hNc (kX8_init (n := 111) (a := 110) (by decide) rfl rfl rfl rfl rfl rfl rfl rfl rfl rfl rfl rfl rfl rfl rfl rfl rfl rfl rfl rfl (Zr_up mem24_Z (by decide))) gL_law_X8_init rfl (by decide +kernel) (by decide +kernel) (by decide +kernel) rfl (by decide +kernel) ⟨Nat.le_of_ble_eq_true rfl, Nat.le_of_ble_eq_true rfl⟩ (Nat.le_of_ble_eq_true rfl) ⟨Nat.le_of_ble_eq_true rfl, Nat.le_of_ble_eq_true rfl⟩ dL_law_12 ?_
    refine B_astoren (lv' := [(2, .ref (G.2.2 + 110)), (1, .ref (G.2.2 + 0)), (0, .ref b)]) C dL_law_15 rfl (by decide) rfl ?_
    refine B_iconst C dL_law_16 ?_
    refine B_newL C memL_Z rfl (by decide +kernel) rfl (by decide) (Nat.le_of_ble_eq_true rfl) (Nat.le_of_ble_eq_true rfl) dL_law_17 ?_
    refine B_astoren (lv' := [(3, .ref (G.2.2 + 130)), (2, .ref (G.2.2 + 110)), (1, .ref (G.2.2 + 0)), (0, .ref b)]) C dL_law_19 rfl (by decide) rfl ?_
    refine B_iconst C dL_law_20 ?_
    refine B_istore (lv' := [(4, .int (iI 0)), (3, .ref (G.2.2 + 130)), (2, .ref (G.2.2 + 110)), (1, .ref (G.2.2 + 0)), (0, .ref b)]) C dL_law_21 (by decide) rfl ?_
    refine B_to (L_pick [4, 3, 2, 1, 0] rfl (L_widen (k1 := 131 + 0) (w1 := 6129 + 6 * 0) (Nat.le_of_ble_eq_true rfl) (Nat.le_of_ble_eq_true rfl) ?_))
    exact law_loop C hl0 hT hX hbl hbA hL hG (kS := 131) (wS := 6129) ⟨by decide, by decide⟩ 514 0 memL (by decide) (by decide) WF_memL JM_memL
  exact key s.heap [] ls (fun k q h => by simp [xWs] at h) (by rw [hG]; rfl) va_S.rf hl
