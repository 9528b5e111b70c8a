/-! the law's loop and its end -/
theorem L_end {p : Program} {l : Launch} {e : Env} {s : State} {m : MethodId} {below : List Frame} {meth : Method} {c : Code} {G : xG} {b : Nat} (C : Cx p s m #[Value.ref b] meth c G cL_law 8 RL wsL_law (some .boolean)) (hG : G.2.2 = s.heap.size) {k0 w0 : Nat} (hk : k0 ≤ 601024 ∧ w0 ≤ 7293034) {M : Mem} {lv : List (Nat × Value)} {pc : Nat} (hd : decode cL_law pc = .ok (.ireturn, 1)) : LW p l e room_1 s m #[Value.ref b] below meth c G 8 (lw_Z below #[Value.ref b] s) k0 w0 M pc lv [.int (iI 1)] :=
  fun H locs ls hP hS hl => va_forget (fun q hq => by have := hS.2.2 q hq; rw [hG] at this; exact this) (W.widen hk.1 hk.2 (by
    rw [show iI 1 = 1 by decide +kernel]
    exact lw_ret C.1 C.2.1 C.2.2.2.2.2.2.1 C.2.2.2.2.2.2.2.1 hd))
set_option maxHeartbeats 4000000 in
theorem law_loop {p : Program} {l : Launch} {e : Env} {s : State} {m : MethodId} {below : List Frame} {meth : Method} {c : Code} {G : xG} {b L : Nat} {xs : Nat → Int32} (C : Cx p s m #[Value.ref b] meth c G cL_law 8 RL wsL_law (some .boolean)) (hl0 : l.stackTraces = false) (hT : xTh G.2.2 s s.heap) (hX : va_X b L xs s s.heap) (hbl : b < s.heap.size) (hbA : ¬ G.2.2 ≤ b) (hL : L ≤ 2560) (hG : G.2.2 = s.heap.size) {kS wS : Nat} (hS : kS + 600 ≤ 601024 ∧ wS + 3600 ≤ 7293034) : ∀ (n j : Nat) (M : Mem), 513 - j < n → j ≤ 512 → WF M → (M.1 110 16 + M.1 110 17 ≤ M.1 110 0 + 1 ∧ M.1 6 1 = M.1 110 0 ∧ M.1 94 0 = M.1 110 12 ∧ M.1 101 2 = M.1 110 17 ∧ (1 ≤ M.1 110 17 → (M.1 101 1 = M.1 110 16 ∧ 0 ≤ M.1 110 16)) ∧ (M.1 110 17 ≤ 0 → M.1 110 16 < 0)) → LW p l e room_1 s m #[Value.ref b] below meth c G 8 (lw_Z below #[Value.ref b] s) (kS + j) (wS + 6 * j) M 23 [(0, .ref b), (1, .ref (G.2.2 + 0)), (2, .ref (G.2.2 + 110)), (3, .ref (G.2.2 + 130)), (4, .int (iI (5 * (j : Int))))] [] := by
  intro n
  induction n with
  | zero => intro j M hn; exact absurd hn (Nat.not_lt_zero _)
  | succ n ih =>
    intro j M hn hj W J
    refine L_iload C dL_law_23 4 rfl ?_
    refine L_aloadn C dL_law_25 0 rfl rfl ?_
    refine L_slen C hX hbl hbA dL_law_26 ?_
    refine L_iconst C dL_law_27 ?_
    refine L_isub C dL_law_28 ?_
    refine L_icmpgt C 758 dL_law_29 (by decide) (by omega) (by omega) (fun c1 => ?_) (fun c1 => ?_)
    · refine L_iconst C dL_law_758 ?_
      exact L_end C hG ⟨by omega, by omega⟩ dL_law_759
    · have Hk : ∀ M' : Mem, WF M' → (M'.1 110 16 + M'.1 110 17 ≤ M'.1 110 0 + 1 ∧ M'.1 6 1 = M'.1 110 0 ∧ M'.1 94 0 = M'.1 110 12 ∧ M'.1 101 2 = M'.1 110 17 ∧ (1 ≤ M'.1 110 17 → (M'.1 101 1 = M'.1 110 16 ∧ 0 ≤ M'.1 110 16)) ∧ (M'.1 110 17 ≤ 0 → M'.1 110 16 < 0)) → LW p l e room_1 s m #[Value.ref b] below meth c G 8 (lw_Z below #[Value.ref b] s) (kS + j + 1) (wS + 6 * j + 6) M' 752 [(0, .ref b), (1, .ref (G.2.2 + 0)), (2, .ref (G.2.2 + 110)), (3, .ref (G.2.2 + 130)), (4, .int (iI (5 * (j : Int))))] [] := by
        intro M' W' J'
        refine L_iinc (lv' := (4, .int (iI (5 * (j : Int) + 5))) :: [(0, .ref b), (1, .ref (G.2.2 + 0)), (2, .ref (G.2.2 + 110)), (3, .ref (G.2.2 + 130))]) C dL_law_752 4 rfl (by decide) rfl ?_
        refine L_goto C 23 dL_law_755 (by decide) ?_
        refine L_pick [1, 2, 3, 4, 0] rfl ?_
        refine L_widen (k1 := kS + (j + 1)) (w1 := wS + 6 * (j + 1)) (by omega) (by omega) ?_
        have hj1 := ih (j + 1) M' (by omega) (by omega) W' J'
        rw [show 5 * ((j + 1 : Nat) : Int) = 5 * (j : Int) + 5 by omega] at hj1
        exact hj1
      refine L_aloadn C dL_law_32 0 rfl rfl ?_
      refine L_iload C dL_law_33 4 rfl ?_
      refine L_sld C hX hbl hbA (by omega) (by omega) hL dL_law_35 (fun y1 ey1 ry1 => ?_)
      refine L_bipush C dL_law_36 (by decide) ?_
      refine L_iandH C dL_law_38 (fun z rz => ?_)
      rcases (show (z < 0 ∨ 17 < z) ∨ z = 0 ∨ z = 1 ∨ z = 2 ∨ z = 3 ∨ z = 4 ∨ z = 5 ∨ z = 6 ∨ z = 7 ∨ z = 8 ∨ z = 9 ∨ z = 10 ∨ z = 11 ∨ z = 12 ∨ z = 13 ∨ z = 14 ∨ z = 15 ∨ z = 16 ∨ z = 17 by omega) with c2 | c2 | c2 | c2 | c2 | c2 | c2 | c2 | c2 | c2 | c2 | c2 | c2 | c2 | c2 | c2 | c2 | c2 | c2
      · refine L_tabOut C 752 dL_law_39 (by omega) c2 (by decide) ?_
        exact L_widen (by omega) (by omega) (Hk M W J)
      · refine L_tabIn C 0 124 dL_law_39 c2 (by decide) (by decide) (by decide) rfl (by decide) ?_
        exact lc_0 C hl0 hT hX hbl hbA hL ⟨by omega, by omega⟩ ⟨by omega, by omega⟩ W J Hk
      · refine L_tabIn C 1 149 dL_law_39 c2 (by decide) (by decide) (by decide) rfl (by decide) ?_
        exact lc_1 C hl0 hT hX hbl hbA hL ⟨by omega, by omega⟩ ⟨by omega, by omega⟩ W J Hk
      · refine L_tabIn C 2 226 dL_law_39 c2 (by decide) (by decide) (by decide) rfl (by decide) ?_
        exact lc_2 C hl0 hT hX hbl hbA hL ⟨by omega, by omega⟩ ⟨by omega, by omega⟩ W J Hk
      · refine L_tabIn C 3 275 dL_law_39 c2 (by decide) (by decide) (by decide) rfl (by decide) ?_
        exact lc_3 C hl0 hT hX hbl hbA hL ⟨by omega, by omega⟩ ⟨by omega, by omega⟩ W J Hk
      · refine L_tabIn C 4 324 dL_law_39 c2 (by decide) (by decide) (by decide) rfl (by decide) ?_
        exact lc_4 C hl0 hT hX hbl hbA hL ⟨by omega, by omega⟩ ⟨by omega, by omega⟩ W J Hk
      · refine L_tabIn C 5 364 dL_law_39 c2 (by decide) (by decide) (by decide) rfl (by decide) ?_
        exact lc_5 C hl0 hT hX hbl hbA hL ⟨by omega, by omega⟩ ⟨by omega, by omega⟩ W J Hk
      · refine L_tabIn C 6 401 dL_law_39 c2 (by decide) (by decide) (by decide) rfl (by decide) ?_
        exact lc_6 C hl0 hT hX hbl hbA hL ⟨by omega, by omega⟩ ⟨by omega, by omega⟩ W J Hk
      · refine L_tabIn C 7 438 dL_law_39 c2 (by decide) (by decide) (by decide) rfl (by decide) ?_
        exact lc_7 C hl0 hT hX hbl hbA hL ⟨by omega, by omega⟩ ⟨by omega, by omega⟩ W J Hk
      · refine L_tabIn C 8 463 dL_law_39 c2 (by decide) (by decide) (by decide) rfl (by decide) ?_
        exact lc_8 C hl0 hT hX hbl hbA hL ⟨by omega, by omega⟩ ⟨by omega, by omega⟩ W J Hk
      · refine L_tabIn C 9 476 dL_law_39 c2 (by decide) (by decide) (by decide) rfl (by decide) ?_
        exact lc_9 C hl0 hT hX hbl hbA hL ⟨by omega, by omega⟩ ⟨by omega, by omega⟩ W J Hk
      · refine L_tabIn C 10 504 dL_law_39 c2 (by decide) (by decide) (by decide) rfl (by decide) ?_
        exact lc_10 C hl0 hT hX hbl hbA hL ⟨by omega, by omega⟩ ⟨by omega, by omega⟩ W J Hk
      · refine L_tabIn C 11 529 dL_law_39 c2 (by decide) (by decide) (by decide) rfl (by decide) ?_
        exact lc_11 C hl0 hT hX hbl hbA hL ⟨by omega, by omega⟩ ⟨by omega, by omega⟩ W J Hk
      · refine L_tabIn C 12 554 dL_law_39 c2 (by decide) (by decide) (by decide) rfl (by decide) ?_
        exact lc_12 C hl0 hT hX hbl hbA hL ⟨by omega, by omega⟩ ⟨by omega, by omega⟩ W J Hk
      · refine L_tabIn C 13 591 dL_law_39 c2 (by decide) (by decide) (by decide) rfl (by decide) ?_
        exact lc_13 C hl0 hT hX hbl hbA hL ⟨by omega, by omega⟩ ⟨by omega, by omega⟩ W J Hk
      · refine L_tabIn C 14 640 dL_law_39 c2 (by decide) (by decide) (by decide) rfl (by decide) ?_
        exact lc_14 C hl0 hT hX hbl hbA hL ⟨by omega, by omega⟩ ⟨by omega, by omega⟩ W J Hk
      · refine L_tabIn C 15 665 dL_law_39 c2 (by decide) (by decide) (by decide) rfl (by decide) ?_
        exact lc_15 C hl0 hT hX hbl hbA hL ⟨by omega, by omega⟩ ⟨by omega, by omega⟩ W J Hk
      · refine L_tabIn C 16 702 dL_law_39 c2 (by decide) (by decide) (by decide) rfl (by decide) ?_
        exact lc_16 C hl0 hT hX hbl hbA hL ⟨by omega, by omega⟩ ⟨by omega, by omega⟩ W J Hk
      · refine L_tabIn C 17 727 dL_law_39 c2 (by decide) (by decide) (by decide) rfl (by decide) ?_
        exact lc_17 C hl0 hT hX hbl hbA hL ⟨by omega, by omega⟩ ⟨by omega, by omega⟩ W J Hk
