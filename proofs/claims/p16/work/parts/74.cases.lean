/-! the law, a case at a time -/
set_option maxHeartbeats 4000000 in
theorem lc_0 {p : Program} {l : Launch} {e : Env} {s : State} {m : MethodId} {args : Array Value} {below : List Frame} {meth : Method} {c : Code} {G : xG} {b L : Nat} {xs : Nat → Int32} {Q : State → Prop} (C : Cx p s m args meth c G cL_law 8 RL wsL_law (some .boolean)) (hl0 : l.stackTraces = false) (hT : xTh G.2.2 s s.heap) (hX : va_X b L xs s s.heap) (hbl : b < s.heap.size) (hbA : ¬ G.2.2 ≤ b) (hL : L ≤ 2560) {k0 w0 : Nat} (hk : k0 + 1 ≤ 601024 ∧ w0 + 6 ≤ 7293034) {i : Int} (hi : 0 ≤ i ∧ i + 5 ≤ (L : Int)) {M : Mem} (W : WF M) (J : (M.1 110 16 + M.1 110 17 ≤ M.1 110 0 + 1 ∧ M.1 6 1 = M.1 110 0 ∧ M.1 94 0 = M.1 110 12 ∧ M.1 101 2 = M.1 110 17 ∧ (1 ≤ M.1 110 17 → (M.1 101 1 = M.1 110 16 ∧ 0 ≤ M.1 110 16)) ∧ (M.1 110 17 ≤ 0 → M.1 110 16 < 0)))
    (Hk : ∀ M' : Mem, WF M' → (M'.1 110 16 + M'.1 110 17 ≤ M'.1 110 0 + 1 ∧ M'.1 6 1 = M'.1 110 0 ∧ M'.1 94 0 = M'.1 110 12 ∧ M'.1 101 2 = M'.1 110 17 ∧ (1 ≤ M'.1 110 17 → (M'.1 101 1 = M'.1 110 16 ∧ 0 ≤ M'.1 110 16)) ∧ (M'.1 110 17 ≤ 0 → M'.1 110 16 < 0)) → LW p l e room_1 s m args below meth c G 8 Q (k0 + 1) (w0 + 6) M' 752 [(0, .ref b), (1, .ref (G.2.2 + 0)), (2, .ref (G.2.2 + 110)), (3, .ref (G.2.2 + 130)), (4, .int (iI i))] []) : LW p l e room_1 s m args below meth c G 8 Q k0 w0 M 124 [(0, .ref b), (1, .ref (G.2.2 + 0)), (2, .ref (G.2.2 + 110)), (3, .ref (G.2.2 + 130)), (4, .int (iI i))] [] := by
  refine L_aloadn C dL_law_124 1 rfl rfl ?_
  refine L_aloadn C dL_law_125 0 rfl rfl ?_
  refine L_iload C dL_law_126 4 rfl ?_
  refine L_iconst C dL_law_128 ?_
  refine L_iadd C dL_law_129 ?_
  refine L_sld C hX hbl hbA (by omega) (by omega) hL dL_law_130 (fun y1 ey1 ry1 => ?_)
  refine L_callV C (As := [.int (iI y1)]) (n := 1) (st := []) (kX7_ground kd_0 ry1) gL_law_X7_ground rfl (by decide +kernel) ⟨Nat.le_of_ble_eq_true rfl, Nat.le_of_ble_eq_true rfl⟩ kd_0 rfl rfl rfl rfl (Nat.le_of_ble_eq_true rfl) dL_law_131 ⟨(by show k0 ≤ 601024; omega), (by show w0 ≤ 7293034; omega)⟩ rfl W (fun r2 M3 h4 => ?_)
  obtain ⟨z5, rfl, lz5, uz5, WM3, FM3, xM3⟩ := h4
  have tM3_110_0 : M3.1 110 0 = M.1 110 0 := congrFun (FM3 110 (by rw [kd_110]; rfl)).1 0
  have tM3_110_12 : M3.1 110 12 = M.1 110 12 := congrFun (FM3 110 (by rw [kd_110]; rfl)).1 12
  have tM3_110_16 : M3.1 110 16 = M.1 110 16 := congrFun (FM3 110 (by rw [kd_110]; rfl)).1 16
  have tM3_110_17 : M3.1 110 17 = M.1 110 17 := congrFun (FM3 110 (by rw [kd_110]; rfl)).1 17
  refine L_st (st' := [.int (iI z5)]) rfl ?_
  refine L_pop C dL_law_134 rfl ?_
  refine L_aloadn C dL_law_135 2 rfl rfl ?_
  refine L_aloadn C dL_law_136 0 rfl rfl ?_
  refine L_iload C dL_law_137 4 rfl ?_
  refine L_iconst C dL_law_139 ?_
  refine L_iadd C dL_law_140 ?_
  refine L_sld C hX hbl hbA (by omega) (by omega) hL dL_law_141 (fun y6 ey6 ry6 => ?_)
  refine L_callV C (As := [.int (iI y6)]) (n := 1) (st := []) (kX8_ground ry6) gL_law_X8_ground rfl (by decide +kernel) ⟨Nat.le_of_ble_eq_true rfl, Nat.le_of_ble_eq_true rfl⟩ kd_110 rfl rfl rfl rfl (Nat.le_of_ble_eq_true rfl) dL_law_142 ⟨(by show k0 ≤ 601024; omega), (by show w0 ≤ 7293034; omega)⟩ rfl ⟨WM3, by omega⟩ (fun r7 M8 h9 => ?_)
  obtain ⟨z10, rfl, lz10, uz10, WM8, FM8, xM8⟩ := h9
  have tM8_6_1 : M8.1 6 1 = M3.1 6 1 := congrFun (FM8 6 (by rw [kd_6]; rfl)).1 1
  have tM8_94_0 : M8.1 94 0 = M3.1 94 0 := congrFun (FM8 94 (by rw [kd_94]; rfl)).1 0
  have tM8_101_1 : M8.1 101 1 = M3.1 101 1 := congrFun (FM8 101 (by rw [kd_101]; rfl)).1 1
  have tM8_101_2 : M8.1 101 2 = M3.1 101 2 := congrFun (FM8 101 (by rw [kd_101]; rfl)).1 2
  refine L_st (st' := [.int (iI z10)]) rfl ?_
  refine L_pop C dL_law_145 rfl ?_
  refine L_goto C 752 dL_law_146 (by decide) ?_
  refine L_widen (k1 := k0 + 1) (w1 := w0 + 6) (by omega) (by omega) ?_
  exact Hk M8 WM8 (by omega)
set_option maxHeartbeats 4000000 in
theorem lc_1 {p : Program} {l : Launch} {e : Env} {s : State} {m : MethodId} {args : Array Value} {below : List Frame} {meth : Method} {c : Code} {G : xG} {b L : Nat} {xs : Nat → Int32} {Q : State → Prop} (C : Cx p s m args meth c G cL_law 8 RL wsL_law (some .boolean)) (hl0 : l.stackTraces = false) (hT : xTh G.2.2 s s.heap) (hX : va_X b L xs s s.heap) (hbl : b < s.heap.size) (hbA : ¬ G.2.2 ≤ b) (hL : L ≤ 2560) {k0 w0 : Nat} (hk : k0 + 1 ≤ 601024 ∧ w0 + 6 ≤ 7293034) {i : Int} (hi : 0 ≤ i ∧ i + 5 ≤ (L : Int)) {M : Mem} (W : WF M) (J : (M.1 110 16 + M.1 110 17 ≤ M.1 110 0 + 1 ∧ M.1 6 1 = M.1 110 0 ∧ M.1 94 0 = M.1 110 12 ∧ M.1 101 2 = M.1 110 17 ∧ (1 ≤ M.1 110 17 → (M.1 101 1 = M.1 110 16 ∧ 0 ≤ M.1 110 16)) ∧ (M.1 110 17 ≤ 0 → M.1 110 16 < 0)))
    (Hk : ∀ M' : Mem, WF M' → (M'.1 110 16 + M'.1 110 17 ≤ M'.1 110 0 + 1 ∧ M'.1 6 1 = M'.1 110 0 ∧ M'.1 94 0 = M'.1 110 12 ∧ M'.1 101 2 = M'.1 110 17 ∧ (1 ≤ M'.1 110 17 → (M'.1 101 1 = M'.1 110 16 ∧ 0 ≤ M'.1 110 16)) ∧ (M'.1 110 17 ≤ 0 → M'.1 110 16 < 0)) → LW p l e room_1 s m args below meth c G 8 Q (k0 + 1) (w0 + 6) M' 752 [(0, .ref b), (1, .ref (G.2.2 + 0)), (2, .ref (G.2.2 + 110)), (3, .ref (G.2.2 + 130)), (4, .int (iI i))] []) : LW p l e room_1 s m args below meth c G 8 Q k0 w0 M 149 [(0, .ref b), (1, .ref (G.2.2 + 0)), (2, .ref (G.2.2 + 110)), (3, .ref (G.2.2 + 130)), (4, .int (iI i))] [] := by
  refine L_aloadn C dL_law_149 1 rfl rfl ?_
  refine L_aloadn C dL_law_150 0 rfl rfl ?_
  refine L_iload C dL_law_151 4 rfl ?_
  refine L_iconst C dL_law_153 ?_
  refine L_iadd C dL_law_154 ?_
  refine L_sld C hX hbl hbA (by omega) (by omega) hL dL_law_155 (fun y1 ey1 ry1 => ?_)
  refine L_aloadn C dL_law_156 0 rfl rfl ?_
  refine L_iload C dL_law_157 4 rfl ?_
  refine L_iconst C dL_law_159 ?_
  refine L_iadd C dL_law_160 ?_
  refine L_sld C hX hbl hbA (by omega) (by omega) hL dL_law_161 (fun y2 ey2 ry2 => ?_)
  refine L_aloadn C dL_law_162 0 rfl rfl ?_
  refine L_iload C dL_law_163 4 rfl ?_
  refine L_iconst C dL_law_165 ?_
  refine L_iadd C dL_law_166 ?_
  refine L_sld C hX hbl hbA (by omega) (by omega) hL dL_law_167 (fun y3 ey3 ry3 => ?_)
  refine L_aloadn C dL_law_168 0 rfl rfl ?_
  refine L_iload C dL_law_169 4 rfl ?_
  refine L_iconst C dL_law_171 ?_
  refine L_iadd C dL_law_172 ?_
  refine L_sld C hX hbl hbA (by omega) (by omega) hL dL_law_173 (fun y4 ey4 ry4 => ?_)
  refine L_ifeq C 181 dL_law_174 (by decide) (by omega) (fun c5 => ?_) (fun c5 => ?_)
  · skip
    refine L_iconst C dL_law_181 ?_
    refine L_callV C (As := [.int (iI y1), .int (iI y2), .int (iI y3), .int (iI 0)]) (n := 4) (st := []) (kX7_earth kd_0 ry1 ry2 ry3 (by omega)) gL_law_X7_earth rfl (by decide +kernel) ⟨Nat.le_of_ble_eq_true rfl, Nat.le_of_ble_eq_true rfl⟩ kd_0 rfl rfl rfl rfl (Nat.le_of_ble_eq_true rfl) dL_law_182 ⟨(by show k0 ≤ 601024; omega), (by show w0 ≤ 7293034; omega)⟩ rfl W (fun r6 M7 h8 => ?_)
    obtain ⟨z9, rfl, lz9, uz9, WM7, FM7⟩ := h8
    have tM7_6_1 : M7.1 6 1 = M.1 6 1 := congrFun (FM7 6 (by rw [kd_6]; rfl)).1 1
    have tM7_94_0 : M7.1 94 0 = M.1 94 0 := congrFun (FM7 94 (by rw [kd_94]; rfl)).1 0
    have tM7_101_1 : M7.1 101 1 = M.1 101 1 := congrFun (FM7 101 (by rw [kd_101]; rfl)).1 1
    have tM7_101_2 : M7.1 101 2 = M.1 101 2 := congrFun (FM7 101 (by rw [kd_101]; rfl)).1 2
    have tM7_110_0 : M7.1 110 0 = M.1 110 0 := congrFun (FM7 110 (by rw [kd_110]; rfl)).1 0
    have tM7_110_12 : M7.1 110 12 = M.1 110 12 := congrFun (FM7 110 (by rw [kd_110]; rfl)).1 12
    have tM7_110_16 : M7.1 110 16 = M.1 110 16 := congrFun (FM7 110 (by rw [kd_110]; rfl)).1 16
    have tM7_110_17 : M7.1 110 17 = M.1 110 17 := congrFun (FM7 110 (by rw [kd_110]; rfl)).1 17
    refine L_st (st' := [.int (iI z9)]) rfl ?_
    refine L_pop C dL_law_185 rfl ?_
    refine L_aloadn C dL_law_186 2 rfl rfl ?_
    refine L_aloadn C dL_law_187 0 rfl rfl ?_
    refine L_iload C dL_law_188 4 rfl ?_
    refine L_iconst C dL_law_190 ?_
    refine L_iadd C dL_law_191 ?_
    refine L_sld C hX hbl hbA (by omega) (by omega) hL dL_law_192 (fun y10 ey10 ry10 => ?_)
    refine L_aloadn C dL_law_193 0 rfl rfl ?_
    refine L_iload C dL_law_194 4 rfl ?_
    refine L_iconst C dL_law_196 ?_
    refine L_iadd C dL_law_197 ?_
    refine L_sld C hX hbl hbA (by omega) (by omega) hL dL_law_198 (fun y11 ey11 ry11 => ?_)
    refine L_aloadn C dL_law_199 0 rfl rfl ?_
    refine L_iload C dL_law_200 4 rfl ?_
    refine L_iconst C dL_law_202 ?_
    refine L_iadd C dL_law_203 ?_
    refine L_sld C hX hbl hbA (by omega) (by omega) hL dL_law_204 (fun y12 ey12 ry12 => ?_)
    refine L_aloadn C dL_law_205 0 rfl rfl ?_
    refine L_iload C dL_law_206 4 rfl ?_
    refine L_iconst C dL_law_208 ?_
    refine L_iadd C dL_law_209 ?_
    refine L_sld C hX hbl hbA (by omega) (by omega) hL dL_law_210 (fun y13 ey13 ry13 => ?_)
    refine L_ifeq C 218 dL_law_211 (by decide) (by omega) (fun c14 => ?_) (fun c14 => ?_)
    · skip
      refine L_iconst C dL_law_218 ?_
      refine L_callV C (As := [.int (iI y10), .int (iI y11), .int (iI y12), .int (iI 0)]) (n := 4) (st := []) (kX8_earth ry10 ry11 ry12 (by omega)) gL_law_X8_earth rfl (by decide +kernel) ⟨Nat.le_of_ble_eq_true rfl, Nat.le_of_ble_eq_true rfl⟩ kd_110 rfl rfl rfl rfl (Nat.le_of_ble_eq_true rfl) dL_law_219 ⟨(by show k0 ≤ 601024; omega), (by show w0 ≤ 7293034; omega)⟩ rfl ⟨WM7, by omega⟩ (fun r15 M16 h17 => ?_)
      obtain ⟨z18, rfl, lz18, uz18, WM16, FM16, xM16⟩ := h17
      have tM16_6_1 : M16.1 6 1 = M7.1 6 1 := congrFun (FM16 6 (by rw [kd_6]; rfl)).1 1
      have tM16_94_0 : M16.1 94 0 = M7.1 94 0 := congrFun (FM16 94 (by rw [kd_94]; rfl)).1 0
      have tM16_101_1 : M16.1 101 1 = M7.1 101 1 := congrFun (FM16 101 (by rw [kd_101]; rfl)).1 1
      have tM16_101_2 : M16.1 101 2 = M7.1 101 2 := congrFun (FM16 101 (by rw [kd_101]; rfl)).1 2
      refine L_st (st' := [.int (iI z18)]) rfl ?_
      refine L_pop C dL_law_222 rfl ?_
      refine L_goto C 752 dL_law_223 (by decide) ?_
      refine L_widen (k1 := k0 + 1) (w1 := w0 + 6) (by omega) (by omega) ?_
      exact Hk M16 WM16 (by omega)
    · skip
      refine L_iconst C dL_law_214 ?_
      refine L_goto C 219 dL_law_215 (by decide) ?_
      refine L_callV C (As := [.int (iI y10), .int (iI y11), .int (iI y12), .int (iI 1)]) (n := 4) (st := []) (kX8_earth ry10 ry11 ry12 (by omega)) gL_law_X8_earth rfl (by decide +kernel) ⟨Nat.le_of_ble_eq_true rfl, Nat.le_of_ble_eq_true rfl⟩ kd_110 rfl rfl rfl rfl (Nat.le_of_ble_eq_true rfl) dL_law_219 ⟨(by show k0 ≤ 601024; omega), (by show w0 ≤ 7293034; omega)⟩ rfl ⟨WM7, by omega⟩ (fun r19 M20 h21 => ?_)
      obtain ⟨z22, rfl, lz22, uz22, WM20, FM20, xM20⟩ := h21
      have tM20_6_1 : M20.1 6 1 = M7.1 6 1 := congrFun (FM20 6 (by rw [kd_6]; rfl)).1 1
      have tM20_94_0 : M20.1 94 0 = M7.1 94 0 := congrFun (FM20 94 (by rw [kd_94]; rfl)).1 0
      have tM20_101_1 : M20.1 101 1 = M7.1 101 1 := congrFun (FM20 101 (by rw [kd_101]; rfl)).1 1
      have tM20_101_2 : M20.1 101 2 = M7.1 101 2 := congrFun (FM20 101 (by rw [kd_101]; rfl)).1 2
      refine L_st (st' := [.int (iI z22)]) rfl ?_
      refine L_pop C dL_law_222 rfl ?_
      refine L_goto C 752 dL_law_223 (by decide) ?_
      refine L_widen (k1 := k0 + 1) (w1 := w0 + 6) (by omega) (by omega) ?_
      exact Hk M20 WM20 (by omega)
  · skip
    refine L_iconst C dL_law_177 ?_
    refine L_goto C 182 dL_law_178 (by decide) ?_
    refine L_callV C (As := [.int (iI y1), .int (iI y2), .int (iI y3), .int (iI 1)]) (n := 4) (st := []) (kX7_earth kd_0 ry1 ry2 ry3 (by omega)) gL_law_X7_earth rfl (by decide +kernel) ⟨Nat.le_of_ble_eq_true rfl, Nat.le_of_ble_eq_true rfl⟩ kd_0 rfl rfl rfl rfl (Nat.le_of_ble_eq_true rfl) dL_law_182 ⟨(by show k0 ≤ 601024; omega), (by show w0 ≤ 7293034; omega)⟩ rfl W (fun r23 M24 h25 => ?_)
    obtain ⟨z26, rfl, lz26, uz26, WM24, FM24⟩ := h25
    have tM24_6_1 : M24.1 6 1 = M.1 6 1 := congrFun (FM24 6 (by rw [kd_6]; rfl)).1 1
    have tM24_94_0 : M24.1 94 0 = M.1 94 0 := congrFun (FM24 94 (by rw [kd_94]; rfl)).1 0
    have tM24_101_1 : M24.1 101 1 = M.1 101 1 := congrFun (FM24 101 (by rw [kd_101]; rfl)).1 1
    have tM24_101_2 : M24.1 101 2 = M.1 101 2 := congrFun (FM24 101 (by rw [kd_101]; rfl)).1 2
    have tM24_110_0 : M24.1 110 0 = M.1 110 0 := congrFun (FM24 110 (by rw [kd_110]; rfl)).1 0
    have tM24_110_12 : M24.1 110 12 = M.1 110 12 := congrFun (FM24 110 (by rw [kd_110]; rfl)).1 12
    have tM24_110_16 : M24.1 110 16 = M.1 110 16 := congrFun (FM24 110 (by rw [kd_110]; rfl)).1 16
    have tM24_110_17 : M24.1 110 17 = M.1 110 17 := congrFun (FM24 110 (by rw [kd_110]; rfl)).1 17
    refine L_st (st' := [.int (iI z26)]) rfl ?_
    refine L_pop C dL_law_185 rfl ?_
    refine L_aloadn C dL_law_186 2 rfl rfl ?_
    refine L_aloadn C dL_law_187 0 rfl rfl ?_
    refine L_iload C dL_law_188 4 rfl ?_
    refine L_iconst C dL_law_190 ?_
    refine L_iadd C dL_law_191 ?_
    refine L_sld C hX hbl hbA (by omega) (by omega) hL dL_law_192 (fun y27 ey27 ry27 => ?_)
    refine L_aloadn C dL_law_193 0 rfl rfl ?_
    refine L_iload C dL_law_194 4 rfl ?_
    refine L_iconst C dL_law_196 ?_
    refine L_iadd C dL_law_197 ?_
    refine L_sld C hX hbl hbA (by omega) (by omega) hL dL_law_198 (fun y28 ey28 ry28 => ?_)
    refine L_aloadn C dL_law_199 0 rfl rfl ?_
    refine L_iload C dL_law_200 4 rfl ?_
    refine L_iconst C dL_law_202 ?_
    refine L_iadd C dL_law_203 ?_
    refine L_sld C hX hbl hbA (by omega) (by omega) hL dL_law_204 (fun y29 ey29 ry29 => ?_)
    refine L_aloadn C dL_law_205 0 rfl rfl ?_
    refine L_iload C dL_law_206 4 rfl ?_
    refine L_iconst C dL_law_208 ?_
    refine L_iadd C dL_law_209 ?_
    refine L_sld C hX hbl hbA (by omega) (by omega) hL dL_law_210 (fun y30 ey30 ry30 => ?_)
    refine L_ifeq C 218 dL_law_211 (by decide) (by omega) (fun c31 => ?_) (fun c31 => ?_)
    · skip
      refine L_iconst C dL_law_218 ?_
      refine L_callV C (As := [.int (iI y27), .int (iI y28), .int (iI y29), .int (iI 0)]) (n := 4) (st := []) (kX8_earth ry27 ry28 ry29 (by omega)) gL_law_X8_earth rfl (by decide +kernel) ⟨Nat.le_of_ble_eq_true rfl, Nat.le_of_ble_eq_true rfl⟩ kd_110 rfl rfl rfl rfl (Nat.le_of_ble_eq_true rfl) dL_law_219 ⟨(by show k0 ≤ 601024; omega), (by show w0 ≤ 7293034; omega)⟩ rfl ⟨WM24, by omega⟩ (fun r32 M33 h34 => ?_)
      obtain ⟨z35, rfl, lz35, uz35, WM33, FM33, xM33⟩ := h34
      have tM33_6_1 : M33.1 6 1 = M24.1 6 1 := congrFun (FM33 6 (by rw [kd_6]; rfl)).1 1
      have tM33_94_0 : M33.1 94 0 = M24.1 94 0 := congrFun (FM33 94 (by rw [kd_94]; rfl)).1 0
      have tM33_101_1 : M33.1 101 1 = M24.1 101 1 := congrFun (FM33 101 (by rw [kd_101]; rfl)).1 1
      have tM33_101_2 : M33.1 101 2 = M24.1 101 2 := congrFun (FM33 101 (by rw [kd_101]; rfl)).1 2
      refine L_st (st' := [.int (iI z35)]) rfl ?_
      refine L_pop C dL_law_222 rfl ?_
      refine L_goto C 752 dL_law_223 (by decide) ?_
      refine L_widen (k1 := k0 + 1) (w1 := w0 + 6) (by omega) (by omega) ?_
      exact Hk M33 WM33 (by omega)
    · skip
      refine L_iconst C dL_law_214 ?_
      refine L_goto C 219 dL_law_215 (by decide) ?_
      refine L_callV C (As := [.int (iI y27), .int (iI y28), .int (iI y29), .int (iI 1)]) (n := 4) (st := []) (kX8_earth ry27 ry28 ry29 (by omega)) gL_law_X8_earth rfl (by decide +kernel) ⟨Nat.le_of_ble_eq_true rfl, Nat.le_of_ble_eq_true rfl⟩ kd_110 rfl rfl rfl rfl (Nat.le_of_ble_eq_true rfl) dL_law_219 ⟨(by show k0 ≤ 601024; omega), (by show w0 ≤ 7293034; omega)⟩ rfl ⟨WM24, by omega⟩ (fun r36 M37 h38 => ?_)
      obtain ⟨z39, rfl, lz39, uz39, WM37, FM37, xM37⟩ := h38
      have tM37_6_1 : M37.1 6 1 = M24.1 6 1 := congrFun (FM37 6 (by rw [kd_6]; rfl)).1 1
      have tM37_94_0 : M37.1 94 0 = M24.1 94 0 := congrFun (FM37 94 (by rw [kd_94]; rfl)).1 0
      have tM37_101_1 : M37.1 101 1 = M24.1 101 1 := congrFun (FM37 101 (by rw [kd_101]; rfl)).1 1
      have tM37_101_2 : M37.1 101 2 = M24.1 101 2 := congrFun (FM37 101 (by rw [kd_101]; rfl)).1 2
      refine L_st (st' := [.int (iI z39)]) rfl ?_
      refine L_pop C dL_law_222 rfl ?_
      refine L_goto C 752 dL_law_223 (by decide) ?_
      refine L_widen (k1 := k0 + 1) (w1 := w0 + 6) (by omega) (by omega) ?_
      exact Hk M37 WM37 (by omega)
set_option maxHeartbeats 4000000 in
theorem lc_2 {p : Program} {l : Launch} {e : Env} {s : State} {m : MethodId} {args : Array Value} {below : List Frame} {meth : Method} {c : Code} {G : xG} {b L : Nat} {xs : Nat → Int32} {Q : State → Prop} (C : Cx p s m args meth c G cL_law 8 RL wsL_law (some .boolean)) (hl0 : l.stackTraces = false) (hT : xTh G.2.2 s s.heap) (hX : va_X b L xs s s.heap) (hbl : b < s.heap.size) (hbA : ¬ G.2.2 ≤ b) (hL : L ≤ 2560) {k0 w0 : Nat} (hk : k0 + 1 ≤ 601024 ∧ w0 + 6 ≤ 7293034) {i : Int} (hi : 0 ≤ i ∧ i + 5 ≤ (L : Int)) {M : Mem} (W : WF M) (J : (M.1 110 16 + M.1 110 17 ≤ M.1 110 0 + 1 ∧ M.1 6 1 = M.1 110 0 ∧ M.1 94 0 = M.1 110 12 ∧ M.1 101 2 = M.1 110 17 ∧ (1 ≤ M.1 110 17 → (M.1 101 1 = M.1 110 16 ∧ 0 ≤ M.1 110 16)) ∧ (M.1 110 17 ≤ 0 → M.1 110 16 < 0)))
    (Hk : ∀ M' : Mem, WF M' → (M'.1 110 16 + M'.1 110 17 ≤ M'.1 110 0 + 1 ∧ M'.1 6 1 = M'.1 110 0 ∧ M'.1 94 0 = M'.1 110 12 ∧ M'.1 101 2 = M'.1 110 17 ∧ (1 ≤ M'.1 110 17 → (M'.1 101 1 = M'.1 110 16 ∧ 0 ≤ M'.1 110 16)) ∧ (M'.1 110 17 ≤ 0 → M'.1 110 16 < 0)) → LW p l e room_1 s m args below meth c G 8 Q (k0 + 1) (w0 + 6) M' 752 [(0, .ref b), (1, .ref (G.2.2 + 0)), (2, .ref (G.2.2 + 110)), (3, .ref (G.2.2 + 130)), (4, .int (iI i))] []) : LW p l e room_1 s m args below meth c G 8 Q k0 w0 M 226 [(0, .ref b), (1, .ref (G.2.2 + 0)), (2, .ref (G.2.2 + 110)), (3, .ref (G.2.2 + 130)), (4, .int (iI i))] [] := by
  refine L_aloadn C dL_law_226 1 rfl rfl ?_
  refine L_aloadn C dL_law_227 0 rfl rfl ?_
  refine L_iload C dL_law_228 4 rfl ?_
  refine L_iconst C dL_law_230 ?_
  refine L_iadd C dL_law_231 ?_
  refine L_sld C hX hbl hbA (by omega) (by omega) hL dL_law_232 (fun y1 ey1 ry1 => ?_)
  refine L_aloadn C dL_law_233 0 rfl rfl ?_
  refine L_iload C dL_law_234 4 rfl ?_
  refine L_iconst C dL_law_236 ?_
  refine L_iadd C dL_law_237 ?_
  refine L_sld C hX hbl hbA (by omega) (by omega) hL dL_law_238 (fun y2 ey2 ry2 => ?_)
  refine L_aloadn C dL_law_239 0 rfl rfl ?_
  refine L_iload C dL_law_240 4 rfl ?_
  refine L_iconst C dL_law_242 ?_
  refine L_iadd C dL_law_243 ?_
  refine L_sld C hX hbl hbA (by omega) (by omega) hL dL_law_244 (fun y3 ey3 ry3 => ?_)
  refine L_callV C (As := [.int (iI y1), .int (iI y2), .int (iI y3)]) (n := 3) (st := []) (kX7_lay kd_0 ry1 ry2 ry3) gL_law_X7_lay rfl (by decide +kernel) ⟨Nat.le_of_ble_eq_true rfl, Nat.le_of_ble_eq_true rfl⟩ kd_0 rfl rfl rfl rfl (Nat.le_of_ble_eq_true rfl) dL_law_245 ⟨(by show k0 ≤ 601024; omega), (by show w0 ≤ 7293034; omega)⟩ rfl W (fun r4 M5 h6 => ?_)
  obtain ⟨z7, rfl, lz7, uz7, WM5, FM5⟩ := h6
  have tM5_6_1 : M5.1 6 1 = M.1 6 1 := congrFun (FM5 6 (by rw [kd_6]; rfl)).1 1
  have tM5_94_0 : M5.1 94 0 = M.1 94 0 := congrFun (FM5 94 (by rw [kd_94]; rfl)).1 0
  have tM5_101_1 : M5.1 101 1 = M.1 101 1 := congrFun (FM5 101 (by rw [kd_101]; rfl)).1 1
  have tM5_101_2 : M5.1 101 2 = M.1 101 2 := congrFun (FM5 101 (by rw [kd_101]; rfl)).1 2
  have tM5_110_0 : M5.1 110 0 = M.1 110 0 := congrFun (FM5 110 (by rw [kd_110]; rfl)).1 0
  have tM5_110_12 : M5.1 110 12 = M.1 110 12 := congrFun (FM5 110 (by rw [kd_110]; rfl)).1 12
  have tM5_110_16 : M5.1 110 16 = M.1 110 16 := congrFun (FM5 110 (by rw [kd_110]; rfl)).1 16
  have tM5_110_17 : M5.1 110 17 = M.1 110 17 := congrFun (FM5 110 (by rw [kd_110]; rfl)).1 17
  refine L_st (st' := [.int (iI z7)]) rfl ?_
  refine L_pop C dL_law_248 rfl ?_
  refine L_aloadn C dL_law_249 2 rfl rfl ?_
  refine L_aloadn C dL_law_250 0 rfl rfl ?_
  refine L_iload C dL_law_251 4 rfl ?_
  refine L_iconst C dL_law_253 ?_
  refine L_iadd C dL_law_254 ?_
  refine L_sld C hX hbl hbA (by omega) (by omega) hL dL_law_255 (fun y8 ey8 ry8 => ?_)
  refine L_aloadn C dL_law_256 0 rfl rfl ?_
  refine L_iload C dL_law_257 4 rfl ?_
  refine L_iconst C dL_law_259 ?_
  refine L_iadd C dL_law_260 ?_
  refine L_sld C hX hbl hbA (by omega) (by omega) hL dL_law_261 (fun y9 ey9 ry9 => ?_)
  refine L_aloadn C dL_law_262 0 rfl rfl ?_
  refine L_iload C dL_law_263 4 rfl ?_
  refine L_iconst C dL_law_265 ?_
  refine L_iadd C dL_law_266 ?_
  refine L_sld C hX hbl hbA (by omega) (by omega) hL dL_law_267 (fun y10 ey10 ry10 => ?_)
  refine L_callV C (As := [.int (iI y8), .int (iI y9), .int (iI y10)]) (n := 3) (st := []) (kX8_lay ry8 ry9 ry10) gL_law_X8_lay rfl (by decide +kernel) ⟨Nat.le_of_ble_eq_true rfl, Nat.le_of_ble_eq_true rfl⟩ kd_110 rfl rfl rfl rfl (Nat.le_of_ble_eq_true rfl) dL_law_268 ⟨(by show k0 ≤ 601024; omega), (by show w0 ≤ 7293034; omega)⟩ rfl ⟨WM5, by omega⟩ (fun r11 M12 h13 => ?_)
  obtain ⟨z14, rfl, lz14, uz14, WM12, FM12, xM12⟩ := h13
  have tM12_6_1 : M12.1 6 1 = M5.1 6 1 := congrFun (FM12 6 (by rw [kd_6]; rfl)).1 1
  have tM12_94_0 : M12.1 94 0 = M5.1 94 0 := congrFun (FM12 94 (by rw [kd_94]; rfl)).1 0
  have tM12_101_1 : M12.1 101 1 = M5.1 101 1 := congrFun (FM12 101 (by rw [kd_101]; rfl)).1 1
  have tM12_101_2 : M12.1 101 2 = M5.1 101 2 := congrFun (FM12 101 (by rw [kd_101]; rfl)).1 2
  refine L_st (st' := [.int (iI z14)]) rfl ?_
  refine L_pop C dL_law_271 rfl ?_
  refine L_goto C 752 dL_law_272 (by decide) ?_
  refine L_widen (k1 := k0 + 1) (w1 := w0 + 6) (by omega) (by omega) ?_
  exact Hk M12 WM12 (by omega)
set_option maxHeartbeats 4000000 in
theorem lc_3 {p : Program} {l : Launch} {e : Env} {s : State} {m : MethodId} {args : Array Value} {below : List Frame} {meth : Method} {c : Code} {G : xG} {b L : Nat} {xs : Nat → Int32} {Q : State → Prop} (C : Cx p s m args meth c G cL_law 8 RL wsL_law (some .boolean)) (hl0 : l.stackTraces = false) (hT : xTh G.2.2 s s.heap) (hX : va_X b L xs s s.heap) (hbl : b < s.heap.size) (hbA : ¬ G.2.2 ≤ b) (hL : L ≤ 2560) {k0 w0 : Nat} (hk : k0 + 1 ≤ 601024 ∧ w0 + 6 ≤ 7293034) {i : Int} (hi : 0 ≤ i ∧ i + 5 ≤ (L : Int)) {M : Mem} (W : WF M) (J : (M.1 110 16 + M.1 110 17 ≤ M.1 110 0 + 1 ∧ M.1 6 1 = M.1 110 0 ∧ M.1 94 0 = M.1 110 12 ∧ M.1 101 2 = M.1 110 17 ∧ (1 ≤ M.1 110 17 → (M.1 101 1 = M.1 110 16 ∧ 0 ≤ M.1 110 16)) ∧ (M.1 110 17 ≤ 0 → M.1 110 16 < 0)))
    (Hk : ∀ M' : Mem, WF M' → (M'.1 110 16 + M'.1 110 17 ≤ M'.1 110 0 + 1 ∧ M'.1 6 1 = M'.1 110 0 ∧ M'.1 94 0 = M'.1 110 12 ∧ M'.1 101 2 = M'.1 110 17 ∧ (1 ≤ M'.1 110 17 → (M'.1 101 1 = M'.1 110 16 ∧ 0 ≤ M'.1 110 16)) ∧ (M'.1 110 17 ≤ 0 → M'.1 110 16 < 0)) → LW p l e room_1 s m args below meth c G 8 Q (k0 + 1) (w0 + 6) M' 752 [(0, .ref b), (1, .ref (G.2.2 + 0)), (2, .ref (G.2.2 + 110)), (3, .ref (G.2.2 + 130)), (4, .int (iI i))] []) : LW p l e room_1 s m args below meth c G 8 Q k0 w0 M 275 [(0, .ref b), (1, .ref (G.2.2 + 0)), (2, .ref (G.2.2 + 110)), (3, .ref (G.2.2 + 130)), (4, .int (iI i))] [] := by
  refine L_aloadn C dL_law_275 1 rfl rfl ?_
  refine L_aloadn C dL_law_276 0 rfl rfl ?_
  refine L_iload C dL_law_277 4 rfl ?_
  refine L_iconst C dL_law_279 ?_
  refine L_iadd C dL_law_280 ?_
  refine L_sld C hX hbl hbA (by omega) (by omega) hL dL_law_281 (fun y1 ey1 ry1 => ?_)
  refine L_aloadn C dL_law_282 0 rfl rfl ?_
  refine L_iload C dL_law_283 4 rfl ?_
  refine L_iconst C dL_law_285 ?_
  refine L_iadd C dL_law_286 ?_
  refine L_sld C hX hbl hbA (by omega) (by omega) hL dL_law_287 (fun y2 ey2 ry2 => ?_)
  refine L_aloadn C dL_law_288 0 rfl rfl ?_
  refine L_iload C dL_law_289 4 rfl ?_
  refine L_iconst C dL_law_291 ?_
  refine L_iadd C dL_law_292 ?_
  refine L_sld C hX hbl hbA (by omega) (by omega) hL dL_law_293 (fun y3 ey3 ry3 => ?_)
  refine L_callV C (As := [.int (iI y1), .int (iI y2), .int (iI y3)]) (n := 3) (st := []) (kX7_set kd_0 ry1 ry2 ry3) gL_law_X7_set rfl (by decide +kernel) ⟨Nat.le_of_ble_eq_true rfl, Nat.le_of_ble_eq_true rfl⟩ kd_0 rfl rfl rfl rfl (Nat.le_of_ble_eq_true rfl) dL_law_294 ⟨(by show k0 ≤ 601024; omega), (by show w0 ≤ 7293034; omega)⟩ rfl W (fun r4 M5 h6 => ?_)
  obtain ⟨z7, rfl, lz7, uz7, WM5, FM5, xM5⟩ := h6
  have tM5_6_1 : M5.1 6 1 = M.1 6 1 := congrFun (FM5 6 (by rw [kd_6]; rfl)).1 1
  have tM5_94_0 : M5.1 94 0 = M.1 94 0 := congrFun (FM5 94 (by rw [kd_94]; rfl)).1 0
  have tM5_101_1 : M5.1 101 1 = M.1 101 1 := congrFun (FM5 101 (by rw [kd_101]; rfl)).1 1
  have tM5_101_2 : M5.1 101 2 = M.1 101 2 := congrFun (FM5 101 (by rw [kd_101]; rfl)).1 2
  have tM5_110_0 : M5.1 110 0 = M.1 110 0 := congrFun (FM5 110 (by rw [kd_110]; rfl)).1 0
  have tM5_110_12 : M5.1 110 12 = M.1 110 12 := congrFun (FM5 110 (by rw [kd_110]; rfl)).1 12
  have tM5_110_16 : M5.1 110 16 = M.1 110 16 := congrFun (FM5 110 (by rw [kd_110]; rfl)).1 16
  have tM5_110_17 : M5.1 110 17 = M.1 110 17 := congrFun (FM5 110 (by rw [kd_110]; rfl)).1 17
  refine L_st (st' := [.int (iI z7)]) rfl ?_
  refine L_pop C dL_law_297 rfl ?_
  refine L_aloadn C dL_law_298 2 rfl rfl ?_
  refine L_aloadn C dL_law_299 0 rfl rfl ?_
  refine L_iload C dL_law_300 4 rfl ?_
  refine L_iconst C dL_law_302 ?_
  refine L_iadd C dL_law_303 ?_
  refine L_sld C hX hbl hbA (by omega) (by omega) hL dL_law_304 (fun y8 ey8 ry8 => ?_)
  refine L_aloadn C dL_law_305 0 rfl rfl ?_
  refine L_iload C dL_law_306 4 rfl ?_
  refine L_iconst C dL_law_308 ?_
  refine L_iadd C dL_law_309 ?_
  refine L_sld C hX hbl hbA (by omega) (by omega) hL dL_law_310 (fun y9 ey9 ry9 => ?_)
  refine L_aloadn C dL_law_311 0 rfl rfl ?_
  refine L_iload C dL_law_312 4 rfl ?_
  refine L_iconst C dL_law_314 ?_
  refine L_iadd C dL_law_315 ?_
  refine L_sld C hX hbl hbA (by omega) (by omega) hL dL_law_316 (fun y10 ey10 ry10 => ?_)
  refine L_callV C (As := [.int (iI y8), .int (iI y9), .int (iI y10)]) (n := 3) (st := []) (kX8_set ry8 ry9 ry10) gL_law_X8_set rfl (by decide +kernel) ⟨Nat.le_of_ble_eq_true rfl, Nat.le_of_ble_eq_true rfl⟩ kd_110 rfl rfl rfl rfl (Nat.le_of_ble_eq_true rfl) dL_law_317 ⟨(by show k0 ≤ 601024; omega), (by show w0 ≤ 7293034; omega)⟩ rfl ⟨WM5, by omega⟩ (fun r11 M12 h13 => ?_)
  obtain ⟨z14, rfl, lz14, uz14, WM12, FM12, xM12⟩ := h13
  have tM12_6_1 : M12.1 6 1 = M5.1 6 1 := congrFun (FM12 6 (by rw [kd_6]; rfl)).1 1
  have tM12_94_0 : M12.1 94 0 = M5.1 94 0 := congrFun (FM12 94 (by rw [kd_94]; rfl)).1 0
  have tM12_101_1 : M12.1 101 1 = M5.1 101 1 := congrFun (FM12 101 (by rw [kd_101]; rfl)).1 1
  have tM12_101_2 : M12.1 101 2 = M5.1 101 2 := congrFun (FM12 101 (by rw [kd_101]; rfl)).1 2
  refine L_st (st' := [.int (iI z14)]) rfl ?_
  refine L_pop C dL_law_320 rfl ?_
  refine L_goto C 752 dL_law_321 (by decide) ?_
  refine L_widen (k1 := k0 + 1) (w1 := w0 + 6) (by omega) (by omega) ?_
  exact Hk M12 WM12 (by omega)
set_option maxHeartbeats 4000000 in
theorem lc_4 {p : Program} {l : Launch} {e : Env} {s : State} {m : MethodId} {args : Array Value} {below : List Frame} {meth : Method} {c : Code} {G : xG} {b L : Nat} {xs : Nat → Int32} {Q : State → Prop} (C : Cx p s m args meth c G cL_law 8 RL wsL_law (some .boolean)) (hl0 : l.stackTraces = false) (hT : xTh G.2.2 s s.heap) (hX : va_X b L xs s s.heap) (hbl : b < s.heap.size) (hbA : ¬ G.2.2 ≤ b) (hL : L ≤ 2560) {k0 w0 : Nat} (hk : k0 + 1 ≤ 601024 ∧ w0 + 6 ≤ 7293034) {i : Int} (hi : 0 ≤ i ∧ i + 5 ≤ (L : Int)) {M : Mem} (W : WF M) (J : (M.1 110 16 + M.1 110 17 ≤ M.1 110 0 + 1 ∧ M.1 6 1 = M.1 110 0 ∧ M.1 94 0 = M.1 110 12 ∧ M.1 101 2 = M.1 110 17 ∧ (1 ≤ M.1 110 17 → (M.1 101 1 = M.1 110 16 ∧ 0 ≤ M.1 110 16)) ∧ (M.1 110 17 ≤ 0 → M.1 110 16 < 0)))
    (Hk : ∀ M' : Mem, WF M' → (M'.1 110 16 + M'.1 110 17 ≤ M'.1 110 0 + 1 ∧ M'.1 6 1 = M'.1 110 0 ∧ M'.1 94 0 = M'.1 110 12 ∧ M'.1 101 2 = M'.1 110 17 ∧ (1 ≤ M'.1 110 17 → (M'.1 101 1 = M'.1 110 16 ∧ 0 ≤ M'.1 110 16)) ∧ (M'.1 110 17 ≤ 0 → M'.1 110 16 < 0)) → LW p l e room_1 s m args below meth c G 8 Q (k0 + 1) (w0 + 6) M' 752 [(0, .ref b), (1, .ref (G.2.2 + 0)), (2, .ref (G.2.2 + 110)), (3, .ref (G.2.2 + 130)), (4, .int (iI i))] []) : LW p l e room_1 s m args below meth c G 8 Q k0 w0 M 324 [(0, .ref b), (1, .ref (G.2.2 + 0)), (2, .ref (G.2.2 + 110)), (3, .ref (G.2.2 + 130)), (4, .int (iI i))] [] := by
  refine L_aloadn C dL_law_324 1 rfl rfl ?_
  refine L_aloadn C dL_law_325 0 rfl rfl ?_
  refine L_iload C dL_law_326 4 rfl ?_
  refine L_iconst C dL_law_328 ?_
  refine L_iadd C dL_law_329 ?_
  refine L_sld C hX hbl hbA (by omega) (by omega) hL dL_law_330 (fun y1 ey1 ry1 => ?_)
  refine L_aloadn C dL_law_331 0 rfl rfl ?_
  refine L_iload C dL_law_332 4 rfl ?_
  refine L_iconst C dL_law_334 ?_
  refine L_iadd C dL_law_335 ?_
  refine L_sld C hX hbl hbA (by omega) (by omega) hL dL_law_336 (fun y2 ey2 ry2 => ?_)
  refine L_aloadn C dL_law_337 3 rfl rfl ?_
  refine L_callSW C hl0 hT (As := [.ref 0, .int (iI y1), .int (iI y2), .ref 130]) (n := 4) (st := []) (kL_look ry1 ry2) gL_law_L_look rfl (by decide +kernel) ⟨Nat.le_of_ble_eq_true rfl, Nat.le_of_ble_eq_true rfl⟩ rfl (Nat.le_of_ble_eq_true rfl) dL_law_338 ⟨(by show k0 + 1 ≤ 601024; omega), (by show w0 + 6 ≤ 7293034; omega)⟩ rfl W (fun r3 M4 h5 => ?_)
  obtain ⟨z6, rfl, rz6, WM4, FM4⟩ := h5
  have tM4_6_1 : M4.1 6 1 = M.1 6 1 := congrFun (FM4 6 (by rw [kd_6]; rfl)).1 1
  have tM4_94_0 : M4.1 94 0 = M.1 94 0 := congrFun (FM4 94 (by rw [kd_94]; rfl)).1 0
  have tM4_101_1 : M4.1 101 1 = M.1 101 1 := congrFun (FM4 101 (by rw [kd_101]; rfl)).1 1
  have tM4_101_2 : M4.1 101 2 = M.1 101 2 := congrFun (FM4 101 (by rw [kd_101]; rfl)).1 2
  have tM4_110_0 : M4.1 110 0 = M.1 110 0 := congrFun (FM4 110 (by rw [kd_110]; rfl)).1 0
  have tM4_110_12 : M4.1 110 12 = M.1 110 12 := congrFun (FM4 110 (by rw [kd_110]; rfl)).1 12
  have tM4_110_16 : M4.1 110 16 = M.1 110 16 := congrFun (FM4 110 (by rw [kd_110]; rfl)).1 16
  have tM4_110_17 : M4.1 110 17 = M.1 110 17 := congrFun (FM4 110 (by rw [kd_110]; rfl)).1 17
  refine L_st (st' := [.int (iI z6)]) rfl ?_
  refine L_istore (lv' := [(5, .int (iI z6)), (0, .ref b), (1, .ref (G.2.2 + 0)), (2, .ref (G.2.2 + 110)), (3, .ref (G.2.2 + 130)), (4, .int (iI i))]) C dL_law_341 (by decide) rfl ?_
  refine L_aloadn C dL_law_343 3 rfl rfl ?_
  refine L_aloadn C dL_law_344 1 rfl rfl ?_
  refine L_iload C dL_law_345 5 rfl ?_
  refine L_iconst C dL_law_347 ?_
  refine L_iadd C dL_law_348 ?_
  refine L_sld C hX hbl hbA (by omega) (by omega) hL dL_law_349 (fun y7 ey7 ry7 => ?_)
  refine L_aloadn C dL_law_350 1 rfl rfl ?_
  refine L_iload C dL_law_351 5 rfl ?_
  refine L_iconst C dL_law_353 ?_
  refine L_iadd C dL_law_354 ?_
  refine L_sld C hX hbl hbA (by omega) (by omega) hL dL_law_355 (fun y8 ey8 ry8 => ?_)
  refine L_callV C (As := [.int (iI y7), .int (iI y8)]) (n := 2) (st := []) (kX8_look ry7 ry8) gL_law_X8_look rfl (by decide +kernel) ⟨Nat.le_of_ble_eq_true rfl, Nat.le_of_ble_eq_true rfl⟩ kd_110 rfl rfl rfl rfl (Nat.le_of_ble_eq_true rfl) dL_law_356 ⟨(by show k0 + 1 ≤ 601024; omega), (by show w0 + 6 ≤ 7293034; omega)⟩ rfl ⟨WM4, by omega⟩ (fun r9 M10 h11 => ?_)
  obtain ⟨z12, rfl, lz12, uz12, WM10, FM10, xM10⟩ := h11
  have tM10_6_1 : M10.1 6 1 = M4.1 6 1 := congrFun (FM10 6 (by rw [kd_6]; rfl)).1 1
  have tM10_94_0 : M10.1 94 0 = M4.1 94 0 := congrFun (FM10 94 (by rw [kd_94]; rfl)).1 0
  have tM10_101_1 : M10.1 101 1 = M4.1 101 1 := congrFun (FM10 101 (by rw [kd_101]; rfl)).1 1
  have tM10_101_2 : M10.1 101 2 = M4.1 101 2 := congrFun (FM10 101 (by rw [kd_101]; rfl)).1 2
  refine L_st (st' := [.int (iI z12)]) rfl ?_
  refine L_istore (lv' := [(6, .int (iI z12)), (5, .int (iI z6)), (0, .ref b), (1, .ref (G.2.2 + 0)), (2, .ref (G.2.2 + 110)), (3, .ref (G.2.2 + 130)), (4, .int (iI i))]) C dL_law_359 (by decide) rfl ?_
  refine L_goto C 752 dL_law_361 (by decide) ?_
  refine L_pick [2, 3, 4, 5, 6] rfl ?_
  exact Hk M10 WM10 (by omega)
set_option maxHeartbeats 4000000 in
theorem lc_5 {p : Program} {l : Launch} {e : Env} {s : State} {m : MethodId} {args : Array Value} {below : List Frame} {meth : Method} {c : Code} {G : xG} {b L : Nat} {xs : Nat → Int32} {Q : State → Prop} (C : Cx p s m args meth c G cL_law 8 RL wsL_law (some .boolean)) (hl0 : l.stackTraces = false) (hT : xTh G.2.2 s s.heap) (hX : va_X b L xs s s.heap) (hbl : b < s.heap.size) (hbA : ¬ G.2.2 ≤ b) (hL : L ≤ 2560) {k0 w0 : Nat} (hk : k0 + 1 ≤ 601024 ∧ w0 + 6 ≤ 7293034) {i : Int} (hi : 0 ≤ i ∧ i + 5 ≤ (L : Int)) {M : Mem} (W : WF M) (J : (M.1 110 16 + M.1 110 17 ≤ M.1 110 0 + 1 ∧ M.1 6 1 = M.1 110 0 ∧ M.1 94 0 = M.1 110 12 ∧ M.1 101 2 = M.1 110 17 ∧ (1 ≤ M.1 110 17 → (M.1 101 1 = M.1 110 16 ∧ 0 ≤ M.1 110 16)) ∧ (M.1 110 17 ≤ 0 → M.1 110 16 < 0)))
    (Hk : ∀ M' : Mem, WF M' → (M'.1 110 16 + M'.1 110 17 ≤ M'.1 110 0 + 1 ∧ M'.1 6 1 = M'.1 110 0 ∧ M'.1 94 0 = M'.1 110 12 ∧ M'.1 101 2 = M'.1 110 17 ∧ (1 ≤ M'.1 110 17 → (M'.1 101 1 = M'.1 110 16 ∧ 0 ≤ M'.1 110 16)) ∧ (M'.1 110 17 ≤ 0 → M'.1 110 16 < 0)) → LW p l e room_1 s m args below meth c G 8 Q (k0 + 1) (w0 + 6) M' 752 [(0, .ref b), (1, .ref (G.2.2 + 0)), (2, .ref (G.2.2 + 110)), (3, .ref (G.2.2 + 130)), (4, .int (iI i))] []) : LW p l e room_1 s m args below meth c G 8 Q k0 w0 M 364 [(0, .ref b), (1, .ref (G.2.2 + 0)), (2, .ref (G.2.2 + 110)), (3, .ref (G.2.2 + 130)), (4, .int (iI i))] [] := by
  refine L_aloadn C dL_law_364 1 rfl rfl ?_
  refine L_aloadn C dL_law_365 0 rfl rfl ?_
  refine L_iload C dL_law_366 4 rfl ?_
  refine L_iconst C dL_law_368 ?_
  refine L_iadd C dL_law_369 ?_
  refine L_sld C hX hbl hbA (by omega) (by omega) hL dL_law_370 (fun y1 ey1 ry1 => ?_)
  refine L_aloadn C dL_law_371 0 rfl rfl ?_
  refine L_iload C dL_law_372 4 rfl ?_
  refine L_iconst C dL_law_374 ?_
  refine L_iadd C dL_law_375 ?_
  refine L_sld C hX hbl hbA (by omega) (by omega) hL dL_law_376 (fun y2 ey2 ry2 => ?_)
  refine L_callV C (As := [.int (iI y1), .int (iI y2)]) (n := 2) (st := []) (kX7_cell kd_0 ry1 ry2) gL_law_X7_cell rfl (by decide +kernel) ⟨Nat.le_of_ble_eq_true rfl, Nat.le_of_ble_eq_true rfl⟩ kd_0 rfl rfl rfl rfl (Nat.le_of_ble_eq_true rfl) dL_law_377 ⟨(by show k0 ≤ 601024; omega), (by show w0 ≤ 7293034; omega)⟩ rfl W (fun r3 M4 h5 => ?_)
  obtain ⟨z6, rfl, lz6, uz6, WM4, FM4⟩ := h5
  have tM4_6_1 : M4.1 6 1 = M.1 6 1 := congrFun (FM4 6 (by rw [kd_6]; rfl)).1 1
  have tM4_94_0 : M4.1 94 0 = M.1 94 0 := congrFun (FM4 94 (by rw [kd_94]; rfl)).1 0
  have tM4_101_1 : M4.1 101 1 = M.1 101 1 := congrFun (FM4 101 (by rw [kd_101]; rfl)).1 1
  have tM4_101_2 : M4.1 101 2 = M.1 101 2 := congrFun (FM4 101 (by rw [kd_101]; rfl)).1 2
  have tM4_110_0 : M4.1 110 0 = M.1 110 0 := congrFun (FM4 110 (by rw [kd_110]; rfl)).1 0
  have tM4_110_12 : M4.1 110 12 = M.1 110 12 := congrFun (FM4 110 (by rw [kd_110]; rfl)).1 12
  have tM4_110_16 : M4.1 110 16 = M.1 110 16 := congrFun (FM4 110 (by rw [kd_110]; rfl)).1 16
  have tM4_110_17 : M4.1 110 17 = M.1 110 17 := congrFun (FM4 110 (by rw [kd_110]; rfl)).1 17
  refine L_st (st' := [.int (iI z6)]) rfl ?_
  refine L_pop C dL_law_380 rfl ?_
  refine L_aloadn C dL_law_381 2 rfl rfl ?_
  refine L_aloadn C dL_law_382 0 rfl rfl ?_
  refine L_iload C dL_law_383 4 rfl ?_
  refine L_iconst C dL_law_385 ?_
  refine L_iadd C dL_law_386 ?_
  refine L_sld C hX hbl hbA (by omega) (by omega) hL dL_law_387 (fun y7 ey7 ry7 => ?_)
  refine L_aloadn C dL_law_388 0 rfl rfl ?_
  refine L_iload C dL_law_389 4 rfl ?_
  refine L_iconst C dL_law_391 ?_
  refine L_iadd C dL_law_392 ?_
  refine L_sld C hX hbl hbA (by omega) (by omega) hL dL_law_393 (fun y8 ey8 ry8 => ?_)
  refine L_callV C (As := [.int (iI y7), .int (iI y8)]) (n := 2) (st := []) (kX8_cell ry7 ry8) gL_law_X8_cell rfl (by decide +kernel) ⟨Nat.le_of_ble_eq_true rfl, Nat.le_of_ble_eq_true rfl⟩ kd_110 rfl rfl rfl rfl (Nat.le_of_ble_eq_true rfl) dL_law_394 ⟨(by show k0 ≤ 601024; omega), (by show w0 ≤ 7293034; omega)⟩ rfl ⟨WM4, by omega⟩ (fun r9 M10 h11 => ?_)
  obtain ⟨z12, rfl, lz12, uz12, WM10, FM10, xM10⟩ := h11
  have tM10_6_1 : M10.1 6 1 = M4.1 6 1 := congrFun (FM10 6 (by rw [kd_6]; rfl)).1 1
  have tM10_94_0 : M10.1 94 0 = M4.1 94 0 := congrFun (FM10 94 (by rw [kd_94]; rfl)).1 0
  have tM10_101_1 : M10.1 101 1 = M4.1 101 1 := congrFun (FM10 101 (by rw [kd_101]; rfl)).1 1
  have tM10_101_2 : M10.1 101 2 = M4.1 101 2 := congrFun (FM10 101 (by rw [kd_101]; rfl)).1 2
  refine L_st (st' := [.int (iI z12)]) rfl ?_
  refine L_pop C dL_law_397 rfl ?_
  refine L_goto C 752 dL_law_398 (by decide) ?_
  refine L_widen (k1 := k0 + 1) (w1 := w0 + 6) (by omega) (by omega) ?_
  exact Hk M10 WM10 (by omega)
set_option maxHeartbeats 4000000 in
theorem lc_6 {p : Program} {l : Launch} {e : Env} {s : State} {m : MethodId} {args : Array Value} {below : List Frame} {meth : Method} {c : Code} {G : xG} {b L : Nat} {xs : Nat → Int32} {Q : State → Prop} (C : Cx p s m args meth c G cL_law 8 RL wsL_law (some .boolean)) (hl0 : l.stackTraces = false) (hT : xTh G.2.2 s s.heap) (hX : va_X b L xs s s.heap) (hbl : b < s.heap.size) (hbA : ¬ G.2.2 ≤ b) (hL : L ≤ 2560) {k0 w0 : Nat} (hk : k0 + 1 ≤ 601024 ∧ w0 + 6 ≤ 7293034) {i : Int} (hi : 0 ≤ i ∧ i + 5 ≤ (L : Int)) {M : Mem} (W : WF M) (J : (M.1 110 16 + M.1 110 17 ≤ M.1 110 0 + 1 ∧ M.1 6 1 = M.1 110 0 ∧ M.1 94 0 = M.1 110 12 ∧ M.1 101 2 = M.1 110 17 ∧ (1 ≤ M.1 110 17 → (M.1 101 1 = M.1 110 16 ∧ 0 ≤ M.1 110 16)) ∧ (M.1 110 17 ≤ 0 → M.1 110 16 < 0)))
    (Hk : ∀ M' : Mem, WF M' → (M'.1 110 16 + M'.1 110 17 ≤ M'.1 110 0 + 1 ∧ M'.1 6 1 = M'.1 110 0 ∧ M'.1 94 0 = M'.1 110 12 ∧ M'.1 101 2 = M'.1 110 17 ∧ (1 ≤ M'.1 110 17 → (M'.1 101 1 = M'.1 110 16 ∧ 0 ≤ M'.1 110 16)) ∧ (M'.1 110 17 ≤ 0 → M'.1 110 16 < 0)) → LW p l e room_1 s m args below meth c G 8 Q (k0 + 1) (w0 + 6) M' 752 [(0, .ref b), (1, .ref (G.2.2 + 0)), (2, .ref (G.2.2 + 110)), (3, .ref (G.2.2 + 130)), (4, .int (iI i))] []) : LW p l e room_1 s m args below meth c G 8 Q k0 w0 M 401 [(0, .ref b), (1, .ref (G.2.2 + 0)), (2, .ref (G.2.2 + 110)), (3, .ref (G.2.2 + 130)), (4, .int (iI i))] [] := by
  refine L_aloadn C dL_law_401 1 rfl rfl ?_
  refine L_aloadn C dL_law_402 0 rfl rfl ?_
  refine L_iload C dL_law_403 4 rfl ?_
  refine L_iconst C dL_law_405 ?_
  refine L_iadd C dL_law_406 ?_
  refine L_sld C hX hbl hbA (by omega) (by omega) hL dL_law_407 (fun y1 ey1 ry1 => ?_)
  refine L_aloadn C dL_law_408 0 rfl rfl ?_
  refine L_iload C dL_law_409 4 rfl ?_
  refine L_iconst C dL_law_411 ?_
  refine L_iadd C dL_law_412 ?_
  refine L_sld C hX hbl hbA (by omega) (by omega) hL dL_law_413 (fun y2 ey2 ry2 => ?_)
  refine L_callV C (As := [.int (iI y1), .int (iI y2)]) (n := 2) (st := []) (kX7_begin kd_0 ry1 ry2) gL_law_X7_begin rfl (by decide +kernel) ⟨Nat.le_of_ble_eq_true rfl, Nat.le_of_ble_eq_true rfl⟩ kd_0 rfl rfl rfl rfl (Nat.le_of_ble_eq_true rfl) dL_law_414 ⟨(by show k0 ≤ 601024; omega), (by show w0 ≤ 7293034; omega)⟩ rfl W (fun r3 M4 h5 => ?_)
  obtain ⟨z6, rfl, lz6, uz6, WM4, FM4, xM4⟩ := h5
  have tM4_6_1 : M4.1 6 1 = M.1 6 1 := congrFun (FM4 6 (by rw [kd_6]; rfl)).1 1
  have tM4_94_0 : M4.1 94 0 = M.1 94 0 := congrFun (FM4 94 (by rw [kd_94]; rfl)).1 0
  have tM4_110_0 : M4.1 110 0 = M.1 110 0 := congrFun (FM4 110 (by rw [kd_110]; rfl)).1 0
  have tM4_110_12 : M4.1 110 12 = M.1 110 12 := congrFun (FM4 110 (by rw [kd_110]; rfl)).1 12
  have tM4_110_16 : M4.1 110 16 = M.1 110 16 := congrFun (FM4 110 (by rw [kd_110]; rfl)).1 16
  have tM4_110_17 : M4.1 110 17 = M.1 110 17 := congrFun (FM4 110 (by rw [kd_110]; rfl)).1 17
  refine L_st (st' := [.int (iI z6)]) rfl ?_
  refine L_pop C dL_law_417 rfl ?_
  refine L_aloadn C dL_law_418 2 rfl rfl ?_
  refine L_aloadn C dL_law_419 0 rfl rfl ?_
  refine L_iload C dL_law_420 4 rfl ?_
  refine L_iconst C dL_law_422 ?_
  refine L_iadd C dL_law_423 ?_
  refine L_sld C hX hbl hbA (by omega) (by omega) hL dL_law_424 (fun y7 ey7 ry7 => ?_)
  refine L_aloadn C dL_law_425 0 rfl rfl ?_
  refine L_iload C dL_law_426 4 rfl ?_
  refine L_iconst C dL_law_428 ?_
  refine L_iadd C dL_law_429 ?_
  refine L_sld C hX hbl hbA (by omega) (by omega) hL dL_law_430 (fun y8 ey8 ry8 => ?_)
  refine L_callV C (As := [.int (iI y7), .int (iI y8)]) (n := 2) (st := []) (kX8_begin ry7 ry8) gL_law_X8_begin rfl (by decide +kernel) ⟨Nat.le_of_ble_eq_true rfl, Nat.le_of_ble_eq_true rfl⟩ kd_110 rfl rfl rfl rfl (Nat.le_of_ble_eq_true rfl) dL_law_431 ⟨(by show k0 ≤ 601024; omega), (by show w0 ≤ 7293034; omega)⟩ rfl ⟨WM4, by omega⟩ (fun r9 M10 h11 => ?_)
  obtain ⟨z12, rfl, lz12, uz12, WM10, FM10, xM10⟩ := h11
  have tM10_6_1 : M10.1 6 1 = M4.1 6 1 := congrFun (FM10 6 (by rw [kd_6]; rfl)).1 1
  have tM10_94_0 : M10.1 94 0 = M4.1 94 0 := congrFun (FM10 94 (by rw [kd_94]; rfl)).1 0
  have tM10_101_1 : M10.1 101 1 = M4.1 101 1 := congrFun (FM10 101 (by rw [kd_101]; rfl)).1 1
  have tM10_101_2 : M10.1 101 2 = M4.1 101 2 := congrFun (FM10 101 (by rw [kd_101]; rfl)).1 2
  refine L_st (st' := [.int (iI z12)]) rfl ?_
  refine L_pop C dL_law_434 rfl ?_
  refine L_goto C 752 dL_law_435 (by decide) ?_
  refine L_widen (k1 := k0 + 1) (w1 := w0 + 6) (by omega) (by omega) ?_
  exact Hk M10 WM10 (by omega)
set_option maxHeartbeats 4000000 in
theorem lc_7 {p : Program} {l : Launch} {e : Env} {s : State} {m : MethodId} {args : Array Value} {below : List Frame} {meth : Method} {c : Code} {G : xG} {b L : Nat} {xs : Nat → Int32} {Q : State → Prop} (C : Cx p s m args meth c G cL_law 8 RL wsL_law (some .boolean)) (hl0 : l.stackTraces = false) (hT : xTh G.2.2 s s.heap) (hX : va_X b L xs s s.heap) (hbl : b < s.heap.size) (hbA : ¬ G.2.2 ≤ b) (hL : L ≤ 2560) {k0 w0 : Nat} (hk : k0 + 1 ≤ 601024 ∧ w0 + 6 ≤ 7293034) {i : Int} (hi : 0 ≤ i ∧ i + 5 ≤ (L : Int)) {M : Mem} (W : WF M) (J : (M.1 110 16 + M.1 110 17 ≤ M.1 110 0 + 1 ∧ M.1 6 1 = M.1 110 0 ∧ M.1 94 0 = M.1 110 12 ∧ M.1 101 2 = M.1 110 17 ∧ (1 ≤ M.1 110 17 → (M.1 101 1 = M.1 110 16 ∧ 0 ≤ M.1 110 16)) ∧ (M.1 110 17 ≤ 0 → M.1 110 16 < 0)))
    (Hk : ∀ M' : Mem, WF M' → (M'.1 110 16 + M'.1 110 17 ≤ M'.1 110 0 + 1 ∧ M'.1 6 1 = M'.1 110 0 ∧ M'.1 94 0 = M'.1 110 12 ∧ M'.1 101 2 = M'.1 110 17 ∧ (1 ≤ M'.1 110 17 → (M'.1 101 1 = M'.1 110 16 ∧ 0 ≤ M'.1 110 16)) ∧ (M'.1 110 17 ≤ 0 → M'.1 110 16 < 0)) → LW p l e room_1 s m args below meth c G 8 Q (k0 + 1) (w0 + 6) M' 752 [(0, .ref b), (1, .ref (G.2.2 + 0)), (2, .ref (G.2.2 + 110)), (3, .ref (G.2.2 + 130)), (4, .int (iI i))] []) : LW p l e room_1 s m args below meth c G 8 Q k0 w0 M 438 [(0, .ref b), (1, .ref (G.2.2 + 0)), (2, .ref (G.2.2 + 110)), (3, .ref (G.2.2 + 130)), (4, .int (iI i))] [] := by
  refine L_aloadn C dL_law_438 1 rfl rfl ?_
  refine L_aloadn C dL_law_439 0 rfl rfl ?_
  refine L_iload C dL_law_440 4 rfl ?_
  refine L_iconst C dL_law_442 ?_
  refine L_iadd C dL_law_443 ?_
  refine L_sld C hX hbl hbA (by omega) (by omega) hL dL_law_444 (fun y1 ey1 ry1 => ?_)
  refine L_callV C (As := [.int (iI y1)]) (n := 1) (st := []) (kX7_next kd_0 ry1) gL_law_X7_next rfl (by decide +kernel) ⟨Nat.le_of_ble_eq_true rfl, Nat.le_of_ble_eq_true rfl⟩ kd_0 rfl rfl rfl rfl (Nat.le_of_ble_eq_true rfl) dL_law_445 ⟨(by show k0 ≤ 601024; omega), (by show w0 ≤ 7293034; omega)⟩ rfl W (fun r2 M3 h4 => ?_)
  obtain ⟨z5, rfl, lz5, uz5, WM3, FM3, xM3⟩ := h4
  have tM3_6_1 : M3.1 6 1 = M.1 6 1 := congrFun (FM3 6 (by rw [kd_6]; rfl)).1 1
  have tM3_94_0 : M3.1 94 0 = M.1 94 0 := congrFun (FM3 94 (by rw [kd_94]; rfl)).1 0
  have tM3_110_0 : M3.1 110 0 = M.1 110 0 := congrFun (FM3 110 (by rw [kd_110]; rfl)).1 0
  have tM3_110_12 : M3.1 110 12 = M.1 110 12 := congrFun (FM3 110 (by rw [kd_110]; rfl)).1 12
  have tM3_110_16 : M3.1 110 16 = M.1 110 16 := congrFun (FM3 110 (by rw [kd_110]; rfl)).1 16
  have tM3_110_17 : M3.1 110 17 = M.1 110 17 := congrFun (FM3 110 (by rw [kd_110]; rfl)).1 17
  refine L_st (st' := [.int (iI z5)]) rfl ?_
  refine L_pop C dL_law_448 rfl ?_
  refine L_aloadn C dL_law_449 2 rfl rfl ?_
  refine L_aloadn C dL_law_450 0 rfl rfl ?_
  refine L_iload C dL_law_451 4 rfl ?_
  refine L_iconst C dL_law_453 ?_
  refine L_iadd C dL_law_454 ?_
  refine L_sld C hX hbl hbA (by omega) (by omega) hL dL_law_455 (fun y6 ey6 ry6 => ?_)
  refine L_callV C (As := [.int (iI y6)]) (n := 1) (st := []) (kX8_next ry6) gL_law_X8_next rfl (by decide +kernel) ⟨Nat.le_of_ble_eq_true rfl, Nat.le_of_ble_eq_true rfl⟩ kd_110 rfl rfl rfl rfl (Nat.le_of_ble_eq_true rfl) dL_law_456 ⟨(by show k0 ≤ 601024; omega), (by show w0 ≤ 7293034; omega)⟩ rfl ⟨WM3, by omega⟩ (fun r7 M8 h9 => ?_)
  obtain ⟨z10, rfl, lz10, uz10, WM8, FM8, xM8⟩ := h9
  have tM8_6_1 : M8.1 6 1 = M3.1 6 1 := congrFun (FM8 6 (by rw [kd_6]; rfl)).1 1
  have tM8_94_0 : M8.1 94 0 = M3.1 94 0 := congrFun (FM8 94 (by rw [kd_94]; rfl)).1 0
  have tM8_101_1 : M8.1 101 1 = M3.1 101 1 := congrFun (FM8 101 (by rw [kd_101]; rfl)).1 1
  have tM8_101_2 : M8.1 101 2 = M3.1 101 2 := congrFun (FM8 101 (by rw [kd_101]; rfl)).1 2
  refine L_st (st' := [.int (iI z10)]) rfl ?_
  refine L_pop C dL_law_459 rfl ?_
  refine L_goto C 752 dL_law_460 (by decide) ?_
  refine L_widen (k1 := k0 + 1) (w1 := w0 + 6) (by omega) (by omega) ?_
  exact Hk M8 WM8 (by omega)
set_option maxHeartbeats 4000000 in
theorem lc_8 {p : Program} {l : Launch} {e : Env} {s : State} {m : MethodId} {args : Array Value} {below : List Frame} {meth : Method} {c : Code} {G : xG} {b L : Nat} {xs : Nat → Int32} {Q : State → Prop} (C : Cx p s m args meth c G cL_law 8 RL wsL_law (some .boolean)) (hl0 : l.stackTraces = false) (hT : xTh G.2.2 s s.heap) (hX : va_X b L xs s s.heap) (hbl : b < s.heap.size) (hbA : ¬ G.2.2 ≤ b) (hL : L ≤ 2560) {k0 w0 : Nat} (hk : k0 + 1 ≤ 601024 ∧ w0 + 6 ≤ 7293034) {i : Int} (hi : 0 ≤ i ∧ i + 5 ≤ (L : Int)) {M : Mem} (W : WF M) (J : (M.1 110 16 + M.1 110 17 ≤ M.1 110 0 + 1 ∧ M.1 6 1 = M.1 110 0 ∧ M.1 94 0 = M.1 110 12 ∧ M.1 101 2 = M.1 110 17 ∧ (1 ≤ M.1 110 17 → (M.1 101 1 = M.1 110 16 ∧ 0 ≤ M.1 110 16)) ∧ (M.1 110 17 ≤ 0 → M.1 110 16 < 0)))
    (Hk : ∀ M' : Mem, WF M' → (M'.1 110 16 + M'.1 110 17 ≤ M'.1 110 0 + 1 ∧ M'.1 6 1 = M'.1 110 0 ∧ M'.1 94 0 = M'.1 110 12 ∧ M'.1 101 2 = M'.1 110 17 ∧ (1 ≤ M'.1 110 17 → (M'.1 101 1 = M'.1 110 16 ∧ 0 ≤ M'.1 110 16)) ∧ (M'.1 110 17 ≤ 0 → M'.1 110 16 < 0)) → LW p l e room_1 s m args below meth c G 8 Q (k0 + 1) (w0 + 6) M' 752 [(0, .ref b), (1, .ref (G.2.2 + 0)), (2, .ref (G.2.2 + 110)), (3, .ref (G.2.2 + 130)), (4, .int (iI i))] []) : LW p l e room_1 s m args below meth c G 8 Q k0 w0 M 463 [(0, .ref b), (1, .ref (G.2.2 + 0)), (2, .ref (G.2.2 + 110)), (3, .ref (G.2.2 + 130)), (4, .int (iI i))] [] := by
  refine L_aloadn C dL_law_463 1 rfl rfl ?_
  refine L_callV C (As := []) (n := 0) (st := []) (kX7_line kd_0 ) gL_law_X7_line rfl (by decide +kernel) ⟨Nat.le_of_ble_eq_true rfl, Nat.le_of_ble_eq_true rfl⟩ kd_0 rfl rfl rfl rfl (Nat.le_of_ble_eq_true rfl) dL_law_464 ⟨(by show k0 ≤ 601024; omega), (by show w0 ≤ 7293034; omega)⟩ rfl W (fun r1 M2 h3 => ?_)
  obtain ⟨z4, rfl, lz4, uz4, WM2, FM2⟩ := h3
  have tM2_6_1 : M2.1 6 1 = M.1 6 1 := congrFun (FM2 6 (by rw [kd_6]; rfl)).1 1
  have tM2_94_0 : M2.1 94 0 = M.1 94 0 := congrFun (FM2 94 (by rw [kd_94]; rfl)).1 0
  have tM2_101_1 : M2.1 101 1 = M.1 101 1 := congrFun (FM2 101 (by rw [kd_101]; rfl)).1 1
  have tM2_101_2 : M2.1 101 2 = M.1 101 2 := congrFun (FM2 101 (by rw [kd_101]; rfl)).1 2
  have tM2_110_0 : M2.1 110 0 = M.1 110 0 := congrFun (FM2 110 (by rw [kd_110]; rfl)).1 0
  have tM2_110_12 : M2.1 110 12 = M.1 110 12 := congrFun (FM2 110 (by rw [kd_110]; rfl)).1 12
  have tM2_110_16 : M2.1 110 16 = M.1 110 16 := congrFun (FM2 110 (by rw [kd_110]; rfl)).1 16
  have tM2_110_17 : M2.1 110 17 = M.1 110 17 := congrFun (FM2 110 (by rw [kd_110]; rfl)).1 17
  refine L_st (st' := [.int (iI z4)]) rfl ?_
  refine L_pop C dL_law_467 rfl ?_
  refine L_aloadn C dL_law_468 2 rfl rfl ?_
  refine L_callV C (As := []) (n := 0) (st := []) (kX8_line ) gL_law_X8_line rfl (by decide +kernel) ⟨Nat.le_of_ble_eq_true rfl, Nat.le_of_ble_eq_true rfl⟩ kd_110 rfl rfl rfl rfl (Nat.le_of_ble_eq_true rfl) dL_law_469 ⟨(by show k0 ≤ 601024; omega), (by show w0 ≤ 7293034; omega)⟩ rfl ⟨WM2, by omega⟩ (fun r5 M6 h7 => ?_)
  obtain ⟨z8, rfl, lz8, uz8, WM6, FM6, xM6⟩ := h7
  have tM6_6_1 : M6.1 6 1 = M2.1 6 1 := congrFun (FM6 6 (by rw [kd_6]; rfl)).1 1
  have tM6_94_0 : M6.1 94 0 = M2.1 94 0 := congrFun (FM6 94 (by rw [kd_94]; rfl)).1 0
  have tM6_101_1 : M6.1 101 1 = M2.1 101 1 := congrFun (FM6 101 (by rw [kd_101]; rfl)).1 1
  have tM6_101_2 : M6.1 101 2 = M2.1 101 2 := congrFun (FM6 101 (by rw [kd_101]; rfl)).1 2
  refine L_st (st' := [.int (iI z8)]) rfl ?_
  refine L_pop C dL_law_472 rfl ?_
  refine L_goto C 752 dL_law_473 (by decide) ?_
  refine L_widen (k1 := k0 + 1) (w1 := w0 + 6) (by omega) (by omega) ?_
  exact Hk M6 WM6 (by omega)
set_option maxHeartbeats 4000000 in
theorem lc_9 {p : Program} {l : Launch} {e : Env} {s : State} {m : MethodId} {args : Array Value} {below : List Frame} {meth : Method} {c : Code} {G : xG} {b L : Nat} {xs : Nat → Int32} {Q : State → Prop} (C : Cx p s m args meth c G cL_law 8 RL wsL_law (some .boolean)) (hl0 : l.stackTraces = false) (hT : xTh G.2.2 s s.heap) (hX : va_X b L xs s s.heap) (hbl : b < s.heap.size) (hbA : ¬ G.2.2 ≤ b) (hL : L ≤ 2560) {k0 w0 : Nat} (hk : k0 + 1 ≤ 601024 ∧ w0 + 6 ≤ 7293034) {i : Int} (hi : 0 ≤ i ∧ i + 5 ≤ (L : Int)) {M : Mem} (W : WF M) (J : (M.1 110 16 + M.1 110 17 ≤ M.1 110 0 + 1 ∧ M.1 6 1 = M.1 110 0 ∧ M.1 94 0 = M.1 110 12 ∧ M.1 101 2 = M.1 110 17 ∧ (1 ≤ M.1 110 17 → (M.1 101 1 = M.1 110 16 ∧ 0 ≤ M.1 110 16)) ∧ (M.1 110 17 ≤ 0 → M.1 110 16 < 0)))
    (Hk : ∀ M' : Mem, WF M' → (M'.1 110 16 + M'.1 110 17 ≤ M'.1 110 0 + 1 ∧ M'.1 6 1 = M'.1 110 0 ∧ M'.1 94 0 = M'.1 110 12 ∧ M'.1 101 2 = M'.1 110 17 ∧ (1 ≤ M'.1 110 17 → (M'.1 101 1 = M'.1 110 16 ∧ 0 ≤ M'.1 110 16)) ∧ (M'.1 110 17 ≤ 0 → M'.1 110 16 < 0)) → LW p l e room_1 s m args below meth c G 8 Q (k0 + 1) (w0 + 6) M' 752 [(0, .ref b), (1, .ref (G.2.2 + 0)), (2, .ref (G.2.2 + 110)), (3, .ref (G.2.2 + 130)), (4, .int (iI i))] []) : LW p l e room_1 s m args below meth c G 8 Q k0 w0 M 476 [(0, .ref b), (1, .ref (G.2.2 + 0)), (2, .ref (G.2.2 + 110)), (3, .ref (G.2.2 + 130)), (4, .int (iI i))] [] := by
  refine L_aloadn C dL_law_476 1 rfl rfl ?_
  refine L_aloadn C dL_law_477 0 rfl rfl ?_
  refine L_iload C dL_law_478 4 rfl ?_
  refine L_iconst C dL_law_480 ?_
  refine L_iadd C dL_law_481 ?_
  refine L_sld C hX hbl hbA (by omega) (by omega) hL dL_law_482 (fun y1 ey1 ry1 => ?_)
  refine L_aloadn C dL_law_483 3 rfl rfl ?_
  refine L_callSW C hl0 hT (As := [.ref 0, .int (iI y1), .ref 130]) (n := 3) (st := []) (kL_share ry1) gL_law_L_share rfl (by decide +kernel) ⟨Nat.le_of_ble_eq_true rfl, Nat.le_of_ble_eq_true rfl⟩ rfl (Nat.le_of_ble_eq_true rfl) dL_law_484 ⟨(by show k0 + 1 ≤ 601024; omega), (by show w0 + 6 ≤ 7293034; omega)⟩ rfl W (fun r2 M3 h4 => ?_)
  obtain ⟨z5, rfl, rz5, WM3, FM3⟩ := h4
  have tM3_6_1 : M3.1 6 1 = M.1 6 1 := congrFun (FM3 6 (by rw [kd_6]; rfl)).1 1
  have tM3_94_0 : M3.1 94 0 = M.1 94 0 := congrFun (FM3 94 (by rw [kd_94]; rfl)).1 0
  have tM3_101_1 : M3.1 101 1 = M.1 101 1 := congrFun (FM3 101 (by rw [kd_101]; rfl)).1 1
  have tM3_101_2 : M3.1 101 2 = M.1 101 2 := congrFun (FM3 101 (by rw [kd_101]; rfl)).1 2
  have tM3_110_0 : M3.1 110 0 = M.1 110 0 := congrFun (FM3 110 (by rw [kd_110]; rfl)).1 0
  have tM3_110_12 : M3.1 110 12 = M.1 110 12 := congrFun (FM3 110 (by rw [kd_110]; rfl)).1 12
  have tM3_110_16 : M3.1 110 16 = M.1 110 16 := congrFun (FM3 110 (by rw [kd_110]; rfl)).1 16
  have tM3_110_17 : M3.1 110 17 = M.1 110 17 := congrFun (FM3 110 (by rw [kd_110]; rfl)).1 17
  refine L_st (st' := [.int (iI z5)]) rfl ?_
  refine L_istore (lv' := [(5, .int (iI z5)), (0, .ref b), (1, .ref (G.2.2 + 0)), (2, .ref (G.2.2 + 110)), (3, .ref (G.2.2 + 130)), (4, .int (iI i))]) C dL_law_487 (by decide) rfl ?_
  refine L_aloadn C dL_law_489 3 rfl rfl ?_
  refine L_aloadn C dL_law_490 1 rfl rfl ?_
  refine L_iload C dL_law_491 5 rfl ?_
  refine L_iconst C dL_law_493 ?_
  refine L_iadd C dL_law_494 ?_
  refine L_sld C hX hbl hbA (by omega) (by omega) hL dL_law_495 (fun y6 ey6 ry6 => ?_)
  refine L_callV C (As := [.int (iI y6)]) (n := 1) (st := []) (kX8_share ry6) gL_law_X8_share rfl (by decide +kernel) ⟨Nat.le_of_ble_eq_true rfl, Nat.le_of_ble_eq_true rfl⟩ kd_110 rfl rfl rfl rfl (Nat.le_of_ble_eq_true rfl) dL_law_496 ⟨(by show k0 + 1 ≤ 601024; omega), (by show w0 + 6 ≤ 7293034; omega)⟩ rfl ⟨WM3, by omega⟩ (fun r7 M8 h9 => ?_)
  obtain ⟨z10, rfl, rz10, WM8, FM8, xM8⟩ := h9
  have tM8_6_1 : M8.1 6 1 = M3.1 6 1 := congrFun (FM8 6 (by rw [kd_6]; rfl)).1 1
  have tM8_94_0 : M8.1 94 0 = M3.1 94 0 := congrFun (FM8 94 (by rw [kd_94]; rfl)).1 0
  have tM8_101_1 : M8.1 101 1 = M3.1 101 1 := congrFun (FM8 101 (by rw [kd_101]; rfl)).1 1
  have tM8_101_2 : M8.1 101 2 = M3.1 101 2 := congrFun (FM8 101 (by rw [kd_101]; rfl)).1 2
  refine L_st (st' := [.long (lL z10)]) rfl ?_
  refine L_lstore (lv' := [(6, .long (lL z10)), (5, .int (iI z5)), (0, .ref b), (1, .ref (G.2.2 + 0)), (2, .ref (G.2.2 + 110)), (3, .ref (G.2.2 + 130)), (4, .int (iI i))]) C dL_law_499 (by decide) rfl ?_
  refine L_goto C 752 dL_law_501 (by decide) ?_
  refine L_pick [2, 3, 4, 5, 6] rfl ?_
  exact Hk M8 WM8 (by omega)
set_option maxHeartbeats 4000000 in
theorem lc_10 {p : Program} {l : Launch} {e : Env} {s : State} {m : MethodId} {args : Array Value} {below : List Frame} {meth : Method} {c : Code} {G : xG} {b L : Nat} {xs : Nat → Int32} {Q : State → Prop} (C : Cx p s m args meth c G cL_law 8 RL wsL_law (some .boolean)) (hl0 : l.stackTraces = false) (hT : xTh G.2.2 s s.heap) (hX : va_X b L xs s s.heap) (hbl : b < s.heap.size) (hbA : ¬ G.2.2 ≤ b) (hL : L ≤ 2560) {k0 w0 : Nat} (hk : k0 + 1 ≤ 601024 ∧ w0 + 6 ≤ 7293034) {i : Int} (hi : 0 ≤ i ∧ i + 5 ≤ (L : Int)) {M : Mem} (W : WF M) (J : (M.1 110 16 + M.1 110 17 ≤ M.1 110 0 + 1 ∧ M.1 6 1 = M.1 110 0 ∧ M.1 94 0 = M.1 110 12 ∧ M.1 101 2 = M.1 110 17 ∧ (1 ≤ M.1 110 17 → (M.1 101 1 = M.1 110 16 ∧ 0 ≤ M.1 110 16)) ∧ (M.1 110 17 ≤ 0 → M.1 110 16 < 0)))
    (Hk : ∀ M' : Mem, WF M' → (M'.1 110 16 + M'.1 110 17 ≤ M'.1 110 0 + 1 ∧ M'.1 6 1 = M'.1 110 0 ∧ M'.1 94 0 = M'.1 110 12 ∧ M'.1 101 2 = M'.1 110 17 ∧ (1 ≤ M'.1 110 17 → (M'.1 101 1 = M'.1 110 16 ∧ 0 ≤ M'.1 110 16)) ∧ (M'.1 110 17 ≤ 0 → M'.1 110 16 < 0)) → LW p l e room_1 s m args below meth c G 8 Q (k0 + 1) (w0 + 6) M' 752 [(0, .ref b), (1, .ref (G.2.2 + 0)), (2, .ref (G.2.2 + 110)), (3, .ref (G.2.2 + 130)), (4, .int (iI i))] []) : LW p l e room_1 s m args below meth c G 8 Q k0 w0 M 504 [(0, .ref b), (1, .ref (G.2.2 + 0)), (2, .ref (G.2.2 + 110)), (3, .ref (G.2.2 + 130)), (4, .int (iI i))] [] := by
  refine L_aloadn C dL_law_504 1 rfl rfl ?_
  refine L_aloadn C dL_law_505 0 rfl rfl ?_
  refine L_iload C dL_law_506 4 rfl ?_
  refine L_iconst C dL_law_508 ?_
  refine L_iadd C dL_law_509 ?_
  refine L_sld C hX hbl hbA (by omega) (by omega) hL dL_law_510 (fun y1 ey1 ry1 => ?_)
  refine L_callV C (As := [.int (iI y1)]) (n := 1) (st := []) (kX7_worst kd_0 ry1) gL_law_X7_worst rfl (by decide +kernel) ⟨Nat.le_of_ble_eq_true rfl, Nat.le_of_ble_eq_true rfl⟩ kd_0 rfl rfl rfl rfl (Nat.le_of_ble_eq_true rfl) dL_law_511 ⟨(by show k0 ≤ 601024; omega), (by show w0 ≤ 7293034; omega)⟩ rfl W (fun r2 M3 h4 => ?_)
  obtain ⟨z5, rfl, rz5, WM3, FM3⟩ := h4
  have tM3_6_1 : M3.1 6 1 = M.1 6 1 := congrFun (FM3 6 (by rw [kd_6]; rfl)).1 1
  have tM3_94_0 : M3.1 94 0 = M.1 94 0 := congrFun (FM3 94 (by rw [kd_94]; rfl)).1 0
  have tM3_101_1 : M3.1 101 1 = M.1 101 1 := congrFun (FM3 101 (by rw [kd_101]; rfl)).1 1
  have tM3_101_2 : M3.1 101 2 = M.1 101 2 := congrFun (FM3 101 (by rw [kd_101]; rfl)).1 2
  have tM3_110_0 : M3.1 110 0 = M.1 110 0 := congrFun (FM3 110 (by rw [kd_110]; rfl)).1 0
  have tM3_110_12 : M3.1 110 12 = M.1 110 12 := congrFun (FM3 110 (by rw [kd_110]; rfl)).1 12
  have tM3_110_16 : M3.1 110 16 = M.1 110 16 := congrFun (FM3 110 (by rw [kd_110]; rfl)).1 16
  have tM3_110_17 : M3.1 110 17 = M.1 110 17 := congrFun (FM3 110 (by rw [kd_110]; rfl)).1 17
  refine L_st (st' := [.long (lL z5)]) rfl ?_
  refine L_pop2 C dL_law_514 rfl ?_
  refine L_aloadn C dL_law_515 2 rfl rfl ?_
  refine L_aloadn C dL_law_516 0 rfl rfl ?_
  refine L_iload C dL_law_517 4 rfl ?_
  refine L_iconst C dL_law_519 ?_
  refine L_iadd C dL_law_520 ?_
  refine L_sld C hX hbl hbA (by omega) (by omega) hL dL_law_521 (fun y6 ey6 ry6 => ?_)
  refine L_callV C (As := [.int (iI y6)]) (n := 1) (st := []) (kX8_worst ry6) gL_law_X8_worst rfl (by decide +kernel) ⟨Nat.le_of_ble_eq_true rfl, Nat.le_of_ble_eq_true rfl⟩ kd_110 rfl rfl rfl rfl (Nat.le_of_ble_eq_true rfl) dL_law_522 ⟨(by show k0 ≤ 601024; omega), (by show w0 ≤ 7293034; omega)⟩ rfl ⟨WM3, by omega⟩ (fun r7 M8 h9 => ?_)
  obtain ⟨z10, rfl, rz10, WM8, FM8, xM8⟩ := h9
  have tM8_6_1 : M8.1 6 1 = M3.1 6 1 := congrFun (FM8 6 (by rw [kd_6]; rfl)).1 1
  have tM8_94_0 : M8.1 94 0 = M3.1 94 0 := congrFun (FM8 94 (by rw [kd_94]; rfl)).1 0
  have tM8_101_1 : M8.1 101 1 = M3.1 101 1 := congrFun (FM8 101 (by rw [kd_101]; rfl)).1 1
  have tM8_101_2 : M8.1 101 2 = M3.1 101 2 := congrFun (FM8 101 (by rw [kd_101]; rfl)).1 2
  refine L_st (st' := [.long (lL z10)]) rfl ?_
  refine L_pop2 C dL_law_525 rfl ?_
  refine L_goto C 752 dL_law_526 (by decide) ?_
  refine L_widen (k1 := k0 + 1) (w1 := w0 + 6) (by omega) (by omega) ?_
  exact Hk M8 WM8 (by omega)
set_option maxHeartbeats 4000000 in
theorem lc_11 {p : Program} {l : Launch} {e : Env} {s : State} {m : MethodId} {args : Array Value} {below : List Frame} {meth : Method} {c : Code} {G : xG} {b L : Nat} {xs : Nat → Int32} {Q : State → Prop} (C : Cx p s m args meth c G cL_law 8 RL wsL_law (some .boolean)) (hl0 : l.stackTraces = false) (hT : xTh G.2.2 s s.heap) (hX : va_X b L xs s s.heap) (hbl : b < s.heap.size) (hbA : ¬ G.2.2 ≤ b) (hL : L ≤ 2560) {k0 w0 : Nat} (hk : k0 + 1 ≤ 601024 ∧ w0 + 6 ≤ 7293034) {i : Int} (hi : 0 ≤ i ∧ i + 5 ≤ (L : Int)) {M : Mem} (W : WF M) (J : (M.1 110 16 + M.1 110 17 ≤ M.1 110 0 + 1 ∧ M.1 6 1 = M.1 110 0 ∧ M.1 94 0 = M.1 110 12 ∧ M.1 101 2 = M.1 110 17 ∧ (1 ≤ M.1 110 17 → (M.1 101 1 = M.1 110 16 ∧ 0 ≤ M.1 110 16)) ∧ (M.1 110 17 ≤ 0 → M.1 110 16 < 0)))
    (Hk : ∀ M' : Mem, WF M' → (M'.1 110 16 + M'.1 110 17 ≤ M'.1 110 0 + 1 ∧ M'.1 6 1 = M'.1 110 0 ∧ M'.1 94 0 = M'.1 110 12 ∧ M'.1 101 2 = M'.1 110 17 ∧ (1 ≤ M'.1 110 17 → (M'.1 101 1 = M'.1 110 16 ∧ 0 ≤ M'.1 110 16)) ∧ (M'.1 110 17 ≤ 0 → M'.1 110 16 < 0)) → LW p l e room_1 s m args below meth c G 8 Q (k0 + 1) (w0 + 6) M' 752 [(0, .ref b), (1, .ref (G.2.2 + 0)), (2, .ref (G.2.2 + 110)), (3, .ref (G.2.2 + 130)), (4, .int (iI i))] []) : LW p l e room_1 s m args below meth c G 8 Q k0 w0 M 529 [(0, .ref b), (1, .ref (G.2.2 + 0)), (2, .ref (G.2.2 + 110)), (3, .ref (G.2.2 + 130)), (4, .int (iI i))] [] := by
  refine L_aloadn C dL_law_529 1 rfl rfl ?_
  refine L_aloadn C dL_law_530 0 rfl rfl ?_
  refine L_iload C dL_law_531 4 rfl ?_
  refine L_iconst C dL_law_533 ?_
  refine L_iadd C dL_law_534 ?_
  refine L_sld C hX hbl hbA (by omega) (by omega) hL dL_law_535 (fun y1 ey1 ry1 => ?_)
  refine L_callV C (As := [.int (iI y1)]) (n := 1) (st := []) (kX7_height kd_0 ry1) gL_law_X7_height rfl (by decide +kernel) ⟨Nat.le_of_ble_eq_true rfl, Nat.le_of_ble_eq_true rfl⟩ kd_0 rfl rfl rfl rfl (Nat.le_of_ble_eq_true rfl) dL_law_536 ⟨(by show k0 ≤ 601024; omega), (by show w0 ≤ 7293034; omega)⟩ rfl W (fun r2 M3 h4 => ?_)
  obtain ⟨z5, rfl, lz5, uz5, WM3, FM3⟩ := h4
  have tM3_6_1 : M3.1 6 1 = M.1 6 1 := congrFun (FM3 6 (by rw [kd_6]; rfl)).1 1
  have tM3_94_0 : M3.1 94 0 = M.1 94 0 := congrFun (FM3 94 (by rw [kd_94]; rfl)).1 0
  have tM3_101_1 : M3.1 101 1 = M.1 101 1 := congrFun (FM3 101 (by rw [kd_101]; rfl)).1 1
  have tM3_101_2 : M3.1 101 2 = M.1 101 2 := congrFun (FM3 101 (by rw [kd_101]; rfl)).1 2
  have tM3_110_0 : M3.1 110 0 = M.1 110 0 := congrFun (FM3 110 (by rw [kd_110]; rfl)).1 0
  have tM3_110_12 : M3.1 110 12 = M.1 110 12 := congrFun (FM3 110 (by rw [kd_110]; rfl)).1 12
  have tM3_110_16 : M3.1 110 16 = M.1 110 16 := congrFun (FM3 110 (by rw [kd_110]; rfl)).1 16
  have tM3_110_17 : M3.1 110 17 = M.1 110 17 := congrFun (FM3 110 (by rw [kd_110]; rfl)).1 17
  refine L_st (st' := [.int (iI z5)]) rfl ?_
  refine L_pop C dL_law_539 rfl ?_
  refine L_aloadn C dL_law_540 2 rfl rfl ?_
  refine L_aloadn C dL_law_541 0 rfl rfl ?_
  refine L_iload C dL_law_542 4 rfl ?_
  refine L_iconst C dL_law_544 ?_
  refine L_iadd C dL_law_545 ?_
  refine L_sld C hX hbl hbA (by omega) (by omega) hL dL_law_546 (fun y6 ey6 ry6 => ?_)
  refine L_callV C (As := [.int (iI y6)]) (n := 1) (st := []) (kX8_height ry6) gL_law_X8_height rfl (by decide +kernel) ⟨Nat.le_of_ble_eq_true rfl, Nat.le_of_ble_eq_true rfl⟩ kd_110 rfl rfl rfl rfl (Nat.le_of_ble_eq_true rfl) dL_law_547 ⟨(by show k0 ≤ 601024; omega), (by show w0 ≤ 7293034; omega)⟩ rfl ⟨WM3, by omega⟩ (fun r7 M8 h9 => ?_)
  obtain ⟨z10, rfl, lz10, uz10, WM8, FM8, xM8⟩ := h9
  have tM8_6_1 : M8.1 6 1 = M3.1 6 1 := congrFun (FM8 6 (by rw [kd_6]; rfl)).1 1
  have tM8_94_0 : M8.1 94 0 = M3.1 94 0 := congrFun (FM8 94 (by rw [kd_94]; rfl)).1 0
  have tM8_101_1 : M8.1 101 1 = M3.1 101 1 := congrFun (FM8 101 (by rw [kd_101]; rfl)).1 1
  have tM8_101_2 : M8.1 101 2 = M3.1 101 2 := congrFun (FM8 101 (by rw [kd_101]; rfl)).1 2
  refine L_st (st' := [.int (iI z10)]) rfl ?_
  refine L_pop C dL_law_550 rfl ?_
  refine L_goto C 752 dL_law_551 (by decide) ?_
  refine L_widen (k1 := k0 + 1) (w1 := w0 + 6) (by omega) (by omega) ?_
  exact Hk M8 WM8 (by omega)
set_option maxHeartbeats 4000000 in
theorem lc_12 {p : Program} {l : Launch} {e : Env} {s : State} {m : MethodId} {args : Array Value} {below : List Frame} {meth : Method} {c : Code} {G : xG} {b L : Nat} {xs : Nat → Int32} {Q : State → Prop} (C : Cx p s m args meth c G cL_law 8 RL wsL_law (some .boolean)) (hl0 : l.stackTraces = false) (hT : xTh G.2.2 s s.heap) (hX : va_X b L xs s s.heap) (hbl : b < s.heap.size) (hbA : ¬ G.2.2 ≤ b) (hL : L ≤ 2560) {k0 w0 : Nat} (hk : k0 + 1 ≤ 601024 ∧ w0 + 6 ≤ 7293034) {i : Int} (hi : 0 ≤ i ∧ i + 5 ≤ (L : Int)) {M : Mem} (W : WF M) (J : (M.1 110 16 + M.1 110 17 ≤ M.1 110 0 + 1 ∧ M.1 6 1 = M.1 110 0 ∧ M.1 94 0 = M.1 110 12 ∧ M.1 101 2 = M.1 110 17 ∧ (1 ≤ M.1 110 17 → (M.1 101 1 = M.1 110 16 ∧ 0 ≤ M.1 110 16)) ∧ (M.1 110 17 ≤ 0 → M.1 110 16 < 0)))
    (Hk : ∀ M' : Mem, WF M' → (M'.1 110 16 + M'.1 110 17 ≤ M'.1 110 0 + 1 ∧ M'.1 6 1 = M'.1 110 0 ∧ M'.1 94 0 = M'.1 110 12 ∧ M'.1 101 2 = M'.1 110 17 ∧ (1 ≤ M'.1 110 17 → (M'.1 101 1 = M'.1 110 16 ∧ 0 ≤ M'.1 110 16)) ∧ (M'.1 110 17 ≤ 0 → M'.1 110 16 < 0)) → LW p l e room_1 s m args below meth c G 8 Q (k0 + 1) (w0 + 6) M' 752 [(0, .ref b), (1, .ref (G.2.2 + 0)), (2, .ref (G.2.2 + 110)), (3, .ref (G.2.2 + 130)), (4, .int (iI i))] []) : LW p l e room_1 s m args below meth c G 8 Q k0 w0 M 554 [(0, .ref b), (1, .ref (G.2.2 + 0)), (2, .ref (G.2.2 + 110)), (3, .ref (G.2.2 + 130)), (4, .int (iI i))] [] := by
  refine L_aloadn C dL_law_554 1 rfl rfl ?_
  refine L_aloadn C dL_law_555 0 rfl rfl ?_
  refine L_iload C dL_law_556 4 rfl ?_
  refine L_iconst C dL_law_558 ?_
  refine L_iadd C dL_law_559 ?_
  refine L_sld C hX hbl hbA (by omega) (by omega) hL dL_law_560 (fun y1 ey1 ry1 => ?_)
  refine L_aloadn C dL_law_561 0 rfl rfl ?_
  refine L_iload C dL_law_562 4 rfl ?_
  refine L_iconst C dL_law_564 ?_
  refine L_iadd C dL_law_565 ?_
  refine L_sld C hX hbl hbA (by omega) (by omega) hL dL_law_566 (fun y2 ey2 ry2 => ?_)
  refine L_callV C (As := [.int (iI y1), .int (iI y2)]) (n := 2) (st := []) (kX7_rise kd_0 ry1 ry2) gL_law_X7_rise rfl (by decide +kernel) ⟨Nat.le_of_ble_eq_true rfl, Nat.le_of_ble_eq_true rfl⟩ kd_0 rfl rfl rfl rfl (Nat.le_of_ble_eq_true rfl) dL_law_567 ⟨(by show k0 ≤ 601024; omega), (by show w0 ≤ 7293034; omega)⟩ rfl W (fun r3 M4 h5 => ?_)
  obtain ⟨z6, rfl, lz6, uz6, WM4, FM4⟩ := h5
  have tM4_6_1 : M4.1 6 1 = M.1 6 1 := congrFun (FM4 6 (by rw [kd_6]; rfl)).1 1
  have tM4_94_0 : M4.1 94 0 = M.1 94 0 := congrFun (FM4 94 (by rw [kd_94]; rfl)).1 0
  have tM4_101_1 : M4.1 101 1 = M.1 101 1 := congrFun (FM4 101 (by rw [kd_101]; rfl)).1 1
  have tM4_101_2 : M4.1 101 2 = M.1 101 2 := congrFun (FM4 101 (by rw [kd_101]; rfl)).1 2
  have tM4_110_0 : M4.1 110 0 = M.1 110 0 := congrFun (FM4 110 (by rw [kd_110]; rfl)).1 0
  have tM4_110_12 : M4.1 110 12 = M.1 110 12 := congrFun (FM4 110 (by rw [kd_110]; rfl)).1 12
  have tM4_110_16 : M4.1 110 16 = M.1 110 16 := congrFun (FM4 110 (by rw [kd_110]; rfl)).1 16
  have tM4_110_17 : M4.1 110 17 = M.1 110 17 := congrFun (FM4 110 (by rw [kd_110]; rfl)).1 17
  refine L_st (st' := [.int (iI z6)]) rfl ?_
  refine L_pop C dL_law_570 rfl ?_
  refine L_aloadn C dL_law_571 2 rfl rfl ?_
  refine L_aloadn C dL_law_572 0 rfl rfl ?_
  refine L_iload C dL_law_573 4 rfl ?_
  refine L_iconst C dL_law_575 ?_
  refine L_iadd C dL_law_576 ?_
  refine L_sld C hX hbl hbA (by omega) (by omega) hL dL_law_577 (fun y7 ey7 ry7 => ?_)
  refine L_aloadn C dL_law_578 0 rfl rfl ?_
  refine L_iload C dL_law_579 4 rfl ?_
  refine L_iconst C dL_law_581 ?_
  refine L_iadd C dL_law_582 ?_
  refine L_sld C hX hbl hbA (by omega) (by omega) hL dL_law_583 (fun y8 ey8 ry8 => ?_)
  refine L_callV C (As := [.int (iI y7), .int (iI y8)]) (n := 2) (st := []) (kX8_rise ry7 ry8) gL_law_X8_rise rfl (by decide +kernel) ⟨Nat.le_of_ble_eq_true rfl, Nat.le_of_ble_eq_true rfl⟩ kd_110 rfl rfl rfl rfl (Nat.le_of_ble_eq_true rfl) dL_law_584 ⟨(by show k0 ≤ 601024; omega), (by show w0 ≤ 7293034; omega)⟩ rfl ⟨WM4, by omega⟩ (fun r9 M10 h11 => ?_)
  obtain ⟨z12, rfl, lz12, uz12, WM10, FM10, xM10⟩ := h11
  have tM10_6_1 : M10.1 6 1 = M4.1 6 1 := congrFun (FM10 6 (by rw [kd_6]; rfl)).1 1
  have tM10_94_0 : M10.1 94 0 = M4.1 94 0 := congrFun (FM10 94 (by rw [kd_94]; rfl)).1 0
  have tM10_101_1 : M10.1 101 1 = M4.1 101 1 := congrFun (FM10 101 (by rw [kd_101]; rfl)).1 1
  have tM10_101_2 : M10.1 101 2 = M4.1 101 2 := congrFun (FM10 101 (by rw [kd_101]; rfl)).1 2
  refine L_st (st' := [.int (iI z12)]) rfl ?_
  refine L_pop C dL_law_587 rfl ?_
  refine L_goto C 752 dL_law_588 (by decide) ?_
  refine L_widen (k1 := k0 + 1) (w1 := w0 + 6) (by omega) (by omega) ?_
  exact Hk M10 WM10 (by omega)
set_option maxHeartbeats 4000000 in
theorem lc_13 {p : Program} {l : Launch} {e : Env} {s : State} {m : MethodId} {args : Array Value} {below : List Frame} {meth : Method} {c : Code} {G : xG} {b L : Nat} {xs : Nat → Int32} {Q : State → Prop} (C : Cx p s m args meth c G cL_law 8 RL wsL_law (some .boolean)) (hl0 : l.stackTraces = false) (hT : xTh G.2.2 s s.heap) (hX : va_X b L xs s s.heap) (hbl : b < s.heap.size) (hbA : ¬ G.2.2 ≤ b) (hL : L ≤ 2560) {k0 w0 : Nat} (hk : k0 + 1 ≤ 601024 ∧ w0 + 6 ≤ 7293034) {i : Int} (hi : 0 ≤ i ∧ i + 5 ≤ (L : Int)) {M : Mem} (W : WF M) (J : (M.1 110 16 + M.1 110 17 ≤ M.1 110 0 + 1 ∧ M.1 6 1 = M.1 110 0 ∧ M.1 94 0 = M.1 110 12 ∧ M.1 101 2 = M.1 110 17 ∧ (1 ≤ M.1 110 17 → (M.1 101 1 = M.1 110 16 ∧ 0 ≤ M.1 110 16)) ∧ (M.1 110 17 ≤ 0 → M.1 110 16 < 0)))
    (Hk : ∀ M' : Mem, WF M' → (M'.1 110 16 + M'.1 110 17 ≤ M'.1 110 0 + 1 ∧ M'.1 6 1 = M'.1 110 0 ∧ M'.1 94 0 = M'.1 110 12 ∧ M'.1 101 2 = M'.1 110 17 ∧ (1 ≤ M'.1 110 17 → (M'.1 101 1 = M'.1 110 16 ∧ 0 ≤ M'.1 110 16)) ∧ (M'.1 110 17 ≤ 0 → M'.1 110 16 < 0)) → LW p l e room_1 s m args below meth c G 8 Q (k0 + 1) (w0 + 6) M' 752 [(0, .ref b), (1, .ref (G.2.2 + 0)), (2, .ref (G.2.2 + 110)), (3, .ref (G.2.2 + 130)), (4, .int (iI i))] []) : LW p l e room_1 s m args below meth c G 8 Q k0 w0 M 591 [(0, .ref b), (1, .ref (G.2.2 + 0)), (2, .ref (G.2.2 + 110)), (3, .ref (G.2.2 + 130)), (4, .int (iI i))] [] := by
  refine L_aloadn C dL_law_591 1 rfl rfl ?_
  refine L_aloadn C dL_law_592 0 rfl rfl ?_
  refine L_iload C dL_law_593 4 rfl ?_
  refine L_iconst C dL_law_595 ?_
  refine L_iadd C dL_law_596 ?_
  refine L_sld C hX hbl hbA (by omega) (by omega) hL dL_law_597 (fun y1 ey1 ry1 => ?_)
  refine L_aloadn C dL_law_598 0 rfl rfl ?_
  refine L_iload C dL_law_599 4 rfl ?_
  refine L_iconst C dL_law_601 ?_
  refine L_iadd C dL_law_602 ?_
  refine L_sld C hX hbl hbA (by omega) (by omega) hL dL_law_603 (fun y2 ey2 ry2 => ?_)
  refine L_aloadn C dL_law_604 0 rfl rfl ?_
  refine L_iload C dL_law_605 4 rfl ?_
  refine L_iconst C dL_law_607 ?_
  refine L_iadd C dL_law_608 ?_
  refine L_sld C hX hbl hbA (by omega) (by omega) hL dL_law_609 (fun y3 ey3 ry3 => ?_)
  refine L_callV C (As := [.int (iI y1), .int (iI y2), .int (iI y3)]) (n := 3) (st := []) (kX7_act kd_0 ry1 ry2 ry3) gL_law_X7_act rfl (by decide +kernel) ⟨Nat.le_of_ble_eq_true rfl, Nat.le_of_ble_eq_true rfl⟩ kd_0 rfl rfl rfl rfl (Nat.le_of_ble_eq_true rfl) dL_law_610 ⟨(by show k0 ≤ 601024; omega), (by show w0 ≤ 7293034; omega)⟩ rfl W (fun r4 M5 h6 => ?_)
  obtain ⟨z7, rfl, lz7, uz7, WM5, FM5, xM5⟩ := h6
  have tM5_6_1 : M5.1 6 1 = M.1 6 1 := congrFun (FM5 6 (by rw [kd_6]; rfl)).1 1
  have tM5_101_1 : M5.1 101 1 = M.1 101 1 := congrFun (FM5 101 (by rw [kd_101]; rfl)).1 1
  have tM5_101_2 : M5.1 101 2 = M.1 101 2 := congrFun (FM5 101 (by rw [kd_101]; rfl)).1 2
  have tM5_110_0 : M5.1 110 0 = M.1 110 0 := congrFun (FM5 110 (by rw [kd_110]; rfl)).1 0
  have tM5_110_12 : M5.1 110 12 = M.1 110 12 := congrFun (FM5 110 (by rw [kd_110]; rfl)).1 12
  have tM5_110_16 : M5.1 110 16 = M.1 110 16 := congrFun (FM5 110 (by rw [kd_110]; rfl)).1 16
  have tM5_110_17 : M5.1 110 17 = M.1 110 17 := congrFun (FM5 110 (by rw [kd_110]; rfl)).1 17
  refine L_st (st' := [.int (iI z7)]) rfl ?_
  refine L_pop C dL_law_613 rfl ?_
  refine L_aloadn C dL_law_614 2 rfl rfl ?_
  refine L_aloadn C dL_law_615 0 rfl rfl ?_
  refine L_iload C dL_law_616 4 rfl ?_
  refine L_iconst C dL_law_618 ?_
  refine L_iadd C dL_law_619 ?_
  refine L_sld C hX hbl hbA (by omega) (by omega) hL dL_law_620 (fun y8 ey8 ry8 => ?_)
  refine L_aloadn C dL_law_621 0 rfl rfl ?_
  refine L_iload C dL_law_622 4 rfl ?_
  refine L_iconst C dL_law_624 ?_
  refine L_iadd C dL_law_625 ?_
  refine L_sld C hX hbl hbA (by omega) (by omega) hL dL_law_626 (fun y9 ey9 ry9 => ?_)
  refine L_aloadn C dL_law_627 0 rfl rfl ?_
  refine L_iload C dL_law_628 4 rfl ?_
  refine L_iconst C dL_law_630 ?_
  refine L_iadd C dL_law_631 ?_
  refine L_sld C hX hbl hbA (by omega) (by omega) hL dL_law_632 (fun y10 ey10 ry10 => ?_)
  refine L_callV C (As := [.int (iI y8), .int (iI y9), .int (iI y10)]) (n := 3) (st := []) (kX8_act ry8 ry9 ry10) gL_law_X8_act rfl (by decide +kernel) ⟨Nat.le_of_ble_eq_true rfl, Nat.le_of_ble_eq_true rfl⟩ kd_110 rfl rfl rfl rfl (Nat.le_of_ble_eq_true rfl) dL_law_633 ⟨(by show k0 ≤ 601024; omega), (by show w0 ≤ 7293034; omega)⟩ rfl ⟨WM5, by omega⟩ (fun r11 M12 h13 => ?_)
  obtain ⟨z14, rfl, lz14, uz14, WM12, FM12, xM12⟩ := h13
  have tM12_6_1 : M12.1 6 1 = M5.1 6 1 := congrFun (FM12 6 (by rw [kd_6]; rfl)).1 1
  have tM12_94_0 : M12.1 94 0 = M5.1 94 0 := congrFun (FM12 94 (by rw [kd_94]; rfl)).1 0
  have tM12_101_1 : M12.1 101 1 = M5.1 101 1 := congrFun (FM12 101 (by rw [kd_101]; rfl)).1 1
  have tM12_101_2 : M12.1 101 2 = M5.1 101 2 := congrFun (FM12 101 (by rw [kd_101]; rfl)).1 2
  refine L_st (st' := [.int (iI z14)]) rfl ?_
  refine L_pop C dL_law_636 rfl ?_
  refine L_goto C 752 dL_law_637 (by decide) ?_
  refine L_widen (k1 := k0 + 1) (w1 := w0 + 6) (by omega) (by omega) ?_
  exact Hk M12 WM12 (by omega)
set_option maxHeartbeats 4000000 in
theorem lc_14 {p : Program} {l : Launch} {e : Env} {s : State} {m : MethodId} {args : Array Value} {below : List Frame} {meth : Method} {c : Code} {G : xG} {b L : Nat} {xs : Nat → Int32} {Q : State → Prop} (C : Cx p s m args meth c G cL_law 8 RL wsL_law (some .boolean)) (hl0 : l.stackTraces = false) (hT : xTh G.2.2 s s.heap) (hX : va_X b L xs s s.heap) (hbl : b < s.heap.size) (hbA : ¬ G.2.2 ≤ b) (hL : L ≤ 2560) {k0 w0 : Nat} (hk : k0 + 1 ≤ 601024 ∧ w0 + 6 ≤ 7293034) {i : Int} (hi : 0 ≤ i ∧ i + 5 ≤ (L : Int)) {M : Mem} (W : WF M) (J : (M.1 110 16 + M.1 110 17 ≤ M.1 110 0 + 1 ∧ M.1 6 1 = M.1 110 0 ∧ M.1 94 0 = M.1 110 12 ∧ M.1 101 2 = M.1 110 17 ∧ (1 ≤ M.1 110 17 → (M.1 101 1 = M.1 110 16 ∧ 0 ≤ M.1 110 16)) ∧ (M.1 110 17 ≤ 0 → M.1 110 16 < 0)))
    (Hk : ∀ M' : Mem, WF M' → (M'.1 110 16 + M'.1 110 17 ≤ M'.1 110 0 + 1 ∧ M'.1 6 1 = M'.1 110 0 ∧ M'.1 94 0 = M'.1 110 12 ∧ M'.1 101 2 = M'.1 110 17 ∧ (1 ≤ M'.1 110 17 → (M'.1 101 1 = M'.1 110 16 ∧ 0 ≤ M'.1 110 16)) ∧ (M'.1 110 17 ≤ 0 → M'.1 110 16 < 0)) → LW p l e room_1 s m args below meth c G 8 Q (k0 + 1) (w0 + 6) M' 752 [(0, .ref b), (1, .ref (G.2.2 + 0)), (2, .ref (G.2.2 + 110)), (3, .ref (G.2.2 + 130)), (4, .int (iI i))] []) : LW p l e room_1 s m args below meth c G 8 Q k0 w0 M 640 [(0, .ref b), (1, .ref (G.2.2 + 0)), (2, .ref (G.2.2 + 110)), (3, .ref (G.2.2 + 130)), (4, .int (iI i))] [] := by
  refine L_aloadn C dL_law_640 1 rfl rfl ?_
  refine L_aloadn C dL_law_641 0 rfl rfl ?_
  refine L_iload C dL_law_642 4 rfl ?_
  refine L_iconst C dL_law_644 ?_
  refine L_iadd C dL_law_645 ?_
  refine L_sld C hX hbl hbA (by omega) (by omega) hL dL_law_646 (fun y1 ey1 ry1 => ?_)
  refine L_callV C (As := [.int (iI y1)]) (n := 1) (st := []) (kX7_perform kd_0 ry1) gL_law_X7_perform rfl (by decide +kernel) ⟨Nat.le_of_ble_eq_true rfl, Nat.le_of_ble_eq_true rfl⟩ kd_0 rfl rfl rfl rfl (Nat.le_of_ble_eq_true rfl) dL_law_647 ⟨(by show k0 ≤ 601024; omega), (by show w0 ≤ 7293034; omega)⟩ rfl W (fun r2 M3 h4 => ?_)
  obtain ⟨z5, rfl, lz5, uz5, WM3, FM3, xM3⟩ := h4
  have tM3_6_1 : M3.1 6 1 = M.1 6 1 := congrFun (FM3 6 (by rw [kd_6]; rfl)).1 1
  have tM3_94_0 : M3.1 94 0 = M.1 94 0 := congrFun (FM3 94 (by rw [kd_94]; rfl)).1 0
  have tM3_101_1 : M3.1 101 1 = M.1 101 1 := congrFun (FM3 101 (by rw [kd_101]; rfl)).1 1
  have tM3_101_2 : M3.1 101 2 = M.1 101 2 := congrFun (FM3 101 (by rw [kd_101]; rfl)).1 2
  have tM3_110_0 : M3.1 110 0 = M.1 110 0 := congrFun (FM3 110 (by rw [kd_110]; rfl)).1 0
  have tM3_110_12 : M3.1 110 12 = M.1 110 12 := congrFun (FM3 110 (by rw [kd_110]; rfl)).1 12
  have tM3_110_16 : M3.1 110 16 = M.1 110 16 := congrFun (FM3 110 (by rw [kd_110]; rfl)).1 16
  have tM3_110_17 : M3.1 110 17 = M.1 110 17 := congrFun (FM3 110 (by rw [kd_110]; rfl)).1 17
  refine L_st (st' := [.int (iI z5)]) rfl ?_
  refine L_aloadn C dL_law_650 2 rfl rfl ?_
  refine L_aloadn C dL_law_651 0 rfl rfl ?_
  refine L_iload C dL_law_652 4 rfl ?_
  refine L_iconst C dL_law_654 ?_
  refine L_iadd C dL_law_655 ?_
  refine L_sld C hX hbl hbA (by omega) (by omega) hL dL_law_656 (fun y6 ey6 ry6 => ?_)
  refine L_callV C (As := [.int (iI y6)]) (n := 1) (st := [.int (iI z5)]) (kX8_perform ry6) gL_law_X8_perform rfl (by decide +kernel) ⟨Nat.le_of_ble_eq_true rfl, Nat.le_of_ble_eq_true rfl⟩ kd_110 rfl rfl rfl rfl (Nat.le_of_ble_eq_true rfl) dL_law_657 ⟨(by show k0 ≤ 601024; omega), (by show w0 ≤ 7293034; omega)⟩ rfl ⟨WM3, by omega⟩ (fun r7 M8 h9 => ?_)
  obtain ⟨z10, rfl, lz10, uz10, WM8, FM8, xM8⟩ := h9
  have tM8_6_1 : M8.1 6 1 = M3.1 6 1 := congrFun (FM8 6 (by rw [kd_6]; rfl)).1 1
  have tM8_94_0 : M8.1 94 0 = M3.1 94 0 := congrFun (FM8 94 (by rw [kd_94]; rfl)).1 0
  have tM8_101_1 : M8.1 101 1 = M3.1 101 1 := congrFun (FM8 101 (by rw [kd_101]; rfl)).1 1
  have tM8_101_2 : M8.1 101 2 = M3.1 101 2 := congrFun (FM8 101 (by rw [kd_101]; rfl)).1 2
  refine L_st (st' := [.int (iI z10), .int (iI z5)]) rfl ?_
  refine L_icmpeq C 752 dL_law_660 (by decide) (by omega) (by omega) (fun c11 => ?_) (fun c11 => ?_)
  · skip
    refine L_widen (k1 := k0 + 1) (w1 := w0 + 6) (by omega) (by omega) ?_
    exact Hk M8 WM8 (by omega)
  · exact absurd (show _ by omega) c11
set_option maxHeartbeats 4000000 in
theorem lc_15 {p : Program} {l : Launch} {e : Env} {s : State} {m : MethodId} {args : Array Value} {below : List Frame} {meth : Method} {c : Code} {G : xG} {b L : Nat} {xs : Nat → Int32} {Q : State → Prop} (C : Cx p s m args meth c G cL_law 8 RL wsL_law (some .boolean)) (hl0 : l.stackTraces = false) (hT : xTh G.2.2 s s.heap) (hX : va_X b L xs s s.heap) (hbl : b < s.heap.size) (hbA : ¬ G.2.2 ≤ b) (hL : L ≤ 2560) {k0 w0 : Nat} (hk : k0 + 1 ≤ 601024 ∧ w0 + 6 ≤ 7293034) {i : Int} (hi : 0 ≤ i ∧ i + 5 ≤ (L : Int)) {M : Mem} (W : WF M) (J : (M.1 110 16 + M.1 110 17 ≤ M.1 110 0 + 1 ∧ M.1 6 1 = M.1 110 0 ∧ M.1 94 0 = M.1 110 12 ∧ M.1 101 2 = M.1 110 17 ∧ (1 ≤ M.1 110 17 → (M.1 101 1 = M.1 110 16 ∧ 0 ≤ M.1 110 16)) ∧ (M.1 110 17 ≤ 0 → M.1 110 16 < 0)))
    (Hk : ∀ M' : Mem, WF M' → (M'.1 110 16 + M'.1 110 17 ≤ M'.1 110 0 + 1 ∧ M'.1 6 1 = M'.1 110 0 ∧ M'.1 94 0 = M'.1 110 12 ∧ M'.1 101 2 = M'.1 110 17 ∧ (1 ≤ M'.1 110 17 → (M'.1 101 1 = M'.1 110 16 ∧ 0 ≤ M'.1 110 16)) ∧ (M'.1 110 17 ≤ 0 → M'.1 110 16 < 0)) → LW p l e room_1 s m args below meth c G 8 Q (k0 + 1) (w0 + 6) M' 752 [(0, .ref b), (1, .ref (G.2.2 + 0)), (2, .ref (G.2.2 + 110)), (3, .ref (G.2.2 + 130)), (4, .int (iI i))] []) : LW p l e room_1 s m args below meth c G 8 Q k0 w0 M 665 [(0, .ref b), (1, .ref (G.2.2 + 0)), (2, .ref (G.2.2 + 110)), (3, .ref (G.2.2 + 130)), (4, .int (iI i))] [] := by
  refine L_aloadn C dL_law_665 1 rfl rfl ?_
  refine L_aloadn C dL_law_666 0 rfl rfl ?_
  refine L_iload C dL_law_667 4 rfl ?_
  refine L_iconst C dL_law_669 ?_
  refine L_iadd C dL_law_670 ?_
  refine L_sld C hX hbl hbA (by omega) (by omega) hL dL_law_671 (fun y1 ey1 ry1 => ?_)
  refine L_aloadn C dL_law_672 0 rfl rfl ?_
  refine L_iload C dL_law_673 4 rfl ?_
  refine L_iconst C dL_law_675 ?_
  refine L_iadd C dL_law_676 ?_
  refine L_sld C hX hbl hbA (by omega) (by omega) hL dL_law_677 (fun y2 ey2 ry2 => ?_)
  refine L_callV C (As := [.int (iI y1), .int (iI y2)]) (n := 2) (st := []) (kX7_order kd_0 ry1 ry2) gL_law_X7_order rfl (by decide +kernel) ⟨Nat.le_of_ble_eq_true rfl, Nat.le_of_ble_eq_true rfl⟩ kd_0 rfl rfl rfl rfl (Nat.le_of_ble_eq_true rfl) dL_law_678 ⟨(by show k0 ≤ 601024; omega), (by show w0 ≤ 7293034; omega)⟩ rfl W (fun r3 M4 h5 => ?_)
  obtain ⟨z6, rfl, lz6, uz6, WM4, FM4⟩ := h5
  have tM4_6_1 : M4.1 6 1 = M.1 6 1 := congrFun (FM4 6 (by rw [kd_6]; rfl)).1 1
  have tM4_94_0 : M4.1 94 0 = M.1 94 0 := congrFun (FM4 94 (by rw [kd_94]; rfl)).1 0
  have tM4_101_1 : M4.1 101 1 = M.1 101 1 := congrFun (FM4 101 (by rw [kd_101]; rfl)).1 1
  have tM4_101_2 : M4.1 101 2 = M.1 101 2 := congrFun (FM4 101 (by rw [kd_101]; rfl)).1 2
  have tM4_110_0 : M4.1 110 0 = M.1 110 0 := congrFun (FM4 110 (by rw [kd_110]; rfl)).1 0
  have tM4_110_12 : M4.1 110 12 = M.1 110 12 := congrFun (FM4 110 (by rw [kd_110]; rfl)).1 12
  have tM4_110_16 : M4.1 110 16 = M.1 110 16 := congrFun (FM4 110 (by rw [kd_110]; rfl)).1 16
  have tM4_110_17 : M4.1 110 17 = M.1 110 17 := congrFun (FM4 110 (by rw [kd_110]; rfl)).1 17
  refine L_st (st' := [.int (iI z6)]) rfl ?_
  refine L_pop C dL_law_681 rfl ?_
  refine L_aloadn C dL_law_682 2 rfl rfl ?_
  refine L_aloadn C dL_law_683 0 rfl rfl ?_
  refine L_iload C dL_law_684 4 rfl ?_
  refine L_iconst C dL_law_686 ?_
  refine L_iadd C dL_law_687 ?_
  refine L_sld C hX hbl hbA (by omega) (by omega) hL dL_law_688 (fun y7 ey7 ry7 => ?_)
  refine L_aloadn C dL_law_689 0 rfl rfl ?_
  refine L_iload C dL_law_690 4 rfl ?_
  refine L_iconst C dL_law_692 ?_
  refine L_iadd C dL_law_693 ?_
  refine L_sld C hX hbl hbA (by omega) (by omega) hL dL_law_694 (fun y8 ey8 ry8 => ?_)
  refine L_callV C (As := [.int (iI y7), .int (iI y8)]) (n := 2) (st := []) (kX8_order ry7 ry8) gL_law_X8_order rfl (by decide +kernel) ⟨Nat.le_of_ble_eq_true rfl, Nat.le_of_ble_eq_true rfl⟩ kd_110 rfl rfl rfl rfl (Nat.le_of_ble_eq_true rfl) dL_law_695 ⟨(by show k0 ≤ 601024; omega), (by show w0 ≤ 7293034; omega)⟩ rfl ⟨WM4, by omega⟩ (fun r9 M10 h11 => ?_)
  obtain ⟨z12, rfl, lz12, uz12, WM10, FM10, xM10⟩ := h11
  have tM10_6_1 : M10.1 6 1 = M4.1 6 1 := congrFun (FM10 6 (by rw [kd_6]; rfl)).1 1
  have tM10_94_0 : M10.1 94 0 = M4.1 94 0 := congrFun (FM10 94 (by rw [kd_94]; rfl)).1 0
  have tM10_101_1 : M10.1 101 1 = M4.1 101 1 := congrFun (FM10 101 (by rw [kd_101]; rfl)).1 1
  have tM10_101_2 : M10.1 101 2 = M4.1 101 2 := congrFun (FM10 101 (by rw [kd_101]; rfl)).1 2
  refine L_st (st' := [.int (iI z12)]) rfl ?_
  refine L_pop C dL_law_698 rfl ?_
  refine L_goto C 752 dL_law_699 (by decide) ?_
  refine L_widen (k1 := k0 + 1) (w1 := w0 + 6) (by omega) (by omega) ?_
  exact Hk M10 WM10 (by omega)
set_option maxHeartbeats 4000000 in
theorem lc_16 {p : Program} {l : Launch} {e : Env} {s : State} {m : MethodId} {args : Array Value} {below : List Frame} {meth : Method} {c : Code} {G : xG} {b L : Nat} {xs : Nat → Int32} {Q : State → Prop} (C : Cx p s m args meth c G cL_law 8 RL wsL_law (some .boolean)) (hl0 : l.stackTraces = false) (hT : xTh G.2.2 s s.heap) (hX : va_X b L xs s s.heap) (hbl : b < s.heap.size) (hbA : ¬ G.2.2 ≤ b) (hL : L ≤ 2560) {k0 w0 : Nat} (hk : k0 + 1 ≤ 601024 ∧ w0 + 6 ≤ 7293034) {i : Int} (hi : 0 ≤ i ∧ i + 5 ≤ (L : Int)) {M : Mem} (W : WF M) (J : (M.1 110 16 + M.1 110 17 ≤ M.1 110 0 + 1 ∧ M.1 6 1 = M.1 110 0 ∧ M.1 94 0 = M.1 110 12 ∧ M.1 101 2 = M.1 110 17 ∧ (1 ≤ M.1 110 17 → (M.1 101 1 = M.1 110 16 ∧ 0 ≤ M.1 110 16)) ∧ (M.1 110 17 ≤ 0 → M.1 110 16 < 0)))
    (Hk : ∀ M' : Mem, WF M' → (M'.1 110 16 + M'.1 110 17 ≤ M'.1 110 0 + 1 ∧ M'.1 6 1 = M'.1 110 0 ∧ M'.1 94 0 = M'.1 110 12 ∧ M'.1 101 2 = M'.1 110 17 ∧ (1 ≤ M'.1 110 17 → (M'.1 101 1 = M'.1 110 16 ∧ 0 ≤ M'.1 110 16)) ∧ (M'.1 110 17 ≤ 0 → M'.1 110 16 < 0)) → LW p l e room_1 s m args below meth c G 8 Q (k0 + 1) (w0 + 6) M' 752 [(0, .ref b), (1, .ref (G.2.2 + 0)), (2, .ref (G.2.2 + 110)), (3, .ref (G.2.2 + 130)), (4, .int (iI i))] []) : LW p l e room_1 s m args below meth c G 8 Q k0 w0 M 702 [(0, .ref b), (1, .ref (G.2.2 + 0)), (2, .ref (G.2.2 + 110)), (3, .ref (G.2.2 + 130)), (4, .int (iI i))] [] := by
  refine L_aloadn C dL_law_702 1 rfl rfl ?_
  refine L_aloadn C dL_law_703 0 rfl rfl ?_
  refine L_iload C dL_law_704 4 rfl ?_
  refine L_iconst C dL_law_706 ?_
  refine L_iadd C dL_law_707 ?_
  refine L_sld C hX hbl hbA (by omega) (by omega) hL dL_law_708 (fun y1 ey1 ry1 => ?_)
  refine L_callV C (As := [.int (iI y1)]) (n := 1) (st := []) (kX7_step kd_0 ry1) gL_law_X7_step rfl (by decide +kernel) ⟨Nat.le_of_ble_eq_true rfl, Nat.le_of_ble_eq_true rfl⟩ kd_0 rfl rfl rfl rfl (Nat.le_of_ble_eq_true rfl) dL_law_709 ⟨(by show k0 ≤ 601024; omega), (by show w0 ≤ 7293034; omega)⟩ rfl W (fun r2 M3 h4 => ?_)
  obtain ⟨z5, rfl, lz5, uz5, WM3, FM3⟩ := h4
  have tM3_6_1 : M3.1 6 1 = M.1 6 1 := congrFun (FM3 6 (by rw [kd_6]; rfl)).1 1
  have tM3_94_0 : M3.1 94 0 = M.1 94 0 := congrFun (FM3 94 (by rw [kd_94]; rfl)).1 0
  have tM3_101_1 : M3.1 101 1 = M.1 101 1 := congrFun (FM3 101 (by rw [kd_101]; rfl)).1 1
  have tM3_101_2 : M3.1 101 2 = M.1 101 2 := congrFun (FM3 101 (by rw [kd_101]; rfl)).1 2
  have tM3_110_0 : M3.1 110 0 = M.1 110 0 := congrFun (FM3 110 (by rw [kd_110]; rfl)).1 0
  have tM3_110_12 : M3.1 110 12 = M.1 110 12 := congrFun (FM3 110 (by rw [kd_110]; rfl)).1 12
  have tM3_110_16 : M3.1 110 16 = M.1 110 16 := congrFun (FM3 110 (by rw [kd_110]; rfl)).1 16
  have tM3_110_17 : M3.1 110 17 = M.1 110 17 := congrFun (FM3 110 (by rw [kd_110]; rfl)).1 17
  refine L_st (st' := [.int (iI z5)]) rfl ?_
  refine L_pop C dL_law_712 rfl ?_
  refine L_aloadn C dL_law_713 2 rfl rfl ?_
  refine L_aloadn C dL_law_714 0 rfl rfl ?_
  refine L_iload C dL_law_715 4 rfl ?_
  refine L_iconst C dL_law_717 ?_
  refine L_iadd C dL_law_718 ?_
  refine L_sld C hX hbl hbA (by omega) (by omega) hL dL_law_719 (fun y6 ey6 ry6 => ?_)
  refine L_callV C (As := [.int (iI y6)]) (n := 1) (st := []) (kX8_step ry6) gL_law_X8_step rfl (by decide +kernel) ⟨Nat.le_of_ble_eq_true rfl, Nat.le_of_ble_eq_true rfl⟩ kd_110 rfl rfl rfl rfl (Nat.le_of_ble_eq_true rfl) dL_law_720 ⟨(by show k0 ≤ 601024; omega), (by show w0 ≤ 7293034; omega)⟩ rfl ⟨WM3, by omega⟩ (fun r7 M8 h9 => ?_)
  obtain ⟨z10, rfl, lz10, uz10, WM8, FM8, xM8⟩ := h9
  have tM8_6_1 : M8.1 6 1 = M3.1 6 1 := congrFun (FM8 6 (by rw [kd_6]; rfl)).1 1
  have tM8_94_0 : M8.1 94 0 = M3.1 94 0 := congrFun (FM8 94 (by rw [kd_94]; rfl)).1 0
  have tM8_101_1 : M8.1 101 1 = M3.1 101 1 := congrFun (FM8 101 (by rw [kd_101]; rfl)).1 1
  have tM8_101_2 : M8.1 101 2 = M3.1 101 2 := congrFun (FM8 101 (by rw [kd_101]; rfl)).1 2
  refine L_st (st' := [.int (iI z10)]) rfl ?_
  refine L_pop C dL_law_723 rfl ?_
  refine L_goto C 752 dL_law_724 (by decide) ?_
  refine L_widen (k1 := k0 + 1) (w1 := w0 + 6) (by omega) (by omega) ?_
  exact Hk M8 WM8 (by omega)
set_option maxHeartbeats 4000000 in
theorem lc_17 {p : Program} {l : Launch} {e : Env} {s : State} {m : MethodId} {args : Array Value} {below : List Frame} {meth : Method} {c : Code} {G : xG} {b L : Nat} {xs : Nat → Int32} {Q : State → Prop} (C : Cx p s m args meth c G cL_law 8 RL wsL_law (some .boolean)) (hl0 : l.stackTraces = false) (hT : xTh G.2.2 s s.heap) (hX : va_X b L xs s s.heap) (hbl : b < s.heap.size) (hbA : ¬ G.2.2 ≤ b) (hL : L ≤ 2560) {k0 w0 : Nat} (hk : k0 + 1 ≤ 601024 ∧ w0 + 6 ≤ 7293034) {i : Int} (hi : 0 ≤ i ∧ i + 5 ≤ (L : Int)) {M : Mem} (W : WF M) (J : (M.1 110 16 + M.1 110 17 ≤ M.1 110 0 + 1 ∧ M.1 6 1 = M.1 110 0 ∧ M.1 94 0 = M.1 110 12 ∧ M.1 101 2 = M.1 110 17 ∧ (1 ≤ M.1 110 17 → (M.1 101 1 = M.1 110 16 ∧ 0 ≤ M.1 110 16)) ∧ (M.1 110 17 ≤ 0 → M.1 110 16 < 0)))
    (Hk : ∀ M' : Mem, WF M' → (M'.1 110 16 + M'.1 110 17 ≤ M'.1 110 0 + 1 ∧ M'.1 6 1 = M'.1 110 0 ∧ M'.1 94 0 = M'.1 110 12 ∧ M'.1 101 2 = M'.1 110 17 ∧ (1 ≤ M'.1 110 17 → (M'.1 101 1 = M'.1 110 16 ∧ 0 ≤ M'.1 110 16)) ∧ (M'.1 110 17 ≤ 0 → M'.1 110 16 < 0)) → LW p l e room_1 s m args below meth c G 8 Q (k0 + 1) (w0 + 6) M' 752 [(0, .ref b), (1, .ref (G.2.2 + 0)), (2, .ref (G.2.2 + 110)), (3, .ref (G.2.2 + 130)), (4, .int (iI i))] []) : LW p l e room_1 s m args below meth c G 8 Q k0 w0 M 727 [(0, .ref b), (1, .ref (G.2.2 + 0)), (2, .ref (G.2.2 + 110)), (3, .ref (G.2.2 + 130)), (4, .int (iI i))] [] := by
  refine L_aloadn C dL_law_727 1 rfl rfl ?_
  refine L_aloadn C dL_law_728 0 rfl rfl ?_
  refine L_iload C dL_law_729 4 rfl ?_
  refine L_iconst C dL_law_731 ?_
  refine L_iadd C dL_law_732 ?_
  refine L_sld C hX hbl hbA (by omega) (by omega) hL dL_law_733 (fun y1 ey1 ry1 => ?_)
  refine L_callV C (As := [.int (iI y1)]) (n := 1) (st := []) (kX7_count kd_0 ry1) gL_law_X7_count rfl (by decide +kernel) ⟨Nat.le_of_ble_eq_true rfl, Nat.le_of_ble_eq_true rfl⟩ kd_0 rfl rfl rfl rfl (Nat.le_of_ble_eq_true rfl) dL_law_734 ⟨(by show k0 ≤ 601024; omega), (by show w0 ≤ 7293034; omega)⟩ rfl W (fun r2 M3 h4 => ?_)
  obtain ⟨z5, rfl, lz5, uz5, WM3, FM3⟩ := h4
  have tM3_6_1 : M3.1 6 1 = M.1 6 1 := congrFun (FM3 6 (by rw [kd_6]; rfl)).1 1
  have tM3_94_0 : M3.1 94 0 = M.1 94 0 := congrFun (FM3 94 (by rw [kd_94]; rfl)).1 0
  have tM3_101_1 : M3.1 101 1 = M.1 101 1 := congrFun (FM3 101 (by rw [kd_101]; rfl)).1 1
  have tM3_101_2 : M3.1 101 2 = M.1 101 2 := congrFun (FM3 101 (by rw [kd_101]; rfl)).1 2
  have tM3_110_0 : M3.1 110 0 = M.1 110 0 := congrFun (FM3 110 (by rw [kd_110]; rfl)).1 0
  have tM3_110_12 : M3.1 110 12 = M.1 110 12 := congrFun (FM3 110 (by rw [kd_110]; rfl)).1 12
  have tM3_110_16 : M3.1 110 16 = M.1 110 16 := congrFun (FM3 110 (by rw [kd_110]; rfl)).1 16
  have tM3_110_17 : M3.1 110 17 = M.1 110 17 := congrFun (FM3 110 (by rw [kd_110]; rfl)).1 17
  refine L_st (st' := [.int (iI z5)]) rfl ?_
  refine L_pop C dL_law_737 rfl ?_
  refine L_aloadn C dL_law_738 2 rfl rfl ?_
  refine L_aloadn C dL_law_739 0 rfl rfl ?_
  refine L_iload C dL_law_740 4 rfl ?_
  refine L_iconst C dL_law_742 ?_
  refine L_iadd C dL_law_743 ?_
  refine L_sld C hX hbl hbA (by omega) (by omega) hL dL_law_744 (fun y6 ey6 ry6 => ?_)
  refine L_callV C (As := [.int (iI y6)]) (n := 1) (st := []) (kX8_count ry6) gL_law_X8_count rfl (by decide +kernel) ⟨Nat.le_of_ble_eq_true rfl, Nat.le_of_ble_eq_true rfl⟩ kd_110 rfl rfl rfl rfl (Nat.le_of_ble_eq_true rfl) dL_law_745 ⟨(by show k0 ≤ 601024; omega), (by show w0 ≤ 7293034; omega)⟩ rfl ⟨WM3, by omega⟩ (fun r7 M8 h9 => ?_)
  obtain ⟨z10, rfl, lz10, uz10, WM8, FM8, xM8⟩ := h9
  have tM8_6_1 : M8.1 6 1 = M3.1 6 1 := congrFun (FM8 6 (by rw [kd_6]; rfl)).1 1
  have tM8_94_0 : M8.1 94 0 = M3.1 94 0 := congrFun (FM8 94 (by rw [kd_94]; rfl)).1 0
  have tM8_101_1 : M8.1 101 1 = M3.1 101 1 := congrFun (FM8 101 (by rw [kd_101]; rfl)).1 1
  have tM8_101_2 : M8.1 101 2 = M3.1 101 2 := congrFun (FM8 101 (by rw [kd_101]; rfl)).1 2
  refine L_st (st' := [.int (iI z10)]) rfl ?_
  refine L_pop C dL_law_748 rfl ?_
  refine L_goto C 752 dL_law_749 (by decide) ?_
  refine L_widen (k1 := k0 + 1) (w1 := w0 + 6) (by omega) (by omega) ?_
  exact Hk M8 WM8 (by omega)
