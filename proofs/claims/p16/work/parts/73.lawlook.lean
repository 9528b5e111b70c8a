/-! the law's look and share: they return, thrown or not -/
theorem kd_0 : kd 0 = 0 := by decide +kernel
theorem kd_130 : kd 130 = 50 := by decide +kernel
theorem wL_look0 : Cond.classLink RL 13 nIO ∈ wsL_look := by decide +kernel
theorem wL_look1 : Cond.classLink RL 15 nNS ∈ wsL_look := by decide +kernel
theorem wL_share0 : Cond.classLink RL 15 nNS ∈ wsL_share := by decide +kernel
set_option maxHeartbeats 4000000 in
theorem kL_look {x1 x2 : Int} (hx1 : (-2147483648 : Int) ≤ x1 ∧ x1 ≤ 2147483647) (hx2 : (-2147483648 : Int) ≤ x2 ∧ x2 ≤ 2147483647) : CtL yL_look wsL_look 9 [.ref 0, .int (iI x1), .int (iI x2), .ref 130] (fun M => WF M) (fun M r M' => ∃ z : Int, r = some (.int (iI z)) ∧ r32 z ∧ WF M' ∧ Fr [50] M M') := by
  refine CtL_of (cc := cL_look) (nL := 5) (rt := some .int) (own := RL) rfl (by decide) rfl (Nat.le_of_ble_eq_true rfl) ?_
  intro p l e s m args below meth c G M0 C hl0 hT ht W
  refine A_lv (lv' := [(0, .ref 0), (1, .int (iI x1)), (2, .int (iI x2)), (3, .ref 130)]) rfl ?_
  refine A_aloadn C dL_look_0 3 rfl rfl ?_
  refine A_iconst C dL_look_1 ?_
  refine A_aloadn C dL_look_2 0 rfl rfl ?_
  refine A_iloadn C dL_look_3 1 rfl rfl ?_
  refine A_iloadn C dL_look_4 2 rfl rfl ?_
  refine A_callVX C hl0 hT (n := 2) (st := [.int (iI 0), .ref 130]) (kX7_look kd_0 hx1 hx2) gL_look_X7_look rfl (by decide +kernel) ⟨Nat.le_of_ble_eq_true rfl, Nat.le_of_ble_eq_true rfl⟩ kd_0 rfl rfl rfl rfl (Nat.le_of_ble_eq_true rfl) dL_look_5 ⟨by decide, by decide⟩ rfl W (fun r M1 h => ?_) (fun E M1 H1 locs1 ls q ce h hP1 hS1 hl1 hce hcv hcl => ?_)
  · obtain ⟨z, rfl, lz, uz, W1, F1⟩ := h
    refine L_st (st' := [.int (iI z), .int (iI 0), .ref (G.2.2 + 130)]) rfl ?_
    refine L_i2l C (by omega) dL_look_8 ?_
    refine L_last C kd_130 rfl rfl (by decide) (by omega) (by omega) dL_look_9 ?_
    refine L_goto C 21 dL_look_10 (by decide) ?_
    refine L_iconst C dL_look_21 ?_
    exact L_iret C dL_look_22 ⟨0, rfl, by omega, WF_sL W1 (by omega), (F1.mono (c2 := [50]) rfl).tr (Fr_sL kd_130 rfl)⟩
  · obtain ⟨hE, W1, F1⟩ := h
    rcases hE with rfl | rfl
    · refine vx_catch (own := RL) (name := nIO) C.2.2.2.1 [] ⟨0, 10, 13, 13⟩ [⟨0, 10, 17, 15⟩] (by rw [ht]; rfl) (fun z hz => nomatch hz) (by decide) (by decide) (C.2.2.2.2.1 _ wL_look0) (hT.1.2.2.2.1.use rfl) hce hcv hcl ?_
      have key : LW p l e (rmX 9) s m args below meth c G 5 (MQ below (xQc G (fun r M' => ∃ z : Int, r = some (.int (iI z)) ∧ r32 z ∧ WF M' ∧ Fr [50] M0 M')) args s 1 6 (fun q => G.2.2 ≤ q)) 1 6 M1 13 (xLs G [(0, .ref 0), (1, .int (iI x1)), (2, .int (iI x2)), (3, .ref 130)]) [.ref q] := by
        refine L_astore C dL_look_13 (by decide) rfl ?_
        refine L_iconst C dL_look_15 ?_
        exact L_iret C dL_look_16 ⟨1, rfl, by omega, W1, F1.mono rfl⟩
      exact key H1 locs1 ls hP1 hS1 hl1
    · refine vx_catch (own := RL) (name := nNS) C.2.2.2.1 [⟨0, 10, 13, 13⟩] ⟨0, 10, 17, 15⟩ [] (by rw [ht]; rfl) (fun z hz => ?_) (by decide) (by decide) (C.2.2.2.2.1 _ wL_look1) (hT.1.2.2.2.2.1.use rfl) hce hcv hcl ?_
      · rw [List.mem_singleton.mp hz]
        exact Or.inr ⟨by decide, nIO, C.2.2.2.2.1 _ wL_look0, hT.1.2.2.2.2.2⟩
      have key : LW p l e (rmX 9) s m args below meth c G 5 (MQ below (xQc G (fun r M' => ∃ z : Int, r = some (.int (iI z)) ∧ r32 z ∧ WF M' ∧ Fr [50] M0 M')) args s 1 6 (fun q => G.2.2 ≤ q)) 1 6 M1 17 (xLs G [(0, .ref 0), (1, .int (iI x1)), (2, .int (iI x2)), (3, .ref 130)]) [.ref q] := by
        refine L_astore C dL_look_17 (by decide) rfl ?_
        refine L_iconst C dL_look_19 ?_
        exact L_iret C dL_look_20 ⟨2, rfl, by omega, W1, F1.mono rfl⟩
      exact key H1 locs1 ls hP1 hS1 hl1
set_option maxHeartbeats 4000000 in
theorem kL_share {x1 : Int} (hx1 : (-2147483648 : Int) ≤ x1 ∧ x1 ≤ 2147483647) : CtL yL_share wsL_share 9 [.ref 0, .int (iI x1), .ref 130] (fun M => WF M) (fun M r M' => ∃ z : Int, r = some (.int (iI z)) ∧ r32 z ∧ WF M' ∧ Fr [50, 8, 10, 11, 23] M M') := by
  refine CtL_of (cc := cL_share) (nL := 4) (rt := some .int) (own := RL) rfl (by decide) rfl (Nat.le_of_ble_eq_true rfl) ?_
  intro p l e s m args below meth c G M0 C hl0 hT ht W
  refine A_lv (lv' := [(0, .ref 0), (1, .int (iI x1)), (2, .ref 130)]) rfl ?_
  refine A_aloadn C dL_share_0 2 rfl rfl ?_
  refine A_iconst C dL_share_1 ?_
  refine A_aloadn C dL_share_2 0 rfl rfl ?_
  refine A_iloadn C dL_share_3 1 rfl rfl ?_
  refine A_callVX C hl0 hT (n := 1) (st := [.int (iI 0), .ref 130]) (kX7_share kd_0 hx1) gL_share_X7_share rfl (by decide +kernel) ⟨Nat.le_of_ble_eq_true rfl, Nat.le_of_ble_eq_true rfl⟩ kd_0 rfl rfl rfl rfl (Nat.le_of_ble_eq_true rfl) dL_share_4 ⟨by decide, by decide⟩ rfl W (fun r M1 h => ?_) (fun E M1 H1 locs1 ls q ce h hP1 hS1 hl1 hce hcv hcl => ?_)
  · obtain ⟨z, rfl, rz, W1, F1⟩ := h
    refine L_st (st' := [.long (lL z), .int (iI 0), .ref (G.2.2 + 130)]) rfl ?_
    refine L_last C kd_130 rfl rfl (by decide) (by omega) (by omega) dL_share_7 ?_
    refine L_goto C 14 dL_share_8 (by decide) ?_
    refine L_iconst C dL_share_14 ?_
    exact L_iret C dL_share_15 ⟨0, rfl, by omega, WF_sL W1 rz, (F1.mono (c2 := [50, 8, 10, 11, 23]) rfl).tr (Fr_sL kd_130 rfl)⟩
  · obtain ⟨rfl, W1, F1⟩ := h
    refine vx_catch (own := RL) (name := nNS) C.2.2.2.1 [] ⟨0, 8, 11, 15⟩ [] (by rw [ht]; rfl) (fun z hz => nomatch hz) (by decide) (by decide) (C.2.2.2.2.1 _ wL_share0) (hT.1.2.2.2.2.1.use rfl) hce hcv hcl ?_
    have key : LW p l e (rmX 9) s m args below meth c G 4 (MQ below (xQc G (fun r M' => ∃ z : Int, r = some (.int (iI z)) ∧ r32 z ∧ WF M' ∧ Fr [50, 8, 10, 11, 23] M0 M')) args s 1 6 (fun q => G.2.2 ≤ q)) 1 6 M1 11 (xLs G [(0, .ref 0), (1, .int (iI x1)), (2, .ref 130)]) [.ref q] := by
      refine L_astoren C dL_share_11 rfl (by decide) rfl ?_
      refine L_iconst C dL_share_12 ?_
      exact L_iret C dL_share_13 ⟨1, rfl, by omega, W1, F1.mono rfl⟩
    exact key H1 locs1 ls hP1 hS1 hl1
