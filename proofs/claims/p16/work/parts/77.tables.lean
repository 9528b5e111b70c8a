/-! the law's start: what the tables give, and the law's first objects -/
theorem arr_of {s : State} {args : Array Value} {ty : FieldType} (h : (Cond.arrayClass ty).before args s = true) : ∃ cA, ArrOfT s cA ty ∧ s.vm.findClass ("[" ++ ty.toString) = some cA := by
  obtain ⟨cA, k, comp, h1, h2, h3⟩ := Cond.arrayClass_spec h
  exact ⟨cA, fun n z => ⟨fun k h => (by cases h), k, h2, comp, h3⟩, h1⟩
theorem arr_ov {s : State} {args : Array Value} {C : String} (h : (Cond.arrayOver (.object C)).before args s = true) : ∃ cA, ArrOfT s cA (.object C) ∧ va_RA s cA (.object C) := by
  obtain ⟨comp, cA, k, h1, -, h2, h3, h4⟩ := Cond.arrayOver_spec h
  exact ⟨cA, fun n z => ⟨fun k h => (by cases h), k, h2, comp, h3⟩, k, comp, h2, h3, h1, h4⟩
theorem ins_0 : Cond.instantiable RX0 4 ∈ lw_tbl := by decide +kernel
theorem ins_1 : Cond.instantiable RX1 9 ∈ lw_tbl := by decide +kernel
theorem ins_2 : Cond.instantiable RX2 5 ∈ lw_tbl := by decide +kernel
theorem ins_3 : Cond.instantiable RX3 2 ∈ lw_tbl := by decide +kernel
theorem ins_4 : Cond.instantiable RX4 2 ∈ lw_tbl := by decide +kernel
theorem ins_5 : Cond.instantiable RX5 3 ∈ lw_tbl := by decide +kernel
theorem ins_6 : Cond.instantiable RX6 7 ∈ lw_tbl := by decide +kernel
theorem ins_7 : Cond.instantiable RX7 15 ∈ lw_tbl := by decide +kernel
theorem ins_8 : Cond.instantiable RX8 35 ∈ lw_tbl := by decide +kernel
theorem ar_i : Cond.arrayClass .int ∈ lw_tbl := by decide +kernel
theorem ar_l : Cond.arrayClass .long ∈ lw_tbl := by decide +kernel
theorem ar_z : Cond.arrayClass .boolean ∈ lw_tbl := by decide +kernel
theorem ar_c : Cond.arrayOver (.object "SlipBench$Column") ∈ lw_tbl := by decide +kernel
theorem G_of {s : State} {args : Array Value} (hts : ∀ w ∈ lw_tbl, w.before args s = true) : ∃ G : xG, G.2.2 = s.heap.size ∧ va_K G.1 vwCl (xTys G) s := by
  obtain ⟨c0, i0, k0⟩ := u_known (C := RX0) (T := TX0) (N := 4) (n := 4) hts inX0 (hts _ ins_0)
  obtain ⟨c1, i1, k1⟩ := u_known (C := RX1) (T := TX1) (N := 9) (n := 9) hts inX1 (hts _ ins_1)
  obtain ⟨c2, i2, k2⟩ := u_known (C := RX2) (T := TX2) (N := 5) (n := 5) hts inX2 (hts _ ins_2)
  obtain ⟨c3, i3, k3⟩ := u_known (C := RX3) (T := TX3) (N := 2) (n := 2) hts inX3 (hts _ ins_3)
  obtain ⟨c4, i4, k4⟩ := u_known (C := RX4) (T := TX4) (N := 2) (n := 2) hts inX4 (hts _ ins_4)
  obtain ⟨c5, i5, k5⟩ := u_known (C := RX5) (T := TX5) (N := 3) (n := 3) hts inX5 (hts _ ins_5)
  obtain ⟨c6, i6, k6⟩ := u_known (C := RX6) (T := TX6) (N := 7) (n := 7) hts inX6 (hts _ ins_6)
  obtain ⟨c7, i7, k7⟩ := u_known (C := RX7) (T := TX7) (N := 15) (n := 15) hts inX7 (hts _ ins_7)
  obtain ⟨c8, i8, k8⟩ := u_known (C := RX8) (T := TX8) (N := 35) (n := 35) hts inX8 (hts _ ins_8)
  obtain ⟨aI, pI, qI⟩ := arr_of (hts _ ar_i)
  obtain ⟨aL, pL, qL⟩ := arr_of (hts _ ar_l)
  obtain ⟨aZ, pZ, qZ⟩ := arr_of (hts _ ar_z)
  obtain ⟨aC, pC, qC⟩ := arr_ov (hts _ ar_c)
  refine ⟨((fun k => [c0, c1, c2, c3, c4, c5, c6, c7, c8].getD k c0, fun k => [i0, i1, i2, i3, i4, i5, i6, i7, i8].getD k i0), fun k => [aI, aL, aZ, aC].getD k aI, s.heap.size), rfl, fun k q hq => ?_, fun k q hq => ?_⟩
  · match k, hq with
    | 0, hq => cases hq; exact k0
    | 1, hq => cases hq; exact k1
    | 2, hq => cases hq; exact k2
    | 3, hq => cases hq; exact k3
    | 4, hq => cases hq; exact k4
    | 5, hq => cases hq; exact k5
    | 6, hq => cases hq; exact k6
    | 7, hq => cases hq; exact k7
    | 8, hq => cases hq; exact k8
    | k + 9, hq => simp [vwCl] at hq
  · match k, hq with
    | 0, hq => cases hq; exact ⟨pI, qI⟩
    | 1, hq => cases hq; exact ⟨pL, qL⟩
    | 2, hq => cases hq; exact ⟨pZ, qZ⟩
    | 3, hq => cases hq; exact ⟨pC, qC⟩
    | k + 4, hq => simp [xTys] at hq
theorem in_nw0 : Cond.methodLinkNest RX4 32 yX7_within RX7 ∈ lw_tbl := by decide +kernel
theorem in_nw1 : Cond.methodLinkNest RX2 29 yX7_within RX7 ∈ lw_tbl := by decide +kernel
theorem in_nw2 : Cond.methodLinkNest RX0 25 yX7_within RX7 ∈ lw_tbl := by decide +kernel
theorem in_nc0 : Cond.methodLinkNest RX7 11 yX2_init RX7 ∈ lw_tbl := by decide +kernel
theorem in_nc1 : Cond.methodLinkNest RX7 33 yX0_init RX7 ∈ lw_tbl := by decide +kernel
theorem in_nc2 : Cond.methodLinkNest RX7 47 yX5_init RX7 ∈ lw_tbl := by decide +kernel
theorem in_nc3 : Cond.methodLinkNest RX7 57 yX3_init RX7 ∈ lw_tbl := by decide +kernel
theorem in_nc4 : Cond.fieldLinkNest RX4 24 RX1 "earths" "LSlipBench$Earths;" RX7 ∈ lw_tbl := by decide +kernel
theorem in_nc5 : Cond.arrayOver (.object RX1) ∈ lw_tbl := by decide +kernel
theorem in_tw0 : dRE ∈ lw_tbl := by decide +kernel
theorem in_tw1 : dEX ∈ lw_tbl := by decide +kernel
theorem in_tw2 : dTH ∈ lw_tbl := by decide +kernel
theorem in_tw3 : Cond.castable nIO nIO ∈ lw_tbl := by decide +kernel
theorem in_tw4 : Cond.castable nNS nNS ∈ lw_tbl := by decide +kernel
theorem in_ts0 : Cond.stringRef RX7 128 "no such column" ∈ lw_tbl := by decide +kernel
theorem in_ts1 : Cond.stringRef RX7 135 "no such what" ∈ lw_tbl := by decide +kernel
theorem in_ts2 : Cond.stringRef RX7 167 "no line, or no such what" ∈ lw_tbl := by decide +kernel
theorem in_ts3 : Cond.stringRef RX7 176 "the line has no share" ∈ lw_tbl := by decide +kernel
theorem in_tz0 : Cond.laysStatic Bundle.tN "UNASSIGNED_STACK" Bundle.steD ∈ lw_tbl := by decide +kernel
theorem in_tz1 : Cond.laysStatic Bundle.tN "SUPPRESSED_SENTINEL" Bundle.listD ∈ lw_tbl := by decide +kernel
theorem in_tz2 : Cond.initialized Bundle.tN ∈ lw_tbl := by decide +kernel
theorem xNw_of {s : State} {args : Array Value} (hts : ∀ w ∈ lw_tbl, w.before args s = true) : xNw s := ⟨va_Nw.of rfl (hts _ in_nw0), va_Nw.of rfl (hts _ in_nw1), va_Nw.of rfl (hts _ in_nw2)⟩
theorem xNc_of {s : State} {args : Array Value} (hts : ∀ w ∈ lw_tbl, w.before args s = true) : xNc s := ⟨va_Nw.of rfl (hts _ in_nc0), va_Nw.of rfl (hts _ in_nc1), va_Nw.of rfl (hts _ in_nc2), va_Nw.of rfl (hts _ in_nc3), va_Nw.of rfl (hts _ in_nc4), va_AO.of (hts _ in_nc5)⟩
theorem str_of {s : State} {args : Array Value} {cur k : Nat} {tx : String} (hc : s.vm.findClass RX7 = some cur) (h : (Cond.stringRef RX7 k tx).before args s = true) : ∃ a, vk_R RX7 k tx a s := by
  obtain ⟨k', cf, i, a, -, -, -, -, -, h6⟩ := Cond.stringRef_spec hc h
  exact ⟨a, vk_R.of h h6⟩
theorem xTh_of {s : State} {args : Array Value} {cur : Nat} (hts : ∀ w ∈ lw_tbl, w.before args s = true) (hgv : (Jvm.Cond.and given_1 narrow_1).before args s = true) (hc : s.vm.findClass RX7 = some cur) : xTh s.heap.size s s.heap := by
  have hs := flat_of_before _ hgv
  refine ⟨⟨va_Nw.of rfl (hts _ in_tw0), va_Nw.of rfl (hts _ in_tw1), va_Nw.of rfl (hts _ in_tw2), va_Nw.of rfl (hts _ in_tw3), va_Nw.of rfl (hts _ in_tw4), va_Nc.of (hs (Cond.not (.castable nNS nIO)) (by decide +kernel))⟩, ⟨str_of hc (hts _ in_ts0), str_of hc (hts _ in_ts1), str_of hc (hts _ in_ts2), str_of hc (hts _ in_ts3)⟩, ?_, ?_⟩
  · exact vx_Zqof (hts _ in_tz0) (hts _ in_tz2) (hs (Cond.isRef (.static Bundle.tN "UNASSIGNED_STACK" Bundle.steD)) (by decide +kernel)) (fun a ha => Nat.not_le.mpr ha)
  · exact vx_Zqof (hts _ in_tz1) (hts _ in_tz2) (hs (Cond.isRef (.static Bundle.tN "SUPPRESSED_SENTINEL" Bundle.listD)) (by decide +kernel)) (fun a ha => Nat.not_le.mpr ha)
