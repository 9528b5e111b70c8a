/-! the class's own objects that stand alone, by their numbers -/
theorem uq_at {q id : Nat} (h9 : (q == 99) = false) (hd : ∀ b, b < nAll → kd b = q → b = id) (b : Nat) (h : kd b = q) : b = id := hd b (kd_lt h h9) h
theorem kd_6 : kd 6 = 6 := by decide +kernel
theorem uq_6 : ∀ b, kd b = 6 → b = 6 := uq_at rfl (by decide +kernel)
theorem kd_94 : kd 94 = 13 := by decide +kernel
theorem uq_13 : ∀ b, kd b = 13 → b = 94 := uq_at rfl (by decide +kernel)
theorem kd_101 : kd 101 = 20 := by decide +kernel
theorem uq_20 : ∀ b, kd b = 20 → b = 101 := uq_at rfl (by decide +kernel)
section AWU
variable {p : Program} {l : Launch} {e : Env} {R : Room} {s : State} {m : MethodId} {args : Array Value} {below : List Frame} {meth : Method} {c : Code} {G : xG} {nL : Nat} {Q : State → Prop} {M : Mem} {pc : Nat} {lv : List (Nat × Value)} {st : List Value} {cc : ByteArray} {own : String} {Ts : List Cond} {rt : Option FieldType}
theorem G_getU (C : Cx p s m args meth c G cc nL own Ts rt) (W : WF M) {a r ci k index q id : Nat} {Cn : String} {T : u_T} {N : Nat} (hr : kd a = r) (h9 : (r == 99) = false) (hs : shp r = (0, ci)) (ht : (fks ci)[k]? = some 2) (hq : rr r k = some q) (hu : ∀ b, kd b = q → b = id) (F : Fl own Ts ci k index Cn T N) (hd : decode cc pc = .ok (.getfield index, 3))
    (kk : AW p l e R s m args below meth c G nL Q M (pc + 3) lv (.ref id :: st)) : AW p l e R s m args below meth c G nL Q M pc lv (.ref a :: st) := by
  obtain ⟨b, h1, h2⟩ := W.r hr k hq
  rw [hu b h2] at h1
  exact A_getR C hr h9 hs ht h1 F hd kk
end AWU
