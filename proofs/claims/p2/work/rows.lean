section
-- ===== PART A: goes FIRST, ahead of the names: the tables' words, and 'selects' of the private methods out of them =====
/-- a private method of a class that the tables say can be made, by its rows of tables_1 -/
def lw_okq (q : MethodName × Nat) : Prop := (q.1.cls ≠ "java/lang/invoke/MethodHandle" ∧ q.1.cls ≠ "java/lang/invoke/VarHandle") ∧ Cond.instantiable q.1.cls q.2 ∈ tables_1 ∧ Cond.privateMethod q.1 ∈ tables_1 ∧ Cond.instanceMethod q.1 ∈ tables_1
theorem lw_p0 : lw_okq (⟨"SlipBench$Ground", "holdsOfPart", "(LSlipBench$Line;I)I"⟩, 2) := ⟨⟨by decide +kernel, by decide +kernel⟩, List.mem_of_getElem? (i := 55) (by decide +kernel), List.mem_of_getElem? (i := 347) (by decide +kernel), List.mem_of_getElem? (i := 348) (by decide +kernel)⟩
theorem lw_p1 : lw_okq (⟨"SlipBench$Column", "reckonHolds", "(II)I"⟩, 9) := ⟨⟨by decide +kernel, by decide +kernel⟩, List.mem_of_getElem? (i := 62) (by decide +kernel), List.mem_of_getElem? (i := 355) (by decide +kernel), List.mem_of_getElem? (i := 356) (by decide +kernel)⟩
theorem lw_p2 : lw_okq (⟨"SlipBench", "knowWorst", "()Z"⟩, 15) := ⟨⟨by decide +kernel, by decide +kernel⟩, List.mem_of_getElem? (i := 18) (by decide +kernel), List.mem_of_getElem? (i := 374) (by decide +kernel), List.mem_of_getElem? (i := 375) (by decide +kernel)⟩
theorem lw_p3 : lw_okq (⟨"SlipBench$Search", "aim", "(JJ)V"⟩, 7) := ⟨⟨by decide +kernel, by decide +kernel⟩, List.mem_of_getElem? (i := 144) (by decide +kernel), List.mem_of_getElem? (i := 390) (by decide +kernel), List.mem_of_getElem? (i := 391) (by decide +kernel)⟩
theorem lw_p4 : lw_okq (⟨"SlipBench$Search", "weigh", "(IIZ)V"⟩, 7) := ⟨⟨by decide +kernel, by decide +kernel⟩, List.mem_of_getElem? (i := 144) (by decide +kernel), List.mem_of_getElem? (i := 394) (by decide +kernel), List.mem_of_getElem? (i := 395) (by decide +kernel)⟩
theorem lw_p5 : lw_okq (⟨"SlipBench$Search", "clearRests", "(I)V"⟩, 7) := ⟨⟨by decide +kernel, by decide +kernel⟩, List.mem_of_getElem? (i := 144) (by decide +kernel), List.mem_of_getElem? (i := 398) (by decide +kernel), List.mem_of_getElem? (i := 399) (by decide +kernel)⟩
theorem lw_p6 : lw_okq (⟨"SlipBench$Search", "allowEnd", "(I)V"⟩, 7) := ⟨⟨by decide +kernel, by decide +kernel⟩, List.mem_of_getElem? (i := 144) (by decide +kernel), List.mem_of_getElem? (i := 403) (by decide +kernel), List.mem_of_getElem? (i := 404) (by decide +kernel)⟩
theorem lw_p7 : lw_okq (⟨"SlipBench$Search", "weighColumn", "(I)V"⟩, 7) := ⟨⟨by decide +kernel, by decide +kernel⟩, List.mem_of_getElem? (i := 144) (by decide +kernel), List.mem_of_getElem? (i := 410) (by decide +kernel), List.mem_of_getElem? (i := 411) (by decide +kernel)⟩
theorem lw_p8 : lw_okq (⟨"SlipBench$Search", "better", "(IIIJ)V"⟩, 7) := ⟨⟨by decide +kernel, by decide +kernel⟩, List.mem_of_getElem? (i := 144) (by decide +kernel), List.mem_of_getElem? (i := 419) (by decide +kernel), List.mem_of_getElem? (i := 420) (by decide +kernel)⟩
theorem lw_p9 : lw_okq (⟨"SlipBench$Search", "leastStart", "()I"⟩, 7) := ⟨⟨by decide +kernel, by decide +kernel⟩, List.mem_of_getElem? (i := 144) (by decide +kernel), List.mem_of_getElem? (i := 423) (by decide +kernel), List.mem_of_getElem? (i := 424) (by decide +kernel)⟩
theorem lw_p10 : lw_okq (⟨"SlipBench$Search", "follow", "(IJLSlipBench$Line;)V"⟩, 7) := ⟨⟨by decide +kernel, by decide +kernel⟩, List.mem_of_getElem? (i := 144) (by decide +kernel), List.mem_of_getElem? (i := 427) (by decide +kernel), List.mem_of_getElem? (i := 428) (by decide +kernel)⟩
theorem lw_p11 : lw_okq (⟨"SlipBench$Search", "leastRight", "(IIJ)I"⟩, 7) := ⟨⟨by decide +kernel, by decide +kernel⟩, List.mem_of_getElem? (i := 144) (by decide +kernel), List.mem_of_getElem? (i := 432) (by decide +kernel), List.mem_of_getElem? (i := 433) (by decide +kernel)⟩
theorem lw_p12 : lw_okq (⟨"SlipBench$Search", "keyOf", "(III)J"⟩, 7) := ⟨⟨by decide +kernel, by decide +kernel⟩, List.mem_of_getElem? (i := 144) (by decide +kernel), List.mem_of_getElem? (i := 438) (by decide +kernel), List.mem_of_getElem? (i := 439) (by decide +kernel)⟩
theorem lw_p13 : lw_okq (⟨"SlipBench", "standsRisen", "(III)Z"⟩, 15) := ⟨⟨by decide +kernel, by decide +kernel⟩, List.mem_of_getElem? (i := 18) (by decide +kernel), List.mem_of_getElem? (i := 479) (by decide +kernel), List.mem_of_getElem? (i := 480) (by decide +kernel)⟩
theorem lw_p14 : lw_okq (⟨"SlipBench", "standsBehind", "(III)Z"⟩, 15) := ⟨⟨by decide +kernel, by decide +kernel⟩, List.mem_of_getElem? (i := 18) (by decide +kernel), List.mem_of_getElem? (i := 536) (by decide +kernel), List.mem_of_getElem? (i := 537) (by decide +kernel)⟩
theorem lw_p15 : lw_okq (⟨"SlipBench", "leadsOn", "(IIII)Z"⟩, 15) := ⟨⟨by decide +kernel, by decide +kernel⟩, List.mem_of_getElem? (i := 18) (by decide +kernel), List.mem_of_getElem? (i := 540) (by decide +kernel), List.mem_of_getElem? (i := 541) (by decide +kernel)⟩
def lw_privs_1 : List (MethodName × Nat) := [(⟨"SlipBench$Ground", "holdsOfPart", "(LSlipBench$Line;I)I"⟩, 2), (⟨"SlipBench$Column", "reckonHolds", "(II)I"⟩, 9), (⟨"SlipBench", "knowWorst", "()Z"⟩, 15), (⟨"SlipBench$Search", "aim", "(JJ)V"⟩, 7), (⟨"SlipBench$Search", "weigh", "(IIZ)V"⟩, 7), (⟨"SlipBench$Search", "clearRests", "(I)V"⟩, 7), (⟨"SlipBench$Search", "allowEnd", "(I)V"⟩, 7), (⟨"SlipBench$Search", "weighColumn", "(I)V"⟩, 7), (⟨"SlipBench$Search", "better", "(IIIJ)V"⟩, 7), (⟨"SlipBench$Search", "leastStart", "()I"⟩, 7), (⟨"SlipBench$Search", "follow", "(IJLSlipBench$Line;)V"⟩, 7), (⟨"SlipBench$Search", "leastRight", "(IIJ)I"⟩, 7), (⟨"SlipBench$Search", "keyOf", "(III)J"⟩, 7), (⟨"SlipBench", "standsRisen", "(III)Z"⟩, 15), (⟨"SlipBench", "standsBehind", "(III)Z"⟩, 15), (⟨"SlipBench", "leadsOn", "(IIII)Z"⟩, 15)]
theorem lw_r1 : ∀ q ∈ lw_privs_1, lw_okq q := List.forall_mem_cons.mpr ⟨lw_p0, List.forall_mem_cons.mpr ⟨lw_p1, List.forall_mem_cons.mpr ⟨lw_p2, List.forall_mem_cons.mpr ⟨lw_p3, List.forall_mem_cons.mpr ⟨lw_p4, List.forall_mem_cons.mpr ⟨lw_p5, List.forall_mem_cons.mpr ⟨lw_p6, List.forall_mem_cons.mpr ⟨lw_p7, List.forall_mem_cons.mpr ⟨lw_p8, List.forall_mem_cons.mpr ⟨lw_p9, List.forall_mem_cons.mpr ⟨lw_p10, List.forall_mem_cons.mpr ⟨lw_p11, List.forall_mem_cons.mpr ⟨lw_p12, List.forall_mem_cons.mpr ⟨lw_p13, List.forall_mem_cons.mpr ⟨lw_p14, List.forall_mem_cons.mpr ⟨lw_p15, fun _ h => absurd h List.not_mem_nil⟩⟩⟩⟩⟩⟩⟩⟩⟩⟩⟩⟩⟩⟩⟩⟩
theorem lw_p16 : lw_okq (⟨"java/lang/Throwable", "fillInStackTrace", "(I)Ljava/lang/Throwable;"⟩, 6) := ⟨⟨by decide +kernel, by decide +kernel⟩, List.mem_of_getElem? (i := 603) (by decide +kernel), List.mem_of_getElem? (i := 601) (by decide +kernel), List.mem_of_getElem? (i := 602) (by decide +kernel)⟩
theorem lw_p17 : lw_okq (⟨"SlipBenchModel", "isColumn", "(I)Z"⟩, 35) := ⟨⟨by decide +kernel, by decide +kernel⟩, List.mem_of_getElem? (i := 661) (by decide +kernel), List.mem_of_getElem? (i := 785) (by decide +kernel), List.mem_of_getElem? (i := 786) (by decide +kernel)⟩
theorem lw_p18 : lw_okq (⟨"SlipBenchModel", "fails", "(I)I"⟩, 35) := ⟨⟨by decide +kernel, by decide +kernel⟩, List.mem_of_getElem? (i := 661) (by decide +kernel), List.mem_of_getElem? (i := 797) (by decide +kernel), List.mem_of_getElem? (i := 798) (by decide +kernel)⟩
theorem lw_p19 : lw_okq (⟨"SlipBenchModel", "isLine", "()Z"⟩, 35) := ⟨⟨by decide +kernel, by decide +kernel⟩, List.mem_of_getElem? (i := 661) (by decide +kernel), List.mem_of_getElem? (i := 817) (by decide +kernel), List.mem_of_getElem? (i := 818) (by decide +kernel)⟩
theorem lw_p20 : lw_okq (⟨"SlipBenchModel", "can", "(III)Z"⟩, 35) := ⟨⟨by decide +kernel, by decide +kernel⟩, List.mem_of_getElem? (i := 661) (by decide +kernel), List.mem_of_getElem? (i := 821) (by decide +kernel), List.mem_of_getElem? (i := 822) (by decide +kernel)⟩
theorem lw_p21 : lw_okq (⟨"SlipBenchModel", "holds", "(III)J"⟩, 35) := ⟨⟨by decide +kernel, by decide +kernel⟩, List.mem_of_getElem? (i := 661) (by decide +kernel), List.mem_of_getElem? (i := 829) (by decide +kernel), List.mem_of_getElem? (i := 830) (by decide +kernel)⟩
theorem lw_p22 : lw_okq (⟨"SlipBenchModel", "press", "(II)I"⟩, 35) := ⟨⟨by decide +kernel, by decide +kernel⟩, List.mem_of_getElem? (i := 661) (by decide +kernel), List.mem_of_getElem? (i := 833) (by decide +kernel), List.mem_of_getElem? (i := 834) (by decide +kernel)⟩
theorem lw_p23 : lw_okq (⟨"SlipBenchModel", "drives", "(III)J"⟩, 35) := ⟨⟨by decide +kernel, by decide +kernel⟩, List.mem_of_getElem? (i := 661) (by decide +kernel), List.mem_of_getElem? (i := 838) (by decide +kernel), List.mem_of_getElem? (i := 839) (by decide +kernel)⟩
theorem lw_p24 : lw_okq (⟨"SlipBenchModel", "findWorst", "()V"⟩, 35) := ⟨⟨by decide +kernel, by decide +kernel⟩, List.mem_of_getElem? (i := 661) (by decide +kernel), List.mem_of_getElem? (i := 850) (by decide +kernel), List.mem_of_getElem? (i := 851) (by decide +kernel)⟩
theorem lw_p25 : lw_okq (⟨"SlipBenchModel", "walk", "(IJJI)V"⟩, 35) := ⟨⟨by decide +kernel, by decide +kernel⟩, List.mem_of_getElem? (i := 661) (by decide +kernel), List.mem_of_getElem? (i := 854) (by decide +kernel), List.mem_of_getElem? (i := 855) (by decide +kernel)⟩
theorem lw_p26 : lw_okq (⟨"SlipBenchModel", "findLine", "()V"⟩, 35) := ⟨⟨by decide +kernel, by decide +kernel⟩, List.mem_of_getElem? (i := 661) (by decide +kernel), List.mem_of_getElem? (i := 862) (by decide +kernel), List.mem_of_getElem? (i := 863) (by decide +kernel)⟩
theorem lw_p27 : lw_okq (⟨"SlipBenchModel", "tries", "()V"⟩, 35) := ⟨⟨by decide +kernel, by decide +kernel⟩, List.mem_of_getElem? (i := 661) (by decide +kernel), List.mem_of_getElem? (i := 877) (by decide +kernel), List.mem_of_getElem? (i := 878) (by decide +kernel)⟩
theorem lw_p28 : lw_okq (⟨"SlipBenchModel", "holdsOut", "(II)Z"⟩, 35) := ⟨⟨by decide +kernel, by decide +kernel⟩, List.mem_of_getElem? (i := 661) (by decide +kernel), List.mem_of_getElem? (i := 881) (by decide +kernel), List.mem_of_getElem? (i := 882) (by decide +kernel)⟩
theorem lw_p29 : lw_okq (⟨"SlipBenchModel", "does", "(I)V"⟩, 35) := ⟨⟨by decide +kernel, by decide +kernel⟩, List.mem_of_getElem? (i := 661) (by decide +kernel), List.mem_of_getElem? (i := 893) (by decide +kernel), List.mem_of_getElem? (i := 894) (by decide +kernel)⟩
theorem lw_p30 : lw_okq (⟨"SlipBenchModel", "another", "()Z"⟩, 35) := ⟨⟨by decide +kernel, by decide +kernel⟩, List.mem_of_getElem? (i := 661) (by decide +kernel), List.mem_of_getElem? (i := 901) (by decide +kernel), List.mem_of_getElem? (i := 902) (by decide +kernel)⟩
theorem lw_p31 : lw_okq (⟨"SlipBenchModel", "swap", "(II)V"⟩, 35) := ⟨⟨by decide +kernel, by decide +kernel⟩, List.mem_of_getElem? (i := 661) (by decide +kernel), List.mem_of_getElem? (i := 905) (by decide +kernel), List.mem_of_getElem? (i := 906) (by decide +kernel)⟩
def lw_privs_2 : List (MethodName × Nat) := [(⟨"java/lang/Throwable", "fillInStackTrace", "(I)Ljava/lang/Throwable;"⟩, 6), (⟨"SlipBenchModel", "isColumn", "(I)Z"⟩, 35), (⟨"SlipBenchModel", "fails", "(I)I"⟩, 35), (⟨"SlipBenchModel", "isLine", "()Z"⟩, 35), (⟨"SlipBenchModel", "can", "(III)Z"⟩, 35), (⟨"SlipBenchModel", "holds", "(III)J"⟩, 35), (⟨"SlipBenchModel", "press", "(II)I"⟩, 35), (⟨"SlipBenchModel", "drives", "(III)J"⟩, 35), (⟨"SlipBenchModel", "findWorst", "()V"⟩, 35), (⟨"SlipBenchModel", "walk", "(IJJI)V"⟩, 35), (⟨"SlipBenchModel", "findLine", "()V"⟩, 35), (⟨"SlipBenchModel", "tries", "()V"⟩, 35), (⟨"SlipBenchModel", "holdsOut", "(II)Z"⟩, 35), (⟨"SlipBenchModel", "does", "(I)V"⟩, 35), (⟨"SlipBenchModel", "another", "()Z"⟩, 35), (⟨"SlipBenchModel", "swap", "(II)V"⟩, 35)]
theorem lw_r2 : ∀ q ∈ lw_privs_2, lw_okq q := List.forall_mem_cons.mpr ⟨lw_p16, List.forall_mem_cons.mpr ⟨lw_p17, List.forall_mem_cons.mpr ⟨lw_p18, List.forall_mem_cons.mpr ⟨lw_p19, List.forall_mem_cons.mpr ⟨lw_p20, List.forall_mem_cons.mpr ⟨lw_p21, List.forall_mem_cons.mpr ⟨lw_p22, List.forall_mem_cons.mpr ⟨lw_p23, List.forall_mem_cons.mpr ⟨lw_p24, List.forall_mem_cons.mpr ⟨lw_p25, List.forall_mem_cons.mpr ⟨lw_p26, List.forall_mem_cons.mpr ⟨lw_p27, List.forall_mem_cons.mpr ⟨lw_p28, List.forall_mem_cons.mpr ⟨lw_p29, List.forall_mem_cons.mpr ⟨lw_p30, List.forall_mem_cons.mpr ⟨lw_p31, fun _ h => absurd h List.not_mem_nil⟩⟩⟩⟩⟩⟩⟩⟩⟩⟩⟩⟩⟩⟩⟩⟩
def lw_privs : List (MethodName × Nat) := lw_privs_1 ++ (lw_privs_2)
def lw_tbl : List Cond := k2_sels lw_privs ++ tables_1
theorem lw_privs_ok : ∀ q ∈ lw_privs, lw_okq q := by
  show ∀ q ∈ lw_privs_1 ++ (lw_privs_2), lw_okq q
  exact List.forall_mem_append.mpr ⟨lw_r1, lw_r2⟩
-- ===== end of PART A; then your names; then what follows =====
/-! ===== BEGIN words of one list among another's, by their places ===== -/
theorem goodIn_r {big : List Cond} (ws : List Cond) (ps : List Nat) (hp : ws = ps.filterMap (fun i => big[i]?)) (h : ws.all goodWord = true) : GoodIn big ws := by
  intro w hw
  have h1 := List.all_eq_true.mp h w hw
  rw [hp] at hw
  obtain ⟨i, -, hi⟩ := List.mem_filterMap.mp hw
  have hm : w ∈ big := by first | exact List.mem_of_getElem? hi | exact List.getElem?_mem hi
  exact ⟨hm, good_of_word h1⟩
theorem goodIn_app {big a b : List Cond} (ha : GoodIn big a) (hb : GoodIn big b) : GoodIn big (a ++ b) := fun w h => (List.mem_append.mp h).elim (ha w) (hb w)
theorem goodIn_ca {big a b : List Cond} {c : Cond} (ha : GoodIn big (c :: a)) (hb : GoodIn big b) : GoodIn big (c :: (a ++ b)) := fun w h => (List.mem_cons.mp h).elim (fun e => ha w (List.mem_cons.mpr (Or.inl e))) (fun h => (List.mem_append.mp h).elim (fun h => ha w (List.mem_cons.mpr (Or.inr h))) (hb w))
theorem goodIn_sub {big ws : List Cond} (hm : ∀ w ∈ ws, w ∈ big) (h : ws.all goodWord = true) : GoodIn big ws := fun w hw => ⟨hm w hw, good_of_word (List.all_eq_true.mp h w hw)⟩
/-! ===== END ===== -/
/-! ===== BEGIN printed: names, fields, word lists, decode rows ===== -/
def RX0 : String := "SlipBench$Acts"
def TX0 : u_T := fun k => match k with
  | 0 => ("SlipBench$Acts", "size", "I", false)
  | 1 => ("SlipBench$Acts", "kinds", "[I", true)
  | 2 => ("SlipBench$Acts", "places", "[I", true)
  | _ => ("SlipBench$Acts", "amounts", "[I", true)
def tyX0 : Nat → FieldType := fun k => match k with
  | 0 => .int
  | 1 => .array .int
  | 2 => .array .int
  | _ => .array .int
abbrev wsX00 : List Cond := u_ws RX0 TX0 4
theorem nmX0 : ∀ a, a < 4 → ∀ b, b < 4 → a ≠ b → (TX0 a).2.1 ≠ (TX0 b).2.1 := by decide +kernel
theorem tyX0_ok : ∀ k, k < 4 → parseFieldDescriptor (TX0 k).2.2.1 = some (tyX0 k) := by decide +kernel
abbrev cX0_init : ByteArray := prog_2_method_1_code
def yX0_init : MethodName := ⟨RX0, "<init>", "()V"⟩
abbrev cX0_has : ByteArray := prog_2_method_2_code
def yX0_has : MethodName := ⟨RX0, "has", "(I)Z"⟩
abbrev cX0_add : ByteArray := prog_2_method_3_code
def yX0_add : MethodName := ⟨RX0, "add", "(III)I"⟩
abbrev cX0_doOn : ByteArray := prog_2_method_4_code
def yX0_doOn : MethodName := ⟨RX0, "doOn", "(LSlipBench$Ground;I)V"⟩
def RX1 : String := "SlipBench$Column"
def TX1 : u_T := fun k => match k with
  | 0 => ("SlipBench$Column", "cells", "[I", true)
  | 1 => ("SlipBench$Column", "tall", "I", false)
  | 2 => ("SlipBench$Column", "water", "I", false)
  | 3 => ("SlipBench$Column", "load", "I", false)
  | 4 => ("SlipBench$Column", "nails", "I", false)
  | 5 => ("SlipBench$Column", "earths", "LSlipBench$Earths;", true)
  | 6 => ("SlipBench$Column", "presses", "[I", true)
  | 7 => ("SlipBench$Column", "holds", "[I", true)
  | _ => ("SlipBench$Column", "reckoned", "Z", false)
def tyX1 : Nat → FieldType := fun k => match k with
  | 0 => .array .int
  | 1 => .int
  | 2 => .int
  | 3 => .int
  | 4 => .int
  | 5 => .object "SlipBench$Earths"
  | 6 => .array .int
  | 7 => .array .int
  | _ => .boolean
abbrev wsX10 : List Cond := u_ws RX1 TX1 9
theorem nmX1 : ∀ a, a < 9 → ∀ b, b < 9 → a ≠ b → (TX1 a).2.1 ≠ (TX1 b).2.1 := by decide +kernel
theorem tyX1_ok : ∀ k, k < 9 → parseFieldDescriptor (TX1 k).2.2.1 = some (tyX1 k) := by decide +kernel
abbrev cX1_init : ByteArray := prog_3_method_1_code
def yX1_init : MethodName := ⟨RX1, "<init>", "(LSlipBench$Earths;[I)V"⟩
abbrev cX1_clear : ByteArray := prog_3_method_2_code
def yX1_clear : MethodName := ⟨RX1, "clear", "()V"⟩
abbrev cX1_copy : ByteArray := prog_3_method_3_code
def yX1_copy : MethodName := ⟨RX1, "copy", "(LSlipBench$Column;)V"⟩
abbrev cX1_pile : ByteArray := prog_3_method_4_code
def yX1_pile : MethodName := ⟨RX1, "pile", "(II)V"⟩
abbrev cX1_digTo : ByteArray := prog_3_method_5_code
def yX1_digTo : MethodName := ⟨RX1, "digTo", "(I)V"⟩
abbrev cX1_put : ByteArray := prog_3_method_6_code
def yX1_put : MethodName := ⟨RX1, "put", "(II)V"⟩
abbrev cX1_holdsAt : ByteArray := prog_3_method_7_code
def yX1_holdsAt : MethodName := ⟨RX1, "holdsAt", "(II)I"⟩
abbrev cX1_drivesFrom : ByteArray := prog_3_method_8_code
def yX1_drivesFrom : MethodName := ⟨RX1, "drivesFrom", "(II)I"⟩
abbrev cX1_reckon : ByteArray := prog_3_method_9_code
def yX1_reckon : MethodName := ⟨RX1, "reckon", "()V"⟩
abbrev cX1_reckonHolds : ByteArray := prog_3_method_10_code
def yX1_reckonHolds : MethodName := ⟨RX1, "reckonHolds", "(II)I"⟩
def RX2 : String := "SlipBench$Earths"
def TX2 : u_T := fun k => match k with
  | 0 => ("SlipBench$Earths", "weights", "[I", true)
  | 1 => ("SlipBench$Earths", "holds", "[I", true)
  | 2 => ("SlipBench$Earths", "rubs", "[I", true)
  | 3 => ("SlipBench$Earths", "rocks", "[Z", true)
  | _ => ("SlipBench$Earths", "size", "I", false)
def tyX2 : Nat → FieldType := fun k => match k with
  | 0 => .array .int
  | 1 => .array .int
  | 2 => .array .int
  | 3 => .array .boolean
  | _ => .int
abbrev wsX20 : List Cond := u_ws RX2 TX2 5
theorem nmX2 : ∀ a, a < 5 → ∀ b, b < 5 → a ≠ b → (TX2 a).2.1 ≠ (TX2 b).2.1 := by decide +kernel
theorem tyX2_ok : ∀ k, k < 5 → parseFieldDescriptor (TX2 k).2.2.1 = some (tyX2 k) := by decide +kernel
abbrev cX2_init : ByteArray := prog_4_method_1_code
def yX2_init : MethodName := ⟨RX2, "<init>", "()V"⟩
abbrev cX2_has : ByteArray := prog_4_method_2_code
def yX2_has : MethodName := ⟨RX2, "has", "(I)Z"⟩
abbrev cX2_add : ByteArray := prog_4_method_3_code
def yX2_add : MethodName := ⟨RX2, "add", "(IIIZ)I"⟩
def RX3 : String := "SlipBench$Fraction"
def TX3 : u_T := fun k => match k with
  | 0 => ("SlipBench$Fraction", "upper", "J", false)
  | _ => ("SlipBench$Fraction", "lower", "J", false)
def tyX3 : Nat → FieldType := fun k => match k with
  | 0 => .long
  | _ => .long
abbrev wsX30 : List Cond := u_ws RX3 TX3 2
theorem nmX3 : ∀ a, a < 2 → ∀ b, b < 2 → a ≠ b → (TX3 a).2.1 ≠ (TX3 b).2.1 := by decide +kernel
theorem tyX3_ok : ∀ k, k < 2 → parseFieldDescriptor (TX3 k).2.2.1 = some (tyX3 k) := by decide +kernel
abbrev cX3_init : ByteArray := prog_5_method_1_code
def yX3_init : MethodName := ⟨RX3, "<init>", "()V"⟩
abbrev cX3_become : ByteArray := prog_5_method_2_code
def yX3_become : MethodName := ⟨RX3, "become", "(JJ)V"⟩
abbrev cX3_greatestCommon : ByteArray := prog_5_method_3_code
def yX3_greatestCommon : MethodName := ⟨RX3, "greatestCommon", "(JJ)J"⟩
def RX4 : String := "SlipBench$Ground"
def TX4 : u_T := fun k => match k with
  | 0 => ("SlipBench$Ground", "columns", "[LSlipBench$Column;", true)
  | _ => ("SlipBench$Ground", "width", "I", false)
def tyX4 : Nat → FieldType := fun k => match k with
  | 0 => .array (.object "SlipBench$Column")
  | _ => .int
abbrev wsX40 : List Cond := u_ws RX4 TX4 2
theorem nmX4 : ∀ a, a < 2 → ∀ b, b < 2 → a ≠ b → (TX4 a).2.1 ≠ (TX4 b).2.1 := by decide +kernel
theorem tyX4_ok : ∀ k, k < 2 → parseFieldDescriptor (TX4 k).2.2.1 = some (tyX4 k) := by decide +kernel
abbrev cX4_init : ByteArray := prog_6_method_1_code
def yX4_init : MethodName := ⟨RX4, "<init>", "(LSlipBench$Earths;)V"⟩
abbrev cX4_init_ : ByteArray := prog_6_method_2_code
def yX4_init_ : MethodName := ⟨RX4, "<init>", "(LSlipBench$Ground;)V"⟩
abbrev cX4_has : ByteArray := prog_6_method_3_code
def yX4_has : MethodName := ⟨RX4, "has", "(I)Z"⟩
abbrev cX4_clearTo : ByteArray := prog_6_method_4_code
def yX4_clearTo : MethodName := ⟨RX4, "clearTo", "(I)V"⟩
abbrev cX4_copy : ByteArray := prog_6_method_5_code
def yX4_copy : MethodName := ⟨RX4, "copy", "(LSlipBench$Ground;)V"⟩
abbrev cX4_reckon : ByteArray := prog_6_method_6_code
def yX4_reckon : MethodName := ⟨RX4, "reckon", "()V"⟩
abbrev cX4_raiseWater : ByteArray := prog_6_method_7_code
def yX4_raiseWater : MethodName := ⟨RX4, "raiseWater", "(I)V"⟩
abbrev cX4_cellCount : ByteArray := prog_6_method_8_code
def yX4_cellCount : MethodName := ⟨RX4, "cellCount", "()I"⟩
abbrev cX4_bears : ByteArray := prog_6_method_9_code
def yX4_bears : MethodName := ⟨RX4, "bears", "(LSlipBench$Line;)Z"⟩
abbrev cX4_holdsAlong : ByteArray := prog_6_method_10_code
def yX4_holdsAlong : MethodName := ⟨RX4, "holdsAlong", "(LSlipBench$Line;)J"⟩
abbrev cX4_drivesAlong : ByteArray := prog_6_method_11_code
def yX4_drivesAlong : MethodName := ⟨RX4, "drivesAlong", "(LSlipBench$Line;)J"⟩
abbrev cX4_holdsOfPart : ByteArray := prog_6_method_12_code
def yX4_holdsOfPart : MethodName := ⟨RX4, "holdsOfPart", "(LSlipBench$Line;I)I"⟩
def RX5 : String := "SlipBench$Line"
def TX5 : u_T := fun k => match k with
  | 0 => ("SlipBench$Line", "heights", "[I", true)
  | 1 => ("SlipBench$Line", "start", "I", false)
  | _ => ("SlipBench$Line", "size", "I", false)
def tyX5 : Nat → FieldType := fun k => match k with
  | 0 => .array .int
  | 1 => .int
  | _ => .int
abbrev wsX50 : List Cond := u_ws RX5 TX5 3
theorem nmX5 : ∀ a, a < 3 → ∀ b, b < 3 → a ≠ b → (TX5 a).2.1 ≠ (TX5 b).2.1 := by decide +kernel
theorem tyX5_ok : ∀ k, k < 3 → parseFieldDescriptor (TX5 k).2.2.1 = some (tyX5 k) := by decide +kernel
abbrev cX5_init : ByteArray := prog_7_method_1_code
def yX5_init : MethodName := ⟨RX5, "<init>", "()V"⟩
abbrev cX5_drop : ByteArray := prog_7_method_2_code
def yX5_drop : MethodName := ⟨RX5, "drop", "()V"⟩
abbrev cX5_startAt : ByteArray := prog_7_method_3_code
def yX5_startAt : MethodName := ⟨RX5, "startAt", "(II)V"⟩
abbrev cX5_add : ByteArray := prog_7_method_4_code
def yX5_add : MethodName := ⟨RX5, "add", "(I)V"⟩
abbrev cX5_end : ByteArray := prog_7_method_5_code
def yX5_end : MethodName := ⟨RX5, "end", "()I"⟩
def RX6 : String := "SlipBench$Search"
def TX6 : u_T := fun k => match k with
  | 0 => ("SlipBench$Search", "studied", "LSlipBench$Ground;", false)
  | 1 => ("SlipBench$Search", "rests", "[J", true)
  | 2 => ("SlipBench$Search", "wholes", "[J", true)
  | 3 => ("SlipBench$Search", "p", "J", false)
  | 4 => ("SlipBench$Search", "q", "J", false)
  | 5 => ("SlipBench$Search", "last", "I", false)
  | _ => ("SlipBench$Search", "anyEnd", "Z", false)
def tyX6 : Nat → FieldType := fun k => match k with
  | 0 => .object "SlipBench$Ground"
  | 1 => .array .long
  | 2 => .array .long
  | 3 => .long
  | 4 => .long
  | 5 => .int
  | _ => .boolean
abbrev wsX60 : List Cond := u_ws RX6 TX6 7
theorem nmX6 : ∀ a, a < 7 → ∀ b, b < 7 → a ≠ b → (TX6 a).2.1 ≠ (TX6 b).2.1 := by decide +kernel
theorem tyX6_ok : ∀ k, k < 7 → parseFieldDescriptor (TX6 k).2.2.1 = some (tyX6 k) := by decide +kernel
abbrev cX6_init : ByteArray := prog_8_method_1_code
def yX6_init : MethodName := ⟨RX6, "<init>", "(LSlipBench$Ground;)V"⟩
abbrev cX6_study : ByteArray := prog_8_method_2_code
def yX6_study : MethodName := ⟨RX6, "study", "(LSlipBench$Ground;)V"⟩
abbrev cX6_stands : ByteArray := prog_8_method_3_code
def yX6_stands : MethodName := ⟨RX6, "stands", "(JJ)Z"⟩
abbrev cX6_findWorst : ByteArray := prog_8_method_4_code
def yX6_findWorst : MethodName := ⟨RX6, "findWorst", "(LSlipBench$Line;LSlipBench$Fraction;)Z"⟩
abbrev cX6_findFirst : ByteArray := prog_8_method_5_code
def yX6_findFirst : MethodName := ⟨RX6, "findFirst", "(LSlipBench$Line;LSlipBench$Fraction;)V"⟩
abbrev cX6_aim : ByteArray := prog_8_method_6_code
def yX6_aim : MethodName := ⟨RX6, "aim", "(JJ)V"⟩
abbrev cX6_weigh : ByteArray := prog_8_method_7_code
def yX6_weigh : MethodName := ⟨RX6, "weigh", "(IIZ)V"⟩
abbrev cX6_clearRests : ByteArray := prog_8_method_8_code
def yX6_clearRests : MethodName := ⟨RX6, "clearRests", "(I)V"⟩
abbrev cX6_allowEnd : ByteArray := prog_8_method_9_code
def yX6_allowEnd : MethodName := ⟨RX6, "allowEnd", "(I)V"⟩
abbrev cX6_weighColumn : ByteArray := prog_8_method_10_code
def yX6_weighColumn : MethodName := ⟨RX6, "weighColumn", "(I)V"⟩
abbrev cX6_better : ByteArray := prog_8_method_11_code
def yX6_better : MethodName := ⟨RX6, "better", "(IIIJ)V"⟩
abbrev cX6_leastStart : ByteArray := prog_8_method_12_code
def yX6_leastStart : MethodName := ⟨RX6, "leastStart", "()I"⟩
abbrev cX6_follow : ByteArray := prog_8_method_13_code
def yX6_follow : MethodName := ⟨RX6, "follow", "(IJLSlipBench$Line;)V"⟩
abbrev cX6_leastRight : ByteArray := prog_8_method_14_code
def yX6_leastRight : MethodName := ⟨RX6, "leastRight", "(IIJ)I"⟩
abbrev cX6_keyOf : ByteArray := prog_8_method_15_code
def yX6_keyOf : MethodName := ⟨RX6, "keyOf", "(III)J"⟩
def RX7 : String := "SlipBench"
def TX7 : u_T := fun k => match k with
  | 0 => ("SlipBench", "earths", "LSlipBench$Earths;", true)
  | 1 => ("SlipBench", "ground", "LSlipBench$Ground;", true)
  | 2 => ("SlipBench", "trial", "LSlipBench$Ground;", true)
  | 3 => ("SlipBench", "acts", "LSlipBench$Acts;", true)
  | 4 => ("SlipBench", "search", "LSlipBench$Search;", true)
  | 5 => ("SlipBench", "begun", "LSlipBench$Line;", true)
  | 6 => ("SlipBench", "worstLine", "LSlipBench$Line;", true)
  | 7 => ("SlipBench", "worstShare", "LSlipBench$Fraction;", true)
  | 8 => ("SlipBench", "begunShare", "LSlipBench$Fraction;", true)
  | 9 => ("SlipBench", "dead", "[Z", true)
  | 10 => ("SlipBench", "tried", "[I", true)
  | 11 => ("SlipBench", "steps", "[I", true)
  | 12 => ("SlipBench", "stepCount", "I", false)
  | 13 => ("SlipBench", "worstKnown", "Z", false)
  | _ => ("SlipBench", "worstExists", "Z", false)
def tyX7 : Nat → FieldType := fun k => match k with
  | 0 => .object "SlipBench$Earths"
  | 1 => .object "SlipBench$Ground"
  | 2 => .object "SlipBench$Ground"
  | 3 => .object "SlipBench$Acts"
  | 4 => .object "SlipBench$Search"
  | 5 => .object "SlipBench$Line"
  | 6 => .object "SlipBench$Line"
  | 7 => .object "SlipBench$Fraction"
  | 8 => .object "SlipBench$Fraction"
  | 9 => .array .boolean
  | 10 => .array .int
  | 11 => .array .int
  | 12 => .int
  | 13 => .boolean
  | _ => .boolean
abbrev wsX70 : List Cond := u_ws RX7 TX7 15
theorem nmX7 : ∀ a, a < 15 → ∀ b, b < 15 → a ≠ b → (TX7 a).2.1 ≠ (TX7 b).2.1 := by decide +kernel
theorem tyX7_ok : ∀ k, k < 15 → parseFieldDescriptor (TX7 k).2.2.1 = some (tyX7 k) := by decide +kernel
abbrev cX7_init : ByteArray := prog_1_method_1_code
def yX7_init : MethodName := ⟨RX7, "<init>", "()V"⟩
abbrev cX7_ground : ByteArray := prog_1_method_2_code
def yX7_ground : MethodName := ⟨RX7, "ground", "(I)Z"⟩
abbrev cX7_earth : ByteArray := prog_1_method_3_code
def yX7_earth : MethodName := ⟨RX7, "earth", "(IIIZ)I"⟩
abbrev cX7_lay : ByteArray := prog_1_method_4_code
def yX7_lay : MethodName := ⟨RX7, "lay", "(III)I"⟩
abbrev cX7_set : ByteArray := prog_1_method_5_code
def yX7_set : MethodName := ⟨RX7, "set", "(III)Z"⟩
abbrev cX7_look : ByteArray := prog_1_method_6_code
def yX7_look : MethodName := ⟨RX7, "look", "(II)I"⟩
abbrev cX7_cell : ByteArray := prog_1_method_7_code
def yX7_cell : MethodName := ⟨RX7, "cell", "(II)I"⟩
abbrev cX7_begin : ByteArray := prog_1_method_8_code
def yX7_begin : MethodName := ⟨RX7, "begin", "(II)Z"⟩
abbrev cX7_next : ByteArray := prog_1_method_9_code
def yX7_next : MethodName := ⟨RX7, "next", "(I)I"⟩
abbrev cX7_line : ByteArray := prog_1_method_10_code
def yX7_line : MethodName := ⟨RX7, "line", "()I"⟩
abbrev cX7_share : ByteArray := prog_1_method_11_code
def yX7_share : MethodName := ⟨RX7, "share", "(I)J"⟩
abbrev cX7_worst : ByteArray := prog_1_method_12_code
def yX7_worst : MethodName := ⟨RX7, "worst", "(I)J"⟩
abbrev cX7_height : ByteArray := prog_1_method_13_code
def yX7_height : MethodName := ⟨RX7, "height", "(I)I"⟩
abbrev cX7_rise : ByteArray := prog_1_method_14_code
def yX7_rise : MethodName := ⟨RX7, "rise", "(II)I"⟩
abbrev cX7_act : ByteArray := prog_1_method_15_code
def yX7_act : MethodName := ⟨RX7, "act", "(III)I"⟩
abbrev cX7_perform : ByteArray := prog_1_method_16_code
def yX7_perform : MethodName := ⟨RX7, "perform", "(I)Z"⟩
abbrev cX7_order : ByteArray := prog_1_method_17_code
def yX7_order : MethodName := ⟨RX7, "order", "(II)I"⟩
abbrev cX7_step : ByteArray := prog_1_method_18_code
def yX7_step : MethodName := ⟨RX7, "step", "(I)I"⟩
abbrev cX7_count : ByteArray := prog_1_method_19_code
def yX7_count : MethodName := ⟨RX7, "count", "(I)I"⟩
abbrev cX7_within : ByteArray := prog_1_method_20_code
def yX7_within : MethodName := ⟨RX7, "within", "(III)Z"⟩
abbrev cX7_isRatio : ByteArray := prog_1_method_21_code
def yX7_isRatio : MethodName := ⟨RX7, "isRatio", "(II)Z"⟩
abbrev cX7_knowWorst : ByteArray := prog_1_method_22_code
def yX7_knowWorst : MethodName := ⟨RX7, "knowWorst", "()Z"⟩
abbrev cX7_standsRisen : ByteArray := prog_1_method_23_code
def yX7_standsRisen : MethodName := ⟨RX7, "standsRisen", "(III)Z"⟩
abbrev cX7_standsBehind : ByteArray := prog_1_method_24_code
def yX7_standsBehind : MethodName := ⟨RX7, "standsBehind", "(III)Z"⟩
abbrev cX7_leadsOn : ByteArray := prog_1_method_25_code
def yX7_leadsOn : MethodName := ⟨RX7, "leadsOn", "(IIII)Z"⟩
def RX8 : String := "SlipBenchModel"
def TX8 : u_T := fun k => match k with
  | 0 => ("SlipBenchModel", "width", "I", false)
  | 1 => ("SlipBenchModel", "earths", "I", false)
  | 2 => ("SlipBenchModel", "weight", "[I", true)
  | 3 => ("SlipBenchModel", "hold", "[I", true)
  | 4 => ("SlipBenchModel", "rub", "[I", true)
  | 5 => ("SlipBenchModel", "rock", "[Z", true)
  | 6 => ("SlipBenchModel", "cells", "[I", true)
  | 7 => ("SlipBenchModel", "heights", "[I", true)
  | 8 => ("SlipBenchModel", "waters", "[I", true)
  | 9 => ("SlipBenchModel", "loads", "[I", true)
  | 10 => ("SlipBenchModel", "nails", "[I", true)
  | 11 => ("SlipBenchModel", "base", "I", false)
  | 12 => ("SlipBenchModel", "acts", "I", false)
  | 13 => ("SlipBenchModel", "actKind", "[I", true)
  | 14 => ("SlipBenchModel", "actColumn", "[I", true)
  | 15 => ("SlipBenchModel", "actN", "[I", true)
  | 16 => ("SlipBenchModel", "lineFrom", "I", false)
  | 17 => ("SlipBenchModel", "lineMany", "I", false)
  | 18 => ("SlipBenchModel", "line", "[I", true)
  | 19 => ("SlipBenchModel", "thrown", "I", false)
  | 20 => ("SlipBenchModel", "sum", "[J", true)
  | 21 => ("SlipBenchModel", "drove", "[J", true)
  | 22 => ("SlipBenchModel", "held", "[J", true)
  | 23 => ("SlipBenchModel", "bestSum", "J", false)
  | 24 => ("SlipBenchModel", "bestDrive", "J", false)
  | 25 => ("SlipBenchModel", "bestHold", "J", false)
  | 26 => ("SlipBenchModel", "isWorst", "Z", false)
  | 27 => ("SlipBenchModel", "up", "J", false)
  | 28 => ("SlipBenchModel", "low", "J", false)
  | 29 => ("SlipBenchModel", "from", "I", false)
  | 30 => ("SlipBenchModel", "to", "I", false)
  | 31 => ("SlipBenchModel", "way", "[I", true)
  | 32 => ("SlipBenchModel", "row", "[I", true)
  | 33 => ("SlipBenchModel", "steps", "[I", true)
  | _ => ("SlipBenchModel", "stepMany", "I", false)
def tyX8 : Nat → FieldType := fun k => match k with
  | 0 => .int
  | 1 => .int
  | 2 => .array .int
  | 3 => .array .int
  | 4 => .array .int
  | 5 => .array .boolean
  | 6 => .array .int
  | 7 => .array .int
  | 8 => .array .int
  | 9 => .array .int
  | 10 => .array .int
  | 11 => .int
  | 12 => .int
  | 13 => .array .int
  | 14 => .array .int
  | 15 => .array .int
  | 16 => .int
  | 17 => .int
  | 18 => .array .int
  | 19 => .int
  | 20 => .array .long
  | 21 => .array .long
  | 22 => .array .long
  | 23 => .long
  | 24 => .long
  | 25 => .long
  | 26 => .boolean
  | 27 => .long
  | 28 => .long
  | 29 => .int
  | 30 => .int
  | 31 => .array .int
  | 32 => .array .int
  | 33 => .array .int
  | _ => .int
abbrev wsX80 : List Cond := u_ws RX8 TX8 35
theorem nmX8 : ∀ a, a < 35 → ∀ b, b < 35 → a ≠ b → (TX8 a).2.1 ≠ (TX8 b).2.1 := by decide +kernel
theorem tyX8_ok : ∀ k, k < 35 → parseFieldDescriptor (TX8 k).2.2.1 = some (tyX8 k) := by decide +kernel
abbrev cX8_init : ByteArray := prog_10_method_1_code
def yX8_init : MethodName := ⟨RX8, "<init>", "()V"⟩
abbrev cX8_ground : ByteArray := prog_10_method_3_code
def yX8_ground : MethodName := ⟨RX8, "ground", "(I)Z"⟩
abbrev cX8_earth : ByteArray := prog_10_method_4_code
def yX8_earth : MethodName := ⟨RX8, "earth", "(IIIZ)I"⟩
abbrev cX8_isColumn : ByteArray := prog_10_method_5_code
def yX8_isColumn : MethodName := ⟨RX8, "isColumn", "(I)Z"⟩
abbrev cX8_lay : ByteArray := prog_10_method_6_code
def yX8_lay : MethodName := ⟨RX8, "lay", "(III)I"⟩
abbrev cX8_set : ByteArray := prog_10_method_7_code
def yX8_set : MethodName := ⟨RX8, "set", "(III)Z"⟩
abbrev cX8_fails : ByteArray := prog_10_method_8_code
def yX8_fails : MethodName := ⟨RX8, "fails", "(I)I"⟩
abbrev cX8_look : ByteArray := prog_10_method_9_code
def yX8_look : MethodName := ⟨RX8, "look", "(II)I"⟩
abbrev cX8_cell : ByteArray := prog_10_method_10_code
def yX8_cell : MethodName := ⟨RX8, "cell", "(II)I"⟩
abbrev cX8_can : ByteArray := prog_10_method_11_code
def yX8_can : MethodName := ⟨RX8, "can", "(III)Z"⟩
abbrev cX8_press : ByteArray := prog_10_method_12_code
def yX8_press : MethodName := ⟨RX8, "press", "(II)I"⟩
abbrev cX8_holds : ByteArray := prog_10_method_13_code
def yX8_holds : MethodName := ⟨RX8, "holds", "(III)J"⟩
abbrev cX8_drives : ByteArray := prog_10_method_14_code
def yX8_drives : MethodName := ⟨RX8, "drives", "(III)J"⟩
abbrev cX8_begin : ByteArray := prog_10_method_15_code
def yX8_begin : MethodName := ⟨RX8, "begin", "(II)Z"⟩
abbrev cX8_next : ByteArray := prog_10_method_16_code
def yX8_next : MethodName := ⟨RX8, "next", "(I)I"⟩
abbrev cX8_isLine : ByteArray := prog_10_method_17_code
def yX8_isLine : MethodName := ⟨RX8, "isLine", "()Z"⟩
abbrev cX8_line : ByteArray := prog_10_method_18_code
def yX8_line : MethodName := ⟨RX8, "line", "()I"⟩
abbrev cX8_divisor : ByteArray := prog_10_method_19_code
def yX8_divisor : MethodName := ⟨RX8, "divisor", "(JJ)J"⟩
abbrev cX8_share : ByteArray := prog_10_method_20_code
def yX8_share : MethodName := ⟨RX8, "share", "(I)J"⟩
abbrev cX8_better : ByteArray := prog_10_method_21_code
def yX8_better : MethodName := ⟨RX8, "better", "(JJJJ)Z"⟩
abbrev cX8_walk : ByteArray := prog_10_method_22_code
def yX8_walk : MethodName := ⟨RX8, "walk", "(IJJI)V"⟩
abbrev cX8_findWorst : ByteArray := prog_10_method_23_code
def yX8_findWorst : MethodName := ⟨RX8, "findWorst", "()V"⟩
abbrev cX8_findLine : ByteArray := prog_10_method_24_code
def yX8_findLine : MethodName := ⟨RX8, "findLine", "()V"⟩
abbrev cX8_worst : ByteArray := prog_10_method_25_code
def yX8_worst : MethodName := ⟨RX8, "worst", "(I)J"⟩
abbrev cX8_height : ByteArray := prog_10_method_26_code
def yX8_height : MethodName := ⟨RX8, "height", "(I)I"⟩
abbrev cX8_holdsOut : ByteArray := prog_10_method_27_code
def yX8_holdsOut : MethodName := ⟨RX8, "holdsOut", "(II)Z"⟩
abbrev cX8_areShares : ByteArray := prog_10_method_28_code
def yX8_areShares : MethodName := ⟨RX8, "areShares", "(II)Z"⟩
abbrev cX8_tries : ByteArray := prog_10_method_29_code
def yX8_tries : MethodName := ⟨RX8, "tries", "()V"⟩
abbrev cX8_rise : ByteArray := prog_10_method_30_code
def yX8_rise : MethodName := ⟨RX8, "rise", "(II)I"⟩
abbrev cX8_act : ByteArray := prog_10_method_31_code
def yX8_act : MethodName := ⟨RX8, "act", "(III)I"⟩
abbrev cX8_does : ByteArray := prog_10_method_32_code
def yX8_does : MethodName := ⟨RX8, "does", "(I)V"⟩
abbrev cX8_perform : ByteArray := prog_10_method_33_code
def yX8_perform : MethodName := ⟨RX8, "perform", "(I)Z"⟩
abbrev cX8_swap : ByteArray := prog_10_method_34_code
def yX8_swap : MethodName := ⟨RX8, "swap", "(II)V"⟩
abbrev cX8_another : ByteArray := prog_10_method_35_code
def yX8_another : MethodName := ⟨RX8, "another", "()Z"⟩
abbrev cX8_order : ByteArray := prog_10_method_36_code
def yX8_order : MethodName := ⟨RX8, "order", "(II)I"⟩
abbrev cX8_step : ByteArray := prog_10_method_37_code
def yX8_step : MethodName := ⟨RX8, "step", "(I)I"⟩
abbrev cX8_count : ByteArray := prog_10_method_38_code
def yX8_count : MethodName := ⟨RX8, "count", "(I)I"⟩
def RJ9 : String := "java/lang/Math"
def TJ9 : u_T := fun k => match k with
  | _ => ("", "", "", false)
def tyJ9 : Nat → FieldType := fun k => match k with
  | _ => .int
abbrev wsJ90 : List Cond := u_ws RJ9 TJ9 0
theorem nmJ9 : ∀ a, a < 0 → ∀ b, b < 0 → a ≠ b → (TJ9 a).2.1 ≠ (TJ9 b).2.1 := by decide +kernel
theorem tyJ9_ok : ∀ k, k < 0 → parseFieldDescriptor (TJ9 k).2.2.1 = some (tyJ9 k) := by decide +kernel
abbrev cJ9_abs_0f7a4 : ByteArray := prog_13_method_59_code
def yJ9_abs_0f7a4 : MethodName := ⟨RJ9, "abs", "(I)I"⟩
abbrev cJ9_max_7cf53 : ByteArray := prog_13_method_65_code
def yJ9_max_7cf53 : MethodName := ⟨RJ9, "max", "(II)I"⟩
abbrev cJ9_min_7cf53 : ByteArray := prog_13_method_69_code
def yJ9_min_7cf53 : MethodName := ⟨RJ9, "min", "(II)I"⟩
abbrev cJ9_min_f86c9 : ByteArray := prog_13_method_70_code
def yJ9_min_f86c9 : MethodName := ⟨RJ9, "min", "(JJ)J"⟩
def RJ0 : String := "java/lang/String"
def TJ0 : u_T := fun k => match k with
  | _ => ("", "", "", false)
def tyJ0 : Nat → FieldType := fun k => match k with
  | _ => .int
abbrev wsJ00 : List Cond := u_ws RJ0 TJ0 0
theorem nmJ0 : ∀ a, a < 0 → ∀ b, b < 0 → a ≠ b → (TJ0 a).2.1 ≠ (TJ0 b).2.1 := by decide +kernel
theorem tyJ0_ok : ∀ k, k < 0 → parseFieldDescriptor (TJ0 k).2.2.1 = some (tyJ0 k) := by decide +kernel
def RJ10 : String := "java/lang/System"
def TJ10 : u_T := fun k => match k with
  | _ => ("", "", "", false)
def tyJ10 : Nat → FieldType := fun k => match k with
  | _ => .int
abbrev wsJ100 : List Cond := u_ws RJ10 TJ10 0
theorem nmJ10 : ∀ a, a < 0 → ∀ b, b < 0 → a ≠ b → (TJ10 a).2.1 ≠ (TJ10 b).2.1 := by decide +kernel
theorem tyJ10_ok : ∀ k, k < 0 → parseFieldDescriptor (TJ10 k).2.2.1 = some (tyJ10 k) := by decide +kernel
def RL : String := "SlipBenchLaw"
abbrev cL_look : ByteArray := method_3_code
def yL_look : MethodName := ⟨RL, "look", "(LSlipBench;II[J)I"⟩
abbrev cL_share : ByteArray := method_4_code
def yL_share : MethodName := ⟨RL, "share", "(LSlipBench;I[J)I"⟩
abbrev cL_law : ByteArray := code
def yL_law : MethodName := ⟨RL, "law", "([I)Z"⟩
def wsX0_init : List Cond := .code yX0_init cX0_init 1 none :: ([.methodLink RX0 3 objectInit, .instanceMethod objectInit, .code objectInit ⟨#[0xb1]⟩ 1 none, .fieldLink RX0 9 "SlipBench$Acts" "size" "I", .arrayClass .int, .fieldLink RX0 15 "SlipBench$Acts" "kinds" "[I", .fieldLink RX0 19 "SlipBench$Acts" "places" "[I", .fieldLink RX0 22 "SlipBench$Acts" "amounts" "[I"] ++ wsX00)
def wsX7_within : List Cond := .code yX7_within cX7_within 3 (some .boolean) :: ([])
def wsX0_has : List Cond := .code yX0_has cX0_has 2 (some .boolean) :: ([.fieldLink RX0 9 "SlipBench$Acts" "size" "I", .static yX7_within, .initialized RX7, .code yX7_within cX7_within 3 (some .boolean)] ++ wsX00)
def wsX0_add : List Cond := .code yX0_add cX0_add 4 (some .int) :: ([.fieldLink RX0 9 "SlipBench$Acts" "size" "I", .fieldLink RX0 15 "SlipBench$Acts" "kinds" "[I", .fieldLink RX0 19 "SlipBench$Acts" "places" "[I", .fieldLink RX0 22 "SlipBench$Acts" "amounts" "[I"] ++ wsX00)
def wsX4_has : List Cond := .code yX4_has cX4_has 2 (some .boolean) :: ([.fieldLink RX4 17 "SlipBench$Ground" "width" "I", .static yX7_within, .initialized RX7, .code yX7_within cX7_within 3 (some .boolean)] ++ wsX40)
def wsX1_digTo : List Cond := .code yX1_digTo cX1_digTo 2 none :: ([.fieldLink RX1 9 "SlipBench$Column" "tall" "I", .methodLink RX1 48 Lib.Math.min.name, .static Lib.Math.min.name, .initialized "java/lang/Math", .code Lib.Math.min.name Lib.Math.min.code 2 (some .int), .fieldLink RX1 31 "SlipBench$Column" "reckoned" "Z"] ++ wsX10)
def wsX1_put : List Cond := .code yX1_put cX1_put 3 none :: ([.fieldLink RX1 15 "SlipBench$Column" "water" "I", .fieldLink RX1 18 "SlipBench$Column" "load" "I", .fieldLink RX1 21 "SlipBench$Column" "nails" "I", .fieldLink RX1 31 "SlipBench$Column" "reckoned" "Z"] ++ wsX10)
def wsX0_doOn_r1 : List Cond := [Cond.fieldLink RX0 19 "SlipBench$Acts" "places" "[I", Cond.fieldLink RX0 36 "SlipBench$Ground" "columns" "[LSlipBench$Column;", Cond.fieldLink RX0 22 "SlipBench$Acts" "amounts" "[I", Cond.fieldLink RX0 15 "SlipBench$Acts" "kinds" "[I", Cond.fieldLink RX0 46 "SlipBench$Column" "nails" "I", Cond.methodLink RX0 49 Lib.Math.min.name, Cond.static Lib.Math.min.name, Cond.initialized "java/lang/Math", Cond.code Lib.Math.min.name Lib.Math.min.code 2 (some .int), Cond.fieldLink RX0 59 "SlipBench$Column" "water" "I", Cond.fieldLink RX0 62 "SlipBench$Column" "load" "I", Cond.methodLink RX0 29 yX0_has, Cond.instanceMethod yX0_has, Cond.selects RX0 yX0_has yX0_has, Cond.initialized RX0, Cond.code yX0_has cX0_has 2 (some .boolean), Cond.fieldLink RX0 9 "SlipBench$Acts" "size" "I", Cond.static yX7_within, Cond.initialized RX7, Cond.code yX7_within cX7_within 3 (some .boolean), Cond.methodLink RX0 33 yX4_has, Cond.instanceMethod yX4_has, Cond.selects RX4 yX4_has yX4_has, Cond.initialized RX4]
def wsX0_doOn_r2 : List Cond := [Cond.code yX4_has cX4_has 2 (some .boolean), Cond.fieldLink RX4 17 "SlipBench$Ground" "width" "I", Cond.methodLink RX0 40 yX1_digTo, Cond.instanceMethod yX1_digTo, Cond.selects RX1 yX1_digTo yX1_digTo, Cond.initialized RX1, Cond.code yX1_digTo cX1_digTo 2 none, Cond.fieldLink RX1 9 "SlipBench$Column" "tall" "I", Cond.methodLink RX1 48 Lib.Math.min.name, Cond.fieldLink RX1 31 "SlipBench$Column" "reckoned" "Z", Cond.methodLink RX0 55 yX1_put, Cond.instanceMethod yX1_put, Cond.selects RX1 yX1_put yX1_put, Cond.code yX1_put cX1_put 3 none, Cond.fieldLink RX1 15 "SlipBench$Column" "water" "I", Cond.fieldLink RX1 18 "SlipBench$Column" "load" "I", Cond.fieldLink RX1 21 "SlipBench$Column" "nails" "I"]
def wsX0_doOn : List Cond := .code yX0_doOn cX0_doOn 5 none :: ((wsX0_doOn_r1 ++ wsX0_doOn_r2) ++ wsX00 ++ wsX40 ++ wsX10)
def wsX1_init : List Cond := .code yX1_init cX1_init 3 none :: ([.methodLink RX1 3 objectInit, .instanceMethod objectInit, .code objectInit ⟨#[0xb1]⟩ 1 none, .fieldLink RX1 9 "SlipBench$Column" "tall" "I", .fieldLink RX1 15 "SlipBench$Column" "water" "I", .fieldLink RX1 18 "SlipBench$Column" "load" "I", .fieldLink RX1 21 "SlipBench$Column" "nails" "I", .arrayClass .int, .fieldLink RX1 24 "SlipBench$Column" "presses" "[I", .fieldLink RX1 28 "SlipBench$Column" "holds" "[I", .fieldLink RX1 31 "SlipBench$Column" "reckoned" "Z", .fieldLink RX1 35 "SlipBench$Column" "earths" "LSlipBench$Earths;", .fieldLink RX1 39 "SlipBench$Column" "cells" "[I"] ++ wsX10)
def wsX1_clear : List Cond := .code yX1_clear cX1_clear 1 none :: ([.fieldLink RX1 9 "SlipBench$Column" "tall" "I", .fieldLink RX1 15 "SlipBench$Column" "water" "I", .fieldLink RX1 18 "SlipBench$Column" "load" "I", .fieldLink RX1 21 "SlipBench$Column" "nails" "I", .fieldLink RX1 31 "SlipBench$Column" "reckoned" "Z"] ++ wsX10)
def wsX1_copy : List Cond := .code yX1_copy cX1_copy 2 none :: ([.fieldLink RX1 9 "SlipBench$Column" "tall" "I", .fieldLink RX1 15 "SlipBench$Column" "water" "I", .fieldLink RX1 18 "SlipBench$Column" "load" "I", .fieldLink RX1 21 "SlipBench$Column" "nails" "I", .fieldLink RX1 24 "SlipBench$Column" "presses" "[I", .methodLink RX1 42 arraycopyName, .native arraycopyName, .static arraycopyName, .initialized "java/lang/System", .fieldLink RX1 28 "SlipBench$Column" "holds" "[I", .fieldLink RX1 31 "SlipBench$Column" "reckoned" "Z"] ++ wsX10)
def wsX1_pile : List Cond := .code yX1_pile cX1_pile 5 none :: ([.fieldLink RX1 9 "SlipBench$Column" "tall" "I", .methodLink RX1 48 Lib.Math.min.name, .static Lib.Math.min.name, .initialized "java/lang/Math", .code Lib.Math.min.name Lib.Math.min.code 2 (some .int), .fieldLink RX1 39 "SlipBench$Column" "cells" "[I", .fieldLink RX1 31 "SlipBench$Column" "reckoned" "Z"] ++ wsX10)
def wsX1_holdsAt : List Cond := .code yX1_holdsAt cX1_holdsAt 3 (some .int) :: ([.fieldLink RX1 9 "SlipBench$Column" "tall" "I", .fieldLink RX1 28 "SlipBench$Column" "holds" "[I"] ++ wsX10)
def wsX1_drivesFrom : List Cond := .code yX1_drivesFrom cX1_drivesFrom 3 (some .int) :: ([.fieldLink RX1 9 "SlipBench$Column" "tall" "I", .fieldLink RX1 24 "SlipBench$Column" "presses" "[I"] ++ wsX10)
def wsX1_reckonHolds : List Cond := .code yX1_reckonHolds cX1_reckonHolds 8 (some .int) :: ([.fieldLink RX1 39 "SlipBench$Column" "cells" "[I", .fieldLink RX1 35 "SlipBench$Column" "earths" "LSlipBench$Earths;", .fieldLink RX1 62 "SlipBench$Earths" "rocks" "[Z", .fieldLink RX1 15 "SlipBench$Column" "water" "I", .methodLink RX1 66 Lib.Math.max.name, .static Lib.Math.max.name, .initialized "java/lang/Math", .code Lib.Math.max.name Lib.Math.max.code 2 (some .int), .fieldLink RX1 69 "SlipBench$Earths" "rubs" "[I", .fieldLink RX1 24 "SlipBench$Column" "presses" "[I", .fieldLink RX1 72 "SlipBench$Earths" "holds" "[I", .fieldLink RX1 21 "SlipBench$Column" "nails" "I"] ++ wsX10 ++ wsX20)
def wsX1_reckon : List Cond := .code yX1_reckon cX1_reckon 3 none :: ([.fieldLink RX1 31 "SlipBench$Column" "reckoned" "Z", .fieldLink RX1 24 "SlipBench$Column" "presses" "[I", .fieldLink RX1 9 "SlipBench$Column" "tall" "I", .fieldLink RX1 18 "SlipBench$Column" "load" "I", .fieldLink RX1 35 "SlipBench$Column" "earths" "LSlipBench$Earths;", .fieldLink RX1 54 "SlipBench$Earths" "weights" "[I", .fieldLink RX1 39 "SlipBench$Column" "cells" "[I", .fieldLink RX1 28 "SlipBench$Column" "holds" "[I", .methodLink RX1 59 yX1_reckonHolds, .instanceMethod yX1_reckonHolds, .selects RX1 yX1_reckonHolds yX1_reckonHolds, .initialized RX1, .code yX1_reckonHolds cX1_reckonHolds 8 (some .int), .fieldLink RX1 62 "SlipBench$Earths" "rocks" "[Z", .fieldLink RX1 15 "SlipBench$Column" "water" "I", .methodLink RX1 66 Lib.Math.max.name, .static Lib.Math.max.name, .initialized "java/lang/Math", .code Lib.Math.max.name Lib.Math.max.code 2 (some .int), .fieldLink RX1 69 "SlipBench$Earths" "rubs" "[I", .fieldLink RX1 72 "SlipBench$Earths" "holds" "[I", .fieldLink RX1 21 "SlipBench$Column" "nails" "I"] ++ wsX10 ++ wsX20)
def wsX2_init : List Cond := .code yX2_init cX2_init 1 none :: ([.methodLink RX2 3 objectInit, .instanceMethod objectInit, .code objectInit ⟨#[0xb1]⟩ 1 none, .arrayClass .int, .fieldLink RX2 9 "SlipBench$Earths" "weights" "[I", .fieldLink RX2 15 "SlipBench$Earths" "holds" "[I", .fieldLink RX2 18 "SlipBench$Earths" "rubs" "[I", .arrayClass .boolean, .fieldLink RX2 21 "SlipBench$Earths" "rocks" "[Z", .fieldLink RX2 25 "SlipBench$Earths" "size" "I"] ++ wsX20)
def wsX2_has : List Cond := .code yX2_has cX2_has 2 (some .boolean) :: ([.fieldLink RX2 25 "SlipBench$Earths" "size" "I", .static yX7_within, .initialized RX7, .code yX7_within cX7_within 3 (some .boolean)] ++ wsX20)
def wsX2_add : List Cond := .code yX2_add cX2_add 5 (some .int) :: ([.fieldLink RX2 25 "SlipBench$Earths" "size" "I", .fieldLink RX2 9 "SlipBench$Earths" "weights" "[I", .fieldLink RX2 15 "SlipBench$Earths" "holds" "[I", .fieldLink RX2 18 "SlipBench$Earths" "rubs" "[I", .fieldLink RX2 21 "SlipBench$Earths" "rocks" "[Z"] ++ wsX20)
def wsX3_init : List Cond := .code yX3_init cX3_init 1 none :: ([.methodLink RX3 1 objectInit, .instanceMethod objectInit, .code objectInit ⟨#[0xb1]⟩ 1 none, .fieldLink RX3 7 "SlipBench$Fraction" "upper" "J", .fieldLink RX3 13 "SlipBench$Fraction" "lower" "J"] ++ wsX30)
def wsX3_greatestCommon : List Cond := .code yX3_greatestCommon cX3_greatestCommon 11 (some .long) :: ([])
def wsX3_become : List Cond := .code yX3_become cX3_become 7 none :: ([.fieldLink RX3 7 "SlipBench$Fraction" "upper" "J", .fieldLink RX3 13 "SlipBench$Fraction" "lower" "J", .methodLink RX3 16 yX3_greatestCommon, .static yX3_greatestCommon, .initialized RX3, .code yX3_greatestCommon cX3_greatestCommon 11 (some .long)] ++ wsX30)
def wsX4_init : List Cond := .code yX4_init cX4_init 3 none :: ([.methodLink RX4 3 objectInit, .instanceMethod objectInit, .code objectInit ⟨#[0xb1]⟩ 1 none, .classLink RX4 9 RX1, .fieldLink RX4 11 "SlipBench$Ground" "columns" "[LSlipBench$Column;", .fieldLink RX4 17 "SlipBench$Ground" "width" "I", .instantiable RX1 9, .initialized RX1, .arrayClass .int, .methodLink RX4 21 yX1_init, .instanceMethod yX1_init, .code yX1_init cX1_init 3 none, .methodLink RX1 3 objectInit, .fieldLink RX1 9 "SlipBench$Column" "tall" "I", .fieldLink RX1 15 "SlipBench$Column" "water" "I", .fieldLink RX1 18 "SlipBench$Column" "load" "I", .fieldLink RX1 21 "SlipBench$Column" "nails" "I", .fieldLink RX1 24 "SlipBench$Column" "presses" "[I", .fieldLink RX1 28 "SlipBench$Column" "holds" "[I", .fieldLink RX1 31 "SlipBench$Column" "reckoned" "Z", .fieldLink RX1 35 "SlipBench$Column" "earths" "LSlipBench$Earths;", .fieldLink RX1 39 "SlipBench$Column" "cells" "[I"] ++ wsX40 ++ wsX10)
def wsX4_init_ : List Cond := .code yX4_init_ cX4_init_ 3 none :: ([.methodLink RX4 3 objectInit, .instanceMethod objectInit, .code objectInit ⟨#[0xb1]⟩ 1 none, .classLink RX4 9 RX1, .fieldLink RX4 11 "SlipBench$Ground" "columns" "[LSlipBench$Column;", .fieldLink RX4 17 "SlipBench$Ground" "width" "I", .instantiable RX1 9, .initialized RX1, .fieldLink RX4 28 "SlipBench$Column" "cells" "[I", .methodLink RX4 21 yX1_init, .instanceMethod yX1_init, .code yX1_init cX1_init 3 none, .methodLink RX1 3 objectInit, .fieldLink RX1 9 "SlipBench$Column" "tall" "I", .fieldLink RX1 15 "SlipBench$Column" "water" "I", .fieldLink RX1 18 "SlipBench$Column" "load" "I", .fieldLink RX1 21 "SlipBench$Column" "nails" "I", .arrayClass .int, .fieldLink RX1 24 "SlipBench$Column" "presses" "[I", .fieldLink RX1 28 "SlipBench$Column" "holds" "[I", .fieldLink RX1 31 "SlipBench$Column" "reckoned" "Z", .fieldLink RX1 35 "SlipBench$Column" "earths" "LSlipBench$Earths;", .fieldLink RX1 39 "SlipBench$Column" "cells" "[I"] ++ wsX40 ++ wsX10)
def wsX4_clearTo : List Cond := .code yX4_clearTo cX4_clearTo 3 none :: ([.fieldLink RX4 17 "SlipBench$Ground" "width" "I", .fieldLink RX4 11 "SlipBench$Ground" "columns" "[LSlipBench$Column;", .methodLink RX4 36 yX1_clear, .instanceMethod yX1_clear, .selects RX1 yX1_clear yX1_clear, .initialized RX1, .code yX1_clear cX1_clear 1 none, .fieldLink RX1 9 "SlipBench$Column" "tall" "I", .fieldLink RX1 15 "SlipBench$Column" "water" "I", .fieldLink RX1 18 "SlipBench$Column" "load" "I", .fieldLink RX1 21 "SlipBench$Column" "nails" "I", .fieldLink RX1 31 "SlipBench$Column" "reckoned" "Z"] ++ wsX40 ++ wsX10)
def wsX4_copy : List Cond := .code yX4_copy cX4_copy 3 none :: ([.fieldLink RX4 17 "SlipBench$Ground" "width" "I", .fieldLink RX4 11 "SlipBench$Ground" "columns" "[LSlipBench$Column;", .methodLink RX4 39 yX1_copy, .instanceMethod yX1_copy, .selects RX1 yX1_copy yX1_copy, .initialized RX1, .code yX1_copy cX1_copy 2 none, .fieldLink RX1 9 "SlipBench$Column" "tall" "I", .fieldLink RX1 15 "SlipBench$Column" "water" "I", .fieldLink RX1 18 "SlipBench$Column" "load" "I", .fieldLink RX1 21 "SlipBench$Column" "nails" "I", .fieldLink RX1 24 "SlipBench$Column" "presses" "[I", .methodLink RX1 42 arraycopyName, .native arraycopyName, .static arraycopyName, .initialized "java/lang/System", .fieldLink RX1 28 "SlipBench$Column" "holds" "[I", .fieldLink RX1 31 "SlipBench$Column" "reckoned" "Z"] ++ wsX40 ++ wsX10)
def wsX4_reckon_r1 : List Cond := [Cond.fieldLink RX4 17 "SlipBench$Ground" "width" "I", Cond.fieldLink RX4 11 "SlipBench$Ground" "columns" "[LSlipBench$Column;", Cond.methodLink RX4 43 yX1_reckon, Cond.instanceMethod yX1_reckon, Cond.selects RX1 yX1_reckon yX1_reckon, Cond.initialized RX1, Cond.code yX1_reckon cX1_reckon 3 none, Cond.fieldLink RX1 31 "SlipBench$Column" "reckoned" "Z", Cond.fieldLink RX1 24 "SlipBench$Column" "presses" "[I", Cond.fieldLink RX1 9 "SlipBench$Column" "tall" "I", Cond.fieldLink RX1 18 "SlipBench$Column" "load" "I", Cond.fieldLink RX1 35 "SlipBench$Column" "earths" "LSlipBench$Earths;", Cond.fieldLink RX1 54 "SlipBench$Earths" "weights" "[I", Cond.fieldLink RX1 39 "SlipBench$Column" "cells" "[I", Cond.fieldLink RX1 28 "SlipBench$Column" "holds" "[I", Cond.methodLink RX1 59 yX1_reckonHolds, Cond.instanceMethod yX1_reckonHolds, Cond.selects RX1 yX1_reckonHolds yX1_reckonHolds, Cond.code yX1_reckonHolds cX1_reckonHolds 8 (some .int), Cond.fieldLink RX1 62 "SlipBench$Earths" "rocks" "[Z", Cond.fieldLink RX1 15 "SlipBench$Column" "water" "I", Cond.methodLink RX1 66 Lib.Math.max.name, Cond.static Lib.Math.max.name, Cond.initialized "java/lang/Math"]
def wsX4_reckon_r2 : List Cond := [Cond.code Lib.Math.max.name Lib.Math.max.code 2 (some .int), Cond.fieldLink RX1 69 "SlipBench$Earths" "rubs" "[I", Cond.fieldLink RX1 72 "SlipBench$Earths" "holds" "[I", Cond.fieldLink RX1 21 "SlipBench$Column" "nails" "I"]
def wsX4_reckon : List Cond := .code yX4_reckon cX4_reckon 2 none :: ((wsX4_reckon_r1 ++ wsX4_reckon_r2) ++ wsX40 ++ wsX10 ++ wsX20)
def wsX4_raiseWater : List Cond := .code yX4_raiseWater cX4_raiseWater 3 none :: ([.fieldLink RX4 17 "SlipBench$Ground" "width" "I", .fieldLink RX4 11 "SlipBench$Ground" "columns" "[LSlipBench$Column;", .fieldLink RX4 46 "SlipBench$Column" "water" "I", .methodLink RX4 49 Lib.Math.min.name, .static Lib.Math.min.name, .initialized "java/lang/Math", .code Lib.Math.min.name Lib.Math.min.code 2 (some .int), .methodLink RX4 55 yX1_put, .instanceMethod yX1_put, .selects RX1 yX1_put yX1_put, .initialized RX1, .code yX1_put cX1_put 3 none, .fieldLink RX1 15 "SlipBench$Column" "water" "I", .fieldLink RX1 18 "SlipBench$Column" "load" "I", .fieldLink RX1 21 "SlipBench$Column" "nails" "I", .fieldLink RX1 31 "SlipBench$Column" "reckoned" "Z"] ++ wsX40 ++ wsX10)
def wsX4_cellCount : List Cond := .code yX4_cellCount cX4_cellCount 3 (some .int) :: ([.fieldLink RX4 17 "SlipBench$Ground" "width" "I", .fieldLink RX4 11 "SlipBench$Ground" "columns" "[LSlipBench$Column;", .fieldLink RX4 59 "SlipBench$Column" "tall" "I"] ++ wsX40 ++ wsX10)
def wsX5_end : List Cond := .code yX5_end cX5_end 1 (some .int) :: ([.fieldLink RX5 15 "SlipBench$Line" "start" "I", .fieldLink RX5 19 "SlipBench$Line" "size" "I"] ++ wsX50)
def wsX4_holdsOfPart_r1 : List Cond := [Cond.fieldLink RX4 11 "SlipBench$Ground" "columns" "[LSlipBench$Column;", Cond.fieldLink RX4 74 "SlipBench$Line" "start" "I", Cond.fieldLink RX4 71 "SlipBench$Line" "heights" "[I", Cond.methodLink RX4 49 Lib.Math.min.name, Cond.static Lib.Math.min.name, Cond.initialized "java/lang/Math", Cond.code Lib.Math.min.name Lib.Math.min.code 2 (some .int), Cond.methodLink RX4 87 Lib.Math.abs.name, Cond.static Lib.Math.abs.name, Cond.code Lib.Math.abs.name Lib.Math.abs.code 1 (some .int), Cond.methodLink RX4 43 yX1_reckon, Cond.instanceMethod yX1_reckon, Cond.selects RX1 yX1_reckon yX1_reckon, Cond.initialized RX1, Cond.code yX1_reckon cX1_reckon 3 none, Cond.fieldLink RX1 31 "SlipBench$Column" "reckoned" "Z", Cond.fieldLink RX1 24 "SlipBench$Column" "presses" "[I", Cond.fieldLink RX1 9 "SlipBench$Column" "tall" "I", Cond.fieldLink RX1 18 "SlipBench$Column" "load" "I", Cond.fieldLink RX1 35 "SlipBench$Column" "earths" "LSlipBench$Earths;", Cond.fieldLink RX1 54 "SlipBench$Earths" "weights" "[I", Cond.fieldLink RX1 39 "SlipBench$Column" "cells" "[I", Cond.fieldLink RX1 28 "SlipBench$Column" "holds" "[I", Cond.methodLink RX1 59 yX1_reckonHolds]
def wsX4_holdsOfPart_r2 : List Cond := [Cond.instanceMethod yX1_reckonHolds, Cond.selects RX1 yX1_reckonHolds yX1_reckonHolds, Cond.code yX1_reckonHolds cX1_reckonHolds 8 (some .int), Cond.fieldLink RX1 62 "SlipBench$Earths" "rocks" "[Z", Cond.fieldLink RX1 15 "SlipBench$Column" "water" "I", Cond.methodLink RX1 66 Lib.Math.max.name, Cond.static Lib.Math.max.name, Cond.code Lib.Math.max.name Lib.Math.max.code 2 (some .int), Cond.fieldLink RX1 69 "SlipBench$Earths" "rubs" "[I", Cond.fieldLink RX1 72 "SlipBench$Earths" "holds" "[I", Cond.fieldLink RX1 21 "SlipBench$Column" "nails" "I", Cond.methodLink RX4 91 yX1_holdsAt, Cond.instanceMethod yX1_holdsAt, Cond.selects RX1 yX1_holdsAt yX1_holdsAt, Cond.code yX1_holdsAt cX1_holdsAt 3 (some .int)]
def wsX4_holdsOfPart : List Cond := .code yX4_holdsOfPart cX4_holdsOfPart 5 (some .int) :: ((wsX4_holdsOfPart_r1 ++ wsX4_holdsOfPart_r2) ++ wsX40 ++ wsX50 ++ wsX10 ++ wsX20)
def wsX4_bears_r1 : List Cond := [Cond.fieldLink RX4 62 "SlipBench$Line" "size" "I", Cond.fieldLink RX4 17 "SlipBench$Ground" "width" "I", Cond.fieldLink RX4 71 "SlipBench$Line" "heights" "[I", Cond.fieldLink RX4 11 "SlipBench$Ground" "columns" "[LSlipBench$Column;", Cond.fieldLink RX4 74 "SlipBench$Line" "start" "I", Cond.fieldLink RX4 59 "SlipBench$Column" "tall" "I", Cond.methodLink RX4 67 yX5_end, Cond.instanceMethod yX5_end, Cond.selects RX5 yX5_end yX5_end, Cond.initialized RX5, Cond.code yX5_end cX5_end 1 (some .int), Cond.fieldLink RX5 15 "SlipBench$Line" "start" "I", Cond.fieldLink RX5 19 "SlipBench$Line" "size" "I", Cond.methodLink RX4 77 yX4_holdsOfPart, Cond.instanceMethod yX4_holdsOfPart, Cond.selects RX4 yX4_holdsOfPart yX4_holdsOfPart, Cond.initialized RX4, Cond.code yX4_holdsOfPart cX4_holdsOfPart 5 (some .int), Cond.methodLink RX4 49 Lib.Math.min.name, Cond.static Lib.Math.min.name, Cond.initialized "java/lang/Math", Cond.code Lib.Math.min.name Lib.Math.min.code 2 (some .int), Cond.methodLink RX4 87 Lib.Math.abs.name, Cond.static Lib.Math.abs.name]
def wsX4_bears_r2 : List Cond := [Cond.code Lib.Math.abs.name Lib.Math.abs.code 1 (some .int), Cond.methodLink RX4 43 yX1_reckon, Cond.instanceMethod yX1_reckon, Cond.selects RX1 yX1_reckon yX1_reckon, Cond.initialized RX1, Cond.code yX1_reckon cX1_reckon 3 none, Cond.fieldLink RX1 31 "SlipBench$Column" "reckoned" "Z", Cond.fieldLink RX1 24 "SlipBench$Column" "presses" "[I", Cond.fieldLink RX1 9 "SlipBench$Column" "tall" "I", Cond.fieldLink RX1 18 "SlipBench$Column" "load" "I", Cond.fieldLink RX1 35 "SlipBench$Column" "earths" "LSlipBench$Earths;", Cond.fieldLink RX1 54 "SlipBench$Earths" "weights" "[I", Cond.fieldLink RX1 39 "SlipBench$Column" "cells" "[I", Cond.fieldLink RX1 28 "SlipBench$Column" "holds" "[I", Cond.methodLink RX1 59 yX1_reckonHolds, Cond.instanceMethod yX1_reckonHolds, Cond.selects RX1 yX1_reckonHolds yX1_reckonHolds, Cond.code yX1_reckonHolds cX1_reckonHolds 8 (some .int), Cond.fieldLink RX1 62 "SlipBench$Earths" "rocks" "[Z", Cond.fieldLink RX1 15 "SlipBench$Column" "water" "I", Cond.methodLink RX1 66 Lib.Math.max.name, Cond.static Lib.Math.max.name, Cond.code Lib.Math.max.name Lib.Math.max.code 2 (some .int), Cond.fieldLink RX1 69 "SlipBench$Earths" "rubs" "[I"]
def wsX4_bears_r3 : List Cond := [Cond.fieldLink RX1 72 "SlipBench$Earths" "holds" "[I", Cond.fieldLink RX1 21 "SlipBench$Column" "nails" "I", Cond.methodLink RX4 91 yX1_holdsAt, Cond.instanceMethod yX1_holdsAt, Cond.selects RX1 yX1_holdsAt yX1_holdsAt, Cond.code yX1_holdsAt cX1_holdsAt 3 (some .int)]
def wsX4_bears : List Cond := .code yX4_bears cX4_bears 3 (some .boolean) :: ((wsX4_bears_r1 ++ (wsX4_bears_r2 ++ wsX4_bears_r3)) ++ wsX50 ++ wsX40 ++ wsX10 ++ wsX20)
def wsX4_holdsAlong_r1 : List Cond := [Cond.fieldLink RX4 62 "SlipBench$Line" "size" "I", Cond.methodLink RX4 77 yX4_holdsOfPart, Cond.instanceMethod yX4_holdsOfPart, Cond.selects RX4 yX4_holdsOfPart yX4_holdsOfPart, Cond.initialized RX4, Cond.code yX4_holdsOfPart cX4_holdsOfPart 5 (some .int), Cond.fieldLink RX4 11 "SlipBench$Ground" "columns" "[LSlipBench$Column;", Cond.fieldLink RX4 74 "SlipBench$Line" "start" "I", Cond.fieldLink RX4 71 "SlipBench$Line" "heights" "[I", Cond.methodLink RX4 49 Lib.Math.min.name, Cond.static Lib.Math.min.name, Cond.initialized "java/lang/Math", Cond.code Lib.Math.min.name Lib.Math.min.code 2 (some .int), Cond.methodLink RX4 87 Lib.Math.abs.name, Cond.static Lib.Math.abs.name, Cond.code Lib.Math.abs.name Lib.Math.abs.code 1 (some .int), Cond.methodLink RX4 43 yX1_reckon, Cond.instanceMethod yX1_reckon, Cond.selects RX1 yX1_reckon yX1_reckon, Cond.initialized RX1, Cond.code yX1_reckon cX1_reckon 3 none, Cond.fieldLink RX1 31 "SlipBench$Column" "reckoned" "Z", Cond.fieldLink RX1 24 "SlipBench$Column" "presses" "[I", Cond.fieldLink RX1 9 "SlipBench$Column" "tall" "I"]
def wsX4_holdsAlong_r2 : List Cond := [Cond.fieldLink RX1 18 "SlipBench$Column" "load" "I", Cond.fieldLink RX1 35 "SlipBench$Column" "earths" "LSlipBench$Earths;", Cond.fieldLink RX1 54 "SlipBench$Earths" "weights" "[I", Cond.fieldLink RX1 39 "SlipBench$Column" "cells" "[I", Cond.fieldLink RX1 28 "SlipBench$Column" "holds" "[I", Cond.methodLink RX1 59 yX1_reckonHolds, Cond.instanceMethod yX1_reckonHolds, Cond.selects RX1 yX1_reckonHolds yX1_reckonHolds, Cond.code yX1_reckonHolds cX1_reckonHolds 8 (some .int), Cond.fieldLink RX1 62 "SlipBench$Earths" "rocks" "[Z", Cond.fieldLink RX1 15 "SlipBench$Column" "water" "I", Cond.methodLink RX1 66 Lib.Math.max.name, Cond.static Lib.Math.max.name, Cond.code Lib.Math.max.name Lib.Math.max.code 2 (some .int), Cond.fieldLink RX1 69 "SlipBench$Earths" "rubs" "[I", Cond.fieldLink RX1 72 "SlipBench$Earths" "holds" "[I", Cond.fieldLink RX1 21 "SlipBench$Column" "nails" "I", Cond.methodLink RX4 91 yX1_holdsAt, Cond.instanceMethod yX1_holdsAt, Cond.selects RX1 yX1_holdsAt yX1_holdsAt, Cond.code yX1_holdsAt cX1_holdsAt 3 (some .int)]
def wsX4_holdsAlong : List Cond := .code yX4_holdsAlong cX4_holdsAlong 5 (some .long) :: ((wsX4_holdsAlong_r1 ++ wsX4_holdsAlong_r2) ++ wsX50 ++ wsX40 ++ wsX10 ++ wsX20)
def wsX4_drivesAlong_r1 : List Cond := [Cond.fieldLink RX4 62 "SlipBench$Line" "size" "I", Cond.fieldLink RX4 11 "SlipBench$Ground" "columns" "[LSlipBench$Column;", Cond.fieldLink RX4 74 "SlipBench$Line" "start" "I", Cond.fieldLink RX4 71 "SlipBench$Line" "heights" "[I", Cond.methodLink RX4 81 Lib.Math.max.name, Cond.static Lib.Math.max.name, Cond.initialized "java/lang/Math", Cond.code Lib.Math.max.name Lib.Math.max.code 2 (some .int), Cond.methodLink RX4 43 yX1_reckon, Cond.instanceMethod yX1_reckon, Cond.selects RX1 yX1_reckon yX1_reckon, Cond.initialized RX1, Cond.code yX1_reckon cX1_reckon 3 none, Cond.fieldLink RX1 31 "SlipBench$Column" "reckoned" "Z", Cond.fieldLink RX1 24 "SlipBench$Column" "presses" "[I", Cond.fieldLink RX1 9 "SlipBench$Column" "tall" "I", Cond.fieldLink RX1 18 "SlipBench$Column" "load" "I", Cond.fieldLink RX1 35 "SlipBench$Column" "earths" "LSlipBench$Earths;", Cond.fieldLink RX1 54 "SlipBench$Earths" "weights" "[I", Cond.fieldLink RX1 39 "SlipBench$Column" "cells" "[I", Cond.fieldLink RX1 28 "SlipBench$Column" "holds" "[I", Cond.methodLink RX1 59 yX1_reckonHolds, Cond.instanceMethod yX1_reckonHolds, Cond.selects RX1 yX1_reckonHolds yX1_reckonHolds]
def wsX4_drivesAlong_r2 : List Cond := [Cond.code yX1_reckonHolds cX1_reckonHolds 8 (some .int), Cond.fieldLink RX1 62 "SlipBench$Earths" "rocks" "[Z", Cond.fieldLink RX1 15 "SlipBench$Column" "water" "I", Cond.methodLink RX1 66 Lib.Math.max.name, Cond.fieldLink RX1 69 "SlipBench$Earths" "rubs" "[I", Cond.fieldLink RX1 72 "SlipBench$Earths" "holds" "[I", Cond.fieldLink RX1 21 "SlipBench$Column" "nails" "I", Cond.methodLink RX4 84 yX1_drivesFrom, Cond.instanceMethod yX1_drivesFrom, Cond.selects RX1 yX1_drivesFrom yX1_drivesFrom, Cond.code yX1_drivesFrom cX1_drivesFrom 3 (some .int)]
def wsX4_drivesAlong : List Cond := .code yX4_drivesAlong cX4_drivesAlong 7 (some .long) :: ((wsX4_drivesAlong_r1 ++ wsX4_drivesAlong_r2) ++ wsX50 ++ wsX40 ++ wsX10 ++ wsX20)
def wsX5_init : List Cond := .code yX5_init cX5_init 1 none :: ([.methodLink RX5 3 objectInit, .instanceMethod objectInit, .code objectInit ⟨#[0xb1]⟩ 1 none, .arrayClass .int, .fieldLink RX5 9 "SlipBench$Line" "heights" "[I", .fieldLink RX5 15 "SlipBench$Line" "start" "I", .fieldLink RX5 19 "SlipBench$Line" "size" "I"] ++ wsX50)
def wsX5_drop : List Cond := .code yX5_drop cX5_drop 1 none :: ([.fieldLink RX5 19 "SlipBench$Line" "size" "I"] ++ wsX50)
def wsX5_startAt : List Cond := .code yX5_startAt cX5_startAt 3 none :: ([.fieldLink RX5 15 "SlipBench$Line" "start" "I", .fieldLink RX5 9 "SlipBench$Line" "heights" "[I", .fieldLink RX5 19 "SlipBench$Line" "size" "I"] ++ wsX50)
def wsX5_add : List Cond := .code yX5_add cX5_add 2 none :: ([.fieldLink RX5 19 "SlipBench$Line" "size" "I", .fieldLink RX5 9 "SlipBench$Line" "heights" "[I"] ++ wsX50)
def wsX6_init : List Cond := .code yX6_init cX6_init 2 none :: ([.methodLink RX6 3 objectInit, .instanceMethod objectInit, .code objectInit ⟨#[0xb1]⟩ 1 none, .arrayClass .long, .fieldLink RX6 9 "SlipBench$Search" "rests" "[J", .fieldLink RX6 15 "SlipBench$Search" "wholes" "[J", .fieldLink RX6 18 "SlipBench$Search" "p" "J", .fieldLink RX6 22 "SlipBench$Search" "q" "J", .fieldLink RX6 25 "SlipBench$Search" "last" "I", .fieldLink RX6 29 "SlipBench$Search" "anyEnd" "Z", .fieldLink RX6 33 "SlipBench$Search" "studied" "LSlipBench$Ground;"] ++ wsX60)
def wsX6_study : List Cond := .code yX6_study cX6_study 2 none :: ([.fieldLink RX6 33 "SlipBench$Search" "studied" "LSlipBench$Ground;"] ++ wsX60)
def wsX6_aim : List Cond := .code yX6_aim cX6_aim 5 none :: ([.fieldLink RX6 18 "SlipBench$Search" "p" "J", .fieldLink RX6 22 "SlipBench$Search" "q" "J"] ++ wsX60)
def wsX6_clearRests : List Cond := .code yX6_clearRests cX6_clearRests 3 none :: ([.fieldLink RX6 9 "SlipBench$Search" "rests" "[J", .constantLong RX6 99 (4611686018427387904)] ++ wsX60)
def wsX6_allowEnd : List Cond := .code yX6_allowEnd cX6_allowEnd 3 none :: ([.fieldLink RX6 25 "SlipBench$Search" "last" "I", .fieldLink RX6 29 "SlipBench$Search" "anyEnd" "Z", .fieldLink RX6 33 "SlipBench$Search" "studied" "LSlipBench$Ground;", .fieldLink RX6 90 "SlipBench$Ground" "columns" "[LSlipBench$Column;", .fieldLink RX6 94 "SlipBench$Column" "tall" "I", .fieldLink RX6 9 "SlipBench$Search" "rests" "[J", .methodLink RX6 101 Lib.MathLoose.min_long.x, .static Lib.MathLoose.min_long.x, .initialized "java/lang/Math", .code Lib.MathLoose.min_long.x Lib.MathLoose.min_long.code 4 (some .long)] ++ wsX60 ++ wsX40 ++ wsX10)
def wsX6_better : List Cond := .code yX6_better cX6_better 8 none :: ([.fieldLink RX6 9 "SlipBench$Search" "rests" "[J", .constantLong RX6 99 (4611686018427387904)] ++ wsX60)
def wsX6_weighColumn : List Cond := .code yX6_weighColumn cX6_weighColumn 10 none :: ([.fieldLink RX6 33 "SlipBench$Search" "studied" "LSlipBench$Ground;", .fieldLink RX6 90 "SlipBench$Ground" "columns" "[LSlipBench$Column;", .fieldLink RX6 94 "SlipBench$Column" "tall" "I", .fieldLink RX6 22 "SlipBench$Search" "q" "J", .fieldLink RX6 18 "SlipBench$Search" "p" "J", .methodLink RX6 107 yX1_holdsAt, .instanceMethod yX1_holdsAt, .selects RX1 yX1_holdsAt yX1_holdsAt, .initialized RX1, .code yX1_holdsAt cX1_holdsAt 3 (some .int), .fieldLink RX1 9 "SlipBench$Column" "tall" "I", .fieldLink RX1 28 "SlipBench$Column" "holds" "[I", .methodLink RX6 111 yX1_drivesFrom, .instanceMethod yX1_drivesFrom, .selects RX1 yX1_drivesFrom yX1_drivesFrom, .code yX1_drivesFrom cX1_drivesFrom 3 (some .int), .fieldLink RX1 24 "SlipBench$Column" "presses" "[I", .methodLink RX6 114 yX6_better, .instanceMethod yX6_better, .selects RX6 yX6_better yX6_better, .initialized RX6, .code yX6_better cX6_better 8 none, .fieldLink RX6 9 "SlipBench$Search" "rests" "[J", .constantLong RX6 99 (4611686018427387904)] ++ wsX60 ++ wsX40 ++ wsX10)
def wsX6_weigh_r1 : List Cond := [Cond.fieldLink RX6 25 "SlipBench$Search" "last" "I", Cond.fieldLink RX6 29 "SlipBench$Search" "anyEnd" "Z", Cond.fieldLink RX6 15 "SlipBench$Search" "wholes" "[J", Cond.fieldLink RX6 9 "SlipBench$Search" "rests" "[J", Cond.fieldLink RX6 33 "SlipBench$Search" "studied" "LSlipBench$Ground;", Cond.fieldLink RX6 90 "SlipBench$Ground" "columns" "[LSlipBench$Column;", Cond.fieldLink RX6 94 "SlipBench$Column" "tall" "I", Cond.methodLink RX6 80 yX6_clearRests, Cond.instanceMethod yX6_clearRests, Cond.selects RX6 yX6_clearRests yX6_clearRests, Cond.initialized RX6, Cond.code yX6_clearRests cX6_clearRests 3 none, Cond.constantLong RX6 99 (4611686018427387904), Cond.methodLink RX6 84 yX6_allowEnd, Cond.instanceMethod yX6_allowEnd, Cond.selects RX6 yX6_allowEnd yX6_allowEnd, Cond.code yX6_allowEnd cX6_allowEnd 3 none, Cond.methodLink RX6 101 Lib.MathLoose.min_long.x, Cond.static Lib.MathLoose.min_long.x, Cond.initialized "java/lang/Math", Cond.code Lib.MathLoose.min_long.x Lib.MathLoose.min_long.code 4 (some .long), Cond.methodLink RX6 87 yX6_weighColumn, Cond.instanceMethod yX6_weighColumn, Cond.selects RX6 yX6_weighColumn yX6_weighColumn]
def wsX6_weigh_r2 : List Cond := [Cond.code yX6_weighColumn cX6_weighColumn 10 none, Cond.fieldLink RX6 22 "SlipBench$Search" "q" "J", Cond.fieldLink RX6 18 "SlipBench$Search" "p" "J", Cond.methodLink RX6 107 yX1_holdsAt, Cond.instanceMethod yX1_holdsAt, Cond.selects RX1 yX1_holdsAt yX1_holdsAt, Cond.initialized RX1, Cond.code yX1_holdsAt cX1_holdsAt 3 (some .int), Cond.fieldLink RX1 9 "SlipBench$Column" "tall" "I", Cond.fieldLink RX1 28 "SlipBench$Column" "holds" "[I", Cond.methodLink RX6 111 yX1_drivesFrom, Cond.instanceMethod yX1_drivesFrom, Cond.selects RX1 yX1_drivesFrom yX1_drivesFrom, Cond.code yX1_drivesFrom cX1_drivesFrom 3 (some .int), Cond.fieldLink RX1 24 "SlipBench$Column" "presses" "[I", Cond.methodLink RX6 114 yX6_better, Cond.instanceMethod yX6_better, Cond.selects RX6 yX6_better yX6_better, Cond.code yX6_better cX6_better 8 none]
def wsX6_weigh : List Cond := .code yX6_weigh cX6_weigh 5 none :: ((wsX6_weigh_r1 ++ wsX6_weigh_r2) ++ wsX60 ++ wsX40 ++ wsX10)
def wsX6_leastStart : List Cond := .code yX6_leastStart cX6_leastStart 3 (some .int) :: ([.fieldLink RX6 33 "SlipBench$Search" "studied" "LSlipBench$Ground;", .fieldLink RX6 41 "SlipBench$Ground" "width" "I", .fieldLink RX6 15 "SlipBench$Search" "wholes" "[J"] ++ wsX60 ++ wsX40)
def wsX6_stands_r1 : List Cond := [Cond.fieldLink RX6 33 "SlipBench$Search" "studied" "LSlipBench$Ground;", Cond.fieldLink RX6 41 "SlipBench$Ground" "width" "I", Cond.fieldLink RX6 15 "SlipBench$Search" "wholes" "[J", Cond.methodLink RX6 37 yX6_aim, Cond.instanceMethod yX6_aim, Cond.selects RX6 yX6_aim yX6_aim, Cond.initialized RX6, Cond.code yX6_aim cX6_aim 5 none, Cond.fieldLink RX6 18 "SlipBench$Search" "p" "J", Cond.fieldLink RX6 22 "SlipBench$Search" "q" "J", Cond.methodLink RX6 46 yX6_weigh, Cond.instanceMethod yX6_weigh, Cond.selects RX6 yX6_weigh yX6_weigh, Cond.code yX6_weigh cX6_weigh 5 none, Cond.fieldLink RX6 25 "SlipBench$Search" "last" "I", Cond.fieldLink RX6 29 "SlipBench$Search" "anyEnd" "Z", Cond.fieldLink RX6 9 "SlipBench$Search" "rests" "[J", Cond.fieldLink RX6 90 "SlipBench$Ground" "columns" "[LSlipBench$Column;", Cond.fieldLink RX6 94 "SlipBench$Column" "tall" "I", Cond.methodLink RX6 80 yX6_clearRests, Cond.instanceMethod yX6_clearRests, Cond.selects RX6 yX6_clearRests yX6_clearRests, Cond.code yX6_clearRests cX6_clearRests 3 none, Cond.constantLong RX6 99 (4611686018427387904)]
def wsX6_stands_r2 : List Cond := [Cond.methodLink RX6 84 yX6_allowEnd, Cond.instanceMethod yX6_allowEnd, Cond.selects RX6 yX6_allowEnd yX6_allowEnd, Cond.code yX6_allowEnd cX6_allowEnd 3 none, Cond.methodLink RX6 101 Lib.MathLoose.min_long.x, Cond.static Lib.MathLoose.min_long.x, Cond.initialized "java/lang/Math", Cond.code Lib.MathLoose.min_long.x Lib.MathLoose.min_long.code 4 (some .long), Cond.methodLink RX6 87 yX6_weighColumn, Cond.instanceMethod yX6_weighColumn, Cond.selects RX6 yX6_weighColumn yX6_weighColumn, Cond.code yX6_weighColumn cX6_weighColumn 10 none, Cond.methodLink RX6 107 yX1_holdsAt, Cond.instanceMethod yX1_holdsAt, Cond.selects RX1 yX1_holdsAt yX1_holdsAt, Cond.initialized RX1, Cond.code yX1_holdsAt cX1_holdsAt 3 (some .int), Cond.fieldLink RX1 9 "SlipBench$Column" "tall" "I", Cond.fieldLink RX1 28 "SlipBench$Column" "holds" "[I", Cond.methodLink RX6 111 yX1_drivesFrom, Cond.instanceMethod yX1_drivesFrom, Cond.selects RX1 yX1_drivesFrom yX1_drivesFrom, Cond.code yX1_drivesFrom cX1_drivesFrom 3 (some .int), Cond.fieldLink RX1 24 "SlipBench$Column" "presses" "[I"]
def wsX6_stands_r3 : List Cond := [Cond.methodLink RX6 114 yX6_better, Cond.instanceMethod yX6_better, Cond.selects RX6 yX6_better yX6_better, Cond.code yX6_better cX6_better 8 none, Cond.methodLink RX6 50 yX6_leastStart, Cond.instanceMethod yX6_leastStart, Cond.selects RX6 yX6_leastStart yX6_leastStart, Cond.code yX6_leastStart cX6_leastStart 3 (some .int)]
def wsX6_stands : List Cond := .code yX6_stands cX6_stands 5 (some .boolean) :: ((wsX6_stands_r1 ++ (wsX6_stands_r2 ++ wsX6_stands_r3)) ++ wsX60 ++ wsX40 ++ wsX10)
def wsX6_keyOf_r1 : List Cond := [Cond.fieldLink RX6 33 "SlipBench$Search" "studied" "LSlipBench$Ground;", Cond.fieldLink RX6 90 "SlipBench$Ground" "columns" "[LSlipBench$Column;", Cond.methodLink RX6 135 Lib.Math.min.name, Cond.static Lib.Math.min.name, Cond.initialized "java/lang/Math", Cond.code Lib.Math.min.name Lib.Math.min.code 2 (some .int), Cond.methodLink RX6 140 Lib.Math.abs.name, Cond.static Lib.Math.abs.name, Cond.code Lib.Math.abs.name Lib.Math.abs.code 1 (some .int), Cond.constantLong RX6 99 (4611686018427387904), Cond.fieldLink RX6 22 "SlipBench$Search" "q" "J", Cond.fieldLink RX6 18 "SlipBench$Search" "p" "J", Cond.methodLink RX6 137 Lib.Math.max.name, Cond.static Lib.Math.max.name, Cond.code Lib.Math.max.name Lib.Math.max.code 2 (some .int), Cond.methodLink RX6 107 yX1_holdsAt, Cond.instanceMethod yX1_holdsAt, Cond.selects RX1 yX1_holdsAt yX1_holdsAt, Cond.initialized RX1, Cond.code yX1_holdsAt cX1_holdsAt 3 (some .int), Cond.fieldLink RX1 9 "SlipBench$Column" "tall" "I", Cond.fieldLink RX1 28 "SlipBench$Column" "holds" "[I", Cond.methodLink RX6 111 yX1_drivesFrom, Cond.instanceMethod yX1_drivesFrom]
def wsX6_keyOf_r2 : List Cond := [Cond.selects RX1 yX1_drivesFrom yX1_drivesFrom, Cond.code yX1_drivesFrom cX1_drivesFrom 3 (some .int), Cond.fieldLink RX1 24 "SlipBench$Column" "presses" "[I"]
def wsX6_keyOf : List Cond := .code yX6_keyOf cX6_keyOf 6 (some .long) :: ((wsX6_keyOf_r1 ++ wsX6_keyOf_r2) ++ wsX60 ++ wsX40 ++ wsX10)
def wsX6_leastRight_r1 : List Cond := [Cond.fieldLink RX6 33 "SlipBench$Search" "studied" "LSlipBench$Ground;", Cond.fieldLink RX6 90 "SlipBench$Ground" "columns" "[LSlipBench$Column;", Cond.fieldLink RX6 94 "SlipBench$Column" "tall" "I", Cond.methodLink RX6 135 Lib.Math.min.name, Cond.static Lib.Math.min.name, Cond.initialized "java/lang/Math", Cond.code Lib.Math.min.name Lib.Math.min.code 2 (some .int), Cond.methodLink RX6 137 Lib.Math.max.name, Cond.static Lib.Math.max.name, Cond.code Lib.Math.max.name Lib.Math.max.code 2 (some .int), Cond.fieldLink RX6 9 "SlipBench$Search" "rests" "[J", Cond.constantLong RX6 99 (4611686018427387904), Cond.methodLink RX6 128 yX6_keyOf, Cond.instanceMethod yX6_keyOf, Cond.selects RX6 yX6_keyOf yX6_keyOf, Cond.initialized RX6, Cond.code yX6_keyOf cX6_keyOf 6 (some .long), Cond.methodLink RX6 140 Lib.Math.abs.name, Cond.static Lib.Math.abs.name, Cond.code Lib.Math.abs.name Lib.Math.abs.code 1 (some .int), Cond.fieldLink RX6 22 "SlipBench$Search" "q" "J", Cond.fieldLink RX6 18 "SlipBench$Search" "p" "J", Cond.methodLink RX6 107 yX1_holdsAt, Cond.instanceMethod yX1_holdsAt]
def wsX6_leastRight_r2 : List Cond := [Cond.selects RX1 yX1_holdsAt yX1_holdsAt, Cond.initialized RX1, Cond.code yX1_holdsAt cX1_holdsAt 3 (some .int), Cond.fieldLink RX1 9 "SlipBench$Column" "tall" "I", Cond.fieldLink RX1 28 "SlipBench$Column" "holds" "[I", Cond.methodLink RX6 111 yX1_drivesFrom, Cond.instanceMethod yX1_drivesFrom, Cond.selects RX1 yX1_drivesFrom yX1_drivesFrom, Cond.code yX1_drivesFrom cX1_drivesFrom 3 (some .int), Cond.fieldLink RX1 24 "SlipBench$Column" "presses" "[I"]
def wsX6_leastRight : List Cond := .code yX6_leastRight cX6_leastRight 11 (some .int) :: ((wsX6_leastRight_r1 ++ wsX6_leastRight_r2) ++ wsX60 ++ wsX40 ++ wsX10)
def wsX6_follow_r1 : List Cond := [Cond.fieldLink RX6 33 "SlipBench$Search" "studied" "LSlipBench$Ground;", Cond.fieldLink RX6 90 "SlipBench$Ground" "columns" "[LSlipBench$Column;", Cond.fieldLink RX6 94 "SlipBench$Column" "tall" "I", Cond.fieldLink RX6 25 "SlipBench$Search" "last" "I", Cond.fieldLink RX6 29 "SlipBench$Search" "anyEnd" "Z", Cond.methodLink RX6 118 yX5_startAt, Cond.instanceMethod yX5_startAt, Cond.selects RX5 yX5_startAt yX5_startAt, Cond.initialized RX5, Cond.code yX5_startAt cX5_startAt 3 none, Cond.fieldLink RX5 15 "SlipBench$Line" "start" "I", Cond.fieldLink RX5 9 "SlipBench$Line" "heights" "[I", Cond.fieldLink RX5 19 "SlipBench$Line" "size" "I", Cond.methodLink RX6 124 yX6_leastRight, Cond.instanceMethod yX6_leastRight, Cond.selects RX6 yX6_leastRight yX6_leastRight, Cond.initialized RX6, Cond.code yX6_leastRight cX6_leastRight 11 (some .int), Cond.methodLink RX6 135 Lib.Math.min.name, Cond.static Lib.Math.min.name, Cond.initialized "java/lang/Math", Cond.code Lib.Math.min.name Lib.Math.min.code 2 (some .int), Cond.methodLink RX6 137 Lib.Math.max.name, Cond.static Lib.Math.max.name]
def wsX6_follow_r2 : List Cond := [Cond.code Lib.Math.max.name Lib.Math.max.code 2 (some .int), Cond.fieldLink RX6 9 "SlipBench$Search" "rests" "[J", Cond.constantLong RX6 99 (4611686018427387904), Cond.methodLink RX6 128 yX6_keyOf, Cond.instanceMethod yX6_keyOf, Cond.selects RX6 yX6_keyOf yX6_keyOf, Cond.code yX6_keyOf cX6_keyOf 6 (some .long), Cond.methodLink RX6 140 Lib.Math.abs.name, Cond.static Lib.Math.abs.name, Cond.code Lib.Math.abs.name Lib.Math.abs.code 1 (some .int), Cond.fieldLink RX6 22 "SlipBench$Search" "q" "J", Cond.fieldLink RX6 18 "SlipBench$Search" "p" "J", Cond.methodLink RX6 107 yX1_holdsAt, Cond.instanceMethod yX1_holdsAt, Cond.selects RX1 yX1_holdsAt yX1_holdsAt, Cond.initialized RX1, Cond.code yX1_holdsAt cX1_holdsAt 3 (some .int), Cond.fieldLink RX1 9 "SlipBench$Column" "tall" "I", Cond.fieldLink RX1 28 "SlipBench$Column" "holds" "[I", Cond.methodLink RX6 111 yX1_drivesFrom, Cond.instanceMethod yX1_drivesFrom, Cond.selects RX1 yX1_drivesFrom yX1_drivesFrom, Cond.code yX1_drivesFrom cX1_drivesFrom 3 (some .int), Cond.fieldLink RX1 24 "SlipBench$Column" "presses" "[I"]
def wsX6_follow_r3 : List Cond := [Cond.methodLink RX6 132 yX5_add, Cond.instanceMethod yX5_add, Cond.selects RX5 yX5_add yX5_add, Cond.code yX5_add cX5_add 2 none]
def wsX6_follow : List Cond := .code yX6_follow cX6_follow 10 none :: ((wsX6_follow_r1 ++ (wsX6_follow_r2 ++ wsX6_follow_r3)) ++ wsX60 ++ wsX40 ++ wsX10 ++ wsX50)
def wsX6_findWorst_r1 : List Cond := [Cond.fieldLink RX6 33 "SlipBench$Search" "studied" "LSlipBench$Ground;", Cond.fieldLink RX6 41 "SlipBench$Ground" "width" "I", Cond.fieldLink RX6 15 "SlipBench$Search" "wholes" "[J", Cond.fieldLink RX6 70 "SlipBench$Fraction" "upper" "J", Cond.fieldLink RX6 73 "SlipBench$Fraction" "lower" "J", Cond.methodLink RX6 37 yX6_aim, Cond.instanceMethod yX6_aim, Cond.selects RX6 yX6_aim yX6_aim, Cond.initialized RX6, Cond.code yX6_aim cX6_aim 5 none, Cond.fieldLink RX6 18 "SlipBench$Search" "p" "J", Cond.fieldLink RX6 22 "SlipBench$Search" "q" "J", Cond.methodLink RX6 46 yX6_weigh, Cond.instanceMethod yX6_weigh, Cond.selects RX6 yX6_weigh yX6_weigh, Cond.code yX6_weigh cX6_weigh 5 none, Cond.fieldLink RX6 25 "SlipBench$Search" "last" "I", Cond.fieldLink RX6 29 "SlipBench$Search" "anyEnd" "Z", Cond.fieldLink RX6 9 "SlipBench$Search" "rests" "[J", Cond.fieldLink RX6 90 "SlipBench$Ground" "columns" "[LSlipBench$Column;", Cond.fieldLink RX6 94 "SlipBench$Column" "tall" "I", Cond.methodLink RX6 80 yX6_clearRests, Cond.instanceMethod yX6_clearRests, Cond.selects RX6 yX6_clearRests yX6_clearRests]
def wsX6_findWorst_r2 : List Cond := [Cond.code yX6_clearRests cX6_clearRests 3 none, Cond.constantLong RX6 99 (4611686018427387904), Cond.methodLink RX6 84 yX6_allowEnd, Cond.instanceMethod yX6_allowEnd, Cond.selects RX6 yX6_allowEnd yX6_allowEnd, Cond.code yX6_allowEnd cX6_allowEnd 3 none, Cond.methodLink RX6 101 Lib.MathLoose.min_long.x, Cond.static Lib.MathLoose.min_long.x, Cond.initialized "java/lang/Math", Cond.code Lib.MathLoose.min_long.x Lib.MathLoose.min_long.code 4 (some .long), Cond.methodLink RX6 87 yX6_weighColumn, Cond.instanceMethod yX6_weighColumn, Cond.selects RX6 yX6_weighColumn yX6_weighColumn, Cond.code yX6_weighColumn cX6_weighColumn 10 none, Cond.methodLink RX6 107 yX1_holdsAt, Cond.instanceMethod yX1_holdsAt, Cond.selects RX1 yX1_holdsAt yX1_holdsAt, Cond.initialized RX1, Cond.code yX1_holdsAt cX1_holdsAt 3 (some .int), Cond.fieldLink RX1 9 "SlipBench$Column" "tall" "I", Cond.fieldLink RX1 28 "SlipBench$Column" "holds" "[I", Cond.methodLink RX6 111 yX1_drivesFrom, Cond.instanceMethod yX1_drivesFrom, Cond.selects RX1 yX1_drivesFrom yX1_drivesFrom]
def wsX6_findWorst_r3 : List Cond := [Cond.code yX1_drivesFrom cX1_drivesFrom 3 (some .int), Cond.fieldLink RX1 24 "SlipBench$Column" "presses" "[I", Cond.methodLink RX6 114 yX6_better, Cond.instanceMethod yX6_better, Cond.selects RX6 yX6_better yX6_better, Cond.code yX6_better cX6_better 8 none, Cond.methodLink RX6 50 yX6_leastStart, Cond.instanceMethod yX6_leastStart, Cond.selects RX6 yX6_leastStart yX6_leastStart, Cond.code yX6_leastStart cX6_leastStart 3 (some .int), Cond.methodLink RX6 54 yX6_follow, Cond.instanceMethod yX6_follow, Cond.selects RX6 yX6_follow yX6_follow, Cond.code yX6_follow cX6_follow 10 none, Cond.methodLink RX6 118 yX5_startAt, Cond.instanceMethod yX5_startAt, Cond.selects RX5 yX5_startAt yX5_startAt, Cond.initialized RX5, Cond.code yX5_startAt cX5_startAt 3 none, Cond.fieldLink RX5 15 "SlipBench$Line" "start" "I", Cond.fieldLink RX5 9 "SlipBench$Line" "heights" "[I", Cond.fieldLink RX5 19 "SlipBench$Line" "size" "I", Cond.methodLink RX6 124 yX6_leastRight, Cond.instanceMethod yX6_leastRight]
def wsX6_findWorst_r4 : List Cond := [Cond.selects RX6 yX6_leastRight yX6_leastRight, Cond.code yX6_leastRight cX6_leastRight 11 (some .int), Cond.methodLink RX6 135 Lib.Math.min.name, Cond.static Lib.Math.min.name, Cond.code Lib.Math.min.name Lib.Math.min.code 2 (some .int), Cond.methodLink RX6 137 Lib.Math.max.name, Cond.static Lib.Math.max.name, Cond.code Lib.Math.max.name Lib.Math.max.code 2 (some .int), Cond.methodLink RX6 128 yX6_keyOf, Cond.instanceMethod yX6_keyOf, Cond.selects RX6 yX6_keyOf yX6_keyOf, Cond.code yX6_keyOf cX6_keyOf 6 (some .long), Cond.methodLink RX6 140 Lib.Math.abs.name, Cond.static Lib.Math.abs.name, Cond.code Lib.Math.abs.name Lib.Math.abs.code 1 (some .int), Cond.methodLink RX6 132 yX5_add, Cond.instanceMethod yX5_add, Cond.selects RX5 yX5_add yX5_add, Cond.code yX5_add cX5_add 2 none, Cond.methodLink RX6 58 yX4_holdsAlong, Cond.instanceMethod yX4_holdsAlong, Cond.selects RX4 yX4_holdsAlong yX4_holdsAlong, Cond.initialized RX4, Cond.code yX4_holdsAlong cX4_holdsAlong 5 (some .long)]
def wsX6_findWorst_r5 : List Cond := [Cond.fieldLink RX4 62 "SlipBench$Line" "size" "I", Cond.methodLink RX4 77 yX4_holdsOfPart, Cond.instanceMethod yX4_holdsOfPart, Cond.selects RX4 yX4_holdsOfPart yX4_holdsOfPart, Cond.code yX4_holdsOfPart cX4_holdsOfPart 5 (some .int), Cond.fieldLink RX4 11 "SlipBench$Ground" "columns" "[LSlipBench$Column;", Cond.fieldLink RX4 74 "SlipBench$Line" "start" "I", Cond.fieldLink RX4 71 "SlipBench$Line" "heights" "[I", Cond.methodLink RX4 49 Lib.Math.min.name, Cond.methodLink RX4 87 Lib.Math.abs.name, Cond.methodLink RX4 43 yX1_reckon, Cond.instanceMethod yX1_reckon, Cond.selects RX1 yX1_reckon yX1_reckon, Cond.code yX1_reckon cX1_reckon 3 none, Cond.fieldLink RX1 31 "SlipBench$Column" "reckoned" "Z", Cond.fieldLink RX1 18 "SlipBench$Column" "load" "I", Cond.fieldLink RX1 35 "SlipBench$Column" "earths" "LSlipBench$Earths;", Cond.fieldLink RX1 54 "SlipBench$Earths" "weights" "[I", Cond.fieldLink RX1 39 "SlipBench$Column" "cells" "[I", Cond.methodLink RX1 59 yX1_reckonHolds, Cond.instanceMethod yX1_reckonHolds, Cond.selects RX1 yX1_reckonHolds yX1_reckonHolds, Cond.code yX1_reckonHolds cX1_reckonHolds 8 (some .int), Cond.fieldLink RX1 62 "SlipBench$Earths" "rocks" "[Z"]
def wsX6_findWorst_r6 : List Cond := [Cond.fieldLink RX1 15 "SlipBench$Column" "water" "I", Cond.methodLink RX1 66 Lib.Math.max.name, Cond.fieldLink RX1 69 "SlipBench$Earths" "rubs" "[I", Cond.fieldLink RX1 72 "SlipBench$Earths" "holds" "[I", Cond.fieldLink RX1 21 "SlipBench$Column" "nails" "I", Cond.methodLink RX4 91 yX1_holdsAt, Cond.methodLink RX6 62 yX4_drivesAlong, Cond.instanceMethod yX4_drivesAlong, Cond.selects RX4 yX4_drivesAlong yX4_drivesAlong, Cond.code yX4_drivesAlong cX4_drivesAlong 7 (some .long), Cond.methodLink RX4 81 Lib.Math.max.name, Cond.methodLink RX4 84 yX1_drivesFrom, Cond.methodLink RX6 65 yX3_become, Cond.instanceMethod yX3_become, Cond.selects RX3 yX3_become yX3_become, Cond.initialized RX3, Cond.code yX3_become cX3_become 7 none, Cond.fieldLink RX3 7 "SlipBench$Fraction" "upper" "J", Cond.fieldLink RX3 13 "SlipBench$Fraction" "lower" "J", Cond.methodLink RX3 16 yX3_greatestCommon, Cond.static yX3_greatestCommon, Cond.code yX3_greatestCommon cX3_greatestCommon 11 (some .long)]
def wsX6_findWorst : List Cond := .code yX6_findWorst cX6_findWorst 5 (some .boolean) :: ((wsX6_findWorst_r1 ++ (wsX6_findWorst_r2 ++ (wsX6_findWorst_r3 ++ (wsX6_findWorst_r4 ++ (wsX6_findWorst_r5 ++ wsX6_findWorst_r6))))) ++ wsX60 ++ wsX40 ++ wsX30 ++ wsX10 ++ wsX50 ++ wsX20)
def wsX6_findFirst_r1 : List Cond := [Cond.fieldLink RX6 70 "SlipBench$Fraction" "upper" "J", Cond.constantLong RX6 76 (1048576), Cond.fieldLink RX6 73 "SlipBench$Fraction" "lower" "J", Cond.fieldLink RX6 33 "SlipBench$Search" "studied" "LSlipBench$Ground;", Cond.fieldLink RX6 41 "SlipBench$Ground" "width" "I", Cond.fieldLink RX6 15 "SlipBench$Search" "wholes" "[J", Cond.constantLong RX6 78 (-1), Cond.methodLink RX6 37 yX6_aim, Cond.instanceMethod yX6_aim, Cond.selects RX6 yX6_aim yX6_aim, Cond.initialized RX6, Cond.code yX6_aim cX6_aim 5 none, Cond.fieldLink RX6 18 "SlipBench$Search" "p" "J", Cond.fieldLink RX6 22 "SlipBench$Search" "q" "J", Cond.methodLink RX6 46 yX6_weigh, Cond.instanceMethod yX6_weigh, Cond.selects RX6 yX6_weigh yX6_weigh, Cond.code yX6_weigh cX6_weigh 5 none, Cond.fieldLink RX6 25 "SlipBench$Search" "last" "I", Cond.fieldLink RX6 29 "SlipBench$Search" "anyEnd" "Z", Cond.fieldLink RX6 9 "SlipBench$Search" "rests" "[J", Cond.fieldLink RX6 90 "SlipBench$Ground" "columns" "[LSlipBench$Column;", Cond.fieldLink RX6 94 "SlipBench$Column" "tall" "I", Cond.methodLink RX6 80 yX6_clearRests]
def wsX6_findFirst_r2 : List Cond := [Cond.instanceMethod yX6_clearRests, Cond.selects RX6 yX6_clearRests yX6_clearRests, Cond.code yX6_clearRests cX6_clearRests 3 none, Cond.constantLong RX6 99 (4611686018427387904), Cond.methodLink RX6 84 yX6_allowEnd, Cond.instanceMethod yX6_allowEnd, Cond.selects RX6 yX6_allowEnd yX6_allowEnd, Cond.code yX6_allowEnd cX6_allowEnd 3 none, Cond.methodLink RX6 101 Lib.MathLoose.min_long.x, Cond.static Lib.MathLoose.min_long.x, Cond.initialized "java/lang/Math", Cond.code Lib.MathLoose.min_long.x Lib.MathLoose.min_long.code 4 (some .long), Cond.methodLink RX6 87 yX6_weighColumn, Cond.instanceMethod yX6_weighColumn, Cond.selects RX6 yX6_weighColumn yX6_weighColumn, Cond.code yX6_weighColumn cX6_weighColumn 10 none, Cond.methodLink RX6 107 yX1_holdsAt, Cond.instanceMethod yX1_holdsAt, Cond.selects RX1 yX1_holdsAt yX1_holdsAt, Cond.initialized RX1, Cond.code yX1_holdsAt cX1_holdsAt 3 (some .int), Cond.fieldLink RX1 9 "SlipBench$Column" "tall" "I", Cond.fieldLink RX1 28 "SlipBench$Column" "holds" "[I", Cond.methodLink RX6 111 yX1_drivesFrom]
def wsX6_findFirst_r3 : List Cond := [Cond.instanceMethod yX1_drivesFrom, Cond.selects RX1 yX1_drivesFrom yX1_drivesFrom, Cond.code yX1_drivesFrom cX1_drivesFrom 3 (some .int), Cond.fieldLink RX1 24 "SlipBench$Column" "presses" "[I", Cond.methodLink RX6 114 yX6_better, Cond.instanceMethod yX6_better, Cond.selects RX6 yX6_better yX6_better, Cond.code yX6_better cX6_better 8 none, Cond.methodLink RX6 54 yX6_follow, Cond.instanceMethod yX6_follow, Cond.selects RX6 yX6_follow yX6_follow, Cond.code yX6_follow cX6_follow 10 none, Cond.methodLink RX6 118 yX5_startAt, Cond.instanceMethod yX5_startAt, Cond.selects RX5 yX5_startAt yX5_startAt, Cond.initialized RX5, Cond.code yX5_startAt cX5_startAt 3 none, Cond.fieldLink RX5 15 "SlipBench$Line" "start" "I", Cond.fieldLink RX5 9 "SlipBench$Line" "heights" "[I", Cond.fieldLink RX5 19 "SlipBench$Line" "size" "I", Cond.methodLink RX6 124 yX6_leastRight, Cond.instanceMethod yX6_leastRight, Cond.selects RX6 yX6_leastRight yX6_leastRight, Cond.code yX6_leastRight cX6_leastRight 11 (some .int)]
def wsX6_findFirst_r4 : List Cond := [Cond.methodLink RX6 135 Lib.Math.min.name, Cond.static Lib.Math.min.name, Cond.code Lib.Math.min.name Lib.Math.min.code 2 (some .int), Cond.methodLink RX6 137 Lib.Math.max.name, Cond.static Lib.Math.max.name, Cond.code Lib.Math.max.name Lib.Math.max.code 2 (some .int), Cond.methodLink RX6 128 yX6_keyOf, Cond.instanceMethod yX6_keyOf, Cond.selects RX6 yX6_keyOf yX6_keyOf, Cond.code yX6_keyOf cX6_keyOf 6 (some .long), Cond.methodLink RX6 140 Lib.Math.abs.name, Cond.static Lib.Math.abs.name, Cond.code Lib.Math.abs.name Lib.Math.abs.code 1 (some .int), Cond.methodLink RX6 132 yX5_add, Cond.instanceMethod yX5_add, Cond.selects RX5 yX5_add yX5_add, Cond.code yX5_add cX5_add 2 none]
def wsX6_findFirst : List Cond := .code yX6_findFirst cX6_findFirst 5 none :: ((wsX6_findFirst_r1 ++ (wsX6_findFirst_r2 ++ (wsX6_findFirst_r3 ++ wsX6_findFirst_r4))) ++ wsX30 ++ wsX60 ++ wsX40 ++ wsX10 ++ wsX50)
def wsX7_init_r1 : List Cond := [Cond.methodLink RX7 3 objectInit, Cond.instanceMethod objectInit, Cond.code objectInit ⟨#[0xb1]⟩ 1 none, Cond.classLink RX7 9 RX2, Cond.instantiable RX2 5, Cond.initialized RX2, Cond.fieldLink RX7 12 "SlipBench" "earths" "LSlipBench$Earths;", Cond.classLink RX7 16 RX4, Cond.instantiable RX4 2, Cond.initialized RX4, Cond.fieldLink RX7 21 "SlipBench" "ground" "LSlipBench$Ground;", Cond.fieldLink RX7 28 "SlipBench" "trial" "LSlipBench$Ground;", Cond.classLink RX7 31 RX0, Cond.instantiable RX0 4, Cond.initialized RX0, Cond.fieldLink RX7 34 "SlipBench" "acts" "LSlipBench$Acts;", Cond.classLink RX7 38 RX6, Cond.instantiable RX6 7, Cond.initialized RX6, Cond.fieldLink RX7 41 "SlipBench" "search" "LSlipBench$Search;", Cond.classLink RX7 45 RX5, Cond.instantiable RX5 3, Cond.initialized RX5, Cond.fieldLink RX7 48 "SlipBench" "begun" "LSlipBench$Line;"]
def wsX7_init_r2 : List Cond := [Cond.fieldLink RX7 52 "SlipBench" "worstLine" "LSlipBench$Line;", Cond.classLink RX7 55 RX3, Cond.instantiable RX3 2, Cond.initialized RX3, Cond.fieldLink RX7 58 "SlipBench" "worstShare" "LSlipBench$Fraction;", Cond.fieldLink RX7 62 "SlipBench" "begunShare" "LSlipBench$Fraction;", Cond.arrayClass .boolean, Cond.fieldLink RX7 65 "SlipBench" "dead" "[Z", Cond.arrayClass .int, Cond.fieldLink RX7 69 "SlipBench" "tried" "[I", Cond.fieldLink RX7 73 "SlipBench" "steps" "[I", Cond.fieldLink RX7 76 "SlipBench" "stepCount" "I", Cond.fieldLink RX7 80 "SlipBench" "worstKnown" "Z", Cond.fieldLink RX7 84 "SlipBench" "worstExists" "Z", Cond.instanceMethod yX2_init, Cond.code yX2_init cX2_init 1 none, Cond.methodLink RX2 3 objectInit, Cond.fieldLink RX2 9 "SlipBench$Earths" "weights" "[I", Cond.fieldLink RX2 15 "SlipBench$Earths" "holds" "[I", Cond.fieldLink RX2 18 "SlipBench$Earths" "rubs" "[I", Cond.fieldLink RX2 21 "SlipBench$Earths" "rocks" "[Z", Cond.fieldLink RX2 25 "SlipBench$Earths" "size" "I", Cond.methodLink RX7 18 yX4_init, Cond.instanceMethod yX4_init]
def wsX7_init_r3 : List Cond := [Cond.code yX4_init cX4_init 3 none, Cond.methodLink RX4 3 objectInit, Cond.classLink RX4 9 RX1, Cond.fieldLink RX4 11 "SlipBench$Ground" "columns" "[LSlipBench$Column;", Cond.fieldLink RX4 17 "SlipBench$Ground" "width" "I", Cond.instantiable RX1 9, Cond.initialized RX1, Cond.methodLink RX4 21 yX1_init, Cond.instanceMethod yX1_init, Cond.code yX1_init cX1_init 3 none, Cond.methodLink RX1 3 objectInit, Cond.fieldLink RX1 9 "SlipBench$Column" "tall" "I", Cond.fieldLink RX1 15 "SlipBench$Column" "water" "I", Cond.fieldLink RX1 18 "SlipBench$Column" "load" "I", Cond.fieldLink RX1 21 "SlipBench$Column" "nails" "I", Cond.fieldLink RX1 24 "SlipBench$Column" "presses" "[I", Cond.fieldLink RX1 28 "SlipBench$Column" "holds" "[I", Cond.fieldLink RX1 31 "SlipBench$Column" "reckoned" "Z", Cond.fieldLink RX1 35 "SlipBench$Column" "earths" "LSlipBench$Earths;", Cond.fieldLink RX1 39 "SlipBench$Column" "cells" "[I", Cond.methodLink RX7 25 yX4_init_, Cond.instanceMethod yX4_init_, Cond.code yX4_init_ cX4_init_ 3 none, Cond.fieldLink RX4 28 "SlipBench$Column" "cells" "[I"]
def wsX7_init_r4 : List Cond := [Cond.instanceMethod yX0_init, Cond.code yX0_init cX0_init 1 none, Cond.methodLink RX0 3 objectInit, Cond.fieldLink RX0 9 "SlipBench$Acts" "size" "I", Cond.fieldLink RX0 15 "SlipBench$Acts" "kinds" "[I", Cond.fieldLink RX0 19 "SlipBench$Acts" "places" "[I", Cond.fieldLink RX0 22 "SlipBench$Acts" "amounts" "[I", Cond.methodLink RX7 40 yX6_init, Cond.instanceMethod yX6_init, Cond.code yX6_init cX6_init 2 none, Cond.methodLink RX6 3 objectInit, Cond.arrayClass .long, Cond.fieldLink RX6 9 "SlipBench$Search" "rests" "[J", Cond.fieldLink RX6 15 "SlipBench$Search" "wholes" "[J", Cond.fieldLink RX6 18 "SlipBench$Search" "p" "J", Cond.fieldLink RX6 22 "SlipBench$Search" "q" "J", Cond.fieldLink RX6 25 "SlipBench$Search" "last" "I", Cond.fieldLink RX6 29 "SlipBench$Search" "anyEnd" "Z", Cond.fieldLink RX6 33 "SlipBench$Search" "studied" "LSlipBench$Ground;", Cond.instanceMethod yX5_init, Cond.code yX5_init cX5_init 1 none, Cond.methodLink RX5 3 objectInit, Cond.fieldLink RX5 9 "SlipBench$Line" "heights" "[I", Cond.fieldLink RX5 15 "SlipBench$Line" "start" "I"]
def wsX7_init_r5 : List Cond := [Cond.fieldLink RX5 19 "SlipBench$Line" "size" "I", Cond.instanceMethod yX3_init, Cond.code yX3_init cX3_init 1 none, Cond.methodLink RX3 1 objectInit, Cond.fieldLink RX3 7 "SlipBench$Fraction" "upper" "J", Cond.fieldLink RX3 13 "SlipBench$Fraction" "lower" "J"]
def wsX7_init : List Cond := .code yX7_init cX7_init 1 none :: ((wsX7_init_r1 ++ (wsX7_init_r2 ++ (wsX7_init_r3 ++ (wsX7_init_r4 ++ wsX7_init_r5)))) ++ wsX20 ++ wsX70 ++ wsX40 ++ wsX00 ++ wsX60 ++ wsX50 ++ wsX30 ++ wsX10)
def wsX7_ground_r1 : List Cond := [Cond.fieldLink RX7 21 "SlipBench" "ground" "LSlipBench$Ground;", Cond.fieldLink RX7 34 "SlipBench" "acts" "LSlipBench$Acts;", Cond.fieldLink RX7 91 "SlipBench$Acts" "size" "I", Cond.fieldLink RX7 48 "SlipBench" "begun" "LSlipBench$Line;", Cond.fieldLink RX7 80 "SlipBench" "worstKnown" "Z", Cond.methodLink RX7 87 yX4_clearTo, Cond.instanceMethod yX4_clearTo, Cond.selects RX4 yX4_clearTo yX4_clearTo, Cond.initialized RX4, Cond.code yX4_clearTo cX4_clearTo 3 none, Cond.fieldLink RX4 17 "SlipBench$Ground" "width" "I", Cond.fieldLink RX4 11 "SlipBench$Ground" "columns" "[LSlipBench$Column;", Cond.methodLink RX4 36 yX1_clear, Cond.instanceMethod yX1_clear, Cond.selects RX1 yX1_clear yX1_clear, Cond.initialized RX1, Cond.code yX1_clear cX1_clear 1 none, Cond.fieldLink RX1 9 "SlipBench$Column" "tall" "I", Cond.fieldLink RX1 15 "SlipBench$Column" "water" "I", Cond.fieldLink RX1 18 "SlipBench$Column" "load" "I", Cond.fieldLink RX1 21 "SlipBench$Column" "nails" "I", Cond.fieldLink RX1 31 "SlipBench$Column" "reckoned" "Z", Cond.methodLink RX7 94 yX5_drop, Cond.instanceMethod yX5_drop]
def wsX7_ground_r2 : List Cond := [Cond.selects RX5 yX5_drop yX5_drop, Cond.initialized RX5, Cond.code yX5_drop cX5_drop 1 none, Cond.fieldLink RX5 19 "SlipBench$Line" "size" "I"]
def wsX7_ground : List Cond := .code yX7_ground cX7_ground 2 (some .boolean) :: ((wsX7_ground_r1 ++ wsX7_ground_r2) ++ wsX70 ++ wsX00 ++ wsX40 ++ wsX10 ++ wsX50)
def wsX7_earth : List Cond := .code yX7_earth cX7_earth 5 (some .int) :: ([.fieldLink RX7 12 "SlipBench" "earths" "LSlipBench$Earths;", .methodLink RX7 97 yX7_within, .static yX7_within, .initialized RX7, .code yX7_within cX7_within 3 (some .boolean), .methodLink RX7 101 yX2_add, .instanceMethod yX2_add, .selects RX2 yX2_add yX2_add, .initialized RX2, .code yX2_add cX2_add 5 (some .int), .fieldLink RX2 25 "SlipBench$Earths" "size" "I", .fieldLink RX2 9 "SlipBench$Earths" "weights" "[I", .fieldLink RX2 15 "SlipBench$Earths" "holds" "[I", .fieldLink RX2 18 "SlipBench$Earths" "rubs" "[I", .fieldLink RX2 21 "SlipBench$Earths" "rocks" "[Z"] ++ wsX70 ++ wsX20)
def wsX7_lay_r1 : List Cond := [Cond.fieldLink RX7 21 "SlipBench" "ground" "LSlipBench$Ground;", Cond.fieldLink RX7 12 "SlipBench" "earths" "LSlipBench$Earths;", Cond.fieldLink RX7 110 "SlipBench$Ground" "columns" "[LSlipBench$Column;", Cond.fieldLink RX7 114 "SlipBench$Column" "tall" "I", Cond.fieldLink RX7 80 "SlipBench" "worstKnown" "Z", Cond.methodLink RX7 105 yX4_has, Cond.instanceMethod yX4_has, Cond.selects RX4 yX4_has yX4_has, Cond.initialized RX4, Cond.code yX4_has cX4_has 2 (some .boolean), Cond.fieldLink RX4 17 "SlipBench$Ground" "width" "I", Cond.static yX7_within, Cond.initialized RX7, Cond.code yX7_within cX7_within 3 (some .boolean), Cond.methodLink RX7 109 yX2_has, Cond.instanceMethod yX2_has, Cond.selects RX2 yX2_has yX2_has, Cond.initialized RX2, Cond.code yX2_has cX2_has 2 (some .boolean), Cond.fieldLink RX2 25 "SlipBench$Earths" "size" "I", Cond.methodLink RX7 97 yX7_within, Cond.methodLink RX7 119 yX1_pile, Cond.instanceMethod yX1_pile, Cond.selects RX1 yX1_pile yX1_pile]
def wsX7_lay_r2 : List Cond := [Cond.initialized RX1, Cond.code yX1_pile cX1_pile 5 none, Cond.fieldLink RX1 9 "SlipBench$Column" "tall" "I", Cond.methodLink RX1 48 Lib.Math.min.name, Cond.static Lib.Math.min.name, Cond.initialized "java/lang/Math", Cond.code Lib.Math.min.name Lib.Math.min.code 2 (some .int), Cond.fieldLink RX1 39 "SlipBench$Column" "cells" "[I", Cond.fieldLink RX1 31 "SlipBench$Column" "reckoned" "Z"]
def wsX7_lay : List Cond := .code yX7_lay cX7_lay 5 (some .int) :: ((wsX7_lay_r1 ++ wsX7_lay_r2) ++ wsX70 ++ wsX40 ++ wsX10 ++ wsX20)
def wsX7_set : List Cond := .code yX7_set cX7_set 4 (some .boolean) :: ([.fieldLink RX7 21 "SlipBench" "ground" "LSlipBench$Ground;", .fieldLink RX7 110 "SlipBench$Ground" "columns" "[LSlipBench$Column;", .fieldLink RX7 80 "SlipBench" "worstKnown" "Z", .methodLink RX7 105 yX4_has, .instanceMethod yX4_has, .selects RX4 yX4_has yX4_has, .initialized RX4, .code yX4_has cX4_has 2 (some .boolean), .fieldLink RX4 17 "SlipBench$Ground" "width" "I", .static yX7_within, .initialized RX7, .code yX7_within cX7_within 3 (some .boolean), .methodLink RX7 97 yX7_within, .methodLink RX7 123 yX1_put, .instanceMethod yX1_put, .selects RX1 yX1_put yX1_put, .initialized RX1, .code yX1_put cX1_put 3 none, .fieldLink RX1 15 "SlipBench$Column" "water" "I", .fieldLink RX1 18 "SlipBench$Column" "load" "I", .fieldLink RX1 21 "SlipBench$Column" "nails" "I", .fieldLink RX1 31 "SlipBench$Column" "reckoned" "Z"] ++ wsX70 ++ wsX40 ++ wsX10)
def wsX7_cell : List Cond := .code yX7_cell cX7_cell 4 (some .int) :: ([.fieldLink RX7 21 "SlipBench" "ground" "LSlipBench$Ground;", .fieldLink RX7 110 "SlipBench$Ground" "columns" "[LSlipBench$Column;", .fieldLink RX7 114 "SlipBench$Column" "tall" "I", .fieldLink RX7 147 "SlipBench$Column" "cells" "[I", .methodLink RX7 105 yX4_has, .instanceMethod yX4_has, .selects RX4 yX4_has yX4_has, .initialized RX4, .code yX4_has cX4_has 2 (some .boolean), .fieldLink RX4 17 "SlipBench$Ground" "width" "I", .static yX7_within, .initialized RX7, .code yX7_within cX7_within 3 (some .boolean), .methodLink RX7 97 yX7_within] ++ wsX70 ++ wsX40 ++ wsX10)
def wsX7_begin : List Cond := .code yX7_begin cX7_begin 3 (some .boolean) :: ([.fieldLink RX7 21 "SlipBench" "ground" "LSlipBench$Ground;", .fieldLink RX7 48 "SlipBench" "begun" "LSlipBench$Line;", .methodLink RX7 105 yX4_has, .instanceMethod yX4_has, .selects RX4 yX4_has yX4_has, .initialized RX4, .code yX4_has cX4_has 2 (some .boolean), .fieldLink RX4 17 "SlipBench$Ground" "width" "I", .static yX7_within, .initialized RX7, .code yX7_within cX7_within 3 (some .boolean), .methodLink RX7 97 yX7_within, .methodLink RX7 94 yX5_drop, .instanceMethod yX5_drop, .selects RX5 yX5_drop yX5_drop, .initialized RX5, .code yX5_drop cX5_drop 1 none, .fieldLink RX5 19 "SlipBench$Line" "size" "I", .methodLink RX7 150 yX5_startAt, .instanceMethod yX5_startAt, .selects RX5 yX5_startAt yX5_startAt, .code yX5_startAt cX5_startAt 3 none, .fieldLink RX5 15 "SlipBench$Line" "start" "I", .fieldLink RX5 9 "SlipBench$Line" "heights" "[I"] ++ wsX70 ++ wsX40 ++ wsX50)
def wsX7_next : List Cond := .code yX7_next cX7_next 2 (some .int) :: ([.fieldLink RX7 48 "SlipBench" "begun" "LSlipBench$Line;", .fieldLink RX7 153 "SlipBench$Line" "size" "I", .fieldLink RX7 21 "SlipBench" "ground" "LSlipBench$Ground;", .fieldLink RX7 158 "SlipBench$Ground" "width" "I", .methodLink RX7 97 yX7_within, .static yX7_within, .initialized RX7, .code yX7_within cX7_within 3 (some .boolean), .methodLink RX7 154 yX5_end, .instanceMethod yX5_end, .selects RX5 yX5_end yX5_end, .initialized RX5, .code yX5_end cX5_end 1 (some .int), .fieldLink RX5 15 "SlipBench$Line" "start" "I", .fieldLink RX5 19 "SlipBench$Line" "size" "I", .methodLink RX7 161 yX5_add, .instanceMethod yX5_add, .selects RX5 yX5_add yX5_add, .code yX5_add cX5_add 2 none, .fieldLink RX5 9 "SlipBench$Line" "heights" "[I"] ++ wsX70 ++ wsX50 ++ wsX40)
def wsX7_line_r1 : List Cond := [Cond.fieldLink RX7 21 "SlipBench" "ground" "LSlipBench$Ground;", Cond.fieldLink RX7 48 "SlipBench" "begun" "LSlipBench$Line;", Cond.methodLink RX7 163 yX4_bears, Cond.instanceMethod yX4_bears, Cond.selects RX4 yX4_bears yX4_bears, Cond.initialized RX4, Cond.code yX4_bears cX4_bears 3 (some .boolean), Cond.fieldLink RX4 62 "SlipBench$Line" "size" "I", Cond.fieldLink RX4 17 "SlipBench$Ground" "width" "I", Cond.fieldLink RX4 71 "SlipBench$Line" "heights" "[I", Cond.fieldLink RX4 11 "SlipBench$Ground" "columns" "[LSlipBench$Column;", Cond.fieldLink RX4 74 "SlipBench$Line" "start" "I", Cond.fieldLink RX4 59 "SlipBench$Column" "tall" "I", Cond.methodLink RX4 67 yX5_end, Cond.instanceMethod yX5_end, Cond.selects RX5 yX5_end yX5_end, Cond.initialized RX5, Cond.code yX5_end cX5_end 1 (some .int), Cond.fieldLink RX5 15 "SlipBench$Line" "start" "I", Cond.fieldLink RX5 19 "SlipBench$Line" "size" "I", Cond.methodLink RX4 77 yX4_holdsOfPart, Cond.instanceMethod yX4_holdsOfPart, Cond.selects RX4 yX4_holdsOfPart yX4_holdsOfPart, Cond.code yX4_holdsOfPart cX4_holdsOfPart 5 (some .int)]
def wsX7_line_r2 : List Cond := [Cond.methodLink RX4 49 Lib.Math.min.name, Cond.static Lib.Math.min.name, Cond.initialized "java/lang/Math", Cond.code Lib.Math.min.name Lib.Math.min.code 2 (some .int), Cond.methodLink RX4 87 Lib.Math.abs.name, Cond.static Lib.Math.abs.name, Cond.code Lib.Math.abs.name Lib.Math.abs.code 1 (some .int), Cond.methodLink RX4 43 yX1_reckon, Cond.instanceMethod yX1_reckon, Cond.selects RX1 yX1_reckon yX1_reckon, Cond.initialized RX1, Cond.code yX1_reckon cX1_reckon 3 none, Cond.fieldLink RX1 31 "SlipBench$Column" "reckoned" "Z", Cond.fieldLink RX1 24 "SlipBench$Column" "presses" "[I", Cond.fieldLink RX1 9 "SlipBench$Column" "tall" "I", Cond.fieldLink RX1 18 "SlipBench$Column" "load" "I", Cond.fieldLink RX1 35 "SlipBench$Column" "earths" "LSlipBench$Earths;", Cond.fieldLink RX1 54 "SlipBench$Earths" "weights" "[I", Cond.fieldLink RX1 39 "SlipBench$Column" "cells" "[I", Cond.fieldLink RX1 28 "SlipBench$Column" "holds" "[I", Cond.methodLink RX1 59 yX1_reckonHolds, Cond.instanceMethod yX1_reckonHolds, Cond.selects RX1 yX1_reckonHolds yX1_reckonHolds, Cond.code yX1_reckonHolds cX1_reckonHolds 8 (some .int)]
def wsX7_line_r3 : List Cond := [Cond.fieldLink RX1 62 "SlipBench$Earths" "rocks" "[Z", Cond.fieldLink RX1 15 "SlipBench$Column" "water" "I", Cond.methodLink RX1 66 Lib.Math.max.name, Cond.static Lib.Math.max.name, Cond.code Lib.Math.max.name Lib.Math.max.code 2 (some .int), Cond.fieldLink RX1 69 "SlipBench$Earths" "rubs" "[I", Cond.fieldLink RX1 72 "SlipBench$Earths" "holds" "[I", Cond.fieldLink RX1 21 "SlipBench$Column" "nails" "I", Cond.methodLink RX4 91 yX1_holdsAt, Cond.instanceMethod yX1_holdsAt, Cond.selects RX1 yX1_holdsAt yX1_holdsAt, Cond.code yX1_holdsAt cX1_holdsAt 3 (some .int)]
def wsX7_line : List Cond := .code yX7_line cX7_line 1 (some .int) :: ((wsX7_line_r1 ++ (wsX7_line_r2 ++ wsX7_line_r3)) ++ wsX70 ++ wsX50 ++ wsX40 ++ wsX10 ++ wsX20)
def wsX7_knowWorst_r1 : List Cond := [Cond.fieldLink RX7 80 "SlipBench" "worstKnown" "Z", Cond.fieldLink RX7 21 "SlipBench" "ground" "LSlipBench$Ground;", Cond.fieldLink RX7 41 "SlipBench" "search" "LSlipBench$Search;", Cond.fieldLink RX7 52 "SlipBench" "worstLine" "LSlipBench$Line;", Cond.fieldLink RX7 58 "SlipBench" "worstShare" "LSlipBench$Fraction;", Cond.fieldLink RX7 84 "SlipBench" "worstExists" "Z", Cond.methodLink RX7 205 yX4_reckon, Cond.instanceMethod yX4_reckon, Cond.selects RX4 yX4_reckon yX4_reckon, Cond.initialized RX4, Cond.code yX4_reckon cX4_reckon 2 none, Cond.fieldLink RX4 17 "SlipBench$Ground" "width" "I", Cond.fieldLink RX4 11 "SlipBench$Ground" "columns" "[LSlipBench$Column;", Cond.methodLink RX4 43 yX1_reckon, Cond.instanceMethod yX1_reckon, Cond.selects RX1 yX1_reckon yX1_reckon, Cond.initialized RX1, Cond.code yX1_reckon cX1_reckon 3 none, Cond.fieldLink RX1 31 "SlipBench$Column" "reckoned" "Z", Cond.fieldLink RX1 24 "SlipBench$Column" "presses" "[I", Cond.fieldLink RX1 9 "SlipBench$Column" "tall" "I", Cond.fieldLink RX1 18 "SlipBench$Column" "load" "I", Cond.fieldLink RX1 35 "SlipBench$Column" "earths" "LSlipBench$Earths;", Cond.fieldLink RX1 54 "SlipBench$Earths" "weights" "[I"]
def wsX7_knowWorst_r2 : List Cond := [Cond.fieldLink RX1 39 "SlipBench$Column" "cells" "[I", Cond.fieldLink RX1 28 "SlipBench$Column" "holds" "[I", Cond.methodLink RX1 59 yX1_reckonHolds, Cond.instanceMethod yX1_reckonHolds, Cond.selects RX1 yX1_reckonHolds yX1_reckonHolds, Cond.code yX1_reckonHolds cX1_reckonHolds 8 (some .int), Cond.fieldLink RX1 62 "SlipBench$Earths" "rocks" "[Z", Cond.fieldLink RX1 15 "SlipBench$Column" "water" "I", Cond.methodLink RX1 66 Lib.Math.max.name, Cond.static Lib.Math.max.name, Cond.initialized "java/lang/Math", Cond.code Lib.Math.max.name Lib.Math.max.code 2 (some .int), Cond.fieldLink RX1 69 "SlipBench$Earths" "rubs" "[I", Cond.fieldLink RX1 72 "SlipBench$Earths" "holds" "[I", Cond.fieldLink RX1 21 "SlipBench$Column" "nails" "I", Cond.methodLink RX7 236 yX6_study, Cond.instanceMethod yX6_study, Cond.selects RX6 yX6_study yX6_study, Cond.initialized RX6, Cond.code yX6_study cX6_study 2 none, Cond.fieldLink RX6 33 "SlipBench$Search" "studied" "LSlipBench$Ground;", Cond.methodLink RX7 239 yX6_findWorst, Cond.instanceMethod yX6_findWorst, Cond.selects RX6 yX6_findWorst yX6_findWorst]
def wsX7_knowWorst_r3 : List Cond := [Cond.code yX6_findWorst cX6_findWorst 5 (some .boolean), Cond.fieldLink RX6 41 "SlipBench$Ground" "width" "I", Cond.fieldLink RX6 15 "SlipBench$Search" "wholes" "[J", Cond.fieldLink RX6 70 "SlipBench$Fraction" "upper" "J", Cond.fieldLink RX6 73 "SlipBench$Fraction" "lower" "J", Cond.methodLink RX6 37 yX6_aim, Cond.instanceMethod yX6_aim, Cond.selects RX6 yX6_aim yX6_aim, Cond.code yX6_aim cX6_aim 5 none, Cond.fieldLink RX6 18 "SlipBench$Search" "p" "J", Cond.fieldLink RX6 22 "SlipBench$Search" "q" "J", Cond.methodLink RX6 46 yX6_weigh, Cond.instanceMethod yX6_weigh, Cond.selects RX6 yX6_weigh yX6_weigh, Cond.code yX6_weigh cX6_weigh 5 none, Cond.fieldLink RX6 25 "SlipBench$Search" "last" "I", Cond.fieldLink RX6 29 "SlipBench$Search" "anyEnd" "Z", Cond.fieldLink RX6 9 "SlipBench$Search" "rests" "[J", Cond.fieldLink RX6 90 "SlipBench$Ground" "columns" "[LSlipBench$Column;", Cond.fieldLink RX6 94 "SlipBench$Column" "tall" "I", Cond.methodLink RX6 80 yX6_clearRests, Cond.instanceMethod yX6_clearRests, Cond.selects RX6 yX6_clearRests yX6_clearRests, Cond.code yX6_clearRests cX6_clearRests 3 none]
def wsX7_knowWorst_r4 : List Cond := [Cond.constantLong RX6 99 (4611686018427387904), Cond.methodLink RX6 84 yX6_allowEnd, Cond.instanceMethod yX6_allowEnd, Cond.selects RX6 yX6_allowEnd yX6_allowEnd, Cond.code yX6_allowEnd cX6_allowEnd 3 none, Cond.methodLink RX6 101 Lib.MathLoose.min_long.x, Cond.static Lib.MathLoose.min_long.x, Cond.code Lib.MathLoose.min_long.x Lib.MathLoose.min_long.code 4 (some .long), Cond.methodLink RX6 87 yX6_weighColumn, Cond.instanceMethod yX6_weighColumn, Cond.selects RX6 yX6_weighColumn yX6_weighColumn, Cond.code yX6_weighColumn cX6_weighColumn 10 none, Cond.methodLink RX6 107 yX1_holdsAt, Cond.instanceMethod yX1_holdsAt, Cond.selects RX1 yX1_holdsAt yX1_holdsAt, Cond.code yX1_holdsAt cX1_holdsAt 3 (some .int), Cond.methodLink RX6 111 yX1_drivesFrom, Cond.instanceMethod yX1_drivesFrom, Cond.selects RX1 yX1_drivesFrom yX1_drivesFrom, Cond.code yX1_drivesFrom cX1_drivesFrom 3 (some .int), Cond.methodLink RX6 114 yX6_better, Cond.instanceMethod yX6_better, Cond.selects RX6 yX6_better yX6_better, Cond.code yX6_better cX6_better 8 none]
def wsX7_knowWorst_r5 : List Cond := [Cond.methodLink RX6 50 yX6_leastStart, Cond.instanceMethod yX6_leastStart, Cond.selects RX6 yX6_leastStart yX6_leastStart, Cond.code yX6_leastStart cX6_leastStart 3 (some .int), Cond.methodLink RX6 54 yX6_follow, Cond.instanceMethod yX6_follow, Cond.selects RX6 yX6_follow yX6_follow, Cond.code yX6_follow cX6_follow 10 none, Cond.methodLink RX6 118 yX5_startAt, Cond.instanceMethod yX5_startAt, Cond.selects RX5 yX5_startAt yX5_startAt, Cond.initialized RX5, Cond.code yX5_startAt cX5_startAt 3 none, Cond.fieldLink RX5 15 "SlipBench$Line" "start" "I", Cond.fieldLink RX5 9 "SlipBench$Line" "heights" "[I", Cond.fieldLink RX5 19 "SlipBench$Line" "size" "I", Cond.methodLink RX6 124 yX6_leastRight, Cond.instanceMethod yX6_leastRight, Cond.selects RX6 yX6_leastRight yX6_leastRight, Cond.code yX6_leastRight cX6_leastRight 11 (some .int), Cond.methodLink RX6 135 Lib.Math.min.name, Cond.static Lib.Math.min.name, Cond.code Lib.Math.min.name Lib.Math.min.code 2 (some .int), Cond.methodLink RX6 137 Lib.Math.max.name]
def wsX7_knowWorst_r6 : List Cond := [Cond.methodLink RX6 128 yX6_keyOf, Cond.instanceMethod yX6_keyOf, Cond.selects RX6 yX6_keyOf yX6_keyOf, Cond.code yX6_keyOf cX6_keyOf 6 (some .long), Cond.methodLink RX6 140 Lib.Math.abs.name, Cond.static Lib.Math.abs.name, Cond.code Lib.Math.abs.name Lib.Math.abs.code 1 (some .int), Cond.methodLink RX6 132 yX5_add, Cond.instanceMethod yX5_add, Cond.selects RX5 yX5_add yX5_add, Cond.code yX5_add cX5_add 2 none, Cond.methodLink RX6 58 yX4_holdsAlong, Cond.instanceMethod yX4_holdsAlong, Cond.selects RX4 yX4_holdsAlong yX4_holdsAlong, Cond.code yX4_holdsAlong cX4_holdsAlong 5 (some .long), Cond.fieldLink RX4 62 "SlipBench$Line" "size" "I", Cond.methodLink RX4 77 yX4_holdsOfPart, Cond.instanceMethod yX4_holdsOfPart, Cond.selects RX4 yX4_holdsOfPart yX4_holdsOfPart, Cond.code yX4_holdsOfPart cX4_holdsOfPart 5 (some .int), Cond.fieldLink RX4 74 "SlipBench$Line" "start" "I", Cond.fieldLink RX4 71 "SlipBench$Line" "heights" "[I", Cond.methodLink RX4 49 Lib.Math.min.name, Cond.methodLink RX4 87 Lib.Math.abs.name]
def wsX7_knowWorst_r7 : List Cond := [Cond.methodLink RX4 91 yX1_holdsAt, Cond.methodLink RX6 62 yX4_drivesAlong, Cond.instanceMethod yX4_drivesAlong, Cond.selects RX4 yX4_drivesAlong yX4_drivesAlong, Cond.code yX4_drivesAlong cX4_drivesAlong 7 (some .long), Cond.methodLink RX4 81 Lib.Math.max.name, Cond.methodLink RX4 84 yX1_drivesFrom, Cond.methodLink RX6 65 yX3_become, Cond.instanceMethod yX3_become, Cond.selects RX3 yX3_become yX3_become, Cond.initialized RX3, Cond.code yX3_become cX3_become 7 none, Cond.fieldLink RX3 7 "SlipBench$Fraction" "upper" "J", Cond.fieldLink RX3 13 "SlipBench$Fraction" "lower" "J", Cond.methodLink RX3 16 yX3_greatestCommon, Cond.static yX3_greatestCommon, Cond.code yX3_greatestCommon cX3_greatestCommon 11 (some .long), Cond.methodLink RX7 243 yX6_findFirst, Cond.instanceMethod yX6_findFirst, Cond.selects RX6 yX6_findFirst yX6_findFirst, Cond.code yX6_findFirst cX6_findFirst 5 none, Cond.constantLong RX6 76 (1048576), Cond.constantLong RX6 78 (-1)]
def wsX7_knowWorst : List Cond := .code yX7_knowWorst cX7_knowWorst 1 (some .boolean) :: ((wsX7_knowWorst_r1 ++ (wsX7_knowWorst_r2 ++ (wsX7_knowWorst_r3 ++ (wsX7_knowWorst_r4 ++ (wsX7_knowWorst_r5 ++ (wsX7_knowWorst_r6 ++ wsX7_knowWorst_r7)))))) ++ wsX70 ++ wsX40 ++ wsX10 ++ wsX20 ++ wsX60 ++ wsX30 ++ wsX50)
def wsX7_worst_r1 : List Cond := [Cond.constantLong RX7 193 (-1), Cond.fieldLink RX7 58 "SlipBench" "worstShare" "LSlipBench$Fraction;", Cond.fieldLink RX7 182 "SlipBench$Fraction" "upper" "J", Cond.fieldLink RX7 186 "SlipBench$Fraction" "lower" "J", Cond.fieldLink RX7 52 "SlipBench" "worstLine" "LSlipBench$Line;", Cond.fieldLink RX7 195 "SlipBench$Line" "start" "I", Cond.fieldLink RX7 153 "SlipBench$Line" "size" "I", Cond.methodLink RX7 97 yX7_within, Cond.static yX7_within, Cond.initialized RX7, Cond.code yX7_within cX7_within 3 (some .boolean), Cond.methodLink RX7 189 yX7_knowWorst, Cond.instanceMethod yX7_knowWorst, Cond.selects RX7 yX7_knowWorst yX7_knowWorst, Cond.code yX7_knowWorst cX7_knowWorst 1 (some .boolean), Cond.fieldLink RX7 80 "SlipBench" "worstKnown" "Z", Cond.fieldLink RX7 21 "SlipBench" "ground" "LSlipBench$Ground;", Cond.fieldLink RX7 41 "SlipBench" "search" "LSlipBench$Search;", Cond.fieldLink RX7 84 "SlipBench" "worstExists" "Z", Cond.methodLink RX7 205 yX4_reckon, Cond.instanceMethod yX4_reckon, Cond.selects RX4 yX4_reckon yX4_reckon, Cond.initialized RX4, Cond.code yX4_reckon cX4_reckon 2 none]
def wsX7_worst_r2 : List Cond := [Cond.fieldLink RX4 17 "SlipBench$Ground" "width" "I", Cond.fieldLink RX4 11 "SlipBench$Ground" "columns" "[LSlipBench$Column;", Cond.methodLink RX4 43 yX1_reckon, Cond.instanceMethod yX1_reckon, Cond.selects RX1 yX1_reckon yX1_reckon, Cond.initialized RX1, Cond.code yX1_reckon cX1_reckon 3 none, Cond.fieldLink RX1 31 "SlipBench$Column" "reckoned" "Z", Cond.fieldLink RX1 24 "SlipBench$Column" "presses" "[I", Cond.fieldLink RX1 9 "SlipBench$Column" "tall" "I", Cond.fieldLink RX1 18 "SlipBench$Column" "load" "I", Cond.fieldLink RX1 35 "SlipBench$Column" "earths" "LSlipBench$Earths;", Cond.fieldLink RX1 54 "SlipBench$Earths" "weights" "[I", Cond.fieldLink RX1 39 "SlipBench$Column" "cells" "[I", Cond.fieldLink RX1 28 "SlipBench$Column" "holds" "[I", Cond.methodLink RX1 59 yX1_reckonHolds, Cond.instanceMethod yX1_reckonHolds, Cond.selects RX1 yX1_reckonHolds yX1_reckonHolds, Cond.code yX1_reckonHolds cX1_reckonHolds 8 (some .int), Cond.fieldLink RX1 62 "SlipBench$Earths" "rocks" "[Z", Cond.fieldLink RX1 15 "SlipBench$Column" "water" "I", Cond.methodLink RX1 66 Lib.Math.max.name, Cond.static Lib.Math.max.name, Cond.initialized "java/lang/Math"]
def wsX7_worst_r3 : List Cond := [Cond.code Lib.Math.max.name Lib.Math.max.code 2 (some .int), Cond.fieldLink RX1 69 "SlipBench$Earths" "rubs" "[I", Cond.fieldLink RX1 72 "SlipBench$Earths" "holds" "[I", Cond.fieldLink RX1 21 "SlipBench$Column" "nails" "I", Cond.methodLink RX7 236 yX6_study, Cond.instanceMethod yX6_study, Cond.selects RX6 yX6_study yX6_study, Cond.initialized RX6, Cond.code yX6_study cX6_study 2 none, Cond.fieldLink RX6 33 "SlipBench$Search" "studied" "LSlipBench$Ground;", Cond.methodLink RX7 239 yX6_findWorst, Cond.instanceMethod yX6_findWorst, Cond.selects RX6 yX6_findWorst yX6_findWorst, Cond.code yX6_findWorst cX6_findWorst 5 (some .boolean), Cond.fieldLink RX6 41 "SlipBench$Ground" "width" "I", Cond.fieldLink RX6 15 "SlipBench$Search" "wholes" "[J", Cond.fieldLink RX6 70 "SlipBench$Fraction" "upper" "J", Cond.fieldLink RX6 73 "SlipBench$Fraction" "lower" "J", Cond.methodLink RX6 37 yX6_aim, Cond.instanceMethod yX6_aim, Cond.selects RX6 yX6_aim yX6_aim, Cond.code yX6_aim cX6_aim 5 none, Cond.fieldLink RX6 18 "SlipBench$Search" "p" "J", Cond.fieldLink RX6 22 "SlipBench$Search" "q" "J"]
def wsX7_worst_r4 : List Cond := [Cond.methodLink RX6 46 yX6_weigh, Cond.instanceMethod yX6_weigh, Cond.selects RX6 yX6_weigh yX6_weigh, Cond.code yX6_weigh cX6_weigh 5 none, Cond.fieldLink RX6 25 "SlipBench$Search" "last" "I", Cond.fieldLink RX6 29 "SlipBench$Search" "anyEnd" "Z", Cond.fieldLink RX6 9 "SlipBench$Search" "rests" "[J", Cond.fieldLink RX6 90 "SlipBench$Ground" "columns" "[LSlipBench$Column;", Cond.fieldLink RX6 94 "SlipBench$Column" "tall" "I", Cond.methodLink RX6 80 yX6_clearRests, Cond.instanceMethod yX6_clearRests, Cond.selects RX6 yX6_clearRests yX6_clearRests, Cond.code yX6_clearRests cX6_clearRests 3 none, Cond.constantLong RX6 99 (4611686018427387904), Cond.methodLink RX6 84 yX6_allowEnd, Cond.instanceMethod yX6_allowEnd, Cond.selects RX6 yX6_allowEnd yX6_allowEnd, Cond.code yX6_allowEnd cX6_allowEnd 3 none, Cond.methodLink RX6 101 Lib.MathLoose.min_long.x, Cond.static Lib.MathLoose.min_long.x, Cond.code Lib.MathLoose.min_long.x Lib.MathLoose.min_long.code 4 (some .long), Cond.methodLink RX6 87 yX6_weighColumn, Cond.instanceMethod yX6_weighColumn, Cond.selects RX6 yX6_weighColumn yX6_weighColumn]
def wsX7_worst_r5 : List Cond := [Cond.code yX6_weighColumn cX6_weighColumn 10 none, Cond.methodLink RX6 107 yX1_holdsAt, Cond.instanceMethod yX1_holdsAt, Cond.selects RX1 yX1_holdsAt yX1_holdsAt, Cond.code yX1_holdsAt cX1_holdsAt 3 (some .int), Cond.methodLink RX6 111 yX1_drivesFrom, Cond.instanceMethod yX1_drivesFrom, Cond.selects RX1 yX1_drivesFrom yX1_drivesFrom, Cond.code yX1_drivesFrom cX1_drivesFrom 3 (some .int), Cond.methodLink RX6 114 yX6_better, Cond.instanceMethod yX6_better, Cond.selects RX6 yX6_better yX6_better, Cond.code yX6_better cX6_better 8 none, Cond.methodLink RX6 50 yX6_leastStart, Cond.instanceMethod yX6_leastStart, Cond.selects RX6 yX6_leastStart yX6_leastStart, Cond.code yX6_leastStart cX6_leastStart 3 (some .int), Cond.methodLink RX6 54 yX6_follow, Cond.instanceMethod yX6_follow, Cond.selects RX6 yX6_follow yX6_follow, Cond.code yX6_follow cX6_follow 10 none, Cond.methodLink RX6 118 yX5_startAt, Cond.instanceMethod yX5_startAt, Cond.selects RX5 yX5_startAt yX5_startAt]
def wsX7_worst_r6 : List Cond := [Cond.initialized RX5, Cond.code yX5_startAt cX5_startAt 3 none, Cond.fieldLink RX5 15 "SlipBench$Line" "start" "I", Cond.fieldLink RX5 9 "SlipBench$Line" "heights" "[I", Cond.fieldLink RX5 19 "SlipBench$Line" "size" "I", Cond.methodLink RX6 124 yX6_leastRight, Cond.instanceMethod yX6_leastRight, Cond.selects RX6 yX6_leastRight yX6_leastRight, Cond.code yX6_leastRight cX6_leastRight 11 (some .int), Cond.methodLink RX6 135 Lib.Math.min.name, Cond.static Lib.Math.min.name, Cond.code Lib.Math.min.name Lib.Math.min.code 2 (some .int), Cond.methodLink RX6 137 Lib.Math.max.name, Cond.methodLink RX6 128 yX6_keyOf, Cond.instanceMethod yX6_keyOf, Cond.selects RX6 yX6_keyOf yX6_keyOf, Cond.code yX6_keyOf cX6_keyOf 6 (some .long), Cond.methodLink RX6 140 Lib.Math.abs.name, Cond.static Lib.Math.abs.name, Cond.code Lib.Math.abs.name Lib.Math.abs.code 1 (some .int), Cond.methodLink RX6 132 yX5_add, Cond.instanceMethod yX5_add, Cond.selects RX5 yX5_add yX5_add, Cond.code yX5_add cX5_add 2 none]
def wsX7_worst_r7 : List Cond := [Cond.methodLink RX6 58 yX4_holdsAlong, Cond.instanceMethod yX4_holdsAlong, Cond.selects RX4 yX4_holdsAlong yX4_holdsAlong, Cond.code yX4_holdsAlong cX4_holdsAlong 5 (some .long), Cond.fieldLink RX4 62 "SlipBench$Line" "size" "I", Cond.methodLink RX4 77 yX4_holdsOfPart, Cond.instanceMethod yX4_holdsOfPart, Cond.selects RX4 yX4_holdsOfPart yX4_holdsOfPart, Cond.code yX4_holdsOfPart cX4_holdsOfPart 5 (some .int), Cond.fieldLink RX4 74 "SlipBench$Line" "start" "I", Cond.fieldLink RX4 71 "SlipBench$Line" "heights" "[I", Cond.methodLink RX4 49 Lib.Math.min.name, Cond.methodLink RX4 87 Lib.Math.abs.name, Cond.methodLink RX4 91 yX1_holdsAt, Cond.methodLink RX6 62 yX4_drivesAlong, Cond.instanceMethod yX4_drivesAlong, Cond.selects RX4 yX4_drivesAlong yX4_drivesAlong, Cond.code yX4_drivesAlong cX4_drivesAlong 7 (some .long), Cond.methodLink RX4 81 Lib.Math.max.name, Cond.methodLink RX4 84 yX1_drivesFrom, Cond.methodLink RX6 65 yX3_become, Cond.instanceMethod yX3_become, Cond.selects RX3 yX3_become yX3_become, Cond.initialized RX3]
def wsX7_worst_r8 : List Cond := [Cond.code yX3_become cX3_become 7 none, Cond.fieldLink RX3 7 "SlipBench$Fraction" "upper" "J", Cond.fieldLink RX3 13 "SlipBench$Fraction" "lower" "J", Cond.methodLink RX3 16 yX3_greatestCommon, Cond.static yX3_greatestCommon, Cond.code yX3_greatestCommon cX3_greatestCommon 11 (some .long), Cond.methodLink RX7 243 yX6_findFirst, Cond.instanceMethod yX6_findFirst, Cond.selects RX6 yX6_findFirst yX6_findFirst, Cond.code yX6_findFirst cX6_findFirst 5 none, Cond.constantLong RX6 76 (1048576), Cond.constantLong RX6 78 (-1), Cond.methodLink RX7 154 yX5_end, Cond.instanceMethod yX5_end, Cond.selects RX5 yX5_end yX5_end, Cond.code yX5_end cX5_end 1 (some .int)]
def wsX7_worst : List Cond := .code yX7_worst cX7_worst 2 (some .long) :: ((wsX7_worst_r1 ++ (wsX7_worst_r2 ++ (wsX7_worst_r3 ++ (wsX7_worst_r4 ++ (wsX7_worst_r5 ++ (wsX7_worst_r6 ++ (wsX7_worst_r7 ++ wsX7_worst_r8))))))) ++ wsX70 ++ wsX30 ++ wsX50 ++ wsX40 ++ wsX10 ++ wsX20 ++ wsX60)
def wsX7_height_r1 : List Cond := [Cond.fieldLink RX7 52 "SlipBench" "worstLine" "LSlipBench$Line;", Cond.fieldLink RX7 153 "SlipBench$Line" "size" "I", Cond.fieldLink RX7 198 "SlipBench$Line" "heights" "[I", Cond.methodLink RX7 189 yX7_knowWorst, Cond.instanceMethod yX7_knowWorst, Cond.selects RX7 yX7_knowWorst yX7_knowWorst, Cond.initialized RX7, Cond.code yX7_knowWorst cX7_knowWorst 1 (some .boolean), Cond.fieldLink RX7 80 "SlipBench" "worstKnown" "Z", Cond.fieldLink RX7 21 "SlipBench" "ground" "LSlipBench$Ground;", Cond.fieldLink RX7 41 "SlipBench" "search" "LSlipBench$Search;", Cond.fieldLink RX7 58 "SlipBench" "worstShare" "LSlipBench$Fraction;", Cond.fieldLink RX7 84 "SlipBench" "worstExists" "Z", Cond.methodLink RX7 205 yX4_reckon, Cond.instanceMethod yX4_reckon, Cond.selects RX4 yX4_reckon yX4_reckon, Cond.initialized RX4, Cond.code yX4_reckon cX4_reckon 2 none, Cond.fieldLink RX4 17 "SlipBench$Ground" "width" "I", Cond.fieldLink RX4 11 "SlipBench$Ground" "columns" "[LSlipBench$Column;", Cond.methodLink RX4 43 yX1_reckon, Cond.instanceMethod yX1_reckon, Cond.selects RX1 yX1_reckon yX1_reckon, Cond.initialized RX1]
def wsX7_height_r2 : List Cond := [Cond.code yX1_reckon cX1_reckon 3 none, Cond.fieldLink RX1 31 "SlipBench$Column" "reckoned" "Z", Cond.fieldLink RX1 24 "SlipBench$Column" "presses" "[I", Cond.fieldLink RX1 9 "SlipBench$Column" "tall" "I", Cond.fieldLink RX1 18 "SlipBench$Column" "load" "I", Cond.fieldLink RX1 35 "SlipBench$Column" "earths" "LSlipBench$Earths;", Cond.fieldLink RX1 54 "SlipBench$Earths" "weights" "[I", Cond.fieldLink RX1 39 "SlipBench$Column" "cells" "[I", Cond.fieldLink RX1 28 "SlipBench$Column" "holds" "[I", Cond.methodLink RX1 59 yX1_reckonHolds, Cond.instanceMethod yX1_reckonHolds, Cond.selects RX1 yX1_reckonHolds yX1_reckonHolds, Cond.code yX1_reckonHolds cX1_reckonHolds 8 (some .int), Cond.fieldLink RX1 62 "SlipBench$Earths" "rocks" "[Z", Cond.fieldLink RX1 15 "SlipBench$Column" "water" "I", Cond.methodLink RX1 66 Lib.Math.max.name, Cond.static Lib.Math.max.name, Cond.initialized "java/lang/Math", Cond.code Lib.Math.max.name Lib.Math.max.code 2 (some .int), Cond.fieldLink RX1 69 "SlipBench$Earths" "rubs" "[I", Cond.fieldLink RX1 72 "SlipBench$Earths" "holds" "[I", Cond.fieldLink RX1 21 "SlipBench$Column" "nails" "I", Cond.methodLink RX7 236 yX6_study, Cond.instanceMethod yX6_study]
def wsX7_height_r3 : List Cond := [Cond.selects RX6 yX6_study yX6_study, Cond.initialized RX6, Cond.code yX6_study cX6_study 2 none, Cond.fieldLink RX6 33 "SlipBench$Search" "studied" "LSlipBench$Ground;", Cond.methodLink RX7 239 yX6_findWorst, Cond.instanceMethod yX6_findWorst, Cond.selects RX6 yX6_findWorst yX6_findWorst, Cond.code yX6_findWorst cX6_findWorst 5 (some .boolean), Cond.fieldLink RX6 41 "SlipBench$Ground" "width" "I", Cond.fieldLink RX6 15 "SlipBench$Search" "wholes" "[J", Cond.fieldLink RX6 70 "SlipBench$Fraction" "upper" "J", Cond.fieldLink RX6 73 "SlipBench$Fraction" "lower" "J", Cond.methodLink RX6 37 yX6_aim, Cond.instanceMethod yX6_aim, Cond.selects RX6 yX6_aim yX6_aim, Cond.code yX6_aim cX6_aim 5 none, Cond.fieldLink RX6 18 "SlipBench$Search" "p" "J", Cond.fieldLink RX6 22 "SlipBench$Search" "q" "J", Cond.methodLink RX6 46 yX6_weigh, Cond.instanceMethod yX6_weigh, Cond.selects RX6 yX6_weigh yX6_weigh, Cond.code yX6_weigh cX6_weigh 5 none, Cond.fieldLink RX6 25 "SlipBench$Search" "last" "I", Cond.fieldLink RX6 29 "SlipBench$Search" "anyEnd" "Z"]
def wsX7_height_r4 : List Cond := [Cond.fieldLink RX6 9 "SlipBench$Search" "rests" "[J", Cond.fieldLink RX6 90 "SlipBench$Ground" "columns" "[LSlipBench$Column;", Cond.fieldLink RX6 94 "SlipBench$Column" "tall" "I", Cond.methodLink RX6 80 yX6_clearRests, Cond.instanceMethod yX6_clearRests, Cond.selects RX6 yX6_clearRests yX6_clearRests, Cond.code yX6_clearRests cX6_clearRests 3 none, Cond.constantLong RX6 99 (4611686018427387904), Cond.methodLink RX6 84 yX6_allowEnd, Cond.instanceMethod yX6_allowEnd, Cond.selects RX6 yX6_allowEnd yX6_allowEnd, Cond.code yX6_allowEnd cX6_allowEnd 3 none, Cond.methodLink RX6 101 Lib.MathLoose.min_long.x, Cond.static Lib.MathLoose.min_long.x, Cond.code Lib.MathLoose.min_long.x Lib.MathLoose.min_long.code 4 (some .long), Cond.methodLink RX6 87 yX6_weighColumn, Cond.instanceMethod yX6_weighColumn, Cond.selects RX6 yX6_weighColumn yX6_weighColumn, Cond.code yX6_weighColumn cX6_weighColumn 10 none, Cond.methodLink RX6 107 yX1_holdsAt, Cond.instanceMethod yX1_holdsAt, Cond.selects RX1 yX1_holdsAt yX1_holdsAt, Cond.code yX1_holdsAt cX1_holdsAt 3 (some .int), Cond.methodLink RX6 111 yX1_drivesFrom]
def wsX7_height_r5 : List Cond := [Cond.instanceMethod yX1_drivesFrom, Cond.selects RX1 yX1_drivesFrom yX1_drivesFrom, Cond.code yX1_drivesFrom cX1_drivesFrom 3 (some .int), Cond.methodLink RX6 114 yX6_better, Cond.instanceMethod yX6_better, Cond.selects RX6 yX6_better yX6_better, Cond.code yX6_better cX6_better 8 none, Cond.methodLink RX6 50 yX6_leastStart, Cond.instanceMethod yX6_leastStart, Cond.selects RX6 yX6_leastStart yX6_leastStart, Cond.code yX6_leastStart cX6_leastStart 3 (some .int), Cond.methodLink RX6 54 yX6_follow, Cond.instanceMethod yX6_follow, Cond.selects RX6 yX6_follow yX6_follow, Cond.code yX6_follow cX6_follow 10 none, Cond.methodLink RX6 118 yX5_startAt, Cond.instanceMethod yX5_startAt, Cond.selects RX5 yX5_startAt yX5_startAt, Cond.initialized RX5, Cond.code yX5_startAt cX5_startAt 3 none, Cond.fieldLink RX5 15 "SlipBench$Line" "start" "I", Cond.fieldLink RX5 9 "SlipBench$Line" "heights" "[I", Cond.fieldLink RX5 19 "SlipBench$Line" "size" "I", Cond.methodLink RX6 124 yX6_leastRight]
def wsX7_height_r6 : List Cond := [Cond.instanceMethod yX6_leastRight, Cond.selects RX6 yX6_leastRight yX6_leastRight, Cond.code yX6_leastRight cX6_leastRight 11 (some .int), Cond.methodLink RX6 135 Lib.Math.min.name, Cond.static Lib.Math.min.name, Cond.code Lib.Math.min.name Lib.Math.min.code 2 (some .int), Cond.methodLink RX6 137 Lib.Math.max.name, Cond.methodLink RX6 128 yX6_keyOf, Cond.instanceMethod yX6_keyOf, Cond.selects RX6 yX6_keyOf yX6_keyOf, Cond.code yX6_keyOf cX6_keyOf 6 (some .long), Cond.methodLink RX6 140 Lib.Math.abs.name, Cond.static Lib.Math.abs.name, Cond.code Lib.Math.abs.name Lib.Math.abs.code 1 (some .int), Cond.methodLink RX6 132 yX5_add, Cond.instanceMethod yX5_add, Cond.selects RX5 yX5_add yX5_add, Cond.code yX5_add cX5_add 2 none, Cond.methodLink RX6 58 yX4_holdsAlong, Cond.instanceMethod yX4_holdsAlong, Cond.selects RX4 yX4_holdsAlong yX4_holdsAlong, Cond.code yX4_holdsAlong cX4_holdsAlong 5 (some .long), Cond.fieldLink RX4 62 "SlipBench$Line" "size" "I", Cond.methodLink RX4 77 yX4_holdsOfPart]
def wsX7_height_r7 : List Cond := [Cond.instanceMethod yX4_holdsOfPart, Cond.selects RX4 yX4_holdsOfPart yX4_holdsOfPart, Cond.code yX4_holdsOfPart cX4_holdsOfPart 5 (some .int), Cond.fieldLink RX4 74 "SlipBench$Line" "start" "I", Cond.fieldLink RX4 71 "SlipBench$Line" "heights" "[I", Cond.methodLink RX4 49 Lib.Math.min.name, Cond.methodLink RX4 87 Lib.Math.abs.name, Cond.methodLink RX4 91 yX1_holdsAt, Cond.methodLink RX6 62 yX4_drivesAlong, Cond.instanceMethod yX4_drivesAlong, Cond.selects RX4 yX4_drivesAlong yX4_drivesAlong, Cond.code yX4_drivesAlong cX4_drivesAlong 7 (some .long), Cond.methodLink RX4 81 Lib.Math.max.name, Cond.methodLink RX4 84 yX1_drivesFrom, Cond.methodLink RX6 65 yX3_become, Cond.instanceMethod yX3_become, Cond.selects RX3 yX3_become yX3_become, Cond.initialized RX3, Cond.code yX3_become cX3_become 7 none, Cond.fieldLink RX3 7 "SlipBench$Fraction" "upper" "J", Cond.fieldLink RX3 13 "SlipBench$Fraction" "lower" "J", Cond.methodLink RX3 16 yX3_greatestCommon, Cond.static yX3_greatestCommon, Cond.code yX3_greatestCommon cX3_greatestCommon 11 (some .long)]
def wsX7_height_r8 : List Cond := [Cond.methodLink RX7 243 yX6_findFirst, Cond.instanceMethod yX6_findFirst, Cond.selects RX6 yX6_findFirst yX6_findFirst, Cond.code yX6_findFirst cX6_findFirst 5 none, Cond.constantLong RX6 76 (1048576), Cond.constantLong RX6 78 (-1), Cond.methodLink RX7 97 yX7_within, Cond.static yX7_within, Cond.code yX7_within cX7_within 3 (some .boolean)]
def wsX7_height : List Cond := .code yX7_height cX7_height 2 (some .int) :: ((wsX7_height_r1 ++ (wsX7_height_r2 ++ (wsX7_height_r3 ++ (wsX7_height_r4 ++ (wsX7_height_r5 ++ (wsX7_height_r6 ++ (wsX7_height_r7 ++ wsX7_height_r8))))))) ++ wsX70 ++ wsX50 ++ wsX40 ++ wsX10 ++ wsX20 ++ wsX60 ++ wsX30)
def wsX7_isRatio : List Cond := .code yX7_isRatio cX7_isRatio 2 (some .boolean) :: ([.methodLink RX7 97 yX7_within, .static yX7_within, .initialized RX7, .code yX7_within cX7_within 3 (some .boolean)])
def wsX7_standsRisen_r1 : List Cond := [Cond.fieldLink RX7 28 "SlipBench" "trial" "LSlipBench$Ground;", Cond.fieldLink RX7 21 "SlipBench" "ground" "LSlipBench$Ground;", Cond.fieldLink RX7 41 "SlipBench" "search" "LSlipBench$Search;", Cond.methodLink RX7 247 yX4_copy, Cond.instanceMethod yX4_copy, Cond.selects RX4 yX4_copy yX4_copy, Cond.initialized RX4, Cond.code yX4_copy cX4_copy 3 none, Cond.fieldLink RX4 17 "SlipBench$Ground" "width" "I", Cond.fieldLink RX4 11 "SlipBench$Ground" "columns" "[LSlipBench$Column;", Cond.methodLink RX4 39 yX1_copy, Cond.instanceMethod yX1_copy, Cond.selects RX1 yX1_copy yX1_copy, Cond.initialized RX1, Cond.code yX1_copy cX1_copy 2 none, Cond.fieldLink RX1 9 "SlipBench$Column" "tall" "I", Cond.fieldLink RX1 15 "SlipBench$Column" "water" "I", Cond.fieldLink RX1 18 "SlipBench$Column" "load" "I", Cond.fieldLink RX1 21 "SlipBench$Column" "nails" "I", Cond.fieldLink RX1 24 "SlipBench$Column" "presses" "[I", Cond.methodLink RX1 42 arraycopyName, Cond.native arraycopyName, Cond.static arraycopyName, Cond.initialized "java/lang/System"]
def wsX7_standsRisen_r2 : List Cond := [Cond.fieldLink RX1 28 "SlipBench$Column" "holds" "[I", Cond.fieldLink RX1 31 "SlipBench$Column" "reckoned" "Z", Cond.methodLink RX7 250 yX4_raiseWater, Cond.instanceMethod yX4_raiseWater, Cond.selects RX4 yX4_raiseWater yX4_raiseWater, Cond.code yX4_raiseWater cX4_raiseWater 3 none, Cond.fieldLink RX4 46 "SlipBench$Column" "water" "I", Cond.methodLink RX4 49 Lib.Math.min.name, Cond.static Lib.Math.min.name, Cond.initialized "java/lang/Math", Cond.code Lib.Math.min.name Lib.Math.min.code 2 (some .int), Cond.methodLink RX4 55 yX1_put, Cond.instanceMethod yX1_put, Cond.selects RX1 yX1_put yX1_put, Cond.code yX1_put cX1_put 3 none, Cond.methodLink RX7 205 yX4_reckon, Cond.instanceMethod yX4_reckon, Cond.selects RX4 yX4_reckon yX4_reckon, Cond.code yX4_reckon cX4_reckon 2 none, Cond.methodLink RX4 43 yX1_reckon, Cond.instanceMethod yX1_reckon, Cond.selects RX1 yX1_reckon yX1_reckon, Cond.code yX1_reckon cX1_reckon 3 none, Cond.fieldLink RX1 35 "SlipBench$Column" "earths" "LSlipBench$Earths;"]
def wsX7_standsRisen_r3 : List Cond := [Cond.fieldLink RX1 54 "SlipBench$Earths" "weights" "[I", Cond.fieldLink RX1 39 "SlipBench$Column" "cells" "[I", Cond.methodLink RX1 59 yX1_reckonHolds, Cond.instanceMethod yX1_reckonHolds, Cond.selects RX1 yX1_reckonHolds yX1_reckonHolds, Cond.code yX1_reckonHolds cX1_reckonHolds 8 (some .int), Cond.fieldLink RX1 62 "SlipBench$Earths" "rocks" "[Z", Cond.methodLink RX1 66 Lib.Math.max.name, Cond.static Lib.Math.max.name, Cond.code Lib.Math.max.name Lib.Math.max.code 2 (some .int), Cond.fieldLink RX1 69 "SlipBench$Earths" "rubs" "[I", Cond.fieldLink RX1 72 "SlipBench$Earths" "holds" "[I", Cond.methodLink RX7 236 yX6_study, Cond.instanceMethod yX6_study, Cond.selects RX6 yX6_study yX6_study, Cond.initialized RX6, Cond.code yX6_study cX6_study 2 none, Cond.fieldLink RX6 33 "SlipBench$Search" "studied" "LSlipBench$Ground;", Cond.methodLink RX7 253 yX6_stands, Cond.instanceMethod yX6_stands, Cond.selects RX6 yX6_stands yX6_stands, Cond.code yX6_stands cX6_stands 5 (some .boolean), Cond.fieldLink RX6 41 "SlipBench$Ground" "width" "I", Cond.fieldLink RX6 15 "SlipBench$Search" "wholes" "[J"]
def wsX7_standsRisen_r4 : List Cond := [Cond.methodLink RX6 37 yX6_aim, Cond.instanceMethod yX6_aim, Cond.selects RX6 yX6_aim yX6_aim, Cond.code yX6_aim cX6_aim 5 none, Cond.fieldLink RX6 18 "SlipBench$Search" "p" "J", Cond.fieldLink RX6 22 "SlipBench$Search" "q" "J", Cond.methodLink RX6 46 yX6_weigh, Cond.instanceMethod yX6_weigh, Cond.selects RX6 yX6_weigh yX6_weigh, Cond.code yX6_weigh cX6_weigh 5 none, Cond.fieldLink RX6 25 "SlipBench$Search" "last" "I", Cond.fieldLink RX6 29 "SlipBench$Search" "anyEnd" "Z", Cond.fieldLink RX6 9 "SlipBench$Search" "rests" "[J", Cond.fieldLink RX6 90 "SlipBench$Ground" "columns" "[LSlipBench$Column;", Cond.fieldLink RX6 94 "SlipBench$Column" "tall" "I", Cond.methodLink RX6 80 yX6_clearRests, Cond.instanceMethod yX6_clearRests, Cond.selects RX6 yX6_clearRests yX6_clearRests, Cond.code yX6_clearRests cX6_clearRests 3 none, Cond.constantLong RX6 99 (4611686018427387904), Cond.methodLink RX6 84 yX6_allowEnd, Cond.instanceMethod yX6_allowEnd, Cond.selects RX6 yX6_allowEnd yX6_allowEnd, Cond.code yX6_allowEnd cX6_allowEnd 3 none]
def wsX7_standsRisen_r5 : List Cond := [Cond.methodLink RX6 101 Lib.MathLoose.min_long.x, Cond.static Lib.MathLoose.min_long.x, Cond.code Lib.MathLoose.min_long.x Lib.MathLoose.min_long.code 4 (some .long), Cond.methodLink RX6 87 yX6_weighColumn, Cond.instanceMethod yX6_weighColumn, Cond.selects RX6 yX6_weighColumn yX6_weighColumn, Cond.code yX6_weighColumn cX6_weighColumn 10 none, Cond.methodLink RX6 107 yX1_holdsAt, Cond.instanceMethod yX1_holdsAt, Cond.selects RX1 yX1_holdsAt yX1_holdsAt, Cond.code yX1_holdsAt cX1_holdsAt 3 (some .int), Cond.methodLink RX6 111 yX1_drivesFrom, Cond.instanceMethod yX1_drivesFrom, Cond.selects RX1 yX1_drivesFrom yX1_drivesFrom, Cond.code yX1_drivesFrom cX1_drivesFrom 3 (some .int), Cond.methodLink RX6 114 yX6_better, Cond.instanceMethod yX6_better, Cond.selects RX6 yX6_better yX6_better, Cond.code yX6_better cX6_better 8 none, Cond.methodLink RX6 50 yX6_leastStart, Cond.instanceMethod yX6_leastStart, Cond.selects RX6 yX6_leastStart yX6_leastStart, Cond.code yX6_leastStart cX6_leastStart 3 (some .int)]
def wsX7_standsRisen : List Cond := .code yX7_standsRisen cX7_standsRisen 4 (some .boolean) :: ((wsX7_standsRisen_r1 ++ (wsX7_standsRisen_r2 ++ (wsX7_standsRisen_r3 ++ (wsX7_standsRisen_r4 ++ wsX7_standsRisen_r5)))) ++ wsX70 ++ wsX40 ++ wsX10 ++ wsX20 ++ wsX60)
def wsX7_rise_r1 : List Cond := [Cond.fieldLink RX7 21 "SlipBench" "ground" "LSlipBench$Ground;", Cond.methodLink RX7 201 yX7_isRatio, Cond.static yX7_isRatio, Cond.initialized RX7, Cond.code yX7_isRatio cX7_isRatio 2 (some .boolean), Cond.methodLink RX7 97 yX7_within, Cond.static yX7_within, Cond.code yX7_within cX7_within 3 (some .boolean), Cond.methodLink RX7 205 yX4_reckon, Cond.instanceMethod yX4_reckon, Cond.selects RX4 yX4_reckon yX4_reckon, Cond.initialized RX4, Cond.code yX4_reckon cX4_reckon 2 none, Cond.fieldLink RX4 17 "SlipBench$Ground" "width" "I", Cond.fieldLink RX4 11 "SlipBench$Ground" "columns" "[LSlipBench$Column;", Cond.methodLink RX4 43 yX1_reckon, Cond.instanceMethod yX1_reckon, Cond.selects RX1 yX1_reckon yX1_reckon, Cond.initialized RX1, Cond.code yX1_reckon cX1_reckon 3 none, Cond.fieldLink RX1 31 "SlipBench$Column" "reckoned" "Z", Cond.fieldLink RX1 24 "SlipBench$Column" "presses" "[I", Cond.fieldLink RX1 9 "SlipBench$Column" "tall" "I", Cond.fieldLink RX1 18 "SlipBench$Column" "load" "I"]
def wsX7_rise_r2 : List Cond := [Cond.fieldLink RX1 35 "SlipBench$Column" "earths" "LSlipBench$Earths;", Cond.fieldLink RX1 54 "SlipBench$Earths" "weights" "[I", Cond.fieldLink RX1 39 "SlipBench$Column" "cells" "[I", Cond.fieldLink RX1 28 "SlipBench$Column" "holds" "[I", Cond.methodLink RX1 59 yX1_reckonHolds, Cond.instanceMethod yX1_reckonHolds, Cond.selects RX1 yX1_reckonHolds yX1_reckonHolds, Cond.code yX1_reckonHolds cX1_reckonHolds 8 (some .int), Cond.fieldLink RX1 62 "SlipBench$Earths" "rocks" "[Z", Cond.fieldLink RX1 15 "SlipBench$Column" "water" "I", Cond.methodLink RX1 66 Lib.Math.max.name, Cond.static Lib.Math.max.name, Cond.initialized "java/lang/Math", Cond.code Lib.Math.max.name Lib.Math.max.code 2 (some .int), Cond.fieldLink RX1 69 "SlipBench$Earths" "rubs" "[I", Cond.fieldLink RX1 72 "SlipBench$Earths" "holds" "[I", Cond.fieldLink RX1 21 "SlipBench$Column" "nails" "I", Cond.methodLink RX7 208 yX7_standsRisen, Cond.instanceMethod yX7_standsRisen, Cond.selects RX7 yX7_standsRisen yX7_standsRisen, Cond.code yX7_standsRisen cX7_standsRisen 4 (some .boolean), Cond.fieldLink RX7 28 "SlipBench" "trial" "LSlipBench$Ground;", Cond.fieldLink RX7 41 "SlipBench" "search" "LSlipBench$Search;", Cond.methodLink RX7 247 yX4_copy]
def wsX7_rise_r3 : List Cond := [Cond.instanceMethod yX4_copy, Cond.selects RX4 yX4_copy yX4_copy, Cond.code yX4_copy cX4_copy 3 none, Cond.methodLink RX4 39 yX1_copy, Cond.instanceMethod yX1_copy, Cond.selects RX1 yX1_copy yX1_copy, Cond.code yX1_copy cX1_copy 2 none, Cond.methodLink RX1 42 arraycopyName, Cond.native arraycopyName, Cond.static arraycopyName, Cond.initialized "java/lang/System", Cond.methodLink RX7 250 yX4_raiseWater, Cond.instanceMethod yX4_raiseWater, Cond.selects RX4 yX4_raiseWater yX4_raiseWater, Cond.code yX4_raiseWater cX4_raiseWater 3 none, Cond.fieldLink RX4 46 "SlipBench$Column" "water" "I", Cond.methodLink RX4 49 Lib.Math.min.name, Cond.static Lib.Math.min.name, Cond.code Lib.Math.min.name Lib.Math.min.code 2 (some .int), Cond.methodLink RX4 55 yX1_put, Cond.instanceMethod yX1_put, Cond.selects RX1 yX1_put yX1_put, Cond.code yX1_put cX1_put 3 none, Cond.methodLink RX7 236 yX6_study]
def wsX7_rise_r4 : List Cond := [Cond.instanceMethod yX6_study, Cond.selects RX6 yX6_study yX6_study, Cond.initialized RX6, Cond.code yX6_study cX6_study 2 none, Cond.fieldLink RX6 33 "SlipBench$Search" "studied" "LSlipBench$Ground;", Cond.methodLink RX7 253 yX6_stands, Cond.instanceMethod yX6_stands, Cond.selects RX6 yX6_stands yX6_stands, Cond.code yX6_stands cX6_stands 5 (some .boolean), Cond.fieldLink RX6 41 "SlipBench$Ground" "width" "I", Cond.fieldLink RX6 15 "SlipBench$Search" "wholes" "[J", Cond.methodLink RX6 37 yX6_aim, Cond.instanceMethod yX6_aim, Cond.selects RX6 yX6_aim yX6_aim, Cond.code yX6_aim cX6_aim 5 none, Cond.fieldLink RX6 18 "SlipBench$Search" "p" "J", Cond.fieldLink RX6 22 "SlipBench$Search" "q" "J", Cond.methodLink RX6 46 yX6_weigh, Cond.instanceMethod yX6_weigh, Cond.selects RX6 yX6_weigh yX6_weigh, Cond.code yX6_weigh cX6_weigh 5 none, Cond.fieldLink RX6 25 "SlipBench$Search" "last" "I", Cond.fieldLink RX6 29 "SlipBench$Search" "anyEnd" "Z", Cond.fieldLink RX6 9 "SlipBench$Search" "rests" "[J"]
def wsX7_rise_r5 : List Cond := [Cond.fieldLink RX6 90 "SlipBench$Ground" "columns" "[LSlipBench$Column;", Cond.fieldLink RX6 94 "SlipBench$Column" "tall" "I", Cond.methodLink RX6 80 yX6_clearRests, Cond.instanceMethod yX6_clearRests, Cond.selects RX6 yX6_clearRests yX6_clearRests, Cond.code yX6_clearRests cX6_clearRests 3 none, Cond.constantLong RX6 99 (4611686018427387904), Cond.methodLink RX6 84 yX6_allowEnd, Cond.instanceMethod yX6_allowEnd, Cond.selects RX6 yX6_allowEnd yX6_allowEnd, Cond.code yX6_allowEnd cX6_allowEnd 3 none, Cond.methodLink RX6 101 Lib.MathLoose.min_long.x, Cond.static Lib.MathLoose.min_long.x, Cond.code Lib.MathLoose.min_long.x Lib.MathLoose.min_long.code 4 (some .long), Cond.methodLink RX6 87 yX6_weighColumn, Cond.instanceMethod yX6_weighColumn, Cond.selects RX6 yX6_weighColumn yX6_weighColumn, Cond.code yX6_weighColumn cX6_weighColumn 10 none, Cond.methodLink RX6 107 yX1_holdsAt, Cond.instanceMethod yX1_holdsAt, Cond.selects RX1 yX1_holdsAt yX1_holdsAt, Cond.code yX1_holdsAt cX1_holdsAt 3 (some .int), Cond.methodLink RX6 111 yX1_drivesFrom, Cond.instanceMethod yX1_drivesFrom]
def wsX7_rise_r6 : List Cond := [Cond.selects RX1 yX1_drivesFrom yX1_drivesFrom, Cond.code yX1_drivesFrom cX1_drivesFrom 3 (some .int), Cond.methodLink RX6 114 yX6_better, Cond.instanceMethod yX6_better, Cond.selects RX6 yX6_better yX6_better, Cond.code yX6_better cX6_better 8 none, Cond.methodLink RX6 50 yX6_leastStart, Cond.instanceMethod yX6_leastStart, Cond.selects RX6 yX6_leastStart yX6_leastStart, Cond.code yX6_leastStart cX6_leastStart 3 (some .int)]
def wsX7_rise : List Cond := .code yX7_rise cX7_rise 5 (some .int) :: ((wsX7_rise_r1 ++ (wsX7_rise_r2 ++ (wsX7_rise_r3 ++ (wsX7_rise_r4 ++ (wsX7_rise_r5 ++ wsX7_rise_r6))))) ++ wsX70 ++ wsX40 ++ wsX10 ++ wsX20 ++ wsX60)
def wsX7_act : List Cond := .code yX7_act cX7_act 5 (some .int) :: ([.fieldLink RX7 21 "SlipBench" "ground" "LSlipBench$Ground;", .fieldLink RX7 34 "SlipBench" "acts" "LSlipBench$Acts;", .methodLink RX7 97 yX7_within, .static yX7_within, .initialized RX7, .code yX7_within cX7_within 3 (some .boolean), .methodLink RX7 105 yX4_has, .instanceMethod yX4_has, .selects RX4 yX4_has yX4_has, .initialized RX4, .code yX4_has cX4_has 2 (some .boolean), .fieldLink RX4 17 "SlipBench$Ground" "width" "I", .methodLink RX7 211 yX0_add, .instanceMethod yX0_add, .selects RX0 yX0_add yX0_add, .initialized RX0, .code yX0_add cX0_add 4 (some .int), .fieldLink RX0 9 "SlipBench$Acts" "size" "I", .fieldLink RX0 15 "SlipBench$Acts" "kinds" "[I", .fieldLink RX0 19 "SlipBench$Acts" "places" "[I", .fieldLink RX0 22 "SlipBench$Acts" "amounts" "[I"] ++ wsX70 ++ wsX40 ++ wsX00)
def wsX7_perform_r1 : List Cond := [Cond.fieldLink RX7 34 "SlipBench" "acts" "LSlipBench$Acts;", Cond.fieldLink RX7 21 "SlipBench" "ground" "LSlipBench$Ground;", Cond.fieldLink RX7 80 "SlipBench" "worstKnown" "Z", Cond.methodLink RX7 214 yX0_has, Cond.instanceMethod yX0_has, Cond.selects RX0 yX0_has yX0_has, Cond.initialized RX0, Cond.code yX0_has cX0_has 2 (some .boolean), Cond.fieldLink RX0 9 "SlipBench$Acts" "size" "I", Cond.static yX7_within, Cond.initialized RX7, Cond.code yX7_within cX7_within 3 (some .boolean), Cond.methodLink RX7 215 yX0_doOn, Cond.instanceMethod yX0_doOn, Cond.selects RX0 yX0_doOn yX0_doOn, Cond.code yX0_doOn cX0_doOn 5 none, Cond.fieldLink RX0 19 "SlipBench$Acts" "places" "[I", Cond.fieldLink RX0 36 "SlipBench$Ground" "columns" "[LSlipBench$Column;", Cond.fieldLink RX0 22 "SlipBench$Acts" "amounts" "[I", Cond.fieldLink RX0 15 "SlipBench$Acts" "kinds" "[I", Cond.fieldLink RX0 46 "SlipBench$Column" "nails" "I", Cond.methodLink RX0 49 Lib.Math.min.name, Cond.static Lib.Math.min.name, Cond.initialized "java/lang/Math"]
def wsX7_perform_r2 : List Cond := [Cond.code Lib.Math.min.name Lib.Math.min.code 2 (some .int), Cond.fieldLink RX0 59 "SlipBench$Column" "water" "I", Cond.fieldLink RX0 62 "SlipBench$Column" "load" "I", Cond.methodLink RX0 29 yX0_has, Cond.methodLink RX0 33 yX4_has, Cond.instanceMethod yX4_has, Cond.selects RX4 yX4_has yX4_has, Cond.initialized RX4, Cond.code yX4_has cX4_has 2 (some .boolean), Cond.fieldLink RX4 17 "SlipBench$Ground" "width" "I", Cond.methodLink RX0 40 yX1_digTo, Cond.instanceMethod yX1_digTo, Cond.selects RX1 yX1_digTo yX1_digTo, Cond.initialized RX1, Cond.code yX1_digTo cX1_digTo 2 none, Cond.fieldLink RX1 9 "SlipBench$Column" "tall" "I", Cond.methodLink RX1 48 Lib.Math.min.name, Cond.fieldLink RX1 31 "SlipBench$Column" "reckoned" "Z", Cond.methodLink RX0 55 yX1_put, Cond.instanceMethod yX1_put, Cond.selects RX1 yX1_put yX1_put, Cond.code yX1_put cX1_put 3 none, Cond.fieldLink RX1 15 "SlipBench$Column" "water" "I", Cond.fieldLink RX1 18 "SlipBench$Column" "load" "I"]
def wsX7_perform_r3 : List Cond := [Cond.fieldLink RX1 21 "SlipBench$Column" "nails" "I"]
def wsX7_perform : List Cond := .code yX7_perform cX7_perform 2 (some .boolean) :: ((wsX7_perform_r1 ++ (wsX7_perform_r2 ++ wsX7_perform_r3)) ++ wsX70 ++ wsX00 ++ wsX40 ++ wsX10)
def wsX7_standsBehind_r1 : List Cond := [Cond.fieldLink RX7 28 "SlipBench" "trial" "LSlipBench$Ground;", Cond.fieldLink RX7 21 "SlipBench" "ground" "LSlipBench$Ground;", Cond.fieldLink RX7 34 "SlipBench" "acts" "LSlipBench$Acts;", Cond.fieldLink RX7 91 "SlipBench$Acts" "size" "I", Cond.fieldLink RX7 41 "SlipBench" "search" "LSlipBench$Search;", Cond.methodLink RX7 247 yX4_copy, Cond.instanceMethod yX4_copy, Cond.selects RX4 yX4_copy yX4_copy, Cond.initialized RX4, Cond.code yX4_copy cX4_copy 3 none, Cond.fieldLink RX4 17 "SlipBench$Ground" "width" "I", Cond.fieldLink RX4 11 "SlipBench$Ground" "columns" "[LSlipBench$Column;", Cond.methodLink RX4 39 yX1_copy, Cond.instanceMethod yX1_copy, Cond.selects RX1 yX1_copy yX1_copy, Cond.initialized RX1, Cond.code yX1_copy cX1_copy 2 none, Cond.fieldLink RX1 9 "SlipBench$Column" "tall" "I", Cond.fieldLink RX1 15 "SlipBench$Column" "water" "I", Cond.fieldLink RX1 18 "SlipBench$Column" "load" "I", Cond.fieldLink RX1 21 "SlipBench$Column" "nails" "I", Cond.fieldLink RX1 24 "SlipBench$Column" "presses" "[I", Cond.methodLink RX1 42 arraycopyName, Cond.native arraycopyName]
def wsX7_standsBehind_r2 : List Cond := [Cond.static arraycopyName, Cond.initialized "java/lang/System", Cond.fieldLink RX1 28 "SlipBench$Column" "holds" "[I", Cond.fieldLink RX1 31 "SlipBench$Column" "reckoned" "Z", Cond.methodLink RX7 215 yX0_doOn, Cond.instanceMethod yX0_doOn, Cond.selects RX0 yX0_doOn yX0_doOn, Cond.initialized RX0, Cond.code yX0_doOn cX0_doOn 5 none, Cond.fieldLink RX0 19 "SlipBench$Acts" "places" "[I", Cond.fieldLink RX0 36 "SlipBench$Ground" "columns" "[LSlipBench$Column;", Cond.fieldLink RX0 22 "SlipBench$Acts" "amounts" "[I", Cond.fieldLink RX0 15 "SlipBench$Acts" "kinds" "[I", Cond.fieldLink RX0 46 "SlipBench$Column" "nails" "I", Cond.methodLink RX0 49 Lib.Math.min.name, Cond.static Lib.Math.min.name, Cond.initialized "java/lang/Math", Cond.code Lib.Math.min.name Lib.Math.min.code 2 (some .int), Cond.fieldLink RX0 59 "SlipBench$Column" "water" "I", Cond.fieldLink RX0 62 "SlipBench$Column" "load" "I", Cond.methodLink RX0 29 yX0_has, Cond.instanceMethod yX0_has, Cond.selects RX0 yX0_has yX0_has, Cond.code yX0_has cX0_has 2 (some .boolean)]
def wsX7_standsBehind_r3 : List Cond := [Cond.fieldLink RX0 9 "SlipBench$Acts" "size" "I", Cond.static yX7_within, Cond.initialized RX7, Cond.code yX7_within cX7_within 3 (some .boolean), Cond.methodLink RX0 33 yX4_has, Cond.instanceMethod yX4_has, Cond.selects RX4 yX4_has yX4_has, Cond.code yX4_has cX4_has 2 (some .boolean), Cond.methodLink RX0 40 yX1_digTo, Cond.instanceMethod yX1_digTo, Cond.selects RX1 yX1_digTo yX1_digTo, Cond.code yX1_digTo cX1_digTo 2 none, Cond.methodLink RX1 48 Lib.Math.min.name, Cond.methodLink RX0 55 yX1_put, Cond.instanceMethod yX1_put, Cond.selects RX1 yX1_put yX1_put, Cond.code yX1_put cX1_put 3 none, Cond.methodLink RX7 205 yX4_reckon, Cond.instanceMethod yX4_reckon, Cond.selects RX4 yX4_reckon yX4_reckon, Cond.code yX4_reckon cX4_reckon 2 none, Cond.methodLink RX4 43 yX1_reckon, Cond.instanceMethod yX1_reckon, Cond.selects RX1 yX1_reckon yX1_reckon]
def wsX7_standsBehind_r4 : List Cond := [Cond.code yX1_reckon cX1_reckon 3 none, Cond.fieldLink RX1 35 "SlipBench$Column" "earths" "LSlipBench$Earths;", Cond.fieldLink RX1 54 "SlipBench$Earths" "weights" "[I", Cond.fieldLink RX1 39 "SlipBench$Column" "cells" "[I", Cond.methodLink RX1 59 yX1_reckonHolds, Cond.instanceMethod yX1_reckonHolds, Cond.selects RX1 yX1_reckonHolds yX1_reckonHolds, Cond.code yX1_reckonHolds cX1_reckonHolds 8 (some .int), Cond.fieldLink RX1 62 "SlipBench$Earths" "rocks" "[Z", Cond.methodLink RX1 66 Lib.Math.max.name, Cond.static Lib.Math.max.name, Cond.code Lib.Math.max.name Lib.Math.max.code 2 (some .int), Cond.fieldLink RX1 69 "SlipBench$Earths" "rubs" "[I", Cond.fieldLink RX1 72 "SlipBench$Earths" "holds" "[I", Cond.methodLink RX7 236 yX6_study, Cond.instanceMethod yX6_study, Cond.selects RX6 yX6_study yX6_study, Cond.initialized RX6, Cond.code yX6_study cX6_study 2 none, Cond.fieldLink RX6 33 "SlipBench$Search" "studied" "LSlipBench$Ground;", Cond.methodLink RX7 253 yX6_stands, Cond.instanceMethod yX6_stands, Cond.selects RX6 yX6_stands yX6_stands, Cond.code yX6_stands cX6_stands 5 (some .boolean)]
def wsX7_standsBehind_r5 : List Cond := [Cond.fieldLink RX6 41 "SlipBench$Ground" "width" "I", Cond.fieldLink RX6 15 "SlipBench$Search" "wholes" "[J", Cond.methodLink RX6 37 yX6_aim, Cond.instanceMethod yX6_aim, Cond.selects RX6 yX6_aim yX6_aim, Cond.code yX6_aim cX6_aim 5 none, Cond.fieldLink RX6 18 "SlipBench$Search" "p" "J", Cond.fieldLink RX6 22 "SlipBench$Search" "q" "J", Cond.methodLink RX6 46 yX6_weigh, Cond.instanceMethod yX6_weigh, Cond.selects RX6 yX6_weigh yX6_weigh, Cond.code yX6_weigh cX6_weigh 5 none, Cond.fieldLink RX6 25 "SlipBench$Search" "last" "I", Cond.fieldLink RX6 29 "SlipBench$Search" "anyEnd" "Z", Cond.fieldLink RX6 9 "SlipBench$Search" "rests" "[J", Cond.fieldLink RX6 90 "SlipBench$Ground" "columns" "[LSlipBench$Column;", Cond.fieldLink RX6 94 "SlipBench$Column" "tall" "I", Cond.methodLink RX6 80 yX6_clearRests, Cond.instanceMethod yX6_clearRests, Cond.selects RX6 yX6_clearRests yX6_clearRests, Cond.code yX6_clearRests cX6_clearRests 3 none, Cond.constantLong RX6 99 (4611686018427387904), Cond.methodLink RX6 84 yX6_allowEnd, Cond.instanceMethod yX6_allowEnd]
def wsX7_standsBehind_r6 : List Cond := [Cond.selects RX6 yX6_allowEnd yX6_allowEnd, Cond.code yX6_allowEnd cX6_allowEnd 3 none, Cond.methodLink RX6 101 Lib.MathLoose.min_long.x, Cond.static Lib.MathLoose.min_long.x, Cond.code Lib.MathLoose.min_long.x Lib.MathLoose.min_long.code 4 (some .long), Cond.methodLink RX6 87 yX6_weighColumn, Cond.instanceMethod yX6_weighColumn, Cond.selects RX6 yX6_weighColumn yX6_weighColumn, Cond.code yX6_weighColumn cX6_weighColumn 10 none, Cond.methodLink RX6 107 yX1_holdsAt, Cond.instanceMethod yX1_holdsAt, Cond.selects RX1 yX1_holdsAt yX1_holdsAt, Cond.code yX1_holdsAt cX1_holdsAt 3 (some .int), Cond.methodLink RX6 111 yX1_drivesFrom, Cond.instanceMethod yX1_drivesFrom, Cond.selects RX1 yX1_drivesFrom yX1_drivesFrom, Cond.code yX1_drivesFrom cX1_drivesFrom 3 (some .int), Cond.methodLink RX6 114 yX6_better, Cond.instanceMethod yX6_better, Cond.selects RX6 yX6_better yX6_better, Cond.code yX6_better cX6_better 8 none, Cond.methodLink RX6 50 yX6_leastStart, Cond.instanceMethod yX6_leastStart, Cond.selects RX6 yX6_leastStart yX6_leastStart]
def wsX7_standsBehind_r7 : List Cond := [Cond.code yX6_leastStart cX6_leastStart 3 (some .int)]
def wsX7_standsBehind : List Cond := .code yX7_standsBehind cX7_standsBehind 5 (some .boolean) :: ((wsX7_standsBehind_r1 ++ (wsX7_standsBehind_r2 ++ (wsX7_standsBehind_r3 ++ (wsX7_standsBehind_r4 ++ (wsX7_standsBehind_r5 ++ (wsX7_standsBehind_r6 ++ wsX7_standsBehind_r7)))))) ++ wsX70 ++ wsX00 ++ wsX40 ++ wsX10 ++ wsX20 ++ wsX60)
def wsX7_leadsOn_r1 : List Cond := [Cond.fieldLink RX7 34 "SlipBench" "acts" "LSlipBench$Acts;", Cond.fieldLink RX7 91 "SlipBench$Acts" "size" "I", Cond.fieldLink RX7 65 "SlipBench" "dead" "[Z", Cond.fieldLink RX7 69 "SlipBench" "tried" "[I", Cond.methodLink RX7 219 yX7_standsBehind, Cond.instanceMethod yX7_standsBehind, Cond.selects RX7 yX7_standsBehind yX7_standsBehind, Cond.initialized RX7, Cond.code yX7_standsBehind cX7_standsBehind 5 (some .boolean), Cond.fieldLink RX7 28 "SlipBench" "trial" "LSlipBench$Ground;", Cond.fieldLink RX7 21 "SlipBench" "ground" "LSlipBench$Ground;", Cond.fieldLink RX7 41 "SlipBench" "search" "LSlipBench$Search;", Cond.methodLink RX7 247 yX4_copy, Cond.instanceMethod yX4_copy, Cond.selects RX4 yX4_copy yX4_copy, Cond.initialized RX4, Cond.code yX4_copy cX4_copy 3 none, Cond.fieldLink RX4 17 "SlipBench$Ground" "width" "I", Cond.fieldLink RX4 11 "SlipBench$Ground" "columns" "[LSlipBench$Column;", Cond.methodLink RX4 39 yX1_copy, Cond.instanceMethod yX1_copy, Cond.selects RX1 yX1_copy yX1_copy, Cond.initialized RX1, Cond.code yX1_copy cX1_copy 2 none]
def wsX7_leadsOn_r2 : List Cond := [Cond.fieldLink RX1 9 "SlipBench$Column" "tall" "I", Cond.fieldLink RX1 15 "SlipBench$Column" "water" "I", Cond.fieldLink RX1 18 "SlipBench$Column" "load" "I", Cond.fieldLink RX1 21 "SlipBench$Column" "nails" "I", Cond.fieldLink RX1 24 "SlipBench$Column" "presses" "[I", Cond.methodLink RX1 42 arraycopyName, Cond.native arraycopyName, Cond.static arraycopyName, Cond.initialized "java/lang/System", Cond.fieldLink RX1 28 "SlipBench$Column" "holds" "[I", Cond.fieldLink RX1 31 "SlipBench$Column" "reckoned" "Z", Cond.methodLink RX7 215 yX0_doOn, Cond.instanceMethod yX0_doOn, Cond.selects RX0 yX0_doOn yX0_doOn, Cond.initialized RX0, Cond.code yX0_doOn cX0_doOn 5 none, Cond.fieldLink RX0 19 "SlipBench$Acts" "places" "[I", Cond.fieldLink RX0 36 "SlipBench$Ground" "columns" "[LSlipBench$Column;", Cond.fieldLink RX0 22 "SlipBench$Acts" "amounts" "[I", Cond.fieldLink RX0 15 "SlipBench$Acts" "kinds" "[I", Cond.fieldLink RX0 46 "SlipBench$Column" "nails" "I", Cond.methodLink RX0 49 Lib.Math.min.name, Cond.static Lib.Math.min.name, Cond.initialized "java/lang/Math"]
def wsX7_leadsOn_r3 : List Cond := [Cond.code Lib.Math.min.name Lib.Math.min.code 2 (some .int), Cond.fieldLink RX0 59 "SlipBench$Column" "water" "I", Cond.fieldLink RX0 62 "SlipBench$Column" "load" "I", Cond.methodLink RX0 29 yX0_has, Cond.instanceMethod yX0_has, Cond.selects RX0 yX0_has yX0_has, Cond.code yX0_has cX0_has 2 (some .boolean), Cond.fieldLink RX0 9 "SlipBench$Acts" "size" "I", Cond.static yX7_within, Cond.code yX7_within cX7_within 3 (some .boolean), Cond.methodLink RX0 33 yX4_has, Cond.instanceMethod yX4_has, Cond.selects RX4 yX4_has yX4_has, Cond.code yX4_has cX4_has 2 (some .boolean), Cond.methodLink RX0 40 yX1_digTo, Cond.instanceMethod yX1_digTo, Cond.selects RX1 yX1_digTo yX1_digTo, Cond.code yX1_digTo cX1_digTo 2 none, Cond.methodLink RX1 48 Lib.Math.min.name, Cond.methodLink RX0 55 yX1_put, Cond.instanceMethod yX1_put, Cond.selects RX1 yX1_put yX1_put, Cond.code yX1_put cX1_put 3 none, Cond.methodLink RX7 205 yX4_reckon]
def wsX7_leadsOn_r4 : List Cond := [Cond.instanceMethod yX4_reckon, Cond.selects RX4 yX4_reckon yX4_reckon, Cond.code yX4_reckon cX4_reckon 2 none, Cond.methodLink RX4 43 yX1_reckon, Cond.instanceMethod yX1_reckon, Cond.selects RX1 yX1_reckon yX1_reckon, Cond.code yX1_reckon cX1_reckon 3 none, Cond.fieldLink RX1 35 "SlipBench$Column" "earths" "LSlipBench$Earths;", Cond.fieldLink RX1 54 "SlipBench$Earths" "weights" "[I", Cond.fieldLink RX1 39 "SlipBench$Column" "cells" "[I", Cond.methodLink RX1 59 yX1_reckonHolds, Cond.instanceMethod yX1_reckonHolds, Cond.selects RX1 yX1_reckonHolds yX1_reckonHolds, Cond.code yX1_reckonHolds cX1_reckonHolds 8 (some .int), Cond.fieldLink RX1 62 "SlipBench$Earths" "rocks" "[Z", Cond.methodLink RX1 66 Lib.Math.max.name, Cond.static Lib.Math.max.name, Cond.code Lib.Math.max.name Lib.Math.max.code 2 (some .int), Cond.fieldLink RX1 69 "SlipBench$Earths" "rubs" "[I", Cond.fieldLink RX1 72 "SlipBench$Earths" "holds" "[I", Cond.methodLink RX7 236 yX6_study, Cond.instanceMethod yX6_study, Cond.selects RX6 yX6_study yX6_study, Cond.initialized RX6]
def wsX7_leadsOn_r5 : List Cond := [Cond.code yX6_study cX6_study 2 none, Cond.fieldLink RX6 33 "SlipBench$Search" "studied" "LSlipBench$Ground;", Cond.methodLink RX7 253 yX6_stands, Cond.instanceMethod yX6_stands, Cond.selects RX6 yX6_stands yX6_stands, Cond.code yX6_stands cX6_stands 5 (some .boolean), Cond.fieldLink RX6 41 "SlipBench$Ground" "width" "I", Cond.fieldLink RX6 15 "SlipBench$Search" "wholes" "[J", Cond.methodLink RX6 37 yX6_aim, Cond.instanceMethod yX6_aim, Cond.selects RX6 yX6_aim yX6_aim, Cond.code yX6_aim cX6_aim 5 none, Cond.fieldLink RX6 18 "SlipBench$Search" "p" "J", Cond.fieldLink RX6 22 "SlipBench$Search" "q" "J", Cond.methodLink RX6 46 yX6_weigh, Cond.instanceMethod yX6_weigh, Cond.selects RX6 yX6_weigh yX6_weigh, Cond.code yX6_weigh cX6_weigh 5 none, Cond.fieldLink RX6 25 "SlipBench$Search" "last" "I", Cond.fieldLink RX6 29 "SlipBench$Search" "anyEnd" "Z", Cond.fieldLink RX6 9 "SlipBench$Search" "rests" "[J", Cond.fieldLink RX6 90 "SlipBench$Ground" "columns" "[LSlipBench$Column;", Cond.fieldLink RX6 94 "SlipBench$Column" "tall" "I", Cond.methodLink RX6 80 yX6_clearRests]
def wsX7_leadsOn_r6 : List Cond := [Cond.instanceMethod yX6_clearRests, Cond.selects RX6 yX6_clearRests yX6_clearRests, Cond.code yX6_clearRests cX6_clearRests 3 none, Cond.constantLong RX6 99 (4611686018427387904), Cond.methodLink RX6 84 yX6_allowEnd, Cond.instanceMethod yX6_allowEnd, Cond.selects RX6 yX6_allowEnd yX6_allowEnd, Cond.code yX6_allowEnd cX6_allowEnd 3 none, Cond.methodLink RX6 101 Lib.MathLoose.min_long.x, Cond.static Lib.MathLoose.min_long.x, Cond.code Lib.MathLoose.min_long.x Lib.MathLoose.min_long.code 4 (some .long), Cond.methodLink RX6 87 yX6_weighColumn, Cond.instanceMethod yX6_weighColumn, Cond.selects RX6 yX6_weighColumn yX6_weighColumn, Cond.code yX6_weighColumn cX6_weighColumn 10 none, Cond.methodLink RX6 107 yX1_holdsAt, Cond.instanceMethod yX1_holdsAt, Cond.selects RX1 yX1_holdsAt yX1_holdsAt, Cond.code yX1_holdsAt cX1_holdsAt 3 (some .int), Cond.methodLink RX6 111 yX1_drivesFrom, Cond.instanceMethod yX1_drivesFrom, Cond.selects RX1 yX1_drivesFrom yX1_drivesFrom, Cond.code yX1_drivesFrom cX1_drivesFrom 3 (some .int), Cond.methodLink RX6 114 yX6_better]
def wsX7_leadsOn_r7 : List Cond := [Cond.instanceMethod yX6_better, Cond.selects RX6 yX6_better yX6_better, Cond.code yX6_better cX6_better 8 none, Cond.methodLink RX6 50 yX6_leastStart, Cond.instanceMethod yX6_leastStart, Cond.selects RX6 yX6_leastStart yX6_leastStart, Cond.code yX6_leastStart cX6_leastStart 3 (some .int), Cond.methodLink RX7 222 yX7_leadsOn, Cond.instanceMethod yX7_leadsOn, Cond.selects RX7 yX7_leadsOn yX7_leadsOn]
def wsX7_leadsOn : List Cond := .code yX7_leadsOn cX7_leadsOn 8 (some .boolean) :: ((wsX7_leadsOn_r1 ++ (wsX7_leadsOn_r2 ++ (wsX7_leadsOn_r3 ++ (wsX7_leadsOn_r4 ++ (wsX7_leadsOn_r5 ++ (wsX7_leadsOn_r6 ++ wsX7_leadsOn_r7)))))) ++ wsX70 ++ wsX00 ++ wsX40 ++ wsX10 ++ wsX20 ++ wsX60)
def wsX7_order_r1 : List Cond := [Cond.fieldLink RX7 21 "SlipBench" "ground" "LSlipBench$Ground;", Cond.fieldLink RX7 34 "SlipBench" "acts" "LSlipBench$Acts;", Cond.fieldLink RX7 91 "SlipBench$Acts" "size" "I", Cond.fieldLink RX7 65 "SlipBench" "dead" "[Z", Cond.fieldLink RX7 69 "SlipBench" "tried" "[I", Cond.fieldLink RX7 73 "SlipBench" "steps" "[I", Cond.methodLink RX7 226 arraycopyName, Cond.native arraycopyName, Cond.static arraycopyName, Cond.initialized "java/lang/System", Cond.fieldLink RX7 76 "SlipBench" "stepCount" "I", Cond.methodLink RX7 201 yX7_isRatio, Cond.static yX7_isRatio, Cond.initialized RX7, Cond.code yX7_isRatio cX7_isRatio 2 (some .boolean), Cond.methodLink RX7 97 yX7_within, Cond.static yX7_within, Cond.code yX7_within cX7_within 3 (some .boolean), Cond.methodLink RX7 205 yX4_reckon, Cond.instanceMethod yX4_reckon, Cond.selects RX4 yX4_reckon yX4_reckon, Cond.initialized RX4, Cond.code yX4_reckon cX4_reckon 2 none, Cond.fieldLink RX4 17 "SlipBench$Ground" "width" "I"]
def wsX7_order_r2 : List Cond := [Cond.fieldLink RX4 11 "SlipBench$Ground" "columns" "[LSlipBench$Column;", Cond.methodLink RX4 43 yX1_reckon, Cond.instanceMethod yX1_reckon, Cond.selects RX1 yX1_reckon yX1_reckon, Cond.initialized RX1, Cond.code yX1_reckon cX1_reckon 3 none, Cond.fieldLink RX1 31 "SlipBench$Column" "reckoned" "Z", Cond.fieldLink RX1 24 "SlipBench$Column" "presses" "[I", Cond.fieldLink RX1 9 "SlipBench$Column" "tall" "I", Cond.fieldLink RX1 18 "SlipBench$Column" "load" "I", Cond.fieldLink RX1 35 "SlipBench$Column" "earths" "LSlipBench$Earths;", Cond.fieldLink RX1 54 "SlipBench$Earths" "weights" "[I", Cond.fieldLink RX1 39 "SlipBench$Column" "cells" "[I", Cond.fieldLink RX1 28 "SlipBench$Column" "holds" "[I", Cond.methodLink RX1 59 yX1_reckonHolds, Cond.instanceMethod yX1_reckonHolds, Cond.selects RX1 yX1_reckonHolds yX1_reckonHolds, Cond.code yX1_reckonHolds cX1_reckonHolds 8 (some .int), Cond.fieldLink RX1 62 "SlipBench$Earths" "rocks" "[Z", Cond.fieldLink RX1 15 "SlipBench$Column" "water" "I", Cond.methodLink RX1 66 Lib.Math.max.name, Cond.static Lib.Math.max.name, Cond.initialized "java/lang/Math", Cond.code Lib.Math.max.name Lib.Math.max.code 2 (some .int)]
def wsX7_order_r3 : List Cond := [Cond.fieldLink RX1 69 "SlipBench$Earths" "rubs" "[I", Cond.fieldLink RX1 72 "SlipBench$Earths" "holds" "[I", Cond.fieldLink RX1 21 "SlipBench$Column" "nails" "I", Cond.methodLink RX7 219 yX7_standsBehind, Cond.instanceMethod yX7_standsBehind, Cond.selects RX7 yX7_standsBehind yX7_standsBehind, Cond.code yX7_standsBehind cX7_standsBehind 5 (some .boolean), Cond.fieldLink RX7 28 "SlipBench" "trial" "LSlipBench$Ground;", Cond.fieldLink RX7 41 "SlipBench" "search" "LSlipBench$Search;", Cond.methodLink RX7 247 yX4_copy, Cond.instanceMethod yX4_copy, Cond.selects RX4 yX4_copy yX4_copy, Cond.code yX4_copy cX4_copy 3 none, Cond.methodLink RX4 39 yX1_copy, Cond.instanceMethod yX1_copy, Cond.selects RX1 yX1_copy yX1_copy, Cond.code yX1_copy cX1_copy 2 none, Cond.methodLink RX1 42 arraycopyName, Cond.methodLink RX7 215 yX0_doOn, Cond.instanceMethod yX0_doOn, Cond.selects RX0 yX0_doOn yX0_doOn, Cond.initialized RX0, Cond.code yX0_doOn cX0_doOn 5 none, Cond.fieldLink RX0 19 "SlipBench$Acts" "places" "[I"]
def wsX7_order_r4 : List Cond := [Cond.fieldLink RX0 36 "SlipBench$Ground" "columns" "[LSlipBench$Column;", Cond.fieldLink RX0 22 "SlipBench$Acts" "amounts" "[I", Cond.fieldLink RX0 15 "SlipBench$Acts" "kinds" "[I", Cond.fieldLink RX0 46 "SlipBench$Column" "nails" "I", Cond.methodLink RX0 49 Lib.Math.min.name, Cond.static Lib.Math.min.name, Cond.code Lib.Math.min.name Lib.Math.min.code 2 (some .int), Cond.fieldLink RX0 59 "SlipBench$Column" "water" "I", Cond.fieldLink RX0 62 "SlipBench$Column" "load" "I", Cond.methodLink RX0 29 yX0_has, Cond.instanceMethod yX0_has, Cond.selects RX0 yX0_has yX0_has, Cond.code yX0_has cX0_has 2 (some .boolean), Cond.fieldLink RX0 9 "SlipBench$Acts" "size" "I", Cond.methodLink RX0 33 yX4_has, Cond.instanceMethod yX4_has, Cond.selects RX4 yX4_has yX4_has, Cond.code yX4_has cX4_has 2 (some .boolean), Cond.methodLink RX0 40 yX1_digTo, Cond.instanceMethod yX1_digTo, Cond.selects RX1 yX1_digTo yX1_digTo, Cond.code yX1_digTo cX1_digTo 2 none, Cond.methodLink RX1 48 Lib.Math.min.name, Cond.methodLink RX0 55 yX1_put]
def wsX7_order_r5 : List Cond := [Cond.instanceMethod yX1_put, Cond.selects RX1 yX1_put yX1_put, Cond.code yX1_put cX1_put 3 none, Cond.methodLink RX7 236 yX6_study, Cond.instanceMethod yX6_study, Cond.selects RX6 yX6_study yX6_study, Cond.initialized RX6, Cond.code yX6_study cX6_study 2 none, Cond.fieldLink RX6 33 "SlipBench$Search" "studied" "LSlipBench$Ground;", Cond.methodLink RX7 253 yX6_stands, Cond.instanceMethod yX6_stands, Cond.selects RX6 yX6_stands yX6_stands, Cond.code yX6_stands cX6_stands 5 (some .boolean), Cond.fieldLink RX6 41 "SlipBench$Ground" "width" "I", Cond.fieldLink RX6 15 "SlipBench$Search" "wholes" "[J", Cond.methodLink RX6 37 yX6_aim, Cond.instanceMethod yX6_aim, Cond.selects RX6 yX6_aim yX6_aim, Cond.code yX6_aim cX6_aim 5 none, Cond.fieldLink RX6 18 "SlipBench$Search" "p" "J", Cond.fieldLink RX6 22 "SlipBench$Search" "q" "J", Cond.methodLink RX6 46 yX6_weigh, Cond.instanceMethod yX6_weigh, Cond.selects RX6 yX6_weigh yX6_weigh]
def wsX7_order_r6 : List Cond := [Cond.code yX6_weigh cX6_weigh 5 none, Cond.fieldLink RX6 25 "SlipBench$Search" "last" "I", Cond.fieldLink RX6 29 "SlipBench$Search" "anyEnd" "Z", Cond.fieldLink RX6 9 "SlipBench$Search" "rests" "[J", Cond.fieldLink RX6 90 "SlipBench$Ground" "columns" "[LSlipBench$Column;", Cond.fieldLink RX6 94 "SlipBench$Column" "tall" "I", Cond.methodLink RX6 80 yX6_clearRests, Cond.instanceMethod yX6_clearRests, Cond.selects RX6 yX6_clearRests yX6_clearRests, Cond.code yX6_clearRests cX6_clearRests 3 none, Cond.constantLong RX6 99 (4611686018427387904), Cond.methodLink RX6 84 yX6_allowEnd, Cond.instanceMethod yX6_allowEnd, Cond.selects RX6 yX6_allowEnd yX6_allowEnd, Cond.code yX6_allowEnd cX6_allowEnd 3 none, Cond.methodLink RX6 101 Lib.MathLoose.min_long.x, Cond.static Lib.MathLoose.min_long.x, Cond.code Lib.MathLoose.min_long.x Lib.MathLoose.min_long.code 4 (some .long), Cond.methodLink RX6 87 yX6_weighColumn, Cond.instanceMethod yX6_weighColumn, Cond.selects RX6 yX6_weighColumn yX6_weighColumn, Cond.code yX6_weighColumn cX6_weighColumn 10 none, Cond.methodLink RX6 107 yX1_holdsAt, Cond.instanceMethod yX1_holdsAt]
def wsX7_order_r7 : List Cond := [Cond.selects RX1 yX1_holdsAt yX1_holdsAt, Cond.code yX1_holdsAt cX1_holdsAt 3 (some .int), Cond.methodLink RX6 111 yX1_drivesFrom, Cond.instanceMethod yX1_drivesFrom, Cond.selects RX1 yX1_drivesFrom yX1_drivesFrom, Cond.code yX1_drivesFrom cX1_drivesFrom 3 (some .int), Cond.methodLink RX6 114 yX6_better, Cond.instanceMethod yX6_better, Cond.selects RX6 yX6_better yX6_better, Cond.code yX6_better cX6_better 8 none, Cond.methodLink RX6 50 yX6_leastStart, Cond.instanceMethod yX6_leastStart, Cond.selects RX6 yX6_leastStart yX6_leastStart, Cond.code yX6_leastStart cX6_leastStart 3 (some .int), Cond.methodLink RX7 222 yX7_leadsOn, Cond.instanceMethod yX7_leadsOn, Cond.selects RX7 yX7_leadsOn yX7_leadsOn, Cond.code yX7_leadsOn cX7_leadsOn 8 (some .boolean)]
def wsX7_order : List Cond := .code yX7_order cX7_order 5 (some .int) :: ((wsX7_order_r1 ++ (wsX7_order_r2 ++ (wsX7_order_r3 ++ (wsX7_order_r4 ++ (wsX7_order_r5 ++ (wsX7_order_r6 ++ wsX7_order_r7)))))) ++ wsX70 ++ wsX00 ++ wsX40 ++ wsX10 ++ wsX20 ++ wsX60)
def wsX7_step : List Cond := .code yX7_step cX7_step 2 (some .int) :: ([.fieldLink RX7 76 "SlipBench" "stepCount" "I", .fieldLink RX7 73 "SlipBench" "steps" "[I", .methodLink RX7 97 yX7_within, .static yX7_within, .initialized RX7, .code yX7_within cX7_within 3 (some .boolean)] ++ wsX70)
def wsX7_count : List Cond := .code yX7_count cX7_count 2 (some .int) :: ([.fieldLink RX7 21 "SlipBench" "ground" "LSlipBench$Ground;", .fieldLink RX7 158 "SlipBench$Ground" "width" "I", .fieldLink RX7 12 "SlipBench" "earths" "LSlipBench$Earths;", .fieldLink RX7 232 "SlipBench$Earths" "size" "I", .fieldLink RX7 34 "SlipBench" "acts" "LSlipBench$Acts;", .fieldLink RX7 91 "SlipBench$Acts" "size" "I", .methodLink RX7 233 yX4_cellCount, .instanceMethod yX4_cellCount, .selects RX4 yX4_cellCount yX4_cellCount, .initialized RX4, .code yX4_cellCount cX4_cellCount 3 (some .int), .fieldLink RX4 17 "SlipBench$Ground" "width" "I", .fieldLink RX4 11 "SlipBench$Ground" "columns" "[LSlipBench$Column;", .fieldLink RX4 59 "SlipBench$Column" "tall" "I"] ++ wsX70 ++ wsX40 ++ wsX20 ++ wsX00 ++ wsX10)
def wsX8_init_r1 : List Cond := [Cond.methodLink RX8 1 objectInit, Cond.instanceMethod objectInit, Cond.code objectInit ⟨#[0xb1]⟩ 1 none, Cond.fieldLink RX8 7 "SlipBenchModel" "width" "I", Cond.arrayClass .int, Cond.fieldLink RX8 13 "SlipBenchModel" "weight" "[I", Cond.fieldLink RX8 17 "SlipBenchModel" "hold" "[I", Cond.fieldLink RX8 20 "SlipBenchModel" "rub" "[I", Cond.arrayClass .boolean, Cond.fieldLink RX8 23 "SlipBenchModel" "rock" "[Z", Cond.fieldLink RX8 27 "SlipBenchModel" "cells" "[I", Cond.fieldLink RX8 30 "SlipBenchModel" "heights" "[I", Cond.fieldLink RX8 33 "SlipBenchModel" "waters" "[I", Cond.fieldLink RX8 36 "SlipBenchModel" "loads" "[I", Cond.fieldLink RX8 39 "SlipBenchModel" "nails" "[I", Cond.fieldLink RX8 42 "SlipBenchModel" "actKind" "[I", Cond.fieldLink RX8 45 "SlipBenchModel" "actColumn" "[I", Cond.fieldLink RX8 48 "SlipBenchModel" "actN" "[I", Cond.fieldLink RX8 51 "SlipBenchModel" "lineFrom" "I", Cond.fieldLink RX8 54 "SlipBenchModel" "line" "[I", Cond.arrayClass .long, Cond.fieldLink RX8 57 "SlipBenchModel" "sum" "[J", Cond.fieldLink RX8 61 "SlipBenchModel" "drove" "[J", Cond.fieldLink RX8 64 "SlipBenchModel" "held" "[J"]
def wsX8_init_r2 : List Cond := [Cond.fieldLink RX8 67 "SlipBenchModel" "way" "[I", Cond.fieldLink RX8 70 "SlipBenchModel" "row" "[I", Cond.fieldLink RX8 73 "SlipBenchModel" "steps" "[I"]
def wsX8_init : List Cond := .code yX8_init cX8_init 1 none :: ((wsX8_init_r1 ++ wsX8_init_r2) ++ wsX80)
def wsX8_ground : List Cond := .code yX8_ground cX8_ground 3 (some .boolean) :: ([.fieldLink RX8 76 "SlipBenchModel" "thrown" "I", .fieldLink RX8 7 "SlipBenchModel" "width" "I", .fieldLink RX8 30 "SlipBenchModel" "heights" "[I", .fieldLink RX8 33 "SlipBenchModel" "waters" "[I", .fieldLink RX8 36 "SlipBenchModel" "loads" "[I", .fieldLink RX8 39 "SlipBenchModel" "nails" "[I", .fieldLink RX8 79 "SlipBenchModel" "acts" "I", .fieldLink RX8 51 "SlipBenchModel" "lineFrom" "I", .fieldLink RX8 82 "SlipBenchModel" "lineMany" "I"] ++ wsX80)
def wsX8_earth : List Cond := .code yX8_earth cX8_earth 5 (some .int) :: ([.fieldLink RX8 76 "SlipBenchModel" "thrown" "I", .fieldLink RX8 85 "SlipBenchModel" "earths" "I", .fieldLink RX8 13 "SlipBenchModel" "weight" "[I", .fieldLink RX8 17 "SlipBenchModel" "hold" "[I", .fieldLink RX8 20 "SlipBenchModel" "rub" "[I", .fieldLink RX8 23 "SlipBenchModel" "rock" "[Z"] ++ wsX80)
def wsX8_isColumn : List Cond := .code yX8_isColumn cX8_isColumn 2 (some .boolean) :: ([.fieldLink RX8 7 "SlipBenchModel" "width" "I"] ++ wsX80)
def wsX8_lay : List Cond := .code yX8_lay cX8_lay 5 (some .int) :: ([.fieldLink RX8 76 "SlipBenchModel" "thrown" "I", .fieldLink RX8 85 "SlipBenchModel" "earths" "I", .fieldLink RX8 30 "SlipBenchModel" "heights" "[I", .fieldLink RX8 27 "SlipBenchModel" "cells" "[I", .methodLink RX8 88 yX8_isColumn, .instanceMethod yX8_isColumn, .selects RX8 yX8_isColumn yX8_isColumn, .initialized RX8, .code yX8_isColumn cX8_isColumn 2 (some .boolean), .fieldLink RX8 7 "SlipBenchModel" "width" "I"] ++ wsX80)
def wsX8_set : List Cond := .code yX8_set cX8_set 4 (some .boolean) :: ([.fieldLink RX8 76 "SlipBenchModel" "thrown" "I", .fieldLink RX8 33 "SlipBenchModel" "waters" "[I", .fieldLink RX8 36 "SlipBenchModel" "loads" "[I", .fieldLink RX8 39 "SlipBenchModel" "nails" "[I", .methodLink RX8 88 yX8_isColumn, .instanceMethod yX8_isColumn, .selects RX8 yX8_isColumn yX8_isColumn, .initialized RX8, .code yX8_isColumn cX8_isColumn 2 (some .boolean), .fieldLink RX8 7 "SlipBenchModel" "width" "I"] ++ wsX80)
def wsX8_fails : List Cond := .code yX8_fails cX8_fails 2 (some .int) :: ([.fieldLink RX8 76 "SlipBenchModel" "thrown" "I"] ++ wsX80)
def wsX8_look : List Cond := .code yX8_look cX8_look 3 (some .int) :: ([.fieldLink RX8 76 "SlipBenchModel" "thrown" "I", .fieldLink RX8 33 "SlipBenchModel" "waters" "[I", .fieldLink RX8 36 "SlipBenchModel" "loads" "[I", .fieldLink RX8 39 "SlipBenchModel" "nails" "[I", .fieldLink RX8 30 "SlipBenchModel" "heights" "[I", .methodLink RX8 88 yX8_isColumn, .instanceMethod yX8_isColumn, .selects RX8 yX8_isColumn yX8_isColumn, .initialized RX8, .code yX8_isColumn cX8_isColumn 2 (some .boolean), .fieldLink RX8 7 "SlipBenchModel" "width" "I", .methodLink RX8 92 yX8_fails, .instanceMethod yX8_fails, .selects RX8 yX8_fails yX8_fails, .code yX8_fails cX8_fails 2 (some .int)] ++ wsX80)
def wsX8_cell : List Cond := .code yX8_cell cX8_cell 3 (some .int) :: ([.fieldLink RX8 76 "SlipBenchModel" "thrown" "I", .fieldLink RX8 30 "SlipBenchModel" "heights" "[I", .fieldLink RX8 27 "SlipBenchModel" "cells" "[I", .methodLink RX8 88 yX8_isColumn, .instanceMethod yX8_isColumn, .selects RX8 yX8_isColumn yX8_isColumn, .initialized RX8, .code yX8_isColumn cX8_isColumn 2 (some .boolean), .fieldLink RX8 7 "SlipBenchModel" "width" "I"] ++ wsX80)
def wsX8_can : List Cond := .code yX8_can cX8_can 6 (some .boolean) :: ([.fieldLink RX8 30 "SlipBenchModel" "heights" "[I", .fieldLink RX8 96 "SlipBenchModel" "base" "I", .fieldLink RX8 23 "SlipBenchModel" "rock" "[Z", .fieldLink RX8 27 "SlipBenchModel" "cells" "[I"] ++ wsX80)
def wsX8_press : List Cond := .code yX8_press cX8_press 5 (some .int) :: ([.fieldLink RX8 36 "SlipBenchModel" "loads" "[I", .fieldLink RX8 96 "SlipBenchModel" "base" "I", .fieldLink RX8 30 "SlipBenchModel" "heights" "[I", .fieldLink RX8 13 "SlipBenchModel" "weight" "[I", .fieldLink RX8 27 "SlipBenchModel" "cells" "[I"] ++ wsX80)
def wsX8_holds : List Cond := .code yX8_holds cX8_holds 10 (some .long) :: ([.fieldLink RX8 33 "SlipBenchModel" "waters" "[I", .fieldLink RX8 96 "SlipBenchModel" "base" "I", .fieldLink RX8 27 "SlipBenchModel" "cells" "[I", .constantLong RX8 103 (10), .fieldLink RX8 17 "SlipBenchModel" "hold" "[I", .fieldLink RX8 20 "SlipBenchModel" "rub" "[I", .fieldLink RX8 39 "SlipBenchModel" "nails" "[I", .methodLink RX8 99 yX8_press, .instanceMethod yX8_press, .selects RX8 yX8_press yX8_press, .initialized RX8, .code yX8_press cX8_press 5 (some .int), .fieldLink RX8 36 "SlipBenchModel" "loads" "[I", .fieldLink RX8 30 "SlipBenchModel" "heights" "[I", .fieldLink RX8 13 "SlipBenchModel" "weight" "[I"] ++ wsX80)
def wsX8_drives : List Cond := .code yX8_drives cX8_drives 4 (some .long) :: ([.constantLong RX8 103 (10), .methodLink RX8 99 yX8_press, .instanceMethod yX8_press, .selects RX8 yX8_press yX8_press, .initialized RX8, .code yX8_press cX8_press 5 (some .int), .fieldLink RX8 36 "SlipBenchModel" "loads" "[I", .fieldLink RX8 96 "SlipBenchModel" "base" "I", .fieldLink RX8 30 "SlipBenchModel" "heights" "[I", .fieldLink RX8 13 "SlipBenchModel" "weight" "[I", .fieldLink RX8 27 "SlipBenchModel" "cells" "[I"] ++ wsX80)
def wsX8_begin : List Cond := .code yX8_begin cX8_begin 3 (some .boolean) :: ([.fieldLink RX8 76 "SlipBenchModel" "thrown" "I", .fieldLink RX8 51 "SlipBenchModel" "lineFrom" "I", .fieldLink RX8 82 "SlipBenchModel" "lineMany" "I", .fieldLink RX8 54 "SlipBenchModel" "line" "[I", .methodLink RX8 88 yX8_isColumn, .instanceMethod yX8_isColumn, .selects RX8 yX8_isColumn yX8_isColumn, .initialized RX8, .code yX8_isColumn cX8_isColumn 2 (some .boolean), .fieldLink RX8 7 "SlipBenchModel" "width" "I"] ++ wsX80)
def wsX8_next : List Cond := .code yX8_next cX8_next 2 (some .int) :: ([.fieldLink RX8 76 "SlipBenchModel" "thrown" "I", .fieldLink RX8 51 "SlipBenchModel" "lineFrom" "I", .fieldLink RX8 82 "SlipBenchModel" "lineMany" "I", .fieldLink RX8 7 "SlipBenchModel" "width" "I", .fieldLink RX8 54 "SlipBenchModel" "line" "[I"] ++ wsX80)
def wsX8_isLine : List Cond := .code yX8_isLine cX8_isLine 2 (some .boolean) :: ([.fieldLink RX8 51 "SlipBenchModel" "lineFrom" "I", .fieldLink RX8 82 "SlipBenchModel" "lineMany" "I", .fieldLink RX8 54 "SlipBenchModel" "line" "[I", .fieldLink RX8 30 "SlipBenchModel" "heights" "[I", .methodLink RX8 105 yX8_can, .instanceMethod yX8_can, .selects RX8 yX8_can yX8_can, .initialized RX8, .code yX8_can cX8_can 6 (some .boolean), .fieldLink RX8 96 "SlipBenchModel" "base" "I", .fieldLink RX8 23 "SlipBenchModel" "rock" "[Z", .fieldLink RX8 27 "SlipBenchModel" "cells" "[I"] ++ wsX80)
def wsX8_line : List Cond := .code yX8_line cX8_line 1 (some .int) :: ([.fieldLink RX8 76 "SlipBenchModel" "thrown" "I", .methodLink RX8 109 yX8_isLine, .instanceMethod yX8_isLine, .selects RX8 yX8_isLine yX8_isLine, .initialized RX8, .code yX8_isLine cX8_isLine 2 (some .boolean), .fieldLink RX8 51 "SlipBenchModel" "lineFrom" "I", .fieldLink RX8 82 "SlipBenchModel" "lineMany" "I", .fieldLink RX8 54 "SlipBenchModel" "line" "[I", .fieldLink RX8 30 "SlipBenchModel" "heights" "[I", .methodLink RX8 105 yX8_can, .instanceMethod yX8_can, .selects RX8 yX8_can yX8_can, .code yX8_can cX8_can 6 (some .boolean), .fieldLink RX8 96 "SlipBenchModel" "base" "I", .fieldLink RX8 23 "SlipBenchModel" "rock" "[Z", .fieldLink RX8 27 "SlipBenchModel" "cells" "[I"] ++ wsX80)
def wsX8_divisor : List Cond := .code yX8_divisor cX8_divisor 10 (some .long) :: ([])
def wsX8_share_r1 : List Cond := [Cond.fieldLink RX8 76 "SlipBenchModel" "thrown" "I", Cond.fieldLink RX8 82 "SlipBenchModel" "lineMany" "I", Cond.fieldLink RX8 51 "SlipBenchModel" "lineFrom" "I", Cond.fieldLink RX8 54 "SlipBenchModel" "line" "[I", Cond.methodLink RX8 109 yX8_isLine, Cond.instanceMethod yX8_isLine, Cond.selects RX8 yX8_isLine yX8_isLine, Cond.initialized RX8, Cond.code yX8_isLine cX8_isLine 2 (some .boolean), Cond.fieldLink RX8 30 "SlipBenchModel" "heights" "[I", Cond.methodLink RX8 105 yX8_can, Cond.instanceMethod yX8_can, Cond.selects RX8 yX8_can yX8_can, Cond.code yX8_can cX8_can 6 (some .boolean), Cond.fieldLink RX8 96 "SlipBenchModel" "base" "I", Cond.fieldLink RX8 23 "SlipBenchModel" "rock" "[Z", Cond.fieldLink RX8 27 "SlipBenchModel" "cells" "[I", Cond.methodLink RX8 92 yX8_fails, Cond.instanceMethod yX8_fails, Cond.selects RX8 yX8_fails yX8_fails, Cond.code yX8_fails cX8_fails 2 (some .int), Cond.methodLink RX8 113 yX8_holds, Cond.instanceMethod yX8_holds, Cond.selects RX8 yX8_holds yX8_holds]
def wsX8_share_r2 : List Cond := [Cond.code yX8_holds cX8_holds 10 (some .long), Cond.fieldLink RX8 33 "SlipBenchModel" "waters" "[I", Cond.constantLong RX8 103 (10), Cond.fieldLink RX8 17 "SlipBenchModel" "hold" "[I", Cond.fieldLink RX8 20 "SlipBenchModel" "rub" "[I", Cond.fieldLink RX8 39 "SlipBenchModel" "nails" "[I", Cond.methodLink RX8 99 yX8_press, Cond.instanceMethod yX8_press, Cond.selects RX8 yX8_press yX8_press, Cond.code yX8_press cX8_press 5 (some .int), Cond.fieldLink RX8 36 "SlipBenchModel" "loads" "[I", Cond.fieldLink RX8 13 "SlipBenchModel" "weight" "[I", Cond.methodLink RX8 117 yX8_drives, Cond.instanceMethod yX8_drives, Cond.selects RX8 yX8_drives yX8_drives, Cond.code yX8_drives cX8_drives 4 (some .long), Cond.methodLink RX8 120 yX8_divisor, Cond.static yX8_divisor, Cond.code yX8_divisor cX8_divisor 10 (some .long)]
def wsX8_share : List Cond := .code yX8_share cX8_share 8 (some .long) :: ((wsX8_share_r1 ++ wsX8_share_r2) ++ wsX80)
def wsX8_better : List Cond := .code yX8_better cX8_better 8 (some .boolean) :: ([])
def wsX8_walk_r1 : List Cond := [Cond.constantLong RX8 124 (1152921504606846976), Cond.fieldLink RX8 126 "SlipBenchModel" "bestSum" "J", Cond.fieldLink RX8 130 "SlipBenchModel" "bestDrive" "J", Cond.fieldLink RX8 7 "SlipBenchModel" "width" "I", Cond.fieldLink RX8 57 "SlipBenchModel" "sum" "[J", Cond.fieldLink RX8 30 "SlipBenchModel" "heights" "[I", Cond.fieldLink RX8 96 "SlipBenchModel" "base" "I", Cond.fieldLink RX8 61 "SlipBenchModel" "drove" "[J", Cond.fieldLink RX8 64 "SlipBenchModel" "held" "[J", Cond.fieldLink RX8 137 "SlipBenchModel" "bestHold" "J", Cond.methodLink RX8 133 yX8_better, Cond.static yX8_better, Cond.initialized RX8, Cond.code yX8_better cX8_better 8 (some .boolean), Cond.methodLink RX8 105 yX8_can, Cond.instanceMethod yX8_can, Cond.selects RX8 yX8_can yX8_can, Cond.code yX8_can cX8_can 6 (some .boolean), Cond.fieldLink RX8 23 "SlipBenchModel" "rock" "[Z", Cond.fieldLink RX8 27 "SlipBenchModel" "cells" "[I", Cond.methodLink RX8 113 yX8_holds, Cond.instanceMethod yX8_holds, Cond.selects RX8 yX8_holds yX8_holds, Cond.code yX8_holds cX8_holds 10 (some .long)]
def wsX8_walk_r2 : List Cond := [Cond.fieldLink RX8 33 "SlipBenchModel" "waters" "[I", Cond.constantLong RX8 103 (10), Cond.fieldLink RX8 17 "SlipBenchModel" "hold" "[I", Cond.fieldLink RX8 20 "SlipBenchModel" "rub" "[I", Cond.fieldLink RX8 39 "SlipBenchModel" "nails" "[I", Cond.methodLink RX8 99 yX8_press, Cond.instanceMethod yX8_press, Cond.selects RX8 yX8_press yX8_press, Cond.code yX8_press cX8_press 5 (some .int), Cond.fieldLink RX8 36 "SlipBenchModel" "loads" "[I", Cond.fieldLink RX8 13 "SlipBenchModel" "weight" "[I", Cond.methodLink RX8 117 yX8_drives, Cond.instanceMethod yX8_drives, Cond.selects RX8 yX8_drives yX8_drives, Cond.code yX8_drives cX8_drives 4 (some .long)]
def wsX8_walk : List Cond := .code yX8_walk cX8_walk 20 none :: ((wsX8_walk_r1 ++ wsX8_walk_r2) ++ wsX80)
def wsX8_findWorst_r1 : List Cond := [Cond.fieldLink RX8 126 "SlipBenchModel" "bestSum" "J", Cond.constantLong RX8 124 (1152921504606846976), Cond.fieldLink RX8 130 "SlipBenchModel" "bestDrive" "J", Cond.fieldLink RX8 144 "SlipBenchModel" "isWorst" "Z", Cond.fieldLink RX8 137 "SlipBenchModel" "bestHold" "J", Cond.fieldLink RX8 148 "SlipBenchModel" "up" "J", Cond.fieldLink RX8 151 "SlipBenchModel" "low" "J", Cond.methodLink RX8 140 yX8_walk, Cond.instanceMethod yX8_walk, Cond.selects RX8 yX8_walk yX8_walk, Cond.initialized RX8, Cond.code yX8_walk cX8_walk 20 none, Cond.fieldLink RX8 7 "SlipBenchModel" "width" "I", Cond.fieldLink RX8 57 "SlipBenchModel" "sum" "[J", Cond.fieldLink RX8 30 "SlipBenchModel" "heights" "[I", Cond.fieldLink RX8 96 "SlipBenchModel" "base" "I", Cond.fieldLink RX8 61 "SlipBenchModel" "drove" "[J", Cond.fieldLink RX8 64 "SlipBenchModel" "held" "[J", Cond.methodLink RX8 133 yX8_better, Cond.static yX8_better, Cond.code yX8_better cX8_better 8 (some .boolean), Cond.methodLink RX8 105 yX8_can, Cond.instanceMethod yX8_can, Cond.selects RX8 yX8_can yX8_can]
def wsX8_findWorst_r2 : List Cond := [Cond.code yX8_can cX8_can 6 (some .boolean), Cond.fieldLink RX8 23 "SlipBenchModel" "rock" "[Z", Cond.fieldLink RX8 27 "SlipBenchModel" "cells" "[I", Cond.methodLink RX8 113 yX8_holds, Cond.instanceMethod yX8_holds, Cond.selects RX8 yX8_holds yX8_holds, Cond.code yX8_holds cX8_holds 10 (some .long), Cond.fieldLink RX8 33 "SlipBenchModel" "waters" "[I", Cond.constantLong RX8 103 (10), Cond.fieldLink RX8 17 "SlipBenchModel" "hold" "[I", Cond.fieldLink RX8 20 "SlipBenchModel" "rub" "[I", Cond.fieldLink RX8 39 "SlipBenchModel" "nails" "[I", Cond.methodLink RX8 99 yX8_press, Cond.instanceMethod yX8_press, Cond.selects RX8 yX8_press yX8_press, Cond.code yX8_press cX8_press 5 (some .int), Cond.fieldLink RX8 36 "SlipBenchModel" "loads" "[I", Cond.fieldLink RX8 13 "SlipBenchModel" "weight" "[I", Cond.methodLink RX8 117 yX8_drives, Cond.instanceMethod yX8_drives, Cond.selects RX8 yX8_drives yX8_drives, Cond.code yX8_drives cX8_drives 4 (some .long), Cond.methodLink RX8 120 yX8_divisor, Cond.static yX8_divisor]
def wsX8_findWorst_r3 : List Cond := [Cond.code yX8_divisor cX8_divisor 10 (some .long)]
def wsX8_findWorst : List Cond := .code yX8_findWorst cX8_findWorst 4 none :: ((wsX8_findWorst_r1 ++ (wsX8_findWorst_r2 ++ wsX8_findWorst_r3)) ++ wsX80)
def wsX8_findLine_r1 : List Cond := [Cond.fieldLink RX8 154 "SlipBenchModel" "from" "I", Cond.fieldLink RX8 157 "SlipBenchModel" "to" "I", Cond.fieldLink RX8 7 "SlipBenchModel" "width" "I", Cond.fieldLink RX8 148 "SlipBenchModel" "up" "J", Cond.fieldLink RX8 151 "SlipBenchModel" "low" "J", Cond.fieldLink RX8 126 "SlipBenchModel" "bestSum" "J", Cond.fieldLink RX8 130 "SlipBenchModel" "bestDrive" "J", Cond.fieldLink RX8 57 "SlipBenchModel" "sum" "[J", Cond.constantLong RX8 124 (1152921504606846976), Cond.fieldLink RX8 30 "SlipBenchModel" "heights" "[I", Cond.fieldLink RX8 96 "SlipBenchModel" "base" "I", Cond.fieldLink RX8 61 "SlipBenchModel" "drove" "[J", Cond.fieldLink RX8 67 "SlipBenchModel" "way" "[I", Cond.methodLink RX8 140 yX8_walk, Cond.instanceMethod yX8_walk, Cond.selects RX8 yX8_walk yX8_walk, Cond.initialized RX8, Cond.code yX8_walk cX8_walk 20 none, Cond.fieldLink RX8 64 "SlipBenchModel" "held" "[J", Cond.fieldLink RX8 137 "SlipBenchModel" "bestHold" "J", Cond.methodLink RX8 133 yX8_better, Cond.static yX8_better, Cond.code yX8_better cX8_better 8 (some .boolean), Cond.methodLink RX8 105 yX8_can]
def wsX8_findLine_r2 : List Cond := [Cond.instanceMethod yX8_can, Cond.selects RX8 yX8_can yX8_can, Cond.code yX8_can cX8_can 6 (some .boolean), Cond.fieldLink RX8 23 "SlipBenchModel" "rock" "[Z", Cond.fieldLink RX8 27 "SlipBenchModel" "cells" "[I", Cond.methodLink RX8 113 yX8_holds, Cond.instanceMethod yX8_holds, Cond.selects RX8 yX8_holds yX8_holds, Cond.code yX8_holds cX8_holds 10 (some .long), Cond.fieldLink RX8 33 "SlipBenchModel" "waters" "[I", Cond.constantLong RX8 103 (10), Cond.fieldLink RX8 17 "SlipBenchModel" "hold" "[I", Cond.fieldLink RX8 20 "SlipBenchModel" "rub" "[I", Cond.fieldLink RX8 39 "SlipBenchModel" "nails" "[I", Cond.methodLink RX8 99 yX8_press, Cond.instanceMethod yX8_press, Cond.selects RX8 yX8_press yX8_press, Cond.code yX8_press cX8_press 5 (some .int), Cond.fieldLink RX8 36 "SlipBenchModel" "loads" "[I", Cond.fieldLink RX8 13 "SlipBenchModel" "weight" "[I", Cond.methodLink RX8 117 yX8_drives, Cond.instanceMethod yX8_drives, Cond.selects RX8 yX8_drives yX8_drives, Cond.code yX8_drives cX8_drives 4 (some .long)]
def wsX8_findLine : List Cond := .code yX8_findLine cX8_findLine 14 none :: ((wsX8_findLine_r1 ++ wsX8_findLine_r2) ++ wsX80)
def wsX8_worst_r1 : List Cond := [Cond.fieldLink RX8 76 "SlipBenchModel" "thrown" "I", Cond.constantLong RX8 160 (-1), Cond.fieldLink RX8 96 "SlipBenchModel" "base" "I", Cond.fieldLink RX8 144 "SlipBenchModel" "isWorst" "Z", Cond.fieldLink RX8 148 "SlipBenchModel" "up" "J", Cond.fieldLink RX8 151 "SlipBenchModel" "low" "J", Cond.fieldLink RX8 154 "SlipBenchModel" "from" "I", Cond.fieldLink RX8 157 "SlipBenchModel" "to" "I", Cond.methodLink RX8 162 yX8_findWorst, Cond.instanceMethod yX8_findWorst, Cond.selects RX8 yX8_findWorst yX8_findWorst, Cond.initialized RX8, Cond.code yX8_findWorst cX8_findWorst 4 none, Cond.fieldLink RX8 126 "SlipBenchModel" "bestSum" "J", Cond.constantLong RX8 124 (1152921504606846976), Cond.fieldLink RX8 130 "SlipBenchModel" "bestDrive" "J", Cond.fieldLink RX8 137 "SlipBenchModel" "bestHold" "J", Cond.methodLink RX8 140 yX8_walk, Cond.instanceMethod yX8_walk, Cond.selects RX8 yX8_walk yX8_walk, Cond.code yX8_walk cX8_walk 20 none, Cond.fieldLink RX8 7 "SlipBenchModel" "width" "I", Cond.fieldLink RX8 57 "SlipBenchModel" "sum" "[J", Cond.fieldLink RX8 30 "SlipBenchModel" "heights" "[I"]
def wsX8_worst_r2 : List Cond := [Cond.fieldLink RX8 61 "SlipBenchModel" "drove" "[J", Cond.fieldLink RX8 64 "SlipBenchModel" "held" "[J", Cond.methodLink RX8 133 yX8_better, Cond.static yX8_better, Cond.code yX8_better cX8_better 8 (some .boolean), Cond.methodLink RX8 105 yX8_can, Cond.instanceMethod yX8_can, Cond.selects RX8 yX8_can yX8_can, Cond.code yX8_can cX8_can 6 (some .boolean), Cond.fieldLink RX8 23 "SlipBenchModel" "rock" "[Z", Cond.fieldLink RX8 27 "SlipBenchModel" "cells" "[I", Cond.methodLink RX8 113 yX8_holds, Cond.instanceMethod yX8_holds, Cond.selects RX8 yX8_holds yX8_holds, Cond.code yX8_holds cX8_holds 10 (some .long), Cond.fieldLink RX8 33 "SlipBenchModel" "waters" "[I", Cond.constantLong RX8 103 (10), Cond.fieldLink RX8 17 "SlipBenchModel" "hold" "[I", Cond.fieldLink RX8 20 "SlipBenchModel" "rub" "[I", Cond.fieldLink RX8 39 "SlipBenchModel" "nails" "[I", Cond.methodLink RX8 99 yX8_press, Cond.instanceMethod yX8_press, Cond.selects RX8 yX8_press yX8_press, Cond.code yX8_press cX8_press 5 (some .int)]
def wsX8_worst_r3 : List Cond := [Cond.fieldLink RX8 36 "SlipBenchModel" "loads" "[I", Cond.fieldLink RX8 13 "SlipBenchModel" "weight" "[I", Cond.methodLink RX8 117 yX8_drives, Cond.instanceMethod yX8_drives, Cond.selects RX8 yX8_drives yX8_drives, Cond.code yX8_drives cX8_drives 4 (some .long), Cond.methodLink RX8 120 yX8_divisor, Cond.static yX8_divisor, Cond.code yX8_divisor cX8_divisor 10 (some .long), Cond.methodLink RX8 165 yX8_findLine, Cond.instanceMethod yX8_findLine, Cond.selects RX8 yX8_findLine yX8_findLine, Cond.code yX8_findLine cX8_findLine 14 none, Cond.fieldLink RX8 67 "SlipBenchModel" "way" "[I"]
def wsX8_worst : List Cond := .code yX8_worst cX8_worst 2 (some .long) :: ((wsX8_worst_r1 ++ (wsX8_worst_r2 ++ wsX8_worst_r3)) ++ wsX80)
def wsX8_height_r1 : List Cond := [Cond.fieldLink RX8 76 "SlipBenchModel" "thrown" "I", Cond.fieldLink RX8 96 "SlipBenchModel" "base" "I", Cond.fieldLink RX8 144 "SlipBenchModel" "isWorst" "Z", Cond.fieldLink RX8 157 "SlipBenchModel" "to" "I", Cond.fieldLink RX8 154 "SlipBenchModel" "from" "I", Cond.fieldLink RX8 67 "SlipBenchModel" "way" "[I", Cond.methodLink RX8 162 yX8_findWorst, Cond.instanceMethod yX8_findWorst, Cond.selects RX8 yX8_findWorst yX8_findWorst, Cond.initialized RX8, Cond.code yX8_findWorst cX8_findWorst 4 none, Cond.fieldLink RX8 126 "SlipBenchModel" "bestSum" "J", Cond.constantLong RX8 124 (1152921504606846976), Cond.fieldLink RX8 130 "SlipBenchModel" "bestDrive" "J", Cond.fieldLink RX8 137 "SlipBenchModel" "bestHold" "J", Cond.fieldLink RX8 148 "SlipBenchModel" "up" "J", Cond.fieldLink RX8 151 "SlipBenchModel" "low" "J", Cond.methodLink RX8 140 yX8_walk, Cond.instanceMethod yX8_walk, Cond.selects RX8 yX8_walk yX8_walk, Cond.code yX8_walk cX8_walk 20 none, Cond.fieldLink RX8 7 "SlipBenchModel" "width" "I", Cond.fieldLink RX8 57 "SlipBenchModel" "sum" "[J", Cond.fieldLink RX8 30 "SlipBenchModel" "heights" "[I"]
def wsX8_height_r2 : List Cond := [Cond.fieldLink RX8 61 "SlipBenchModel" "drove" "[J", Cond.fieldLink RX8 64 "SlipBenchModel" "held" "[J", Cond.methodLink RX8 133 yX8_better, Cond.static yX8_better, Cond.code yX8_better cX8_better 8 (some .boolean), Cond.methodLink RX8 105 yX8_can, Cond.instanceMethod yX8_can, Cond.selects RX8 yX8_can yX8_can, Cond.code yX8_can cX8_can 6 (some .boolean), Cond.fieldLink RX8 23 "SlipBenchModel" "rock" "[Z", Cond.fieldLink RX8 27 "SlipBenchModel" "cells" "[I", Cond.methodLink RX8 113 yX8_holds, Cond.instanceMethod yX8_holds, Cond.selects RX8 yX8_holds yX8_holds, Cond.code yX8_holds cX8_holds 10 (some .long), Cond.fieldLink RX8 33 "SlipBenchModel" "waters" "[I", Cond.constantLong RX8 103 (10), Cond.fieldLink RX8 17 "SlipBenchModel" "hold" "[I", Cond.fieldLink RX8 20 "SlipBenchModel" "rub" "[I", Cond.fieldLink RX8 39 "SlipBenchModel" "nails" "[I", Cond.methodLink RX8 99 yX8_press, Cond.instanceMethod yX8_press, Cond.selects RX8 yX8_press yX8_press, Cond.code yX8_press cX8_press 5 (some .int)]
def wsX8_height_r3 : List Cond := [Cond.fieldLink RX8 36 "SlipBenchModel" "loads" "[I", Cond.fieldLink RX8 13 "SlipBenchModel" "weight" "[I", Cond.methodLink RX8 117 yX8_drives, Cond.instanceMethod yX8_drives, Cond.selects RX8 yX8_drives yX8_drives, Cond.code yX8_drives cX8_drives 4 (some .long), Cond.methodLink RX8 120 yX8_divisor, Cond.static yX8_divisor, Cond.code yX8_divisor cX8_divisor 10 (some .long), Cond.methodLink RX8 165 yX8_findLine, Cond.instanceMethod yX8_findLine, Cond.selects RX8 yX8_findLine yX8_findLine, Cond.code yX8_findLine cX8_findLine 14 none]
def wsX8_height : List Cond := .code yX8_height cX8_height 2 (some .int) :: ((wsX8_height_r1 ++ (wsX8_height_r2 ++ wsX8_height_r3)) ++ wsX80)
def wsX8_holdsOut_r1 : List Cond := [Cond.fieldLink RX8 126 "SlipBenchModel" "bestSum" "J", Cond.methodLink RX8 140 yX8_walk, Cond.instanceMethod yX8_walk, Cond.selects RX8 yX8_walk yX8_walk, Cond.initialized RX8, Cond.code yX8_walk cX8_walk 20 none, Cond.constantLong RX8 124 (1152921504606846976), Cond.fieldLink RX8 130 "SlipBenchModel" "bestDrive" "J", Cond.fieldLink RX8 7 "SlipBenchModel" "width" "I", Cond.fieldLink RX8 57 "SlipBenchModel" "sum" "[J", Cond.fieldLink RX8 30 "SlipBenchModel" "heights" "[I", Cond.fieldLink RX8 96 "SlipBenchModel" "base" "I", Cond.fieldLink RX8 61 "SlipBenchModel" "drove" "[J", Cond.fieldLink RX8 64 "SlipBenchModel" "held" "[J", Cond.fieldLink RX8 137 "SlipBenchModel" "bestHold" "J", Cond.methodLink RX8 133 yX8_better, Cond.static yX8_better, Cond.code yX8_better cX8_better 8 (some .boolean), Cond.methodLink RX8 105 yX8_can, Cond.instanceMethod yX8_can, Cond.selects RX8 yX8_can yX8_can, Cond.code yX8_can cX8_can 6 (some .boolean), Cond.fieldLink RX8 23 "SlipBenchModel" "rock" "[Z", Cond.fieldLink RX8 27 "SlipBenchModel" "cells" "[I"]
def wsX8_holdsOut_r2 : List Cond := [Cond.methodLink RX8 113 yX8_holds, Cond.instanceMethod yX8_holds, Cond.selects RX8 yX8_holds yX8_holds, Cond.code yX8_holds cX8_holds 10 (some .long), Cond.fieldLink RX8 33 "SlipBenchModel" "waters" "[I", Cond.constantLong RX8 103 (10), Cond.fieldLink RX8 17 "SlipBenchModel" "hold" "[I", Cond.fieldLink RX8 20 "SlipBenchModel" "rub" "[I", Cond.fieldLink RX8 39 "SlipBenchModel" "nails" "[I", Cond.methodLink RX8 99 yX8_press, Cond.instanceMethod yX8_press, Cond.selects RX8 yX8_press yX8_press, Cond.code yX8_press cX8_press 5 (some .int), Cond.fieldLink RX8 36 "SlipBenchModel" "loads" "[I", Cond.fieldLink RX8 13 "SlipBenchModel" "weight" "[I", Cond.methodLink RX8 117 yX8_drives, Cond.instanceMethod yX8_drives, Cond.selects RX8 yX8_drives yX8_drives, Cond.code yX8_drives cX8_drives 4 (some .long)]
def wsX8_holdsOut : List Cond := .code yX8_holdsOut cX8_holdsOut 3 (some .boolean) :: ((wsX8_holdsOut_r1 ++ wsX8_holdsOut_r2) ++ wsX80)
def wsX8_areShares : List Cond := .code yX8_areShares cX8_areShares 2 (some .boolean) :: ([])
def wsX8_tries : List Cond := .code yX8_tries cX8_tries 2 none :: ([.fieldLink RX8 30 "SlipBenchModel" "heights" "[I", .fieldLink RX8 33 "SlipBenchModel" "waters" "[I", .fieldLink RX8 36 "SlipBenchModel" "loads" "[I", .fieldLink RX8 39 "SlipBenchModel" "nails" "[I", .fieldLink RX8 96 "SlipBenchModel" "base" "I"] ++ wsX80)
def wsX8_rise_r1 : List Cond := [Cond.fieldLink RX8 76 "SlipBenchModel" "thrown" "I", Cond.fieldLink RX8 7 "SlipBenchModel" "width" "I", Cond.fieldLink RX8 33 "SlipBenchModel" "waters" "[I", Cond.fieldLink RX8 96 "SlipBenchModel" "base" "I", Cond.methodLink RX8 168 yX8_areShares, Cond.static yX8_areShares, Cond.initialized RX8, Cond.code yX8_areShares cX8_areShares 2 (some .boolean), Cond.methodLink RX8 172 yX8_tries, Cond.instanceMethod yX8_tries, Cond.selects RX8 yX8_tries yX8_tries, Cond.code yX8_tries cX8_tries 2 none, Cond.fieldLink RX8 30 "SlipBenchModel" "heights" "[I", Cond.fieldLink RX8 36 "SlipBenchModel" "loads" "[I", Cond.fieldLink RX8 39 "SlipBenchModel" "nails" "[I", Cond.methodLink RX8 175 yX8_holdsOut, Cond.instanceMethod yX8_holdsOut, Cond.selects RX8 yX8_holdsOut yX8_holdsOut, Cond.code yX8_holdsOut cX8_holdsOut 3 (some .boolean), Cond.fieldLink RX8 126 "SlipBenchModel" "bestSum" "J", Cond.methodLink RX8 140 yX8_walk, Cond.instanceMethod yX8_walk, Cond.selects RX8 yX8_walk yX8_walk, Cond.code yX8_walk cX8_walk 20 none]
def wsX8_rise_r2 : List Cond := [Cond.constantLong RX8 124 (1152921504606846976), Cond.fieldLink RX8 130 "SlipBenchModel" "bestDrive" "J", Cond.fieldLink RX8 57 "SlipBenchModel" "sum" "[J", Cond.fieldLink RX8 61 "SlipBenchModel" "drove" "[J", Cond.fieldLink RX8 64 "SlipBenchModel" "held" "[J", Cond.fieldLink RX8 137 "SlipBenchModel" "bestHold" "J", Cond.methodLink RX8 133 yX8_better, Cond.static yX8_better, Cond.code yX8_better cX8_better 8 (some .boolean), Cond.methodLink RX8 105 yX8_can, Cond.instanceMethod yX8_can, Cond.selects RX8 yX8_can yX8_can, Cond.code yX8_can cX8_can 6 (some .boolean), Cond.fieldLink RX8 23 "SlipBenchModel" "rock" "[Z", Cond.fieldLink RX8 27 "SlipBenchModel" "cells" "[I", Cond.methodLink RX8 113 yX8_holds, Cond.instanceMethod yX8_holds, Cond.selects RX8 yX8_holds yX8_holds, Cond.code yX8_holds cX8_holds 10 (some .long), Cond.constantLong RX8 103 (10), Cond.fieldLink RX8 17 "SlipBenchModel" "hold" "[I", Cond.fieldLink RX8 20 "SlipBenchModel" "rub" "[I", Cond.methodLink RX8 99 yX8_press, Cond.instanceMethod yX8_press]
def wsX8_rise_r3 : List Cond := [Cond.selects RX8 yX8_press yX8_press, Cond.code yX8_press cX8_press 5 (some .int), Cond.fieldLink RX8 13 "SlipBenchModel" "weight" "[I", Cond.methodLink RX8 117 yX8_drives, Cond.instanceMethod yX8_drives, Cond.selects RX8 yX8_drives yX8_drives, Cond.code yX8_drives cX8_drives 4 (some .long)]
def wsX8_rise : List Cond := .code yX8_rise cX8_rise 6 (some .int) :: ((wsX8_rise_r1 ++ (wsX8_rise_r2 ++ wsX8_rise_r3)) ++ wsX80)
def wsX8_act : List Cond := .code yX8_act cX8_act 4 (some .int) :: ([.fieldLink RX8 76 "SlipBenchModel" "thrown" "I", .fieldLink RX8 79 "SlipBenchModel" "acts" "I", .fieldLink RX8 42 "SlipBenchModel" "actKind" "[I", .fieldLink RX8 45 "SlipBenchModel" "actColumn" "[I", .fieldLink RX8 48 "SlipBenchModel" "actN" "[I", .methodLink RX8 88 yX8_isColumn, .instanceMethod yX8_isColumn, .selects RX8 yX8_isColumn yX8_isColumn, .initialized RX8, .code yX8_isColumn cX8_isColumn 2 (some .boolean), .fieldLink RX8 7 "SlipBenchModel" "width" "I"] ++ wsX80)
def wsX8_does : List Cond := .code yX8_does cX8_does 4 none :: ([.fieldLink RX8 96 "SlipBenchModel" "base" "I", .fieldLink RX8 45 "SlipBenchModel" "actColumn" "[I", .fieldLink RX8 48 "SlipBenchModel" "actN" "[I", .fieldLink RX8 42 "SlipBenchModel" "actKind" "[I", .fieldLink RX8 30 "SlipBenchModel" "heights" "[I", .fieldLink RX8 39 "SlipBenchModel" "nails" "[I", .fieldLink RX8 33 "SlipBenchModel" "waters" "[I", .fieldLink RX8 36 "SlipBenchModel" "loads" "[I"] ++ wsX80)
def wsX8_perform : List Cond := .code yX8_perform cX8_perform 2 (some .boolean) :: ([.fieldLink RX8 76 "SlipBenchModel" "thrown" "I", .fieldLink RX8 79 "SlipBenchModel" "acts" "I", .fieldLink RX8 96 "SlipBenchModel" "base" "I", .methodLink RX8 178 yX8_does, .instanceMethod yX8_does, .selects RX8 yX8_does yX8_does, .initialized RX8, .code yX8_does cX8_does 4 none, .fieldLink RX8 45 "SlipBenchModel" "actColumn" "[I", .fieldLink RX8 48 "SlipBenchModel" "actN" "[I", .fieldLink RX8 42 "SlipBenchModel" "actKind" "[I", .fieldLink RX8 30 "SlipBenchModel" "heights" "[I", .fieldLink RX8 39 "SlipBenchModel" "nails" "[I", .fieldLink RX8 33 "SlipBenchModel" "waters" "[I", .fieldLink RX8 36 "SlipBenchModel" "loads" "[I"] ++ wsX80)
def wsX8_swap : List Cond := .code yX8_swap cX8_swap 4 none :: ([.fieldLink RX8 70 "SlipBenchModel" "row" "[I"] ++ wsX80)
def wsX8_another : List Cond := .code yX8_another cX8_another 4 (some .boolean) :: ([.fieldLink RX8 79 "SlipBenchModel" "acts" "I", .fieldLink RX8 70 "SlipBenchModel" "row" "[I", .methodLink RX8 182 yX8_swap, .instanceMethod yX8_swap, .selects RX8 yX8_swap yX8_swap, .initialized RX8, .code yX8_swap cX8_swap 4 none] ++ wsX80)
def wsX8_order_r1 : List Cond := [Cond.fieldLink RX8 76 "SlipBenchModel" "thrown" "I", Cond.fieldLink RX8 79 "SlipBenchModel" "acts" "I", Cond.fieldLink RX8 70 "SlipBenchModel" "row" "[I", Cond.fieldLink RX8 96 "SlipBenchModel" "base" "I", Cond.fieldLink RX8 189 "SlipBenchModel" "stepMany" "I", Cond.fieldLink RX8 73 "SlipBenchModel" "steps" "[I", Cond.methodLink RX8 168 yX8_areShares, Cond.static yX8_areShares, Cond.initialized RX8, Cond.code yX8_areShares cX8_areShares 2 (some .boolean), Cond.methodLink RX8 172 yX8_tries, Cond.instanceMethod yX8_tries, Cond.selects RX8 yX8_tries yX8_tries, Cond.code yX8_tries cX8_tries 2 none, Cond.fieldLink RX8 30 "SlipBenchModel" "heights" "[I", Cond.fieldLink RX8 33 "SlipBenchModel" "waters" "[I", Cond.fieldLink RX8 36 "SlipBenchModel" "loads" "[I", Cond.fieldLink RX8 39 "SlipBenchModel" "nails" "[I", Cond.methodLink RX8 178 yX8_does, Cond.instanceMethod yX8_does, Cond.selects RX8 yX8_does yX8_does, Cond.code yX8_does cX8_does 4 none, Cond.fieldLink RX8 45 "SlipBenchModel" "actColumn" "[I", Cond.fieldLink RX8 48 "SlipBenchModel" "actN" "[I"]
def wsX8_order_r2 : List Cond := [Cond.fieldLink RX8 42 "SlipBenchModel" "actKind" "[I", Cond.methodLink RX8 175 yX8_holdsOut, Cond.instanceMethod yX8_holdsOut, Cond.selects RX8 yX8_holdsOut yX8_holdsOut, Cond.code yX8_holdsOut cX8_holdsOut 3 (some .boolean), Cond.fieldLink RX8 126 "SlipBenchModel" "bestSum" "J", Cond.methodLink RX8 140 yX8_walk, Cond.instanceMethod yX8_walk, Cond.selects RX8 yX8_walk yX8_walk, Cond.code yX8_walk cX8_walk 20 none, Cond.constantLong RX8 124 (1152921504606846976), Cond.fieldLink RX8 130 "SlipBenchModel" "bestDrive" "J", Cond.fieldLink RX8 7 "SlipBenchModel" "width" "I", Cond.fieldLink RX8 57 "SlipBenchModel" "sum" "[J", Cond.fieldLink RX8 61 "SlipBenchModel" "drove" "[J", Cond.fieldLink RX8 64 "SlipBenchModel" "held" "[J", Cond.fieldLink RX8 137 "SlipBenchModel" "bestHold" "J", Cond.methodLink RX8 133 yX8_better, Cond.static yX8_better, Cond.code yX8_better cX8_better 8 (some .boolean), Cond.methodLink RX8 105 yX8_can, Cond.instanceMethod yX8_can, Cond.selects RX8 yX8_can yX8_can, Cond.code yX8_can cX8_can 6 (some .boolean)]
def wsX8_order_r3 : List Cond := [Cond.fieldLink RX8 23 "SlipBenchModel" "rock" "[Z", Cond.fieldLink RX8 27 "SlipBenchModel" "cells" "[I", Cond.methodLink RX8 113 yX8_holds, Cond.instanceMethod yX8_holds, Cond.selects RX8 yX8_holds yX8_holds, Cond.code yX8_holds cX8_holds 10 (some .long), Cond.constantLong RX8 103 (10), Cond.fieldLink RX8 17 "SlipBenchModel" "hold" "[I", Cond.fieldLink RX8 20 "SlipBenchModel" "rub" "[I", Cond.methodLink RX8 99 yX8_press, Cond.instanceMethod yX8_press, Cond.selects RX8 yX8_press yX8_press, Cond.code yX8_press cX8_press 5 (some .int), Cond.fieldLink RX8 13 "SlipBenchModel" "weight" "[I", Cond.methodLink RX8 117 yX8_drives, Cond.instanceMethod yX8_drives, Cond.selects RX8 yX8_drives yX8_drives, Cond.code yX8_drives cX8_drives 4 (some .long), Cond.methodLink RX8 186 yX8_another, Cond.instanceMethod yX8_another, Cond.selects RX8 yX8_another yX8_another, Cond.code yX8_another cX8_another 4 (some .boolean), Cond.methodLink RX8 182 yX8_swap, Cond.instanceMethod yX8_swap]
def wsX8_order_r4 : List Cond := [Cond.selects RX8 yX8_swap yX8_swap, Cond.code yX8_swap cX8_swap 4 none]
def wsX8_order : List Cond := .code yX8_order cX8_order 6 (some .int) :: ((wsX8_order_r1 ++ (wsX8_order_r2 ++ (wsX8_order_r3 ++ wsX8_order_r4))) ++ wsX80)
def wsX8_step : List Cond := .code yX8_step cX8_step 2 (some .int) :: ([.fieldLink RX8 76 "SlipBenchModel" "thrown" "I", .fieldLink RX8 189 "SlipBenchModel" "stepMany" "I", .fieldLink RX8 73 "SlipBenchModel" "steps" "[I"] ++ wsX80)
def wsX8_count : List Cond := .code yX8_count cX8_count 4 (some .int) :: ([.fieldLink RX8 76 "SlipBenchModel" "thrown" "I", .fieldLink RX8 7 "SlipBenchModel" "width" "I", .fieldLink RX8 85 "SlipBenchModel" "earths" "I", .fieldLink RX8 79 "SlipBenchModel" "acts" "I", .fieldLink RX8 30 "SlipBenchModel" "heights" "[I"] ++ wsX80)
def wsJ9_abs_0f7a4 : List Cond := .code yJ9_abs_0f7a4 cJ9_abs_0f7a4 1 (some .int) :: ([])
def wsJ9_max_7cf53 : List Cond := .code yJ9_max_7cf53 cJ9_max_7cf53 2 (some .int) :: ([])
def wsJ9_min_7cf53 : List Cond := .code yJ9_min_7cf53 cJ9_min_7cf53 2 (some .int) :: ([])
def wsJ9_min_f86c9 : List Cond := .code yJ9_min_f86c9 cJ9_min_f86c9 4 (some .long) :: ([])
theorem inJ9 : ∀ w ∈ wsJ90, w ∈ lw_tbl := by decide +kernel
theorem inJ0 : ∀ w ∈ wsJ00, w ∈ lw_tbl := by decide +kernel
theorem inJ10 : ∀ w ∈ wsJ100, w ∈ lw_tbl := by decide +kernel
theorem dJ9_abs_0f7a4_0 : decode cJ9_abs_0f7a4 0 = .ok (.iload_n 0, 1) := by decide +kernel
theorem dJ9_abs_0f7a4_1 : decode cJ9_abs_0f7a4 1 = .ok (.ifCond .ge 8, 3) := by decide +kernel
theorem dJ9_abs_0f7a4_4 : decode cJ9_abs_0f7a4 4 = .ok (.iload_n 0, 1) := by decide +kernel
theorem dJ9_abs_0f7a4_5 : decode cJ9_abs_0f7a4 5 = .ok (.ineg, 1) := by decide +kernel
theorem dJ9_abs_0f7a4_6 : decode cJ9_abs_0f7a4 6 = .ok (.goto 4, 3) := by decide +kernel
theorem dJ9_abs_0f7a4_9 : decode cJ9_abs_0f7a4 9 = .ok (.iload_n 0, 1) := by decide +kernel
theorem dJ9_abs_0f7a4_10 : decode cJ9_abs_0f7a4 10 = .ok (.ireturn, 1) := by decide +kernel
theorem dJ9_max_7cf53_0 : decode cJ9_max_7cf53 0 = .ok (.iload_n 0, 1) := by decide +kernel
theorem dJ9_max_7cf53_1 : decode cJ9_max_7cf53 1 = .ok (.iload_n 1, 1) := by decide +kernel
theorem dJ9_max_7cf53_2 : decode cJ9_max_7cf53 2 = .ok (.if_icmp .lt 7, 3) := by decide +kernel
theorem dJ9_max_7cf53_5 : decode cJ9_max_7cf53 5 = .ok (.iload_n 0, 1) := by decide +kernel
theorem dJ9_max_7cf53_6 : decode cJ9_max_7cf53 6 = .ok (.goto 4, 3) := by decide +kernel
theorem dJ9_max_7cf53_9 : decode cJ9_max_7cf53 9 = .ok (.iload_n 1, 1) := by decide +kernel
theorem dJ9_max_7cf53_10 : decode cJ9_max_7cf53 10 = .ok (.ireturn, 1) := by decide +kernel
theorem dJ9_min_7cf53_0 : decode cJ9_min_7cf53 0 = .ok (.iload_n 0, 1) := by decide +kernel
theorem dJ9_min_7cf53_1 : decode cJ9_min_7cf53 1 = .ok (.iload_n 1, 1) := by decide +kernel
theorem dJ9_min_7cf53_2 : decode cJ9_min_7cf53 2 = .ok (.if_icmp .gt 7, 3) := by decide +kernel
theorem dJ9_min_7cf53_5 : decode cJ9_min_7cf53 5 = .ok (.iload_n 0, 1) := by decide +kernel
theorem dJ9_min_7cf53_6 : decode cJ9_min_7cf53 6 = .ok (.goto 4, 3) := by decide +kernel
theorem dJ9_min_7cf53_9 : decode cJ9_min_7cf53 9 = .ok (.iload_n 1, 1) := by decide +kernel
theorem dJ9_min_7cf53_10 : decode cJ9_min_7cf53 10 = .ok (.ireturn, 1) := by decide +kernel
theorem dJ9_min_f86c9_0 : decode cJ9_min_f86c9 0 = .ok (.lload_n 0, 1) := by decide +kernel
theorem dJ9_min_f86c9_1 : decode cJ9_min_f86c9 1 = .ok (.lload_n 2, 1) := by decide +kernel
theorem dJ9_min_f86c9_2 : decode cJ9_min_f86c9 2 = .ok (.lcmp, 1) := by decide +kernel
theorem dJ9_min_f86c9_3 : decode cJ9_min_f86c9 3 = .ok (.ifCond .gt 7, 3) := by decide +kernel
theorem dJ9_min_f86c9_6 : decode cJ9_min_f86c9 6 = .ok (.lload_n 0, 1) := by decide +kernel
theorem dJ9_min_f86c9_7 : decode cJ9_min_f86c9 7 = .ok (.goto 4, 3) := by decide +kernel
theorem dJ9_min_f86c9_10 : decode cJ9_min_f86c9 10 = .ok (.lload_n 2, 1) := by decide +kernel
theorem dJ9_min_f86c9_11 : decode cJ9_min_f86c9 11 = .ok (.lreturn, 1) := by decide +kernel
abbrev vwCl : List vw_C := [(RX0, TX0, 4), (RX1, TX1, 9), (RX2, TX2, 5), (RX3, TX3, 2), (RX4, TX4, 2), (RX5, TX5, 3), (RX6, TX6, 7), (RX7, TX7, 15), (RX8, TX8, 35)]
end
section
/-! numbers as Ints: an int or a long by a whole number -/
def iI (z : Int) : Int32 := Int32.ofInt z
def lL (z : Int) : Int64 := Int64.ofInt z
abbrev r32 (z : Int) : Prop := -2147483648 ≤ z ∧ z ≤ 2147483647
abbrev r64 (z : Int) : Prop := -9223372036854775808 ≤ z ∧ z ≤ 9223372036854775807
theorem iI_toInt {z : Int} (h : r32 z) : (iI z).toInt = z := by
  unfold iI
  rw [Int32.toInt_ofInt, Int.bmod_def, show Int32.size = 4294967296 from rfl]
  obtain ⟨h1, h2⟩ := h
  split <;> omega
theorem lL_toInt {z : Int} (h : r64 z) : (lL z).toInt = z := by
  unfold lL
  rw [Int64.toInt_ofInt, Int.bmod_def, show Int64.size = 18446744073709551616 from rfl]
  obtain ⟨h1, h2⟩ := h
  split <;> omega
theorem iI_of (x : Int32) : x = iI x.toInt := by unfold iI; rw [Int32.ofInt_toInt]
theorem lL_of (x : Int64) : x = lL x.toInt := by unfold lL; rw [Int64.ofInt_toInt]
theorem i_r32 (x : Int32) : r32 x.toInt := by
  have h1 := Int32.le_toInt x
  have h2 := Int32.toInt_lt x
  constructor <;> omega
theorem l_r64 (x : Int64) : r64 x.toInt := by
  have h1 := Int64.le_toInt x
  have h2 := Int64.toInt_lt x
  constructor <;> omega
theorem iI_add (a b : Int) : iI a + iI b = iI (a + b) := by unfold iI; rw [Int32.ofInt_add]
theorem iI_sub (a b : Int) : iI a - iI b = iI (a - b) := by unfold iI; rw [Int32.ofInt_sub]
theorem iI_mul (a b : Int) : iI a * iI b = iI (a * b) := by unfold iI; rw [Int32.ofInt_mul]
theorem iI_neg (a : Int) : -iI a = iI (-a) := by unfold iI; rw [Int32.ofInt_neg]
theorem lL_add (a b : Int) : lL a + lL b = lL (a + b) := by unfold lL; rw [Int64.ofInt_add]
theorem lL_sub (a b : Int) : lL a - lL b = lL (a - b) := by unfold lL; rw [Int64.ofInt_sub]
theorem lL_mul (a b : Int) : lL a * lL b = lL (a * b) := by unfold lL; rw [Int64.ofInt_mul]
theorem iI_lt {a b : Int} (ha : r32 a) (hb : r32 b) : iI a < iI b ↔ a < b := by rw [Int32.lt_iff_toInt_lt, iI_toInt ha, iI_toInt hb]
theorem iI_le {a b : Int} (ha : r32 a) (hb : r32 b) : iI a ≤ iI b ↔ a ≤ b := by rw [Int32.le_iff_toInt_le, iI_toInt ha, iI_toInt hb]
theorem iI_eq {a b : Int} (ha : r32 a) (hb : r32 b) : iI a = iI b ↔ a = b := by rw [← Int32.toInt_inj, iI_toInt ha, iI_toInt hb]
theorem lL_lt {a b : Int} (ha : r64 a) (hb : r64 b) : lL a < lL b ↔ a < b := by rw [Int64.lt_iff_toInt_lt, lL_toInt ha, lL_toInt hb]
theorem lL_eq {a b : Int} (ha : r64 a) (hb : r64 b) : lL a = lL b ↔ a = b := by rw [← Int64.toInt_inj, lL_toInt ha, lL_toInt hb]
theorem iI_0 : iI 0 = 0 := by decide +kernel
theorem iI_in {z : Int} {n : Nat} (h0 : 0 ≤ z) (h1 : z < n) (hn : n < 2 ^ 31) : vp_in (iI z) n := by
  rw [vp_in_iff, iI_toInt ⟨by omega, by omega⟩]
  exact ⟨h0, h1⟩
theorem iI_cl {z : Int} (h0 : 0 ≤ z) (h1 : z ≤ 2147483647) : (iI z).toNatClampNeg = z.toNat := by
  unfold Int32.toNatClampNeg
  rw [iI_toInt ⟨by omega, h1⟩]
theorem iI_bool {z : Int} (h : z = 0 ∨ z = 1) : narrow .boolean (.int (iI z)) = .int (iI z) := by rcases h with rfl | rfl <;> decide +kernel
/-! the system's memory: whole numbers, longs and references by an object's number and a place in it -/
abbrev Mem : Type := (Nat → Nat → Int) × (Nat → Nat → Int) × (Nat → Nat → Option Nat)
def sI (M : Mem) (a k : Nat) (z : Int) : Mem := (fun x j => if x = a ∧ j = k then z else M.1 x j, M.2)
def sL (M : Mem) (a k : Nat) (z : Int) : Mem := (M.1, fun x j => if x = a ∧ j = k then z else M.2.1 x j, M.2.2)
def sR (M : Mem) (a k : Nat) (z : Option Nat) : Mem := (M.1, M.2.1, fun x j => if x = a ∧ j = k then z else M.2.2 x j)
/-- the roles of the objects, in the order in which the law makes them -/
def kdL : List Nat := [0, 1, 2, 3, 4, 5, 6, 7, 8, 9, 10, 11, 8, 9, 10, 11, 8, 9, 10, 11, 8, 9, 10, 11, 8, 9, 10, 11, 8, 9, 10, 11, 8, 9, 10, 11, 8, 9, 10, 11, 8, 9, 10, 11, 8, 9, 10, 11, 8, 9, 10, 11, 8, 9, 10, 11,
  12, 7, 8, 10, 11, 8, 10, 11, 8, 10, 11, 8, 10, 11, 8, 10, 11, 8, 10, 11, 8, 10, 11, 8, 10, 11, 8, 10, 11, 8, 10, 11, 8, 10, 11, 8, 10, 11,
  13, 14, 15, 16, 17, 18, 19, 20, 22, 21, 22, 23, 23, 24, 25, 26, 30, 31, 32, 33, 34, 35, 36, 37, 38, 39, 40, 41, 42, 43, 44, 45, 46, 47, 48, 49, 50]
def kd (a : Nat) : Nat := kdL.getD a 99
def nAll : Nat := 131
theorem kdL_len : kdL.length = nAll := by decide +kernel
/-- a role's shape: 0 an object of a class, else an array (1 int, 2 long, 3 boolean, 4 Column) with its length -/
def shp (r : Nat) : Nat × Nat := match r with
  | 0 => (0, 7) | 1 => (0, 2) | 2 => (1, 6) | 3 => (1, 6) | 4 => (1, 6) | 5 => (3, 6) | 6 => (0, 4) | 7 => (4, 12) | 8 => (0, 1) | 9 => (1, 24) | 10 => (1, 25) | 11 => (1, 125)
  | 12 => (0, 4) | 13 => (0, 0) | 14 => (1, 6) | 15 => (1, 6) | 16 => (1, 6) | 17 => (0, 6) | 18 => (2, 325) | 19 => (2, 12) | 20 => (0, 5) | 21 => (0, 5) | 22 => (1, 13) | 23 => (0, 3) | 24 => (3, 64) | 25 => (1, 6) | 26 => (1, 6)
  | 30 => (0, 8) | 31 => (1, 6) | 32 => (1, 6) | 33 => (1, 6) | 34 => (3, 6) | 35 => (1, 288) | 36 => (1, 24) | 37 => (1, 24) | 38 => (1, 24) | 39 => (1, 24) | 40 => (1, 6) | 41 => (1, 6) | 42 => (1, 6) | 43 => (1, 13) | 44 => (2, 325) | 45 => (2, 325) | 46 => (2, 325) | 47 => (1, 13) | 48 => (1, 6) | 49 => (1, 6)
  | _ => (2, 1)
/-- the kinds of a class's fields: 0 an int, 1 a long, 2 a reference, 3 a boolean -/
def fks (ci : Nat) : List Nat := match ci with
  | 0 => [0, 2, 2, 2]
  | 1 => [2, 0, 0, 0, 0, 2, 2, 2, 3]
  | 2 => [2, 2, 2, 2, 0]
  | 3 => [1, 1]
  | 4 => [2, 0]
  | 5 => [2, 0, 0]
  | 6 => [2, 2, 2, 1, 1, 0, 3]
  | 7 => [2, 2, 2, 2, 2, 2, 2, 2, 2, 2, 2, 2, 0, 3, 3]
  | _ => [0, 0, 2, 2, 2, 2, 2, 2, 2, 2, 2, 0, 0, 2, 2, 2, 0, 0, 2, 0, 2, 2, 2, 1, 1, 1, 3, 1, 1, 0, 0, 2, 2, 2, 0]
abbrev xG : Type := va_G × (Nat → ClassId) × Nat
def xTys (G : xG) : List (ClassId × FieldType) := [(G.2.1 0, .int), (G.2.1 1, .long), (G.2.1 2, .boolean), (G.2.1 3, .object "SlipBench$Column")]
def cv (b : Nat) (v : Value) : Value := match v with
  | .ref k => .ref (b + k)
  | v => v
def xF (b : Nat) (M : Mem) (a : Nat) (k : Nat) (t : Nat) : Value := match t with
  | 1 => .long (lL (M.2.1 a k))
  | 2 => va_rf ((M.2.2 a k).map (b + ·))
  | _ => .int (iI (M.1 a k))
def xFs (b : Nat) (M : Mem) (a : Nat) (k : Nat) (l : List Nat) : List Value := match l with
  | [] => []
  | t :: r => xF b M a k t :: xFs b M a (k + 1) r
def xE (G : xG) (M : Mem) (a : Nat) : va_E := match shp (kd a) with
  | (0, ci) => .inr (ci, xFs G.2.2 M a 0 (fks ci))
  | (1, n) => .inl (G.2.1 0, n, .inl (fun j => iI (M.1 a j)))
  | (2, n) => .inl (G.2.1 1, n, .inr (.inl (fun j => lL (M.2.1 a j))))
  | (3, n) => .inl (G.2.1 2, n, .inl (fun j => iI (M.1 a j)))
  | (_, n) => .inl (G.2.1 3, n, .inr (.inr (.inr (.inr (fun j => (M.2.2 a j).map (G.2.2 + ·))))))
def xWs (G : xG) (n : Nat) (M : Mem) : va_W := (List.range n).map fun a => (G.2.2 + a, xE G M a)
theorem xWs_at {G : xG} {n : Nat} {M : Mem} {a : Nat} (h : a < n) : (xWs G n M)[a]? = some (G.2.2 + a, xE G M a) := by
  unfold xWs
  rw [List.getElem?_map, List.getElem?_range h]
  rfl
theorem xWs_inv {G : xG} {n : Nat} {M : Mem} {a : Nat} {q : Nat × va_E} (h : (xWs G n M)[a]? = some q) : a < n ∧ q = (G.2.2 + a, xE G M a) := by
  have hl : a < n := by
    have h1 := (List.getElem?_eq_some_iff.mp h).1
    unfold xWs at h1
    rwa [List.length_map, List.length_range] at h1
  exact ⟨hl, (Option.some.inj ((xWs_at hl).symm.trans h)).symm⟩
theorem xD {G : xG} {n : Nat} {M : Mem} : va_D (fun q => G.2.2 ≤ q) (xWs G n M) := by
  refine ⟨fun i j p q hi hj h => ?_, fun k q hk => ?_⟩
  · obtain ⟨-, rfl⟩ := xWs_inv hi
    obtain ⟨-, rfl⟩ := xWs_inv hj
    have h1 : G.2.2 + i = G.2.2 + j := h
    omega
  · obtain ⟨-, rfl⟩ := xWs_inv hk
    exact Nat.le_add_right _ _
theorem xWs_set {G : xG} {n : Nat} {M M' : Mem} {a : Nat} {e : va_E} (hl : a < n) (he : xE G M' a = e) (ho : ∀ b, b ≠ a → xE G M' b = xE G M b) : (xWs G n M).set a (G.2.2 + a, e) = xWs G n M' := by
  apply List.ext_getElem?
  intro j
  by_cases hj : j = a
  · subst hj
    rw [List.getElem?_set_self (by unfold xWs; rw [List.length_map, List.length_range]; exact hl), xWs_at hl, he]
  · rw [List.getElem?_set_ne (Ne.symm hj)]
    by_cases hn : j < n
    · rw [xWs_at hn, xWs_at hn, ho j hj]
    · have e1 : ∀ M0 : Mem, (xWs G n M0)[j]? = none := fun M0 => List.getElem?_eq_none (by unfold xWs; rw [List.length_map, List.length_range]; omega)
      rw [e1, e1]
/-- cells of other objects stay -/
theorem xFs_o {b : Nat} {M M' : Mem} {a : Nat} (h1 : M'.1 a = M.1 a) (h2 : M'.2.1 a = M.2.1 a) (h3 : M'.2.2 a = M.2.2 a) : ∀ (l : List Nat) (k : Nat), xFs b M' a k l = xFs b M a k l := by
  intro l
  induction l with
  | nil => intro k; rfl
  | cons t r ih =>
    intro k
    unfold xFs
    rw [ih]
    have e : xF b M' a k t = xF b M a k t := by
      unfold xF
      rw [h1, h2, h3]
    rw [e]
theorem xE_o {G : xG} {M M' : Mem} {a : Nat} (h1 : M'.1 a = M.1 a) (h2 : M'.2.1 a = M.2.1 a) (h3 : M'.2.2 a = M.2.2 a) : xE G M' a = xE G M a := by
  unfold xE
  rw [h1, h2, h3]
  split <;> first | rfl | rw [xFs_o h1 h2 h3]
theorem sI_o {M : Mem} {a k : Nat} {z : Int} {b : Nat} (h : b ≠ a) : (sI M a k z).1 b = M.1 b := by funext j; simp [sI, h]
theorem sL_o {M : Mem} {a k : Nat} {z : Int} {b : Nat} (h : b ≠ a) : (sL M a k z).2.1 b = M.2.1 b := by funext j; simp [sL, h]
theorem sR_o {M : Mem} {a k : Nat} {z : Option Nat} {b : Nat} (h : b ≠ a) : (sR M a k z).2.2 b = M.2.2 b := by funext j; simp [sR, h]
theorem sI_at {M : Mem} {a k : Nat} {z : Int} : (sI M a k z).1 a k = z := by simp [sI]
theorem sI_ne {M : Mem} {a k b j : Nat} {z : Int} (h : ¬ (b = a ∧ j = k)) : (sI M a k z).1 b j = M.1 b j := by simp only [sI, if_neg h]
theorem xFs_len {b : Nat} {M : Mem} {a : Nat} : ∀ (l : List Nat) (k : Nat), (xFs b M a k l).length = l.length := by
  intro l
  induction l with
  | nil => intro k; rfl
  | cons t r ih => intro k; unfold xFs; rw [List.length_cons, List.length_cons, ih]
theorem xFs_at {b : Nat} {M : Mem} {a : Nat} : ∀ (l : List Nat) (k i t : Nat), l[i]? = some t → (xFs b M a k l)[i]? = some (xF b M a (k + i) t) := by
  intro l
  induction l with
  | nil => intro k i t h; simp at h
  | cons q r ih =>
    intro k i t h
    unfold xFs
    cases i with
    | zero => simp at h; subst h; simp
    | succ i =>
      rw [List.getElem?_cons_succ] at h ⊢
      rw [ih (k + 1) i t h, show k + 1 + i = k + (i + 1) by omega]
/-- a field's store -/
theorem xFs_set {b : Nat} {M M' : Mem} {a : Nat} {v : Value} : ∀ (l : List Nat) (k i t : Nat), l[i]? = some t → xF b M' a (k + i) t = v → (∀ j u, j ≠ k + i → l[j - k]? = some u → k ≤ j → xF b M' a j u = xF b M a j u) → (xFs b M a k l).set i v = xFs b M' a k l := by
  intro l
  induction l with
  | nil => intro k i t h; simp at h
  | cons q r ih =>
    intro k i t h hv ho
    unfold xFs
    cases i with
    | zero =>
      simp at h; subst h
      rw [List.set_cons_zero]
      congr 1
      · exact hv.symm
      · have key : ∀ (l2 : List Nat) (k2 : Nat), (∀ j u, k2 ≤ j → l2[j - k2]? = some u → xF b M' a j u = xF b M a j u) → xFs b M a k2 l2 = xFs b M' a k2 l2 := by
          intro l2
          induction l2 with
          | nil => intro k2 _; rfl
          | cons q2 r2 ih2 =>
            intro k2 h2
            unfold xFs
            rw [h2 k2 q2 (Nat.le_refl _) (by simp), ih2 (k2 + 1) (fun j u hj hu => h2 j u (by omega) (by
              rw [show j - k2 = (j - (k2 + 1)) + 1 by omega, List.getElem?_cons_succ]; exact hu))]
        exact key r (k + 1) (fun j u hj hu => ho j u (by omega) (by rw [show j - k = (j - (k + 1)) + 1 by omega, List.getElem?_cons_succ]; exact hu) (by omega))
    | succ i =>
      rw [List.getElem?_cons_succ] at h
      rw [List.set_cons_succ]
      congr 1
      · exact (ho k q (by omega) (by simp) (Nat.le_refl _)).symm
      · exact ih (k + 1) i t h (by rw [show k + 1 + i = k + (i + 1) by omega]; exact hv) (fun j u hj hu hk => ho j u (by omega) (by rw [show j - k = (j - (k + 1)) + 1 by omega, List.getElem?_cons_succ]; exact hu) (by omega))
end
section
/-! the judgement: a frame of a method over the system's memory -/
def xNw (U : State) : Prop := va_Nw (.methodLinkNest RX4 32 yX7_within RX7) U ∧ va_Nw (.methodLinkNest RX2 29 yX7_within RX7) U ∧ va_Nw (.methodLinkNest RX0 25 yX7_within RX7) U
theorem xNw.warm {s U : State} (hW : s.WarmedH U.vm) (h : xNw s) : xNw U := ⟨h.1.warmM hW, h.2.1.warmM hW, h.2.2.warmM hW⟩
theorem xNw.same {u U : State} (h : u.vm = U.vm) (hz : xNw u) : xNw U := ⟨hz.1.same rfl h, hz.2.1.same rfl h, hz.2.2.same rfl h⟩
def Cx (p : Program) (s : State) (m : MethodId) (args : Array Value) (meth : Method) (c : Code) (G : xG) (cc : ByteArray) (nL : Nat) (own : String) (Ts : List Cond) (rt : Option FieldType) : Prop :=
  p.tables.exec = Jvm.exec ∧ c.code = cc ∧ c.maxLocals = nL ∧ s.vm.findClass own = some m.cls ∧ (∀ w ∈ Ts, w.before args s = true) ∧ va_K G.1 vwCl (xTys G) s ∧ meth.sig.returnType = rt ∧ meth.locks = false ∧ xNw s
def xLs (G : xG) (lv : List (Nat × Value)) : List (Nat × Value) := lv.map fun q => (q.1, cv G.2.2 q.2)
def AW (p : Program) (l : Launch) (e : Env) (R : Room) (s : State) (m : MethodId) (args : Array Value) (below : List Frame) (meth : Method) (c : Code) (G : xG) (nL : Nat) (Q : State → Prop) (M : Mem) (pc : Nat) (lv : List (Nat × Value)) (st : List Value) : Prop :=
  ∀ (H : Heap) (locs : List Loc) (ls : Array Slot), va_P G.1 vwCl (xWs G nAll M) H → va_S (fun q => G.2.2 ≤ q) s.heap H locs → lv_has ls nL (xLs G lv) → W p l e R s m args below meth c H locs 0 0 Q (F0 m pc ls (st.map (cv G.2.2)))
theorem cv_cat (b : Nat) (v : Value) : (cv b v).category = v.category := by cases v <;> rfl
theorem xLs_at {G : xG} {lv : List (Nat × Value)} {k i : Nat} {v : Value} (h : lv[k]? = some (i, v)) : (xLs G lv)[k]? = some (i, cv G.2.2 v) := by
  unfold xLs
  rw [List.getElem?_map, h]
  rfl
def xput1 (i : Nat) (v : Value) (lv : List (Nat × Value)) : List (Nat × Value) := (i, v) :: lv.filter (fun q => !(q.1 == i) && !(q.1 + 1 == i && q.2.category == 2))
def xput2 (i : Nat) (v : Value) (lv : List (Nat × Value)) : List (Nat × Value) := (i, v) :: lv.filter (fun q => !(q.1 == i) && (!(q.1 == i + 1) && !(q.1 + 1 == i && q.2.category == 2)))
theorem xput1_ls {G : xG} {i : Nat} {v : Value} {lv : List (Nat × Value)} : (i, cv G.2.2 v) :: (xLs G lv).filter (fun q => !(q.1 == i) && !(q.1 + 1 == i && q.2.category == 2)) = xLs G (xput1 i v lv) := by
  unfold xput1 xLs
  rw [List.map_cons, List.filter_map]
  congr 2
  apply List.filter_congr
  intro q _
  simp [Function.comp, cv_cat]
theorem xput2_ls {G : xG} {i : Nat} {v : Value} {lv : List (Nat × Value)} : (i, cv G.2.2 v) :: (xLs G lv).filter (fun q => !(q.1 == i) && (!(q.1 == i + 1) && !(q.1 + 1 == i && q.2.category == 2))) = xLs G (xput2 i v lv) := by
  unfold xput2 xLs
  rw [List.map_cons, List.filter_map]
  congr 2
  apply List.filter_congr
  intro q _
  simp [Function.comp, cv_cat]
section AWR
variable {p : Program} {l : Launch} {e : Env} {R : Room} {s : State} {m : MethodId} {args : Array Value} {below : List Frame} {meth : Method} {c : Code} {G : xG} {nL : Nat} {Q : State → Prop} {M : Mem} {pc : Nat} {lv : List (Nat × Value)} {st : List Value} {cc : ByteArray} {own : String} {Ts : List Cond} {rt : Option FieldType}
theorem A_iconst (C : Cx p s m args meth c G cc nL own Ts rt) {n : Int} (hd : decode cc pc = .ok (.iconst n, 1)) (k : AW p l e R s m args below meth c G nL Q M (pc + 1) lv (.int (iI n) :: st)) : AW p l e R s m args below meth c G nL Q M pc lv st :=
  fun H locs ls hP hS hl => lv_iconst C.1 C.2.1 hd rfl (k H locs ls hP hS hl)
theorem i8 (n : Int) (h : -128 ≤ n ∧ n ≤ 127) : (Int8.ofInt n).toInt32 = iI n := by
  rw [← Int32.toInt_inj, iI_toInt ⟨by omega, by omega⟩, Int8.toInt_toInt32, Int8.toInt_ofInt, Int.bmod_def, show Int8.size = 256 from rfl]
  split <;> omega
theorem i16 (n : Int) (h : -32768 ≤ n ∧ n ≤ 32767) : (Int16.ofInt n).toInt32 = iI n := by
  rw [← Int32.toInt_inj, iI_toInt ⟨by omega, by omega⟩, Int16.toInt_toInt32, Int16.toInt_ofInt, Int.bmod_def, show Int16.size = 65536 from rfl]
  split <;> omega
theorem A_bipush (C : Cx p s m args meth c G cc nL own Ts rt) {n : Int} (hd : decode cc pc = .ok (.bipush n, 2)) (h : -128 ≤ n ∧ n ≤ 127) (k : AW p l e R s m args below meth c G nL Q M (pc + 2) lv (.int (iI n) :: st)) : AW p l e R s m args below meth c G nL Q M pc lv st :=
  fun H locs ls hP hS hl => lv_bipush C.1 C.2.1 hd (i8 n h) (k H locs ls hP hS hl)
theorem A_sipush (C : Cx p s m args meth c G cc nL own Ts rt) {n : Int} (hd : decode cc pc = .ok (.sipush n, 3)) (h : -32768 ≤ n ∧ n ≤ 32767) (k : AW p l e R s m args below meth c G nL Q M (pc + 3) lv (.int (iI n) :: st)) : AW p l e R s m args below meth c G nL Q M pc lv st :=
  fun H locs ls hP hS hl => lv_sipush C.1 C.2.1 hd (i16 n h) (k H locs ls hP hS hl)
theorem A_lconst0 (C : Cx p s m args meth c G cc nL own Ts rt) (hd : decode cc pc = .ok (.lconst 0, 1)) (k : AW p l e R s m args below meth c G nL Q M (pc + 1) lv (.long (lL 0) :: st)) : AW p l e R s m args below meth c G nL Q M pc lv st :=
  fun H locs ls hP hS hl => lv_lconst C.1 C.2.1 hd (by decide +kernel) (k H locs ls hP hS hl)
theorem A_lconst1 (C : Cx p s m args meth c G cc nL own Ts rt) (hd : decode cc pc = .ok (.lconst 1, 1)) (k : AW p l e R s m args below meth c G nL Q M (pc + 1) lv (.long (lL 1) :: st)) : AW p l e R s m args below meth c G nL Q M pc lv st :=
  fun H locs ls hP hS hl => lv_lconst C.1 C.2.1 hd (by decide +kernel) (k H locs ls hP hS hl)
theorem A_ldc2 (C : Cx p s m args meth c G cc nL own Ts rt) {index : Nat} {v : Int64} {z : Int} (hw : Cond.constantLong own index v ∈ Ts) (hv : v = lL z) (hd : decode cc pc = .ok (.ldc2_w index, 3)) (k : AW p l e R s m args below meth c G nL Q M (pc + 3) lv (.long (lL z) :: st)) : AW p l e R s m args below meth c G nL Q M pc lv st :=
  fun H locs ls hP hS hl => by subst hv; exact lv_ldc2 C.1 C.2.1 C.2.2.2.1 (C.2.2.2.2.1 _ hw) hd (k H locs ls hP hS hl)
theorem A_iloadn (C : Cx p s m args meth c G cc nL own Ts rt) {j : Fin 4} {i : Nat} {z : Int} (hd : decode cc pc = .ok (.iload_n j, 1)) (n : Nat) (h : lv[n]? = some (i, .int (iI z))) (hi : (j : Nat) = i) (k : AW p l e R s m args below meth c G nL Q M (pc + 1) lv (.int (iI z) :: st)) : AW p l e R s m args below meth c G nL Q M pc lv st :=
  fun H locs ls hP hS hl => lv_iload_n C.1 C.2.1 hd hi (lv_at hl n (xLs_at h)) (k H locs ls hP hS hl)
theorem A_iload (C : Cx p s m args meth c G cc nL own Ts rt) {i : Nat} {z : Int} (hd : decode cc pc = .ok (.iload i, 2)) (n : Nat) (h : lv[n]? = some (i, .int (iI z))) (k : AW p l e R s m args below meth c G nL Q M (pc + 2) lv (.int (iI z) :: st)) : AW p l e R s m args below meth c G nL Q M pc lv st :=
  fun H locs ls hP hS hl => lv_iload C.1 C.2.1 hd (lv_at hl n (xLs_at h)) (k H locs ls hP hS hl)
theorem A_lloadn (C : Cx p s m args meth c G cc nL own Ts rt) {j : Fin 4} {i : Nat} {z : Int} (hd : decode cc pc = .ok (.lload_n j, 1)) (n : Nat) (h : lv[n]? = some (i, .long (lL z))) (hi : (j : Nat) = i) (k : AW p l e R s m args below meth c G nL Q M (pc + 1) lv (.long (lL z) :: st)) : AW p l e R s m args below meth c G nL Q M pc lv st :=
  fun H locs ls hP hS hl => lv_lload_n C.1 C.2.1 hd hi (lv_at hl n (xLs_at h)) (k H locs ls hP hS hl)
theorem A_lload (C : Cx p s m args meth c G cc nL own Ts rt) {i : Nat} {z : Int} (hd : decode cc pc = .ok (.lload i, 2)) (n : Nat) (h : lv[n]? = some (i, .long (lL z))) (k : AW p l e R s m args below meth c G nL Q M (pc + 2) lv (.long (lL z) :: st)) : AW p l e R s m args below meth c G nL Q M pc lv st :=
  fun H locs ls hP hS hl => lv_lload C.1 C.2.1 hd (lv_at hl n (xLs_at h)) (k H locs ls hP hS hl)
theorem A_aloadn (C : Cx p s m args meth c G cc nL own Ts rt) {j : Fin 4} {i a : Nat} (hd : decode cc pc = .ok (.aload_n j, 1)) (n : Nat) (h : lv[n]? = some (i, .ref a)) (hi : (j : Nat) = i) (k : AW p l e R s m args below meth c G nL Q M (pc + 1) lv (.ref a :: st)) : AW p l e R s m args below meth c G nL Q M pc lv st :=
  fun H locs ls hP hS hl => lv_aload_n C.1 C.2.1 hd hi (lv_at hl n (xLs_at h)) (k H locs ls hP hS hl)
theorem A_aload (C : Cx p s m args meth c G cc nL own Ts rt) {i a : Nat} (hd : decode cc pc = .ok (.aload i, 2)) (n : Nat) (h : lv[n]? = some (i, .ref a)) (k : AW p l e R s m args below meth c G nL Q M (pc + 2) lv (.ref a :: st)) : AW p l e R s m args below meth c G nL Q M pc lv st :=
  fun H locs ls hP hS hl => lv_aload C.1 C.2.1 hd (lv_at hl n (xLs_at h)) (k H locs ls hP hS hl)
theorem A_istoren (C : Cx p s m args meth c G cc nL own Ts rt) {j : Fin 4} {i : Nat} {z : Int} {lv' : List (Nat × Value)} (hd : decode cc pc = .ok (.istore_n j, 1)) (hi : (j : Nat) = i) (hn : i < nL) (h : xput1 i (.int (iI z)) lv = lv') (k : AW p l e R s m args below meth c G nL Q M (pc + 1) lv' st) : AW p l e R s m args below meth c G nL Q M pc lv (.int (iI z) :: st) :=
  fun H locs ls hP hS hl => lv_istore_n C.1 C.2.1 hd hi hl hn (xput1_ls (v := .int (iI z))) (fun ls' hl' => by subst h; exact k H locs ls' hP hS hl')
theorem A_istore (C : Cx p s m args meth c G cc nL own Ts rt) {i : Nat} {z : Int} {lv' : List (Nat × Value)} (hd : decode cc pc = .ok (.istore i, 2)) (hn : i < nL) (h : xput1 i (.int (iI z)) lv = lv') (k : AW p l e R s m args below meth c G nL Q M (pc + 2) lv' st) : AW p l e R s m args below meth c G nL Q M pc lv (.int (iI z) :: st) :=
  fun H locs ls hP hS hl => lv_istore C.1 C.2.1 hd hl hn (xput1_ls (v := .int (iI z))) (fun ls' hl' => by subst h; exact k H locs ls' hP hS hl')
theorem A_lstoren (C : Cx p s m args meth c G cc nL own Ts rt) {j : Fin 4} {i : Nat} {z : Int} {lv' : List (Nat × Value)} (hd : decode cc pc = .ok (.lstore_n j, 1)) (hi : (j : Nat) = i) (hn : i + 1 < nL) (h : xput2 i (.long (lL z)) lv = lv') (k : AW p l e R s m args below meth c G nL Q M (pc + 1) lv' st) : AW p l e R s m args below meth c G nL Q M pc lv (.long (lL z) :: st) :=
  fun H locs ls hP hS hl => lv_lstore_n C.1 C.2.1 hd hi hl hn (xput2_ls (v := .long (lL z))) (fun ls' hl' => by subst h; exact k H locs ls' hP hS hl')
theorem A_lstore (C : Cx p s m args meth c G cc nL own Ts rt) {i : Nat} {z : Int} {lv' : List (Nat × Value)} (hd : decode cc pc = .ok (.lstore i, 2)) (hn : i + 1 < nL) (h : xput2 i (.long (lL z)) lv = lv') (k : AW p l e R s m args below meth c G nL Q M (pc + 2) lv' st) : AW p l e R s m args below meth c G nL Q M pc lv (.long (lL z) :: st) :=
  fun H locs ls hP hS hl => lv_lstore C.1 C.2.1 hd hl hn (xput2_ls (v := .long (lL z))) (fun ls' hl' => by subst h; exact k H locs ls' hP hS hl')
theorem A_astoren (C : Cx p s m args meth c G cc nL own Ts rt) {j : Fin 4} {i a : Nat} {lv' : List (Nat × Value)} (hd : decode cc pc = .ok (.astore_n j, 1)) (hi : (j : Nat) = i) (hn : i < nL) (h : xput1 i (.ref a) lv = lv') (k : AW p l e R s m args below meth c G nL Q M (pc + 1) lv' st) : AW p l e R s m args below meth c G nL Q M pc lv (.ref a :: st) :=
  fun H locs ls hP hS hl => lv_astore_n C.1 C.2.1 hd hi hl hn (xput1_ls (v := .ref a)) (fun ls' hl' => by subst h; exact k H locs ls' hP hS hl')
theorem A_astore (C : Cx p s m args meth c G cc nL own Ts rt) {i a : Nat} {lv' : List (Nat × Value)} (hd : decode cc pc = .ok (.astore i, 2)) (hn : i < nL) (h : xput1 i (.ref a) lv = lv') (k : AW p l e R s m args below meth c G nL Q M (pc + 2) lv' st) : AW p l e R s m args below meth c G nL Q M pc lv (.ref a :: st) :=
  fun H locs ls hP hS hl => lv_astore C.1 C.2.1 hd hl hn (xput1_ls (v := .ref a)) (fun ls' hl' => by subst h; exact k H locs ls' hP hS hl')
theorem A_iinc (C : Cx p s m args meth c G cc nL own Ts rt) {i : Nat} {d z : Int} {lv' : List (Nat × Value)} (hd : decode cc pc = .ok (.iinc i d, 3)) (n : Nat) (h : lv[n]? = some (i, .int (iI z))) (hn : i < nL) (h' : xput1 i (.int (iI (z + d))) lv = lv') (k : AW p l e R s m args below meth c G nL Q M (pc + 3) lv' st) : AW p l e R s m args below meth c G nL Q M pc lv st :=
  fun H locs ls hP hS hl => lv_iinc C.1 C.2.1 hd hl (xLs_at h) (iI_add z d) hn (xput1_ls (v := .int (iI (z + d)))) (fun ls' hl' => by subst h'; exact k H locs ls' hP hS hl')
theorem A_pick (ks : List Nat) {lv' : List (Nat × Value)} (h : lv_pick lv ks = lv') (k : AW p l e R s m args below meth c G nL Q M pc lv' st) : AW p l e R s m args below meth c G nL Q M pc lv st :=
  fun H locs ls hP hS hl => k H locs ls hP hS (lv_sub hl ks (by
    subst h
    unfold lv_pick xLs
    rw [List.map_filterMap]
    congr 1
    funext q
    rw [List.getElem?_map]))
theorem A_iadd (C : Cx p s m args meth c G cc nL own Ts rt) {a b : Int} (hd : decode cc pc = .ok (.iadd, 1)) (k : AW p l e R s m args below meth c G nL Q M (pc + 1) lv (.int (iI (a + b)) :: st)) : AW p l e R s m args below meth c G nL Q M pc lv (.int (iI b) :: .int (iI a) :: st) :=
  fun H locs ls hP hS hl => lv_iadd C.1 C.2.1 hd (by rw [iI_add]; exact k H locs ls hP hS hl)
theorem A_isub (C : Cx p s m args meth c G cc nL own Ts rt) {a b : Int} (hd : decode cc pc = .ok (.isub, 1)) (k : AW p l e R s m args below meth c G nL Q M (pc + 1) lv (.int (iI (a - b)) :: st)) : AW p l e R s m args below meth c G nL Q M pc lv (.int (iI b) :: .int (iI a) :: st) :=
  fun H locs ls hP hS hl => lv_isub C.1 C.2.1 hd (by rw [iI_sub]; exact k H locs ls hP hS hl)
theorem A_imul (C : Cx p s m args meth c G cc nL own Ts rt) {a b : Int} (hd : decode cc pc = .ok (.imul, 1)) (k : AW p l e R s m args below meth c G nL Q M (pc + 1) lv (.int (iI (a * b)) :: st)) : AW p l e R s m args below meth c G nL Q M pc lv (.int (iI b) :: .int (iI a) :: st) :=
  fun H locs ls hP hS hl => lv_imul C.1 C.2.1 hd (by rw [iI_mul]; exact k H locs ls hP hS hl)
theorem A_ladd (C : Cx p s m args meth c G cc nL own Ts rt) {a b : Int} (hd : decode cc pc = .ok (.ladd, 1)) (k : AW p l e R s m args below meth c G nL Q M (pc + 1) lv (.long (lL (a + b)) :: st)) : AW p l e R s m args below meth c G nL Q M pc lv (.long (lL b) :: .long (lL a) :: st) :=
  fun H locs ls hP hS hl => lv_ladd C.1 C.2.1 hd (by rw [lL_add]; exact k H locs ls hP hS hl)
theorem A_lsub (C : Cx p s m args meth c G cc nL own Ts rt) {a b : Int} (hd : decode cc pc = .ok (.lsub, 1)) (k : AW p l e R s m args below meth c G nL Q M (pc + 1) lv (.long (lL (a - b)) :: st)) : AW p l e R s m args below meth c G nL Q M pc lv (.long (lL b) :: .long (lL a) :: st) :=
  fun H locs ls hP hS hl => lv_lsub C.1 C.2.1 hd (by rw [lL_sub]; exact k H locs ls hP hS hl)
theorem A_lmul (C : Cx p s m args meth c G cc nL own Ts rt) {a b : Int} (hd : decode cc pc = .ok (.lmul, 1)) (k : AW p l e R s m args below meth c G nL Q M (pc + 1) lv (.long (lL (a * b)) :: st)) : AW p l e R s m args below meth c G nL Q M pc lv (.long (lL b) :: .long (lL a) :: st) :=
  fun H locs ls hP hS hl => lv_lmul C.1 C.2.1 hd (by rw [lL_mul]; exact k H locs ls hP hS hl)
/-- the number on top, by a name of its own within the ints -/
theorem A_topi {x : Int} (k : ∀ z : Int, r32 z → iI x = iI z → AW p l e R s m args below meth c G nL Q M pc lv (.int (iI z) :: st)) : AW p l e R s m args below meth c G nL Q M pc lv (.int (iI x) :: st) := by
  have h : iI x = iI (iI x).toInt := iI_of (iI x)
  rw [h]
  exact k _ (i_r32 _) h
theorem A_topl {x : Int} (k : ∀ z : Int, r64 z → lL x = lL z → AW p l e R s m args below meth c G nL Q M pc lv (.long (lL z) :: st)) : AW p l e R s m args below meth c G nL Q M pc lv (.long (lL x) :: st) := by
  have h : lL x = lL (lL x).toInt := lL_of (lL x)
  rw [h]
  exact k _ (l_r64 _) h
/-- .. exactly, under a name -/
theorem A_nami {x : Int} (k : ∀ z : Int, z = x → AW p l e R s m args below meth c G nL Q M pc lv (.int (iI z) :: st)) : AW p l e R s m args below meth c G nL Q M pc lv (.int (iI x) :: st) := k x rfl
theorem A_naml {x : Int} (k : ∀ z : Int, z = x → AW p l e R s m args below meth c G nL Q M pc lv (.long (lL z) :: st)) : AW p l e R s m args below meth c G nL Q M pc lv (.long (lL x) :: st) := k x rfl
theorem A_goto (C : Cx p s m args meth c G cc nL own Ts rt) {off : Int} (tgt : Nat) (hd : decode cc pc = .ok (.goto off, 3)) (ht : (pc : Int) + off = (tgt : Int)) (k : AW p l e R s m args below meth c G nL Q M tgt lv st) : AW p l e R s m args below meth c G nL Q M pc lv st :=
  fun H locs ls hP hS hl => lv_goto C.1 C.2.1 hd ht (k H locs ls hP hS hl)
theorem A_icmplt (C : Cx p s m args meth c G cc nL own Ts rt) {a b off : Int} (tgt : Nat) (hd : decode cc pc = .ok (.if_icmp .lt off, 3)) (ht : (pc : Int) + off = (tgt : Int)) (ha : r32 a) (hb : r32 b) (k1 : a < b → AW p l e R s m args below meth c G nL Q M tgt lv st) (k2 : b ≤ a → AW p l e R s m args below meth c G nL Q M (pc + 3) lv st) : AW p l e R s m args below meth c G nL Q M pc lv (.int (iI b) :: .int (iI a) :: st) :=
  fun H locs ls hP hS hl => lv_icmp_lt C.1 C.2.1 hd ht (fun h => k1 ((iI_lt ha hb).mp h) H locs ls hP hS hl) (fun h => k2 (Int.not_lt.mp (fun q => h ((iI_lt ha hb).mpr q))) H locs ls hP hS hl)
theorem A_icmpge (C : Cx p s m args meth c G cc nL own Ts rt) {a b off : Int} (tgt : Nat) (hd : decode cc pc = .ok (.if_icmp .ge off, 3)) (ht : (pc : Int) + off = (tgt : Int)) (ha : r32 a) (hb : r32 b) (k1 : b ≤ a → AW p l e R s m args below meth c G nL Q M tgt lv st) (k2 : a < b → AW p l e R s m args below meth c G nL Q M (pc + 3) lv st) : AW p l e R s m args below meth c G nL Q M pc lv (.int (iI b) :: .int (iI a) :: st) :=
  fun H locs ls hP hS hl => lv_icmp_ge C.1 C.2.1 hd ht (fun h => k1 ((iI_le hb ha).mp h) H locs ls hP hS hl) (fun h => k2 (Int.not_le.mp (fun q => h ((iI_le hb ha).mpr q))) H locs ls hP hS hl)
theorem A_icmpgt (C : Cx p s m args meth c G cc nL own Ts rt) {a b off : Int} (tgt : Nat) (hd : decode cc pc = .ok (.if_icmp .gt off, 3)) (ht : (pc : Int) + off = (tgt : Int)) (ha : r32 a) (hb : r32 b) (k1 : b < a → AW p l e R s m args below meth c G nL Q M tgt lv st) (k2 : a ≤ b → AW p l e R s m args below meth c G nL Q M (pc + 3) lv st) : AW p l e R s m args below meth c G nL Q M pc lv (.int (iI b) :: .int (iI a) :: st) :=
  fun H locs ls hP hS hl => lv_icmp_gt C.1 C.2.1 hd ht (fun h => k1 ((iI_lt hb ha).mp h) H locs ls hP hS hl) (fun h => k2 (Int.not_lt.mp (fun q => h ((iI_lt hb ha).mpr q))) H locs ls hP hS hl)
theorem A_icmple (C : Cx p s m args meth c G cc nL own Ts rt) {a b off : Int} (tgt : Nat) (hd : decode cc pc = .ok (.if_icmp .le off, 3)) (ht : (pc : Int) + off = (tgt : Int)) (ha : r32 a) (hb : r32 b) (k1 : a ≤ b → AW p l e R s m args below meth c G nL Q M tgt lv st) (k2 : b < a → AW p l e R s m args below meth c G nL Q M (pc + 3) lv st) : AW p l e R s m args below meth c G nL Q M pc lv (.int (iI b) :: .int (iI a) :: st) :=
  fun H locs ls hP hS hl => lv_icmp_le C.1 C.2.1 hd ht (fun h => k1 ((iI_le ha hb).mp h) H locs ls hP hS hl) (fun h => k2 (Int.not_le.mp (fun q => h ((iI_le ha hb).mpr q))) H locs ls hP hS hl)
theorem A_icmpeq (C : Cx p s m args meth c G cc nL own Ts rt) {a b off : Int} (tgt : Nat) (hd : decode cc pc = .ok (.if_icmp .eq off, 3)) (ht : (pc : Int) + off = (tgt : Int)) (ha : r32 a) (hb : r32 b) (k1 : a = b → AW p l e R s m args below meth c G nL Q M tgt lv st) (k2 : ¬ a = b → AW p l e R s m args below meth c G nL Q M (pc + 3) lv st) : AW p l e R s m args below meth c G nL Q M pc lv (.int (iI b) :: .int (iI a) :: st) :=
  fun H locs ls hP hS hl => lv_icmp_eq C.1 C.2.1 hd ht (fun h => k1 ((iI_eq ha hb).mp h) H locs ls hP hS hl) (fun h => k2 (fun q => h ((iI_eq ha hb).mpr q)) H locs ls hP hS hl)
theorem A_icmpne (C : Cx p s m args meth c G cc nL own Ts rt) {a b off : Int} (tgt : Nat) (hd : decode cc pc = .ok (.if_icmp .ne off, 3)) (ht : (pc : Int) + off = (tgt : Int)) (ha : r32 a) (hb : r32 b) (k1 : ¬ a = b → AW p l e R s m args below meth c G nL Q M tgt lv st) (k2 : a = b → AW p l e R s m args below meth c G nL Q M (pc + 3) lv st) : AW p l e R s m args below meth c G nL Q M pc lv (.int (iI b) :: .int (iI a) :: st) :=
  fun H locs ls hP hS hl => lv_icmp_ne C.1 C.2.1 hd ht (fun h => k1 (fun q => h ((iI_eq ha hb).mpr q)) H locs ls hP hS hl) (fun h => k2 ((iI_eq ha hb).mp h) H locs ls hP hS hl)
theorem A_iflt (C : Cx p s m args meth c G cc nL own Ts rt) {a off : Int} (tgt : Nat) (hd : decode cc pc = .ok (.ifCond .lt off, 3)) (ht : (pc : Int) + off = (tgt : Int)) (ha : r32 a) (k1 : a < 0 → AW p l e R s m args below meth c G nL Q M tgt lv st) (k2 : 0 ≤ a → AW p l e R s m args below meth c G nL Q M (pc + 3) lv st) : AW p l e R s m args below meth c G nL Q M pc lv (.int (iI a) :: st) :=
  fun H locs ls hP hS hl => lv_if_lt C.1 C.2.1 hd ht (fun h => k1 ((iI_lt ha (by decide)).mp (by rw [iI_0]; exact h)) H locs ls hP hS hl) (fun h => k2 (Int.not_lt.mp (fun q => h (by rw [← iI_0]; exact (iI_lt ha (by decide)).mpr q))) H locs ls hP hS hl)
theorem A_ifge (C : Cx p s m args meth c G cc nL own Ts rt) {a off : Int} (tgt : Nat) (hd : decode cc pc = .ok (.ifCond .ge off, 3)) (ht : (pc : Int) + off = (tgt : Int)) (ha : r32 a) (k1 : 0 ≤ a → AW p l e R s m args below meth c G nL Q M tgt lv st) (k2 : a < 0 → AW p l e R s m args below meth c G nL Q M (pc + 3) lv st) : AW p l e R s m args below meth c G nL Q M pc lv (.int (iI a) :: st) :=
  fun H locs ls hP hS hl => lv_if_ge C.1 C.2.1 hd ht (fun h => k1 ((iI_le (by decide) ha).mp (by rw [iI_0]; exact h)) H locs ls hP hS hl) (fun h => k2 (Int.not_le.mp (fun q => h (by rw [← iI_0]; exact (iI_le (by decide) ha).mpr q))) H locs ls hP hS hl)
theorem A_ifgt (C : Cx p s m args meth c G cc nL own Ts rt) {a off : Int} (tgt : Nat) (hd : decode cc pc = .ok (.ifCond .gt off, 3)) (ht : (pc : Int) + off = (tgt : Int)) (ha : r32 a) (k1 : 0 < a → AW p l e R s m args below meth c G nL Q M tgt lv st) (k2 : a ≤ 0 → AW p l e R s m args below meth c G nL Q M (pc + 3) lv st) : AW p l e R s m args below meth c G nL Q M pc lv (.int (iI a) :: st) :=
  fun H locs ls hP hS hl => lv_if_gt C.1 C.2.1 hd ht (fun h => k1 ((iI_lt (by decide) ha).mp (by rw [iI_0]; exact h)) H locs ls hP hS hl) (fun h => k2 (Int.not_lt.mp (fun q => h (by rw [← iI_0]; exact (iI_lt (by decide) ha).mpr q))) H locs ls hP hS hl)
theorem A_ifle (C : Cx p s m args meth c G cc nL own Ts rt) {a off : Int} (tgt : Nat) (hd : decode cc pc = .ok (.ifCond .le off, 3)) (ht : (pc : Int) + off = (tgt : Int)) (ha : r32 a) (k1 : a ≤ 0 → AW p l e R s m args below meth c G nL Q M tgt lv st) (k2 : 0 < a → AW p l e R s m args below meth c G nL Q M (pc + 3) lv st) : AW p l e R s m args below meth c G nL Q M pc lv (.int (iI a) :: st) :=
  fun H locs ls hP hS hl => lv_if_le C.1 C.2.1 hd ht (fun h => k1 ((iI_le ha (by decide)).mp (by rw [iI_0]; exact h)) H locs ls hP hS hl) (fun h => k2 (Int.not_le.mp (fun q => h (by rw [← iI_0]; exact (iI_le ha (by decide)).mpr q))) H locs ls hP hS hl)
theorem A_ifeq (C : Cx p s m args meth c G cc nL own Ts rt) {a off : Int} (tgt : Nat) (hd : decode cc pc = .ok (.ifCond .eq off, 3)) (ht : (pc : Int) + off = (tgt : Int)) (ha : r32 a) (k1 : a = 0 → AW p l e R s m args below meth c G nL Q M tgt lv st) (k2 : ¬ a = 0 → AW p l e R s m args below meth c G nL Q M (pc + 3) lv st) : AW p l e R s m args below meth c G nL Q M pc lv (.int (iI a) :: st) :=
  fun H locs ls hP hS hl => lv_if_eq C.1 C.2.1 hd ht (fun h => k1 ((iI_eq ha (by decide)).mp (by rw [iI_0]; exact h)) H locs ls hP hS hl) (fun h => k2 (fun q => h (by rw [← iI_0]; exact (iI_eq ha (by decide)).mpr q)) H locs ls hP hS hl)
theorem A_ifne (C : Cx p s m args meth c G cc nL own Ts rt) {a off : Int} (tgt : Nat) (hd : decode cc pc = .ok (.ifCond .ne off, 3)) (ht : (pc : Int) + off = (tgt : Int)) (ha : r32 a) (k1 : ¬ a = 0 → AW p l e R s m args below meth c G nL Q M tgt lv st) (k2 : a = 0 → AW p l e R s m args below meth c G nL Q M (pc + 3) lv st) : AW p l e R s m args below meth c G nL Q M pc lv (.int (iI a) :: st) :=
  fun H locs ls hP hS hl => lv_if_ne C.1 C.2.1 hd ht (fun h => k1 (fun q => h (by rw [← iI_0]; exact (iI_eq ha (by decide)).mpr q)) H locs ls hP hS hl) (fun h => k2 ((iI_eq ha (by decide)).mp (by rw [iI_0]; exact h)) H locs ls hP hS hl)
theorem A_dup (C : Cx p s m args meth c G cc nL own Ts rt) {v : Value} (hd : decode cc pc = .ok (.dup, 1)) (hv : v.category = 1) (k : AW p l e R s m args below meth c G nL Q M (pc + 1) lv (v :: v :: st)) : AW p l e R s m args below meth c G nL Q M pc lv (v :: st) :=
  fun H locs ls hP hS hl => lv_dup C.1 C.2.1 hd (by rw [cv_cat]; exact hv) (k H locs ls hP hS hl)
theorem A_pop (C : Cx p s m args meth c G cc nL own Ts rt) {v : Value} (hd : decode cc pc = .ok (.pop, 1)) (hv : v.category = 1) (k : AW p l e R s m args below meth c G nL Q M (pc + 1) lv st) : AW p l e R s m args below meth c G nL Q M pc lv (v :: st) :=
  fun H locs ls hP hS hl => lv_pop C.1 C.2.1 hd (by rw [cv_cat]; exact hv) (k H locs ls hP hS hl)
theorem A_pop2 (C : Cx p s m args meth c G cc nL own Ts rt) {v : Value} (hd : decode cc pc = .ok (.pop2, 1)) (hv : v.category = 2) (k : AW p l e R s m args below meth c G nL Q M (pc + 1) lv st) : AW p l e R s m args below meth c G nL Q M pc lv (v :: st) :=
  fun H locs ls hP hS hl => lv_pop2_2 C.1 C.2.1 hd (by rw [cv_cat]; exact hv) (k H locs ls hP hS hl)
end AWR
end
section
/-! the memory's cells read and written -/
theorem kd_lt {a r : Nat} (h : kd a = r) (hr : (r == 99) = false) : a < nAll := by
  rw [← kdL_len]
  apply Classical.byContradiction
  intro hn
  have h1 : kd a = 99 := by
    unfold kd
    rw [List.getD_eq_getElem?_getD, List.getElem?_eq_none (by omega)]
    rfl
  rw [h] at h1
  rw [h1] at hr
  exact absurd hr (by decide)
theorem xE_0 {G : xG} {M : Mem} {a ci : Nat} (h : shp (kd a) = (0, ci)) : xE G M a = .inr (ci, xFs G.2.2 M a 0 (fks ci)) := by unfold xE; rw [h]; rfl
theorem xE_1 {G : xG} {M : Mem} {a n : Nat} (h : shp (kd a) = (1, n)) : xE G M a = .inl (G.2.1 0, n, .inl (fun j => iI (M.1 a j))) := by unfold xE; rw [h]; rfl
theorem xE_2 {G : xG} {M : Mem} {a n : Nat} (h : shp (kd a) = (2, n)) : xE G M a = .inl (G.2.1 1, n, .inr (.inl (fun j => lL (M.2.1 a j)))) := by unfold xE; rw [h]; rfl
theorem xE_3 {G : xG} {M : Mem} {a n : Nat} (h : shp (kd a) = (3, n)) : xE G M a = .inl (G.2.1 2, n, .inl (fun j => iI (M.1 a j))) := by unfold xE; rw [h]; rfl
theorem xE_4 {G : xG} {M : Mem} {a n : Nat} (h : shp (kd a) = (4, n)) : xE G M a = .inl (G.2.1 3, n, .inr (.inr (.inr (.inr (fun j => (M.2.2 a j).map (G.2.2 + ·)))))) := by unfold xE; rw [h]; rfl
theorem sI_E {G : xG} {M : Mem} {a ci k t : Nat} {z : Int} (h : shp (kd a) = (0, ci)) (ht : (fks ci)[k]? = some t) (h1 : (t == 1) = false) (h2 : (t == 2) = false) : xE G (sI M a k z) a = .inr (ci, (xFs G.2.2 M a 0 (fks ci)).set k (.int (iI z))) := by
  rw [xE_0 h]
  congr 2
  refine (xFs_set (fks ci) 0 k t ht ?_ (fun j u hj hu _ => ?_)).symm
  · have e : xF G.2.2 (sI M a k z) a (0 + k) t = .int (iI ((sI M a k z).1 a (0 + k))) := by
      unfold xF
      split
      · simp at h1
      · simp at h2
      · rfl
    rw [e, Nat.zero_add, sI_at]
  · unfold xF
    rw [sI_ne (by omega)]
    rfl
theorem sL_E {G : xG} {M : Mem} {a ci k : Nat} {z : Int} (h : shp (kd a) = (0, ci)) (ht : (fks ci)[k]? = some 1) : xE G (sL M a k z) a = .inr (ci, (xFs G.2.2 M a 0 (fks ci)).set k (.long (lL z))) := by
  rw [xE_0 h]
  congr 2
  refine (xFs_set (fks ci) 0 k 1 ht ?_ (fun j u hj hu _ => ?_)).symm
  · rw [Nat.zero_add]
    show Value.long (lL ((sL M a k z).2.1 a k)) = _
    simp [sL]
  · unfold xF
    have e : (sL M a k z).2.1 a j = M.2.1 a j := by
      have hne : ¬ j = k := by omega
      simp [sL, hne]
    rw [e]
    rfl
theorem sR_E {G : xG} {M : Mem} {a ci k b : Nat} (h : shp (kd a) = (0, ci)) (ht : (fks ci)[k]? = some 2) : xE G (sR M a k (some b)) a = .inr (ci, (xFs G.2.2 M a 0 (fks ci)).set k (.ref (G.2.2 + b))) := by
  rw [xE_0 h]
  congr 2
  refine (xFs_set (fks ci) 0 k 2 ht ?_ (fun j u hj hu _ => ?_)).symm
  · rw [Nat.zero_add]
    show va_rf (((sR M a k (some b)).2.2 a k).map _) = _
    simp [sR, va_rf]
  · unfold xF
    have e : (sR M a k (some b)).2.2 a j = M.2.2 a j := by
      have hne : ¬ j = k := by omega
      simp [sR, hne]
    rw [e]
    rfl
theorem sI_ws {G : xG} {M : Mem} {a k : Nat} {z : Int} {e : va_E} (ha : a < nAll) (he : xE G (sI M a k z) a = e) : (xWs G nAll M).set a (G.2.2 + a, e) = xWs G nAll (sI M a k z) := xWs_set ha he (fun b hb => xE_o (sI_o hb) rfl rfl)
theorem sL_ws {G : xG} {M : Mem} {a k : Nat} {z : Int} {e : va_E} (ha : a < nAll) (he : xE G (sL M a k z) a = e) : (xWs G nAll M).set a (G.2.2 + a, e) = xWs G nAll (sL M a k z) := xWs_set ha he (fun b hb => xE_o rfl (sL_o hb) rfl)
theorem sR_ws {G : xG} {M : Mem} {a k : Nat} {z : Option Nat} {e : va_E} (ha : a < nAll) (he : xE G (sR M a k z) a = e) : (xWs G nAll M).set a (G.2.2 + a, e) = xWs G nAll (sR M a k z) := xWs_set ha he (fun b hb => xE_o rfl rfl (sR_o hb))
theorem xAt {G : xG} {M : Mem} {a r : Nat} {e : va_E} (hr : kd a = r) (h9 : (r == 99) = false) (he : xE G M a = e) : (xWs G nAll M)[a]? = some (G.2.2 + a, e) := by rw [xWs_at (kd_lt hr h9), he]
section AWH
variable {p : Program} {l : Launch} {e : Env} {R : Room} {s : State} {m : MethodId} {args : Array Value} {below : List Frame} {meth : Method} {c : Code} {G : xG} {nL : Nat} {Q : State → Prop} {M : Mem} {pc : Nat} {lv : List (Nat × Value)} {st : List Value} {cc : ByteArray} {own : String} {Ts : List Cond} {rt : Option FieldType}
/-- what a field's instruction needs: its class in the tables, the words -/
abbrev Fl (own : String) (Ts : List Cond) (ci k index : Nat) (Cn : String) (T : u_T) (N : Nat) : Prop := vwCl[ci]? = some (Cn, T, N) ∧ k < N ∧ (∀ w ∈ u_ws Cn T N, w ∈ Ts) ∧ Cond.fieldLink own index (T k).1 (T k).2.1 (T k).2.2.1 ∈ Ts
theorem A_getI (C : Cx p s m args meth c G cc nL own Ts rt) {a r ci k t index : Nat} {Cn : String} {T : u_T} {N : Nat} (hr : kd a = r) (h9 : (r == 99) = false) (hs : shp r = (0, ci)) (ht : (fks ci)[k]? = some t) (h1 : (t == 1) = false) (h2 : (t == 2) = false) (F : Fl own Ts ci k index Cn T N) (hd : decode cc pc = .ok (.getfield index, 3))
    (kk : AW p l e R s m args below meth c G nL Q M (pc + 3) lv (.int (iI (M.1 a k)) :: st)) : AW p l e R s m args below meth c G nL Q M pc lv (.ref a :: st) :=
  fun H locs ls hP hS hl => va_get C.1 C.2.1 C.2.2.2.2.1 F.2.2.1 C.2.2.2.1 C.2.2.2.2.2.1 hP a (xAt hr h9 (xE_0 (by rw [hr]; exact hs))) F.1 k F.2.1 (C.2.2.2.2.1 _ F.2.2.2) (fun _ h => h) (v := .int (iI (M.1 a k))) (by
    rw [xFs_at (fks ci) 0 k t ht, Nat.zero_add]
    unfold xF
    split
    · simp at h1
    · simp at h2
    · rfl) hd (kk H locs ls hP hS hl)
theorem A_getL (C : Cx p s m args meth c G cc nL own Ts rt) {a r ci k index : Nat} {Cn : String} {T : u_T} {N : Nat} (hr : kd a = r) (h9 : (r == 99) = false) (hs : shp r = (0, ci)) (ht : (fks ci)[k]? = some 1) (F : Fl own Ts ci k index Cn T N) (hd : decode cc pc = .ok (.getfield index, 3))
    (kk : AW p l e R s m args below meth c G nL Q M (pc + 3) lv (.long (lL (M.2.1 a k)) :: st)) : AW p l e R s m args below meth c G nL Q M pc lv (.ref a :: st) :=
  fun H locs ls hP hS hl => va_get C.1 C.2.1 C.2.2.2.2.1 F.2.2.1 C.2.2.2.1 C.2.2.2.2.2.1 hP a (xAt hr h9 (xE_0 (by rw [hr]; exact hs))) F.1 k F.2.1 (C.2.2.2.2.1 _ F.2.2.2) (fun _ h => h) (v := .long (lL (M.2.1 a k))) (by
    rw [xFs_at (fks ci) 0 k 1 ht, Nat.zero_add]
    rfl) hd (kk H locs ls hP hS hl)
theorem A_getR (C : Cx p s m args meth c G cc nL own Ts rt) {a r ci k index b : Nat} {Cn : String} {T : u_T} {N : Nat} (hr : kd a = r) (h9 : (r == 99) = false) (hs : shp r = (0, ci)) (ht : (fks ci)[k]? = some 2) (hb : M.2.2 a k = some b) (F : Fl own Ts ci k index Cn T N) (hd : decode cc pc = .ok (.getfield index, 3))
    (kk : AW p l e R s m args below meth c G nL Q M (pc + 3) lv (.ref b :: st)) : AW p l e R s m args below meth c G nL Q M pc lv (.ref a :: st) :=
  fun H locs ls hP hS hl => va_get C.1 C.2.1 C.2.2.2.2.1 F.2.2.1 C.2.2.2.1 C.2.2.2.2.2.1 hP a (xAt hr h9 (xE_0 (by rw [hr]; exact hs))) F.1 k F.2.1 (C.2.2.2.2.1 _ F.2.2.2) (fun _ h => h) (v := .ref (G.2.2 + b)) (by
    rw [xFs_at (fks ci) 0 k 2 ht, Nat.zero_add]
    show some (va_rf ((M.2.2 a k).map _)) = _
    rw [hb]
    rfl) hd (kk H locs ls hP hS hl)
abbrev Fp (ci k : Nat) (T : u_T) (N : Nat) (ty0 : Nat → FieldType) : Prop := (∀ k, k < N → parseFieldDescriptor (T k).2.2.1 = some (ty0 k)) ∧ (∀ a, a < N → ∀ b, b < N → a ≠ b → (T a).2.1 ≠ (T b).2.1) ∧ (T k).2.2.2 = false ∧ k < (fks ci).length
theorem A_putI (C : Cx p s m args meth c G cc nL own Ts rt) {a r ci k t index : Nat} {Cn : String} {T : u_T} {N : Nat} {ty0 : Nat → FieldType} {z : Int} (hr : kd a = r) (h9 : (r == 99) = false) (hs : shp r = (0, ci)) (ht : (fks ci)[k]? = some t) (h1 : (t == 1) = false) (h2 : (t == 2) = false) (F : Fl own Ts ci k index Cn T N) (P : Fp ci k T N ty0) (hy : ty0 k = .int ∨ (ty0 k = .boolean ∧ (z = 0 ∨ z = 1))) (hd : decode cc pc = .ok (.putfield index, 3))
    (kk : AW p l e R s m args below meth c G nL Q (sI M a k z) (pc + 3) lv st) : AW p l e R s m args below meth c G nL Q M pc lv (.int (iI z) :: .ref a :: st) := by
  intro H locs ls hP hS hl
  have hsh : shp (kd a) = (0, ci) := by rw [hr]; exact hs
  have hn : narrow (ty0 k) (.int (iI z)) = .int (iI z) := by
    rcases hy with h | ⟨h, hz⟩
    · rw [h]; rfl
    · rw [h]; exact iI_bool hz
  have hf : fits (ty0 k) (.int (iI z)) = true := by
    rcases hy with h | ⟨h, hz⟩
    · rw [h]; rfl
    · rw [h]; rcases hz with rfl | rfl <;> decide +kernel
  refine va_put C.1 C.2.1 C.2.2.2.2.1 F.2.2.1 ty0 P.1 P.2.1 C.2.2.2.1 C.2.2.2.2.2.1 hP xD hS a (xAt hr h9 (xE_0 hsh)) F.1 k F.2.1 (C.2.2.2.2.1 _ F.2.2.2) (fun _ h => h) P.2.2.1 (ty := ty0 k) (v := .int (iI z)) (P.1 k F.2.1) hn hf (by rw [xFs_len]; exact P.2.2.2) hd (fun H1 locs1 hP1 _ hS1 => ?_)
  rw [sI_ws (kd_lt hr h9) (sI_E hsh ht h1 h2)] at hP1
  exact kk H1 locs1 ls hP1 hS1 hl
theorem A_putL (C : Cx p s m args meth c G cc nL own Ts rt) {a r ci k index : Nat} {Cn : String} {T : u_T} {N : Nat} {ty0 : Nat → FieldType} {z : Int} (hr : kd a = r) (h9 : (r == 99) = false) (hs : shp r = (0, ci)) (ht : (fks ci)[k]? = some 1) (F : Fl own Ts ci k index Cn T N) (P : Fp ci k T N ty0) (hy : ty0 k = .long) (hd : decode cc pc = .ok (.putfield index, 3))
    (kk : AW p l e R s m args below meth c G nL Q (sL M a k z) (pc + 3) lv st) : AW p l e R s m args below meth c G nL Q M pc lv (.long (lL z) :: .ref a :: st) := by
  intro H locs ls hP hS hl
  have hsh : shp (kd a) = (0, ci) := by rw [hr]; exact hs
  refine va_put C.1 C.2.1 C.2.2.2.2.1 F.2.2.1 ty0 P.1 P.2.1 C.2.2.2.1 C.2.2.2.2.2.1 hP xD hS a (xAt hr h9 (xE_0 hsh)) F.1 k F.2.1 (C.2.2.2.2.1 _ F.2.2.2) (fun _ h => h) P.2.2.1 (ty := ty0 k) (v := .long (lL z)) (P.1 k F.2.1) (by rw [hy]; rfl) (by rw [hy]; rfl) (by rw [xFs_len]; exact P.2.2.2) hd (fun H1 locs1 hP1 _ hS1 => ?_)
  rw [sL_ws (kd_lt hr h9) (sL_E hsh ht)] at hP1
  exact kk H1 locs1 ls hP1 hS1 hl
theorem A_putR (C : Cx p s m args meth c G cc nL own Ts rt) {a r ci k index b : Nat} {Cn : String} {T : u_T} {N : Nat} {ty0 : Nat → FieldType} {nm : String} (hr : kd a = r) (h9 : (r == 99) = false) (hs : shp r = (0, ci)) (ht : (fks ci)[k]? = some 2) (F : Fl own Ts ci k index Cn T N) (P : Fp ci k T N ty0) (hy : ty0 k = .object nm) (hd : decode cc pc = .ok (.putfield index, 3))
    (kk : AW p l e R s m args below meth c G nL Q (sR M a k (some b)) (pc + 3) lv st) : AW p l e R s m args below meth c G nL Q M pc lv (.ref b :: .ref a :: st) := by
  intro H locs ls hP hS hl
  have hsh : shp (kd a) = (0, ci) := by rw [hr]; exact hs
  refine va_put C.1 C.2.1 C.2.2.2.2.1 F.2.2.1 ty0 P.1 P.2.1 C.2.2.2.1 C.2.2.2.2.2.1 hP xD hS a (xAt hr h9 (xE_0 hsh)) F.1 k F.2.1 (C.2.2.2.2.1 _ F.2.2.2) (fun _ h => h) P.2.2.1 (ty := ty0 k) (v := .ref (G.2.2 + b)) (P.1 k F.2.1) (by rw [hy]; rfl) (by rw [hy]; rfl) (by rw [xFs_len]; exact P.2.2.2) hd (fun H1 locs1 hP1 _ hS1 => ?_)
  rw [sR_ws (kd_lt hr h9) (sR_E hsh ht)] at hP1
  exact kk H1 locs1 ls hP1 hS1 hl
theorem A_iald (C : Cx p s m args meth c G cc nL own Ts rt) {a r n : Nat} {z : Int} (hr : kd a = r) (h9 : (r == 99) = false) (hs : shp r = (1, n)) (hn : n < 2 ^ 31) (h0 : 0 ≤ z) (h1 : z < n) (hd : decode cc pc = .ok (.iaload, 1))
    (kk : AW p l e R s m args below meth c G nL Q M (pc + 1) lv (.int (iI (M.1 a z.toNat)) :: st)) : AW p l e R s m args below meth c G nL Q M pc lv (.int (iI z) :: .ref a :: st) :=
  fun H locs ls hP hS hl => va_iald C.1 C.2.1 C.2.2.2.2.2.1 hP a 0 (xAt hr h9 (xE_1 (by rw [hr]; exact hs))) rfl (iI_in h0 h1 hn) hd (by
    rw [iI_cl h0 (by omega)]
    exact kk H locs ls hP hS hl)
theorem A_zald (C : Cx p s m args meth c G cc nL own Ts rt) {a r n : Nat} {z : Int} (hr : kd a = r) (h9 : (r == 99) = false) (hs : shp r = (3, n)) (hn : n < 2 ^ 31) (h0 : 0 ≤ z) (h1 : z < n) (hd : decode cc pc = .ok (.baload, 1))
    (kk : AW p l e R s m args below meth c G nL Q M (pc + 1) lv (.int (iI (M.1 a z.toNat)) :: st)) : AW p l e R s m args below meth c G nL Q M pc lv (.int (iI z) :: .ref a :: st) :=
  fun H locs ls hP hS hl => va_zald C.1 C.2.1 C.2.2.2.2.2.1 hP a 2 (xAt hr h9 (xE_3 (by rw [hr]; exact hs))) rfl (iI_in h0 h1 hn) hd (by
    rw [iI_cl h0 (by omega)]
    exact kk H locs ls hP hS hl)
theorem A_lald (C : Cx p s m args meth c G cc nL own Ts rt) {a r n : Nat} {z : Int} (hr : kd a = r) (h9 : (r == 99) = false) (hs : shp r = (2, n)) (hn : n < 2 ^ 31) (h0 : 0 ≤ z) (h1 : z < n) (hd : decode cc pc = .ok (.laload, 1))
    (kk : AW p l e R s m args below meth c G nL Q M (pc + 1) lv (.long (lL (M.2.1 a z.toNat)) :: st)) : AW p l e R s m args below meth c G nL Q M pc lv (.int (iI z) :: .ref a :: st) :=
  fun H locs ls hP hS hl => va_lald C.1 C.2.1 C.2.2.2.2.2.1 hP a 1 (xAt hr h9 (xE_2 (by rw [hr]; exact hs))) rfl (iI_in h0 h1 hn) hd (by
    rw [iI_cl h0 (by omega)]
    exact kk H locs ls hP hS hl)
theorem A_aald (C : Cx p s m args meth c G cc nL own Ts rt) {a r n b : Nat} {z : Int} (hr : kd a = r) (h9 : (r == 99) = false) (hs : shp r = (4, n)) (hn : n < 2 ^ 31) (h0 : 0 ≤ z) (h1 : z < n) (hb : M.2.2 a z.toNat = some b) (hd : decode cc pc = .ok (.aaload, 1))
    (kk : AW p l e R s m args below meth c G nL Q M (pc + 1) lv (.ref b :: st)) : AW p l e R s m args below meth c G nL Q M pc lv (.int (iI z) :: .ref a :: st) :=
  fun H locs ls hP hS hl => va_aldq C.1 C.2.1 C.2.2.2.2.2.1 hP a 3 (xAt hr h9 (xE_4 (by rw [hr]; exact hs))) rfl (iI_in h0 h1 hn) hd (by
    rw [iI_cl h0 (by omega), hb]
    exact kk H locs ls hP hS hl)
theorem A_iast (C : Cx p s m args meth c G cc nL own Ts rt) {a r n : Nat} {z x : Int} (hr : kd a = r) (h9 : (r == 99) = false) (hs : shp r = (1, n)) (hn : n < 2 ^ 31) (h0 : 0 ≤ z) (h1 : z < n) (hd : decode cc pc = .ok (.iastore, 1))
    (kk : AW p l e R s m args below meth c G nL Q (sI M a z.toNat x) (pc + 1) lv st) : AW p l e R s m args below meth c G nL Q M pc lv (.int (iI x) :: .int (iI z) :: .ref a :: st) := by
  intro H locs ls hP hS hl
  have hsh : shp (kd a) = (1, n) := by rw [hr]; exact hs
  refine va_iast C.1 C.2.1 C.2.2.2.2.2.1 hP xD hS a 0 (xAt hr h9 (xE_1 hsh)) rfl (iI_in h0 h1 hn) hd (fun H1 locs1 hP1 _ hS1 => ?_)
  rw [iI_cl h0 (by omega), sI_ws (M := M) (k := z.toNat) (z := x) (kd_lt hr h9) (by
    rw [xE_1 hsh]
    congr 4
    funext j
    by_cases hj : j = z.toNat
    · subst hj; simp [sI, upd]
    · simp [sI, upd, hj])] at hP1
  exact kk H1 locs1 ls hP1 hS1 hl
theorem A_last (C : Cx p s m args meth c G cc nL own Ts rt) {a r n : Nat} {z x : Int} (hr : kd a = r) (h9 : (r == 99) = false) (hs : shp r = (2, n)) (hn : n < 2 ^ 31) (h0 : 0 ≤ z) (h1 : z < n) (hd : decode cc pc = .ok (.lastore, 1))
    (kk : AW p l e R s m args below meth c G nL Q (sL M a z.toNat x) (pc + 1) lv st) : AW p l e R s m args below meth c G nL Q M pc lv (.long (lL x) :: .int (iI z) :: .ref a :: st) := by
  intro H locs ls hP hS hl
  have hsh : shp (kd a) = (2, n) := by rw [hr]; exact hs
  refine va_last C.1 C.2.1 C.2.2.2.2.2.1 hP xD hS a 1 (xAt hr h9 (xE_2 hsh)) rfl (iI_in h0 h1 hn) hd (fun H1 locs1 hP1 _ hS1 => ?_)
  rw [iI_cl h0 (by omega), sL_ws (M := M) (k := z.toNat) (z := x) (kd_lt hr h9) (by
    rw [xE_2 hsh]
    congr 5
    funext j
    by_cases hj : j = z.toNat
    · subst hj; simp [sL, vp_updL]
    · simp [sL, vp_updL, hj])] at hP1
  exact kk H1 locs1 ls hP1 hS1 hl
theorem A_zast (C : Cx p s m args meth c G cc nL own Ts rt) {a r n : Nat} {z x : Int} (hr : kd a = r) (h9 : (r == 99) = false) (hs : shp r = (3, n)) (hn : n < 2 ^ 31) (h0 : 0 ≤ z) (h1 : z < n) (hx : x = 0 ∨ x = 1) (hd : decode cc pc = .ok (.bastore, 1))
    (kk : AW p l e R s m args below meth c G nL Q (sI M a z.toNat x) (pc + 1) lv st) : AW p l e R s m args below meth c G nL Q M pc lv (.int (iI x) :: .int (iI z) :: .ref a :: st) := by
  intro H locs ls hP hS hl
  have hsh : shp (kd a) = (3, n) := by rw [hr]; exact hs
  have hnar : vp_nar .boolean (iI x) = iI x := by rcases hx with rfl | rfl <;> decide +kernel
  refine va_zast C.1 C.2.1 C.2.2.2.2.2.1 hP xD hS a 2 (xAt hr h9 (xE_3 hsh)) rfl (iI_in h0 h1 hn) hd (fun H1 locs1 hP1 _ hS1 => ?_)
  rw [hnar, iI_cl h0 (by omega), sI_ws (M := M) (k := z.toNat) (z := x) (kd_lt hr h9) (by
    rw [xE_3 hsh]
    congr 4
    funext j
    by_cases hj : j = z.toNat
    · subst hj; simp [sI, upd]
    · simp [sI, upd, hj])] at hP1
  exact kk H1 locs1 ls hP1 hS1 hl
theorem i2l_eq {z : Int} (h : r32 z) : (iI z).toInt64 = lL z := by
  rw [← Int64.toInt_inj, Int32.toInt_toInt64, iI_toInt h, lL_toInt ⟨by omega, by omega⟩]
theorem A_i2l (C : Cx p s m args meth c G cc nL own Ts rt) {z : Int} (h : r32 z) (hd : decode cc pc = .ok (.i2l, 1)) (k : AW p l e R s m args below meth c G nL Q M (pc + 1) lv (.long (lL z) :: st)) : AW p l e R s m args below meth c G nL Q M pc lv (.int (iI z) :: st) :=
  fun H locs ls hP hS hl => lv_i2l C.1 C.2.1 hd (i2l_eq h) (k H locs ls hP hS hl)
theorem A_lcmp (C : Cx p s m args meth c G cc nL own Ts rt) {a b : Int} (ha : r64 a) (hb : r64 b) (hd : decode cc pc = .ok (.lcmp, 1)) (k : ∀ z : Int, (z = 1 ∧ b < a) ∨ (z = 0 ∧ a = b) ∨ (z = -1 ∧ a < b) → AW p l e R s m args below meth c G nL Q M (pc + 1) lv (.int (iI z) :: st)) : AW p l e R s m args below meth c G nL Q M pc lv (.long (lL b) :: .long (lL a) :: st) :=
  fun H locs ls hP hS hl => W.lcmp C.1 C.2.1 hd (by
    unfold lg_cmp
    by_cases h1 : b < a
    · rw [if_pos (show lL a > lL b from (lL_lt hb ha).mpr h1)]
      exact k 1 (Or.inl ⟨rfl, h1⟩) H locs ls hP hS hl
    · rw [if_neg (fun q => h1 ((lL_lt hb ha).mp q))]
      by_cases h2 : a = b
      · rw [if_pos ((lL_eq ha hb).mpr h2)]
        exact k 0 (Or.inr (Or.inl ⟨rfl, h2⟩)) H locs ls hP hS hl
      · rw [if_neg (fun q => h2 ((lL_eq ha hb).mp q))]
        exact k (-1) (Or.inr (Or.inr ⟨rfl, by omega⟩)) H locs ls hP hS hl)
theorem lL_ne0 {b : Int} (hb : r64 b) (h : ¬ b = 0) : ¬ lL b = 0 := fun q => h ((lL_eq hb (by decide)).mp (q.trans (by decide +kernel)))
/-- division and remainder, the answer being some long -/
theorem A_ldivH (C : Cx p s m args meth c G cc nL own Ts rt) {a b : Int} (hb : r64 b) (h : ¬ b = 0) (hd : decode cc pc = .ok (.ldiv, 1)) (k : ∀ z : Int, r64 z → AW p l e R s m args below meth c G nL Q M (pc + 1) lv (.long (lL z) :: st)) : AW p l e R s m args below meth c G nL Q M pc lv (.long (lL b) :: .long (lL a) :: st) :=
  fun H locs ls hP hS hl => lv_ldiv C.1 C.2.1 hd (lL_ne0 hb h) (by
    rw [lL_of (lL a / lL b)]
    exact k _ (l_r64 _) H locs ls hP hS hl)
theorem A_lremH (C : Cx p s m args meth c G cc nL own Ts rt) {a b : Int} (hb : r64 b) (h : ¬ b = 0) (hd : decode cc pc = .ok (.lrem, 1)) (k : ∀ z : Int, r64 z → AW p l e R s m args below meth c G nL Q M (pc + 1) lv (.long (lL z) :: st)) : AW p l e R s m args below meth c G nL Q M pc lv (.long (lL b) :: .long (lL a) :: st) :=
  fun H locs ls hP hS hl => lv_lrem C.1 C.2.1 hd (lL_ne0 hb h) (by
    rw [lL_of (lL a - lL a / lL b * lL b)]
    exact k _ (l_r64 _) H locs ls hP hS hl)
theorem A_iandH (C : Cx p s m args meth c G cc nL own Ts rt) {a b : Int} (hd : decode cc pc = .ok (.iand, 1)) (k : ∀ z : Int, r32 z → AW p l e R s m args below meth c G nL Q M (pc + 1) lv (.int (iI z) :: st)) : AW p l e R s m args below meth c G nL Q M pc lv (.int (iI b) :: .int (iI a) :: st) :=
  fun H locs ls hP hS hl => lv_iand C.1 C.2.1 hd (by
    rw [iI_of (iI a &&& iI b)]
    exact k _ (i_r32 _) H locs ls hP hS hl)
end AWH
end
section
/-! contracts over the system's memory: a method called, begun, ended -/
def rmD (d : Nat) : Room := { frames := d, cells := 0, slots := 0, locals := 64 * d }
def xPc (G : xG) (av : List Value) (M : Mem) : Array Value → State → Prop := va_Pc (av.map (cv G.2.2)) (fun U => va_P G.1 vwCl (xWs G nAll M) U.heap ∧ va_K G.1 vwCl (xTys G) U ∧ xNw U)
def xQc (G : xG) (post : Option Value → Mem → Prop) : Array Value → State → Outcome → State → Prop := fun _ st o t => ∃ (r : Option Value) (M' : Mem), o = .returned (r.map (cv G.2.2)) ∧ post r M' ∧ va_P G.1 vwCl (xWs G nAll M') t.heap ∧ st.heap.size ≤ t.heap.size ∧ ∀ q : Nat, q < st.heap.size → ¬ G.2.2 ≤ q → t.heap[q]? = st.heap[q]?
def Ct (y : MethodName) (ws : List Cond) (d : Nat) (pre : List Value → Mem → Prop) (post : List Value → Mem → Option Value → Mem → Prop) : Prop :=
  ∀ (l : Launch) (G : xG) (av : List Value) (M : Mem), pre av M → Met l y ws (rmD d) (xPc G av M) (xQc G (post av M)) 0 0 (fun q => G.2.2 ≤ q)
theorem xPc_blind {G : xG} {av : List Value} {M : Mem} : FrameBlind (xPc G av M) := fun _ U _ _ q => ⟨q.1, q.2.1, va_K.moved (u := U) (Vm.Alike.refl U.vm) q.2.2.1, xNw.same (u := U) rfl q.2.2.2⟩
theorem lg_cv (b : Nat) (av : List Value) : (lg_sl (av.map (cv b))).length = (lg_sl av).length := by
  unfold lg_sl
  induction av with
  | nil => rfl
  | cons v r ih =>
    rw [List.map_cons, List.flatMap_cons, List.flatMap_cons, List.length_append, List.length_append, ih, cv_cat]
    split <;> rfl
theorem lv_args_cv (G : xG) (av : List Value) : ∀ i : Nat, lv_args i (av.map (cv G.2.2)) = xLs G (lv_args i av) := by
  induction av with
  | nil => intro i; rfl
  | cons v r ih =>
    intro i
    rw [List.map_cons]
    unfold lv_args
    rw [cv_cat, ih]
    rfl
section AWC
variable {p : Program} {l : Launch} {e : Env} {R : Room} {s : State} {m : MethodId} {args : Array Value} {below : List Frame} {meth : Method} {c : Code} {G : xG} {nL : Nat} {Q : State → Prop} {M : Mem} {pc : Nat} {lv : List (Nat × Value)} {st : List Value} {cc : ByteArray} {own : String} {Ts : List Cond} {rt : Option FieldType}
theorem Ct_of {y : MethodName} {ws ws' : List Cond} {d : Nat} {pre : List Value → Mem → Prop} {post : List Value → Mem → Option Value → Mem → Prop} (hy : plainName y.cls = true) (hw : ws = Cond.code y cc nL rt :: ws') (hlen : ∀ av M, pre av M → (lg_sl av).length ≤ nL)
    (body : ∀ (p : Program) (l : Launch) (e : Env) (s : State) (m : MethodId) (args : Array Value) (below : List Frame) (meth : Method) (c : Code) (G : xG) (av : List Value) (M : Mem), Cx p s m args meth c G cc nL y.cls ws rt → pre av M →
      AW p l e (rmD d) s m args below meth c G nL (MQ below (xQc G (post av M)) args s 0 0 (fun q => G.2.2 ≤ q)) M 0 (lv_args 0 av) []) : Ct y ws d pre post := by
  intro l G av M hpre
  refine Met.ofW (cc := cc) (maxL := nL) (ret := rt) hy hw ?_
  intro p e s m args below meth c s₁ B hml hv
  obtain ⟨rfl, hP, hK, hN⟩ := hv
  have hts := atoms_spec (ws := ws) B.pre
  have hown : s.vm.findClass y.cls = some m.cls := findClass_of_methodNamed B.named
  have C : Cx p s m (av.map (cv G.2.2)).toArray meth c G cc nL y.cls ws rt := ⟨B.exec, B.bytes, hml, hown, hts, hK, B.returns, B.notSynchronized, hN⟩
  have hl := lv_entry (av.map (cv G.2.2)) (n := nL) (by rw [lg_cv]; exact hlen av M hpre)
  rw [lg_entry_eq]
  rw [lv_args_cv] at hl
  exact body p l e s m _ below meth c G av M C hpre s.heap [] _ hP va_S.rf hl
theorem A_iret {post : Option Value → Mem → Prop} {z : Int} (C : Cx p s m args meth c G cc nL own Ts (some .int)) (hd : decode cc pc = .ok (.ireturn, 1)) (h : post (some (.int (iI z))) M) : AW p l e R s m args below meth c G nL (MQ below (xQc G post) args s 0 0 (fun q => G.2.2 ≤ q)) M pc lv [.int (iI z)] :=
  fun H locs ls hP hS hl => W.iret C.1 C.2.1 C.2.2.2.2.2.2.1 (fun t ht _ => ⟨_, M, rfl, h, by rw [ht]; exact hP, by rw [ht]; exact hS.1, fun q h1 h2 => by rw [ht]; exact hS.2.1 q h1 h2⟩) hS.2.2 hd (hlocks := C.2.2.2.2.2.2.2.1)
theorem A_zret {post : Option Value → Mem → Prop} {z : Int} (C : Cx p s m args meth c G cc nL own Ts (some .boolean)) (hz : z = 0 ∨ z = 1) (hd : decode cc pc = .ok (.ireturn, 1)) (h : post (some (.int (iI z))) M) : AW p l e R s m args below meth c G nL (MQ below (xQc G post) args s 0 0 (fun q => G.2.2 ≤ q)) M pc lv [.int (iI z)] :=
  fun H locs ls hP hS hl => W.zret C.1 C.2.1 C.2.2.2.2.2.2.1 (iI_bool hz) (fun t ht _ => ⟨_, M, rfl, h, by rw [ht]; exact hP, by rw [ht]; exact hS.1, fun q h1 h2 => by rw [ht]; exact hS.2.1 q h1 h2⟩) hS.2.2 hd (hlocks := C.2.2.2.2.2.2.2.1)
theorem A_lret {post : Option Value → Mem → Prop} {z : Int} (C : Cx p s m args meth c G cc nL own Ts (some .long)) (hd : decode cc pc = .ok (.lreturn, 1)) (h : post (some (.long (lL z))) M) : AW p l e R s m args below meth c G nL (MQ below (xQc G post) args s 0 0 (fun q => G.2.2 ≤ q)) M pc lv [.long (lL z)] :=
  fun H locs ls hP hS hl => W.lret C.1 C.2.1 C.2.2.2.2.2.2.1 (fun t ht _ => ⟨_, M, rfl, h, by rw [ht]; exact hP, by rw [ht]; exact hS.1, fun q h1 h2 => by rw [ht]; exact hS.2.1 q h1 h2⟩) hS.2.2 hd (hlocks := C.2.2.2.2.2.2.2.1)
theorem A_vret {post : Option Value → Mem → Prop} (C : Cx p s m args meth c G cc nL own Ts none) (hd : decode cc pc = .ok (.return_, 1)) (h : post none M) : AW p l e R s m args below meth c G nL (MQ below (xQc G post) args s 0 0 (fun q => G.2.2 ≤ q)) M pc lv [] :=
  fun H locs ls hP hS hl => W.vret C.1 C.2.1 C.2.2.2.2.2.2.1 (fun t ht _ => ⟨none, M, rfl, h, by rw [ht]; exact hP, by rw [ht]; exact hS.1, fun q h1 h2 => by rw [ht]; exact hS.2.1 q h1 h2⟩) hS.2.2 hd (hlocks := C.2.2.2.2.2.2.2.1)
theorem A_run {H : Heap} {locs : List Loc} {ls : Array Slot} {st0 rest : List Value} {a : Array Value} {post : Option Value → Mem → Prop} (hr : va_Run p l e R s m args below meth c H locs 0 0 0 0 (F0 m pc ls st0) rest (xQc G post a) (fun q => G.2.2 ≤ q)) (hS : va_S (fun q => G.2.2 ≤ q) s.heap H locs)
    (kk : ∀ (r : Option Value) (M' : Mem) (H1 : Heap) (locs1 : List Loc), post r M' → va_P G.1 vwCl (xWs G nAll M') H1 → va_S (fun q => G.2.2 ≤ q) s.heap H1 locs1 → W p l e R s m args below meth c H1 locs1 0 0 Q (F0 m (pc + 3) ls ((r.map (cv G.2.2)).toList ++ rest))) : W p l e R s m args below meth c H locs 0 0 Q (F0 m pc ls st0) := by
  intro T hT X
  obtain ⟨v, st₀, t, T', L, h0, X', hL, e1, e2, ⟨r, M', hv, hp, hP', hz, hk⟩, go⟩ := hr T hT X
  cases hv
  rw [h0] at hz hk
  obtain ⟨t2, a1, b1⟩ := kk r M' T'.heap (locs ++ L) hp (by rw [e1]; exact hP')
    ⟨Nat.le_trans hS.1 (by rw [e1]; exact hz), fun q h1 h2 => by rw [e1, hk q (Nat.lt_of_lt_of_le h1 hS.1) h2]; exact hS.2.1 q h1 h2, fun q hq => by
      rcases List.mem_append.mp hq with h | h
      · exact hS.2.2 q h
      · exact hL q h⟩ T' rfl X'
  exact ⟨t2, go t2 a1, b1⟩
theorem xRev (G : xG) (As : List Value) (st : List Value) (v : Value) : (As.reverse ++ v :: st).map (cv G.2.2) = (As.map (cv G.2.2)).reverse ++ cv G.2.2 v :: st.map (cv G.2.2) := by simp
theorem xCat (G : xG) (st : List Value) : ((st.map (cv G.2.2)).map fun v => v.category).sum = (st.map fun v => v.category).sum := by
  rw [List.map_map]
  congr 2
  funext v
  exact cv_cat _ v
theorem xRet (G : xG) (r : Option Value) (st : List Value) : (r.map (cv G.2.2)).toList ++ st.map (cv G.2.2) = (r.toList ++ st).map (cv G.2.2) := by cases r <;> rfl
/-- an invokevirtual -/
theorem A_callV (C : Cx p s m args meth c G cc nL own Ts rt) {y : MethodName} {ws ws' : List Cond} {d : Nat} {pre : List Value → Mem → Prop} {post : List Value → Mem → Option Value → Mem → Prop} (K : Ct y ws d pre post) {a rr ci n maxL index : Nat} {bytes : ByteArray} {ret : Option FieldType} {As : List Value} {Cn : String} {T : u_T} {N : Nat}
    (g : GoodIn Ts (wsV own index Cn y ws)) (hw : ws = Cond.code y bytes maxL ret :: ws') (hy : y.cls = Cn ∧ y.cls ≠ "java/lang/invoke/MethodHandle" ∧ y.cls ≠ "java/lang/invoke/VarHandle" ∧ (parseMethodDescriptor y.desc).map (fun d => d.parameters.length) = some n) (hR : (rmD d).frames + 1 ≤ R.frames ∧ 8 + (maxL + 11) + (rmD d).locals ≤ R.locals)
    (hr : kd a = rr) (h9 : (rr == 99) = false) (hs : shp rr = (0, ci)) (hc : vwCl[ci]? = some (Cn, T, N)) (hn : As.length = n) (hcat : (st.map fun v => v.category).sum ≤ 8) (hd : decode cc pc = .ok (.invokevirtual index, 3)) {st0 : List Value} (hst : st0 = As.reverse ++ .ref a :: st)
    (hpre : pre (.ref a :: As) M) (kk : ∀ (r : Option Value) (M' : Mem), post (.ref a :: As) M r M' → AW p l e R s m args below meth c G nL Q M' (pc + 3) lv (r.toList ++ st)) : AW p l e R s m args below meth c G nL Q M pc lv st0 := by
  intro H locs ls hP hS hl
  subst hst
  rw [xRev]
  have hPre : PreV s H Cn (G.2.2 + a) (xPc G (.ref a :: As) M) (As.map (cv G.2.2)) := ⟨xPc_blind, va_recv C.2.2.2.2.2.1 hP hc (xAt hr h9 (xE_0 (by rw [hr]; exact hs))), fun U hU hW => ⟨rfl, by rw [hU]; exact hP, va_K.moved hW.alike C.2.2.2.2.2.1, C.2.2.2.2.2.2.2.2.warm hW⟩⟩
  refine A_run (va_runV (As := As.map (cv G.2.2)) (rest := st.map (cv G.2.2)) ⟨C.1, C.2.1, C.2.2.1, C.2.2.2.1, C.2.2.2.2.1⟩ (K l G (.ref a :: As) M hpre) (cwV n C.2.2.2.2.1 g hw rfl rfl hy hR) hPre rfl (by rw [List.length_map]; exact hn) hl.1 rfl (lv_room (by rw [xCat]; exact hcat)) hd ⟨Nat.zero_le _, Nat.zero_le _⟩) hS (fun r M' H1 locs1 h1 h2 h3 => ?_)
  rw [xRet]
  exact kk r M' h1 H1 locs1 ls h2 h3 hl
/-- an invokestatic of the class's own -/
theorem A_callS (C : Cx p s m args meth c G cc nL own Ts rt) {y : MethodName} {ws ws' : List Cond} {d : Nat} {pre : List Value → Mem → Prop} {post : List Value → Mem → Option Value → Mem → Prop} (K : Ct y ws d pre post) {n maxL index : Nat} {bytes : ByteArray} {ret : Option FieldType} {As : List Value}
    (g : GoodIn Ts (va_wsS own index y ws)) (hw : ws = Cond.code y bytes maxL ret :: ws') (hy : y.cls ≠ "java/lang/invoke/MethodHandle" ∧ y.cls ≠ "java/lang/invoke/VarHandle" ∧ (parseMethodDescriptor y.desc).map (fun d => d.parameters.length) = some n) (hR : (rmD d).frames + 1 ≤ R.frames ∧ 8 + (maxL + 11) + (rmD d).locals ≤ R.locals)
    (hn : As.length = n) (hcat : (st.map fun v => v.category).sum ≤ 8) (hd : decode cc pc = .ok (.invokestatic index, 3)) {st0 : List Value} (hst : st0 = As.reverse ++ st)
    (hpre : pre As M) (kk : ∀ (r : Option Value) (M' : Mem), post As M r M' → AW p l e R s m args below meth c G nL Q M' (pc + 3) lv (r.toList ++ st)) : AW p l e R s m args below meth c G nL Q M pc lv st0 := by
  intro H locs ls hP hS hl
  subst hst
  rw [List.map_append, List.map_reverse]
  have hPre : PreS s H (xPc G As M) (As.map (cv G.2.2)) := ⟨xPc_blind, fun U hU hW => ⟨rfl, by rw [hU]; exact hP, va_K.moved hW.alike C.2.2.2.2.2.1, C.2.2.2.2.2.2.2.2.warm hW⟩⟩
  refine A_run (va_runS (As := As.map (cv G.2.2)) (rest := st.map (cv G.2.2)) ⟨C.1, C.2.1, C.2.2.1, C.2.2.2.1, C.2.2.2.2.1⟩ (K l G As M hpre) (va_cwS n C.2.2.2.2.1 g hw rfl rfl hy hR) hPre rfl (by rw [List.length_map]; exact hn) hl.1 rfl (lv_room (by rw [xCat]; exact hcat)) hd ⟨Nat.zero_le _, Nat.zero_le _⟩) hS (fun r M' H1 locs1 h1 h2 h3 => ?_)
  rw [xRet]
  exact kk r M' h1 H1 locs1 ls h2 h3 hl
/-- an invokestatic of the host's -/
theorem A_callSN (C : Cx p s m args meth c G cc nL own Ts rt) {y : MethodName} {ws ws' : List Cond} {d : Nat} {pre : List Value → Mem → Prop} {post : List Value → Mem → Option Value → Mem → Prop} (K : Ct y ws d pre post) {n maxL index : Nat} {bytes : ByteArray} {ret : Option FieldType} {As : List Value} {host : String}
    (hlink : va_Nw (.methodLinkNest own index y host) s) (g : GoodIn Ts ws) (hi : Cond.initialized y.cls ∈ Ts) (hsta : Cond.static y ∈ Ts) (hw : ws = Cond.code y bytes maxL ret :: ws') (hy : y.cls ≠ "java/lang/invoke/MethodHandle" ∧ y.cls ≠ "java/lang/invoke/VarHandle" ∧ (parseMethodDescriptor y.desc).map (fun d => d.parameters.length) = some n) (hR : (rmD d).frames + 1 ≤ R.frames ∧ 8 + (maxL + 11) + (rmD d).locals ≤ R.locals)
    (hn : As.length = n) (hcat : (st.map fun v => v.category).sum ≤ 8) (hd : decode cc pc = .ok (.invokestatic index, 3)) {st0 : List Value} (hst : st0 = As.reverse ++ st)
    (hpre : pre As M) (kk : ∀ (r : Option Value) (M' : Mem), post As M r M' → AW p l e R s m args below meth c G nL Q M' (pc + 3) lv (r.toList ++ st)) : AW p l e R s m args below meth c G nL Q M pc lv st0 := by
  intro H locs ls hP hS hl
  subst hst
  rw [List.map_append, List.map_reverse]
  have hPre : PreS s H (xPc G As M) (As.map (cv G.2.2)) := ⟨xPc_blind, fun U hU hW => ⟨rfl, by rw [hU]; exact hP, va_K.moved hW.alike C.2.2.2.2.2.1, C.2.2.2.2.2.2.2.2.warm hW⟩⟩
  refine A_run (va_runSN (As := As.map (cv G.2.2)) (rest := st.map (cv G.2.2)) ⟨C.1, C.2.1, C.2.2.1, C.2.2.2.1, C.2.2.2.2.1⟩ (K l G As M hpre) ⟨va_cnB n C.2.2.2.2.1 g hw rfl rfl hlink (C.2.2.2.2.1 _ hi) hy hR, C.2.2.2.2.1 _ hsta, trivial⟩ hPre rfl (by rw [List.length_map]; exact hn) hl.1 rfl (lv_room (by rw [xCat]; exact hcat)) hd ⟨Nat.zero_le _, Nat.zero_le _⟩) hS (fun r M' H1 locs1 h1 h2 h3 => ?_)
  rw [xRet]
  exact kk r M' h1 H1 locs1 ls h2 h3 hl
end AWC
end
