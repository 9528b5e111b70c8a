section
-- ===== PART A: goes FIRST, ahead of the names: the tables' words, and 'selects' of the private methods out of them =====
/-- a private method of a class that the tables say can be made, by its rows of tables_1 -/
def lw_okq (q : MethodName × Nat) : Prop := (q.1.cls ≠ "java/lang/invoke/MethodHandle" ∧ q.1.cls ≠ "java/lang/invoke/VarHandle") ∧ Cond.instantiable q.1.cls q.2 ∈ tables_1 ∧ Cond.privateMethod q.1 ∈ tables_1 ∧ Cond.instanceMethod q.1 ∈ tables_1
theorem lw_p0 : lw_okq (⟨"SlipBench$Ground", "holdsOfPart", "(LSlipBench$Line;I)I"⟩, 2) := ⟨⟨by decide +kernel, by decide +kernel⟩, List.mem_of_getElem? (i := 55) (by decide +kernel), List.mem_of_getElem? (i := 347) (by decide +kernel), List.mem_of_getElem? (i := 348) (by decide +kernel)⟩
theorem lw_p1 : lw_okq (⟨"SlipBench$Column", "reckonHolds", "(II)I"⟩, 9) := ⟨⟨by decide +kernel, by decide +kernel⟩, List.mem_of_getElem? (i := 62) (by decide +kernel), List.mem_of_getElem? (i := 355) (by decide +kernel), List.mem_of_getElem? (i := 356) (by decide +kernel)⟩
theorem lw_p2 : lw_okq (⟨"SlipBench", "knowWorst", "()Z"⟩, 15) := ⟨⟨by decide +kernel, by decide +kernel⟩, List.mem_of_getElem? (i := 18) (by decide +kernel), List.mem_of_getElem? (i := 374) (by decide +kernel), List.mem_of_getElem? (i := 375) (by decide +kernel)⟩
theorem lw_p3 : lw_okq (⟨"SlipBench$Search", "aim", "(JJ)V"⟩, 7) := ⟨⟨by decide +kernel, by decide +kernel⟩, List.mem_of_getElem? (i := 144) (by decide +kernel), List.mem_of_getElem? (i := 390) (by decide +kernel), List.mem_of_getElem? (i := 391) (by decide +kernel)⟩
theorem lw_p4 : lw_okq (⟨"SlipBench$Search", "weigh", "(IIZ)V"⟩, 7) := ⟨⟨by decide +kernel, by decide +kernel⟩, List.mem_of_getElem? (i := 144) (by decide +kernel), List.mem_of_getElem? (i := 394) (by decide +kernel), List.mem_of_getElem? (i := 395) (by decide +kernel)⟩
theorem lw_p5 : lw_okq (⟨"SlipBench$Search", "clearRests", "(I)V"⟩, 7) := ⟨⟨by decide +kernel, by decide +kernel⟩, List.mem_of_getElem? (i := 144) (by decide +kernel), List.mem_of_getElem? (i := 398) (by decide +kernel), List.mem_of_getElem? (i := 399) (by decide +kernel)⟩
theorem lw_p6 : lw_okq (⟨"SlipBench$Search", "allowEnd", "(I)V"⟩, 7) := ⟨⟨by decide +kernel, by decide +kernel⟩, List.mem_of_getElem? (i := 144) (by decide +kernel), List.mem_of_getElem? (i := 403) (by decide +kernel), List.mem_of_getElem? (i := 404) (by decide +kernel)⟩
theorem lw_p7 : lw_okq (⟨"SlipBench$Search", "weighColumn", "(I)V"⟩, 7) := ⟨⟨by decide +kernel, by decide +kernel⟩, List.mem_of_getElem? (i := 144) (by decide +kernel), List.mem_of_getElem? (i := 410) (by decide +kernel), List.mem_of_getElem? (i := 411) (by decide +kernel)⟩
theorem lw_p8 : lw_okq (⟨"SlipBench$Search", "better", "(IIIJ)V"⟩, 7) := ⟨⟨by decide +kernel, by decide +kernel⟩, List.mem_of_getElem? (i := 144) (by decide +kernel), List.mem_of_getElem? (i := 419) (by decide +kernel), List.mem_of_getElem? (i := 420) (by decide +kernel)⟩
theorem lw_p9 : lw_okq (⟨"SlipBench$Search", "leastStart", "()I"⟩, 7) := ⟨⟨by decide +kernel, by decide +kernel⟩, List.mem_of_getElem? (i := 144) (by decide +kernel), List.mem_of_getElem? (i := 423) (by decide +kernel), List.mem_of_getElem? (i := 424) (by decide +kernel)⟩
theorem lw_p10 : lw_okq (⟨"SlipBench$Search", "follow", "(IJLSlipBench$Line;)V"⟩, 7) := ⟨⟨by decide +kernel, by decide +kernel⟩, List.mem_of_getElem? (i := 144) (by decide +kernel), List.mem_of_getElem? (i := 427) (by decide +kernel), List.mem_of_getElem? (i := 428) (by decide +kernel)⟩
theorem lw_p11 : lw_okq (⟨"SlipBench$Search", "leastRight", "(IIJ)I"⟩, 7) := ⟨⟨by decide +kernel, by decide +kernel⟩, List.mem_of_getElem? (i := 144) (by decide +kernel), List.mem_of_getElem? (i := 432) (by decide +kernel), List.mem_of_getElem? (i := 433) (by decide +kernel)⟩
theorem lw_p12 : lw_okq (⟨"SlipBench$Search", "keyOf", "(III)J"⟩, 7) := ⟨⟨by decide +kernel, by decide +kernel⟩, List.mem_of_getElem? (i := 144) (by decide +kernel), List.mem_of_getElem? (i := 438) (by decide +kernel), List.mem_of_getElem? (i := 439) (by decide +kernel)⟩
theorem lw_p13 : lw_okq (⟨"SlipBench", "standsRisen", "(III)Z"⟩, 15) := ⟨⟨by decide +kernel, by decide +kernel⟩, List.mem_of_getElem? (i := 18) (by decide +kernel), List.mem_of_getElem? (i := 479) (by decide +kernel), List.mem_of_getElem? (i := 480) (by decide +kernel)⟩
theorem lw_p14 : lw_okq (⟨"SlipBench", "standsBehind", "(III)Z"⟩, 15) := ⟨⟨by decide +kernel, by decide +kernel⟩, List.mem_of_getElem? (i := 18) (by decide +kernel), List.mem_of_getElem? (i := 536) (by decide +kernel), List.mem_of_getElem? (i := 537) (by decide +kernel)⟩
theorem lw_p15 : lw_okq (⟨"SlipBench", "leadsOn", "(IIII)Z"⟩, 15) := ⟨⟨by decide +kernel, by decide +kernel⟩, List.mem_of_getElem? (i := 18) (by decide +kernel), List.mem_of_getElem? (i := 540) (by decide +kernel), List.mem_of_getElem? (i := 541) (by decide +kernel)⟩
def lw_privs_1 : List (MethodName × Nat) := [(⟨"SlipBench$Ground", "holdsOfPart", "(LSlipBench$Line;I)I"⟩, 2), (⟨"SlipBench$Column", "reckonHolds", "(II)I"⟩, 9), (⟨"SlipBench", "knowWorst", "()Z"⟩, 15), (⟨"SlipBench$Search", "aim", "(JJ)V"⟩, 7), (⟨"SlipBench$Search", "weigh", "(IIZ)V"⟩, 7), (⟨"SlipBench$Search", "clearRests", "(I)V"⟩, 7), (⟨"SlipBench$Search", "allowEnd", "(I)V"⟩, 7), (⟨"SlipBench$Search", "weighColumn", "(I)V"⟩, 7), (⟨"SlipBench$Search", "better", "(IIIJ)V"⟩, 7), (⟨"SlipBench$Search", "leastStart", "()I"⟩, 7), (⟨"SlipBench$Search", "follow", "(IJLSlipBench$Line;)V"⟩, 7), (⟨"SlipBench$Search", "leastRight", "(IIJ)I"⟩, 7), (⟨"SlipBench$Search", "keyOf", "(III)J"⟩, 7), (⟨"SlipBench", "standsRisen", "(III)Z"⟩, 15), (⟨"SlipBench", "standsBehind", "(III)Z"⟩, 15), (⟨"SlipBench", "leadsOn", "(IIII)Z"⟩, 15)]
theorem lw_r1 : ∀ q ∈ lw_privs_1, lw_okq q := List.forall_mem_cons.mpr ⟨lw_p0, List.forall_mem_cons.mpr ⟨lw_p1, List.forall_mem_cons.mpr ⟨lw_p2, List.forall_mem_cons.mpr ⟨lw_p3, List.forall_mem_cons.mpr ⟨lw_p4, List.forall_mem_cons.mpr ⟨lw_p5, List.forall_mem_cons.mpr ⟨lw_p6, List.forall_mem_cons.mpr ⟨lw_p7, List.forall_mem_cons.mpr ⟨lw_p8, List.forall_mem_cons.mpr ⟨lw_p9, List.forall_mem_cons.mpr ⟨lw_p10, List.forall_mem_cons.mpr ⟨lw_p11, List.forall_mem_cons.mpr ⟨lw_p12, List.forall_mem_cons.mpr ⟨lw_p13, List.forall_mem_cons.mpr ⟨lw_p14, List.forall_mem_cons.mpr ⟨lw_p15, fun _ h => absurd h List.not_mem_nil⟩⟩⟩⟩⟩⟩⟩⟩⟩⟩⟩⟩⟩⟩⟩⟩
theorem lw_p16 : lw_okq (⟨"java/lang/Throwable", "fillInStackTrace", "(I)Ljava/lang/Throwable;"⟩, 6) := ⟨⟨by decide +kernel, by decide +kernel⟩, List.mem_of_getElem? (i := 603) (by decide +kernel), List.mem_of_getElem? (i := 601) (by decide +kernel), List.mem_of_getElem? (i := 602) (by decide +kernel)⟩
theorem lw_p17 : lw_okq (⟨"SlipBenchModel", "isColumn", "(I)Z"⟩, 35) := ⟨⟨by decide +kernel, by decide +kernel⟩, List.mem_of_getElem? (i := 661) (by decide +kernel), List.mem_of_getElem? (i := 785) (by decide +kernel), List.mem_of_getElem? (i := 786) (by decide +kernel)⟩
theorem lw_p18 : lw_okq (⟨"SlipBenchModel", "fails", "(I)I"⟩, 35) := ⟨⟨by decide +kernel, by decide +kernel⟩, List.mem_of_getElem? (i := 661) (by decide +kernel), List.mem_of_getElem? (i := 797) (by decide +kernel), List.mem_of_getElem? (i := 798) (by decide +kernel)⟩
theorem lw_p19 : lw_okq (⟨"SlipBenchModel", "isLine", "()Z"⟩, 35) := ⟨⟨by decide +kernel, by decide +kernel⟩, List.mem_of_getElem? (i := 661) (by decide +kernel), List.mem_of_getElem? (i := 817) (by decide +kernel), List.mem_of_getElem? (i := 818) (by decide +kernel)⟩
theorem lw_p20 : lw_okq (⟨"SlipBenchModel", "can", "(III)Z"⟩, 35) := ⟨⟨by decide +kernel, by decide +kernel⟩, List.mem_of_getElem? (i := 661) (by decide +kernel), List.mem_of_getElem? (i := 821) (by decide +kernel), List.mem_of_getElem? (i := 822) (by decide +kernel)⟩
theorem lw_p21 : lw_okq (⟨"SlipBenchModel", "holds", "(III)J"⟩, 35) := ⟨⟨by decide +kernel, by decide +kernel⟩, List.mem_of_getElem? (i := 661) (by decide +kernel), List.mem_of_getElem? (i := 829) (by decide +kernel), List.mem_of_getElem? (i := 830) (by decide +kernel)⟩
theorem lw_p22 : lw_okq (⟨"SlipBenchModel", "press", "(II)I"⟩, 35) := ⟨⟨by decide +kernel, by decide +kernel⟩, List.mem_of_getElem? (i := 661) (by decide +kernel), List.mem_of_getElem? (i := 833) (by decide +kernel), List.mem_of_getElem? (i := 834) (by decide +kernel)⟩
theorem lw_p23 : lw_okq (⟨"SlipBenchModel", "drives", "(III)J"⟩, 35) := ⟨⟨by decide +kernel, by decide +kernel⟩, List.mem_of_getElem? (i := 661) (by decide +kernel), List.mem_of_getElem? (i := 838) (by decide +kernel), List.mem_of_getElem? (i := 839) (by decide +kernel)⟩
theorem lw_p24 : lw_okq (⟨"SlipBenchModel", "findWorst", "()V"⟩, 35) := ⟨⟨by decide +kernel, by decide +kernel⟩, List.mem_of_getElem? (i := 661) (by decide +kernel), List.mem_of_getElem? (i := 850) (by decide +kernel), List.mem_of_getElem? (i := 851) (by decide +kernel)⟩
theorem lw_p25 : lw_okq (⟨"SlipBenchModel", "walk", "(IJJI)V"⟩, 35) := ⟨⟨by decide +kernel, by decide +kernel⟩, List.mem_of_getElem? (i := 661) (by decide +kernel), List.mem_of_getElem? (i := 854) (by decide +kernel), List.mem_of_getElem? (i := 855) (by decide +kernel)⟩
theorem lw_p26 : lw_okq (⟨"SlipBenchModel", "findLine", "()V"⟩, 35) := ⟨⟨by decide +kernel, by decide +kernel⟩, List.mem_of_getElem? (i := 661) (by decide +kernel), List.mem_of_getElem? (i := 862) (by decide +kernel), List.mem_of_getElem? (i := 863) (by decide +kernel)⟩
theorem lw_p27 : lw_okq (⟨"SlipBenchModel", "tries", "()V"⟩, 35) := ⟨⟨by decide +kernel, by decide +kernel⟩, List.mem_of_getElem? (i := 661) (by decide +kernel), List.mem_of_getElem? (i := 877) (by decide +kernel), List.mem_of_getElem? (i := 878) (by decide +kernel)⟩
theorem lw_p28 : lw_okq (⟨"SlipBenchModel", "holdsOut", "(II)Z"⟩, 35) := ⟨⟨by decide +kernel, by decide +kernel⟩, List.mem_of_getElem? (i := 661) (by decide +kernel), List.mem_of_getElem? (i := 881) (by decide +kernel), List.mem_of_getElem? (i := 882) (by decide +kernel)⟩
theorem lw_p29 : lw_okq (⟨"SlipBenchModel", "does", "(I)V"⟩, 35) := ⟨⟨by decide +kernel, by decide +kernel⟩, List.mem_of_getElem? (i := 661) (by decide +kernel), List.mem_of_getElem? (i := 893) (by decide +kernel), List.mem_of_getElem? (i := 894) (by decide +kernel)⟩
theorem lw_p30 : lw_okq (⟨"SlipBenchModel", "another", "()Z"⟩, 35) := ⟨⟨by decide +kernel, by decide +kernel⟩, List.mem_of_getElem? (i := 661) (by decide +kernel), List.mem_of_getElem? (i := 901) (by decide +kernel), List.mem_of_getElem? (i := 902) (by decide +kernel)⟩
theorem lw_p31 : lw_okq (⟨"SlipBenchModel", "swap", "(II)V"⟩, 35) := ⟨⟨by decide +kernel, by decide +kernel⟩, List.mem_of_getElem? (i := 661) (by decide +kernel), List.mem_of_getElem? (i := 905) (by decide +kernel), List.mem_of_getElem? (i := 906) (by decide +kernel)⟩
def lw_privs_2 : List (MethodName × Nat) := [(⟨"java/lang/Throwable", "fillInStackTrace", "(I)Ljava/lang/Throwable;"⟩, 6), (⟨"SlipBenchModel", "isColumn", "(I)Z"⟩, 35), (⟨"SlipBenchModel", "fails", "(I)I"⟩, 35), (⟨"SlipBenchModel", "isLine", "()Z"⟩, 35), (⟨"SlipBenchModel", "can", "(III)Z"⟩, 35), (⟨"SlipBenchModel", "holds", "(III)J"⟩, 35), (⟨"SlipBenchModel", "press", "(II)I"⟩, 35), (⟨"SlipBenchModel", "drives", "(III)J"⟩, 35), (⟨"SlipBenchModel", "findWorst", "()V"⟩, 35), (⟨"SlipBenchModel", "walk", "(IJJI)V"⟩, 35), (⟨"SlipBenchModel", "findLine", "()V"⟩, 35), (⟨"SlipBenchModel", "tries", "()V"⟩, 35), (⟨"SlipBenchModel", "holdsOut", "(II)Z"⟩, 35), (⟨"SlipBenchModel", "does", "(I)V"⟩, 35), (⟨"SlipBenchModel", "another", "()Z"⟩, 35), (⟨"SlipBenchModel", "swap", "(II)V"⟩, 35)]
theorem lw_r2 : ∀ q ∈ lw_privs_2, lw_okq q := List.forall_mem_cons.mpr ⟨lw_p16, List.forall_mem_cons.mpr ⟨lw_p17, List.forall_mem_cons.mpr ⟨lw_p18, List.forall_mem_cons.mpr ⟨lw_p19, List.forall_mem_cons.mpr ⟨lw_p20, List.forall_mem_cons.mpr ⟨lw_p21, List.forall_mem_cons.mpr ⟨lw_p22, List.forall_mem_cons.mpr ⟨lw_p23, List.forall_mem_cons.mpr ⟨lw_p24, List.forall_mem_cons.mpr ⟨lw_p25, List.forall_mem_cons.mpr ⟨lw_p26, List.forall_mem_cons.mpr ⟨lw_p27, List.forall_mem_cons.mpr ⟨lw_p28, List.forall_mem_cons.mpr ⟨lw_p29, List.forall_mem_cons.mpr ⟨lw_p30, List.forall_mem_cons.mpr ⟨lw_p31, fun _ h => absurd h List.not_mem_nil⟩⟩⟩⟩⟩⟩⟩⟩⟩⟩⟩⟩⟩⟩⟩⟩
def lw_privs : List (MethodName × Nat) := lw_privs_1 ++ (lw_privs_2)
def lw_tbl : List Cond := k2_sels lw_privs ++ tables_1
theorem lw_privs_ok : ∀ q ∈ lw_privs, lw_okq q := by
  show ∀ q ∈ lw_privs_1 ++ (lw_privs_2), lw_okq q
  exact List.forall_mem_append.mpr ⟨lw_r1, lw_r2⟩
-- ===== end of PART A; then your names; then what follows =====
/-! ===== BEGIN words of one list among another's, by their places ===== -/
theorem goodIn_r {big : List Cond} (ws : List Cond) (ps : List Nat) (hp : ws = ps.filterMap (fun i => big[i]?)) (h : ws.all goodWord = true) : GoodIn big ws := by
  intro w hw
  have h1 := List.all_eq_true.mp h w hw
  rw [hp] at hw
  obtain ⟨i, -, hi⟩ := List.mem_filterMap.mp hw
  have hm : w ∈ big := by first | exact List.mem_of_getElem? hi | exact List.getElem?_mem hi
  exact ⟨hm, good_of_word h1⟩
theorem goodIn_app {big a b : List Cond} (ha : GoodIn big a) (hb : GoodIn big b) : GoodIn big (a ++ b) := fun w h => (List.mem_append.mp h).elim (ha w) (hb w)
theorem goodIn_ca {big a b : List Cond} {c : Cond} (ha : GoodIn big (c :: a)) (hb : GoodIn big b) : GoodIn big (c :: (a ++ b)) := fun w h => (List.mem_cons.mp h).elim (fun e => ha w (List.mem_cons.mpr (Or.inl e))) (fun h => (List.mem_append.mp h).elim (fun h => ha w (List.mem_cons.mpr (Or.inr h))) (hb w))
theorem goodIn_sub {big ws : List Cond} (hm : ∀ w ∈ ws, w ∈ big) (h : ws.all goodWord = true) : GoodIn big ws := fun w hw => ⟨hm w hw, good_of_word (List.all_eq_true.mp h w hw)⟩
/-! ===== END ===== -/
/-! ===== BEGIN printed: names, fields, word lists, decode rows ===== -/
def RX0 : String := "SlipBench$Acts"
def TX0 : u_T := fun k => match k with
  | 0 => ("SlipBench$Acts", "size", "I", false)
  | 1 => ("SlipBench$Acts", "kinds", "[I", true)
  | 2 => ("SlipBench$Acts", "places", "[I", true)
  | _ => ("SlipBench$Acts", "amounts", "[I", true)
def tyX0 : Nat → FieldType := fun k => match k with
  | 0 => .int
  | 1 => .array .int
  | 2 => .array .int
  | _ => .array .int
abbrev wsX00 : List Cond := u_ws RX0 TX0 4
theorem nmX0 : ∀ a, a < 4 → ∀ b, b < 4 → a ≠ b → (TX0 a).2.1 ≠ (TX0 b).2.1 := by decide +kernel
theorem tyX0_ok : ∀ k, k < 4 → parseFieldDescriptor (TX0 k).2.2.1 = some (tyX0 k) := by decide +kernel
abbrev cX0_init : ByteArray := prog_2_method_1_code
def yX0_init : MethodName := ⟨RX0, "<init>", "()V"⟩
abbrev cX0_has : ByteArray := prog_2_method_2_code
def yX0_has : MethodName := ⟨RX0, "has", "(I)Z"⟩
abbrev cX0_add : ByteArray := prog_2_method_3_code
def yX0_add : MethodName := ⟨RX0, "add", "(III)I"⟩
abbrev cX0_doOn : ByteArray := prog_2_method_4_code
def yX0_doOn : MethodName := ⟨RX0, "doOn", "(LSlipBench$Ground;I)V"⟩
def RX1 : String := "SlipBench$Column"
def TX1 : u_T := fun k => match k with
  | 0 => ("SlipBench$Column", "cells", "[I", true)
  | 1 => ("SlipBench$Column", "tall", "I", false)
  | 2 => ("SlipBench$Column", "water", "I", false)
  | 3 => ("SlipBench$Column", "load", "I", false)
  | 4 => ("SlipBench$Column", "nails", "I", false)
  | 5 => ("SlipBench$Column", "earths", "LSlipBench$Earths;", true)
  | 6 => ("SlipBench$Column", "presses", "[I", true)
  | 7 => ("SlipBench$Column", "holds", "[I", true)
  | _ => ("SlipBench$Column", "reckoned", "Z", false)
def tyX1 : Nat → FieldType := fun k => match k with
  | 0 => .array .int
  | 1 => .int
  | 2 => .int
  | 3 => .int
  | 4 => .int
  | 5 => .object "SlipBench$Earths"
  | 6 => .array .int
  | 7 => .array .int
  | _ => .boolean
abbrev wsX10 : List Cond := u_ws RX1 TX1 9
theorem nmX1 : ∀ a, a < 9 → ∀ b, b < 9 → a ≠ b → (TX1 a).2.1 ≠ (TX1 b).2.1 := by decide +kernel
theorem tyX1_ok : ∀ k, k < 9 → parseFieldDescriptor (TX1 k).2.2.1 = some (tyX1 k) := by decide +kernel
abbrev cX1_init : ByteArray := prog_3_method_1_code
def yX1_init : MethodName := ⟨RX1, "<init>", "(LSlipBench$Earths;[I)V"⟩
abbrev cX1_clear : ByteArray := prog_3_method_2_code
def yX1_clear : MethodName := ⟨RX1, "clear", "()V"⟩
abbrev cX1_copy : ByteArray := prog_3_method_3_code
def yX1_copy : MethodName := ⟨RX1, "copy", "(LSlipBench$Column;)V"⟩
abbrev cX1_pile : ByteArray := prog_3_method_4_code
def yX1_pile : MethodName := ⟨RX1, "pile", "(II)V"⟩
abbrev cX1_digTo : ByteArray := prog_3_method_5_code
def yX1_digTo : MethodName := ⟨RX1, "digTo", "(I)V"⟩
abbrev cX1_put : ByteArray := prog_3_method_6_code
def yX1_put : MethodName := ⟨RX1, "put", "(II)V"⟩
abbrev cX1_holdsAt : ByteArray := prog_3_method_7_code
def yX1_holdsAt : MethodName := ⟨RX1, "holdsAt", "(II)I"⟩
abbrev cX1_drivesFrom : ByteArray := prog_3_method_8_code
def yX1_drivesFrom : MethodName := ⟨RX1, "drivesFrom", "(II)I"⟩
abbrev cX1_reckon : ByteArray := prog_3_method_9_code
def yX1_reckon : MethodName := ⟨RX1, "reckon", "()V"⟩
abbrev cX1_reckonHolds : ByteArray := prog_3_method_10_code
def yX1_reckonHolds : MethodName := ⟨RX1, "reckonHolds", "(II)I"⟩
def RX2 : String := "SlipBench$Earths"
def TX2 : u_T := fun k => match k with
  | 0 => ("SlipBench$Earths", "weights", "[I", true)
  | 1 => ("SlipBench$Earths", "holds", "[I", true)
  | 2 => ("SlipBench$Earths", "rubs", "[I", true)
  | 3 => ("SlipBench$Earths", "rocks", "[Z", true)
  | _ => ("SlipBench$Earths", "size", "I", false)
def tyX2 : Nat → FieldType := fun k => match k with
  | 0 => .array .int
  | 1 => .array .int
  | 2 => .array .int
  | 3 => .array .boolean
  | _ => .int
abbrev wsX20 : List Cond := u_ws RX2 TX2 5
theorem nmX2 : ∀ a, a < 5 → ∀ b, b < 5 → a ≠ b → (TX2 a).2.1 ≠ (TX2 b).2.1 := by decide +kernel
theorem tyX2_ok : ∀ k, k < 5 → parseFieldDescriptor (TX2 k).2.2.1 = some (tyX2 k) := by decide +kernel
abbrev cX2_init : ByteArray := prog_4_method_1_code
def yX2_init : MethodName := ⟨RX2, "<init>", "()V"⟩
abbrev cX2_has : ByteArray := prog_4_method_2_code
def yX2_has : MethodName := ⟨RX2, "has", "(I)Z"⟩
abbrev cX2_add : ByteArray := prog_4_method_3_code
def yX2_add : MethodName := ⟨RX2, "add", "(IIIZ)I"⟩
def RX3 : String := "SlipBench$Fraction"
def TX3 : u_T := fun k => match k with
  | 0 => ("SlipBench$Fraction", "upper", "J", false)
  | _ => ("SlipBench$Fraction", "lower", "J", false)
def tyX3 : Nat → FieldType := fun k => match k with
  | 0 => .long
  | _ => .long
abbrev wsX30 : List Cond := u_ws RX3 TX3 2
theorem nmX3 : ∀ a, a < 2 → ∀ b, b < 2 → a ≠ b → (TX3 a).2.1 ≠ (TX3 b).2.1 := by decide +kernel
theorem tyX3_ok : ∀ k, k < 2 → parseFieldDescriptor (TX3 k).2.2.1 = some (tyX3 k) := by decide +kernel
abbrev cX3_init : ByteArray := prog_5_method_1_code
def yX3_init : MethodName := ⟨RX3, "<init>", "()V"⟩
abbrev cX3_become : ByteArray := prog_5_method_2_code
def yX3_become : MethodName := ⟨RX3, "become", "(JJ)V"⟩
abbrev cX3_greatestCommon : ByteArray := prog_5_method_3_code
def yX3_greatestCommon : MethodName := ⟨RX3, "greatestCommon", "(JJ)J"⟩
def RX4 : String := "SlipBench$Ground"
def TX4 : u_T := fun k => match k with
  | 0 => ("SlipBench$Ground", "columns", "[LSlipBench$Column;", true)
  | _ => ("SlipBench$Ground", "width", "I", false)
def tyX4 : Nat → FieldType := fun k => match k with
  | 0 => .array (.object "SlipBench$Column")
  | _ => .int
abbrev wsX40 : List Cond := u_ws RX4 TX4 2
theorem nmX4 : ∀ a, a < 2 → ∀ b, b < 2 → a ≠ b → (TX4 a).2.1 ≠ (TX4 b).2.1 := by decide +kernel
theorem tyX4_ok : ∀ k, k < 2 → parseFieldDescriptor (TX4 k).2.2.1 = some (tyX4 k) := by decide +kernel
abbrev cX4_init : ByteArray := prog_6_method_1_code
def yX4_init : MethodName := ⟨RX4, "<init>", "(LSlipBench$Earths;)V"⟩
abbrev cX4_init_ : ByteArray := prog_6_method_2_code
def yX4_init_ : MethodName := ⟨RX4, "<init>", "(LSlipBench$Ground;)V"⟩
abbrev cX4_has : ByteArray := prog_6_method_3_code
def yX4_has : MethodName := ⟨RX4, "has", "(I)Z"⟩
abbrev cX4_clearTo : ByteArray := prog_6_method_4_code
def yX4_clearTo : MethodName := ⟨RX4, "clearTo", "(I)V"⟩
abbrev cX4_copy : ByteArray := prog_6_method_5_code
def yX4_copy : MethodName := ⟨RX4, "copy", "(LSlipBench$Ground;)V"⟩
abbrev cX4_reckon : ByteArray := prog_6_method_6_code
def yX4_reckon : MethodName := ⟨RX4, "reckon", "()V"⟩
abbrev cX4_raiseWater : ByteArray := prog_6_method_7_code
def yX4_raiseWater : MethodName := ⟨RX4, "raiseWater", "(I)V"⟩
abbrev cX4_cellCount : ByteArray := prog_6_method_8_code
def yX4_cellCount : MethodName := ⟨RX4, "cellCount", "()I"⟩
abbrev cX4_bears : ByteArray := prog_6_method_9_code
def yX4_bears : MethodName := ⟨RX4, "bears", "(LSlipBench$Line;)Z"⟩
abbrev cX4_holdsAlong : ByteArray := prog_6_method_10_code
def yX4_holdsAlong : MethodName := ⟨RX4, "holdsAlong", "(LSlipBench$Line;)J"⟩
abbrev cX4_drivesAlong : ByteArray := prog_6_method_11_code
def yX4_drivesAlong : MethodName := ⟨RX4, "drivesAlong", "(LSlipBench$Line;)J"⟩
abbrev cX4_holdsOfPart : ByteArray := prog_6_method_12_code
def yX4_holdsOfPart : MethodName := ⟨RX4, "holdsOfPart", "(LSlipBench$Line;I)I"⟩
def RX5 : String := "SlipBench$Line"
def TX5 : u_T := fun k => match k with
  | 0 => ("SlipBench$Line", "heights", "[I", true)
  | 1 => ("SlipBench$Line", "start", "I", false)
  | _ => ("SlipBench$Line", "size", "I", false)
def tyX5 : Nat → FieldType := fun k => match k with
  | 0 => .array .int
  | 1 => .int
  | _ => .int
abbrev wsX50 : List Cond := u_ws RX5 TX5 3
theorem nmX5 : ∀ a, a < 3 → ∀ b, b < 3 → a ≠ b → (TX5 a).2.1 ≠ (TX5 b).2.1 := by decide +kernel
theorem tyX5_ok : ∀ k, k < 3 → parseFieldDescriptor (TX5 k).2.2.1 = some (tyX5 k) := by decide +kernel
abbrev cX5_init : ByteArray := prog_7_method_1_code
def yX5_init : MethodName := ⟨RX5, "<init>", "()V"⟩
abbrev cX5_drop : ByteArray := prog_7_method_2_code
def yX5_drop : MethodName := ⟨RX5, "drop", "()V"⟩
abbrev cX5_startAt : ByteArray := prog_7_method_3_code
def yX5_startAt : MethodName := ⟨RX5, "startAt", "(II)V"⟩
abbrev cX5_add : ByteArray := prog_7_method_4_code
def yX5_add : MethodName := ⟨RX5, "add", "(I)V"⟩
abbrev cX5_end : ByteArray := prog_7_method_5_code
def yX5_end : MethodName := ⟨RX5, "end", "()I"⟩
def RX6 : String := "SlipBench$Search"
def TX6 : u_T := fun k => match k with
  | 0 => ("SlipBench$Search", "studied", "LSlipBench$Ground;", false)
  | 1 => ("SlipBench$Search", "rests", "[J", true)
  | 2 => ("SlipBench$Search", "wholes", "[J", true)
  | 3 => ("SlipBench$Search", "p", "J", false)
  | 4 => ("SlipBench$Search", "q", "J", false)
  | 5 => ("SlipBench$Search", "last", "I", false)
  | _ => ("SlipBench$Search", "anyEnd", "Z", false)
def tyX6 : Nat → FieldType := fun k => match k with
  | 0 => .object "SlipBench$Ground"
  | 1 => .array .long
  | 2 => .array .long
  | 3 => .long
  | 4 => .long
  | 5 => .int
  | _ => .boolean
abbrev wsX60 : List Cond := u_ws RX6 TX6 7
theorem nmX6 : ∀ a, a < 7 → ∀ b, b < 7 → a ≠ b → (TX6 a).2.1 ≠ (TX6 b).2.1 := by decide +kernel
theorem tyX6_ok : ∀ k, k < 7 → parseFieldDescriptor (TX6 k).2.2.1 = some (tyX6 k) := by decide +kernel
abbrev cX6_init : ByteArray := prog_8_method_1_code
def yX6_init : MethodName := ⟨RX6, "<init>", "(LSlipBench$Ground;)V"⟩
abbrev cX6_study : ByteArray := prog_8_method_2_code
def yX6_study : MethodName := ⟨RX6, "study", "(LSlipBench$Ground;)V"⟩
abbrev cX6_stands : ByteArray := prog_8_method_3_code
def yX6_stands : MethodName := ⟨RX6, "stands", "(JJ)Z"⟩
abbrev cX6_findWorst : ByteArray := prog_8_method_4_code
def yX6_findWorst : MethodName := ⟨RX6, "findWorst", "(LSlipBench$Line;LSlipBench$Fraction;)Z"⟩
abbrev cX6_findFirst : ByteArray := prog_8_method_5_code
def yX6_findFirst : MethodName := ⟨RX6, "findFirst", "(LSlipBench$Line;LSlipBench$Fraction;)V"⟩
abbrev cX6_aim : ByteArray := prog_8_method_6_code
def yX6_aim : MethodName := ⟨RX6, "aim", "(JJ)V"⟩
abbrev cX6_weigh : ByteArray := prog_8_method_7_code
def yX6_weigh : MethodName := ⟨RX6, "weigh", "(IIZ)V"⟩
abbrev cX6_clearRests : ByteArray := prog_8_method_8_code
def yX6_clearRests : MethodName := ⟨RX6, "clearRests", "(I)V"⟩
abbrev cX6_allowEnd : ByteArray := prog_8_method_9_code
def yX6_allowEnd : MethodName := ⟨RX6, "allowEnd", "(I)V"⟩
abbrev cX6_weighColumn : ByteArray := prog_8_method_10_code
def yX6_weighColumn : MethodName := ⟨RX6, "weighColumn", "(I)V"⟩
abbrev cX6_better : ByteArray := prog_8_method_11_code
def yX6_better : MethodName := ⟨RX6, "better", "(IIIJ)V"⟩
abbrev cX6_leastStart : ByteArray := prog_8_method_12_code
def yX6_leastStart : MethodName := ⟨RX6, "leastStart", "()I"⟩
abbrev cX6_follow : ByteArray := prog_8_method_13_code
def yX6_follow : MethodName := ⟨RX6, "follow", "(IJLSlipBench$Line;)V"⟩
abbrev cX6_leastRight : ByteArray := prog_8_method_14_code
def yX6_leastRight : MethodName := ⟨RX6, "leastRight", "(IIJ)I"⟩
abbrev cX6_keyOf : ByteArray := prog_8_method_15_code
def yX6_keyOf : MethodName := ⟨RX6, "keyOf", "(III)J"⟩
def RX7 : String := "SlipBench"
def TX7 : u_T := fun k => match k with
  | 0 => ("SlipBench", "earths", "LSlipBench$Earths;", true)
  | 1 => ("SlipBench", "ground", "LSlipBench$Ground;", true)
  | 2 => ("SlipBench", "trial", "LSlipBench$Ground;", true)
  | 3 => ("SlipBench", "acts", "LSlipBench$Acts;", true)
  | 4 => ("SlipBench", "search", "LSlipBench$Search;", true)
  | 5 => ("SlipBench", "begun", "LSlipBench$Line;", true)
  | 6 => ("SlipBench", "worstLine", "LSlipBench$Line;", true)
  | 7 => ("SlipBench", "worstShare", "LSlipBench$Fraction;", true)
  | 8 => ("SlipBench", "begunShare", "LSlipBench$Fraction;", true)
  | 9 => ("SlipBench", "dead", "[Z", true)
  | 10 => ("SlipBench", "tried", "[I", true)
  | 11 => ("SlipBench", "steps", "[I", true)
  | 12 => ("SlipBench", "stepCount", "I", false)
  | 13 => ("SlipBench", "worstKnown", "Z", false)
  | _ => ("SlipBench", "worstExists", "Z", false)
def tyX7 : Nat → FieldType := fun k => match k with
  | 0 => .object "SlipBench$Earths"
  | 1 => .object "SlipBench$Ground"
  | 2 => .object "SlipBench$Ground"
  | 3 => .object "SlipBench$Acts"
  | 4 => .object "SlipBench$Search"
  | 5 => .object "SlipBench$Line"
  | 6 => .object "SlipBench$Line"
  | 7 => .object "SlipBench$Fraction"
  | 8 => .object "SlipBench$Fraction"
  | 9 => .array .boolean
  | 10 => .array .int
  | 11 => .array .int
  | 12 => .int
  | 13 => .boolean
  | _ => .boolean
abbrev wsX70 : List Cond := u_ws RX7 TX7 15
theorem nmX7 : ∀ a, a < 15 → ∀ b, b < 15 → a ≠ b → (TX7 a).2.1 ≠ (TX7 b).2.1 := by decide +kernel
theorem tyX7_ok : ∀ k, k < 15 → parseFieldDescriptor (TX7 k).2.2.1 = some (tyX7 k) := by decide +kernel
abbrev cX7_init : ByteArray := prog_1_method_1_code
def yX7_init : MethodName := ⟨RX7, "<init>", "()V"⟩
abbrev cX7_ground : ByteArray := prog_1_method_2_code
def yX7_ground : MethodName := ⟨RX7, "ground", "(I)Z"⟩
abbrev cX7_earth : ByteArray := prog_1_method_3_code
def yX7_earth : MethodName := ⟨RX7, "earth", "(IIIZ)I"⟩
abbrev cX7_lay : ByteArray := prog_1_method_4_code
def yX7_lay : MethodName := ⟨RX7, "lay", "(III)I"⟩
abbrev cX7_set : ByteArray := prog_1_method_5_code
def yX7_set : MethodName := ⟨RX7, "set", "(III)Z"⟩
abbrev cX7_look : ByteArray := prog_1_method_6_code
def yX7_look : MethodName := ⟨RX7, "look", "(II)I"⟩
abbrev cX7_cell : ByteArray := prog_1_method_7_code
def yX7_cell : MethodName := ⟨RX7, "cell", "(II)I"⟩
abbrev cX7_begin : ByteArray := prog_1_method_8_code
def yX7_begin : MethodName := ⟨RX7, "begin", "(II)Z"⟩
abbrev cX7_next : ByteArray := prog_1_method_9_code
def yX7_next : MethodName := ⟨RX7, "next", "(I)I"⟩
abbrev cX7_line : ByteArray := prog_1_method_10_code
def yX7_line : MethodName := ⟨RX7, "line", "()I"⟩
abbrev cX7_share : ByteArray := prog_1_method_11_code
def yX7_share : MethodName := ⟨RX7, "share", "(I)J"⟩
abbrev cX7_worst : ByteArray := prog_1_method_12_code
def yX7_worst : MethodName := ⟨RX7, "worst", "(I)J"⟩
abbrev cX7_height : ByteArray := prog_1_method_13_code
def yX7_height : MethodName := ⟨RX7, "height", "(I)I"⟩
abbrev cX7_rise : ByteArray := prog_1_method_14_code
def yX7_rise : MethodName := ⟨RX7, "rise", "(II)I"⟩
abbrev cX7_act : ByteArray := prog_1_method_15_code
def yX7_act : MethodName := ⟨RX7, "act", "(III)I"⟩
abbrev cX7_perform : ByteArray := prog_1_method_16_code
def yX7_perform : MethodName := ⟨RX7, "perform", "(I)Z"⟩
abbrev cX7_order : ByteArray := prog_1_method_17_code
def yX7_order : MethodName := ⟨RX7, "order", "(II)I"⟩
abbrev cX7_step : ByteArray := prog_1_method_18_code
def yX7_step : MethodName := ⟨RX7, "step", "(I)I"⟩
abbrev cX7_count : ByteArray := prog_1_method_19_code
def yX7_count : MethodName := ⟨RX7, "count", "(I)I"⟩
abbrev cX7_within : ByteArray := prog_1_method_20_code
def yX7_within : MethodName := ⟨RX7, "within", "(III)Z"⟩
abbrev cX7_isRatio : ByteArray := prog_1_method_21_code
def yX7_isRatio : MethodName := ⟨RX7, "isRatio", "(II)Z"⟩
abbrev cX7_knowWorst : ByteArray := prog_1_method_22_code
def yX7_knowWorst : MethodName := ⟨RX7, "knowWorst", "()Z"⟩
abbrev cX7_standsRisen : ByteArray := prog_1_method_23_code
def yX7_standsRisen : MethodName := ⟨RX7, "standsRisen", "(III)Z"⟩
abbrev cX7_standsBehind : ByteArray := prog_1_method_24_code
def yX7_standsBehind : MethodName := ⟨RX7, "standsBehind", "(III)Z"⟩
abbrev cX7_leadsOn : ByteArray := prog_1_method_25_code
def yX7_leadsOn : MethodName := ⟨RX7, "leadsOn", "(IIII)Z"⟩
def RX8 : String := "SlipBenchModel"
def TX8 : u_T := fun k => match k with
  | 0 => ("SlipBenchModel", "width", "I", false)
  | 1 => ("SlipBenchModel", "earths", "I", false)
  | 2 => ("SlipBenchModel", "weight", "[I", true)
  | 3 => ("SlipBenchModel", "hold", "[I", true)
  | 4 => ("SlipBenchModel", "rub", "[I", true)
  | 5 => ("SlipBenchModel", "rock", "[Z", true)
  | 6 => ("SlipBenchModel", "cells", "[I", true)
  | 7 => ("SlipBenchModel", "heights", "[I", true)
  | 8 => ("SlipBenchModel", "waters", "[I", true)
  | 9 => ("SlipBenchModel", "loads", "[I", true)
  | 10 => ("SlipBenchModel", "nails", "[I", true)
  | 11 => ("SlipBenchModel", "base", "I", false)
  | 12 => ("SlipBenchModel", "acts", "I", false)
  | 13 => ("SlipBenchModel", "actKind", "[I", true)
  | 14 => ("SlipBenchModel", "actColumn", "[I", true)
  | 15 => ("SlipBenchModel", "actN", "[I", true)
  | 16 => ("SlipBenchModel", "lineFrom", "I", false)
  | 17 => ("SlipBenchModel", "lineMany", "I", false)
  | 18 => ("SlipBenchModel", "line", "[I", true)
  | 19 => ("SlipBenchModel", "thrown", "I", false)
  | 20 => ("SlipBenchModel", "sum", "[J", true)
  | 21 => ("SlipBenchModel", "drove", "[J", true)
  | 22 => ("SlipBenchModel", "held", "[J", true)
  | 23 => ("SlipBenchModel", "bestSum", "J", false)
  | 24 => ("SlipBenchModel", "bestDrive", "J", false)
  | 25 => ("SlipBenchModel", "bestHold", "J", false)
  | 26 => ("SlipBenchModel", "isWorst", "Z", false)
  | 27 => ("SlipBenchModel", "up", "J", false)
  | 28 => ("SlipBenchModel", "low", "J", false)
  | 29 => ("SlipBenchModel", "from", "I", false)
  | 30 => ("SlipBenchModel", "to", "I", false)
  | 31 => ("SlipBenchModel", "way", "[I", true)
  | 32 => ("SlipBenchModel", "row", "[I", true)
  | 33 => ("SlipBenchModel", "steps", "[I", true)
  | _ => ("SlipBenchModel", "stepMany", "I", false)
def tyX8 : Nat → FieldType := fun k => match k with
  | 0 => .int
  | 1 => .int
  | 2 => .array .int
  | 3 => .array .int
  | 4 => .array .int
  | 5 => .array .boolean
  | 6 => .array .int
  | 7 => .array .int
  | 8 => .array .int
  | 9 => .array .int
  | 10 => .array .int
  | 11 => .int
  | 12 => .int
  | 13 => .array .int
  | 14 => .array .int
  | 15 => .array .int
  | 16 => .int
  | 17 => .int
  | 18 => .array .int
  | 19 => .int
  | 20 => .array .long
  | 21 => .array .long
  | 22 => .array .long
  | 23 => .long
  | 24 => .long
  | 25 => .long
  | 26 => .boolean
  | 27 => .long
  | 28 => .long
  | 29 => .int
  | 30 => .int
  | 31 => .array .int
  | 32 => .array .int
  | 33 => .array .int
  | _ => .int
abbrev wsX80 : List Cond := u_ws RX8 TX8 35
theorem nmX8 : ∀ a, a < 35 → ∀ b, b < 35 → a ≠ b → (TX8 a).2.1 ≠ (TX8 b).2.1 := by decide +kernel
theorem tyX8_ok : ∀ k, k < 35 → parseFieldDescriptor (TX8 k).2.2.1 = some (tyX8 k) := by decide +kernel
abbrev cX8_init : ByteArray := prog_10_method_1_code
def yX8_init : MethodName := ⟨RX8, "<init>", "()V"⟩
abbrev cX8_ground : ByteArray := prog_10_method_3_code
def yX8_ground : MethodName := ⟨RX8, "ground", "(I)Z"⟩
abbrev cX8_earth : ByteArray := prog_10_method_4_code
def yX8_earth : MethodName := ⟨RX8, "earth", "(IIIZ)I"⟩
abbrev cX8_isColumn : ByteArray := prog_10_method_5_code
def yX8_isColumn : MethodName := ⟨RX8, "isColumn", "(I)Z"⟩
abbrev cX8_lay : ByteArray := prog_10_method_6_code
def yX8_lay : MethodName := ⟨RX8, "lay", "(III)I"⟩
abbrev cX8_set : ByteArray := prog_10_method_7_code
def yX8_set : MethodName := ⟨RX8, "set", "(III)Z"⟩
abbrev cX8_fails : ByteArray := prog_10_method_8_code
def yX8_fails : MethodName := ⟨RX8, "fails", "(I)I"⟩
abbrev cX8_look : ByteArray := prog_10_method_9_code
def yX8_look : MethodName := ⟨RX8, "look", "(II)I"⟩
abbrev cX8_cell : ByteArray := prog_10_method_10_code
def yX8_cell : MethodName := ⟨RX8, "cell", "(II)I"⟩
abbrev cX8_can : ByteArray := prog_10_method_11_code
def yX8_can : MethodName := ⟨RX8, "can", "(III)Z"⟩
abbrev cX8_press : ByteArray := prog_10_method_12_code
def yX8_press : MethodName := ⟨RX8, "press", "(II)I"⟩
abbrev cX8_holds : ByteArray := prog_10_method_13_code
def yX8_holds : MethodName := ⟨RX8, "holds", "(III)J"⟩
abbrev cX8_drives : ByteArray := prog_10_method_14_code
def yX8_drives : MethodName := ⟨RX8, "drives", "(III)J"⟩
abbrev cX8_begin : ByteArray := prog_10_method_15_code
def yX8_begin : MethodName := ⟨RX8, "begin", "(II)Z"⟩
abbrev cX8_next : ByteArray := prog_10_method_16_code
def yX8_next : MethodName := ⟨RX8, "next", "(I)I"⟩
abbrev cX8_isLine : ByteArray := prog_10_method_17_code
def yX8_isLine : MethodName := ⟨RX8, "isLine", "()Z"⟩
abbrev cX8_line : ByteArray := prog_10_method_18_code
def yX8_line : MethodName := ⟨RX8, "line", "()I"⟩
abbrev cX8_divisor : ByteArray := prog_10_method_19_code
def yX8_divisor : MethodName := ⟨RX8, "divisor", "(JJ)J"⟩
abbrev cX8_share : ByteArray := prog_10_method_20_code
def yX8_share : MethodName := ⟨RX8, "share", "(I)J"⟩
abbrev cX8_better : ByteArray := prog_10_method_21_code
def yX8_better : MethodName := ⟨RX8, "better", "(JJJJ)Z"⟩
abbrev cX8_walk : ByteArray := prog_10_method_22_code
def yX8_walk : MethodName := ⟨RX8, "walk", "(IJJI)V"⟩
abbrev cX8_findWorst : ByteArray := prog_10_method_23_code
def yX8_findWorst : MethodName := ⟨RX8, "findWorst", "()V"⟩
abbrev cX8_findLine : ByteArray := prog_10_method_24_code
def yX8_findLine : MethodName := ⟨RX8, "findLine", "()V"⟩
abbrev cX8_worst : ByteArray := prog_10_method_25_code
def yX8_worst : MethodName := ⟨RX8, "worst", "(I)J"⟩
abbrev cX8_height : ByteArray := prog_10_method_26_code
def yX8_height : MethodName := ⟨RX8, "height", "(I)I"⟩
abbrev cX8_holdsOut : ByteArray := prog_10_method_27_code
def yX8_holdsOut : MethodName := ⟨RX8, "holdsOut", "(II)Z"⟩
abbrev cX8_areShares : ByteArray := prog_10_method_28_code
def yX8_areShares : MethodName := ⟨RX8, "areShares", "(II)Z"⟩
abbrev cX8_tries : ByteArray := prog_10_method_29_code
def yX8_tries : MethodName := ⟨RX8, "tries", "()V"⟩
abbrev cX8_rise : ByteArray := prog_10_method_30_code
def yX8_rise : MethodName := ⟨RX8, "rise", "(II)I"⟩
abbrev cX8_act : ByteArray := prog_10_method_31_code
def yX8_act : MethodName := ⟨RX8, "act", "(III)I"⟩
abbrev cX8_does : ByteArray := prog_10_method_32_code
def yX8_does : MethodName := ⟨RX8, "does", "(I)V"⟩
abbrev cX8_perform : ByteArray := prog_10_method_33_code
def yX8_perform : MethodName := ⟨RX8, "perform", "(I)Z"⟩
abbrev cX8_swap : ByteArray := prog_10_method_34_code
def yX8_swap : MethodName := ⟨RX8, "swap", "(II)V"⟩
abbrev cX8_another : ByteArray := prog_10_method_35_code
def yX8_another : MethodName := ⟨RX8, "another", "()Z"⟩
abbrev cX8_order : ByteArray := prog_10_method_36_code
def yX8_order : MethodName := ⟨RX8, "order", "(II)I"⟩
abbrev cX8_step : ByteArray := prog_10_method_37_code
def yX8_step : MethodName := ⟨RX8, "step", "(I)I"⟩
abbrev cX8_count : ByteArray := prog_10_method_38_code
def yX8_count : MethodName := ⟨RX8, "count", "(I)I"⟩
def RJ9 : String := "java/lang/Math"
def TJ9 : u_T := fun k => match k with
  | _ => ("", "", "", false)
def tyJ9 : Nat → FieldType := fun k => match k with
  | _ => .int
abbrev wsJ90 : List Cond := u_ws RJ9 TJ9 0
theorem nmJ9 : ∀ a, a < 0 → ∀ b, b < 0 → a ≠ b → (TJ9 a).2.1 ≠ (TJ9 b).2.1 := by decide +kernel
theorem tyJ9_ok : ∀ k, k < 0 → parseFieldDescriptor (TJ9 k).2.2.1 = some (tyJ9 k) := by decide +kernel
abbrev cJ9_abs_0f7a4 : ByteArray := prog_13_method_59_code
def yJ9_abs_0f7a4 : MethodName := ⟨RJ9, "abs", "(I)I"⟩
abbrev cJ9_max_7cf53 : ByteArray := prog_13_method_65_code
def yJ9_max_7cf53 : MethodName := ⟨RJ9, "max", "(II)I"⟩
abbrev cJ9_min_7cf53 : ByteArray := prog_13_method_69_code
def yJ9_min_7cf53 : MethodName := ⟨RJ9, "min", "(II)I"⟩
abbrev cJ9_min_f86c9 : ByteArray := prog_13_method_70_code
def yJ9_min_f86c9 : MethodName := ⟨RJ9, "min", "(JJ)J"⟩
def RJ0 : String := "java/lang/String"
def TJ0 : u_T := fun k => match k with
  | _ => ("", "", "", false)
def tyJ0 : Nat → FieldType := fun k => match k with
  | _ => .int
abbrev wsJ00 : List Cond := u_ws RJ0 TJ0 0
theorem nmJ0 : ∀ a, a < 0 → ∀ b, b < 0 → a ≠ b → (TJ0 a).2.1 ≠ (TJ0 b).2.1 := by decide +kernel
theorem tyJ0_ok : ∀ k, k < 0 → parseFieldDescriptor (TJ0 k).2.2.1 = some (tyJ0 k) := by decide +kernel
def RJ10 : String := "java/lang/System"
def TJ10 : u_T := fun k => match k with
  | _ => ("", "", "", false)
def tyJ10 : Nat → FieldType := fun k => match k with
  | _ => .int
abbrev wsJ100 : List Cond := u_ws RJ10 TJ10 0
theorem nmJ10 : ∀ a, a < 0 → ∀ b, b < 0 → a ≠ b → (TJ10 a).2.1 ≠ (TJ10 b).2.1 := by decide +kernel
theorem tyJ10_ok : ∀ k, k < 0 → parseFieldDescriptor (TJ10 k).2.2.1 = some (tyJ10 k) := by decide +kernel
def RL : String := "SlipBenchLaw"
abbrev cL_look : ByteArray := method_3_code
def yL_look : MethodName := ⟨RL, "look", "(LSlipBench;II[J)I"⟩
abbrev cL_share : ByteArray := method_4_code
def yL_share : MethodName := ⟨RL, "share", "(LSlipBench;I[J)I"⟩
abbrev cL_law : ByteArray := code
def yL_law : MethodName := ⟨RL, "law", "([I)Z"⟩
def wsX0_init : List Cond := .code yX0_init cX0_init 1 none :: ([.methodLink RX0 3 objectInit, .instanceMethod objectInit, .code objectInit ⟨#[0xb1]⟩ 1 none, .fieldLink RX0 9 "SlipBench$Acts" "size" "I", .arrayClass .int, .fieldLink RX0 15 "SlipBench$Acts" "kinds" "[I", .fieldLink RX0 19 "SlipBench$Acts" "places" "[I", .fieldLink RX0 22 "SlipBench$Acts" "amounts" "[I"] ++ wsX00)
def wsX7_within : List Cond := .code yX7_within cX7_within 3 (some .boolean) :: ([])
def wsX0_has : List Cond := .code yX0_has cX0_has 2 (some .boolean) :: ([.fieldLink RX0 9 "SlipBench$Acts" "size" "I", .static yX7_within, .initialized RX7, .code yX7_within cX7_within 3 (some .boolean)] ++ wsX00)
def wsX0_add : List Cond := .code yX0_add cX0_add 4 (some .int) :: ([.fieldLink RX0 9 "SlipBench$Acts" "size" "I", .fieldLink RX0 15 "SlipBench$Acts" "kinds" "[I", .fieldLink RX0 19 "SlipBench$Acts" "places" "[I", .fieldLink RX0 22 "SlipBench$Acts" "amounts" "[I"] ++ wsX00)
def wsX4_has : List Cond := .code yX4_has cX4_has 2 (some .boolean) :: ([.fieldLink RX4 17 "SlipBench$Ground" "width" "I", .static yX7_within, .initialized RX7, .code yX7_within cX7_within 3 (some .boolean)] ++ wsX40)
def wsX1_digTo : List Cond := .code yX1_digTo cX1_digTo 2 none :: ([.fieldLink RX1 9 "SlipBench$Column" "tall" "I", .methodLink RX1 48 Lib.Math.min.name, .static Lib.Math.min.name, .initialized "java/lang/Math", .code Lib.Math.min.name Lib.Math.min.code 2 (some .int), .fieldLink RX1 31 "SlipBench$Column" "reckoned" "Z"] ++ wsX10)
def wsX1_put : List Cond := .code yX1_put cX1_put 3 none :: ([.fieldLink RX1 15 "SlipBench$Column" "water" "I", .fieldLink RX1 18 "SlipBench$Column" "load" "I", .fieldLink RX1 21 "SlipBench$Column" "nails" "I", .fieldLink RX1 31 "SlipBench$Column" "reckoned" "Z"] ++ wsX10)
def wsX0_doOn_r1 : List Cond := [Cond.fieldLink RX0 19 "SlipBench$Acts" "places" "[I", Cond.fieldLink RX0 36 "SlipBench$Ground" "columns" "[LSlipBench$Column;", Cond.fieldLink RX0 22 "SlipBench$Acts" "amounts" "[I", Cond.fieldLink RX0 15 "SlipBench$Acts" "kinds" "[I", Cond.fieldLink RX0 46 "SlipBench$Column" "nails" "I", Cond.methodLink RX0 49 Lib.Math.min.name, Cond.static Lib.Math.min.name, Cond.initialized "java/lang/Math", Cond.code Lib.Math.min.name Lib.Math.min.code 2 (some .int), Cond.fieldLink RX0 59 "SlipBench$Column" "water" "I", Cond.fieldLink RX0 62 "SlipBench$Column" "load" "I", Cond.methodLink RX0 29 yX0_has, Cond.instanceMethod yX0_has, Cond.selects RX0 yX0_has yX0_has, Cond.initialized RX0, Cond.code yX0_has cX0_has 2 (some .boolean), Cond.fieldLink RX0 9 "SlipBench$Acts" "size" "I", Cond.static yX7_within, Cond.initialized RX7, Cond.code yX7_within cX7_within 3 (some .boolean), Cond.methodLink RX0 33 yX4_has, Cond.instanceMethod yX4_has, Cond.selects RX4 yX4_has yX4_has, Cond.initialized RX4]
def wsX0_doOn_r2 : List Cond := [Cond.code yX4_has cX4_has 2 (some .boolean), Cond.fieldLink RX4 17 "SlipBench$Ground" "width" "I", Cond.methodLink RX0 40 yX1_digTo, Cond.instanceMethod yX1_digTo, Cond.selects RX1 yX1_digTo yX1_digTo, Cond.initialized RX1, Cond.code yX1_digTo cX1_digTo 2 none, Cond.fieldLink RX1 9 "SlipBench$Column" "tall" "I", Cond.methodLink RX1 48 Lib.Math.min.name, Cond.fieldLink RX1 31 "SlipBench$Column" "reckoned" "Z", Cond.methodLink RX0 55 yX1_put, Cond.instanceMethod yX1_put, Cond.selects RX1 yX1_put yX1_put, Cond.code yX1_put cX1_put 3 none, Cond.fieldLink RX1 15 "SlipBench$Column" "water" "I", Cond.fieldLink RX1 18 "SlipBench$Column" "load" "I", Cond.fieldLink RX1 21 "SlipBench$Column" "nails" "I"]
def wsX0_doOn : List Cond := .code yX0_doOn cX0_doOn 5 none :: ((wsX0_doOn_r1 ++ wsX0_doOn_r2) ++ wsX00 ++ wsX40 ++ wsX10)
def wsX1_init : List Cond := .code yX1_init cX1_init 3 none :: ([.methodLink RX1 3 objectInit, .instanceMethod objectInit, .code objectInit ⟨#[0xb1]⟩ 1 none, .fieldLink RX1 9 "SlipBench$Column" "tall" "I", .fieldLink RX1 15 "SlipBench$Column" "water" "I", .fieldLink RX1 18 "SlipBench$Column" "load" "I", .fieldLink RX1 21 "SlipBench$Column" "nails" "I", .arrayClass .int, .fieldLink RX1 24 "SlipBench$Column" "presses" "[I", .fieldLink RX1 28 "SlipBench$Column" "holds" "[I", .fieldLink RX1 31 "SlipBench$Column" "reckoned" "Z", .fieldLink RX1 35 "SlipBench$Column" "earths" "LSlipBench$Earths;", .fieldLink RX1 39 "SlipBench$Column" "cells" "[I"] ++ wsX10)
def wsX1_clear : List Cond := .code yX1_clear cX1_clear 1 none :: ([.fieldLink RX1 9 "SlipBench$Column" "tall" "I", .fieldLink RX1 15 "SlipBench$Column" "water" "I", .fieldLink RX1 18 "SlipBench$Column" "load" "I", .fieldLink RX1 21 "SlipBench$Column" "nails" "I", .fieldLink RX1 31 "SlipBench$Column" "reckoned" "Z"] ++ wsX10)
def wsX1_copy : List Cond := .code yX1_copy cX1_copy 2 none :: ([.fieldLink RX1 9 "SlipBench$Column" "tall" "I", .fieldLink RX1 15 "SlipBench$Column" "water" "I", .fieldLink RX1 18 "SlipBench$Column" "load" "I", .fieldLink RX1 21 "SlipBench$Column" "nails" "I", .fieldLink RX1 24 "SlipBench$Column" "presses" "[I", .methodLink RX1 42 arraycopyName, .native arraycopyName, .static arraycopyName, .initialized "java/lang/System", .fieldLink RX1 28 "SlipBench$Column" "holds" "[I", .fieldLink RX1 31 "SlipBench$Column" "reckoned" "Z"] ++ wsX10)
def wsX1_pile : List Cond := .code yX1_pile cX1_pile 5 none :: ([.fieldLink RX1 9 "SlipBench$Column" "tall" "I", .methodLink RX1 48 Lib.Math.min.name, .static Lib.Math.min.name, .initialized "java/lang/Math", .code Lib.Math.min.name Lib.Math.min.code 2 (some .int), .fieldLink RX1 39 "SlipBench$Column" "cells" "[I", .fieldLink RX1 31 "SlipBench$Column" "reckoned" "Z"] ++ wsX10)
def wsX1_holdsAt : List Cond := .code yX1_holdsAt cX1_holdsAt 3 (some .int) :: ([.fieldLink RX1 9 "SlipBench$Column" "tall" "I", .fieldLink RX1 28 "SlipBench$Column" "holds" "[I"] ++ wsX10)
def wsX1_drivesFrom : List Cond := .code yX1_drivesFrom cX1_drivesFrom 3 (some .int) :: ([.fieldLink RX1 9 "SlipBench$Column" "tall" "I", .fieldLink RX1 24 "SlipBench$Column" "presses" "[I"] ++ wsX10)
def wsX1_reckonHolds : List Cond := .code yX1_reckonHolds cX1_reckonHolds 8 (some .int) :: ([.fieldLink RX1 39 "SlipBench$Column" "cells" "[I", .fieldLink RX1 35 "SlipBench$Column" "earths" "LSlipBench$Earths;", .fieldLink RX1 62 "SlipBench$Earths" "rocks" "[Z", .fieldLink RX1 15 "SlipBench$Column" "water" "I", .methodLink RX1 66 Lib.Math.max.name, .static Lib.Math.max.name, .initialized "java/lang/Math", .code Lib.Math.max.name Lib.Math.max.code 2 (some .int), .fieldLink RX1 69 "SlipBench$Earths" "rubs" "[I", .fieldLink RX1 24 "SlipBench$Column" "presses" "[I", .fieldLink RX1 72 "SlipBench$Earths" "holds" "[I", .fieldLink RX1 21 "SlipBench$Column" "nails" "I"] ++ wsX10 ++ wsX20)
def wsX1_reckon : List Cond := .code yX1_reckon cX1_reckon 3 none :: ([.fieldLink RX1 31 "SlipBench$Column" "reckoned" "Z", .fieldLink RX1 24 "SlipBench$Column" "presses" "[I", .fieldLink RX1 9 "SlipBench$Column" "tall" "I", .fieldLink RX1 18 "SlipBench$Column" "load" "I", .fieldLink RX1 35 "SlipBench$Column" "earths" "LSlipBench$Earths;", .fieldLink RX1 54 "SlipBench$Earths" "weights" "[I", .fieldLink RX1 39 "SlipBench$Column" "cells" "[I", .fieldLink RX1 28 "SlipBench$Column" "holds" "[I", .methodLink RX1 59 yX1_reckonHolds, .instanceMethod yX1_reckonHolds, .selects RX1 yX1_reckonHolds yX1_reckonHolds, .initialized RX1, .code yX1_reckonHolds cX1_reckonHolds 8 (some .int), .fieldLink RX1 62 "SlipBench$Earths" "rocks" "[Z", .fieldLink RX1 15 "SlipBench$Column" "water" "I", .methodLink RX1 66 Lib.Math.max.name, .static Lib.Math.max.name, .initialized "java/lang/Math", .code Lib.Math.max.name Lib.Math.max.code 2 (some .int), .fieldLink RX1 69 "SlipBench$Earths" "rubs" "[I", .fieldLink RX1 72 "SlipBench$Earths" "holds" "[I", .fieldLink RX1 21 "SlipBench$Column" "nails" "I"] ++ wsX10 ++ wsX20)
def wsX2_init : List Cond := .code yX2_init cX2_init 1 none :: ([.methodLink RX2 3 objectInit, .instanceMethod objectInit, .code objectInit ⟨#[0xb1]⟩ 1 none, .arrayClass .int, .fieldLink RX2 9 "SlipBench$Earths" "weights" "[I", .fieldLink RX2 15 "SlipBench$Earths" "holds" "[I", .fieldLink RX2 18 "SlipBench$Earths" "rubs" "[I", .arrayClass .boolean, .fieldLink RX2 21 "SlipBench$Earths" "rocks" "[Z", .fieldLink RX2 25 "SlipBench$Earths" "size" "I"] ++ wsX20)
def wsX2_has : List Cond := .code yX2_has cX2_has 2 (some .boolean) :: ([.fieldLink RX2 25 "SlipBench$Earths" "size" "I", .static yX7_within, .initialized RX7, .code yX7_within cX7_within 3 (some .boolean)] ++ wsX20)
def wsX2_add : List Cond := .code yX2_add cX2_add 5 (some .int) :: ([.fieldLink RX2 25 "SlipBench$Earths" "size" "I", .fieldLink RX2 9 "SlipBench$Earths" "weights" "[I", .fieldLink RX2 15 "SlipBench$Earths" "holds" "[I", .fieldLink RX2 18 "SlipBench$Earths" "rubs" "[I", .fieldLink RX2 21 "SlipBench$Earths" "rocks" "[Z"] ++ wsX20)
def wsX3_init : List Cond := .code yX3_init cX3_init 1 none :: ([.methodLink RX3 1 objectInit, .instanceMethod objectInit, .code objectInit ⟨#[0xb1]⟩ 1 none, .fieldLink RX3 7 "SlipBench$Fraction" "upper" "J", .fieldLink RX3 13 "SlipBench$Fraction" "lower" "J"] ++ wsX30)
def wsX3_greatestCommon : List Cond := .code yX3_greatestCommon cX3_greatestCommon 11 (some .long) :: ([])
def wsX3_become : List Cond := .code yX3_become cX3_become 7 none :: ([.fieldLink RX3 7 "SlipBench$Fraction" "upper" "J", .fieldLink RX3 13 "SlipBench$Fraction" "lower" "J", .methodLink RX3 16 yX3_greatestCommon, .static yX3_greatestCommon, .initialized RX3, .code yX3_greatestCommon cX3_greatestCommon 11 (some .long)] ++ wsX30)
def wsX4_init : List Cond := .code yX4_init cX4_init 3 none :: ([.methodLink RX4 3 objectInit, .instanceMethod objectInit, .code objectInit ⟨#[0xb1]⟩ 1 none, .classLink RX4 9 RX1, .fieldLink RX4 11 "SlipBench$Ground" "columns" "[LSlipBench$Column;", .fieldLink RX4 17 "SlipBench$Ground" "width" "I", .instantiable RX1 9, .initialized RX1, .arrayClass .int, .methodLink RX4 21 yX1_init, .instanceMethod yX1_init, .code yX1_init cX1_init 3 none, .methodLink RX1 3 objectInit, .fieldLink RX1 9 "SlipBench$Column" "tall" "I", .fieldLink RX1 15 "SlipBench$Column" "water" "I", .fieldLink RX1 18 "SlipBench$Column" "load" "I", .fieldLink RX1 21 "SlipBench$Column" "nails" "I", .fieldLink RX1 24 "SlipBench$Column" "presses" "[I", .fieldLink RX1 28 "SlipBench$Column" "holds" "[I", .fieldLink RX1 31 "SlipBench$Column" "reckoned" "Z", .fieldLink RX1 35 "SlipBench$Column" "earths" "LSlipBench$Earths;", .fieldLink RX1 39 "SlipBench$Column" "cells" "[I"] ++ wsX40 ++ wsX10)
def wsX4_init_ : List Cond := .code yX4_init_ cX4_init_ 3 none :: ([.methodLink RX4 3 objectInit, .instanceMethod objectInit, .code objectInit ⟨#[0xb1]⟩ 1 none, .classLink RX4 9 RX1, .fieldLink RX4 11 "SlipBench$Ground" "columns" "[LSlipBench$Column;", .fieldLink RX4 17 "SlipBench$Ground" "width" "I", .instantiable RX1 9, .initialized RX1, .fieldLink RX4 28 "SlipBench$Column" "cells" "[I", .methodLink RX4 21 yX1_init, .instanceMethod yX1_init, .code yX1_init cX1_init 3 none, .methodLink RX1 3 objectInit, .fieldLink RX1 9 "SlipBench$Column" "tall" "I", .fieldLink RX1 15 "SlipBench$Column" "water" "I", .fieldLink RX1 18 "SlipBench$Column" "load" "I", .fieldLink RX1 21 "SlipBench$Column" "nails" "I", .arrayClass .int, .fieldLink RX1 24 "SlipBench$Column" "presses" "[I", .fieldLink RX1 28 "SlipBench$Column" "holds" "[I", .fieldLink RX1 31 "SlipBench$Column" "reckoned" "Z", .fieldLink RX1 35 "SlipBench$Column" "earths" "LSlipBench$Earths;", .fieldLink RX1 39 "SlipBench$Column" "cells" "[I"] ++ wsX40 ++ wsX10)
def wsX4_clearTo : List Cond := .code yX4_clearTo cX4_clearTo 3 none :: ([.fieldLink RX4 17 "SlipBench$Ground" "width" "I", .fieldLink RX4 11 "SlipBench$Ground" "columns" "[LSlipBench$Column;", .methodLink RX4 36 yX1_clear, .instanceMethod yX1_clear, .selects RX1 yX1_clear yX1_clear, .initialized RX1, .code yX1_clear cX1_clear 1 none, .fieldLink RX1 9 "SlipBench$Column" "tall" "I", .fieldLink RX1 15 "SlipBench$Column" "water" "I", .fieldLink RX1 18 "SlipBench$Column" "load" "I", .fieldLink RX1 21 "SlipBench$Column" "nails" "I", .fieldLink RX1 31 "SlipBench$Column" "reckoned" "Z"] ++ wsX40 ++ wsX10)
def wsX4_copy : List Cond := .code yX4_copy cX4_copy 3 none :: ([.fieldLink RX4 17 "SlipBench$Ground" "width" "I", .fieldLink RX4 11 "SlipBench$Ground" "columns" "[LSlipBench$Column;", .methodLink RX4 39 yX1_copy, .instanceMethod yX1_copy, .selects RX1 yX1_copy yX1_copy, .initialized RX1, .code yX1_copy cX1_copy 2 none, .fieldLink RX1 9 "SlipBench$Column" "tall" "I", .fieldLink RX1 15 "SlipBench$Column" "water" "I", .fieldLink RX1 18 "SlipBench$Column" "load" "I", .fieldLink RX1 21 "SlipBench$Column" "nails" "I", .fieldLink RX1 24 "SlipBench$Column" "presses" "[I", .methodLink RX1 42 arraycopyName, .native arraycopyName, .static arraycopyName, .initialized "java/lang/System", .fieldLink RX1 28 "SlipBench$Column" "holds" "[I", .fieldLink RX1 31 "SlipBench$Column" "reckoned" "Z"] ++ wsX40 ++ wsX10)
def wsX4_reckon_r1 : List Cond := [Cond.fieldLink RX4 17 "SlipBench$Ground" "width" "I", Cond.fieldLink RX4 11 "SlipBench$Ground" "columns" "[LSlipBench$Column;", Cond.methodLink RX4 43 yX1_reckon, Cond.instanceMethod yX1_reckon, Cond.selects RX1 yX1_reckon yX1_reckon, Cond.initialized RX1, Cond.code yX1_reckon cX1_reckon 3 none, Cond.fieldLink RX1 31 "SlipBench$Column" "reckoned" "Z", Cond.fieldLink RX1 24 "SlipBench$Column" "presses" "[I", Cond.fieldLink RX1 9 "SlipBench$Column" "tall" "I", Cond.fieldLink RX1 18 "SlipBench$Column" "load" "I", Cond.fieldLink RX1 35 "SlipBench$Column" "earths" "LSlipBench$Earths;", Cond.fieldLink RX1 54 "SlipBench$Earths" "weights" "[I", Cond.fieldLink RX1 39 "SlipBench$Column" "cells" "[I", Cond.fieldLink RX1 28 "SlipBench$Column" "holds" "[I", Cond.methodLink RX1 59 yX1_reckonHolds, Cond.instanceMethod yX1_reckonHolds, Cond.selects RX1 yX1_reckonHolds yX1_reckonHolds, Cond.code yX1_reckonHolds cX1_reckonHolds 8 (some .int), Cond.fieldLink RX1 62 "SlipBench$Earths" "rocks" "[Z", Cond.fieldLink RX1 15 "SlipBench$Column" "water" "I", Cond.methodLink RX1 66 Lib.Math.max.name, Cond.static Lib.Math.max.name, Cond.initialized "java/lang/Math"]
def wsX4_reckon_r2 : List Cond := [Cond.code Lib.Math.max.name Lib.Math.max.code 2 (some .int), Cond.fieldLink RX1 69 "SlipBench$Earths" "rubs" "[I", Cond.fieldLink RX1 72 "SlipBench$Earths" "holds" "[I", Cond.fieldLink RX1 21 "SlipBench$Column" "nails" "I"]
def wsX4_reckon : List Cond := .code yX4_reckon cX4_reckon 2 none :: ((wsX4_reckon_r1 ++ wsX4_reckon_r2) ++ wsX40 ++ wsX10 ++ wsX20)
def wsX4_raiseWater : List Cond := .code yX4_raiseWater cX4_raiseWater 3 none :: ([.fieldLink RX4 17 "SlipBench$Ground" "width" "I", .fieldLink RX4 11 "SlipBench$Ground" "columns" "[LSlipBench$Column;", .fieldLink RX4 46 "SlipBench$Column" "water" "I", .methodLink RX4 49 Lib.Math.min.name, .static Lib.Math.min.name, .initialized "java/lang/Math", .code Lib.Math.min.name Lib.Math.min.code 2 (some .int), .methodLink RX4 55 yX1_put, .instanceMethod yX1_put, .selects RX1 yX1_put yX1_put, .initialized RX1, .code yX1_put cX1_put 3 none, .fieldLink RX1 15 "SlipBench$Column" "water" "I", .fieldLink RX1 18 "SlipBench$Column" "load" "I", .fieldLink RX1 21 "SlipBench$Column" "nails" "I", .fieldLink RX1 31 "SlipBench$Column" "reckoned" "Z"] ++ wsX40 ++ wsX10)
def wsX4_cellCount : List Cond := .code yX4_cellCount cX4_cellCount 3 (some .int) :: ([.fieldLink RX4 17 "SlipBench$Ground" "width" "I", .fieldLink RX4 11 "SlipBench$Ground" "columns" "[LSlipBench$Column;", .fieldLink RX4 59 "SlipBench$Column" "tall" "I"] ++ wsX40 ++ wsX10)
def wsX5_end : List Cond := .code yX5_end cX5_end 1 (some .int) :: ([.fieldLink RX5 15 "SlipBench$Line" "start" "I", .fieldLink RX5 19 "SlipBench$Line" "size" "I"] ++ wsX50)
def wsX4_holdsOfPart_r1 : List Cond := [Cond.fieldLink RX4 11 "SlipBench$Ground" "columns" "[LSlipBench$Column;", Cond.fieldLink RX4 74 "SlipBench$Line" "start" "I", Cond.fieldLink RX4 71 "SlipBench$Line" "heights" "[I", Cond.methodLink RX4 49 Lib.Math.min.name, Cond.static Lib.Math.min.name, Cond.initialized "java/lang/Math", Cond.code Lib.Math.min.name Lib.Math.min.code 2 (some .int), Cond.methodLink RX4 87 Lib.Math.abs.name, Cond.static Lib.Math.abs.name, Cond.code Lib.Math.abs.name Lib.Math.abs.code 1 (some .int), Cond.methodLink RX4 43 yX1_reckon, Cond.instanceMethod yX1_reckon, Cond.selects RX1 yX1_reckon yX1_reckon, Cond.initialized RX1, Cond.code yX1_reckon cX1_reckon 3 none, Cond.fieldLink RX1 31 "SlipBench$Column" "reckoned" "Z", Cond.fieldLink RX1 24 "SlipBench$Column" "presses" "[I", Cond.fieldLink RX1 9 "SlipBench$Column" "tall" "I", Cond.fieldLink RX1 18 "SlipBench$Column" "load" "I", Cond.fieldLink RX1 35 "SlipBench$Column" "earths" "LSlipBench$Earths;", Cond.fieldLink RX1 54 "SlipBench$Earths" "weights" "[I", Cond.fieldLink RX1 39 "SlipBench$Column" "cells" "[I", Cond.fieldLink RX1 28 "SlipBench$Column" "holds" "[I", Cond.methodLink RX1 59 yX1_reckonHolds]
def wsX4_holdsOfPart_r2 : List Cond := [Cond.instanceMethod yX1_reckonHolds, Cond.selects RX1 yX1_reckonHolds yX1_reckonHolds, Cond.code yX1_reckonHolds cX1_reckonHolds 8 (some .int), Cond.fieldLink RX1 62 "SlipBench$Earths" "rocks" "[Z", Cond.fieldLink RX1 15 "SlipBench$Column" "water" "I", Cond.methodLink RX1 66 Lib.Math.max.name, Cond.static Lib.Math.max.name, Cond.code Lib.Math.max.name Lib.Math.max.code 2 (some .int), Cond.fieldLink RX1 69 "SlipBench$Earths" "rubs" "[I", Cond.fieldLink RX1 72 "SlipBench$Earths" "holds" "[I", Cond.fieldLink RX1 21 "SlipBench$Column" "nails" "I", Cond.methodLink RX4 91 yX1_holdsAt, Cond.instanceMethod yX1_holdsAt, Cond.selects RX1 yX1_holdsAt yX1_holdsAt, Cond.code yX1_holdsAt cX1_holdsAt 3 (some .int)]
def wsX4_holdsOfPart : List Cond := .code yX4_holdsOfPart cX4_holdsOfPart 5 (some .int) :: ((wsX4_holdsOfPart_r1 ++ wsX4_holdsOfPart_r2) ++ wsX40 ++ wsX50 ++ wsX10 ++ wsX20)
def wsX4_bears_r1 : List Cond := [Cond.fieldLink RX4 62 "SlipBench$Line" "size" "I", Cond.fieldLink RX4 17 "SlipBench$Ground" "width" "I", Cond.fieldLink RX4 71 "SlipBench$Line" "heights" "[I", Cond.fieldLink RX4 11 "SlipBench$Ground" "columns" "[LSlipBench$Column;", Cond.fieldLink RX4 74 "SlipBench$Line" "start" "I", Cond.fieldLink RX4 59 "SlipBench$Column" "tall" "I", Cond.methodLink RX4 67 yX5_end, Cond.instanceMethod yX5_end, Cond.selects RX5 yX5_end yX5_end, Cond.initialized RX5, Cond.code yX5_end cX5_end 1 (some .int), Cond.fieldLink RX5 15 "SlipBench$Line" "start" "I", Cond.fieldLink RX5 19 "SlipBench$Line" "size" "I", Cond.methodLink RX4 77 yX4_holdsOfPart, Cond.instanceMethod yX4_holdsOfPart, Cond.selects RX4 yX4_holdsOfPart yX4_holdsOfPart, Cond.initialized RX4, Cond.code yX4_holdsOfPart cX4_holdsOfPart 5 (some .int), Cond.methodLink RX4 49 Lib.Math.min.name, Cond.static Lib.Math.min.name, Cond.initialized "java/lang/Math", Cond.code Lib.Math.min.name Lib.Math.min.code 2 (some .int), Cond.methodLink RX4 87 Lib.Math.abs.name, Cond.static Lib.Math.abs.name]
def wsX4_bears_r2 : List Cond := [Cond.code Lib.Math.abs.name Lib.Math.abs.code 1 (some .int), Cond.methodLink RX4 43 yX1_reckon, Cond.instanceMethod yX1_reckon, Cond.selects RX1 yX1_reckon yX1_reckon, Cond.initialized RX1, Cond.code yX1_reckon cX1_reckon 3 none, Cond.fieldLink RX1 31 "SlipBench$Column" "reckoned" "Z", Cond.fieldLink RX1 24 "SlipBench$Column" "presses" "[I", Cond.fieldLink RX1 9 "SlipBench$Column" "tall" "I", Cond.fieldLink RX1 18 "SlipBench$Column" "load" "I", Cond.fieldLink RX1 35 "SlipBench$Column" "earths" "LSlipBench$Earths;", Cond.fieldLink RX1 54 "SlipBench$Earths" "weights" "[I", Cond.fieldLink RX1 39 "SlipBench$Column" "cells" "[I", Cond.fieldLink RX1 28 "SlipBench$Column" "holds" "[I", Cond.methodLink RX1 59 yX1_reckonHolds, Cond.instanceMethod yX1_reckonHolds, Cond.selects RX1 yX1_reckonHolds yX1_reckonHolds, Cond.code yX1_reckonHolds cX1_reckonHolds 8 (some .int), Cond.fieldLink RX1 62 "SlipBench$Earths" "rocks" "[Z", Cond.fieldLink RX1 15 "SlipBench$Column" "water" "I", Cond.methodLink RX1 66 Lib.Math.max.name, Cond.static Lib.Math.max.name, Cond.code Lib.Math.max.name Lib.Math.max.code 2 (some .int), Cond.fieldLink RX1 69 "SlipBench$Earths" "rubs" "[I"]
def wsX4_bears_r3 : List Cond := [Cond.fieldLink RX1 72 "SlipBench$Earths" "holds" "[I", Cond.fieldLink RX1 21 "SlipBench$Column" "nails" "I", Cond.methodLink RX4 91 yX1_holdsAt, Cond.instanceMethod yX1_holdsAt, Cond.selects RX1 yX1_holdsAt yX1_holdsAt, Cond.code yX1_holdsAt cX1_holdsAt 3 (some .int)]
def wsX4_bears : List Cond := .code yX4_bears cX4_bears 3 (some .boolean) :: ((wsX4_bears_r1 ++ (wsX4_bears_r2 ++ wsX4_bears_r3)) ++ wsX50 ++ wsX40 ++ wsX10 ++ wsX20)
def wsX4_holdsAlong_r1 : List Cond := [Cond.fieldLink RX4 62 "SlipBench$Line" "size" "I", Cond.methodLink RX4 77 yX4_holdsOfPart, Cond.instanceMethod yX4_holdsOfPart, Cond.selects RX4 yX4_holdsOfPart yX4_holdsOfPart, Cond.initialized RX4, Cond.code yX4_holdsOfPart cX4_holdsOfPart 5 (some .int), Cond.fieldLink RX4 11 "SlipBench$Ground" "columns" "[LSlipBench$Column;", Cond.fieldLink RX4 74 "SlipBench$Line" "start" "I", Cond.fieldLink RX4 71 "SlipBench$Line" "heights" "[I", Cond.methodLink RX4 49 Lib.Math.min.name, Cond.static Lib.Math.min.name, Cond.initialized "java/lang/Math", Cond.code Lib.Math.min.name Lib.Math.min.code 2 (some .int), Cond.methodLink RX4 87 Lib.Math.abs.name, Cond.static Lib.Math.abs.name, Cond.code Lib.Math.abs.name Lib.Math.abs.code 1 (some .int), Cond.methodLink RX4 43 yX1_reckon, Cond.instanceMethod yX1_reckon, Cond.selects RX1 yX1_reckon yX1_reckon, Cond.initialized RX1, Cond.code yX1_reckon cX1_reckon 3 none, Cond.fieldLink RX1 31 "SlipBench$Column" "reckoned" "Z", Cond.fieldLink RX1 24 "SlipBench$Column" "presses" "[I", Cond.fieldLink RX1 9 "SlipBench$Column" "tall" "I"]
def wsX4_holdsAlong_r2 : List Cond := [Cond.fieldLink RX1 18 "SlipBench$Column" "load" "I", Cond.fieldLink RX1 35 "SlipBench$Column" "earths" "LSlipBench$Earths;", Cond.fieldLink RX1 54 "SlipBench$Earths" "weights" "[I", Cond.fieldLink RX1 39 "SlipBench$Column" "cells" "[I", Cond.fieldLink RX1 28 "SlipBench$Column" "holds" "[I", Cond.methodLink RX1 59 yX1_reckonHolds, Cond.instanceMethod yX1_reckonHolds, Cond.selects RX1 yX1_reckonHolds yX1_reckonHolds, Cond.code yX1_reckonHolds cX1_reckonHolds 8 (some .int), Cond.fieldLink RX1 62 "SlipBench$Earths" "rocks" "[Z", Cond.fieldLink RX1 15 "SlipBench$Column" "water" "I", Cond.methodLink RX1 66 Lib.Math.max.name, Cond.static Lib.Math.max.name, Cond.code Lib.Math.max.name Lib.Math.max.code 2 (some .int), Cond.fieldLink RX1 69 "SlipBench$Earths" "rubs" "[I", Cond.fieldLink RX1 72 "SlipBench$Earths" "holds" "[I", Cond.fieldLink RX1 21 "SlipBench$Column" "nails" "I", Cond.methodLink RX4 91 yX1_holdsAt, Cond.instanceMethod yX1_holdsAt, Cond.selects RX1 yX1_holdsAt yX1_holdsAt, Cond.code yX1_holdsAt cX1_holdsAt 3 (some .int)]
def wsX4_holdsAlong : List Cond := .code yX4_holdsAlong cX4_holdsAlong 5 (some .long) :: ((wsX4_holdsAlong_r1 ++ wsX4_holdsAlong_r2) ++ wsX50 ++ wsX40 ++ wsX10 ++ wsX20)
def wsX4_drivesAlong_r1 : List Cond := [Cond.fieldLink RX4 62 "SlipBench$Line" "size" "I", Cond.fieldLink RX4 11 "SlipBench$Ground" "columns" "[LSlipBench$Column;", Cond.fieldLink RX4 74 "SlipBench$Line" "start" "I", Cond.fieldLink RX4 71 "SlipBench$Line" "heights" "[I", Cond.methodLink RX4 81 Lib.Math.max.name, Cond.static Lib.Math.max.name, Cond.initialized "java/lang/Math", Cond.code Lib.Math.max.name Lib.Math.max.code 2 (some .int), Cond.methodLink RX4 43 yX1_reckon, Cond.instanceMethod yX1_reckon, Cond.selects RX1 yX1_reckon yX1_reckon, Cond.initialized RX1, Cond.code yX1_reckon cX1_reckon 3 none, Cond.fieldLink RX1 31 "SlipBench$Column" "reckoned" "Z", Cond.fieldLink RX1 24 "SlipBench$Column" "presses" "[I", Cond.fieldLink RX1 9 "SlipBench$Column" "tall" "I", Cond.fieldLink RX1 18 "SlipBench$Column" "load" "I", Cond.fieldLink RX1 35 "SlipBench$Column" "earths" "LSlipBench$Earths;", Cond.fieldLink RX1 54 "SlipBench$Earths" "weights" "[I", Cond.fieldLink RX1 39 "SlipBench$Column" "cells" "[I", Cond.fieldLink RX1 28 "SlipBench$Column" "holds" "[I", Cond.methodLink RX1 59 yX1_reckonHolds, Cond.instanceMethod yX1_reckonHolds, Cond.selects RX1 yX1_reckonHolds yX1_reckonHolds]
def wsX4_drivesAlong_r2 : List Cond := [Cond.code yX1_reckonHolds cX1_reckonHolds 8 (some .int), Cond.fieldLink RX1 62 "SlipBench$Earths" "rocks" "[Z", Cond.fieldLink RX1 15 "SlipBench$Column" "water" "I", Cond.methodLink RX1 66 Lib.Math.max.name, Cond.fieldLink RX1 69 "SlipBench$Earths" "rubs" "[I", Cond.fieldLink RX1 72 "SlipBench$Earths" "holds" "[I", Cond.fieldLink RX1 21 "SlipBench$Column" "nails" "I", Cond.methodLink RX4 84 yX1_drivesFrom, Cond.instanceMethod yX1_drivesFrom, Cond.selects RX1 yX1_drivesFrom yX1_drivesFrom, Cond.code yX1_drivesFrom cX1_drivesFrom 3 (some .int)]
def wsX4_drivesAlong : List Cond := .code yX4_drivesAlong cX4_drivesAlong 7 (some .long) :: ((wsX4_drivesAlong_r1 ++ wsX4_drivesAlong_r2) ++ wsX50 ++ wsX40 ++ wsX10 ++ wsX20)
def wsX5_init : List Cond := .code yX5_init cX5_init 1 none :: ([.methodLink RX5 3 objectInit, .instanceMethod objectInit, .code objectInit ⟨#[0xb1]⟩ 1 none, .arrayClass .int, .fieldLink RX5 9 "SlipBench$Line" "heights" "[I", .fieldLink RX5 15 "SlipBench$Line" "start" "I", .fieldLink RX5 19 "SlipBench$Line" "size" "I"] ++ wsX50)
def wsX5_drop : List Cond := .code yX5_drop cX5_drop 1 none :: ([.fieldLink RX5 19 "SlipBench$Line" "size" "I"] ++ wsX50)
def wsX5_startAt : List Cond := .code yX5_startAt cX5_startAt 3 none :: ([.fieldLink RX5 15 "SlipBench$Line" "start" "I", .fieldLink RX5 9 "SlipBench$Line" "heights" "[I", .fieldLink RX5 19 "SlipBench$Line" "size" "I"] ++ wsX50)
def wsX5_add : List Cond := .code yX5_add cX5_add 2 none :: ([.fieldLink RX5 19 "SlipBench$Line" "size" "I", .fieldLink RX5 9 "SlipBench$Line" "heights" "[I"] ++ wsX50)
def wsX6_init : List Cond := .code yX6_init cX6_init 2 none :: ([.methodLink RX6 3 objectInit, .instanceMethod objectInit, .code objectInit ⟨#[0xb1]⟩ 1 none, .arrayClass .long, .fieldLink RX6 9 "SlipBench$Search" "rests" "[J", .fieldLink RX6 15 "SlipBench$Search" "wholes" "[J", .fieldLink RX6 18 "SlipBench$Search" "p" "J", .fieldLink RX6 22 "SlipBench$Search" "q" "J", .fieldLink RX6 25 "SlipBench$Search" "last" "I", .fieldLink RX6 29 "SlipBench$Search" "anyEnd" "Z", .fieldLink RX6 33 "SlipBench$Search" "studied" "LSlipBench$Ground;"] ++ wsX60)
def wsX6_study : List Cond := .code yX6_study cX6_study 2 none :: ([.fieldLink RX6 33 "SlipBench$Search" "studied" "LSlipBench$Ground;"] ++ wsX60)
def wsX6_aim : List Cond := .code yX6_aim cX6_aim 5 none :: ([.fieldLink RX6 18 "SlipBench$Search" "p" "J", .fieldLink RX6 22 "SlipBench$Search" "q" "J"] ++ wsX60)
def wsX6_clearRests : List Cond := .code yX6_clearRests cX6_clearRests 3 none :: ([.fieldLink RX6 9 "SlipBench$Search" "rests" "[J", .constantLong RX6 99 (4611686018427387904)] ++ wsX60)
def wsX6_allowEnd : List Cond := .code yX6_allowEnd cX6_allowEnd 3 none :: ([.fieldLink RX6 25 "SlipBench$Search" "last" "I", .fieldLink RX6 29 "SlipBench$Search" "anyEnd" "Z", .fieldLink RX6 33 "SlipBench$Search" "studied" "LSlipBench$Ground;", .fieldLink RX6 90 "SlipBench$Ground" "columns" "[LSlipBench$Column;", .fieldLink RX6 94 "SlipBench$Column" "tall" "I", .fieldLink RX6 9 "SlipBench$Search" "rests" "[J", .methodLink RX6 101 Lib.MathLoose.min_long.x, .static Lib.MathLoose.min_long.x, .initialized "java/lang/Math", .code Lib.MathLoose.min_long.x Lib.MathLoose.min_long.code 4 (some .long)] ++ wsX60 ++ wsX40 ++ wsX10)
def wsX6_better : List Cond := .code yX6_better cX6_better 8 none :: ([.fieldLink RX6 9 "SlipBench$Search" "rests" "[J", .constantLong RX6 99 (4611686018427387904)] ++ wsX60)
def wsX6_weighColumn : List Cond := .code yX6_weighColumn cX6_weighColumn 10 none :: ([.fieldLink RX6 33 "SlipBench$Search" "studied" "LSlipBench$Ground;", .fieldLink RX6 90 "SlipBench$Ground" "columns" "[LSlipBench$Column;", .fieldLink RX6 94 "SlipBench$Column" "tall" "I", .fieldLink RX6 22 "SlipBench$Search" "q" "J", .fieldLink RX6 18 "SlipBench$Search" "p" "J", .methodLink RX6 107 yX1_holdsAt, .instanceMethod yX1_holdsAt, .selects RX1 yX1_holdsAt yX1_holdsAt, .initialized RX1, .code yX1_holdsAt cX1_holdsAt 3 (some .int), .fieldLink RX1 9 "SlipBench$Column" "tall" "I", .fieldLink RX1 28 "SlipBench$Column" "holds" "[I", .methodLink RX6 111 yX1_drivesFrom, .instanceMethod yX1_drivesFrom, .selects RX1 yX1_drivesFrom yX1_drivesFrom, .code yX1_drivesFrom cX1_drivesFrom 3 (some .int), .fieldLink RX1 24 "SlipBench$Column" "presses" "[I", .methodLink RX6 114 yX6_better, .instanceMethod yX6_better, .selects RX6 yX6_better yX6_better, .initialized RX6, .code yX6_better cX6_better 8 none, .fieldLink RX6 9 "SlipBench$Search" "rests" "[J", .constantLong RX6 99 (4611686018427387904)] ++ wsX60 ++ wsX40 ++ wsX10)
def wsX6_weigh_r1 : List Cond := [Cond.fieldLink RX6 25 "SlipBench$Search" "last" "I", Cond.fieldLink RX6 29 "SlipBench$Search" "anyEnd" "Z", Cond.fieldLink RX6 15 "SlipBench$Search" "wholes" "[J", Cond.fieldLink RX6 9 "SlipBench$Search" "rests" "[J", Cond.fieldLink RX6 33 "SlipBench$Search" "studied" "LSlipBench$Ground;", Cond.fieldLink RX6 90 "SlipBench$Ground" "columns" "[LSlipBench$Column;", Cond.fieldLink RX6 94 "SlipBench$Column" "tall" "I", Cond.methodLink RX6 80 yX6_clearRests, Cond.instanceMethod yX6_clearRests, Cond.selects RX6 yX6_clearRests yX6_clearRests, Cond.initialized RX6, Cond.code yX6_clearRests cX6_clearRests 3 none, Cond.constantLong RX6 99 (4611686018427387904), Cond.methodLink RX6 84 yX6_allowEnd, Cond.instanceMethod yX6_allowEnd, Cond.selects RX6 yX6_allowEnd yX6_allowEnd, Cond.code yX6_allowEnd cX6_allowEnd 3 none, Cond.methodLink RX6 101 Lib.MathLoose.min_long.x, Cond.static Lib.MathLoose.min_long.x, Cond.initialized "java/lang/Math", Cond.code Lib.MathLoose.min_long.x Lib.MathLoose.min_long.code 4 (some .long), Cond.methodLink RX6 87 yX6_weighColumn, Cond.instanceMethod yX6_weighColumn, Cond.selects RX6 yX6_weighColumn yX6_weighColumn]
def wsX6_weigh_r2 : List Cond := [Cond.code yX6_weighColumn cX6_weighColumn 10 none, Cond.fieldLink RX6 22 "SlipBench$Search" "q" "J", Cond.fieldLink RX6 18 "SlipBench$Search" "p" "J", Cond.methodLink RX6 107 yX1_holdsAt, Cond.instanceMethod yX1_holdsAt, Cond.selects RX1 yX1_holdsAt yX1_holdsAt, Cond.initialized RX1, Cond.code yX1_holdsAt cX1_holdsAt 3 (some .int), Cond.fieldLink RX1 9 "SlipBench$Column" "tall" "I", Cond.fieldLink RX1 28 "SlipBench$Column" "holds" "[I", Cond.methodLink RX6 111 yX1_drivesFrom, Cond.instanceMethod yX1_drivesFrom, Cond.selects RX1 yX1_drivesFrom yX1_drivesFrom, Cond.code yX1_drivesFrom cX1_drivesFrom 3 (some .int), Cond.fieldLink RX1 24 "SlipBench$Column" "presses" "[I", Cond.methodLink RX6 114 yX6_better, Cond.instanceMethod yX6_better, Cond.selects RX6 yX6_better yX6_better, Cond.code yX6_better cX6_better 8 none]
def wsX6_weigh : List Cond := .code yX6_weigh cX6_weigh 5 none :: ((wsX6_weigh_r1 ++ wsX6_weigh_r2) ++ wsX60 ++ wsX40 ++ wsX10)
def wsX6_leastStart : List Cond := .code yX6_leastStart cX6_leastStart 3 (some .int) :: ([.fieldLink RX6 33 "SlipBench$Search" "studied" "LSlipBench$Ground;", .fieldLink RX6 41 "SlipBench$Ground" "width" "I", .fieldLink RX6 15 "SlipBench$Search" "wholes" "[J"] ++ wsX60 ++ wsX40)
def wsX6_stands_r1 : List Cond := [Cond.fieldLink RX6 33 "SlipBench$Search" "studied" "LSlipBench$Ground;", Cond.fieldLink RX6 41 "SlipBench$Ground" "width" "I", Cond.fieldLink RX6 15 "SlipBench$Search" "wholes" "[J", Cond.methodLink RX6 37 yX6_aim, Cond.instanceMethod yX6_aim, Cond.selects RX6 yX6_aim yX6_aim, Cond.initialized RX6, Cond.code yX6_aim cX6_aim 5 none, Cond.fieldLink RX6 18 "SlipBench$Search" "p" "J", Cond.fieldLink RX6 22 "SlipBench$Search" "q" "J", Cond.methodLink RX6 46 yX6_weigh, Cond.instanceMethod yX6_weigh, Cond.selects RX6 yX6_weigh yX6_weigh, Cond.code yX6_weigh cX6_weigh 5 none, Cond.fieldLink RX6 25 "SlipBench$Search" "last" "I", Cond.fieldLink RX6 29 "SlipBench$Search" "anyEnd" "Z", Cond.fieldLink RX6 9 "SlipBench$Search" "rests" "[J", Cond.fieldLink RX6 90 "SlipBench$Ground" "columns" "[LSlipBench$Column;", Cond.fieldLink RX6 94 "SlipBench$Column" "tall" "I", Cond.methodLink RX6 80 yX6_clearRests, Cond.instanceMethod yX6_clearRests, Cond.selects RX6 yX6_clearRests yX6_clearRests, Cond.code yX6_clearRests cX6_clearRests 3 none, Cond.constantLong RX6 99 (4611686018427387904)]
def wsX6_stands_r2 : List Cond := [Cond.methodLink RX6 84 yX6_allowEnd, Cond.instanceMethod yX6_allowEnd, Cond.selects RX6 yX6_allowEnd yX6_allowEnd, Cond.code yX6_allowEnd cX6_allowEnd 3 none, Cond.methodLink RX6 101 Lib.MathLoose.min_long.x, Cond.static Lib.MathLoose.min_long.x, Cond.initialized "java/lang/Math", Cond.code Lib.MathLoose.min_long.x Lib.MathLoose.min_long.code 4 (some .long), Cond.methodLink RX6 87 yX6_weighColumn, Cond.instanceMethod yX6_weighColumn, Cond.selects RX6 yX6_weighColumn yX6_weighColumn, Cond.code yX6_weighColumn cX6_weighColumn 10 none, Cond.methodLink RX6 107 yX1_holdsAt, Cond.instanceMethod yX1_holdsAt, Cond.selects RX1 yX1_holdsAt yX1_holdsAt, Cond.initialized RX1, Cond.code yX1_holdsAt cX1_holdsAt 3 (some .int), Cond.fieldLink RX1 9 "SlipBench$Column" "tall" "I", Cond.fieldLink RX1 28 "SlipBench$Column" "holds" "[I", Cond.methodLink RX6 111 yX1_drivesFrom, Cond.instanceMethod yX1_drivesFrom, Cond.selects RX1 yX1_drivesFrom yX1_drivesFrom, Cond.code yX1_drivesFrom cX1_drivesFrom 3 (some .int), Cond.fieldLink RX1 24 "SlipBench$Column" "presses" "[I"]
def wsX6_stands_r3 : List Cond := [Cond.methodLink RX6 114 yX6_better, Cond.instanceMethod yX6_better, Cond.selects RX6 yX6_better yX6_better, Cond.code yX6_better cX6_better 8 none, Cond.methodLink RX6 50 yX6_leastStart, Cond.instanceMethod yX6_leastStart, Cond.selects RX6 yX6_leastStart yX6_leastStart, Cond.code yX6_leastStart cX6_leastStart 3 (some .int)]
def wsX6_stands : List Cond := .code yX6_stands cX6_stands 5 (some .boolean) :: ((wsX6_stands_r1 ++ (wsX6_stands_r2 ++ wsX6_stands_r3)) ++ wsX60 ++ wsX40 ++ wsX10)
def wsX6_keyOf_r1 : List Cond := [Cond.fieldLink RX6 33 "SlipBench$Search" "studied" "LSlipBench$Ground;", Cond.fieldLink RX6 90 "SlipBench$Ground" "columns" "[LSlipBench$Column;", Cond.methodLink RX6 135 Lib.Math.min.name, Cond.static Lib.Math.min.name, Cond.initialized "java/lang/Math", Cond.code Lib.Math.min.name Lib.Math.min.code 2 (some .int), Cond.methodLink RX6 140 Lib.Math.abs.name, Cond.static Lib.Math.abs.name, Cond.code Lib.Math.abs.name Lib.Math.abs.code 1 (some .int), Cond.constantLong RX6 99 (4611686018427387904), Cond.fieldLink RX6 22 "SlipBench$Search" "q" "J", Cond.fieldLink RX6 18 "SlipBench$Search" "p" "J", Cond.methodLink RX6 137 Lib.Math.max.name, Cond.static Lib.Math.max.name, Cond.code Lib.Math.max.name Lib.Math.max.code 2 (some .int), Cond.methodLink RX6 107 yX1_holdsAt, Cond.instanceMethod yX1_holdsAt, Cond.selects RX1 yX1_holdsAt yX1_holdsAt, Cond.initialized RX1, Cond.code yX1_holdsAt cX1_holdsAt 3 (some .int), Cond.fieldLink RX1 9 "SlipBench$Column" "tall" "I", Cond.fieldLink RX1 28 "SlipBench$Column" "holds" "[I", Cond.methodLink RX6 111 yX1_drivesFrom, Cond.instanceMethod yX1_drivesFrom]
def wsX6_keyOf_r2 : List Cond := [Cond.selects RX1 yX1_drivesFrom yX1_drivesFrom, Cond.code yX1_drivesFrom cX1_drivesFrom 3 (some .int), Cond.fieldLink RX1 24 "SlipBench$Column" "presses" "[I"]
def wsX6_keyOf : List Cond := .code yX6_keyOf cX6_keyOf 6 (some .long) :: ((wsX6_keyOf_r1 ++ wsX6_keyOf_r2) ++ wsX60 ++ wsX40 ++ wsX10)
def wsX6_leastRight_r1 : List Cond := [Cond.fieldLink RX6 33 "SlipBench$Search" "studied" "LSlipBench$Ground;", Cond.fieldLink RX6 90 "SlipBench$Ground" "columns" "[LSlipBench$Column;", Cond.fieldLink RX6 94 "SlipBench$Column" "tall" "I", Cond.methodLink RX6 135 Lib.Math.min.name, Cond.static Lib.Math.min.name, Cond.initialized "java/lang/Math", Cond.code Lib.Math.min.name Lib.Math.min.code 2 (some .int), Cond.methodLink RX6 137 Lib.Math.max.name, Cond.static Lib.Math.max.name, Cond.code Lib.Math.max.name Lib.Math.max.code 2 (some .int), Cond.fieldLink RX6 9 "SlipBench$Search" "rests" "[J", Cond.constantLong RX6 99 (4611686018427387904), Cond.methodLink RX6 128 yX6_keyOf, Cond.instanceMethod yX6_keyOf, Cond.selects RX6 yX6_keyOf yX6_keyOf, Cond.initialized RX6, Cond.code yX6_keyOf cX6_keyOf 6 (some .long), Cond.methodLink RX6 140 Lib.Math.abs.name, Cond.static Lib.Math.abs.name, Cond.code Lib.Math.abs.name Lib.Math.abs.code 1 (some .int), Cond.fieldLink RX6 22 "SlipBench$Search" "q" "J", Cond.fieldLink RX6 18 "SlipBench$Search" "p" "J", Cond.methodLink RX6 107 yX1_holdsAt, Cond.instanceMethod yX1_holdsAt]
def wsX6_leastRight_r2 : List Cond := [Cond.selects RX1 yX1_holdsAt yX1_holdsAt, Cond.initialized RX1, Cond.code yX1_holdsAt cX1_holdsAt 3 (some .int), Cond.fieldLink RX1 9 "SlipBench$Column" "tall" "I", Cond.fieldLink RX1 28 "SlipBench$Column" "holds" "[I", Cond.methodLink RX6 111 yX1_drivesFrom, Cond.instanceMethod yX1_drivesFrom, Cond.selects RX1 yX1_drivesFrom yX1_drivesFrom, Cond.code yX1_drivesFrom cX1_drivesFrom 3 (some .int), Cond.fieldLink RX1 24 "SlipBench$Column" "presses" "[I"]
def wsX6_leastRight : List Cond := .code yX6_leastRight cX6_leastRight 11 (some .int) :: ((wsX6_leastRight_r1 ++ wsX6_leastRight_r2) ++ wsX60 ++ wsX40 ++ wsX10)
def wsX6_follow_r1 : List Cond := [Cond.fieldLink RX6 33 "SlipBench$Search" "studied" "LSlipBench$Ground;", Cond.fieldLink RX6 90 "SlipBench$Ground" "columns" "[LSlipBench$Column;", Cond.fieldLink RX6 94 "SlipBench$Column" "tall" "I", Cond.fieldLink RX6 25 "SlipBench$Search" "last" "I", Cond.fieldLink RX6 29 "SlipBench$Search" "anyEnd" "Z", Cond.methodLink RX6 118 yX5_startAt, Cond.instanceMethod yX5_startAt, Cond.selects RX5 yX5_startAt yX5_startAt, Cond.initialized RX5, Cond.code yX5_startAt cX5_startAt 3 none, Cond.fieldLink RX5 15 "SlipBench$Line" "start" "I", Cond.fieldLink RX5 9 "SlipBench$Line" "heights" "[I", Cond.fieldLink RX5 19 "SlipBench$Line" "size" "I", Cond.methodLink RX6 124 yX6_leastRight, Cond.instanceMethod yX6_leastRight, Cond.selects RX6 yX6_leastRight yX6_leastRight, Cond.initialized RX6, Cond.code yX6_leastRight cX6_leastRight 11 (some .int), Cond.methodLink RX6 135 Lib.Math.min.name, Cond.static Lib.Math.min.name, Cond.initialized "java/lang/Math", Cond.code Lib.Math.min.name Lib.Math.min.code 2 (some .int), Cond.methodLink RX6 137 Lib.Math.max.name, Cond.static Lib.Math.max.name]
def wsX6_follow_r2 : List Cond := [Cond.code Lib.Math.max.name Lib.Math.max.code 2 (some .int), Cond.fieldLink RX6 9 "SlipBench$Search" "rests" "[J", Cond.constantLong RX6 99 (4611686018427387904), Cond.methodLink RX6 128 yX6_keyOf, Cond.instanceMethod yX6_keyOf, Cond.selects RX6 yX6_keyOf yX6_keyOf, Cond.code yX6_keyOf cX6_keyOf 6 (some .long), Cond.methodLink RX6 140 Lib.Math.abs.name, Cond.static Lib.Math.abs.name, Cond.code Lib.Math.abs.name Lib.Math.abs.code 1 (some .int), Cond.fieldLink RX6 22 "SlipBench$Search" "q" "J", Cond.fieldLink RX6 18 "SlipBench$Search" "p" "J", Cond.methodLink RX6 107 yX1_holdsAt, Cond.instanceMethod yX1_holdsAt, Cond.selects RX1 yX1_holdsAt yX1_holdsAt, Cond.initialized RX1, Cond.code yX1_holdsAt cX1_holdsAt 3 (some .int), Cond.fieldLink RX1 9 "SlipBench$Column" "tall" "I", Cond.fieldLink RX1 28 "SlipBench$Column" "holds" "[I", Cond.methodLink RX6 111 yX1_drivesFrom, Cond.instanceMethod yX1_drivesFrom, Cond.selects RX1 yX1_drivesFrom yX1_drivesFrom, Cond.code yX1_drivesFrom cX1_drivesFrom 3 (some .int), Cond.fieldLink RX1 24 "SlipBench$Column" "presses" "[I"]
def wsX6_follow_r3 : List Cond := [Cond.methodLink RX6 132 yX5_add, Cond.instanceMethod yX5_add, Cond.selects RX5 yX5_add yX5_add, Cond.code yX5_add cX5_add 2 none]
def wsX6_follow : List Cond := .code yX6_follow cX6_follow 10 none :: ((wsX6_follow_r1 ++ (wsX6_follow_r2 ++ wsX6_follow_r3)) ++ wsX60 ++ wsX40 ++ wsX10 ++ wsX50)
def wsX6_findWorst_r1 : List Cond := [Cond.fieldLink RX6 33 "SlipBench$Search" "studied" "LSlipBench$Ground;", Cond.fieldLink RX6 41 "SlipBench$Ground" "width" "I", Cond.fieldLink RX6 15 "SlipBench$Search" "wholes" "[J", Cond.fieldLink RX6 70 "SlipBench$Fraction" "upper" "J", Cond.fieldLink RX6 73 "SlipBench$Fraction" "lower" "J", Cond.methodLink RX6 37 yX6_aim, Cond.instanceMethod yX6_aim, Cond.selects RX6 yX6_aim yX6_aim, Cond.initialized RX6, Cond.code yX6_aim cX6_aim 5 none, Cond.fieldLink RX6 18 "SlipBench$Search" "p" "J", Cond.fieldLink RX6 22 "SlipBench$Search" "q" "J", Cond.methodLink RX6 46 yX6_weigh, Cond.instanceMethod yX6_weigh, Cond.selects RX6 yX6_weigh yX6_weigh, Cond.code yX6_weigh cX6_weigh 5 none, Cond.fieldLink RX6 25 "SlipBench$Search" "last" "I", Cond.fieldLink RX6 29 "SlipBench$Search" "anyEnd" "Z", Cond.fieldLink RX6 9 "SlipBench$Search" "rests" "[J", Cond.fieldLink RX6 90 "SlipBench$Ground" "columns" "[LSlipBench$Column;", Cond.fieldLink RX6 94 "SlipBench$Column" "tall" "I", Cond.methodLink RX6 80 yX6_clearRests, Cond.instanceMethod yX6_clearRests, Cond.selects RX6 yX6_clearRests yX6_clearRests]
def wsX6_findWorst_r2 : List Cond := [Cond.code yX6_clearRests cX6_clearRests 3 none, Cond.constantLong RX6 99 (4611686018427387904), Cond.methodLink RX6 84 yX6_allowEnd, Cond.instanceMethod yX6_allowEnd, Cond.selects RX6 yX6_allowEnd yX6_allowEnd, Cond.code yX6_allowEnd cX6_allowEnd 3 none, Cond.methodLink RX6 101 Lib.MathLoose.min_long.x, Cond.static Lib.MathLoose.min_long.x, Cond.initialized "java/lang/Math", Cond.code Lib.MathLoose.min_long.x Lib.MathLoose.min_long.code 4 (some .long), Cond.methodLink RX6 87 yX6_weighColumn, Cond.instanceMethod yX6_weighColumn, Cond.selects RX6 yX6_weighColumn yX6_weighColumn, Cond.code yX6_weighColumn cX6_weighColumn 10 none, Cond.methodLink RX6 107 yX1_holdsAt, Cond.instanceMethod yX1_holdsAt, Cond.selects RX1 yX1_holdsAt yX1_holdsAt, Cond.initialized RX1, Cond.code yX1_holdsAt cX1_holdsAt 3 (some .int), Cond.fieldLink RX1 9 "SlipBench$Column" "tall" "I", Cond.fieldLink RX1 28 "SlipBench$Column" "holds" "[I", Cond.methodLink RX6 111 yX1_drivesFrom, Cond.instanceMethod yX1_drivesFrom, Cond.selects RX1 yX1_drivesFrom yX1_drivesFrom]
def wsX6_findWorst_r3 : List Cond := [Cond.code yX1_drivesFrom cX1_drivesFrom 3 (some .int), Cond.fieldLink RX1 24 "SlipBench$Column" "presses" "[I", Cond.methodLink RX6 114 yX6_better, Cond.instanceMethod yX6_better, Cond.selects RX6 yX6_better yX6_better, Cond.code yX6_better cX6_better 8 none, Cond.methodLink RX6 50 yX6_leastStart, Cond.instanceMethod yX6_leastStart, Cond.selects RX6 yX6_leastStart yX6_leastStart, Cond.code yX6_leastStart cX6_leastStart 3 (some .int), Cond.methodLink RX6 54 yX6_follow, Cond.instanceMethod yX6_follow, Cond.selects RX6 yX6_follow yX6_follow, Cond.code yX6_follow cX6_follow 10 none, Cond.methodLink RX6 118 yX5_startAt, Cond.instanceMethod yX5_startAt, Cond.selects RX5 yX5_startAt yX5_startAt, Cond.initialized RX5, Cond.code yX5_startAt cX5_startAt 3 none, Cond.fieldLink RX5 15 "SlipBench$Line" "start" "I", Cond.fieldLink RX5 9 "SlipBench$Line" "heights" "[I", Cond.fieldLink RX5 19 "SlipBench$Line" "size" "I", Cond.methodLink RX6 124 yX6_leastRight, Cond.instanceMethod yX6_leastRight]
def wsX6_findWorst_r4 : List Cond := [Cond.selects RX6 yX6_leastRight yX6_leastRight, Cond.code yX6_leastRight cX6_leastRight 11 (some .int), Cond.methodLink RX6 135 Lib.Math.min.name, Cond.static Lib.Math.min.name, Cond.code Lib.Math.min.name Lib.Math.min.code 2 (some .int), Cond.methodLink RX6 137 Lib.Math.max.name, Cond.static Lib.Math.max.name, Cond.code Lib.Math.max.name Lib.Math.max.code 2 (some .int), Cond.methodLink RX6 128 yX6_keyOf, Cond.instanceMethod yX6_keyOf, Cond.selects RX6 yX6_keyOf yX6_keyOf, Cond.code yX6_keyOf cX6_keyOf 6 (some .long), Cond.methodLink RX6 140 Lib.Math.abs.name, Cond.static Lib.Math.abs.name, Cond.code Lib.Math.abs.name Lib.Math.abs.code 1 (some .int), Cond.methodLink RX6 132 yX5_add, Cond.instanceMethod yX5_add, Cond.selects RX5 yX5_add yX5_add, Cond.code yX5_add cX5_add 2 none, Cond.methodLink RX6 58 yX4_holdsAlong, Cond.instanceMethod yX4_holdsAlong, Cond.selects RX4 yX4_holdsAlong yX4_holdsAlong, Cond.initialized RX4, Cond.code yX4_holdsAlong cX4_holdsAlong 5 (some .long)]
def wsX6_findWorst_r5 : List Cond := [Cond.fieldLink RX4 62 "SlipBench$Line" "size" "I", Cond.methodLink RX4 77 yX4_holdsOfPart, Cond.instanceMethod yX4_holdsOfPart, Cond.selects RX4 yX4_holdsOfPart yX4_holdsOfPart, Cond.code yX4_holdsOfPart cX4_holdsOfPart 5 (some .int), Cond.fieldLink RX4 11 "SlipBench$Ground" "columns" "[LSlipBench$Column;", Cond.fieldLink RX4 74 "SlipBench$Line" "start" "I", Cond.fieldLink RX4 71 "SlipBench$Line" "heights" "[I", Cond.methodLink RX4 49 Lib.Math.min.name, Cond.methodLink RX4 87 Lib.Math.abs.name, Cond.methodLink RX4 43 yX1_reckon, Cond.instanceMethod yX1_reckon, Cond.selects RX1 yX1_reckon yX1_reckon, Cond.code yX1_reckon cX1_reckon 3 none, Cond.fieldLink RX1 31 "SlipBench$Column" "reckoned" "Z", Cond.fieldLink RX1 18 "SlipBench$Column" "load" "I", Cond.fieldLink RX1 35 "SlipBench$Column" "earths" "LSlipBench$Earths;", Cond.fieldLink RX1 54 "SlipBench$Earths" "weights" "[I", Cond.fieldLink RX1 39 "SlipBench$Column" "cells" "[I", Cond.methodLink RX1 59 yX1_reckonHolds, Cond.instanceMethod yX1_reckonHolds, Cond.selects RX1 yX1_reckonHolds yX1_reckonHolds, Cond.code yX1_reckonHolds cX1_reckonHolds 8 (some .int), Cond.fieldLink RX1 62 "SlipBench$Earths" "rocks" "[Z"]
def wsX6_findWorst_r6 : List Cond := [Cond.fieldLink RX1 15 "SlipBench$Column" "water" "I", Cond.methodLink RX1 66 Lib.Math.max.name, Cond.fieldLink RX1 69 "SlipBench$Earths" "rubs" "[I", Cond.fieldLink RX1 72 "SlipBench$Earths" "holds" "[I", Cond.fieldLink RX1 21 "SlipBench$Column" "nails" "I", Cond.methodLink RX4 91 yX1_holdsAt, Cond.methodLink RX6 62 yX4_drivesAlong, Cond.instanceMethod yX4_drivesAlong, Cond.selects RX4 yX4_drivesAlong yX4_drivesAlong, Cond.code yX4_drivesAlong cX4_drivesAlong 7 (some .long), Cond.methodLink RX4 81 Lib.Math.max.name, Cond.methodLink RX4 84 yX1_drivesFrom, Cond.methodLink RX6 65 yX3_become, Cond.instanceMethod yX3_become, Cond.selects RX3 yX3_become yX3_become, Cond.initialized RX3, Cond.code yX3_become cX3_become 7 none, Cond.fieldLink RX3 7 "SlipBench$Fraction" "upper" "J", Cond.fieldLink RX3 13 "SlipBench$Fraction" "lower" "J", Cond.methodLink RX3 16 yX3_greatestCommon, Cond.static yX3_greatestCommon, Cond.code yX3_greatestCommon cX3_greatestCommon 11 (some .long)]
def wsX6_findWorst : List Cond := .code yX6_findWorst cX6_findWorst 5 (some .boolean) :: ((wsX6_findWorst_r1 ++ (wsX6_findWorst_r2 ++ (wsX6_findWorst_r3 ++ (wsX6_findWorst_r4 ++ (wsX6_findWorst_r5 ++ wsX6_findWorst_r6))))) ++ wsX60 ++ wsX40 ++ wsX30 ++ wsX10 ++ wsX50 ++ wsX20)
def wsX6_findFirst_r1 : List Cond := [Cond.fieldLink RX6 70 "SlipBench$Fraction" "upper" "J", Cond.constantLong RX6 76 (1048576), Cond.fieldLink RX6 73 "SlipBench$Fraction" "lower" "J", Cond.fieldLink RX6 33 "SlipBench$Search" "studied" "LSlipBench$Ground;", Cond.fieldLink RX6 41 "SlipBench$Ground" "width" "I", Cond.fieldLink RX6 15 "SlipBench$Search" "wholes" "[J", Cond.constantLong RX6 78 (-1), Cond.methodLink RX6 37 yX6_aim, Cond.instanceMethod yX6_aim, Cond.selects RX6 yX6_aim yX6_aim, Cond.initialized RX6, Cond.code yX6_aim cX6_aim 5 none, Cond.fieldLink RX6 18 "SlipBench$Search" "p" "J", Cond.fieldLink RX6 22 "SlipBench$Search" "q" "J", Cond.methodLink RX6 46 yX6_weigh, Cond.instanceMethod yX6_weigh, Cond.selects RX6 yX6_weigh yX6_weigh, Cond.code yX6_weigh cX6_weigh 5 none, Cond.fieldLink RX6 25 "SlipBench$Search" "last" "I", Cond.fieldLink RX6 29 "SlipBench$Search" "anyEnd" "Z", Cond.fieldLink RX6 9 "SlipBench$Search" "rests" "[J", Cond.fieldLink RX6 90 "SlipBench$Ground" "columns" "[LSlipBench$Column;", Cond.fieldLink RX6 94 "SlipBench$Column" "tall" "I", Cond.methodLink RX6 80 yX6_clearRests]
def wsX6_findFirst_r2 : List Cond := [Cond.instanceMethod yX6_clearRests, Cond.selects RX6 yX6_clearRests yX6_clearRests, Cond.code yX6_clearRests cX6_clearRests 3 none, Cond.constantLong RX6 99 (4611686018427387904), Cond.methodLink RX6 84 yX6_allowEnd, Cond.instanceMethod yX6_allowEnd, Cond.selects RX6 yX6_allowEnd yX6_allowEnd, Cond.code yX6_allowEnd cX6_allowEnd 3 none, Cond.methodLink RX6 101 Lib.MathLoose.min_long.x, Cond.static Lib.MathLoose.min_long.x, Cond.initialized "java/lang/Math", Cond.code Lib.MathLoose.min_long.x Lib.MathLoose.min_long.code 4 (some .long), Cond.methodLink RX6 87 yX6_weighColumn, Cond.instanceMethod yX6_weighColumn, Cond.selects RX6 yX6_weighColumn yX6_weighColumn, Cond.code yX6_weighColumn cX6_weighColumn 10 none, Cond.methodLink RX6 107 yX1_holdsAt, Cond.instanceMethod yX1_holdsAt, Cond.selects RX1 yX1_holdsAt yX1_holdsAt, Cond.initialized RX1, Cond.code yX1_holdsAt cX1_holdsAt 3 (some .int), Cond.fieldLink RX1 9 "SlipBench$Column" "tall" "I", Cond.fieldLink RX1 28 "SlipBench$Column" "holds" "[I", Cond.methodLink RX6 111 yX1_drivesFrom]
def wsX6_findFirst_r3 : List Cond := [Cond.instanceMethod yX1_drivesFrom, Cond.selects RX1 yX1_drivesFrom yX1_drivesFrom, Cond.code yX1_drivesFrom cX1_drivesFrom 3 (some .int), Cond.fieldLink RX1 24 "SlipBench$Column" "presses" "[I", Cond.methodLink RX6 114 yX6_better, Cond.instanceMethod yX6_better, Cond.selects RX6 yX6_better yX6_better, Cond.code yX6_better cX6_better 8 none, Cond.methodLink RX6 54 yX6_follow, Cond.instanceMethod yX6_follow, Cond.selects RX6 yX6_follow yX6_follow, Cond.code yX6_follow cX6_follow 10 none, Cond.methodLink RX6 118 yX5_startAt, Cond.instanceMethod yX5_startAt, Cond.selects RX5 yX5_startAt yX5_startAt, Cond.initialized RX5, Cond.code yX5_startAt cX5_startAt 3 none, Cond.fieldLink RX5 15 "SlipBench$Line" "start" "I", Cond.fieldLink RX5 9 "SlipBench$Line" "heights" "[I", Cond.fieldLink RX5 19 "SlipBench$Line" "size" "I", Cond.methodLink RX6 124 yX6_leastRight, Cond.instanceMethod yX6_leastRight, Cond.selects RX6 yX6_leastRight yX6_leastRight, Cond.code yX6_leastRight cX6_leastRight 11 (some .int)]
def wsX6_findFirst_r4 : List Cond := [Cond.methodLink RX6 135 Lib.Math.min.name, Cond.static Lib.Math.min.name, Cond.code Lib.Math.min.name Lib.Math.min.code 2 (some .int), Cond.methodLink RX6 137 Lib.Math.max.name, Cond.static Lib.Math.max.name, Cond.code Lib.Math.max.name Lib.Math.max.code 2 (some .int), Cond.methodLink RX6 128 yX6_keyOf, Cond.instanceMethod yX6_keyOf, Cond.selects RX6 yX6_keyOf yX6_keyOf, Cond.code yX6_keyOf cX6_keyOf 6 (some .long), Cond.methodLink RX6 140 Lib.Math.abs.name, Cond.static Lib.Math.abs.name, Cond.code Lib.Math.abs.name Lib.Math.abs.code 1 (some .int), Cond.methodLink RX6 132 yX5_add, Cond.instanceMethod yX5_add, Cond.selects RX5 yX5_add yX5_add, Cond.code yX5_add cX5_add 2 none]
def wsX6_findFirst : List Cond := .code yX6_findFirst cX6_findFirst 5 none :: ((wsX6_findFirst_r1 ++ (wsX6_findFirst_r2 ++ (wsX6_findFirst_r3 ++ wsX6_findFirst_r4))) ++ wsX30 ++ wsX60 ++ wsX40 ++ wsX10 ++ wsX50)
def wsX7_init_r1 : List Cond := [Cond.methodLink RX7 3 objectInit, Cond.instanceMethod objectInit, Cond.code objectInit ⟨#[0xb1]⟩ 1 none, Cond.classLink RX7 9 RX2, Cond.instantiable RX2 5, Cond.initialized RX2, Cond.fieldLink RX7 12 "SlipBench" "earths" "LSlipBench$Earths;", Cond.classLink RX7 16 RX4, Cond.instantiable RX4 2, Cond.initialized RX4, Cond.fieldLink RX7 21 "SlipBench" "ground" "LSlipBench$Ground;", Cond.fieldLink RX7 28 "SlipBench" "trial" "LSlipBench$Ground;", Cond.classLink RX7 31 RX0, Cond.instantiable RX0 4, Cond.initialized RX0, Cond.fieldLink RX7 34 "SlipBench" "acts" "LSlipBench$Acts;", Cond.classLink RX7 38 RX6, Cond.instantiable RX6 7, Cond.initialized RX6, Cond.fieldLink RX7 41 "SlipBench" "search" "LSlipBench$Search;", Cond.classLink RX7 45 RX5, Cond.instantiable RX5 3, Cond.initialized RX5, Cond.fieldLink RX7 48 "SlipBench" "begun" "LSlipBench$Line;"]
def wsX7_init_r2 : List Cond := [Cond.fieldLink RX7 52 "SlipBench" "worstLine" "LSlipBench$Line;", Cond.classLink RX7 55 RX3, Cond.instantiable RX3 2, Cond.initialized RX3, Cond.fieldLink RX7 58 "SlipBench" "worstShare" "LSlipBench$Fraction;", Cond.fieldLink RX7 62 "SlipBench" "begunShare" "LSlipBench$Fraction;", Cond.arrayClass .boolean, Cond.fieldLink RX7 65 "SlipBench" "dead" "[Z", Cond.arrayClass .int, Cond.fieldLink RX7 69 "SlipBench" "tried" "[I", Cond.fieldLink RX7 73 "SlipBench" "steps" "[I", Cond.fieldLink RX7 76 "SlipBench" "stepCount" "I", Cond.fieldLink RX7 80 "SlipBench" "worstKnown" "Z", Cond.fieldLink RX7 84 "SlipBench" "worstExists" "Z", Cond.instanceMethod yX2_init, Cond.code yX2_init cX2_init 1 none, Cond.methodLink RX2 3 objectInit, Cond.fieldLink RX2 9 "SlipBench$Earths" "weights" "[I", Cond.fieldLink RX2 15 "SlipBench$Earths" "holds" "[I", Cond.fieldLink RX2 18 "SlipBench$Earths" "rubs" "[I", Cond.fieldLink RX2 21 "SlipBench$Earths" "rocks" "[Z", Cond.fieldLink RX2 25 "SlipBench$Earths" "size" "I", Cond.methodLink RX7 18 yX4_init, Cond.instanceMethod yX4_init]
def wsX7_init_r3 : List Cond := [Cond.code yX4_init cX4_init 3 none, Cond.methodLink RX4 3 objectInit, Cond.classLink RX4 9 RX1, Cond.fieldLink RX4 11 "SlipBench$Ground" "columns" "[LSlipBench$Column;", Cond.fieldLink RX4 17 "SlipBench$Ground" "width" "I", Cond.instantiable RX1 9, Cond.initialized RX1, Cond.methodLink RX4 21 yX1_init, Cond.instanceMethod yX1_init, Cond.code yX1_init cX1_init 3 none, Cond.methodLink RX1 3 objectInit, Cond.fieldLink RX1 9 "SlipBench$Column" "tall" "I", Cond.fieldLink RX1 15 "SlipBench$Column" "water" "I", Cond.fieldLink RX1 18 "SlipBench$Column" "load" "I", Cond.fieldLink RX1 21 "SlipBench$Column" "nails" "I", Cond.fieldLink RX1 24 "SlipBench$Column" "presses" "[I", Cond.fieldLink RX1 28 "SlipBench$Column" "holds" "[I", Cond.fieldLink RX1 31 "SlipBench$Column" "reckoned" "Z", Cond.fieldLink RX1 35 "SlipBench$Column" "earths" "LSlipBench$Earths;", Cond.fieldLink RX1 39 "SlipBench$Column" "cells" "[I", Cond.methodLink RX7 25 yX4_init_, Cond.instanceMethod yX4_init_, Cond.code yX4_init_ cX4_init_ 3 none, Cond.fieldLink RX4 28 "SlipBench$Column" "cells" "[I"]
def wsX7_init_r4 : List Cond := [Cond.instanceMethod yX0_init, Cond.code yX0_init cX0_init 1 none, Cond.methodLink RX0 3 objectInit, Cond.fieldLink RX0 9 "SlipBench$Acts" "size" "I", Cond.fieldLink RX0 15 "SlipBench$Acts" "kinds" "[I", Cond.fieldLink RX0 19 "SlipBench$Acts" "places" "[I", Cond.fieldLink RX0 22 "SlipBench$Acts" "amounts" "[I", Cond.methodLink RX7 40 yX6_init, Cond.instanceMethod yX6_init, Cond.code yX6_init cX6_init 2 none, Cond.methodLink RX6 3 objectInit, Cond.arrayClass .long, Cond.fieldLink RX6 9 "SlipBench$Search" "rests" "[J", Cond.fieldLink RX6 15 "SlipBench$Search" "wholes" "[J", Cond.fieldLink RX6 18 "SlipBench$Search" "p" "J", Cond.fieldLink RX6 22 "SlipBench$Search" "q" "J", Cond.fieldLink RX6 25 "SlipBench$Search" "last" "I", Cond.fieldLink RX6 29 "SlipBench$Search" "anyEnd" "Z", Cond.fieldLink RX6 33 "SlipBench$Search" "studied" "LSlipBench$Ground;", Cond.instanceMethod yX5_init, Cond.code yX5_init cX5_init 1 none, Cond.methodLink RX5 3 objectInit, Cond.fieldLink RX5 9 "SlipBench$Line" "heights" "[I", Cond.fieldLink RX5 15 "SlipBench$Line" "start" "I"]
def wsX7_init_r5 : List Cond := [Cond.fieldLink RX5 19 "SlipBench$Line" "size" "I", Cond.instanceMethod yX3_init, Cond.code yX3_init cX3_init 1 none, Cond.methodLink RX3 1 objectInit, Cond.fieldLink RX3 7 "SlipBench$Fraction" "upper" "J", Cond.fieldLink RX3 13 "SlipBench$Fraction" "lower" "J"]
def wsX7_init : List Cond := .code yX7_init cX7_init 1 none :: ((wsX7_init_r1 ++ (wsX7_init_r2 ++ (wsX7_init_r3 ++ (wsX7_init_r4 ++ wsX7_init_r5)))) ++ wsX20 ++ wsX70 ++ wsX40 ++ wsX00 ++ wsX60 ++ wsX50 ++ wsX30 ++ wsX10)
def wsX7_ground_r1 : List Cond := [Cond.fieldLink RX7 21 "SlipBench" "ground" "LSlipBench$Ground;", Cond.fieldLink RX7 34 "SlipBench" "acts" "LSlipBench$Acts;", Cond.fieldLink RX7 91 "SlipBench$Acts" "size" "I", Cond.fieldLink RX7 48 "SlipBench" "begun" "LSlipBench$Line;", Cond.fieldLink RX7 80 "SlipBench" "worstKnown" "Z", Cond.methodLink RX7 87 yX4_clearTo, Cond.instanceMethod yX4_clearTo, Cond.selects RX4 yX4_clearTo yX4_clearTo, Cond.initialized RX4, Cond.code yX4_clearTo cX4_clearTo 3 none, Cond.fieldLink RX4 17 "SlipBench$Ground" "width" "I", Cond.fieldLink RX4 11 "SlipBench$Ground" "columns" "[LSlipBench$Column;", Cond.methodLink RX4 36 yX1_clear, Cond.instanceMethod yX1_clear, Cond.selects RX1 yX1_clear yX1_clear, Cond.initialized RX1, Cond.code yX1_clear cX1_clear 1 none, Cond.fieldLink RX1 9 "SlipBench$Column" "tall" "I", Cond.fieldLink RX1 15 "SlipBench$Column" "water" "I", Cond.fieldLink RX1 18 "SlipBench$Column" "load" "I", Cond.fieldLink RX1 21 "SlipBench$Column" "nails" "I", Cond.fieldLink RX1 31 "SlipBench$Column" "reckoned" "Z", Cond.methodLink RX7 94 yX5_drop, Cond.instanceMethod yX5_drop]
def wsX7_ground_r2 : List Cond := [Cond.selects RX5 yX5_drop yX5_drop, Cond.initialized RX5, Cond.code yX5_drop cX5_drop 1 none, Cond.fieldLink RX5 19 "SlipBench$Line" "size" "I"]
def wsX7_ground : List Cond := .code yX7_ground cX7_ground 2 (some .boolean) :: ((wsX7_ground_r1 ++ wsX7_ground_r2) ++ wsX70 ++ wsX00 ++ wsX40 ++ wsX10 ++ wsX50)
def wsX7_earth : List Cond := .code yX7_earth cX7_earth 5 (some .int) :: ([.fieldLink RX7 12 "SlipBench" "earths" "LSlipBench$Earths;", .methodLink RX7 97 yX7_within, .static yX7_within, .initialized RX7, .code yX7_within cX7_within 3 (some .boolean), .methodLink RX7 101 yX2_add, .instanceMethod yX2_add, .selects RX2 yX2_add yX2_add, .initialized RX2, .code yX2_add cX2_add 5 (some .int), .fieldLink RX2 25 "SlipBench$Earths" "size" "I", .fieldLink RX2 9 "SlipBench$Earths" "weights" "[I", .fieldLink RX2 15 "SlipBench$Earths" "holds" "[I", .fieldLink RX2 18 "SlipBench$Earths" "rubs" "[I", .fieldLink RX2 21 "SlipBench$Earths" "rocks" "[Z"] ++ wsX70 ++ wsX20)
def wsX7_lay_r1 : List Cond := [Cond.fieldLink RX7 21 "SlipBench" "ground" "LSlipBench$Ground;", Cond.fieldLink RX7 12 "SlipBench" "earths" "LSlipBench$Earths;", Cond.fieldLink RX7 110 "SlipBench$Ground" "columns" "[LSlipBench$Column;", Cond.fieldLink RX7 114 "SlipBench$Column" "tall" "I", Cond.fieldLink RX7 80 "SlipBench" "worstKnown" "Z", Cond.methodLink RX7 105 yX4_has, Cond.instanceMethod yX4_has, Cond.selects RX4 yX4_has yX4_has, Cond.initialized RX4, Cond.code yX4_has cX4_has 2 (some .boolean), Cond.fieldLink RX4 17 "SlipBench$Ground" "width" "I", Cond.static yX7_within, Cond.initialized RX7, Cond.code yX7_within cX7_within 3 (some .boolean), Cond.methodLink RX7 109 yX2_has, Cond.instanceMethod yX2_has, Cond.selects RX2 yX2_has yX2_has, Cond.initialized RX2, Cond.code yX2_has cX2_has 2 (some .boolean), Cond.fieldLink RX2 25 "SlipBench$Earths" "size" "I", Cond.methodLink RX7 97 yX7_within, Cond.methodLink RX7 119 yX1_pile, Cond.instanceMethod yX1_pile, Cond.selects RX1 yX1_pile yX1_pile]
def wsX7_lay_r2 : List Cond := [Cond.initialized RX1, Cond.code yX1_pile cX1_pile 5 none, Cond.fieldLink RX1 9 "SlipBench$Column" "tall" "I", Cond.methodLink RX1 48 Lib.Math.min.name, Cond.static Lib.Math.min.name, Cond.initialized "java/lang/Math", Cond.code Lib.Math.min.name Lib.Math.min.code 2 (some .int), Cond.fieldLink RX1 39 "SlipBench$Column" "cells" "[I", Cond.fieldLink RX1 31 "SlipBench$Column" "reckoned" "Z"]
def wsX7_lay : List Cond := .code yX7_lay cX7_lay 5 (some .int) :: ((wsX7_lay_r1 ++ wsX7_lay_r2) ++ wsX70 ++ wsX40 ++ wsX10 ++ wsX20)
def wsX7_set : List Cond := .code yX7_set cX7_set 4 (some .boolean) :: ([.fieldLink RX7 21 "SlipBench" "ground" "LSlipBench$Ground;", .fieldLink RX7 110 "SlipBench$Ground" "columns" "[LSlipBench$Column;", .fieldLink RX7 80 "SlipBench" "worstKnown" "Z", .methodLink RX7 105 yX4_has, .instanceMethod yX4_has, .selects RX4 yX4_has yX4_has, .initialized RX4, .code yX4_has cX4_has 2 (some .boolean), .fieldLink RX4 17 "SlipBench$Ground" "width" "I", .static yX7_within, .initialized RX7, .code yX7_within cX7_within 3 (some .boolean), .methodLink RX7 97 yX7_within, .methodLink RX7 123 yX1_put, .instanceMethod yX1_put, .selects RX1 yX1_put yX1_put, .initialized RX1, .code yX1_put cX1_put 3 none, .fieldLink RX1 15 "SlipBench$Column" "water" "I", .fieldLink RX1 18 "SlipBench$Column" "load" "I", .fieldLink RX1 21 "SlipBench$Column" "nails" "I", .fieldLink RX1 31 "SlipBench$Column" "reckoned" "Z"] ++ wsX70 ++ wsX40 ++ wsX10)
def wsX7_cell : List Cond := .code yX7_cell cX7_cell 4 (some .int) :: ([.fieldLink RX7 21 "SlipBench" "ground" "LSlipBench$Ground;", .fieldLink RX7 110 "SlipBench$Ground" "columns" "[LSlipBench$Column;", .fieldLink RX7 114 "SlipBench$Column" "tall" "I", .fieldLink RX7 147 "SlipBench$Column" "cells" "[I", .methodLink RX7 105 yX4_has, .instanceMethod yX4_has, .selects RX4 yX4_has yX4_has, .initialized RX4, .code yX4_has cX4_has 2 (some .boolean), .fieldLink RX4 17 "SlipBench$Ground" "width" "I", .static yX7_within, .initialized RX7, .code yX7_within cX7_within 3 (some .boolean), .methodLink RX7 97 yX7_within] ++ wsX70 ++ wsX40 ++ wsX10)
def wsX7_begin : List Cond := .code yX7_begin cX7_begin 3 (some .boolean) :: ([.fieldLink RX7 21 "SlipBench" "ground" "LSlipBench$Ground;", .fieldLink RX7 48 "SlipBench" "begun" "LSlipBench$Line;", .methodLink RX7 105 yX4_has, .instanceMethod yX4_has, .selects RX4 yX4_has yX4_has, .initialized RX4, .code yX4_has cX4_has 2 (some .boolean), .fieldLink RX4 17 "SlipBench$Ground" "width" "I", .static yX7_within, .initialized RX7, .code yX7_within cX7_within 3 (some .boolean), .methodLink RX7 97 yX7_within, .methodLink RX7 94 yX5_drop, .instanceMethod yX5_drop, .selects RX5 yX5_drop yX5_drop, .initialized RX5, .code yX5_drop cX5_drop 1 none, .fieldLink RX5 19 "SlipBench$Line" "size" "I", .methodLink RX7 150 yX5_startAt, .instanceMethod yX5_startAt, .selects RX5 yX5_startAt yX5_startAt, .code yX5_startAt cX5_startAt 3 none, .fieldLink RX5 15 "SlipBench$Line" "start" "I", .fieldLink RX5 9 "SlipBench$Line" "heights" "[I"] ++ wsX70 ++ wsX40 ++ wsX50)
def wsX7_next : List Cond := .code yX7_next cX7_next 2 (some .int) :: ([.fieldLink RX7 48 "SlipBench" "begun" "LSlipBench$Line;", .fieldLink RX7 153 "SlipBench$Line" "size" "I", .fieldLink RX7 21 "SlipBench" "ground" "LSlipBench$Ground;", .fieldLink RX7 158 "SlipBench$Ground" "width" "I", .methodLink RX7 97 yX7_within, .static yX7_within, .initialized RX7, .code yX7_within cX7_within 3 (some .boolean), .methodLink RX7 154 yX5_end, .instanceMethod yX5_end, .selects RX5 yX5_end yX5_end, .initialized RX5, .code yX5_end cX5_end 1 (some .int), .fieldLink RX5 15 "SlipBench$Line" "start" "I", .fieldLink RX5 19 "SlipBench$Line" "size" "I", .methodLink RX7 161 yX5_add, .instanceMethod yX5_add, .selects RX5 yX5_add yX5_add, .code yX5_add cX5_add 2 none, .fieldLink RX5 9 "SlipBench$Line" "heights" "[I"] ++ wsX70 ++ wsX50 ++ wsX40)
def wsX7_line_r1 : List Cond := [Cond.fieldLink RX7 21 "SlipBench" "ground" "LSlipBench$Ground;", Cond.fieldLink RX7 48 "SlipBench" "begun" "LSlipBench$Line;", Cond.methodLink RX7 163 yX4_bears, Cond.instanceMethod yX4_bears, Cond.selects RX4 yX4_bears yX4_bears, Cond.initialized RX4, Cond.code yX4_bears cX4_bears 3 (some .boolean), Cond.fieldLink RX4 62 "SlipBench$Line" "size" "I", Cond.fieldLink RX4 17 "SlipBench$Ground" "width" "I", Cond.fieldLink RX4 71 "SlipBench$Line" "heights" "[I", Cond.fieldLink RX4 11 "SlipBench$Ground" "columns" "[LSlipBench$Column;", Cond.fieldLink RX4 74 "SlipBench$Line" "start" "I", Cond.fieldLink RX4 59 "SlipBench$Column" "tall" "I", Cond.methodLink RX4 67 yX5_end, Cond.instanceMethod yX5_end, Cond.selects RX5 yX5_end yX5_end, Cond.initialized RX5, Cond.code yX5_end cX5_end 1 (some .int), Cond.fieldLink RX5 15 "SlipBench$Line" "start" "I", Cond.fieldLink RX5 19 "SlipBench$Line" "size" "I", Cond.methodLink RX4 77 yX4_holdsOfPart, Cond.instanceMethod yX4_holdsOfPart, Cond.selects RX4 yX4_holdsOfPart yX4_holdsOfPart, Cond.code yX4_holdsOfPart cX4_holdsOfPart 5 (some .int)]
def wsX7_line_r2 : List Cond := [Cond.methodLink RX4 49 Lib.Math.min.name, Cond.static Lib.Math.min.name, Cond.initialized "java/lang/Math", Cond.code Lib.Math.min.name Lib.Math.min.code 2 (some .int), Cond.methodLink RX4 87 Lib.Math.abs.name, Cond.static Lib.Math.abs.name, Cond.code Lib.Math.abs.name Lib.Math.abs.code 1 (some .int), Cond.methodLink RX4 43 yX1_reckon, Cond.instanceMethod yX1_reckon, Cond.selects RX1 yX1_reckon yX1_reckon, Cond.initialized RX1, Cond.code yX1_reckon cX1_reckon 3 none, Cond.fieldLink RX1 31 "SlipBench$Column" "reckoned" "Z", Cond.fieldLink RX1 24 "SlipBench$Column" "presses" "[I", Cond.fieldLink RX1 9 "SlipBench$Column" "tall" "I", Cond.fieldLink RX1 18 "SlipBench$Column" "load" "I", Cond.fieldLink RX1 35 "SlipBench$Column" "earths" "LSlipBench$Earths;", Cond.fieldLink RX1 54 "SlipBench$Earths" "weights" "[I", Cond.fieldLink RX1 39 "SlipBench$Column" "cells" "[I", Cond.fieldLink RX1 28 "SlipBench$Column" "holds" "[I", Cond.methodLink RX1 59 yX1_reckonHolds, Cond.instanceMethod yX1_reckonHolds, Cond.selects RX1 yX1_reckonHolds yX1_reckonHolds, Cond.code yX1_reckonHolds cX1_reckonHolds 8 (some .int)]
def wsX7_line_r3 : List Cond := [Cond.fieldLink RX1 62 "SlipBench$Earths" "rocks" "[Z", Cond.fieldLink RX1 15 "SlipBench$Column" "water" "I", Cond.methodLink RX1 66 Lib.Math.max.name, Cond.static Lib.Math.max.name, Cond.code Lib.Math.max.name Lib.Math.max.code 2 (some .int), Cond.fieldLink RX1 69 "SlipBench$Earths" "rubs" "[I", Cond.fieldLink RX1 72 "SlipBench$Earths" "holds" "[I", Cond.fieldLink RX1 21 "SlipBench$Column" "nails" "I", Cond.methodLink RX4 91 yX1_holdsAt, Cond.instanceMethod yX1_holdsAt, Cond.selects RX1 yX1_holdsAt yX1_holdsAt, Cond.code yX1_holdsAt cX1_holdsAt 3 (some .int)]
def wsX7_line : List Cond := .code yX7_line cX7_line 1 (some .int) :: ((wsX7_line_r1 ++ (wsX7_line_r2 ++ wsX7_line_r3)) ++ wsX70 ++ wsX50 ++ wsX40 ++ wsX10 ++ wsX20)
def wsX7_knowWorst_r1 : List Cond := [Cond.fieldLink RX7 80 "SlipBench" "worstKnown" "Z", Cond.fieldLink RX7 21 "SlipBench" "ground" "LSlipBench$Ground;", Cond.fieldLink RX7 41 "SlipBench" "search" "LSlipBench$Search;", Cond.fieldLink RX7 52 "SlipBench" "worstLine" "LSlipBench$Line;", Cond.fieldLink RX7 58 "SlipBench" "worstShare" "LSlipBench$Fraction;", Cond.fieldLink RX7 84 "SlipBench" "worstExists" "Z", Cond.methodLink RX7 205 yX4_reckon, Cond.instanceMethod yX4_reckon, Cond.selects RX4 yX4_reckon yX4_reckon, Cond.initialized RX4, Cond.code yX4_reckon cX4_reckon 2 none, Cond.fieldLink RX4 17 "SlipBench$Ground" "width" "I", Cond.fieldLink RX4 11 "SlipBench$Ground" "columns" "[LSlipBench$Column;", Cond.methodLink RX4 43 yX1_reckon, Cond.instanceMethod yX1_reckon, Cond.selects RX1 yX1_reckon yX1_reckon, Cond.initialized RX1, Cond.code yX1_reckon cX1_reckon 3 none, Cond.fieldLink RX1 31 "SlipBench$Column" "reckoned" "Z", Cond.fieldLink RX1 24 "SlipBench$Column" "presses" "[I", Cond.fieldLink RX1 9 "SlipBench$Column" "tall" "I", Cond.fieldLink RX1 18 "SlipBench$Column" "load" "I", Cond.fieldLink RX1 35 "SlipBench$Column" "earths" "LSlipBench$Earths;", Cond.fieldLink RX1 54 "SlipBench$Earths" "weights" "[I"]
def wsX7_knowWorst_r2 : List Cond := [Cond.fieldLink RX1 39 "SlipBench$Column" "cells" "[I", Cond.fieldLink RX1 28 "SlipBench$Column" "holds" "[I", Cond.methodLink RX1 59 yX1_reckonHolds, Cond.instanceMethod yX1_reckonHolds, Cond.selects RX1 yX1_reckonHolds yX1_reckonHolds, Cond.code yX1_reckonHolds cX1_reckonHolds 8 (some .int), Cond.fieldLink RX1 62 "SlipBench$Earths" "rocks" "[Z", Cond.fieldLink RX1 15 "SlipBench$Column" "water" "I", Cond.methodLink RX1 66 Lib.Math.max.name, Cond.static Lib.Math.max.name, Cond.initialized "java/lang/Math", Cond.code Lib.Math.max.name Lib.Math.max.code 2 (some .int), Cond.fieldLink RX1 69 "SlipBench$Earths" "rubs" "[I", Cond.fieldLink RX1 72 "SlipBench$Earths" "holds" "[I", Cond.fieldLink RX1 21 "SlipBench$Column" "nails" "I", Cond.methodLink RX7 236 yX6_study, Cond.instanceMethod yX6_study, Cond.selects RX6 yX6_study yX6_study, Cond.initialized RX6, Cond.code yX6_study cX6_study 2 none, Cond.fieldLink RX6 33 "SlipBench$Search" "studied" "LSlipBench$Ground;", Cond.methodLink RX7 239 yX6_findWorst, Cond.instanceMethod yX6_findWorst, Cond.selects RX6 yX6_findWorst yX6_findWorst]
def wsX7_knowWorst_r3 : List Cond := [Cond.code yX6_findWorst cX6_findWorst 5 (some .boolean), Cond.fieldLink RX6 41 "SlipBench$Ground" "width" "I", Cond.fieldLink RX6 15 "SlipBench$Search" "wholes" "[J", Cond.fieldLink RX6 70 "SlipBench$Fraction" "upper" "J", Cond.fieldLink RX6 73 "SlipBench$Fraction" "lower" "J", Cond.methodLink RX6 37 yX6_aim, Cond.instanceMethod yX6_aim, Cond.selects RX6 yX6_aim yX6_aim, Cond.code yX6_aim cX6_aim 5 none, Cond.fieldLink RX6 18 "SlipBench$Search" "p" "J", Cond.fieldLink RX6 22 "SlipBench$Search" "q" "J", Cond.methodLink RX6 46 yX6_weigh, Cond.instanceMethod yX6_weigh, Cond.selects RX6 yX6_weigh yX6_weigh, Cond.code yX6_weigh cX6_weigh 5 none, Cond.fieldLink RX6 25 "SlipBench$Search" "last" "I", Cond.fieldLink RX6 29 "SlipBench$Search" "anyEnd" "Z", Cond.fieldLink RX6 9 "SlipBench$Search" "rests" "[J", Cond.fieldLink RX6 90 "SlipBench$Ground" "columns" "[LSlipBench$Column;", Cond.fieldLink RX6 94 "SlipBench$Column" "tall" "I", Cond.methodLink RX6 80 yX6_clearRests, Cond.instanceMethod yX6_clearRests, Cond.selects RX6 yX6_clearRests yX6_clearRests, Cond.code yX6_clearRests cX6_clearRests 3 none]
def wsX7_knowWorst_r4 : List Cond := [Cond.constantLong RX6 99 (4611686018427387904), Cond.methodLink RX6 84 yX6_allowEnd, Cond.instanceMethod yX6_allowEnd, Cond.selects RX6 yX6_allowEnd yX6_allowEnd, Cond.code yX6_allowEnd cX6_allowEnd 3 none, Cond.methodLink RX6 101 Lib.MathLoose.min_long.x, Cond.static Lib.MathLoose.min_long.x, Cond.code Lib.MathLoose.min_long.x Lib.MathLoose.min_long.code 4 (some .long), Cond.methodLink RX6 87 yX6_weighColumn, Cond.instanceMethod yX6_weighColumn, Cond.selects RX6 yX6_weighColumn yX6_weighColumn, Cond.code yX6_weighColumn cX6_weighColumn 10 none, Cond.methodLink RX6 107 yX1_holdsAt, Cond.instanceMethod yX1_holdsAt, Cond.selects RX1 yX1_holdsAt yX1_holdsAt, Cond.code yX1_holdsAt cX1_holdsAt 3 (some .int), Cond.methodLink RX6 111 yX1_drivesFrom, Cond.instanceMethod yX1_drivesFrom, Cond.selects RX1 yX1_drivesFrom yX1_drivesFrom, Cond.code yX1_drivesFrom cX1_drivesFrom 3 (some .int), Cond.methodLink RX6 114 yX6_better, Cond.instanceMethod yX6_better, Cond.selects RX6 yX6_better yX6_better, Cond.code yX6_better cX6_better 8 none]
def wsX7_knowWorst_r5 : List Cond := [Cond.methodLink RX6 50 yX6_leastStart, Cond.instanceMethod yX6_leastStart, Cond.selects RX6 yX6_leastStart yX6_leastStart, Cond.code yX6_leastStart cX6_leastStart 3 (some .int), Cond.methodLink RX6 54 yX6_follow, Cond.instanceMethod yX6_follow, Cond.selects RX6 yX6_follow yX6_follow, Cond.code yX6_follow cX6_follow 10 none, Cond.methodLink RX6 118 yX5_startAt, Cond.instanceMethod yX5_startAt, Cond.selects RX5 yX5_startAt yX5_startAt, Cond.initialized RX5, Cond.code yX5_startAt cX5_startAt 3 none, Cond.fieldLink RX5 15 "SlipBench$Line" "start" "I", Cond.fieldLink RX5 9 "SlipBench$Line" "heights" "[I", Cond.fieldLink RX5 19 "SlipBench$Line" "size" "I", Cond.methodLink RX6 124 yX6_leastRight, Cond.instanceMethod yX6_leastRight, Cond.selects RX6 yX6_leastRight yX6_leastRight, Cond.code yX6_leastRight cX6_leastRight 11 (some .int), Cond.methodLink RX6 135 Lib.Math.min.name, Cond.static Lib.Math.min.name, Cond.code Lib.Math.min.name Lib.Math.min.code 2 (some .int), Cond.methodLink RX6 137 Lib.Math.max.name]
def wsX7_knowWorst_r6 : List Cond := [Cond.methodLink RX6 128 yX6_keyOf, Cond.instanceMethod yX6_keyOf, Cond.selects RX6 yX6_keyOf yX6_keyOf, Cond.code yX6_keyOf cX6_keyOf 6 (some .long), Cond.methodLink RX6 140 Lib.Math.abs.name, Cond.static Lib.Math.abs.name, Cond.code Lib.Math.abs.name Lib.Math.abs.code 1 (some .int), Cond.methodLink RX6 132 yX5_add, Cond.instanceMethod yX5_add, Cond.selects RX5 yX5_add yX5_add, Cond.code yX5_add cX5_add 2 none, Cond.methodLink RX6 58 yX4_holdsAlong, Cond.instanceMethod yX4_holdsAlong, Cond.selects RX4 yX4_holdsAlong yX4_holdsAlong, Cond.code yX4_holdsAlong cX4_holdsAlong 5 (some .long), Cond.fieldLink RX4 62 "SlipBench$Line" "size" "I", Cond.methodLink RX4 77 yX4_holdsOfPart, Cond.instanceMethod yX4_holdsOfPart, Cond.selects RX4 yX4_holdsOfPart yX4_holdsOfPart, Cond.code yX4_holdsOfPart cX4_holdsOfPart 5 (some .int), Cond.fieldLink RX4 74 "SlipBench$Line" "start" "I", Cond.fieldLink RX4 71 "SlipBench$Line" "heights" "[I", Cond.methodLink RX4 49 Lib.Math.min.name, Cond.methodLink RX4 87 Lib.Math.abs.name]
def wsX7_knowWorst_r7 : List Cond := [Cond.methodLink RX4 91 yX1_holdsAt, Cond.methodLink RX6 62 yX4_drivesAlong, Cond.instanceMethod yX4_drivesAlong, Cond.selects RX4 yX4_drivesAlong yX4_drivesAlong, Cond.code yX4_drivesAlong cX4_drivesAlong 7 (some .long), Cond.methodLink RX4 81 Lib.Math.max.name, Cond.methodLink RX4 84 yX1_drivesFrom, Cond.methodLink RX6 65 yX3_become, Cond.instanceMethod yX3_become, Cond.selects RX3 yX3_become yX3_become, Cond.initialized RX3, Cond.code yX3_become cX3_become 7 none, Cond.fieldLink RX3 7 "SlipBench$Fraction" "upper" "J", Cond.fieldLink RX3 13 "SlipBench$Fraction" "lower" "J", Cond.methodLink RX3 16 yX3_greatestCommon, Cond.static yX3_greatestCommon, Cond.code yX3_greatestCommon cX3_greatestCommon 11 (some .long), Cond.methodLink RX7 243 yX6_findFirst, Cond.instanceMethod yX6_findFirst, Cond.selects RX6 yX6_findFirst yX6_findFirst, Cond.code yX6_findFirst cX6_findFirst 5 none, Cond.constantLong RX6 76 (1048576), Cond.constantLong RX6 78 (-1)]
def wsX7_knowWorst : List Cond := .code yX7_knowWorst cX7_knowWorst 1 (some .boolean) :: ((wsX7_knowWorst_r1 ++ (wsX7_knowWorst_r2 ++ (wsX7_knowWorst_r3 ++ (wsX7_knowWorst_r4 ++ (wsX7_knowWorst_r5 ++ (wsX7_knowWorst_r6 ++ wsX7_knowWorst_r7)))))) ++ wsX70 ++ wsX40 ++ wsX10 ++ wsX20 ++ wsX60 ++ wsX30 ++ wsX50)
def wsX7_worst_r1 : List Cond := [Cond.constantLong RX7 193 (-1), Cond.fieldLink RX7 58 "SlipBench" "worstShare" "LSlipBench$Fraction;", Cond.fieldLink RX7 182 "SlipBench$Fraction" "upper" "J", Cond.fieldLink RX7 186 "SlipBench$Fraction" "lower" "J", Cond.fieldLink RX7 52 "SlipBench" "worstLine" "LSlipBench$Line;", Cond.fieldLink RX7 195 "SlipBench$Line" "start" "I", Cond.fieldLink RX7 153 "SlipBench$Line" "size" "I", Cond.methodLink RX7 97 yX7_within, Cond.static yX7_within, Cond.initialized RX7, Cond.code yX7_within cX7_within 3 (some .boolean), Cond.methodLink RX7 189 yX7_knowWorst, Cond.instanceMethod yX7_knowWorst, Cond.selects RX7 yX7_knowWorst yX7_knowWorst, Cond.code yX7_knowWorst cX7_knowWorst 1 (some .boolean), Cond.fieldLink RX7 80 "SlipBench" "worstKnown" "Z", Cond.fieldLink RX7 21 "SlipBench" "ground" "LSlipBench$Ground;", Cond.fieldLink RX7 41 "SlipBench" "search" "LSlipBench$Search;", Cond.fieldLink RX7 84 "SlipBench" "worstExists" "Z", Cond.methodLink RX7 205 yX4_reckon, Cond.instanceMethod yX4_reckon, Cond.selects RX4 yX4_reckon yX4_reckon, Cond.initialized RX4, Cond.code yX4_reckon cX4_reckon 2 none]
def wsX7_worst_r2 : List Cond := [Cond.fieldLink RX4 17 "SlipBench$Ground" "width" "I", Cond.fieldLink RX4 11 "SlipBench$Ground" "columns" "[LSlipBench$Column;", Cond.methodLink RX4 43 yX1_reckon, Cond.instanceMethod yX1_reckon, Cond.selects RX1 yX1_reckon yX1_reckon, Cond.initialized RX1, Cond.code yX1_reckon cX1_reckon 3 none, Cond.fieldLink RX1 31 "SlipBench$Column" "reckoned" "Z", Cond.fieldLink RX1 24 "SlipBench$Column" "presses" "[I", Cond.fieldLink RX1 9 "SlipBench$Column" "tall" "I", Cond.fieldLink RX1 18 "SlipBench$Column" "load" "I", Cond.fieldLink RX1 35 "SlipBench$Column" "earths" "LSlipBench$Earths;", Cond.fieldLink RX1 54 "SlipBench$Earths" "weights" "[I", Cond.fieldLink RX1 39 "SlipBench$Column" "cells" "[I", Cond.fieldLink RX1 28 "SlipBench$Column" "holds" "[I", Cond.methodLink RX1 59 yX1_reckonHolds, Cond.instanceMethod yX1_reckonHolds, Cond.selects RX1 yX1_reckonHolds yX1_reckonHolds, Cond.code yX1_reckonHolds cX1_reckonHolds 8 (some .int), Cond.fieldLink RX1 62 "SlipBench$Earths" "rocks" "[Z", Cond.fieldLink RX1 15 "SlipBench$Column" "water" "I", Cond.methodLink RX1 66 Lib.Math.max.name, Cond.static Lib.Math.max.name, Cond.initialized "java/lang/Math"]
def wsX7_worst_r3 : List Cond := [Cond.code Lib.Math.max.name Lib.Math.max.code 2 (some .int), Cond.fieldLink RX1 69 "SlipBench$Earths" "rubs" "[I", Cond.fieldLink RX1 72 "SlipBench$Earths" "holds" "[I", Cond.fieldLink RX1 21 "SlipBench$Column" "nails" "I", Cond.methodLink RX7 236 yX6_study, Cond.instanceMethod yX6_study, Cond.selects RX6 yX6_study yX6_study, Cond.initialized RX6, Cond.code yX6_study cX6_study 2 none, Cond.fieldLink RX6 33 "SlipBench$Search" "studied" "LSlipBench$Ground;", Cond.methodLink RX7 239 yX6_findWorst, Cond.instanceMethod yX6_findWorst, Cond.selects RX6 yX6_findWorst yX6_findWorst, Cond.code yX6_findWorst cX6_findWorst 5 (some .boolean), Cond.fieldLink RX6 41 "SlipBench$Ground" "width" "I", Cond.fieldLink RX6 15 "SlipBench$Search" "wholes" "[J", Cond.fieldLink RX6 70 "SlipBench$Fraction" "upper" "J", Cond.fieldLink RX6 73 "SlipBench$Fraction" "lower" "J", Cond.methodLink RX6 37 yX6_aim, Cond.instanceMethod yX6_aim, Cond.selects RX6 yX6_aim yX6_aim, Cond.code yX6_aim cX6_aim 5 none, Cond.fieldLink RX6 18 "SlipBench$Search" "p" "J", Cond.fieldLink RX6 22 "SlipBench$Search" "q" "J"]
def wsX7_worst_r4 : List Cond := [Cond.methodLink RX6 46 yX6_weigh, Cond.instanceMethod yX6_weigh, Cond.selects RX6 yX6_weigh yX6_weigh, Cond.code yX6_weigh cX6_weigh 5 none, Cond.fieldLink RX6 25 "SlipBench$Search" "last" "I", Cond.fieldLink RX6 29 "SlipBench$Search" "anyEnd" "Z", Cond.fieldLink RX6 9 "SlipBench$Search" "rests" "[J", Cond.fieldLink RX6 90 "SlipBench$Ground" "columns" "[LSlipBench$Column;", Cond.fieldLink RX6 94 "SlipBench$Column" "tall" "I", Cond.methodLink RX6 80 yX6_clearRests, Cond.instanceMethod yX6_clearRests, Cond.selects RX6 yX6_clearRests yX6_clearRests, Cond.code yX6_clearRests cX6_clearRests 3 none, Cond.constantLong RX6 99 (4611686018427387904), Cond.methodLink RX6 84 yX6_allowEnd, Cond.instanceMethod yX6_allowEnd, Cond.selects RX6 yX6_allowEnd yX6_allowEnd, Cond.code yX6_allowEnd cX6_allowEnd 3 none, Cond.methodLink RX6 101 Lib.MathLoose.min_long.x, Cond.static Lib.MathLoose.min_long.x, Cond.code Lib.MathLoose.min_long.x Lib.MathLoose.min_long.code 4 (some .long), Cond.methodLink RX6 87 yX6_weighColumn, Cond.instanceMethod yX6_weighColumn, Cond.selects RX6 yX6_weighColumn yX6_weighColumn]
def wsX7_worst_r5 : List Cond := [Cond.code yX6_weighColumn cX6_weighColumn 10 none, Cond.methodLink RX6 107 yX1_holdsAt, Cond.instanceMethod yX1_holdsAt, Cond.selects RX1 yX1_holdsAt yX1_holdsAt, Cond.code yX1_holdsAt cX1_holdsAt 3 (some .int), Cond.methodLink RX6 111 yX1_drivesFrom, Cond.instanceMethod yX1_drivesFrom, Cond.selects RX1 yX1_drivesFrom yX1_drivesFrom, Cond.code yX1_drivesFrom cX1_drivesFrom 3 (some .int), Cond.methodLink RX6 114 yX6_better, Cond.instanceMethod yX6_better, Cond.selects RX6 yX6_better yX6_better, Cond.code yX6_better cX6_better 8 none, Cond.methodLink RX6 50 yX6_leastStart, Cond.instanceMethod yX6_leastStart, Cond.selects RX6 yX6_leastStart yX6_leastStart, Cond.code yX6_leastStart cX6_leastStart 3 (some .int), Cond.methodLink RX6 54 yX6_follow, Cond.instanceMethod yX6_follow, Cond.selects RX6 yX6_follow yX6_follow, Cond.code yX6_follow cX6_follow 10 none, Cond.methodLink RX6 118 yX5_startAt, Cond.instanceMethod yX5_startAt, Cond.selects RX5 yX5_startAt yX5_startAt]
def wsX7_worst_r6 : List Cond := [Cond.initialized RX5, Cond.code yX5_startAt cX5_startAt 3 none, Cond.fieldLink RX5 15 "SlipBench$Line" "start" "I", Cond.fieldLink RX5 9 "SlipBench$Line" "heights" "[I", Cond.fieldLink RX5 19 "SlipBench$Line" "size" "I", Cond.methodLink RX6 124 yX6_leastRight, Cond.instanceMethod yX6_leastRight, Cond.selects RX6 yX6_leastRight yX6_leastRight, Cond.code yX6_leastRight cX6_leastRight 11 (some .int), Cond.methodLink RX6 135 Lib.Math.min.name, Cond.static Lib.Math.min.name, Cond.code Lib.Math.min.name Lib.Math.min.code 2 (some .int), Cond.methodLink RX6 137 Lib.Math.max.name, Cond.methodLink RX6 128 yX6_keyOf, Cond.instanceMethod yX6_keyOf, Cond.selects RX6 yX6_keyOf yX6_keyOf, Cond.code yX6_keyOf cX6_keyOf 6 (some .long), Cond.methodLink RX6 140 Lib.Math.abs.name, Cond.static Lib.Math.abs.name, Cond.code Lib.Math.abs.name Lib.Math.abs.code 1 (some .int), Cond.methodLink RX6 132 yX5_add, Cond.instanceMethod yX5_add, Cond.selects RX5 yX5_add yX5_add, Cond.code yX5_add cX5_add 2 none]
def wsX7_worst_r7 : List Cond := [Cond.methodLink RX6 58 yX4_holdsAlong, Cond.instanceMethod yX4_holdsAlong, Cond.selects RX4 yX4_holdsAlong yX4_holdsAlong, Cond.code yX4_holdsAlong cX4_holdsAlong 5 (some .long), Cond.fieldLink RX4 62 "SlipBench$Line" "size" "I", Cond.methodLink RX4 77 yX4_holdsOfPart, Cond.instanceMethod yX4_holdsOfPart, Cond.selects RX4 yX4_holdsOfPart yX4_holdsOfPart, Cond.code yX4_holdsOfPart cX4_holdsOfPart 5 (some .int), Cond.fieldLink RX4 74 "SlipBench$Line" "start" "I", Cond.fieldLink RX4 71 "SlipBench$Line" "heights" "[I", Cond.methodLink RX4 49 Lib.Math.min.name, Cond.methodLink RX4 87 Lib.Math.abs.name, Cond.methodLink RX4 91 yX1_holdsAt, Cond.methodLink RX6 62 yX4_drivesAlong, Cond.instanceMethod yX4_drivesAlong, Cond.selects RX4 yX4_drivesAlong yX4_drivesAlong, Cond.code yX4_drivesAlong cX4_drivesAlong 7 (some .long), Cond.methodLink RX4 81 Lib.Math.max.name, Cond.methodLink RX4 84 yX1_drivesFrom, Cond.methodLink RX6 65 yX3_become, Cond.instanceMethod yX3_become, Cond.selects RX3 yX3_become yX3_become, Cond.initialized RX3]
def wsX7_worst_r8 : List Cond := [Cond.code yX3_become cX3_become 7 none, Cond.fieldLink RX3 7 "SlipBench$Fraction" "upper" "J", Cond.fieldLink RX3 13 "SlipBench$Fraction" "lower" "J", Cond.methodLink RX3 16 yX3_greatestCommon, Cond.static yX3_greatestCommon, Cond.code yX3_greatestCommon cX3_greatestCommon 11 (some .long), Cond.methodLink RX7 243 yX6_findFirst, Cond.instanceMethod yX6_findFirst, Cond.selects RX6 yX6_findFirst yX6_findFirst, Cond.code yX6_findFirst cX6_findFirst 5 none, Cond.constantLong RX6 76 (1048576), Cond.constantLong RX6 78 (-1), Cond.methodLink RX7 154 yX5_end, Cond.instanceMethod yX5_end, Cond.selects RX5 yX5_end yX5_end, Cond.code yX5_end cX5_end 1 (some .int)]
def wsX7_worst : List Cond := .code yX7_worst cX7_worst 2 (some .long) :: ((wsX7_worst_r1 ++ (wsX7_worst_r2 ++ (wsX7_worst_r3 ++ (wsX7_worst_r4 ++ (wsX7_worst_r5 ++ (wsX7_worst_r6 ++ (wsX7_worst_r7 ++ wsX7_worst_r8))))))) ++ wsX70 ++ wsX30 ++ wsX50 ++ wsX40 ++ wsX10 ++ wsX20 ++ wsX60)
def wsX7_height_r1 : List Cond := [Cond.fieldLink RX7 52 "SlipBench" "worstLine" "LSlipBench$Line;", Cond.fieldLink RX7 153 "SlipBench$Line" "size" "I", Cond.fieldLink RX7 198 "SlipBench$Line" "heights" "[I", Cond.methodLink RX7 189 yX7_knowWorst, Cond.instanceMethod yX7_knowWorst, Cond.selects RX7 yX7_knowWorst yX7_knowWorst, Cond.initialized RX7, Cond.code yX7_knowWorst cX7_knowWorst 1 (some .boolean), Cond.fieldLink RX7 80 "SlipBench" "worstKnown" "Z", Cond.fieldLink RX7 21 "SlipBench" "ground" "LSlipBench$Ground;", Cond.fieldLink RX7 41 "SlipBench" "search" "LSlipBench$Search;", Cond.fieldLink RX7 58 "SlipBench" "worstShare" "LSlipBench$Fraction;", Cond.fieldLink RX7 84 "SlipBench" "worstExists" "Z", Cond.methodLink RX7 205 yX4_reckon, Cond.instanceMethod yX4_reckon, Cond.selects RX4 yX4_reckon yX4_reckon, Cond.initialized RX4, Cond.code yX4_reckon cX4_reckon 2 none, Cond.fieldLink RX4 17 "SlipBench$Ground" "width" "I", Cond.fieldLink RX4 11 "SlipBench$Ground" "columns" "[LSlipBench$Column;", Cond.methodLink RX4 43 yX1_reckon, Cond.instanceMethod yX1_reckon, Cond.selects RX1 yX1_reckon yX1_reckon, Cond.initialized RX1]
def wsX7_height_r2 : List Cond := [Cond.code yX1_reckon cX1_reckon 3 none, Cond.fieldLink RX1 31 "SlipBench$Column" "reckoned" "Z", Cond.fieldLink RX1 24 "SlipBench$Column" "presses" "[I", Cond.fieldLink RX1 9 "SlipBench$Column" "tall" "I", Cond.fieldLink RX1 18 "SlipBench$Column" "load" "I", Cond.fieldLink RX1 35 "SlipBench$Column" "earths" "LSlipBench$Earths;", Cond.fieldLink RX1 54 "SlipBench$Earths" "weights" "[I", Cond.fieldLink RX1 39 "SlipBench$Column" "cells" "[I", Cond.fieldLink RX1 28 "SlipBench$Column" "holds" "[I", Cond.methodLink RX1 59 yX1_reckonHolds, Cond.instanceMethod yX1_reckonHolds, Cond.selects RX1 yX1_reckonHolds yX1_reckonHolds, Cond.code yX1_reckonHolds cX1_reckonHolds 8 (some .int), Cond.fieldLink RX1 62 "SlipBench$Earths" "rocks" "[Z", Cond.fieldLink RX1 15 "SlipBench$Column" "water" "I", Cond.methodLink RX1 66 Lib.Math.max.name, Cond.static Lib.Math.max.name, Cond.initialized "java/lang/Math", Cond.code Lib.Math.max.name Lib.Math.max.code 2 (some .int), Cond.fieldLink RX1 69 "SlipBench$Earths" "rubs" "[I", Cond.fieldLink RX1 72 "SlipBench$Earths" "holds" "[I", Cond.fieldLink RX1 21 "SlipBench$Column" "nails" "I", Cond.methodLink RX7 236 yX6_study, Cond.instanceMethod yX6_study]
def wsX7_height_r3 : List Cond := [Cond.selects RX6 yX6_study yX6_study, Cond.initialized RX6, Cond.code yX6_study cX6_study 2 none, Cond.fieldLink RX6 33 "SlipBench$Search" "studied" "LSlipBench$Ground;", Cond.methodLink RX7 239 yX6_findWorst, Cond.instanceMethod yX6_findWorst, Cond.selects RX6 yX6_findWorst yX6_findWorst, Cond.code yX6_findWorst cX6_findWorst 5 (some .boolean), Cond.fieldLink RX6 41 "SlipBench$Ground" "width" "I", Cond.fieldLink RX6 15 "SlipBench$Search" "wholes" "[J", Cond.fieldLink RX6 70 "SlipBench$Fraction" "upper" "J", Cond.fieldLink RX6 73 "SlipBench$Fraction" "lower" "J", Cond.methodLink RX6 37 yX6_aim, Cond.instanceMethod yX6_aim, Cond.selects RX6 yX6_aim yX6_aim, Cond.code yX6_aim cX6_aim 5 none, Cond.fieldLink RX6 18 "SlipBench$Search" "p" "J", Cond.fieldLink RX6 22 "SlipBench$Search" "q" "J", Cond.methodLink RX6 46 yX6_weigh, Cond.instanceMethod yX6_weigh, Cond.selects RX6 yX6_weigh yX6_weigh, Cond.code yX6_weigh cX6_weigh 5 none, Cond.fieldLink RX6 25 "SlipBench$Search" "last" "I", Cond.fieldLink RX6 29 "SlipBench$Search" "anyEnd" "Z"]
def wsX7_height_r4 : List Cond := [Cond.fieldLink RX6 9 "SlipBench$Search" "rests" "[J", Cond.fieldLink RX6 90 "SlipBench$Ground" "columns" "[LSlipBench$Column;", Cond.fieldLink RX6 94 "SlipBench$Column" "tall" "I", Cond.methodLink RX6 80 yX6_clearRests, Cond.instanceMethod yX6_clearRests, Cond.selects RX6 yX6_clearRests yX6_clearRests, Cond.code yX6_clearRests cX6_clearRests 3 none, Cond.constantLong RX6 99 (4611686018427387904), Cond.methodLink RX6 84 yX6_allowEnd, Cond.instanceMethod yX6_allowEnd, Cond.selects RX6 yX6_allowEnd yX6_allowEnd, Cond.code yX6_allowEnd cX6_allowEnd 3 none, Cond.methodLink RX6 101 Lib.MathLoose.min_long.x, Cond.static Lib.MathLoose.min_long.x, Cond.code Lib.MathLoose.min_long.x Lib.MathLoose.min_long.code 4 (some .long), Cond.methodLink RX6 87 yX6_weighColumn, Cond.instanceMethod yX6_weighColumn, Cond.selects RX6 yX6_weighColumn yX6_weighColumn, Cond.code yX6_weighColumn cX6_weighColumn 10 none, Cond.methodLink RX6 107 yX1_holdsAt, Cond.instanceMethod yX1_holdsAt, Cond.selects RX1 yX1_holdsAt yX1_holdsAt, Cond.code yX1_holdsAt cX1_holdsAt 3 (some .int), Cond.methodLink RX6 111 yX1_drivesFrom]
def wsX7_height_r5 : List Cond := [Cond.instanceMethod yX1_drivesFrom, Cond.selects RX1 yX1_drivesFrom yX1_drivesFrom, Cond.code yX1_drivesFrom cX1_drivesFrom 3 (some .int), Cond.methodLink RX6 114 yX6_better, Cond.instanceMethod yX6_better, Cond.selects RX6 yX6_better yX6_better, Cond.code yX6_better cX6_better 8 none, Cond.methodLink RX6 50 yX6_leastStart, Cond.instanceMethod yX6_leastStart, Cond.selects RX6 yX6_leastStart yX6_leastStart, Cond.code yX6_leastStart cX6_leastStart 3 (some .int), Cond.methodLink RX6 54 yX6_follow, Cond.instanceMethod yX6_follow, Cond.selects RX6 yX6_follow yX6_follow, Cond.code yX6_follow cX6_follow 10 none, Cond.methodLink RX6 118 yX5_startAt, Cond.instanceMethod yX5_startAt, Cond.selects RX5 yX5_startAt yX5_startAt, Cond.initialized RX5, Cond.code yX5_startAt cX5_startAt 3 none, Cond.fieldLink RX5 15 "SlipBench$Line" "start" "I", Cond.fieldLink RX5 9 "SlipBench$Line" "heights" "[I", Cond.fieldLink RX5 19 "SlipBench$Line" "size" "I", Cond.methodLink RX6 124 yX6_leastRight]
def wsX7_height_r6 : List Cond := [Cond.instanceMethod yX6_leastRight, Cond.selects RX6 yX6_leastRight yX6_leastRight, Cond.code yX6_leastRight cX6_leastRight 11 (some .int), Cond.methodLink RX6 135 Lib.Math.min.name, Cond.static Lib.Math.min.name, Cond.code Lib.Math.min.name Lib.Math.min.code 2 (some .int), Cond.methodLink RX6 137 Lib.Math.max.name, Cond.methodLink RX6 128 yX6_keyOf, Cond.instanceMethod yX6_keyOf, Cond.selects RX6 yX6_keyOf yX6_keyOf, Cond.code yX6_keyOf cX6_keyOf 6 (some .long), Cond.methodLink RX6 140 Lib.Math.abs.name, Cond.static Lib.Math.abs.name, Cond.code Lib.Math.abs.name Lib.Math.abs.code 1 (some .int), Cond.methodLink RX6 132 yX5_add, Cond.instanceMethod yX5_add, Cond.selects RX5 yX5_add yX5_add, Cond.code yX5_add cX5_add 2 none, Cond.methodLink RX6 58 yX4_holdsAlong, Cond.instanceMethod yX4_holdsAlong, Cond.selects RX4 yX4_holdsAlong yX4_holdsAlong, Cond.code yX4_holdsAlong cX4_holdsAlong 5 (some .long), Cond.fieldLink RX4 62 "SlipBench$Line" "size" "I", Cond.methodLink RX4 77 yX4_holdsOfPart]
def wsX7_height_r7 : List Cond := [Cond.instanceMethod yX4_holdsOfPart, Cond.selects RX4 yX4_holdsOfPart yX4_holdsOfPart, Cond.code yX4_holdsOfPart cX4_holdsOfPart 5 (some .int), Cond.fieldLink RX4 74 "SlipBench$Line" "start" "I", Cond.fieldLink RX4 71 "SlipBench$Line" "heights" "[I", Cond.methodLink RX4 49 Lib.Math.min.name, Cond.methodLink RX4 87 Lib.Math.abs.name, Cond.methodLink RX4 91 yX1_holdsAt, Cond.methodLink RX6 62 yX4_drivesAlong, Cond.instanceMethod yX4_drivesAlong, Cond.selects RX4 yX4_drivesAlong yX4_drivesAlong, Cond.code yX4_drivesAlong cX4_drivesAlong 7 (some .long), Cond.methodLink RX4 81 Lib.Math.max.name, Cond.methodLink RX4 84 yX1_drivesFrom, Cond.methodLink RX6 65 yX3_become, Cond.instanceMethod yX3_become, Cond.selects RX3 yX3_become yX3_become, Cond.initialized RX3, Cond.code yX3_become cX3_become 7 none, Cond.fieldLink RX3 7 "SlipBench$Fraction" "upper" "J", Cond.fieldLink RX3 13 "SlipBench$Fraction" "lower" "J", Cond.methodLink RX3 16 yX3_greatestCommon, Cond.static yX3_greatestCommon, Cond.code yX3_greatestCommon cX3_greatestCommon 11 (some .long)]
def wsX7_height_r8 : List Cond := [Cond.methodLink RX7 243 yX6_findFirst, Cond.instanceMethod yX6_findFirst, Cond.selects RX6 yX6_findFirst yX6_findFirst, Cond.code yX6_findFirst cX6_findFirst 5 none, Cond.constantLong RX6 76 (1048576), Cond.constantLong RX6 78 (-1), Cond.methodLink RX7 97 yX7_within, Cond.static yX7_within, Cond.code yX7_within cX7_within 3 (some .boolean)]
def wsX7_height : List Cond := .code yX7_height cX7_height 2 (some .int) :: ((wsX7_height_r1 ++ (wsX7_height_r2 ++ (wsX7_height_r3 ++ (wsX7_height_r4 ++ (wsX7_height_r5 ++ (wsX7_height_r6 ++ (wsX7_height_r7 ++ wsX7_height_r8))))))) ++ wsX70 ++ wsX50 ++ wsX40 ++ wsX10 ++ wsX20 ++ wsX60 ++ wsX30)
def wsX7_isRatio : List Cond := .code yX7_isRatio cX7_isRatio 2 (some .boolean) :: ([.methodLink RX7 97 yX7_within, .static yX7_within, .initialized RX7, .code yX7_within cX7_within 3 (some .boolean)])
def wsX7_standsRisen_r1 : List Cond := [Cond.fieldLink RX7 28 "SlipBench" "trial" "LSlipBench$Ground;", Cond.fieldLink RX7 21 "SlipBench" "ground" "LSlipBench$Ground;", Cond.fieldLink RX7 41 "SlipBench" "search" "LSlipBench$Search;", Cond.methodLink RX7 247 yX4_copy, Cond.instanceMethod yX4_copy, Cond.selects RX4 yX4_copy yX4_copy, Cond.initialized RX4, Cond.code yX4_copy cX4_copy 3 none, Cond.fieldLink RX4 17 "SlipBench$Ground" "width" "I", Cond.fieldLink RX4 11 "SlipBench$Ground" "columns" "[LSlipBench$Column;", Cond.methodLink RX4 39 yX1_copy, Cond.instanceMethod yX1_copy, Cond.selects RX1 yX1_copy yX1_copy, Cond.initialized RX1, Cond.code yX1_copy cX1_copy 2 none, Cond.fieldLink RX1 9 "SlipBench$Column" "tall" "I", Cond.fieldLink RX1 15 "SlipBench$Column" "water" "I", Cond.fieldLink RX1 18 "SlipBench$Column" "load" "I", Cond.fieldLink RX1 21 "SlipBench$Column" "nails" "I", Cond.fieldLink RX1 24 "SlipBench$Column" "presses" "[I", Cond.methodLink RX1 42 arraycopyName, Cond.native arraycopyName, Cond.static arraycopyName, Cond.initialized "java/lang/System"]
def wsX7_standsRisen_r2 : List Cond := [Cond.fieldLink RX1 28 "SlipBench$Column" "holds" "[I", Cond.fieldLink RX1 31 "SlipBench$Column" "reckoned" "Z", Cond.methodLink RX7 250 yX4_raiseWater, Cond.instanceMethod yX4_raiseWater, Cond.selects RX4 yX4_raiseWater yX4_raiseWater, Cond.code yX4_raiseWater cX4_raiseWater 3 none, Cond.fieldLink RX4 46 "SlipBench$Column" "water" "I", Cond.methodLink RX4 49 Lib.Math.min.name, Cond.static Lib.Math.min.name, Cond.initialized "java/lang/Math", Cond.code Lib.Math.min.name Lib.Math.min.code 2 (some .int), Cond.methodLink RX4 55 yX1_put, Cond.instanceMethod yX1_put, Cond.selects RX1 yX1_put yX1_put, Cond.code yX1_put cX1_put 3 none, Cond.methodLink RX7 205 yX4_reckon, Cond.instanceMethod yX4_reckon, Cond.selects RX4 yX4_reckon yX4_reckon, Cond.code yX4_reckon cX4_reckon 2 none, Cond.methodLink RX4 43 yX1_reckon, Cond.instanceMethod yX1_reckon, Cond.selects RX1 yX1_reckon yX1_reckon, Cond.code yX1_reckon cX1_reckon 3 none, Cond.fieldLink RX1 35 "SlipBench$Column" "earths" "LSlipBench$Earths;"]
def wsX7_standsRisen_r3 : List Cond := [Cond.fieldLink RX1 54 "SlipBench$Earths" "weights" "[I", Cond.fieldLink RX1 39 "SlipBench$Column" "cells" "[I", Cond.methodLink RX1 59 yX1_reckonHolds, Cond.instanceMethod yX1_reckonHolds, Cond.selects RX1 yX1_reckonHolds yX1_reckonHolds, Cond.code yX1_reckonHolds cX1_reckonHolds 8 (some .int), Cond.fieldLink RX1 62 "SlipBench$Earths" "rocks" "[Z", Cond.methodLink RX1 66 Lib.Math.max.name, Cond.static Lib.Math.max.name, Cond.code Lib.Math.max.name Lib.Math.max.code 2 (some .int), Cond.fieldLink RX1 69 "SlipBench$Earths" "rubs" "[I", Cond.fieldLink RX1 72 "SlipBench$Earths" "holds" "[I", Cond.methodLink RX7 236 yX6_study, Cond.instanceMethod yX6_study, Cond.selects RX6 yX6_study yX6_study, Cond.initialized RX6, Cond.code yX6_study cX6_study 2 none, Cond.fieldLink RX6 33 "SlipBench$Search" "studied" "LSlipBench$Ground;", Cond.methodLink RX7 253 yX6_stands, Cond.instanceMethod yX6_stands, Cond.selects RX6 yX6_stands yX6_stands, Cond.code yX6_stands cX6_stands 5 (some .boolean), Cond.fieldLink RX6 41 "SlipBench$Ground" "width" "I", Cond.fieldLink RX6 15 "SlipBench$Search" "wholes" "[J"]
def wsX7_standsRisen_r4 : List Cond := [Cond.methodLink RX6 37 yX6_aim, Cond.instanceMethod yX6_aim, Cond.selects RX6 yX6_aim yX6_aim, Cond.code yX6_aim cX6_aim 5 none, Cond.fieldLink RX6 18 "SlipBench$Search" "p" "J", Cond.fieldLink RX6 22 "SlipBench$Search" "q" "J", Cond.methodLink RX6 46 yX6_weigh, Cond.instanceMethod yX6_weigh, Cond.selects RX6 yX6_weigh yX6_weigh, Cond.code yX6_weigh cX6_weigh 5 none, Cond.fieldLink RX6 25 "SlipBench$Search" "last" "I", Cond.fieldLink RX6 29 "SlipBench$Search" "anyEnd" "Z", Cond.fieldLink RX6 9 "SlipBench$Search" "rests" "[J", Cond.fieldLink RX6 90 "SlipBench$Ground" "columns" "[LSlipBench$Column;", Cond.fieldLink RX6 94 "SlipBench$Column" "tall" "I", Cond.methodLink RX6 80 yX6_clearRests, Cond.instanceMethod yX6_clearRests, Cond.selects RX6 yX6_clearRests yX6_clearRests, Cond.code yX6_clearRests cX6_clearRests 3 none, Cond.constantLong RX6 99 (4611686018427387904), Cond.methodLink RX6 84 yX6_allowEnd, Cond.instanceMethod yX6_allowEnd, Cond.selects RX6 yX6_allowEnd yX6_allowEnd, Cond.code yX6_allowEnd cX6_allowEnd 3 none]
def wsX7_standsRisen_r5 : List Cond := [Cond.methodLink RX6 101 Lib.MathLoose.min_long.x, Cond.static Lib.MathLoose.min_long.x, Cond.code Lib.MathLoose.min_long.x Lib.MathLoose.min_long.code 4 (some .long), Cond.methodLink RX6 87 yX6_weighColumn, Cond.instanceMethod yX6_weighColumn, Cond.selects RX6 yX6_weighColumn yX6_weighColumn, Cond.code yX6_weighColumn cX6_weighColumn 10 none, Cond.methodLink RX6 107 yX1_holdsAt, Cond.instanceMethod yX1_holdsAt, Cond.selects RX1 yX1_holdsAt yX1_holdsAt, Cond.code yX1_holdsAt cX1_holdsAt 3 (some .int), Cond.methodLink RX6 111 yX1_drivesFrom, Cond.instanceMethod yX1_drivesFrom, Cond.selects RX1 yX1_drivesFrom yX1_drivesFrom, Cond.code yX1_drivesFrom cX1_drivesFrom 3 (some .int), Cond.methodLink RX6 114 yX6_better, Cond.instanceMethod yX6_better, Cond.selects RX6 yX6_better yX6_better, Cond.code yX6_better cX6_better 8 none, Cond.methodLink RX6 50 yX6_leastStart, Cond.instanceMethod yX6_leastStart, Cond.selects RX6 yX6_leastStart yX6_leastStart, Cond.code yX6_leastStart cX6_leastStart 3 (some .int)]
def wsX7_standsRisen : List Cond := .code yX7_standsRisen cX7_standsRisen 4 (some .boolean) :: ((wsX7_standsRisen_r1 ++ (wsX7_standsRisen_r2 ++ (wsX7_standsRisen_r3 ++ (wsX7_standsRisen_r4 ++ wsX7_standsRisen_r5)))) ++ wsX70 ++ wsX40 ++ wsX10 ++ wsX20 ++ wsX60)
def wsX7_rise_r1 : List Cond := [Cond.fieldLink RX7 21 "SlipBench" "ground" "LSlipBench$Ground;", Cond.methodLink RX7 201 yX7_isRatio, Cond.static yX7_isRatio, Cond.initialized RX7, Cond.code yX7_isRatio cX7_isRatio 2 (some .boolean), Cond.methodLink RX7 97 yX7_within, Cond.static yX7_within, Cond.code yX7_within cX7_within 3 (some .boolean), Cond.methodLink RX7 205 yX4_reckon, Cond.instanceMethod yX4_reckon, Cond.selects RX4 yX4_reckon yX4_reckon, Cond.initialized RX4, Cond.code yX4_reckon cX4_reckon 2 none, Cond.fieldLink RX4 17 "SlipBench$Ground" "width" "I", Cond.fieldLink RX4 11 "SlipBench$Ground" "columns" "[LSlipBench$Column;", Cond.methodLink RX4 43 yX1_reckon, Cond.instanceMethod yX1_reckon, Cond.selects RX1 yX1_reckon yX1_reckon, Cond.initialized RX1, Cond.code yX1_reckon cX1_reckon 3 none, Cond.fieldLink RX1 31 "SlipBench$Column" "reckoned" "Z", Cond.fieldLink RX1 24 "SlipBench$Column" "presses" "[I", Cond.fieldLink RX1 9 "SlipBench$Column" "tall" "I", Cond.fieldLink RX1 18 "SlipBench$Column" "load" "I"]
def wsX7_rise_r2 : List Cond := [Cond.fieldLink RX1 35 "SlipBench$Column" "earths" "LSlipBench$Earths;", Cond.fieldLink RX1 54 "SlipBench$Earths" "weights" "[I", Cond.fieldLink RX1 39 "SlipBench$Column" "cells" "[I", Cond.fieldLink RX1 28 "SlipBench$Column" "holds" "[I", Cond.methodLink RX1 59 yX1_reckonHolds, Cond.instanceMethod yX1_reckonHolds, Cond.selects RX1 yX1_reckonHolds yX1_reckonHolds, Cond.code yX1_reckonHolds cX1_reckonHolds 8 (some .int), Cond.fieldLink RX1 62 "SlipBench$Earths" "rocks" "[Z", Cond.fieldLink RX1 15 "SlipBench$Column" "water" "I", Cond.methodLink RX1 66 Lib.Math.max.name, Cond.static Lib.Math.max.name, Cond.initialized "java/lang/Math", Cond.code Lib.Math.max.name Lib.Math.max.code 2 (some .int), Cond.fieldLink RX1 69 "SlipBench$Earths" "rubs" "[I", Cond.fieldLink RX1 72 "SlipBench$Earths" "holds" "[I", Cond.fieldLink RX1 21 "SlipBench$Column" "nails" "I", Cond.methodLink RX7 208 yX7_standsRisen, Cond.instanceMethod yX7_standsRisen, Cond.selects RX7 yX7_standsRisen yX7_standsRisen, Cond.code yX7_standsRisen cX7_standsRisen 4 (some .boolean), Cond.fieldLink RX7 28 "SlipBench" "trial" "LSlipBench$Ground;", Cond.fieldLink RX7 41 "SlipBench" "search" "LSlipBench$Search;", Cond.methodLink RX7 247 yX4_copy]
def wsX7_rise_r3 : List Cond := [Cond.instanceMethod yX4_copy, Cond.selects RX4 yX4_copy yX4_copy, Cond.code yX4_copy cX4_copy 3 none, Cond.methodLink RX4 39 yX1_copy, Cond.instanceMethod yX1_copy, Cond.selects RX1 yX1_copy yX1_copy, Cond.code yX1_copy cX1_copy 2 none, Cond.methodLink RX1 42 arraycopyName, Cond.native arraycopyName, Cond.static arraycopyName, Cond.initialized "java/lang/System", Cond.methodLink RX7 250 yX4_raiseWater, Cond.instanceMethod yX4_raiseWater, Cond.selects RX4 yX4_raiseWater yX4_raiseWater, Cond.code yX4_raiseWater cX4_raiseWater 3 none, Cond.fieldLink RX4 46 "SlipBench$Column" "water" "I", Cond.methodLink RX4 49 Lib.Math.min.name, Cond.static Lib.Math.min.name, Cond.code Lib.Math.min.name Lib.Math.min.code 2 (some .int), Cond.methodLink RX4 55 yX1_put, Cond.instanceMethod yX1_put, Cond.selects RX1 yX1_put yX1_put, Cond.code yX1_put cX1_put 3 none, Cond.methodLink RX7 236 yX6_study]
def wsX7_rise_r4 : List Cond := [Cond.instanceMethod yX6_study, Cond.selects RX6 yX6_study yX6_study, Cond.initialized RX6, Cond.code yX6_study cX6_study 2 none, Cond.fieldLink RX6 33 "SlipBench$Search" "studied" "LSlipBench$Ground;", Cond.methodLink RX7 253 yX6_stands, Cond.instanceMethod yX6_stands, Cond.selects RX6 yX6_stands yX6_stands, Cond.code yX6_stands cX6_stands 5 (some .boolean), Cond.fieldLink RX6 41 "SlipBench$Ground" "width" "I", Cond.fieldLink RX6 15 "SlipBench$Search" "wholes" "[J", Cond.methodLink RX6 37 yX6_aim, Cond.instanceMethod yX6_aim, Cond.selects RX6 yX6_aim yX6_aim, Cond.code yX6_aim cX6_aim 5 none, Cond.fieldLink RX6 18 "SlipBench$Search" "p" "J", Cond.fieldLink RX6 22 "SlipBench$Search" "q" "J", Cond.methodLink RX6 46 yX6_weigh, Cond.instanceMethod yX6_weigh, Cond.selects RX6 yX6_weigh yX6_weigh, Cond.code yX6_weigh cX6_weigh 5 none, Cond.fieldLink RX6 25 "SlipBench$Search" "last" "I", Cond.fieldLink RX6 29 "SlipBench$Search" "anyEnd" "Z", Cond.fieldLink RX6 9 "SlipBench$Search" "rests" "[J"]
def wsX7_rise_r5 : List Cond := [Cond.fieldLink RX6 90 "SlipBench$Ground" "columns" "[LSlipBench$Column;", Cond.fieldLink RX6 94 "SlipBench$Column" "tall" "I", Cond.methodLink RX6 80 yX6_clearRests, Cond.instanceMethod yX6_clearRests, Cond.selects RX6 yX6_clearRests yX6_clearRests, Cond.code yX6_clearRests cX6_clearRests 3 none, Cond.constantLong RX6 99 (4611686018427387904), Cond.methodLink RX6 84 yX6_allowEnd, Cond.instanceMethod yX6_allowEnd, Cond.selects RX6 yX6_allowEnd yX6_allowEnd, Cond.code yX6_allowEnd cX6_allowEnd 3 none, Cond.methodLink RX6 101 Lib.MathLoose.min_long.x, Cond.static Lib.MathLoose.min_long.x, Cond.code Lib.MathLoose.min_long.x Lib.MathLoose.min_long.code 4 (some .long), Cond.methodLink RX6 87 yX6_weighColumn, Cond.instanceMethod yX6_weighColumn, Cond.selects RX6 yX6_weighColumn yX6_weighColumn, Cond.code yX6_weighColumn cX6_weighColumn 10 none, Cond.methodLink RX6 107 yX1_holdsAt, Cond.instanceMethod yX1_holdsAt, Cond.selects RX1 yX1_holdsAt yX1_holdsAt, Cond.code yX1_holdsAt cX1_holdsAt 3 (some .int), Cond.methodLink RX6 111 yX1_drivesFrom, Cond.instanceMethod yX1_drivesFrom]
def wsX7_rise_r6 : List Cond := [Cond.selects RX1 yX1_drivesFrom yX1_drivesFrom, Cond.code yX1_drivesFrom cX1_drivesFrom 3 (some .int), Cond.methodLink RX6 114 yX6_better, Cond.instanceMethod yX6_better, Cond.selects RX6 yX6_better yX6_better, Cond.code yX6_better cX6_better 8 none, Cond.methodLink RX6 50 yX6_leastStart, Cond.instanceMethod yX6_leastStart, Cond.selects RX6 yX6_leastStart yX6_leastStart, Cond.code yX6_leastStart cX6_leastStart 3 (some .int)]
def wsX7_rise : List Cond := .code yX7_rise cX7_rise 5 (some .int) :: ((wsX7_rise_r1 ++ (wsX7_rise_r2 ++ (wsX7_rise_r3 ++ (wsX7_rise_r4 ++ (wsX7_rise_r5 ++ wsX7_rise_r6))))) ++ wsX70 ++ wsX40 ++ wsX10 ++ wsX20 ++ wsX60)
def wsX7_act : List Cond := .code yX7_act cX7_act 5 (some .int) :: ([.fieldLink RX7 21 "SlipBench" "ground" "LSlipBench$Ground;", .fieldLink RX7 34 "SlipBench" "acts" "LSlipBench$Acts;", .methodLink RX7 97 yX7_within, .static yX7_within, .initialized RX7, .code yX7_within cX7_within 3 (some .boolean), .methodLink RX7 105 yX4_has, .instanceMethod yX4_has, .selects RX4 yX4_has yX4_has, .initialized RX4, .code yX4_has cX4_has 2 (some .boolean), .fieldLink RX4 17 "SlipBench$Ground" "width" "I", .methodLink RX7 211 yX0_add, .instanceMethod yX0_add, .selects RX0 yX0_add yX0_add, .initialized RX0, .code yX0_add cX0_add 4 (some .int), .fieldLink RX0 9 "SlipBench$Acts" "size" "I", .fieldLink RX0 15 "SlipBench$Acts" "kinds" "[I", .fieldLink RX0 19 "SlipBench$Acts" "places" "[I", .fieldLink RX0 22 "SlipBench$Acts" "amounts" "[I"] ++ wsX70 ++ wsX40 ++ wsX00)
def wsX7_perform_r1 : List Cond := [Cond.fieldLink RX7 34 "SlipBench" "acts" "LSlipBench$Acts;", Cond.fieldLink RX7 21 "SlipBench" "ground" "LSlipBench$Ground;", Cond.fieldLink RX7 80 "SlipBench" "worstKnown" "Z", Cond.methodLink RX7 214 yX0_has, Cond.instanceMethod yX0_has, Cond.selects RX0 yX0_has yX0_has, Cond.initialized RX0, Cond.code yX0_has cX0_has 2 (some .boolean), Cond.fieldLink RX0 9 "SlipBench$Acts" "size" "I", Cond.static yX7_within, Cond.initialized RX7, Cond.code yX7_within cX7_within 3 (some .boolean), Cond.methodLink RX7 215 yX0_doOn, Cond.instanceMethod yX0_doOn, Cond.selects RX0 yX0_doOn yX0_doOn, Cond.code yX0_doOn cX0_doOn 5 none, Cond.fieldLink RX0 19 "SlipBench$Acts" "places" "[I", Cond.fieldLink RX0 36 "SlipBench$Ground" "columns" "[LSlipBench$Column;", Cond.fieldLink RX0 22 "SlipBench$Acts" "amounts" "[I", Cond.fieldLink RX0 15 "SlipBench$Acts" "kinds" "[I", Cond.fieldLink RX0 46 "SlipBench$Column" "nails" "I", Cond.methodLink RX0 49 Lib.Math.min.name, Cond.static Lib.Math.min.name, Cond.initialized "java/lang/Math"]
def wsX7_perform_r2 : List Cond := [Cond.code Lib.Math.min.name Lib.Math.min.code 2 (some .int), Cond.fieldLink RX0 59 "SlipBench$Column" "water" "I", Cond.fieldLink RX0 62 "SlipBench$Column" "load" "I", Cond.methodLink RX0 29 yX0_has, Cond.methodLink RX0 33 yX4_has, Cond.instanceMethod yX4_has, Cond.selects RX4 yX4_has yX4_has, Cond.initialized RX4, Cond.code yX4_has cX4_has 2 (some .boolean), Cond.fieldLink RX4 17 "SlipBench$Ground" "width" "I", Cond.methodLink RX0 40 yX1_digTo, Cond.instanceMethod yX1_digTo, Cond.selects RX1 yX1_digTo yX1_digTo, Cond.initialized RX1, Cond.code yX1_digTo cX1_digTo 2 none, Cond.fieldLink RX1 9 "SlipBench$Column" "tall" "I", Cond.methodLink RX1 48 Lib.Math.min.name, Cond.fieldLink RX1 31 "SlipBench$Column" "reckoned" "Z", Cond.methodLink RX0 55 yX1_put, Cond.instanceMethod yX1_put, Cond.selects RX1 yX1_put yX1_put, Cond.code yX1_put cX1_put 3 none, Cond.fieldLink RX1 15 "SlipBench$Column" "water" "I", Cond.fieldLink RX1 18 "SlipBench$Column" "load" "I"]
def wsX7_perform_r3 : List Cond := [Cond.fieldLink RX1 21 "SlipBench$Column" "nails" "I"]
def wsX7_perform : List Cond := .code yX7_perform cX7_perform 2 (some .boolean) :: ((wsX7_perform_r1 ++ (wsX7_perform_r2 ++ wsX7_perform_r3)) ++ wsX70 ++ wsX00 ++ wsX40 ++ wsX10)
def wsX7_standsBehind_r1 : List Cond := [Cond.fieldLink RX7 28 "SlipBench" "trial" "LSlipBench$Ground;", Cond.fieldLink RX7 21 "SlipBench" "ground" "LSlipBench$Ground;", Cond.fieldLink RX7 34 "SlipBench" "acts" "LSlipBench$Acts;", Cond.fieldLink RX7 91 "SlipBench$Acts" "size" "I", Cond.fieldLink RX7 41 "SlipBench" "search" "LSlipBench$Search;", Cond.methodLink RX7 247 yX4_copy, Cond.instanceMethod yX4_copy, Cond.selects RX4 yX4_copy yX4_copy, Cond.initialized RX4, Cond.code yX4_copy cX4_copy 3 none, Cond.fieldLink RX4 17 "SlipBench$Ground" "width" "I", Cond.fieldLink RX4 11 "SlipBench$Ground" "columns" "[LSlipBench$Column;", Cond.methodLink RX4 39 yX1_copy, Cond.instanceMethod yX1_copy, Cond.selects RX1 yX1_copy yX1_copy, Cond.initialized RX1, Cond.code yX1_copy cX1_copy 2 none, Cond.fieldLink RX1 9 "SlipBench$Column" "tall" "I", Cond.fieldLink RX1 15 "SlipBench$Column" "water" "I", Cond.fieldLink RX1 18 "SlipBench$Column" "load" "I", Cond.fieldLink RX1 21 "SlipBench$Column" "nails" "I", Cond.fieldLink RX1 24 "SlipBench$Column" "presses" "[I", Cond.methodLink RX1 42 arraycopyName, Cond.native arraycopyName]
def wsX7_standsBehind_r2 : List Cond := [Cond.static arraycopyName, Cond.initialized "java/lang/System", Cond.fieldLink RX1 28 "SlipBench$Column" "holds" "[I", Cond.fieldLink RX1 31 "SlipBench$Column" "reckoned" "Z", Cond.methodLink RX7 215 yX0_doOn, Cond.instanceMethod yX0_doOn, Cond.selects RX0 yX0_doOn yX0_doOn, Cond.initialized RX0, Cond.code yX0_doOn cX0_doOn 5 none, Cond.fieldLink RX0 19 "SlipBench$Acts" "places" "[I", Cond.fieldLink RX0 36 "SlipBench$Ground" "columns" "[LSlipBench$Column;", Cond.fieldLink RX0 22 "SlipBench$Acts" "amounts" "[I", Cond.fieldLink RX0 15 "SlipBench$Acts" "kinds" "[I", Cond.fieldLink RX0 46 "SlipBench$Column" "nails" "I", Cond.methodLink RX0 49 Lib.Math.min.name, Cond.static Lib.Math.min.name, Cond.initialized "java/lang/Math", Cond.code Lib.Math.min.name Lib.Math.min.code 2 (some .int), Cond.fieldLink RX0 59 "SlipBench$Column" "water" "I", Cond.fieldLink RX0 62 "SlipBench$Column" "load" "I", Cond.methodLink RX0 29 yX0_has, Cond.instanceMethod yX0_has, Cond.selects RX0 yX0_has yX0_has, Cond.code yX0_has cX0_has 2 (some .boolean)]
def wsX7_standsBehind_r3 : List Cond := [Cond.fieldLink RX0 9 "SlipBench$Acts" "size" "I", Cond.static yX7_within, Cond.initialized RX7, Cond.code yX7_within cX7_within 3 (some .boolean), Cond.methodLink RX0 33 yX4_has, Cond.instanceMethod yX4_has, Cond.selects RX4 yX4_has yX4_has, Cond.code yX4_has cX4_has 2 (some .boolean), Cond.methodLink RX0 40 yX1_digTo, Cond.instanceMethod yX1_digTo, Cond.selects RX1 yX1_digTo yX1_digTo, Cond.code yX1_digTo cX1_digTo 2 none, Cond.methodLink RX1 48 Lib.Math.min.name, Cond.methodLink RX0 55 yX1_put, Cond.instanceMethod yX1_put, Cond.selects RX1 yX1_put yX1_put, Cond.code yX1_put cX1_put 3 none, Cond.methodLink RX7 205 yX4_reckon, Cond.instanceMethod yX4_reckon, Cond.selects RX4 yX4_reckon yX4_reckon, Cond.code yX4_reckon cX4_reckon 2 none, Cond.methodLink RX4 43 yX1_reckon, Cond.instanceMethod yX1_reckon, Cond.selects RX1 yX1_reckon yX1_reckon]
def wsX7_standsBehind_r4 : List Cond := [Cond.code yX1_reckon cX1_reckon 3 none, Cond.fieldLink RX1 35 "SlipBench$Column" "earths" "LSlipBench$Earths;", Cond.fieldLink RX1 54 "SlipBench$Earths" "weights" "[I", Cond.fieldLink RX1 39 "SlipBench$Column" "cells" "[I", Cond.methodLink RX1 59 yX1_reckonHolds, Cond.instanceMethod yX1_reckonHolds, Cond.selects RX1 yX1_reckonHolds yX1_reckonHolds, Cond.code yX1_reckonHolds cX1_reckonHolds 8 (some .int), Cond.fieldLink RX1 62 "SlipBench$Earths" "rocks" "[Z", Cond.methodLink RX1 66 Lib.Math.max.name, Cond.static Lib.Math.max.name, Cond.code Lib.Math.max.name Lib.Math.max.code 2 (some .int), Cond.fieldLink RX1 69 "SlipBench$Earths" "rubs" "[I", Cond.fieldLink RX1 72 "SlipBench$Earths" "holds" "[I", Cond.methodLink RX7 236 yX6_study, Cond.instanceMethod yX6_study, Cond.selects RX6 yX6_study yX6_study, Cond.initialized RX6, Cond.code yX6_study cX6_study 2 none, Cond.fieldLink RX6 33 "SlipBench$Search" "studied" "LSlipBench$Ground;", Cond.methodLink RX7 253 yX6_stands, Cond.instanceMethod yX6_stands, Cond.selects RX6 yX6_stands yX6_stands, Cond.code yX6_stands cX6_stands 5 (some .boolean)]
def wsX7_standsBehind_r5 : List Cond := [Cond.fieldLink RX6 41 "SlipBench$Ground" "width" "I", Cond.fieldLink RX6 15 "SlipBench$Search" "wholes" "[J", Cond.methodLink RX6 37 yX6_aim, Cond.instanceMethod yX6_aim, Cond.selects RX6 yX6_aim yX6_aim, Cond.code yX6_aim cX6_aim 5 none, Cond.fieldLink RX6 18 "SlipBench$Search" "p" "J", Cond.fieldLink RX6 22 "SlipBench$Search" "q" "J", Cond.methodLink RX6 46 yX6_weigh, Cond.instanceMethod yX6_weigh, Cond.selects RX6 yX6_weigh yX6_weigh, Cond.code yX6_weigh cX6_weigh 5 none, Cond.fieldLink RX6 25 "SlipBench$Search" "last" "I", Cond.fieldLink RX6 29 "SlipBench$Search" "anyEnd" "Z", Cond.fieldLink RX6 9 "SlipBench$Search" "rests" "[J", Cond.fieldLink RX6 90 "SlipBench$Ground" "columns" "[LSlipBench$Column;", Cond.fieldLink RX6 94 "SlipBench$Column" "tall" "I", Cond.methodLink RX6 80 yX6_clearRests, Cond.instanceMethod yX6_clearRests, Cond.selects RX6 yX6_clearRests yX6_clearRests, Cond.code yX6_clearRests cX6_clearRests 3 none, Cond.constantLong RX6 99 (4611686018427387904), Cond.methodLink RX6 84 yX6_allowEnd, Cond.instanceMethod yX6_allowEnd]
def wsX7_standsBehind_r6 : List Cond := [Cond.selects RX6 yX6_allowEnd yX6_allowEnd, Cond.code yX6_allowEnd cX6_allowEnd 3 none, Cond.methodLink RX6 101 Lib.MathLoose.min_long.x, Cond.static Lib.MathLoose.min_long.x, Cond.code Lib.MathLoose.min_long.x Lib.MathLoose.min_long.code 4 (some .long), Cond.methodLink RX6 87 yX6_weighColumn, Cond.instanceMethod yX6_weighColumn, Cond.selects RX6 yX6_weighColumn yX6_weighColumn, Cond.code yX6_weighColumn cX6_weighColumn 10 none, Cond.methodLink RX6 107 yX1_holdsAt, Cond.instanceMethod yX1_holdsAt, Cond.selects RX1 yX1_holdsAt yX1_holdsAt, Cond.code yX1_holdsAt cX1_holdsAt 3 (some .int), Cond.methodLink RX6 111 yX1_drivesFrom, Cond.instanceMethod yX1_drivesFrom, Cond.selects RX1 yX1_drivesFrom yX1_drivesFrom, Cond.code yX1_drivesFrom cX1_drivesFrom 3 (some .int), Cond.methodLink RX6 114 yX6_better, Cond.instanceMethod yX6_better, Cond.selects RX6 yX6_better yX6_better, Cond.code yX6_better cX6_better 8 none, Cond.methodLink RX6 50 yX6_leastStart, Cond.instanceMethod yX6_leastStart, Cond.selects RX6 yX6_leastStart yX6_leastStart]
def wsX7_standsBehind_r7 : List Cond := [Cond.code yX6_leastStart cX6_leastStart 3 (some .int)]
def wsX7_standsBehind : List Cond := .code yX7_standsBehind cX7_standsBehind 5 (some .boolean) :: ((wsX7_standsBehind_r1 ++ (wsX7_standsBehind_r2 ++ (wsX7_standsBehind_r3 ++ (wsX7_standsBehind_r4 ++ (wsX7_standsBehind_r5 ++ (wsX7_standsBehind_r6 ++ wsX7_standsBehind_r7)))))) ++ wsX70 ++ wsX00 ++ wsX40 ++ wsX10 ++ wsX20 ++ wsX60)
def wsX7_leadsOn_r1 : List Cond := [Cond.fieldLink RX7 34 "SlipBench" "acts" "LSlipBench$Acts;", Cond.fieldLink RX7 91 "SlipBench$Acts" "size" "I", Cond.fieldLink RX7 65 "SlipBench" "dead" "[Z", Cond.fieldLink RX7 69 "SlipBench" "tried" "[I", Cond.methodLink RX7 219 yX7_standsBehind, Cond.instanceMethod yX7_standsBehind, Cond.selects RX7 yX7_standsBehind yX7_standsBehind, Cond.initialized RX7, Cond.code yX7_standsBehind cX7_standsBehind 5 (some .boolean), Cond.fieldLink RX7 28 "SlipBench" "trial" "LSlipBench$Ground;", Cond.fieldLink RX7 21 "SlipBench" "ground" "LSlipBench$Ground;", Cond.fieldLink RX7 41 "SlipBench" "search" "LSlipBench$Search;", Cond.methodLink RX7 247 yX4_copy, Cond.instanceMethod yX4_copy, Cond.selects RX4 yX4_copy yX4_copy, Cond.initialized RX4, Cond.code yX4_copy cX4_copy 3 none, Cond.fieldLink RX4 17 "SlipBench$Ground" "width" "I", Cond.fieldLink RX4 11 "SlipBench$Ground" "columns" "[LSlipBench$Column;", Cond.methodLink RX4 39 yX1_copy, Cond.instanceMethod yX1_copy, Cond.selects RX1 yX1_copy yX1_copy, Cond.initialized RX1, Cond.code yX1_copy cX1_copy 2 none]
def wsX7_leadsOn_r2 : List Cond := [Cond.fieldLink RX1 9 "SlipBench$Column" "tall" "I", Cond.fieldLink RX1 15 "SlipBench$Column" "water" "I", Cond.fieldLink RX1 18 "SlipBench$Column" "load" "I", Cond.fieldLink RX1 21 "SlipBench$Column" "nails" "I", Cond.fieldLink RX1 24 "SlipBench$Column" "presses" "[I", Cond.methodLink RX1 42 arraycopyName, Cond.native arraycopyName, Cond.static arraycopyName, Cond.initialized "java/lang/System", Cond.fieldLink RX1 28 "SlipBench$Column" "holds" "[I", Cond.fieldLink RX1 31 "SlipBench$Column" "reckoned" "Z", Cond.methodLink RX7 215 yX0_doOn, Cond.instanceMethod yX0_doOn, Cond.selects RX0 yX0_doOn yX0_doOn, Cond.initialized RX0, Cond.code yX0_doOn cX0_doOn 5 none, Cond.fieldLink RX0 19 "SlipBench$Acts" "places" "[I", Cond.fieldLink RX0 36 "SlipBench$Ground" "columns" "[LSlipBench$Column;", Cond.fieldLink RX0 22 "SlipBench$Acts" "amounts" "[I", Cond.fieldLink RX0 15 "SlipBench$Acts" "kinds" "[I", Cond.fieldLink RX0 46 "SlipBench$Column" "nails" "I", Cond.methodLink RX0 49 Lib.Math.min.name, Cond.static Lib.Math.min.name, Cond.initialized "java/lang/Math"]
def wsX7_leadsOn_r3 : List Cond := [Cond.code Lib.Math.min.name Lib.Math.min.code 2 (some .int), Cond.fieldLink RX0 59 "SlipBench$Column" "water" "I", Cond.fieldLink RX0 62 "SlipBench$Column" "load" "I", Cond.methodLink RX0 29 yX0_has, Cond.instanceMethod yX0_has, Cond.selects RX0 yX0_has yX0_has, Cond.code yX0_has cX0_has 2 (some .boolean), Cond.fieldLink RX0 9 "SlipBench$Acts" "size" "I", Cond.static yX7_within, Cond.code yX7_within cX7_within 3 (some .boolean), Cond.methodLink RX0 33 yX4_has, Cond.instanceMethod yX4_has, Cond.selects RX4 yX4_has yX4_has, Cond.code yX4_has cX4_has 2 (some .boolean), Cond.methodLink RX0 40 yX1_digTo, Cond.instanceMethod yX1_digTo, Cond.selects RX1 yX1_digTo yX1_digTo, Cond.code yX1_digTo cX1_digTo 2 none, Cond.methodLink RX1 48 Lib.Math.min.name, Cond.methodLink RX0 55 yX1_put, Cond.instanceMethod yX1_put, Cond.selects RX1 yX1_put yX1_put, Cond.code yX1_put cX1_put 3 none, Cond.methodLink RX7 205 yX4_reckon]
def wsX7_leadsOn_r4 : List Cond := [Cond.instanceMethod yX4_reckon, Cond.selects RX4 yX4_reckon yX4_reckon, Cond.code yX4_reckon cX4_reckon 2 none, Cond.methodLink RX4 43 yX1_reckon, Cond.instanceMethod yX1_reckon, Cond.selects RX1 yX1_reckon yX1_reckon, Cond.code yX1_reckon cX1_reckon 3 none, Cond.fieldLink RX1 35 "SlipBench$Column" "earths" "LSlipBench$Earths;", Cond.fieldLink RX1 54 "SlipBench$Earths" "weights" "[I", Cond.fieldLink RX1 39 "SlipBench$Column" "cells" "[I", Cond.methodLink RX1 59 yX1_reckonHolds, Cond.instanceMethod yX1_reckonHolds, Cond.selects RX1 yX1_reckonHolds yX1_reckonHolds, Cond.code yX1_reckonHolds cX1_reckonHolds 8 (some .int), Cond.fieldLink RX1 62 "SlipBench$Earths" "rocks" "[Z", Cond.methodLink RX1 66 Lib.Math.max.name, Cond.static Lib.Math.max.name, Cond.code Lib.Math.max.name Lib.Math.max.code 2 (some .int), Cond.fieldLink RX1 69 "SlipBench$Earths" "rubs" "[I", Cond.fieldLink RX1 72 "SlipBench$Earths" "holds" "[I", Cond.methodLink RX7 236 yX6_study, Cond.instanceMethod yX6_study, Cond.selects RX6 yX6_study yX6_study, Cond.initialized RX6]
def wsX7_leadsOn_r5 : List Cond := [Cond.code yX6_study cX6_study 2 none, Cond.fieldLink RX6 33 "SlipBench$Search" "studied" "LSlipBench$Ground;", Cond.methodLink RX7 253 yX6_stands, Cond.instanceMethod yX6_stands, Cond.selects RX6 yX6_stands yX6_stands, Cond.code yX6_stands cX6_stands 5 (some .boolean), Cond.fieldLink RX6 41 "SlipBench$Ground" "width" "I", Cond.fieldLink RX6 15 "SlipBench$Search" "wholes" "[J", Cond.methodLink RX6 37 yX6_aim, Cond.instanceMethod yX6_aim, Cond.selects RX6 yX6_aim yX6_aim, Cond.code yX6_aim cX6_aim 5 none, Cond.fieldLink RX6 18 "SlipBench$Search" "p" "J", Cond.fieldLink RX6 22 "SlipBench$Search" "q" "J", Cond.methodLink RX6 46 yX6_weigh, Cond.instanceMethod yX6_weigh, Cond.selects RX6 yX6_weigh yX6_weigh, Cond.code yX6_weigh cX6_weigh 5 none, Cond.fieldLink RX6 25 "SlipBench$Search" "last" "I", Cond.fieldLink RX6 29 "SlipBench$Search" "anyEnd" "Z", Cond.fieldLink RX6 9 "SlipBench$Search" "rests" "[J", Cond.fieldLink RX6 90 "SlipBench$Ground" "columns" "[LSlipBench$Column;", Cond.fieldLink RX6 94 "SlipBench$Column" "tall" "I", Cond.methodLink RX6 80 yX6_clearRests]
def wsX7_leadsOn_r6 : List Cond := [Cond.instanceMethod yX6_clearRests, Cond.selects RX6 yX6_clearRests yX6_clearRests, Cond.code yX6_clearRests cX6_clearRests 3 none, Cond.constantLong RX6 99 (4611686018427387904), Cond.methodLink RX6 84 yX6_allowEnd, Cond.instanceMethod yX6_allowEnd, Cond.selects RX6 yX6_allowEnd yX6_allowEnd, Cond.code yX6_allowEnd cX6_allowEnd 3 none, Cond.methodLink RX6 101 Lib.MathLoose.min_long.x, Cond.static Lib.MathLoose.min_long.x, Cond.code Lib.MathLoose.min_long.x Lib.MathLoose.min_long.code 4 (some .long), Cond.methodLink RX6 87 yX6_weighColumn, Cond.instanceMethod yX6_weighColumn, Cond.selects RX6 yX6_weighColumn yX6_weighColumn, Cond.code yX6_weighColumn cX6_weighColumn 10 none, Cond.methodLink RX6 107 yX1_holdsAt, Cond.instanceMethod yX1_holdsAt, Cond.selects RX1 yX1_holdsAt yX1_holdsAt, Cond.code yX1_holdsAt cX1_holdsAt 3 (some .int), Cond.methodLink RX6 111 yX1_drivesFrom, Cond.instanceMethod yX1_drivesFrom, Cond.selects RX1 yX1_drivesFrom yX1_drivesFrom, Cond.code yX1_drivesFrom cX1_drivesFrom 3 (some .int), Cond.methodLink RX6 114 yX6_better]
def wsX7_leadsOn_r7 : List Cond := [Cond.instanceMethod yX6_better, Cond.selects RX6 yX6_better yX6_better, Cond.code yX6_better cX6_better 8 none, Cond.methodLink RX6 50 yX6_leastStart, Cond.instanceMethod yX6_leastStart, Cond.selects RX6 yX6_leastStart yX6_leastStart, Cond.code yX6_leastStart cX6_leastStart 3 (some .int), Cond.methodLink RX7 222 yX7_leadsOn, Cond.instanceMethod yX7_leadsOn, Cond.selects RX7 yX7_leadsOn yX7_leadsOn]
def wsX7_leadsOn : List Cond := .code yX7_leadsOn cX7_leadsOn 8 (some .boolean) :: ((wsX7_leadsOn_r1 ++ (wsX7_leadsOn_r2 ++ (wsX7_leadsOn_r3 ++ (wsX7_leadsOn_r4 ++ (wsX7_leadsOn_r5 ++ (wsX7_leadsOn_r6 ++ wsX7_leadsOn_r7)))))) ++ wsX70 ++ wsX00 ++ wsX40 ++ wsX10 ++ wsX20 ++ wsX60)
def wsX7_order_r1 : List Cond := [Cond.fieldLink RX7 21 "SlipBench" "ground" "LSlipBench$Ground;", Cond.fieldLink RX7 34 "SlipBench" "acts" "LSlipBench$Acts;", Cond.fieldLink RX7 91 "SlipBench$Acts" "size" "I", Cond.fieldLink RX7 65 "SlipBench" "dead" "[Z", Cond.fieldLink RX7 69 "SlipBench" "tried" "[I", Cond.fieldLink RX7 73 "SlipBench" "steps" "[I", Cond.methodLink RX7 226 arraycopyName, Cond.native arraycopyName, Cond.static arraycopyName, Cond.initialized "java/lang/System", Cond.fieldLink RX7 76 "SlipBench" "stepCount" "I", Cond.methodLink RX7 201 yX7_isRatio, Cond.static yX7_isRatio, Cond.initialized RX7, Cond.code yX7_isRatio cX7_isRatio 2 (some .boolean), Cond.methodLink RX7 97 yX7_within, Cond.static yX7_within, Cond.code yX7_within cX7_within 3 (some .boolean), Cond.methodLink RX7 205 yX4_reckon, Cond.instanceMethod yX4_reckon, Cond.selects RX4 yX4_reckon yX4_reckon, Cond.initialized RX4, Cond.code yX4_reckon cX4_reckon 2 none, Cond.fieldLink RX4 17 "SlipBench$Ground" "width" "I"]
def wsX7_order_r2 : List Cond := [Cond.fieldLink RX4 11 "SlipBench$Ground" "columns" "[LSlipBench$Column;", Cond.methodLink RX4 43 yX1_reckon, Cond.instanceMethod yX1_reckon, Cond.selects RX1 yX1_reckon yX1_reckon, Cond.initialized RX1, Cond.code yX1_reckon cX1_reckon 3 none, Cond.fieldLink RX1 31 "SlipBench$Column" "reckoned" "Z", Cond.fieldLink RX1 24 "SlipBench$Column" "presses" "[I", Cond.fieldLink RX1 9 "SlipBench$Column" "tall" "I", Cond.fieldLink RX1 18 "SlipBench$Column" "load" "I", Cond.fieldLink RX1 35 "SlipBench$Column" "earths" "LSlipBench$Earths;", Cond.fieldLink RX1 54 "SlipBench$Earths" "weights" "[I", Cond.fieldLink RX1 39 "SlipBench$Column" "cells" "[I", Cond.fieldLink RX1 28 "SlipBench$Column" "holds" "[I", Cond.methodLink RX1 59 yX1_reckonHolds, Cond.instanceMethod yX1_reckonHolds, Cond.selects RX1 yX1_reckonHolds yX1_reckonHolds, Cond.code yX1_reckonHolds cX1_reckonHolds 8 (some .int), Cond.fieldLink RX1 62 "SlipBench$Earths" "rocks" "[Z", Cond.fieldLink RX1 15 "SlipBench$Column" "water" "I", Cond.methodLink RX1 66 Lib.Math.max.name, Cond.static Lib.Math.max.name, Cond.initialized "java/lang/Math", Cond.code Lib.Math.max.name Lib.Math.max.code 2 (some .int)]
def wsX7_order_r3 : List Cond := [Cond.fieldLink RX1 69 "SlipBench$Earths" "rubs" "[I", Cond.fieldLink RX1 72 "SlipBench$Earths" "holds" "[I", Cond.fieldLink RX1 21 "SlipBench$Column" "nails" "I", Cond.methodLink RX7 219 yX7_standsBehind, Cond.instanceMethod yX7_standsBehind, Cond.selects RX7 yX7_standsBehind yX7_standsBehind, Cond.code yX7_standsBehind cX7_standsBehind 5 (some .boolean), Cond.fieldLink RX7 28 "SlipBench" "trial" "LSlipBench$Ground;", Cond.fieldLink RX7 41 "SlipBench" "search" "LSlipBench$Search;", Cond.methodLink RX7 247 yX4_copy, Cond.instanceMethod yX4_copy, Cond.selects RX4 yX4_copy yX4_copy, Cond.code yX4_copy cX4_copy 3 none, Cond.methodLink RX4 39 yX1_copy, Cond.instanceMethod yX1_copy, Cond.selects RX1 yX1_copy yX1_copy, Cond.code yX1_copy cX1_copy 2 none, Cond.methodLink RX1 42 arraycopyName, Cond.methodLink RX7 215 yX0_doOn, Cond.instanceMethod yX0_doOn, Cond.selects RX0 yX0_doOn yX0_doOn, Cond.initialized RX0, Cond.code yX0_doOn cX0_doOn 5 none, Cond.fieldLink RX0 19 "SlipBench$Acts" "places" "[I"]
def wsX7_order_r4 : List Cond := [Cond.fieldLink RX0 36 "SlipBench$Ground" "columns" "[LSlipBench$Column;", Cond.fieldLink RX0 22 "SlipBench$Acts" "amounts" "[I", Cond.fieldLink RX0 15 "SlipBench$Acts" "kinds" "[I", Cond.fieldLink RX0 46 "SlipBench$Column" "nails" "I", Cond.methodLink RX0 49 Lib.Math.min.name, Cond.static Lib.Math.min.name, Cond.code Lib.Math.min.name Lib.Math.min.code 2 (some .int), Cond.fieldLink RX0 59 "SlipBench$Column" "water" "I", Cond.fieldLink RX0 62 "SlipBench$Column" "load" "I", Cond.methodLink RX0 29 yX0_has, Cond.instanceMethod yX0_has, Cond.selects RX0 yX0_has yX0_has, Cond.code yX0_has cX0_has 2 (some .boolean), Cond.fieldLink RX0 9 "SlipBench$Acts" "size" "I", Cond.methodLink RX0 33 yX4_has, Cond.instanceMethod yX4_has, Cond.selects RX4 yX4_has yX4_has, Cond.code yX4_has cX4_has 2 (some .boolean), Cond.methodLink RX0 40 yX1_digTo, Cond.instanceMethod yX1_digTo, Cond.selects RX1 yX1_digTo yX1_digTo, Cond.code yX1_digTo cX1_digTo 2 none, Cond.methodLink RX1 48 Lib.Math.min.name, Cond.methodLink RX0 55 yX1_put]
def wsX7_order_r5 : List Cond := [Cond.instanceMethod yX1_put, Cond.selects RX1 yX1_put yX1_put, Cond.code yX1_put cX1_put 3 none, Cond.methodLink RX7 236 yX6_study, Cond.instanceMethod yX6_study, Cond.selects RX6 yX6_study yX6_study, Cond.initialized RX6, Cond.code yX6_study cX6_study 2 none, Cond.fieldLink RX6 33 "SlipBench$Search" "studied" "LSlipBench$Ground;", Cond.methodLink RX7 253 yX6_stands, Cond.instanceMethod yX6_stands, Cond.selects RX6 yX6_stands yX6_stands, Cond.code yX6_stands cX6_stands 5 (some .boolean), Cond.fieldLink RX6 41 "SlipBench$Ground" "width" "I", Cond.fieldLink RX6 15 "SlipBench$Search" "wholes" "[J", Cond.methodLink RX6 37 yX6_aim, Cond.instanceMethod yX6_aim, Cond.selects RX6 yX6_aim yX6_aim, Cond.code yX6_aim cX6_aim 5 none, Cond.fieldLink RX6 18 "SlipBench$Search" "p" "J", Cond.fieldLink RX6 22 "SlipBench$Search" "q" "J", Cond.methodLink RX6 46 yX6_weigh, Cond.instanceMethod yX6_weigh, Cond.selects RX6 yX6_weigh yX6_weigh]
def wsX7_order_r6 : List Cond := [Cond.code yX6_weigh cX6_weigh 5 none, Cond.fieldLink RX6 25 "SlipBench$Search" "last" "I", Cond.fieldLink RX6 29 "SlipBench$Search" "anyEnd" "Z", Cond.fieldLink RX6 9 "SlipBench$Search" "rests" "[J", Cond.fieldLink RX6 90 "SlipBench$Ground" "columns" "[LSlipBench$Column;", Cond.fieldLink RX6 94 "SlipBench$Column" "tall" "I", Cond.methodLink RX6 80 yX6_clearRests, Cond.instanceMethod yX6_clearRests, Cond.selects RX6 yX6_clearRests yX6_clearRests, Cond.code yX6_clearRests cX6_clearRests 3 none, Cond.constantLong RX6 99 (4611686018427387904), Cond.methodLink RX6 84 yX6_allowEnd, Cond.instanceMethod yX6_allowEnd, Cond.selects RX6 yX6_allowEnd yX6_allowEnd, Cond.code yX6_allowEnd cX6_allowEnd 3 none, Cond.methodLink RX6 101 Lib.MathLoose.min_long.x, Cond.static Lib.MathLoose.min_long.x, Cond.code Lib.MathLoose.min_long.x Lib.MathLoose.min_long.code 4 (some .long), Cond.methodLink RX6 87 yX6_weighColumn, Cond.instanceMethod yX6_weighColumn, Cond.selects RX6 yX6_weighColumn yX6_weighColumn, Cond.code yX6_weighColumn cX6_weighColumn 10 none, Cond.methodLink RX6 107 yX1_holdsAt, Cond.instanceMethod yX1_holdsAt]
def wsX7_order_r7 : List Cond := [Cond.selects RX1 yX1_holdsAt yX1_holdsAt, Cond.code yX1_holdsAt cX1_holdsAt 3 (some .int), Cond.methodLink RX6 111 yX1_drivesFrom, Cond.instanceMethod yX1_drivesFrom, Cond.selects RX1 yX1_drivesFrom yX1_drivesFrom, Cond.code yX1_drivesFrom cX1_drivesFrom 3 (some .int), Cond.methodLink RX6 114 yX6_better, Cond.instanceMethod yX6_better, Cond.selects RX6 yX6_better yX6_better, Cond.code yX6_better cX6_better 8 none, Cond.methodLink RX6 50 yX6_leastStart, Cond.instanceMethod yX6_leastStart, Cond.selects RX6 yX6_leastStart yX6_leastStart, Cond.code yX6_leastStart cX6_leastStart 3 (some .int), Cond.methodLink RX7 222 yX7_leadsOn, Cond.instanceMethod yX7_leadsOn, Cond.selects RX7 yX7_leadsOn yX7_leadsOn, Cond.code yX7_leadsOn cX7_leadsOn 8 (some .boolean)]
def wsX7_order : List Cond := .code yX7_order cX7_order 5 (some .int) :: ((wsX7_order_r1 ++ (wsX7_order_r2 ++ (wsX7_order_r3 ++ (wsX7_order_r4 ++ (wsX7_order_r5 ++ (wsX7_order_r6 ++ wsX7_order_r7)))))) ++ wsX70 ++ wsX00 ++ wsX40 ++ wsX10 ++ wsX20 ++ wsX60)
def wsX7_step : List Cond := .code yX7_step cX7_step 2 (some .int) :: ([.fieldLink RX7 76 "SlipBench" "stepCount" "I", .fieldLink RX7 73 "SlipBench" "steps" "[I", .methodLink RX7 97 yX7_within, .static yX7_within, .initialized RX7, .code yX7_within cX7_within 3 (some .boolean)] ++ wsX70)
def wsX7_count : List Cond := .code yX7_count cX7_count 2 (some .int) :: ([.fieldLink RX7 21 "SlipBench" "ground" "LSlipBench$Ground;", .fieldLink RX7 158 "SlipBench$Ground" "width" "I", .fieldLink RX7 12 "SlipBench" "earths" "LSlipBench$Earths;", .fieldLink RX7 232 "SlipBench$Earths" "size" "I", .fieldLink RX7 34 "SlipBench" "acts" "LSlipBench$Acts;", .fieldLink RX7 91 "SlipBench$Acts" "size" "I", .methodLink RX7 233 yX4_cellCount, .instanceMethod yX4_cellCount, .selects RX4 yX4_cellCount yX4_cellCount, .initialized RX4, .code yX4_cellCount cX4_cellCount 3 (some .int), .fieldLink RX4 17 "SlipBench$Ground" "width" "I", .fieldLink RX4 11 "SlipBench$Ground" "columns" "[LSlipBench$Column;", .fieldLink RX4 59 "SlipBench$Column" "tall" "I"] ++ wsX70 ++ wsX40 ++ wsX20 ++ wsX00 ++ wsX10)
def wsX8_init_r1 : List Cond := [Cond.methodLink RX8 1 objectInit, Cond.instanceMethod objectInit, Cond.code objectInit ⟨#[0xb1]⟩ 1 none, Cond.fieldLink RX8 7 "SlipBenchModel" "width" "I", Cond.arrayClass .int, Cond.fieldLink RX8 13 "SlipBenchModel" "weight" "[I", Cond.fieldLink RX8 17 "SlipBenchModel" "hold" "[I", Cond.fieldLink RX8 20 "SlipBenchModel" "rub" "[I", Cond.arrayClass .boolean, Cond.fieldLink RX8 23 "SlipBenchModel" "rock" "[Z", Cond.fieldLink RX8 27 "SlipBenchModel" "cells" "[I", Cond.fieldLink RX8 30 "SlipBenchModel" "heights" "[I", Cond.fieldLink RX8 33 "SlipBenchModel" "waters" "[I", Cond.fieldLink RX8 36 "SlipBenchModel" "loads" "[I", Cond.fieldLink RX8 39 "SlipBenchModel" "nails" "[I", Cond.fieldLink RX8 42 "SlipBenchModel" "actKind" "[I", Cond.fieldLink RX8 45 "SlipBenchModel" "actColumn" "[I", Cond.fieldLink RX8 48 "SlipBenchModel" "actN" "[I", Cond.fieldLink RX8 51 "SlipBenchModel" "lineFrom" "I", Cond.fieldLink RX8 54 "SlipBenchModel" "line" "[I", Cond.arrayClass .long, Cond.fieldLink RX8 57 "SlipBenchModel" "sum" "[J", Cond.fieldLink RX8 61 "SlipBenchModel" "drove" "[J", Cond.fieldLink RX8 64 "SlipBenchModel" "held" "[J"]
def wsX8_init_r2 : List Cond := [Cond.fieldLink RX8 67 "SlipBenchModel" "way" "[I", Cond.fieldLink RX8 70 "SlipBenchModel" "row" "[I", Cond.fieldLink RX8 73 "SlipBenchModel" "steps" "[I"]
def wsX8_init : List Cond := .code yX8_init cX8_init 1 none :: ((wsX8_init_r1 ++ wsX8_init_r2) ++ wsX80)
def wsX8_ground : List Cond := .code yX8_ground cX8_ground 3 (some .boolean) :: ([.fieldLink RX8 76 "SlipBenchModel" "thrown" "I", .fieldLink RX8 7 "SlipBenchModel" "width" "I", .fieldLink RX8 30 "SlipBenchModel" "heights" "[I", .fieldLink RX8 33 "SlipBenchModel" "waters" "[I", .fieldLink RX8 36 "SlipBenchModel" "loads" "[I", .fieldLink RX8 39 "SlipBenchModel" "nails" "[I", .fieldLink RX8 79 "SlipBenchModel" "acts" "I", .fieldLink RX8 51 "SlipBenchModel" "lineFrom" "I", .fieldLink RX8 82 "SlipBenchModel" "lineMany" "I"] ++ wsX80)
def wsX8_earth : List Cond := .code yX8_earth cX8_earth 5 (some .int) :: ([.fieldLink RX8 76 "SlipBenchModel" "thrown" "I", .fieldLink RX8 85 "SlipBenchModel" "earths" "I", .fieldLink RX8 13 "SlipBenchModel" "weight" "[I", .fieldLink RX8 17 "SlipBenchModel" "hold" "[I", .fieldLink RX8 20 "SlipBenchModel" "rub" "[I", .fieldLink RX8 23 "SlipBenchModel" "rock" "[Z"] ++ wsX80)
def wsX8_isColumn : List Cond := .code yX8_isColumn cX8_isColumn 2 (some .boolean) :: ([.fieldLink RX8 7 "SlipBenchModel" "width" "I"] ++ wsX80)
def wsX8_lay : List Cond := .code yX8_lay cX8_lay 5 (some .int) :: ([.fieldLink RX8 76 "SlipBenchModel" "thrown" "I", .fieldLink RX8 85 "SlipBenchModel" "earths" "I", .fieldLink RX8 30 "SlipBenchModel" "heights" "[I", .fieldLink RX8 27 "SlipBenchModel" "cells" "[I", .methodLink RX8 88 yX8_isColumn, .instanceMethod yX8_isColumn, .selects RX8 yX8_isColumn yX8_isColumn, .initialized RX8, .code yX8_isColumn cX8_isColumn 2 (some .boolean), .fieldLink RX8 7 "SlipBenchModel" "width" "I"] ++ wsX80)
def wsX8_set : List Cond := .code yX8_set cX8_set 4 (some .boolean) :: ([.fieldLink RX8 76 "SlipBenchModel" "thrown" "I", .fieldLink RX8 33 "SlipBenchModel" "waters" "[I", .fieldLink RX8 36 "SlipBenchModel" "loads" "[I", .fieldLink RX8 39 "SlipBenchModel" "nails" "[I", .methodLink RX8 88 yX8_isColumn, .instanceMethod yX8_isColumn, .selects RX8 yX8_isColumn yX8_isColumn, .initialized RX8, .code yX8_isColumn cX8_isColumn 2 (some .boolean), .fieldLink RX8 7 "SlipBenchModel" "width" "I"] ++ wsX80)
def wsX8_fails : List Cond := .code yX8_fails cX8_fails 2 (some .int) :: ([.fieldLink RX8 76 "SlipBenchModel" "thrown" "I"] ++ wsX80)
def wsX8_look : List Cond := .code yX8_look cX8_look 3 (some .int) :: ([.fieldLink RX8 76 "SlipBenchModel" "thrown" "I", .fieldLink RX8 33 "SlipBenchModel" "waters" "[I", .fieldLink RX8 36 "SlipBenchModel" "loads" "[I", .fieldLink RX8 39 "SlipBenchModel" "nails" "[I", .fieldLink RX8 30 "SlipBenchModel" "heights" "[I", .methodLink RX8 88 yX8_isColumn, .instanceMethod yX8_isColumn, .selects RX8 yX8_isColumn yX8_isColumn, .initialized RX8, .code yX8_isColumn cX8_isColumn 2 (some .boolean), .fieldLink RX8 7 "SlipBenchModel" "width" "I", .methodLink RX8 92 yX8_fails, .instanceMethod yX8_fails, .selects RX8 yX8_fails yX8_fails, .code yX8_fails cX8_fails 2 (some .int)] ++ wsX80)
def wsX8_cell : List Cond := .code yX8_cell cX8_cell 3 (some .int) :: ([.fieldLink RX8 76 "SlipBenchModel" "thrown" "I", .fieldLink RX8 30 "SlipBenchModel" "heights" "[I", .fieldLink RX8 27 "SlipBenchModel" "cells" "[I", .methodLink RX8 88 yX8_isColumn, .instanceMethod yX8_isColumn, .selects RX8 yX8_isColumn yX8_isColumn, .initialized RX8, .code yX8_isColumn cX8_isColumn 2 (some .boolean), .fieldLink RX8 7 "SlipBenchModel" "width" "I"] ++ wsX80)
def wsX8_can : List Cond := .code yX8_can cX8_can 6 (some .boolean) :: ([.fieldLink RX8 30 "SlipBenchModel" "heights" "[I", .fieldLink RX8 96 "SlipBenchModel" "base" "I", .fieldLink RX8 23 "SlipBenchModel" "rock" "[Z", .fieldLink RX8 27 "SlipBenchModel" "cells" "[I"] ++ wsX80)
def wsX8_press : List Cond := .code yX8_press cX8_press 5 (some .int) :: ([.fieldLink RX8 36 "SlipBenchModel" "loads" "[I", .fieldLink RX8 96 "SlipBenchModel" "base" "I", .fieldLink RX8 30 "SlipBenchModel" "heights" "[I", .fieldLink RX8 13 "SlipBenchModel" "weight" "[I", .fieldLink RX8 27 "SlipBenchModel" "cells" "[I"] ++ wsX80)
def wsX8_holds : List Cond := .code yX8_holds cX8_holds 10 (some .long) :: ([.fieldLink RX8 33 "SlipBenchModel" "waters" "[I", .fieldLink RX8 96 "SlipBenchModel" "base" "I", .fieldLink RX8 27 "SlipBenchModel" "cells" "[I", .constantLong RX8 103 (10), .fieldLink RX8 17 "SlipBenchModel" "hold" "[I", .fieldLink RX8 20 "SlipBenchModel" "rub" "[I", .fieldLink RX8 39 "SlipBenchModel" "nails" "[I", .methodLink RX8 99 yX8_press, .instanceMethod yX8_press, .selects RX8 yX8_press yX8_press, .initialized RX8, .code yX8_press cX8_press 5 (some .int), .fieldLink RX8 36 "SlipBenchModel" "loads" "[I", .fieldLink RX8 30 "SlipBenchModel" "heights" "[I", .fieldLink RX8 13 "SlipBenchModel" "weight" "[I"] ++ wsX80)
def wsX8_drives : List Cond := .code yX8_drives cX8_drives 4 (some .long) :: ([.constantLong RX8 103 (10), .methodLink RX8 99 yX8_press, .instanceMethod yX8_press, .selects RX8 yX8_press yX8_press, .initialized RX8, .code yX8_press cX8_press 5 (some .int), .fieldLink RX8 36 "SlipBenchModel" "loads" "[I", .fieldLink RX8 96 "SlipBenchModel" "base" "I", .fieldLink RX8 30 "SlipBenchModel" "heights" "[I", .fieldLink RX8 13 "SlipBenchModel" "weight" "[I", .fieldLink RX8 27 "SlipBenchModel" "cells" "[I"] ++ wsX80)
def wsX8_begin : List Cond := .code yX8_begin cX8_begin 3 (some .boolean) :: ([.fieldLink RX8 76 "SlipBenchModel" "thrown" "I", .fieldLink RX8 51 "SlipBenchModel" "lineFrom" "I", .fieldLink RX8 82 "SlipBenchModel" "lineMany" "I", .fieldLink RX8 54 "SlipBenchModel" "line" "[I", .methodLink RX8 88 yX8_isColumn, .instanceMethod yX8_isColumn, .selects RX8 yX8_isColumn yX8_isColumn, .initialized RX8, .code yX8_isColumn cX8_isColumn 2 (some .boolean), .fieldLink RX8 7 "SlipBenchModel" "width" "I"] ++ wsX80)
def wsX8_next : List Cond := .code yX8_next cX8_next 2 (some .int) :: ([.fieldLink RX8 76 "SlipBenchModel" "thrown" "I", .fieldLink RX8 51 "SlipBenchModel" "lineFrom" "I", .fieldLink RX8 82 "SlipBenchModel" "lineMany" "I", .fieldLink RX8 7 "SlipBenchModel" "width" "I", .fieldLink RX8 54 "SlipBenchModel" "line" "[I"] ++ wsX80)
def wsX8_isLine : List Cond := .code yX8_isLine cX8_isLine 2 (some .boolean) :: ([.fieldLink RX8 51 "SlipBenchModel" "lineFrom" "I", .fieldLink RX8 82 "SlipBenchModel" "lineMany" "I", .fieldLink RX8 54 "SlipBenchModel" "line" "[I", .fieldLink RX8 30 "SlipBenchModel" "heights" "[I", .methodLink RX8 105 yX8_can, .instanceMethod yX8_can, .selects RX8 yX8_can yX8_can, .initialized RX8, .code yX8_can cX8_can 6 (some .boolean), .fieldLink RX8 96 "SlipBenchModel" "base" "I", .fieldLink RX8 23 "SlipBenchModel" "rock" "[Z", .fieldLink RX8 27 "SlipBenchModel" "cells" "[I"] ++ wsX80)
def wsX8_line : List Cond := .code yX8_line cX8_line 1 (some .int) :: ([.fieldLink RX8 76 "SlipBenchModel" "thrown" "I", .methodLink RX8 109 yX8_isLine, .instanceMethod yX8_isLine, .selects RX8 yX8_isLine yX8_isLine, .initialized RX8, .code yX8_isLine cX8_isLine 2 (some .boolean), .fieldLink RX8 51 "SlipBenchModel" "lineFrom" "I", .fieldLink RX8 82 "SlipBenchModel" "lineMany" "I", .fieldLink RX8 54 "SlipBenchModel" "line" "[I", .fieldLink RX8 30 "SlipBenchModel" "heights" "[I", .methodLink RX8 105 yX8_can, .instanceMethod yX8_can, .selects RX8 yX8_can yX8_can, .code yX8_can cX8_can 6 (some .boolean), .fieldLink RX8 96 "SlipBenchModel" "base" "I", .fieldLink RX8 23 "SlipBenchModel" "rock" "[Z", .fieldLink RX8 27 "SlipBenchModel" "cells" "[I"] ++ wsX80)
def wsX8_divisor : List Cond := .code yX8_divisor cX8_divisor 10 (some .long) :: ([])
def wsX8_share_r1 : List Cond := [Cond.fieldLink RX8 76 "SlipBenchModel" "thrown" "I", Cond.fieldLink RX8 82 "SlipBenchModel" "lineMany" "I", Cond.fieldLink RX8 51 "SlipBenchModel" "lineFrom" "I", Cond.fieldLink RX8 54 "SlipBenchModel" "line" "[I", Cond.methodLink RX8 109 yX8_isLine, Cond.instanceMethod yX8_isLine, Cond.selects RX8 yX8_isLine yX8_isLine, Cond.initialized RX8, Cond.code yX8_isLine cX8_isLine 2 (some .boolean), Cond.fieldLink RX8 30 "SlipBenchModel" "heights" "[I", Cond.methodLink RX8 105 yX8_can, Cond.instanceMethod yX8_can, Cond.selects RX8 yX8_can yX8_can, Cond.code yX8_can cX8_can 6 (some .boolean), Cond.fieldLink RX8 96 "SlipBenchModel" "base" "I", Cond.fieldLink RX8 23 "SlipBenchModel" "rock" "[Z", Cond.fieldLink RX8 27 "SlipBenchModel" "cells" "[I", Cond.methodLink RX8 92 yX8_fails, Cond.instanceMethod yX8_fails, Cond.selects RX8 yX8_fails yX8_fails, Cond.code yX8_fails cX8_fails 2 (some .int), Cond.methodLink RX8 113 yX8_holds, Cond.instanceMethod yX8_holds, Cond.selects RX8 yX8_holds yX8_holds]
def wsX8_share_r2 : List Cond := [Cond.code yX8_holds cX8_holds 10 (some .long), Cond.fieldLink RX8 33 "SlipBenchModel" "waters" "[I", Cond.constantLong RX8 103 (10), Cond.fieldLink RX8 17 "SlipBenchModel" "hold" "[I", Cond.fieldLink RX8 20 "SlipBenchModel" "rub" "[I", Cond.fieldLink RX8 39 "SlipBenchModel" "nails" "[I", Cond.methodLink RX8 99 yX8_press, Cond.instanceMethod yX8_press, Cond.selects RX8 yX8_press yX8_press, Cond.code yX8_press cX8_press 5 (some .int), Cond.fieldLink RX8 36 "SlipBenchModel" "loads" "[I", Cond.fieldLink RX8 13 "SlipBenchModel" "weight" "[I", Cond.methodLink RX8 117 yX8_drives, Cond.instanceMethod yX8_drives, Cond.selects RX8 yX8_drives yX8_drives, Cond.code yX8_drives cX8_drives 4 (some .long), Cond.methodLink RX8 120 yX8_divisor, Cond.static yX8_divisor, Cond.code yX8_divisor cX8_divisor 10 (some .long)]
def wsX8_share : List Cond := .code yX8_share cX8_share 8 (some .long) :: ((wsX8_share_r1 ++ wsX8_share_r2) ++ wsX80)
def wsX8_better : List Cond := .code yX8_better cX8_better 8 (some .boolean) :: ([])
def wsX8_walk_r1 : List Cond := [Cond.constantLong RX8 124 (1152921504606846976), Cond.fieldLink RX8 126 "SlipBenchModel" "bestSum" "J", Cond.fieldLink RX8 130 "SlipBenchModel" "bestDrive" "J", Cond.fieldLink RX8 7 "SlipBenchModel" "width" "I", Cond.fieldLink RX8 57 "SlipBenchModel" "sum" "[J", Cond.fieldLink RX8 30 "SlipBenchModel" "heights" "[I", Cond.fieldLink RX8 96 "SlipBenchModel" "base" "I", Cond.fieldLink RX8 61 "SlipBenchModel" "drove" "[J", Cond.fieldLink RX8 64 "SlipBenchModel" "held" "[J", Cond.fieldLink RX8 137 "SlipBenchModel" "bestHold" "J", Cond.methodLink RX8 133 yX8_better, Cond.static yX8_better, Cond.initialized RX8, Cond.code yX8_better cX8_better 8 (some .boolean), Cond.methodLink RX8 105 yX8_can, Cond.instanceMethod yX8_can, Cond.selects RX8 yX8_can yX8_can, Cond.code yX8_can cX8_can 6 (some .boolean), Cond.fieldLink RX8 23 "SlipBenchModel" "rock" "[Z", Cond.fieldLink RX8 27 "SlipBenchModel" "cells" "[I", Cond.methodLink RX8 113 yX8_holds, Cond.instanceMethod yX8_holds, Cond.selects RX8 yX8_holds yX8_holds, Cond.code yX8_holds cX8_holds 10 (some .long)]
def wsX8_walk_r2 : List Cond := [Cond.fieldLink RX8 33 "SlipBenchModel" "waters" "[I", Cond.constantLong RX8 103 (10), Cond.fieldLink RX8 17 "SlipBenchModel" "hold" "[I", Cond.fieldLink RX8 20 "SlipBenchModel" "rub" "[I", Cond.fieldLink RX8 39 "SlipBenchModel" "nails" "[I", Cond.methodLink RX8 99 yX8_press, Cond.instanceMethod yX8_press, Cond.selects RX8 yX8_press yX8_press, Cond.code yX8_press cX8_press 5 (some .int), Cond.fieldLink RX8 36 "SlipBenchModel" "loads" "[I", Cond.fieldLink RX8 13 "SlipBenchModel" "weight" "[I", Cond.methodLink RX8 117 yX8_drives, Cond.instanceMethod yX8_drives, Cond.selects RX8 yX8_drives yX8_drives, Cond.code yX8_drives cX8_drives 4 (some .long)]
def wsX8_walk : List Cond := .code yX8_walk cX8_walk 20 none :: ((wsX8_walk_r1 ++ wsX8_walk_r2) ++ wsX80)
def wsX8_findWorst_r1 : List Cond := [Cond.fieldLink RX8 126 "SlipBenchModel" "bestSum" "J", Cond.constantLong RX8 124 (1152921504606846976), Cond.fieldLink RX8 130 "SlipBenchModel" "bestDrive" "J", Cond.fieldLink RX8 144 "SlipBenchModel" "isWorst" "Z", Cond.fieldLink RX8 137 "SlipBenchModel" "bestHold" "J", Cond.fieldLink RX8 148 "SlipBenchModel" "up" "J", Cond.fieldLink RX8 151 "SlipBenchModel" "low" "J", Cond.methodLink RX8 140 yX8_walk, Cond.instanceMethod yX8_walk, Cond.selects RX8 yX8_walk yX8_walk, Cond.initialized RX8, Cond.code yX8_walk cX8_walk 20 none, Cond.fieldLink RX8 7 "SlipBenchModel" "width" "I", Cond.fieldLink RX8 57 "SlipBenchModel" "sum" "[J", Cond.fieldLink RX8 30 "SlipBenchModel" "heights" "[I", Cond.fieldLink RX8 96 "SlipBenchModel" "base" "I", Cond.fieldLink RX8 61 "SlipBenchModel" "drove" "[J", Cond.fieldLink RX8 64 "SlipBenchModel" "held" "[J", Cond.methodLink RX8 133 yX8_better, Cond.static yX8_better, Cond.code yX8_better cX8_better 8 (some .boolean), Cond.methodLink RX8 105 yX8_can, Cond.instanceMethod yX8_can, Cond.selects RX8 yX8_can yX8_can]
def wsX8_findWorst_r2 : List Cond := [Cond.code yX8_can cX8_can 6 (some .boolean), Cond.fieldLink RX8 23 "SlipBenchModel" "rock" "[Z", Cond.fieldLink RX8 27 "SlipBenchModel" "cells" "[I", Cond.methodLink RX8 113 yX8_holds, Cond.instanceMethod yX8_holds, Cond.selects RX8 yX8_holds yX8_holds, Cond.code yX8_holds cX8_holds 10 (some .long), Cond.fieldLink RX8 33 "SlipBenchModel" "waters" "[I", Cond.constantLong RX8 103 (10), Cond.fieldLink RX8 17 "SlipBenchModel" "hold" "[I", Cond.fieldLink RX8 20 "SlipBenchModel" "rub" "[I", Cond.fieldLink RX8 39 "SlipBenchModel" "nails" "[I", Cond.methodLink RX8 99 yX8_press, Cond.instanceMethod yX8_press, Cond.selects RX8 yX8_press yX8_press, Cond.code yX8_press cX8_press 5 (some .int), Cond.fieldLink RX8 36 "SlipBenchModel" "loads" "[I", Cond.fieldLink RX8 13 "SlipBenchModel" "weight" "[I", Cond.methodLink RX8 117 yX8_drives, Cond.instanceMethod yX8_drives, Cond.selects RX8 yX8_drives yX8_drives, Cond.code yX8_drives cX8_drives 4 (some .long), Cond.methodLink RX8 120 yX8_divisor, Cond.static yX8_divisor]
def wsX8_findWorst_r3 : List Cond := [Cond.code yX8_divisor cX8_divisor 10 (some .long)]
def wsX8_findWorst : List Cond := .code yX8_findWorst cX8_findWorst 4 none :: ((wsX8_findWorst_r1 ++ (wsX8_findWorst_r2 ++ wsX8_findWorst_r3)) ++ wsX80)
def wsX8_findLine_r1 : List Cond := [Cond.fieldLink RX8 154 "SlipBenchModel" "from" "I", Cond.fieldLink RX8 157 "SlipBenchModel" "to" "I", Cond.fieldLink RX8 7 "SlipBenchModel" "width" "I", Cond.fieldLink RX8 148 "SlipBenchModel" "up" "J", Cond.fieldLink RX8 151 "SlipBenchModel" "low" "J", Cond.fieldLink RX8 126 "SlipBenchModel" "bestSum" "J", Cond.fieldLink RX8 130 "SlipBenchModel" "bestDrive" "J", Cond.fieldLink RX8 57 "SlipBenchModel" "sum" "[J", Cond.constantLong RX8 124 (1152921504606846976), Cond.fieldLink RX8 30 "SlipBenchModel" "heights" "[I", Cond.fieldLink RX8 96 "SlipBenchModel" "base" "I", Cond.fieldLink RX8 61 "SlipBenchModel" "drove" "[J", Cond.fieldLink RX8 67 "SlipBenchModel" "way" "[I", Cond.methodLink RX8 140 yX8_walk, Cond.instanceMethod yX8_walk, Cond.selects RX8 yX8_walk yX8_walk, Cond.initialized RX8, Cond.code yX8_walk cX8_walk 20 none, Cond.fieldLink RX8 64 "SlipBenchModel" "held" "[J", Cond.fieldLink RX8 137 "SlipBenchModel" "bestHold" "J", Cond.methodLink RX8 133 yX8_better, Cond.static yX8_better, Cond.code yX8_better cX8_better 8 (some .boolean), Cond.methodLink RX8 105 yX8_can]
def wsX8_findLine_r2 : List Cond := [Cond.instanceMethod yX8_can, Cond.selects RX8 yX8_can yX8_can, Cond.code yX8_can cX8_can 6 (some .boolean), Cond.fieldLink RX8 23 "SlipBenchModel" "rock" "[Z", Cond.fieldLink RX8 27 "SlipBenchModel" "cells" "[I", Cond.methodLink RX8 113 yX8_holds, Cond.instanceMethod yX8_holds, Cond.selects RX8 yX8_holds yX8_holds, Cond.code yX8_holds cX8_holds 10 (some .long), Cond.fieldLink RX8 33 "SlipBenchModel" "waters" "[I", Cond.constantLong RX8 103 (10), Cond.fieldLink RX8 17 "SlipBenchModel" "hold" "[I", Cond.fieldLink RX8 20 "SlipBenchModel" "rub" "[I", Cond.fieldLink RX8 39 "SlipBenchModel" "nails" "[I", Cond.methodLink RX8 99 yX8_press, Cond.instanceMethod yX8_press, Cond.selects RX8 yX8_press yX8_press, Cond.code yX8_press cX8_press 5 (some .int), Cond.fieldLink RX8 36 "SlipBenchModel" "loads" "[I", Cond.fieldLink RX8 13 "SlipBenchModel" "weight" "[I", Cond.methodLink RX8 117 yX8_drives, Cond.instanceMethod yX8_drives, Cond.selects RX8 yX8_drives yX8_drives, Cond.code yX8_drives cX8_drives 4 (some .long)]
def wsX8_findLine : List Cond := .code yX8_findLine cX8_findLine 14 none :: ((wsX8_findLine_r1 ++ wsX8_findLine_r2) ++ wsX80)
def wsX8_worst_r1 : List Cond := [Cond.fieldLink RX8 76 "SlipBenchModel" "thrown" "I", Cond.constantLong RX8 160 (-1), Cond.fieldLink RX8 96 "SlipBenchModel" "base" "I", Cond.fieldLink RX8 144 "SlipBenchModel" "isWorst" "Z", Cond.fieldLink RX8 148 "SlipBenchModel" "up" "J", Cond.fieldLink RX8 151 "SlipBenchModel" "low" "J", Cond.fieldLink RX8 154 "SlipBenchModel" "from" "I", Cond.fieldLink RX8 157 "SlipBenchModel" "to" "I", Cond.methodLink RX8 162 yX8_findWorst, Cond.instanceMethod yX8_findWorst, Cond.selects RX8 yX8_findWorst yX8_findWorst, Cond.initialized RX8, Cond.code yX8_findWorst cX8_findWorst 4 none, Cond.fieldLink RX8 126 "SlipBenchModel" "bestSum" "J", Cond.constantLong RX8 124 (1152921504606846976), Cond.fieldLink RX8 130 "SlipBenchModel" "bestDrive" "J", Cond.fieldLink RX8 137 "SlipBenchModel" "bestHold" "J", Cond.methodLink RX8 140 yX8_walk, Cond.instanceMethod yX8_walk, Cond.selects RX8 yX8_walk yX8_walk, Cond.code yX8_walk cX8_walk 20 none, Cond.fieldLink RX8 7 "SlipBenchModel" "width" "I", Cond.fieldLink RX8 57 "SlipBenchModel" "sum" "[J", Cond.fieldLink RX8 30 "SlipBenchModel" "heights" "[I"]
def wsX8_worst_r2 : List Cond := [Cond.fieldLink RX8 61 "SlipBenchModel" "drove" "[J", Cond.fieldLink RX8 64 "SlipBenchModel" "held" "[J", Cond.methodLink RX8 133 yX8_better, Cond.static yX8_better, Cond.code yX8_better cX8_better 8 (some .boolean), Cond.methodLink RX8 105 yX8_can, Cond.instanceMethod yX8_can, Cond.selects RX8 yX8_can yX8_can, Cond.code yX8_can cX8_can 6 (some .boolean), Cond.fieldLink RX8 23 "SlipBenchModel" "rock" "[Z", Cond.fieldLink RX8 27 "SlipBenchModel" "cells" "[I", Cond.methodLink RX8 113 yX8_holds, Cond.instanceMethod yX8_holds, Cond.selects RX8 yX8_holds yX8_holds, Cond.code yX8_holds cX8_holds 10 (some .long), Cond.fieldLink RX8 33 "SlipBenchModel" "waters" "[I", Cond.constantLong RX8 103 (10), Cond.fieldLink RX8 17 "SlipBenchModel" "hold" "[I", Cond.fieldLink RX8 20 "SlipBenchModel" "rub" "[I", Cond.fieldLink RX8 39 "SlipBenchModel" "nails" "[I", Cond.methodLink RX8 99 yX8_press, Cond.instanceMethod yX8_press, Cond.selects RX8 yX8_press yX8_press, Cond.code yX8_press cX8_press 5 (some .int)]
def wsX8_worst_r3 : List Cond := [Cond.fieldLink RX8 36 "SlipBenchModel" "loads" "[I", Cond.fieldLink RX8 13 "SlipBenchModel" "weight" "[I", Cond.methodLink RX8 117 yX8_drives, Cond.instanceMethod yX8_drives, Cond.selects RX8 yX8_drives yX8_drives, Cond.code yX8_drives cX8_drives 4 (some .long), Cond.methodLink RX8 120 yX8_divisor, Cond.static yX8_divisor, Cond.code yX8_divisor cX8_divisor 10 (some .long), Cond.methodLink RX8 165 yX8_findLine, Cond.instanceMethod yX8_findLine, Cond.selects RX8 yX8_findLine yX8_findLine, Cond.code yX8_findLine cX8_findLine 14 none, Cond.fieldLink RX8 67 "SlipBenchModel" "way" "[I"]
def wsX8_worst : List Cond := .code yX8_worst cX8_worst 2 (some .long) :: ((wsX8_worst_r1 ++ (wsX8_worst_r2 ++ wsX8_worst_r3)) ++ wsX80)
def wsX8_height_r1 : List Cond := [Cond.fieldLink RX8 76 "SlipBenchModel" "thrown" "I", Cond.fieldLink RX8 96 "SlipBenchModel" "base" "I", Cond.fieldLink RX8 144 "SlipBenchModel" "isWorst" "Z", Cond.fieldLink RX8 157 "SlipBenchModel" "to" "I", Cond.fieldLink RX8 154 "SlipBenchModel" "from" "I", Cond.fieldLink RX8 67 "SlipBenchModel" "way" "[I", Cond.methodLink RX8 162 yX8_findWorst, Cond.instanceMethod yX8_findWorst, Cond.selects RX8 yX8_findWorst yX8_findWorst, Cond.initialized RX8, Cond.code yX8_findWorst cX8_findWorst 4 none, Cond.fieldLink RX8 126 "SlipBenchModel" "bestSum" "J", Cond.constantLong RX8 124 (1152921504606846976), Cond.fieldLink RX8 130 "SlipBenchModel" "bestDrive" "J", Cond.fieldLink RX8 137 "SlipBenchModel" "bestHold" "J", Cond.fieldLink RX8 148 "SlipBenchModel" "up" "J", Cond.fieldLink RX8 151 "SlipBenchModel" "low" "J", Cond.methodLink RX8 140 yX8_walk, Cond.instanceMethod yX8_walk, Cond.selects RX8 yX8_walk yX8_walk, Cond.code yX8_walk cX8_walk 20 none, Cond.fieldLink RX8 7 "SlipBenchModel" "width" "I", Cond.fieldLink RX8 57 "SlipBenchModel" "sum" "[J", Cond.fieldLink RX8 30 "SlipBenchModel" "heights" "[I"]
def wsX8_height_r2 : List Cond := [Cond.fieldLink RX8 61 "SlipBenchModel" "drove" "[J", Cond.fieldLink RX8 64 "SlipBenchModel" "held" "[J", Cond.methodLink RX8 133 yX8_better, Cond.static yX8_better, Cond.code yX8_better cX8_better 8 (some .boolean), Cond.methodLink RX8 105 yX8_can, Cond.instanceMethod yX8_can, Cond.selects RX8 yX8_can yX8_can, Cond.code yX8_can cX8_can 6 (some .boolean), Cond.fieldLink RX8 23 "SlipBenchModel" "rock" "[Z", Cond.fieldLink RX8 27 "SlipBenchModel" "cells" "[I", Cond.methodLink RX8 113 yX8_holds, Cond.instanceMethod yX8_holds, Cond.selects RX8 yX8_holds yX8_holds, Cond.code yX8_holds cX8_holds 10 (some .long), Cond.fieldLink RX8 33 "SlipBenchModel" "waters" "[I", Cond.constantLong RX8 103 (10), Cond.fieldLink RX8 17 "SlipBenchModel" "hold" "[I", Cond.fieldLink RX8 20 "SlipBenchModel" "rub" "[I", Cond.fieldLink RX8 39 "SlipBenchModel" "nails" "[I", Cond.methodLink RX8 99 yX8_press, Cond.instanceMethod yX8_press, Cond.selects RX8 yX8_press yX8_press, Cond.code yX8_press cX8_press 5 (some .int)]
def wsX8_height_r3 : List Cond := [Cond.fieldLink RX8 36 "SlipBenchModel" "loads" "[I", Cond.fieldLink RX8 13 "SlipBenchModel" "weight" "[I", Cond.methodLink RX8 117 yX8_drives, Cond.instanceMethod yX8_drives, Cond.selects RX8 yX8_drives yX8_drives, Cond.code yX8_drives cX8_drives 4 (some .long), Cond.methodLink RX8 120 yX8_divisor, Cond.static yX8_divisor, Cond.code yX8_divisor cX8_divisor 10 (some .long), Cond.methodLink RX8 165 yX8_findLine, Cond.instanceMethod yX8_findLine, Cond.selects RX8 yX8_findLine yX8_findLine, Cond.code yX8_findLine cX8_findLine 14 none]
def wsX8_height : List Cond := .code yX8_height cX8_height 2 (some .int) :: ((wsX8_height_r1 ++ (wsX8_height_r2 ++ wsX8_height_r3)) ++ wsX80)
def wsX8_holdsOut_r1 : List Cond := [Cond.fieldLink RX8 126 "SlipBenchModel" "bestSum" "J", Cond.methodLink RX8 140 yX8_walk, Cond.instanceMethod yX8_walk, Cond.selects RX8 yX8_walk yX8_walk, Cond.initialized RX8, Cond.code yX8_walk cX8_walk 20 none, Cond.constantLong RX8 124 (1152921504606846976), Cond.fieldLink RX8 130 "SlipBenchModel" "bestDrive" "J", Cond.fieldLink RX8 7 "SlipBenchModel" "width" "I", Cond.fieldLink RX8 57 "SlipBenchModel" "sum" "[J", Cond.fieldLink RX8 30 "SlipBenchModel" "heights" "[I", Cond.fieldLink RX8 96 "SlipBenchModel" "base" "I", Cond.fieldLink RX8 61 "SlipBenchModel" "drove" "[J", Cond.fieldLink RX8 64 "SlipBenchModel" "held" "[J", Cond.fieldLink RX8 137 "SlipBenchModel" "bestHold" "J", Cond.methodLink RX8 133 yX8_better, Cond.static yX8_better, Cond.code yX8_better cX8_better 8 (some .boolean), Cond.methodLink RX8 105 yX8_can, Cond.instanceMethod yX8_can, Cond.selects RX8 yX8_can yX8_can, Cond.code yX8_can cX8_can 6 (some .boolean), Cond.fieldLink RX8 23 "SlipBenchModel" "rock" "[Z", Cond.fieldLink RX8 27 "SlipBenchModel" "cells" "[I"]
def wsX8_holdsOut_r2 : List Cond := [Cond.methodLink RX8 113 yX8_holds, Cond.instanceMethod yX8_holds, Cond.selects RX8 yX8_holds yX8_holds, Cond.code yX8_holds cX8_holds 10 (some .long), Cond.fieldLink RX8 33 "SlipBenchModel" "waters" "[I", Cond.constantLong RX8 103 (10), Cond.fieldLink RX8 17 "SlipBenchModel" "hold" "[I", Cond.fieldLink RX8 20 "SlipBenchModel" "rub" "[I", Cond.fieldLink RX8 39 "SlipBenchModel" "nails" "[I", Cond.methodLink RX8 99 yX8_press, Cond.instanceMethod yX8_press, Cond.selects RX8 yX8_press yX8_press, Cond.code yX8_press cX8_press 5 (some .int), Cond.fieldLink RX8 36 "SlipBenchModel" "loads" "[I", Cond.fieldLink RX8 13 "SlipBenchModel" "weight" "[I", Cond.methodLink RX8 117 yX8_drives, Cond.instanceMethod yX8_drives, Cond.selects RX8 yX8_drives yX8_drives, Cond.code yX8_drives cX8_drives 4 (some .long)]
def wsX8_holdsOut : List Cond := .code yX8_holdsOut cX8_holdsOut 3 (some .boolean) :: ((wsX8_holdsOut_r1 ++ wsX8_holdsOut_r2) ++ wsX80)
def wsX8_areShares : List Cond := .code yX8_areShares cX8_areShares 2 (some .boolean) :: ([])
def wsX8_tries : List Cond := .code yX8_tries cX8_tries 2 none :: ([.fieldLink RX8 30 "SlipBenchModel" "heights" "[I", .fieldLink RX8 33 "SlipBenchModel" "waters" "[I", .fieldLink RX8 36 "SlipBenchModel" "loads" "[I", .fieldLink RX8 39 "SlipBenchModel" "nails" "[I", .fieldLink RX8 96 "SlipBenchModel" "base" "I"] ++ wsX80)
def wsX8_rise_r1 : List Cond := [Cond.fieldLink RX8 76 "SlipBenchModel" "thrown" "I", Cond.fieldLink RX8 7 "SlipBenchModel" "width" "I", Cond.fieldLink RX8 33 "SlipBenchModel" "waters" "[I", Cond.fieldLink RX8 96 "SlipBenchModel" "base" "I", Cond.methodLink RX8 168 yX8_areShares, Cond.static yX8_areShares, Cond.initialized RX8, Cond.code yX8_areShares cX8_areShares 2 (some .boolean), Cond.methodLink RX8 172 yX8_tries, Cond.instanceMethod yX8_tries, Cond.selects RX8 yX8_tries yX8_tries, Cond.code yX8_tries cX8_tries 2 none, Cond.fieldLink RX8 30 "SlipBenchModel" "heights" "[I", Cond.fieldLink RX8 36 "SlipBenchModel" "loads" "[I", Cond.fieldLink RX8 39 "SlipBenchModel" "nails" "[I", Cond.methodLink RX8 175 yX8_holdsOut, Cond.instanceMethod yX8_holdsOut, Cond.selects RX8 yX8_holdsOut yX8_holdsOut, Cond.code yX8_holdsOut cX8_holdsOut 3 (some .boolean), Cond.fieldLink RX8 126 "SlipBenchModel" "bestSum" "J", Cond.methodLink RX8 140 yX8_walk, Cond.instanceMethod yX8_walk, Cond.selects RX8 yX8_walk yX8_walk, Cond.code yX8_walk cX8_walk 20 none]
def wsX8_rise_r2 : List Cond := [Cond.constantLong RX8 124 (1152921504606846976), Cond.fieldLink RX8 130 "SlipBenchModel" "bestDrive" "J", Cond.fieldLink RX8 57 "SlipBenchModel" "sum" "[J", Cond.fieldLink RX8 61 "SlipBenchModel" "drove" "[J", Cond.fieldLink RX8 64 "SlipBenchModel" "held" "[J", Cond.fieldLink RX8 137 "SlipBenchModel" "bestHold" "J", Cond.methodLink RX8 133 yX8_better, Cond.static yX8_better, Cond.code yX8_better cX8_better 8 (some .boolean), Cond.methodLink RX8 105 yX8_can, Cond.instanceMethod yX8_can, Cond.selects RX8 yX8_can yX8_can, Cond.code yX8_can cX8_can 6 (some .boolean), Cond.fieldLink RX8 23 "SlipBenchModel" "rock" "[Z", Cond.fieldLink RX8 27 "SlipBenchModel" "cells" "[I", Cond.methodLink RX8 113 yX8_holds, Cond.instanceMethod yX8_holds, Cond.selects RX8 yX8_holds yX8_holds, Cond.code yX8_holds cX8_holds 10 (some .long), Cond.constantLong RX8 103 (10), Cond.fieldLink RX8 17 "SlipBenchModel" "hold" "[I", Cond.fieldLink RX8 20 "SlipBenchModel" "rub" "[I", Cond.methodLink RX8 99 yX8_press, Cond.instanceMethod yX8_press]
def wsX8_rise_r3 : List Cond := [Cond.selects RX8 yX8_press yX8_press, Cond.code yX8_press cX8_press 5 (some .int), Cond.fieldLink RX8 13 "SlipBenchModel" "weight" "[I", Cond.methodLink RX8 117 yX8_drives, Cond.instanceMethod yX8_drives, Cond.selects RX8 yX8_drives yX8_drives, Cond.code yX8_drives cX8_drives 4 (some .long)]
def wsX8_rise : List Cond := .code yX8_rise cX8_rise 6 (some .int) :: ((wsX8_rise_r1 ++ (wsX8_rise_r2 ++ wsX8_rise_r3)) ++ wsX80)
def wsX8_act : List Cond := .code yX8_act cX8_act 4 (some .int) :: ([.fieldLink RX8 76 "SlipBenchModel" "thrown" "I", .fieldLink RX8 79 "SlipBenchModel" "acts" "I", .fieldLink RX8 42 "SlipBenchModel" "actKind" "[I", .fieldLink RX8 45 "SlipBenchModel" "actColumn" "[I", .fieldLink RX8 48 "SlipBenchModel" "actN" "[I", .methodLink RX8 88 yX8_isColumn, .instanceMethod yX8_isColumn, .selects RX8 yX8_isColumn yX8_isColumn, .initialized RX8, .code yX8_isColumn cX8_isColumn 2 (some .boolean), .fieldLink RX8 7 "SlipBenchModel" "width" "I"] ++ wsX80)
def wsX8_does : List Cond := .code yX8_does cX8_does 4 none :: ([.fieldLink RX8 96 "SlipBenchModel" "base" "I", .fieldLink RX8 45 "SlipBenchModel" "actColumn" "[I", .fieldLink RX8 48 "SlipBenchModel" "actN" "[I", .fieldLink RX8 42 "SlipBenchModel" "actKind" "[I", .fieldLink RX8 30 "SlipBenchModel" "heights" "[I", .fieldLink RX8 39 "SlipBenchModel" "nails" "[I", .fieldLink RX8 33 "SlipBenchModel" "waters" "[I", .fieldLink RX8 36 "SlipBenchModel" "loads" "[I"] ++ wsX80)
def wsX8_perform : List Cond := .code yX8_perform cX8_perform 2 (some .boolean) :: ([.fieldLink RX8 76 "SlipBenchModel" "thrown" "I", .fieldLink RX8 79 "SlipBenchModel" "acts" "I", .fieldLink RX8 96 "SlipBenchModel" "base" "I", .methodLink RX8 178 yX8_does, .instanceMethod yX8_does, .selects RX8 yX8_does yX8_does, .initialized RX8, .code yX8_does cX8_does 4 none, .fieldLink RX8 45 "SlipBenchModel" "actColumn" "[I", .fieldLink RX8 48 "SlipBenchModel" "actN" "[I", .fieldLink RX8 42 "SlipBenchModel" "actKind" "[I", .fieldLink RX8 30 "SlipBenchModel" "heights" "[I", .fieldLink RX8 39 "SlipBenchModel" "nails" "[I", .fieldLink RX8 33 "SlipBenchModel" "waters" "[I", .fieldLink RX8 36 "SlipBenchModel" "loads" "[I"] ++ wsX80)
def wsX8_swap : List Cond := .code yX8_swap cX8_swap 4 none :: ([.fieldLink RX8 70 "SlipBenchModel" "row" "[I"] ++ wsX80)
def wsX8_another : List Cond := .code yX8_another cX8_another 4 (some .boolean) :: ([.fieldLink RX8 79 "SlipBenchModel" "acts" "I", .fieldLink RX8 70 "SlipBenchModel" "row" "[I", .methodLink RX8 182 yX8_swap, .instanceMethod yX8_swap, .selects RX8 yX8_swap yX8_swap, .initialized RX8, .code yX8_swap cX8_swap 4 none] ++ wsX80)
def wsX8_order_r1 : List Cond := [Cond.fieldLink RX8 76 "SlipBenchModel" "thrown" "I", Cond.fieldLink RX8 79 "SlipBenchModel" "acts" "I", Cond.fieldLink RX8 70 "SlipBenchModel" "row" "[I", Cond.fieldLink RX8 96 "SlipBenchModel" "base" "I", Cond.fieldLink RX8 189 "SlipBenchModel" "stepMany" "I", Cond.fieldLink RX8 73 "SlipBenchModel" "steps" "[I", Cond.methodLink RX8 168 yX8_areShares, Cond.static yX8_areShares, Cond.initialized RX8, Cond.code yX8_areShares cX8_areShares 2 (some .boolean), Cond.methodLink RX8 172 yX8_tries, Cond.instanceMethod yX8_tries, Cond.selects RX8 yX8_tries yX8_tries, Cond.code yX8_tries cX8_tries 2 none, Cond.fieldLink RX8 30 "SlipBenchModel" "heights" "[I", Cond.fieldLink RX8 33 "SlipBenchModel" "waters" "[I", Cond.fieldLink RX8 36 "SlipBenchModel" "loads" "[I", Cond.fieldLink RX8 39 "SlipBenchModel" "nails" "[I", Cond.methodLink RX8 178 yX8_does, Cond.instanceMethod yX8_does, Cond.selects RX8 yX8_does yX8_does, Cond.code yX8_does cX8_does 4 none, Cond.fieldLink RX8 45 "SlipBenchModel" "actColumn" "[I", Cond.fieldLink RX8 48 "SlipBenchModel" "actN" "[I"]
def wsX8_order_r2 : List Cond := [Cond.fieldLink RX8 42 "SlipBenchModel" "actKind" "[I", Cond.methodLink RX8 175 yX8_holdsOut, Cond.instanceMethod yX8_holdsOut, Cond.selects RX8 yX8_holdsOut yX8_holdsOut, Cond.code yX8_holdsOut cX8_holdsOut 3 (some .boolean), Cond.fieldLink RX8 126 "SlipBenchModel" "bestSum" "J", Cond.methodLink RX8 140 yX8_walk, Cond.instanceMethod yX8_walk, Cond.selects RX8 yX8_walk yX8_walk, Cond.code yX8_walk cX8_walk 20 none, Cond.constantLong RX8 124 (1152921504606846976), Cond.fieldLink RX8 130 "SlipBenchModel" "bestDrive" "J", Cond.fieldLink RX8 7 "SlipBenchModel" "width" "I", Cond.fieldLink RX8 57 "SlipBenchModel" "sum" "[J", Cond.fieldLink RX8 61 "SlipBenchModel" "drove" "[J", Cond.fieldLink RX8 64 "SlipBenchModel" "held" "[J", Cond.fieldLink RX8 137 "SlipBenchModel" "bestHold" "J", Cond.methodLink RX8 133 yX8_better, Cond.static yX8_better, Cond.code yX8_better cX8_better 8 (some .boolean), Cond.methodLink RX8 105 yX8_can, Cond.instanceMethod yX8_can, Cond.selects RX8 yX8_can yX8_can, Cond.code yX8_can cX8_can 6 (some .boolean)]
def wsX8_order_r3 : List Cond := [Cond.fieldLink RX8 23 "SlipBenchModel" "rock" "[Z", Cond.fieldLink RX8 27 "SlipBenchModel" "cells" "[I", Cond.methodLink RX8 113 yX8_holds, Cond.instanceMethod yX8_holds, Cond.selects RX8 yX8_holds yX8_holds, Cond.code yX8_holds cX8_holds 10 (some .long), Cond.constantLong RX8 103 (10), Cond.fieldLink RX8 17 "SlipBenchModel" "hold" "[I", Cond.fieldLink RX8 20 "SlipBenchModel" "rub" "[I", Cond.methodLink RX8 99 yX8_press, Cond.instanceMethod yX8_press, Cond.selects RX8 yX8_press yX8_press, Cond.code yX8_press cX8_press 5 (some .int), Cond.fieldLink RX8 13 "SlipBenchModel" "weight" "[I", Cond.methodLink RX8 117 yX8_drives, Cond.instanceMethod yX8_drives, Cond.selects RX8 yX8_drives yX8_drives, Cond.code yX8_drives cX8_drives 4 (some .long), Cond.methodLink RX8 186 yX8_another, Cond.instanceMethod yX8_another, Cond.selects RX8 yX8_another yX8_another, Cond.code yX8_another cX8_another 4 (some .boolean), Cond.methodLink RX8 182 yX8_swap, Cond.instanceMethod yX8_swap]
def wsX8_order_r4 : List Cond := [Cond.selects RX8 yX8_swap yX8_swap, Cond.code yX8_swap cX8_swap 4 none]
def wsX8_order : List Cond := .code yX8_order cX8_order 6 (some .int) :: ((wsX8_order_r1 ++ (wsX8_order_r2 ++ (wsX8_order_r3 ++ wsX8_order_r4))) ++ wsX80)
def wsX8_step : List Cond := .code yX8_step cX8_step 2 (some .int) :: ([.fieldLink RX8 76 "SlipBenchModel" "thrown" "I", .fieldLink RX8 189 "SlipBenchModel" "stepMany" "I", .fieldLink RX8 73 "SlipBenchModel" "steps" "[I"] ++ wsX80)
def wsX8_count : List Cond := .code yX8_count cX8_count 4 (some .int) :: ([.fieldLink RX8 76 "SlipBenchModel" "thrown" "I", .fieldLink RX8 7 "SlipBenchModel" "width" "I", .fieldLink RX8 85 "SlipBenchModel" "earths" "I", .fieldLink RX8 79 "SlipBenchModel" "acts" "I", .fieldLink RX8 30 "SlipBenchModel" "heights" "[I"] ++ wsX80)
def wsJ9_abs_0f7a4 : List Cond := .code yJ9_abs_0f7a4 cJ9_abs_0f7a4 1 (some .int) :: ([])
def wsJ9_max_7cf53 : List Cond := .code yJ9_max_7cf53 cJ9_max_7cf53 2 (some .int) :: ([])
def wsJ9_min_7cf53 : List Cond := .code yJ9_min_7cf53 cJ9_min_7cf53 2 (some .int) :: ([])
def wsJ9_min_f86c9 : List Cond := .code yJ9_min_f86c9 cJ9_min_f86c9 4 (some .long) :: ([])
theorem inJ9 : ∀ w ∈ wsJ90, w ∈ lw_tbl := by decide +kernel
theorem inJ0 : ∀ w ∈ wsJ00, w ∈ lw_tbl := by decide +kernel
theorem inJ10 : ∀ w ∈ wsJ100, w ∈ lw_tbl := by decide +kernel
theorem dJ9_abs_0f7a4_0 : decode cJ9_abs_0f7a4 0 = .ok (.iload_n 0, 1) := by decide +kernel
theorem dJ9_abs_0f7a4_1 : decode cJ9_abs_0f7a4 1 = .ok (.ifCond .ge 8, 3) := by decide +kernel
theorem dJ9_abs_0f7a4_4 : decode cJ9_abs_0f7a4 4 = .ok (.iload_n 0, 1) := by decide +kernel
theorem dJ9_abs_0f7a4_5 : decode cJ9_abs_0f7a4 5 = .ok (.ineg, 1) := by decide +kernel
theorem dJ9_abs_0f7a4_6 : decode cJ9_abs_0f7a4 6 = .ok (.goto 4, 3) := by decide +kernel
theorem dJ9_abs_0f7a4_9 : decode cJ9_abs_0f7a4 9 = .ok (.iload_n 0, 1) := by decide +kernel
theorem dJ9_abs_0f7a4_10 : decode cJ9_abs_0f7a4 10 = .ok (.ireturn, 1) := by decide +kernel
theorem dJ9_max_7cf53_0 : decode cJ9_max_7cf53 0 = .ok (.iload_n 0, 1) := by decide +kernel
theorem dJ9_max_7cf53_1 : decode cJ9_max_7cf53 1 = .ok (.iload_n 1, 1) := by decide +kernel
theorem dJ9_max_7cf53_2 : decode cJ9_max_7cf53 2 = .ok (.if_icmp .lt 7, 3) := by decide +kernel
theorem dJ9_max_7cf53_5 : decode cJ9_max_7cf53 5 = .ok (.iload_n 0, 1) := by decide +kernel
theorem dJ9_max_7cf53_6 : decode cJ9_max_7cf53 6 = .ok (.goto 4, 3) := by decide +kernel
theorem dJ9_max_7cf53_9 : decode cJ9_max_7cf53 9 = .ok (.iload_n 1, 1) := by decide +kernel
theorem dJ9_max_7cf53_10 : decode cJ9_max_7cf53 10 = .ok (.ireturn, 1) := by decide +kernel
theorem dJ9_min_7cf53_0 : decode cJ9_min_7cf53 0 = .ok (.iload_n 0, 1) := by decide +kernel
theorem dJ9_min_7cf53_1 : decode cJ9_min_7cf53 1 = .ok (.iload_n 1, 1) := by decide +kernel
theorem dJ9_min_7cf53_2 : decode cJ9_min_7cf53 2 = .ok (.if_icmp .gt 7, 3) := by decide +kernel
theorem dJ9_min_7cf53_5 : decode cJ9_min_7cf53 5 = .ok (.iload_n 0, 1) := by decide +kernel
theorem dJ9_min_7cf53_6 : decode cJ9_min_7cf53 6 = .ok (.goto 4, 3) := by decide +kernel
theorem dJ9_min_7cf53_9 : decode cJ9_min_7cf53 9 = .ok (.iload_n 1, 1) := by decide +kernel
theorem dJ9_min_7cf53_10 : decode cJ9_min_7cf53 10 = .ok (.ireturn, 1) := by decide +kernel
theorem dJ9_min_f86c9_0 : decode cJ9_min_f86c9 0 = .ok (.lload_n 0, 1) := by decide +kernel
theorem dJ9_min_f86c9_1 : decode cJ9_min_f86c9 1 = .ok (.lload_n 2, 1) := by decide +kernel
theorem dJ9_min_f86c9_2 : decode cJ9_min_f86c9 2 = .ok (.lcmp, 1) := by decide +kernel
theorem dJ9_min_f86c9_3 : decode cJ9_min_f86c9 3 = .ok (.ifCond .gt 7, 3) := by decide +kernel
theorem dJ9_min_f86c9_6 : decode cJ9_min_f86c9 6 = .ok (.lload_n 0, 1) := by decide +kernel
theorem dJ9_min_f86c9_7 : decode cJ9_min_f86c9 7 = .ok (.goto 4, 3) := by decide +kernel
theorem dJ9_min_f86c9_10 : decode cJ9_min_f86c9 10 = .ok (.lload_n 2, 1) := by decide +kernel
theorem dJ9_min_f86c9_11 : decode cJ9_min_f86c9 11 = .ok (.lreturn, 1) := by decide +kernel
abbrev vwCl : List vw_C := [(RX0, TX0, 4), (RX1, TX1, 9), (RX2, TX2, 5), (RX3, TX3, 2), (RX4, TX4, 2), (RX5, TX5, 3), (RX6, TX6, 7), (RX7, TX7, 15), (RX8, TX8, 35)]
end
section
theorem dX0_init_0 : decode cX0_init 0 = .ok (.aload_n 0, 1) := by decide +kernel
theorem dX0_init_1 : decode cX0_init 1 = .ok (.invokespecial 3, 3) := by decide +kernel
theorem dX0_init_4 : decode cX0_init 4 = .ok (.aload_n 0, 1) := by decide +kernel
theorem dX0_init_5 : decode cX0_init 5 = .ok (.iconst 0, 1) := by decide +kernel
theorem dX0_init_6 : decode cX0_init 6 = .ok (.putfield 9, 3) := by decide +kernel
theorem dX0_init_9 : decode cX0_init 9 = .ok (.aload_n 0, 1) := by decide +kernel
theorem dX0_init_10 : decode cX0_init 10 = .ok (.bipush 6, 2) := by decide +kernel
theorem dX0_init_12 : decode cX0_init 12 = .ok (.newarray .int, 2) := by decide +kernel
theorem dX0_init_14 : decode cX0_init 14 = .ok (.putfield 15, 3) := by decide +kernel
theorem dX0_init_17 : decode cX0_init 17 = .ok (.aload_n 0, 1) := by decide +kernel
theorem dX0_init_18 : decode cX0_init 18 = .ok (.bipush 6, 2) := by decide +kernel
theorem dX0_init_20 : decode cX0_init 20 = .ok (.newarray .int, 2) := by decide +kernel
theorem dX0_init_22 : decode cX0_init 22 = .ok (.putfield 19, 3) := by decide +kernel
theorem dX0_init_25 : decode cX0_init 25 = .ok (.aload_n 0, 1) := by decide +kernel
theorem dX0_init_26 : decode cX0_init 26 = .ok (.bipush 6, 2) := by decide +kernel
theorem dX0_init_28 : decode cX0_init 28 = .ok (.newarray .int, 2) := by decide +kernel
theorem dX0_init_30 : decode cX0_init 30 = .ok (.putfield 22, 3) := by decide +kernel
theorem dX0_init_33 : decode cX0_init 33 = .ok (.return_, 1) := by decide +kernel
set_option maxRecDepth 20000 in
theorem ggX0_has_X7_within : GoodIn wsX0_has wsX7_within := goodIn_r _ [4] (by decide +kernel) (by decide +kernel)
set_option maxRecDepth 20000 in
theorem gX0_has_X7_within_n25 : GoodIn wsX0_has (wsX7_within) := ggX0_has_X7_within
theorem dX0_has_0 : decode cX0_has 0 = .ok (.iload_n 1, 1) := by decide +kernel
theorem dX0_has_1 : decode cX0_has 1 = .ok (.iconst 0, 1) := by decide +kernel
theorem dX0_has_2 : decode cX0_has 2 = .ok (.aload_n 0, 1) := by decide +kernel
theorem dX0_has_3 : decode cX0_has 3 = .ok (.getfield 9, 3) := by decide +kernel
theorem dX0_has_6 : decode cX0_has 6 = .ok (.iconst 1, 1) := by decide +kernel
theorem dX0_has_7 : decode cX0_has 7 = .ok (.isub, 1) := by decide +kernel
theorem dX0_has_8 : decode cX0_has 8 = .ok (.invokestatic 25, 3) := by decide +kernel
theorem dX0_has_11 : decode cX0_has 11 = .ok (.ireturn, 1) := by decide +kernel
theorem dX0_add_0 : decode cX0_add 0 = .ok (.aload_n 0, 1) := by decide +kernel
theorem dX0_add_1 : decode cX0_add 1 = .ok (.getfield 9, 3) := by decide +kernel
theorem dX0_add_4 : decode cX0_add 4 = .ok (.bipush 6, 2) := by decide +kernel
theorem dX0_add_6 : decode cX0_add 6 = .ok (.if_icmp .lt 5, 3) := by decide +kernel
theorem dX0_add_9 : decode cX0_add 9 = .ok (.iconst (-1), 1) := by decide +kernel
theorem dX0_add_10 : decode cX0_add 10 = .ok (.ireturn, 1) := by decide +kernel
theorem dX0_add_11 : decode cX0_add 11 = .ok (.aload_n 0, 1) := by decide +kernel
theorem dX0_add_12 : decode cX0_add 12 = .ok (.getfield 15, 3) := by decide +kernel
theorem dX0_add_15 : decode cX0_add 15 = .ok (.aload_n 0, 1) := by decide +kernel
theorem dX0_add_16 : decode cX0_add 16 = .ok (.getfield 9, 3) := by decide +kernel
theorem dX0_add_19 : decode cX0_add 19 = .ok (.iload_n 1, 1) := by decide +kernel
theorem dX0_add_20 : decode cX0_add 20 = .ok (.iastore, 1) := by decide +kernel
theorem dX0_add_21 : decode cX0_add 21 = .ok (.aload_n 0, 1) := by decide +kernel
theorem dX0_add_22 : decode cX0_add 22 = .ok (.getfield 19, 3) := by decide +kernel
theorem dX0_add_25 : decode cX0_add 25 = .ok (.aload_n 0, 1) := by decide +kernel
theorem dX0_add_26 : decode cX0_add 26 = .ok (.getfield 9, 3) := by decide +kernel
theorem dX0_add_29 : decode cX0_add 29 = .ok (.iload_n 2, 1) := by decide +kernel
theorem dX0_add_30 : decode cX0_add 30 = .ok (.iastore, 1) := by decide +kernel
theorem dX0_add_31 : decode cX0_add 31 = .ok (.aload_n 0, 1) := by decide +kernel
theorem dX0_add_32 : decode cX0_add 32 = .ok (.getfield 22, 3) := by decide +kernel
theorem dX0_add_35 : decode cX0_add 35 = .ok (.aload_n 0, 1) := by decide +kernel
theorem dX0_add_36 : decode cX0_add 36 = .ok (.getfield 9, 3) := by decide +kernel
theorem dX0_add_39 : decode cX0_add 39 = .ok (.iload_n 3, 1) := by decide +kernel
theorem dX0_add_40 : decode cX0_add 40 = .ok (.iastore, 1) := by decide +kernel
theorem dX0_add_41 : decode cX0_add 41 = .ok (.aload_n 0, 1) := by decide +kernel
theorem dX0_add_42 : decode cX0_add 42 = .ok (.dup, 1) := by decide +kernel
theorem dX0_add_43 : decode cX0_add 43 = .ok (.getfield 9, 3) := by decide +kernel
theorem dX0_add_46 : decode cX0_add 46 = .ok (.iconst 1, 1) := by decide +kernel
theorem dX0_add_47 : decode cX0_add 47 = .ok (.iadd, 1) := by decide +kernel
theorem dX0_add_48 : decode cX0_add 48 = .ok (.putfield 9, 3) := by decide +kernel
theorem dX0_add_51 : decode cX0_add 51 = .ok (.aload_n 0, 1) := by decide +kernel
theorem dX0_add_52 : decode cX0_add 52 = .ok (.getfield 9, 3) := by decide +kernel
theorem dX0_add_55 : decode cX0_add 55 = .ok (.iconst 1, 1) := by decide +kernel
theorem dX0_add_56 : decode cX0_add 56 = .ok (.isub, 1) := by decide +kernel
theorem dX0_add_57 : decode cX0_add 57 = .ok (.ireturn, 1) := by decide +kernel
set_option maxRecDepth 20000 in
theorem ggX0_doOn_X0_has : GoodIn wsX0_doOn wsX0_has := goodIn_r _ [16, 17, 18, 19, 20, 42, 43, 44, 45] (by decide +kernel) (by decide +kernel)
set_option maxRecDepth 20000 in
theorem gX0_doOn_X0_has : GoodIn wsX0_doOn (wsV RX0 29 RX0 yX0_has wsX0_has) := goodIn_app (goodIn_of _ (by decide +kernel)) ggX0_doOn_X0_has
set_option maxRecDepth 20000 in
theorem ggX0_doOn_X4_has : GoodIn wsX0_doOn wsX4_has := goodIn_r _ [25, 26, 18, 19, 20, 46, 47] (by decide +kernel) (by decide +kernel)
set_option maxRecDepth 20000 in
theorem gX0_doOn_X4_has : GoodIn wsX0_doOn (wsV RX0 33 RX4 yX4_has wsX4_has) := goodIn_app (goodIn_of _ (by decide +kernel)) ggX0_doOn_X4_has
set_option maxRecDepth 20000 in
theorem ggX0_doOn_X1_digTo : GoodIn wsX0_doOn wsX1_digTo := goodIn_r _ [31, 32, 33, 7, 8, 9, 34, 48, 49, 50, 51, 52, 53, 54, 55, 56] (by decide +kernel) (by decide +kernel)
set_option maxRecDepth 20000 in
theorem gX0_doOn_X1_digTo : GoodIn wsX0_doOn (wsV RX0 40 RX1 yX1_digTo wsX1_digTo) := goodIn_app (goodIn_of _ (by decide +kernel)) ggX0_doOn_X1_digTo
set_option maxRecDepth 20000 in
theorem ggX0_doOn_X1_put : GoodIn wsX0_doOn wsX1_put := goodIn_r _ [38, 39, 40, 41, 34, 48, 49, 50, 51, 52, 53, 54, 55, 56] (by decide +kernel) (by decide +kernel)
set_option maxRecDepth 20000 in
theorem gX0_doOn_X1_put : GoodIn wsX0_doOn (wsV RX0 55 RX1 yX1_put wsX1_put) := goodIn_app (goodIn_of _ (by decide +kernel)) ggX0_doOn_X1_put
theorem dX0_doOn_0 : decode cX0_doOn 0 = .ok (.aload_n 0, 1) := by decide +kernel
theorem dX0_doOn_1 : decode cX0_doOn 1 = .ok (.iload_n 2, 1) := by decide +kernel
theorem dX0_doOn_2 : decode cX0_doOn 2 = .ok (.invokevirtual 29, 3) := by decide +kernel
theorem dX0_doOn_5 : decode cX0_doOn 5 = .ok (.ifCond .eq 16, 3) := by decide +kernel
theorem dX0_doOn_8 : decode cX0_doOn 8 = .ok (.aload_n 1, 1) := by decide +kernel
theorem dX0_doOn_9 : decode cX0_doOn 9 = .ok (.aload_n 0, 1) := by decide +kernel
theorem dX0_doOn_10 : decode cX0_doOn 10 = .ok (.getfield 19, 3) := by decide +kernel
theorem dX0_doOn_13 : decode cX0_doOn 13 = .ok (.iload_n 2, 1) := by decide +kernel
theorem dX0_doOn_14 : decode cX0_doOn 14 = .ok (.iaload, 1) := by decide +kernel
theorem dX0_doOn_15 : decode cX0_doOn 15 = .ok (.invokevirtual 33, 3) := by decide +kernel
theorem dX0_doOn_18 : decode cX0_doOn 18 = .ok (.ifCond .ne 4, 3) := by decide +kernel
theorem dX0_doOn_21 : decode cX0_doOn 21 = .ok (.return_, 1) := by decide +kernel
theorem dX0_doOn_22 : decode cX0_doOn 22 = .ok (.aload_n 1, 1) := by decide +kernel
theorem dX0_doOn_23 : decode cX0_doOn 23 = .ok (.getfield 36, 3) := by decide +kernel
theorem dX0_doOn_26 : decode cX0_doOn 26 = .ok (.aload_n 0, 1) := by decide +kernel
theorem dX0_doOn_27 : decode cX0_doOn 27 = .ok (.getfield 19, 3) := by decide +kernel
theorem dX0_doOn_30 : decode cX0_doOn 30 = .ok (.iload_n 2, 1) := by decide +kernel
theorem dX0_doOn_31 : decode cX0_doOn 31 = .ok (.iaload, 1) := by decide +kernel
theorem dX0_doOn_32 : decode cX0_doOn 32 = .ok (.aaload, 1) := by decide +kernel
theorem dX0_doOn_33 : decode cX0_doOn 33 = .ok (.astore_n 3, 1) := by decide +kernel
theorem dX0_doOn_34 : decode cX0_doOn 34 = .ok (.aload_n 0, 1) := by decide +kernel
theorem dX0_doOn_35 : decode cX0_doOn 35 = .ok (.getfield 22, 3) := by decide +kernel
theorem dX0_doOn_38 : decode cX0_doOn 38 = .ok (.iload_n 2, 1) := by decide +kernel
theorem dX0_doOn_39 : decode cX0_doOn 39 = .ok (.iaload, 1) := by decide +kernel
theorem dX0_doOn_40 : decode cX0_doOn 40 = .ok (.istore 4, 2) := by decide +kernel
theorem dX0_doOn_42 : decode cX0_doOn 42 = .ok (.aload_n 0, 1) := by decide +kernel
theorem dX0_doOn_43 : decode cX0_doOn 43 = .ok (.getfield 15, 3) := by decide +kernel
theorem dX0_doOn_46 : decode cX0_doOn 46 = .ok (.iload_n 2, 1) := by decide +kernel
theorem dX0_doOn_47 : decode cX0_doOn 47 = .ok (.iaload, 1) := by decide +kernel
theorem dX0_doOn_48 : decode cX0_doOn 48 = .ok (.tableswitch 75 0 2 #[28, 37, 58], 28) := by decide +kernel
theorem dX0_doOn_76 : decode cX0_doOn 76 = .ok (.aload_n 3, 1) := by decide +kernel
theorem dX0_doOn_77 : decode cX0_doOn 77 = .ok (.iload 4, 2) := by decide +kernel
theorem dX0_doOn_79 : decode cX0_doOn 79 = .ok (.invokevirtual 40, 3) := by decide +kernel
theorem dX0_doOn_82 : decode cX0_doOn 82 = .ok (.goto 59, 3) := by decide +kernel
theorem dX0_doOn_85 : decode cX0_doOn 85 = .ok (.aload_n 3, 1) := by decide +kernel
theorem dX0_doOn_86 : decode cX0_doOn 86 = .ok (.iconst 2, 1) := by decide +kernel
theorem dX0_doOn_87 : decode cX0_doOn 87 = .ok (.aload_n 3, 1) := by decide +kernel
theorem dX0_doOn_88 : decode cX0_doOn 88 = .ok (.getfield 46, 3) := by decide +kernel
theorem dX0_doOn_91 : decode cX0_doOn 91 = .ok (.iload 4, 2) := by decide +kernel
theorem dX0_doOn_93 : decode cX0_doOn 93 = .ok (.iadd, 1) := by decide +kernel
theorem dX0_doOn_94 : decode cX0_doOn 94 = .ok (.sipush 999, 3) := by decide +kernel
theorem dX0_doOn_97 : decode cX0_doOn 97 = .ok (.invokestatic 49, 3) := by decide +kernel
theorem dX0_doOn_100 : decode cX0_doOn 100 = .ok (.invokevirtual 55, 3) := by decide +kernel
theorem dX0_doOn_103 : decode cX0_doOn 103 = .ok (.goto 38, 3) := by decide +kernel
theorem dX0_doOn_106 : decode cX0_doOn 106 = .ok (.aload_n 3, 1) := by decide +kernel
theorem dX0_doOn_107 : decode cX0_doOn 107 = .ok (.iconst 0, 1) := by decide +kernel
theorem dX0_doOn_108 : decode cX0_doOn 108 = .ok (.aload_n 3, 1) := by decide +kernel
theorem dX0_doOn_109 : decode cX0_doOn 109 = .ok (.getfield 59, 3) := by decide +kernel
theorem dX0_doOn_112 : decode cX0_doOn 112 = .ok (.iload 4, 2) := by decide +kernel
theorem dX0_doOn_114 : decode cX0_doOn 114 = .ok (.invokestatic 49, 3) := by decide +kernel
theorem dX0_doOn_117 : decode cX0_doOn 117 = .ok (.invokevirtual 55, 3) := by decide +kernel
theorem dX0_doOn_120 : decode cX0_doOn 120 = .ok (.goto 21, 3) := by decide +kernel
theorem dX0_doOn_123 : decode cX0_doOn 123 = .ok (.aload_n 3, 1) := by decide +kernel
theorem dX0_doOn_124 : decode cX0_doOn 124 = .ok (.iconst 1, 1) := by decide +kernel
theorem dX0_doOn_125 : decode cX0_doOn 125 = .ok (.aload_n 3, 1) := by decide +kernel
theorem dX0_doOn_126 : decode cX0_doOn 126 = .ok (.getfield 62, 3) := by decide +kernel
theorem dX0_doOn_129 : decode cX0_doOn 129 = .ok (.iload 4, 2) := by decide +kernel
theorem dX0_doOn_131 : decode cX0_doOn 131 = .ok (.iadd, 1) := by decide +kernel
theorem dX0_doOn_132 : decode cX0_doOn 132 = .ok (.sipush 999, 3) := by decide +kernel
theorem dX0_doOn_135 : decode cX0_doOn 135 = .ok (.invokestatic 49, 3) := by decide +kernel
theorem dX0_doOn_138 : decode cX0_doOn 138 = .ok (.invokevirtual 55, 3) := by decide +kernel
theorem dX0_doOn_141 : decode cX0_doOn 141 = .ok (.return_, 1) := by decide +kernel
theorem dX1_init_0 : decode cX1_init 0 = .ok (.aload_n 0, 1) := by decide +kernel
theorem dX1_init_1 : decode cX1_init 1 = .ok (.invokespecial 3, 3) := by decide +kernel
theorem dX1_init_4 : decode cX1_init 4 = .ok (.aload_n 0, 1) := by decide +kernel
theorem dX1_init_5 : decode cX1_init 5 = .ok (.iconst 0, 1) := by decide +kernel
theorem dX1_init_6 : decode cX1_init 6 = .ok (.putfield 9, 3) := by decide +kernel
theorem dX1_init_9 : decode cX1_init 9 = .ok (.aload_n 0, 1) := by decide +kernel
theorem dX1_init_10 : decode cX1_init 10 = .ok (.iconst 0, 1) := by decide +kernel
theorem dX1_init_11 : decode cX1_init 11 = .ok (.putfield 15, 3) := by decide +kernel
theorem dX1_init_14 : decode cX1_init 14 = .ok (.aload_n 0, 1) := by decide +kernel
theorem dX1_init_15 : decode cX1_init 15 = .ok (.iconst 0, 1) := by decide +kernel
theorem dX1_init_16 : decode cX1_init 16 = .ok (.putfield 18, 3) := by decide +kernel
theorem dX1_init_19 : decode cX1_init 19 = .ok (.aload_n 0, 1) := by decide +kernel
theorem dX1_init_20 : decode cX1_init 20 = .ok (.iconst 0, 1) := by decide +kernel
theorem dX1_init_21 : decode cX1_init 21 = .ok (.putfield 21, 3) := by decide +kernel
theorem dX1_init_24 : decode cX1_init 24 = .ok (.aload_n 0, 1) := by decide +kernel
theorem dX1_init_25 : decode cX1_init 25 = .ok (.bipush 25, 2) := by decide +kernel
theorem dX1_init_27 : decode cX1_init 27 = .ok (.newarray .int, 2) := by decide +kernel
theorem dX1_init_29 : decode cX1_init 29 = .ok (.putfield 24, 3) := by decide +kernel
theorem dX1_init_32 : decode cX1_init 32 = .ok (.aload_n 0, 1) := by decide +kernel
theorem dX1_init_33 : decode cX1_init 33 = .ok (.bipush 125, 2) := by decide +kernel
theorem dX1_init_35 : decode cX1_init 35 = .ok (.newarray .int, 2) := by decide +kernel
theorem dX1_init_37 : decode cX1_init 37 = .ok (.putfield 28, 3) := by decide +kernel
theorem dX1_init_40 : decode cX1_init 40 = .ok (.aload_n 0, 1) := by decide +kernel
theorem dX1_init_41 : decode cX1_init 41 = .ok (.iconst 0, 1) := by decide +kernel
theorem dX1_init_42 : decode cX1_init 42 = .ok (.putfield 31, 3) := by decide +kernel
theorem dX1_init_45 : decode cX1_init 45 = .ok (.aload_n 0, 1) := by decide +kernel
theorem dX1_init_46 : decode cX1_init 46 = .ok (.aload_n 1, 1) := by decide +kernel
theorem dX1_init_47 : decode cX1_init 47 = .ok (.putfield 35, 3) := by decide +kernel
theorem dX1_init_50 : decode cX1_init 50 = .ok (.aload_n 0, 1) := by decide +kernel
theorem dX1_init_51 : decode cX1_init 51 = .ok (.aload_n 2, 1) := by decide +kernel
theorem dX1_init_52 : decode cX1_init 52 = .ok (.putfield 39, 3) := by decide +kernel
theorem dX1_init_55 : decode cX1_init 55 = .ok (.return_, 1) := by decide +kernel
theorem dX1_clear_0 : decode cX1_clear 0 = .ok (.aload_n 0, 1) := by decide +kernel
theorem dX1_clear_1 : decode cX1_clear 1 = .ok (.iconst 0, 1) := by decide +kernel
theorem dX1_clear_2 : decode cX1_clear 2 = .ok (.putfield 9, 3) := by decide +kernel
theorem dX1_clear_5 : decode cX1_clear 5 = .ok (.aload_n 0, 1) := by decide +kernel
theorem dX1_clear_6 : decode cX1_clear 6 = .ok (.iconst 0, 1) := by decide +kernel
theorem dX1_clear_7 : decode cX1_clear 7 = .ok (.putfield 15, 3) := by decide +kernel
theorem dX1_clear_10 : decode cX1_clear 10 = .ok (.aload_n 0, 1) := by decide +kernel
theorem dX1_clear_11 : decode cX1_clear 11 = .ok (.iconst 0, 1) := by decide +kernel
theorem dX1_clear_12 : decode cX1_clear 12 = .ok (.putfield 18, 3) := by decide +kernel
theorem dX1_clear_15 : decode cX1_clear 15 = .ok (.aload_n 0, 1) := by decide +kernel
theorem dX1_clear_16 : decode cX1_clear 16 = .ok (.iconst 0, 1) := by decide +kernel
theorem dX1_clear_17 : decode cX1_clear 17 = .ok (.putfield 21, 3) := by decide +kernel
theorem dX1_clear_20 : decode cX1_clear 20 = .ok (.aload_n 0, 1) := by decide +kernel
theorem dX1_clear_21 : decode cX1_clear 21 = .ok (.iconst 0, 1) := by decide +kernel
theorem dX1_clear_22 : decode cX1_clear 22 = .ok (.putfield 31, 3) := by decide +kernel
theorem dX1_clear_25 : decode cX1_clear 25 = .ok (.return_, 1) := by decide +kernel
theorem dX1_copy_0 : decode cX1_copy 0 = .ok (.aload_n 0, 1) := by decide +kernel
theorem dX1_copy_1 : decode cX1_copy 1 = .ok (.aload_n 1, 1) := by decide +kernel
theorem dX1_copy_2 : decode cX1_copy 2 = .ok (.getfield 9, 3) := by decide +kernel
theorem dX1_copy_5 : decode cX1_copy 5 = .ok (.putfield 9, 3) := by decide +kernel
theorem dX1_copy_8 : decode cX1_copy 8 = .ok (.aload_n 0, 1) := by decide +kernel
theorem dX1_copy_9 : decode cX1_copy 9 = .ok (.aload_n 1, 1) := by decide +kernel
theorem dX1_copy_10 : decode cX1_copy 10 = .ok (.getfield 15, 3) := by decide +kernel
theorem dX1_copy_13 : decode cX1_copy 13 = .ok (.putfield 15, 3) := by decide +kernel
theorem dX1_copy_16 : decode cX1_copy 16 = .ok (.aload_n 0, 1) := by decide +kernel
theorem dX1_copy_17 : decode cX1_copy 17 = .ok (.aload_n 1, 1) := by decide +kernel
theorem dX1_copy_18 : decode cX1_copy 18 = .ok (.getfield 18, 3) := by decide +kernel
theorem dX1_copy_21 : decode cX1_copy 21 = .ok (.putfield 18, 3) := by decide +kernel
theorem dX1_copy_24 : decode cX1_copy 24 = .ok (.aload_n 0, 1) := by decide +kernel
theorem dX1_copy_25 : decode cX1_copy 25 = .ok (.aload_n 1, 1) := by decide +kernel
theorem dX1_copy_26 : decode cX1_copy 26 = .ok (.getfield 21, 3) := by decide +kernel
theorem dX1_copy_29 : decode cX1_copy 29 = .ok (.putfield 21, 3) := by decide +kernel
theorem dX1_copy_32 : decode cX1_copy 32 = .ok (.aload_n 1, 1) := by decide +kernel
theorem dX1_copy_33 : decode cX1_copy 33 = .ok (.getfield 24, 3) := by decide +kernel
theorem dX1_copy_36 : decode cX1_copy 36 = .ok (.iconst 0, 1) := by decide +kernel
theorem dX1_copy_37 : decode cX1_copy 37 = .ok (.aload_n 0, 1) := by decide +kernel
theorem dX1_copy_38 : decode cX1_copy 38 = .ok (.getfield 24, 3) := by decide +kernel
theorem dX1_copy_41 : decode cX1_copy 41 = .ok (.iconst 0, 1) := by decide +kernel
theorem dX1_copy_42 : decode cX1_copy 42 = .ok (.bipush 25, 2) := by decide +kernel
theorem dX1_copy_44 : decode cX1_copy 44 = .ok (.invokestatic 42, 3) := by decide +kernel
theorem dX1_copy_47 : decode cX1_copy 47 = .ok (.aload_n 1, 1) := by decide +kernel
theorem dX1_copy_48 : decode cX1_copy 48 = .ok (.getfield 28, 3) := by decide +kernel
theorem dX1_copy_51 : decode cX1_copy 51 = .ok (.iconst 0, 1) := by decide +kernel
theorem dX1_copy_52 : decode cX1_copy 52 = .ok (.aload_n 0, 1) := by decide +kernel
theorem dX1_copy_53 : decode cX1_copy 53 = .ok (.getfield 28, 3) := by decide +kernel
theorem dX1_copy_56 : decode cX1_copy 56 = .ok (.iconst 0, 1) := by decide +kernel
theorem dX1_copy_57 : decode cX1_copy 57 = .ok (.bipush 125, 2) := by decide +kernel
theorem dX1_copy_59 : decode cX1_copy 59 = .ok (.invokestatic 42, 3) := by decide +kernel
theorem dX1_copy_62 : decode cX1_copy 62 = .ok (.aload_n 0, 1) := by decide +kernel
theorem dX1_copy_63 : decode cX1_copy 63 = .ok (.aload_n 1, 1) := by decide +kernel
theorem dX1_copy_64 : decode cX1_copy 64 = .ok (.getfield 31, 3) := by decide +kernel
theorem dX1_copy_67 : decode cX1_copy 67 = .ok (.putfield 31, 3) := by decide +kernel
theorem dX1_copy_70 : decode cX1_copy 70 = .ok (.return_, 1) := by decide +kernel
theorem dX1_pile_0 : decode cX1_pile 0 = .ok (.aload_n 0, 1) := by decide +kernel
theorem dX1_pile_1 : decode cX1_pile 1 = .ok (.getfield 9, 3) := by decide +kernel
theorem dX1_pile_4 : decode cX1_pile 4 = .ok (.iload_n 2, 1) := by decide +kernel
theorem dX1_pile_5 : decode cX1_pile 5 = .ok (.iadd, 1) := by decide +kernel
theorem dX1_pile_6 : decode cX1_pile 6 = .ok (.bipush 24, 2) := by decide +kernel
theorem dX1_pile_8 : decode cX1_pile 8 = .ok (.invokestatic 48, 3) := by decide +kernel
theorem dX1_pile_11 : decode cX1_pile 11 = .ok (.istore_n 3, 1) := by decide +kernel
theorem dX1_pile_12 : decode cX1_pile 12 = .ok (.aload_n 0, 1) := by decide +kernel
theorem dX1_pile_13 : decode cX1_pile 13 = .ok (.getfield 9, 3) := by decide +kernel
theorem dX1_pile_16 : decode cX1_pile 16 = .ok (.istore 4, 2) := by decide +kernel
theorem dX1_pile_18 : decode cX1_pile 18 = .ok (.iload 4, 2) := by decide +kernel
theorem dX1_pile_20 : decode cX1_pile 20 = .ok (.iload_n 3, 1) := by decide +kernel
theorem dX1_pile_21 : decode cX1_pile 21 = .ok (.if_icmp .ge 17, 3) := by decide +kernel
theorem dX1_pile_24 : decode cX1_pile 24 = .ok (.aload_n 0, 1) := by decide +kernel
theorem dX1_pile_25 : decode cX1_pile 25 = .ok (.getfield 39, 3) := by decide +kernel
theorem dX1_pile_28 : decode cX1_pile 28 = .ok (.iload 4, 2) := by decide +kernel
theorem dX1_pile_30 : decode cX1_pile 30 = .ok (.iload_n 1, 1) := by decide +kernel
theorem dX1_pile_31 : decode cX1_pile 31 = .ok (.iastore, 1) := by decide +kernel
theorem dX1_pile_32 : decode cX1_pile 32 = .ok (.iinc 4 1, 3) := by decide +kernel
theorem dX1_pile_35 : decode cX1_pile 35 = .ok (.goto (-17), 3) := by decide +kernel
theorem dX1_pile_38 : decode cX1_pile 38 = .ok (.aload_n 0, 1) := by decide +kernel
theorem dX1_pile_39 : decode cX1_pile 39 = .ok (.iload_n 3, 1) := by decide +kernel
theorem dX1_pile_40 : decode cX1_pile 40 = .ok (.putfield 9, 3) := by decide +kernel
theorem dX1_pile_43 : decode cX1_pile 43 = .ok (.aload_n 0, 1) := by decide +kernel
theorem dX1_pile_44 : decode cX1_pile 44 = .ok (.iconst 0, 1) := by decide +kernel
theorem dX1_pile_45 : decode cX1_pile 45 = .ok (.putfield 31, 3) := by decide +kernel
theorem dX1_pile_48 : decode cX1_pile 48 = .ok (.return_, 1) := by decide +kernel
theorem dX1_digTo_0 : decode cX1_digTo 0 = .ok (.aload_n 0, 1) := by decide +kernel
theorem dX1_digTo_1 : decode cX1_digTo 1 = .ok (.aload_n 0, 1) := by decide +kernel
theorem dX1_digTo_2 : decode cX1_digTo 2 = .ok (.getfield 9, 3) := by decide +kernel
theorem dX1_digTo_5 : decode cX1_digTo 5 = .ok (.iload_n 1, 1) := by decide +kernel
theorem dX1_digTo_6 : decode cX1_digTo 6 = .ok (.invokestatic 48, 3) := by decide +kernel
theorem dX1_digTo_9 : decode cX1_digTo 9 = .ok (.putfield 9, 3) := by decide +kernel
theorem dX1_digTo_12 : decode cX1_digTo 12 = .ok (.aload_n 0, 1) := by decide +kernel
theorem dX1_digTo_13 : decode cX1_digTo 13 = .ok (.iconst 0, 1) := by decide +kernel
theorem dX1_digTo_14 : decode cX1_digTo 14 = .ok (.putfield 31, 3) := by decide +kernel
theorem dX1_digTo_17 : decode cX1_digTo 17 = .ok (.return_, 1) := by decide +kernel
theorem dX1_put_0 : decode cX1_put 0 = .ok (.iload_n 1, 1) := by decide +kernel
theorem dX1_put_1 : decode cX1_put 1 = .ok (.ifCond .ne 11, 3) := by decide +kernel
theorem dX1_put_4 : decode cX1_put 4 = .ok (.aload_n 0, 1) := by decide +kernel
theorem dX1_put_5 : decode cX1_put 5 = .ok (.iload_n 2, 1) := by decide +kernel
theorem dX1_put_6 : decode cX1_put 6 = .ok (.putfield 15, 3) := by decide +kernel
theorem dX1_put_9 : decode cX1_put 9 = .ok (.goto 21, 3) := by decide +kernel
theorem dX1_put_12 : decode cX1_put 12 = .ok (.iload_n 1, 1) := by decide +kernel
theorem dX1_put_13 : decode cX1_put 13 = .ok (.iconst 1, 1) := by decide +kernel
theorem dX1_put_14 : decode cX1_put 14 = .ok (.if_icmp .ne 11, 3) := by decide +kernel
theorem dX1_put_17 : decode cX1_put 17 = .ok (.aload_n 0, 1) := by decide +kernel
theorem dX1_put_18 : decode cX1_put 18 = .ok (.iload_n 2, 1) := by decide +kernel
theorem dX1_put_19 : decode cX1_put 19 = .ok (.putfield 18, 3) := by decide +kernel
theorem dX1_put_22 : decode cX1_put 22 = .ok (.goto 8, 3) := by decide +kernel
theorem dX1_put_25 : decode cX1_put 25 = .ok (.aload_n 0, 1) := by decide +kernel
theorem dX1_put_26 : decode cX1_put 26 = .ok (.iload_n 2, 1) := by decide +kernel
theorem dX1_put_27 : decode cX1_put 27 = .ok (.putfield 21, 3) := by decide +kernel
theorem dX1_put_30 : decode cX1_put 30 = .ok (.aload_n 0, 1) := by decide +kernel
theorem dX1_put_31 : decode cX1_put 31 = .ok (.iconst 0, 1) := by decide +kernel
theorem dX1_put_32 : decode cX1_put 32 = .ok (.putfield 31, 3) := by decide +kernel
theorem dX1_put_35 : decode cX1_put 35 = .ok (.return_, 1) := by decide +kernel
theorem dX1_holdsAt_0 : decode cX1_holdsAt 0 = .ok (.iload_n 1, 1) := by decide +kernel
theorem dX1_holdsAt_1 : decode cX1_holdsAt 1 = .ok (.ifCond .lt 30, 3) := by decide +kernel
theorem dX1_holdsAt_4 : decode cX1_holdsAt 4 = .ok (.iload_n 1, 1) := by decide +kernel
theorem dX1_holdsAt_5 : decode cX1_holdsAt 5 = .ok (.aload_n 0, 1) := by decide +kernel
theorem dX1_holdsAt_6 : decode cX1_holdsAt 6 = .ok (.getfield 9, 3) := by decide +kernel
theorem dX1_holdsAt_9 : decode cX1_holdsAt 9 = .ok (.if_icmp .ge 22, 3) := by decide +kernel
theorem dX1_holdsAt_12 : decode cX1_holdsAt 12 = .ok (.iload_n 2, 1) := by decide +kernel
theorem dX1_holdsAt_13 : decode cX1_holdsAt 13 = .ok (.ifCond .lt 18, 3) := by decide +kernel
theorem dX1_holdsAt_16 : decode cX1_holdsAt 16 = .ok (.iload_n 2, 1) := by decide +kernel
theorem dX1_holdsAt_17 : decode cX1_holdsAt 17 = .ok (.iconst 5, 1) := by decide +kernel
theorem dX1_holdsAt_18 : decode cX1_holdsAt 18 = .ok (.if_icmp .ge 13, 3) := by decide +kernel
theorem dX1_holdsAt_21 : decode cX1_holdsAt 21 = .ok (.iload_n 1, 1) := by decide +kernel
theorem dX1_holdsAt_22 : decode cX1_holdsAt 22 = .ok (.iload_n 2, 1) := by decide +kernel
theorem dX1_holdsAt_23 : decode cX1_holdsAt 23 = .ok (.iadd, 1) := by decide +kernel
theorem dX1_holdsAt_24 : decode cX1_holdsAt 24 = .ok (.aload_n 0, 1) := by decide +kernel
theorem dX1_holdsAt_25 : decode cX1_holdsAt 25 = .ok (.getfield 9, 3) := by decide +kernel
theorem dX1_holdsAt_28 : decode cX1_holdsAt 28 = .ok (.if_icmp .le 5, 3) := by decide +kernel
theorem dX1_holdsAt_31 : decode cX1_holdsAt 31 = .ok (.iconst (-1), 1) := by decide +kernel
theorem dX1_holdsAt_32 : decode cX1_holdsAt 32 = .ok (.ireturn, 1) := by decide +kernel
theorem dX1_holdsAt_33 : decode cX1_holdsAt 33 = .ok (.aload_n 0, 1) := by decide +kernel
theorem dX1_holdsAt_34 : decode cX1_holdsAt 34 = .ok (.getfield 28, 3) := by decide +kernel
theorem dX1_holdsAt_37 : decode cX1_holdsAt 37 = .ok (.iload_n 1, 1) := by decide +kernel
theorem dX1_holdsAt_38 : decode cX1_holdsAt 38 = .ok (.iconst 5, 1) := by decide +kernel
theorem dX1_holdsAt_39 : decode cX1_holdsAt 39 = .ok (.imul, 1) := by decide +kernel
theorem dX1_holdsAt_40 : decode cX1_holdsAt 40 = .ok (.iload_n 2, 1) := by decide +kernel
theorem dX1_holdsAt_41 : decode cX1_holdsAt 41 = .ok (.iadd, 1) := by decide +kernel
theorem dX1_holdsAt_42 : decode cX1_holdsAt 42 = .ok (.iaload, 1) := by decide +kernel
theorem dX1_holdsAt_43 : decode cX1_holdsAt 43 = .ok (.ireturn, 1) := by decide +kernel
theorem dX1_drivesFrom_0 : decode cX1_drivesFrom 0 = .ok (.iload_n 1, 1) := by decide +kernel
theorem dX1_drivesFrom_1 : decode cX1_drivesFrom 1 = .ok (.ifCond .lt 25, 3) := by decide +kernel
theorem dX1_drivesFrom_4 : decode cX1_drivesFrom 4 = .ok (.iload_n 1, 1) := by decide +kernel
theorem dX1_drivesFrom_5 : decode cX1_drivesFrom 5 = .ok (.aload_n 0, 1) := by decide +kernel
theorem dX1_drivesFrom_6 : decode cX1_drivesFrom 6 = .ok (.getfield 9, 3) := by decide +kernel
theorem dX1_drivesFrom_9 : decode cX1_drivesFrom 9 = .ok (.if_icmp .gt 17, 3) := by decide +kernel
theorem dX1_drivesFrom_12 : decode cX1_drivesFrom 12 = .ok (.bipush 10, 2) := by decide +kernel
theorem dX1_drivesFrom_14 : decode cX1_drivesFrom 14 = .ok (.aload_n 0, 1) := by decide +kernel
theorem dX1_drivesFrom_15 : decode cX1_drivesFrom 15 = .ok (.getfield 24, 3) := by decide +kernel
theorem dX1_drivesFrom_18 : decode cX1_drivesFrom 18 = .ok (.iload_n 1, 1) := by decide +kernel
theorem dX1_drivesFrom_19 : decode cX1_drivesFrom 19 = .ok (.iaload, 1) := by decide +kernel
theorem dX1_drivesFrom_20 : decode cX1_drivesFrom 20 = .ok (.imul, 1) := by decide +kernel
theorem dX1_drivesFrom_21 : decode cX1_drivesFrom 21 = .ok (.iload_n 2, 1) := by decide +kernel
theorem dX1_drivesFrom_22 : decode cX1_drivesFrom 22 = .ok (.imul, 1) := by decide +kernel
theorem dX1_drivesFrom_23 : decode cX1_drivesFrom 23 = .ok (.goto 4, 3) := by decide +kernel
theorem dX1_drivesFrom_26 : decode cX1_drivesFrom 26 = .ok (.iconst 0, 1) := by decide +kernel
theorem dX1_drivesFrom_27 : decode cX1_drivesFrom 27 = .ok (.ireturn, 1) := by decide +kernel
set_option maxRecDepth 20000 in
theorem ggX1_reckon_X1_reckonHolds : GoodIn wsX1_reckon wsX1_reckonHolds := goodIn_r _ [13, 7, 5, 14, 15, 16, 17, 18, 19, 20, 2, 21, 22, 23, 24, 25, 26, 27, 28, 29, 30, 31, 32, 33, 34, 35, 36] (by decide +kernel) (by decide +kernel)
set_option maxRecDepth 20000 in
theorem gX1_reckon_X1_reckonHolds : GoodIn wsX1_reckon (wsV RX1 59 RX1 yX1_reckonHolds wsX1_reckonHolds) := goodIn_app (goodIn_of _ (by decide +kernel)) ggX1_reckon_X1_reckonHolds
theorem dX1_reckon_0 : decode cX1_reckon 0 = .ok (.aload_n 0, 1) := by decide +kernel
theorem dX1_reckon_1 : decode cX1_reckon 1 = .ok (.getfield 31, 3) := by decide +kernel
theorem dX1_reckon_4 : decode cX1_reckon 4 = .ok (.ifCond .eq 4, 3) := by decide +kernel
theorem dX1_reckon_7 : decode cX1_reckon 7 = .ok (.return_, 1) := by decide +kernel
theorem dX1_reckon_8 : decode cX1_reckon 8 = .ok (.aload_n 0, 1) := by decide +kernel
theorem dX1_reckon_9 : decode cX1_reckon 9 = .ok (.getfield 24, 3) := by decide +kernel
theorem dX1_reckon_12 : decode cX1_reckon 12 = .ok (.aload_n 0, 1) := by decide +kernel
theorem dX1_reckon_13 : decode cX1_reckon 13 = .ok (.getfield 9, 3) := by decide +kernel
theorem dX1_reckon_16 : decode cX1_reckon 16 = .ok (.aload_n 0, 1) := by decide +kernel
theorem dX1_reckon_17 : decode cX1_reckon 17 = .ok (.getfield 18, 3) := by decide +kernel
theorem dX1_reckon_20 : decode cX1_reckon 20 = .ok (.iastore, 1) := by decide +kernel
theorem dX1_reckon_21 : decode cX1_reckon 21 = .ok (.aload_n 0, 1) := by decide +kernel
theorem dX1_reckon_22 : decode cX1_reckon 22 = .ok (.getfield 9, 3) := by decide +kernel
theorem dX1_reckon_25 : decode cX1_reckon 25 = .ok (.iconst 1, 1) := by decide +kernel
theorem dX1_reckon_26 : decode cX1_reckon 26 = .ok (.isub, 1) := by decide +kernel
theorem dX1_reckon_27 : decode cX1_reckon 27 = .ok (.istore_n 1, 1) := by decide +kernel
theorem dX1_reckon_28 : decode cX1_reckon 28 = .ok (.iload_n 1, 1) := by decide +kernel
theorem dX1_reckon_29 : decode cX1_reckon 29 = .ok (.ifCond .lt 38, 3) := by decide +kernel
theorem dX1_reckon_32 : decode cX1_reckon 32 = .ok (.aload_n 0, 1) := by decide +kernel
theorem dX1_reckon_33 : decode cX1_reckon 33 = .ok (.getfield 24, 3) := by decide +kernel
theorem dX1_reckon_36 : decode cX1_reckon 36 = .ok (.iload_n 1, 1) := by decide +kernel
theorem dX1_reckon_37 : decode cX1_reckon 37 = .ok (.aload_n 0, 1) := by decide +kernel
theorem dX1_reckon_38 : decode cX1_reckon 38 = .ok (.getfield 24, 3) := by decide +kernel
theorem dX1_reckon_41 : decode cX1_reckon 41 = .ok (.iload_n 1, 1) := by decide +kernel
theorem dX1_reckon_42 : decode cX1_reckon 42 = .ok (.iconst 1, 1) := by decide +kernel
theorem dX1_reckon_43 : decode cX1_reckon 43 = .ok (.iadd, 1) := by decide +kernel
theorem dX1_reckon_44 : decode cX1_reckon 44 = .ok (.iaload, 1) := by decide +kernel
theorem dX1_reckon_45 : decode cX1_reckon 45 = .ok (.aload_n 0, 1) := by decide +kernel
theorem dX1_reckon_46 : decode cX1_reckon 46 = .ok (.getfield 35, 3) := by decide +kernel
theorem dX1_reckon_49 : decode cX1_reckon 49 = .ok (.getfield 54, 3) := by decide +kernel
theorem dX1_reckon_52 : decode cX1_reckon 52 = .ok (.aload_n 0, 1) := by decide +kernel
theorem dX1_reckon_53 : decode cX1_reckon 53 = .ok (.getfield 39, 3) := by decide +kernel
theorem dX1_reckon_56 : decode cX1_reckon 56 = .ok (.iload_n 1, 1) := by decide +kernel
theorem dX1_reckon_57 : decode cX1_reckon 57 = .ok (.iaload, 1) := by decide +kernel
theorem dX1_reckon_58 : decode cX1_reckon 58 = .ok (.iaload, 1) := by decide +kernel
theorem dX1_reckon_59 : decode cX1_reckon 59 = .ok (.iadd, 1) := by decide +kernel
theorem dX1_reckon_60 : decode cX1_reckon 60 = .ok (.iastore, 1) := by decide +kernel
theorem dX1_reckon_61 : decode cX1_reckon 61 = .ok (.iinc 1 (-1), 3) := by decide +kernel
theorem dX1_reckon_64 : decode cX1_reckon 64 = .ok (.goto (-36), 3) := by decide +kernel
theorem dX1_reckon_67 : decode cX1_reckon 67 = .ok (.iconst 0, 1) := by decide +kernel
theorem dX1_reckon_68 : decode cX1_reckon 68 = .ok (.istore_n 1, 1) := by decide +kernel
theorem dX1_reckon_69 : decode cX1_reckon 69 = .ok (.iload_n 1, 1) := by decide +kernel
theorem dX1_reckon_70 : decode cX1_reckon 70 = .ok (.aload_n 0, 1) := by decide +kernel
theorem dX1_reckon_71 : decode cX1_reckon 71 = .ok (.getfield 9, 3) := by decide +kernel
theorem dX1_reckon_74 : decode cX1_reckon 74 = .ok (.if_icmp .ge 52, 3) := by decide +kernel
theorem dX1_reckon_77 : decode cX1_reckon 77 = .ok (.iconst 0, 1) := by decide +kernel
theorem dX1_reckon_78 : decode cX1_reckon 78 = .ok (.istore_n 2, 1) := by decide +kernel
theorem dX1_reckon_79 : decode cX1_reckon 79 = .ok (.iload_n 2, 1) := by decide +kernel
theorem dX1_reckon_80 : decode cX1_reckon 80 = .ok (.iconst 5, 1) := by decide +kernel
theorem dX1_reckon_81 : decode cX1_reckon 81 = .ok (.if_icmp .ge 39, 3) := by decide +kernel
theorem dX1_reckon_84 : decode cX1_reckon 84 = .ok (.aload_n 0, 1) := by decide +kernel
theorem dX1_reckon_85 : decode cX1_reckon 85 = .ok (.getfield 28, 3) := by decide +kernel
theorem dX1_reckon_88 : decode cX1_reckon 88 = .ok (.iload_n 1, 1) := by decide +kernel
theorem dX1_reckon_89 : decode cX1_reckon 89 = .ok (.iconst 5, 1) := by decide +kernel
theorem dX1_reckon_90 : decode cX1_reckon 90 = .ok (.imul, 1) := by decide +kernel
theorem dX1_reckon_91 : decode cX1_reckon 91 = .ok (.iload_n 2, 1) := by decide +kernel
theorem dX1_reckon_92 : decode cX1_reckon 92 = .ok (.iadd, 1) := by decide +kernel
theorem dX1_reckon_93 : decode cX1_reckon 93 = .ok (.iload_n 1, 1) := by decide +kernel
theorem dX1_reckon_94 : decode cX1_reckon 94 = .ok (.iload_n 2, 1) := by decide +kernel
theorem dX1_reckon_95 : decode cX1_reckon 95 = .ok (.iadd, 1) := by decide +kernel
theorem dX1_reckon_96 : decode cX1_reckon 96 = .ok (.aload_n 0, 1) := by decide +kernel
theorem dX1_reckon_97 : decode cX1_reckon 97 = .ok (.getfield 9, 3) := by decide +kernel
theorem dX1_reckon_100 : decode cX1_reckon 100 = .ok (.if_icmp .le 7, 3) := by decide +kernel
theorem dX1_reckon_103 : decode cX1_reckon 103 = .ok (.iconst (-1), 1) := by decide +kernel
theorem dX1_reckon_104 : decode cX1_reckon 104 = .ok (.goto 9, 3) := by decide +kernel
theorem dX1_reckon_107 : decode cX1_reckon 107 = .ok (.aload_n 0, 1) := by decide +kernel
theorem dX1_reckon_108 : decode cX1_reckon 108 = .ok (.iload_n 1, 1) := by decide +kernel
theorem dX1_reckon_109 : decode cX1_reckon 109 = .ok (.iload_n 2, 1) := by decide +kernel
theorem dX1_reckon_110 : decode cX1_reckon 110 = .ok (.invokevirtual 59, 3) := by decide +kernel
theorem dX1_reckon_113 : decode cX1_reckon 113 = .ok (.iastore, 1) := by decide +kernel
theorem dX1_reckon_114 : decode cX1_reckon 114 = .ok (.iinc 2 1, 3) := by decide +kernel
theorem dX1_reckon_117 : decode cX1_reckon 117 = .ok (.goto (-38), 3) := by decide +kernel
theorem dX1_reckon_120 : decode cX1_reckon 120 = .ok (.iinc 1 1, 3) := by decide +kernel
theorem dX1_reckon_123 : decode cX1_reckon 123 = .ok (.goto (-54), 3) := by decide +kernel
theorem dX1_reckon_126 : decode cX1_reckon 126 = .ok (.aload_n 0, 1) := by decide +kernel
theorem dX1_reckon_127 : decode cX1_reckon 127 = .ok (.iconst 1, 1) := by decide +kernel
theorem dX1_reckon_128 : decode cX1_reckon 128 = .ok (.putfield 31, 3) := by decide +kernel
theorem dX1_reckon_131 : decode cX1_reckon 131 = .ok (.return_, 1) := by decide +kernel
theorem dX1_reckonHolds_0 : decode cX1_reckonHolds 0 = .ok (.aload_n 0, 1) := by decide +kernel
theorem dX1_reckonHolds_1 : decode cX1_reckonHolds 1 = .ok (.getfield 39, 3) := by decide +kernel
theorem dX1_reckonHolds_4 : decode cX1_reckonHolds 4 = .ok (.iload_n 1, 1) := by decide +kernel
theorem dX1_reckonHolds_5 : decode cX1_reckonHolds 5 = .ok (.iaload, 1) := by decide +kernel
theorem dX1_reckonHolds_6 : decode cX1_reckonHolds 6 = .ok (.istore_n 3, 1) := by decide +kernel
theorem dX1_reckonHolds_7 : decode cX1_reckonHolds 7 = .ok (.aload_n 0, 1) := by decide +kernel
theorem dX1_reckonHolds_8 : decode cX1_reckonHolds 8 = .ok (.getfield 35, 3) := by decide +kernel
theorem dX1_reckonHolds_11 : decode cX1_reckonHolds 11 = .ok (.getfield 62, 3) := by decide +kernel
theorem dX1_reckonHolds_14 : decode cX1_reckonHolds 14 = .ok (.iload_n 3, 1) := by decide +kernel
theorem dX1_reckonHolds_15 : decode cX1_reckonHolds 15 = .ok (.baload, 1) := by decide +kernel
theorem dX1_reckonHolds_16 : decode cX1_reckonHolds 16 = .ok (.ifCond .eq 5, 3) := by decide +kernel
theorem dX1_reckonHolds_19 : decode cX1_reckonHolds 19 = .ok (.iconst (-1), 1) := by decide +kernel
theorem dX1_reckonHolds_20 : decode cX1_reckonHolds 20 = .ok (.ireturn, 1) := by decide +kernel
theorem dX1_reckonHolds_21 : decode cX1_reckonHolds 21 = .ok (.iload_n 1, 1) := by decide +kernel
theorem dX1_reckonHolds_22 : decode cX1_reckonHolds 22 = .ok (.iload_n 2, 1) := by decide +kernel
theorem dX1_reckonHolds_23 : decode cX1_reckonHolds 23 = .ok (.iadd, 1) := by decide +kernel
theorem dX1_reckonHolds_24 : decode cX1_reckonHolds 24 = .ok (.istore 4, 2) := by decide +kernel
theorem dX1_reckonHolds_26 : decode cX1_reckonHolds 26 = .ok (.iconst 1, 1) := by decide +kernel
theorem dX1_reckonHolds_27 : decode cX1_reckonHolds 27 = .ok (.iload_n 2, 1) := by decide +kernel
theorem dX1_reckonHolds_28 : decode cX1_reckonHolds 28 = .ok (.iload_n 2, 1) := by decide +kernel
theorem dX1_reckonHolds_29 : decode cX1_reckonHolds 29 = .ok (.imul, 1) := by decide +kernel
theorem dX1_reckonHolds_30 : decode cX1_reckonHolds 30 = .ok (.iadd, 1) := by decide +kernel
theorem dX1_reckonHolds_31 : decode cX1_reckonHolds 31 = .ok (.istore 5, 2) := by decide +kernel
theorem dX1_reckonHolds_33 : decode cX1_reckonHolds 33 = .ok (.bipush 10, 2) := by decide +kernel
theorem dX1_reckonHolds_35 : decode cX1_reckonHolds 35 = .ok (.iload 5, 2) := by decide +kernel
theorem dX1_reckonHolds_37 : decode cX1_reckonHolds 37 = .ok (.imul, 1) := by decide +kernel
theorem dX1_reckonHolds_38 : decode cX1_reckonHolds 38 = .ok (.aload_n 0, 1) := by decide +kernel
theorem dX1_reckonHolds_39 : decode cX1_reckonHolds 39 = .ok (.getfield 15, 3) := by decide +kernel
theorem dX1_reckonHolds_42 : decode cX1_reckonHolds 42 = .ok (.iload 4, 2) := by decide +kernel
theorem dX1_reckonHolds_44 : decode cX1_reckonHolds 44 = .ok (.isub, 1) := by decide +kernel
theorem dX1_reckonHolds_45 : decode cX1_reckonHolds 45 = .ok (.iconst 0, 1) := by decide +kernel
theorem dX1_reckonHolds_46 : decode cX1_reckonHolds 46 = .ok (.invokestatic 66, 3) := by decide +kernel
theorem dX1_reckonHolds_49 : decode cX1_reckonHolds 49 = .ok (.imul, 1) := by decide +kernel
theorem dX1_reckonHolds_50 : decode cX1_reckonHolds 50 = .ok (.istore 6, 2) := by decide +kernel
theorem dX1_reckonHolds_52 : decode cX1_reckonHolds 52 = .ok (.aload_n 0, 1) := by decide +kernel
theorem dX1_reckonHolds_53 : decode cX1_reckonHolds 53 = .ok (.getfield 35, 3) := by decide +kernel
theorem dX1_reckonHolds_56 : decode cX1_reckonHolds 56 = .ok (.getfield 69, 3) := by decide +kernel
theorem dX1_reckonHolds_59 : decode cX1_reckonHolds 59 = .ok (.iload_n 3, 1) := by decide +kernel
theorem dX1_reckonHolds_60 : decode cX1_reckonHolds 60 = .ok (.iaload, 1) := by decide +kernel
theorem dX1_reckonHolds_61 : decode cX1_reckonHolds 61 = .ok (.aload_n 0, 1) := by decide +kernel
theorem dX1_reckonHolds_62 : decode cX1_reckonHolds 62 = .ok (.getfield 24, 3) := by decide +kernel
theorem dX1_reckonHolds_65 : decode cX1_reckonHolds 65 = .ok (.iload 4, 2) := by decide +kernel
theorem dX1_reckonHolds_67 : decode cX1_reckonHolds 67 = .ok (.iaload, 1) := by decide +kernel
theorem dX1_reckonHolds_68 : decode cX1_reckonHolds 68 = .ok (.iload 6, 2) := by decide +kernel
theorem dX1_reckonHolds_70 : decode cX1_reckonHolds 70 = .ok (.isub, 1) := by decide +kernel
theorem dX1_reckonHolds_71 : decode cX1_reckonHolds 71 = .ok (.iconst 0, 1) := by decide +kernel
theorem dX1_reckonHolds_72 : decode cX1_reckonHolds 72 = .ok (.invokestatic 66, 3) := by decide +kernel
theorem dX1_reckonHolds_75 : decode cX1_reckonHolds 75 = .ok (.imul, 1) := by decide +kernel
theorem dX1_reckonHolds_76 : decode cX1_reckonHolds 76 = .ok (.istore 7, 2) := by decide +kernel
theorem dX1_reckonHolds_78 : decode cX1_reckonHolds 78 = .ok (.bipush 10, 2) := by decide +kernel
theorem dX1_reckonHolds_80 : decode cX1_reckonHolds 80 = .ok (.aload_n 0, 1) := by decide +kernel
theorem dX1_reckonHolds_81 : decode cX1_reckonHolds 81 = .ok (.getfield 35, 3) := by decide +kernel
theorem dX1_reckonHolds_84 : decode cX1_reckonHolds 84 = .ok (.getfield 72, 3) := by decide +kernel
theorem dX1_reckonHolds_87 : decode cX1_reckonHolds 87 = .ok (.iload_n 3, 1) := by decide +kernel
theorem dX1_reckonHolds_88 : decode cX1_reckonHolds 88 = .ok (.iaload, 1) := by decide +kernel
theorem dX1_reckonHolds_89 : decode cX1_reckonHolds 89 = .ok (.imul, 1) := by decide +kernel
theorem dX1_reckonHolds_90 : decode cX1_reckonHolds 90 = .ok (.iload 5, 2) := by decide +kernel
theorem dX1_reckonHolds_92 : decode cX1_reckonHolds 92 = .ok (.imul, 1) := by decide +kernel
theorem dX1_reckonHolds_93 : decode cX1_reckonHolds 93 = .ok (.iload 7, 2) := by decide +kernel
theorem dX1_reckonHolds_95 : decode cX1_reckonHolds 95 = .ok (.iadd, 1) := by decide +kernel
theorem dX1_reckonHolds_96 : decode cX1_reckonHolds 96 = .ok (.bipush 10, 2) := by decide +kernel
theorem dX1_reckonHolds_98 : decode cX1_reckonHolds 98 = .ok (.aload_n 0, 1) := by decide +kernel
theorem dX1_reckonHolds_99 : decode cX1_reckonHolds 99 = .ok (.getfield 21, 3) := by decide +kernel
theorem dX1_reckonHolds_102 : decode cX1_reckonHolds 102 = .ok (.imul, 1) := by decide +kernel
theorem dX1_reckonHolds_103 : decode cX1_reckonHolds 103 = .ok (.iadd, 1) := by decide +kernel
theorem dX1_reckonHolds_104 : decode cX1_reckonHolds 104 = .ok (.ireturn, 1) := by decide +kernel
theorem dX2_init_0 : decode cX2_init 0 = .ok (.aload_n 0, 1) := by decide +kernel
theorem dX2_init_1 : decode cX2_init 1 = .ok (.invokespecial 3, 3) := by decide +kernel
theorem dX2_init_4 : decode cX2_init 4 = .ok (.aload_n 0, 1) := by decide +kernel
theorem dX2_init_5 : decode cX2_init 5 = .ok (.bipush 6, 2) := by decide +kernel
theorem dX2_init_7 : decode cX2_init 7 = .ok (.newarray .int, 2) := by decide +kernel
theorem dX2_init_9 : decode cX2_init 9 = .ok (.putfield 9, 3) := by decide +kernel
theorem dX2_init_12 : decode cX2_init 12 = .ok (.aload_n 0, 1) := by decide +kernel
theorem dX2_init_13 : decode cX2_init 13 = .ok (.bipush 6, 2) := by decide +kernel
theorem dX2_init_15 : decode cX2_init 15 = .ok (.newarray .int, 2) := by decide +kernel
theorem dX2_init_17 : decode cX2_init 17 = .ok (.putfield 15, 3) := by decide +kernel
theorem dX2_init_20 : decode cX2_init 20 = .ok (.aload_n 0, 1) := by decide +kernel
theorem dX2_init_21 : decode cX2_init 21 = .ok (.bipush 6, 2) := by decide +kernel
theorem dX2_init_23 : decode cX2_init 23 = .ok (.newarray .int, 2) := by decide +kernel
theorem dX2_init_25 : decode cX2_init 25 = .ok (.putfield 18, 3) := by decide +kernel
theorem dX2_init_28 : decode cX2_init 28 = .ok (.aload_n 0, 1) := by decide +kernel
theorem dX2_init_29 : decode cX2_init 29 = .ok (.bipush 6, 2) := by decide +kernel
theorem dX2_init_31 : decode cX2_init 31 = .ok (.newarray .boolean, 2) := by decide +kernel
theorem dX2_init_33 : decode cX2_init 33 = .ok (.putfield 21, 3) := by decide +kernel
theorem dX2_init_36 : decode cX2_init 36 = .ok (.aload_n 0, 1) := by decide +kernel
theorem dX2_init_37 : decode cX2_init 37 = .ok (.iconst 0, 1) := by decide +kernel
theorem dX2_init_38 : decode cX2_init 38 = .ok (.putfield 25, 3) := by decide +kernel
theorem dX2_init_41 : decode cX2_init 41 = .ok (.return_, 1) := by decide +kernel
set_option maxRecDepth 20000 in
theorem ggX2_has_X7_within : GoodIn wsX2_has wsX7_within := goodIn_r _ [4] (by decide +kernel) (by decide +kernel)
set_option maxRecDepth 20000 in
theorem gX2_has_X7_within_n29 : GoodIn wsX2_has (wsX7_within) := ggX2_has_X7_within
theorem dX2_has_0 : decode cX2_has 0 = .ok (.iload_n 1, 1) := by decide +kernel
theorem dX2_has_1 : decode cX2_has 1 = .ok (.iconst 0, 1) := by decide +kernel
theorem dX2_has_2 : decode cX2_has 2 = .ok (.aload_n 0, 1) := by decide +kernel
theorem dX2_has_3 : decode cX2_has 3 = .ok (.getfield 25, 3) := by decide +kernel
theorem dX2_has_6 : decode cX2_has 6 = .ok (.iconst 1, 1) := by decide +kernel
theorem dX2_has_7 : decode cX2_has 7 = .ok (.isub, 1) := by decide +kernel
theorem dX2_has_8 : decode cX2_has 8 = .ok (.invokestatic 29, 3) := by decide +kernel
theorem dX2_has_11 : decode cX2_has 11 = .ok (.ireturn, 1) := by decide +kernel
theorem dX2_add_0 : decode cX2_add 0 = .ok (.aload_n 0, 1) := by decide +kernel
theorem dX2_add_1 : decode cX2_add 1 = .ok (.getfield 25, 3) := by decide +kernel
theorem dX2_add_4 : decode cX2_add 4 = .ok (.bipush 6, 2) := by decide +kernel
theorem dX2_add_6 : decode cX2_add 6 = .ok (.if_icmp .lt 5, 3) := by decide +kernel
theorem dX2_add_9 : decode cX2_add 9 = .ok (.iconst (-1), 1) := by decide +kernel
theorem dX2_add_10 : decode cX2_add 10 = .ok (.ireturn, 1) := by decide +kernel
theorem dX2_add_11 : decode cX2_add 11 = .ok (.aload_n 0, 1) := by decide +kernel
theorem dX2_add_12 : decode cX2_add 12 = .ok (.getfield 9, 3) := by decide +kernel
theorem dX2_add_15 : decode cX2_add 15 = .ok (.aload_n 0, 1) := by decide +kernel
theorem dX2_add_16 : decode cX2_add 16 = .ok (.getfield 25, 3) := by decide +kernel
theorem dX2_add_19 : decode cX2_add 19 = .ok (.iload_n 1, 1) := by decide +kernel
theorem dX2_add_20 : decode cX2_add 20 = .ok (.iastore, 1) := by decide +kernel
theorem dX2_add_21 : decode cX2_add 21 = .ok (.aload_n 0, 1) := by decide +kernel
theorem dX2_add_22 : decode cX2_add 22 = .ok (.getfield 15, 3) := by decide +kernel
theorem dX2_add_25 : decode cX2_add 25 = .ok (.aload_n 0, 1) := by decide +kernel
theorem dX2_add_26 : decode cX2_add 26 = .ok (.getfield 25, 3) := by decide +kernel
theorem dX2_add_29 : decode cX2_add 29 = .ok (.iload_n 2, 1) := by decide +kernel
theorem dX2_add_30 : decode cX2_add 30 = .ok (.iastore, 1) := by decide +kernel
theorem dX2_add_31 : decode cX2_add 31 = .ok (.aload_n 0, 1) := by decide +kernel
theorem dX2_add_32 : decode cX2_add 32 = .ok (.getfield 18, 3) := by decide +kernel
theorem dX2_add_35 : decode cX2_add 35 = .ok (.aload_n 0, 1) := by decide +kernel
theorem dX2_add_36 : decode cX2_add 36 = .ok (.getfield 25, 3) := by decide +kernel
theorem dX2_add_39 : decode cX2_add 39 = .ok (.iload_n 3, 1) := by decide +kernel
theorem dX2_add_40 : decode cX2_add 40 = .ok (.iastore, 1) := by decide +kernel
theorem dX2_add_41 : decode cX2_add 41 = .ok (.aload_n 0, 1) := by decide +kernel
theorem dX2_add_42 : decode cX2_add 42 = .ok (.getfield 21, 3) := by decide +kernel
theorem dX2_add_45 : decode cX2_add 45 = .ok (.aload_n 0, 1) := by decide +kernel
theorem dX2_add_46 : decode cX2_add 46 = .ok (.getfield 25, 3) := by decide +kernel
theorem dX2_add_49 : decode cX2_add 49 = .ok (.iload 4, 2) := by decide +kernel
theorem dX2_add_51 : decode cX2_add 51 = .ok (.bastore, 1) := by decide +kernel
theorem dX2_add_52 : decode cX2_add 52 = .ok (.aload_n 0, 1) := by decide +kernel
theorem dX2_add_53 : decode cX2_add 53 = .ok (.dup, 1) := by decide +kernel
theorem dX2_add_54 : decode cX2_add 54 = .ok (.getfield 25, 3) := by decide +kernel
theorem dX2_add_57 : decode cX2_add 57 = .ok (.iconst 1, 1) := by decide +kernel
theorem dX2_add_58 : decode cX2_add 58 = .ok (.iadd, 1) := by decide +kernel
theorem dX2_add_59 : decode cX2_add 59 = .ok (.putfield 25, 3) := by decide +kernel
theorem dX2_add_62 : decode cX2_add 62 = .ok (.aload_n 0, 1) := by decide +kernel
theorem dX2_add_63 : decode cX2_add 63 = .ok (.getfield 25, 3) := by decide +kernel
theorem dX2_add_66 : decode cX2_add 66 = .ok (.iconst 1, 1) := by decide +kernel
theorem dX2_add_67 : decode cX2_add 67 = .ok (.isub, 1) := by decide +kernel
theorem dX2_add_68 : decode cX2_add 68 = .ok (.ireturn, 1) := by decide +kernel
theorem dX3_init_0 : decode cX3_init 0 = .ok (.aload_n 0, 1) := by decide +kernel
theorem dX3_init_1 : decode cX3_init 1 = .ok (.invokespecial 1, 3) := by decide +kernel
theorem dX3_init_4 : decode cX3_init 4 = .ok (.aload_n 0, 1) := by decide +kernel
theorem dX3_init_5 : decode cX3_init 5 = .ok (.lconst 0, 1) := by decide +kernel
theorem dX3_init_6 : decode cX3_init 6 = .ok (.putfield 7, 3) := by decide +kernel
theorem dX3_init_9 : decode cX3_init 9 = .ok (.aload_n 0, 1) := by decide +kernel
theorem dX3_init_10 : decode cX3_init 10 = .ok (.lconst 1, 1) := by decide +kernel
theorem dX3_init_11 : decode cX3_init 11 = .ok (.putfield 13, 3) := by decide +kernel
theorem dX3_init_14 : decode cX3_init 14 = .ok (.return_, 1) := by decide +kernel
set_option maxRecDepth 20000 in
theorem ggX3_become_X3_greatestCommon : GoodIn wsX3_become wsX3_greatestCommon := goodIn_r _ [6] (by decide +kernel) (by decide +kernel)
set_option maxRecDepth 20000 in
theorem gX3_become_X3_greatestCommon : GoodIn wsX3_become (va_wsS RX3 16 yX3_greatestCommon wsX3_greatestCommon) := goodIn_app (goodIn_of _ (by decide +kernel)) ggX3_become_X3_greatestCommon
theorem dX3_become_0 : decode cX3_become 0 = .ok (.lload_n 1, 1) := by decide +kernel
theorem dX3_become_1 : decode cX3_become 1 = .ok (.lload_n 3, 1) := by decide +kernel
theorem dX3_become_2 : decode cX3_become 2 = .ok (.invokestatic 16, 3) := by decide +kernel
theorem dX3_become_5 : decode cX3_become 5 = .ok (.lstore 5, 2) := by decide +kernel
theorem dX3_become_7 : decode cX3_become 7 = .ok (.aload_n 0, 1) := by decide +kernel
theorem dX3_become_8 : decode cX3_become 8 = .ok (.lload 5, 2) := by decide +kernel
theorem dX3_become_10 : decode cX3_become 10 = .ok (.lconst 1, 1) := by decide +kernel
theorem dX3_become_11 : decode cX3_become 11 = .ok (.lcmp, 1) := by decide +kernel
theorem dX3_become_12 : decode cX3_become 12 = .ok (.ifCond .le 10, 3) := by decide +kernel
theorem dX3_become_15 : decode cX3_become 15 = .ok (.lload_n 1, 1) := by decide +kernel
theorem dX3_become_16 : decode cX3_become 16 = .ok (.lload 5, 2) := by decide +kernel
theorem dX3_become_18 : decode cX3_become 18 = .ok (.ldiv, 1) := by decide +kernel
theorem dX3_become_19 : decode cX3_become 19 = .ok (.goto 4, 3) := by decide +kernel
theorem dX3_become_22 : decode cX3_become 22 = .ok (.lload_n 1, 1) := by decide +kernel
theorem dX3_become_23 : decode cX3_become 23 = .ok (.putfield 7, 3) := by decide +kernel
theorem dX3_become_26 : decode cX3_become 26 = .ok (.aload_n 0, 1) := by decide +kernel
theorem dX3_become_27 : decode cX3_become 27 = .ok (.lload 5, 2) := by decide +kernel
theorem dX3_become_29 : decode cX3_become 29 = .ok (.lconst 1, 1) := by decide +kernel
theorem dX3_become_30 : decode cX3_become 30 = .ok (.lcmp, 1) := by decide +kernel
theorem dX3_become_31 : decode cX3_become 31 = .ok (.ifCond .le 10, 3) := by decide +kernel
theorem dX3_become_34 : decode cX3_become 34 = .ok (.lload_n 3, 1) := by decide +kernel
theorem dX3_become_35 : decode cX3_become 35 = .ok (.lload 5, 2) := by decide +kernel
theorem dX3_become_37 : decode cX3_become 37 = .ok (.ldiv, 1) := by decide +kernel
theorem dX3_become_38 : decode cX3_become 38 = .ok (.goto 4, 3) := by decide +kernel
theorem dX3_become_41 : decode cX3_become 41 = .ok (.lload_n 3, 1) := by decide +kernel
theorem dX3_become_42 : decode cX3_become 42 = .ok (.putfield 13, 3) := by decide +kernel
theorem dX3_become_45 : decode cX3_become 45 = .ok (.return_, 1) := by decide +kernel
theorem dX3_greatestCommon_0 : decode cX3_greatestCommon 0 = .ok (.lload_n 0, 1) := by decide +kernel
theorem dX3_greatestCommon_1 : decode cX3_greatestCommon 1 = .ok (.lstore 4, 2) := by decide +kernel
theorem dX3_greatestCommon_3 : decode cX3_greatestCommon 3 = .ok (.lload_n 2, 1) := by decide +kernel
theorem dX3_greatestCommon_4 : decode cX3_greatestCommon 4 = .ok (.lstore 6, 2) := by decide +kernel
theorem dX3_greatestCommon_6 : decode cX3_greatestCommon 6 = .ok (.iconst 0, 1) := by decide +kernel
theorem dX3_greatestCommon_7 : decode cX3_greatestCommon 7 = .ok (.istore 8, 2) := by decide +kernel
theorem dX3_greatestCommon_9 : decode cX3_greatestCommon 9 = .ok (.iload 8, 2) := by decide +kernel
theorem dX3_greatestCommon_11 : decode cX3_greatestCommon 11 = .ok (.sipush 200, 3) := by decide +kernel
theorem dX3_greatestCommon_14 : decode cX3_greatestCommon 14 = .ok (.if_icmp .ge 31, 3) := by decide +kernel
theorem dX3_greatestCommon_17 : decode cX3_greatestCommon 17 = .ok (.lload 6, 2) := by decide +kernel
theorem dX3_greatestCommon_19 : decode cX3_greatestCommon 19 = .ok (.lconst 0, 1) := by decide +kernel
theorem dX3_greatestCommon_20 : decode cX3_greatestCommon 20 = .ok (.lcmp, 1) := by decide +kernel
theorem dX3_greatestCommon_21 : decode cX3_greatestCommon 21 = .ok (.ifCond .eq 24, 3) := by decide +kernel
theorem dX3_greatestCommon_24 : decode cX3_greatestCommon 24 = .ok (.lload 4, 2) := by decide +kernel
theorem dX3_greatestCommon_26 : decode cX3_greatestCommon 26 = .ok (.lload 6, 2) := by decide +kernel
theorem dX3_greatestCommon_28 : decode cX3_greatestCommon 28 = .ok (.lrem, 1) := by decide +kernel
theorem dX3_greatestCommon_29 : decode cX3_greatestCommon 29 = .ok (.lstore 9, 2) := by decide +kernel
theorem dX3_greatestCommon_31 : decode cX3_greatestCommon 31 = .ok (.lload 6, 2) := by decide +kernel
theorem dX3_greatestCommon_33 : decode cX3_greatestCommon 33 = .ok (.lstore 4, 2) := by decide +kernel
theorem dX3_greatestCommon_35 : decode cX3_greatestCommon 35 = .ok (.lload 9, 2) := by decide +kernel
theorem dX3_greatestCommon_37 : decode cX3_greatestCommon 37 = .ok (.lstore 6, 2) := by decide +kernel
theorem dX3_greatestCommon_39 : decode cX3_greatestCommon 39 = .ok (.iinc 8 1, 3) := by decide +kernel
theorem dX3_greatestCommon_42 : decode cX3_greatestCommon 42 = .ok (.goto (-33), 3) := by decide +kernel
theorem dX3_greatestCommon_45 : decode cX3_greatestCommon 45 = .ok (.lload 4, 2) := by decide +kernel
theorem dX3_greatestCommon_47 : decode cX3_greatestCommon 47 = .ok (.lreturn, 1) := by decide +kernel
theorem dX5_init_0 : decode cX5_init 0 = .ok (.aload_n 0, 1) := by decide +kernel
theorem dX5_init_1 : decode cX5_init 1 = .ok (.invokespecial 3, 3) := by decide +kernel
theorem dX5_init_4 : decode cX5_init 4 = .ok (.aload_n 0, 1) := by decide +kernel
theorem dX5_init_5 : decode cX5_init 5 = .ok (.bipush 13, 2) := by decide +kernel
theorem dX5_init_7 : decode cX5_init 7 = .ok (.newarray .int, 2) := by decide +kernel
theorem dX5_init_9 : decode cX5_init 9 = .ok (.putfield 9, 3) := by decide +kernel
theorem dX5_init_12 : decode cX5_init 12 = .ok (.aload_n 0, 1) := by decide +kernel
theorem dX5_init_13 : decode cX5_init 13 = .ok (.iconst 0, 1) := by decide +kernel
theorem dX5_init_14 : decode cX5_init 14 = .ok (.putfield 15, 3) := by decide +kernel
theorem dX5_init_17 : decode cX5_init 17 = .ok (.aload_n 0, 1) := by decide +kernel
theorem dX5_init_18 : decode cX5_init 18 = .ok (.iconst 0, 1) := by decide +kernel
theorem dX5_init_19 : decode cX5_init 19 = .ok (.putfield 19, 3) := by decide +kernel
theorem dX5_init_22 : decode cX5_init 22 = .ok (.return_, 1) := by decide +kernel
theorem dX5_drop_0 : decode cX5_drop 0 = .ok (.aload_n 0, 1) := by decide +kernel
theorem dX5_drop_1 : decode cX5_drop 1 = .ok (.iconst 0, 1) := by decide +kernel
theorem dX5_drop_2 : decode cX5_drop 2 = .ok (.putfield 19, 3) := by decide +kernel
theorem dX5_drop_5 : decode cX5_drop 5 = .ok (.return_, 1) := by decide +kernel
theorem dX5_startAt_0 : decode cX5_startAt 0 = .ok (.aload_n 0, 1) := by decide +kernel
theorem dX5_startAt_1 : decode cX5_startAt 1 = .ok (.iload_n 1, 1) := by decide +kernel
theorem dX5_startAt_2 : decode cX5_startAt 2 = .ok (.putfield 15, 3) := by decide +kernel
theorem dX5_startAt_5 : decode cX5_startAt 5 = .ok (.aload_n 0, 1) := by decide +kernel
theorem dX5_startAt_6 : decode cX5_startAt 6 = .ok (.getfield 9, 3) := by decide +kernel
theorem dX5_startAt_9 : decode cX5_startAt 9 = .ok (.iconst 0, 1) := by decide +kernel
theorem dX5_startAt_10 : decode cX5_startAt 10 = .ok (.iload_n 2, 1) := by decide +kernel
theorem dX5_startAt_11 : decode cX5_startAt 11 = .ok (.iastore, 1) := by decide +kernel
theorem dX5_startAt_12 : decode cX5_startAt 12 = .ok (.aload_n 0, 1) := by decide +kernel
theorem dX5_startAt_13 : decode cX5_startAt 13 = .ok (.iconst 1, 1) := by decide +kernel
theorem dX5_startAt_14 : decode cX5_startAt 14 = .ok (.putfield 19, 3) := by decide +kernel
theorem dX5_startAt_17 : decode cX5_startAt 17 = .ok (.return_, 1) := by decide +kernel
theorem dX5_add_0 : decode cX5_add 0 = .ok (.aload_n 0, 1) := by decide +kernel
theorem dX5_add_1 : decode cX5_add 1 = .ok (.getfield 19, 3) := by decide +kernel
theorem dX5_add_4 : decode cX5_add 4 = .ok (.aload_n 0, 1) := by decide +kernel
theorem dX5_add_5 : decode cX5_add 5 = .ok (.getfield 9, 3) := by decide +kernel
theorem dX5_add_8 : decode cX5_add 8 = .ok (.arraylength, 1) := by decide +kernel
theorem dX5_add_9 : decode cX5_add 9 = .ok (.if_icmp .ge 23, 3) := by decide +kernel
theorem dX5_add_12 : decode cX5_add 12 = .ok (.aload_n 0, 1) := by decide +kernel
theorem dX5_add_13 : decode cX5_add 13 = .ok (.getfield 9, 3) := by decide +kernel
theorem dX5_add_16 : decode cX5_add 16 = .ok (.aload_n 0, 1) := by decide +kernel
theorem dX5_add_17 : decode cX5_add 17 = .ok (.getfield 19, 3) := by decide +kernel
theorem dX5_add_20 : decode cX5_add 20 = .ok (.iload_n 1, 1) := by decide +kernel
theorem dX5_add_21 : decode cX5_add 21 = .ok (.iastore, 1) := by decide +kernel
theorem dX5_add_22 : decode cX5_add 22 = .ok (.aload_n 0, 1) := by decide +kernel
theorem dX5_add_23 : decode cX5_add 23 = .ok (.dup, 1) := by decide +kernel
theorem dX5_add_24 : decode cX5_add 24 = .ok (.getfield 19, 3) := by decide +kernel
theorem dX5_add_27 : decode cX5_add 27 = .ok (.iconst 1, 1) := by decide +kernel
theorem dX5_add_28 : decode cX5_add 28 = .ok (.iadd, 1) := by decide +kernel
theorem dX5_add_29 : decode cX5_add 29 = .ok (.putfield 19, 3) := by decide +kernel
theorem dX5_add_32 : decode cX5_add 32 = .ok (.return_, 1) := by decide +kernel
theorem dX5_end_0 : decode cX5_end 0 = .ok (.aload_n 0, 1) := by decide +kernel
theorem dX5_end_1 : decode cX5_end 1 = .ok (.getfield 15, 3) := by decide +kernel
theorem dX5_end_4 : decode cX5_end 4 = .ok (.aload_n 0, 1) := by decide +kernel
theorem dX5_end_5 : decode cX5_end 5 = .ok (.getfield 19, 3) := by decide +kernel
theorem dX5_end_8 : decode cX5_end 8 = .ok (.iadd, 1) := by decide +kernel
theorem dX5_end_9 : decode cX5_end 9 = .ok (.iconst 1, 1) := by decide +kernel
theorem dX5_end_10 : decode cX5_end 10 = .ok (.isub, 1) := by decide +kernel
theorem dX5_end_11 : decode cX5_end 11 = .ok (.ireturn, 1) := by decide +kernel
end
section
set_option maxRecDepth 20000 in
theorem ggX4_init_X1_init : GoodIn wsX4_init wsX1_init := goodIn_r _ [12, 13, 2, 3, 14, 15, 16, 17, 9, 18, 19, 20, 21, 22, 25, 26, 27, 28, 29, 30, 31, 32, 33] (by decide +kernel) (by decide +kernel)
set_option maxRecDepth 20000 in
theorem gX4_init_X1_init : GoodIn wsX4_init (wsX1_init) := ggX4_init_X1_init
theorem dX4_init_0 : decode cX4_init 0 = .ok (.aload_n 0, 1) := by decide +kernel
theorem dX4_init_1 : decode cX4_init 1 = .ok (.invokespecial 3, 3) := by decide +kernel
theorem dX4_init_4 : decode cX4_init 4 = .ok (.aload_n 0, 1) := by decide +kernel
theorem dX4_init_5 : decode cX4_init 5 = .ok (.bipush 12, 2) := by decide +kernel
theorem dX4_init_7 : decode cX4_init 7 = .ok (.anewarray 9, 3) := by decide +kernel
theorem dX4_init_10 : decode cX4_init 10 = .ok (.putfield 11, 3) := by decide +kernel
theorem dX4_init_13 : decode cX4_init 13 = .ok (.aload_n 0, 1) := by decide +kernel
theorem dX4_init_14 : decode cX4_init 14 = .ok (.iconst 2, 1) := by decide +kernel
theorem dX4_init_15 : decode cX4_init 15 = .ok (.putfield 17, 3) := by decide +kernel
theorem dX4_init_18 : decode cX4_init 18 = .ok (.iconst 0, 1) := by decide +kernel
theorem dX4_init_19 : decode cX4_init 19 = .ok (.istore_n 2, 1) := by decide +kernel
theorem dX4_init_20 : decode cX4_init 20 = .ok (.iload_n 2, 1) := by decide +kernel
theorem dX4_init_21 : decode cX4_init 21 = .ok (.bipush 12, 2) := by decide +kernel
theorem dX4_init_23 : decode cX4_init 23 = .ok (.if_icmp .ge 27, 3) := by decide +kernel
theorem dX4_init_26 : decode cX4_init 26 = .ok (.aload_n 0, 1) := by decide +kernel
theorem dX4_init_27 : decode cX4_init 27 = .ok (.getfield 11, 3) := by decide +kernel
theorem dX4_init_30 : decode cX4_init 30 = .ok (.iload_n 2, 1) := by decide +kernel
theorem dX4_init_31 : decode cX4_init 31 = .ok (.new 9, 3) := by decide +kernel
theorem dX4_init_34 : decode cX4_init 34 = .ok (.dup, 1) := by decide +kernel
theorem dX4_init_35 : decode cX4_init 35 = .ok (.aload_n 1, 1) := by decide +kernel
theorem dX4_init_36 : decode cX4_init 36 = .ok (.bipush 24, 2) := by decide +kernel
theorem dX4_init_38 : decode cX4_init 38 = .ok (.newarray .int, 2) := by decide +kernel
theorem dX4_init_40 : decode cX4_init 40 = .ok (.invokespecial 21, 3) := by decide +kernel
theorem dX4_init_43 : decode cX4_init 43 = .ok (.aastore, 1) := by decide +kernel
theorem dX4_init_44 : decode cX4_init 44 = .ok (.iinc 2 1, 3) := by decide +kernel
theorem dX4_init_47 : decode cX4_init 47 = .ok (.goto (-27), 3) := by decide +kernel
theorem dX4_init_50 : decode cX4_init 50 = .ok (.return_, 1) := by decide +kernel
set_option maxRecDepth 20000 in
theorem ggX4_init__X1_init : GoodIn wsX4_init_ wsX1_init := goodIn_r _ [12, 13, 2, 3, 14, 15, 16, 17, 18, 19, 20, 21, 22, 23, 26, 27, 28, 29, 30, 31, 32, 33, 34] (by decide +kernel) (by decide +kernel)
set_option maxRecDepth 20000 in
theorem gX4_init__X1_init : GoodIn wsX4_init_ (wsX1_init) := ggX4_init__X1_init
theorem dX4_init__0 : decode cX4_init_ 0 = .ok (.aload_n 0, 1) := by decide +kernel
theorem dX4_init__1 : decode cX4_init_ 1 = .ok (.invokespecial 3, 3) := by decide +kernel
theorem dX4_init__4 : decode cX4_init_ 4 = .ok (.aload_n 0, 1) := by decide +kernel
theorem dX4_init__5 : decode cX4_init_ 5 = .ok (.bipush 12, 2) := by decide +kernel
theorem dX4_init__7 : decode cX4_init_ 7 = .ok (.anewarray 9, 3) := by decide +kernel
theorem dX4_init__10 : decode cX4_init_ 10 = .ok (.putfield 11, 3) := by decide +kernel
theorem dX4_init__13 : decode cX4_init_ 13 = .ok (.aload_n 0, 1) := by decide +kernel
theorem dX4_init__14 : decode cX4_init_ 14 = .ok (.iconst 2, 1) := by decide +kernel
theorem dX4_init__15 : decode cX4_init_ 15 = .ok (.putfield 17, 3) := by decide +kernel
theorem dX4_init__18 : decode cX4_init_ 18 = .ok (.iconst 0, 1) := by decide +kernel
theorem dX4_init__19 : decode cX4_init_ 19 = .ok (.istore_n 2, 1) := by decide +kernel
theorem dX4_init__20 : decode cX4_init_ 20 = .ok (.iload_n 2, 1) := by decide +kernel
theorem dX4_init__21 : decode cX4_init_ 21 = .ok (.bipush 12, 2) := by decide +kernel
theorem dX4_init__23 : decode cX4_init_ 23 = .ok (.if_icmp .ge 40, 3) := by decide +kernel
theorem dX4_init__26 : decode cX4_init_ 26 = .ok (.aload_n 0, 1) := by decide +kernel
theorem dX4_init__27 : decode cX4_init_ 27 = .ok (.getfield 11, 3) := by decide +kernel
theorem dX4_init__30 : decode cX4_init_ 30 = .ok (.iload_n 2, 1) := by decide +kernel
theorem dX4_init__31 : decode cX4_init_ 31 = .ok (.new 9, 3) := by decide +kernel
theorem dX4_init__34 : decode cX4_init_ 34 = .ok (.dup, 1) := by decide +kernel
theorem dX4_init__35 : decode cX4_init_ 35 = .ok (.aload_n 1, 1) := by decide +kernel
theorem dX4_init__36 : decode cX4_init_ 36 = .ok (.getfield 11, 3) := by decide +kernel
theorem dX4_init__39 : decode cX4_init_ 39 = .ok (.iload_n 2, 1) := by decide +kernel
theorem dX4_init__40 : decode cX4_init_ 40 = .ok (.aaload, 1) := by decide +kernel
theorem dX4_init__41 : decode cX4_init_ 41 = .ok (.getfield 24, 3) := by decide +kernel
theorem dX4_init__44 : decode cX4_init_ 44 = .ok (.aload_n 1, 1) := by decide +kernel
theorem dX4_init__45 : decode cX4_init_ 45 = .ok (.getfield 11, 3) := by decide +kernel
theorem dX4_init__48 : decode cX4_init_ 48 = .ok (.iload_n 2, 1) := by decide +kernel
theorem dX4_init__49 : decode cX4_init_ 49 = .ok (.aaload, 1) := by decide +kernel
theorem dX4_init__50 : decode cX4_init_ 50 = .ok (.getfield 28, 3) := by decide +kernel
theorem dX4_init__53 : decode cX4_init_ 53 = .ok (.invokespecial 21, 3) := by decide +kernel
theorem dX4_init__56 : decode cX4_init_ 56 = .ok (.aastore, 1) := by decide +kernel
theorem dX4_init__57 : decode cX4_init_ 57 = .ok (.iinc 2 1, 3) := by decide +kernel
theorem dX4_init__60 : decode cX4_init_ 60 = .ok (.goto (-40), 3) := by decide +kernel
theorem dX4_init__63 : decode cX4_init_ 63 = .ok (.return_, 1) := by decide +kernel
set_option maxRecDepth 20000 in
theorem ggX4_has_X7_within : GoodIn wsX4_has wsX7_within := goodIn_r _ [4] (by decide +kernel) (by decide +kernel)
set_option maxRecDepth 20000 in
theorem gX4_has_X7_within_n32 : GoodIn wsX4_has (wsX7_within) := ggX4_has_X7_within
theorem dX4_has_0 : decode cX4_has 0 = .ok (.iload_n 1, 1) := by decide +kernel
theorem dX4_has_1 : decode cX4_has 1 = .ok (.iconst 0, 1) := by decide +kernel
theorem dX4_has_2 : decode cX4_has 2 = .ok (.aload_n 0, 1) := by decide +kernel
theorem dX4_has_3 : decode cX4_has 3 = .ok (.getfield 17, 3) := by decide +kernel
theorem dX4_has_6 : decode cX4_has 6 = .ok (.iconst 1, 1) := by decide +kernel
theorem dX4_has_7 : decode cX4_has 7 = .ok (.isub, 1) := by decide +kernel
theorem dX4_has_8 : decode cX4_has 8 = .ok (.invokestatic 32, 3) := by decide +kernel
theorem dX4_has_11 : decode cX4_has 11 = .ok (.ireturn, 1) := by decide +kernel
set_option maxRecDepth 20000 in
theorem ggX4_clearTo_X1_clear : GoodIn wsX4_clearTo wsX1_clear := goodIn_r _ [7, 8, 9, 10, 11, 12, 15, 16, 17, 18, 19, 20, 21, 22, 23] (by decide +kernel) (by decide +kernel)
set_option maxRecDepth 20000 in
theorem gX4_clearTo_X1_clear : GoodIn wsX4_clearTo (wsV RX4 36 RX1 yX1_clear wsX1_clear) := goodIn_app (goodIn_of _ (by decide +kernel)) ggX4_clearTo_X1_clear
theorem dX4_clearTo_0 : decode cX4_clearTo 0 = .ok (.aload_n 0, 1) := by decide +kernel
theorem dX4_clearTo_1 : decode cX4_clearTo 1 = .ok (.iload_n 1, 1) := by decide +kernel
theorem dX4_clearTo_2 : decode cX4_clearTo 2 = .ok (.putfield 17, 3) := by decide +kernel
theorem dX4_clearTo_5 : decode cX4_clearTo 5 = .ok (.iconst 0, 1) := by decide +kernel
theorem dX4_clearTo_6 : decode cX4_clearTo 6 = .ok (.istore_n 2, 1) := by decide +kernel
theorem dX4_clearTo_7 : decode cX4_clearTo 7 = .ok (.iload_n 2, 1) := by decide +kernel
theorem dX4_clearTo_8 : decode cX4_clearTo 8 = .ok (.bipush 12, 2) := by decide +kernel
theorem dX4_clearTo_10 : decode cX4_clearTo 10 = .ok (.if_icmp .ge 18, 3) := by decide +kernel
theorem dX4_clearTo_13 : decode cX4_clearTo 13 = .ok (.aload_n 0, 1) := by decide +kernel
theorem dX4_clearTo_14 : decode cX4_clearTo 14 = .ok (.getfield 11, 3) := by decide +kernel
theorem dX4_clearTo_17 : decode cX4_clearTo 17 = .ok (.iload_n 2, 1) := by decide +kernel
theorem dX4_clearTo_18 : decode cX4_clearTo 18 = .ok (.aaload, 1) := by decide +kernel
theorem dX4_clearTo_19 : decode cX4_clearTo 19 = .ok (.invokevirtual 36, 3) := by decide +kernel
theorem dX4_clearTo_22 : decode cX4_clearTo 22 = .ok (.iinc 2 1, 3) := by decide +kernel
theorem dX4_clearTo_25 : decode cX4_clearTo 25 = .ok (.goto (-18), 3) := by decide +kernel
theorem dX4_clearTo_28 : decode cX4_clearTo 28 = .ok (.return_, 1) := by decide +kernel
set_option maxRecDepth 20000 in
theorem ggX4_copy_X1_copy : GoodIn wsX4_copy wsX1_copy := goodIn_r _ [7, 8, 9, 10, 11, 12, 13, 14, 15, 16, 17, 18, 21, 22, 23, 24, 25, 26, 27, 28, 29] (by decide +kernel) (by decide +kernel)
set_option maxRecDepth 20000 in
theorem gX4_copy_X1_copy : GoodIn wsX4_copy (wsV RX4 39 RX1 yX1_copy wsX1_copy) := goodIn_app (goodIn_of _ (by decide +kernel)) ggX4_copy_X1_copy
theorem dX4_copy_0 : decode cX4_copy 0 = .ok (.aload_n 0, 1) := by decide +kernel
theorem dX4_copy_1 : decode cX4_copy 1 = .ok (.aload_n 1, 1) := by decide +kernel
theorem dX4_copy_2 : decode cX4_copy 2 = .ok (.getfield 17, 3) := by decide +kernel
theorem dX4_copy_5 : decode cX4_copy 5 = .ok (.putfield 17, 3) := by decide +kernel
theorem dX4_copy_8 : decode cX4_copy 8 = .ok (.iconst 0, 1) := by decide +kernel
theorem dX4_copy_9 : decode cX4_copy 9 = .ok (.istore_n 2, 1) := by decide +kernel
theorem dX4_copy_10 : decode cX4_copy 10 = .ok (.iload_n 2, 1) := by decide +kernel
theorem dX4_copy_11 : decode cX4_copy 11 = .ok (.aload_n 0, 1) := by decide +kernel
theorem dX4_copy_12 : decode cX4_copy 12 = .ok (.getfield 17, 3) := by decide +kernel
theorem dX4_copy_15 : decode cX4_copy 15 = .ok (.if_icmp .ge 24, 3) := by decide +kernel
theorem dX4_copy_18 : decode cX4_copy 18 = .ok (.aload_n 0, 1) := by decide +kernel
theorem dX4_copy_19 : decode cX4_copy 19 = .ok (.getfield 11, 3) := by decide +kernel
theorem dX4_copy_22 : decode cX4_copy 22 = .ok (.iload_n 2, 1) := by decide +kernel
theorem dX4_copy_23 : decode cX4_copy 23 = .ok (.aaload, 1) := by decide +kernel
theorem dX4_copy_24 : decode cX4_copy 24 = .ok (.aload_n 1, 1) := by decide +kernel
theorem dX4_copy_25 : decode cX4_copy 25 = .ok (.getfield 11, 3) := by decide +kernel
theorem dX4_copy_28 : decode cX4_copy 28 = .ok (.iload_n 2, 1) := by decide +kernel
theorem dX4_copy_29 : decode cX4_copy 29 = .ok (.aaload, 1) := by decide +kernel
theorem dX4_copy_30 : decode cX4_copy 30 = .ok (.invokevirtual 39, 3) := by decide +kernel
theorem dX4_copy_33 : decode cX4_copy 33 = .ok (.iinc 2 1, 3) := by decide +kernel
theorem dX4_copy_36 : decode cX4_copy 36 = .ok (.goto (-26), 3) := by decide +kernel
theorem dX4_copy_39 : decode cX4_copy 39 = .ok (.return_, 1) := by decide +kernel
set_option maxRecDepth 20000 in
theorem ggX4_reckon_X1_reckon : GoodIn wsX4_reckon wsX1_reckon := goodIn_r _ [7, 8, 9, 10, 11, 12, 13, 14, 15, 16, 17, 18, 6, 19, 20, 21, 22, 23, 24, 25, 26, 27, 28, 31, 32, 33, 34, 35, 36, 37, 38, 39, 40, 41, 42, 43, 44] (by decide +kernel) (by decide +kernel)
set_option maxRecDepth 20000 in
theorem gX4_reckon_X1_reckon : GoodIn wsX4_reckon (wsV RX4 43 RX1 yX1_reckon wsX1_reckon) := goodIn_app (goodIn_of _ (by decide +kernel)) ggX4_reckon_X1_reckon
theorem dX4_reckon_0 : decode cX4_reckon 0 = .ok (.iconst 0, 1) := by decide +kernel
theorem dX4_reckon_1 : decode cX4_reckon 1 = .ok (.istore_n 1, 1) := by decide +kernel
theorem dX4_reckon_2 : decode cX4_reckon 2 = .ok (.iload_n 1, 1) := by decide +kernel
theorem dX4_reckon_3 : decode cX4_reckon 3 = .ok (.aload_n 0, 1) := by decide +kernel
theorem dX4_reckon_4 : decode cX4_reckon 4 = .ok (.getfield 17, 3) := by decide +kernel
theorem dX4_reckon_7 : decode cX4_reckon 7 = .ok (.if_icmp .ge 18, 3) := by decide +kernel
theorem dX4_reckon_10 : decode cX4_reckon 10 = .ok (.aload_n 0, 1) := by decide +kernel
theorem dX4_reckon_11 : decode cX4_reckon 11 = .ok (.getfield 11, 3) := by decide +kernel
theorem dX4_reckon_14 : decode cX4_reckon 14 = .ok (.iload_n 1, 1) := by decide +kernel
theorem dX4_reckon_15 : decode cX4_reckon 15 = .ok (.aaload, 1) := by decide +kernel
theorem dX4_reckon_16 : decode cX4_reckon 16 = .ok (.invokevirtual 43, 3) := by decide +kernel
theorem dX4_reckon_19 : decode cX4_reckon 19 = .ok (.iinc 1 1, 3) := by decide +kernel
theorem dX4_reckon_22 : decode cX4_reckon 22 = .ok (.goto (-20), 3) := by decide +kernel
theorem dX4_reckon_25 : decode cX4_reckon 25 = .ok (.return_, 1) := by decide +kernel
set_option maxRecDepth 20000 in
theorem ggX4_raiseWater_X1_put : GoodIn wsX4_raiseWater wsX1_put := goodIn_r _ [12, 13, 14, 15, 16, 19, 20, 21, 22, 23, 24, 25, 26, 27] (by decide +kernel) (by decide +kernel)
set_option maxRecDepth 20000 in
theorem gX4_raiseWater_X1_put : GoodIn wsX4_raiseWater (wsV RX4 55 RX1 yX1_put wsX1_put) := goodIn_app (goodIn_of _ (by decide +kernel)) ggX4_raiseWater_X1_put
theorem dX4_raiseWater_0 : decode cX4_raiseWater 0 = .ok (.iconst 0, 1) := by decide +kernel
theorem dX4_raiseWater_1 : decode cX4_raiseWater 1 = .ok (.istore_n 2, 1) := by decide +kernel
theorem dX4_raiseWater_2 : decode cX4_raiseWater 2 = .ok (.iload_n 2, 1) := by decide +kernel
theorem dX4_raiseWater_3 : decode cX4_raiseWater 3 = .ok (.aload_n 0, 1) := by decide +kernel
theorem dX4_raiseWater_4 : decode cX4_raiseWater 4 = .ok (.getfield 17, 3) := by decide +kernel
theorem dX4_raiseWater_7 : decode cX4_raiseWater 7 = .ok (.if_icmp .ge 35, 3) := by decide +kernel
theorem dX4_raiseWater_10 : decode cX4_raiseWater 10 = .ok (.aload_n 0, 1) := by decide +kernel
theorem dX4_raiseWater_11 : decode cX4_raiseWater 11 = .ok (.getfield 11, 3) := by decide +kernel
theorem dX4_raiseWater_14 : decode cX4_raiseWater 14 = .ok (.iload_n 2, 1) := by decide +kernel
theorem dX4_raiseWater_15 : decode cX4_raiseWater 15 = .ok (.aaload, 1) := by decide +kernel
theorem dX4_raiseWater_16 : decode cX4_raiseWater 16 = .ok (.iconst 0, 1) := by decide +kernel
theorem dX4_raiseWater_17 : decode cX4_raiseWater 17 = .ok (.aload_n 0, 1) := by decide +kernel
theorem dX4_raiseWater_18 : decode cX4_raiseWater 18 = .ok (.getfield 11, 3) := by decide +kernel
theorem dX4_raiseWater_21 : decode cX4_raiseWater 21 = .ok (.iload_n 2, 1) := by decide +kernel
theorem dX4_raiseWater_22 : decode cX4_raiseWater 22 = .ok (.aaload, 1) := by decide +kernel
theorem dX4_raiseWater_23 : decode cX4_raiseWater 23 = .ok (.getfield 46, 3) := by decide +kernel
theorem dX4_raiseWater_26 : decode cX4_raiseWater 26 = .ok (.iload_n 1, 1) := by decide +kernel
theorem dX4_raiseWater_27 : decode cX4_raiseWater 27 = .ok (.iadd, 1) := by decide +kernel
theorem dX4_raiseWater_28 : decode cX4_raiseWater 28 = .ok (.bipush 24, 2) := by decide +kernel
theorem dX4_raiseWater_30 : decode cX4_raiseWater 30 = .ok (.invokestatic 49, 3) := by decide +kernel
theorem dX4_raiseWater_33 : decode cX4_raiseWater 33 = .ok (.invokevirtual 55, 3) := by decide +kernel
theorem dX4_raiseWater_36 : decode cX4_raiseWater 36 = .ok (.iinc 2 1, 3) := by decide +kernel
theorem dX4_raiseWater_39 : decode cX4_raiseWater 39 = .ok (.goto (-37), 3) := by decide +kernel
theorem dX4_raiseWater_42 : decode cX4_raiseWater 42 = .ok (.return_, 1) := by decide +kernel
theorem dX4_cellCount_0 : decode cX4_cellCount 0 = .ok (.iconst 0, 1) := by decide +kernel
theorem dX4_cellCount_1 : decode cX4_cellCount 1 = .ok (.istore_n 1, 1) := by decide +kernel
theorem dX4_cellCount_2 : decode cX4_cellCount 2 = .ok (.iconst 0, 1) := by decide +kernel
theorem dX4_cellCount_3 : decode cX4_cellCount 3 = .ok (.istore_n 2, 1) := by decide +kernel
theorem dX4_cellCount_4 : decode cX4_cellCount 4 = .ok (.iload_n 2, 1) := by decide +kernel
theorem dX4_cellCount_5 : decode cX4_cellCount 5 = .ok (.aload_n 0, 1) := by decide +kernel
theorem dX4_cellCount_6 : decode cX4_cellCount 6 = .ok (.getfield 17, 3) := by decide +kernel
theorem dX4_cellCount_9 : decode cX4_cellCount 9 = .ok (.if_icmp .ge 21, 3) := by decide +kernel
theorem dX4_cellCount_12 : decode cX4_cellCount 12 = .ok (.iload_n 1, 1) := by decide +kernel
theorem dX4_cellCount_13 : decode cX4_cellCount 13 = .ok (.aload_n 0, 1) := by decide +kernel
theorem dX4_cellCount_14 : decode cX4_cellCount 14 = .ok (.getfield 11, 3) := by decide +kernel
theorem dX4_cellCount_17 : decode cX4_cellCount 17 = .ok (.iload_n 2, 1) := by decide +kernel
theorem dX4_cellCount_18 : decode cX4_cellCount 18 = .ok (.aaload, 1) := by decide +kernel
theorem dX4_cellCount_19 : decode cX4_cellCount 19 = .ok (.getfield 59, 3) := by decide +kernel
theorem dX4_cellCount_22 : decode cX4_cellCount 22 = .ok (.iadd, 1) := by decide +kernel
theorem dX4_cellCount_23 : decode cX4_cellCount 23 = .ok (.istore_n 1, 1) := by decide +kernel
theorem dX4_cellCount_24 : decode cX4_cellCount 24 = .ok (.iinc 2 1, 3) := by decide +kernel
theorem dX4_cellCount_27 : decode cX4_cellCount 27 = .ok (.goto (-23), 3) := by decide +kernel
theorem dX4_cellCount_30 : decode cX4_cellCount 30 = .ok (.iload_n 1, 1) := by decide +kernel
theorem dX4_cellCount_31 : decode cX4_cellCount 31 = .ok (.ireturn, 1) := by decide +kernel
set_option maxRecDepth 20000 in
theorem ggX4_bears_X5_end : GoodIn wsX4_bears wsX5_end := goodIn_r _ [11, 12, 13, 55, 56, 57] (by decide +kernel) (by decide +kernel)
set_option maxRecDepth 20000 in
theorem gX4_bears_X5_end : GoodIn wsX4_bears (wsV RX4 67 RX5 yX5_end wsX5_end) := goodIn_app (goodIn_of _ (by decide +kernel)) ggX4_bears_X5_end
set_option maxRecDepth 20000 in
theorem ggX4_bears_X4_holdsOfPart : GoodIn wsX4_bears wsX4_holdsOfPart := goodIn_r _ [18, 4, 5, 3, 19, 20, 21, 22, 23, 24, 25, 26, 27, 28, 29, 30, 31, 32, 33, 34, 35, 36, 37, 38, 39, 40, 41, 42, 43, 44, 45, 46, 47, 48, 49, 50, 51, 52, 53, 54, 58, 59, 55, 56, 57, 60, 61, 62, 63, 64, 65, 66, 67, 68, 69, 70, 71, 72, 73] (by decide +kernel) (by decide +kernel)
set_option maxRecDepth 20000 in
theorem gX4_bears_X4_holdsOfPart : GoodIn wsX4_bears (wsV RX4 77 RX4 yX4_holdsOfPart wsX4_holdsOfPart) := goodIn_app (goodIn_of _ (by decide +kernel)) ggX4_bears_X4_holdsOfPart
theorem dX4_bears_0 : decode cX4_bears 0 = .ok (.aload_n 1, 1) := by decide +kernel
theorem dX4_bears_1 : decode cX4_bears 1 = .ok (.getfield 62, 3) := by decide +kernel
theorem dX4_bears_4 : decode cX4_bears 4 = .ok (.iconst 2, 1) := by decide +kernel
theorem dX4_bears_5 : decode cX4_bears 5 = .ok (.if_icmp .lt 14, 3) := by decide +kernel
theorem dX4_bears_8 : decode cX4_bears 8 = .ok (.aload_n 1, 1) := by decide +kernel
theorem dX4_bears_9 : decode cX4_bears 9 = .ok (.invokevirtual 67, 3) := by decide +kernel
theorem dX4_bears_12 : decode cX4_bears 12 = .ok (.aload_n 0, 1) := by decide +kernel
theorem dX4_bears_13 : decode cX4_bears 13 = .ok (.getfield 17, 3) := by decide +kernel
theorem dX4_bears_16 : decode cX4_bears 16 = .ok (.if_icmp .le 5, 3) := by decide +kernel
theorem dX4_bears_19 : decode cX4_bears 19 = .ok (.iconst 0, 1) := by decide +kernel
theorem dX4_bears_20 : decode cX4_bears 20 = .ok (.ireturn, 1) := by decide +kernel
theorem dX4_bears_21 : decode cX4_bears 21 = .ok (.aload_n 1, 1) := by decide +kernel
theorem dX4_bears_22 : decode cX4_bears 22 = .ok (.getfield 71, 3) := by decide +kernel
theorem dX4_bears_25 : decode cX4_bears 25 = .ok (.iconst 0, 1) := by decide +kernel
theorem dX4_bears_26 : decode cX4_bears 26 = .ok (.iaload, 1) := by decide +kernel
theorem dX4_bears_27 : decode cX4_bears 27 = .ok (.aload_n 0, 1) := by decide +kernel
theorem dX4_bears_28 : decode cX4_bears 28 = .ok (.getfield 11, 3) := by decide +kernel
theorem dX4_bears_31 : decode cX4_bears 31 = .ok (.aload_n 1, 1) := by decide +kernel
theorem dX4_bears_32 : decode cX4_bears 32 = .ok (.getfield 74, 3) := by decide +kernel
theorem dX4_bears_35 : decode cX4_bears 35 = .ok (.aaload, 1) := by decide +kernel
theorem dX4_bears_36 : decode cX4_bears 36 = .ok (.getfield 59, 3) := by decide +kernel
theorem dX4_bears_39 : decode cX4_bears 39 = .ok (.if_icmp .eq 5, 3) := by decide +kernel
theorem dX4_bears_42 : decode cX4_bears 42 = .ok (.iconst 0, 1) := by decide +kernel
theorem dX4_bears_43 : decode cX4_bears 43 = .ok (.ireturn, 1) := by decide +kernel
theorem dX4_bears_44 : decode cX4_bears 44 = .ok (.aload_n 1, 1) := by decide +kernel
theorem dX4_bears_45 : decode cX4_bears 45 = .ok (.getfield 71, 3) := by decide +kernel
theorem dX4_bears_48 : decode cX4_bears 48 = .ok (.aload_n 1, 1) := by decide +kernel
theorem dX4_bears_49 : decode cX4_bears 49 = .ok (.getfield 62, 3) := by decide +kernel
theorem dX4_bears_52 : decode cX4_bears 52 = .ok (.iconst 1, 1) := by decide +kernel
theorem dX4_bears_53 : decode cX4_bears 53 = .ok (.isub, 1) := by decide +kernel
theorem dX4_bears_54 : decode cX4_bears 54 = .ok (.iaload, 1) := by decide +kernel
theorem dX4_bears_55 : decode cX4_bears 55 = .ok (.aload_n 0, 1) := by decide +kernel
theorem dX4_bears_56 : decode cX4_bears 56 = .ok (.getfield 11, 3) := by decide +kernel
theorem dX4_bears_59 : decode cX4_bears 59 = .ok (.aload_n 1, 1) := by decide +kernel
theorem dX4_bears_60 : decode cX4_bears 60 = .ok (.invokevirtual 67, 3) := by decide +kernel
theorem dX4_bears_63 : decode cX4_bears 63 = .ok (.iconst 1, 1) := by decide +kernel
theorem dX4_bears_64 : decode cX4_bears 64 = .ok (.isub, 1) := by decide +kernel
theorem dX4_bears_65 : decode cX4_bears 65 = .ok (.aaload, 1) := by decide +kernel
theorem dX4_bears_66 : decode cX4_bears 66 = .ok (.getfield 59, 3) := by decide +kernel
theorem dX4_bears_69 : decode cX4_bears 69 = .ok (.if_icmp .eq 5, 3) := by decide +kernel
theorem dX4_bears_72 : decode cX4_bears 72 = .ok (.iconst 0, 1) := by decide +kernel
theorem dX4_bears_73 : decode cX4_bears 73 = .ok (.ireturn, 1) := by decide +kernel
theorem dX4_bears_74 : decode cX4_bears 74 = .ok (.iconst 0, 1) := by decide +kernel
theorem dX4_bears_75 : decode cX4_bears 75 = .ok (.istore_n 2, 1) := by decide +kernel
theorem dX4_bears_76 : decode cX4_bears 76 = .ok (.iload_n 2, 1) := by decide +kernel
theorem dX4_bears_77 : decode cX4_bears 77 = .ok (.iconst 1, 1) := by decide +kernel
theorem dX4_bears_78 : decode cX4_bears 78 = .ok (.iadd, 1) := by decide +kernel
theorem dX4_bears_79 : decode cX4_bears 79 = .ok (.aload_n 1, 1) := by decide +kernel
theorem dX4_bears_80 : decode cX4_bears 80 = .ok (.getfield 62, 3) := by decide +kernel
theorem dX4_bears_83 : decode cX4_bears 83 = .ok (.if_icmp .ge 21, 3) := by decide +kernel
theorem dX4_bears_86 : decode cX4_bears 86 = .ok (.aload_n 0, 1) := by decide +kernel
theorem dX4_bears_87 : decode cX4_bears 87 = .ok (.aload_n 1, 1) := by decide +kernel
theorem dX4_bears_88 : decode cX4_bears 88 = .ok (.iload_n 2, 1) := by decide +kernel
theorem dX4_bears_89 : decode cX4_bears 89 = .ok (.invokevirtual 77, 3) := by decide +kernel
theorem dX4_bears_92 : decode cX4_bears 92 = .ok (.iconst (-1), 1) := by decide +kernel
theorem dX4_bears_93 : decode cX4_bears 93 = .ok (.if_icmp .ne 5, 3) := by decide +kernel
theorem dX4_bears_96 : decode cX4_bears 96 = .ok (.iconst 0, 1) := by decide +kernel
theorem dX4_bears_97 : decode cX4_bears 97 = .ok (.ireturn, 1) := by decide +kernel
theorem dX4_bears_98 : decode cX4_bears 98 = .ok (.iinc 2 1, 3) := by decide +kernel
theorem dX4_bears_101 : decode cX4_bears 101 = .ok (.goto (-25), 3) := by decide +kernel
theorem dX4_bears_104 : decode cX4_bears 104 = .ok (.iconst 1, 1) := by decide +kernel
theorem dX4_bears_105 : decode cX4_bears 105 = .ok (.ireturn, 1) := by decide +kernel
set_option maxRecDepth 20000 in
theorem ggX4_holdsAlong_X4_holdsOfPart : GoodIn wsX4_holdsAlong wsX4_holdsOfPart := goodIn_r _ [6, 7, 8, 9, 10, 11, 12, 13, 14, 15, 16, 17, 18, 19, 20, 21, 22, 23, 24, 25, 26, 27, 28, 29, 30, 31, 32, 33, 34, 35, 36, 37, 38, 39, 40, 41, 42, 43, 44, 45, 49, 50, 46, 47, 48, 51, 52, 53, 54, 55, 56, 57, 58, 59, 60, 61, 62, 63, 64] (by decide +kernel) (by decide +kernel)
set_option maxRecDepth 20000 in
theorem gX4_holdsAlong_X4_holdsOfPart : GoodIn wsX4_holdsAlong (wsV RX4 77 RX4 yX4_holdsOfPart wsX4_holdsOfPart) := goodIn_app (goodIn_of _ (by decide +kernel)) ggX4_holdsAlong_X4_holdsOfPart
theorem dX4_holdsAlong_0 : decode cX4_holdsAlong 0 = .ok (.lconst 0, 1) := by decide +kernel
theorem dX4_holdsAlong_1 : decode cX4_holdsAlong 1 = .ok (.lstore_n 2, 1) := by decide +kernel
theorem dX4_holdsAlong_2 : decode cX4_holdsAlong 2 = .ok (.iconst 0, 1) := by decide +kernel
theorem dX4_holdsAlong_3 : decode cX4_holdsAlong 3 = .ok (.istore 4, 2) := by decide +kernel
theorem dX4_holdsAlong_5 : decode cX4_holdsAlong 5 = .ok (.iload 4, 2) := by decide +kernel
theorem dX4_holdsAlong_7 : decode cX4_holdsAlong 7 = .ok (.iconst 1, 1) := by decide +kernel
theorem dX4_holdsAlong_8 : decode cX4_holdsAlong 8 = .ok (.iadd, 1) := by decide +kernel
theorem dX4_holdsAlong_9 : decode cX4_holdsAlong 9 = .ok (.aload_n 1, 1) := by decide +kernel
theorem dX4_holdsAlong_10 : decode cX4_holdsAlong 10 = .ok (.getfield 62, 3) := by decide +kernel
theorem dX4_holdsAlong_13 : decode cX4_holdsAlong 13 = .ok (.if_icmp .ge 20, 3) := by decide +kernel
theorem dX4_holdsAlong_16 : decode cX4_holdsAlong 16 = .ok (.lload_n 2, 1) := by decide +kernel
theorem dX4_holdsAlong_17 : decode cX4_holdsAlong 17 = .ok (.aload_n 0, 1) := by decide +kernel
theorem dX4_holdsAlong_18 : decode cX4_holdsAlong 18 = .ok (.aload_n 1, 1) := by decide +kernel
theorem dX4_holdsAlong_19 : decode cX4_holdsAlong 19 = .ok (.iload 4, 2) := by decide +kernel
theorem dX4_holdsAlong_21 : decode cX4_holdsAlong 21 = .ok (.invokevirtual 77, 3) := by decide +kernel
theorem dX4_holdsAlong_24 : decode cX4_holdsAlong 24 = .ok (.i2l, 1) := by decide +kernel
theorem dX4_holdsAlong_25 : decode cX4_holdsAlong 25 = .ok (.ladd, 1) := by decide +kernel
theorem dX4_holdsAlong_26 : decode cX4_holdsAlong 26 = .ok (.lstore_n 2, 1) := by decide +kernel
theorem dX4_holdsAlong_27 : decode cX4_holdsAlong 27 = .ok (.iinc 4 1, 3) := by decide +kernel
theorem dX4_holdsAlong_30 : decode cX4_holdsAlong 30 = .ok (.goto (-25), 3) := by decide +kernel
theorem dX4_holdsAlong_33 : decode cX4_holdsAlong 33 = .ok (.lload_n 2, 1) := by decide +kernel
theorem dX4_holdsAlong_34 : decode cX4_holdsAlong 34 = .ok (.lreturn, 1) := by decide +kernel
set_option maxRecDepth 20000 in
theorem ggX4_drivesAlong_X1_reckon : GoodIn wsX4_drivesAlong wsX1_reckon := goodIn_r _ [13, 14, 15, 16, 17, 18, 19, 20, 21, 22, 23, 24, 12, 25, 26, 27, 28, 6, 7, 8, 29, 30, 31, 41, 42, 43, 44, 45, 46, 47, 48, 49, 50, 51, 52, 53, 54] (by decide +kernel) (by decide +kernel)
set_option maxRecDepth 20000 in
theorem gX4_drivesAlong_X1_reckon : GoodIn wsX4_drivesAlong (wsV RX4 43 RX1 yX1_reckon wsX1_reckon) := goodIn_app (goodIn_of _ (by decide +kernel)) ggX4_drivesAlong_X1_reckon
set_option maxRecDepth 20000 in
theorem ggX4_drivesAlong_X1_drivesFrom : GoodIn wsX4_drivesAlong wsX1_drivesFrom := goodIn_r _ [35, 16, 15, 41, 42, 43, 44, 45, 46, 47, 48, 49] (by decide +kernel) (by decide +kernel)
set_option maxRecDepth 20000 in
theorem gX4_drivesAlong_X1_drivesFrom : GoodIn wsX4_drivesAlong (wsV RX4 84 RX1 yX1_drivesFrom wsX1_drivesFrom) := goodIn_app (goodIn_of _ (by decide +kernel)) ggX4_drivesAlong_X1_drivesFrom
theorem dX4_drivesAlong_0 : decode cX4_drivesAlong 0 = .ok (.lconst 0, 1) := by decide +kernel
theorem dX4_drivesAlong_1 : decode cX4_drivesAlong 1 = .ok (.lstore_n 2, 1) := by decide +kernel
theorem dX4_drivesAlong_2 : decode cX4_drivesAlong 2 = .ok (.iconst 0, 1) := by decide +kernel
theorem dX4_drivesAlong_3 : decode cX4_drivesAlong 3 = .ok (.istore 4, 2) := by decide +kernel
theorem dX4_drivesAlong_5 : decode cX4_drivesAlong 5 = .ok (.iload 4, 2) := by decide +kernel
theorem dX4_drivesAlong_7 : decode cX4_drivesAlong 7 = .ok (.iconst 1, 1) := by decide +kernel
theorem dX4_drivesAlong_8 : decode cX4_drivesAlong 8 = .ok (.iadd, 1) := by decide +kernel
theorem dX4_drivesAlong_9 : decode cX4_drivesAlong 9 = .ok (.aload_n 1, 1) := by decide +kernel
theorem dX4_drivesAlong_10 : decode cX4_drivesAlong 10 = .ok (.getfield 62, 3) := by decide +kernel
theorem dX4_drivesAlong_13 : decode cX4_drivesAlong 13 = .ok (.if_icmp .ge 77, 3) := by decide +kernel
theorem dX4_drivesAlong_16 : decode cX4_drivesAlong 16 = .ok (.aload_n 0, 1) := by decide +kernel
theorem dX4_drivesAlong_17 : decode cX4_drivesAlong 17 = .ok (.getfield 11, 3) := by decide +kernel
theorem dX4_drivesAlong_20 : decode cX4_drivesAlong 20 = .ok (.aload_n 1, 1) := by decide +kernel
theorem dX4_drivesAlong_21 : decode cX4_drivesAlong 21 = .ok (.getfield 74, 3) := by decide +kernel
theorem dX4_drivesAlong_24 : decode cX4_drivesAlong 24 = .ok (.iload 4, 2) := by decide +kernel
theorem dX4_drivesAlong_26 : decode cX4_drivesAlong 26 = .ok (.iadd, 1) := by decide +kernel
theorem dX4_drivesAlong_27 : decode cX4_drivesAlong 27 = .ok (.aaload, 1) := by decide +kernel
theorem dX4_drivesAlong_28 : decode cX4_drivesAlong 28 = .ok (.astore 5, 2) := by decide +kernel
theorem dX4_drivesAlong_30 : decode cX4_drivesAlong 30 = .ok (.aload 5, 2) := by decide +kernel
theorem dX4_drivesAlong_32 : decode cX4_drivesAlong 32 = .ok (.invokevirtual 43, 3) := by decide +kernel
theorem dX4_drivesAlong_35 : decode cX4_drivesAlong 35 = .ok (.aload_n 1, 1) := by decide +kernel
theorem dX4_drivesAlong_36 : decode cX4_drivesAlong 36 = .ok (.getfield 71, 3) := by decide +kernel
theorem dX4_drivesAlong_39 : decode cX4_drivesAlong 39 = .ok (.iload 4, 2) := by decide +kernel
theorem dX4_drivesAlong_41 : decode cX4_drivesAlong 41 = .ok (.iaload, 1) := by decide +kernel
theorem dX4_drivesAlong_42 : decode cX4_drivesAlong 42 = .ok (.aload_n 1, 1) := by decide +kernel
theorem dX4_drivesAlong_43 : decode cX4_drivesAlong 43 = .ok (.getfield 71, 3) := by decide +kernel
theorem dX4_drivesAlong_46 : decode cX4_drivesAlong 46 = .ok (.iload 4, 2) := by decide +kernel
theorem dX4_drivesAlong_48 : decode cX4_drivesAlong 48 = .ok (.iconst 1, 1) := by decide +kernel
theorem dX4_drivesAlong_49 : decode cX4_drivesAlong 49 = .ok (.iadd, 1) := by decide +kernel
theorem dX4_drivesAlong_50 : decode cX4_drivesAlong 50 = .ok (.iaload, 1) := by decide +kernel
theorem dX4_drivesAlong_51 : decode cX4_drivesAlong 51 = .ok (.invokestatic 81, 3) := by decide +kernel
theorem dX4_drivesAlong_54 : decode cX4_drivesAlong 54 = .ok (.istore 6, 2) := by decide +kernel
theorem dX4_drivesAlong_56 : decode cX4_drivesAlong 56 = .ok (.lload_n 2, 1) := by decide +kernel
theorem dX4_drivesAlong_57 : decode cX4_drivesAlong 57 = .ok (.aload 5, 2) := by decide +kernel
theorem dX4_drivesAlong_59 : decode cX4_drivesAlong 59 = .ok (.iload 6, 2) := by decide +kernel
theorem dX4_drivesAlong_61 : decode cX4_drivesAlong 61 = .ok (.aload_n 1, 1) := by decide +kernel
theorem dX4_drivesAlong_62 : decode cX4_drivesAlong 62 = .ok (.getfield 71, 3) := by decide +kernel
theorem dX4_drivesAlong_65 : decode cX4_drivesAlong 65 = .ok (.iload 4, 2) := by decide +kernel
theorem dX4_drivesAlong_67 : decode cX4_drivesAlong 67 = .ok (.iaload, 1) := by decide +kernel
theorem dX4_drivesAlong_68 : decode cX4_drivesAlong 68 = .ok (.aload_n 1, 1) := by decide +kernel
theorem dX4_drivesAlong_69 : decode cX4_drivesAlong 69 = .ok (.getfield 71, 3) := by decide +kernel
theorem dX4_drivesAlong_72 : decode cX4_drivesAlong 72 = .ok (.iload 4, 2) := by decide +kernel
theorem dX4_drivesAlong_74 : decode cX4_drivesAlong 74 = .ok (.iconst 1, 1) := by decide +kernel
theorem dX4_drivesAlong_75 : decode cX4_drivesAlong 75 = .ok (.iadd, 1) := by decide +kernel
theorem dX4_drivesAlong_76 : decode cX4_drivesAlong 76 = .ok (.iaload, 1) := by decide +kernel
theorem dX4_drivesAlong_77 : decode cX4_drivesAlong 77 = .ok (.isub, 1) := by decide +kernel
theorem dX4_drivesAlong_78 : decode cX4_drivesAlong 78 = .ok (.invokevirtual 84, 3) := by decide +kernel
theorem dX4_drivesAlong_81 : decode cX4_drivesAlong 81 = .ok (.i2l, 1) := by decide +kernel
theorem dX4_drivesAlong_82 : decode cX4_drivesAlong 82 = .ok (.ladd, 1) := by decide +kernel
theorem dX4_drivesAlong_83 : decode cX4_drivesAlong 83 = .ok (.lstore_n 2, 1) := by decide +kernel
theorem dX4_drivesAlong_84 : decode cX4_drivesAlong 84 = .ok (.iinc 4 1, 3) := by decide +kernel
theorem dX4_drivesAlong_87 : decode cX4_drivesAlong 87 = .ok (.goto (-82), 3) := by decide +kernel
theorem dX4_drivesAlong_90 : decode cX4_drivesAlong 90 = .ok (.lload_n 2, 1) := by decide +kernel
theorem dX4_drivesAlong_91 : decode cX4_drivesAlong 91 = .ok (.lreturn, 1) := by decide +kernel
set_option maxRecDepth 20000 in
theorem ggX4_holdsOfPart_X1_reckon : GoodIn wsX4_holdsOfPart wsX1_reckon := goodIn_r _ [15, 16, 17, 18, 19, 20, 21, 22, 23, 24, 25, 26, 14, 27, 28, 29, 30, 31, 6, 32, 33, 34, 35, 45, 46, 47, 48, 49, 50, 51, 52, 53, 54, 55, 56, 57, 58] (by decide +kernel) (by decide +kernel)
set_option maxRecDepth 20000 in
theorem gX4_holdsOfPart_X1_reckon : GoodIn wsX4_holdsOfPart (wsV RX4 43 RX1 yX1_reckon wsX1_reckon) := goodIn_app (goodIn_of _ (by decide +kernel)) ggX4_holdsOfPart_X1_reckon
set_option maxRecDepth 20000 in
theorem ggX4_holdsOfPart_X1_holdsAt : GoodIn wsX4_holdsOfPart wsX1_holdsAt := goodIn_r _ [39, 18, 23, 45, 46, 47, 48, 49, 50, 51, 52, 53] (by decide +kernel) (by decide +kernel)
set_option maxRecDepth 20000 in
theorem gX4_holdsOfPart_X1_holdsAt : GoodIn wsX4_holdsOfPart (wsV RX4 91 RX1 yX1_holdsAt wsX1_holdsAt) := goodIn_app (goodIn_of _ (by decide +kernel)) ggX4_holdsOfPart_X1_holdsAt
theorem dX4_holdsOfPart_0 : decode cX4_holdsOfPart 0 = .ok (.aload_n 0, 1) := by decide +kernel
theorem dX4_holdsOfPart_1 : decode cX4_holdsOfPart 1 = .ok (.getfield 11, 3) := by decide +kernel
theorem dX4_holdsOfPart_4 : decode cX4_holdsOfPart 4 = .ok (.aload_n 1, 1) := by decide +kernel
theorem dX4_holdsOfPart_5 : decode cX4_holdsOfPart 5 = .ok (.getfield 74, 3) := by decide +kernel
theorem dX4_holdsOfPart_8 : decode cX4_holdsOfPart 8 = .ok (.iload_n 2, 1) := by decide +kernel
theorem dX4_holdsOfPart_9 : decode cX4_holdsOfPart 9 = .ok (.iadd, 1) := by decide +kernel
theorem dX4_holdsOfPart_10 : decode cX4_holdsOfPart 10 = .ok (.aaload, 1) := by decide +kernel
theorem dX4_holdsOfPart_11 : decode cX4_holdsOfPart 11 = .ok (.astore_n 3, 1) := by decide +kernel
theorem dX4_holdsOfPart_12 : decode cX4_holdsOfPart 12 = .ok (.aload_n 3, 1) := by decide +kernel
theorem dX4_holdsOfPart_13 : decode cX4_holdsOfPart 13 = .ok (.invokevirtual 43, 3) := by decide +kernel
theorem dX4_holdsOfPart_16 : decode cX4_holdsOfPart 16 = .ok (.aload_n 1, 1) := by decide +kernel
theorem dX4_holdsOfPart_17 : decode cX4_holdsOfPart 17 = .ok (.getfield 71, 3) := by decide +kernel
theorem dX4_holdsOfPart_20 : decode cX4_holdsOfPart 20 = .ok (.iload_n 2, 1) := by decide +kernel
theorem dX4_holdsOfPart_21 : decode cX4_holdsOfPart 21 = .ok (.iaload, 1) := by decide +kernel
theorem dX4_holdsOfPart_22 : decode cX4_holdsOfPart 22 = .ok (.aload_n 1, 1) := by decide +kernel
theorem dX4_holdsOfPart_23 : decode cX4_holdsOfPart 23 = .ok (.getfield 71, 3) := by decide +kernel
theorem dX4_holdsOfPart_26 : decode cX4_holdsOfPart 26 = .ok (.iload_n 2, 1) := by decide +kernel
theorem dX4_holdsOfPart_27 : decode cX4_holdsOfPart 27 = .ok (.iconst 1, 1) := by decide +kernel
theorem dX4_holdsOfPart_28 : decode cX4_holdsOfPart 28 = .ok (.iadd, 1) := by decide +kernel
theorem dX4_holdsOfPart_29 : decode cX4_holdsOfPart 29 = .ok (.iaload, 1) := by decide +kernel
theorem dX4_holdsOfPart_30 : decode cX4_holdsOfPart 30 = .ok (.invokestatic 49, 3) := by decide +kernel
theorem dX4_holdsOfPart_33 : decode cX4_holdsOfPart 33 = .ok (.istore 4, 2) := by decide +kernel
theorem dX4_holdsOfPart_35 : decode cX4_holdsOfPart 35 = .ok (.aload_n 3, 1) := by decide +kernel
theorem dX4_holdsOfPart_36 : decode cX4_holdsOfPart 36 = .ok (.iload 4, 2) := by decide +kernel
theorem dX4_holdsOfPart_38 : decode cX4_holdsOfPart 38 = .ok (.aload_n 1, 1) := by decide +kernel
theorem dX4_holdsOfPart_39 : decode cX4_holdsOfPart 39 = .ok (.getfield 71, 3) := by decide +kernel
theorem dX4_holdsOfPart_42 : decode cX4_holdsOfPart 42 = .ok (.iload_n 2, 1) := by decide +kernel
theorem dX4_holdsOfPart_43 : decode cX4_holdsOfPart 43 = .ok (.iaload, 1) := by decide +kernel
theorem dX4_holdsOfPart_44 : decode cX4_holdsOfPart 44 = .ok (.aload_n 1, 1) := by decide +kernel
theorem dX4_holdsOfPart_45 : decode cX4_holdsOfPart 45 = .ok (.getfield 71, 3) := by decide +kernel
theorem dX4_holdsOfPart_48 : decode cX4_holdsOfPart 48 = .ok (.iload_n 2, 1) := by decide +kernel
theorem dX4_holdsOfPart_49 : decode cX4_holdsOfPart 49 = .ok (.iconst 1, 1) := by decide +kernel
theorem dX4_holdsOfPart_50 : decode cX4_holdsOfPart 50 = .ok (.iadd, 1) := by decide +kernel
theorem dX4_holdsOfPart_51 : decode cX4_holdsOfPart 51 = .ok (.iaload, 1) := by decide +kernel
theorem dX4_holdsOfPart_52 : decode cX4_holdsOfPart 52 = .ok (.isub, 1) := by decide +kernel
theorem dX4_holdsOfPart_53 : decode cX4_holdsOfPart 53 = .ok (.invokestatic 87, 3) := by decide +kernel
theorem dX4_holdsOfPart_56 : decode cX4_holdsOfPart 56 = .ok (.invokevirtual 91, 3) := by decide +kernel
theorem dX4_holdsOfPart_59 : decode cX4_holdsOfPart 59 = .ok (.ireturn, 1) := by decide +kernel
end
section
theorem dX6_init_0 : decode cX6_init 0 = .ok (.aload_n 0, 1) := by decide +kernel
theorem dX6_init_1 : decode cX6_init 1 = .ok (.invokespecial 3, 3) := by decide +kernel
theorem dX6_init_4 : decode cX6_init 4 = .ok (.aload_n 0, 1) := by decide +kernel
theorem dX6_init_5 : decode cX6_init 5 = .ok (.sipush 325, 3) := by decide +kernel
theorem dX6_init_8 : decode cX6_init 8 = .ok (.newarray .long, 2) := by decide +kernel
theorem dX6_init_10 : decode cX6_init 10 = .ok (.putfield 9, 3) := by decide +kernel
theorem dX6_init_13 : decode cX6_init 13 = .ok (.aload_n 0, 1) := by decide +kernel
theorem dX6_init_14 : decode cX6_init 14 = .ok (.bipush 12, 2) := by decide +kernel
theorem dX6_init_16 : decode cX6_init 16 = .ok (.newarray .long, 2) := by decide +kernel
theorem dX6_init_18 : decode cX6_init 18 = .ok (.putfield 15, 3) := by decide +kernel
theorem dX6_init_21 : decode cX6_init 21 = .ok (.aload_n 0, 1) := by decide +kernel
theorem dX6_init_22 : decode cX6_init 22 = .ok (.lconst 0, 1) := by decide +kernel
theorem dX6_init_23 : decode cX6_init 23 = .ok (.putfield 18, 3) := by decide +kernel
theorem dX6_init_26 : decode cX6_init 26 = .ok (.aload_n 0, 1) := by decide +kernel
theorem dX6_init_27 : decode cX6_init 27 = .ok (.lconst 1, 1) := by decide +kernel
theorem dX6_init_28 : decode cX6_init 28 = .ok (.putfield 22, 3) := by decide +kernel
theorem dX6_init_31 : decode cX6_init 31 = .ok (.aload_n 0, 1) := by decide +kernel
theorem dX6_init_32 : decode cX6_init 32 = .ok (.iconst 2, 1) := by decide +kernel
theorem dX6_init_33 : decode cX6_init 33 = .ok (.putfield 25, 3) := by decide +kernel
theorem dX6_init_36 : decode cX6_init 36 = .ok (.aload_n 0, 1) := by decide +kernel
theorem dX6_init_37 : decode cX6_init 37 = .ok (.iconst 1, 1) := by decide +kernel
theorem dX6_init_38 : decode cX6_init 38 = .ok (.putfield 29, 3) := by decide +kernel
theorem dX6_init_41 : decode cX6_init 41 = .ok (.aload_n 0, 1) := by decide +kernel
theorem dX6_init_42 : decode cX6_init 42 = .ok (.aload_n 1, 1) := by decide +kernel
theorem dX6_init_43 : decode cX6_init 43 = .ok (.putfield 33, 3) := by decide +kernel
theorem dX6_init_46 : decode cX6_init 46 = .ok (.return_, 1) := by decide +kernel
theorem dX6_study_0 : decode cX6_study 0 = .ok (.aload_n 0, 1) := by decide +kernel
theorem dX6_study_1 : decode cX6_study 1 = .ok (.aload_n 1, 1) := by decide +kernel
theorem dX6_study_2 : decode cX6_study 2 = .ok (.putfield 33, 3) := by decide +kernel
theorem dX6_study_5 : decode cX6_study 5 = .ok (.return_, 1) := by decide +kernel
set_option maxRecDepth 20000 in
theorem ggX6_stands_X6_aim : GoodIn wsX6_stands wsX6_aim := goodIn_r _ [8, 9, 10, 57, 58, 59, 60, 61, 62, 63] (by decide +kernel) (by decide +kernel)
set_option maxRecDepth 20000 in
theorem gX6_stands_X6_aim : GoodIn wsX6_stands (wsV RX6 37 RX6 yX6_aim wsX6_aim) := goodIn_app (goodIn_of _ (by decide +kernel)) ggX6_stands_X6_aim
set_option maxRecDepth 20000 in
theorem ggX6_stands_X6_weigh : GoodIn wsX6_stands wsX6_weigh := goodIn_r _ [14, 15, 16, 3, 17, 1, 18, 19, 20, 21, 22, 7, 23, 24, 25, 26, 27, 28, 29, 30, 31, 32, 33, 34, 35, 36, 10, 9, 37, 38, 39, 40, 41, 42, 43, 44, 45, 46, 47, 48, 49, 50, 51, 52, 57, 58, 59, 60, 61, 62, 63, 64, 65, 66, 67, 68, 69, 70, 71, 72, 73, 74] (by decide +kernel) (by decide +kernel)
set_option maxRecDepth 20000 in
theorem gX6_stands_X6_weigh : GoodIn wsX6_stands (wsV RX6 46 RX6 yX6_weigh wsX6_weigh) := goodIn_app (goodIn_of _ (by decide +kernel)) ggX6_stands_X6_weigh
set_option maxRecDepth 20000 in
theorem ggX6_stands_X6_leastStart : GoodIn wsX6_stands wsX6_leastStart := goodIn_r _ [56, 1, 2, 3, 57, 58, 59, 60, 61, 62, 63, 64, 65] (by decide +kernel) (by decide +kernel)
set_option maxRecDepth 20000 in
theorem gX6_stands_X6_leastStart : GoodIn wsX6_stands (wsV RX6 50 RX6 yX6_leastStart wsX6_leastStart) := goodIn_app (goodIn_of _ (by decide +kernel)) ggX6_stands_X6_leastStart
theorem dX6_stands_0 : decode cX6_stands 0 = .ok (.aload_n 0, 1) := by decide +kernel
theorem dX6_stands_1 : decode cX6_stands 1 = .ok (.lload_n 1, 1) := by decide +kernel
theorem dX6_stands_2 : decode cX6_stands 2 = .ok (.lload_n 3, 1) := by decide +kernel
theorem dX6_stands_3 : decode cX6_stands 3 = .ok (.invokevirtual 37, 3) := by decide +kernel
theorem dX6_stands_6 : decode cX6_stands 6 = .ok (.aload_n 0, 1) := by decide +kernel
theorem dX6_stands_7 : decode cX6_stands 7 = .ok (.iconst 0, 1) := by decide +kernel
theorem dX6_stands_8 : decode cX6_stands 8 = .ok (.aload_n 0, 1) := by decide +kernel
theorem dX6_stands_9 : decode cX6_stands 9 = .ok (.getfield 33, 3) := by decide +kernel
theorem dX6_stands_12 : decode cX6_stands 12 = .ok (.getfield 41, 3) := by decide +kernel
theorem dX6_stands_15 : decode cX6_stands 15 = .ok (.iconst 1, 1) := by decide +kernel
theorem dX6_stands_16 : decode cX6_stands 16 = .ok (.invokevirtual 46, 3) := by decide +kernel
theorem dX6_stands_19 : decode cX6_stands 19 = .ok (.aload_n 0, 1) := by decide +kernel
theorem dX6_stands_20 : decode cX6_stands 20 = .ok (.getfield 15, 3) := by decide +kernel
theorem dX6_stands_23 : decode cX6_stands 23 = .ok (.aload_n 0, 1) := by decide +kernel
theorem dX6_stands_24 : decode cX6_stands 24 = .ok (.invokevirtual 50, 3) := by decide +kernel
theorem dX6_stands_27 : decode cX6_stands 27 = .ok (.laload, 1) := by decide +kernel
theorem dX6_stands_28 : decode cX6_stands 28 = .ok (.lconst 0, 1) := by decide +kernel
theorem dX6_stands_29 : decode cX6_stands 29 = .ok (.lcmp, 1) := by decide +kernel
theorem dX6_stands_30 : decode cX6_stands 30 = .ok (.ifCond .lt 7, 3) := by decide +kernel
theorem dX6_stands_33 : decode cX6_stands 33 = .ok (.iconst 1, 1) := by decide +kernel
theorem dX6_stands_34 : decode cX6_stands 34 = .ok (.goto 4, 3) := by decide +kernel
theorem dX6_stands_37 : decode cX6_stands 37 = .ok (.iconst 0, 1) := by decide +kernel
theorem dX6_stands_38 : decode cX6_stands 38 = .ok (.ireturn, 1) := by decide +kernel
set_option maxRecDepth 20000 in
theorem ggX6_findWorst_X6_aim : GoodIn wsX6_findWorst wsX6_aim := goodIn_r _ [10, 11, 12, 143, 144, 145, 146, 147, 148, 149] (by decide +kernel) (by decide +kernel)
set_option maxRecDepth 20000 in
theorem gX6_findWorst_X6_aim : GoodIn wsX6_findWorst (wsV RX6 37 RX6 yX6_aim wsX6_aim) := goodIn_app (goodIn_of _ (by decide +kernel)) ggX6_findWorst_X6_aim
set_option maxRecDepth 20000 in
theorem ggX6_findWorst_X6_weigh : GoodIn wsX6_findWorst wsX6_weigh := goodIn_r _ [16, 17, 18, 3, 19, 1, 20, 21, 22, 23, 24, 9, 25, 26, 27, 28, 29, 30, 31, 32, 33, 34, 35, 36, 37, 38, 12, 11, 39, 40, 41, 42, 43, 44, 45, 46, 47, 48, 49, 50, 51, 52, 53, 54, 143, 144, 145, 146, 147, 148, 149, 150, 151, 154, 155, 156, 157, 158, 159, 160, 161, 162] (by decide +kernel) (by decide +kernel)
set_option maxRecDepth 20000 in
theorem gX6_findWorst_X6_weigh : GoodIn wsX6_findWorst (wsV RX6 46 RX6 yX6_weigh wsX6_weigh) := goodIn_app (goodIn_of _ (by decide +kernel)) ggX6_findWorst_X6_weigh
set_option maxRecDepth 20000 in
theorem ggX6_findWorst_X6_leastStart : GoodIn wsX6_findWorst wsX6_leastStart := goodIn_r _ [58, 1, 2, 3, 143, 144, 145, 146, 147, 148, 149, 150, 151] (by decide +kernel) (by decide +kernel)
set_option maxRecDepth 20000 in
theorem gX6_findWorst_X6_leastStart : GoodIn wsX6_findWorst (wsV RX6 50 RX6 yX6_leastStart wsX6_leastStart) := goodIn_app (goodIn_of _ (by decide +kernel)) ggX6_findWorst_X6_leastStart
set_option maxRecDepth 20000 in
theorem ggX6_findWorst_X6_follow : GoodIn wsX6_findWorst wsX6_follow := goodIn_r _ [62, 1, 20, 21, 17, 18, 63, 64, 65, 66, 67, 68, 69, 70, 71, 72, 73, 9, 74, 75, 76, 33, 77, 78, 79, 80, 19, 26, 81, 82, 83, 84, 85, 86, 87, 12, 11, 39, 40, 41, 42, 43, 44, 45, 46, 47, 48, 49, 50, 88, 89, 90, 91, 143, 144, 145, 146, 147, 148, 149, 150, 151, 154, 155, 156, 157, 158, 159, 160, 161, 162, 163, 164, 165] (by decide +kernel) (by decide +kernel)
set_option maxRecDepth 20000 in
theorem gX6_findWorst_X6_follow : GoodIn wsX6_findWorst (wsV RX6 54 RX6 yX6_follow wsX6_follow) := goodIn_app (goodIn_of _ (by decide +kernel)) ggX6_findWorst_X6_follow
set_option maxRecDepth 20000 in
theorem ggX6_findWorst_X4_holdsAlong : GoodIn wsX6_findWorst wsX4_holdsAlong := goodIn_r _ [96, 97, 98, 99, 100, 95, 101, 102, 103, 104, 105, 76, 33, 77, 106, 86, 87, 107, 108, 109, 42, 110, 111, 50, 44, 112, 113, 114, 115, 45, 116, 117, 118, 119, 120, 121, 122, 79, 80, 123, 124, 125, 126, 40, 41, 43, 163, 164, 165, 150, 151, 154, 155, 156, 157, 158, 159, 160, 161, 162, 166, 167, 168, 169, 170] (by decide +kernel) (by decide +kernel)
set_option maxRecDepth 20000 in
theorem gX6_findWorst_X4_holdsAlong : GoodIn wsX6_findWorst (wsV RX6 58 RX4 yX4_holdsAlong wsX4_holdsAlong) := goodIn_app (goodIn_of _ (by decide +kernel)) ggX6_findWorst_X4_holdsAlong
set_option maxRecDepth 20000 in
theorem ggX6_findWorst_X4_drivesAlong : GoodIn wsX6_findWorst wsX4_drivesAlong := goodIn_r _ [130, 97, 102, 103, 104, 131, 79, 33, 80, 107, 108, 109, 42, 110, 111, 50, 44, 112, 113, 114, 115, 45, 116, 117, 118, 119, 120, 121, 122, 123, 124, 125, 132, 47, 48, 49, 163, 164, 165, 150, 151, 154, 155, 156, 157, 158, 159, 160, 161, 162, 166, 167, 168, 169, 170] (by decide +kernel) (by decide +kernel)
set_option maxRecDepth 20000 in
theorem gX6_findWorst_X4_drivesAlong : GoodIn wsX6_findWorst (wsV RX6 62 RX4 yX4_drivesAlong wsX4_drivesAlong) := goodIn_app (goodIn_of _ (by decide +kernel)) ggX6_findWorst_X4_drivesAlong
set_option maxRecDepth 20000 in
theorem ggX6_findWorst_X3_become : GoodIn wsX6_findWorst wsX3_become := goodIn_r _ [137, 138, 139, 140, 141, 136, 142, 152, 153] (by decide +kernel) (by decide +kernel)
set_option maxRecDepth 20000 in
theorem gX6_findWorst_X3_become : GoodIn wsX6_findWorst (wsV RX6 65 RX3 yX3_become wsX3_become) := goodIn_app (goodIn_of _ (by decide +kernel)) ggX6_findWorst_X3_become
theorem dX6_findWorst_0 : decode cX6_findWorst 0 = .ok (.aload_n 0, 1) := by decide +kernel
theorem dX6_findWorst_1 : decode cX6_findWorst 1 = .ok (.lconst 1, 1) := by decide +kernel
theorem dX6_findWorst_2 : decode cX6_findWorst 2 = .ok (.lconst 0, 1) := by decide +kernel
theorem dX6_findWorst_3 : decode cX6_findWorst 3 = .ok (.invokevirtual 37, 3) := by decide +kernel
theorem dX6_findWorst_6 : decode cX6_findWorst 6 = .ok (.iconst 0, 1) := by decide +kernel
theorem dX6_findWorst_7 : decode cX6_findWorst 7 = .ok (.istore_n 3, 1) := by decide +kernel
theorem dX6_findWorst_8 : decode cX6_findWorst 8 = .ok (.iload_n 3, 1) := by decide +kernel
theorem dX6_findWorst_9 : decode cX6_findWorst 9 = .ok (.sipush 1000, 3) := by decide +kernel
theorem dX6_findWorst_12 : decode cX6_findWorst 12 = .ok (.if_icmp .ge 96, 3) := by decide +kernel
theorem dX6_findWorst_15 : decode cX6_findWorst 15 = .ok (.aload_n 0, 1) := by decide +kernel
theorem dX6_findWorst_16 : decode cX6_findWorst 16 = .ok (.iconst 0, 1) := by decide +kernel
theorem dX6_findWorst_17 : decode cX6_findWorst 17 = .ok (.aload_n 0, 1) := by decide +kernel
theorem dX6_findWorst_18 : decode cX6_findWorst 18 = .ok (.getfield 33, 3) := by decide +kernel
theorem dX6_findWorst_21 : decode cX6_findWorst 21 = .ok (.getfield 41, 3) := by decide +kernel
theorem dX6_findWorst_24 : decode cX6_findWorst 24 = .ok (.iconst 1, 1) := by decide +kernel
theorem dX6_findWorst_25 : decode cX6_findWorst 25 = .ok (.invokevirtual 46, 3) := by decide +kernel
theorem dX6_findWorst_28 : decode cX6_findWorst 28 = .ok (.aload_n 0, 1) := by decide +kernel
theorem dX6_findWorst_29 : decode cX6_findWorst 29 = .ok (.invokevirtual 50, 3) := by decide +kernel
theorem dX6_findWorst_32 : decode cX6_findWorst 32 = .ok (.istore 4, 2) := by decide +kernel
theorem dX6_findWorst_34 : decode cX6_findWorst 34 = .ok (.aload_n 0, 1) := by decide +kernel
theorem dX6_findWorst_35 : decode cX6_findWorst 35 = .ok (.getfield 15, 3) := by decide +kernel
theorem dX6_findWorst_38 : decode cX6_findWorst 38 = .ok (.iload 4, 2) := by decide +kernel
theorem dX6_findWorst_40 : decode cX6_findWorst 40 = .ok (.laload, 1) := by decide +kernel
theorem dX6_findWorst_41 : decode cX6_findWorst 41 = .ok (.lconst 0, 1) := by decide +kernel
theorem dX6_findWorst_42 : decode cX6_findWorst 42 = .ok (.lcmp, 1) := by decide +kernel
theorem dX6_findWorst_43 : decode cX6_findWorst 43 = .ok (.ifCond .lt 13, 3) := by decide +kernel
theorem dX6_findWorst_46 : decode cX6_findWorst 46 = .ok (.iload_n 3, 1) := by decide +kernel
theorem dX6_findWorst_47 : decode cX6_findWorst 47 = .ok (.ifCond .le 7, 3) := by decide +kernel
theorem dX6_findWorst_50 : decode cX6_findWorst 50 = .ok (.iconst 1, 1) := by decide +kernel
theorem dX6_findWorst_51 : decode cX6_findWorst 51 = .ok (.goto 4, 3) := by decide +kernel
theorem dX6_findWorst_54 : decode cX6_findWorst 54 = .ok (.iconst 0, 1) := by decide +kernel
theorem dX6_findWorst_55 : decode cX6_findWorst 55 = .ok (.ireturn, 1) := by decide +kernel
theorem dX6_findWorst_56 : decode cX6_findWorst 56 = .ok (.aload_n 0, 1) := by decide +kernel
theorem dX6_findWorst_57 : decode cX6_findWorst 57 = .ok (.iload 4, 2) := by decide +kernel
theorem dX6_findWorst_59 : decode cX6_findWorst 59 = .ok (.aload_n 0, 1) := by decide +kernel
theorem dX6_findWorst_60 : decode cX6_findWorst 60 = .ok (.getfield 15, 3) := by decide +kernel
theorem dX6_findWorst_63 : decode cX6_findWorst 63 = .ok (.iload 4, 2) := by decide +kernel
theorem dX6_findWorst_65 : decode cX6_findWorst 65 = .ok (.laload, 1) := by decide +kernel
theorem dX6_findWorst_66 : decode cX6_findWorst 66 = .ok (.aload_n 1, 1) := by decide +kernel
theorem dX6_findWorst_67 : decode cX6_findWorst 67 = .ok (.invokevirtual 54, 3) := by decide +kernel
theorem dX6_findWorst_70 : decode cX6_findWorst 70 = .ok (.aload_n 2, 1) := by decide +kernel
theorem dX6_findWorst_71 : decode cX6_findWorst 71 = .ok (.aload_n 0, 1) := by decide +kernel
theorem dX6_findWorst_72 : decode cX6_findWorst 72 = .ok (.getfield 33, 3) := by decide +kernel
theorem dX6_findWorst_75 : decode cX6_findWorst 75 = .ok (.aload_n 1, 1) := by decide +kernel
theorem dX6_findWorst_76 : decode cX6_findWorst 76 = .ok (.invokevirtual 58, 3) := by decide +kernel
theorem dX6_findWorst_79 : decode cX6_findWorst 79 = .ok (.aload_n 0, 1) := by decide +kernel
theorem dX6_findWorst_80 : decode cX6_findWorst 80 = .ok (.getfield 33, 3) := by decide +kernel
theorem dX6_findWorst_83 : decode cX6_findWorst 83 = .ok (.aload_n 1, 1) := by decide +kernel
theorem dX6_findWorst_84 : decode cX6_findWorst 84 = .ok (.invokevirtual 62, 3) := by decide +kernel
theorem dX6_findWorst_87 : decode cX6_findWorst 87 = .ok (.invokevirtual 65, 3) := by decide +kernel
theorem dX6_findWorst_90 : decode cX6_findWorst 90 = .ok (.aload_n 0, 1) := by decide +kernel
theorem dX6_findWorst_91 : decode cX6_findWorst 91 = .ok (.aload_n 2, 1) := by decide +kernel
theorem dX6_findWorst_92 : decode cX6_findWorst 92 = .ok (.getfield 70, 3) := by decide +kernel
theorem dX6_findWorst_95 : decode cX6_findWorst 95 = .ok (.aload_n 2, 1) := by decide +kernel
theorem dX6_findWorst_96 : decode cX6_findWorst 96 = .ok (.getfield 73, 3) := by decide +kernel
theorem dX6_findWorst_99 : decode cX6_findWorst 99 = .ok (.invokevirtual 37, 3) := by decide +kernel
theorem dX6_findWorst_102 : decode cX6_findWorst 102 = .ok (.iinc 3 1, 3) := by decide +kernel
theorem dX6_findWorst_105 : decode cX6_findWorst 105 = .ok (.goto (-97), 3) := by decide +kernel
theorem dX6_findWorst_108 : decode cX6_findWorst 108 = .ok (.iconst 0, 1) := by decide +kernel
theorem dX6_findWorst_109 : decode cX6_findWorst 109 = .ok (.ireturn, 1) := by decide +kernel
set_option maxRecDepth 20000 in
theorem ggX6_findFirst_X6_aim : GoodIn wsX6_findFirst wsX6_aim := goodIn_r _ [12, 13, 14, 92, 93, 94, 95, 96, 97, 98] (by decide +kernel) (by decide +kernel)
set_option maxRecDepth 20000 in
theorem gX6_findFirst_X6_aim : GoodIn wsX6_findFirst (wsV RX6 37 RX6 yX6_aim wsX6_aim) := goodIn_app (goodIn_of _ (by decide +kernel)) ggX6_findFirst_X6_aim
set_option maxRecDepth 20000 in
theorem ggX6_findFirst_X6_weigh : GoodIn wsX6_findFirst wsX6_weigh := goodIn_r _ [18, 19, 20, 6, 21, 4, 22, 23, 24, 25, 26, 11, 27, 28, 29, 30, 31, 32, 33, 34, 35, 36, 37, 38, 39, 40, 14, 13, 41, 42, 43, 44, 45, 46, 47, 48, 49, 50, 51, 52, 53, 54, 55, 56, 92, 93, 94, 95, 96, 97, 98, 99, 100, 101, 102, 103, 104, 105, 106, 107, 108, 109] (by decide +kernel) (by decide +kernel)
set_option maxRecDepth 20000 in
theorem gX6_findFirst_X6_weigh : GoodIn wsX6_findFirst (wsV RX6 46 RX6 yX6_weigh wsX6_weigh) := goodIn_app (goodIn_of _ (by decide +kernel)) ggX6_findFirst_X6_weigh
set_option maxRecDepth 20000 in
theorem ggX6_findFirst_X6_follow : GoodIn wsX6_findFirst wsX6_follow := goodIn_r _ [60, 4, 22, 23, 19, 20, 61, 62, 63, 64, 65, 66, 67, 68, 69, 70, 71, 11, 72, 73, 74, 35, 75, 76, 77, 78, 21, 28, 79, 80, 81, 82, 83, 84, 85, 14, 13, 41, 42, 43, 44, 45, 46, 47, 48, 49, 50, 51, 52, 86, 87, 88, 89, 92, 93, 94, 95, 96, 97, 98, 99, 100, 101, 102, 103, 104, 105, 106, 107, 108, 109, 110, 111, 112] (by decide +kernel) (by decide +kernel)
set_option maxRecDepth 20000 in
theorem gX6_findFirst_X6_follow : GoodIn wsX6_findFirst (wsV RX6 54 RX6 yX6_follow wsX6_follow) := goodIn_app (goodIn_of _ (by decide +kernel)) ggX6_findFirst_X6_follow
theorem dX6_findFirst_0 : decode cX6_findFirst 0 = .ok (.aload_n 0, 1) := by decide +kernel
theorem dX6_findFirst_1 : decode cX6_findFirst 1 = .ok (.aload_n 2, 1) := by decide +kernel
theorem dX6_findFirst_2 : decode cX6_findFirst 2 = .ok (.getfield 70, 3) := by decide +kernel
theorem dX6_findFirst_5 : decode cX6_findFirst 5 = .ok (.ldc2_w 76, 3) := by decide +kernel
theorem dX6_findFirst_8 : decode cX6_findFirst 8 = .ok (.lmul, 1) := by decide +kernel
theorem dX6_findFirst_9 : decode cX6_findFirst 9 = .ok (.lconst 1, 1) := by decide +kernel
theorem dX6_findFirst_10 : decode cX6_findFirst 10 = .ok (.ladd, 1) := by decide +kernel
theorem dX6_findFirst_11 : decode cX6_findFirst 11 = .ok (.aload_n 2, 1) := by decide +kernel
theorem dX6_findFirst_12 : decode cX6_findFirst 12 = .ok (.getfield 73, 3) := by decide +kernel
theorem dX6_findFirst_15 : decode cX6_findFirst 15 = .ok (.ldc2_w 76, 3) := by decide +kernel
theorem dX6_findFirst_18 : decode cX6_findFirst 18 = .ok (.lmul, 1) := by decide +kernel
theorem dX6_findFirst_19 : decode cX6_findFirst 19 = .ok (.invokevirtual 37, 3) := by decide +kernel
theorem dX6_findFirst_22 : decode cX6_findFirst 22 = .ok (.aload_n 0, 1) := by decide +kernel
theorem dX6_findFirst_23 : decode cX6_findFirst 23 = .ok (.iconst 0, 1) := by decide +kernel
theorem dX6_findFirst_24 : decode cX6_findFirst 24 = .ok (.aload_n 0, 1) := by decide +kernel
theorem dX6_findFirst_25 : decode cX6_findFirst 25 = .ok (.getfield 33, 3) := by decide +kernel
theorem dX6_findFirst_28 : decode cX6_findFirst 28 = .ok (.getfield 41, 3) := by decide +kernel
theorem dX6_findFirst_31 : decode cX6_findFirst 31 = .ok (.iconst 1, 1) := by decide +kernel
theorem dX6_findFirst_32 : decode cX6_findFirst 32 = .ok (.invokevirtual 46, 3) := by decide +kernel
theorem dX6_findFirst_35 : decode cX6_findFirst 35 = .ok (.iconst 0, 1) := by decide +kernel
theorem dX6_findFirst_36 : decode cX6_findFirst 36 = .ok (.istore_n 3, 1) := by decide +kernel
theorem dX6_findFirst_37 : decode cX6_findFirst 37 = .ok (.iload_n 3, 1) := by decide +kernel
theorem dX6_findFirst_38 : decode cX6_findFirst 38 = .ok (.aload_n 0, 1) := by decide +kernel
theorem dX6_findFirst_39 : decode cX6_findFirst 39 = .ok (.getfield 33, 3) := by decide +kernel
theorem dX6_findFirst_42 : decode cX6_findFirst 42 = .ok (.getfield 41, 3) := by decide +kernel
theorem dX6_findFirst_45 : decode cX6_findFirst 45 = .ok (.iconst 1, 1) := by decide +kernel
theorem dX6_findFirst_46 : decode cX6_findFirst 46 = .ok (.isub, 1) := by decide +kernel
theorem dX6_findFirst_47 : decode cX6_findFirst 47 = .ok (.if_icmp .ge 20, 3) := by decide +kernel
theorem dX6_findFirst_50 : decode cX6_findFirst 50 = .ok (.aload_n 0, 1) := by decide +kernel
theorem dX6_findFirst_51 : decode cX6_findFirst 51 = .ok (.getfield 15, 3) := by decide +kernel
theorem dX6_findFirst_54 : decode cX6_findFirst 54 = .ok (.iload_n 3, 1) := by decide +kernel
theorem dX6_findFirst_55 : decode cX6_findFirst 55 = .ok (.laload, 1) := by decide +kernel
theorem dX6_findFirst_56 : decode cX6_findFirst 56 = .ok (.lconst 0, 1) := by decide +kernel
theorem dX6_findFirst_57 : decode cX6_findFirst 57 = .ok (.lcmp, 1) := by decide +kernel
theorem dX6_findFirst_58 : decode cX6_findFirst 58 = .ok (.ifCond .lt 9, 3) := by decide +kernel
theorem dX6_findFirst_61 : decode cX6_findFirst 61 = .ok (.iinc 3 1, 3) := by decide +kernel
theorem dX6_findFirst_64 : decode cX6_findFirst 64 = .ok (.goto (-27), 3) := by decide +kernel
theorem dX6_findFirst_67 : decode cX6_findFirst 67 = .ok (.iload_n 3, 1) := by decide +kernel
theorem dX6_findFirst_68 : decode cX6_findFirst 68 = .ok (.iconst 1, 1) := by decide +kernel
theorem dX6_findFirst_69 : decode cX6_findFirst 69 = .ok (.iadd, 1) := by decide +kernel
theorem dX6_findFirst_70 : decode cX6_findFirst 70 = .ok (.istore 4, 2) := by decide +kernel
theorem dX6_findFirst_72 : decode cX6_findFirst 72 = .ok (.iload 4, 2) := by decide +kernel
theorem dX6_findFirst_74 : decode cX6_findFirst 74 = .ok (.aload_n 0, 1) := by decide +kernel
theorem dX6_findFirst_75 : decode cX6_findFirst 75 = .ok (.getfield 33, 3) := by decide +kernel
theorem dX6_findFirst_78 : decode cX6_findFirst 78 = .ok (.getfield 41, 3) := by decide +kernel
theorem dX6_findFirst_81 : decode cX6_findFirst 81 = .ok (.if_icmp .gt 38, 3) := by decide +kernel
theorem dX6_findFirst_84 : decode cX6_findFirst 84 = .ok (.aload_n 0, 1) := by decide +kernel
theorem dX6_findFirst_85 : decode cX6_findFirst 85 = .ok (.iload_n 3, 1) := by decide +kernel
theorem dX6_findFirst_86 : decode cX6_findFirst 86 = .ok (.iload 4, 2) := by decide +kernel
theorem dX6_findFirst_88 : decode cX6_findFirst 88 = .ok (.iconst 0, 1) := by decide +kernel
theorem dX6_findFirst_89 : decode cX6_findFirst 89 = .ok (.invokevirtual 46, 3) := by decide +kernel
theorem dX6_findFirst_92 : decode cX6_findFirst 92 = .ok (.aload_n 0, 1) := by decide +kernel
theorem dX6_findFirst_93 : decode cX6_findFirst 93 = .ok (.getfield 15, 3) := by decide +kernel
theorem dX6_findFirst_96 : decode cX6_findFirst 96 = .ok (.iload_n 3, 1) := by decide +kernel
theorem dX6_findFirst_97 : decode cX6_findFirst 97 = .ok (.laload, 1) := by decide +kernel
theorem dX6_findFirst_98 : decode cX6_findFirst 98 = .ok (.lconst 0, 1) := by decide +kernel
theorem dX6_findFirst_99 : decode cX6_findFirst 99 = .ok (.lcmp, 1) := by decide +kernel
theorem dX6_findFirst_100 : decode cX6_findFirst 100 = .ok (.ifCond .ge 13, 3) := by decide +kernel
theorem dX6_findFirst_103 : decode cX6_findFirst 103 = .ok (.aload_n 0, 1) := by decide +kernel
theorem dX6_findFirst_104 : decode cX6_findFirst 104 = .ok (.iload_n 3, 1) := by decide +kernel
theorem dX6_findFirst_105 : decode cX6_findFirst 105 = .ok (.ldc2_w 78, 3) := by decide +kernel
theorem dX6_findFirst_108 : decode cX6_findFirst 108 = .ok (.aload_n 1, 1) := by decide +kernel
theorem dX6_findFirst_109 : decode cX6_findFirst 109 = .ok (.invokevirtual 54, 3) := by decide +kernel
theorem dX6_findFirst_112 : decode cX6_findFirst 112 = .ok (.return_, 1) := by decide +kernel
theorem dX6_findFirst_113 : decode cX6_findFirst 113 = .ok (.iinc 4 1, 3) := by decide +kernel
theorem dX6_findFirst_116 : decode cX6_findFirst 116 = .ok (.goto (-44), 3) := by decide +kernel
theorem dX6_findFirst_119 : decode cX6_findFirst 119 = .ok (.return_, 1) := by decide +kernel
theorem dX6_aim_0 : decode cX6_aim 0 = .ok (.aload_n 0, 1) := by decide +kernel
theorem dX6_aim_1 : decode cX6_aim 1 = .ok (.lload_n 1, 1) := by decide +kernel
theorem dX6_aim_2 : decode cX6_aim 2 = .ok (.putfield 18, 3) := by decide +kernel
theorem dX6_aim_5 : decode cX6_aim 5 = .ok (.aload_n 0, 1) := by decide +kernel
theorem dX6_aim_6 : decode cX6_aim 6 = .ok (.lload_n 3, 1) := by decide +kernel
theorem dX6_aim_7 : decode cX6_aim 7 = .ok (.putfield 22, 3) := by decide +kernel
theorem dX6_aim_10 : decode cX6_aim 10 = .ok (.return_, 1) := by decide +kernel
set_option maxRecDepth 20000 in
theorem ggX6_weigh_X6_clearRests : GoodIn wsX6_weigh wsX6_clearRests := goodIn_r _ [12, 4, 13, 44, 45, 46, 47, 48, 49, 50] (by decide +kernel) (by decide +kernel)
set_option maxRecDepth 20000 in
theorem gX6_weigh_X6_clearRests : GoodIn wsX6_weigh (wsV RX6 80 RX6 yX6_clearRests wsX6_clearRests) := goodIn_app (goodIn_of _ (by decide +kernel)) ggX6_weigh_X6_clearRests
set_option maxRecDepth 20000 in
theorem ggX6_weigh_X6_allowEnd : GoodIn wsX6_weigh wsX6_allowEnd := goodIn_r _ [17, 1, 2, 5, 6, 7, 4, 18, 19, 20, 21, 44, 45, 46, 47, 48, 49, 50, 51, 52, 53, 54, 55, 56, 57, 58, 59, 60, 61] (by decide +kernel) (by decide +kernel)
set_option maxRecDepth 20000 in
theorem gX6_weigh_X6_allowEnd : GoodIn wsX6_weigh (wsV RX6 84 RX6 yX6_allowEnd wsX6_allowEnd) := goodIn_app (goodIn_of _ (by decide +kernel)) ggX6_weigh_X6_allowEnd
set_option maxRecDepth 20000 in
theorem ggX6_weigh_X6_weighColumn : GoodIn wsX6_weigh wsX6_weighColumn := goodIn_r _ [25, 5, 6, 7, 26, 27, 28, 29, 30, 31, 32, 33, 34, 35, 36, 37, 38, 39, 40, 41, 42, 11, 43, 4, 13, 44, 45, 46, 47, 48, 49, 50, 51, 52, 53, 54, 55, 56, 57, 58, 59, 60, 61] (by decide +kernel) (by decide +kernel)
set_option maxRecDepth 20000 in
theorem gX6_weigh_X6_weighColumn : GoodIn wsX6_weigh (wsV RX6 87 RX6 yX6_weighColumn wsX6_weighColumn) := goodIn_app (goodIn_of _ (by decide +kernel)) ggX6_weigh_X6_weighColumn
theorem dX6_weigh_0 : decode cX6_weigh 0 = .ok (.aload_n 0, 1) := by decide +kernel
theorem dX6_weigh_1 : decode cX6_weigh 1 = .ok (.iload_n 2, 1) := by decide +kernel
theorem dX6_weigh_2 : decode cX6_weigh 2 = .ok (.putfield 25, 3) := by decide +kernel
theorem dX6_weigh_5 : decode cX6_weigh 5 = .ok (.aload_n 0, 1) := by decide +kernel
theorem dX6_weigh_6 : decode cX6_weigh 6 = .ok (.iload_n 3, 1) := by decide +kernel
theorem dX6_weigh_7 : decode cX6_weigh 7 = .ok (.putfield 29, 3) := by decide +kernel
theorem dX6_weigh_10 : decode cX6_weigh 10 = .ok (.aload_n 0, 1) := by decide +kernel
theorem dX6_weigh_11 : decode cX6_weigh 11 = .ok (.iload_n 2, 1) := by decide +kernel
theorem dX6_weigh_12 : decode cX6_weigh 12 = .ok (.invokevirtual 80, 3) := by decide +kernel
theorem dX6_weigh_15 : decode cX6_weigh 15 = .ok (.aload_n 0, 1) := by decide +kernel
theorem dX6_weigh_16 : decode cX6_weigh 16 = .ok (.iload_n 2, 1) := by decide +kernel
theorem dX6_weigh_17 : decode cX6_weigh 17 = .ok (.invokevirtual 84, 3) := by decide +kernel
theorem dX6_weigh_20 : decode cX6_weigh 20 = .ok (.iload_n 2, 1) := by decide +kernel
theorem dX6_weigh_21 : decode cX6_weigh 21 = .ok (.iconst 1, 1) := by decide +kernel
theorem dX6_weigh_22 : decode cX6_weigh 22 = .ok (.isub, 1) := by decide +kernel
theorem dX6_weigh_23 : decode cX6_weigh 23 = .ok (.istore 4, 2) := by decide +kernel
theorem dX6_weigh_25 : decode cX6_weigh 25 = .ok (.iload 4, 2) := by decide +kernel
theorem dX6_weigh_27 : decode cX6_weigh 27 = .ok (.iload_n 1, 1) := by decide +kernel
theorem dX6_weigh_28 : decode cX6_weigh 28 = .ok (.if_icmp .lt 58, 3) := by decide +kernel
theorem dX6_weigh_31 : decode cX6_weigh 31 = .ok (.aload_n 0, 1) := by decide +kernel
theorem dX6_weigh_32 : decode cX6_weigh 32 = .ok (.iload 4, 2) := by decide +kernel
theorem dX6_weigh_34 : decode cX6_weigh 34 = .ok (.invokevirtual 80, 3) := by decide +kernel
theorem dX6_weigh_37 : decode cX6_weigh 37 = .ok (.aload_n 0, 1) := by decide +kernel
theorem dX6_weigh_38 : decode cX6_weigh 38 = .ok (.iload 4, 2) := by decide +kernel
theorem dX6_weigh_40 : decode cX6_weigh 40 = .ok (.invokevirtual 87, 3) := by decide +kernel
theorem dX6_weigh_43 : decode cX6_weigh 43 = .ok (.aload_n 0, 1) := by decide +kernel
theorem dX6_weigh_44 : decode cX6_weigh 44 = .ok (.getfield 15, 3) := by decide +kernel
theorem dX6_weigh_47 : decode cX6_weigh 47 = .ok (.iload 4, 2) := by decide +kernel
theorem dX6_weigh_49 : decode cX6_weigh 49 = .ok (.aload_n 0, 1) := by decide +kernel
theorem dX6_weigh_50 : decode cX6_weigh 50 = .ok (.getfield 9, 3) := by decide +kernel
theorem dX6_weigh_53 : decode cX6_weigh 53 = .ok (.iload 4, 2) := by decide +kernel
theorem dX6_weigh_55 : decode cX6_weigh 55 = .ok (.bipush 25, 2) := by decide +kernel
theorem dX6_weigh_57 : decode cX6_weigh 57 = .ok (.imul, 1) := by decide +kernel
theorem dX6_weigh_58 : decode cX6_weigh 58 = .ok (.aload_n 0, 1) := by decide +kernel
theorem dX6_weigh_59 : decode cX6_weigh 59 = .ok (.getfield 33, 3) := by decide +kernel
theorem dX6_weigh_62 : decode cX6_weigh 62 = .ok (.getfield 90, 3) := by decide +kernel
theorem dX6_weigh_65 : decode cX6_weigh 65 = .ok (.iload 4, 2) := by decide +kernel
theorem dX6_weigh_67 : decode cX6_weigh 67 = .ok (.aaload, 1) := by decide +kernel
theorem dX6_weigh_68 : decode cX6_weigh 68 = .ok (.getfield 94, 3) := by decide +kernel
theorem dX6_weigh_71 : decode cX6_weigh 71 = .ok (.iadd, 1) := by decide +kernel
theorem dX6_weigh_72 : decode cX6_weigh 72 = .ok (.laload, 1) := by decide +kernel
theorem dX6_weigh_73 : decode cX6_weigh 73 = .ok (.lastore, 1) := by decide +kernel
theorem dX6_weigh_74 : decode cX6_weigh 74 = .ok (.aload_n 0, 1) := by decide +kernel
theorem dX6_weigh_75 : decode cX6_weigh 75 = .ok (.iload 4, 2) := by decide +kernel
theorem dX6_weigh_77 : decode cX6_weigh 77 = .ok (.invokevirtual 84, 3) := by decide +kernel
theorem dX6_weigh_80 : decode cX6_weigh 80 = .ok (.iinc 4 (-1), 3) := by decide +kernel
theorem dX6_weigh_83 : decode cX6_weigh 83 = .ok (.goto (-58), 3) := by decide +kernel
theorem dX6_weigh_86 : decode cX6_weigh 86 = .ok (.return_, 1) := by decide +kernel
theorem dX6_clearRests_0 : decode cX6_clearRests 0 = .ok (.iconst 0, 1) := by decide +kernel
theorem dX6_clearRests_1 : decode cX6_clearRests 1 = .ok (.istore_n 2, 1) := by decide +kernel
theorem dX6_clearRests_2 : decode cX6_clearRests 2 = .ok (.iload_n 2, 1) := by decide +kernel
theorem dX6_clearRests_3 : decode cX6_clearRests 3 = .ok (.bipush 25, 2) := by decide +kernel
theorem dX6_clearRests_5 : decode cX6_clearRests 5 = .ok (.if_icmp .ge 23, 3) := by decide +kernel
theorem dX6_clearRests_8 : decode cX6_clearRests 8 = .ok (.aload_n 0, 1) := by decide +kernel
theorem dX6_clearRests_9 : decode cX6_clearRests 9 = .ok (.getfield 9, 3) := by decide +kernel
theorem dX6_clearRests_12 : decode cX6_clearRests 12 = .ok (.iload_n 1, 1) := by decide +kernel
theorem dX6_clearRests_13 : decode cX6_clearRests 13 = .ok (.bipush 25, 2) := by decide +kernel
theorem dX6_clearRests_15 : decode cX6_clearRests 15 = .ok (.imul, 1) := by decide +kernel
theorem dX6_clearRests_16 : decode cX6_clearRests 16 = .ok (.iload_n 2, 1) := by decide +kernel
theorem dX6_clearRests_17 : decode cX6_clearRests 17 = .ok (.iadd, 1) := by decide +kernel
theorem dX6_clearRests_18 : decode cX6_clearRests 18 = .ok (.ldc2_w 99, 3) := by decide +kernel
theorem dX6_clearRests_21 : decode cX6_clearRests 21 = .ok (.lastore, 1) := by decide +kernel
theorem dX6_clearRests_22 : decode cX6_clearRests 22 = .ok (.iinc 2 1, 3) := by decide +kernel
theorem dX6_clearRests_25 : decode cX6_clearRests 25 = .ok (.goto (-23), 3) := by decide +kernel
theorem dX6_clearRests_28 : decode cX6_clearRests 28 = .ok (.return_, 1) := by decide +kernel
theorem dX6_allowEnd_0 : decode cX6_allowEnd 0 = .ok (.iload_n 1, 1) := by decide +kernel
theorem dX6_allowEnd_1 : decode cX6_allowEnd 1 = .ok (.ifCond .le 54, 3) := by decide +kernel
theorem dX6_allowEnd_4 : decode cX6_allowEnd 4 = .ok (.iload_n 1, 1) := by decide +kernel
theorem dX6_allowEnd_5 : decode cX6_allowEnd 5 = .ok (.aload_n 0, 1) := by decide +kernel
theorem dX6_allowEnd_6 : decode cX6_allowEnd 6 = .ok (.getfield 25, 3) := by decide +kernel
theorem dX6_allowEnd_9 : decode cX6_allowEnd 9 = .ok (.if_icmp .eq 10, 3) := by decide +kernel
theorem dX6_allowEnd_12 : decode cX6_allowEnd 12 = .ok (.aload_n 0, 1) := by decide +kernel
theorem dX6_allowEnd_13 : decode cX6_allowEnd 13 = .ok (.getfield 29, 3) := by decide +kernel
theorem dX6_allowEnd_16 : decode cX6_allowEnd 16 = .ok (.ifCond .eq 39, 3) := by decide +kernel
theorem dX6_allowEnd_19 : decode cX6_allowEnd 19 = .ok (.iload_n 1, 1) := by decide +kernel
theorem dX6_allowEnd_20 : decode cX6_allowEnd 20 = .ok (.bipush 25, 2) := by decide +kernel
theorem dX6_allowEnd_22 : decode cX6_allowEnd 22 = .ok (.imul, 1) := by decide +kernel
theorem dX6_allowEnd_23 : decode cX6_allowEnd 23 = .ok (.aload_n 0, 1) := by decide +kernel
theorem dX6_allowEnd_24 : decode cX6_allowEnd 24 = .ok (.getfield 33, 3) := by decide +kernel
theorem dX6_allowEnd_27 : decode cX6_allowEnd 27 = .ok (.getfield 90, 3) := by decide +kernel
theorem dX6_allowEnd_30 : decode cX6_allowEnd 30 = .ok (.iload_n 1, 1) := by decide +kernel
theorem dX6_allowEnd_31 : decode cX6_allowEnd 31 = .ok (.iconst 1, 1) := by decide +kernel
theorem dX6_allowEnd_32 : decode cX6_allowEnd 32 = .ok (.isub, 1) := by decide +kernel
theorem dX6_allowEnd_33 : decode cX6_allowEnd 33 = .ok (.aaload, 1) := by decide +kernel
theorem dX6_allowEnd_34 : decode cX6_allowEnd 34 = .ok (.getfield 94, 3) := by decide +kernel
theorem dX6_allowEnd_37 : decode cX6_allowEnd 37 = .ok (.iadd, 1) := by decide +kernel
theorem dX6_allowEnd_38 : decode cX6_allowEnd 38 = .ok (.istore_n 2, 1) := by decide +kernel
theorem dX6_allowEnd_39 : decode cX6_allowEnd 39 = .ok (.aload_n 0, 1) := by decide +kernel
theorem dX6_allowEnd_40 : decode cX6_allowEnd 40 = .ok (.getfield 9, 3) := by decide +kernel
theorem dX6_allowEnd_43 : decode cX6_allowEnd 43 = .ok (.iload_n 2, 1) := by decide +kernel
theorem dX6_allowEnd_44 : decode cX6_allowEnd 44 = .ok (.aload_n 0, 1) := by decide +kernel
theorem dX6_allowEnd_45 : decode cX6_allowEnd 45 = .ok (.getfield 9, 3) := by decide +kernel
theorem dX6_allowEnd_48 : decode cX6_allowEnd 48 = .ok (.iload_n 2, 1) := by decide +kernel
theorem dX6_allowEnd_49 : decode cX6_allowEnd 49 = .ok (.laload, 1) := by decide +kernel
theorem dX6_allowEnd_50 : decode cX6_allowEnd 50 = .ok (.lconst 0, 1) := by decide +kernel
theorem dX6_allowEnd_51 : decode cX6_allowEnd 51 = .ok (.invokestatic 101, 3) := by decide +kernel
theorem dX6_allowEnd_54 : decode cX6_allowEnd 54 = .ok (.lastore, 1) := by decide +kernel
theorem dX6_allowEnd_55 : decode cX6_allowEnd 55 = .ok (.return_, 1) := by decide +kernel
set_option maxRecDepth 20000 in
theorem ggX6_weighColumn_X1_holdsAt : GoodIn wsX6_weighColumn wsX1_holdsAt := goodIn_r _ [10, 11, 12, 34, 35, 36, 37, 38, 39, 40, 41, 42] (by decide +kernel) (by decide +kernel)
set_option maxRecDepth 20000 in
theorem gX6_weighColumn_X1_holdsAt : GoodIn wsX6_weighColumn (wsV RX6 107 RX1 yX1_holdsAt wsX1_holdsAt) := goodIn_app (goodIn_of _ (by decide +kernel)) ggX6_weighColumn_X1_holdsAt
set_option maxRecDepth 20000 in
theorem ggX6_weighColumn_X1_drivesFrom : GoodIn wsX6_weighColumn wsX1_drivesFrom := goodIn_r _ [16, 11, 17, 34, 35, 36, 37, 38, 39, 40, 41, 42] (by decide +kernel) (by decide +kernel)
set_option maxRecDepth 20000 in
theorem gX6_weighColumn_X1_drivesFrom : GoodIn wsX6_weighColumn (wsV RX6 111 RX1 yX1_drivesFrom wsX1_drivesFrom) := goodIn_app (goodIn_of _ (by decide +kernel)) ggX6_weighColumn_X1_drivesFrom
set_option maxRecDepth 20000 in
theorem ggX6_weighColumn_X6_better : GoodIn wsX6_weighColumn wsX6_better := goodIn_r _ [22, 23, 24, 25, 26, 27, 28, 29, 30, 31] (by decide +kernel) (by decide +kernel)
set_option maxRecDepth 20000 in
theorem gX6_weighColumn_X6_better : GoodIn wsX6_weighColumn (wsV RX6 114 RX6 yX6_better wsX6_better) := goodIn_app (goodIn_of _ (by decide +kernel)) ggX6_weighColumn_X6_better
theorem dX6_weighColumn_0 : decode cX6_weighColumn 0 = .ok (.aload_n 0, 1) := by decide +kernel
theorem dX6_weighColumn_1 : decode cX6_weighColumn 1 = .ok (.getfield 33, 3) := by decide +kernel
theorem dX6_weighColumn_4 : decode cX6_weighColumn 4 = .ok (.getfield 90, 3) := by decide +kernel
theorem dX6_weighColumn_7 : decode cX6_weighColumn 7 = .ok (.iload_n 1, 1) := by decide +kernel
theorem dX6_weighColumn_8 : decode cX6_weighColumn 8 = .ok (.aaload, 1) := by decide +kernel
theorem dX6_weighColumn_9 : decode cX6_weighColumn 9 = .ok (.astore_n 2, 1) := by decide +kernel
theorem dX6_weighColumn_10 : decode cX6_weighColumn 10 = .ok (.iconst 0, 1) := by decide +kernel
theorem dX6_weighColumn_11 : decode cX6_weighColumn 11 = .ok (.istore_n 3, 1) := by decide +kernel
theorem dX6_weighColumn_12 : decode cX6_weighColumn 12 = .ok (.iload_n 3, 1) := by decide +kernel
theorem dX6_weighColumn_13 : decode cX6_weighColumn 13 = .ok (.aload_n 2, 1) := by decide +kernel
theorem dX6_weighColumn_14 : decode cX6_weighColumn 14 = .ok (.getfield 94, 3) := by decide +kernel
theorem dX6_weighColumn_17 : decode cX6_weighColumn 17 = .ok (.if_icmp .ge 100, 3) := by decide +kernel
theorem dX6_weighColumn_20 : decode cX6_weighColumn 20 = .ok (.iconst 0, 1) := by decide +kernel
theorem dX6_weighColumn_21 : decode cX6_weighColumn 21 = .ok (.istore 4, 2) := by decide +kernel
theorem dX6_weighColumn_23 : decode cX6_weighColumn 23 = .ok (.iload 4, 2) := by decide +kernel
theorem dX6_weighColumn_25 : decode cX6_weighColumn 25 = .ok (.iconst 5, 1) := by decide +kernel
theorem dX6_weighColumn_26 : decode cX6_weighColumn 26 = .ok (.if_icmp .ge 85, 3) := by decide +kernel
theorem dX6_weighColumn_29 : decode cX6_weighColumn 29 = .ok (.aload_n 2, 1) := by decide +kernel
theorem dX6_weighColumn_30 : decode cX6_weighColumn 30 = .ok (.iload_n 3, 1) := by decide +kernel
theorem dX6_weighColumn_31 : decode cX6_weighColumn 31 = .ok (.iload 4, 2) := by decide +kernel
theorem dX6_weighColumn_33 : decode cX6_weighColumn 33 = .ok (.invokevirtual 107, 3) := by decide +kernel
theorem dX6_weighColumn_36 : decode cX6_weighColumn 36 = .ok (.istore 5, 2) := by decide +kernel
theorem dX6_weighColumn_38 : decode cX6_weighColumn 38 = .ok (.iload 5, 2) := by decide +kernel
theorem dX6_weighColumn_40 : decode cX6_weighColumn 40 = .ok (.iconst (-1), 1) := by decide +kernel
theorem dX6_weighColumn_41 : decode cX6_weighColumn 41 = .ok (.if_icmp .ne 6, 3) := by decide +kernel
theorem dX6_weighColumn_44 : decode cX6_weighColumn 44 = .ok (.goto 67, 3) := by decide +kernel
theorem dX6_weighColumn_47 : decode cX6_weighColumn 47 = .ok (.aload_n 0, 1) := by decide +kernel
theorem dX6_weighColumn_48 : decode cX6_weighColumn 48 = .ok (.getfield 22, 3) := by decide +kernel
theorem dX6_weighColumn_51 : decode cX6_weighColumn 51 = .ok (.iload 5, 2) := by decide +kernel
theorem dX6_weighColumn_53 : decode cX6_weighColumn 53 = .ok (.i2l, 1) := by decide +kernel
theorem dX6_weighColumn_54 : decode cX6_weighColumn 54 = .ok (.lmul, 1) := by decide +kernel
theorem dX6_weighColumn_55 : decode cX6_weighColumn 55 = .ok (.lstore 6, 2) := by decide +kernel
theorem dX6_weighColumn_57 : decode cX6_weighColumn 57 = .ok (.aload_n 0, 1) := by decide +kernel
theorem dX6_weighColumn_58 : decode cX6_weighColumn 58 = .ok (.getfield 18, 3) := by decide +kernel
theorem dX6_weighColumn_61 : decode cX6_weighColumn 61 = .ok (.aload_n 2, 1) := by decide +kernel
theorem dX6_weighColumn_62 : decode cX6_weighColumn 62 = .ok (.iload_n 3, 1) := by decide +kernel
theorem dX6_weighColumn_63 : decode cX6_weighColumn 63 = .ok (.iload 4, 2) := by decide +kernel
theorem dX6_weighColumn_65 : decode cX6_weighColumn 65 = .ok (.iadd, 1) := by decide +kernel
theorem dX6_weighColumn_66 : decode cX6_weighColumn 66 = .ok (.iload 4, 2) := by decide +kernel
theorem dX6_weighColumn_68 : decode cX6_weighColumn 68 = .ok (.invokevirtual 111, 3) := by decide +kernel
theorem dX6_weighColumn_71 : decode cX6_weighColumn 71 = .ok (.i2l, 1) := by decide +kernel
theorem dX6_weighColumn_72 : decode cX6_weighColumn 72 = .ok (.lmul, 1) := by decide +kernel
theorem dX6_weighColumn_73 : decode cX6_weighColumn 73 = .ok (.lstore 8, 2) := by decide +kernel
theorem dX6_weighColumn_75 : decode cX6_weighColumn 75 = .ok (.aload_n 0, 1) := by decide +kernel
theorem dX6_weighColumn_76 : decode cX6_weighColumn 76 = .ok (.iload_n 1, 1) := by decide +kernel
theorem dX6_weighColumn_77 : decode cX6_weighColumn 77 = .ok (.iload_n 3, 1) := by decide +kernel
theorem dX6_weighColumn_78 : decode cX6_weighColumn 78 = .ok (.iload_n 3, 1) := by decide +kernel
theorem dX6_weighColumn_79 : decode cX6_weighColumn 79 = .ok (.iload 4, 2) := by decide +kernel
theorem dX6_weighColumn_81 : decode cX6_weighColumn 81 = .ok (.iadd, 1) := by decide +kernel
theorem dX6_weighColumn_82 : decode cX6_weighColumn 82 = .ok (.lload 6, 2) := by decide +kernel
theorem dX6_weighColumn_84 : decode cX6_weighColumn 84 = .ok (.lload 8, 2) := by decide +kernel
theorem dX6_weighColumn_86 : decode cX6_weighColumn 86 = .ok (.ladd, 1) := by decide +kernel
theorem dX6_weighColumn_87 : decode cX6_weighColumn 87 = .ok (.invokevirtual 114, 3) := by decide +kernel
theorem dX6_weighColumn_90 : decode cX6_weighColumn 90 = .ok (.aload_n 0, 1) := by decide +kernel
theorem dX6_weighColumn_91 : decode cX6_weighColumn 91 = .ok (.iload_n 1, 1) := by decide +kernel
theorem dX6_weighColumn_92 : decode cX6_weighColumn 92 = .ok (.iload_n 3, 1) := by decide +kernel
theorem dX6_weighColumn_93 : decode cX6_weighColumn 93 = .ok (.iload 4, 2) := by decide +kernel
theorem dX6_weighColumn_95 : decode cX6_weighColumn 95 = .ok (.iadd, 1) := by decide +kernel
theorem dX6_weighColumn_96 : decode cX6_weighColumn 96 = .ok (.iload_n 3, 1) := by decide +kernel
theorem dX6_weighColumn_97 : decode cX6_weighColumn 97 = .ok (.lload 6, 2) := by decide +kernel
theorem dX6_weighColumn_99 : decode cX6_weighColumn 99 = .ok (.lload 8, 2) := by decide +kernel
theorem dX6_weighColumn_101 : decode cX6_weighColumn 101 = .ok (.lsub, 1) := by decide +kernel
theorem dX6_weighColumn_102 : decode cX6_weighColumn 102 = .ok (.invokevirtual 114, 3) := by decide +kernel
theorem dX6_weighColumn_105 : decode cX6_weighColumn 105 = .ok (.iinc 4 1, 3) := by decide +kernel
theorem dX6_weighColumn_108 : decode cX6_weighColumn 108 = .ok (.goto (-85), 3) := by decide +kernel
theorem dX6_weighColumn_111 : decode cX6_weighColumn 111 = .ok (.iinc 3 1, 3) := by decide +kernel
theorem dX6_weighColumn_114 : decode cX6_weighColumn 114 = .ok (.goto (-102), 3) := by decide +kernel
theorem dX6_weighColumn_117 : decode cX6_weighColumn 117 = .ok (.return_, 1) := by decide +kernel
theorem dX6_better_0 : decode cX6_better 0 = .ok (.aload_n 0, 1) := by decide +kernel
theorem dX6_better_1 : decode cX6_better 1 = .ok (.getfield 9, 3) := by decide +kernel
theorem dX6_better_4 : decode cX6_better 4 = .ok (.iload_n 1, 1) := by decide +kernel
theorem dX6_better_5 : decode cX6_better 5 = .ok (.iconst 1, 1) := by decide +kernel
theorem dX6_better_6 : decode cX6_better 6 = .ok (.iadd, 1) := by decide +kernel
theorem dX6_better_7 : decode cX6_better 7 = .ok (.bipush 25, 2) := by decide +kernel
theorem dX6_better_9 : decode cX6_better 9 = .ok (.imul, 1) := by decide +kernel
theorem dX6_better_10 : decode cX6_better 10 = .ok (.iload_n 3, 1) := by decide +kernel
theorem dX6_better_11 : decode cX6_better 11 = .ok (.iadd, 1) := by decide +kernel
theorem dX6_better_12 : decode cX6_better 12 = .ok (.laload, 1) := by decide +kernel
theorem dX6_better_13 : decode cX6_better 13 = .ok (.lstore 6, 2) := by decide +kernel
theorem dX6_better_15 : decode cX6_better 15 = .ok (.lload 6, 2) := by decide +kernel
theorem dX6_better_17 : decode cX6_better 17 = .ok (.ldc2_w 99, 3) := by decide +kernel
theorem dX6_better_20 : decode cX6_better 20 = .ok (.lcmp, 1) := by decide +kernel
theorem dX6_better_21 : decode cX6_better 21 = .ok (.ifCond .eq 39, 3) := by decide +kernel
theorem dX6_better_24 : decode cX6_better 24 = .ok (.lload 4, 2) := by decide +kernel
theorem dX6_better_26 : decode cX6_better 26 = .ok (.lload 6, 2) := by decide +kernel
theorem dX6_better_28 : decode cX6_better 28 = .ok (.ladd, 1) := by decide +kernel
theorem dX6_better_29 : decode cX6_better 29 = .ok (.aload_n 0, 1) := by decide +kernel
theorem dX6_better_30 : decode cX6_better 30 = .ok (.getfield 9, 3) := by decide +kernel
theorem dX6_better_33 : decode cX6_better 33 = .ok (.iload_n 1, 1) := by decide +kernel
theorem dX6_better_34 : decode cX6_better 34 = .ok (.bipush 25, 2) := by decide +kernel
theorem dX6_better_36 : decode cX6_better 36 = .ok (.imul, 1) := by decide +kernel
theorem dX6_better_37 : decode cX6_better 37 = .ok (.iload_n 2, 1) := by decide +kernel
theorem dX6_better_38 : decode cX6_better 38 = .ok (.iadd, 1) := by decide +kernel
theorem dX6_better_39 : decode cX6_better 39 = .ok (.laload, 1) := by decide +kernel
theorem dX6_better_40 : decode cX6_better 40 = .ok (.lcmp, 1) := by decide +kernel
theorem dX6_better_41 : decode cX6_better 41 = .ok (.ifCond .ge 19, 3) := by decide +kernel
theorem dX6_better_44 : decode cX6_better 44 = .ok (.aload_n 0, 1) := by decide +kernel
theorem dX6_better_45 : decode cX6_better 45 = .ok (.getfield 9, 3) := by decide +kernel
theorem dX6_better_48 : decode cX6_better 48 = .ok (.iload_n 1, 1) := by decide +kernel
theorem dX6_better_49 : decode cX6_better 49 = .ok (.bipush 25, 2) := by decide +kernel
theorem dX6_better_51 : decode cX6_better 51 = .ok (.imul, 1) := by decide +kernel
theorem dX6_better_52 : decode cX6_better 52 = .ok (.iload_n 2, 1) := by decide +kernel
theorem dX6_better_53 : decode cX6_better 53 = .ok (.iadd, 1) := by decide +kernel
theorem dX6_better_54 : decode cX6_better 54 = .ok (.lload 4, 2) := by decide +kernel
theorem dX6_better_56 : decode cX6_better 56 = .ok (.lload 6, 2) := by decide +kernel
theorem dX6_better_58 : decode cX6_better 58 = .ok (.ladd, 1) := by decide +kernel
theorem dX6_better_59 : decode cX6_better 59 = .ok (.lastore, 1) := by decide +kernel
theorem dX6_better_60 : decode cX6_better 60 = .ok (.return_, 1) := by decide +kernel
theorem dX6_leastStart_0 : decode cX6_leastStart 0 = .ok (.iconst 0, 1) := by decide +kernel
theorem dX6_leastStart_1 : decode cX6_leastStart 1 = .ok (.istore_n 1, 1) := by decide +kernel
theorem dX6_leastStart_2 : decode cX6_leastStart 2 = .ok (.iconst 1, 1) := by decide +kernel
theorem dX6_leastStart_3 : decode cX6_leastStart 3 = .ok (.istore_n 2, 1) := by decide +kernel
theorem dX6_leastStart_4 : decode cX6_leastStart 4 = .ok (.iload_n 2, 1) := by decide +kernel
theorem dX6_leastStart_5 : decode cX6_leastStart 5 = .ok (.aload_n 0, 1) := by decide +kernel
theorem dX6_leastStart_6 : decode cX6_leastStart 6 = .ok (.getfield 33, 3) := by decide +kernel
theorem dX6_leastStart_9 : decode cX6_leastStart 9 = .ok (.getfield 41, 3) := by decide +kernel
theorem dX6_leastStart_12 : decode cX6_leastStart 12 = .ok (.if_icmp .ge 27, 3) := by decide +kernel
theorem dX6_leastStart_15 : decode cX6_leastStart 15 = .ok (.aload_n 0, 1) := by decide +kernel
theorem dX6_leastStart_16 : decode cX6_leastStart 16 = .ok (.getfield 15, 3) := by decide +kernel
theorem dX6_leastStart_19 : decode cX6_leastStart 19 = .ok (.iload_n 2, 1) := by decide +kernel
theorem dX6_leastStart_20 : decode cX6_leastStart 20 = .ok (.laload, 1) := by decide +kernel
theorem dX6_leastStart_21 : decode cX6_leastStart 21 = .ok (.aload_n 0, 1) := by decide +kernel
theorem dX6_leastStart_22 : decode cX6_leastStart 22 = .ok (.getfield 15, 3) := by decide +kernel
theorem dX6_leastStart_25 : decode cX6_leastStart 25 = .ok (.iload_n 1, 1) := by decide +kernel
theorem dX6_leastStart_26 : decode cX6_leastStart 26 = .ok (.laload, 1) := by decide +kernel
theorem dX6_leastStart_27 : decode cX6_leastStart 27 = .ok (.lcmp, 1) := by decide +kernel
theorem dX6_leastStart_28 : decode cX6_leastStart 28 = .ok (.ifCond .ge 5, 3) := by decide +kernel
theorem dX6_leastStart_31 : decode cX6_leastStart 31 = .ok (.iload_n 2, 1) := by decide +kernel
theorem dX6_leastStart_32 : decode cX6_leastStart 32 = .ok (.istore_n 1, 1) := by decide +kernel
theorem dX6_leastStart_33 : decode cX6_leastStart 33 = .ok (.iinc 2 1, 3) := by decide +kernel
theorem dX6_leastStart_36 : decode cX6_leastStart 36 = .ok (.goto (-32), 3) := by decide +kernel
theorem dX6_leastStart_39 : decode cX6_leastStart 39 = .ok (.iload_n 1, 1) := by decide +kernel
theorem dX6_leastStart_40 : decode cX6_leastStart 40 = .ok (.ireturn, 1) := by decide +kernel
set_option maxRecDepth 20000 in
theorem ggX6_follow_X5_startAt : GoodIn wsX6_follow wsX5_startAt := goodIn_r _ [10, 11, 12, 13, 71, 72, 73] (by decide +kernel) (by decide +kernel)
set_option maxRecDepth 20000 in
theorem gX6_follow_X5_startAt : GoodIn wsX6_follow (wsV RX6 118 RX5 yX5_startAt wsX5_startAt) := goodIn_app (goodIn_of _ (by decide +kernel)) ggX6_follow_X5_startAt
set_option maxRecDepth 20000 in
theorem ggX6_follow_X6_leastRight : GoodIn wsX6_follow wsX6_leastRight := goodIn_r _ [18, 1, 2, 3, 19, 20, 21, 22, 23, 24, 25, 26, 27, 28, 29, 30, 17, 31, 32, 33, 34, 35, 36, 37, 38, 39, 40, 41, 42, 43, 44, 45, 46, 47, 48, 53, 54, 55, 56, 57, 58, 59, 60, 61, 62, 63, 64, 65, 66, 67, 68, 69, 70] (by decide +kernel) (by decide +kernel)
set_option maxRecDepth 20000 in
theorem gX6_follow_X6_leastRight : GoodIn wsX6_follow (wsV RX6 124 RX6 yX6_leastRight wsX6_leastRight) := goodIn_app (goodIn_of _ (by decide +kernel)) ggX6_follow_X6_leastRight
set_option maxRecDepth 20000 in
theorem ggX6_follow_X6_keyOf : GoodIn wsX6_follow wsX6_keyOf := goodIn_r _ [31, 1, 2, 19, 20, 21, 22, 32, 33, 34, 27, 35, 36, 23, 24, 25, 37, 38, 39, 40, 41, 42, 43, 44, 45, 46, 47, 48, 53, 54, 55, 56, 57, 58, 59, 60, 61, 62, 63, 64, 65, 66, 67, 68, 69, 70] (by decide +kernel) (by decide +kernel)
set_option maxRecDepth 20000 in
theorem gX6_follow_X6_keyOf : GoodIn wsX6_follow (wsV RX6 128 RX6 yX6_keyOf wsX6_keyOf) := goodIn_app (goodIn_of _ (by decide +kernel)) ggX6_follow_X6_keyOf
set_option maxRecDepth 20000 in
theorem ggX6_follow_X5_add : GoodIn wsX6_follow wsX5_add := goodIn_r _ [52, 13, 12, 71, 72, 73] (by decide +kernel) (by decide +kernel)
set_option maxRecDepth 20000 in
theorem gX6_follow_X5_add : GoodIn wsX6_follow (wsV RX6 132 RX5 yX5_add wsX5_add) := goodIn_app (goodIn_of _ (by decide +kernel)) ggX6_follow_X5_add
theorem dX6_follow_0 : decode cX6_follow 0 = .ok (.aload_n 0, 1) := by decide +kernel
theorem dX6_follow_1 : decode cX6_follow 1 = .ok (.getfield 33, 3) := by decide +kernel
theorem dX6_follow_4 : decode cX6_follow 4 = .ok (.getfield 90, 3) := by decide +kernel
theorem dX6_follow_7 : decode cX6_follow 7 = .ok (.iload_n 1, 1) := by decide +kernel
theorem dX6_follow_8 : decode cX6_follow 8 = .ok (.aaload, 1) := by decide +kernel
theorem dX6_follow_9 : decode cX6_follow 9 = .ok (.getfield 94, 3) := by decide +kernel
theorem dX6_follow_12 : decode cX6_follow 12 = .ok (.istore 5, 2) := by decide +kernel
theorem dX6_follow_14 : decode cX6_follow 14 = .ok (.lload_n 2, 1) := by decide +kernel
theorem dX6_follow_15 : decode cX6_follow 15 = .ok (.lstore 6, 2) := by decide +kernel
theorem dX6_follow_17 : decode cX6_follow 17 = .ok (.aload 4, 2) := by decide +kernel
theorem dX6_follow_19 : decode cX6_follow 19 = .ok (.iload_n 1, 1) := by decide +kernel
theorem dX6_follow_20 : decode cX6_follow 20 = .ok (.iload 5, 2) := by decide +kernel
theorem dX6_follow_22 : decode cX6_follow 22 = .ok (.invokevirtual 118, 3) := by decide +kernel
theorem dX6_follow_25 : decode cX6_follow 25 = .ok (.iload_n 1, 1) := by decide +kernel
theorem dX6_follow_26 : decode cX6_follow 26 = .ok (.istore 8, 2) := by decide +kernel
theorem dX6_follow_28 : decode cX6_follow 28 = .ok (.iload 8, 2) := by decide +kernel
theorem dX6_follow_30 : decode cX6_follow 30 = .ok (.aload_n 0, 1) := by decide +kernel
theorem dX6_follow_31 : decode cX6_follow 31 = .ok (.getfield 25, 3) := by decide +kernel
theorem dX6_follow_34 : decode cX6_follow 34 = .ok (.if_icmp .ge 95, 3) := by decide +kernel
theorem dX6_follow_37 : decode cX6_follow 37 = .ok (.iload 8, 2) := by decide +kernel
theorem dX6_follow_39 : decode cX6_follow 39 = .ok (.iload_n 1, 1) := by decide +kernel
theorem dX6_follow_40 : decode cX6_follow 40 = .ok (.if_icmp .le 38, 3) := by decide +kernel
theorem dX6_follow_43 : decode cX6_follow 43 = .ok (.aload_n 0, 1) := by decide +kernel
theorem dX6_follow_44 : decode cX6_follow 44 = .ok (.getfield 29, 3) := by decide +kernel
theorem dX6_follow_47 : decode cX6_follow 47 = .ok (.ifCond .eq 31, 3) := by decide +kernel
theorem dX6_follow_50 : decode cX6_follow 50 = .ok (.lload 6, 2) := by decide +kernel
theorem dX6_follow_52 : decode cX6_follow 52 = .ok (.lconst 0, 1) := by decide +kernel
theorem dX6_follow_53 : decode cX6_follow 53 = .ok (.lcmp, 1) := by decide +kernel
theorem dX6_follow_54 : decode cX6_follow 54 = .ok (.ifCond .lt 24, 3) := by decide +kernel
theorem dX6_follow_57 : decode cX6_follow 57 = .ok (.iload 5, 2) := by decide +kernel
theorem dX6_follow_59 : decode cX6_follow 59 = .ok (.aload_n 0, 1) := by decide +kernel
theorem dX6_follow_60 : decode cX6_follow 60 = .ok (.getfield 33, 3) := by decide +kernel
theorem dX6_follow_63 : decode cX6_follow 63 = .ok (.getfield 90, 3) := by decide +kernel
theorem dX6_follow_66 : decode cX6_follow 66 = .ok (.iload 8, 2) := by decide +kernel
theorem dX6_follow_68 : decode cX6_follow 68 = .ok (.iconst 1, 1) := by decide +kernel
theorem dX6_follow_69 : decode cX6_follow 69 = .ok (.isub, 1) := by decide +kernel
theorem dX6_follow_70 : decode cX6_follow 70 = .ok (.aaload, 1) := by decide +kernel
theorem dX6_follow_71 : decode cX6_follow 71 = .ok (.getfield 94, 3) := by decide +kernel
theorem dX6_follow_74 : decode cX6_follow 74 = .ok (.if_icmp .ne 4, 3) := by decide +kernel
theorem dX6_follow_77 : decode cX6_follow 77 = .ok (.return_, 1) := by decide +kernel
theorem dX6_follow_78 : decode cX6_follow 78 = .ok (.aload_n 0, 1) := by decide +kernel
theorem dX6_follow_79 : decode cX6_follow 79 = .ok (.iload 8, 2) := by decide +kernel
theorem dX6_follow_81 : decode cX6_follow 81 = .ok (.iload 5, 2) := by decide +kernel
theorem dX6_follow_83 : decode cX6_follow 83 = .ok (.lload 6, 2) := by decide +kernel
theorem dX6_follow_85 : decode cX6_follow 85 = .ok (.invokevirtual 124, 3) := by decide +kernel
theorem dX6_follow_88 : decode cX6_follow 88 = .ok (.istore 9, 2) := by decide +kernel
theorem dX6_follow_90 : decode cX6_follow 90 = .ok (.iload 9, 2) := by decide +kernel
theorem dX6_follow_92 : decode cX6_follow 92 = .ok (.iconst (-1), 1) := by decide +kernel
theorem dX6_follow_93 : decode cX6_follow 93 = .ok (.if_icmp .ne 4, 3) := by decide +kernel
theorem dX6_follow_96 : decode cX6_follow 96 = .ok (.return_, 1) := by decide +kernel
theorem dX6_follow_97 : decode cX6_follow 97 = .ok (.lload 6, 2) := by decide +kernel
theorem dX6_follow_99 : decode cX6_follow 99 = .ok (.aload_n 0, 1) := by decide +kernel
theorem dX6_follow_100 : decode cX6_follow 100 = .ok (.iload 8, 2) := by decide +kernel
theorem dX6_follow_102 : decode cX6_follow 102 = .ok (.iload 5, 2) := by decide +kernel
theorem dX6_follow_104 : decode cX6_follow 104 = .ok (.iload 9, 2) := by decide +kernel
theorem dX6_follow_106 : decode cX6_follow 106 = .ok (.invokevirtual 128, 3) := by decide +kernel
theorem dX6_follow_109 : decode cX6_follow 109 = .ok (.lsub, 1) := by decide +kernel
theorem dX6_follow_110 : decode cX6_follow 110 = .ok (.lstore 6, 2) := by decide +kernel
theorem dX6_follow_112 : decode cX6_follow 112 = .ok (.aload 4, 2) := by decide +kernel
theorem dX6_follow_114 : decode cX6_follow 114 = .ok (.iload 9, 2) := by decide +kernel
theorem dX6_follow_116 : decode cX6_follow 116 = .ok (.invokevirtual 132, 3) := by decide +kernel
theorem dX6_follow_119 : decode cX6_follow 119 = .ok (.iload 9, 2) := by decide +kernel
theorem dX6_follow_121 : decode cX6_follow 121 = .ok (.istore 5, 2) := by decide +kernel
theorem dX6_follow_123 : decode cX6_follow 123 = .ok (.iinc 8 1, 3) := by decide +kernel
theorem dX6_follow_126 : decode cX6_follow 126 = .ok (.goto (-98), 3) := by decide +kernel
theorem dX6_follow_129 : decode cX6_follow 129 = .ok (.return_, 1) := by decide +kernel
set_option maxRecDepth 20000 in
theorem ggX6_leastRight_X6_keyOf : GoodIn wsX6_leastRight wsX6_keyOf := goodIn_r _ [17, 1, 2, 4, 5, 6, 7, 18, 19, 20, 12, 21, 22, 8, 9, 10, 23, 24, 25, 26, 27, 28, 29, 30, 31, 32, 33, 34, 35, 36, 37, 38, 39, 40, 41, 42, 43, 44, 45, 46, 47, 48, 49, 50, 51, 52] (by decide +kernel) (by decide +kernel)
set_option maxRecDepth 20000 in
theorem gX6_leastRight_X6_keyOf : GoodIn wsX6_leastRight (wsV RX6 128 RX6 yX6_keyOf wsX6_keyOf) := goodIn_app (goodIn_of _ (by decide +kernel)) ggX6_leastRight_X6_keyOf
theorem dX6_leastRight_0 : decode cX6_leastRight 0 = .ok (.iload_n 2, 1) := by decide +kernel
theorem dX6_leastRight_1 : decode cX6_leastRight 1 = .ok (.iconst 5, 1) := by decide +kernel
theorem dX6_leastRight_2 : decode cX6_leastRight 2 = .ok (.iadd, 1) := by decide +kernel
theorem dX6_leastRight_3 : decode cX6_leastRight 3 = .ok (.iconst 1, 1) := by decide +kernel
theorem dX6_leastRight_4 : decode cX6_leastRight 4 = .ok (.isub, 1) := by decide +kernel
theorem dX6_leastRight_5 : decode cX6_leastRight 5 = .ok (.aload_n 0, 1) := by decide +kernel
theorem dX6_leastRight_6 : decode cX6_leastRight 6 = .ok (.getfield 33, 3) := by decide +kernel
theorem dX6_leastRight_9 : decode cX6_leastRight 9 = .ok (.getfield 90, 3) := by decide +kernel
theorem dX6_leastRight_12 : decode cX6_leastRight 12 = .ok (.iload_n 1, 1) := by decide +kernel
theorem dX6_leastRight_13 : decode cX6_leastRight 13 = .ok (.aaload, 1) := by decide +kernel
theorem dX6_leastRight_14 : decode cX6_leastRight 14 = .ok (.getfield 94, 3) := by decide +kernel
theorem dX6_leastRight_17 : decode cX6_leastRight 17 = .ok (.invokestatic 135, 3) := by decide +kernel
theorem dX6_leastRight_20 : decode cX6_leastRight 20 = .ok (.istore 5, 2) := by decide +kernel
theorem dX6_leastRight_22 : decode cX6_leastRight 22 = .ok (.iload_n 2, 1) := by decide +kernel
theorem dX6_leastRight_23 : decode cX6_leastRight 23 = .ok (.iconst 5, 1) := by decide +kernel
theorem dX6_leastRight_24 : decode cX6_leastRight 24 = .ok (.isub, 1) := by decide +kernel
theorem dX6_leastRight_25 : decode cX6_leastRight 25 = .ok (.iconst 1, 1) := by decide +kernel
theorem dX6_leastRight_26 : decode cX6_leastRight 26 = .ok (.iadd, 1) := by decide +kernel
theorem dX6_leastRight_27 : decode cX6_leastRight 27 = .ok (.iconst 0, 1) := by decide +kernel
theorem dX6_leastRight_28 : decode cX6_leastRight 28 = .ok (.invokestatic 137, 3) := by decide +kernel
theorem dX6_leastRight_31 : decode cX6_leastRight 31 = .ok (.istore 6, 2) := by decide +kernel
theorem dX6_leastRight_33 : decode cX6_leastRight 33 = .ok (.iload 6, 2) := by decide +kernel
theorem dX6_leastRight_35 : decode cX6_leastRight 35 = .ok (.iload 5, 2) := by decide +kernel
theorem dX6_leastRight_37 : decode cX6_leastRight 37 = .ok (.if_icmp .gt 66, 3) := by decide +kernel
theorem dX6_leastRight_40 : decode cX6_leastRight 40 = .ok (.aload_n 0, 1) := by decide +kernel
theorem dX6_leastRight_41 : decode cX6_leastRight 41 = .ok (.iload_n 1, 1) := by decide +kernel
theorem dX6_leastRight_42 : decode cX6_leastRight 42 = .ok (.iload_n 2, 1) := by decide +kernel
theorem dX6_leastRight_43 : decode cX6_leastRight 43 = .ok (.iload 6, 2) := by decide +kernel
theorem dX6_leastRight_45 : decode cX6_leastRight 45 = .ok (.invokevirtual 128, 3) := by decide +kernel
theorem dX6_leastRight_48 : decode cX6_leastRight 48 = .ok (.lstore 7, 2) := by decide +kernel
theorem dX6_leastRight_50 : decode cX6_leastRight 50 = .ok (.aload_n 0, 1) := by decide +kernel
theorem dX6_leastRight_51 : decode cX6_leastRight 51 = .ok (.getfield 9, 3) := by decide +kernel
theorem dX6_leastRight_54 : decode cX6_leastRight 54 = .ok (.iload_n 1, 1) := by decide +kernel
theorem dX6_leastRight_55 : decode cX6_leastRight 55 = .ok (.iconst 1, 1) := by decide +kernel
theorem dX6_leastRight_56 : decode cX6_leastRight 56 = .ok (.iadd, 1) := by decide +kernel
theorem dX6_leastRight_57 : decode cX6_leastRight 57 = .ok (.bipush 25, 2) := by decide +kernel
theorem dX6_leastRight_59 : decode cX6_leastRight 59 = .ok (.imul, 1) := by decide +kernel
theorem dX6_leastRight_60 : decode cX6_leastRight 60 = .ok (.iload 6, 2) := by decide +kernel
theorem dX6_leastRight_62 : decode cX6_leastRight 62 = .ok (.iadd, 1) := by decide +kernel
theorem dX6_leastRight_63 : decode cX6_leastRight 63 = .ok (.laload, 1) := by decide +kernel
theorem dX6_leastRight_64 : decode cX6_leastRight 64 = .ok (.lstore 9, 2) := by decide +kernel
theorem dX6_leastRight_66 : decode cX6_leastRight 66 = .ok (.lload 7, 2) := by decide +kernel
theorem dX6_leastRight_68 : decode cX6_leastRight 68 = .ok (.ldc2_w 99, 3) := by decide +kernel
theorem dX6_leastRight_71 : decode cX6_leastRight 71 = .ok (.lcmp, 1) := by decide +kernel
theorem dX6_leastRight_72 : decode cX6_leastRight 72 = .ok (.ifCond .eq 25, 3) := by decide +kernel
theorem dX6_leastRight_75 : decode cX6_leastRight 75 = .ok (.lload 9, 2) := by decide +kernel
theorem dX6_leastRight_77 : decode cX6_leastRight 77 = .ok (.ldc2_w 99, 3) := by decide +kernel
theorem dX6_leastRight_80 : decode cX6_leastRight 80 = .ok (.lcmp, 1) := by decide +kernel
theorem dX6_leastRight_81 : decode cX6_leastRight 81 = .ok (.ifCond .eq 16, 3) := by decide +kernel
theorem dX6_leastRight_84 : decode cX6_leastRight 84 = .ok (.lload 7, 2) := by decide +kernel
theorem dX6_leastRight_86 : decode cX6_leastRight 86 = .ok (.lload 9, 2) := by decide +kernel
theorem dX6_leastRight_88 : decode cX6_leastRight 88 = .ok (.ladd, 1) := by decide +kernel
theorem dX6_leastRight_89 : decode cX6_leastRight 89 = .ok (.lload_n 3, 1) := by decide +kernel
theorem dX6_leastRight_90 : decode cX6_leastRight 90 = .ok (.lcmp, 1) := by decide +kernel
theorem dX6_leastRight_91 : decode cX6_leastRight 91 = .ok (.ifCond .gt 6, 3) := by decide +kernel
theorem dX6_leastRight_94 : decode cX6_leastRight 94 = .ok (.iload 6, 2) := by decide +kernel
theorem dX6_leastRight_96 : decode cX6_leastRight 96 = .ok (.ireturn, 1) := by decide +kernel
theorem dX6_leastRight_97 : decode cX6_leastRight 97 = .ok (.iinc 6 1, 3) := by decide +kernel
theorem dX6_leastRight_100 : decode cX6_leastRight 100 = .ok (.goto (-67), 3) := by decide +kernel
theorem dX6_leastRight_103 : decode cX6_leastRight 103 = .ok (.iconst (-1), 1) := by decide +kernel
theorem dX6_leastRight_104 : decode cX6_leastRight 104 = .ok (.ireturn, 1) := by decide +kernel
set_option maxRecDepth 20000 in
theorem ggX6_keyOf_X1_holdsAt : GoodIn wsX6_keyOf wsX1_holdsAt := goodIn_r _ [20, 21, 22, 37, 38, 39, 40, 41, 42, 43, 44, 45] (by decide +kernel) (by decide +kernel)
set_option maxRecDepth 20000 in
theorem gX6_keyOf_X1_holdsAt : GoodIn wsX6_keyOf (wsV RX6 107 RX1 yX1_holdsAt wsX1_holdsAt) := goodIn_app (goodIn_of _ (by decide +kernel)) ggX6_keyOf_X1_holdsAt
set_option maxRecDepth 20000 in
theorem ggX6_keyOf_X1_drivesFrom : GoodIn wsX6_keyOf wsX1_drivesFrom := goodIn_r _ [26, 21, 27, 37, 38, 39, 40, 41, 42, 43, 44, 45] (by decide +kernel) (by decide +kernel)
set_option maxRecDepth 20000 in
theorem gX6_keyOf_X1_drivesFrom : GoodIn wsX6_keyOf (wsV RX6 111 RX1 yX1_drivesFrom wsX1_drivesFrom) := goodIn_app (goodIn_of _ (by decide +kernel)) ggX6_keyOf_X1_drivesFrom
theorem dX6_keyOf_0 : decode cX6_keyOf 0 = .ok (.aload_n 0, 1) := by decide +kernel
theorem dX6_keyOf_1 : decode cX6_keyOf 1 = .ok (.getfield 33, 3) := by decide +kernel
theorem dX6_keyOf_4 : decode cX6_keyOf 4 = .ok (.getfield 90, 3) := by decide +kernel
theorem dX6_keyOf_7 : decode cX6_keyOf 7 = .ok (.iload_n 1, 1) := by decide +kernel
theorem dX6_keyOf_8 : decode cX6_keyOf 8 = .ok (.aaload, 1) := by decide +kernel
theorem dX6_keyOf_9 : decode cX6_keyOf 9 = .ok (.astore 4, 2) := by decide +kernel
theorem dX6_keyOf_11 : decode cX6_keyOf 11 = .ok (.aload 4, 2) := by decide +kernel
theorem dX6_keyOf_13 : decode cX6_keyOf 13 = .ok (.iload_n 2, 1) := by decide +kernel
theorem dX6_keyOf_14 : decode cX6_keyOf 14 = .ok (.iload_n 3, 1) := by decide +kernel
theorem dX6_keyOf_15 : decode cX6_keyOf 15 = .ok (.invokestatic 135, 3) := by decide +kernel
theorem dX6_keyOf_18 : decode cX6_keyOf 18 = .ok (.iload_n 2, 1) := by decide +kernel
theorem dX6_keyOf_19 : decode cX6_keyOf 19 = .ok (.iload_n 3, 1) := by decide +kernel
theorem dX6_keyOf_20 : decode cX6_keyOf 20 = .ok (.isub, 1) := by decide +kernel
theorem dX6_keyOf_21 : decode cX6_keyOf 21 = .ok (.invokestatic 140, 3) := by decide +kernel
theorem dX6_keyOf_24 : decode cX6_keyOf 24 = .ok (.invokevirtual 107, 3) := by decide +kernel
theorem dX6_keyOf_27 : decode cX6_keyOf 27 = .ok (.istore 5, 2) := by decide +kernel
theorem dX6_keyOf_29 : decode cX6_keyOf 29 = .ok (.iload 5, 2) := by decide +kernel
theorem dX6_keyOf_31 : decode cX6_keyOf 31 = .ok (.iconst (-1), 1) := by decide +kernel
theorem dX6_keyOf_32 : decode cX6_keyOf 32 = .ok (.if_icmp .ne 7, 3) := by decide +kernel
theorem dX6_keyOf_35 : decode cX6_keyOf 35 = .ok (.ldc2_w 99, 3) := by decide +kernel
theorem dX6_keyOf_38 : decode cX6_keyOf 38 = .ok (.lreturn, 1) := by decide +kernel
theorem dX6_keyOf_39 : decode cX6_keyOf 39 = .ok (.aload_n 0, 1) := by decide +kernel
theorem dX6_keyOf_40 : decode cX6_keyOf 40 = .ok (.getfield 22, 3) := by decide +kernel
theorem dX6_keyOf_43 : decode cX6_keyOf 43 = .ok (.iload 5, 2) := by decide +kernel
theorem dX6_keyOf_45 : decode cX6_keyOf 45 = .ok (.i2l, 1) := by decide +kernel
theorem dX6_keyOf_46 : decode cX6_keyOf 46 = .ok (.lmul, 1) := by decide +kernel
theorem dX6_keyOf_47 : decode cX6_keyOf 47 = .ok (.aload_n 0, 1) := by decide +kernel
theorem dX6_keyOf_48 : decode cX6_keyOf 48 = .ok (.getfield 18, 3) := by decide +kernel
theorem dX6_keyOf_51 : decode cX6_keyOf 51 = .ok (.aload 4, 2) := by decide +kernel
theorem dX6_keyOf_53 : decode cX6_keyOf 53 = .ok (.iload_n 2, 1) := by decide +kernel
theorem dX6_keyOf_54 : decode cX6_keyOf 54 = .ok (.iload_n 3, 1) := by decide +kernel
theorem dX6_keyOf_55 : decode cX6_keyOf 55 = .ok (.invokestatic 137, 3) := by decide +kernel
theorem dX6_keyOf_58 : decode cX6_keyOf 58 = .ok (.iload_n 2, 1) := by decide +kernel
theorem dX6_keyOf_59 : decode cX6_keyOf 59 = .ok (.iload_n 3, 1) := by decide +kernel
theorem dX6_keyOf_60 : decode cX6_keyOf 60 = .ok (.isub, 1) := by decide +kernel
theorem dX6_keyOf_61 : decode cX6_keyOf 61 = .ok (.invokevirtual 111, 3) := by decide +kernel
theorem dX6_keyOf_64 : decode cX6_keyOf 64 = .ok (.i2l, 1) := by decide +kernel
theorem dX6_keyOf_65 : decode cX6_keyOf 65 = .ok (.lmul, 1) := by decide +kernel
theorem dX6_keyOf_66 : decode cX6_keyOf 66 = .ok (.lsub, 1) := by decide +kernel
theorem dX6_keyOf_67 : decode cX6_keyOf 67 = .ok (.lreturn, 1) := by decide +kernel
end
section
set_option maxRecDepth 20000 in
theorem ggX7_init_X2_init : GoodIn wsX7_init wsX2_init := goodIn_r _ [40, 41, 2, 3, 33, 42, 43, 44, 31, 45, 46, 103, 104, 105, 106, 107] (by decide +kernel) (by decide +kernel)
set_option maxRecDepth 20000 in
theorem gX7_init_X2_init_n11 : GoodIn wsX7_init (wsX2_init) := ggX7_init_X2_init
set_option maxRecDepth 20000 in
theorem ggX7_init_X4_init : GoodIn wsX7_init wsX4_init := goodIn_r _ [49, 50, 2, 3, 51, 52, 53, 54, 55, 33, 56, 57, 58, 59, 60, 61, 62, 63, 64, 65, 66, 67, 68, 123, 124, 141, 142, 143, 144, 145, 146, 147, 148, 149] (by decide +kernel) (by decide +kernel)
set_option maxRecDepth 20000 in
theorem gX7_init_X4_init : GoodIn wsX7_init (wsX4_init) := ggX7_init_X4_init
set_option maxRecDepth 20000 in
theorem ggX7_init_X4_init_ : GoodIn wsX7_init wsX4_init_ := goodIn_r _ [71, 50, 2, 3, 51, 52, 53, 54, 55, 72, 56, 57, 58, 59, 60, 61, 62, 63, 33, 64, 65, 66, 67, 68, 123, 124, 141, 142, 143, 144, 145, 146, 147, 148, 149] (by decide +kernel) (by decide +kernel)
set_option maxRecDepth 20000 in
theorem gX7_init_X4_init_ : GoodIn wsX7_init (wsX4_init_) := ggX7_init_X4_init_
set_option maxRecDepth 20000 in
theorem ggX7_init_X0_init : GoodIn wsX7_init wsX0_init := goodIn_r _ [74, 75, 2, 3, 76, 33, 77, 78, 79, 125, 126, 127, 128] (by decide +kernel) (by decide +kernel)
set_option maxRecDepth 20000 in
theorem gX7_init_X0_init_n33 : GoodIn wsX7_init (wsX0_init) := ggX7_init_X0_init
set_option maxRecDepth 20000 in
theorem ggX7_init_X6_init : GoodIn wsX7_init wsX6_init := goodIn_r _ [82, 83, 2, 3, 84, 85, 86, 87, 88, 89, 90, 91, 129, 130, 131, 132, 133, 134, 135] (by decide +kernel) (by decide +kernel)
set_option maxRecDepth 20000 in
theorem gX7_init_X6_init : GoodIn wsX7_init (wsX6_init) := ggX7_init_X6_init
set_option maxRecDepth 20000 in
theorem ggX7_init_X5_init : GoodIn wsX7_init wsX5_init := goodIn_r _ [93, 94, 2, 3, 33, 95, 96, 97, 136, 137, 138] (by decide +kernel) (by decide +kernel)
set_option maxRecDepth 20000 in
theorem gX7_init_X5_init_n47 : GoodIn wsX7_init (wsX5_init) := ggX7_init_X5_init
set_option maxRecDepth 20000 in
theorem ggX7_init_X3_init : GoodIn wsX7_init wsX3_init := goodIn_r _ [99, 100, 2, 3, 101, 102, 139, 140] (by decide +kernel) (by decide +kernel)
set_option maxRecDepth 20000 in
theorem gX7_init_X3_init_n57 : GoodIn wsX7_init (wsX3_init) := ggX7_init_X3_init
theorem dX7_init_0 : decode cX7_init 0 = .ok (.aload_n 0, 1) := by decide +kernel
theorem dX7_init_1 : decode cX7_init 1 = .ok (.invokespecial 3, 3) := by decide +kernel
theorem dX7_init_4 : decode cX7_init 4 = .ok (.aload_n 0, 1) := by decide +kernel
theorem dX7_init_5 : decode cX7_init 5 = .ok (.new 9, 3) := by decide +kernel
theorem dX7_init_8 : decode cX7_init 8 = .ok (.dup, 1) := by decide +kernel
theorem dX7_init_9 : decode cX7_init 9 = .ok (.invokespecial 11, 3) := by decide +kernel
theorem dX7_init_12 : decode cX7_init 12 = .ok (.putfield 12, 3) := by decide +kernel
theorem dX7_init_15 : decode cX7_init 15 = .ok (.aload_n 0, 1) := by decide +kernel
theorem dX7_init_16 : decode cX7_init 16 = .ok (.new 16, 3) := by decide +kernel
theorem dX7_init_19 : decode cX7_init 19 = .ok (.dup, 1) := by decide +kernel
theorem dX7_init_20 : decode cX7_init 20 = .ok (.aload_n 0, 1) := by decide +kernel
theorem dX7_init_21 : decode cX7_init 21 = .ok (.getfield 12, 3) := by decide +kernel
theorem dX7_init_24 : decode cX7_init 24 = .ok (.invokespecial 18, 3) := by decide +kernel
theorem dX7_init_27 : decode cX7_init 27 = .ok (.putfield 21, 3) := by decide +kernel
theorem dX7_init_30 : decode cX7_init 30 = .ok (.aload_n 0, 1) := by decide +kernel
theorem dX7_init_31 : decode cX7_init 31 = .ok (.new 16, 3) := by decide +kernel
theorem dX7_init_34 : decode cX7_init 34 = .ok (.dup, 1) := by decide +kernel
theorem dX7_init_35 : decode cX7_init 35 = .ok (.aload_n 0, 1) := by decide +kernel
theorem dX7_init_36 : decode cX7_init 36 = .ok (.getfield 21, 3) := by decide +kernel
theorem dX7_init_39 : decode cX7_init 39 = .ok (.invokespecial 25, 3) := by decide +kernel
theorem dX7_init_42 : decode cX7_init 42 = .ok (.putfield 28, 3) := by decide +kernel
theorem dX7_init_45 : decode cX7_init 45 = .ok (.aload_n 0, 1) := by decide +kernel
theorem dX7_init_46 : decode cX7_init 46 = .ok (.new 31, 3) := by decide +kernel
theorem dX7_init_49 : decode cX7_init 49 = .ok (.dup, 1) := by decide +kernel
theorem dX7_init_50 : decode cX7_init 50 = .ok (.invokespecial 33, 3) := by decide +kernel
theorem dX7_init_53 : decode cX7_init 53 = .ok (.putfield 34, 3) := by decide +kernel
theorem dX7_init_56 : decode cX7_init 56 = .ok (.aload_n 0, 1) := by decide +kernel
theorem dX7_init_57 : decode cX7_init 57 = .ok (.new 38, 3) := by decide +kernel
theorem dX7_init_60 : decode cX7_init 60 = .ok (.dup, 1) := by decide +kernel
theorem dX7_init_61 : decode cX7_init 61 = .ok (.aload_n 0, 1) := by decide +kernel
theorem dX7_init_62 : decode cX7_init 62 = .ok (.getfield 21, 3) := by decide +kernel
theorem dX7_init_65 : decode cX7_init 65 = .ok (.invokespecial 40, 3) := by decide +kernel
theorem dX7_init_68 : decode cX7_init 68 = .ok (.putfield 41, 3) := by decide +kernel
theorem dX7_init_71 : decode cX7_init 71 = .ok (.aload_n 0, 1) := by decide +kernel
theorem dX7_init_72 : decode cX7_init 72 = .ok (.new 45, 3) := by decide +kernel
theorem dX7_init_75 : decode cX7_init 75 = .ok (.dup, 1) := by decide +kernel
theorem dX7_init_76 : decode cX7_init 76 = .ok (.invokespecial 47, 3) := by decide +kernel
theorem dX7_init_79 : decode cX7_init 79 = .ok (.putfield 48, 3) := by decide +kernel
theorem dX7_init_82 : decode cX7_init 82 = .ok (.aload_n 0, 1) := by decide +kernel
theorem dX7_init_83 : decode cX7_init 83 = .ok (.new 45, 3) := by decide +kernel
theorem dX7_init_86 : decode cX7_init 86 = .ok (.dup, 1) := by decide +kernel
theorem dX7_init_87 : decode cX7_init 87 = .ok (.invokespecial 47, 3) := by decide +kernel
theorem dX7_init_90 : decode cX7_init 90 = .ok (.putfield 52, 3) := by decide +kernel
theorem dX7_init_93 : decode cX7_init 93 = .ok (.aload_n 0, 1) := by decide +kernel
theorem dX7_init_94 : decode cX7_init 94 = .ok (.new 55, 3) := by decide +kernel
theorem dX7_init_97 : decode cX7_init 97 = .ok (.dup, 1) := by decide +kernel
theorem dX7_init_98 : decode cX7_init 98 = .ok (.invokespecial 57, 3) := by decide +kernel
theorem dX7_init_101 : decode cX7_init 101 = .ok (.putfield 58, 3) := by decide +kernel
theorem dX7_init_104 : decode cX7_init 104 = .ok (.aload_n 0, 1) := by decide +kernel
theorem dX7_init_105 : decode cX7_init 105 = .ok (.new 55, 3) := by decide +kernel
theorem dX7_init_108 : decode cX7_init 108 = .ok (.dup, 1) := by decide +kernel
theorem dX7_init_109 : decode cX7_init 109 = .ok (.invokespecial 57, 3) := by decide +kernel
theorem dX7_init_112 : decode cX7_init 112 = .ok (.putfield 62, 3) := by decide +kernel
theorem dX7_init_115 : decode cX7_init 115 = .ok (.aload_n 0, 1) := by decide +kernel
theorem dX7_init_116 : decode cX7_init 116 = .ok (.bipush 64, 2) := by decide +kernel
theorem dX7_init_118 : decode cX7_init 118 = .ok (.newarray .boolean, 2) := by decide +kernel
theorem dX7_init_120 : decode cX7_init 120 = .ok (.putfield 65, 3) := by decide +kernel
theorem dX7_init_123 : decode cX7_init 123 = .ok (.aload_n 0, 1) := by decide +kernel
theorem dX7_init_124 : decode cX7_init 124 = .ok (.bipush 6, 2) := by decide +kernel
theorem dX7_init_126 : decode cX7_init 126 = .ok (.newarray .int, 2) := by decide +kernel
theorem dX7_init_128 : decode cX7_init 128 = .ok (.putfield 69, 3) := by decide +kernel
theorem dX7_init_131 : decode cX7_init 131 = .ok (.aload_n 0, 1) := by decide +kernel
theorem dX7_init_132 : decode cX7_init 132 = .ok (.bipush 6, 2) := by decide +kernel
theorem dX7_init_134 : decode cX7_init 134 = .ok (.newarray .int, 2) := by decide +kernel
theorem dX7_init_136 : decode cX7_init 136 = .ok (.putfield 73, 3) := by decide +kernel
theorem dX7_init_139 : decode cX7_init 139 = .ok (.aload_n 0, 1) := by decide +kernel
theorem dX7_init_140 : decode cX7_init 140 = .ok (.iconst 0, 1) := by decide +kernel
theorem dX7_init_141 : decode cX7_init 141 = .ok (.putfield 76, 3) := by decide +kernel
theorem dX7_init_144 : decode cX7_init 144 = .ok (.aload_n 0, 1) := by decide +kernel
theorem dX7_init_145 : decode cX7_init 145 = .ok (.iconst 0, 1) := by decide +kernel
theorem dX7_init_146 : decode cX7_init 146 = .ok (.putfield 80, 3) := by decide +kernel
theorem dX7_init_149 : decode cX7_init 149 = .ok (.aload_n 0, 1) := by decide +kernel
theorem dX7_init_150 : decode cX7_init 150 = .ok (.iconst 0, 1) := by decide +kernel
theorem dX7_init_151 : decode cX7_init 151 = .ok (.putfield 84, 3) := by decide +kernel
theorem dX7_init_154 : decode cX7_init 154 = .ok (.return_, 1) := by decide +kernel
set_option maxRecDepth 20000 in
theorem ggX7_ground_X4_clearTo : GoodIn wsX7_ground wsX4_clearTo := goodIn_r _ [10, 11, 12, 13, 14, 15, 16, 17, 18, 19, 20, 21, 22, 48, 49, 50, 51, 52, 53, 54, 55, 56, 57, 58] (by decide +kernel) (by decide +kernel)
set_option maxRecDepth 20000 in
theorem gX7_ground_X4_clearTo : GoodIn wsX7_ground (wsV RX7 87 RX4 yX4_clearTo wsX4_clearTo) := goodIn_app (goodIn_of _ (by decide +kernel)) ggX7_ground_X4_clearTo
set_option maxRecDepth 20000 in
theorem ggX7_ground_X5_drop : GoodIn wsX7_ground wsX5_drop := goodIn_r _ [27, 28, 59, 60, 61] (by decide +kernel) (by decide +kernel)
set_option maxRecDepth 20000 in
theorem gX7_ground_X5_drop : GoodIn wsX7_ground (wsV RX7 94 RX5 yX5_drop wsX5_drop) := goodIn_app (goodIn_of _ (by decide +kernel)) ggX7_ground_X5_drop
theorem dX7_ground_0 : decode cX7_ground 0 = .ok (.iload_n 1, 1) := by decide +kernel
theorem dX7_ground_1 : decode cX7_ground 1 = .ok (.iconst 2, 1) := by decide +kernel
theorem dX7_ground_2 : decode cX7_ground 2 = .ok (.if_icmp .lt 9, 3) := by decide +kernel
theorem dX7_ground_5 : decode cX7_ground 5 = .ok (.iload_n 1, 1) := by decide +kernel
theorem dX7_ground_6 : decode cX7_ground 6 = .ok (.bipush 12, 2) := by decide +kernel
theorem dX7_ground_8 : decode cX7_ground 8 = .ok (.if_icmp .le 5, 3) := by decide +kernel
theorem dX7_ground_11 : decode cX7_ground 11 = .ok (.iconst 0, 1) := by decide +kernel
theorem dX7_ground_12 : decode cX7_ground 12 = .ok (.ireturn, 1) := by decide +kernel
theorem dX7_ground_13 : decode cX7_ground 13 = .ok (.aload_n 0, 1) := by decide +kernel
theorem dX7_ground_14 : decode cX7_ground 14 = .ok (.getfield 21, 3) := by decide +kernel
theorem dX7_ground_17 : decode cX7_ground 17 = .ok (.iload_n 1, 1) := by decide +kernel
theorem dX7_ground_18 : decode cX7_ground 18 = .ok (.invokevirtual 87, 3) := by decide +kernel
theorem dX7_ground_21 : decode cX7_ground 21 = .ok (.aload_n 0, 1) := by decide +kernel
theorem dX7_ground_22 : decode cX7_ground 22 = .ok (.getfield 34, 3) := by decide +kernel
theorem dX7_ground_25 : decode cX7_ground 25 = .ok (.iconst 0, 1) := by decide +kernel
theorem dX7_ground_26 : decode cX7_ground 26 = .ok (.putfield 91, 3) := by decide +kernel
theorem dX7_ground_29 : decode cX7_ground 29 = .ok (.aload_n 0, 1) := by decide +kernel
theorem dX7_ground_30 : decode cX7_ground 30 = .ok (.getfield 48, 3) := by decide +kernel
theorem dX7_ground_33 : decode cX7_ground 33 = .ok (.invokevirtual 94, 3) := by decide +kernel
theorem dX7_ground_36 : decode cX7_ground 36 = .ok (.aload_n 0, 1) := by decide +kernel
theorem dX7_ground_37 : decode cX7_ground 37 = .ok (.iconst 0, 1) := by decide +kernel
theorem dX7_ground_38 : decode cX7_ground 38 = .ok (.putfield 80, 3) := by decide +kernel
theorem dX7_ground_41 : decode cX7_ground 41 = .ok (.iconst 1, 1) := by decide +kernel
theorem dX7_ground_42 : decode cX7_ground 42 = .ok (.ireturn, 1) := by decide +kernel
set_option maxRecDepth 20000 in
theorem ggX7_earth_X7_within : GoodIn wsX7_earth wsX7_within := goodIn_r _ [5] (by decide +kernel) (by decide +kernel)
set_option maxRecDepth 20000 in
theorem gX7_earth_X7_within : GoodIn wsX7_earth (va_wsS RX7 97 yX7_within wsX7_within) := goodIn_app (goodIn_of _ (by decide +kernel)) ggX7_earth_X7_within
set_option maxRecDepth 20000 in
theorem ggX7_earth_X2_add : GoodIn wsX7_earth wsX2_add := goodIn_r _ [10, 11, 12, 13, 14, 15, 31, 32, 33, 34, 35] (by decide +kernel) (by decide +kernel)
set_option maxRecDepth 20000 in
theorem gX7_earth_X2_add : GoodIn wsX7_earth (wsV RX7 101 RX2 yX2_add wsX2_add) := goodIn_app (goodIn_of _ (by decide +kernel)) ggX7_earth_X2_add
theorem dX7_earth_0 : decode cX7_earth 0 = .ok (.iload_n 1, 1) := by decide +kernel
theorem dX7_earth_1 : decode cX7_earth 1 = .ok (.iconst 1, 1) := by decide +kernel
theorem dX7_earth_2 : decode cX7_earth 2 = .ok (.bipush 30, 2) := by decide +kernel
theorem dX7_earth_4 : decode cX7_earth 4 = .ok (.invokestatic 97, 3) := by decide +kernel
theorem dX7_earth_7 : decode cX7_earth 7 = .ok (.ifCond .ne 5, 3) := by decide +kernel
theorem dX7_earth_10 : decode cX7_earth 10 = .ok (.iconst (-1), 1) := by decide +kernel
theorem dX7_earth_11 : decode cX7_earth 11 = .ok (.ireturn, 1) := by decide +kernel
theorem dX7_earth_12 : decode cX7_earth 12 = .ok (.iload 4, 2) := by decide +kernel
theorem dX7_earth_14 : decode cX7_earth 14 = .ok (.ifCond .ne 25, 3) := by decide +kernel
theorem dX7_earth_17 : decode cX7_earth 17 = .ok (.iload_n 2, 1) := by decide +kernel
theorem dX7_earth_18 : decode cX7_earth 18 = .ok (.iconst 0, 1) := by decide +kernel
theorem dX7_earth_19 : decode cX7_earth 19 = .ok (.bipush 99, 2) := by decide +kernel
theorem dX7_earth_21 : decode cX7_earth 21 = .ok (.invokestatic 97, 3) := by decide +kernel
theorem dX7_earth_24 : decode cX7_earth 24 = .ok (.ifCond .eq 13, 3) := by decide +kernel
theorem dX7_earth_27 : decode cX7_earth 27 = .ok (.iload_n 3, 1) := by decide +kernel
theorem dX7_earth_28 : decode cX7_earth 28 = .ok (.iconst 0, 1) := by decide +kernel
theorem dX7_earth_29 : decode cX7_earth 29 = .ok (.bipush 9, 2) := by decide +kernel
theorem dX7_earth_31 : decode cX7_earth 31 = .ok (.invokestatic 97, 3) := by decide +kernel
theorem dX7_earth_34 : decode cX7_earth 34 = .ok (.ifCond .ne 5, 3) := by decide +kernel
theorem dX7_earth_37 : decode cX7_earth 37 = .ok (.iconst (-1), 1) := by decide +kernel
theorem dX7_earth_38 : decode cX7_earth 38 = .ok (.ireturn, 1) := by decide +kernel
theorem dX7_earth_39 : decode cX7_earth 39 = .ok (.aload_n 0, 1) := by decide +kernel
theorem dX7_earth_40 : decode cX7_earth 40 = .ok (.getfield 12, 3) := by decide +kernel
theorem dX7_earth_43 : decode cX7_earth 43 = .ok (.iload_n 1, 1) := by decide +kernel
theorem dX7_earth_44 : decode cX7_earth 44 = .ok (.iload_n 2, 1) := by decide +kernel
theorem dX7_earth_45 : decode cX7_earth 45 = .ok (.iload_n 3, 1) := by decide +kernel
theorem dX7_earth_46 : decode cX7_earth 46 = .ok (.iload 4, 2) := by decide +kernel
theorem dX7_earth_48 : decode cX7_earth 48 = .ok (.invokevirtual 101, 3) := by decide +kernel
theorem dX7_earth_51 : decode cX7_earth 51 = .ok (.ireturn, 1) := by decide +kernel
set_option maxRecDepth 20000 in
theorem ggX7_lay_X4_has : GoodIn wsX7_lay wsX4_has := goodIn_r _ [10, 11, 12, 13, 14, 49, 50] (by decide +kernel) (by decide +kernel)
set_option maxRecDepth 20000 in
theorem gX7_lay_X4_has : GoodIn wsX7_lay (wsV RX7 105 RX4 yX4_has wsX4_has) := goodIn_app (goodIn_of _ (by decide +kernel)) ggX7_lay_X4_has
set_option maxRecDepth 20000 in
theorem ggX7_lay_X2_has : GoodIn wsX7_lay wsX2_has := goodIn_r _ [19, 20, 12, 13, 14, 60, 61, 62, 63, 64] (by decide +kernel) (by decide +kernel)
set_option maxRecDepth 20000 in
theorem gX7_lay_X2_has : GoodIn wsX7_lay (wsV RX7 109 RX2 yX2_has wsX2_has) := goodIn_app (goodIn_of _ (by decide +kernel)) ggX7_lay_X2_has
set_option maxRecDepth 20000 in
theorem ggX7_lay_X7_within : GoodIn wsX7_lay wsX7_within := goodIn_r _ [14] (by decide +kernel) (by decide +kernel)
set_option maxRecDepth 20000 in
theorem gX7_lay_X7_within : GoodIn wsX7_lay (va_wsS RX7 97 yX7_within wsX7_within) := goodIn_app (goodIn_of _ (by decide +kernel)) ggX7_lay_X7_within
set_option maxRecDepth 20000 in
theorem ggX7_lay_X1_pile : GoodIn wsX7_lay wsX1_pile := goodIn_r _ [26, 27, 28, 29, 30, 31, 32, 33, 51, 52, 53, 54, 55, 56, 57, 58, 59] (by decide +kernel) (by decide +kernel)
set_option maxRecDepth 20000 in
theorem gX7_lay_X1_pile : GoodIn wsX7_lay (wsV RX7 119 RX1 yX1_pile wsX1_pile) := goodIn_app (goodIn_of _ (by decide +kernel)) ggX7_lay_X1_pile
theorem dX7_lay_0 : decode cX7_lay 0 = .ok (.aload_n 0, 1) := by decide +kernel
theorem dX7_lay_1 : decode cX7_lay 1 = .ok (.getfield 21, 3) := by decide +kernel
theorem dX7_lay_4 : decode cX7_lay 4 = .ok (.iload_n 1, 1) := by decide +kernel
theorem dX7_lay_5 : decode cX7_lay 5 = .ok (.invokevirtual 105, 3) := by decide +kernel
theorem dX7_lay_8 : decode cX7_lay 8 = .ok (.ifCond .eq 14, 3) := by decide +kernel
theorem dX7_lay_11 : decode cX7_lay 11 = .ok (.aload_n 0, 1) := by decide +kernel
theorem dX7_lay_12 : decode cX7_lay 12 = .ok (.getfield 12, 3) := by decide +kernel
theorem dX7_lay_15 : decode cX7_lay 15 = .ok (.iload_n 2, 1) := by decide +kernel
theorem dX7_lay_16 : decode cX7_lay 16 = .ok (.invokevirtual 109, 3) := by decide +kernel
theorem dX7_lay_19 : decode cX7_lay 19 = .ok (.ifCond .ne 5, 3) := by decide +kernel
theorem dX7_lay_22 : decode cX7_lay 22 = .ok (.iconst (-1), 1) := by decide +kernel
theorem dX7_lay_23 : decode cX7_lay 23 = .ok (.ireturn, 1) := by decide +kernel
theorem dX7_lay_24 : decode cX7_lay 24 = .ok (.aload_n 0, 1) := by decide +kernel
theorem dX7_lay_25 : decode cX7_lay 25 = .ok (.getfield 21, 3) := by decide +kernel
theorem dX7_lay_28 : decode cX7_lay 28 = .ok (.getfield 110, 3) := by decide +kernel
theorem dX7_lay_31 : decode cX7_lay 31 = .ok (.iload_n 1, 1) := by decide +kernel
theorem dX7_lay_32 : decode cX7_lay 32 = .ok (.aaload, 1) := by decide +kernel
theorem dX7_lay_33 : decode cX7_lay 33 = .ok (.astore 4, 2) := by decide +kernel
theorem dX7_lay_35 : decode cX7_lay 35 = .ok (.iload_n 3, 1) := by decide +kernel
theorem dX7_lay_36 : decode cX7_lay 36 = .ok (.iconst 1, 1) := by decide +kernel
theorem dX7_lay_37 : decode cX7_lay 37 = .ok (.bipush 24, 2) := by decide +kernel
theorem dX7_lay_39 : decode cX7_lay 39 = .ok (.aload 4, 2) := by decide +kernel
theorem dX7_lay_41 : decode cX7_lay 41 = .ok (.getfield 114, 3) := by decide +kernel
theorem dX7_lay_44 : decode cX7_lay 44 = .ok (.isub, 1) := by decide +kernel
theorem dX7_lay_45 : decode cX7_lay 45 = .ok (.invokestatic 97, 3) := by decide +kernel
theorem dX7_lay_48 : decode cX7_lay 48 = .ok (.ifCond .ne 5, 3) := by decide +kernel
theorem dX7_lay_51 : decode cX7_lay 51 = .ok (.iconst (-1), 1) := by decide +kernel
theorem dX7_lay_52 : decode cX7_lay 52 = .ok (.ireturn, 1) := by decide +kernel
theorem dX7_lay_53 : decode cX7_lay 53 = .ok (.aload 4, 2) := by decide +kernel
theorem dX7_lay_55 : decode cX7_lay 55 = .ok (.iload_n 2, 1) := by decide +kernel
theorem dX7_lay_56 : decode cX7_lay 56 = .ok (.iload_n 3, 1) := by decide +kernel
theorem dX7_lay_57 : decode cX7_lay 57 = .ok (.invokevirtual 119, 3) := by decide +kernel
theorem dX7_lay_60 : decode cX7_lay 60 = .ok (.aload_n 0, 1) := by decide +kernel
theorem dX7_lay_61 : decode cX7_lay 61 = .ok (.iconst 0, 1) := by decide +kernel
theorem dX7_lay_62 : decode cX7_lay 62 = .ok (.putfield 80, 3) := by decide +kernel
theorem dX7_lay_65 : decode cX7_lay 65 = .ok (.aload 4, 2) := by decide +kernel
theorem dX7_lay_67 : decode cX7_lay 67 = .ok (.getfield 114, 3) := by decide +kernel
theorem dX7_lay_70 : decode cX7_lay 70 = .ok (.ireturn, 1) := by decide +kernel
set_option maxRecDepth 20000 in
theorem ggX7_set_X4_has : GoodIn wsX7_set wsX4_has := goodIn_r _ [8, 9, 10, 11, 12, 38, 39] (by decide +kernel) (by decide +kernel)
set_option maxRecDepth 20000 in
theorem gX7_set_X4_has : GoodIn wsX7_set (wsV RX7 105 RX4 yX4_has wsX4_has) := goodIn_app (goodIn_of _ (by decide +kernel)) ggX7_set_X4_has
set_option maxRecDepth 20000 in
theorem ggX7_set_X7_within : GoodIn wsX7_set wsX7_within := goodIn_r _ [12] (by decide +kernel) (by decide +kernel)
set_option maxRecDepth 20000 in
theorem gX7_set_X7_within : GoodIn wsX7_set (va_wsS RX7 97 yX7_within wsX7_within) := goodIn_app (goodIn_of _ (by decide +kernel)) ggX7_set_X7_within
set_option maxRecDepth 20000 in
theorem ggX7_set_X1_put : GoodIn wsX7_set wsX1_put := goodIn_r _ [18, 19, 20, 21, 22, 40, 41, 42, 43, 44, 45, 46, 47, 48] (by decide +kernel) (by decide +kernel)
set_option maxRecDepth 20000 in
theorem gX7_set_X1_put : GoodIn wsX7_set (wsV RX7 123 RX1 yX1_put wsX1_put) := goodIn_app (goodIn_of _ (by decide +kernel)) ggX7_set_X1_put
theorem dX7_set_0 : decode cX7_set 0 = .ok (.aload_n 0, 1) := by decide +kernel
theorem dX7_set_1 : decode cX7_set 1 = .ok (.getfield 21, 3) := by decide +kernel
theorem dX7_set_4 : decode cX7_set 4 = .ok (.iload_n 1, 1) := by decide +kernel
theorem dX7_set_5 : decode cX7_set 5 = .ok (.invokevirtual 105, 3) := by decide +kernel
theorem dX7_set_8 : decode cX7_set 8 = .ok (.ifCond .eq 12, 3) := by decide +kernel
theorem dX7_set_11 : decode cX7_set 11 = .ok (.iload_n 2, 1) := by decide +kernel
theorem dX7_set_12 : decode cX7_set 12 = .ok (.iconst 0, 1) := by decide +kernel
theorem dX7_set_13 : decode cX7_set 13 = .ok (.iconst 2, 1) := by decide +kernel
theorem dX7_set_14 : decode cX7_set 14 = .ok (.invokestatic 97, 3) := by decide +kernel
theorem dX7_set_17 : decode cX7_set 17 = .ok (.ifCond .ne 5, 3) := by decide +kernel
theorem dX7_set_20 : decode cX7_set 20 = .ok (.iconst 0, 1) := by decide +kernel
theorem dX7_set_21 : decode cX7_set 21 = .ok (.ireturn, 1) := by decide +kernel
theorem dX7_set_22 : decode cX7_set 22 = .ok (.iload_n 3, 1) := by decide +kernel
theorem dX7_set_23 : decode cX7_set 23 = .ok (.iconst 0, 1) := by decide +kernel
theorem dX7_set_24 : decode cX7_set 24 = .ok (.iload_n 2, 1) := by decide +kernel
theorem dX7_set_25 : decode cX7_set 25 = .ok (.ifCond .ne 8, 3) := by decide +kernel
theorem dX7_set_28 : decode cX7_set 28 = .ok (.bipush 24, 2) := by decide +kernel
theorem dX7_set_30 : decode cX7_set 30 = .ok (.goto 6, 3) := by decide +kernel
theorem dX7_set_33 : decode cX7_set 33 = .ok (.sipush 999, 3) := by decide +kernel
theorem dX7_set_36 : decode cX7_set 36 = .ok (.invokestatic 97, 3) := by decide +kernel
theorem dX7_set_39 : decode cX7_set 39 = .ok (.ifCond .ne 5, 3) := by decide +kernel
theorem dX7_set_42 : decode cX7_set 42 = .ok (.iconst 0, 1) := by decide +kernel
theorem dX7_set_43 : decode cX7_set 43 = .ok (.ireturn, 1) := by decide +kernel
theorem dX7_set_44 : decode cX7_set 44 = .ok (.aload_n 0, 1) := by decide +kernel
theorem dX7_set_45 : decode cX7_set 45 = .ok (.getfield 21, 3) := by decide +kernel
theorem dX7_set_48 : decode cX7_set 48 = .ok (.getfield 110, 3) := by decide +kernel
theorem dX7_set_51 : decode cX7_set 51 = .ok (.iload_n 1, 1) := by decide +kernel
theorem dX7_set_52 : decode cX7_set 52 = .ok (.aaload, 1) := by decide +kernel
theorem dX7_set_53 : decode cX7_set 53 = .ok (.iload_n 2, 1) := by decide +kernel
theorem dX7_set_54 : decode cX7_set 54 = .ok (.iload_n 3, 1) := by decide +kernel
theorem dX7_set_55 : decode cX7_set 55 = .ok (.invokevirtual 123, 3) := by decide +kernel
theorem dX7_set_58 : decode cX7_set 58 = .ok (.aload_n 0, 1) := by decide +kernel
theorem dX7_set_59 : decode cX7_set 59 = .ok (.iconst 0, 1) := by decide +kernel
theorem dX7_set_60 : decode cX7_set 60 = .ok (.putfield 80, 3) := by decide +kernel
theorem dX7_set_63 : decode cX7_set 63 = .ok (.iconst 1, 1) := by decide +kernel
theorem dX7_set_64 : decode cX7_set 64 = .ok (.ireturn, 1) := by decide +kernel
theorem dX7_look_0 : decode cX7_look 0 = .ok (.aload_n 0, 1) := by decide +kernel
theorem dX7_look_1 : decode cX7_look 1 = .ok (.getfield 21, 3) := by decide +kernel
theorem dX7_look_4 : decode cX7_look 4 = .ok (.iload_n 1, 1) := by decide +kernel
theorem dX7_look_5 : decode cX7_look 5 = .ok (.invokevirtual 105, 3) := by decide +kernel
theorem dX7_look_8 : decode cX7_look 8 = .ok (.ifCond .ne 13, 3) := by decide +kernel
theorem dX7_look_11 : decode cX7_look 11 = .ok (.new 126, 3) := by decide +kernel
theorem dX7_look_14 : decode cX7_look 14 = .ok (.dup, 1) := by decide +kernel
theorem dX7_look_15 : decode cX7_look 15 = .ok (.ldc 128, 2) := by decide +kernel
theorem dX7_look_17 : decode cX7_look 17 = .ok (.invokespecial 130, 3) := by decide +kernel
theorem dX7_look_20 : decode cX7_look 20 = .ok (.athrow, 1) := by decide +kernel
theorem dX7_look_21 : decode cX7_look 21 = .ok (.iload_n 2, 1) := by decide +kernel
theorem dX7_look_22 : decode cX7_look 22 = .ok (.iconst 0, 1) := by decide +kernel
theorem dX7_look_23 : decode cX7_look 23 = .ok (.iconst 3, 1) := by decide +kernel
theorem dX7_look_24 : decode cX7_look 24 = .ok (.invokestatic 97, 3) := by decide +kernel
theorem dX7_look_27 : decode cX7_look 27 = .ok (.ifCond .ne 13, 3) := by decide +kernel
theorem dX7_look_30 : decode cX7_look 30 = .ok (.new 133, 3) := by decide +kernel
theorem dX7_look_33 : decode cX7_look 33 = .ok (.dup, 1) := by decide +kernel
theorem dX7_look_34 : decode cX7_look 34 = .ok (.ldc 135, 2) := by decide +kernel
theorem dX7_look_36 : decode cX7_look 36 = .ok (.invokespecial 137, 3) := by decide +kernel
theorem dX7_look_39 : decode cX7_look 39 = .ok (.athrow, 1) := by decide +kernel
theorem dX7_look_40 : decode cX7_look 40 = .ok (.aload_n 0, 1) := by decide +kernel
theorem dX7_look_41 : decode cX7_look 41 = .ok (.getfield 21, 3) := by decide +kernel
theorem dX7_look_44 : decode cX7_look 44 = .ok (.getfield 110, 3) := by decide +kernel
theorem dX7_look_47 : decode cX7_look 47 = .ok (.iload_n 1, 1) := by decide +kernel
theorem dX7_look_48 : decode cX7_look 48 = .ok (.aaload, 1) := by decide +kernel
theorem dX7_look_49 : decode cX7_look 49 = .ok (.astore_n 3, 1) := by decide +kernel
theorem dX7_look_50 : decode cX7_look 50 = .ok (.iload_n 2, 1) := by decide +kernel
theorem dX7_look_51 : decode cX7_look 51 = .ok (.tableswitch 40 0 2 #[25, 30, 35], 25) := by decide +kernel
theorem dX7_look_76 : decode cX7_look 76 = .ok (.aload_n 3, 1) := by decide +kernel
theorem dX7_look_77 : decode cX7_look 77 = .ok (.getfield 138, 3) := by decide +kernel
theorem dX7_look_80 : decode cX7_look 80 = .ok (.ireturn, 1) := by decide +kernel
theorem dX7_look_81 : decode cX7_look 81 = .ok (.aload_n 3, 1) := by decide +kernel
theorem dX7_look_82 : decode cX7_look 82 = .ok (.getfield 141, 3) := by decide +kernel
theorem dX7_look_85 : decode cX7_look 85 = .ok (.ireturn, 1) := by decide +kernel
theorem dX7_look_86 : decode cX7_look 86 = .ok (.aload_n 3, 1) := by decide +kernel
theorem dX7_look_87 : decode cX7_look 87 = .ok (.getfield 144, 3) := by decide +kernel
theorem dX7_look_90 : decode cX7_look 90 = .ok (.ireturn, 1) := by decide +kernel
theorem dX7_look_91 : decode cX7_look 91 = .ok (.aload_n 3, 1) := by decide +kernel
theorem dX7_look_92 : decode cX7_look 92 = .ok (.getfield 114, 3) := by decide +kernel
theorem dX7_look_95 : decode cX7_look 95 = .ok (.ireturn, 1) := by decide +kernel
set_option maxRecDepth 20000 in
theorem ggX7_cell_X4_has : GoodIn wsX7_cell wsX4_has := goodIn_r _ [9, 10, 11, 12, 13, 30, 31] (by decide +kernel) (by decide +kernel)
set_option maxRecDepth 20000 in
theorem gX7_cell_X4_has : GoodIn wsX7_cell (wsV RX7 105 RX4 yX4_has wsX4_has) := goodIn_app (goodIn_of _ (by decide +kernel)) ggX7_cell_X4_has
set_option maxRecDepth 20000 in
theorem ggX7_cell_X7_within : GoodIn wsX7_cell wsX7_within := goodIn_r _ [13] (by decide +kernel) (by decide +kernel)
set_option maxRecDepth 20000 in
theorem gX7_cell_X7_within : GoodIn wsX7_cell (va_wsS RX7 97 yX7_within wsX7_within) := goodIn_app (goodIn_of _ (by decide +kernel)) ggX7_cell_X7_within
theorem dX7_cell_0 : decode cX7_cell 0 = .ok (.aload_n 0, 1) := by decide +kernel
theorem dX7_cell_1 : decode cX7_cell 1 = .ok (.getfield 21, 3) := by decide +kernel
theorem dX7_cell_4 : decode cX7_cell 4 = .ok (.iload_n 1, 1) := by decide +kernel
theorem dX7_cell_5 : decode cX7_cell 5 = .ok (.invokevirtual 105, 3) := by decide +kernel
theorem dX7_cell_8 : decode cX7_cell 8 = .ok (.ifCond .ne 5, 3) := by decide +kernel
theorem dX7_cell_11 : decode cX7_cell 11 = .ok (.iconst (-1), 1) := by decide +kernel
theorem dX7_cell_12 : decode cX7_cell 12 = .ok (.ireturn, 1) := by decide +kernel
theorem dX7_cell_13 : decode cX7_cell 13 = .ok (.aload_n 0, 1) := by decide +kernel
theorem dX7_cell_14 : decode cX7_cell 14 = .ok (.getfield 21, 3) := by decide +kernel
theorem dX7_cell_17 : decode cX7_cell 17 = .ok (.getfield 110, 3) := by decide +kernel
theorem dX7_cell_20 : decode cX7_cell 20 = .ok (.iload_n 1, 1) := by decide +kernel
theorem dX7_cell_21 : decode cX7_cell 21 = .ok (.aaload, 1) := by decide +kernel
theorem dX7_cell_22 : decode cX7_cell 22 = .ok (.astore_n 3, 1) := by decide +kernel
theorem dX7_cell_23 : decode cX7_cell 23 = .ok (.iload_n 2, 1) := by decide +kernel
theorem dX7_cell_24 : decode cX7_cell 24 = .ok (.iconst 0, 1) := by decide +kernel
theorem dX7_cell_25 : decode cX7_cell 25 = .ok (.aload_n 3, 1) := by decide +kernel
theorem dX7_cell_26 : decode cX7_cell 26 = .ok (.getfield 114, 3) := by decide +kernel
theorem dX7_cell_29 : decode cX7_cell 29 = .ok (.iconst 1, 1) := by decide +kernel
theorem dX7_cell_30 : decode cX7_cell 30 = .ok (.isub, 1) := by decide +kernel
theorem dX7_cell_31 : decode cX7_cell 31 = .ok (.invokestatic 97, 3) := by decide +kernel
theorem dX7_cell_34 : decode cX7_cell 34 = .ok (.ifCond .eq 12, 3) := by decide +kernel
theorem dX7_cell_37 : decode cX7_cell 37 = .ok (.aload_n 3, 1) := by decide +kernel
theorem dX7_cell_38 : decode cX7_cell 38 = .ok (.getfield 147, 3) := by decide +kernel
theorem dX7_cell_41 : decode cX7_cell 41 = .ok (.iload_n 2, 1) := by decide +kernel
theorem dX7_cell_42 : decode cX7_cell 42 = .ok (.iaload, 1) := by decide +kernel
theorem dX7_cell_43 : decode cX7_cell 43 = .ok (.goto 4, 3) := by decide +kernel
theorem dX7_cell_46 : decode cX7_cell 46 = .ok (.iconst (-1), 1) := by decide +kernel
theorem dX7_cell_47 : decode cX7_cell 47 = .ok (.ireturn, 1) := by decide +kernel
set_option maxRecDepth 20000 in
theorem ggX7_begin_X4_has : GoodIn wsX7_begin wsX4_has := goodIn_r _ [7, 8, 9, 10, 11, 40, 41] (by decide +kernel) (by decide +kernel)
set_option maxRecDepth 20000 in
theorem gX7_begin_X4_has : GoodIn wsX7_begin (wsV RX7 105 RX4 yX4_has wsX4_has) := goodIn_app (goodIn_of _ (by decide +kernel)) ggX7_begin_X4_has
set_option maxRecDepth 20000 in
theorem ggX7_begin_X7_within : GoodIn wsX7_begin wsX7_within := goodIn_r _ [11] (by decide +kernel) (by decide +kernel)
set_option maxRecDepth 20000 in
theorem gX7_begin_X7_within : GoodIn wsX7_begin (va_wsS RX7 97 yX7_within wsX7_within) := goodIn_app (goodIn_of _ (by decide +kernel)) ggX7_begin_X7_within
set_option maxRecDepth 20000 in
theorem ggX7_begin_X5_drop : GoodIn wsX7_begin wsX5_drop := goodIn_r _ [17, 18, 42, 43, 44] (by decide +kernel) (by decide +kernel)
set_option maxRecDepth 20000 in
theorem gX7_begin_X5_drop : GoodIn wsX7_begin (wsV RX7 94 RX5 yX5_drop wsX5_drop) := goodIn_app (goodIn_of _ (by decide +kernel)) ggX7_begin_X5_drop
set_option maxRecDepth 20000 in
theorem ggX7_begin_X5_startAt : GoodIn wsX7_begin wsX5_startAt := goodIn_r _ [22, 23, 24, 18, 42, 43, 44] (by decide +kernel) (by decide +kernel)
set_option maxRecDepth 20000 in
theorem gX7_begin_X5_startAt : GoodIn wsX7_begin (wsV RX7 150 RX5 yX5_startAt wsX5_startAt) := goodIn_app (goodIn_of _ (by decide +kernel)) ggX7_begin_X5_startAt
theorem dX7_begin_0 : decode cX7_begin 0 = .ok (.aload_n 0, 1) := by decide +kernel
theorem dX7_begin_1 : decode cX7_begin 1 = .ok (.getfield 21, 3) := by decide +kernel
theorem dX7_begin_4 : decode cX7_begin 4 = .ok (.iload_n 1, 1) := by decide +kernel
theorem dX7_begin_5 : decode cX7_begin 5 = .ok (.invokevirtual 105, 3) := by decide +kernel
theorem dX7_begin_8 : decode cX7_begin 8 = .ok (.ifCond .eq 13, 3) := by decide +kernel
theorem dX7_begin_11 : decode cX7_begin 11 = .ok (.iload_n 2, 1) := by decide +kernel
theorem dX7_begin_12 : decode cX7_begin 12 = .ok (.iconst 0, 1) := by decide +kernel
theorem dX7_begin_13 : decode cX7_begin 13 = .ok (.bipush 24, 2) := by decide +kernel
theorem dX7_begin_15 : decode cX7_begin 15 = .ok (.invokestatic 97, 3) := by decide +kernel
theorem dX7_begin_18 : decode cX7_begin 18 = .ok (.ifCond .ne 12, 3) := by decide +kernel
theorem dX7_begin_21 : decode cX7_begin 21 = .ok (.aload_n 0, 1) := by decide +kernel
theorem dX7_begin_22 : decode cX7_begin 22 = .ok (.getfield 48, 3) := by decide +kernel
theorem dX7_begin_25 : decode cX7_begin 25 = .ok (.invokevirtual 94, 3) := by decide +kernel
theorem dX7_begin_28 : decode cX7_begin 28 = .ok (.iconst 0, 1) := by decide +kernel
theorem dX7_begin_29 : decode cX7_begin 29 = .ok (.ireturn, 1) := by decide +kernel
theorem dX7_begin_30 : decode cX7_begin 30 = .ok (.aload_n 0, 1) := by decide +kernel
theorem dX7_begin_31 : decode cX7_begin 31 = .ok (.getfield 48, 3) := by decide +kernel
theorem dX7_begin_34 : decode cX7_begin 34 = .ok (.iload_n 1, 1) := by decide +kernel
theorem dX7_begin_35 : decode cX7_begin 35 = .ok (.iload_n 2, 1) := by decide +kernel
theorem dX7_begin_36 : decode cX7_begin 36 = .ok (.invokevirtual 150, 3) := by decide +kernel
theorem dX7_begin_39 : decode cX7_begin 39 = .ok (.iconst 1, 1) := by decide +kernel
theorem dX7_begin_40 : decode cX7_begin 40 = .ok (.ireturn, 1) := by decide +kernel
set_option maxRecDepth 20000 in
theorem ggX7_next_X7_within : GoodIn wsX7_next wsX7_within := goodIn_r _ [8] (by decide +kernel) (by decide +kernel)
set_option maxRecDepth 20000 in
theorem gX7_next_X7_within : GoodIn wsX7_next (va_wsS RX7 97 yX7_within wsX7_within) := goodIn_app (goodIn_of _ (by decide +kernel)) ggX7_next_X7_within
set_option maxRecDepth 20000 in
theorem ggX7_next_X5_end : GoodIn wsX7_next wsX5_end := goodIn_r _ [13, 14, 15, 36, 37, 38] (by decide +kernel) (by decide +kernel)
set_option maxRecDepth 20000 in
theorem gX7_next_X5_end : GoodIn wsX7_next (wsV RX7 154 RX5 yX5_end wsX5_end) := goodIn_app (goodIn_of _ (by decide +kernel)) ggX7_next_X5_end
set_option maxRecDepth 20000 in
theorem ggX7_next_X5_add : GoodIn wsX7_next wsX5_add := goodIn_r _ [19, 15, 20, 36, 37, 38] (by decide +kernel) (by decide +kernel)
set_option maxRecDepth 20000 in
theorem gX7_next_X5_add : GoodIn wsX7_next (wsV RX7 161 RX5 yX5_add wsX5_add) := goodIn_app (goodIn_of _ (by decide +kernel)) ggX7_next_X5_add
theorem dX7_next_0 : decode cX7_next 0 = .ok (.aload_n 0, 1) := by decide +kernel
theorem dX7_next_1 : decode cX7_next 1 = .ok (.getfield 48, 3) := by decide +kernel
theorem dX7_next_4 : decode cX7_next 4 = .ok (.getfield 153, 3) := by decide +kernel
theorem dX7_next_7 : decode cX7_next 7 = .ok (.ifCond .eq 30, 3) := by decide +kernel
theorem dX7_next_10 : decode cX7_next 10 = .ok (.iload_n 1, 1) := by decide +kernel
theorem dX7_next_11 : decode cX7_next 11 = .ok (.iconst 0, 1) := by decide +kernel
theorem dX7_next_12 : decode cX7_next 12 = .ok (.bipush 24, 2) := by decide +kernel
theorem dX7_next_14 : decode cX7_next 14 = .ok (.invokestatic 97, 3) := by decide +kernel
theorem dX7_next_17 : decode cX7_next 17 = .ok (.ifCond .eq 20, 3) := by decide +kernel
theorem dX7_next_20 : decode cX7_next 20 = .ok (.aload_n 0, 1) := by decide +kernel
theorem dX7_next_21 : decode cX7_next 21 = .ok (.getfield 48, 3) := by decide +kernel
theorem dX7_next_24 : decode cX7_next 24 = .ok (.invokevirtual 154, 3) := by decide +kernel
theorem dX7_next_27 : decode cX7_next 27 = .ok (.aload_n 0, 1) := by decide +kernel
theorem dX7_next_28 : decode cX7_next 28 = .ok (.getfield 21, 3) := by decide +kernel
theorem dX7_next_31 : decode cX7_next 31 = .ok (.getfield 158, 3) := by decide +kernel
theorem dX7_next_34 : decode cX7_next 34 = .ok (.if_icmp .lt 5, 3) := by decide +kernel
theorem dX7_next_37 : decode cX7_next 37 = .ok (.iconst (-1), 1) := by decide +kernel
theorem dX7_next_38 : decode cX7_next 38 = .ok (.ireturn, 1) := by decide +kernel
theorem dX7_next_39 : decode cX7_next 39 = .ok (.aload_n 0, 1) := by decide +kernel
theorem dX7_next_40 : decode cX7_next 40 = .ok (.getfield 48, 3) := by decide +kernel
theorem dX7_next_43 : decode cX7_next 43 = .ok (.iload_n 1, 1) := by decide +kernel
theorem dX7_next_44 : decode cX7_next 44 = .ok (.invokevirtual 161, 3) := by decide +kernel
theorem dX7_next_47 : decode cX7_next 47 = .ok (.aload_n 0, 1) := by decide +kernel
theorem dX7_next_48 : decode cX7_next 48 = .ok (.getfield 48, 3) := by decide +kernel
theorem dX7_next_51 : decode cX7_next 51 = .ok (.getfield 153, 3) := by decide +kernel
theorem dX7_next_54 : decode cX7_next 54 = .ok (.ireturn, 1) := by decide +kernel
set_option maxRecDepth 20000 in
theorem ggX7_line_X4_bears : GoodIn wsX7_line wsX4_bears := goodIn_r _ [7, 8, 9, 10, 11, 12, 13, 14, 15, 16, 17, 18, 19, 20, 21, 22, 23, 6, 24, 25, 26, 27, 28, 29, 30, 31, 32, 33, 34, 35, 36, 37, 38, 39, 40, 41, 42, 43, 44, 45, 46, 47, 48, 49, 50, 51, 52, 53, 54, 55, 56, 57, 58, 59, 60, 76, 77, 78, 79, 80, 81, 82, 83, 84, 85, 86, 87, 88, 89, 90, 91, 92, 93, 94] (by decide +kernel) (by decide +kernel)
set_option maxRecDepth 20000 in
theorem gX7_line_X4_bears : GoodIn wsX7_line (wsV RX7 163 RX4 yX4_bears wsX4_bears) := goodIn_app (goodIn_of _ (by decide +kernel)) ggX7_line_X4_bears
theorem dX7_line_0 : decode cX7_line 0 = .ok (.aload_n 0, 1) := by decide +kernel
theorem dX7_line_1 : decode cX7_line 1 = .ok (.getfield 21, 3) := by decide +kernel
theorem dX7_line_4 : decode cX7_line 4 = .ok (.aload_n 0, 1) := by decide +kernel
theorem dX7_line_5 : decode cX7_line 5 = .ok (.getfield 48, 3) := by decide +kernel
theorem dX7_line_8 : decode cX7_line 8 = .ok (.invokevirtual 163, 3) := by decide +kernel
theorem dX7_line_11 : decode cX7_line 11 = .ok (.ifCond .eq 7, 3) := by decide +kernel
theorem dX7_line_14 : decode cX7_line 14 = .ok (.iconst 1, 1) := by decide +kernel
theorem dX7_line_15 : decode cX7_line 15 = .ok (.goto 4, 3) := by decide +kernel
theorem dX7_line_18 : decode cX7_line 18 = .ok (.iconst 0, 1) := by decide +kernel
theorem dX7_line_19 : decode cX7_line 19 = .ok (.ireturn, 1) := by decide +kernel
theorem dX7_share_0 : decode cX7_share 0 = .ok (.iload_n 1, 1) := by decide +kernel
theorem dX7_share_1 : decode cX7_share 1 = .ok (.iconst 0, 1) := by decide +kernel
theorem dX7_share_2 : decode cX7_share 2 = .ok (.iconst 3, 1) := by decide +kernel
theorem dX7_share_3 : decode cX7_share 3 = .ok (.invokestatic 97, 3) := by decide +kernel
theorem dX7_share_6 : decode cX7_share 6 = .ok (.ifCond .eq 17, 3) := by decide +kernel
theorem dX7_share_9 : decode cX7_share 9 = .ok (.aload_n 0, 1) := by decide +kernel
theorem dX7_share_10 : decode cX7_share 10 = .ok (.getfield 21, 3) := by decide +kernel
theorem dX7_share_13 : decode cX7_share 13 = .ok (.aload_n 0, 1) := by decide +kernel
theorem dX7_share_14 : decode cX7_share 14 = .ok (.getfield 48, 3) := by decide +kernel
theorem dX7_share_17 : decode cX7_share 17 = .ok (.invokevirtual 163, 3) := by decide +kernel
theorem dX7_share_20 : decode cX7_share 20 = .ok (.ifCond .ne 13, 3) := by decide +kernel
theorem dX7_share_23 : decode cX7_share 23 = .ok (.new 133, 3) := by decide +kernel
theorem dX7_share_26 : decode cX7_share 26 = .ok (.dup, 1) := by decide +kernel
theorem dX7_share_27 : decode cX7_share 27 = .ok (.ldc 167, 2) := by decide +kernel
theorem dX7_share_29 : decode cX7_share 29 = .ok (.invokespecial 137, 3) := by decide +kernel
theorem dX7_share_32 : decode cX7_share 32 = .ok (.athrow, 1) := by decide +kernel
theorem dX7_share_33 : decode cX7_share 33 = .ok (.aload_n 0, 1) := by decide +kernel
theorem dX7_share_34 : decode cX7_share 34 = .ok (.getfield 21, 3) := by decide +kernel
theorem dX7_share_37 : decode cX7_share 37 = .ok (.aload_n 0, 1) := by decide +kernel
theorem dX7_share_38 : decode cX7_share 38 = .ok (.getfield 48, 3) := by decide +kernel
theorem dX7_share_41 : decode cX7_share 41 = .ok (.invokevirtual 169, 3) := by decide +kernel
theorem dX7_share_44 : decode cX7_share 44 = .ok (.lstore_n 2, 1) := by decide +kernel
theorem dX7_share_45 : decode cX7_share 45 = .ok (.aload_n 0, 1) := by decide +kernel
theorem dX7_share_46 : decode cX7_share 46 = .ok (.getfield 21, 3) := by decide +kernel
theorem dX7_share_49 : decode cX7_share 49 = .ok (.aload_n 0, 1) := by decide +kernel
theorem dX7_share_50 : decode cX7_share 50 = .ok (.getfield 48, 3) := by decide +kernel
theorem dX7_share_53 : decode cX7_share 53 = .ok (.invokevirtual 173, 3) := by decide +kernel
theorem dX7_share_56 : decode cX7_share 56 = .ok (.lstore 4, 2) := by decide +kernel
theorem dX7_share_58 : decode cX7_share 58 = .ok (.iload_n 1, 1) := by decide +kernel
theorem dX7_share_59 : decode cX7_share 59 = .ok (.ifCond .ne 5, 3) := by decide +kernel
theorem dX7_share_62 : decode cX7_share 62 = .ok (.lload_n 2, 1) := by decide +kernel
theorem dX7_share_63 : decode cX7_share 63 = .ok (.lreturn, 1) := by decide +kernel
theorem dX7_share_64 : decode cX7_share 64 = .ok (.iload_n 1, 1) := by decide +kernel
theorem dX7_share_65 : decode cX7_share 65 = .ok (.iconst 1, 1) := by decide +kernel
theorem dX7_share_66 : decode cX7_share 66 = .ok (.if_icmp .ne 6, 3) := by decide +kernel
theorem dX7_share_69 : decode cX7_share 69 = .ok (.lload 4, 2) := by decide +kernel
theorem dX7_share_71 : decode cX7_share 71 = .ok (.lreturn, 1) := by decide +kernel
theorem dX7_share_72 : decode cX7_share 72 = .ok (.lload 4, 2) := by decide +kernel
theorem dX7_share_74 : decode cX7_share 74 = .ok (.lconst 0, 1) := by decide +kernel
theorem dX7_share_75 : decode cX7_share 75 = .ok (.lcmp, 1) := by decide +kernel
theorem dX7_share_76 : decode cX7_share 76 = .ok (.ifCond .gt 13, 3) := by decide +kernel
theorem dX7_share_79 : decode cX7_share 79 = .ok (.new 133, 3) := by decide +kernel
theorem dX7_share_82 : decode cX7_share 82 = .ok (.dup, 1) := by decide +kernel
theorem dX7_share_83 : decode cX7_share 83 = .ok (.ldc 176, 2) := by decide +kernel
theorem dX7_share_85 : decode cX7_share 85 = .ok (.invokespecial 137, 3) := by decide +kernel
theorem dX7_share_88 : decode cX7_share 88 = .ok (.athrow, 1) := by decide +kernel
theorem dX7_share_89 : decode cX7_share 89 = .ok (.aload_n 0, 1) := by decide +kernel
theorem dX7_share_90 : decode cX7_share 90 = .ok (.getfield 62, 3) := by decide +kernel
theorem dX7_share_93 : decode cX7_share 93 = .ok (.lload_n 2, 1) := by decide +kernel
theorem dX7_share_94 : decode cX7_share 94 = .ok (.lload 4, 2) := by decide +kernel
theorem dX7_share_96 : decode cX7_share 96 = .ok (.invokevirtual 178, 3) := by decide +kernel
theorem dX7_share_99 : decode cX7_share 99 = .ok (.iload_n 1, 1) := by decide +kernel
theorem dX7_share_100 : decode cX7_share 100 = .ok (.iconst 2, 1) := by decide +kernel
theorem dX7_share_101 : decode cX7_share 101 = .ok (.if_icmp .ne 13, 3) := by decide +kernel
theorem dX7_share_104 : decode cX7_share 104 = .ok (.aload_n 0, 1) := by decide +kernel
theorem dX7_share_105 : decode cX7_share 105 = .ok (.getfield 62, 3) := by decide +kernel
theorem dX7_share_108 : decode cX7_share 108 = .ok (.getfield 182, 3) := by decide +kernel
theorem dX7_share_111 : decode cX7_share 111 = .ok (.goto 10, 3) := by decide +kernel
theorem dX7_share_114 : decode cX7_share 114 = .ok (.aload_n 0, 1) := by decide +kernel
theorem dX7_share_115 : decode cX7_share 115 = .ok (.getfield 62, 3) := by decide +kernel
theorem dX7_share_118 : decode cX7_share 118 = .ok (.getfield 186, 3) := by decide +kernel
theorem dX7_share_121 : decode cX7_share 121 = .ok (.lreturn, 1) := by decide +kernel
set_option maxRecDepth 20000 in
theorem ggX7_worst_X7_within : GoodIn wsX7_worst wsX7_within := goodIn_r _ [11] (by decide +kernel) (by decide +kernel)
set_option maxRecDepth 20000 in
theorem gX7_worst_X7_within : GoodIn wsX7_worst (va_wsS RX7 97 yX7_within wsX7_within) := goodIn_app (goodIn_of _ (by decide +kernel)) ggX7_worst_X7_within
set_option maxRecDepth 20000 in
theorem ggX7_worst_X7_knowWorst : GoodIn wsX7_worst wsX7_knowWorst := goodIn_r _ [15, 16, 17, 18, 5, 2, 19, 20, 21, 22, 23, 24, 25, 26, 27, 28, 29, 30, 31, 32, 33, 34, 35, 36, 37, 38, 39, 40, 41, 42, 43, 44, 45, 46, 47, 48, 49, 50, 51, 52, 53, 54, 55, 56, 57, 58, 59, 60, 61, 62, 63, 64, 65, 66, 67, 68, 69, 70, 71, 72, 73, 74, 75, 76, 77, 78, 79, 80, 81, 82, 83, 84, 85, 86, 87, 88, 89, 90, 91, 92, 93, 94, 95, 96, 97, 98, 99, 100, 101, 102, 103, 104, 105, 106, 107, 108, 109, 110, 111, 112, 113, 114, 115, 116, 117, 118, 119, 120, 121, 122, 123, 124, 125, 126, 127, 128, 129, 130, 131, 132, 133, 134, 135, 136, 137, 138, 139, 140, 141, 142, 143, 144, 145, 146, 147, 148, 149, 150, 151, 152, 153, 154, 155, 156, 157, 158, 159, 160, 161, 162, 163, 164, 165, 166, 167, 168, 169, 170, 171, 172, 173, 174, 175, 176, 177, 178, 179, 180, 185, 186, 187, 188, 189, 190, 191, 192, 193, 194, 195, 196, 197, 198, 199, 205, 206, 207, 208, 209, 210, 211, 212, 213, 214, 215, 216, 217, 218, 219, 220, 221, 222, 223, 224, 225, 226, 227, 200, 201, 202, 203, 204] (by decide +kernel) (by decide +kernel)
set_option maxRecDepth 20000 in
theorem gX7_worst_X7_knowWorst : GoodIn wsX7_worst (wsV RX7 189 RX7 yX7_knowWorst wsX7_knowWorst) := goodIn_app (goodIn_of _ (by decide +kernel)) ggX7_worst_X7_knowWorst
set_option maxRecDepth 20000 in
theorem ggX7_worst_X5_end : GoodIn wsX7_worst wsX5_end := goodIn_r _ [184, 123, 125, 202, 203, 204] (by decide +kernel) (by decide +kernel)
set_option maxRecDepth 20000 in
theorem gX7_worst_X5_end : GoodIn wsX7_worst (wsV RX7 154 RX5 yX5_end wsX5_end) := goodIn_app (goodIn_of _ (by decide +kernel)) ggX7_worst_X5_end
theorem dX7_worst_0 : decode cX7_worst 0 = .ok (.iload_n 1, 1) := by decide +kernel
theorem dX7_worst_1 : decode cX7_worst 1 = .ok (.iconst 0, 1) := by decide +kernel
theorem dX7_worst_2 : decode cX7_worst 2 = .ok (.iconst 4, 1) := by decide +kernel
theorem dX7_worst_3 : decode cX7_worst 3 = .ok (.invokestatic 97, 3) := by decide +kernel
theorem dX7_worst_6 : decode cX7_worst 6 = .ok (.ifCond .eq 10, 3) := by decide +kernel
theorem dX7_worst_9 : decode cX7_worst 9 = .ok (.aload_n 0, 1) := by decide +kernel
theorem dX7_worst_10 : decode cX7_worst 10 = .ok (.invokevirtual 189, 3) := by decide +kernel
theorem dX7_worst_13 : decode cX7_worst 13 = .ok (.ifCond .ne 7, 3) := by decide +kernel
theorem dX7_worst_16 : decode cX7_worst 16 = .ok (.ldc2_w 193, 3) := by decide +kernel
theorem dX7_worst_19 : decode cX7_worst 19 = .ok (.lreturn, 1) := by decide +kernel
theorem dX7_worst_20 : decode cX7_worst 20 = .ok (.iload_n 1, 1) := by decide +kernel
theorem dX7_worst_21 : decode cX7_worst 21 = .ok (.tableswitch 65 0 3 #[31, 39, 47, 56], 31) := by decide +kernel
theorem dX7_worst_52 : decode cX7_worst 52 = .ok (.aload_n 0, 1) := by decide +kernel
theorem dX7_worst_53 : decode cX7_worst 53 = .ok (.getfield 58, 3) := by decide +kernel
theorem dX7_worst_56 : decode cX7_worst 56 = .ok (.getfield 182, 3) := by decide +kernel
theorem dX7_worst_59 : decode cX7_worst 59 = .ok (.lreturn, 1) := by decide +kernel
theorem dX7_worst_60 : decode cX7_worst 60 = .ok (.aload_n 0, 1) := by decide +kernel
theorem dX7_worst_61 : decode cX7_worst 61 = .ok (.getfield 58, 3) := by decide +kernel
theorem dX7_worst_64 : decode cX7_worst 64 = .ok (.getfield 186, 3) := by decide +kernel
theorem dX7_worst_67 : decode cX7_worst 67 = .ok (.lreturn, 1) := by decide +kernel
theorem dX7_worst_68 : decode cX7_worst 68 = .ok (.aload_n 0, 1) := by decide +kernel
theorem dX7_worst_69 : decode cX7_worst 69 = .ok (.getfield 52, 3) := by decide +kernel
theorem dX7_worst_72 : decode cX7_worst 72 = .ok (.getfield 195, 3) := by decide +kernel
theorem dX7_worst_75 : decode cX7_worst 75 = .ok (.i2l, 1) := by decide +kernel
theorem dX7_worst_76 : decode cX7_worst 76 = .ok (.lreturn, 1) := by decide +kernel
theorem dX7_worst_77 : decode cX7_worst 77 = .ok (.aload_n 0, 1) := by decide +kernel
theorem dX7_worst_78 : decode cX7_worst 78 = .ok (.getfield 52, 3) := by decide +kernel
theorem dX7_worst_81 : decode cX7_worst 81 = .ok (.invokevirtual 154, 3) := by decide +kernel
theorem dX7_worst_84 : decode cX7_worst 84 = .ok (.i2l, 1) := by decide +kernel
theorem dX7_worst_85 : decode cX7_worst 85 = .ok (.lreturn, 1) := by decide +kernel
end
section
theorem dX7_worst_86 : decode cX7_worst 86 = .ok (.aload_n 0, 1) := by decide +kernel
theorem dX7_worst_87 : decode cX7_worst 87 = .ok (.getfield 52, 3) := by decide +kernel
theorem dX7_worst_90 : decode cX7_worst 90 = .ok (.getfield 153, 3) := by decide +kernel
theorem dX7_worst_93 : decode cX7_worst 93 = .ok (.i2l, 1) := by decide +kernel
theorem dX7_worst_94 : decode cX7_worst 94 = .ok (.lreturn, 1) := by decide +kernel
set_option maxRecDepth 20000 in
theorem ggX7_height_X7_knowWorst : GoodIn wsX7_height wsX7_knowWorst := goodIn_r _ [8, 9, 10, 11, 1, 12, 13, 14, 15, 16, 17, 18, 19, 20, 21, 22, 23, 24, 25, 26, 27, 28, 29, 30, 31, 32, 33, 34, 35, 36, 37, 38, 39, 40, 41, 42, 43, 44, 45, 46, 47, 48, 49, 50, 51, 52, 53, 54, 55, 56, 57, 58, 59, 60, 61, 62, 63, 64, 65, 66, 67, 68, 69, 70, 71, 72, 73, 74, 75, 76, 77, 78, 79, 80, 81, 82, 83, 84, 85, 86, 87, 88, 89, 90, 91, 92, 93, 94, 95, 96, 97, 98, 99, 100, 101, 102, 103, 104, 105, 106, 107, 108, 109, 110, 111, 112, 113, 114, 115, 116, 117, 118, 119, 120, 121, 122, 123, 124, 125, 126, 127, 128, 129, 130, 131, 132, 133, 134, 135, 136, 137, 138, 139, 140, 141, 142, 143, 144, 145, 146, 147, 148, 149, 150, 151, 152, 153, 154, 155, 156, 157, 158, 159, 160, 161, 162, 163, 164, 165, 166, 167, 168, 169, 170, 171, 172, 173, 174, 178, 179, 180, 181, 182, 183, 184, 185, 186, 187, 188, 189, 190, 191, 192, 196, 197, 198, 199, 200, 201, 202, 203, 204, 205, 206, 207, 208, 209, 210, 211, 212, 213, 214, 215, 216, 217, 218, 219, 220, 193, 194, 195] (by decide +kernel) (by decide +kernel)
set_option maxRecDepth 20000 in
theorem gX7_height_X7_knowWorst : GoodIn wsX7_height (wsV RX7 189 RX7 yX7_knowWorst wsX7_knowWorst) := goodIn_app (goodIn_of _ (by decide +kernel)) ggX7_height_X7_knowWorst
set_option maxRecDepth 20000 in
theorem ggX7_height_X7_within : GoodIn wsX7_height wsX7_within := goodIn_r _ [177] (by decide +kernel) (by decide +kernel)
set_option maxRecDepth 20000 in
theorem gX7_height_X7_within : GoodIn wsX7_height (va_wsS RX7 97 yX7_within wsX7_within) := goodIn_app (goodIn_of _ (by decide +kernel)) ggX7_height_X7_within
theorem dX7_height_0 : decode cX7_height 0 = .ok (.aload_n 0, 1) := by decide +kernel
theorem dX7_height_1 : decode cX7_height 1 = .ok (.invokevirtual 189, 3) := by decide +kernel
theorem dX7_height_4 : decode cX7_height 4 = .ok (.ifCond .eq 20, 3) := by decide +kernel
theorem dX7_height_7 : decode cX7_height 7 = .ok (.iload_n 1, 1) := by decide +kernel
theorem dX7_height_8 : decode cX7_height 8 = .ok (.iconst 0, 1) := by decide +kernel
theorem dX7_height_9 : decode cX7_height 9 = .ok (.aload_n 0, 1) := by decide +kernel
theorem dX7_height_10 : decode cX7_height 10 = .ok (.getfield 52, 3) := by decide +kernel
theorem dX7_height_13 : decode cX7_height 13 = .ok (.getfield 153, 3) := by decide +kernel
theorem dX7_height_16 : decode cX7_height 16 = .ok (.iconst 1, 1) := by decide +kernel
theorem dX7_height_17 : decode cX7_height 17 = .ok (.isub, 1) := by decide +kernel
theorem dX7_height_18 : decode cX7_height 18 = .ok (.invokestatic 97, 3) := by decide +kernel
theorem dX7_height_21 : decode cX7_height 21 = .ok (.ifCond .ne 5, 3) := by decide +kernel
theorem dX7_height_24 : decode cX7_height 24 = .ok (.iconst (-1), 1) := by decide +kernel
theorem dX7_height_25 : decode cX7_height 25 = .ok (.ireturn, 1) := by decide +kernel
theorem dX7_height_26 : decode cX7_height 26 = .ok (.aload_n 0, 1) := by decide +kernel
theorem dX7_height_27 : decode cX7_height 27 = .ok (.getfield 52, 3) := by decide +kernel
theorem dX7_height_30 : decode cX7_height 30 = .ok (.getfield 198, 3) := by decide +kernel
theorem dX7_height_33 : decode cX7_height 33 = .ok (.iload_n 1, 1) := by decide +kernel
theorem dX7_height_34 : decode cX7_height 34 = .ok (.iaload, 1) := by decide +kernel
theorem dX7_height_35 : decode cX7_height 35 = .ok (.ireturn, 1) := by decide +kernel
set_option maxRecDepth 20000 in
theorem ggX7_rise_X7_isRatio : GoodIn wsX7_rise wsX7_isRatio := goodIn_r _ [5, 6, 7, 4, 8] (by decide +kernel) (by decide +kernel)
set_option maxRecDepth 20000 in
theorem gX7_rise_X7_isRatio : GoodIn wsX7_rise (va_wsS RX7 201 yX7_isRatio wsX7_isRatio) := goodIn_app (goodIn_of _ (by decide +kernel)) ggX7_rise_X7_isRatio
set_option maxRecDepth 20000 in
theorem ggX7_rise_X4_reckon : GoodIn wsX7_rise wsX4_reckon := goodIn_r _ [13, 14, 15, 16, 17, 18, 19, 20, 21, 22, 23, 24, 25, 26, 27, 28, 29, 30, 31, 32, 33, 34, 35, 36, 37, 38, 39, 40, 41, 146, 147, 148, 149, 150, 151, 152, 153, 154, 155, 156, 157, 158, 159, 160, 161] (by decide +kernel) (by decide +kernel)
set_option maxRecDepth 20000 in
theorem gX7_rise_X4_reckon : GoodIn wsX7_rise (wsV RX7 205 RX4 yX4_reckon wsX4_reckon) := goodIn_app (goodIn_of _ (by decide +kernel)) ggX7_rise_X4_reckon
set_option maxRecDepth 20000 in
theorem ggX7_rise_X7_standsRisen : GoodIn wsX7_rise wsX7_standsRisen := goodIn_r _ [45, 46, 1, 47, 48, 49, 50, 12, 51, 14, 15, 52, 53, 54, 19, 55, 23, 34, 24, 41, 22, 56, 57, 58, 59, 28, 21, 60, 61, 62, 63, 64, 65, 66, 37, 67, 68, 69, 70, 71, 9, 10, 11, 13, 16, 17, 18, 20, 25, 26, 27, 29, 30, 31, 32, 33, 35, 36, 38, 39, 40, 72, 73, 74, 75, 76, 77, 78, 79, 80, 81, 82, 83, 84, 85, 86, 87, 88, 89, 90, 91, 92, 93, 94, 95, 96, 97, 98, 99, 100, 101, 102, 103, 104, 105, 106, 107, 108, 109, 110, 111, 112, 113, 114, 115, 116, 117, 118, 119, 120, 121, 122, 123, 124, 125, 126, 127, 128, 129, 130, 131, 132, 133, 134, 135, 136, 137, 138, 139, 140, 141, 142, 143, 144, 145, 146, 147, 148, 149, 150, 151, 152, 153, 154, 155, 156, 157, 158, 159, 160, 161, 162, 163, 164, 165, 166, 167, 168] (by decide +kernel) (by decide +kernel)
set_option maxRecDepth 20000 in
theorem gX7_rise_X7_standsRisen : GoodIn wsX7_rise (wsV RX7 208 RX7 yX7_standsRisen wsX7_standsRisen) := goodIn_app (goodIn_of _ (by decide +kernel)) ggX7_rise_X7_standsRisen
theorem dX7_rise_0 : decode cX7_rise 0 = .ok (.iload_n 1, 1) := by decide +kernel
theorem dX7_rise_1 : decode cX7_rise 1 = .ok (.iload_n 2, 1) := by decide +kernel
theorem dX7_rise_2 : decode cX7_rise 2 = .ok (.invokestatic 201, 3) := by decide +kernel
theorem dX7_rise_5 : decode cX7_rise 5 = .ok (.ifCond .ne 5, 3) := by decide +kernel
theorem dX7_rise_8 : decode cX7_rise 8 = .ok (.iconst (-1), 1) := by decide +kernel
theorem dX7_rise_9 : decode cX7_rise 9 = .ok (.ireturn, 1) := by decide +kernel
theorem dX7_rise_10 : decode cX7_rise 10 = .ok (.aload_n 0, 1) := by decide +kernel
theorem dX7_rise_11 : decode cX7_rise 11 = .ok (.getfield 21, 3) := by decide +kernel
theorem dX7_rise_14 : decode cX7_rise 14 = .ok (.invokevirtual 205, 3) := by decide +kernel
theorem dX7_rise_17 : decode cX7_rise 17 = .ok (.iconst (-1), 1) := by decide +kernel
theorem dX7_rise_18 : decode cX7_rise 18 = .ok (.istore_n 3, 1) := by decide +kernel
theorem dX7_rise_19 : decode cX7_rise 19 = .ok (.bipush 16, 2) := by decide +kernel
theorem dX7_rise_21 : decode cX7_rise 21 = .ok (.istore 4, 2) := by decide +kernel
theorem dX7_rise_23 : decode cX7_rise 23 = .ok (.iload 4, 2) := by decide +kernel
theorem dX7_rise_25 : decode cX7_rise 25 = .ok (.ifCond .le 39, 3) := by decide +kernel
theorem dX7_rise_28 : decode cX7_rise 28 = .ok (.iload_n 3, 1) := by decide +kernel
theorem dX7_rise_29 : decode cX7_rise 29 = .ok (.iload 4, 2) := by decide +kernel
theorem dX7_rise_31 : decode cX7_rise 31 = .ok (.iadd, 1) := by decide +kernel
theorem dX7_rise_32 : decode cX7_rise 32 = .ok (.bipush 24, 2) := by decide +kernel
theorem dX7_rise_34 : decode cX7_rise 34 = .ok (.if_icmp .gt 21, 3) := by decide +kernel
theorem dX7_rise_37 : decode cX7_rise 37 = .ok (.aload_n 0, 1) := by decide +kernel
theorem dX7_rise_38 : decode cX7_rise 38 = .ok (.iload_n 3, 1) := by decide +kernel
theorem dX7_rise_39 : decode cX7_rise 39 = .ok (.iload 4, 2) := by decide +kernel
theorem dX7_rise_41 : decode cX7_rise 41 = .ok (.iadd, 1) := by decide +kernel
theorem dX7_rise_42 : decode cX7_rise 42 = .ok (.iload_n 1, 1) := by decide +kernel
theorem dX7_rise_43 : decode cX7_rise 43 = .ok (.iload_n 2, 1) := by decide +kernel
theorem dX7_rise_44 : decode cX7_rise 44 = .ok (.invokevirtual 208, 3) := by decide +kernel
theorem dX7_rise_47 : decode cX7_rise 47 = .ok (.ifCond .eq 8, 3) := by decide +kernel
theorem dX7_rise_50 : decode cX7_rise 50 = .ok (.iload_n 3, 1) := by decide +kernel
theorem dX7_rise_51 : decode cX7_rise 51 = .ok (.iload 4, 2) := by decide +kernel
theorem dX7_rise_53 : decode cX7_rise 53 = .ok (.iadd, 1) := by decide +kernel
theorem dX7_rise_54 : decode cX7_rise 54 = .ok (.istore_n 3, 1) := by decide +kernel
theorem dX7_rise_55 : decode cX7_rise 55 = .ok (.iload 4, 2) := by decide +kernel
theorem dX7_rise_57 : decode cX7_rise 57 = .ok (.iconst 2, 1) := by decide +kernel
theorem dX7_rise_58 : decode cX7_rise 58 = .ok (.idiv, 1) := by decide +kernel
theorem dX7_rise_59 : decode cX7_rise 59 = .ok (.istore 4, 2) := by decide +kernel
theorem dX7_rise_61 : decode cX7_rise 61 = .ok (.goto (-38), 3) := by decide +kernel
theorem dX7_rise_64 : decode cX7_rise 64 = .ok (.iload_n 3, 1) := by decide +kernel
theorem dX7_rise_65 : decode cX7_rise 65 = .ok (.ireturn, 1) := by decide +kernel
set_option maxRecDepth 20000 in
theorem ggX7_act_X7_within : GoodIn wsX7_act wsX7_within := goodIn_r _ [6] (by decide +kernel) (by decide +kernel)
set_option maxRecDepth 20000 in
theorem gX7_act_X7_within : GoodIn wsX7_act (va_wsS RX7 97 yX7_within wsX7_within) := goodIn_app (goodIn_of _ (by decide +kernel)) ggX7_act_X7_within
set_option maxRecDepth 20000 in
theorem ggX7_act_X4_has : GoodIn wsX7_act wsX4_has := goodIn_r _ [11, 12, 4, 5, 6, 37, 38] (by decide +kernel) (by decide +kernel)
set_option maxRecDepth 20000 in
theorem gX7_act_X4_has : GoodIn wsX7_act (wsV RX7 105 RX4 yX4_has wsX4_has) := goodIn_app (goodIn_of _ (by decide +kernel)) ggX7_act_X4_has
set_option maxRecDepth 20000 in
theorem ggX7_act_X0_add : GoodIn wsX7_act wsX0_add := goodIn_r _ [17, 18, 19, 20, 21, 39, 40, 41, 42] (by decide +kernel) (by decide +kernel)
set_option maxRecDepth 20000 in
theorem gX7_act_X0_add : GoodIn wsX7_act (wsV RX7 211 RX0 yX0_add wsX0_add) := goodIn_app (goodIn_of _ (by decide +kernel)) ggX7_act_X0_add
theorem dX7_act_0 : decode cX7_act 0 = .ok (.iload_n 1, 1) := by decide +kernel
theorem dX7_act_1 : decode cX7_act 1 = .ok (.iconst 0, 1) := by decide +kernel
theorem dX7_act_2 : decode cX7_act 2 = .ok (.iconst 3, 1) := by decide +kernel
theorem dX7_act_3 : decode cX7_act 3 = .ok (.invokestatic 97, 3) := by decide +kernel
theorem dX7_act_6 : decode cX7_act 6 = .ok (.ifCond .eq 14, 3) := by decide +kernel
theorem dX7_act_9 : decode cX7_act 9 = .ok (.aload_n 0, 1) := by decide +kernel
theorem dX7_act_10 : decode cX7_act 10 = .ok (.getfield 21, 3) := by decide +kernel
theorem dX7_act_13 : decode cX7_act 13 = .ok (.iload_n 2, 1) := by decide +kernel
theorem dX7_act_14 : decode cX7_act 14 = .ok (.invokevirtual 105, 3) := by decide +kernel
theorem dX7_act_17 : decode cX7_act 17 = .ok (.ifCond .ne 5, 3) := by decide +kernel
theorem dX7_act_20 : decode cX7_act 20 = .ok (.iconst (-1), 1) := by decide +kernel
theorem dX7_act_21 : decode cX7_act 21 = .ok (.ireturn, 1) := by decide +kernel
theorem dX7_act_22 : decode cX7_act 22 = .ok (.iload_n 1, 1) := by decide +kernel
theorem dX7_act_23 : decode cX7_act 23 = .ok (.ifCond .eq 8, 3) := by decide +kernel
theorem dX7_act_26 : decode cX7_act 26 = .ok (.iload_n 1, 1) := by decide +kernel
theorem dX7_act_27 : decode cX7_act 27 = .ok (.iconst 2, 1) := by decide +kernel
theorem dX7_act_28 : decode cX7_act 28 = .ok (.if_icmp .ne 7, 3) := by decide +kernel
theorem dX7_act_31 : decode cX7_act 31 = .ok (.iconst 1, 1) := by decide +kernel
theorem dX7_act_32 : decode cX7_act 32 = .ok (.goto 4, 3) := by decide +kernel
theorem dX7_act_35 : decode cX7_act 35 = .ok (.iconst 0, 1) := by decide +kernel
theorem dX7_act_36 : decode cX7_act 36 = .ok (.istore 4, 2) := by decide +kernel
theorem dX7_act_38 : decode cX7_act 38 = .ok (.iload_n 3, 1) := by decide +kernel
theorem dX7_act_39 : decode cX7_act 39 = .ok (.iconst 0, 1) := by decide +kernel
theorem dX7_act_40 : decode cX7_act 40 = .ok (.iload 4, 2) := by decide +kernel
theorem dX7_act_42 : decode cX7_act 42 = .ok (.ifCond .eq 8, 3) := by decide +kernel
theorem dX7_act_45 : decode cX7_act 45 = .ok (.bipush 24, 2) := by decide +kernel
theorem dX7_act_47 : decode cX7_act 47 = .ok (.goto 6, 3) := by decide +kernel
theorem dX7_act_50 : decode cX7_act 50 = .ok (.sipush 999, 3) := by decide +kernel
theorem dX7_act_53 : decode cX7_act 53 = .ok (.invokestatic 97, 3) := by decide +kernel
theorem dX7_act_56 : decode cX7_act 56 = .ok (.ifCond .ne 5, 3) := by decide +kernel
theorem dX7_act_59 : decode cX7_act 59 = .ok (.iconst (-1), 1) := by decide +kernel
theorem dX7_act_60 : decode cX7_act 60 = .ok (.ireturn, 1) := by decide +kernel
theorem dX7_act_61 : decode cX7_act 61 = .ok (.aload_n 0, 1) := by decide +kernel
theorem dX7_act_62 : decode cX7_act 62 = .ok (.getfield 34, 3) := by decide +kernel
theorem dX7_act_65 : decode cX7_act 65 = .ok (.iload_n 1, 1) := by decide +kernel
theorem dX7_act_66 : decode cX7_act 66 = .ok (.iload_n 2, 1) := by decide +kernel
theorem dX7_act_67 : decode cX7_act 67 = .ok (.iload_n 3, 1) := by decide +kernel
theorem dX7_act_68 : decode cX7_act 68 = .ok (.invokevirtual 211, 3) := by decide +kernel
theorem dX7_act_71 : decode cX7_act 71 = .ok (.ireturn, 1) := by decide +kernel
set_option maxRecDepth 20000 in
theorem ggX7_perform_X0_has : GoodIn wsX7_perform wsX0_has := goodIn_r _ [8, 9, 10, 11, 12, 65, 66, 67, 68] (by decide +kernel) (by decide +kernel)
set_option maxRecDepth 20000 in
theorem gX7_perform_X0_has : GoodIn wsX7_perform (wsV RX7 214 RX0 yX0_has wsX0_has) := goodIn_app (goodIn_of _ (by decide +kernel)) ggX7_perform_X0_has
set_option maxRecDepth 20000 in
theorem ggX7_perform_X0_doOn : GoodIn wsX7_perform wsX0_doOn := goodIn_r _ [16, 17, 18, 19, 20, 21, 22, 23, 24, 25, 26, 27, 28, 5, 6, 7, 8, 9, 10, 11, 12, 29, 30, 31, 32, 33, 34, 35, 36, 37, 38, 39, 40, 41, 42, 43, 44, 45, 46, 47, 48, 49, 65, 66, 67, 68, 69, 70, 71, 72, 73, 74, 75, 76, 77, 78, 79] (by decide +kernel) (by decide +kernel)
set_option maxRecDepth 20000 in
theorem gX7_perform_X0_doOn : GoodIn wsX7_perform (wsV RX7 215 RX0 yX0_doOn wsX0_doOn) := goodIn_app (goodIn_of _ (by decide +kernel)) ggX7_perform_X0_doOn
theorem dX7_perform_0 : decode cX7_perform 0 = .ok (.aload_n 0, 1) := by decide +kernel
theorem dX7_perform_1 : decode cX7_perform 1 = .ok (.getfield 34, 3) := by decide +kernel
theorem dX7_perform_4 : decode cX7_perform 4 = .ok (.iload_n 1, 1) := by decide +kernel
theorem dX7_perform_5 : decode cX7_perform 5 = .ok (.invokevirtual 214, 3) := by decide +kernel
theorem dX7_perform_8 : decode cX7_perform 8 = .ok (.ifCond .ne 5, 3) := by decide +kernel
theorem dX7_perform_11 : decode cX7_perform 11 = .ok (.iconst 0, 1) := by decide +kernel
theorem dX7_perform_12 : decode cX7_perform 12 = .ok (.ireturn, 1) := by decide +kernel
theorem dX7_perform_13 : decode cX7_perform 13 = .ok (.aload_n 0, 1) := by decide +kernel
theorem dX7_perform_14 : decode cX7_perform 14 = .ok (.getfield 34, 3) := by decide +kernel
theorem dX7_perform_17 : decode cX7_perform 17 = .ok (.aload_n 0, 1) := by decide +kernel
theorem dX7_perform_18 : decode cX7_perform 18 = .ok (.getfield 21, 3) := by decide +kernel
theorem dX7_perform_21 : decode cX7_perform 21 = .ok (.iload_n 1, 1) := by decide +kernel
theorem dX7_perform_22 : decode cX7_perform 22 = .ok (.invokevirtual 215, 3) := by decide +kernel
theorem dX7_perform_25 : decode cX7_perform 25 = .ok (.aload_n 0, 1) := by decide +kernel
theorem dX7_perform_26 : decode cX7_perform 26 = .ok (.iconst 0, 1) := by decide +kernel
theorem dX7_perform_27 : decode cX7_perform 27 = .ok (.putfield 80, 3) := by decide +kernel
theorem dX7_perform_30 : decode cX7_perform 30 = .ok (.iconst 1, 1) := by decide +kernel
theorem dX7_perform_31 : decode cX7_perform 31 = .ok (.ireturn, 1) := by decide +kernel
set_option maxRecDepth 20000 in
theorem ggX7_order_X7_isRatio : GoodIn wsX7_order wsX7_isRatio := goodIn_r _ [15, 16, 17, 14, 18] (by decide +kernel) (by decide +kernel)
set_option maxRecDepth 20000 in
theorem gX7_order_X7_isRatio : GoodIn wsX7_order (va_wsS RX7 201 yX7_isRatio wsX7_isRatio) := goodIn_app (goodIn_of _ (by decide +kernel)) ggX7_order_X7_isRatio
set_option maxRecDepth 20000 in
theorem ggX7_order_X4_reckon : GoodIn wsX7_order wsX4_reckon := goodIn_r _ [23, 24, 25, 26, 27, 28, 29, 30, 31, 32, 33, 34, 35, 36, 37, 38, 39, 40, 41, 42, 43, 44, 45, 46, 47, 48, 49, 50, 51, 182, 183, 184, 185, 186, 187, 188, 189, 190, 191, 192, 193, 194, 195, 196, 197] (by decide +kernel) (by decide +kernel)
set_option maxRecDepth 20000 in
theorem gX7_order_X4_reckon : GoodIn wsX7_order (wsV RX7 205 RX4 yX4_reckon wsX4_reckon) := goodIn_app (goodIn_of _ (by decide +kernel)) ggX7_order_X4_reckon
set_option maxRecDepth 20000 in
theorem ggX7_order_X7_standsBehind : GoodIn wsX7_order wsX7_standsBehind := goodIn_r _ [55, 56, 1, 2, 3, 57, 58, 59, 60, 22, 61, 24, 25, 62, 63, 64, 29, 65, 33, 44, 34, 51, 32, 66, 8, 9, 10, 38, 31, 67, 68, 69, 70, 71, 72, 73, 74, 75, 76, 77, 78, 47, 79, 80, 81, 82, 83, 84, 85, 86, 17, 14, 18, 87, 88, 89, 90, 91, 92, 93, 94, 95, 96, 97, 98, 99, 19, 20, 21, 23, 26, 27, 28, 30, 35, 36, 37, 39, 40, 41, 42, 43, 45, 46, 48, 49, 50, 100, 101, 102, 103, 104, 105, 106, 107, 108, 109, 110, 111, 112, 113, 114, 115, 116, 117, 118, 119, 120, 121, 122, 123, 124, 125, 126, 127, 128, 129, 130, 131, 132, 133, 134, 135, 136, 137, 138, 139, 140, 141, 142, 143, 144, 145, 146, 147, 148, 149, 150, 151, 152, 153, 154, 155, 156, 157, 158, 163, 164, 165, 166, 167, 168, 169, 170, 171, 172, 173, 174, 175, 176, 177, 178, 179, 180, 181, 182, 183, 184, 185, 186, 187, 188, 189, 190, 191, 192, 193, 194, 195, 196, 197, 198, 199, 200, 201, 202, 203, 204] (by decide +kernel) (by decide +kernel)
set_option maxRecDepth 20000 in
theorem gX7_order_X7_standsBehind : GoodIn wsX7_order (wsV RX7 219 RX7 yX7_standsBehind wsX7_standsBehind) := goodIn_app (goodIn_of _ (by decide +kernel)) ggX7_order_X7_standsBehind
set_option maxRecDepth 20000 in
theorem ggX7_order_X7_leadsOn : GoodIn wsX7_order wsX7_leadsOn := goodIn_r _ [162, 2, 3, 4, 5, 52, 53, 54, 14, 55, 56, 1, 57, 58, 59, 60, 22, 61, 24, 25, 62, 63, 64, 29, 65, 33, 44, 34, 51, 32, 66, 8, 9, 10, 38, 31, 67, 68, 69, 70, 71, 72, 73, 74, 75, 76, 77, 78, 47, 79, 80, 81, 82, 83, 84, 85, 86, 17, 18, 87, 88, 89, 90, 91, 92, 93, 94, 95, 96, 97, 98, 99, 19, 20, 21, 23, 26, 27, 28, 30, 35, 36, 37, 39, 40, 41, 42, 43, 45, 46, 48, 49, 50, 100, 101, 102, 103, 104, 105, 106, 107, 108, 109, 110, 111, 112, 113, 114, 115, 116, 117, 118, 119, 120, 121, 122, 123, 124, 125, 126, 127, 128, 129, 130, 131, 132, 133, 134, 135, 136, 137, 138, 139, 140, 141, 142, 143, 144, 145, 146, 147, 148, 149, 150, 151, 152, 153, 154, 155, 156, 157, 158, 159, 160, 161, 163, 164, 165, 166, 167, 168, 169, 170, 171, 172, 173, 174, 175, 176, 177, 178, 179, 180, 181, 182, 183, 184, 185, 186, 187, 188, 189, 190, 191, 192, 193, 194, 195, 196, 197, 198, 199, 200, 201, 202, 203, 204] (by decide +kernel) (by decide +kernel)
set_option maxRecDepth 20000 in
theorem gX7_order_X7_leadsOn : GoodIn wsX7_order (wsV RX7 222 RX7 yX7_leadsOn wsX7_leadsOn) := goodIn_app (goodIn_of _ (by decide +kernel)) ggX7_order_X7_leadsOn
theorem dX7_order_0 : decode cX7_order 0 = .ok (.iload_n 1, 1) := by decide +kernel
theorem dX7_order_1 : decode cX7_order 1 = .ok (.iload_n 2, 1) := by decide +kernel
theorem dX7_order_2 : decode cX7_order 2 = .ok (.invokestatic 201, 3) := by decide +kernel
theorem dX7_order_5 : decode cX7_order 5 = .ok (.ifCond .ne 5, 3) := by decide +kernel
theorem dX7_order_8 : decode cX7_order 8 = .ok (.iconst (-1), 1) := by decide +kernel
theorem dX7_order_9 : decode cX7_order 9 = .ok (.ireturn, 1) := by decide +kernel
theorem dX7_order_10 : decode cX7_order 10 = .ok (.aload_n 0, 1) := by decide +kernel
theorem dX7_order_11 : decode cX7_order 11 = .ok (.getfield 21, 3) := by decide +kernel
theorem dX7_order_14 : decode cX7_order 14 = .ok (.invokevirtual 205, 3) := by decide +kernel
theorem dX7_order_17 : decode cX7_order 17 = .ok (.iconst 1, 1) := by decide +kernel
theorem dX7_order_18 : decode cX7_order 18 = .ok (.aload_n 0, 1) := by decide +kernel
theorem dX7_order_19 : decode cX7_order 19 = .ok (.getfield 34, 3) := by decide +kernel
theorem dX7_order_22 : decode cX7_order 22 = .ok (.getfield 91, 3) := by decide +kernel
theorem dX7_order_25 : decode cX7_order 25 = .ok (.ishl, 1) := by decide +kernel
theorem dX7_order_26 : decode cX7_order 26 = .ok (.iconst 1, 1) := by decide +kernel
theorem dX7_order_27 : decode cX7_order 27 = .ok (.isub, 1) := by decide +kernel
theorem dX7_order_28 : decode cX7_order 28 = .ok (.istore_n 3, 1) := by decide +kernel
theorem dX7_order_29 : decode cX7_order 29 = .ok (.iconst 0, 1) := by decide +kernel
theorem dX7_order_30 : decode cX7_order 30 = .ok (.istore 4, 2) := by decide +kernel
theorem dX7_order_32 : decode cX7_order 32 = .ok (.iload 4, 2) := by decide +kernel
theorem dX7_order_34 : decode cX7_order 34 = .ok (.iload_n 3, 1) := by decide +kernel
theorem dX7_order_35 : decode cX7_order 35 = .ok (.if_icmp .gt 17, 3) := by decide +kernel
theorem dX7_order_38 : decode cX7_order 38 = .ok (.aload_n 0, 1) := by decide +kernel
theorem dX7_order_39 : decode cX7_order 39 = .ok (.getfield 65, 3) := by decide +kernel
theorem dX7_order_42 : decode cX7_order 42 = .ok (.iload 4, 2) := by decide +kernel
theorem dX7_order_44 : decode cX7_order 44 = .ok (.iconst 0, 1) := by decide +kernel
theorem dX7_order_45 : decode cX7_order 45 = .ok (.bastore, 1) := by decide +kernel
theorem dX7_order_46 : decode cX7_order 46 = .ok (.iinc 4 1, 3) := by decide +kernel
theorem dX7_order_49 : decode cX7_order 49 = .ok (.goto (-17), 3) := by decide +kernel
theorem dX7_order_52 : decode cX7_order 52 = .ok (.iload_n 3, 1) := by decide +kernel
theorem dX7_order_53 : decode cX7_order 53 = .ok (.ifCond .eq 27, 3) := by decide +kernel
theorem dX7_order_56 : decode cX7_order 56 = .ok (.aload_n 0, 1) := by decide +kernel
theorem dX7_order_57 : decode cX7_order 57 = .ok (.iload_n 3, 1) := by decide +kernel
theorem dX7_order_58 : decode cX7_order 58 = .ok (.iload_n 1, 1) := by decide +kernel
theorem dX7_order_59 : decode cX7_order 59 = .ok (.iload_n 2, 1) := by decide +kernel
theorem dX7_order_60 : decode cX7_order 60 = .ok (.invokevirtual 219, 3) := by decide +kernel
theorem dX7_order_63 : decode cX7_order 63 = .ok (.ifCond .eq 14, 3) := by decide +kernel
theorem dX7_order_66 : decode cX7_order 66 = .ok (.aload_n 0, 1) := by decide +kernel
theorem dX7_order_67 : decode cX7_order 67 = .ok (.iconst 0, 1) := by decide +kernel
theorem dX7_order_68 : decode cX7_order 68 = .ok (.iconst 0, 1) := by decide +kernel
theorem dX7_order_69 : decode cX7_order 69 = .ok (.iload_n 1, 1) := by decide +kernel
theorem dX7_order_70 : decode cX7_order 70 = .ok (.iload_n 2, 1) := by decide +kernel
theorem dX7_order_71 : decode cX7_order 71 = .ok (.invokevirtual 222, 3) := by decide +kernel
theorem dX7_order_74 : decode cX7_order 74 = .ok (.ifCond .ne 6, 3) := by decide +kernel
theorem dX7_order_77 : decode cX7_order 77 = .ok (.bipush (-2), 2) := by decide +kernel
theorem dX7_order_79 : decode cX7_order 79 = .ok (.ireturn, 1) := by decide +kernel
theorem dX7_order_80 : decode cX7_order 80 = .ok (.aload_n 0, 1) := by decide +kernel
theorem dX7_order_81 : decode cX7_order 81 = .ok (.getfield 69, 3) := by decide +kernel
theorem dX7_order_84 : decode cX7_order 84 = .ok (.iconst 0, 1) := by decide +kernel
theorem dX7_order_85 : decode cX7_order 85 = .ok (.aload_n 0, 1) := by decide +kernel
theorem dX7_order_86 : decode cX7_order 86 = .ok (.getfield 73, 3) := by decide +kernel
theorem dX7_order_89 : decode cX7_order 89 = .ok (.iconst 0, 1) := by decide +kernel
theorem dX7_order_90 : decode cX7_order 90 = .ok (.bipush 6, 2) := by decide +kernel
theorem dX7_order_92 : decode cX7_order 92 = .ok (.invokestatic 226, 3) := by decide +kernel
theorem dX7_order_95 : decode cX7_order 95 = .ok (.aload_n 0, 1) := by decide +kernel
theorem dX7_order_96 : decode cX7_order 96 = .ok (.aload_n 0, 1) := by decide +kernel
theorem dX7_order_97 : decode cX7_order 97 = .ok (.getfield 34, 3) := by decide +kernel
theorem dX7_order_100 : decode cX7_order 100 = .ok (.getfield 91, 3) := by decide +kernel
theorem dX7_order_103 : decode cX7_order 103 = .ok (.putfield 76, 3) := by decide +kernel
theorem dX7_order_106 : decode cX7_order 106 = .ok (.aload_n 0, 1) := by decide +kernel
theorem dX7_order_107 : decode cX7_order 107 = .ok (.getfield 76, 3) := by decide +kernel
theorem dX7_order_110 : decode cX7_order 110 = .ok (.ireturn, 1) := by decide +kernel
set_option maxRecDepth 20000 in
theorem ggX7_step_X7_within : GoodIn wsX7_step wsX7_within := goodIn_r _ [6] (by decide +kernel) (by decide +kernel)
set_option maxRecDepth 20000 in
theorem gX7_step_X7_within : GoodIn wsX7_step (va_wsS RX7 97 yX7_within wsX7_within) := goodIn_app (goodIn_of _ (by decide +kernel)) ggX7_step_X7_within
theorem dX7_step_0 : decode cX7_step 0 = .ok (.iload_n 1, 1) := by decide +kernel
theorem dX7_step_1 : decode cX7_step 1 = .ok (.iconst 0, 1) := by decide +kernel
theorem dX7_step_2 : decode cX7_step 2 = .ok (.aload_n 0, 1) := by decide +kernel
theorem dX7_step_3 : decode cX7_step 3 = .ok (.getfield 76, 3) := by decide +kernel
theorem dX7_step_6 : decode cX7_step 6 = .ok (.iconst 1, 1) := by decide +kernel
theorem dX7_step_7 : decode cX7_step 7 = .ok (.isub, 1) := by decide +kernel
theorem dX7_step_8 : decode cX7_step 8 = .ok (.invokestatic 97, 3) := by decide +kernel
theorem dX7_step_11 : decode cX7_step 11 = .ok (.ifCond .eq 12, 3) := by decide +kernel
theorem dX7_step_14 : decode cX7_step 14 = .ok (.aload_n 0, 1) := by decide +kernel
theorem dX7_step_15 : decode cX7_step 15 = .ok (.getfield 73, 3) := by decide +kernel
theorem dX7_step_18 : decode cX7_step 18 = .ok (.iload_n 1, 1) := by decide +kernel
theorem dX7_step_19 : decode cX7_step 19 = .ok (.iaload, 1) := by decide +kernel
theorem dX7_step_20 : decode cX7_step 20 = .ok (.goto 4, 3) := by decide +kernel
theorem dX7_step_23 : decode cX7_step 23 = .ok (.iconst (-1), 1) := by decide +kernel
theorem dX7_step_24 : decode cX7_step 24 = .ok (.ireturn, 1) := by decide +kernel
set_option maxRecDepth 20000 in
theorem ggX7_count_X4_cellCount : GoodIn wsX7_count wsX4_cellCount := goodIn_r _ [11, 12, 13, 14, 30, 31, 41, 42, 43, 44, 45, 46, 47, 48, 49] (by decide +kernel) (by decide +kernel)
set_option maxRecDepth 20000 in
theorem gX7_count_X4_cellCount : GoodIn wsX7_count (wsV RX7 233 RX4 yX4_cellCount wsX4_cellCount) := goodIn_app (goodIn_of _ (by decide +kernel)) ggX7_count_X4_cellCount
theorem dX7_count_0 : decode cX7_count 0 = .ok (.iload_n 1, 1) := by decide +kernel
theorem dX7_count_1 : decode cX7_count 1 = .ok (.tableswitch 63 0 3 #[31, 39, 47, 55], 31) := by decide +kernel
theorem dX7_count_32 : decode cX7_count 32 = .ok (.aload_n 0, 1) := by decide +kernel
theorem dX7_count_33 : decode cX7_count 33 = .ok (.getfield 21, 3) := by decide +kernel
theorem dX7_count_36 : decode cX7_count 36 = .ok (.getfield 158, 3) := by decide +kernel
theorem dX7_count_39 : decode cX7_count 39 = .ok (.ireturn, 1) := by decide +kernel
theorem dX7_count_40 : decode cX7_count 40 = .ok (.aload_n 0, 1) := by decide +kernel
theorem dX7_count_41 : decode cX7_count 41 = .ok (.getfield 12, 3) := by decide +kernel
theorem dX7_count_44 : decode cX7_count 44 = .ok (.getfield 232, 3) := by decide +kernel
theorem dX7_count_47 : decode cX7_count 47 = .ok (.ireturn, 1) := by decide +kernel
theorem dX7_count_48 : decode cX7_count 48 = .ok (.aload_n 0, 1) := by decide +kernel
theorem dX7_count_49 : decode cX7_count 49 = .ok (.getfield 34, 3) := by decide +kernel
theorem dX7_count_52 : decode cX7_count 52 = .ok (.getfield 91, 3) := by decide +kernel
theorem dX7_count_55 : decode cX7_count 55 = .ok (.ireturn, 1) := by decide +kernel
theorem dX7_count_56 : decode cX7_count 56 = .ok (.aload_n 0, 1) := by decide +kernel
theorem dX7_count_57 : decode cX7_count 57 = .ok (.getfield 21, 3) := by decide +kernel
theorem dX7_count_60 : decode cX7_count 60 = .ok (.invokevirtual 233, 3) := by decide +kernel
theorem dX7_count_63 : decode cX7_count 63 = .ok (.ireturn, 1) := by decide +kernel
theorem dX7_count_64 : decode cX7_count 64 = .ok (.iconst (-1), 1) := by decide +kernel
theorem dX7_count_65 : decode cX7_count 65 = .ok (.ireturn, 1) := by decide +kernel
theorem dX7_within_0 : decode cX7_within 0 = .ok (.iload_n 0, 1) := by decide +kernel
theorem dX7_within_1 : decode cX7_within 1 = .ok (.iload_n 1, 1) := by decide +kernel
theorem dX7_within_2 : decode cX7_within 2 = .ok (.if_icmp .lt 12, 3) := by decide +kernel
theorem dX7_within_5 : decode cX7_within 5 = .ok (.iload_n 0, 1) := by decide +kernel
theorem dX7_within_6 : decode cX7_within 6 = .ok (.iload_n 2, 1) := by decide +kernel
theorem dX7_within_7 : decode cX7_within 7 = .ok (.if_icmp .gt 7, 3) := by decide +kernel
theorem dX7_within_10 : decode cX7_within 10 = .ok (.iconst 1, 1) := by decide +kernel
theorem dX7_within_11 : decode cX7_within 11 = .ok (.goto 4, 3) := by decide +kernel
theorem dX7_within_14 : decode cX7_within 14 = .ok (.iconst 0, 1) := by decide +kernel
theorem dX7_within_15 : decode cX7_within 15 = .ok (.ireturn, 1) := by decide +kernel
set_option maxRecDepth 20000 in
theorem ggX7_isRatio_X7_within : GoodIn wsX7_isRatio wsX7_within := goodIn_r _ [4] (by decide +kernel) (by decide +kernel)
set_option maxRecDepth 20000 in
theorem gX7_isRatio_X7_within : GoodIn wsX7_isRatio (va_wsS RX7 97 yX7_within wsX7_within) := goodIn_app (goodIn_of _ (by decide +kernel)) ggX7_isRatio_X7_within
theorem dX7_isRatio_0 : decode cX7_isRatio 0 = .ok (.iload_n 0, 1) := by decide +kernel
theorem dX7_isRatio_1 : decode cX7_isRatio 1 = .ok (.iconst 1, 1) := by decide +kernel
theorem dX7_isRatio_2 : decode cX7_isRatio 2 = .ok (.sipush 1000, 3) := by decide +kernel
theorem dX7_isRatio_5 : decode cX7_isRatio 5 = .ok (.invokestatic 97, 3) := by decide +kernel
theorem dX7_isRatio_8 : decode cX7_isRatio 8 = .ok (.ifCond .eq 18, 3) := by decide +kernel
theorem dX7_isRatio_11 : decode cX7_isRatio 11 = .ok (.iload_n 1, 1) := by decide +kernel
theorem dX7_isRatio_12 : decode cX7_isRatio 12 = .ok (.iconst 1, 1) := by decide +kernel
theorem dX7_isRatio_13 : decode cX7_isRatio 13 = .ok (.sipush 1000, 3) := by decide +kernel
theorem dX7_isRatio_16 : decode cX7_isRatio 16 = .ok (.invokestatic 97, 3) := by decide +kernel
theorem dX7_isRatio_19 : decode cX7_isRatio 19 = .ok (.ifCond .eq 7, 3) := by decide +kernel
theorem dX7_isRatio_22 : decode cX7_isRatio 22 = .ok (.iconst 1, 1) := by decide +kernel
theorem dX7_isRatio_23 : decode cX7_isRatio 23 = .ok (.goto 4, 3) := by decide +kernel
theorem dX7_isRatio_26 : decode cX7_isRatio 26 = .ok (.iconst 0, 1) := by decide +kernel
theorem dX7_isRatio_27 : decode cX7_isRatio 27 = .ok (.ireturn, 1) := by decide +kernel
set_option maxRecDepth 20000 in
theorem ggX7_knowWorst_X4_reckon : GoodIn wsX7_knowWorst wsX4_reckon := goodIn_r _ [11, 12, 13, 14, 15, 16, 17, 18, 19, 20, 21, 22, 23, 24, 25, 26, 27, 28, 29, 30, 31, 32, 33, 34, 35, 36, 37, 38, 39, 183, 184, 185, 186, 187, 188, 189, 190, 191, 192, 193, 194, 195, 196, 197, 198] (by decide +kernel) (by decide +kernel)
set_option maxRecDepth 20000 in
theorem gX7_knowWorst_X4_reckon : GoodIn wsX7_knowWorst (wsV RX7 205 RX4 yX4_reckon wsX4_reckon) := goodIn_app (goodIn_of _ (by decide +kernel)) ggX7_knowWorst_X4_reckon
set_option maxRecDepth 20000 in
theorem ggX7_knowWorst_X6_study : GoodIn wsX7_knowWorst wsX6_study := goodIn_r _ [44, 45, 199, 200, 201, 202, 203, 204, 205] (by decide +kernel) (by decide +kernel)
set_option maxRecDepth 20000 in
theorem gX7_knowWorst_X6_study : GoodIn wsX7_knowWorst (wsV RX7 236 RX6 yX6_study wsX6_study) := goodIn_app (goodIn_of _ (by decide +kernel)) ggX7_knowWorst_X6_study
set_option maxRecDepth 20000 in
theorem ggX7_knowWorst_X6_findWorst : GoodIn wsX7_knowWorst wsX6_findWorst := goodIn_r _ [49, 45, 50, 51, 52, 53, 54, 55, 56, 43, 57, 58, 59, 60, 61, 62, 63, 64, 65, 66, 67, 68, 69, 70, 71, 72, 73, 74, 75, 76, 77, 78, 79, 35, 80, 81, 82, 83, 84, 85, 86, 87, 17, 88, 21, 26, 89, 90, 91, 92, 20, 93, 94, 95, 96, 97, 98, 99, 100, 101, 102, 103, 104, 105, 106, 107, 108, 109, 110, 111, 112, 113, 114, 115, 116, 117, 118, 119, 120, 34, 36, 121, 122, 123, 124, 125, 126, 127, 128, 129, 130, 131, 132, 133, 134, 10, 135, 136, 137, 138, 139, 140, 13, 141, 142, 143, 144, 14, 15, 16, 18, 19, 22, 23, 24, 25, 27, 28, 29, 30, 31, 32, 33, 37, 38, 39, 145, 146, 147, 148, 149, 150, 151, 152, 153, 154, 155, 156, 157, 158, 159, 160, 161, 199, 200, 201, 202, 203, 204, 205, 183, 184, 206, 207, 185, 186, 187, 188, 189, 190, 191, 192, 193, 208, 209, 210, 194, 195, 196, 197, 198] (by decide +kernel) (by decide +kernel)
set_option maxRecDepth 20000 in
theorem gX7_knowWorst_X6_findWorst : GoodIn wsX7_knowWorst (wsV RX7 239 RX6 yX6_findWorst wsX6_findWorst) := goodIn_app (goodIn_of _ (by decide +kernel)) ggX7_knowWorst_X6_findWorst
set_option maxRecDepth 20000 in
theorem ggX7_knowWorst_X6_findFirst : GoodIn wsX7_knowWorst wsX6_findFirst := goodIn_r _ [165, 52, 166, 53, 45, 50, 51, 167, 54, 55, 56, 43, 57, 58, 59, 60, 61, 62, 63, 64, 65, 66, 67, 68, 69, 70, 71, 72, 73, 74, 75, 76, 77, 78, 79, 35, 80, 81, 82, 83, 84, 85, 86, 87, 17, 88, 21, 26, 89, 90, 91, 92, 20, 93, 94, 95, 96, 101, 102, 103, 104, 105, 106, 107, 108, 109, 110, 111, 112, 113, 114, 115, 116, 117, 118, 119, 120, 34, 36, 121, 122, 123, 124, 125, 126, 127, 128, 129, 130, 131, 206, 207, 199, 200, 201, 202, 203, 204, 205, 183, 184, 185, 186, 187, 188, 189, 190, 191, 192, 193, 208, 209, 210] (by decide +kernel) (by decide +kernel)
set_option maxRecDepth 20000 in
theorem gX7_knowWorst_X6_findFirst : GoodIn wsX7_knowWorst (wsV RX7 243 RX6 yX6_findFirst wsX6_findFirst) := goodIn_app (goodIn_of _ (by decide +kernel)) ggX7_knowWorst_X6_findFirst
theorem dX7_knowWorst_0 : decode cX7_knowWorst 0 = .ok (.aload_n 0, 1) := by decide +kernel
theorem dX7_knowWorst_1 : decode cX7_knowWorst 1 = .ok (.getfield 80, 3) := by decide +kernel
theorem dX7_knowWorst_4 : decode cX7_knowWorst 4 = .ok (.ifCond .ne 67, 3) := by decide +kernel
theorem dX7_knowWorst_7 : decode cX7_knowWorst 7 = .ok (.aload_n 0, 1) := by decide +kernel
theorem dX7_knowWorst_8 : decode cX7_knowWorst 8 = .ok (.getfield 21, 3) := by decide +kernel
theorem dX7_knowWorst_11 : decode cX7_knowWorst 11 = .ok (.invokevirtual 205, 3) := by decide +kernel
theorem dX7_knowWorst_14 : decode cX7_knowWorst 14 = .ok (.aload_n 0, 1) := by decide +kernel
theorem dX7_knowWorst_15 : decode cX7_knowWorst 15 = .ok (.getfield 41, 3) := by decide +kernel
theorem dX7_knowWorst_18 : decode cX7_knowWorst 18 = .ok (.aload_n 0, 1) := by decide +kernel
theorem dX7_knowWorst_19 : decode cX7_knowWorst 19 = .ok (.getfield 21, 3) := by decide +kernel
theorem dX7_knowWorst_22 : decode cX7_knowWorst 22 = .ok (.invokevirtual 236, 3) := by decide +kernel
theorem dX7_knowWorst_25 : decode cX7_knowWorst 25 = .ok (.aload_n 0, 1) := by decide +kernel
theorem dX7_knowWorst_26 : decode cX7_knowWorst 26 = .ok (.aload_n 0, 1) := by decide +kernel
theorem dX7_knowWorst_27 : decode cX7_knowWorst 27 = .ok (.getfield 41, 3) := by decide +kernel
theorem dX7_knowWorst_30 : decode cX7_knowWorst 30 = .ok (.aload_n 0, 1) := by decide +kernel
theorem dX7_knowWorst_31 : decode cX7_knowWorst 31 = .ok (.getfield 52, 3) := by decide +kernel
theorem dX7_knowWorst_34 : decode cX7_knowWorst 34 = .ok (.aload_n 0, 1) := by decide +kernel
theorem dX7_knowWorst_35 : decode cX7_knowWorst 35 = .ok (.getfield 58, 3) := by decide +kernel
theorem dX7_knowWorst_38 : decode cX7_knowWorst 38 = .ok (.invokevirtual 239, 3) := by decide +kernel
theorem dX7_knowWorst_41 : decode cX7_knowWorst 41 = .ok (.putfield 84, 3) := by decide +kernel
theorem dX7_knowWorst_44 : decode cX7_knowWorst 44 = .ok (.aload_n 0, 1) := by decide +kernel
theorem dX7_knowWorst_45 : decode cX7_knowWorst 45 = .ok (.getfield 84, 3) := by decide +kernel
theorem dX7_knowWorst_48 : decode cX7_knowWorst 48 = .ok (.ifCond .eq 18, 3) := by decide +kernel
theorem dX7_knowWorst_51 : decode cX7_knowWorst 51 = .ok (.aload_n 0, 1) := by decide +kernel
theorem dX7_knowWorst_52 : decode cX7_knowWorst 52 = .ok (.getfield 41, 3) := by decide +kernel
theorem dX7_knowWorst_55 : decode cX7_knowWorst 55 = .ok (.aload_n 0, 1) := by decide +kernel
theorem dX7_knowWorst_56 : decode cX7_knowWorst 56 = .ok (.getfield 52, 3) := by decide +kernel
theorem dX7_knowWorst_59 : decode cX7_knowWorst 59 = .ok (.aload_n 0, 1) := by decide +kernel
theorem dX7_knowWorst_60 : decode cX7_knowWorst 60 = .ok (.getfield 58, 3) := by decide +kernel
theorem dX7_knowWorst_63 : decode cX7_knowWorst 63 = .ok (.invokevirtual 243, 3) := by decide +kernel
theorem dX7_knowWorst_66 : decode cX7_knowWorst 66 = .ok (.aload_n 0, 1) := by decide +kernel
theorem dX7_knowWorst_67 : decode cX7_knowWorst 67 = .ok (.iconst 1, 1) := by decide +kernel
theorem dX7_knowWorst_68 : decode cX7_knowWorst 68 = .ok (.putfield 80, 3) := by decide +kernel
theorem dX7_knowWorst_71 : decode cX7_knowWorst 71 = .ok (.aload_n 0, 1) := by decide +kernel
theorem dX7_knowWorst_72 : decode cX7_knowWorst 72 = .ok (.getfield 84, 3) := by decide +kernel
theorem dX7_knowWorst_75 : decode cX7_knowWorst 75 = .ok (.ireturn, 1) := by decide +kernel
set_option maxRecDepth 20000 in
theorem ggX7_standsRisen_X4_copy : GoodIn wsX7_standsRisen wsX4_copy := goodIn_r _ [8, 9, 10, 11, 12, 13, 14, 15, 16, 17, 18, 19, 20, 21, 22, 23, 24, 25, 26, 135, 136, 137, 138, 139, 140, 141, 142, 143, 144, 145] (by decide +kernel) (by decide +kernel)
set_option maxRecDepth 20000 in
theorem gX7_standsRisen_X4_copy : GoodIn wsX7_standsRisen (wsV RX7 247 RX4 yX4_copy wsX4_copy) := goodIn_app (goodIn_of _ (by decide +kernel)) ggX7_standsRisen_X4_copy
set_option maxRecDepth 20000 in
theorem ggX7_standsRisen_X4_raiseWater : GoodIn wsX7_standsRisen wsX4_raiseWater := goodIn_r _ [30, 9, 10, 31, 32, 33, 34, 35, 36, 37, 38, 14, 39, 17, 18, 19, 26, 135, 136, 137, 138, 139, 140, 141, 142, 143, 144, 145] (by decide +kernel) (by decide +kernel)
set_option maxRecDepth 20000 in
theorem gX7_standsRisen_X4_raiseWater : GoodIn wsX7_standsRisen (wsV RX7 250 RX4 yX4_raiseWater wsX4_raiseWater) := goodIn_app (goodIn_of _ (by decide +kernel)) ggX7_standsRisen_X4_raiseWater
set_option maxRecDepth 20000 in
theorem ggX7_standsRisen_X4_reckon : GoodIn wsX7_standsRisen wsX4_reckon := goodIn_r _ [43, 9, 10, 44, 45, 46, 14, 47, 26, 20, 16, 18, 48, 49, 50, 25, 51, 52, 53, 54, 55, 17, 56, 57, 34, 58, 59, 60, 19, 135, 136, 137, 138, 139, 140, 141, 142, 143, 144, 145, 146, 147, 148, 149, 150] (by decide +kernel) (by decide +kernel)
set_option maxRecDepth 20000 in
theorem gX7_standsRisen_X4_reckon : GoodIn wsX7_standsRisen (wsV RX7 205 RX4 yX4_reckon wsX4_reckon) := goodIn_app (goodIn_of _ (by decide +kernel)) ggX7_standsRisen_X4_reckon
set_option maxRecDepth 20000 in
theorem ggX7_standsRisen_X6_study : GoodIn wsX7_standsRisen wsX6_study := goodIn_r _ [65, 66, 151, 152, 153, 154, 155, 156, 157] (by decide +kernel) (by decide +kernel)
set_option maxRecDepth 20000 in
theorem gX7_standsRisen_X6_study : GoodIn wsX7_standsRisen (wsV RX7 236 RX6 yX6_study wsX6_study) := goodIn_app (goodIn_of _ (by decide +kernel)) ggX7_standsRisen_X6_study
set_option maxRecDepth 20000 in
theorem ggX7_standsRisen_X6_stands : GoodIn wsX7_standsRisen wsX6_stands := goodIn_r _ [70, 66, 71, 72, 73, 74, 75, 64, 76, 77, 78, 79, 80, 81, 82, 83, 84, 85, 86, 87, 88, 89, 90, 91, 92, 93, 94, 95, 96, 97, 98, 34, 99, 100, 101, 102, 103, 104, 105, 106, 14, 107, 16, 25, 108, 109, 110, 111, 20, 112, 113, 114, 115, 116, 117, 118, 119, 151, 152, 153, 154, 155, 156, 157, 135, 136, 137, 138, 139, 140, 141, 142, 143, 144, 145] (by decide +kernel) (by decide +kernel)
set_option maxRecDepth 20000 in
theorem gX7_standsRisen_X6_stands : GoodIn wsX7_standsRisen (wsV RX7 253 RX6 yX6_stands wsX6_stands) := goodIn_app (goodIn_of _ (by decide +kernel)) ggX7_standsRisen_X6_stands
theorem dX7_standsRisen_0 : decode cX7_standsRisen 0 = .ok (.aload_n 0, 1) := by decide +kernel
theorem dX7_standsRisen_1 : decode cX7_standsRisen 1 = .ok (.getfield 28, 3) := by decide +kernel
theorem dX7_standsRisen_4 : decode cX7_standsRisen 4 = .ok (.aload_n 0, 1) := by decide +kernel
theorem dX7_standsRisen_5 : decode cX7_standsRisen 5 = .ok (.getfield 21, 3) := by decide +kernel
theorem dX7_standsRisen_8 : decode cX7_standsRisen 8 = .ok (.invokevirtual 247, 3) := by decide +kernel
theorem dX7_standsRisen_11 : decode cX7_standsRisen 11 = .ok (.aload_n 0, 1) := by decide +kernel
theorem dX7_standsRisen_12 : decode cX7_standsRisen 12 = .ok (.getfield 28, 3) := by decide +kernel
theorem dX7_standsRisen_15 : decode cX7_standsRisen 15 = .ok (.iload_n 1, 1) := by decide +kernel
theorem dX7_standsRisen_16 : decode cX7_standsRisen 16 = .ok (.invokevirtual 250, 3) := by decide +kernel
theorem dX7_standsRisen_19 : decode cX7_standsRisen 19 = .ok (.aload_n 0, 1) := by decide +kernel
theorem dX7_standsRisen_20 : decode cX7_standsRisen 20 = .ok (.getfield 28, 3) := by decide +kernel
theorem dX7_standsRisen_23 : decode cX7_standsRisen 23 = .ok (.invokevirtual 205, 3) := by decide +kernel
theorem dX7_standsRisen_26 : decode cX7_standsRisen 26 = .ok (.aload_n 0, 1) := by decide +kernel
theorem dX7_standsRisen_27 : decode cX7_standsRisen 27 = .ok (.getfield 41, 3) := by decide +kernel
theorem dX7_standsRisen_30 : decode cX7_standsRisen 30 = .ok (.aload_n 0, 1) := by decide +kernel
theorem dX7_standsRisen_31 : decode cX7_standsRisen 31 = .ok (.getfield 28, 3) := by decide +kernel
theorem dX7_standsRisen_34 : decode cX7_standsRisen 34 = .ok (.invokevirtual 236, 3) := by decide +kernel
theorem dX7_standsRisen_37 : decode cX7_standsRisen 37 = .ok (.aload_n 0, 1) := by decide +kernel
theorem dX7_standsRisen_38 : decode cX7_standsRisen 38 = .ok (.getfield 41, 3) := by decide +kernel
theorem dX7_standsRisen_41 : decode cX7_standsRisen 41 = .ok (.iload_n 2, 1) := by decide +kernel
theorem dX7_standsRisen_42 : decode cX7_standsRisen 42 = .ok (.i2l, 1) := by decide +kernel
theorem dX7_standsRisen_43 : decode cX7_standsRisen 43 = .ok (.iload_n 3, 1) := by decide +kernel
theorem dX7_standsRisen_44 : decode cX7_standsRisen 44 = .ok (.i2l, 1) := by decide +kernel
theorem dX7_standsRisen_45 : decode cX7_standsRisen 45 = .ok (.invokevirtual 253, 3) := by decide +kernel
theorem dX7_standsRisen_48 : decode cX7_standsRisen 48 = .ok (.ireturn, 1) := by decide +kernel
set_option maxRecDepth 20000 in
theorem ggX7_standsBehind_X4_copy : GoodIn wsX7_standsBehind wsX4_copy := goodIn_r _ [10, 11, 12, 13, 14, 15, 16, 17, 18, 19, 20, 21, 22, 23, 24, 25, 26, 27, 28, 165, 166, 167, 168, 169, 170, 171, 172, 173, 174, 175] (by decide +kernel) (by decide +kernel)
set_option maxRecDepth 20000 in
theorem gX7_standsBehind_X4_copy : GoodIn wsX7_standsBehind (wsV RX7 247 RX4 yX4_copy wsX4_copy) := goodIn_app (goodIn_of _ (by decide +kernel)) ggX7_standsBehind_X4_copy
set_option maxRecDepth 20000 in
theorem ggX7_standsBehind_X0_doOn : GoodIn wsX7_standsBehind wsX0_doOn := goodIn_r _ [33, 34, 35, 36, 37, 38, 39, 40, 41, 42, 43, 44, 45, 46, 47, 32, 48, 49, 50, 51, 52, 53, 54, 55, 9, 56, 11, 57, 58, 59, 16, 60, 18, 61, 28, 62, 63, 64, 65, 19, 20, 21, 161, 162, 163, 164, 165, 166, 167, 168, 169, 170, 171, 172, 173, 174, 175] (by decide +kernel) (by decide +kernel)
set_option maxRecDepth 20000 in
theorem gX7_standsBehind_X0_doOn : GoodIn wsX7_standsBehind (wsV RX7 215 RX0 yX0_doOn wsX0_doOn) := goodIn_app (goodIn_of _ (by decide +kernel)) ggX7_standsBehind_X0_doOn
set_option maxRecDepth 20000 in
theorem ggX7_standsBehind_X4_reckon : GoodIn wsX7_standsBehind wsX4_reckon := goodIn_r _ [69, 11, 12, 70, 71, 72, 16, 73, 28, 22, 18, 20, 74, 75, 76, 27, 77, 78, 79, 80, 81, 19, 82, 83, 41, 84, 85, 86, 21, 165, 166, 167, 168, 169, 170, 171, 172, 173, 174, 175, 176, 177, 178, 179, 180] (by decide +kernel) (by decide +kernel)
set_option maxRecDepth 20000 in
theorem gX7_standsBehind_X4_reckon : GoodIn wsX7_standsBehind (wsV RX7 205 RX4 yX4_reckon wsX4_reckon) := goodIn_app (goodIn_of _ (by decide +kernel)) ggX7_standsBehind_X4_reckon
set_option maxRecDepth 20000 in
theorem ggX7_standsBehind_X6_study : GoodIn wsX7_standsBehind wsX6_study := goodIn_r _ [91, 92, 181, 182, 183, 184, 185, 186, 187] (by decide +kernel) (by decide +kernel)
set_option maxRecDepth 20000 in
theorem gX7_standsBehind_X6_study : GoodIn wsX7_standsBehind (wsV RX7 236 RX6 yX6_study wsX6_study) := goodIn_app (goodIn_of _ (by decide +kernel)) ggX7_standsBehind_X6_study
set_option maxRecDepth 20000 in
theorem ggX7_standsBehind_X6_stands : GoodIn wsX7_standsBehind wsX6_stands := goodIn_r _ [96, 92, 97, 98, 99, 100, 101, 90, 102, 103, 104, 105, 106, 107, 108, 109, 110, 111, 112, 113, 114, 115, 116, 117, 118, 119, 120, 121, 122, 123, 124, 41, 125, 126, 127, 128, 129, 130, 131, 132, 16, 133, 18, 27, 134, 135, 136, 137, 22, 138, 139, 140, 141, 142, 143, 144, 145, 181, 182, 183, 184, 185, 186, 187, 165, 166, 167, 168, 169, 170, 171, 172, 173, 174, 175] (by decide +kernel) (by decide +kernel)
set_option maxRecDepth 20000 in
theorem gX7_standsBehind_X6_stands : GoodIn wsX7_standsBehind (wsV RX7 253 RX6 yX6_stands wsX6_stands) := goodIn_app (goodIn_of _ (by decide +kernel)) ggX7_standsBehind_X6_stands
theorem dX7_standsBehind_0 : decode cX7_standsBehind 0 = .ok (.aload_n 0, 1) := by decide +kernel
theorem dX7_standsBehind_1 : decode cX7_standsBehind 1 = .ok (.getfield 28, 3) := by decide +kernel
theorem dX7_standsBehind_4 : decode cX7_standsBehind 4 = .ok (.aload_n 0, 1) := by decide +kernel
theorem dX7_standsBehind_5 : decode cX7_standsBehind 5 = .ok (.getfield 21, 3) := by decide +kernel
theorem dX7_standsBehind_8 : decode cX7_standsBehind 8 = .ok (.invokevirtual 247, 3) := by decide +kernel
theorem dX7_standsBehind_11 : decode cX7_standsBehind 11 = .ok (.iconst 0, 1) := by decide +kernel
theorem dX7_standsBehind_12 : decode cX7_standsBehind 12 = .ok (.istore 4, 2) := by decide +kernel
theorem dX7_standsBehind_14 : decode cX7_standsBehind 14 = .ok (.iload 4, 2) := by decide +kernel
theorem dX7_standsBehind_16 : decode cX7_standsBehind 16 = .ok (.aload_n 0, 1) := by decide +kernel
theorem dX7_standsBehind_17 : decode cX7_standsBehind 17 = .ok (.getfield 34, 3) := by decide +kernel
theorem dX7_standsBehind_20 : decode cX7_standsBehind 20 = .ok (.getfield 91, 3) := by decide +kernel
theorem dX7_standsBehind_23 : decode cX7_standsBehind 23 = .ok (.if_icmp .ge 31, 3) := by decide +kernel
theorem dX7_standsBehind_26 : decode cX7_standsBehind 26 = .ok (.iload_n 1, 1) := by decide +kernel
theorem dX7_standsBehind_27 : decode cX7_standsBehind 27 = .ok (.iconst 1, 1) := by decide +kernel
theorem dX7_standsBehind_28 : decode cX7_standsBehind 28 = .ok (.iload 4, 2) := by decide +kernel
theorem dX7_standsBehind_30 : decode cX7_standsBehind 30 = .ok (.ishl, 1) := by decide +kernel
theorem dX7_standsBehind_31 : decode cX7_standsBehind 31 = .ok (.iand, 1) := by decide +kernel
theorem dX7_standsBehind_32 : decode cX7_standsBehind 32 = .ok (.ifCond .eq 16, 3) := by decide +kernel
theorem dX7_standsBehind_35 : decode cX7_standsBehind 35 = .ok (.aload_n 0, 1) := by decide +kernel
theorem dX7_standsBehind_36 : decode cX7_standsBehind 36 = .ok (.getfield 34, 3) := by decide +kernel
theorem dX7_standsBehind_39 : decode cX7_standsBehind 39 = .ok (.aload_n 0, 1) := by decide +kernel
theorem dX7_standsBehind_40 : decode cX7_standsBehind 40 = .ok (.getfield 28, 3) := by decide +kernel
theorem dX7_standsBehind_43 : decode cX7_standsBehind 43 = .ok (.iload 4, 2) := by decide +kernel
theorem dX7_standsBehind_45 : decode cX7_standsBehind 45 = .ok (.invokevirtual 215, 3) := by decide +kernel
theorem dX7_standsBehind_48 : decode cX7_standsBehind 48 = .ok (.iinc 4 1, 3) := by decide +kernel
theorem dX7_standsBehind_51 : decode cX7_standsBehind 51 = .ok (.goto (-37), 3) := by decide +kernel
theorem dX7_standsBehind_54 : decode cX7_standsBehind 54 = .ok (.aload_n 0, 1) := by decide +kernel
theorem dX7_standsBehind_55 : decode cX7_standsBehind 55 = .ok (.getfield 28, 3) := by decide +kernel
theorem dX7_standsBehind_58 : decode cX7_standsBehind 58 = .ok (.invokevirtual 205, 3) := by decide +kernel
theorem dX7_standsBehind_61 : decode cX7_standsBehind 61 = .ok (.aload_n 0, 1) := by decide +kernel
theorem dX7_standsBehind_62 : decode cX7_standsBehind 62 = .ok (.getfield 41, 3) := by decide +kernel
theorem dX7_standsBehind_65 : decode cX7_standsBehind 65 = .ok (.aload_n 0, 1) := by decide +kernel
theorem dX7_standsBehind_66 : decode cX7_standsBehind 66 = .ok (.getfield 28, 3) := by decide +kernel
theorem dX7_standsBehind_69 : decode cX7_standsBehind 69 = .ok (.invokevirtual 236, 3) := by decide +kernel
theorem dX7_standsBehind_72 : decode cX7_standsBehind 72 = .ok (.aload_n 0, 1) := by decide +kernel
theorem dX7_standsBehind_73 : decode cX7_standsBehind 73 = .ok (.getfield 41, 3) := by decide +kernel
theorem dX7_standsBehind_76 : decode cX7_standsBehind 76 = .ok (.iload_n 2, 1) := by decide +kernel
theorem dX7_standsBehind_77 : decode cX7_standsBehind 77 = .ok (.i2l, 1) := by decide +kernel
theorem dX7_standsBehind_78 : decode cX7_standsBehind 78 = .ok (.iload_n 3, 1) := by decide +kernel
theorem dX7_standsBehind_79 : decode cX7_standsBehind 79 = .ok (.i2l, 1) := by decide +kernel
theorem dX7_standsBehind_80 : decode cX7_standsBehind 80 = .ok (.invokevirtual 253, 3) := by decide +kernel
theorem dX7_standsBehind_83 : decode cX7_standsBehind 83 = .ok (.ireturn, 1) := by decide +kernel
set_option maxRecDepth 20000 in
theorem ggX7_leadsOn_X7_standsBehind : GoodIn wsX7_leadsOn wsX7_standsBehind := goodIn_r _ [9, 10, 11, 1, 2, 12, 13, 14, 15, 16, 17, 18, 19, 20, 21, 22, 23, 24, 25, 26, 27, 28, 29, 30, 31, 32, 33, 34, 35, 36, 37, 38, 39, 40, 41, 42, 43, 44, 45, 46, 47, 48, 49, 50, 51, 52, 53, 54, 55, 56, 57, 8, 58, 59, 60, 61, 62, 63, 64, 65, 66, 67, 68, 69, 70, 71, 72, 73, 74, 75, 76, 77, 78, 79, 80, 81, 82, 83, 84, 85, 86, 87, 88, 89, 90, 91, 92, 93, 94, 95, 96, 97, 98, 99, 100, 101, 102, 103, 104, 105, 106, 107, 108, 109, 110, 111, 112, 113, 114, 115, 116, 117, 118, 119, 120, 121, 122, 123, 124, 125, 126, 127, 128, 129, 130, 131, 132, 133, 134, 135, 136, 137, 138, 139, 140, 141, 142, 143, 144, 145, 146, 147, 148, 149, 150, 151, 155, 156, 157, 158, 159, 160, 161, 162, 163, 164, 165, 166, 167, 168, 169, 170, 171, 172, 173, 174, 175, 176, 177, 178, 179, 180, 181, 182, 183, 184, 185, 186, 187, 188, 189, 190, 191, 192, 193, 194, 195, 196] (by decide +kernel) (by decide +kernel)
set_option maxRecDepth 20000 in
theorem gX7_leadsOn_X7_standsBehind : GoodIn wsX7_leadsOn (wsV RX7 219 RX7 yX7_standsBehind wsX7_standsBehind) := goodIn_app (goodIn_of _ (by decide +kernel)) ggX7_leadsOn_X7_standsBehind
set_option maxRecDepth 20000 in
theorem ggX7_leadsOn_X7_leadsOn : GoodIn wsX7_leadsOn wsX7_leadsOn := goodIn_r _ [0, 1, 2, 3, 4, 5, 6, 7, 8, 9, 10, 11, 12, 13, 14, 15, 16, 17, 18, 19, 20, 21, 22, 23, 24, 25, 26, 27, 28, 29, 30, 31, 32, 33, 34, 35, 36, 37, 38, 39, 40, 41, 42, 43, 44, 45, 46, 47, 48, 49, 50, 51, 52, 53, 54, 55, 56, 57, 58, 59, 60, 61, 62, 63, 64, 65, 66, 67, 68, 69, 70, 71, 72, 73, 74, 75, 76, 77, 78, 79, 80, 81, 82, 83, 84, 85, 86, 87, 88, 89, 90, 91, 92, 93, 94, 95, 96, 97, 98, 99, 100, 101, 102, 103, 104, 105, 106, 107, 108, 109, 110, 111, 112, 113, 114, 115, 116, 117, 118, 119, 120, 121, 122, 123, 124, 125, 126, 127, 128, 129, 130, 131, 132, 133, 134, 135, 136, 137, 138, 139, 140, 141, 142, 143, 144, 145, 146, 147, 148, 149, 150, 151, 152, 153, 154, 155, 156, 157, 158, 159, 160, 161, 162, 163, 164, 165, 166, 167, 168, 169, 170, 171, 172, 173, 174, 175, 176, 177, 178, 179, 180, 181, 182, 183, 184, 185, 186, 187, 188, 189, 190, 191, 192, 193, 194, 195, 196] (by decide +kernel) (by decide +kernel)
set_option maxRecDepth 20000 in
theorem gX7_leadsOn_X7_leadsOn : GoodIn wsX7_leadsOn (wsV RX7 222 RX7 yX7_leadsOn wsX7_leadsOn) := goodIn_app (goodIn_of _ (by decide +kernel)) ggX7_leadsOn_X7_leadsOn
theorem dX7_leadsOn_0 : decode cX7_leadsOn 0 = .ok (.iload_n 2, 1) := by decide +kernel
theorem dX7_leadsOn_1 : decode cX7_leadsOn 1 = .ok (.aload_n 0, 1) := by decide +kernel
theorem dX7_leadsOn_2 : decode cX7_leadsOn 2 = .ok (.getfield 34, 3) := by decide +kernel
theorem dX7_leadsOn_5 : decode cX7_leadsOn 5 = .ok (.getfield 91, 3) := by decide +kernel
theorem dX7_leadsOn_8 : decode cX7_leadsOn 8 = .ok (.if_icmp .lt 5, 3) := by decide +kernel
theorem dX7_leadsOn_11 : decode cX7_leadsOn 11 = .ok (.iconst 1, 1) := by decide +kernel
theorem dX7_leadsOn_12 : decode cX7_leadsOn 12 = .ok (.ireturn, 1) := by decide +kernel
theorem dX7_leadsOn_13 : decode cX7_leadsOn 13 = .ok (.iconst 0, 1) := by decide +kernel
theorem dX7_leadsOn_14 : decode cX7_leadsOn 14 = .ok (.istore 5, 2) := by decide +kernel
theorem dX7_leadsOn_16 : decode cX7_leadsOn 16 = .ok (.iload 5, 2) := by decide +kernel
theorem dX7_leadsOn_18 : decode cX7_leadsOn 18 = .ok (.aload_n 0, 1) := by decide +kernel
theorem dX7_leadsOn_19 : decode cX7_leadsOn 19 = .ok (.getfield 34, 3) := by decide +kernel
theorem dX7_leadsOn_22 : decode cX7_leadsOn 22 = .ok (.getfield 91, 3) := by decide +kernel
theorem dX7_leadsOn_25 : decode cX7_leadsOn 25 = .ok (.if_icmp .ge 103, 3) := by decide +kernel
theorem dX7_leadsOn_28 : decode cX7_leadsOn 28 = .ok (.iload_n 1, 1) := by decide +kernel
theorem dX7_leadsOn_29 : decode cX7_leadsOn 29 = .ok (.iconst 1, 1) := by decide +kernel
theorem dX7_leadsOn_30 : decode cX7_leadsOn 30 = .ok (.iload 5, 2) := by decide +kernel
theorem dX7_leadsOn_32 : decode cX7_leadsOn 32 = .ok (.ishl, 1) := by decide +kernel
theorem dX7_leadsOn_33 : decode cX7_leadsOn 33 = .ok (.ior, 1) := by decide +kernel
theorem dX7_leadsOn_34 : decode cX7_leadsOn 34 = .ok (.istore 6, 2) := by decide +kernel
theorem dX7_leadsOn_36 : decode cX7_leadsOn 36 = .ok (.iload 6, 2) := by decide +kernel
theorem dX7_leadsOn_38 : decode cX7_leadsOn 38 = .ok (.iload_n 1, 1) := by decide +kernel
theorem dX7_leadsOn_39 : decode cX7_leadsOn 39 = .ok (.if_icmp .eq 83, 3) := by decide +kernel
theorem dX7_leadsOn_42 : decode cX7_leadsOn 42 = .ok (.aload_n 0, 1) := by decide +kernel
theorem dX7_leadsOn_43 : decode cX7_leadsOn 43 = .ok (.getfield 65, 3) := by decide +kernel
theorem dX7_leadsOn_46 : decode cX7_leadsOn 46 = .ok (.iload 6, 2) := by decide +kernel
theorem dX7_leadsOn_48 : decode cX7_leadsOn 48 = .ok (.baload, 1) := by decide +kernel
theorem dX7_leadsOn_49 : decode cX7_leadsOn 49 = .ok (.ifCond .ne 73, 3) := by decide +kernel
theorem dX7_leadsOn_52 : decode cX7_leadsOn 52 = .ok (.aload_n 0, 1) := by decide +kernel
theorem dX7_leadsOn_53 : decode cX7_leadsOn 53 = .ok (.getfield 69, 3) := by decide +kernel
theorem dX7_leadsOn_56 : decode cX7_leadsOn 56 = .ok (.iload_n 2, 1) := by decide +kernel
theorem dX7_leadsOn_57 : decode cX7_leadsOn 57 = .ok (.iload 5, 2) := by decide +kernel
theorem dX7_leadsOn_59 : decode cX7_leadsOn 59 = .ok (.iastore, 1) := by decide +kernel
theorem dX7_leadsOn_60 : decode cX7_leadsOn 60 = .ok (.iload_n 2, 1) := by decide +kernel
theorem dX7_leadsOn_61 : decode cX7_leadsOn 61 = .ok (.iconst 1, 1) := by decide +kernel
theorem dX7_leadsOn_62 : decode cX7_leadsOn 62 = .ok (.iadd, 1) := by decide +kernel
theorem dX7_leadsOn_63 : decode cX7_leadsOn 63 = .ok (.aload_n 0, 1) := by decide +kernel
theorem dX7_leadsOn_64 : decode cX7_leadsOn 64 = .ok (.getfield 34, 3) := by decide +kernel
theorem dX7_leadsOn_67 : decode cX7_leadsOn 67 = .ok (.getfield 91, 3) := by decide +kernel
theorem dX7_leadsOn_70 : decode cX7_leadsOn 70 = .ok (.if_icmp .ne 7, 3) := by decide +kernel
theorem dX7_leadsOn_73 : decode cX7_leadsOn 73 = .ok (.iconst 1, 1) := by decide +kernel
theorem dX7_leadsOn_74 : decode cX7_leadsOn 74 = .ok (.goto 4, 3) := by decide +kernel
theorem dX7_leadsOn_77 : decode cX7_leadsOn 77 = .ok (.iconst 0, 1) := by decide +kernel
theorem dX7_leadsOn_78 : decode cX7_leadsOn 78 = .ok (.istore 7, 2) := by decide +kernel
theorem dX7_leadsOn_80 : decode cX7_leadsOn 80 = .ok (.iload 7, 2) := by decide +kernel
theorem dX7_leadsOn_82 : decode cX7_leadsOn 82 = .ok (.ifCond .ne 30, 3) := by decide +kernel
theorem dX7_leadsOn_85 : decode cX7_leadsOn 85 = .ok (.aload_n 0, 1) := by decide +kernel
theorem dX7_leadsOn_86 : decode cX7_leadsOn 86 = .ok (.iload 6, 2) := by decide +kernel
theorem dX7_leadsOn_88 : decode cX7_leadsOn 88 = .ok (.iload_n 3, 1) := by decide +kernel
theorem dX7_leadsOn_89 : decode cX7_leadsOn 89 = .ok (.iload 4, 2) := by decide +kernel
theorem dX7_leadsOn_91 : decode cX7_leadsOn 91 = .ok (.invokevirtual 219, 3) := by decide +kernel
theorem dX7_leadsOn_94 : decode cX7_leadsOn 94 = .ok (.ifCond .eq 20, 3) := by decide +kernel
theorem dX7_leadsOn_97 : decode cX7_leadsOn 97 = .ok (.aload_n 0, 1) := by decide +kernel
theorem dX7_leadsOn_98 : decode cX7_leadsOn 98 = .ok (.iload 6, 2) := by decide +kernel
theorem dX7_leadsOn_100 : decode cX7_leadsOn 100 = .ok (.iload_n 2, 1) := by decide +kernel
theorem dX7_leadsOn_101 : decode cX7_leadsOn 101 = .ok (.iconst 1, 1) := by decide +kernel
theorem dX7_leadsOn_102 : decode cX7_leadsOn 102 = .ok (.iadd, 1) := by decide +kernel
theorem dX7_leadsOn_103 : decode cX7_leadsOn 103 = .ok (.iload_n 3, 1) := by decide +kernel
theorem dX7_leadsOn_104 : decode cX7_leadsOn 104 = .ok (.iload 4, 2) := by decide +kernel
theorem dX7_leadsOn_106 : decode cX7_leadsOn 106 = .ok (.invokevirtual 222, 3) := by decide +kernel
theorem dX7_leadsOn_109 : decode cX7_leadsOn 109 = .ok (.ifCond .eq 5, 3) := by decide +kernel
theorem dX7_leadsOn_112 : decode cX7_leadsOn 112 = .ok (.iconst 1, 1) := by decide +kernel
theorem dX7_leadsOn_113 : decode cX7_leadsOn 113 = .ok (.ireturn, 1) := by decide +kernel
theorem dX7_leadsOn_114 : decode cX7_leadsOn 114 = .ok (.aload_n 0, 1) := by decide +kernel
theorem dX7_leadsOn_115 : decode cX7_leadsOn 115 = .ok (.getfield 65, 3) := by decide +kernel
theorem dX7_leadsOn_118 : decode cX7_leadsOn 118 = .ok (.iload 6, 2) := by decide +kernel
theorem dX7_leadsOn_120 : decode cX7_leadsOn 120 = .ok (.iconst 1, 1) := by decide +kernel
theorem dX7_leadsOn_121 : decode cX7_leadsOn 121 = .ok (.bastore, 1) := by decide +kernel
theorem dX7_leadsOn_122 : decode cX7_leadsOn 122 = .ok (.iinc 5 1, 3) := by decide +kernel
theorem dX7_leadsOn_125 : decode cX7_leadsOn 125 = .ok (.goto (-109), 3) := by decide +kernel
theorem dX7_leadsOn_128 : decode cX7_leadsOn 128 = .ok (.iconst 0, 1) := by decide +kernel
theorem dX7_leadsOn_129 : decode cX7_leadsOn 129 = .ok (.ireturn, 1) := by decide +kernel
end
section
/-! numbers as Ints: an int or a long by a whole number -/
def iI (z : Int) : Int32 := Int32.ofInt z
def lL (z : Int) : Int64 := Int64.ofInt z
abbrev r32 (z : Int) : Prop := -2147483648 ≤ z ∧ z ≤ 2147483647
abbrev r64 (z : Int) : Prop := -9223372036854775808 ≤ z ∧ z ≤ 9223372036854775807
theorem iI_toInt {z : Int} (h : r32 z) : (iI z).toInt = z := by
  unfold iI
  rw [Int32.toInt_ofInt, Int.bmod_def, show Int32.size = 4294967296 from rfl]
  obtain ⟨h1, h2⟩ := h
  split <;> omega
theorem lL_toInt {z : Int} (h : r64 z) : (lL z).toInt = z := by
  unfold lL
  rw [Int64.toInt_ofInt, Int.bmod_def, show Int64.size = 18446744073709551616 from rfl]
  obtain ⟨h1, h2⟩ := h
  split <;> omega
theorem iI_of (x : Int32) : x = iI x.toInt := by unfold iI; rw [Int32.ofInt_toInt]
theorem lL_of (x : Int64) : x = lL x.toInt := by unfold lL; rw [Int64.ofInt_toInt]
theorem i_r32 (x : Int32) : r32 x.toInt := by
  have h1 := Int32.le_toInt x
  have h2 := Int32.toInt_lt x
  constructor <;> omega
theorem l_r64 (x : Int64) : r64 x.toInt := by
  have h1 := Int64.le_toInt x
  have h2 := Int64.toInt_lt x
  constructor <;> omega
theorem iI_add (a b : Int) : iI a + iI b = iI (a + b) := by unfold iI; rw [Int32.ofInt_add]
theorem iI_sub (a b : Int) : iI a - iI b = iI (a - b) := by unfold iI; rw [Int32.ofInt_sub]
theorem iI_mul (a b : Int) : iI a * iI b = iI (a * b) := by unfold iI; rw [Int32.ofInt_mul]
theorem iI_neg (a : Int) : -iI a = iI (-a) := by unfold iI; rw [Int32.ofInt_neg]
theorem lL_add (a b : Int) : lL a + lL b = lL (a + b) := by unfold lL; rw [Int64.ofInt_add]
theorem lL_sub (a b : Int) : lL a - lL b = lL (a - b) := by unfold lL; rw [Int64.ofInt_sub]
theorem lL_mul (a b : Int) : lL a * lL b = lL (a * b) := by unfold lL; rw [Int64.ofInt_mul]
theorem iI_lt {a b : Int} (ha : r32 a) (hb : r32 b) : iI a < iI b ↔ a < b := by rw [Int32.lt_iff_toInt_lt, iI_toInt ha, iI_toInt hb]
theorem iI_le {a b : Int} (ha : r32 a) (hb : r32 b) : iI a ≤ iI b ↔ a ≤ b := by rw [Int32.le_iff_toInt_le, iI_toInt ha, iI_toInt hb]
theorem iI_eq {a b : Int} (ha : r32 a) (hb : r32 b) : iI a = iI b ↔ a = b := by rw [← Int32.toInt_inj, iI_toInt ha, iI_toInt hb]
theorem lL_lt {a b : Int} (ha : r64 a) (hb : r64 b) : lL a < lL b ↔ a < b := by rw [Int64.lt_iff_toInt_lt, lL_toInt ha, lL_toInt hb]
theorem lL_eq {a b : Int} (ha : r64 a) (hb : r64 b) : lL a = lL b ↔ a = b := by rw [← Int64.toInt_inj, lL_toInt ha, lL_toInt hb]
theorem iI_0 : iI 0 = 0 := by decide +kernel
theorem iI_in {z : Int} {n : Nat} (h0 : 0 ≤ z) (h1 : z < n) (hn : n < 2 ^ 31) : vp_in (iI z) n := by
  rw [vp_in_iff, iI_toInt ⟨by omega, by omega⟩]
  exact ⟨h0, h1⟩
theorem iI_cl {z : Int} (h0 : 0 ≤ z) (h1 : z ≤ 2147483647) : (iI z).toNatClampNeg = z.toNat := by
  unfold Int32.toNatClampNeg
  rw [iI_toInt ⟨by omega, h1⟩]
theorem iI_bool {z : Int} (h : z = 0 ∨ z = 1) : narrow .boolean (.int (iI z)) = .int (iI z) := by rcases h with rfl | rfl <;> decide +kernel
/-! the system's memory: whole numbers, longs and references by an object's number and a place in it -/
abbrev Mem : Type := (Nat → Nat → Int) × (Nat → Nat → Int) × (Nat → Nat → Option Nat)
def sI (M : Mem) (a k : Nat) (z : Int) : Mem := (fun x j => if x = a ∧ j = k then z else M.1 x j, M.2)
def sL (M : Mem) (a k : Nat) (z : Int) : Mem := (M.1, fun x j => if x = a ∧ j = k then z else M.2.1 x j, M.2.2)
def sR (M : Mem) (a k : Nat) (z : Option Nat) : Mem := (M.1, M.2.1, fun x j => if x = a ∧ j = k then z else M.2.2 x j)
/-- the roles of the objects, in the order in which the law makes them -/
def kdL : List Nat := [0, 1, 2, 3, 4, 5, 6, 7, 8, 9, 10, 11, 8, 9, 10, 11, 8, 9, 10, 11, 8, 9, 10, 11, 8, 9, 10, 11, 8, 9, 10, 11, 8, 9, 10, 11, 8, 9, 10, 11, 8, 9, 10, 11, 8, 9, 10, 11, 8, 9, 10, 11, 8, 9, 10, 11,
  12, 7, 8, 10, 11, 8, 10, 11, 8, 10, 11, 8, 10, 11, 8, 10, 11, 8, 10, 11, 8, 10, 11, 8, 10, 11, 8, 10, 11, 8, 10, 11, 8, 10, 11, 8, 10, 11,
  13, 14, 15, 16, 17, 18, 19, 20, 22, 21, 22, 23, 23, 24, 25, 25, 30, 31, 32, 33, 34, 35, 36, 37, 38, 39, 40, 41, 42, 43, 44, 45, 46, 47, 48, 49, 50]
def kd (a : Nat) : Nat := kdL.getD a 99
def nAll : Nat := 131
theorem kdL_len : kdL.length = nAll := by decide +kernel
/-- a role's shape: 0 an object of a class, else an array (1 int, 2 long, 3 boolean, 4 Column) with its length -/
def shp (r : Nat) : Nat × Nat := match r with
  | 0 => (0, 7) | 1 => (0, 2) | 2 => (1, 6) | 3 => (1, 6) | 4 => (1, 6) | 5 => (3, 6) | 6 => (0, 4) | 7 => (4, 12) | 8 => (0, 1) | 9 => (1, 24) | 10 => (1, 25) | 11 => (1, 125)
  | 12 => (0, 4) | 13 => (0, 0) | 14 => (1, 6) | 15 => (1, 6) | 16 => (1, 6) | 17 => (0, 6) | 18 => (2, 325) | 19 => (2, 12) | 20 => (0, 5) | 21 => (0, 5) | 22 => (1, 13) | 23 => (0, 3) | 24 => (3, 64) | 25 => (1, 6) | 26 => (1, 6)
  | 30 => (0, 8) | 31 => (1, 6) | 32 => (1, 6) | 33 => (1, 6) | 34 => (3, 6) | 35 => (1, 288) | 36 => (1, 24) | 37 => (1, 24) | 38 => (1, 24) | 39 => (1, 24) | 40 => (1, 6) | 41 => (1, 6) | 42 => (1, 6) | 43 => (1, 13) | 44 => (2, 325) | 45 => (2, 325) | 46 => (2, 325) | 47 => (1, 13) | 48 => (1, 6) | 49 => (1, 6)
  | _ => (2, 1)
/-- the kinds of a class's fields: 0 an int, 1 a long, 2 a reference, 3 a boolean -/
def fks (ci : Nat) : List Nat := match ci with
  | 0 => [0, 2, 2, 2]
  | 1 => [2, 0, 0, 0, 0, 2, 2, 2, 3]
  | 2 => [2, 2, 2, 2, 0]
  | 3 => [1, 1]
  | 4 => [2, 0]
  | 5 => [2, 0, 0]
  | 6 => [2, 2, 2, 1, 1, 0, 3]
  | 7 => [2, 2, 2, 2, 2, 2, 2, 2, 2, 2, 2, 2, 0, 3, 3]
  | _ => [0, 0, 2, 2, 2, 2, 2, 2, 2, 2, 2, 0, 0, 2, 2, 2, 0, 0, 2, 0, 2, 2, 2, 1, 1, 1, 3, 1, 1, 0, 0, 2, 2, 2, 0]
abbrev xG : Type := va_G × (Nat → ClassId) × Nat
def xTys (G : xG) : List (ClassId × FieldType) := [(G.2.1 0, .int), (G.2.1 1, .long), (G.2.1 2, .boolean), (G.2.1 3, .object "SlipBench$Column")]
def cv (b : Nat) (v : Value) : Value := match v with
  | .ref k => .ref (b + k)
  | v => v
def xF (b : Nat) (M : Mem) (a : Nat) (k : Nat) (t : Nat) : Value := match t with
  | 1 => .long (lL (M.2.1 a k))
  | 2 => va_rf ((M.2.2 a k).map (b + ·))
  | _ => .int (iI (M.1 a k))
def xFs (b : Nat) (M : Mem) (a : Nat) (k : Nat) (l : List Nat) : List Value := match l with
  | [] => []
  | t :: r => xF b M a k t :: xFs b M a (k + 1) r
def xE (G : xG) (M : Mem) (a : Nat) : va_E := match shp (kd a) with
  | (0, ci) => .inr (ci, xFs G.2.2 M a 0 (fks ci))
  | (1, n) => .inl (G.2.1 0, n, .inl (fun j => iI (M.1 a j)))
  | (2, n) => .inl (G.2.1 1, n, .inr (.inl (fun j => lL (M.2.1 a j))))
  | (3, n) => .inl (G.2.1 2, n, .inl (fun j => iI (M.1 a j)))
  | (_, n) => .inl (G.2.1 3, n, .inr (.inr (.inr (.inr (fun j => (M.2.2 a j).map (G.2.2 + ·))))))
def xWs (G : xG) (n : Nat) (M : Mem) : va_W := (List.range n).map fun a => (G.2.2 + a, xE G M a)
theorem xWs_at {G : xG} {n : Nat} {M : Mem} {a : Nat} (h : a < n) : (xWs G n M)[a]? = some (G.2.2 + a, xE G M a) := by
  unfold xWs
  rw [List.getElem?_map, List.getElem?_range h]
  rfl
theorem xWs_inv {G : xG} {n : Nat} {M : Mem} {a : Nat} {q : Nat × va_E} (h : (xWs G n M)[a]? = some q) : a < n ∧ q = (G.2.2 + a, xE G M a) := by
  have hl : a < n := by
    have h1 := (List.getElem?_eq_some_iff.mp h).1
    unfold xWs at h1
    rwa [List.length_map, List.length_range] at h1
  exact ⟨hl, (Option.some.inj ((xWs_at hl).symm.trans h)).symm⟩
theorem xD {G : xG} {n : Nat} {M : Mem} : va_D (fun q => G.2.2 ≤ q) (xWs G n M) := by
  refine ⟨fun i j p q hi hj h => ?_, fun k q hk => ?_⟩
  · obtain ⟨-, rfl⟩ := xWs_inv hi
    obtain ⟨-, rfl⟩ := xWs_inv hj
    have h1 : G.2.2 + i = G.2.2 + j := h
    omega
  · obtain ⟨-, rfl⟩ := xWs_inv hk
    exact Nat.le_add_right _ _
theorem xWs_set {G : xG} {n : Nat} {M M' : Mem} {a : Nat} {e : va_E} (hl : a < n) (he : xE G M' a = e) (ho : ∀ b, b ≠ a → xE G M' b = xE G M b) : (xWs G n M).set a (G.2.2 + a, e) = xWs G n M' := by
  apply List.ext_getElem?
  intro j
  by_cases hj : j = a
  · subst hj
    rw [List.getElem?_set_self (by unfold xWs; rw [List.length_map, List.length_range]; exact hl), xWs_at hl, he]
  · rw [List.getElem?_set_ne (Ne.symm hj)]
    by_cases hn : j < n
    · rw [xWs_at hn, xWs_at hn, ho j hj]
    · have e1 : ∀ M0 : Mem, (xWs G n M0)[j]? = none := fun M0 => List.getElem?_eq_none (by unfold xWs; rw [List.length_map, List.length_range]; omega)
      rw [e1, e1]
/-- cells of other objects stay -/
theorem xFs_o {b : Nat} {M M' : Mem} {a : Nat} (h1 : M'.1 a = M.1 a) (h2 : M'.2.1 a = M.2.1 a) (h3 : M'.2.2 a = M.2.2 a) : ∀ (l : List Nat) (k : Nat), xFs b M' a k l = xFs b M a k l := by
  intro l
  induction l with
  | nil => intro k; rfl
  | cons t r ih =>
    intro k
    unfold xFs
    rw [ih]
    have e : xF b M' a k t = xF b M a k t := by
      unfold xF
      rw [h1, h2, h3]
    rw [e]
theorem xE_o {G : xG} {M M' : Mem} {a : Nat} (h1 : M'.1 a = M.1 a) (h2 : M'.2.1 a = M.2.1 a) (h3 : M'.2.2 a = M.2.2 a) : xE G M' a = xE G M a := by
  unfold xE
  rw [h1, h2, h3]
  split <;> first | rfl | rw [xFs_o h1 h2 h3]
theorem sI_o {M : Mem} {a k : Nat} {z : Int} {b : Nat} (h : b ≠ a) : (sI M a k z).1 b = M.1 b := by funext j; simp [sI, h]
theorem sL_o {M : Mem} {a k : Nat} {z : Int} {b : Nat} (h : b ≠ a) : (sL M a k z).2.1 b = M.2.1 b := by funext j; simp [sL, h]
theorem sR_o {M : Mem} {a k : Nat} {z : Option Nat} {b : Nat} (h : b ≠ a) : (sR M a k z).2.2 b = M.2.2 b := by funext j; simp [sR, h]
theorem sI_at {M : Mem} {a k : Nat} {z : Int} : (sI M a k z).1 a k = z := by simp [sI]
theorem sI_ne {M : Mem} {a k b j : Nat} {z : Int} (h : ¬ (b = a ∧ j = k)) : (sI M a k z).1 b j = M.1 b j := by simp only [sI, if_neg h]
theorem xFs_len {b : Nat} {M : Mem} {a : Nat} : ∀ (l : List Nat) (k : Nat), (xFs b M a k l).length = l.length := by
  intro l
  induction l with
  | nil => intro k; rfl
  | cons t r ih => intro k; unfold xFs; rw [List.length_cons, List.length_cons, ih]
theorem xFs_at {b : Nat} {M : Mem} {a : Nat} : ∀ (l : List Nat) (k i t : Nat), l[i]? = some t → (xFs b M a k l)[i]? = some (xF b M a (k + i) t) := by
  intro l
  induction l with
  | nil => intro k i t h; simp at h
  | cons q r ih =>
    intro k i t h
    unfold xFs
    cases i with
    | zero => simp at h; subst h; simp
    | succ i =>
      rw [List.getElem?_cons_succ] at h ⊢
      rw [ih (k + 1) i t h, show k + 1 + i = k + (i + 1) by omega]
/-- a field's store -/
theorem xFs_set {b : Nat} {M M' : Mem} {a : Nat} {v : Value} : ∀ (l : List Nat) (k i t : Nat), l[i]? = some t → xF b M' a (k + i) t = v → (∀ j u, j ≠ k + i → l[j - k]? = some u → k ≤ j → xF b M' a j u = xF b M a j u) → (xFs b M a k l).set i v = xFs b M' a k l := by
  intro l
  induction l with
  | nil => intro k i t h; simp at h
  | cons q r ih =>
    intro k i t h hv ho
    unfold xFs
    cases i with
    | zero =>
      simp at h; subst h
      rw [List.set_cons_zero]
      congr 1
      · exact hv.symm
      · have key : ∀ (l2 : List Nat) (k2 : Nat), (∀ j u, k2 ≤ j → l2[j - k2]? = some u → xF b M' a j u = xF b M a j u) → xFs b M a k2 l2 = xFs b M' a k2 l2 := by
          intro l2
          induction l2 with
          | nil => intro k2 _; rfl
          | cons q2 r2 ih2 =>
            intro k2 h2
            unfold xFs
            rw [h2 k2 q2 (Nat.le_refl _) (by simp), ih2 (k2 + 1) (fun j u hj hu => h2 j u (by omega) (by
              rw [show j - k2 = (j - (k2 + 1)) + 1 by omega, List.getElem?_cons_succ]; exact hu))]
        exact key r (k + 1) (fun j u hj hu => ho j u (by omega) (by rw [show j - k = (j - (k + 1)) + 1 by omega, List.getElem?_cons_succ]; exact hu) (by omega))
    | succ i =>
      rw [List.getElem?_cons_succ] at h
      rw [List.set_cons_succ]
      congr 1
      · exact (ho k q (by omega) (by simp) (Nat.le_refl _)).symm
      · exact ih (k + 1) i t h (by rw [show k + 1 + i = k + (i + 1) by omega]; exact hv) (fun j u hj hu hk => ho j u (by omega) (by rw [show j - k = (j - (k + 1)) + 1 by omega, List.getElem?_cons_succ]; exact hu) (by omega))
end
section
/-! the judgement: a frame of a method over the system's memory -/
def xNw (U : State) : Prop := va_Nw (.methodLinkNest RX4 32 yX7_within RX7) U ∧ va_Nw (.methodLinkNest RX2 29 yX7_within RX7) U ∧ va_Nw (.methodLinkNest RX0 25 yX7_within RX7) U
theorem xNw.warm {s U : State} (hW : s.WarmedH U.vm) (h : xNw s) : xNw U := ⟨h.1.warmM hW, h.2.1.warmM hW, h.2.2.warmM hW⟩
theorem xNw.same {u U : State} (h : u.vm = U.vm) (hz : xNw u) : xNw U := ⟨hz.1.same rfl h, hz.2.1.same rfl h, hz.2.2.same rfl h⟩
def Cx (p : Program) (s : State) (m : MethodId) (args : Array Value) (meth : Method) (c : Code) (G : xG) (cc : ByteArray) (nL : Nat) (own : String) (Ts : List Cond) (rt : Option FieldType) : Prop :=
  p.tables.exec = Jvm.exec ∧ c.code = cc ∧ c.maxLocals = nL ∧ s.vm.findClass own = some m.cls ∧ (∀ w ∈ Ts, w.before args s = true) ∧ va_K G.1 vwCl (xTys G) s ∧ meth.sig.returnType = rt ∧ meth.locks = false ∧ xNw s
def xLs (G : xG) (lv : List (Nat × Value)) : List (Nat × Value) := lv.map fun q => (q.1, cv G.2.2 q.2)
def AW (p : Program) (l : Launch) (e : Env) (R : Room) (s : State) (m : MethodId) (args : Array Value) (below : List Frame) (meth : Method) (c : Code) (G : xG) (nL : Nat) (Q : State → Prop) (M : Mem) (pc : Nat) (lv : List (Nat × Value)) (st : List Value) : Prop :=
  ∀ (H : Heap) (locs : List Loc) (ls : Array Slot), va_P G.1 vwCl (xWs G nAll M) H → va_S (fun q => G.2.2 ≤ q) s.heap H locs → lv_has ls nL (xLs G lv) → W p l e R s m args below meth c H locs 0 0 Q (F0 m pc ls (st.map (cv G.2.2)))
theorem cv_cat (b : Nat) (v : Value) : (cv b v).category = v.category := by cases v <;> rfl
theorem xLs_at {G : xG} {lv : List (Nat × Value)} {k i : Nat} {v : Value} (h : lv[k]? = some (i, v)) : (xLs G lv)[k]? = some (i, cv G.2.2 v) := by
  unfold xLs
  rw [List.getElem?_map, h]
  rfl
def xput1 (i : Nat) (v : Value) (lv : List (Nat × Value)) : List (Nat × Value) := (i, v) :: lv.filter (fun q => !(q.1 == i) && !(q.1 + 1 == i && q.2.category == 2))
def xput2 (i : Nat) (v : Value) (lv : List (Nat × Value)) : List (Nat × Value) := (i, v) :: lv.filter (fun q => !(q.1 == i) && (!(q.1 == i + 1) && !(q.1 + 1 == i && q.2.category == 2)))
theorem xput1_ls {G : xG} {i : Nat} {v : Value} {lv : List (Nat × Value)} : (i, cv G.2.2 v) :: (xLs G lv).filter (fun q => !(q.1 == i) && !(q.1 + 1 == i && q.2.category == 2)) = xLs G (xput1 i v lv) := by
  unfold xput1 xLs
  rw [List.map_cons, List.filter_map]
  congr 2
  apply List.filter_congr
  intro q _
  simp [Function.comp, cv_cat]
theorem xput2_ls {G : xG} {i : Nat} {v : Value} {lv : List (Nat × Value)} : (i, cv G.2.2 v) :: (xLs G lv).filter (fun q => !(q.1 == i) && (!(q.1 == i + 1) && !(q.1 + 1 == i && q.2.category == 2))) = xLs G (xput2 i v lv) := by
  unfold xput2 xLs
  rw [List.map_cons, List.filter_map]
  congr 2
  apply List.filter_congr
  intro q _
  simp [Function.comp, cv_cat]
section AWR
variable {p : Program} {l : Launch} {e : Env} {R : Room} {s : State} {m : MethodId} {args : Array Value} {below : List Frame} {meth : Method} {c : Code} {G : xG} {nL : Nat} {Q : State → Prop} {M : Mem} {pc : Nat} {lv : List (Nat × Value)} {st : List Value} {cc : ByteArray} {own : String} {Ts : List Cond} {rt : Option FieldType}
theorem A_iconst (C : Cx p s m args meth c G cc nL own Ts rt) {n : Int} (hd : decode cc pc = .ok (.iconst n, 1)) (k : AW p l e R s m args below meth c G nL Q M (pc + 1) lv (.int (iI n) :: st)) : AW p l e R s m args below meth c G nL Q M pc lv st :=
  fun H locs ls hP hS hl => lv_iconst C.1 C.2.1 hd rfl (k H locs ls hP hS hl)
theorem i8 (n : Int) (h : -128 ≤ n ∧ n ≤ 127) : (Int8.ofInt n).toInt32 = iI n := by
  rw [← Int32.toInt_inj, iI_toInt ⟨by omega, by omega⟩, Int8.toInt_toInt32, Int8.toInt_ofInt, Int.bmod_def, show Int8.size = 256 from rfl]
  split <;> omega
theorem i16 (n : Int) (h : -32768 ≤ n ∧ n ≤ 32767) : (Int16.ofInt n).toInt32 = iI n := by
  rw [← Int32.toInt_inj, iI_toInt ⟨by omega, by omega⟩, Int16.toInt_toInt32, Int16.toInt_ofInt, Int.bmod_def, show Int16.size = 65536 from rfl]
  split <;> omega
theorem A_bipush (C : Cx p s m args meth c G cc nL own Ts rt) {n : Int} (hd : decode cc pc = .ok (.bipush n, 2)) (h : -128 ≤ n ∧ n ≤ 127) (k : AW p l e R s m args below meth c G nL Q M (pc + 2) lv (.int (iI n) :: st)) : AW p l e R s m args below meth c G nL Q M pc lv st :=
  fun H locs ls hP hS hl => lv_bipush C.1 C.2.1 hd (i8 n h) (k H locs ls hP hS hl)
theorem A_sipush (C : Cx p s m args meth c G cc nL own Ts rt) {n : Int} (hd : decode cc pc = .ok (.sipush n, 3)) (h : -32768 ≤ n ∧ n ≤ 32767) (k : AW p l e R s m args below meth c G nL Q M (pc + 3) lv (.int (iI n) :: st)) : AW p l e R s m args below meth c G nL Q M pc lv st :=
  fun H locs ls hP hS hl => lv_sipush C.1 C.2.1 hd (i16 n h) (k H locs ls hP hS hl)
theorem A_lconst0 (C : Cx p s m args meth c G cc nL own Ts rt) (hd : decode cc pc = .ok (.lconst 0, 1)) (k : AW p l e R s m args below meth c G nL Q M (pc + 1) lv (.long (lL 0) :: st)) : AW p l e R s m args below meth c G nL Q M pc lv st :=
  fun H locs ls hP hS hl => lv_lconst C.1 C.2.1 hd (by decide +kernel) (k H locs ls hP hS hl)
theorem A_lconst1 (C : Cx p s m args meth c G cc nL own Ts rt) (hd : decode cc pc = .ok (.lconst 1, 1)) (k : AW p l e R s m args below meth c G nL Q M (pc + 1) lv (.long (lL 1) :: st)) : AW p l e R s m args below meth c G nL Q M pc lv st :=
  fun H locs ls hP hS hl => lv_lconst C.1 C.2.1 hd (by decide +kernel) (k H locs ls hP hS hl)
theorem A_ldc2 (C : Cx p s m args meth c G cc nL own Ts rt) {index : Nat} {v : Int64} {z : Int} (hw : Cond.constantLong own index v ∈ Ts) (hv : v = lL z) (hd : decode cc pc = .ok (.ldc2_w index, 3)) (k : AW p l e R s m args below meth c G nL Q M (pc + 3) lv (.long (lL z) :: st)) : AW p l e R s m args below meth c G nL Q M pc lv st :=
  fun H locs ls hP hS hl => by subst hv; exact lv_ldc2 C.1 C.2.1 C.2.2.2.1 (C.2.2.2.2.1 _ hw) hd (k H locs ls hP hS hl)
theorem A_iloadn (C : Cx p s m args meth c G cc nL own Ts rt) {j : Fin 4} {i : Nat} {z : Int} (hd : decode cc pc = .ok (.iload_n j, 1)) (n : Nat) (h : lv[n]? = some (i, .int (iI z))) (hi : (j : Nat) = i) (k : AW p l e R s m args below meth c G nL Q M (pc + 1) lv (.int (iI z) :: st)) : AW p l e R s m args below meth c G nL Q M pc lv st :=
  fun H locs ls hP hS hl => lv_iload_n C.1 C.2.1 hd hi (lv_at hl n (xLs_at h)) (k H locs ls hP hS hl)
theorem A_iload (C : Cx p s m args meth c G cc nL own Ts rt) {i : Nat} {z : Int} (hd : decode cc pc = .ok (.iload i, 2)) (n : Nat) (h : lv[n]? = some (i, .int (iI z))) (k : AW p l e R s m args below meth c G nL Q M (pc + 2) lv (.int (iI z) :: st)) : AW p l e R s m args below meth c G nL Q M pc lv st :=
  fun H locs ls hP hS hl => lv_iload C.1 C.2.1 hd (lv_at hl n (xLs_at h)) (k H locs ls hP hS hl)
theorem A_lloadn (C : Cx p s m args meth c G cc nL own Ts rt) {j : Fin 4} {i : Nat} {z : Int} (hd : decode cc pc = .ok (.lload_n j, 1)) (n : Nat) (h : lv[n]? = some (i, .long (lL z))) (hi : (j : Nat) = i) (k : AW p l e R s m args below meth c G nL Q M (pc + 1) lv (.long (lL z) :: st)) : AW p l e R s m args below meth c G nL Q M pc lv st :=
  fun H locs ls hP hS hl => lv_lload_n C.1 C.2.1 hd hi (lv_at hl n (xLs_at h)) (k H locs ls hP hS hl)
theorem A_lload (C : Cx p s m args meth c G cc nL own Ts rt) {i : Nat} {z : Int} (hd : decode cc pc = .ok (.lload i, 2)) (n : Nat) (h : lv[n]? = some (i, .long (lL z))) (k : AW p l e R s m args below meth c G nL Q M (pc + 2) lv (.long (lL z) :: st)) : AW p l e R s m args below meth c G nL Q M pc lv st :=
  fun H locs ls hP hS hl => lv_lload C.1 C.2.1 hd (lv_at hl n (xLs_at h)) (k H locs ls hP hS hl)
theorem A_aloadn (C : Cx p s m args meth c G cc nL own Ts rt) {j : Fin 4} {i a : Nat} (hd : decode cc pc = .ok (.aload_n j, 1)) (n : Nat) (h : lv[n]? = some (i, .ref a)) (hi : (j : Nat) = i) (k : AW p l e R s m args below meth c G nL Q M (pc + 1) lv (.ref a :: st)) : AW p l e R s m args below meth c G nL Q M pc lv st :=
  fun H locs ls hP hS hl => lv_aload_n C.1 C.2.1 hd hi (lv_at hl n (xLs_at h)) (k H locs ls hP hS hl)
theorem A_aload (C : Cx p s m args meth c G cc nL own Ts rt) {i a : Nat} (hd : decode cc pc = .ok (.aload i, 2)) (n : Nat) (h : lv[n]? = some (i, .ref a)) (k : AW p l e R s m args below meth c G nL Q M (pc + 2) lv (.ref a :: st)) : AW p l e R s m args below meth c G nL Q M pc lv st :=
  fun H locs ls hP hS hl => lv_aload C.1 C.2.1 hd (lv_at hl n (xLs_at h)) (k H locs ls hP hS hl)
theorem A_istoren (C : Cx p s m args meth c G cc nL own Ts rt) {j : Fin 4} {i : Nat} {z : Int} {lv' : List (Nat × Value)} (hd : decode cc pc = .ok (.istore_n j, 1)) (hi : (j : Nat) = i) (hn : i < nL) (h : xput1 i (.int (iI z)) lv = lv') (k : AW p l e R s m args below meth c G nL Q M (pc + 1) lv' st) : AW p l e R s m args below meth c G nL Q M pc lv (.int (iI z) :: st) :=
  fun H locs ls hP hS hl => lv_istore_n C.1 C.2.1 hd hi hl hn (xput1_ls (v := .int (iI z))) (fun ls' hl' => by subst h; exact k H locs ls' hP hS hl')
theorem A_istore (C : Cx p s m args meth c G cc nL own Ts rt) {i : Nat} {z : Int} {lv' : List (Nat × Value)} (hd : decode cc pc = .ok (.istore i, 2)) (hn : i < nL) (h : xput1 i (.int (iI z)) lv = lv') (k : AW p l e R s m args below meth c G nL Q M (pc + 2) lv' st) : AW p l e R s m args below meth c G nL Q M pc lv (.int (iI z) :: st) :=
  fun H locs ls hP hS hl => lv_istore C.1 C.2.1 hd hl hn (xput1_ls (v := .int (iI z))) (fun ls' hl' => by subst h; exact k H locs ls' hP hS hl')
theorem A_lstoren (C : Cx p s m args meth c G cc nL own Ts rt) {j : Fin 4} {i : Nat} {z : Int} {lv' : List (Nat × Value)} (hd : decode cc pc = .ok (.lstore_n j, 1)) (hi : (j : Nat) = i) (hn : i + 1 < nL) (h : xput2 i (.long (lL z)) lv = lv') (k : AW p l e R s m args below meth c G nL Q M (pc + 1) lv' st) : AW p l e R s m args below meth c G nL Q M pc lv (.long (lL z) :: st) :=
  fun H locs ls hP hS hl => lv_lstore_n C.1 C.2.1 hd hi hl hn (xput2_ls (v := .long (lL z))) (fun ls' hl' => by subst h; exact k H locs ls' hP hS hl')
theorem A_lstore (C : Cx p s m args meth c G cc nL own Ts rt) {i : Nat} {z : Int} {lv' : List (Nat × Value)} (hd : decode cc pc = .ok (.lstore i, 2)) (hn : i + 1 < nL) (h : xput2 i (.long (lL z)) lv = lv') (k : AW p l e R s m args below meth c G nL Q M (pc + 2) lv' st) : AW p l e R s m args below meth c G nL Q M pc lv (.long (lL z) :: st) :=
  fun H locs ls hP hS hl => lv_lstore C.1 C.2.1 hd hl hn (xput2_ls (v := .long (lL z))) (fun ls' hl' => by subst h; exact k H locs ls' hP hS hl')
theorem A_astoren (C : Cx p s m args meth c G cc nL own Ts rt) {j : Fin 4} {i a : Nat} {lv' : List (Nat × Value)} (hd : decode cc pc = .ok (.astore_n j, 1)) (hi : (j : Nat) = i) (hn : i < nL) (h : xput1 i (.ref a) lv = lv') (k : AW p l e R s m args below meth c G nL Q M (pc + 1) lv' st) : AW p l e R s m args below meth c G nL Q M pc lv (.ref a :: st) :=
  fun H locs ls hP hS hl => lv_astore_n C.1 C.2.1 hd hi hl hn (xput1_ls (v := .ref a)) (fun ls' hl' => by subst h; exact k H locs ls' hP hS hl')
theorem A_astore (C : Cx p s m args meth c G cc nL own Ts rt) {i a : Nat} {lv' : List (Nat × Value)} (hd : decode cc pc = .ok (.astore i, 2)) (hn : i < nL) (h : xput1 i (.ref a) lv = lv') (k : AW p l e R s m args below meth c G nL Q M (pc + 2) lv' st) : AW p l e R s m args below meth c G nL Q M pc lv (.ref a :: st) :=
  fun H locs ls hP hS hl => lv_astore C.1 C.2.1 hd hl hn (xput1_ls (v := .ref a)) (fun ls' hl' => by subst h; exact k H locs ls' hP hS hl')
theorem A_iinc (C : Cx p s m args meth c G cc nL own Ts rt) {i : Nat} {d z : Int} {lv' : List (Nat × Value)} (hd : decode cc pc = .ok (.iinc i d, 3)) (n : Nat) (h : lv[n]? = some (i, .int (iI z))) (hn : i < nL) (h' : xput1 i (.int (iI (z + d))) lv = lv') (k : AW p l e R s m args below meth c G nL Q M (pc + 3) lv' st) : AW p l e R s m args below meth c G nL Q M pc lv st :=
  fun H locs ls hP hS hl => lv_iinc C.1 C.2.1 hd hl (xLs_at h) (iI_add z d) hn (xput1_ls (v := .int (iI (z + d)))) (fun ls' hl' => by subst h'; exact k H locs ls' hP hS hl')
theorem A_pick (ks : List Nat) {lv' : List (Nat × Value)} (h : lv_pick lv ks = lv') (k : AW p l e R s m args below meth c G nL Q M pc lv' st) : AW p l e R s m args below meth c G nL Q M pc lv st :=
  fun H locs ls hP hS hl => k H locs ls hP hS (lv_sub hl ks (by
    subst h
    unfold lv_pick xLs
    rw [List.map_filterMap]
    congr 1
    funext q
    rw [List.getElem?_map]))
theorem A_iadd (C : Cx p s m args meth c G cc nL own Ts rt) {a b : Int} (hd : decode cc pc = .ok (.iadd, 1)) (k : AW p l e R s m args below meth c G nL Q M (pc + 1) lv (.int (iI (a + b)) :: st)) : AW p l e R s m args below meth c G nL Q M pc lv (.int (iI b) :: .int (iI a) :: st) :=
  fun H locs ls hP hS hl => lv_iadd C.1 C.2.1 hd (by rw [iI_add]; exact k H locs ls hP hS hl)
theorem A_isub (C : Cx p s m args meth c G cc nL own Ts rt) {a b : Int} (hd : decode cc pc = .ok (.isub, 1)) (k : AW p l e R s m args below meth c G nL Q M (pc + 1) lv (.int (iI (a - b)) :: st)) : AW p l e R s m args below meth c G nL Q M pc lv (.int (iI b) :: .int (iI a) :: st) :=
  fun H locs ls hP hS hl => lv_isub C.1 C.2.1 hd (by rw [iI_sub]; exact k H locs ls hP hS hl)
theorem A_imul (C : Cx p s m args meth c G cc nL own Ts rt) {a b : Int} (hd : decode cc pc = .ok (.imul, 1)) (k : AW p l e R s m args below meth c G nL Q M (pc + 1) lv (.int (iI (a * b)) :: st)) : AW p l e R s m args below meth c G nL Q M pc lv (.int (iI b) :: .int (iI a) :: st) :=
  fun H locs ls hP hS hl => lv_imul C.1 C.2.1 hd (by rw [iI_mul]; exact k H locs ls hP hS hl)
theorem A_ladd (C : Cx p s m args meth c G cc nL own Ts rt) {a b : Int} (hd : decode cc pc = .ok (.ladd, 1)) (k : AW p l e R s m args below meth c G nL Q M (pc + 1) lv (.long (lL (a + b)) :: st)) : AW p l e R s m args below meth c G nL Q M pc lv (.long (lL b) :: .long (lL a) :: st) :=
  fun H locs ls hP hS hl => lv_ladd C.1 C.2.1 hd (by rw [lL_add]; exact k H locs ls hP hS hl)
theorem A_lsub (C : Cx p s m args meth c G cc nL own Ts rt) {a b : Int} (hd : decode cc pc = .ok (.lsub, 1)) (k : AW p l e R s m args below meth c G nL Q M (pc + 1) lv (.long (lL (a - b)) :: st)) : AW p l e R s m args below meth c G nL Q M pc lv (.long (lL b) :: .long (lL a) :: st) :=
  fun H locs ls hP hS hl => lv_lsub C.1 C.2.1 hd (by rw [lL_sub]; exact k H locs ls hP hS hl)
theorem A_lmul (C : Cx p s m args meth c G cc nL own Ts rt) {a b : Int} (hd : decode cc pc = .ok (.lmul, 1)) (k : AW p l e R s m args below meth c G nL Q M (pc + 1) lv (.long (lL (a * b)) :: st)) : AW p l e R s m args below meth c G nL Q M pc lv (.long (lL b) :: .long (lL a) :: st) :=
  fun H locs ls hP hS hl => lv_lmul C.1 C.2.1 hd (by rw [lL_mul]; exact k H locs ls hP hS hl)
/-- the number on top, by a name of its own within the ints -/
theorem A_topi {x : Int} (k : ∀ z : Int, r32 z → iI x = iI z → AW p l e R s m args below meth c G nL Q M pc lv (.int (iI z) :: st)) : AW p l e R s m args below meth c G nL Q M pc lv (.int (iI x) :: st) := by
  have h : iI x = iI (iI x).toInt := iI_of (iI x)
  rw [h]
  exact k _ (i_r32 _) h
theorem A_topl {x : Int} (k : ∀ z : Int, r64 z → lL x = lL z → AW p l e R s m args below meth c G nL Q M pc lv (.long (lL z) :: st)) : AW p l e R s m args below meth c G nL Q M pc lv (.long (lL x) :: st) := by
  have h : lL x = lL (lL x).toInt := lL_of (lL x)
  rw [h]
  exact k _ (l_r64 _) h
/-- .. exactly, under a name -/
theorem A_nami {x : Int} (k : ∀ z : Int, z = x → AW p l e R s m args below meth c G nL Q M pc lv (.int (iI z) :: st)) : AW p l e R s m args below meth c G nL Q M pc lv (.int (iI x) :: st) := k x rfl
theorem A_naml {x : Int} (k : ∀ z : Int, z = x → AW p l e R s m args below meth c G nL Q M pc lv (.long (lL z) :: st)) : AW p l e R s m args below meth c G nL Q M pc lv (.long (lL x) :: st) := k x rfl
theorem A_goto (C : Cx p s m args meth c G cc nL own Ts rt) {off : Int} (tgt : Nat) (hd : decode cc pc = .ok (.goto off, 3)) (ht : (pc : Int) + off = (tgt : Int)) (k : AW p l e R s m args below meth c G nL Q M tgt lv st) : AW p l e R s m args below meth c G nL Q M pc lv st :=
  fun H locs ls hP hS hl => lv_goto C.1 C.2.1 hd ht (k H locs ls hP hS hl)
theorem A_icmplt (C : Cx p s m args meth c G cc nL own Ts rt) {a b off : Int} (tgt : Nat) (hd : decode cc pc = .ok (.if_icmp .lt off, 3)) (ht : (pc : Int) + off = (tgt : Int)) (ha : r32 a) (hb : r32 b) (k1 : a < b → AW p l e R s m args below meth c G nL Q M tgt lv st) (k2 : b ≤ a → AW p l e R s m args below meth c G nL Q M (pc + 3) lv st) : AW p l e R s m args below meth c G nL Q M pc lv (.int (iI b) :: .int (iI a) :: st) :=
  fun H locs ls hP hS hl => lv_icmp_lt C.1 C.2.1 hd ht (fun h => k1 ((iI_lt ha hb).mp h) H locs ls hP hS hl) (fun h => k2 (Int.not_lt.mp (fun q => h ((iI_lt ha hb).mpr q))) H locs ls hP hS hl)
theorem A_icmpge (C : Cx p s m args meth c G cc nL own Ts rt) {a b off : Int} (tgt : Nat) (hd : decode cc pc = .ok (.if_icmp .ge off, 3)) (ht : (pc : Int) + off = (tgt : Int)) (ha : r32 a) (hb : r32 b) (k1 : b ≤ a → AW p l e R s m args below meth c G nL Q M tgt lv st) (k2 : a < b → AW p l e R s m args below meth c G nL Q M (pc + 3) lv st) : AW p l e R s m args below meth c G nL Q M pc lv (.int (iI b) :: .int (iI a) :: st) :=
  fun H locs ls hP hS hl => lv_icmp_ge C.1 C.2.1 hd ht (fun h => k1 ((iI_le hb ha).mp h) H locs ls hP hS hl) (fun h => k2 (Int.not_le.mp (fun q => h ((iI_le hb ha).mpr q))) H locs ls hP hS hl)
theorem A_icmpgt (C : Cx p s m args meth c G cc nL own Ts rt) {a b off : Int} (tgt : Nat) (hd : decode cc pc = .ok (.if_icmp .gt off, 3)) (ht : (pc : Int) + off = (tgt : Int)) (ha : r32 a) (hb : r32 b) (k1 : b < a → AW p l e R s m args below meth c G nL Q M tgt lv st) (k2 : a ≤ b → AW p l e R s m args below meth c G nL Q M (pc + 3) lv st) : AW p l e R s m args below meth c G nL Q M pc lv (.int (iI b) :: .int (iI a) :: st) :=
  fun H locs ls hP hS hl => lv_icmp_gt C.1 C.2.1 hd ht (fun h => k1 ((iI_lt hb ha).mp h) H locs ls hP hS hl) (fun h => k2 (Int.not_lt.mp (fun q => h ((iI_lt hb ha).mpr q))) H locs ls hP hS hl)
theorem A_icmple (C : Cx p s m args meth c G cc nL own Ts rt) {a b off : Int} (tgt : Nat) (hd : decode cc pc = .ok (.if_icmp .le off, 3)) (ht : (pc : Int) + off = (tgt : Int)) (ha : r32 a) (hb : r32 b) (k1 : a ≤ b → AW p l e R s m args below meth c G nL Q M tgt lv st) (k2 : b < a → AW p l e R s m args below meth c G nL Q M (pc + 3) lv st) : AW p l e R s m args below meth c G nL Q M pc lv (.int (iI b) :: .int (iI a) :: st) :=
  fun H locs ls hP hS hl => lv_icmp_le C.1 C.2.1 hd ht (fun h => k1 ((iI_le ha hb).mp h) H locs ls hP hS hl) (fun h => k2 (Int.not_le.mp (fun q => h ((iI_le ha hb).mpr q))) H locs ls hP hS hl)
theorem A_icmpeq (C : Cx p s m args meth c G cc nL own Ts rt) {a b off : Int} (tgt : Nat) (hd : decode cc pc = .ok (.if_icmp .eq off, 3)) (ht : (pc : Int) + off = (tgt : Int)) (ha : r32 a) (hb : r32 b) (k1 : a = b → AW p l e R s m args below meth c G nL Q M tgt lv st) (k2 : ¬ a = b → AW p l e R s m args below meth c G nL Q M (pc + 3) lv st) : AW p l e R s m args below meth c G nL Q M pc lv (.int (iI b) :: .int (iI a) :: st) :=
  fun H locs ls hP hS hl => lv_icmp_eq C.1 C.2.1 hd ht (fun h => k1 ((iI_eq ha hb).mp h) H locs ls hP hS hl) (fun h => k2 (fun q => h ((iI_eq ha hb).mpr q)) H locs ls hP hS hl)
theorem A_icmpne (C : Cx p s m args meth c G cc nL own Ts rt) {a b off : Int} (tgt : Nat) (hd : decode cc pc = .ok (.if_icmp .ne off, 3)) (ht : (pc : Int) + off = (tgt : Int)) (ha : r32 a) (hb : r32 b) (k1 : ¬ a = b → AW p l e R s m args below meth c G nL Q M tgt lv st) (k2 : a = b → AW p l e R s m args below meth c G nL Q M (pc + 3) lv st) : AW p l e R s m args below meth c G nL Q M pc lv (.int (iI b) :: .int (iI a) :: st) :=
  fun H locs ls hP hS hl => lv_icmp_ne C.1 C.2.1 hd ht (fun h => k1 (fun q => h ((iI_eq ha hb).mpr q)) H locs ls hP hS hl) (fun h => k2 ((iI_eq ha hb).mp h) H locs ls hP hS hl)
theorem A_iflt (C : Cx p s m args meth c G cc nL own Ts rt) {a off : Int} (tgt : Nat) (hd : decode cc pc = .ok (.ifCond .lt off, 3)) (ht : (pc : Int) + off = (tgt : Int)) (ha : r32 a) (k1 : a < 0 → AW p l e R s m args below meth c G nL Q M tgt lv st) (k2 : 0 ≤ a → AW p l e R s m args below meth c G nL Q M (pc + 3) lv st) : AW p l e R s m args below meth c G nL Q M pc lv (.int (iI a) :: st) :=
  fun H locs ls hP hS hl => lv_if_lt C.1 C.2.1 hd ht (fun h => k1 ((iI_lt ha (by decide)).mp (by rw [iI_0]; exact h)) H locs ls hP hS hl) (fun h => k2 (Int.not_lt.mp (fun q => h (by rw [← iI_0]; exact (iI_lt ha (by decide)).mpr q))) H locs ls hP hS hl)
theorem A_ifge (C : Cx p s m args meth c G cc nL own Ts rt) {a off : Int} (tgt : Nat) (hd : decode cc pc = .ok (.ifCond .ge off, 3)) (ht : (pc : Int) + off = (tgt : Int)) (ha : r32 a) (k1 : 0 ≤ a → AW p l e R s m args below meth c G nL Q M tgt lv st) (k2 : a < 0 → AW p l e R s m args below meth c G nL Q M (pc + 3) lv st) : AW p l e R s m args below meth c G nL Q M pc lv (.int (iI a) :: st) :=
  fun H locs ls hP hS hl => lv_if_ge C.1 C.2.1 hd ht (fun h => k1 ((iI_le (by decide) ha).mp (by rw [iI_0]; exact h)) H locs ls hP hS hl) (fun h => k2 (Int.not_le.mp (fun q => h (by rw [← iI_0]; exact (iI_le (by decide) ha).mpr q))) H locs ls hP hS hl)
theorem A_ifgt (C : Cx p s m args meth c G cc nL own Ts rt) {a off : Int} (tgt : Nat) (hd : decode cc pc = .ok (.ifCond .gt off, 3)) (ht : (pc : Int) + off = (tgt : Int)) (ha : r32 a) (k1 : 0 < a → AW p l e R s m args below meth c G nL Q M tgt lv st) (k2 : a ≤ 0 → AW p l e R s m args below meth c G nL Q M (pc + 3) lv st) : AW p l e R s m args below meth c G nL Q M pc lv (.int (iI a) :: st) :=
  fun H locs ls hP hS hl => lv_if_gt C.1 C.2.1 hd ht (fun h => k1 ((iI_lt (by decide) ha).mp (by rw [iI_0]; exact h)) H locs ls hP hS hl) (fun h => k2 (Int.not_lt.mp (fun q => h (by rw [← iI_0]; exact (iI_lt (by decide) ha).mpr q))) H locs ls hP hS hl)
theorem A_ifle (C : Cx p s m args meth c G cc nL own Ts rt) {a off : Int} (tgt : Nat) (hd : decode cc pc = .ok (.ifCond .le off, 3)) (ht : (pc : Int) + off = (tgt : Int)) (ha : r32 a) (k1 : a ≤ 0 → AW p l e R s m args below meth c G nL Q M tgt lv st) (k2 : 0 < a → AW p l e R s m args below meth c G nL Q M (pc + 3) lv st) : AW p l e R s m args below meth c G nL Q M pc lv (.int (iI a) :: st) :=
  fun H locs ls hP hS hl => lv_if_le C.1 C.2.1 hd ht (fun h => k1 ((iI_le ha (by decide)).mp (by rw [iI_0]; exact h)) H locs ls hP hS hl) (fun h => k2 (Int.not_le.mp (fun q => h (by rw [← iI_0]; exact (iI_le ha (by decide)).mpr q))) H locs ls hP hS hl)
theorem A_ifeq (C : Cx p s m args meth c G cc nL own Ts rt) {a off : Int} (tgt : Nat) (hd : decode cc pc = .ok (.ifCond .eq off, 3)) (ht : (pc : Int) + off = (tgt : Int)) (ha : r32 a) (k1 : a = 0 → AW p l e R s m args below meth c G nL Q M tgt lv st) (k2 : ¬ a = 0 → AW p l e R s m args below meth c G nL Q M (pc + 3) lv st) : AW p l e R s m args below meth c G nL Q M pc lv (.int (iI a) :: st) :=
  fun H locs ls hP hS hl => lv_if_eq C.1 C.2.1 hd ht (fun h => k1 ((iI_eq ha (by decide)).mp (by rw [iI_0]; exact h)) H locs ls hP hS hl) (fun h => k2 (fun q => h (by rw [← iI_0]; exact (iI_eq ha (by decide)).mpr q)) H locs ls hP hS hl)
theorem A_ifne (C : Cx p s m args meth c G cc nL own Ts rt) {a off : Int} (tgt : Nat) (hd : decode cc pc = .ok (.ifCond .ne off, 3)) (ht : (pc : Int) + off = (tgt : Int)) (ha : r32 a) (k1 : ¬ a = 0 → AW p l e R s m args below meth c G nL Q M tgt lv st) (k2 : a = 0 → AW p l e R s m args below meth c G nL Q M (pc + 3) lv st) : AW p l e R s m args below meth c G nL Q M pc lv (.int (iI a) :: st) :=
  fun H locs ls hP hS hl => lv_if_ne C.1 C.2.1 hd ht (fun h => k1 (fun q => h (by rw [← iI_0]; exact (iI_eq ha (by decide)).mpr q)) H locs ls hP hS hl) (fun h => k2 ((iI_eq ha (by decide)).mp (by rw [iI_0]; exact h)) H locs ls hP hS hl)
theorem A_dup (C : Cx p s m args meth c G cc nL own Ts rt) {v : Value} (hd : decode cc pc = .ok (.dup, 1)) (hv : v.category = 1) (k : AW p l e R s m args below meth c G nL Q M (pc + 1) lv (v :: v :: st)) : AW p l e R s m args below meth c G nL Q M pc lv (v :: st) :=
  fun H locs ls hP hS hl => lv_dup C.1 C.2.1 hd (by rw [cv_cat]; exact hv) (k H locs ls hP hS hl)
theorem A_pop (C : Cx p s m args meth c G cc nL own Ts rt) {v : Value} (hd : decode cc pc = .ok (.pop, 1)) (hv : v.category = 1) (k : AW p l e R s m args below meth c G nL Q M (pc + 1) lv st) : AW p l e R s m args below meth c G nL Q M pc lv (v :: st) :=
  fun H locs ls hP hS hl => lv_pop C.1 C.2.1 hd (by rw [cv_cat]; exact hv) (k H locs ls hP hS hl)
theorem A_pop2 (C : Cx p s m args meth c G cc nL own Ts rt) {v : Value} (hd : decode cc pc = .ok (.pop2, 1)) (hv : v.category = 2) (k : AW p l e R s m args below meth c G nL Q M (pc + 1) lv st) : AW p l e R s m args below meth c G nL Q M pc lv (v :: st) :=
  fun H locs ls hP hS hl => lv_pop2_2 C.1 C.2.1 hd (by rw [cv_cat]; exact hv) (k H locs ls hP hS hl)
end AWR
end
section
/-! the memory's cells read and written -/
theorem kd_lt {a r : Nat} (h : kd a = r) (hr : (r == 99) = false) : a < nAll := by
  rw [← kdL_len]
  apply Classical.byContradiction
  intro hn
  have h1 : kd a = 99 := by
    unfold kd
    rw [List.getD_eq_getElem?_getD, List.getElem?_eq_none (by omega)]
    rfl
  rw [h] at h1
  rw [h1] at hr
  exact absurd hr (by decide)
theorem xE_0 {G : xG} {M : Mem} {a ci : Nat} (h : shp (kd a) = (0, ci)) : xE G M a = .inr (ci, xFs G.2.2 M a 0 (fks ci)) := by unfold xE; rw [h]; rfl
theorem xE_1 {G : xG} {M : Mem} {a n : Nat} (h : shp (kd a) = (1, n)) : xE G M a = .inl (G.2.1 0, n, .inl (fun j => iI (M.1 a j))) := by unfold xE; rw [h]; rfl
theorem xE_2 {G : xG} {M : Mem} {a n : Nat} (h : shp (kd a) = (2, n)) : xE G M a = .inl (G.2.1 1, n, .inr (.inl (fun j => lL (M.2.1 a j)))) := by unfold xE; rw [h]; rfl
theorem xE_3 {G : xG} {M : Mem} {a n : Nat} (h : shp (kd a) = (3, n)) : xE G M a = .inl (G.2.1 2, n, .inl (fun j => iI (M.1 a j))) := by unfold xE; rw [h]; rfl
theorem xE_4 {G : xG} {M : Mem} {a n : Nat} (h : shp (kd a) = (4, n)) : xE G M a = .inl (G.2.1 3, n, .inr (.inr (.inr (.inr (fun j => (M.2.2 a j).map (G.2.2 + ·)))))) := by unfold xE; rw [h]; rfl
theorem sI_E {G : xG} {M : Mem} {a ci k t : Nat} {z : Int} (h : shp (kd a) = (0, ci)) (ht : (fks ci)[k]? = some t) (h1 : (t == 1) = false) (h2 : (t == 2) = false) : xE G (sI M a k z) a = .inr (ci, (xFs G.2.2 M a 0 (fks ci)).set k (.int (iI z))) := by
  rw [xE_0 h]
  congr 2
  refine (xFs_set (fks ci) 0 k t ht ?_ (fun j u hj hu _ => ?_)).symm
  · have e : xF G.2.2 (sI M a k z) a (0 + k) t = .int (iI ((sI M a k z).1 a (0 + k))) := by
      unfold xF
      split
      · simp at h1
      · simp at h2
      · rfl
    rw [e, Nat.zero_add, sI_at]
  · unfold xF
    rw [sI_ne (by omega)]
    rfl
theorem sL_E {G : xG} {M : Mem} {a ci k : Nat} {z : Int} (h : shp (kd a) = (0, ci)) (ht : (fks ci)[k]? = some 1) : xE G (sL M a k z) a = .inr (ci, (xFs G.2.2 M a 0 (fks ci)).set k (.long (lL z))) := by
  rw [xE_0 h]
  congr 2
  refine (xFs_set (fks ci) 0 k 1 ht ?_ (fun j u hj hu _ => ?_)).symm
  · rw [Nat.zero_add]
    show Value.long (lL ((sL M a k z).2.1 a k)) = _
    simp [sL]
  · unfold xF
    have e : (sL M a k z).2.1 a j = M.2.1 a j := by
      have hne : ¬ j = k := by omega
      simp [sL, hne]
    rw [e]
    rfl
theorem sR_E {G : xG} {M : Mem} {a ci k b : Nat} (h : shp (kd a) = (0, ci)) (ht : (fks ci)[k]? = some 2) : xE G (sR M a k (some b)) a = .inr (ci, (xFs G.2.2 M a 0 (fks ci)).set k (.ref (G.2.2 + b))) := by
  rw [xE_0 h]
  congr 2
  refine (xFs_set (fks ci) 0 k 2 ht ?_ (fun j u hj hu _ => ?_)).symm
  · rw [Nat.zero_add]
    show va_rf (((sR M a k (some b)).2.2 a k).map _) = _
    simp [sR, va_rf]
  · unfold xF
    have e : (sR M a k (some b)).2.2 a j = M.2.2 a j := by
      have hne : ¬ j = k := by omega
      simp [sR, hne]
    rw [e]
    rfl
theorem sI_ws {G : xG} {M : Mem} {a k : Nat} {z : Int} {e : va_E} (ha : a < nAll) (he : xE G (sI M a k z) a = e) : (xWs G nAll M).set a (G.2.2 + a, e) = xWs G nAll (sI M a k z) := xWs_set ha he (fun b hb => xE_o (sI_o hb) rfl rfl)
theorem sL_ws {G : xG} {M : Mem} {a k : Nat} {z : Int} {e : va_E} (ha : a < nAll) (he : xE G (sL M a k z) a = e) : (xWs G nAll M).set a (G.2.2 + a, e) = xWs G nAll (sL M a k z) := xWs_set ha he (fun b hb => xE_o rfl (sL_o hb) rfl)
theorem sR_ws {G : xG} {M : Mem} {a k : Nat} {z : Option Nat} {e : va_E} (ha : a < nAll) (he : xE G (sR M a k z) a = e) : (xWs G nAll M).set a (G.2.2 + a, e) = xWs G nAll (sR M a k z) := xWs_set ha he (fun b hb => xE_o rfl rfl (sR_o hb))
theorem xAt {G : xG} {M : Mem} {a r : Nat} {e : va_E} (hr : kd a = r) (h9 : (r == 99) = false) (he : xE G M a = e) : (xWs G nAll M)[a]? = some (G.2.2 + a, e) := by rw [xWs_at (kd_lt hr h9), he]
section AWH
variable {p : Program} {l : Launch} {e : Env} {R : Room} {s : State} {m : MethodId} {args : Array Value} {below : List Frame} {meth : Method} {c : Code} {G : xG} {nL : Nat} {Q : State → Prop} {M : Mem} {pc : Nat} {lv : List (Nat × Value)} {st : List Value} {cc : ByteArray} {own : String} {Ts : List Cond} {rt : Option FieldType}
/-- what a field's instruction needs: its class in the tables, the words -/
abbrev Fl (own : String) (Ts : List Cond) (ci k index : Nat) (Cn : String) (T : u_T) (N : Nat) : Prop := vwCl[ci]? = some (Cn, T, N) ∧ k < N ∧ (∀ w ∈ u_ws Cn T N, w ∈ Ts) ∧ Cond.fieldLink own index (T k).1 (T k).2.1 (T k).2.2.1 ∈ Ts
theorem A_getI (C : Cx p s m args meth c G cc nL own Ts rt) {a r ci k t index : Nat} {Cn : String} {T : u_T} {N : Nat} (hr : kd a = r) (h9 : (r == 99) = false) (hs : shp r = (0, ci)) (ht : (fks ci)[k]? = some t) (h1 : (t == 1) = false) (h2 : (t == 2) = false) (F : Fl own Ts ci k index Cn T N) (hd : decode cc pc = .ok (.getfield index, 3))
    (kk : AW p l e R s m args below meth c G nL Q M (pc + 3) lv (.int (iI (M.1 a k)) :: st)) : AW p l e R s m args below meth c G nL Q M pc lv (.ref a :: st) :=
  fun H locs ls hP hS hl => va_get C.1 C.2.1 C.2.2.2.2.1 F.2.2.1 C.2.2.2.1 C.2.2.2.2.2.1 hP a (xAt hr h9 (xE_0 (by rw [hr]; exact hs))) F.1 k F.2.1 (C.2.2.2.2.1 _ F.2.2.2) (fun _ h => h) (v := .int (iI (M.1 a k))) (by
    rw [xFs_at (fks ci) 0 k t ht, Nat.zero_add]
    unfold xF
    split
    · simp at h1
    · simp at h2
    · rfl) hd (kk H locs ls hP hS hl)
theorem A_getL (C : Cx p s m args meth c G cc nL own Ts rt) {a r ci k index : Nat} {Cn : String} {T : u_T} {N : Nat} (hr : kd a = r) (h9 : (r == 99) = false) (hs : shp r = (0, ci)) (ht : (fks ci)[k]? = some 1) (F : Fl own Ts ci k index Cn T N) (hd : decode cc pc = .ok (.getfield index, 3))
    (kk : AW p l e R s m args below meth c G nL Q M (pc + 3) lv (.long (lL (M.2.1 a k)) :: st)) : AW p l e R s m args below meth c G nL Q M pc lv (.ref a :: st) :=
  fun H locs ls hP hS hl => va_get C.1 C.2.1 C.2.2.2.2.1 F.2.2.1 C.2.2.2.1 C.2.2.2.2.2.1 hP a (xAt hr h9 (xE_0 (by rw [hr]; exact hs))) F.1 k F.2.1 (C.2.2.2.2.1 _ F.2.2.2) (fun _ h => h) (v := .long (lL (M.2.1 a k))) (by
    rw [xFs_at (fks ci) 0 k 1 ht, Nat.zero_add]
    rfl) hd (kk H locs ls hP hS hl)
theorem A_getR (C : Cx p s m args meth c G cc nL own Ts rt) {a r ci k index b : Nat} {Cn : String} {T : u_T} {N : Nat} (hr : kd a = r) (h9 : (r == 99) = false) (hs : shp r = (0, ci)) (ht : (fks ci)[k]? = some 2) (hb : M.2.2 a k = some b) (F : Fl own Ts ci k index Cn T N) (hd : decode cc pc = .ok (.getfield index, 3))
    (kk : AW p l e R s m args below meth c G nL Q M (pc + 3) lv (.ref b :: st)) : AW p l e R s m args below meth c G nL Q M pc lv (.ref a :: st) :=
  fun H locs ls hP hS hl => va_get C.1 C.2.1 C.2.2.2.2.1 F.2.2.1 C.2.2.2.1 C.2.2.2.2.2.1 hP a (xAt hr h9 (xE_0 (by rw [hr]; exact hs))) F.1 k F.2.1 (C.2.2.2.2.1 _ F.2.2.2) (fun _ h => h) (v := .ref (G.2.2 + b)) (by
    rw [xFs_at (fks ci) 0 k 2 ht, Nat.zero_add]
    show some (va_rf ((M.2.2 a k).map _)) = _
    rw [hb]
    rfl) hd (kk H locs ls hP hS hl)
abbrev Fp (ci k : Nat) (T : u_T) (N : Nat) (ty0 : Nat → FieldType) : Prop := (∀ k, k < N → parseFieldDescriptor (T k).2.2.1 = some (ty0 k)) ∧ (∀ a, a < N → ∀ b, b < N → a ≠ b → (T a).2.1 ≠ (T b).2.1) ∧ (T k).2.2.2 = false ∧ k < (fks ci).length
theorem A_putI (C : Cx p s m args meth c G cc nL own Ts rt) {a r ci k t index : Nat} {Cn : String} {T : u_T} {N : Nat} {ty0 : Nat → FieldType} {z : Int} (hr : kd a = r) (h9 : (r == 99) = false) (hs : shp r = (0, ci)) (ht : (fks ci)[k]? = some t) (h1 : (t == 1) = false) (h2 : (t == 2) = false) (F : Fl own Ts ci k index Cn T N) (P : Fp ci k T N ty0) (hy : ty0 k = .int ∨ (ty0 k = .boolean ∧ (z = 0 ∨ z = 1))) (hd : decode cc pc = .ok (.putfield index, 3))
    (kk : AW p l e R s m args below meth c G nL Q (sI M a k z) (pc + 3) lv st) : AW p l e R s m args below meth c G nL Q M pc lv (.int (iI z) :: .ref a :: st) := by
  intro H locs ls hP hS hl
  have hsh : shp (kd a) = (0, ci) := by rw [hr]; exact hs
  have hn : narrow (ty0 k) (.int (iI z)) = .int (iI z) := by
    rcases hy with h | ⟨h, hz⟩
    · rw [h]; rfl
    · rw [h]; exact iI_bool hz
  have hf : fits (ty0 k) (.int (iI z)) = true := by
    rcases hy with h | ⟨h, hz⟩
    · rw [h]; rfl
    · rw [h]; rcases hz with rfl | rfl <;> decide +kernel
  refine va_put C.1 C.2.1 C.2.2.2.2.1 F.2.2.1 ty0 P.1 P.2.1 C.2.2.2.1 C.2.2.2.2.2.1 hP xD hS a (xAt hr h9 (xE_0 hsh)) F.1 k F.2.1 (C.2.2.2.2.1 _ F.2.2.2) (fun _ h => h) P.2.2.1 (ty := ty0 k) (v := .int (iI z)) (P.1 k F.2.1) hn hf (by rw [xFs_len]; exact P.2.2.2) hd (fun H1 locs1 hP1 _ hS1 => ?_)
  rw [sI_ws (kd_lt hr h9) (sI_E hsh ht h1 h2)] at hP1
  exact kk H1 locs1 ls hP1 hS1 hl
theorem A_putL (C : Cx p s m args meth c G cc nL own Ts rt) {a r ci k index : Nat} {Cn : String} {T : u_T} {N : Nat} {ty0 : Nat → FieldType} {z : Int} (hr : kd a = r) (h9 : (r == 99) = false) (hs : shp r = (0, ci)) (ht : (fks ci)[k]? = some 1) (F : Fl own Ts ci k index Cn T N) (P : Fp ci k T N ty0) (hy : ty0 k = .long) (hd : decode cc pc = .ok (.putfield index, 3))
    (kk : AW p l e R s m args below meth c G nL Q (sL M a k z) (pc + 3) lv st) : AW p l e R s m args below meth c G nL Q M pc lv (.long (lL z) :: .ref a :: st) := by
  intro H locs ls hP hS hl
  have hsh : shp (kd a) = (0, ci) := by rw [hr]; exact hs
  refine va_put C.1 C.2.1 C.2.2.2.2.1 F.2.2.1 ty0 P.1 P.2.1 C.2.2.2.1 C.2.2.2.2.2.1 hP xD hS a (xAt hr h9 (xE_0 hsh)) F.1 k F.2.1 (C.2.2.2.2.1 _ F.2.2.2) (fun _ h => h) P.2.2.1 (ty := ty0 k) (v := .long (lL z)) (P.1 k F.2.1) (by rw [hy]; rfl) (by rw [hy]; rfl) (by rw [xFs_len]; exact P.2.2.2) hd (fun H1 locs1 hP1 _ hS1 => ?_)
  rw [sL_ws (kd_lt hr h9) (sL_E hsh ht)] at hP1
  exact kk H1 locs1 ls hP1 hS1 hl
theorem A_putR (C : Cx p s m args meth c G cc nL own Ts rt) {a r ci k index b : Nat} {Cn : String} {T : u_T} {N : Nat} {ty0 : Nat → FieldType} {nm : String} (hr : kd a = r) (h9 : (r == 99) = false) (hs : shp r = (0, ci)) (ht : (fks ci)[k]? = some 2) (F : Fl own Ts ci k index Cn T N) (P : Fp ci k T N ty0) (hy : ty0 k = .object nm) (hd : decode cc pc = .ok (.putfield index, 3))
    (kk : AW p l e R s m args below meth c G nL Q (sR M a k (some b)) (pc + 3) lv st) : AW p l e R s m args below meth c G nL Q M pc lv (.ref b :: .ref a :: st) := by
  intro H locs ls hP hS hl
  have hsh : shp (kd a) = (0, ci) := by rw [hr]; exact hs
  refine va_put C.1 C.2.1 C.2.2.2.2.1 F.2.2.1 ty0 P.1 P.2.1 C.2.2.2.1 C.2.2.2.2.2.1 hP xD hS a (xAt hr h9 (xE_0 hsh)) F.1 k F.2.1 (C.2.2.2.2.1 _ F.2.2.2) (fun _ h => h) P.2.2.1 (ty := ty0 k) (v := .ref (G.2.2 + b)) (P.1 k F.2.1) (by rw [hy]; rfl) (by rw [hy]; rfl) (by rw [xFs_len]; exact P.2.2.2) hd (fun H1 locs1 hP1 _ hS1 => ?_)
  rw [sR_ws (kd_lt hr h9) (sR_E hsh ht)] at hP1
  exact kk H1 locs1 ls hP1 hS1 hl
theorem A_iald (C : Cx p s m args meth c G cc nL own Ts rt) {a r n : Nat} {z : Int} (hr : kd a = r) (h9 : (r == 99) = false) (hs : shp r = (1, n)) (hn : n < 2 ^ 31) (h0 : 0 ≤ z) (h1 : z < n) (hd : decode cc pc = .ok (.iaload, 1))
    (kk : AW p l e R s m args below meth c G nL Q M (pc + 1) lv (.int (iI (M.1 a z.toNat)) :: st)) : AW p l e R s m args below meth c G nL Q M pc lv (.int (iI z) :: .ref a :: st) :=
  fun H locs ls hP hS hl => va_iald C.1 C.2.1 C.2.2.2.2.2.1 hP a 0 (xAt hr h9 (xE_1 (by rw [hr]; exact hs))) rfl (iI_in h0 h1 hn) hd (by
    rw [iI_cl h0 (by omega)]
    exact kk H locs ls hP hS hl)
theorem A_zald (C : Cx p s m args meth c G cc nL own Ts rt) {a r n : Nat} {z : Int} (hr : kd a = r) (h9 : (r == 99) = false) (hs : shp r = (3, n)) (hn : n < 2 ^ 31) (h0 : 0 ≤ z) (h1 : z < n) (hd : decode cc pc = .ok (.baload, 1))
    (kk : AW p l e R s m args below meth c G nL Q M (pc + 1) lv (.int (iI (M.1 a z.toNat)) :: st)) : AW p l e R s m args below meth c G nL Q M pc lv (.int (iI z) :: .ref a :: st) :=
  fun H locs ls hP hS hl => va_zald C.1 C.2.1 C.2.2.2.2.2.1 hP a 2 (xAt hr h9 (xE_3 (by rw [hr]; exact hs))) rfl (iI_in h0 h1 hn) hd (by
    rw [iI_cl h0 (by omega)]
    exact kk H locs ls hP hS hl)
theorem A_lald (C : Cx p s m args meth c G cc nL own Ts rt) {a r n : Nat} {z : Int} (hr : kd a = r) (h9 : (r == 99) = false) (hs : shp r = (2, n)) (hn : n < 2 ^ 31) (h0 : 0 ≤ z) (h1 : z < n) (hd : decode cc pc = .ok (.laload, 1))
    (kk : AW p l e R s m args below meth c G nL Q M (pc + 1) lv (.long (lL (M.2.1 a z.toNat)) :: st)) : AW p l e R s m args below meth c G nL Q M pc lv (.int (iI z) :: .ref a :: st) :=
  fun H locs ls hP hS hl => va_lald C.1 C.2.1 C.2.2.2.2.2.1 hP a 1 (xAt hr h9 (xE_2 (by rw [hr]; exact hs))) rfl (iI_in h0 h1 hn) hd (by
    rw [iI_cl h0 (by omega)]
    exact kk H locs ls hP hS hl)
theorem A_aald (C : Cx p s m args meth c G cc nL own Ts rt) {a r n b : Nat} {z : Int} (hr : kd a = r) (h9 : (r == 99) = false) (hs : shp r = (4, n)) (hn : n < 2 ^ 31) (h0 : 0 ≤ z) (h1 : z < n) (hb : M.2.2 a z.toNat = some b) (hd : decode cc pc = .ok (.aaload, 1))
    (kk : AW p l e R s m args below meth c G nL Q M (pc + 1) lv (.ref b :: st)) : AW p l e R s m args below meth c G nL Q M pc lv (.int (iI z) :: .ref a :: st) :=
  fun H locs ls hP hS hl => va_aldq C.1 C.2.1 C.2.2.2.2.2.1 hP a 3 (xAt hr h9 (xE_4 (by rw [hr]; exact hs))) rfl (iI_in h0 h1 hn) hd (by
    rw [iI_cl h0 (by omega), hb]
    exact kk H locs ls hP hS hl)
theorem A_iast (C : Cx p s m args meth c G cc nL own Ts rt) {a r n : Nat} {z x : Int} (hr : kd a = r) (h9 : (r == 99) = false) (hs : shp r = (1, n)) (hn : n < 2 ^ 31) (h0 : 0 ≤ z) (h1 : z < n) (hd : decode cc pc = .ok (.iastore, 1))
    (kk : AW p l e R s m args below meth c G nL Q (sI M a z.toNat x) (pc + 1) lv st) : AW p l e R s m args below meth c G nL Q M pc lv (.int (iI x) :: .int (iI z) :: .ref a :: st) := by
  intro H locs ls hP hS hl
  have hsh : shp (kd a) = (1, n) := by rw [hr]; exact hs
  refine va_iast C.1 C.2.1 C.2.2.2.2.2.1 hP xD hS a 0 (xAt hr h9 (xE_1 hsh)) rfl (iI_in h0 h1 hn) hd (fun H1 locs1 hP1 _ hS1 => ?_)
  rw [iI_cl h0 (by omega), sI_ws (M := M) (k := z.toNat) (z := x) (kd_lt hr h9) (by
    rw [xE_1 hsh]
    congr 4
    funext j
    by_cases hj : j = z.toNat
    · subst hj; simp [sI, upd]
    · simp [sI, upd, hj])] at hP1
  exact kk H1 locs1 ls hP1 hS1 hl
theorem A_last (C : Cx p s m args meth c G cc nL own Ts rt) {a r n : Nat} {z x : Int} (hr : kd a = r) (h9 : (r == 99) = false) (hs : shp r = (2, n)) (hn : n < 2 ^ 31) (h0 : 0 ≤ z) (h1 : z < n) (hd : decode cc pc = .ok (.lastore, 1))
    (kk : AW p l e R s m args below meth c G nL Q (sL M a z.toNat x) (pc + 1) lv st) : AW p l e R s m args below meth c G nL Q M pc lv (.long (lL x) :: .int (iI z) :: .ref a :: st) := by
  intro H locs ls hP hS hl
  have hsh : shp (kd a) = (2, n) := by rw [hr]; exact hs
  refine va_last C.1 C.2.1 C.2.2.2.2.2.1 hP xD hS a 1 (xAt hr h9 (xE_2 hsh)) rfl (iI_in h0 h1 hn) hd (fun H1 locs1 hP1 _ hS1 => ?_)
  rw [iI_cl h0 (by omega), sL_ws (M := M) (k := z.toNat) (z := x) (kd_lt hr h9) (by
    rw [xE_2 hsh]
    congr 5
    funext j
    by_cases hj : j = z.toNat
    · subst hj; simp [sL, vp_updL]
    · simp [sL, vp_updL, hj])] at hP1
  exact kk H1 locs1 ls hP1 hS1 hl
theorem A_zast (C : Cx p s m args meth c G cc nL own Ts rt) {a r n : Nat} {z x : Int} (hr : kd a = r) (h9 : (r == 99) = false) (hs : shp r = (3, n)) (hn : n < 2 ^ 31) (h0 : 0 ≤ z) (h1 : z < n) (hx : x = 0 ∨ x = 1) (hd : decode cc pc = .ok (.bastore, 1))
    (kk : AW p l e R s m args below meth c G nL Q (sI M a z.toNat x) (pc + 1) lv st) : AW p l e R s m args below meth c G nL Q M pc lv (.int (iI x) :: .int (iI z) :: .ref a :: st) := by
  intro H locs ls hP hS hl
  have hsh : shp (kd a) = (3, n) := by rw [hr]; exact hs
  have hnar : vp_nar .boolean (iI x) = iI x := by rcases hx with rfl | rfl <;> decide +kernel
  refine va_zast C.1 C.2.1 C.2.2.2.2.2.1 hP xD hS a 2 (xAt hr h9 (xE_3 hsh)) rfl (iI_in h0 h1 hn) hd (fun H1 locs1 hP1 _ hS1 => ?_)
  rw [hnar, iI_cl h0 (by omega), sI_ws (M := M) (k := z.toNat) (z := x) (kd_lt hr h9) (by
    rw [xE_3 hsh]
    congr 4
    funext j
    by_cases hj : j = z.toNat
    · subst hj; simp [sI, upd]
    · simp [sI, upd, hj])] at hP1
  exact kk H1 locs1 ls hP1 hS1 hl
theorem i2l_eq {z : Int} (h : r32 z) : (iI z).toInt64 = lL z := by
  rw [← Int64.toInt_inj, Int32.toInt_toInt64, iI_toInt h, lL_toInt ⟨by omega, by omega⟩]
theorem A_i2l (C : Cx p s m args meth c G cc nL own Ts rt) {z : Int} (h : r32 z) (hd : decode cc pc = .ok (.i2l, 1)) (k : AW p l e R s m args below meth c G nL Q M (pc + 1) lv (.long (lL z) :: st)) : AW p l e R s m args below meth c G nL Q M pc lv (.int (iI z) :: st) :=
  fun H locs ls hP hS hl => lv_i2l C.1 C.2.1 hd (i2l_eq h) (k H locs ls hP hS hl)
theorem A_lcmp (C : Cx p s m args meth c G cc nL own Ts rt) {a b : Int} (ha : r64 a) (hb : r64 b) (hd : decode cc pc = .ok (.lcmp, 1)) (k : ∀ z : Int, (z = 1 ∧ b < a) ∨ (z = 0 ∧ a = b) ∨ (z = -1 ∧ a < b) → AW p l e R s m args below meth c G nL Q M (pc + 1) lv (.int (iI z) :: st)) : AW p l e R s m args below meth c G nL Q M pc lv (.long (lL b) :: .long (lL a) :: st) :=
  fun H locs ls hP hS hl => W.lcmp C.1 C.2.1 hd (by
    unfold lg_cmp
    by_cases h1 : b < a
    · rw [if_pos (show lL a > lL b from (lL_lt hb ha).mpr h1)]
      exact k 1 (Or.inl ⟨rfl, h1⟩) H locs ls hP hS hl
    · rw [if_neg (fun q => h1 ((lL_lt hb ha).mp q))]
      by_cases h2 : a = b
      · rw [if_pos ((lL_eq ha hb).mpr h2)]
        exact k 0 (Or.inr (Or.inl ⟨rfl, h2⟩)) H locs ls hP hS hl
      · rw [if_neg (fun q => h2 ((lL_eq ha hb).mp q))]
        exact k (-1) (Or.inr (Or.inr ⟨rfl, by omega⟩)) H locs ls hP hS hl)
theorem lL_ne0 {b : Int} (hb : r64 b) (h : ¬ b = 0) : ¬ lL b = 0 := fun q => h ((lL_eq hb (by decide)).mp (q.trans (by decide +kernel)))
/-- division and remainder, the answer being some long -/
theorem A_ldivH (C : Cx p s m args meth c G cc nL own Ts rt) {a b : Int} (hb : r64 b) (h : ¬ b = 0) (hd : decode cc pc = .ok (.ldiv, 1)) (k : ∀ z : Int, r64 z → AW p l e R s m args below meth c G nL Q M (pc + 1) lv (.long (lL z) :: st)) : AW p l e R s m args below meth c G nL Q M pc lv (.long (lL b) :: .long (lL a) :: st) :=
  fun H locs ls hP hS hl => lv_ldiv C.1 C.2.1 hd (lL_ne0 hb h) (by
    rw [lL_of (lL a / lL b)]
    exact k _ (l_r64 _) H locs ls hP hS hl)
theorem A_lremH (C : Cx p s m args meth c G cc nL own Ts rt) {a b : Int} (hb : r64 b) (h : ¬ b = 0) (hd : decode cc pc = .ok (.lrem, 1)) (k : ∀ z : Int, r64 z → AW p l e R s m args below meth c G nL Q M (pc + 1) lv (.long (lL z) :: st)) : AW p l e R s m args below meth c G nL Q M pc lv (.long (lL b) :: .long (lL a) :: st) :=
  fun H locs ls hP hS hl => lv_lrem C.1 C.2.1 hd (lL_ne0 hb h) (by
    rw [lL_of (lL a - lL a / lL b * lL b)]
    exact k _ (l_r64 _) H locs ls hP hS hl)
theorem A_iandH (C : Cx p s m args meth c G cc nL own Ts rt) {a b : Int} (hd : decode cc pc = .ok (.iand, 1)) (k : ∀ z : Int, r32 z → AW p l e R s m args below meth c G nL Q M (pc + 1) lv (.int (iI z) :: st)) : AW p l e R s m args below meth c G nL Q M pc lv (.int (iI b) :: .int (iI a) :: st) :=
  fun H locs ls hP hS hl => lv_iand C.1 C.2.1 hd (by
    rw [iI_of (iI a &&& iI b)]
    exact k _ (i_r32 _) H locs ls hP hS hl)
end AWH
end
section
/-! contracts over the system's memory: a method called, begun, ended -/
def rmD (d : Nat) : Room := { frames := d, cells := 0, slots := 0, locals := 64 * d }
def xPc (G : xG) (av : List Value) (M : Mem) : Array Value → State → Prop := va_Pc (av.map (cv G.2.2)) (fun U => va_P G.1 vwCl (xWs G nAll M) U.heap ∧ va_K G.1 vwCl (xTys G) U ∧ xNw U)
def xQc (G : xG) (post : Option Value → Mem → Prop) : Array Value → State → Outcome → State → Prop := fun _ st o t => ∃ (r : Option Value) (M' : Mem), o = .returned (r.map (cv G.2.2)) ∧ post r M' ∧ va_P G.1 vwCl (xWs G nAll M') t.heap ∧ st.heap.size ≤ t.heap.size ∧ ∀ q : Nat, q < st.heap.size → ¬ G.2.2 ≤ q → t.heap[q]? = st.heap[q]?
def Ct (y : MethodName) (ws : List Cond) (d : Nat) (av : List Value) (pre : Mem → Prop) (post : Mem → Option Value → Mem → Prop) : Prop :=
  ∀ (l : Launch) (G : xG) (M : Mem), pre M → Met l y ws (rmD d) (xPc G av M) (xQc G (post M)) 0 0 (fun q => G.2.2 ≤ q)
/-- what a body owes at its end -/
abbrev QQ (G : xG) (below : List Frame) (args : Array Value) (s : State) (P : Option Value → Mem → Prop) : State → Prop := MQ below (xQc G P) args s 0 0 (fun q => G.2.2 ≤ q)
theorem xPc_blind {G : xG} {av : List Value} {M : Mem} : FrameBlind (xPc G av M) := fun _ U _ _ q => ⟨q.1, q.2.1, va_K.moved (u := U) (Vm.Alike.refl U.vm) q.2.2.1, xNw.same (u := U) rfl q.2.2.2⟩
theorem lg_cv (b : Nat) (av : List Value) : (lg_sl (av.map (cv b))).length = (lg_sl av).length := by
  unfold lg_sl
  induction av with
  | nil => rfl
  | cons v r ih =>
    rw [List.map_cons, List.flatMap_cons, List.flatMap_cons, List.length_append, List.length_append, ih, cv_cat]
    split <;> rfl
theorem lv_args_cv (G : xG) (av : List Value) : ∀ i : Nat, lv_args i (av.map (cv G.2.2)) = xLs G (lv_args i av) := by
  induction av with
  | nil => intro i; rfl
  | cons v r ih =>
    intro i
    rw [List.map_cons]
    unfold lv_args
    rw [cv_cat, ih]
    rfl
section AWC
variable {p : Program} {l : Launch} {e : Env} {R : Room} {s : State} {m : MethodId} {args : Array Value} {below : List Frame} {meth : Method} {c : Code} {G : xG} {nL : Nat} {Q : State → Prop} {M : Mem} {pc : Nat} {lv : List (Nat × Value)} {st : List Value} {cc : ByteArray} {own : String} {Ts : List Cond} {rt : Option FieldType}
theorem Ct_of {y : MethodName} {ws ws' : List Cond} {d : Nat} {av : List Value} {pre : Mem → Prop} {post : Mem → Option Value → Mem → Prop} (ho : y.cls = own) (hy : plainName y.cls = true) (hw : ws = Cond.code y cc nL rt :: ws') (hlen : (lg_sl av).length ≤ nL)
    (body : ∀ (p : Program) (l : Launch) (e : Env) (s : State) (m : MethodId) (args : Array Value) (below : List Frame) (meth : Method) (c : Code) (G : xG) (M : Mem), Cx p s m args meth c G cc nL own ws rt → pre M →
      AW p l e (rmD d) s m args below meth c G nL (QQ G below args s (post M)) M 0 (lv_args 0 av) []) : Ct y ws d av pre post := by
  subst ho
  intro l G M hpre
  refine Met.ofW (cc := cc) (maxL := nL) (ret := rt) hy hw ?_
  intro p e s m args below meth c s₁ B hml hv
  obtain ⟨rfl, hP, hK, hN⟩ := hv
  have hts := atoms_spec (ws := ws) B.pre
  have hown : s.vm.findClass y.cls = some m.cls := findClass_of_methodNamed B.named
  have C : Cx p s m (av.map (cv G.2.2)).toArray meth c G cc nL y.cls ws rt := ⟨B.exec, B.bytes, hml, hown, hts, hK, B.returns, B.notSynchronized, hN⟩
  have hl := lv_entry (av.map (cv G.2.2)) (n := nL) (by rw [lg_cv]; exact hlen)
  rw [lg_entry_eq]
  rw [lv_args_cv] at hl
  exact body p l e s m _ below meth c G M C hpre s.heap [] _ hP va_S.rf hl
theorem A_iret {post : Option Value → Mem → Prop} {z : Int} (C : Cx p s m args meth c G cc nL own Ts (some .int)) (hd : decode cc pc = .ok (.ireturn, 1)) (h : post (some (.int (iI z))) M) : AW p l e R s m args below meth c G nL (QQ G below args s post) M pc lv [.int (iI z)] :=
  fun H locs ls hP hS hl => W.iret C.1 C.2.1 C.2.2.2.2.2.2.1 (fun t ht _ => ⟨_, M, rfl, h, by rw [ht]; exact hP, by rw [ht]; exact hS.1, fun q h1 h2 => by rw [ht]; exact hS.2.1 q h1 h2⟩) hS.2.2 hd (hlocks := C.2.2.2.2.2.2.2.1)
theorem A_zret {post : Option Value → Mem → Prop} {z : Int} (C : Cx p s m args meth c G cc nL own Ts (some .boolean)) (hz : z = 0 ∨ z = 1) (hd : decode cc pc = .ok (.ireturn, 1)) (h : post (some (.int (iI z))) M) : AW p l e R s m args below meth c G nL (QQ G below args s post) M pc lv [.int (iI z)] :=
  fun H locs ls hP hS hl => W.zret C.1 C.2.1 C.2.2.2.2.2.2.1 (iI_bool hz) (fun t ht _ => ⟨_, M, rfl, h, by rw [ht]; exact hP, by rw [ht]; exact hS.1, fun q h1 h2 => by rw [ht]; exact hS.2.1 q h1 h2⟩) hS.2.2 hd (hlocks := C.2.2.2.2.2.2.2.1)
theorem A_lret {post : Option Value → Mem → Prop} {z : Int} (C : Cx p s m args meth c G cc nL own Ts (some .long)) (hd : decode cc pc = .ok (.lreturn, 1)) (h : post (some (.long (lL z))) M) : AW p l e R s m args below meth c G nL (QQ G below args s post) M pc lv [.long (lL z)] :=
  fun H locs ls hP hS hl => W.lret C.1 C.2.1 C.2.2.2.2.2.2.1 (fun t ht _ => ⟨_, M, rfl, h, by rw [ht]; exact hP, by rw [ht]; exact hS.1, fun q h1 h2 => by rw [ht]; exact hS.2.1 q h1 h2⟩) hS.2.2 hd (hlocks := C.2.2.2.2.2.2.2.1)
theorem A_vret {post : Option Value → Mem → Prop} (C : Cx p s m args meth c G cc nL own Ts none) (hd : decode cc pc = .ok (.return_, 1)) (h : post none M) : AW p l e R s m args below meth c G nL (QQ G below args s post) M pc lv [] :=
  fun H locs ls hP hS hl => W.vret C.1 C.2.1 C.2.2.2.2.2.2.1 (fun t ht _ => ⟨none, M, rfl, h, by rw [ht]; exact hP, by rw [ht]; exact hS.1, fun q h1 h2 => by rw [ht]; exact hS.2.1 q h1 h2⟩) hS.2.2 hd (hlocks := C.2.2.2.2.2.2.2.1)
theorem A_run {H : Heap} {locs : List Loc} {ls : Array Slot} {st0 rest : List Value} {a : Array Value} {post : Option Value → Mem → Prop} (hr : va_Run p l e R s m args below meth c H locs 0 0 0 0 (F0 m pc ls st0) rest (xQc G post a) (fun q => G.2.2 ≤ q)) (hS : va_S (fun q => G.2.2 ≤ q) s.heap H locs)
    (kk : ∀ (r : Option Value) (M' : Mem) (H1 : Heap) (locs1 : List Loc), post r M' → va_P G.1 vwCl (xWs G nAll M') H1 → va_S (fun q => G.2.2 ≤ q) s.heap H1 locs1 → W p l e R s m args below meth c H1 locs1 0 0 Q (F0 m (pc + 3) ls ((r.map (cv G.2.2)).toList ++ rest))) : W p l e R s m args below meth c H locs 0 0 Q (F0 m pc ls st0) := by
  intro T hT X
  obtain ⟨v, st₀, t, T', L, h0, X', hL, e1, e2, ⟨r, M', hv, hp, hP', hz, hk⟩, go⟩ := hr T hT X
  cases hv
  rw [h0] at hz hk
  obtain ⟨t2, a1, b1⟩ := kk r M' T'.heap (locs ++ L) hp (by rw [e1]; exact hP')
    ⟨Nat.le_trans hS.1 (by rw [e1]; exact hz), fun q h1 h2 => by rw [e1, hk q (Nat.lt_of_lt_of_le h1 hS.1) h2]; exact hS.2.1 q h1 h2, fun q hq => by
      rcases List.mem_append.mp hq with h | h
      · exact hS.2.2 q h
      · exact hL q h⟩ T' rfl X'
  exact ⟨t2, go t2 a1, b1⟩
theorem xRev (G : xG) (As : List Value) (st : List Value) (v : Value) : (As.reverse ++ v :: st).map (cv G.2.2) = (As.map (cv G.2.2)).reverse ++ cv G.2.2 v :: st.map (cv G.2.2) := by simp
theorem xCat (G : xG) (st : List Value) : ((st.map (cv G.2.2)).map fun v => v.category).sum = (st.map fun v => v.category).sum := by
  rw [List.map_map]
  congr 2
  funext v
  exact cv_cat _ v
theorem xRet (G : xG) (r : Option Value) (st : List Value) : (r.map (cv G.2.2)).toList ++ st.map (cv G.2.2) = (r.toList ++ st).map (cv G.2.2) := by cases r <;> rfl
/-- an invokevirtual -/
theorem A_callV (C : Cx p s m args meth c G cc nL own Ts rt) {y : MethodName} {ws ws' : List Cond} {d : Nat} {a : Nat} {As : List Value} {pre : Mem → Prop} {post : Mem → Option Value → Mem → Prop} (K : Ct y ws d (.ref a :: As) pre post) {rr ci n maxL index : Nat} {bytes : ByteArray} {ret : Option FieldType} {Cn : String} {T : u_T} {N : Nat}
    (g : GoodIn Ts (wsV own index Cn y ws)) (hw : ws = Cond.code y bytes maxL ret :: ws') (hy : y.cls = Cn ∧ y.cls ≠ "java/lang/invoke/MethodHandle" ∧ y.cls ≠ "java/lang/invoke/VarHandle" ∧ (parseMethodDescriptor y.desc).map (fun d => d.parameters.length) = some n) (hR : (rmD d).frames + 1 ≤ R.frames ∧ 8 + (maxL + 11) + (rmD d).locals ≤ R.locals)
    (hr : kd a = rr) (h9 : (rr == 99) = false) (hs : shp rr = (0, ci)) (hc : vwCl[ci]? = some (Cn, T, N)) (hn : As.length = n) (hcat : (st.map fun v => v.category).sum ≤ 8) (hd : decode cc pc = .ok (.invokevirtual index, 3)) {st0 : List Value} (hst : st0 = As.reverse ++ .ref a :: st)
    (hpre : pre M) (kk : ∀ (r : Option Value) (M' : Mem), post M r M' → AW p l e R s m args below meth c G nL Q M' (pc + 3) lv (r.toList ++ st)) : AW p l e R s m args below meth c G nL Q M pc lv st0 := by
  intro H locs ls hP hS hl
  subst hst
  rw [xRev]
  have hPre : PreV s H Cn (G.2.2 + a) (xPc G (.ref a :: As) M) (As.map (cv G.2.2)) := ⟨xPc_blind, va_recv C.2.2.2.2.2.1 hP hc (xAt hr h9 (xE_0 (by rw [hr]; exact hs))), fun U hU hW => ⟨rfl, by rw [hU]; exact hP, va_K.moved hW.alike C.2.2.2.2.2.1, C.2.2.2.2.2.2.2.2.warm hW⟩⟩
  refine A_run (va_runV (As := As.map (cv G.2.2)) (rest := st.map (cv G.2.2)) ⟨C.1, C.2.1, C.2.2.1, C.2.2.2.1, C.2.2.2.2.1⟩ (K l G M hpre) (cwV n C.2.2.2.2.1 g hw rfl rfl hy hR) hPre rfl (by rw [List.length_map]; exact hn) hl.1 rfl (lv_room (by rw [xCat]; exact hcat)) hd ⟨Nat.zero_le _, Nat.zero_le _⟩) hS (fun r M' H1 locs1 h1 h2 h3 => ?_)
  rw [xRet]
  exact kk r M' h1 H1 locs1 ls h2 h3 hl
/-- an invokestatic of the class's own -/
theorem A_callS (C : Cx p s m args meth c G cc nL own Ts rt) {y : MethodName} {ws ws' : List Cond} {d : Nat} {As : List Value} {pre : Mem → Prop} {post : Mem → Option Value → Mem → Prop} (K : Ct y ws d As pre post) {n maxL index : Nat} {bytes : ByteArray} {ret : Option FieldType}
    (g : GoodIn Ts (va_wsS own index y ws)) (hw : ws = Cond.code y bytes maxL ret :: ws') (hy : y.cls ≠ "java/lang/invoke/MethodHandle" ∧ y.cls ≠ "java/lang/invoke/VarHandle" ∧ (parseMethodDescriptor y.desc).map (fun d => d.parameters.length) = some n) (hR : (rmD d).frames + 1 ≤ R.frames ∧ 8 + (maxL + 11) + (rmD d).locals ≤ R.locals)
    (hn : As.length = n) (hcat : (st.map fun v => v.category).sum ≤ 8) (hd : decode cc pc = .ok (.invokestatic index, 3)) {st0 : List Value} (hst : st0 = As.reverse ++ st)
    (hpre : pre M) (kk : ∀ (r : Option Value) (M' : Mem), post M r M' → AW p l e R s m args below meth c G nL Q M' (pc + 3) lv (r.toList ++ st)) : AW p l e R s m args below meth c G nL Q M pc lv st0 := by
  intro H locs ls hP hS hl
  subst hst
  rw [List.map_append, List.map_reverse]
  have hPre : PreS s H (xPc G As M) (As.map (cv G.2.2)) := ⟨xPc_blind, fun U hU hW => ⟨rfl, by rw [hU]; exact hP, va_K.moved hW.alike C.2.2.2.2.2.1, C.2.2.2.2.2.2.2.2.warm hW⟩⟩
  refine A_run (va_runS (As := As.map (cv G.2.2)) (rest := st.map (cv G.2.2)) ⟨C.1, C.2.1, C.2.2.1, C.2.2.2.1, C.2.2.2.2.1⟩ (K l G M hpre) (va_cwS n C.2.2.2.2.1 g hw rfl rfl hy hR) hPre rfl (by rw [List.length_map]; exact hn) hl.1 rfl (lv_room (by rw [xCat]; exact hcat)) hd ⟨Nat.zero_le _, Nat.zero_le _⟩) hS (fun r M' H1 locs1 h1 h2 h3 => ?_)
  rw [xRet]
  exact kk r M' h1 H1 locs1 ls h2 h3 hl
/-- an invokestatic of the host's -/
theorem A_callSN (C : Cx p s m args meth c G cc nL own Ts rt) {y : MethodName} {ws ws' : List Cond} {d : Nat} {As : List Value} {pre : Mem → Prop} {post : Mem → Option Value → Mem → Prop} (K : Ct y ws d As pre post) {n maxL index : Nat} {bytes : ByteArray} {ret : Option FieldType} {host : String}
    (hlink : va_Nw (.methodLinkNest own index y host) s) (g : GoodIn Ts ws) (hi : Cond.initialized y.cls ∈ Ts) (hsta : Cond.static y ∈ Ts) (hw : ws = Cond.code y bytes maxL ret :: ws') (hy : y.cls ≠ "java/lang/invoke/MethodHandle" ∧ y.cls ≠ "java/lang/invoke/VarHandle" ∧ (parseMethodDescriptor y.desc).map (fun d => d.parameters.length) = some n) (hR : (rmD d).frames + 1 ≤ R.frames ∧ 8 + (maxL + 11) + (rmD d).locals ≤ R.locals)
    (hn : As.length = n) (hcat : (st.map fun v => v.category).sum ≤ 8) (hd : decode cc pc = .ok (.invokestatic index, 3)) {st0 : List Value} (hst : st0 = As.reverse ++ st)
    (hpre : pre M) (kk : ∀ (r : Option Value) (M' : Mem), post M r M' → AW p l e R s m args below meth c G nL Q M' (pc + 3) lv (r.toList ++ st)) : AW p l e R s m args below meth c G nL Q M pc lv st0 := by
  intro H locs ls hP hS hl
  subst hst
  rw [List.map_append, List.map_reverse]
  have hPre : PreS s H (xPc G As M) (As.map (cv G.2.2)) := ⟨xPc_blind, fun U hU hW => ⟨rfl, by rw [hU]; exact hP, va_K.moved hW.alike C.2.2.2.2.2.1, C.2.2.2.2.2.2.2.2.warm hW⟩⟩
  refine A_run (va_runSN (As := As.map (cv G.2.2)) (rest := st.map (cv G.2.2)) ⟨C.1, C.2.1, C.2.2.1, C.2.2.2.1, C.2.2.2.2.1⟩ (K l G M hpre) ⟨va_cnB n C.2.2.2.2.1 g hw rfl rfl hlink (C.2.2.2.2.1 _ hi) hy hR, C.2.2.2.2.1 _ hsta, trivial⟩ hPre rfl (by rw [List.length_map]; exact hn) hl.1 rfl (lv_room (by rw [xCat]; exact hcat)) hd ⟨Nat.zero_le _, Nat.zero_le _⟩) hS (fun r M' H1 locs1 h1 h2 h3 => ?_)
  rw [xRet]
  exact kk r M' h1 H1 locs1 ls h2 h3 hl
end AWC
end
section
/-! the invariant: each int within its role's bounds, each reference of its role -/
def bd (r k : Nat) : Int × Int := match r with
  | 0 => (match k with | 12 => (0, 6) | 13 => (0, 1) | 14 => (0, 1) | _ => (-2147483648, 2147483647))
  | 1 => (match k with | 4 => (0, 6) | _ => (-2147483648, 2147483647))
  | 5 => (0, 1)
  | 6 => (match k with | 1 => (0, 12) | _ => (-2147483648, 2147483647))
  | 8 => (match k with | 1 => (0, 24) | 2 => (0, 24) | 3 => (0, 999) | 4 => (0, 999) | 8 => (0, 1) | _ => (-2147483648, 2147483647))
  | 9 => (0, 5)
  | 12 => (match k with | 1 => (0, 12) | _ => (-2147483648, 2147483647))
  | 13 => (match k with | 0 => (0, 6) | _ => (-2147483648, 2147483647))
  | 15 => (0, 11)
  | 16 => (0, 999)
  | 17 => (match k with | 5 => (0, 12) | 6 => (0, 1) | _ => (-2147483648, 2147483647))
  | 20 => (match k with | 1 => (0, 11) | 2 => (0, 13) | _ => (-2147483648, 2147483647))
  | 21 => (match k with | 1 => (0, 11) | 2 => (0, 13) | _ => (-2147483648, 2147483647))
  | 22 => (0, 24)
  | 24 => (0, 1)
  | 30 => (match k with | 0 => (0, 12) | 1 => (0, 6) | 11 => (0, 12) | 12 => (0, 6) | 16 => (-1, 11) | 17 => (0, 13) | 26 => (0, 1) | 29 => (0, 11) | 30 => (0, 12) | 34 => (0, 6) | _ => (-2147483648, 2147483647))
  | 31 => (0, 30)
  | 32 => (0, 99)
  | 33 => (0, 9)
  | 34 => (0, 1)
  | 35 => (0, 5)
  | 36 => (0, 24)
  | 37 => (0, 24)
  | 38 => (0, 999)
  | 39 => (0, 999)
  | 40 => (0, 3)
  | 41 => (0, 11)
  | 42 => (0, 999)
  | 43 => (0, 24)
  | 47 => (0, 24)
  | 48 => (0, 5)
  | _ => (-2147483648, 2147483647)
def rr (r k : Nat) : Option Nat := match r with
  | 0 => [some 1, some 6, some 12, some 13, some 17, some 20, some 21, some 23, some 23, some 24, some 25, some 25].getD k none
  | 1 => [some 2, some 3, some 4, some 5].getD k none
  | 6 => [some 7].getD k none
  | 7 => if k < 12 then some 8 else none
  | 8 => [some 9, none, none, none, none, some 1, some 10, some 11].getD k none
  | 12 => [some 7].getD k none
  | 13 => [none, some 14, some 15, some 16].getD k none
  | 17 => [none, some 18, some 19].getD k none
  | 20 => [some 22].getD k none
  | 21 => [some 22].getD k none
  | 30 => [none, none, some 31, some 32, some 33, some 34, some 35, some 36, some 37, some 38, some 39, none, none, some 40, some 41, some 42, none, none, some 43, none, some 44, some 45, some 46, none, none, none, none, none, none, none, none, some 47, some 48, some 49].getD k none
  | _ => none
def WF (M : Mem) : Prop := (∀ a k, (bd (kd a) k).1 ≤ M.1 a k ∧ M.1 a k ≤ (bd (kd a) k).2) ∧ (∀ a k, r64 (M.2.1 a k)) ∧ (∀ a k q, rr (kd a) k = some q → ∃ b, M.2.2 a k = some b ∧ kd b = q) ∧ ∀ a, kd a = 17 → ∃ b, M.2.2 a 0 = some b ∧ (kd b = 6 ∨ kd b = 12)
theorem WF.i {M : Mem} (W : WF M) {a r : Nat} (hr : kd a = r) (k : Nat) : (bd r k).1 ≤ M.1 a k ∧ M.1 a k ≤ (bd r k).2 := by subst hr; exact W.1 a k
theorem WF.r {M : Mem} (W : WF M) {a r q : Nat} (hr : kd a = r) (k : Nat) (h : rr r k = some q) : ∃ b, M.2.2 a k = some b ∧ kd b = q := by subst hr; exact W.2.2.1 a k q h
theorem WF_sI {M : Mem} (W : WF M) {a r k : Nat} {z lo hi : Int} (hr : kd a = r) (hb : bd r k = (lo, hi)) (h1 : lo ≤ z) (h2 : z ≤ hi) : WF (sI M a k z) := by
  refine ⟨fun b j => ?_, W.2.1, W.2.2.1, W.2.2.2⟩
  by_cases h : b = a ∧ j = k
  · obtain ⟨rfl, rfl⟩ := h
    rw [sI_at, hr, hb]
    exact ⟨h1, h2⟩
  · rw [sI_ne h]
    exact W.1 b j
theorem WF_sL {M : Mem} (W : WF M) {a k : Nat} {z : Int} (h : r64 z) : WF (sL M a k z) := by
  refine ⟨W.1, fun b j => ?_, W.2.2.1, W.2.2.2⟩
  show r64 (if b = a ∧ j = k then z else M.2.1 b j)
  split
  · exact h
  · exact W.2.1 b j
theorem WF_sR {M : Mem} (W : WF M) {a b : Nat} (hr : kd a = 17) (hb : kd b = 6 ∨ kd b = 12) : WF (sR M a 0 (some b)) := by
  refine ⟨W.1, W.2.1, fun x j q hq => ?_, fun x hx => ?_⟩
  · by_cases h : x = a ∧ j = 0
    · obtain ⟨rfl, rfl⟩ := h
      rw [hr, show rr 17 0 = none from rfl] at hq
      cases hq
    · have e : (sR M a 0 (some b)).2.2 x j = M.2.2 x j := by simp only [sR, if_neg h]
      rw [e]
      exact W.2.2.1 x j q hq
  · by_cases h : x = a
    · subst h
      exact ⟨b, by simp [sR], hb⟩
    · have e : (sR M a 0 (some b)).2.2 x 0 = M.2.2 x 0 := by simp [sR, h]
      rw [e]
      exact W.2.2.2 x hx
/-- only objects of the listed roles may have changed -/
def Fr (ch : List Nat) (M M' : Mem) : Prop := ∀ a, ch.contains (kd a) = false → M'.1 a = M.1 a ∧ M'.2.1 a = M.2.1 a ∧ M'.2.2 a = M.2.2 a
theorem Fr.rf {ch : List Nat} {M : Mem} : Fr ch M M := fun _ _ => ⟨rfl, rfl, rfl⟩
theorem Fr.tr {ch : List Nat} {M M1 M2 : Mem} (h1 : Fr ch M M1) (h2 : Fr ch M1 M2) : Fr ch M M2 := fun a h => ⟨(h2 a h).1.trans (h1 a h).1, (h2 a h).2.1.trans (h1 a h).2.1, (h2 a h).2.2.trans (h1 a h).2.2⟩
theorem Fr.mono {ch c2 : List Nat} {M M1 : Mem} (h : Fr ch M M1) (hs : ch.all (fun x => c2.contains x) = true) : Fr c2 M M1 := by
  intro a ha
  apply h a
  cases hc : ch.contains (kd a) with
  | false => rfl
  | true =>
    have h1 := List.all_eq_true.mp hs (kd a) (by simpa using hc)
    rw [ha] at h1
    exact absurd h1 (by decide)
theorem Fr_sI {ch : List Nat} {M : Mem} {a r k : Nat} {z : Int} (hr : kd a = r) (hc : ch.contains r = true) : Fr ch M (sI M a k z) := by
  intro b hb
  have hne : b ≠ a := by
    intro e
    subst e
    rw [hr, hc] at hb
    exact absurd hb (by decide)
  exact ⟨sI_o hne, rfl, rfl⟩
theorem Fr_sL {ch : List Nat} {M : Mem} {a r k : Nat} {z : Int} (hr : kd a = r) (hc : ch.contains r = true) : Fr ch M (sL M a k z) := by
  intro b hb
  have hne : b ≠ a := by
    intro e
    subst e
    rw [hr, hc] at hb
    exact absurd hb (by decide)
  exact ⟨rfl, sL_o hne, rfl⟩
theorem Fr_sR {ch : List Nat} {M : Mem} {a r k : Nat} {z : Option Nat} (hr : kd a = r) (hc : ch.contains r = true) : Fr ch M (sR M a k z) := by
  intro b hb
  have hne : b ≠ a := by
    intro e
    subst e
    rw [hr, hc] at hb
    exact absurd hb (by decide)
  exact ⟨rfl, rfl, sR_o hne⟩
section AWG
variable {p : Program} {l : Launch} {e : Env} {R : Room} {s : State} {m : MethodId} {args : Array Value} {below : List Frame} {meth : Method} {c : Code} {G : xG} {nL : Nat} {Q : State → Prop} {M M0 : Mem} {pc : Nat} {lv : List (Nat × Value)} {st : List Value} {cc : ByteArray} {own : String} {Ts : List Cond} {rt : Option FieldType} {ch : List Nat}
theorem G_getI (C : Cx p s m args meth c G cc nL own Ts rt) (W : WF M) {a r ci k t index : Nat} {Cn : String} {T : u_T} {N : Nat} {lo hi : Int} (hr : kd a = r) (h9 : (r == 99) = false) (hs : shp r = (0, ci)) (ht : (fks ci)[k]? = some t) (h1 : (t == 1) = false) (h2 : (t == 2) = false) (F : Fl own Ts ci k index Cn T N) (hb : bd r k = (lo, hi)) (hd : decode cc pc = .ok (.getfield index, 3))
    (kk : ∀ z : Int, z = M.1 a k → lo ≤ z → z ≤ hi → AW p l e R s m args below meth c G nL Q M (pc + 3) lv (.int (iI z) :: st)) : AW p l e R s m args below meth c G nL Q M pc lv (.ref a :: st) := by
  have h := W.i hr k
  rw [hb] at h
  exact A_getI C hr h9 hs ht h1 h2 F hd (kk _ rfl h.1 h.2)
theorem G_getL (C : Cx p s m args meth c G cc nL own Ts rt) (W : WF M) {a r ci k index : Nat} {Cn : String} {T : u_T} {N : Nat} (hr : kd a = r) (h9 : (r == 99) = false) (hs : shp r = (0, ci)) (ht : (fks ci)[k]? = some 1) (F : Fl own Ts ci k index Cn T N) (hd : decode cc pc = .ok (.getfield index, 3))
    (kk : ∀ z : Int, z = M.2.1 a k → r64 z → AW p l e R s m args below meth c G nL Q M (pc + 3) lv (.long (lL z) :: st)) : AW p l e R s m args below meth c G nL Q M pc lv (.ref a :: st) :=
  A_getL C hr h9 hs ht F hd (kk _ rfl (W.2.1 a k))
theorem G_getR (C : Cx p s m args meth c G cc nL own Ts rt) (W : WF M) {a r ci k index q : Nat} {Cn : String} {T : u_T} {N : Nat} (hr : kd a = r) (h9 : (r == 99) = false) (hs : shp r = (0, ci)) (ht : (fks ci)[k]? = some 2) (hq : rr r k = some q) (F : Fl own Ts ci k index Cn T N) (hd : decode cc pc = .ok (.getfield index, 3))
    (kk : ∀ b : Nat, M.2.2 a k = some b → kd b = q → AW p l e R s m args below meth c G nL Q M (pc + 3) lv (.ref b :: st)) : AW p l e R s m args below meth c G nL Q M pc lv (.ref a :: st) := by
  obtain ⟨b, h1, h2⟩ := W.r hr k hq
  exact A_getR C hr h9 hs ht h1 F hd (kk b h1 h2)
theorem G_putI (C : Cx p s m args meth c G cc nL own Ts rt) (W : WF M) (E : Fr ch M0 M) {a r ci k t index : Nat} {Cn : String} {T : u_T} {N : Nat} {ty0 : Nat → FieldType} {z lo hi : Int} (hr : kd a = r) (h9 : (r == 99) = false) (hs : shp r = (0, ci)) (ht : (fks ci)[k]? = some t) (h1 : (t == 1) = false) (h2 : (t == 2) = false) (F : Fl own Ts ci k index Cn T N) (P : Fp ci k T N ty0) (hy : ty0 k = .int ∨ (ty0 k = .boolean ∧ (z = 0 ∨ z = 1))) (hb : bd r k = (lo, hi)) (hc : ch.contains r = true) (hlo : lo ≤ z) (hhi : z ≤ hi) (hd : decode cc pc = .ok (.putfield index, 3))
    (kk : ∀ M' : Mem, M' = sI M a k z → WF M' → Fr ch M0 M' → AW p l e R s m args below meth c G nL Q M' (pc + 3) lv st) : AW p l e R s m args below meth c G nL Q M pc lv (.int (iI z) :: .ref a :: st) :=
  A_putI C hr h9 hs ht h1 h2 F P hy hd (kk _ rfl (WF_sI W hr hb hlo hhi) (E.tr (Fr_sI hr hc)))
theorem G_putL (C : Cx p s m args meth c G cc nL own Ts rt) (W : WF M) (E : Fr ch M0 M) {a r ci k index : Nat} {Cn : String} {T : u_T} {N : Nat} {ty0 : Nat → FieldType} {z : Int} (hr : kd a = r) (h9 : (r == 99) = false) (hs : shp r = (0, ci)) (ht : (fks ci)[k]? = some 1) (F : Fl own Ts ci k index Cn T N) (P : Fp ci k T N ty0) (hy : ty0 k = .long) (hc : ch.contains r = true) (hz : r64 z) (hd : decode cc pc = .ok (.putfield index, 3))
    (kk : ∀ M' : Mem, M' = sL M a k z → WF M' → Fr ch M0 M' → AW p l e R s m args below meth c G nL Q M' (pc + 3) lv st) : AW p l e R s m args below meth c G nL Q M pc lv (.long (lL z) :: .ref a :: st) :=
  A_putL C hr h9 hs ht F P hy hd (kk _ rfl (WF_sL W hz) (E.tr (Fr_sL hr hc)))
theorem G_iald (C : Cx p s m args meth c G cc nL own Ts rt) (W : WF M) {a r n : Nat} {z lo hi : Int} (hr : kd a = r) (h9 : (r == 99) = false) (hs : shp r = (1, n)) (hn : n < 2 ^ 31) (hb : ∀ k, bd r k = (lo, hi)) (h0 : 0 ≤ z) (h1 : z < n) (hd : decode cc pc = .ok (.iaload, 1))
    (kk : ∀ x : Int, x = M.1 a z.toNat → lo ≤ x → x ≤ hi → AW p l e R s m args below meth c G nL Q M (pc + 1) lv (.int (iI x) :: st)) : AW p l e R s m args below meth c G nL Q M pc lv (.int (iI z) :: .ref a :: st) := by
  have h := W.i hr z.toNat
  rw [hb] at h
  exact A_iald C hr h9 hs hn h0 h1 hd (kk _ rfl h.1 h.2)
theorem G_zald (C : Cx p s m args meth c G cc nL own Ts rt) (W : WF M) {a r n : Nat} {z lo hi : Int} (hr : kd a = r) (h9 : (r == 99) = false) (hs : shp r = (3, n)) (hn : n < 2 ^ 31) (hb : ∀ k, bd r k = (lo, hi)) (h0 : 0 ≤ z) (h1 : z < n) (hd : decode cc pc = .ok (.baload, 1))
    (kk : ∀ x : Int, x = M.1 a z.toNat → lo ≤ x → x ≤ hi → AW p l e R s m args below meth c G nL Q M (pc + 1) lv (.int (iI x) :: st)) : AW p l e R s m args below meth c G nL Q M pc lv (.int (iI z) :: .ref a :: st) := by
  have h := W.i hr z.toNat
  rw [hb] at h
  exact A_zald C hr h9 hs hn h0 h1 hd (kk _ rfl h.1 h.2)
theorem G_lald (C : Cx p s m args meth c G cc nL own Ts rt) (W : WF M) {a r n : Nat} {z : Int} (hr : kd a = r) (h9 : (r == 99) = false) (hs : shp r = (2, n)) (hn : n < 2 ^ 31) (h0 : 0 ≤ z) (h1 : z < n) (hd : decode cc pc = .ok (.laload, 1))
    (kk : ∀ x : Int, x = M.2.1 a z.toNat → r64 x → AW p l e R s m args below meth c G nL Q M (pc + 1) lv (.long (lL x) :: st)) : AW p l e R s m args below meth c G nL Q M pc lv (.int (iI z) :: .ref a :: st) :=
  A_lald C hr h9 hs hn h0 h1 hd (kk _ rfl (W.2.1 a z.toNat))
theorem G_aald (C : Cx p s m args meth c G cc nL own Ts rt) (W : WF M) {a : Nat} {z : Int} (hr : kd a = 7) (h0 : 0 ≤ z) (h1 : z < 12) (hd : decode cc pc = .ok (.aaload, 1))
    (kk : ∀ b : Nat, M.2.2 a z.toNat = some b → kd b = 8 → AW p l e R s m args below meth c G nL Q M (pc + 1) lv (.ref b :: st)) : AW p l e R s m args below meth c G nL Q M pc lv (.int (iI z) :: .ref a :: st) := by
  obtain ⟨b, h2, h3⟩ := W.r hr z.toNat (q := 8) (by
    show (if z.toNat < 12 then some 8 else none) = some 8
    rw [if_pos (by omega)])
  exact A_aald C (n := 12) hr rfl rfl (by decide) h0 h1 h2 hd (kk b h2 h3)
theorem G_iast (C : Cx p s m args meth c G cc nL own Ts rt) (W : WF M) (E : Fr ch M0 M) {a r n : Nat} {z x lo hi : Int} (hr : kd a = r) (h9 : (r == 99) = false) (hs : shp r = (1, n)) (hn : n < 2 ^ 31) (hb : ∀ k, bd r k = (lo, hi)) (hc : ch.contains r = true) (h0 : 0 ≤ z) (h1 : z < n) (hlo : lo ≤ x) (hhi : x ≤ hi) (hd : decode cc pc = .ok (.iastore, 1))
    (kk : ∀ M' : Mem, M' = sI M a z.toNat x → WF M' → Fr ch M0 M' → AW p l e R s m args below meth c G nL Q M' (pc + 1) lv st) : AW p l e R s m args below meth c G nL Q M pc lv (.int (iI x) :: .int (iI z) :: .ref a :: st) :=
  A_iast C hr h9 hs hn h0 h1 hd (kk _ rfl (WF_sI W hr (hb _) hlo hhi) (E.tr (Fr_sI hr hc)))
theorem G_zast (C : Cx p s m args meth c G cc nL own Ts rt) (W : WF M) (E : Fr ch M0 M) {a r n : Nat} {z x : Int} (hr : kd a = r) (h9 : (r == 99) = false) (hs : shp r = (3, n)) (hn : n < 2 ^ 31) (hb : ∀ k, bd r k = (0, 1)) (hc : ch.contains r = true) (h0 : 0 ≤ z) (h1 : z < n) (hx : x = 0 ∨ x = 1) (hd : decode cc pc = .ok (.bastore, 1))
    (kk : ∀ M' : Mem, M' = sI M a z.toNat x → WF M' → Fr ch M0 M' → AW p l e R s m args below meth c G nL Q M' (pc + 1) lv st) : AW p l e R s m args below meth c G nL Q M pc lv (.int (iI x) :: .int (iI z) :: .ref a :: st) :=
  A_zast C hr h9 hs hn h0 h1 hx hd (kk _ rfl (WF_sI W hr (hb _) (by omega) (by omega)) (E.tr (Fr_sI hr hc)))
theorem G_last (C : Cx p s m args meth c G cc nL own Ts rt) (W : WF M) (E : Fr ch M0 M) {a r n : Nat} {z x : Int} (hr : kd a = r) (h9 : (r == 99) = false) (hs : shp r = (2, n)) (hn : n < 2 ^ 31) (hc : ch.contains r = true) (h0 : 0 ≤ z) (h1 : z < n) (hx : r64 x) (hd : decode cc pc = .ok (.lastore, 1))
    (kk : ∀ M' : Mem, M' = sL M a z.toNat x → WF M' → Fr ch M0 M' → AW p l e R s m args below meth c G nL Q M' (pc + 1) lv st) : AW p l e R s m args below meth c G nL Q M pc lv (.long (lL x) :: .int (iI z) :: .ref a :: st) :=
  A_last C hr h9 hs hn h0 h1 hd (kk _ rfl (WF_sL W hx) (E.tr (Fr_sL hr hc)))
theorem A_min (C : Cx p s m args meth c G cc nL own Ts rt) {a b : Int} {index : Nat} (ha : r32 a) (hb : r32 b) (w1 : Cond.methodLink own index Lib.Math.min.name ∈ Ts) (w2 : Cond.static Lib.Math.min.name ∈ Ts) (w3 : Cond.initialized "java/lang/Math" ∈ Ts) (w4 : Cond.code Lib.Math.min.name Lib.Math.min.code 2 (some .int) ∈ Ts) (hf : 1 ≤ R.frames) (hcat : (st.map fun v => v.category).sum + 13 ≤ R.locals) (hd : decode cc pc = .ok (.invokestatic index, 3))
    (k : ∀ z : Int, (z = a ∨ z = b) → z ≤ a → z ≤ b → AW p l e R s m args below meth c G nL Q M (pc + 3) lv (.int (iI z) :: st)) : AW p l e R s m args below meth c G nL Q M pc lv (.int (iI b) :: .int (iI a) :: st) :=
  fun H locs ls hP hS hl => va_mmin C.1 C.2.1 (by rw [C.2.2.1]; exact hl.1.symm) C.2.2.2.1 (C.2.2.2.2.1 _ w1) (C.2.2.2.2.1 _ w2) (C.2.2.2.2.1 _ w3) (C.2.2.2.2.1 _ w4) hf (by rw [xCat]; exact hcat) (Nat.zero_le _) (Nat.zero_le _) hd (by
    by_cases h : b < a
    · rw [if_pos ((iI_lt hb ha).mpr h)]
      exact k b (Or.inr rfl) (by omega) (by omega) H locs ls hP hS hl
    · rw [if_neg (fun q => h ((iI_lt hb ha).mp q))]
      exact k a (Or.inl rfl) (by omega) (by omega) H locs ls hP hS hl)
theorem A_max (C : Cx p s m args meth c G cc nL own Ts rt) {a b : Int} {index : Nat} (ha : r32 a) (hb : r32 b) (w1 : Cond.methodLink own index Lib.Math.max.name ∈ Ts) (w2 : Cond.static Lib.Math.max.name ∈ Ts) (w3 : Cond.initialized "java/lang/Math" ∈ Ts) (w4 : Cond.code Lib.Math.max.name Lib.Math.max.code 2 (some .int) ∈ Ts) (hf : 1 ≤ R.frames) (hcat : (st.map fun v => v.category).sum + 13 ≤ R.locals) (hd : decode cc pc = .ok (.invokestatic index, 3))
    (k : ∀ z : Int, (z = a ∨ z = b) → a ≤ z → b ≤ z → AW p l e R s m args below meth c G nL Q M (pc + 3) lv (.int (iI z) :: st)) : AW p l e R s m args below meth c G nL Q M pc lv (.int (iI b) :: .int (iI a) :: st) :=
  fun H locs ls hP hS hl => va_mmax C.1 C.2.1 (by rw [C.2.2.1]; exact hl.1.symm) C.2.2.2.1 (C.2.2.2.2.1 _ w1) (C.2.2.2.2.1 _ w2) (C.2.2.2.2.1 _ w3) (C.2.2.2.2.1 _ w4) hf (by rw [xCat]; exact hcat) (Nat.zero_le _) (Nat.zero_le _) hd (by
    by_cases h : a < b
    · rw [if_pos ((iI_lt ha hb).mpr h)]
      exact k b (Or.inr rfl) (by omega) (by omega) H locs ls hP hS hl
    · rw [if_neg (fun q => h ((iI_lt ha hb).mp q))]
      exact k a (Or.inl rfl) (by omega) (by omega) H locs ls hP hS hl)
end AWG
end
section
/-! more rules -/
section AWX
variable {p : Program} {l : Launch} {e : Env} {R : Room} {s : State} {m : MethodId} {args : Array Value} {below : List Frame} {meth : Method} {c : Code} {G : xG} {nL : Nat} {Q : State → Prop} {M M0 : Mem} {pc : Nat} {lv : List (Nat × Value)} {st : List Value} {cc : ByteArray} {own : String} {Ts : List Cond} {rt : Option FieldType} {ch : List Nat}
theorem A_st {st' : List Value} (h : st = st') (k : AW p l e R s m args below meth c G nL Q M pc lv st') : AW p l e R s m args below meth c G nL Q M pc lv st := h ▸ k
theorem A_lv {lv' : List (Nat × Value)} (h : lv = lv') (k : AW p l e R s m args below meth c G nL Q M pc lv' st) : AW p l e R s m args below meth c G nL Q M pc lv st := h ▸ k
theorem A_abs (C : Cx p s m args meth c G cc nL own Ts rt) {a : Int} {index : Nat} (ha : r32 a) (_ : True ∨ r32 a) (w1 : Cond.methodLink own index Lib.Math.abs.name ∈ Ts) (w2 : Cond.static Lib.Math.abs.name ∈ Ts) (w3 : Cond.initialized "java/lang/Math" ∈ Ts) (w4 : Cond.code Lib.Math.abs.name Lib.Math.abs.code 1 (some .int) ∈ Ts) (hf : 1 ≤ R.frames) (hcat : (st.map fun v => v.category).sum + 13 ≤ R.locals) (hd : decode cc pc = .ok (.invokestatic index, 3))
    (k : ∀ z : Int, (0 ≤ a ∧ z = a) ∨ (a < 0 ∧ z = -a) → AW p l e R s m args below meth c G nL Q M (pc + 3) lv (.int (iI z) :: st)) : AW p l e R s m args below meth c G nL Q M pc lv (.int (iI a) :: st) :=
  fun H locs ls hP hS hl => va_mabs C.1 C.2.1 (by rw [C.2.2.1]; exact hl.1.symm) C.2.2.2.1 (C.2.2.2.2.1 _ w1) (C.2.2.2.2.1 _ w2) (C.2.2.2.2.1 _ w3) (C.2.2.2.2.1 _ w4) hf (by rw [xCat]; omega) (Nat.zero_le _) (Nat.zero_le _) hd (by
    by_cases h : 0 ≤ a
    · rw [if_pos (show (0 : Int32) ≤ iI a by rw [← iI_0]; exact (iI_le (by decide) ha).mpr h)]
      exact k a (Or.inl ⟨h, rfl⟩) H locs ls hP hS hl
    · rw [if_neg (show ¬ (0 : Int32) ≤ iI a from fun q => h ((iI_le (by decide) ha).mp (by rw [iI_0]; exact q)))]
      rw [← iI_0, iI_sub, show (0 : Int) - a = -a by omega]
      exact k (-a) (Or.inr ⟨by omega, rfl⟩) H locs ls hP hS hl)
theorem A_minl (C : Cx p s m args meth c G cc nL own Ts rt) {a b : Int} {index : Nat} (ha : r64 a) (hb : r64 b) (w1 : Cond.methodLink own index Lib.MathLoose.min_long.x ∈ Ts) (w2 : Cond.static Lib.MathLoose.min_long.x ∈ Ts) (w3 : Cond.initialized "java/lang/Math" ∈ Ts) (w4 : Cond.code Lib.MathLoose.min_long.x Lib.MathLoose.min_long.code 4 (some .long) ∈ Ts) (hf : 1 ≤ R.frames) (hcat : (st.map fun v => v.category).sum + 15 ≤ R.locals) (hd : decode cc pc = .ok (.invokestatic index, 3))
    (k : ∀ z : Int, r64 z → AW p l e R s m args below meth c G nL Q M (pc + 3) lv (.long (lL z) :: st)) : AW p l e R s m args below meth c G nL Q M pc lv (.long (lL b) :: .long (lL a) :: st) :=
  fun H locs ls hP hS hl => va_mmin_long C.1 C.2.1 (by rw [C.2.2.1]; exact hl.1.symm) C.2.2.2.1 (C.2.2.2.2.1 _ w1) (C.2.2.2.2.1 _ w2) (C.2.2.2.2.1 _ w3) (C.2.2.2.2.1 _ w4) hf (by rw [xCat]; exact hcat) (Nat.zero_le _) (Nat.zero_le _) hd (by
    split
    · exact k b hb H locs ls hP hS hl
    · exact k a ha H locs ls hP hS hl)
theorem G_putR (C : Cx p s m args meth c G cc nL own Ts rt) (W : WF M) (E : Fr ch M0 M) {a b index : Nat} {ty0 : Nat → FieldType} {nm : String} (hr : kd a = 17) (hb : kd b = 6 ∨ kd b = 12) (F : Fl own Ts 6 0 index RX6 TX6 7) (P : Fp 6 0 TX6 7 ty0) (hy : ty0 0 = .object nm) (hc : ch.contains 17 = true) (hd : decode cc pc = .ok (.putfield index, 3))
    (kk : ∀ M' : Mem, M' = sR M a 0 (some b) → WF M' → Fr ch M0 M' → AW p l e R s m args below meth c G nL Q M' (pc + 3) lv st) : AW p l e R s m args below meth c G nL Q M pc lv (.ref b :: .ref a :: st) :=
  A_putR C hr rfl rfl rfl F P hy hd (kk _ rfl (WF_sR W hr hb) (E.tr (Fr_sR hr hc)))
/-! a ground of either role -/
theorem gr_cols (W : WF M) {g : Nat} (hr : kd g = 6 ∨ kd g = 12) : ∃ b, M.2.2 g 0 = some b ∧ kd b = 7 := by
  rcases hr with h | h
  · exact W.r h 0 rfl
  · exact W.r h 0 rfl
theorem gr_getR (C : Cx p s m args meth c G cc nL own Ts rt) {a b index : Nat} (hr : kd a = 6 ∨ kd a = 12) (hb : M.2.2 a 0 = some b) (F : Fl own Ts 4 0 index RX4 TX4 2) (hd : decode cc pc = .ok (.getfield index, 3))
    (kk : AW p l e R s m args below meth c G nL Q M (pc + 3) lv (.ref b :: st)) : AW p l e R s m args below meth c G nL Q M pc lv (.ref a :: st) := by
  rcases hr with h | h
  · exact A_getR C h rfl rfl rfl hb F hd kk
  · exact A_getR C h rfl rfl rfl hb F hd kk
theorem gr_getI (C : Cx p s m args meth c G cc nL own Ts rt) (W : WF M) {a index : Nat} (hr : kd a = 6 ∨ kd a = 12) (F : Fl own Ts 4 1 index RX4 TX4 2) (hd : decode cc pc = .ok (.getfield index, 3))
    (kk : ∀ z : Int, z = M.1 a 1 → 0 ≤ z → z ≤ 12 → AW p l e R s m args below meth c G nL Q M (pc + 3) lv (.int (iI z) :: st)) : AW p l e R s m args below meth c G nL Q M pc lv (.ref a :: st) := by
  rcases hr with h | h
  · exact G_getI C W h rfl rfl rfl rfl rfl F rfl hd kk
  · exact G_getI C W h rfl rfl rfl rfl rfl F rfl hd kk
theorem gr_callV (C : Cx p s m args meth c G cc nL own Ts rt) {y : MethodName} {ws ws' : List Cond} {d : Nat} {a : Nat} {As : List Value} {pre : Mem → Prop} {post : Mem → Option Value → Mem → Prop} (K : Ct y ws d (.ref a :: As) pre post) {n maxL index : Nat} {bytes : ByteArray} {ret : Option FieldType}
    (g : GoodIn Ts (wsV own index RX4 y ws)) (hw : ws = Cond.code y bytes maxL ret :: ws') (hy : y.cls = RX4 ∧ y.cls ≠ "java/lang/invoke/MethodHandle" ∧ y.cls ≠ "java/lang/invoke/VarHandle" ∧ (parseMethodDescriptor y.desc).map (fun d => d.parameters.length) = some n) (hR : (rmD d).frames + 1 ≤ R.frames ∧ 8 + (maxL + 11) + (rmD d).locals ≤ R.locals)
    (hr : kd a = 6 ∨ kd a = 12) (hn : As.length = n) (_ : True = True) (hcat : (st.map fun v => v.category).sum ≤ 8) (hd : decode cc pc = .ok (.invokevirtual index, 3)) {st0 : List Value} (hst : st0 = As.reverse ++ .ref a :: st)
    (hpre : pre M) (kk : ∀ (r : Option Value) (M' : Mem), post M r M' → AW p l e R s m args below meth c G nL Q M' (pc + 3) lv (r.toList ++ st)) : AW p l e R s m args below meth c G nL Q M pc lv st0 := by
  rcases hr with h | h
  · exact A_callV C K (T := TX4) (N := 2) g hw hy hR h rfl rfl rfl hn hcat hd hst hpre kk
  · exact A_callV C K (T := TX4) (N := 2) g hw hy hR h rfl rfl rfl hn hcat hd hst hpre kk
end AWX
theorem sI_kd {M : Mem} {a k b j ra rb : Nat} {z : Int} (ha : kd a = ra) (hb : kd b = rb) (h : (ra == rb) = false) : (sI M b j z).1 a k = M.1 a k := by
  refine sI_ne (fun q => ?_)
  rw [q.1, hb] at ha
  rw [ha] at h
  simp at h
theorem sI_pl {M : Mem} {a k j : Nat} {z : Int} (h : (k == j) = false) : (sI M a j z).1 a k = M.1 a k := by
  refine sI_ne (fun q => ?_)
  rw [q.2] at h
  simp at h
/-! a whole row of ints copied -/
def cpI (M : Mem) (a b n : Nat) : Mem := (fun x j => if x = b ∧ j < n then M.1 a j else M.1 x j, M.2)
theorem WF_cp {M : Mem} (W : WF M) {a b r n : Nat} {lo hi : Int} (ha : kd a = r) (hb : kd b = r) (hbd : ∀ k, bd r k = (lo, hi)) : WF (cpI M a b n) := by
  refine ⟨fun x j => ?_, W.2.1, W.2.2.1, W.2.2.2⟩
  show _ ≤ (if x = b ∧ j < n then M.1 a j else M.1 x j) ∧ (if x = b ∧ j < n then M.1 a j else M.1 x j) ≤ _
  split
  · rename_i h
    obtain ⟨rfl, _⟩ := h
    have h1 := W.i ha j
    rw [hb]
    exact h1
  · exact W.1 x j
theorem Fr_cp {ch : List Nat} {M : Mem} {a b r n : Nat} (hb : kd b = r) (hc : ch.contains r = true) : Fr ch M (cpI M a b n) := by
  intro x hx
  have hne : x ≠ b := by
    intro e
    subst e
    rw [hb, hc] at hx
    exact absurd hx (by decide)
  exact ⟨by funext j; simp [cpI, hne], rfl, rfl⟩
section AWY
variable {p : Program} {l : Launch} {e : Env} {R : Room} {s : State} {m : MethodId} {args : Array Value} {below : List Frame} {meth : Method} {c : Code} {G : xG} {nL : Nat} {Q : State → Prop} {M M0 : Mem} {pc : Nat} {lv : List (Nat × Value)} {st : List Value} {cc : ByteArray} {own : String} {Ts : List Cond} {rt : Option FieldType} {ch : List Nat}
theorem G_copy (C : Cx p s m args meth c G cc nL own Ts rt) (W : WF M) (E : Fr ch M0 M) {a b r n index : Nat} {lo hi : Int} (ha : kd a = r) (hb : kd b = r) (h9 : (r == 99) = false) (hs : shp r = (1, n)) (hn : n < 2 ^ 31) (hbd : ∀ k, bd r k = (lo, hi)) (hc : ch.contains r = true) (w1 : Cond.methodLink own index arraycopyName ∈ Ts) (w2 : Cond.native arraycopyName ∈ Ts) (w3 : Cond.static arraycopyName ∈ Ts) (w4 : Cond.initialized "java/lang/System" ∈ Ts) (hf : 1 ≤ R.frames) (hlo : (st.map fun v => v.category).sum + (nativeFrameWords "java/lang/System" "arraycopy" 5 + 11) ≤ R.locals) (hd : decode cc pc = .ok (.invokestatic index, 3))
    (kk : ∀ M' : Mem, M' = cpI M a b n → WF M' → Fr ch M0 M' → AW p l e R s m args below meth c G nL Q M' (pc + 3) lv st) : AW p l e R s m args below meth c G nL Q M pc lv (.int (iI n) :: .int (iI 0) :: .ref b :: .int (iI 0) :: .ref a :: st) := by
  intro H locs ls hP hS hl
  have hsa : shp (kd a) = (1, n) := by rw [ha]; exact hs
  have hsb : shp (kd b) = (1, n) := by rw [hb]; exact hs
  have e0 : (iI 0).toNatClampNeg = 0 := by decide +kernel
  have en : (iI n).toNatClampNeg = n := by rw [iI_cl (by omega) (by omega)]; omega
  have z0 : ¬ iI 0 < 0 := by decide +kernel
  have zn : ¬ iI n < 0 := by rw [← iI_0, iI_lt ⟨by omega, by omega⟩ (by decide)]; omega
  refine va_copyi C.1 C.2.1 (by rw [C.2.2.1]; exact hl.1.symm) C.2.2.2.1 (C.2.2.2.2.1 _ w1) (C.2.2.2.2.1 _ w2) (C.2.2.2.2.1 _ w3) (C.2.2.2.2.1 _ w4) C.2.2.2.2.2.1 hP xD hS a b 0 0 (ty := .int) (xAt ha h9 (xE_1 hsa)) (xAt hb h9 (xE_1 hsb)) rfl rfl rfl z0 z0 zn (by rw [e0, en]; omega) (by rw [e0, en]; omega) (fun _ _ => rfl) hf (by rw [xCat]; exact hlo) hd (fun H1 locs1 hP1 _ hS1 => ?_)
  rw [e0, en, xWs_set (G := G) (M := M) (M' := cpI M a b n) (kd_lt hb h9) (by
    rw [xE_1 hsb]
    congr 4
    funext j
    by_cases hj : j < n
    · rw [pk_cpy_in (Nat.zero_le _) (by omega)]
      simp [cpI, hj]
    · rw [pk_cpy_out (Or.inr (by omega))]
      simp [cpI, hj]) (fun x hx => xE_o (by funext j; simp [cpI, hx]) rfl rfl)] at hP1
  exact kk _ rfl (WF_cp W ha hb hbd) (E.tr (Fr_cp hb hc)) H1 locs1 ls hP1 hS1 hl
theorem A_alen (C : Cx p s m args meth c G cc nL own Ts rt) {a r n : Nat} {z : Int} (hr : kd a = r) (h9 : (r == 99) = false) (hs : shp r = (1, n)) (hv : Int32.ofNat n = iI z) (hd : decode cc pc = .ok (.arraylength, 1))
    (kk : AW p l e R s m args below meth c G nL Q M (pc + 1) lv (.int (iI z) :: st)) : AW p l e R s m args below meth c G nL Q M pc lv (.ref a :: st) :=
  fun H locs ls hP hS hl => va_alen C.1 C.2.1 C.2.2.2.2.2.1 hP a 0 (xAt hr h9 (xE_1 (by rw [hr]; exact hs))) (ty := .int) rfl hv hd (kk H locs ls hP hS hl)
end AWY
end
section
/-! switches, shifts, halves -/
section AWZ
variable {p : Program} {l : Launch} {e : Env} {R : Room} {s : State} {m : MethodId} {args : Array Value} {below : List Frame} {meth : Method} {c : Code} {G : xG} {nL : Nat} {Q : State → Prop} {M M0 : Mem} {pc : Nat} {lv : List (Nat × Value)} {st : List Value} {cc : ByteArray} {own : String} {Ts : List Cond} {rt : Option FieldType} {ch : List Nat}
theorem A_tabIn (C : Cx p s m args meth c G cc nL own Ts rt) {x dflt lo hi : Int} {offs : Array Int} {len : Nat} (k : Int) {off : Int} (tgt : Nat) (hd : decode cc pc = .ok (.tableswitch dflt lo hi offs, len)) (hk : x = k) (hr : r32 k) (h1 : ¬ k < lo) (h2 : ¬ hi < k) (ho : offs[(k - lo).toNat]? = some off) (ht : (pc : Int) + off = (tgt : Int)) (kk : AW p l e R s m args below meth c G nL Q M tgt lv st) : AW p l e R s m args below meth c G nL Q M pc lv (.int (iI x) :: st) := by
  intro H locs ls hP hS hl
  subst hk
  exact lv_tableIn C.1 C.2.1 hd (by rw [iI_toInt hr]; exact h1) (by rw [iI_toInt hr]; exact h2) (by rw [iI_toInt hr]; exact ho) ht (kk H locs ls hP hS hl)
theorem A_tabOut (C : Cx p s m args meth c G cc nL own Ts rt) {x dflt lo hi : Int} {offs : Array Int} {len : Nat} (tgt : Nat) (hd : decode cc pc = .ok (.tableswitch dflt lo hi offs, len)) (hr : r32 x) (h : x < lo ∨ hi < x) (ht : (pc : Int) + dflt = (tgt : Int)) (kk : AW p l e R s m args below meth c G nL Q M tgt lv st) : AW p l e R s m args below meth c G nL Q M pc lv (.int (iI x) :: st) :=
  fun H locs ls hP hS hl => lv_tableOut C.1 C.2.1 hd (by rw [iI_toInt hr]; exact h) ht (kk H locs ls hP hS hl)
theorem shl_tab : ∀ b : Nat, b < 7 → (iI 1 <<< (iI (b : Int) &&& 31)).toInt = ((2 ^ b : Nat) : Int) := by decide +kernel
theorem A_shl1 (C : Cx p s m args meth c G cc nL own Ts rt) {b : Int} (h0 : 0 ≤ b) (h1 : b ≤ 6) (hd : decode cc pc = .ok (.ishl, 1)) (k : ∀ z : Int, 1 ≤ z → z ≤ 64 → (b ≤ 5 → z ≤ 32) → AW p l e R s m args below meth c G nL Q M (pc + 1) lv (.int (iI z) :: st)) : AW p l e R s m args below meth c G nL Q M pc lv (.int (iI b) :: .int (iI 1) :: st) :=
  fun H locs ls hP hS hl => lv_ishl C.1 C.2.1 hd (by
    have e1 := shl_tab b.toNat (by omega)
    rw [show ((b.toNat : Nat) : Int) = b by omega] at e1
    rw [iI_of (iI 1 <<< (iI b &&& 31))]
    have hb : b = 0 ∨ b = 1 ∨ b = 2 ∨ b = 3 ∨ b = 4 ∨ b = 5 ∨ b = 6 := by omega
    refine k _ ?_ ?_ ?_ H locs ls hP hS hl <;> rw [e1] <;> rcases hb with rfl | rfl | rfl | rfl | rfl | rfl | rfl <;> decide)
theorem or_lt {a b : Nat} (ha : a < 64) (hb : b < 64) : a ||| b < 64 := Nat.or_lt_two_pow (n := 6) ha hb
theorem A_ior (C : Cx p s m args meth c G cc nL own Ts rt) {a b : Int} (ha0 : 0 ≤ a) (ha : a ≤ 63) (hb0 : 0 ≤ b) (hb : b ≤ 63) (hd : decode cc pc = .ok (.ior, 1)) (k : ∀ z : Int, 0 ≤ z → z ≤ 63 → AW p l e R s m args below meth c G nL Q M (pc + 1) lv (.int (iI z) :: st)) : AW p l e R s m args below meth c G nL Q M pc lv (.int (iI b) :: .int (iI a) :: st) :=
  fun H locs ls hP hS hl => lv_ior C.1 C.2.1 hd (by
    have key : iI a ||| iI b = iI (((a.toNat ||| b.toNat : Nat)) : Int) := by
      have e1 : ∀ x : Int, 0 ≤ x → x ≤ 63 → (iI x).toBitVec = BitVec.ofNat 32 x.toNat := by
        intro x h0 h1
        show (Int32.ofInt x).toBitVec = _
        rw [Int32.toBitVec_ofInt]
        apply BitVec.eq_of_toNat_eq
        rw [BitVec.toNat_ofInt, BitVec.toNat_ofNat]
        omega
      have h63 := or_lt (a := a.toNat) (b := b.toNat) (by omega) (by omega)
      apply Int32.toBitVec_inj.mp
      rw [Int32.toBitVec_or, e1 a ha0 ha, e1 b hb0 hb, e1 _ (by omega) (by omega)]
      apply BitVec.eq_of_toNat_eq
      rw [BitVec.toNat_or, BitVec.toNat_ofNat, BitVec.toNat_ofNat, BitVec.toNat_ofNat, Nat.mod_eq_of_lt (by omega), Nat.mod_eq_of_lt (by omega), Nat.mod_eq_of_lt (by omega)]
      omega
    rw [key]
    have h63 := or_lt (a := a.toNat) (b := b.toNat) (by omega) (by omega)
    exact k _ (by omega) (by omega) H locs ls hP hS hl)
theorem half_tab : ∀ a : Nat, a < 17 → (iI (a : Int) / iI 2).toInt = ((a / 2 : Nat) : Int) := by decide +kernel
theorem A_idiv2 (C : Cx p s m args meth c G cc nL own Ts rt) {a : Int} (h0 : 0 ≤ a) (h1 : a ≤ 16) (hd : decode cc pc = .ok (.idiv, 1)) (k : ∀ z : Int, 2 * z ≤ a → a < 2 * z + 2 → AW p l e R s m args below meth c G nL Q M (pc + 1) lv (.int (iI z) :: st)) : AW p l e R s m args below meth c G nL Q M pc lv (.int (iI 2) :: .int (iI a) :: st) :=
  fun H locs ls hP hS hl => lv_idiv C.1 C.2.1 hd (by decide +kernel) (by
    have e1 := half_tab a.toNat (by omega)
    rw [show ((a.toNat : Nat) : Int) = a by omega] at e1
    rw [iI_of (iI a / iI 2), e1]
    exact k _ (by omega) (by omega) H locs ls hP hS hl)
end AWZ
end
section
set_option maxHeartbeats 4000000 in
theorem kX7_within  {x0 : Int} {x1 : Int} {x2 : Int} (hx0 : (-2147483648 : Int) ≤ x0 ∧ x0 ≤ 2147483647) (hx1 : (-2147483648 : Int) ≤ x1 ∧ x1 ≤ 2147483647) (hx2 : (-2147483648 : Int) ≤ x2 ∧ x2 ≤ 2147483647) : Ct yX7_within wsX7_within 1 [.int (iI x0), .int (iI x1), .int (iI x2)] (fun M => WF M) (fun M r M' => ∃ z : Int, r = some (.int (iI z)) ∧ (0 : Int) ≤ z ∧ z ≤ 1 ∧ WF M' ∧ Fr [] M M' ∧ (z = 1 ↔ (x1 ≤ x0 ∧ x0 ≤ x2))) := by
  refine Ct_of (cc := cX7_within) (nL := 3) (rt := (some .boolean)) (own := RX7) rfl (by decide) rfl (Nat.le_of_ble_eq_true rfl) ?_
  intro p l e s m args below meth c G M0 C W
  have E : Fr [] M0 M0 := Fr.rf
  refine A_lv (lv' := [(0, .int (iI x0)), (1, .int (iI x1)), (2, .int (iI x2))]) rfl ?_
  refine A_iloadn C dX7_within_0 0 rfl rfl ?_
  refine A_iloadn C dX7_within_1 1 rfl rfl ?_
  refine A_icmplt C 14 dX7_within_2 (by decide) (by omega) (by omega) (fun c1 => ?_) (fun c1 => ?_)
  · skip
    refine A_iconst C dX7_within_14 ?_
    exact A_zret C (by omega) dX7_within_15 ⟨0, rfl, by omega, by omega, W, E, by omega⟩
  · skip
    refine A_iloadn C dX7_within_5 0 rfl rfl ?_
    refine A_iloadn C dX7_within_6 2 rfl rfl ?_
    refine A_icmpgt C 14 dX7_within_7 (by decide) (by omega) (by omega) (fun c2 => ?_) (fun c2 => ?_)
    · skip
      refine A_iconst C dX7_within_14 ?_
      exact A_zret C (by omega) dX7_within_15 ⟨0, rfl, by omega, by omega, W, E, by omega⟩
    · skip
      refine A_iconst C dX7_within_10 ?_
      refine A_goto C 15 dX7_within_11 (by decide) ?_
      exact A_zret C (by omega) dX7_within_15 ⟨1, rfl, by omega, by omega, W, E, by omega⟩

theorem uX1_clear_1 : ∀ w ∈ u_ws RX1 TX1 9, w ∈ wsX1_clear := by decide +kernel
theorem fX1_clear_9 : Fl RX1 wsX1_clear 1 1 9 RX1 TX1 9 := ⟨rfl, by decide, uX1_clear_1, by decide +kernel⟩
theorem fX1_clear_15 : Fl RX1 wsX1_clear 1 2 15 RX1 TX1 9 := ⟨rfl, by decide, uX1_clear_1, by decide +kernel⟩
theorem fX1_clear_18 : Fl RX1 wsX1_clear 1 3 18 RX1 TX1 9 := ⟨rfl, by decide, uX1_clear_1, by decide +kernel⟩
theorem fX1_clear_21 : Fl RX1 wsX1_clear 1 4 21 RX1 TX1 9 := ⟨rfl, by decide, uX1_clear_1, by decide +kernel⟩
theorem fX1_clear_31 : Fl RX1 wsX1_clear 1 8 31 RX1 TX1 9 := ⟨rfl, by decide, uX1_clear_1, by decide +kernel⟩
set_option maxHeartbeats 4000000 in
theorem kX1_clear  {a : Nat} (ha : kd a = 8) : Ct yX1_clear wsX1_clear 1 [.ref a] (fun M => WF M) (fun M r M' => r = none ∧ WF M' ∧ Fr [8] M M') := by
  refine Ct_of (cc := cX1_clear) (nL := 1) (rt := none) (own := RX1) rfl (by decide) rfl (Nat.le_of_ble_eq_true rfl) ?_
  intro p l e s m args below meth c G M0 C W
  have E : Fr [8] M0 M0 := Fr.rf
  refine A_lv (lv' := [(0, .ref a)]) rfl ?_
  refine A_aloadn C dX1_clear_0 0 rfl rfl ?_
  refine A_iconst C dX1_clear_1 ?_
  refine G_putI C W E ha rfl rfl rfl rfl rfl fX1_clear_9 ⟨tyX1_ok, nmX1, rfl, by decide⟩ (Or.inl rfl) rfl rfl (by omega) (by omega) dX1_clear_2 (fun M1 eM1 WM1 EM1 => ?_)
  refine A_aloadn C dX1_clear_5 0 rfl rfl ?_
  refine A_iconst C dX1_clear_6 ?_
  refine G_putI C WM1 EM1 ha rfl rfl rfl rfl rfl fX1_clear_15 ⟨tyX1_ok, nmX1, rfl, by decide⟩ (Or.inl rfl) rfl rfl (by omega) (by omega) dX1_clear_7 (fun M2 eM2 WM2 EM2 => ?_)
  refine A_aloadn C dX1_clear_10 0 rfl rfl ?_
  refine A_iconst C dX1_clear_11 ?_
  refine G_putI C WM2 EM2 ha rfl rfl rfl rfl rfl fX1_clear_18 ⟨tyX1_ok, nmX1, rfl, by decide⟩ (Or.inl rfl) rfl rfl (by omega) (by omega) dX1_clear_12 (fun M3 eM3 WM3 EM3 => ?_)
  refine A_aloadn C dX1_clear_15 0 rfl rfl ?_
  refine A_iconst C dX1_clear_16 ?_
  refine G_putI C WM3 EM3 ha rfl rfl rfl rfl rfl fX1_clear_21 ⟨tyX1_ok, nmX1, rfl, by decide⟩ (Or.inl rfl) rfl rfl (by omega) (by omega) dX1_clear_17 (fun M4 eM4 WM4 EM4 => ?_)
  refine A_aloadn C dX1_clear_20 0 rfl rfl ?_
  refine A_iconst C dX1_clear_21 ?_
  refine G_putI C WM4 EM4 ha rfl rfl rfl rfl rfl fX1_clear_31 ⟨tyX1_ok, nmX1, rfl, by decide⟩ (Or.inr ⟨rfl, by omega⟩) rfl rfl (by omega) (by omega) dX1_clear_22 (fun M5 eM5 WM5 EM5 => ?_)
  exact A_vret C dX1_clear_25 ⟨rfl, WM5, EM5⟩

theorem uX1_digTo_1 : ∀ w ∈ u_ws RX1 TX1 9, w ∈ wsX1_digTo := by decide +kernel
theorem fX1_digTo_9 : Fl RX1 wsX1_digTo 1 1 9 RX1 TX1 9 := ⟨rfl, by decide, uX1_digTo_1, by decide +kernel⟩
theorem fX1_digTo_31 : Fl RX1 wsX1_digTo 1 8 31 RX1 TX1 9 := ⟨rfl, by decide, uX1_digTo_1, by decide +kernel⟩
set_option maxHeartbeats 4000000 in
theorem kX1_digTo  {a : Nat} (ha : kd a = 8) {x1 : Int} (hx1 : (0 : Int) ≤ x1 ∧ x1 ≤ 999) : Ct yX1_digTo wsX1_digTo 2 [.ref a, .int (iI x1)] (fun M => WF M) (fun M r M' => r = none ∧ WF M' ∧ Fr [8] M M') := by
  refine Ct_of (cc := cX1_digTo) (nL := 2) (rt := none) (own := RX1) rfl (by decide) rfl (Nat.le_of_ble_eq_true rfl) ?_
  intro p l e s m args below meth c G M0 C W
  have E : Fr [8] M0 M0 := Fr.rf
  refine A_lv (lv' := [(0, .ref a), (1, .int (iI x1))]) rfl ?_
  refine A_aloadn C dX1_digTo_0 0 rfl rfl ?_
  refine A_aloadn C dX1_digTo_1 0 rfl rfl ?_
  refine G_getI C W ha rfl rfl rfl rfl rfl fX1_digTo_9 rfl dX1_digTo_2 (fun z1 ez1 lz1 uz1 => ?_)
  refine A_iloadn C dX1_digTo_5 1 rfl rfl ?_
  refine A_min C (by omega) (by omega) (by decide +kernel) (by decide +kernel) (by decide +kernel) (by decide +kernel) (Nat.le_of_ble_eq_true rfl) (Nat.le_of_ble_eq_true rfl) dX1_digTo_6 (fun z2 ez2 lz2 uz2 => ?_)
  refine G_putI C W E ha rfl rfl rfl rfl rfl fX1_digTo_9 ⟨tyX1_ok, nmX1, rfl, by decide⟩ (Or.inl rfl) rfl rfl (by omega) (by omega) dX1_digTo_9 (fun M3 eM3 WM3 EM3 => ?_)
  refine A_aloadn C dX1_digTo_12 0 rfl rfl ?_
  refine A_iconst C dX1_digTo_13 ?_
  refine G_putI C WM3 EM3 ha rfl rfl rfl rfl rfl fX1_digTo_31 ⟨tyX1_ok, nmX1, rfl, by decide⟩ (Or.inr ⟨rfl, by omega⟩) rfl rfl (by omega) (by omega) dX1_digTo_14 (fun M4 eM4 WM4 EM4 => ?_)
  exact A_vret C dX1_digTo_17 ⟨rfl, WM4, EM4⟩

theorem uX1_put_1 : ∀ w ∈ u_ws RX1 TX1 9, w ∈ wsX1_put := by decide +kernel
theorem fX1_put_21 : Fl RX1 wsX1_put 1 4 21 RX1 TX1 9 := ⟨rfl, by decide, uX1_put_1, by decide +kernel⟩
theorem fX1_put_31 : Fl RX1 wsX1_put 1 8 31 RX1 TX1 9 := ⟨rfl, by decide, uX1_put_1, by decide +kernel⟩
theorem fX1_put_18 : Fl RX1 wsX1_put 1 3 18 RX1 TX1 9 := ⟨rfl, by decide, uX1_put_1, by decide +kernel⟩
theorem fX1_put_15 : Fl RX1 wsX1_put 1 2 15 RX1 TX1 9 := ⟨rfl, by decide, uX1_put_1, by decide +kernel⟩
set_option maxHeartbeats 4000000 in
theorem kX1_put  {a : Nat} (ha : kd a = 8) {x1 : Int} {x2 : Int} (hx1 : (-2147483648 : Int) ≤ x1 ∧ x1 ≤ 2147483647) (hx2 : (0 : Int) ≤ x2 ∧ x2 ≤ 999) (hy0 : x1 = 0 → x2 ≤ 24) : Ct yX1_put wsX1_put 1 [.ref a, .int (iI x1), .int (iI x2)] (fun M => WF M) (fun M r M' => r = none ∧ WF M' ∧ Fr [8] M M') := by
  refine Ct_of (cc := cX1_put) (nL := 3) (rt := none) (own := RX1) rfl (by decide) rfl (Nat.le_of_ble_eq_true rfl) ?_
  intro p l e s m args below meth c G M0 C W
  have E : Fr [8] M0 M0 := Fr.rf
  refine A_lv (lv' := [(0, .ref a), (1, .int (iI x1)), (2, .int (iI x2))]) rfl ?_
  refine A_iloadn C dX1_put_0 1 rfl rfl ?_
  refine A_ifne C 12 dX1_put_1 (by decide) (by omega) (fun c1 => ?_) (fun c1 => ?_)
  · skip
    refine A_iloadn C dX1_put_12 1 rfl rfl ?_
    refine A_iconst C dX1_put_13 ?_
    refine A_icmpne C 25 dX1_put_14 (by decide) (by omega) (by omega) (fun c2 => ?_) (fun c2 => ?_)
    · skip
      refine A_aloadn C dX1_put_25 0 rfl rfl ?_
      refine A_iloadn C dX1_put_26 2 rfl rfl ?_
      refine G_putI C W E ha rfl rfl rfl rfl rfl fX1_put_21 ⟨tyX1_ok, nmX1, rfl, by decide⟩ (Or.inl rfl) rfl rfl (by omega) (by omega) dX1_put_27 (fun M3 eM3 WM3 EM3 => ?_)
      refine A_aloadn C dX1_put_30 0 rfl rfl ?_
      refine A_iconst C dX1_put_31 ?_
      refine G_putI C WM3 EM3 ha rfl rfl rfl rfl rfl fX1_put_31 ⟨tyX1_ok, nmX1, rfl, by decide⟩ (Or.inr ⟨rfl, by omega⟩) rfl rfl (by omega) (by omega) dX1_put_32 (fun M4 eM4 WM4 EM4 => ?_)
      exact A_vret C dX1_put_35 ⟨rfl, WM4, EM4⟩
    · skip
      refine A_aloadn C dX1_put_17 0 rfl rfl ?_
      refine A_iloadn C dX1_put_18 2 rfl rfl ?_
      refine G_putI C W E ha rfl rfl rfl rfl rfl fX1_put_18 ⟨tyX1_ok, nmX1, rfl, by decide⟩ (Or.inl rfl) rfl rfl (by omega) (by omega) dX1_put_19 (fun M5 eM5 WM5 EM5 => ?_)
      refine A_goto C 30 dX1_put_22 (by decide) ?_
      refine A_aloadn C dX1_put_30 0 rfl rfl ?_
      refine A_iconst C dX1_put_31 ?_
      refine G_putI C WM5 EM5 ha rfl rfl rfl rfl rfl fX1_put_31 ⟨tyX1_ok, nmX1, rfl, by decide⟩ (Or.inr ⟨rfl, by omega⟩) rfl rfl (by omega) (by omega) dX1_put_32 (fun M6 eM6 WM6 EM6 => ?_)
      exact A_vret C dX1_put_35 ⟨rfl, WM6, EM6⟩
  · skip
    refine A_aloadn C dX1_put_4 0 rfl rfl ?_
    refine A_iloadn C dX1_put_5 2 rfl rfl ?_
    refine G_putI C W E ha rfl rfl rfl rfl rfl fX1_put_15 ⟨tyX1_ok, nmX1, rfl, by decide⟩ (Or.inl rfl) rfl rfl (by omega) (by omega) dX1_put_6 (fun M7 eM7 WM7 EM7 => ?_)
    refine A_goto C 30 dX1_put_9 (by decide) ?_
    refine A_aloadn C dX1_put_30 0 rfl rfl ?_
    refine A_iconst C dX1_put_31 ?_
    refine G_putI C WM7 EM7 ha rfl rfl rfl rfl rfl fX1_put_31 ⟨tyX1_ok, nmX1, rfl, by decide⟩ (Or.inr ⟨rfl, by omega⟩) rfl rfl (by omega) (by omega) dX1_put_32 (fun M8 eM8 WM8 EM8 => ?_)
    exact A_vret C dX1_put_35 ⟨rfl, WM8, EM8⟩

theorem uX1_holdsAt_1 : ∀ w ∈ u_ws RX1 TX1 9, w ∈ wsX1_holdsAt := by decide +kernel
theorem fX1_holdsAt_9 : Fl RX1 wsX1_holdsAt 1 1 9 RX1 TX1 9 := ⟨rfl, by decide, uX1_holdsAt_1, by decide +kernel⟩
theorem fX1_holdsAt_28 : Fl RX1 wsX1_holdsAt 1 7 28 RX1 TX1 9 := ⟨rfl, by decide, uX1_holdsAt_1, by decide +kernel⟩
set_option maxHeartbeats 4000000 in
theorem kX1_holdsAt  {a : Nat} (ha : kd a = 8) {x1 : Int} {x2 : Int} (hx1 : (-2147483648 : Int) ≤ x1 ∧ x1 ≤ 2147483647) (hx2 : (-2147483648 : Int) ≤ x2 ∧ x2 ≤ 2147483647) (hy0 : -1000 ≤ x1 ∧ x1 ≤ 1000) (hy1 : -1000 ≤ x2 ∧ x2 ≤ 1000) : Ct yX1_holdsAt wsX1_holdsAt 1 [.ref a, .int (iI x1), .int (iI x2)] (fun M => WF M) (fun M r M' => ∃ z : Int, r = some (.int (iI z)) ∧ (-2147483648 : Int) ≤ z ∧ z ≤ 2147483647 ∧ WF M' ∧ Fr [] M M' ∧ (z = -1 ∨ (0 ≤ x1 ∧ x1 + x2 ≤ 24 ∧ 0 ≤ x2 ∧ x2 ≤ 4))) := by
  refine Ct_of (cc := cX1_holdsAt) (nL := 3) (rt := (some .int)) (own := RX1) rfl (by decide) rfl (Nat.le_of_ble_eq_true rfl) ?_
  intro p l e s m args below meth c G M0 C W
  have E : Fr [] M0 M0 := Fr.rf
  refine A_lv (lv' := [(0, .ref a), (1, .int (iI x1)), (2, .int (iI x2))]) rfl ?_
  refine A_iloadn C dX1_holdsAt_0 1 rfl rfl ?_
  refine A_iflt C 31 dX1_holdsAt_1 (by decide) (by omega) (fun c1 => ?_) (fun c1 => ?_)
  · skip
    refine A_iconst C dX1_holdsAt_31 ?_
    exact A_iret C dX1_holdsAt_32 ⟨(-1), rfl, by omega, by omega, W, E, by omega⟩
  · skip
    refine A_iloadn C dX1_holdsAt_4 1 rfl rfl ?_
    refine A_aloadn C dX1_holdsAt_5 0 rfl rfl ?_
    refine G_getI C W ha rfl rfl rfl rfl rfl fX1_holdsAt_9 rfl dX1_holdsAt_6 (fun z2 ez2 lz2 uz2 => ?_)
    refine A_icmpge C 31 dX1_holdsAt_9 (by decide) (by omega) (by omega) (fun c3 => ?_) (fun c3 => ?_)
    · skip
      refine A_iconst C dX1_holdsAt_31 ?_
      exact A_iret C dX1_holdsAt_32 ⟨(-1), rfl, by omega, by omega, W, E, by omega⟩
    · skip
      refine A_iloadn C dX1_holdsAt_12 2 rfl rfl ?_
      refine A_iflt C 31 dX1_holdsAt_13 (by decide) (by omega) (fun c4 => ?_) (fun c4 => ?_)
      · skip
        refine A_iconst C dX1_holdsAt_31 ?_
        exact A_iret C dX1_holdsAt_32 ⟨(-1), rfl, by omega, by omega, W, E, by omega⟩
      · skip
        refine A_iloadn C dX1_holdsAt_16 2 rfl rfl ?_
        refine A_iconst C dX1_holdsAt_17 ?_
        refine A_icmpge C 31 dX1_holdsAt_18 (by decide) (by omega) (by omega) (fun c5 => ?_) (fun c5 => ?_)
        · skip
          refine A_iconst C dX1_holdsAt_31 ?_
          exact A_iret C dX1_holdsAt_32 ⟨(-1), rfl, by omega, by omega, W, E, by omega⟩
        · skip
          refine A_iloadn C dX1_holdsAt_21 1 rfl rfl ?_
          refine A_iloadn C dX1_holdsAt_22 2 rfl rfl ?_
          refine A_iadd C dX1_holdsAt_23 ?_
          refine A_aloadn C dX1_holdsAt_24 0 rfl rfl ?_
          refine G_getI C W ha rfl rfl rfl rfl rfl fX1_holdsAt_9 rfl dX1_holdsAt_25 (fun z6 ez6 lz6 uz6 => ?_)
          refine A_icmple C 33 dX1_holdsAt_28 (by decide) (by omega) (by omega) (fun c7 => ?_) (fun c7 => ?_)
          · skip
            refine A_aloadn C dX1_holdsAt_33 0 rfl rfl ?_
            refine G_getR C W ha rfl rfl rfl rfl fX1_holdsAt_28 dX1_holdsAt_34 (fun b8 hb8 qb8 => ?_)
            refine A_iloadn C dX1_holdsAt_37 1 rfl rfl ?_
            refine A_iconst C dX1_holdsAt_38 ?_
            refine A_imul C dX1_holdsAt_39 ?_
            refine A_iloadn C dX1_holdsAt_40 2 rfl rfl ?_
            refine A_iadd C dX1_holdsAt_41 ?_
            refine G_iald C W qb8 rfl rfl (by decide) (fun _ => rfl) (by omega) (by omega) dX1_holdsAt_42 (fun z9 ez9 lz9 uz9 => ?_)
            exact A_iret C dX1_holdsAt_43 ⟨z9, rfl, by omega, by omega, W, E, by omega⟩
          · skip
            refine A_iconst C dX1_holdsAt_31 ?_
            exact A_iret C dX1_holdsAt_32 ⟨(-1), rfl, by omega, by omega, W, E, by omega⟩

theorem uX1_drivesFrom_1 : ∀ w ∈ u_ws RX1 TX1 9, w ∈ wsX1_drivesFrom := by decide +kernel
theorem fX1_drivesFrom_9 : Fl RX1 wsX1_drivesFrom 1 1 9 RX1 TX1 9 := ⟨rfl, by decide, uX1_drivesFrom_1, by decide +kernel⟩
theorem fX1_drivesFrom_24 : Fl RX1 wsX1_drivesFrom 1 6 24 RX1 TX1 9 := ⟨rfl, by decide, uX1_drivesFrom_1, by decide +kernel⟩
set_option maxHeartbeats 4000000 in
theorem kX1_drivesFrom  {a : Nat} (ha : kd a = 8) {x1 : Int} {x2 : Int} (hx1 : (-2147483648 : Int) ≤ x1 ∧ x1 ≤ 2147483647) (hx2 : (-2147483648 : Int) ≤ x2 ∧ x2 ≤ 2147483647) : Ct yX1_drivesFrom wsX1_drivesFrom 1 [.ref a, .int (iI x1), .int (iI x2)] (fun M => WF M) (fun M r M' => ∃ z : Int, r = some (.int (iI z)) ∧ (-2147483648 : Int) ≤ z ∧ z ≤ 2147483647 ∧ WF M' ∧ Fr [] M M') := by
  refine Ct_of (cc := cX1_drivesFrom) (nL := 3) (rt := (some .int)) (own := RX1) rfl (by decide) rfl (Nat.le_of_ble_eq_true rfl) ?_
  intro p l e s m args below meth c G M0 C W
  have E : Fr [] M0 M0 := Fr.rf
  refine A_lv (lv' := [(0, .ref a), (1, .int (iI x1)), (2, .int (iI x2))]) rfl ?_
  refine A_iloadn C dX1_drivesFrom_0 1 rfl rfl ?_
  refine A_iflt C 26 dX1_drivesFrom_1 (by decide) (by omega) (fun c1 => ?_) (fun c1 => ?_)
  · skip
    refine A_iconst C dX1_drivesFrom_26 ?_
    exact A_iret C dX1_drivesFrom_27 ⟨0, rfl, by omega, by omega, W, E⟩
  · skip
    refine A_iloadn C dX1_drivesFrom_4 1 rfl rfl ?_
    refine A_aloadn C dX1_drivesFrom_5 0 rfl rfl ?_
    refine G_getI C W ha rfl rfl rfl rfl rfl fX1_drivesFrom_9 rfl dX1_drivesFrom_6 (fun z2 ez2 lz2 uz2 => ?_)
    refine A_icmpgt C 26 dX1_drivesFrom_9 (by decide) (by omega) (by omega) (fun c3 => ?_) (fun c3 => ?_)
    · skip
      refine A_iconst C dX1_drivesFrom_26 ?_
      exact A_iret C dX1_drivesFrom_27 ⟨0, rfl, by omega, by omega, W, E⟩
    · skip
      refine A_bipush C dX1_drivesFrom_12 (by decide) ?_
      refine A_aloadn C dX1_drivesFrom_14 0 rfl rfl ?_
      refine G_getR C W ha rfl rfl rfl rfl fX1_drivesFrom_24 dX1_drivesFrom_15 (fun b4 hb4 qb4 => ?_)
      refine A_iloadn C dX1_drivesFrom_18 1 rfl rfl ?_
      refine G_iald C W qb4 rfl rfl (by decide) (fun _ => rfl) (by omega) (by omega) dX1_drivesFrom_19 (fun z5 ez5 lz5 uz5 => ?_)
      refine A_imul C dX1_drivesFrom_20 ?_
      refine A_iloadn C dX1_drivesFrom_21 2 rfl rfl ?_
      refine A_imul C dX1_drivesFrom_22 ?_
      refine A_topi (fun z6 rz6 ez6 => ?_)
      refine A_goto C 27 dX1_drivesFrom_23 (by decide) ?_
      exact A_iret C dX1_drivesFrom_27 ⟨z6, rfl, by omega, by omega, W, E⟩

theorem uX1_pile_1 : ∀ w ∈ u_ws RX1 TX1 9, w ∈ wsX1_pile := by decide +kernel
theorem fX1_pile_9 : Fl RX1 wsX1_pile 1 1 9 RX1 TX1 9 := ⟨rfl, by decide, uX1_pile_1, by decide +kernel⟩
theorem fX1_pile_31 : Fl RX1 wsX1_pile 1 8 31 RX1 TX1 9 := ⟨rfl, by decide, uX1_pile_1, by decide +kernel⟩
theorem fX1_pile_39 : Fl RX1 wsX1_pile 1 0 39 RX1 TX1 9 := ⟨rfl, by decide, uX1_pile_1, by decide +kernel⟩
set_option maxHeartbeats 4000000 in
theorem lpX1_pile_18 {p : Program} {l : Launch} {e : Env} {s : State} {m : MethodId} {args : Array Value} {below : List Frame} {meth : Method} {c : Code} {G : xG} (C : Cx p s m args meth c G cX1_pile 5 RX1 wsX1_pile none)  {a : Nat} (ha : kd a = 8) {x1 : Int} {x2 : Int} (hx1 : (0 : Int) ≤ x1 ∧ x1 ≤ 5) (hx2 : (0 : Int) ≤ x2 ∧ x2 ≤ 24) {M0 : Mem} : ∀ (n : Nat) (v3 v4 : Int) (M : Mem), (25 - v4).toNat < n → (0 ≤ v4 ∧ v4 ≤ 24 ∧ 0 ≤ v3 ∧ v3 ≤ 24) → WF M → Fr [8, 9] M0 M → AW p l e (rmD 2) s m args below meth c G 5 (QQ G below args s ((fun M r M' => r = none ∧ WF M' ∧ Fr [8, 9] M M') M0)) M 18 [(0, .ref a), (1, .int (iI x1)), (3, .int (iI v3)), (4, .int (iI v4))] [] := by
  intro n
  induction n with
  | zero => intro v3 v4 M hn; exact absurd hn (Nat.not_lt_zero _)
  | succ n ih =>
    intro v3 v4 M hn hi W E
    refine A_iload C dX1_pile_18 3 rfl ?_
    refine A_iloadn C dX1_pile_20 2 rfl rfl ?_
    refine A_icmpge C 38 dX1_pile_21 (by decide) (by omega) (by omega) (fun c1 => ?_) (fun c1 => ?_)
    · skip
      refine A_aloadn C dX1_pile_38 0 rfl rfl ?_
      refine A_iloadn C dX1_pile_39 2 rfl rfl ?_
      refine G_putI C W E ha rfl rfl rfl rfl rfl fX1_pile_9 ⟨tyX1_ok, nmX1, rfl, by decide⟩ (Or.inl rfl) rfl rfl (by omega) (by omega) dX1_pile_40 (fun M2 eM2 WM2 EM2 => ?_)
      refine A_aloadn C dX1_pile_43 0 rfl rfl ?_
      refine A_iconst C dX1_pile_44 ?_
      refine G_putI C WM2 EM2 ha rfl rfl rfl rfl rfl fX1_pile_31 ⟨tyX1_ok, nmX1, rfl, by decide⟩ (Or.inr ⟨rfl, by omega⟩) rfl rfl (by omega) (by omega) dX1_pile_45 (fun M3 eM3 WM3 EM3 => ?_)
      exact A_vret C dX1_pile_48 ⟨rfl, WM3, EM3⟩
    · skip
      refine A_aloadn C dX1_pile_24 0 rfl rfl ?_
      refine G_getR C W ha rfl rfl rfl rfl fX1_pile_39 dX1_pile_25 (fun b4 hb4 qb4 => ?_)
      refine A_iload C dX1_pile_28 3 rfl ?_
      refine A_iloadn C dX1_pile_30 1 rfl rfl ?_
      refine G_iast C W E qb4 rfl rfl (by decide) (fun _ => rfl) rfl (by omega) (by omega) (by omega) (by omega) dX1_pile_31 (fun M5 eM5 WM5 EM5 => ?_)
      refine A_iinc (lv' := [(4, .int (iI (v4 + 1))), (0, .ref a), (1, .int (iI x1)), (3, .int (iI v3))]) C dX1_pile_32 3 rfl (by decide) rfl ?_
      refine A_goto C 18 dX1_pile_35 (by decide) ?_
      refine A_pick [1, 2, 3, 0] rfl ?_
      exact ih v3 (v4 + 1) M5 (by omega) (by omega) WM5 EM5
set_option maxHeartbeats 4000000 in
theorem kX1_pile  {a : Nat} (ha : kd a = 8) {x1 : Int} {x2 : Int} (hx1 : (0 : Int) ≤ x1 ∧ x1 ≤ 5) (hx2 : (0 : Int) ≤ x2 ∧ x2 ≤ 24) : Ct yX1_pile wsX1_pile 2 [.ref a, .int (iI x1), .int (iI x2)] (fun M => WF M) (fun M r M' => r = none ∧ WF M' ∧ Fr [8, 9] M M') := by
  refine Ct_of (cc := cX1_pile) (nL := 5) (rt := none) (own := RX1) rfl (by decide) rfl (Nat.le_of_ble_eq_true rfl) ?_
  intro p l e s m args below meth c G M0 C W
  have E : Fr [8, 9] M0 M0 := Fr.rf
  refine A_lv (lv' := [(0, .ref a), (1, .int (iI x1)), (2, .int (iI x2))]) rfl ?_
  refine A_aloadn C dX1_pile_0 0 rfl rfl ?_
  refine G_getI C W ha rfl rfl rfl rfl rfl fX1_pile_9 rfl dX1_pile_1 (fun z6 ez6 lz6 uz6 => ?_)
  refine A_iloadn C dX1_pile_4 2 rfl rfl ?_
  refine A_iadd C dX1_pile_5 ?_
  refine A_bipush C dX1_pile_6 (by decide) ?_
  refine A_min C (by omega) (by omega) (by decide +kernel) (by decide +kernel) (by decide +kernel) (by decide +kernel) (Nat.le_of_ble_eq_true rfl) (Nat.le_of_ble_eq_true rfl) dX1_pile_8 (fun z7 ez7 lz7 uz7 => ?_)
  refine A_istoren (lv' := [(3, .int (iI z7)), (0, .ref a), (1, .int (iI x1)), (2, .int (iI x2))]) C dX1_pile_11 rfl (by decide) rfl ?_
  refine A_aloadn C dX1_pile_12 1 rfl rfl ?_
  refine G_getI C W ha rfl rfl rfl rfl rfl fX1_pile_9 rfl dX1_pile_13 (fun z8 ez8 lz8 uz8 => ?_)
  refine A_istore (lv' := [(4, .int (iI z8)), (3, .int (iI z7)), (0, .ref a), (1, .int (iI x1)), (2, .int (iI x2))]) C dX1_pile_16 (by decide) rfl ?_
  refine A_pick [2, 3, 1, 0] rfl ?_
  exact lpX1_pile_18 C  ha hx1 hx2 ((25 - z8).toNat + 1) z7 z8 M0 (by omega) (by omega) W E

theorem uX2_has_2 : ∀ w ∈ u_ws RX2 TX2 5, w ∈ wsX2_has := by decide +kernel
theorem fX2_has_25 : Fl RX2 wsX2_has 2 4 25 RX2 TX2 5 := ⟨rfl, by decide, uX2_has_2, by decide +kernel⟩
set_option maxHeartbeats 4000000 in
theorem kX2_has  {a : Nat} (ha : kd a = 1) {x1 : Int} (hx1 : (-2147483648 : Int) ≤ x1 ∧ x1 ≤ 2147483647) : Ct yX2_has wsX2_has 2 [.ref a, .int (iI x1)] (fun M => WF M) (fun M r M' => ∃ z : Int, r = some (.int (iI z)) ∧ (0 : Int) ≤ z ∧ z ≤ 1 ∧ WF M' ∧ Fr [] M M' ∧ (z = 1 → (0 ≤ x1 ∧ x1 ≤ 5))) := by
  refine Ct_of (cc := cX2_has) (nL := 2) (rt := (some .boolean)) (own := RX2) rfl (by decide) rfl (Nat.le_of_ble_eq_true rfl) ?_
  intro p l e s m args below meth c G M0 C W
  have E : Fr [] M0 M0 := Fr.rf
  refine A_lv (lv' := [(0, .ref a), (1, .int (iI x1))]) rfl ?_
  refine A_iloadn C dX2_has_0 1 rfl rfl ?_
  refine A_iconst C dX2_has_1 ?_
  refine A_aloadn C dX2_has_2 0 rfl rfl ?_
  refine G_getI C W ha rfl rfl rfl rfl rfl fX2_has_25 rfl dX2_has_3 (fun z1 ez1 lz1 uz1 => ?_)
  refine A_iconst C dX2_has_6 ?_
  refine A_isub C dX2_has_7 ?_
  refine A_callSN C (n := 3) (st := []) (kX7_within  (by omega) (by omega) (by omega)) C.2.2.2.2.2.2.2.2.2.1 gX2_has_X7_within_n29 (by decide +kernel) (by decide +kernel) rfl (by decide +kernel) ⟨Nat.le_of_ble_eq_true rfl, Nat.le_of_ble_eq_true rfl⟩ rfl (Nat.le_of_ble_eq_true rfl) dX2_has_8 rfl W (fun r2 M3 h4 => ?_)
  obtain ⟨z6, rfl, lz6, uz6, WM3, FM3, xx5⟩ := h4
  have EM3 := Fr.tr E (FM3.mono (c2 := []) rfl)
  refine A_st (st' := [.int (iI z6)]) rfl ?_
  exact A_zret C (by omega) dX2_has_11 ⟨z6, rfl, by omega, by omega, WM3, EM3, by omega⟩

theorem uX4_has_4 : ∀ w ∈ u_ws RX4 TX4 2, w ∈ wsX4_has := by decide +kernel
theorem fX4_has_17 : Fl RX4 wsX4_has 4 1 17 RX4 TX4 2 := ⟨rfl, by decide, uX4_has_4, by decide +kernel⟩
set_option maxHeartbeats 4000000 in
theorem kX4_has  {a : Nat} (ha : (kd a = 6 ∨ kd a = 12)) {x1 : Int} (hx1 : (-2147483648 : Int) ≤ x1 ∧ x1 ≤ 2147483647) : Ct yX4_has wsX4_has 2 [.ref a, .int (iI x1)] (fun M => WF M) (fun M r M' => ∃ z : Int, r = some (.int (iI z)) ∧ (0 : Int) ≤ z ∧ z ≤ 1 ∧ WF M' ∧ Fr [] M M' ∧ (z = 1 → (0 ≤ x1 ∧ x1 ≤ 11)) ∧ (z = 1 ↔ (0 ≤ x1 ∧ x1 < M.1 a 1))) := by
  refine Ct_of (cc := cX4_has) (nL := 2) (rt := (some .boolean)) (own := RX4) rfl (by decide) rfl (Nat.le_of_ble_eq_true rfl) ?_
  intro p l e s m args below meth c G M0 C W
  have E : Fr [] M0 M0 := Fr.rf
  refine A_lv (lv' := [(0, .ref a), (1, .int (iI x1))]) rfl ?_
  refine A_iloadn C dX4_has_0 1 rfl rfl ?_
  refine A_iconst C dX4_has_1 ?_
  refine A_aloadn C dX4_has_2 0 rfl rfl ?_
  refine gr_getI C W ha fX4_has_17 dX4_has_3 (fun z1 ez1 lz1 uz1 => ?_)
  refine A_iconst C dX4_has_6 ?_
  refine A_isub C dX4_has_7 ?_
  refine A_callSN C (n := 3) (st := []) (kX7_within  (by omega) (by omega) (by omega)) C.2.2.2.2.2.2.2.2.1 gX4_has_X7_within_n32 (by decide +kernel) (by decide +kernel) rfl (by decide +kernel) ⟨Nat.le_of_ble_eq_true rfl, Nat.le_of_ble_eq_true rfl⟩ rfl (Nat.le_of_ble_eq_true rfl) dX4_has_8 rfl W (fun r2 M3 h4 => ?_)
  obtain ⟨z6, rfl, lz6, uz6, WM3, FM3, xx5⟩ := h4
  have EM3 := Fr.tr E (FM3.mono (c2 := []) rfl)
  refine A_st (st' := [.int (iI z6)]) rfl ?_
  exact A_zret C (by omega) dX4_has_11 ⟨z6, rfl, by omega, by omega, WM3, EM3, by omega⟩

theorem uX0_has_0 : ∀ w ∈ u_ws RX0 TX0 4, w ∈ wsX0_has := by decide +kernel
theorem fX0_has_9 : Fl RX0 wsX0_has 0 0 9 RX0 TX0 4 := ⟨rfl, by decide, uX0_has_0, by decide +kernel⟩
set_option maxHeartbeats 4000000 in
theorem kX0_has  {a : Nat} (ha : kd a = 13) {x1 : Int} (hx1 : (-2147483648 : Int) ≤ x1 ∧ x1 ≤ 2147483647) : Ct yX0_has wsX0_has 2 [.ref a, .int (iI x1)] (fun M => WF M) (fun M r M' => ∃ z : Int, r = some (.int (iI z)) ∧ (0 : Int) ≤ z ∧ z ≤ 1 ∧ WF M' ∧ Fr [] M M' ∧ (z = 1 → (0 ≤ x1 ∧ x1 ≤ 5)) ∧ (z = 1 ↔ (0 ≤ x1 ∧ x1 < M.1 a 0))) := by
  refine Ct_of (cc := cX0_has) (nL := 2) (rt := (some .boolean)) (own := RX0) rfl (by decide) rfl (Nat.le_of_ble_eq_true rfl) ?_
  intro p l e s m args below meth c G M0 C W
  have E : Fr [] M0 M0 := Fr.rf
  refine A_lv (lv' := [(0, .ref a), (1, .int (iI x1))]) rfl ?_
  refine A_iloadn C dX0_has_0 1 rfl rfl ?_
  refine A_iconst C dX0_has_1 ?_
  refine A_aloadn C dX0_has_2 0 rfl rfl ?_
  refine G_getI C W ha rfl rfl rfl rfl rfl fX0_has_9 rfl dX0_has_3 (fun z1 ez1 lz1 uz1 => ?_)
  refine A_iconst C dX0_has_6 ?_
  refine A_isub C dX0_has_7 ?_
  refine A_callSN C (n := 3) (st := []) (kX7_within  (by omega) (by omega) (by omega)) C.2.2.2.2.2.2.2.2.2.2 gX0_has_X7_within_n25 (by decide +kernel) (by decide +kernel) rfl (by decide +kernel) ⟨Nat.le_of_ble_eq_true rfl, Nat.le_of_ble_eq_true rfl⟩ rfl (Nat.le_of_ble_eq_true rfl) dX0_has_8 rfl W (fun r2 M3 h4 => ?_)
  obtain ⟨z6, rfl, lz6, uz6, WM3, FM3, xx5⟩ := h4
  have EM3 := Fr.tr E (FM3.mono (c2 := []) rfl)
  refine A_st (st' := [.int (iI z6)]) rfl ?_
  exact A_zret C (by omega) dX0_has_11 ⟨z6, rfl, by omega, by omega, WM3, EM3, by omega⟩

theorem uX5_drop_5 : ∀ w ∈ u_ws RX5 TX5 3, w ∈ wsX5_drop := by decide +kernel
theorem fX5_drop_19 : Fl RX5 wsX5_drop 5 2 19 RX5 TX5 3 := ⟨rfl, by decide, uX5_drop_5, by decide +kernel⟩
set_option maxHeartbeats 4000000 in
theorem kX5_drop  {a : Nat} (ha : kd a = 20) : Ct yX5_drop wsX5_drop 1 [.ref a] (fun M => WF M) (fun M r M' => r = none ∧ WF M' ∧ Fr [20] M M') := by
  refine Ct_of (cc := cX5_drop) (nL := 1) (rt := none) (own := RX5) rfl (by decide) rfl (Nat.le_of_ble_eq_true rfl) ?_
  intro p l e s m args below meth c G M0 C W
  have E : Fr [20] M0 M0 := Fr.rf
  refine A_lv (lv' := [(0, .ref a)]) rfl ?_
  refine A_aloadn C dX5_drop_0 0 rfl rfl ?_
  refine A_iconst C dX5_drop_1 ?_
  refine G_putI C W E ha rfl rfl rfl rfl rfl fX5_drop_19 ⟨tyX5_ok, nmX5, rfl, by decide⟩ (Or.inl rfl) rfl rfl (by omega) (by omega) dX5_drop_2 (fun M1 eM1 WM1 EM1 => ?_)
  exact A_vret C dX5_drop_5 ⟨rfl, WM1, EM1⟩
end
section
theorem uX1_copy_1 : ∀ w ∈ u_ws RX1 TX1 9, w ∈ wsX1_copy := by decide +kernel
theorem fX1_copy_9 : Fl RX1 wsX1_copy 1 1 9 RX1 TX1 9 := ⟨rfl, by decide, uX1_copy_1, by decide +kernel⟩
theorem fX1_copy_15 : Fl RX1 wsX1_copy 1 2 15 RX1 TX1 9 := ⟨rfl, by decide, uX1_copy_1, by decide +kernel⟩
theorem fX1_copy_18 : Fl RX1 wsX1_copy 1 3 18 RX1 TX1 9 := ⟨rfl, by decide, uX1_copy_1, by decide +kernel⟩
theorem fX1_copy_21 : Fl RX1 wsX1_copy 1 4 21 RX1 TX1 9 := ⟨rfl, by decide, uX1_copy_1, by decide +kernel⟩
theorem fX1_copy_24 : Fl RX1 wsX1_copy 1 6 24 RX1 TX1 9 := ⟨rfl, by decide, uX1_copy_1, by decide +kernel⟩
theorem fX1_copy_28 : Fl RX1 wsX1_copy 1 7 28 RX1 TX1 9 := ⟨rfl, by decide, uX1_copy_1, by decide +kernel⟩
theorem fX1_copy_31 : Fl RX1 wsX1_copy 1 8 31 RX1 TX1 9 := ⟨rfl, by decide, uX1_copy_1, by decide +kernel⟩
set_option maxHeartbeats 4000000 in
theorem kX1_copy  {a : Nat} (ha : kd a = 8) {b : Nat} (hb : kd b = 8) : Ct yX1_copy wsX1_copy 2 [.ref a, .ref b] (fun M => WF M) (fun M r M' => r = none ∧ WF M' ∧ Fr [8, 10, 11] M M') := by
  refine Ct_of (cc := cX1_copy) (nL := 2) (rt := none) (own := RX1) rfl (by decide) rfl (Nat.le_of_ble_eq_true rfl) ?_
  intro p l e s m args below meth c G M0 C W
  have E : Fr [8, 10, 11] M0 M0 := Fr.rf
  refine A_lv (lv' := [(0, .ref a), (1, .ref b)]) rfl ?_
  refine A_aloadn C dX1_copy_0 0 rfl rfl ?_
  refine A_aloadn C dX1_copy_1 1 rfl rfl ?_
  refine G_getI C W hb rfl rfl rfl rfl rfl fX1_copy_9 rfl dX1_copy_2 (fun z1 ez1 lz1 uz1 => ?_)
  refine G_putI C W E ha rfl rfl rfl rfl rfl fX1_copy_9 ⟨tyX1_ok, nmX1, rfl, by decide⟩ (Or.inl rfl) rfl rfl (by omega) (by omega) dX1_copy_5 (fun M2 eM2 WM2 EM2 => ?_)
  refine A_aloadn C dX1_copy_8 0 rfl rfl ?_
  refine A_aloadn C dX1_copy_9 1 rfl rfl ?_
  refine G_getI C WM2 hb rfl rfl rfl rfl rfl fX1_copy_15 rfl dX1_copy_10 (fun z3 ez3 lz3 uz3 => ?_)
  refine G_putI C WM2 EM2 ha rfl rfl rfl rfl rfl fX1_copy_15 ⟨tyX1_ok, nmX1, rfl, by decide⟩ (Or.inl rfl) rfl rfl (by omega) (by omega) dX1_copy_13 (fun M4 eM4 WM4 EM4 => ?_)
  refine A_aloadn C dX1_copy_16 0 rfl rfl ?_
  refine A_aloadn C dX1_copy_17 1 rfl rfl ?_
  refine G_getI C WM4 hb rfl rfl rfl rfl rfl fX1_copy_18 rfl dX1_copy_18 (fun z5 ez5 lz5 uz5 => ?_)
  refine G_putI C WM4 EM4 ha rfl rfl rfl rfl rfl fX1_copy_18 ⟨tyX1_ok, nmX1, rfl, by decide⟩ (Or.inl rfl) rfl rfl (by omega) (by omega) dX1_copy_21 (fun M6 eM6 WM6 EM6 => ?_)
  refine A_aloadn C dX1_copy_24 0 rfl rfl ?_
  refine A_aloadn C dX1_copy_25 1 rfl rfl ?_
  refine G_getI C WM6 hb rfl rfl rfl rfl rfl fX1_copy_21 rfl dX1_copy_26 (fun z7 ez7 lz7 uz7 => ?_)
  refine G_putI C WM6 EM6 ha rfl rfl rfl rfl rfl fX1_copy_21 ⟨tyX1_ok, nmX1, rfl, by decide⟩ (Or.inl rfl) rfl rfl (by omega) (by omega) dX1_copy_29 (fun M8 eM8 WM8 EM8 => ?_)
  refine A_aloadn C dX1_copy_32 1 rfl rfl ?_
  refine G_getR C WM8 hb rfl rfl rfl rfl fX1_copy_24 dX1_copy_33 (fun b9 hb9 qb9 => ?_)
  refine A_iconst C dX1_copy_36 ?_
  refine A_aloadn C dX1_copy_37 0 rfl rfl ?_
  refine G_getR C WM8 ha rfl rfl rfl rfl fX1_copy_24 dX1_copy_38 (fun b10 hb10 qb10 => ?_)
  refine A_iconst C dX1_copy_41 ?_
  refine A_bipush C dX1_copy_42 (by decide) ?_
  refine G_copy C WM8 EM8 qb9 qb10 rfl rfl (by decide) (fun _ => rfl) rfl (by decide +kernel) (by decide +kernel) (by decide +kernel) (by decide +kernel) (Nat.le_of_ble_eq_true rfl) (Nat.le_of_ble_eq_true rfl) dX1_copy_44 (fun M11 eM11 WM11 EM11 => ?_)
  refine A_aloadn C dX1_copy_47 1 rfl rfl ?_
  refine G_getR C WM11 hb rfl rfl rfl rfl fX1_copy_28 dX1_copy_48 (fun b12 hb12 qb12 => ?_)
  refine A_iconst C dX1_copy_51 ?_
  refine A_aloadn C dX1_copy_52 0 rfl rfl ?_
  refine G_getR C WM11 ha rfl rfl rfl rfl fX1_copy_28 dX1_copy_53 (fun b13 hb13 qb13 => ?_)
  refine A_iconst C dX1_copy_56 ?_
  refine A_bipush C dX1_copy_57 (by decide) ?_
  refine G_copy C WM11 EM11 qb12 qb13 rfl rfl (by decide) (fun _ => rfl) rfl (by decide +kernel) (by decide +kernel) (by decide +kernel) (by decide +kernel) (Nat.le_of_ble_eq_true rfl) (Nat.le_of_ble_eq_true rfl) dX1_copy_59 (fun M14 eM14 WM14 EM14 => ?_)
  refine A_aloadn C dX1_copy_62 0 rfl rfl ?_
  refine A_aloadn C dX1_copy_63 1 rfl rfl ?_
  refine G_getI C WM14 hb rfl rfl rfl rfl rfl fX1_copy_31 rfl dX1_copy_64 (fun z15 ez15 lz15 uz15 => ?_)
  refine G_putI C WM14 EM14 ha rfl rfl rfl rfl rfl fX1_copy_31 ⟨tyX1_ok, nmX1, rfl, by decide⟩ (Or.inr ⟨rfl, by omega⟩) rfl rfl (by omega) (by omega) dX1_copy_67 (fun M16 eM16 WM16 EM16 => ?_)
  exact A_vret C dX1_copy_70 ⟨rfl, WM16, EM16⟩

theorem uX1_reckonHolds_1 : ∀ w ∈ u_ws RX1 TX1 9, w ∈ wsX1_reckonHolds := by decide +kernel
theorem uX1_reckonHolds_2 : ∀ w ∈ u_ws RX2 TX2 5, w ∈ wsX1_reckonHolds := by decide +kernel
theorem fX1_reckonHolds_39 : Fl RX1 wsX1_reckonHolds 1 0 39 RX1 TX1 9 := ⟨rfl, by decide, uX1_reckonHolds_1, by decide +kernel⟩
theorem fX1_reckonHolds_35 : Fl RX1 wsX1_reckonHolds 1 5 35 RX1 TX1 9 := ⟨rfl, by decide, uX1_reckonHolds_1, by decide +kernel⟩
theorem fX1_reckonHolds_62 : Fl RX1 wsX1_reckonHolds 2 3 62 RX2 TX2 5 := ⟨rfl, by decide, uX1_reckonHolds_2, by decide +kernel⟩
theorem fX1_reckonHolds_15 : Fl RX1 wsX1_reckonHolds 1 2 15 RX1 TX1 9 := ⟨rfl, by decide, uX1_reckonHolds_1, by decide +kernel⟩
theorem fX1_reckonHolds_69 : Fl RX1 wsX1_reckonHolds 2 2 69 RX2 TX2 5 := ⟨rfl, by decide, uX1_reckonHolds_2, by decide +kernel⟩
theorem fX1_reckonHolds_24 : Fl RX1 wsX1_reckonHolds 1 6 24 RX1 TX1 9 := ⟨rfl, by decide, uX1_reckonHolds_1, by decide +kernel⟩
theorem fX1_reckonHolds_72 : Fl RX1 wsX1_reckonHolds 2 1 72 RX2 TX2 5 := ⟨rfl, by decide, uX1_reckonHolds_2, by decide +kernel⟩
theorem fX1_reckonHolds_21 : Fl RX1 wsX1_reckonHolds 1 4 21 RX1 TX1 9 := ⟨rfl, by decide, uX1_reckonHolds_1, by decide +kernel⟩
set_option maxHeartbeats 4000000 in
theorem kX1_reckonHolds  {a : Nat} (ha : kd a = 8) {x1 : Int} {x2 : Int} (hx1 : (0 : Int) ≤ x1 ∧ x1 ≤ 23) (hx2 : (0 : Int) ≤ x2 ∧ x2 ≤ 4) (hy0 : x1 + x2 ≤ 24) : Ct yX1_reckonHolds wsX1_reckonHolds 2 [.ref a, .int (iI x1), .int (iI x2)] (fun M => WF M) (fun M r M' => ∃ z : Int, r = some (.int (iI z)) ∧ (-2147483648 : Int) ≤ z ∧ z ≤ 2147483647 ∧ WF M' ∧ Fr [] M M') := by
  refine Ct_of (cc := cX1_reckonHolds) (nL := 8) (rt := (some .int)) (own := RX1) rfl (by decide) rfl (Nat.le_of_ble_eq_true rfl) ?_
  intro p l e s m args below meth c G M0 C W
  have E : Fr [] M0 M0 := Fr.rf
  refine A_lv (lv' := [(0, .ref a), (1, .int (iI x1)), (2, .int (iI x2))]) rfl ?_
  refine A_aloadn C dX1_reckonHolds_0 0 rfl rfl ?_
  refine G_getR C W ha rfl rfl rfl rfl fX1_reckonHolds_39 dX1_reckonHolds_1 (fun b1 hb1 qb1 => ?_)
  refine A_iloadn C dX1_reckonHolds_4 1 rfl rfl ?_
  refine G_iald C W qb1 rfl rfl (by decide) (fun _ => rfl) (by omega) (by omega) dX1_reckonHolds_5 (fun z2 ez2 lz2 uz2 => ?_)
  refine A_istoren (lv' := [(3, .int (iI z2)), (0, .ref a), (1, .int (iI x1)), (2, .int (iI x2))]) C dX1_reckonHolds_6 rfl (by decide) rfl ?_
  refine A_aloadn C dX1_reckonHolds_7 1 rfl rfl ?_
  refine G_getR C W ha rfl rfl rfl rfl fX1_reckonHolds_35 dX1_reckonHolds_8 (fun b3 hb3 qb3 => ?_)
  refine G_getR C W qb3 rfl rfl rfl rfl fX1_reckonHolds_62 dX1_reckonHolds_11 (fun b4 hb4 qb4 => ?_)
  refine A_iloadn C dX1_reckonHolds_14 0 rfl rfl ?_
  refine G_zald C W qb4 rfl rfl (by decide) (fun _ => rfl) (by omega) (by omega) dX1_reckonHolds_15 (fun z5 ez5 lz5 uz5 => ?_)
  refine A_ifeq C 21 dX1_reckonHolds_16 (by decide) (by omega) (fun c6 => ?_) (fun c6 => ?_)
  · skip
    refine A_iloadn C dX1_reckonHolds_21 2 rfl rfl ?_
    refine A_iloadn C dX1_reckonHolds_22 3 rfl rfl ?_
    refine A_iadd C dX1_reckonHolds_23 ?_
    refine A_nami (fun z7 ez7 => ?_)
    refine A_istore (lv' := [(4, .int (iI z7)), (3, .int (iI z2)), (0, .ref a), (1, .int (iI x1)), (2, .int (iI x2))]) C dX1_reckonHolds_24 (by decide) rfl ?_
    refine A_iconst C dX1_reckonHolds_26 ?_
    refine A_iloadn C dX1_reckonHolds_27 4 rfl rfl ?_
    refine A_iloadn C dX1_reckonHolds_28 4 rfl rfl ?_
    refine A_imul C dX1_reckonHolds_29 ?_
    refine A_topi (fun z8 rz8 ez8 => ?_)
    refine A_iadd C dX1_reckonHolds_30 ?_
    refine A_nami (fun z9 ez9 => ?_)
    refine A_istore (lv' := [(5, .int (iI z9)), (4, .int (iI z7)), (3, .int (iI z2)), (0, .ref a), (1, .int (iI x1)), (2, .int (iI x2))]) C dX1_reckonHolds_31 (by decide) rfl ?_
    refine A_bipush C dX1_reckonHolds_33 (by decide) ?_
    refine A_iload C dX1_reckonHolds_35 0 rfl ?_
    refine A_imul C dX1_reckonHolds_37 ?_
    refine A_topi (fun z10 rz10 ez10 => ?_)
    refine A_aloadn C dX1_reckonHolds_38 3 rfl rfl ?_
    refine G_getI C W ha rfl rfl rfl rfl rfl fX1_reckonHolds_15 rfl dX1_reckonHolds_39 (fun z11 ez11 lz11 uz11 => ?_)
    refine A_iload C dX1_reckonHolds_42 1 rfl ?_
    refine A_isub C dX1_reckonHolds_44 ?_
    refine A_topi (fun z12 rz12 ez12 => ?_)
    refine A_iconst C dX1_reckonHolds_45 ?_
    refine A_max C (by omega) (by omega) (by decide +kernel) (by decide +kernel) (by decide +kernel) (by decide +kernel) (Nat.le_of_ble_eq_true rfl) (Nat.le_of_ble_eq_true rfl) dX1_reckonHolds_46 (fun z13 ez13 lz13 uz13 => ?_)
    refine A_imul C dX1_reckonHolds_49 ?_
    refine A_topi (fun z14 rz14 ez14 => ?_)
    refine A_istore (lv' := [(6, .int (iI z14)), (5, .int (iI z9)), (4, .int (iI z7)), (3, .int (iI z2)), (0, .ref a), (1, .int (iI x1)), (2, .int (iI x2))]) C dX1_reckonHolds_50 (by decide) rfl ?_
    refine A_aloadn C dX1_reckonHolds_52 4 rfl rfl ?_
    refine G_getR C W ha rfl rfl rfl rfl fX1_reckonHolds_35 dX1_reckonHolds_53 (fun b15 hb15 qb15 => ?_)
    refine G_getR C W qb15 rfl rfl rfl rfl fX1_reckonHolds_69 dX1_reckonHolds_56 (fun b16 hb16 qb16 => ?_)
    refine A_iloadn C dX1_reckonHolds_59 3 rfl rfl ?_
    refine G_iald C W qb16 rfl rfl (by decide) (fun _ => rfl) (by omega) (by omega) dX1_reckonHolds_60 (fun z17 ez17 lz17 uz17 => ?_)
    refine A_aloadn C dX1_reckonHolds_61 4 rfl rfl ?_
    refine G_getR C W ha rfl rfl rfl rfl fX1_reckonHolds_24 dX1_reckonHolds_62 (fun b18 hb18 qb18 => ?_)
    refine A_iload C dX1_reckonHolds_65 2 rfl ?_
    refine G_iald C W qb18 rfl rfl (by decide) (fun _ => rfl) (by omega) (by omega) dX1_reckonHolds_67 (fun z19 ez19 lz19 uz19 => ?_)
    refine A_iload C dX1_reckonHolds_68 0 rfl ?_
    refine A_isub C dX1_reckonHolds_70 ?_
    refine A_topi (fun z20 rz20 ez20 => ?_)
    refine A_iconst C dX1_reckonHolds_71 ?_
    refine A_max C (by omega) (by omega) (by decide +kernel) (by decide +kernel) (by decide +kernel) (by decide +kernel) (Nat.le_of_ble_eq_true rfl) (Nat.le_of_ble_eq_true rfl) dX1_reckonHolds_72 (fun z21 ez21 lz21 uz21 => ?_)
    refine A_imul C dX1_reckonHolds_75 ?_
    refine A_topi (fun z22 rz22 ez22 => ?_)
    refine A_istore (lv' := [(7, .int (iI z22)), (6, .int (iI z14)), (5, .int (iI z9)), (4, .int (iI z7)), (3, .int (iI z2)), (0, .ref a), (1, .int (iI x1)), (2, .int (iI x2))]) C dX1_reckonHolds_76 (by decide) rfl ?_
    refine A_bipush C dX1_reckonHolds_78 (by decide) ?_
    refine A_aloadn C dX1_reckonHolds_80 5 rfl rfl ?_
    refine G_getR C W ha rfl rfl rfl rfl fX1_reckonHolds_35 dX1_reckonHolds_81 (fun b23 hb23 qb23 => ?_)
    refine G_getR C W qb23 rfl rfl rfl rfl fX1_reckonHolds_72 dX1_reckonHolds_84 (fun b24 hb24 qb24 => ?_)
    refine A_iloadn C dX1_reckonHolds_87 4 rfl rfl ?_
    refine G_iald C W qb24 rfl rfl (by decide) (fun _ => rfl) (by omega) (by omega) dX1_reckonHolds_88 (fun z25 ez25 lz25 uz25 => ?_)
    refine A_imul C dX1_reckonHolds_89 ?_
    refine A_topi (fun z26 rz26 ez26 => ?_)
    refine A_iload C dX1_reckonHolds_90 2 rfl ?_
    refine A_imul C dX1_reckonHolds_92 ?_
    refine A_topi (fun z27 rz27 ez27 => ?_)
    refine A_iload C dX1_reckonHolds_93 0 rfl ?_
    refine A_iadd C dX1_reckonHolds_95 ?_
    refine A_topi (fun z28 rz28 ez28 => ?_)
    refine A_bipush C dX1_reckonHolds_96 (by decide) ?_
    refine A_aloadn C dX1_reckonHolds_98 5 rfl rfl ?_
    refine G_getI C W ha rfl rfl rfl rfl rfl fX1_reckonHolds_21 rfl dX1_reckonHolds_99 (fun z29 ez29 lz29 uz29 => ?_)
    refine A_imul C dX1_reckonHolds_102 ?_
    refine A_topi (fun z30 rz30 ez30 => ?_)
    refine A_iadd C dX1_reckonHolds_103 ?_
    refine A_topi (fun z31 rz31 ez31 => ?_)
    exact A_iret C dX1_reckonHolds_104 ⟨z31, rfl, by omega, by omega, W, E⟩
  · skip
    refine A_iconst C dX1_reckonHolds_19 ?_
    exact A_iret C dX1_reckonHolds_20 ⟨(-1), rfl, by omega, by omega, W, E⟩

theorem uX1_reckon_1 : ∀ w ∈ u_ws RX1 TX1 9, w ∈ wsX1_reckon := by decide +kernel
theorem uX1_reckon_2 : ∀ w ∈ u_ws RX2 TX2 5, w ∈ wsX1_reckon := by decide +kernel
theorem fX1_reckon_28 : Fl RX1 wsX1_reckon 1 7 28 RX1 TX1 9 := ⟨rfl, by decide, uX1_reckon_1, by decide +kernel⟩
theorem fX1_reckon_9 : Fl RX1 wsX1_reckon 1 1 9 RX1 TX1 9 := ⟨rfl, by decide, uX1_reckon_1, by decide +kernel⟩
theorem fX1_reckon_31 : Fl RX1 wsX1_reckon 1 8 31 RX1 TX1 9 := ⟨rfl, by decide, uX1_reckon_1, by decide +kernel⟩
theorem fX1_reckon_24 : Fl RX1 wsX1_reckon 1 6 24 RX1 TX1 9 := ⟨rfl, by decide, uX1_reckon_1, by decide +kernel⟩
theorem fX1_reckon_35 : Fl RX1 wsX1_reckon 1 5 35 RX1 TX1 9 := ⟨rfl, by decide, uX1_reckon_1, by decide +kernel⟩
theorem fX1_reckon_54 : Fl RX1 wsX1_reckon 2 0 54 RX2 TX2 5 := ⟨rfl, by decide, uX1_reckon_2, by decide +kernel⟩
theorem fX1_reckon_39 : Fl RX1 wsX1_reckon 1 0 39 RX1 TX1 9 := ⟨rfl, by decide, uX1_reckon_1, by decide +kernel⟩
theorem fX1_reckon_18 : Fl RX1 wsX1_reckon 1 3 18 RX1 TX1 9 := ⟨rfl, by decide, uX1_reckon_1, by decide +kernel⟩
set_option maxHeartbeats 4000000 in
theorem lpX1_reckon_79 {p : Program} {l : Launch} {e : Env} {s : State} {m : MethodId} {args : Array Value} {below : List Frame} {meth : Method} {c : Code} {G : xG} (C : Cx p s m args meth c G cX1_reckon 3 RX1 wsX1_reckon none)  {a : Nat} (ha : kd a = 8) {M0 : Mem} {N69 : Nat} (H69 : ∀ (v1 : Int) (M : Mem), (25 - v1).toNat < N69 → (0 ≤ v1 ∧ v1 ≤ 24) → WF M → Fr [8, 10, 11] M0 M → AW p l e (rmD 3) s m args below meth c G 3 (QQ G below args s ((fun M r M' => r = none ∧ WF M' ∧ Fr [8, 10, 11] M M') M0)) M 69 [(0, .ref a), (1, .int (iI v1))] []) : ∀ (n : Nat) (v1 v2 : Int) (M : Mem), (6 - v2).toNat < n → (0 ≤ v1 ∧ v1 ≤ 23 ∧ 0 ≤ v2 ∧ v2 ≤ 5 ∧ (25 - v1).toNat ≤ N69) → WF M → Fr [8, 10, 11] M0 M → AW p l e (rmD 3) s m args below meth c G 3 (QQ G below args s ((fun M r M' => r = none ∧ WF M' ∧ Fr [8, 10, 11] M M') M0)) M 79 [(0, .ref a), (1, .int (iI v1)), (2, .int (iI v2))] [] := by
  intro n
  induction n with
  | zero => intro v1 v2 M hn; exact absurd hn (Nat.not_lt_zero _)
  | succ n ih =>
    intro v1 v2 M hn hi W E
    refine A_iloadn C dX1_reckon_79 2 rfl rfl ?_
    refine A_iconst C dX1_reckon_80 ?_
    refine A_icmpge C 120 dX1_reckon_81 (by decide) (by omega) (by omega) (fun c1 => ?_) (fun c1 => ?_)
    · skip
      refine A_iinc (lv' := [(1, .int (iI (v1 + 1))), (0, .ref a), (2, .int (iI v2))]) C dX1_reckon_120 1 rfl (by decide) rfl ?_
      refine A_goto C 69 dX1_reckon_123 (by decide) ?_
      refine A_pick [1, 0] rfl ?_
      exact H69 (v1 + 1) M (by omega) (by omega) W E
    · skip
      refine A_aloadn C dX1_reckon_84 0 rfl rfl ?_
      refine G_getR C W ha rfl rfl rfl rfl fX1_reckon_28 dX1_reckon_85 (fun b2 hb2 qb2 => ?_)
      refine A_iloadn C dX1_reckon_88 1 rfl rfl ?_
      refine A_iconst C dX1_reckon_89 ?_
      refine A_imul C dX1_reckon_90 ?_
      refine A_iloadn C dX1_reckon_91 2 rfl rfl ?_
      refine A_iadd C dX1_reckon_92 ?_
      refine A_iloadn C dX1_reckon_93 1 rfl rfl ?_
      refine A_iloadn C dX1_reckon_94 2 rfl rfl ?_
      refine A_iadd C dX1_reckon_95 ?_
      refine A_aloadn C dX1_reckon_96 0 rfl rfl ?_
      refine G_getI C W ha rfl rfl rfl rfl rfl fX1_reckon_9 rfl dX1_reckon_97 (fun z3 ez3 lz3 uz3 => ?_)
      refine A_icmple C 107 dX1_reckon_100 (by decide) (by omega) (by omega) (fun c4 => ?_) (fun c4 => ?_)
      · skip
        refine A_aloadn C dX1_reckon_107 0 rfl rfl ?_
        refine A_iloadn C dX1_reckon_108 1 rfl rfl ?_
        refine A_iloadn C dX1_reckon_109 2 rfl rfl ?_
        refine A_callV C (n := 2) (st := [.int (iI ((v1 * 5) + v2)), .ref b2]) (kX1_reckonHolds ha (by omega) (by omega) (by omega)) gX1_reckon_X1_reckonHolds rfl (by decide +kernel) ⟨Nat.le_of_ble_eq_true rfl, Nat.le_of_ble_eq_true rfl⟩ ha rfl rfl rfl rfl (Nat.le_of_ble_eq_true rfl) dX1_reckon_110 rfl W (fun r5 M6 h7 => ?_)
        obtain ⟨z9, rfl, lz9, uz9, WM6, FM6⟩ := h7
        have EM6 := Fr.tr E (FM6.mono (c2 := [8, 10, 11]) rfl)
        refine A_st (st' := [.int (iI z9), .int (iI ((v1 * 5) + v2)), .ref b2]) rfl ?_
        refine G_iast C WM6 EM6 qb2 rfl rfl (by decide) (fun _ => rfl) rfl (by omega) (by omega) (by omega) (by omega) dX1_reckon_113 (fun M10 eM10 WM10 EM10 => ?_)
        refine A_iinc (lv' := [(2, .int (iI (v2 + 1))), (0, .ref a), (1, .int (iI v1))]) C dX1_reckon_114 2 rfl (by decide) rfl ?_
        refine A_goto C 79 dX1_reckon_117 (by decide) ?_
        refine A_pick [1, 2, 0] rfl ?_
        exact ih v1 (v2 + 1) M10 (by omega) (by omega) WM10 EM10
      · skip
        refine A_iconst C dX1_reckon_103 ?_
        refine A_goto C 113 dX1_reckon_104 (by decide) ?_
        refine G_iast C W E qb2 rfl rfl (by decide) (fun _ => rfl) rfl (by omega) (by omega) (by omega) (by omega) dX1_reckon_113 (fun M11 eM11 WM11 EM11 => ?_)
        refine A_iinc (lv' := [(2, .int (iI (v2 + 1))), (0, .ref a), (1, .int (iI v1))]) C dX1_reckon_114 2 rfl (by decide) rfl ?_
        refine A_goto C 79 dX1_reckon_117 (by decide) ?_
        refine A_pick [1, 2, 0] rfl ?_
        exact ih v1 (v2 + 1) M11 (by omega) (by omega) WM11 EM11
set_option maxHeartbeats 4000000 in
theorem lpX1_reckon_69 {p : Program} {l : Launch} {e : Env} {s : State} {m : MethodId} {args : Array Value} {below : List Frame} {meth : Method} {c : Code} {G : xG} (C : Cx p s m args meth c G cX1_reckon 3 RX1 wsX1_reckon none)  {a : Nat} (ha : kd a = 8) {M0 : Mem} : ∀ (n : Nat) (v1 : Int) (M : Mem), (25 - v1).toNat < n → (0 ≤ v1 ∧ v1 ≤ 24) → WF M → Fr [8, 10, 11] M0 M → AW p l e (rmD 3) s m args below meth c G 3 (QQ G below args s ((fun M r M' => r = none ∧ WF M' ∧ Fr [8, 10, 11] M M') M0)) M 69 [(0, .ref a), (1, .int (iI v1))] [] := by
  intro n
  induction n with
  | zero => intro v1 M hn; exact absurd hn (Nat.not_lt_zero _)
  | succ n ih =>
    intro v1 M hn hi W E
    refine A_iloadn C dX1_reckon_69 1 rfl rfl ?_
    refine A_aloadn C dX1_reckon_70 0 rfl rfl ?_
    refine G_getI C W ha rfl rfl rfl rfl rfl fX1_reckon_9 rfl dX1_reckon_71 (fun z12 ez12 lz12 uz12 => ?_)
    refine A_icmpge C 126 dX1_reckon_74 (by decide) (by omega) (by omega) (fun c13 => ?_) (fun c13 => ?_)
    · skip
      refine A_aloadn C dX1_reckon_126 0 rfl rfl ?_
      refine A_iconst C dX1_reckon_127 ?_
      refine G_putI C W E ha rfl rfl rfl rfl rfl fX1_reckon_31 ⟨tyX1_ok, nmX1, rfl, by decide⟩ (Or.inr ⟨rfl, by omega⟩) rfl rfl (by omega) (by omega) dX1_reckon_128 (fun M14 eM14 WM14 EM14 => ?_)
      exact A_vret C dX1_reckon_131 ⟨rfl, WM14, EM14⟩
    · skip
      refine A_iconst C dX1_reckon_77 ?_
      refine A_istoren (lv' := [(2, .int (iI 0)), (0, .ref a), (1, .int (iI v1))]) C dX1_reckon_78 rfl (by decide) rfl ?_
      refine A_pick [1, 2, 0] rfl ?_
      exact lpX1_reckon_79 C  ha ih ((6 - (0 : Int)).toNat + 1) v1 0 M (by omega) (by omega) W E
set_option maxHeartbeats 4000000 in
theorem lpX1_reckon_28 {p : Program} {l : Launch} {e : Env} {s : State} {m : MethodId} {args : Array Value} {below : List Frame} {meth : Method} {c : Code} {G : xG} (C : Cx p s m args meth c G cX1_reckon 3 RX1 wsX1_reckon none)  {a : Nat} (ha : kd a = 8) {M0 : Mem} : ∀ (n : Nat) (v1 : Int) (M : Mem), (v1 + 1).toNat < n → (-1 ≤ v1 ∧ v1 ≤ 23) → WF M → Fr [8, 10, 11] M0 M → AW p l e (rmD 3) s m args below meth c G 3 (QQ G below args s ((fun M r M' => r = none ∧ WF M' ∧ Fr [8, 10, 11] M M') M0)) M 28 [(0, .ref a), (1, .int (iI v1))] [] := by
  intro n
  induction n with
  | zero => intro v1 M hn; exact absurd hn (Nat.not_lt_zero _)
  | succ n ih =>
    intro v1 M hn hi W E
    refine A_iloadn C dX1_reckon_28 1 rfl rfl ?_
    refine A_iflt C 67 dX1_reckon_29 (by decide) (by omega) (fun c15 => ?_) (fun c15 => ?_)
    · skip
      refine A_iconst C dX1_reckon_67 ?_
      refine A_istoren (lv' := [(1, .int (iI 0)), (0, .ref a)]) C dX1_reckon_68 rfl (by decide) rfl ?_
      refine A_pick [1, 0] rfl ?_
      exact lpX1_reckon_69 C  ha ((25 - (0 : Int)).toNat + 1) 0 M (by omega) (by omega) W E
    · skip
      refine A_aloadn C dX1_reckon_32 0 rfl rfl ?_
      refine G_getR C W ha rfl rfl rfl rfl fX1_reckon_24 dX1_reckon_33 (fun b16 hb16 qb16 => ?_)
      refine A_iloadn C dX1_reckon_36 1 rfl rfl ?_
      refine A_aloadn C dX1_reckon_37 0 rfl rfl ?_
      refine G_getR C W ha rfl rfl rfl rfl fX1_reckon_24 dX1_reckon_38 (fun b17 hb17 qb17 => ?_)
      refine A_iloadn C dX1_reckon_41 1 rfl rfl ?_
      refine A_iconst C dX1_reckon_42 ?_
      refine A_iadd C dX1_reckon_43 ?_
      refine G_iald C W qb17 rfl rfl (by decide) (fun _ => rfl) (by omega) (by omega) dX1_reckon_44 (fun z18 ez18 lz18 uz18 => ?_)
      refine A_aloadn C dX1_reckon_45 0 rfl rfl ?_
      refine G_getR C W ha rfl rfl rfl rfl fX1_reckon_35 dX1_reckon_46 (fun b19 hb19 qb19 => ?_)
      refine G_getR C W qb19 rfl rfl rfl rfl fX1_reckon_54 dX1_reckon_49 (fun b20 hb20 qb20 => ?_)
      refine A_aloadn C dX1_reckon_52 0 rfl rfl ?_
      refine G_getR C W ha rfl rfl rfl rfl fX1_reckon_39 dX1_reckon_53 (fun b21 hb21 qb21 => ?_)
      refine A_iloadn C dX1_reckon_56 1 rfl rfl ?_
      refine G_iald C W qb21 rfl rfl (by decide) (fun _ => rfl) (by omega) (by omega) dX1_reckon_57 (fun z22 ez22 lz22 uz22 => ?_)
      refine G_iald C W qb20 rfl rfl (by decide) (fun _ => rfl) (by omega) (by omega) dX1_reckon_58 (fun z23 ez23 lz23 uz23 => ?_)
      refine A_iadd C dX1_reckon_59 ?_
      refine A_topi (fun z24 rz24 ez24 => ?_)
      refine G_iast C W E qb16 rfl rfl (by decide) (fun _ => rfl) rfl (by omega) (by omega) (by omega) (by omega) dX1_reckon_60 (fun M25 eM25 WM25 EM25 => ?_)
      refine A_iinc (lv' := [(1, .int (iI (v1 + (-1)))), (0, .ref a)]) C dX1_reckon_61 1 rfl (by decide) rfl ?_
      refine A_goto C 28 dX1_reckon_64 (by decide) ?_
      refine A_pick [1, 0] rfl ?_
      exact ih (v1 + (-1)) M25 (by omega) (by omega) WM25 EM25
set_option maxHeartbeats 4000000 in
theorem kX1_reckon  {a : Nat} (ha : kd a = 8) : Ct yX1_reckon wsX1_reckon 3 [.ref a] (fun M => WF M) (fun M r M' => r = none ∧ WF M' ∧ Fr [8, 10, 11] M M') := by
  refine Ct_of (cc := cX1_reckon) (nL := 3) (rt := none) (own := RX1) rfl (by decide) rfl (Nat.le_of_ble_eq_true rfl) ?_
  intro p l e s m args below meth c G M0 C W
  have E : Fr [8, 10, 11] M0 M0 := Fr.rf
  refine A_lv (lv' := [(0, .ref a)]) rfl ?_
  refine A_aloadn C dX1_reckon_0 0 rfl rfl ?_
  refine G_getI C W ha rfl rfl rfl rfl rfl fX1_reckon_31 rfl dX1_reckon_1 (fun z26 ez26 lz26 uz26 => ?_)
  refine A_ifeq C 8 dX1_reckon_4 (by decide) (by omega) (fun c27 => ?_) (fun c27 => ?_)
  · skip
    refine A_aloadn C dX1_reckon_8 0 rfl rfl ?_
    refine G_getR C W ha rfl rfl rfl rfl fX1_reckon_24 dX1_reckon_9 (fun b28 hb28 qb28 => ?_)
    refine A_aloadn C dX1_reckon_12 0 rfl rfl ?_
    refine G_getI C W ha rfl rfl rfl rfl rfl fX1_reckon_9 rfl dX1_reckon_13 (fun z29 ez29 lz29 uz29 => ?_)
    refine A_aloadn C dX1_reckon_16 0 rfl rfl ?_
    refine G_getI C W ha rfl rfl rfl rfl rfl fX1_reckon_18 rfl dX1_reckon_17 (fun z30 ez30 lz30 uz30 => ?_)
    refine G_iast C W E qb28 rfl rfl (by decide) (fun _ => rfl) rfl (by omega) (by omega) (by omega) (by omega) dX1_reckon_20 (fun M31 eM31 WM31 EM31 => ?_)
    refine A_aloadn C dX1_reckon_21 0 rfl rfl ?_
    refine G_getI C WM31 ha rfl rfl rfl rfl rfl fX1_reckon_9 rfl dX1_reckon_22 (fun z32 ez32 lz32 uz32 => ?_)
    refine A_iconst C dX1_reckon_25 ?_
    refine A_isub C dX1_reckon_26 ?_
    refine A_nami (fun z33 ez33 => ?_)
    refine A_istoren (lv' := [(1, .int (iI z33)), (0, .ref a)]) C dX1_reckon_27 rfl (by decide) rfl ?_
    refine A_pick [1, 0] rfl ?_
    exact lpX1_reckon_28 C  ha ((z33 + 1).toNat + 1) z33 M31 (by omega) (by omega) WM31 EM31
  · skip
    exact A_vret C dX1_reckon_7 ⟨rfl, W, E⟩

theorem uX5_startAt_20_5 : ∀ w ∈ u_ws RX5 TX5 3, w ∈ wsX5_startAt := by decide +kernel
theorem fX5_startAt_20_15 : Fl RX5 wsX5_startAt 5 1 15 RX5 TX5 3 := ⟨rfl, by decide, uX5_startAt_20_5, by decide +kernel⟩
theorem fX5_startAt_20_9 : Fl RX5 wsX5_startAt 5 0 9 RX5 TX5 3 := ⟨rfl, by decide, uX5_startAt_20_5, by decide +kernel⟩
theorem fX5_startAt_20_19 : Fl RX5 wsX5_startAt 5 2 19 RX5 TX5 3 := ⟨rfl, by decide, uX5_startAt_20_5, by decide +kernel⟩
set_option maxHeartbeats 4000000 in
theorem kX5_startAt_20  {a : Nat} (ha : kd a = 20) {x1 : Int} {x2 : Int} (hx1 : (0 : Int) ≤ x1 ∧ x1 ≤ 11) (hx2 : (0 : Int) ≤ x2 ∧ x2 ≤ 24) : Ct yX5_startAt wsX5_startAt 1 [.ref a, .int (iI x1), .int (iI x2)] (fun M => WF M) (fun M r M' => r = none ∧ WF M' ∧ Fr [20, 22] M M' ∧ (M'.1 a 1 = x1 ∧ M'.1 a 2 = 1)) := by
  refine Ct_of (cc := cX5_startAt) (nL := 3) (rt := none) (own := RX5) rfl (by decide) rfl (Nat.le_of_ble_eq_true rfl) ?_
  intro p l e s m args below meth c G M0 C W
  have E : Fr [20, 22] M0 M0 := Fr.rf
  refine A_lv (lv' := [(0, .ref a), (1, .int (iI x1)), (2, .int (iI x2))]) rfl ?_
  refine A_aloadn C dX5_startAt_0 0 rfl rfl ?_
  refine A_iloadn C dX5_startAt_1 1 rfl rfl ?_
  refine G_putI C W E ha rfl rfl rfl rfl rfl fX5_startAt_20_15 ⟨tyX5_ok, nmX5, rfl, by decide⟩ (Or.inl rfl) rfl rfl (by omega) (by omega) dX5_startAt_2 (fun M1 eM1 WM1 EM1 => ?_)
  have tM1a1 : M1.1 a 1 = x1 := by rw [eM1]; exact sI_at
  have tM1a2 : M1.1 a 2 = M0.1 a 2 := by rw [eM1]; exact sI_pl rfl
  refine A_aloadn C dX5_startAt_5 0 rfl rfl ?_
  refine G_getR C WM1 ha rfl rfl rfl rfl fX5_startAt_20_9 dX5_startAt_6 (fun b2 hb2 qb2 => ?_)
  refine A_iconst C dX5_startAt_9 ?_
  refine A_iloadn C dX5_startAt_10 2 rfl rfl ?_
  refine G_iast C WM1 EM1 qb2 rfl rfl (by decide) (fun _ => rfl) rfl (by omega) (by omega) (by omega) (by omega) dX5_startAt_11 (fun M3 eM3 WM3 EM3 => ?_)
  have tM3a1 : M3.1 a 1 = M1.1 a 1 := by rw [eM3]; exact sI_kd ha qb2 rfl
  have tM3a2 : M3.1 a 2 = M1.1 a 2 := by rw [eM3]; exact sI_kd ha qb2 rfl
  refine A_aloadn C dX5_startAt_12 0 rfl rfl ?_
  refine A_iconst C dX5_startAt_13 ?_
  refine G_putI C WM3 EM3 ha rfl rfl rfl rfl rfl fX5_startAt_20_19 ⟨tyX5_ok, nmX5, rfl, by decide⟩ (Or.inl rfl) rfl rfl (by omega) (by omega) dX5_startAt_14 (fun M4 eM4 WM4 EM4 => ?_)
  have tM4a1 : M4.1 a 1 = M3.1 a 1 := by rw [eM4]; exact sI_pl rfl
  have tM4a2 : M4.1 a 2 = 1 := by rw [eM4]; exact sI_at
  exact A_vret C dX5_startAt_17 ⟨rfl, WM4, EM4, by omega⟩

theorem uX5_startAt_21_5 : ∀ w ∈ u_ws RX5 TX5 3, w ∈ wsX5_startAt := by decide +kernel
theorem fX5_startAt_21_15 : Fl RX5 wsX5_startAt 5 1 15 RX5 TX5 3 := ⟨rfl, by decide, uX5_startAt_21_5, by decide +kernel⟩
theorem fX5_startAt_21_9 : Fl RX5 wsX5_startAt 5 0 9 RX5 TX5 3 := ⟨rfl, by decide, uX5_startAt_21_5, by decide +kernel⟩
theorem fX5_startAt_21_19 : Fl RX5 wsX5_startAt 5 2 19 RX5 TX5 3 := ⟨rfl, by decide, uX5_startAt_21_5, by decide +kernel⟩
set_option maxHeartbeats 4000000 in
theorem kX5_startAt_21  {a : Nat} (ha : kd a = 21) {x1 : Int} {x2 : Int} (hx1 : (0 : Int) ≤ x1 ∧ x1 ≤ 11) (hx2 : (0 : Int) ≤ x2 ∧ x2 ≤ 24) : Ct yX5_startAt wsX5_startAt 1 [.ref a, .int (iI x1), .int (iI x2)] (fun M => WF M) (fun M r M' => r = none ∧ WF M' ∧ Fr [21, 22] M M' ∧ (M'.1 a 1 = x1 ∧ M'.1 a 2 = 1)) := by
  refine Ct_of (cc := cX5_startAt) (nL := 3) (rt := none) (own := RX5) rfl (by decide) rfl (Nat.le_of_ble_eq_true rfl) ?_
  intro p l e s m args below meth c G M0 C W
  have E : Fr [21, 22] M0 M0 := Fr.rf
  refine A_lv (lv' := [(0, .ref a), (1, .int (iI x1)), (2, .int (iI x2))]) rfl ?_
  refine A_aloadn C dX5_startAt_0 0 rfl rfl ?_
  refine A_iloadn C dX5_startAt_1 1 rfl rfl ?_
  refine G_putI C W E ha rfl rfl rfl rfl rfl fX5_startAt_21_15 ⟨tyX5_ok, nmX5, rfl, by decide⟩ (Or.inl rfl) rfl rfl (by omega) (by omega) dX5_startAt_2 (fun M1 eM1 WM1 EM1 => ?_)
  have tM1a1 : M1.1 a 1 = x1 := by rw [eM1]; exact sI_at
  have tM1a2 : M1.1 a 2 = M0.1 a 2 := by rw [eM1]; exact sI_pl rfl
  refine A_aloadn C dX5_startAt_5 0 rfl rfl ?_
  refine G_getR C WM1 ha rfl rfl rfl rfl fX5_startAt_21_9 dX5_startAt_6 (fun b2 hb2 qb2 => ?_)
  refine A_iconst C dX5_startAt_9 ?_
  refine A_iloadn C dX5_startAt_10 2 rfl rfl ?_
  refine G_iast C WM1 EM1 qb2 rfl rfl (by decide) (fun _ => rfl) rfl (by omega) (by omega) (by omega) (by omega) dX5_startAt_11 (fun M3 eM3 WM3 EM3 => ?_)
  have tM3a1 : M3.1 a 1 = M1.1 a 1 := by rw [eM3]; exact sI_kd ha qb2 rfl
  have tM3a2 : M3.1 a 2 = M1.1 a 2 := by rw [eM3]; exact sI_kd ha qb2 rfl
  refine A_aloadn C dX5_startAt_12 0 rfl rfl ?_
  refine A_iconst C dX5_startAt_13 ?_
  refine G_putI C WM3 EM3 ha rfl rfl rfl rfl rfl fX5_startAt_21_19 ⟨tyX5_ok, nmX5, rfl, by decide⟩ (Or.inl rfl) rfl rfl (by omega) (by omega) dX5_startAt_14 (fun M4 eM4 WM4 EM4 => ?_)
  have tM4a1 : M4.1 a 1 = M3.1 a 1 := by rw [eM4]; exact sI_pl rfl
  have tM4a2 : M4.1 a 2 = 1 := by rw [eM4]; exact sI_at
  exact A_vret C dX5_startAt_17 ⟨rfl, WM4, EM4, by omega⟩

theorem uX5_add_20_5 : ∀ w ∈ u_ws RX5 TX5 3, w ∈ wsX5_add := by decide +kernel
theorem fX5_add_20_19 : Fl RX5 wsX5_add 5 2 19 RX5 TX5 3 := ⟨rfl, by decide, uX5_add_20_5, by decide +kernel⟩
theorem fX5_add_20_9 : Fl RX5 wsX5_add 5 0 9 RX5 TX5 3 := ⟨rfl, by decide, uX5_add_20_5, by decide +kernel⟩
set_option maxHeartbeats 4000000 in
theorem kX5_add_20  {a : Nat} (ha : kd a = 20) {x1 : Int} (hx1 : (0 : Int) ≤ x1 ∧ x1 ≤ 24) : Ct yX5_add wsX5_add 1 [.ref a, .int (iI x1)] (fun M => WF M) (fun M r M' => r = none ∧ WF M' ∧ Fr [20, 22] M M' ∧ (M'.1 a 1 = M.1 a 1 ∧ M'.1 a 2 ≤ M.1 a 2 + 1)) := by
  refine Ct_of (cc := cX5_add) (nL := 2) (rt := none) (own := RX5) rfl (by decide) rfl (Nat.le_of_ble_eq_true rfl) ?_
  intro p l e s m args below meth c G M0 C W
  have E : Fr [20, 22] M0 M0 := Fr.rf
  refine A_lv (lv' := [(0, .ref a), (1, .int (iI x1))]) rfl ?_
  refine A_aloadn C dX5_add_0 0 rfl rfl ?_
  refine G_getI C W ha rfl rfl rfl rfl rfl fX5_add_20_19 rfl dX5_add_1 (fun z1 ez1 lz1 uz1 => ?_)
  refine A_aloadn C dX5_add_4 0 rfl rfl ?_
  refine G_getR C W ha rfl rfl rfl rfl fX5_add_20_9 dX5_add_5 (fun b2 hb2 qb2 => ?_)
  refine A_alen C (z := 13) qb2 rfl rfl (by decide +kernel) dX5_add_8 ?_
  refine A_icmpge C 32 dX5_add_9 (by decide) (by omega) (by omega) (fun c3 => ?_) (fun c3 => ?_)
  · skip
    exact A_vret C dX5_add_32 ⟨rfl, W, E, by omega⟩
  · skip
    refine A_aloadn C dX5_add_12 0 rfl rfl ?_
    refine G_getR C W ha rfl rfl rfl rfl fX5_add_20_9 dX5_add_13 (fun b4 hb4 qb4 => ?_)
    refine A_aloadn C dX5_add_16 0 rfl rfl ?_
    refine G_getI C W ha rfl rfl rfl rfl rfl fX5_add_20_19 rfl dX5_add_17 (fun z5 ez5 lz5 uz5 => ?_)
    refine A_iloadn C dX5_add_20 1 rfl rfl ?_
    refine G_iast C W E qb4 rfl rfl (by decide) (fun _ => rfl) rfl (by omega) (by omega) (by omega) (by omega) dX5_add_21 (fun M6 eM6 WM6 EM6 => ?_)
    have tM6a1 : M6.1 a 1 = M0.1 a 1 := by rw [eM6]; exact sI_kd ha qb4 rfl
    have tM6a2 : M6.1 a 2 = M0.1 a 2 := by rw [eM6]; exact sI_kd ha qb4 rfl
    refine A_aloadn C dX5_add_22 0 rfl rfl ?_
    refine A_dup C dX5_add_23 rfl ?_
    refine G_getI C WM6 ha rfl rfl rfl rfl rfl fX5_add_20_19 rfl dX5_add_24 (fun z7 ez7 lz7 uz7 => ?_)
    refine A_iconst C dX5_add_27 ?_
    refine A_iadd C dX5_add_28 ?_
    refine G_putI C WM6 EM6 ha rfl rfl rfl rfl rfl fX5_add_20_19 ⟨tyX5_ok, nmX5, rfl, by decide⟩ (Or.inl rfl) rfl rfl (by omega) (by omega) dX5_add_29 (fun M8 eM8 WM8 EM8 => ?_)
    have tM8a1 : M8.1 a 1 = M6.1 a 1 := by rw [eM8]; exact sI_pl rfl
    have tM8a2 : M8.1 a 2 = z7 + 1 := by rw [eM8]; exact sI_at
    exact A_vret C dX5_add_32 ⟨rfl, WM8, EM8, by omega⟩

theorem uX5_add_21_5 : ∀ w ∈ u_ws RX5 TX5 3, w ∈ wsX5_add := by decide +kernel
theorem fX5_add_21_19 : Fl RX5 wsX5_add 5 2 19 RX5 TX5 3 := ⟨rfl, by decide, uX5_add_21_5, by decide +kernel⟩
theorem fX5_add_21_9 : Fl RX5 wsX5_add 5 0 9 RX5 TX5 3 := ⟨rfl, by decide, uX5_add_21_5, by decide +kernel⟩
set_option maxHeartbeats 4000000 in
theorem kX5_add_21  {a : Nat} (ha : kd a = 21) {x1 : Int} (hx1 : (0 : Int) ≤ x1 ∧ x1 ≤ 24) : Ct yX5_add wsX5_add 1 [.ref a, .int (iI x1)] (fun M => WF M) (fun M r M' => r = none ∧ WF M' ∧ Fr [21, 22] M M' ∧ (M'.1 a 1 = M.1 a 1 ∧ M'.1 a 2 ≤ M.1 a 2 + 1)) := by
  refine Ct_of (cc := cX5_add) (nL := 2) (rt := none) (own := RX5) rfl (by decide) rfl (Nat.le_of_ble_eq_true rfl) ?_
  intro p l e s m args below meth c G M0 C W
  have E : Fr [21, 22] M0 M0 := Fr.rf
  refine A_lv (lv' := [(0, .ref a), (1, .int (iI x1))]) rfl ?_
  refine A_aloadn C dX5_add_0 0 rfl rfl ?_
  refine G_getI C W ha rfl rfl rfl rfl rfl fX5_add_21_19 rfl dX5_add_1 (fun z1 ez1 lz1 uz1 => ?_)
  refine A_aloadn C dX5_add_4 0 rfl rfl ?_
  refine G_getR C W ha rfl rfl rfl rfl fX5_add_21_9 dX5_add_5 (fun b2 hb2 qb2 => ?_)
  refine A_alen C (z := 13) qb2 rfl rfl (by decide +kernel) dX5_add_8 ?_
  refine A_icmpge C 32 dX5_add_9 (by decide) (by omega) (by omega) (fun c3 => ?_) (fun c3 => ?_)
  · skip
    exact A_vret C dX5_add_32 ⟨rfl, W, E, by omega⟩
  · skip
    refine A_aloadn C dX5_add_12 0 rfl rfl ?_
    refine G_getR C W ha rfl rfl rfl rfl fX5_add_21_9 dX5_add_13 (fun b4 hb4 qb4 => ?_)
    refine A_aloadn C dX5_add_16 0 rfl rfl ?_
    refine G_getI C W ha rfl rfl rfl rfl rfl fX5_add_21_19 rfl dX5_add_17 (fun z5 ez5 lz5 uz5 => ?_)
    refine A_iloadn C dX5_add_20 1 rfl rfl ?_
    refine G_iast C W E qb4 rfl rfl (by decide) (fun _ => rfl) rfl (by omega) (by omega) (by omega) (by omega) dX5_add_21 (fun M6 eM6 WM6 EM6 => ?_)
    have tM6a1 : M6.1 a 1 = M0.1 a 1 := by rw [eM6]; exact sI_kd ha qb4 rfl
    have tM6a2 : M6.1 a 2 = M0.1 a 2 := by rw [eM6]; exact sI_kd ha qb4 rfl
    refine A_aloadn C dX5_add_22 0 rfl rfl ?_
    refine A_dup C dX5_add_23 rfl ?_
    refine G_getI C WM6 ha rfl rfl rfl rfl rfl fX5_add_21_19 rfl dX5_add_24 (fun z7 ez7 lz7 uz7 => ?_)
    refine A_iconst C dX5_add_27 ?_
    refine A_iadd C dX5_add_28 ?_
    refine G_putI C WM6 EM6 ha rfl rfl rfl rfl rfl fX5_add_21_19 ⟨tyX5_ok, nmX5, rfl, by decide⟩ (Or.inl rfl) rfl rfl (by omega) (by omega) dX5_add_29 (fun M8 eM8 WM8 EM8 => ?_)
    have tM8a1 : M8.1 a 1 = M6.1 a 1 := by rw [eM8]; exact sI_pl rfl
    have tM8a2 : M8.1 a 2 = z7 + 1 := by rw [eM8]; exact sI_at
    exact A_vret C dX5_add_32 ⟨rfl, WM8, EM8, by omega⟩

theorem uX5_end_20_5 : ∀ w ∈ u_ws RX5 TX5 3, w ∈ wsX5_end := by decide +kernel
theorem fX5_end_20_15 : Fl RX5 wsX5_end 5 1 15 RX5 TX5 3 := ⟨rfl, by decide, uX5_end_20_5, by decide +kernel⟩
theorem fX5_end_20_19 : Fl RX5 wsX5_end 5 2 19 RX5 TX5 3 := ⟨rfl, by decide, uX5_end_20_5, by decide +kernel⟩
set_option maxHeartbeats 4000000 in
theorem kX5_end_20  {a : Nat} (ha : kd a = 20) : Ct yX5_end wsX5_end 1 [.ref a] (fun M => WF M) (fun M r M' => ∃ z : Int, r = some (.int (iI z)) ∧ (-1 : Int) ≤ z ∧ z ≤ 23 ∧ WF M' ∧ Fr [] M M' ∧ z = M.1 a 1 + M.1 a 2 - 1) := by
  refine Ct_of (cc := cX5_end) (nL := 1) (rt := (some .int)) (own := RX5) rfl (by decide) rfl (Nat.le_of_ble_eq_true rfl) ?_
  intro p l e s m args below meth c G M0 C W
  have E : Fr [] M0 M0 := Fr.rf
  refine A_lv (lv' := [(0, .ref a)]) rfl ?_
  refine A_aloadn C dX5_end_0 0 rfl rfl ?_
  refine G_getI C W ha rfl rfl rfl rfl rfl fX5_end_20_15 rfl dX5_end_1 (fun z1 ez1 lz1 uz1 => ?_)
  refine A_aloadn C dX5_end_4 0 rfl rfl ?_
  refine G_getI C W ha rfl rfl rfl rfl rfl fX5_end_20_19 rfl dX5_end_5 (fun z2 ez2 lz2 uz2 => ?_)
  refine A_iadd C dX5_end_8 ?_
  refine A_iconst C dX5_end_9 ?_
  refine A_isub C dX5_end_10 ?_
  exact A_iret C dX5_end_11 ⟨(z1 + z2) - 1, rfl, by omega, by omega, W, E, by omega⟩

theorem uX5_end_21_5 : ∀ w ∈ u_ws RX5 TX5 3, w ∈ wsX5_end := by decide +kernel
theorem fX5_end_21_15 : Fl RX5 wsX5_end 5 1 15 RX5 TX5 3 := ⟨rfl, by decide, uX5_end_21_5, by decide +kernel⟩
theorem fX5_end_21_19 : Fl RX5 wsX5_end 5 2 19 RX5 TX5 3 := ⟨rfl, by decide, uX5_end_21_5, by decide +kernel⟩
set_option maxHeartbeats 4000000 in
theorem kX5_end_21  {a : Nat} (ha : kd a = 21) : Ct yX5_end wsX5_end 1 [.ref a] (fun M => WF M) (fun M r M' => ∃ z : Int, r = some (.int (iI z)) ∧ (-1 : Int) ≤ z ∧ z ≤ 23 ∧ WF M' ∧ Fr [] M M' ∧ z = M.1 a 1 + M.1 a 2 - 1) := by
  refine Ct_of (cc := cX5_end) (nL := 1) (rt := (some .int)) (own := RX5) rfl (by decide) rfl (Nat.le_of_ble_eq_true rfl) ?_
  intro p l e s m args below meth c G M0 C W
  have E : Fr [] M0 M0 := Fr.rf
  refine A_lv (lv' := [(0, .ref a)]) rfl ?_
  refine A_aloadn C dX5_end_0 0 rfl rfl ?_
  refine G_getI C W ha rfl rfl rfl rfl rfl fX5_end_21_15 rfl dX5_end_1 (fun z1 ez1 lz1 uz1 => ?_)
  refine A_aloadn C dX5_end_4 0 rfl rfl ?_
  refine G_getI C W ha rfl rfl rfl rfl rfl fX5_end_21_19 rfl dX5_end_5 (fun z2 ez2 lz2 uz2 => ?_)
  refine A_iadd C dX5_end_8 ?_
  refine A_iconst C dX5_end_9 ?_
  refine A_isub C dX5_end_10 ?_
  exact A_iret C dX5_end_11 ⟨(z1 + z2) - 1, rfl, by omega, by omega, W, E, by omega⟩

theorem uX2_add_2 : ∀ w ∈ u_ws RX2 TX2 5, w ∈ wsX2_add := by decide +kernel
theorem fX2_add_25 : Fl RX2 wsX2_add 2 4 25 RX2 TX2 5 := ⟨rfl, by decide, uX2_add_2, by decide +kernel⟩
theorem fX2_add_9 : Fl RX2 wsX2_add 2 0 9 RX2 TX2 5 := ⟨rfl, by decide, uX2_add_2, by decide +kernel⟩
theorem fX2_add_15 : Fl RX2 wsX2_add 2 1 15 RX2 TX2 5 := ⟨rfl, by decide, uX2_add_2, by decide +kernel⟩
theorem fX2_add_18 : Fl RX2 wsX2_add 2 2 18 RX2 TX2 5 := ⟨rfl, by decide, uX2_add_2, by decide +kernel⟩
theorem fX2_add_21 : Fl RX2 wsX2_add 2 3 21 RX2 TX2 5 := ⟨rfl, by decide, uX2_add_2, by decide +kernel⟩
set_option maxHeartbeats 4000000 in
theorem kX2_add  {a : Nat} (ha : kd a = 1) {x1 : Int} {x2 : Int} {x3 : Int} {x4 : Int} (hx1 : (-2147483648 : Int) ≤ x1 ∧ x1 ≤ 2147483647) (hx2 : (-2147483648 : Int) ≤ x2 ∧ x2 ≤ 2147483647) (hx3 : (-2147483648 : Int) ≤ x3 ∧ x3 ≤ 2147483647) (hx4 : (0 : Int) ≤ x4 ∧ x4 ≤ 1) : Ct yX2_add wsX2_add 1 [.ref a, .int (iI x1), .int (iI x2), .int (iI x3), .int (iI x4)] (fun M => WF M) (fun M r M' => ∃ z : Int, r = some (.int (iI z)) ∧ (-1 : Int) ≤ z ∧ z ≤ 5 ∧ WF M' ∧ Fr [1, 2, 3, 4, 5] M M') := by
  refine Ct_of (cc := cX2_add) (nL := 5) (rt := (some .int)) (own := RX2) rfl (by decide) rfl (Nat.le_of_ble_eq_true rfl) ?_
  intro p l e s m args below meth c G M0 C W
  have E : Fr [1, 2, 3, 4, 5] M0 M0 := Fr.rf
  refine A_lv (lv' := [(0, .ref a), (1, .int (iI x1)), (2, .int (iI x2)), (3, .int (iI x3)), (4, .int (iI x4))]) rfl ?_
  refine A_aloadn C dX2_add_0 0 rfl rfl ?_
  refine G_getI C W ha rfl rfl rfl rfl rfl fX2_add_25 rfl dX2_add_1 (fun z1 ez1 lz1 uz1 => ?_)
  refine A_bipush C dX2_add_4 (by decide) ?_
  refine A_icmplt C 11 dX2_add_6 (by decide) (by omega) (by omega) (fun c2 => ?_) (fun c2 => ?_)
  · skip
    refine A_aloadn C dX2_add_11 0 rfl rfl ?_
    refine G_getR C W ha rfl rfl rfl rfl fX2_add_9 dX2_add_12 (fun b3 hb3 qb3 => ?_)
    refine A_aloadn C dX2_add_15 0 rfl rfl ?_
    refine G_getI C W ha rfl rfl rfl rfl rfl fX2_add_25 rfl dX2_add_16 (fun z4 ez4 lz4 uz4 => ?_)
    refine A_iloadn C dX2_add_19 1 rfl rfl ?_
    refine G_iast C W E qb3 rfl rfl (by decide) (fun _ => rfl) rfl (by omega) (by omega) (by omega) (by omega) dX2_add_20 (fun M5 eM5 WM5 EM5 => ?_)
    have tM5a4 : M5.1 a 4 = M0.1 a 4 := by rw [eM5]; exact sI_kd ha qb3 rfl
    refine A_aloadn C dX2_add_21 0 rfl rfl ?_
    refine G_getR C WM5 ha rfl rfl rfl rfl fX2_add_15 dX2_add_22 (fun b6 hb6 qb6 => ?_)
    refine A_aloadn C dX2_add_25 0 rfl rfl ?_
    refine G_getI C WM5 ha rfl rfl rfl rfl rfl fX2_add_25 rfl dX2_add_26 (fun z7 ez7 lz7 uz7 => ?_)
    refine A_iloadn C dX2_add_29 2 rfl rfl ?_
    refine G_iast C WM5 EM5 qb6 rfl rfl (by decide) (fun _ => rfl) rfl (by omega) (by omega) (by omega) (by omega) dX2_add_30 (fun M8 eM8 WM8 EM8 => ?_)
    have tM8a4 : M8.1 a 4 = M5.1 a 4 := by rw [eM8]; exact sI_kd ha qb6 rfl
    refine A_aloadn C dX2_add_31 0 rfl rfl ?_
    refine G_getR C WM8 ha rfl rfl rfl rfl fX2_add_18 dX2_add_32 (fun b9 hb9 qb9 => ?_)
    refine A_aloadn C dX2_add_35 0 rfl rfl ?_
    refine G_getI C WM8 ha rfl rfl rfl rfl rfl fX2_add_25 rfl dX2_add_36 (fun z10 ez10 lz10 uz10 => ?_)
    refine A_iloadn C dX2_add_39 3 rfl rfl ?_
    refine G_iast C WM8 EM8 qb9 rfl rfl (by decide) (fun _ => rfl) rfl (by omega) (by omega) (by omega) (by omega) dX2_add_40 (fun M11 eM11 WM11 EM11 => ?_)
    have tM11a4 : M11.1 a 4 = M8.1 a 4 := by rw [eM11]; exact sI_kd ha qb9 rfl
    refine A_aloadn C dX2_add_41 0 rfl rfl ?_
    refine G_getR C WM11 ha rfl rfl rfl rfl fX2_add_21 dX2_add_42 (fun b12 hb12 qb12 => ?_)
    refine A_aloadn C dX2_add_45 0 rfl rfl ?_
    refine G_getI C WM11 ha rfl rfl rfl rfl rfl fX2_add_25 rfl dX2_add_46 (fun z13 ez13 lz13 uz13 => ?_)
    refine A_iload C dX2_add_49 4 rfl ?_
    refine G_zast C WM11 EM11 qb12 rfl rfl (by decide) (fun _ => rfl) rfl (by omega) (by omega) (by omega) dX2_add_51 (fun M14 eM14 WM14 EM14 => ?_)
    have tM14a4 : M14.1 a 4 = M11.1 a 4 := by rw [eM14]; exact sI_kd ha qb12 rfl
    refine A_aloadn C dX2_add_52 0 rfl rfl ?_
    refine A_dup C dX2_add_53 rfl ?_
    refine G_getI C WM14 ha rfl rfl rfl rfl rfl fX2_add_25 rfl dX2_add_54 (fun z15 ez15 lz15 uz15 => ?_)
    refine A_iconst C dX2_add_57 ?_
    refine A_iadd C dX2_add_58 ?_
    refine G_putI C WM14 EM14 ha rfl rfl rfl rfl rfl fX2_add_25 ⟨tyX2_ok, nmX2, rfl, by decide⟩ (Or.inl rfl) rfl rfl (by omega) (by omega) dX2_add_59 (fun M16 eM16 WM16 EM16 => ?_)
    have tM16a4 : M16.1 a 4 = z15 + 1 := by rw [eM16]; exact sI_at
    refine A_aloadn C dX2_add_62 0 rfl rfl ?_
    refine G_getI C WM16 ha rfl rfl rfl rfl rfl fX2_add_25 rfl dX2_add_63 (fun z17 ez17 lz17 uz17 => ?_)
    refine A_iconst C dX2_add_66 ?_
    refine A_isub C dX2_add_67 ?_
    exact A_iret C dX2_add_68 ⟨z17 - 1, rfl, by omega, by omega, WM16, EM16⟩
  · skip
    refine A_iconst C dX2_add_9 ?_
    exact A_iret C dX2_add_10 ⟨(-1), rfl, by omega, by omega, W, E⟩

theorem uX0_add_0 : ∀ w ∈ u_ws RX0 TX0 4, w ∈ wsX0_add := by decide +kernel
theorem fX0_add_9 : Fl RX0 wsX0_add 0 0 9 RX0 TX0 4 := ⟨rfl, by decide, uX0_add_0, by decide +kernel⟩
theorem fX0_add_15 : Fl RX0 wsX0_add 0 1 15 RX0 TX0 4 := ⟨rfl, by decide, uX0_add_0, by decide +kernel⟩
theorem fX0_add_19 : Fl RX0 wsX0_add 0 2 19 RX0 TX0 4 := ⟨rfl, by decide, uX0_add_0, by decide +kernel⟩
theorem fX0_add_22 : Fl RX0 wsX0_add 0 3 22 RX0 TX0 4 := ⟨rfl, by decide, uX0_add_0, by decide +kernel⟩
set_option maxHeartbeats 4000000 in
theorem kX0_add  {a : Nat} (ha : kd a = 13) {x1 : Int} {x2 : Int} {x3 : Int} (hx1 : (-2147483648 : Int) ≤ x1 ∧ x1 ≤ 2147483647) (hx2 : (0 : Int) ≤ x2 ∧ x2 ≤ 11) (hx3 : (0 : Int) ≤ x3 ∧ x3 ≤ 999) : Ct yX0_add wsX0_add 1 [.ref a, .int (iI x1), .int (iI x2), .int (iI x3)] (fun M => WF M) (fun M r M' => ∃ z : Int, r = some (.int (iI z)) ∧ (-1 : Int) ≤ z ∧ z ≤ 5 ∧ WF M' ∧ Fr [13, 14, 15, 16] M M') := by
  refine Ct_of (cc := cX0_add) (nL := 4) (rt := (some .int)) (own := RX0) rfl (by decide) rfl (Nat.le_of_ble_eq_true rfl) ?_
  intro p l e s m args below meth c G M0 C W
  have E : Fr [13, 14, 15, 16] M0 M0 := Fr.rf
  refine A_lv (lv' := [(0, .ref a), (1, .int (iI x1)), (2, .int (iI x2)), (3, .int (iI x3))]) rfl ?_
  refine A_aloadn C dX0_add_0 0 rfl rfl ?_
  refine G_getI C W ha rfl rfl rfl rfl rfl fX0_add_9 rfl dX0_add_1 (fun z1 ez1 lz1 uz1 => ?_)
  refine A_bipush C dX0_add_4 (by decide) ?_
  refine A_icmplt C 11 dX0_add_6 (by decide) (by omega) (by omega) (fun c2 => ?_) (fun c2 => ?_)
  · skip
    refine A_aloadn C dX0_add_11 0 rfl rfl ?_
    refine G_getR C W ha rfl rfl rfl rfl fX0_add_15 dX0_add_12 (fun b3 hb3 qb3 => ?_)
    refine A_aloadn C dX0_add_15 0 rfl rfl ?_
    refine G_getI C W ha rfl rfl rfl rfl rfl fX0_add_9 rfl dX0_add_16 (fun z4 ez4 lz4 uz4 => ?_)
    refine A_iloadn C dX0_add_19 1 rfl rfl ?_
    refine G_iast C W E qb3 rfl rfl (by decide) (fun _ => rfl) rfl (by omega) (by omega) (by omega) (by omega) dX0_add_20 (fun M5 eM5 WM5 EM5 => ?_)
    have tM5a0 : M5.1 a 0 = M0.1 a 0 := by rw [eM5]; exact sI_kd ha qb3 rfl
    refine A_aloadn C dX0_add_21 0 rfl rfl ?_
    refine G_getR C WM5 ha rfl rfl rfl rfl fX0_add_19 dX0_add_22 (fun b6 hb6 qb6 => ?_)
    refine A_aloadn C dX0_add_25 0 rfl rfl ?_
    refine G_getI C WM5 ha rfl rfl rfl rfl rfl fX0_add_9 rfl dX0_add_26 (fun z7 ez7 lz7 uz7 => ?_)
    refine A_iloadn C dX0_add_29 2 rfl rfl ?_
    refine G_iast C WM5 EM5 qb6 rfl rfl (by decide) (fun _ => rfl) rfl (by omega) (by omega) (by omega) (by omega) dX0_add_30 (fun M8 eM8 WM8 EM8 => ?_)
    have tM8a0 : M8.1 a 0 = M5.1 a 0 := by rw [eM8]; exact sI_kd ha qb6 rfl
    refine A_aloadn C dX0_add_31 0 rfl rfl ?_
    refine G_getR C WM8 ha rfl rfl rfl rfl fX0_add_22 dX0_add_32 (fun b9 hb9 qb9 => ?_)
    refine A_aloadn C dX0_add_35 0 rfl rfl ?_
    refine G_getI C WM8 ha rfl rfl rfl rfl rfl fX0_add_9 rfl dX0_add_36 (fun z10 ez10 lz10 uz10 => ?_)
    refine A_iloadn C dX0_add_39 3 rfl rfl ?_
    refine G_iast C WM8 EM8 qb9 rfl rfl (by decide) (fun _ => rfl) rfl (by omega) (by omega) (by omega) (by omega) dX0_add_40 (fun M11 eM11 WM11 EM11 => ?_)
    have tM11a0 : M11.1 a 0 = M8.1 a 0 := by rw [eM11]; exact sI_kd ha qb9 rfl
    refine A_aloadn C dX0_add_41 0 rfl rfl ?_
    refine A_dup C dX0_add_42 rfl ?_
    refine G_getI C WM11 ha rfl rfl rfl rfl rfl fX0_add_9 rfl dX0_add_43 (fun z12 ez12 lz12 uz12 => ?_)
    refine A_iconst C dX0_add_46 ?_
    refine A_iadd C dX0_add_47 ?_
    refine G_putI C WM11 EM11 ha rfl rfl rfl rfl rfl fX0_add_9 ⟨tyX0_ok, nmX0, rfl, by decide⟩ (Or.inl rfl) rfl rfl (by omega) (by omega) dX0_add_48 (fun M13 eM13 WM13 EM13 => ?_)
    have tM13a0 : M13.1 a 0 = z12 + 1 := by rw [eM13]; exact sI_at
    refine A_aloadn C dX0_add_51 0 rfl rfl ?_
    refine G_getI C WM13 ha rfl rfl rfl rfl rfl fX0_add_9 rfl dX0_add_52 (fun z14 ez14 lz14 uz14 => ?_)
    refine A_iconst C dX0_add_55 ?_
    refine A_isub C dX0_add_56 ?_
    exact A_iret C dX0_add_57 ⟨z14 - 1, rfl, by omega, by omega, WM13, EM13⟩
  · skip
    refine A_iconst C dX0_add_9 ?_
    exact A_iret C dX0_add_10 ⟨(-1), rfl, by omega, by omega, W, E⟩

set_option maxHeartbeats 4000000 in
theorem lpX3_greatestCommon_9 {p : Program} {l : Launch} {e : Env} {s : State} {m : MethodId} {args : Array Value} {below : List Frame} {meth : Method} {c : Code} {G : xG} (C : Cx p s m args meth c G cX3_greatestCommon 11 RX3 wsX3_greatestCommon (some .long))  {x0 : Int} {x1 : Int} (hx0 : r64 x0) (hx1 : r64 x1) {M0 : Mem} : ∀ (n : Nat) (v4 v6 v8 : Int) (M : Mem), (201 - v8).toNat < n → (r64 v4 ∧ r64 v6 ∧ 0 ≤ v8 ∧ v8 ≤ 200) → WF M → Fr [] M0 M → AW p l e (rmD 1) s m args below meth c G 11 (QQ G below args s ((fun M r M' => ∃ z : Int, r = some (.long (lL z)) ∧ r64 z ∧ WF M' ∧ Fr [] M M') M0)) M 9 [(4, .long (lL v4)), (6, .long (lL v6)), (8, .int (iI v8))] [] := by
  intro n
  induction n with
  | zero => intro v4 v6 v8 M hn; exact absurd hn (Nat.not_lt_zero _)
  | succ n ih =>
    intro v4 v6 v8 M hn hi W E
    refine A_iload C dX3_greatestCommon_9 2 rfl ?_
    refine A_sipush C dX3_greatestCommon_11 (by decide) ?_
    refine A_icmpge C 45 dX3_greatestCommon_14 (by decide) (by omega) (by omega) (fun c1 => ?_) (fun c1 => ?_)
    · skip
      refine A_lload C dX3_greatestCommon_45 0 rfl ?_
      exact A_lret C dX3_greatestCommon_47 ⟨v4, rfl, by omega, W, E⟩
    · skip
      refine A_lload C dX3_greatestCommon_17 1 rfl ?_
      refine A_lconst0 C dX3_greatestCommon_19 ?_
      refine A_lcmp C (by omega) (by omega) dX3_greatestCommon_20 (fun z2 cz2 => ?_)
      refine A_ifeq C 45 dX3_greatestCommon_21 (by decide) (by omega) (fun c3 => ?_) (fun c3 => ?_)
      · skip
        refine A_lload C dX3_greatestCommon_45 0 rfl ?_
        exact A_lret C dX3_greatestCommon_47 ⟨v4, rfl, by omega, W, E⟩
      · skip
        refine A_lload C dX3_greatestCommon_24 0 rfl ?_
        refine A_lload C dX3_greatestCommon_26 1 rfl ?_
        refine A_lremH C (by omega) (by omega) dX3_greatestCommon_28 (fun z4 rz4 => ?_)
        refine A_lstore (lv' := [(9, .long (lL z4)), (4, .long (lL v4)), (6, .long (lL v6)), (8, .int (iI v8))]) C dX3_greatestCommon_29 (by decide) rfl ?_
        refine A_lload C dX3_greatestCommon_31 2 rfl ?_
        refine A_lstore (lv' := [(4, .long (lL v6)), (9, .long (lL z4)), (6, .long (lL v6)), (8, .int (iI v8))]) C dX3_greatestCommon_33 (by decide) rfl ?_
        refine A_lload C dX3_greatestCommon_35 1 rfl ?_
        refine A_lstore (lv' := [(6, .long (lL z4)), (4, .long (lL v6)), (9, .long (lL z4)), (8, .int (iI v8))]) C dX3_greatestCommon_37 (by decide) rfl ?_
        refine A_iinc (lv' := [(8, .int (iI (v8 + 1))), (6, .long (lL z4)), (4, .long (lL v6)), (9, .long (lL z4))]) C dX3_greatestCommon_39 3 rfl (by decide) rfl ?_
        refine A_goto C 9 dX3_greatestCommon_42 (by decide) ?_
        refine A_pick [2, 1, 0] rfl ?_
        exact ih v6 z4 (v8 + 1) M (by omega) (by omega) W E
set_option maxHeartbeats 4000000 in
theorem kX3_greatestCommon  {x0 : Int} {x1 : Int} (hx0 : r64 x0) (hx1 : r64 x1) : Ct yX3_greatestCommon wsX3_greatestCommon 1 [.long (lL x0), .long (lL x1)] (fun M => WF M) (fun M r M' => ∃ z : Int, r = some (.long (lL z)) ∧ r64 z ∧ WF M' ∧ Fr [] M M') := by
  refine Ct_of (cc := cX3_greatestCommon) (nL := 11) (rt := (some .long)) (own := RX3) rfl (by decide) rfl (Nat.le_of_ble_eq_true rfl) ?_
  intro p l e s m args below meth c G M0 C W
  have E : Fr [] M0 M0 := Fr.rf
  refine A_lv (lv' := [(0, .long (lL x0)), (2, .long (lL x1))]) rfl ?_
  refine A_lloadn C dX3_greatestCommon_0 0 rfl rfl ?_
  refine A_lstore (lv' := [(4, .long (lL x0)), (0, .long (lL x0)), (2, .long (lL x1))]) C dX3_greatestCommon_1 (by decide) rfl ?_
  refine A_lloadn C dX3_greatestCommon_3 2 rfl rfl ?_
  refine A_lstore (lv' := [(6, .long (lL x1)), (4, .long (lL x0)), (0, .long (lL x0)), (2, .long (lL x1))]) C dX3_greatestCommon_4 (by decide) rfl ?_
  refine A_iconst C dX3_greatestCommon_6 ?_
  refine A_istore (lv' := [(8, .int (iI 0)), (6, .long (lL x1)), (4, .long (lL x0)), (0, .long (lL x0)), (2, .long (lL x1))]) C dX3_greatestCommon_7 (by decide) rfl ?_
  refine A_pick [2, 1, 0] rfl ?_
  exact lpX3_greatestCommon_9 C  hx0 hx1 ((201 - (0 : Int)).toNat + 1) x0 x1 0 M0 (by omega) (by omega) W E

theorem uX3_become_3 : ∀ w ∈ u_ws RX3 TX3 2, w ∈ wsX3_become := by decide +kernel
theorem fX3_become_7 : Fl RX3 wsX3_become 3 0 7 RX3 TX3 2 := ⟨rfl, by decide, uX3_become_3, by decide +kernel⟩
theorem fX3_become_13 : Fl RX3 wsX3_become 3 1 13 RX3 TX3 2 := ⟨rfl, by decide, uX3_become_3, by decide +kernel⟩
set_option maxHeartbeats 4000000 in
theorem kX3_become  {a : Nat} (ha : kd a = 23) {x1 : Int} {x2 : Int} (hx1 : r64 x1) (hx2 : r64 x2) : Ct yX3_become wsX3_become 2 [.ref a, .long (lL x1), .long (lL x2)] (fun M => WF M) (fun M r M' => r = none ∧ WF M' ∧ Fr [23] M M') := by
  refine Ct_of (cc := cX3_become) (nL := 7) (rt := none) (own := RX3) rfl (by decide) rfl (Nat.le_of_ble_eq_true rfl) ?_
  intro p l e s m args below meth c G M0 C W
  have E : Fr [23] M0 M0 := Fr.rf
  refine A_lv (lv' := [(0, .ref a), (1, .long (lL x1)), (3, .long (lL x2))]) rfl ?_
  refine A_lloadn C dX3_become_0 1 rfl rfl ?_
  refine A_lloadn C dX3_become_1 2 rfl rfl ?_
  refine A_callS C (n := 2) (st := []) (kX3_greatestCommon  (by omega) (by omega)) gX3_become_X3_greatestCommon rfl (by decide +kernel) ⟨Nat.le_of_ble_eq_true rfl, Nat.le_of_ble_eq_true rfl⟩ rfl (Nat.le_of_ble_eq_true rfl) dX3_become_2 rfl W (fun r1 M2 h3 => ?_)
  obtain ⟨z5, rfl, rz5, WM2, FM2⟩ := h3
  have EM2 := Fr.tr E (FM2.mono (c2 := [23]) rfl)
  refine A_st (st' := [.long (lL z5)]) rfl ?_
  refine A_lstore (lv' := [(5, .long (lL z5)), (0, .ref a), (1, .long (lL x1)), (3, .long (lL x2))]) C dX3_become_5 (by decide) rfl ?_
  refine A_aloadn C dX3_become_7 1 rfl rfl ?_
  refine A_lload C dX3_become_8 0 rfl ?_
  refine A_lconst1 C dX3_become_10 ?_
  refine A_lcmp C (by omega) (by omega) dX3_become_11 (fun z6 cz6 => ?_)
  refine A_ifle C 22 dX3_become_12 (by decide) (by omega) (fun c7 => ?_) (fun c7 => ?_)
  · skip
    refine A_lloadn C dX3_become_22 2 rfl rfl ?_
    refine G_putL C WM2 EM2 ha rfl rfl rfl fX3_become_7 ⟨tyX3_ok, nmX3, rfl, by decide⟩ rfl rfl (by omega) dX3_become_23 (fun M8 eM8 WM8 EM8 => ?_)
    refine A_aloadn C dX3_become_26 1 rfl rfl ?_
    refine A_lload C dX3_become_27 0 rfl ?_
    refine A_lconst1 C dX3_become_29 ?_
    refine A_lcmp C (by omega) (by omega) dX3_become_30 (fun z9 cz9 => ?_)
    refine A_ifle C 41 dX3_become_31 (by decide) (by omega) (fun c10 => ?_) (fun c10 => ?_)
    · skip
      refine A_lloadn C dX3_become_41 3 rfl rfl ?_
      refine G_putL C WM8 EM8 ha rfl rfl rfl fX3_become_13 ⟨tyX3_ok, nmX3, rfl, by decide⟩ rfl rfl (by omega) dX3_become_42 (fun M11 eM11 WM11 EM11 => ?_)
      exact A_vret C dX3_become_45 ⟨rfl, WM11, EM11⟩
    · skip
      refine A_lloadn C dX3_become_34 3 rfl rfl ?_
      refine A_lload C dX3_become_35 0 rfl ?_
      refine A_ldivH C (by omega) (by omega) dX3_become_37 (fun z12 rz12 => ?_)
      refine A_goto C 42 dX3_become_38 (by decide) ?_
      refine G_putL C WM8 EM8 ha rfl rfl rfl fX3_become_13 ⟨tyX3_ok, nmX3, rfl, by decide⟩ rfl rfl (by omega) dX3_become_42 (fun M13 eM13 WM13 EM13 => ?_)
      exact A_vret C dX3_become_45 ⟨rfl, WM13, EM13⟩
  · skip
    refine A_lloadn C dX3_become_15 2 rfl rfl ?_
    refine A_lload C dX3_become_16 0 rfl ?_
    refine A_ldivH C (by omega) (by omega) dX3_become_18 (fun z14 rz14 => ?_)
    refine A_goto C 23 dX3_become_19 (by decide) ?_
    refine G_putL C WM2 EM2 ha rfl rfl rfl fX3_become_7 ⟨tyX3_ok, nmX3, rfl, by decide⟩ rfl rfl (by omega) dX3_become_23 (fun M15 eM15 WM15 EM15 => ?_)
    refine A_aloadn C dX3_become_26 1 rfl rfl ?_
    refine A_lload C dX3_become_27 0 rfl ?_
    refine A_lconst1 C dX3_become_29 ?_
    refine A_lcmp C (by omega) (by omega) dX3_become_30 (fun z16 cz16 => ?_)
    refine A_ifle C 41 dX3_become_31 (by decide) (by omega) (fun c17 => ?_) (fun c17 => ?_)
    · skip
      refine A_lloadn C dX3_become_41 3 rfl rfl ?_
      refine G_putL C WM15 EM15 ha rfl rfl rfl fX3_become_13 ⟨tyX3_ok, nmX3, rfl, by decide⟩ rfl rfl (by omega) dX3_become_42 (fun M18 eM18 WM18 EM18 => ?_)
      exact A_vret C dX3_become_45 ⟨rfl, WM18, EM18⟩
    · skip
      refine A_lloadn C dX3_become_34 3 rfl rfl ?_
      refine A_lload C dX3_become_35 0 rfl ?_
      refine A_ldivH C (by omega) (by omega) dX3_become_37 (fun z19 rz19 => ?_)
      refine A_goto C 42 dX3_become_38 (by decide) ?_
      refine G_putL C WM15 EM15 ha rfl rfl rfl fX3_become_13 ⟨tyX3_ok, nmX3, rfl, by decide⟩ rfl rfl (by omega) dX3_become_42 (fun M20 eM20 WM20 EM20 => ?_)
      exact A_vret C dX3_become_45 ⟨rfl, WM20, EM20⟩
end
section
theorem uX4_clearTo_4 : ∀ w ∈ u_ws RX4 TX4 2, w ∈ wsX4_clearTo := by decide +kernel
theorem fX4_clearTo_11 : Fl RX4 wsX4_clearTo 4 0 11 RX4 TX4 2 := ⟨rfl, by decide, uX4_clearTo_4, by decide +kernel⟩
theorem fX4_clearTo_17 : Fl RX4 wsX4_clearTo 4 1 17 RX4 TX4 2 := ⟨rfl, by decide, uX4_clearTo_4, by decide +kernel⟩
set_option maxHeartbeats 4000000 in
theorem lpX4_clearTo_7 {p : Program} {l : Launch} {e : Env} {s : State} {m : MethodId} {args : Array Value} {below : List Frame} {meth : Method} {c : Code} {G : xG} (C : Cx p s m args meth c G cX4_clearTo 3 RX4 wsX4_clearTo none)  {a : Nat} (ha : kd a = 6) {x1 : Int} (hx1 : (0 : Int) ≤ x1 ∧ x1 ≤ 12) {M0 : Mem} : ∀ (n : Nat) (v2 : Int) (M : Mem), (13 - v2).toNat < n → (0 ≤ v2 ∧ v2 ≤ 12) → WF M → Fr [6, 8] M0 M → AW p l e (rmD 2) s m args below meth c G 3 (QQ G below args s ((fun M r M' => r = none ∧ WF M' ∧ Fr [6, 8] M M') M0)) M 7 [(0, .ref a), (2, .int (iI v2))] [] := by
  intro n
  induction n with
  | zero => intro v2 M hn; exact absurd hn (Nat.not_lt_zero _)
  | succ n ih =>
    intro v2 M hn hi W E
    refine A_iloadn C dX4_clearTo_7 1 rfl rfl ?_
    refine A_bipush C dX4_clearTo_8 (by decide) ?_
    refine A_icmpge C 28 dX4_clearTo_10 (by decide) (by omega) (by omega) (fun c1 => ?_) (fun c1 => ?_)
    · skip
      exact A_vret C dX4_clearTo_28 ⟨rfl, W, E⟩
    · skip
      refine A_aloadn C dX4_clearTo_13 0 rfl rfl ?_
      refine G_getR C W ha rfl rfl rfl rfl fX4_clearTo_11 dX4_clearTo_14 (fun b2 hb2 qb2 => ?_)
      refine A_iloadn C dX4_clearTo_17 1 rfl rfl ?_
      refine G_aald C W qb2 (by omega) (by omega) dX4_clearTo_18 (fun b3 hb3 qb3 => ?_)
      refine A_callV C (n := 0) (st := []) (kX1_clear qb3) gX4_clearTo_X1_clear rfl (by decide +kernel) ⟨Nat.le_of_ble_eq_true rfl, Nat.le_of_ble_eq_true rfl⟩ qb3 rfl rfl rfl rfl (Nat.le_of_ble_eq_true rfl) dX4_clearTo_19 rfl W (fun r4 M5 h6 => ?_)
      obtain ⟨rfl, WM5, FM5⟩ := h6
      have EM5 := Fr.tr E (FM5.mono (c2 := [6, 8]) rfl)
      refine A_st (st' := []) rfl ?_
      refine A_iinc (lv' := [(2, .int (iI (v2 + 1))), (0, .ref a)]) C dX4_clearTo_22 1 rfl (by decide) rfl ?_
      refine A_goto C 7 dX4_clearTo_25 (by decide) ?_
      refine A_pick [1, 0] rfl ?_
      exact ih (v2 + 1) M5 (by omega) (by omega) WM5 EM5
set_option maxHeartbeats 4000000 in
theorem kX4_clearTo  {a : Nat} (ha : kd a = 6) {x1 : Int} (hx1 : (0 : Int) ≤ x1 ∧ x1 ≤ 12) : Ct yX4_clearTo wsX4_clearTo 2 [.ref a, .int (iI x1)] (fun M => WF M) (fun M r M' => r = none ∧ WF M' ∧ Fr [6, 8] M M') := by
  refine Ct_of (cc := cX4_clearTo) (nL := 3) (rt := none) (own := RX4) rfl (by decide) rfl (Nat.le_of_ble_eq_true rfl) ?_
  intro p l e s m args below meth c G M0 C W
  have E : Fr [6, 8] M0 M0 := Fr.rf
  refine A_lv (lv' := [(0, .ref a), (1, .int (iI x1))]) rfl ?_
  refine A_aloadn C dX4_clearTo_0 0 rfl rfl ?_
  refine A_iloadn C dX4_clearTo_1 1 rfl rfl ?_
  refine G_putI C W E ha rfl rfl rfl rfl rfl fX4_clearTo_17 ⟨tyX4_ok, nmX4, rfl, by decide⟩ (Or.inl rfl) rfl rfl (by omega) (by omega) dX4_clearTo_2 (fun M8 eM8 WM8 EM8 => ?_)
  refine A_iconst C dX4_clearTo_5 ?_
  refine A_istoren (lv' := [(2, .int (iI 0)), (0, .ref a), (1, .int (iI x1))]) C dX4_clearTo_6 rfl (by decide) rfl ?_
  refine A_pick [1, 0] rfl ?_
  exact lpX4_clearTo_7 C  ha hx1 ((13 - (0 : Int)).toNat + 1) 0 M8 (by omega) (by omega) WM8 EM8

theorem uX4_copy_4 : ∀ w ∈ u_ws RX4 TX4 2, w ∈ wsX4_copy := by decide +kernel
theorem fX4_copy_17 : Fl RX4 wsX4_copy 4 1 17 RX4 TX4 2 := ⟨rfl, by decide, uX4_copy_4, by decide +kernel⟩
theorem fX4_copy_11 : Fl RX4 wsX4_copy 4 0 11 RX4 TX4 2 := ⟨rfl, by decide, uX4_copy_4, by decide +kernel⟩
set_option maxHeartbeats 4000000 in
theorem lpX4_copy_10 {p : Program} {l : Launch} {e : Env} {s : State} {m : MethodId} {args : Array Value} {below : List Frame} {meth : Method} {c : Code} {G : xG} (C : Cx p s m args meth c G cX4_copy 3 RX4 wsX4_copy none)  {a : Nat} (ha : kd a = 12) {b : Nat} (hb : kd b = 6) {M0 : Mem} : ∀ (n : Nat) (v2 : Int) (M : Mem), (13 - v2).toNat < n → (0 ≤ v2 ∧ v2 ≤ 12) → WF M → Fr [12, 8, 10, 11] M0 M → AW p l e (rmD 3) s m args below meth c G 3 (QQ G below args s ((fun M r M' => r = none ∧ WF M' ∧ Fr [12, 8, 10, 11] M M') M0)) M 10 [(0, .ref a), (1, .ref b), (2, .int (iI v2))] [] := by
  intro n
  induction n with
  | zero => intro v2 M hn; exact absurd hn (Nat.not_lt_zero _)
  | succ n ih =>
    intro v2 M hn hi W E
    refine A_iloadn C dX4_copy_10 2 rfl rfl ?_
    refine A_aloadn C dX4_copy_11 0 rfl rfl ?_
    refine G_getI C W ha rfl rfl rfl rfl rfl fX4_copy_17 rfl dX4_copy_12 (fun z1 ez1 lz1 uz1 => ?_)
    refine A_icmpge C 39 dX4_copy_15 (by decide) (by omega) (by omega) (fun c2 => ?_) (fun c2 => ?_)
    · skip
      exact A_vret C dX4_copy_39 ⟨rfl, W, E⟩
    · skip
      refine A_aloadn C dX4_copy_18 0 rfl rfl ?_
      refine G_getR C W ha rfl rfl rfl rfl fX4_copy_11 dX4_copy_19 (fun b3 hb3 qb3 => ?_)
      refine A_iloadn C dX4_copy_22 2 rfl rfl ?_
      refine G_aald C W qb3 (by omega) (by omega) dX4_copy_23 (fun b4 hb4 qb4 => ?_)
      refine A_aloadn C dX4_copy_24 1 rfl rfl ?_
      refine G_getR C W hb rfl rfl rfl rfl fX4_copy_11 dX4_copy_25 (fun b5 hb5 qb5 => ?_)
      refine A_iloadn C dX4_copy_28 2 rfl rfl ?_
      refine G_aald C W qb5 (by omega) (by omega) dX4_copy_29 (fun b6 hb6 qb6 => ?_)
      refine A_callV C (n := 1) (st := []) (kX1_copy qb4 qb6) gX4_copy_X1_copy rfl (by decide +kernel) ⟨Nat.le_of_ble_eq_true rfl, Nat.le_of_ble_eq_true rfl⟩ qb4 rfl rfl rfl rfl (Nat.le_of_ble_eq_true rfl) dX4_copy_30 rfl W (fun r7 M8 h9 => ?_)
      obtain ⟨rfl, WM8, FM8⟩ := h9
      have EM8 := Fr.tr E (FM8.mono (c2 := [12, 8, 10, 11]) rfl)
      refine A_st (st' := []) rfl ?_
      refine A_iinc (lv' := [(2, .int (iI (v2 + 1))), (0, .ref a), (1, .ref b)]) C dX4_copy_33 2 rfl (by decide) rfl ?_
      refine A_goto C 10 dX4_copy_36 (by decide) ?_
      refine A_pick [1, 2, 0] rfl ?_
      exact ih (v2 + 1) M8 (by omega) (by omega) WM8 EM8
set_option maxHeartbeats 4000000 in
theorem kX4_copy  {a : Nat} (ha : kd a = 12) {b : Nat} (hb : kd b = 6) : Ct yX4_copy wsX4_copy 3 [.ref a, .ref b] (fun M => WF M) (fun M r M' => r = none ∧ WF M' ∧ Fr [12, 8, 10, 11] M M') := by
  refine Ct_of (cc := cX4_copy) (nL := 3) (rt := none) (own := RX4) rfl (by decide) rfl (Nat.le_of_ble_eq_true rfl) ?_
  intro p l e s m args below meth c G M0 C W
  have E : Fr [12, 8, 10, 11] M0 M0 := Fr.rf
  refine A_lv (lv' := [(0, .ref a), (1, .ref b)]) rfl ?_
  refine A_aloadn C dX4_copy_0 0 rfl rfl ?_
  refine A_aloadn C dX4_copy_1 1 rfl rfl ?_
  refine G_getI C W hb rfl rfl rfl rfl rfl fX4_copy_17 rfl dX4_copy_2 (fun z11 ez11 lz11 uz11 => ?_)
  refine G_putI C W E ha rfl rfl rfl rfl rfl fX4_copy_17 ⟨tyX4_ok, nmX4, rfl, by decide⟩ (Or.inl rfl) rfl rfl (by omega) (by omega) dX4_copy_5 (fun M12 eM12 WM12 EM12 => ?_)
  refine A_iconst C dX4_copy_8 ?_
  refine A_istoren (lv' := [(2, .int (iI 0)), (0, .ref a), (1, .ref b)]) C dX4_copy_9 rfl (by decide) rfl ?_
  refine A_pick [1, 2, 0] rfl ?_
  exact lpX4_copy_10 C  ha hb ((13 - (0 : Int)).toNat + 1) 0 M12 (by omega) (by omega) WM12 EM12

theorem uX4_reckon_4 : ∀ w ∈ u_ws RX4 TX4 2, w ∈ wsX4_reckon := by decide +kernel
theorem fX4_reckon_17 : Fl RX4 wsX4_reckon 4 1 17 RX4 TX4 2 := ⟨rfl, by decide, uX4_reckon_4, by decide +kernel⟩
theorem fX4_reckon_11 : Fl RX4 wsX4_reckon 4 0 11 RX4 TX4 2 := ⟨rfl, by decide, uX4_reckon_4, by decide +kernel⟩
set_option maxHeartbeats 4000000 in
theorem lpX4_reckon_2 {p : Program} {l : Launch} {e : Env} {s : State} {m : MethodId} {args : Array Value} {below : List Frame} {meth : Method} {c : Code} {G : xG} (C : Cx p s m args meth c G cX4_reckon 2 RX4 wsX4_reckon none)  {a : Nat} (ha : (kd a = 6 ∨ kd a = 12)) {M0 : Mem} : ∀ (n : Nat) (v1 : Int) (M : Mem), (13 - v1).toNat < n → (0 ≤ v1 ∧ v1 ≤ 12) → WF M → Fr [8, 10, 11] M0 M → AW p l e (rmD 4) s m args below meth c G 2 (QQ G below args s ((fun M r M' => r = none ∧ WF M' ∧ Fr [8, 10, 11] M M') M0)) M 2 [(0, .ref a), (1, .int (iI v1))] [] := by
  intro n
  induction n with
  | zero => intro v1 M hn; exact absurd hn (Nat.not_lt_zero _)
  | succ n ih =>
    intro v1 M hn hi W E
    refine A_iloadn C dX4_reckon_2 1 rfl rfl ?_
    refine A_aloadn C dX4_reckon_3 0 rfl rfl ?_
    refine gr_getI C W ha fX4_reckon_17 dX4_reckon_4 (fun z1 ez1 lz1 uz1 => ?_)
    refine A_icmpge C 25 dX4_reckon_7 (by decide) (by omega) (by omega) (fun c2 => ?_) (fun c2 => ?_)
    · skip
      exact A_vret C dX4_reckon_25 ⟨rfl, W, E⟩
    · skip
      refine A_aloadn C dX4_reckon_10 0 rfl rfl ?_
      obtain ⟨b3, hb3, qb3⟩ := gr_cols W ha
      refine gr_getR C ha hb3 fX4_reckon_11 dX4_reckon_11 ?_
      refine A_iloadn C dX4_reckon_14 1 rfl rfl ?_
      refine G_aald C W qb3 (by omega) (by omega) dX4_reckon_15 (fun b4 hb4 qb4 => ?_)
      refine A_callV C (n := 0) (st := []) (kX1_reckon qb4) gX4_reckon_X1_reckon rfl (by decide +kernel) ⟨Nat.le_of_ble_eq_true rfl, Nat.le_of_ble_eq_true rfl⟩ qb4 rfl rfl rfl rfl (Nat.le_of_ble_eq_true rfl) dX4_reckon_16 rfl W (fun r5 M6 h7 => ?_)
      obtain ⟨rfl, WM6, FM6⟩ := h7
      have EM6 := Fr.tr E (FM6.mono (c2 := [8, 10, 11]) rfl)
      refine A_st (st' := []) rfl ?_
      refine A_iinc (lv' := [(1, .int (iI (v1 + 1))), (0, .ref a)]) C dX4_reckon_19 1 rfl (by decide) rfl ?_
      refine A_goto C 2 dX4_reckon_22 (by decide) ?_
      refine A_pick [1, 0] rfl ?_
      exact ih (v1 + 1) M6 (by omega) (by omega) WM6 EM6
set_option maxHeartbeats 4000000 in
theorem kX4_reckon  {a : Nat} (ha : (kd a = 6 ∨ kd a = 12)) : Ct yX4_reckon wsX4_reckon 4 [.ref a] (fun M => WF M) (fun M r M' => r = none ∧ WF M' ∧ Fr [8, 10, 11] M M') := by
  refine Ct_of (cc := cX4_reckon) (nL := 2) (rt := none) (own := RX4) rfl (by decide) rfl (Nat.le_of_ble_eq_true rfl) ?_
  intro p l e s m args below meth c G M0 C W
  have E : Fr [8, 10, 11] M0 M0 := Fr.rf
  refine A_lv (lv' := [(0, .ref a)]) rfl ?_
  refine A_iconst C dX4_reckon_0 ?_
  refine A_istoren (lv' := [(1, .int (iI 0)), (0, .ref a)]) C dX4_reckon_1 rfl (by decide) rfl ?_
  refine A_pick [1, 0] rfl ?_
  exact lpX4_reckon_2 C  ha ((13 - (0 : Int)).toNat + 1) 0 M0 (by omega) (by omega) W E

theorem uX4_raiseWater_4 : ∀ w ∈ u_ws RX4 TX4 2, w ∈ wsX4_raiseWater := by decide +kernel
theorem uX4_raiseWater_1 : ∀ w ∈ u_ws RX1 TX1 9, w ∈ wsX4_raiseWater := by decide +kernel
theorem fX4_raiseWater_17 : Fl RX4 wsX4_raiseWater 4 1 17 RX4 TX4 2 := ⟨rfl, by decide, uX4_raiseWater_4, by decide +kernel⟩
theorem fX4_raiseWater_11 : Fl RX4 wsX4_raiseWater 4 0 11 RX4 TX4 2 := ⟨rfl, by decide, uX4_raiseWater_4, by decide +kernel⟩
theorem fX4_raiseWater_46 : Fl RX4 wsX4_raiseWater 1 2 46 RX1 TX1 9 := ⟨rfl, by decide, uX4_raiseWater_1, by decide +kernel⟩
set_option maxHeartbeats 4000000 in
theorem lpX4_raiseWater_2 {p : Program} {l : Launch} {e : Env} {s : State} {m : MethodId} {args : Array Value} {below : List Frame} {meth : Method} {c : Code} {G : xG} (C : Cx p s m args meth c G cX4_raiseWater 3 RX4 wsX4_raiseWater none)  {a : Nat} (ha : kd a = 12) {x1 : Int} (hx1 : (0 : Int) ≤ x1 ∧ x1 ≤ 24) {M0 : Mem} : ∀ (n : Nat) (v2 : Int) (M : Mem), (13 - v2).toNat < n → (0 ≤ v2 ∧ v2 ≤ 12) → WF M → Fr [8] M0 M → AW p l e (rmD 2) s m args below meth c G 3 (QQ G below args s ((fun M r M' => r = none ∧ WF M' ∧ Fr [8] M M') M0)) M 2 [(0, .ref a), (1, .int (iI x1)), (2, .int (iI v2))] [] := by
  intro n
  induction n with
  | zero => intro v2 M hn; exact absurd hn (Nat.not_lt_zero _)
  | succ n ih =>
    intro v2 M hn hi W E
    refine A_iloadn C dX4_raiseWater_2 2 rfl rfl ?_
    refine A_aloadn C dX4_raiseWater_3 0 rfl rfl ?_
    refine G_getI C W ha rfl rfl rfl rfl rfl fX4_raiseWater_17 rfl dX4_raiseWater_4 (fun z1 ez1 lz1 uz1 => ?_)
    refine A_icmpge C 42 dX4_raiseWater_7 (by decide) (by omega) (by omega) (fun c2 => ?_) (fun c2 => ?_)
    · skip
      exact A_vret C dX4_raiseWater_42 ⟨rfl, W, E⟩
    · skip
      refine A_aloadn C dX4_raiseWater_10 0 rfl rfl ?_
      refine G_getR C W ha rfl rfl rfl rfl fX4_raiseWater_11 dX4_raiseWater_11 (fun b3 hb3 qb3 => ?_)
      refine A_iloadn C dX4_raiseWater_14 2 rfl rfl ?_
      refine G_aald C W qb3 (by omega) (by omega) dX4_raiseWater_15 (fun b4 hb4 qb4 => ?_)
      refine A_iconst C dX4_raiseWater_16 ?_
      refine A_aloadn C dX4_raiseWater_17 0 rfl rfl ?_
      refine G_getR C W ha rfl rfl rfl rfl fX4_raiseWater_11 dX4_raiseWater_18 (fun b5 hb5 qb5 => ?_)
      refine A_iloadn C dX4_raiseWater_21 2 rfl rfl ?_
      refine G_aald C W qb5 (by omega) (by omega) dX4_raiseWater_22 (fun b6 hb6 qb6 => ?_)
      refine G_getI C W qb6 rfl rfl rfl rfl rfl fX4_raiseWater_46 rfl dX4_raiseWater_23 (fun z7 ez7 lz7 uz7 => ?_)
      refine A_iloadn C dX4_raiseWater_26 1 rfl rfl ?_
      refine A_iadd C dX4_raiseWater_27 ?_
      refine A_bipush C dX4_raiseWater_28 (by decide) ?_
      refine A_min C (by omega) (by omega) (by decide +kernel) (by decide +kernel) (by decide +kernel) (by decide +kernel) (Nat.le_of_ble_eq_true rfl) (Nat.le_of_ble_eq_true rfl) dX4_raiseWater_30 (fun z8 ez8 lz8 uz8 => ?_)
      refine A_callV C (n := 2) (st := []) (kX1_put qb4 (by omega) (by omega) (by omega)) gX4_raiseWater_X1_put rfl (by decide +kernel) ⟨Nat.le_of_ble_eq_true rfl, Nat.le_of_ble_eq_true rfl⟩ qb4 rfl rfl rfl rfl (Nat.le_of_ble_eq_true rfl) dX4_raiseWater_33 rfl W (fun r9 M10 h11 => ?_)
      obtain ⟨rfl, WM10, FM10⟩ := h11
      have EM10 := Fr.tr E (FM10.mono (c2 := [8]) rfl)
      refine A_st (st' := []) rfl ?_
      refine A_iinc (lv' := [(2, .int (iI (v2 + 1))), (0, .ref a), (1, .int (iI x1))]) C dX4_raiseWater_36 2 rfl (by decide) rfl ?_
      refine A_goto C 2 dX4_raiseWater_39 (by decide) ?_
      refine A_pick [1, 2, 0] rfl ?_
      exact ih (v2 + 1) M10 (by omega) (by omega) WM10 EM10
set_option maxHeartbeats 4000000 in
theorem kX4_raiseWater  {a : Nat} (ha : kd a = 12) {x1 : Int} (hx1 : (0 : Int) ≤ x1 ∧ x1 ≤ 24) : Ct yX4_raiseWater wsX4_raiseWater 2 [.ref a, .int (iI x1)] (fun M => WF M) (fun M r M' => r = none ∧ WF M' ∧ Fr [8] M M') := by
  refine Ct_of (cc := cX4_raiseWater) (nL := 3) (rt := none) (own := RX4) rfl (by decide) rfl (Nat.le_of_ble_eq_true rfl) ?_
  intro p l e s m args below meth c G M0 C W
  have E : Fr [8] M0 M0 := Fr.rf
  refine A_lv (lv' := [(0, .ref a), (1, .int (iI x1))]) rfl ?_
  refine A_iconst C dX4_raiseWater_0 ?_
  refine A_istoren (lv' := [(2, .int (iI 0)), (0, .ref a), (1, .int (iI x1))]) C dX4_raiseWater_1 rfl (by decide) rfl ?_
  refine A_pick [1, 2, 0] rfl ?_
  exact lpX4_raiseWater_2 C  ha hx1 ((13 - (0 : Int)).toNat + 1) 0 M0 (by omega) (by omega) W E

theorem uX4_cellCount_4 : ∀ w ∈ u_ws RX4 TX4 2, w ∈ wsX4_cellCount := by decide +kernel
theorem uX4_cellCount_1 : ∀ w ∈ u_ws RX1 TX1 9, w ∈ wsX4_cellCount := by decide +kernel
theorem fX4_cellCount_17 : Fl RX4 wsX4_cellCount 4 1 17 RX4 TX4 2 := ⟨rfl, by decide, uX4_cellCount_4, by decide +kernel⟩
theorem fX4_cellCount_11 : Fl RX4 wsX4_cellCount 4 0 11 RX4 TX4 2 := ⟨rfl, by decide, uX4_cellCount_4, by decide +kernel⟩
theorem fX4_cellCount_59 : Fl RX4 wsX4_cellCount 1 1 59 RX1 TX1 9 := ⟨rfl, by decide, uX4_cellCount_1, by decide +kernel⟩
set_option maxHeartbeats 4000000 in
theorem lpX4_cellCount_4 {p : Program} {l : Launch} {e : Env} {s : State} {m : MethodId} {args : Array Value} {below : List Frame} {meth : Method} {c : Code} {G : xG} (C : Cx p s m args meth c G cX4_cellCount 3 RX4 wsX4_cellCount (some .int))  {a : Nat} (ha : kd a = 6) {M0 : Mem} : ∀ (n : Nat) (v1 v2 : Int) (M : Mem), (13 - v2).toNat < n → (0 ≤ v1 ∧ v1 ≤ 24 * v2 ∧ 0 ≤ v2 ∧ v2 ≤ 12) → WF M → Fr [] M0 M → AW p l e (rmD 1) s m args below meth c G 3 (QQ G below args s ((fun M r M' => ∃ z : Int, r = some (.int (iI z)) ∧ (-2147483648 : Int) ≤ z ∧ z ≤ 2147483647 ∧ WF M' ∧ Fr [] M M') M0)) M 4 [(0, .ref a), (1, .int (iI v1)), (2, .int (iI v2))] [] := by
  intro n
  induction n with
  | zero => intro v1 v2 M hn; exact absurd hn (Nat.not_lt_zero _)
  | succ n ih =>
    intro v1 v2 M hn hi W E
    refine A_iloadn C dX4_cellCount_4 2 rfl rfl ?_
    refine A_aloadn C dX4_cellCount_5 0 rfl rfl ?_
    refine G_getI C W ha rfl rfl rfl rfl rfl fX4_cellCount_17 rfl dX4_cellCount_6 (fun z1 ez1 lz1 uz1 => ?_)
    refine A_icmpge C 30 dX4_cellCount_9 (by decide) (by omega) (by omega) (fun c2 => ?_) (fun c2 => ?_)
    · skip
      refine A_iloadn C dX4_cellCount_30 1 rfl rfl ?_
      exact A_iret C dX4_cellCount_31 ⟨v1, rfl, by omega, by omega, W, E⟩
    · skip
      refine A_iloadn C dX4_cellCount_12 1 rfl rfl ?_
      refine A_aloadn C dX4_cellCount_13 0 rfl rfl ?_
      refine G_getR C W ha rfl rfl rfl rfl fX4_cellCount_11 dX4_cellCount_14 (fun b3 hb3 qb3 => ?_)
      refine A_iloadn C dX4_cellCount_17 2 rfl rfl ?_
      refine G_aald C W qb3 (by omega) (by omega) dX4_cellCount_18 (fun b4 hb4 qb4 => ?_)
      refine G_getI C W qb4 rfl rfl rfl rfl rfl fX4_cellCount_59 rfl dX4_cellCount_19 (fun z5 ez5 lz5 uz5 => ?_)
      refine A_iadd C dX4_cellCount_22 ?_
      refine A_nami (fun z6 ez6 => ?_)
      refine A_istoren (lv' := [(1, .int (iI z6)), (0, .ref a), (2, .int (iI v2))]) C dX4_cellCount_23 rfl (by decide) rfl ?_
      refine A_iinc (lv' := [(2, .int (iI (v2 + 1))), (1, .int (iI z6)), (0, .ref a)]) C dX4_cellCount_24 2 rfl (by decide) rfl ?_
      refine A_goto C 4 dX4_cellCount_27 (by decide) ?_
      refine A_pick [2, 1, 0] rfl ?_
      exact ih z6 (v2 + 1) M (by omega) (by omega) W E
set_option maxHeartbeats 4000000 in
theorem kX4_cellCount  {a : Nat} (ha : kd a = 6) : Ct yX4_cellCount wsX4_cellCount 1 [.ref a] (fun M => WF M) (fun M r M' => ∃ z : Int, r = some (.int (iI z)) ∧ (-2147483648 : Int) ≤ z ∧ z ≤ 2147483647 ∧ WF M' ∧ Fr [] M M') := by
  refine Ct_of (cc := cX4_cellCount) (nL := 3) (rt := (some .int)) (own := RX4) rfl (by decide) rfl (Nat.le_of_ble_eq_true rfl) ?_
  intro p l e s m args below meth c G M0 C W
  have E : Fr [] M0 M0 := Fr.rf
  refine A_lv (lv' := [(0, .ref a)]) rfl ?_
  refine A_iconst C dX4_cellCount_0 ?_
  refine A_istoren (lv' := [(1, .int (iI 0)), (0, .ref a)]) C dX4_cellCount_1 rfl (by decide) rfl ?_
  refine A_iconst C dX4_cellCount_2 ?_
  refine A_istoren (lv' := [(2, .int (iI 0)), (1, .int (iI 0)), (0, .ref a)]) C dX4_cellCount_3 rfl (by decide) rfl ?_
  refine A_pick [2, 1, 0] rfl ?_
  exact lpX4_cellCount_4 C  ha ((13 - (0 : Int)).toNat + 1) 0 0 M0 (by omega) (by omega) W E

theorem uX4_holdsOfPart_6_20_4 : ∀ w ∈ u_ws RX4 TX4 2, w ∈ wsX4_holdsOfPart := by decide +kernel
theorem uX4_holdsOfPart_6_20_5 : ∀ w ∈ u_ws RX5 TX5 3, w ∈ wsX4_holdsOfPart := by decide +kernel
theorem fX4_holdsOfPart_6_20_11 : Fl RX4 wsX4_holdsOfPart 4 0 11 RX4 TX4 2 := ⟨rfl, by decide, uX4_holdsOfPart_6_20_4, by decide +kernel⟩
theorem fX4_holdsOfPart_6_20_74 : Fl RX4 wsX4_holdsOfPart 5 1 74 RX5 TX5 3 := ⟨rfl, by decide, uX4_holdsOfPart_6_20_5, by decide +kernel⟩
theorem fX4_holdsOfPart_6_20_71 : Fl RX4 wsX4_holdsOfPart 5 0 71 RX5 TX5 3 := ⟨rfl, by decide, uX4_holdsOfPart_6_20_5, by decide +kernel⟩
set_option maxHeartbeats 4000000 in
theorem kX4_holdsOfPart_6_20  {a : Nat} (ha : kd a = 6) {b : Nat} (hb : kd b = 20) {x2 : Int} (hx2 : (0 : Int) ≤ x2 ∧ x2 ≤ 11) : Ct yX4_holdsOfPart wsX4_holdsOfPart 4 [.ref a, .ref b, .int (iI x2)] (fun M => WF M ∧ (M.1 b 1 + x2 ≤ 11)) (fun M r M' => ∃ z : Int, r = some (.int (iI z)) ∧ (-2147483648 : Int) ≤ z ∧ z ≤ 2147483647 ∧ WF M' ∧ Fr [8, 10, 11] M M') := by
  refine Ct_of (cc := cX4_holdsOfPart) (nL := 5) (rt := (some .int)) (own := RX4) rfl (by decide) rfl (Nat.le_of_ble_eq_true rfl) ?_
  intro p l e s m args below meth c G M0 C W
  obtain ⟨W, hM⟩ := W
  have E : Fr [8, 10, 11] M0 M0 := Fr.rf
  refine A_lv (lv' := [(0, .ref a), (1, .ref b), (2, .int (iI x2))]) rfl ?_
  refine A_aloadn C dX4_holdsOfPart_0 0 rfl rfl ?_
  refine G_getR C W ha rfl rfl rfl rfl fX4_holdsOfPart_6_20_11 dX4_holdsOfPart_1 (fun b1 hb1 qb1 => ?_)
  refine A_aloadn C dX4_holdsOfPart_4 1 rfl rfl ?_
  refine G_getI C W hb rfl rfl rfl rfl rfl fX4_holdsOfPart_6_20_74 rfl dX4_holdsOfPart_5 (fun z2 ez2 lz2 uz2 => ?_)
  refine A_iloadn C dX4_holdsOfPart_8 2 rfl rfl ?_
  refine A_iadd C dX4_holdsOfPart_9 ?_
  refine G_aald C W qb1 (by omega) (by omega) dX4_holdsOfPart_10 (fun b3 hb3 qb3 => ?_)
  refine A_astoren (lv' := [(3, .ref b3), (0, .ref a), (1, .ref b), (2, .int (iI x2))]) C dX4_holdsOfPart_11 rfl (by decide) rfl ?_
  refine A_aloadn C dX4_holdsOfPart_12 0 rfl rfl ?_
  refine A_callV C (n := 0) (st := []) (kX1_reckon qb3) gX4_holdsOfPart_X1_reckon rfl (by decide +kernel) ⟨Nat.le_of_ble_eq_true rfl, Nat.le_of_ble_eq_true rfl⟩ qb3 rfl rfl rfl rfl (Nat.le_of_ble_eq_true rfl) dX4_holdsOfPart_13 rfl W (fun r4 M5 h6 => ?_)
  obtain ⟨rfl, WM5, FM5⟩ := h6
  have EM5 := Fr.tr E (FM5.mono (c2 := [8, 10, 11]) rfl)
  have tM5b1 := congrFun (FM5 b (by rw [hb]; rfl)).1 1
  have tM5b2 := congrFun (FM5 b (by rw [hb]; rfl)).1 2
  refine A_st (st' := []) rfl ?_
  refine A_aloadn C dX4_holdsOfPart_16 2 rfl rfl ?_
  refine G_getR C WM5 hb rfl rfl rfl rfl fX4_holdsOfPart_6_20_71 dX4_holdsOfPart_17 (fun b8 hb8 qb8 => ?_)
  refine A_iloadn C dX4_holdsOfPart_20 3 rfl rfl ?_
  refine G_iald C WM5 qb8 rfl rfl (by decide) (fun _ => rfl) (by omega) (by omega) dX4_holdsOfPart_21 (fun z9 ez9 lz9 uz9 => ?_)
  refine A_aloadn C dX4_holdsOfPart_22 2 rfl rfl ?_
  refine G_getR C WM5 hb rfl rfl rfl rfl fX4_holdsOfPart_6_20_71 dX4_holdsOfPart_23 (fun b10 hb10 qb10 => ?_)
  refine A_iloadn C dX4_holdsOfPart_26 3 rfl rfl ?_
  refine A_iconst C dX4_holdsOfPart_27 ?_
  refine A_iadd C dX4_holdsOfPart_28 ?_
  refine G_iald C WM5 qb10 rfl rfl (by decide) (fun _ => rfl) (by omega) (by omega) dX4_holdsOfPart_29 (fun z11 ez11 lz11 uz11 => ?_)
  refine A_min C (by omega) (by omega) (by decide +kernel) (by decide +kernel) (by decide +kernel) (by decide +kernel) (Nat.le_of_ble_eq_true rfl) (Nat.le_of_ble_eq_true rfl) dX4_holdsOfPart_30 (fun z12 ez12 lz12 uz12 => ?_)
  refine A_istore (lv' := [(4, .int (iI z12)), (3, .ref b3), (0, .ref a), (1, .ref b), (2, .int (iI x2))]) C dX4_holdsOfPart_33 (by decide) rfl ?_
  refine A_aloadn C dX4_holdsOfPart_35 1 rfl rfl ?_
  refine A_iload C dX4_holdsOfPart_36 0 rfl ?_
  refine A_aloadn C dX4_holdsOfPart_38 3 rfl rfl ?_
  refine G_getR C WM5 hb rfl rfl rfl rfl fX4_holdsOfPart_6_20_71 dX4_holdsOfPart_39 (fun b13 hb13 qb13 => ?_)
  refine A_iloadn C dX4_holdsOfPart_42 4 rfl rfl ?_
  refine G_iald C WM5 qb13 rfl rfl (by decide) (fun _ => rfl) (by omega) (by omega) dX4_holdsOfPart_43 (fun z14 ez14 lz14 uz14 => ?_)
  refine A_aloadn C dX4_holdsOfPart_44 3 rfl rfl ?_
  refine G_getR C WM5 hb rfl rfl rfl rfl fX4_holdsOfPart_6_20_71 dX4_holdsOfPart_45 (fun b15 hb15 qb15 => ?_)
  refine A_iloadn C dX4_holdsOfPart_48 4 rfl rfl ?_
  refine A_iconst C dX4_holdsOfPart_49 ?_
  refine A_iadd C dX4_holdsOfPart_50 ?_
  refine G_iald C WM5 qb15 rfl rfl (by decide) (fun _ => rfl) (by omega) (by omega) dX4_holdsOfPart_51 (fun z16 ez16 lz16 uz16 => ?_)
  refine A_isub C dX4_holdsOfPart_52 ?_
  refine A_abs C (by omega) (by omega) (by decide +kernel) (by decide +kernel) (by decide +kernel) (by decide +kernel) (Nat.le_of_ble_eq_true rfl) (Nat.le_of_ble_eq_true rfl) dX4_holdsOfPart_53 (fun z17 ez17 => ?_)
  refine A_callV C (n := 2) (st := []) (kX1_holdsAt qb3 (by omega) (by omega) (by omega) (by omega)) gX4_holdsOfPart_X1_holdsAt rfl (by decide +kernel) ⟨Nat.le_of_ble_eq_true rfl, Nat.le_of_ble_eq_true rfl⟩ qb3 rfl rfl rfl rfl (Nat.le_of_ble_eq_true rfl) dX4_holdsOfPart_56 rfl WM5 (fun r18 M19 h20 => ?_)
  obtain ⟨z22, rfl, lz22, uz22, WM19, FM19, xx21⟩ := h20
  have EM19 := Fr.tr EM5 (FM19.mono (c2 := [8, 10, 11]) rfl)
  have tM19b1 := congrFun (FM19 b (by rw [hb]; rfl)).1 1
  have tM19b2 := congrFun (FM19 b (by rw [hb]; rfl)).1 2
  refine A_st (st' := [.int (iI z22)]) rfl ?_
  exact A_iret C dX4_holdsOfPart_59 ⟨z22, rfl, by omega, by omega, WM19, EM19⟩

theorem uX4_holdsOfPart_G_21_4 : ∀ w ∈ u_ws RX4 TX4 2, w ∈ wsX4_holdsOfPart := by decide +kernel
theorem uX4_holdsOfPart_G_21_5 : ∀ w ∈ u_ws RX5 TX5 3, w ∈ wsX4_holdsOfPart := by decide +kernel
theorem fX4_holdsOfPart_G_21_11 : Fl RX4 wsX4_holdsOfPart 4 0 11 RX4 TX4 2 := ⟨rfl, by decide, uX4_holdsOfPart_G_21_4, by decide +kernel⟩
theorem fX4_holdsOfPart_G_21_74 : Fl RX4 wsX4_holdsOfPart 5 1 74 RX5 TX5 3 := ⟨rfl, by decide, uX4_holdsOfPart_G_21_5, by decide +kernel⟩
theorem fX4_holdsOfPart_G_21_71 : Fl RX4 wsX4_holdsOfPart 5 0 71 RX5 TX5 3 := ⟨rfl, by decide, uX4_holdsOfPart_G_21_5, by decide +kernel⟩
set_option maxHeartbeats 4000000 in
theorem kX4_holdsOfPart_G_21  {a : Nat} (ha : (kd a = 6 ∨ kd a = 12)) {b : Nat} (hb : kd b = 21) {x2 : Int} (hx2 : (0 : Int) ≤ x2 ∧ x2 ≤ 11) : Ct yX4_holdsOfPart wsX4_holdsOfPart 4 [.ref a, .ref b, .int (iI x2)] (fun M => WF M ∧ (M.1 b 1 + x2 ≤ 11)) (fun M r M' => ∃ z : Int, r = some (.int (iI z)) ∧ (-2147483648 : Int) ≤ z ∧ z ≤ 2147483647 ∧ WF M' ∧ Fr [8, 10, 11] M M') := by
  refine Ct_of (cc := cX4_holdsOfPart) (nL := 5) (rt := (some .int)) (own := RX4) rfl (by decide) rfl (Nat.le_of_ble_eq_true rfl) ?_
  intro p l e s m args below meth c G M0 C W
  obtain ⟨W, hM⟩ := W
  have E : Fr [8, 10, 11] M0 M0 := Fr.rf
  refine A_lv (lv' := [(0, .ref a), (1, .ref b), (2, .int (iI x2))]) rfl ?_
  refine A_aloadn C dX4_holdsOfPart_0 0 rfl rfl ?_
  obtain ⟨b1, hb1, qb1⟩ := gr_cols W ha
  refine gr_getR C ha hb1 fX4_holdsOfPart_G_21_11 dX4_holdsOfPart_1 ?_
  refine A_aloadn C dX4_holdsOfPart_4 1 rfl rfl ?_
  refine G_getI C W hb rfl rfl rfl rfl rfl fX4_holdsOfPart_G_21_74 rfl dX4_holdsOfPart_5 (fun z2 ez2 lz2 uz2 => ?_)
  refine A_iloadn C dX4_holdsOfPart_8 2 rfl rfl ?_
  refine A_iadd C dX4_holdsOfPart_9 ?_
  refine G_aald C W qb1 (by omega) (by omega) dX4_holdsOfPart_10 (fun b3 hb3 qb3 => ?_)
  refine A_astoren (lv' := [(3, .ref b3), (0, .ref a), (1, .ref b), (2, .int (iI x2))]) C dX4_holdsOfPart_11 rfl (by decide) rfl ?_
  refine A_aloadn C dX4_holdsOfPart_12 0 rfl rfl ?_
  refine A_callV C (n := 0) (st := []) (kX1_reckon qb3) gX4_holdsOfPart_X1_reckon rfl (by decide +kernel) ⟨Nat.le_of_ble_eq_true rfl, Nat.le_of_ble_eq_true rfl⟩ qb3 rfl rfl rfl rfl (Nat.le_of_ble_eq_true rfl) dX4_holdsOfPart_13 rfl W (fun r4 M5 h6 => ?_)
  obtain ⟨rfl, WM5, FM5⟩ := h6
  have EM5 := Fr.tr E (FM5.mono (c2 := [8, 10, 11]) rfl)
  have tM5b1 := congrFun (FM5 b (by rw [hb]; rfl)).1 1
  have tM5b2 := congrFun (FM5 b (by rw [hb]; rfl)).1 2
  refine A_st (st' := []) rfl ?_
  refine A_aloadn C dX4_holdsOfPart_16 2 rfl rfl ?_
  refine G_getR C WM5 hb rfl rfl rfl rfl fX4_holdsOfPart_G_21_71 dX4_holdsOfPart_17 (fun b8 hb8 qb8 => ?_)
  refine A_iloadn C dX4_holdsOfPart_20 3 rfl rfl ?_
  refine G_iald C WM5 qb8 rfl rfl (by decide) (fun _ => rfl) (by omega) (by omega) dX4_holdsOfPart_21 (fun z9 ez9 lz9 uz9 => ?_)
  refine A_aloadn C dX4_holdsOfPart_22 2 rfl rfl ?_
  refine G_getR C WM5 hb rfl rfl rfl rfl fX4_holdsOfPart_G_21_71 dX4_holdsOfPart_23 (fun b10 hb10 qb10 => ?_)
  refine A_iloadn C dX4_holdsOfPart_26 3 rfl rfl ?_
  refine A_iconst C dX4_holdsOfPart_27 ?_
  refine A_iadd C dX4_holdsOfPart_28 ?_
  refine G_iald C WM5 qb10 rfl rfl (by decide) (fun _ => rfl) (by omega) (by omega) dX4_holdsOfPart_29 (fun z11 ez11 lz11 uz11 => ?_)
  refine A_min C (by omega) (by omega) (by decide +kernel) (by decide +kernel) (by decide +kernel) (by decide +kernel) (Nat.le_of_ble_eq_true rfl) (Nat.le_of_ble_eq_true rfl) dX4_holdsOfPart_30 (fun z12 ez12 lz12 uz12 => ?_)
  refine A_istore (lv' := [(4, .int (iI z12)), (3, .ref b3), (0, .ref a), (1, .ref b), (2, .int (iI x2))]) C dX4_holdsOfPart_33 (by decide) rfl ?_
  refine A_aloadn C dX4_holdsOfPart_35 1 rfl rfl ?_
  refine A_iload C dX4_holdsOfPart_36 0 rfl ?_
  refine A_aloadn C dX4_holdsOfPart_38 3 rfl rfl ?_
  refine G_getR C WM5 hb rfl rfl rfl rfl fX4_holdsOfPart_G_21_71 dX4_holdsOfPart_39 (fun b13 hb13 qb13 => ?_)
  refine A_iloadn C dX4_holdsOfPart_42 4 rfl rfl ?_
  refine G_iald C WM5 qb13 rfl rfl (by decide) (fun _ => rfl) (by omega) (by omega) dX4_holdsOfPart_43 (fun z14 ez14 lz14 uz14 => ?_)
  refine A_aloadn C dX4_holdsOfPart_44 3 rfl rfl ?_
  refine G_getR C WM5 hb rfl rfl rfl rfl fX4_holdsOfPart_G_21_71 dX4_holdsOfPart_45 (fun b15 hb15 qb15 => ?_)
  refine A_iloadn C dX4_holdsOfPart_48 4 rfl rfl ?_
  refine A_iconst C dX4_holdsOfPart_49 ?_
  refine A_iadd C dX4_holdsOfPart_50 ?_
  refine G_iald C WM5 qb15 rfl rfl (by decide) (fun _ => rfl) (by omega) (by omega) dX4_holdsOfPart_51 (fun z16 ez16 lz16 uz16 => ?_)
  refine A_isub C dX4_holdsOfPart_52 ?_
  refine A_abs C (by omega) (by omega) (by decide +kernel) (by decide +kernel) (by decide +kernel) (by decide +kernel) (Nat.le_of_ble_eq_true rfl) (Nat.le_of_ble_eq_true rfl) dX4_holdsOfPart_53 (fun z17 ez17 => ?_)
  refine A_callV C (n := 2) (st := []) (kX1_holdsAt qb3 (by omega) (by omega) (by omega) (by omega)) gX4_holdsOfPart_X1_holdsAt rfl (by decide +kernel) ⟨Nat.le_of_ble_eq_true rfl, Nat.le_of_ble_eq_true rfl⟩ qb3 rfl rfl rfl rfl (Nat.le_of_ble_eq_true rfl) dX4_holdsOfPart_56 rfl WM5 (fun r18 M19 h20 => ?_)
  obtain ⟨z22, rfl, lz22, uz22, WM19, FM19, xx21⟩ := h20
  have EM19 := Fr.tr EM5 (FM19.mono (c2 := [8, 10, 11]) rfl)
  have tM19b1 := congrFun (FM19 b (by rw [hb]; rfl)).1 1
  have tM19b2 := congrFun (FM19 b (by rw [hb]; rfl)).1 2
  refine A_st (st' := [.int (iI z22)]) rfl ?_
  exact A_iret C dX4_holdsOfPart_59 ⟨z22, rfl, by omega, by omega, WM19, EM19⟩
end
section
theorem uX4_bears_5 : ∀ w ∈ u_ws RX5 TX5 3, w ∈ wsX4_bears := by decide +kernel
theorem uX4_bears_4 : ∀ w ∈ u_ws RX4 TX4 2, w ∈ wsX4_bears := by decide +kernel
theorem uX4_bears_1 : ∀ w ∈ u_ws RX1 TX1 9, w ∈ wsX4_bears := by decide +kernel
theorem fX4_bears_62 : Fl RX4 wsX4_bears 5 2 62 RX5 TX5 3 := ⟨rfl, by decide, uX4_bears_5, by decide +kernel⟩
theorem fX4_bears_17 : Fl RX4 wsX4_bears 4 1 17 RX4 TX4 2 := ⟨rfl, by decide, uX4_bears_4, by decide +kernel⟩
theorem fX4_bears_71 : Fl RX4 wsX4_bears 5 0 71 RX5 TX5 3 := ⟨rfl, by decide, uX4_bears_5, by decide +kernel⟩
theorem fX4_bears_11 : Fl RX4 wsX4_bears 4 0 11 RX4 TX4 2 := ⟨rfl, by decide, uX4_bears_4, by decide +kernel⟩
theorem fX4_bears_74 : Fl RX4 wsX4_bears 5 1 74 RX5 TX5 3 := ⟨rfl, by decide, uX4_bears_5, by decide +kernel⟩
theorem fX4_bears_59 : Fl RX4 wsX4_bears 1 1 59 RX1 TX1 9 := ⟨rfl, by decide, uX4_bears_1, by decide +kernel⟩
set_option maxHeartbeats 4000000 in
theorem lpX4_bears_76 {p : Program} {l : Launch} {e : Env} {s : State} {m : MethodId} {args : Array Value} {below : List Frame} {meth : Method} {c : Code} {G : xG} (C : Cx p s m args meth c G cX4_bears 3 RX4 wsX4_bears (some .boolean))  {a : Nat} (ha : kd a = 6) {b : Nat} (hb : kd b = 20) {M0 : Mem} : ∀ (n : Nat) (v2 : Int) (M : Mem), (14 - v2).toNat < n → (0 ≤ v2 ∧ v2 ≤ 13 ∧ M.1 b 1 + M.1 b 2 ≤ 13) → WF M → Fr [8, 10, 11] M0 M → AW p l e (rmD 5) s m args below meth c G 3 (QQ G below args s ((fun M r M' => ∃ z : Int, r = some (.int (iI z)) ∧ (0 : Int) ≤ z ∧ z ≤ 1 ∧ WF M' ∧ Fr [8, 10, 11] M M') M0)) M 76 [(0, .ref a), (1, .ref b), (2, .int (iI v2))] [] := by
  intro n
  induction n with
  | zero => intro v2 M hn; exact absurd hn (Nat.not_lt_zero _)
  | succ n ih =>
    intro v2 M hn hi W E
    refine A_iloadn C dX4_bears_76 2 rfl rfl ?_
    refine A_iconst C dX4_bears_77 ?_
    refine A_iadd C dX4_bears_78 ?_
    refine A_aloadn C dX4_bears_79 1 rfl rfl ?_
    refine G_getI C W hb rfl rfl rfl rfl rfl fX4_bears_62 rfl dX4_bears_80 (fun z1 ez1 lz1 uz1 => ?_)
    refine A_icmpge C 104 dX4_bears_83 (by decide) (by omega) (by omega) (fun c2 => ?_) (fun c2 => ?_)
    · skip
      refine A_iconst C dX4_bears_104 ?_
      exact A_zret C (by omega) dX4_bears_105 ⟨1, rfl, by omega, by omega, W, E⟩
    · skip
      refine A_aloadn C dX4_bears_86 0 rfl rfl ?_
      refine A_aloadn C dX4_bears_87 1 rfl rfl ?_
      refine A_iloadn C dX4_bears_88 2 rfl rfl ?_
      refine A_callV C (n := 2) (st := []) (kX4_holdsOfPart_6_20 ha hb (by omega)) gX4_bears_X4_holdsOfPart rfl (by decide +kernel) ⟨Nat.le_of_ble_eq_true rfl, Nat.le_of_ble_eq_true rfl⟩ ha rfl rfl rfl rfl (Nat.le_of_ble_eq_true rfl) dX4_bears_89 rfl ⟨W, by omega⟩ (fun r3 M4 h5 => ?_)
      obtain ⟨z7, rfl, lz7, uz7, WM4, FM4⟩ := h5
      have EM4 := Fr.tr E (FM4.mono (c2 := [8, 10, 11]) rfl)
      have tM4b1 := congrFun (FM4 b (by rw [hb]; rfl)).1 1
      have tM4b2 := congrFun (FM4 b (by rw [hb]; rfl)).1 2
      refine A_st (st' := [.int (iI z7)]) rfl ?_
      refine A_iconst C dX4_bears_92 ?_
      refine A_icmpne C 98 dX4_bears_93 (by decide) (by omega) (by omega) (fun c8 => ?_) (fun c8 => ?_)
      · skip
        refine A_iinc (lv' := [(2, .int (iI (v2 + 1))), (0, .ref a), (1, .ref b)]) C dX4_bears_98 2 rfl (by decide) rfl ?_
        refine A_goto C 76 dX4_bears_101 (by decide) ?_
        refine A_pick [1, 2, 0] rfl ?_
        exact ih (v2 + 1) M4 (by omega) (by omega) WM4 EM4
      · skip
        refine A_iconst C dX4_bears_96 ?_
        exact A_zret C (by omega) dX4_bears_97 ⟨0, rfl, by omega, by omega, WM4, EM4⟩
set_option maxHeartbeats 4000000 in
theorem kX4_bears  {a : Nat} (ha : kd a = 6) {b : Nat} (hb : kd b = 20) : Ct yX4_bears wsX4_bears 5 [.ref a, .ref b] (fun M => WF M) (fun M r M' => ∃ z : Int, r = some (.int (iI z)) ∧ (0 : Int) ≤ z ∧ z ≤ 1 ∧ WF M' ∧ Fr [8, 10, 11] M M') := by
  refine Ct_of (cc := cX4_bears) (nL := 3) (rt := (some .boolean)) (own := RX4) rfl (by decide) rfl (Nat.le_of_ble_eq_true rfl) ?_
  intro p l e s m args below meth c G M0 C W
  have E : Fr [8, 10, 11] M0 M0 := Fr.rf
  refine A_lv (lv' := [(0, .ref a), (1, .ref b)]) rfl ?_
  refine A_aloadn C dX4_bears_0 1 rfl rfl ?_
  refine G_getI C W hb rfl rfl rfl rfl rfl fX4_bears_62 rfl dX4_bears_1 (fun z9 ez9 lz9 uz9 => ?_)
  refine A_iconst C dX4_bears_4 ?_
  refine A_icmplt C 19 dX4_bears_5 (by decide) (by omega) (by omega) (fun c10 => ?_) (fun c10 => ?_)
  · skip
    refine A_iconst C dX4_bears_19 ?_
    exact A_zret C (by omega) dX4_bears_20 ⟨0, rfl, by omega, by omega, W, E⟩
  · skip
    refine A_aloadn C dX4_bears_8 1 rfl rfl ?_
    refine A_callV C (n := 0) (st := []) (kX5_end_20 hb) gX4_bears_X5_end rfl (by decide +kernel) ⟨Nat.le_of_ble_eq_true rfl, Nat.le_of_ble_eq_true rfl⟩ hb rfl rfl rfl rfl (Nat.le_of_ble_eq_true rfl) dX4_bears_9 rfl W (fun r11 M12 h13 => ?_)
    obtain ⟨z15, rfl, lz15, uz15, WM12, FM12, xx14⟩ := h13
    have EM12 := Fr.tr E (FM12.mono (c2 := [8, 10, 11]) rfl)
    have tM12b1 := congrFun (FM12 b (by rw [hb]; rfl)).1 1
    have tM12b2 := congrFun (FM12 b (by rw [hb]; rfl)).1 2
    refine A_st (st' := [.int (iI z15)]) rfl ?_
    refine A_aloadn C dX4_bears_12 0 rfl rfl ?_
    refine G_getI C WM12 ha rfl rfl rfl rfl rfl fX4_bears_17 rfl dX4_bears_13 (fun z16 ez16 lz16 uz16 => ?_)
    refine A_icmple C 21 dX4_bears_16 (by decide) (by omega) (by omega) (fun c17 => ?_) (fun c17 => ?_)
    · skip
      refine A_aloadn C dX4_bears_21 1 rfl rfl ?_
      refine G_getR C WM12 hb rfl rfl rfl rfl fX4_bears_71 dX4_bears_22 (fun b18 hb18 qb18 => ?_)
      refine A_iconst C dX4_bears_25 ?_
      refine G_iald C WM12 qb18 rfl rfl (by decide) (fun _ => rfl) (by omega) (by omega) dX4_bears_26 (fun z19 ez19 lz19 uz19 => ?_)
      refine A_aloadn C dX4_bears_27 0 rfl rfl ?_
      refine G_getR C WM12 ha rfl rfl rfl rfl fX4_bears_11 dX4_bears_28 (fun b20 hb20 qb20 => ?_)
      refine A_aloadn C dX4_bears_31 1 rfl rfl ?_
      refine G_getI C WM12 hb rfl rfl rfl rfl rfl fX4_bears_74 rfl dX4_bears_32 (fun z21 ez21 lz21 uz21 => ?_)
      refine G_aald C WM12 qb20 (by omega) (by omega) dX4_bears_35 (fun b22 hb22 qb22 => ?_)
      refine G_getI C WM12 qb22 rfl rfl rfl rfl rfl fX4_bears_59 rfl dX4_bears_36 (fun z23 ez23 lz23 uz23 => ?_)
      refine A_icmpeq C 44 dX4_bears_39 (by decide) (by omega) (by omega) (fun c24 => ?_) (fun c24 => ?_)
      · skip
        refine A_aloadn C dX4_bears_44 1 rfl rfl ?_
        refine G_getR C WM12 hb rfl rfl rfl rfl fX4_bears_71 dX4_bears_45 (fun b25 hb25 qb25 => ?_)
        refine A_aloadn C dX4_bears_48 1 rfl rfl ?_
        refine G_getI C WM12 hb rfl rfl rfl rfl rfl fX4_bears_62 rfl dX4_bears_49 (fun z26 ez26 lz26 uz26 => ?_)
        refine A_iconst C dX4_bears_52 ?_
        refine A_isub C dX4_bears_53 ?_
        refine G_iald C WM12 qb25 rfl rfl (by decide) (fun _ => rfl) (by omega) (by omega) dX4_bears_54 (fun z27 ez27 lz27 uz27 => ?_)
        refine A_aloadn C dX4_bears_55 0 rfl rfl ?_
        refine G_getR C WM12 ha rfl rfl rfl rfl fX4_bears_11 dX4_bears_56 (fun b28 hb28 qb28 => ?_)
        refine A_aloadn C dX4_bears_59 1 rfl rfl ?_
        refine A_callV C (n := 0) (st := [.ref b28, .int (iI z27)]) (kX5_end_20 hb) gX4_bears_X5_end rfl (by decide +kernel) ⟨Nat.le_of_ble_eq_true rfl, Nat.le_of_ble_eq_true rfl⟩ hb rfl rfl rfl rfl (Nat.le_of_ble_eq_true rfl) dX4_bears_60 rfl WM12 (fun r29 M30 h31 => ?_)
        obtain ⟨z33, rfl, lz33, uz33, WM30, FM30, xx32⟩ := h31
        have EM30 := Fr.tr EM12 (FM30.mono (c2 := [8, 10, 11]) rfl)
        have tM30b1 := congrFun (FM30 b (by rw [hb]; rfl)).1 1
        have tM30b2 := congrFun (FM30 b (by rw [hb]; rfl)).1 2
        refine A_st (st' := [.int (iI z33), .ref b28, .int (iI z27)]) rfl ?_
        refine A_iconst C dX4_bears_63 ?_
        refine A_isub C dX4_bears_64 ?_
        refine G_aald C WM30 qb28 (by omega) (by omega) dX4_bears_65 (fun b34 hb34 qb34 => ?_)
        refine G_getI C WM30 qb34 rfl rfl rfl rfl rfl fX4_bears_59 rfl dX4_bears_66 (fun z35 ez35 lz35 uz35 => ?_)
        refine A_icmpeq C 74 dX4_bears_69 (by decide) (by omega) (by omega) (fun c36 => ?_) (fun c36 => ?_)
        · skip
          refine A_iconst C dX4_bears_74 ?_
          refine A_istoren (lv' := [(2, .int (iI 0)), (0, .ref a), (1, .ref b)]) C dX4_bears_75 rfl (by decide) rfl ?_
          refine A_pick [1, 2, 0] rfl ?_
          exact lpX4_bears_76 C  ha hb ((14 - (0 : Int)).toNat + 1) 0 M30 (by omega) (by omega) WM30 EM30
        · skip
          refine A_iconst C dX4_bears_72 ?_
          exact A_zret C (by omega) dX4_bears_73 ⟨0, rfl, by omega, by omega, WM30, EM30⟩
      · skip
        refine A_iconst C dX4_bears_42 ?_
        exact A_zret C (by omega) dX4_bears_43 ⟨0, rfl, by omega, by omega, WM12, EM12⟩
    · skip
      refine A_iconst C dX4_bears_19 ?_
      exact A_zret C (by omega) dX4_bears_20 ⟨0, rfl, by omega, by omega, WM12, EM12⟩

theorem uX4_holdsAlong_6_20_5 : ∀ w ∈ u_ws RX5 TX5 3, w ∈ wsX4_holdsAlong := by decide +kernel
theorem fX4_holdsAlong_6_20_62 : Fl RX4 wsX4_holdsAlong 5 2 62 RX5 TX5 3 := ⟨rfl, by decide, uX4_holdsAlong_6_20_5, by decide +kernel⟩
set_option maxHeartbeats 4000000 in
theorem lpX4_holdsAlong_6_20_5 {p : Program} {l : Launch} {e : Env} {s : State} {m : MethodId} {args : Array Value} {below : List Frame} {meth : Method} {c : Code} {G : xG} (C : Cx p s m args meth c G cX4_holdsAlong 5 RX4 wsX4_holdsAlong (some .long))  {a : Nat} (ha : kd a = 6) {b : Nat} (hb : kd b = 20) {M0 : Mem} : ∀ (n : Nat) (v2 v4 : Int) (M : Mem), (14 - v4).toNat < n → (r64 v2 ∧ 0 ≤ v4 ∧ v4 ≤ 13 ∧ M.1 b 1 + M.1 b 2 ≤ 13) → WF M → Fr [8, 10, 11] M0 M → AW p l e (rmD 5) s m args below meth c G 5 (QQ G below args s ((fun M r M' => ∃ z : Int, r = some (.long (lL z)) ∧ r64 z ∧ WF M' ∧ Fr [8, 10, 11] M M') M0)) M 5 [(0, .ref a), (1, .ref b), (2, .long (lL v2)), (4, .int (iI v4))] [] := by
  intro n
  induction n with
  | zero => intro v2 v4 M hn; exact absurd hn (Nat.not_lt_zero _)
  | succ n ih =>
    intro v2 v4 M hn hi W E
    refine A_iload C dX4_holdsAlong_5 3 rfl ?_
    refine A_iconst C dX4_holdsAlong_7 ?_
    refine A_iadd C dX4_holdsAlong_8 ?_
    refine A_aloadn C dX4_holdsAlong_9 1 rfl rfl ?_
    refine G_getI C W hb rfl rfl rfl rfl rfl fX4_holdsAlong_6_20_62 rfl dX4_holdsAlong_10 (fun z1 ez1 lz1 uz1 => ?_)
    refine A_icmpge C 33 dX4_holdsAlong_13 (by decide) (by omega) (by omega) (fun c2 => ?_) (fun c2 => ?_)
    · skip
      refine A_lloadn C dX4_holdsAlong_33 2 rfl rfl ?_
      exact A_lret C dX4_holdsAlong_34 ⟨v2, rfl, by omega, W, E⟩
    · skip
      refine A_lloadn C dX4_holdsAlong_16 2 rfl rfl ?_
      refine A_aloadn C dX4_holdsAlong_17 0 rfl rfl ?_
      refine A_aloadn C dX4_holdsAlong_18 1 rfl rfl ?_
      refine A_iload C dX4_holdsAlong_19 3 rfl ?_
      refine A_callV C (n := 2) (st := [.long (lL v2)]) (kX4_holdsOfPart_6_20 ha hb (by omega)) gX4_holdsAlong_X4_holdsOfPart rfl (by decide +kernel) ⟨Nat.le_of_ble_eq_true rfl, Nat.le_of_ble_eq_true rfl⟩ ha rfl rfl rfl rfl (Nat.le_of_ble_eq_true rfl) dX4_holdsAlong_21 rfl ⟨W, by omega⟩ (fun r3 M4 h5 => ?_)
      obtain ⟨z7, rfl, lz7, uz7, WM4, FM4⟩ := h5
      have EM4 := Fr.tr E (FM4.mono (c2 := [8, 10, 11]) rfl)
      have tM4b1 := congrFun (FM4 b (by rw [hb]; rfl)).1 1
      have tM4b2 := congrFun (FM4 b (by rw [hb]; rfl)).1 2
      refine A_st (st' := [.int (iI z7), .long (lL v2)]) rfl ?_
      refine A_i2l C (by omega) dX4_holdsAlong_24 ?_
      refine A_ladd C dX4_holdsAlong_25 ?_
      refine A_topl (fun z8 rz8 ez8 => ?_)
      refine A_lstoren (lv' := [(2, .long (lL z8)), (0, .ref a), (1, .ref b), (4, .int (iI v4))]) C dX4_holdsAlong_26 rfl (by decide) rfl ?_
      refine A_iinc (lv' := [(4, .int (iI (v4 + 1))), (2, .long (lL z8)), (0, .ref a), (1, .ref b)]) C dX4_holdsAlong_27 3 rfl (by decide) rfl ?_
      refine A_goto C 5 dX4_holdsAlong_30 (by decide) ?_
      refine A_pick [2, 3, 1, 0] rfl ?_
      exact ih z8 (v4 + 1) M4 (by omega) (by omega) WM4 EM4
set_option maxHeartbeats 4000000 in
theorem kX4_holdsAlong_6_20  {a : Nat} (ha : kd a = 6) {b : Nat} (hb : kd b = 20) : Ct yX4_holdsAlong wsX4_holdsAlong 5 [.ref a, .ref b] (fun M => WF M ∧ (M.1 b 1 + M.1 b 2 ≤ 13)) (fun M r M' => ∃ z : Int, r = some (.long (lL z)) ∧ r64 z ∧ WF M' ∧ Fr [8, 10, 11] M M') := by
  refine Ct_of (cc := cX4_holdsAlong) (nL := 5) (rt := (some .long)) (own := RX4) rfl (by decide) rfl (Nat.le_of_ble_eq_true rfl) ?_
  intro p l e s m args below meth c G M0 C W
  obtain ⟨W, hM⟩ := W
  have E : Fr [8, 10, 11] M0 M0 := Fr.rf
  refine A_lv (lv' := [(0, .ref a), (1, .ref b)]) rfl ?_
  refine A_lconst0 C dX4_holdsAlong_0 ?_
  refine A_lstoren (lv' := [(2, .long (lL 0)), (0, .ref a), (1, .ref b)]) C dX4_holdsAlong_1 rfl (by decide) rfl ?_
  refine A_iconst C dX4_holdsAlong_2 ?_
  refine A_istore (lv' := [(4, .int (iI 0)), (2, .long (lL 0)), (0, .ref a), (1, .ref b)]) C dX4_holdsAlong_3 (by decide) rfl ?_
  refine A_pick [2, 3, 1, 0] rfl ?_
  exact lpX4_holdsAlong_6_20_5 C  ha hb ((14 - (0 : Int)).toNat + 1) 0 0 M0 (by omega) (by omega) W E

theorem uX4_holdsAlong_G_21_5 : ∀ w ∈ u_ws RX5 TX5 3, w ∈ wsX4_holdsAlong := by decide +kernel
theorem fX4_holdsAlong_G_21_62 : Fl RX4 wsX4_holdsAlong 5 2 62 RX5 TX5 3 := ⟨rfl, by decide, uX4_holdsAlong_G_21_5, by decide +kernel⟩
set_option maxHeartbeats 4000000 in
theorem lpX4_holdsAlong_G_21_5 {p : Program} {l : Launch} {e : Env} {s : State} {m : MethodId} {args : Array Value} {below : List Frame} {meth : Method} {c : Code} {G : xG} (C : Cx p s m args meth c G cX4_holdsAlong 5 RX4 wsX4_holdsAlong (some .long))  {a : Nat} (ha : (kd a = 6 ∨ kd a = 12)) {b : Nat} (hb : kd b = 21) {M0 : Mem} : ∀ (n : Nat) (v2 v4 : Int) (M : Mem), (14 - v4).toNat < n → (r64 v2 ∧ 0 ≤ v4 ∧ v4 ≤ 13 ∧ M.1 b 1 + M.1 b 2 ≤ 13) → WF M → Fr [8, 10, 11] M0 M → AW p l e (rmD 5) s m args below meth c G 5 (QQ G below args s ((fun M r M' => ∃ z : Int, r = some (.long (lL z)) ∧ r64 z ∧ WF M' ∧ Fr [8, 10, 11] M M') M0)) M 5 [(0, .ref a), (1, .ref b), (2, .long (lL v2)), (4, .int (iI v4))] [] := by
  intro n
  induction n with
  | zero => intro v2 v4 M hn; exact absurd hn (Nat.not_lt_zero _)
  | succ n ih =>
    intro v2 v4 M hn hi W E
    refine A_iload C dX4_holdsAlong_5 3 rfl ?_
    refine A_iconst C dX4_holdsAlong_7 ?_
    refine A_iadd C dX4_holdsAlong_8 ?_
    refine A_aloadn C dX4_holdsAlong_9 1 rfl rfl ?_
    refine G_getI C W hb rfl rfl rfl rfl rfl fX4_holdsAlong_G_21_62 rfl dX4_holdsAlong_10 (fun z1 ez1 lz1 uz1 => ?_)
    refine A_icmpge C 33 dX4_holdsAlong_13 (by decide) (by omega) (by omega) (fun c2 => ?_) (fun c2 => ?_)
    · skip
      refine A_lloadn C dX4_holdsAlong_33 2 rfl rfl ?_
      exact A_lret C dX4_holdsAlong_34 ⟨v2, rfl, by omega, W, E⟩
    · skip
      refine A_lloadn C dX4_holdsAlong_16 2 rfl rfl ?_
      refine A_aloadn C dX4_holdsAlong_17 0 rfl rfl ?_
      refine A_aloadn C dX4_holdsAlong_18 1 rfl rfl ?_
      refine A_iload C dX4_holdsAlong_19 3 rfl ?_
      refine gr_callV C (n := 2) (st := [.long (lL v2)]) (kX4_holdsOfPart_G_21 ha hb (by omega)) gX4_holdsAlong_X4_holdsOfPart rfl (by decide +kernel) ⟨Nat.le_of_ble_eq_true rfl, Nat.le_of_ble_eq_true rfl⟩ ha rfl rfl (Nat.le_of_ble_eq_true rfl) dX4_holdsAlong_21 rfl ⟨W, by omega⟩ (fun r3 M4 h5 => ?_)
      obtain ⟨z7, rfl, lz7, uz7, WM4, FM4⟩ := h5
      have EM4 := Fr.tr E (FM4.mono (c2 := [8, 10, 11]) rfl)
      have tM4b1 := congrFun (FM4 b (by rw [hb]; rfl)).1 1
      have tM4b2 := congrFun (FM4 b (by rw [hb]; rfl)).1 2
      refine A_st (st' := [.int (iI z7), .long (lL v2)]) rfl ?_
      refine A_i2l C (by omega) dX4_holdsAlong_24 ?_
      refine A_ladd C dX4_holdsAlong_25 ?_
      refine A_topl (fun z8 rz8 ez8 => ?_)
      refine A_lstoren (lv' := [(2, .long (lL z8)), (0, .ref a), (1, .ref b), (4, .int (iI v4))]) C dX4_holdsAlong_26 rfl (by decide) rfl ?_
      refine A_iinc (lv' := [(4, .int (iI (v4 + 1))), (2, .long (lL z8)), (0, .ref a), (1, .ref b)]) C dX4_holdsAlong_27 3 rfl (by decide) rfl ?_
      refine A_goto C 5 dX4_holdsAlong_30 (by decide) ?_
      refine A_pick [2, 3, 1, 0] rfl ?_
      exact ih z8 (v4 + 1) M4 (by omega) (by omega) WM4 EM4
set_option maxHeartbeats 4000000 in
theorem kX4_holdsAlong_G_21  {a : Nat} (ha : (kd a = 6 ∨ kd a = 12)) {b : Nat} (hb : kd b = 21) : Ct yX4_holdsAlong wsX4_holdsAlong 5 [.ref a, .ref b] (fun M => WF M ∧ (M.1 b 1 + M.1 b 2 ≤ 13)) (fun M r M' => ∃ z : Int, r = some (.long (lL z)) ∧ r64 z ∧ WF M' ∧ Fr [8, 10, 11] M M') := by
  refine Ct_of (cc := cX4_holdsAlong) (nL := 5) (rt := (some .long)) (own := RX4) rfl (by decide) rfl (Nat.le_of_ble_eq_true rfl) ?_
  intro p l e s m args below meth c G M0 C W
  obtain ⟨W, hM⟩ := W
  have E : Fr [8, 10, 11] M0 M0 := Fr.rf
  refine A_lv (lv' := [(0, .ref a), (1, .ref b)]) rfl ?_
  refine A_lconst0 C dX4_holdsAlong_0 ?_
  refine A_lstoren (lv' := [(2, .long (lL 0)), (0, .ref a), (1, .ref b)]) C dX4_holdsAlong_1 rfl (by decide) rfl ?_
  refine A_iconst C dX4_holdsAlong_2 ?_
  refine A_istore (lv' := [(4, .int (iI 0)), (2, .long (lL 0)), (0, .ref a), (1, .ref b)]) C dX4_holdsAlong_3 (by decide) rfl ?_
  refine A_pick [2, 3, 1, 0] rfl ?_
  exact lpX4_holdsAlong_G_21_5 C  ha hb ((14 - (0 : Int)).toNat + 1) 0 0 M0 (by omega) (by omega) W E

theorem uX4_drivesAlong_6_20_5 : ∀ w ∈ u_ws RX5 TX5 3, w ∈ wsX4_drivesAlong := by decide +kernel
theorem uX4_drivesAlong_6_20_4 : ∀ w ∈ u_ws RX4 TX4 2, w ∈ wsX4_drivesAlong := by decide +kernel
theorem fX4_drivesAlong_6_20_62 : Fl RX4 wsX4_drivesAlong 5 2 62 RX5 TX5 3 := ⟨rfl, by decide, uX4_drivesAlong_6_20_5, by decide +kernel⟩
theorem fX4_drivesAlong_6_20_11 : Fl RX4 wsX4_drivesAlong 4 0 11 RX4 TX4 2 := ⟨rfl, by decide, uX4_drivesAlong_6_20_4, by decide +kernel⟩
theorem fX4_drivesAlong_6_20_74 : Fl RX4 wsX4_drivesAlong 5 1 74 RX5 TX5 3 := ⟨rfl, by decide, uX4_drivesAlong_6_20_5, by decide +kernel⟩
theorem fX4_drivesAlong_6_20_71 : Fl RX4 wsX4_drivesAlong 5 0 71 RX5 TX5 3 := ⟨rfl, by decide, uX4_drivesAlong_6_20_5, by decide +kernel⟩
set_option maxHeartbeats 4000000 in
theorem lpX4_drivesAlong_6_20_5 {p : Program} {l : Launch} {e : Env} {s : State} {m : MethodId} {args : Array Value} {below : List Frame} {meth : Method} {c : Code} {G : xG} (C : Cx p s m args meth c G cX4_drivesAlong 7 RX4 wsX4_drivesAlong (some .long))  {a : Nat} (ha : kd a = 6) {b : Nat} (hb : kd b = 20) {M0 : Mem} : ∀ (n : Nat) (v2 v4 : Int) (M : Mem), (14 - v4).toNat < n → (r64 v2 ∧ 0 ≤ v4 ∧ v4 ≤ 13 ∧ M.1 b 1 + M.1 b 2 ≤ 13) → WF M → Fr [8, 10, 11] M0 M → AW p l e (rmD 5) s m args below meth c G 7 (QQ G below args s ((fun M r M' => ∃ z : Int, r = some (.long (lL z)) ∧ r64 z ∧ WF M' ∧ Fr [8, 10, 11] M M') M0)) M 5 [(0, .ref a), (1, .ref b), (2, .long (lL v2)), (4, .int (iI v4))] [] := by
  intro n
  induction n with
  | zero => intro v2 v4 M hn; exact absurd hn (Nat.not_lt_zero _)
  | succ n ih =>
    intro v2 v4 M hn hi W E
    refine A_iload C dX4_drivesAlong_5 3 rfl ?_
    refine A_iconst C dX4_drivesAlong_7 ?_
    refine A_iadd C dX4_drivesAlong_8 ?_
    refine A_aloadn C dX4_drivesAlong_9 1 rfl rfl ?_
    refine G_getI C W hb rfl rfl rfl rfl rfl fX4_drivesAlong_6_20_62 rfl dX4_drivesAlong_10 (fun z1 ez1 lz1 uz1 => ?_)
    refine A_icmpge C 90 dX4_drivesAlong_13 (by decide) (by omega) (by omega) (fun c2 => ?_) (fun c2 => ?_)
    · skip
      refine A_lloadn C dX4_drivesAlong_90 2 rfl rfl ?_
      exact A_lret C dX4_drivesAlong_91 ⟨v2, rfl, by omega, W, E⟩
    · skip
      refine A_aloadn C dX4_drivesAlong_16 0 rfl rfl ?_
      refine G_getR C W ha rfl rfl rfl rfl fX4_drivesAlong_6_20_11 dX4_drivesAlong_17 (fun b3 hb3 qb3 => ?_)
      refine A_aloadn C dX4_drivesAlong_20 1 rfl rfl ?_
      refine G_getI C W hb rfl rfl rfl rfl rfl fX4_drivesAlong_6_20_74 rfl dX4_drivesAlong_21 (fun z4 ez4 lz4 uz4 => ?_)
      refine A_iload C dX4_drivesAlong_24 3 rfl ?_
      refine A_iadd C dX4_drivesAlong_26 ?_
      refine G_aald C W qb3 (by omega) (by omega) dX4_drivesAlong_27 (fun b5 hb5 qb5 => ?_)
      refine A_astore (lv' := [(5, .ref b5), (0, .ref a), (1, .ref b), (2, .long (lL v2)), (4, .int (iI v4))]) C dX4_drivesAlong_28 (by decide) rfl ?_
      refine A_aload C dX4_drivesAlong_30 0 rfl ?_
      refine A_callV C (n := 0) (st := []) (kX1_reckon qb5) gX4_drivesAlong_X1_reckon rfl (by decide +kernel) ⟨Nat.le_of_ble_eq_true rfl, Nat.le_of_ble_eq_true rfl⟩ qb5 rfl rfl rfl rfl (Nat.le_of_ble_eq_true rfl) dX4_drivesAlong_32 rfl W (fun r6 M7 h8 => ?_)
      obtain ⟨rfl, WM7, FM7⟩ := h8
      have EM7 := Fr.tr E (FM7.mono (c2 := [8, 10, 11]) rfl)
      have tM7b1 := congrFun (FM7 b (by rw [hb]; rfl)).1 1
      have tM7b2 := congrFun (FM7 b (by rw [hb]; rfl)).1 2
      refine A_st (st' := []) rfl ?_
      refine A_aloadn C dX4_drivesAlong_35 2 rfl rfl ?_
      refine G_getR C WM7 hb rfl rfl rfl rfl fX4_drivesAlong_6_20_71 dX4_drivesAlong_36 (fun b10 hb10 qb10 => ?_)
      refine A_iload C dX4_drivesAlong_39 4 rfl ?_
      refine G_iald C WM7 qb10 rfl rfl (by decide) (fun _ => rfl) (by omega) (by omega) dX4_drivesAlong_41 (fun z11 ez11 lz11 uz11 => ?_)
      refine A_aloadn C dX4_drivesAlong_42 2 rfl rfl ?_
      refine G_getR C WM7 hb rfl rfl rfl rfl fX4_drivesAlong_6_20_71 dX4_drivesAlong_43 (fun b12 hb12 qb12 => ?_)
      refine A_iload C dX4_drivesAlong_46 4 rfl ?_
      refine A_iconst C dX4_drivesAlong_48 ?_
      refine A_iadd C dX4_drivesAlong_49 ?_
      refine G_iald C WM7 qb12 rfl rfl (by decide) (fun _ => rfl) (by omega) (by omega) dX4_drivesAlong_50 (fun z13 ez13 lz13 uz13 => ?_)
      refine A_max C (by omega) (by omega) (by decide +kernel) (by decide +kernel) (by decide +kernel) (by decide +kernel) (Nat.le_of_ble_eq_true rfl) (Nat.le_of_ble_eq_true rfl) dX4_drivesAlong_51 (fun z14 ez14 lz14 uz14 => ?_)
      refine A_istore (lv' := [(6, .int (iI z14)), (5, .ref b5), (0, .ref a), (1, .ref b), (2, .long (lL v2)), (4, .int (iI v4))]) C dX4_drivesAlong_54 (by decide) rfl ?_
      refine A_lloadn C dX4_drivesAlong_56 4 rfl rfl ?_
      refine A_aload C dX4_drivesAlong_57 1 rfl ?_
      refine A_iload C dX4_drivesAlong_59 0 rfl ?_
      refine A_aloadn C dX4_drivesAlong_61 3 rfl rfl ?_
      refine G_getR C WM7 hb rfl rfl rfl rfl fX4_drivesAlong_6_20_71 dX4_drivesAlong_62 (fun b15 hb15 qb15 => ?_)
      refine A_iload C dX4_drivesAlong_65 5 rfl ?_
      refine G_iald C WM7 qb15 rfl rfl (by decide) (fun _ => rfl) (by omega) (by omega) dX4_drivesAlong_67 (fun z16 ez16 lz16 uz16 => ?_)
      refine A_aloadn C dX4_drivesAlong_68 3 rfl rfl ?_
      refine G_getR C WM7 hb rfl rfl rfl rfl fX4_drivesAlong_6_20_71 dX4_drivesAlong_69 (fun b17 hb17 qb17 => ?_)
      refine A_iload C dX4_drivesAlong_72 5 rfl ?_
      refine A_iconst C dX4_drivesAlong_74 ?_
      refine A_iadd C dX4_drivesAlong_75 ?_
      refine G_iald C WM7 qb17 rfl rfl (by decide) (fun _ => rfl) (by omega) (by omega) dX4_drivesAlong_76 (fun z18 ez18 lz18 uz18 => ?_)
      refine A_isub C dX4_drivesAlong_77 ?_
      refine A_callV C (n := 2) (st := [.long (lL v2)]) (kX1_drivesFrom qb5 (by omega) (by omega)) gX4_drivesAlong_X1_drivesFrom rfl (by decide +kernel) ⟨Nat.le_of_ble_eq_true rfl, Nat.le_of_ble_eq_true rfl⟩ qb5 rfl rfl rfl rfl (Nat.le_of_ble_eq_true rfl) dX4_drivesAlong_78 rfl WM7 (fun r19 M20 h21 => ?_)
      obtain ⟨z23, rfl, lz23, uz23, WM20, FM20⟩ := h21
      have EM20 := Fr.tr EM7 (FM20.mono (c2 := [8, 10, 11]) rfl)
      have tM20b1 := congrFun (FM20 b (by rw [hb]; rfl)).1 1
      have tM20b2 := congrFun (FM20 b (by rw [hb]; rfl)).1 2
      refine A_st (st' := [.int (iI z23), .long (lL v2)]) rfl ?_
      refine A_i2l C (by omega) dX4_drivesAlong_81 ?_
      refine A_ladd C dX4_drivesAlong_82 ?_
      refine A_topl (fun z24 rz24 ez24 => ?_)
      refine A_lstoren (lv' := [(2, .long (lL z24)), (6, .int (iI z14)), (5, .ref b5), (0, .ref a), (1, .ref b), (4, .int (iI v4))]) C dX4_drivesAlong_83 rfl (by decide) rfl ?_
      refine A_iinc (lv' := [(4, .int (iI (v4 + 1))), (2, .long (lL z24)), (6, .int (iI z14)), (5, .ref b5), (0, .ref a), (1, .ref b)]) C dX4_drivesAlong_84 5 rfl (by decide) rfl ?_
      refine A_goto C 5 dX4_drivesAlong_87 (by decide) ?_
      refine A_pick [4, 5, 1, 0] rfl ?_
      exact ih z24 (v4 + 1) M20 (by omega) (by omega) WM20 EM20
set_option maxHeartbeats 4000000 in
theorem kX4_drivesAlong_6_20  {a : Nat} (ha : kd a = 6) {b : Nat} (hb : kd b = 20) : Ct yX4_drivesAlong wsX4_drivesAlong 5 [.ref a, .ref b] (fun M => WF M ∧ (M.1 b 1 + M.1 b 2 ≤ 13)) (fun M r M' => ∃ z : Int, r = some (.long (lL z)) ∧ r64 z ∧ WF M' ∧ Fr [8, 10, 11] M M') := by
  refine Ct_of (cc := cX4_drivesAlong) (nL := 7) (rt := (some .long)) (own := RX4) rfl (by decide) rfl (Nat.le_of_ble_eq_true rfl) ?_
  intro p l e s m args below meth c G M0 C W
  obtain ⟨W, hM⟩ := W
  have E : Fr [8, 10, 11] M0 M0 := Fr.rf
  refine A_lv (lv' := [(0, .ref a), (1, .ref b)]) rfl ?_
  refine A_lconst0 C dX4_drivesAlong_0 ?_
  refine A_lstoren (lv' := [(2, .long (lL 0)), (0, .ref a), (1, .ref b)]) C dX4_drivesAlong_1 rfl (by decide) rfl ?_
  refine A_iconst C dX4_drivesAlong_2 ?_
  refine A_istore (lv' := [(4, .int (iI 0)), (2, .long (lL 0)), (0, .ref a), (1, .ref b)]) C dX4_drivesAlong_3 (by decide) rfl ?_
  refine A_pick [2, 3, 1, 0] rfl ?_
  exact lpX4_drivesAlong_6_20_5 C  ha hb ((14 - (0 : Int)).toNat + 1) 0 0 M0 (by omega) (by omega) W E

theorem uX4_drivesAlong_G_21_5 : ∀ w ∈ u_ws RX5 TX5 3, w ∈ wsX4_drivesAlong := by decide +kernel
theorem uX4_drivesAlong_G_21_4 : ∀ w ∈ u_ws RX4 TX4 2, w ∈ wsX4_drivesAlong := by decide +kernel
theorem fX4_drivesAlong_G_21_62 : Fl RX4 wsX4_drivesAlong 5 2 62 RX5 TX5 3 := ⟨rfl, by decide, uX4_drivesAlong_G_21_5, by decide +kernel⟩
theorem fX4_drivesAlong_G_21_11 : Fl RX4 wsX4_drivesAlong 4 0 11 RX4 TX4 2 := ⟨rfl, by decide, uX4_drivesAlong_G_21_4, by decide +kernel⟩
theorem fX4_drivesAlong_G_21_74 : Fl RX4 wsX4_drivesAlong 5 1 74 RX5 TX5 3 := ⟨rfl, by decide, uX4_drivesAlong_G_21_5, by decide +kernel⟩
theorem fX4_drivesAlong_G_21_71 : Fl RX4 wsX4_drivesAlong 5 0 71 RX5 TX5 3 := ⟨rfl, by decide, uX4_drivesAlong_G_21_5, by decide +kernel⟩
set_option maxHeartbeats 4000000 in
theorem lpX4_drivesAlong_G_21_5 {p : Program} {l : Launch} {e : Env} {s : State} {m : MethodId} {args : Array Value} {below : List Frame} {meth : Method} {c : Code} {G : xG} (C : Cx p s m args meth c G cX4_drivesAlong 7 RX4 wsX4_drivesAlong (some .long))  {a : Nat} (ha : (kd a = 6 ∨ kd a = 12)) {b : Nat} (hb : kd b = 21) {M0 : Mem} : ∀ (n : Nat) (v2 v4 : Int) (M : Mem), (14 - v4).toNat < n → (r64 v2 ∧ 0 ≤ v4 ∧ v4 ≤ 13 ∧ M.1 b 1 + M.1 b 2 ≤ 13) → WF M → Fr [8, 10, 11] M0 M → AW p l e (rmD 5) s m args below meth c G 7 (QQ G below args s ((fun M r M' => ∃ z : Int, r = some (.long (lL z)) ∧ r64 z ∧ WF M' ∧ Fr [8, 10, 11] M M') M0)) M 5 [(0, .ref a), (1, .ref b), (2, .long (lL v2)), (4, .int (iI v4))] [] := by
  intro n
  induction n with
  | zero => intro v2 v4 M hn; exact absurd hn (Nat.not_lt_zero _)
  | succ n ih =>
    intro v2 v4 M hn hi W E
    refine A_iload C dX4_drivesAlong_5 3 rfl ?_
    refine A_iconst C dX4_drivesAlong_7 ?_
    refine A_iadd C dX4_drivesAlong_8 ?_
    refine A_aloadn C dX4_drivesAlong_9 1 rfl rfl ?_
    refine G_getI C W hb rfl rfl rfl rfl rfl fX4_drivesAlong_G_21_62 rfl dX4_drivesAlong_10 (fun z1 ez1 lz1 uz1 => ?_)
    refine A_icmpge C 90 dX4_drivesAlong_13 (by decide) (by omega) (by omega) (fun c2 => ?_) (fun c2 => ?_)
    · skip
      refine A_lloadn C dX4_drivesAlong_90 2 rfl rfl ?_
      exact A_lret C dX4_drivesAlong_91 ⟨v2, rfl, by omega, W, E⟩
    · skip
      refine A_aloadn C dX4_drivesAlong_16 0 rfl rfl ?_
      obtain ⟨b3, hb3, qb3⟩ := gr_cols W ha
      refine gr_getR C ha hb3 fX4_drivesAlong_G_21_11 dX4_drivesAlong_17 ?_
      refine A_aloadn C dX4_drivesAlong_20 1 rfl rfl ?_
      refine G_getI C W hb rfl rfl rfl rfl rfl fX4_drivesAlong_G_21_74 rfl dX4_drivesAlong_21 (fun z4 ez4 lz4 uz4 => ?_)
      refine A_iload C dX4_drivesAlong_24 3 rfl ?_
      refine A_iadd C dX4_drivesAlong_26 ?_
      refine G_aald C W qb3 (by omega) (by omega) dX4_drivesAlong_27 (fun b5 hb5 qb5 => ?_)
      refine A_astore (lv' := [(5, .ref b5), (0, .ref a), (1, .ref b), (2, .long (lL v2)), (4, .int (iI v4))]) C dX4_drivesAlong_28 (by decide) rfl ?_
      refine A_aload C dX4_drivesAlong_30 0 rfl ?_
      refine A_callV C (n := 0) (st := []) (kX1_reckon qb5) gX4_drivesAlong_X1_reckon rfl (by decide +kernel) ⟨Nat.le_of_ble_eq_true rfl, Nat.le_of_ble_eq_true rfl⟩ qb5 rfl rfl rfl rfl (Nat.le_of_ble_eq_true rfl) dX4_drivesAlong_32 rfl W (fun r6 M7 h8 => ?_)
      obtain ⟨rfl, WM7, FM7⟩ := h8
      have EM7 := Fr.tr E (FM7.mono (c2 := [8, 10, 11]) rfl)
      have tM7b1 := congrFun (FM7 b (by rw [hb]; rfl)).1 1
      have tM7b2 := congrFun (FM7 b (by rw [hb]; rfl)).1 2
      refine A_st (st' := []) rfl ?_
      refine A_aloadn C dX4_drivesAlong_35 2 rfl rfl ?_
      refine G_getR C WM7 hb rfl rfl rfl rfl fX4_drivesAlong_G_21_71 dX4_drivesAlong_36 (fun b10 hb10 qb10 => ?_)
      refine A_iload C dX4_drivesAlong_39 4 rfl ?_
      refine G_iald C WM7 qb10 rfl rfl (by decide) (fun _ => rfl) (by omega) (by omega) dX4_drivesAlong_41 (fun z11 ez11 lz11 uz11 => ?_)
      refine A_aloadn C dX4_drivesAlong_42 2 rfl rfl ?_
      refine G_getR C WM7 hb rfl rfl rfl rfl fX4_drivesAlong_G_21_71 dX4_drivesAlong_43 (fun b12 hb12 qb12 => ?_)
      refine A_iload C dX4_drivesAlong_46 4 rfl ?_
      refine A_iconst C dX4_drivesAlong_48 ?_
      refine A_iadd C dX4_drivesAlong_49 ?_
      refine G_iald C WM7 qb12 rfl rfl (by decide) (fun _ => rfl) (by omega) (by omega) dX4_drivesAlong_50 (fun z13 ez13 lz13 uz13 => ?_)
      refine A_max C (by omega) (by omega) (by decide +kernel) (by decide +kernel) (by decide +kernel) (by decide +kernel) (Nat.le_of_ble_eq_true rfl) (Nat.le_of_ble_eq_true rfl) dX4_drivesAlong_51 (fun z14 ez14 lz14 uz14 => ?_)
      refine A_istore (lv' := [(6, .int (iI z14)), (5, .ref b5), (0, .ref a), (1, .ref b), (2, .long (lL v2)), (4, .int (iI v4))]) C dX4_drivesAlong_54 (by decide) rfl ?_
      refine A_lloadn C dX4_drivesAlong_56 4 rfl rfl ?_
      refine A_aload C dX4_drivesAlong_57 1 rfl ?_
      refine A_iload C dX4_drivesAlong_59 0 rfl ?_
      refine A_aloadn C dX4_drivesAlong_61 3 rfl rfl ?_
      refine G_getR C WM7 hb rfl rfl rfl rfl fX4_drivesAlong_G_21_71 dX4_drivesAlong_62 (fun b15 hb15 qb15 => ?_)
      refine A_iload C dX4_drivesAlong_65 5 rfl ?_
      refine G_iald C WM7 qb15 rfl rfl (by decide) (fun _ => rfl) (by omega) (by omega) dX4_drivesAlong_67 (fun z16 ez16 lz16 uz16 => ?_)
      refine A_aloadn C dX4_drivesAlong_68 3 rfl rfl ?_
      refine G_getR C WM7 hb rfl rfl rfl rfl fX4_drivesAlong_G_21_71 dX4_drivesAlong_69 (fun b17 hb17 qb17 => ?_)
      refine A_iload C dX4_drivesAlong_72 5 rfl ?_
      refine A_iconst C dX4_drivesAlong_74 ?_
      refine A_iadd C dX4_drivesAlong_75 ?_
      refine G_iald C WM7 qb17 rfl rfl (by decide) (fun _ => rfl) (by omega) (by omega) dX4_drivesAlong_76 (fun z18 ez18 lz18 uz18 => ?_)
      refine A_isub C dX4_drivesAlong_77 ?_
      refine A_callV C (n := 2) (st := [.long (lL v2)]) (kX1_drivesFrom qb5 (by omega) (by omega)) gX4_drivesAlong_X1_drivesFrom rfl (by decide +kernel) ⟨Nat.le_of_ble_eq_true rfl, Nat.le_of_ble_eq_true rfl⟩ qb5 rfl rfl rfl rfl (Nat.le_of_ble_eq_true rfl) dX4_drivesAlong_78 rfl WM7 (fun r19 M20 h21 => ?_)
      obtain ⟨z23, rfl, lz23, uz23, WM20, FM20⟩ := h21
      have EM20 := Fr.tr EM7 (FM20.mono (c2 := [8, 10, 11]) rfl)
      have tM20b1 := congrFun (FM20 b (by rw [hb]; rfl)).1 1
      have tM20b2 := congrFun (FM20 b (by rw [hb]; rfl)).1 2
      refine A_st (st' := [.int (iI z23), .long (lL v2)]) rfl ?_
      refine A_i2l C (by omega) dX4_drivesAlong_81 ?_
      refine A_ladd C dX4_drivesAlong_82 ?_
      refine A_topl (fun z24 rz24 ez24 => ?_)
      refine A_lstoren (lv' := [(2, .long (lL z24)), (6, .int (iI z14)), (5, .ref b5), (0, .ref a), (1, .ref b), (4, .int (iI v4))]) C dX4_drivesAlong_83 rfl (by decide) rfl ?_
      refine A_iinc (lv' := [(4, .int (iI (v4 + 1))), (2, .long (lL z24)), (6, .int (iI z14)), (5, .ref b5), (0, .ref a), (1, .ref b)]) C dX4_drivesAlong_84 5 rfl (by decide) rfl ?_
      refine A_goto C 5 dX4_drivesAlong_87 (by decide) ?_
      refine A_pick [4, 5, 1, 0] rfl ?_
      exact ih z24 (v4 + 1) M20 (by omega) (by omega) WM20 EM20
set_option maxHeartbeats 4000000 in
theorem kX4_drivesAlong_G_21  {a : Nat} (ha : (kd a = 6 ∨ kd a = 12)) {b : Nat} (hb : kd b = 21) : Ct yX4_drivesAlong wsX4_drivesAlong 5 [.ref a, .ref b] (fun M => WF M ∧ (M.1 b 1 + M.1 b 2 ≤ 13)) (fun M r M' => ∃ z : Int, r = some (.long (lL z)) ∧ r64 z ∧ WF M' ∧ Fr [8, 10, 11] M M') := by
  refine Ct_of (cc := cX4_drivesAlong) (nL := 7) (rt := (some .long)) (own := RX4) rfl (by decide) rfl (Nat.le_of_ble_eq_true rfl) ?_
  intro p l e s m args below meth c G M0 C W
  obtain ⟨W, hM⟩ := W
  have E : Fr [8, 10, 11] M0 M0 := Fr.rf
  refine A_lv (lv' := [(0, .ref a), (1, .ref b)]) rfl ?_
  refine A_lconst0 C dX4_drivesAlong_0 ?_
  refine A_lstoren (lv' := [(2, .long (lL 0)), (0, .ref a), (1, .ref b)]) C dX4_drivesAlong_1 rfl (by decide) rfl ?_
  refine A_iconst C dX4_drivesAlong_2 ?_
  refine A_istore (lv' := [(4, .int (iI 0)), (2, .long (lL 0)), (0, .ref a), (1, .ref b)]) C dX4_drivesAlong_3 (by decide) rfl ?_
  refine A_pick [2, 3, 1, 0] rfl ?_
  exact lpX4_drivesAlong_G_21_5 C  ha hb ((14 - (0 : Int)).toNat + 1) 0 0 M0 (by omega) (by omega) W E
end
section
theorem uX6_study_6_6 : ∀ w ∈ u_ws RX6 TX6 7, w ∈ wsX6_study := by decide +kernel
theorem fX6_study_6_33 : Fl RX6 wsX6_study 6 0 33 RX6 TX6 7 := ⟨rfl, by decide, uX6_study_6_6, by decide +kernel⟩
set_option maxHeartbeats 4000000 in
theorem kX6_study_6  {a : Nat} (ha : kd a = 17) {b : Nat} (hb : kd b = 6) : Ct yX6_study wsX6_study 1 [.ref a, .ref b] (fun M => WF M) (fun M r M' => r = none ∧ WF M' ∧ Fr [17] M M') := by
  refine Ct_of (cc := cX6_study) (nL := 2) (rt := none) (own := RX6) rfl (by decide) rfl (Nat.le_of_ble_eq_true rfl) ?_
  intro p l e s m args below meth c G M0 C W
  have E : Fr [17] M0 M0 := Fr.rf
  refine A_lv (lv' := [(0, .ref a), (1, .ref b)]) rfl ?_
  refine A_aloadn C dX6_study_0 0 rfl rfl ?_
  refine A_aloadn C dX6_study_1 1 rfl rfl ?_
  refine G_putR C W E ha (Or.inl hb) fX6_study_6_33 ⟨tyX6_ok, nmX6, rfl, by decide⟩ rfl rfl dX6_study_2 (fun M1 eM1 WM1 EM1 => ?_)
  exact A_vret C dX6_study_5 ⟨rfl, WM1, EM1⟩

theorem uX6_study_12_6 : ∀ w ∈ u_ws RX6 TX6 7, w ∈ wsX6_study := by decide +kernel
theorem fX6_study_12_33 : Fl RX6 wsX6_study 6 0 33 RX6 TX6 7 := ⟨rfl, by decide, uX6_study_12_6, by decide +kernel⟩
set_option maxHeartbeats 4000000 in
theorem kX6_study_12  {a : Nat} (ha : kd a = 17) {b : Nat} (hb : kd b = 12) : Ct yX6_study wsX6_study 1 [.ref a, .ref b] (fun M => WF M) (fun M r M' => r = none ∧ WF M' ∧ Fr [17] M M') := by
  refine Ct_of (cc := cX6_study) (nL := 2) (rt := none) (own := RX6) rfl (by decide) rfl (Nat.le_of_ble_eq_true rfl) ?_
  intro p l e s m args below meth c G M0 C W
  have E : Fr [17] M0 M0 := Fr.rf
  refine A_lv (lv' := [(0, .ref a), (1, .ref b)]) rfl ?_
  refine A_aloadn C dX6_study_0 0 rfl rfl ?_
  refine A_aloadn C dX6_study_1 1 rfl rfl ?_
  refine G_putR C W E ha (Or.inr hb) fX6_study_12_33 ⟨tyX6_ok, nmX6, rfl, by decide⟩ rfl rfl dX6_study_2 (fun M1 eM1 WM1 EM1 => ?_)
  exact A_vret C dX6_study_5 ⟨rfl, WM1, EM1⟩

theorem uX6_aim_6 : ∀ w ∈ u_ws RX6 TX6 7, w ∈ wsX6_aim := by decide +kernel
theorem fX6_aim_18 : Fl RX6 wsX6_aim 6 3 18 RX6 TX6 7 := ⟨rfl, by decide, uX6_aim_6, by decide +kernel⟩
theorem fX6_aim_22 : Fl RX6 wsX6_aim 6 4 22 RX6 TX6 7 := ⟨rfl, by decide, uX6_aim_6, by decide +kernel⟩
set_option maxHeartbeats 4000000 in
theorem kX6_aim  {a : Nat} (ha : kd a = 17) {x1 : Int} {x2 : Int} (hx1 : r64 x1) (hx2 : r64 x2) : Ct yX6_aim wsX6_aim 1 [.ref a, .long (lL x1), .long (lL x2)] (fun M => WF M) (fun M r M' => r = none ∧ WF M' ∧ Fr [17] M M') := by
  refine Ct_of (cc := cX6_aim) (nL := 5) (rt := none) (own := RX6) rfl (by decide) rfl (Nat.le_of_ble_eq_true rfl) ?_
  intro p l e s m args below meth c G M0 C W
  have E : Fr [17] M0 M0 := Fr.rf
  refine A_lv (lv' := [(0, .ref a), (1, .long (lL x1)), (3, .long (lL x2))]) rfl ?_
  refine A_aloadn C dX6_aim_0 0 rfl rfl ?_
  refine A_lloadn C dX6_aim_1 1 rfl rfl ?_
  refine G_putL C W E ha rfl rfl rfl fX6_aim_18 ⟨tyX6_ok, nmX6, rfl, by decide⟩ rfl rfl (by omega) dX6_aim_2 (fun M1 eM1 WM1 EM1 => ?_)
  refine A_aloadn C dX6_aim_5 0 rfl rfl ?_
  refine A_lloadn C dX6_aim_6 2 rfl rfl ?_
  refine G_putL C WM1 EM1 ha rfl rfl rfl fX6_aim_22 ⟨tyX6_ok, nmX6, rfl, by decide⟩ rfl rfl (by omega) dX6_aim_7 (fun M2 eM2 WM2 EM2 => ?_)
  exact A_vret C dX6_aim_10 ⟨rfl, WM2, EM2⟩

theorem uX6_clearRests_6 : ∀ w ∈ u_ws RX6 TX6 7, w ∈ wsX6_clearRests := by decide +kernel
theorem fX6_clearRests_9 : Fl RX6 wsX6_clearRests 6 1 9 RX6 TX6 7 := ⟨rfl, by decide, uX6_clearRests_6, by decide +kernel⟩
set_option maxHeartbeats 4000000 in
theorem lpX6_clearRests_2 {p : Program} {l : Launch} {e : Env} {s : State} {m : MethodId} {args : Array Value} {below : List Frame} {meth : Method} {c : Code} {G : xG} (C : Cx p s m args meth c G cX6_clearRests 3 RX6 wsX6_clearRests none)  {a : Nat} (ha : kd a = 17) {x1 : Int} (hx1 : (0 : Int) ≤ x1 ∧ x1 ≤ 12) {M0 : Mem} : ∀ (n : Nat) (v2 : Int) (M : Mem), (26 - v2).toNat < n → (0 ≤ v2 ∧ v2 ≤ 25) → WF M → Fr [18] M0 M → AW p l e (rmD 1) s m args below meth c G 3 (QQ G below args s ((fun M r M' => r = none ∧ WF M' ∧ Fr [18] M M') M0)) M 2 [(0, .ref a), (1, .int (iI x1)), (2, .int (iI v2))] [] := by
  intro n
  induction n with
  | zero => intro v2 M hn; exact absurd hn (Nat.not_lt_zero _)
  | succ n ih =>
    intro v2 M hn hi W E
    refine A_iloadn C dX6_clearRests_2 2 rfl rfl ?_
    refine A_bipush C dX6_clearRests_3 (by decide) ?_
    refine A_icmpge C 28 dX6_clearRests_5 (by decide) (by omega) (by omega) (fun c1 => ?_) (fun c1 => ?_)
    · skip
      exact A_vret C dX6_clearRests_28 ⟨rfl, W, E⟩
    · skip
      refine A_aloadn C dX6_clearRests_8 0 rfl rfl ?_
      refine G_getR C W ha rfl rfl rfl rfl fX6_clearRests_9 dX6_clearRests_9 (fun b2 hb2 qb2 => ?_)
      refine A_iloadn C dX6_clearRests_12 1 rfl rfl ?_
      refine A_bipush C dX6_clearRests_13 (by decide) ?_
      refine A_imul C dX6_clearRests_15 ?_
      refine A_iloadn C dX6_clearRests_16 2 rfl rfl ?_
      refine A_iadd C dX6_clearRests_17 ?_
      refine A_ldc2 C (index := 99) (v := 4611686018427387904) (z := 4611686018427387904) (by decide +kernel) (by decide +kernel) dX6_clearRests_18 ?_
      refine G_last C W E qb2 rfl rfl (by decide) rfl (by omega) (by omega) (by omega) dX6_clearRests_21 (fun M3 eM3 WM3 EM3 => ?_)
      refine A_iinc (lv' := [(2, .int (iI (v2 + 1))), (0, .ref a), (1, .int (iI x1))]) C dX6_clearRests_22 2 rfl (by decide) rfl ?_
      refine A_goto C 2 dX6_clearRests_25 (by decide) ?_
      refine A_pick [1, 2, 0] rfl ?_
      exact ih (v2 + 1) M3 (by omega) (by omega) WM3 EM3
set_option maxHeartbeats 4000000 in
theorem kX6_clearRests  {a : Nat} (ha : kd a = 17) {x1 : Int} (hx1 : (0 : Int) ≤ x1 ∧ x1 ≤ 12) : Ct yX6_clearRests wsX6_clearRests 1 [.ref a, .int (iI x1)] (fun M => WF M) (fun M r M' => r = none ∧ WF M' ∧ Fr [18] M M') := by
  refine Ct_of (cc := cX6_clearRests) (nL := 3) (rt := none) (own := RX6) rfl (by decide) rfl (Nat.le_of_ble_eq_true rfl) ?_
  intro p l e s m args below meth c G M0 C W
  have E : Fr [18] M0 M0 := Fr.rf
  refine A_lv (lv' := [(0, .ref a), (1, .int (iI x1))]) rfl ?_
  refine A_iconst C dX6_clearRests_0 ?_
  refine A_istoren (lv' := [(2, .int (iI 0)), (0, .ref a), (1, .int (iI x1))]) C dX6_clearRests_1 rfl (by decide) rfl ?_
  refine A_pick [1, 2, 0] rfl ?_
  exact lpX6_clearRests_2 C  ha hx1 ((26 - (0 : Int)).toNat + 1) 0 M0 (by omega) (by omega) W E

theorem uX6_allowEnd_6 : ∀ w ∈ u_ws RX6 TX6 7, w ∈ wsX6_allowEnd := by decide +kernel
theorem uX6_allowEnd_4 : ∀ w ∈ u_ws RX4 TX4 2, w ∈ wsX6_allowEnd := by decide +kernel
theorem uX6_allowEnd_1 : ∀ w ∈ u_ws RX1 TX1 9, w ∈ wsX6_allowEnd := by decide +kernel
theorem fX6_allowEnd_25 : Fl RX6 wsX6_allowEnd 6 5 25 RX6 TX6 7 := ⟨rfl, by decide, uX6_allowEnd_6, by decide +kernel⟩
theorem fX6_allowEnd_33 : Fl RX6 wsX6_allowEnd 6 0 33 RX6 TX6 7 := ⟨rfl, by decide, uX6_allowEnd_6, by decide +kernel⟩
theorem fX6_allowEnd_90 : Fl RX6 wsX6_allowEnd 4 0 90 RX4 TX4 2 := ⟨rfl, by decide, uX6_allowEnd_4, by decide +kernel⟩
theorem fX6_allowEnd_94 : Fl RX6 wsX6_allowEnd 1 1 94 RX1 TX1 9 := ⟨rfl, by decide, uX6_allowEnd_1, by decide +kernel⟩
theorem fX6_allowEnd_9 : Fl RX6 wsX6_allowEnd 6 1 9 RX6 TX6 7 := ⟨rfl, by decide, uX6_allowEnd_6, by decide +kernel⟩
theorem fX6_allowEnd_29 : Fl RX6 wsX6_allowEnd 6 6 29 RX6 TX6 7 := ⟨rfl, by decide, uX6_allowEnd_6, by decide +kernel⟩
set_option maxHeartbeats 4000000 in
theorem kX6_allowEnd  {a : Nat} (ha : kd a = 17) {x1 : Int} (hx1 : (0 : Int) ≤ x1 ∧ x1 ≤ 12) : Ct yX6_allowEnd wsX6_allowEnd 2 [.ref a, .int (iI x1)] (fun M => WF M) (fun M r M' => r = none ∧ WF M' ∧ Fr [18] M M') := by
  refine Ct_of (cc := cX6_allowEnd) (nL := 3) (rt := none) (own := RX6) rfl (by decide) rfl (Nat.le_of_ble_eq_true rfl) ?_
  intro p l e s m args below meth c G M0 C W
  have E : Fr [18] M0 M0 := Fr.rf
  refine A_lv (lv' := [(0, .ref a), (1, .int (iI x1))]) rfl ?_
  refine A_iloadn C dX6_allowEnd_0 1 rfl rfl ?_
  refine A_ifle C 55 dX6_allowEnd_1 (by decide) (by omega) (fun c1 => ?_) (fun c1 => ?_)
  · skip
    exact A_vret C dX6_allowEnd_55 ⟨rfl, W, E⟩
  · skip
    refine A_iloadn C dX6_allowEnd_4 1 rfl rfl ?_
    refine A_aloadn C dX6_allowEnd_5 0 rfl rfl ?_
    refine G_getI C W ha rfl rfl rfl rfl rfl fX6_allowEnd_25 rfl dX6_allowEnd_6 (fun z2 ez2 lz2 uz2 => ?_)
    refine A_icmpeq C 19 dX6_allowEnd_9 (by decide) (by omega) (by omega) (fun c3 => ?_) (fun c3 => ?_)
    · skip
      refine A_iloadn C dX6_allowEnd_19 1 rfl rfl ?_
      refine A_bipush C dX6_allowEnd_20 (by decide) ?_
      refine A_imul C dX6_allowEnd_22 ?_
      refine A_aloadn C dX6_allowEnd_23 0 rfl rfl ?_
      obtain ⟨b4, hb4, qb4⟩ := W.2.2.2 a ha
      refine A_getR C ha rfl rfl rfl hb4 fX6_allowEnd_33 dX6_allowEnd_24 ?_
      obtain ⟨b6, hb6, qb6⟩ := gr_cols W qb4
      refine gr_getR C qb4 hb6 fX6_allowEnd_90 dX6_allowEnd_27 ?_
      refine A_iloadn C dX6_allowEnd_30 1 rfl rfl ?_
      refine A_iconst C dX6_allowEnd_31 ?_
      refine A_isub C dX6_allowEnd_32 ?_
      refine G_aald C W qb6 (by omega) (by omega) dX6_allowEnd_33 (fun b7 hb7 qb7 => ?_)
      refine G_getI C W qb7 rfl rfl rfl rfl rfl fX6_allowEnd_94 rfl dX6_allowEnd_34 (fun z8 ez8 lz8 uz8 => ?_)
      refine A_iadd C dX6_allowEnd_37 ?_
      refine A_nami (fun z9 ez9 => ?_)
      refine A_istoren (lv' := [(2, .int (iI z9)), (0, .ref a), (1, .int (iI x1))]) C dX6_allowEnd_38 rfl (by decide) rfl ?_
      refine A_aloadn C dX6_allowEnd_39 1 rfl rfl ?_
      refine G_getR C W ha rfl rfl rfl rfl fX6_allowEnd_9 dX6_allowEnd_40 (fun b10 hb10 qb10 => ?_)
      refine A_iloadn C dX6_allowEnd_43 0 rfl rfl ?_
      refine A_aloadn C dX6_allowEnd_44 1 rfl rfl ?_
      refine G_getR C W ha rfl rfl rfl rfl fX6_allowEnd_9 dX6_allowEnd_45 (fun b11 hb11 qb11 => ?_)
      refine A_iloadn C dX6_allowEnd_48 0 rfl rfl ?_
      refine G_lald C W qb11 rfl rfl (by decide) (by omega) (by omega) dX6_allowEnd_49 (fun z12 ez12 rz12 => ?_)
      refine A_lconst0 C dX6_allowEnd_50 ?_
      refine A_minl C (by omega) (by omega) (by decide +kernel) (by decide +kernel) (by decide +kernel) (by decide +kernel) (Nat.le_of_ble_eq_true rfl) (Nat.le_of_ble_eq_true rfl) dX6_allowEnd_51 (fun z13 rz13 => ?_)
      refine G_last C W E qb10 rfl rfl (by decide) rfl (by omega) (by omega) (by omega) dX6_allowEnd_54 (fun M14 eM14 WM14 EM14 => ?_)
      exact A_vret C dX6_allowEnd_55 ⟨rfl, WM14, EM14⟩
    · skip
      refine A_aloadn C dX6_allowEnd_12 0 rfl rfl ?_
      refine G_getI C W ha rfl rfl rfl rfl rfl fX6_allowEnd_29 rfl dX6_allowEnd_13 (fun z15 ez15 lz15 uz15 => ?_)
      refine A_ifeq C 55 dX6_allowEnd_16 (by decide) (by omega) (fun c16 => ?_) (fun c16 => ?_)
      · skip
        exact A_vret C dX6_allowEnd_55 ⟨rfl, W, E⟩
      · skip
        refine A_iloadn C dX6_allowEnd_19 1 rfl rfl ?_
        refine A_bipush C dX6_allowEnd_20 (by decide) ?_
        refine A_imul C dX6_allowEnd_22 ?_
        refine A_aloadn C dX6_allowEnd_23 0 rfl rfl ?_
        obtain ⟨b17, hb17, qb17⟩ := W.2.2.2 a ha
        refine A_getR C ha rfl rfl rfl hb17 fX6_allowEnd_33 dX6_allowEnd_24 ?_
        obtain ⟨b19, hb19, qb19⟩ := gr_cols W qb17
        refine gr_getR C qb17 hb19 fX6_allowEnd_90 dX6_allowEnd_27 ?_
        refine A_iloadn C dX6_allowEnd_30 1 rfl rfl ?_
        refine A_iconst C dX6_allowEnd_31 ?_
        refine A_isub C dX6_allowEnd_32 ?_
        refine G_aald C W qb19 (by omega) (by omega) dX6_allowEnd_33 (fun b20 hb20 qb20 => ?_)
        refine G_getI C W qb20 rfl rfl rfl rfl rfl fX6_allowEnd_94 rfl dX6_allowEnd_34 (fun z21 ez21 lz21 uz21 => ?_)
        refine A_iadd C dX6_allowEnd_37 ?_
        refine A_nami (fun z22 ez22 => ?_)
        refine A_istoren (lv' := [(2, .int (iI z22)), (0, .ref a), (1, .int (iI x1))]) C dX6_allowEnd_38 rfl (by decide) rfl ?_
        refine A_aloadn C dX6_allowEnd_39 1 rfl rfl ?_
        refine G_getR C W ha rfl rfl rfl rfl fX6_allowEnd_9 dX6_allowEnd_40 (fun b23 hb23 qb23 => ?_)
        refine A_iloadn C dX6_allowEnd_43 0 rfl rfl ?_
        refine A_aloadn C dX6_allowEnd_44 1 rfl rfl ?_
        refine G_getR C W ha rfl rfl rfl rfl fX6_allowEnd_9 dX6_allowEnd_45 (fun b24 hb24 qb24 => ?_)
        refine A_iloadn C dX6_allowEnd_48 0 rfl rfl ?_
        refine G_lald C W qb24 rfl rfl (by decide) (by omega) (by omega) dX6_allowEnd_49 (fun z25 ez25 rz25 => ?_)
        refine A_lconst0 C dX6_allowEnd_50 ?_
        refine A_minl C (by omega) (by omega) (by decide +kernel) (by decide +kernel) (by decide +kernel) (by decide +kernel) (Nat.le_of_ble_eq_true rfl) (Nat.le_of_ble_eq_true rfl) dX6_allowEnd_51 (fun z26 rz26 => ?_)
        refine G_last C W E qb23 rfl rfl (by decide) rfl (by omega) (by omega) (by omega) dX6_allowEnd_54 (fun M27 eM27 WM27 EM27 => ?_)
        exact A_vret C dX6_allowEnd_55 ⟨rfl, WM27, EM27⟩

theorem uX6_better_6 : ∀ w ∈ u_ws RX6 TX6 7, w ∈ wsX6_better := by decide +kernel
theorem fX6_better_9 : Fl RX6 wsX6_better 6 1 9 RX6 TX6 7 := ⟨rfl, by decide, uX6_better_6, by decide +kernel⟩
set_option maxHeartbeats 4000000 in
theorem kX6_better  {a : Nat} (ha : kd a = 17) {x1 : Int} {x2 : Int} {x3 : Int} {x4 : Int} (hx1 : (0 : Int) ≤ x1 ∧ x1 ≤ 11) (hx2 : (0 : Int) ≤ x2 ∧ x2 ≤ 24) (hx3 : (0 : Int) ≤ x3 ∧ x3 ≤ 24) (hx4 : r64 x4) : Ct yX6_better wsX6_better 1 [.ref a, .int (iI x1), .int (iI x2), .int (iI x3), .long (lL x4)] (fun M => WF M) (fun M r M' => r = none ∧ WF M' ∧ Fr [18] M M') := by
  refine Ct_of (cc := cX6_better) (nL := 8) (rt := none) (own := RX6) rfl (by decide) rfl (Nat.le_of_ble_eq_true rfl) ?_
  intro p l e s m args below meth c G M0 C W
  have E : Fr [18] M0 M0 := Fr.rf
  refine A_lv (lv' := [(0, .ref a), (1, .int (iI x1)), (2, .int (iI x2)), (3, .int (iI x3)), (4, .long (lL x4))]) rfl ?_
  refine A_aloadn C dX6_better_0 0 rfl rfl ?_
  refine G_getR C W ha rfl rfl rfl rfl fX6_better_9 dX6_better_1 (fun b1 hb1 qb1 => ?_)
  refine A_iloadn C dX6_better_4 1 rfl rfl ?_
  refine A_iconst C dX6_better_5 ?_
  refine A_iadd C dX6_better_6 ?_
  refine A_bipush C dX6_better_7 (by decide) ?_
  refine A_imul C dX6_better_9 ?_
  refine A_iloadn C dX6_better_10 3 rfl rfl ?_
  refine A_iadd C dX6_better_11 ?_
  refine G_lald C W qb1 rfl rfl (by decide) (by omega) (by omega) dX6_better_12 (fun z2 ez2 rz2 => ?_)
  refine A_lstore (lv' := [(6, .long (lL z2)), (0, .ref a), (1, .int (iI x1)), (2, .int (iI x2)), (3, .int (iI x3)), (4, .long (lL x4))]) C dX6_better_13 (by decide) rfl ?_
  refine A_lload C dX6_better_15 0 rfl ?_
  refine A_ldc2 C (index := 99) (v := 4611686018427387904) (z := 4611686018427387904) (by decide +kernel) (by decide +kernel) dX6_better_17 ?_
  refine A_lcmp C (by omega) (by omega) dX6_better_20 (fun z3 cz3 => ?_)
  refine A_ifeq C 60 dX6_better_21 (by decide) (by omega) (fun c4 => ?_) (fun c4 => ?_)
  · skip
    exact A_vret C dX6_better_60 ⟨rfl, W, E⟩
  · skip
    refine A_lload C dX6_better_24 5 rfl ?_
    refine A_lload C dX6_better_26 0 rfl ?_
    refine A_ladd C dX6_better_28 ?_
    refine A_topl (fun z5 rz5 ez5 => ?_)
    refine A_aloadn C dX6_better_29 1 rfl rfl ?_
    refine G_getR C W ha rfl rfl rfl rfl fX6_better_9 dX6_better_30 (fun b6 hb6 qb6 => ?_)
    refine A_iloadn C dX6_better_33 2 rfl rfl ?_
    refine A_bipush C dX6_better_34 (by decide) ?_
    refine A_imul C dX6_better_36 ?_
    refine A_iloadn C dX6_better_37 3 rfl rfl ?_
    refine A_iadd C dX6_better_38 ?_
    refine G_lald C W qb6 rfl rfl (by decide) (by omega) (by omega) dX6_better_39 (fun z7 ez7 rz7 => ?_)
    refine A_lcmp C (by omega) (by omega) dX6_better_40 (fun z8 cz8 => ?_)
    refine A_ifge C 60 dX6_better_41 (by decide) (by omega) (fun c9 => ?_) (fun c9 => ?_)
    · skip
      exact A_vret C dX6_better_60 ⟨rfl, W, E⟩
    · skip
      refine A_aloadn C dX6_better_44 1 rfl rfl ?_
      refine G_getR C W ha rfl rfl rfl rfl fX6_better_9 dX6_better_45 (fun b10 hb10 qb10 => ?_)
      refine A_iloadn C dX6_better_48 2 rfl rfl ?_
      refine A_bipush C dX6_better_49 (by decide) ?_
      refine A_imul C dX6_better_51 ?_
      refine A_iloadn C dX6_better_52 3 rfl rfl ?_
      refine A_iadd C dX6_better_53 ?_
      refine A_lload C dX6_better_54 5 rfl ?_
      refine A_lload C dX6_better_56 0 rfl ?_
      refine A_ladd C dX6_better_58 ?_
      refine A_topl (fun z11 rz11 ez11 => ?_)
      refine G_last C W E qb10 rfl rfl (by decide) rfl (by omega) (by omega) (by omega) dX6_better_59 (fun M12 eM12 WM12 EM12 => ?_)
      exact A_vret C dX6_better_60 ⟨rfl, WM12, EM12⟩

theorem uX6_leastStart_6 : ∀ w ∈ u_ws RX6 TX6 7, w ∈ wsX6_leastStart := by decide +kernel
theorem uX6_leastStart_4 : ∀ w ∈ u_ws RX4 TX4 2, w ∈ wsX6_leastStart := by decide +kernel
theorem fX6_leastStart_33 : Fl RX6 wsX6_leastStart 6 0 33 RX6 TX6 7 := ⟨rfl, by decide, uX6_leastStart_6, by decide +kernel⟩
theorem fX6_leastStart_41 : Fl RX6 wsX6_leastStart 4 1 41 RX4 TX4 2 := ⟨rfl, by decide, uX6_leastStart_4, by decide +kernel⟩
theorem fX6_leastStart_15 : Fl RX6 wsX6_leastStart 6 2 15 RX6 TX6 7 := ⟨rfl, by decide, uX6_leastStart_6, by decide +kernel⟩
set_option maxHeartbeats 4000000 in
theorem lpX6_leastStart_4 {p : Program} {l : Launch} {e : Env} {s : State} {m : MethodId} {args : Array Value} {below : List Frame} {meth : Method} {c : Code} {G : xG} (C : Cx p s m args meth c G cX6_leastStart 3 RX6 wsX6_leastStart (some .int))  {a : Nat} (ha : kd a = 17) {M0 : Mem} : ∀ (n : Nat) (v1 v2 : Int) (M : Mem), (13 - v2).toNat < n → (0 ≤ v1 ∧ v1 ≤ 11 ∧ 1 ≤ v2 ∧ v2 ≤ 12) → WF M → Fr [] M0 M → AW p l e (rmD 1) s m args below meth c G 3 (QQ G below args s ((fun M r M' => ∃ z : Int, r = some (.int (iI z)) ∧ (0 : Int) ≤ z ∧ z ≤ 11 ∧ WF M' ∧ Fr [] M M') M0)) M 4 [(0, .ref a), (1, .int (iI v1)), (2, .int (iI v2))] [] := by
  intro n
  induction n with
  | zero => intro v1 v2 M hn; exact absurd hn (Nat.not_lt_zero _)
  | succ n ih =>
    intro v1 v2 M hn hi W E
    refine A_iloadn C dX6_leastStart_4 2 rfl rfl ?_
    refine A_aloadn C dX6_leastStart_5 0 rfl rfl ?_
    obtain ⟨b1, hb1, qb1⟩ := W.2.2.2 a ha
    refine A_getR C ha rfl rfl rfl hb1 fX6_leastStart_33 dX6_leastStart_6 ?_
    refine gr_getI C W qb1 fX6_leastStart_41 dX6_leastStart_9 (fun z3 ez3 lz3 uz3 => ?_)
    refine A_icmpge C 39 dX6_leastStart_12 (by decide) (by omega) (by omega) (fun c4 => ?_) (fun c4 => ?_)
    · skip
      refine A_iloadn C dX6_leastStart_39 1 rfl rfl ?_
      exact A_iret C dX6_leastStart_40 ⟨v1, rfl, by omega, by omega, W, E⟩
    · skip
      refine A_aloadn C dX6_leastStart_15 0 rfl rfl ?_
      refine G_getR C W ha rfl rfl rfl rfl fX6_leastStart_15 dX6_leastStart_16 (fun b5 hb5 qb5 => ?_)
      refine A_iloadn C dX6_leastStart_19 2 rfl rfl ?_
      refine G_lald C W qb5 rfl rfl (by decide) (by omega) (by omega) dX6_leastStart_20 (fun z6 ez6 rz6 => ?_)
      refine A_aloadn C dX6_leastStart_21 0 rfl rfl ?_
      refine G_getR C W ha rfl rfl rfl rfl fX6_leastStart_15 dX6_leastStart_22 (fun b7 hb7 qb7 => ?_)
      refine A_iloadn C dX6_leastStart_25 1 rfl rfl ?_
      refine G_lald C W qb7 rfl rfl (by decide) (by omega) (by omega) dX6_leastStart_26 (fun z8 ez8 rz8 => ?_)
      refine A_lcmp C (by omega) (by omega) dX6_leastStart_27 (fun z9 cz9 => ?_)
      refine A_ifge C 33 dX6_leastStart_28 (by decide) (by omega) (fun c10 => ?_) (fun c10 => ?_)
      · skip
        refine A_iinc (lv' := [(2, .int (iI (v2 + 1))), (0, .ref a), (1, .int (iI v1))]) C dX6_leastStart_33 2 rfl (by decide) rfl ?_
        refine A_goto C 4 dX6_leastStart_36 (by decide) ?_
        refine A_pick [1, 2, 0] rfl ?_
        exact ih v1 (v2 + 1) M (by omega) (by omega) W E
      · skip
        refine A_iloadn C dX6_leastStart_31 2 rfl rfl ?_
        refine A_istoren (lv' := [(1, .int (iI v2)), (0, .ref a), (2, .int (iI v2))]) C dX6_leastStart_32 rfl (by decide) rfl ?_
        refine A_iinc (lv' := [(2, .int (iI (v2 + 1))), (1, .int (iI v2)), (0, .ref a)]) C dX6_leastStart_33 2 rfl (by decide) rfl ?_
        refine A_goto C 4 dX6_leastStart_36 (by decide) ?_
        refine A_pick [2, 1, 0] rfl ?_
        exact ih v2 (v2 + 1) M (by omega) (by omega) W E
set_option maxHeartbeats 4000000 in
theorem kX6_leastStart  {a : Nat} (ha : kd a = 17) : Ct yX6_leastStart wsX6_leastStart 1 [.ref a] (fun M => WF M) (fun M r M' => ∃ z : Int, r = some (.int (iI z)) ∧ (0 : Int) ≤ z ∧ z ≤ 11 ∧ WF M' ∧ Fr [] M M') := by
  refine Ct_of (cc := cX6_leastStart) (nL := 3) (rt := (some .int)) (own := RX6) rfl (by decide) rfl (Nat.le_of_ble_eq_true rfl) ?_
  intro p l e s m args below meth c G M0 C W
  have E : Fr [] M0 M0 := Fr.rf
  refine A_lv (lv' := [(0, .ref a)]) rfl ?_
  refine A_iconst C dX6_leastStart_0 ?_
  refine A_istoren (lv' := [(1, .int (iI 0)), (0, .ref a)]) C dX6_leastStart_1 rfl (by decide) rfl ?_
  refine A_iconst C dX6_leastStart_2 ?_
  refine A_istoren (lv' := [(2, .int (iI 1)), (1, .int (iI 0)), (0, .ref a)]) C dX6_leastStart_3 rfl (by decide) rfl ?_
  refine A_pick [2, 1, 0] rfl ?_
  exact lpX6_leastStart_4 C  ha ((13 - (1 : Int)).toNat + 1) 0 1 M0 (by omega) (by omega) W E

theorem uX6_keyOf_6 : ∀ w ∈ u_ws RX6 TX6 7, w ∈ wsX6_keyOf := by decide +kernel
theorem uX6_keyOf_4 : ∀ w ∈ u_ws RX4 TX4 2, w ∈ wsX6_keyOf := by decide +kernel
theorem fX6_keyOf_33 : Fl RX6 wsX6_keyOf 6 0 33 RX6 TX6 7 := ⟨rfl, by decide, uX6_keyOf_6, by decide +kernel⟩
theorem fX6_keyOf_90 : Fl RX6 wsX6_keyOf 4 0 90 RX4 TX4 2 := ⟨rfl, by decide, uX6_keyOf_4, by decide +kernel⟩
theorem fX6_keyOf_22 : Fl RX6 wsX6_keyOf 6 4 22 RX6 TX6 7 := ⟨rfl, by decide, uX6_keyOf_6, by decide +kernel⟩
theorem fX6_keyOf_18 : Fl RX6 wsX6_keyOf 6 3 18 RX6 TX6 7 := ⟨rfl, by decide, uX6_keyOf_6, by decide +kernel⟩
set_option maxHeartbeats 4000000 in
theorem kX6_keyOf  {a : Nat} (ha : kd a = 17) {x1 : Int} {x2 : Int} {x3 : Int} (hx1 : (0 : Int) ≤ x1 ∧ x1 ≤ 11) (hx2 : (0 : Int) ≤ x2 ∧ x2 ≤ 24) (hx3 : (0 : Int) ≤ x3 ∧ x3 ≤ 24) : Ct yX6_keyOf wsX6_keyOf 2 [.ref a, .int (iI x1), .int (iI x2), .int (iI x3)] (fun M => WF M) (fun M r M' => ∃ z : Int, r = some (.long (lL z)) ∧ r64 z ∧ WF M' ∧ Fr [] M M') := by
  refine Ct_of (cc := cX6_keyOf) (nL := 6) (rt := (some .long)) (own := RX6) rfl (by decide) rfl (Nat.le_of_ble_eq_true rfl) ?_
  intro p l e s m args below meth c G M0 C W
  have E : Fr [] M0 M0 := Fr.rf
  refine A_lv (lv' := [(0, .ref a), (1, .int (iI x1)), (2, .int (iI x2)), (3, .int (iI x3))]) rfl ?_
  refine A_aloadn C dX6_keyOf_0 0 rfl rfl ?_
  obtain ⟨b1, hb1, qb1⟩ := W.2.2.2 a ha
  refine A_getR C ha rfl rfl rfl hb1 fX6_keyOf_33 dX6_keyOf_1 ?_
  obtain ⟨b3, hb3, qb3⟩ := gr_cols W qb1
  refine gr_getR C qb1 hb3 fX6_keyOf_90 dX6_keyOf_4 ?_
  refine A_iloadn C dX6_keyOf_7 1 rfl rfl ?_
  refine G_aald C W qb3 (by omega) (by omega) dX6_keyOf_8 (fun b4 hb4 qb4 => ?_)
  refine A_astore (lv' := [(4, .ref b4), (0, .ref a), (1, .int (iI x1)), (2, .int (iI x2)), (3, .int (iI x3))]) C dX6_keyOf_9 (by decide) rfl ?_
  refine A_aload C dX6_keyOf_11 0 rfl ?_
  refine A_iloadn C dX6_keyOf_13 3 rfl rfl ?_
  refine A_iloadn C dX6_keyOf_14 4 rfl rfl ?_
  refine A_min C (by omega) (by omega) (by decide +kernel) (by decide +kernel) (by decide +kernel) (by decide +kernel) (Nat.le_of_ble_eq_true rfl) (Nat.le_of_ble_eq_true rfl) dX6_keyOf_15 (fun z5 ez5 lz5 uz5 => ?_)
  refine A_iloadn C dX6_keyOf_18 3 rfl rfl ?_
  refine A_iloadn C dX6_keyOf_19 4 rfl rfl ?_
  refine A_isub C dX6_keyOf_20 ?_
  refine A_abs C (by omega) (by omega) (by decide +kernel) (by decide +kernel) (by decide +kernel) (by decide +kernel) (Nat.le_of_ble_eq_true rfl) (Nat.le_of_ble_eq_true rfl) dX6_keyOf_21 (fun z6 ez6 => ?_)
  refine A_callV C (n := 2) (st := []) (kX1_holdsAt qb4 (by omega) (by omega) (by omega) (by omega)) gX6_keyOf_X1_holdsAt rfl (by decide +kernel) ⟨Nat.le_of_ble_eq_true rfl, Nat.le_of_ble_eq_true rfl⟩ qb4 rfl rfl rfl rfl (Nat.le_of_ble_eq_true rfl) dX6_keyOf_24 rfl W (fun r7 M8 h9 => ?_)
  obtain ⟨z11, rfl, lz11, uz11, WM8, FM8, xx10⟩ := h9
  have EM8 := Fr.tr E (FM8.mono (c2 := []) rfl)
  refine A_st (st' := [.int (iI z11)]) rfl ?_
  refine A_istore (lv' := [(5, .int (iI z11)), (4, .ref b4), (0, .ref a), (1, .int (iI x1)), (2, .int (iI x2)), (3, .int (iI x3))]) C dX6_keyOf_27 (by decide) rfl ?_
  refine A_iload C dX6_keyOf_29 0 rfl ?_
  refine A_iconst C dX6_keyOf_31 ?_
  refine A_icmpne C 39 dX6_keyOf_32 (by decide) (by omega) (by omega) (fun c12 => ?_) (fun c12 => ?_)
  · skip
    refine A_aloadn C dX6_keyOf_39 2 rfl rfl ?_
    refine G_getL C WM8 ha rfl rfl rfl fX6_keyOf_22 dX6_keyOf_40 (fun z13 ez13 rz13 => ?_)
    refine A_iload C dX6_keyOf_43 0 rfl ?_
    refine A_i2l C (by omega) dX6_keyOf_45 ?_
    refine A_lmul C dX6_keyOf_46 ?_
    refine A_topl (fun z14 rz14 ez14 => ?_)
    refine A_aloadn C dX6_keyOf_47 2 rfl rfl ?_
    refine G_getL C WM8 ha rfl rfl rfl fX6_keyOf_18 dX6_keyOf_48 (fun z15 ez15 rz15 => ?_)
    refine A_aload C dX6_keyOf_51 1 rfl ?_
    refine A_iloadn C dX6_keyOf_53 4 rfl rfl ?_
    refine A_iloadn C dX6_keyOf_54 5 rfl rfl ?_
    refine A_max C (by omega) (by omega) (by decide +kernel) (by decide +kernel) (by decide +kernel) (by decide +kernel) (Nat.le_of_ble_eq_true rfl) (Nat.le_of_ble_eq_true rfl) dX6_keyOf_55 (fun z16 ez16 lz16 uz16 => ?_)
    refine A_iloadn C dX6_keyOf_58 4 rfl rfl ?_
    refine A_iloadn C dX6_keyOf_59 5 rfl rfl ?_
    refine A_isub C dX6_keyOf_60 ?_
    refine A_callV C (n := 2) (st := [.long (lL z15), .long (lL z14)]) (kX1_drivesFrom qb4 (by omega) (by omega)) gX6_keyOf_X1_drivesFrom rfl (by decide +kernel) ⟨Nat.le_of_ble_eq_true rfl, Nat.le_of_ble_eq_true rfl⟩ qb4 rfl rfl rfl rfl (Nat.le_of_ble_eq_true rfl) dX6_keyOf_61 rfl WM8 (fun r17 M18 h19 => ?_)
    obtain ⟨z21, rfl, lz21, uz21, WM18, FM18⟩ := h19
    have EM18 := Fr.tr EM8 (FM18.mono (c2 := []) rfl)
    refine A_st (st' := [.int (iI z21), .long (lL z15), .long (lL z14)]) rfl ?_
    refine A_i2l C (by omega) dX6_keyOf_64 ?_
    refine A_lmul C dX6_keyOf_65 ?_
    refine A_topl (fun z22 rz22 ez22 => ?_)
    refine A_lsub C dX6_keyOf_66 ?_
    refine A_topl (fun z23 rz23 ez23 => ?_)
    exact A_lret C dX6_keyOf_67 ⟨z23, rfl, by omega, WM18, EM18⟩
  · skip
    refine A_ldc2 C (index := 99) (v := 4611686018427387904) (z := 4611686018427387904) (by decide +kernel) (by decide +kernel) dX6_keyOf_35 ?_
    exact A_lret C dX6_keyOf_38 ⟨4611686018427387904, rfl, by omega, WM8, EM8⟩

theorem uX6_leastRight_6 : ∀ w ∈ u_ws RX6 TX6 7, w ∈ wsX6_leastRight := by decide +kernel
theorem uX6_leastRight_4 : ∀ w ∈ u_ws RX4 TX4 2, w ∈ wsX6_leastRight := by decide +kernel
theorem uX6_leastRight_1 : ∀ w ∈ u_ws RX1 TX1 9, w ∈ wsX6_leastRight := by decide +kernel
theorem fX6_leastRight_9 : Fl RX6 wsX6_leastRight 6 1 9 RX6 TX6 7 := ⟨rfl, by decide, uX6_leastRight_6, by decide +kernel⟩
theorem fX6_leastRight_33 : Fl RX6 wsX6_leastRight 6 0 33 RX6 TX6 7 := ⟨rfl, by decide, uX6_leastRight_6, by decide +kernel⟩
theorem fX6_leastRight_90 : Fl RX6 wsX6_leastRight 4 0 90 RX4 TX4 2 := ⟨rfl, by decide, uX6_leastRight_4, by decide +kernel⟩
theorem fX6_leastRight_94 : Fl RX6 wsX6_leastRight 1 1 94 RX1 TX1 9 := ⟨rfl, by decide, uX6_leastRight_1, by decide +kernel⟩
set_option maxHeartbeats 4000000 in
theorem lpX6_leastRight_33 {p : Program} {l : Launch} {e : Env} {s : State} {m : MethodId} {args : Array Value} {below : List Frame} {meth : Method} {c : Code} {G : xG} (C : Cx p s m args meth c G cX6_leastRight 11 RX6 wsX6_leastRight (some .int))  {a : Nat} (ha : kd a = 17) {x1 : Int} {x2 : Int} {x3 : Int} (hx1 : (0 : Int) ≤ x1 ∧ x1 ≤ 11) (hx2 : (0 : Int) ≤ x2 ∧ x2 ≤ 24) (hx3 : r64 x3) {M0 : Mem} : ∀ (n : Nat) (v5 v6 : Int) (M : Mem), (26 - v6).toNat < n → (0 ≤ v5 ∧ v5 ≤ 24 ∧ 0 ≤ v6 ∧ v6 ≤ 25) → WF M → Fr [] M0 M → AW p l e (rmD 3) s m args below meth c G 11 (QQ G below args s ((fun M r M' => ∃ z : Int, r = some (.int (iI z)) ∧ (-1 : Int) ≤ z ∧ z ≤ 24 ∧ WF M' ∧ Fr [] M M') M0)) M 33 [(0, .ref a), (1, .int (iI x1)), (2, .int (iI x2)), (3, .long (lL x3)), (5, .int (iI v5)), (6, .int (iI v6))] [] := by
  intro n
  induction n with
  | zero => intro v5 v6 M hn; exact absurd hn (Nat.not_lt_zero _)
  | succ n ih =>
    intro v5 v6 M hn hi W E
    refine A_iload C dX6_leastRight_33 5 rfl ?_
    refine A_iload C dX6_leastRight_35 4 rfl ?_
    refine A_icmpgt C 103 dX6_leastRight_37 (by decide) (by omega) (by omega) (fun c1 => ?_) (fun c1 => ?_)
    · skip
      refine A_iconst C dX6_leastRight_103 ?_
      exact A_iret C dX6_leastRight_104 ⟨(-1), rfl, by omega, by omega, W, E⟩
    · skip
      refine A_aloadn C dX6_leastRight_40 0 rfl rfl ?_
      refine A_iloadn C dX6_leastRight_41 1 rfl rfl ?_
      refine A_iloadn C dX6_leastRight_42 2 rfl rfl ?_
      refine A_iload C dX6_leastRight_43 5 rfl ?_
      refine A_callV C (n := 3) (st := []) (kX6_keyOf ha (by omega) (by omega) (by omega)) gX6_leastRight_X6_keyOf rfl (by decide +kernel) ⟨Nat.le_of_ble_eq_true rfl, Nat.le_of_ble_eq_true rfl⟩ ha rfl rfl rfl rfl (Nat.le_of_ble_eq_true rfl) dX6_leastRight_45 rfl W (fun r2 M3 h4 => ?_)
      obtain ⟨z6, rfl, rz6, WM3, FM3⟩ := h4
      have EM3 := Fr.tr E (FM3.mono (c2 := []) rfl)
      refine A_st (st' := [.long (lL z6)]) rfl ?_
      refine A_lstore (lv' := [(7, .long (lL z6)), (0, .ref a), (1, .int (iI x1)), (2, .int (iI x2)), (3, .long (lL x3)), (5, .int (iI v5)), (6, .int (iI v6))]) C dX6_leastRight_48 (by decide) rfl ?_
      refine A_aloadn C dX6_leastRight_50 1 rfl rfl ?_
      refine G_getR C WM3 ha rfl rfl rfl rfl fX6_leastRight_9 dX6_leastRight_51 (fun b7 hb7 qb7 => ?_)
      refine A_iloadn C dX6_leastRight_54 2 rfl rfl ?_
      refine A_iconst C dX6_leastRight_55 ?_
      refine A_iadd C dX6_leastRight_56 ?_
      refine A_bipush C dX6_leastRight_57 (by decide) ?_
      refine A_imul C dX6_leastRight_59 ?_
      refine A_iload C dX6_leastRight_60 6 rfl ?_
      refine A_iadd C dX6_leastRight_62 ?_
      refine G_lald C WM3 qb7 rfl rfl (by decide) (by omega) (by omega) dX6_leastRight_63 (fun z8 ez8 rz8 => ?_)
      refine A_lstore (lv' := [(9, .long (lL z8)), (7, .long (lL z6)), (0, .ref a), (1, .int (iI x1)), (2, .int (iI x2)), (3, .long (lL x3)), (5, .int (iI v5)), (6, .int (iI v6))]) C dX6_leastRight_64 (by decide) rfl ?_
      refine A_lload C dX6_leastRight_66 1 rfl ?_
      refine A_ldc2 C (index := 99) (v := 4611686018427387904) (z := 4611686018427387904) (by decide +kernel) (by decide +kernel) dX6_leastRight_68 ?_
      refine A_lcmp C (by omega) (by omega) dX6_leastRight_71 (fun z9 cz9 => ?_)
      refine A_ifeq C 97 dX6_leastRight_72 (by decide) (by omega) (fun c10 => ?_) (fun c10 => ?_)
      · skip
        refine A_iinc (lv' := [(6, .int (iI (v6 + 1))), (9, .long (lL z8)), (7, .long (lL z6)), (0, .ref a), (1, .int (iI x1)), (2, .int (iI x2)), (3, .long (lL x3)), (5, .int (iI v5))]) C dX6_leastRight_97 7 rfl (by decide) rfl ?_
        refine A_goto C 33 dX6_leastRight_100 (by decide) ?_
        refine A_pick [3, 4, 5, 6, 7, 0] rfl ?_
        exact ih v5 (v6 + 1) M3 (by omega) (by omega) WM3 EM3
      · skip
        refine A_lload C dX6_leastRight_75 0 rfl ?_
        refine A_ldc2 C (index := 99) (v := 4611686018427387904) (z := 4611686018427387904) (by decide +kernel) (by decide +kernel) dX6_leastRight_77 ?_
        refine A_lcmp C (by omega) (by omega) dX6_leastRight_80 (fun z11 cz11 => ?_)
        refine A_ifeq C 97 dX6_leastRight_81 (by decide) (by omega) (fun c12 => ?_) (fun c12 => ?_)
        · skip
          refine A_iinc (lv' := [(6, .int (iI (v6 + 1))), (9, .long (lL z8)), (7, .long (lL z6)), (0, .ref a), (1, .int (iI x1)), (2, .int (iI x2)), (3, .long (lL x3)), (5, .int (iI v5))]) C dX6_leastRight_97 7 rfl (by decide) rfl ?_
          refine A_goto C 33 dX6_leastRight_100 (by decide) ?_
          refine A_pick [3, 4, 5, 6, 7, 0] rfl ?_
          exact ih v5 (v6 + 1) M3 (by omega) (by omega) WM3 EM3
        · skip
          refine A_lload C dX6_leastRight_84 1 rfl ?_
          refine A_lload C dX6_leastRight_86 0 rfl ?_
          refine A_ladd C dX6_leastRight_88 ?_
          refine A_topl (fun z13 rz13 ez13 => ?_)
          refine A_lloadn C dX6_leastRight_89 5 rfl rfl ?_
          refine A_lcmp C (by omega) (by omega) dX6_leastRight_90 (fun z14 cz14 => ?_)
          refine A_ifgt C 97 dX6_leastRight_91 (by decide) (by omega) (fun c15 => ?_) (fun c15 => ?_)
          · skip
            refine A_iinc (lv' := [(6, .int (iI (v6 + 1))), (9, .long (lL z8)), (7, .long (lL z6)), (0, .ref a), (1, .int (iI x1)), (2, .int (iI x2)), (3, .long (lL x3)), (5, .int (iI v5))]) C dX6_leastRight_97 7 rfl (by decide) rfl ?_
            refine A_goto C 33 dX6_leastRight_100 (by decide) ?_
            refine A_pick [3, 4, 5, 6, 7, 0] rfl ?_
            exact ih v5 (v6 + 1) M3 (by omega) (by omega) WM3 EM3
          · skip
            refine A_iload C dX6_leastRight_94 7 rfl ?_
            exact A_iret C dX6_leastRight_96 ⟨v6, rfl, by omega, by omega, WM3, EM3⟩
set_option maxHeartbeats 4000000 in
theorem kX6_leastRight  {a : Nat} (ha : kd a = 17) {x1 : Int} {x2 : Int} {x3 : Int} (hx1 : (0 : Int) ≤ x1 ∧ x1 ≤ 11) (hx2 : (0 : Int) ≤ x2 ∧ x2 ≤ 24) (hx3 : r64 x3) : Ct yX6_leastRight wsX6_leastRight 3 [.ref a, .int (iI x1), .int (iI x2), .long (lL x3)] (fun M => WF M) (fun M r M' => ∃ z : Int, r = some (.int (iI z)) ∧ (-1 : Int) ≤ z ∧ z ≤ 24 ∧ WF M' ∧ Fr [] M M') := by
  refine Ct_of (cc := cX6_leastRight) (nL := 11) (rt := (some .int)) (own := RX6) rfl (by decide) rfl (Nat.le_of_ble_eq_true rfl) ?_
  intro p l e s m args below meth c G M0 C W
  have E : Fr [] M0 M0 := Fr.rf
  refine A_lv (lv' := [(0, .ref a), (1, .int (iI x1)), (2, .int (iI x2)), (3, .long (lL x3))]) rfl ?_
  refine A_iloadn C dX6_leastRight_0 2 rfl rfl ?_
  refine A_iconst C dX6_leastRight_1 ?_
  refine A_iadd C dX6_leastRight_2 ?_
  refine A_iconst C dX6_leastRight_3 ?_
  refine A_isub C dX6_leastRight_4 ?_
  refine A_aloadn C dX6_leastRight_5 0 rfl rfl ?_
  obtain ⟨b16, hb16, qb16⟩ := W.2.2.2 a ha
  refine A_getR C ha rfl rfl rfl hb16 fX6_leastRight_33 dX6_leastRight_6 ?_
  obtain ⟨b18, hb18, qb18⟩ := gr_cols W qb16
  refine gr_getR C qb16 hb18 fX6_leastRight_90 dX6_leastRight_9 ?_
  refine A_iloadn C dX6_leastRight_12 1 rfl rfl ?_
  refine G_aald C W qb18 (by omega) (by omega) dX6_leastRight_13 (fun b19 hb19 qb19 => ?_)
  refine G_getI C W qb19 rfl rfl rfl rfl rfl fX6_leastRight_94 rfl dX6_leastRight_14 (fun z20 ez20 lz20 uz20 => ?_)
  refine A_min C (by omega) (by omega) (by decide +kernel) (by decide +kernel) (by decide +kernel) (by decide +kernel) (Nat.le_of_ble_eq_true rfl) (Nat.le_of_ble_eq_true rfl) dX6_leastRight_17 (fun z21 ez21 lz21 uz21 => ?_)
  refine A_istore (lv' := [(5, .int (iI z21)), (0, .ref a), (1, .int (iI x1)), (2, .int (iI x2)), (3, .long (lL x3))]) C dX6_leastRight_20 (by decide) rfl ?_
  refine A_iloadn C dX6_leastRight_22 3 rfl rfl ?_
  refine A_iconst C dX6_leastRight_23 ?_
  refine A_isub C dX6_leastRight_24 ?_
  refine A_iconst C dX6_leastRight_25 ?_
  refine A_iadd C dX6_leastRight_26 ?_
  refine A_iconst C dX6_leastRight_27 ?_
  refine A_max C (by omega) (by omega) (by decide +kernel) (by decide +kernel) (by decide +kernel) (by decide +kernel) (Nat.le_of_ble_eq_true rfl) (Nat.le_of_ble_eq_true rfl) dX6_leastRight_28 (fun z22 ez22 lz22 uz22 => ?_)
  refine A_istore (lv' := [(6, .int (iI z22)), (5, .int (iI z21)), (0, .ref a), (1, .int (iI x1)), (2, .int (iI x2)), (3, .long (lL x3))]) C dX6_leastRight_31 (by decide) rfl ?_
  refine A_pick [2, 3, 4, 5, 1, 0] rfl ?_
  exact lpX6_leastRight_33 C  ha hx1 hx2 hx3 ((26 - z22).toNat + 1) z21 z22 M0 (by omega) (by omega) W E

theorem uX6_weighColumn_6 : ∀ w ∈ u_ws RX6 TX6 7, w ∈ wsX6_weighColumn := by decide +kernel
theorem uX6_weighColumn_1 : ∀ w ∈ u_ws RX1 TX1 9, w ∈ wsX6_weighColumn := by decide +kernel
theorem uX6_weighColumn_4 : ∀ w ∈ u_ws RX4 TX4 2, w ∈ wsX6_weighColumn := by decide +kernel
theorem fX6_weighColumn_22 : Fl RX6 wsX6_weighColumn 6 4 22 RX6 TX6 7 := ⟨rfl, by decide, uX6_weighColumn_6, by decide +kernel⟩
theorem fX6_weighColumn_18 : Fl RX6 wsX6_weighColumn 6 3 18 RX6 TX6 7 := ⟨rfl, by decide, uX6_weighColumn_6, by decide +kernel⟩
theorem fX6_weighColumn_94 : Fl RX6 wsX6_weighColumn 1 1 94 RX1 TX1 9 := ⟨rfl, by decide, uX6_weighColumn_1, by decide +kernel⟩
theorem fX6_weighColumn_33 : Fl RX6 wsX6_weighColumn 6 0 33 RX6 TX6 7 := ⟨rfl, by decide, uX6_weighColumn_6, by decide +kernel⟩
theorem fX6_weighColumn_90 : Fl RX6 wsX6_weighColumn 4 0 90 RX4 TX4 2 := ⟨rfl, by decide, uX6_weighColumn_4, by decide +kernel⟩
set_option maxHeartbeats 4000000 in
theorem lpX6_weighColumn_23 {p : Program} {l : Launch} {e : Env} {s : State} {m : MethodId} {args : Array Value} {below : List Frame} {meth : Method} {c : Code} {G : xG} (C : Cx p s m args meth c G cX6_weighColumn 10 RX6 wsX6_weighColumn none)  {a : Nat} (ha : kd a = 17) {x1 : Int} (hx1 : (0 : Int) ≤ x1 ∧ x1 ≤ 11) {M0 : Mem} {y2 : Nat} (hy_2 : kd y2 = 8) {N12 : Nat} (H12 : ∀ (v3 : Int) (M : Mem), (25 - v3).toNat < N12 → (0 ≤ v3 ∧ v3 ≤ 24) → WF M → Fr [18] M0 M → AW p l e (rmD 2) s m args below meth c G 10 (QQ G below args s ((fun M r M' => r = none ∧ WF M' ∧ Fr [18] M M') M0)) M 12 [(0, .ref a), (1, .int (iI x1)), (2, .ref y2), (3, .int (iI v3))] []) : ∀ (n : Nat) (v3 v4 : Int) (M : Mem), (6 - v4).toNat < n → (0 ≤ v3 ∧ v3 ≤ 23 ∧ 0 ≤ v4 ∧ v4 ≤ 5 ∧ (25 - v3).toNat ≤ N12) → WF M → Fr [18] M0 M → AW p l e (rmD 2) s m args below meth c G 10 (QQ G below args s ((fun M r M' => r = none ∧ WF M' ∧ Fr [18] M M') M0)) M 23 [(0, .ref a), (1, .int (iI x1)), (2, .ref y2), (3, .int (iI v3)), (4, .int (iI v4))] [] := by
  intro n
  induction n with
  | zero => intro v3 v4 M hn; exact absurd hn (Nat.not_lt_zero _)
  | succ n ih =>
    intro v3 v4 M hn hi W E
    refine A_iload C dX6_weighColumn_23 4 rfl ?_
    refine A_iconst C dX6_weighColumn_25 ?_
    refine A_icmpge C 111 dX6_weighColumn_26 (by decide) (by omega) (by omega) (fun c1 => ?_) (fun c1 => ?_)
    · skip
      refine A_iinc (lv' := [(3, .int (iI (v3 + 1))), (0, .ref a), (1, .int (iI x1)), (2, .ref y2), (4, .int (iI v4))]) C dX6_weighColumn_111 3 rfl (by decide) rfl ?_
      refine A_goto C 12 dX6_weighColumn_114 (by decide) ?_
      refine A_pick [1, 2, 3, 0] rfl ?_
      exact H12 (v3 + 1) M (by omega) (by omega) W E
    · skip
      refine A_aloadn C dX6_weighColumn_29 2 rfl rfl ?_
      refine A_iloadn C dX6_weighColumn_30 3 rfl rfl ?_
      refine A_iload C dX6_weighColumn_31 4 rfl ?_
      refine A_callV C (n := 2) (st := []) (kX1_holdsAt hy_2 (by omega) (by omega) (by omega) (by omega)) gX6_weighColumn_X1_holdsAt rfl (by decide +kernel) ⟨Nat.le_of_ble_eq_true rfl, Nat.le_of_ble_eq_true rfl⟩ hy_2 rfl rfl rfl rfl (Nat.le_of_ble_eq_true rfl) dX6_weighColumn_33 rfl W (fun r2 M3 h4 => ?_)
      obtain ⟨z6, rfl, lz6, uz6, WM3, FM3, xx5⟩ := h4
      have EM3 := Fr.tr E (FM3.mono (c2 := [18]) rfl)
      refine A_st (st' := [.int (iI z6)]) rfl ?_
      refine A_istore (lv' := [(5, .int (iI z6)), (0, .ref a), (1, .int (iI x1)), (2, .ref y2), (3, .int (iI v3)), (4, .int (iI v4))]) C dX6_weighColumn_36 (by decide) rfl ?_
      refine A_iload C dX6_weighColumn_38 0 rfl ?_
      refine A_iconst C dX6_weighColumn_40 ?_
      refine A_icmpne C 47 dX6_weighColumn_41 (by decide) (by omega) (by omega) (fun c7 => ?_) (fun c7 => ?_)
      · skip
        refine A_aloadn C dX6_weighColumn_47 1 rfl rfl ?_
        refine G_getL C WM3 ha rfl rfl rfl fX6_weighColumn_22 dX6_weighColumn_48 (fun z8 ez8 rz8 => ?_)
        refine A_iload C dX6_weighColumn_51 0 rfl ?_
        refine A_i2l C (by omega) dX6_weighColumn_53 ?_
        refine A_lmul C dX6_weighColumn_54 ?_
        refine A_topl (fun z9 rz9 ez9 => ?_)
        refine A_lstore (lv' := [(6, .long (lL z9)), (5, .int (iI z6)), (0, .ref a), (1, .int (iI x1)), (2, .ref y2), (3, .int (iI v3)), (4, .int (iI v4))]) C dX6_weighColumn_55 (by decide) rfl ?_
        refine A_aloadn C dX6_weighColumn_57 2 rfl rfl ?_
        refine G_getL C WM3 ha rfl rfl rfl fX6_weighColumn_18 dX6_weighColumn_58 (fun z10 ez10 rz10 => ?_)
        refine A_aloadn C dX6_weighColumn_61 4 rfl rfl ?_
        refine A_iloadn C dX6_weighColumn_62 5 rfl rfl ?_
        refine A_iload C dX6_weighColumn_63 6 rfl ?_
        refine A_iadd C dX6_weighColumn_65 ?_
        refine A_iload C dX6_weighColumn_66 6 rfl ?_
        refine A_callV C (n := 2) (st := [.long (lL z10)]) (kX1_drivesFrom hy_2 (by omega) (by omega)) gX6_weighColumn_X1_drivesFrom rfl (by decide +kernel) ⟨Nat.le_of_ble_eq_true rfl, Nat.le_of_ble_eq_true rfl⟩ hy_2 rfl rfl rfl rfl (Nat.le_of_ble_eq_true rfl) dX6_weighColumn_68 rfl WM3 (fun r11 M12 h13 => ?_)
        obtain ⟨z15, rfl, lz15, uz15, WM12, FM12⟩ := h13
        have EM12 := Fr.tr EM3 (FM12.mono (c2 := [18]) rfl)
        refine A_st (st' := [.int (iI z15), .long (lL z10)]) rfl ?_
        refine A_i2l C (by omega) dX6_weighColumn_71 ?_
        refine A_lmul C dX6_weighColumn_72 ?_
        refine A_topl (fun z16 rz16 ez16 => ?_)
        refine A_lstore (lv' := [(8, .long (lL z16)), (6, .long (lL z9)), (5, .int (iI z6)), (0, .ref a), (1, .int (iI x1)), (2, .ref y2), (3, .int (iI v3)), (4, .int (iI v4))]) C dX6_weighColumn_73 (by decide) rfl ?_
        refine A_aloadn C dX6_weighColumn_75 3 rfl rfl ?_
        refine A_iloadn C dX6_weighColumn_76 4 rfl rfl ?_
        refine A_iloadn C dX6_weighColumn_77 6 rfl rfl ?_
        refine A_iloadn C dX6_weighColumn_78 6 rfl rfl ?_
        refine A_iload C dX6_weighColumn_79 7 rfl ?_
        refine A_iadd C dX6_weighColumn_81 ?_
        refine A_lload C dX6_weighColumn_82 1 rfl ?_
        refine A_lload C dX6_weighColumn_84 0 rfl ?_
        refine A_ladd C dX6_weighColumn_86 ?_
        refine A_topl (fun z17 rz17 ez17 => ?_)
        refine A_callV C (n := 4) (st := []) (kX6_better ha (by omega) (by omega) (by omega) (by omega)) gX6_weighColumn_X6_better rfl (by decide +kernel) ⟨Nat.le_of_ble_eq_true rfl, Nat.le_of_ble_eq_true rfl⟩ ha rfl rfl rfl rfl (Nat.le_of_ble_eq_true rfl) dX6_weighColumn_87 rfl WM12 (fun r18 M19 h20 => ?_)
        obtain ⟨rfl, WM19, FM19⟩ := h20
        have EM19 := Fr.tr EM12 (FM19.mono (c2 := [18]) rfl)
        refine A_st (st' := []) rfl ?_
        refine A_aloadn C dX6_weighColumn_90 3 rfl rfl ?_
        refine A_iloadn C dX6_weighColumn_91 4 rfl rfl ?_
        refine A_iloadn C dX6_weighColumn_92 6 rfl rfl ?_
        refine A_iload C dX6_weighColumn_93 7 rfl ?_
        refine A_iadd C dX6_weighColumn_95 ?_
        refine A_iloadn C dX6_weighColumn_96 6 rfl rfl ?_
        refine A_lload C dX6_weighColumn_97 1 rfl ?_
        refine A_lload C dX6_weighColumn_99 0 rfl ?_
        refine A_lsub C dX6_weighColumn_101 ?_
        refine A_topl (fun z22 rz22 ez22 => ?_)
        refine A_callV C (n := 4) (st := []) (kX6_better ha (by omega) (by omega) (by omega) (by omega)) gX6_weighColumn_X6_better rfl (by decide +kernel) ⟨Nat.le_of_ble_eq_true rfl, Nat.le_of_ble_eq_true rfl⟩ ha rfl rfl rfl rfl (Nat.le_of_ble_eq_true rfl) dX6_weighColumn_102 rfl WM19 (fun r23 M24 h25 => ?_)
        obtain ⟨rfl, WM24, FM24⟩ := h25
        have EM24 := Fr.tr EM19 (FM24.mono (c2 := [18]) rfl)
        refine A_st (st' := []) rfl ?_
        refine A_iinc (lv' := [(4, .int (iI (v4 + 1))), (8, .long (lL z16)), (6, .long (lL z9)), (5, .int (iI z6)), (0, .ref a), (1, .int (iI x1)), (2, .ref y2), (3, .int (iI v3))]) C dX6_weighColumn_105 7 rfl (by decide) rfl ?_
        refine A_goto C 23 dX6_weighColumn_108 (by decide) ?_
        refine A_pick [4, 5, 6, 7, 0] rfl ?_
        exact ih v3 (v4 + 1) M24 (by omega) (by omega) WM24 EM24
      · skip
        refine A_goto C 111 dX6_weighColumn_44 (by decide) ?_
        refine A_iinc (lv' := [(3, .int (iI (v3 + 1))), (5, .int (iI z6)), (0, .ref a), (1, .int (iI x1)), (2, .ref y2), (4, .int (iI v4))]) C dX6_weighColumn_111 4 rfl (by decide) rfl ?_
        refine A_goto C 12 dX6_weighColumn_114 (by decide) ?_
        refine A_pick [2, 3, 4, 0] rfl ?_
        exact H12 (v3 + 1) M3 (by omega) (by omega) WM3 EM3
set_option maxHeartbeats 4000000 in
theorem lpX6_weighColumn_12 {p : Program} {l : Launch} {e : Env} {s : State} {m : MethodId} {args : Array Value} {below : List Frame} {meth : Method} {c : Code} {G : xG} (C : Cx p s m args meth c G cX6_weighColumn 10 RX6 wsX6_weighColumn none)  {a : Nat} (ha : kd a = 17) {x1 : Int} (hx1 : (0 : Int) ≤ x1 ∧ x1 ≤ 11) {M0 : Mem} {y2 : Nat} (hy_2 : kd y2 = 8) : ∀ (n : Nat) (v3 : Int) (M : Mem), (25 - v3).toNat < n → (0 ≤ v3 ∧ v3 ≤ 24) → WF M → Fr [18] M0 M → AW p l e (rmD 2) s m args below meth c G 10 (QQ G below args s ((fun M r M' => r = none ∧ WF M' ∧ Fr [18] M M') M0)) M 12 [(0, .ref a), (1, .int (iI x1)), (2, .ref y2), (3, .int (iI v3))] [] := by
  intro n
  induction n with
  | zero => intro v3 M hn; exact absurd hn (Nat.not_lt_zero _)
  | succ n ih =>
    intro v3 M hn hi W E
    refine A_iloadn C dX6_weighColumn_12 3 rfl rfl ?_
    refine A_aloadn C dX6_weighColumn_13 2 rfl rfl ?_
    refine G_getI C W hy_2 rfl rfl rfl rfl rfl fX6_weighColumn_94 rfl dX6_weighColumn_14 (fun z27 ez27 lz27 uz27 => ?_)
    refine A_icmpge C 117 dX6_weighColumn_17 (by decide) (by omega) (by omega) (fun c28 => ?_) (fun c28 => ?_)
    · skip
      exact A_vret C dX6_weighColumn_117 ⟨rfl, W, E⟩
    · skip
      refine A_iconst C dX6_weighColumn_20 ?_
      refine A_istore (lv' := [(4, .int (iI 0)), (0, .ref a), (1, .int (iI x1)), (2, .ref y2), (3, .int (iI v3))]) C dX6_weighColumn_21 (by decide) rfl ?_
      refine A_pick [1, 2, 3, 4, 0] rfl ?_
      exact lpX6_weighColumn_23 C  ha hx1 hy_2 ih ((6 - (0 : Int)).toNat + 1) v3 0 M (by omega) (by omega) W E
set_option maxHeartbeats 4000000 in
theorem kX6_weighColumn  {a : Nat} (ha : kd a = 17) {x1 : Int} (hx1 : (0 : Int) ≤ x1 ∧ x1 ≤ 11) : Ct yX6_weighColumn wsX6_weighColumn 2 [.ref a, .int (iI x1)] (fun M => WF M) (fun M r M' => r = none ∧ WF M' ∧ Fr [18] M M') := by
  refine Ct_of (cc := cX6_weighColumn) (nL := 10) (rt := none) (own := RX6) rfl (by decide) rfl (Nat.le_of_ble_eq_true rfl) ?_
  intro p l e s m args below meth c G M0 C W
  have E : Fr [18] M0 M0 := Fr.rf
  refine A_lv (lv' := [(0, .ref a), (1, .int (iI x1))]) rfl ?_
  refine A_aloadn C dX6_weighColumn_0 0 rfl rfl ?_
  obtain ⟨b29, hb29, qb29⟩ := W.2.2.2 a ha
  refine A_getR C ha rfl rfl rfl hb29 fX6_weighColumn_33 dX6_weighColumn_1 ?_
  obtain ⟨b31, hb31, qb31⟩ := gr_cols W qb29
  refine gr_getR C qb29 hb31 fX6_weighColumn_90 dX6_weighColumn_4 ?_
  refine A_iloadn C dX6_weighColumn_7 1 rfl rfl ?_
  refine G_aald C W qb31 (by omega) (by omega) dX6_weighColumn_8 (fun b32 hb32 qb32 => ?_)
  refine A_astoren (lv' := [(2, .ref b32), (0, .ref a), (1, .int (iI x1))]) C dX6_weighColumn_9 rfl (by decide) rfl ?_
  refine A_iconst C dX6_weighColumn_10 ?_
  refine A_istoren (lv' := [(3, .int (iI 0)), (2, .ref b32), (0, .ref a), (1, .int (iI x1))]) C dX6_weighColumn_11 rfl (by decide) rfl ?_
  refine A_pick [2, 3, 1, 0] rfl ?_
  exact lpX6_weighColumn_12 C  ha hx1 qb32 ((25 - (0 : Int)).toNat + 1) 0 M0 (by omega) (by omega) W E
end
section
theorem uX6_weigh_6 : ∀ w ∈ u_ws RX6 TX6 7, w ∈ wsX6_weigh := by decide +kernel
theorem uX6_weigh_4 : ∀ w ∈ u_ws RX4 TX4 2, w ∈ wsX6_weigh := by decide +kernel
theorem uX6_weigh_1 : ∀ w ∈ u_ws RX1 TX1 9, w ∈ wsX6_weigh := by decide +kernel
theorem fX6_weigh_15 : Fl RX6 wsX6_weigh 6 2 15 RX6 TX6 7 := ⟨rfl, by decide, uX6_weigh_6, by decide +kernel⟩
theorem fX6_weigh_9 : Fl RX6 wsX6_weigh 6 1 9 RX6 TX6 7 := ⟨rfl, by decide, uX6_weigh_6, by decide +kernel⟩
theorem fX6_weigh_33 : Fl RX6 wsX6_weigh 6 0 33 RX6 TX6 7 := ⟨rfl, by decide, uX6_weigh_6, by decide +kernel⟩
theorem fX6_weigh_90 : Fl RX6 wsX6_weigh 4 0 90 RX4 TX4 2 := ⟨rfl, by decide, uX6_weigh_4, by decide +kernel⟩
theorem fX6_weigh_94 : Fl RX6 wsX6_weigh 1 1 94 RX1 TX1 9 := ⟨rfl, by decide, uX6_weigh_1, by decide +kernel⟩
theorem fX6_weigh_25 : Fl RX6 wsX6_weigh 6 5 25 RX6 TX6 7 := ⟨rfl, by decide, uX6_weigh_6, by decide +kernel⟩
theorem fX6_weigh_29 : Fl RX6 wsX6_weigh 6 6 29 RX6 TX6 7 := ⟨rfl, by decide, uX6_weigh_6, by decide +kernel⟩
set_option maxHeartbeats 4000000 in
theorem lpX6_weigh_25 {p : Program} {l : Launch} {e : Env} {s : State} {m : MethodId} {args : Array Value} {below : List Frame} {meth : Method} {c : Code} {G : xG} (C : Cx p s m args meth c G cX6_weigh 5 RX6 wsX6_weigh none)  {a : Nat} (ha : kd a = 17) {x1 : Int} {x2 : Int} {x3 : Int} (hx1 : (0 : Int) ≤ x1 ∧ x1 ≤ 12) (hx2 : (0 : Int) ≤ x2 ∧ x2 ≤ 12) (hx3 : (0 : Int) ≤ x3 ∧ x3 ≤ 1) {M0 : Mem} : ∀ (n : Nat) (v4 : Int) (M : Mem), (v4 + 1).toNat < n → (-1 ≤ v4 ∧ v4 ≤ 11) → WF M → Fr [17, 18, 19] M0 M → AW p l e (rmD 3) s m args below meth c G 5 (QQ G below args s ((fun M r M' => r = none ∧ WF M' ∧ Fr [17, 18, 19] M M') M0)) M 25 [(0, .ref a), (1, .int (iI x1)), (4, .int (iI v4))] [] := by
  intro n
  induction n with
  | zero => intro v4 M hn; exact absurd hn (Nat.not_lt_zero _)
  | succ n ih =>
    intro v4 M hn hi W E
    refine A_iload C dX6_weigh_25 2 rfl ?_
    refine A_iloadn C dX6_weigh_27 1 rfl rfl ?_
    refine A_icmplt C 86 dX6_weigh_28 (by decide) (by omega) (by omega) (fun c1 => ?_) (fun c1 => ?_)
    · skip
      exact A_vret C dX6_weigh_86 ⟨rfl, W, E⟩
    · skip
      refine A_aloadn C dX6_weigh_31 0 rfl rfl ?_
      refine A_iload C dX6_weigh_32 2 rfl ?_
      refine A_callV C (n := 1) (st := []) (kX6_clearRests ha (by omega)) gX6_weigh_X6_clearRests rfl (by decide +kernel) ⟨Nat.le_of_ble_eq_true rfl, Nat.le_of_ble_eq_true rfl⟩ ha rfl rfl rfl rfl (Nat.le_of_ble_eq_true rfl) dX6_weigh_34 rfl W (fun r2 M3 h4 => ?_)
      obtain ⟨rfl, WM3, FM3⟩ := h4
      have EM3 := Fr.tr E (FM3.mono (c2 := [17, 18, 19]) rfl)
      refine A_st (st' := []) rfl ?_
      refine A_aloadn C dX6_weigh_37 0 rfl rfl ?_
      refine A_iload C dX6_weigh_38 2 rfl ?_
      refine A_callV C (n := 1) (st := []) (kX6_weighColumn ha (by omega)) gX6_weigh_X6_weighColumn rfl (by decide +kernel) ⟨Nat.le_of_ble_eq_true rfl, Nat.le_of_ble_eq_true rfl⟩ ha rfl rfl rfl rfl (Nat.le_of_ble_eq_true rfl) dX6_weigh_40 rfl WM3 (fun r6 M7 h8 => ?_)
      obtain ⟨rfl, WM7, FM7⟩ := h8
      have EM7 := Fr.tr EM3 (FM7.mono (c2 := [17, 18, 19]) rfl)
      refine A_st (st' := []) rfl ?_
      refine A_aloadn C dX6_weigh_43 0 rfl rfl ?_
      refine G_getR C WM7 ha rfl rfl rfl rfl fX6_weigh_15 dX6_weigh_44 (fun b10 hb10 qb10 => ?_)
      refine A_iload C dX6_weigh_47 2 rfl ?_
      refine A_aloadn C dX6_weigh_49 0 rfl rfl ?_
      refine G_getR C WM7 ha rfl rfl rfl rfl fX6_weigh_9 dX6_weigh_50 (fun b11 hb11 qb11 => ?_)
      refine A_iload C dX6_weigh_53 2 rfl ?_
      refine A_bipush C dX6_weigh_55 (by decide) ?_
      refine A_imul C dX6_weigh_57 ?_
      refine A_aloadn C dX6_weigh_58 0 rfl rfl ?_
      obtain ⟨b12, hb12, qb12⟩ := WM7.2.2.2 a ha
      refine A_getR C ha rfl rfl rfl hb12 fX6_weigh_33 dX6_weigh_59 ?_
      obtain ⟨b14, hb14, qb14⟩ := gr_cols WM7 qb12
      refine gr_getR C qb12 hb14 fX6_weigh_90 dX6_weigh_62 ?_
      refine A_iload C dX6_weigh_65 2 rfl ?_
      refine G_aald C WM7 qb14 (by omega) (by omega) dX6_weigh_67 (fun b15 hb15 qb15 => ?_)
      refine G_getI C WM7 qb15 rfl rfl rfl rfl rfl fX6_weigh_94 rfl dX6_weigh_68 (fun z16 ez16 lz16 uz16 => ?_)
      refine A_iadd C dX6_weigh_71 ?_
      refine G_lald C WM7 qb11 rfl rfl (by decide) (by omega) (by omega) dX6_weigh_72 (fun z17 ez17 rz17 => ?_)
      refine G_last C WM7 EM7 qb10 rfl rfl (by decide) rfl (by omega) (by omega) (by omega) dX6_weigh_73 (fun M18 eM18 WM18 EM18 => ?_)
      refine A_aloadn C dX6_weigh_74 0 rfl rfl ?_
      refine A_iload C dX6_weigh_75 2 rfl ?_
      refine A_callV C (n := 1) (st := []) (kX6_allowEnd ha (by omega)) gX6_weigh_X6_allowEnd rfl (by decide +kernel) ⟨Nat.le_of_ble_eq_true rfl, Nat.le_of_ble_eq_true rfl⟩ ha rfl rfl rfl rfl (Nat.le_of_ble_eq_true rfl) dX6_weigh_77 rfl WM18 (fun r19 M20 h21 => ?_)
      obtain ⟨rfl, WM20, FM20⟩ := h21
      have EM20 := Fr.tr EM18 (FM20.mono (c2 := [17, 18, 19]) rfl)
      refine A_st (st' := []) rfl ?_
      refine A_iinc (lv' := [(4, .int (iI (v4 + (-1)))), (0, .ref a), (1, .int (iI x1))]) C dX6_weigh_80 2 rfl (by decide) rfl ?_
      refine A_goto C 25 dX6_weigh_83 (by decide) ?_
      refine A_pick [1, 2, 0] rfl ?_
      exact ih (v4 + (-1)) M20 (by omega) (by omega) WM20 EM20
set_option maxHeartbeats 4000000 in
theorem kX6_weigh  {a : Nat} (ha : kd a = 17) {x1 : Int} {x2 : Int} {x3 : Int} (hx1 : (0 : Int) ≤ x1 ∧ x1 ≤ 12) (hx2 : (0 : Int) ≤ x2 ∧ x2 ≤ 12) (hx3 : (0 : Int) ≤ x3 ∧ x3 ≤ 1) : Ct yX6_weigh wsX6_weigh 3 [.ref a, .int (iI x1), .int (iI x2), .int (iI x3)] (fun M => WF M) (fun M r M' => r = none ∧ WF M' ∧ Fr [17, 18, 19] M M') := by
  refine Ct_of (cc := cX6_weigh) (nL := 5) (rt := none) (own := RX6) rfl (by decide) rfl (Nat.le_of_ble_eq_true rfl) ?_
  intro p l e s m args below meth c G M0 C W
  have E : Fr [17, 18, 19] M0 M0 := Fr.rf
  refine A_lv (lv' := [(0, .ref a), (1, .int (iI x1)), (2, .int (iI x2)), (3, .int (iI x3))]) rfl ?_
  refine A_aloadn C dX6_weigh_0 0 rfl rfl ?_
  refine A_iloadn C dX6_weigh_1 2 rfl rfl ?_
  refine G_putI C W E ha rfl rfl rfl rfl rfl fX6_weigh_25 ⟨tyX6_ok, nmX6, rfl, by decide⟩ (Or.inl rfl) rfl rfl (by omega) (by omega) dX6_weigh_2 (fun M23 eM23 WM23 EM23 => ?_)
  refine A_aloadn C dX6_weigh_5 0 rfl rfl ?_
  refine A_iloadn C dX6_weigh_6 3 rfl rfl ?_
  refine G_putI C WM23 EM23 ha rfl rfl rfl rfl rfl fX6_weigh_29 ⟨tyX6_ok, nmX6, rfl, by decide⟩ (Or.inr ⟨rfl, by omega⟩) rfl rfl (by omega) (by omega) dX6_weigh_7 (fun M24 eM24 WM24 EM24 => ?_)
  refine A_aloadn C dX6_weigh_10 0 rfl rfl ?_
  refine A_iloadn C dX6_weigh_11 2 rfl rfl ?_
  refine A_callV C (n := 1) (st := []) (kX6_clearRests ha (by omega)) gX6_weigh_X6_clearRests rfl (by decide +kernel) ⟨Nat.le_of_ble_eq_true rfl, Nat.le_of_ble_eq_true rfl⟩ ha rfl rfl rfl rfl (Nat.le_of_ble_eq_true rfl) dX6_weigh_12 rfl WM24 (fun r25 M26 h27 => ?_)
  obtain ⟨rfl, WM26, FM26⟩ := h27
  have EM26 := Fr.tr EM24 (FM26.mono (c2 := [17, 18, 19]) rfl)
  refine A_st (st' := []) rfl ?_
  refine A_aloadn C dX6_weigh_15 0 rfl rfl ?_
  refine A_iloadn C dX6_weigh_16 2 rfl rfl ?_
  refine A_callV C (n := 1) (st := []) (kX6_allowEnd ha (by omega)) gX6_weigh_X6_allowEnd rfl (by decide +kernel) ⟨Nat.le_of_ble_eq_true rfl, Nat.le_of_ble_eq_true rfl⟩ ha rfl rfl rfl rfl (Nat.le_of_ble_eq_true rfl) dX6_weigh_17 rfl WM26 (fun r29 M30 h31 => ?_)
  obtain ⟨rfl, WM30, FM30⟩ := h31
  have EM30 := Fr.tr EM26 (FM30.mono (c2 := [17, 18, 19]) rfl)
  refine A_st (st' := []) rfl ?_
  refine A_iloadn C dX6_weigh_20 2 rfl rfl ?_
  refine A_iconst C dX6_weigh_21 ?_
  refine A_isub C dX6_weigh_22 ?_
  refine A_nami (fun z33 ez33 => ?_)
  refine A_istore (lv' := [(4, .int (iI z33)), (0, .ref a), (1, .int (iI x1)), (2, .int (iI x2)), (3, .int (iI x3))]) C dX6_weigh_23 (by decide) rfl ?_
  refine A_pick [1, 2, 0] rfl ?_
  exact lpX6_weigh_25 C  ha hx1 hx2 hx3 ((z33 + 1).toNat + 1) z33 M30 (by omega) (by omega) WM30 EM30

theorem uX6_stands_6 : ∀ w ∈ u_ws RX6 TX6 7, w ∈ wsX6_stands := by decide +kernel
theorem uX6_stands_4 : ∀ w ∈ u_ws RX4 TX4 2, w ∈ wsX6_stands := by decide +kernel
theorem fX6_stands_33 : Fl RX6 wsX6_stands 6 0 33 RX6 TX6 7 := ⟨rfl, by decide, uX6_stands_6, by decide +kernel⟩
theorem fX6_stands_41 : Fl RX6 wsX6_stands 4 1 41 RX4 TX4 2 := ⟨rfl, by decide, uX6_stands_4, by decide +kernel⟩
theorem fX6_stands_15 : Fl RX6 wsX6_stands 6 2 15 RX6 TX6 7 := ⟨rfl, by decide, uX6_stands_6, by decide +kernel⟩
set_option maxHeartbeats 4000000 in
theorem kX6_stands  {a : Nat} (ha : kd a = 17) {x1 : Int} {x2 : Int} (hx1 : r64 x1) (hx2 : r64 x2) : Ct yX6_stands wsX6_stands 4 [.ref a, .long (lL x1), .long (lL x2)] (fun M => WF M) (fun M r M' => ∃ z : Int, r = some (.int (iI z)) ∧ (0 : Int) ≤ z ∧ z ≤ 1 ∧ WF M' ∧ Fr [17, 18, 19] M M') := by
  refine Ct_of (cc := cX6_stands) (nL := 5) (rt := (some .boolean)) (own := RX6) rfl (by decide) rfl (Nat.le_of_ble_eq_true rfl) ?_
  intro p l e s m args below meth c G M0 C W
  have E : Fr [17, 18, 19] M0 M0 := Fr.rf
  refine A_lv (lv' := [(0, .ref a), (1, .long (lL x1)), (3, .long (lL x2))]) rfl ?_
  refine A_aloadn C dX6_stands_0 0 rfl rfl ?_
  refine A_lloadn C dX6_stands_1 1 rfl rfl ?_
  refine A_lloadn C dX6_stands_2 2 rfl rfl ?_
  refine A_callV C (n := 2) (st := []) (kX6_aim ha (by omega) (by omega)) gX6_stands_X6_aim rfl (by decide +kernel) ⟨Nat.le_of_ble_eq_true rfl, Nat.le_of_ble_eq_true rfl⟩ ha rfl rfl rfl rfl (Nat.le_of_ble_eq_true rfl) dX6_stands_3 rfl W (fun r1 M2 h3 => ?_)
  obtain ⟨rfl, WM2, FM2⟩ := h3
  have EM2 := Fr.tr E (FM2.mono (c2 := [17, 18, 19]) rfl)
  refine A_st (st' := []) rfl ?_
  refine A_aloadn C dX6_stands_6 0 rfl rfl ?_
  refine A_iconst C dX6_stands_7 ?_
  refine A_aloadn C dX6_stands_8 0 rfl rfl ?_
  obtain ⟨b5, hb5, qb5⟩ := WM2.2.2.2 a ha
  refine A_getR C ha rfl rfl rfl hb5 fX6_stands_33 dX6_stands_9 ?_
  refine gr_getI C WM2 qb5 fX6_stands_41 dX6_stands_12 (fun z7 ez7 lz7 uz7 => ?_)
  refine A_iconst C dX6_stands_15 ?_
  refine A_callV C (n := 3) (st := []) (kX6_weigh ha (by omega) (by omega) (by omega)) gX6_stands_X6_weigh rfl (by decide +kernel) ⟨Nat.le_of_ble_eq_true rfl, Nat.le_of_ble_eq_true rfl⟩ ha rfl rfl rfl rfl (Nat.le_of_ble_eq_true rfl) dX6_stands_16 rfl WM2 (fun r8 M9 h10 => ?_)
  obtain ⟨rfl, WM9, FM9⟩ := h10
  have EM9 := Fr.tr EM2 (FM9.mono (c2 := [17, 18, 19]) rfl)
  refine A_st (st' := []) rfl ?_
  refine A_aloadn C dX6_stands_19 0 rfl rfl ?_
  refine G_getR C WM9 ha rfl rfl rfl rfl fX6_stands_15 dX6_stands_20 (fun b12 hb12 qb12 => ?_)
  refine A_aloadn C dX6_stands_23 0 rfl rfl ?_
  refine A_callV C (n := 0) (st := [.ref b12]) (kX6_leastStart ha) gX6_stands_X6_leastStart rfl (by decide +kernel) ⟨Nat.le_of_ble_eq_true rfl, Nat.le_of_ble_eq_true rfl⟩ ha rfl rfl rfl rfl (Nat.le_of_ble_eq_true rfl) dX6_stands_24 rfl WM9 (fun r13 M14 h15 => ?_)
  obtain ⟨z17, rfl, lz17, uz17, WM14, FM14⟩ := h15
  have EM14 := Fr.tr EM9 (FM14.mono (c2 := [17, 18, 19]) rfl)
  refine A_st (st' := [.int (iI z17), .ref b12]) rfl ?_
  refine G_lald C WM14 qb12 rfl rfl (by decide) (by omega) (by omega) dX6_stands_27 (fun z18 ez18 rz18 => ?_)
  refine A_lconst0 C dX6_stands_28 ?_
  refine A_lcmp C (by omega) (by omega) dX6_stands_29 (fun z19 cz19 => ?_)
  refine A_iflt C 37 dX6_stands_30 (by decide) (by omega) (fun c20 => ?_) (fun c20 => ?_)
  · skip
    refine A_iconst C dX6_stands_37 ?_
    exact A_zret C (by omega) dX6_stands_38 ⟨0, rfl, by omega, by omega, WM14, EM14⟩
  · skip
    refine A_iconst C dX6_stands_33 ?_
    refine A_goto C 38 dX6_stands_34 (by decide) ?_
    exact A_zret C (by omega) dX6_stands_38 ⟨1, rfl, by omega, by omega, WM14, EM14⟩

theorem uX6_follow_6 : ∀ w ∈ u_ws RX6 TX6 7, w ∈ wsX6_follow := by decide +kernel
theorem uX6_follow_4 : ∀ w ∈ u_ws RX4 TX4 2, w ∈ wsX6_follow := by decide +kernel
theorem uX6_follow_1 : ∀ w ∈ u_ws RX1 TX1 9, w ∈ wsX6_follow := by decide +kernel
theorem fX6_follow_25 : Fl RX6 wsX6_follow 6 5 25 RX6 TX6 7 := ⟨rfl, by decide, uX6_follow_6, by decide +kernel⟩
theorem fX6_follow_29 : Fl RX6 wsX6_follow 6 6 29 RX6 TX6 7 := ⟨rfl, by decide, uX6_follow_6, by decide +kernel⟩
theorem fX6_follow_33 : Fl RX6 wsX6_follow 6 0 33 RX6 TX6 7 := ⟨rfl, by decide, uX6_follow_6, by decide +kernel⟩
theorem fX6_follow_90 : Fl RX6 wsX6_follow 4 0 90 RX4 TX4 2 := ⟨rfl, by decide, uX6_follow_4, by decide +kernel⟩
theorem fX6_follow_94 : Fl RX6 wsX6_follow 1 1 94 RX1 TX1 9 := ⟨rfl, by decide, uX6_follow_1, by decide +kernel⟩
set_option maxHeartbeats 4000000 in
theorem lpX6_follow_28 {p : Program} {l : Launch} {e : Env} {s : State} {m : MethodId} {args : Array Value} {below : List Frame} {meth : Method} {c : Code} {G : xG} (C : Cx p s m args meth c G cX6_follow 10 RX6 wsX6_follow none)  {a : Nat} (ha : kd a = 17) {b : Nat} (hb : kd b = 21) {x1 : Int} {x2 : Int} (hx1 : (0 : Int) ≤ x1 ∧ x1 ≤ 11) (hx2 : r64 x2) {M0 : Mem} : ∀ (n : Nat) (v5 v6 v8 : Int) (M : Mem), (13 - v8).toNat < n → (0 ≤ v5 ∧ v5 ≤ 24 ∧ r64 v6 ∧ x1 ≤ v8 ∧ v8 ≤ 12 ∧ M.1 b 1 = x1 ∧ M.1 b 2 ≤ 1 + (v8 - x1)) → WF M → Fr [21, 22] M0 M → AW p l e (rmD 4) s m args below meth c G 10 (QQ G below args s ((fun M r M' => r = none ∧ WF M' ∧ Fr [21, 22] M M' ∧ (M'.1 b 1 + M'.1 b 2 ≤ 13)) M0)) M 28 [(0, .ref a), (1, .int (iI x1)), (4, .ref b), (5, .int (iI v5)), (6, .long (lL v6)), (8, .int (iI v8))] [] := by
  intro n
  induction n with
  | zero => intro v5 v6 v8 M hn; exact absurd hn (Nat.not_lt_zero _)
  | succ n ih =>
    intro v5 v6 v8 M hn hi W E
    refine A_iload C dX6_follow_28 5 rfl ?_
    refine A_aloadn C dX6_follow_30 0 rfl rfl ?_
    refine G_getI C W ha rfl rfl rfl rfl rfl fX6_follow_25 rfl dX6_follow_31 (fun z1 ez1 lz1 uz1 => ?_)
    refine A_icmpge C 129 dX6_follow_34 (by decide) (by omega) (by omega) (fun c2 => ?_) (fun c2 => ?_)
    · skip
      exact A_vret C dX6_follow_129 ⟨rfl, W, E, by omega⟩
    · skip
      refine A_iload C dX6_follow_37 5 rfl ?_
      refine A_iloadn C dX6_follow_39 1 rfl rfl ?_
      refine A_icmple C 78 dX6_follow_40 (by decide) (by omega) (by omega) (fun c3 => ?_) (fun c3 => ?_)
      · skip
        refine A_aloadn C dX6_follow_78 0 rfl rfl ?_
        refine A_iload C dX6_follow_79 5 rfl ?_
        refine A_iload C dX6_follow_81 3 rfl ?_
        refine A_lload C dX6_follow_83 4 rfl ?_
        refine A_callV C (n := 3) (st := []) (kX6_leastRight ha (by omega) (by omega) (by omega)) gX6_follow_X6_leastRight rfl (by decide +kernel) ⟨Nat.le_of_ble_eq_true rfl, Nat.le_of_ble_eq_true rfl⟩ ha rfl rfl rfl rfl (Nat.le_of_ble_eq_true rfl) dX6_follow_85 rfl W (fun r4 M5 h6 => ?_)
        obtain ⟨z8, rfl, lz8, uz8, WM5, FM5⟩ := h6
        have EM5 := Fr.tr E (FM5.mono (c2 := [21, 22]) rfl)
        have tM5b1 := congrFun (FM5 b (by rw [hb]; rfl)).1 1
        have tM5b2 := congrFun (FM5 b (by rw [hb]; rfl)).1 2
        refine A_st (st' := [.int (iI z8)]) rfl ?_
        refine A_istore (lv' := [(9, .int (iI z8)), (0, .ref a), (1, .int (iI x1)), (4, .ref b), (5, .int (iI v5)), (6, .long (lL v6)), (8, .int (iI v8))]) C dX6_follow_88 (by decide) rfl ?_
        refine A_iload C dX6_follow_90 0 rfl ?_
        refine A_iconst C dX6_follow_92 ?_
        refine A_icmpne C 97 dX6_follow_93 (by decide) (by omega) (by omega) (fun c9 => ?_) (fun c9 => ?_)
        · skip
          refine A_lload C dX6_follow_97 5 rfl ?_
          refine A_aloadn C dX6_follow_99 1 rfl rfl ?_
          refine A_iload C dX6_follow_100 6 rfl ?_
          refine A_iload C dX6_follow_102 4 rfl ?_
          refine A_iload C dX6_follow_104 0 rfl ?_
          refine A_callV C (n := 3) (st := [.long (lL v6)]) (kX6_keyOf ha (by omega) (by omega) (by omega)) gX6_follow_X6_keyOf rfl (by decide +kernel) ⟨Nat.le_of_ble_eq_true rfl, Nat.le_of_ble_eq_true rfl⟩ ha rfl rfl rfl rfl (Nat.le_of_ble_eq_true rfl) dX6_follow_106 rfl WM5 (fun r10 M11 h12 => ?_)
          obtain ⟨z14, rfl, rz14, WM11, FM11⟩ := h12
          have EM11 := Fr.tr EM5 (FM11.mono (c2 := [21, 22]) rfl)
          have tM11b1 := congrFun (FM11 b (by rw [hb]; rfl)).1 1
          have tM11b2 := congrFun (FM11 b (by rw [hb]; rfl)).1 2
          refine A_st (st' := [.long (lL z14), .long (lL v6)]) rfl ?_
          refine A_lsub C dX6_follow_109 ?_
          refine A_topl (fun z15 rz15 ez15 => ?_)
          refine A_lstore (lv' := [(6, .long (lL z15)), (9, .int (iI z8)), (0, .ref a), (1, .int (iI x1)), (4, .ref b), (5, .int (iI v5)), (8, .int (iI v8))]) C dX6_follow_110 (by decide) rfl ?_
          refine A_aload C dX6_follow_112 4 rfl ?_
          refine A_iload C dX6_follow_114 1 rfl ?_
          refine A_callV C (n := 1) (st := []) (kX5_add_21 hb (by omega)) gX6_follow_X5_add rfl (by decide +kernel) ⟨Nat.le_of_ble_eq_true rfl, Nat.le_of_ble_eq_true rfl⟩ hb rfl rfl rfl rfl (Nat.le_of_ble_eq_true rfl) dX6_follow_116 rfl WM11 (fun r16 M17 h18 => ?_)
          obtain ⟨rfl, WM17, FM17, xx19⟩ := h18
          have EM17 := Fr.tr EM11 (FM17.mono (c2 := [21, 22]) rfl)
          refine A_st (st' := []) rfl ?_
          refine A_iload C dX6_follow_119 1 rfl ?_
          refine A_istore (lv' := [(5, .int (iI z8)), (6, .long (lL z15)), (9, .int (iI z8)), (0, .ref a), (1, .int (iI x1)), (4, .ref b), (8, .int (iI v8))]) C dX6_follow_121 (by decide) rfl ?_
          refine A_iinc (lv' := [(8, .int (iI (v8 + 1))), (5, .int (iI z8)), (6, .long (lL z15)), (9, .int (iI z8)), (0, .ref a), (1, .int (iI x1)), (4, .ref b)]) C dX6_follow_123 6 rfl (by decide) rfl ?_
          refine A_goto C 28 dX6_follow_126 (by decide) ?_
          refine A_pick [4, 5, 6, 1, 2, 0] rfl ?_
          exact ih z8 z15 (v8 + 1) M17 (by omega) (by omega) WM17 EM17
        · skip
          exact A_vret C dX6_follow_96 ⟨rfl, WM5, EM5, by omega⟩
      · skip
        refine A_aloadn C dX6_follow_43 0 rfl rfl ?_
        refine G_getI C W ha rfl rfl rfl rfl rfl fX6_follow_29 rfl dX6_follow_44 (fun z20 ez20 lz20 uz20 => ?_)
        refine A_ifeq C 78 dX6_follow_47 (by decide) (by omega) (fun c21 => ?_) (fun c21 => ?_)
        · skip
          refine A_aloadn C dX6_follow_78 0 rfl rfl ?_
          refine A_iload C dX6_follow_79 5 rfl ?_
          refine A_iload C dX6_follow_81 3 rfl ?_
          refine A_lload C dX6_follow_83 4 rfl ?_
          refine A_callV C (n := 3) (st := []) (kX6_leastRight ha (by omega) (by omega) (by omega)) gX6_follow_X6_leastRight rfl (by decide +kernel) ⟨Nat.le_of_ble_eq_true rfl, Nat.le_of_ble_eq_true rfl⟩ ha rfl rfl rfl rfl (Nat.le_of_ble_eq_true rfl) dX6_follow_85 rfl W (fun r22 M23 h24 => ?_)
          obtain ⟨z26, rfl, lz26, uz26, WM23, FM23⟩ := h24
          have EM23 := Fr.tr E (FM23.mono (c2 := [21, 22]) rfl)
          have tM23b1 := congrFun (FM23 b (by rw [hb]; rfl)).1 1
          have tM23b2 := congrFun (FM23 b (by rw [hb]; rfl)).1 2
          refine A_st (st' := [.int (iI z26)]) rfl ?_
          refine A_istore (lv' := [(9, .int (iI z26)), (0, .ref a), (1, .int (iI x1)), (4, .ref b), (5, .int (iI v5)), (6, .long (lL v6)), (8, .int (iI v8))]) C dX6_follow_88 (by decide) rfl ?_
          refine A_iload C dX6_follow_90 0 rfl ?_
          refine A_iconst C dX6_follow_92 ?_
          refine A_icmpne C 97 dX6_follow_93 (by decide) (by omega) (by omega) (fun c27 => ?_) (fun c27 => ?_)
          · skip
            refine A_lload C dX6_follow_97 5 rfl ?_
            refine A_aloadn C dX6_follow_99 1 rfl rfl ?_
            refine A_iload C dX6_follow_100 6 rfl ?_
            refine A_iload C dX6_follow_102 4 rfl ?_
            refine A_iload C dX6_follow_104 0 rfl ?_
            refine A_callV C (n := 3) (st := [.long (lL v6)]) (kX6_keyOf ha (by omega) (by omega) (by omega)) gX6_follow_X6_keyOf rfl (by decide +kernel) ⟨Nat.le_of_ble_eq_true rfl, Nat.le_of_ble_eq_true rfl⟩ ha rfl rfl rfl rfl (Nat.le_of_ble_eq_true rfl) dX6_follow_106 rfl WM23 (fun r28 M29 h30 => ?_)
            obtain ⟨z32, rfl, rz32, WM29, FM29⟩ := h30
            have EM29 := Fr.tr EM23 (FM29.mono (c2 := [21, 22]) rfl)
            have tM29b1 := congrFun (FM29 b (by rw [hb]; rfl)).1 1
            have tM29b2 := congrFun (FM29 b (by rw [hb]; rfl)).1 2
            refine A_st (st' := [.long (lL z32), .long (lL v6)]) rfl ?_
            refine A_lsub C dX6_follow_109 ?_
            refine A_topl (fun z33 rz33 ez33 => ?_)
            refine A_lstore (lv' := [(6, .long (lL z33)), (9, .int (iI z26)), (0, .ref a), (1, .int (iI x1)), (4, .ref b), (5, .int (iI v5)), (8, .int (iI v8))]) C dX6_follow_110 (by decide) rfl ?_
            refine A_aload C dX6_follow_112 4 rfl ?_
            refine A_iload C dX6_follow_114 1 rfl ?_
            refine A_callV C (n := 1) (st := []) (kX5_add_21 hb (by omega)) gX6_follow_X5_add rfl (by decide +kernel) ⟨Nat.le_of_ble_eq_true rfl, Nat.le_of_ble_eq_true rfl⟩ hb rfl rfl rfl rfl (Nat.le_of_ble_eq_true rfl) dX6_follow_116 rfl WM29 (fun r34 M35 h36 => ?_)
            obtain ⟨rfl, WM35, FM35, xx37⟩ := h36
            have EM35 := Fr.tr EM29 (FM35.mono (c2 := [21, 22]) rfl)
            refine A_st (st' := []) rfl ?_
            refine A_iload C dX6_follow_119 1 rfl ?_
            refine A_istore (lv' := [(5, .int (iI z26)), (6, .long (lL z33)), (9, .int (iI z26)), (0, .ref a), (1, .int (iI x1)), (4, .ref b), (8, .int (iI v8))]) C dX6_follow_121 (by decide) rfl ?_
            refine A_iinc (lv' := [(8, .int (iI (v8 + 1))), (5, .int (iI z26)), (6, .long (lL z33)), (9, .int (iI z26)), (0, .ref a), (1, .int (iI x1)), (4, .ref b)]) C dX6_follow_123 6 rfl (by decide) rfl ?_
            refine A_goto C 28 dX6_follow_126 (by decide) ?_
            refine A_pick [4, 5, 6, 1, 2, 0] rfl ?_
            exact ih z26 z33 (v8 + 1) M35 (by omega) (by omega) WM35 EM35
          · skip
            exact A_vret C dX6_follow_96 ⟨rfl, WM23, EM23, by omega⟩
        · skip
          refine A_lload C dX6_follow_50 4 rfl ?_
          refine A_lconst0 C dX6_follow_52 ?_
          refine A_lcmp C (by omega) (by omega) dX6_follow_53 (fun z38 cz38 => ?_)
          refine A_iflt C 78 dX6_follow_54 (by decide) (by omega) (fun c39 => ?_) (fun c39 => ?_)
          · skip
            refine A_aloadn C dX6_follow_78 0 rfl rfl ?_
            refine A_iload C dX6_follow_79 5 rfl ?_
            refine A_iload C dX6_follow_81 3 rfl ?_
            refine A_lload C dX6_follow_83 4 rfl ?_
            refine A_callV C (n := 3) (st := []) (kX6_leastRight ha (by omega) (by omega) (by omega)) gX6_follow_X6_leastRight rfl (by decide +kernel) ⟨Nat.le_of_ble_eq_true rfl, Nat.le_of_ble_eq_true rfl⟩ ha rfl rfl rfl rfl (Nat.le_of_ble_eq_true rfl) dX6_follow_85 rfl W (fun r40 M41 h42 => ?_)
            obtain ⟨z44, rfl, lz44, uz44, WM41, FM41⟩ := h42
            have EM41 := Fr.tr E (FM41.mono (c2 := [21, 22]) rfl)
            have tM41b1 := congrFun (FM41 b (by rw [hb]; rfl)).1 1
            have tM41b2 := congrFun (FM41 b (by rw [hb]; rfl)).1 2
            refine A_st (st' := [.int (iI z44)]) rfl ?_
            refine A_istore (lv' := [(9, .int (iI z44)), (0, .ref a), (1, .int (iI x1)), (4, .ref b), (5, .int (iI v5)), (6, .long (lL v6)), (8, .int (iI v8))]) C dX6_follow_88 (by decide) rfl ?_
            refine A_iload C dX6_follow_90 0 rfl ?_
            refine A_iconst C dX6_follow_92 ?_
            refine A_icmpne C 97 dX6_follow_93 (by decide) (by omega) (by omega) (fun c45 => ?_) (fun c45 => ?_)
            · skip
              refine A_lload C dX6_follow_97 5 rfl ?_
              refine A_aloadn C dX6_follow_99 1 rfl rfl ?_
              refine A_iload C dX6_follow_100 6 rfl ?_
              refine A_iload C dX6_follow_102 4 rfl ?_
              refine A_iload C dX6_follow_104 0 rfl ?_
              refine A_callV C (n := 3) (st := [.long (lL v6)]) (kX6_keyOf ha (by omega) (by omega) (by omega)) gX6_follow_X6_keyOf rfl (by decide +kernel) ⟨Nat.le_of_ble_eq_true rfl, Nat.le_of_ble_eq_true rfl⟩ ha rfl rfl rfl rfl (Nat.le_of_ble_eq_true rfl) dX6_follow_106 rfl WM41 (fun r46 M47 h48 => ?_)
              obtain ⟨z50, rfl, rz50, WM47, FM47⟩ := h48
              have EM47 := Fr.tr EM41 (FM47.mono (c2 := [21, 22]) rfl)
              have tM47b1 := congrFun (FM47 b (by rw [hb]; rfl)).1 1
              have tM47b2 := congrFun (FM47 b (by rw [hb]; rfl)).1 2
              refine A_st (st' := [.long (lL z50), .long (lL v6)]) rfl ?_
              refine A_lsub C dX6_follow_109 ?_
              refine A_topl (fun z51 rz51 ez51 => ?_)
              refine A_lstore (lv' := [(6, .long (lL z51)), (9, .int (iI z44)), (0, .ref a), (1, .int (iI x1)), (4, .ref b), (5, .int (iI v5)), (8, .int (iI v8))]) C dX6_follow_110 (by decide) rfl ?_
              refine A_aload C dX6_follow_112 4 rfl ?_
              refine A_iload C dX6_follow_114 1 rfl ?_
              refine A_callV C (n := 1) (st := []) (kX5_add_21 hb (by omega)) gX6_follow_X5_add rfl (by decide +kernel) ⟨Nat.le_of_ble_eq_true rfl, Nat.le_of_ble_eq_true rfl⟩ hb rfl rfl rfl rfl (Nat.le_of_ble_eq_true rfl) dX6_follow_116 rfl WM47 (fun r52 M53 h54 => ?_)
              obtain ⟨rfl, WM53, FM53, xx55⟩ := h54
              have EM53 := Fr.tr EM47 (FM53.mono (c2 := [21, 22]) rfl)
              refine A_st (st' := []) rfl ?_
              refine A_iload C dX6_follow_119 1 rfl ?_
              refine A_istore (lv' := [(5, .int (iI z44)), (6, .long (lL z51)), (9, .int (iI z44)), (0, .ref a), (1, .int (iI x1)), (4, .ref b), (8, .int (iI v8))]) C dX6_follow_121 (by decide) rfl ?_
              refine A_iinc (lv' := [(8, .int (iI (v8 + 1))), (5, .int (iI z44)), (6, .long (lL z51)), (9, .int (iI z44)), (0, .ref a), (1, .int (iI x1)), (4, .ref b)]) C dX6_follow_123 6 rfl (by decide) rfl ?_
              refine A_goto C 28 dX6_follow_126 (by decide) ?_
              refine A_pick [4, 5, 6, 1, 2, 0] rfl ?_
              exact ih z44 z51 (v8 + 1) M53 (by omega) (by omega) WM53 EM53
            · skip
              exact A_vret C dX6_follow_96 ⟨rfl, WM41, EM41, by omega⟩
          · skip
            refine A_iload C dX6_follow_57 3 rfl ?_
            refine A_aloadn C dX6_follow_59 0 rfl rfl ?_
            obtain ⟨b56, hb56, qb56⟩ := W.2.2.2 a ha
            refine A_getR C ha rfl rfl rfl hb56 fX6_follow_33 dX6_follow_60 ?_
            obtain ⟨b58, hb58, qb58⟩ := gr_cols W qb56
            refine gr_getR C qb56 hb58 fX6_follow_90 dX6_follow_63 ?_
            refine A_iload C dX6_follow_66 5 rfl ?_
            refine A_iconst C dX6_follow_68 ?_
            refine A_isub C dX6_follow_69 ?_
            refine G_aald C W qb58 (by omega) (by omega) dX6_follow_70 (fun b59 hb59 qb59 => ?_)
            refine G_getI C W qb59 rfl rfl rfl rfl rfl fX6_follow_94 rfl dX6_follow_71 (fun z60 ez60 lz60 uz60 => ?_)
            refine A_icmpne C 78 dX6_follow_74 (by decide) (by omega) (by omega) (fun c61 => ?_) (fun c61 => ?_)
            · skip
              refine A_aloadn C dX6_follow_78 0 rfl rfl ?_
              refine A_iload C dX6_follow_79 5 rfl ?_
              refine A_iload C dX6_follow_81 3 rfl ?_
              refine A_lload C dX6_follow_83 4 rfl ?_
              refine A_callV C (n := 3) (st := []) (kX6_leastRight ha (by omega) (by omega) (by omega)) gX6_follow_X6_leastRight rfl (by decide +kernel) ⟨Nat.le_of_ble_eq_true rfl, Nat.le_of_ble_eq_true rfl⟩ ha rfl rfl rfl rfl (Nat.le_of_ble_eq_true rfl) dX6_follow_85 rfl W (fun r62 M63 h64 => ?_)
              obtain ⟨z66, rfl, lz66, uz66, WM63, FM63⟩ := h64
              have EM63 := Fr.tr E (FM63.mono (c2 := [21, 22]) rfl)
              have tM63b1 := congrFun (FM63 b (by rw [hb]; rfl)).1 1
              have tM63b2 := congrFun (FM63 b (by rw [hb]; rfl)).1 2
              refine A_st (st' := [.int (iI z66)]) rfl ?_
              refine A_istore (lv' := [(9, .int (iI z66)), (0, .ref a), (1, .int (iI x1)), (4, .ref b), (5, .int (iI v5)), (6, .long (lL v6)), (8, .int (iI v8))]) C dX6_follow_88 (by decide) rfl ?_
              refine A_iload C dX6_follow_90 0 rfl ?_
              refine A_iconst C dX6_follow_92 ?_
              refine A_icmpne C 97 dX6_follow_93 (by decide) (by omega) (by omega) (fun c67 => ?_) (fun c67 => ?_)
              · skip
                refine A_lload C dX6_follow_97 5 rfl ?_
                refine A_aloadn C dX6_follow_99 1 rfl rfl ?_
                refine A_iload C dX6_follow_100 6 rfl ?_
                refine A_iload C dX6_follow_102 4 rfl ?_
                refine A_iload C dX6_follow_104 0 rfl ?_
                refine A_callV C (n := 3) (st := [.long (lL v6)]) (kX6_keyOf ha (by omega) (by omega) (by omega)) gX6_follow_X6_keyOf rfl (by decide +kernel) ⟨Nat.le_of_ble_eq_true rfl, Nat.le_of_ble_eq_true rfl⟩ ha rfl rfl rfl rfl (Nat.le_of_ble_eq_true rfl) dX6_follow_106 rfl WM63 (fun r68 M69 h70 => ?_)
                obtain ⟨z72, rfl, rz72, WM69, FM69⟩ := h70
                have EM69 := Fr.tr EM63 (FM69.mono (c2 := [21, 22]) rfl)
                have tM69b1 := congrFun (FM69 b (by rw [hb]; rfl)).1 1
                have tM69b2 := congrFun (FM69 b (by rw [hb]; rfl)).1 2
                refine A_st (st' := [.long (lL z72), .long (lL v6)]) rfl ?_
                refine A_lsub C dX6_follow_109 ?_
                refine A_topl (fun z73 rz73 ez73 => ?_)
                refine A_lstore (lv' := [(6, .long (lL z73)), (9, .int (iI z66)), (0, .ref a), (1, .int (iI x1)), (4, .ref b), (5, .int (iI v5)), (8, .int (iI v8))]) C dX6_follow_110 (by decide) rfl ?_
                refine A_aload C dX6_follow_112 4 rfl ?_
                refine A_iload C dX6_follow_114 1 rfl ?_
                refine A_callV C (n := 1) (st := []) (kX5_add_21 hb (by omega)) gX6_follow_X5_add rfl (by decide +kernel) ⟨Nat.le_of_ble_eq_true rfl, Nat.le_of_ble_eq_true rfl⟩ hb rfl rfl rfl rfl (Nat.le_of_ble_eq_true rfl) dX6_follow_116 rfl WM69 (fun r74 M75 h76 => ?_)
                obtain ⟨rfl, WM75, FM75, xx77⟩ := h76
                have EM75 := Fr.tr EM69 (FM75.mono (c2 := [21, 22]) rfl)
                refine A_st (st' := []) rfl ?_
                refine A_iload C dX6_follow_119 1 rfl ?_
                refine A_istore (lv' := [(5, .int (iI z66)), (6, .long (lL z73)), (9, .int (iI z66)), (0, .ref a), (1, .int (iI x1)), (4, .ref b), (8, .int (iI v8))]) C dX6_follow_121 (by decide) rfl ?_
                refine A_iinc (lv' := [(8, .int (iI (v8 + 1))), (5, .int (iI z66)), (6, .long (lL z73)), (9, .int (iI z66)), (0, .ref a), (1, .int (iI x1)), (4, .ref b)]) C dX6_follow_123 6 rfl (by decide) rfl ?_
                refine A_goto C 28 dX6_follow_126 (by decide) ?_
                refine A_pick [4, 5, 6, 1, 2, 0] rfl ?_
                exact ih z66 z73 (v8 + 1) M75 (by omega) (by omega) WM75 EM75
              · skip
                exact A_vret C dX6_follow_96 ⟨rfl, WM63, EM63, by omega⟩
            · skip
              exact A_vret C dX6_follow_77 ⟨rfl, W, E, by omega⟩
set_option maxHeartbeats 4000000 in
theorem kX6_follow  {a : Nat} (ha : kd a = 17) {b : Nat} (hb : kd b = 21) {x1 : Int} {x2 : Int} (hx1 : (0 : Int) ≤ x1 ∧ x1 ≤ 11) (hx2 : r64 x2) : Ct yX6_follow wsX6_follow 4 [.ref a, .int (iI x1), .long (lL x2), .ref b] (fun M => WF M) (fun M r M' => r = none ∧ WF M' ∧ Fr [21, 22] M M' ∧ (M'.1 b 1 + M'.1 b 2 ≤ 13)) := by
  refine Ct_of (cc := cX6_follow) (nL := 10) (rt := none) (own := RX6) rfl (by decide) rfl (Nat.le_of_ble_eq_true rfl) ?_
  intro p l e s m args below meth c G M0 C W
  have E : Fr [21, 22] M0 M0 := Fr.rf
  refine A_lv (lv' := [(0, .ref a), (1, .int (iI x1)), (2, .long (lL x2)), (4, .ref b)]) rfl ?_
  refine A_aloadn C dX6_follow_0 0 rfl rfl ?_
  obtain ⟨b78, hb78, qb78⟩ := W.2.2.2 a ha
  refine A_getR C ha rfl rfl rfl hb78 fX6_follow_33 dX6_follow_1 ?_
  obtain ⟨b80, hb80, qb80⟩ := gr_cols W qb78
  refine gr_getR C qb78 hb80 fX6_follow_90 dX6_follow_4 ?_
  refine A_iloadn C dX6_follow_7 1 rfl rfl ?_
  refine G_aald C W qb80 (by omega) (by omega) dX6_follow_8 (fun b81 hb81 qb81 => ?_)
  refine G_getI C W qb81 rfl rfl rfl rfl rfl fX6_follow_94 rfl dX6_follow_9 (fun z82 ez82 lz82 uz82 => ?_)
  refine A_istore (lv' := [(5, .int (iI z82)), (0, .ref a), (1, .int (iI x1)), (2, .long (lL x2)), (4, .ref b)]) C dX6_follow_12 (by decide) rfl ?_
  refine A_lloadn C dX6_follow_14 3 rfl rfl ?_
  refine A_lstore (lv' := [(6, .long (lL x2)), (5, .int (iI z82)), (0, .ref a), (1, .int (iI x1)), (2, .long (lL x2)), (4, .ref b)]) C dX6_follow_15 (by decide) rfl ?_
  refine A_aload C dX6_follow_17 5 rfl ?_
  refine A_iloadn C dX6_follow_19 3 rfl rfl ?_
  refine A_iload C dX6_follow_20 1 rfl ?_
  refine A_callV C (n := 2) (st := []) (kX5_startAt_21 hb (by omega) (by omega)) gX6_follow_X5_startAt rfl (by decide +kernel) ⟨Nat.le_of_ble_eq_true rfl, Nat.le_of_ble_eq_true rfl⟩ hb rfl rfl rfl rfl (Nat.le_of_ble_eq_true rfl) dX6_follow_22 rfl W (fun r83 M84 h85 => ?_)
  obtain ⟨rfl, WM84, FM84, xx86⟩ := h85
  have EM84 := Fr.tr E (FM84.mono (c2 := [21, 22]) rfl)
  refine A_st (st' := []) rfl ?_
  refine A_iloadn C dX6_follow_25 3 rfl rfl ?_
  refine A_istore (lv' := [(8, .int (iI x1)), (6, .long (lL x2)), (5, .int (iI z82)), (0, .ref a), (1, .int (iI x1)), (2, .long (lL x2)), (4, .ref b)]) C dX6_follow_26 (by decide) rfl ?_
  refine A_pick [3, 4, 6, 2, 1, 0] rfl ?_
  exact lpX6_follow_28 C  ha hb hx1 hx2 ((13 - x1).toNat + 1) z82 x2 x1 M84 (by omega) (by omega) WM84 EM84

theorem uX6_findWorst_6 : ∀ w ∈ u_ws RX6 TX6 7, w ∈ wsX6_findWorst := by decide +kernel
theorem uX6_findWorst_4 : ∀ w ∈ u_ws RX4 TX4 2, w ∈ wsX6_findWorst := by decide +kernel
theorem uX6_findWorst_3 : ∀ w ∈ u_ws RX3 TX3 2, w ∈ wsX6_findWorst := by decide +kernel
theorem fX6_findWorst_33 : Fl RX6 wsX6_findWorst 6 0 33 RX6 TX6 7 := ⟨rfl, by decide, uX6_findWorst_6, by decide +kernel⟩
theorem fX6_findWorst_41 : Fl RX6 wsX6_findWorst 4 1 41 RX4 TX4 2 := ⟨rfl, by decide, uX6_findWorst_4, by decide +kernel⟩
theorem fX6_findWorst_15 : Fl RX6 wsX6_findWorst 6 2 15 RX6 TX6 7 := ⟨rfl, by decide, uX6_findWorst_6, by decide +kernel⟩
theorem fX6_findWorst_70 : Fl RX6 wsX6_findWorst 3 0 70 RX3 TX3 2 := ⟨rfl, by decide, uX6_findWorst_3, by decide +kernel⟩
theorem fX6_findWorst_73 : Fl RX6 wsX6_findWorst 3 1 73 RX3 TX3 2 := ⟨rfl, by decide, uX6_findWorst_3, by decide +kernel⟩
set_option maxHeartbeats 4000000 in
theorem lpX6_findWorst_8 {p : Program} {l : Launch} {e : Env} {s : State} {m : MethodId} {args : Array Value} {below : List Frame} {meth : Method} {c : Code} {G : xG} (C : Cx p s m args meth c G cX6_findWorst 5 RX6 wsX6_findWorst (some .boolean))  {a : Nat} (ha : kd a = 17) {b : Nat} (hb : kd b = 21) {f : Nat} (hf : kd f = 23) {M0 : Mem} : ∀ (n : Nat) (v3 : Int) (M : Mem), (1001 - v3).toNat < n → (0 ≤ v3 ∧ v3 ≤ 1000) → WF M → Fr [17, 18, 19, 21, 22, 23, 8, 10, 11] M0 M → AW p l e (rmD 6) s m args below meth c G 5 (QQ G below args s ((fun M r M' => ∃ z : Int, r = some (.int (iI z)) ∧ (0 : Int) ≤ z ∧ z ≤ 1 ∧ WF M' ∧ Fr [17, 18, 19, 21, 22, 23, 8, 10, 11] M M') M0)) M 8 [(0, .ref a), (1, .ref b), (2, .ref f), (3, .int (iI v3))] [] := by
  intro n
  induction n with
  | zero => intro v3 M hn; exact absurd hn (Nat.not_lt_zero _)
  | succ n ih =>
    intro v3 M hn hi W E
    refine A_iloadn C dX6_findWorst_8 3 rfl rfl ?_
    refine A_sipush C dX6_findWorst_9 (by decide) ?_
    refine A_icmpge C 108 dX6_findWorst_12 (by decide) (by omega) (by omega) (fun c1 => ?_) (fun c1 => ?_)
    · skip
      refine A_iconst C dX6_findWorst_108 ?_
      exact A_zret C (by omega) dX6_findWorst_109 ⟨0, rfl, by omega, by omega, W, E⟩
    · skip
      refine A_aloadn C dX6_findWorst_15 0 rfl rfl ?_
      refine A_iconst C dX6_findWorst_16 ?_
      refine A_aloadn C dX6_findWorst_17 0 rfl rfl ?_
      obtain ⟨b2, hb2, qb2⟩ := W.2.2.2 a ha
      refine A_getR C ha rfl rfl rfl hb2 fX6_findWorst_33 dX6_findWorst_18 ?_
      refine gr_getI C W qb2 fX6_findWorst_41 dX6_findWorst_21 (fun z4 ez4 lz4 uz4 => ?_)
      refine A_iconst C dX6_findWorst_24 ?_
      refine A_callV C (n := 3) (st := []) (kX6_weigh ha (by omega) (by omega) (by omega)) gX6_findWorst_X6_weigh rfl (by decide +kernel) ⟨Nat.le_of_ble_eq_true rfl, Nat.le_of_ble_eq_true rfl⟩ ha rfl rfl rfl rfl (Nat.le_of_ble_eq_true rfl) dX6_findWorst_25 rfl W (fun r5 M6 h7 => ?_)
      obtain ⟨rfl, WM6, FM6⟩ := h7
      have EM6 := Fr.tr E (FM6.mono (c2 := [17, 18, 19, 21, 22, 23, 8, 10, 11]) rfl)
      have tM6b1 := congrFun (FM6 b (by rw [hb]; rfl)).1 1
      have tM6b2 := congrFun (FM6 b (by rw [hb]; rfl)).1 2
      refine A_st (st' := []) rfl ?_
      refine A_aloadn C dX6_findWorst_28 0 rfl rfl ?_
      refine A_callV C (n := 0) (st := []) (kX6_leastStart ha) gX6_findWorst_X6_leastStart rfl (by decide +kernel) ⟨Nat.le_of_ble_eq_true rfl, Nat.le_of_ble_eq_true rfl⟩ ha rfl rfl rfl rfl (Nat.le_of_ble_eq_true rfl) dX6_findWorst_29 rfl WM6 (fun r9 M10 h11 => ?_)
      obtain ⟨z13, rfl, lz13, uz13, WM10, FM10⟩ := h11
      have EM10 := Fr.tr EM6 (FM10.mono (c2 := [17, 18, 19, 21, 22, 23, 8, 10, 11]) rfl)
      have tM10b1 := congrFun (FM10 b (by rw [hb]; rfl)).1 1
      have tM10b2 := congrFun (FM10 b (by rw [hb]; rfl)).1 2
      refine A_st (st' := [.int (iI z13)]) rfl ?_
      refine A_istore (lv' := [(4, .int (iI z13)), (0, .ref a), (1, .ref b), (2, .ref f), (3, .int (iI v3))]) C dX6_findWorst_32 (by decide) rfl ?_
      refine A_aloadn C dX6_findWorst_34 1 rfl rfl ?_
      refine G_getR C WM10 ha rfl rfl rfl rfl fX6_findWorst_15 dX6_findWorst_35 (fun b14 hb14 qb14 => ?_)
      refine A_iload C dX6_findWorst_38 0 rfl ?_
      refine G_lald C WM10 qb14 rfl rfl (by decide) (by omega) (by omega) dX6_findWorst_40 (fun z15 ez15 rz15 => ?_)
      refine A_lconst0 C dX6_findWorst_41 ?_
      refine A_lcmp C (by omega) (by omega) dX6_findWorst_42 (fun z16 cz16 => ?_)
      refine A_iflt C 56 dX6_findWorst_43 (by decide) (by omega) (fun c17 => ?_) (fun c17 => ?_)
      · skip
        refine A_aloadn C dX6_findWorst_56 1 rfl rfl ?_
        refine A_iload C dX6_findWorst_57 0 rfl ?_
        refine A_aloadn C dX6_findWorst_59 1 rfl rfl ?_
        refine G_getR C WM10 ha rfl rfl rfl rfl fX6_findWorst_15 dX6_findWorst_60 (fun b18 hb18 qb18 => ?_)
        refine A_iload C dX6_findWorst_63 0 rfl ?_
        refine G_lald C WM10 qb18 rfl rfl (by decide) (by omega) (by omega) dX6_findWorst_65 (fun z19 ez19 rz19 => ?_)
        refine A_aloadn C dX6_findWorst_66 2 rfl rfl ?_
        refine A_callV C (n := 3) (st := []) (kX6_follow ha hb (by omega) (by omega)) gX6_findWorst_X6_follow rfl (by decide +kernel) ⟨Nat.le_of_ble_eq_true rfl, Nat.le_of_ble_eq_true rfl⟩ ha rfl rfl rfl rfl (Nat.le_of_ble_eq_true rfl) dX6_findWorst_67 rfl WM10 (fun r20 M21 h22 => ?_)
        obtain ⟨rfl, WM21, FM21, xx23⟩ := h22
        have EM21 := Fr.tr EM10 (FM21.mono (c2 := [17, 18, 19, 21, 22, 23, 8, 10, 11]) rfl)
        refine A_st (st' := []) rfl ?_
        refine A_aloadn C dX6_findWorst_70 3 rfl rfl ?_
        refine A_aloadn C dX6_findWorst_71 1 rfl rfl ?_
        obtain ⟨b24, hb24, qb24⟩ := WM21.2.2.2 a ha
        refine A_getR C ha rfl rfl rfl hb24 fX6_findWorst_33 dX6_findWorst_72 ?_
        refine A_aloadn C dX6_findWorst_75 2 rfl rfl ?_
        refine gr_callV C (n := 1) (st := [.ref f]) (kX4_holdsAlong_G_21 qb24 hb) gX6_findWorst_X4_holdsAlong rfl (by decide +kernel) ⟨Nat.le_of_ble_eq_true rfl, Nat.le_of_ble_eq_true rfl⟩ qb24 rfl rfl (Nat.le_of_ble_eq_true rfl) dX6_findWorst_76 rfl ⟨WM21, by omega⟩ (fun r26 M27 h28 => ?_)
        obtain ⟨z30, rfl, rz30, WM27, FM27⟩ := h28
        have EM27 := Fr.tr EM21 (FM27.mono (c2 := [17, 18, 19, 21, 22, 23, 8, 10, 11]) rfl)
        have tM27b1 := congrFun (FM27 b (by rw [hb]; rfl)).1 1
        have tM27b2 := congrFun (FM27 b (by rw [hb]; rfl)).1 2
        refine A_st (st' := [.long (lL z30), .ref f]) rfl ?_
        refine A_aloadn C dX6_findWorst_79 1 rfl rfl ?_
        obtain ⟨b31, hb31, qb31⟩ := WM27.2.2.2 a ha
        refine A_getR C ha rfl rfl rfl hb31 fX6_findWorst_33 dX6_findWorst_80 ?_
        refine A_aloadn C dX6_findWorst_83 2 rfl rfl ?_
        refine gr_callV C (n := 1) (st := [.long (lL z30), .ref f]) (kX4_drivesAlong_G_21 qb31 hb) gX6_findWorst_X4_drivesAlong rfl (by decide +kernel) ⟨Nat.le_of_ble_eq_true rfl, Nat.le_of_ble_eq_true rfl⟩ qb31 rfl rfl (Nat.le_of_ble_eq_true rfl) dX6_findWorst_84 rfl ⟨WM27, by omega⟩ (fun r33 M34 h35 => ?_)
        obtain ⟨z37, rfl, rz37, WM34, FM34⟩ := h35
        have EM34 := Fr.tr EM27 (FM34.mono (c2 := [17, 18, 19, 21, 22, 23, 8, 10, 11]) rfl)
        have tM34b1 := congrFun (FM34 b (by rw [hb]; rfl)).1 1
        have tM34b2 := congrFun (FM34 b (by rw [hb]; rfl)).1 2
        refine A_st (st' := [.long (lL z37), .long (lL z30), .ref f]) rfl ?_
        refine A_callV C (n := 2) (st := []) (kX3_become hf (by omega) (by omega)) gX6_findWorst_X3_become rfl (by decide +kernel) ⟨Nat.le_of_ble_eq_true rfl, Nat.le_of_ble_eq_true rfl⟩ hf rfl rfl rfl rfl (Nat.le_of_ble_eq_true rfl) dX6_findWorst_87 rfl WM34 (fun r38 M39 h40 => ?_)
        obtain ⟨rfl, WM39, FM39⟩ := h40
        have EM39 := Fr.tr EM34 (FM39.mono (c2 := [17, 18, 19, 21, 22, 23, 8, 10, 11]) rfl)
        have tM39b1 := congrFun (FM39 b (by rw [hb]; rfl)).1 1
        have tM39b2 := congrFun (FM39 b (by rw [hb]; rfl)).1 2
        refine A_st (st' := []) rfl ?_
        refine A_aloadn C dX6_findWorst_90 1 rfl rfl ?_
        refine A_aloadn C dX6_findWorst_91 3 rfl rfl ?_
        refine G_getL C WM39 hf rfl rfl rfl fX6_findWorst_70 dX6_findWorst_92 (fun z42 ez42 rz42 => ?_)
        refine A_aloadn C dX6_findWorst_95 3 rfl rfl ?_
        refine G_getL C WM39 hf rfl rfl rfl fX6_findWorst_73 dX6_findWorst_96 (fun z43 ez43 rz43 => ?_)
        refine A_callV C (n := 2) (st := []) (kX6_aim ha (by omega) (by omega)) gX6_findWorst_X6_aim rfl (by decide +kernel) ⟨Nat.le_of_ble_eq_true rfl, Nat.le_of_ble_eq_true rfl⟩ ha rfl rfl rfl rfl (Nat.le_of_ble_eq_true rfl) dX6_findWorst_99 rfl WM39 (fun r44 M45 h46 => ?_)
        obtain ⟨rfl, WM45, FM45⟩ := h46
        have EM45 := Fr.tr EM39 (FM45.mono (c2 := [17, 18, 19, 21, 22, 23, 8, 10, 11]) rfl)
        have tM45b1 := congrFun (FM45 b (by rw [hb]; rfl)).1 1
        have tM45b2 := congrFun (FM45 b (by rw [hb]; rfl)).1 2
        refine A_st (st' := []) rfl ?_
        refine A_iinc (lv' := [(3, .int (iI (v3 + 1))), (4, .int (iI z13)), (0, .ref a), (1, .ref b), (2, .ref f)]) C dX6_findWorst_102 4 rfl (by decide) rfl ?_
        refine A_goto C 8 dX6_findWorst_105 (by decide) ?_
        refine A_pick [2, 3, 4, 0] rfl ?_
        exact ih (v3 + 1) M45 (by omega) (by omega) WM45 EM45
      · skip
        refine A_iloadn C dX6_findWorst_46 4 rfl rfl ?_
        refine A_ifle C 54 dX6_findWorst_47 (by decide) (by omega) (fun c48 => ?_) (fun c48 => ?_)
        · skip
          refine A_iconst C dX6_findWorst_54 ?_
          exact A_zret C (by omega) dX6_findWorst_55 ⟨0, rfl, by omega, by omega, WM10, EM10⟩
        · skip
          refine A_iconst C dX6_findWorst_50 ?_
          refine A_goto C 55 dX6_findWorst_51 (by decide) ?_
          exact A_zret C (by omega) dX6_findWorst_55 ⟨1, rfl, by omega, by omega, WM10, EM10⟩
set_option maxHeartbeats 4000000 in
theorem kX6_findWorst  {a : Nat} (ha : kd a = 17) {b : Nat} (hb : kd b = 21) {f : Nat} (hf : kd f = 23) : Ct yX6_findWorst wsX6_findWorst 6 [.ref a, .ref b, .ref f] (fun M => WF M) (fun M r M' => ∃ z : Int, r = some (.int (iI z)) ∧ (0 : Int) ≤ z ∧ z ≤ 1 ∧ WF M' ∧ Fr [17, 18, 19, 21, 22, 23, 8, 10, 11] M M') := by
  refine Ct_of (cc := cX6_findWorst) (nL := 5) (rt := (some .boolean)) (own := RX6) rfl (by decide) rfl (Nat.le_of_ble_eq_true rfl) ?_
  intro p l e s m args below meth c G M0 C W
  have E : Fr [17, 18, 19, 21, 22, 23, 8, 10, 11] M0 M0 := Fr.rf
  refine A_lv (lv' := [(0, .ref a), (1, .ref b), (2, .ref f)]) rfl ?_
  refine A_aloadn C dX6_findWorst_0 0 rfl rfl ?_
  refine A_lconst1 C dX6_findWorst_1 ?_
  refine A_lconst0 C dX6_findWorst_2 ?_
  refine A_callV C (n := 2) (st := []) (kX6_aim ha (by omega) (by omega)) gX6_findWorst_X6_aim rfl (by decide +kernel) ⟨Nat.le_of_ble_eq_true rfl, Nat.le_of_ble_eq_true rfl⟩ ha rfl rfl rfl rfl (Nat.le_of_ble_eq_true rfl) dX6_findWorst_3 rfl W (fun r49 M50 h51 => ?_)
  obtain ⟨rfl, WM50, FM50⟩ := h51
  have EM50 := Fr.tr E (FM50.mono (c2 := [17, 18, 19, 21, 22, 23, 8, 10, 11]) rfl)
  have tM50b1 := congrFun (FM50 b (by rw [hb]; rfl)).1 1
  have tM50b2 := congrFun (FM50 b (by rw [hb]; rfl)).1 2
  refine A_st (st' := []) rfl ?_
  refine A_iconst C dX6_findWorst_6 ?_
  refine A_istoren (lv' := [(3, .int (iI 0)), (0, .ref a), (1, .ref b), (2, .ref f)]) C dX6_findWorst_7 rfl (by decide) rfl ?_
  refine A_pick [1, 2, 3, 0] rfl ?_
  exact lpX6_findWorst_8 C  ha hb hf ((1001 - (0 : Int)).toNat + 1) 0 M50 (by omega) (by omega) WM50 EM50

theorem uX6_findFirst_6 : ∀ w ∈ u_ws RX6 TX6 7, w ∈ wsX6_findFirst := by decide +kernel
theorem uX6_findFirst_4 : ∀ w ∈ u_ws RX4 TX4 2, w ∈ wsX6_findFirst := by decide +kernel
theorem uX6_findFirst_3 : ∀ w ∈ u_ws RX3 TX3 2, w ∈ wsX6_findFirst := by decide +kernel
theorem fX6_findFirst_33 : Fl RX6 wsX6_findFirst 6 0 33 RX6 TX6 7 := ⟨rfl, by decide, uX6_findFirst_6, by decide +kernel⟩
theorem fX6_findFirst_41 : Fl RX6 wsX6_findFirst 4 1 41 RX4 TX4 2 := ⟨rfl, by decide, uX6_findFirst_4, by decide +kernel⟩
theorem fX6_findFirst_15 : Fl RX6 wsX6_findFirst 6 2 15 RX6 TX6 7 := ⟨rfl, by decide, uX6_findFirst_6, by decide +kernel⟩
theorem fX6_findFirst_70 : Fl RX6 wsX6_findFirst 3 0 70 RX3 TX3 2 := ⟨rfl, by decide, uX6_findFirst_3, by decide +kernel⟩
theorem fX6_findFirst_73 : Fl RX6 wsX6_findFirst 3 1 73 RX3 TX3 2 := ⟨rfl, by decide, uX6_findFirst_3, by decide +kernel⟩
set_option maxHeartbeats 4000000 in
theorem lpX6_findFirst_72 {p : Program} {l : Launch} {e : Env} {s : State} {m : MethodId} {args : Array Value} {below : List Frame} {meth : Method} {c : Code} {G : xG} (C : Cx p s m args meth c G cX6_findFirst 5 RX6 wsX6_findFirst none)  {a : Nat} (ha : kd a = 17) {b : Nat} (hb : kd b = 21) {f : Nat} (hf : kd f = 23) {M0 : Mem} : ∀ (n : Nat) (v3 v4 : Int) (M : Mem), (14 - v4).toNat < n → (0 ≤ v3 ∧ v3 ≤ 11 ∧ v3 + 1 ≤ v4 ∧ v4 ≤ 13) → WF M → Fr [17, 18, 19, 21, 22] M0 M → AW p l e (rmD 5) s m args below meth c G 5 (QQ G below args s ((fun M r M' => r = none ∧ WF M' ∧ Fr [17, 18, 19, 21, 22] M M') M0)) M 72 [(0, .ref a), (1, .ref b), (3, .int (iI v3)), (4, .int (iI v4))] [] := by
  intro n
  induction n with
  | zero => intro v3 v4 M hn; exact absurd hn (Nat.not_lt_zero _)
  | succ n ih =>
    intro v3 v4 M hn hi W E
    refine A_iload C dX6_findFirst_72 3 rfl ?_
    refine A_aloadn C dX6_findFirst_74 0 rfl rfl ?_
    obtain ⟨b1, hb1, qb1⟩ := W.2.2.2 a ha
    refine A_getR C ha rfl rfl rfl hb1 fX6_findFirst_33 dX6_findFirst_75 ?_
    refine gr_getI C W qb1 fX6_findFirst_41 dX6_findFirst_78 (fun z3 ez3 lz3 uz3 => ?_)
    refine A_icmpgt C 119 dX6_findFirst_81 (by decide) (by omega) (by omega) (fun c4 => ?_) (fun c4 => ?_)
    · skip
      exact A_vret C dX6_findFirst_119 ⟨rfl, W, E⟩
    · skip
      refine A_aloadn C dX6_findFirst_84 0 rfl rfl ?_
      refine A_iloadn C dX6_findFirst_85 2 rfl rfl ?_
      refine A_iload C dX6_findFirst_86 3 rfl ?_
      refine A_iconst C dX6_findFirst_88 ?_
      refine A_callV C (n := 3) (st := []) (kX6_weigh ha (by omega) (by omega) (by omega)) gX6_findFirst_X6_weigh rfl (by decide +kernel) ⟨Nat.le_of_ble_eq_true rfl, Nat.le_of_ble_eq_true rfl⟩ ha rfl rfl rfl rfl (Nat.le_of_ble_eq_true rfl) dX6_findFirst_89 rfl W (fun r5 M6 h7 => ?_)
      obtain ⟨rfl, WM6, FM6⟩ := h7
      have EM6 := Fr.tr E (FM6.mono (c2 := [17, 18, 19, 21, 22]) rfl)
      refine A_st (st' := []) rfl ?_
      refine A_aloadn C dX6_findFirst_92 0 rfl rfl ?_
      refine G_getR C WM6 ha rfl rfl rfl rfl fX6_findFirst_15 dX6_findFirst_93 (fun b9 hb9 qb9 => ?_)
      refine A_iloadn C dX6_findFirst_96 2 rfl rfl ?_
      refine G_lald C WM6 qb9 rfl rfl (by decide) (by omega) (by omega) dX6_findFirst_97 (fun z10 ez10 rz10 => ?_)
      refine A_lconst0 C dX6_findFirst_98 ?_
      refine A_lcmp C (by omega) (by omega) dX6_findFirst_99 (fun z11 cz11 => ?_)
      refine A_ifge C 113 dX6_findFirst_100 (by decide) (by omega) (fun c12 => ?_) (fun c12 => ?_)
      · skip
        refine A_iinc (lv' := [(4, .int (iI (v4 + 1))), (0, .ref a), (1, .ref b), (3, .int (iI v3))]) C dX6_findFirst_113 3 rfl (by decide) rfl ?_
        refine A_goto C 72 dX6_findFirst_116 (by decide) ?_
        refine A_pick [1, 2, 3, 0] rfl ?_
        exact ih v3 (v4 + 1) M6 (by omega) (by omega) WM6 EM6
      · skip
        refine A_aloadn C dX6_findFirst_103 0 rfl rfl ?_
        refine A_iloadn C dX6_findFirst_104 2 rfl rfl ?_
        refine A_ldc2 C (index := 78) (v := (-1)) (z := (-1)) (by decide +kernel) (by decide +kernel) dX6_findFirst_105 ?_
        refine A_aloadn C dX6_findFirst_108 1 rfl rfl ?_
        refine A_callV C (n := 3) (st := []) (kX6_follow ha hb (by omega) (by omega)) gX6_findFirst_X6_follow rfl (by decide +kernel) ⟨Nat.le_of_ble_eq_true rfl, Nat.le_of_ble_eq_true rfl⟩ ha rfl rfl rfl rfl (Nat.le_of_ble_eq_true rfl) dX6_findFirst_109 rfl WM6 (fun r13 M14 h15 => ?_)
        obtain ⟨rfl, WM14, FM14, xx16⟩ := h15
        have EM14 := Fr.tr EM6 (FM14.mono (c2 := [17, 18, 19, 21, 22]) rfl)
        refine A_st (st' := []) rfl ?_
        exact A_vret C dX6_findFirst_112 ⟨rfl, WM14, EM14⟩
set_option maxHeartbeats 4000000 in
theorem lpX6_findFirst_37 {p : Program} {l : Launch} {e : Env} {s : State} {m : MethodId} {args : Array Value} {below : List Frame} {meth : Method} {c : Code} {G : xG} (C : Cx p s m args meth c G cX6_findFirst 5 RX6 wsX6_findFirst none)  {a : Nat} (ha : kd a = 17) {b : Nat} (hb : kd b = 21) {f : Nat} (hf : kd f = 23) {M0 : Mem} : ∀ (n : Nat) (v3 : Int) (M : Mem), (12 - v3).toNat < n → (0 ≤ v3 ∧ v3 ≤ 11) → WF M → Fr [17, 18, 19, 21, 22] M0 M → AW p l e (rmD 5) s m args below meth c G 5 (QQ G below args s ((fun M r M' => r = none ∧ WF M' ∧ Fr [17, 18, 19, 21, 22] M M') M0)) M 37 [(0, .ref a), (1, .ref b), (3, .int (iI v3))] [] := by
  intro n
  induction n with
  | zero => intro v3 M hn; exact absurd hn (Nat.not_lt_zero _)
  | succ n ih =>
    intro v3 M hn hi W E
    refine A_iloadn C dX6_findFirst_37 2 rfl rfl ?_
    refine A_aloadn C dX6_findFirst_38 0 rfl rfl ?_
    obtain ⟨b17, hb17, qb17⟩ := W.2.2.2 a ha
    refine A_getR C ha rfl rfl rfl hb17 fX6_findFirst_33 dX6_findFirst_39 ?_
    refine gr_getI C W qb17 fX6_findFirst_41 dX6_findFirst_42 (fun z19 ez19 lz19 uz19 => ?_)
    refine A_iconst C dX6_findFirst_45 ?_
    refine A_isub C dX6_findFirst_46 ?_
    refine A_icmpge C 67 dX6_findFirst_47 (by decide) (by omega) (by omega) (fun c20 => ?_) (fun c20 => ?_)
    · skip
      refine A_iloadn C dX6_findFirst_67 2 rfl rfl ?_
      refine A_iconst C dX6_findFirst_68 ?_
      refine A_iadd C dX6_findFirst_69 ?_
      refine A_nami (fun z21 ez21 => ?_)
      refine A_istore (lv' := [(4, .int (iI z21)), (0, .ref a), (1, .ref b), (3, .int (iI v3))]) C dX6_findFirst_70 (by decide) rfl ?_
      refine A_pick [1, 2, 3, 0] rfl ?_
      exact lpX6_findFirst_72 C  ha hb hf ((14 - z21).toNat + 1) v3 z21 M (by omega) (by omega) W E
    · skip
      refine A_aloadn C dX6_findFirst_50 0 rfl rfl ?_
      refine G_getR C W ha rfl rfl rfl rfl fX6_findFirst_15 dX6_findFirst_51 (fun b22 hb22 qb22 => ?_)
      refine A_iloadn C dX6_findFirst_54 2 rfl rfl ?_
      refine G_lald C W qb22 rfl rfl (by decide) (by omega) (by omega) dX6_findFirst_55 (fun z23 ez23 rz23 => ?_)
      refine A_lconst0 C dX6_findFirst_56 ?_
      refine A_lcmp C (by omega) (by omega) dX6_findFirst_57 (fun z24 cz24 => ?_)
      refine A_iflt C 67 dX6_findFirst_58 (by decide) (by omega) (fun c25 => ?_) (fun c25 => ?_)
      · skip
        refine A_iloadn C dX6_findFirst_67 2 rfl rfl ?_
        refine A_iconst C dX6_findFirst_68 ?_
        refine A_iadd C dX6_findFirst_69 ?_
        refine A_nami (fun z26 ez26 => ?_)
        refine A_istore (lv' := [(4, .int (iI z26)), (0, .ref a), (1, .ref b), (3, .int (iI v3))]) C dX6_findFirst_70 (by decide) rfl ?_
        refine A_pick [1, 2, 3, 0] rfl ?_
        exact lpX6_findFirst_72 C  ha hb hf ((14 - z26).toNat + 1) v3 z26 M (by omega) (by omega) W E
      · skip
        refine A_iinc (lv' := [(3, .int (iI (v3 + 1))), (0, .ref a), (1, .ref b)]) C dX6_findFirst_61 2 rfl (by decide) rfl ?_
        refine A_goto C 37 dX6_findFirst_64 (by decide) ?_
        refine A_pick [1, 2, 0] rfl ?_
        exact ih (v3 + 1) M (by omega) (by omega) W E
set_option maxHeartbeats 4000000 in
theorem kX6_findFirst  {a : Nat} (ha : kd a = 17) {b : Nat} (hb : kd b = 21) {f : Nat} (hf : kd f = 23) : Ct yX6_findFirst wsX6_findFirst 5 [.ref a, .ref b, .ref f] (fun M => WF M) (fun M r M' => r = none ∧ WF M' ∧ Fr [17, 18, 19, 21, 22] M M') := by
  refine Ct_of (cc := cX6_findFirst) (nL := 5) (rt := none) (own := RX6) rfl (by decide) rfl (Nat.le_of_ble_eq_true rfl) ?_
  intro p l e s m args below meth c G M0 C W
  have E : Fr [17, 18, 19, 21, 22] M0 M0 := Fr.rf
  refine A_lv (lv' := [(0, .ref a), (1, .ref b), (2, .ref f)]) rfl ?_
  refine A_aloadn C dX6_findFirst_0 0 rfl rfl ?_
  refine A_aloadn C dX6_findFirst_1 2 rfl rfl ?_
  refine G_getL C W hf rfl rfl rfl fX6_findFirst_70 dX6_findFirst_2 (fun z27 ez27 rz27 => ?_)
  refine A_ldc2 C (index := 76) (v := 1048576) (z := 1048576) (by decide +kernel) (by decide +kernel) dX6_findFirst_5 ?_
  refine A_lmul C dX6_findFirst_8 ?_
  refine A_topl (fun z28 rz28 ez28 => ?_)
  refine A_lconst1 C dX6_findFirst_9 ?_
  refine A_ladd C dX6_findFirst_10 ?_
  refine A_topl (fun z29 rz29 ez29 => ?_)
  refine A_aloadn C dX6_findFirst_11 2 rfl rfl ?_
  refine G_getL C W hf rfl rfl rfl fX6_findFirst_73 dX6_findFirst_12 (fun z30 ez30 rz30 => ?_)
  refine A_ldc2 C (index := 76) (v := 1048576) (z := 1048576) (by decide +kernel) (by decide +kernel) dX6_findFirst_15 ?_
  refine A_lmul C dX6_findFirst_18 ?_
  refine A_topl (fun z31 rz31 ez31 => ?_)
  refine A_callV C (n := 2) (st := []) (kX6_aim ha (by omega) (by omega)) gX6_findFirst_X6_aim rfl (by decide +kernel) ⟨Nat.le_of_ble_eq_true rfl, Nat.le_of_ble_eq_true rfl⟩ ha rfl rfl rfl rfl (Nat.le_of_ble_eq_true rfl) dX6_findFirst_19 rfl W (fun r32 M33 h34 => ?_)
  obtain ⟨rfl, WM33, FM33⟩ := h34
  have EM33 := Fr.tr E (FM33.mono (c2 := [17, 18, 19, 21, 22]) rfl)
  refine A_st (st' := []) rfl ?_
  refine A_aloadn C dX6_findFirst_22 0 rfl rfl ?_
  refine A_iconst C dX6_findFirst_23 ?_
  refine A_aloadn C dX6_findFirst_24 0 rfl rfl ?_
  obtain ⟨b36, hb36, qb36⟩ := WM33.2.2.2 a ha
  refine A_getR C ha rfl rfl rfl hb36 fX6_findFirst_33 dX6_findFirst_25 ?_
  refine gr_getI C WM33 qb36 fX6_findFirst_41 dX6_findFirst_28 (fun z38 ez38 lz38 uz38 => ?_)
  refine A_iconst C dX6_findFirst_31 ?_
  refine A_callV C (n := 3) (st := []) (kX6_weigh ha (by omega) (by omega) (by omega)) gX6_findFirst_X6_weigh rfl (by decide +kernel) ⟨Nat.le_of_ble_eq_true rfl, Nat.le_of_ble_eq_true rfl⟩ ha rfl rfl rfl rfl (Nat.le_of_ble_eq_true rfl) dX6_findFirst_32 rfl WM33 (fun r39 M40 h41 => ?_)
  obtain ⟨rfl, WM40, FM40⟩ := h41
  have EM40 := Fr.tr EM33 (FM40.mono (c2 := [17, 18, 19, 21, 22]) rfl)
  refine A_st (st' := []) rfl ?_
  refine A_iconst C dX6_findFirst_35 ?_
  refine A_istoren (lv' := [(3, .int (iI 0)), (0, .ref a), (1, .ref b), (2, .ref f)]) C dX6_findFirst_36 rfl (by decide) rfl ?_
  refine A_pick [1, 2, 0] rfl ?_
  exact lpX6_findFirst_37 C  ha hb hf ((12 - (0 : Int)).toNat + 1) 0 M40 (by omega) (by omega) WM40 EM40

theorem uX0_doOn_0 : ∀ w ∈ u_ws RX0 TX0 4, w ∈ wsX0_doOn := by decide +kernel
theorem uX0_doOn_4 : ∀ w ∈ u_ws RX4 TX4 2, w ∈ wsX0_doOn := by decide +kernel
theorem uX0_doOn_1 : ∀ w ∈ u_ws RX1 TX1 9, w ∈ wsX0_doOn := by decide +kernel
theorem fX0_doOn_19 : Fl RX0 wsX0_doOn 0 2 19 RX0 TX0 4 := ⟨rfl, by decide, uX0_doOn_0, by decide +kernel⟩
theorem fX0_doOn_36 : Fl RX0 wsX0_doOn 4 0 36 RX4 TX4 2 := ⟨rfl, by decide, uX0_doOn_4, by decide +kernel⟩
theorem fX0_doOn_22 : Fl RX0 wsX0_doOn 0 3 22 RX0 TX0 4 := ⟨rfl, by decide, uX0_doOn_0, by decide +kernel⟩
theorem fX0_doOn_15 : Fl RX0 wsX0_doOn 0 1 15 RX0 TX0 4 := ⟨rfl, by decide, uX0_doOn_0, by decide +kernel⟩
theorem fX0_doOn_62 : Fl RX0 wsX0_doOn 1 3 62 RX1 TX1 9 := ⟨rfl, by decide, uX0_doOn_1, by decide +kernel⟩
theorem fX0_doOn_46 : Fl RX0 wsX0_doOn 1 4 46 RX1 TX1 9 := ⟨rfl, by decide, uX0_doOn_1, by decide +kernel⟩
theorem fX0_doOn_59 : Fl RX0 wsX0_doOn 1 2 59 RX1 TX1 9 := ⟨rfl, by decide, uX0_doOn_1, by decide +kernel⟩
set_option maxHeartbeats 4000000 in
theorem kX0_doOn  {a : Nat} (ha : kd a = 13) {b : Nat} (hb : (kd b = 6 ∨ kd b = 12)) {x1 : Int} (hx1 : (-2147483648 : Int) ≤ x1 ∧ x1 ≤ 2147483647) : Ct yX0_doOn wsX0_doOn 3 [.ref a, .ref b, .int (iI x1)] (fun M => WF M) (fun M r M' => r = none ∧ WF M' ∧ Fr [8] M M') := by
  refine Ct_of (cc := cX0_doOn) (nL := 5) (rt := none) (own := RX0) rfl (by decide) rfl (Nat.le_of_ble_eq_true rfl) ?_
  intro p l e s m args below meth c G M0 C W
  have E : Fr [8] M0 M0 := Fr.rf
  refine A_lv (lv' := [(0, .ref a), (1, .ref b), (2, .int (iI x1))]) rfl ?_
  refine A_aloadn C dX0_doOn_0 0 rfl rfl ?_
  refine A_iloadn C dX0_doOn_1 2 rfl rfl ?_
  refine A_callV C (n := 1) (st := []) (kX0_has ha (by omega)) gX0_doOn_X0_has rfl (by decide +kernel) ⟨Nat.le_of_ble_eq_true rfl, Nat.le_of_ble_eq_true rfl⟩ ha rfl rfl rfl rfl (Nat.le_of_ble_eq_true rfl) dX0_doOn_2 rfl W (fun r1 M2 h3 => ?_)
  obtain ⟨z5, rfl, lz5, uz5, WM2, FM2, xx4⟩ := h3
  have EM2 := Fr.tr E (FM2.mono (c2 := [8]) rfl)
  refine A_st (st' := [.int (iI z5)]) rfl ?_
  refine A_ifeq C 21 dX0_doOn_5 (by decide) (by omega) (fun c6 => ?_) (fun c6 => ?_)
  · skip
    exact A_vret C dX0_doOn_21 ⟨rfl, WM2, EM2⟩
  · skip
    refine A_aloadn C dX0_doOn_8 1 rfl rfl ?_
    refine A_aloadn C dX0_doOn_9 0 rfl rfl ?_
    refine G_getR C WM2 ha rfl rfl rfl rfl fX0_doOn_19 dX0_doOn_10 (fun b7 hb7 qb7 => ?_)
    refine A_iloadn C dX0_doOn_13 2 rfl rfl ?_
    refine G_iald C WM2 qb7 rfl rfl (by decide) (fun _ => rfl) (by omega) (by omega) dX0_doOn_14 (fun z8 ez8 lz8 uz8 => ?_)
    refine gr_callV C (n := 1) (st := []) (kX4_has hb (by omega)) gX0_doOn_X4_has rfl (by decide +kernel) ⟨Nat.le_of_ble_eq_true rfl, Nat.le_of_ble_eq_true rfl⟩ hb rfl rfl (Nat.le_of_ble_eq_true rfl) dX0_doOn_15 rfl WM2 (fun r9 M10 h11 => ?_)
    obtain ⟨z13, rfl, lz13, uz13, WM10, FM10, xx12⟩ := h11
    have EM10 := Fr.tr EM2 (FM10.mono (c2 := [8]) rfl)
    refine A_st (st' := [.int (iI z13)]) rfl ?_
    refine A_ifne C 22 dX0_doOn_18 (by decide) (by omega) (fun c14 => ?_) (fun c14 => ?_)
    · skip
      refine A_aloadn C dX0_doOn_22 1 rfl rfl ?_
      obtain ⟨b15, hb15, qb15⟩ := gr_cols WM10 hb
      refine gr_getR C hb hb15 fX0_doOn_36 dX0_doOn_23 ?_
      refine A_aloadn C dX0_doOn_26 0 rfl rfl ?_
      refine G_getR C WM10 ha rfl rfl rfl rfl fX0_doOn_19 dX0_doOn_27 (fun b16 hb16 qb16 => ?_)
      refine A_iloadn C dX0_doOn_30 2 rfl rfl ?_
      refine G_iald C WM10 qb16 rfl rfl (by decide) (fun _ => rfl) (by omega) (by omega) dX0_doOn_31 (fun z17 ez17 lz17 uz17 => ?_)
      refine G_aald C WM10 qb15 (by omega) (by omega) dX0_doOn_32 (fun b18 hb18 qb18 => ?_)
      refine A_astoren (lv' := [(3, .ref b18), (0, .ref a), (1, .ref b), (2, .int (iI x1))]) C dX0_doOn_33 rfl (by decide) rfl ?_
      refine A_aloadn C dX0_doOn_34 1 rfl rfl ?_
      refine G_getR C WM10 ha rfl rfl rfl rfl fX0_doOn_22 dX0_doOn_35 (fun b19 hb19 qb19 => ?_)
      refine A_iloadn C dX0_doOn_38 3 rfl rfl ?_
      refine G_iald C WM10 qb19 rfl rfl (by decide) (fun _ => rfl) (by omega) (by omega) dX0_doOn_39 (fun z20 ez20 lz20 uz20 => ?_)
      refine A_istore (lv' := [(4, .int (iI z20)), (3, .ref b18), (0, .ref a), (1, .ref b), (2, .int (iI x1))]) C dX0_doOn_40 (by decide) rfl ?_
      refine A_aloadn C dX0_doOn_42 2 rfl rfl ?_
      refine G_getR C WM10 ha rfl rfl rfl rfl fX0_doOn_15 dX0_doOn_43 (fun b21 hb21 qb21 => ?_)
      refine A_iloadn C dX0_doOn_46 4 rfl rfl ?_
      refine G_iald C WM10 qb21 rfl rfl (by decide) (fun _ => rfl) (by omega) (by omega) dX0_doOn_47 (fun z22 ez22 lz22 uz22 => ?_)
      rcases (show (z22 < 0 ∨ 2 < z22) ∨ z22 = 0 ∨ z22 = 1 ∨ z22 = 2 by omega) with c23 | c23 | c23 | c23
      · skip
        refine A_tabOut C 123 dX0_doOn_48 (by omega) c23 (by decide) ?_
        refine A_aloadn C dX0_doOn_123 1 rfl rfl ?_
        refine A_iconst C dX0_doOn_124 ?_
        refine A_aloadn C dX0_doOn_125 1 rfl rfl ?_
        refine G_getI C WM10 qb18 rfl rfl rfl rfl rfl fX0_doOn_62 rfl dX0_doOn_126 (fun z24 ez24 lz24 uz24 => ?_)
        refine A_iload C dX0_doOn_129 0 rfl ?_
        refine A_iadd C dX0_doOn_131 ?_
        refine A_sipush C dX0_doOn_132 (by decide) ?_
        refine A_min C (by omega) (by omega) (by decide +kernel) (by decide +kernel) (by decide +kernel) (by decide +kernel) (Nat.le_of_ble_eq_true rfl) (Nat.le_of_ble_eq_true rfl) dX0_doOn_135 (fun z25 ez25 lz25 uz25 => ?_)
        refine A_callV C (n := 2) (st := []) (kX1_put qb18 (by omega) (by omega) (by omega)) gX0_doOn_X1_put rfl (by decide +kernel) ⟨Nat.le_of_ble_eq_true rfl, Nat.le_of_ble_eq_true rfl⟩ qb18 rfl rfl rfl rfl (Nat.le_of_ble_eq_true rfl) dX0_doOn_138 rfl WM10 (fun r26 M27 h28 => ?_)
        obtain ⟨rfl, WM27, FM27⟩ := h28
        have EM27 := Fr.tr EM10 (FM27.mono (c2 := [8]) rfl)
        refine A_st (st' := []) rfl ?_
        exact A_vret C dX0_doOn_141 ⟨rfl, WM27, EM27⟩
      · skip
        refine A_tabIn C 0 76 dX0_doOn_48 c23 (by decide) (by decide) (by decide) rfl (by decide) ?_
        refine A_aloadn C dX0_doOn_76 1 rfl rfl ?_
        refine A_iload C dX0_doOn_77 0 rfl ?_
        refine A_callV C (n := 1) (st := []) (kX1_digTo qb18 (by omega)) gX0_doOn_X1_digTo rfl (by decide +kernel) ⟨Nat.le_of_ble_eq_true rfl, Nat.le_of_ble_eq_true rfl⟩ qb18 rfl rfl rfl rfl (Nat.le_of_ble_eq_true rfl) dX0_doOn_79 rfl WM10 (fun r30 M31 h32 => ?_)
        obtain ⟨rfl, WM31, FM31⟩ := h32
        have EM31 := Fr.tr EM10 (FM31.mono (c2 := [8]) rfl)
        refine A_st (st' := []) rfl ?_
        refine A_goto C 141 dX0_doOn_82 (by decide) ?_
        exact A_vret C dX0_doOn_141 ⟨rfl, WM31, EM31⟩
      · skip
        refine A_tabIn C 1 85 dX0_doOn_48 c23 (by decide) (by decide) (by decide) rfl (by decide) ?_
        refine A_aloadn C dX0_doOn_85 1 rfl rfl ?_
        refine A_iconst C dX0_doOn_86 ?_
        refine A_aloadn C dX0_doOn_87 1 rfl rfl ?_
        refine G_getI C WM10 qb18 rfl rfl rfl rfl rfl fX0_doOn_46 rfl dX0_doOn_88 (fun z34 ez34 lz34 uz34 => ?_)
        refine A_iload C dX0_doOn_91 0 rfl ?_
        refine A_iadd C dX0_doOn_93 ?_
        refine A_sipush C dX0_doOn_94 (by decide) ?_
        refine A_min C (by omega) (by omega) (by decide +kernel) (by decide +kernel) (by decide +kernel) (by decide +kernel) (Nat.le_of_ble_eq_true rfl) (Nat.le_of_ble_eq_true rfl) dX0_doOn_97 (fun z35 ez35 lz35 uz35 => ?_)
        refine A_callV C (n := 2) (st := []) (kX1_put qb18 (by omega) (by omega) (by omega)) gX0_doOn_X1_put rfl (by decide +kernel) ⟨Nat.le_of_ble_eq_true rfl, Nat.le_of_ble_eq_true rfl⟩ qb18 rfl rfl rfl rfl (Nat.le_of_ble_eq_true rfl) dX0_doOn_100 rfl WM10 (fun r36 M37 h38 => ?_)
        obtain ⟨rfl, WM37, FM37⟩ := h38
        have EM37 := Fr.tr EM10 (FM37.mono (c2 := [8]) rfl)
        refine A_st (st' := []) rfl ?_
        refine A_goto C 141 dX0_doOn_103 (by decide) ?_
        exact A_vret C dX0_doOn_141 ⟨rfl, WM37, EM37⟩
      · skip
        refine A_tabIn C 2 106 dX0_doOn_48 c23 (by decide) (by decide) (by decide) rfl (by decide) ?_
        refine A_aloadn C dX0_doOn_106 1 rfl rfl ?_
        refine A_iconst C dX0_doOn_107 ?_
        refine A_aloadn C dX0_doOn_108 1 rfl rfl ?_
        refine G_getI C WM10 qb18 rfl rfl rfl rfl rfl fX0_doOn_59 rfl dX0_doOn_109 (fun z40 ez40 lz40 uz40 => ?_)
        refine A_iload C dX0_doOn_112 0 rfl ?_
        refine A_min C (by omega) (by omega) (by decide +kernel) (by decide +kernel) (by decide +kernel) (by decide +kernel) (Nat.le_of_ble_eq_true rfl) (Nat.le_of_ble_eq_true rfl) dX0_doOn_114 (fun z41 ez41 lz41 uz41 => ?_)
        refine A_callV C (n := 2) (st := []) (kX1_put qb18 (by omega) (by omega) (by omega)) gX0_doOn_X1_put rfl (by decide +kernel) ⟨Nat.le_of_ble_eq_true rfl, Nat.le_of_ble_eq_true rfl⟩ qb18 rfl rfl rfl rfl (Nat.le_of_ble_eq_true rfl) dX0_doOn_117 rfl WM10 (fun r42 M43 h44 => ?_)
        obtain ⟨rfl, WM43, FM43⟩ := h44
        have EM43 := Fr.tr EM10 (FM43.mono (c2 := [8]) rfl)
        refine A_st (st' := []) rfl ?_
        refine A_goto C 141 dX0_doOn_120 (by decide) ?_
        exact A_vret C dX0_doOn_141 ⟨rfl, WM43, EM43⟩
    · skip
      exact A_vret C dX0_doOn_21 ⟨rfl, WM10, EM10⟩
end
section
theorem uX7_ground_7 : ∀ w ∈ u_ws RX7 TX7 15, w ∈ wsX7_ground := by decide +kernel
theorem uX7_ground_0 : ∀ w ∈ u_ws RX0 TX0 4, w ∈ wsX7_ground := by decide +kernel
theorem fX7_ground_21 : Fl RX7 wsX7_ground 7 1 21 RX7 TX7 15 := ⟨rfl, by decide, uX7_ground_7, by decide +kernel⟩
theorem fX7_ground_34 : Fl RX7 wsX7_ground 7 3 34 RX7 TX7 15 := ⟨rfl, by decide, uX7_ground_7, by decide +kernel⟩
theorem fX7_ground_91 : Fl RX7 wsX7_ground 0 0 91 RX0 TX0 4 := ⟨rfl, by decide, uX7_ground_0, by decide +kernel⟩
theorem fX7_ground_48 : Fl RX7 wsX7_ground 7 5 48 RX7 TX7 15 := ⟨rfl, by decide, uX7_ground_7, by decide +kernel⟩
theorem fX7_ground_80 : Fl RX7 wsX7_ground 7 13 80 RX7 TX7 15 := ⟨rfl, by decide, uX7_ground_7, by decide +kernel⟩
set_option maxHeartbeats 4000000 in
theorem kX7_ground  {a : Nat} (ha : kd a = 0) {x1 : Int} (hx1 : (-2147483648 : Int) ≤ x1 ∧ x1 ≤ 2147483647) : Ct yX7_ground wsX7_ground 3 [.ref a, .int (iI x1)] (fun M => WF M) (fun M r M' => ∃ z : Int, r = some (.int (iI z)) ∧ (0 : Int) ≤ z ∧ z ≤ 1 ∧ WF M' ∧ Fr [0, 6, 8, 13, 20] M M' ∧ (z = 1 ↔ (2 ≤ x1 ∧ x1 ≤ 12))) := by
  refine Ct_of (cc := cX7_ground) (nL := 2) (rt := (some .boolean)) (own := RX7) rfl (by decide) rfl (Nat.le_of_ble_eq_true rfl) ?_
  intro p l e s m args below meth c G M0 C W
  have E : Fr [0, 6, 8, 13, 20] M0 M0 := Fr.rf
  refine A_lv (lv' := [(0, .ref a), (1, .int (iI x1))]) rfl ?_
  refine A_iloadn C dX7_ground_0 1 rfl rfl ?_
  refine A_iconst C dX7_ground_1 ?_
  refine A_icmplt C 11 dX7_ground_2 (by decide) (by omega) (by omega) (fun c1 => ?_) (fun c1 => ?_)
  · skip
    refine A_iconst C dX7_ground_11 ?_
    exact A_zret C (by omega) dX7_ground_12 ⟨0, rfl, by omega, by omega, W, E, by omega⟩
  · skip
    refine A_iloadn C dX7_ground_5 1 rfl rfl ?_
    refine A_bipush C dX7_ground_6 (by decide) ?_
    refine A_icmple C 13 dX7_ground_8 (by decide) (by omega) (by omega) (fun c2 => ?_) (fun c2 => ?_)
    · skip
      refine A_aloadn C dX7_ground_13 0 rfl rfl ?_
      refine G_getR C W ha rfl rfl rfl rfl fX7_ground_21 dX7_ground_14 (fun b3 hb3 qb3 => ?_)
      refine A_iloadn C dX7_ground_17 1 rfl rfl ?_
      refine A_callV C (n := 1) (st := []) (kX4_clearTo qb3 (by omega)) gX7_ground_X4_clearTo rfl (by decide +kernel) ⟨Nat.le_of_ble_eq_true rfl, Nat.le_of_ble_eq_true rfl⟩ qb3 rfl rfl rfl rfl (Nat.le_of_ble_eq_true rfl) dX7_ground_18 rfl W (fun r4 M5 h6 => ?_)
      obtain ⟨rfl, WM5, FM5⟩ := h6
      have EM5 := Fr.tr E (FM5.mono (c2 := [0, 6, 8, 13, 20]) rfl)
      refine A_st (st' := []) rfl ?_
      refine A_aloadn C dX7_ground_21 0 rfl rfl ?_
      refine G_getR C WM5 ha rfl rfl rfl rfl fX7_ground_34 dX7_ground_22 (fun b8 hb8 qb8 => ?_)
      refine A_iconst C dX7_ground_25 ?_
      refine G_putI C WM5 EM5 qb8 rfl rfl rfl rfl rfl fX7_ground_91 ⟨tyX0_ok, nmX0, rfl, by decide⟩ (Or.inl rfl) rfl rfl (by omega) (by omega) dX7_ground_26 (fun M9 eM9 WM9 EM9 => ?_)
      refine A_aloadn C dX7_ground_29 0 rfl rfl ?_
      refine G_getR C WM9 ha rfl rfl rfl rfl fX7_ground_48 dX7_ground_30 (fun b10 hb10 qb10 => ?_)
      refine A_callV C (n := 0) (st := []) (kX5_drop qb10) gX7_ground_X5_drop rfl (by decide +kernel) ⟨Nat.le_of_ble_eq_true rfl, Nat.le_of_ble_eq_true rfl⟩ qb10 rfl rfl rfl rfl (Nat.le_of_ble_eq_true rfl) dX7_ground_33 rfl WM9 (fun r11 M12 h13 => ?_)
      obtain ⟨rfl, WM12, FM12⟩ := h13
      have EM12 := Fr.tr EM9 (FM12.mono (c2 := [0, 6, 8, 13, 20]) rfl)
      refine A_st (st' := []) rfl ?_
      refine A_aloadn C dX7_ground_36 0 rfl rfl ?_
      refine A_iconst C dX7_ground_37 ?_
      refine G_putI C WM12 EM12 ha rfl rfl rfl rfl rfl fX7_ground_80 ⟨tyX7_ok, nmX7, rfl, by decide⟩ (Or.inr ⟨rfl, by omega⟩) rfl rfl (by omega) (by omega) dX7_ground_38 (fun M15 eM15 WM15 EM15 => ?_)
      refine A_iconst C dX7_ground_41 ?_
      exact A_zret C (by omega) dX7_ground_42 ⟨1, rfl, by omega, by omega, WM15, EM15, by omega⟩
    · skip
      refine A_iconst C dX7_ground_11 ?_
      exact A_zret C (by omega) dX7_ground_12 ⟨0, rfl, by omega, by omega, W, E, by omega⟩

theorem uX7_earth_7 : ∀ w ∈ u_ws RX7 TX7 15, w ∈ wsX7_earth := by decide +kernel
theorem fX7_earth_12 : Fl RX7 wsX7_earth 7 0 12 RX7 TX7 15 := ⟨rfl, by decide, uX7_earth_7, by decide +kernel⟩
set_option maxHeartbeats 4000000 in
theorem kX7_earth  {a : Nat} (ha : kd a = 0) {x1 : Int} {x2 : Int} {x3 : Int} {x4 : Int} (hx1 : (-2147483648 : Int) ≤ x1 ∧ x1 ≤ 2147483647) (hx2 : (-2147483648 : Int) ≤ x2 ∧ x2 ≤ 2147483647) (hx3 : (-2147483648 : Int) ≤ x3 ∧ x3 ≤ 2147483647) (hx4 : (0 : Int) ≤ x4 ∧ x4 ≤ 1) : Ct yX7_earth wsX7_earth 2 [.ref a, .int (iI x1), .int (iI x2), .int (iI x3), .int (iI x4)] (fun M => WF M) (fun M r M' => ∃ z : Int, r = some (.int (iI z)) ∧ (-1 : Int) ≤ z ∧ z ≤ 5 ∧ WF M' ∧ Fr [1, 2, 3, 4, 5] M M') := by
  refine Ct_of (cc := cX7_earth) (nL := 5) (rt := (some .int)) (own := RX7) rfl (by decide) rfl (Nat.le_of_ble_eq_true rfl) ?_
  intro p l e s m args below meth c G M0 C W
  have E : Fr [1, 2, 3, 4, 5] M0 M0 := Fr.rf
  refine A_lv (lv' := [(0, .ref a), (1, .int (iI x1)), (2, .int (iI x2)), (3, .int (iI x3)), (4, .int (iI x4))]) rfl ?_
  refine A_iloadn C dX7_earth_0 1 rfl rfl ?_
  refine A_iconst C dX7_earth_1 ?_
  refine A_bipush C dX7_earth_2 (by decide) ?_
  refine A_callS C (n := 3) (st := []) (kX7_within  (by omega) (by omega) (by omega)) gX7_earth_X7_within rfl (by decide +kernel) ⟨Nat.le_of_ble_eq_true rfl, Nat.le_of_ble_eq_true rfl⟩ rfl (Nat.le_of_ble_eq_true rfl) dX7_earth_4 rfl W (fun r1 M2 h3 => ?_)
  obtain ⟨z5, rfl, lz5, uz5, WM2, FM2, xx4⟩ := h3
  have EM2 := Fr.tr E (FM2.mono (c2 := [1, 2, 3, 4, 5]) rfl)
  refine A_st (st' := [.int (iI z5)]) rfl ?_
  refine A_ifne C 12 dX7_earth_7 (by decide) (by omega) (fun c6 => ?_) (fun c6 => ?_)
  · skip
    refine A_iload C dX7_earth_12 4 rfl ?_
    refine A_ifne C 39 dX7_earth_14 (by decide) (by omega) (fun c7 => ?_) (fun c7 => ?_)
    · skip
      refine A_aloadn C dX7_earth_39 0 rfl rfl ?_
      refine G_getR C WM2 ha rfl rfl rfl rfl fX7_earth_12 dX7_earth_40 (fun b8 hb8 qb8 => ?_)
      refine A_iloadn C dX7_earth_43 1 rfl rfl ?_
      refine A_iloadn C dX7_earth_44 2 rfl rfl ?_
      refine A_iloadn C dX7_earth_45 3 rfl rfl ?_
      refine A_iload C dX7_earth_46 4 rfl ?_
      refine A_callV C (n := 4) (st := []) (kX2_add qb8 (by omega) (by omega) (by omega) (by omega)) gX7_earth_X2_add rfl (by decide +kernel) ⟨Nat.le_of_ble_eq_true rfl, Nat.le_of_ble_eq_true rfl⟩ qb8 rfl rfl rfl rfl (Nat.le_of_ble_eq_true rfl) dX7_earth_48 rfl WM2 (fun r9 M10 h11 => ?_)
      obtain ⟨z13, rfl, lz13, uz13, WM10, FM10⟩ := h11
      have EM10 := Fr.tr EM2 (FM10.mono (c2 := [1, 2, 3, 4, 5]) rfl)
      refine A_st (st' := [.int (iI z13)]) rfl ?_
      exact A_iret C dX7_earth_51 ⟨z13, rfl, by omega, by omega, WM10, EM10⟩
    · skip
      refine A_iloadn C dX7_earth_17 2 rfl rfl ?_
      refine A_iconst C dX7_earth_18 ?_
      refine A_bipush C dX7_earth_19 (by decide) ?_
      refine A_callS C (n := 3) (st := []) (kX7_within  (by omega) (by omega) (by omega)) gX7_earth_X7_within rfl (by decide +kernel) ⟨Nat.le_of_ble_eq_true rfl, Nat.le_of_ble_eq_true rfl⟩ rfl (Nat.le_of_ble_eq_true rfl) dX7_earth_21 rfl WM2 (fun r14 M15 h16 => ?_)
      obtain ⟨z18, rfl, lz18, uz18, WM15, FM15, xx17⟩ := h16
      have EM15 := Fr.tr EM2 (FM15.mono (c2 := [1, 2, 3, 4, 5]) rfl)
      refine A_st (st' := [.int (iI z18)]) rfl ?_
      refine A_ifeq C 37 dX7_earth_24 (by decide) (by omega) (fun c19 => ?_) (fun c19 => ?_)
      · skip
        refine A_iconst C dX7_earth_37 ?_
        exact A_iret C dX7_earth_38 ⟨(-1), rfl, by omega, by omega, WM15, EM15⟩
      · skip
        refine A_iloadn C dX7_earth_27 3 rfl rfl ?_
        refine A_iconst C dX7_earth_28 ?_
        refine A_bipush C dX7_earth_29 (by decide) ?_
        refine A_callS C (n := 3) (st := []) (kX7_within  (by omega) (by omega) (by omega)) gX7_earth_X7_within rfl (by decide +kernel) ⟨Nat.le_of_ble_eq_true rfl, Nat.le_of_ble_eq_true rfl⟩ rfl (Nat.le_of_ble_eq_true rfl) dX7_earth_31 rfl WM15 (fun r20 M21 h22 => ?_)
        obtain ⟨z24, rfl, lz24, uz24, WM21, FM21, xx23⟩ := h22
        have EM21 := Fr.tr EM15 (FM21.mono (c2 := [1, 2, 3, 4, 5]) rfl)
        refine A_st (st' := [.int (iI z24)]) rfl ?_
        refine A_ifne C 39 dX7_earth_34 (by decide) (by omega) (fun c25 => ?_) (fun c25 => ?_)
        · skip
          refine A_aloadn C dX7_earth_39 0 rfl rfl ?_
          refine G_getR C WM21 ha rfl rfl rfl rfl fX7_earth_12 dX7_earth_40 (fun b26 hb26 qb26 => ?_)
          refine A_iloadn C dX7_earth_43 1 rfl rfl ?_
          refine A_iloadn C dX7_earth_44 2 rfl rfl ?_
          refine A_iloadn C dX7_earth_45 3 rfl rfl ?_
          refine A_iload C dX7_earth_46 4 rfl ?_
          refine A_callV C (n := 4) (st := []) (kX2_add qb26 (by omega) (by omega) (by omega) (by omega)) gX7_earth_X2_add rfl (by decide +kernel) ⟨Nat.le_of_ble_eq_true rfl, Nat.le_of_ble_eq_true rfl⟩ qb26 rfl rfl rfl rfl (Nat.le_of_ble_eq_true rfl) dX7_earth_48 rfl WM21 (fun r27 M28 h29 => ?_)
          obtain ⟨z31, rfl, lz31, uz31, WM28, FM28⟩ := h29
          have EM28 := Fr.tr EM21 (FM28.mono (c2 := [1, 2, 3, 4, 5]) rfl)
          refine A_st (st' := [.int (iI z31)]) rfl ?_
          exact A_iret C dX7_earth_51 ⟨z31, rfl, by omega, by omega, WM28, EM28⟩
        · skip
          refine A_iconst C dX7_earth_37 ?_
          exact A_iret C dX7_earth_38 ⟨(-1), rfl, by omega, by omega, WM21, EM21⟩
  · skip
    refine A_iconst C dX7_earth_10 ?_
    exact A_iret C dX7_earth_11 ⟨(-1), rfl, by omega, by omega, WM2, EM2⟩

theorem uX7_lay_7 : ∀ w ∈ u_ws RX7 TX7 15, w ∈ wsX7_lay := by decide +kernel
theorem uX7_lay_4 : ∀ w ∈ u_ws RX4 TX4 2, w ∈ wsX7_lay := by decide +kernel
theorem uX7_lay_1 : ∀ w ∈ u_ws RX1 TX1 9, w ∈ wsX7_lay := by decide +kernel
theorem fX7_lay_21 : Fl RX7 wsX7_lay 7 1 21 RX7 TX7 15 := ⟨rfl, by decide, uX7_lay_7, by decide +kernel⟩
theorem fX7_lay_12 : Fl RX7 wsX7_lay 7 0 12 RX7 TX7 15 := ⟨rfl, by decide, uX7_lay_7, by decide +kernel⟩
theorem fX7_lay_110 : Fl RX7 wsX7_lay 4 0 110 RX4 TX4 2 := ⟨rfl, by decide, uX7_lay_4, by decide +kernel⟩
theorem fX7_lay_114 : Fl RX7 wsX7_lay 1 1 114 RX1 TX1 9 := ⟨rfl, by decide, uX7_lay_1, by decide +kernel⟩
theorem fX7_lay_80 : Fl RX7 wsX7_lay 7 13 80 RX7 TX7 15 := ⟨rfl, by decide, uX7_lay_7, by decide +kernel⟩
set_option maxHeartbeats 4000000 in
theorem kX7_lay  {a : Nat} (ha : kd a = 0) {x1 : Int} {x2 : Int} {x3 : Int} (hx1 : (-2147483648 : Int) ≤ x1 ∧ x1 ≤ 2147483647) (hx2 : (-2147483648 : Int) ≤ x2 ∧ x2 ≤ 2147483647) (hx3 : (-2147483648 : Int) ≤ x3 ∧ x3 ≤ 2147483647) : Ct yX7_lay wsX7_lay 3 [.ref a, .int (iI x1), .int (iI x2), .int (iI x3)] (fun M => WF M) (fun M r M' => ∃ z : Int, r = some (.int (iI z)) ∧ (-2147483648 : Int) ≤ z ∧ z ≤ 2147483647 ∧ WF M' ∧ Fr [0, 8, 9] M M') := by
  refine Ct_of (cc := cX7_lay) (nL := 5) (rt := (some .int)) (own := RX7) rfl (by decide) rfl (Nat.le_of_ble_eq_true rfl) ?_
  intro p l e s m args below meth c G M0 C W
  have E : Fr [0, 8, 9] M0 M0 := Fr.rf
  refine A_lv (lv' := [(0, .ref a), (1, .int (iI x1)), (2, .int (iI x2)), (3, .int (iI x3))]) rfl ?_
  refine A_aloadn C dX7_lay_0 0 rfl rfl ?_
  refine G_getR C W ha rfl rfl rfl rfl fX7_lay_21 dX7_lay_1 (fun b1 hb1 qb1 => ?_)
  refine A_iloadn C dX7_lay_4 1 rfl rfl ?_
  refine A_callV C (n := 1) (st := []) (kX4_has (Or.inl qb1) (by omega)) gX7_lay_X4_has rfl (by decide +kernel) ⟨Nat.le_of_ble_eq_true rfl, Nat.le_of_ble_eq_true rfl⟩ qb1 rfl rfl rfl rfl (Nat.le_of_ble_eq_true rfl) dX7_lay_5 rfl W (fun r2 M3 h4 => ?_)
  obtain ⟨z6, rfl, lz6, uz6, WM3, FM3, xx5⟩ := h4
  have EM3 := Fr.tr E (FM3.mono (c2 := [0, 8, 9]) rfl)
  refine A_st (st' := [.int (iI z6)]) rfl ?_
  refine A_ifeq C 22 dX7_lay_8 (by decide) (by omega) (fun c7 => ?_) (fun c7 => ?_)
  · skip
    refine A_iconst C dX7_lay_22 ?_
    exact A_iret C dX7_lay_23 ⟨(-1), rfl, by omega, by omega, WM3, EM3⟩
  · skip
    refine A_aloadn C dX7_lay_11 0 rfl rfl ?_
    refine G_getR C WM3 ha rfl rfl rfl rfl fX7_lay_12 dX7_lay_12 (fun b8 hb8 qb8 => ?_)
    refine A_iloadn C dX7_lay_15 2 rfl rfl ?_
    refine A_callV C (n := 1) (st := []) (kX2_has qb8 (by omega)) gX7_lay_X2_has rfl (by decide +kernel) ⟨Nat.le_of_ble_eq_true rfl, Nat.le_of_ble_eq_true rfl⟩ qb8 rfl rfl rfl rfl (Nat.le_of_ble_eq_true rfl) dX7_lay_16 rfl WM3 (fun r9 M10 h11 => ?_)
    obtain ⟨z13, rfl, lz13, uz13, WM10, FM10, xx12⟩ := h11
    have EM10 := Fr.tr EM3 (FM10.mono (c2 := [0, 8, 9]) rfl)
    refine A_st (st' := [.int (iI z13)]) rfl ?_
    refine A_ifne C 24 dX7_lay_19 (by decide) (by omega) (fun c14 => ?_) (fun c14 => ?_)
    · skip
      refine A_aloadn C dX7_lay_24 0 rfl rfl ?_
      refine G_getR C WM10 ha rfl rfl rfl rfl fX7_lay_21 dX7_lay_25 (fun b15 hb15 qb15 => ?_)
      refine G_getR C WM10 qb15 rfl rfl rfl rfl fX7_lay_110 dX7_lay_28 (fun b16 hb16 qb16 => ?_)
      refine A_iloadn C dX7_lay_31 1 rfl rfl ?_
      refine G_aald C WM10 qb16 (by omega) (by omega) dX7_lay_32 (fun b17 hb17 qb17 => ?_)
      refine A_astore (lv' := [(4, .ref b17), (0, .ref a), (1, .int (iI x1)), (2, .int (iI x2)), (3, .int (iI x3))]) C dX7_lay_33 (by decide) rfl ?_
      refine A_iloadn C dX7_lay_35 4 rfl rfl ?_
      refine A_iconst C dX7_lay_36 ?_
      refine A_bipush C dX7_lay_37 (by decide) ?_
      refine A_aload C dX7_lay_39 0 rfl ?_
      refine G_getI C WM10 qb17 rfl rfl rfl rfl rfl fX7_lay_114 rfl dX7_lay_41 (fun z18 ez18 lz18 uz18 => ?_)
      refine A_isub C dX7_lay_44 ?_
      refine A_callS C (n := 3) (st := []) (kX7_within  (by omega) (by omega) (by omega)) gX7_lay_X7_within rfl (by decide +kernel) ⟨Nat.le_of_ble_eq_true rfl, Nat.le_of_ble_eq_true rfl⟩ rfl (Nat.le_of_ble_eq_true rfl) dX7_lay_45 rfl WM10 (fun r19 M20 h21 => ?_)
      obtain ⟨z23, rfl, lz23, uz23, WM20, FM20, xx22⟩ := h21
      have EM20 := Fr.tr EM10 (FM20.mono (c2 := [0, 8, 9]) rfl)
      refine A_st (st' := [.int (iI z23)]) rfl ?_
      refine A_ifne C 53 dX7_lay_48 (by decide) (by omega) (fun c24 => ?_) (fun c24 => ?_)
      · skip
        refine A_aload C dX7_lay_53 0 rfl ?_
        refine A_iloadn C dX7_lay_55 3 rfl rfl ?_
        refine A_iloadn C dX7_lay_56 4 rfl rfl ?_
        refine A_callV C (n := 2) (st := []) (kX1_pile qb17 (by omega) (by omega)) gX7_lay_X1_pile rfl (by decide +kernel) ⟨Nat.le_of_ble_eq_true rfl, Nat.le_of_ble_eq_true rfl⟩ qb17 rfl rfl rfl rfl (Nat.le_of_ble_eq_true rfl) dX7_lay_57 rfl WM20 (fun r25 M26 h27 => ?_)
        obtain ⟨rfl, WM26, FM26⟩ := h27
        have EM26 := Fr.tr EM20 (FM26.mono (c2 := [0, 8, 9]) rfl)
        refine A_st (st' := []) rfl ?_
        refine A_aloadn C dX7_lay_60 1 rfl rfl ?_
        refine A_iconst C dX7_lay_61 ?_
        refine G_putI C WM26 EM26 ha rfl rfl rfl rfl rfl fX7_lay_80 ⟨tyX7_ok, nmX7, rfl, by decide⟩ (Or.inr ⟨rfl, by omega⟩) rfl rfl (by omega) (by omega) dX7_lay_62 (fun M29 eM29 WM29 EM29 => ?_)
        refine A_aload C dX7_lay_65 0 rfl ?_
        refine G_getI C WM29 qb17 rfl rfl rfl rfl rfl fX7_lay_114 rfl dX7_lay_67 (fun z30 ez30 lz30 uz30 => ?_)
        exact A_iret C dX7_lay_70 ⟨z30, rfl, by omega, by omega, WM29, EM29⟩
      · skip
        refine A_iconst C dX7_lay_51 ?_
        exact A_iret C dX7_lay_52 ⟨(-1), rfl, by omega, by omega, WM20, EM20⟩
    · skip
      refine A_iconst C dX7_lay_22 ?_
      exact A_iret C dX7_lay_23 ⟨(-1), rfl, by omega, by omega, WM10, EM10⟩

theorem uX7_set_7 : ∀ w ∈ u_ws RX7 TX7 15, w ∈ wsX7_set := by decide +kernel
theorem uX7_set_4 : ∀ w ∈ u_ws RX4 TX4 2, w ∈ wsX7_set := by decide +kernel
theorem fX7_set_21 : Fl RX7 wsX7_set 7 1 21 RX7 TX7 15 := ⟨rfl, by decide, uX7_set_7, by decide +kernel⟩
theorem fX7_set_110 : Fl RX7 wsX7_set 4 0 110 RX4 TX4 2 := ⟨rfl, by decide, uX7_set_4, by decide +kernel⟩
theorem fX7_set_80 : Fl RX7 wsX7_set 7 13 80 RX7 TX7 15 := ⟨rfl, by decide, uX7_set_7, by decide +kernel⟩
set_option maxHeartbeats 4000000 in
theorem kX7_set  {a : Nat} (ha : kd a = 0) {x1 : Int} {x2 : Int} {x3 : Int} (hx1 : (-2147483648 : Int) ≤ x1 ∧ x1 ≤ 2147483647) (hx2 : (-2147483648 : Int) ≤ x2 ∧ x2 ≤ 2147483647) (hx3 : (-2147483648 : Int) ≤ x3 ∧ x3 ≤ 2147483647) : Ct yX7_set wsX7_set 3 [.ref a, .int (iI x1), .int (iI x2), .int (iI x3)] (fun M => WF M) (fun M r M' => ∃ z : Int, r = some (.int (iI z)) ∧ (0 : Int) ≤ z ∧ z ≤ 1 ∧ WF M' ∧ Fr [0, 8] M M') := by
  refine Ct_of (cc := cX7_set) (nL := 4) (rt := (some .boolean)) (own := RX7) rfl (by decide) rfl (Nat.le_of_ble_eq_true rfl) ?_
  intro p l e s m args below meth c G M0 C W
  have E : Fr [0, 8] M0 M0 := Fr.rf
  refine A_lv (lv' := [(0, .ref a), (1, .int (iI x1)), (2, .int (iI x2)), (3, .int (iI x3))]) rfl ?_
  refine A_aloadn C dX7_set_0 0 rfl rfl ?_
  refine G_getR C W ha rfl rfl rfl rfl fX7_set_21 dX7_set_1 (fun b1 hb1 qb1 => ?_)
  refine A_iloadn C dX7_set_4 1 rfl rfl ?_
  refine A_callV C (n := 1) (st := []) (kX4_has (Or.inl qb1) (by omega)) gX7_set_X4_has rfl (by decide +kernel) ⟨Nat.le_of_ble_eq_true rfl, Nat.le_of_ble_eq_true rfl⟩ qb1 rfl rfl rfl rfl (Nat.le_of_ble_eq_true rfl) dX7_set_5 rfl W (fun r2 M3 h4 => ?_)
  obtain ⟨z6, rfl, lz6, uz6, WM3, FM3, xx5⟩ := h4
  have EM3 := Fr.tr E (FM3.mono (c2 := [0, 8]) rfl)
  refine A_st (st' := [.int (iI z6)]) rfl ?_
  refine A_ifeq C 20 dX7_set_8 (by decide) (by omega) (fun c7 => ?_) (fun c7 => ?_)
  · skip
    refine A_iconst C dX7_set_20 ?_
    exact A_zret C (by omega) dX7_set_21 ⟨0, rfl, by omega, by omega, WM3, EM3⟩
  · skip
    refine A_iloadn C dX7_set_11 2 rfl rfl ?_
    refine A_iconst C dX7_set_12 ?_
    refine A_iconst C dX7_set_13 ?_
    refine A_callS C (n := 3) (st := []) (kX7_within  (by omega) (by omega) (by omega)) gX7_set_X7_within rfl (by decide +kernel) ⟨Nat.le_of_ble_eq_true rfl, Nat.le_of_ble_eq_true rfl⟩ rfl (Nat.le_of_ble_eq_true rfl) dX7_set_14 rfl WM3 (fun r8 M9 h10 => ?_)
    obtain ⟨z12, rfl, lz12, uz12, WM9, FM9, xx11⟩ := h10
    have EM9 := Fr.tr EM3 (FM9.mono (c2 := [0, 8]) rfl)
    refine A_st (st' := [.int (iI z12)]) rfl ?_
    refine A_ifne C 22 dX7_set_17 (by decide) (by omega) (fun c13 => ?_) (fun c13 => ?_)
    · skip
      refine A_iloadn C dX7_set_22 3 rfl rfl ?_
      refine A_iconst C dX7_set_23 ?_
      refine A_iloadn C dX7_set_24 2 rfl rfl ?_
      refine A_ifne C 33 dX7_set_25 (by decide) (by omega) (fun c14 => ?_) (fun c14 => ?_)
      · skip
        refine A_sipush C dX7_set_33 (by decide) ?_
        refine A_callS C (n := 3) (st := []) (kX7_within  (by omega) (by omega) (by omega)) gX7_set_X7_within rfl (by decide +kernel) ⟨Nat.le_of_ble_eq_true rfl, Nat.le_of_ble_eq_true rfl⟩ rfl (Nat.le_of_ble_eq_true rfl) dX7_set_36 rfl WM9 (fun r15 M16 h17 => ?_)
        obtain ⟨z19, rfl, lz19, uz19, WM16, FM16, xx18⟩ := h17
        have EM16 := Fr.tr EM9 (FM16.mono (c2 := [0, 8]) rfl)
        refine A_st (st' := [.int (iI z19)]) rfl ?_
        refine A_ifne C 44 dX7_set_39 (by decide) (by omega) (fun c20 => ?_) (fun c20 => ?_)
        · skip
          refine A_aloadn C dX7_set_44 0 rfl rfl ?_
          refine G_getR C WM16 ha rfl rfl rfl rfl fX7_set_21 dX7_set_45 (fun b21 hb21 qb21 => ?_)
          refine G_getR C WM16 qb21 rfl rfl rfl rfl fX7_set_110 dX7_set_48 (fun b22 hb22 qb22 => ?_)
          refine A_iloadn C dX7_set_51 1 rfl rfl ?_
          refine G_aald C WM16 qb22 (by omega) (by omega) dX7_set_52 (fun b23 hb23 qb23 => ?_)
          refine A_iloadn C dX7_set_53 2 rfl rfl ?_
          refine A_iloadn C dX7_set_54 3 rfl rfl ?_
          refine A_callV C (n := 2) (st := []) (kX1_put qb23 (by omega) (by omega) (by omega)) gX7_set_X1_put rfl (by decide +kernel) ⟨Nat.le_of_ble_eq_true rfl, Nat.le_of_ble_eq_true rfl⟩ qb23 rfl rfl rfl rfl (Nat.le_of_ble_eq_true rfl) dX7_set_55 rfl WM16 (fun r24 M25 h26 => ?_)
          obtain ⟨rfl, WM25, FM25⟩ := h26
          have EM25 := Fr.tr EM16 (FM25.mono (c2 := [0, 8]) rfl)
          refine A_st (st' := []) rfl ?_
          refine A_aloadn C dX7_set_58 0 rfl rfl ?_
          refine A_iconst C dX7_set_59 ?_
          refine G_putI C WM25 EM25 ha rfl rfl rfl rfl rfl fX7_set_80 ⟨tyX7_ok, nmX7, rfl, by decide⟩ (Or.inr ⟨rfl, by omega⟩) rfl rfl (by omega) (by omega) dX7_set_60 (fun M28 eM28 WM28 EM28 => ?_)
          refine A_iconst C dX7_set_63 ?_
          exact A_zret C (by omega) dX7_set_64 ⟨1, rfl, by omega, by omega, WM28, EM28⟩
        · skip
          refine A_iconst C dX7_set_42 ?_
          exact A_zret C (by omega) dX7_set_43 ⟨0, rfl, by omega, by omega, WM16, EM16⟩
      · skip
        refine A_bipush C dX7_set_28 (by decide) ?_
        refine A_goto C 36 dX7_set_30 (by decide) ?_
        refine A_callS C (n := 3) (st := []) (kX7_within  (by omega) (by omega) (by omega)) gX7_set_X7_within rfl (by decide +kernel) ⟨Nat.le_of_ble_eq_true rfl, Nat.le_of_ble_eq_true rfl⟩ rfl (Nat.le_of_ble_eq_true rfl) dX7_set_36 rfl WM9 (fun r29 M30 h31 => ?_)
        obtain ⟨z33, rfl, lz33, uz33, WM30, FM30, xx32⟩ := h31
        have EM30 := Fr.tr EM9 (FM30.mono (c2 := [0, 8]) rfl)
        refine A_st (st' := [.int (iI z33)]) rfl ?_
        refine A_ifne C 44 dX7_set_39 (by decide) (by omega) (fun c34 => ?_) (fun c34 => ?_)
        · skip
          refine A_aloadn C dX7_set_44 0 rfl rfl ?_
          refine G_getR C WM30 ha rfl rfl rfl rfl fX7_set_21 dX7_set_45 (fun b35 hb35 qb35 => ?_)
          refine G_getR C WM30 qb35 rfl rfl rfl rfl fX7_set_110 dX7_set_48 (fun b36 hb36 qb36 => ?_)
          refine A_iloadn C dX7_set_51 1 rfl rfl ?_
          refine G_aald C WM30 qb36 (by omega) (by omega) dX7_set_52 (fun b37 hb37 qb37 => ?_)
          refine A_iloadn C dX7_set_53 2 rfl rfl ?_
          refine A_iloadn C dX7_set_54 3 rfl rfl ?_
          refine A_callV C (n := 2) (st := []) (kX1_put qb37 (by omega) (by omega) (by omega)) gX7_set_X1_put rfl (by decide +kernel) ⟨Nat.le_of_ble_eq_true rfl, Nat.le_of_ble_eq_true rfl⟩ qb37 rfl rfl rfl rfl (Nat.le_of_ble_eq_true rfl) dX7_set_55 rfl WM30 (fun r38 M39 h40 => ?_)
          obtain ⟨rfl, WM39, FM39⟩ := h40
          have EM39 := Fr.tr EM30 (FM39.mono (c2 := [0, 8]) rfl)
          refine A_st (st' := []) rfl ?_
          refine A_aloadn C dX7_set_58 0 rfl rfl ?_
          refine A_iconst C dX7_set_59 ?_
          refine G_putI C WM39 EM39 ha rfl rfl rfl rfl rfl fX7_set_80 ⟨tyX7_ok, nmX7, rfl, by decide⟩ (Or.inr ⟨rfl, by omega⟩) rfl rfl (by omega) (by omega) dX7_set_60 (fun M42 eM42 WM42 EM42 => ?_)
          refine A_iconst C dX7_set_63 ?_
          exact A_zret C (by omega) dX7_set_64 ⟨1, rfl, by omega, by omega, WM42, EM42⟩
        · skip
          refine A_iconst C dX7_set_42 ?_
          exact A_zret C (by omega) dX7_set_43 ⟨0, rfl, by omega, by omega, WM30, EM30⟩
    · skip
      refine A_iconst C dX7_set_20 ?_
      exact A_zret C (by omega) dX7_set_21 ⟨0, rfl, by omega, by omega, WM9, EM9⟩

theorem uX7_cell_7 : ∀ w ∈ u_ws RX7 TX7 15, w ∈ wsX7_cell := by decide +kernel
theorem uX7_cell_4 : ∀ w ∈ u_ws RX4 TX4 2, w ∈ wsX7_cell := by decide +kernel
theorem uX7_cell_1 : ∀ w ∈ u_ws RX1 TX1 9, w ∈ wsX7_cell := by decide +kernel
theorem fX7_cell_21 : Fl RX7 wsX7_cell 7 1 21 RX7 TX7 15 := ⟨rfl, by decide, uX7_cell_7, by decide +kernel⟩
theorem fX7_cell_110 : Fl RX7 wsX7_cell 4 0 110 RX4 TX4 2 := ⟨rfl, by decide, uX7_cell_4, by decide +kernel⟩
theorem fX7_cell_114 : Fl RX7 wsX7_cell 1 1 114 RX1 TX1 9 := ⟨rfl, by decide, uX7_cell_1, by decide +kernel⟩
theorem fX7_cell_147 : Fl RX7 wsX7_cell 1 0 147 RX1 TX1 9 := ⟨rfl, by decide, uX7_cell_1, by decide +kernel⟩
set_option maxHeartbeats 4000000 in
theorem kX7_cell  {a : Nat} (ha : kd a = 0) {x1 : Int} {x2 : Int} (hx1 : (-2147483648 : Int) ≤ x1 ∧ x1 ≤ 2147483647) (hx2 : (-2147483648 : Int) ≤ x2 ∧ x2 ≤ 2147483647) : Ct yX7_cell wsX7_cell 3 [.ref a, .int (iI x1), .int (iI x2)] (fun M => WF M) (fun M r M' => ∃ z : Int, r = some (.int (iI z)) ∧ (-2147483648 : Int) ≤ z ∧ z ≤ 2147483647 ∧ WF M' ∧ Fr [] M M') := by
  refine Ct_of (cc := cX7_cell) (nL := 4) (rt := (some .int)) (own := RX7) rfl (by decide) rfl (Nat.le_of_ble_eq_true rfl) ?_
  intro p l e s m args below meth c G M0 C W
  have E : Fr [] M0 M0 := Fr.rf
  refine A_lv (lv' := [(0, .ref a), (1, .int (iI x1)), (2, .int (iI x2))]) rfl ?_
  refine A_aloadn C dX7_cell_0 0 rfl rfl ?_
  refine G_getR C W ha rfl rfl rfl rfl fX7_cell_21 dX7_cell_1 (fun b1 hb1 qb1 => ?_)
  refine A_iloadn C dX7_cell_4 1 rfl rfl ?_
  refine A_callV C (n := 1) (st := []) (kX4_has (Or.inl qb1) (by omega)) gX7_cell_X4_has rfl (by decide +kernel) ⟨Nat.le_of_ble_eq_true rfl, Nat.le_of_ble_eq_true rfl⟩ qb1 rfl rfl rfl rfl (Nat.le_of_ble_eq_true rfl) dX7_cell_5 rfl W (fun r2 M3 h4 => ?_)
  obtain ⟨z6, rfl, lz6, uz6, WM3, FM3, xx5⟩ := h4
  have EM3 := Fr.tr E (FM3.mono (c2 := []) rfl)
  refine A_st (st' := [.int (iI z6)]) rfl ?_
  refine A_ifne C 13 dX7_cell_8 (by decide) (by omega) (fun c7 => ?_) (fun c7 => ?_)
  · skip
    refine A_aloadn C dX7_cell_13 0 rfl rfl ?_
    refine G_getR C WM3 ha rfl rfl rfl rfl fX7_cell_21 dX7_cell_14 (fun b8 hb8 qb8 => ?_)
    refine G_getR C WM3 qb8 rfl rfl rfl rfl fX7_cell_110 dX7_cell_17 (fun b9 hb9 qb9 => ?_)
    refine A_iloadn C dX7_cell_20 1 rfl rfl ?_
    refine G_aald C WM3 qb9 (by omega) (by omega) dX7_cell_21 (fun b10 hb10 qb10 => ?_)
    refine A_astoren (lv' := [(3, .ref b10), (0, .ref a), (1, .int (iI x1)), (2, .int (iI x2))]) C dX7_cell_22 rfl (by decide) rfl ?_
    refine A_iloadn C dX7_cell_23 3 rfl rfl ?_
    refine A_iconst C dX7_cell_24 ?_
    refine A_aloadn C dX7_cell_25 0 rfl rfl ?_
    refine G_getI C WM3 qb10 rfl rfl rfl rfl rfl fX7_cell_114 rfl dX7_cell_26 (fun z11 ez11 lz11 uz11 => ?_)
    refine A_iconst C dX7_cell_29 ?_
    refine A_isub C dX7_cell_30 ?_
    refine A_callS C (n := 3) (st := []) (kX7_within  (by omega) (by omega) (by omega)) gX7_cell_X7_within rfl (by decide +kernel) ⟨Nat.le_of_ble_eq_true rfl, Nat.le_of_ble_eq_true rfl⟩ rfl (Nat.le_of_ble_eq_true rfl) dX7_cell_31 rfl WM3 (fun r12 M13 h14 => ?_)
    obtain ⟨z16, rfl, lz16, uz16, WM13, FM13, xx15⟩ := h14
    have EM13 := Fr.tr EM3 (FM13.mono (c2 := []) rfl)
    refine A_st (st' := [.int (iI z16)]) rfl ?_
    refine A_ifeq C 46 dX7_cell_34 (by decide) (by omega) (fun c17 => ?_) (fun c17 => ?_)
    · skip
      refine A_iconst C dX7_cell_46 ?_
      exact A_iret C dX7_cell_47 ⟨(-1), rfl, by omega, by omega, WM13, EM13⟩
    · skip
      refine A_aloadn C dX7_cell_37 0 rfl rfl ?_
      refine G_getR C WM13 qb10 rfl rfl rfl rfl fX7_cell_147 dX7_cell_38 (fun b18 hb18 qb18 => ?_)
      refine A_iloadn C dX7_cell_41 3 rfl rfl ?_
      refine G_iald C WM13 qb18 rfl rfl (by decide) (fun _ => rfl) (by omega) (by omega) dX7_cell_42 (fun z19 ez19 lz19 uz19 => ?_)
      refine A_goto C 47 dX7_cell_43 (by decide) ?_
      exact A_iret C dX7_cell_47 ⟨z19, rfl, by omega, by omega, WM13, EM13⟩
  · skip
    refine A_iconst C dX7_cell_11 ?_
    exact A_iret C dX7_cell_12 ⟨(-1), rfl, by omega, by omega, WM3, EM3⟩

theorem uX7_begin_7 : ∀ w ∈ u_ws RX7 TX7 15, w ∈ wsX7_begin := by decide +kernel
theorem fX7_begin_21 : Fl RX7 wsX7_begin 7 1 21 RX7 TX7 15 := ⟨rfl, by decide, uX7_begin_7, by decide +kernel⟩
theorem fX7_begin_48 : Fl RX7 wsX7_begin 7 5 48 RX7 TX7 15 := ⟨rfl, by decide, uX7_begin_7, by decide +kernel⟩
set_option maxHeartbeats 4000000 in
theorem kX7_begin  {a : Nat} (ha : kd a = 0) {x1 : Int} {x2 : Int} (hx1 : (-2147483648 : Int) ≤ x1 ∧ x1 ≤ 2147483647) (hx2 : (-2147483648 : Int) ≤ x2 ∧ x2 ≤ 2147483647) : Ct yX7_begin wsX7_begin 3 [.ref a, .int (iI x1), .int (iI x2)] (fun M => WF M) (fun M r M' => ∃ z : Int, r = some (.int (iI z)) ∧ (0 : Int) ≤ z ∧ z ≤ 1 ∧ WF M' ∧ Fr [20, 22] M M') := by
  refine Ct_of (cc := cX7_begin) (nL := 3) (rt := (some .boolean)) (own := RX7) rfl (by decide) rfl (Nat.le_of_ble_eq_true rfl) ?_
  intro p l e s m args below meth c G M0 C W
  have E : Fr [20, 22] M0 M0 := Fr.rf
  refine A_lv (lv' := [(0, .ref a), (1, .int (iI x1)), (2, .int (iI x2))]) rfl ?_
  refine A_aloadn C dX7_begin_0 0 rfl rfl ?_
  refine G_getR C W ha rfl rfl rfl rfl fX7_begin_21 dX7_begin_1 (fun b1 hb1 qb1 => ?_)
  refine A_iloadn C dX7_begin_4 1 rfl rfl ?_
  refine A_callV C (n := 1) (st := []) (kX4_has (Or.inl qb1) (by omega)) gX7_begin_X4_has rfl (by decide +kernel) ⟨Nat.le_of_ble_eq_true rfl, Nat.le_of_ble_eq_true rfl⟩ qb1 rfl rfl rfl rfl (Nat.le_of_ble_eq_true rfl) dX7_begin_5 rfl W (fun r2 M3 h4 => ?_)
  obtain ⟨z6, rfl, lz6, uz6, WM3, FM3, xx5⟩ := h4
  have EM3 := Fr.tr E (FM3.mono (c2 := [20, 22]) rfl)
  refine A_st (st' := [.int (iI z6)]) rfl ?_
  refine A_ifeq C 21 dX7_begin_8 (by decide) (by omega) (fun c7 => ?_) (fun c7 => ?_)
  · skip
    refine A_aloadn C dX7_begin_21 0 rfl rfl ?_
    refine G_getR C WM3 ha rfl rfl rfl rfl fX7_begin_48 dX7_begin_22 (fun b8 hb8 qb8 => ?_)
    refine A_callV C (n := 0) (st := []) (kX5_drop qb8) gX7_begin_X5_drop rfl (by decide +kernel) ⟨Nat.le_of_ble_eq_true rfl, Nat.le_of_ble_eq_true rfl⟩ qb8 rfl rfl rfl rfl (Nat.le_of_ble_eq_true rfl) dX7_begin_25 rfl WM3 (fun r9 M10 h11 => ?_)
    obtain ⟨rfl, WM10, FM10⟩ := h11
    have EM10 := Fr.tr EM3 (FM10.mono (c2 := [20, 22]) rfl)
    refine A_st (st' := []) rfl ?_
    refine A_iconst C dX7_begin_28 ?_
    exact A_zret C (by omega) dX7_begin_29 ⟨0, rfl, by omega, by omega, WM10, EM10⟩
  · skip
    refine A_iloadn C dX7_begin_11 2 rfl rfl ?_
    refine A_iconst C dX7_begin_12 ?_
    refine A_bipush C dX7_begin_13 (by decide) ?_
    refine A_callS C (n := 3) (st := []) (kX7_within  (by omega) (by omega) (by omega)) gX7_begin_X7_within rfl (by decide +kernel) ⟨Nat.le_of_ble_eq_true rfl, Nat.le_of_ble_eq_true rfl⟩ rfl (Nat.le_of_ble_eq_true rfl) dX7_begin_15 rfl WM3 (fun r13 M14 h15 => ?_)
    obtain ⟨z17, rfl, lz17, uz17, WM14, FM14, xx16⟩ := h15
    have EM14 := Fr.tr EM3 (FM14.mono (c2 := [20, 22]) rfl)
    refine A_st (st' := [.int (iI z17)]) rfl ?_
    refine A_ifne C 30 dX7_begin_18 (by decide) (by omega) (fun c18 => ?_) (fun c18 => ?_)
    · skip
      refine A_aloadn C dX7_begin_30 0 rfl rfl ?_
      refine G_getR C WM14 ha rfl rfl rfl rfl fX7_begin_48 dX7_begin_31 (fun b19 hb19 qb19 => ?_)
      refine A_iloadn C dX7_begin_34 1 rfl rfl ?_
      refine A_iloadn C dX7_begin_35 2 rfl rfl ?_
      refine A_callV C (n := 2) (st := []) (kX5_startAt_20 qb19 (by omega) (by omega)) gX7_begin_X5_startAt rfl (by decide +kernel) ⟨Nat.le_of_ble_eq_true rfl, Nat.le_of_ble_eq_true rfl⟩ qb19 rfl rfl rfl rfl (Nat.le_of_ble_eq_true rfl) dX7_begin_36 rfl WM14 (fun r20 M21 h22 => ?_)
      obtain ⟨rfl, WM21, FM21, xx23⟩ := h22
      have EM21 := Fr.tr EM14 (FM21.mono (c2 := [20, 22]) rfl)
      refine A_st (st' := []) rfl ?_
      refine A_iconst C dX7_begin_39 ?_
      exact A_zret C (by omega) dX7_begin_40 ⟨1, rfl, by omega, by omega, WM21, EM21⟩
    · skip
      refine A_aloadn C dX7_begin_21 0 rfl rfl ?_
      refine G_getR C WM14 ha rfl rfl rfl rfl fX7_begin_48 dX7_begin_22 (fun b24 hb24 qb24 => ?_)
      refine A_callV C (n := 0) (st := []) (kX5_drop qb24) gX7_begin_X5_drop rfl (by decide +kernel) ⟨Nat.le_of_ble_eq_true rfl, Nat.le_of_ble_eq_true rfl⟩ qb24 rfl rfl rfl rfl (Nat.le_of_ble_eq_true rfl) dX7_begin_25 rfl WM14 (fun r25 M26 h27 => ?_)
      obtain ⟨rfl, WM26, FM26⟩ := h27
      have EM26 := Fr.tr EM14 (FM26.mono (c2 := [20, 22]) rfl)
      refine A_st (st' := []) rfl ?_
      refine A_iconst C dX7_begin_28 ?_
      exact A_zret C (by omega) dX7_begin_29 ⟨0, rfl, by omega, by omega, WM26, EM26⟩

theorem uX7_next_7 : ∀ w ∈ u_ws RX7 TX7 15, w ∈ wsX7_next := by decide +kernel
theorem uX7_next_5 : ∀ w ∈ u_ws RX5 TX5 3, w ∈ wsX7_next := by decide +kernel
theorem uX7_next_4 : ∀ w ∈ u_ws RX4 TX4 2, w ∈ wsX7_next := by decide +kernel
theorem fX7_next_48 : Fl RX7 wsX7_next 7 5 48 RX7 TX7 15 := ⟨rfl, by decide, uX7_next_7, by decide +kernel⟩
theorem fX7_next_153 : Fl RX7 wsX7_next 5 2 153 RX5 TX5 3 := ⟨rfl, by decide, uX7_next_5, by decide +kernel⟩
theorem fX7_next_21 : Fl RX7 wsX7_next 7 1 21 RX7 TX7 15 := ⟨rfl, by decide, uX7_next_7, by decide +kernel⟩
theorem fX7_next_158 : Fl RX7 wsX7_next 4 1 158 RX4 TX4 2 := ⟨rfl, by decide, uX7_next_4, by decide +kernel⟩
set_option maxHeartbeats 4000000 in
theorem kX7_next  {a : Nat} (ha : kd a = 0) {x1 : Int} (hx1 : (-2147483648 : Int) ≤ x1 ∧ x1 ≤ 2147483647) : Ct yX7_next wsX7_next 2 [.ref a, .int (iI x1)] (fun M => WF M) (fun M r M' => ∃ z : Int, r = some (.int (iI z)) ∧ (-2147483648 : Int) ≤ z ∧ z ≤ 2147483647 ∧ WF M' ∧ Fr [20, 22] M M') := by
  refine Ct_of (cc := cX7_next) (nL := 2) (rt := (some .int)) (own := RX7) rfl (by decide) rfl (Nat.le_of_ble_eq_true rfl) ?_
  intro p l e s m args below meth c G M0 C W
  have E : Fr [20, 22] M0 M0 := Fr.rf
  refine A_lv (lv' := [(0, .ref a), (1, .int (iI x1))]) rfl ?_
  refine A_aloadn C dX7_next_0 0 rfl rfl ?_
  refine G_getR C W ha rfl rfl rfl rfl fX7_next_48 dX7_next_1 (fun b1 hb1 qb1 => ?_)
  refine G_getI C W qb1 rfl rfl rfl rfl rfl fX7_next_153 rfl dX7_next_4 (fun z2 ez2 lz2 uz2 => ?_)
  refine A_ifeq C 37 dX7_next_7 (by decide) (by omega) (fun c3 => ?_) (fun c3 => ?_)
  · skip
    refine A_iconst C dX7_next_37 ?_
    exact A_iret C dX7_next_38 ⟨(-1), rfl, by omega, by omega, W, E⟩
  · skip
    refine A_iloadn C dX7_next_10 1 rfl rfl ?_
    refine A_iconst C dX7_next_11 ?_
    refine A_bipush C dX7_next_12 (by decide) ?_
    refine A_callS C (n := 3) (st := []) (kX7_within  (by omega) (by omega) (by omega)) gX7_next_X7_within rfl (by decide +kernel) ⟨Nat.le_of_ble_eq_true rfl, Nat.le_of_ble_eq_true rfl⟩ rfl (Nat.le_of_ble_eq_true rfl) dX7_next_14 rfl W (fun r4 M5 h6 => ?_)
    obtain ⟨z8, rfl, lz8, uz8, WM5, FM5, xx7⟩ := h6
    have EM5 := Fr.tr E (FM5.mono (c2 := [20, 22]) rfl)
    refine A_st (st' := [.int (iI z8)]) rfl ?_
    refine A_ifeq C 37 dX7_next_17 (by decide) (by omega) (fun c9 => ?_) (fun c9 => ?_)
    · skip
      refine A_iconst C dX7_next_37 ?_
      exact A_iret C dX7_next_38 ⟨(-1), rfl, by omega, by omega, WM5, EM5⟩
    · skip
      refine A_aloadn C dX7_next_20 0 rfl rfl ?_
      refine G_getR C WM5 ha rfl rfl rfl rfl fX7_next_48 dX7_next_21 (fun b10 hb10 qb10 => ?_)
      refine A_callV C (n := 0) (st := []) (kX5_end_20 qb10) gX7_next_X5_end rfl (by decide +kernel) ⟨Nat.le_of_ble_eq_true rfl, Nat.le_of_ble_eq_true rfl⟩ qb10 rfl rfl rfl rfl (Nat.le_of_ble_eq_true rfl) dX7_next_24 rfl WM5 (fun r11 M12 h13 => ?_)
      obtain ⟨z15, rfl, lz15, uz15, WM12, FM12, xx14⟩ := h13
      have EM12 := Fr.tr EM5 (FM12.mono (c2 := [20, 22]) rfl)
      refine A_st (st' := [.int (iI z15)]) rfl ?_
      refine A_aloadn C dX7_next_27 0 rfl rfl ?_
      refine G_getR C WM12 ha rfl rfl rfl rfl fX7_next_21 dX7_next_28 (fun b16 hb16 qb16 => ?_)
      refine G_getI C WM12 qb16 rfl rfl rfl rfl rfl fX7_next_158 rfl dX7_next_31 (fun z17 ez17 lz17 uz17 => ?_)
      refine A_icmplt C 39 dX7_next_34 (by decide) (by omega) (by omega) (fun c18 => ?_) (fun c18 => ?_)
      · skip
        refine A_aloadn C dX7_next_39 0 rfl rfl ?_
        refine G_getR C WM12 ha rfl rfl rfl rfl fX7_next_48 dX7_next_40 (fun b19 hb19 qb19 => ?_)
        refine A_iloadn C dX7_next_43 1 rfl rfl ?_
        refine A_callV C (n := 1) (st := []) (kX5_add_20 qb19 (by omega)) gX7_next_X5_add rfl (by decide +kernel) ⟨Nat.le_of_ble_eq_true rfl, Nat.le_of_ble_eq_true rfl⟩ qb19 rfl rfl rfl rfl (Nat.le_of_ble_eq_true rfl) dX7_next_44 rfl WM12 (fun r20 M21 h22 => ?_)
        obtain ⟨rfl, WM21, FM21, xx23⟩ := h22
        have EM21 := Fr.tr EM12 (FM21.mono (c2 := [20, 22]) rfl)
        refine A_st (st' := []) rfl ?_
        refine A_aloadn C dX7_next_47 0 rfl rfl ?_
        refine G_getR C WM21 ha rfl rfl rfl rfl fX7_next_48 dX7_next_48 (fun b24 hb24 qb24 => ?_)
        refine G_getI C WM21 qb24 rfl rfl rfl rfl rfl fX7_next_153 rfl dX7_next_51 (fun z25 ez25 lz25 uz25 => ?_)
        exact A_iret C dX7_next_54 ⟨z25, rfl, by omega, by omega, WM21, EM21⟩
      · skip
        refine A_iconst C dX7_next_37 ?_
        exact A_iret C dX7_next_38 ⟨(-1), rfl, by omega, by omega, WM12, EM12⟩

theorem uX7_line_7 : ∀ w ∈ u_ws RX7 TX7 15, w ∈ wsX7_line := by decide +kernel
theorem fX7_line_21 : Fl RX7 wsX7_line 7 1 21 RX7 TX7 15 := ⟨rfl, by decide, uX7_line_7, by decide +kernel⟩
theorem fX7_line_48 : Fl RX7 wsX7_line 7 5 48 RX7 TX7 15 := ⟨rfl, by decide, uX7_line_7, by decide +kernel⟩
set_option maxHeartbeats 4000000 in
theorem kX7_line  {a : Nat} (ha : kd a = 0) : Ct yX7_line wsX7_line 6 [.ref a] (fun M => WF M) (fun M r M' => ∃ z : Int, r = some (.int (iI z)) ∧ (-2147483648 : Int) ≤ z ∧ z ≤ 2147483647 ∧ WF M' ∧ Fr [8, 10, 11] M M') := by
  refine Ct_of (cc := cX7_line) (nL := 1) (rt := (some .int)) (own := RX7) rfl (by decide) rfl (Nat.le_of_ble_eq_true rfl) ?_
  intro p l e s m args below meth c G M0 C W
  have E : Fr [8, 10, 11] M0 M0 := Fr.rf
  refine A_lv (lv' := [(0, .ref a)]) rfl ?_
  refine A_aloadn C dX7_line_0 0 rfl rfl ?_
  refine G_getR C W ha rfl rfl rfl rfl fX7_line_21 dX7_line_1 (fun b1 hb1 qb1 => ?_)
  refine A_aloadn C dX7_line_4 0 rfl rfl ?_
  refine G_getR C W ha rfl rfl rfl rfl fX7_line_48 dX7_line_5 (fun b2 hb2 qb2 => ?_)
  refine A_callV C (n := 1) (st := []) (kX4_bears qb1 qb2) gX7_line_X4_bears rfl (by decide +kernel) ⟨Nat.le_of_ble_eq_true rfl, Nat.le_of_ble_eq_true rfl⟩ qb1 rfl rfl rfl rfl (Nat.le_of_ble_eq_true rfl) dX7_line_8 rfl W (fun r3 M4 h5 => ?_)
  obtain ⟨z7, rfl, lz7, uz7, WM4, FM4⟩ := h5
  have EM4 := Fr.tr E (FM4.mono (c2 := [8, 10, 11]) rfl)
  refine A_st (st' := [.int (iI z7)]) rfl ?_
  refine A_ifeq C 18 dX7_line_11 (by decide) (by omega) (fun c8 => ?_) (fun c8 => ?_)
  · skip
    refine A_iconst C dX7_line_18 ?_
    exact A_iret C dX7_line_19 ⟨0, rfl, by omega, by omega, WM4, EM4⟩
  · skip
    refine A_iconst C dX7_line_14 ?_
    refine A_goto C 19 dX7_line_15 (by decide) ?_
    exact A_iret C dX7_line_19 ⟨1, rfl, by omega, by omega, WM4, EM4⟩

set_option maxHeartbeats 4000000 in
theorem kX7_isRatio  {x0 : Int} {x1 : Int} (hx0 : (-2147483648 : Int) ≤ x0 ∧ x0 ≤ 2147483647) (hx1 : (-2147483648 : Int) ≤ x1 ∧ x1 ≤ 2147483647) : Ct yX7_isRatio wsX7_isRatio 2 [.int (iI x0), .int (iI x1)] (fun M => WF M) (fun M r M' => ∃ z : Int, r = some (.int (iI z)) ∧ (0 : Int) ≤ z ∧ z ≤ 1 ∧ WF M' ∧ Fr [] M M') := by
  refine Ct_of (cc := cX7_isRatio) (nL := 2) (rt := (some .boolean)) (own := RX7) rfl (by decide) rfl (Nat.le_of_ble_eq_true rfl) ?_
  intro p l e s m args below meth c G M0 C W
  have E : Fr [] M0 M0 := Fr.rf
  refine A_lv (lv' := [(0, .int (iI x0)), (1, .int (iI x1))]) rfl ?_
  refine A_iloadn C dX7_isRatio_0 0 rfl rfl ?_
  refine A_iconst C dX7_isRatio_1 ?_
  refine A_sipush C dX7_isRatio_2 (by decide) ?_
  refine A_callS C (n := 3) (st := []) (kX7_within  (by omega) (by omega) (by omega)) gX7_isRatio_X7_within rfl (by decide +kernel) ⟨Nat.le_of_ble_eq_true rfl, Nat.le_of_ble_eq_true rfl⟩ rfl (Nat.le_of_ble_eq_true rfl) dX7_isRatio_5 rfl W (fun r1 M2 h3 => ?_)
  obtain ⟨z5, rfl, lz5, uz5, WM2, FM2, xx4⟩ := h3
  have EM2 := Fr.tr E (FM2.mono (c2 := []) rfl)
  refine A_st (st' := [.int (iI z5)]) rfl ?_
  refine A_ifeq C 26 dX7_isRatio_8 (by decide) (by omega) (fun c6 => ?_) (fun c6 => ?_)
  · skip
    refine A_iconst C dX7_isRatio_26 ?_
    exact A_zret C (by omega) dX7_isRatio_27 ⟨0, rfl, by omega, by omega, WM2, EM2⟩
  · skip
    refine A_iloadn C dX7_isRatio_11 1 rfl rfl ?_
    refine A_iconst C dX7_isRatio_12 ?_
    refine A_sipush C dX7_isRatio_13 (by decide) ?_
    refine A_callS C (n := 3) (st := []) (kX7_within  (by omega) (by omega) (by omega)) gX7_isRatio_X7_within rfl (by decide +kernel) ⟨Nat.le_of_ble_eq_true rfl, Nat.le_of_ble_eq_true rfl⟩ rfl (Nat.le_of_ble_eq_true rfl) dX7_isRatio_16 rfl WM2 (fun r7 M8 h9 => ?_)
    obtain ⟨z11, rfl, lz11, uz11, WM8, FM8, xx10⟩ := h9
    have EM8 := Fr.tr EM2 (FM8.mono (c2 := []) rfl)
    refine A_st (st' := [.int (iI z11)]) rfl ?_
    refine A_ifeq C 26 dX7_isRatio_19 (by decide) (by omega) (fun c12 => ?_) (fun c12 => ?_)
    · skip
      refine A_iconst C dX7_isRatio_26 ?_
      exact A_zret C (by omega) dX7_isRatio_27 ⟨0, rfl, by omega, by omega, WM8, EM8⟩
    · skip
      refine A_iconst C dX7_isRatio_22 ?_
      refine A_goto C 27 dX7_isRatio_23 (by decide) ?_
      exact A_zret C (by omega) dX7_isRatio_27 ⟨1, rfl, by omega, by omega, WM8, EM8⟩

theorem uX7_knowWorst_7 : ∀ w ∈ u_ws RX7 TX7 15, w ∈ wsX7_knowWorst := by decide +kernel
theorem fX7_knowWorst_80 : Fl RX7 wsX7_knowWorst 7 13 80 RX7 TX7 15 := ⟨rfl, by decide, uX7_knowWorst_7, by decide +kernel⟩
theorem fX7_knowWorst_84 : Fl RX7 wsX7_knowWorst 7 14 84 RX7 TX7 15 := ⟨rfl, by decide, uX7_knowWorst_7, by decide +kernel⟩
theorem fX7_knowWorst_21 : Fl RX7 wsX7_knowWorst 7 1 21 RX7 TX7 15 := ⟨rfl, by decide, uX7_knowWorst_7, by decide +kernel⟩
theorem fX7_knowWorst_41 : Fl RX7 wsX7_knowWorst 7 4 41 RX7 TX7 15 := ⟨rfl, by decide, uX7_knowWorst_7, by decide +kernel⟩
theorem fX7_knowWorst_52 : Fl RX7 wsX7_knowWorst 7 6 52 RX7 TX7 15 := ⟨rfl, by decide, uX7_knowWorst_7, by decide +kernel⟩
theorem fX7_knowWorst_58 : Fl RX7 wsX7_knowWorst 7 7 58 RX7 TX7 15 := ⟨rfl, by decide, uX7_knowWorst_7, by decide +kernel⟩
set_option maxHeartbeats 4000000 in
theorem kX7_knowWorst  {a : Nat} (ha : kd a = 0) : Ct yX7_knowWorst wsX7_knowWorst 7 [.ref a] (fun M => WF M) (fun M r M' => ∃ z : Int, r = some (.int (iI z)) ∧ (0 : Int) ≤ z ∧ z ≤ 1 ∧ WF M' ∧ Fr [0, 8, 10, 11, 17, 18, 19, 21, 22, 23] M M') := by
  refine Ct_of (cc := cX7_knowWorst) (nL := 1) (rt := (some .boolean)) (own := RX7) rfl (by decide) rfl (Nat.le_of_ble_eq_true rfl) ?_
  intro p l e s m args below meth c G M0 C W
  have E : Fr [0, 8, 10, 11, 17, 18, 19, 21, 22, 23] M0 M0 := Fr.rf
  refine A_lv (lv' := [(0, .ref a)]) rfl ?_
  refine A_aloadn C dX7_knowWorst_0 0 rfl rfl ?_
  refine G_getI C W ha rfl rfl rfl rfl rfl fX7_knowWorst_80 rfl dX7_knowWorst_1 (fun z1 ez1 lz1 uz1 => ?_)
  refine A_ifne C 71 dX7_knowWorst_4 (by decide) (by omega) (fun c2 => ?_) (fun c2 => ?_)
  · skip
    refine A_aloadn C dX7_knowWorst_71 0 rfl rfl ?_
    refine G_getI C W ha rfl rfl rfl rfl rfl fX7_knowWorst_84 rfl dX7_knowWorst_72 (fun z3 ez3 lz3 uz3 => ?_)
    exact A_zret C (by omega) dX7_knowWorst_75 ⟨z3, rfl, by omega, by omega, W, E⟩
  · skip
    refine A_aloadn C dX7_knowWorst_7 0 rfl rfl ?_
    refine G_getR C W ha rfl rfl rfl rfl fX7_knowWorst_21 dX7_knowWorst_8 (fun b4 hb4 qb4 => ?_)
    refine A_callV C (n := 0) (st := []) (kX4_reckon (Or.inl qb4)) gX7_knowWorst_X4_reckon rfl (by decide +kernel) ⟨Nat.le_of_ble_eq_true rfl, Nat.le_of_ble_eq_true rfl⟩ qb4 rfl rfl rfl rfl (Nat.le_of_ble_eq_true rfl) dX7_knowWorst_11 rfl W (fun r5 M6 h7 => ?_)
    obtain ⟨rfl, WM6, FM6⟩ := h7
    have EM6 := Fr.tr E (FM6.mono (c2 := [0, 8, 10, 11, 17, 18, 19, 21, 22, 23]) rfl)
    refine A_st (st' := []) rfl ?_
    refine A_aloadn C dX7_knowWorst_14 0 rfl rfl ?_
    refine G_getR C WM6 ha rfl rfl rfl rfl fX7_knowWorst_41 dX7_knowWorst_15 (fun b9 hb9 qb9 => ?_)
    refine A_aloadn C dX7_knowWorst_18 0 rfl rfl ?_
    refine G_getR C WM6 ha rfl rfl rfl rfl fX7_knowWorst_21 dX7_knowWorst_19 (fun b10 hb10 qb10 => ?_)
    refine A_callV C (n := 1) (st := []) (kX6_study_6 qb9 qb10) gX7_knowWorst_X6_study rfl (by decide +kernel) ⟨Nat.le_of_ble_eq_true rfl, Nat.le_of_ble_eq_true rfl⟩ qb9 rfl rfl rfl rfl (Nat.le_of_ble_eq_true rfl) dX7_knowWorst_22 rfl WM6 (fun r11 M12 h13 => ?_)
    obtain ⟨rfl, WM12, FM12⟩ := h13
    have EM12 := Fr.tr EM6 (FM12.mono (c2 := [0, 8, 10, 11, 17, 18, 19, 21, 22, 23]) rfl)
    refine A_st (st' := []) rfl ?_
    refine A_aloadn C dX7_knowWorst_25 0 rfl rfl ?_
    refine A_aloadn C dX7_knowWorst_26 0 rfl rfl ?_
    refine G_getR C WM12 ha rfl rfl rfl rfl fX7_knowWorst_41 dX7_knowWorst_27 (fun b15 hb15 qb15 => ?_)
    refine A_aloadn C dX7_knowWorst_30 0 rfl rfl ?_
    refine G_getR C WM12 ha rfl rfl rfl rfl fX7_knowWorst_52 dX7_knowWorst_31 (fun b16 hb16 qb16 => ?_)
    refine A_aloadn C dX7_knowWorst_34 0 rfl rfl ?_
    refine G_getR C WM12 ha rfl rfl rfl rfl fX7_knowWorst_58 dX7_knowWorst_35 (fun b17 hb17 qb17 => ?_)
    refine A_callV C (n := 2) (st := [.ref a]) (kX6_findWorst qb15 qb16 qb17) gX7_knowWorst_X6_findWorst rfl (by decide +kernel) ⟨Nat.le_of_ble_eq_true rfl, Nat.le_of_ble_eq_true rfl⟩ qb15 rfl rfl rfl rfl (Nat.le_of_ble_eq_true rfl) dX7_knowWorst_38 rfl WM12 (fun r18 M19 h20 => ?_)
    obtain ⟨z22, rfl, lz22, uz22, WM19, FM19⟩ := h20
    have EM19 := Fr.tr EM12 (FM19.mono (c2 := [0, 8, 10, 11, 17, 18, 19, 21, 22, 23]) rfl)
    refine A_st (st' := [.int (iI z22), .ref a]) rfl ?_
    refine G_putI C WM19 EM19 ha rfl rfl rfl rfl rfl fX7_knowWorst_84 ⟨tyX7_ok, nmX7, rfl, by decide⟩ (Or.inr ⟨rfl, by omega⟩) rfl rfl (by omega) (by omega) dX7_knowWorst_41 (fun M23 eM23 WM23 EM23 => ?_)
    refine A_aloadn C dX7_knowWorst_44 0 rfl rfl ?_
    refine G_getI C WM23 ha rfl rfl rfl rfl rfl fX7_knowWorst_84 rfl dX7_knowWorst_45 (fun z24 ez24 lz24 uz24 => ?_)
    refine A_ifeq C 66 dX7_knowWorst_48 (by decide) (by omega) (fun c25 => ?_) (fun c25 => ?_)
    · skip
      refine A_aloadn C dX7_knowWorst_66 0 rfl rfl ?_
      refine A_iconst C dX7_knowWorst_67 ?_
      refine G_putI C WM23 EM23 ha rfl rfl rfl rfl rfl fX7_knowWorst_80 ⟨tyX7_ok, nmX7, rfl, by decide⟩ (Or.inr ⟨rfl, by omega⟩) rfl rfl (by omega) (by omega) dX7_knowWorst_68 (fun M26 eM26 WM26 EM26 => ?_)
      refine A_aloadn C dX7_knowWorst_71 0 rfl rfl ?_
      refine G_getI C WM26 ha rfl rfl rfl rfl rfl fX7_knowWorst_84 rfl dX7_knowWorst_72 (fun z27 ez27 lz27 uz27 => ?_)
      exact A_zret C (by omega) dX7_knowWorst_75 ⟨z27, rfl, by omega, by omega, WM26, EM26⟩
    · skip
      refine A_aloadn C dX7_knowWorst_51 0 rfl rfl ?_
      refine G_getR C WM23 ha rfl rfl rfl rfl fX7_knowWorst_41 dX7_knowWorst_52 (fun b28 hb28 qb28 => ?_)
      refine A_aloadn C dX7_knowWorst_55 0 rfl rfl ?_
      refine G_getR C WM23 ha rfl rfl rfl rfl fX7_knowWorst_52 dX7_knowWorst_56 (fun b29 hb29 qb29 => ?_)
      refine A_aloadn C dX7_knowWorst_59 0 rfl rfl ?_
      refine G_getR C WM23 ha rfl rfl rfl rfl fX7_knowWorst_58 dX7_knowWorst_60 (fun b30 hb30 qb30 => ?_)
      refine A_callV C (n := 2) (st := []) (kX6_findFirst qb28 qb29 qb30) gX7_knowWorst_X6_findFirst rfl (by decide +kernel) ⟨Nat.le_of_ble_eq_true rfl, Nat.le_of_ble_eq_true rfl⟩ qb28 rfl rfl rfl rfl (Nat.le_of_ble_eq_true rfl) dX7_knowWorst_63 rfl WM23 (fun r31 M32 h33 => ?_)
      obtain ⟨rfl, WM32, FM32⟩ := h33
      have EM32 := Fr.tr EM23 (FM32.mono (c2 := [0, 8, 10, 11, 17, 18, 19, 21, 22, 23]) rfl)
      refine A_st (st' := []) rfl ?_
      refine A_aloadn C dX7_knowWorst_66 0 rfl rfl ?_
      refine A_iconst C dX7_knowWorst_67 ?_
      refine G_putI C WM32 EM32 ha rfl rfl rfl rfl rfl fX7_knowWorst_80 ⟨tyX7_ok, nmX7, rfl, by decide⟩ (Or.inr ⟨rfl, by omega⟩) rfl rfl (by omega) (by omega) dX7_knowWorst_68 (fun M35 eM35 WM35 EM35 => ?_)
      refine A_aloadn C dX7_knowWorst_71 0 rfl rfl ?_
      refine G_getI C WM35 ha rfl rfl rfl rfl rfl fX7_knowWorst_84 rfl dX7_knowWorst_72 (fun z36 ez36 lz36 uz36 => ?_)
      exact A_zret C (by omega) dX7_knowWorst_75 ⟨z36, rfl, by omega, by omega, WM35, EM35⟩

theorem uX7_worst_7 : ∀ w ∈ u_ws RX7 TX7 15, w ∈ wsX7_worst := by decide +kernel
theorem uX7_worst_5 : ∀ w ∈ u_ws RX5 TX5 3, w ∈ wsX7_worst := by decide +kernel
theorem uX7_worst_3 : ∀ w ∈ u_ws RX3 TX3 2, w ∈ wsX7_worst := by decide +kernel
theorem fX7_worst_52 : Fl RX7 wsX7_worst 7 6 52 RX7 TX7 15 := ⟨rfl, by decide, uX7_worst_7, by decide +kernel⟩
theorem fX7_worst_153 : Fl RX7 wsX7_worst 5 2 153 RX5 TX5 3 := ⟨rfl, by decide, uX7_worst_5, by decide +kernel⟩
theorem fX7_worst_58 : Fl RX7 wsX7_worst 7 7 58 RX7 TX7 15 := ⟨rfl, by decide, uX7_worst_7, by decide +kernel⟩
theorem fX7_worst_182 : Fl RX7 wsX7_worst 3 0 182 RX3 TX3 2 := ⟨rfl, by decide, uX7_worst_3, by decide +kernel⟩
theorem fX7_worst_186 : Fl RX7 wsX7_worst 3 1 186 RX3 TX3 2 := ⟨rfl, by decide, uX7_worst_3, by decide +kernel⟩
theorem fX7_worst_195 : Fl RX7 wsX7_worst 5 1 195 RX5 TX5 3 := ⟨rfl, by decide, uX7_worst_5, by decide +kernel⟩
set_option maxHeartbeats 4000000 in
theorem kX7_worst  {a : Nat} (ha : kd a = 0) {x1 : Int} (hx1 : (-2147483648 : Int) ≤ x1 ∧ x1 ≤ 2147483647) : Ct yX7_worst wsX7_worst 8 [.ref a, .int (iI x1)] (fun M => WF M) (fun M r M' => ∃ z : Int, r = some (.long (lL z)) ∧ r64 z ∧ WF M' ∧ Fr [0, 8, 10, 11, 17, 18, 19, 21, 22, 23] M M') := by
  refine Ct_of (cc := cX7_worst) (nL := 2) (rt := (some .long)) (own := RX7) rfl (by decide) rfl (Nat.le_of_ble_eq_true rfl) ?_
  intro p l e s m args below meth c G M0 C W
  have E : Fr [0, 8, 10, 11, 17, 18, 19, 21, 22, 23] M0 M0 := Fr.rf
  refine A_lv (lv' := [(0, .ref a), (1, .int (iI x1))]) rfl ?_
  refine A_iloadn C dX7_worst_0 1 rfl rfl ?_
  refine A_iconst C dX7_worst_1 ?_
  refine A_iconst C dX7_worst_2 ?_
  refine A_callS C (n := 3) (st := []) (kX7_within  (by omega) (by omega) (by omega)) gX7_worst_X7_within rfl (by decide +kernel) ⟨Nat.le_of_ble_eq_true rfl, Nat.le_of_ble_eq_true rfl⟩ rfl (Nat.le_of_ble_eq_true rfl) dX7_worst_3 rfl W (fun r1 M2 h3 => ?_)
  obtain ⟨z5, rfl, lz5, uz5, WM2, FM2, xx4⟩ := h3
  have EM2 := Fr.tr E (FM2.mono (c2 := [0, 8, 10, 11, 17, 18, 19, 21, 22, 23]) rfl)
  refine A_st (st' := [.int (iI z5)]) rfl ?_
  refine A_ifeq C 16 dX7_worst_6 (by decide) (by omega) (fun c6 => ?_) (fun c6 => ?_)
  · skip
    refine A_ldc2 C (index := 193) (v := (-1)) (z := (-1)) (by decide +kernel) (by decide +kernel) dX7_worst_16 ?_
    exact A_lret C dX7_worst_19 ⟨(-1), rfl, by omega, WM2, EM2⟩
  · skip
    refine A_aloadn C dX7_worst_9 0 rfl rfl ?_
    refine A_callV C (n := 0) (st := []) (kX7_knowWorst ha) gX7_worst_X7_knowWorst rfl (by decide +kernel) ⟨Nat.le_of_ble_eq_true rfl, Nat.le_of_ble_eq_true rfl⟩ ha rfl rfl rfl rfl (Nat.le_of_ble_eq_true rfl) dX7_worst_10 rfl WM2 (fun r7 M8 h9 => ?_)
    obtain ⟨z11, rfl, lz11, uz11, WM8, FM8⟩ := h9
    have EM8 := Fr.tr EM2 (FM8.mono (c2 := [0, 8, 10, 11, 17, 18, 19, 21, 22, 23]) rfl)
    refine A_st (st' := [.int (iI z11)]) rfl ?_
    refine A_ifne C 20 dX7_worst_13 (by decide) (by omega) (fun c12 => ?_) (fun c12 => ?_)
    · skip
      refine A_iloadn C dX7_worst_20 1 rfl rfl ?_
      rcases (show (x1 < 0 ∨ 3 < x1) ∨ x1 = 0 ∨ x1 = 1 ∨ x1 = 2 ∨ x1 = 3 by omega) with c13 | c13 | c13 | c13 | c13
      · skip
        refine A_tabOut C 86 dX7_worst_21 (by omega) c13 (by decide) ?_
        refine A_aloadn C dX7_worst_86 0 rfl rfl ?_
        refine G_getR C WM8 ha rfl rfl rfl rfl fX7_worst_52 dX7_worst_87 (fun b14 hb14 qb14 => ?_)
        refine G_getI C WM8 qb14 rfl rfl rfl rfl rfl fX7_worst_153 rfl dX7_worst_90 (fun z15 ez15 lz15 uz15 => ?_)
        refine A_i2l C (by omega) dX7_worst_93 ?_
        exact A_lret C dX7_worst_94 ⟨z15, rfl, by omega, WM8, EM8⟩
      · skip
        refine A_tabIn C 0 52 dX7_worst_21 c13 (by decide) (by decide) (by decide) rfl (by decide) ?_
        refine A_aloadn C dX7_worst_52 0 rfl rfl ?_
        refine G_getR C WM8 ha rfl rfl rfl rfl fX7_worst_58 dX7_worst_53 (fun b16 hb16 qb16 => ?_)
        refine G_getL C WM8 qb16 rfl rfl rfl fX7_worst_182 dX7_worst_56 (fun z17 ez17 rz17 => ?_)
        exact A_lret C dX7_worst_59 ⟨z17, rfl, by omega, WM8, EM8⟩
      · skip
        refine A_tabIn C 1 60 dX7_worst_21 c13 (by decide) (by decide) (by decide) rfl (by decide) ?_
        refine A_aloadn C dX7_worst_60 0 rfl rfl ?_
        refine G_getR C WM8 ha rfl rfl rfl rfl fX7_worst_58 dX7_worst_61 (fun b18 hb18 qb18 => ?_)
        refine G_getL C WM8 qb18 rfl rfl rfl fX7_worst_186 dX7_worst_64 (fun z19 ez19 rz19 => ?_)
        exact A_lret C dX7_worst_67 ⟨z19, rfl, by omega, WM8, EM8⟩
      · skip
        refine A_tabIn C 2 68 dX7_worst_21 c13 (by decide) (by decide) (by decide) rfl (by decide) ?_
        refine A_aloadn C dX7_worst_68 0 rfl rfl ?_
        refine G_getR C WM8 ha rfl rfl rfl rfl fX7_worst_52 dX7_worst_69 (fun b20 hb20 qb20 => ?_)
        refine G_getI C WM8 qb20 rfl rfl rfl rfl rfl fX7_worst_195 rfl dX7_worst_72 (fun z21 ez21 lz21 uz21 => ?_)
        refine A_i2l C (by omega) dX7_worst_75 ?_
        exact A_lret C dX7_worst_76 ⟨z21, rfl, by omega, WM8, EM8⟩
      · skip
        refine A_tabIn C 3 77 dX7_worst_21 c13 (by decide) (by decide) (by decide) rfl (by decide) ?_
        refine A_aloadn C dX7_worst_77 0 rfl rfl ?_
        refine G_getR C WM8 ha rfl rfl rfl rfl fX7_worst_52 dX7_worst_78 (fun b22 hb22 qb22 => ?_)
        refine A_callV C (n := 0) (st := []) (kX5_end_21 qb22) gX7_worst_X5_end rfl (by decide +kernel) ⟨Nat.le_of_ble_eq_true rfl, Nat.le_of_ble_eq_true rfl⟩ qb22 rfl rfl rfl rfl (Nat.le_of_ble_eq_true rfl) dX7_worst_81 rfl WM8 (fun r23 M24 h25 => ?_)
        obtain ⟨z27, rfl, lz27, uz27, WM24, FM24, xx26⟩ := h25
        have EM24 := Fr.tr EM8 (FM24.mono (c2 := [0, 8, 10, 11, 17, 18, 19, 21, 22, 23]) rfl)
        refine A_st (st' := [.int (iI z27)]) rfl ?_
        refine A_i2l C (by omega) dX7_worst_84 ?_
        exact A_lret C dX7_worst_85 ⟨z27, rfl, by omega, WM24, EM24⟩
    · skip
      refine A_ldc2 C (index := 193) (v := (-1)) (z := (-1)) (by decide +kernel) (by decide +kernel) dX7_worst_16 ?_
      exact A_lret C dX7_worst_19 ⟨(-1), rfl, by omega, WM8, EM8⟩

theorem uX7_height_7 : ∀ w ∈ u_ws RX7 TX7 15, w ∈ wsX7_height := by decide +kernel
theorem uX7_height_5 : ∀ w ∈ u_ws RX5 TX5 3, w ∈ wsX7_height := by decide +kernel
theorem fX7_height_52 : Fl RX7 wsX7_height 7 6 52 RX7 TX7 15 := ⟨rfl, by decide, uX7_height_7, by decide +kernel⟩
theorem fX7_height_153 : Fl RX7 wsX7_height 5 2 153 RX5 TX5 3 := ⟨rfl, by decide, uX7_height_5, by decide +kernel⟩
theorem fX7_height_198 : Fl RX7 wsX7_height 5 0 198 RX5 TX5 3 := ⟨rfl, by decide, uX7_height_5, by decide +kernel⟩
set_option maxHeartbeats 4000000 in
theorem kX7_height  {a : Nat} (ha : kd a = 0) {x1 : Int} (hx1 : (-2147483648 : Int) ≤ x1 ∧ x1 ≤ 2147483647) : Ct yX7_height wsX7_height 8 [.ref a, .int (iI x1)] (fun M => WF M) (fun M r M' => ∃ z : Int, r = some (.int (iI z)) ∧ (-2147483648 : Int) ≤ z ∧ z ≤ 2147483647 ∧ WF M' ∧ Fr [0, 8, 10, 11, 17, 18, 19, 21, 22, 23] M M') := by
  refine Ct_of (cc := cX7_height) (nL := 2) (rt := (some .int)) (own := RX7) rfl (by decide) rfl (Nat.le_of_ble_eq_true rfl) ?_
  intro p l e s m args below meth c G M0 C W
  have E : Fr [0, 8, 10, 11, 17, 18, 19, 21, 22, 23] M0 M0 := Fr.rf
  refine A_lv (lv' := [(0, .ref a), (1, .int (iI x1))]) rfl ?_
  refine A_aloadn C dX7_height_0 0 rfl rfl ?_
  refine A_callV C (n := 0) (st := []) (kX7_knowWorst ha) gX7_height_X7_knowWorst rfl (by decide +kernel) ⟨Nat.le_of_ble_eq_true rfl, Nat.le_of_ble_eq_true rfl⟩ ha rfl rfl rfl rfl (Nat.le_of_ble_eq_true rfl) dX7_height_1 rfl W (fun r1 M2 h3 => ?_)
  obtain ⟨z5, rfl, lz5, uz5, WM2, FM2⟩ := h3
  have EM2 := Fr.tr E (FM2.mono (c2 := [0, 8, 10, 11, 17, 18, 19, 21, 22, 23]) rfl)
  refine A_st (st' := [.int (iI z5)]) rfl ?_
  refine A_ifeq C 24 dX7_height_4 (by decide) (by omega) (fun c6 => ?_) (fun c6 => ?_)
  · skip
    refine A_iconst C dX7_height_24 ?_
    exact A_iret C dX7_height_25 ⟨(-1), rfl, by omega, by omega, WM2, EM2⟩
  · skip
    refine A_iloadn C dX7_height_7 1 rfl rfl ?_
    refine A_iconst C dX7_height_8 ?_
    refine A_aloadn C dX7_height_9 0 rfl rfl ?_
    refine G_getR C WM2 ha rfl rfl rfl rfl fX7_height_52 dX7_height_10 (fun b7 hb7 qb7 => ?_)
    refine G_getI C WM2 qb7 rfl rfl rfl rfl rfl fX7_height_153 rfl dX7_height_13 (fun z8 ez8 lz8 uz8 => ?_)
    refine A_iconst C dX7_height_16 ?_
    refine A_isub C dX7_height_17 ?_
    refine A_callS C (n := 3) (st := []) (kX7_within  (by omega) (by omega) (by omega)) gX7_height_X7_within rfl (by decide +kernel) ⟨Nat.le_of_ble_eq_true rfl, Nat.le_of_ble_eq_true rfl⟩ rfl (Nat.le_of_ble_eq_true rfl) dX7_height_18 rfl WM2 (fun r9 M10 h11 => ?_)
    obtain ⟨z13, rfl, lz13, uz13, WM10, FM10, xx12⟩ := h11
    have EM10 := Fr.tr EM2 (FM10.mono (c2 := [0, 8, 10, 11, 17, 18, 19, 21, 22, 23]) rfl)
    refine A_st (st' := [.int (iI z13)]) rfl ?_
    refine A_ifne C 26 dX7_height_21 (by decide) (by omega) (fun c14 => ?_) (fun c14 => ?_)
    · skip
      refine A_aloadn C dX7_height_26 0 rfl rfl ?_
      refine G_getR C WM10 ha rfl rfl rfl rfl fX7_height_52 dX7_height_27 (fun b15 hb15 qb15 => ?_)
      refine G_getR C WM10 qb15 rfl rfl rfl rfl fX7_height_198 dX7_height_30 (fun b16 hb16 qb16 => ?_)
      refine A_iloadn C dX7_height_33 1 rfl rfl ?_
      refine G_iald C WM10 qb16 rfl rfl (by decide) (fun _ => rfl) (by omega) (by omega) dX7_height_34 (fun z17 ez17 lz17 uz17 => ?_)
      exact A_iret C dX7_height_35 ⟨z17, rfl, by omega, by omega, WM10, EM10⟩
    · skip
      refine A_iconst C dX7_height_24 ?_
      exact A_iret C dX7_height_25 ⟨(-1), rfl, by omega, by omega, WM10, EM10⟩
end
section
theorem uX7_standsRisen_7 : ∀ w ∈ u_ws RX7 TX7 15, w ∈ wsX7_standsRisen := by decide +kernel
theorem fX7_standsRisen_28 : Fl RX7 wsX7_standsRisen 7 2 28 RX7 TX7 15 := ⟨rfl, by decide, uX7_standsRisen_7, by decide +kernel⟩
theorem fX7_standsRisen_21 : Fl RX7 wsX7_standsRisen 7 1 21 RX7 TX7 15 := ⟨rfl, by decide, uX7_standsRisen_7, by decide +kernel⟩
theorem fX7_standsRisen_41 : Fl RX7 wsX7_standsRisen 7 4 41 RX7 TX7 15 := ⟨rfl, by decide, uX7_standsRisen_7, by decide +kernel⟩
set_option maxHeartbeats 4000000 in
theorem kX7_standsRisen  {a : Nat} (ha : kd a = 0) {x1 : Int} {x2 : Int} {x3 : Int} (hx1 : (0 : Int) ≤ x1 ∧ x1 ≤ 24) (hx2 : (-2147483648 : Int) ≤ x2 ∧ x2 ≤ 2147483647) (hx3 : (-2147483648 : Int) ≤ x3 ∧ x3 ≤ 2147483647) : Ct yX7_standsRisen wsX7_standsRisen 5 [.ref a, .int (iI x1), .int (iI x2), .int (iI x3)] (fun M => WF M) (fun M r M' => ∃ z : Int, r = some (.int (iI z)) ∧ (0 : Int) ≤ z ∧ z ≤ 1 ∧ WF M' ∧ Fr [12, 8, 10, 11, 17, 18, 19] M M') := by
  refine Ct_of (cc := cX7_standsRisen) (nL := 4) (rt := (some .boolean)) (own := RX7) rfl (by decide) rfl (Nat.le_of_ble_eq_true rfl) ?_
  intro p l e s m args below meth c G M0 C W
  have E : Fr [12, 8, 10, 11, 17, 18, 19] M0 M0 := Fr.rf
  refine A_lv (lv' := [(0, .ref a), (1, .int (iI x1)), (2, .int (iI x2)), (3, .int (iI x3))]) rfl ?_
  refine A_aloadn C dX7_standsRisen_0 0 rfl rfl ?_
  refine G_getR C W ha rfl rfl rfl rfl fX7_standsRisen_28 dX7_standsRisen_1 (fun b1 hb1 qb1 => ?_)
  refine A_aloadn C dX7_standsRisen_4 0 rfl rfl ?_
  refine G_getR C W ha rfl rfl rfl rfl fX7_standsRisen_21 dX7_standsRisen_5 (fun b2 hb2 qb2 => ?_)
  refine A_callV C (n := 1) (st := []) (kX4_copy qb1 qb2) gX7_standsRisen_X4_copy rfl (by decide +kernel) ⟨Nat.le_of_ble_eq_true rfl, Nat.le_of_ble_eq_true rfl⟩ qb1 rfl rfl rfl rfl (Nat.le_of_ble_eq_true rfl) dX7_standsRisen_8 rfl W (fun r3 M4 h5 => ?_)
  obtain ⟨rfl, WM4, FM4⟩ := h5
  have EM4 := Fr.tr E (FM4.mono (c2 := [12, 8, 10, 11, 17, 18, 19]) rfl)
  refine A_st (st' := []) rfl ?_
  refine A_aloadn C dX7_standsRisen_11 0 rfl rfl ?_
  refine G_getR C WM4 ha rfl rfl rfl rfl fX7_standsRisen_28 dX7_standsRisen_12 (fun b7 hb7 qb7 => ?_)
  refine A_iloadn C dX7_standsRisen_15 1 rfl rfl ?_
  refine A_callV C (n := 1) (st := []) (kX4_raiseWater qb7 (by omega)) gX7_standsRisen_X4_raiseWater rfl (by decide +kernel) ⟨Nat.le_of_ble_eq_true rfl, Nat.le_of_ble_eq_true rfl⟩ qb7 rfl rfl rfl rfl (Nat.le_of_ble_eq_true rfl) dX7_standsRisen_16 rfl WM4 (fun r8 M9 h10 => ?_)
  obtain ⟨rfl, WM9, FM9⟩ := h10
  have EM9 := Fr.tr EM4 (FM9.mono (c2 := [12, 8, 10, 11, 17, 18, 19]) rfl)
  refine A_st (st' := []) rfl ?_
  refine A_aloadn C dX7_standsRisen_19 0 rfl rfl ?_
  refine G_getR C WM9 ha rfl rfl rfl rfl fX7_standsRisen_28 dX7_standsRisen_20 (fun b12 hb12 qb12 => ?_)
  refine A_callV C (n := 0) (st := []) (kX4_reckon (Or.inr qb12)) gX7_standsRisen_X4_reckon rfl (by decide +kernel) ⟨Nat.le_of_ble_eq_true rfl, Nat.le_of_ble_eq_true rfl⟩ qb12 rfl rfl rfl rfl (Nat.le_of_ble_eq_true rfl) dX7_standsRisen_23 rfl WM9 (fun r13 M14 h15 => ?_)
  obtain ⟨rfl, WM14, FM14⟩ := h15
  have EM14 := Fr.tr EM9 (FM14.mono (c2 := [12, 8, 10, 11, 17, 18, 19]) rfl)
  refine A_st (st' := []) rfl ?_
  refine A_aloadn C dX7_standsRisen_26 0 rfl rfl ?_
  refine G_getR C WM14 ha rfl rfl rfl rfl fX7_standsRisen_41 dX7_standsRisen_27 (fun b17 hb17 qb17 => ?_)
  refine A_aloadn C dX7_standsRisen_30 0 rfl rfl ?_
  refine G_getR C WM14 ha rfl rfl rfl rfl fX7_standsRisen_28 dX7_standsRisen_31 (fun b18 hb18 qb18 => ?_)
  refine A_callV C (n := 1) (st := []) (kX6_study_12 qb17 qb18) gX7_standsRisen_X6_study rfl (by decide +kernel) ⟨Nat.le_of_ble_eq_true rfl, Nat.le_of_ble_eq_true rfl⟩ qb17 rfl rfl rfl rfl (Nat.le_of_ble_eq_true rfl) dX7_standsRisen_34 rfl WM14 (fun r19 M20 h21 => ?_)
  obtain ⟨rfl, WM20, FM20⟩ := h21
  have EM20 := Fr.tr EM14 (FM20.mono (c2 := [12, 8, 10, 11, 17, 18, 19]) rfl)
  refine A_st (st' := []) rfl ?_
  refine A_aloadn C dX7_standsRisen_37 0 rfl rfl ?_
  refine G_getR C WM20 ha rfl rfl rfl rfl fX7_standsRisen_41 dX7_standsRisen_38 (fun b23 hb23 qb23 => ?_)
  refine A_iloadn C dX7_standsRisen_41 2 rfl rfl ?_
  refine A_i2l C (by omega) dX7_standsRisen_42 ?_
  refine A_iloadn C dX7_standsRisen_43 3 rfl rfl ?_
  refine A_i2l C (by omega) dX7_standsRisen_44 ?_
  refine A_callV C (n := 2) (st := []) (kX6_stands qb23 (by omega) (by omega)) gX7_standsRisen_X6_stands rfl (by decide +kernel) ⟨Nat.le_of_ble_eq_true rfl, Nat.le_of_ble_eq_true rfl⟩ qb23 rfl rfl rfl rfl (Nat.le_of_ble_eq_true rfl) dX7_standsRisen_45 rfl WM20 (fun r24 M25 h26 => ?_)
  obtain ⟨z28, rfl, lz28, uz28, WM25, FM25⟩ := h26
  have EM25 := Fr.tr EM20 (FM25.mono (c2 := [12, 8, 10, 11, 17, 18, 19]) rfl)
  refine A_st (st' := [.int (iI z28)]) rfl ?_
  exact A_zret C (by omega) dX7_standsRisen_48 ⟨z28, rfl, by omega, by omega, WM25, EM25⟩

theorem uX7_rise_7 : ∀ w ∈ u_ws RX7 TX7 15, w ∈ wsX7_rise := by decide +kernel
theorem fX7_rise_21 : Fl RX7 wsX7_rise 7 1 21 RX7 TX7 15 := ⟨rfl, by decide, uX7_rise_7, by decide +kernel⟩
set_option maxHeartbeats 4000000 in
theorem lpX7_rise_23 {p : Program} {l : Launch} {e : Env} {s : State} {m : MethodId} {args : Array Value} {below : List Frame} {meth : Method} {c : Code} {G : xG} (C : Cx p s m args meth c G cX7_rise 5 RX7 wsX7_rise (some .int))  {a : Nat} (ha : kd a = 0) {x1 : Int} {x2 : Int} (hx1 : (-2147483648 : Int) ≤ x1 ∧ x1 ≤ 2147483647) (hx2 : (-2147483648 : Int) ≤ x2 ∧ x2 ≤ 2147483647) {M0 : Mem} : ∀ (n : Nat) (v3 v4 : Int) (M : Mem), (v4).toNat < n → (-1 ≤ v3 ∧ v3 ≤ 24 ∧ 0 ≤ v4 ∧ v4 ≤ 16) → WF M → Fr [12, 8, 10, 11, 17, 18, 19] M0 M → AW p l e (rmD 6) s m args below meth c G 5 (QQ G below args s ((fun M r M' => ∃ z : Int, r = some (.int (iI z)) ∧ (-2147483648 : Int) ≤ z ∧ z ≤ 2147483647 ∧ WF M' ∧ Fr [12, 8, 10, 11, 17, 18, 19] M M') M0)) M 23 [(0, .ref a), (1, .int (iI x1)), (2, .int (iI x2)), (3, .int (iI v3)), (4, .int (iI v4))] [] := by
  intro n
  induction n with
  | zero => intro v3 v4 M hn; exact absurd hn (Nat.not_lt_zero _)
  | succ n ih =>
    intro v3 v4 M hn hi W E
    refine A_iload C dX7_rise_23 4 rfl ?_
    refine A_ifle C 64 dX7_rise_25 (by decide) (by omega) (fun c1 => ?_) (fun c1 => ?_)
    · skip
      refine A_iloadn C dX7_rise_64 3 rfl rfl ?_
      exact A_iret C dX7_rise_65 ⟨v3, rfl, by omega, by omega, W, E⟩
    · skip
      refine A_iloadn C dX7_rise_28 3 rfl rfl ?_
      refine A_iload C dX7_rise_29 4 rfl ?_
      refine A_iadd C dX7_rise_31 ?_
      refine A_bipush C dX7_rise_32 (by decide) ?_
      refine A_icmpgt C 55 dX7_rise_34 (by decide) (by omega) (by omega) (fun c2 => ?_) (fun c2 => ?_)
      · skip
        refine A_iload C dX7_rise_55 4 rfl ?_
        refine A_iconst C dX7_rise_57 ?_
        refine A_idiv2 C (by omega) (by omega) dX7_rise_58 (fun z3 lz3 uz3 => ?_)
        refine A_istore (lv' := [(4, .int (iI z3)), (0, .ref a), (1, .int (iI x1)), (2, .int (iI x2)), (3, .int (iI v3))]) C dX7_rise_59 (by decide) rfl ?_
        refine A_goto C 23 dX7_rise_61 (by decide) ?_
        refine A_pick [1, 2, 3, 4, 0] rfl ?_
        exact ih v3 z3 M (by omega) (by omega) W E
      · skip
        refine A_aloadn C dX7_rise_37 0 rfl rfl ?_
        refine A_iloadn C dX7_rise_38 3 rfl rfl ?_
        refine A_iload C dX7_rise_39 4 rfl ?_
        refine A_iadd C dX7_rise_41 ?_
        refine A_iloadn C dX7_rise_42 1 rfl rfl ?_
        refine A_iloadn C dX7_rise_43 2 rfl rfl ?_
        refine A_callV C (n := 3) (st := []) (kX7_standsRisen ha (by omega) (by omega) (by omega)) gX7_rise_X7_standsRisen rfl (by decide +kernel) ⟨Nat.le_of_ble_eq_true rfl, Nat.le_of_ble_eq_true rfl⟩ ha rfl rfl rfl rfl (Nat.le_of_ble_eq_true rfl) dX7_rise_44 rfl W (fun r4 M5 h6 => ?_)
        obtain ⟨z8, rfl, lz8, uz8, WM5, FM5⟩ := h6
        have EM5 := Fr.tr E (FM5.mono (c2 := [12, 8, 10, 11, 17, 18, 19]) rfl)
        refine A_st (st' := [.int (iI z8)]) rfl ?_
        refine A_ifeq C 55 dX7_rise_47 (by decide) (by omega) (fun c9 => ?_) (fun c9 => ?_)
        · skip
          refine A_iload C dX7_rise_55 4 rfl ?_
          refine A_iconst C dX7_rise_57 ?_
          refine A_idiv2 C (by omega) (by omega) dX7_rise_58 (fun z10 lz10 uz10 => ?_)
          refine A_istore (lv' := [(4, .int (iI z10)), (0, .ref a), (1, .int (iI x1)), (2, .int (iI x2)), (3, .int (iI v3))]) C dX7_rise_59 (by decide) rfl ?_
          refine A_goto C 23 dX7_rise_61 (by decide) ?_
          refine A_pick [1, 2, 3, 4, 0] rfl ?_
          exact ih v3 z10 M5 (by omega) (by omega) WM5 EM5
        · skip
          refine A_iloadn C dX7_rise_50 3 rfl rfl ?_
          refine A_iload C dX7_rise_51 4 rfl ?_
          refine A_iadd C dX7_rise_53 ?_
          refine A_nami (fun z11 ez11 => ?_)
          refine A_istoren (lv' := [(3, .int (iI z11)), (0, .ref a), (1, .int (iI x1)), (2, .int (iI x2)), (4, .int (iI v4))]) C dX7_rise_54 rfl (by decide) rfl ?_
          refine A_iload C dX7_rise_55 4 rfl ?_
          refine A_iconst C dX7_rise_57 ?_
          refine A_idiv2 C (by omega) (by omega) dX7_rise_58 (fun z12 lz12 uz12 => ?_)
          refine A_istore (lv' := [(4, .int (iI z12)), (3, .int (iI z11)), (0, .ref a), (1, .int (iI x1)), (2, .int (iI x2))]) C dX7_rise_59 (by decide) rfl ?_
          refine A_goto C 23 dX7_rise_61 (by decide) ?_
          refine A_pick [2, 3, 4, 1, 0] rfl ?_
          exact ih z11 z12 M5 (by omega) (by omega) WM5 EM5
set_option maxHeartbeats 4000000 in
theorem kX7_rise  {a : Nat} (ha : kd a = 0) {x1 : Int} {x2 : Int} (hx1 : (-2147483648 : Int) ≤ x1 ∧ x1 ≤ 2147483647) (hx2 : (-2147483648 : Int) ≤ x2 ∧ x2 ≤ 2147483647) : Ct yX7_rise wsX7_rise 6 [.ref a, .int (iI x1), .int (iI x2)] (fun M => WF M) (fun M r M' => ∃ z : Int, r = some (.int (iI z)) ∧ (-2147483648 : Int) ≤ z ∧ z ≤ 2147483647 ∧ WF M' ∧ Fr [12, 8, 10, 11, 17, 18, 19] M M') := by
  refine Ct_of (cc := cX7_rise) (nL := 5) (rt := (some .int)) (own := RX7) rfl (by decide) rfl (Nat.le_of_ble_eq_true rfl) ?_
  intro p l e s m args below meth c G M0 C W
  have E : Fr [12, 8, 10, 11, 17, 18, 19] M0 M0 := Fr.rf
  refine A_lv (lv' := [(0, .ref a), (1, .int (iI x1)), (2, .int (iI x2))]) rfl ?_
  refine A_iloadn C dX7_rise_0 1 rfl rfl ?_
  refine A_iloadn C dX7_rise_1 2 rfl rfl ?_
  refine A_callS C (n := 2) (st := []) (kX7_isRatio  (by omega) (by omega)) gX7_rise_X7_isRatio rfl (by decide +kernel) ⟨Nat.le_of_ble_eq_true rfl, Nat.le_of_ble_eq_true rfl⟩ rfl (Nat.le_of_ble_eq_true rfl) dX7_rise_2 rfl W (fun r13 M14 h15 => ?_)
  obtain ⟨z17, rfl, lz17, uz17, WM14, FM14⟩ := h15
  have EM14 := Fr.tr E (FM14.mono (c2 := [12, 8, 10, 11, 17, 18, 19]) rfl)
  refine A_st (st' := [.int (iI z17)]) rfl ?_
  refine A_ifne C 10 dX7_rise_5 (by decide) (by omega) (fun c18 => ?_) (fun c18 => ?_)
  · skip
    refine A_aloadn C dX7_rise_10 0 rfl rfl ?_
    refine G_getR C WM14 ha rfl rfl rfl rfl fX7_rise_21 dX7_rise_11 (fun b19 hb19 qb19 => ?_)
    refine A_callV C (n := 0) (st := []) (kX4_reckon (Or.inl qb19)) gX7_rise_X4_reckon rfl (by decide +kernel) ⟨Nat.le_of_ble_eq_true rfl, Nat.le_of_ble_eq_true rfl⟩ qb19 rfl rfl rfl rfl (Nat.le_of_ble_eq_true rfl) dX7_rise_14 rfl WM14 (fun r20 M21 h22 => ?_)
    obtain ⟨rfl, WM21, FM21⟩ := h22
    have EM21 := Fr.tr EM14 (FM21.mono (c2 := [12, 8, 10, 11, 17, 18, 19]) rfl)
    refine A_st (st' := []) rfl ?_
    refine A_iconst C dX7_rise_17 ?_
    refine A_nami (fun z24 ez24 => ?_)
    refine A_istoren (lv' := [(3, .int (iI z24)), (0, .ref a), (1, .int (iI x1)), (2, .int (iI x2))]) C dX7_rise_18 rfl (by decide) rfl ?_
    refine A_bipush C dX7_rise_19 (by decide) ?_
    refine A_istore (lv' := [(4, .int (iI 16)), (3, .int (iI z24)), (0, .ref a), (1, .int (iI x1)), (2, .int (iI x2))]) C dX7_rise_21 (by decide) rfl ?_
    refine A_pick [2, 3, 4, 1, 0] rfl ?_
    exact lpX7_rise_23 C  ha hx1 hx2 (((16 : Int)).toNat + 1) z24 16 M21 (by omega) (by omega) WM21 EM21
  · skip
    refine A_iconst C dX7_rise_8 ?_
    exact A_iret C dX7_rise_9 ⟨(-1), rfl, by omega, by omega, WM14, EM14⟩

theorem uX7_act_7 : ∀ w ∈ u_ws RX7 TX7 15, w ∈ wsX7_act := by decide +kernel
theorem fX7_act_21 : Fl RX7 wsX7_act 7 1 21 RX7 TX7 15 := ⟨rfl, by decide, uX7_act_7, by decide +kernel⟩
theorem fX7_act_34 : Fl RX7 wsX7_act 7 3 34 RX7 TX7 15 := ⟨rfl, by decide, uX7_act_7, by decide +kernel⟩
set_option maxHeartbeats 4000000 in
theorem kX7_act  {a : Nat} (ha : kd a = 0) {x1 : Int} {x2 : Int} {x3 : Int} (hx1 : (-2147483648 : Int) ≤ x1 ∧ x1 ≤ 2147483647) (hx2 : (-2147483648 : Int) ≤ x2 ∧ x2 ≤ 2147483647) (hx3 : (-2147483648 : Int) ≤ x3 ∧ x3 ≤ 2147483647) : Ct yX7_act wsX7_act 3 [.ref a, .int (iI x1), .int (iI x2), .int (iI x3)] (fun M => WF M) (fun M r M' => ∃ z : Int, r = some (.int (iI z)) ∧ (-1 : Int) ≤ z ∧ z ≤ 5 ∧ WF M' ∧ Fr [13, 14, 15, 16] M M') := by
  refine Ct_of (cc := cX7_act) (nL := 5) (rt := (some .int)) (own := RX7) rfl (by decide) rfl (Nat.le_of_ble_eq_true rfl) ?_
  intro p l e s m args below meth c G M0 C W
  have E : Fr [13, 14, 15, 16] M0 M0 := Fr.rf
  refine A_lv (lv' := [(0, .ref a), (1, .int (iI x1)), (2, .int (iI x2)), (3, .int (iI x3))]) rfl ?_
  refine A_iloadn C dX7_act_0 1 rfl rfl ?_
  refine A_iconst C dX7_act_1 ?_
  refine A_iconst C dX7_act_2 ?_
  refine A_callS C (n := 3) (st := []) (kX7_within  (by omega) (by omega) (by omega)) gX7_act_X7_within rfl (by decide +kernel) ⟨Nat.le_of_ble_eq_true rfl, Nat.le_of_ble_eq_true rfl⟩ rfl (Nat.le_of_ble_eq_true rfl) dX7_act_3 rfl W (fun r1 M2 h3 => ?_)
  obtain ⟨z5, rfl, lz5, uz5, WM2, FM2, xx4⟩ := h3
  have EM2 := Fr.tr E (FM2.mono (c2 := [13, 14, 15, 16]) rfl)
  refine A_st (st' := [.int (iI z5)]) rfl ?_
  refine A_ifeq C 20 dX7_act_6 (by decide) (by omega) (fun c6 => ?_) (fun c6 => ?_)
  · skip
    refine A_iconst C dX7_act_20 ?_
    exact A_iret C dX7_act_21 ⟨(-1), rfl, by omega, by omega, WM2, EM2⟩
  · skip
    refine A_aloadn C dX7_act_9 0 rfl rfl ?_
    refine G_getR C WM2 ha rfl rfl rfl rfl fX7_act_21 dX7_act_10 (fun b7 hb7 qb7 => ?_)
    refine A_iloadn C dX7_act_13 2 rfl rfl ?_
    refine A_callV C (n := 1) (st := []) (kX4_has (Or.inl qb7) (by omega)) gX7_act_X4_has rfl (by decide +kernel) ⟨Nat.le_of_ble_eq_true rfl, Nat.le_of_ble_eq_true rfl⟩ qb7 rfl rfl rfl rfl (Nat.le_of_ble_eq_true rfl) dX7_act_14 rfl WM2 (fun r8 M9 h10 => ?_)
    obtain ⟨z12, rfl, lz12, uz12, WM9, FM9, xx11⟩ := h10
    have EM9 := Fr.tr EM2 (FM9.mono (c2 := [13, 14, 15, 16]) rfl)
    refine A_st (st' := [.int (iI z12)]) rfl ?_
    refine A_ifne C 22 dX7_act_17 (by decide) (by omega) (fun c13 => ?_) (fun c13 => ?_)
    · skip
      refine A_iloadn C dX7_act_22 1 rfl rfl ?_
      refine A_ifeq C 31 dX7_act_23 (by decide) (by omega) (fun c14 => ?_) (fun c14 => ?_)
      · skip
        refine A_iconst C dX7_act_31 ?_
        refine A_goto C 36 dX7_act_32 (by decide) ?_
        refine A_istore (lv' := [(4, .int (iI 1)), (0, .ref a), (1, .int (iI x1)), (2, .int (iI x2)), (3, .int (iI x3))]) C dX7_act_36 (by decide) rfl ?_
        refine A_iloadn C dX7_act_38 4 rfl rfl ?_
        refine A_iconst C dX7_act_39 ?_
        refine A_iload C dX7_act_40 0 rfl ?_
        refine A_ifeq C 50 dX7_act_42 (by decide) (by omega) (fun c15 => ?_) (fun c15 => ?_)
        · skip
          refine A_sipush C dX7_act_50 (by decide) ?_
          refine A_callS C (n := 3) (st := []) (kX7_within  (by omega) (by omega) (by omega)) gX7_act_X7_within rfl (by decide +kernel) ⟨Nat.le_of_ble_eq_true rfl, Nat.le_of_ble_eq_true rfl⟩ rfl (Nat.le_of_ble_eq_true rfl) dX7_act_53 rfl WM9 (fun r16 M17 h18 => ?_)
          obtain ⟨z20, rfl, lz20, uz20, WM17, FM17, xx19⟩ := h18
          have EM17 := Fr.tr EM9 (FM17.mono (c2 := [13, 14, 15, 16]) rfl)
          refine A_st (st' := [.int (iI z20)]) rfl ?_
          refine A_ifne C 61 dX7_act_56 (by decide) (by omega) (fun c21 => ?_) (fun c21 => ?_)
          · skip
            refine A_aloadn C dX7_act_61 1 rfl rfl ?_
            refine G_getR C WM17 ha rfl rfl rfl rfl fX7_act_34 dX7_act_62 (fun b22 hb22 qb22 => ?_)
            refine A_iloadn C dX7_act_65 2 rfl rfl ?_
            refine A_iloadn C dX7_act_66 3 rfl rfl ?_
            refine A_iloadn C dX7_act_67 4 rfl rfl ?_
            refine A_callV C (n := 3) (st := []) (kX0_add qb22 (by omega) (by omega) (by omega)) gX7_act_X0_add rfl (by decide +kernel) ⟨Nat.le_of_ble_eq_true rfl, Nat.le_of_ble_eq_true rfl⟩ qb22 rfl rfl rfl rfl (Nat.le_of_ble_eq_true rfl) dX7_act_68 rfl WM17 (fun r23 M24 h25 => ?_)
            obtain ⟨z27, rfl, lz27, uz27, WM24, FM24⟩ := h25
            have EM24 := Fr.tr EM17 (FM24.mono (c2 := [13, 14, 15, 16]) rfl)
            refine A_st (st' := [.int (iI z27)]) rfl ?_
            exact A_iret C dX7_act_71 ⟨z27, rfl, by omega, by omega, WM24, EM24⟩
          · skip
            refine A_iconst C dX7_act_59 ?_
            exact A_iret C dX7_act_60 ⟨(-1), rfl, by omega, by omega, WM17, EM17⟩
        · skip
          refine A_bipush C dX7_act_45 (by decide) ?_
          refine A_goto C 53 dX7_act_47 (by decide) ?_
          refine A_callS C (n := 3) (st := []) (kX7_within  (by omega) (by omega) (by omega)) gX7_act_X7_within rfl (by decide +kernel) ⟨Nat.le_of_ble_eq_true rfl, Nat.le_of_ble_eq_true rfl⟩ rfl (Nat.le_of_ble_eq_true rfl) dX7_act_53 rfl WM9 (fun r28 M29 h30 => ?_)
          obtain ⟨z32, rfl, lz32, uz32, WM29, FM29, xx31⟩ := h30
          have EM29 := Fr.tr EM9 (FM29.mono (c2 := [13, 14, 15, 16]) rfl)
          refine A_st (st' := [.int (iI z32)]) rfl ?_
          refine A_ifne C 61 dX7_act_56 (by decide) (by omega) (fun c33 => ?_) (fun c33 => ?_)
          · skip
            refine A_aloadn C dX7_act_61 1 rfl rfl ?_
            refine G_getR C WM29 ha rfl rfl rfl rfl fX7_act_34 dX7_act_62 (fun b34 hb34 qb34 => ?_)
            refine A_iloadn C dX7_act_65 2 rfl rfl ?_
            refine A_iloadn C dX7_act_66 3 rfl rfl ?_
            refine A_iloadn C dX7_act_67 4 rfl rfl ?_
            refine A_callV C (n := 3) (st := []) (kX0_add qb34 (by omega) (by omega) (by omega)) gX7_act_X0_add rfl (by decide +kernel) ⟨Nat.le_of_ble_eq_true rfl, Nat.le_of_ble_eq_true rfl⟩ qb34 rfl rfl rfl rfl (Nat.le_of_ble_eq_true rfl) dX7_act_68 rfl WM29 (fun r35 M36 h37 => ?_)
            obtain ⟨z39, rfl, lz39, uz39, WM36, FM36⟩ := h37
            have EM36 := Fr.tr EM29 (FM36.mono (c2 := [13, 14, 15, 16]) rfl)
            refine A_st (st' := [.int (iI z39)]) rfl ?_
            exact A_iret C dX7_act_71 ⟨z39, rfl, by omega, by omega, WM36, EM36⟩
          · skip
            refine A_iconst C dX7_act_59 ?_
            exact A_iret C dX7_act_60 ⟨(-1), rfl, by omega, by omega, WM29, EM29⟩
      · skip
        refine A_iloadn C dX7_act_26 1 rfl rfl ?_
        refine A_iconst C dX7_act_27 ?_
        refine A_icmpne C 35 dX7_act_28 (by decide) (by omega) (by omega) (fun c40 => ?_) (fun c40 => ?_)
        · skip
          refine A_iconst C dX7_act_35 ?_
          refine A_istore (lv' := [(4, .int (iI 0)), (0, .ref a), (1, .int (iI x1)), (2, .int (iI x2)), (3, .int (iI x3))]) C dX7_act_36 (by decide) rfl ?_
          refine A_iloadn C dX7_act_38 4 rfl rfl ?_
          refine A_iconst C dX7_act_39 ?_
          refine A_iload C dX7_act_40 0 rfl ?_
          refine A_ifeq C 50 dX7_act_42 (by decide) (by omega) (fun c41 => ?_) (fun c41 => ?_)
          · skip
            refine A_sipush C dX7_act_50 (by decide) ?_
            refine A_callS C (n := 3) (st := []) (kX7_within  (by omega) (by omega) (by omega)) gX7_act_X7_within rfl (by decide +kernel) ⟨Nat.le_of_ble_eq_true rfl, Nat.le_of_ble_eq_true rfl⟩ rfl (Nat.le_of_ble_eq_true rfl) dX7_act_53 rfl WM9 (fun r42 M43 h44 => ?_)
            obtain ⟨z46, rfl, lz46, uz46, WM43, FM43, xx45⟩ := h44
            have EM43 := Fr.tr EM9 (FM43.mono (c2 := [13, 14, 15, 16]) rfl)
            refine A_st (st' := [.int (iI z46)]) rfl ?_
            refine A_ifne C 61 dX7_act_56 (by decide) (by omega) (fun c47 => ?_) (fun c47 => ?_)
            · skip
              refine A_aloadn C dX7_act_61 1 rfl rfl ?_
              refine G_getR C WM43 ha rfl rfl rfl rfl fX7_act_34 dX7_act_62 (fun b48 hb48 qb48 => ?_)
              refine A_iloadn C dX7_act_65 2 rfl rfl ?_
              refine A_iloadn C dX7_act_66 3 rfl rfl ?_
              refine A_iloadn C dX7_act_67 4 rfl rfl ?_
              refine A_callV C (n := 3) (st := []) (kX0_add qb48 (by omega) (by omega) (by omega)) gX7_act_X0_add rfl (by decide +kernel) ⟨Nat.le_of_ble_eq_true rfl, Nat.le_of_ble_eq_true rfl⟩ qb48 rfl rfl rfl rfl (Nat.le_of_ble_eq_true rfl) dX7_act_68 rfl WM43 (fun r49 M50 h51 => ?_)
              obtain ⟨z53, rfl, lz53, uz53, WM50, FM50⟩ := h51
              have EM50 := Fr.tr EM43 (FM50.mono (c2 := [13, 14, 15, 16]) rfl)
              refine A_st (st' := [.int (iI z53)]) rfl ?_
              exact A_iret C dX7_act_71 ⟨z53, rfl, by omega, by omega, WM50, EM50⟩
            · skip
              refine A_iconst C dX7_act_59 ?_
              exact A_iret C dX7_act_60 ⟨(-1), rfl, by omega, by omega, WM43, EM43⟩
          · skip
            refine A_bipush C dX7_act_45 (by decide) ?_
            refine A_goto C 53 dX7_act_47 (by decide) ?_
            refine A_callS C (n := 3) (st := []) (kX7_within  (by omega) (by omega) (by omega)) gX7_act_X7_within rfl (by decide +kernel) ⟨Nat.le_of_ble_eq_true rfl, Nat.le_of_ble_eq_true rfl⟩ rfl (Nat.le_of_ble_eq_true rfl) dX7_act_53 rfl WM9 (fun r54 M55 h56 => ?_)
            obtain ⟨z58, rfl, lz58, uz58, WM55, FM55, xx57⟩ := h56
            have EM55 := Fr.tr EM9 (FM55.mono (c2 := [13, 14, 15, 16]) rfl)
            refine A_st (st' := [.int (iI z58)]) rfl ?_
            refine A_ifne C 61 dX7_act_56 (by decide) (by omega) (fun c59 => ?_) (fun c59 => ?_)
            · skip
              refine A_aloadn C dX7_act_61 1 rfl rfl ?_
              refine G_getR C WM55 ha rfl rfl rfl rfl fX7_act_34 dX7_act_62 (fun b60 hb60 qb60 => ?_)
              refine A_iloadn C dX7_act_65 2 rfl rfl ?_
              refine A_iloadn C dX7_act_66 3 rfl rfl ?_
              refine A_iloadn C dX7_act_67 4 rfl rfl ?_
              refine A_callV C (n := 3) (st := []) (kX0_add qb60 (by omega) (by omega) (by omega)) gX7_act_X0_add rfl (by decide +kernel) ⟨Nat.le_of_ble_eq_true rfl, Nat.le_of_ble_eq_true rfl⟩ qb60 rfl rfl rfl rfl (Nat.le_of_ble_eq_true rfl) dX7_act_68 rfl WM55 (fun r61 M62 h63 => ?_)
              obtain ⟨z65, rfl, lz65, uz65, WM62, FM62⟩ := h63
              have EM62 := Fr.tr EM55 (FM62.mono (c2 := [13, 14, 15, 16]) rfl)
              refine A_st (st' := [.int (iI z65)]) rfl ?_
              exact A_iret C dX7_act_71 ⟨z65, rfl, by omega, by omega, WM62, EM62⟩
            · skip
              refine A_iconst C dX7_act_59 ?_
              exact A_iret C dX7_act_60 ⟨(-1), rfl, by omega, by omega, WM55, EM55⟩
        · skip
          refine A_iconst C dX7_act_31 ?_
          refine A_goto C 36 dX7_act_32 (by decide) ?_
          refine A_istore (lv' := [(4, .int (iI 1)), (0, .ref a), (1, .int (iI x1)), (2, .int (iI x2)), (3, .int (iI x3))]) C dX7_act_36 (by decide) rfl ?_
          refine A_iloadn C dX7_act_38 4 rfl rfl ?_
          refine A_iconst C dX7_act_39 ?_
          refine A_iload C dX7_act_40 0 rfl ?_
          refine A_ifeq C 50 dX7_act_42 (by decide) (by omega) (fun c66 => ?_) (fun c66 => ?_)
          · skip
            refine A_sipush C dX7_act_50 (by decide) ?_
            refine A_callS C (n := 3) (st := []) (kX7_within  (by omega) (by omega) (by omega)) gX7_act_X7_within rfl (by decide +kernel) ⟨Nat.le_of_ble_eq_true rfl, Nat.le_of_ble_eq_true rfl⟩ rfl (Nat.le_of_ble_eq_true rfl) dX7_act_53 rfl WM9 (fun r67 M68 h69 => ?_)
            obtain ⟨z71, rfl, lz71, uz71, WM68, FM68, xx70⟩ := h69
            have EM68 := Fr.tr EM9 (FM68.mono (c2 := [13, 14, 15, 16]) rfl)
            refine A_st (st' := [.int (iI z71)]) rfl ?_
            refine A_ifne C 61 dX7_act_56 (by decide) (by omega) (fun c72 => ?_) (fun c72 => ?_)
            · skip
              refine A_aloadn C dX7_act_61 1 rfl rfl ?_
              refine G_getR C WM68 ha rfl rfl rfl rfl fX7_act_34 dX7_act_62 (fun b73 hb73 qb73 => ?_)
              refine A_iloadn C dX7_act_65 2 rfl rfl ?_
              refine A_iloadn C dX7_act_66 3 rfl rfl ?_
              refine A_iloadn C dX7_act_67 4 rfl rfl ?_
              refine A_callV C (n := 3) (st := []) (kX0_add qb73 (by omega) (by omega) (by omega)) gX7_act_X0_add rfl (by decide +kernel) ⟨Nat.le_of_ble_eq_true rfl, Nat.le_of_ble_eq_true rfl⟩ qb73 rfl rfl rfl rfl (Nat.le_of_ble_eq_true rfl) dX7_act_68 rfl WM68 (fun r74 M75 h76 => ?_)
              obtain ⟨z78, rfl, lz78, uz78, WM75, FM75⟩ := h76
              have EM75 := Fr.tr EM68 (FM75.mono (c2 := [13, 14, 15, 16]) rfl)
              refine A_st (st' := [.int (iI z78)]) rfl ?_
              exact A_iret C dX7_act_71 ⟨z78, rfl, by omega, by omega, WM75, EM75⟩
            · skip
              refine A_iconst C dX7_act_59 ?_
              exact A_iret C dX7_act_60 ⟨(-1), rfl, by omega, by omega, WM68, EM68⟩
          · skip
            refine A_bipush C dX7_act_45 (by decide) ?_
            refine A_goto C 53 dX7_act_47 (by decide) ?_
            refine A_callS C (n := 3) (st := []) (kX7_within  (by omega) (by omega) (by omega)) gX7_act_X7_within rfl (by decide +kernel) ⟨Nat.le_of_ble_eq_true rfl, Nat.le_of_ble_eq_true rfl⟩ rfl (Nat.le_of_ble_eq_true rfl) dX7_act_53 rfl WM9 (fun r79 M80 h81 => ?_)
            obtain ⟨z83, rfl, lz83, uz83, WM80, FM80, xx82⟩ := h81
            have EM80 := Fr.tr EM9 (FM80.mono (c2 := [13, 14, 15, 16]) rfl)
            refine A_st (st' := [.int (iI z83)]) rfl ?_
            refine A_ifne C 61 dX7_act_56 (by decide) (by omega) (fun c84 => ?_) (fun c84 => ?_)
            · skip
              refine A_aloadn C dX7_act_61 1 rfl rfl ?_
              refine G_getR C WM80 ha rfl rfl rfl rfl fX7_act_34 dX7_act_62 (fun b85 hb85 qb85 => ?_)
              refine A_iloadn C dX7_act_65 2 rfl rfl ?_
              refine A_iloadn C dX7_act_66 3 rfl rfl ?_
              refine A_iloadn C dX7_act_67 4 rfl rfl ?_
              refine A_callV C (n := 3) (st := []) (kX0_add qb85 (by omega) (by omega) (by omega)) gX7_act_X0_add rfl (by decide +kernel) ⟨Nat.le_of_ble_eq_true rfl, Nat.le_of_ble_eq_true rfl⟩ qb85 rfl rfl rfl rfl (Nat.le_of_ble_eq_true rfl) dX7_act_68 rfl WM80 (fun r86 M87 h88 => ?_)
              obtain ⟨z90, rfl, lz90, uz90, WM87, FM87⟩ := h88
              have EM87 := Fr.tr EM80 (FM87.mono (c2 := [13, 14, 15, 16]) rfl)
              refine A_st (st' := [.int (iI z90)]) rfl ?_
              exact A_iret C dX7_act_71 ⟨z90, rfl, by omega, by omega, WM87, EM87⟩
            · skip
              refine A_iconst C dX7_act_59 ?_
              exact A_iret C dX7_act_60 ⟨(-1), rfl, by omega, by omega, WM80, EM80⟩
    · skip
      refine A_iconst C dX7_act_20 ?_
      exact A_iret C dX7_act_21 ⟨(-1), rfl, by omega, by omega, WM9, EM9⟩

theorem uX7_perform_7 : ∀ w ∈ u_ws RX7 TX7 15, w ∈ wsX7_perform := by decide +kernel
theorem fX7_perform_34 : Fl RX7 wsX7_perform 7 3 34 RX7 TX7 15 := ⟨rfl, by decide, uX7_perform_7, by decide +kernel⟩
theorem fX7_perform_21 : Fl RX7 wsX7_perform 7 1 21 RX7 TX7 15 := ⟨rfl, by decide, uX7_perform_7, by decide +kernel⟩
theorem fX7_perform_80 : Fl RX7 wsX7_perform 7 13 80 RX7 TX7 15 := ⟨rfl, by decide, uX7_perform_7, by decide +kernel⟩
set_option maxHeartbeats 4000000 in
theorem kX7_perform  {a : Nat} (ha : kd a = 0) {x1 : Int} (hx1 : (-2147483648 : Int) ≤ x1 ∧ x1 ≤ 2147483647) : Ct yX7_perform wsX7_perform 4 [.ref a, .int (iI x1)] (fun M => WF M) (fun M r M' => ∃ z : Int, r = some (.int (iI z)) ∧ (0 : Int) ≤ z ∧ z ≤ 1 ∧ WF M' ∧ Fr [0, 8] M M') := by
  refine Ct_of (cc := cX7_perform) (nL := 2) (rt := (some .boolean)) (own := RX7) rfl (by decide) rfl (Nat.le_of_ble_eq_true rfl) ?_
  intro p l e s m args below meth c G M0 C W
  have E : Fr [0, 8] M0 M0 := Fr.rf
  refine A_lv (lv' := [(0, .ref a), (1, .int (iI x1))]) rfl ?_
  refine A_aloadn C dX7_perform_0 0 rfl rfl ?_
  refine G_getR C W ha rfl rfl rfl rfl fX7_perform_34 dX7_perform_1 (fun b1 hb1 qb1 => ?_)
  refine A_iloadn C dX7_perform_4 1 rfl rfl ?_
  refine A_callV C (n := 1) (st := []) (kX0_has qb1 (by omega)) gX7_perform_X0_has rfl (by decide +kernel) ⟨Nat.le_of_ble_eq_true rfl, Nat.le_of_ble_eq_true rfl⟩ qb1 rfl rfl rfl rfl (Nat.le_of_ble_eq_true rfl) dX7_perform_5 rfl W (fun r2 M3 h4 => ?_)
  obtain ⟨z6, rfl, lz6, uz6, WM3, FM3, xx5⟩ := h4
  have EM3 := Fr.tr E (FM3.mono (c2 := [0, 8]) rfl)
  refine A_st (st' := [.int (iI z6)]) rfl ?_
  refine A_ifne C 13 dX7_perform_8 (by decide) (by omega) (fun c7 => ?_) (fun c7 => ?_)
  · skip
    refine A_aloadn C dX7_perform_13 0 rfl rfl ?_
    refine G_getR C WM3 ha rfl rfl rfl rfl fX7_perform_34 dX7_perform_14 (fun b8 hb8 qb8 => ?_)
    refine A_aloadn C dX7_perform_17 0 rfl rfl ?_
    refine G_getR C WM3 ha rfl rfl rfl rfl fX7_perform_21 dX7_perform_18 (fun b9 hb9 qb9 => ?_)
    refine A_iloadn C dX7_perform_21 1 rfl rfl ?_
    refine A_callV C (n := 2) (st := []) (kX0_doOn qb8 (Or.inl qb9) (by omega)) gX7_perform_X0_doOn rfl (by decide +kernel) ⟨Nat.le_of_ble_eq_true rfl, Nat.le_of_ble_eq_true rfl⟩ qb8 rfl rfl rfl rfl (Nat.le_of_ble_eq_true rfl) dX7_perform_22 rfl WM3 (fun r10 M11 h12 => ?_)
    obtain ⟨rfl, WM11, FM11⟩ := h12
    have EM11 := Fr.tr EM3 (FM11.mono (c2 := [0, 8]) rfl)
    refine A_st (st' := []) rfl ?_
    refine A_aloadn C dX7_perform_25 0 rfl rfl ?_
    refine A_iconst C dX7_perform_26 ?_
    refine G_putI C WM11 EM11 ha rfl rfl rfl rfl rfl fX7_perform_80 ⟨tyX7_ok, nmX7, rfl, by decide⟩ (Or.inr ⟨rfl, by omega⟩) rfl rfl (by omega) (by omega) dX7_perform_27 (fun M14 eM14 WM14 EM14 => ?_)
    refine A_iconst C dX7_perform_30 ?_
    exact A_zret C (by omega) dX7_perform_31 ⟨1, rfl, by omega, by omega, WM14, EM14⟩
  · skip
    refine A_iconst C dX7_perform_11 ?_
    exact A_zret C (by omega) dX7_perform_12 ⟨0, rfl, by omega, by omega, WM3, EM3⟩

theorem uX7_standsBehind_7 : ∀ w ∈ u_ws RX7 TX7 15, w ∈ wsX7_standsBehind := by decide +kernel
theorem uX7_standsBehind_0 : ∀ w ∈ u_ws RX0 TX0 4, w ∈ wsX7_standsBehind := by decide +kernel
theorem fX7_standsBehind_34 : Fl RX7 wsX7_standsBehind 7 3 34 RX7 TX7 15 := ⟨rfl, by decide, uX7_standsBehind_7, by decide +kernel⟩
theorem fX7_standsBehind_91 : Fl RX7 wsX7_standsBehind 0 0 91 RX0 TX0 4 := ⟨rfl, by decide, uX7_standsBehind_0, by decide +kernel⟩
theorem fX7_standsBehind_28 : Fl RX7 wsX7_standsBehind 7 2 28 RX7 TX7 15 := ⟨rfl, by decide, uX7_standsBehind_7, by decide +kernel⟩
theorem fX7_standsBehind_41 : Fl RX7 wsX7_standsBehind 7 4 41 RX7 TX7 15 := ⟨rfl, by decide, uX7_standsBehind_7, by decide +kernel⟩
theorem fX7_standsBehind_21 : Fl RX7 wsX7_standsBehind 7 1 21 RX7 TX7 15 := ⟨rfl, by decide, uX7_standsBehind_7, by decide +kernel⟩
set_option maxHeartbeats 4000000 in
theorem lpX7_standsBehind_14 {p : Program} {l : Launch} {e : Env} {s : State} {m : MethodId} {args : Array Value} {below : List Frame} {meth : Method} {c : Code} {G : xG} (C : Cx p s m args meth c G cX7_standsBehind 5 RX7 wsX7_standsBehind (some .boolean))  {a : Nat} (ha : kd a = 0) {x1 : Int} {x2 : Int} {x3 : Int} (hx1 : (0 : Int) ≤ x1 ∧ x1 ≤ 63) (hx2 : (-2147483648 : Int) ≤ x2 ∧ x2 ≤ 2147483647) (hx3 : (-2147483648 : Int) ≤ x3 ∧ x3 ≤ 2147483647) {M0 : Mem} : ∀ (n : Nat) (v4 : Int) (M : Mem), (7 - v4).toNat < n → (0 ≤ v4 ∧ v4 ≤ 6) → WF M → Fr [12, 8, 10, 11, 17, 18, 19] M0 M → AW p l e (rmD 5) s m args below meth c G 5 (QQ G below args s ((fun M r M' => ∃ z : Int, r = some (.int (iI z)) ∧ (0 : Int) ≤ z ∧ z ≤ 1 ∧ WF M' ∧ Fr [12, 8, 10, 11, 17, 18, 19] M M') M0)) M 14 [(0, .ref a), (1, .int (iI x1)), (2, .int (iI x2)), (3, .int (iI x3)), (4, .int (iI v4))] [] := by
  intro n
  induction n with
  | zero => intro v4 M hn; exact absurd hn (Nat.not_lt_zero _)
  | succ n ih =>
    intro v4 M hn hi W E
    refine A_iload C dX7_standsBehind_14 4 rfl ?_
    refine A_aloadn C dX7_standsBehind_16 0 rfl rfl ?_
    refine G_getR C W ha rfl rfl rfl rfl fX7_standsBehind_34 dX7_standsBehind_17 (fun b1 hb1 qb1 => ?_)
    refine G_getI C W qb1 rfl rfl rfl rfl rfl fX7_standsBehind_91 rfl dX7_standsBehind_20 (fun z2 ez2 lz2 uz2 => ?_)
    refine A_icmpge C 54 dX7_standsBehind_23 (by decide) (by omega) (by omega) (fun c3 => ?_) (fun c3 => ?_)
    · skip
      refine A_aloadn C dX7_standsBehind_54 0 rfl rfl ?_
      refine G_getR C W ha rfl rfl rfl rfl fX7_standsBehind_28 dX7_standsBehind_55 (fun b4 hb4 qb4 => ?_)
      refine A_callV C (n := 0) (st := []) (kX4_reckon (Or.inr qb4)) gX7_standsBehind_X4_reckon rfl (by decide +kernel) ⟨Nat.le_of_ble_eq_true rfl, Nat.le_of_ble_eq_true rfl⟩ qb4 rfl rfl rfl rfl (Nat.le_of_ble_eq_true rfl) dX7_standsBehind_58 rfl W (fun r5 M6 h7 => ?_)
      obtain ⟨rfl, WM6, FM6⟩ := h7
      have EM6 := Fr.tr E (FM6.mono (c2 := [12, 8, 10, 11, 17, 18, 19]) rfl)
      refine A_st (st' := []) rfl ?_
      refine A_aloadn C dX7_standsBehind_61 0 rfl rfl ?_
      refine G_getR C WM6 ha rfl rfl rfl rfl fX7_standsBehind_41 dX7_standsBehind_62 (fun b9 hb9 qb9 => ?_)
      refine A_aloadn C dX7_standsBehind_65 0 rfl rfl ?_
      refine G_getR C WM6 ha rfl rfl rfl rfl fX7_standsBehind_28 dX7_standsBehind_66 (fun b10 hb10 qb10 => ?_)
      refine A_callV C (n := 1) (st := []) (kX6_study_12 qb9 qb10) gX7_standsBehind_X6_study rfl (by decide +kernel) ⟨Nat.le_of_ble_eq_true rfl, Nat.le_of_ble_eq_true rfl⟩ qb9 rfl rfl rfl rfl (Nat.le_of_ble_eq_true rfl) dX7_standsBehind_69 rfl WM6 (fun r11 M12 h13 => ?_)
      obtain ⟨rfl, WM12, FM12⟩ := h13
      have EM12 := Fr.tr EM6 (FM12.mono (c2 := [12, 8, 10, 11, 17, 18, 19]) rfl)
      refine A_st (st' := []) rfl ?_
      refine A_aloadn C dX7_standsBehind_72 0 rfl rfl ?_
      refine G_getR C WM12 ha rfl rfl rfl rfl fX7_standsBehind_41 dX7_standsBehind_73 (fun b15 hb15 qb15 => ?_)
      refine A_iloadn C dX7_standsBehind_76 2 rfl rfl ?_
      refine A_i2l C (by omega) dX7_standsBehind_77 ?_
      refine A_iloadn C dX7_standsBehind_78 3 rfl rfl ?_
      refine A_i2l C (by omega) dX7_standsBehind_79 ?_
      refine A_callV C (n := 2) (st := []) (kX6_stands qb15 (by omega) (by omega)) gX7_standsBehind_X6_stands rfl (by decide +kernel) ⟨Nat.le_of_ble_eq_true rfl, Nat.le_of_ble_eq_true rfl⟩ qb15 rfl rfl rfl rfl (Nat.le_of_ble_eq_true rfl) dX7_standsBehind_80 rfl WM12 (fun r16 M17 h18 => ?_)
      obtain ⟨z20, rfl, lz20, uz20, WM17, FM17⟩ := h18
      have EM17 := Fr.tr EM12 (FM17.mono (c2 := [12, 8, 10, 11, 17, 18, 19]) rfl)
      refine A_st (st' := [.int (iI z20)]) rfl ?_
      exact A_zret C (by omega) dX7_standsBehind_83 ⟨z20, rfl, by omega, by omega, WM17, EM17⟩
    · skip
      refine A_iloadn C dX7_standsBehind_26 1 rfl rfl ?_
      refine A_iconst C dX7_standsBehind_27 ?_
      refine A_iload C dX7_standsBehind_28 4 rfl ?_
      refine A_shl1 C (by omega) (by omega) dX7_standsBehind_30 (fun z21 lz21 uz21 wz21 => ?_)
      refine A_iandH C dX7_standsBehind_31 (fun z22 rz22 => ?_)
      refine A_ifeq C 48 dX7_standsBehind_32 (by decide) (by omega) (fun c23 => ?_) (fun c23 => ?_)
      · skip
        refine A_iinc (lv' := [(4, .int (iI (v4 + 1))), (0, .ref a), (1, .int (iI x1)), (2, .int (iI x2)), (3, .int (iI x3))]) C dX7_standsBehind_48 4 rfl (by decide) rfl ?_
        refine A_goto C 14 dX7_standsBehind_51 (by decide) ?_
        refine A_pick [1, 2, 3, 4, 0] rfl ?_
        exact ih (v4 + 1) M (by omega) (by omega) W E
      · skip
        refine A_aloadn C dX7_standsBehind_35 0 rfl rfl ?_
        refine G_getR C W ha rfl rfl rfl rfl fX7_standsBehind_34 dX7_standsBehind_36 (fun b24 hb24 qb24 => ?_)
        refine A_aloadn C dX7_standsBehind_39 0 rfl rfl ?_
        refine G_getR C W ha rfl rfl rfl rfl fX7_standsBehind_28 dX7_standsBehind_40 (fun b25 hb25 qb25 => ?_)
        refine A_iload C dX7_standsBehind_43 4 rfl ?_
        refine A_callV C (n := 2) (st := []) (kX0_doOn qb24 (Or.inr qb25) (by omega)) gX7_standsBehind_X0_doOn rfl (by decide +kernel) ⟨Nat.le_of_ble_eq_true rfl, Nat.le_of_ble_eq_true rfl⟩ qb24 rfl rfl rfl rfl (Nat.le_of_ble_eq_true rfl) dX7_standsBehind_45 rfl W (fun r26 M27 h28 => ?_)
        obtain ⟨rfl, WM27, FM27⟩ := h28
        have EM27 := Fr.tr E (FM27.mono (c2 := [12, 8, 10, 11, 17, 18, 19]) rfl)
        refine A_st (st' := []) rfl ?_
        refine A_iinc (lv' := [(4, .int (iI (v4 + 1))), (0, .ref a), (1, .int (iI x1)), (2, .int (iI x2)), (3, .int (iI x3))]) C dX7_standsBehind_48 4 rfl (by decide) rfl ?_
        refine A_goto C 14 dX7_standsBehind_51 (by decide) ?_
        refine A_pick [1, 2, 3, 4, 0] rfl ?_
        exact ih (v4 + 1) M27 (by omega) (by omega) WM27 EM27
set_option maxHeartbeats 4000000 in
theorem kX7_standsBehind  {a : Nat} (ha : kd a = 0) {x1 : Int} {x2 : Int} {x3 : Int} (hx1 : (0 : Int) ≤ x1 ∧ x1 ≤ 63) (hx2 : (-2147483648 : Int) ≤ x2 ∧ x2 ≤ 2147483647) (hx3 : (-2147483648 : Int) ≤ x3 ∧ x3 ≤ 2147483647) : Ct yX7_standsBehind wsX7_standsBehind 5 [.ref a, .int (iI x1), .int (iI x2), .int (iI x3)] (fun M => WF M) (fun M r M' => ∃ z : Int, r = some (.int (iI z)) ∧ (0 : Int) ≤ z ∧ z ≤ 1 ∧ WF M' ∧ Fr [12, 8, 10, 11, 17, 18, 19] M M') := by
  refine Ct_of (cc := cX7_standsBehind) (nL := 5) (rt := (some .boolean)) (own := RX7) rfl (by decide) rfl (Nat.le_of_ble_eq_true rfl) ?_
  intro p l e s m args below meth c G M0 C W
  have E : Fr [12, 8, 10, 11, 17, 18, 19] M0 M0 := Fr.rf
  refine A_lv (lv' := [(0, .ref a), (1, .int (iI x1)), (2, .int (iI x2)), (3, .int (iI x3))]) rfl ?_
  refine A_aloadn C dX7_standsBehind_0 0 rfl rfl ?_
  refine G_getR C W ha rfl rfl rfl rfl fX7_standsBehind_28 dX7_standsBehind_1 (fun b30 hb30 qb30 => ?_)
  refine A_aloadn C dX7_standsBehind_4 0 rfl rfl ?_
  refine G_getR C W ha rfl rfl rfl rfl fX7_standsBehind_21 dX7_standsBehind_5 (fun b31 hb31 qb31 => ?_)
  refine A_callV C (n := 1) (st := []) (kX4_copy qb30 qb31) gX7_standsBehind_X4_copy rfl (by decide +kernel) ⟨Nat.le_of_ble_eq_true rfl, Nat.le_of_ble_eq_true rfl⟩ qb30 rfl rfl rfl rfl (Nat.le_of_ble_eq_true rfl) dX7_standsBehind_8 rfl W (fun r32 M33 h34 => ?_)
  obtain ⟨rfl, WM33, FM33⟩ := h34
  have EM33 := Fr.tr E (FM33.mono (c2 := [12, 8, 10, 11, 17, 18, 19]) rfl)
  refine A_st (st' := []) rfl ?_
  refine A_iconst C dX7_standsBehind_11 ?_
  refine A_istore (lv' := [(4, .int (iI 0)), (0, .ref a), (1, .int (iI x1)), (2, .int (iI x2)), (3, .int (iI x3))]) C dX7_standsBehind_12 (by decide) rfl ?_
  refine A_pick [1, 2, 3, 4, 0] rfl ?_
  exact lpX7_standsBehind_14 C  ha hx1 hx2 hx3 ((7 - (0 : Int)).toNat + 1) 0 M33 (by omega) (by omega) WM33 EM33

theorem uX7_leadsOn_7 : ∀ w ∈ u_ws RX7 TX7 15, w ∈ wsX7_leadsOn := by decide +kernel
theorem uX7_leadsOn_0 : ∀ w ∈ u_ws RX0 TX0 4, w ∈ wsX7_leadsOn := by decide +kernel
theorem fX7_leadsOn_34 : Fl RX7 wsX7_leadsOn 7 3 34 RX7 TX7 15 := ⟨rfl, by decide, uX7_leadsOn_7, by decide +kernel⟩
theorem fX7_leadsOn_91 : Fl RX7 wsX7_leadsOn 0 0 91 RX0 TX0 4 := ⟨rfl, by decide, uX7_leadsOn_0, by decide +kernel⟩
theorem fX7_leadsOn_65 : Fl RX7 wsX7_leadsOn 7 9 65 RX7 TX7 15 := ⟨rfl, by decide, uX7_leadsOn_7, by decide +kernel⟩
theorem fX7_leadsOn_69 : Fl RX7 wsX7_leadsOn 7 10 69 RX7 TX7 15 := ⟨rfl, by decide, uX7_leadsOn_7, by decide +kernel⟩
set_option maxHeartbeats 4000000 in
theorem lpX7_leadsOn_16 {p : Program} {l : Launch} {e : Env} {s : State} {m : MethodId} {args : Array Value} {below : List Frame} {meth : Method} {c : Code} {G : xG} (C : Cx p s m args meth c G cX7_leadsOn 8 RX7 wsX7_leadsOn (some .boolean)) {k : Nat} (IH : ∀ {a : Nat} (ha : kd a = 0) {x1 : Int} {x2 : Int} {x3 : Int} {x4 : Int} (hx1 : (0 : Int) ≤ x1 ∧ x1 ≤ 63) (hx2 : (0 : Int) ≤ x2 ∧ x2 ≤ 6) (hx3 : (-2147483648 : Int) ≤ x3 ∧ x3 ≤ 2147483647) (hx4 : (-2147483648 : Int) ≤ x4 ∧ x4 ≤ 2147483647) (hy0 : (6 - x2).toNat < k), Ct yX7_leadsOn wsX7_leadsOn (5 + k) [.ref a, .int (iI x1), .int (iI x2), .int (iI x3), .int (iI x4)] (fun M => WF M) (fun M r M' => ∃ z : Int, r = some (.int (iI z)) ∧ (0 : Int) ≤ z ∧ z ≤ 1 ∧ WF M' ∧ Fr [12, 8, 10, 11, 17, 18, 19, 24, 25] M M')) {a : Nat} (ha : kd a = 0) {x1 : Int} {x2 : Int} {x3 : Int} {x4 : Int} (hx1 : (0 : Int) ≤ x1 ∧ x1 ≤ 63) (hx2 : (0 : Int) ≤ x2 ∧ x2 ≤ 6) (hx3 : (-2147483648 : Int) ≤ x3 ∧ x3 ≤ 2147483647) (hx4 : (-2147483648 : Int) ≤ x4 ∧ x4 ≤ 2147483647) (hy0 : (6 - x2).toNat < k + 1) {M0 : Mem} : ∀ (n : Nat) (v5 : Int) (M : Mem), (7 - v5).toNat < n → (0 ≤ v5 ∧ v5 ≤ 6 ∧ x2 ≤ 5) → WF M → Fr [12, 8, 10, 11, 17, 18, 19, 24, 25] M0 M → AW p l e (rmD (5 + (k + 1))) s m args below meth c G 8 (QQ G below args s ((fun M r M' => ∃ z : Int, r = some (.int (iI z)) ∧ (0 : Int) ≤ z ∧ z ≤ 1 ∧ WF M' ∧ Fr [12, 8, 10, 11, 17, 18, 19, 24, 25] M M') M0)) M 16 [(0, .ref a), (1, .int (iI x1)), (2, .int (iI x2)), (3, .int (iI x3)), (4, .int (iI x4)), (5, .int (iI v5))] [] := by
  intro n
  induction n with
  | zero => intro v5 M hn; exact absurd hn (Nat.not_lt_zero _)
  | succ n ih =>
    intro v5 M hn hi W E
    refine A_iload C dX7_leadsOn_16 5 rfl ?_
    refine A_aloadn C dX7_leadsOn_18 0 rfl rfl ?_
    refine G_getR C W ha rfl rfl rfl rfl fX7_leadsOn_34 dX7_leadsOn_19 (fun b1 hb1 qb1 => ?_)
    refine G_getI C W qb1 rfl rfl rfl rfl rfl fX7_leadsOn_91 rfl dX7_leadsOn_22 (fun z2 ez2 lz2 uz2 => ?_)
    refine A_icmpge C 128 dX7_leadsOn_25 (by decide) (by omega) (by omega) (fun c3 => ?_) (fun c3 => ?_)
    · skip
      refine A_iconst C dX7_leadsOn_128 ?_
      exact A_zret C (by omega) dX7_leadsOn_129 ⟨0, rfl, by omega, by omega, W, E⟩
    · skip
      refine A_iloadn C dX7_leadsOn_28 1 rfl rfl ?_
      refine A_iconst C dX7_leadsOn_29 ?_
      refine A_iload C dX7_leadsOn_30 5 rfl ?_
      refine A_shl1 C (by omega) (by omega) dX7_leadsOn_32 (fun z4 lz4 uz4 wz4 => ?_)
      refine A_ior C (by omega) (by omega) (by omega) (by omega) dX7_leadsOn_33 (fun z5 lz5 uz5 => ?_)
      refine A_istore (lv' := [(6, .int (iI z5)), (0, .ref a), (1, .int (iI x1)), (2, .int (iI x2)), (3, .int (iI x3)), (4, .int (iI x4)), (5, .int (iI v5))]) C dX7_leadsOn_34 (by decide) rfl ?_
      refine A_iload C dX7_leadsOn_36 0 rfl ?_
      refine A_iloadn C dX7_leadsOn_38 2 rfl rfl ?_
      refine A_icmpeq C 122 dX7_leadsOn_39 (by decide) (by omega) (by omega) (fun c6 => ?_) (fun c6 => ?_)
      · skip
        refine A_iinc (lv' := [(5, .int (iI (v5 + 1))), (6, .int (iI z5)), (0, .ref a), (1, .int (iI x1)), (2, .int (iI x2)), (3, .int (iI x3)), (4, .int (iI x4))]) C dX7_leadsOn_122 6 rfl (by decide) rfl ?_
        refine A_goto C 16 dX7_leadsOn_125 (by decide) ?_
        refine A_pick [2, 3, 4, 5, 6, 0] rfl ?_
        exact ih (v5 + 1) M (by omega) (by omega) W E
      · skip
        refine A_aloadn C dX7_leadsOn_42 1 rfl rfl ?_
        refine G_getR C W ha rfl rfl rfl rfl fX7_leadsOn_65 dX7_leadsOn_43 (fun b7 hb7 qb7 => ?_)
        refine A_iload C dX7_leadsOn_46 0 rfl ?_
        refine G_zald C W qb7 rfl rfl (by decide) (fun _ => rfl) (by omega) (by omega) dX7_leadsOn_48 (fun z8 ez8 lz8 uz8 => ?_)
        refine A_ifne C 122 dX7_leadsOn_49 (by decide) (by omega) (fun c9 => ?_) (fun c9 => ?_)
        · skip
          refine A_iinc (lv' := [(5, .int (iI (v5 + 1))), (6, .int (iI z5)), (0, .ref a), (1, .int (iI x1)), (2, .int (iI x2)), (3, .int (iI x3)), (4, .int (iI x4))]) C dX7_leadsOn_122 6 rfl (by decide) rfl ?_
          refine A_goto C 16 dX7_leadsOn_125 (by decide) ?_
          refine A_pick [2, 3, 4, 5, 6, 0] rfl ?_
          exact ih (v5 + 1) M (by omega) (by omega) W E
        · skip
          refine A_aloadn C dX7_leadsOn_52 1 rfl rfl ?_
          refine G_getR C W ha rfl rfl rfl rfl fX7_leadsOn_69 dX7_leadsOn_53 (fun b10 hb10 qb10 => ?_)
          refine A_iloadn C dX7_leadsOn_56 3 rfl rfl ?_
          refine A_iload C dX7_leadsOn_57 6 rfl ?_
          refine G_iast C W E qb10 rfl rfl (by decide) (fun _ => rfl) rfl (by omega) (by omega) (by omega) (by omega) dX7_leadsOn_59 (fun M11 eM11 WM11 EM11 => ?_)
          refine A_iloadn C dX7_leadsOn_60 3 rfl rfl ?_
          refine A_iconst C dX7_leadsOn_61 ?_
          refine A_iadd C dX7_leadsOn_62 ?_
          refine A_aloadn C dX7_leadsOn_63 1 rfl rfl ?_
          refine G_getR C WM11 ha rfl rfl rfl rfl fX7_leadsOn_34 dX7_leadsOn_64 (fun b12 hb12 qb12 => ?_)
          refine G_getI C WM11 qb12 rfl rfl rfl rfl rfl fX7_leadsOn_91 rfl dX7_leadsOn_67 (fun z13 ez13 lz13 uz13 => ?_)
          refine A_icmpne C 77 dX7_leadsOn_70 (by decide) (by omega) (by omega) (fun c14 => ?_) (fun c14 => ?_)
          · skip
            refine A_iconst C dX7_leadsOn_77 ?_
            refine A_istore (lv' := [(7, .int (iI 0)), (6, .int (iI z5)), (0, .ref a), (1, .int (iI x1)), (2, .int (iI x2)), (3, .int (iI x3)), (4, .int (iI x4)), (5, .int (iI v5))]) C dX7_leadsOn_78 (by decide) rfl ?_
            refine A_iload C dX7_leadsOn_80 0 rfl ?_
            refine A_ifne C 112 dX7_leadsOn_82 (by decide) (by omega) (fun c15 => ?_) (fun c15 => ?_)
            · skip
              refine A_iconst C dX7_leadsOn_112 ?_
              exact A_zret C (by omega) dX7_leadsOn_113 ⟨1, rfl, by omega, by omega, WM11, EM11⟩
            · skip
              refine A_aloadn C dX7_leadsOn_85 2 rfl rfl ?_
              refine A_iload C dX7_leadsOn_86 1 rfl ?_
              refine A_iloadn C dX7_leadsOn_88 5 rfl rfl ?_
              refine A_iload C dX7_leadsOn_89 6 rfl ?_
              refine A_callV C (n := 3) (st := []) (kX7_standsBehind ha (by omega) (by omega) (by omega)) gX7_leadsOn_X7_standsBehind rfl (by decide +kernel) ⟨by simp only [rmD]; omega, by simp only [rmD]; omega⟩ ha rfl rfl rfl rfl (Nat.le_of_ble_eq_true rfl) dX7_leadsOn_91 rfl WM11 (fun r16 M17 h18 => ?_)
              obtain ⟨z20, rfl, lz20, uz20, WM17, FM17⟩ := h18
              have EM17 := Fr.tr EM11 (FM17.mono (c2 := [12, 8, 10, 11, 17, 18, 19, 24, 25]) rfl)
              refine A_st (st' := [.int (iI z20)]) rfl ?_
              refine A_ifeq C 114 dX7_leadsOn_94 (by decide) (by omega) (fun c21 => ?_) (fun c21 => ?_)
              · skip
                refine A_aloadn C dX7_leadsOn_114 2 rfl rfl ?_
                refine G_getR C WM17 ha rfl rfl rfl rfl fX7_leadsOn_65 dX7_leadsOn_115 (fun b22 hb22 qb22 => ?_)
                refine A_iload C dX7_leadsOn_118 1 rfl ?_
                refine A_iconst C dX7_leadsOn_120 ?_
                refine G_zast C WM17 EM17 qb22 rfl rfl (by decide) (fun _ => rfl) rfl (by omega) (by omega) (by omega) dX7_leadsOn_121 (fun M23 eM23 WM23 EM23 => ?_)
                refine A_iinc (lv' := [(5, .int (iI (v5 + 1))), (7, .int (iI 0)), (6, .int (iI z5)), (0, .ref a), (1, .int (iI x1)), (2, .int (iI x2)), (3, .int (iI x3)), (4, .int (iI x4))]) C dX7_leadsOn_122 7 rfl (by decide) rfl ?_
                refine A_goto C 16 dX7_leadsOn_125 (by decide) ?_
                refine A_pick [3, 4, 5, 6, 7, 0] rfl ?_
                exact ih (v5 + 1) M23 (by omega) (by omega) WM23 EM23
              · skip
                refine A_aloadn C dX7_leadsOn_97 2 rfl rfl ?_
                refine A_iload C dX7_leadsOn_98 1 rfl ?_
                refine A_iloadn C dX7_leadsOn_100 4 rfl rfl ?_
                refine A_iconst C dX7_leadsOn_101 ?_
                refine A_iadd C dX7_leadsOn_102 ?_
                refine A_iloadn C dX7_leadsOn_103 5 rfl rfl ?_
                refine A_iload C dX7_leadsOn_104 6 rfl ?_
                refine A_callV C (n := 4) (st := []) (IH ha (by omega) (by omega) (by omega) (by omega) (by omega)) gX7_leadsOn_X7_leadsOn rfl (by decide +kernel) ⟨by simp only [rmD]; omega, by simp only [rmD]; omega⟩ ha rfl rfl rfl rfl (Nat.le_of_ble_eq_true rfl) dX7_leadsOn_106 rfl WM17 (fun r24 M25 h26 => ?_)
                obtain ⟨z28, rfl, lz28, uz28, WM25, FM25⟩ := h26
                have EM25 := Fr.tr EM17 (FM25.mono (c2 := [12, 8, 10, 11, 17, 18, 19, 24, 25]) rfl)
                refine A_st (st' := [.int (iI z28)]) rfl ?_
                refine A_ifeq C 114 dX7_leadsOn_109 (by decide) (by omega) (fun c29 => ?_) (fun c29 => ?_)
                · skip
                  refine A_aloadn C dX7_leadsOn_114 2 rfl rfl ?_
                  refine G_getR C WM25 ha rfl rfl rfl rfl fX7_leadsOn_65 dX7_leadsOn_115 (fun b30 hb30 qb30 => ?_)
                  refine A_iload C dX7_leadsOn_118 1 rfl ?_
                  refine A_iconst C dX7_leadsOn_120 ?_
                  refine G_zast C WM25 EM25 qb30 rfl rfl (by decide) (fun _ => rfl) rfl (by omega) (by omega) (by omega) dX7_leadsOn_121 (fun M31 eM31 WM31 EM31 => ?_)
                  refine A_iinc (lv' := [(5, .int (iI (v5 + 1))), (7, .int (iI 0)), (6, .int (iI z5)), (0, .ref a), (1, .int (iI x1)), (2, .int (iI x2)), (3, .int (iI x3)), (4, .int (iI x4))]) C dX7_leadsOn_122 7 rfl (by decide) rfl ?_
                  refine A_goto C 16 dX7_leadsOn_125 (by decide) ?_
                  refine A_pick [3, 4, 5, 6, 7, 0] rfl ?_
                  exact ih (v5 + 1) M31 (by omega) (by omega) WM31 EM31
                · skip
                  refine A_iconst C dX7_leadsOn_112 ?_
                  exact A_zret C (by omega) dX7_leadsOn_113 ⟨1, rfl, by omega, by omega, WM25, EM25⟩
          · skip
            refine A_iconst C dX7_leadsOn_73 ?_
            refine A_goto C 78 dX7_leadsOn_74 (by decide) ?_
            refine A_istore (lv' := [(7, .int (iI 1)), (6, .int (iI z5)), (0, .ref a), (1, .int (iI x1)), (2, .int (iI x2)), (3, .int (iI x3)), (4, .int (iI x4)), (5, .int (iI v5))]) C dX7_leadsOn_78 (by decide) rfl ?_
            refine A_iload C dX7_leadsOn_80 0 rfl ?_
            refine A_ifne C 112 dX7_leadsOn_82 (by decide) (by omega) (fun c32 => ?_) (fun c32 => ?_)
            · skip
              refine A_iconst C dX7_leadsOn_112 ?_
              exact A_zret C (by omega) dX7_leadsOn_113 ⟨1, rfl, by omega, by omega, WM11, EM11⟩
            · skip
              refine A_aloadn C dX7_leadsOn_85 2 rfl rfl ?_
              refine A_iload C dX7_leadsOn_86 1 rfl ?_
              refine A_iloadn C dX7_leadsOn_88 5 rfl rfl ?_
              refine A_iload C dX7_leadsOn_89 6 rfl ?_
              refine A_callV C (n := 3) (st := []) (kX7_standsBehind ha (by omega) (by omega) (by omega)) gX7_leadsOn_X7_standsBehind rfl (by decide +kernel) ⟨by simp only [rmD]; omega, by simp only [rmD]; omega⟩ ha rfl rfl rfl rfl (Nat.le_of_ble_eq_true rfl) dX7_leadsOn_91 rfl WM11 (fun r33 M34 h35 => ?_)
              obtain ⟨z37, rfl, lz37, uz37, WM34, FM34⟩ := h35
              have EM34 := Fr.tr EM11 (FM34.mono (c2 := [12, 8, 10, 11, 17, 18, 19, 24, 25]) rfl)
              refine A_st (st' := [.int (iI z37)]) rfl ?_
              refine A_ifeq C 114 dX7_leadsOn_94 (by decide) (by omega) (fun c38 => ?_) (fun c38 => ?_)
              · skip
                refine A_aloadn C dX7_leadsOn_114 2 rfl rfl ?_
                refine G_getR C WM34 ha rfl rfl rfl rfl fX7_leadsOn_65 dX7_leadsOn_115 (fun b39 hb39 qb39 => ?_)
                refine A_iload C dX7_leadsOn_118 1 rfl ?_
                refine A_iconst C dX7_leadsOn_120 ?_
                refine G_zast C WM34 EM34 qb39 rfl rfl (by decide) (fun _ => rfl) rfl (by omega) (by omega) (by omega) dX7_leadsOn_121 (fun M40 eM40 WM40 EM40 => ?_)
                refine A_iinc (lv' := [(5, .int (iI (v5 + 1))), (7, .int (iI 1)), (6, .int (iI z5)), (0, .ref a), (1, .int (iI x1)), (2, .int (iI x2)), (3, .int (iI x3)), (4, .int (iI x4))]) C dX7_leadsOn_122 7 rfl (by decide) rfl ?_
                refine A_goto C 16 dX7_leadsOn_125 (by decide) ?_
                refine A_pick [3, 4, 5, 6, 7, 0] rfl ?_
                exact ih (v5 + 1) M40 (by omega) (by omega) WM40 EM40
              · skip
                refine A_aloadn C dX7_leadsOn_97 2 rfl rfl ?_
                refine A_iload C dX7_leadsOn_98 1 rfl ?_
                refine A_iloadn C dX7_leadsOn_100 4 rfl rfl ?_
                refine A_iconst C dX7_leadsOn_101 ?_
                refine A_iadd C dX7_leadsOn_102 ?_
                refine A_iloadn C dX7_leadsOn_103 5 rfl rfl ?_
                refine A_iload C dX7_leadsOn_104 6 rfl ?_
                refine A_callV C (n := 4) (st := []) (IH ha (by omega) (by omega) (by omega) (by omega) (by omega)) gX7_leadsOn_X7_leadsOn rfl (by decide +kernel) ⟨by simp only [rmD]; omega, by simp only [rmD]; omega⟩ ha rfl rfl rfl rfl (Nat.le_of_ble_eq_true rfl) dX7_leadsOn_106 rfl WM34 (fun r41 M42 h43 => ?_)
                obtain ⟨z45, rfl, lz45, uz45, WM42, FM42⟩ := h43
                have EM42 := Fr.tr EM34 (FM42.mono (c2 := [12, 8, 10, 11, 17, 18, 19, 24, 25]) rfl)
                refine A_st (st' := [.int (iI z45)]) rfl ?_
                refine A_ifeq C 114 dX7_leadsOn_109 (by decide) (by omega) (fun c46 => ?_) (fun c46 => ?_)
                · skip
                  refine A_aloadn C dX7_leadsOn_114 2 rfl rfl ?_
                  refine G_getR C WM42 ha rfl rfl rfl rfl fX7_leadsOn_65 dX7_leadsOn_115 (fun b47 hb47 qb47 => ?_)
                  refine A_iload C dX7_leadsOn_118 1 rfl ?_
                  refine A_iconst C dX7_leadsOn_120 ?_
                  refine G_zast C WM42 EM42 qb47 rfl rfl (by decide) (fun _ => rfl) rfl (by omega) (by omega) (by omega) dX7_leadsOn_121 (fun M48 eM48 WM48 EM48 => ?_)
                  refine A_iinc (lv' := [(5, .int (iI (v5 + 1))), (7, .int (iI 1)), (6, .int (iI z5)), (0, .ref a), (1, .int (iI x1)), (2, .int (iI x2)), (3, .int (iI x3)), (4, .int (iI x4))]) C dX7_leadsOn_122 7 rfl (by decide) rfl ?_
                  refine A_goto C 16 dX7_leadsOn_125 (by decide) ?_
                  refine A_pick [3, 4, 5, 6, 7, 0] rfl ?_
                  exact ih (v5 + 1) M48 (by omega) (by omega) WM48 EM48
                · skip
                  refine A_iconst C dX7_leadsOn_112 ?_
                  exact A_zret C (by omega) dX7_leadsOn_113 ⟨1, rfl, by omega, by omega, WM42, EM42⟩
set_option maxHeartbeats 4000000 in
theorem kX7_leadsOn_step {k : Nat} (IH : ∀ {a : Nat} (ha : kd a = 0) {x1 : Int} {x2 : Int} {x3 : Int} {x4 : Int} (hx1 : (0 : Int) ≤ x1 ∧ x1 ≤ 63) (hx2 : (0 : Int) ≤ x2 ∧ x2 ≤ 6) (hx3 : (-2147483648 : Int) ≤ x3 ∧ x3 ≤ 2147483647) (hx4 : (-2147483648 : Int) ≤ x4 ∧ x4 ≤ 2147483647) (hy0 : (6 - x2).toNat < k), Ct yX7_leadsOn wsX7_leadsOn (5 + k) [.ref a, .int (iI x1), .int (iI x2), .int (iI x3), .int (iI x4)] (fun M => WF M) (fun M r M' => ∃ z : Int, r = some (.int (iI z)) ∧ (0 : Int) ≤ z ∧ z ≤ 1 ∧ WF M' ∧ Fr [12, 8, 10, 11, 17, 18, 19, 24, 25] M M')) {a : Nat} (ha : kd a = 0) {x1 : Int} {x2 : Int} {x3 : Int} {x4 : Int} (hx1 : (0 : Int) ≤ x1 ∧ x1 ≤ 63) (hx2 : (0 : Int) ≤ x2 ∧ x2 ≤ 6) (hx3 : (-2147483648 : Int) ≤ x3 ∧ x3 ≤ 2147483647) (hx4 : (-2147483648 : Int) ≤ x4 ∧ x4 ≤ 2147483647) (hy0 : (6 - x2).toNat < k + 1) : Ct yX7_leadsOn wsX7_leadsOn (5 + (k + 1)) [.ref a, .int (iI x1), .int (iI x2), .int (iI x3), .int (iI x4)] (fun M => WF M) (fun M r M' => ∃ z : Int, r = some (.int (iI z)) ∧ (0 : Int) ≤ z ∧ z ≤ 1 ∧ WF M' ∧ Fr [12, 8, 10, 11, 17, 18, 19, 24, 25] M M') := by
  refine Ct_of (cc := cX7_leadsOn) (nL := 8) (rt := (some .boolean)) (own := RX7) rfl (by decide) rfl (Nat.le_of_ble_eq_true rfl) ?_
  intro p l e s m args below meth c G M0 C W
  have E : Fr [12, 8, 10, 11, 17, 18, 19, 24, 25] M0 M0 := Fr.rf
  refine A_lv (lv' := [(0, .ref a), (1, .int (iI x1)), (2, .int (iI x2)), (3, .int (iI x3)), (4, .int (iI x4))]) rfl ?_
  refine A_iloadn C dX7_leadsOn_0 2 rfl rfl ?_
  refine A_aloadn C dX7_leadsOn_1 0 rfl rfl ?_
  refine G_getR C W ha rfl rfl rfl rfl fX7_leadsOn_34 dX7_leadsOn_2 (fun b49 hb49 qb49 => ?_)
  refine G_getI C W qb49 rfl rfl rfl rfl rfl fX7_leadsOn_91 rfl dX7_leadsOn_5 (fun z50 ez50 lz50 uz50 => ?_)
  refine A_icmplt C 13 dX7_leadsOn_8 (by decide) (by omega) (by omega) (fun c51 => ?_) (fun c51 => ?_)
  · skip
    refine A_iconst C dX7_leadsOn_13 ?_
    refine A_istore (lv' := [(5, .int (iI 0)), (0, .ref a), (1, .int (iI x1)), (2, .int (iI x2)), (3, .int (iI x3)), (4, .int (iI x4))]) C dX7_leadsOn_14 (by decide) rfl ?_
    refine A_pick [1, 2, 3, 4, 5, 0] rfl ?_
    exact lpX7_leadsOn_16 C IH ha hx1 hx2 hx3 hx4 hy0 ((7 - (0 : Int)).toNat + 1) 0 M0 (by omega) (by omega) W E
  · skip
    refine A_iconst C dX7_leadsOn_11 ?_
    exact A_zret C (by omega) dX7_leadsOn_12 ⟨1, rfl, by omega, by omega, W, E⟩
theorem kX7_leadsOn : ∀ (k : Nat), ∀ {a : Nat} (ha : kd a = 0) {x1 : Int} {x2 : Int} {x3 : Int} {x4 : Int} (hx1 : (0 : Int) ≤ x1 ∧ x1 ≤ 63) (hx2 : (0 : Int) ≤ x2 ∧ x2 ≤ 6) (hx3 : (-2147483648 : Int) ≤ x3 ∧ x3 ≤ 2147483647) (hx4 : (-2147483648 : Int) ≤ x4 ∧ x4 ≤ 2147483647) (hy0 : (6 - x2).toNat < k), Ct yX7_leadsOn wsX7_leadsOn (5 + k) [.ref a, .int (iI x1), .int (iI x2), .int (iI x3), .int (iI x4)] (fun M => WF M) (fun M r M' => ∃ z : Int, r = some (.int (iI z)) ∧ (0 : Int) ≤ z ∧ z ≤ 1 ∧ WF M' ∧ Fr [12, 8, 10, 11, 17, 18, 19, 24, 25] M M') := by
  intro k
  induction k with
  | zero => intro a ha x1 x2 x3 x4 hx1 hx2 hx3 hx4 hy0; exact absurd hy0 (Nat.not_lt_zero _)
  | succ k ih => intro a ha x1 x2 x3 x4 hx1 hx2 hx3 hx4 hy0; exact kX7_leadsOn_step ih ha hx1 hx2 hx3 hx4 hy0
end
section
theorem uX7_order_7 : ∀ w ∈ u_ws RX7 TX7 15, w ∈ wsX7_order := by decide +kernel
theorem uX7_order_0 : ∀ w ∈ u_ws RX0 TX0 4, w ∈ wsX7_order := by decide +kernel
theorem fX7_order_69 : Fl RX7 wsX7_order 7 10 69 RX7 TX7 15 := ⟨rfl, by decide, uX7_order_7, by decide +kernel⟩
theorem fX7_order_73 : Fl RX7 wsX7_order 7 11 73 RX7 TX7 15 := ⟨rfl, by decide, uX7_order_7, by decide +kernel⟩
theorem fX7_order_34 : Fl RX7 wsX7_order 7 3 34 RX7 TX7 15 := ⟨rfl, by decide, uX7_order_7, by decide +kernel⟩
theorem fX7_order_91 : Fl RX7 wsX7_order 0 0 91 RX0 TX0 4 := ⟨rfl, by decide, uX7_order_0, by decide +kernel⟩
theorem fX7_order_76 : Fl RX7 wsX7_order 7 12 76 RX7 TX7 15 := ⟨rfl, by decide, uX7_order_7, by decide +kernel⟩
theorem fX7_order_65 : Fl RX7 wsX7_order 7 9 65 RX7 TX7 15 := ⟨rfl, by decide, uX7_order_7, by decide +kernel⟩
theorem fX7_order_21 : Fl RX7 wsX7_order 7 1 21 RX7 TX7 15 := ⟨rfl, by decide, uX7_order_7, by decide +kernel⟩
set_option maxHeartbeats 4000000 in
theorem lpX7_order_32 {p : Program} {l : Launch} {e : Env} {s : State} {m : MethodId} {args : Array Value} {below : List Frame} {meth : Method} {c : Code} {G : xG} (C : Cx p s m args meth c G cX7_order 5 RX7 wsX7_order (some .int))  {a : Nat} (ha : kd a = 0) {x1 : Int} {x2 : Int} (hx1 : (-2147483648 : Int) ≤ x1 ∧ x1 ≤ 2147483647) (hx2 : (-2147483648 : Int) ≤ x2 ∧ x2 ≤ 2147483647) {M0 : Mem} : ∀ (n : Nat) (v3 v4 : Int) (M : Mem), (65 - v4).toNat < n → (0 ≤ v3 ∧ v3 ≤ 63 ∧ 0 ≤ v4 ∧ v4 ≤ 64) → WF M → Fr [0, 12, 8, 10, 11, 17, 18, 19, 24, 25] M0 M → AW p l e (rmD 13) s m args below meth c G 5 (QQ G below args s ((fun M r M' => ∃ z : Int, r = some (.int (iI z)) ∧ (-2147483648 : Int) ≤ z ∧ z ≤ 2147483647 ∧ WF M' ∧ Fr [0, 12, 8, 10, 11, 17, 18, 19, 24, 25] M M') M0)) M 32 [(0, .ref a), (1, .int (iI x1)), (2, .int (iI x2)), (3, .int (iI v3)), (4, .int (iI v4))] [] := by
  intro n
  induction n with
  | zero => intro v3 v4 M hn; exact absurd hn (Nat.not_lt_zero _)
  | succ n ih =>
    intro v3 v4 M hn hi W E
    refine A_iload C dX7_order_32 4 rfl ?_
    refine A_iloadn C dX7_order_34 3 rfl rfl ?_
    refine A_icmpgt C 52 dX7_order_35 (by decide) (by omega) (by omega) (fun c1 => ?_) (fun c1 => ?_)
    · skip
      refine A_iloadn C dX7_order_52 3 rfl rfl ?_
      refine A_ifeq C 80 dX7_order_53 (by decide) (by omega) (fun c2 => ?_) (fun c2 => ?_)
      · skip
        refine A_aloadn C dX7_order_80 0 rfl rfl ?_
        refine G_getR C W ha rfl rfl rfl rfl fX7_order_69 dX7_order_81 (fun b3 hb3 qb3 => ?_)
        refine A_iconst C dX7_order_84 ?_
        refine A_aloadn C dX7_order_85 0 rfl rfl ?_
        refine G_getR C W ha rfl rfl rfl rfl fX7_order_73 dX7_order_86 (fun b4 hb4 qb4 => ?_)
        refine A_iconst C dX7_order_89 ?_
        refine A_bipush C dX7_order_90 (by decide) ?_
        refine G_copy C W E qb3 qb4 rfl rfl (by decide) (fun _ => rfl) rfl (by decide +kernel) (by decide +kernel) (by decide +kernel) (by decide +kernel) (Nat.le_of_ble_eq_true rfl) (Nat.le_of_ble_eq_true rfl) dX7_order_92 (fun M5 eM5 WM5 EM5 => ?_)
        refine A_aloadn C dX7_order_95 0 rfl rfl ?_
        refine A_aloadn C dX7_order_96 0 rfl rfl ?_
        refine G_getR C WM5 ha rfl rfl rfl rfl fX7_order_34 dX7_order_97 (fun b6 hb6 qb6 => ?_)
        refine G_getI C WM5 qb6 rfl rfl rfl rfl rfl fX7_order_91 rfl dX7_order_100 (fun z7 ez7 lz7 uz7 => ?_)
        refine G_putI C WM5 EM5 ha rfl rfl rfl rfl rfl fX7_order_76 ⟨tyX7_ok, nmX7, rfl, by decide⟩ (Or.inl rfl) rfl rfl (by omega) (by omega) dX7_order_103 (fun M8 eM8 WM8 EM8 => ?_)
        refine A_aloadn C dX7_order_106 0 rfl rfl ?_
        refine G_getI C WM8 ha rfl rfl rfl rfl rfl fX7_order_76 rfl dX7_order_107 (fun z9 ez9 lz9 uz9 => ?_)
        exact A_iret C dX7_order_110 ⟨z9, rfl, by omega, by omega, WM8, EM8⟩
      · skip
        refine A_aloadn C dX7_order_56 0 rfl rfl ?_
        refine A_iloadn C dX7_order_57 3 rfl rfl ?_
        refine A_iloadn C dX7_order_58 1 rfl rfl ?_
        refine A_iloadn C dX7_order_59 2 rfl rfl ?_
        refine A_callV C (n := 3) (st := []) (kX7_standsBehind ha (by omega) (by omega) (by omega)) gX7_order_X7_standsBehind rfl (by decide +kernel) ⟨Nat.le_of_ble_eq_true rfl, Nat.le_of_ble_eq_true rfl⟩ ha rfl rfl rfl rfl (Nat.le_of_ble_eq_true rfl) dX7_order_60 rfl W (fun r10 M11 h12 => ?_)
        obtain ⟨z14, rfl, lz14, uz14, WM11, FM11⟩ := h12
        have EM11 := Fr.tr E (FM11.mono (c2 := [0, 12, 8, 10, 11, 17, 18, 19, 24, 25]) rfl)
        refine A_st (st' := [.int (iI z14)]) rfl ?_
        refine A_ifeq C 77 dX7_order_63 (by decide) (by omega) (fun c15 => ?_) (fun c15 => ?_)
        · skip
          refine A_bipush C dX7_order_77 (by decide) ?_
          exact A_iret C dX7_order_79 ⟨(-2), rfl, by omega, by omega, WM11, EM11⟩
        · skip
          refine A_aloadn C dX7_order_66 0 rfl rfl ?_
          refine A_iconst C dX7_order_67 ?_
          refine A_iconst C dX7_order_68 ?_
          refine A_iloadn C dX7_order_69 1 rfl rfl ?_
          refine A_iloadn C dX7_order_70 2 rfl rfl ?_
          refine A_callV C (n := 4) (st := []) (kX7_leadsOn 7 ha (by omega) (by omega) (by omega) (by omega) (by omega)) gX7_order_X7_leadsOn rfl (by decide +kernel) ⟨Nat.le_of_ble_eq_true rfl, Nat.le_of_ble_eq_true rfl⟩ ha rfl rfl rfl rfl (Nat.le_of_ble_eq_true rfl) dX7_order_71 rfl WM11 (fun r16 M17 h18 => ?_)
          obtain ⟨z20, rfl, lz20, uz20, WM17, FM17⟩ := h18
          have EM17 := Fr.tr EM11 (FM17.mono (c2 := [0, 12, 8, 10, 11, 17, 18, 19, 24, 25]) rfl)
          refine A_st (st' := [.int (iI z20)]) rfl ?_
          refine A_ifne C 80 dX7_order_74 (by decide) (by omega) (fun c21 => ?_) (fun c21 => ?_)
          · skip
            refine A_aloadn C dX7_order_80 0 rfl rfl ?_
            refine G_getR C WM17 ha rfl rfl rfl rfl fX7_order_69 dX7_order_81 (fun b22 hb22 qb22 => ?_)
            refine A_iconst C dX7_order_84 ?_
            refine A_aloadn C dX7_order_85 0 rfl rfl ?_
            refine G_getR C WM17 ha rfl rfl rfl rfl fX7_order_73 dX7_order_86 (fun b23 hb23 qb23 => ?_)
            refine A_iconst C dX7_order_89 ?_
            refine A_bipush C dX7_order_90 (by decide) ?_
            refine G_copy C WM17 EM17 qb22 qb23 rfl rfl (by decide) (fun _ => rfl) rfl (by decide +kernel) (by decide +kernel) (by decide +kernel) (by decide +kernel) (Nat.le_of_ble_eq_true rfl) (Nat.le_of_ble_eq_true rfl) dX7_order_92 (fun M24 eM24 WM24 EM24 => ?_)
            refine A_aloadn C dX7_order_95 0 rfl rfl ?_
            refine A_aloadn C dX7_order_96 0 rfl rfl ?_
            refine G_getR C WM24 ha rfl rfl rfl rfl fX7_order_34 dX7_order_97 (fun b25 hb25 qb25 => ?_)
            refine G_getI C WM24 qb25 rfl rfl rfl rfl rfl fX7_order_91 rfl dX7_order_100 (fun z26 ez26 lz26 uz26 => ?_)
            refine G_putI C WM24 EM24 ha rfl rfl rfl rfl rfl fX7_order_76 ⟨tyX7_ok, nmX7, rfl, by decide⟩ (Or.inl rfl) rfl rfl (by omega) (by omega) dX7_order_103 (fun M27 eM27 WM27 EM27 => ?_)
            refine A_aloadn C dX7_order_106 0 rfl rfl ?_
            refine G_getI C WM27 ha rfl rfl rfl rfl rfl fX7_order_76 rfl dX7_order_107 (fun z28 ez28 lz28 uz28 => ?_)
            exact A_iret C dX7_order_110 ⟨z28, rfl, by omega, by omega, WM27, EM27⟩
          · skip
            refine A_bipush C dX7_order_77 (by decide) ?_
            exact A_iret C dX7_order_79 ⟨(-2), rfl, by omega, by omega, WM17, EM17⟩
    · skip
      refine A_aloadn C dX7_order_38 0 rfl rfl ?_
      refine G_getR C W ha rfl rfl rfl rfl fX7_order_65 dX7_order_39 (fun b29 hb29 qb29 => ?_)
      refine A_iload C dX7_order_42 4 rfl ?_
      refine A_iconst C dX7_order_44 ?_
      refine G_zast C W E qb29 rfl rfl (by decide) (fun _ => rfl) rfl (by omega) (by omega) (by omega) dX7_order_45 (fun M30 eM30 WM30 EM30 => ?_)
      refine A_iinc (lv' := [(4, .int (iI (v4 + 1))), (0, .ref a), (1, .int (iI x1)), (2, .int (iI x2)), (3, .int (iI v3))]) C dX7_order_46 4 rfl (by decide) rfl ?_
      refine A_goto C 32 dX7_order_49 (by decide) ?_
      refine A_pick [1, 2, 3, 4, 0] rfl ?_
      exact ih v3 (v4 + 1) M30 (by omega) (by omega) WM30 EM30
set_option maxHeartbeats 4000000 in
theorem kX7_order  {a : Nat} (ha : kd a = 0) {x1 : Int} {x2 : Int} (hx1 : (-2147483648 : Int) ≤ x1 ∧ x1 ≤ 2147483647) (hx2 : (-2147483648 : Int) ≤ x2 ∧ x2 ≤ 2147483647) : Ct yX7_order wsX7_order 13 [.ref a, .int (iI x1), .int (iI x2)] (fun M => WF M) (fun M r M' => ∃ z : Int, r = some (.int (iI z)) ∧ (-2147483648 : Int) ≤ z ∧ z ≤ 2147483647 ∧ WF M' ∧ Fr [0, 12, 8, 10, 11, 17, 18, 19, 24, 25] M M') := by
  refine Ct_of (cc := cX7_order) (nL := 5) (rt := (some .int)) (own := RX7) rfl (by decide) rfl (Nat.le_of_ble_eq_true rfl) ?_
  intro p l e s m args below meth c G M0 C W
  have E : Fr [0, 12, 8, 10, 11, 17, 18, 19, 24, 25] M0 M0 := Fr.rf
  refine A_lv (lv' := [(0, .ref a), (1, .int (iI x1)), (2, .int (iI x2))]) rfl ?_
  refine A_iloadn C dX7_order_0 1 rfl rfl ?_
  refine A_iloadn C dX7_order_1 2 rfl rfl ?_
  refine A_callS C (n := 2) (st := []) (kX7_isRatio  (by omega) (by omega)) gX7_order_X7_isRatio rfl (by decide +kernel) ⟨Nat.le_of_ble_eq_true rfl, Nat.le_of_ble_eq_true rfl⟩ rfl (Nat.le_of_ble_eq_true rfl) dX7_order_2 rfl W (fun r31 M32 h33 => ?_)
  obtain ⟨z35, rfl, lz35, uz35, WM32, FM32⟩ := h33
  have EM32 := Fr.tr E (FM32.mono (c2 := [0, 12, 8, 10, 11, 17, 18, 19, 24, 25]) rfl)
  refine A_st (st' := [.int (iI z35)]) rfl ?_
  refine A_ifne C 10 dX7_order_5 (by decide) (by omega) (fun c36 => ?_) (fun c36 => ?_)
  · skip
    refine A_aloadn C dX7_order_10 0 rfl rfl ?_
    refine G_getR C WM32 ha rfl rfl rfl rfl fX7_order_21 dX7_order_11 (fun b37 hb37 qb37 => ?_)
    refine A_callV C (n := 0) (st := []) (kX4_reckon (Or.inl qb37)) gX7_order_X4_reckon rfl (by decide +kernel) ⟨Nat.le_of_ble_eq_true rfl, Nat.le_of_ble_eq_true rfl⟩ qb37 rfl rfl rfl rfl (Nat.le_of_ble_eq_true rfl) dX7_order_14 rfl WM32 (fun r38 M39 h40 => ?_)
    obtain ⟨rfl, WM39, FM39⟩ := h40
    have EM39 := Fr.tr EM32 (FM39.mono (c2 := [0, 12, 8, 10, 11, 17, 18, 19, 24, 25]) rfl)
    refine A_st (st' := []) rfl ?_
    refine A_iconst C dX7_order_17 ?_
    refine A_aloadn C dX7_order_18 0 rfl rfl ?_
    refine G_getR C WM39 ha rfl rfl rfl rfl fX7_order_34 dX7_order_19 (fun b42 hb42 qb42 => ?_)
    refine G_getI C WM39 qb42 rfl rfl rfl rfl rfl fX7_order_91 rfl dX7_order_22 (fun z43 ez43 lz43 uz43 => ?_)
    refine A_shl1 C (by omega) (by omega) dX7_order_25 (fun z44 lz44 uz44 wz44 => ?_)
    refine A_iconst C dX7_order_26 ?_
    refine A_isub C dX7_order_27 ?_
    refine A_nami (fun z45 ez45 => ?_)
    refine A_istoren (lv' := [(3, .int (iI z45)), (0, .ref a), (1, .int (iI x1)), (2, .int (iI x2))]) C dX7_order_28 rfl (by decide) rfl ?_
    refine A_iconst C dX7_order_29 ?_
    refine A_istore (lv' := [(4, .int (iI 0)), (3, .int (iI z45)), (0, .ref a), (1, .int (iI x1)), (2, .int (iI x2))]) C dX7_order_30 (by decide) rfl ?_
    refine A_pick [2, 3, 4, 1, 0] rfl ?_
    exact lpX7_order_32 C  ha hx1 hx2 ((65 - (0 : Int)).toNat + 1) z45 0 M39 (by omega) (by omega) WM39 EM39
  · skip
    refine A_iconst C dX7_order_8 ?_
    exact A_iret C dX7_order_9 ⟨(-1), rfl, by omega, by omega, WM32, EM32⟩

theorem uX7_step_7 : ∀ w ∈ u_ws RX7 TX7 15, w ∈ wsX7_step := by decide +kernel
theorem fX7_step_76 : Fl RX7 wsX7_step 7 12 76 RX7 TX7 15 := ⟨rfl, by decide, uX7_step_7, by decide +kernel⟩
theorem fX7_step_73 : Fl RX7 wsX7_step 7 11 73 RX7 TX7 15 := ⟨rfl, by decide, uX7_step_7, by decide +kernel⟩
set_option maxHeartbeats 4000000 in
theorem kX7_step  {a : Nat} (ha : kd a = 0) {x1 : Int} (hx1 : (-2147483648 : Int) ≤ x1 ∧ x1 ≤ 2147483647) : Ct yX7_step wsX7_step 2 [.ref a, .int (iI x1)] (fun M => WF M) (fun M r M' => ∃ z : Int, r = some (.int (iI z)) ∧ (-2147483648 : Int) ≤ z ∧ z ≤ 2147483647 ∧ WF M' ∧ Fr [] M M') := by
  refine Ct_of (cc := cX7_step) (nL := 2) (rt := (some .int)) (own := RX7) rfl (by decide) rfl (Nat.le_of_ble_eq_true rfl) ?_
  intro p l e s m args below meth c G M0 C W
  have E : Fr [] M0 M0 := Fr.rf
  refine A_lv (lv' := [(0, .ref a), (1, .int (iI x1))]) rfl ?_
  refine A_iloadn C dX7_step_0 1 rfl rfl ?_
  refine A_iconst C dX7_step_1 ?_
  refine A_aloadn C dX7_step_2 0 rfl rfl ?_
  refine G_getI C W ha rfl rfl rfl rfl rfl fX7_step_76 rfl dX7_step_3 (fun z1 ez1 lz1 uz1 => ?_)
  refine A_iconst C dX7_step_6 ?_
  refine A_isub C dX7_step_7 ?_
  refine A_callS C (n := 3) (st := []) (kX7_within  (by omega) (by omega) (by omega)) gX7_step_X7_within rfl (by decide +kernel) ⟨Nat.le_of_ble_eq_true rfl, Nat.le_of_ble_eq_true rfl⟩ rfl (Nat.le_of_ble_eq_true rfl) dX7_step_8 rfl W (fun r2 M3 h4 => ?_)
  obtain ⟨z6, rfl, lz6, uz6, WM3, FM3, xx5⟩ := h4
  have EM3 := Fr.tr E (FM3.mono (c2 := []) rfl)
  refine A_st (st' := [.int (iI z6)]) rfl ?_
  refine A_ifeq C 23 dX7_step_11 (by decide) (by omega) (fun c7 => ?_) (fun c7 => ?_)
  · skip
    refine A_iconst C dX7_step_23 ?_
    exact A_iret C dX7_step_24 ⟨(-1), rfl, by omega, by omega, WM3, EM3⟩
  · skip
    refine A_aloadn C dX7_step_14 0 rfl rfl ?_
    refine G_getR C WM3 ha rfl rfl rfl rfl fX7_step_73 dX7_step_15 (fun b8 hb8 qb8 => ?_)
    refine A_iloadn C dX7_step_18 1 rfl rfl ?_
    refine G_iald C WM3 qb8 rfl rfl (by decide) (fun _ => rfl) (by omega) (by omega) dX7_step_19 (fun z9 ez9 lz9 uz9 => ?_)
    refine A_goto C 24 dX7_step_20 (by decide) ?_
    exact A_iret C dX7_step_24 ⟨z9, rfl, by omega, by omega, WM3, EM3⟩

theorem uX7_count_7 : ∀ w ∈ u_ws RX7 TX7 15, w ∈ wsX7_count := by decide +kernel
theorem uX7_count_4 : ∀ w ∈ u_ws RX4 TX4 2, w ∈ wsX7_count := by decide +kernel
theorem uX7_count_2 : ∀ w ∈ u_ws RX2 TX2 5, w ∈ wsX7_count := by decide +kernel
theorem uX7_count_0 : ∀ w ∈ u_ws RX0 TX0 4, w ∈ wsX7_count := by decide +kernel
theorem fX7_count_21 : Fl RX7 wsX7_count 7 1 21 RX7 TX7 15 := ⟨rfl, by decide, uX7_count_7, by decide +kernel⟩
theorem fX7_count_158 : Fl RX7 wsX7_count 4 1 158 RX4 TX4 2 := ⟨rfl, by decide, uX7_count_4, by decide +kernel⟩
theorem fX7_count_12 : Fl RX7 wsX7_count 7 0 12 RX7 TX7 15 := ⟨rfl, by decide, uX7_count_7, by decide +kernel⟩
theorem fX7_count_232 : Fl RX7 wsX7_count 2 4 232 RX2 TX2 5 := ⟨rfl, by decide, uX7_count_2, by decide +kernel⟩
theorem fX7_count_34 : Fl RX7 wsX7_count 7 3 34 RX7 TX7 15 := ⟨rfl, by decide, uX7_count_7, by decide +kernel⟩
theorem fX7_count_91 : Fl RX7 wsX7_count 0 0 91 RX0 TX0 4 := ⟨rfl, by decide, uX7_count_0, by decide +kernel⟩
set_option maxHeartbeats 4000000 in
theorem kX7_count  {a : Nat} (ha : kd a = 0) {x1 : Int} (hx1 : (-2147483648 : Int) ≤ x1 ∧ x1 ≤ 2147483647) : Ct yX7_count wsX7_count 2 [.ref a, .int (iI x1)] (fun M => WF M) (fun M r M' => ∃ z : Int, r = some (.int (iI z)) ∧ (-2147483648 : Int) ≤ z ∧ z ≤ 2147483647 ∧ WF M' ∧ Fr [] M M') := by
  refine Ct_of (cc := cX7_count) (nL := 2) (rt := (some .int)) (own := RX7) rfl (by decide) rfl (Nat.le_of_ble_eq_true rfl) ?_
  intro p l e s m args below meth c G M0 C W
  have E : Fr [] M0 M0 := Fr.rf
  refine A_lv (lv' := [(0, .ref a), (1, .int (iI x1))]) rfl ?_
  refine A_iloadn C dX7_count_0 1 rfl rfl ?_
  rcases (show (x1 < 0 ∨ 3 < x1) ∨ x1 = 0 ∨ x1 = 1 ∨ x1 = 2 ∨ x1 = 3 by omega) with c1 | c1 | c1 | c1 | c1
  · skip
    refine A_tabOut C 64 dX7_count_1 (by omega) c1 (by decide) ?_
    refine A_iconst C dX7_count_64 ?_
    exact A_iret C dX7_count_65 ⟨(-1), rfl, by omega, by omega, W, E⟩
  · skip
    refine A_tabIn C 0 32 dX7_count_1 c1 (by decide) (by decide) (by decide) rfl (by decide) ?_
    refine A_aloadn C dX7_count_32 0 rfl rfl ?_
    refine G_getR C W ha rfl rfl rfl rfl fX7_count_21 dX7_count_33 (fun b2 hb2 qb2 => ?_)
    refine G_getI C W qb2 rfl rfl rfl rfl rfl fX7_count_158 rfl dX7_count_36 (fun z3 ez3 lz3 uz3 => ?_)
    exact A_iret C dX7_count_39 ⟨z3, rfl, by omega, by omega, W, E⟩
  · skip
    refine A_tabIn C 1 40 dX7_count_1 c1 (by decide) (by decide) (by decide) rfl (by decide) ?_
    refine A_aloadn C dX7_count_40 0 rfl rfl ?_
    refine G_getR C W ha rfl rfl rfl rfl fX7_count_12 dX7_count_41 (fun b4 hb4 qb4 => ?_)
    refine G_getI C W qb4 rfl rfl rfl rfl rfl fX7_count_232 rfl dX7_count_44 (fun z5 ez5 lz5 uz5 => ?_)
    exact A_iret C dX7_count_47 ⟨z5, rfl, by omega, by omega, W, E⟩
  · skip
    refine A_tabIn C 2 48 dX7_count_1 c1 (by decide) (by decide) (by decide) rfl (by decide) ?_
    refine A_aloadn C dX7_count_48 0 rfl rfl ?_
    refine G_getR C W ha rfl rfl rfl rfl fX7_count_34 dX7_count_49 (fun b6 hb6 qb6 => ?_)
    refine G_getI C W qb6 rfl rfl rfl rfl rfl fX7_count_91 rfl dX7_count_52 (fun z7 ez7 lz7 uz7 => ?_)
    exact A_iret C dX7_count_55 ⟨z7, rfl, by omega, by omega, W, E⟩
  · skip
    refine A_tabIn C 3 56 dX7_count_1 c1 (by decide) (by decide) (by decide) rfl (by decide) ?_
    refine A_aloadn C dX7_count_56 0 rfl rfl ?_
    refine G_getR C W ha rfl rfl rfl rfl fX7_count_21 dX7_count_57 (fun b8 hb8 qb8 => ?_)
    refine A_callV C (n := 0) (st := []) (kX4_cellCount qb8) gX7_count_X4_cellCount rfl (by decide +kernel) ⟨Nat.le_of_ble_eq_true rfl, Nat.le_of_ble_eq_true rfl⟩ qb8 rfl rfl rfl rfl (Nat.le_of_ble_eq_true rfl) dX7_count_60 rfl W (fun r9 M10 h11 => ?_)
    obtain ⟨z13, rfl, lz13, uz13, WM10, FM10⟩ := h11
    have EM10 := Fr.tr E (FM10.mono (c2 := []) rfl)
    refine A_st (st' := [.int (iI z13)]) rfl ?_
    exact A_iret C dX7_count_63 ⟨z13, rfl, by omega, by omega, WM10, EM10⟩
end
